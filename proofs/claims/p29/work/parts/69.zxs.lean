theorem wn_F {H B : mzH} {w a f : Nat} {v : Int32} {s : pS} (h : wdX H w s) (e : B = sF H a f v) : wdX B w s := fun n hn => by
  have k : ∀ c i, aZ B c i = aZ H c i := fun c i => by rw [e, aZ_sF]
  rw [k (w + 1) n, k (w + 2) n, k (w + 3) n, k (w + 4) n, k (w + 5) n, k (w + 6) n]
  exact h n hn
set_option maxRecDepth 4000 in
set_option maxHeartbeats 4000000 in
/-- X3.isAheadOf -/
theorem w_36  (a1 : Int32) (ha1 : 0 ≤ a1.toInt ∧ a1.toInt ≤ 59) (a2 : Int32) (a3 : Int32) (H : mzH) (hI : gI SX H) (hJ : JX H) : gCall 36 [.ref 43, .int a1, .int a2, .int a3] H (gRi (fun v H' => H = H' ∧ (0 ≤ v.toInt ∧ v.toInt ≤ 1) ∧ ((v.toInt = 1 ∧ ((odX H a1.toInt.toNat : Int) = a2.toInt ∨ (aZ H 6 (odX H a1.toInt.toNat)).toInt < a3.toInt ∨ ((aZ H 6 (odX H a1.toInt.toNat)).toInt = a3.toInt ∧ (odX H a1.toInt.toNat : Int) < a2.toInt))) ∨ (v.toInt = 0 ∧ ¬ ((odX H a1.toInt.toNat : Int) = a2.toInt ∨ (aZ H 6 (odX H a1.toInt.toNat)).toInt < a3.toInt ∨ ((aZ H 6 (odX H a1.toInt.toNat)).toInt = a3.toInt ∧ (odX H a1.toInt.toNat : Int) < a2.toInt)))))) := by
  refine gG_call [(0, .ref 43), (1, .int a1), (2, .int a2), (3, .int a3)] ⟨rfl, rfl, rfl, rfl, trivial⟩ ?_
  show gG 6 zB_36 (mzBlk zB_36 0) [(0, .ref 43), (1, .int a1), (2, .int a2), (3, .int a3)] [] H 0 0 _
  refine g_aload_n rfl ?_
  refine g_gfr hI sx_43 rfl ?_
  refine g_gfr hI sx_24 rfl ?_
  refine g_gfr hI sx_25 rfl ?_
  refine g_iload_n rfl ?_
  refine g_iaload hI sx_27 rfl (by omega) (fun v45 ev45 lv45 uv45 => ?_)
  have znv45 : odX H a1.toInt.toNat = v45.toInt.toNat := by rw [ev45]; rfl
  refine g_istore (l' := [(0, .ref 43), (1, .int a1), (2, .int a2), (3, .int a3), (4, .int v45)]) rfl rfl ?_
  refine g_aload_n rfl ?_
  refine g_gfr hI sx_43 rfl ?_
  refine g_gfr hI sx_3 rfl ?_
  refine g_iload rfl ?_
  refine g_iaload hI sx_6 rfl (by omega) (fun v46 ev46 lv46 uv46 => ?_)
  have yv46 : v46.toInt = (aZ H 6 (odX H a1.toInt.toNat)).toInt := by rw [znv45, ev46]
  refine g_istore (l' := [(0, .ref 43), (1, .int a1), (2, .int a2), (3, .int a3), (4, .int v45), (5, .int v46)]) rfl rfl ?_
  refine g_iload rfl ?_
  refine g_iload_n rfl ?_
  refine g_if2_eq (fun c47 => ?_) (fun c47 => ?_)
  · refine g_iconst (by decide) (fun v48 kv48 => ?_)
    refine g_goto ?_
    exact g_zret (by omega) ⟨_, rfl, rfl, (by omega), (by omega)⟩
  · refine g_iload rfl ?_
    refine g_iload_n rfl ?_
    refine g_if2_lt (fun c49 => ?_) (fun c49 => ?_)
    · refine g_iconst (by decide) (fun v50 kv50 => ?_)
      refine g_goto ?_
      exact g_zret (by omega) ⟨_, rfl, rfl, (by omega), (by omega)⟩
    · refine g_iload rfl ?_
      refine g_iload_n rfl ?_
      refine g_if2_ne (fun c51 => ?_) (fun c51 => ?_)
      · refine g_iconst (by decide) (fun v52 kv52 => ?_)
        refine g_nop ?_
        exact g_zret (by omega) ⟨_, rfl, rfl, (by omega), (by omega)⟩
      · refine g_iload rfl ?_
        refine g_iload_n rfl ?_
        refine g_if2_ge (fun c53 => ?_) (fun c53 => ?_)
        · refine g_iconst (by decide) (fun v54 kv54 => ?_)
          refine g_nop ?_
          exact g_zret (by omega) ⟨_, rfl, rfl, (by omega), (by omega)⟩
        · refine g_nop ?_
          refine g_iconst (by decide) (fun v55 kv55 => ?_)
          refine g_goto ?_
          exact g_zret (by omega) ⟨_, rfl, rfl, (by omega), (by omega)⟩
set_option maxRecDepth 4000 in
set_option maxHeartbeats 4000000 in
/-- X3.openWindow -/
theorem w_35  (a1 : Int32) (ha1 : 0 ≤ a1.toInt ∧ a1.toInt ≤ 59) (H : mzH) (hI : gI SX H) (hJ : JX H) (hp0 : gdY H) (hp1 : cvX H) (hp2 : a1.toInt < (fZ H 25 2).toInt) : gCall 35 [.ref 43, .int a1] H (gRv (fun H' => gI SX H' ∧ JX H' ∧ fZ H' 1 1 = fZ H 1 1 ∧ kpX H H' ∧ ((fZ H' 43 4).toInt = (wnF (fun n : Nat => wnV H a1.toInt.toNat (n : Int)) 1000).1 ∧ (fZ H' 43 5).toInt = (wnF (fun n : Nat => wnV H a1.toInt.toNat (n : Int)) 1000).2.1 ∧ (fZ H' 43 6).toInt = (wnF (fun n : Nat => wnV H a1.toInt.toNat (n : Int)) 1000).2.2))) := by
  obtain ⟨k1_1, ek1_1⟩ : ∃ z, z = fZ H 1 1 := ⟨_, rfl⟩
  have ik1_1 : k1_1.toInt = (fZ H 1 1).toInt := by rw [← ek1_1]
  have bk1_1 : 0 ≤ k1_1.toInt ∧ k1_1.toInt ≤ 900 := by rw [ek1_1]; exact fZ_of hI sx_1 rfl
  have mkfr : kpX H H := kpX_r
  refine gG_call [(0, .ref 43), (1, .int a1)] ⟨rfl, rfl, trivial⟩ ?_
  show gG 8 zB_35 (mzBlk zB_35 0) [(0, .ref 43), (1, .int a1)] [] H 0 0 _
  have L8670 : ∀ (N : Nat) (v8663 : Int32) (v8664 : Int32) (v8665 : Int32) (v8666 : Int32) (H8667 : mzH), gI SX H8667 → JX H8667 → k1_1 = fZ H8667 1 1 → kpX H H8667 → (0 ≤ v8663.toInt ∧ v8663.toInt ≤ 60) → (0 ≤ v8664.toInt ∧ v8664.toInt ≤ 1) → (0 ≤ v8665.toInt ∧ v8665.toInt ≤ 1) → (0 ≤ v8666.toInt ∧ v8666.toInt ≤ 1000) → wdX H8667 44 (rnH H (hoX H) ((olF v8663.toInt.toNat (odX H)).filter (fun j => decide (¬ (j : Int) = a1.toInt)))) → v8663.toInt ≤ (fZ H 25 2).toInt → (∀ q : Nat, q < v8663.toInt.toNat → ahX H a1.toInt.toNat v8666.toInt q) → ((fZ H8667 43 4).toInt = (wnF (fun n : Nat => wnV H a1.toInt.toNat (n : Int)) v8666.toInt.toNat).1 ∧ (fZ H8667 43 5).toInt = (wnF (fun n : Nat => wnV H a1.toInt.toNat (n : Int)) v8666.toInt.toNat).2.1 ∧ (fZ H8667 43 6).toInt = (wnF (fun n : Nat => wnV H a1.toInt.toNat (n : Int)) v8666.toInt.toNat).2.2) → tkO H a1.toInt.toNat v8663.toInt.toNat v8664.toInt → ((v8665.toInt = 1 ∧ (roX H a1.toInt.toNat 1 = 5 ∨ roX H a1.toInt.toNat 1 = 6)) ∨ (v8665.toInt = 0 ∧ ¬ (roX H a1.toInt.toNat 1 = 5 ∨ roX H a1.toInt.toNat 1 = 6))) → (1000 - v8666.toInt).toNat < N → gG 8 zB_35 (mzBlk zB_35 6) [(0, .ref 43), (1, .int a1), (2, .int v8663), (3, .int v8664), (4, .int v8665), (5, .int v8666)] [] H8667 0 0 (gRv (fun H' => gI SX H' ∧ JX H' ∧ fZ H' 1 1 = fZ H 1 1 ∧ kpX H H' ∧ ((fZ H' 43 4).toInt = (wnF (fun n : Nat => wnV H a1.toInt.toNat (n : Int)) 1000).1 ∧ (fZ H' 43 5).toInt = (wnF (fun n : Nat => wnV H a1.toInt.toNat (n : Int)) 1000).2.1 ∧ (fZ H' 43 6).toInt = (wnF (fun n : Nat => wnV H a1.toInt.toNat (n : Int)) 1000).2.2))) := by
    intro N
    induction N with
    | zero => intro v8663 v8664 v8665 v8666 H8667 hIH8667 hJH8667 e8668 m8669 bv8663 bv8664 bv8665 bv8666 q1 q2 q3 q4 q5 q7 hmL8670; exact absurd hmL8670 (Nat.not_lt_zero _)
    | succ N ihL8670 =>
      intro v8663 v8664 v8665 v8666 H8667 hIH8667 hJH8667 e8668 m8669 bv8663 bv8664 bv8665 bv8666 q1 q2 q3 q4 q5 q7 hmL8670
      refine g_iload rfl ?_
      refine g_sipush (by decide) (fun v8671 kv8671 => ?_)
      refine g_if2_gt (fun c8672 => ?_) (fun c8672 => ?_)
      · exact g_ret ⟨rfl, hIH8667, hJH8667, (e8668.symm.trans ek1_1), m8669, (by have z := q4; rw [show v8666.toInt.toNat = 1000 by omega] at z; exact z)⟩
      · refine g_iload_n rfl ?_
        refine g_istore (l' := [(0, .ref 43), (1, .int a1), (2, .int v8663), (3, .int v8664), (4, .int v8665), (5, .int v8666), (6, .int v8663)]) rfl rfl ?_
        refine g_nop ?_
        have L8677 : ∀ (N : Nat) (v8673 : Int32) (H8674 : mzH), gI SX H8674 → JX H8674 → k1_1 = fZ H8674 1 1 → kpX H H8674 → (0 ≤ v8673.toInt ∧ v8673.toInt ≤ 60) → wdX H8674 44 (rnH H (hoX H) ((olF v8673.toInt.toNat (odX H)).filter (fun j => decide (¬ (j : Int) = a1.toInt)))) → v8673.toInt ≤ (fZ H 25 2).toInt → (∀ q : Nat, q < v8673.toInt.toNat → ahX H a1.toInt.toNat v8666.toInt q) → ((fZ H8674 43 4).toInt = (wnF (fun n : Nat => wnV H a1.toInt.toNat (n : Int)) v8666.toInt.toNat).1 ∧ (fZ H8674 43 5).toInt = (wnF (fun n : Nat => wnV H a1.toInt.toNat (n : Int)) v8666.toInt.toNat).2.1 ∧ (fZ H8674 43 6).toInt = (wnF (fun n : Nat => wnV H a1.toInt.toNat (n : Int)) v8666.toInt.toNat).2.2) → (60 - v8673.toInt).toNat < N → gG 8 zB_35 (mzBlk zB_35 7) [(0, .ref 43), (1, .int a1), (2, .int v8673), (3, .int v8664), (4, .int v8665), (5, .int v8666), (6, .int v8663)] [] H8674 0 0 (gRv (fun H' => gI SX H' ∧ JX H' ∧ fZ H' 1 1 = fZ H 1 1 ∧ kpX H H' ∧ ((fZ H' 43 4).toInt = (wnF (fun n : Nat => wnV H a1.toInt.toNat (n : Int)) 1000).1 ∧ (fZ H' 43 5).toInt = (wnF (fun n : Nat => wnV H a1.toInt.toNat (n : Int)) 1000).2.1 ∧ (fZ H' 43 6).toInt = (wnF (fun n : Nat => wnV H a1.toInt.toNat (n : Int)) 1000).2.2))) := by
          intro N
          induction N with
          | zero => intro v8673 H8674 hIH8674 hJH8674 e8675 m8676 bv8673 q1 q2 q3 q4 hmL8677; exact absurd hmL8677 (Nat.not_lt_zero _)
          | succ N ihL8677 =>
            intro v8673 H8674 hIH8674 hJH8674 e8675 m8676 bv8673 q1 q2 q3 q4 hmL8677
            refine g_iload_n rfl ?_
            refine g_aload_n rfl ?_
            refine g_gfr hIH8674 sx_43 rfl ?_
            refine g_gfr hIH8674 sx_24 rfl ?_
            refine g_gfi hIH8674 sx_25 rfl (fun v8678 ev8678 lv8678 uv8678 => ?_)
            have zv8678 : v8678.toInt = (fZ H 25 2).toInt := by rw [ev8678, (m8676 25 (by decide)).1]
            refine g_if2_ge (fun c8679 => ?_) (fun c8679 => ?_)
            · have wv : wnV H a1.toInt.toNat v8666.toInt = wnO H a1.toInt.toNat v8673.toInt.toNat v8666.toInt := wn_w hp1 q3 (by omega) (Or.inl (by omega))
              have wb := wn_b (w := (fun n : Nat => wnV H a1.toInt.toNat (n : Int))) v8666.toInt.toNat
              refine g_iload_n rfl ?_
              refine g_iload rfl ?_
              refine g_if2_ne (fun c8680 => ?_) (fun c8680 => ?_)
              · refine g_aload_n rfl ?_
                refine g_gfr hIH8674 sx_43 rfl ?_
                refine g_aload_n rfl ?_
                refine g_gfr hIH8674 sx_43 rfl ?_
                refine g_iload_n rfl ?_
                refine g_iload rfl ?_
                refine g_invvi hIH8674 sx_44 rfl rfl rfl rfl (w_94 44 zWo_44 a1 (by omega) v8666 (by omega) H8674 hIH8674 hJH8674 q1 (wf_la (rn_fl hp0 (by omega))) (wf_kd (rn_fl hp0 (by omega))) (by rw [(m8676 7 (by decide)).2]; exact (hp0.2.2 a1.toInt.toNat (by omega)).1)) (fun v8683 H8681 r8682 => ?_)
                obtain ⟨rfl, p8684⟩ := r8682
                have wov8683 : v8683.toInt = wnO H a1.toInt.toNat v8673.toInt.toNat v8666.toInt := wn_o m8676 (by omega) p8684
                refine g_if_ne (fun c8685 => ?_) (fun c8685 => ?_)
                · refine g_iconst (by decide) (fun v8686 kv8686 => ?_)
                  refine g_nop ?_
                  refine g_istore_n (l' := [(0, .ref 43), (1, .int a1), (2, .int v8673), (3, .int v8686), (4, .int v8665), (5, .int v8666), (6, .int v8663)]) rfl rfl ?_
                  refine g_nop ?_
                  refine g_iload_n rfl ?_
                  refine g_if_eq (fun c8687 => ?_) (fun c8687 => ?_)
                  · refine g_iinc (l' := (fun v8688 => [(0, .ref 43), (1, .int a1), (2, .int v8673), (3, .int v8686), (4, .int v8665), (5, .int v8688), (6, .int v8663)])) rfl rfl (by decide) (by omega) (fun _ => rfl) (fun v8688 ev8688 => ?_)
                    refine g_goto ?_
                    refine gG_pick [0, 1, 2, 3, 4, 5] (l' := [(0, .ref 43), (1, .int a1), (2, .int v8673), (3, .int v8686), (4, .int v8665), (5, .int v8688)]) rfl ?_
                    exact ihL8670 v8673 v8686 v8665 v8688 H8674 hIH8674 hJH8674 e8675 m8676 (by omega) (by omega) (by omega) (by omega) q1 (by omega) (fun q hq => ah_mono (q3 q hq) (by omega)) (wn_n q4 (by show ¬ wnV H a1.toInt.toNat ((v8666.toInt.toNat : Nat) : Int) = 0; rw [show ((v8666.toInt.toNat : Nat) : Int) = v8666.toInt by omega, wv]; omega) (by omega) (by omega) (by omega) (by omega)) (tko_1 wov8683 (by omega)) (by omega) (by omega)
                  · exfalso; omega
                · refine g_iconst (by decide) (fun v8689 kv8689 => ?_)
                  refine g_goto ?_
                  refine g_istore_n (l' := [(0, .ref 43), (1, .int a1), (2, .int v8673), (3, .int v8689), (4, .int v8665), (5, .int v8666), (6, .int v8663)]) rfl rfl ?_
                  refine g_nop ?_
                  refine g_iload_n rfl ?_
                  refine g_if_eq (fun c8690 => ?_) (fun c8690 => ?_)
                  · exfalso; omega
                  · refine g_aload_n rfl ?_
                    refine g_aload_n rfl ?_
                    refine g_gfi hIH8674 sx_43 rfl (fun v8691 ev8691 lv8691 uv8691 => ?_)
                    have iev8691 : v8691.toInt = (fZ H8674 43 6).toInt := by rw [← ev8691]
                    refine g_if_ne (fun c8692 => ?_) (fun c8692 => ?_)
                    · refine g_aload_n rfl ?_
                      refine g_gfi hIH8674 sx_43 rfl (fun v8693 ev8693 lv8693 uv8693 => ?_)
                      have iev8693 : v8693.toInt = (fZ H8674 43 4).toInt := by rw [← ev8693]
                      refine g_nop ?_
                      refine g_pfi hIH8674 sx_43 rfl (gz_any _) (fun H8694 eH8694 hIH8694 => ?_)
                      have hJH8694 : JX H8694 := JX_sF eH8694 hJH8674
                      have e8695 : k1_1 = fZ H8694 1 1 := by rw [eH8694, fZ_sF_nc (by omega)]; exact e8675
                      have e8696 : v8691 = fZ H8694 43 6 := by rw [eH8694, fZ_sF_ne (by decide)]; exact ev8691
                      have e8697 : v8693 = fZ H8694 43 4 := by rw [eH8694, fZ_sF_eq hIH8674 sx_43 rfl]
                      have m8698 : kpX H H8694 := kpX_F m8676 eH8694 (by omega)
                      have jj8699_5 : (fZ H8694 43 5).toInt = (fZ H8674 43 5).toInt := by rw [eH8694, fZ_sF_ne (by decide)]
                      have wfH8694 := wn_F q1 eH8694
                      have ie8696 : v8691.toInt = (fZ H8694 43 6).toInt := by rw [← e8696]
                      have ie8697 : v8693.toInt = (fZ H8694 43 4).toInt := by rw [← e8697]
                      refine g_aload_n rfl ?_
                      refine g_iload rfl ?_
                      refine g_pfi hIH8694 sx_43 rfl (gz_any _) (fun H8700 eH8700 hIH8700 => ?_)
                      have hJH8700 : JX H8700 := JX_sF eH8700 hJH8694
                      have e8701 : k1_1 = fZ H8700 1 1 := by rw [eH8700, fZ_sF_nc (by omega)]; exact e8695
                      have e8702 : v8691 = fZ H8700 43 6 := by rw [eH8700, fZ_sF_ne (by decide)]; exact e8696
                      have e8703 : v8693 = fZ H8700 43 4 := by rw [eH8700, fZ_sF_ne (by decide)]; exact e8697
                      have e8704 : v8666 = fZ H8700 43 5 := by rw [eH8700, fZ_sF_eq hIH8694 sx_43 rfl]
                      have m8705 : kpX H H8700 := kpX_F m8698 eH8700 (by omega)
                      have wfH8700 := wn_F wfH8694 eH8700
                      have ie8702 : v8691.toInt = (fZ H8700 43 6).toInt := by rw [← e8702]
                      have ie8703 : v8693.toInt = (fZ H8700 43 4).toInt := by rw [← e8703]
                      have ie8704 : v8666.toInt = (fZ H8700 43 5).toInt := by rw [← e8704]
                      refine g_aload_n rfl ?_
                      refine g_dup rfl ?_
                      refine g_gfk hIH8700 sx_43 rfl e8702 ?_
                      refine g_iconst (by decide) (fun v8706 kv8706 => ?_)
                      refine g_iadd' (fun v8707 ov8707 => ?_)
                      have sv8707 : v8707.toInt = v8691.toInt + v8706.toInt := gz_add_of ov8707 (by omega)
                      refine g_pfi hIH8700 sx_43 rfl (gz_any _) (fun H8708 eH8708 hIH8708 => ?_)
                      have hJH8708 : JX H8708 := JX_sF eH8708 hJH8700
                      have e8709 : k1_1 = fZ H8708 1 1 := by rw [eH8708, fZ_sF_nc (by omega)]; exact e8701
                      have e8710 : v8693 = fZ H8708 43 4 := by rw [eH8708, fZ_sF_ne (by decide)]; exact e8703
                      have e8711 : v8666 = fZ H8708 43 5 := by rw [eH8708, fZ_sF_ne (by decide)]; exact e8704
                      have e8712 : v8707 = fZ H8708 43 6 := by rw [eH8708, fZ_sF_eq hIH8700 sx_43 rfl]
                      have m8713 : kpX H H8708 := kpX_F m8705 eH8708 (by omega)
                      have wfH8708 := wn_F wfH8700 eH8708
                      have ie8710 : v8693.toInt = (fZ H8708 43 4).toInt := by rw [← e8710]
                      have ie8711 : v8666.toInt = (fZ H8708 43 5).toInt := by rw [← e8711]
                      have ie8712 : v8707.toInt = (fZ H8708 43 6).toInt := by rw [← e8712]
                      refine g_nop ?_
                      refine g_iinc (l' := (fun v8714 => [(0, .ref 43), (1, .int a1), (2, .int v8673), (3, .int v8689), (4, .int v8665), (5, .int v8714), (6, .int v8663)])) rfl rfl (by decide) (by omega) (fun _ => rfl) (fun v8714 ev8714 => ?_)
                      refine g_goto ?_
                      refine gG_pick [0, 1, 2, 3, 4, 5] (l' := [(0, .ref 43), (1, .int a1), (2, .int v8673), (3, .int v8689), (4, .int v8665), (5, .int v8714)]) rfl ?_
                      exact ihL8670 v8673 v8689 v8665 v8714 H8708 hIH8708 hJH8708 e8709 m8713 (by omega) (by omega) (by omega) (by omega) wfH8708 (by omega) (fun q hq => ah_mono (q3 q hq) (by omega)) (wn_y q4 (by show wnV H a1.toInt.toNat ((v8666.toInt.toNat : Nat) : Int) = 0; rw [show ((v8666.toInt.toNat : Nat) : Int) = v8666.toInt by omega, wv]; omega) (by omega) (by omega) (by omega) (by omega)) (tko_1 wov8683 (by omega)) (by omega) (by omega)
                    · refine g_iload rfl ?_
                      refine g_goto ?_
                      refine g_pfi hIH8674 sx_43 rfl (gz_any _) (fun H8715 eH8715 hIH8715 => ?_)
                      have hJH8715 : JX H8715 := JX_sF eH8715 hJH8674
                      have e8716 : k1_1 = fZ H8715 1 1 := by rw [eH8715, fZ_sF_nc (by omega)]; exact e8675
                      have e8717 : v8691 = fZ H8715 43 6 := by rw [eH8715, fZ_sF_ne (by decide)]; exact ev8691
                      have e8718 : v8666 = fZ H8715 43 4 := by rw [eH8715, fZ_sF_eq hIH8674 sx_43 rfl]
                      have m8719 : kpX H H8715 := kpX_F m8676 eH8715 (by omega)
                      have jj8720_5 : (fZ H8715 43 5).toInt = (fZ H8674 43 5).toInt := by rw [eH8715, fZ_sF_ne (by decide)]
                      have wfH8715 := wn_F q1 eH8715
                      have ie8717 : v8691.toInt = (fZ H8715 43 6).toInt := by rw [← e8717]
                      have ie8718 : v8666.toInt = (fZ H8715 43 4).toInt := by rw [← e8718]
                      refine g_aload_n rfl ?_
                      refine g_iload rfl ?_
                      refine g_pfi hIH8715 sx_43 rfl (gz_any _) (fun H8721 eH8721 hIH8721 => ?_)
                      have hJH8721 : JX H8721 := JX_sF eH8721 hJH8715
                      have e8722 : k1_1 = fZ H8721 1 1 := by rw [eH8721, fZ_sF_nc (by omega)]; exact e8716
                      have e8723 : v8691 = fZ H8721 43 6 := by rw [eH8721, fZ_sF_ne (by decide)]; exact e8717
                      have e8724 : v8666 = fZ H8721 43 4 := by rw [eH8721, fZ_sF_ne (by decide)]; exact e8718
                      have e8725 : v8666 = fZ H8721 43 5 := by rw [eH8721, fZ_sF_eq hIH8715 sx_43 rfl]
                      have m8726 : kpX H H8721 := kpX_F m8719 eH8721 (by omega)
                      have wfH8721 := wn_F wfH8715 eH8721
                      have ie8723 : v8691.toInt = (fZ H8721 43 6).toInt := by rw [← e8723]
                      have ie8724 : v8666.toInt = (fZ H8721 43 4).toInt := by rw [← e8724]
                      have ie8725 : v8666.toInt = (fZ H8721 43 5).toInt := by rw [← e8725]
                      refine g_aload_n rfl ?_
                      refine g_dup rfl ?_
                      refine g_gfk hIH8721 sx_43 rfl e8723 ?_
                      refine g_iconst (by decide) (fun v8727 kv8727 => ?_)
                      refine g_iadd (by omega) (fun v8728 ev8728 => ?_)
                      refine g_pfi hIH8721 sx_43 rfl (gz_any _) (fun H8729 eH8729 hIH8729 => ?_)
                      have hJH8729 : JX H8729 := JX_sF eH8729 hJH8721
                      have e8730 : k1_1 = fZ H8729 1 1 := by rw [eH8729, fZ_sF_nc (by omega)]; exact e8722
                      have e8731 : v8666 = fZ H8729 43 4 := by rw [eH8729, fZ_sF_ne (by decide)]; exact e8724
                      have e8732 : v8666 = fZ H8729 43 5 := by rw [eH8729, fZ_sF_ne (by decide)]; exact e8725
                      have e8733 : v8728 = fZ H8729 43 6 := by rw [eH8729, fZ_sF_eq hIH8721 sx_43 rfl]
                      have m8734 : kpX H H8729 := kpX_F m8726 eH8729 (by omega)
                      have wfH8729 := wn_F wfH8721 eH8729
                      have ie8731 : v8666.toInt = (fZ H8729 43 4).toInt := by rw [← e8731]
                      have ie8732 : v8666.toInt = (fZ H8729 43 5).toInt := by rw [← e8732]
                      have ie8733 : v8728.toInt = (fZ H8729 43 6).toInt := by rw [← e8733]
                      refine g_nop ?_
                      refine g_iinc (l' := (fun v8735 => [(0, .ref 43), (1, .int a1), (2, .int v8673), (3, .int v8689), (4, .int v8665), (5, .int v8735), (6, .int v8663)])) rfl rfl (by decide) (by omega) (fun _ => rfl) (fun v8735 ev8735 => ?_)
                      refine g_goto ?_
                      refine gG_pick [0, 1, 2, 3, 4, 5] (l' := [(0, .ref 43), (1, .int a1), (2, .int v8673), (3, .int v8689), (4, .int v8665), (5, .int v8735)]) rfl ?_
                      exact ihL8670 v8673 v8689 v8665 v8735 H8729 hIH8729 hJH8729 e8730 m8734 (by omega) (by omega) (by omega) (by omega) wfH8729 (by omega) (fun q hq => ah_mono (q3 q hq) (by omega)) (wn_y q4 (by show wnV H a1.toInt.toNat ((v8666.toInt.toNat : Nat) : Int) = 0; rw [show ((v8666.toInt.toNat : Nat) : Int) = v8666.toInt by omega, wv]; omega) (by omega) (by omega) (by omega) (by omega)) (tko_1 wov8683 (by omega)) (by omega) (by omega)
              · refine g_iload rfl ?_
                refine g_if_eq (fun c8736 => ?_) (fun c8736 => ?_)
                · have tv := tko_v (p2 := v8673.toInt.toNat) (h := v8666.toInt) q5 (by omega) (by omega)
                  refine g_iload_n rfl ?_
                  refine g_if_eq (fun c8737 => ?_) (fun c8737 => ?_)
                  · refine g_iinc (l' := (fun v8738 => [(0, .ref 43), (1, .int a1), (2, .int v8673), (3, .int v8664), (4, .int v8665), (5, .int v8738), (6, .int v8663)])) rfl rfl (by decide) (by omega) (fun _ => rfl) (fun v8738 ev8738 => ?_)
                    refine g_goto ?_
                    refine gG_pick [0, 1, 2, 3, 4, 5] (l' := [(0, .ref 43), (1, .int a1), (2, .int v8673), (3, .int v8664), (4, .int v8665), (5, .int v8738)]) rfl ?_
                    exact ihL8670 v8673 v8664 v8665 v8738 H8674 hIH8674 hJH8674 e8675 m8676 (by omega) (by omega) (by omega) (by omega) q1 (by omega) (fun q hq => ah_mono (q3 q hq) (by omega)) (wn_n q4 (by show ¬ wnV H a1.toInt.toNat ((v8666.toInt.toNat : Nat) : Int) = 0; rw [show ((v8666.toInt.toNat : Nat) : Int) = v8666.toInt by omega, wv]; omega) (by omega) (by omega) (by omega) (by omega)) (tko_n q5 (by omega) rfl) (by omega) (by omega)
                  · refine g_aload_n rfl ?_
                    refine g_aload_n rfl ?_
                    refine g_gfi hIH8674 sx_43 rfl (fun v8739 ev8739 lv8739 uv8739 => ?_)
                    have iev8739 : v8739.toInt = (fZ H8674 43 6).toInt := by rw [← ev8739]
                    refine g_if_ne (fun c8740 => ?_) (fun c8740 => ?_)
                    · refine g_aload_n rfl ?_
                      refine g_gfi hIH8674 sx_43 rfl (fun v8741 ev8741 lv8741 uv8741 => ?_)
                      have iev8741 : v8741.toInt = (fZ H8674 43 4).toInt := by rw [← ev8741]
                      refine g_nop ?_
                      refine g_pfi hIH8674 sx_43 rfl (gz_any _) (fun H8742 eH8742 hIH8742 => ?_)
                      have hJH8742 : JX H8742 := JX_sF eH8742 hJH8674
                      have e8743 : k1_1 = fZ H8742 1 1 := by rw [eH8742, fZ_sF_nc (by omega)]; exact e8675
                      have e8744 : v8739 = fZ H8742 43 6 := by rw [eH8742, fZ_sF_ne (by decide)]; exact ev8739
                      have e8745 : v8741 = fZ H8742 43 4 := by rw [eH8742, fZ_sF_eq hIH8674 sx_43 rfl]
                      have m8746 : kpX H H8742 := kpX_F m8676 eH8742 (by omega)
                      have jj8747_5 : (fZ H8742 43 5).toInt = (fZ H8674 43 5).toInt := by rw [eH8742, fZ_sF_ne (by decide)]
                      have wfH8742 := wn_F q1 eH8742
                      have ie8744 : v8739.toInt = (fZ H8742 43 6).toInt := by rw [← e8744]
                      have ie8745 : v8741.toInt = (fZ H8742 43 4).toInt := by rw [← e8745]
                      refine g_aload_n rfl ?_
                      refine g_iload rfl ?_
                      refine g_pfi hIH8742 sx_43 rfl (gz_any _) (fun H8748 eH8748 hIH8748 => ?_)
                      have hJH8748 : JX H8748 := JX_sF eH8748 hJH8742
                      have e8749 : k1_1 = fZ H8748 1 1 := by rw [eH8748, fZ_sF_nc (by omega)]; exact e8743
                      have e8750 : v8739 = fZ H8748 43 6 := by rw [eH8748, fZ_sF_ne (by decide)]; exact e8744
                      have e8751 : v8741 = fZ H8748 43 4 := by rw [eH8748, fZ_sF_ne (by decide)]; exact e8745
                      have e8752 : v8666 = fZ H8748 43 5 := by rw [eH8748, fZ_sF_eq hIH8742 sx_43 rfl]
                      have m8753 : kpX H H8748 := kpX_F m8746 eH8748 (by omega)
                      have wfH8748 := wn_F wfH8742 eH8748
                      have ie8750 : v8739.toInt = (fZ H8748 43 6).toInt := by rw [← e8750]
                      have ie8751 : v8741.toInt = (fZ H8748 43 4).toInt := by rw [← e8751]
                      have ie8752 : v8666.toInt = (fZ H8748 43 5).toInt := by rw [← e8752]
                      refine g_aload_n rfl ?_
                      refine g_dup rfl ?_
                      refine g_gfk hIH8748 sx_43 rfl e8750 ?_
                      refine g_iconst (by decide) (fun v8754 kv8754 => ?_)
                      refine g_iadd' (fun v8755 ov8755 => ?_)
                      have sv8755 : v8755.toInt = v8739.toInt + v8754.toInt := gz_add_of ov8755 (by omega)
                      refine g_pfi hIH8748 sx_43 rfl (gz_any _) (fun H8756 eH8756 hIH8756 => ?_)
                      have hJH8756 : JX H8756 := JX_sF eH8756 hJH8748
                      have e8757 : k1_1 = fZ H8756 1 1 := by rw [eH8756, fZ_sF_nc (by omega)]; exact e8749
                      have e8758 : v8741 = fZ H8756 43 4 := by rw [eH8756, fZ_sF_ne (by decide)]; exact e8751
                      have e8759 : v8666 = fZ H8756 43 5 := by rw [eH8756, fZ_sF_ne (by decide)]; exact e8752
                      have e8760 : v8755 = fZ H8756 43 6 := by rw [eH8756, fZ_sF_eq hIH8748 sx_43 rfl]
                      have m8761 : kpX H H8756 := kpX_F m8753 eH8756 (by omega)
                      have wfH8756 := wn_F wfH8748 eH8756
                      have ie8758 : v8741.toInt = (fZ H8756 43 4).toInt := by rw [← e8758]
                      have ie8759 : v8666.toInt = (fZ H8756 43 5).toInt := by rw [← e8759]
                      have ie8760 : v8755.toInt = (fZ H8756 43 6).toInt := by rw [← e8760]
                      refine g_nop ?_
                      refine g_iinc (l' := (fun v8762 => [(0, .ref 43), (1, .int a1), (2, .int v8673), (3, .int v8664), (4, .int v8665), (5, .int v8762), (6, .int v8663)])) rfl rfl (by decide) (by omega) (fun _ => rfl) (fun v8762 ev8762 => ?_)
                      refine g_goto ?_
                      refine gG_pick [0, 1, 2, 3, 4, 5] (l' := [(0, .ref 43), (1, .int a1), (2, .int v8673), (3, .int v8664), (4, .int v8665), (5, .int v8762)]) rfl ?_
                      exact ihL8670 v8673 v8664 v8665 v8762 H8756 hIH8756 hJH8756 e8757 m8761 (by omega) (by omega) (by omega) (by omega) wfH8756 (by omega) (fun q hq => ah_mono (q3 q hq) (by omega)) (wn_y q4 (by show wnV H a1.toInt.toNat ((v8666.toInt.toNat : Nat) : Int) = 0; rw [show ((v8666.toInt.toNat : Nat) : Int) = v8666.toInt by omega, wv]; omega) (by omega) (by omega) (by omega) (by omega)) (tko_n q5 (by omega) rfl) (by omega) (by omega)
                    · refine g_iload rfl ?_
                      refine g_goto ?_
                      refine g_pfi hIH8674 sx_43 rfl (gz_any _) (fun H8763 eH8763 hIH8763 => ?_)
                      have hJH8763 : JX H8763 := JX_sF eH8763 hJH8674
                      have e8764 : k1_1 = fZ H8763 1 1 := by rw [eH8763, fZ_sF_nc (by omega)]; exact e8675
                      have e8765 : v8739 = fZ H8763 43 6 := by rw [eH8763, fZ_sF_ne (by decide)]; exact ev8739
                      have e8766 : v8666 = fZ H8763 43 4 := by rw [eH8763, fZ_sF_eq hIH8674 sx_43 rfl]
                      have m8767 : kpX H H8763 := kpX_F m8676 eH8763 (by omega)
                      have jj8768_5 : (fZ H8763 43 5).toInt = (fZ H8674 43 5).toInt := by rw [eH8763, fZ_sF_ne (by decide)]
                      have wfH8763 := wn_F q1 eH8763
                      have ie8765 : v8739.toInt = (fZ H8763 43 6).toInt := by rw [← e8765]
                      have ie8766 : v8666.toInt = (fZ H8763 43 4).toInt := by rw [← e8766]
                      refine g_aload_n rfl ?_
                      refine g_iload rfl ?_
                      refine g_pfi hIH8763 sx_43 rfl (gz_any _) (fun H8769 eH8769 hIH8769 => ?_)
                      have hJH8769 : JX H8769 := JX_sF eH8769 hJH8763
                      have e8770 : k1_1 = fZ H8769 1 1 := by rw [eH8769, fZ_sF_nc (by omega)]; exact e8764
                      have e8771 : v8739 = fZ H8769 43 6 := by rw [eH8769, fZ_sF_ne (by decide)]; exact e8765
                      have e8772 : v8666 = fZ H8769 43 4 := by rw [eH8769, fZ_sF_ne (by decide)]; exact e8766
                      have e8773 : v8666 = fZ H8769 43 5 := by rw [eH8769, fZ_sF_eq hIH8763 sx_43 rfl]
                      have m8774 : kpX H H8769 := kpX_F m8767 eH8769 (by omega)
                      have wfH8769 := wn_F wfH8763 eH8769
                      have ie8771 : v8739.toInt = (fZ H8769 43 6).toInt := by rw [← e8771]
                      have ie8772 : v8666.toInt = (fZ H8769 43 4).toInt := by rw [← e8772]
                      have ie8773 : v8666.toInt = (fZ H8769 43 5).toInt := by rw [← e8773]
                      refine g_aload_n rfl ?_
                      refine g_dup rfl ?_
                      refine g_gfk hIH8769 sx_43 rfl e8771 ?_
                      refine g_iconst (by decide) (fun v8775 kv8775 => ?_)
                      refine g_iadd (by omega) (fun v8776 ev8776 => ?_)
                      refine g_pfi hIH8769 sx_43 rfl (gz_any _) (fun H8777 eH8777 hIH8777 => ?_)
                      have hJH8777 : JX H8777 := JX_sF eH8777 hJH8769
                      have e8778 : k1_1 = fZ H8777 1 1 := by rw [eH8777, fZ_sF_nc (by omega)]; exact e8770
                      have e8779 : v8666 = fZ H8777 43 4 := by rw [eH8777, fZ_sF_ne (by decide)]; exact e8772
                      have e8780 : v8666 = fZ H8777 43 5 := by rw [eH8777, fZ_sF_ne (by decide)]; exact e8773
                      have e8781 : v8776 = fZ H8777 43 6 := by rw [eH8777, fZ_sF_eq hIH8769 sx_43 rfl]
                      have m8782 : kpX H H8777 := kpX_F m8774 eH8777 (by omega)
                      have wfH8777 := wn_F wfH8769 eH8777
                      have ie8779 : v8666.toInt = (fZ H8777 43 4).toInt := by rw [← e8779]
                      have ie8780 : v8666.toInt = (fZ H8777 43 5).toInt := by rw [← e8780]
                      have ie8781 : v8776.toInt = (fZ H8777 43 6).toInt := by rw [← e8781]
                      refine g_nop ?_
                      refine g_iinc (l' := (fun v8783 => [(0, .ref 43), (1, .int a1), (2, .int v8673), (3, .int v8664), (4, .int v8665), (5, .int v8783), (6, .int v8663)])) rfl rfl (by decide) (by omega) (fun _ => rfl) (fun v8783 ev8783 => ?_)
                      refine g_goto ?_
                      refine gG_pick [0, 1, 2, 3, 4, 5] (l' := [(0, .ref 43), (1, .int a1), (2, .int v8673), (3, .int v8664), (4, .int v8665), (5, .int v8783)]) rfl ?_
                      exact ihL8670 v8673 v8664 v8665 v8783 H8777 hIH8777 hJH8777 e8778 m8782 (by omega) (by omega) (by omega) (by omega) wfH8777 (by omega) (fun q hq => ah_mono (q3 q hq) (by omega)) (wn_y q4 (by show wnV H a1.toInt.toNat ((v8666.toInt.toNat : Nat) : Int) = 0; rw [show ((v8666.toInt.toNat : Nat) : Int) = v8666.toInt by omega, wv]; omega) (by omega) (by omega) (by omega) (by omega)) (tko_n q5 (by omega) rfl) (by omega) (by omega)
                · refine g_nop ?_
                  refine g_aload_n rfl ?_
                  refine g_gfr hIH8674 sx_43 rfl ?_
                  refine g_aload_n rfl ?_
                  refine g_gfr hIH8674 sx_43 rfl ?_
                  refine g_iload_n rfl ?_
                  refine g_iload rfl ?_
                  refine g_invvi hIH8674 sx_44 rfl rfl rfl rfl (w_94 44 zWo_44 a1 (by omega) v8666 (by omega) H8674 hIH8674 hJH8674 q1 (wf_la (rn_fl hp0 (by omega))) (wf_kd (rn_fl hp0 (by omega))) (by rw [(m8676 7 (by decide)).2]; exact (hp0.2.2 a1.toInt.toNat (by omega)).1)) (fun v8786 H8784 r8785 => ?_)
                  obtain ⟨rfl, p8787⟩ := r8785
                  have wov8786 : v8786.toInt = wnO H a1.toInt.toNat v8673.toInt.toNat v8666.toInt := wn_o m8676 (by omega) p8787
                  refine g_if_ne (fun c8788 => ?_) (fun c8788 => ?_)
                  · refine g_iconst (by decide) (fun v8789 kv8789 => ?_)
                    refine g_nop ?_
                    refine g_istore_n (l' := [(0, .ref 43), (1, .int a1), (2, .int v8673), (3, .int v8789), (4, .int v8665), (5, .int v8666), (6, .int v8663)]) rfl rfl ?_
                    refine g_nop ?_
                    refine g_iload_n rfl ?_
                    refine g_if_eq (fun c8790 => ?_) (fun c8790 => ?_)
                    · refine g_iinc (l' := (fun v8791 => [(0, .ref 43), (1, .int a1), (2, .int v8673), (3, .int v8789), (4, .int v8665), (5, .int v8791), (6, .int v8663)])) rfl rfl (by decide) (by omega) (fun _ => rfl) (fun v8791 ev8791 => ?_)
                      refine g_goto ?_
                      refine gG_pick [0, 1, 2, 3, 4, 5] (l' := [(0, .ref 43), (1, .int a1), (2, .int v8673), (3, .int v8789), (4, .int v8665), (5, .int v8791)]) rfl ?_
                      exact ihL8670 v8673 v8789 v8665 v8791 H8674 hIH8674 hJH8674 e8675 m8676 (by omega) (by omega) (by omega) (by omega) q1 (by omega) (fun q hq => ah_mono (q3 q hq) (by omega)) (wn_n q4 (by show ¬ wnV H a1.toInt.toNat ((v8666.toInt.toNat : Nat) : Int) = 0; rw [show ((v8666.toInt.toNat : Nat) : Int) = v8666.toInt by omega, wv]; omega) (by omega) (by omega) (by omega) (by omega)) (tko_1 wov8786 (by omega)) (by omega) (by omega)
                    · exfalso; omega
                  · refine g_iconst (by decide) (fun v8792 kv8792 => ?_)
                    refine g_goto ?_
                    refine g_istore_n (l' := [(0, .ref 43), (1, .int a1), (2, .int v8673), (3, .int v8792), (4, .int v8665), (5, .int v8666), (6, .int v8663)]) rfl rfl ?_
                    refine g_nop ?_
                    refine g_iload_n rfl ?_
                    refine g_if_eq (fun c8793 => ?_) (fun c8793 => ?_)
                    · exfalso; omega
                    · refine g_aload_n rfl ?_
                      refine g_aload_n rfl ?_
                      refine g_gfi hIH8674 sx_43 rfl (fun v8794 ev8794 lv8794 uv8794 => ?_)
                      have iev8794 : v8794.toInt = (fZ H8674 43 6).toInt := by rw [← ev8794]
                      refine g_if_ne (fun c8795 => ?_) (fun c8795 => ?_)
                      · refine g_aload_n rfl ?_
                        refine g_gfi hIH8674 sx_43 rfl (fun v8796 ev8796 lv8796 uv8796 => ?_)
                        have iev8796 : v8796.toInt = (fZ H8674 43 4).toInt := by rw [← ev8796]
                        refine g_nop ?_
                        refine g_pfi hIH8674 sx_43 rfl (gz_any _) (fun H8797 eH8797 hIH8797 => ?_)
                        have hJH8797 : JX H8797 := JX_sF eH8797 hJH8674
                        have e8798 : k1_1 = fZ H8797 1 1 := by rw [eH8797, fZ_sF_nc (by omega)]; exact e8675
                        have e8799 : v8794 = fZ H8797 43 6 := by rw [eH8797, fZ_sF_ne (by decide)]; exact ev8794
                        have e8800 : v8796 = fZ H8797 43 4 := by rw [eH8797, fZ_sF_eq hIH8674 sx_43 rfl]
                        have m8801 : kpX H H8797 := kpX_F m8676 eH8797 (by omega)
                        have jj8802_5 : (fZ H8797 43 5).toInt = (fZ H8674 43 5).toInt := by rw [eH8797, fZ_sF_ne (by decide)]
                        have wfH8797 := wn_F q1 eH8797
                        have ie8799 : v8794.toInt = (fZ H8797 43 6).toInt := by rw [← e8799]
                        have ie8800 : v8796.toInt = (fZ H8797 43 4).toInt := by rw [← e8800]
                        refine g_aload_n rfl ?_
                        refine g_iload rfl ?_
                        refine g_pfi hIH8797 sx_43 rfl (gz_any _) (fun H8803 eH8803 hIH8803 => ?_)
                        have hJH8803 : JX H8803 := JX_sF eH8803 hJH8797
                        have e8804 : k1_1 = fZ H8803 1 1 := by rw [eH8803, fZ_sF_nc (by omega)]; exact e8798
                        have e8805 : v8794 = fZ H8803 43 6 := by rw [eH8803, fZ_sF_ne (by decide)]; exact e8799
                        have e8806 : v8796 = fZ H8803 43 4 := by rw [eH8803, fZ_sF_ne (by decide)]; exact e8800
                        have e8807 : v8666 = fZ H8803 43 5 := by rw [eH8803, fZ_sF_eq hIH8797 sx_43 rfl]
                        have m8808 : kpX H H8803 := kpX_F m8801 eH8803 (by omega)
                        have wfH8803 := wn_F wfH8797 eH8803
                        have ie8805 : v8794.toInt = (fZ H8803 43 6).toInt := by rw [← e8805]
                        have ie8806 : v8796.toInt = (fZ H8803 43 4).toInt := by rw [← e8806]
                        have ie8807 : v8666.toInt = (fZ H8803 43 5).toInt := by rw [← e8807]
                        refine g_aload_n rfl ?_
                        refine g_dup rfl ?_
                        refine g_gfk hIH8803 sx_43 rfl e8805 ?_
                        refine g_iconst (by decide) (fun v8809 kv8809 => ?_)
                        refine g_iadd' (fun v8810 ov8810 => ?_)
                        have sv8810 : v8810.toInt = v8794.toInt + v8809.toInt := gz_add_of ov8810 (by omega)
                        refine g_pfi hIH8803 sx_43 rfl (gz_any _) (fun H8811 eH8811 hIH8811 => ?_)
                        have hJH8811 : JX H8811 := JX_sF eH8811 hJH8803
                        have e8812 : k1_1 = fZ H8811 1 1 := by rw [eH8811, fZ_sF_nc (by omega)]; exact e8804
                        have e8813 : v8796 = fZ H8811 43 4 := by rw [eH8811, fZ_sF_ne (by decide)]; exact e8806
                        have e8814 : v8666 = fZ H8811 43 5 := by rw [eH8811, fZ_sF_ne (by decide)]; exact e8807
                        have e8815 : v8810 = fZ H8811 43 6 := by rw [eH8811, fZ_sF_eq hIH8803 sx_43 rfl]
                        have m8816 : kpX H H8811 := kpX_F m8808 eH8811 (by omega)
                        have wfH8811 := wn_F wfH8803 eH8811
                        have ie8813 : v8796.toInt = (fZ H8811 43 4).toInt := by rw [← e8813]
                        have ie8814 : v8666.toInt = (fZ H8811 43 5).toInt := by rw [← e8814]
                        have ie8815 : v8810.toInt = (fZ H8811 43 6).toInt := by rw [← e8815]
                        refine g_nop ?_
                        refine g_iinc (l' := (fun v8817 => [(0, .ref 43), (1, .int a1), (2, .int v8673), (3, .int v8792), (4, .int v8665), (5, .int v8817), (6, .int v8663)])) rfl rfl (by decide) (by omega) (fun _ => rfl) (fun v8817 ev8817 => ?_)
                        refine g_goto ?_
                        refine gG_pick [0, 1, 2, 3, 4, 5] (l' := [(0, .ref 43), (1, .int a1), (2, .int v8673), (3, .int v8792), (4, .int v8665), (5, .int v8817)]) rfl ?_
                        exact ihL8670 v8673 v8792 v8665 v8817 H8811 hIH8811 hJH8811 e8812 m8816 (by omega) (by omega) (by omega) (by omega) wfH8811 (by omega) (fun q hq => ah_mono (q3 q hq) (by omega)) (wn_y q4 (by show wnV H a1.toInt.toNat ((v8666.toInt.toNat : Nat) : Int) = 0; rw [show ((v8666.toInt.toNat : Nat) : Int) = v8666.toInt by omega, wv]; omega) (by omega) (by omega) (by omega) (by omega)) (tko_1 wov8786 (by omega)) (by omega) (by omega)
                      · refine g_iload rfl ?_
                        refine g_goto ?_
                        refine g_pfi hIH8674 sx_43 rfl (gz_any _) (fun H8818 eH8818 hIH8818 => ?_)
                        have hJH8818 : JX H8818 := JX_sF eH8818 hJH8674
                        have e8819 : k1_1 = fZ H8818 1 1 := by rw [eH8818, fZ_sF_nc (by omega)]; exact e8675
                        have e8820 : v8794 = fZ H8818 43 6 := by rw [eH8818, fZ_sF_ne (by decide)]; exact ev8794
                        have e8821 : v8666 = fZ H8818 43 4 := by rw [eH8818, fZ_sF_eq hIH8674 sx_43 rfl]
                        have m8822 : kpX H H8818 := kpX_F m8676 eH8818 (by omega)
                        have jj8823_5 : (fZ H8818 43 5).toInt = (fZ H8674 43 5).toInt := by rw [eH8818, fZ_sF_ne (by decide)]
                        have wfH8818 := wn_F q1 eH8818
                        have ie8820 : v8794.toInt = (fZ H8818 43 6).toInt := by rw [← e8820]
                        have ie8821 : v8666.toInt = (fZ H8818 43 4).toInt := by rw [← e8821]
                        refine g_aload_n rfl ?_
                        refine g_iload rfl ?_
                        refine g_pfi hIH8818 sx_43 rfl (gz_any _) (fun H8824 eH8824 hIH8824 => ?_)
                        have hJH8824 : JX H8824 := JX_sF eH8824 hJH8818
                        have e8825 : k1_1 = fZ H8824 1 1 := by rw [eH8824, fZ_sF_nc (by omega)]; exact e8819
                        have e8826 : v8794 = fZ H8824 43 6 := by rw [eH8824, fZ_sF_ne (by decide)]; exact e8820
                        have e8827 : v8666 = fZ H8824 43 4 := by rw [eH8824, fZ_sF_ne (by decide)]; exact e8821
                        have e8828 : v8666 = fZ H8824 43 5 := by rw [eH8824, fZ_sF_eq hIH8818 sx_43 rfl]
                        have m8829 : kpX H H8824 := kpX_F m8822 eH8824 (by omega)
                        have wfH8824 := wn_F wfH8818 eH8824
                        have ie8826 : v8794.toInt = (fZ H8824 43 6).toInt := by rw [← e8826]
                        have ie8827 : v8666.toInt = (fZ H8824 43 4).toInt := by rw [← e8827]
                        have ie8828 : v8666.toInt = (fZ H8824 43 5).toInt := by rw [← e8828]
                        refine g_aload_n rfl ?_
                        refine g_dup rfl ?_
                        refine g_gfk hIH8824 sx_43 rfl e8826 ?_
                        refine g_iconst (by decide) (fun v8830 kv8830 => ?_)
                        refine g_iadd (by omega) (fun v8831 ev8831 => ?_)
                        refine g_pfi hIH8824 sx_43 rfl (gz_any _) (fun H8832 eH8832 hIH8832 => ?_)
                        have hJH8832 : JX H8832 := JX_sF eH8832 hJH8824
                        have e8833 : k1_1 = fZ H8832 1 1 := by rw [eH8832, fZ_sF_nc (by omega)]; exact e8825
                        have e8834 : v8666 = fZ H8832 43 4 := by rw [eH8832, fZ_sF_ne (by decide)]; exact e8827
                        have e8835 : v8666 = fZ H8832 43 5 := by rw [eH8832, fZ_sF_ne (by decide)]; exact e8828
                        have e8836 : v8831 = fZ H8832 43 6 := by rw [eH8832, fZ_sF_eq hIH8824 sx_43 rfl]
                        have m8837 : kpX H H8832 := kpX_F m8829 eH8832 (by omega)
                        have wfH8832 := wn_F wfH8824 eH8832
                        have ie8834 : v8666.toInt = (fZ H8832 43 4).toInt := by rw [← e8834]
                        have ie8835 : v8666.toInt = (fZ H8832 43 5).toInt := by rw [← e8835]
                        have ie8836 : v8831.toInt = (fZ H8832 43 6).toInt := by rw [← e8836]
                        refine g_nop ?_
                        refine g_iinc (l' := (fun v8838 => [(0, .ref 43), (1, .int a1), (2, .int v8673), (3, .int v8792), (4, .int v8665), (5, .int v8838), (6, .int v8663)])) rfl rfl (by decide) (by omega) (fun _ => rfl) (fun v8838 ev8838 => ?_)
                        refine g_goto ?_
                        refine gG_pick [0, 1, 2, 3, 4, 5] (l' := [(0, .ref 43), (1, .int a1), (2, .int v8673), (3, .int v8792), (4, .int v8665), (5, .int v8838)]) rfl ?_
                        exact ihL8670 v8673 v8792 v8665 v8838 H8832 hIH8832 hJH8832 e8833 m8837 (by omega) (by omega) (by omega) (by omega) wfH8832 (by omega) (fun q hq => ah_mono (q3 q hq) (by omega)) (wn_y q4 (by show wnV H a1.toInt.toNat ((v8666.toInt.toNat : Nat) : Int) = 0; rw [show ((v8666.toInt.toNat : Nat) : Int) = v8666.toInt by omega, wv]; omega) (by omega) (by omega) (by omega) (by omega)) (tko_1 wov8786 (by omega)) (by omega) (by omega)
            · refine g_aload_n rfl ?_
              refine g_iload_n rfl ?_
              refine g_iload_n rfl ?_
              refine g_iload rfl ?_
              refine g_invvi hIH8674 sx_43 rfl rfl rfl rfl (w_36 v8673 (by omega) a1 v8666 H8674 hIH8674 hJH8674) (fun v8841 H8839 r8840 => ?_)
              obtain ⟨rfl, bv8841, p8842⟩ := r8840
              have ahv8841 := ah_of m8676 hp0 (by omega) p8842
              refine g_if_eq (fun c8843 => ?_) (fun c8843 => ?_)
              · have wv : wnV H a1.toInt.toNat v8666.toInt = wnO H a1.toInt.toNat v8673.toInt.toNat v8666.toInt := wn_w hp1 q3 (by omega) (Or.inr (ahv8841.elim (fun z => absurd z.1 (by omega)) (fun z => z.2)))
                have wb := wn_b (w := (fun n : Nat => wnV H a1.toInt.toNat (n : Int))) v8666.toInt.toNat
                refine g_iload_n rfl ?_
                refine g_iload rfl ?_
                refine g_if2_ne (fun c8844 => ?_) (fun c8844 => ?_)
                · refine g_aload_n rfl ?_
                  refine g_gfr hIH8674 sx_43 rfl ?_
                  refine g_aload_n rfl ?_
                  refine g_gfr hIH8674 sx_43 rfl ?_
                  refine g_iload_n rfl ?_
                  refine g_iload rfl ?_
                  refine g_invvi hIH8674 sx_44 rfl rfl rfl rfl (w_94 44 zWo_44 a1 (by omega) v8666 (by omega) H8674 hIH8674 hJH8674 q1 (wf_la (rn_fl hp0 (by omega))) (wf_kd (rn_fl hp0 (by omega))) (by rw [(m8676 7 (by decide)).2]; exact (hp0.2.2 a1.toInt.toNat (by omega)).1)) (fun v8847 H8845 r8846 => ?_)
                  obtain ⟨rfl, p8848⟩ := r8846
                  have wov8847 : v8847.toInt = wnO H a1.toInt.toNat v8673.toInt.toNat v8666.toInt := wn_o m8676 (by omega) p8848
                  refine g_if_ne (fun c8849 => ?_) (fun c8849 => ?_)
                  · refine g_iconst (by decide) (fun v8850 kv8850 => ?_)
                    refine g_nop ?_
                    refine g_istore_n (l' := [(0, .ref 43), (1, .int a1), (2, .int v8673), (3, .int v8850), (4, .int v8665), (5, .int v8666), (6, .int v8663)]) rfl rfl ?_
                    refine g_nop ?_
                    refine g_iload_n rfl ?_
                    refine g_if_eq (fun c8851 => ?_) (fun c8851 => ?_)
                    · refine g_iinc (l' := (fun v8852 => [(0, .ref 43), (1, .int a1), (2, .int v8673), (3, .int v8850), (4, .int v8665), (5, .int v8852), (6, .int v8663)])) rfl rfl (by decide) (by omega) (fun _ => rfl) (fun v8852 ev8852 => ?_)
                      refine g_goto ?_
                      refine gG_pick [0, 1, 2, 3, 4, 5] (l' := [(0, .ref 43), (1, .int a1), (2, .int v8673), (3, .int v8850), (4, .int v8665), (5, .int v8852)]) rfl ?_
                      exact ihL8670 v8673 v8850 v8665 v8852 H8674 hIH8674 hJH8674 e8675 m8676 (by omega) (by omega) (by omega) (by omega) q1 (by omega) (fun q hq => ah_mono (q3 q hq) (by omega)) (wn_n q4 (by show ¬ wnV H a1.toInt.toNat ((v8666.toInt.toNat : Nat) : Int) = 0; rw [show ((v8666.toInt.toNat : Nat) : Int) = v8666.toInt by omega, wv]; omega) (by omega) (by omega) (by omega) (by omega)) (tko_1 wov8847 (by omega)) (by omega) (by omega)
                    · exfalso; omega
                  · refine g_iconst (by decide) (fun v8853 kv8853 => ?_)
                    refine g_goto ?_
                    refine g_istore_n (l' := [(0, .ref 43), (1, .int a1), (2, .int v8673), (3, .int v8853), (4, .int v8665), (5, .int v8666), (6, .int v8663)]) rfl rfl ?_
                    refine g_nop ?_
                    refine g_iload_n rfl ?_
                    refine g_if_eq (fun c8854 => ?_) (fun c8854 => ?_)
                    · exfalso; omega
                    · refine g_aload_n rfl ?_
                      refine g_aload_n rfl ?_
                      refine g_gfi hIH8674 sx_43 rfl (fun v8855 ev8855 lv8855 uv8855 => ?_)
                      have iev8855 : v8855.toInt = (fZ H8674 43 6).toInt := by rw [← ev8855]
                      refine g_if_ne (fun c8856 => ?_) (fun c8856 => ?_)
                      · refine g_aload_n rfl ?_
                        refine g_gfi hIH8674 sx_43 rfl (fun v8857 ev8857 lv8857 uv8857 => ?_)
                        have iev8857 : v8857.toInt = (fZ H8674 43 4).toInt := by rw [← ev8857]
                        refine g_nop ?_
                        refine g_pfi hIH8674 sx_43 rfl (gz_any _) (fun H8858 eH8858 hIH8858 => ?_)
                        have hJH8858 : JX H8858 := JX_sF eH8858 hJH8674
                        have e8859 : k1_1 = fZ H8858 1 1 := by rw [eH8858, fZ_sF_nc (by omega)]; exact e8675
                        have e8860 : v8855 = fZ H8858 43 6 := by rw [eH8858, fZ_sF_ne (by decide)]; exact ev8855
                        have e8861 : v8857 = fZ H8858 43 4 := by rw [eH8858, fZ_sF_eq hIH8674 sx_43 rfl]
                        have m8862 : kpX H H8858 := kpX_F m8676 eH8858 (by omega)
                        have jj8863_5 : (fZ H8858 43 5).toInt = (fZ H8674 43 5).toInt := by rw [eH8858, fZ_sF_ne (by decide)]
                        have wfH8858 := wn_F q1 eH8858
                        have ie8860 : v8855.toInt = (fZ H8858 43 6).toInt := by rw [← e8860]
                        have ie8861 : v8857.toInt = (fZ H8858 43 4).toInt := by rw [← e8861]
                        refine g_aload_n rfl ?_
                        refine g_iload rfl ?_
                        refine g_pfi hIH8858 sx_43 rfl (gz_any _) (fun H8864 eH8864 hIH8864 => ?_)
                        have hJH8864 : JX H8864 := JX_sF eH8864 hJH8858
                        have e8865 : k1_1 = fZ H8864 1 1 := by rw [eH8864, fZ_sF_nc (by omega)]; exact e8859
                        have e8866 : v8855 = fZ H8864 43 6 := by rw [eH8864, fZ_sF_ne (by decide)]; exact e8860
                        have e8867 : v8857 = fZ H8864 43 4 := by rw [eH8864, fZ_sF_ne (by decide)]; exact e8861
                        have e8868 : v8666 = fZ H8864 43 5 := by rw [eH8864, fZ_sF_eq hIH8858 sx_43 rfl]
                        have m8869 : kpX H H8864 := kpX_F m8862 eH8864 (by omega)
                        have wfH8864 := wn_F wfH8858 eH8864
                        have ie8866 : v8855.toInt = (fZ H8864 43 6).toInt := by rw [← e8866]
                        have ie8867 : v8857.toInt = (fZ H8864 43 4).toInt := by rw [← e8867]
                        have ie8868 : v8666.toInt = (fZ H8864 43 5).toInt := by rw [← e8868]
                        refine g_aload_n rfl ?_
                        refine g_dup rfl ?_
                        refine g_gfk hIH8864 sx_43 rfl e8866 ?_
                        refine g_iconst (by decide) (fun v8870 kv8870 => ?_)
                        refine g_iadd' (fun v8871 ov8871 => ?_)
                        have sv8871 : v8871.toInt = v8855.toInt + v8870.toInt := gz_add_of ov8871 (by omega)
                        refine g_pfi hIH8864 sx_43 rfl (gz_any _) (fun H8872 eH8872 hIH8872 => ?_)
                        have hJH8872 : JX H8872 := JX_sF eH8872 hJH8864
                        have e8873 : k1_1 = fZ H8872 1 1 := by rw [eH8872, fZ_sF_nc (by omega)]; exact e8865
                        have e8874 : v8857 = fZ H8872 43 4 := by rw [eH8872, fZ_sF_ne (by decide)]; exact e8867
                        have e8875 : v8666 = fZ H8872 43 5 := by rw [eH8872, fZ_sF_ne (by decide)]; exact e8868
                        have e8876 : v8871 = fZ H8872 43 6 := by rw [eH8872, fZ_sF_eq hIH8864 sx_43 rfl]
                        have m8877 : kpX H H8872 := kpX_F m8869 eH8872 (by omega)
                        have wfH8872 := wn_F wfH8864 eH8872
                        have ie8874 : v8857.toInt = (fZ H8872 43 4).toInt := by rw [← e8874]
                        have ie8875 : v8666.toInt = (fZ H8872 43 5).toInt := by rw [← e8875]
                        have ie8876 : v8871.toInt = (fZ H8872 43 6).toInt := by rw [← e8876]
                        refine g_nop ?_
                        refine g_iinc (l' := (fun v8878 => [(0, .ref 43), (1, .int a1), (2, .int v8673), (3, .int v8853), (4, .int v8665), (5, .int v8878), (6, .int v8663)])) rfl rfl (by decide) (by omega) (fun _ => rfl) (fun v8878 ev8878 => ?_)
                        refine g_goto ?_
                        refine gG_pick [0, 1, 2, 3, 4, 5] (l' := [(0, .ref 43), (1, .int a1), (2, .int v8673), (3, .int v8853), (4, .int v8665), (5, .int v8878)]) rfl ?_
                        exact ihL8670 v8673 v8853 v8665 v8878 H8872 hIH8872 hJH8872 e8873 m8877 (by omega) (by omega) (by omega) (by omega) wfH8872 (by omega) (fun q hq => ah_mono (q3 q hq) (by omega)) (wn_y q4 (by show wnV H a1.toInt.toNat ((v8666.toInt.toNat : Nat) : Int) = 0; rw [show ((v8666.toInt.toNat : Nat) : Int) = v8666.toInt by omega, wv]; omega) (by omega) (by omega) (by omega) (by omega)) (tko_1 wov8847 (by omega)) (by omega) (by omega)
                      · refine g_iload rfl ?_
                        refine g_goto ?_
                        refine g_pfi hIH8674 sx_43 rfl (gz_any _) (fun H8879 eH8879 hIH8879 => ?_)
                        have hJH8879 : JX H8879 := JX_sF eH8879 hJH8674
                        have e8880 : k1_1 = fZ H8879 1 1 := by rw [eH8879, fZ_sF_nc (by omega)]; exact e8675
                        have e8881 : v8855 = fZ H8879 43 6 := by rw [eH8879, fZ_sF_ne (by decide)]; exact ev8855
                        have e8882 : v8666 = fZ H8879 43 4 := by rw [eH8879, fZ_sF_eq hIH8674 sx_43 rfl]
                        have m8883 : kpX H H8879 := kpX_F m8676 eH8879 (by omega)
                        have jj8884_5 : (fZ H8879 43 5).toInt = (fZ H8674 43 5).toInt := by rw [eH8879, fZ_sF_ne (by decide)]
                        have wfH8879 := wn_F q1 eH8879
                        have ie8881 : v8855.toInt = (fZ H8879 43 6).toInt := by rw [← e8881]
                        have ie8882 : v8666.toInt = (fZ H8879 43 4).toInt := by rw [← e8882]
                        refine g_aload_n rfl ?_
                        refine g_iload rfl ?_
                        refine g_pfi hIH8879 sx_43 rfl (gz_any _) (fun H8885 eH8885 hIH8885 => ?_)
                        have hJH8885 : JX H8885 := JX_sF eH8885 hJH8879
                        have e8886 : k1_1 = fZ H8885 1 1 := by rw [eH8885, fZ_sF_nc (by omega)]; exact e8880
                        have e8887 : v8855 = fZ H8885 43 6 := by rw [eH8885, fZ_sF_ne (by decide)]; exact e8881
                        have e8888 : v8666 = fZ H8885 43 4 := by rw [eH8885, fZ_sF_ne (by decide)]; exact e8882
                        have e8889 : v8666 = fZ H8885 43 5 := by rw [eH8885, fZ_sF_eq hIH8879 sx_43 rfl]
                        have m8890 : kpX H H8885 := kpX_F m8883 eH8885 (by omega)
                        have wfH8885 := wn_F wfH8879 eH8885
                        have ie8887 : v8855.toInt = (fZ H8885 43 6).toInt := by rw [← e8887]
                        have ie8888 : v8666.toInt = (fZ H8885 43 4).toInt := by rw [← e8888]
                        have ie8889 : v8666.toInt = (fZ H8885 43 5).toInt := by rw [← e8889]
                        refine g_aload_n rfl ?_
                        refine g_dup rfl ?_
                        refine g_gfk hIH8885 sx_43 rfl e8887 ?_
                        refine g_iconst (by decide) (fun v8891 kv8891 => ?_)
                        refine g_iadd (by omega) (fun v8892 ev8892 => ?_)
                        refine g_pfi hIH8885 sx_43 rfl (gz_any _) (fun H8893 eH8893 hIH8893 => ?_)
                        have hJH8893 : JX H8893 := JX_sF eH8893 hJH8885
                        have e8894 : k1_1 = fZ H8893 1 1 := by rw [eH8893, fZ_sF_nc (by omega)]; exact e8886
                        have e8895 : v8666 = fZ H8893 43 4 := by rw [eH8893, fZ_sF_ne (by decide)]; exact e8888
                        have e8896 : v8666 = fZ H8893 43 5 := by rw [eH8893, fZ_sF_ne (by decide)]; exact e8889
                        have e8897 : v8892 = fZ H8893 43 6 := by rw [eH8893, fZ_sF_eq hIH8885 sx_43 rfl]
                        have m8898 : kpX H H8893 := kpX_F m8890 eH8893 (by omega)
                        have wfH8893 := wn_F wfH8885 eH8893
                        have ie8895 : v8666.toInt = (fZ H8893 43 4).toInt := by rw [← e8895]
                        have ie8896 : v8666.toInt = (fZ H8893 43 5).toInt := by rw [← e8896]
                        have ie8897 : v8892.toInt = (fZ H8893 43 6).toInt := by rw [← e8897]
                        refine g_nop ?_
                        refine g_iinc (l' := (fun v8899 => [(0, .ref 43), (1, .int a1), (2, .int v8673), (3, .int v8853), (4, .int v8665), (5, .int v8899), (6, .int v8663)])) rfl rfl (by decide) (by omega) (fun _ => rfl) (fun v8899 ev8899 => ?_)
                        refine g_goto ?_
                        refine gG_pick [0, 1, 2, 3, 4, 5] (l' := [(0, .ref 43), (1, .int a1), (2, .int v8673), (3, .int v8853), (4, .int v8665), (5, .int v8899)]) rfl ?_
                        exact ihL8670 v8673 v8853 v8665 v8899 H8893 hIH8893 hJH8893 e8894 m8898 (by omega) (by omega) (by omega) (by omega) wfH8893 (by omega) (fun q hq => ah_mono (q3 q hq) (by omega)) (wn_y q4 (by show wnV H a1.toInt.toNat ((v8666.toInt.toNat : Nat) : Int) = 0; rw [show ((v8666.toInt.toNat : Nat) : Int) = v8666.toInt by omega, wv]; omega) (by omega) (by omega) (by omega) (by omega)) (tko_1 wov8847 (by omega)) (by omega) (by omega)
                · refine g_iload rfl ?_
                  refine g_if_eq (fun c8900 => ?_) (fun c8900 => ?_)
                  · have tv := tko_v (p2 := v8673.toInt.toNat) (h := v8666.toInt) q5 (by omega) (by omega)
                    refine g_iload_n rfl ?_
                    refine g_if_eq (fun c8901 => ?_) (fun c8901 => ?_)
                    · refine g_iinc (l' := (fun v8902 => [(0, .ref 43), (1, .int a1), (2, .int v8673), (3, .int v8664), (4, .int v8665), (5, .int v8902), (6, .int v8663)])) rfl rfl (by decide) (by omega) (fun _ => rfl) (fun v8902 ev8902 => ?_)
                      refine g_goto ?_
                      refine gG_pick [0, 1, 2, 3, 4, 5] (l' := [(0, .ref 43), (1, .int a1), (2, .int v8673), (3, .int v8664), (4, .int v8665), (5, .int v8902)]) rfl ?_
                      exact ihL8670 v8673 v8664 v8665 v8902 H8674 hIH8674 hJH8674 e8675 m8676 (by omega) (by omega) (by omega) (by omega) q1 (by omega) (fun q hq => ah_mono (q3 q hq) (by omega)) (wn_n q4 (by show ¬ wnV H a1.toInt.toNat ((v8666.toInt.toNat : Nat) : Int) = 0; rw [show ((v8666.toInt.toNat : Nat) : Int) = v8666.toInt by omega, wv]; omega) (by omega) (by omega) (by omega) (by omega)) (tko_n q5 (by omega) rfl) (by omega) (by omega)
                    · refine g_aload_n rfl ?_
                      refine g_aload_n rfl ?_
                      refine g_gfi hIH8674 sx_43 rfl (fun v8903 ev8903 lv8903 uv8903 => ?_)
                      have iev8903 : v8903.toInt = (fZ H8674 43 6).toInt := by rw [← ev8903]
                      refine g_if_ne (fun c8904 => ?_) (fun c8904 => ?_)
                      · refine g_aload_n rfl ?_
                        refine g_gfi hIH8674 sx_43 rfl (fun v8905 ev8905 lv8905 uv8905 => ?_)
                        have iev8905 : v8905.toInt = (fZ H8674 43 4).toInt := by rw [← ev8905]
                        refine g_nop ?_
                        refine g_pfi hIH8674 sx_43 rfl (gz_any _) (fun H8906 eH8906 hIH8906 => ?_)
                        have hJH8906 : JX H8906 := JX_sF eH8906 hJH8674
                        have e8907 : k1_1 = fZ H8906 1 1 := by rw [eH8906, fZ_sF_nc (by omega)]; exact e8675
                        have e8908 : v8903 = fZ H8906 43 6 := by rw [eH8906, fZ_sF_ne (by decide)]; exact ev8903
                        have e8909 : v8905 = fZ H8906 43 4 := by rw [eH8906, fZ_sF_eq hIH8674 sx_43 rfl]
                        have m8910 : kpX H H8906 := kpX_F m8676 eH8906 (by omega)
                        have jj8911_5 : (fZ H8906 43 5).toInt = (fZ H8674 43 5).toInt := by rw [eH8906, fZ_sF_ne (by decide)]
                        have wfH8906 := wn_F q1 eH8906
                        have ie8908 : v8903.toInt = (fZ H8906 43 6).toInt := by rw [← e8908]
                        have ie8909 : v8905.toInt = (fZ H8906 43 4).toInt := by rw [← e8909]
                        refine g_aload_n rfl ?_
                        refine g_iload rfl ?_
                        refine g_pfi hIH8906 sx_43 rfl (gz_any _) (fun H8912 eH8912 hIH8912 => ?_)
                        have hJH8912 : JX H8912 := JX_sF eH8912 hJH8906
                        have e8913 : k1_1 = fZ H8912 1 1 := by rw [eH8912, fZ_sF_nc (by omega)]; exact e8907
                        have e8914 : v8903 = fZ H8912 43 6 := by rw [eH8912, fZ_sF_ne (by decide)]; exact e8908
                        have e8915 : v8905 = fZ H8912 43 4 := by rw [eH8912, fZ_sF_ne (by decide)]; exact e8909
                        have e8916 : v8666 = fZ H8912 43 5 := by rw [eH8912, fZ_sF_eq hIH8906 sx_43 rfl]
                        have m8917 : kpX H H8912 := kpX_F m8910 eH8912 (by omega)
                        have wfH8912 := wn_F wfH8906 eH8912
                        have ie8914 : v8903.toInt = (fZ H8912 43 6).toInt := by rw [← e8914]
                        have ie8915 : v8905.toInt = (fZ H8912 43 4).toInt := by rw [← e8915]
                        have ie8916 : v8666.toInt = (fZ H8912 43 5).toInt := by rw [← e8916]
                        refine g_aload_n rfl ?_
                        refine g_dup rfl ?_
                        refine g_gfk hIH8912 sx_43 rfl e8914 ?_
                        refine g_iconst (by decide) (fun v8918 kv8918 => ?_)
                        refine g_iadd' (fun v8919 ov8919 => ?_)
                        have sv8919 : v8919.toInt = v8903.toInt + v8918.toInt := gz_add_of ov8919 (by omega)
                        refine g_pfi hIH8912 sx_43 rfl (gz_any _) (fun H8920 eH8920 hIH8920 => ?_)
                        have hJH8920 : JX H8920 := JX_sF eH8920 hJH8912
                        have e8921 : k1_1 = fZ H8920 1 1 := by rw [eH8920, fZ_sF_nc (by omega)]; exact e8913
                        have e8922 : v8905 = fZ H8920 43 4 := by rw [eH8920, fZ_sF_ne (by decide)]; exact e8915
                        have e8923 : v8666 = fZ H8920 43 5 := by rw [eH8920, fZ_sF_ne (by decide)]; exact e8916
                        have e8924 : v8919 = fZ H8920 43 6 := by rw [eH8920, fZ_sF_eq hIH8912 sx_43 rfl]
                        have m8925 : kpX H H8920 := kpX_F m8917 eH8920 (by omega)
                        have wfH8920 := wn_F wfH8912 eH8920
                        have ie8922 : v8905.toInt = (fZ H8920 43 4).toInt := by rw [← e8922]
                        have ie8923 : v8666.toInt = (fZ H8920 43 5).toInt := by rw [← e8923]
                        have ie8924 : v8919.toInt = (fZ H8920 43 6).toInt := by rw [← e8924]
                        refine g_nop ?_
                        refine g_iinc (l' := (fun v8926 => [(0, .ref 43), (1, .int a1), (2, .int v8673), (3, .int v8664), (4, .int v8665), (5, .int v8926), (6, .int v8663)])) rfl rfl (by decide) (by omega) (fun _ => rfl) (fun v8926 ev8926 => ?_)
                        refine g_goto ?_
                        refine gG_pick [0, 1, 2, 3, 4, 5] (l' := [(0, .ref 43), (1, .int a1), (2, .int v8673), (3, .int v8664), (4, .int v8665), (5, .int v8926)]) rfl ?_
                        exact ihL8670 v8673 v8664 v8665 v8926 H8920 hIH8920 hJH8920 e8921 m8925 (by omega) (by omega) (by omega) (by omega) wfH8920 (by omega) (fun q hq => ah_mono (q3 q hq) (by omega)) (wn_y q4 (by show wnV H a1.toInt.toNat ((v8666.toInt.toNat : Nat) : Int) = 0; rw [show ((v8666.toInt.toNat : Nat) : Int) = v8666.toInt by omega, wv]; omega) (by omega) (by omega) (by omega) (by omega)) (tko_n q5 (by omega) rfl) (by omega) (by omega)
                      · refine g_iload rfl ?_
                        refine g_goto ?_
                        refine g_pfi hIH8674 sx_43 rfl (gz_any _) (fun H8927 eH8927 hIH8927 => ?_)
                        have hJH8927 : JX H8927 := JX_sF eH8927 hJH8674
                        have e8928 : k1_1 = fZ H8927 1 1 := by rw [eH8927, fZ_sF_nc (by omega)]; exact e8675
                        have e8929 : v8903 = fZ H8927 43 6 := by rw [eH8927, fZ_sF_ne (by decide)]; exact ev8903
                        have e8930 : v8666 = fZ H8927 43 4 := by rw [eH8927, fZ_sF_eq hIH8674 sx_43 rfl]
                        have m8931 : kpX H H8927 := kpX_F m8676 eH8927 (by omega)
                        have jj8932_5 : (fZ H8927 43 5).toInt = (fZ H8674 43 5).toInt := by rw [eH8927, fZ_sF_ne (by decide)]
                        have wfH8927 := wn_F q1 eH8927
                        have ie8929 : v8903.toInt = (fZ H8927 43 6).toInt := by rw [← e8929]
                        have ie8930 : v8666.toInt = (fZ H8927 43 4).toInt := by rw [← e8930]
                        refine g_aload_n rfl ?_
                        refine g_iload rfl ?_
                        refine g_pfi hIH8927 sx_43 rfl (gz_any _) (fun H8933 eH8933 hIH8933 => ?_)
                        have hJH8933 : JX H8933 := JX_sF eH8933 hJH8927
                        have e8934 : k1_1 = fZ H8933 1 1 := by rw [eH8933, fZ_sF_nc (by omega)]; exact e8928
                        have e8935 : v8903 = fZ H8933 43 6 := by rw [eH8933, fZ_sF_ne (by decide)]; exact e8929
                        have e8936 : v8666 = fZ H8933 43 4 := by rw [eH8933, fZ_sF_ne (by decide)]; exact e8930
                        have e8937 : v8666 = fZ H8933 43 5 := by rw [eH8933, fZ_sF_eq hIH8927 sx_43 rfl]
                        have m8938 : kpX H H8933 := kpX_F m8931 eH8933 (by omega)
                        have wfH8933 := wn_F wfH8927 eH8933
                        have ie8935 : v8903.toInt = (fZ H8933 43 6).toInt := by rw [← e8935]
                        have ie8936 : v8666.toInt = (fZ H8933 43 4).toInt := by rw [← e8936]
                        have ie8937 : v8666.toInt = (fZ H8933 43 5).toInt := by rw [← e8937]
                        refine g_aload_n rfl ?_
                        refine g_dup rfl ?_
                        refine g_gfk hIH8933 sx_43 rfl e8935 ?_
                        refine g_iconst (by decide) (fun v8939 kv8939 => ?_)
                        refine g_iadd (by omega) (fun v8940 ev8940 => ?_)
                        refine g_pfi hIH8933 sx_43 rfl (gz_any _) (fun H8941 eH8941 hIH8941 => ?_)
                        have hJH8941 : JX H8941 := JX_sF eH8941 hJH8933
                        have e8942 : k1_1 = fZ H8941 1 1 := by rw [eH8941, fZ_sF_nc (by omega)]; exact e8934
                        have e8943 : v8666 = fZ H8941 43 4 := by rw [eH8941, fZ_sF_ne (by decide)]; exact e8936
                        have e8944 : v8666 = fZ H8941 43 5 := by rw [eH8941, fZ_sF_ne (by decide)]; exact e8937
                        have e8945 : v8940 = fZ H8941 43 6 := by rw [eH8941, fZ_sF_eq hIH8933 sx_43 rfl]
                        have m8946 : kpX H H8941 := kpX_F m8938 eH8941 (by omega)
                        have wfH8941 := wn_F wfH8933 eH8941
                        have ie8943 : v8666.toInt = (fZ H8941 43 4).toInt := by rw [← e8943]
                        have ie8944 : v8666.toInt = (fZ H8941 43 5).toInt := by rw [← e8944]
                        have ie8945 : v8940.toInt = (fZ H8941 43 6).toInt := by rw [← e8945]
                        refine g_nop ?_
                        refine g_iinc (l' := (fun v8947 => [(0, .ref 43), (1, .int a1), (2, .int v8673), (3, .int v8664), (4, .int v8665), (5, .int v8947), (6, .int v8663)])) rfl rfl (by decide) (by omega) (fun _ => rfl) (fun v8947 ev8947 => ?_)
                        refine g_goto ?_
                        refine gG_pick [0, 1, 2, 3, 4, 5] (l' := [(0, .ref 43), (1, .int a1), (2, .int v8673), (3, .int v8664), (4, .int v8665), (5, .int v8947)]) rfl ?_
                        exact ihL8670 v8673 v8664 v8665 v8947 H8941 hIH8941 hJH8941 e8942 m8946 (by omega) (by omega) (by omega) (by omega) wfH8941 (by omega) (fun q hq => ah_mono (q3 q hq) (by omega)) (wn_y q4 (by show wnV H a1.toInt.toNat ((v8666.toInt.toNat : Nat) : Int) = 0; rw [show ((v8666.toInt.toNat : Nat) : Int) = v8666.toInt by omega, wv]; omega) (by omega) (by omega) (by omega) (by omega)) (tko_n q5 (by omega) rfl) (by omega) (by omega)
                  · refine g_nop ?_
                    refine g_aload_n rfl ?_
                    refine g_gfr hIH8674 sx_43 rfl ?_
                    refine g_aload_n rfl ?_
                    refine g_gfr hIH8674 sx_43 rfl ?_
                    refine g_iload_n rfl ?_
                    refine g_iload rfl ?_
                    refine g_invvi hIH8674 sx_44 rfl rfl rfl rfl (w_94 44 zWo_44 a1 (by omega) v8666 (by omega) H8674 hIH8674 hJH8674 q1 (wf_la (rn_fl hp0 (by omega))) (wf_kd (rn_fl hp0 (by omega))) (by rw [(m8676 7 (by decide)).2]; exact (hp0.2.2 a1.toInt.toNat (by omega)).1)) (fun v8950 H8948 r8949 => ?_)
                    obtain ⟨rfl, p8951⟩ := r8949
                    have wov8950 : v8950.toInt = wnO H a1.toInt.toNat v8673.toInt.toNat v8666.toInt := wn_o m8676 (by omega) p8951
                    refine g_if_ne (fun c8952 => ?_) (fun c8952 => ?_)
                    · refine g_iconst (by decide) (fun v8953 kv8953 => ?_)
                      refine g_nop ?_
                      refine g_istore_n (l' := [(0, .ref 43), (1, .int a1), (2, .int v8673), (3, .int v8953), (4, .int v8665), (5, .int v8666), (6, .int v8663)]) rfl rfl ?_
                      refine g_nop ?_
                      refine g_iload_n rfl ?_
                      refine g_if_eq (fun c8954 => ?_) (fun c8954 => ?_)
                      · refine g_iinc (l' := (fun v8955 => [(0, .ref 43), (1, .int a1), (2, .int v8673), (3, .int v8953), (4, .int v8665), (5, .int v8955), (6, .int v8663)])) rfl rfl (by decide) (by omega) (fun _ => rfl) (fun v8955 ev8955 => ?_)
                        refine g_goto ?_
                        refine gG_pick [0, 1, 2, 3, 4, 5] (l' := [(0, .ref 43), (1, .int a1), (2, .int v8673), (3, .int v8953), (4, .int v8665), (5, .int v8955)]) rfl ?_
                        exact ihL8670 v8673 v8953 v8665 v8955 H8674 hIH8674 hJH8674 e8675 m8676 (by omega) (by omega) (by omega) (by omega) q1 (by omega) (fun q hq => ah_mono (q3 q hq) (by omega)) (wn_n q4 (by show ¬ wnV H a1.toInt.toNat ((v8666.toInt.toNat : Nat) : Int) = 0; rw [show ((v8666.toInt.toNat : Nat) : Int) = v8666.toInt by omega, wv]; omega) (by omega) (by omega) (by omega) (by omega)) (tko_1 wov8950 (by omega)) (by omega) (by omega)
                      · exfalso; omega
                    · refine g_iconst (by decide) (fun v8956 kv8956 => ?_)
                      refine g_goto ?_
                      refine g_istore_n (l' := [(0, .ref 43), (1, .int a1), (2, .int v8673), (3, .int v8956), (4, .int v8665), (5, .int v8666), (6, .int v8663)]) rfl rfl ?_
                      refine g_nop ?_
                      refine g_iload_n rfl ?_
                      refine g_if_eq (fun c8957 => ?_) (fun c8957 => ?_)
                      · exfalso; omega
                      · refine g_aload_n rfl ?_
                        refine g_aload_n rfl ?_
                        refine g_gfi hIH8674 sx_43 rfl (fun v8958 ev8958 lv8958 uv8958 => ?_)
                        have iev8958 : v8958.toInt = (fZ H8674 43 6).toInt := by rw [← ev8958]
                        refine g_if_ne (fun c8959 => ?_) (fun c8959 => ?_)
                        · refine g_aload_n rfl ?_
                          refine g_gfi hIH8674 sx_43 rfl (fun v8960 ev8960 lv8960 uv8960 => ?_)
                          have iev8960 : v8960.toInt = (fZ H8674 43 4).toInt := by rw [← ev8960]
                          refine g_nop ?_
                          refine g_pfi hIH8674 sx_43 rfl (gz_any _) (fun H8961 eH8961 hIH8961 => ?_)
                          have hJH8961 : JX H8961 := JX_sF eH8961 hJH8674
                          have e8962 : k1_1 = fZ H8961 1 1 := by rw [eH8961, fZ_sF_nc (by omega)]; exact e8675
                          have e8963 : v8958 = fZ H8961 43 6 := by rw [eH8961, fZ_sF_ne (by decide)]; exact ev8958
                          have e8964 : v8960 = fZ H8961 43 4 := by rw [eH8961, fZ_sF_eq hIH8674 sx_43 rfl]
                          have m8965 : kpX H H8961 := kpX_F m8676 eH8961 (by omega)
                          have jj8966_5 : (fZ H8961 43 5).toInt = (fZ H8674 43 5).toInt := by rw [eH8961, fZ_sF_ne (by decide)]
                          have wfH8961 := wn_F q1 eH8961
                          have ie8963 : v8958.toInt = (fZ H8961 43 6).toInt := by rw [← e8963]
                          have ie8964 : v8960.toInt = (fZ H8961 43 4).toInt := by rw [← e8964]
                          refine g_aload_n rfl ?_
                          refine g_iload rfl ?_
                          refine g_pfi hIH8961 sx_43 rfl (gz_any _) (fun H8967 eH8967 hIH8967 => ?_)
                          have hJH8967 : JX H8967 := JX_sF eH8967 hJH8961
                          have e8968 : k1_1 = fZ H8967 1 1 := by rw [eH8967, fZ_sF_nc (by omega)]; exact e8962
                          have e8969 : v8958 = fZ H8967 43 6 := by rw [eH8967, fZ_sF_ne (by decide)]; exact e8963
                          have e8970 : v8960 = fZ H8967 43 4 := by rw [eH8967, fZ_sF_ne (by decide)]; exact e8964
                          have e8971 : v8666 = fZ H8967 43 5 := by rw [eH8967, fZ_sF_eq hIH8961 sx_43 rfl]
                          have m8972 : kpX H H8967 := kpX_F m8965 eH8967 (by omega)
                          have wfH8967 := wn_F wfH8961 eH8967
                          have ie8969 : v8958.toInt = (fZ H8967 43 6).toInt := by rw [← e8969]
                          have ie8970 : v8960.toInt = (fZ H8967 43 4).toInt := by rw [← e8970]
                          have ie8971 : v8666.toInt = (fZ H8967 43 5).toInt := by rw [← e8971]
                          refine g_aload_n rfl ?_
                          refine g_dup rfl ?_
                          refine g_gfk hIH8967 sx_43 rfl e8969 ?_
                          refine g_iconst (by decide) (fun v8973 kv8973 => ?_)
                          refine g_iadd' (fun v8974 ov8974 => ?_)
                          have sv8974 : v8974.toInt = v8958.toInt + v8973.toInt := gz_add_of ov8974 (by omega)
                          refine g_pfi hIH8967 sx_43 rfl (gz_any _) (fun H8975 eH8975 hIH8975 => ?_)
                          have hJH8975 : JX H8975 := JX_sF eH8975 hJH8967
                          have e8976 : k1_1 = fZ H8975 1 1 := by rw [eH8975, fZ_sF_nc (by omega)]; exact e8968
                          have e8977 : v8960 = fZ H8975 43 4 := by rw [eH8975, fZ_sF_ne (by decide)]; exact e8970
                          have e8978 : v8666 = fZ H8975 43 5 := by rw [eH8975, fZ_sF_ne (by decide)]; exact e8971
                          have e8979 : v8974 = fZ H8975 43 6 := by rw [eH8975, fZ_sF_eq hIH8967 sx_43 rfl]
                          have m8980 : kpX H H8975 := kpX_F m8972 eH8975 (by omega)
                          have wfH8975 := wn_F wfH8967 eH8975
                          have ie8977 : v8960.toInt = (fZ H8975 43 4).toInt := by rw [← e8977]
                          have ie8978 : v8666.toInt = (fZ H8975 43 5).toInt := by rw [← e8978]
                          have ie8979 : v8974.toInt = (fZ H8975 43 6).toInt := by rw [← e8979]
                          refine g_nop ?_
                          refine g_iinc (l' := (fun v8981 => [(0, .ref 43), (1, .int a1), (2, .int v8673), (3, .int v8956), (4, .int v8665), (5, .int v8981), (6, .int v8663)])) rfl rfl (by decide) (by omega) (fun _ => rfl) (fun v8981 ev8981 => ?_)
                          refine g_goto ?_
                          refine gG_pick [0, 1, 2, 3, 4, 5] (l' := [(0, .ref 43), (1, .int a1), (2, .int v8673), (3, .int v8956), (4, .int v8665), (5, .int v8981)]) rfl ?_
                          exact ihL8670 v8673 v8956 v8665 v8981 H8975 hIH8975 hJH8975 e8976 m8980 (by omega) (by omega) (by omega) (by omega) wfH8975 (by omega) (fun q hq => ah_mono (q3 q hq) (by omega)) (wn_y q4 (by show wnV H a1.toInt.toNat ((v8666.toInt.toNat : Nat) : Int) = 0; rw [show ((v8666.toInt.toNat : Nat) : Int) = v8666.toInt by omega, wv]; omega) (by omega) (by omega) (by omega) (by omega)) (tko_1 wov8950 (by omega)) (by omega) (by omega)
                        · refine g_iload rfl ?_
                          refine g_goto ?_
                          refine g_pfi hIH8674 sx_43 rfl (gz_any _) (fun H8982 eH8982 hIH8982 => ?_)
                          have hJH8982 : JX H8982 := JX_sF eH8982 hJH8674
                          have e8983 : k1_1 = fZ H8982 1 1 := by rw [eH8982, fZ_sF_nc (by omega)]; exact e8675
                          have e8984 : v8958 = fZ H8982 43 6 := by rw [eH8982, fZ_sF_ne (by decide)]; exact ev8958
                          have e8985 : v8666 = fZ H8982 43 4 := by rw [eH8982, fZ_sF_eq hIH8674 sx_43 rfl]
                          have m8986 : kpX H H8982 := kpX_F m8676 eH8982 (by omega)
                          have jj8987_5 : (fZ H8982 43 5).toInt = (fZ H8674 43 5).toInt := by rw [eH8982, fZ_sF_ne (by decide)]
                          have wfH8982 := wn_F q1 eH8982
                          have ie8984 : v8958.toInt = (fZ H8982 43 6).toInt := by rw [← e8984]
                          have ie8985 : v8666.toInt = (fZ H8982 43 4).toInt := by rw [← e8985]
                          refine g_aload_n rfl ?_
                          refine g_iload rfl ?_
                          refine g_pfi hIH8982 sx_43 rfl (gz_any _) (fun H8988 eH8988 hIH8988 => ?_)
                          have hJH8988 : JX H8988 := JX_sF eH8988 hJH8982
                          have e8989 : k1_1 = fZ H8988 1 1 := by rw [eH8988, fZ_sF_nc (by omega)]; exact e8983
                          have e8990 : v8958 = fZ H8988 43 6 := by rw [eH8988, fZ_sF_ne (by decide)]; exact e8984
                          have e8991 : v8666 = fZ H8988 43 4 := by rw [eH8988, fZ_sF_ne (by decide)]; exact e8985
                          have e8992 : v8666 = fZ H8988 43 5 := by rw [eH8988, fZ_sF_eq hIH8982 sx_43 rfl]
                          have m8993 : kpX H H8988 := kpX_F m8986 eH8988 (by omega)
                          have wfH8988 := wn_F wfH8982 eH8988
                          have ie8990 : v8958.toInt = (fZ H8988 43 6).toInt := by rw [← e8990]
                          have ie8991 : v8666.toInt = (fZ H8988 43 4).toInt := by rw [← e8991]
                          have ie8992 : v8666.toInt = (fZ H8988 43 5).toInt := by rw [← e8992]
                          refine g_aload_n rfl ?_
                          refine g_dup rfl ?_
                          refine g_gfk hIH8988 sx_43 rfl e8990 ?_
                          refine g_iconst (by decide) (fun v8994 kv8994 => ?_)
                          refine g_iadd (by omega) (fun v8995 ev8995 => ?_)
                          refine g_pfi hIH8988 sx_43 rfl (gz_any _) (fun H8996 eH8996 hIH8996 => ?_)
                          have hJH8996 : JX H8996 := JX_sF eH8996 hJH8988
                          have e8997 : k1_1 = fZ H8996 1 1 := by rw [eH8996, fZ_sF_nc (by omega)]; exact e8989
                          have e8998 : v8666 = fZ H8996 43 4 := by rw [eH8996, fZ_sF_ne (by decide)]; exact e8991
                          have e8999 : v8666 = fZ H8996 43 5 := by rw [eH8996, fZ_sF_ne (by decide)]; exact e8992
                          have e9000 : v8995 = fZ H8996 43 6 := by rw [eH8996, fZ_sF_eq hIH8988 sx_43 rfl]
                          have m9001 : kpX H H8996 := kpX_F m8993 eH8996 (by omega)
                          have wfH8996 := wn_F wfH8988 eH8996
                          have ie8998 : v8666.toInt = (fZ H8996 43 4).toInt := by rw [← e8998]
                          have ie8999 : v8666.toInt = (fZ H8996 43 5).toInt := by rw [← e8999]
                          have ie9000 : v8995.toInt = (fZ H8996 43 6).toInt := by rw [← e9000]
                          refine g_nop ?_
                          refine g_iinc (l' := (fun v9002 => [(0, .ref 43), (1, .int a1), (2, .int v8673), (3, .int v8956), (4, .int v8665), (5, .int v9002), (6, .int v8663)])) rfl rfl (by decide) (by omega) (fun _ => rfl) (fun v9002 ev9002 => ?_)
                          refine g_goto ?_
                          refine gG_pick [0, 1, 2, 3, 4, 5] (l' := [(0, .ref 43), (1, .int a1), (2, .int v8673), (3, .int v8956), (4, .int v8665), (5, .int v9002)]) rfl ?_
                          exact ihL8670 v8673 v8956 v8665 v9002 H8996 hIH8996 hJH8996 e8997 m9001 (by omega) (by omega) (by omega) (by omega) wfH8996 (by omega) (fun q hq => ah_mono (q3 q hq) (by omega)) (wn_y q4 (by show wnV H a1.toInt.toNat ((v8666.toInt.toNat : Nat) : Int) = 0; rw [show ((v8666.toInt.toNat : Nat) : Int) = v8666.toInt by omega, wv]; omega) (by omega) (by omega) (by omega) (by omega)) (tko_1 wov8950 (by omega)) (by omega) (by omega)
              · refine g_aload_n rfl ?_
                refine g_gfr hIH8674 sx_43 rfl ?_
                refine g_gfr hIH8674 sx_24 rfl ?_
                refine g_gfr hIH8674 sx_25 rfl ?_
                refine g_iload_n rfl ?_
                refine g_iaload hIH8674 sx_27 rfl (by omega) (fun v9003 ev9003 lv9003 uv9003 => ?_)
                have zv9003 : v9003.toInt.toNat = odX H v8673.toInt.toNat := by rw [ev9003, (m8676 27 (by decide)).2]; rfl
                refine g_istore (l' := [(0, .ref 43), (1, .int a1), (2, .int v8673), (3, .int v8664), (4, .int v8665), (5, .int v8666), (6, .int v8663), (7, .int v9003)]) rfl rfl ?_
                refine g_iload rfl ?_
                refine g_iload_n rfl ?_
                refine g_if2_eq (fun c9004 => ?_) (fun c9004 => ?_)
                · refine g_iinc (l' := (fun v9005 => [(0, .ref 43), (1, .int a1), (2, .int v9005), (3, .int v8664), (4, .int v8665), (5, .int v8666), (6, .int v8663), (7, .int v9003)])) rfl rfl (by decide) (by omega) (fun _ => rfl) (fun v9005 ev9005 => ?_)
                  refine g_goto ?_
                  refine gG_pick [0, 1, 2, 3, 4, 5, 6] (l' := [(0, .ref 43), (1, .int a1), (2, .int v9005), (3, .int v8664), (4, .int v8665), (5, .int v8666), (6, .int v8663)]) rfl ?_
                  exact ihL8677 v9005 H8674 hIH8674 hJH8674 e8675 m8676 (by omega) (by rw [show v9005.toInt.toNat = v8673.toInt.toNat + 1 by omega, fl_n (by show ¬ decide _ = true; rw [decide_eq_true_eq]; omega)]; exact q1) (by omega) (fun q hq => by if e : q = v8673.toInt.toNat then (rw [e]; exact ahv8841.elim (fun z => z.2) (fun z => absurd z.1 (by omega))) else exact q3 q (by omega)) (by omega) (by omega)
                · refine g_aload_n rfl ?_
                  refine g_gfr hIH8674 sx_43 rfl ?_
                  refine g_aload_n rfl ?_
                  refine g_gfr hIH8674 sx_43 rfl ?_
                  refine g_iload rfl ?_
                  refine g_aload_n rfl ?_
                  refine g_gfr hIH8674 sx_43 rfl ?_
                  refine g_gfr hIH8674 sx_3 rfl ?_
                  refine g_iload rfl ?_
                  refine g_iaload hIH8674 sx_6 rfl (by omega) (fun v9006 ev9006 lv9006 uv9006 => ?_)
                  have hyv9006 : v9006.toInt = hoX H (odX H v8673.toInt.toNat) := by rw [ev9006, (m8676 6 (by decide)).2, zv9003]; show _ = (aZ H 26 _).toInt; rw [hp0.1.2.2]
                  have hbv9006 : 0 ≤ v9006.toInt ∧ v9006.toInt ≤ 999 := by rw [hyv9006]; exact (hp0.2.2 (odX H v8673.toInt.toNat) (hp0.2.1 v8673.toInt.toNat (by omega))).2.2.2.2.1
                  refine g_invvi hIH8674 sx_44 rfl rfl rfl rfl (w_93 44 zWo_44 v9003 (by omega) v9006 (by omega) H8674 hIH8674 hJH8674 q1 (wf_la (rn_fl hp0 (by omega))) (wf_kd (rn_fl hp0 (by omega))) (by rw [(m8676 7 (by decide)).2, zv9003]; exact (hp0.2.2 (odX H v8673.toInt.toNat) (hp0.2.1 v8673.toInt.toNat (by omega))).1)) (fun v9009 H9007 r9008 => ?_)
                  obtain ⟨hIH9007, hJH9007, w9010, m9011, p9012, p9013⟩ := r9008
                  have e9014 : k1_1 = fZ H9007 1 1 := e8675.trans w9010.symm
                  have m9015 : kpX H H9007 := kpX_t m8676 (kpX_W (by decide) m9011)
                  have jf9016 : (fZ H9007 43 4).toInt = (fZ H8674 43 4).toInt := by rw [(m9011 43 (by decide)).1 4]
                  have jf9017 : (fZ H9007 43 5).toInt = (fZ H8674 43 5).toInt := by rw [(m9011 43 (by decide)).1 5]
                  have jf9018 : (fZ H9007 43 6).toInt = (fZ H8674 43 6).toInt := by rw [(m9011 43 (by decide)).1 6]
                  have wzv8673 : wdX H9007 44 (stH H (hoX H) (rnH H (hoX H) ((olF v8673.toInt.toNat (odX H)).filter (fun j => decide (¬ (j : Int) = a1.toInt)))) (odX H v8673.toInt.toNat)) := gx_l3 m8676 p9012 zv9003 hyv9006
                  refine g_pop rfl ?_
                  refine g_nop ?_
                  refine g_iinc (l' := (fun v9019 => [(0, .ref 43), (1, .int a1), (2, .int v9019), (3, .int v8664), (4, .int v8665), (5, .int v8666), (6, .int v8663), (7, .int v9003)])) rfl rfl (by decide) (by omega) (fun _ => rfl) (fun v9019 ev9019 => ?_)
                  refine g_goto ?_
                  refine gG_pick [0, 1, 2, 3, 4, 5, 6] (l' := [(0, .ref 43), (1, .int a1), (2, .int v9019), (3, .int v8664), (4, .int v8665), (5, .int v8666), (6, .int v8663)]) rfl ?_
                  exact ihL8677 v9019 H9007 hIH9007 hJH9007 e9014 m9015 (by omega) (by rw [show v9019.toInt.toNat = v8673.toInt.toNat + 1 by omega]; exact wd_rn wzv8673 (fl_y (by show decide _ = true; rw [decide_eq_true_eq]; omega))) (by omega) (fun q hq => by if e : q = v8673.toInt.toNat then (rw [e]; exact ahv8841.elim (fun z => z.2) (fun z => absurd z.1 (by omega))) else exact q3 q (by omega)) (by omega) (by omega)
        exact L8677 _ v8663 H8667 hIH8667 hJH8667 e8668 m8669 (by omega) q1 (by omega) q3 (by omega) (Nat.lt_succ_self _)
  refine g_aload_n rfl ?_
  refine g_bipush (by decide) (fun v9020 kv9020 => ?_)
  refine g_pfi hI sx_43 rfl (gz_any _) (fun H9021 eH9021 hIH9021 => ?_)
  have hJH9021 : JX H9021 := JX_sF eH9021 hJ
  have e9022 : k1_1 = fZ H9021 1 1 := by rw [eH9021, fZ_sF_nc (by omega)]; exact ek1_1
  have e9023 : v9020 = fZ H9021 43 4 := by rw [eH9021, fZ_sF_eq hI sx_43 rfl]
  have m9024 : kpX H H9021 := kpX_F mkfr eH9021 (by omega)
  have jj9025_5 : (fZ H9021 43 5).toInt = (fZ H 43 5).toInt := by rw [eH9021, fZ_sF_ne (by decide)]
  have jj9026_6 : (fZ H9021 43 6).toInt = (fZ H 43 6).toInt := by rw [eH9021, fZ_sF_ne (by decide)]
  have ie9023 : v9020.toInt = (fZ H9021 43 4).toInt := by rw [← e9023]
  refine g_aload_n rfl ?_
  refine g_bipush (by decide) (fun v9027 kv9027 => ?_)
  refine g_pfi hIH9021 sx_43 rfl (gz_any _) (fun H9028 eH9028 hIH9028 => ?_)
  have hJH9028 : JX H9028 := JX_sF eH9028 hJH9021
  have e9029 : k1_1 = fZ H9028 1 1 := by rw [eH9028, fZ_sF_nc (by omega)]; exact e9022
  have e9030 : v9020 = fZ H9028 43 4 := by rw [eH9028, fZ_sF_ne (by decide)]; exact e9023
  have e9031 : v9027 = fZ H9028 43 5 := by rw [eH9028, fZ_sF_eq hIH9021 sx_43 rfl]
  have m9032 : kpX H H9028 := kpX_F m9024 eH9028 (by omega)
  have jj9033_6 : (fZ H9028 43 6).toInt = (fZ H9021 43 6).toInt := by rw [eH9028, fZ_sF_ne (by decide)]
  have ie9030 : v9020.toInt = (fZ H9028 43 4).toInt := by rw [← e9030]
  have ie9031 : v9027.toInt = (fZ H9028 43 5).toInt := by rw [← e9031]
  refine g_aload_n rfl ?_
  refine g_iconst (by decide) (fun v9034 kv9034 => ?_)
  refine g_pfi hIH9028 sx_43 rfl (gz_any _) (fun H9035 eH9035 hIH9035 => ?_)
  have hJH9035 : JX H9035 := JX_sF eH9035 hJH9028
  have e9036 : k1_1 = fZ H9035 1 1 := by rw [eH9035, fZ_sF_nc (by omega)]; exact e9029
  have e9037 : v9020 = fZ H9035 43 4 := by rw [eH9035, fZ_sF_ne (by decide)]; exact e9030
  have e9038 : v9027 = fZ H9035 43 5 := by rw [eH9035, fZ_sF_ne (by decide)]; exact e9031
  have e9039 : v9034 = fZ H9035 43 6 := by rw [eH9035, fZ_sF_eq hIH9028 sx_43 rfl]
  have m9040 : kpX H H9035 := kpX_F m9032 eH9035 (by omega)
  have ie9037 : v9020.toInt = (fZ H9035 43 4).toInt := by rw [← e9037]
  have ie9038 : v9027.toInt = (fZ H9035 43 5).toInt := by rw [← e9038]
  have ie9039 : v9034.toInt = (fZ H9035 43 6).toInt := by rw [← e9039]
  refine g_aload_n rfl ?_
  refine g_gfr hIH9035 sx_43 rfl ?_
  refine g_invvv hIH9035 sx_44 rfl rfl rfl rfl (w_83 44 zWo_44 H9035 hIH9035 hJH9035) (fun H9041 r9042 => ?_)
  obtain ⟨hIH9041, hJH9041, w9043, m9044, p9045⟩ := r9042
  have e9046 : k1_1 = fZ H9041 1 1 := e9036.trans w9043.symm
  have m9047 : kpX H H9041 := kpX_t m9040 (kpX_W (by decide) m9044)
  have jf9048 : (fZ H9041 43 4).toInt = (fZ H9035 43 4).toInt := by rw [(m9044 43 (by decide)).1 4]
  have jf9049 : (fZ H9041 43 5).toInt = (fZ H9035 43 5).toInt := by rw [(m9044 43 (by decide)).1 5]
  have jf9050 : (fZ H9041 43 6).toInt = (fZ H9035 43 6).toInt := by rw [(m9044 43 (by decide)).1 6]
  have wz0 : wdX H9041 44 (rnH H (hoX H) ((olF 0 (odX H)).filter (fun j => decide (¬ (j : Int) = a1.toInt)))) := p9045
  refine g_iconst (by decide) (fun v9051 kv9051 => ?_)
  refine g_istore_n (l' := [(0, .ref 43), (1, .int a1), (2, .int v9051)]) rfl rfl ?_
  refine g_aload_n rfl ?_
  refine g_gfr hIH9041 sx_43 rfl ?_
  refine g_aload_n rfl ?_
  refine g_gfr hIH9041 sx_43 rfl ?_
  refine g_iload_n rfl ?_
  refine g_iconst (by decide) (fun v9052 kv9052 => ?_)
  refine g_invvi hIH9041 sx_44 rfl rfl rfl rfl (w_94 44 zWo_44 a1 (by omega) v9052 (by omega) H9041 hIH9041 hJH9041 wz0 (wf_la (rn_fl hp0 (by omega))) (wf_kd (rn_fl hp0 (by omega))) (by rw [(m9047 7 (by decide)).2]; exact (hp0.2.2 a1.toInt.toNat (by omega)).1)) (fun v9055 H9053 r9054 => ?_)
  obtain ⟨rfl, p9056⟩ := r9054
  have wov9055 : v9055.toInt = wnO H a1.toInt.toNat 0 v9052.toInt := wn_o m9047 (by omega) p9056
  refine g_if_ne (fun c9057 => ?_) (fun c9057 => ?_)
  · refine g_iconst (by decide) (fun v9058 kv9058 => ?_)
    refine g_nop ?_
    refine g_istore_n (l' := [(0, .ref 43), (1, .int a1), (2, .int v9051), (3, .int v9058)]) rfl rfl ?_
    refine g_aload_n rfl ?_
    refine g_gfr hIH9041 sx_43 rfl ?_
    refine g_gfr hIH9041 sx_3 rfl ?_
    refine g_iload_n rfl ?_
    refine g_iaload hIH9041 sx_7 rfl (by omega) (fun v9059 ev9059 lv9059 uv9059 => ?_)
    have yv9059 : v9059.toInt = roX H a1.toInt.toNat 1 := by rw [ev9059, (m9047 7 (by decide)).2]; rfl
    refine g_iconst (by decide) (fun v9060 kv9060 => ?_)
    refine g_if2_eq (fun c9061 => ?_) (fun c9061 => ?_)
    · refine g_iconst (by decide) (fun v9062 kv9062 => ?_)
      refine g_goto ?_
      refine g_istore (l' := [(0, .ref 43), (1, .int a1), (2, .int v9051), (3, .int v9058), (4, .int v9062)]) rfl rfl ?_
      refine g_iconst (by decide) (fun v9063 kv9063 => ?_)
      refine g_istore (l' := [(0, .ref 43), (1, .int a1), (2, .int v9051), (3, .int v9058), (4, .int v9062), (5, .int v9063)]) rfl rfl ?_
      refine g_nop ?_
      exact L8670 _ v9051 v9058 v9062 v9063 H9041 hIH9041 hJH9041 e9046 m9047 (by omega) (by omega) (by omega) (by omega) (by rw [show v9051.toInt.toNat = 0 by omega]; exact wz0) (by have := fZ_of hI sx_25 (f := 2) rfl; omega) (fun q hq => by omega) (wn_0 (by omega) (by omega) (by omega) (by omega)) (by rw [show v9051.toInt.toNat = 0 by omega]; exact tko_1 wov9055 (by omega)) (by omega) (Nat.lt_succ_self _)
    · refine g_aload_n rfl ?_
      refine g_gfr hIH9041 sx_43 rfl ?_
      refine g_gfr hIH9041 sx_3 rfl ?_
      refine g_iload_n rfl ?_
      refine g_ialoadk hIH9041 sx_7 rfl (by omega) ev9059 ?_
      refine g_bipush (by decide) (fun v9064 kv9064 => ?_)
      refine g_if2_ne (fun c9065 => ?_) (fun c9065 => ?_)
      · refine g_iconst (by decide) (fun v9066 kv9066 => ?_)
        refine g_nop ?_
        refine g_istore (l' := [(0, .ref 43), (1, .int a1), (2, .int v9051), (3, .int v9058), (4, .int v9066)]) rfl rfl ?_
        refine g_iconst (by decide) (fun v9067 kv9067 => ?_)
        refine g_istore (l' := [(0, .ref 43), (1, .int a1), (2, .int v9051), (3, .int v9058), (4, .int v9066), (5, .int v9067)]) rfl rfl ?_
        refine g_nop ?_
        exact L8670 _ v9051 v9058 v9066 v9067 H9041 hIH9041 hJH9041 e9046 m9047 (by omega) (by omega) (by omega) (by omega) (by rw [show v9051.toInt.toNat = 0 by omega]; exact wz0) (by have := fZ_of hI sx_25 (f := 2) rfl; omega) (fun q hq => by omega) (wn_0 (by omega) (by omega) (by omega) (by omega)) (by rw [show v9051.toInt.toNat = 0 by omega]; exact tko_1 wov9055 (by omega)) (by omega) (Nat.lt_succ_self _)
      · refine g_nop ?_
        refine g_iconst (by decide) (fun v9068 kv9068 => ?_)
        refine g_goto ?_
        refine g_istore (l' := [(0, .ref 43), (1, .int a1), (2, .int v9051), (3, .int v9058), (4, .int v9068)]) rfl rfl ?_
        refine g_iconst (by decide) (fun v9069 kv9069 => ?_)
        refine g_istore (l' := [(0, .ref 43), (1, .int a1), (2, .int v9051), (3, .int v9058), (4, .int v9068), (5, .int v9069)]) rfl rfl ?_
        refine g_nop ?_
        exact L8670 _ v9051 v9058 v9068 v9069 H9041 hIH9041 hJH9041 e9046 m9047 (by omega) (by omega) (by omega) (by omega) (by rw [show v9051.toInt.toNat = 0 by omega]; exact wz0) (by have := fZ_of hI sx_25 (f := 2) rfl; omega) (fun q hq => by omega) (wn_0 (by omega) (by omega) (by omega) (by omega)) (by rw [show v9051.toInt.toNat = 0 by omega]; exact tko_1 wov9055 (by omega)) (by omega) (Nat.lt_succ_self _)
  · refine g_iconst (by decide) (fun v9070 kv9070 => ?_)
    refine g_goto ?_
    refine g_istore_n (l' := [(0, .ref 43), (1, .int a1), (2, .int v9051), (3, .int v9070)]) rfl rfl ?_
    refine g_aload_n rfl ?_
    refine g_gfr hIH9041 sx_43 rfl ?_
    refine g_gfr hIH9041 sx_3 rfl ?_
    refine g_iload_n rfl ?_
    refine g_iaload hIH9041 sx_7 rfl (by omega) (fun v9071 ev9071 lv9071 uv9071 => ?_)
    have yv9071 : v9071.toInt = roX H a1.toInt.toNat 1 := by rw [ev9071, (m9047 7 (by decide)).2]; rfl
    refine g_iconst (by decide) (fun v9072 kv9072 => ?_)
    refine g_if2_eq (fun c9073 => ?_) (fun c9073 => ?_)
    · refine g_iconst (by decide) (fun v9074 kv9074 => ?_)
      refine g_goto ?_
      refine g_istore (l' := [(0, .ref 43), (1, .int a1), (2, .int v9051), (3, .int v9070), (4, .int v9074)]) rfl rfl ?_
      refine g_iconst (by decide) (fun v9075 kv9075 => ?_)
      refine g_istore (l' := [(0, .ref 43), (1, .int a1), (2, .int v9051), (3, .int v9070), (4, .int v9074), (5, .int v9075)]) rfl rfl ?_
      refine g_nop ?_
      exact L8670 _ v9051 v9070 v9074 v9075 H9041 hIH9041 hJH9041 e9046 m9047 (by omega) (by omega) (by omega) (by omega) (by rw [show v9051.toInt.toNat = 0 by omega]; exact wz0) (by have := fZ_of hI sx_25 (f := 2) rfl; omega) (fun q hq => by omega) (wn_0 (by omega) (by omega) (by omega) (by omega)) (by rw [show v9051.toInt.toNat = 0 by omega]; exact tko_1 wov9055 (by omega)) (by omega) (Nat.lt_succ_self _)
    · refine g_aload_n rfl ?_
      refine g_gfr hIH9041 sx_43 rfl ?_
      refine g_gfr hIH9041 sx_3 rfl ?_
      refine g_iload_n rfl ?_
      refine g_ialoadk hIH9041 sx_7 rfl (by omega) ev9071 ?_
      refine g_bipush (by decide) (fun v9076 kv9076 => ?_)
      refine g_if2_ne (fun c9077 => ?_) (fun c9077 => ?_)
      · refine g_iconst (by decide) (fun v9078 kv9078 => ?_)
        refine g_nop ?_
        refine g_istore (l' := [(0, .ref 43), (1, .int a1), (2, .int v9051), (3, .int v9070), (4, .int v9078)]) rfl rfl ?_
        refine g_iconst (by decide) (fun v9079 kv9079 => ?_)
        refine g_istore (l' := [(0, .ref 43), (1, .int a1), (2, .int v9051), (3, .int v9070), (4, .int v9078), (5, .int v9079)]) rfl rfl ?_
        refine g_nop ?_
        exact L8670 _ v9051 v9070 v9078 v9079 H9041 hIH9041 hJH9041 e9046 m9047 (by omega) (by omega) (by omega) (by omega) (by rw [show v9051.toInt.toNat = 0 by omega]; exact wz0) (by have := fZ_of hI sx_25 (f := 2) rfl; omega) (fun q hq => by omega) (wn_0 (by omega) (by omega) (by omega) (by omega)) (by rw [show v9051.toInt.toNat = 0 by omega]; exact tko_1 wov9055 (by omega)) (by omega) (Nat.lt_succ_self _)
      · refine g_nop ?_
        refine g_iconst (by decide) (fun v9080 kv9080 => ?_)
        refine g_goto ?_
        refine g_istore (l' := [(0, .ref 43), (1, .int a1), (2, .int v9051), (3, .int v9070), (4, .int v9080)]) rfl rfl ?_
        refine g_iconst (by decide) (fun v9081 kv9081 => ?_)
        refine g_istore (l' := [(0, .ref 43), (1, .int a1), (2, .int v9051), (3, .int v9070), (4, .int v9080), (5, .int v9081)]) rfl rfl ?_
        refine g_nop ?_
        exact L8670 _ v9051 v9070 v9080 v9081 H9041 hIH9041 hJH9041 e9046 m9047 (by omega) (by omega) (by omega) (by omega) (by rw [show v9051.toInt.toNat = 0 by omega]; exact wz0) (by have := fZ_of hI sx_25 (f := 2) rfl; omega) (fun q hq => by omega) (wn_0 (by omega) (by omega) (by omega) (by omega)) (by rw [show v9051.toInt.toNat = 0 by omega]; exact tko_1 wov9055 (by omega)) (by omega) (Nat.lt_succ_self _)
set_option maxRecDepth 4000 in
set_option maxHeartbeats 4000000 in
/-- X9.window -/
theorem w_141  (a1 : Int32) (a2 : Int32) (H : mzH) (hI : gI SX H) (hJ : JX H) (hp0 : gdY H) (hp1 : cvX H) : gCall 141 [.ref 0, .int a1, .int a2] H (gRi (fun v H' => gI SX H' ∧ JX H' ∧ fZ H' 1 1 = fZ H 1 1 ∧ kpX H H' ∧ ((v.toInt = -1 ∧ ¬ ((0 ≤ a1.toInt ∧ a1.toInt < (fZ H 3 9).toInt) ∧ (0 ≤ a2.toInt ∧ a2.toInt ≤ 2))) ∨ (((0 ≤ a1.toInt ∧ a1.toInt < (fZ H 3 9).toInt) ∧ (0 ≤ a2.toInt ∧ a2.toInt ≤ 2)) ∧ v.toInt = (if a2.toInt = 0 then (wnF (fun n : Nat => wnV H a1.toInt.toNat (n : Int)) 1000).1 else if a2.toInt = 1 then (wnF (fun n : Nat => wnV H a1.toInt.toNat (n : Int)) 1000).2.1 else (wnF (fun n : Nat => wnV H a1.toInt.toNat (n : Int)) 1000).2.2))))) := by
  obtain ⟨k1_1, ek1_1⟩ : ∃ z, z = fZ H 1 1 := ⟨_, rfl⟩
  have ik1_1 : k1_1.toInt = (fZ H 1 1).toInt := by rw [← ek1_1]
  have bk1_1 : 0 ≤ k1_1.toInt ∧ k1_1.toInt ≤ 900 := by rw [ek1_1]; exact fZ_of hI sx_1 rfl
  obtain ⟨k3_9, ek3_9⟩ : ∃ z, z = fZ H 3 9 := ⟨_, rfl⟩
  have ik3_9 : k3_9.toInt = (fZ H 3 9).toInt := by rw [← ek3_9]
  have bk3_9 : 0 ≤ k3_9.toInt ∧ k3_9.toInt ≤ 60 := by rw [ek3_9]; exact fZ_of hI sx_3 rfl
  have mkfr : kpX H H := kpX_r
  refine gG_call [(0, .ref 0), (1, .int a1), (2, .int a2)] ⟨rfl, rfl, rfl, trivial⟩ ?_
  show gG 3 zB_141 (mzBlk zB_141 0) [(0, .ref 0), (1, .int a1), (2, .int a2)] [] H 0 0 _
  refine g_aload_n rfl ?_
  refine g_gfr hI sx_0 rfl ?_
  refine g_iload_n rfl ?_
  refine g_invvi hI sx_3 rfl rfl rfl rfl (w_12 a1 H hI hJ) (fun v103 H101 r102 => ?_)
  obtain ⟨rfl, bv103, p104, p105⟩ := r102
  refine g_if_eq (fun c106 => ?_) (fun c106 => ?_)
  · refine g_iconst (by decide) (fun v107 kv107 => ?_)
    exact g_iret ⟨_, rfl, hI, hJ, (ek1_1.symm.trans ek1_1), mkfr, (Or.inl ⟨by omega, by omega⟩)⟩
  · refine g_iload_n rfl ?_
    refine g_if_lt (fun c108 => ?_) (fun c108 => ?_)
    · refine g_iconst (by decide) (fun v109 kv109 => ?_)
      exact g_iret ⟨_, rfl, hI, hJ, (ek1_1.symm.trans ek1_1), mkfr, (Or.inl ⟨by omega, by omega⟩)⟩
    · refine g_iload_n rfl ?_
      refine g_iconst (by decide) (fun v110 kv110 => ?_)
      refine g_if2_le (fun c111 => ?_) (fun c111 => ?_)
      · refine g_aload_n rfl ?_
        refine g_gfr hI sx_0 rfl ?_
        refine g_iload_n rfl ?_
        refine g_invvv hI sx_43 rfl rfl rfl rfl (w_35 a1 (by omega) H hI hJ hp0 hp1 (by have := hp0.1.2.1; omega)) (fun H112 r113 => ?_)
        obtain ⟨hIH112, hJH112, w114, m115, p116⟩ := r113
        have e117 : k1_1 = fZ H112 1 1 := ek1_1.trans w114.symm
        have m118 : kpX H H112 := kpX_t mkfr m115
        have gq := p116
        refine g_iload_n rfl ?_
        refine g_iconst (by decide) (fun v119 kv119 => ?_)
        refine g_if2_ne (fun c120 => ?_) (fun c120 => ?_)
        · refine g_iload_n rfl ?_
          refine g_if_ne (fun c121 => ?_) (fun c121 => ?_)
          · refine g_aload_n rfl ?_
            refine g_gfr hIH112 sx_0 rfl ?_
            refine g_gfi hIH112 sx_43 rfl (fun v122 ev122 lv122 uv122 => ?_)
            have iev122 : v122.toInt = (fZ H112 43 5).toInt := by rw [← ev122]
            refine g_nop ?_
            exact g_iret ⟨_, rfl, hIH112, hJH112, (e117.symm.trans ek1_1), m118, (Or.inr ⟨by omega, by rw [if_neg (by omega), if_pos (by omega)]; omega⟩)⟩
          · refine g_aload_n rfl ?_
            refine g_gfr hIH112 sx_0 rfl ?_
            refine g_gfi hIH112 sx_43 rfl (fun v123 ev123 lv123 uv123 => ?_)
            have iev123 : v123.toInt = (fZ H112 43 4).toInt := by rw [← ev123]
            refine g_goto ?_
            exact g_iret ⟨_, rfl, hIH112, hJH112, (e117.symm.trans ek1_1), m118, (Or.inr ⟨by omega, by rw [if_pos (by omega)]; omega⟩)⟩
        · refine g_aload_n rfl ?_
          refine g_gfr hIH112 sx_0 rfl ?_
          refine g_gfi hIH112 sx_43 rfl (fun v124 ev124 lv124 uv124 => ?_)
          have iev124 : v124.toInt = (fZ H112 43 6).toInt := by rw [← ev124]
          exact g_iret ⟨_, rfl, hIH112, hJH112, (e117.symm.trans ek1_1), m118, (Or.inr ⟨by omega, by rw [if_neg (by omega), if_neg (by omega)]; omega⟩)⟩
      · refine g_nop ?_
        refine g_iconst (by decide) (fun v125 kv125 => ?_)
        exact g_iret ⟨_, rfl, hI, hJ, (ek1_1.symm.trans ek1_1), mkfr, (Or.inl ⟨by omega, by omega⟩)⟩
