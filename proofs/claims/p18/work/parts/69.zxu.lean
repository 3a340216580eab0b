theorem stH_kx {H A : mzH} (fr : kpX H A) : stH A (hoX A) = stH H (hoX H) := by
  rw [(stH_kp fr).1, (row_kw (kpW_X fr)).2.1]
theorem vdH_kx {H A : mzH} (fr : kpX H A) : vdH A (hoX A) = vdH H (hoX H) := by
  rw [(stH_kp fr).2, (row_kw (kpW_X fr)).2.1]
theorem rnH_kx {H A : mzH} (fr : kpX H A) {l : List Nat} : rnH A (hoX A) l = rnH H (hoX H) l := by
  rw [rnH_kp fr, (row_kw (kpW_X fr)).2.1]
theorem rfL_kx {H A : mzH} (fr : kpX H A) {l : List Nat} : rfL A (hoX A) l = rfL H (hoX H) l := by
  unfold rfL
  exact cnt_cg (fun q _ => by rw [vr_kp fr])
theorem rn_ol {H : mzH} (h : gdY H) {p : Nat} (hp : p ≤ (fZ H 25 2).toInt.toNat) : wfS 8 (rnH H (hoX H) (olF p (odX H))) := by
  obtain ⟨h0, h1, h2⟩ := h
  exact rn_wf h2 (fun j hj => (h2 j hj).2.2.2.2.1) _ (fun j hj => by
    obtain ⟨x, hx, rfl⟩ := olF_mem.mp hj
    exact h1 x (by omega))
/-- the answer, by what is asked -/
def blA (H : mzH) (w v : Int) : Prop := ∃ o l, blB H (fZ H 25 2).toInt.toNat o l ∧ v = if w = 0 then o else l
set_option maxRecDepth 4000 in
set_option maxHeartbeats 4000000 in
/-- X0.refusalAt -/
theorem w55_7 {s : pS} (a1 : Int32) (ha1 : 0 ≤ a1.toInt ∧ a1.toInt ≤ 59) (H : mzH) (hI : gI SX H) (hJ : JX H) (hp0 : gdY H) (hp1 : wdX H 55 s) (hp2 : wfS 8 s) (hp3 : a1.toInt < (fZ H 25 2).toInt) : gCall 7 [.ref 54, .int a1, .ref 55] H (gRi (fun v H' => gI SX H' ∧ JX H' ∧ (0 ≤ v.toInt ∧ v.toInt ≤ 1) ∧ fZ H' 1 1 = fZ H 1 1 ∧ kpN 56 61 H H' ∧ wdX H' 55 (stH H (hoX H) s (odX H a1.toInt.toNat)) ∧ ((v.toInt = 0 ∧ vdH H (hoX H) s (odX H a1.toInt.toNat) = 0) ∨ (v.toInt = 1 ∧ ¬ vdH H (hoX H) s (odX H a1.toInt.toNat) = 0)))) := by
  obtain ⟨k1_1, ek1_1⟩ : ∃ z, z = fZ H 1 1 := ⟨_, rfl⟩
  have ik1_1 : k1_1.toInt = (fZ H 1 1).toInt := by rw [← ek1_1]
  have bk1_1 : 0 ≤ k1_1.toInt ∧ k1_1.toInt ≤ 900 := by rw [ek1_1]; exact fZ_of hI sx_1 rfl
  have mkfr : kpN 56 61 H H := kpN_r
  refine gG_call [(0, .ref 54), (1, .int a1), (2, .ref 55)] ⟨rfl, rfl, rfl, trivial⟩ ?_
  show gG 3 zB_7 (mzBlk zB_7 0) [(0, .ref 54), (1, .int a1), (2, .ref 55)] [] H 0 0 _
  refine g_aload_n rfl ?_
  refine g_aload_n rfl ?_
  refine g_gfr hI sx_54 rfl ?_
  refine g_aload_n rfl ?_
  refine g_gfr hI sx_54 rfl ?_
  refine g_gfr hI sx_25 rfl ?_
  refine g_iload_n rfl ?_
  refine g_iaload hI sx_27 rfl (by omega) (fun v69 ev69 lv69 uv69 => ?_)
  have zv69 : v69.toInt.toNat = odX H a1.toInt.toNat := by rw [ev69, (mkfr 27 (by omega)).2]; rfl
  refine g_aload_n rfl ?_
  refine g_gfr hI sx_54 rfl ?_
  refine g_iload_n rfl ?_
  refine g_invvi hI sx_25 rfl rfl rfl rfl (w_27 25 zCo_25 a1 (by omega) H hI hJ) (fun v72 H70 r71 => ?_)
  obtain ⟨rfl, p73⟩ := r71
  have hyv72 : v72.toInt = hoX H (odX H a1.toInt.toNat) := by rw [p73]; show (aZ H 26 (aZ H 27 _).toInt.toNat).toInt = _; rw [(mkfr 26 (by omega)).2, (mkfr 27 (by omega)).2]; rfl
  have hbv72 : 0 ≤ v72.toInt ∧ v72.toInt ≤ 999 := by rw [hyv72]; exact (hp0.2.2 (odX H a1.toInt.toNat) (hp0.2.1 a1.toInt.toNat (by omega))).2.2.2.2.1
  refine g_invvi hI sx_55 rfl rfl rfl rfl (w_93 55 zWo_55 v69 (by omega) v72 (by omega) H hI hJ hp1 (wf_la hp2) (wf_kd hp2) (by rw [(mkfr 7 (by omega)).2, zv69]; exact (hp0.2.2 (odX H a1.toInt.toNat) (hp0.2.1 a1.toInt.toNat (by omega))).1)) (fun v76 H74 r75 => ?_)
  obtain ⟨hIH74, hJH74, w77, m78, p79, p80⟩ := r75
  have e81 : k1_1 = fZ H74 1 1 := ek1_1.trans w77.symm
  have m82 : kpN 56 61 H H74 := kpN_t mkfr m78
  have wzv69 : wdX H74 55 (stH H (hoX H) s (odX H a1.toInt.toNat)) := gx_l3 (kpX_W (w := 55) (by decide) mkfr) p79 zv69 hyv72
  have vdv69 := gv_l3 (hr := hoX H) (kpX_W (w := 55) (by decide) mkfr) p80 zv69 hyv72
  refine g_if_eq (fun c83 => ?_) (fun c83 => ?_)
  · refine g_iconst (by decide) (fun v84 kv84 => ?_)
    refine g_nop ?_
    exact g_iret ⟨_, rfl, hIH74, hJH74, (by omega), (e81.symm.trans ek1_1), m82, wzv69, (by omega)⟩
  · refine g_iconst (by decide) (fun v85 kv85 => ?_)
    refine g_goto ?_
    exact g_iret ⟨_, rfl, hIH74, hJH74, (by omega), (e81.symm.trans ek1_1), m82, wzv69, (by omega)⟩
set_option maxRecDepth 4000 in
set_option maxHeartbeats 4000000 in
/-- X0.refusalAt -/
theorem w62_7 {s : pS} (a1 : Int32) (ha1 : 0 ≤ a1.toInt ∧ a1.toInt ≤ 59) (H : mzH) (hI : gI SX H) (hJ : JX H) (hp0 : gdY H) (hp1 : wdX H 62 s) (hp2 : wfS 8 s) (hp3 : a1.toInt < (fZ H 25 2).toInt) : gCall 7 [.ref 54, .int a1, .ref 62] H (gRi (fun v H' => gI SX H' ∧ JX H' ∧ (0 ≤ v.toInt ∧ v.toInt ≤ 1) ∧ fZ H' 1 1 = fZ H 1 1 ∧ kpN 63 68 H H' ∧ wdX H' 62 (stH H (hoX H) s (odX H a1.toInt.toNat)) ∧ ((v.toInt = 0 ∧ vdH H (hoX H) s (odX H a1.toInt.toNat) = 0) ∨ (v.toInt = 1 ∧ ¬ vdH H (hoX H) s (odX H a1.toInt.toNat) = 0)))) := by
  obtain ⟨k1_1, ek1_1⟩ : ∃ z, z = fZ H 1 1 := ⟨_, rfl⟩
  have ik1_1 : k1_1.toInt = (fZ H 1 1).toInt := by rw [← ek1_1]
  have bk1_1 : 0 ≤ k1_1.toInt ∧ k1_1.toInt ≤ 900 := by rw [ek1_1]; exact fZ_of hI sx_1 rfl
  have mkfr : kpN 63 68 H H := kpN_r
  refine gG_call [(0, .ref 54), (1, .int a1), (2, .ref 62)] ⟨rfl, rfl, rfl, trivial⟩ ?_
  show gG 3 zB_7 (mzBlk zB_7 0) [(0, .ref 54), (1, .int a1), (2, .ref 62)] [] H 0 0 _
  refine g_aload_n rfl ?_
  refine g_aload_n rfl ?_
  refine g_gfr hI sx_54 rfl ?_
  refine g_aload_n rfl ?_
  refine g_gfr hI sx_54 rfl ?_
  refine g_gfr hI sx_25 rfl ?_
  refine g_iload_n rfl ?_
  refine g_iaload hI sx_27 rfl (by omega) (fun v69 ev69 lv69 uv69 => ?_)
  have zv69 : v69.toInt.toNat = odX H a1.toInt.toNat := by rw [ev69, (mkfr 27 (by omega)).2]; rfl
  refine g_aload_n rfl ?_
  refine g_gfr hI sx_54 rfl ?_
  refine g_iload_n rfl ?_
  refine g_invvi hI sx_25 rfl rfl rfl rfl (w_27 25 zCo_25 a1 (by omega) H hI hJ) (fun v72 H70 r71 => ?_)
  obtain ⟨rfl, p73⟩ := r71
  have hyv72 : v72.toInt = hoX H (odX H a1.toInt.toNat) := by rw [p73]; show (aZ H 26 (aZ H 27 _).toInt.toNat).toInt = _; rw [(mkfr 26 (by omega)).2, (mkfr 27 (by omega)).2]; rfl
  have hbv72 : 0 ≤ v72.toInt ∧ v72.toInt ≤ 999 := by rw [hyv72]; exact (hp0.2.2 (odX H a1.toInt.toNat) (hp0.2.1 a1.toInt.toNat (by omega))).2.2.2.2.1
  refine g_invvi hI sx_62 rfl rfl rfl rfl (w_93 62 zWo_62 v69 (by omega) v72 (by omega) H hI hJ hp1 (wf_la hp2) (wf_kd hp2) (by rw [(mkfr 7 (by omega)).2, zv69]; exact (hp0.2.2 (odX H a1.toInt.toNat) (hp0.2.1 a1.toInt.toNat (by omega))).1)) (fun v76 H74 r75 => ?_)
  obtain ⟨hIH74, hJH74, w77, m78, p79, p80⟩ := r75
  have e81 : k1_1 = fZ H74 1 1 := ek1_1.trans w77.symm
  have m82 : kpN 63 68 H H74 := kpN_t mkfr m78
  have wzv69 : wdX H74 62 (stH H (hoX H) s (odX H a1.toInt.toNat)) := gx_l3 (kpX_W (w := 62) (by decide) mkfr) p79 zv69 hyv72
  have vdv69 := gv_l3 (hr := hoX H) (kpX_W (w := 62) (by decide) mkfr) p80 zv69 hyv72
  refine g_if_eq (fun c83 => ?_) (fun c83 => ?_)
  · refine g_iconst (by decide) (fun v84 kv84 => ?_)
    refine g_nop ?_
    exact g_iret ⟨_, rfl, hIH74, hJH74, (by omega), (e81.symm.trans ek1_1), m82, wzv69, (by omega)⟩
  · refine g_iconst (by decide) (fun v85 kv85 => ?_)
    refine g_goto ?_
    exact g_iret ⟨_, rfl, hIH74, hJH74, (by omega), (e81.symm.trans ek1_1), m82, wzv69, (by omega)⟩
set_option maxRecDepth 4000 in
set_option maxHeartbeats 4000000 in
/-- X0.refusedBehind -/
theorem w_6 {l : List Nat} (a1 : Int32) (ha1 : 0 ≤ a1.toInt ∧ a1.toInt ≤ 59) (a2 : Int32) (ha2 : 0 ≤ a2.toInt ∧ a2.toInt ≤ 60) (a3 : Int32) (H : mzH) (hI : gI SX H) (hJ : JX H) (hp0 : gdY H) (hp1 : wdX H 69 (rnH H (hoX H) l)) (hp2 : (∀ j, j ∈ l → j < (fZ H 25 2).toInt.toNat)) (hp3 : l.length ≤ (a1.toInt.toNat + 1)) (hp4 : a2.toInt = rfL H (hoX H) l) (hp5 : a1.toInt < (fZ H 25 2).toInt) : gCall 6 [.ref 54, .int a1, .int a2, .int a3] H (gRi (fun v H' => gI SX H' ∧ JX H' ∧ fZ H' 1 1 = fZ H 1 1 ∧ kpN 70 75 H H' ∧ rbR v.toInt a3.toInt (rfL H (hoX H) (bhL l (odX H) (a1.toInt.toNat + 1) (fZ H 25 2).toInt.toNat)))) := by
  obtain ⟨k1_1, ek1_1⟩ : ∃ z, z = fZ H 1 1 := ⟨_, rfl⟩
  have ik1_1 : k1_1.toInt = (fZ H 1 1).toInt := by rw [← ek1_1]
  have bk1_1 : 0 ≤ k1_1.toInt ∧ k1_1.toInt ≤ 900 := by rw [ek1_1]; exact fZ_of hI sx_1 rfl
  have mkfr : kpN 70 75 H H := kpN_r
  refine gG_call [(0, .ref 54), (1, .int a1), (2, .int a2), (3, .int a3)] ⟨rfl, rfl, rfl, rfl, trivial⟩ ?_
  show gG 6 zB_6 (mzBlk zB_6 0) [(0, .ref 54), (1, .int a1), (2, .int a2), (3, .int a3)] [] H 0 0 _
  refine g_iload_n rfl ?_
  refine g_istore (l' := [(0, .ref 54), (1, .int a1), (2, .int a2), (3, .int a3), (4, .int a2)]) rfl rfl ?_
  refine g_iload_n rfl ?_
  refine g_iconst (by decide) (fun v597 kv597 => ?_)
  refine g_iadd (by omega) (fun v598 ev598 => ?_)
  refine g_istore (l' := [(0, .ref 54), (1, .int a1), (2, .int a2), (3, .int a3), (4, .int a2), (5, .int v598)]) rfl rfl ?_
  refine g_nop ?_
  have L604 : ∀ (N : Nat) (v599 : Int32) (v600 : Int32) (H601 : mzH), gI SX H601 → JX H601 → k1_1 = fZ H601 1 1 → kpN 70 75 H H601 → (0 ≤ v599.toInt ∧ v599.toInt ≤ 60) → (1 ≤ v600.toInt ∧ v600.toInt ≤ 60) → wdX H601 69 (rnH H (hoX H) (bhL l (odX H) (a1.toInt.toNat + 1) v600.toInt.toNat)) → v599.toInt = rfL H (hoX H) (bhL l (odX H) (a1.toInt.toNat + 1) v600.toInt.toNat) → (a1.toInt + 1 ≤ v600.toInt ∧ v600.toInt ≤ (fZ H 25 2).toInt) → (60 - v600.toInt).toNat < N → gG 6 zB_6 (mzBlk zB_6 1) [(0, .ref 54), (1, .int a1), (2, .int a2), (3, .int a3), (4, .int v599), (5, .int v600)] [] H601 0 0 (gRi (fun v H' => gI SX H' ∧ JX H' ∧ fZ H' 1 1 = fZ H 1 1 ∧ kpN 70 75 H H' ∧ rbR v.toInt a3.toInt (rfL H (hoX H) (bhL l (odX H) (a1.toInt.toNat + 1) (fZ H 25 2).toInt.toNat)))) := by
    intro N
    induction N with
    | zero => intro v599 v600 H601 hIH601 hJH601 e602 m603 bv599 bv600 q1 q2 q3 hmL604; exact absurd hmL604 (Nat.not_lt_zero _)
    | succ N ihL604 =>
      intro v599 v600 H601 hIH601 hJH601 e602 m603 bv599 bv600 q1 q2 q3 hmL604
      have rb := bh_b q2 hp3 (by omega)
      refine g_iload rfl ?_
      refine g_aload_n rfl ?_
      refine g_gfr hIH601 sx_54 rfl ?_
      refine g_gfi hIH601 sx_25 rfl (fun v605 ev605 lv605 uv605 => ?_)
      have zv605 : v605.toInt = (fZ H 25 2).toInt := by rw [ev605, (m603 25 (by decide)).1]
      refine g_if2_ge (fun c606 => ?_) (fun c606 => ?_)
      · refine g_iload rfl ?_
        exact g_iret ⟨_, rfl, hIH601, hJH601, (e602.symm.trans ek1_1), m603, (rb_1 q2 (by omega) (by omega) (by first | exact Or.inl (by omega) | exact Or.inr (by omega)))⟩
      · refine g_iload rfl ?_
        refine g_iload_n rfl ?_
        refine g_if2_gt (fun c607 => ?_) (fun c607 => ?_)
        · refine g_iload rfl ?_
          exact g_iret ⟨_, rfl, hIH601, hJH601, (e602.symm.trans ek1_1), m603, (rb_1 q2 (by omega) (by omega) (by first | exact Or.inl (by omega) | exact Or.inr (by omega)))⟩
        · refine g_iload rfl ?_
          refine g_aload_n rfl ?_
          refine g_gfr hIH601 sx_54 rfl ?_
          refine g_aload_n rfl ?_
          refine g_gfr hIH601 sx_54 rfl ?_
          refine g_aload_n rfl ?_
          refine g_gfr hIH601 sx_54 rfl ?_
          refine g_gfr hIH601 sx_25 rfl ?_
          refine g_iload rfl ?_
          refine g_iaload hIH601 sx_27 rfl (by omega) (fun v608 ev608 lv608 uv608 => ?_)
          have zv608 : v608.toInt.toNat = odX H v600.toInt.toNat := by rw [ev608, (m603 27 (by omega)).2]; rfl
          refine g_aload_n rfl ?_
          refine g_gfr hIH601 sx_54 rfl ?_
          refine g_iload rfl ?_
          refine g_invvi hIH601 sx_25 rfl rfl rfl rfl (w_27 25 zCo_25 v600 (by omega) H601 hIH601 hJH601) (fun v611 H609 r610 => ?_)
          obtain ⟨rfl, p612⟩ := r610
          have hyv611 : v611.toInt = hoX H (odX H v600.toInt.toNat) := by rw [p612]; show (aZ H601 26 (aZ H601 27 _).toInt.toNat).toInt = _; rw [(m603 26 (by omega)).2, (m603 27 (by omega)).2]; rfl
          have hbv611 : 0 ≤ v611.toInt ∧ v611.toInt ≤ 999 := by rw [hyv611]; exact (hp0.2.2 (odX H v600.toInt.toNat) (hp0.2.1 v600.toInt.toNat (by omega))).2.2.2.2.1
          refine g_invvi hIH601 sx_69 rfl rfl rfl rfl (w_93 69 zWo_69 v608 (by omega) v611 (by omega) H601 hIH601 hJH601 q1 (wf_la (bh_wf hp0 hp2 (by omega))) (wf_kd (bh_wf hp0 hp2 (by omega))) (by rw [(m603 7 (by omega)).2, zv608]; exact (hp0.2.2 (odX H v600.toInt.toNat) (hp0.2.1 v600.toInt.toNat (by omega))).1)) (fun v615 H613 r614 => ?_)
          obtain ⟨hIH613, hJH613, w616, m617, p618, p619⟩ := r614
          have e620 : k1_1 = fZ H613 1 1 := e602.trans w616.symm
          have m621 : kpN 70 75 H H613 := kpN_t m603 m617
          have wzv608 : wdX H613 69 (stH H (hoX H) (rnH H (hoX H) (bhL l (odX H) (a1.toInt.toNat + 1) v600.toInt.toNat)) (odX H v600.toInt.toNat)) := gx_l3 (kpX_W (w := 69) (by decide) m603) p618 zv608 hyv611
          have vdv608 := gv_l3 (hr := hoX H) (kpX_W (w := 69) (by decide) m603) p619 zv608 hyv611
          refine g_if_eq (fun c622 => ?_) (fun c622 => ?_)
          · refine g_iconst (by decide) (fun v623 kv623 => ?_)
            refine g_nop ?_
            refine g_iadd (by omega) (fun v624 ev624 => ?_)
            refine g_istore (l' := [(0, .ref 54), (1, .int a1), (2, .int a2), (3, .int a3), (4, .int v624), (5, .int v600)]) rfl rfl ?_
            refine g_iinc (l' := (fun v625 => [(0, .ref 54), (1, .int a1), (2, .int a2), (3, .int a3), (4, .int v624), (5, .int v625)])) rfl rfl (by decide) (by omega) (fun _ => rfl) (fun v625 ev625 => ?_)
            refine g_goto ?_
            exact ihL604 v624 v625 H613 hIH613 hJH613 e620 m621 (by omega) (by omega) (by rw [show v625.toInt.toNat = v600.toInt.toNat + 1 by omega, bh_s (by omega)]; exact wd_rn wzv608 rfl) (rb_st (u := v624.toInt - v599.toInt) q2 (by omega) (by omega) vdv608 (by omega) (by omega)) (by omega) (by omega)
          · refine g_iconst (by decide) (fun v626 kv626 => ?_)
            refine g_goto ?_
            refine g_iadd (by omega) (fun v627 ev627 => ?_)
            refine g_istore (l' := [(0, .ref 54), (1, .int a1), (2, .int a2), (3, .int a3), (4, .int v627), (5, .int v600)]) rfl rfl ?_
            refine g_iinc (l' := (fun v628 => [(0, .ref 54), (1, .int a1), (2, .int a2), (3, .int a3), (4, .int v627), (5, .int v628)])) rfl rfl (by decide) (by omega) (fun _ => rfl) (fun v628 ev628 => ?_)
            refine g_goto ?_
            exact ihL604 v627 v628 H613 hIH613 hJH613 e620 m621 (by omega) (by omega) (by rw [show v628.toInt.toNat = v600.toInt.toNat + 1 by omega, bh_s (by omega)]; exact wd_rn wzv608 rfl) (rb_st (u := v627.toInt - v599.toInt) q2 (by omega) (by omega) vdv608 (by omega) (by omega)) (by omega) (by omega)
  exact L604 _ a2 v598 H hI hJ ek1_1 mkfr (by omega) (by omega) (by rw [bh_0 (show v598.toInt.toNat ≤ (a1.toInt.toNat + 1) by omega)]; exact hp1) (by rw [bh_0 (show v598.toInt.toNat ≤ (a1.toInt.toNat + 1) by omega)]; exact hp4) (by omega) (Nat.lt_succ_self _)
