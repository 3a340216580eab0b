theorem stH_kx {H A : mzH} (fr : kpX H A) : stH A (hoX A) = stH H (hoX H) := by
  rw [(stH_kp fr).1, (row_kw (kpW_X fr)).2.1]
theorem vdH_kx {H A : mzH} (fr : kpX H A) : vdH A (hoX A) = vdH H (hoX H) := by
  rw [(stH_kp fr).2, (row_kw (kpW_X fr)).2.1]
theorem rnH_kx {H A : mzH} (fr : kpX H A) {l : List Nat} : rnH A (hoX A) l = rnH H (hoX H) l := by
  rw [rnH_kp fr, (row_kw (kpW_X fr)).2.1]
theorem rfL_kx {H A : mzH} (fr : kpX H A) {l : List Nat} : rfL A (hoX A) l = rfL H (hoX H) l := by
  unfold rfL
  exact cnt_cg (fun q _ => by rw [vr_kp fr])
theorem rfL_kp {H A : mzH} (fr : kpX H A) {s : Nat} : rfL A (hoX A) (bhL (olF s (odX H)) (odX A) (s + 1) (fZ A 25 2).toInt.toNat) = tO H s := by
  rw [rfL_kx fr, od_kp fr, (fr 25 (by decide)).1]
  rfl
theorem rn_ol {H : mzH} (h : gdY H) {p : Nat} (hp : p ≤ (fZ H 25 2).toInt.toNat) : wfS 8 (rnH H (hoX H) (olF p (odX H))) := by
  obtain ⟨h0, h1, h2⟩ := h
  exact rn_wf h2 (fun j hj => (h2 j hj).2.2.2.2.1) _ (fun j hj => by
    obtain ⟨x, hx, rfl⟩ := olF_mem.mp hj
    exact h1 x (by omega))
/-- the answer, by what is asked -/
def blA (H : mzH) (w v : Int) : Prop := ∃ o l, blB H (fZ H 25 2).toInt.toNat o l ∧ v = if w = 0 then o else l
set_option maxRecDepth 4000 in
set_option maxHeartbeats 4000000 in
/-- X0.refusalAt -/
theorem w55_7 {s : pS} (a1 : Int32) (ha1 : 0 ≤ a1.toInt ∧ a1.toInt ≤ 59) (H : mzH) (hI : gI SX H) (hJ : JX H) (hp0 : gdY H) (hp1 : wdX H 55 s) (hp2 : wfS 8 s) (hp3 : a1.toInt < (fZ H 25 2).toInt) : gCall 7 [.ref 54, .int a1, .ref 55] H (gRi (fun v H' => gI SX H' ∧ JX H' ∧ (0 ≤ v.toInt ∧ v.toInt ≤ 1) ∧ fZ H' 1 1 = fZ H 1 1 ∧ kpN 56 61 H H' ∧ wdX H' 55 (stH H (hoX H) s (odX H a1.toInt.toNat)) ∧ ((v.toInt = 0 ∧ vdH H (hoX H) s (odX H a1.toInt.toNat) = 0) ∨ (v.toInt = 1 ∧ ¬ vdH H (hoX H) s (odX H a1.toInt.toNat) = 0)))) := by
  obtain ⟨k1_1, ek1_1⟩ : ∃ z, z = fZ H 1 1 := ⟨_, rfl⟩
  have ik1_1 : k1_1.toInt = (fZ H 1 1).toInt := by rw [← ek1_1]
  have bk1_1 : 0 ≤ k1_1.toInt ∧ k1_1.toInt ≤ 900 := by rw [ek1_1]; exact fZ_of hI sx_1 rfl
  have mkfr : kpN 56 61 H H := kpN_r
  refine gG_call [(0, .ref 54), (1, .int a1), (2, .ref 55)] ⟨rfl, rfl, rfl, trivial⟩ ?_
  show gG 3 zB_7 (mzBlk zB_7 0) [(0, .ref 54), (1, .int a1), (2, .ref 55)] [] H 0 0 _
  refine g_aload_n rfl ?_
  refine g_aload_n rfl ?_
  refine g_gfr hI sx_54 rfl ?_
  refine g_aload_n rfl ?_
  refine g_gfr hI sx_54 rfl ?_
  refine g_gfr hI sx_25 rfl ?_
  refine g_iload_n rfl ?_
  refine g_iaload hI sx_27 rfl (by omega) (fun v69 ev69 lv69 uv69 => ?_)
  have zv69 : v69.toInt.toNat = odX H a1.toInt.toNat := by rw [ev69, (mkfr 27 (by omega)).2]; rfl
  refine g_aload_n rfl ?_
  refine g_gfr hI sx_54 rfl ?_
  refine g_iload_n rfl ?_
  refine g_invvi hI sx_25 rfl rfl rfl rfl (w_27 25 zCo_25 a1 (by omega) H hI hJ) (fun v72 H70 r71 => ?_)
  obtain ⟨rfl, p73⟩ := r71
  have hyv72 : v72.toInt = hoX H (odX H a1.toInt.toNat) := by rw [p73]; show (aZ H 26 (aZ H 27 _).toInt.toNat).toInt = _; rw [(mkfr 26 (by omega)).2, (mkfr 27 (by omega)).2]; rfl
  have hbv72 : 0 ≤ v72.toInt ∧ v72.toInt ≤ 999 := by rw [hyv72]; exact (hp0.2.2 (odX H a1.toInt.toNat) (hp0.2.1 a1.toInt.toNat (by omega))).2.2.2.2.1
  refine g_invvi hI sx_55 rfl rfl rfl rfl (w_93 55 zWo_55 v69 (by omega) v72 (by omega) H hI hJ hp1 (wf_la hp2) (wf_kd hp2) (by rw [(mkfr 7 (by omega)).2, zv69]; exact (hp0.2.2 (odX H a1.toInt.toNat) (hp0.2.1 a1.toInt.toNat (by omega))).1)) (fun v76 H74 r75 => ?_)
  obtain ⟨hIH74, hJH74, w77, m78, p79, p80⟩ := r75
  have e81 : k1_1 = fZ H74 1 1 := ek1_1.trans w77.symm
  have m82 : kpN 56 61 H H74 := kpN_t mkfr m78
  have wzv69 : wdX H74 55 (stH H (hoX H) s (odX H a1.toInt.toNat)) := gx_l3 (kpX_W (w := 55) (by decide) mkfr) p79 zv69 hyv72
  have vdv69 := gv_l3 (hr := hoX H) (kpX_W (w := 55) (by decide) mkfr) p80 zv69 hyv72
  refine g_if_eq (fun c83 => ?_) (fun c83 => ?_)
  · refine g_iconst (by decide) (fun v84 kv84 => ?_)
    refine g_nop ?_
    exact g_iret ⟨_, rfl, hIH74, hJH74, (by omega), (e81.symm.trans ek1_1), m82, wzv69, (by omega)⟩
  · refine g_iconst (by decide) (fun v85 kv85 => ?_)
    refine g_goto ?_
    exact g_iret ⟨_, rfl, hIH74, hJH74, (by omega), (e81.symm.trans ek1_1), m82, wzv69, (by omega)⟩
set_option maxRecDepth 4000 in
set_option maxHeartbeats 4000000 in
/-- X0.refusalAt -/
theorem w62_7 {s : pS} (a1 : Int32) (ha1 : 0 ≤ a1.toInt ∧ a1.toInt ≤ 59) (H : mzH) (hI : gI SX H) (hJ : JX H) (hp0 : gdY H) (hp1 : wdX H 62 s) (hp2 : wfS 8 s) (hp3 : a1.toInt < (fZ H 25 2).toInt) : gCall 7 [.ref 54, .int a1, .ref 62] H (gRi (fun v H' => gI SX H' ∧ JX H' ∧ (0 ≤ v.toInt ∧ v.toInt ≤ 1) ∧ fZ H' 1 1 = fZ H 1 1 ∧ kpN 63 68 H H' ∧ wdX H' 62 (stH H (hoX H) s (odX H a1.toInt.toNat)) ∧ ((v.toInt = 0 ∧ vdH H (hoX H) s (odX H a1.toInt.toNat) = 0) ∨ (v.toInt = 1 ∧ ¬ vdH H (hoX H) s (odX H a1.toInt.toNat) = 0)))) := by
  obtain ⟨k1_1, ek1_1⟩ : ∃ z, z = fZ H 1 1 := ⟨_, rfl⟩
  have ik1_1 : k1_1.toInt = (fZ H 1 1).toInt := by rw [← ek1_1]
  have bk1_1 : 0 ≤ k1_1.toInt ∧ k1_1.toInt ≤ 900 := by rw [ek1_1]; exact fZ_of hI sx_1 rfl
  have mkfr : kpN 63 68 H H := kpN_r
  refine gG_call [(0, .ref 54), (1, .int a1), (2, .ref 62)] ⟨rfl, rfl, rfl, trivial⟩ ?_
  show gG 3 zB_7 (mzBlk zB_7 0) [(0, .ref 54), (1, .int a1), (2, .ref 62)] [] H 0 0 _
  refine g_aload_n rfl ?_
  refine g_aload_n rfl ?_
  refine g_gfr hI sx_54 rfl ?_
  refine g_aload_n rfl ?_
  refine g_gfr hI sx_54 rfl ?_
  refine g_gfr hI sx_25 rfl ?_
  refine g_iload_n rfl ?_
  refine g_iaload hI sx_27 rfl (by omega) (fun v69 ev69 lv69 uv69 => ?_)
  have zv69 : v69.toInt.toNat = odX H a1.toInt.toNat := by rw [ev69, (mkfr 27 (by omega)).2]; rfl
  refine g_aload_n rfl ?_
  refine g_gfr hI sx_54 rfl ?_
  refine g_iload_n rfl ?_
  refine g_invvi hI sx_25 rfl rfl rfl rfl (w_27 25 zCo_25 a1 (by omega) H hI hJ) (fun v72 H70 r71 => ?_)
  obtain ⟨rfl, p73⟩ := r71
  have hyv72 : v72.toInt = hoX H (odX H a1.toInt.toNat) := by rw [p73]; show (aZ H 26 (aZ H 27 _).toInt.toNat).toInt = _; rw [(mkfr 26 (by omega)).2, (mkfr 27 (by omega)).2]; rfl
  have hbv72 : 0 ≤ v72.toInt ∧ v72.toInt ≤ 999 := by rw [hyv72]; exact (hp0.2.2 (odX H a1.toInt.toNat) (hp0.2.1 a1.toInt.toNat (by omega))).2.2.2.2.1
  refine g_invvi hI sx_62 rfl rfl rfl rfl (w_93 62 zWo_62 v69 (by omega) v72 (by omega) H hI hJ hp1 (wf_la hp2) (wf_kd hp2) (by rw [(mkfr 7 (by omega)).2, zv69]; exact (hp0.2.2 (odX H a1.toInt.toNat) (hp0.2.1 a1.toInt.toNat (by omega))).1)) (fun v76 H74 r75 => ?_)
  obtain ⟨hIH74, hJH74, w77, m78, p79, p80⟩ := r75
  have e81 : k1_1 = fZ H74 1 1 := ek1_1.trans w77.symm
  have m82 : kpN 63 68 H H74 := kpN_t mkfr m78
  have wzv69 : wdX H74 62 (stH H (hoX H) s (odX H a1.toInt.toNat)) := gx_l3 (kpX_W (w := 62) (by decide) mkfr) p79 zv69 hyv72
  have vdv69 := gv_l3 (hr := hoX H) (kpX_W (w := 62) (by decide) mkfr) p80 zv69 hyv72
  refine g_if_eq (fun c83 => ?_) (fun c83 => ?_)
  · refine g_iconst (by decide) (fun v84 kv84 => ?_)
    refine g_nop ?_
    exact g_iret ⟨_, rfl, hIH74, hJH74, (by omega), (e81.symm.trans ek1_1), m82, wzv69, (by omega)⟩
  · refine g_iconst (by decide) (fun v85 kv85 => ?_)
    refine g_goto ?_
    exact g_iret ⟨_, rfl, hIH74, hJH74, (by omega), (e81.symm.trans ek1_1), m82, wzv69, (by omega)⟩
set_option maxRecDepth 4000 in
set_option maxHeartbeats 4000000 in
/-- X0.refusedBehind -/
theorem w_6 {l : List Nat} (a1 : Int32) (ha1 : 0 ≤ a1.toInt ∧ a1.toInt ≤ 59) (a2 : Int32) (ha2 : 0 ≤ a2.toInt ∧ a2.toInt ≤ 60) (a3 : Int32) (H : mzH) (hI : gI SX H) (hJ : JX H) (hp0 : gdY H) (hp1 : wdX H 69 (rnH H (hoX H) l)) (hp2 : (∀ j, j ∈ l → j < (fZ H 25 2).toInt.toNat)) (hp3 : l.length ≤ (a1.toInt.toNat + 1)) (hp4 : a2.toInt = rfL H (hoX H) l) (hp5 : a1.toInt < (fZ H 25 2).toInt) : gCall 6 [.ref 54, .int a1, .int a2, .int a3] H (gRi (fun v H' => gI SX H' ∧ JX H' ∧ fZ H' 1 1 = fZ H 1 1 ∧ kpN 70 75 H H' ∧ rbR v.toInt a3.toInt (rfL H (hoX H) (bhL l (odX H) (a1.toInt.toNat + 1) (fZ H 25 2).toInt.toNat)))) := by
  obtain ⟨k1_1, ek1_1⟩ : ∃ z, z = fZ H 1 1 := ⟨_, rfl⟩
  have ik1_1 : k1_1.toInt = (fZ H 1 1).toInt := by rw [← ek1_1]
  have bk1_1 : 0 ≤ k1_1.toInt ∧ k1_1.toInt ≤ 900 := by rw [ek1_1]; exact fZ_of hI sx_1 rfl
  have mkfr : kpN 70 75 H H := kpN_r
  refine gG_call [(0, .ref 54), (1, .int a1), (2, .int a2), (3, .int a3)] ⟨rfl, rfl, rfl, rfl, trivial⟩ ?_
  show gG 6 zB_6 (mzBlk zB_6 0) [(0, .ref 54), (1, .int a1), (2, .int a2), (3, .int a3)] [] H 0 0 _
  refine g_iload_n rfl ?_
  refine g_istore (l' := [(0, .ref 54), (1, .int a1), (2, .int a2), (3, .int a3), (4, .int a2)]) rfl rfl ?_
  refine g_iload_n rfl ?_
  refine g_iconst (by decide) (fun v597 kv597 => ?_)
  refine g_iadd (by omega) (fun v598 ev598 => ?_)
  refine g_istore (l' := [(0, .ref 54), (1, .int a1), (2, .int a2), (3, .int a3), (4, .int a2), (5, .int v598)]) rfl rfl ?_
  refine g_nop ?_
  have L604 : ∀ (N : Nat) (v599 : Int32) (v600 : Int32) (H601 : mzH), gI SX H601 → JX H601 → k1_1 = fZ H601 1 1 → kpN 70 75 H H601 → (0 ≤ v599.toInt ∧ v599.toInt ≤ 60) → (1 ≤ v600.toInt ∧ v600.toInt ≤ 60) → wdX H601 69 (rnH H (hoX H) (bhL l (odX H) (a1.toInt.toNat + 1) v600.toInt.toNat)) → v599.toInt = rfL H (hoX H) (bhL l (odX H) (a1.toInt.toNat + 1) v600.toInt.toNat) → (a1.toInt + 1 ≤ v600.toInt ∧ v600.toInt ≤ (fZ H 25 2).toInt) → (60 - v600.toInt).toNat < N → gG 6 zB_6 (mzBlk zB_6 1) [(0, .ref 54), (1, .int a1), (2, .int a2), (3, .int a3), (4, .int v599), (5, .int v600)] [] H601 0 0 (gRi (fun v H' => gI SX H' ∧ JX H' ∧ fZ H' 1 1 = fZ H 1 1 ∧ kpN 70 75 H H' ∧ rbR v.toInt a3.toInt (rfL H (hoX H) (bhL l (odX H) (a1.toInt.toNat + 1) (fZ H 25 2).toInt.toNat)))) := by
    intro N
    induction N with
    | zero => intro v599 v600 H601 hIH601 hJH601 e602 m603 bv599 bv600 q1 q2 q3 hmL604; exact absurd hmL604 (Nat.not_lt_zero _)
    | succ N ihL604 =>
      intro v599 v600 H601 hIH601 hJH601 e602 m603 bv599 bv600 q1 q2 q3 hmL604
      have rb := bh_b q2 hp3 (by omega)
      refine g_iload rfl ?_
      refine g_aload_n rfl ?_
      refine g_gfr hIH601 sx_54 rfl ?_
      refine g_gfi hIH601 sx_25 rfl (fun v605 ev605 lv605 uv605 => ?_)
      have zv605 : v605.toInt = (fZ H 25 2).toInt := by rw [ev605, (m603 25 (by decide)).1]
      refine g_if2_ge (fun c606 => ?_) (fun c606 => ?_)
      · refine g_iload rfl ?_
        exact g_iret ⟨_, rfl, hIH601, hJH601, (e602.symm.trans ek1_1), m603, (rb_1 q2 (by omega) (by omega) (by first | exact Or.inl (by omega) | exact Or.inr (by omega)))⟩
      · refine g_iload rfl ?_
        refine g_iload_n rfl ?_
        refine g_if2_gt (fun c607 => ?_) (fun c607 => ?_)
        · refine g_iload rfl ?_
          exact g_iret ⟨_, rfl, hIH601, hJH601, (e602.symm.trans ek1_1), m603, (rb_1 q2 (by omega) (by omega) (by first | exact Or.inl (by omega) | exact Or.inr (by omega)))⟩
        · refine g_iload rfl ?_
          refine g_aload_n rfl ?_
          refine g_gfr hIH601 sx_54 rfl ?_
          refine g_aload_n rfl ?_
          refine g_gfr hIH601 sx_54 rfl ?_
          refine g_aload_n rfl ?_
          refine g_gfr hIH601 sx_54 rfl ?_
          refine g_gfr hIH601 sx_25 rfl ?_
          refine g_iload rfl ?_
          refine g_iaload hIH601 sx_27 rfl (by omega) (fun v608 ev608 lv608 uv608 => ?_)
          have zv608 : v608.toInt.toNat = odX H v600.toInt.toNat := by rw [ev608, (m603 27 (by omega)).2]; rfl
          refine g_aload_n rfl ?_
          refine g_gfr hIH601 sx_54 rfl ?_
          refine g_iload rfl ?_
          refine g_invvi hIH601 sx_25 rfl rfl rfl rfl (w_27 25 zCo_25 v600 (by omega) H601 hIH601 hJH601) (fun v611 H609 r610 => ?_)
          obtain ⟨rfl, p612⟩ := r610
          have hyv611 : v611.toInt = hoX H (odX H v600.toInt.toNat) := by rw [p612]; show (aZ H601 26 (aZ H601 27 _).toInt.toNat).toInt = _; rw [(m603 26 (by omega)).2, (m603 27 (by omega)).2]; rfl
          have hbv611 : 0 ≤ v611.toInt ∧ v611.toInt ≤ 999 := by rw [hyv611]; exact (hp0.2.2 (odX H v600.toInt.toNat) (hp0.2.1 v600.toInt.toNat (by omega))).2.2.2.2.1
          refine g_invvi hIH601 sx_69 rfl rfl rfl rfl (w_93 69 zWo_69 v608 (by omega) v611 (by omega) H601 hIH601 hJH601 q1 (wf_la (bh_wf hp0 hp2 (by omega))) (wf_kd (bh_wf hp0 hp2 (by omega))) (by rw [(m603 7 (by omega)).2, zv608]; exact (hp0.2.2 (odX H v600.toInt.toNat) (hp0.2.1 v600.toInt.toNat (by omega))).1)) (fun v615 H613 r614 => ?_)
          obtain ⟨hIH613, hJH613, w616, m617, p618, p619⟩ := r614
          have e620 : k1_1 = fZ H613 1 1 := e602.trans w616.symm
          have m621 : kpN 70 75 H H613 := kpN_t m603 m617
          have wzv608 : wdX H613 69 (stH H (hoX H) (rnH H (hoX H) (bhL l (odX H) (a1.toInt.toNat + 1) v600.toInt.toNat)) (odX H v600.toInt.toNat)) := gx_l3 (kpX_W (w := 69) (by decide) m603) p618 zv608 hyv611
          have vdv608 := gv_l3 (hr := hoX H) (kpX_W (w := 69) (by decide) m603) p619 zv608 hyv611
          refine g_if_eq (fun c622 => ?_) (fun c622 => ?_)
          · refine g_iconst (by decide) (fun v623 kv623 => ?_)
            refine g_nop ?_
            refine g_iadd (by omega) (fun v624 ev624 => ?_)
            refine g_istore (l' := [(0, .ref 54), (1, .int a1), (2, .int a2), (3, .int a3), (4, .int v624), (5, .int v600)]) rfl rfl ?_
            refine g_iinc (l' := (fun v625 => [(0, .ref 54), (1, .int a1), (2, .int a2), (3, .int a3), (4, .int v624), (5, .int v625)])) rfl rfl (by decide) (by omega) (fun _ => rfl) (fun v625 ev625 => ?_)
            refine g_goto ?_
            exact ihL604 v624 v625 H613 hIH613 hJH613 e620 m621 (by omega) (by omega) (by rw [show v625.toInt.toNat = v600.toInt.toNat + 1 by omega, bh_s (by omega)]; exact wd_rn wzv608 rfl) (rb_st (u := v624.toInt - v599.toInt) q2 (by omega) (by omega) vdv608 (by omega) (by omega)) (by omega) (by omega)
          · refine g_iconst (by decide) (fun v626 kv626 => ?_)
            refine g_goto ?_
            refine g_iadd (by omega) (fun v627 ev627 => ?_)
            refine g_istore (l' := [(0, .ref 54), (1, .int a1), (2, .int a2), (3, .int a3), (4, .int v627), (5, .int v600)]) rfl rfl ?_
            refine g_iinc (l' := (fun v628 => [(0, .ref 54), (1, .int a1), (2, .int a2), (3, .int a3), (4, .int v627), (5, .int v628)])) rfl rfl (by decide) (by omega) (fun _ => rfl) (fun v628 ev628 => ?_)
            refine g_goto ?_
            exact ihL604 v627 v628 H613 hIH613 hJH613 e620 m621 (by omega) (by omega) (by rw [show v628.toInt.toNat = v600.toInt.toNat + 1 by omega, bh_s (by omega)]; exact wd_rn wzv608 rfl) (rb_st (u := v627.toInt - v599.toInt) q2 (by omega) (by omega) vdv608 (by omega) (by omega)) (by omega) (by omega)
  exact L604 _ a2 v598 H hI hJ ek1_1 mkfr (by omega) (by omega) (by rw [bh_0 (show v598.toInt.toNat ≤ (a1.toInt.toNat + 1) by omega)]; exact hp1) (by rw [bh_0 (show v598.toInt.toNat ≤ (a1.toInt.toNat + 1) by omega)]; exact hp4) (by omega) (Nat.lt_succ_self _)
set_option maxRecDepth 4000 in
set_option maxHeartbeats 4000000 in
/-- X8.become -/
theorem wb_69_55 {s : pS} (H : mzH) (hI : gI SX H) (hJ : JX H) (hp0 : wdX H 55 s) : gCall 84 [.ref 69, .ref 55] H (gRv (fun H' => gI SX H' ∧ JX H' ∧ fZ H' 1 1 = fZ H 1 1 ∧ kpN 70 75 H H' ∧ wdX H' 69 s)) := by
  obtain ⟨k1_1, ek1_1⟩ : ∃ z, z = fZ H 1 1 := ⟨_, rfl⟩
  have ik1_1 : k1_1.toInt = (fZ H 1 1).toInt := by rw [← ek1_1]
  have bk1_1 : 0 ≤ k1_1.toInt ∧ k1_1.toInt ≤ 900 := by rw [ek1_1]; exact fZ_of hI sx_1 rfl
  have mkfr : kpN 70 75 H H := kpN_r
  refine gG_call [(0, .ref 69), (1, .ref 55)] ⟨rfl, rfl, trivial⟩ ?_
  show gG 2 zB_84 (mzBlk zB_84 0) [(0, .ref 69), (1, .ref 55)] [] H 0 0 _
  refine g_aload_n rfl ?_
  refine g_gfr hI sx_55 rfl ?_
  refine g_iconst (by decide) (fun v145 kv145 => ?_)
  refine g_aload_n rfl ?_
  refine g_gfr hI sx_69 rfl ?_
  refine g_iconst (by decide) (fun v146 kv146 => ?_)
  refine g_bipush (by decide) (fun v147 kv147 => ?_)
  refine g_acp hI sx_70 sx_56 (by decide) (by decide) (by omega) (by omega) (by omega) rfl (fun H148 eH148 hIH148 => ?_)
  have hJH148 : JX H148 := JX_sC (by omega) eH148 hJ
  have e149 : k1_1 = fZ H148 1 1 := by rw [eH148, fZ_sC hI sx_70 sx_56]; exact ek1_1
  have m150 : kpN 70 75 H H148 := kpN_C hI sx_70 sx_56 mkfr eH148 (by omega)
  refine g_aload_n rfl ?_
  refine g_gfr hIH148 sx_55 rfl ?_
  refine g_iconst (by decide) (fun v151 kv151 => ?_)
  refine g_aload_n rfl ?_
  refine g_gfr hIH148 sx_69 rfl ?_
  refine g_iconst (by decide) (fun v152 kv152 => ?_)
  refine g_bipush (by decide) (fun v153 kv153 => ?_)
  refine g_acp hIH148 sx_71 sx_57 (by decide) (by decide) (by omega) (by omega) (by omega) rfl (fun H154 eH154 hIH154 => ?_)
  have hJH154 : JX H154 := JX_sC (by omega) eH154 hJH148
  have e155 : k1_1 = fZ H154 1 1 := by rw [eH154, fZ_sC hIH148 sx_71 sx_57]; exact e149
  have m156 : kpN 70 75 H H154 := kpN_C hIH148 sx_71 sx_57 m150 eH154 (by omega)
  refine g_aload_n rfl ?_
  refine g_gfr hIH154 sx_55 rfl ?_
  refine g_iconst (by decide) (fun v157 kv157 => ?_)
  refine g_aload_n rfl ?_
  refine g_gfr hIH154 sx_69 rfl ?_
  refine g_iconst (by decide) (fun v158 kv158 => ?_)
  refine g_bipush (by decide) (fun v159 kv159 => ?_)
  refine g_acp hIH154 sx_72 sx_58 (by decide) (by decide) (by omega) (by omega) (by omega) rfl (fun H160 eH160 hIH160 => ?_)
  have hJH160 : JX H160 := JX_sC (by omega) eH160 hJH154
  have e161 : k1_1 = fZ H160 1 1 := by rw [eH160, fZ_sC hIH154 sx_72 sx_58]; exact e155
  have m162 : kpN 70 75 H H160 := kpN_C hIH154 sx_72 sx_58 m156 eH160 (by omega)
  refine g_aload_n rfl ?_
  refine g_gfr hIH160 sx_55 rfl ?_
  refine g_iconst (by decide) (fun v163 kv163 => ?_)
  refine g_aload_n rfl ?_
  refine g_gfr hIH160 sx_69 rfl ?_
  refine g_iconst (by decide) (fun v164 kv164 => ?_)
  refine g_bipush (by decide) (fun v165 kv165 => ?_)
  refine g_acp hIH160 sx_73 sx_59 (by decide) (by decide) (by omega) (by omega) (by omega) rfl (fun H166 eH166 hIH166 => ?_)
  have hJH166 : JX H166 := JX_sC (by omega) eH166 hJH160
  have e167 : k1_1 = fZ H166 1 1 := by rw [eH166, fZ_sC hIH160 sx_73 sx_59]; exact e161
  have m168 : kpN 70 75 H H166 := kpN_C hIH160 sx_73 sx_59 m162 eH166 (by omega)
  refine g_aload_n rfl ?_
  refine g_gfr hIH166 sx_55 rfl ?_
  refine g_iconst (by decide) (fun v169 kv169 => ?_)
  refine g_aload_n rfl ?_
  refine g_gfr hIH166 sx_69 rfl ?_
  refine g_iconst (by decide) (fun v170 kv170 => ?_)
  refine g_bipush (by decide) (fun v171 kv171 => ?_)
  refine g_acp hIH166 sx_74 sx_60 (by decide) (by decide) (by omega) (by omega) (by omega) rfl (fun H172 eH172 hIH172 => ?_)
  have hJH172 : JX H172 := JX_sC (by omega) eH172 hJH166
  have e173 : k1_1 = fZ H172 1 1 := by rw [eH172, fZ_sC hIH166 sx_74 sx_60]; exact e167
  have m174 : kpN 70 75 H H172 := kpN_C hIH166 sx_74 sx_60 m168 eH172 (by omega)
  refine g_aload_n rfl ?_
  refine g_gfr hIH172 sx_55 rfl ?_
  refine g_iconst (by decide) (fun v175 kv175 => ?_)
  refine g_aload_n rfl ?_
  refine g_gfr hIH172 sx_69 rfl ?_
  refine g_iconst (by decide) (fun v176 kv176 => ?_)
  refine g_bipush (by decide) (fun v177 kv177 => ?_)
  refine g_acp hIH172 sx_75 sx_61 (by decide) (by decide) (by omega) (by omega) (by omega) rfl (fun H178 eH178 hIH178 => ?_)
  have hJH178 : JX H178 := JX_sC (by omega) eH178 hJH172
  have e179 : k1_1 = fZ H178 1 1 := by rw [eH178, fZ_sC hIH172 sx_75 sx_61]; exact e173
  have m180 : kpN 70 75 H H178 := kpN_C hIH172 sx_75 sx_61 m174 eH178 (by omega)
  exact g_ret ⟨rfl, hIH178, hJH178, (e179.symm.trans ek1_1), m180, (fun n hn => by obtain ⟨h1, h2, h3, h4, h5, h6, h7⟩ := hp0 n hn; exact ⟨by show (aZ H178 70 n).toInt = _; rw [eH178, aZ_sC_nc (by decide), eH172, aZ_sC_nc (by decide), eH166, aZ_sC_nc (by decide), eH160, aZ_sC_nc (by decide), eH154, aZ_sC_nc (by decide), eH148, aZ_sC_eq hI sx_70 sx_56]; exact h1, by show (aZ H178 71 n).toInt = _; rw [eH178, aZ_sC_nc (by decide), eH172, aZ_sC_nc (by decide), eH166, aZ_sC_nc (by decide), eH160, aZ_sC_nc (by decide), eH154, aZ_sC_eq hIH148 sx_71 sx_57, eH148, aZ_sC_nc (by decide)]; exact h2, by show (aZ H178 72 n).toInt = _; rw [eH178, aZ_sC_nc (by decide), eH172, aZ_sC_nc (by decide), eH166, aZ_sC_nc (by decide), eH160, aZ_sC_eq hIH154 sx_72 sx_58, eH154, aZ_sC_nc (by decide), eH148, aZ_sC_nc (by decide)]; exact h3, by show (aZ H178 73 n).toInt = _; rw [eH178, aZ_sC_nc (by decide), eH172, aZ_sC_nc (by decide), eH166, aZ_sC_eq hIH160 sx_73 sx_59, eH160, aZ_sC_nc (by decide), eH154, aZ_sC_nc (by decide), eH148, aZ_sC_nc (by decide)]; exact h4, by show (aZ H178 74 n).toInt = _; rw [eH178, aZ_sC_nc (by decide), eH172, aZ_sC_eq hIH166 sx_74 sx_60, eH166, aZ_sC_nc (by decide), eH160, aZ_sC_nc (by decide), eH154, aZ_sC_nc (by decide), eH148, aZ_sC_nc (by decide)]; exact h5, by show (aZ H178 75 n).toInt = _; rw [eH178, aZ_sC_eq hIH172 sx_75 sx_61, eH172, aZ_sC_nc (by decide), eH166, aZ_sC_nc (by decide), eH160, aZ_sC_nc (by decide), eH154, aZ_sC_nc (by decide), eH148, aZ_sC_nc (by decide)]; exact h6, h7⟩)⟩
set_option maxRecDepth 4000 in
set_option maxHeartbeats 4000000 in
/-- X0.findOne -/
theorem w_2  (H : mzH) (hI : gI SX H) (hJ : JX H) (hp0 : gdY H) (hp1 : blK H H) : gCall 2 [.ref 54] H (gRv (fun H' => gI SX H' ∧ JX H' ∧ fZ H' 1 1 = fZ H 1 1 ∧ kpX H H' ∧ (fZ H' 54 5).toInt = 1 ∧ blB H (fZ H 25 2).toInt.toNat (fZ H' 54 7).toInt (fZ H' 54 8).toInt)) := by
  obtain ⟨k1_1, ek1_1⟩ : ∃ z, z = fZ H 1 1 := ⟨_, rfl⟩
  have ik1_1 : k1_1.toInt = (fZ H 1 1).toInt := by rw [← ek1_1]
  have bk1_1 : 0 ≤ k1_1.toInt ∧ k1_1.toInt ≤ 900 := by rw [ek1_1]; exact fZ_of hI sx_1 rfl
  have mkfr : kpX H H := kpX_r
  refine gG_call [(0, .ref 54)] ⟨rfl, trivial⟩ ?_
  show gG 5 zB_2 (mzBlk zB_2 0) [(0, .ref 54)] [] H 0 0 _
  refine g_aload_n rfl ?_
  refine g_gfi hI sx_54 rfl (fun v2621 ev2621 lv2621 uv2621 => ?_)
  have iev2621 : v2621.toInt = (fZ H 54 5).toInt := by rw [← ev2621]
  refine g_if_eq (fun c2622 => ?_) (fun c2622 => ?_)
  · refine g_aload_n rfl ?_
    refine g_iconst (by decide) (fun v2623 kv2623 => ?_)
    refine g_pfz hI sx_54 rfl (by omega) (fun H2624 eH2624 hIH2624 => ?_)
    have hJH2624 : JX H2624 := JX_sF eH2624 hJ
    have e2625 : k1_1 = fZ H2624 1 1 := by rw [eH2624, fZ_sF_nc (by omega)]; exact ek1_1
    have e2626 : v2623 = fZ H2624 54 5 := by rw [eH2624, fZ_sF_eq hI sx_54 rfl]
    have m2627 : kpX H H2624 := kpX_F mkfr eH2624 (by omega)
    have jj2628_7 : (fZ H2624 54 7).toInt = (fZ H 54 7).toInt := by rw [eH2624, fZ_sF_ne (by decide)]
    have jj2629_8 : (fZ H2624 54 8).toInt = (fZ H 54 8).toInt := by rw [eH2624, fZ_sF_ne (by decide)]
    have ie2626 : v2623.toInt = (fZ H2624 54 5).toInt := by rw [← e2626]
    refine g_aload_n rfl ?_
    refine g_bipush (by decide) (fun v2630 kv2630 => ?_)
    refine g_pfi hIH2624 sx_54 rfl (gz_any _) (fun H2631 eH2631 hIH2631 => ?_)
    have hJH2631 : JX H2631 := JX_sF eH2631 hJH2624
    have e2632 : k1_1 = fZ H2631 1 1 := by rw [eH2631, fZ_sF_nc (by omega)]; exact e2625
    have e2633 : v2623 = fZ H2631 54 5 := by rw [eH2631, fZ_sF_ne (by decide)]; exact e2626
    have e2634 : v2630 = fZ H2631 54 8 := by rw [eH2631, fZ_sF_eq hIH2624 sx_54 rfl]
    have m2635 : kpX H H2631 := kpX_F m2627 eH2631 (by omega)
    have jj2636_7 : (fZ H2631 54 7).toInt = (fZ H2624 54 7).toInt := by rw [eH2631, fZ_sF_ne (by decide)]
    have ie2633 : v2623.toInt = (fZ H2631 54 5).toInt := by rw [← e2633]
    have ie2634 : v2630.toInt = (fZ H2631 54 8).toInt := by rw [← e2634]
    refine g_aload_n rfl ?_
    refine g_gfr hIH2631 sx_54 rfl ?_
    refine g_invvv hIH2631 sx_55 rfl rfl rfl rfl (w_83 55 zWo_55 H2631 hIH2631 hJH2631) (fun H2637 r2638 => ?_)
    obtain ⟨hIH2637, hJH2637, w2639, m2640, p2641⟩ := r2638
    have e2642 : k1_1 = fZ H2637 1 1 := e2632.trans w2639.symm
    have m2643 : kpX H H2637 := kpX_t m2635 (kpX_W (by decide) m2640)
    have jf2644 : (fZ H2637 54 5).toInt = (fZ H2631 54 5).toInt := by rw [(m2640 54 (by decide)).1 5]
    have jf2645 : (fZ H2637 54 7).toInt = (fZ H2631 54 7).toInt := by rw [(m2640 54 (by decide)).1 7]
    have jf2646 : (fZ H2637 54 8).toInt = (fZ H2631 54 8).toInt := by rw [(m2640 54 (by decide)).1 8]
    have wz0 : wdX H2637 55 (rnH H (hoX H) (olF 0 (odX H))) := p2641
    refine g_iconst (by decide) (fun v2647 kv2647 => ?_)
    refine g_istore_n (l' := [(0, .ref 54), (1, .int v2647)]) rfl rfl ?_
    refine g_iconst (by decide) (fun v2648 kv2648 => ?_)
    refine g_istore_n (l' := [(0, .ref 54), (1, .int v2647), (2, .int v2648)]) rfl rfl ?_
    refine g_nop ?_
    have L2654 : ∀ (N : Nat) (v2649 : Int32) (v2650 : Int32) (H2651 : mzH), gI SX H2651 → JX H2651 → k1_1 = fZ H2651 1 1 → kpX H H2651 → (0 ≤ v2649.toInt ∧ v2649.toInt ≤ 60) → (0 ≤ v2650.toInt ∧ v2650.toInt ≤ 60) → wdX H2651 55 (rnH H (hoX H) (olF v2650.toInt.toNat (odX H))) → v2649.toInt = rfL H (hoX H) (olF v2650.toInt.toNat (odX H)) → (v2650.toInt ≤ (fZ H 25 2).toInt ∧ 0 ≤ v2649.toInt ∧ v2649.toInt ≤ v2650.toInt) → blB H v2650.toInt.toNat (fZ H2651 54 7).toInt (fZ H2651 54 8).toInt → (fZ H2651 54 5).toInt = 1 → (60 - v2650.toInt).toNat < N → gG 5 zB_2 (mzBlk zB_2 2) [(0, .ref 54), (1, .int v2649), (2, .int v2650)] [] H2651 0 0 (gRv (fun H' => gI SX H' ∧ JX H' ∧ fZ H' 1 1 = fZ H 1 1 ∧ kpX H H' ∧ (fZ H' 54 5).toInt = 1 ∧ blB H (fZ H 25 2).toInt.toNat (fZ H' 54 7).toInt (fZ H' 54 8).toInt)) := by
      intro N
      induction N with
      | zero => intro v2649 v2650 H2651 hIH2651 hJH2651 e2652 m2653 bv2649 bv2650 q1 q2 q3 q4 q5 hmL2654; exact absurd hmL2654 (Nat.not_lt_zero _)
      | succ N ihL2654 =>
        intro v2649 v2650 H2651 hIH2651 hJH2651 e2652 m2653 bv2649 bv2650 q1 q2 q3 q4 q5 hmL2654
        have hsz := fZ_of hI sx_25 (f := 2) rfl
        refine g_iload_n rfl ?_
        refine g_aload_n rfl ?_
        refine g_gfr hIH2651 sx_54 rfl ?_
        refine g_gfi hIH2651 sx_25 rfl (fun v2655 ev2655 lv2655 uv2655 => ?_)
        have zv2655 : v2655.toInt = (fZ H 25 2).toInt := by rw [ev2655, (m2653 25 (by decide)).1]
        refine g_if2_ge (fun c2656 => ?_) (fun c2656 => ?_)
        · exact g_ret ⟨rfl, hIH2651, hJH2651, (e2652.symm.trans ek1_1), m2653, (by omega), (by rw [show (fZ H 25 2).toInt.toNat = v2650.toInt.toNat by omega]; exact q4)⟩
        · refine g_aload_n rfl ?_
          refine g_gfr hIH2651 sx_54 rfl ?_
          refine g_aload_n rfl ?_
          refine g_gfr hIH2651 sx_54 rfl ?_
          refine g_invvv hIH2651 sx_69 rfl rfl rfl rfl (wb_69_55 H2651 hIH2651 hJH2651 q1) (fun H2657 r2658 => ?_)
          obtain ⟨hIH2657, hJH2657, w2659, m2660, p2661⟩ := r2658
          have e2662 : k1_1 = fZ H2657 1 1 := e2652.trans w2659.symm
          have m2663 : kpX H H2657 := kpX_t m2653 (kpX_W (w := 69) (by decide) m2660)
          have jf2664 : (fZ H2657 54 5).toInt = (fZ H2651 54 5).toInt := by rw [(m2660 54 (by decide)).1 5]
          have jf2665 : (fZ H2657 54 7).toInt = (fZ H2651 54 7).toInt := by rw [(m2660 54 (by decide)).1 7]
          have jf2666 : (fZ H2657 54 8).toInt = (fZ H2651 54 8).toInt := by rw [(m2660 54 (by decide)).1 8]
          have wk2667 : wdX H2657 55 (rnH H (hoX H) (olF v2650.toInt.toNat (odX H))) := wdX_n q1 m2660 (by decide)
          refine g_aload_n rfl ?_
          refine g_gfr hIH2657 sx_54 rfl ?_
          refine g_gfr hIH2657 sx_25 rfl ?_
          refine g_iload_n rfl ?_
          refine g_iaload hIH2657 sx_27 rfl (by omega) (fun v2668 ev2668 lv2668 uv2668 => ?_)
          have zv2668 : v2668.toInt = (odX H v2650.toInt.toNat : Int) := by have z : odX H v2650.toInt.toNat = v2668.toInt.toNat := (by rw [← od_kp m2663, ev2668]; rfl); omega
          refine g_istore_n (l' := [(0, .ref 54), (1, .int v2649), (2, .int v2650), (3, .int v2668)]) rfl rfl ?_
          refine g_aload_n rfl ?_
          refine g_iload_n rfl ?_
          refine g_iload_n rfl ?_
          refine g_aload_n rfl ?_
          refine g_gfi hIH2657 sx_54 rfl (fun v2669 ev2669 lv2669 uv2669 => ?_)
          have iev2669 : v2669.toInt = (fZ H2657 54 8).toInt := by rw [← ev2669]
          refine g_invvi hIH2657 sx_54 rfl rfl rfl rfl (w_6 (l := olF v2650.toInt.toNat (odX H)) v2650 (by omega) v2649 (by omega) v2669 H2657 hIH2657 hJH2657 (gdY_kp m2663 hp0) (by rw [rnH_kx m2663]; exact p2661) (by rw [(m2663 25 (by decide)).1]; exact ol_lt hp0 (by omega)) (by rw [olF_len]; omega) (by rw [rfL_kx m2663]; exact q2) (by rw [(m2663 25 (by decide)).1]; omega)) (fun v2672 H2670 r2671 => ?_)
          obtain ⟨hIH2670, hJH2670, w2673, m2674, p2675⟩ := r2671
          have e2676 : k1_1 = fZ H2670 1 1 := e2662.trans w2673.symm
          have m2677 : kpX H H2670 := kpX_t m2663 (kpX_W (w := 69) (by decide) m2674)
          have jf2678 : (fZ H2670 54 5).toInt = (fZ H2657 54 5).toInt := by rw [(m2674 54 (by decide)).1 5]
          have jf2679 : (fZ H2670 54 7).toInt = (fZ H2657 54 7).toInt := by rw [(m2674 54 (by decide)).1 7]
          have jf2680 : (fZ H2670 54 8).toInt = (fZ H2657 54 8).toInt := by rw [(m2674 54 (by decide)).1 8]
          have wk2681 : wdX H2670 55 (rnH H (hoX H) (olF v2650.toInt.toNat (odX H))) := wdX_n wk2667 m2674 (by decide)
          have rbv2672 : rbR v2672.toInt (fZ H2651 54 8).toInt (tO H v2650.toInt.toNat) := by have z := p2675; rw [rfL_kp m2663, show v2669.toInt = (fZ H2651 54 8).toInt by omega] at z; exact z
          refine g_istore (l' := [(0, .ref 54), (1, .int v2649), (2, .int v2650), (3, .int v2668), (4, .int v2672)]) rfl rfl ?_
          refine g_iload rfl ?_
          refine g_aload_n rfl ?_
          refine g_gfi hIH2670 sx_54 rfl (fun v2682 ev2682 lv2682 uv2682 => ?_)
          have iev2682 : v2682.toInt = (fZ H2670 54 8).toInt := by rw [← ev2682]
          refine g_if2_lt (fun c2683 => ?_) (fun c2683 => ?_)
          · refine g_aload_n rfl ?_
            refine g_iload_n rfl ?_
            refine g_pfi hIH2670 sx_54 rfl (gz_any _) (fun H2684 eH2684 hIH2684 => ?_)
            have hJH2684 : JX H2684 := JX_sF eH2684 hJH2670
            have e2685 : k1_1 = fZ H2684 1 1 := by rw [eH2684, fZ_sF_nc (by omega)]; exact e2676
            have e2686 : v2682 = fZ H2684 54 8 := by rw [eH2684, fZ_sF_ne (by decide)]; exact ev2682
            have e2687 : v2668 = fZ H2684 54 7 := by rw [eH2684, fZ_sF_eq hIH2670 sx_54 rfl]
            have m2688 : kpX H H2684 := kpX_F m2677 eH2684 (by omega)
            have jj2689_5 : (fZ H2684 54 5).toInt = (fZ H2670 54 5).toInt := by rw [eH2684, fZ_sF_ne (by decide)]
            have wfH2684 := wn_F wk2681 eH2684
            have ie2686 : v2682.toInt = (fZ H2684 54 8).toInt := by rw [← e2686]
            have ie2687 : v2668.toInt = (fZ H2684 54 7).toInt := by rw [← e2687]
            refine g_aload_n rfl ?_
            refine g_iload rfl ?_
            refine g_pfi hIH2684 sx_54 rfl (gz_any _) (fun H2690 eH2690 hIH2690 => ?_)
            have hJH2690 : JX H2690 := JX_sF eH2690 hJH2684
            have e2691 : k1_1 = fZ H2690 1 1 := by rw [eH2690, fZ_sF_nc (by omega)]; exact e2685
            have e2692 : v2668 = fZ H2690 54 7 := by rw [eH2690, fZ_sF_ne (by decide)]; exact e2687
            have e2693 : v2672 = fZ H2690 54 8 := by rw [eH2690, fZ_sF_eq hIH2684 sx_54 rfl]
            have m2694 : kpX H H2690 := kpX_F m2688 eH2690 (by omega)
            have jj2695_5 : (fZ H2690 54 5).toInt = (fZ H2684 54 5).toInt := by rw [eH2690, fZ_sF_ne (by decide)]
            have wfH2690 := wn_F wfH2684 eH2690
            have ie2692 : v2668.toInt = (fZ H2690 54 7).toInt := by rw [← e2692]
            have ie2693 : v2672.toInt = (fZ H2690 54 8).toInt := by rw [← e2693]
            refine g_nop ?_
            refine g_iload_n rfl ?_
            refine g_aload_n rfl ?_
            refine g_iload_n rfl ?_
            refine g_aload_n rfl ?_
            refine g_gfr hIH2690 sx_54 rfl ?_
            refine g_invvi hIH2690 sx_54 rfl rfl rfl rfl (w55_7 v2650 (by omega) H2690 hIH2690 hJH2690 (gdY_kp m2694 hp0) wfH2690 (rn_ol hp0 (by omega)) (by rw [(m2694 25 (by decide)).1]; omega)) (fun v2698 H2696 r2697 => ?_)
            obtain ⟨hIH2696, hJH2696, bv2698, w2699, m2700, p2701, p2702⟩ := r2697
            have e2703 : k1_1 = fZ H2696 1 1 := e2691.trans w2699.symm
            have m2704 : kpX H H2696 := kpX_t m2694 (kpX_W (w := 55) (by decide) m2700)
            have jf2705 : (fZ H2696 54 5).toInt = (fZ H2690 54 5).toInt := by rw [(m2700 54 (by decide)).1 5]
            have jf2706 : (fZ H2696 54 7).toInt = (fZ H2690 54 7).toInt := by rw [(m2700 54 (by decide)).1 7]
            have jf2707 : (fZ H2696 54 8).toInt = (fZ H2690 54 8).toInt := by rw [(m2700 54 (by decide)).1 8]
            have wrv2698 : wdX H2696 55 (rnH H (hoX H) (olF (v2650.toInt.toNat + 1) (odX H))) := by have z := p2701; rw [stH_kx m2694, od_kp m2694] at z; exact wd_rn z olF_s
            have rav2698 := p2702
            rw [vdH_kx m2694, od_kp m2694] at rav2698
            refine g_iadd (by omega) (fun v2708 ev2708 => ?_)
            refine g_istore_n (l' := [(0, .ref 54), (1, .int v2708), (2, .int v2650), (3, .int v2668), (4, .int v2672)]) rfl rfl ?_
            refine g_iinc (l' := (fun v2709 => [(0, .ref 54), (1, .int v2708), (2, .int v2709), (3, .int v2668), (4, .int v2672)])) rfl rfl (by decide) (by omega) (fun _ => rfl) (fun v2709 ev2709 => ?_)
            refine g_goto ?_
            refine gG_pick [0, 1, 2] (l' := [(0, .ref 54), (1, .int v2708), (2, .int v2709)]) rfl ?_
            exact ihL2654 v2708 v2709 H2696 hIH2696 hJH2696 e2703 m2704 (by omega) (by omega) (by rw [show v2709.toInt.toNat = v2650.toInt.toNat + 1 by omega]; exact wrv2698) (rf_ol q2 (by omega) rav2698 (by omega)) (by omega) (bl_y q4 (by omega) (by omega) (by omega) rbv2672 (by omega) (by omega) (by omega)) (by omega) (by omega)
          · refine g_iload rfl ?_
            refine g_aload_n rfl ?_
            refine g_gfk hIH2670 sx_54 rfl ev2682 ?_
            refine g_if2_ne (fun c2710 => ?_) (fun c2710 => ?_)
            · refine g_iload_n rfl ?_
              refine g_aload_n rfl ?_
              refine g_iload_n rfl ?_
              refine g_aload_n rfl ?_
              refine g_gfr hIH2670 sx_54 rfl ?_
              refine g_invvi hIH2670 sx_54 rfl rfl rfl rfl (w55_7 v2650 (by omega) H2670 hIH2670 hJH2670 (gdY_kp m2677 hp0) wk2681 (rn_ol hp0 (by omega)) (by rw [(m2677 25 (by decide)).1]; omega)) (fun v2713 H2711 r2712 => ?_)
              obtain ⟨hIH2711, hJH2711, bv2713, w2714, m2715, p2716, p2717⟩ := r2712
              have e2718 : k1_1 = fZ H2711 1 1 := e2676.trans w2714.symm
              have m2719 : kpX H H2711 := kpX_t m2677 (kpX_W (w := 55) (by decide) m2715)
              have jf2720 : (fZ H2711 54 5).toInt = (fZ H2670 54 5).toInt := by rw [(m2715 54 (by decide)).1 5]
              have jf2721 : (fZ H2711 54 7).toInt = (fZ H2670 54 7).toInt := by rw [(m2715 54 (by decide)).1 7]
              have jf2722 : (fZ H2711 54 8).toInt = (fZ H2670 54 8).toInt := by rw [(m2715 54 (by decide)).1 8]
              have wrv2713 : wdX H2711 55 (rnH H (hoX H) (olF (v2650.toInt.toNat + 1) (odX H))) := by have z := p2716; rw [stH_kx m2677, od_kp m2677] at z; exact wd_rn z olF_s
              have rav2713 := p2717
              rw [vdH_kx m2677, od_kp m2677] at rav2713
              refine g_iadd (by omega) (fun v2723 ev2723 => ?_)
              refine g_istore_n (l' := [(0, .ref 54), (1, .int v2723), (2, .int v2650), (3, .int v2668), (4, .int v2672)]) rfl rfl ?_
              refine g_iinc (l' := (fun v2724 => [(0, .ref 54), (1, .int v2723), (2, .int v2724), (3, .int v2668), (4, .int v2672)])) rfl rfl (by decide) (by omega) (fun _ => rfl) (fun v2724 ev2724 => ?_)
              refine g_goto ?_
              refine gG_pick [0, 1, 2] (l' := [(0, .ref 54), (1, .int v2723), (2, .int v2724)]) rfl ?_
              exact ihL2654 v2723 v2724 H2711 hIH2711 hJH2711 e2718 m2719 (by omega) (by omega) (by rw [show v2724.toInt.toNat = v2650.toInt.toNat + 1 by omega]; exact wrv2713) (rf_ol q2 (by omega) rav2713 (by omega)) (by omega) (bl_n q4 (by omega) (by omega) (by omega) rbv2672 (by omega) (by omega) (by omega)) (by omega) (by omega)
            · refine g_iload_n rfl ?_
              refine g_aload_n rfl ?_
              refine g_gfi hIH2670 sx_54 rfl (fun v2725 ev2725 lv2725 uv2725 => ?_)
              have iev2725 : v2725.toInt = (fZ H2670 54 7).toInt := by rw [← ev2725]
              refine g_if2_ge (fun c2726 => ?_) (fun c2726 => ?_)
              · refine g_iload_n rfl ?_
                refine g_aload_n rfl ?_
                refine g_iload_n rfl ?_
                refine g_aload_n rfl ?_
                refine g_gfr hIH2670 sx_54 rfl ?_
                refine g_invvi hIH2670 sx_54 rfl rfl rfl rfl (w55_7 v2650 (by omega) H2670 hIH2670 hJH2670 (gdY_kp m2677 hp0) wk2681 (rn_ol hp0 (by omega)) (by rw [(m2677 25 (by decide)).1]; omega)) (fun v2729 H2727 r2728 => ?_)
                obtain ⟨hIH2727, hJH2727, bv2729, w2730, m2731, p2732, p2733⟩ := r2728
                have e2734 : k1_1 = fZ H2727 1 1 := e2676.trans w2730.symm
                have m2735 : kpX H H2727 := kpX_t m2677 (kpX_W (w := 55) (by decide) m2731)
                have jf2736 : (fZ H2727 54 5).toInt = (fZ H2670 54 5).toInt := by rw [(m2731 54 (by decide)).1 5]
                have jf2737 : (fZ H2727 54 7).toInt = (fZ H2670 54 7).toInt := by rw [(m2731 54 (by decide)).1 7]
                have jf2738 : (fZ H2727 54 8).toInt = (fZ H2670 54 8).toInt := by rw [(m2731 54 (by decide)).1 8]
                have wrv2729 : wdX H2727 55 (rnH H (hoX H) (olF (v2650.toInt.toNat + 1) (odX H))) := by have z := p2732; rw [stH_kx m2677, od_kp m2677] at z; exact wd_rn z olF_s
                have rav2729 := p2733
                rw [vdH_kx m2677, od_kp m2677] at rav2729
                refine g_iadd (by omega) (fun v2739 ev2739 => ?_)
                refine g_istore_n (l' := [(0, .ref 54), (1, .int v2739), (2, .int v2650), (3, .int v2668), (4, .int v2672)]) rfl rfl ?_
                refine g_iinc (l' := (fun v2740 => [(0, .ref 54), (1, .int v2739), (2, .int v2740), (3, .int v2668), (4, .int v2672)])) rfl rfl (by decide) (by omega) (fun _ => rfl) (fun v2740 ev2740 => ?_)
                refine g_goto ?_
                refine gG_pick [0, 1, 2] (l' := [(0, .ref 54), (1, .int v2739), (2, .int v2740)]) rfl ?_
                exact ihL2654 v2739 v2740 H2727 hIH2727 hJH2727 e2734 m2735 (by omega) (by omega) (by rw [show v2740.toInt.toNat = v2650.toInt.toNat + 1 by omega]; exact wrv2729) (rf_ol q2 (by omega) rav2729 (by omega)) (by omega) (bl_n q4 (by omega) (by omega) (by omega) rbv2672 (by omega) (by omega) (by omega)) (by omega) (by omega)
              · refine g_nop ?_
                refine g_aload_n rfl ?_
                refine g_iload_n rfl ?_
                refine g_pfi hIH2670 sx_54 rfl (gz_any _) (fun H2741 eH2741 hIH2741 => ?_)
                have hJH2741 : JX H2741 := JX_sF eH2741 hJH2670
                have e2742 : k1_1 = fZ H2741 1 1 := by rw [eH2741, fZ_sF_nc (by omega)]; exact e2676
                have e2743 : v2682 = fZ H2741 54 8 := by rw [eH2741, fZ_sF_ne (by decide)]; exact ev2682
                have e2744 : v2668 = fZ H2741 54 7 := by rw [eH2741, fZ_sF_eq hIH2670 sx_54 rfl]
                have m2745 : kpX H H2741 := kpX_F m2677 eH2741 (by omega)
                have jj2746_5 : (fZ H2741 54 5).toInt = (fZ H2670 54 5).toInt := by rw [eH2741, fZ_sF_ne (by decide)]
                have wfH2741 := wn_F wk2681 eH2741
                have ie2743 : v2682.toInt = (fZ H2741 54 8).toInt := by rw [← e2743]
                have ie2744 : v2668.toInt = (fZ H2741 54 7).toInt := by rw [← e2744]
                refine g_aload_n rfl ?_
                refine g_iload rfl ?_
                refine g_pfi hIH2741 sx_54 rfl (gz_any _) (fun H2747 eH2747 hIH2747 => ?_)
                have hJH2747 : JX H2747 := JX_sF eH2747 hJH2741
                have e2748 : k1_1 = fZ H2747 1 1 := by rw [eH2747, fZ_sF_nc (by omega)]; exact e2742
                have e2749 : v2668 = fZ H2747 54 7 := by rw [eH2747, fZ_sF_ne (by decide)]; exact e2744
                have e2750 : v2672 = fZ H2747 54 8 := by rw [eH2747, fZ_sF_eq hIH2741 sx_54 rfl]
                have m2751 : kpX H H2747 := kpX_F m2745 eH2747 (by omega)
                have jj2752_5 : (fZ H2747 54 5).toInt = (fZ H2741 54 5).toInt := by rw [eH2747, fZ_sF_ne (by decide)]
                have wfH2747 := wn_F wfH2741 eH2747
                have ie2749 : v2668.toInt = (fZ H2747 54 7).toInt := by rw [← e2749]
                have ie2750 : v2672.toInt = (fZ H2747 54 8).toInt := by rw [← e2750]
                refine g_nop ?_
                refine g_iload_n rfl ?_
                refine g_aload_n rfl ?_
                refine g_iload_n rfl ?_
                refine g_aload_n rfl ?_
                refine g_gfr hIH2747 sx_54 rfl ?_
                refine g_invvi hIH2747 sx_54 rfl rfl rfl rfl (w55_7 v2650 (by omega) H2747 hIH2747 hJH2747 (gdY_kp m2751 hp0) wfH2747 (rn_ol hp0 (by omega)) (by rw [(m2751 25 (by decide)).1]; omega)) (fun v2755 H2753 r2754 => ?_)
                obtain ⟨hIH2753, hJH2753, bv2755, w2756, m2757, p2758, p2759⟩ := r2754
                have e2760 : k1_1 = fZ H2753 1 1 := e2748.trans w2756.symm
                have m2761 : kpX H H2753 := kpX_t m2751 (kpX_W (w := 55) (by decide) m2757)
                have jf2762 : (fZ H2753 54 5).toInt = (fZ H2747 54 5).toInt := by rw [(m2757 54 (by decide)).1 5]
                have jf2763 : (fZ H2753 54 7).toInt = (fZ H2747 54 7).toInt := by rw [(m2757 54 (by decide)).1 7]
                have jf2764 : (fZ H2753 54 8).toInt = (fZ H2747 54 8).toInt := by rw [(m2757 54 (by decide)).1 8]
                have wrv2755 : wdX H2753 55 (rnH H (hoX H) (olF (v2650.toInt.toNat + 1) (odX H))) := by have z := p2758; rw [stH_kx m2751, od_kp m2751] at z; exact wd_rn z olF_s
                have rav2755 := p2759
                rw [vdH_kx m2751, od_kp m2751] at rav2755
                refine g_iadd (by omega) (fun v2765 ev2765 => ?_)
                refine g_istore_n (l' := [(0, .ref 54), (1, .int v2765), (2, .int v2650), (3, .int v2668), (4, .int v2672)]) rfl rfl ?_
                refine g_iinc (l' := (fun v2766 => [(0, .ref 54), (1, .int v2765), (2, .int v2766), (3, .int v2668), (4, .int v2672)])) rfl rfl (by decide) (by omega) (fun _ => rfl) (fun v2766 ev2766 => ?_)
                refine g_goto ?_
                refine gG_pick [0, 1, 2] (l' := [(0, .ref 54), (1, .int v2765), (2, .int v2766)]) rfl ?_
                exact ihL2654 v2765 v2766 H2753 hIH2753 hJH2753 e2760 m2761 (by omega) (by omega) (by rw [show v2766.toInt.toNat = v2650.toInt.toNat + 1 by omega]; exact wrv2755) (rf_ol q2 (by omega) rav2755 (by omega)) (by omega) (bl_y q4 (by omega) (by omega) (by omega) rbv2672 (by omega) (by omega) (by omega)) (by omega) (by omega)
    exact L2654 _ v2647 v2648 H2637 hIH2637 hJH2637 e2642 m2643 (by omega) (by omega) (by rw [show v2648.toInt.toNat = 0 by omega]; exact wz0) (by rw [show v2648.toInt.toNat = 0 by omega]; show _ = (0 : Int); omega) (by have := fZ_of hI sx_25 (f := 2) rfl; omega) (bl_0 (by omega) (by omega)) (by omega) (Nat.lt_succ_self _)
  · exact g_ret ⟨rfl, hI, hJ, (ek1_1.symm.trans ek1_1), mkfr, (by omega), (hp1 (by omega))⟩
set_option maxRecDepth 4000 in
set_option maxHeartbeats 4000000 in
/-- X9.blamed -/
theorem w_129  (a1 : Int32) (H : mzH) (hI : gI SX H) (hJ : JX H) (hp0 : gdY H) (hp1 : blK H H) : gCall 129 [.ref 0, .int a1] H (gRi (fun v H' => gI SX H' ∧ JX H' ∧ fZ H' 1 1 = fZ H 1 1 ∧ kpX H H' ∧ ((v.toInt = -1 ∧ ¬ (0 ≤ a1.toInt ∧ a1.toInt ≤ 1)) ∨ ((0 ≤ a1.toInt ∧ a1.toInt ≤ 1) ∧ (((fZ H 3 9).toInt = 0 ∧ v.toInt = -2) ∨ (¬ (fZ H 3 9).toInt = 0 ∧ blA H a1.toInt v.toInt)))) ∧ blK H H')) := by
  obtain ⟨k1_1, ek1_1⟩ : ∃ z, z = fZ H 1 1 := ⟨_, rfl⟩
  have ik1_1 : k1_1.toInt = (fZ H 1 1).toInt := by rw [← ek1_1]
  have bk1_1 : 0 ≤ k1_1.toInt ∧ k1_1.toInt ≤ 900 := by rw [ek1_1]; exact fZ_of hI sx_1 rfl
  obtain ⟨k3_9, ek3_9⟩ : ∃ z, z = fZ H 3 9 := ⟨_, rfl⟩
  have ik3_9 : k3_9.toInt = (fZ H 3 9).toInt := by rw [← ek3_9]
  have bk3_9 : 0 ≤ k3_9.toInt ∧ k3_9.toInt ≤ 60 := by rw [ek3_9]; exact fZ_of hI sx_3 rfl
  have mkfr : kpX H H := kpX_r
  refine gG_call [(0, .ref 0), (1, .int a1)] ⟨rfl, rfl, trivial⟩ ?_
  show gG 2 zB_129 (mzBlk zB_129 0) [(0, .ref 0), (1, .int a1)] [] H 0 0 _
  refine g_iload_n rfl ?_
  refine g_if_lt (fun c73 => ?_) (fun c73 => ?_)
  · refine g_iconst (by decide) (fun v74 kv74 => ?_)
    exact g_iret ⟨_, rfl, hI, hJ, (ek1_1.symm.trans ek1_1), mkfr, (Or.inl ⟨by omega, by omega⟩), hp1⟩
  · refine g_iload_n rfl ?_
    refine g_iconst (by decide) (fun v75 kv75 => ?_)
    refine g_if2_le (fun c76 => ?_) (fun c76 => ?_)
    · refine g_aload_n rfl ?_
      refine g_gfr hI sx_0 rfl ?_
      refine g_gfk hI sx_3 rfl ek3_9 ?_
      refine g_if_ne (fun c77 => ?_) (fun c77 => ?_)
      · refine g_aload_n rfl ?_
        refine g_gfr hI sx_0 rfl ?_
        refine g_invvv hI sx_54 rfl rfl rfl rfl (w_2 H hI hJ hp0 hp1) (fun H78 r79 => ?_)
        obtain ⟨hIH78, hJH78, w80, m81, p82, p83⟩ := r79
        have e84 : k1_1 = fZ H78 1 1 := ek1_1.trans w80.symm
        have m85 : kpX H H78 := kpX_t mkfr m81
        have fo := p82
        have fb := p83
        refine g_iload_n rfl ?_
        refine g_if_ne (fun c86 => ?_) (fun c86 => ?_)
        · refine g_aload_n rfl ?_
          refine g_gfr hIH78 sx_0 rfl ?_
          refine g_gfi hIH78 sx_54 rfl (fun v87 ev87 lv87 uv87 => ?_)
          have iev87 : v87.toInt = (fZ H78 54 8).toInt := by rw [← ev87]
          refine g_nop ?_
          exact g_iret ⟨_, rfl, hIH78, hJH78, (e84.symm.trans ek1_1), m85, (Or.inr ⟨by omega, Or.inr ⟨by omega, _, _, fb, by rw [if_neg (by omega)]; omega⟩⟩), (fun _ => fb)⟩
        · refine g_aload_n rfl ?_
          refine g_gfr hIH78 sx_0 rfl ?_
          refine g_gfi hIH78 sx_54 rfl (fun v88 ev88 lv88 uv88 => ?_)
          have iev88 : v88.toInt = (fZ H78 54 7).toInt := by rw [← ev88]
          refine g_goto ?_
          exact g_iret ⟨_, rfl, hIH78, hJH78, (e84.symm.trans ek1_1), m85, (Or.inr ⟨by omega, Or.inr ⟨by omega, _, _, fb, by rw [if_pos (by omega)]; omega⟩⟩), (fun _ => fb)⟩
      · refine g_bipush (by decide) (fun v89 kv89 => ?_)
        exact g_iret ⟨_, rfl, hI, hJ, (ek1_1.symm.trans ek1_1), mkfr, (Or.inr ⟨by omega, Or.inl ⟨by omega, by omega⟩⟩), hp1⟩
    · refine g_nop ?_
      refine g_iconst (by decide) (fun v90 kv90 => ?_)
      exact g_iret ⟨_, rfl, hI, hJ, (ek1_1.symm.trans ek1_1), mkfr, (Or.inl ⟨by omega, by omega⟩), hp1⟩
