set_option maxRecDepth 4000 in
set_option maxHeartbeats 4000000 in
/-- X8.withCompany -/
theorem w_107 {s : pS} {P : Nat → Prop} (w : Nat) (hw : zWo w) (a1 : Int64) (H : mzH) (hI : gI SX H) (hJ : JX H) (hp0 : wdX H w s) (hp1 : isS a1 P 40) : gCall 107 [.ref w, .long a1] H (gRl (fun v H' => H = H' ∧ isS v (coC s P) 40)) := by
  obtain ⟨hwr, hw0, hw1, hw2, hw3, hw4, hw5, hw6⟩ := id hw
  refine gG_call [(0, .ref w), (1, .long a1)] ⟨rfl, rfl, trivial⟩ ?_
  show gG 8 zB_107 (mzBlk zB_107 0) [(0, .ref w), (1, .long a1)] [] H 0 0 _
  refine g_lconst (fun v589 ov589 => ?_)
  refine g_lstore_n (l' := [(0, .ref w), (1, .long a1), (3, .long v589)]) rfl rfl ?_
  refine g_iconst (by decide) (fun v590 kv590 => ?_)
  refine g_istore (l' := [(0, .ref w), (1, .long a1), (3, .long v589), (5, .int v590)]) rfl rfl ?_
  refine g_nop ?_
  have L593 : ∀ (N : Nat) (v591 : Int64) (v592 : Int32), (0 ≤ v592.toInt ∧ v592.toInt ≤ 40) → (∀ k : Nat, k < 64 → (lbi v591 k = 1 ↔ ∃ q : Nat, q < v592.toInt.toNat ∧ tp s q = k ∧ (fun q => P q ∧ ¬ s.en q = 1) q)) → (40 - v592.toInt).toNat < N → gG 8 zB_107 (mzBlk zB_107 1) [(0, .ref w), (1, .long a1), (3, .long v591), (5, .int v592)] [] H 0 0 (gRl (fun v H' => H = H' ∧ isS v (coC s P) 40)) := by
    intro N
    induction N with
    | zero => intro v591 v592 bv592 q1 hmL593; exact absurd hmL593 (Nat.not_lt_zero _)
    | succ N ihL593 =>
      intro v591 v592 bv592 q1 hmL593
      refine g_iload rfl ?_
      refine g_bipush (by decide) (fun v594 kv594 => ?_)
      refine g_if2_ge (fun c595 => ?_) (fun c595 => ?_)
      · have qt : ∀ k : Nat, k < 64 → (lbi v591 k = 1 ↔ ∃ q : Nat, q < 40 ∧ tp s q = k ∧ (fun q => P q ∧ ¬ s.en q = 1) q) := by have z := q1; rw [show v592.toInt.toNat = 40 by omega] at z; exact z
        refine g_lload_n rfl ?_
        refine g_lstore (l' := [(0, .ref w), (1, .long a1), (3, .long v591), (5, .long a1)]) rfl rfl ?_
        refine g_iconst (by decide) (fun v596 kv596 => ?_)
        refine g_istore (l' := [(0, .ref w), (1, .long a1), (3, .long v591), (5, .long a1), (7, .int v596)]) rfl rfl ?_
        refine g_nop ?_
        have L599 : ∀ (N : Nat) (v597 : Int64) (v598 : Int32), (0 ≤ v598.toInt ∧ v598.toInt ≤ 40) → (∀ k : Nat, k < 64 → (lbi v597 k = 1 ↔ (k < 40 ∧ P k) ∨ (k < v598.toInt.toNat ∧ (fun k => ∃ y, y < 40 ∧ (P y ∧ ¬ s.en y = 1) ∧ tp s y = tp s k) k))) → (40 - v598.toInt).toNat < N → gG 8 zB_107 (mzBlk zB_107 4) [(0, .ref w), (1, .long a1), (3, .long v591), (5, .long v597), (7, .int v598)] [] H 0 0 (gRl (fun v H' => H = H' ∧ isS v (coC s P) 40)) := by
          intro N
          induction N with
          | zero => intro v597 v598 bv598 q2 hmL599; exact absurd hmL599 (Nat.not_lt_zero _)
          | succ N ihL599 =>
            intro v597 v598 bv598 q2 hmL599
            refine g_iload rfl ?_
            refine g_bipush (by decide) (fun v600 kv600 => ?_)
            refine g_if2_ge (fun c601 => ?_) (fun c601 => ?_)
            · refine g_lload rfl ?_
              exact g_lret ⟨_, rfl, rfl, (co_end q2 (by omega))⟩
            · refine g_lload_n rfl ?_
              refine g_aload_n rfl ?_
              refine g_iload rfl ?_
              refine g_invvi hI hw0 rfl rfl rfl rfl (w_89 w hw v598 (by omega) H hI hJ hp0) (fun v604 H602 r603 => ?_)
              obtain ⟨rfl, bv604, p605⟩ := r603
              have tnv604 : v604.toInt.toNat = tp s v598.toInt.toNat := by omega
              refine g_lushr (fun v606 ov606 => ?_)
              refine g_lconst (fun v607 ov607 => ?_)
              refine g_land (fun v608 ov608 => ?_)
              refine g_lconst (fun v609 ov609 => ?_)
              refine g_lcmp (fun v610 ov610 => ?_)
              have zv610 := lbi_tst ov606 ov608 ov607 ov609 ov610 (by omega)
              refine g_if_eq (fun c611 => ?_) (fun c611 => ?_)
              · refine g_iinc (l' := (fun v612 => [(0, .ref w), (1, .long a1), (3, .long v591), (5, .long v597), (7, .int v612)])) rfl rfl (by decide) (by omega) (fun _ => rfl) (fun v612 ev612 => ?_)
                refine g_goto ?_
                exact ihL599 v597 v612 (by omega) (co_n q2 (by omega) (fun z => by have z1 := (is_top (x := v598.toInt.toNat) qt tnv604 (by omega)).mpr z; omega)) (by omega)
              · refine g_lload rfl ?_
                refine g_lconst (fun v613 ov613 => ?_)
                refine g_iload rfl ?_
                refine g_lshl (fun v614 ov614 => ?_)
                refine g_lor (fun v615 ov615 => ?_)
                refine g_lstore (l' := [(0, .ref w), (1, .long a1), (3, .long v591), (5, .long v615), (7, .int v598)]) rfl rfl ?_
                refine g_nop ?_
                refine g_iinc (l' := (fun v616 => [(0, .ref w), (1, .long a1), (3, .long v591), (5, .long v615), (7, .int v616)])) rfl rfl (by decide) (by omega) (fun _ => rfl) (fun v616 ev616 => ?_)
                refine g_goto ?_
                exact ihL599 v615 v616 (by omega) (co_y q2 ov614 ov613 ov615 (by omega) rfl (by omega) ((is_top (x := v598.toInt.toNat) qt tnv604 (by omega)).mp (by omega))) (by omega)
        exact L599 _ a1 v596 (by omega) (co_0 hp1 (by omega)) (Nat.lt_succ_self _)
      · refine g_lload_n rfl ?_
        refine g_iload rfl ?_
        refine g_lushr (fun v617 ov617 => ?_)
        refine g_lconst (fun v618 ov618 => ?_)
        refine g_land (fun v619 ov619 => ?_)
        refine g_lconst (fun v620 ov620 => ?_)
        refine g_lcmp (fun v621 ov621 => ?_)
        have zv621 := lbi_tst ov617 ov619 ov618 ov620 ov621 (by omega)
        refine g_if_eq (fun c622 => ?_) (fun c622 => ?_)
        · refine g_iinc (l' := (fun v623 => [(0, .ref w), (1, .long a1), (3, .long v591), (5, .int v623)])) rfl rfl (by decide) (by omega) (fun _ => rfl) (fun v623 ev623 => ?_)
          refine g_goto ?_
          exact ihL593 v591 v623 (by omega) (dc_n q1 (by omega) (fun z => by have z1 := (hp1 v592.toInt.toNat (by omega)).mpr ⟨by omega, z.1⟩; have z2 := z.2; omega)) (by omega)
        · refine g_aload_n rfl ?_
          refine g_iload rfl ?_
          refine g_iconst (by decide) (fun v624 kv624 => ?_)
          refine g_invvi hI hw0 rfl rfl rfl rfl (w_85 w hw v592 (by omega) v624 H hI hJ hp0 (by omega)) (fun v627 H625 r626 => ?_)
          obtain ⟨rfl, bv627, p628⟩ := r626
          rw [kv624, mkb_4] at p628
          refine g_if_ne (fun c629 => ?_) (fun c629 => ?_)
          · refine g_iinc (l' := (fun v630 => [(0, .ref w), (1, .long a1), (3, .long v591), (5, .int v630)])) rfl rfl (by decide) (by omega) (fun _ => rfl) (fun v630 ev630 => ?_)
            refine g_goto ?_
            exact ihL593 v591 v630 (by omega) (dc_n q1 (by omega) (fun z => by have z1 := (hp1 v592.toInt.toNat (by omega)).mpr ⟨by omega, z.1⟩; have z2 := z.2; omega)) (by omega)
          · refine g_lload_n rfl ?_
            refine g_lconst (fun v631 ov631 => ?_)
            refine g_aload_n rfl ?_
            refine g_iload rfl ?_
            refine g_invvi hI hw0 rfl rfl rfl rfl (w_89 w hw v592 (by omega) H hI hJ hp0) (fun v634 H632 r633 => ?_)
            obtain ⟨rfl, bv634, p635⟩ := r633
            have tnv634 : v634.toInt.toNat = tp s v592.toInt.toNat := by omega
            refine g_lshl (fun v636 ov636 => ?_)
            refine g_lor (fun v637 ov637 => ?_)
            refine g_lstore_n (l' := [(0, .ref w), (1, .long a1), (3, .long v637), (5, .int v592)]) rfl rfl ?_
            refine g_nop ?_
            refine g_iinc (l' := (fun v638 => [(0, .ref w), (1, .long a1), (3, .long v637), (5, .int v638)])) rfl rfl (by decide) (by omega) (fun _ => rfl) (fun v638 ev638 => ?_)
            refine g_goto ?_
            exact ihL593 v637 v638 (by omega) (dc_y q1 ov636 ov631 ov637 (by omega) (by omega) (by omega) ⟨((hp1 _ (by omega)).mp (by omega)).2, by omega⟩) (by omega)
  exact L593 _ v589 v590 (by omega) (dc_0 ov589 (by omega)) (Nat.lt_succ_self _)
set_option maxRecDepth 4000 in
set_option maxHeartbeats 4000000 in
/-- X5.allMet -/
theorem w_64  (a1 : Int32) (ha1 : 0 ≤ a1.toInt ∧ a1.toInt ≤ 39) (a2 : Int32) (ha2 : 0 ≤ a2.toInt ∧ a2.toInt ≤ 999) (H : mzH) (hI : gI SX H) (hJ : JX H) (hp0 : gdX H) : gCall 64 [.ref 24, .int a1, .int a2] H (gRl (fun v H' => gI SX H' ∧ JX H' ∧ fZ H' 1 1 = fZ H 1 1 ∧ kpX H H' ∧ (∃ p : Nat, stX H a2.toInt p ∧ ((((fX H p).kd a1.toInt.toNat = -1 ∨ (fX H p).en a1.toInt.toNat = 1) ∧ ∀ k : Nat, k < 64 → ¬ lbi v k = 1) ∨ ((¬ (fX H p).kd a1.toInt.toNat = -1 ∧ ¬ (fX H p).en a1.toInt.toNat = 1) ∧ isS v (mtC (fX H) a1.toInt.toNat p ((fZ H 25 2).toInt.toNat - p)) 40))))) := by
  obtain ⟨k1_1, ek1_1⟩ : ∃ z, z = fZ H 1 1 := ⟨_, rfl⟩
  have ik1_1 : k1_1.toInt = (fZ H 1 1).toInt := by rw [← ek1_1]
  have bk1_1 : 0 ≤ k1_1.toInt ∧ k1_1.toInt ≤ 900 := by rw [ek1_1]; exact fZ_of hI sx_1 rfl
  have mkfr : kpX H H := kpX_r
  refine gG_call [(0, .ref 24), (1, .int a1), (2, .int a2)] ⟨rfl, rfl, rfl, trivial⟩ ?_
  show gG 7 zB_64 (mzBlk zB_64 0) [(0, .ref 24), (1, .int a1), (2, .int a2)] [] H 0 0 _
  refine g_aload_n rfl ?_
  refine g_iload_n rfl ?_
  refine g_invvi hI sx_24 rfl rfl rfl rfl (w_54 a2 H hI hJ hp0) (fun v195 H193 r194 => ?_)
  obtain ⟨hIH193, hJH193, bv195, w196, m197, p198, p199⟩ := r194
  have e200 : k1_1 = fZ H193 1 1 := ek1_1.trans w196.symm
  have m201 : kpX H H193 := kpX_t mkfr m197
  refine g_istore_n (l' := [(0, .ref 24), (1, .int a1), (2, .int a2), (3, .int v195)]) rfl rfl ?_
  refine g_aload_n rfl ?_
  refine g_gfr hIH193 sx_24 rfl ?_
  refine g_iload_n rfl ?_
  refine g_invvi hIH193 sx_28 rfl rfl rfl rfl (w_88 28 zWo_28 a1 (by omega) H193 hIH193 hJH193 p198) (fun v204 H202 r203 => ?_)
  obtain ⟨rfl, bv204, p205⟩ := r203
  refine g_if_eq (fun c206 => ?_) (fun c206 => ?_)
  · refine g_lconst (fun v207 ov207 => ?_)
    exact g_lret ⟨_, rfl, hIH193, hJH193, (e200.symm.trans ek1_1), m201, ⟨v195.toInt.toNat, p199, Or.inl ⟨by omega, fun k _ z => by rw [lbi_0 ov207] at z; exact absurd z (by decide)⟩⟩⟩
  · refine g_aload_n rfl ?_
    refine g_gfr hIH193 sx_24 rfl ?_
    refine g_iload_n rfl ?_
    refine g_iconst (by decide) (fun v208 kv208 => ?_)
    refine g_invvi hIH193 sx_28 rfl rfl rfl rfl (w_85 28 zWo_28 a1 (by omega) v208 H193 hIH193 hJH193 p198 (by omega)) (fun v211 H209 r210 => ?_)
    obtain ⟨rfl, bv211, p212⟩ := r210
    rw [kv208, mkb_4] at p212
    refine g_if_eq (fun c213 => ?_) (fun c213 => ?_)
    · refine g_aload_n rfl ?_
      refine g_gfr hIH193 sx_24 rfl ?_
      refine g_lconst (fun v214 ov214 => ?_)
      refine g_iload_n rfl ?_
      refine g_lshl (fun v215 ov215 => ?_)
      refine g_invvl hIH193 sx_28 rfl rfl rfl rfl (w_107 28 zWo_28 v215 H193 hIH193 hJH193 p198 (is_one ov215 ov214 (by omega))) (fun v218 H216 r217 => ?_)
      obtain ⟨rfl, p219⟩ := r217
      refine g_lstore (l' := [(0, .ref 24), (1, .int a1), (2, .int a2), (3, .int v195), (4, .long v218)]) rfl rfl ?_
      refine g_iload_n rfl ?_
      refine g_istore (l' := [(0, .ref 24), (1, .int a1), (2, .int a2), (3, .int v195), (4, .long v218), (6, .int v195)]) rfl rfl ?_
      refine g_nop ?_
      have L225 : ∀ (N : Nat) (v220 : Int64) (v221 : Int32) (H222 : mzH), gI SX H222 → JX H222 → k1_1 = fZ H222 1 1 → kpX H H222 → (0 ≤ v221.toInt ∧ v221.toInt ≤ 60) → (v195.toInt ≤ v221.toInt ∧ v221.toInt ≤ (fZ H 25 2).toInt) → wdX H222 28 (fX H v221.toInt.toNat) → isS v220 (mtC (fX H) a1.toInt.toNat v195.toInt.toNat (v221.toInt.toNat - v195.toInt.toNat)) 40 → (60 - v221.toInt).toNat < N → gG 7 zB_64 (mzBlk zB_64 3) [(0, .ref 24), (1, .int a1), (2, .int a2), (3, .int v195), (4, .long v220), (6, .int v221)] [] H222 0 0 (gRl (fun v H' => gI SX H' ∧ JX H' ∧ fZ H' 1 1 = fZ H 1 1 ∧ kpX H H' ∧ (∃ p : Nat, stX H a2.toInt p ∧ ((((fX H p).kd a1.toInt.toNat = -1 ∨ (fX H p).en a1.toInt.toNat = 1) ∧ ∀ k : Nat, k < 64 → ¬ lbi v k = 1) ∨ ((¬ (fX H p).kd a1.toInt.toNat = -1 ∧ ¬ (fX H p).en a1.toInt.toNat = 1) ∧ isS v (mtC (fX H) a1.toInt.toNat p ((fZ H 25 2).toInt.toNat - p)) 40))))) := by
        intro N
        induction N with
        | zero => intro v220 v221 H222 hIH222 hJH222 e223 m224 bv221 q0 q1 q2 hmL225; exact absurd hmL225 (Nat.not_lt_zero _)
        | succ N ihL225 =>
          intro v220 v221 H222 hIH222 hJH222 e223 m224 bv221 q0 q1 q2 hmL225
          refine g_iload rfl ?_
          refine g_aload_n rfl ?_
          refine g_gfr hIH222 sx_24 rfl ?_
          refine g_gfi hIH222 sx_25 rfl (fun v226 ev226 lv226 uv226 => ?_)
          have zv226 : v226.toInt = (fZ H 25 2).toInt := by rw [ev226, (m224 25 (by decide)).1]
          refine g_if2_ge (fun c227 => ?_) (fun c227 => ?_)
          · refine g_lload rfl ?_
            exact g_lret ⟨_, rfl, hIH222, hJH222, (e223.symm.trans ek1_1), m224, ⟨v195.toInt.toNat, p199, Or.inr ⟨by omega, by rw [show (fZ H 25 2).toInt.toNat = v221.toInt.toNat by omega]; exact q2⟩⟩⟩
          · refine g_aload_n rfl ?_
            refine g_iload rfl ?_
            refine g_invvi hIH222 sx_24 rfl rfl rfl rfl (w_53 v221 (by omega) H222 hIH222 hJH222 q1 (hp0.2 v221.toInt.toNat (by omega)).1 (hp0.2 v221.toInt.toNat (by omega)).2 (by rw [(m224 26 (by decide)).2, (m224 27 (by decide)).2]; exact (hp0.1 v221.toInt.toNat (by omega)).1) (by rw [(m224 7 (by decide)).2, (m224 27 (by decide)).2]; exact (hp0.1 v221.toInt.toNat (by omega)).2)) (fun v230 H228 r229 => ?_)
            obtain ⟨hIH228, hJH228, w231, m232, p233, p234⟩ := r229
            have e235 : k1_1 = fZ H228 1 1 := e223.trans w231.symm
            have m236 : kpX H H228 := kpX_t m224 m232
            have wzv221 : wdX H228 28 (fX H (v221.toInt.toNat + 1)) := gx_s2 m224 p233 rfl
            have vdv221 := gv_s2 (p := v221.toInt.toNat) m224 p234
            refine g_pop rfl ?_
            refine g_aload_n rfl ?_
            refine g_gfr hIH228 sx_24 rfl ?_
            refine g_lload rfl ?_
            refine g_invvl hIH228 sx_28 rfl rfl rfl rfl (w_107 28 zWo_28 v220 H228 hIH228 hJH228 wzv221 q2) (fun v239 H237 r238 => ?_)
            obtain ⟨rfl, p240⟩ := r238
            refine g_lstore (l' := [(0, .ref 24), (1, .int a1), (2, .int a2), (3, .int v195), (4, .long v239), (6, .int v221)]) rfl rfl ?_
            refine g_iinc (l' := (fun v241 => [(0, .ref 24), (1, .int a1), (2, .int a2), (3, .int v195), (4, .long v239), (6, .int v241)])) rfl rfl (by decide) (by omega) (fun _ => rfl) (fun v241 ev241 => ?_)
            refine g_goto ?_
            exact ihL225 v239 v241 H228 hIH228 hJH228 e235 m236 (by omega) (by omega) (by rw [show v241.toInt.toNat = v221.toInt.toNat + 1 by omega]; exact wzv221) (by rw [show v241.toInt.toNat - v195.toInt.toNat = (v221.toInt.toNat - v195.toInt.toNat) + 1 by omega]; exact co_it p240 (fun x => by rw [show v221.toInt.toNat + 1 = v195.toInt.toNat + (v221.toInt.toNat - v195.toInt.toNat) + 1 by omega]; exact Iff.rfl)) (by omega)
      exact L225 _ v218 v195 H193 hIH193 hJH193 e200 m201 (by omega) (by have := (p199).1; have := fZ_of hI sx_25 (f := 2) rfl; omega) p198 (by rw [show v195.toInt.toNat - v195.toInt.toNat = 0 by omega]; exact p219) (Nat.lt_succ_self _)
    · refine g_nop ?_
      refine g_lconst (fun v242 ov242 => ?_)
      exact g_lret ⟨_, rfl, hIH193, hJH193, (e200.symm.trans ek1_1), m201, ⟨v195.toInt.toNat, p199, Or.inl ⟨by omega, fun k _ z => by rw [lbi_0 ov242] at z; exact absurd z (by decide)⟩⟩⟩
set_option maxRecDepth 4000 in
set_option maxHeartbeats 4000000 in
/-- X9.met -/
theorem w_131  (a1 : Int32) (a2 : Int32) (a3 : Int32) (H : mzH) (hI : gI SX H) (hJ : JX H) (hp0 : gdX H) : gCall 131 [.ref 0, .int a1, .int a2, .int a3] H (gRi (fun v H' => gI SX H' ∧ JX H' ∧ fZ H' 1 1 = fZ H 1 1 ∧ kpX H H' ∧ ((v.toInt = -1 ∧ ¬ ((0 ≤ a1.toInt ∧ a1.toInt ≤ 39) ∧ (0 ≤ a2.toInt ∧ a2.toInt ≤ 999) ∧ 0 ≤ a3.toInt)) ∨ (((0 ≤ a1.toInt ∧ a1.toInt ≤ 39) ∧ (0 ≤ a2.toInt ∧ a2.toInt ≤ 999) ∧ 0 ≤ a3.toInt) ∧ ∃ d : Int64, (∃ p : Nat, stX H a2.toInt p ∧ ((((fX H p).kd a1.toInt.toNat = -1 ∨ (fX H p).en a1.toInt.toNat = 1) ∧ ∀ k : Nat, k < 64 → ¬ lbi d k = 1) ∨ ((¬ (fX H p).kd a1.toInt.toNat = -1 ∧ ¬ (fX H p).en a1.toInt.toNat = 1) ∧ isS d (mtC (fX H) a1.toInt.toNat p ((fZ H 25 2).toInt.toNat - p)) 40))) ∧ v.toInt = pkF (lbi d) 64 0 a3.toInt)))) := by
  obtain ⟨k1_1, ek1_1⟩ : ∃ z, z = fZ H 1 1 := ⟨_, rfl⟩
  have ik1_1 : k1_1.toInt = (fZ H 1 1).toInt := by rw [← ek1_1]
  have bk1_1 : 0 ≤ k1_1.toInt ∧ k1_1.toInt ≤ 900 := by rw [ek1_1]; exact fZ_of hI sx_1 rfl
  have mkfr : kpX H H := kpX_r
  refine gG_call [(0, .ref 0), (1, .int a1), (2, .int a2), (3, .int a3)] ⟨rfl, rfl, rfl, rfl, trivial⟩ ?_
  show gG 4 zB_131 (mzBlk zB_131 0) [(0, .ref 0), (1, .int a1), (2, .int a2), (3, .int a3)] [] H 0 0 _
  refine g_iload_n rfl ?_
  refine g_invti rfl rfl rfl (w_149 a1 H hI hJ) (fun v107 H105 r106 => ?_)
  obtain ⟨rfl, bv107, p108⟩ := r106
  refine g_if_eq (fun c109 => ?_) (fun c109 => ?_)
  · refine g_iconst (by decide) (fun v110 kv110 => ?_)
    exact g_iret ⟨_, rfl, hI, hJ, (ek1_1.symm.trans ek1_1), mkfr, (Or.inl ⟨by omega, by omega⟩)⟩
  · refine g_iload_n rfl ?_
    refine g_invti rfl rfl rfl (w_150 a2 H hI hJ) (fun v113 H111 r112 => ?_)
    obtain ⟨rfl, bv113, p114⟩ := r112
    refine g_if_eq (fun c115 => ?_) (fun c115 => ?_)
    · refine g_iconst (by decide) (fun v116 kv116 => ?_)
      exact g_iret ⟨_, rfl, hI, hJ, (ek1_1.symm.trans ek1_1), mkfr, (Or.inl ⟨by omega, by omega⟩)⟩
    · refine g_iload_n rfl ?_
      refine g_if_ge (fun c117 => ?_) (fun c117 => ?_)
      · refine g_aload_n rfl ?_
        refine g_gfr hI sx_0 rfl ?_
        refine g_iload_n rfl ?_
        refine g_iload_n rfl ?_
        refine g_invvl hI sx_24 rfl rfl rfl rfl (w_64 a1 (by omega) a2 (by omega) H hI hJ hp0) (fun v120 H118 r119 => ?_)
        obtain ⟨hIH118, hJH118, w121, m122, p123⟩ := r119
        have e124 : k1_1 = fZ H118 1 1 := ek1_1.trans w121.symm
        have m125 : kpX H H118 := kpX_t mkfr m122
        have am := p123
        refine g_iload_n rfl ?_
        refine g_invti rfl rfl rfl (w_153 v120 a3 H118 hIH118 hJH118 (by omega)) (fun v128 H126 r127 => ?_)
        obtain ⟨rfl, p129⟩ := r127
        exact g_iret ⟨_, rfl, hIH118, hJH118, (e124.symm.trans ek1_1), m125, (Or.inr ⟨by omega, v120, am, p129⟩)⟩
      · refine g_nop ?_
        refine g_iconst (by decide) (fun v130 kv130 => ?_)
        exact g_iret ⟨_, rfl, hI, hJ, (ek1_1.symm.trans ek1_1), mkfr, (Or.inl ⟨by omega, by omega⟩)⟩
