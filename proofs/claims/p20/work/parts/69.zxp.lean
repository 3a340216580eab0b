theorem hx_s2 {H : mzH} {h : Int} {p k k2 : Nat} (q2 : ∀ q : Nat, p ≤ q → q < k → hrX H q ≤ h) (e : k2 = k + 1) (z : hrX H k ≤ h) : ∀ q : Nat, p ≤ q → q < k2 → hrX H q ≤ h := fun q h1 h2 => by
  if c : q = k then rw [c]; exact z
  else exact q2 q h1 (by omega)
set_option maxRecDepth 4000 in
set_option maxHeartbeats 4000000 in
/-- X5.allHeld -/
theorem w_65  (a1 : Int32) (a2 : Int32) (a3 : Int32) (H : mzH) (hI : gI SX H) (hJ : JX H) (hp0 : gdX H) : gCall 65 [.ref 24, .int a1, .int a2, .int a3] H (gRl (fun v H' => gI SX H' ∧ JX H' ∧ fZ H' 1 1 = fZ H 1 1 ∧ kpX H H' ∧ (∃ p e : Nat, stX H a2.toInt p ∧ (p ≤ e ∧ e ≤ (fZ H 25 2).toInt.toNat) ∧ (∀ r, p ≤ r → r < e → hrX H r ≤ a3.toInt) ∧ (e = (fZ H 25 2).toInt.toNat ∨ a3.toInt < hrX H e) ∧ isS v (wiP (fX H) a1.toInt p e) 40))) := by
  obtain ⟨k1_1, ek1_1⟩ : ∃ z, z = fZ H 1 1 := ⟨_, rfl⟩
  have ik1_1 : k1_1.toInt = (fZ H 1 1).toInt := by rw [← ek1_1]
  have bk1_1 : 0 ≤ k1_1.toInt ∧ k1_1.toInt ≤ 900 := by rw [ek1_1]; exact fZ_of hI sx_1 rfl
  have mkfr : kpX H H := kpX_r
  refine gG_call [(0, .ref 24), (1, .int a1), (2, .int a2), (3, .int a3)] ⟨rfl, rfl, rfl, rfl, trivial⟩ ?_
  show gG 8 zB_65 (mzBlk zB_65 0) [(0, .ref 24), (1, .int a1), (2, .int a2), (3, .int a3)] [] H 0 0 _
  refine g_aload_n rfl ?_
  refine g_iload_n rfl ?_
  refine g_invvi hI sx_24 rfl rfl rfl rfl (w_54 a2 H hI hJ hp0) (fun v163 H161 r162 => ?_)
  obtain ⟨hIH161, hJH161, bv163, w164, m165, p166, p167⟩ := r162
  have e168 : k1_1 = fZ H161 1 1 := ek1_1.trans w164.symm
  have m169 : kpX H H161 := kpX_t mkfr m165
  refine g_istore (l' := [(0, .ref 24), (1, .int a1), (2, .int a2), (3, .int a3), (4, .int v163)]) rfl rfl ?_
  refine g_aload_n rfl ?_
  refine g_gfr hIH161 sx_24 rfl ?_
  refine g_iload_n rfl ?_
  refine g_invvl hIH161 sx_28 rfl rfl rfl rfl (w_104 28 zWo_28 a1 H161 hIH161 hJH161 p166) (fun v172 H170 r171 => ?_)
  obtain ⟨rfl, p173⟩ := r171
  refine g_lstore (l' := [(0, .ref 24), (1, .int a1), (2, .int a2), (3, .int a3), (4, .int v163), (5, .long v172)]) rfl rfl ?_
  refine g_iload rfl ?_
  refine g_istore (l' := [(0, .ref 24), (1, .int a1), (2, .int a2), (3, .int a3), (4, .int v163), (5, .long v172), (7, .int v163)]) rfl rfl ?_
  refine g_nop ?_
  have L179 : ∀ (N : Nat) (v174 : Int64) (v175 : Int32) (H176 : mzH), gI SX H176 → JX H176 → k1_1 = fZ H176 1 1 → kpX H H176 → (0 ≤ v175.toInt ∧ v175.toInt ≤ 60) → (v163.toInt ≤ v175.toInt ∧ v175.toInt ≤ (fZ H 25 2).toInt) → wdX H176 28 (fX H v175.toInt.toNat) → isS v174 (wiP (fX H) a1.toInt v163.toInt.toNat v175.toInt.toNat) 40 → (∀ r : Nat, v163.toInt.toNat ≤ r → r < v175.toInt.toNat → hrX H r ≤ a3.toInt) → (60 - v175.toInt).toNat < N → gG 8 zB_65 (mzBlk zB_65 1) [(0, .ref 24), (1, .int a1), (2, .int a2), (3, .int a3), (4, .int v163), (5, .long v174), (7, .int v175)] [] H176 0 0 (gRl (fun v H' => gI SX H' ∧ JX H' ∧ fZ H' 1 1 = fZ H 1 1 ∧ kpX H H' ∧ (∃ p e : Nat, stX H a2.toInt p ∧ (p ≤ e ∧ e ≤ (fZ H 25 2).toInt.toNat) ∧ (∀ r, p ≤ r → r < e → hrX H r ≤ a3.toInt) ∧ (e = (fZ H 25 2).toInt.toNat ∨ a3.toInt < hrX H e) ∧ isS v (wiP (fX H) a1.toInt p e) 40))) := by
    intro N
    induction N with
    | zero => intro v174 v175 H176 hIH176 hJH176 e177 m178 bv175 q0 q1 q2 q4 hmL179; exact absurd hmL179 (Nat.not_lt_zero _)
    | succ N ihL179 =>
      intro v174 v175 H176 hIH176 hJH176 e177 m178 bv175 q0 q1 q2 q4 hmL179
      refine g_iload rfl ?_
      refine g_aload_n rfl ?_
      refine g_gfr hIH176 sx_24 rfl ?_
      refine g_gfi hIH176 sx_25 rfl (fun v180 ev180 lv180 uv180 => ?_)
      have zv180 : v180.toInt = (fZ H 25 2).toInt := by rw [ev180, (m178 25 (by decide)).1]
      refine g_if2_ge (fun c181 => ?_) (fun c181 => ?_)
      · refine g_lload rfl ?_
        exact g_lret ⟨_, rfl, hIH176, hJH176, (e177.symm.trans ek1_1), m178, ⟨v163.toInt.toNat, v175.toInt.toNat, p167, by omega, q4, by first | exact Or.inl (by omega) | exact Or.inr (by omega), q2⟩⟩
      · refine g_aload_n rfl ?_
        refine g_gfr hIH176 sx_24 rfl ?_
        refine g_iload rfl ?_
        refine g_invvi hIH176 sx_25 rfl rfl rfl rfl (w_27 25 zCo_25 v175 (by omega) H176 hIH176 hJH176) (fun v184 H182 r183 => ?_)
        obtain ⟨rfl, p185⟩ := r183
        have hzv184 : v184.toInt = hrX H v175.toInt.toNat := ha_kp m178 p185
        have hyv184 : 0 ≤ v184.toInt ∧ v184.toInt ≤ 999 := by rw [hzv184]; exact (hp0.1 v175.toInt.toNat (by omega)).1
        refine g_iload_n rfl ?_
        refine g_if2_gt (fun c186 => ?_) (fun c186 => ?_)
        · refine g_lload rfl ?_
          exact g_lret ⟨_, rfl, hIH176, hJH176, (e177.symm.trans ek1_1), m178, ⟨v163.toInt.toNat, v175.toInt.toNat, p167, by omega, q4, by first | exact Or.inl (by omega) | exact Or.inr (by omega), q2⟩⟩
        · refine g_aload_n rfl ?_
          refine g_iload rfl ?_
          refine g_invvi hIH176 sx_24 rfl rfl rfl rfl (w_53 v175 (by omega) H176 hIH176 hJH176 q1 (hp0.2 v175.toInt.toNat (by omega)).1 (hp0.2 v175.toInt.toNat (by omega)).2 (by rw [(m178 26 (by decide)).2, (m178 27 (by decide)).2]; exact (hp0.1 v175.toInt.toNat (by omega)).1) (by rw [(m178 7 (by decide)).2, (m178 27 (by decide)).2]; exact (hp0.1 v175.toInt.toNat (by omega)).2)) (fun v189 H187 r188 => ?_)
          obtain ⟨hIH187, hJH187, w190, m191, p192, p193⟩ := r188
          have e194 : k1_1 = fZ H187 1 1 := e177.trans w190.symm
          have m195 : kpX H H187 := kpX_t m178 m191
          have wzv175 : wdX H187 28 (fX H (v175.toInt.toNat + 1)) := gx_s2 m178 p192 rfl
          have vdv175 := gv_s2 (p := v175.toInt.toNat) m178 p193
          refine g_pop rfl ?_
          refine g_lload rfl ?_
          refine g_aload_n rfl ?_
          refine g_gfr hIH187 sx_24 rfl ?_
          refine g_iload_n rfl ?_
          refine g_invvl hIH187 sx_28 rfl rfl rfl rfl (w_104 28 zWo_28 a1 H187 hIH187 hJH187 wzv175) (fun v198 H196 r197 => ?_)
          obtain ⟨rfl, p199⟩ := r197
          refine g_lor (fun v200 ov200 => ?_)
          refine g_lstore (l' := [(0, .ref 24), (1, .int a1), (2, .int a2), (3, .int a3), (4, .int v163), (5, .long v200), (7, .int v175)]) rfl rfl ?_
          refine g_iinc (l' := (fun v201 => [(0, .ref 24), (1, .int a1), (2, .int a2), (3, .int a3), (4, .int v163), (5, .long v200), (7, .int v201)])) rfl rfl (by decide) (by omega) (fun _ => rfl) (fun v201 ev201 => ?_)
          refine g_goto ?_
          exact ihL179 v200 v201 H187 hIH187 hJH187 e194 m195 (by omega) (by omega) (by rw [show v201.toInt.toNat = v175.toInt.toNat + 1 by omega]; exact wzv175) (is_orr q2 p199 ov200 (fun k => by rw [show v201.toInt.toNat = v175.toInt.toNat + 1 by omega]; exact wi_s (by omega))) (hx_s2 q4 (by omega) (by omega)) (by omega)
  exact L179 _ v172 v163 H161 hIH161 hJH161 e168 m169 (by omega) (by have := (p167).1; have := fZ_of hI sx_25 (f := 2) rfl; omega) p166 (is_cg p173 (fun k => wip_0.symm)) (fun r h1 h2 => by omega) (Nat.lt_succ_self _)
set_option maxRecDepth 4000 in
set_option maxHeartbeats 4000000 in
/-- X9.wereIn -/
theorem w_132  (a1 : Int32) (a2 : Int32) (a3 : Int32) (a4 : Int32) (H : mzH) (hI : gI SX H) (hJ : JX H) (hp0 : gdX H) : gCall 132 [.ref 0, .int a1, .int a2, .int a3, .int a4] H (gRi (fun v H' => gI SX H' ∧ JX H' ∧ fZ H' 1 1 = fZ H 1 1 ∧ kpX H H' ∧ ((v.toInt = -1 ∧ ¬ ((0 ≤ a1.toInt ∧ a1.toInt ≤ 39) ∧ (0 ≤ a2.toInt ∧ a2.toInt ≤ 999) ∧ (0 ≤ a3.toInt ∧ a3.toInt ≤ 999) ∧ (a2.toInt ≤ a3.toInt) ∧ 0 ≤ a4.toInt)) ∨ (((0 ≤ a1.toInt ∧ a1.toInt ≤ 39) ∧ (0 ≤ a2.toInt ∧ a2.toInt ≤ 999) ∧ (0 ≤ a3.toInt ∧ a3.toInt ≤ 999) ∧ (a2.toInt ≤ a3.toInt) ∧ 0 ≤ a4.toInt) ∧ ∃ d : Int64, (∃ p e : Nat, stX H a2.toInt p ∧ (p ≤ e ∧ e ≤ (fZ H 25 2).toInt.toNat) ∧ (∀ r, p ≤ r → r < e → hrX H r ≤ a3.toInt) ∧ (e = (fZ H 25 2).toInt.toNat ∨ a3.toInt < hrX H e) ∧ isS d (wiP (fX H) a1.toInt p e) 40) ∧ v.toInt = pkF (lbi d) 64 0 a4.toInt)))) := by
  obtain ⟨k1_1, ek1_1⟩ : ∃ z, z = fZ H 1 1 := ⟨_, rfl⟩
  have ik1_1 : k1_1.toInt = (fZ H 1 1).toInt := by rw [← ek1_1]
  have bk1_1 : 0 ≤ k1_1.toInt ∧ k1_1.toInt ≤ 900 := by rw [ek1_1]; exact fZ_of hI sx_1 rfl
  have mkfr : kpX H H := kpX_r
  refine gG_call [(0, .ref 0), (1, .int a1), (2, .int a2), (3, .int a3), (4, .int a4)] ⟨rfl, rfl, rfl, rfl, rfl, trivial⟩ ?_
  show gG 5 zB_132 (mzBlk zB_132 0) [(0, .ref 0), (1, .int a1), (2, .int a2), (3, .int a3), (4, .int a4)] [] H 0 0 _
  refine g_iload_n rfl ?_
  refine g_invti rfl rfl rfl (w_149 a1 H hI hJ) (fun v139 H137 r138 => ?_)
  obtain ⟨rfl, bv139, p140⟩ := r138
  refine g_if_eq (fun c141 => ?_) (fun c141 => ?_)
  · refine g_iconst (by decide) (fun v142 kv142 => ?_)
    exact g_iret ⟨_, rfl, hI, hJ, (ek1_1.symm.trans ek1_1), mkfr, (Or.inl ⟨by omega, by omega⟩)⟩
  · refine g_iload_n rfl ?_
    refine g_invti rfl rfl rfl (w_150 a2 H hI hJ) (fun v145 H143 r144 => ?_)
    obtain ⟨rfl, bv145, p146⟩ := r144
    refine g_if_eq (fun c147 => ?_) (fun c147 => ?_)
    · refine g_iconst (by decide) (fun v148 kv148 => ?_)
      exact g_iret ⟨_, rfl, hI, hJ, (ek1_1.symm.trans ek1_1), mkfr, (Or.inl ⟨by omega, by omega⟩)⟩
    · refine g_iload_n rfl ?_
      refine g_invti rfl rfl rfl (w_150 a3 H hI hJ) (fun v151 H149 r150 => ?_)
      obtain ⟨rfl, bv151, p152⟩ := r150
      refine g_if_eq (fun c153 => ?_) (fun c153 => ?_)
      · refine g_iconst (by decide) (fun v154 kv154 => ?_)
        exact g_iret ⟨_, rfl, hI, hJ, (ek1_1.symm.trans ek1_1), mkfr, (Or.inl ⟨by omega, by omega⟩)⟩
      · refine g_iload_n rfl ?_
        refine g_iload_n rfl ?_
        refine g_if2_lt (fun c155 => ?_) (fun c155 => ?_)
        · refine g_iconst (by decide) (fun v156 kv156 => ?_)
          exact g_iret ⟨_, rfl, hI, hJ, (ek1_1.symm.trans ek1_1), mkfr, (Or.inl ⟨by omega, by omega⟩)⟩
        · refine g_iload rfl ?_
          refine g_if_ge (fun c157 => ?_) (fun c157 => ?_)
          · refine g_aload_n rfl ?_
            refine g_gfr hI sx_0 rfl ?_
            refine g_iload_n rfl ?_
            refine g_iload_n rfl ?_
            refine g_iload_n rfl ?_
            refine g_invvl hI sx_24 rfl rfl rfl rfl (w_65 a1 a2 a3 H hI hJ hp0) (fun v160 H158 r159 => ?_)
            obtain ⟨hIH158, hJH158, w161, m162, p163⟩ := r159
            have e164 : k1_1 = fZ H158 1 1 := ek1_1.trans w161.symm
            have m165 : kpX H H158 := kpX_t mkfr m162
            obtain ⟨p, e, s1, s2, s3, s4, s5⟩ := p163
            refine g_iload rfl ?_
            refine g_invti rfl rfl rfl (w_153 v160 a4 H158 hIH158 hJH158 (by omega)) (fun v168 H166 r167 => ?_)
            obtain ⟨rfl, p169⟩ := r167
            exact g_iret ⟨_, rfl, hIH158, hJH158, (e164.symm.trans ek1_1), m165, (Or.inr ⟨by omega, v160, ⟨p, e, s1, s2, s3, s4, s5⟩, p169⟩)⟩
          · refine g_nop ?_
            refine g_iconst (by decide) (fun v170 kv170 => ?_)
            exact g_iret ⟨_, rfl, hI, hJ, (ek1_1.symm.trans ek1_1), mkfr, (Or.inl ⟨by omega, by omega⟩)⟩
