/-- the reference's book, as it is read -/
def bkM (H : mzH) (c : pB) : Prop := (aZ H 3 0).toInt = c.P ∧ (aZ H 3 1).toInt = c.R ∧ (aZ H 3 2).toInt = c.N ∧ (aZ H 3 3).toInt = c.U ∧ (aZ H 3 4).toInt = c.C ∧ (fZ H 0 17).toInt = c.F ∧ (∀ p : Nat, (p : Int) < c.P → (aZ H 4 p).toInt = c.nm p) ∧ (∀ k : Nat, (k : Int) < c.N → (aZ H 3 (69 + 5 * k)).toInt = c.hr k ∧ (aZ H 3 (69 + 5 * k + 1)).toInt = c.ac k ∧ (aZ H 3 (69 + 5 * k + 2)).toInt = c.fi k ∧ (aZ H 3 (69 + 5 * k + 3)).toInt = c.se k ∧ (aZ H 3 (69 + 5 * k + 4)).toInt = if c.ac k = 0 then c.ki k else -1) ∧ (0 ≤ c.R ∧ c.R ≤ 12)
/-- which kinds are names -/
theorem kr_n {K V so va wo : Int} (h : kR K V so va wo) : (K = 18 ∧ so = 0 ∧ va = -1 ∧ wo = V) ∨ (K ≠ 18 ∧ (so ≠ 0 ∨ va ≠ -1)) := by
  unfold kR kwR nmR at h
  omega
/-- the place that stands there; -1 -/
def pPh (c : pB) (T : pT) (g : pG) : Int := if g.f = 0 ∧ pPl c.nm c.P T g ≠ -2 then pPl c.nm c.P T g else -1
theorem ph_0 {c : pB} {T : pT} {g : pG} {v : Int} (h : g.f ≠ 0 ∨ T.K g.t ≠ 18) (hv : v = -1) : v = pPh c T g := by
  unfold pPh
  rw [if_neg]
  · exact hv
  · rintro ⟨a, d⟩
    rcases h with h | h
    · exact h a
    · unfold pPl at d
      rw [if_neg h] at d
      exact d rfl
theorem ph_no {c : pB} {T : pT} {g : pG} {v w : Int} {p : Nat} (h : pnI c.nm w p) (hp : p = c.P.toNat) (hw : w = T.V g.t) (hk : T.K g.t = 18) (hf : g.f = 0) (hv : v = -1) : v = pPh c T g := by
  have e : pPl c.nm c.P T g = -2 := by
    unfold pPl
    rw [if_pos hk, ← hw, ← hp]
    exact pn_no h
  unfold pPh
  rw [if_neg (fun q => q.2 e)]
  exact hv
theorem ph_yes {c : pB} {T : pT} {g : pG} {v w : Int} {p : Nat} (h : pnI c.nm w p) (hp : p < c.P.toNat) (hn : c.nm p = w) (hw : w = T.V g.t) (hk : T.K g.t = 18) (hf : g.f = 0) (hv : v = p) : v = pPh c T g := by
  have e : pPl c.nm c.P T g = p := by
    unfold pPl
    rw [if_pos hk, ← hw]
    exact pn_up h hn hp
  unfold pPh
  rw [if_pos ⟨hf, by omega⟩, e]
  exact hv
theorem pn_ge {nm : Nat → Int} {w : Int} : ∀ {P : Nat}, pNm nm w P = -2 ∨ 0 ≤ pNm nm w P
  | 0 => Or.inl rfl
  | P + 1 => by
    unfold pNm
    split
    · split
      · exact Or.inr (by first | with_reducible assumption | omega)
      · exact Or.inl rfl
    · exact (pn_ge (P := P))
theorem pT_no {T : pT} {lo hi : Int} {g : pG} (h : g.f ≠ 0) : pTake T lo hi g = g := by
  unfold pTake
  rw [pF_neg h, if_pos h, ite_self]
theorem rp_1 {c : pB} {T : pT} {g : pG} (h : pPh c T g = -1) : pPlc c.nm c.P T (-1) g = pGn T (pFail T 1 g) := by
  have hn := pF_ne (T := T) (g := g) (n := 1) (by decide)
  rw [gn_no hn.1]
  unfold pPh at h
  unfold pPlc
  split
  · unfold pTake
    split
    · exact pF_neg hn.1
    · rw [if_pos hn.1]
  · rename_i q
    have hf : g.f ≠ 0 := fun z => by
      rw [if_pos ⟨z, q⟩] at h
      unfold pPl at h q
      split at h
      · have := pn_ge (nm := c.nm) (w := T.V g.t) (P := c.P.toNat)
        rw [if_pos (by assumption)] at q
        omega
      · omega
    rw [pF_neg (T := T) (n := 1) hf, pF_neg (T := T) (n := 3) hf, pT_no hf, ite_self]
theorem rp_2 {c : pB} {T : pT} {g : pG} (h : pPh c T g ≠ -1) : pPlc c.nm c.P T (-1) g = pGn T g := by
  unfold pPh at h
  if q : g.f = 0 ∧ pPl c.nm c.P T g ≠ -2 then
    rw [if_pos q] at h
    unfold pPlc
    rw [if_neg q.2, if_neg h, gn_yes q.1]
    have hk : T.K g.t = 18 := by
      if z : T.K g.t = 18 then exact z
      else
        exfalso
        apply q.2
        unfold pPl
        rw [if_neg z]
    unfold pTake
    rw [if_neg (by first | with_reducible assumption | omega), if_neg (fun z => z q.1)]
  else
    rw [if_neg q] at h
    exact absurd rfl h
set_option maxRecDepth 4000 in
set_option maxHeartbeats 4000000 in
/-- M.placeHere, exactly -/
theorem f_164 (H : mzH) (hI : gI SM H) (hJ : JN H) (x0 x1 x2 x3 x4 x5 x6 : Int32) (hx0 : 0 ≤ x0.toInt ∧ x0.toInt ≤ 900) (hx1 : 0 ≤ x1.toInt ∧ x1.toInt ≤ 900) (hx2 : 0 ≤ x2.toInt ∧ x2.toInt ≤ 4) {b : Nat → Int} {n : Nat} {T : pT} {g : pG} {c : pB} (hp0 : tkM H b n T) (hp1 : rdM b n T g x0 x1 x2 x3 x4 x5 x6) (hp2 : bkM H c) : gCall 164 [.ref 0] (mS H x0 x1 x2 x3 x4 x5 x6) (gRi (fun v H' => H' = mS H x0 x1 x2 x3 x4 x5 x6 ∧ (-1 ≤ v.toInt ∧ v.toInt ≤ 7) ∧ v.toInt = pPh c T g)) := by
  obtain ⟨r0, r1, r2, r3, r4, r5⟩ := id hp1
  have w0 := hp0.2.2
  have w1 := at_le hp0.2.1 r2
  have w2 := kr_n r1
  have w3 := hp2.1
  have w4 := JN_n30 hJ (v := aZ H 3 0) rfl
  refine gG_call [(0, .ref 0)] ⟨rfl, trivial⟩ ?_
  show gG 2 zB_164 (mzBlk zB_164 0) [(0, .ref 0)] [] (mS H x0 x1 x2 x3 x4 x5 x6) 0 0 _
  refine g_aload_n rfl ?_
  refine g_gfk (mS_I hI (by first | with_reducible assumption | omega) (by first | with_reducible assumption | omega) (by first | with_reducible assumption | omega)) sm_0 rfl (mS_g13 hI) ?_
  refine g_if_ne (fun c105 => ?_) (fun c105 => ?_)
  · refine g_iconst (by decide) (fun v106 kv106 => ?_)
    exact g_iret ⟨_, rfl, rfl, (by first | with_reducible assumption | omega), (by first | exact ph_0 (by first | with_reducible assumption | omega) (by first | with_reducible assumption | omega) | exact ph_no q1 (by first | with_reducible assumption | omega) (by first | with_reducible assumption | omega) (by first | with_reducible assumption | omega) (by first | with_reducible assumption | omega) (by first | with_reducible assumption | omega))⟩
  · refine g_aload_n rfl ?_
    refine g_gfk (mS_I hI (by first | with_reducible assumption | omega) (by first | with_reducible assumption | omega) (by first | with_reducible assumption | omega)) sm_0 rfl (mS_g10 hI) ?_
    refine g_if_ne (fun c107 => ?_) (fun c107 => ?_)
    · refine g_iconst (by decide) (fun v108 kv108 => ?_)
      exact g_iret ⟨_, rfl, rfl, (by first | with_reducible assumption | omega), (by first | exact ph_0 (by first | with_reducible assumption | omega) (by first | with_reducible assumption | omega) | exact ph_no q1 (by first | with_reducible assumption | omega) (by first | with_reducible assumption | omega) (by first | with_reducible assumption | omega) (by first | with_reducible assumption | omega) (by first | with_reducible assumption | omega))⟩
    · refine g_aload_n rfl ?_
      refine g_gfk (mS_I hI (by first | with_reducible assumption | omega) (by first | with_reducible assumption | omega) (by first | with_reducible assumption | omega)) sm_0 rfl (mS_g11 hI) ?_
      refine g_iconst (by decide) (fun v109 kv109 => ?_)
      refine g_if2_eq (fun c110 => ?_) (fun c110 => ?_)
      · refine g_iconst (by decide) (fun v111 kv111 => ?_)
        refine g_istore_n (l' := [(0, .ref 0), (1, .int v111)]) rfl rfl ?_
        refine g_nop ?_
        have L113 : ∀ (N : Nat) (v112 : Int32), (0 ≤ v112.toInt ∧ v112.toInt ≤ 8) → pnI c.nm x4.toInt v112.toInt.toNat → v112.toInt ≤ c.P → (9 - v112.toInt).toNat < N → gG 2 zB_164 (mzBlk zB_164 3) [(0, .ref 0), (1, .int v112)] [] (mS H x0 x1 x2 x3 x4 x5 x6) 0 0 (gRi (fun v H' => H' = mS H x0 x1 x2 x3 x4 x5 x6 ∧ (-1 ≤ v.toInt ∧ v.toInt ≤ 7) ∧ v.toInt = pPh c T g)) := by
          intro N
          induction N with
          | zero => intro v112 bv112 q1 q2 hmL113; exact absurd hmL113 (Nat.not_lt_zero _)
          | succ N ihL113 =>
            intro v112 bv112 q1 q2 hmL113
            refine g_iload_n rfl ?_
            refine g_aload_n rfl ?_
            refine g_gfr (mS_I hI (by first | with_reducible assumption | omega) (by first | with_reducible assumption | omega) (by first | with_reducible assumption | omega)) sm_0 rfl ?_
            refine g_iconst (by decide) (fun v114 kv114 => ?_)
            refine g_iaload (mS_I hI (by first | with_reducible assumption | omega) (by first | with_reducible assumption | omega) (by first | with_reducible assumption | omega)) sm_3 rfl (by first | with_reducible assumption | omega) (fun v115 ev115 lv115 uv115 => ?_)
            have dv115 : v115 = aZ H 3 v114.toInt.toNat := ev115.trans mS_a
            have tv115 : v115.toInt = (aZ H 3 v114.toInt.toNat).toInt := by rw [dv115]
            rw [show v114.toInt.toNat = 0 from by omega] at tv115
            have jv115 := JN_n30 hJ (v := aZ H 3 0) rfl
            refine g_if2_ge (fun c116 => ?_) (fun c116 => ?_)
            · refine g_iconst (by decide) (fun v117 kv117 => ?_)
              exact g_iret ⟨_, rfl, rfl, (by first | with_reducible assumption | omega), (by first | exact ph_0 (by first | with_reducible assumption | omega) (by first | with_reducible assumption | omega) | exact ph_no q1 (by first | with_reducible assumption | omega) (by first | with_reducible assumption | omega) (by first | with_reducible assumption | omega) (by first | with_reducible assumption | omega) (by first | with_reducible assumption | omega))⟩
            · refine g_aload_n rfl ?_
              refine g_gfr (mS_I hI (by first | with_reducible assumption | omega) (by first | with_reducible assumption | omega) (by first | with_reducible assumption | omega)) sm_0 rfl ?_
              refine g_iload_n rfl ?_
              refine g_iaload (mS_I hI (by first | with_reducible assumption | omega) (by first | with_reducible assumption | omega) (by first | with_reducible assumption | omega)) sm_4 rfl (by first | with_reducible assumption | omega) (fun v118 ev118 lv118 uv118 => ?_)
              have dv118 : v118 = aZ H 4 v112.toInt.toNat := ev118.trans mS_a
              have tv118 : v118.toInt = (aZ H 4 v112.toInt.toNat).toInt := by rw [dv118]
              have uv118 : v118.toInt = c.nm v112.toInt.toNat := tv118.trans (hp2.2.2.2.2.2.2.1 _ (by first | with_reducible assumption | omega))
              refine g_aload_n rfl ?_
              refine g_gfk (mS_I hI (by first | with_reducible assumption | omega) (by first | with_reducible assumption | omega) (by first | with_reducible assumption | omega)) sm_0 rfl (mS_g12 hI) ?_
              refine g_if2_ne (fun c119 => ?_) (fun c119 => ?_)
              · refine g_iinc (l' := (fun v120 => [(0, .ref 0), (1, .int v120)])) rfl rfl (by decide) (by first | with_reducible assumption | omega) (fun _ => rfl) (fun v120 ev120 => ?_)
                refine g_goto ?_
                exact ihL113 v120 (by first | with_reducible assumption | omega) (pn_st q1 (by first | with_reducible assumption | omega) (by first | with_reducible assumption | omega)) (by first | with_reducible assumption | omega) (by first | with_reducible assumption | omega)
              · refine g_iload_n rfl ?_
                exact g_iret ⟨_, rfl, rfl, (by first | with_reducible assumption | omega), (ph_yes q1 (by first | with_reducible assumption | omega) (by first | with_reducible assumption | omega) (by first | with_reducible assumption | omega) (by first | with_reducible assumption | omega) (by first | with_reducible assumption | omega) (by first | with_reducible assumption | omega))⟩
        exact L113 _ v111 (by first | with_reducible assumption | omega) (pn_0 (by first | with_reducible assumption | omega)) (by first | with_reducible assumption | omega) (Nat.lt_succ_self _)
      · refine g_nop ?_
        refine g_iconst (by decide) (fun v121 kv121 => ?_)
        exact g_iret ⟨_, rfl, rfl, (by first | with_reducible assumption | omega), (by first | exact ph_0 (by first | with_reducible assumption | omega) (by first | with_reducible assumption | omega) | exact ph_no q1 (by first | with_reducible assumption | omega) (by first | with_reducible assumption | omega) (by first | with_reducible assumption | omega) (by first | with_reducible assumption | omega) (by first | with_reducible assumption | omega))⟩
set_option maxRecDepth 4000 in
set_option maxHeartbeats 4000000 in
/-- M.readPlace, exactly -/
theorem f_165 (H : mzH) (hI : gI SM H) (hJ : JN H) (x0 x1 x2 x3 x4 x5 x6 : Int32) (hx0 : 0 ≤ x0.toInt ∧ x0.toInt ≤ 900) (hx1 : 0 ≤ x1.toInt ∧ x1.toInt ≤ 900) (hx2 : 0 ≤ x2.toInt ∧ x2.toInt ≤ 4) {b : Nat → Int} {n : Nat} {T : pT} {g : pG} {c : pB} (hp0 : tkM H b n T) (hp1 : rdM b n T g x0 x1 x2 x3 x4 x5 x6) (hp2 : bkM H c) : gCall 165 [.ref 0] (mS H x0 x1 x2 x3 x4 x5 x6) (gRi (fun v H' => ∃ y0 y1 y2 y3 y4 y5 y6 : Int32, H' = mS H y0 y1 y2 y3 y4 y5 y6 ∧ (-1 ≤ v.toInt ∧ v.toInt ≤ 7) ∧ (0 ≤ y0.toInt ∧ y0.toInt ≤ 900) ∧ (0 ≤ y1.toInt ∧ y1.toInt ≤ 900) ∧ (0 ≤ y2.toInt ∧ y2.toInt ≤ 4) ∧ rdM b n T (pPlc c.nm c.P T (-1) g) y0 y1 y2 y3 y4 y5 y6 ∧ v.toInt = pPh c T g)) := by
  obtain ⟨r0, r1, r2, r3, r4, r5⟩ := id hp1
  have w0 := hp0.2.2
  have w1 := at_le hp0.2.1 r2
  have w2 := kr_n r1
  refine gG_call [(0, .ref 0)] ⟨rfl, trivial⟩ ?_
  show gG 2 zB_165 (mzBlk zB_165 0) [(0, .ref 0)] [] (mS H x0 x1 x2 x3 x4 x5 x6) 0 0 _
  refine g_aload_n rfl ?_
  refine g_invvi (mS_I hI (by first | with_reducible assumption | omega) (by first | with_reducible assumption | omega) (by first | with_reducible assumption | omega)) sm_0 rfl rfl rfl rfl (f_164 H hI hJ x0 x1 x2 x3 x4 x5 x6 (by first | with_reducible assumption | omega) (by first | with_reducible assumption | omega) (by first | with_reducible assumption | omega) hp0 hp1 hp2) (fun v115 H113 r114 => ?_)
  obtain ⟨rfl, bv115, zp116⟩ := r114
  refine g_istore_n (l' := [(0, .ref 0), (1, .int v115)]) rfl rfl ?_
  refine g_iload_n rfl ?_
  refine g_iconst (by decide) (fun v117 kv117 => ?_)
  refine g_if2_ne (fun c118 => ?_) (fun c118 => ?_)
  · refine g_aload_n rfl ?_
    refine g_invvv (mS_I hI (by first | with_reducible assumption | omega) (by first | with_reducible assumption | omega) (by first | with_reducible assumption | omega)) sm_0 rfl rfl rfl rfl (f_162 H hI hJ x0 x1 x2 x3 x4 x5 x6 (by first | with_reducible assumption | omega) (by first | with_reducible assumption | omega) (by first | with_reducible assumption | omega) hp0 hp1) (fun H119 r120 => ?_)
    obtain ⟨y121, y122, y123, y124, y125, rfl, by121, by122, by123, zp126⟩ := r120
    obtain ⟨razp126, rbzp126, rczp126, rdzp126, rezp126, rfzp126⟩ := id zp126
    unfold kR nmR kwR at rbzp126
    have nzp126 := gn_f (T := T) (g := g)
    refine g_iload_n rfl ?_
    exact g_iret ⟨_, rfl, y121, y122, y123, y124, y125, x5, x6, rfl, (by first | with_reducible assumption | omega), (by first | with_reducible assumption | omega), (by first | with_reducible assumption | omega), (by first | with_reducible assumption | omega), (by first | (rw [rp_1 (by first | with_reducible assumption | omega)]; exact zp126) | (rw [rp_2 (by first | with_reducible assumption | omega)]; exact zp126)), zp116⟩
  · refine g_aload_n rfl ?_
    refine g_iconst (by decide) (fun v127 kv127 => ?_)
    refine g_invvv (mS_I hI (by first | with_reducible assumption | omega) (by first | with_reducible assumption | omega) (by first | with_reducible assumption | omega)) sm_0 rfl rfl rfl rfl (f_161 v127 (by first | with_reducible assumption | omega) H hI hJ x0 x1 x2 x3 x4 x5 x6 (by first | with_reducible assumption | omega) (by first | with_reducible assumption | omega) (by first | with_reducible assumption | omega) hp0 hp1) (fun H128 r129 => ?_)
    obtain ⟨y130, y131, rfl, zp132⟩ := r129
    rw [kv127] at zp132
    obtain ⟨razp132, rbzp132, rczp132, rdzp132, rezp132, rfzp132⟩ := id zp132
    unfold kR nmR kwR at rbzp132
    have nzp132 := pF_ne (T := T) (g := g) (n := 1) (by first | with_reducible assumption | omega)
    refine g_nop ?_
    refine g_aload_n rfl ?_
    refine g_invvv (mS_I hI (by first | with_reducible assumption | omega) (by first | with_reducible assumption | omega) (by first | with_reducible assumption | omega)) sm_0 rfl rfl rfl rfl (f_162 H hI hJ x0 x1 x2 x3 x4 y130 y131 (by first | with_reducible assumption | omega) (by first | with_reducible assumption | omega) (by first | with_reducible assumption | omega) hp0 zp132) (fun H133 r134 => ?_)
    obtain ⟨y135, y136, y137, y138, y139, rfl, by135, by136, by137, zp140⟩ := r134
    obtain ⟨razp140, rbzp140, rczp140, rdzp140, rezp140, rfzp140⟩ := id zp140
    unfold kR nmR kwR at rbzp140
    have nzp140 := gn_f (T := T) (g := (pFail T 1 g))
    refine g_iload_n rfl ?_
    exact g_iret ⟨_, rfl, y135, y136, y137, y138, y139, y130, y131, rfl, (by first | with_reducible assumption | omega), (by first | with_reducible assumption | omega), (by first | with_reducible assumption | omega), (by first | with_reducible assumption | omega), (by first | (rw [rp_1 (by first | with_reducible assumption | omega)]; exact zp140) | (rw [rp_2 (by first | with_reducible assumption | omega)]; exact zp140)), zp116⟩
