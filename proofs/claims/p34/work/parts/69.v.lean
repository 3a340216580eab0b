theorem kr_u {K V so va wo : Int} (h : kR K V so va wo) : (K = 19 ∧ so = 1 ∧ ((0 ≤ va ∧ va ≤ 9999 ∧ V = va) ∨ (9999 < va ∧ 9999 < V))) ∨ (¬ K = 19 ∧ ¬ so = 1) := by
  unfold kR kwR nmR at h
  omega
/-- the reference reads the same bytes -/
def tkM (H : mzH) (b : Nat → Int) (n : Nat) (T : pT) : Prop := (∀ q, q < n → sgB (b q) (bM H q)) ∧ tkA b n T.K T.S T.V T.M ∧ (fZ H 0 7).toInt = (n : Int)
/-- the reference's reader stands at g -/
def rdM (b : Nat → Int) (n : Nat) (T : pT) (g : pG) (x0 x1 x2 x3 x4 x5 x6 : Int32) : Prop := x1.toInt = T.S g.t ∧ kR (T.K g.t) (T.V g.t) x2.toInt x3.toInt x4.toInt ∧ atM b n T g.t x0.toInt ∧ x5.toInt = g.f ∧ (g.f ≠ 0 → x6.toInt = g.p) ∧ g.t ≤ T.M
theorem at_le {b : Nat → Int} {n t : Nat} {T : pT} {a : Int} (_ : tkA b n T.K T.S T.V T.M) (h : atM b n T t a) : a.toNat ≤ n := by
  rcases h with ⟨_, _, _, _, _, h⟩ | ⟨_, h⟩
  · exact (tk_le h).2
  · omega
def pGn (T : pT) (g : pG) : pG := if g.f = 0 then pGo T g else g
theorem gn_f {T : pT} {g : pG} : (pGn T g).f = g.f := by
  unfold pGn
  split
  · exact pGo_f
  · rfl
theorem gn_no {T : pT} {g : pG} (h : g.f ≠ 0) : pGn T g = g := if_neg h
theorem gn_yes {T : pT} {g : pG} (h : g.f = 0) : pGn T g = pGo T g := if_pos h
theorem gn_mk {H : mzH} {b : Nat → Int} {n : Nat} {T : pT} {g : pG} {x0 x1 x2 x3 x4 x5 x6 y0 y1 y2 y3 y4 : Int32} {l : Nat} (h0 : tkM H b n T) (h1 : rdM b n T g x0 x1 x2 x3 x4 x5 x6) (hl : l = n ∧ 0 ≤ y1.toInt) (hm : mkT (bM H) l x0.toInt.toNat y0.toInt y1.toInt y2.toInt y3.toInt y4.toInt) : rdM b n T (pGo T g) y0 y1 y2 y3 y4 x5 x6 := by
  obtain ⟨r0, r1, r2, r3, r4, r5⟩ := h1
  obtain ⟨rfl, hy⟩ := hl
  unfold pGo
  split
  · rename_i h
    obtain ⟨a1, a2, a3⟩ := tk_next h0.1 h0.2.1 h r2 hy hm
    exact ⟨a1, a2, a3, r3, r4, h⟩
  · have e : g.t = T.M := by omega
    rw [e] at r2
    obtain ⟨a1, a2, a3⟩ := tk_last h0.2.1 r2 hy hm
    exact ⟨by rw [e]; exact a1, by rw [e]; exact a2, by rw [e]; exact a3, r3, r4, r5⟩
theorem pN_0 {T : pT} {lo hi : Int} {g : pG} (h : g.f ≠ 0) : pNumb T lo hi g = g := by
  unfold pNumb
  rw [pF_neg h, ite_self]
  unfold pTake
  rw [pF_neg h, if_pos h, ite_self]
theorem pN_1 {T : pT} {lo hi : Int} {g : pG} (h : g.f = 0) (hk : T.K g.t ≠ 19) : pNumb T lo hi g = pFail T 1 g := by
  unfold pNumb
  rw [if_neg (fun c => hk c.1)]
  unfold pTake
  rw [if_pos (by first | with_reducible assumption | omega)]
theorem pN_2 {T : pT} {lo hi : Int} {g : pG} (h : g.f = 0) (hk : T.K g.t = 19) (ho : T.V g.t < lo ∨ hi < T.V g.t) : pNumb T lo hi g = pFail T 2 g := by
  have hn := pF_ne (T := T) (g := g) (n := 2) (by decide)
  unfold pNumb
  rw [if_pos ⟨hk, ho⟩]
  unfold pTake
  rw [hn.2, if_neg (by first | with_reducible assumption | omega), if_pos hn.1]
theorem pN_3 {T : pT} {lo hi : Int} {g : pG} (h : g.f = 0) (hk : T.K g.t = 19) (ho : ¬ (T.V g.t < lo ∨ hi < T.V g.t)) : pNumb T lo hi g = pGo T g := by
  unfold pNumb
  rw [if_neg (fun c => ho c.2)]
  unfold pTake
  rw [if_neg (by first | with_reducible assumption | omega), if_neg (fun c => c h)]
set_option maxRecDepth 4000 in
set_option maxHeartbeats 4000000 in
/-- M.wrong, exactly -/
theorem f_161 (a1 : Int32) (ha1 : 1 ≤ a1.toInt ∧ a1.toInt ≤ 3) (H : mzH) (hI : gI SM H) (hJ : JN H) (x0 x1 x2 x3 x4 x5 x6 : Int32) (hx0 : 0 ≤ x0.toInt ∧ x0.toInt ≤ 900) (hx1 : 0 ≤ x1.toInt ∧ x1.toInt ≤ 900) (hx2 : 0 ≤ x2.toInt ∧ x2.toInt ≤ 4) {b : Nat → Int} {n : Nat} {T : pT} {g : pG} (hp0 : tkM H b n T) (hp1 : rdM b n T g x0 x1 x2 x3 x4 x5 x6) : gCall 161 [.ref 0, .int a1] (mS H x0 x1 x2 x3 x4 x5 x6) (gRv (fun H' => ∃ y5 y6 : Int32, H' = mS H x0 x1 x2 x3 x4 y5 y6 ∧ rdM b n T (pFail T a1.toInt g) x0 x1 x2 x3 x4 y5 y6)) := by
  obtain ⟨r0, r1, r2, r3, r4, r5⟩ := id hp1
  have w0 := hp0.2.2
  have w1 := at_le hp0.2.1 r2
  have ru := kr_u r1
  refine gG_call [(0, .ref 0), (1, .int a1)] ⟨rfl, rfl, trivial⟩ ?_
  show gG 2 zB_161 (mzBlk zB_161 0) [(0, .ref 0), (1, .int a1)] [] (mS H x0 x1 x2 x3 x4 x5 x6) 0 0 _
  refine g_aload_n rfl ?_
  refine g_gfk (mS_I hI (by first | with_reducible assumption | omega) (by first | with_reducible assumption | omega) (by first | with_reducible assumption | omega)) sm_0 rfl (mS_g13 hI) ?_
  refine g_if_eq (fun c13 => ?_) (fun c13 => ?_)
  · refine g_aload_n rfl ?_
    refine g_iload_n rfl ?_
    refine g_pfi (mS_I hI (by first | with_reducible assumption | omega) (by first | with_reducible assumption | omega) (by first | with_reducible assumption | omega)) sm_0 rfl (gz_any _) (fun H14 eH14 hIH14 => ?_)
    obtain rfl : H14 = (mS H x0 x1 x2 x3 x4 a1 x6) := eH14.trans (mS_s13 hI)
    refine g_aload_n rfl ?_
    refine g_aload_n rfl ?_
    refine g_gfk (mS_I hI (by first | with_reducible assumption | omega) (by first | with_reducible assumption | omega) (by first | with_reducible assumption | omega)) sm_0 rfl (mS_g9 hI) ?_
    refine g_pfi (mS_I hI (by first | with_reducible assumption | omega) (by first | with_reducible assumption | omega) (by first | with_reducible assumption | omega)) sm_0 rfl (gz_any _) (fun H15 eH15 hIH15 => ?_)
    obtain rfl : H15 = (mS H x0 x1 x2 x3 x4 a1 x1) := eH15.trans (mS_s14 hI)
    exact g_ret ⟨rfl, a1, x1, rfl, (by rw [pF_pos (by first | with_reducible assumption | omega)]; exact ⟨r0, hp1.2.1, r2, rfl, fun _ => r0, r5⟩)⟩
  · exact g_ret ⟨rfl, x5, x6, rfl, (by rw [pF_neg (by first | with_reducible assumption | omega)]; exact hp1)⟩
set_option maxRecDepth 4000 in
set_option maxHeartbeats 4000000 in
/-- M.goOn, exactly -/
theorem f_162 (H : mzH) (hI : gI SM H) (hJ : JN H) (x0 x1 x2 x3 x4 x5 x6 : Int32) (hx0 : 0 ≤ x0.toInt ∧ x0.toInt ≤ 900) (hx1 : 0 ≤ x1.toInt ∧ x1.toInt ≤ 900) (hx2 : 0 ≤ x2.toInt ∧ x2.toInt ≤ 4) {b : Nat → Int} {n : Nat} {T : pT} {g : pG} (hp0 : tkM H b n T) (hp1 : rdM b n T g x0 x1 x2 x3 x4 x5 x6) : gCall 162 [.ref 0] (mS H x0 x1 x2 x3 x4 x5 x6) (gRv (fun H' => ∃ y0 y1 y2 y3 y4 : Int32, H' = mS H y0 y1 y2 y3 y4 x5 x6 ∧ (0 ≤ y0.toInt ∧ y0.toInt ≤ 900) ∧ (0 ≤ y1.toInt ∧ y1.toInt ≤ 900) ∧ (0 ≤ y2.toInt ∧ y2.toInt ≤ 4) ∧ rdM b n T (pGn T g) y0 y1 y2 y3 y4 x5 x6)) := by
  obtain ⟨r0, r1, r2, r3, r4, r5⟩ := id hp1
  have w0 := hp0.2.2
  have w1 := at_le hp0.2.1 r2
  have ru := kr_u r1
  refine gG_call [(0, .ref 0)] ⟨rfl, trivial⟩ ?_
  show gG 1 zB_162 (mzBlk zB_162 0) [(0, .ref 0)] [] (mS H x0 x1 x2 x3 x4 x5 x6) 0 0 _
  refine g_aload_n rfl ?_
  refine g_gfk (mS_I hI (by first | with_reducible assumption | omega) (by first | with_reducible assumption | omega) (by first | with_reducible assumption | omega)) sm_0 rfl (mS_g13 hI) ?_
  refine g_if_ne (fun c37 => ?_) (fun c37 => ?_)
  · exact g_ret ⟨rfl, x0, x1, x2, x3, x4, rfl, (by first | with_reducible assumption | omega), (by first | with_reducible assumption | omega), (by first | with_reducible assumption | omega), (by unfold pGn; rw [if_neg (by first | with_reducible assumption | omega)]; exact hp1)⟩
  · refine g_aload_n rfl ?_
    refine g_invvv (mS_I hI (by first | with_reducible assumption | omega) (by first | with_reducible assumption | omega) (by first | with_reducible assumption | omega)) sm_0 rfl rfl rfl rfl (f_159 H hI hJ x0 x1 x2 x3 x4 x5 x6 (by first | with_reducible assumption | omega) (by first | with_reducible assumption | omega) (by first | with_reducible assumption | omega) (by first | with_reducible assumption | omega)) (fun H38 r39 => ?_)
    obtain ⟨y40, y41, y42, y43, y44, rfl, by40, by41, by42, zp45⟩ := r39
    refine g_nop ?_
    exact g_ret ⟨rfl, y40, y41, y42, y43, y44, rfl, (by first | with_reducible assumption | omega), (by first | with_reducible assumption | omega), (by first | with_reducible assumption | omega), (by unfold pGn; rw [if_pos (by first | with_reducible assumption | omega)]; exact gn_mk hp0 hp1 (by first | with_reducible assumption | omega) zp45)⟩
set_option maxRecDepth 4000 in
set_option maxHeartbeats 4000000 in
/-- M.number, exactly -/
theorem f_163 (a1 : Int32) (ha1 : 0 ≤ a1.toInt ∧ a1.toInt ≤ 1) (a2 : Int32) (ha2 : 0 ≤ a2.toInt ∧ a2.toInt ≤ 9999) (H : mzH) (hI : gI SM H) (hJ : JN H) (x0 x1 x2 x3 x4 x5 x6 : Int32) (hx0 : 0 ≤ x0.toInt ∧ x0.toInt ≤ 900) (hx1 : 0 ≤ x1.toInt ∧ x1.toInt ≤ 900) (hx2 : 0 ≤ x2.toInt ∧ x2.toInt ≤ 4) {b : Nat → Int} {n : Nat} {T : pT} {g : pG} (hp0 : tkM H b n T) (hp1 : rdM b n T g x0 x1 x2 x3 x4 x5 x6) : gCall 163 [.ref 0, .int a1, .int a2] (mS H x0 x1 x2 x3 x4 x5 x6) (gRi (fun v H' => ∃ y0 y1 y2 y3 y4 y5 y6 : Int32, H' = mS H y0 y1 y2 y3 y4 y5 y6 ∧ (0 ≤ y0.toInt ∧ y0.toInt ≤ 900) ∧ (0 ≤ y1.toInt ∧ y1.toInt ≤ 900) ∧ (0 ≤ y2.toInt ∧ y2.toInt ≤ 4) ∧ rdM b n T (pNumb T a1.toInt a2.toInt g) y0 y1 y2 y3 y4 y5 y6 ∧ ((pNumb T a1.toInt a2.toInt g).f ≠ 0 ∨ v.toInt = T.V g.t))) := by
  obtain ⟨r0, r1, r2, r3, r4, r5⟩ := id hp1
  have w0 := hp0.2.2
  have w1 := at_le hp0.2.1 r2
  have ru := kr_u r1
  clear r0 r4 r5
  refine gG_call [(0, .ref 0), (1, .int a1), (2, .int a2)] ⟨rfl, rfl, rfl, trivial⟩ ?_
  show gG 4 zB_163 (mzBlk zB_163 0) [(0, .ref 0), (1, .int a1), (2, .int a2)] [] (mS H x0 x1 x2 x3 x4 x5 x6) 0 0 _
  refine g_aload_n rfl ?_
  refine g_gfk (mS_I hI (by first | with_reducible assumption | omega) (by first | with_reducible assumption | omega) (by first | with_reducible assumption | omega)) sm_0 rfl (mS_g13 hI) ?_
  refine g_if_eq (fun c333 => ?_) (fun c333 => ?_)
  · refine g_aload_n rfl ?_
    refine g_gfk (mS_I hI (by first | with_reducible assumption | omega) (by first | with_reducible assumption | omega) (by first | with_reducible assumption | omega)) sm_0 rfl (mS_g10 hI) ?_
    refine g_iconst (by decide) (fun v334 kv334 => ?_)
    refine g_if2_eq (fun c335 => ?_) (fun c335 => ?_)
    · refine g_aload_n rfl ?_
      refine g_gfk (mS_I hI (by first | with_reducible assumption | omega) (by first | with_reducible assumption | omega) (by first | with_reducible assumption | omega)) sm_0 rfl (mS_g11 hI) ?_
      refine g_iload_n rfl ?_
      refine g_if2_lt (fun c336 => ?_) (fun c336 => ?_)
      · refine g_aload_n rfl ?_
        refine g_iconst (by decide) (fun v337 kv337 => ?_)
        refine g_invvv (mS_I hI (by first | with_reducible assumption | omega) (by first | with_reducible assumption | omega) (by first | with_reducible assumption | omega)) sm_0 rfl rfl rfl rfl (f_161 v337 (by first | with_reducible assumption | omega) H hI hJ x0 x1 x2 x3 x4 x5 x6 (by first | with_reducible assumption | omega) (by first | with_reducible assumption | omega) (by first | with_reducible assumption | omega) hp0 hp1) (fun H338 r339 => ?_)
        obtain ⟨y340, y341, rfl, zp342⟩ := r339
        rw [kv337] at zp342
        obtain ⟨razp342, rbzp342, rczp342, rdzp342, rezp342, rfzp342⟩ := id zp342
        have ruzp342 := kr_u rbzp342
        have nzp342 := pF_ne (T := T) (g := g) (n := 2) (by first | with_reducible assumption | omega)
        refine g_nop ?_
        refine g_aload_n rfl ?_
        refine g_gfk (mS_I hI (by first | with_reducible assumption | omega) (by first | with_reducible assumption | omega) (by first | with_reducible assumption | omega)) sm_0 rfl (mS_g13 hI) ?_
        refine g_if_ne (fun c343 => ?_) (fun c343 => ?_)
        · refine g_iload_n rfl ?_
          refine g_nop ?_
          refine g_istore_n (l' := [(0, .ref 0), (1, .int a1), (2, .int a2), (3, .int a1)]) rfl rfl ?_
          refine g_aload_n rfl ?_
          refine g_invvv (mS_I hI (by first | with_reducible assumption | omega) (by first | with_reducible assumption | omega) (by first | with_reducible assumption | omega)) sm_0 rfl rfl rfl rfl (f_162 H hI hJ x0 x1 x2 x3 x4 y340 y341 (by first | with_reducible assumption | omega) (by first | with_reducible assumption | omega) (by first | with_reducible assumption | omega) hp0 zp342) (fun H344 r345 => ?_)
          obtain ⟨y346, y347, y348, y349, y350, rfl, by346, by347, by348, zp351⟩ := r345
          obtain ⟨razp351, rbzp351, rczp351, rdzp351, rezp351, rfzp351⟩ := id zp351
          have ruzp351 := kr_u rbzp351
          have nzp351 := gn_f (T := T) (g := (pFail T 2 g))
          refine g_iload_n rfl ?_
          exact g_iret ⟨_, rfl, y346, y347, y348, y349, y350, y340, y341, rfl, (by first | with_reducible assumption | omega), (by first | with_reducible assumption | omega), (by first | with_reducible assumption | omega), (by first | (rw [pN_0 (by first | with_reducible assumption | omega)]; exact zp351) | (rw [pN_1 (by first | with_reducible assumption | omega) (by first | with_reducible assumption | omega), ← gn_no (T := T) (g := pFail T 1 g) (by first | with_reducible assumption | omega)]; exact zp351) | (rw [pN_2 (by first | with_reducible assumption | omega) (by first | with_reducible assumption | omega) (by first | with_reducible assumption | omega), ← gn_no (T := T) (g := pFail T 2 g) (by first | with_reducible assumption | omega)]; exact zp351) | (rw [pN_3 (by first | with_reducible assumption | omega) (by first | with_reducible assumption | omega) (by first | with_reducible assumption | omega), ← gn_yes (by first | with_reducible assumption | omega)]; exact zp351)), (by first | (rw [pN_0 (by first | with_reducible assumption | omega)]; omega) | (rw [pN_1 (by first | with_reducible assumption | omega) (by first | with_reducible assumption | omega)]; omega) | (rw [pN_2 (by first | with_reducible assumption | omega) (by first | with_reducible assumption | omega) (by first | with_reducible assumption | omega)]; omega) | (right; omega))⟩
        · refine g_aload_n rfl ?_
          refine g_gfk (mS_I hI (by first | with_reducible assumption | omega) (by first | with_reducible assumption | omega) (by first | with_reducible assumption | omega)) sm_0 rfl (mS_g11 hI) ?_
          refine g_goto ?_
          refine g_istore_n (l' := [(0, .ref 0), (1, .int a1), (2, .int a2), (3, .int x3)]) rfl rfl ?_
          refine g_aload_n rfl ?_
          refine g_invvv (mS_I hI (by first | with_reducible assumption | omega) (by first | with_reducible assumption | omega) (by first | with_reducible assumption | omega)) sm_0 rfl rfl rfl rfl (f_162 H hI hJ x0 x1 x2 x3 x4 y340 y341 (by first | with_reducible assumption | omega) (by first | with_reducible assumption | omega) (by first | with_reducible assumption | omega) hp0 zp342) (fun H352 r353 => ?_)
          obtain ⟨y354, y355, y356, y357, y358, rfl, by354, by355, by356, zp359⟩ := r353
          obtain ⟨razp359, rbzp359, rczp359, rdzp359, rezp359, rfzp359⟩ := id zp359
          have ruzp359 := kr_u rbzp359
          have nzp359 := gn_f (T := T) (g := (pFail T 2 g))
          refine g_iload_n rfl ?_
          exact g_iret ⟨_, rfl, y354, y355, y356, y357, y358, y340, y341, rfl, (by first | with_reducible assumption | omega), (by first | with_reducible assumption | omega), (by first | with_reducible assumption | omega), (by first | (rw [pN_0 (by first | with_reducible assumption | omega)]; exact zp359) | (rw [pN_1 (by first | with_reducible assumption | omega) (by first | with_reducible assumption | omega), ← gn_no (T := T) (g := pFail T 1 g) (by first | with_reducible assumption | omega)]; exact zp359) | (rw [pN_2 (by first | with_reducible assumption | omega) (by first | with_reducible assumption | omega) (by first | with_reducible assumption | omega), ← gn_no (T := T) (g := pFail T 2 g) (by first | with_reducible assumption | omega)]; exact zp359) | (rw [pN_3 (by first | with_reducible assumption | omega) (by first | with_reducible assumption | omega) (by first | with_reducible assumption | omega), ← gn_yes (by first | with_reducible assumption | omega)]; exact zp359)), (by first | (rw [pN_0 (by first | with_reducible assumption | omega)]; omega) | (rw [pN_1 (by first | with_reducible assumption | omega) (by first | with_reducible assumption | omega)]; omega) | (rw [pN_2 (by first | with_reducible assumption | omega) (by first | with_reducible assumption | omega) (by first | with_reducible assumption | omega)]; omega) | (right; omega))⟩
      · refine g_aload_n rfl ?_
        refine g_gfk (mS_I hI (by first | with_reducible assumption | omega) (by first | with_reducible assumption | omega) (by first | with_reducible assumption | omega)) sm_0 rfl (mS_g11 hI) ?_
        refine g_iload_n rfl ?_
        refine g_if2_le (fun c360 => ?_) (fun c360 => ?_)
        · refine g_aload_n rfl ?_
          refine g_gfk (mS_I hI (by first | with_reducible assumption | omega) (by first | with_reducible assumption | omega) (by first | with_reducible assumption | omega)) sm_0 rfl (mS_g13 hI) ?_
          refine g_if_ne (fun c361 => ?_) (fun c361 => ?_)
          · exfalso; omega
          · refine g_aload_n rfl ?_
            refine g_gfk (mS_I hI (by first | with_reducible assumption | omega) (by first | with_reducible assumption | omega) (by first | with_reducible assumption | omega)) sm_0 rfl (mS_g11 hI) ?_
            refine g_goto ?_
            refine g_istore_n (l' := [(0, .ref 0), (1, .int a1), (2, .int a2), (3, .int x3)]) rfl rfl ?_
            refine g_aload_n rfl ?_
            refine g_invvv (mS_I hI (by first | with_reducible assumption | omega) (by first | with_reducible assumption | omega) (by first | with_reducible assumption | omega)) sm_0 rfl rfl rfl rfl (f_162 H hI hJ x0 x1 x2 x3 x4 x5 x6 (by first | with_reducible assumption | omega) (by first | with_reducible assumption | omega) (by first | with_reducible assumption | omega) hp0 hp1) (fun H362 r363 => ?_)
            obtain ⟨y364, y365, y366, y367, y368, rfl, by364, by365, by366, zp369⟩ := r363
            obtain ⟨razp369, rbzp369, rczp369, rdzp369, rezp369, rfzp369⟩ := id zp369
            have ruzp369 := kr_u rbzp369
            have nzp369 := gn_f (T := T) (g := g)
            refine g_iload_n rfl ?_
            exact g_iret ⟨_, rfl, y364, y365, y366, y367, y368, x5, x6, rfl, (by first | with_reducible assumption | omega), (by first | with_reducible assumption | omega), (by first | with_reducible assumption | omega), (by first | (rw [pN_0 (by first | with_reducible assumption | omega)]; exact zp369) | (rw [pN_1 (by first | with_reducible assumption | omega) (by first | with_reducible assumption | omega), ← gn_no (T := T) (g := pFail T 1 g) (by first | with_reducible assumption | omega)]; exact zp369) | (rw [pN_2 (by first | with_reducible assumption | omega) (by first | with_reducible assumption | omega) (by first | with_reducible assumption | omega), ← gn_no (T := T) (g := pFail T 2 g) (by first | with_reducible assumption | omega)]; exact zp369) | (rw [pN_3 (by first | with_reducible assumption | omega) (by first | with_reducible assumption | omega) (by first | with_reducible assumption | omega), ← gn_yes (by first | with_reducible assumption | omega)]; exact zp369)), (by first | (rw [pN_0 (by first | with_reducible assumption | omega)]; omega) | (rw [pN_1 (by first | with_reducible assumption | omega) (by first | with_reducible assumption | omega)]; omega) | (rw [pN_2 (by first | with_reducible assumption | omega) (by first | with_reducible assumption | omega) (by first | with_reducible assumption | omega)]; omega) | (right; omega))⟩
        · refine g_nop ?_
          refine g_aload_n rfl ?_
          refine g_iconst (by decide) (fun v370 kv370 => ?_)
          refine g_invvv (mS_I hI (by first | with_reducible assumption | omega) (by first | with_reducible assumption | omega) (by first | with_reducible assumption | omega)) sm_0 rfl rfl rfl rfl (f_161 v370 (by first | with_reducible assumption | omega) H hI hJ x0 x1 x2 x3 x4 x5 x6 (by first | with_reducible assumption | omega) (by first | with_reducible assumption | omega) (by first | with_reducible assumption | omega) hp0 hp1) (fun H371 r372 => ?_)
          obtain ⟨y373, y374, rfl, zp375⟩ := r372
          rw [kv370] at zp375
          obtain ⟨razp375, rbzp375, rczp375, rdzp375, rezp375, rfzp375⟩ := id zp375
          have ruzp375 := kr_u rbzp375
          have nzp375 := pF_ne (T := T) (g := g) (n := 2) (by first | with_reducible assumption | omega)
          refine g_nop ?_
          refine g_aload_n rfl ?_
          refine g_gfk (mS_I hI (by first | with_reducible assumption | omega) (by first | with_reducible assumption | omega) (by first | with_reducible assumption | omega)) sm_0 rfl (mS_g13 hI) ?_
          refine g_if_ne (fun c376 => ?_) (fun c376 => ?_)
          · refine g_iload_n rfl ?_
            refine g_nop ?_
            refine g_istore_n (l' := [(0, .ref 0), (1, .int a1), (2, .int a2), (3, .int a1)]) rfl rfl ?_
            refine g_aload_n rfl ?_
            refine g_invvv (mS_I hI (by first | with_reducible assumption | omega) (by first | with_reducible assumption | omega) (by first | with_reducible assumption | omega)) sm_0 rfl rfl rfl rfl (f_162 H hI hJ x0 x1 x2 x3 x4 y373 y374 (by first | with_reducible assumption | omega) (by first | with_reducible assumption | omega) (by first | with_reducible assumption | omega) hp0 zp375) (fun H377 r378 => ?_)
            obtain ⟨y379, y380, y381, y382, y383, rfl, by379, by380, by381, zp384⟩ := r378
            obtain ⟨razp384, rbzp384, rczp384, rdzp384, rezp384, rfzp384⟩ := id zp384
            have ruzp384 := kr_u rbzp384
            have nzp384 := gn_f (T := T) (g := (pFail T 2 g))
            refine g_iload_n rfl ?_
            exact g_iret ⟨_, rfl, y379, y380, y381, y382, y383, y373, y374, rfl, (by first | with_reducible assumption | omega), (by first | with_reducible assumption | omega), (by first | with_reducible assumption | omega), (by first | (rw [pN_0 (by first | with_reducible assumption | omega)]; exact zp384) | (rw [pN_1 (by first | with_reducible assumption | omega) (by first | with_reducible assumption | omega), ← gn_no (T := T) (g := pFail T 1 g) (by first | with_reducible assumption | omega)]; exact zp384) | (rw [pN_2 (by first | with_reducible assumption | omega) (by first | with_reducible assumption | omega) (by first | with_reducible assumption | omega), ← gn_no (T := T) (g := pFail T 2 g) (by first | with_reducible assumption | omega)]; exact zp384) | (rw [pN_3 (by first | with_reducible assumption | omega) (by first | with_reducible assumption | omega) (by first | with_reducible assumption | omega), ← gn_yes (by first | with_reducible assumption | omega)]; exact zp384)), (by first | (rw [pN_0 (by first | with_reducible assumption | omega)]; omega) | (rw [pN_1 (by first | with_reducible assumption | omega) (by first | with_reducible assumption | omega)]; omega) | (rw [pN_2 (by first | with_reducible assumption | omega) (by first | with_reducible assumption | omega) (by first | with_reducible assumption | omega)]; omega) | (right; omega))⟩
          · refine g_aload_n rfl ?_
            refine g_gfk (mS_I hI (by first | with_reducible assumption | omega) (by first | with_reducible assumption | omega) (by first | with_reducible assumption | omega)) sm_0 rfl (mS_g11 hI) ?_
            refine g_goto ?_
            refine g_istore_n (l' := [(0, .ref 0), (1, .int a1), (2, .int a2), (3, .int x3)]) rfl rfl ?_
            refine g_aload_n rfl ?_
            refine g_invvv (mS_I hI (by first | with_reducible assumption | omega) (by first | with_reducible assumption | omega) (by first | with_reducible assumption | omega)) sm_0 rfl rfl rfl rfl (f_162 H hI hJ x0 x1 x2 x3 x4 y373 y374 (by first | with_reducible assumption | omega) (by first | with_reducible assumption | omega) (by first | with_reducible assumption | omega) hp0 zp375) (fun H385 r386 => ?_)
            obtain ⟨y387, y388, y389, y390, y391, rfl, by387, by388, by389, zp392⟩ := r386
            obtain ⟨razp392, rbzp392, rczp392, rdzp392, rezp392, rfzp392⟩ := id zp392
            have ruzp392 := kr_u rbzp392
            have nzp392 := gn_f (T := T) (g := (pFail T 2 g))
            refine g_iload_n rfl ?_
            exact g_iret ⟨_, rfl, y387, y388, y389, y390, y391, y373, y374, rfl, (by first | with_reducible assumption | omega), (by first | with_reducible assumption | omega), (by first | with_reducible assumption | omega), (by first | (rw [pN_0 (by first | with_reducible assumption | omega)]; exact zp392) | (rw [pN_1 (by first | with_reducible assumption | omega) (by first | with_reducible assumption | omega), ← gn_no (T := T) (g := pFail T 1 g) (by first | with_reducible assumption | omega)]; exact zp392) | (rw [pN_2 (by first | with_reducible assumption | omega) (by first | with_reducible assumption | omega) (by first | with_reducible assumption | omega), ← gn_no (T := T) (g := pFail T 2 g) (by first | with_reducible assumption | omega)]; exact zp392) | (rw [pN_3 (by first | with_reducible assumption | omega) (by first | with_reducible assumption | omega) (by first | with_reducible assumption | omega), ← gn_yes (by first | with_reducible assumption | omega)]; exact zp392)), (by first | (rw [pN_0 (by first | with_reducible assumption | omega)]; omega) | (rw [pN_1 (by first | with_reducible assumption | omega) (by first | with_reducible assumption | omega)]; omega) | (rw [pN_2 (by first | with_reducible assumption | omega) (by first | with_reducible assumption | omega) (by first | with_reducible assumption | omega)]; omega) | (right; omega))⟩
    · refine g_aload_n rfl ?_
      refine g_iconst (by decide) (fun v393 kv393 => ?_)
      refine g_invvv (mS_I hI (by first | with_reducible assumption | omega) (by first | with_reducible assumption | omega) (by first | with_reducible assumption | omega)) sm_0 rfl rfl rfl rfl (f_161 v393 (by first | with_reducible assumption | omega) H hI hJ x0 x1 x2 x3 x4 x5 x6 (by first | with_reducible assumption | omega) (by first | with_reducible assumption | omega) (by first | with_reducible assumption | omega) hp0 hp1) (fun H394 r395 => ?_)
      obtain ⟨y396, y397, rfl, zp398⟩ := r395
      rw [kv393] at zp398
      obtain ⟨razp398, rbzp398, rczp398, rdzp398, rezp398, rfzp398⟩ := id zp398
      have ruzp398 := kr_u rbzp398
      have nzp398 := pF_ne (T := T) (g := g) (n := 1) (by first | with_reducible assumption | omega)
      refine g_goto ?_
      refine g_aload_n rfl ?_
      refine g_gfk (mS_I hI (by first | with_reducible assumption | omega) (by first | with_reducible assumption | omega) (by first | with_reducible assumption | omega)) sm_0 rfl (mS_g13 hI) ?_
      refine g_if_ne (fun c399 => ?_) (fun c399 => ?_)
      · refine g_iload_n rfl ?_
        refine g_nop ?_
        refine g_istore_n (l' := [(0, .ref 0), (1, .int a1), (2, .int a2), (3, .int a1)]) rfl rfl ?_
        refine g_aload_n rfl ?_
        refine g_invvv (mS_I hI (by first | with_reducible assumption | omega) (by first | with_reducible assumption | omega) (by first | with_reducible assumption | omega)) sm_0 rfl rfl rfl rfl (f_162 H hI hJ x0 x1 x2 x3 x4 y396 y397 (by first | with_reducible assumption | omega) (by first | with_reducible assumption | omega) (by first | with_reducible assumption | omega) hp0 zp398) (fun H400 r401 => ?_)
        obtain ⟨y402, y403, y404, y405, y406, rfl, by402, by403, by404, zp407⟩ := r401
        obtain ⟨razp407, rbzp407, rczp407, rdzp407, rezp407, rfzp407⟩ := id zp407
        have ruzp407 := kr_u rbzp407
        have nzp407 := gn_f (T := T) (g := (pFail T 1 g))
        refine g_iload_n rfl ?_
        exact g_iret ⟨_, rfl, y402, y403, y404, y405, y406, y396, y397, rfl, (by first | with_reducible assumption | omega), (by first | with_reducible assumption | omega), (by first | with_reducible assumption | omega), (by first | (rw [pN_0 (by first | with_reducible assumption | omega)]; exact zp407) | (rw [pN_1 (by first | with_reducible assumption | omega) (by first | with_reducible assumption | omega), ← gn_no (T := T) (g := pFail T 1 g) (by first | with_reducible assumption | omega)]; exact zp407) | (rw [pN_2 (by first | with_reducible assumption | omega) (by first | with_reducible assumption | omega) (by first | with_reducible assumption | omega), ← gn_no (T := T) (g := pFail T 2 g) (by first | with_reducible assumption | omega)]; exact zp407) | (rw [pN_3 (by first | with_reducible assumption | omega) (by first | with_reducible assumption | omega) (by first | with_reducible assumption | omega), ← gn_yes (by first | with_reducible assumption | omega)]; exact zp407)), (by first | (rw [pN_0 (by first | with_reducible assumption | omega)]; omega) | (rw [pN_1 (by first | with_reducible assumption | omega) (by first | with_reducible assumption | omega)]; omega) | (rw [pN_2 (by first | with_reducible assumption | omega) (by first | with_reducible assumption | omega) (by first | with_reducible assumption | omega)]; omega) | (right; omega))⟩
      · refine g_aload_n rfl ?_
        refine g_gfk (mS_I hI (by first | with_reducible assumption | omega) (by first | with_reducible assumption | omega) (by first | with_reducible assumption | omega)) sm_0 rfl (mS_g11 hI) ?_
        refine g_goto ?_
        refine g_istore_n (l' := [(0, .ref 0), (1, .int a1), (2, .int a2), (3, .int x3)]) rfl rfl ?_
        refine g_aload_n rfl ?_
        refine g_invvv (mS_I hI (by first | with_reducible assumption | omega) (by first | with_reducible assumption | omega) (by first | with_reducible assumption | omega)) sm_0 rfl rfl rfl rfl (f_162 H hI hJ x0 x1 x2 x3 x4 y396 y397 (by first | with_reducible assumption | omega) (by first | with_reducible assumption | omega) (by first | with_reducible assumption | omega) hp0 zp398) (fun H408 r409 => ?_)
        obtain ⟨y410, y411, y412, y413, y414, rfl, by410, by411, by412, zp415⟩ := r409
        obtain ⟨razp415, rbzp415, rczp415, rdzp415, rezp415, rfzp415⟩ := id zp415
        have ruzp415 := kr_u rbzp415
        have nzp415 := gn_f (T := T) (g := (pFail T 1 g))
        refine g_iload_n rfl ?_
        exact g_iret ⟨_, rfl, y410, y411, y412, y413, y414, y396, y397, rfl, (by first | with_reducible assumption | omega), (by first | with_reducible assumption | omega), (by first | with_reducible assumption | omega), (by first | (rw [pN_0 (by first | with_reducible assumption | omega)]; exact zp415) | (rw [pN_1 (by first | with_reducible assumption | omega) (by first | with_reducible assumption | omega), ← gn_no (T := T) (g := pFail T 1 g) (by first | with_reducible assumption | omega)]; exact zp415) | (rw [pN_2 (by first | with_reducible assumption | omega) (by first | with_reducible assumption | omega) (by first | with_reducible assumption | omega), ← gn_no (T := T) (g := pFail T 2 g) (by first | with_reducible assumption | omega)]; exact zp415) | (rw [pN_3 (by first | with_reducible assumption | omega) (by first | with_reducible assumption | omega) (by first | with_reducible assumption | omega), ← gn_yes (by first | with_reducible assumption | omega)]; exact zp415)), (by first | (rw [pN_0 (by first | with_reducible assumption | omega)]; omega) | (rw [pN_1 (by first | with_reducible assumption | omega) (by first | with_reducible assumption | omega)]; omega) | (rw [pN_2 (by first | with_reducible assumption | omega) (by first | with_reducible assumption | omega) (by first | with_reducible assumption | omega)]; omega) | (right; omega))⟩
  · refine g_iload_n rfl ?_
    exact g_iret ⟨_, rfl, x0, x1, x2, x3, x4, x5, x6, rfl, (by first | with_reducible assumption | omega), (by first | with_reducible assumption | omega), (by first | with_reducible assumption | omega), (by first | (rw [pN_0 (by first | with_reducible assumption | omega)]; exact hp1) | (rw [pN_1 (by first | with_reducible assumption | omega) (by first | with_reducible assumption | omega), ← gn_no (T := T) (g := pFail T 1 g) (by first | with_reducible assumption | omega)]; exact hp1) | (rw [pN_2 (by first | with_reducible assumption | omega) (by first | with_reducible assumption | omega) (by first | with_reducible assumption | omega), ← gn_no (T := T) (g := pFail T 2 g) (by first | with_reducible assumption | omega)]; exact hp1) | (rw [pN_3 (by first | with_reducible assumption | omega) (by first | with_reducible assumption | omega) (by first | with_reducible assumption | omega), ← gn_yes (by first | with_reducible assumption | omega)]; exact hp1)), (by first | (rw [pN_0 (by first | with_reducible assumption | omega)]; omega) | (rw [pN_1 (by first | with_reducible assumption | omega) (by first | with_reducible assumption | omega)]; omega) | (rw [pN_2 (by first | with_reducible assumption | omega) (by first | with_reducible assumption | omega) (by first | with_reducible assumption | omega)]; omega) | (right; omega))⟩
