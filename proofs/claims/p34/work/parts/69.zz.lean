/-! WHAT THE ANSWERS REST ON -/
/-- the tapes, the books, the last faults are alike -/
def zRel (Hx Hm : mzH) : Prop := (fZ Hx 1 1).toInt = (fZ Hm 0 2).toInt ∧ (∀ q : Nat, (q : Int) < (fZ Hx 1 1).toInt → sgB (bX Hx q) (bM Hm q)) ∧ (∃ c : pB, bkX Hx 3 c ∧ bkW Hm c) ∧ (fZ Hx 19 5).toInt = (fZ Hm 0 15).toInt ∧ (fZ Hx 19 6).toInt = (fZ Hm 0 16).toInt
theorem bkW_cg {H B : mzH} {c : pB} (h2 : ∀ i, aZ B 2 i = aZ H 2 i) (h5 : ∀ i, aZ B 5 i = aZ H 5 i) (hf : fZ B 0 18 = fZ H 0 18) (h : bkW H c) : bkW B c := by
  unfold bkW bkG at h ⊢
  simp only [h2, h5, hf]
  exact h
theorem bkX_kp {H B : mzH} {c : pB} (k : kpC H B) (h : bkX H 3 c) : bkX B 3 c := bkX_nw (fun f => (k 3 (by decide)).1 f) (fun q i _ _ _ => (k (3 + q) (by omega)).2 i) h
theorem zRel_kp {Hx Hm Gx Gm : mzH} (h : zRel Hx Hm) (k : kpX Hx Gx) (m : kpM Hm Gm) : zRel Gx Gm := by
  obtain ⟨h1, h2, ⟨c, h3, h4⟩, h5, h6⟩ := h
  refine ⟨?_, fun q hq => ?_, ⟨c, bkX_kp (fun c hc => k c (by omega)) h3, bkW_cg (m.1 2 (by decide)) (m.1 5 (by decide)) (m.2 18 (by decide)) h4⟩, ?_, ?_⟩
  · rw [(k 1 (by decide)).1, m.2 2 (by decide)]; exact h1
  · rw [(k 1 (by decide)).1] at hq
    unfold bX bM
    rw [(k 2 (by decide)).2, m.1 1 (by decide)]
    exact h2 q hq
  · rw [(k 19 (by decide)).1, m.2 15 (by decide)]; exact h5
  · rw [(k 19 (by decide)).1, m.2 16 (by decide)]; exact h6
theorem zRel_fd {Hx Hm Gx Gm : mzH} {a b c d e : Int32} (h : zRel Hx Hm) (hx : 0 ≤ (fZ Hx 1 1).toInt) (sx : ((fZ Hx 1 1).toInt ≤ 880 ∧ (fZ Gx 1 1).toInt = (fZ Hx 1 1).toInt + 20) ∨ (880 < (fZ Hx 1 1).toInt ∧ (fZ Gx 1 1).toInt = (fZ Hx 1 1).toInt)) (sm : ((fZ Hm 0 2).toInt ≤ 880 ∧ (fZ Gm 0 2).toInt = (fZ Hm 0 2).toInt + 20) ∨ (880 < (fZ Hm 0 2).toInt ∧ (fZ Gm 0 2).toInt = (fZ Hm 0 2).toInt)) (k : fdX Hx Gx a b c d e) (m : kpR Hm Gm) (n : fdM Hm Gm a b c d e) : zRel Gx Gm := by
  obtain ⟨h1, h2, ⟨w, h3, h4⟩, h5, h6⟩ := h
  have bm : bkW Gm w := bkW_cg (m.1 2 (by decide)) (m.1 5 (by decide)) (m.2 18 (by decide)) h4
  rcases k with ⟨k0, rfl⟩ | ⟨k0, ⟨k1, k2⟩, k3⟩
  · rcases n with ⟨n0, n1⟩ | ⟨n0, _⟩
    · refine ⟨by omega, fun q hq => ?_, ⟨w, h3, bm⟩, by rw [m.2 15 (by decide)]; exact h5, by rw [m.2 16 (by decide)]; exact h6⟩
      unfold bM
      rw [n1]
      exact h2 q hq
    · omega
  · rcases n with ⟨n0, _⟩ | ⟨n0, n1, n2⟩
    · omega
    · refine ⟨by omega, fun q hq => ?_, ⟨w, bkX_kp (fun c hc => k3 c (by omega)) h3, bm⟩, by rw [(k3 19 (by decide)).1, m.2 15 (by decide)]; exact h5, by rw [(k3 19 (by decide)).1, m.2 16 (by decide)]; exact h6⟩
      if hq2 : (q : Int) < (fZ Hx 1 1).toInt then
        have := h2 q hq2
        unfold bX bM at this ⊢
        rw [k2 q hq2, n2 q (by omega)]
        exact this
      else
        obtain ⟨i, hi⟩ : ∃ i : Nat, i = q - (fZ Hx 1 1).toInt.toNat := ⟨_, rfl⟩
        unfold bX bM
        rw [show q = (fZ Hx 1 1).toInt.toNat + i by omega, k1 i (by omega), show (fZ Hx 1 1).toInt.toNat + i = (fZ Hm 0 2).toInt.toNat + i by omega, n1 i (by omega)]
        exact by_sg bt_lt
theorem zRel_tx {Hx Hm Gx Gm : mzH} {told : Int} {T : pT} {c : pB} {k : Nat} {rx rm : Int32} (h : zRel Hx Hm) (t2 : pGoes told T c k) (t3 : pStop T (pIt told T k c).2) (t4 : (fZ Gx 1 1).toInt = 0) (t5 : (fZ Gx 19 5).toInt = (pIt told T k c).2.f) (t6 : (fZ Gx 19 6).toInt = (pIt told T k c).2.p) (t7 : ((pIt told T k c).2.f ≠ 0 ∧ rx.toInt = -1 ∧ kpC Hx Gx) ∨ ((pIt told T k c).2.f = 0 ∧ rx.toInt = (k : Int) ∧ bkX Gx 3 (pIt told T k c).1)) (u : rdT Hm Gm told T c rm) : zRel Gx Gm ∧ rx = rm := by
  obtain ⟨n, u1, u2, u3, u4, u5⟩ := u
  have e := gs_one t2 t3 u1 u2
  subst e
  obtain ⟨h1, h2, ⟨w, h3, h4⟩, h5, h6⟩ := h
  rcases t7 with ⟨a1, a2, a3⟩ | ⟨a1, a2, a3⟩
  · rcases u5 with ⟨b1, b2, b3, b4⟩ | ⟨b1, _⟩
    · exact ⟨⟨by omega, fun q hq => by omega, ⟨w, bkX_kp a3 h3, bkW_cg b4.1 b4.2.1 b4.2.2 h4⟩, by omega, by omega⟩, Int32.toInt_inj.mp (by omega)⟩
    · exact absurd b1 a1
  · rcases u5 with ⟨b1, _⟩ | ⟨b1, b2, b3, b4⟩
    · exact absurd a1 b1
    · have := it_p a1
      exact ⟨⟨by omega, fun q hq => by omega, ⟨_, a3, b4⟩, by omega, by omega⟩, Int32.toInt_inj.mp (by omega)⟩
/-- the ways are alike -/
def wyR (Hx Hm : mzH) : Prop := (∀ a b, a < 8 → b < 8 → mE (uX Hm) a b = mE (fO (uW Hm) 8) a b) ∧ mOk (uW Hm) ∧ (∀ a, a < 8 → mE (uW Hm) a a = 0) ∧ (fZ Hx 3 7).toInt ≤ 8 ∧ wRl (fZ Hx 3 7).toInt.toNat 25344 (fun k => aZ Hx 5 k) (uX Hm)
theorem wyR_cg {Hx Hm Gx Gm : mzH} (h : wyR Hx Hm) (k : kpC Hx Gx) (h2 : ∀ i, aZ Gm 2 i = aZ Hm 2 i) (h6 : ∀ i, aZ Gm 6 i = aZ Hm 6 i) : wyR Gx Gm := by
  have e1 : uW Gm = uW Hm := uW_cg h2
  have e2 : uX Gm = uX Hm := by
    funext q
    unfold uX
    rw [h6]
  have e3 : (fun q => aZ Gx 5 q) = (fun q => aZ Hx 5 q) := by
    funext q
    exact (k 5 (by decide)).2 q
  unfold wyR
  rw [e1, e2, e3, (k 3 (by decide)).1]
  exact h
def zRl6 (Hx Hm : mzH) : Prop := zRel Hx Hm ∧ wyR Hx Hm
theorem zRl6_kp {Hx Hm Gx Gm : mzH} (h : zRl6 Hx Hm) (k : kpX Hx Gx) (m : kpM Hm Gm) : zRl6 Gx Gm := ⟨zRel_kp h.1 k m, wyR_cg h.2 (fun c hc => k c (by omega)) (m.1 2 (by decide)) (m.1 6 (by decide))⟩
/-- the hours told are hours -/
def hrH (Hm : mzH) : Prop := ∀ k : Nat, (k : Int) < (aZ Hm 2 2).toInt → 0 ≤ (aZ Hm 2 (69 + 5 * k)).toInt ∧ (aZ Hm 2 (69 + 5 * k)).toInt ≤ 999
theorem hrH_cg {H B : mzH} (h : hrH H) (k : ∀ i, aZ B 2 i = aZ H 2 i) : hrH B := fun q hq => by
  rw [k] at hq ⊢
  exact h q hq
theorem hrH_b {H : mzH} {c : pB} (h : hrH H) (k : bkW H c) : hrB c := fun q hq => by
  have e1 : (aZ H 2 2).toInt = c.N := k.2.2.1
  have e2 : (aZ H 2 (69 + 5 * q)).toInt = c.hr q := (k.2.2.2.2.2.2.2.1 q hq).1
  rw [← e2]
  exact h q (by omega)
theorem b_hrH {H : mzH} {c : pB} (h : hrB c) (k : bkW H c) : hrH H := fun q hq => by
  have e1 : (aZ H 2 2).toInt = c.N := k.2.2.1
  have e2 : (aZ H 2 (69 + 5 * q)).toInt = c.hr q := (k.2.2.2.2.2.2.2.1 q (by omega)).1
  rw [e2]
  exact h q (by omega)
theorem cvW_c {H B : mzH} (k : kpC H B) (h : cvW H) : cvW B := cvW_kw (fun c hc => k c (by omega)) (k 42 (by decide)).2 h
def zRl8 (Hx Hm : mzH) : Prop := zRl6 Hx Hm ∧ cvW Hx ∧ hrH Hm
theorem zRl8_kp {Hx Hm Gx Gm : mzH} (h : zRl8 Hx Hm) (k : kpX Hx Gx) (m : kpM Hm Gm) : zRl8 Gx Gm := ⟨zRl6_kp h.1 k m, cvW_kp k h.2.1, hrH_cg h.2.2 (m.1 2 (by decide))⟩
def zIv (Hx Hm : mzH) : Prop := (gI SX Hx ∧ JX Hx) ∧ (gI SM Hm ∧ JN Hm) ∧ zRl8 Hx Hm
set_option maxRecDepth 100000 in
theorem zHx_f : (fZ zHx 1 1).toInt = 0 ∧ (fZ zHx 3 7).toInt = 0 ∧ (fZ zHx 3 8).toInt = 0 ∧ (fZ zHx 3 9).toInt = 0 ∧ (fZ zHx 3 10).toInt = 10 ∧ (fZ zHx 3 11).toInt = 10 ∧ (fZ zHx 3 12).toInt = 0 ∧ (fZ zHx 19 5).toInt = 0 ∧ (fZ zHx 19 6).toInt = -1 := by decide +kernel
set_option maxRecDepth 100000 in
theorem zHm_f : (fZ zHm 0 2).toInt = 0 ∧ (aZ zHm 2 0).toInt = 0 ∧ (aZ zHm 2 1).toInt = 0 ∧ (aZ zHm 2 2).toInt = 0 ∧ (aZ zHm 2 3).toInt = 10 ∧ (aZ zHm 2 4).toInt = 10 ∧ (fZ zHm 0 18).toInt = 0 ∧ (fZ zHm 0 15).toInt = 0 ∧ (fZ zHm 0 16).toInt = -1 := by decide +kernel
theorem zRel_0 : zRel zHx zHm := by
  obtain ⟨x0, x1, x2, x3, x4, x5, x6, x7, x8⟩ := zHx_f
  obtain ⟨m0, m1, m2, m3, m4, m5, m6, m7, m8⟩ := zHm_f
  refine ⟨by omega, fun q hq => by omega, ⟨pB0, ⟨x1, x2, x3, x4, x5, x6, fun p hp => ?_, fun k hk => ?_, ?_⟩, ⟨m1, m2, m3, m4, m5, m6, fun p hp => ?_, fun k hk => ?_, ?_⟩⟩, by omega, by omega⟩
  · have hp : (p : Int) < 0 := hp
    omega
  · have hk : (k : Int) < 0 := hk
    omega
  · show (0 : Int) ≤ 0 ∧ (0 : Int) ≤ 12
    decide
  · have hp : (p : Int) < 0 := hp
    omega
  · have hk : (k : Int) < 0 := hk
    omega
  · show (0 : Int) ≤ 0 ∧ (0 : Int) ≤ 12
    decide
set_option maxRecDepth 100000 in
theorem zHm_w : ∀ a : Fin 8, ∀ b : Fin 8, (aZ zHm 6 (8 * a.val + b.val)).toInt = (if a = b then 0 else 100000) ∧ (aZ zHm 2 (5 + (8 * a.val + b.val))).toInt = (if a = b then 0 else 100000) := by decide +kernel
theorem zHm_w6 {a b : Nat} (ha : a < 8) (hb : b < 8) : mE (uX zHm) a b = if a = b then 0 else 100000 := by
  have h := (zHm_w ⟨a, ha⟩ ⟨b, hb⟩).1
  unfold mE uX
  rw [if_pos (by omega)]
  rw [show (aZ zHm 6 (8 * a + b)).toInt = _ from h]
  if e : a = b then rw [if_pos (Fin.ext e), if_pos e]
  else rw [if_neg (fun c => e (congrArg Fin.val c)), if_neg e]
theorem zHm_w2 {a b : Nat} (ha : a < 8) (hb : b < 8) : mE (uW zHm) a b = if a = b then 0 else 100000 := by
  have h := (zHm_w ⟨a, ha⟩ ⟨b, hb⟩).2
  unfold mE uW
  rw [if_pos (by omega)]
  rw [show (aZ zHm 2 (5 + (8 * a + b))).toInt = _ from h]
  if e : a = b then rw [if_pos (Fin.ext e), if_pos e]
  else rw [if_neg (fun c => e (congrArg Fin.val c)), if_neg e]
theorem wyR_0 : wyR zHx zHm := by
  have hP : (fZ zHx 3 7).toInt = 0 := zHx_f.2.1
  have h0 : ∀ B, wRl 0 B (fun k => aZ zHx 5 k) (uW zHm) := fun B a b ha hb => ⟨fun q => absurd q.1 (Nat.not_lt_zero _), fun _ e => by rw [zHm_w2 ha hb, if_neg e], fun e => by rw [zHm_w2 ha hb, if_pos e]⟩
  have h8 : wRl 0 25344 (fun k => aZ zHx 5 k) (fO (uW zHm) (0 + 8)) := wRl_fo (by decide) 8 (by decide) (h0 25344)
  refine ⟨fun a b ha hb => ?_, wRl_ok (by decide) (h0 25344), fun a ha => by rw [zHm_w2 ha ha, if_pos rfl], by omega, ?_⟩
  · obtain ⟨_, k2, k3⟩ := h8 a b ha hb
    rw [zHm_w6 ha hb]
    if e : a = b then
      rw [if_pos e]
      exact (k3 e).symm
    else
      rw [if_neg e]
      exact (k2 (fun q => absurd q.1 (Nat.not_lt_zero _)) e).symm
  · rw [show (fZ zHx 3 7).toInt.toNat = 0 by omega]
    exact fun a b ha hb => ⟨fun q => absurd q.1 (Nat.not_lt_zero _), fun _ e => by rw [zHm_w6 ha hb, if_neg e], fun e => by rw [zHm_w6 ha hb, if_pos e]⟩
theorem cvX_0 : cvX zHx := by
  refine ⟨rfl, fun i => ?_, fun q hq => ?_⟩
  · have e : zHx[26]? = zHx[6]? := rfl
    unfold aZ
    rw [e]
  · have := zHx_f.2.2.2.1
    omega
theorem cvW_0 : cvW zHx := ⟨cvX_0, fun _ q hq => by
  rw [cvX_0.1] at hq
  have := zHx_f.2.2.2.1
  omega⟩
theorem hrH_0 : hrH zHm := fun q hq => by
  have := zHm_f.2.2.2.1
  omega
theorem zIv_0 : zIv zHx zHm := ⟨⟨zHx_gI, zHx_J⟩, ⟨zHm_gI, zHm_J⟩, ⟨zRel_0, wyR_0⟩, cvW_0, hrH_0⟩
/-- what a question rests on -/
theorem wrl_of {Hx Hm : mzH} (h : zIv Hx Hm) : ∃ c : pB, wrl Hx Hm c := by
  obtain ⟨⟨hIx, hJx⟩, ⟨hIm, hJm⟩, ⟨hR, hw⟩, hc, hh⟩ := h
  obtain ⟨c, h3, h4⟩ := hR.2.2.1
  exact ⟨c, hc.1, h3, h4, bOk_of hJm h4 (hrH_b hh h4), wyS_of hw.2.2.2.2⟩
theorem wrl_P {Hx Hm : mzH} {c : pB} (h : wrl Hx Hm c) : (fZ Hx 3 7).toInt = (aZ Hm 2 0).toInt ∧ (fZ Hx 3 7).toInt ≤ 8 ∧ (fZ Hx 3 9).toInt = (aZ Hm 2 2).toInt := by
  obtain ⟨v, b, w, o, y⟩ := h
  have b1 : (fZ Hx 3 7).toInt = c.P := b.1
  have b2 : (aZ Hm 2 0).toInt = c.P := w.1
  have b3 : (fZ Hx 3 9).toInt = c.N := b.2.2.1
  have b4 : (aZ Hm 2 2).toInt = c.N := w.2.2.1
  have := o.2.1
  omega
theorem wh_of {Hx Hm : mzH} (h : zIv Hx Hm) : whE Hx := by
  obtain ⟨c, w⟩ := wrl_of h
  obtain ⟨⟨hIx, hJx⟩, ⟨hIm, hJm⟩, ⟨hR, hw⟩, hc, hh⟩ := h
  exact hc.2 (gdY_of w)
noncomputable def zRun (f j : Nat) (as : List Value) (H : mzH) : mzR := zEx f (zN j) (zB j) (mzBlk (zB j) 0) (lv_args 0 as) [] H 0 0
def zBoth (jx jm : Nat) (xs : List Value) (Hx Hm : mzH) (E : Int32 → Int32 → Prop) : Prop := ∃ (f : Nat) (rx rm : Int32) (Gx Gm : mzH), zRun f jx (.ref 0 :: xs) Hx = some (some (.int rx), Gx) ∧ zRun f jm (.ref 0 :: xs) Hm = some (some (.int rm), Gm) ∧ zIv Gx Gm ∧ E rx rm
theorem zBoth_of {jx jm : Nat} {xs : List Value} {Hx Hm : mzH} {E : Int32 → Int32 → Prop} {R1 R2 : Int32 → mzH → Prop} (h1 : gCall jx (.ref 0 :: xs) Hx (gRi R1)) (h2 : gCall jm (.ref 0 :: xs) Hm (gRi R2)) (hk : ∀ rx rm Gx Gm, R1 rx Gx → R2 rm Gm → zIv Gx Gm ∧ E rx rm) : zBoth jx jm xs Hx Hm E := by
  obtain ⟨_, Gx, ⟨rx, rfl, p1⟩, f1, k1⟩ := h1
  obtain ⟨_, Gm, ⟨rm, rfl, p2⟩, f2, k2⟩ := h2
  exact ⟨f1 + f2, rx, rm, Gx, Gm, k1 _ (by omega), k2 _ (by omega), (hk rx rm Gx Gm p1 p2).1, (hk rx rm Gx Gm p1 p2).2⟩
theorem zBoth_dep {jx jm : Nat} {xs : List Value} {Hx Hm : mzH} {E : Int32 → Int32 → Prop} {R1 : Int32 → mzH → Prop} (h1 : gCall jx (.ref 0 :: xs) Hx (gRi R1)) (hk : ∀ rx Gx, R1 rx Gx → gCall jm (.ref 0 :: xs) Hm (gRi (fun rm Gm => zIv Gx Gm ∧ E rx rm))) : zBoth jx jm xs Hx Hm E := by
  obtain ⟨_, Gx, ⟨rx, rfl, p1⟩, f1, k1⟩ := h1
  obtain ⟨_, Gm, ⟨rm, rfl, p2⟩, f2, k2⟩ := hk rx Gx p1
  exact ⟨f1 + f2, rx, rm, Gx, Gm, k1 _ (by omega), k2 _ (by omega), p2.1, p2.2⟩
theorem rdT_v {H B : mzH} {told : Int} {T : pT} {c : pB} {v : Int32} {W : Nat → Int} (h : rdTv H B told T c v W) : rdT H B told T c v := by
  obtain ⟨k, h1, h2, h3, h4, h5⟩ := h
  refine ⟨k, h1, h2, h3, h4, ?_⟩
  rcases h5 with ⟨a1, a2, a3, a4, _⟩ | ⟨a1, a2, a3, a4, _⟩
  · exact Or.inl ⟨a1, a2, a3, a4⟩
  · exact Or.inr ⟨a1, a2, a3, a4⟩
theorem wyR_tx {Hx Hm Gx Gm : mzH} {T : pT} {k : Nat} {rx rm : Int32} {W : Nat → Int} (h : wyR Hx Hm) (hW : ∀ q, q < 64 → W q = -2) (t2 : pGoes 0 T pB0 k) (t3 : pStop T (pIt 0 T k pB0).2) (t7 : ((pIt 0 T k pB0).2.f ≠ 0 ∧ rx.toInt = -1 ∧ kpC Hx Gx) ∨ ((pIt 0 T k pB0).2.f = 0 ∧ rx.toInt = (k : Int) ∧ bkX Gx 3 (pIt 0 T k pB0).1 ∧ ∃ D : Nat → Int32, (∀ q, (D q).toInt = xIt 0 T k pB0 W q) ∧ ∀ q, aZ Gx 5 q = jO D (pIt 0 T k pB0).1.P.toNat (pIt 0 T k pB0).1.P.toNat q)) (u : rdTv Hm Gm 0 T pB0 rm w0M) : wyR Gx Gm := by
  obtain ⟨n, u1, u2, u3, u4, u5⟩ := u
  have e := gs_one t2 t3 u1 u2
  subst e
  rcases t7 with ⟨a1, a2, a3⟩ | ⟨a1, a2, a3, D, a4, a5⟩
  · rcases u5 with ⟨b1, b2, b3, b4, b5⟩ | ⟨b1, _⟩
    · exact wyR_cg h a3 b4.1 b5
    · exact absurd b1 a1
  · rcases u5 with ⟨b1, _⟩ | ⟨b1, b2, b3, b4, b5, b6⟩
    · exact absurd a1 b1
    · have r := rRw_it (told := 0) (T := T) (b := pB0) (rRw_0 hW) k
      have r1 := wRl_raw r a4 b5
      have hP := r.1
      have r2 := wRl_all (show (pIt 0 T k pB0).1.P.toNat ≤ 8 by omega) r1
      have eP : (fZ Gx 3 7).toInt = (pIt 0 T k pB0).1.P := a3.1
      have e5 : (fun q => aZ Gx 5 q) = jO D (pIt 0 T k pB0).1.P.toNat (pIt 0 T k pB0).1.P.toNat := by
        funext q
        exact a5 q
      refine ⟨fun a b _ _ => by rw [b6], wRl_ok (by decide) r1, fun a ha => (r1 a a ha ha).2.2 rfl, by omega, ?_⟩
      rw [eP, e5, b6]
      exact r2
theorem wyR_tl {Hx Hm Gx Gm : mzH} {T : pT} {c : pB} {k : Nat} {rx rm : Int32} {W : Nat → Int} (h : wyR Hx Hm) (hc : bkX Hx 3 c) (hW : ∀ q, W q = (aZ Hx 5 q).toInt) (t2 : pGoes 1 T c k) (t3 : pStop T (pIt 1 T k c).2) (t7 : ((pIt 1 T k c).2.f ≠ 0 ∧ rx.toInt = -1 ∧ kpC Hx Gx) ∨ ((pIt 1 T k c).2.f = 0 ∧ rx.toInt = (k : Int) ∧ bkX Gx 3 (pIt 1 T k c).1 ∧ ∃ D : Nat → Int32, (∀ q, (D q).toInt = xIt 1 T k c W q) ∧ ∀ q, aZ Gx 5 q = jO D (pIt 1 T k c).1.P.toNat (pIt 1 T k c).1.P.toNat q)) (u : rdTv Hm Gm 1 T c rm (wW Hm)) : wyR Gx Gm := by
  obtain ⟨n, u1, u2, u3, u4, u5⟩ := u
  have e := gs_one t2 t3 u1 u2
  subst e
  rcases t7 with ⟨a1, a2, a3⟩ | ⟨a1, a2, a3, D, a4, a5⟩
  · rcases u5 with ⟨b1, b2, b3, b4, b5⟩ | ⟨b1, _⟩
    · exact wyR_cg h a3 b4.1 b5
    · exact absurd b1 a1
  · rcases u5 with ⟨b1, _⟩ | ⟨b1, b2, b3, b4, b5, b6⟩
    · exact absurd a1 b1
    · obtain ⟨i1, i2, i3⟩ := tl_it (told := 1) (T := T) (b := c) (w := W) (m := wW Hm) (by decide) k
      rw [i2] at a4
      rw [i3] at b5
      have eD : D = fun q => aZ Hx 5 q := by
        funext q
        exact Int32.toInt_inj.mp ((a4 q).trans (hW q))
      have eW : uW Gm = uW Hm := by
        funext q
        if hq : q < 64 then exact Int32.toInt_inj.mp (b5 q hq)
        else
          unfold uW
          rw [if_neg hq, if_neg hq]
      obtain ⟨w1, w2, w3, w4, w5⟩ := h
      have eP : (fZ Gx 3 7).toInt = (fZ Hx 3 7).toInt := by
        rw [show (fZ Gx 3 7).toInt = (pIt 1 T k c).1.P from a3.1, i1, show (fZ Hx 3 7).toInt = c.P from hc.1]
      have eP2 : (pIt 1 T k c).1.P.toNat = (fZ Hx 3 7).toInt.toNat := by rw [i1, ← hc.1]
      have tr := (fO_ok w2 w3 8 (Nat.le_refl _)).2.2
      have eF : ∀ a b, a < 8 → b < 8 → mE (uX Gm) a b = mE (uX Hm) a b := fun a b ha hb => by rw [b6, eW, w1 a b ha hb]
      have tr2 : mTr 8 (uX Hm) := fun a b j ha hb hj hj8 => by
        rw [w1 a b ha hb, w1 a j ha hj8, w1 j b hj8 hb]
        exact tr a b j ha hb hj hj8
      have id := jO_id (show (fZ Hx 3 7).toInt.toNat ≤ 8 by omega) w5 tr2 (fZ Hx 3 7).toInt.toNat (Nat.le_refl _)
      have e5 : (fun q => aZ Gx 5 q) = jO (fun q => aZ Hx 5 q) (fZ Hx 3 7).toInt.toNat (fZ Hx 3 7).toInt.toNat := by
        funext q
        rw [a5 q, eP2, eD]
      refine ⟨fun a b ha hb => by rw [b6], by rw [eW]; exact w2, by rw [eW]; exact w3, by omega, ?_⟩
      rw [eP, e5]
      intro a b ha hb
      obtain ⟨k1, k2, k3⟩ := w5 a b ha hb
      rw [eF a b ha hb]
      refine ⟨fun q => ?_, k2, k3⟩
      rw [id a b q.1 q.2]
      exact k1 q
theorem hrH_rd {H B : mzH} {told : Int} {T : pT} {c : pB} {v : Int32} {W : Nat → Int} (h : hrB c) (hh : hrH H) (u : rdTv H B told T c v W) : hrH B := by
  obtain ⟨n, u1, u2, u3, u4, u5⟩ := u
  rcases u5 with ⟨b1, b2, b3, b4, b5⟩ | ⟨b1, b2, b3, b4, b5, b6⟩
  · exact hrH_cg hh b4.1
  · exact b_hrH (hrB_I h n) b4
theorem z_feed (a1 a2 a3 a4 a5 : Int32) {Hx Hm : mzH} (h : zIv Hx Hm) : zBoth 113 155 [.int a1, .int a2, .int a3, .int a4, .int a5] Hx Hm (fun a b => a = b) := by
  obtain ⟨⟨hIx, hJx⟩, ⟨hIm, hJm⟩, ⟨hR, hw⟩, hc, hh⟩ := h
  refine zBoth_of (e_113 a1 a2 a3 a4 a5 Hx hIx hJx) (e_155 a1 a2 a3 a4 a5 Hm hIm hJm) (fun rx rm Gx Gm p q => ?_)
  obtain ⟨ix, jx, p0, p1⟩ := p
  obtain ⟨iy, jy, q0, q1, q2⟩ := q
  have h1 := hR.1
  have kc : kpC Hx Gx := by
    rcases p1 with ⟨_, rfl⟩ | ⟨_, _, k⟩
    · exact fun _ _ => ⟨fun _ => rfl, fun _ => rfl⟩
    · exact fun c hc => k c (by omega)
  exact ⟨⟨⟨ix, jx⟩, ⟨iy, jy⟩, ⟨zRel_fd hR (fZ_of hIx sx_1 (f := 1) rfl).1 (by omega) (by omega) p1 q0 q2, wyR_cg hw kc (q0.1 2 (by decide)) (q0.1 6 (by decide))⟩, cvW_c kc hc, hrH_cg hh (q0.1 2 (by decide))⟩, Int32.toInt_inj.mp (by omega)⟩
theorem z_text (a1 : Int32) {Hx Hm : mzH} (h : zIv Hx Hm) : zBoth 114 175 [.int a1] Hx Hm (fun a b => a = b) := by
  obtain ⟨⟨hIx, hJx⟩, ⟨hIm, hJm⟩, ⟨hR, hw⟩, hc, hh⟩ := h
  have h1 := hR.1
  if c : 0 ≤ a1.toInt ∧ a1.toInt ≤ (fZ Hx 1 1).toInt then
    refine zBoth_dep (kw_114b (c := pB0) a1 Hx hIx hJx c rfl) (fun rx Gx p => ?_)
    obtain ⟨ix, jx, ⟨W, hW, T, k, t1, t2, t3, t4, t5, t6, t7⟩, kv⟩ := p
    have cv : cvW Gx := kv.elim (fun z => cvW_c z hc) id
    refine gGo_mono (k_175b (b := bX Hx) (T := T) (c := pB0) a1 Hm hIm hJm (by omega) (fun q hq => hR.2.1 q (by omega)) t1 rfl) ?_
    rintro o Gm ⟨rm, rfl, iy, jy, u⟩
    have t7' : ((pIt 0 T k pB0).2.f ≠ 0 ∧ rx.toInt = -1 ∧ kpC Hx Gx) ∨ ((pIt 0 T k pB0).2.f = 0 ∧ rx.toInt = (k : Int) ∧ bkX Gx 3 (pIt 0 T k pB0).1) := by
      rcases t7 with t | ⟨z1, z2, z3, _⟩
      · exact Or.inl t
      · exact Or.inr ⟨z1, z2, z3⟩
    have r := zRel_tx hR t2 t3 t4 t5 t6 t7' (rdT_v u)
    exact ⟨rm, rfl, ⟨⟨ix, jx⟩, ⟨iy, jy⟩, ⟨r.1, wyR_tx hw hW t2 t3 t7 u⟩, cv, hrH_rd hrB_0 hh u⟩, r.2⟩
  else
    refine zBoth_of (e_114a a1 Hx hIx hJx c) (e_175a a1 Hm hIm hJm (by omega)) (fun rx rm Gx Gm p q => ?_)
    obtain ⟨ix, jx, rfl, p0⟩ := p
    obtain ⟨iy, jy, q0, q1⟩ := q
    exact ⟨⟨⟨ix, jx⟩, ⟨iy, jy⟩, zRl8_kp ⟨⟨hR, hw⟩, hc, hh⟩ kpX_r q0⟩, Int32.toInt_inj.mp (by omega)⟩
theorem z_tell (a1 : Int32) {Hx Hm : mzH} (h : zIv Hx Hm) : zBoth 115 176 [.int a1] Hx Hm (fun a b => a = b) := by
  obtain ⟨⟨hIx, hJx⟩, ⟨hIm, hJm⟩, ⟨hR, hw⟩, hc, hh⟩ := h
  have h1 := hR.1
  if c : 0 ≤ a1.toInt ∧ a1.toInt ≤ (fZ Hx 1 1).toInt then
    obtain ⟨w, h3, h4⟩ := hR.2.2.1
    refine zBoth_dep (kw_115b (c := w) a1 Hx hIx hJx c h3) (fun rx Gx p => ?_)
    obtain ⟨ix, jx, ⟨W, hW, T, k, t1, t2, t3, t4, t5, t6, t7⟩, kv⟩ := p
    have cv : cvW Gx := kv.elim (fun z => cvW_c z hc) id
    refine gGo_mono (k_176b (b := bX Hx) (T := T) (c := w) a1 Hm hIm hJm (by omega) (fun q hq => hR.2.1 q (by omega)) t1 h4) ?_
    rintro o Gm ⟨rm, rfl, iy, jy, u⟩
    have t7' : ((pIt 1 T k w).2.f ≠ 0 ∧ rx.toInt = -1 ∧ kpC Hx Gx) ∨ ((pIt 1 T k w).2.f = 0 ∧ rx.toInt = (k : Int) ∧ bkX Gx 3 (pIt 1 T k w).1) := by
      rcases t7 with t | ⟨z1, z2, z3, _⟩
      · exact Or.inl t
      · exact Or.inr ⟨z1, z2, z3⟩
    have r := zRel_tx hR t2 t3 t4 t5 t6 t7' (rdT_v u)
    exact ⟨rm, rfl, ⟨⟨ix, jx⟩, ⟨iy, jy⟩, ⟨r.1, wyR_tl hw h3 hW t2 t3 t7 u⟩, cv, hrH_rd (hrH_b hh h4) hh u⟩, r.2⟩
  else
    refine zBoth_of (e_115a a1 Hx hIx hJx c) (e_176a a1 Hm hIm hJm (by omega)) (fun rx rm Gx Gm p q => ?_)
    obtain ⟨ix, jx, rfl, p0⟩ := p
    obtain ⟨iy, jy, q0, q1⟩ := q
    exact ⟨⟨⟨ix, jx⟩, ⟨iy, jy⟩, zRl8_kp ⟨⟨hR, hw⟩, hc, hh⟩ kpX_r q0⟩, Int32.toInt_inj.mp (by omega)⟩
theorem zBoth_any {jx jm : Nat} {xs : List Value} {Hx Hm : mzH} {E : Int32 → Int32 → Prop} (h : zBoth jx jm xs Hx Hm E) : zBoth jx jm xs Hx Hm (fun _ _ => True) := by
  obtain ⟨f, rx, rm, Gx, Gm, a, b, c, _⟩ := h
  exact ⟨f, rx, rm, Gx, Gm, a, b, c, trivial⟩
theorem z_clash (a1 a2 a3 : Int32) {Hx Hm : mzH} (h : zIv Hx Hm) : zBoth 146 244 [.int a1, .int a2, .int a3] Hx Hm (fun a b => a = b) := by
  obtain ⟨c, w⟩ := wrl_of h
  have wh := wh_of h
  obtain ⟨⟨hIx, hJx⟩, ⟨hIm, hJm⟩, hR⟩ := h
  refine zBoth_of (w_146 a1 a2 a3 Hx hIx hJx) (r_244 a1 a2 a3 Hm hIm hJm (fun A t => gdM_of w t)) (fun rx rm Gx Gm p q => ?_)
  obtain ⟨rfl, px⟩ := p
  obtain ⟨iy, jy, ky, my, qm⟩ := q
  refine ⟨⟨⟨hIx, hJx⟩, ⟨iy, jy⟩, zRl8_kp hR kpX_r my⟩, Int32.toInt_inj.mp ?_⟩
  obtain ⟨e1, e2, e3⟩ := wrl_P w
  rcases px with ⟨p1, p2⟩ | ⟨p1, e⟩
  · rcases qm with ⟨q1, q2⟩ | ⟨q1, _⟩
    · omega
    · exfalso
      omega
  · rcases qm with ⟨q1, q2⟩ | ⟨q1, A, tA, G, cG, f⟩
    · exfalso
      omega
    · obtain ⟨hN, hv, ho⟩ := wrl_v w tA cG
      have g : ∀ R1 R2 : Int, R1 = R2 → ((R1 = -2 ∧ rx.toInt = -2) ∨ (∃ q : Nat, q < cnM A ∧ R1 = (q : Int) ∧ rx.toInt = (if a3.toInt = 0 then roX Hx (odX Hx q) 3 else if a3.toInt = 1 then (aZ Hx 6 (odX Hx q)).toInt else (odX Hx q : Int)))) → ((R2 = -2 ∧ rm.toInt = -2) ∨ (∃ q : Nat, q < cnM A ∧ R2 = (q : Int) ∧ rm.toInt = (if a3.toInt = 0 then roM A (odM A q) 3 else if a3.toInt = 1 then roM A (odM A q) 0 else (odM A q : Int)))) → rx.toInt = rm.toInt := fun R1 R2 eR x y => by
        rcases x with ⟨x1, x2⟩ | ⟨q, x1, x2, x3⟩
        · rcases y with ⟨y1, y2⟩ | ⟨r, y1, y2, y3⟩
          · omega
          · exfalso
            omega
        · rcases y with ⟨y1, y2⟩ | ⟨r, y1, y2, y3⟩
          · exfalso
            omega
          · obtain rfl : q = r := by omega
            obtain ⟨o1, o2, o3⟩ := wrl_o w tA
            obtain ⟨b1, b2⟩ := wrx_o w
            obtain ⟨n1, n2, n3⟩ := wrx_n w
            have bq := b1 q (by omega)
            have r3 := (o3 (odX Hx q) bq).2.2.2.1
            have r0 : (aZ Hx 6 (odX Hx q)).toInt = roM A (odX Hx q) 0 := by
              have z := (o3 (odX Hx q) bq).1
              have z2 := (tA.2.2 (odX Hx q) (by have z9 := w.1.1; rw [z9] at n1; omega)).1
              have z3 := w.1.2.1 (odX Hx q)
              show _ = (aZ A 2 (69 + 5 * odX Hx q + 0)).toInt
              rw [tA.2.1, ← z3]
              exact z.trans z2
            rw [x3, y3, ← (hv q x1).1, r3, r0]
      rw [hN] at e
      refine g _ _ (pk_cg (fun q _ hq => ?_)) e f
      have hq : q < cnM A := by omega
      obtain ⟨o1, o2, o3⟩ := wrl_o w tA
      obtain ⟨b1, b2⟩ := wrx_o w
      obtain ⟨n1, n2, n3⟩ := wrx_n w
      have bq := b1 q (by omega)
      have z := wh q (by omega)
      show (if _ then (1 : Int) else 0) = 1 ↔ (if _ then (1 : Int) else 0) = 1
      rw [z, (hv q hq).2, (o3 (odX Hx q) bq).2.1, (o3 (odX Hx q) bq).2.2.1, (hv q hq).1]
theorem step_0 (a1 a2 a3 a4 a5 : Int32) {Hx Hm : mzH} (h : zIv Hx Hm) : zBoth 113 155 [.int a1, .int a2, .int a3, .int a4, .int a5] Hx Hm (fun _ _ => True) := zBoth_any (z_feed a1 a2 a3 a4 a5 h)
theorem step_1 (a1 : Int32) {Hx Hm : mzH} (h : zIv Hx Hm) : zBoth 114 175 [.int a1] Hx Hm (fun _ _ => True) := zBoth_any (z_text a1 h)
theorem step_2 (a1 : Int32) {Hx Hm : mzH} (h : zIv Hx Hm) : zBoth 115 176 [.int a1] Hx Hm (fun _ _ => True) := zBoth_any (z_tell a1 h)
theorem step_3 (a1 : Int32) {Hx Hm : mzH} (h : zIv Hx Hm) : zBoth 117 177 [.int a1] Hx Hm (fun _ _ => True) := by
  obtain ⟨⟨hIx, hJx⟩, ⟨hIm, hJm⟩, hR⟩ := h
  refine zBoth_of (s_117 a1 Hx hIx hJx) (s_177 a1 Hm hIm hJm) (fun rx rm Gx Gm p q => ?_)
  obtain rfl := p
  obtain ⟨iy, jy, ky0, my0⟩ := q
  exact ⟨⟨⟨hIx, hJx⟩, ⟨iy, jy⟩, zRl8_kp hR kpX_r my0⟩, trivial⟩
theorem step_4 (a1 a2 : Int32) {Hx Hm : mzH} (h : zIv Hx Hm) : zBoth 118 179 [.int a1, .int a2] Hx Hm (fun _ _ => True) := by
  obtain ⟨⟨hIx, hJx⟩, ⟨hIm, hJm⟩, hR⟩ := h
  refine zBoth_of (s_118 a1 a2 Hx hIx hJx) (s_179 a1 a2 Hm hIm hJm) (fun rx rm Gx Gm p q => ?_)
  obtain rfl := p
  obtain ⟨iy, jy, ky0, my0⟩ := q
  exact ⟨⟨⟨hIx, hJx⟩, ⟨iy, jy⟩, zRl8_kp hR kpX_r my0⟩, trivial⟩
theorem step_5 (a1 a2 : Int32) {Hx Hm : mzH} (h : zIv Hx Hm) : ∃ (f : Nat) (rm : Int32) (Gm : mzH), zRun f 202 [.ref 0, .int a1, .int a2] Hm = some (some (.int rm), Gm) ∧ zIv Hx Gm := by
  obtain ⟨hX, ⟨hIm, hJm⟩, hR⟩ := h
  obtain ⟨_, Gm, ⟨rm, rfl, q⟩, f2, k2⟩ := s_202 a1 a2 Hm hIm hJm
  obtain ⟨iy, jy, ky0, my0⟩ := q
  exact ⟨f2, rm, Gm, k2 _ (Nat.le_refl _), hX, ⟨iy, jy⟩, zRl8_kp hR kpX_r my0⟩
theorem step_6 (a1 a2 a3 : Int32) {Hx Hm : mzH} (h : zIv Hx Hm) : zBoth 120 208 [.int a1, .int a2, .int a3] Hx Hm (fun _ _ => True) := by
  obtain ⟨⟨hIx, hJx⟩, ⟨hIm, hJm⟩, hR⟩ := h
  refine zBoth_of (s_120 a1 a2 a3 Hx hIx hJx) (s_208 a1 a2 a3 Hm hIm hJm) (fun rx rm Gx Gm p q => ?_)
  obtain ⟨ix, jx, kx0, mx0⟩ := p
  obtain ⟨iy, jy, ky0, my0⟩ := q
  exact ⟨⟨⟨ix, jx⟩, ⟨iy, jy⟩, zRl8_kp hR mx0 my0⟩, trivial⟩
theorem step_7 (a1 a2 a3 : Int32) {Hx Hm : mzH} (h : zIv Hx Hm) : zBoth 121 209 [.int a1, .int a2, .int a3] Hx Hm (fun _ _ => True) := by
  obtain ⟨⟨hIx, hJx⟩, ⟨hIm, hJm⟩, hR⟩ := h
  refine zBoth_of (s_121 a1 a2 a3 Hx hIx hJx) (s_209 a1 a2 a3 Hm hIm hJm) (fun rx rm Gx Gm p q => ?_)
  obtain ⟨ix, jx, kx0, mx0⟩ := p
  obtain ⟨iy, jy, ky0, my0⟩ := q
  exact ⟨⟨⟨ix, jx⟩, ⟨iy, jy⟩, zRl8_kp hR mx0 my0⟩, trivial⟩
theorem step_8 (a1 a2 a3 : Int32) {Hx Hm : mzH} (h : zIv Hx Hm) : zBoth 122 211 [.int a1, .int a2, .int a3] Hx Hm (fun _ _ => True) := by
  obtain ⟨⟨hIx, hJx⟩, ⟨hIm, hJm⟩, hR⟩ := h
  refine zBoth_of (s_122 a1 a2 a3 Hx hIx hJx) (s_211 a1 a2 a3 Hm hIm hJm) (fun rx rm Gx Gm p q => ?_)
  obtain ⟨ix, jx, kx0, mx0⟩ := p
  obtain ⟨iy, jy, ky0, my0⟩ := q
  exact ⟨⟨⟨ix, jx⟩, ⟨iy, jy⟩, zRl8_kp hR mx0 my0⟩, trivial⟩
theorem step_9 (a1 a2 : Int32) {Hx Hm : mzH} (h : zIv Hx Hm) : zBoth 123 213 [.int a1, .int a2] Hx Hm (fun _ _ => True) := by
  obtain ⟨⟨hIx, hJx⟩, ⟨hIm, hJm⟩, hR⟩ := h
  refine zBoth_of (s_123 a1 a2 Hx hIx hJx) (s_213 a1 a2 Hm hIm hJm) (fun rx rm Gx Gm p q => ?_)
  obtain ⟨ix, jx, kx0, mx0⟩ := p
  obtain ⟨iy, jy, ky0, my0⟩ := q
  exact ⟨⟨⟨ix, jx⟩, ⟨iy, jy⟩, zRl8_kp hR mx0 my0⟩, trivial⟩
theorem step_10 (a1 a2 a3 : Int32) {Hx Hm : mzH} (h : zIv Hx Hm) : zBoth 124 215 [.int a1, .int a2, .int a3] Hx Hm (fun _ _ => True) := by
  obtain ⟨⟨hIx, hJx⟩, ⟨hIm, hJm⟩, hR⟩ := h
  refine zBoth_of (s_124 a1 a2 a3 Hx hIx hJx) (s_215 a1 a2 a3 Hm hIm hJm) (fun rx rm Gx Gm p q => ?_)
  obtain ⟨ix, jx, kx0, mx0⟩ := p
  obtain ⟨iy, jy, ky0, my0⟩ := q
  exact ⟨⟨⟨ix, jx⟩, ⟨iy, jy⟩, zRl8_kp hR mx0 my0⟩, trivial⟩
theorem step_11 (a1 a2 : Int32) {Hx Hm : mzH} (h : zIv Hx Hm) : zBoth 125 220 [.int a1, .int a2] Hx Hm (fun _ _ => True) := by
  obtain ⟨⟨hIx, hJx⟩, ⟨hIm, hJm⟩, hR⟩ := h
  refine zBoth_of (s_125 a1 a2 Hx hIx hJx) (s_220 a1 a2 Hm hIm hJm) (fun rx rm Gx Gm p q => ?_)
  obtain ⟨ix, jx, kx0, mx0⟩ := p
  obtain ⟨iy, jy, ky0, my0⟩ := q
  exact ⟨⟨⟨ix, jx⟩, ⟨iy, jy⟩, zRl8_kp hR mx0 my0⟩, trivial⟩
theorem step_12 (a1 : Int32) {Hx Hm : mzH} (h : zIv Hx Hm) : zBoth 126 221 [.int a1] Hx Hm (fun _ _ => True) := by
  obtain ⟨⟨hIx, hJx⟩, ⟨hIm, hJm⟩, hR⟩ := h
  refine zBoth_of (s_126 a1 Hx hIx hJx) (s_221 a1 Hm hIm hJm) (fun rx rm Gx Gm p q => ?_)
  obtain ⟨ix, jx, kx0, mx0⟩ := p
  obtain ⟨iy, jy, ky0, my0⟩ := q
  exact ⟨⟨⟨ix, jx⟩, ⟨iy, jy⟩, zRl8_kp hR mx0 my0⟩, trivial⟩
theorem step_13 (a1 a2 : Int32) {Hx Hm : mzH} (h : zIv Hx Hm) : zBoth 127 223 [.int a1, .int a2] Hx Hm (fun _ _ => True) := by
  obtain ⟨⟨hIx, hJx⟩, ⟨hIm, hJm⟩, hR⟩ := h
  refine zBoth_of (s_127 a1 a2 Hx hIx hJx) (s_223 a1 a2 Hm hIm hJm) (fun rx rm Gx Gm p q => ?_)
  obtain ⟨ix, jx, kx0, mx0⟩ := p
  obtain ⟨iy, jy, ky0, my0⟩ := q
  exact ⟨⟨⟨ix, jx⟩, ⟨iy, jy⟩, zRl8_kp hR mx0 my0⟩, trivial⟩
theorem step_14 (a1 : Int32) {Hx Hm : mzH} (h : zIv Hx Hm) : zBoth 128 225 [.int a1] Hx Hm (fun _ _ => True) := by
  obtain ⟨⟨hIx, hJx⟩, ⟨hIm, hJm⟩, hR⟩ := h
  refine zBoth_of (s_128 a1 Hx hIx hJx) (s_225 a1 Hm hIm hJm) (fun rx rm Gx Gm p q => ?_)
  obtain rfl := p
  obtain ⟨iy, jy, ky0, my0⟩ := q
  exact ⟨⟨⟨hIx, hJx⟩, ⟨iy, jy⟩, zRl8_kp hR kpX_r my0⟩, trivial⟩
theorem step_15 (a1 : Int32) {Hx Hm : mzH} (h : zIv Hx Hm) : zBoth 129 227 [.int a1] Hx Hm (fun _ _ => True) := by
  obtain ⟨⟨hIx, hJx⟩, ⟨hIm, hJm⟩, hR⟩ := h
  refine zBoth_of (s_129 a1 Hx hIx hJx) (s_227 a1 Hm hIm hJm) (fun rx rm Gx Gm p q => ?_)
  obtain ⟨ix, jx, kx0, mx0⟩ := p
  obtain ⟨iy, jy, ky0, my0⟩ := q
  exact ⟨⟨⟨ix, jx⟩, ⟨iy, jy⟩, zRl8_kp hR mx0 my0⟩, trivial⟩
theorem step_16 (a1 : Int32) {Hx Hm : mzH} (h : zIv Hx Hm) : zBoth 130 228 [.int a1] Hx Hm (fun _ _ => True) := by
  obtain ⟨⟨hIx, hJx⟩, ⟨hIm, hJm⟩, hR⟩ := h
  refine zBoth_of (s_130 a1 Hx hIx hJx) (s_228 a1 Hm hIm hJm) (fun rx rm Gx Gm p q => ?_)
  obtain ⟨ix, jx, kx0, mx0⟩ := p
  obtain ⟨iy, jy, ky0, my0⟩ := q
  exact ⟨⟨⟨ix, jx⟩, ⟨iy, jy⟩, zRl8_kp hR mx0 my0⟩, trivial⟩
theorem step_17 (a1 a2 a3 : Int32) {Hx Hm : mzH} (h : zIv Hx Hm) : zBoth 131 237 [.int a1, .int a2, .int a3] Hx Hm (fun _ _ => True) := by
  obtain ⟨⟨hIx, hJx⟩, ⟨hIm, hJm⟩, hR⟩ := h
  refine zBoth_of (s_131 a1 a2 a3 Hx hIx hJx) (s_237 a1 a2 a3 Hm hIm hJm) (fun rx rm Gx Gm p q => ?_)
  obtain ⟨ix, jx, kx0, mx0⟩ := p
  obtain ⟨iy, jy, ky0, my0⟩ := q
  exact ⟨⟨⟨ix, jx⟩, ⟨iy, jy⟩, zRl8_kp hR mx0 my0⟩, trivial⟩
theorem step_18 (a1 a2 a3 a4 : Int32) {Hx Hm : mzH} (h : zIv Hx Hm) : zBoth 132 239 [.int a1, .int a2, .int a3, .int a4] Hx Hm (fun _ _ => True) := by
  obtain ⟨⟨hIx, hJx⟩, ⟨hIm, hJm⟩, hR⟩ := h
  refine zBoth_of (s_132 a1 a2 a3 a4 Hx hIx hJx) (s_239 a1 a2 a3 a4 Hm hIm hJm) (fun rx rm Gx Gm p q => ?_)
  obtain ⟨ix, jx, kx0, mx0⟩ := p
  obtain ⟨iy, jy, ky0, my0⟩ := q
  exact ⟨⟨⟨ix, jx⟩, ⟨iy, jy⟩, zRl8_kp hR mx0 my0⟩, trivial⟩
theorem step_19 (a1 : Int32) {Hx Hm : mzH} (h : zIv Hx Hm) : zBoth 133 240 [.int a1] Hx Hm (fun _ _ => True) := by
  obtain ⟨⟨hIx, hJx⟩, ⟨hIm, hJm⟩, hR⟩ := h
  refine zBoth_of (s_133 a1 Hx hIx hJx) (s_240 a1 Hm hIm hJm) (fun rx rm Gx Gm p q => ?_)
  obtain ⟨ix, jx, kx0, mx0⟩ := p
  obtain ⟨iy, jy, ky0, my0⟩ := q
  exact ⟨⟨⟨ix, jx⟩, ⟨iy, jy⟩, zRl8_kp hR mx0 my0⟩, trivial⟩
theorem step_20 (a1 a2 : Int32) {Hx Hm : mzH} (h : zIv Hx Hm) : zBoth 134 242 [.int a1, .int a2] Hx Hm (fun _ _ => True) := by
  obtain ⟨⟨hIx, hJx⟩, ⟨hIm, hJm⟩, hR⟩ := h
  refine zBoth_of (s_134 a1 a2 Hx hIx hJx) (s_242 a1 a2 Hm hIm hJm) (fun rx rm Gx Gm p q => ?_)
  obtain ⟨ix, jx, kx0, mx0⟩ := p
  obtain ⟨iy, jy, ky0, my0⟩ := q
  exact ⟨⟨⟨ix, jx⟩, ⟨iy, jy⟩, zRl8_kp hR mx0 my0⟩, trivial⟩
theorem step_21 (a1 a2 : Int32) {Hx Hm : mzH} (h : zIv Hx Hm) : zBoth 135 243 [.int a1, .int a2] Hx Hm (fun _ _ => True) := by
  obtain ⟨⟨hIx, hJx⟩, ⟨hIm, hJm⟩, hR⟩ := h
  refine zBoth_of (s_135 a1 a2 Hx hIx hJx) (s_243 a1 a2 Hm hIm hJm) (fun rx rm Gx Gm p q => ?_)
  obtain ⟨ix, jx, kx0, mx0⟩ := p
  obtain ⟨iy, jy, ky0, my0⟩ := q
  exact ⟨⟨⟨ix, jx⟩, ⟨iy, jy⟩, zRl8_kp hR mx0 my0⟩, trivial⟩
theorem step_22 (a1 a2 : Int32) {Hx Hm : mzH} (h : zIv Hx Hm) : zBoth 136 217 [.int a1, .int a2] Hx Hm (fun _ _ => True) := by
  obtain ⟨⟨hIx, hJx⟩, ⟨hIm, hJm⟩, hR⟩ := h
  refine zBoth_of (s_136 a1 a2 Hx hIx hJx) (s_217 a1 a2 Hm hIm hJm) (fun rx rm Gx Gm p q => ?_)
  obtain ⟨ix, jx, kx0, mx0⟩ := p
  obtain ⟨iy, jy, ky0, my0⟩ := q
  exact ⟨⟨⟨ix, jx⟩, ⟨iy, jy⟩, zRl8_kp hR mx0 my0⟩, trivial⟩
theorem step_23 (a1 a2 : Int32) {Hx Hm : mzH} (h : zIv Hx Hm) : zBoth 137 218 [.int a1, .int a2] Hx Hm (fun _ _ => True) := by
  obtain ⟨⟨hIx, hJx⟩, ⟨hIm, hJm⟩, hR⟩ := h
  refine zBoth_of (s_137 a1 a2 Hx hIx hJx) (s_218 a1 a2 Hm hIm hJm) (fun rx rm Gx Gm p q => ?_)
  obtain ⟨ix, jx, kx0, mx0⟩ := p
  obtain ⟨iy, jy, ky0, my0⟩ := q
  exact ⟨⟨⟨ix, jx⟩, ⟨iy, jy⟩, zRl8_kp hR mx0 my0⟩, trivial⟩
theorem step_24 (a1 : Int32) {Hx Hm : mzH} (h : zIv Hx Hm) : zBoth 138 230 [.int a1] Hx Hm (fun _ _ => True) := by
  obtain ⟨⟨hIx, hJx⟩, ⟨hIm, hJm⟩, hR⟩ := h
  refine zBoth_of (s_138 a1 Hx hIx hJx) (s_230 a1 Hm hIm hJm) (fun rx rm Gx Gm p q => ?_)
  obtain ⟨ix, jx, kx0, mx0⟩ := p
  obtain ⟨iy, jy, ky0, my0⟩ := q
  exact ⟨⟨⟨ix, jx⟩, ⟨iy, jy⟩, zRl8_kp hR mx0 my0⟩, trivial⟩
theorem step_25 (a1 a2 : Int32) {Hx Hm : mzH} (h : zIv Hx Hm) : zBoth 139 231 [.int a1, .int a2] Hx Hm (fun _ _ => True) := by
  obtain ⟨⟨hIx, hJx⟩, ⟨hIm, hJm⟩, hR⟩ := h
  refine zBoth_of (s_139 a1 a2 Hx hIx hJx) (s_231 a1 a2 Hm hIm hJm) (fun rx rm Gx Gm p q => ?_)
  obtain ⟨ix, jx, kx0, mx0⟩ := p
  obtain ⟨iy, jy, ky0, my0⟩ := q
  exact ⟨⟨⟨ix, jx⟩, ⟨iy, jy⟩, zRl8_kp hR mx0 my0⟩, trivial⟩
theorem step_26 (a1 a2 a3 : Int32) {Hx Hm : mzH} (h : zIv Hx Hm) : zBoth 140 233 [.int a1, .int a2, .int a3] Hx Hm (fun _ _ => True) := by
  obtain ⟨⟨hIx, hJx⟩, ⟨hIm, hJm⟩, hR⟩ := h
  refine zBoth_of (s_140 a1 a2 a3 Hx hIx hJx) (s_233 a1 a2 a3 Hm hIm hJm) (fun rx rm Gx Gm p q => ?_)
  obtain ⟨ix, jx, kx0, mx0⟩ := p
  obtain ⟨iy, jy, ky0, my0⟩ := q
  exact ⟨⟨⟨ix, jx⟩, ⟨iy, jy⟩, zRl8_kp hR mx0 my0⟩, trivial⟩
theorem step_27 (a1 a2 : Int32) {Hx Hm : mzH} (h : zIv Hx Hm) : zBoth 141 234 [.int a1, .int a2] Hx Hm (fun _ _ => True) := by
  obtain ⟨⟨hIx, hJx⟩, ⟨hIm, hJm⟩, hR⟩ := h
  refine zBoth_of (s_141 a1 a2 Hx hIx hJx) (s_234 a1 a2 Hm hIm hJm) (fun rx rm Gx Gm p q => ?_)
  obtain ⟨ix, jx, kx0, mx0⟩ := p
  obtain ⟨iy, jy, ky0, my0⟩ := q
  exact ⟨⟨⟨ix, jx⟩, ⟨iy, jy⟩, zRl8_kp hR mx0 my0⟩, trivial⟩
theorem step_28 (a1 a2 a3 : Int32) {Hx Hm : mzH} (h : zIv Hx Hm) : zBoth 142 246 [.int a1, .int a2, .int a3] Hx Hm (fun _ _ => True) := by
  obtain ⟨⟨hIx, hJx⟩, ⟨hIm, hJm⟩, hR⟩ := h
  refine zBoth_of (s_142 a1 a2 a3 Hx hIx hJx) (s_246 a1 a2 a3 Hm hIm hJm) (fun rx rm Gx Gm p q => ?_)
  obtain ⟨ix, jx, kx0, mx0⟩ := p
  obtain ⟨iy, jy, ky0, my0⟩ := q
  exact ⟨⟨⟨ix, jx⟩, ⟨iy, jy⟩, zRl8_kp hR mx0 my0⟩, trivial⟩
theorem step_29 (a1 a2 a3 : Int32) {Hx Hm : mzH} (h : zIv Hx Hm) : zBoth 143 247 [.int a1, .int a2, .int a3] Hx Hm (fun _ _ => True) := by
  obtain ⟨⟨hIx, hJx⟩, ⟨hIm, hJm⟩, hR⟩ := h
  refine zBoth_of (s_143 a1 a2 a3 Hx hIx hJx) (s_247 a1 a2 a3 Hm hIm hJm) (fun rx rm Gx Gm p q => ?_)
  obtain ⟨ix, jx, kx0, mx0⟩ := p
  obtain ⟨iy, jy, ky0, my0⟩ := q
  exact ⟨⟨⟨ix, jx⟩, ⟨iy, jy⟩, zRl8_kp hR mx0 my0⟩, trivial⟩
theorem step_30 (a1 a2 : Int32) {Hx Hm : mzH} (h : zIv Hx Hm) : zBoth 144 249 [.int a1, .int a2] Hx Hm (fun _ _ => True) := by
  obtain ⟨⟨hIx, hJx⟩, ⟨hIm, hJm⟩, hR⟩ := h
  refine zBoth_of (s_144 a1 a2 Hx hIx hJx) (s_249 a1 a2 Hm hIm hJm) (fun rx rm Gx Gm p q => ?_)
  obtain ⟨ix, jx, kx0, mx0⟩ := p
  obtain ⟨iy, jy, ky0, my0⟩ := q
  exact ⟨⟨⟨ix, jx⟩, ⟨iy, jy⟩, zRl8_kp hR mx0 my0⟩, trivial⟩
theorem step_31 (a1 : Int32) {Hx Hm : mzH} (h : zIv Hx Hm) : zBoth 145 250 [.int a1] Hx Hm (fun _ _ => True) := by
  obtain ⟨⟨hIx, hJx⟩, ⟨hIm, hJm⟩, hR⟩ := h
  refine zBoth_of (s_145 a1 Hx hIx hJx) (s_250 a1 Hm hIm hJm) (fun rx rm Gx Gm p q => ?_)
  obtain ⟨ix, jx, kx0, mx0⟩ := p
  obtain ⟨iy, jy, ky0, my0⟩ := q
  exact ⟨⟨⟨ix, jx⟩, ⟨iy, jy⟩, zRl8_kp hR mx0 my0⟩, trivial⟩
theorem step_32 (a1 a2 a3 : Int32) {Hx Hm : mzH} (h : zIv Hx Hm) : zBoth 146 244 [.int a1, .int a2, .int a3] Hx Hm (fun a b => a = b) := z_clash a1 a2 a3 h
theorem step_33 (a1 a2 a3 : Int32) {Hx Hm : mzH} (h : zIv Hx Hm) : zBoth 147 245 [.int a1, .int a2, .int a3] Hx Hm (fun _ _ => True) := by
  obtain ⟨⟨hIx, hJx⟩, ⟨hIm, hJm⟩, hR⟩ := h
  refine zBoth_of (s_147 a1 a2 a3 Hx hIx hJx) (s_245 a1 a2 a3 Hm hIm hJm) (fun rx rm Gx Gm p q => ?_)
  obtain ⟨ix, jx, kx0, mx0⟩ := p
  obtain ⟨iy, jy, ky0, my0⟩ := q
  exact ⟨⟨⟨ix, jx⟩, ⟨iy, jy⟩, zRl8_kp hR mx0 my0⟩, trivial⟩
theorem step_34 (a1 : Int32) {Hx Hm : mzH} (h : zIv Hx Hm) : zBoth 148 251 [.int a1] Hx Hm (fun _ _ => True) := by
  obtain ⟨⟨hIx, hJx⟩, ⟨hIm, hJm⟩, hR⟩ := h
  refine zBoth_of (s_148 a1 Hx hIx hJx) (s_251 a1 Hm hIm hJm) (fun rx rm Gx Gm p q => ?_)
  obtain rfl := p
  obtain ⟨iy, jy, ky0, my0⟩ := q
  exact ⟨⟨⟨hIx, hJx⟩, ⟨iy, jy⟩, zRl8_kp hR kpX_r my0⟩, trivial⟩
