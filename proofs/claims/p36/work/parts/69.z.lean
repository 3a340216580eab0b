/-! WHERE NO FAULT IS, NO PLACE IS -/
def pq (g g' : pG) : Prop := g'.f = 0 → g.f = 0 ∧ g'.p = g.p
theorem pq_r {g : pG} : pq g g := fun h => ⟨h, rfl⟩
theorem pq_t {a b c : pG} (h : pq a b) (k : pq b c) : pq a c := fun z => by
  obtain ⟨k1, k2⟩ := k z
  obtain ⟨h1, h2⟩ := h k1
  exact ⟨h1, k2.trans h2⟩
theorem pq_F {T : pT} {n : Int} {g : pG} (h : n ≠ 0) : pq g (pFail T n g) := fun z => absurd z (pF_ne h).1
theorem pq_G {T : pT} {g : pG} : pq g (pGo T g) := fun z => by
  rw [pGo_f] at z
  refine ⟨z, ?_⟩
  unfold pGo
  split <;> rfl
theorem pq_T {T : pT} {lo hi : Int} {g : pG} : pq g (pTake T lo hi g) := by
  unfold pTake
  split
  · exact pq_F (by decide)
  · split
    · exact pq_r
    · exact pq_G
theorem pq_N {T : pT} {lo hi : Int} {g : pG} : pq g (pNumb T lo hi g) := by
  unfold pNumb
  split
  · exact pq_t (pq_F (by decide)) pq_T
  · exact pq_T
theorem pq_P {nm : Nat → Int} {P but : Int} {T : pT} {g : pG} : pq g (pPlc nm P T but g) := by
  unfold pPlc
  split
  · exact pq_t (pq_F (by decide)) pq_T
  · split
    · exact pq_t (pq_F (by decide)) pq_T
    · exact pq_T
theorem pq_A {T : pT} {g : pG} : pq g (pAct T g) := by
  unfold pAct
  split <;> exact pq_T
theorem pq_S {b : pB} {T : pT} {a : Int} {g : pG} : pq g (pSec b T a g) := by
  unfold pSec
  split
  · exact pq_N
  · split
    · exact pq_P
    · exact pq_r
theorem pq_1 {b : pB} {T : pT} {g : pG} : pq g (pRdP b T g) := by
  have h1 : pq g (pRdP1 b T g) := by
    unfold pRdP1
    split
    · exact pq_t (pq_F (by decide)) pq_T
    · exact pq_T
  unfold pRdP
  split
  · exact pq_t h1 (pq_t (pq_F (by decide)) pq_T)
  · exact pq_t h1 pq_T
theorem pq_2 {b : pB} {T : pT} {g : pG} : pq g (pRdR b T g) := by
  have h1 : pq g (pRdR1 b T g) := by
    unfold pRdR1
    split
    · exact pq_t (pq_F (by decide)) pq_T
    · exact pq_T
  exact pq_t (pq_t (pq_t h1 pq_P) pq_P) pq_N
theorem pq_3 {b : pB} {T : pT} {g : pG} : pq g (pRdF b T g) := by
  have h1 : pq g (pRdF1 b T g) := by
    unfold pRdF1
    split
    · exact pq_t (pq_F (by decide)) pq_T
    · exact pq_T
  exact pq_t (pq_t h1 pq_N) pq_N
theorem pq_4 {b : pB} {T : pT} {g : pG} : pq g (pM6 b T g) := by
  have h1 : pq g (pM1 b T g) := by
    unfold pM1
    split
    · exact pq_t (pq_F (by decide)) pq_T
    · exact pq_T
  have h4 : pq g (pM4 b T g) := pq_t (pq_t (pq_t h1 pq_N) pq_A) pq_N
  have h5 : pq g (pM5 b T g) := by
    unfold pM5
    split
    · exact pq_t h4 pq_T
    · exact h4
  exact pq_t h5 pq_S
theorem pq_L {b : pB} {T : pT} {g : pG} : pq g (pLn b T g) := by
  have h : pq g (pLn1 b T g) := by
    unfold pLn1
    split
    · exact pq_1
    · split
      · exact pq_2
      · split
        · exact pq_3
        · split
          · exact pq_4
          · exact pq_F (by decide)
  exact pq_t h pq_T
theorem pq_I {told : Int} {T : pT} {b : pB} : ∀ n, pq g0 (pIt told T n b).2
  | 0 => pq_r
  | n + 1 => by
    have hs : pq (pIt told T n b).2 (pSg told T (pIt told T n b).2) := by
      unfold pSg
      split
      · exact pq_F (by decide)
      · exact pq_r
    exact pq_t (pq_I n) (pq_t hs pq_L)
theorem it_p {told : Int} {T : pT} {b : pB} {n : Nat} (h : (pIt told T n b).2.f = 0) : (pIt told T n b).2.p = -1 := (pq_I n h).2
theorem gs_one {told : Int} {T : pT} {b : pB} {n m : Nat} (h1 : pGoes told T b n) (s1 : pStop T (pIt told T n b).2) (h2 : pGoes told T b m) (s2 : pStop T (pIt told T m b).2) : n = m := by
  rcases Nat.lt_trichotomy n m with h | h | h
  · exact absurd s1 (h2 n h)
  · exact h
  · exact absurd s2 (h1 m h)
/-! WHAT THE ANSWERS REST ON -/
/-- the tapes, the books, the last faults are alike -/
def zRel (Hx Hm : mzH) : Prop := (fZ Hx 1 1).toInt = (fZ Hm 0 2).toInt ∧ (∀ q : Nat, (q : Int) < (fZ Hx 1 1).toInt → sgB (bX Hx q) (bM Hm q)) ∧ (∃ c : pB, bkX Hx 3 c ∧ bkW Hm c) ∧ (fZ Hx 19 5).toInt = (fZ Hm 0 15).toInt ∧ (fZ Hx 19 6).toInt = (fZ Hm 0 16).toInt
theorem bkW_cg {H B : mzH} {c : pB} (h2 : ∀ i, aZ B 2 i = aZ H 2 i) (h5 : ∀ i, aZ B 5 i = aZ H 5 i) (hf : fZ B 0 18 = fZ H 0 18) (h : bkW H c) : bkW B c := by
  unfold bkW bkG at h ⊢
  simp only [h2, h5, hf]
  exact h
theorem bkX_kp {H B : mzH} {c : pB} (k : kpC H B) (h : bkX H 3 c) : bkX B 3 c := bkX_nw (fun f => (k 3 (by decide)).1 f) (fun q i _ _ _ => (k (3 + q) (by omega)).2 i) h
theorem zRel_kp {Hx Hm Gx Gm : mzH} (h : zRel Hx Hm) (k : kpX Hx Gx) (m : kpM Hm Gm) : zRel Gx Gm := by
  obtain ⟨h1, h2, ⟨c, h3, h4⟩, h5, h6⟩ := h
  refine ⟨?_, fun q hq => ?_, ⟨c, bkX_kp (fun c hc => k c (by omega)) h3, bkW_cg (m.1 2 (by decide)) (m.1 5 (by decide)) (m.2 18 (by decide)) h4⟩, ?_, ?_⟩
  · rw [(k 1 (by decide)).1, m.2 2 (by decide)]; exact h1
  · rw [(k 1 (by decide)).1] at hq
    unfold bX bM
    rw [(k 2 (by decide)).2, m.1 1 (by decide)]
    exact h2 q hq
  · rw [(k 19 (by decide)).1, m.2 15 (by decide)]; exact h5
  · rw [(k 19 (by decide)).1, m.2 16 (by decide)]; exact h6
theorem zRel_fd {Hx Hm Gx Gm : mzH} {a b c d e : Int32} (h : zRel Hx Hm) (hx : 0 ≤ (fZ Hx 1 1).toInt) (sx : ((fZ Hx 1 1).toInt ≤ 880 ∧ (fZ Gx 1 1).toInt = (fZ Hx 1 1).toInt + 20) ∨ (880 < (fZ Hx 1 1).toInt ∧ (fZ Gx 1 1).toInt = (fZ Hx 1 1).toInt)) (sm : ((fZ Hm 0 2).toInt ≤ 880 ∧ (fZ Gm 0 2).toInt = (fZ Hm 0 2).toInt + 20) ∨ (880 < (fZ Hm 0 2).toInt ∧ (fZ Gm 0 2).toInt = (fZ Hm 0 2).toInt)) (k : fdX Hx Gx a b c d e) (m : kpR Hm Gm) (n : fdM Hm Gm a b c d e) : zRel Gx Gm := by
  obtain ⟨h1, h2, ⟨w, h3, h4⟩, h5, h6⟩ := h
  have bm : bkW Gm w := bkW_cg (m.1 2 (by decide)) (m.1 5 (by decide)) (m.2 18 (by decide)) h4
  rcases k with ⟨k0, rfl⟩ | ⟨k0, ⟨k1, k2⟩, k3⟩
  · rcases n with ⟨n0, n1⟩ | ⟨n0, _⟩
    · refine ⟨by omega, fun q hq => ?_, ⟨w, h3, bm⟩, by rw [m.2 15 (by decide)]; exact h5, by rw [m.2 16 (by decide)]; exact h6⟩
      unfold bM
      rw [n1]
      exact h2 q hq
    · omega
  · rcases n with ⟨n0, _⟩ | ⟨n0, n1, n2⟩
    · omega
    · refine ⟨by omega, fun q hq => ?_, ⟨w, bkX_kp (fun c hc => k3 c (by omega)) h3, bm⟩, by rw [(k3 19 (by decide)).1, m.2 15 (by decide)]; exact h5, by rw [(k3 19 (by decide)).1, m.2 16 (by decide)]; exact h6⟩
      if hq2 : (q : Int) < (fZ Hx 1 1).toInt then
        have := h2 q hq2
        unfold bX bM at this ⊢
        rw [k2 q hq2, n2 q (by omega)]
        exact this
      else
        obtain ⟨i, hi⟩ : ∃ i : Nat, i = q - (fZ Hx 1 1).toInt.toNat := ⟨_, rfl⟩
        unfold bX bM
        rw [show q = (fZ Hx 1 1).toInt.toNat + i by omega, k1 i (by omega), show (fZ Hx 1 1).toInt.toNat + i = (fZ Hm 0 2).toInt.toNat + i by omega, n1 i (by omega)]
        exact by_sg bt_lt
theorem zRel_tx {Hx Hm Gx Gm : mzH} {told : Int} {T : pT} {c : pB} {k : Nat} {rx rm : Int32} (h : zRel Hx Hm) (t2 : pGoes told T c k) (t3 : pStop T (pIt told T k c).2) (t4 : (fZ Gx 1 1).toInt = 0) (t5 : (fZ Gx 19 5).toInt = (pIt told T k c).2.f) (t6 : (fZ Gx 19 6).toInt = (pIt told T k c).2.p) (t7 : ((pIt told T k c).2.f ≠ 0 ∧ rx.toInt = -1 ∧ kpC Hx Gx) ∨ ((pIt told T k c).2.f = 0 ∧ rx.toInt = (k : Int) ∧ bkX Gx 3 (pIt told T k c).1)) (u : rdT Hm Gm told T c rm) : zRel Gx Gm ∧ rx = rm := by
  obtain ⟨n, u1, u2, u3, u4, u5⟩ := u
  have e := gs_one t2 t3 u1 u2
  subst e
  obtain ⟨h1, h2, ⟨w, h3, h4⟩, h5, h6⟩ := h
  rcases t7 with ⟨a1, a2, a3⟩ | ⟨a1, a2, a3⟩
  · rcases u5 with ⟨b1, b2, b3, b4⟩ | ⟨b1, _⟩
    · exact ⟨⟨by omega, fun q hq => by omega, ⟨w, bkX_kp a3 h3, bkW_cg b4.1 b4.2.1 b4.2.2 h4⟩, by omega, by omega⟩, Int32.toInt_inj.mp (by omega)⟩
    · exact absurd b1 a1
  · rcases u5 with ⟨b1, _⟩ | ⟨b1, b2, b3, b4⟩
    · exact absurd a1 b1
    · have := it_p a1
      exact ⟨⟨by omega, fun q hq => by omega, ⟨_, a3, b4⟩, by omega, by omega⟩, Int32.toInt_inj.mp (by omega)⟩
def zIv (Hx Hm : mzH) : Prop := (gI SX Hx ∧ JX Hx) ∧ (gI SM Hm ∧ JN Hm) ∧ zRel Hx Hm
set_option maxRecDepth 100000 in
theorem zHx_f : (fZ zHx 1 1).toInt = 0 ∧ (fZ zHx 3 7).toInt = 0 ∧ (fZ zHx 3 8).toInt = 0 ∧ (fZ zHx 3 9).toInt = 0 ∧ (fZ zHx 3 10).toInt = 10 ∧ (fZ zHx 3 11).toInt = 10 ∧ (fZ zHx 3 12).toInt = 0 ∧ (fZ zHx 19 5).toInt = 0 ∧ (fZ zHx 19 6).toInt = -1 := by decide +kernel
set_option maxRecDepth 100000 in
theorem zHm_f : (fZ zHm 0 2).toInt = 0 ∧ (aZ zHm 2 0).toInt = 0 ∧ (aZ zHm 2 1).toInt = 0 ∧ (aZ zHm 2 2).toInt = 0 ∧ (aZ zHm 2 3).toInt = 10 ∧ (aZ zHm 2 4).toInt = 10 ∧ (fZ zHm 0 18).toInt = 0 ∧ (fZ zHm 0 15).toInt = 0 ∧ (fZ zHm 0 16).toInt = -1 := by decide +kernel
theorem zRel_0 : zRel zHx zHm := by
  obtain ⟨x0, x1, x2, x3, x4, x5, x6, x7, x8⟩ := zHx_f
  obtain ⟨m0, m1, m2, m3, m4, m5, m6, m7, m8⟩ := zHm_f
  refine ⟨by omega, fun q hq => by omega, ⟨pB0, ⟨x1, x2, x3, x4, x5, x6, fun p hp => ?_, fun k hk => ?_, ?_⟩, ⟨m1, m2, m3, m4, m5, m6, fun p hp => ?_, fun k hk => ?_, ?_⟩⟩, by omega, by omega⟩
  · have hp : (p : Int) < 0 := hp
    omega
  · have hk : (k : Int) < 0 := hk
    omega
  · show (0 : Int) ≤ 0 ∧ (0 : Int) ≤ 12
    decide
  · have hp : (p : Int) < 0 := hp
    omega
  · have hk : (k : Int) < 0 := hk
    omega
  · show (0 : Int) ≤ 0 ∧ (0 : Int) ≤ 12
    decide
theorem zIv_0 : zIv zHx zHm := ⟨⟨zHx_gI, zHx_J⟩, ⟨zHm_gI, zHm_J⟩, zRel_0⟩
noncomputable def zRun (f j : Nat) (as : List Value) (H : mzH) : mzR := zEx f (zN j) (zB j) (mzBlk (zB j) 0) (lv_args 0 as) [] H 0 0
def zBoth (jx jm : Nat) (xs : List Value) (Hx Hm : mzH) (E : Int32 → Int32 → Prop) : Prop := ∃ (f : Nat) (rx rm : Int32) (Gx Gm : mzH), zRun f jx (.ref 0 :: xs) Hx = some (some (.int rx), Gx) ∧ zRun f jm (.ref 0 :: xs) Hm = some (some (.int rm), Gm) ∧ zIv Gx Gm ∧ E rx rm
theorem zBoth_of {jx jm : Nat} {xs : List Value} {Hx Hm : mzH} {E : Int32 → Int32 → Prop} {R1 R2 : Int32 → mzH → Prop} (h1 : gCall jx (.ref 0 :: xs) Hx (gRi R1)) (h2 : gCall jm (.ref 0 :: xs) Hm (gRi R2)) (hk : ∀ rx rm Gx Gm, R1 rx Gx → R2 rm Gm → zIv Gx Gm ∧ E rx rm) : zBoth jx jm xs Hx Hm E := by
  obtain ⟨_, Gx, ⟨rx, rfl, p1⟩, f1, k1⟩ := h1
  obtain ⟨_, Gm, ⟨rm, rfl, p2⟩, f2, k2⟩ := h2
  exact ⟨f1 + f2, rx, rm, Gx, Gm, k1 _ (by omega), k2 _ (by omega), (hk rx rm Gx Gm p1 p2).1, (hk rx rm Gx Gm p1 p2).2⟩
theorem zBoth_dep {jx jm : Nat} {xs : List Value} {Hx Hm : mzH} {E : Int32 → Int32 → Prop} {R1 : Int32 → mzH → Prop} (h1 : gCall jx (.ref 0 :: xs) Hx (gRi R1)) (hk : ∀ rx Gx, R1 rx Gx → gCall jm (.ref 0 :: xs) Hm (gRi (fun rm Gm => zIv Gx Gm ∧ E rx rm))) : zBoth jx jm xs Hx Hm E := by
  obtain ⟨_, Gx, ⟨rx, rfl, p1⟩, f1, k1⟩ := h1
  obtain ⟨_, Gm, ⟨rm, rfl, p2⟩, f2, k2⟩ := hk rx Gx p1
  exact ⟨f1 + f2, rx, rm, Gx, Gm, k1 _ (by omega), k2 _ (by omega), p2.1, p2.2⟩
theorem z_feed (a1 a2 a3 a4 a5 : Int32) {Hx Hm : mzH} (h : zIv Hx Hm) : zBoth 113 155 [.int a1, .int a2, .int a3, .int a4, .int a5] Hx Hm (fun a b => a = b) := by
  obtain ⟨⟨hIx, hJx⟩, ⟨hIm, hJm⟩, hR⟩ := h
  refine zBoth_of (e_113 a1 a2 a3 a4 a5 Hx hIx hJx) (e_155 a1 a2 a3 a4 a5 Hm hIm hJm) (fun rx rm Gx Gm p q => ?_)
  obtain ⟨ix, jx, p0, p1⟩ := p
  obtain ⟨iy, jy, q0, q1, q2⟩ := q
  have h1 := hR.1
  exact ⟨⟨⟨ix, jx⟩, ⟨iy, jy⟩, zRel_fd hR (fZ_of hIx sx_1 (f := 1) rfl).1 (by omega) (by omega) p1 q0 q2⟩, Int32.toInt_inj.mp (by omega)⟩
theorem z_text (a1 : Int32) {Hx Hm : mzH} (h : zIv Hx Hm) : zBoth 114 175 [.int a1] Hx Hm (fun a b => a = b) := by
  obtain ⟨⟨hIx, hJx⟩, ⟨hIm, hJm⟩, hR⟩ := h
  have h1 := hR.1
  if c : 0 ≤ a1.toInt ∧ a1.toInt ≤ (fZ Hx 1 1).toInt then
    refine zBoth_dep (e_114b (c := pB0) a1 Hx hIx hJx c rfl) (fun rx Gx p => ?_)
    obtain ⟨ix, jx, T, k, t1, t2, t3, t4, t5, t6, t7⟩ := p
    refine gGo_mono (e_175b (b := bX Hx) (T := T) (c := pB0) a1 Hm hIm hJm (by omega) (fun q hq => hR.2.1 q (by omega)) t1 rfl) ?_
    rintro o Gm ⟨rm, rfl, iy, jy, u⟩
    have r := zRel_tx hR t2 t3 t4 t5 t6 t7 u
    exact ⟨rm, rfl, ⟨⟨ix, jx⟩, ⟨iy, jy⟩, r.1⟩, r.2⟩
  else
    refine zBoth_of (e_114a a1 Hx hIx hJx c) (e_175a a1 Hm hIm hJm (by omega)) (fun rx rm Gx Gm p q => ?_)
    obtain ⟨ix, jx, rfl, p0⟩ := p
    obtain ⟨iy, jy, q0, q1⟩ := q
    exact ⟨⟨⟨ix, jx⟩, ⟨iy, jy⟩, zRel_kp hR kpX_r q0⟩, Int32.toInt_inj.mp (by omega)⟩
theorem z_tell (a1 : Int32) {Hx Hm : mzH} (h : zIv Hx Hm) : zBoth 115 176 [.int a1] Hx Hm (fun a b => a = b) := by
  obtain ⟨⟨hIx, hJx⟩, ⟨hIm, hJm⟩, hR⟩ := h
  have h1 := hR.1
  if c : 0 ≤ a1.toInt ∧ a1.toInt ≤ (fZ Hx 1 1).toInt then
    obtain ⟨w, h3, h4⟩ := hR.2.2.1
    refine zBoth_dep (e_115b (c := w) a1 Hx hIx hJx c h3) (fun rx Gx p => ?_)
    obtain ⟨ix, jx, T, k, t1, t2, t3, t4, t5, t6, t7⟩ := p
    refine gGo_mono (e_176b (b := bX Hx) (T := T) (c := w) a1 Hm hIm hJm (by omega) (fun q hq => hR.2.1 q (by omega)) t1 h4) ?_
    rintro o Gm ⟨rm, rfl, iy, jy, u⟩
    have r := zRel_tx hR t2 t3 t4 t5 t6 t7 u
    exact ⟨rm, rfl, ⟨⟨ix, jx⟩, ⟨iy, jy⟩, r.1⟩, r.2⟩
  else
    refine zBoth_of (e_115a a1 Hx hIx hJx c) (e_176a a1 Hm hIm hJm (by omega)) (fun rx rm Gx Gm p q => ?_)
    obtain ⟨ix, jx, rfl, p0⟩ := p
    obtain ⟨iy, jy, q0, q1⟩ := q
    exact ⟨⟨⟨ix, jx⟩, ⟨iy, jy⟩, zRel_kp hR kpX_r q0⟩, Int32.toInt_inj.mp (by omega)⟩
theorem zBoth_any {jx jm : Nat} {xs : List Value} {Hx Hm : mzH} {E : Int32 → Int32 → Prop} (h : zBoth jx jm xs Hx Hm E) : zBoth jx jm xs Hx Hm (fun _ _ => True) := by
  obtain ⟨f, rx, rm, Gx, Gm, a, b, c, _⟩ := h
  exact ⟨f, rx, rm, Gx, Gm, a, b, c, trivial⟩
theorem z_count (a1 : Int32) {Hx Hm : mzH} (h : zIv Hx Hm) : zBoth 148 251 [.int a1] Hx Hm (fun a b => a = b) := by
  obtain ⟨⟨hIx, hJx⟩, ⟨hIm, hJm⟩, hR⟩ := h
  refine zBoth_of (e_148 a1 Hx hIx hJx) (e_251 a1 Hm hIm hJm) (fun rx rm Gx Gm p q => ?_)
  obtain ⟨rfl, p0⟩ := p
  obtain ⟨iy, jy, ky, my, q0⟩ := q
  have h1 := hR.1
  obtain ⟨c, ⟨x1, x2, x3, x4, x5, x6, x7, x8, x9⟩, ⟨m1, m2, m3, m4, m5, m6, m7, m8, m9⟩⟩ := hR.2.2.1
  have e : lC (hX Hx) (fZ Hx 3 9).toInt.toNat = lC (hM Hm) (aZ Hm 2 2).toInt.toNat := by
    rw [show (aZ Hm 2 2).toInt.toNat = (fZ Hx 3 9).toInt.toNat by omega]
    exact lC_cg (N := (fZ Hx 3 9).toInt.toNat) (fun k hk => (x8 k (by omega)).1.trans (m8 k (by omega)).1.symm) (Nat.le_refl _)
  exact ⟨⟨⟨hIx, hJx⟩, ⟨iy, jy⟩, zRel_kp hR kpX_r my⟩, Int32.toInt_inj.mp (by omega)⟩
theorem step_0 (a1 a2 a3 a4 a5 : Int32) {Hx Hm : mzH} (h : zIv Hx Hm) : zBoth 113 155 [.int a1, .int a2, .int a3, .int a4, .int a5] Hx Hm (fun _ _ => True) := zBoth_any (z_feed a1 a2 a3 a4 a5 h)
theorem step_1 (a1 : Int32) {Hx Hm : mzH} (h : zIv Hx Hm) : zBoth 114 175 [.int a1] Hx Hm (fun _ _ => True) := zBoth_any (z_text a1 h)
theorem step_2 (a1 : Int32) {Hx Hm : mzH} (h : zIv Hx Hm) : zBoth 115 176 [.int a1] Hx Hm (fun _ _ => True) := zBoth_any (z_tell a1 h)
theorem step_3 (a1 : Int32) {Hx Hm : mzH} (h : zIv Hx Hm) : zBoth 117 177 [.int a1] Hx Hm (fun _ _ => True) := by
  obtain ⟨⟨hIx, hJx⟩, ⟨hIm, hJm⟩, hR⟩ := h
  refine zBoth_of (s_117 a1 Hx hIx hJx) (s_177 a1 Hm hIm hJm) (fun rx rm Gx Gm p q => ?_)
  obtain rfl := p
  obtain ⟨iy, jy, ky0, my0⟩ := q
  exact ⟨⟨⟨hIx, hJx⟩, ⟨iy, jy⟩, zRel_kp hR kpX_r my0⟩, trivial⟩
theorem step_4 (a1 a2 : Int32) {Hx Hm : mzH} (h : zIv Hx Hm) : zBoth 118 179 [.int a1, .int a2] Hx Hm (fun _ _ => True) := by
  obtain ⟨⟨hIx, hJx⟩, ⟨hIm, hJm⟩, hR⟩ := h
  refine zBoth_of (s_118 a1 a2 Hx hIx hJx) (s_179 a1 a2 Hm hIm hJm) (fun rx rm Gx Gm p q => ?_)
  obtain rfl := p
  obtain ⟨iy, jy, ky0, my0⟩ := q
  exact ⟨⟨⟨hIx, hJx⟩, ⟨iy, jy⟩, zRel_kp hR kpX_r my0⟩, trivial⟩
theorem step_5 (a1 a2 : Int32) {Hx Hm : mzH} (h : zIv Hx Hm) : ∃ (f : Nat) (rm : Int32) (Gm : mzH), zRun f 202 [.ref 0, .int a1, .int a2] Hm = some (some (.int rm), Gm) ∧ zIv Hx Gm := by
  obtain ⟨hX, ⟨hIm, hJm⟩, hR⟩ := h
  obtain ⟨_, Gm, ⟨rm, rfl, q⟩, f2, k2⟩ := s_202 a1 a2 Hm hIm hJm
  obtain ⟨iy, jy, ky0, my0⟩ := q
  exact ⟨f2, rm, Gm, k2 _ (Nat.le_refl _), hX, ⟨iy, jy⟩, zRel_kp hR kpX_r my0⟩
theorem step_6 (a1 a2 a3 : Int32) {Hx Hm : mzH} (h : zIv Hx Hm) : zBoth 120 208 [.int a1, .int a2, .int a3] Hx Hm (fun _ _ => True) := by
  obtain ⟨⟨hIx, hJx⟩, ⟨hIm, hJm⟩, hR⟩ := h
  refine zBoth_of (s_120 a1 a2 a3 Hx hIx hJx) (s_208 a1 a2 a3 Hm hIm hJm) (fun rx rm Gx Gm p q => ?_)
  obtain ⟨ix, jx, kx0, mx0⟩ := p
  obtain ⟨iy, jy, ky0, my0⟩ := q
  exact ⟨⟨⟨ix, jx⟩, ⟨iy, jy⟩, zRel_kp hR mx0 my0⟩, trivial⟩
theorem step_7 (a1 a2 a3 : Int32) {Hx Hm : mzH} (h : zIv Hx Hm) : zBoth 121 209 [.int a1, .int a2, .int a3] Hx Hm (fun _ _ => True) := by
  obtain ⟨⟨hIx, hJx⟩, ⟨hIm, hJm⟩, hR⟩ := h
  refine zBoth_of (s_121 a1 a2 a3 Hx hIx hJx) (s_209 a1 a2 a3 Hm hIm hJm) (fun rx rm Gx Gm p q => ?_)
  obtain ⟨ix, jx, kx0, mx0⟩ := p
  obtain ⟨iy, jy, ky0, my0⟩ := q
  exact ⟨⟨⟨ix, jx⟩, ⟨iy, jy⟩, zRel_kp hR mx0 my0⟩, trivial⟩
theorem step_8 (a1 a2 a3 : Int32) {Hx Hm : mzH} (h : zIv Hx Hm) : zBoth 122 211 [.int a1, .int a2, .int a3] Hx Hm (fun _ _ => True) := by
  obtain ⟨⟨hIx, hJx⟩, ⟨hIm, hJm⟩, hR⟩ := h
  refine zBoth_of (s_122 a1 a2 a3 Hx hIx hJx) (s_211 a1 a2 a3 Hm hIm hJm) (fun rx rm Gx Gm p q => ?_)
  obtain ⟨ix, jx, kx0, mx0⟩ := p
  obtain ⟨iy, jy, ky0, my0⟩ := q
  exact ⟨⟨⟨ix, jx⟩, ⟨iy, jy⟩, zRel_kp hR mx0 my0⟩, trivial⟩
theorem step_9 (a1 a2 : Int32) {Hx Hm : mzH} (h : zIv Hx Hm) : zBoth 123 213 [.int a1, .int a2] Hx Hm (fun _ _ => True) := by
  obtain ⟨⟨hIx, hJx⟩, ⟨hIm, hJm⟩, hR⟩ := h
  refine zBoth_of (s_123 a1 a2 Hx hIx hJx) (s_213 a1 a2 Hm hIm hJm) (fun rx rm Gx Gm p q => ?_)
  obtain ⟨ix, jx, kx0, mx0⟩ := p
  obtain ⟨iy, jy, ky0, my0⟩ := q
  exact ⟨⟨⟨ix, jx⟩, ⟨iy, jy⟩, zRel_kp hR mx0 my0⟩, trivial⟩
theorem step_10 (a1 a2 a3 : Int32) {Hx Hm : mzH} (h : zIv Hx Hm) : zBoth 124 215 [.int a1, .int a2, .int a3] Hx Hm (fun _ _ => True) := by
  obtain ⟨⟨hIx, hJx⟩, ⟨hIm, hJm⟩, hR⟩ := h
  refine zBoth_of (s_124 a1 a2 a3 Hx hIx hJx) (s_215 a1 a2 a3 Hm hIm hJm) (fun rx rm Gx Gm p q => ?_)
  obtain ⟨ix, jx, kx0, mx0⟩ := p
  obtain ⟨iy, jy, ky0, my0⟩ := q
  exact ⟨⟨⟨ix, jx⟩, ⟨iy, jy⟩, zRel_kp hR mx0 my0⟩, trivial⟩
theorem step_11 (a1 a2 : Int32) {Hx Hm : mzH} (h : zIv Hx Hm) : zBoth 125 220 [.int a1, .int a2] Hx Hm (fun _ _ => True) := by
  obtain ⟨⟨hIx, hJx⟩, ⟨hIm, hJm⟩, hR⟩ := h
  refine zBoth_of (s_125 a1 a2 Hx hIx hJx) (s_220 a1 a2 Hm hIm hJm) (fun rx rm Gx Gm p q => ?_)
  obtain ⟨ix, jx, kx0, mx0⟩ := p
  obtain ⟨iy, jy, ky0, my0⟩ := q
  exact ⟨⟨⟨ix, jx⟩, ⟨iy, jy⟩, zRel_kp hR mx0 my0⟩, trivial⟩
theorem step_12 (a1 : Int32) {Hx Hm : mzH} (h : zIv Hx Hm) : zBoth 126 221 [.int a1] Hx Hm (fun _ _ => True) := by
  obtain ⟨⟨hIx, hJx⟩, ⟨hIm, hJm⟩, hR⟩ := h
  refine zBoth_of (s_126 a1 Hx hIx hJx) (s_221 a1 Hm hIm hJm) (fun rx rm Gx Gm p q => ?_)
  obtain ⟨ix, jx, kx0, mx0⟩ := p
  obtain ⟨iy, jy, ky0, my0⟩ := q
  exact ⟨⟨⟨ix, jx⟩, ⟨iy, jy⟩, zRel_kp hR mx0 my0⟩, trivial⟩
theorem step_13 (a1 a2 : Int32) {Hx Hm : mzH} (h : zIv Hx Hm) : zBoth 127 223 [.int a1, .int a2] Hx Hm (fun _ _ => True) := by
  obtain ⟨⟨hIx, hJx⟩, ⟨hIm, hJm⟩, hR⟩ := h
  refine zBoth_of (s_127 a1 a2 Hx hIx hJx) (s_223 a1 a2 Hm hIm hJm) (fun rx rm Gx Gm p q => ?_)
  obtain ⟨ix, jx, kx0, mx0⟩ := p
  obtain ⟨iy, jy, ky0, my0⟩ := q
  exact ⟨⟨⟨ix, jx⟩, ⟨iy, jy⟩, zRel_kp hR mx0 my0⟩, trivial⟩
theorem step_14 (a1 : Int32) {Hx Hm : mzH} (h : zIv Hx Hm) : zBoth 128 225 [.int a1] Hx Hm (fun _ _ => True) := by
  obtain ⟨⟨hIx, hJx⟩, ⟨hIm, hJm⟩, hR⟩ := h
  refine zBoth_of (s_128 a1 Hx hIx hJx) (s_225 a1 Hm hIm hJm) (fun rx rm Gx Gm p q => ?_)
  obtain rfl := p
  obtain ⟨iy, jy, ky0, my0⟩ := q
  exact ⟨⟨⟨hIx, hJx⟩, ⟨iy, jy⟩, zRel_kp hR kpX_r my0⟩, trivial⟩
theorem step_15 (a1 : Int32) {Hx Hm : mzH} (h : zIv Hx Hm) : zBoth 129 227 [.int a1] Hx Hm (fun _ _ => True) := by
  obtain ⟨⟨hIx, hJx⟩, ⟨hIm, hJm⟩, hR⟩ := h
  refine zBoth_of (s_129 a1 Hx hIx hJx) (s_227 a1 Hm hIm hJm) (fun rx rm Gx Gm p q => ?_)
  obtain ⟨ix, jx, kx0, mx0⟩ := p
  obtain ⟨iy, jy, ky0, my0⟩ := q
  exact ⟨⟨⟨ix, jx⟩, ⟨iy, jy⟩, zRel_kp hR mx0 my0⟩, trivial⟩
theorem step_16 (a1 : Int32) {Hx Hm : mzH} (h : zIv Hx Hm) : zBoth 130 228 [.int a1] Hx Hm (fun _ _ => True) := by
  obtain ⟨⟨hIx, hJx⟩, ⟨hIm, hJm⟩, hR⟩ := h
  refine zBoth_of (s_130 a1 Hx hIx hJx) (s_228 a1 Hm hIm hJm) (fun rx rm Gx Gm p q => ?_)
  obtain ⟨ix, jx, kx0, mx0⟩ := p
  obtain ⟨iy, jy, ky0, my0⟩ := q
  exact ⟨⟨⟨ix, jx⟩, ⟨iy, jy⟩, zRel_kp hR mx0 my0⟩, trivial⟩
theorem step_17 (a1 a2 a3 : Int32) {Hx Hm : mzH} (h : zIv Hx Hm) : zBoth 131 237 [.int a1, .int a2, .int a3] Hx Hm (fun _ _ => True) := by
  obtain ⟨⟨hIx, hJx⟩, ⟨hIm, hJm⟩, hR⟩ := h
  refine zBoth_of (s_131 a1 a2 a3 Hx hIx hJx) (s_237 a1 a2 a3 Hm hIm hJm) (fun rx rm Gx Gm p q => ?_)
  obtain ⟨ix, jx, kx0, mx0⟩ := p
  obtain ⟨iy, jy, ky0, my0⟩ := q
  exact ⟨⟨⟨ix, jx⟩, ⟨iy, jy⟩, zRel_kp hR mx0 my0⟩, trivial⟩
theorem step_18 (a1 a2 a3 a4 : Int32) {Hx Hm : mzH} (h : zIv Hx Hm) : zBoth 132 239 [.int a1, .int a2, .int a3, .int a4] Hx Hm (fun _ _ => True) := by
  obtain ⟨⟨hIx, hJx⟩, ⟨hIm, hJm⟩, hR⟩ := h
  refine zBoth_of (s_132 a1 a2 a3 a4 Hx hIx hJx) (s_239 a1 a2 a3 a4 Hm hIm hJm) (fun rx rm Gx Gm p q => ?_)
  obtain ⟨ix, jx, kx0, mx0⟩ := p
  obtain ⟨iy, jy, ky0, my0⟩ := q
  exact ⟨⟨⟨ix, jx⟩, ⟨iy, jy⟩, zRel_kp hR mx0 my0⟩, trivial⟩
theorem step_19 (a1 : Int32) {Hx Hm : mzH} (h : zIv Hx Hm) : zBoth 133 240 [.int a1] Hx Hm (fun _ _ => True) := by
  obtain ⟨⟨hIx, hJx⟩, ⟨hIm, hJm⟩, hR⟩ := h
  refine zBoth_of (s_133 a1 Hx hIx hJx) (s_240 a1 Hm hIm hJm) (fun rx rm Gx Gm p q => ?_)
  obtain ⟨ix, jx, kx0, mx0⟩ := p
  obtain ⟨iy, jy, ky0, my0⟩ := q
  exact ⟨⟨⟨ix, jx⟩, ⟨iy, jy⟩, zRel_kp hR mx0 my0⟩, trivial⟩
theorem step_20 (a1 a2 : Int32) {Hx Hm : mzH} (h : zIv Hx Hm) : zBoth 134 242 [.int a1, .int a2] Hx Hm (fun _ _ => True) := by
  obtain ⟨⟨hIx, hJx⟩, ⟨hIm, hJm⟩, hR⟩ := h
  refine zBoth_of (s_134 a1 a2 Hx hIx hJx) (s_242 a1 a2 Hm hIm hJm) (fun rx rm Gx Gm p q => ?_)
  obtain ⟨ix, jx, kx0, mx0⟩ := p
  obtain ⟨iy, jy, ky0, my0⟩ := q
  exact ⟨⟨⟨ix, jx⟩, ⟨iy, jy⟩, zRel_kp hR mx0 my0⟩, trivial⟩
theorem step_21 (a1 a2 : Int32) {Hx Hm : mzH} (h : zIv Hx Hm) : zBoth 135 243 [.int a1, .int a2] Hx Hm (fun _ _ => True) := by
  obtain ⟨⟨hIx, hJx⟩, ⟨hIm, hJm⟩, hR⟩ := h
  refine zBoth_of (s_135 a1 a2 Hx hIx hJx) (s_243 a1 a2 Hm hIm hJm) (fun rx rm Gx Gm p q => ?_)
  obtain ⟨ix, jx, kx0, mx0⟩ := p
  obtain ⟨iy, jy, ky0, my0⟩ := q
  exact ⟨⟨⟨ix, jx⟩, ⟨iy, jy⟩, zRel_kp hR mx0 my0⟩, trivial⟩
theorem step_22 (a1 a2 : Int32) {Hx Hm : mzH} (h : zIv Hx Hm) : zBoth 136 217 [.int a1, .int a2] Hx Hm (fun _ _ => True) := by
  obtain ⟨⟨hIx, hJx⟩, ⟨hIm, hJm⟩, hR⟩ := h
  refine zBoth_of (s_136 a1 a2 Hx hIx hJx) (s_217 a1 a2 Hm hIm hJm) (fun rx rm Gx Gm p q => ?_)
  obtain ⟨ix, jx, kx0, mx0⟩ := p
  obtain ⟨iy, jy, ky0, my0⟩ := q
  exact ⟨⟨⟨ix, jx⟩, ⟨iy, jy⟩, zRel_kp hR mx0 my0⟩, trivial⟩
theorem step_23 (a1 a2 : Int32) {Hx Hm : mzH} (h : zIv Hx Hm) : zBoth 137 218 [.int a1, .int a2] Hx Hm (fun _ _ => True) := by
  obtain ⟨⟨hIx, hJx⟩, ⟨hIm, hJm⟩, hR⟩ := h
  refine zBoth_of (s_137 a1 a2 Hx hIx hJx) (s_218 a1 a2 Hm hIm hJm) (fun rx rm Gx Gm p q => ?_)
  obtain ⟨ix, jx, kx0, mx0⟩ := p
  obtain ⟨iy, jy, ky0, my0⟩ := q
  exact ⟨⟨⟨ix, jx⟩, ⟨iy, jy⟩, zRel_kp hR mx0 my0⟩, trivial⟩
theorem step_24 (a1 : Int32) {Hx Hm : mzH} (h : zIv Hx Hm) : zBoth 138 230 [.int a1] Hx Hm (fun _ _ => True) := by
  obtain ⟨⟨hIx, hJx⟩, ⟨hIm, hJm⟩, hR⟩ := h
  refine zBoth_of (s_138 a1 Hx hIx hJx) (s_230 a1 Hm hIm hJm) (fun rx rm Gx Gm p q => ?_)
  obtain ⟨ix, jx, kx0, mx0⟩ := p
  obtain ⟨iy, jy, ky0, my0⟩ := q
  exact ⟨⟨⟨ix, jx⟩, ⟨iy, jy⟩, zRel_kp hR mx0 my0⟩, trivial⟩
theorem step_25 (a1 a2 : Int32) {Hx Hm : mzH} (h : zIv Hx Hm) : zBoth 139 231 [.int a1, .int a2] Hx Hm (fun _ _ => True) := by
  obtain ⟨⟨hIx, hJx⟩, ⟨hIm, hJm⟩, hR⟩ := h
  refine zBoth_of (s_139 a1 a2 Hx hIx hJx) (s_231 a1 a2 Hm hIm hJm) (fun rx rm Gx Gm p q => ?_)
  obtain ⟨ix, jx, kx0, mx0⟩ := p
  obtain ⟨iy, jy, ky0, my0⟩ := q
  exact ⟨⟨⟨ix, jx⟩, ⟨iy, jy⟩, zRel_kp hR mx0 my0⟩, trivial⟩
theorem step_26 (a1 a2 a3 : Int32) {Hx Hm : mzH} (h : zIv Hx Hm) : zBoth 140 233 [.int a1, .int a2, .int a3] Hx Hm (fun _ _ => True) := by
  obtain ⟨⟨hIx, hJx⟩, ⟨hIm, hJm⟩, hR⟩ := h
  refine zBoth_of (s_140 a1 a2 a3 Hx hIx hJx) (s_233 a1 a2 a3 Hm hIm hJm) (fun rx rm Gx Gm p q => ?_)
  obtain ⟨ix, jx, kx0, mx0⟩ := p
  obtain ⟨iy, jy, ky0, my0⟩ := q
  exact ⟨⟨⟨ix, jx⟩, ⟨iy, jy⟩, zRel_kp hR mx0 my0⟩, trivial⟩
theorem step_27 (a1 a2 : Int32) {Hx Hm : mzH} (h : zIv Hx Hm) : zBoth 141 234 [.int a1, .int a2] Hx Hm (fun _ _ => True) := by
  obtain ⟨⟨hIx, hJx⟩, ⟨hIm, hJm⟩, hR⟩ := h
  refine zBoth_of (s_141 a1 a2 Hx hIx hJx) (s_234 a1 a2 Hm hIm hJm) (fun rx rm Gx Gm p q => ?_)
  obtain ⟨ix, jx, kx0, mx0⟩ := p
  obtain ⟨iy, jy, ky0, my0⟩ := q
  exact ⟨⟨⟨ix, jx⟩, ⟨iy, jy⟩, zRel_kp hR mx0 my0⟩, trivial⟩
theorem step_28 (a1 a2 a3 : Int32) {Hx Hm : mzH} (h : zIv Hx Hm) : zBoth 142 246 [.int a1, .int a2, .int a3] Hx Hm (fun _ _ => True) := by
  obtain ⟨⟨hIx, hJx⟩, ⟨hIm, hJm⟩, hR⟩ := h
  refine zBoth_of (s_142 a1 a2 a3 Hx hIx hJx) (s_246 a1 a2 a3 Hm hIm hJm) (fun rx rm Gx Gm p q => ?_)
  obtain ⟨ix, jx, kx0, mx0⟩ := p
  obtain ⟨iy, jy, ky0, my0⟩ := q
  exact ⟨⟨⟨ix, jx⟩, ⟨iy, jy⟩, zRel_kp hR mx0 my0⟩, trivial⟩
theorem step_29 (a1 a2 a3 : Int32) {Hx Hm : mzH} (h : zIv Hx Hm) : zBoth 143 247 [.int a1, .int a2, .int a3] Hx Hm (fun _ _ => True) := by
  obtain ⟨⟨hIx, hJx⟩, ⟨hIm, hJm⟩, hR⟩ := h
  refine zBoth_of (s_143 a1 a2 a3 Hx hIx hJx) (s_247 a1 a2 a3 Hm hIm hJm) (fun rx rm Gx Gm p q => ?_)
  obtain ⟨ix, jx, kx0, mx0⟩ := p
  obtain ⟨iy, jy, ky0, my0⟩ := q
  exact ⟨⟨⟨ix, jx⟩, ⟨iy, jy⟩, zRel_kp hR mx0 my0⟩, trivial⟩
theorem step_30 (a1 a2 : Int32) {Hx Hm : mzH} (h : zIv Hx Hm) : zBoth 144 249 [.int a1, .int a2] Hx Hm (fun _ _ => True) := by
  obtain ⟨⟨hIx, hJx⟩, ⟨hIm, hJm⟩, hR⟩ := h
  refine zBoth_of (s_144 a1 a2 Hx hIx hJx) (s_249 a1 a2 Hm hIm hJm) (fun rx rm Gx Gm p q => ?_)
  obtain ⟨ix, jx, kx0, mx0⟩ := p
  obtain ⟨iy, jy, ky0, my0⟩ := q
  exact ⟨⟨⟨ix, jx⟩, ⟨iy, jy⟩, zRel_kp hR mx0 my0⟩, trivial⟩
theorem step_31 (a1 : Int32) {Hx Hm : mzH} (h : zIv Hx Hm) : zBoth 145 250 [.int a1] Hx Hm (fun _ _ => True) := by
  obtain ⟨⟨hIx, hJx⟩, ⟨hIm, hJm⟩, hR⟩ := h
  refine zBoth_of (s_145 a1 Hx hIx hJx) (s_250 a1 Hm hIm hJm) (fun rx rm Gx Gm p q => ?_)
  obtain ⟨ix, jx, kx0, mx0⟩ := p
  obtain ⟨iy, jy, ky0, my0⟩ := q
  exact ⟨⟨⟨ix, jx⟩, ⟨iy, jy⟩, zRel_kp hR mx0 my0⟩, trivial⟩
theorem step_32 (a1 a2 a3 : Int32) {Hx Hm : mzH} (h : zIv Hx Hm) : zBoth 146 244 [.int a1, .int a2, .int a3] Hx Hm (fun _ _ => True) := by
  obtain ⟨⟨hIx, hJx⟩, ⟨hIm, hJm⟩, hR⟩ := h
  refine zBoth_of (s_146 a1 a2 a3 Hx hIx hJx) (s_244 a1 a2 a3 Hm hIm hJm) (fun rx rm Gx Gm p q => ?_)
  obtain rfl := p
  obtain ⟨iy, jy, ky0, my0⟩ := q
  exact ⟨⟨⟨hIx, hJx⟩, ⟨iy, jy⟩, zRel_kp hR kpX_r my0⟩, trivial⟩
theorem step_33 (a1 a2 a3 : Int32) {Hx Hm : mzH} (h : zIv Hx Hm) : zBoth 147 245 [.int a1, .int a2, .int a3] Hx Hm (fun _ _ => True) := by
  obtain ⟨⟨hIx, hJx⟩, ⟨hIm, hJm⟩, hR⟩ := h
  refine zBoth_of (s_147 a1 a2 a3 Hx hIx hJx) (s_245 a1 a2 a3 Hm hIm hJm) (fun rx rm Gx Gm p q => ?_)
  obtain ⟨ix, jx, kx0, mx0⟩ := p
  obtain ⟨iy, jy, ky0, my0⟩ := q
  exact ⟨⟨⟨ix, jx⟩, ⟨iy, jy⟩, zRel_kp hR mx0 my0⟩, trivial⟩
theorem step_34 (a1 : Int32) {Hx Hm : mzH} (h : zIv Hx Hm) : zBoth 148 251 [.int a1] Hx Hm (fun a b => a = b) := z_count a1 h
