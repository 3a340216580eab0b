/-! THE REFERENCE RUNS -/
/-- those that are in, by hours: how many, which -/
def ord2 (I hr : Nat → Int) : Nat → Nat × (Nat → Nat)
  | 0 => (0, fun _ => 0)
  | k + 1 => if I k = 0 then ord2 I hr k else ((ord2 I hr k).1 + 1, isr (ord2 I hr k).2 k (ord2 I hr k).1 (posF hr (ord2 I hr k).2 k (ord2 I hr k).1))
def inM (H : mzH) : Nat → Int := fun k => (aZ H 17 k).toInt
def hoM (H : mzH) : Nat → Int := fun k => (aZ H 18 k).toInt
def odI (G H : mzH) (k : Nat) : Prop := (fZ G 0 34).toInt = ((ord2 (inM H) (hoM H) k).1 : Int) ∧ ∀ q, q < (ord2 (inM H) (hoM H) k).1 → (aZ G 19 q).toInt = ((ord2 (inM H) (hoM H) k).2 q : Int)
theorem od_0 {G H : mzH} {k : Nat} (e : k = 0) (f : (fZ G 0 34).toInt = 0) : odI G H k := by
  subst e
  exact ⟨f, fun q hq => absurd hq (Nat.not_lt_zero _)⟩
theorem od_sk {G H : mzH} {k k2 : Nat} (q : odI G H k) (e : k2 = k + 1) (h : (aZ H 17 k).toInt = 0) : odI G H k2 := by
  subst e
  unfold odI ord2
  rw [if_pos (show inM H k = 0 from h)]
  exact q
theorem od_e {G H : mzH} {k k2 : Nat} (q : odI G H k) (e : k = k2) : odI G H k2 := e ▸ q
theorem od_in {G H : mzH} {k sp : Nat} (q : odI G H k) (e : sp = (ord2 (inM H) (hoM H) k).1) : inO (hoM H) (ord2 (inM H) (hoM H) k).2 k (ord2 (inM H) (hoM H) k).1 sp (fun q => (aZ G 19 q).toInt) := by
  subst e
  exact in_00 q.2
theorem orv_t {G : mzH} {hr : Nat → Int} {t : Nat → Nat} {k n c : Nat} {sp j v : Int32} (q : inO hr t k n sp.toInt.toNat (fun q => (aZ G c q).toInt)) (y : v.toInt = (aZ G c j.toInt.toNat).toInt) (ej : j.toInt = sp.toInt - 1) (h0 : 0 < sp.toInt) : t (sp.toInt.toNat - 1) = v.toInt.toNat := by
  have := q.2.1 (sp.toInt.toNat - 1) (by omega)
  have e : j.toInt.toNat = sp.toInt.toNat - 1 := by omega
  rw [e] at y
  have : v.toInt = (t (sp.toInt.toNat - 1) : Int) := y.trans this
  omega
theorem od_st {H B C : mzH} {k k2 : Nat} {v : Int32} (g : ∀ x, x < (ord2 (inM H) (hoM H) k).1 + 1 → (aZ B 19 x).toInt = (isr (ord2 (inM H) (hoM H) k).2 k (ord2 (inM H) (hoM H) k).1 (posF (hoM H) (ord2 (inM H) (hoM H) k).2 k (ord2 (inM H) (hoM H) k).1) x : Int)) (e : k2 = k + 1) (hn : ¬ (aZ H 17 k).toInt = 0) (eC : C = sF B 0 34 v) (hf : (fZ C 0 34).toInt = ((ord2 (inM H) (hoM H) k).1 : Int) + 1) : odI C H k2 := by
  subst e
  unfold odI ord2
  rw [if_neg (show ¬ inM H k = 0 from hn)]
  refine ⟨hf.trans (by omega), fun q hq => ?_⟩
  rw [eC, aZ_sF]
  exact g q hq
theorem od_cg {A B H : mzH} (h1 : ∀ i, aZ A 17 i = aZ H 17 i) (h2 : ∀ i, aZ A 18 i = aZ H 18 i) (h3 : ∀ i, aZ A 2 i = aZ H 2 i) (q : odI B A (aZ A 2 2).toInt.toNat) : odI B H (aZ H 2 2).toInt.toNat := by
  have e1 : inM A = inM H := by funext k; unfold inM; rw [h1]
  have e2 : hoM A = hoM H := by funext k; unfold hoM; rw [h2]
  unfold odI at q ⊢
  rw [e1, e2, h3] at q
  exact q
theorem od_cg2 {A B H : mzH} {k : Nat} (h1 : ∀ i, aZ B 19 i = aZ A 19 i) (h2 : fZ B 0 34 = fZ A 0 34) (q : odI A H k) : odI B H k := by
  refine ⟨by rw [h2]; exact q.1, fun x hx => by rw [h1]; exact q.2 x hx⟩
def rgM (H : mzH) : pS := psM (fun n => (aZ H 8 n).toInt) (fun n => (aZ H 9 n).toInt) (fun n => (aZ H 10 n).toInt) (fun n => (aZ H 11 n).toInt) (fun n => (aZ H 12 n).toInt) (fun n => (aZ H 13 n).toInt) (fun n => (aZ H 15 n).toInt) (fun n => (aZ H 16 n).toInt) (fun n => (aZ H 14 n).toInt)
def mdM (H : mzH) : Nat → Int := fun n => (aZ H 7 n).toInt
/-- nothing is made -/
def clR (r : pS) (m : Nat → Int) : Prop := ∀ n, n < 40 → m n = 0 ∧ r.ii n = -5 ∧ r.se n = -5 ∧ r.op n = 0 ∧ r.he n = 0 ∧ r.so n = 0 ∧ r.en n = 0
def fR (wy : Int → Int → Int) (U C : Int) (ro : Nat → Nat → Int) (od : Nat → Nat) (hr : Nat → Int) (r0 : pS) (m0 : Nat → Int) : Nat → pS × (Nat → Int)
  | 0 => (r0, m0)
  | p + 1 => (loS (fR wy U C ro od hr r0 m0 p).1 (fR wy U C ro od hr r0 m0 p).2 wy U C (ro (od p) 1) (ro (od p) 2).toNat (ro (od p) 3) (ro (od p) 4) (hr (od p)), loM (fR wy U C ro od hr r0 m0 p).1 (fR wy U C ro od hr r0 m0 p).2 wy U C (ro (od p) 1) (ro (od p) 2).toNat (ro (od p) 3) (hr (od p)))
def roM (H : mzH) : Nat → Nat → Int := fun k i => (aZ H 2 (69 + 5 * k + i)).toInt
def odM (H : mzH) : Nat → Nat := (ord2 (inM H) (hoM H) (aZ H 2 2).toInt.toNat).2
def cnM (H : mzH) : Nat := (ord2 (inM H) (hoM H) (aZ H 2 2).toInt.toNat).1
def fM (H G : mzH) : Nat → pS × (Nat → Int) := fR (wyM H) (aZ H 2 3).toInt (aZ H 2 4).toInt (roM H) (odM H) (hoM H) (rgM G) (mdM G)
def hqM (H : mzH) (q : Nat) : Int := hoM H (odM H q)
def stM (H : mzH) (h : Int) (p : Nat) : Prop := p ≤ cnM H ∧ (∀ q, q < p → hqM H q ≤ h) ∧ (p = cnM H ∨ h < hqM H p)
def gdM (H : mzH) : Prop := (∀ q : Nat, q < cnM H → (0 ≤ (aZ H 18 (odM H q)).toInt ∧ (aZ H 18 (odM H q)).toInt ≤ 999)) ∧ ∀ G, clR (rgM G) (mdM G) → ∀ q : Nat, q ≤ cnM H → dpt (fM H G q).1 ∧ laT (fM H G q).1 (fM H G q).2
/-- all messages are in, told for their hours -/
def tkW (H A : mzH) : Prop := kpM H A ∧ (∀ i, aZ A 2 i = aZ H 2 i) ∧ ∀ q : Nat, (q : Int) < (aZ H 2 2).toInt → (aZ A 18 q).toInt = (aZ H 2 (69 + 5 * q)).toInt ∧ (aZ A 17 q).toInt = 1
theorem rw_rd {H : mzH} : rwX H (rgM H) (mdM H) := fun _ _ => ⟨rfl, rfl, rfl, rfl, rfl, rfl, rfl, rfl, rfl, rfl⟩
theorem bt_of {H : mzH} {s : pS} {md : Nat → Int} (hI : gI SM H) (h : rwX H s md) : bt1 s md := fun n hn => by
  rw [← (h n hn).2.1]
  exact (aZ_of hI sm_8 hn).1
theorem od_g {G H : mzH} {q : Nat} (h : odI G H (aZ H 2 2).toInt.toNat) (hq : q < cnM H) : (aZ G 19 q).toInt.toNat = odM H q := by
  have := h.2 q hq
  unfold odM
  omega
theorem od_n {G H : mzH} (h : odI G H (aZ H 2 2).toInt.toNat) : (fZ G 0 34).toInt = (cnM H : Int) := h.1
theorem wyM_kp {H A : mzH} (fr : kpM H A) : wyM A = wyM H := by
  funext a b
  unfold wyM
  rw [fr.1 6 (by decide)]
theorem fm_st {H A B G : mzH} {p k : Int32} {p2 : Nat} (fr : kpM H A) (f18 : ∀ i, aZ A 18 i = aZ H 18 i) (f2 : ∀ i, aZ A 2 i = aZ H 2 i) (P : rwX B (loS (fM H G p.toInt.toNat).1 (fM H G p.toInt.toNat).2 (wyM A) (aZ A 2 3).toInt (aZ A 2 4).toInt (aZ A 2 (69 + 5 * k.toInt + 1).toNat).toInt (aZ A 2 (69 + 5 * k.toInt + 2).toNat).toInt.toNat (aZ A 2 (69 + 5 * k.toInt + 3).toNat).toInt (aZ A 2 (69 + 5 * k.toInt + 4).toNat).toInt (aZ A 18 k.toInt.toNat).toInt) (loM (fM H G p.toInt.toNat).1 (fM H G p.toInt.toNat).2 (wyM A) (aZ A 2 3).toInt (aZ A 2 4).toInt (aZ A 2 (69 + 5 * k.toInt + 1).toNat).toInt (aZ A 2 (69 + 5 * k.toInt + 2).toNat).toInt.toNat (aZ A 2 (69 + 5 * k.toInt + 3).toNat).toInt (aZ A 18 k.toInt.toNat).toInt)) (yk : k.toInt.toNat = odM H p.toInt.toNat) (h0 : 0 ≤ k.toInt) (e : p2 = p.toInt.toNat + 1) : rwX B (fM H G p2).1 (fM H G p2).2 := by
  subst e
  rw [wyM_kp fr, f2, f2, f2, f2, f2, f2, f18, show (69 + 5 * k.toInt + 1).toNat = 69 + 5 * k.toInt.toNat + 1 by omega, show (69 + 5 * k.toInt + 2).toNat = 69 + 5 * k.toInt.toNat + 2 by omega, show (69 + 5 * k.toInt + 3).toNat = 69 + 5 * k.toInt.toNat + 3 by omega, show (69 + 5 * k.toInt + 4).toNat = 69 + 5 * k.toInt.toNat + 4 by omega, yk] at P
  exact P
theorem hm_st {H : mzH} {h : Int} {p p2 : Nat} (q2 : ∀ q : Nat, q < p → hqM H q ≤ h) (e : p2 = p + 1) (z : hqM H p ≤ h) : ∀ q : Nat, q < p2 → hqM H q ≤ h := fun q hq => by
  if c : q = p then rw [c]; exact z
  else exact q2 q (by omega)
set_option maxRecDepth 4000 in
set_option maxHeartbeats 4000000 in
/-- M.takesAll -/
theorem r_182 (H : mzH) (hI : gI SM H) (hJ : JN H) : gCall 182 [.ref 0] H (gRv (fun H' => gI SM H' ∧ JN H' ∧ (∀ a f, fZ H' a f = fZ H a f) ∧ (∀ i, aZ H' 2 i = aZ H 2 i) ∧ kpM H H' ∧ (∀ q : Nat, (q : Int) < (aZ H' 2 2).toInt → ¬ (aZ H' 17 q).toInt = 0) ∧ (∀ q : Nat, (q : Int) < (aZ H 2 2).toInt → (aZ H' 18 q).toInt = (aZ H 2 (69 + 5 * q)).toInt ∧ (aZ H' 17 q).toInt = 1))) := by
  have mkF : ∀ a f, fZ H a f = fZ H a f := fun _ _ => rfl
  have mk2 : ∀ i, aZ H 2 i = aZ H 2 i := fun _ => rfl
  have mkfr : kpM H H := kpM_r
  refine gG_call [(0, .ref 0)] ⟨rfl, trivial⟩ ?_
  show gG 2 zB_182 (mzBlk zB_182 0) [(0, .ref 0)] [] H 0 0 _
  refine g_iconst (by decide) (fun v299 kv299 => ?_)
  refine g_istore_n (l' := [(0, .ref 0), (1, .int v299)]) rfl rfl ?_
  refine g_nop ?_
  have L305 : ∀ (N : Nat) (v300 : Int32) (H301 : mzH), gI SM H301 → JN H301 → (∀ a f, fZ H301 a f = fZ H a f) → (∀ i, aZ H301 2 i = aZ H 2 i) → kpM H H301 → (0 ≤ v300.toInt ∧ v300.toInt ≤ 60) → (∀ q : Nat, q < v300.toInt.toNat → ¬ (aZ H301 17 q).toInt = 0) → (∀ q : Nat, q < v300.toInt.toNat → (aZ H301 18 q).toInt = (aZ H 2 (69 + 5 * q)).toInt) → (∀ q : Nat, q < v300.toInt.toNat → (aZ H301 17 q).toInt = 1) → (60 - v300.toInt).toNat < N → gG 2 zB_182 (mzBlk zB_182 1) [(0, .ref 0), (1, .int v300)] [] H301 0 0 (gRv (fun H' => gI SM H' ∧ JN H' ∧ (∀ a f, fZ H' a f = fZ H a f) ∧ (∀ i, aZ H' 2 i = aZ H 2 i) ∧ kpM H H' ∧ (∀ q : Nat, (q : Int) < (aZ H' 2 2).toInt → ¬ (aZ H' 17 q).toInt = 0) ∧ (∀ q : Nat, (q : Int) < (aZ H 2 2).toInt → (aZ H' 18 q).toInt = (aZ H 2 (69 + 5 * q)).toInt ∧ (aZ H' 17 q).toInt = 1))) := by
    intro N
    induction N with
    | zero => intro v300 H301 hIH301 hJH301 m302 m303 m304 bv300 q1 q5 q6 hmL305; exact absurd hmL305 (Nat.not_lt_zero _)
    | succ N ihL305 =>
      intro v300 H301 hIH301 hJH301 m302 m303 m304 bv300 q1 q5 q6 hmL305
      refine g_iload_n rfl ?_
      refine g_aload_n rfl ?_
      refine g_invvi hIH301 sm_0 rfl rfl rfl rfl (s_180 H301 hIH301 hJH301) (fun v308 H306 r307 => ?_)
      obtain ⟨rfl, bv308, p309⟩ := r307
      refine g_if2_ge (fun c310 => ?_) (fun c310 => ?_)
      · exact g_ret ⟨rfl, hIH301, hJH301, m302, m303, m304, (fun q hq => q1 q (by omega)), (fun q hq => by have hz := congrArg Int32.toInt (m303 2); exact ⟨q5 q (by omega), q6 q (by omega)⟩)⟩
      · refine g_aload_n rfl ?_
        refine g_gfr hIH301 sm_0 rfl ?_
        refine g_iload_n rfl ?_
        refine g_iconst (by decide) (fun v311 kv311 => ?_)
        refine g_zastore hIH301 sm_17 (by omega) (by omega) (fun H312 eH312 hIH312 => ?_)
        have hJH312 : JN H312 := JN_sA (by decide) eH312 hJH301
        have m313 : ∀ a f, fZ H312 a f = fZ H a f := fun a f => (by rw [eH312, fZ_sA] : fZ H312 a f = fZ H301 a f).trans (m302 a f)
        have m314 : ∀ i, aZ H312 2 i = aZ H 2 i := fun i => (by rw [eH312, aZ_sA_nc (by omega)] : aZ H312 2 i = aZ H301 2 i).trans (m303 i)
        have m315 : kpM H H312 := kpM_A m304 eH312 (by omega)
        refine g_aload_n rfl ?_
        refine g_gfr hIH312 sm_0 rfl ?_
        refine g_iload_n rfl ?_
        refine g_aload_n rfl ?_
        refine g_iload_n rfl ?_
        refine g_iconst (by decide) (fun v316 kv316 => ?_)
        refine g_invvi hIH312 sm_0 rfl rfl rfl rfl (s_181 v300 (by omega) v316 (by omega) H312 hIH312 hJH312) (fun v319 H317 r318 => ?_)
        obtain ⟨rfl, p320⟩ := r318
        have tv319 : v319.toInt = (aZ H312 2 (69 + 5 * v300.toInt + v316.toInt).toNat).toInt := by rw [p320]
        refine g_iastore hIH312 sm_18 (by omega) (gz_any _) (fun H321 eH321 hIH321 => ?_)
        have hJH321 : JN H321 := JN_sA (by decide) eH321 hJH312
        have m322 : ∀ a f, fZ H321 a f = fZ H a f := fun a f => (by rw [eH321, fZ_sA] : fZ H321 a f = fZ H312 a f).trans (m313 a f)
        have m323 : ∀ i, aZ H321 2 i = aZ H 2 i := fun i => (by rw [eH321, aZ_sA_nc (by omega)] : aZ H321 2 i = aZ H312 2 i).trans (m314 i)
        have m324 : kpM H H321 := kpM_A m315 eH321 (by omega)
        refine g_iinc (l' := (fun v325 => [(0, .ref 0), (1, .int v325)])) rfl rfl (by decide) (by omega) (fun _ => rfl) (fun v325 ev325 => ?_)
        refine g_goto ?_
        exact ihL305 v325 H321 hIH321 hJH321 m322 m323 m324 (by omega) (fun q hq => by rw [eH321, aZ_sA_nc (by decide), eH312]; if e : v300.toInt.toNat = q then (subst e; rw [aZ_sA_eq hIH301 sm_17 (by omega)]; omega) else (rw [aZ_sA_ne e]; exact q1 q (by omega))) (fun q hq => by rw [eH321]; if e : v300.toInt.toNat = q then (subst e; rw [aZ_sA_eq hIH312 sm_18 (by omega), tv319, kv316, m314, show (69 + 5 * v300.toInt + 0).toNat = 69 + 5 * v300.toInt.toNat by omega]) else (rw [aZ_sA_ne e, eH312, aZ_sA_nc (by decide)]; exact q5 q (by omega))) (fun q hq => by rw [eH321, aZ_sA_nc (by decide), eH312]; if e : v300.toInt.toNat = q then (subst e; rw [aZ_sA_eq hIH301 sm_17 (by omega), kv311]) else (rw [aZ_sA_ne e]; exact q6 q (by omega))) (by omega)
  exact L305 _ v299 H hI hJ mkF mk2 mkfr (by omega) (fun q hq => absurd hq (by omega)) (fun q hq => absurd hq (by omega)) (fun q hq => absurd hq (by omega)) (Nat.lt_succ_self _)
set_option maxRecDepth 4000 in
set_option maxHeartbeats 4000000 in
/-- M.sorts -/
theorem r_183 (H : mzH) (hI : gI SM H) (hJ : JM H) : gCall 183 [.ref 0] H (gRv (fun H' => gI SM H' ∧ JM H' ∧ fZ H' 0 2 = fZ H 0 2 ∧ (∀ i, aZ H' 2 i = aZ H 2 i) ∧ (∀ i, aZ H' 17 i = aZ H 17 i) ∧ kpM H H' ∧ (∀ i, aZ H' 18 i = aZ H 18 i) ∧ (∀ i, aZ H' 7 i = aZ H 7 i) ∧ (∀ i, aZ H' 9 i = aZ H 9 i) ∧ (∀ i, aZ H' 12 i = aZ H 12 i) ∧ (∀ i, aZ H' 13 i = aZ H 13 i) ∧ (∀ i, aZ H' 14 i = aZ H 14 i) ∧ (∀ i, aZ H' 15 i = aZ H 15 i) ∧ (∀ i, aZ H' 16 i = aZ H 16 i) ∧ pmA H' (aZ H' 2 2).toInt 60 ∧ odI H' H (aZ H 2 2).toInt.toNat)) := by
  obtain ⟨k0_2, ek0_2⟩ : ∃ z, z = fZ H 0 2 := ⟨_, rfl⟩
  have ik0_2 : k0_2.toInt = (fZ H 0 2).toInt := by rw [← ek0_2]
  have bk0_2 : 0 ≤ k0_2.toInt ∧ k0_2.toInt ≤ 900 := by rw [ek0_2]; exact fZ_of hI sm_0 rfl
  have mk2 : ∀ i, aZ H 2 i = aZ H 2 i := fun _ => rfl
  have mk17 : ∀ i, aZ H 17 i = aZ H 17 i := fun _ => rfl
  have mkfr : kpM H H := kpM_r
  have mk18 : ∀ i, aZ H 18 i = aZ H 18 i := fun _ => rfl
  have mk7 : ∀ i, aZ H 7 i = aZ H 7 i := fun _ => rfl
  have mk9 : ∀ i, aZ H 9 i = aZ H 9 i := fun _ => rfl
  have mk12 : ∀ i, aZ H 12 i = aZ H 12 i := fun _ => rfl
  have mk13 : ∀ i, aZ H 13 i = aZ H 13 i := fun _ => rfl
  have mk14 : ∀ i, aZ H 14 i = aZ H 14 i := fun _ => rfl
  have mk15 : ∀ i, aZ H 15 i = aZ H 15 i := fun _ => rfl
  have mk16 : ∀ i, aZ H 16 i = aZ H 16 i := fun _ => rfl
  refine gG_call [(0, .ref 0)] ⟨rfl, trivial⟩ ?_
  show gG 3 zB_183 (mzBlk zB_183 0) [(0, .ref 0)] [] H 0 0 _
  refine g_aload_n rfl ?_
  refine g_iconst (by decide) (fun v1323 kv1323 => ?_)
  refine g_pfi hI sm_0 rfl (by omega) (fun H1324 eH1324 hIH1324 => ?_)
  have hJH1324 : JM H1324 := JM_sF eH1324 hJ
  have e1325 : k0_2 = fZ H1324 0 2 := by rw [eH1324, fZ_sF_ne (by decide)]; exact ek0_2
  have e1326 : v1323 = fZ H1324 0 34 := by rw [eH1324, fZ_sF_eq hI sm_0 rfl]
  have m1327 : ∀ i, aZ H1324 2 i = aZ H 2 i := fun i => (by rw [eH1324, aZ_sF] : aZ H1324 2 i = aZ H 2 i).trans (mk2 i)
  have m1328 : ∀ i, aZ H1324 17 i = aZ H 17 i := fun i => (by rw [eH1324, aZ_sF] : aZ H1324 17 i = aZ H 17 i).trans (mk17 i)
  have m1329 : kpM H H1324 := kpM_F mkfr eH1324 (by omega)
  have m1330 : ∀ i, aZ H1324 18 i = aZ H 18 i := fun i => (by rw [eH1324, aZ_sF] : aZ H1324 18 i = aZ H 18 i).trans (mk18 i)
  have m1331 : ∀ i, aZ H1324 7 i = aZ H 7 i := fun i => (by rw [eH1324, aZ_sF] : aZ H1324 7 i = aZ H 7 i).trans (mk7 i)
  have m1332 : ∀ i, aZ H1324 9 i = aZ H 9 i := fun i => (by rw [eH1324, aZ_sF] : aZ H1324 9 i = aZ H 9 i).trans (mk9 i)
  have m1333 : ∀ i, aZ H1324 12 i = aZ H 12 i := fun i => (by rw [eH1324, aZ_sF] : aZ H1324 12 i = aZ H 12 i).trans (mk12 i)
  have m1334 : ∀ i, aZ H1324 13 i = aZ H 13 i := fun i => (by rw [eH1324, aZ_sF] : aZ H1324 13 i = aZ H 13 i).trans (mk13 i)
  have m1335 : ∀ i, aZ H1324 14 i = aZ H 14 i := fun i => (by rw [eH1324, aZ_sF] : aZ H1324 14 i = aZ H 14 i).trans (mk14 i)
  have m1336 : ∀ i, aZ H1324 15 i = aZ H 15 i := fun i => (by rw [eH1324, aZ_sF] : aZ H1324 15 i = aZ H 15 i).trans (mk15 i)
  have m1337 : ∀ i, aZ H1324 16 i = aZ H 16 i := fun i => (by rw [eH1324, aZ_sF] : aZ H1324 16 i = aZ H 16 i).trans (mk16 i)
  have ie1326 : v1323.toInt = (fZ H1324 0 34).toInt := by rw [← e1326]
  refine g_iconst (by decide) (fun v1338 kv1338 => ?_)
  refine g_istore_n (l' := [(0, .ref 0), (1, .int v1338)]) rfl rfl ?_
  refine g_nop ?_
  have L1353 : ∀ (N : Nat) (v1339 : Int32) (H1340 : mzH), gI SM H1340 → JM H1340 → k0_2 = fZ H1340 0 2 → (∀ i, aZ H1340 2 i = aZ H 2 i) → (∀ i, aZ H1340 17 i = aZ H 17 i) → kpM H H1340 → (∀ i, aZ H1340 18 i = aZ H 18 i) → (∀ i, aZ H1340 7 i = aZ H 7 i) → (∀ i, aZ H1340 9 i = aZ H 9 i) → (∀ i, aZ H1340 12 i = aZ H 12 i) → (∀ i, aZ H1340 13 i = aZ H 13 i) → (∀ i, aZ H1340 14 i = aZ H 14 i) → (∀ i, aZ H1340 15 i = aZ H 15 i) → (∀ i, aZ H1340 16 i = aZ H 16 i) → (0 ≤ v1339.toInt ∧ v1339.toInt ≤ 60) → (fZ H1340 0 34).toInt ≤ v1339.toInt → pmA H1340 v1339.toInt (fZ H1340 0 34).toInt → odI H1340 H v1339.toInt.toNat → (v1339.toInt ≤ 0 ∨ v1339.toInt ≤ (aZ H 2 2).toInt) → (60 - v1339.toInt).toNat < N → gG 3 zB_183 (mzBlk zB_183 1) [(0, .ref 0), (1, .int v1339)] [] H1340 0 0 (gRv (fun H' => gI SM H' ∧ JM H' ∧ fZ H' 0 2 = fZ H 0 2 ∧ (∀ i, aZ H' 2 i = aZ H 2 i) ∧ (∀ i, aZ H' 17 i = aZ H 17 i) ∧ kpM H H' ∧ (∀ i, aZ H' 18 i = aZ H 18 i) ∧ (∀ i, aZ H' 7 i = aZ H 7 i) ∧ (∀ i, aZ H' 9 i = aZ H 9 i) ∧ (∀ i, aZ H' 12 i = aZ H 12 i) ∧ (∀ i, aZ H' 13 i = aZ H 13 i) ∧ (∀ i, aZ H' 14 i = aZ H 14 i) ∧ (∀ i, aZ H' 15 i = aZ H 15 i) ∧ (∀ i, aZ H' 16 i = aZ H 16 i) ∧ pmA H' (aZ H' 2 2).toInt 60 ∧ odI H' H (aZ H 2 2).toInt.toNat)) := by
    intro N
    induction N with
    | zero => intro v1339 H1340 hIH1340 hJH1340 e1341 m1342 m1343 m1344 m1345 m1346 m1347 m1348 m1349 m1350 m1351 m1352 bv1339 q1 q2 q5 q9 hmL1353; exact absurd hmL1353 (Nat.not_lt_zero _)
    | succ N ihL1353 =>
      intro v1339 H1340 hIH1340 hJH1340 e1341 m1342 m1343 m1344 m1345 m1346 m1347 m1348 m1349 m1350 m1351 m1352 bv1339 q1 q2 q5 q9 hmL1353
      obtain ⟨k1354, ek1354⟩ : ∃ z, z = fZ H1340 0 34 := ⟨_, rfl⟩
      have ik1354 : k1354.toInt = (fZ H1340 0 34).toInt := by rw [← ek1354]
      have bk1354 : 0 ≤ k1354.toInt ∧ k1354.toInt ≤ 60 := by rw [ek1354]; exact fZ_of hIH1340 sm_0 rfl
      have hq2 := congrArg Int32.toInt (m1342 2)
      refine g_iload_n rfl ?_
      refine g_aload_n rfl ?_
      refine g_invvi hIH1340 sm_0 rfl rfl rfl rfl (s_180 H1340 hIH1340 (JM_n hJH1340)) (fun v1357 H1355 r1356 => ?_)
      obtain ⟨rfl, bv1357, p1358⟩ := r1356
      refine g_if2_ge (fun c1359 => ?_) (fun c1359 => ?_)
      · exact g_ret ⟨rfl, hIH1340, hJH1340, (e1341.symm.trans ek0_2), m1342, m1343, m1344, m1345, m1346, m1347, m1348, m1349, m1350, m1351, m1352, (pmA_le q2 (by omega) (by omega)), (od_e q5 (by have hz := congrArg Int32.toInt (m1342 2); omega))⟩
      · refine g_aload_n rfl ?_
        refine g_gfr hIH1340 sm_0 rfl ?_
        refine g_iload_n rfl ?_
        refine g_baload hIH1340 sm_17 rfl (by omega) (fun v1360 ev1360 lv1360 uv1360 => ?_)
        have yv1360 : v1360.toInt = (aZ H 17 v1339.toInt.toNat).toInt := by rw [ev1360, m1343]
        refine g_if_ne (fun c1361 => ?_) (fun c1361 => ?_)
        · refine g_aload_n rfl ?_
          refine g_gfk hIH1340 sm_0 rfl ek1354 ?_
          refine g_istore_n (l' := [(0, .ref 0), (1, .int v1339), (2, .int k1354)]) rfl rfl ?_
          refine g_nop ?_
          have L1377 : ∀ (N : Nat) (v1362 : Int32) (H1363 : mzH), gI SM H1363 → JM H1363 → k0_2 = fZ H1363 0 2 → k1354 = fZ H1363 0 34 → (∀ i, aZ H1363 2 i = aZ H 2 i) → (∀ i, aZ H1363 17 i = aZ H 17 i) → kpM H H1363 → (∀ i, aZ H1363 18 i = aZ H 18 i) → (∀ i, aZ H1363 7 i = aZ H 7 i) → (∀ i, aZ H1363 9 i = aZ H 9 i) → (∀ i, aZ H1363 12 i = aZ H 12 i) → (∀ i, aZ H1363 13 i = aZ H 13 i) → (∀ i, aZ H1363 14 i = aZ H 14 i) → (∀ i, aZ H1363 15 i = aZ H 15 i) → (∀ i, aZ H1363 16 i = aZ H 16 i) → (0 ≤ v1362.toInt ∧ v1362.toInt ≤ 60) → pmB H1363 v1339.toInt k1354.toInt v1362.toInt → v1362.toInt ≤ k1354.toInt → inO (hoM H) (ord2 (inM H) (hoM H) v1339.toInt.toNat).2 v1339.toInt.toNat (ord2 (inM H) (hoM H) v1339.toInt.toNat).1 v1362.toInt.toNat (fun q => (aZ H1363 19 q).toInt) → (v1362.toInt - (0)).toNat < N → gG 3 zB_183 (mzBlk zB_183 3) [(0, .ref 0), (1, .int v1339), (2, .int v1362)] [] H1363 0 0 (gRv (fun H' => gI SM H' ∧ JM H' ∧ fZ H' 0 2 = fZ H 0 2 ∧ (∀ i, aZ H' 2 i = aZ H 2 i) ∧ (∀ i, aZ H' 17 i = aZ H 17 i) ∧ kpM H H' ∧ (∀ i, aZ H' 18 i = aZ H 18 i) ∧ (∀ i, aZ H' 7 i = aZ H 7 i) ∧ (∀ i, aZ H' 9 i = aZ H 9 i) ∧ (∀ i, aZ H' 12 i = aZ H 12 i) ∧ (∀ i, aZ H' 13 i = aZ H 13 i) ∧ (∀ i, aZ H' 14 i = aZ H 14 i) ∧ (∀ i, aZ H' 15 i = aZ H 15 i) ∧ (∀ i, aZ H' 16 i = aZ H 16 i) ∧ pmA H' (aZ H' 2 2).toInt 60 ∧ odI H' H (aZ H 2 2).toInt.toNat)) := by
            intro N
            induction N with
            | zero => intro v1362 H1363 hIH1363 hJH1363 e1364 e1365 m1366 m1367 m1368 m1369 m1370 m1371 m1372 m1373 m1374 m1375 m1376 bv1362 q3 q4 q7 hmL1377; exact absurd hmL1377 (Nat.not_lt_zero _)
            | succ N ihL1377 =>
              intro v1362 H1363 hIH1363 hJH1363 e1364 e1365 m1366 m1367 m1368 m1369 m1370 m1371 m1372 m1373 m1374 m1375 m1376 bv1362 q3 q4 q7 hmL1377
              refine g_iload_n rfl ?_
              refine g_if_le (fun c1378 => ?_) (fun c1378 => ?_)
              · refine g_aload_n rfl ?_
                refine g_gfr hIH1363 sm_0 rfl ?_
                refine g_iload_n rfl ?_
                refine g_iload_n rfl ?_
                refine g_iastore hIH1363 sm_19 (by omega) (by omega) (fun H1379 eH1379 hIH1379 => ?_)
                have hJH1379 : JM H1379 := JM_sA (by decide) eH1379 hJH1363
                have e1380 : k0_2 = fZ H1379 0 2 := by rw [eH1379, fZ_sA]; exact e1364
                have e1381 : k1354 = fZ H1379 0 34 := by rw [eH1379, fZ_sA]; exact e1365
                have m1382 : ∀ i, aZ H1379 2 i = aZ H 2 i := fun i => (by rw [eH1379, aZ_sA_nc (by omega)] : aZ H1379 2 i = aZ H1363 2 i).trans (m1366 i)
                have m1383 : ∀ i, aZ H1379 17 i = aZ H 17 i := fun i => (by rw [eH1379, aZ_sA_nc (by omega)] : aZ H1379 17 i = aZ H1363 17 i).trans (m1367 i)
                have m1384 : kpM H H1379 := kpM_A m1368 eH1379 (by omega)
                have m1385 : ∀ i, aZ H1379 18 i = aZ H 18 i := fun i => (by rw [eH1379, aZ_sA_nc (by omega)] : aZ H1379 18 i = aZ H1363 18 i).trans (m1369 i)
                have m1386 : ∀ i, aZ H1379 7 i = aZ H 7 i := fun i => (by rw [eH1379, aZ_sA_nc (by omega)] : aZ H1379 7 i = aZ H1363 7 i).trans (m1370 i)
                have m1387 : ∀ i, aZ H1379 9 i = aZ H 9 i := fun i => (by rw [eH1379, aZ_sA_nc (by omega)] : aZ H1379 9 i = aZ H1363 9 i).trans (m1371 i)
                have m1388 : ∀ i, aZ H1379 12 i = aZ H 12 i := fun i => (by rw [eH1379, aZ_sA_nc (by omega)] : aZ H1379 12 i = aZ H1363 12 i).trans (m1372 i)
                have m1389 : ∀ i, aZ H1379 13 i = aZ H 13 i := fun i => (by rw [eH1379, aZ_sA_nc (by omega)] : aZ H1379 13 i = aZ H1363 13 i).trans (m1373 i)
                have m1390 : ∀ i, aZ H1379 14 i = aZ H 14 i := fun i => (by rw [eH1379, aZ_sA_nc (by omega)] : aZ H1379 14 i = aZ H1363 14 i).trans (m1374 i)
                have m1391 : ∀ i, aZ H1379 15 i = aZ H 15 i := fun i => (by rw [eH1379, aZ_sA_nc (by omega)] : aZ H1379 15 i = aZ H1363 15 i).trans (m1375 i)
                have m1392 : ∀ i, aZ H1379 16 i = aZ H 16 i := fun i => (by rw [eH1379, aZ_sA_nc (by omega)] : aZ H1379 16 i = aZ H1363 16 i).trans (m1376 i)
                have ie1381 : k1354.toInt = (fZ H1379 0 34).toInt := by rw [← e1381]
                refine g_aload_n rfl ?_
                refine g_dup rfl ?_
                refine g_gfk hIH1379 sm_0 rfl e1381 ?_
                refine g_iconst (by decide) (fun v1393 kv1393 => ?_)
                refine g_iadd (by omega) (fun v1394 ev1394 => ?_)
                refine g_pfi hIH1379 sm_0 rfl (by omega) (fun H1395 eH1395 hIH1395 => ?_)
                have hJH1395 : JM H1395 := JM_sF eH1395 hJH1379
                have e1396 : k0_2 = fZ H1395 0 2 := by rw [eH1395, fZ_sF_ne (by decide)]; exact e1380
                have e1397 : v1394 = fZ H1395 0 34 := by rw [eH1395, fZ_sF_eq hIH1379 sm_0 rfl]
                have m1398 : ∀ i, aZ H1395 2 i = aZ H 2 i := fun i => (by rw [eH1395, aZ_sF] : aZ H1395 2 i = aZ H1379 2 i).trans (m1382 i)
                have m1399 : ∀ i, aZ H1395 17 i = aZ H 17 i := fun i => (by rw [eH1395, aZ_sF] : aZ H1395 17 i = aZ H1379 17 i).trans (m1383 i)
                have m1400 : kpM H H1395 := kpM_F m1384 eH1395 (by omega)
                have m1401 : ∀ i, aZ H1395 18 i = aZ H 18 i := fun i => (by rw [eH1395, aZ_sF] : aZ H1395 18 i = aZ H1379 18 i).trans (m1385 i)
                have m1402 : ∀ i, aZ H1395 7 i = aZ H 7 i := fun i => (by rw [eH1395, aZ_sF] : aZ H1395 7 i = aZ H1379 7 i).trans (m1386 i)
                have m1403 : ∀ i, aZ H1395 9 i = aZ H 9 i := fun i => (by rw [eH1395, aZ_sF] : aZ H1395 9 i = aZ H1379 9 i).trans (m1387 i)
                have m1404 : ∀ i, aZ H1395 12 i = aZ H 12 i := fun i => (by rw [eH1395, aZ_sF] : aZ H1395 12 i = aZ H1379 12 i).trans (m1388 i)
                have m1405 : ∀ i, aZ H1395 13 i = aZ H 13 i := fun i => (by rw [eH1395, aZ_sF] : aZ H1395 13 i = aZ H1379 13 i).trans (m1389 i)
                have m1406 : ∀ i, aZ H1395 14 i = aZ H 14 i := fun i => (by rw [eH1395, aZ_sF] : aZ H1395 14 i = aZ H1379 14 i).trans (m1390 i)
                have m1407 : ∀ i, aZ H1395 15 i = aZ H 15 i := fun i => (by rw [eH1395, aZ_sF] : aZ H1395 15 i = aZ H1379 15 i).trans (m1391 i)
                have m1408 : ∀ i, aZ H1395 16 i = aZ H 16 i := fun i => (by rw [eH1395, aZ_sF] : aZ H1395 16 i = aZ H1379 16 i).trans (m1392 i)
                have ie1397 : v1394.toInt = (fZ H1395 0 34).toInt := by rw [← e1397]
                refine g_nop ?_
                refine g_iinc (l' := (fun v1409 => [(0, .ref 0), (1, .int v1409), (2, .int v1362)])) rfl rfl (by decide) (by omega) (fun _ => rfl) (fun v1409 ev1409 => ?_)
                refine g_goto ?_
                refine gG_pick [0, 1] (l' := [(0, .ref 0), (1, .int v1409)]) rfl ?_
                exact ihL1353 v1409 H1395 hIH1395 hJH1395 e1396 m1398 m1399 m1400 m1401 m1402 m1403 m1404 m1405 m1406 m1407 m1408 (by omega) (by omega) (pmA_st hIH1363 (by omega) rfl eH1379 (fun a i => by rw [eH1395, aZ_sF]) q3 (by omega) (by omega)) (od_st (in_en hIH1363 sm_19 q7 eH1379 (by omega) (by omega) (Or.inl (by omega))) (by omega) (by show ¬ (aZ H 17 _).toInt = 0; omega) eH1395 (by have := q5.1; omega)) (by have hz := congrArg Int32.toInt (m1398 2); omega) (by omega)
              · refine g_aload_n rfl ?_
                refine g_gfr hIH1363 sm_0 rfl ?_
                refine g_aload_n rfl ?_
                refine g_gfr hIH1363 sm_0 rfl ?_
                refine g_iload_n rfl ?_
                refine g_iconst (by decide) (fun v1410 kv1410 => ?_)
                refine g_isub (by omega) (fun v1411 ev1411 => ?_)
                refine g_iaload hIH1363 sm_19 rfl (by omega) (fun v1412 ev1412 lv1412 uv1412 => ?_)
                have yv1412 : v1412.toInt = (aZ H1363 19 v1411.toInt.toNat).toInt := by rw [ev1412]
                refine g_iaload hIH1363 sm_18 rfl (by omega) (fun v1413 ev1413 lv1413 uv1413 => ?_)
                have yv1413 : v1413.toInt = (aZ H 18 v1412.toInt.toNat).toInt := by rw [ev1413, m1369]
                refine g_aload_n rfl ?_
                refine g_gfr hIH1363 sm_0 rfl ?_
                refine g_iload_n rfl ?_
                refine g_iaload hIH1363 sm_18 rfl (by omega) (fun v1414 ev1414 lv1414 uv1414 => ?_)
                have yv1414 : v1414.toInt = (aZ H 18 v1339.toInt.toNat).toInt := by rw [ev1414, m1369]
                refine g_if2_le (fun c1415 => ?_) (fun c1415 => ?_)
                · refine g_aload_n rfl ?_
                  refine g_gfr hIH1363 sm_0 rfl ?_
                  refine g_iload_n rfl ?_
                  refine g_iload_n rfl ?_
                  refine g_iastore hIH1363 sm_19 (by omega) (by omega) (fun H1416 eH1416 hIH1416 => ?_)
                  have hJH1416 : JM H1416 := JM_sA (by decide) eH1416 hJH1363
                  have e1417 : k0_2 = fZ H1416 0 2 := by rw [eH1416, fZ_sA]; exact e1364
                  have e1418 : k1354 = fZ H1416 0 34 := by rw [eH1416, fZ_sA]; exact e1365
                  have m1419 : ∀ i, aZ H1416 2 i = aZ H 2 i := fun i => (by rw [eH1416, aZ_sA_nc (by omega)] : aZ H1416 2 i = aZ H1363 2 i).trans (m1366 i)
                  have m1420 : ∀ i, aZ H1416 17 i = aZ H 17 i := fun i => (by rw [eH1416, aZ_sA_nc (by omega)] : aZ H1416 17 i = aZ H1363 17 i).trans (m1367 i)
                  have m1421 : kpM H H1416 := kpM_A m1368 eH1416 (by omega)
                  have m1422 : ∀ i, aZ H1416 18 i = aZ H 18 i := fun i => (by rw [eH1416, aZ_sA_nc (by omega)] : aZ H1416 18 i = aZ H1363 18 i).trans (m1369 i)
                  have m1423 : ∀ i, aZ H1416 7 i = aZ H 7 i := fun i => (by rw [eH1416, aZ_sA_nc (by omega)] : aZ H1416 7 i = aZ H1363 7 i).trans (m1370 i)
                  have m1424 : ∀ i, aZ H1416 9 i = aZ H 9 i := fun i => (by rw [eH1416, aZ_sA_nc (by omega)] : aZ H1416 9 i = aZ H1363 9 i).trans (m1371 i)
                  have m1425 : ∀ i, aZ H1416 12 i = aZ H 12 i := fun i => (by rw [eH1416, aZ_sA_nc (by omega)] : aZ H1416 12 i = aZ H1363 12 i).trans (m1372 i)
                  have m1426 : ∀ i, aZ H1416 13 i = aZ H 13 i := fun i => (by rw [eH1416, aZ_sA_nc (by omega)] : aZ H1416 13 i = aZ H1363 13 i).trans (m1373 i)
                  have m1427 : ∀ i, aZ H1416 14 i = aZ H 14 i := fun i => (by rw [eH1416, aZ_sA_nc (by omega)] : aZ H1416 14 i = aZ H1363 14 i).trans (m1374 i)
                  have m1428 : ∀ i, aZ H1416 15 i = aZ H 15 i := fun i => (by rw [eH1416, aZ_sA_nc (by omega)] : aZ H1416 15 i = aZ H1363 15 i).trans (m1375 i)
                  have m1429 : ∀ i, aZ H1416 16 i = aZ H 16 i := fun i => (by rw [eH1416, aZ_sA_nc (by omega)] : aZ H1416 16 i = aZ H1363 16 i).trans (m1376 i)
                  have ie1418 : k1354.toInt = (fZ H1416 0 34).toInt := by rw [← e1418]
                  refine g_aload_n rfl ?_
                  refine g_dup rfl ?_
                  refine g_gfk hIH1416 sm_0 rfl e1418 ?_
                  refine g_iconst (by decide) (fun v1430 kv1430 => ?_)
                  refine g_iadd (by omega) (fun v1431 ev1431 => ?_)
                  refine g_pfi hIH1416 sm_0 rfl (by omega) (fun H1432 eH1432 hIH1432 => ?_)
                  have hJH1432 : JM H1432 := JM_sF eH1432 hJH1416
                  have e1433 : k0_2 = fZ H1432 0 2 := by rw [eH1432, fZ_sF_ne (by decide)]; exact e1417
                  have e1434 : v1431 = fZ H1432 0 34 := by rw [eH1432, fZ_sF_eq hIH1416 sm_0 rfl]
                  have m1435 : ∀ i, aZ H1432 2 i = aZ H 2 i := fun i => (by rw [eH1432, aZ_sF] : aZ H1432 2 i = aZ H1416 2 i).trans (m1419 i)
                  have m1436 : ∀ i, aZ H1432 17 i = aZ H 17 i := fun i => (by rw [eH1432, aZ_sF] : aZ H1432 17 i = aZ H1416 17 i).trans (m1420 i)
                  have m1437 : kpM H H1432 := kpM_F m1421 eH1432 (by omega)
                  have m1438 : ∀ i, aZ H1432 18 i = aZ H 18 i := fun i => (by rw [eH1432, aZ_sF] : aZ H1432 18 i = aZ H1416 18 i).trans (m1422 i)
                  have m1439 : ∀ i, aZ H1432 7 i = aZ H 7 i := fun i => (by rw [eH1432, aZ_sF] : aZ H1432 7 i = aZ H1416 7 i).trans (m1423 i)
                  have m1440 : ∀ i, aZ H1432 9 i = aZ H 9 i := fun i => (by rw [eH1432, aZ_sF] : aZ H1432 9 i = aZ H1416 9 i).trans (m1424 i)
                  have m1441 : ∀ i, aZ H1432 12 i = aZ H 12 i := fun i => (by rw [eH1432, aZ_sF] : aZ H1432 12 i = aZ H1416 12 i).trans (m1425 i)
                  have m1442 : ∀ i, aZ H1432 13 i = aZ H 13 i := fun i => (by rw [eH1432, aZ_sF] : aZ H1432 13 i = aZ H1416 13 i).trans (m1426 i)
                  have m1443 : ∀ i, aZ H1432 14 i = aZ H 14 i := fun i => (by rw [eH1432, aZ_sF] : aZ H1432 14 i = aZ H1416 14 i).trans (m1427 i)
                  have m1444 : ∀ i, aZ H1432 15 i = aZ H 15 i := fun i => (by rw [eH1432, aZ_sF] : aZ H1432 15 i = aZ H1416 15 i).trans (m1428 i)
                  have m1445 : ∀ i, aZ H1432 16 i = aZ H 16 i := fun i => (by rw [eH1432, aZ_sF] : aZ H1432 16 i = aZ H1416 16 i).trans (m1429 i)
                  have ie1434 : v1431.toInt = (fZ H1432 0 34).toInt := by rw [← e1434]
                  refine g_nop ?_
                  refine g_iinc (l' := (fun v1446 => [(0, .ref 0), (1, .int v1446), (2, .int v1362)])) rfl rfl (by decide) (by omega) (fun _ => rfl) (fun v1446 ev1446 => ?_)
                  refine g_goto ?_
                  refine gG_pick [0, 1] (l' := [(0, .ref 0), (1, .int v1446)]) rfl ?_
                  exact ihL1353 v1446 H1432 hIH1432 hJH1432 e1433 m1435 m1436 m1437 m1438 m1439 m1440 m1441 m1442 m1443 m1444 m1445 (by omega) (by omega) (pmA_st hIH1363 (by omega) rfl eH1416 (fun a i => by rw [eH1432, aZ_sF]) q3 (by omega) (by omega)) (od_st (in_en hIH1363 sm_19 q7 eH1416 (by omega) (by omega) (Or.inr (by rw [orv_t q7 yv1412 (by omega) (by omega)]; show ¬ (aZ H 18 v1339.toInt.toNat).toInt < (aZ H 18 v1412.toInt.toNat).toInt; omega))) (by omega) (by show ¬ (aZ H 17 _).toInt = 0; omega) eH1432 (by have := q5.1; omega)) (by have hz := congrArg Int32.toInt (m1435 2); omega) (by omega)
                · refine g_aload_n rfl ?_
                  refine g_gfr hIH1363 sm_0 rfl ?_
                  refine g_iload_n rfl ?_
                  refine g_aload_n rfl ?_
                  refine g_gfr hIH1363 sm_0 rfl ?_
                  refine g_iload_n rfl ?_
                  refine g_iconst (by decide) (fun v1447 kv1447 => ?_)
                  refine g_isub (by omega) (fun v1448 ev1448 => ?_)
                  refine g_iaload hIH1363 sm_19 rfl (by omega) (fun v1449 ev1449 lv1449 uv1449 => ?_)
                  have yv1449 : v1449.toInt = (aZ H1363 19 v1448.toInt.toNat).toInt := by rw [ev1449]
                  refine g_iastore hIH1363 sm_19 (by omega) (by omega) (fun H1450 eH1450 hIH1450 => ?_)
                  have hJH1450 : JM H1450 := JM_sA (by decide) eH1450 hJH1363
                  have e1451 : k0_2 = fZ H1450 0 2 := by rw [eH1450, fZ_sA]; exact e1364
                  have e1452 : k1354 = fZ H1450 0 34 := by rw [eH1450, fZ_sA]; exact e1365
                  have m1453 : ∀ i, aZ H1450 2 i = aZ H 2 i := fun i => (by rw [eH1450, aZ_sA_nc (by omega)] : aZ H1450 2 i = aZ H1363 2 i).trans (m1366 i)
                  have m1454 : ∀ i, aZ H1450 17 i = aZ H 17 i := fun i => (by rw [eH1450, aZ_sA_nc (by omega)] : aZ H1450 17 i = aZ H1363 17 i).trans (m1367 i)
                  have m1455 : kpM H H1450 := kpM_A m1368 eH1450 (by omega)
                  have m1456 : ∀ i, aZ H1450 18 i = aZ H 18 i := fun i => (by rw [eH1450, aZ_sA_nc (by omega)] : aZ H1450 18 i = aZ H1363 18 i).trans (m1369 i)
                  have m1457 : ∀ i, aZ H1450 7 i = aZ H 7 i := fun i => (by rw [eH1450, aZ_sA_nc (by omega)] : aZ H1450 7 i = aZ H1363 7 i).trans (m1370 i)
                  have m1458 : ∀ i, aZ H1450 9 i = aZ H 9 i := fun i => (by rw [eH1450, aZ_sA_nc (by omega)] : aZ H1450 9 i = aZ H1363 9 i).trans (m1371 i)
                  have m1459 : ∀ i, aZ H1450 12 i = aZ H 12 i := fun i => (by rw [eH1450, aZ_sA_nc (by omega)] : aZ H1450 12 i = aZ H1363 12 i).trans (m1372 i)
                  have m1460 : ∀ i, aZ H1450 13 i = aZ H 13 i := fun i => (by rw [eH1450, aZ_sA_nc (by omega)] : aZ H1450 13 i = aZ H1363 13 i).trans (m1373 i)
                  have m1461 : ∀ i, aZ H1450 14 i = aZ H 14 i := fun i => (by rw [eH1450, aZ_sA_nc (by omega)] : aZ H1450 14 i = aZ H1363 14 i).trans (m1374 i)
                  have m1462 : ∀ i, aZ H1450 15 i = aZ H 15 i := fun i => (by rw [eH1450, aZ_sA_nc (by omega)] : aZ H1450 15 i = aZ H1363 15 i).trans (m1375 i)
                  have m1463 : ∀ i, aZ H1450 16 i = aZ H 16 i := fun i => (by rw [eH1450, aZ_sA_nc (by omega)] : aZ H1450 16 i = aZ H1363 16 i).trans (m1376 i)
                  have ie1452 : k1354.toInt = (fZ H1450 0 34).toInt := by rw [← e1452]
                  refine g_iinc (l' := (fun v1464 => [(0, .ref 0), (1, .int v1339), (2, .int v1464)])) rfl rfl (by decide) (by omega) (fun _ => rfl) (fun v1464 ev1464 => ?_)
                  refine g_goto ?_
                  exact ihL1377 v1464 H1450 hIH1450 hJH1450 e1451 e1452 m1453 m1454 m1455 m1456 m1457 m1458 m1459 m1460 m1461 m1462 m1463 (by omega) (pmB_sh hIH1363 (by omega) (by omega) ev1449 eH1450 q3 (by omega)) (by omega) (in_sp hIH1363 sm_19 q7 eH1450 (by omega) (by omega) (by rw [yv1449, show v1448.toInt.toNat = v1362.toInt.toNat - 1 by omega]) (by rw [orv_t q7 yv1412 (by omega) (by omega)]; show (aZ H 18 v1339.toInt.toNat).toInt < (aZ H 18 v1412.toInt.toNat).toInt; omega) (by omega)) (by omega)
          exact L1377 _ k1354 H1340 hIH1340 hJH1340 e1341 ek1354 m1342 m1343 m1344 m1345 m1346 m1347 m1348 m1349 m1350 m1351 m1352 (by omega) (pmB_0 (by rw [ek1354]; exact q2)) (by omega) (od_in q5 (by have hz := q5.1; rw [← ek1354] at hz; omega)) (Nat.lt_succ_self _)
        · refine g_goto ?_
          refine g_iinc (l' := (fun v1465 => [(0, .ref 0), (1, .int v1465)])) rfl rfl (by decide) (by omega) (fun _ => rfl) (fun v1465 ev1465 => ?_)
          refine g_goto ?_
          exact ihL1353 v1465 H1340 hIH1340 hJH1340 e1341 m1342 m1343 m1344 m1345 m1346 m1347 m1348 m1349 m1350 m1351 m1352 (by omega) (by omega) (pmA_skip q2 (by omega) (by omega) (by rw [← ev1360]; omega)) (od_sk q5 (by omega) (by rw [← yv1360]; omega)) (by have hz := congrArg Int32.toInt (m1342 2); omega) (by omega)
  exact L1353 _ v1338 H1324 hIH1324 hJH1324 e1325 m1327 m1328 m1329 m1330 m1331 m1332 m1333 m1334 m1335 m1336 m1337 (by omega) (by omega) (pmA_0 (by omega)) (od_0 (by omega) (by omega)) (by have hz := congrArg Int32.toInt (m1327 2); omega) (Nat.lt_succ_self _)
set_option maxRecDepth 4000 in
set_option maxHeartbeats 4000000 in
/-- M.clears -/
theorem r_184 (H : mzH) (hI : gI SM H) (hJ : JN H) : gCall 184 [.ref 0] H (gRv (fun H' => gI SM H' ∧ JM H' ∧ fZ H' 0 2 = fZ H 0 2 ∧ (∀ i, aZ H' 2 i = aZ H 2 i) ∧ (∀ i, aZ H' 17 i = aZ H 17 i) ∧ kpM H H' ∧ (∀ i, aZ H' 18 i = aZ H 18 i) ∧ pmA H' (aZ H' 2 2).toInt 60 ∧ clR (rgM H') (mdM H') ∧ odI H' H (aZ H 2 2).toInt.toNat)) := by
  obtain ⟨k0_2, ek0_2⟩ : ∃ z, z = fZ H 0 2 := ⟨_, rfl⟩
  have ik0_2 : k0_2.toInt = (fZ H 0 2).toInt := by rw [← ek0_2]
  have bk0_2 : 0 ≤ k0_2.toInt ∧ k0_2.toInt ≤ 900 := by rw [ek0_2]; exact fZ_of hI sm_0 rfl
  have mk2 : ∀ i, aZ H 2 i = aZ H 2 i := fun _ => rfl
  have mk17 : ∀ i, aZ H 17 i = aZ H 17 i := fun _ => rfl
  have mkfr : kpM H H := kpM_r
  have mk18 : ∀ i, aZ H 18 i = aZ H 18 i := fun _ => rfl
  have mk3 : ∀ i, aZ H 3 i = aZ H 3 i := fun _ => rfl
  refine gG_call [(0, .ref 0)] ⟨rfl, trivial⟩ ?_
  show gG 2 zB_184 (mzBlk zB_184 0) [(0, .ref 0)] [] H 0 0 _
  refine g_iconst (by decide) (fun v725 kv725 => ?_)
  refine g_istore_n (l' := [(0, .ref 0), (1, .int v725)]) rfl rfl ?_
  refine g_nop ?_
  have L734 : ∀ (N : Nat) (v726 : Int32) (H727 : mzH), gI SM H727 → k0_2 = fZ H727 0 2 → (∀ i, aZ H727 2 i = aZ H 2 i) → (∀ i, aZ H727 17 i = aZ H 17 i) → kpM H H727 → (∀ i, aZ H727 18 i = aZ H 18 i) → (∀ i, aZ H727 3 i = aZ H 3 i) → (0 ≤ v726.toInt ∧ v726.toInt ≤ 40) → (∀ q, q < v726.toInt.toNat → (aZ H727 9 q).toInt = -5) → (∀ q : Nat, q < v726.toInt.toNat → (aZ H727 7 q).toInt = 0) → (∀ q : Nat, q < v726.toInt.toNat → (aZ H727 9 q).toInt = -5) → (∀ q : Nat, q < v726.toInt.toNat → (aZ H727 12 q).toInt = -5) → (∀ q : Nat, q < v726.toInt.toNat → (aZ H727 13 q).toInt = 0) → (∀ q : Nat, q < v726.toInt.toNat → (aZ H727 14 q).toInt = 0) → (∀ q : Nat, q < v726.toInt.toNat → (aZ H727 15 q).toInt = 0) → (∀ q : Nat, q < v726.toInt.toNat → (aZ H727 16 q).toInt = 0) → (40 - v726.toInt).toNat < N → gG 2 zB_184 (mzBlk zB_184 1) [(0, .ref 0), (1, .int v726)] [] H727 0 0 (gRv (fun H' => gI SM H' ∧ JM H' ∧ fZ H' 0 2 = fZ H 0 2 ∧ (∀ i, aZ H' 2 i = aZ H 2 i) ∧ (∀ i, aZ H' 17 i = aZ H 17 i) ∧ kpM H H' ∧ (∀ i, aZ H' 18 i = aZ H 18 i) ∧ pmA H' (aZ H' 2 2).toInt 60 ∧ clR (rgM H') (mdM H') ∧ odI H' H (aZ H 2 2).toInt.toNat)) := by
    intro N
    induction N with
    | zero => intro v726 H727 hIH727 e728 m729 m730 m731 m732 m733 bv726 q1 q5_7 q5_9 q5_12 q5_13 q5_14 q5_15 q5_16 hmL734; exact absurd hmL734 (Nat.not_lt_zero _)
    | succ N ihL734 =>
      intro v726 H727 hIH727 e728 m729 m730 m731 m732 m733 bv726 q1 q5_7 q5_9 q5_12 q5_13 q5_14 q5_15 q5_16 hmL734
      refine g_iload_n rfl ?_
      refine g_bipush (by decide) (fun v735 kv735 => ?_)
      refine g_if2_ge (fun c736 => ?_) (fun c736 => ?_)
      · have hJ737 : JM H727 := JM_clr hJ (fun q hq => q1 q (by omega)) m729 m733
        refine g_aload_n rfl ?_
        refine g_invvv hIH727 sm_0 rfl rfl rfl rfl (r_183 H727 hIH727 hJ737) (fun H738 r739 => ?_)
        obtain ⟨hIH738, hJH738, w740, m741, m742, m743, m744, m745, m746, m747, m748, m749, m750, m751, p752, p753⟩ := r739
        have e754 : k0_2 = fZ H738 0 2 := e728.trans w740.symm
        have m755 : ∀ i, aZ H738 2 i = aZ H 2 i := fun i => (m741 i).trans (m729 i)
        have m756 : ∀ i, aZ H738 17 i = aZ H 17 i := fun i => (m742 i).trans (m730 i)
        have m757 : kpM H H738 := kpM_t m731 m743
        have m758 : ∀ i, aZ H738 18 i = aZ H 18 i := fun i => (m744 i).trans (m732 i)
        exact g_ret ⟨rfl, hIH738, hJH738, (e754.symm.trans ek0_2), m755, m756, m757, m758, p752, (fun n hn => ⟨by show (aZ H738 7 n).toInt = 0; rw [m745]; exact q5_7 n (by omega), by show (aZ H738 9 n).toInt = -5; rw [m746]; exact q5_9 n (by omega), by show (aZ H738 12 n).toInt = -5; rw [m747]; exact q5_12 n (by omega), by show (aZ H738 13 n).toInt = 0; rw [m748]; exact q5_13 n (by omega), by show (aZ H738 14 n).toInt = 0; rw [m749]; exact q5_14 n (by omega), by show (aZ H738 15 n).toInt = 0; rw [m750]; exact q5_15 n (by omega), by show (aZ H738 16 n).toInt = 0; rw [m751]; exact q5_16 n (by omega)⟩), (od_cg m730 m732 m729 p753)⟩
      · refine g_aload_n rfl ?_
        refine g_gfr hIH727 sm_0 rfl ?_
        refine g_iload_n rfl ?_
        refine g_iconst (by decide) (fun v759 kv759 => ?_)
        refine g_zastore hIH727 sm_7 (by omega) (by omega) (fun H760 eH760 hIH760 => ?_)
        have e761 : k0_2 = fZ H760 0 2 := by rw [eH760, fZ_sA]; exact e728
        have m762 : ∀ i, aZ H760 2 i = aZ H 2 i := fun i => (by rw [eH760, aZ_sA_nc (by omega)] : aZ H760 2 i = aZ H727 2 i).trans (m729 i)
        have m763 : ∀ i, aZ H760 17 i = aZ H 17 i := fun i => (by rw [eH760, aZ_sA_nc (by omega)] : aZ H760 17 i = aZ H727 17 i).trans (m730 i)
        have m764 : kpM H H760 := kpM_A m731 eH760 (by omega)
        have m765 : ∀ i, aZ H760 18 i = aZ H 18 i := fun i => (by rw [eH760, aZ_sA_nc (by omega)] : aZ H760 18 i = aZ H727 18 i).trans (m732 i)
        have m766 : ∀ i, aZ H760 3 i = aZ H 3 i := fun i => (by rw [eH760, aZ_sA_nc (by omega)] : aZ H760 3 i = aZ H727 3 i).trans (m733 i)
        refine g_aload_n rfl ?_
        refine g_gfr hIH760 sm_0 rfl ?_
        refine g_iload_n rfl ?_
        refine g_bipush (by decide) (fun v767 kv767 => ?_)
        refine g_iastore hIH760 sm_9 (by omega) (by omega) (fun H768 eH768 hIH768 => ?_)
        have e769 : k0_2 = fZ H768 0 2 := by rw [eH768, fZ_sA]; exact e761
        have m770 : ∀ i, aZ H768 2 i = aZ H 2 i := fun i => (by rw [eH768, aZ_sA_nc (by omega)] : aZ H768 2 i = aZ H760 2 i).trans (m762 i)
        have m771 : ∀ i, aZ H768 17 i = aZ H 17 i := fun i => (by rw [eH768, aZ_sA_nc (by omega)] : aZ H768 17 i = aZ H760 17 i).trans (m763 i)
        have m772 : kpM H H768 := kpM_A m764 eH768 (by omega)
        have m773 : ∀ i, aZ H768 18 i = aZ H 18 i := fun i => (by rw [eH768, aZ_sA_nc (by omega)] : aZ H768 18 i = aZ H760 18 i).trans (m765 i)
        have m774 : ∀ i, aZ H768 3 i = aZ H 3 i := fun i => (by rw [eH768, aZ_sA_nc (by omega)] : aZ H768 3 i = aZ H760 3 i).trans (m766 i)
        refine g_aload_n rfl ?_
        refine g_gfr hIH768 sm_0 rfl ?_
        refine g_iload_n rfl ?_
        refine g_bipush (by decide) (fun v775 kv775 => ?_)
        refine g_iastore hIH768 sm_12 (by omega) (gz_any _) (fun H776 eH776 hIH776 => ?_)
        have e777 : k0_2 = fZ H776 0 2 := by rw [eH776, fZ_sA]; exact e769
        have m778 : ∀ i, aZ H776 2 i = aZ H 2 i := fun i => (by rw [eH776, aZ_sA_nc (by omega)] : aZ H776 2 i = aZ H768 2 i).trans (m770 i)
        have m779 : ∀ i, aZ H776 17 i = aZ H 17 i := fun i => (by rw [eH776, aZ_sA_nc (by omega)] : aZ H776 17 i = aZ H768 17 i).trans (m771 i)
        have m780 : kpM H H776 := kpM_A m772 eH776 (by omega)
        have m781 : ∀ i, aZ H776 18 i = aZ H 18 i := fun i => (by rw [eH776, aZ_sA_nc (by omega)] : aZ H776 18 i = aZ H768 18 i).trans (m773 i)
        have m782 : ∀ i, aZ H776 3 i = aZ H 3 i := fun i => (by rw [eH776, aZ_sA_nc (by omega)] : aZ H776 3 i = aZ H768 3 i).trans (m774 i)
        refine g_aload_n rfl ?_
        refine g_gfr hIH776 sm_0 rfl ?_
        refine g_iload_n rfl ?_
        refine g_iconst (by decide) (fun v783 kv783 => ?_)
        refine g_zastore hIH776 sm_13 (by omega) (by omega) (fun H784 eH784 hIH784 => ?_)
        have e785 : k0_2 = fZ H784 0 2 := by rw [eH784, fZ_sA]; exact e777
        have m786 : ∀ i, aZ H784 2 i = aZ H 2 i := fun i => (by rw [eH784, aZ_sA_nc (by omega)] : aZ H784 2 i = aZ H776 2 i).trans (m778 i)
        have m787 : ∀ i, aZ H784 17 i = aZ H 17 i := fun i => (by rw [eH784, aZ_sA_nc (by omega)] : aZ H784 17 i = aZ H776 17 i).trans (m779 i)
        have m788 : kpM H H784 := kpM_A m780 eH784 (by omega)
        have m789 : ∀ i, aZ H784 18 i = aZ H 18 i := fun i => (by rw [eH784, aZ_sA_nc (by omega)] : aZ H784 18 i = aZ H776 18 i).trans (m781 i)
        have m790 : ∀ i, aZ H784 3 i = aZ H 3 i := fun i => (by rw [eH784, aZ_sA_nc (by omega)] : aZ H784 3 i = aZ H776 3 i).trans (m782 i)
        refine g_aload_n rfl ?_
        refine g_gfr hIH784 sm_0 rfl ?_
        refine g_iload_n rfl ?_
        refine g_iconst (by decide) (fun v791 kv791 => ?_)
        refine g_zastore hIH784 sm_14 (by omega) (by omega) (fun H792 eH792 hIH792 => ?_)
        have e793 : k0_2 = fZ H792 0 2 := by rw [eH792, fZ_sA]; exact e785
        have m794 : ∀ i, aZ H792 2 i = aZ H 2 i := fun i => (by rw [eH792, aZ_sA_nc (by omega)] : aZ H792 2 i = aZ H784 2 i).trans (m786 i)
        have m795 : ∀ i, aZ H792 17 i = aZ H 17 i := fun i => (by rw [eH792, aZ_sA_nc (by omega)] : aZ H792 17 i = aZ H784 17 i).trans (m787 i)
        have m796 : kpM H H792 := kpM_A m788 eH792 (by omega)
        have m797 : ∀ i, aZ H792 18 i = aZ H 18 i := fun i => (by rw [eH792, aZ_sA_nc (by omega)] : aZ H792 18 i = aZ H784 18 i).trans (m789 i)
        have m798 : ∀ i, aZ H792 3 i = aZ H 3 i := fun i => (by rw [eH792, aZ_sA_nc (by omega)] : aZ H792 3 i = aZ H784 3 i).trans (m790 i)
        refine g_aload_n rfl ?_
        refine g_gfr hIH792 sm_0 rfl ?_
        refine g_iload_n rfl ?_
        refine g_iconst (by decide) (fun v799 kv799 => ?_)
        refine g_zastore hIH792 sm_15 (by omega) (by omega) (fun H800 eH800 hIH800 => ?_)
        have e801 : k0_2 = fZ H800 0 2 := by rw [eH800, fZ_sA]; exact e793
        have m802 : ∀ i, aZ H800 2 i = aZ H 2 i := fun i => (by rw [eH800, aZ_sA_nc (by omega)] : aZ H800 2 i = aZ H792 2 i).trans (m794 i)
        have m803 : ∀ i, aZ H800 17 i = aZ H 17 i := fun i => (by rw [eH800, aZ_sA_nc (by omega)] : aZ H800 17 i = aZ H792 17 i).trans (m795 i)
        have m804 : kpM H H800 := kpM_A m796 eH800 (by omega)
        have m805 : ∀ i, aZ H800 18 i = aZ H 18 i := fun i => (by rw [eH800, aZ_sA_nc (by omega)] : aZ H800 18 i = aZ H792 18 i).trans (m797 i)
        have m806 : ∀ i, aZ H800 3 i = aZ H 3 i := fun i => (by rw [eH800, aZ_sA_nc (by omega)] : aZ H800 3 i = aZ H792 3 i).trans (m798 i)
        refine g_aload_n rfl ?_
        refine g_gfr hIH800 sm_0 rfl ?_
        refine g_iload_n rfl ?_
        refine g_iconst (by decide) (fun v807 kv807 => ?_)
        refine g_zastore hIH800 sm_16 (by omega) (by omega) (fun H808 eH808 hIH808 => ?_)
        have e809 : k0_2 = fZ H808 0 2 := by rw [eH808, fZ_sA]; exact e801
        have m810 : ∀ i, aZ H808 2 i = aZ H 2 i := fun i => (by rw [eH808, aZ_sA_nc (by omega)] : aZ H808 2 i = aZ H800 2 i).trans (m802 i)
        have m811 : ∀ i, aZ H808 17 i = aZ H 17 i := fun i => (by rw [eH808, aZ_sA_nc (by omega)] : aZ H808 17 i = aZ H800 17 i).trans (m803 i)
        have m812 : kpM H H808 := kpM_A m804 eH808 (by omega)
        have m813 : ∀ i, aZ H808 18 i = aZ H 18 i := fun i => (by rw [eH808, aZ_sA_nc (by omega)] : aZ H808 18 i = aZ H800 18 i).trans (m805 i)
        have m814 : ∀ i, aZ H808 3 i = aZ H 3 i := fun i => (by rw [eH808, aZ_sA_nc (by omega)] : aZ H808 3 i = aZ H800 3 i).trans (m806 i)
        refine g_iinc (l' := (fun v815 => [(0, .ref 0), (1, .int v815)])) rfl rfl (by decide) (by omega) (fun _ => rfl) (fun v815 ev815 => ?_)
        refine g_goto ?_
        exact ihL734 v815 H808 hIH808 e809 m810 m811 m812 m813 m814 (by omega) (fun q hq => by rw [eH808, aZ_sA_nc (by decide), eH800, aZ_sA_nc (by decide), eH792, aZ_sA_nc (by decide), eH784, aZ_sA_nc (by decide), eH776, aZ_sA_nc (by decide), eH768]; if e : v726.toInt.toNat = q then (subst e; rw [aZ_sA_eq hIH760 sm_9 (by omega)]; omega) else (rw [aZ_sA_ne e, eH760, aZ_sA_nc (by decide)]; exact q1 q (by omega))) (fun q hq => by rw [eH808, aZ_sA_nc (by decide), eH800, aZ_sA_nc (by decide), eH792, aZ_sA_nc (by decide), eH784, aZ_sA_nc (by decide), eH776, aZ_sA_nc (by decide), eH768, aZ_sA_nc (by decide), eH760]; if e : v726.toInt.toNat = q then (subst e; rw [aZ_sA_eq hIH727 sm_7 (by omega)]; omega) else (rw [aZ_sA_ne e]; exact q5_7 q (by omega))) (fun q hq => by rw [eH808, aZ_sA_nc (by decide), eH800, aZ_sA_nc (by decide), eH792, aZ_sA_nc (by decide), eH784, aZ_sA_nc (by decide), eH776, aZ_sA_nc (by decide), eH768]; if e : v726.toInt.toNat = q then (subst e; rw [aZ_sA_eq hIH760 sm_9 (by omega)]; omega) else (rw [aZ_sA_ne e, eH760, aZ_sA_nc (by decide)]; exact q5_9 q (by omega))) (fun q hq => by rw [eH808, aZ_sA_nc (by decide), eH800, aZ_sA_nc (by decide), eH792, aZ_sA_nc (by decide), eH784, aZ_sA_nc (by decide), eH776]; if e : v726.toInt.toNat = q then (subst e; rw [aZ_sA_eq hIH768 sm_12 (by omega)]; omega) else (rw [aZ_sA_ne e, eH768, aZ_sA_nc (by decide), eH760, aZ_sA_nc (by decide)]; exact q5_12 q (by omega))) (fun q hq => by rw [eH808, aZ_sA_nc (by decide), eH800, aZ_sA_nc (by decide), eH792, aZ_sA_nc (by decide), eH784]; if e : v726.toInt.toNat = q then (subst e; rw [aZ_sA_eq hIH776 sm_13 (by omega)]; omega) else (rw [aZ_sA_ne e, eH776, aZ_sA_nc (by decide), eH768, aZ_sA_nc (by decide), eH760, aZ_sA_nc (by decide)]; exact q5_13 q (by omega))) (fun q hq => by rw [eH808, aZ_sA_nc (by decide), eH800, aZ_sA_nc (by decide), eH792]; if e : v726.toInt.toNat = q then (subst e; rw [aZ_sA_eq hIH784 sm_14 (by omega)]; omega) else (rw [aZ_sA_ne e, eH784, aZ_sA_nc (by decide), eH776, aZ_sA_nc (by decide), eH768, aZ_sA_nc (by decide), eH760, aZ_sA_nc (by decide)]; exact q5_14 q (by omega))) (fun q hq => by rw [eH808, aZ_sA_nc (by decide), eH800]; if e : v726.toInt.toNat = q then (subst e; rw [aZ_sA_eq hIH792 sm_15 (by omega)]; omega) else (rw [aZ_sA_ne e, eH792, aZ_sA_nc (by decide), eH784, aZ_sA_nc (by decide), eH776, aZ_sA_nc (by decide), eH768, aZ_sA_nc (by decide), eH760, aZ_sA_nc (by decide)]; exact q5_15 q (by omega))) (fun q hq => by rw [eH808]; if e : v726.toInt.toNat = q then (subst e; rw [aZ_sA_eq hIH800 sm_16 (by omega)]; omega) else (rw [aZ_sA_ne e, eH800, aZ_sA_nc (by decide), eH792, aZ_sA_nc (by decide), eH784, aZ_sA_nc (by decide), eH776, aZ_sA_nc (by decide), eH768, aZ_sA_nc (by decide), eH760, aZ_sA_nc (by decide)]; exact q5_16 q (by omega))) (by omega)
  exact L734 _ v725 H hI ek0_2 mk2 mk17 mkfr mk18 mk3 (by omega) (fun q hq => absurd hq (by omega)) (fun q hq => absurd hq (by omega)) (fun q hq => absurd hq (by omega)) (fun q hq => absurd hq (by omega)) (fun q hq => absurd hq (by omega)) (fun q hq => absurd hq (by omega)) (fun q hq => absurd hq (by omega)) (fun q hq => absurd hq (by omega)) (Nat.lt_succ_self _)
set_option maxRecDepth 4000 in
set_option maxHeartbeats 4000000 in
/-- M.runs -/
theorem r_198 (a1 : Int32) (H : mzH) (hI : gI SM H) (hJ : JN H) (hp0 : gdM H) : gCall 198 [.ref 0, .int a1] H (gRv (fun H' => gI SM H' ∧ JM H' ∧ fZ H' 0 2 = fZ H 0 2 ∧ (∀ i, aZ H' 2 i = aZ H 2 i) ∧ (∀ i, aZ H' 17 i = aZ H 17 i) ∧ kpM H H' ∧ (∀ i, aZ H' 18 i = aZ H 18 i) ∧ pmA H' (aZ H' 2 2).toInt 60 ∧ (∃ G : mzH, clR (rgM G) (mdM G) ∧ ∃ p : Nat, rwX H' (fM H G p).1 (fM H G p).2 ∧ stM H a1.toInt p))) := by
  obtain ⟨k0_2, ek0_2⟩ : ∃ z, z = fZ H 0 2 := ⟨_, rfl⟩
  have ik0_2 : k0_2.toInt = (fZ H 0 2).toInt := by rw [← ek0_2]
  have bk0_2 : 0 ≤ k0_2.toInt ∧ k0_2.toInt ≤ 900 := by rw [ek0_2]; exact fZ_of hI sm_0 rfl
  have mk2 : ∀ i, aZ H 2 i = aZ H 2 i := fun _ => rfl
  have mk17 : ∀ i, aZ H 17 i = aZ H 17 i := fun _ => rfl
  have mkfr : kpM H H := kpM_r
  have mk18 : ∀ i, aZ H 18 i = aZ H 18 i := fun _ => rfl
  refine gG_call [(0, .ref 0), (1, .int a1)] ⟨rfl, rfl, trivial⟩ ?_
  show gG 3 zB_198 (mzBlk zB_198 0) [(0, .ref 0), (1, .int a1)] [] H 0 0 _
  refine g_aload_n rfl ?_
  refine g_invvv hI sm_0 rfl rfl rfl rfl (r_184 H hI hJ) (fun H443 r444 => ?_)
  obtain ⟨hIH443, hJH443, w445, m446, m447, m448, m449, p450, p451, p452⟩ := r444
  have e453 : k0_2 = fZ H443 0 2 := ek0_2.trans w445.symm
  have m454 : ∀ i, aZ H443 2 i = aZ H 2 i := fun i => (m446 i).trans (mk2 i)
  have m455 : ∀ i, aZ H443 17 i = aZ H 17 i := fun i => (m447 i).trans (mk17 i)
  have m456 : kpM H H443 := kpM_t mkfr m448
  have m457 : ∀ i, aZ H443 18 i = aZ H 18 i := fun i => (m449 i).trans (mk18 i)
  refine g_iconst (by decide) (fun v458 kv458 => ?_)
  refine g_istore_n (l' := [(0, .ref 0), (1, .int a1), (2, .int v458)]) rfl rfl ?_
  refine g_nop ?_
  have L466 : ∀ (N : Nat) (v459 : Int32) (H460 : mzH), gI SM H460 → JM H460 → k0_2 = fZ H460 0 2 → (∀ i, aZ H460 2 i = aZ H 2 i) → (∀ i, aZ H460 17 i = aZ H 17 i) → kpM H H460 → (∀ i, aZ H460 18 i = aZ H 18 i) → (0 ≤ v459.toInt ∧ v459.toInt ≤ 60) → pmA H460 (aZ H460 2 2).toInt 60 → rwX H460 (fM H H443 v459.toInt.toNat).1 (fM H H443 v459.toInt.toNat).2 → (∀ q : Nat, q < v459.toInt.toNat → hqM H q ≤ a1.toInt) → odI H460 H (aZ H 2 2).toInt.toNat → v459.toInt.toNat ≤ cnM H → (60 - v459.toInt).toNat < N → gG 3 zB_198 (mzBlk zB_198 1) [(0, .ref 0), (1, .int a1), (2, .int v459)] [] H460 0 0 (gRv (fun H' => gI SM H' ∧ JM H' ∧ fZ H' 0 2 = fZ H 0 2 ∧ (∀ i, aZ H' 2 i = aZ H 2 i) ∧ (∀ i, aZ H' 17 i = aZ H 17 i) ∧ kpM H H' ∧ (∀ i, aZ H' 18 i = aZ H 18 i) ∧ pmA H' (aZ H' 2 2).toInt 60 ∧ (∃ G : mzH, clR (rgM G) (mdM G) ∧ ∃ p : Nat, rwX H' (fM H G p).1 (fM H G p).2 ∧ stM H a1.toInt p))) := by
    intro N
    induction N with
    | zero => intro v459 H460 hIH460 hJH460 e461 m462 m463 m464 m465 bv459 q1 q5 q6 q7 q8 hmL466; exact absurd hmL466 (Nat.not_lt_zero _)
    | succ N ihL466 =>
      intro v459 H460 hIH460 hJH460 e461 m462 m463 m464 m465 bv459 q1 q5 q6 q7 q8 hmL466
      refine g_iload_n rfl ?_
      refine g_aload_n rfl ?_
      refine g_gfi hIH460 sm_0 rfl (fun v467 ev467 lv467 uv467 => ?_)
      have zv467 : v467.toInt = (cnM H : Int) := by rw [ev467]; exact od_n q7
      refine g_if2_ge (fun c468 => ?_) (fun c468 => ?_)
      · exact g_ret ⟨rfl, hIH460, hJH460, (e461.symm.trans ek0_2), m462, m463, m464, m465, q1, ⟨H443, p451, v459.toInt.toNat, q5, q8, q6, Or.inl (by omega)⟩⟩
      · refine g_aload_n rfl ?_
        refine g_gfr hIH460 sm_0 rfl ?_
        refine g_aload_n rfl ?_
        refine g_gfr hIH460 sm_0 rfl ?_
        refine g_iload_n rfl ?_
        refine g_iaload hIH460 sm_19 rfl (by omega) (fun v469 ev469 lv469 uv469 => ?_)
        have zv469 : v469.toInt.toNat = odM H v459.toInt.toNat := by rw [ev469]; exact od_g q7 (by omega)
        refine g_iaload hIH460 sm_18 rfl (by omega) (fun v470 ev470 lv470 uv470 => ?_)
        have yv470 : v470.toInt = (aZ H 18 v469.toInt.toNat).toInt := by rw [ev470, m465]
        refine g_iload_n rfl ?_
        refine g_if2_gt (fun c471 => ?_) (fun c471 => ?_)
        · exact g_ret ⟨rfl, hIH460, hJH460, (e461.symm.trans ek0_2), m462, m463, m464, m465, q1, ⟨H443, p451, v459.toInt.toNat, q5, q8, q6, Or.inr (by show _ < (aZ H 18 (odM H _)).toInt; rw [← zv469]; omega)⟩⟩
        · refine g_aload_n rfl ?_
          refine g_aload_n rfl ?_
          refine g_gfr hIH460 sm_0 rfl ?_
          refine g_iload_n rfl ?_
          refine g_ialoadk hIH460 sm_19 rfl (by omega) ev469 ?_
          refine g_invvv hIH460 sm_0 rfl rfl rfl rfl (r_192 v469 (by omega) H460 hIH460 hJH460 q5 ((hp0.2 H443 p451 v459.toInt.toNat (by omega)).1) ((hp0.2 H443 p451 v459.toInt.toNat (by omega)).2) (by rw [m465, zv469]; exact (hp0.1 v459.toInt.toNat (by omega))) (bt_of hIH460 q5)) (fun H472 r473 => ?_)
          obtain ⟨hIH472, hJH472, m474, m475, m476, m477, m478, m479, m480, m481, m482, m483, p484, p485, p486⟩ := r473
          have e487 : k0_2 = fZ H472 0 2 := e461.trans (m474 0 2).symm
          have m488 : ∀ i, aZ H472 2 i = aZ H 2 i := fun i => (m475 i).trans (m462 i)
          have m489 : ∀ i, aZ H472 17 i = aZ H 17 i := fun i => (m477 i).trans (m463 i)
          have m490 : kpM H H472 := kpM_t m464 m478
          have m491 : ∀ i, aZ H472 18 i = aZ H 18 i := fun i => (m479 i).trans (m465 i)
          refine g_iinc (l' := (fun v492 => [(0, .ref 0), (1, .int a1), (2, .int v492)])) rfl rfl (by decide) (by omega) (fun _ => rfl) (fun v492 ev492 => ?_)
          refine g_goto ?_
          exact ihL466 v492 H472 hIH472 hJH472 e487 m488 m489 m490 m491 (by omega) (by rw [m475 2]; exact pmA_cg m477 m476 q1) (fm_st m464 m465 m462 p484 zv469 (by omega) (by omega)) (hm_st q6 (by omega) (by show (aZ H 18 (odM H _)).toInt ≤ _; rw [← zv469]; omega)) (od_cg2 m476 (m474 0 34) q7) (by omega) (by omega)
  exact L466 _ v458 H443 hIH443 hJH443 e453 m454 m455 m456 m457 (by omega) p450 (by rw [kv458]; exact rw_rd) (fun q hq => by omega) p452 (by omega) (Nat.lt_succ_self _)
set_option maxRecDepth 4000 in
set_option maxHeartbeats 4000000 in
/-- M.runsTo -/
theorem r_200 (a1 : Int32) (H : mzH) (hI : gI SM H) (hJ : JN H) (hp0 : (∀ A, tkW H A → gdM A)) : gCall 200 [.ref 0, .int a1] H (gRv (fun H' => gI SM H' ∧ JM H' ∧ fZ H' 0 2 = fZ H 0 2 ∧ kpM H H' ∧ (∃ A : mzH, tkW H A ∧ ∃ G : mzH, clR (rgM G) (mdM G) ∧ ∃ p : Nat, rwX H' (fM A G p).1 (fM A G p).2 ∧ stM A a1.toInt p))) := by
  obtain ⟨k0_2, ek0_2⟩ : ∃ z, z = fZ H 0 2 := ⟨_, rfl⟩
  have ik0_2 : k0_2.toInt = (fZ H 0 2).toInt := by rw [← ek0_2]
  have bk0_2 : 0 ≤ k0_2.toInt ∧ k0_2.toInt ≤ 900 := by rw [ek0_2]; exact fZ_of hI sm_0 rfl
  have mkfr : kpM H H := kpM_r
  refine gG_call [(0, .ref 0), (1, .int a1)] ⟨rfl, rfl, trivial⟩ ?_
  show gG 2 zB_200 (mzBlk zB_200 0) [(0, .ref 0), (1, .int a1)] [] H 0 0 _
  refine g_aload_n rfl ?_
  refine g_invvv hI sm_0 rfl rfl rfl rfl (r_182 H hI hJ) (fun H81 r82 => ?_)
  obtain ⟨hIH81, hJH81, m83, m84, m85, p86, p87⟩ := r82
  have e88 : k0_2 = fZ H81 0 2 := ek0_2.trans (m83 0 2).symm
  have m89 : kpM H H81 := kpM_t mkfr m85
  refine g_aload_n rfl ?_
  refine g_iload_n rfl ?_
  refine g_invvv hIH81 sm_0 rfl rfl rfl rfl (r_198 a1 H81 hIH81 hJH81 (hp0 H81 ⟨m85, m84, p87⟩)) (fun H90 r91 => ?_)
  obtain ⟨hIH90, hJH90, w92, m93, m94, m95, m96, p97, p98⟩ := r91
  have e99 : k0_2 = fZ H90 0 2 := e88.trans w92.symm
  have m100 : kpM H H90 := kpM_t m89 m95
  exact g_ret ⟨rfl, hIH90, hJH90, (e99.symm.trans ek0_2), m100, ⟨H81, ⟨m85, m84, p87⟩, p98⟩⟩
