/-! THE REFERENCE RUNS -/
/-- those that are in, by hours: how many, which -/
def ord2 (I hr : Nat → Int) : Nat → Nat × (Nat → Nat)
  | 0 => (0, fun _ => 0)
  | k + 1 => if I k = 0 then ord2 I hr k else ((ord2 I hr k).1 + 1, isr (ord2 I hr k).2 k (ord2 I hr k).1 (posF hr (ord2 I hr k).2 k (ord2 I hr k).1))
/-! ORDERS -/
/-- by hours, of like ones by numbers -/
def kLt (hr : Nat → Int) (a b : Nat) : Prop := hr a < hr b ∨ (hr a = hr b ∧ a < b)
def srt (hr : Nat → Int) (n : Nat) (t : Nat → Nat) : Prop := ∀ i j, i < j → j < n → kLt hr (t i) (t j)
theorem pos_lt {hr : Nat → Int} {t : Nat → Nat} {k : Nat} : ∀ n q, posF hr t k n ≤ q → q < n → hr k < hr (t q)
  | 0, q, _, h => absurd h (Nat.not_lt_zero _)
  | n + 1, q, h1, h2 => by
    unfold posF at h1
    if c : hr k < hr (t n) then
      rw [if_pos c] at h1
      if e : q = n then rw [e]; exact c
      else exact pos_lt n q h1 (by omega)
    else
      rw [if_neg c] at h1
      omega
theorem pos_ge {hr : Nat → Int} {t : Nat → Nat} {k : Nat} : ∀ n, posF hr t k n = 0 ∨ ¬ hr k < hr (t (posF hr t k n - 1))
  | 0 => Or.inl rfl
  | n + 1 => by
    unfold posF
    if c : hr k < hr (t n) then rw [if_pos c]; exact pos_ge n
    else rw [if_neg c]; exact Or.inr c
theorem srt_isr {hr : Nat → Int} {t : Nat → Nat} {k n : Nat} (hs : srt hr n t) (hk : ∀ q, q < n → t q < k) : srt hr (n + 1) (isr t k n (posF hr t k n)) := by
  have pl := posF_le (hr := hr) (t := t) (k := k) n
  have p1 := pos_lt (hr := hr) (t := t) (k := k) n
  have p2 : ∀ q, q < posF hr t k n → hr (t q) ≤ hr k := fun q hq => by
    rcases pos_ge (hr := hr) (t := t) (k := k) n with z | z
    · omega
    · if e : q = posF hr t k n - 1 then rw [e]; omega
      else
        have := hs q (posF hr t k n - 1) (by omega) (by omega)
        unfold kLt at this
        omega
  generalize posF hr t k n = sp at *
  intro i j hij hj
  unfold isr
  if ci : i < sp then
    rw [if_pos ci]
    if cj : j < sp then rw [if_pos cj]; exact hs i j hij (by omega)
    else
      rw [if_neg cj]
      if dj : j = sp then
        rw [if_pos dj]
        have h1 := p2 i ci
        have h2 := hk i (by omega)
        unfold kLt
        omega
      else
        rw [if_neg dj, if_pos (by omega)]
        exact hs i (j - 1) (by omega) (by omega)
  else
    rw [if_neg ci, if_neg (show ¬ j < sp by omega), if_neg (show ¬ j = sp by omega), if_pos (show j ≤ n by omega)]
    if di : i = sp then
      rw [if_pos di]
      exact Or.inl (p1 (j - 1) (by omega) (by omega))
    else
      rw [if_neg di, if_pos (by omega)]
      exact hs (i - 1) (j - 1) (by omega) (by omega)
theorem isr_mem {t : Nat → Nat} {k n sp x : Nat} (hsp : sp ≤ n) : (∃ q, q < n + 1 ∧ isr t k n sp q = x) ↔ (x = k ∨ ∃ q, q < n ∧ t q = x) := by
  constructor
  · rintro ⟨q, hq, e⟩
    unfold isr at e
    if c : q < sp then rw [if_pos c] at e; exact Or.inr ⟨q, by omega, e⟩
    else
      rw [if_neg c] at e
      if d : q = sp then rw [if_pos d] at e; exact Or.inl e.symm
      else
        rw [if_neg d, if_pos (by omega)] at e
        exact Or.inr ⟨q - 1, by omega, e⟩
  · rintro (e | ⟨q, hq, e⟩)
    · refine ⟨sp, by omega, ?_⟩
      unfold isr
      rw [if_neg (Nat.lt_irrefl _), if_pos rfl, e]
    · if c : q < sp then
        refine ⟨q, by omega, ?_⟩
        unfold isr
        rw [if_pos c, e]
      else
        refine ⟨q + 1, by omega, ?_⟩
        unfold isr
        rw [if_neg (by omega), if_neg (by omega), if_pos (by omega), Nat.add_sub_cancel, e]
/-- the order of those that are in -/
theorem ord2_ok {I hr : Nat → Int} : ∀ n, srt hr (ord2 I hr n).1 (ord2 I hr n).2 ∧ ∀ x, (∃ q, q < (ord2 I hr n).1 ∧ (ord2 I hr n).2 q = x) ↔ (x < n ∧ I x ≠ 0)
  | 0 => ⟨fun i j _ h => absurd h (Nat.not_lt_zero _), fun x => ⟨fun ⟨q, h, _⟩ => absurd h (Nat.not_lt_zero _), fun h => absurd h.1 (Nat.not_lt_zero _)⟩⟩
  | n + 1 => by
    obtain ⟨h1, h2⟩ := ord2_ok (I := I) (hr := hr) n
    unfold ord2
    if c : I n = 0 then
      rw [if_pos c]
      refine ⟨h1, fun x => ?_⟩
      rw [h2 x]
      refine ⟨fun z => ⟨by omega, z.2⟩, fun z => ⟨?_, z.2⟩⟩
      if e : x = n then rw [e] at z; exact absurd c z.2
      else omega
    else
      rw [if_neg c]
      refine ⟨srt_isr h1 (fun q hq => ((h2 _).mp ⟨q, hq, rfl⟩).1), fun x => ?_⟩
      show (∃ q, q < (ord2 I hr n).1 + 1 ∧ isr (ord2 I hr n).2 n (ord2 I hr n).1 _ q = x) ↔ _
      rw [isr_mem (posF_le _), h2 x]
      refine ⟨fun z => ?_, fun z => ?_⟩
      · rcases z with z | z
        · rw [z]; exact ⟨by omega, c⟩
        · exact ⟨by omega, z.2⟩
      · if e : x = n then exact Or.inl e
        else exact Or.inr ⟨by omega, z.2⟩
def inM (H : mzH) : Nat → Int := fun k => (aZ H 17 k).toInt
def hoM (H : mzH) : Nat → Int := fun k => (aZ H 18 k).toInt
def odI (G H : mzH) (k : Nat) : Prop := (fZ G 0 34).toInt = ((ord2 (inM H) (hoM H) k).1 : Int) ∧ ∀ q, q < (ord2 (inM H) (hoM H) k).1 → (aZ G 19 q).toInt = ((ord2 (inM H) (hoM H) k).2 q : Int)
theorem od_0 {G H : mzH} {k : Nat} (e : k = 0) (f : (fZ G 0 34).toInt = 0) : odI G H k := by
  subst e
  exact ⟨f, fun q hq => absurd hq (Nat.not_lt_zero _)⟩
theorem od_sk {G H : mzH} {k k2 : Nat} (q : odI G H k) (e : k2 = k + 1) (h : (aZ H 17 k).toInt = 0) : odI G H k2 := by
  subst e
  unfold odI ord2
  rw [if_pos (show inM H k = 0 from h)]
  exact q
theorem od_e {G H : mzH} {k k2 : Nat} (q : odI G H k) (e : k = k2) : odI G H k2 := e ▸ q
theorem od_in {G H : mzH} {k sp : Nat} (q : odI G H k) (e : sp = (ord2 (inM H) (hoM H) k).1) : inO (hoM H) (ord2 (inM H) (hoM H) k).2 k (ord2 (inM H) (hoM H) k).1 sp (fun q => (aZ G 19 q).toInt) := by
  subst e
  exact in_00 q.2
theorem orv_t {G : mzH} {hr : Nat → Int} {t : Nat → Nat} {k n c : Nat} {sp j v : Int32} (q : inO hr t k n sp.toInt.toNat (fun q => (aZ G c q).toInt)) (y : v.toInt = (aZ G c j.toInt.toNat).toInt) (ej : j.toInt = sp.toInt - 1) (h0 : 0 < sp.toInt) : t (sp.toInt.toNat - 1) = v.toInt.toNat := by
  have := q.2.1 (sp.toInt.toNat - 1) (by omega)
  have e : j.toInt.toNat = sp.toInt.toNat - 1 := by omega
  rw [e] at y
  have : v.toInt = (t (sp.toInt.toNat - 1) : Int) := y.trans this
  omega
theorem od_st {H B C : mzH} {k k2 : Nat} {v : Int32} (g : ∀ x, x < (ord2 (inM H) (hoM H) k).1 + 1 → (aZ B 19 x).toInt = (isr (ord2 (inM H) (hoM H) k).2 k (ord2 (inM H) (hoM H) k).1 (posF (hoM H) (ord2 (inM H) (hoM H) k).2 k (ord2 (inM H) (hoM H) k).1) x : Int)) (e : k2 = k + 1) (hn : ¬ (aZ H 17 k).toInt = 0) (eC : C = sF B 0 34 v) (hf : (fZ C 0 34).toInt = ((ord2 (inM H) (hoM H) k).1 : Int) + 1) : odI C H k2 := by
  subst e
  unfold odI ord2
  rw [if_neg (show ¬ inM H k = 0 from hn)]
  refine ⟨hf.trans (by omega), fun q hq => ?_⟩
  rw [eC, aZ_sF]
  exact g q hq
theorem od_cg {A B H : mzH} (h1 : ∀ i, aZ A 17 i = aZ H 17 i) (h2 : ∀ i, aZ A 18 i = aZ H 18 i) (h3 : ∀ i, aZ A 2 i = aZ H 2 i) (q : odI B A (aZ A 2 2).toInt.toNat) : odI B H (aZ H 2 2).toInt.toNat := by
  have e1 : inM A = inM H := by funext k; unfold inM; rw [h1]
  have e2 : hoM A = hoM H := by funext k; unfold hoM; rw [h2]
  unfold odI at q ⊢
  rw [e1, e2, h3] at q
  exact q
theorem od_cg2 {A B H : mzH} {k : Nat} (h1 : ∀ i, aZ B 19 i = aZ A 19 i) (h2 : fZ B 0 34 = fZ A 0 34) (q : odI A H k) : odI B H k := by
  refine ⟨by rw [h2]; exact q.1, fun x hx => by rw [h1]; exact q.2 x hx⟩
def rgM (H : mzH) : pS := psM (fun n => (aZ H 8 n).toInt) (fun n => (aZ H 9 n).toInt) (fun n => (aZ H 10 n).toInt) (fun n => (aZ H 11 n).toInt) (fun n => (aZ H 12 n).toInt) (fun n => (aZ H 13 n).toInt) (fun n => (aZ H 15 n).toInt) (fun n => (aZ H 16 n).toInt) (fun n => (aZ H 14 n).toInt)
def mdM (H : mzH) : Nat → Int := fun n => (aZ H 7 n).toInt
/-- nothing is made -/
def clR (r : pS) (m : Nat → Int) : Prop := ∀ n, n < 40 → m n = 0 ∧ r.ii n = -5 ∧ r.se n = -5 ∧ r.op n = 0 ∧ r.he n = 0 ∧ r.so n = 0 ∧ r.en n = 0
def fR (wy : Int → Int → Int) (U C : Int) (ro : Nat → Nat → Int) (od : Nat → Nat) (hr : Nat → Int) (r0 : pS) (m0 : Nat → Int) : Nat → pS × (Nat → Int)
  | 0 => (r0, m0)
  | p + 1 => (loS (fR wy U C ro od hr r0 m0 p).1 (fR wy U C ro od hr r0 m0 p).2 wy U C (ro (od p) 1) (ro (od p) 2).toNat (ro (od p) 3) (ro (od p) 4) (hr (od p)), loM (fR wy U C ro od hr r0 m0 p).1 (fR wy U C ro od hr r0 m0 p).2 wy U C (ro (od p) 1) (ro (od p) 2).toNat (ro (od p) 3) (hr (od p)))
def roM (H : mzH) : Nat → Nat → Int := fun k i => (aZ H 2 (69 + 5 * k + i)).toInt
def odM (H : mzH) : Nat → Nat := (ord2 (inM H) (hoM H) (aZ H 2 2).toInt.toNat).2
def cnM (H : mzH) : Nat := (ord2 (inM H) (hoM H) (aZ H 2 2).toInt.toNat).1
def fM (H G : mzH) : Nat → pS × (Nat → Int) := fR (wyM H) (aZ H 2 3).toInt (aZ H 2 4).toInt (roM H) (odM H) (hoM H) (rgM G) (mdM G)
def hqM (H : mzH) (q : Nat) : Int := hoM H (odM H q)
def stM (H : mzH) (h : Int) (p : Nat) : Prop := p ≤ cnM H ∧ (∀ q, q < p → hqM H q ≤ h) ∧ (p = cnM H ∨ h < hqM H p)
def gdM (H : mzH) : Prop := (∀ q : Nat, q < cnM H → (0 ≤ (aZ H 18 (odM H q)).toInt ∧ (aZ H 18 (odM H q)).toInt ≤ 999)) ∧ ∀ G, clR (rgM G) (mdM G) → ∀ q : Nat, q ≤ cnM H → dpt (fM H G q).1 ∧ laT (fM H G q).1 (fM H G q).2
/-- all messages are in, told for their hours -/
def tkW (H A : mzH) : Prop := kpM H A ∧ (∀ i, aZ A 2 i = aZ H 2 i) ∧ ∀ q : Nat, (q : Int) < (aZ H 2 2).toInt → (aZ A 18 q).toInt = (aZ H 2 (69 + 5 * q)).toInt ∧ (aZ A 17 q).toInt = 1
theorem rw_rd {H : mzH} : rwX H (rgM H) (mdM H) := fun _ _ => ⟨rfl, rfl, rfl, rfl, rfl, rfl, rfl, rfl, rfl, rfl⟩
theorem bt_of {H : mzH} {s : pS} {md : Nat → Int} (hI : gI SM H) (h : rwX H s md) : bt1 s md := fun n hn => by
  rw [← (h n hn).2.1]
  exact (aZ_of hI sm_8 hn).1
theorem od_g {G H : mzH} {q : Nat} (h : odI G H (aZ H 2 2).toInt.toNat) (hq : q < cnM H) : (aZ G 19 q).toInt.toNat = odM H q := by
  have := h.2 q hq
  unfold odM
  omega
theorem od_n {G H : mzH} (h : odI G H (aZ H 2 2).toInt.toNat) : (fZ G 0 34).toInt = (cnM H : Int) := h.1
theorem wyM_kp {H A : mzH} (fr : kpM H A) : wyM A = wyM H := by
  funext a b
  unfold wyM
  rw [fr.1 6 (by decide)]
theorem fm_st {H A B G : mzH} {p k : Int32} {p2 : Nat} (fr : kpM H A) (f18 : ∀ i, aZ A 18 i = aZ H 18 i) (f2 : ∀ i, aZ A 2 i = aZ H 2 i) (P : rwX B (loS (fM H G p.toInt.toNat).1 (fM H G p.toInt.toNat).2 (wyM A) (aZ A 2 3).toInt (aZ A 2 4).toInt (aZ A 2 (69 + 5 * k.toInt + 1).toNat).toInt (aZ A 2 (69 + 5 * k.toInt + 2).toNat).toInt.toNat (aZ A 2 (69 + 5 * k.toInt + 3).toNat).toInt (aZ A 2 (69 + 5 * k.toInt + 4).toNat).toInt (aZ A 18 k.toInt.toNat).toInt) (loM (fM H G p.toInt.toNat).1 (fM H G p.toInt.toNat).2 (wyM A) (aZ A 2 3).toInt (aZ A 2 4).toInt (aZ A 2 (69 + 5 * k.toInt + 1).toNat).toInt (aZ A 2 (69 + 5 * k.toInt + 2).toNat).toInt.toNat (aZ A 2 (69 + 5 * k.toInt + 3).toNat).toInt (aZ A 18 k.toInt.toNat).toInt)) (yk : k.toInt.toNat = odM H p.toInt.toNat) (h0 : 0 ≤ k.toInt) (e : p2 = p.toInt.toNat + 1) : rwX B (fM H G p2).1 (fM H G p2).2 := by
  subst e
  rw [wyM_kp fr, f2, f2, f2, f2, f2, f2, f18, show (69 + 5 * k.toInt + 1).toNat = 69 + 5 * k.toInt.toNat + 1 by omega, show (69 + 5 * k.toInt + 2).toNat = 69 + 5 * k.toInt.toNat + 2 by omega, show (69 + 5 * k.toInt + 3).toNat = 69 + 5 * k.toInt.toNat + 3 by omega, show (69 + 5 * k.toInt + 4).toNat = 69 + 5 * k.toInt.toNat + 4 by omega, yk] at P
  exact P
theorem hm_st {H : mzH} {h : Int} {p p2 : Nat} (q2 : ∀ q : Nat, q < p → hqM H q ≤ h) (e : p2 = p + 1) (z : hqM H p ≤ h) : ∀ q : Nat, q < p2 → hqM H q ≤ h := fun q hq => by
  if c : q = p then rw [c]; exact z
  else exact q2 q (by omega)
/-- why a message is refused, at its spot -/
def rvM (H G : mzH) (q : Nat) : Int := rea (fM H G q).1 (fM H G q).2 (wyM H) (aZ H 2 3).toInt (aZ H 2 4).toInt (roM H (odM H q) 1) (roM H (odM H q) 2).toNat (roM H (odM H q) 3) (hoM H (odM H q))
theorem od_ne {H : mzH} {x p : Nat} (h : x < p) (hp : p < cnM H) : odM H x ≠ odM H p := fun e => by
  have k := (ord2_ok (I := inM H) (hr := hoM H) (aZ H 2 2).toInt.toNat).1 x p h hp
  have k : kLt (hoM H) (odM H x) (odM H p) := k
  rw [e] at k
  unfold kLt at k
  omega
theorem rv_st {H A B G : mzH} {p k : Int32} {p2 : Nat} (q : ∀ x : Nat, x < p.toInt.toNat → (aZ A 20 (odM H x)).toInt = rvM H G x) (fr : kpM H A) (f18 : ∀ i, aZ A 18 i = aZ H 18 i) (f2 : ∀ i, aZ A 2 i = aZ H 2 i) (P : (aZ B 20 k.toInt.toNat).toInt = rea (fM H G p.toInt.toNat).1 (fM H G p.toInt.toNat).2 (wyM A) (aZ A 2 3).toInt (aZ A 2 4).toInt (aZ A 2 (69 + 5 * k.toInt + 1).toNat).toInt (aZ A 2 (69 + 5 * k.toInt + 2).toNat).toInt.toNat (aZ A 2 (69 + 5 * k.toInt + 3).toNat).toInt (aZ A 18 k.toInt.toNat).toInt) (O : ∀ i, i ≠ k.toInt.toNat → aZ B 20 i = aZ A 20 i) (yk : k.toInt.toNat = odM H p.toInt.toNat) (h0 : 0 ≤ k.toInt) (hp : p.toInt.toNat < cnM H) (e : p2 = p.toInt.toNat + 1) : ∀ x : Nat, x < p2 → (aZ B 20 (odM H x)).toInt = rvM H G x := fun x hx => by
  if c : x = p.toInt.toNat then
    rw [wyM_kp fr, f2, f2, f2, f2, f2, f18, show (69 + 5 * k.toInt + 1).toNat = 69 + 5 * k.toInt.toNat + 1 by omega, show (69 + 5 * k.toInt + 2).toNat = 69 + 5 * k.toInt.toNat + 2 by omega, show (69 + 5 * k.toInt + 3).toNat = 69 + 5 * k.toInt.toNat + 3 by omega, yk] at P
    rw [c]
    exact P
  else
    rw [O _ (by rw [yk]; exact od_ne (by omega) hp)]
    exact q x (by omega)
set_option maxRecDepth 4000 in
set_option maxHeartbeats 4000000 in
/-- M.takesAll -/
theorem r_182 (H : mzH) (hI : gI SM H) (hJ : JN H) : gCall 182 [.ref 0] H (gRv (fun H' => gI SM H' ∧ JN H' ∧ (∀ a f, fZ H' a f = fZ H a f) ∧ (∀ i, aZ H' 2 i = aZ H 2 i) ∧ kpM H H' ∧ (∀ i, aZ H' 24 i = aZ H 24 i) ∧ (∀ q : Nat, (q : Int) < (aZ H' 2 2).toInt → ¬ (aZ H' 17 q).toInt = 0) ∧ (∀ q : Nat, (q : Int) < (aZ H 2 2).toInt → (aZ H' 18 q).toInt = (aZ H 2 (69 + 5 * q)).toInt ∧ (aZ H' 17 q).toInt = 1))) := by
  have mkF : ∀ a f, fZ H a f = fZ H a f := fun _ _ => rfl
  have mk2 : ∀ i, aZ H 2 i = aZ H 2 i := fun _ => rfl
  have mkfr : kpM H H := kpM_r
  have mk24 : ∀ i, aZ H 24 i = aZ H 24 i := fun _ => rfl
  refine gG_call [(0, .ref 0)] ⟨rfl, trivial⟩ ?_
  show gG 2 zB_182 (mzBlk zB_182 0) [(0, .ref 0)] [] H 0 0 _
  refine g_iconst (by decide) (fun v327 kv327 => ?_)
  refine g_istore_n (l' := [(0, .ref 0), (1, .int v327)]) rfl rfl ?_
  refine g_nop ?_
  have L334 : ∀ (N : Nat) (v328 : Int32) (H329 : mzH), gI SM H329 → JN H329 → (∀ a f, fZ H329 a f = fZ H a f) → (∀ i, aZ H329 2 i = aZ H 2 i) → kpM H H329 → (∀ i, aZ H329 24 i = aZ H 24 i) → (0 ≤ v328.toInt ∧ v328.toInt ≤ 60) → (∀ q : Nat, q < v328.toInt.toNat → ¬ (aZ H329 17 q).toInt = 0) → (∀ q : Nat, q < v328.toInt.toNat → (aZ H329 18 q).toInt = (aZ H 2 (69 + 5 * q)).toInt) → (∀ q : Nat, q < v328.toInt.toNat → (aZ H329 17 q).toInt = 1) → (60 - v328.toInt).toNat < N → gG 2 zB_182 (mzBlk zB_182 1) [(0, .ref 0), (1, .int v328)] [] H329 0 0 (gRv (fun H' => gI SM H' ∧ JN H' ∧ (∀ a f, fZ H' a f = fZ H a f) ∧ (∀ i, aZ H' 2 i = aZ H 2 i) ∧ kpM H H' ∧ (∀ i, aZ H' 24 i = aZ H 24 i) ∧ (∀ q : Nat, (q : Int) < (aZ H' 2 2).toInt → ¬ (aZ H' 17 q).toInt = 0) ∧ (∀ q : Nat, (q : Int) < (aZ H 2 2).toInt → (aZ H' 18 q).toInt = (aZ H 2 (69 + 5 * q)).toInt ∧ (aZ H' 17 q).toInt = 1))) := by
    intro N
    induction N with
    | zero => intro v328 H329 hIH329 hJH329 m330 m331 m332 m333 bv328 q1 q5 q6 hmL334; exact absurd hmL334 (Nat.not_lt_zero _)
    | succ N ihL334 =>
      intro v328 H329 hIH329 hJH329 m330 m331 m332 m333 bv328 q1 q5 q6 hmL334
      refine g_iload_n rfl ?_
      refine g_aload_n rfl ?_
      refine g_invvi hIH329 sm_0 rfl rfl rfl rfl (s_180 H329 hIH329 hJH329) (fun v337 H335 r336 => ?_)
      obtain ⟨rfl, bv337, p338⟩ := r336
      refine g_if2_ge (fun c339 => ?_) (fun c339 => ?_)
      · exact g_ret ⟨rfl, hIH329, hJH329, m330, m331, m332, m333, (fun q hq => q1 q (by omega)), (fun q hq => by have hz := congrArg Int32.toInt (m331 2); exact ⟨q5 q (by omega), q6 q (by omega)⟩)⟩
      · refine g_aload_n rfl ?_
        refine g_gfr hIH329 sm_0 rfl ?_
        refine g_iload_n rfl ?_
        refine g_iconst (by decide) (fun v340 kv340 => ?_)
        refine g_zastore hIH329 sm_17 (by omega) (by omega) (fun H341 eH341 hIH341 => ?_)
        have hJH341 : JN H341 := JN_sA (by decide) eH341 hJH329
        have m342 : ∀ a f, fZ H341 a f = fZ H a f := fun a f => (by rw [eH341, fZ_sA] : fZ H341 a f = fZ H329 a f).trans (m330 a f)
        have m343 : ∀ i, aZ H341 2 i = aZ H 2 i := fun i => (by rw [eH341, aZ_sA_nc (by omega)] : aZ H341 2 i = aZ H329 2 i).trans (m331 i)
        have m344 : kpM H H341 := kpM_A m332 eH341 (by omega)
        have m345 : ∀ i, aZ H341 24 i = aZ H 24 i := fun i => (by rw [eH341, aZ_sA_nc (by omega)] : aZ H341 24 i = aZ H329 24 i).trans (m333 i)
        refine g_aload_n rfl ?_
        refine g_gfr hIH341 sm_0 rfl ?_
        refine g_iload_n rfl ?_
        refine g_aload_n rfl ?_
        refine g_iload_n rfl ?_
        refine g_iconst (by decide) (fun v346 kv346 => ?_)
        refine g_invvi hIH341 sm_0 rfl rfl rfl rfl (s_181 v328 (by omega) v346 (by omega) H341 hIH341 hJH341) (fun v349 H347 r348 => ?_)
        obtain ⟨rfl, p350⟩ := r348
        have tv349 : v349.toInt = (aZ H341 2 (69 + 5 * v328.toInt + v346.toInt).toNat).toInt := by rw [p350]
        refine g_iastore hIH341 sm_18 (by omega) (gz_any _) (fun H351 eH351 hIH351 => ?_)
        have hJH351 : JN H351 := JN_sA (by decide) eH351 hJH341
        have m352 : ∀ a f, fZ H351 a f = fZ H a f := fun a f => (by rw [eH351, fZ_sA] : fZ H351 a f = fZ H341 a f).trans (m342 a f)
        have m353 : ∀ i, aZ H351 2 i = aZ H 2 i := fun i => (by rw [eH351, aZ_sA_nc (by omega)] : aZ H351 2 i = aZ H341 2 i).trans (m343 i)
        have m354 : kpM H H351 := kpM_A m344 eH351 (by omega)
        have m355 : ∀ i, aZ H351 24 i = aZ H 24 i := fun i => (by rw [eH351, aZ_sA_nc (by omega)] : aZ H351 24 i = aZ H341 24 i).trans (m345 i)
        refine g_iinc (l' := (fun v356 => [(0, .ref 0), (1, .int v356)])) rfl rfl (by decide) (by omega) (fun _ => rfl) (fun v356 ev356 => ?_)
        refine g_goto ?_
        exact ihL334 v356 H351 hIH351 hJH351 m352 m353 m354 m355 (by omega) (fun q hq => by rw [eH351, aZ_sA_nc (by decide), eH341]; if e : v328.toInt.toNat = q then (subst e; rw [aZ_sA_eq hIH329 sm_17 (by omega)]; omega) else (rw [aZ_sA_ne e]; exact q1 q (by omega))) (fun q hq => by rw [eH351]; if e : v328.toInt.toNat = q then (subst e; rw [aZ_sA_eq hIH341 sm_18 (by omega), tv349, kv346, m343, show (69 + 5 * v328.toInt + 0).toNat = 69 + 5 * v328.toInt.toNat by omega]) else (rw [aZ_sA_ne e, eH341, aZ_sA_nc (by decide)]; exact q5 q (by omega))) (fun q hq => by rw [eH351, aZ_sA_nc (by decide), eH341]; if e : v328.toInt.toNat = q then (subst e; rw [aZ_sA_eq hIH329 sm_17 (by omega), kv340]) else (rw [aZ_sA_ne e]; exact q6 q (by omega))) (by omega)
  exact L334 _ v327 H hI hJ mkF mk2 mkfr mk24 (by omega) (fun q hq => absurd hq (by omega)) (fun q hq => absurd hq (by omega)) (fun q hq => absurd hq (by omega)) (Nat.lt_succ_self _)
set_option maxRecDepth 4000 in
set_option maxHeartbeats 4000000 in
/-- M.sorts -/
theorem r_183 (H : mzH) (hI : gI SM H) (hJ : JM H) : gCall 183 [.ref 0] H (gRv (fun H' => gI SM H' ∧ JM H' ∧ fZ H' 0 2 = fZ H 0 2 ∧ fZ H' 0 0 = fZ H 0 0 ∧ fZ H' 0 41 = fZ H 0 41 ∧ fZ H' 0 42 = fZ H 0 42 ∧ fZ H' 0 43 = fZ H 0 43 ∧ (∀ i, aZ H' 2 i = aZ H 2 i) ∧ (∀ i, aZ H' 17 i = aZ H 17 i) ∧ kpM H H' ∧ (∀ i, aZ H' 18 i = aZ H 18 i) ∧ (∀ i, aZ H' 7 i = aZ H 7 i) ∧ (∀ i, aZ H' 9 i = aZ H 9 i) ∧ (∀ i, aZ H' 12 i = aZ H 12 i) ∧ (∀ i, aZ H' 13 i = aZ H 13 i) ∧ (∀ i, aZ H' 14 i = aZ H 14 i) ∧ (∀ i, aZ H' 15 i = aZ H 15 i) ∧ (∀ i, aZ H' 16 i = aZ H 16 i) ∧ (∀ i, aZ H' 24 i = aZ H 24 i) ∧ pmA H' (aZ H' 2 2).toInt 60 ∧ odI H' H (aZ H 2 2).toInt.toNat)) := by
  obtain ⟨k0_2, ek0_2⟩ : ∃ z, z = fZ H 0 2 := ⟨_, rfl⟩
  have ik0_2 : k0_2.toInt = (fZ H 0 2).toInt := by rw [← ek0_2]
  have bk0_2 : 0 ≤ k0_2.toInt ∧ k0_2.toInt ≤ 900 := by rw [ek0_2]; exact fZ_of hI sm_0 rfl
  obtain ⟨k0_0, ek0_0⟩ : ∃ z, z = fZ H 0 0 := ⟨_, rfl⟩
  have ik0_0 : k0_0.toInt = (fZ H 0 0).toInt := by rw [← ek0_0]
  obtain ⟨k0_41, ek0_41⟩ : ∃ z, z = fZ H 0 41 := ⟨_, rfl⟩
  have ik0_41 : k0_41.toInt = (fZ H 0 41).toInt := by rw [← ek0_41]
  obtain ⟨k0_42, ek0_42⟩ : ∃ z, z = fZ H 0 42 := ⟨_, rfl⟩
  have ik0_42 : k0_42.toInt = (fZ H 0 42).toInt := by rw [← ek0_42]
  obtain ⟨k0_43, ek0_43⟩ : ∃ z, z = fZ H 0 43 := ⟨_, rfl⟩
  have ik0_43 : k0_43.toInt = (fZ H 0 43).toInt := by rw [← ek0_43]
  have mk2 : ∀ i, aZ H 2 i = aZ H 2 i := fun _ => rfl
  have mk17 : ∀ i, aZ H 17 i = aZ H 17 i := fun _ => rfl
  have mkfr : kpM H H := kpM_r
  have mk18 : ∀ i, aZ H 18 i = aZ H 18 i := fun _ => rfl
  have mk7 : ∀ i, aZ H 7 i = aZ H 7 i := fun _ => rfl
  have mk9 : ∀ i, aZ H 9 i = aZ H 9 i := fun _ => rfl
  have mk12 : ∀ i, aZ H 12 i = aZ H 12 i := fun _ => rfl
  have mk13 : ∀ i, aZ H 13 i = aZ H 13 i := fun _ => rfl
  have mk14 : ∀ i, aZ H 14 i = aZ H 14 i := fun _ => rfl
  have mk15 : ∀ i, aZ H 15 i = aZ H 15 i := fun _ => rfl
  have mk16 : ∀ i, aZ H 16 i = aZ H 16 i := fun _ => rfl
  have mk24 : ∀ i, aZ H 24 i = aZ H 24 i := fun _ => rfl
  refine gG_call [(0, .ref 0)] ⟨rfl, trivial⟩ ?_
  show gG 3 zB_183 (mzBlk zB_183 0) [(0, .ref 0)] [] H 0 0 _
  refine g_aload_n rfl ?_
  refine g_iconst (by decide) (fun v1408 kv1408 => ?_)
  refine g_pfi hI sm_0 rfl (by omega) (fun H1409 eH1409 hIH1409 => ?_)
  have hJH1409 : JM H1409 := JM_sF eH1409 hJ
  have e1410 : k0_2 = fZ H1409 0 2 := by rw [eH1409, fZ_sF_ne (by decide)]; exact ek0_2
  have e1411 : k0_0 = fZ H1409 0 0 := by rw [eH1409, fZ_sF_ne (by decide)]; exact ek0_0
  have e1412 : k0_41 = fZ H1409 0 41 := by rw [eH1409, fZ_sF_ne (by decide)]; exact ek0_41
  have e1413 : k0_42 = fZ H1409 0 42 := by rw [eH1409, fZ_sF_ne (by decide)]; exact ek0_42
  have e1414 : k0_43 = fZ H1409 0 43 := by rw [eH1409, fZ_sF_ne (by decide)]; exact ek0_43
  have e1415 : v1408 = fZ H1409 0 34 := by rw [eH1409, fZ_sF_eq hI sm_0 rfl]
  have m1416 : ∀ i, aZ H1409 2 i = aZ H 2 i := fun i => (by rw [eH1409, aZ_sF] : aZ H1409 2 i = aZ H 2 i).trans (mk2 i)
  have m1417 : ∀ i, aZ H1409 17 i = aZ H 17 i := fun i => (by rw [eH1409, aZ_sF] : aZ H1409 17 i = aZ H 17 i).trans (mk17 i)
  have m1418 : kpM H H1409 := kpM_F mkfr eH1409 (by omega)
  have m1419 : ∀ i, aZ H1409 18 i = aZ H 18 i := fun i => (by rw [eH1409, aZ_sF] : aZ H1409 18 i = aZ H 18 i).trans (mk18 i)
  have m1420 : ∀ i, aZ H1409 7 i = aZ H 7 i := fun i => (by rw [eH1409, aZ_sF] : aZ H1409 7 i = aZ H 7 i).trans (mk7 i)
  have m1421 : ∀ i, aZ H1409 9 i = aZ H 9 i := fun i => (by rw [eH1409, aZ_sF] : aZ H1409 9 i = aZ H 9 i).trans (mk9 i)
  have m1422 : ∀ i, aZ H1409 12 i = aZ H 12 i := fun i => (by rw [eH1409, aZ_sF] : aZ H1409 12 i = aZ H 12 i).trans (mk12 i)
  have m1423 : ∀ i, aZ H1409 13 i = aZ H 13 i := fun i => (by rw [eH1409, aZ_sF] : aZ H1409 13 i = aZ H 13 i).trans (mk13 i)
  have m1424 : ∀ i, aZ H1409 14 i = aZ H 14 i := fun i => (by rw [eH1409, aZ_sF] : aZ H1409 14 i = aZ H 14 i).trans (mk14 i)
  have m1425 : ∀ i, aZ H1409 15 i = aZ H 15 i := fun i => (by rw [eH1409, aZ_sF] : aZ H1409 15 i = aZ H 15 i).trans (mk15 i)
  have m1426 : ∀ i, aZ H1409 16 i = aZ H 16 i := fun i => (by rw [eH1409, aZ_sF] : aZ H1409 16 i = aZ H 16 i).trans (mk16 i)
  have m1427 : ∀ i, aZ H1409 24 i = aZ H 24 i := fun i => (by rw [eH1409, aZ_sF] : aZ H1409 24 i = aZ H 24 i).trans (mk24 i)
  have ie1415 : v1408.toInt = (fZ H1409 0 34).toInt := by rw [← e1415]
  refine g_iconst (by decide) (fun v1428 kv1428 => ?_)
  refine g_istore_n (l' := [(0, .ref 0), (1, .int v1428)]) rfl rfl ?_
  refine g_nop ?_
  have L1448 : ∀ (N : Nat) (v1429 : Int32) (H1430 : mzH), gI SM H1430 → JM H1430 → k0_2 = fZ H1430 0 2 → k0_0 = fZ H1430 0 0 → k0_41 = fZ H1430 0 41 → k0_42 = fZ H1430 0 42 → k0_43 = fZ H1430 0 43 → (∀ i, aZ H1430 2 i = aZ H 2 i) → (∀ i, aZ H1430 17 i = aZ H 17 i) → kpM H H1430 → (∀ i, aZ H1430 18 i = aZ H 18 i) → (∀ i, aZ H1430 7 i = aZ H 7 i) → (∀ i, aZ H1430 9 i = aZ H 9 i) → (∀ i, aZ H1430 12 i = aZ H 12 i) → (∀ i, aZ H1430 13 i = aZ H 13 i) → (∀ i, aZ H1430 14 i = aZ H 14 i) → (∀ i, aZ H1430 15 i = aZ H 15 i) → (∀ i, aZ H1430 16 i = aZ H 16 i) → (∀ i, aZ H1430 24 i = aZ H 24 i) → (0 ≤ v1429.toInt ∧ v1429.toInt ≤ 60) → (fZ H1430 0 34).toInt ≤ v1429.toInt → pmA H1430 v1429.toInt (fZ H1430 0 34).toInt → odI H1430 H v1429.toInt.toNat → (v1429.toInt ≤ 0 ∨ v1429.toInt ≤ (aZ H 2 2).toInt) → (60 - v1429.toInt).toNat < N → gG 3 zB_183 (mzBlk zB_183 1) [(0, .ref 0), (1, .int v1429)] [] H1430 0 0 (gRv (fun H' => gI SM H' ∧ JM H' ∧ fZ H' 0 2 = fZ H 0 2 ∧ fZ H' 0 0 = fZ H 0 0 ∧ fZ H' 0 41 = fZ H 0 41 ∧ fZ H' 0 42 = fZ H 0 42 ∧ fZ H' 0 43 = fZ H 0 43 ∧ (∀ i, aZ H' 2 i = aZ H 2 i) ∧ (∀ i, aZ H' 17 i = aZ H 17 i) ∧ kpM H H' ∧ (∀ i, aZ H' 18 i = aZ H 18 i) ∧ (∀ i, aZ H' 7 i = aZ H 7 i) ∧ (∀ i, aZ H' 9 i = aZ H 9 i) ∧ (∀ i, aZ H' 12 i = aZ H 12 i) ∧ (∀ i, aZ H' 13 i = aZ H 13 i) ∧ (∀ i, aZ H' 14 i = aZ H 14 i) ∧ (∀ i, aZ H' 15 i = aZ H 15 i) ∧ (∀ i, aZ H' 16 i = aZ H 16 i) ∧ (∀ i, aZ H' 24 i = aZ H 24 i) ∧ pmA H' (aZ H' 2 2).toInt 60 ∧ odI H' H (aZ H 2 2).toInt.toNat)) := by
    intro N
    induction N with
    | zero => intro v1429 H1430 hIH1430 hJH1430 e1431 e1432 e1433 e1434 e1435 m1436 m1437 m1438 m1439 m1440 m1441 m1442 m1443 m1444 m1445 m1446 m1447 bv1429 q1 q2 q5 q9 hmL1448; exact absurd hmL1448 (Nat.not_lt_zero _)
    | succ N ihL1448 =>
      intro v1429 H1430 hIH1430 hJH1430 e1431 e1432 e1433 e1434 e1435 m1436 m1437 m1438 m1439 m1440 m1441 m1442 m1443 m1444 m1445 m1446 m1447 bv1429 q1 q2 q5 q9 hmL1448
      obtain ⟨k1449, ek1449⟩ : ∃ z, z = fZ H1430 0 34 := ⟨_, rfl⟩
      have ik1449 : k1449.toInt = (fZ H1430 0 34).toInt := by rw [← ek1449]
      have bk1449 : 0 ≤ k1449.toInt ∧ k1449.toInt ≤ 60 := by rw [ek1449]; exact fZ_of hIH1430 sm_0 rfl
      have hq2 := congrArg Int32.toInt (m1436 2)
      refine g_iload_n rfl ?_
      refine g_aload_n rfl ?_
      refine g_invvi hIH1430 sm_0 rfl rfl rfl rfl (s_180 H1430 hIH1430 (JM_n hJH1430)) (fun v1452 H1450 r1451 => ?_)
      obtain ⟨rfl, bv1452, p1453⟩ := r1451
      refine g_if2_ge (fun c1454 => ?_) (fun c1454 => ?_)
      · exact g_ret ⟨rfl, hIH1430, hJH1430, (e1431.symm.trans ek0_2), (e1432.symm.trans ek0_0), (e1433.symm.trans ek0_41), (e1434.symm.trans ek0_42), (e1435.symm.trans ek0_43), m1436, m1437, m1438, m1439, m1440, m1441, m1442, m1443, m1444, m1445, m1446, m1447, (pmA_le q2 (by omega) (by omega)), (od_e q5 (by have hz := congrArg Int32.toInt (m1436 2); omega))⟩
      · refine g_aload_n rfl ?_
        refine g_gfr hIH1430 sm_0 rfl ?_
        refine g_iload_n rfl ?_
        refine g_baload hIH1430 sm_17 rfl (by omega) (fun v1455 ev1455 lv1455 uv1455 => ?_)
        have yv1455 : v1455.toInt = (aZ H 17 v1429.toInt.toNat).toInt := by rw [ev1455, m1437]
        refine g_if_ne (fun c1456 => ?_) (fun c1456 => ?_)
        · refine g_aload_n rfl ?_
          refine g_gfk hIH1430 sm_0 rfl ek1449 ?_
          refine g_istore_n (l' := [(0, .ref 0), (1, .int v1429), (2, .int k1449)]) rfl rfl ?_
          refine g_nop ?_
          have L1477 : ∀ (N : Nat) (v1457 : Int32) (H1458 : mzH), gI SM H1458 → JM H1458 → k0_2 = fZ H1458 0 2 → k0_0 = fZ H1458 0 0 → k0_41 = fZ H1458 0 41 → k0_42 = fZ H1458 0 42 → k0_43 = fZ H1458 0 43 → k1449 = fZ H1458 0 34 → (∀ i, aZ H1458 2 i = aZ H 2 i) → (∀ i, aZ H1458 17 i = aZ H 17 i) → kpM H H1458 → (∀ i, aZ H1458 18 i = aZ H 18 i) → (∀ i, aZ H1458 7 i = aZ H 7 i) → (∀ i, aZ H1458 9 i = aZ H 9 i) → (∀ i, aZ H1458 12 i = aZ H 12 i) → (∀ i, aZ H1458 13 i = aZ H 13 i) → (∀ i, aZ H1458 14 i = aZ H 14 i) → (∀ i, aZ H1458 15 i = aZ H 15 i) → (∀ i, aZ H1458 16 i = aZ H 16 i) → (∀ i, aZ H1458 24 i = aZ H 24 i) → (0 ≤ v1457.toInt ∧ v1457.toInt ≤ 60) → pmB H1458 v1429.toInt k1449.toInt v1457.toInt → v1457.toInt ≤ k1449.toInt → inO (hoM H) (ord2 (inM H) (hoM H) v1429.toInt.toNat).2 v1429.toInt.toNat (ord2 (inM H) (hoM H) v1429.toInt.toNat).1 v1457.toInt.toNat (fun q => (aZ H1458 19 q).toInt) → (v1457.toInt - (0)).toNat < N → gG 3 zB_183 (mzBlk zB_183 3) [(0, .ref 0), (1, .int v1429), (2, .int v1457)] [] H1458 0 0 (gRv (fun H' => gI SM H' ∧ JM H' ∧ fZ H' 0 2 = fZ H 0 2 ∧ fZ H' 0 0 = fZ H 0 0 ∧ fZ H' 0 41 = fZ H 0 41 ∧ fZ H' 0 42 = fZ H 0 42 ∧ fZ H' 0 43 = fZ H 0 43 ∧ (∀ i, aZ H' 2 i = aZ H 2 i) ∧ (∀ i, aZ H' 17 i = aZ H 17 i) ∧ kpM H H' ∧ (∀ i, aZ H' 18 i = aZ H 18 i) ∧ (∀ i, aZ H' 7 i = aZ H 7 i) ∧ (∀ i, aZ H' 9 i = aZ H 9 i) ∧ (∀ i, aZ H' 12 i = aZ H 12 i) ∧ (∀ i, aZ H' 13 i = aZ H 13 i) ∧ (∀ i, aZ H' 14 i = aZ H 14 i) ∧ (∀ i, aZ H' 15 i = aZ H 15 i) ∧ (∀ i, aZ H' 16 i = aZ H 16 i) ∧ (∀ i, aZ H' 24 i = aZ H 24 i) ∧ pmA H' (aZ H' 2 2).toInt 60 ∧ odI H' H (aZ H 2 2).toInt.toNat)) := by
            intro N
            induction N with
            | zero => intro v1457 H1458 hIH1458 hJH1458 e1459 e1460 e1461 e1462 e1463 e1464 m1465 m1466 m1467 m1468 m1469 m1470 m1471 m1472 m1473 m1474 m1475 m1476 bv1457 q3 q4 q7 hmL1477; exact absurd hmL1477 (Nat.not_lt_zero _)
            | succ N ihL1477 =>
              intro v1457 H1458 hIH1458 hJH1458 e1459 e1460 e1461 e1462 e1463 e1464 m1465 m1466 m1467 m1468 m1469 m1470 m1471 m1472 m1473 m1474 m1475 m1476 bv1457 q3 q4 q7 hmL1477
              refine g_iload_n rfl ?_
              refine g_if_le (fun c1478 => ?_) (fun c1478 => ?_)
              · refine g_aload_n rfl ?_
                refine g_gfr hIH1458 sm_0 rfl ?_
                refine g_iload_n rfl ?_
                refine g_iload_n rfl ?_
                refine g_iastore hIH1458 sm_19 (by omega) (by omega) (fun H1479 eH1479 hIH1479 => ?_)
                have hJH1479 : JM H1479 := JM_sA (by decide) eH1479 hJH1458
                have e1480 : k0_2 = fZ H1479 0 2 := by rw [eH1479, fZ_sA]; exact e1459
                have e1481 : k0_0 = fZ H1479 0 0 := by rw [eH1479, fZ_sA]; exact e1460
                have e1482 : k0_41 = fZ H1479 0 41 := by rw [eH1479, fZ_sA]; exact e1461
                have e1483 : k0_42 = fZ H1479 0 42 := by rw [eH1479, fZ_sA]; exact e1462
                have e1484 : k0_43 = fZ H1479 0 43 := by rw [eH1479, fZ_sA]; exact e1463
                have e1485 : k1449 = fZ H1479 0 34 := by rw [eH1479, fZ_sA]; exact e1464
                have m1486 : ∀ i, aZ H1479 2 i = aZ H 2 i := fun i => (by rw [eH1479, aZ_sA_nc (by omega)] : aZ H1479 2 i = aZ H1458 2 i).trans (m1465 i)
                have m1487 : ∀ i, aZ H1479 17 i = aZ H 17 i := fun i => (by rw [eH1479, aZ_sA_nc (by omega)] : aZ H1479 17 i = aZ H1458 17 i).trans (m1466 i)
                have m1488 : kpM H H1479 := kpM_A m1467 eH1479 (by omega)
                have m1489 : ∀ i, aZ H1479 18 i = aZ H 18 i := fun i => (by rw [eH1479, aZ_sA_nc (by omega)] : aZ H1479 18 i = aZ H1458 18 i).trans (m1468 i)
                have m1490 : ∀ i, aZ H1479 7 i = aZ H 7 i := fun i => (by rw [eH1479, aZ_sA_nc (by omega)] : aZ H1479 7 i = aZ H1458 7 i).trans (m1469 i)
                have m1491 : ∀ i, aZ H1479 9 i = aZ H 9 i := fun i => (by rw [eH1479, aZ_sA_nc (by omega)] : aZ H1479 9 i = aZ H1458 9 i).trans (m1470 i)
                have m1492 : ∀ i, aZ H1479 12 i = aZ H 12 i := fun i => (by rw [eH1479, aZ_sA_nc (by omega)] : aZ H1479 12 i = aZ H1458 12 i).trans (m1471 i)
                have m1493 : ∀ i, aZ H1479 13 i = aZ H 13 i := fun i => (by rw [eH1479, aZ_sA_nc (by omega)] : aZ H1479 13 i = aZ H1458 13 i).trans (m1472 i)
                have m1494 : ∀ i, aZ H1479 14 i = aZ H 14 i := fun i => (by rw [eH1479, aZ_sA_nc (by omega)] : aZ H1479 14 i = aZ H1458 14 i).trans (m1473 i)
                have m1495 : ∀ i, aZ H1479 15 i = aZ H 15 i := fun i => (by rw [eH1479, aZ_sA_nc (by omega)] : aZ H1479 15 i = aZ H1458 15 i).trans (m1474 i)
                have m1496 : ∀ i, aZ H1479 16 i = aZ H 16 i := fun i => (by rw [eH1479, aZ_sA_nc (by omega)] : aZ H1479 16 i = aZ H1458 16 i).trans (m1475 i)
                have m1497 : ∀ i, aZ H1479 24 i = aZ H 24 i := fun i => (by rw [eH1479, aZ_sA_nc (by omega)] : aZ H1479 24 i = aZ H1458 24 i).trans (m1476 i)
                have ie1485 : k1449.toInt = (fZ H1479 0 34).toInt := by rw [← e1485]
                refine g_aload_n rfl ?_
                refine g_dup rfl ?_
                refine g_gfk hIH1479 sm_0 rfl e1485 ?_
                refine g_iconst (by decide) (fun v1498 kv1498 => ?_)
                refine g_iadd (by omega) (fun v1499 ev1499 => ?_)
                refine g_pfi hIH1479 sm_0 rfl (by omega) (fun H1500 eH1500 hIH1500 => ?_)
                have hJH1500 : JM H1500 := JM_sF eH1500 hJH1479
                have e1501 : k0_2 = fZ H1500 0 2 := by rw [eH1500, fZ_sF_ne (by decide)]; exact e1480
                have e1502 : k0_0 = fZ H1500 0 0 := by rw [eH1500, fZ_sF_ne (by decide)]; exact e1481
                have e1503 : k0_41 = fZ H1500 0 41 := by rw [eH1500, fZ_sF_ne (by decide)]; exact e1482
                have e1504 : k0_42 = fZ H1500 0 42 := by rw [eH1500, fZ_sF_ne (by decide)]; exact e1483
                have e1505 : k0_43 = fZ H1500 0 43 := by rw [eH1500, fZ_sF_ne (by decide)]; exact e1484
                have e1506 : v1499 = fZ H1500 0 34 := by rw [eH1500, fZ_sF_eq hIH1479 sm_0 rfl]
                have m1507 : ∀ i, aZ H1500 2 i = aZ H 2 i := fun i => (by rw [eH1500, aZ_sF] : aZ H1500 2 i = aZ H1479 2 i).trans (m1486 i)
                have m1508 : ∀ i, aZ H1500 17 i = aZ H 17 i := fun i => (by rw [eH1500, aZ_sF] : aZ H1500 17 i = aZ H1479 17 i).trans (m1487 i)
                have m1509 : kpM H H1500 := kpM_F m1488 eH1500 (by omega)
                have m1510 : ∀ i, aZ H1500 18 i = aZ H 18 i := fun i => (by rw [eH1500, aZ_sF] : aZ H1500 18 i = aZ H1479 18 i).trans (m1489 i)
                have m1511 : ∀ i, aZ H1500 7 i = aZ H 7 i := fun i => (by rw [eH1500, aZ_sF] : aZ H1500 7 i = aZ H1479 7 i).trans (m1490 i)
                have m1512 : ∀ i, aZ H1500 9 i = aZ H 9 i := fun i => (by rw [eH1500, aZ_sF] : aZ H1500 9 i = aZ H1479 9 i).trans (m1491 i)
                have m1513 : ∀ i, aZ H1500 12 i = aZ H 12 i := fun i => (by rw [eH1500, aZ_sF] : aZ H1500 12 i = aZ H1479 12 i).trans (m1492 i)
                have m1514 : ∀ i, aZ H1500 13 i = aZ H 13 i := fun i => (by rw [eH1500, aZ_sF] : aZ H1500 13 i = aZ H1479 13 i).trans (m1493 i)
                have m1515 : ∀ i, aZ H1500 14 i = aZ H 14 i := fun i => (by rw [eH1500, aZ_sF] : aZ H1500 14 i = aZ H1479 14 i).trans (m1494 i)
                have m1516 : ∀ i, aZ H1500 15 i = aZ H 15 i := fun i => (by rw [eH1500, aZ_sF] : aZ H1500 15 i = aZ H1479 15 i).trans (m1495 i)
                have m1517 : ∀ i, aZ H1500 16 i = aZ H 16 i := fun i => (by rw [eH1500, aZ_sF] : aZ H1500 16 i = aZ H1479 16 i).trans (m1496 i)
                have m1518 : ∀ i, aZ H1500 24 i = aZ H 24 i := fun i => (by rw [eH1500, aZ_sF] : aZ H1500 24 i = aZ H1479 24 i).trans (m1497 i)
                have ie1506 : v1499.toInt = (fZ H1500 0 34).toInt := by rw [← e1506]
                refine g_nop ?_
                refine g_iinc (l' := (fun v1519 => [(0, .ref 0), (1, .int v1519), (2, .int v1457)])) rfl rfl (by decide) (by omega) (fun _ => rfl) (fun v1519 ev1519 => ?_)
                refine g_goto ?_
                refine gG_pick [0, 1] (l' := [(0, .ref 0), (1, .int v1519)]) rfl ?_
                exact ihL1448 v1519 H1500 hIH1500 hJH1500 e1501 e1502 e1503 e1504 e1505 m1507 m1508 m1509 m1510 m1511 m1512 m1513 m1514 m1515 m1516 m1517 m1518 (by omega) (by omega) (pmA_st hIH1458 (by omega) rfl eH1479 (fun a i => by rw [eH1500, aZ_sF]) q3 (by omega) (by omega)) (od_st (in_en hIH1458 sm_19 q7 eH1479 (by omega) (by omega) (Or.inl (by omega))) (by omega) (by show ¬ (aZ H 17 _).toInt = 0; omega) eH1500 (by have := q5.1; omega)) (by have hz := congrArg Int32.toInt (m1507 2); omega) (by omega)
              · refine g_aload_n rfl ?_
                refine g_gfr hIH1458 sm_0 rfl ?_
                refine g_aload_n rfl ?_
                refine g_gfr hIH1458 sm_0 rfl ?_
                refine g_iload_n rfl ?_
                refine g_iconst (by decide) (fun v1520 kv1520 => ?_)
                refine g_isub (by omega) (fun v1521 ev1521 => ?_)
                refine g_iaload hIH1458 sm_19 rfl (by omega) (fun v1522 ev1522 lv1522 uv1522 => ?_)
                have yv1522 : v1522.toInt = (aZ H1458 19 v1521.toInt.toNat).toInt := by rw [ev1522]
                refine g_iaload hIH1458 sm_18 rfl (by omega) (fun v1523 ev1523 lv1523 uv1523 => ?_)
                have yv1523 : v1523.toInt = (aZ H 18 v1522.toInt.toNat).toInt := by rw [ev1523, m1468]
                refine g_aload_n rfl ?_
                refine g_gfr hIH1458 sm_0 rfl ?_
                refine g_iload_n rfl ?_
                refine g_iaload hIH1458 sm_18 rfl (by omega) (fun v1524 ev1524 lv1524 uv1524 => ?_)
                have yv1524 : v1524.toInt = (aZ H 18 v1429.toInt.toNat).toInt := by rw [ev1524, m1468]
                refine g_if2_le (fun c1525 => ?_) (fun c1525 => ?_)
                · refine g_aload_n rfl ?_
                  refine g_gfr hIH1458 sm_0 rfl ?_
                  refine g_iload_n rfl ?_
                  refine g_iload_n rfl ?_
                  refine g_iastore hIH1458 sm_19 (by omega) (by omega) (fun H1526 eH1526 hIH1526 => ?_)
                  have hJH1526 : JM H1526 := JM_sA (by decide) eH1526 hJH1458
                  have e1527 : k0_2 = fZ H1526 0 2 := by rw [eH1526, fZ_sA]; exact e1459
                  have e1528 : k0_0 = fZ H1526 0 0 := by rw [eH1526, fZ_sA]; exact e1460
                  have e1529 : k0_41 = fZ H1526 0 41 := by rw [eH1526, fZ_sA]; exact e1461
                  have e1530 : k0_42 = fZ H1526 0 42 := by rw [eH1526, fZ_sA]; exact e1462
                  have e1531 : k0_43 = fZ H1526 0 43 := by rw [eH1526, fZ_sA]; exact e1463
                  have e1532 : k1449 = fZ H1526 0 34 := by rw [eH1526, fZ_sA]; exact e1464
                  have m1533 : ∀ i, aZ H1526 2 i = aZ H 2 i := fun i => (by rw [eH1526, aZ_sA_nc (by omega)] : aZ H1526 2 i = aZ H1458 2 i).trans (m1465 i)
                  have m1534 : ∀ i, aZ H1526 17 i = aZ H 17 i := fun i => (by rw [eH1526, aZ_sA_nc (by omega)] : aZ H1526 17 i = aZ H1458 17 i).trans (m1466 i)
                  have m1535 : kpM H H1526 := kpM_A m1467 eH1526 (by omega)
                  have m1536 : ∀ i, aZ H1526 18 i = aZ H 18 i := fun i => (by rw [eH1526, aZ_sA_nc (by omega)] : aZ H1526 18 i = aZ H1458 18 i).trans (m1468 i)
                  have m1537 : ∀ i, aZ H1526 7 i = aZ H 7 i := fun i => (by rw [eH1526, aZ_sA_nc (by omega)] : aZ H1526 7 i = aZ H1458 7 i).trans (m1469 i)
                  have m1538 : ∀ i, aZ H1526 9 i = aZ H 9 i := fun i => (by rw [eH1526, aZ_sA_nc (by omega)] : aZ H1526 9 i = aZ H1458 9 i).trans (m1470 i)
                  have m1539 : ∀ i, aZ H1526 12 i = aZ H 12 i := fun i => (by rw [eH1526, aZ_sA_nc (by omega)] : aZ H1526 12 i = aZ H1458 12 i).trans (m1471 i)
                  have m1540 : ∀ i, aZ H1526 13 i = aZ H 13 i := fun i => (by rw [eH1526, aZ_sA_nc (by omega)] : aZ H1526 13 i = aZ H1458 13 i).trans (m1472 i)
                  have m1541 : ∀ i, aZ H1526 14 i = aZ H 14 i := fun i => (by rw [eH1526, aZ_sA_nc (by omega)] : aZ H1526 14 i = aZ H1458 14 i).trans (m1473 i)
                  have m1542 : ∀ i, aZ H1526 15 i = aZ H 15 i := fun i => (by rw [eH1526, aZ_sA_nc (by omega)] : aZ H1526 15 i = aZ H1458 15 i).trans (m1474 i)
                  have m1543 : ∀ i, aZ H1526 16 i = aZ H 16 i := fun i => (by rw [eH1526, aZ_sA_nc (by omega)] : aZ H1526 16 i = aZ H1458 16 i).trans (m1475 i)
                  have m1544 : ∀ i, aZ H1526 24 i = aZ H 24 i := fun i => (by rw [eH1526, aZ_sA_nc (by omega)] : aZ H1526 24 i = aZ H1458 24 i).trans (m1476 i)
                  have ie1532 : k1449.toInt = (fZ H1526 0 34).toInt := by rw [← e1532]
                  refine g_aload_n rfl ?_
                  refine g_dup rfl ?_
                  refine g_gfk hIH1526 sm_0 rfl e1532 ?_
                  refine g_iconst (by decide) (fun v1545 kv1545 => ?_)
                  refine g_iadd (by omega) (fun v1546 ev1546 => ?_)
                  refine g_pfi hIH1526 sm_0 rfl (by omega) (fun H1547 eH1547 hIH1547 => ?_)
                  have hJH1547 : JM H1547 := JM_sF eH1547 hJH1526
                  have e1548 : k0_2 = fZ H1547 0 2 := by rw [eH1547, fZ_sF_ne (by decide)]; exact e1527
                  have e1549 : k0_0 = fZ H1547 0 0 := by rw [eH1547, fZ_sF_ne (by decide)]; exact e1528
                  have e1550 : k0_41 = fZ H1547 0 41 := by rw [eH1547, fZ_sF_ne (by decide)]; exact e1529
                  have e1551 : k0_42 = fZ H1547 0 42 := by rw [eH1547, fZ_sF_ne (by decide)]; exact e1530
                  have e1552 : k0_43 = fZ H1547 0 43 := by rw [eH1547, fZ_sF_ne (by decide)]; exact e1531
                  have e1553 : v1546 = fZ H1547 0 34 := by rw [eH1547, fZ_sF_eq hIH1526 sm_0 rfl]
                  have m1554 : ∀ i, aZ H1547 2 i = aZ H 2 i := fun i => (by rw [eH1547, aZ_sF] : aZ H1547 2 i = aZ H1526 2 i).trans (m1533 i)
                  have m1555 : ∀ i, aZ H1547 17 i = aZ H 17 i := fun i => (by rw [eH1547, aZ_sF] : aZ H1547 17 i = aZ H1526 17 i).trans (m1534 i)
                  have m1556 : kpM H H1547 := kpM_F m1535 eH1547 (by omega)
                  have m1557 : ∀ i, aZ H1547 18 i = aZ H 18 i := fun i => (by rw [eH1547, aZ_sF] : aZ H1547 18 i = aZ H1526 18 i).trans (m1536 i)
                  have m1558 : ∀ i, aZ H1547 7 i = aZ H 7 i := fun i => (by rw [eH1547, aZ_sF] : aZ H1547 7 i = aZ H1526 7 i).trans (m1537 i)
                  have m1559 : ∀ i, aZ H1547 9 i = aZ H 9 i := fun i => (by rw [eH1547, aZ_sF] : aZ H1547 9 i = aZ H1526 9 i).trans (m1538 i)
                  have m1560 : ∀ i, aZ H1547 12 i = aZ H 12 i := fun i => (by rw [eH1547, aZ_sF] : aZ H1547 12 i = aZ H1526 12 i).trans (m1539 i)
                  have m1561 : ∀ i, aZ H1547 13 i = aZ H 13 i := fun i => (by rw [eH1547, aZ_sF] : aZ H1547 13 i = aZ H1526 13 i).trans (m1540 i)
                  have m1562 : ∀ i, aZ H1547 14 i = aZ H 14 i := fun i => (by rw [eH1547, aZ_sF] : aZ H1547 14 i = aZ H1526 14 i).trans (m1541 i)
                  have m1563 : ∀ i, aZ H1547 15 i = aZ H 15 i := fun i => (by rw [eH1547, aZ_sF] : aZ H1547 15 i = aZ H1526 15 i).trans (m1542 i)
                  have m1564 : ∀ i, aZ H1547 16 i = aZ H 16 i := fun i => (by rw [eH1547, aZ_sF] : aZ H1547 16 i = aZ H1526 16 i).trans (m1543 i)
                  have m1565 : ∀ i, aZ H1547 24 i = aZ H 24 i := fun i => (by rw [eH1547, aZ_sF] : aZ H1547 24 i = aZ H1526 24 i).trans (m1544 i)
                  have ie1553 : v1546.toInt = (fZ H1547 0 34).toInt := by rw [← e1553]
                  refine g_nop ?_
                  refine g_iinc (l' := (fun v1566 => [(0, .ref 0), (1, .int v1566), (2, .int v1457)])) rfl rfl (by decide) (by omega) (fun _ => rfl) (fun v1566 ev1566 => ?_)
                  refine g_goto ?_
                  refine gG_pick [0, 1] (l' := [(0, .ref 0), (1, .int v1566)]) rfl ?_
                  exact ihL1448 v1566 H1547 hIH1547 hJH1547 e1548 e1549 e1550 e1551 e1552 m1554 m1555 m1556 m1557 m1558 m1559 m1560 m1561 m1562 m1563 m1564 m1565 (by omega) (by omega) (pmA_st hIH1458 (by omega) rfl eH1526 (fun a i => by rw [eH1547, aZ_sF]) q3 (by omega) (by omega)) (od_st (in_en hIH1458 sm_19 q7 eH1526 (by omega) (by omega) (Or.inr (by rw [orv_t q7 yv1522 (by omega) (by omega)]; show ¬ (aZ H 18 v1429.toInt.toNat).toInt < (aZ H 18 v1522.toInt.toNat).toInt; omega))) (by omega) (by show ¬ (aZ H 17 _).toInt = 0; omega) eH1547 (by have := q5.1; omega)) (by have hz := congrArg Int32.toInt (m1554 2); omega) (by omega)
                · refine g_aload_n rfl ?_
                  refine g_gfr hIH1458 sm_0 rfl ?_
                  refine g_iload_n rfl ?_
                  refine g_aload_n rfl ?_
                  refine g_gfr hIH1458 sm_0 rfl ?_
                  refine g_iload_n rfl ?_
                  refine g_iconst (by decide) (fun v1567 kv1567 => ?_)
                  refine g_isub (by omega) (fun v1568 ev1568 => ?_)
                  refine g_iaload hIH1458 sm_19 rfl (by omega) (fun v1569 ev1569 lv1569 uv1569 => ?_)
                  have yv1569 : v1569.toInt = (aZ H1458 19 v1568.toInt.toNat).toInt := by rw [ev1569]
                  refine g_iastore hIH1458 sm_19 (by omega) (by omega) (fun H1570 eH1570 hIH1570 => ?_)
                  have hJH1570 : JM H1570 := JM_sA (by decide) eH1570 hJH1458
                  have e1571 : k0_2 = fZ H1570 0 2 := by rw [eH1570, fZ_sA]; exact e1459
                  have e1572 : k0_0 = fZ H1570 0 0 := by rw [eH1570, fZ_sA]; exact e1460
                  have e1573 : k0_41 = fZ H1570 0 41 := by rw [eH1570, fZ_sA]; exact e1461
                  have e1574 : k0_42 = fZ H1570 0 42 := by rw [eH1570, fZ_sA]; exact e1462
                  have e1575 : k0_43 = fZ H1570 0 43 := by rw [eH1570, fZ_sA]; exact e1463
                  have e1576 : k1449 = fZ H1570 0 34 := by rw [eH1570, fZ_sA]; exact e1464
                  have m1577 : ∀ i, aZ H1570 2 i = aZ H 2 i := fun i => (by rw [eH1570, aZ_sA_nc (by omega)] : aZ H1570 2 i = aZ H1458 2 i).trans (m1465 i)
                  have m1578 : ∀ i, aZ H1570 17 i = aZ H 17 i := fun i => (by rw [eH1570, aZ_sA_nc (by omega)] : aZ H1570 17 i = aZ H1458 17 i).trans (m1466 i)
                  have m1579 : kpM H H1570 := kpM_A m1467 eH1570 (by omega)
                  have m1580 : ∀ i, aZ H1570 18 i = aZ H 18 i := fun i => (by rw [eH1570, aZ_sA_nc (by omega)] : aZ H1570 18 i = aZ H1458 18 i).trans (m1468 i)
                  have m1581 : ∀ i, aZ H1570 7 i = aZ H 7 i := fun i => (by rw [eH1570, aZ_sA_nc (by omega)] : aZ H1570 7 i = aZ H1458 7 i).trans (m1469 i)
                  have m1582 : ∀ i, aZ H1570 9 i = aZ H 9 i := fun i => (by rw [eH1570, aZ_sA_nc (by omega)] : aZ H1570 9 i = aZ H1458 9 i).trans (m1470 i)
                  have m1583 : ∀ i, aZ H1570 12 i = aZ H 12 i := fun i => (by rw [eH1570, aZ_sA_nc (by omega)] : aZ H1570 12 i = aZ H1458 12 i).trans (m1471 i)
                  have m1584 : ∀ i, aZ H1570 13 i = aZ H 13 i := fun i => (by rw [eH1570, aZ_sA_nc (by omega)] : aZ H1570 13 i = aZ H1458 13 i).trans (m1472 i)
                  have m1585 : ∀ i, aZ H1570 14 i = aZ H 14 i := fun i => (by rw [eH1570, aZ_sA_nc (by omega)] : aZ H1570 14 i = aZ H1458 14 i).trans (m1473 i)
                  have m1586 : ∀ i, aZ H1570 15 i = aZ H 15 i := fun i => (by rw [eH1570, aZ_sA_nc (by omega)] : aZ H1570 15 i = aZ H1458 15 i).trans (m1474 i)
                  have m1587 : ∀ i, aZ H1570 16 i = aZ H 16 i := fun i => (by rw [eH1570, aZ_sA_nc (by omega)] : aZ H1570 16 i = aZ H1458 16 i).trans (m1475 i)
                  have m1588 : ∀ i, aZ H1570 24 i = aZ H 24 i := fun i => (by rw [eH1570, aZ_sA_nc (by omega)] : aZ H1570 24 i = aZ H1458 24 i).trans (m1476 i)
                  have ie1576 : k1449.toInt = (fZ H1570 0 34).toInt := by rw [← e1576]
                  refine g_iinc (l' := (fun v1589 => [(0, .ref 0), (1, .int v1429), (2, .int v1589)])) rfl rfl (by decide) (by omega) (fun _ => rfl) (fun v1589 ev1589 => ?_)
                  refine g_goto ?_
                  exact ihL1477 v1589 H1570 hIH1570 hJH1570 e1571 e1572 e1573 e1574 e1575 e1576 m1577 m1578 m1579 m1580 m1581 m1582 m1583 m1584 m1585 m1586 m1587 m1588 (by omega) (pmB_sh hIH1458 (by omega) (by omega) ev1569 eH1570 q3 (by omega)) (by omega) (in_sp hIH1458 sm_19 q7 eH1570 (by omega) (by omega) (by rw [yv1569, show v1568.toInt.toNat = v1457.toInt.toNat - 1 by omega]) (by rw [orv_t q7 yv1522 (by omega) (by omega)]; show (aZ H 18 v1429.toInt.toNat).toInt < (aZ H 18 v1522.toInt.toNat).toInt; omega) (by omega)) (by omega)
          exact L1477 _ k1449 H1430 hIH1430 hJH1430 e1431 e1432 e1433 e1434 e1435 ek1449 m1436 m1437 m1438 m1439 m1440 m1441 m1442 m1443 m1444 m1445 m1446 m1447 (by omega) (pmB_0 (by rw [ek1449]; exact q2)) (by omega) (od_in q5 (by have hz := q5.1; rw [← ek1449] at hz; omega)) (Nat.lt_succ_self _)
        · refine g_goto ?_
          refine g_iinc (l' := (fun v1590 => [(0, .ref 0), (1, .int v1590)])) rfl rfl (by decide) (by omega) (fun _ => rfl) (fun v1590 ev1590 => ?_)
          refine g_goto ?_
          exact ihL1448 v1590 H1430 hIH1430 hJH1430 e1431 e1432 e1433 e1434 e1435 m1436 m1437 m1438 m1439 m1440 m1441 m1442 m1443 m1444 m1445 m1446 m1447 (by omega) (by omega) (pmA_skip q2 (by omega) (by omega) (by rw [← ev1455]; omega)) (od_sk q5 (by omega) (by rw [← yv1455]; omega)) (by have hz := congrArg Int32.toInt (m1436 2); omega) (by omega)
  exact L1448 _ v1428 H1409 hIH1409 hJH1409 e1410 e1411 e1412 e1413 e1414 m1416 m1417 m1418 m1419 m1420 m1421 m1422 m1423 m1424 m1425 m1426 m1427 (by omega) (by omega) (pmA_0 (by omega)) (od_0 (by omega) (by omega)) (by have hz := congrArg Int32.toInt (m1416 2); omega) (Nat.lt_succ_self _)
set_option maxRecDepth 4000 in
set_option maxHeartbeats 4000000 in
/-- M.clears -/
theorem r_184 (H : mzH) (hI : gI SM H) (hJ : JN H) : gCall 184 [.ref 0] H (gRv (fun H' => gI SM H' ∧ JM H' ∧ fZ H' 0 2 = fZ H 0 2 ∧ fZ H' 0 0 = fZ H 0 0 ∧ fZ H' 0 41 = fZ H 0 41 ∧ fZ H' 0 42 = fZ H 0 42 ∧ fZ H' 0 43 = fZ H 0 43 ∧ (∀ i, aZ H' 2 i = aZ H 2 i) ∧ (∀ i, aZ H' 17 i = aZ H 17 i) ∧ kpM H H' ∧ (∀ i, aZ H' 18 i = aZ H 18 i) ∧ (∀ i, aZ H' 24 i = aZ H 24 i) ∧ pmA H' (aZ H' 2 2).toInt 60 ∧ clR (rgM H') (mdM H') ∧ odI H' H (aZ H 2 2).toInt.toNat)) := by
  obtain ⟨k0_2, ek0_2⟩ : ∃ z, z = fZ H 0 2 := ⟨_, rfl⟩
  have ik0_2 : k0_2.toInt = (fZ H 0 2).toInt := by rw [← ek0_2]
  have bk0_2 : 0 ≤ k0_2.toInt ∧ k0_2.toInt ≤ 900 := by rw [ek0_2]; exact fZ_of hI sm_0 rfl
  obtain ⟨k0_0, ek0_0⟩ : ∃ z, z = fZ H 0 0 := ⟨_, rfl⟩
  have ik0_0 : k0_0.toInt = (fZ H 0 0).toInt := by rw [← ek0_0]
  obtain ⟨k0_41, ek0_41⟩ : ∃ z, z = fZ H 0 41 := ⟨_, rfl⟩
  have ik0_41 : k0_41.toInt = (fZ H 0 41).toInt := by rw [← ek0_41]
  obtain ⟨k0_42, ek0_42⟩ : ∃ z, z = fZ H 0 42 := ⟨_, rfl⟩
  have ik0_42 : k0_42.toInt = (fZ H 0 42).toInt := by rw [← ek0_42]
  obtain ⟨k0_43, ek0_43⟩ : ∃ z, z = fZ H 0 43 := ⟨_, rfl⟩
  have ik0_43 : k0_43.toInt = (fZ H 0 43).toInt := by rw [← ek0_43]
  have mk2 : ∀ i, aZ H 2 i = aZ H 2 i := fun _ => rfl
  have mk17 : ∀ i, aZ H 17 i = aZ H 17 i := fun _ => rfl
  have mkfr : kpM H H := kpM_r
  have mk18 : ∀ i, aZ H 18 i = aZ H 18 i := fun _ => rfl
  have mk24 : ∀ i, aZ H 24 i = aZ H 24 i := fun _ => rfl
  have mk3 : ∀ i, aZ H 3 i = aZ H 3 i := fun _ => rfl
  refine gG_call [(0, .ref 0)] ⟨rfl, trivial⟩ ?_
  show gG 2 zB_184 (mzBlk zB_184 0) [(0, .ref 0)] [] H 0 0 _
  refine g_iconst (by decide) (fun v833 kv833 => ?_)
  refine g_istore_n (l' := [(0, .ref 0), (1, .int v833)]) rfl rfl ?_
  refine g_nop ?_
  have L847 : ∀ (N : Nat) (v834 : Int32) (H835 : mzH), gI SM H835 → k0_2 = fZ H835 0 2 → k0_0 = fZ H835 0 0 → k0_41 = fZ H835 0 41 → k0_42 = fZ H835 0 42 → k0_43 = fZ H835 0 43 → (∀ i, aZ H835 2 i = aZ H 2 i) → (∀ i, aZ H835 17 i = aZ H 17 i) → kpM H H835 → (∀ i, aZ H835 18 i = aZ H 18 i) → (∀ i, aZ H835 24 i = aZ H 24 i) → (∀ i, aZ H835 3 i = aZ H 3 i) → (0 ≤ v834.toInt ∧ v834.toInt ≤ 40) → (∀ q, q < v834.toInt.toNat → (aZ H835 9 q).toInt = -5) → (∀ q : Nat, q < v834.toInt.toNat → (aZ H835 7 q).toInt = 0) → (∀ q : Nat, q < v834.toInt.toNat → (aZ H835 9 q).toInt = -5) → (∀ q : Nat, q < v834.toInt.toNat → (aZ H835 12 q).toInt = -5) → (∀ q : Nat, q < v834.toInt.toNat → (aZ H835 13 q).toInt = 0) → (∀ q : Nat, q < v834.toInt.toNat → (aZ H835 14 q).toInt = 0) → (∀ q : Nat, q < v834.toInt.toNat → (aZ H835 15 q).toInt = 0) → (∀ q : Nat, q < v834.toInt.toNat → (aZ H835 16 q).toInt = 0) → (40 - v834.toInt).toNat < N → gG 2 zB_184 (mzBlk zB_184 1) [(0, .ref 0), (1, .int v834)] [] H835 0 0 (gRv (fun H' => gI SM H' ∧ JM H' ∧ fZ H' 0 2 = fZ H 0 2 ∧ fZ H' 0 0 = fZ H 0 0 ∧ fZ H' 0 41 = fZ H 0 41 ∧ fZ H' 0 42 = fZ H 0 42 ∧ fZ H' 0 43 = fZ H 0 43 ∧ (∀ i, aZ H' 2 i = aZ H 2 i) ∧ (∀ i, aZ H' 17 i = aZ H 17 i) ∧ kpM H H' ∧ (∀ i, aZ H' 18 i = aZ H 18 i) ∧ (∀ i, aZ H' 24 i = aZ H 24 i) ∧ pmA H' (aZ H' 2 2).toInt 60 ∧ clR (rgM H') (mdM H') ∧ odI H' H (aZ H 2 2).toInt.toNat)) := by
    intro N
    induction N with
    | zero => intro v834 H835 hIH835 e836 e837 e838 e839 e840 m841 m842 m843 m844 m845 m846 bv834 q1 q5_7 q5_9 q5_12 q5_13 q5_14 q5_15 q5_16 hmL847; exact absurd hmL847 (Nat.not_lt_zero _)
    | succ N ihL847 =>
      intro v834 H835 hIH835 e836 e837 e838 e839 e840 m841 m842 m843 m844 m845 m846 bv834 q1 q5_7 q5_9 q5_12 q5_13 q5_14 q5_15 q5_16 hmL847
      refine g_iload_n rfl ?_
      refine g_bipush (by decide) (fun v848 kv848 => ?_)
      refine g_if2_ge (fun c849 => ?_) (fun c849 => ?_)
      · have hJ850 : JM H835 := JM_clr hJ (fun q hq => q1 q (by omega)) m841 m846
        refine g_aload_n rfl ?_
        refine g_invvv hIH835 sm_0 rfl rfl rfl rfl (r_183 H835 hIH835 hJ850) (fun H851 r852 => ?_)
        obtain ⟨hIH851, hJH851, w853, w854, w855, w856, w857, m858, m859, m860, m861, m862, m863, m864, m865, m866, m867, m868, m869, p870, p871⟩ := r852
        have e872 : k0_2 = fZ H851 0 2 := e836.trans w853.symm
        have e873 : k0_0 = fZ H851 0 0 := e837.trans w854.symm
        have e874 : k0_41 = fZ H851 0 41 := e838.trans w855.symm
        have e875 : k0_42 = fZ H851 0 42 := e839.trans w856.symm
        have e876 : k0_43 = fZ H851 0 43 := e840.trans w857.symm
        have m877 : ∀ i, aZ H851 2 i = aZ H 2 i := fun i => (m858 i).trans (m841 i)
        have m878 : ∀ i, aZ H851 17 i = aZ H 17 i := fun i => (m859 i).trans (m842 i)
        have m879 : kpM H H851 := kpM_t m843 m860
        have m880 : ∀ i, aZ H851 18 i = aZ H 18 i := fun i => (m861 i).trans (m844 i)
        have m881 : ∀ i, aZ H851 24 i = aZ H 24 i := fun i => (m869 i).trans (m845 i)
        exact g_ret ⟨rfl, hIH851, hJH851, (e872.symm.trans ek0_2), (e873.symm.trans ek0_0), (e874.symm.trans ek0_41), (e875.symm.trans ek0_42), (e876.symm.trans ek0_43), m877, m878, m879, m880, m881, p870, (fun n hn => ⟨by show (aZ H851 7 n).toInt = 0; rw [m862]; exact q5_7 n (by omega), by show (aZ H851 9 n).toInt = -5; rw [m863]; exact q5_9 n (by omega), by show (aZ H851 12 n).toInt = -5; rw [m864]; exact q5_12 n (by omega), by show (aZ H851 13 n).toInt = 0; rw [m865]; exact q5_13 n (by omega), by show (aZ H851 14 n).toInt = 0; rw [m866]; exact q5_14 n (by omega), by show (aZ H851 15 n).toInt = 0; rw [m867]; exact q5_15 n (by omega), by show (aZ H851 16 n).toInt = 0; rw [m868]; exact q5_16 n (by omega)⟩), (od_cg m842 m844 m841 p871)⟩
      · refine g_aload_n rfl ?_
        refine g_gfr hIH835 sm_0 rfl ?_
        refine g_iload_n rfl ?_
        refine g_iconst (by decide) (fun v882 kv882 => ?_)
        refine g_zastore hIH835 sm_7 (by omega) (by omega) (fun H883 eH883 hIH883 => ?_)
        have e884 : k0_2 = fZ H883 0 2 := by rw [eH883, fZ_sA]; exact e836
        have e885 : k0_0 = fZ H883 0 0 := by rw [eH883, fZ_sA]; exact e837
        have e886 : k0_41 = fZ H883 0 41 := by rw [eH883, fZ_sA]; exact e838
        have e887 : k0_42 = fZ H883 0 42 := by rw [eH883, fZ_sA]; exact e839
        have e888 : k0_43 = fZ H883 0 43 := by rw [eH883, fZ_sA]; exact e840
        have m889 : ∀ i, aZ H883 2 i = aZ H 2 i := fun i => (by rw [eH883, aZ_sA_nc (by omega)] : aZ H883 2 i = aZ H835 2 i).trans (m841 i)
        have m890 : ∀ i, aZ H883 17 i = aZ H 17 i := fun i => (by rw [eH883, aZ_sA_nc (by omega)] : aZ H883 17 i = aZ H835 17 i).trans (m842 i)
        have m891 : kpM H H883 := kpM_A m843 eH883 (by omega)
        have m892 : ∀ i, aZ H883 18 i = aZ H 18 i := fun i => (by rw [eH883, aZ_sA_nc (by omega)] : aZ H883 18 i = aZ H835 18 i).trans (m844 i)
        have m893 : ∀ i, aZ H883 24 i = aZ H 24 i := fun i => (by rw [eH883, aZ_sA_nc (by omega)] : aZ H883 24 i = aZ H835 24 i).trans (m845 i)
        have m894 : ∀ i, aZ H883 3 i = aZ H 3 i := fun i => (by rw [eH883, aZ_sA_nc (by omega)] : aZ H883 3 i = aZ H835 3 i).trans (m846 i)
        refine g_aload_n rfl ?_
        refine g_gfr hIH883 sm_0 rfl ?_
        refine g_iload_n rfl ?_
        refine g_bipush (by decide) (fun v895 kv895 => ?_)
        refine g_iastore hIH883 sm_9 (by omega) (by omega) (fun H896 eH896 hIH896 => ?_)
        have e897 : k0_2 = fZ H896 0 2 := by rw [eH896, fZ_sA]; exact e884
        have e898 : k0_0 = fZ H896 0 0 := by rw [eH896, fZ_sA]; exact e885
        have e899 : k0_41 = fZ H896 0 41 := by rw [eH896, fZ_sA]; exact e886
        have e900 : k0_42 = fZ H896 0 42 := by rw [eH896, fZ_sA]; exact e887
        have e901 : k0_43 = fZ H896 0 43 := by rw [eH896, fZ_sA]; exact e888
        have m902 : ∀ i, aZ H896 2 i = aZ H 2 i := fun i => (by rw [eH896, aZ_sA_nc (by omega)] : aZ H896 2 i = aZ H883 2 i).trans (m889 i)
        have m903 : ∀ i, aZ H896 17 i = aZ H 17 i := fun i => (by rw [eH896, aZ_sA_nc (by omega)] : aZ H896 17 i = aZ H883 17 i).trans (m890 i)
        have m904 : kpM H H896 := kpM_A m891 eH896 (by omega)
        have m905 : ∀ i, aZ H896 18 i = aZ H 18 i := fun i => (by rw [eH896, aZ_sA_nc (by omega)] : aZ H896 18 i = aZ H883 18 i).trans (m892 i)
        have m906 : ∀ i, aZ H896 24 i = aZ H 24 i := fun i => (by rw [eH896, aZ_sA_nc (by omega)] : aZ H896 24 i = aZ H883 24 i).trans (m893 i)
        have m907 : ∀ i, aZ H896 3 i = aZ H 3 i := fun i => (by rw [eH896, aZ_sA_nc (by omega)] : aZ H896 3 i = aZ H883 3 i).trans (m894 i)
        refine g_aload_n rfl ?_
        refine g_gfr hIH896 sm_0 rfl ?_
        refine g_iload_n rfl ?_
        refine g_bipush (by decide) (fun v908 kv908 => ?_)
        refine g_iastore hIH896 sm_12 (by omega) (gz_any _) (fun H909 eH909 hIH909 => ?_)
        have e910 : k0_2 = fZ H909 0 2 := by rw [eH909, fZ_sA]; exact e897
        have e911 : k0_0 = fZ H909 0 0 := by rw [eH909, fZ_sA]; exact e898
        have e912 : k0_41 = fZ H909 0 41 := by rw [eH909, fZ_sA]; exact e899
        have e913 : k0_42 = fZ H909 0 42 := by rw [eH909, fZ_sA]; exact e900
        have e914 : k0_43 = fZ H909 0 43 := by rw [eH909, fZ_sA]; exact e901
        have m915 : ∀ i, aZ H909 2 i = aZ H 2 i := fun i => (by rw [eH909, aZ_sA_nc (by omega)] : aZ H909 2 i = aZ H896 2 i).trans (m902 i)
        have m916 : ∀ i, aZ H909 17 i = aZ H 17 i := fun i => (by rw [eH909, aZ_sA_nc (by omega)] : aZ H909 17 i = aZ H896 17 i).trans (m903 i)
        have m917 : kpM H H909 := kpM_A m904 eH909 (by omega)
        have m918 : ∀ i, aZ H909 18 i = aZ H 18 i := fun i => (by rw [eH909, aZ_sA_nc (by omega)] : aZ H909 18 i = aZ H896 18 i).trans (m905 i)
        have m919 : ∀ i, aZ H909 24 i = aZ H 24 i := fun i => (by rw [eH909, aZ_sA_nc (by omega)] : aZ H909 24 i = aZ H896 24 i).trans (m906 i)
        have m920 : ∀ i, aZ H909 3 i = aZ H 3 i := fun i => (by rw [eH909, aZ_sA_nc (by omega)] : aZ H909 3 i = aZ H896 3 i).trans (m907 i)
        refine g_aload_n rfl ?_
        refine g_gfr hIH909 sm_0 rfl ?_
        refine g_iload_n rfl ?_
        refine g_iconst (by decide) (fun v921 kv921 => ?_)
        refine g_zastore hIH909 sm_13 (by omega) (by omega) (fun H922 eH922 hIH922 => ?_)
        have e923 : k0_2 = fZ H922 0 2 := by rw [eH922, fZ_sA]; exact e910
        have e924 : k0_0 = fZ H922 0 0 := by rw [eH922, fZ_sA]; exact e911
        have e925 : k0_41 = fZ H922 0 41 := by rw [eH922, fZ_sA]; exact e912
        have e926 : k0_42 = fZ H922 0 42 := by rw [eH922, fZ_sA]; exact e913
        have e927 : k0_43 = fZ H922 0 43 := by rw [eH922, fZ_sA]; exact e914
        have m928 : ∀ i, aZ H922 2 i = aZ H 2 i := fun i => (by rw [eH922, aZ_sA_nc (by omega)] : aZ H922 2 i = aZ H909 2 i).trans (m915 i)
        have m929 : ∀ i, aZ H922 17 i = aZ H 17 i := fun i => (by rw [eH922, aZ_sA_nc (by omega)] : aZ H922 17 i = aZ H909 17 i).trans (m916 i)
        have m930 : kpM H H922 := kpM_A m917 eH922 (by omega)
        have m931 : ∀ i, aZ H922 18 i = aZ H 18 i := fun i => (by rw [eH922, aZ_sA_nc (by omega)] : aZ H922 18 i = aZ H909 18 i).trans (m918 i)
        have m932 : ∀ i, aZ H922 24 i = aZ H 24 i := fun i => (by rw [eH922, aZ_sA_nc (by omega)] : aZ H922 24 i = aZ H909 24 i).trans (m919 i)
        have m933 : ∀ i, aZ H922 3 i = aZ H 3 i := fun i => (by rw [eH922, aZ_sA_nc (by omega)] : aZ H922 3 i = aZ H909 3 i).trans (m920 i)
        refine g_aload_n rfl ?_
        refine g_gfr hIH922 sm_0 rfl ?_
        refine g_iload_n rfl ?_
        refine g_iconst (by decide) (fun v934 kv934 => ?_)
        refine g_zastore hIH922 sm_14 (by omega) (by omega) (fun H935 eH935 hIH935 => ?_)
        have e936 : k0_2 = fZ H935 0 2 := by rw [eH935, fZ_sA]; exact e923
        have e937 : k0_0 = fZ H935 0 0 := by rw [eH935, fZ_sA]; exact e924
        have e938 : k0_41 = fZ H935 0 41 := by rw [eH935, fZ_sA]; exact e925
        have e939 : k0_42 = fZ H935 0 42 := by rw [eH935, fZ_sA]; exact e926
        have e940 : k0_43 = fZ H935 0 43 := by rw [eH935, fZ_sA]; exact e927
        have m941 : ∀ i, aZ H935 2 i = aZ H 2 i := fun i => (by rw [eH935, aZ_sA_nc (by omega)] : aZ H935 2 i = aZ H922 2 i).trans (m928 i)
        have m942 : ∀ i, aZ H935 17 i = aZ H 17 i := fun i => (by rw [eH935, aZ_sA_nc (by omega)] : aZ H935 17 i = aZ H922 17 i).trans (m929 i)
        have m943 : kpM H H935 := kpM_A m930 eH935 (by omega)
        have m944 : ∀ i, aZ H935 18 i = aZ H 18 i := fun i => (by rw [eH935, aZ_sA_nc (by omega)] : aZ H935 18 i = aZ H922 18 i).trans (m931 i)
        have m945 : ∀ i, aZ H935 24 i = aZ H 24 i := fun i => (by rw [eH935, aZ_sA_nc (by omega)] : aZ H935 24 i = aZ H922 24 i).trans (m932 i)
        have m946 : ∀ i, aZ H935 3 i = aZ H 3 i := fun i => (by rw [eH935, aZ_sA_nc (by omega)] : aZ H935 3 i = aZ H922 3 i).trans (m933 i)
        refine g_aload_n rfl ?_
        refine g_gfr hIH935 sm_0 rfl ?_
        refine g_iload_n rfl ?_
        refine g_iconst (by decide) (fun v947 kv947 => ?_)
        refine g_zastore hIH935 sm_15 (by omega) (by omega) (fun H948 eH948 hIH948 => ?_)
        have e949 : k0_2 = fZ H948 0 2 := by rw [eH948, fZ_sA]; exact e936
        have e950 : k0_0 = fZ H948 0 0 := by rw [eH948, fZ_sA]; exact e937
        have e951 : k0_41 = fZ H948 0 41 := by rw [eH948, fZ_sA]; exact e938
        have e952 : k0_42 = fZ H948 0 42 := by rw [eH948, fZ_sA]; exact e939
        have e953 : k0_43 = fZ H948 0 43 := by rw [eH948, fZ_sA]; exact e940
        have m954 : ∀ i, aZ H948 2 i = aZ H 2 i := fun i => (by rw [eH948, aZ_sA_nc (by omega)] : aZ H948 2 i = aZ H935 2 i).trans (m941 i)
        have m955 : ∀ i, aZ H948 17 i = aZ H 17 i := fun i => (by rw [eH948, aZ_sA_nc (by omega)] : aZ H948 17 i = aZ H935 17 i).trans (m942 i)
        have m956 : kpM H H948 := kpM_A m943 eH948 (by omega)
        have m957 : ∀ i, aZ H948 18 i = aZ H 18 i := fun i => (by rw [eH948, aZ_sA_nc (by omega)] : aZ H948 18 i = aZ H935 18 i).trans (m944 i)
        have m958 : ∀ i, aZ H948 24 i = aZ H 24 i := fun i => (by rw [eH948, aZ_sA_nc (by omega)] : aZ H948 24 i = aZ H935 24 i).trans (m945 i)
        have m959 : ∀ i, aZ H948 3 i = aZ H 3 i := fun i => (by rw [eH948, aZ_sA_nc (by omega)] : aZ H948 3 i = aZ H935 3 i).trans (m946 i)
        refine g_aload_n rfl ?_
        refine g_gfr hIH948 sm_0 rfl ?_
        refine g_iload_n rfl ?_
        refine g_iconst (by decide) (fun v960 kv960 => ?_)
        refine g_zastore hIH948 sm_16 (by omega) (by omega) (fun H961 eH961 hIH961 => ?_)
        have e962 : k0_2 = fZ H961 0 2 := by rw [eH961, fZ_sA]; exact e949
        have e963 : k0_0 = fZ H961 0 0 := by rw [eH961, fZ_sA]; exact e950
        have e964 : k0_41 = fZ H961 0 41 := by rw [eH961, fZ_sA]; exact e951
        have e965 : k0_42 = fZ H961 0 42 := by rw [eH961, fZ_sA]; exact e952
        have e966 : k0_43 = fZ H961 0 43 := by rw [eH961, fZ_sA]; exact e953
        have m967 : ∀ i, aZ H961 2 i = aZ H 2 i := fun i => (by rw [eH961, aZ_sA_nc (by omega)] : aZ H961 2 i = aZ H948 2 i).trans (m954 i)
        have m968 : ∀ i, aZ H961 17 i = aZ H 17 i := fun i => (by rw [eH961, aZ_sA_nc (by omega)] : aZ H961 17 i = aZ H948 17 i).trans (m955 i)
        have m969 : kpM H H961 := kpM_A m956 eH961 (by omega)
        have m970 : ∀ i, aZ H961 18 i = aZ H 18 i := fun i => (by rw [eH961, aZ_sA_nc (by omega)] : aZ H961 18 i = aZ H948 18 i).trans (m957 i)
        have m971 : ∀ i, aZ H961 24 i = aZ H 24 i := fun i => (by rw [eH961, aZ_sA_nc (by omega)] : aZ H961 24 i = aZ H948 24 i).trans (m958 i)
        have m972 : ∀ i, aZ H961 3 i = aZ H 3 i := fun i => (by rw [eH961, aZ_sA_nc (by omega)] : aZ H961 3 i = aZ H948 3 i).trans (m959 i)
        refine g_iinc (l' := (fun v973 => [(0, .ref 0), (1, .int v973)])) rfl rfl (by decide) (by omega) (fun _ => rfl) (fun v973 ev973 => ?_)
        refine g_goto ?_
        exact ihL847 v973 H961 hIH961 e962 e963 e964 e965 e966 m967 m968 m969 m970 m971 m972 (by omega) (fun q hq => by rw [eH961, aZ_sA_nc (by decide), eH948, aZ_sA_nc (by decide), eH935, aZ_sA_nc (by decide), eH922, aZ_sA_nc (by decide), eH909, aZ_sA_nc (by decide), eH896]; if e : v834.toInt.toNat = q then (subst e; rw [aZ_sA_eq hIH883 sm_9 (by omega)]; omega) else (rw [aZ_sA_ne e, eH883, aZ_sA_nc (by decide)]; exact q1 q (by omega))) (fun q hq => by rw [eH961, aZ_sA_nc (by decide), eH948, aZ_sA_nc (by decide), eH935, aZ_sA_nc (by decide), eH922, aZ_sA_nc (by decide), eH909, aZ_sA_nc (by decide), eH896, aZ_sA_nc (by decide), eH883]; if e : v834.toInt.toNat = q then (subst e; rw [aZ_sA_eq hIH835 sm_7 (by omega)]; omega) else (rw [aZ_sA_ne e]; exact q5_7 q (by omega))) (fun q hq => by rw [eH961, aZ_sA_nc (by decide), eH948, aZ_sA_nc (by decide), eH935, aZ_sA_nc (by decide), eH922, aZ_sA_nc (by decide), eH909, aZ_sA_nc (by decide), eH896]; if e : v834.toInt.toNat = q then (subst e; rw [aZ_sA_eq hIH883 sm_9 (by omega)]; omega) else (rw [aZ_sA_ne e, eH883, aZ_sA_nc (by decide)]; exact q5_9 q (by omega))) (fun q hq => by rw [eH961, aZ_sA_nc (by decide), eH948, aZ_sA_nc (by decide), eH935, aZ_sA_nc (by decide), eH922, aZ_sA_nc (by decide), eH909]; if e : v834.toInt.toNat = q then (subst e; rw [aZ_sA_eq hIH896 sm_12 (by omega)]; omega) else (rw [aZ_sA_ne e, eH896, aZ_sA_nc (by decide), eH883, aZ_sA_nc (by decide)]; exact q5_12 q (by omega))) (fun q hq => by rw [eH961, aZ_sA_nc (by decide), eH948, aZ_sA_nc (by decide), eH935, aZ_sA_nc (by decide), eH922]; if e : v834.toInt.toNat = q then (subst e; rw [aZ_sA_eq hIH909 sm_13 (by omega)]; omega) else (rw [aZ_sA_ne e, eH909, aZ_sA_nc (by decide), eH896, aZ_sA_nc (by decide), eH883, aZ_sA_nc (by decide)]; exact q5_13 q (by omega))) (fun q hq => by rw [eH961, aZ_sA_nc (by decide), eH948, aZ_sA_nc (by decide), eH935]; if e : v834.toInt.toNat = q then (subst e; rw [aZ_sA_eq hIH922 sm_14 (by omega)]; omega) else (rw [aZ_sA_ne e, eH922, aZ_sA_nc (by decide), eH909, aZ_sA_nc (by decide), eH896, aZ_sA_nc (by decide), eH883, aZ_sA_nc (by decide)]; exact q5_14 q (by omega))) (fun q hq => by rw [eH961, aZ_sA_nc (by decide), eH948]; if e : v834.toInt.toNat = q then (subst e; rw [aZ_sA_eq hIH935 sm_15 (by omega)]; omega) else (rw [aZ_sA_ne e, eH935, aZ_sA_nc (by decide), eH922, aZ_sA_nc (by decide), eH909, aZ_sA_nc (by decide), eH896, aZ_sA_nc (by decide), eH883, aZ_sA_nc (by decide)]; exact q5_15 q (by omega))) (fun q hq => by rw [eH961]; if e : v834.toInt.toNat = q then (subst e; rw [aZ_sA_eq hIH948 sm_16 (by omega)]; omega) else (rw [aZ_sA_ne e, eH948, aZ_sA_nc (by decide), eH935, aZ_sA_nc (by decide), eH922, aZ_sA_nc (by decide), eH909, aZ_sA_nc (by decide), eH896, aZ_sA_nc (by decide), eH883, aZ_sA_nc (by decide)]; exact q5_16 q (by omega))) (by omega)
  exact L847 _ v833 H hI ek0_2 ek0_0 ek0_41 ek0_42 ek0_43 mk2 mk17 mkfr mk18 mk24 mk3 (by omega) (fun q hq => absurd hq (by omega)) (fun q hq => absurd hq (by omega)) (fun q hq => absurd hq (by omega)) (fun q hq => absurd hq (by omega)) (fun q hq => absurd hq (by omega)) (fun q hq => absurd hq (by omega)) (fun q hq => absurd hq (by omega)) (fun q hq => absurd hq (by omega)) (Nat.lt_succ_self _)
set_option maxRecDepth 4000 in
set_option maxHeartbeats 4000000 in
/-- M.runs -/
theorem r_198 (a1 : Int32) (H : mzH) (hI : gI SM H) (hJ : JN H) (hp0 : gdM H) : gCall 198 [.ref 0, .int a1] H (gRv (fun H' => gI SM H' ∧ JM H' ∧ fZ H' 0 2 = fZ H 0 2 ∧ fZ H' 0 0 = fZ H 0 0 ∧ fZ H' 0 41 = fZ H 0 41 ∧ fZ H' 0 42 = fZ H 0 42 ∧ fZ H' 0 43 = fZ H 0 43 ∧ (∀ i, aZ H' 2 i = aZ H 2 i) ∧ (∀ i, aZ H' 17 i = aZ H 17 i) ∧ kpM H H' ∧ (∀ i, aZ H' 18 i = aZ H 18 i) ∧ (∀ i, aZ H' 24 i = aZ H 24 i) ∧ pmA H' (aZ H' 2 2).toInt 60 ∧ (∃ G : mzH, clR (rgM G) (mdM G) ∧ ∃ p : Nat, rwX H' (fM H G p).1 (fM H G p).2 ∧ stM H a1.toInt p ∧ (∀ x : Nat, x < p → (aZ H' 20 (odM H x)).toInt = rvM H G x) ∧ odI H' H (aZ H 2 2).toInt.toNat))) := by
  obtain ⟨k0_2, ek0_2⟩ : ∃ z, z = fZ H 0 2 := ⟨_, rfl⟩
  have ik0_2 : k0_2.toInt = (fZ H 0 2).toInt := by rw [← ek0_2]
  have bk0_2 : 0 ≤ k0_2.toInt ∧ k0_2.toInt ≤ 900 := by rw [ek0_2]; exact fZ_of hI sm_0 rfl
  obtain ⟨k0_0, ek0_0⟩ : ∃ z, z = fZ H 0 0 := ⟨_, rfl⟩
  have ik0_0 : k0_0.toInt = (fZ H 0 0).toInt := by rw [← ek0_0]
  obtain ⟨k0_41, ek0_41⟩ : ∃ z, z = fZ H 0 41 := ⟨_, rfl⟩
  have ik0_41 : k0_41.toInt = (fZ H 0 41).toInt := by rw [← ek0_41]
  obtain ⟨k0_42, ek0_42⟩ : ∃ z, z = fZ H 0 42 := ⟨_, rfl⟩
  have ik0_42 : k0_42.toInt = (fZ H 0 42).toInt := by rw [← ek0_42]
  obtain ⟨k0_43, ek0_43⟩ : ∃ z, z = fZ H 0 43 := ⟨_, rfl⟩
  have ik0_43 : k0_43.toInt = (fZ H 0 43).toInt := by rw [← ek0_43]
  have mk2 : ∀ i, aZ H 2 i = aZ H 2 i := fun _ => rfl
  have mk17 : ∀ i, aZ H 17 i = aZ H 17 i := fun _ => rfl
  have mkfr : kpM H H := kpM_r
  have mk18 : ∀ i, aZ H 18 i = aZ H 18 i := fun _ => rfl
  have mk24 : ∀ i, aZ H 24 i = aZ H 24 i := fun _ => rfl
  refine gG_call [(0, .ref 0), (1, .int a1)] ⟨rfl, rfl, trivial⟩ ?_
  show gG 3 zB_198 (mzBlk zB_198 0) [(0, .ref 0), (1, .int a1)] [] H 0 0 _
  refine g_aload_n rfl ?_
  refine g_invvv hI sm_0 rfl rfl rfl rfl (r_184 H hI hJ) (fun H497 r498 => ?_)
  obtain ⟨hIH497, hJH497, w499, w500, w501, w502, w503, m504, m505, m506, m507, m508, p509, p510, p511⟩ := r498
  have e512 : k0_2 = fZ H497 0 2 := ek0_2.trans w499.symm
  have e513 : k0_0 = fZ H497 0 0 := ek0_0.trans w500.symm
  have e514 : k0_41 = fZ H497 0 41 := ek0_41.trans w501.symm
  have e515 : k0_42 = fZ H497 0 42 := ek0_42.trans w502.symm
  have e516 : k0_43 = fZ H497 0 43 := ek0_43.trans w503.symm
  have m517 : ∀ i, aZ H497 2 i = aZ H 2 i := fun i => (m504 i).trans (mk2 i)
  have m518 : ∀ i, aZ H497 17 i = aZ H 17 i := fun i => (m505 i).trans (mk17 i)
  have m519 : kpM H H497 := kpM_t mkfr m506
  have m520 : ∀ i, aZ H497 18 i = aZ H 18 i := fun i => (m507 i).trans (mk18 i)
  have m521 : ∀ i, aZ H497 24 i = aZ H 24 i := fun i => (m508 i).trans (mk24 i)
  refine g_iconst (by decide) (fun v522 kv522 => ?_)
  refine g_istore_n (l' := [(0, .ref 0), (1, .int a1), (2, .int v522)]) rfl rfl ?_
  refine g_nop ?_
  have L535 : ∀ (N : Nat) (v523 : Int32) (H524 : mzH), gI SM H524 → JM H524 → k0_2 = fZ H524 0 2 → k0_0 = fZ H524 0 0 → k0_41 = fZ H524 0 41 → k0_42 = fZ H524 0 42 → k0_43 = fZ H524 0 43 → (∀ i, aZ H524 2 i = aZ H 2 i) → (∀ i, aZ H524 17 i = aZ H 17 i) → kpM H H524 → (∀ i, aZ H524 18 i = aZ H 18 i) → (∀ i, aZ H524 24 i = aZ H 24 i) → (0 ≤ v523.toInt ∧ v523.toInt ≤ 60) → pmA H524 (aZ H524 2 2).toInt 60 → rwX H524 (fM H H497 v523.toInt.toNat).1 (fM H H497 v523.toInt.toNat).2 → (∀ q : Nat, q < v523.toInt.toNat → hqM H q ≤ a1.toInt) → odI H524 H (aZ H 2 2).toInt.toNat → v523.toInt.toNat ≤ cnM H → (∀ x : Nat, x < v523.toInt.toNat → (aZ H524 20 (odM H x)).toInt = rvM H H497 x) → (60 - v523.toInt).toNat < N → gG 3 zB_198 (mzBlk zB_198 1) [(0, .ref 0), (1, .int a1), (2, .int v523)] [] H524 0 0 (gRv (fun H' => gI SM H' ∧ JM H' ∧ fZ H' 0 2 = fZ H 0 2 ∧ fZ H' 0 0 = fZ H 0 0 ∧ fZ H' 0 41 = fZ H 0 41 ∧ fZ H' 0 42 = fZ H 0 42 ∧ fZ H' 0 43 = fZ H 0 43 ∧ (∀ i, aZ H' 2 i = aZ H 2 i) ∧ (∀ i, aZ H' 17 i = aZ H 17 i) ∧ kpM H H' ∧ (∀ i, aZ H' 18 i = aZ H 18 i) ∧ (∀ i, aZ H' 24 i = aZ H 24 i) ∧ pmA H' (aZ H' 2 2).toInt 60 ∧ (∃ G : mzH, clR (rgM G) (mdM G) ∧ ∃ p : Nat, rwX H' (fM H G p).1 (fM H G p).2 ∧ stM H a1.toInt p ∧ (∀ x : Nat, x < p → (aZ H' 20 (odM H x)).toInt = rvM H G x) ∧ odI H' H (aZ H 2 2).toInt.toNat))) := by
    intro N
    induction N with
    | zero => intro v523 H524 hIH524 hJH524 e525 e526 e527 e528 e529 m530 m531 m532 m533 m534 bv523 q1 q5 q6 q7 q8 q10 hmL535; exact absurd hmL535 (Nat.not_lt_zero _)
    | succ N ihL535 =>
      intro v523 H524 hIH524 hJH524 e525 e526 e527 e528 e529 m530 m531 m532 m533 m534 bv523 q1 q5 q6 q7 q8 q10 hmL535
      refine g_iload_n rfl ?_
      refine g_aload_n rfl ?_
      refine g_gfi hIH524 sm_0 rfl (fun v536 ev536 lv536 uv536 => ?_)
      have zv536 : v536.toInt = (cnM H : Int) := by rw [ev536]; exact od_n q7
      refine g_if2_ge (fun c537 => ?_) (fun c537 => ?_)
      · exact g_ret ⟨rfl, hIH524, hJH524, (e525.symm.trans ek0_2), (e526.symm.trans ek0_0), (e527.symm.trans ek0_41), (e528.symm.trans ek0_42), (e529.symm.trans ek0_43), m530, m531, m532, m533, m534, q1, ⟨H497, p510, v523.toInt.toNat, q5, ⟨q8, q6, Or.inl (by omega)⟩, q10, q7⟩⟩
      · refine g_aload_n rfl ?_
        refine g_gfr hIH524 sm_0 rfl ?_
        refine g_aload_n rfl ?_
        refine g_gfr hIH524 sm_0 rfl ?_
        refine g_iload_n rfl ?_
        refine g_iaload hIH524 sm_19 rfl (by omega) (fun v538 ev538 lv538 uv538 => ?_)
        have zv538 : v538.toInt.toNat = odM H v523.toInt.toNat := by rw [ev538]; exact od_g q7 (by omega)
        refine g_iaload hIH524 sm_18 rfl (by omega) (fun v539 ev539 lv539 uv539 => ?_)
        have yv539 : v539.toInt = (aZ H 18 v538.toInt.toNat).toInt := by rw [ev539, m533]
        refine g_iload_n rfl ?_
        refine g_if2_gt (fun c540 => ?_) (fun c540 => ?_)
        · exact g_ret ⟨rfl, hIH524, hJH524, (e525.symm.trans ek0_2), (e526.symm.trans ek0_0), (e527.symm.trans ek0_41), (e528.symm.trans ek0_42), (e529.symm.trans ek0_43), m530, m531, m532, m533, m534, q1, ⟨H497, p510, v523.toInt.toNat, q5, ⟨q8, q6, Or.inr (by show _ < (aZ H 18 (odM H _)).toInt; rw [← zv538]; omega)⟩, q10, q7⟩⟩
        · refine g_aload_n rfl ?_
          refine g_aload_n rfl ?_
          refine g_gfr hIH524 sm_0 rfl ?_
          refine g_iload_n rfl ?_
          refine g_ialoadk hIH524 sm_19 rfl (by omega) ev538 ?_
          refine g_invvv hIH524 sm_0 rfl rfl rfl rfl (r_192 v538 (by omega) H524 hIH524 hJH524 q5 ((hp0.2 H497 p510 v523.toInt.toNat (by omega)).1) ((hp0.2 H497 p510 v523.toInt.toNat (by omega)).2) (by rw [m533, zv538]; exact (hp0.1 v523.toInt.toNat (by omega))) (bt_of hIH524 q5)) (fun H541 r542 => ?_)
          obtain ⟨hIH541, hJH541, m543, m544, m545, m546, m547, m548, m549, m550, m551, m552, p553, p554, p555⟩ := r542
          have e556 : k0_2 = fZ H541 0 2 := e525.trans (m543 0 2).symm
          have e557 : k0_0 = fZ H541 0 0 := e526.trans (m543 0 0).symm
          have e558 : k0_41 = fZ H541 0 41 := e527.trans (m543 0 41).symm
          have e559 : k0_42 = fZ H541 0 42 := e528.trans (m543 0 42).symm
          have e560 : k0_43 = fZ H541 0 43 := e529.trans (m543 0 43).symm
          have m561 : ∀ i, aZ H541 2 i = aZ H 2 i := fun i => (m544 i).trans (m530 i)
          have m562 : ∀ i, aZ H541 17 i = aZ H 17 i := fun i => (m546 i).trans (m531 i)
          have m563 : kpM H H541 := kpM_t m532 m547
          have m564 : ∀ i, aZ H541 18 i = aZ H 18 i := fun i => (m548 i).trans (m533 i)
          have m565 : ∀ i, aZ H541 24 i = aZ H 24 i := fun i => (m551 i).trans (m534 i)
          refine g_iinc (l' := (fun v566 => [(0, .ref 0), (1, .int a1), (2, .int v566)])) rfl rfl (by decide) (by omega) (fun _ => rfl) (fun v566 ev566 => ?_)
          refine g_goto ?_
          exact ihL535 v566 H541 hIH541 hJH541 e556 e557 e558 e559 e560 m561 m562 m563 m564 m565 (by omega) (by rw [m544 2]; exact pmA_cg m546 m545 q1) (fm_st m532 m533 m530 p553 zv538 (by omega) (by omega)) (hm_st q6 (by omega) (by show (aZ H 18 (odM H _)).toInt ≤ _; rw [← zv538]; omega)) (od_cg2 m545 (m543 0 34) q7) (by omega) (rv_st q10 m532 m533 m530 p554 p555 zv538 (by omega) (by omega) (by omega)) (by omega)
  exact L535 _ v522 H497 hIH497 hJH497 e512 e513 e514 e515 e516 m517 m518 m519 m520 m521 (by omega) p509 (by rw [kv522]; exact rw_rd) (fun q hq => by omega) p511 (by omega) (fun x hx => by omega) (Nat.lt_succ_self _)
