/-! THE REFERENCE RUNS -/
/-- those that are in, by hours: how many, which -/
def ord2 (I hr : Nat → Int) : Nat → Nat × (Nat → Nat)
  | 0 => (0, fun _ => 0)
  | k + 1 => if I k = 0 then ord2 I hr k else ((ord2 I hr k).1 + 1, isr (ord2 I hr k).2 k (ord2 I hr k).1 (posF hr (ord2 I hr k).2 k (ord2 I hr k).1))
/-! ORDERS -/
/-- by hours, of like ones by numbers -/
def kLt (hr : Nat → Int) (a b : Nat) : Prop := hr a < hr b ∨ (hr a = hr b ∧ a < b)
def srt (hr : Nat → Int) (n : Nat) (t : Nat → Nat) : Prop := ∀ i j, i < j → j < n → kLt hr (t i) (t j)
theorem pos_lt {hr : Nat → Int} {t : Nat → Nat} {k : Nat} : ∀ n q, posF hr t k n ≤ q → q < n → hr k < hr (t q)
  | 0, q, _, h => absurd h (Nat.not_lt_zero _)
  | n + 1, q, h1, h2 => by
    unfold posF at h1
    if c : hr k < hr (t n) then
      rw [if_pos c] at h1
      if e : q = n then rw [e]; exact c
      else exact pos_lt n q h1 (by omega)
    else
      rw [if_neg c] at h1
      omega
theorem pos_ge {hr : Nat → Int} {t : Nat → Nat} {k : Nat} : ∀ n, posF hr t k n = 0 ∨ ¬ hr k < hr (t (posF hr t k n - 1))
  | 0 => Or.inl rfl
  | n + 1 => by
    unfold posF
    if c : hr k < hr (t n) then rw [if_pos c]; exact pos_ge n
    else rw [if_neg c]; exact Or.inr c
theorem srt_isr {hr : Nat → Int} {t : Nat → Nat} {k n : Nat} (hs : srt hr n t) (hk : ∀ q, q < n → t q < k) : srt hr (n + 1) (isr t k n (posF hr t k n)) := by
  have pl := posF_le (hr := hr) (t := t) (k := k) n
  have p1 := pos_lt (hr := hr) (t := t) (k := k) n
  have p2 : ∀ q, q < posF hr t k n → hr (t q) ≤ hr k := fun q hq => by
    rcases pos_ge (hr := hr) (t := t) (k := k) n with z | z
    · omega
    · if e : q = posF hr t k n - 1 then rw [e]; omega
      else
        have := hs q (posF hr t k n - 1) (by omega) (by omega)
        unfold kLt at this
        omega
  generalize posF hr t k n = sp at *
  intro i j hij hj
  unfold isr
  if ci : i < sp then
    rw [if_pos ci]
    if cj : j < sp then rw [if_pos cj]; exact hs i j hij (by omega)
    else
      rw [if_neg cj]
      if dj : j = sp then
        rw [if_pos dj]
        have h1 := p2 i ci
        have h2 := hk i (by omega)
        unfold kLt
        omega
      else
        rw [if_neg dj, if_pos (by omega)]
        exact hs i (j - 1) (by omega) (by omega)
  else
    rw [if_neg ci, if_neg (show ¬ j < sp by omega), if_neg (show ¬ j = sp by omega), if_pos (show j ≤ n by omega)]
    if di : i = sp then
      rw [if_pos di]
      exact Or.inl (p1 (j - 1) (by omega) (by omega))
    else
      rw [if_neg di, if_pos (by omega)]
      exact hs (i - 1) (j - 1) (by omega) (by omega)
theorem isr_mem {t : Nat → Nat} {k n sp x : Nat} (hsp : sp ≤ n) : (∃ q, q < n + 1 ∧ isr t k n sp q = x) ↔ (x = k ∨ ∃ q, q < n ∧ t q = x) := by
  constructor
  · rintro ⟨q, hq, e⟩
    unfold isr at e
    if c : q < sp then rw [if_pos c] at e; exact Or.inr ⟨q, by omega, e⟩
    else
      rw [if_neg c] at e
      if d : q = sp then rw [if_pos d] at e; exact Or.inl e.symm
      else
        rw [if_neg d, if_pos (by omega)] at e
        exact Or.inr ⟨q - 1, by omega, e⟩
  · rintro (e | ⟨q, hq, e⟩)
    · refine ⟨sp, by omega, ?_⟩
      unfold isr
      rw [if_neg (Nat.lt_irrefl _), if_pos rfl, e]
    · if c : q < sp then
        refine ⟨q, by omega, ?_⟩
        unfold isr
        rw [if_pos c, e]
      else
        refine ⟨q + 1, by omega, ?_⟩
        unfold isr
        rw [if_neg (by omega), if_neg (by omega), if_pos (by omega), Nat.add_sub_cancel, e]
/-- the order of those that are in -/
theorem ord2_ok {I hr : Nat → Int} : ∀ n, srt hr (ord2 I hr n).1 (ord2 I hr n).2 ∧ ∀ x, (∃ q, q < (ord2 I hr n).1 ∧ (ord2 I hr n).2 q = x) ↔ (x < n ∧ I x ≠ 0)
  | 0 => ⟨fun i j _ h => absurd h (Nat.not_lt_zero _), fun x => ⟨fun ⟨q, h, _⟩ => absurd h (Nat.not_lt_zero _), fun h => absurd h.1 (Nat.not_lt_zero _)⟩⟩
  | n + 1 => by
    obtain ⟨h1, h2⟩ := ord2_ok (I := I) (hr := hr) n
    unfold ord2
    if c : I n = 0 then
      rw [if_pos c]
      refine ⟨h1, fun x => ?_⟩
      rw [h2 x]
      refine ⟨fun z => ⟨by omega, z.2⟩, fun z => ⟨?_, z.2⟩⟩
      if e : x = n then rw [e] at z; exact absurd c z.2
      else omega
    else
      rw [if_neg c]
      refine ⟨srt_isr h1 (fun q hq => ((h2 _).mp ⟨q, hq, rfl⟩).1), fun x => ?_⟩
      show (∃ q, q < (ord2 I hr n).1 + 1 ∧ isr (ord2 I hr n).2 n (ord2 I hr n).1 _ q = x) ↔ _
      rw [isr_mem (posF_le _), h2 x]
      refine ⟨fun z => ?_, fun z => ?_⟩
      · rcases z with z | z
        · rw [z]; exact ⟨by omega, c⟩
        · exact ⟨by omega, z.2⟩
      · if e : x = n then exact Or.inl e
        else exact Or.inr ⟨by omega, z.2⟩
def inM (H : mzH) : Nat → Int := fun k => (aZ H 17 k).toInt
def hoM (H : mzH) : Nat → Int := fun k => (aZ H 18 k).toInt
def odI (G H : mzH) (k : Nat) : Prop := (fZ G 0 34).toInt = ((ord2 (inM H) (hoM H) k).1 : Int) ∧ ∀ q, q < (ord2 (inM H) (hoM H) k).1 → (aZ G 19 q).toInt = ((ord2 (inM H) (hoM H) k).2 q : Int)
theorem od_0 {G H : mzH} {k : Nat} (e : k = 0) (f : (fZ G 0 34).toInt = 0) : odI G H k := by
  subst e
  exact ⟨f, fun q hq => absurd hq (Nat.not_lt_zero _)⟩
theorem od_sk {G H : mzH} {k k2 : Nat} (q : odI G H k) (e : k2 = k + 1) (h : (aZ H 17 k).toInt = 0) : odI G H k2 := by
  subst e
  unfold odI ord2
  rw [if_pos (show inM H k = 0 from h)]
  exact q
theorem od_e {G H : mzH} {k k2 : Nat} (q : odI G H k) (e : k = k2) : odI G H k2 := e ▸ q
theorem od_in {G H : mzH} {k sp : Nat} (q : odI G H k) (e : sp = (ord2 (inM H) (hoM H) k).1) : inO (hoM H) (ord2 (inM H) (hoM H) k).2 k (ord2 (inM H) (hoM H) k).1 sp (fun q => (aZ G 19 q).toInt) := by
  subst e
  exact in_00 q.2
theorem orv_t {G : mzH} {hr : Nat → Int} {t : Nat → Nat} {k n c : Nat} {sp j v : Int32} (q : inO hr t k n sp.toInt.toNat (fun q => (aZ G c q).toInt)) (y : v.toInt = (aZ G c j.toInt.toNat).toInt) (ej : j.toInt = sp.toInt - 1) (h0 : 0 < sp.toInt) : t (sp.toInt.toNat - 1) = v.toInt.toNat := by
  have := q.2.1 (sp.toInt.toNat - 1) (by omega)
  have e : j.toInt.toNat = sp.toInt.toNat - 1 := by omega
  rw [e] at y
  have : v.toInt = (t (sp.toInt.toNat - 1) : Int) := y.trans this
  omega
theorem od_st {H B C : mzH} {k k2 : Nat} {v : Int32} (g : ∀ x, x < (ord2 (inM H) (hoM H) k).1 + 1 → (aZ B 19 x).toInt = (isr (ord2 (inM H) (hoM H) k).2 k (ord2 (inM H) (hoM H) k).1 (posF (hoM H) (ord2 (inM H) (hoM H) k).2 k (ord2 (inM H) (hoM H) k).1) x : Int)) (e : k2 = k + 1) (hn : ¬ (aZ H 17 k).toInt = 0) (eC : C = sF B 0 34 v) (hf : (fZ C 0 34).toInt = ((ord2 (inM H) (hoM H) k).1 : Int) + 1) : odI C H k2 := by
  subst e
  unfold odI ord2
  rw [if_neg (show ¬ inM H k = 0 from hn)]
  refine ⟨hf.trans (by omega), fun q hq => ?_⟩
  rw [eC, aZ_sF]
  exact g q hq
theorem od_cg {A B H : mzH} (h1 : ∀ i, aZ A 17 i = aZ H 17 i) (h2 : ∀ i, aZ A 18 i = aZ H 18 i) (h3 : ∀ i, aZ A 2 i = aZ H 2 i) (q : odI B A (aZ A 2 2).toInt.toNat) : odI B H (aZ H 2 2).toInt.toNat := by
  have e1 : inM A = inM H := by funext k; unfold inM; rw [h1]
  have e2 : hoM A = hoM H := by funext k; unfold hoM; rw [h2]
  unfold odI at q ⊢
  rw [e1, e2, h3] at q
  exact q
theorem od_cg2 {A B H : mzH} {k : Nat} (h1 : ∀ i, aZ B 19 i = aZ A 19 i) (h2 : fZ B 0 34 = fZ A 0 34) (q : odI A H k) : odI B H k := by
  refine ⟨by rw [h2]; exact q.1, fun x hx => by rw [h1]; exact q.2 x hx⟩
def rgM (H : mzH) : pS := psM (fun n => (aZ H 8 n).toInt) (fun n => (aZ H 9 n).toInt) (fun n => (aZ H 10 n).toInt) (fun n => (aZ H 11 n).toInt) (fun n => (aZ H 12 n).toInt) (fun n => (aZ H 13 n).toInt) (fun n => (aZ H 15 n).toInt) (fun n => (aZ H 16 n).toInt) (fun n => (aZ H 14 n).toInt)
def mdM (H : mzH) : Nat → Int := fun n => (aZ H 7 n).toInt
/-- nothing is made -/
def clR (r : pS) (m : Nat → Int) : Prop := ∀ n, n < 40 → m n = 0 ∧ r.ii n = -5 ∧ r.se n = -5 ∧ r.op n = 0 ∧ r.he n = 0 ∧ r.so n = 0 ∧ r.en n = 0
def fR (wy : Int → Int → Int) (U C : Int) (ro : Nat → Nat → Int) (od : Nat → Nat) (hr : Nat → Int) (r0 : pS) (m0 : Nat → Int) : Nat → pS × (Nat → Int)
  | 0 => (r0, m0)
  | p + 1 => (loS (fR wy U C ro od hr r0 m0 p).1 (fR wy U C ro od hr r0 m0 p).2 wy U C (ro (od p) 1) (ro (od p) 2).toNat (ro (od p) 3) (ro (od p) 4) (hr (od p)), loM (fR wy U C ro od hr r0 m0 p).1 (fR wy U C ro od hr r0 m0 p).2 wy U C (ro (od p) 1) (ro (od p) 2).toNat (ro (od p) 3) (hr (od p)))
def roM (H : mzH) : Nat → Nat → Int := fun k i => (aZ H 2 (69 + 5 * k + i)).toInt
def odM (H : mzH) : Nat → Nat := (ord2 (inM H) (hoM H) (aZ H 2 2).toInt.toNat).2
def cnM (H : mzH) : Nat := (ord2 (inM H) (hoM H) (aZ H 2 2).toInt.toNat).1
def fM (H G : mzH) : Nat → pS × (Nat → Int) := fR (wyM H) (aZ H 2 3).toInt (aZ H 2 4).toInt (roM H) (odM H) (hoM H) (rgM G) (mdM G)
def hqM (H : mzH) (q : Nat) : Int := hoM H (odM H q)
def stM (H : mzH) (h : Int) (p : Nat) : Prop := p ≤ cnM H ∧ (∀ q, q < p → hqM H q ≤ h) ∧ (p = cnM H ∨ h < hqM H p)
def gdM (H : mzH) : Prop := (∀ q : Nat, q < cnM H → (0 ≤ (aZ H 18 (odM H q)).toInt ∧ (aZ H 18 (odM H q)).toInt ≤ 999)) ∧ ∀ G, clR (rgM G) (mdM G) → ∀ q : Nat, q ≤ cnM H → dpt (fM H G q).1 ∧ laT (fM H G q).1 (fM H G q).2
/-- all messages are in, told for their hours -/
def tkW (H A : mzH) : Prop := kpM H A ∧ (∀ i, aZ A 2 i = aZ H 2 i) ∧ ∀ q : Nat, (q : Int) < (aZ H 2 2).toInt → (aZ A 18 q).toInt = (aZ H 2 (69 + 5 * q)).toInt ∧ (aZ A 17 q).toInt = 1
theorem rw_rd {H : mzH} : rwX H (rgM H) (mdM H) := fun _ _ => ⟨rfl, rfl, rfl, rfl, rfl, rfl, rfl, rfl, rfl, rfl⟩
theorem bt_of {H : mzH} {s : pS} {md : Nat → Int} (hI : gI SM H) (h : rwX H s md) : bt1 s md := fun n hn => by
  rw [← (h n hn).2.1]
  exact (aZ_of hI sm_8 hn).1
theorem od_g {G H : mzH} {q : Nat} (h : odI G H (aZ H 2 2).toInt.toNat) (hq : q < cnM H) : (aZ G 19 q).toInt.toNat = odM H q := by
  have := h.2 q hq
  unfold odM
  omega
theorem od_n {G H : mzH} (h : odI G H (aZ H 2 2).toInt.toNat) : (fZ G 0 34).toInt = (cnM H : Int) := h.1
theorem wyM_kp {H A : mzH} (fr : kpM H A) : wyM A = wyM H := by
  funext a b
  unfold wyM
  rw [fr.1 6 (by decide)]
theorem fm_st {H A B G : mzH} {p k : Int32} {p2 : Nat} (fr : kpM H A) (f18 : ∀ i, aZ A 18 i = aZ H 18 i) (f2 : ∀ i, aZ A 2 i = aZ H 2 i) (P : rwX B (loS (fM H G p.toInt.toNat).1 (fM H G p.toInt.toNat).2 (wyM A) (aZ A 2 3).toInt (aZ A 2 4).toInt (aZ A 2 (69 + 5 * k.toInt + 1).toNat).toInt (aZ A 2 (69 + 5 * k.toInt + 2).toNat).toInt.toNat (aZ A 2 (69 + 5 * k.toInt + 3).toNat).toInt (aZ A 2 (69 + 5 * k.toInt + 4).toNat).toInt (aZ A 18 k.toInt.toNat).toInt) (loM (fM H G p.toInt.toNat).1 (fM H G p.toInt.toNat).2 (wyM A) (aZ A 2 3).toInt (aZ A 2 4).toInt (aZ A 2 (69 + 5 * k.toInt + 1).toNat).toInt (aZ A 2 (69 + 5 * k.toInt + 2).toNat).toInt.toNat (aZ A 2 (69 + 5 * k.toInt + 3).toNat).toInt (aZ A 18 k.toInt.toNat).toInt)) (yk : k.toInt.toNat = odM H p.toInt.toNat) (h0 : 0 ≤ k.toInt) (e : p2 = p.toInt.toNat + 1) : rwX B (fM H G p2).1 (fM H G p2).2 := by
  subst e
  rw [wyM_kp fr, f2, f2, f2, f2, f2, f2, f18, show (69 + 5 * k.toInt + 1).toNat = 69 + 5 * k.toInt.toNat + 1 by omega, show (69 + 5 * k.toInt + 2).toNat = 69 + 5 * k.toInt.toNat + 2 by omega, show (69 + 5 * k.toInt + 3).toNat = 69 + 5 * k.toInt.toNat + 3 by omega, show (69 + 5 * k.toInt + 4).toNat = 69 + 5 * k.toInt.toNat + 4 by omega, yk] at P
  exact P
theorem hm_st {H : mzH} {h : Int} {p p2 : Nat} (q2 : ∀ q : Nat, q < p → hqM H q ≤ h) (e : p2 = p + 1) (z : hqM H p ≤ h) : ∀ q : Nat, q < p2 → hqM H q ≤ h := fun q hq => by
  if c : q = p then rw [c]; exact z
  else exact q2 q (by omega)
/-- why a message is refused, at its spot -/
def rvM (H G : mzH) (q : Nat) : Int := rea (fM H G q).1 (fM H G q).2 (wyM H) (aZ H 2 3).toInt (aZ H 2 4).toInt (roM H (odM H q) 1) (roM H (odM H q) 2).toNat (roM H (odM H q) 3) (hoM H (odM H q))
theorem od_ne {H : mzH} {x p : Nat} (h : x < p) (hp : p < cnM H) : odM H x ≠ odM H p := fun e => by
  have k := (ord2_ok (I := inM H) (hr := hoM H) (aZ H 2 2).toInt.toNat).1 x p h hp
  have k : kLt (hoM H) (odM H x) (odM H p) := k
  rw [e] at k
  unfold kLt at k
  omega
theorem rv_st {H A B G : mzH} {p k : Int32} {p2 : Nat} (q : ∀ x : Nat, x < p.toInt.toNat → (aZ A 20 (odM H x)).toInt = rvM H G x) (fr : kpM H A) (f18 : ∀ i, aZ A 18 i = aZ H 18 i) (f2 : ∀ i, aZ A 2 i = aZ H 2 i) (P : (aZ B 20 k.toInt.toNat).toInt = rea (fM H G p.toInt.toNat).1 (fM H G p.toInt.toNat).2 (wyM A) (aZ A 2 3).toInt (aZ A 2 4).toInt (aZ A 2 (69 + 5 * k.toInt + 1).toNat).toInt (aZ A 2 (69 + 5 * k.toInt + 2).toNat).toInt.toNat (aZ A 2 (69 + 5 * k.toInt + 3).toNat).toInt (aZ A 18 k.toInt.toNat).toInt) (O : ∀ i, i ≠ k.toInt.toNat → aZ B 20 i = aZ A 20 i) (yk : k.toInt.toNat = odM H p.toInt.toNat) (h0 : 0 ≤ k.toInt) (hp : p.toInt.toNat < cnM H) (e : p2 = p.toInt.toNat + 1) : ∀ x : Nat, x < p2 → (aZ B 20 (odM H x)).toInt = rvM H G x := fun x hx => by
  if c : x = p.toInt.toNat then
    rw [wyM_kp fr, f2, f2, f2, f2, f2, f18, show (69 + 5 * k.toInt + 1).toNat = 69 + 5 * k.toInt.toNat + 1 by omega, show (69 + 5 * k.toInt + 2).toNat = 69 + 5 * k.toInt.toNat + 2 by omega, show (69 + 5 * k.toInt + 3).toNat = 69 + 5 * k.toInt.toNat + 3 by omega, yk] at P
    rw [c]
    exact P
  else
    rw [O _ (by rw [yk]; exact od_ne (by omega) hp)]
    exact q x (by omega)
set_option maxRecDepth 4000 in
set_option maxHeartbeats 4000000 in
/-- M.takesAll -/
theorem r_182 (H : mzH) (hI : gI SM H) (hJ : JN H) : gCall 182 [.ref 0] H (gRv (fun H' => gI SM H' ∧ JN H' ∧ (∀ a f, fZ H' a f = fZ H a f) ∧ (∀ i, aZ H' 2 i = aZ H 2 i) ∧ kpM H H' ∧ (∀ i, aZ H' 24 i = aZ H 24 i) ∧ (∀ q : Nat, (q : Int) < (aZ H' 2 2).toInt → ¬ (aZ H' 17 q).toInt = 0) ∧ (∀ q : Nat, (q : Int) < (aZ H 2 2).toInt → (aZ H' 18 q).toInt = (aZ H 2 (69 + 5 * q)).toInt ∧ (aZ H' 17 q).toInt = 1))) := by
  have mkF : ∀ a f, fZ H a f = fZ H a f := fun _ _ => rfl
  have mk2 : ∀ i, aZ H 2 i = aZ H 2 i := fun _ => rfl
  have mkfr : kpM H H := kpM_r
  have mk24 : ∀ i, aZ H 24 i = aZ H 24 i := fun _ => rfl
  refine gG_call [(0, .ref 0)] ⟨rfl, trivial⟩ ?_
  show gG 2 zB_182 (mzBlk zB_182 0) [(0, .ref 0)] [] H 0 0 _
  refine g_iconst (by decide) (fun v327 kv327 => ?_)
  refine g_istore_n (l' := [(0, .ref 0), (1, .int v327)]) rfl rfl ?_
  refine g_nop ?_
  have L334 : ∀ (N : Nat) (v328 : Int32) (H329 : mzH), gI SM H329 → JN H329 → (∀ a f, fZ H329 a f = fZ H a f) → (∀ i, aZ H329 2 i = aZ H 2 i) → kpM H H329 → (∀ i, aZ H329 24 i = aZ H 24 i) → (0 ≤ v328.toInt ∧ v328.toInt ≤ 60) → (∀ q : Nat, q < v328.toInt.toNat → ¬ (aZ H329 17 q).toInt = 0) → (∀ q : Nat, q < v328.toInt.toNat → (aZ H329 18 q).toInt = (aZ H 2 (69 + 5 * q)).toInt) → (∀ q : Nat, q < v328.toInt.toNat → (aZ H329 17 q).toInt = 1) → (60 - v328.toInt).toNat < N → gG 2 zB_182 (mzBlk zB_182 1) [(0, .ref 0), (1, .int v328)] [] H329 0 0 (gRv (fun H' => gI SM H' ∧ JN H' ∧ (∀ a f, fZ H' a f = fZ H a f) ∧ (∀ i, aZ H' 2 i = aZ H 2 i) ∧ kpM H H' ∧ (∀ i, aZ H' 24 i = aZ H 24 i) ∧ (∀ q : Nat, (q : Int) < (aZ H' 2 2).toInt → ¬ (aZ H' 17 q).toInt = 0) ∧ (∀ q : Nat, (q : Int) < (aZ H 2 2).toInt → (aZ H' 18 q).toInt = (aZ H 2 (69 + 5 * q)).toInt ∧ (aZ H' 17 q).toInt = 1))) := by
    intro N
    induction N with
    | zero => intro v328 H329 hIH329 hJH329 m330 m331 m332 m333 bv328 q1 q5 q6 hmL334; exact absurd hmL334 (Nat.not_lt_zero _)
    | succ N ihL334 =>
      intro v328 H329 hIH329 hJH329 m330 m331 m332 m333 bv328 q1 q5 q6 hmL334
      refine g_iload_n rfl ?_
      refine g_aload_n rfl ?_
      refine g_invvi hIH329 sm_0 rfl rfl rfl rfl (s_180 H329 hIH329 hJH329) (fun v337 H335 r336 => ?_)
      obtain ⟨rfl, bv337, p338⟩ := r336
      refine g_if2_ge (fun c339 => ?_) (fun c339 => ?_)
      · exact g_ret ⟨rfl, hIH329, hJH329, m330, m331, m332, m333, (fun q hq => q1 q (by omega)), (fun q hq => by have hz := congrArg Int32.toInt (m331 2); exact ⟨q5 q (by omega), q6 q (by omega)⟩)⟩
      · refine g_aload_n rfl ?_
        refine g_gfr hIH329 sm_0 rfl ?_
        refine g_iload_n rfl ?_
        refine g_iconst (by decide) (fun v340 kv340 => ?_)
        refine g_zastore hIH329 sm_17 (by omega) (by omega) (fun H341 eH341 hIH341 => ?_)
        have hJH341 : JN H341 := JN_sA (by decide) eH341 hJH329
        have m342 : ∀ a f, fZ H341 a f = fZ H a f := fun a f => (by rw [eH341, fZ_sA] : fZ H341 a f = fZ H329 a f).trans (m330 a f)
        have m343 : ∀ i, aZ H341 2 i = aZ H 2 i := fun i => (by rw [eH341, aZ_sA_nc (by omega)] : aZ H341 2 i = aZ H329 2 i).trans (m331 i)
        have m344 : kpM H H341 := kpM_A m332 eH341 (by omega)
        have m345 : ∀ i, aZ H341 24 i = aZ H 24 i := fun i => (by rw [eH341, aZ_sA_nc (by omega)] : aZ H341 24 i = aZ H329 24 i).trans (m333 i)
        refine g_aload_n rfl ?_
        refine g_gfr hIH341 sm_0 rfl ?_
        refine g_iload_n rfl ?_
        refine g_aload_n rfl ?_
        refine g_iload_n rfl ?_
        refine g_iconst (by decide) (fun v346 kv346 => ?_)
        refine g_invvi hIH341 sm_0 rfl rfl rfl rfl (s_181 v328 (by omega) v346 (by omega) H341 hIH341 hJH341) (fun v349 H347 r348 => ?_)
        obtain ⟨rfl, p350⟩ := r348
        have tv349 : v349.toInt = (aZ H341 2 (69 + 5 * v328.toInt + v346.toInt).toNat).toInt := by rw [p350]
        refine g_iastore hIH341 sm_18 (by omega) (gz_any _) (fun H351 eH351 hIH351 => ?_)
        have hJH351 : JN H351 := JN_sA (by decide) eH351 hJH341
        have m352 : ∀ a f, fZ H351 a f = fZ H a f := fun a f => (by rw [eH351, fZ_sA] : fZ H351 a f = fZ H341 a f).trans (m342 a f)
        have m353 : ∀ i, aZ H351 2 i = aZ H 2 i := fun i => (by rw [eH351, aZ_sA_nc (by omega)] : aZ H351 2 i = aZ H341 2 i).trans (m343 i)
        have m354 : kpM H H351 := kpM_A m344 eH351 (by omega)
        have m355 : ∀ i, aZ H351 24 i = aZ H 24 i := fun i => (by rw [eH351, aZ_sA_nc (by omega)] : aZ H351 24 i = aZ H341 24 i).trans (m345 i)
        refine g_iinc (l' := (fun v356 => [(0, .ref 0), (1, .int v356)])) rfl rfl (by decide) (by omega) (fun _ => rfl) (fun v356 ev356 => ?_)
        refine g_goto ?_
        exact ihL334 v356 H351 hIH351 hJH351 m352 m353 m354 m355 (by omega) (fun q hq => by rw [eH351, aZ_sA_nc (by decide), eH341]; if e : v328.toInt.toNat = q then (subst e; rw [aZ_sA_eq hIH329 sm_17 (by omega)]; omega) else (rw [aZ_sA_ne e]; exact q1 q (by omega))) (fun q hq => by rw [eH351]; if e : v328.toInt.toNat = q then (subst e; rw [aZ_sA_eq hIH341 sm_18 (by omega), tv349, kv346, m343, show (69 + 5 * v328.toInt + 0).toNat = 69 + 5 * v328.toInt.toNat by omega]) else (rw [aZ_sA_ne e, eH341, aZ_sA_nc (by decide)]; exact q5 q (by omega))) (fun q hq => by rw [eH351, aZ_sA_nc (by decide), eH341]; if e : v328.toInt.toNat = q then (subst e; rw [aZ_sA_eq hIH329 sm_17 (by omega), kv340]) else (rw [aZ_sA_ne e]; exact q6 q (by omega))) (by omega)
  exact L334 _ v327 H hI hJ mkF mk2 mkfr mk24 (by omega) (fun q hq => absurd hq (by omega)) (fun q hq => absurd hq (by omega)) (fun q hq => absurd hq (by omega)) (Nat.lt_succ_self _)
set_option maxRecDepth 4000 in
set_option maxHeartbeats 4000000 in
/-- M.sorts -/
theorem r_183 (H : mzH) (hI : gI SM H) (hJ : JM H) : gCall 183 [.ref 0] H (gRv (fun H' => gI SM H' ∧ JM H' ∧ fZ H' 0 2 = fZ H 0 2 ∧ fZ H' 0 41 = fZ H 0 41 ∧ fZ H' 0 42 = fZ H 0 42 ∧ fZ H' 0 43 = fZ H 0 43 ∧ (∀ i, aZ H' 2 i = aZ H 2 i) ∧ (∀ i, aZ H' 17 i = aZ H 17 i) ∧ kpM H H' ∧ (∀ i, aZ H' 18 i = aZ H 18 i) ∧ (∀ i, aZ H' 7 i = aZ H 7 i) ∧ (∀ i, aZ H' 9 i = aZ H 9 i) ∧ (∀ i, aZ H' 12 i = aZ H 12 i) ∧ (∀ i, aZ H' 13 i = aZ H 13 i) ∧ (∀ i, aZ H' 14 i = aZ H 14 i) ∧ (∀ i, aZ H' 15 i = aZ H 15 i) ∧ (∀ i, aZ H' 16 i = aZ H 16 i) ∧ (∀ i, aZ H' 24 i = aZ H 24 i) ∧ pmA H' (aZ H' 2 2).toInt 60 ∧ odI H' H (aZ H 2 2).toInt.toNat)) := by
  obtain ⟨k0_2, ek0_2⟩ : ∃ z, z = fZ H 0 2 := ⟨_, rfl⟩
  have ik0_2 : k0_2.toInt = (fZ H 0 2).toInt := by rw [← ek0_2]
  have bk0_2 : 0 ≤ k0_2.toInt ∧ k0_2.toInt ≤ 900 := by rw [ek0_2]; exact fZ_of hI sm_0 rfl
  obtain ⟨k0_41, ek0_41⟩ : ∃ z, z = fZ H 0 41 := ⟨_, rfl⟩
  have ik0_41 : k0_41.toInt = (fZ H 0 41).toInt := by rw [← ek0_41]
  obtain ⟨k0_42, ek0_42⟩ : ∃ z, z = fZ H 0 42 := ⟨_, rfl⟩
  have ik0_42 : k0_42.toInt = (fZ H 0 42).toInt := by rw [← ek0_42]
  obtain ⟨k0_43, ek0_43⟩ : ∃ z, z = fZ H 0 43 := ⟨_, rfl⟩
  have ik0_43 : k0_43.toInt = (fZ H 0 43).toInt := by rw [← ek0_43]
  have mk2 : ∀ i, aZ H 2 i = aZ H 2 i := fun _ => rfl
  have mk17 : ∀ i, aZ H 17 i = aZ H 17 i := fun _ => rfl
  have mkfr : kpM H H := kpM_r
  have mk18 : ∀ i, aZ H 18 i = aZ H 18 i := fun _ => rfl
  have mk7 : ∀ i, aZ H 7 i = aZ H 7 i := fun _ => rfl
  have mk9 : ∀ i, aZ H 9 i = aZ H 9 i := fun _ => rfl
  have mk12 : ∀ i, aZ H 12 i = aZ H 12 i := fun _ => rfl
  have mk13 : ∀ i, aZ H 13 i = aZ H 13 i := fun _ => rfl
  have mk14 : ∀ i, aZ H 14 i = aZ H 14 i := fun _ => rfl
  have mk15 : ∀ i, aZ H 15 i = aZ H 15 i := fun _ => rfl
  have mk16 : ∀ i, aZ H 16 i = aZ H 16 i := fun _ => rfl
  have mk24 : ∀ i, aZ H 24 i = aZ H 24 i := fun _ => rfl
  refine gG_call [(0, .ref 0)] ⟨rfl, trivial⟩ ?_
  show gG 3 zB_183 (mzBlk zB_183 0) [(0, .ref 0)] [] H 0 0 _
  refine g_aload_n rfl ?_
  refine g_iconst (by decide) (fun v1404 kv1404 => ?_)
  refine g_pfi hI sm_0 rfl (by omega) (fun H1405 eH1405 hIH1405 => ?_)
  have hJH1405 : JM H1405 := JM_sF eH1405 hJ
  have e1406 : k0_2 = fZ H1405 0 2 := by rw [eH1405, fZ_sF_ne (by decide)]; exact ek0_2
  have e1407 : k0_41 = fZ H1405 0 41 := by rw [eH1405, fZ_sF_ne (by decide)]; exact ek0_41
  have e1408 : k0_42 = fZ H1405 0 42 := by rw [eH1405, fZ_sF_ne (by decide)]; exact ek0_42
  have e1409 : k0_43 = fZ H1405 0 43 := by rw [eH1405, fZ_sF_ne (by decide)]; exact ek0_43
  have e1410 : v1404 = fZ H1405 0 34 := by rw [eH1405, fZ_sF_eq hI sm_0 rfl]
  have m1411 : ∀ i, aZ H1405 2 i = aZ H 2 i := fun i => (by rw [eH1405, aZ_sF] : aZ H1405 2 i = aZ H 2 i).trans (mk2 i)
  have m1412 : ∀ i, aZ H1405 17 i = aZ H 17 i := fun i => (by rw [eH1405, aZ_sF] : aZ H1405 17 i = aZ H 17 i).trans (mk17 i)
  have m1413 : kpM H H1405 := kpM_F mkfr eH1405 (by omega)
  have m1414 : ∀ i, aZ H1405 18 i = aZ H 18 i := fun i => (by rw [eH1405, aZ_sF] : aZ H1405 18 i = aZ H 18 i).trans (mk18 i)
  have m1415 : ∀ i, aZ H1405 7 i = aZ H 7 i := fun i => (by rw [eH1405, aZ_sF] : aZ H1405 7 i = aZ H 7 i).trans (mk7 i)
  have m1416 : ∀ i, aZ H1405 9 i = aZ H 9 i := fun i => (by rw [eH1405, aZ_sF] : aZ H1405 9 i = aZ H 9 i).trans (mk9 i)
  have m1417 : ∀ i, aZ H1405 12 i = aZ H 12 i := fun i => (by rw [eH1405, aZ_sF] : aZ H1405 12 i = aZ H 12 i).trans (mk12 i)
  have m1418 : ∀ i, aZ H1405 13 i = aZ H 13 i := fun i => (by rw [eH1405, aZ_sF] : aZ H1405 13 i = aZ H 13 i).trans (mk13 i)
  have m1419 : ∀ i, aZ H1405 14 i = aZ H 14 i := fun i => (by rw [eH1405, aZ_sF] : aZ H1405 14 i = aZ H 14 i).trans (mk14 i)
  have m1420 : ∀ i, aZ H1405 15 i = aZ H 15 i := fun i => (by rw [eH1405, aZ_sF] : aZ H1405 15 i = aZ H 15 i).trans (mk15 i)
  have m1421 : ∀ i, aZ H1405 16 i = aZ H 16 i := fun i => (by rw [eH1405, aZ_sF] : aZ H1405 16 i = aZ H 16 i).trans (mk16 i)
  have m1422 : ∀ i, aZ H1405 24 i = aZ H 24 i := fun i => (by rw [eH1405, aZ_sF] : aZ H1405 24 i = aZ H 24 i).trans (mk24 i)
  have ie1410 : v1404.toInt = (fZ H1405 0 34).toInt := by rw [← e1410]
  refine g_iconst (by decide) (fun v1423 kv1423 => ?_)
  refine g_istore_n (l' := [(0, .ref 0), (1, .int v1423)]) rfl rfl ?_
  refine g_nop ?_
  have L1442 : ∀ (N : Nat) (v1424 : Int32) (H1425 : mzH), gI SM H1425 → JM H1425 → k0_2 = fZ H1425 0 2 → k0_41 = fZ H1425 0 41 → k0_42 = fZ H1425 0 42 → k0_43 = fZ H1425 0 43 → (∀ i, aZ H1425 2 i = aZ H 2 i) → (∀ i, aZ H1425 17 i = aZ H 17 i) → kpM H H1425 → (∀ i, aZ H1425 18 i = aZ H 18 i) → (∀ i, aZ H1425 7 i = aZ H 7 i) → (∀ i, aZ H1425 9 i = aZ H 9 i) → (∀ i, aZ H1425 12 i = aZ H 12 i) → (∀ i, aZ H1425 13 i = aZ H 13 i) → (∀ i, aZ H1425 14 i = aZ H 14 i) → (∀ i, aZ H1425 15 i = aZ H 15 i) → (∀ i, aZ H1425 16 i = aZ H 16 i) → (∀ i, aZ H1425 24 i = aZ H 24 i) → (0 ≤ v1424.toInt ∧ v1424.toInt ≤ 60) → (fZ H1425 0 34).toInt ≤ v1424.toInt → pmA H1425 v1424.toInt (fZ H1425 0 34).toInt → odI H1425 H v1424.toInt.toNat → (v1424.toInt ≤ 0 ∨ v1424.toInt ≤ (aZ H 2 2).toInt) → (60 - v1424.toInt).toNat < N → gG 3 zB_183 (mzBlk zB_183 1) [(0, .ref 0), (1, .int v1424)] [] H1425 0 0 (gRv (fun H' => gI SM H' ∧ JM H' ∧ fZ H' 0 2 = fZ H 0 2 ∧ fZ H' 0 41 = fZ H 0 41 ∧ fZ H' 0 42 = fZ H 0 42 ∧ fZ H' 0 43 = fZ H 0 43 ∧ (∀ i, aZ H' 2 i = aZ H 2 i) ∧ (∀ i, aZ H' 17 i = aZ H 17 i) ∧ kpM H H' ∧ (∀ i, aZ H' 18 i = aZ H 18 i) ∧ (∀ i, aZ H' 7 i = aZ H 7 i) ∧ (∀ i, aZ H' 9 i = aZ H 9 i) ∧ (∀ i, aZ H' 12 i = aZ H 12 i) ∧ (∀ i, aZ H' 13 i = aZ H 13 i) ∧ (∀ i, aZ H' 14 i = aZ H 14 i) ∧ (∀ i, aZ H' 15 i = aZ H 15 i) ∧ (∀ i, aZ H' 16 i = aZ H 16 i) ∧ (∀ i, aZ H' 24 i = aZ H 24 i) ∧ pmA H' (aZ H' 2 2).toInt 60 ∧ odI H' H (aZ H 2 2).toInt.toNat)) := by
    intro N
    induction N with
    | zero => intro v1424 H1425 hIH1425 hJH1425 e1426 e1427 e1428 e1429 m1430 m1431 m1432 m1433 m1434 m1435 m1436 m1437 m1438 m1439 m1440 m1441 bv1424 q1 q2 q5 q9 hmL1442; exact absurd hmL1442 (Nat.not_lt_zero _)
    | succ N ihL1442 =>
      intro v1424 H1425 hIH1425 hJH1425 e1426 e1427 e1428 e1429 m1430 m1431 m1432 m1433 m1434 m1435 m1436 m1437 m1438 m1439 m1440 m1441 bv1424 q1 q2 q5 q9 hmL1442
      obtain ⟨k1443, ek1443⟩ : ∃ z, z = fZ H1425 0 34 := ⟨_, rfl⟩
      have ik1443 : k1443.toInt = (fZ H1425 0 34).toInt := by rw [← ek1443]
      have bk1443 : 0 ≤ k1443.toInt ∧ k1443.toInt ≤ 60 := by rw [ek1443]; exact fZ_of hIH1425 sm_0 rfl
      have hq2 := congrArg Int32.toInt (m1430 2)
      refine g_iload_n rfl ?_
      refine g_aload_n rfl ?_
      refine g_invvi hIH1425 sm_0 rfl rfl rfl rfl (s_180 H1425 hIH1425 (JM_n hJH1425)) (fun v1446 H1444 r1445 => ?_)
      obtain ⟨rfl, bv1446, p1447⟩ := r1445
      refine g_if2_ge (fun c1448 => ?_) (fun c1448 => ?_)
      · exact g_ret ⟨rfl, hIH1425, hJH1425, (e1426.symm.trans ek0_2), (e1427.symm.trans ek0_41), (e1428.symm.trans ek0_42), (e1429.symm.trans ek0_43), m1430, m1431, m1432, m1433, m1434, m1435, m1436, m1437, m1438, m1439, m1440, m1441, (pmA_le q2 (by omega) (by omega)), (od_e q5 (by have hz := congrArg Int32.toInt (m1430 2); omega))⟩
      · refine g_aload_n rfl ?_
        refine g_gfr hIH1425 sm_0 rfl ?_
        refine g_iload_n rfl ?_
        refine g_baload hIH1425 sm_17 rfl (by omega) (fun v1449 ev1449 lv1449 uv1449 => ?_)
        have yv1449 : v1449.toInt = (aZ H 17 v1424.toInt.toNat).toInt := by rw [ev1449, m1431]
        refine g_if_ne (fun c1450 => ?_) (fun c1450 => ?_)
        · refine g_aload_n rfl ?_
          refine g_gfk hIH1425 sm_0 rfl ek1443 ?_
          refine g_istore_n (l' := [(0, .ref 0), (1, .int v1424), (2, .int k1443)]) rfl rfl ?_
          refine g_nop ?_
          have L1470 : ∀ (N : Nat) (v1451 : Int32) (H1452 : mzH), gI SM H1452 → JM H1452 → k0_2 = fZ H1452 0 2 → k0_41 = fZ H1452 0 41 → k0_42 = fZ H1452 0 42 → k0_43 = fZ H1452 0 43 → k1443 = fZ H1452 0 34 → (∀ i, aZ H1452 2 i = aZ H 2 i) → (∀ i, aZ H1452 17 i = aZ H 17 i) → kpM H H1452 → (∀ i, aZ H1452 18 i = aZ H 18 i) → (∀ i, aZ H1452 7 i = aZ H 7 i) → (∀ i, aZ H1452 9 i = aZ H 9 i) → (∀ i, aZ H1452 12 i = aZ H 12 i) → (∀ i, aZ H1452 13 i = aZ H 13 i) → (∀ i, aZ H1452 14 i = aZ H 14 i) → (∀ i, aZ H1452 15 i = aZ H 15 i) → (∀ i, aZ H1452 16 i = aZ H 16 i) → (∀ i, aZ H1452 24 i = aZ H 24 i) → (0 ≤ v1451.toInt ∧ v1451.toInt ≤ 60) → pmB H1452 v1424.toInt k1443.toInt v1451.toInt → v1451.toInt ≤ k1443.toInt → inO (hoM H) (ord2 (inM H) (hoM H) v1424.toInt.toNat).2 v1424.toInt.toNat (ord2 (inM H) (hoM H) v1424.toInt.toNat).1 v1451.toInt.toNat (fun q => (aZ H1452 19 q).toInt) → (v1451.toInt - (0)).toNat < N → gG 3 zB_183 (mzBlk zB_183 3) [(0, .ref 0), (1, .int v1424), (2, .int v1451)] [] H1452 0 0 (gRv (fun H' => gI SM H' ∧ JM H' ∧ fZ H' 0 2 = fZ H 0 2 ∧ fZ H' 0 41 = fZ H 0 41 ∧ fZ H' 0 42 = fZ H 0 42 ∧ fZ H' 0 43 = fZ H 0 43 ∧ (∀ i, aZ H' 2 i = aZ H 2 i) ∧ (∀ i, aZ H' 17 i = aZ H 17 i) ∧ kpM H H' ∧ (∀ i, aZ H' 18 i = aZ H 18 i) ∧ (∀ i, aZ H' 7 i = aZ H 7 i) ∧ (∀ i, aZ H' 9 i = aZ H 9 i) ∧ (∀ i, aZ H' 12 i = aZ H 12 i) ∧ (∀ i, aZ H' 13 i = aZ H 13 i) ∧ (∀ i, aZ H' 14 i = aZ H 14 i) ∧ (∀ i, aZ H' 15 i = aZ H 15 i) ∧ (∀ i, aZ H' 16 i = aZ H 16 i) ∧ (∀ i, aZ H' 24 i = aZ H 24 i) ∧ pmA H' (aZ H' 2 2).toInt 60 ∧ odI H' H (aZ H 2 2).toInt.toNat)) := by
            intro N
            induction N with
            | zero => intro v1451 H1452 hIH1452 hJH1452 e1453 e1454 e1455 e1456 e1457 m1458 m1459 m1460 m1461 m1462 m1463 m1464 m1465 m1466 m1467 m1468 m1469 bv1451 q3 q4 q7 hmL1470; exact absurd hmL1470 (Nat.not_lt_zero _)
            | succ N ihL1470 =>
              intro v1451 H1452 hIH1452 hJH1452 e1453 e1454 e1455 e1456 e1457 m1458 m1459 m1460 m1461 m1462 m1463 m1464 m1465 m1466 m1467 m1468 m1469 bv1451 q3 q4 q7 hmL1470
              refine g_iload_n rfl ?_
              refine g_if_le (fun c1471 => ?_) (fun c1471 => ?_)
              · refine g_aload_n rfl ?_
                refine g_gfr hIH1452 sm_0 rfl ?_
                refine g_iload_n rfl ?_
                refine g_iload_n rfl ?_
                refine g_iastore hIH1452 sm_19 (by omega) (by omega) (fun H1472 eH1472 hIH1472 => ?_)
                have hJH1472 : JM H1472 := JM_sA (by decide) eH1472 hJH1452
                have e1473 : k0_2 = fZ H1472 0 2 := by rw [eH1472, fZ_sA]; exact e1453
                have e1474 : k0_41 = fZ H1472 0 41 := by rw [eH1472, fZ_sA]; exact e1454
                have e1475 : k0_42 = fZ H1472 0 42 := by rw [eH1472, fZ_sA]; exact e1455
                have e1476 : k0_43 = fZ H1472 0 43 := by rw [eH1472, fZ_sA]; exact e1456
                have e1477 : k1443 = fZ H1472 0 34 := by rw [eH1472, fZ_sA]; exact e1457
                have m1478 : ∀ i, aZ H1472 2 i = aZ H 2 i := fun i => (by rw [eH1472, aZ_sA_nc (by omega)] : aZ H1472 2 i = aZ H1452 2 i).trans (m1458 i)
                have m1479 : ∀ i, aZ H1472 17 i = aZ H 17 i := fun i => (by rw [eH1472, aZ_sA_nc (by omega)] : aZ H1472 17 i = aZ H1452 17 i).trans (m1459 i)
                have m1480 : kpM H H1472 := kpM_A m1460 eH1472 (by omega)
                have m1481 : ∀ i, aZ H1472 18 i = aZ H 18 i := fun i => (by rw [eH1472, aZ_sA_nc (by omega)] : aZ H1472 18 i = aZ H1452 18 i).trans (m1461 i)
                have m1482 : ∀ i, aZ H1472 7 i = aZ H 7 i := fun i => (by rw [eH1472, aZ_sA_nc (by omega)] : aZ H1472 7 i = aZ H1452 7 i).trans (m1462 i)
                have m1483 : ∀ i, aZ H1472 9 i = aZ H 9 i := fun i => (by rw [eH1472, aZ_sA_nc (by omega)] : aZ H1472 9 i = aZ H1452 9 i).trans (m1463 i)
                have m1484 : ∀ i, aZ H1472 12 i = aZ H 12 i := fun i => (by rw [eH1472, aZ_sA_nc (by omega)] : aZ H1472 12 i = aZ H1452 12 i).trans (m1464 i)
                have m1485 : ∀ i, aZ H1472 13 i = aZ H 13 i := fun i => (by rw [eH1472, aZ_sA_nc (by omega)] : aZ H1472 13 i = aZ H1452 13 i).trans (m1465 i)
                have m1486 : ∀ i, aZ H1472 14 i = aZ H 14 i := fun i => (by rw [eH1472, aZ_sA_nc (by omega)] : aZ H1472 14 i = aZ H1452 14 i).trans (m1466 i)
                have m1487 : ∀ i, aZ H1472 15 i = aZ H 15 i := fun i => (by rw [eH1472, aZ_sA_nc (by omega)] : aZ H1472 15 i = aZ H1452 15 i).trans (m1467 i)
                have m1488 : ∀ i, aZ H1472 16 i = aZ H 16 i := fun i => (by rw [eH1472, aZ_sA_nc (by omega)] : aZ H1472 16 i = aZ H1452 16 i).trans (m1468 i)
                have m1489 : ∀ i, aZ H1472 24 i = aZ H 24 i := fun i => (by rw [eH1472, aZ_sA_nc (by omega)] : aZ H1472 24 i = aZ H1452 24 i).trans (m1469 i)
                have ie1477 : k1443.toInt = (fZ H1472 0 34).toInt := by rw [← e1477]
                refine g_aload_n rfl ?_
                refine g_dup rfl ?_
                refine g_gfk hIH1472 sm_0 rfl e1477 ?_
                refine g_iconst (by decide) (fun v1490 kv1490 => ?_)
                refine g_iadd (by omega) (fun v1491 ev1491 => ?_)
                refine g_pfi hIH1472 sm_0 rfl (by omega) (fun H1492 eH1492 hIH1492 => ?_)
                have hJH1492 : JM H1492 := JM_sF eH1492 hJH1472
                have e1493 : k0_2 = fZ H1492 0 2 := by rw [eH1492, fZ_sF_ne (by decide)]; exact e1473
                have e1494 : k0_41 = fZ H1492 0 41 := by rw [eH1492, fZ_sF_ne (by decide)]; exact e1474
                have e1495 : k0_42 = fZ H1492 0 42 := by rw [eH1492, fZ_sF_ne (by decide)]; exact e1475
                have e1496 : k0_43 = fZ H1492 0 43 := by rw [eH1492, fZ_sF_ne (by decide)]; exact e1476
                have e1497 : v1491 = fZ H1492 0 34 := by rw [eH1492, fZ_sF_eq hIH1472 sm_0 rfl]
                have m1498 : ∀ i, aZ H1492 2 i = aZ H 2 i := fun i => (by rw [eH1492, aZ_sF] : aZ H1492 2 i = aZ H1472 2 i).trans (m1478 i)
                have m1499 : ∀ i, aZ H1492 17 i = aZ H 17 i := fun i => (by rw [eH1492, aZ_sF] : aZ H1492 17 i = aZ H1472 17 i).trans (m1479 i)
                have m1500 : kpM H H1492 := kpM_F m1480 eH1492 (by omega)
                have m1501 : ∀ i, aZ H1492 18 i = aZ H 18 i := fun i => (by rw [eH1492, aZ_sF] : aZ H1492 18 i = aZ H1472 18 i).trans (m1481 i)
                have m1502 : ∀ i, aZ H1492 7 i = aZ H 7 i := fun i => (by rw [eH1492, aZ_sF] : aZ H1492 7 i = aZ H1472 7 i).trans (m1482 i)
                have m1503 : ∀ i, aZ H1492 9 i = aZ H 9 i := fun i => (by rw [eH1492, aZ_sF] : aZ H1492 9 i = aZ H1472 9 i).trans (m1483 i)
                have m1504 : ∀ i, aZ H1492 12 i = aZ H 12 i := fun i => (by rw [eH1492, aZ_sF] : aZ H1492 12 i = aZ H1472 12 i).trans (m1484 i)
                have m1505 : ∀ i, aZ H1492 13 i = aZ H 13 i := fun i => (by rw [eH1492, aZ_sF] : aZ H1492 13 i = aZ H1472 13 i).trans (m1485 i)
                have m1506 : ∀ i, aZ H1492 14 i = aZ H 14 i := fun i => (by rw [eH1492, aZ_sF] : aZ H1492 14 i = aZ H1472 14 i).trans (m1486 i)
                have m1507 : ∀ i, aZ H1492 15 i = aZ H 15 i := fun i => (by rw [eH1492, aZ_sF] : aZ H1492 15 i = aZ H1472 15 i).trans (m1487 i)
                have m1508 : ∀ i, aZ H1492 16 i = aZ H 16 i := fun i => (by rw [eH1492, aZ_sF] : aZ H1492 16 i = aZ H1472 16 i).trans (m1488 i)
                have m1509 : ∀ i, aZ H1492 24 i = aZ H 24 i := fun i => (by rw [eH1492, aZ_sF] : aZ H1492 24 i = aZ H1472 24 i).trans (m1489 i)
                have ie1497 : v1491.toInt = (fZ H1492 0 34).toInt := by rw [← e1497]
                refine g_nop ?_
                refine g_iinc (l' := (fun v1510 => [(0, .ref 0), (1, .int v1510), (2, .int v1451)])) rfl rfl (by decide) (by omega) (fun _ => rfl) (fun v1510 ev1510 => ?_)
                refine g_goto ?_
                refine gG_pick [0, 1] (l' := [(0, .ref 0), (1, .int v1510)]) rfl ?_
                exact ihL1442 v1510 H1492 hIH1492 hJH1492 e1493 e1494 e1495 e1496 m1498 m1499 m1500 m1501 m1502 m1503 m1504 m1505 m1506 m1507 m1508 m1509 (by omega) (by omega) (pmA_st hIH1452 (by omega) rfl eH1472 (fun a i => by rw [eH1492, aZ_sF]) q3 (by omega) (by omega)) (od_st (in_en hIH1452 sm_19 q7 eH1472 (by omega) (by omega) (Or.inl (by omega))) (by omega) (by show ¬ (aZ H 17 _).toInt = 0; omega) eH1492 (by have := q5.1; omega)) (by have hz := congrArg Int32.toInt (m1498 2); omega) (by omega)
              · refine g_aload_n rfl ?_
                refine g_gfr hIH1452 sm_0 rfl ?_
                refine g_aload_n rfl ?_
                refine g_gfr hIH1452 sm_0 rfl ?_
                refine g_iload_n rfl ?_
                refine g_iconst (by decide) (fun v1511 kv1511 => ?_)
                refine g_isub (by omega) (fun v1512 ev1512 => ?_)
                refine g_iaload hIH1452 sm_19 rfl (by omega) (fun v1513 ev1513 lv1513 uv1513 => ?_)
                have yv1513 : v1513.toInt = (aZ H1452 19 v1512.toInt.toNat).toInt := by rw [ev1513]
                refine g_iaload hIH1452 sm_18 rfl (by omega) (fun v1514 ev1514 lv1514 uv1514 => ?_)
                have yv1514 : v1514.toInt = (aZ H 18 v1513.toInt.toNat).toInt := by rw [ev1514, m1461]
                refine g_aload_n rfl ?_
                refine g_gfr hIH1452 sm_0 rfl ?_
                refine g_iload_n rfl ?_
                refine g_iaload hIH1452 sm_18 rfl (by omega) (fun v1515 ev1515 lv1515 uv1515 => ?_)
                have yv1515 : v1515.toInt = (aZ H 18 v1424.toInt.toNat).toInt := by rw [ev1515, m1461]
                refine g_if2_le (fun c1516 => ?_) (fun c1516 => ?_)
                · refine g_aload_n rfl ?_
                  refine g_gfr hIH1452 sm_0 rfl ?_
                  refine g_iload_n rfl ?_
                  refine g_iload_n rfl ?_
                  refine g_iastore hIH1452 sm_19 (by omega) (by omega) (fun H1517 eH1517 hIH1517 => ?_)
                  have hJH1517 : JM H1517 := JM_sA (by decide) eH1517 hJH1452
                  have e1518 : k0_2 = fZ H1517 0 2 := by rw [eH1517, fZ_sA]; exact e1453
                  have e1519 : k0_41 = fZ H1517 0 41 := by rw [eH1517, fZ_sA]; exact e1454
                  have e1520 : k0_42 = fZ H1517 0 42 := by rw [eH1517, fZ_sA]; exact e1455
                  have e1521 : k0_43 = fZ H1517 0 43 := by rw [eH1517, fZ_sA]; exact e1456
                  have e1522 : k1443 = fZ H1517 0 34 := by rw [eH1517, fZ_sA]; exact e1457
                  have m1523 : ∀ i, aZ H1517 2 i = aZ H 2 i := fun i => (by rw [eH1517, aZ_sA_nc (by omega)] : aZ H1517 2 i = aZ H1452 2 i).trans (m1458 i)
                  have m1524 : ∀ i, aZ H1517 17 i = aZ H 17 i := fun i => (by rw [eH1517, aZ_sA_nc (by omega)] : aZ H1517 17 i = aZ H1452 17 i).trans (m1459 i)
                  have m1525 : kpM H H1517 := kpM_A m1460 eH1517 (by omega)
                  have m1526 : ∀ i, aZ H1517 18 i = aZ H 18 i := fun i => (by rw [eH1517, aZ_sA_nc (by omega)] : aZ H1517 18 i = aZ H1452 18 i).trans (m1461 i)
                  have m1527 : ∀ i, aZ H1517 7 i = aZ H 7 i := fun i => (by rw [eH1517, aZ_sA_nc (by omega)] : aZ H1517 7 i = aZ H1452 7 i).trans (m1462 i)
                  have m1528 : ∀ i, aZ H1517 9 i = aZ H 9 i := fun i => (by rw [eH1517, aZ_sA_nc (by omega)] : aZ H1517 9 i = aZ H1452 9 i).trans (m1463 i)
                  have m1529 : ∀ i, aZ H1517 12 i = aZ H 12 i := fun i => (by rw [eH1517, aZ_sA_nc (by omega)] : aZ H1517 12 i = aZ H1452 12 i).trans (m1464 i)
                  have m1530 : ∀ i, aZ H1517 13 i = aZ H 13 i := fun i => (by rw [eH1517, aZ_sA_nc (by omega)] : aZ H1517 13 i = aZ H1452 13 i).trans (m1465 i)
                  have m1531 : ∀ i, aZ H1517 14 i = aZ H 14 i := fun i => (by rw [eH1517, aZ_sA_nc (by omega)] : aZ H1517 14 i = aZ H1452 14 i).trans (m1466 i)
                  have m1532 : ∀ i, aZ H1517 15 i = aZ H 15 i := fun i => (by rw [eH1517, aZ_sA_nc (by omega)] : aZ H1517 15 i = aZ H1452 15 i).trans (m1467 i)
                  have m1533 : ∀ i, aZ H1517 16 i = aZ H 16 i := fun i => (by rw [eH1517, aZ_sA_nc (by omega)] : aZ H1517 16 i = aZ H1452 16 i).trans (m1468 i)
                  have m1534 : ∀ i, aZ H1517 24 i = aZ H 24 i := fun i => (by rw [eH1517, aZ_sA_nc (by omega)] : aZ H1517 24 i = aZ H1452 24 i).trans (m1469 i)
                  have ie1522 : k1443.toInt = (fZ H1517 0 34).toInt := by rw [← e1522]
                  refine g_aload_n rfl ?_
                  refine g_dup rfl ?_
                  refine g_gfk hIH1517 sm_0 rfl e1522 ?_
                  refine g_iconst (by decide) (fun v1535 kv1535 => ?_)
                  refine g_iadd (by omega) (fun v1536 ev1536 => ?_)
                  refine g_pfi hIH1517 sm_0 rfl (by omega) (fun H1537 eH1537 hIH1537 => ?_)
                  have hJH1537 : JM H1537 := JM_sF eH1537 hJH1517
                  have e1538 : k0_2 = fZ H1537 0 2 := by rw [eH1537, fZ_sF_ne (by decide)]; exact e1518
                  have e1539 : k0_41 = fZ H1537 0 41 := by rw [eH1537, fZ_sF_ne (by decide)]; exact e1519
                  have e1540 : k0_42 = fZ H1537 0 42 := by rw [eH1537, fZ_sF_ne (by decide)]; exact e1520
                  have e1541 : k0_43 = fZ H1537 0 43 := by rw [eH1537, fZ_sF_ne (by decide)]; exact e1521
                  have e1542 : v1536 = fZ H1537 0 34 := by rw [eH1537, fZ_sF_eq hIH1517 sm_0 rfl]
                  have m1543 : ∀ i, aZ H1537 2 i = aZ H 2 i := fun i => (by rw [eH1537, aZ_sF] : aZ H1537 2 i = aZ H1517 2 i).trans (m1523 i)
                  have m1544 : ∀ i, aZ H1537 17 i = aZ H 17 i := fun i => (by rw [eH1537, aZ_sF] : aZ H1537 17 i = aZ H1517 17 i).trans (m1524 i)
                  have m1545 : kpM H H1537 := kpM_F m1525 eH1537 (by omega)
                  have m1546 : ∀ i, aZ H1537 18 i = aZ H 18 i := fun i => (by rw [eH1537, aZ_sF] : aZ H1537 18 i = aZ H1517 18 i).trans (m1526 i)
                  have m1547 : ∀ i, aZ H1537 7 i = aZ H 7 i := fun i => (by rw [eH1537, aZ_sF] : aZ H1537 7 i = aZ H1517 7 i).trans (m1527 i)
                  have m1548 : ∀ i, aZ H1537 9 i = aZ H 9 i := fun i => (by rw [eH1537, aZ_sF] : aZ H1537 9 i = aZ H1517 9 i).trans (m1528 i)
                  have m1549 : ∀ i, aZ H1537 12 i = aZ H 12 i := fun i => (by rw [eH1537, aZ_sF] : aZ H1537 12 i = aZ H1517 12 i).trans (m1529 i)
                  have m1550 : ∀ i, aZ H1537 13 i = aZ H 13 i := fun i => (by rw [eH1537, aZ_sF] : aZ H1537 13 i = aZ H1517 13 i).trans (m1530 i)
                  have m1551 : ∀ i, aZ H1537 14 i = aZ H 14 i := fun i => (by rw [eH1537, aZ_sF] : aZ H1537 14 i = aZ H1517 14 i).trans (m1531 i)
                  have m1552 : ∀ i, aZ H1537 15 i = aZ H 15 i := fun i => (by rw [eH1537, aZ_sF] : aZ H1537 15 i = aZ H1517 15 i).trans (m1532 i)
                  have m1553 : ∀ i, aZ H1537 16 i = aZ H 16 i := fun i => (by rw [eH1537, aZ_sF] : aZ H1537 16 i = aZ H1517 16 i).trans (m1533 i)
                  have m1554 : ∀ i, aZ H1537 24 i = aZ H 24 i := fun i => (by rw [eH1537, aZ_sF] : aZ H1537 24 i = aZ H1517 24 i).trans (m1534 i)
                  have ie1542 : v1536.toInt = (fZ H1537 0 34).toInt := by rw [← e1542]
                  refine g_nop ?_
                  refine g_iinc (l' := (fun v1555 => [(0, .ref 0), (1, .int v1555), (2, .int v1451)])) rfl rfl (by decide) (by omega) (fun _ => rfl) (fun v1555 ev1555 => ?_)
                  refine g_goto ?_
                  refine gG_pick [0, 1] (l' := [(0, .ref 0), (1, .int v1555)]) rfl ?_
                  exact ihL1442 v1555 H1537 hIH1537 hJH1537 e1538 e1539 e1540 e1541 m1543 m1544 m1545 m1546 m1547 m1548 m1549 m1550 m1551 m1552 m1553 m1554 (by omega) (by omega) (pmA_st hIH1452 (by omega) rfl eH1517 (fun a i => by rw [eH1537, aZ_sF]) q3 (by omega) (by omega)) (od_st (in_en hIH1452 sm_19 q7 eH1517 (by omega) (by omega) (Or.inr (by rw [orv_t q7 yv1513 (by omega) (by omega)]; show ¬ (aZ H 18 v1424.toInt.toNat).toInt < (aZ H 18 v1513.toInt.toNat).toInt; omega))) (by omega) (by show ¬ (aZ H 17 _).toInt = 0; omega) eH1537 (by have := q5.1; omega)) (by have hz := congrArg Int32.toInt (m1543 2); omega) (by omega)
                · refine g_aload_n rfl ?_
                  refine g_gfr hIH1452 sm_0 rfl ?_
                  refine g_iload_n rfl ?_
                  refine g_aload_n rfl ?_
                  refine g_gfr hIH1452 sm_0 rfl ?_
                  refine g_iload_n rfl ?_
                  refine g_iconst (by decide) (fun v1556 kv1556 => ?_)
                  refine g_isub (by omega) (fun v1557 ev1557 => ?_)
                  refine g_iaload hIH1452 sm_19 rfl (by omega) (fun v1558 ev1558 lv1558 uv1558 => ?_)
                  have yv1558 : v1558.toInt = (aZ H1452 19 v1557.toInt.toNat).toInt := by rw [ev1558]
                  refine g_iastore hIH1452 sm_19 (by omega) (by omega) (fun H1559 eH1559 hIH1559 => ?_)
                  have hJH1559 : JM H1559 := JM_sA (by decide) eH1559 hJH1452
                  have e1560 : k0_2 = fZ H1559 0 2 := by rw [eH1559, fZ_sA]; exact e1453
                  have e1561 : k0_41 = fZ H1559 0 41 := by rw [eH1559, fZ_sA]; exact e1454
                  have e1562 : k0_42 = fZ H1559 0 42 := by rw [eH1559, fZ_sA]; exact e1455
                  have e1563 : k0_43 = fZ H1559 0 43 := by rw [eH1559, fZ_sA]; exact e1456
                  have e1564 : k1443 = fZ H1559 0 34 := by rw [eH1559, fZ_sA]; exact e1457
                  have m1565 : ∀ i, aZ H1559 2 i = aZ H 2 i := fun i => (by rw [eH1559, aZ_sA_nc (by omega)] : aZ H1559 2 i = aZ H1452 2 i).trans (m1458 i)
                  have m1566 : ∀ i, aZ H1559 17 i = aZ H 17 i := fun i => (by rw [eH1559, aZ_sA_nc (by omega)] : aZ H1559 17 i = aZ H1452 17 i).trans (m1459 i)
                  have m1567 : kpM H H1559 := kpM_A m1460 eH1559 (by omega)
                  have m1568 : ∀ i, aZ H1559 18 i = aZ H 18 i := fun i => (by rw [eH1559, aZ_sA_nc (by omega)] : aZ H1559 18 i = aZ H1452 18 i).trans (m1461 i)
                  have m1569 : ∀ i, aZ H1559 7 i = aZ H 7 i := fun i => (by rw [eH1559, aZ_sA_nc (by omega)] : aZ H1559 7 i = aZ H1452 7 i).trans (m1462 i)
                  have m1570 : ∀ i, aZ H1559 9 i = aZ H 9 i := fun i => (by rw [eH1559, aZ_sA_nc (by omega)] : aZ H1559 9 i = aZ H1452 9 i).trans (m1463 i)
                  have m1571 : ∀ i, aZ H1559 12 i = aZ H 12 i := fun i => (by rw [eH1559, aZ_sA_nc (by omega)] : aZ H1559 12 i = aZ H1452 12 i).trans (m1464 i)
                  have m1572 : ∀ i, aZ H1559 13 i = aZ H 13 i := fun i => (by rw [eH1559, aZ_sA_nc (by omega)] : aZ H1559 13 i = aZ H1452 13 i).trans (m1465 i)
                  have m1573 : ∀ i, aZ H1559 14 i = aZ H 14 i := fun i => (by rw [eH1559, aZ_sA_nc (by omega)] : aZ H1559 14 i = aZ H1452 14 i).trans (m1466 i)
                  have m1574 : ∀ i, aZ H1559 15 i = aZ H 15 i := fun i => (by rw [eH1559, aZ_sA_nc (by omega)] : aZ H1559 15 i = aZ H1452 15 i).trans (m1467 i)
                  have m1575 : ∀ i, aZ H1559 16 i = aZ H 16 i := fun i => (by rw [eH1559, aZ_sA_nc (by omega)] : aZ H1559 16 i = aZ H1452 16 i).trans (m1468 i)
                  have m1576 : ∀ i, aZ H1559 24 i = aZ H 24 i := fun i => (by rw [eH1559, aZ_sA_nc (by omega)] : aZ H1559 24 i = aZ H1452 24 i).trans (m1469 i)
                  have ie1564 : k1443.toInt = (fZ H1559 0 34).toInt := by rw [← e1564]
                  refine g_iinc (l' := (fun v1577 => [(0, .ref 0), (1, .int v1424), (2, .int v1577)])) rfl rfl (by decide) (by omega) (fun _ => rfl) (fun v1577 ev1577 => ?_)
                  refine g_goto ?_
                  exact ihL1470 v1577 H1559 hIH1559 hJH1559 e1560 e1561 e1562 e1563 e1564 m1565 m1566 m1567 m1568 m1569 m1570 m1571 m1572 m1573 m1574 m1575 m1576 (by omega) (pmB_sh hIH1452 (by omega) (by omega) ev1558 eH1559 q3 (by omega)) (by omega) (in_sp hIH1452 sm_19 q7 eH1559 (by omega) (by omega) (by rw [yv1558, show v1557.toInt.toNat = v1451.toInt.toNat - 1 by omega]) (by rw [orv_t q7 yv1513 (by omega) (by omega)]; show (aZ H 18 v1424.toInt.toNat).toInt < (aZ H 18 v1513.toInt.toNat).toInt; omega) (by omega)) (by omega)
          exact L1470 _ k1443 H1425 hIH1425 hJH1425 e1426 e1427 e1428 e1429 ek1443 m1430 m1431 m1432 m1433 m1434 m1435 m1436 m1437 m1438 m1439 m1440 m1441 (by omega) (pmB_0 (by rw [ek1443]; exact q2)) (by omega) (od_in q5 (by have hz := q5.1; rw [← ek1443] at hz; omega)) (Nat.lt_succ_self _)
        · refine g_goto ?_
          refine g_iinc (l' := (fun v1578 => [(0, .ref 0), (1, .int v1578)])) rfl rfl (by decide) (by omega) (fun _ => rfl) (fun v1578 ev1578 => ?_)
          refine g_goto ?_
          exact ihL1442 v1578 H1425 hIH1425 hJH1425 e1426 e1427 e1428 e1429 m1430 m1431 m1432 m1433 m1434 m1435 m1436 m1437 m1438 m1439 m1440 m1441 (by omega) (by omega) (pmA_skip q2 (by omega) (by omega) (by rw [← ev1449]; omega)) (od_sk q5 (by omega) (by rw [← yv1449]; omega)) (by have hz := congrArg Int32.toInt (m1430 2); omega) (by omega)
  exact L1442 _ v1423 H1405 hIH1405 hJH1405 e1406 e1407 e1408 e1409 m1411 m1412 m1413 m1414 m1415 m1416 m1417 m1418 m1419 m1420 m1421 m1422 (by omega) (by omega) (pmA_0 (by omega)) (od_0 (by omega) (by omega)) (by have hz := congrArg Int32.toInt (m1411 2); omega) (Nat.lt_succ_self _)
set_option maxRecDepth 4000 in
set_option maxHeartbeats 4000000 in
/-- M.clears -/
theorem r_184 (H : mzH) (hI : gI SM H) (hJ : JN H) : gCall 184 [.ref 0] H (gRv (fun H' => gI SM H' ∧ JM H' ∧ fZ H' 0 2 = fZ H 0 2 ∧ fZ H' 0 41 = fZ H 0 41 ∧ fZ H' 0 42 = fZ H 0 42 ∧ fZ H' 0 43 = fZ H 0 43 ∧ (∀ i, aZ H' 2 i = aZ H 2 i) ∧ (∀ i, aZ H' 17 i = aZ H 17 i) ∧ kpM H H' ∧ (∀ i, aZ H' 18 i = aZ H 18 i) ∧ (∀ i, aZ H' 24 i = aZ H 24 i) ∧ pmA H' (aZ H' 2 2).toInt 60 ∧ clR (rgM H') (mdM H') ∧ odI H' H (aZ H 2 2).toInt.toNat)) := by
  obtain ⟨k0_2, ek0_2⟩ : ∃ z, z = fZ H 0 2 := ⟨_, rfl⟩
  have ik0_2 : k0_2.toInt = (fZ H 0 2).toInt := by rw [← ek0_2]
  have bk0_2 : 0 ≤ k0_2.toInt ∧ k0_2.toInt ≤ 900 := by rw [ek0_2]; exact fZ_of hI sm_0 rfl
  obtain ⟨k0_41, ek0_41⟩ : ∃ z, z = fZ H 0 41 := ⟨_, rfl⟩
  have ik0_41 : k0_41.toInt = (fZ H 0 41).toInt := by rw [← ek0_41]
  obtain ⟨k0_42, ek0_42⟩ : ∃ z, z = fZ H 0 42 := ⟨_, rfl⟩
  have ik0_42 : k0_42.toInt = (fZ H 0 42).toInt := by rw [← ek0_42]
  obtain ⟨k0_43, ek0_43⟩ : ∃ z, z = fZ H 0 43 := ⟨_, rfl⟩
  have ik0_43 : k0_43.toInt = (fZ H 0 43).toInt := by rw [← ek0_43]
  have mk2 : ∀ i, aZ H 2 i = aZ H 2 i := fun _ => rfl
  have mk17 : ∀ i, aZ H 17 i = aZ H 17 i := fun _ => rfl
  have mkfr : kpM H H := kpM_r
  have mk18 : ∀ i, aZ H 18 i = aZ H 18 i := fun _ => rfl
  have mk24 : ∀ i, aZ H 24 i = aZ H 24 i := fun _ => rfl
  have mk3 : ∀ i, aZ H 3 i = aZ H 3 i := fun _ => rfl
  refine gG_call [(0, .ref 0)] ⟨rfl, trivial⟩ ?_
  show gG 2 zB_184 (mzBlk zB_184 0) [(0, .ref 0)] [] H 0 0 _
  refine g_iconst (by decide) (fun v829 kv829 => ?_)
  refine g_istore_n (l' := [(0, .ref 0), (1, .int v829)]) rfl rfl ?_
  refine g_nop ?_
  have L842 : ∀ (N : Nat) (v830 : Int32) (H831 : mzH), gI SM H831 → k0_2 = fZ H831 0 2 → k0_41 = fZ H831 0 41 → k0_42 = fZ H831 0 42 → k0_43 = fZ H831 0 43 → (∀ i, aZ H831 2 i = aZ H 2 i) → (∀ i, aZ H831 17 i = aZ H 17 i) → kpM H H831 → (∀ i, aZ H831 18 i = aZ H 18 i) → (∀ i, aZ H831 24 i = aZ H 24 i) → (∀ i, aZ H831 3 i = aZ H 3 i) → (0 ≤ v830.toInt ∧ v830.toInt ≤ 40) → (∀ q, q < v830.toInt.toNat → (aZ H831 9 q).toInt = -5) → (∀ q : Nat, q < v830.toInt.toNat → (aZ H831 7 q).toInt = 0) → (∀ q : Nat, q < v830.toInt.toNat → (aZ H831 9 q).toInt = -5) → (∀ q : Nat, q < v830.toInt.toNat → (aZ H831 12 q).toInt = -5) → (∀ q : Nat, q < v830.toInt.toNat → (aZ H831 13 q).toInt = 0) → (∀ q : Nat, q < v830.toInt.toNat → (aZ H831 14 q).toInt = 0) → (∀ q : Nat, q < v830.toInt.toNat → (aZ H831 15 q).toInt = 0) → (∀ q : Nat, q < v830.toInt.toNat → (aZ H831 16 q).toInt = 0) → (40 - v830.toInt).toNat < N → gG 2 zB_184 (mzBlk zB_184 1) [(0, .ref 0), (1, .int v830)] [] H831 0 0 (gRv (fun H' => gI SM H' ∧ JM H' ∧ fZ H' 0 2 = fZ H 0 2 ∧ fZ H' 0 41 = fZ H 0 41 ∧ fZ H' 0 42 = fZ H 0 42 ∧ fZ H' 0 43 = fZ H 0 43 ∧ (∀ i, aZ H' 2 i = aZ H 2 i) ∧ (∀ i, aZ H' 17 i = aZ H 17 i) ∧ kpM H H' ∧ (∀ i, aZ H' 18 i = aZ H 18 i) ∧ (∀ i, aZ H' 24 i = aZ H 24 i) ∧ pmA H' (aZ H' 2 2).toInt 60 ∧ clR (rgM H') (mdM H') ∧ odI H' H (aZ H 2 2).toInt.toNat)) := by
    intro N
    induction N with
    | zero => intro v830 H831 hIH831 e832 e833 e834 e835 m836 m837 m838 m839 m840 m841 bv830 q1 q5_7 q5_9 q5_12 q5_13 q5_14 q5_15 q5_16 hmL842; exact absurd hmL842 (Nat.not_lt_zero _)
    | succ N ihL842 =>
      intro v830 H831 hIH831 e832 e833 e834 e835 m836 m837 m838 m839 m840 m841 bv830 q1 q5_7 q5_9 q5_12 q5_13 q5_14 q5_15 q5_16 hmL842
      refine g_iload_n rfl ?_
      refine g_bipush (by decide) (fun v843 kv843 => ?_)
      refine g_if2_ge (fun c844 => ?_) (fun c844 => ?_)
      · have hJ845 : JM H831 := JM_clr hJ (fun q hq => q1 q (by omega)) m836 m841
        refine g_aload_n rfl ?_
        refine g_invvv hIH831 sm_0 rfl rfl rfl rfl (r_183 H831 hIH831 hJ845) (fun H846 r847 => ?_)
        obtain ⟨hIH846, hJH846, w848, w849, w850, w851, m852, m853, m854, m855, m856, m857, m858, m859, m860, m861, m862, m863, p864, p865⟩ := r847
        have e866 : k0_2 = fZ H846 0 2 := e832.trans w848.symm
        have e867 : k0_41 = fZ H846 0 41 := e833.trans w849.symm
        have e868 : k0_42 = fZ H846 0 42 := e834.trans w850.symm
        have e869 : k0_43 = fZ H846 0 43 := e835.trans w851.symm
        have m870 : ∀ i, aZ H846 2 i = aZ H 2 i := fun i => (m852 i).trans (m836 i)
        have m871 : ∀ i, aZ H846 17 i = aZ H 17 i := fun i => (m853 i).trans (m837 i)
        have m872 : kpM H H846 := kpM_t m838 m854
        have m873 : ∀ i, aZ H846 18 i = aZ H 18 i := fun i => (m855 i).trans (m839 i)
        have m874 : ∀ i, aZ H846 24 i = aZ H 24 i := fun i => (m863 i).trans (m840 i)
        exact g_ret ⟨rfl, hIH846, hJH846, (e866.symm.trans ek0_2), (e867.symm.trans ek0_41), (e868.symm.trans ek0_42), (e869.symm.trans ek0_43), m870, m871, m872, m873, m874, p864, (fun n hn => ⟨by show (aZ H846 7 n).toInt = 0; rw [m856]; exact q5_7 n (by omega), by show (aZ H846 9 n).toInt = -5; rw [m857]; exact q5_9 n (by omega), by show (aZ H846 12 n).toInt = -5; rw [m858]; exact q5_12 n (by omega), by show (aZ H846 13 n).toInt = 0; rw [m859]; exact q5_13 n (by omega), by show (aZ H846 14 n).toInt = 0; rw [m860]; exact q5_14 n (by omega), by show (aZ H846 15 n).toInt = 0; rw [m861]; exact q5_15 n (by omega), by show (aZ H846 16 n).toInt = 0; rw [m862]; exact q5_16 n (by omega)⟩), (od_cg m837 m839 m836 p865)⟩
      · refine g_aload_n rfl ?_
        refine g_gfr hIH831 sm_0 rfl ?_
        refine g_iload_n rfl ?_
        refine g_iconst (by decide) (fun v875 kv875 => ?_)
        refine g_zastore hIH831 sm_7 (by omega) (by omega) (fun H876 eH876 hIH876 => ?_)
        have e877 : k0_2 = fZ H876 0 2 := by rw [eH876, fZ_sA]; exact e832
        have e878 : k0_41 = fZ H876 0 41 := by rw [eH876, fZ_sA]; exact e833
        have e879 : k0_42 = fZ H876 0 42 := by rw [eH876, fZ_sA]; exact e834
        have e880 : k0_43 = fZ H876 0 43 := by rw [eH876, fZ_sA]; exact e835
        have m881 : ∀ i, aZ H876 2 i = aZ H 2 i := fun i => (by rw [eH876, aZ_sA_nc (by omega)] : aZ H876 2 i = aZ H831 2 i).trans (m836 i)
        have m882 : ∀ i, aZ H876 17 i = aZ H 17 i := fun i => (by rw [eH876, aZ_sA_nc (by omega)] : aZ H876 17 i = aZ H831 17 i).trans (m837 i)
        have m883 : kpM H H876 := kpM_A m838 eH876 (by omega)
        have m884 : ∀ i, aZ H876 18 i = aZ H 18 i := fun i => (by rw [eH876, aZ_sA_nc (by omega)] : aZ H876 18 i = aZ H831 18 i).trans (m839 i)
        have m885 : ∀ i, aZ H876 24 i = aZ H 24 i := fun i => (by rw [eH876, aZ_sA_nc (by omega)] : aZ H876 24 i = aZ H831 24 i).trans (m840 i)
        have m886 : ∀ i, aZ H876 3 i = aZ H 3 i := fun i => (by rw [eH876, aZ_sA_nc (by omega)] : aZ H876 3 i = aZ H831 3 i).trans (m841 i)
        refine g_aload_n rfl ?_
        refine g_gfr hIH876 sm_0 rfl ?_
        refine g_iload_n rfl ?_
        refine g_bipush (by decide) (fun v887 kv887 => ?_)
        refine g_iastore hIH876 sm_9 (by omega) (by omega) (fun H888 eH888 hIH888 => ?_)
        have e889 : k0_2 = fZ H888 0 2 := by rw [eH888, fZ_sA]; exact e877
        have e890 : k0_41 = fZ H888 0 41 := by rw [eH888, fZ_sA]; exact e878
        have e891 : k0_42 = fZ H888 0 42 := by rw [eH888, fZ_sA]; exact e879
        have e892 : k0_43 = fZ H888 0 43 := by rw [eH888, fZ_sA]; exact e880
        have m893 : ∀ i, aZ H888 2 i = aZ H 2 i := fun i => (by rw [eH888, aZ_sA_nc (by omega)] : aZ H888 2 i = aZ H876 2 i).trans (m881 i)
        have m894 : ∀ i, aZ H888 17 i = aZ H 17 i := fun i => (by rw [eH888, aZ_sA_nc (by omega)] : aZ H888 17 i = aZ H876 17 i).trans (m882 i)
        have m895 : kpM H H888 := kpM_A m883 eH888 (by omega)
        have m896 : ∀ i, aZ H888 18 i = aZ H 18 i := fun i => (by rw [eH888, aZ_sA_nc (by omega)] : aZ H888 18 i = aZ H876 18 i).trans (m884 i)
        have m897 : ∀ i, aZ H888 24 i = aZ H 24 i := fun i => (by rw [eH888, aZ_sA_nc (by omega)] : aZ H888 24 i = aZ H876 24 i).trans (m885 i)
        have m898 : ∀ i, aZ H888 3 i = aZ H 3 i := fun i => (by rw [eH888, aZ_sA_nc (by omega)] : aZ H888 3 i = aZ H876 3 i).trans (m886 i)
        refine g_aload_n rfl ?_
        refine g_gfr hIH888 sm_0 rfl ?_
        refine g_iload_n rfl ?_
        refine g_bipush (by decide) (fun v899 kv899 => ?_)
        refine g_iastore hIH888 sm_12 (by omega) (gz_any _) (fun H900 eH900 hIH900 => ?_)
        have e901 : k0_2 = fZ H900 0 2 := by rw [eH900, fZ_sA]; exact e889
        have e902 : k0_41 = fZ H900 0 41 := by rw [eH900, fZ_sA]; exact e890
        have e903 : k0_42 = fZ H900 0 42 := by rw [eH900, fZ_sA]; exact e891
        have e904 : k0_43 = fZ H900 0 43 := by rw [eH900, fZ_sA]; exact e892
        have m905 : ∀ i, aZ H900 2 i = aZ H 2 i := fun i => (by rw [eH900, aZ_sA_nc (by omega)] : aZ H900 2 i = aZ H888 2 i).trans (m893 i)
        have m906 : ∀ i, aZ H900 17 i = aZ H 17 i := fun i => (by rw [eH900, aZ_sA_nc (by omega)] : aZ H900 17 i = aZ H888 17 i).trans (m894 i)
        have m907 : kpM H H900 := kpM_A m895 eH900 (by omega)
        have m908 : ∀ i, aZ H900 18 i = aZ H 18 i := fun i => (by rw [eH900, aZ_sA_nc (by omega)] : aZ H900 18 i = aZ H888 18 i).trans (m896 i)
        have m909 : ∀ i, aZ H900 24 i = aZ H 24 i := fun i => (by rw [eH900, aZ_sA_nc (by omega)] : aZ H900 24 i = aZ H888 24 i).trans (m897 i)
        have m910 : ∀ i, aZ H900 3 i = aZ H 3 i := fun i => (by rw [eH900, aZ_sA_nc (by omega)] : aZ H900 3 i = aZ H888 3 i).trans (m898 i)
        refine g_aload_n rfl ?_
        refine g_gfr hIH900 sm_0 rfl ?_
        refine g_iload_n rfl ?_
        refine g_iconst (by decide) (fun v911 kv911 => ?_)
        refine g_zastore hIH900 sm_13 (by omega) (by omega) (fun H912 eH912 hIH912 => ?_)
        have e913 : k0_2 = fZ H912 0 2 := by rw [eH912, fZ_sA]; exact e901
        have e914 : k0_41 = fZ H912 0 41 := by rw [eH912, fZ_sA]; exact e902
        have e915 : k0_42 = fZ H912 0 42 := by rw [eH912, fZ_sA]; exact e903
        have e916 : k0_43 = fZ H912 0 43 := by rw [eH912, fZ_sA]; exact e904
        have m917 : ∀ i, aZ H912 2 i = aZ H 2 i := fun i => (by rw [eH912, aZ_sA_nc (by omega)] : aZ H912 2 i = aZ H900 2 i).trans (m905 i)
        have m918 : ∀ i, aZ H912 17 i = aZ H 17 i := fun i => (by rw [eH912, aZ_sA_nc (by omega)] : aZ H912 17 i = aZ H900 17 i).trans (m906 i)
        have m919 : kpM H H912 := kpM_A m907 eH912 (by omega)
        have m920 : ∀ i, aZ H912 18 i = aZ H 18 i := fun i => (by rw [eH912, aZ_sA_nc (by omega)] : aZ H912 18 i = aZ H900 18 i).trans (m908 i)
        have m921 : ∀ i, aZ H912 24 i = aZ H 24 i := fun i => (by rw [eH912, aZ_sA_nc (by omega)] : aZ H912 24 i = aZ H900 24 i).trans (m909 i)
        have m922 : ∀ i, aZ H912 3 i = aZ H 3 i := fun i => (by rw [eH912, aZ_sA_nc (by omega)] : aZ H912 3 i = aZ H900 3 i).trans (m910 i)
        refine g_aload_n rfl ?_
        refine g_gfr hIH912 sm_0 rfl ?_
        refine g_iload_n rfl ?_
        refine g_iconst (by decide) (fun v923 kv923 => ?_)
        refine g_zastore hIH912 sm_14 (by omega) (by omega) (fun H924 eH924 hIH924 => ?_)
        have e925 : k0_2 = fZ H924 0 2 := by rw [eH924, fZ_sA]; exact e913
        have e926 : k0_41 = fZ H924 0 41 := by rw [eH924, fZ_sA]; exact e914
        have e927 : k0_42 = fZ H924 0 42 := by rw [eH924, fZ_sA]; exact e915
        have e928 : k0_43 = fZ H924 0 43 := by rw [eH924, fZ_sA]; exact e916
        have m929 : ∀ i, aZ H924 2 i = aZ H 2 i := fun i => (by rw [eH924, aZ_sA_nc (by omega)] : aZ H924 2 i = aZ H912 2 i).trans (m917 i)
        have m930 : ∀ i, aZ H924 17 i = aZ H 17 i := fun i => (by rw [eH924, aZ_sA_nc (by omega)] : aZ H924 17 i = aZ H912 17 i).trans (m918 i)
        have m931 : kpM H H924 := kpM_A m919 eH924 (by omega)
        have m932 : ∀ i, aZ H924 18 i = aZ H 18 i := fun i => (by rw [eH924, aZ_sA_nc (by omega)] : aZ H924 18 i = aZ H912 18 i).trans (m920 i)
        have m933 : ∀ i, aZ H924 24 i = aZ H 24 i := fun i => (by rw [eH924, aZ_sA_nc (by omega)] : aZ H924 24 i = aZ H912 24 i).trans (m921 i)
        have m934 : ∀ i, aZ H924 3 i = aZ H 3 i := fun i => (by rw [eH924, aZ_sA_nc (by omega)] : aZ H924 3 i = aZ H912 3 i).trans (m922 i)
        refine g_aload_n rfl ?_
        refine g_gfr hIH924 sm_0 rfl ?_
        refine g_iload_n rfl ?_
        refine g_iconst (by decide) (fun v935 kv935 => ?_)
        refine g_zastore hIH924 sm_15 (by omega) (by omega) (fun H936 eH936 hIH936 => ?_)
        have e937 : k0_2 = fZ H936 0 2 := by rw [eH936, fZ_sA]; exact e925
        have e938 : k0_41 = fZ H936 0 41 := by rw [eH936, fZ_sA]; exact e926
        have e939 : k0_42 = fZ H936 0 42 := by rw [eH936, fZ_sA]; exact e927
        have e940 : k0_43 = fZ H936 0 43 := by rw [eH936, fZ_sA]; exact e928
        have m941 : ∀ i, aZ H936 2 i = aZ H 2 i := fun i => (by rw [eH936, aZ_sA_nc (by omega)] : aZ H936 2 i = aZ H924 2 i).trans (m929 i)
        have m942 : ∀ i, aZ H936 17 i = aZ H 17 i := fun i => (by rw [eH936, aZ_sA_nc (by omega)] : aZ H936 17 i = aZ H924 17 i).trans (m930 i)
        have m943 : kpM H H936 := kpM_A m931 eH936 (by omega)
        have m944 : ∀ i, aZ H936 18 i = aZ H 18 i := fun i => (by rw [eH936, aZ_sA_nc (by omega)] : aZ H936 18 i = aZ H924 18 i).trans (m932 i)
        have m945 : ∀ i, aZ H936 24 i = aZ H 24 i := fun i => (by rw [eH936, aZ_sA_nc (by omega)] : aZ H936 24 i = aZ H924 24 i).trans (m933 i)
        have m946 : ∀ i, aZ H936 3 i = aZ H 3 i := fun i => (by rw [eH936, aZ_sA_nc (by omega)] : aZ H936 3 i = aZ H924 3 i).trans (m934 i)
        refine g_aload_n rfl ?_
        refine g_gfr hIH936 sm_0 rfl ?_
        refine g_iload_n rfl ?_
        refine g_iconst (by decide) (fun v947 kv947 => ?_)
        refine g_zastore hIH936 sm_16 (by omega) (by omega) (fun H948 eH948 hIH948 => ?_)
        have e949 : k0_2 = fZ H948 0 2 := by rw [eH948, fZ_sA]; exact e937
        have e950 : k0_41 = fZ H948 0 41 := by rw [eH948, fZ_sA]; exact e938
        have e951 : k0_42 = fZ H948 0 42 := by rw [eH948, fZ_sA]; exact e939
        have e952 : k0_43 = fZ H948 0 43 := by rw [eH948, fZ_sA]; exact e940
        have m953 : ∀ i, aZ H948 2 i = aZ H 2 i := fun i => (by rw [eH948, aZ_sA_nc (by omega)] : aZ H948 2 i = aZ H936 2 i).trans (m941 i)
        have m954 : ∀ i, aZ H948 17 i = aZ H 17 i := fun i => (by rw [eH948, aZ_sA_nc (by omega)] : aZ H948 17 i = aZ H936 17 i).trans (m942 i)
        have m955 : kpM H H948 := kpM_A m943 eH948 (by omega)
        have m956 : ∀ i, aZ H948 18 i = aZ H 18 i := fun i => (by rw [eH948, aZ_sA_nc (by omega)] : aZ H948 18 i = aZ H936 18 i).trans (m944 i)
        have m957 : ∀ i, aZ H948 24 i = aZ H 24 i := fun i => (by rw [eH948, aZ_sA_nc (by omega)] : aZ H948 24 i = aZ H936 24 i).trans (m945 i)
        have m958 : ∀ i, aZ H948 3 i = aZ H 3 i := fun i => (by rw [eH948, aZ_sA_nc (by omega)] : aZ H948 3 i = aZ H936 3 i).trans (m946 i)
        refine g_iinc (l' := (fun v959 => [(0, .ref 0), (1, .int v959)])) rfl rfl (by decide) (by omega) (fun _ => rfl) (fun v959 ev959 => ?_)
        refine g_goto ?_
        exact ihL842 v959 H948 hIH948 e949 e950 e951 e952 m953 m954 m955 m956 m957 m958 (by omega) (fun q hq => by rw [eH948, aZ_sA_nc (by decide), eH936, aZ_sA_nc (by decide), eH924, aZ_sA_nc (by decide), eH912, aZ_sA_nc (by decide), eH900, aZ_sA_nc (by decide), eH888]; if e : v830.toInt.toNat = q then (subst e; rw [aZ_sA_eq hIH876 sm_9 (by omega)]; omega) else (rw [aZ_sA_ne e, eH876, aZ_sA_nc (by decide)]; exact q1 q (by omega))) (fun q hq => by rw [eH948, aZ_sA_nc (by decide), eH936, aZ_sA_nc (by decide), eH924, aZ_sA_nc (by decide), eH912, aZ_sA_nc (by decide), eH900, aZ_sA_nc (by decide), eH888, aZ_sA_nc (by decide), eH876]; if e : v830.toInt.toNat = q then (subst e; rw [aZ_sA_eq hIH831 sm_7 (by omega)]; omega) else (rw [aZ_sA_ne e]; exact q5_7 q (by omega))) (fun q hq => by rw [eH948, aZ_sA_nc (by decide), eH936, aZ_sA_nc (by decide), eH924, aZ_sA_nc (by decide), eH912, aZ_sA_nc (by decide), eH900, aZ_sA_nc (by decide), eH888]; if e : v830.toInt.toNat = q then (subst e; rw [aZ_sA_eq hIH876 sm_9 (by omega)]; omega) else (rw [aZ_sA_ne e, eH876, aZ_sA_nc (by decide)]; exact q5_9 q (by omega))) (fun q hq => by rw [eH948, aZ_sA_nc (by decide), eH936, aZ_sA_nc (by decide), eH924, aZ_sA_nc (by decide), eH912, aZ_sA_nc (by decide), eH900]; if e : v830.toInt.toNat = q then (subst e; rw [aZ_sA_eq hIH888 sm_12 (by omega)]; omega) else (rw [aZ_sA_ne e, eH888, aZ_sA_nc (by decide), eH876, aZ_sA_nc (by decide)]; exact q5_12 q (by omega))) (fun q hq => by rw [eH948, aZ_sA_nc (by decide), eH936, aZ_sA_nc (by decide), eH924, aZ_sA_nc (by decide), eH912]; if e : v830.toInt.toNat = q then (subst e; rw [aZ_sA_eq hIH900 sm_13 (by omega)]; omega) else (rw [aZ_sA_ne e, eH900, aZ_sA_nc (by decide), eH888, aZ_sA_nc (by decide), eH876, aZ_sA_nc (by decide)]; exact q5_13 q (by omega))) (fun q hq => by rw [eH948, aZ_sA_nc (by decide), eH936, aZ_sA_nc (by decide), eH924]; if e : v830.toInt.toNat = q then (subst e; rw [aZ_sA_eq hIH912 sm_14 (by omega)]; omega) else (rw [aZ_sA_ne e, eH912, aZ_sA_nc (by decide), eH900, aZ_sA_nc (by decide), eH888, aZ_sA_nc (by decide), eH876, aZ_sA_nc (by decide)]; exact q5_14 q (by omega))) (fun q hq => by rw [eH948, aZ_sA_nc (by decide), eH936]; if e : v830.toInt.toNat = q then (subst e; rw [aZ_sA_eq hIH924 sm_15 (by omega)]; omega) else (rw [aZ_sA_ne e, eH924, aZ_sA_nc (by decide), eH912, aZ_sA_nc (by decide), eH900, aZ_sA_nc (by decide), eH888, aZ_sA_nc (by decide), eH876, aZ_sA_nc (by decide)]; exact q5_15 q (by omega))) (fun q hq => by rw [eH948]; if e : v830.toInt.toNat = q then (subst e; rw [aZ_sA_eq hIH936 sm_16 (by omega)]; omega) else (rw [aZ_sA_ne e, eH936, aZ_sA_nc (by decide), eH924, aZ_sA_nc (by decide), eH912, aZ_sA_nc (by decide), eH900, aZ_sA_nc (by decide), eH888, aZ_sA_nc (by decide), eH876, aZ_sA_nc (by decide)]; exact q5_16 q (by omega))) (by omega)
  exact L842 _ v829 H hI ek0_2 ek0_41 ek0_42 ek0_43 mk2 mk17 mkfr mk18 mk24 mk3 (by omega) (fun q hq => absurd hq (by omega)) (fun q hq => absurd hq (by omega)) (fun q hq => absurd hq (by omega)) (fun q hq => absurd hq (by omega)) (fun q hq => absurd hq (by omega)) (fun q hq => absurd hq (by omega)) (fun q hq => absurd hq (by omega)) (fun q hq => absurd hq (by omega)) (Nat.lt_succ_self _)
set_option maxRecDepth 4000 in
set_option maxHeartbeats 4000000 in
/-- M.runs -/
theorem r_198 (a1 : Int32) (H : mzH) (hI : gI SM H) (hJ : JN H) (hp0 : gdM H) : gCall 198 [.ref 0, .int a1] H (gRv (fun H' => gI SM H' ∧ JM H' ∧ fZ H' 0 2 = fZ H 0 2 ∧ fZ H' 0 41 = fZ H 0 41 ∧ fZ H' 0 42 = fZ H 0 42 ∧ fZ H' 0 43 = fZ H 0 43 ∧ (∀ i, aZ H' 2 i = aZ H 2 i) ∧ (∀ i, aZ H' 17 i = aZ H 17 i) ∧ kpM H H' ∧ (∀ i, aZ H' 18 i = aZ H 18 i) ∧ (∀ i, aZ H' 24 i = aZ H 24 i) ∧ pmA H' (aZ H' 2 2).toInt 60 ∧ (∃ G : mzH, clR (rgM G) (mdM G) ∧ ∃ p : Nat, rwX H' (fM H G p).1 (fM H G p).2 ∧ stM H a1.toInt p ∧ (∀ x : Nat, x < p → (aZ H' 20 (odM H x)).toInt = rvM H G x) ∧ odI H' H (aZ H 2 2).toInt.toNat))) := by
  obtain ⟨k0_2, ek0_2⟩ : ∃ z, z = fZ H 0 2 := ⟨_, rfl⟩
  have ik0_2 : k0_2.toInt = (fZ H 0 2).toInt := by rw [← ek0_2]
  have bk0_2 : 0 ≤ k0_2.toInt ∧ k0_2.toInt ≤ 900 := by rw [ek0_2]; exact fZ_of hI sm_0 rfl
  obtain ⟨k0_41, ek0_41⟩ : ∃ z, z = fZ H 0 41 := ⟨_, rfl⟩
  have ik0_41 : k0_41.toInt = (fZ H 0 41).toInt := by rw [← ek0_41]
  obtain ⟨k0_42, ek0_42⟩ : ∃ z, z = fZ H 0 42 := ⟨_, rfl⟩
  have ik0_42 : k0_42.toInt = (fZ H 0 42).toInt := by rw [← ek0_42]
  obtain ⟨k0_43, ek0_43⟩ : ∃ z, z = fZ H 0 43 := ⟨_, rfl⟩
  have ik0_43 : k0_43.toInt = (fZ H 0 43).toInt := by rw [← ek0_43]
  have mk2 : ∀ i, aZ H 2 i = aZ H 2 i := fun _ => rfl
  have mk17 : ∀ i, aZ H 17 i = aZ H 17 i := fun _ => rfl
  have mkfr : kpM H H := kpM_r
  have mk18 : ∀ i, aZ H 18 i = aZ H 18 i := fun _ => rfl
  have mk24 : ∀ i, aZ H 24 i = aZ H 24 i := fun _ => rfl
  refine gG_call [(0, .ref 0), (1, .int a1)] ⟨rfl, rfl, trivial⟩ ?_
  show gG 3 zB_198 (mzBlk zB_198 0) [(0, .ref 0), (1, .int a1)] [] H 0 0 _
  refine g_aload_n rfl ?_
  refine g_invvv hI sm_0 rfl rfl rfl rfl (r_184 H hI hJ) (fun H489 r490 => ?_)
  obtain ⟨hIH489, hJH489, w491, w492, w493, w494, m495, m496, m497, m498, m499, p500, p501, p502⟩ := r490
  have e503 : k0_2 = fZ H489 0 2 := ek0_2.trans w491.symm
  have e504 : k0_41 = fZ H489 0 41 := ek0_41.trans w492.symm
  have e505 : k0_42 = fZ H489 0 42 := ek0_42.trans w493.symm
  have e506 : k0_43 = fZ H489 0 43 := ek0_43.trans w494.symm
  have m507 : ∀ i, aZ H489 2 i = aZ H 2 i := fun i => (m495 i).trans (mk2 i)
  have m508 : ∀ i, aZ H489 17 i = aZ H 17 i := fun i => (m496 i).trans (mk17 i)
  have m509 : kpM H H489 := kpM_t mkfr m497
  have m510 : ∀ i, aZ H489 18 i = aZ H 18 i := fun i => (m498 i).trans (mk18 i)
  have m511 : ∀ i, aZ H489 24 i = aZ H 24 i := fun i => (m499 i).trans (mk24 i)
  refine g_iconst (by decide) (fun v512 kv512 => ?_)
  refine g_istore_n (l' := [(0, .ref 0), (1, .int a1), (2, .int v512)]) rfl rfl ?_
  refine g_nop ?_
  have L524 : ∀ (N : Nat) (v513 : Int32) (H514 : mzH), gI SM H514 → JM H514 → k0_2 = fZ H514 0 2 → k0_41 = fZ H514 0 41 → k0_42 = fZ H514 0 42 → k0_43 = fZ H514 0 43 → (∀ i, aZ H514 2 i = aZ H 2 i) → (∀ i, aZ H514 17 i = aZ H 17 i) → kpM H H514 → (∀ i, aZ H514 18 i = aZ H 18 i) → (∀ i, aZ H514 24 i = aZ H 24 i) → (0 ≤ v513.toInt ∧ v513.toInt ≤ 60) → pmA H514 (aZ H514 2 2).toInt 60 → rwX H514 (fM H H489 v513.toInt.toNat).1 (fM H H489 v513.toInt.toNat).2 → (∀ q : Nat, q < v513.toInt.toNat → hqM H q ≤ a1.toInt) → odI H514 H (aZ H 2 2).toInt.toNat → v513.toInt.toNat ≤ cnM H → (∀ x : Nat, x < v513.toInt.toNat → (aZ H514 20 (odM H x)).toInt = rvM H H489 x) → (60 - v513.toInt).toNat < N → gG 3 zB_198 (mzBlk zB_198 1) [(0, .ref 0), (1, .int a1), (2, .int v513)] [] H514 0 0 (gRv (fun H' => gI SM H' ∧ JM H' ∧ fZ H' 0 2 = fZ H 0 2 ∧ fZ H' 0 41 = fZ H 0 41 ∧ fZ H' 0 42 = fZ H 0 42 ∧ fZ H' 0 43 = fZ H 0 43 ∧ (∀ i, aZ H' 2 i = aZ H 2 i) ∧ (∀ i, aZ H' 17 i = aZ H 17 i) ∧ kpM H H' ∧ (∀ i, aZ H' 18 i = aZ H 18 i) ∧ (∀ i, aZ H' 24 i = aZ H 24 i) ∧ pmA H' (aZ H' 2 2).toInt 60 ∧ (∃ G : mzH, clR (rgM G) (mdM G) ∧ ∃ p : Nat, rwX H' (fM H G p).1 (fM H G p).2 ∧ stM H a1.toInt p ∧ (∀ x : Nat, x < p → (aZ H' 20 (odM H x)).toInt = rvM H G x) ∧ odI H' H (aZ H 2 2).toInt.toNat))) := by
    intro N
    induction N with
    | zero => intro v513 H514 hIH514 hJH514 e515 e516 e517 e518 m519 m520 m521 m522 m523 bv513 q1 q5 q6 q7 q8 q10 hmL524; exact absurd hmL524 (Nat.not_lt_zero _)
    | succ N ihL524 =>
      intro v513 H514 hIH514 hJH514 e515 e516 e517 e518 m519 m520 m521 m522 m523 bv513 q1 q5 q6 q7 q8 q10 hmL524
      refine g_iload_n rfl ?_
      refine g_aload_n rfl ?_
      refine g_gfi hIH514 sm_0 rfl (fun v525 ev525 lv525 uv525 => ?_)
      have zv525 : v525.toInt = (cnM H : Int) := by rw [ev525]; exact od_n q7
      refine g_if2_ge (fun c526 => ?_) (fun c526 => ?_)
      · exact g_ret ⟨rfl, hIH514, hJH514, (e515.symm.trans ek0_2), (e516.symm.trans ek0_41), (e517.symm.trans ek0_42), (e518.symm.trans ek0_43), m519, m520, m521, m522, m523, q1, ⟨H489, p501, v513.toInt.toNat, q5, ⟨q8, q6, Or.inl (by omega)⟩, q10, q7⟩⟩
      · refine g_aload_n rfl ?_
        refine g_gfr hIH514 sm_0 rfl ?_
        refine g_aload_n rfl ?_
        refine g_gfr hIH514 sm_0 rfl ?_
        refine g_iload_n rfl ?_
        refine g_iaload hIH514 sm_19 rfl (by omega) (fun v527 ev527 lv527 uv527 => ?_)
        have zv527 : v527.toInt.toNat = odM H v513.toInt.toNat := by rw [ev527]; exact od_g q7 (by omega)
        refine g_iaload hIH514 sm_18 rfl (by omega) (fun v528 ev528 lv528 uv528 => ?_)
        have yv528 : v528.toInt = (aZ H 18 v527.toInt.toNat).toInt := by rw [ev528, m522]
        refine g_iload_n rfl ?_
        refine g_if2_gt (fun c529 => ?_) (fun c529 => ?_)
        · exact g_ret ⟨rfl, hIH514, hJH514, (e515.symm.trans ek0_2), (e516.symm.trans ek0_41), (e517.symm.trans ek0_42), (e518.symm.trans ek0_43), m519, m520, m521, m522, m523, q1, ⟨H489, p501, v513.toInt.toNat, q5, ⟨q8, q6, Or.inr (by show _ < (aZ H 18 (odM H _)).toInt; rw [← zv527]; omega)⟩, q10, q7⟩⟩
        · refine g_aload_n rfl ?_
          refine g_aload_n rfl ?_
          refine g_gfr hIH514 sm_0 rfl ?_
          refine g_iload_n rfl ?_
          refine g_ialoadk hIH514 sm_19 rfl (by omega) ev527 ?_
          refine g_invvv hIH514 sm_0 rfl rfl rfl rfl (r_192 v527 (by omega) H514 hIH514 hJH514 q5 ((hp0.2 H489 p501 v513.toInt.toNat (by omega)).1) ((hp0.2 H489 p501 v513.toInt.toNat (by omega)).2) (by rw [m522, zv527]; exact (hp0.1 v513.toInt.toNat (by omega))) (bt_of hIH514 q5)) (fun H530 r531 => ?_)
          obtain ⟨hIH530, hJH530, m532, m533, m534, m535, m536, m537, m538, m539, m540, m541, p542, p543, p544⟩ := r531
          have e545 : k0_2 = fZ H530 0 2 := e515.trans (m532 0 2).symm
          have e546 : k0_41 = fZ H530 0 41 := e516.trans (m532 0 41).symm
          have e547 : k0_42 = fZ H530 0 42 := e517.trans (m532 0 42).symm
          have e548 : k0_43 = fZ H530 0 43 := e518.trans (m532 0 43).symm
          have m549 : ∀ i, aZ H530 2 i = aZ H 2 i := fun i => (m533 i).trans (m519 i)
          have m550 : ∀ i, aZ H530 17 i = aZ H 17 i := fun i => (m535 i).trans (m520 i)
          have m551 : kpM H H530 := kpM_t m521 m536
          have m552 : ∀ i, aZ H530 18 i = aZ H 18 i := fun i => (m537 i).trans (m522 i)
          have m553 : ∀ i, aZ H530 24 i = aZ H 24 i := fun i => (m540 i).trans (m523 i)
          refine g_iinc (l' := (fun v554 => [(0, .ref 0), (1, .int a1), (2, .int v554)])) rfl rfl (by decide) (by omega) (fun _ => rfl) (fun v554 ev554 => ?_)
          refine g_goto ?_
          exact ihL524 v554 H530 hIH530 hJH530 e545 e546 e547 e548 m549 m550 m551 m552 m553 (by omega) (by rw [m533 2]; exact pmA_cg m535 m534 q1) (fm_st m521 m522 m519 p542 zv527 (by omega) (by omega)) (hm_st q6 (by omega) (by show (aZ H 18 (odM H _)).toInt ≤ _; rw [← zv527]; omega)) (od_cg2 m534 (m532 0 34) q7) (by omega) (rv_st q10 m521 m522 m519 p543 p544 zv527 (by omega) (by omega) (by omega)) (by omega)
  exact L524 _ v512 H489 hIH489 hJH489 e503 e504 e505 e506 m507 m508 m509 m510 m511 (by omega) p500 (by rw [kv512]; exact rw_rd) (fun q hq => by omega) p502 (by omega) (fun x hx => by omega) (Nat.lt_succ_self _)
