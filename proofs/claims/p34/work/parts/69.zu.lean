/-! THE REFERENCE RUNS -/
/-- those that are in, by hours: how many, which -/
def ord2 (I hr : Nat → Int) : Nat → Nat × (Nat → Nat)
  | 0 => (0, fun _ => 0)
  | k + 1 => if I k = 0 then ord2 I hr k else ((ord2 I hr k).1 + 1, isr (ord2 I hr k).2 k (ord2 I hr k).1 (posF hr (ord2 I hr k).2 k (ord2 I hr k).1))
/-! ORDERS -/
/-- by hours, of like ones by numbers -/
def kLt (hr : Nat → Int) (a b : Nat) : Prop := hr a < hr b ∨ (hr a = hr b ∧ a < b)
def srt (hr : Nat → Int) (n : Nat) (t : Nat → Nat) : Prop := ∀ i j, i < j → j < n → kLt hr (t i) (t j)
theorem pos_lt {hr : Nat → Int} {t : Nat → Nat} {k : Nat} : ∀ n q, posF hr t k n ≤ q → q < n → hr k < hr (t q)
  | 0, q, _, h => absurd h (Nat.not_lt_zero _)
  | n + 1, q, h1, h2 => by
    unfold posF at h1
    if c : hr k < hr (t n) then
      rw [if_pos c] at h1
      if e : q = n then rw [e]; exact c
      else exact pos_lt n q h1 (by omega)
    else
      rw [if_neg c] at h1
      omega
theorem pos_ge {hr : Nat → Int} {t : Nat → Nat} {k : Nat} : ∀ n, posF hr t k n = 0 ∨ ¬ hr k < hr (t (posF hr t k n - 1))
  | 0 => Or.inl rfl
  | n + 1 => by
    unfold posF
    if c : hr k < hr (t n) then rw [if_pos c]; exact pos_ge n
    else rw [if_neg c]; exact Or.inr c
theorem srt_isr {hr : Nat → Int} {t : Nat → Nat} {k n : Nat} (hs : srt hr n t) (hk : ∀ q, q < n → t q < k) : srt hr (n + 1) (isr t k n (posF hr t k n)) := by
  have pl := posF_le (hr := hr) (t := t) (k := k) n
  have p1 := pos_lt (hr := hr) (t := t) (k := k) n
  have p2 : ∀ q, q < posF hr t k n → hr (t q) ≤ hr k := fun q hq => by
    rcases pos_ge (hr := hr) (t := t) (k := k) n with z | z
    · omega
    · if e : q = posF hr t k n - 1 then rw [e]; omega
      else
        have := hs q (posF hr t k n - 1) (by omega) (by omega)
        unfold kLt at this
        omega
  generalize posF hr t k n = sp at *
  intro i j hij hj
  unfold isr
  if ci : i < sp then
    rw [if_pos ci]
    if cj : j < sp then rw [if_pos cj]; exact hs i j hij (by omega)
    else
      rw [if_neg cj]
      if dj : j = sp then
        rw [if_pos dj]
        have h1 := p2 i ci
        have h2 := hk i (by omega)
        unfold kLt
        omega
      else
        rw [if_neg dj, if_pos (by omega)]
        exact hs i (j - 1) (by omega) (by omega)
  else
    rw [if_neg ci, if_neg (show ¬ j < sp by omega), if_neg (show ¬ j = sp by omega), if_pos (show j ≤ n by omega)]
    if di : i = sp then
      rw [if_pos di]
      exact Or.inl (p1 (j - 1) (by omega) (by omega))
    else
      rw [if_neg di, if_pos (by omega)]
      exact hs (i - 1) (j - 1) (by omega) (by omega)
theorem isr_mem {t : Nat → Nat} {k n sp x : Nat} (hsp : sp ≤ n) : (∃ q, q < n + 1 ∧ isr t k n sp q = x) ↔ (x = k ∨ ∃ q, q < n ∧ t q = x) := by
  constructor
  · rintro ⟨q, hq, e⟩
    unfold isr at e
    if c : q < sp then rw [if_pos c] at e; exact Or.inr ⟨q, by omega, e⟩
    else
      rw [if_neg c] at e
      if d : q = sp then rw [if_pos d] at e; exact Or.inl e.symm
      else
        rw [if_neg d, if_pos (by omega)] at e
        exact Or.inr ⟨q - 1, by omega, e⟩
  · rintro (e | ⟨q, hq, e⟩)
    · refine ⟨sp, by omega, ?_⟩
      unfold isr
      rw [if_neg (Nat.lt_irrefl _), if_pos rfl, e]
    · if c : q < sp then
        refine ⟨q, by omega, ?_⟩
        unfold isr
        rw [if_pos c, e]
      else
        refine ⟨q + 1, by omega, ?_⟩
        unfold isr
        rw [if_neg (by omega), if_neg (by omega), if_pos (by omega), Nat.add_sub_cancel, e]
/-- the order of those that are in -/
theorem ord2_ok {I hr : Nat → Int} : ∀ n, srt hr (ord2 I hr n).1 (ord2 I hr n).2 ∧ ∀ x, (∃ q, q < (ord2 I hr n).1 ∧ (ord2 I hr n).2 q = x) ↔ (x < n ∧ I x ≠ 0)
  | 0 => ⟨fun i j _ h => absurd h (Nat.not_lt_zero _), fun x => ⟨fun ⟨q, h, _⟩ => absurd h (Nat.not_lt_zero _), fun h => absurd h.1 (Nat.not_lt_zero _)⟩⟩
  | n + 1 => by
    obtain ⟨h1, h2⟩ := ord2_ok (I := I) (hr := hr) n
    unfold ord2
    if c : I n = 0 then
      rw [if_pos c]
      refine ⟨h1, fun x => ?_⟩
      rw [h2 x]
      refine ⟨fun z => ⟨by omega, z.2⟩, fun z => ⟨?_, z.2⟩⟩
      if e : x = n then rw [e] at z; exact absurd c z.2
      else omega
    else
      rw [if_neg c]
      refine ⟨srt_isr h1 (fun q hq => ((h2 _).mp ⟨q, hq, rfl⟩).1), fun x => ?_⟩
      show (∃ q, q < (ord2 I hr n).1 + 1 ∧ isr (ord2 I hr n).2 n (ord2 I hr n).1 _ q = x) ↔ _
      rw [isr_mem (posF_le _), h2 x]
      refine ⟨fun z => ?_, fun z => ?_⟩
      · rcases z with z | z
        · rw [z]; exact ⟨by omega, c⟩
        · exact ⟨by omega, z.2⟩
      · if e : x = n then exact Or.inl e
        else exact Or.inr ⟨by omega, z.2⟩
def inM (H : mzH) : Nat → Int := fun k => (aZ H 17 k).toInt
def hoM (H : mzH) : Nat → Int := fun k => (aZ H 18 k).toInt
def odI (G H : mzH) (k : Nat) : Prop := (fZ G 0 34).toInt = ((ord2 (inM H) (hoM H) k).1 : Int) ∧ ∀ q, q < (ord2 (inM H) (hoM H) k).1 → (aZ G 19 q).toInt = ((ord2 (inM H) (hoM H) k).2 q : Int)
theorem od_0 {G H : mzH} {k : Nat} (e : k = 0) (f : (fZ G 0 34).toInt = 0) : odI G H k := by
  subst e
  exact ⟨f, fun q hq => absurd hq (Nat.not_lt_zero _)⟩
theorem od_sk {G H : mzH} {k k2 : Nat} (q : odI G H k) (e : k2 = k + 1) (h : (aZ H 17 k).toInt = 0) : odI G H k2 := by
  subst e
  unfold odI ord2
  rw [if_pos (show inM H k = 0 from h)]
  exact q
theorem od_e {G H : mzH} {k k2 : Nat} (q : odI G H k) (e : k = k2) : odI G H k2 := e ▸ q
theorem od_in {G H : mzH} {k sp : Nat} (q : odI G H k) (e : sp = (ord2 (inM H) (hoM H) k).1) : inO (hoM H) (ord2 (inM H) (hoM H) k).2 k (ord2 (inM H) (hoM H) k).1 sp (fun q => (aZ G 19 q).toInt) := by
  subst e
  exact in_00 q.2
theorem orv_t {G : mzH} {hr : Nat → Int} {t : Nat → Nat} {k n c : Nat} {sp j v : Int32} (q : inO hr t k n sp.toInt.toNat (fun q => (aZ G c q).toInt)) (y : v.toInt = (aZ G c j.toInt.toNat).toInt) (ej : j.toInt = sp.toInt - 1) (h0 : 0 < sp.toInt) : t (sp.toInt.toNat - 1) = v.toInt.toNat := by
  have := q.2.1 (sp.toInt.toNat - 1) (by omega)
  have e : j.toInt.toNat = sp.toInt.toNat - 1 := by omega
  rw [e] at y
  have : v.toInt = (t (sp.toInt.toNat - 1) : Int) := y.trans this
  omega
theorem od_st {H B C : mzH} {k k2 : Nat} {v : Int32} (g : ∀ x, x < (ord2 (inM H) (hoM H) k).1 + 1 → (aZ B 19 x).toInt = (isr (ord2 (inM H) (hoM H) k).2 k (ord2 (inM H) (hoM H) k).1 (posF (hoM H) (ord2 (inM H) (hoM H) k).2 k (ord2 (inM H) (hoM H) k).1) x : Int)) (e : k2 = k + 1) (hn : ¬ (aZ H 17 k).toInt = 0) (eC : C = sF B 0 34 v) (hf : (fZ C 0 34).toInt = ((ord2 (inM H) (hoM H) k).1 : Int) + 1) : odI C H k2 := by
  subst e
  unfold odI ord2
  rw [if_neg (show ¬ inM H k = 0 from hn)]
  refine ⟨hf.trans (by omega), fun q hq => ?_⟩
  rw [eC, aZ_sF]
  exact g q hq
theorem od_cg {A B H : mzH} (h1 : ∀ i, aZ A 17 i = aZ H 17 i) (h2 : ∀ i, aZ A 18 i = aZ H 18 i) (h3 : ∀ i, aZ A 2 i = aZ H 2 i) (q : odI B A (aZ A 2 2).toInt.toNat) : odI B H (aZ H 2 2).toInt.toNat := by
  have e1 : inM A = inM H := by funext k; unfold inM; rw [h1]
  have e2 : hoM A = hoM H := by funext k; unfold hoM; rw [h2]
  unfold odI at q ⊢
  rw [e1, e2, h3] at q
  exact q
theorem od_cg2 {A B H : mzH} {k : Nat} (h1 : ∀ i, aZ B 19 i = aZ A 19 i) (h2 : fZ B 0 34 = fZ A 0 34) (q : odI A H k) : odI B H k := by
  refine ⟨by rw [h2]; exact q.1, fun x hx => by rw [h1]; exact q.2 x hx⟩
def rgM (H : mzH) : pS := psM (fun n => (aZ H 8 n).toInt) (fun n => (aZ H 9 n).toInt) (fun n => (aZ H 10 n).toInt) (fun n => (aZ H 11 n).toInt) (fun n => (aZ H 12 n).toInt) (fun n => (aZ H 13 n).toInt) (fun n => (aZ H 15 n).toInt) (fun n => (aZ H 16 n).toInt) (fun n => (aZ H 14 n).toInt)
def mdM (H : mzH) : Nat → Int := fun n => (aZ H 7 n).toInt
/-- nothing is made -/
def clR (r : pS) (m : Nat → Int) : Prop := ∀ n, n < 40 → m n = 0 ∧ r.ii n = -5 ∧ r.se n = -5 ∧ r.op n = 0 ∧ r.he n = 0 ∧ r.so n = 0 ∧ r.en n = 0
def fR (wy : Int → Int → Int) (U C : Int) (ro : Nat → Nat → Int) (od : Nat → Nat) (hr : Nat → Int) (r0 : pS) (m0 : Nat → Int) : Nat → pS × (Nat → Int)
  | 0 => (r0, m0)
  | p + 1 => (loS (fR wy U C ro od hr r0 m0 p).1 (fR wy U C ro od hr r0 m0 p).2 wy U C (ro (od p) 1) (ro (od p) 2).toNat (ro (od p) 3) (ro (od p) 4) (hr (od p)), loM (fR wy U C ro od hr r0 m0 p).1 (fR wy U C ro od hr r0 m0 p).2 wy U C (ro (od p) 1) (ro (od p) 2).toNat (ro (od p) 3) (hr (od p)))
def roM (H : mzH) : Nat → Nat → Int := fun k i => (aZ H 2 (69 + 5 * k + i)).toInt
def odM (H : mzH) : Nat → Nat := (ord2 (inM H) (hoM H) (aZ H 2 2).toInt.toNat).2
def cnM (H : mzH) : Nat := (ord2 (inM H) (hoM H) (aZ H 2 2).toInt.toNat).1
def fM (H G : mzH) : Nat → pS × (Nat → Int) := fR (wyM H) (aZ H 2 3).toInt (aZ H 2 4).toInt (roM H) (odM H) (hoM H) (rgM G) (mdM G)
def hqM (H : mzH) (q : Nat) : Int := hoM H (odM H q)
def stM (H : mzH) (h : Int) (p : Nat) : Prop := p ≤ cnM H ∧ (∀ q, q < p → hqM H q ≤ h) ∧ (p = cnM H ∨ h < hqM H p)
def gdM (H : mzH) : Prop := (∀ q : Nat, q < cnM H → (0 ≤ (aZ H 18 (odM H q)).toInt ∧ (aZ H 18 (odM H q)).toInt ≤ 999)) ∧ ∀ G, clR (rgM G) (mdM G) → ∀ q : Nat, q ≤ cnM H → dpt (fM H G q).1 ∧ laT (fM H G q).1 (fM H G q).2
/-- all messages are in, told for their hours -/
def tkW (H A : mzH) : Prop := kpM H A ∧ (∀ i, aZ A 2 i = aZ H 2 i) ∧ ∀ q : Nat, (q : Int) < (aZ H 2 2).toInt → (aZ A 18 q).toInt = (aZ H 2 (69 + 5 * q)).toInt ∧ (aZ A 17 q).toInt = 1
theorem rw_rd {H : mzH} : rwX H (rgM H) (mdM H) := fun _ _ => ⟨rfl, rfl, rfl, rfl, rfl, rfl, rfl, rfl, rfl, rfl⟩
theorem bt_of {H : mzH} {s : pS} {md : Nat → Int} (hI : gI SM H) (h : rwX H s md) : bt1 s md := fun n hn => by
  rw [← (h n hn).2.1]
  exact (aZ_of hI sm_8 hn).1
theorem od_g {G H : mzH} {q : Nat} (h : odI G H (aZ H 2 2).toInt.toNat) (hq : q < cnM H) : (aZ G 19 q).toInt.toNat = odM H q := by
  have := h.2 q hq
  unfold odM
  omega
theorem od_n {G H : mzH} (h : odI G H (aZ H 2 2).toInt.toNat) : (fZ G 0 34).toInt = (cnM H : Int) := h.1
theorem wyM_kp {H A : mzH} (fr : kpM H A) : wyM A = wyM H := by
  funext a b
  unfold wyM
  rw [fr.1 6 (by decide)]
theorem fm_st {H A B G : mzH} {p k : Int32} {p2 : Nat} (fr : kpM H A) (f18 : ∀ i, aZ A 18 i = aZ H 18 i) (f2 : ∀ i, aZ A 2 i = aZ H 2 i) (P : rwX B (loS (fM H G p.toInt.toNat).1 (fM H G p.toInt.toNat).2 (wyM A) (aZ A 2 3).toInt (aZ A 2 4).toInt (aZ A 2 (69 + 5 * k.toInt + 1).toNat).toInt (aZ A 2 (69 + 5 * k.toInt + 2).toNat).toInt.toNat (aZ A 2 (69 + 5 * k.toInt + 3).toNat).toInt (aZ A 2 (69 + 5 * k.toInt + 4).toNat).toInt (aZ A 18 k.toInt.toNat).toInt) (loM (fM H G p.toInt.toNat).1 (fM H G p.toInt.toNat).2 (wyM A) (aZ A 2 3).toInt (aZ A 2 4).toInt (aZ A 2 (69 + 5 * k.toInt + 1).toNat).toInt (aZ A 2 (69 + 5 * k.toInt + 2).toNat).toInt.toNat (aZ A 2 (69 + 5 * k.toInt + 3).toNat).toInt (aZ A 18 k.toInt.toNat).toInt)) (yk : k.toInt.toNat = odM H p.toInt.toNat) (h0 : 0 ≤ k.toInt) (e : p2 = p.toInt.toNat + 1) : rwX B (fM H G p2).1 (fM H G p2).2 := by
  subst e
  rw [wyM_kp fr, f2, f2, f2, f2, f2, f2, f18, show (69 + 5 * k.toInt + 1).toNat = 69 + 5 * k.toInt.toNat + 1 by omega, show (69 + 5 * k.toInt + 2).toNat = 69 + 5 * k.toInt.toNat + 2 by omega, show (69 + 5 * k.toInt + 3).toNat = 69 + 5 * k.toInt.toNat + 3 by omega, show (69 + 5 * k.toInt + 4).toNat = 69 + 5 * k.toInt.toNat + 4 by omega, yk] at P
  exact P
theorem hm_st {H : mzH} {h : Int} {p p2 : Nat} (q2 : ∀ q : Nat, q < p → hqM H q ≤ h) (e : p2 = p + 1) (z : hqM H p ≤ h) : ∀ q : Nat, q < p2 → hqM H q ≤ h := fun q hq => by
  if c : q = p then rw [c]; exact z
  else exact q2 q (by omega)
/-- why a message is refused, at its spot -/
def rvM (H G : mzH) (q : Nat) : Int := rea (fM H G q).1 (fM H G q).2 (wyM H) (aZ H 2 3).toInt (aZ H 2 4).toInt (roM H (odM H q) 1) (roM H (odM H q) 2).toNat (roM H (odM H q) 3) (hoM H (odM H q))
theorem od_ne {H : mzH} {x p : Nat} (h : x < p) (hp : p < cnM H) : odM H x ≠ odM H p := fun e => by
  have k := (ord2_ok (I := inM H) (hr := hoM H) (aZ H 2 2).toInt.toNat).1 x p h hp
  have k : kLt (hoM H) (odM H x) (odM H p) := k
  rw [e] at k
  unfold kLt at k
  omega
theorem rv_st {H A B G : mzH} {p k : Int32} {p2 : Nat} (q : ∀ x : Nat, x < p.toInt.toNat → (aZ A 20 (odM H x)).toInt = rvM H G x) (fr : kpM H A) (f18 : ∀ i, aZ A 18 i = aZ H 18 i) (f2 : ∀ i, aZ A 2 i = aZ H 2 i) (P : (aZ B 20 k.toInt.toNat).toInt = rea (fM H G p.toInt.toNat).1 (fM H G p.toInt.toNat).2 (wyM A) (aZ A 2 3).toInt (aZ A 2 4).toInt (aZ A 2 (69 + 5 * k.toInt + 1).toNat).toInt (aZ A 2 (69 + 5 * k.toInt + 2).toNat).toInt.toNat (aZ A 2 (69 + 5 * k.toInt + 3).toNat).toInt (aZ A 18 k.toInt.toNat).toInt) (O : ∀ i, i ≠ k.toInt.toNat → aZ B 20 i = aZ A 20 i) (yk : k.toInt.toNat = odM H p.toInt.toNat) (h0 : 0 ≤ k.toInt) (hp : p.toInt.toNat < cnM H) (e : p2 = p.toInt.toNat + 1) : ∀ x : Nat, x < p2 → (aZ B 20 (odM H x)).toInt = rvM H G x := fun x hx => by
  if c : x = p.toInt.toNat then
    rw [wyM_kp fr, f2, f2, f2, f2, f2, f18, show (69 + 5 * k.toInt + 1).toNat = 69 + 5 * k.toInt.toNat + 1 by omega, show (69 + 5 * k.toInt + 2).toNat = 69 + 5 * k.toInt.toNat + 2 by omega, show (69 + 5 * k.toInt + 3).toNat = 69 + 5 * k.toInt.toNat + 3 by omega, yk] at P
    rw [c]
    exact P
  else
    rw [O _ (by rw [yk]; exact od_ne (by omega) hp)]
    exact q x (by omega)
set_option maxRecDepth 4000 in
set_option maxHeartbeats 4000000 in
/-- M.takesAll -/
theorem r_182 (H : mzH) (hI : gI SM H) (hJ : JN H) : gCall 182 [.ref 0] H (gRv (fun H' => gI SM H' ∧ JN H' ∧ (∀ a f, fZ H' a f = fZ H a f) ∧ (∀ i, aZ H' 2 i = aZ H 2 i) ∧ kpM H H' ∧ (∀ i, aZ H' 24 i = aZ H 24 i) ∧ (∀ q : Nat, (q : Int) < (aZ H' 2 2).toInt → ¬ (aZ H' 17 q).toInt = 0) ∧ (∀ q : Nat, (q : Int) < (aZ H 2 2).toInt → (aZ H' 18 q).toInt = (aZ H 2 (69 + 5 * q)).toInt ∧ (aZ H' 17 q).toInt = 1))) := by
  have mkF : ∀ a f, fZ H a f = fZ H a f := fun _ _ => rfl
  have mk2 : ∀ i, aZ H 2 i = aZ H 2 i := fun _ => rfl
  have mkfr : kpM H H := kpM_r
  have mk24 : ∀ i, aZ H 24 i = aZ H 24 i := fun _ => rfl
  refine gG_call [(0, .ref 0)] ⟨rfl, trivial⟩ ?_
  show gG 2 zB_182 (mzBlk zB_182 0) [(0, .ref 0)] [] H 0 0 _
  refine g_iconst (by decide) (fun v327 kv327 => ?_)
  refine g_istore_n (l' := [(0, .ref 0), (1, .int v327)]) rfl rfl ?_
  refine g_nop ?_
  have L334 : ∀ (N : Nat) (v328 : Int32) (H329 : mzH), gI SM H329 → JN H329 → (∀ a f, fZ H329 a f = fZ H a f) → (∀ i, aZ H329 2 i = aZ H 2 i) → kpM H H329 → (∀ i, aZ H329 24 i = aZ H 24 i) → (0 ≤ v328.toInt ∧ v328.toInt ≤ 60) → (∀ q : Nat, q < v328.toInt.toNat → ¬ (aZ H329 17 q).toInt = 0) → (∀ q : Nat, q < v328.toInt.toNat → (aZ H329 18 q).toInt = (aZ H 2 (69 + 5 * q)).toInt) → (∀ q : Nat, q < v328.toInt.toNat → (aZ H329 17 q).toInt = 1) → (60 - v328.toInt).toNat < N → gG 2 zB_182 (mzBlk zB_182 1) [(0, .ref 0), (1, .int v328)] [] H329 0 0 (gRv (fun H' => gI SM H' ∧ JN H' ∧ (∀ a f, fZ H' a f = fZ H a f) ∧ (∀ i, aZ H' 2 i = aZ H 2 i) ∧ kpM H H' ∧ (∀ i, aZ H' 24 i = aZ H 24 i) ∧ (∀ q : Nat, (q : Int) < (aZ H' 2 2).toInt → ¬ (aZ H' 17 q).toInt = 0) ∧ (∀ q : Nat, (q : Int) < (aZ H 2 2).toInt → (aZ H' 18 q).toInt = (aZ H 2 (69 + 5 * q)).toInt ∧ (aZ H' 17 q).toInt = 1))) := by
    intro N
    induction N with
    | zero => intro v328 H329 hIH329 hJH329 m330 m331 m332 m333 bv328 q1 q5 q6 hmL334; exact absurd hmL334 (Nat.not_lt_zero _)
    | succ N ihL334 =>
      intro v328 H329 hIH329 hJH329 m330 m331 m332 m333 bv328 q1 q5 q6 hmL334
      refine g_iload_n rfl ?_
      refine g_aload_n rfl ?_
      refine g_invvi hIH329 sm_0 rfl rfl rfl rfl (s_180 H329 hIH329 hJH329) (fun v337 H335 r336 => ?_)
      obtain ⟨rfl, bv337, p338⟩ := r336
      refine g_if2_ge (fun c339 => ?_) (fun c339 => ?_)
      · exact g_ret ⟨rfl, hIH329, hJH329, m330, m331, m332, m333, (fun q hq => q1 q (by omega)), (fun q hq => by have hz := congrArg Int32.toInt (m331 2); exact ⟨q5 q (by omega), q6 q (by omega)⟩)⟩
      · refine g_aload_n rfl ?_
        refine g_gfr hIH329 sm_0 rfl ?_
        refine g_iload_n rfl ?_
        refine g_iconst (by decide) (fun v340 kv340 => ?_)
        refine g_zastore hIH329 sm_17 (by omega) (by omega) (fun H341 eH341 hIH341 => ?_)
        have hJH341 : JN H341 := JN_sA (by decide) eH341 hJH329
        have m342 : ∀ a f, fZ H341 a f = fZ H a f := fun a f => (by rw [eH341, fZ_sA] : fZ H341 a f = fZ H329 a f).trans (m330 a f)
        have m343 : ∀ i, aZ H341 2 i = aZ H 2 i := fun i => (by rw [eH341, aZ_sA_nc (by omega)] : aZ H341 2 i = aZ H329 2 i).trans (m331 i)
        have m344 : kpM H H341 := kpM_A m332 eH341 (by omega)
        have m345 : ∀ i, aZ H341 24 i = aZ H 24 i := fun i => (by rw [eH341, aZ_sA_nc (by omega)] : aZ H341 24 i = aZ H329 24 i).trans (m333 i)
        refine g_aload_n rfl ?_
        refine g_gfr hIH341 sm_0 rfl ?_
        refine g_iload_n rfl ?_
        refine g_aload_n rfl ?_
        refine g_iload_n rfl ?_
        refine g_iconst (by decide) (fun v346 kv346 => ?_)
        refine g_invvi hIH341 sm_0 rfl rfl rfl rfl (s_181 v328 (by omega) v346 (by omega) H341 hIH341 hJH341) (fun v349 H347 r348 => ?_)
        obtain ⟨rfl, p350⟩ := r348
        have tv349 : v349.toInt = (aZ H341 2 (69 + 5 * v328.toInt + v346.toInt).toNat).toInt := by rw [p350]
        refine g_iastore hIH341 sm_18 (by omega) (gz_any _) (fun H351 eH351 hIH351 => ?_)
        have hJH351 : JN H351 := JN_sA (by decide) eH351 hJH341
        have m352 : ∀ a f, fZ H351 a f = fZ H a f := fun a f => (by rw [eH351, fZ_sA] : fZ H351 a f = fZ H341 a f).trans (m342 a f)
        have m353 : ∀ i, aZ H351 2 i = aZ H 2 i := fun i => (by rw [eH351, aZ_sA_nc (by omega)] : aZ H351 2 i = aZ H341 2 i).trans (m343 i)
        have m354 : kpM H H351 := kpM_A m344 eH351 (by omega)
        have m355 : ∀ i, aZ H351 24 i = aZ H 24 i := fun i => (by rw [eH351, aZ_sA_nc (by omega)] : aZ H351 24 i = aZ H341 24 i).trans (m345 i)
        refine g_iinc (l' := (fun v356 => [(0, .ref 0), (1, .int v356)])) rfl rfl (by decide) (by omega) (fun _ => rfl) (fun v356 ev356 => ?_)
        refine g_goto ?_
        exact ihL334 v356 H351 hIH351 hJH351 m352 m353 m354 m355 (by omega) (fun q hq => by rw [eH351, aZ_sA_nc (by decide), eH341]; if e : v328.toInt.toNat = q then (subst e; rw [aZ_sA_eq hIH329 sm_17 (by omega)]; omega) else (rw [aZ_sA_ne e]; exact q1 q (by omega))) (fun q hq => by rw [eH351]; if e : v328.toInt.toNat = q then (subst e; rw [aZ_sA_eq hIH341 sm_18 (by omega), tv349, kv346, m343, show (69 + 5 * v328.toInt + 0).toNat = 69 + 5 * v328.toInt.toNat by omega]) else (rw [aZ_sA_ne e, eH341, aZ_sA_nc (by decide)]; exact q5 q (by omega))) (fun q hq => by rw [eH351, aZ_sA_nc (by decide), eH341]; if e : v328.toInt.toNat = q then (subst e; rw [aZ_sA_eq hIH329 sm_17 (by omega), kv340]) else (rw [aZ_sA_ne e]; exact q6 q (by omega))) (by omega)
  exact L334 _ v327 H hI hJ mkF mk2 mkfr mk24 (by omega) (fun q hq => absurd hq (by omega)) (fun q hq => absurd hq (by omega)) (fun q hq => absurd hq (by omega)) (Nat.lt_succ_self _)
set_option maxRecDepth 4000 in
set_option maxHeartbeats 4000000 in
/-- M.sorts -/
theorem r_183 (H : mzH) (hI : gI SM H) (hJ : JM H) : gCall 183 [.ref 0] H (gRv (fun H' => gI SM H' ∧ JM H' ∧ fZ H' 0 2 = fZ H 0 2 ∧ (∀ i, aZ H' 2 i = aZ H 2 i) ∧ (∀ i, aZ H' 17 i = aZ H 17 i) ∧ kpM H H' ∧ (∀ i, aZ H' 18 i = aZ H 18 i) ∧ (∀ i, aZ H' 7 i = aZ H 7 i) ∧ (∀ i, aZ H' 9 i = aZ H 9 i) ∧ (∀ i, aZ H' 12 i = aZ H 12 i) ∧ (∀ i, aZ H' 13 i = aZ H 13 i) ∧ (∀ i, aZ H' 14 i = aZ H 14 i) ∧ (∀ i, aZ H' 15 i = aZ H 15 i) ∧ (∀ i, aZ H' 16 i = aZ H 16 i) ∧ (∀ i, aZ H' 24 i = aZ H 24 i) ∧ pmA H' (aZ H' 2 2).toInt 60 ∧ odI H' H (aZ H 2 2).toInt.toNat)) := by
  obtain ⟨k0_2, ek0_2⟩ : ∃ z, z = fZ H 0 2 := ⟨_, rfl⟩
  have ik0_2 : k0_2.toInt = (fZ H 0 2).toInt := by rw [← ek0_2]
  have bk0_2 : 0 ≤ k0_2.toInt ∧ k0_2.toInt ≤ 900 := by rw [ek0_2]; exact fZ_of hI sm_0 rfl
  have mk2 : ∀ i, aZ H 2 i = aZ H 2 i := fun _ => rfl
  have mk17 : ∀ i, aZ H 17 i = aZ H 17 i := fun _ => rfl
  have mkfr : kpM H H := kpM_r
  have mk18 : ∀ i, aZ H 18 i = aZ H 18 i := fun _ => rfl
  have mk7 : ∀ i, aZ H 7 i = aZ H 7 i := fun _ => rfl
  have mk9 : ∀ i, aZ H 9 i = aZ H 9 i := fun _ => rfl
  have mk12 : ∀ i, aZ H 12 i = aZ H 12 i := fun _ => rfl
  have mk13 : ∀ i, aZ H 13 i = aZ H 13 i := fun _ => rfl
  have mk14 : ∀ i, aZ H 14 i = aZ H 14 i := fun _ => rfl
  have mk15 : ∀ i, aZ H 15 i = aZ H 15 i := fun _ => rfl
  have mk16 : ∀ i, aZ H 16 i = aZ H 16 i := fun _ => rfl
  have mk24 : ∀ i, aZ H 24 i = aZ H 24 i := fun _ => rfl
  refine gG_call [(0, .ref 0)] ⟨rfl, trivial⟩ ?_
  show gG 3 zB_183 (mzBlk zB_183 0) [(0, .ref 0)] [] H 0 0 _
  refine g_aload_n rfl ?_
  refine g_iconst (by decide) (fun v1392 kv1392 => ?_)
  refine g_pfi hI sm_0 rfl (by omega) (fun H1393 eH1393 hIH1393 => ?_)
  have hJH1393 : JM H1393 := JM_sF eH1393 hJ
  have e1394 : k0_2 = fZ H1393 0 2 := by rw [eH1393, fZ_sF_ne (by decide)]; exact ek0_2
  have e1395 : v1392 = fZ H1393 0 34 := by rw [eH1393, fZ_sF_eq hI sm_0 rfl]
  have m1396 : ∀ i, aZ H1393 2 i = aZ H 2 i := fun i => (by rw [eH1393, aZ_sF] : aZ H1393 2 i = aZ H 2 i).trans (mk2 i)
  have m1397 : ∀ i, aZ H1393 17 i = aZ H 17 i := fun i => (by rw [eH1393, aZ_sF] : aZ H1393 17 i = aZ H 17 i).trans (mk17 i)
  have m1398 : kpM H H1393 := kpM_F mkfr eH1393 (by omega)
  have m1399 : ∀ i, aZ H1393 18 i = aZ H 18 i := fun i => (by rw [eH1393, aZ_sF] : aZ H1393 18 i = aZ H 18 i).trans (mk18 i)
  have m1400 : ∀ i, aZ H1393 7 i = aZ H 7 i := fun i => (by rw [eH1393, aZ_sF] : aZ H1393 7 i = aZ H 7 i).trans (mk7 i)
  have m1401 : ∀ i, aZ H1393 9 i = aZ H 9 i := fun i => (by rw [eH1393, aZ_sF] : aZ H1393 9 i = aZ H 9 i).trans (mk9 i)
  have m1402 : ∀ i, aZ H1393 12 i = aZ H 12 i := fun i => (by rw [eH1393, aZ_sF] : aZ H1393 12 i = aZ H 12 i).trans (mk12 i)
  have m1403 : ∀ i, aZ H1393 13 i = aZ H 13 i := fun i => (by rw [eH1393, aZ_sF] : aZ H1393 13 i = aZ H 13 i).trans (mk13 i)
  have m1404 : ∀ i, aZ H1393 14 i = aZ H 14 i := fun i => (by rw [eH1393, aZ_sF] : aZ H1393 14 i = aZ H 14 i).trans (mk14 i)
  have m1405 : ∀ i, aZ H1393 15 i = aZ H 15 i := fun i => (by rw [eH1393, aZ_sF] : aZ H1393 15 i = aZ H 15 i).trans (mk15 i)
  have m1406 : ∀ i, aZ H1393 16 i = aZ H 16 i := fun i => (by rw [eH1393, aZ_sF] : aZ H1393 16 i = aZ H 16 i).trans (mk16 i)
  have m1407 : ∀ i, aZ H1393 24 i = aZ H 24 i := fun i => (by rw [eH1393, aZ_sF] : aZ H1393 24 i = aZ H 24 i).trans (mk24 i)
  have ie1395 : v1392.toInt = (fZ H1393 0 34).toInt := by rw [← e1395]
  refine g_iconst (by decide) (fun v1408 kv1408 => ?_)
  refine g_istore_n (l' := [(0, .ref 0), (1, .int v1408)]) rfl rfl ?_
  refine g_nop ?_
  have L1424 : ∀ (N : Nat) (v1409 : Int32) (H1410 : mzH), gI SM H1410 → JM H1410 → k0_2 = fZ H1410 0 2 → (∀ i, aZ H1410 2 i = aZ H 2 i) → (∀ i, aZ H1410 17 i = aZ H 17 i) → kpM H H1410 → (∀ i, aZ H1410 18 i = aZ H 18 i) → (∀ i, aZ H1410 7 i = aZ H 7 i) → (∀ i, aZ H1410 9 i = aZ H 9 i) → (∀ i, aZ H1410 12 i = aZ H 12 i) → (∀ i, aZ H1410 13 i = aZ H 13 i) → (∀ i, aZ H1410 14 i = aZ H 14 i) → (∀ i, aZ H1410 15 i = aZ H 15 i) → (∀ i, aZ H1410 16 i = aZ H 16 i) → (∀ i, aZ H1410 24 i = aZ H 24 i) → (0 ≤ v1409.toInt ∧ v1409.toInt ≤ 60) → (fZ H1410 0 34).toInt ≤ v1409.toInt → pmA H1410 v1409.toInt (fZ H1410 0 34).toInt → odI H1410 H v1409.toInt.toNat → (v1409.toInt ≤ 0 ∨ v1409.toInt ≤ (aZ H 2 2).toInt) → (60 - v1409.toInt).toNat < N → gG 3 zB_183 (mzBlk zB_183 1) [(0, .ref 0), (1, .int v1409)] [] H1410 0 0 (gRv (fun H' => gI SM H' ∧ JM H' ∧ fZ H' 0 2 = fZ H 0 2 ∧ (∀ i, aZ H' 2 i = aZ H 2 i) ∧ (∀ i, aZ H' 17 i = aZ H 17 i) ∧ kpM H H' ∧ (∀ i, aZ H' 18 i = aZ H 18 i) ∧ (∀ i, aZ H' 7 i = aZ H 7 i) ∧ (∀ i, aZ H' 9 i = aZ H 9 i) ∧ (∀ i, aZ H' 12 i = aZ H 12 i) ∧ (∀ i, aZ H' 13 i = aZ H 13 i) ∧ (∀ i, aZ H' 14 i = aZ H 14 i) ∧ (∀ i, aZ H' 15 i = aZ H 15 i) ∧ (∀ i, aZ H' 16 i = aZ H 16 i) ∧ (∀ i, aZ H' 24 i = aZ H 24 i) ∧ pmA H' (aZ H' 2 2).toInt 60 ∧ odI H' H (aZ H 2 2).toInt.toNat)) := by
    intro N
    induction N with
    | zero => intro v1409 H1410 hIH1410 hJH1410 e1411 m1412 m1413 m1414 m1415 m1416 m1417 m1418 m1419 m1420 m1421 m1422 m1423 bv1409 q1 q2 q5 q9 hmL1424; exact absurd hmL1424 (Nat.not_lt_zero _)
    | succ N ihL1424 =>
      intro v1409 H1410 hIH1410 hJH1410 e1411 m1412 m1413 m1414 m1415 m1416 m1417 m1418 m1419 m1420 m1421 m1422 m1423 bv1409 q1 q2 q5 q9 hmL1424
      obtain ⟨k1425, ek1425⟩ : ∃ z, z = fZ H1410 0 34 := ⟨_, rfl⟩
      have ik1425 : k1425.toInt = (fZ H1410 0 34).toInt := by rw [← ek1425]
      have bk1425 : 0 ≤ k1425.toInt ∧ k1425.toInt ≤ 60 := by rw [ek1425]; exact fZ_of hIH1410 sm_0 rfl
      have hq2 := congrArg Int32.toInt (m1412 2)
      refine g_iload_n rfl ?_
      refine g_aload_n rfl ?_
      refine g_invvi hIH1410 sm_0 rfl rfl rfl rfl (s_180 H1410 hIH1410 (JM_n hJH1410)) (fun v1428 H1426 r1427 => ?_)
      obtain ⟨rfl, bv1428, p1429⟩ := r1427
      refine g_if2_ge (fun c1430 => ?_) (fun c1430 => ?_)
      · exact g_ret ⟨rfl, hIH1410, hJH1410, (e1411.symm.trans ek0_2), m1412, m1413, m1414, m1415, m1416, m1417, m1418, m1419, m1420, m1421, m1422, m1423, (pmA_le q2 (by omega) (by omega)), (od_e q5 (by have hz := congrArg Int32.toInt (m1412 2); omega))⟩
      · refine g_aload_n rfl ?_
        refine g_gfr hIH1410 sm_0 rfl ?_
        refine g_iload_n rfl ?_
        refine g_baload hIH1410 sm_17 rfl (by omega) (fun v1431 ev1431 lv1431 uv1431 => ?_)
        have yv1431 : v1431.toInt = (aZ H 17 v1409.toInt.toNat).toInt := by rw [ev1431, m1413]
        refine g_if_ne (fun c1432 => ?_) (fun c1432 => ?_)
        · refine g_aload_n rfl ?_
          refine g_gfk hIH1410 sm_0 rfl ek1425 ?_
          refine g_istore_n (l' := [(0, .ref 0), (1, .int v1409), (2, .int k1425)]) rfl rfl ?_
          refine g_nop ?_
          have L1449 : ∀ (N : Nat) (v1433 : Int32) (H1434 : mzH), gI SM H1434 → JM H1434 → k0_2 = fZ H1434 0 2 → k1425 = fZ H1434 0 34 → (∀ i, aZ H1434 2 i = aZ H 2 i) → (∀ i, aZ H1434 17 i = aZ H 17 i) → kpM H H1434 → (∀ i, aZ H1434 18 i = aZ H 18 i) → (∀ i, aZ H1434 7 i = aZ H 7 i) → (∀ i, aZ H1434 9 i = aZ H 9 i) → (∀ i, aZ H1434 12 i = aZ H 12 i) → (∀ i, aZ H1434 13 i = aZ H 13 i) → (∀ i, aZ H1434 14 i = aZ H 14 i) → (∀ i, aZ H1434 15 i = aZ H 15 i) → (∀ i, aZ H1434 16 i = aZ H 16 i) → (∀ i, aZ H1434 24 i = aZ H 24 i) → (0 ≤ v1433.toInt ∧ v1433.toInt ≤ 60) → pmB H1434 v1409.toInt k1425.toInt v1433.toInt → v1433.toInt ≤ k1425.toInt → inO (hoM H) (ord2 (inM H) (hoM H) v1409.toInt.toNat).2 v1409.toInt.toNat (ord2 (inM H) (hoM H) v1409.toInt.toNat).1 v1433.toInt.toNat (fun q => (aZ H1434 19 q).toInt) → (v1433.toInt - (0)).toNat < N → gG 3 zB_183 (mzBlk zB_183 3) [(0, .ref 0), (1, .int v1409), (2, .int v1433)] [] H1434 0 0 (gRv (fun H' => gI SM H' ∧ JM H' ∧ fZ H' 0 2 = fZ H 0 2 ∧ (∀ i, aZ H' 2 i = aZ H 2 i) ∧ (∀ i, aZ H' 17 i = aZ H 17 i) ∧ kpM H H' ∧ (∀ i, aZ H' 18 i = aZ H 18 i) ∧ (∀ i, aZ H' 7 i = aZ H 7 i) ∧ (∀ i, aZ H' 9 i = aZ H 9 i) ∧ (∀ i, aZ H' 12 i = aZ H 12 i) ∧ (∀ i, aZ H' 13 i = aZ H 13 i) ∧ (∀ i, aZ H' 14 i = aZ H 14 i) ∧ (∀ i, aZ H' 15 i = aZ H 15 i) ∧ (∀ i, aZ H' 16 i = aZ H 16 i) ∧ (∀ i, aZ H' 24 i = aZ H 24 i) ∧ pmA H' (aZ H' 2 2).toInt 60 ∧ odI H' H (aZ H 2 2).toInt.toNat)) := by
            intro N
            induction N with
            | zero => intro v1433 H1434 hIH1434 hJH1434 e1435 e1436 m1437 m1438 m1439 m1440 m1441 m1442 m1443 m1444 m1445 m1446 m1447 m1448 bv1433 q3 q4 q7 hmL1449; exact absurd hmL1449 (Nat.not_lt_zero _)
            | succ N ihL1449 =>
              intro v1433 H1434 hIH1434 hJH1434 e1435 e1436 m1437 m1438 m1439 m1440 m1441 m1442 m1443 m1444 m1445 m1446 m1447 m1448 bv1433 q3 q4 q7 hmL1449
              refine g_iload_n rfl ?_
              refine g_if_le (fun c1450 => ?_) (fun c1450 => ?_)
              · refine g_aload_n rfl ?_
                refine g_gfr hIH1434 sm_0 rfl ?_
                refine g_iload_n rfl ?_
                refine g_iload_n rfl ?_
                refine g_iastore hIH1434 sm_19 (by omega) (by omega) (fun H1451 eH1451 hIH1451 => ?_)
                have hJH1451 : JM H1451 := JM_sA (by decide) eH1451 hJH1434
                have e1452 : k0_2 = fZ H1451 0 2 := by rw [eH1451, fZ_sA]; exact e1435
                have e1453 : k1425 = fZ H1451 0 34 := by rw [eH1451, fZ_sA]; exact e1436
                have m1454 : ∀ i, aZ H1451 2 i = aZ H 2 i := fun i => (by rw [eH1451, aZ_sA_nc (by omega)] : aZ H1451 2 i = aZ H1434 2 i).trans (m1437 i)
                have m1455 : ∀ i, aZ H1451 17 i = aZ H 17 i := fun i => (by rw [eH1451, aZ_sA_nc (by omega)] : aZ H1451 17 i = aZ H1434 17 i).trans (m1438 i)
                have m1456 : kpM H H1451 := kpM_A m1439 eH1451 (by omega)
                have m1457 : ∀ i, aZ H1451 18 i = aZ H 18 i := fun i => (by rw [eH1451, aZ_sA_nc (by omega)] : aZ H1451 18 i = aZ H1434 18 i).trans (m1440 i)
                have m1458 : ∀ i, aZ H1451 7 i = aZ H 7 i := fun i => (by rw [eH1451, aZ_sA_nc (by omega)] : aZ H1451 7 i = aZ H1434 7 i).trans (m1441 i)
                have m1459 : ∀ i, aZ H1451 9 i = aZ H 9 i := fun i => (by rw [eH1451, aZ_sA_nc (by omega)] : aZ H1451 9 i = aZ H1434 9 i).trans (m1442 i)
                have m1460 : ∀ i, aZ H1451 12 i = aZ H 12 i := fun i => (by rw [eH1451, aZ_sA_nc (by omega)] : aZ H1451 12 i = aZ H1434 12 i).trans (m1443 i)
                have m1461 : ∀ i, aZ H1451 13 i = aZ H 13 i := fun i => (by rw [eH1451, aZ_sA_nc (by omega)] : aZ H1451 13 i = aZ H1434 13 i).trans (m1444 i)
                have m1462 : ∀ i, aZ H1451 14 i = aZ H 14 i := fun i => (by rw [eH1451, aZ_sA_nc (by omega)] : aZ H1451 14 i = aZ H1434 14 i).trans (m1445 i)
                have m1463 : ∀ i, aZ H1451 15 i = aZ H 15 i := fun i => (by rw [eH1451, aZ_sA_nc (by omega)] : aZ H1451 15 i = aZ H1434 15 i).trans (m1446 i)
                have m1464 : ∀ i, aZ H1451 16 i = aZ H 16 i := fun i => (by rw [eH1451, aZ_sA_nc (by omega)] : aZ H1451 16 i = aZ H1434 16 i).trans (m1447 i)
                have m1465 : ∀ i, aZ H1451 24 i = aZ H 24 i := fun i => (by rw [eH1451, aZ_sA_nc (by omega)] : aZ H1451 24 i = aZ H1434 24 i).trans (m1448 i)
                have ie1453 : k1425.toInt = (fZ H1451 0 34).toInt := by rw [← e1453]
                refine g_aload_n rfl ?_
                refine g_dup rfl ?_
                refine g_gfk hIH1451 sm_0 rfl e1453 ?_
                refine g_iconst (by decide) (fun v1466 kv1466 => ?_)
                refine g_iadd (by omega) (fun v1467 ev1467 => ?_)
                refine g_pfi hIH1451 sm_0 rfl (by omega) (fun H1468 eH1468 hIH1468 => ?_)
                have hJH1468 : JM H1468 := JM_sF eH1468 hJH1451
                have e1469 : k0_2 = fZ H1468 0 2 := by rw [eH1468, fZ_sF_ne (by decide)]; exact e1452
                have e1470 : v1467 = fZ H1468 0 34 := by rw [eH1468, fZ_sF_eq hIH1451 sm_0 rfl]
                have m1471 : ∀ i, aZ H1468 2 i = aZ H 2 i := fun i => (by rw [eH1468, aZ_sF] : aZ H1468 2 i = aZ H1451 2 i).trans (m1454 i)
                have m1472 : ∀ i, aZ H1468 17 i = aZ H 17 i := fun i => (by rw [eH1468, aZ_sF] : aZ H1468 17 i = aZ H1451 17 i).trans (m1455 i)
                have m1473 : kpM H H1468 := kpM_F m1456 eH1468 (by omega)
                have m1474 : ∀ i, aZ H1468 18 i = aZ H 18 i := fun i => (by rw [eH1468, aZ_sF] : aZ H1468 18 i = aZ H1451 18 i).trans (m1457 i)
                have m1475 : ∀ i, aZ H1468 7 i = aZ H 7 i := fun i => (by rw [eH1468, aZ_sF] : aZ H1468 7 i = aZ H1451 7 i).trans (m1458 i)
                have m1476 : ∀ i, aZ H1468 9 i = aZ H 9 i := fun i => (by rw [eH1468, aZ_sF] : aZ H1468 9 i = aZ H1451 9 i).trans (m1459 i)
                have m1477 : ∀ i, aZ H1468 12 i = aZ H 12 i := fun i => (by rw [eH1468, aZ_sF] : aZ H1468 12 i = aZ H1451 12 i).trans (m1460 i)
                have m1478 : ∀ i, aZ H1468 13 i = aZ H 13 i := fun i => (by rw [eH1468, aZ_sF] : aZ H1468 13 i = aZ H1451 13 i).trans (m1461 i)
                have m1479 : ∀ i, aZ H1468 14 i = aZ H 14 i := fun i => (by rw [eH1468, aZ_sF] : aZ H1468 14 i = aZ H1451 14 i).trans (m1462 i)
                have m1480 : ∀ i, aZ H1468 15 i = aZ H 15 i := fun i => (by rw [eH1468, aZ_sF] : aZ H1468 15 i = aZ H1451 15 i).trans (m1463 i)
                have m1481 : ∀ i, aZ H1468 16 i = aZ H 16 i := fun i => (by rw [eH1468, aZ_sF] : aZ H1468 16 i = aZ H1451 16 i).trans (m1464 i)
                have m1482 : ∀ i, aZ H1468 24 i = aZ H 24 i := fun i => (by rw [eH1468, aZ_sF] : aZ H1468 24 i = aZ H1451 24 i).trans (m1465 i)
                have ie1470 : v1467.toInt = (fZ H1468 0 34).toInt := by rw [← e1470]
                refine g_nop ?_
                refine g_iinc (l' := (fun v1483 => [(0, .ref 0), (1, .int v1483), (2, .int v1433)])) rfl rfl (by decide) (by omega) (fun _ => rfl) (fun v1483 ev1483 => ?_)
                refine g_goto ?_
                refine gG_pick [0, 1] (l' := [(0, .ref 0), (1, .int v1483)]) rfl ?_
                exact ihL1424 v1483 H1468 hIH1468 hJH1468 e1469 m1471 m1472 m1473 m1474 m1475 m1476 m1477 m1478 m1479 m1480 m1481 m1482 (by omega) (by omega) (pmA_st hIH1434 (by omega) rfl eH1451 (fun a i => by rw [eH1468, aZ_sF]) q3 (by omega) (by omega)) (od_st (in_en hIH1434 sm_19 q7 eH1451 (by omega) (by omega) (Or.inl (by omega))) (by omega) (by show ¬ (aZ H 17 _).toInt = 0; omega) eH1468 (by have := q5.1; omega)) (by have hz := congrArg Int32.toInt (m1471 2); omega) (by omega)
              · refine g_aload_n rfl ?_
                refine g_gfr hIH1434 sm_0 rfl ?_
                refine g_aload_n rfl ?_
                refine g_gfr hIH1434 sm_0 rfl ?_
                refine g_iload_n rfl ?_
                refine g_iconst (by decide) (fun v1484 kv1484 => ?_)
                refine g_isub (by omega) (fun v1485 ev1485 => ?_)
                refine g_iaload hIH1434 sm_19 rfl (by omega) (fun v1486 ev1486 lv1486 uv1486 => ?_)
                have yv1486 : v1486.toInt = (aZ H1434 19 v1485.toInt.toNat).toInt := by rw [ev1486]
                refine g_iaload hIH1434 sm_18 rfl (by omega) (fun v1487 ev1487 lv1487 uv1487 => ?_)
                have yv1487 : v1487.toInt = (aZ H 18 v1486.toInt.toNat).toInt := by rw [ev1487, m1440]
                refine g_aload_n rfl ?_
                refine g_gfr hIH1434 sm_0 rfl ?_
                refine g_iload_n rfl ?_
                refine g_iaload hIH1434 sm_18 rfl (by omega) (fun v1488 ev1488 lv1488 uv1488 => ?_)
                have yv1488 : v1488.toInt = (aZ H 18 v1409.toInt.toNat).toInt := by rw [ev1488, m1440]
                refine g_if2_le (fun c1489 => ?_) (fun c1489 => ?_)
                · refine g_aload_n rfl ?_
                  refine g_gfr hIH1434 sm_0 rfl ?_
                  refine g_iload_n rfl ?_
                  refine g_iload_n rfl ?_
                  refine g_iastore hIH1434 sm_19 (by omega) (by omega) (fun H1490 eH1490 hIH1490 => ?_)
                  have hJH1490 : JM H1490 := JM_sA (by decide) eH1490 hJH1434
                  have e1491 : k0_2 = fZ H1490 0 2 := by rw [eH1490, fZ_sA]; exact e1435
                  have e1492 : k1425 = fZ H1490 0 34 := by rw [eH1490, fZ_sA]; exact e1436
                  have m1493 : ∀ i, aZ H1490 2 i = aZ H 2 i := fun i => (by rw [eH1490, aZ_sA_nc (by omega)] : aZ H1490 2 i = aZ H1434 2 i).trans (m1437 i)
                  have m1494 : ∀ i, aZ H1490 17 i = aZ H 17 i := fun i => (by rw [eH1490, aZ_sA_nc (by omega)] : aZ H1490 17 i = aZ H1434 17 i).trans (m1438 i)
                  have m1495 : kpM H H1490 := kpM_A m1439 eH1490 (by omega)
                  have m1496 : ∀ i, aZ H1490 18 i = aZ H 18 i := fun i => (by rw [eH1490, aZ_sA_nc (by omega)] : aZ H1490 18 i = aZ H1434 18 i).trans (m1440 i)
                  have m1497 : ∀ i, aZ H1490 7 i = aZ H 7 i := fun i => (by rw [eH1490, aZ_sA_nc (by omega)] : aZ H1490 7 i = aZ H1434 7 i).trans (m1441 i)
                  have m1498 : ∀ i, aZ H1490 9 i = aZ H 9 i := fun i => (by rw [eH1490, aZ_sA_nc (by omega)] : aZ H1490 9 i = aZ H1434 9 i).trans (m1442 i)
                  have m1499 : ∀ i, aZ H1490 12 i = aZ H 12 i := fun i => (by rw [eH1490, aZ_sA_nc (by omega)] : aZ H1490 12 i = aZ H1434 12 i).trans (m1443 i)
                  have m1500 : ∀ i, aZ H1490 13 i = aZ H 13 i := fun i => (by rw [eH1490, aZ_sA_nc (by omega)] : aZ H1490 13 i = aZ H1434 13 i).trans (m1444 i)
                  have m1501 : ∀ i, aZ H1490 14 i = aZ H 14 i := fun i => (by rw [eH1490, aZ_sA_nc (by omega)] : aZ H1490 14 i = aZ H1434 14 i).trans (m1445 i)
                  have m1502 : ∀ i, aZ H1490 15 i = aZ H 15 i := fun i => (by rw [eH1490, aZ_sA_nc (by omega)] : aZ H1490 15 i = aZ H1434 15 i).trans (m1446 i)
                  have m1503 : ∀ i, aZ H1490 16 i = aZ H 16 i := fun i => (by rw [eH1490, aZ_sA_nc (by omega)] : aZ H1490 16 i = aZ H1434 16 i).trans (m1447 i)
                  have m1504 : ∀ i, aZ H1490 24 i = aZ H 24 i := fun i => (by rw [eH1490, aZ_sA_nc (by omega)] : aZ H1490 24 i = aZ H1434 24 i).trans (m1448 i)
                  have ie1492 : k1425.toInt = (fZ H1490 0 34).toInt := by rw [← e1492]
                  refine g_aload_n rfl ?_
                  refine g_dup rfl ?_
                  refine g_gfk hIH1490 sm_0 rfl e1492 ?_
                  refine g_iconst (by decide) (fun v1505 kv1505 => ?_)
                  refine g_iadd (by omega) (fun v1506 ev1506 => ?_)
                  refine g_pfi hIH1490 sm_0 rfl (by omega) (fun H1507 eH1507 hIH1507 => ?_)
                  have hJH1507 : JM H1507 := JM_sF eH1507 hJH1490
                  have e1508 : k0_2 = fZ H1507 0 2 := by rw [eH1507, fZ_sF_ne (by decide)]; exact e1491
                  have e1509 : v1506 = fZ H1507 0 34 := by rw [eH1507, fZ_sF_eq hIH1490 sm_0 rfl]
                  have m1510 : ∀ i, aZ H1507 2 i = aZ H 2 i := fun i => (by rw [eH1507, aZ_sF] : aZ H1507 2 i = aZ H1490 2 i).trans (m1493 i)
                  have m1511 : ∀ i, aZ H1507 17 i = aZ H 17 i := fun i => (by rw [eH1507, aZ_sF] : aZ H1507 17 i = aZ H1490 17 i).trans (m1494 i)
                  have m1512 : kpM H H1507 := kpM_F m1495 eH1507 (by omega)
                  have m1513 : ∀ i, aZ H1507 18 i = aZ H 18 i := fun i => (by rw [eH1507, aZ_sF] : aZ H1507 18 i = aZ H1490 18 i).trans (m1496 i)
                  have m1514 : ∀ i, aZ H1507 7 i = aZ H 7 i := fun i => (by rw [eH1507, aZ_sF] : aZ H1507 7 i = aZ H1490 7 i).trans (m1497 i)
                  have m1515 : ∀ i, aZ H1507 9 i = aZ H 9 i := fun i => (by rw [eH1507, aZ_sF] : aZ H1507 9 i = aZ H1490 9 i).trans (m1498 i)
                  have m1516 : ∀ i, aZ H1507 12 i = aZ H 12 i := fun i => (by rw [eH1507, aZ_sF] : aZ H1507 12 i = aZ H1490 12 i).trans (m1499 i)
                  have m1517 : ∀ i, aZ H1507 13 i = aZ H 13 i := fun i => (by rw [eH1507, aZ_sF] : aZ H1507 13 i = aZ H1490 13 i).trans (m1500 i)
                  have m1518 : ∀ i, aZ H1507 14 i = aZ H 14 i := fun i => (by rw [eH1507, aZ_sF] : aZ H1507 14 i = aZ H1490 14 i).trans (m1501 i)
                  have m1519 : ∀ i, aZ H1507 15 i = aZ H 15 i := fun i => (by rw [eH1507, aZ_sF] : aZ H1507 15 i = aZ H1490 15 i).trans (m1502 i)
                  have m1520 : ∀ i, aZ H1507 16 i = aZ H 16 i := fun i => (by rw [eH1507, aZ_sF] : aZ H1507 16 i = aZ H1490 16 i).trans (m1503 i)
                  have m1521 : ∀ i, aZ H1507 24 i = aZ H 24 i := fun i => (by rw [eH1507, aZ_sF] : aZ H1507 24 i = aZ H1490 24 i).trans (m1504 i)
                  have ie1509 : v1506.toInt = (fZ H1507 0 34).toInt := by rw [← e1509]
                  refine g_nop ?_
                  refine g_iinc (l' := (fun v1522 => [(0, .ref 0), (1, .int v1522), (2, .int v1433)])) rfl rfl (by decide) (by omega) (fun _ => rfl) (fun v1522 ev1522 => ?_)
                  refine g_goto ?_
                  refine gG_pick [0, 1] (l' := [(0, .ref 0), (1, .int v1522)]) rfl ?_
                  exact ihL1424 v1522 H1507 hIH1507 hJH1507 e1508 m1510 m1511 m1512 m1513 m1514 m1515 m1516 m1517 m1518 m1519 m1520 m1521 (by omega) (by omega) (pmA_st hIH1434 (by omega) rfl eH1490 (fun a i => by rw [eH1507, aZ_sF]) q3 (by omega) (by omega)) (od_st (in_en hIH1434 sm_19 q7 eH1490 (by omega) (by omega) (Or.inr (by rw [orv_t q7 yv1486 (by omega) (by omega)]; show ¬ (aZ H 18 v1409.toInt.toNat).toInt < (aZ H 18 v1486.toInt.toNat).toInt; omega))) (by omega) (by show ¬ (aZ H 17 _).toInt = 0; omega) eH1507 (by have := q5.1; omega)) (by have hz := congrArg Int32.toInt (m1510 2); omega) (by omega)
                · refine g_aload_n rfl ?_
                  refine g_gfr hIH1434 sm_0 rfl ?_
                  refine g_iload_n rfl ?_
                  refine g_aload_n rfl ?_
                  refine g_gfr hIH1434 sm_0 rfl ?_
                  refine g_iload_n rfl ?_
                  refine g_iconst (by decide) (fun v1523 kv1523 => ?_)
                  refine g_isub (by omega) (fun v1524 ev1524 => ?_)
                  refine g_iaload hIH1434 sm_19 rfl (by omega) (fun v1525 ev1525 lv1525 uv1525 => ?_)
                  have yv1525 : v1525.toInt = (aZ H1434 19 v1524.toInt.toNat).toInt := by rw [ev1525]
                  refine g_iastore hIH1434 sm_19 (by omega) (by omega) (fun H1526 eH1526 hIH1526 => ?_)
                  have hJH1526 : JM H1526 := JM_sA (by decide) eH1526 hJH1434
                  have e1527 : k0_2 = fZ H1526 0 2 := by rw [eH1526, fZ_sA]; exact e1435
                  have e1528 : k1425 = fZ H1526 0 34 := by rw [eH1526, fZ_sA]; exact e1436
                  have m1529 : ∀ i, aZ H1526 2 i = aZ H 2 i := fun i => (by rw [eH1526, aZ_sA_nc (by omega)] : aZ H1526 2 i = aZ H1434 2 i).trans (m1437 i)
                  have m1530 : ∀ i, aZ H1526 17 i = aZ H 17 i := fun i => (by rw [eH1526, aZ_sA_nc (by omega)] : aZ H1526 17 i = aZ H1434 17 i).trans (m1438 i)
                  have m1531 : kpM H H1526 := kpM_A m1439 eH1526 (by omega)
                  have m1532 : ∀ i, aZ H1526 18 i = aZ H 18 i := fun i => (by rw [eH1526, aZ_sA_nc (by omega)] : aZ H1526 18 i = aZ H1434 18 i).trans (m1440 i)
                  have m1533 : ∀ i, aZ H1526 7 i = aZ H 7 i := fun i => (by rw [eH1526, aZ_sA_nc (by omega)] : aZ H1526 7 i = aZ H1434 7 i).trans (m1441 i)
                  have m1534 : ∀ i, aZ H1526 9 i = aZ H 9 i := fun i => (by rw [eH1526, aZ_sA_nc (by omega)] : aZ H1526 9 i = aZ H1434 9 i).trans (m1442 i)
                  have m1535 : ∀ i, aZ H1526 12 i = aZ H 12 i := fun i => (by rw [eH1526, aZ_sA_nc (by omega)] : aZ H1526 12 i = aZ H1434 12 i).trans (m1443 i)
                  have m1536 : ∀ i, aZ H1526 13 i = aZ H 13 i := fun i => (by rw [eH1526, aZ_sA_nc (by omega)] : aZ H1526 13 i = aZ H1434 13 i).trans (m1444 i)
                  have m1537 : ∀ i, aZ H1526 14 i = aZ H 14 i := fun i => (by rw [eH1526, aZ_sA_nc (by omega)] : aZ H1526 14 i = aZ H1434 14 i).trans (m1445 i)
                  have m1538 : ∀ i, aZ H1526 15 i = aZ H 15 i := fun i => (by rw [eH1526, aZ_sA_nc (by omega)] : aZ H1526 15 i = aZ H1434 15 i).trans (m1446 i)
                  have m1539 : ∀ i, aZ H1526 16 i = aZ H 16 i := fun i => (by rw [eH1526, aZ_sA_nc (by omega)] : aZ H1526 16 i = aZ H1434 16 i).trans (m1447 i)
                  have m1540 : ∀ i, aZ H1526 24 i = aZ H 24 i := fun i => (by rw [eH1526, aZ_sA_nc (by omega)] : aZ H1526 24 i = aZ H1434 24 i).trans (m1448 i)
                  have ie1528 : k1425.toInt = (fZ H1526 0 34).toInt := by rw [← e1528]
                  refine g_iinc (l' := (fun v1541 => [(0, .ref 0), (1, .int v1409), (2, .int v1541)])) rfl rfl (by decide) (by omega) (fun _ => rfl) (fun v1541 ev1541 => ?_)
                  refine g_goto ?_
                  exact ihL1449 v1541 H1526 hIH1526 hJH1526 e1527 e1528 m1529 m1530 m1531 m1532 m1533 m1534 m1535 m1536 m1537 m1538 m1539 m1540 (by omega) (pmB_sh hIH1434 (by omega) (by omega) ev1525 eH1526 q3 (by omega)) (by omega) (in_sp hIH1434 sm_19 q7 eH1526 (by omega) (by omega) (by rw [yv1525, show v1524.toInt.toNat = v1433.toInt.toNat - 1 by omega]) (by rw [orv_t q7 yv1486 (by omega) (by omega)]; show (aZ H 18 v1409.toInt.toNat).toInt < (aZ H 18 v1486.toInt.toNat).toInt; omega) (by omega)) (by omega)
          exact L1449 _ k1425 H1410 hIH1410 hJH1410 e1411 ek1425 m1412 m1413 m1414 m1415 m1416 m1417 m1418 m1419 m1420 m1421 m1422 m1423 (by omega) (pmB_0 (by rw [ek1425]; exact q2)) (by omega) (od_in q5 (by have hz := q5.1; rw [← ek1425] at hz; omega)) (Nat.lt_succ_self _)
        · refine g_goto ?_
          refine g_iinc (l' := (fun v1542 => [(0, .ref 0), (1, .int v1542)])) rfl rfl (by decide) (by omega) (fun _ => rfl) (fun v1542 ev1542 => ?_)
          refine g_goto ?_
          exact ihL1424 v1542 H1410 hIH1410 hJH1410 e1411 m1412 m1413 m1414 m1415 m1416 m1417 m1418 m1419 m1420 m1421 m1422 m1423 (by omega) (by omega) (pmA_skip q2 (by omega) (by omega) (by rw [← ev1431]; omega)) (od_sk q5 (by omega) (by rw [← yv1431]; omega)) (by have hz := congrArg Int32.toInt (m1412 2); omega) (by omega)
  exact L1424 _ v1408 H1393 hIH1393 hJH1393 e1394 m1396 m1397 m1398 m1399 m1400 m1401 m1402 m1403 m1404 m1405 m1406 m1407 (by omega) (by omega) (pmA_0 (by omega)) (od_0 (by omega) (by omega)) (by have hz := congrArg Int32.toInt (m1396 2); omega) (Nat.lt_succ_self _)
set_option maxRecDepth 4000 in
set_option maxHeartbeats 4000000 in
/-- M.clears -/
theorem r_184 (H : mzH) (hI : gI SM H) (hJ : JN H) : gCall 184 [.ref 0] H (gRv (fun H' => gI SM H' ∧ JM H' ∧ fZ H' 0 2 = fZ H 0 2 ∧ (∀ i, aZ H' 2 i = aZ H 2 i) ∧ (∀ i, aZ H' 17 i = aZ H 17 i) ∧ kpM H H' ∧ (∀ i, aZ H' 18 i = aZ H 18 i) ∧ (∀ i, aZ H' 24 i = aZ H 24 i) ∧ pmA H' (aZ H' 2 2).toInt 60 ∧ clR (rgM H') (mdM H') ∧ odI H' H (aZ H 2 2).toInt.toNat)) := by
  obtain ⟨k0_2, ek0_2⟩ : ∃ z, z = fZ H 0 2 := ⟨_, rfl⟩
  have ik0_2 : k0_2.toInt = (fZ H 0 2).toInt := by rw [← ek0_2]
  have bk0_2 : 0 ≤ k0_2.toInt ∧ k0_2.toInt ≤ 900 := by rw [ek0_2]; exact fZ_of hI sm_0 rfl
  have mk2 : ∀ i, aZ H 2 i = aZ H 2 i := fun _ => rfl
  have mk17 : ∀ i, aZ H 17 i = aZ H 17 i := fun _ => rfl
  have mkfr : kpM H H := kpM_r
  have mk18 : ∀ i, aZ H 18 i = aZ H 18 i := fun _ => rfl
  have mk24 : ∀ i, aZ H 24 i = aZ H 24 i := fun _ => rfl
  have mk3 : ∀ i, aZ H 3 i = aZ H 3 i := fun _ => rfl
  refine gG_call [(0, .ref 0)] ⟨rfl, trivial⟩ ?_
  show gG 2 zB_184 (mzBlk zB_184 0) [(0, .ref 0)] [] H 0 0 _
  refine g_iconst (by decide) (fun v817 kv817 => ?_)
  refine g_istore_n (l' := [(0, .ref 0), (1, .int v817)]) rfl rfl ?_
  refine g_nop ?_
  have L827 : ∀ (N : Nat) (v818 : Int32) (H819 : mzH), gI SM H819 → k0_2 = fZ H819 0 2 → (∀ i, aZ H819 2 i = aZ H 2 i) → (∀ i, aZ H819 17 i = aZ H 17 i) → kpM H H819 → (∀ i, aZ H819 18 i = aZ H 18 i) → (∀ i, aZ H819 24 i = aZ H 24 i) → (∀ i, aZ H819 3 i = aZ H 3 i) → (0 ≤ v818.toInt ∧ v818.toInt ≤ 40) → (∀ q, q < v818.toInt.toNat → (aZ H819 9 q).toInt = -5) → (∀ q : Nat, q < v818.toInt.toNat → (aZ H819 7 q).toInt = 0) → (∀ q : Nat, q < v818.toInt.toNat → (aZ H819 9 q).toInt = -5) → (∀ q : Nat, q < v818.toInt.toNat → (aZ H819 12 q).toInt = -5) → (∀ q : Nat, q < v818.toInt.toNat → (aZ H819 13 q).toInt = 0) → (∀ q : Nat, q < v818.toInt.toNat → (aZ H819 14 q).toInt = 0) → (∀ q : Nat, q < v818.toInt.toNat → (aZ H819 15 q).toInt = 0) → (∀ q : Nat, q < v818.toInt.toNat → (aZ H819 16 q).toInt = 0) → (40 - v818.toInt).toNat < N → gG 2 zB_184 (mzBlk zB_184 1) [(0, .ref 0), (1, .int v818)] [] H819 0 0 (gRv (fun H' => gI SM H' ∧ JM H' ∧ fZ H' 0 2 = fZ H 0 2 ∧ (∀ i, aZ H' 2 i = aZ H 2 i) ∧ (∀ i, aZ H' 17 i = aZ H 17 i) ∧ kpM H H' ∧ (∀ i, aZ H' 18 i = aZ H 18 i) ∧ (∀ i, aZ H' 24 i = aZ H 24 i) ∧ pmA H' (aZ H' 2 2).toInt 60 ∧ clR (rgM H') (mdM H') ∧ odI H' H (aZ H 2 2).toInt.toNat)) := by
    intro N
    induction N with
    | zero => intro v818 H819 hIH819 e820 m821 m822 m823 m824 m825 m826 bv818 q1 q5_7 q5_9 q5_12 q5_13 q5_14 q5_15 q5_16 hmL827; exact absurd hmL827 (Nat.not_lt_zero _)
    | succ N ihL827 =>
      intro v818 H819 hIH819 e820 m821 m822 m823 m824 m825 m826 bv818 q1 q5_7 q5_9 q5_12 q5_13 q5_14 q5_15 q5_16 hmL827
      refine g_iload_n rfl ?_
      refine g_bipush (by decide) (fun v828 kv828 => ?_)
      refine g_if2_ge (fun c829 => ?_) (fun c829 => ?_)
      · have hJ830 : JM H819 := JM_clr hJ (fun q hq => q1 q (by omega)) m821 m826
        refine g_aload_n rfl ?_
        refine g_invvv hIH819 sm_0 rfl rfl rfl rfl (r_183 H819 hIH819 hJ830) (fun H831 r832 => ?_)
        obtain ⟨hIH831, hJH831, w833, m834, m835, m836, m837, m838, m839, m840, m841, m842, m843, m844, m845, p846, p847⟩ := r832
        have e848 : k0_2 = fZ H831 0 2 := e820.trans w833.symm
        have m849 : ∀ i, aZ H831 2 i = aZ H 2 i := fun i => (m834 i).trans (m821 i)
        have m850 : ∀ i, aZ H831 17 i = aZ H 17 i := fun i => (m835 i).trans (m822 i)
        have m851 : kpM H H831 := kpM_t m823 m836
        have m852 : ∀ i, aZ H831 18 i = aZ H 18 i := fun i => (m837 i).trans (m824 i)
        have m853 : ∀ i, aZ H831 24 i = aZ H 24 i := fun i => (m845 i).trans (m825 i)
        exact g_ret ⟨rfl, hIH831, hJH831, (e848.symm.trans ek0_2), m849, m850, m851, m852, m853, p846, (fun n hn => ⟨by show (aZ H831 7 n).toInt = 0; rw [m838]; exact q5_7 n (by omega), by show (aZ H831 9 n).toInt = -5; rw [m839]; exact q5_9 n (by omega), by show (aZ H831 12 n).toInt = -5; rw [m840]; exact q5_12 n (by omega), by show (aZ H831 13 n).toInt = 0; rw [m841]; exact q5_13 n (by omega), by show (aZ H831 14 n).toInt = 0; rw [m842]; exact q5_14 n (by omega), by show (aZ H831 15 n).toInt = 0; rw [m843]; exact q5_15 n (by omega), by show (aZ H831 16 n).toInt = 0; rw [m844]; exact q5_16 n (by omega)⟩), (od_cg m822 m824 m821 p847)⟩
      · refine g_aload_n rfl ?_
        refine g_gfr hIH819 sm_0 rfl ?_
        refine g_iload_n rfl ?_
        refine g_iconst (by decide) (fun v854 kv854 => ?_)
        refine g_zastore hIH819 sm_7 (by omega) (by omega) (fun H855 eH855 hIH855 => ?_)
        have e856 : k0_2 = fZ H855 0 2 := by rw [eH855, fZ_sA]; exact e820
        have m857 : ∀ i, aZ H855 2 i = aZ H 2 i := fun i => (by rw [eH855, aZ_sA_nc (by omega)] : aZ H855 2 i = aZ H819 2 i).trans (m821 i)
        have m858 : ∀ i, aZ H855 17 i = aZ H 17 i := fun i => (by rw [eH855, aZ_sA_nc (by omega)] : aZ H855 17 i = aZ H819 17 i).trans (m822 i)
        have m859 : kpM H H855 := kpM_A m823 eH855 (by omega)
        have m860 : ∀ i, aZ H855 18 i = aZ H 18 i := fun i => (by rw [eH855, aZ_sA_nc (by omega)] : aZ H855 18 i = aZ H819 18 i).trans (m824 i)
        have m861 : ∀ i, aZ H855 24 i = aZ H 24 i := fun i => (by rw [eH855, aZ_sA_nc (by omega)] : aZ H855 24 i = aZ H819 24 i).trans (m825 i)
        have m862 : ∀ i, aZ H855 3 i = aZ H 3 i := fun i => (by rw [eH855, aZ_sA_nc (by omega)] : aZ H855 3 i = aZ H819 3 i).trans (m826 i)
        refine g_aload_n rfl ?_
        refine g_gfr hIH855 sm_0 rfl ?_
        refine g_iload_n rfl ?_
        refine g_bipush (by decide) (fun v863 kv863 => ?_)
        refine g_iastore hIH855 sm_9 (by omega) (by omega) (fun H864 eH864 hIH864 => ?_)
        have e865 : k0_2 = fZ H864 0 2 := by rw [eH864, fZ_sA]; exact e856
        have m866 : ∀ i, aZ H864 2 i = aZ H 2 i := fun i => (by rw [eH864, aZ_sA_nc (by omega)] : aZ H864 2 i = aZ H855 2 i).trans (m857 i)
        have m867 : ∀ i, aZ H864 17 i = aZ H 17 i := fun i => (by rw [eH864, aZ_sA_nc (by omega)] : aZ H864 17 i = aZ H855 17 i).trans (m858 i)
        have m868 : kpM H H864 := kpM_A m859 eH864 (by omega)
        have m869 : ∀ i, aZ H864 18 i = aZ H 18 i := fun i => (by rw [eH864, aZ_sA_nc (by omega)] : aZ H864 18 i = aZ H855 18 i).trans (m860 i)
        have m870 : ∀ i, aZ H864 24 i = aZ H 24 i := fun i => (by rw [eH864, aZ_sA_nc (by omega)] : aZ H864 24 i = aZ H855 24 i).trans (m861 i)
        have m871 : ∀ i, aZ H864 3 i = aZ H 3 i := fun i => (by rw [eH864, aZ_sA_nc (by omega)] : aZ H864 3 i = aZ H855 3 i).trans (m862 i)
        refine g_aload_n rfl ?_
        refine g_gfr hIH864 sm_0 rfl ?_
        refine g_iload_n rfl ?_
        refine g_bipush (by decide) (fun v872 kv872 => ?_)
        refine g_iastore hIH864 sm_12 (by omega) (gz_any _) (fun H873 eH873 hIH873 => ?_)
        have e874 : k0_2 = fZ H873 0 2 := by rw [eH873, fZ_sA]; exact e865
        have m875 : ∀ i, aZ H873 2 i = aZ H 2 i := fun i => (by rw [eH873, aZ_sA_nc (by omega)] : aZ H873 2 i = aZ H864 2 i).trans (m866 i)
        have m876 : ∀ i, aZ H873 17 i = aZ H 17 i := fun i => (by rw [eH873, aZ_sA_nc (by omega)] : aZ H873 17 i = aZ H864 17 i).trans (m867 i)
        have m877 : kpM H H873 := kpM_A m868 eH873 (by omega)
        have m878 : ∀ i, aZ H873 18 i = aZ H 18 i := fun i => (by rw [eH873, aZ_sA_nc (by omega)] : aZ H873 18 i = aZ H864 18 i).trans (m869 i)
        have m879 : ∀ i, aZ H873 24 i = aZ H 24 i := fun i => (by rw [eH873, aZ_sA_nc (by omega)] : aZ H873 24 i = aZ H864 24 i).trans (m870 i)
        have m880 : ∀ i, aZ H873 3 i = aZ H 3 i := fun i => (by rw [eH873, aZ_sA_nc (by omega)] : aZ H873 3 i = aZ H864 3 i).trans (m871 i)
        refine g_aload_n rfl ?_
        refine g_gfr hIH873 sm_0 rfl ?_
        refine g_iload_n rfl ?_
        refine g_iconst (by decide) (fun v881 kv881 => ?_)
        refine g_zastore hIH873 sm_13 (by omega) (by omega) (fun H882 eH882 hIH882 => ?_)
        have e883 : k0_2 = fZ H882 0 2 := by rw [eH882, fZ_sA]; exact e874
        have m884 : ∀ i, aZ H882 2 i = aZ H 2 i := fun i => (by rw [eH882, aZ_sA_nc (by omega)] : aZ H882 2 i = aZ H873 2 i).trans (m875 i)
        have m885 : ∀ i, aZ H882 17 i = aZ H 17 i := fun i => (by rw [eH882, aZ_sA_nc (by omega)] : aZ H882 17 i = aZ H873 17 i).trans (m876 i)
        have m886 : kpM H H882 := kpM_A m877 eH882 (by omega)
        have m887 : ∀ i, aZ H882 18 i = aZ H 18 i := fun i => (by rw [eH882, aZ_sA_nc (by omega)] : aZ H882 18 i = aZ H873 18 i).trans (m878 i)
        have m888 : ∀ i, aZ H882 24 i = aZ H 24 i := fun i => (by rw [eH882, aZ_sA_nc (by omega)] : aZ H882 24 i = aZ H873 24 i).trans (m879 i)
        have m889 : ∀ i, aZ H882 3 i = aZ H 3 i := fun i => (by rw [eH882, aZ_sA_nc (by omega)] : aZ H882 3 i = aZ H873 3 i).trans (m880 i)
        refine g_aload_n rfl ?_
        refine g_gfr hIH882 sm_0 rfl ?_
        refine g_iload_n rfl ?_
        refine g_iconst (by decide) (fun v890 kv890 => ?_)
        refine g_zastore hIH882 sm_14 (by omega) (by omega) (fun H891 eH891 hIH891 => ?_)
        have e892 : k0_2 = fZ H891 0 2 := by rw [eH891, fZ_sA]; exact e883
        have m893 : ∀ i, aZ H891 2 i = aZ H 2 i := fun i => (by rw [eH891, aZ_sA_nc (by omega)] : aZ H891 2 i = aZ H882 2 i).trans (m884 i)
        have m894 : ∀ i, aZ H891 17 i = aZ H 17 i := fun i => (by rw [eH891, aZ_sA_nc (by omega)] : aZ H891 17 i = aZ H882 17 i).trans (m885 i)
        have m895 : kpM H H891 := kpM_A m886 eH891 (by omega)
        have m896 : ∀ i, aZ H891 18 i = aZ H 18 i := fun i => (by rw [eH891, aZ_sA_nc (by omega)] : aZ H891 18 i = aZ H882 18 i).trans (m887 i)
        have m897 : ∀ i, aZ H891 24 i = aZ H 24 i := fun i => (by rw [eH891, aZ_sA_nc (by omega)] : aZ H891 24 i = aZ H882 24 i).trans (m888 i)
        have m898 : ∀ i, aZ H891 3 i = aZ H 3 i := fun i => (by rw [eH891, aZ_sA_nc (by omega)] : aZ H891 3 i = aZ H882 3 i).trans (m889 i)
        refine g_aload_n rfl ?_
        refine g_gfr hIH891 sm_0 rfl ?_
        refine g_iload_n rfl ?_
        refine g_iconst (by decide) (fun v899 kv899 => ?_)
        refine g_zastore hIH891 sm_15 (by omega) (by omega) (fun H900 eH900 hIH900 => ?_)
        have e901 : k0_2 = fZ H900 0 2 := by rw [eH900, fZ_sA]; exact e892
        have m902 : ∀ i, aZ H900 2 i = aZ H 2 i := fun i => (by rw [eH900, aZ_sA_nc (by omega)] : aZ H900 2 i = aZ H891 2 i).trans (m893 i)
        have m903 : ∀ i, aZ H900 17 i = aZ H 17 i := fun i => (by rw [eH900, aZ_sA_nc (by omega)] : aZ H900 17 i = aZ H891 17 i).trans (m894 i)
        have m904 : kpM H H900 := kpM_A m895 eH900 (by omega)
        have m905 : ∀ i, aZ H900 18 i = aZ H 18 i := fun i => (by rw [eH900, aZ_sA_nc (by omega)] : aZ H900 18 i = aZ H891 18 i).trans (m896 i)
        have m906 : ∀ i, aZ H900 24 i = aZ H 24 i := fun i => (by rw [eH900, aZ_sA_nc (by omega)] : aZ H900 24 i = aZ H891 24 i).trans (m897 i)
        have m907 : ∀ i, aZ H900 3 i = aZ H 3 i := fun i => (by rw [eH900, aZ_sA_nc (by omega)] : aZ H900 3 i = aZ H891 3 i).trans (m898 i)
        refine g_aload_n rfl ?_
        refine g_gfr hIH900 sm_0 rfl ?_
        refine g_iload_n rfl ?_
        refine g_iconst (by decide) (fun v908 kv908 => ?_)
        refine g_zastore hIH900 sm_16 (by omega) (by omega) (fun H909 eH909 hIH909 => ?_)
        have e910 : k0_2 = fZ H909 0 2 := by rw [eH909, fZ_sA]; exact e901
        have m911 : ∀ i, aZ H909 2 i = aZ H 2 i := fun i => (by rw [eH909, aZ_sA_nc (by omega)] : aZ H909 2 i = aZ H900 2 i).trans (m902 i)
        have m912 : ∀ i, aZ H909 17 i = aZ H 17 i := fun i => (by rw [eH909, aZ_sA_nc (by omega)] : aZ H909 17 i = aZ H900 17 i).trans (m903 i)
        have m913 : kpM H H909 := kpM_A m904 eH909 (by omega)
        have m914 : ∀ i, aZ H909 18 i = aZ H 18 i := fun i => (by rw [eH909, aZ_sA_nc (by omega)] : aZ H909 18 i = aZ H900 18 i).trans (m905 i)
        have m915 : ∀ i, aZ H909 24 i = aZ H 24 i := fun i => (by rw [eH909, aZ_sA_nc (by omega)] : aZ H909 24 i = aZ H900 24 i).trans (m906 i)
        have m916 : ∀ i, aZ H909 3 i = aZ H 3 i := fun i => (by rw [eH909, aZ_sA_nc (by omega)] : aZ H909 3 i = aZ H900 3 i).trans (m907 i)
        refine g_iinc (l' := (fun v917 => [(0, .ref 0), (1, .int v917)])) rfl rfl (by decide) (by omega) (fun _ => rfl) (fun v917 ev917 => ?_)
        refine g_goto ?_
        exact ihL827 v917 H909 hIH909 e910 m911 m912 m913 m914 m915 m916 (by omega) (fun q hq => by rw [eH909, aZ_sA_nc (by decide), eH900, aZ_sA_nc (by decide), eH891, aZ_sA_nc (by decide), eH882, aZ_sA_nc (by decide), eH873, aZ_sA_nc (by decide), eH864]; if e : v818.toInt.toNat = q then (subst e; rw [aZ_sA_eq hIH855 sm_9 (by omega)]; omega) else (rw [aZ_sA_ne e, eH855, aZ_sA_nc (by decide)]; exact q1 q (by omega))) (fun q hq => by rw [eH909, aZ_sA_nc (by decide), eH900, aZ_sA_nc (by decide), eH891, aZ_sA_nc (by decide), eH882, aZ_sA_nc (by decide), eH873, aZ_sA_nc (by decide), eH864, aZ_sA_nc (by decide), eH855]; if e : v818.toInt.toNat = q then (subst e; rw [aZ_sA_eq hIH819 sm_7 (by omega)]; omega) else (rw [aZ_sA_ne e]; exact q5_7 q (by omega))) (fun q hq => by rw [eH909, aZ_sA_nc (by decide), eH900, aZ_sA_nc (by decide), eH891, aZ_sA_nc (by decide), eH882, aZ_sA_nc (by decide), eH873, aZ_sA_nc (by decide), eH864]; if e : v818.toInt.toNat = q then (subst e; rw [aZ_sA_eq hIH855 sm_9 (by omega)]; omega) else (rw [aZ_sA_ne e, eH855, aZ_sA_nc (by decide)]; exact q5_9 q (by omega))) (fun q hq => by rw [eH909, aZ_sA_nc (by decide), eH900, aZ_sA_nc (by decide), eH891, aZ_sA_nc (by decide), eH882, aZ_sA_nc (by decide), eH873]; if e : v818.toInt.toNat = q then (subst e; rw [aZ_sA_eq hIH864 sm_12 (by omega)]; omega) else (rw [aZ_sA_ne e, eH864, aZ_sA_nc (by decide), eH855, aZ_sA_nc (by decide)]; exact q5_12 q (by omega))) (fun q hq => by rw [eH909, aZ_sA_nc (by decide), eH900, aZ_sA_nc (by decide), eH891, aZ_sA_nc (by decide), eH882]; if e : v818.toInt.toNat = q then (subst e; rw [aZ_sA_eq hIH873 sm_13 (by omega)]; omega) else (rw [aZ_sA_ne e, eH873, aZ_sA_nc (by decide), eH864, aZ_sA_nc (by decide), eH855, aZ_sA_nc (by decide)]; exact q5_13 q (by omega))) (fun q hq => by rw [eH909, aZ_sA_nc (by decide), eH900, aZ_sA_nc (by decide), eH891]; if e : v818.toInt.toNat = q then (subst e; rw [aZ_sA_eq hIH882 sm_14 (by omega)]; omega) else (rw [aZ_sA_ne e, eH882, aZ_sA_nc (by decide), eH873, aZ_sA_nc (by decide), eH864, aZ_sA_nc (by decide), eH855, aZ_sA_nc (by decide)]; exact q5_14 q (by omega))) (fun q hq => by rw [eH909, aZ_sA_nc (by decide), eH900]; if e : v818.toInt.toNat = q then (subst e; rw [aZ_sA_eq hIH891 sm_15 (by omega)]; omega) else (rw [aZ_sA_ne e, eH891, aZ_sA_nc (by decide), eH882, aZ_sA_nc (by decide), eH873, aZ_sA_nc (by decide), eH864, aZ_sA_nc (by decide), eH855, aZ_sA_nc (by decide)]; exact q5_15 q (by omega))) (fun q hq => by rw [eH909]; if e : v818.toInt.toNat = q then (subst e; rw [aZ_sA_eq hIH900 sm_16 (by omega)]; omega) else (rw [aZ_sA_ne e, eH900, aZ_sA_nc (by decide), eH891, aZ_sA_nc (by decide), eH882, aZ_sA_nc (by decide), eH873, aZ_sA_nc (by decide), eH864, aZ_sA_nc (by decide), eH855, aZ_sA_nc (by decide)]; exact q5_16 q (by omega))) (by omega)
  exact L827 _ v817 H hI ek0_2 mk2 mk17 mkfr mk18 mk24 mk3 (by omega) (fun q hq => absurd hq (by omega)) (fun q hq => absurd hq (by omega)) (fun q hq => absurd hq (by omega)) (fun q hq => absurd hq (by omega)) (fun q hq => absurd hq (by omega)) (fun q hq => absurd hq (by omega)) (fun q hq => absurd hq (by omega)) (fun q hq => absurd hq (by omega)) (Nat.lt_succ_self _)
set_option maxRecDepth 4000 in
set_option maxHeartbeats 4000000 in
/-- M.runs -/
theorem r_198 (a1 : Int32) (H : mzH) (hI : gI SM H) (hJ : JN H) (hp0 : gdM H) : gCall 198 [.ref 0, .int a1] H (gRv (fun H' => gI SM H' ∧ JM H' ∧ fZ H' 0 2 = fZ H 0 2 ∧ (∀ i, aZ H' 2 i = aZ H 2 i) ∧ (∀ i, aZ H' 17 i = aZ H 17 i) ∧ kpM H H' ∧ (∀ i, aZ H' 18 i = aZ H 18 i) ∧ (∀ i, aZ H' 24 i = aZ H 24 i) ∧ pmA H' (aZ H' 2 2).toInt 60 ∧ (∃ G : mzH, clR (rgM G) (mdM G) ∧ ∃ p : Nat, rwX H' (fM H G p).1 (fM H G p).2 ∧ stM H a1.toInt p ∧ (∀ x : Nat, x < p → (aZ H' 20 (odM H x)).toInt = rvM H G x) ∧ odI H' H (aZ H 2 2).toInt.toNat))) := by
  obtain ⟨k0_2, ek0_2⟩ : ∃ z, z = fZ H 0 2 := ⟨_, rfl⟩
  have ik0_2 : k0_2.toInt = (fZ H 0 2).toInt := by rw [← ek0_2]
  have bk0_2 : 0 ≤ k0_2.toInt ∧ k0_2.toInt ≤ 900 := by rw [ek0_2]; exact fZ_of hI sm_0 rfl
  have mk2 : ∀ i, aZ H 2 i = aZ H 2 i := fun _ => rfl
  have mk17 : ∀ i, aZ H 17 i = aZ H 17 i := fun _ => rfl
  have mkfr : kpM H H := kpM_r
  have mk18 : ∀ i, aZ H 18 i = aZ H 18 i := fun _ => rfl
  have mk24 : ∀ i, aZ H 24 i = aZ H 24 i := fun _ => rfl
  refine gG_call [(0, .ref 0), (1, .int a1)] ⟨rfl, rfl, trivial⟩ ?_
  show gG 3 zB_198 (mzBlk zB_198 0) [(0, .ref 0), (1, .int a1)] [] H 0 0 _
  refine g_aload_n rfl ?_
  refine g_invvv hI sm_0 rfl rfl rfl rfl (r_184 H hI hJ) (fun H465 r466 => ?_)
  obtain ⟨hIH465, hJH465, w467, m468, m469, m470, m471, m472, p473, p474, p475⟩ := r466
  have e476 : k0_2 = fZ H465 0 2 := ek0_2.trans w467.symm
  have m477 : ∀ i, aZ H465 2 i = aZ H 2 i := fun i => (m468 i).trans (mk2 i)
  have m478 : ∀ i, aZ H465 17 i = aZ H 17 i := fun i => (m469 i).trans (mk17 i)
  have m479 : kpM H H465 := kpM_t mkfr m470
  have m480 : ∀ i, aZ H465 18 i = aZ H 18 i := fun i => (m471 i).trans (mk18 i)
  have m481 : ∀ i, aZ H465 24 i = aZ H 24 i := fun i => (m472 i).trans (mk24 i)
  refine g_iconst (by decide) (fun v482 kv482 => ?_)
  refine g_istore_n (l' := [(0, .ref 0), (1, .int a1), (2, .int v482)]) rfl rfl ?_
  refine g_nop ?_
  have L491 : ∀ (N : Nat) (v483 : Int32) (H484 : mzH), gI SM H484 → JM H484 → k0_2 = fZ H484 0 2 → (∀ i, aZ H484 2 i = aZ H 2 i) → (∀ i, aZ H484 17 i = aZ H 17 i) → kpM H H484 → (∀ i, aZ H484 18 i = aZ H 18 i) → (∀ i, aZ H484 24 i = aZ H 24 i) → (0 ≤ v483.toInt ∧ v483.toInt ≤ 60) → pmA H484 (aZ H484 2 2).toInt 60 → rwX H484 (fM H H465 v483.toInt.toNat).1 (fM H H465 v483.toInt.toNat).2 → (∀ q : Nat, q < v483.toInt.toNat → hqM H q ≤ a1.toInt) → odI H484 H (aZ H 2 2).toInt.toNat → v483.toInt.toNat ≤ cnM H → (∀ x : Nat, x < v483.toInt.toNat → (aZ H484 20 (odM H x)).toInt = rvM H H465 x) → (60 - v483.toInt).toNat < N → gG 3 zB_198 (mzBlk zB_198 1) [(0, .ref 0), (1, .int a1), (2, .int v483)] [] H484 0 0 (gRv (fun H' => gI SM H' ∧ JM H' ∧ fZ H' 0 2 = fZ H 0 2 ∧ (∀ i, aZ H' 2 i = aZ H 2 i) ∧ (∀ i, aZ H' 17 i = aZ H 17 i) ∧ kpM H H' ∧ (∀ i, aZ H' 18 i = aZ H 18 i) ∧ (∀ i, aZ H' 24 i = aZ H 24 i) ∧ pmA H' (aZ H' 2 2).toInt 60 ∧ (∃ G : mzH, clR (rgM G) (mdM G) ∧ ∃ p : Nat, rwX H' (fM H G p).1 (fM H G p).2 ∧ stM H a1.toInt p ∧ (∀ x : Nat, x < p → (aZ H' 20 (odM H x)).toInt = rvM H G x) ∧ odI H' H (aZ H 2 2).toInt.toNat))) := by
    intro N
    induction N with
    | zero => intro v483 H484 hIH484 hJH484 e485 m486 m487 m488 m489 m490 bv483 q1 q5 q6 q7 q8 q10 hmL491; exact absurd hmL491 (Nat.not_lt_zero _)
    | succ N ihL491 =>
      intro v483 H484 hIH484 hJH484 e485 m486 m487 m488 m489 m490 bv483 q1 q5 q6 q7 q8 q10 hmL491
      refine g_iload_n rfl ?_
      refine g_aload_n rfl ?_
      refine g_gfi hIH484 sm_0 rfl (fun v492 ev492 lv492 uv492 => ?_)
      have zv492 : v492.toInt = (cnM H : Int) := by rw [ev492]; exact od_n q7
      refine g_if2_ge (fun c493 => ?_) (fun c493 => ?_)
      · exact g_ret ⟨rfl, hIH484, hJH484, (e485.symm.trans ek0_2), m486, m487, m488, m489, m490, q1, ⟨H465, p474, v483.toInt.toNat, q5, ⟨q8, q6, Or.inl (by omega)⟩, q10, q7⟩⟩
      · refine g_aload_n rfl ?_
        refine g_gfr hIH484 sm_0 rfl ?_
        refine g_aload_n rfl ?_
        refine g_gfr hIH484 sm_0 rfl ?_
        refine g_iload_n rfl ?_
        refine g_iaload hIH484 sm_19 rfl (by omega) (fun v494 ev494 lv494 uv494 => ?_)
        have zv494 : v494.toInt.toNat = odM H v483.toInt.toNat := by rw [ev494]; exact od_g q7 (by omega)
        refine g_iaload hIH484 sm_18 rfl (by omega) (fun v495 ev495 lv495 uv495 => ?_)
        have yv495 : v495.toInt = (aZ H 18 v494.toInt.toNat).toInt := by rw [ev495, m489]
        refine g_iload_n rfl ?_
        refine g_if2_gt (fun c496 => ?_) (fun c496 => ?_)
        · exact g_ret ⟨rfl, hIH484, hJH484, (e485.symm.trans ek0_2), m486, m487, m488, m489, m490, q1, ⟨H465, p474, v483.toInt.toNat, q5, ⟨q8, q6, Or.inr (by show _ < (aZ H 18 (odM H _)).toInt; rw [← zv494]; omega)⟩, q10, q7⟩⟩
        · refine g_aload_n rfl ?_
          refine g_aload_n rfl ?_
          refine g_gfr hIH484 sm_0 rfl ?_
          refine g_iload_n rfl ?_
          refine g_ialoadk hIH484 sm_19 rfl (by omega) ev494 ?_
          refine g_invvv hIH484 sm_0 rfl rfl rfl rfl (r_192 v494 (by omega) H484 hIH484 hJH484 q5 ((hp0.2 H465 p474 v483.toInt.toNat (by omega)).1) ((hp0.2 H465 p474 v483.toInt.toNat (by omega)).2) (by rw [m489, zv494]; exact (hp0.1 v483.toInt.toNat (by omega))) (bt_of hIH484 q5)) (fun H497 r498 => ?_)
          obtain ⟨hIH497, hJH497, m499, m500, m501, m502, m503, m504, m505, m506, m507, m508, p509, p510, p511⟩ := r498
          have e512 : k0_2 = fZ H497 0 2 := e485.trans (m499 0 2).symm
          have m513 : ∀ i, aZ H497 2 i = aZ H 2 i := fun i => (m500 i).trans (m486 i)
          have m514 : ∀ i, aZ H497 17 i = aZ H 17 i := fun i => (m502 i).trans (m487 i)
          have m515 : kpM H H497 := kpM_t m488 m503
          have m516 : ∀ i, aZ H497 18 i = aZ H 18 i := fun i => (m504 i).trans (m489 i)
          have m517 : ∀ i, aZ H497 24 i = aZ H 24 i := fun i => (m507 i).trans (m490 i)
          refine g_iinc (l' := (fun v518 => [(0, .ref 0), (1, .int a1), (2, .int v518)])) rfl rfl (by decide) (by omega) (fun _ => rfl) (fun v518 ev518 => ?_)
          refine g_goto ?_
          exact ihL491 v518 H497 hIH497 hJH497 e512 m513 m514 m515 m516 m517 (by omega) (by rw [m500 2]; exact pmA_cg m502 m501 q1) (fm_st m488 m489 m486 p509 zv494 (by omega) (by omega)) (hm_st q6 (by omega) (by show (aZ H 18 (odM H _)).toInt ≤ _; rw [← zv494]; omega)) (od_cg2 m501 (m499 0 34) q7) (by omega) (rv_st q10 m488 m489 m486 p510 p511 zv494 (by omega) (by omega) (by omega)) (by omega)
  exact L491 _ v482 H465 hIH465 hJH465 e476 m477 m478 m479 m480 m481 (by omega) p473 (by rw [kv482]; exact rw_rd) (fun q hq => by omega) p475 (by omega) (fun x hx => by omega) (Nat.lt_succ_self _)
