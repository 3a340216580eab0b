/-! THE REFERENCE RUNS -/
/-- those that are in, by hours: how many, which -/
def ord2 (I hr : Nat → Int) : Nat → Nat × (Nat → Nat)
  | 0 => (0, fun _ => 0)
  | k + 1 => if I k = 0 then ord2 I hr k else ((ord2 I hr k).1 + 1, isr (ord2 I hr k).2 k (ord2 I hr k).1 (posF hr (ord2 I hr k).2 k (ord2 I hr k).1))
/-! ORDERS -/
/-- by hours, of like ones by numbers -/
def kLt (hr : Nat → Int) (a b : Nat) : Prop := hr a < hr b ∨ (hr a = hr b ∧ a < b)
def srt (hr : Nat → Int) (n : Nat) (t : Nat → Nat) : Prop := ∀ i j, i < j → j < n → kLt hr (t i) (t j)
theorem pos_lt {hr : Nat → Int} {t : Nat → Nat} {k : Nat} : ∀ n q, posF hr t k n ≤ q → q < n → hr k < hr (t q)
  | 0, q, _, h => absurd h (Nat.not_lt_zero _)
  | n + 1, q, h1, h2 => by
    unfold posF at h1
    if c : hr k < hr (t n) then
      rw [if_pos c] at h1
      if e : q = n then rw [e]; exact c
      else exact pos_lt n q h1 (by omega)
    else
      rw [if_neg c] at h1
      omega
theorem pos_ge {hr : Nat → Int} {t : Nat → Nat} {k : Nat} : ∀ n, posF hr t k n = 0 ∨ ¬ hr k < hr (t (posF hr t k n - 1))
  | 0 => Or.inl rfl
  | n + 1 => by
    unfold posF
    if c : hr k < hr (t n) then rw [if_pos c]; exact pos_ge n
    else rw [if_neg c]; exact Or.inr c
theorem srt_isr {hr : Nat → Int} {t : Nat → Nat} {k n : Nat} (hs : srt hr n t) (hk : ∀ q, q < n → t q < k) : srt hr (n + 1) (isr t k n (posF hr t k n)) := by
  have pl := posF_le (hr := hr) (t := t) (k := k) n
  have p1 := pos_lt (hr := hr) (t := t) (k := k) n
  have p2 : ∀ q, q < posF hr t k n → hr (t q) ≤ hr k := fun q hq => by
    rcases pos_ge (hr := hr) (t := t) (k := k) n with z | z
    · omega
    · if e : q = posF hr t k n - 1 then rw [e]; omega
      else
        have := hs q (posF hr t k n - 1) (by omega) (by omega)
        unfold kLt at this
        omega
  generalize posF hr t k n = sp at *
  intro i j hij hj
  unfold isr
  if ci : i < sp then
    rw [if_pos ci]
    if cj : j < sp then rw [if_pos cj]; exact hs i j hij (by omega)
    else
      rw [if_neg cj]
      if dj : j = sp then
        rw [if_pos dj]
        have h1 := p2 i ci
        have h2 := hk i (by omega)
        unfold kLt
        omega
      else
        rw [if_neg dj, if_pos (by omega)]
        exact hs i (j - 1) (by omega) (by omega)
  else
    rw [if_neg ci, if_neg (show ¬ j < sp by omega), if_neg (show ¬ j = sp by omega), if_pos (show j ≤ n by omega)]
    if di : i = sp then
      rw [if_pos di]
      exact Or.inl (p1 (j - 1) (by omega) (by omega))
    else
      rw [if_neg di, if_pos (by omega)]
      exact hs (i - 1) (j - 1) (by omega) (by omega)
theorem isr_mem {t : Nat → Nat} {k n sp x : Nat} (hsp : sp ≤ n) : (∃ q, q < n + 1 ∧ isr t k n sp q = x) ↔ (x = k ∨ ∃ q, q < n ∧ t q = x) := by
  constructor
  · rintro ⟨q, hq, e⟩
    unfold isr at e
    if c : q < sp then rw [if_pos c] at e; exact Or.inr ⟨q, by omega, e⟩
    else
      rw [if_neg c] at e
      if d : q = sp then rw [if_pos d] at e; exact Or.inl e.symm
      else
        rw [if_neg d, if_pos (by omega)] at e
        exact Or.inr ⟨q - 1, by omega, e⟩
  · rintro (e | ⟨q, hq, e⟩)
    · refine ⟨sp, by omega, ?_⟩
      unfold isr
      rw [if_neg (Nat.lt_irrefl _), if_pos rfl, e]
    · if c : q < sp then
        refine ⟨q, by omega, ?_⟩
        unfold isr
        rw [if_pos c, e]
      else
        refine ⟨q + 1, by omega, ?_⟩
        unfold isr
        rw [if_neg (by omega), if_neg (by omega), if_pos (by omega), Nat.add_sub_cancel, e]
/-- the order of those that are in -/
theorem ord2_ok {I hr : Nat → Int} : ∀ n, srt hr (ord2 I hr n).1 (ord2 I hr n).2 ∧ ∀ x, (∃ q, q < (ord2 I hr n).1 ∧ (ord2 I hr n).2 q = x) ↔ (x < n ∧ I x ≠ 0)
  | 0 => ⟨fun i j _ h => absurd h (Nat.not_lt_zero _), fun x => ⟨fun ⟨q, h, _⟩ => absurd h (Nat.not_lt_zero _), fun h => absurd h.1 (Nat.not_lt_zero _)⟩⟩
  | n + 1 => by
    obtain ⟨h1, h2⟩ := ord2_ok (I := I) (hr := hr) n
    unfold ord2
    if c : I n = 0 then
      rw [if_pos c]
      refine ⟨h1, fun x => ?_⟩
      rw [h2 x]
      refine ⟨fun z => ⟨by omega, z.2⟩, fun z => ⟨?_, z.2⟩⟩
      if e : x = n then rw [e] at z; exact absurd c z.2
      else omega
    else
      rw [if_neg c]
      refine ⟨srt_isr h1 (fun q hq => ((h2 _).mp ⟨q, hq, rfl⟩).1), fun x => ?_⟩
      show (∃ q, q < (ord2 I hr n).1 + 1 ∧ isr (ord2 I hr n).2 n (ord2 I hr n).1 _ q = x) ↔ _
      rw [isr_mem (posF_le _), h2 x]
      refine ⟨fun z => ?_, fun z => ?_⟩
      · rcases z with z | z
        · rw [z]; exact ⟨by omega, c⟩
        · exact ⟨by omega, z.2⟩
      · if e : x = n then exact Or.inl e
        else exact Or.inr ⟨by omega, z.2⟩
def inM (H : mzH) : Nat → Int := fun k => (aZ H 17 k).toInt
def hoM (H : mzH) : Nat → Int := fun k => (aZ H 18 k).toInt
def odI (G H : mzH) (k : Nat) : Prop := (fZ G 0 34).toInt = ((ord2 (inM H) (hoM H) k).1 : Int) ∧ ∀ q, q < (ord2 (inM H) (hoM H) k).1 → (aZ G 19 q).toInt = ((ord2 (inM H) (hoM H) k).2 q : Int)
theorem od_0 {G H : mzH} {k : Nat} (e : k = 0) (f : (fZ G 0 34).toInt = 0) : odI G H k := by
  subst e
  exact ⟨f, fun q hq => absurd hq (Nat.not_lt_zero _)⟩
theorem od_sk {G H : mzH} {k k2 : Nat} (q : odI G H k) (e : k2 = k + 1) (h : (aZ H 17 k).toInt = 0) : odI G H k2 := by
  subst e
  unfold odI ord2
  rw [if_pos (show inM H k = 0 from h)]
  exact q
theorem od_e {G H : mzH} {k k2 : Nat} (q : odI G H k) (e : k = k2) : odI G H k2 := e ▸ q
theorem od_in {G H : mzH} {k sp : Nat} (q : odI G H k) (e : sp = (ord2 (inM H) (hoM H) k).1) : inO (hoM H) (ord2 (inM H) (hoM H) k).2 k (ord2 (inM H) (hoM H) k).1 sp (fun q => (aZ G 19 q).toInt) := by
  subst e
  exact in_00 q.2
theorem orv_t {G : mzH} {hr : Nat → Int} {t : Nat → Nat} {k n c : Nat} {sp j v : Int32} (q : inO hr t k n sp.toInt.toNat (fun q => (aZ G c q).toInt)) (y : v.toInt = (aZ G c j.toInt.toNat).toInt) (ej : j.toInt = sp.toInt - 1) (h0 : 0 < sp.toInt) : t (sp.toInt.toNat - 1) = v.toInt.toNat := by
  have := q.2.1 (sp.toInt.toNat - 1) (by omega)
  have e : j.toInt.toNat = sp.toInt.toNat - 1 := by omega
  rw [e] at y
  have : v.toInt = (t (sp.toInt.toNat - 1) : Int) := y.trans this
  omega
theorem od_st {H B C : mzH} {k k2 : Nat} {v : Int32} (g : ∀ x, x < (ord2 (inM H) (hoM H) k).1 + 1 → (aZ B 19 x).toInt = (isr (ord2 (inM H) (hoM H) k).2 k (ord2 (inM H) (hoM H) k).1 (posF (hoM H) (ord2 (inM H) (hoM H) k).2 k (ord2 (inM H) (hoM H) k).1) x : Int)) (e : k2 = k + 1) (hn : ¬ (aZ H 17 k).toInt = 0) (eC : C = sF B 0 34 v) (hf : (fZ C 0 34).toInt = ((ord2 (inM H) (hoM H) k).1 : Int) + 1) : odI C H k2 := by
  subst e
  unfold odI ord2
  rw [if_neg (show ¬ inM H k = 0 from hn)]
  refine ⟨hf.trans (by omega), fun q hq => ?_⟩
  rw [eC, aZ_sF]
  exact g q hq
theorem od_cg {A B H : mzH} (h1 : ∀ i, aZ A 17 i = aZ H 17 i) (h2 : ∀ i, aZ A 18 i = aZ H 18 i) (h3 : ∀ i, aZ A 2 i = aZ H 2 i) (q : odI B A (aZ A 2 2).toInt.toNat) : odI B H (aZ H 2 2).toInt.toNat := by
  have e1 : inM A = inM H := by funext k; unfold inM; rw [h1]
  have e2 : hoM A = hoM H := by funext k; unfold hoM; rw [h2]
  unfold odI at q ⊢
  rw [e1, e2, h3] at q
  exact q
theorem od_cg2 {A B H : mzH} {k : Nat} (h1 : ∀ i, aZ B 19 i = aZ A 19 i) (h2 : fZ B 0 34 = fZ A 0 34) (q : odI A H k) : odI B H k := by
  refine ⟨by rw [h2]; exact q.1, fun x hx => by rw [h1]; exact q.2 x hx⟩
def rgM (H : mzH) : pS := psM (fun n => (aZ H 8 n).toInt) (fun n => (aZ H 9 n).toInt) (fun n => (aZ H 10 n).toInt) (fun n => (aZ H 11 n).toInt) (fun n => (aZ H 12 n).toInt) (fun n => (aZ H 13 n).toInt) (fun n => (aZ H 15 n).toInt) (fun n => (aZ H 16 n).toInt) (fun n => (aZ H 14 n).toInt)
def mdM (H : mzH) : Nat → Int := fun n => (aZ H 7 n).toInt
/-- nothing is made -/
def clR (r : pS) (m : Nat → Int) : Prop := ∀ n, n < 40 → m n = 0 ∧ r.ii n = -5 ∧ r.se n = -5 ∧ r.op n = 0 ∧ r.he n = 0 ∧ r.so n = 0 ∧ r.en n = 0
def fR (wy : Int → Int → Int) (U C : Int) (ro : Nat → Nat → Int) (od : Nat → Nat) (hr : Nat → Int) (r0 : pS) (m0 : Nat → Int) : Nat → pS × (Nat → Int)
  | 0 => (r0, m0)
  | p + 1 => (loS (fR wy U C ro od hr r0 m0 p).1 (fR wy U C ro od hr r0 m0 p).2 wy U C (ro (od p) 1) (ro (od p) 2).toNat (ro (od p) 3) (ro (od p) 4) (hr (od p)), loM (fR wy U C ro od hr r0 m0 p).1 (fR wy U C ro od hr r0 m0 p).2 wy U C (ro (od p) 1) (ro (od p) 2).toNat (ro (od p) 3) (hr (od p)))
def roM (H : mzH) : Nat → Nat → Int := fun k i => (aZ H 2 (69 + 5 * k + i)).toInt
def odM (H : mzH) : Nat → Nat := (ord2 (inM H) (hoM H) (aZ H 2 2).toInt.toNat).2
def cnM (H : mzH) : Nat := (ord2 (inM H) (hoM H) (aZ H 2 2).toInt.toNat).1
def fM (H G : mzH) : Nat → pS × (Nat → Int) := fR (wyM H) (aZ H 2 3).toInt (aZ H 2 4).toInt (roM H) (odM H) (hoM H) (rgM G) (mdM G)
def hqM (H : mzH) (q : Nat) : Int := hoM H (odM H q)
def stM (H : mzH) (h : Int) (p : Nat) : Prop := p ≤ cnM H ∧ (∀ q, q < p → hqM H q ≤ h) ∧ (p = cnM H ∨ h < hqM H p)
def gdM (H : mzH) : Prop := (∀ q : Nat, q < cnM H → (0 ≤ (aZ H 18 (odM H q)).toInt ∧ (aZ H 18 (odM H q)).toInt ≤ 999)) ∧ ∀ G, clR (rgM G) (mdM G) → ∀ q : Nat, q ≤ cnM H → dpt (fM H G q).1 ∧ laT (fM H G q).1 (fM H G q).2
/-- all messages are in, told for their hours -/
def tkW (H A : mzH) : Prop := kpM H A ∧ (∀ i, aZ A 2 i = aZ H 2 i) ∧ ∀ q : Nat, (q : Int) < (aZ H 2 2).toInt → (aZ A 18 q).toInt = (aZ H 2 (69 + 5 * q)).toInt ∧ (aZ A 17 q).toInt = 1
theorem rw_rd {H : mzH} : rwX H (rgM H) (mdM H) := fun _ _ => ⟨rfl, rfl, rfl, rfl, rfl, rfl, rfl, rfl, rfl, rfl⟩
theorem bt_of {H : mzH} {s : pS} {md : Nat → Int} (hI : gI SM H) (h : rwX H s md) : bt1 s md := fun n hn => by
  rw [← (h n hn).2.1]
  exact (aZ_of hI sm_8 hn).1
theorem od_g {G H : mzH} {q : Nat} (h : odI G H (aZ H 2 2).toInt.toNat) (hq : q < cnM H) : (aZ G 19 q).toInt.toNat = odM H q := by
  have := h.2 q hq
  unfold odM
  omega
theorem od_n {G H : mzH} (h : odI G H (aZ H 2 2).toInt.toNat) : (fZ G 0 34).toInt = (cnM H : Int) := h.1
theorem wyM_kp {H A : mzH} (fr : kpM H A) : wyM A = wyM H := by
  funext a b
  unfold wyM
  rw [fr.1 6 (by decide)]
theorem fm_st {H A B G : mzH} {p k : Int32} {p2 : Nat} (fr : kpM H A) (f18 : ∀ i, aZ A 18 i = aZ H 18 i) (f2 : ∀ i, aZ A 2 i = aZ H 2 i) (P : rwX B (loS (fM H G p.toInt.toNat).1 (fM H G p.toInt.toNat).2 (wyM A) (aZ A 2 3).toInt (aZ A 2 4).toInt (aZ A 2 (69 + 5 * k.toInt + 1).toNat).toInt (aZ A 2 (69 + 5 * k.toInt + 2).toNat).toInt.toNat (aZ A 2 (69 + 5 * k.toInt + 3).toNat).toInt (aZ A 2 (69 + 5 * k.toInt + 4).toNat).toInt (aZ A 18 k.toInt.toNat).toInt) (loM (fM H G p.toInt.toNat).1 (fM H G p.toInt.toNat).2 (wyM A) (aZ A 2 3).toInt (aZ A 2 4).toInt (aZ A 2 (69 + 5 * k.toInt + 1).toNat).toInt (aZ A 2 (69 + 5 * k.toInt + 2).toNat).toInt.toNat (aZ A 2 (69 + 5 * k.toInt + 3).toNat).toInt (aZ A 18 k.toInt.toNat).toInt)) (yk : k.toInt.toNat = odM H p.toInt.toNat) (h0 : 0 ≤ k.toInt) (e : p2 = p.toInt.toNat + 1) : rwX B (fM H G p2).1 (fM H G p2).2 := by
  subst e
  rw [wyM_kp fr, f2, f2, f2, f2, f2, f2, f18, show (69 + 5 * k.toInt + 1).toNat = 69 + 5 * k.toInt.toNat + 1 by omega, show (69 + 5 * k.toInt + 2).toNat = 69 + 5 * k.toInt.toNat + 2 by omega, show (69 + 5 * k.toInt + 3).toNat = 69 + 5 * k.toInt.toNat + 3 by omega, show (69 + 5 * k.toInt + 4).toNat = 69 + 5 * k.toInt.toNat + 4 by omega, yk] at P
  exact P
theorem hm_st {H : mzH} {h : Int} {p p2 : Nat} (q2 : ∀ q : Nat, q < p → hqM H q ≤ h) (e : p2 = p + 1) (z : hqM H p ≤ h) : ∀ q : Nat, q < p2 → hqM H q ≤ h := fun q hq => by
  if c : q = p then rw [c]; exact z
  else exact q2 q (by omega)
/-- why a message is refused, at its spot -/
def rvM (H G : mzH) (q : Nat) : Int := rea (fM H G q).1 (fM H G q).2 (wyM H) (aZ H 2 3).toInt (aZ H 2 4).toInt (roM H (odM H q) 1) (roM H (odM H q) 2).toNat (roM H (odM H q) 3) (hoM H (odM H q))
theorem od_ne {H : mzH} {x p : Nat} (h : x < p) (hp : p < cnM H) : odM H x ≠ odM H p := fun e => by
  have k := (ord2_ok (I := inM H) (hr := hoM H) (aZ H 2 2).toInt.toNat).1 x p h hp
  have k : kLt (hoM H) (odM H x) (odM H p) := k
  rw [e] at k
  unfold kLt at k
  omega
theorem rv_st {H A B G : mzH} {p k : Int32} {p2 : Nat} (q : ∀ x : Nat, x < p.toInt.toNat → (aZ A 20 (odM H x)).toInt = rvM H G x) (fr : kpM H A) (f18 : ∀ i, aZ A 18 i = aZ H 18 i) (f2 : ∀ i, aZ A 2 i = aZ H 2 i) (P : (aZ B 20 k.toInt.toNat).toInt = rea (fM H G p.toInt.toNat).1 (fM H G p.toInt.toNat).2 (wyM A) (aZ A 2 3).toInt (aZ A 2 4).toInt (aZ A 2 (69 + 5 * k.toInt + 1).toNat).toInt (aZ A 2 (69 + 5 * k.toInt + 2).toNat).toInt.toNat (aZ A 2 (69 + 5 * k.toInt + 3).toNat).toInt (aZ A 18 k.toInt.toNat).toInt) (O : ∀ i, i ≠ k.toInt.toNat → aZ B 20 i = aZ A 20 i) (yk : k.toInt.toNat = odM H p.toInt.toNat) (h0 : 0 ≤ k.toInt) (hp : p.toInt.toNat < cnM H) (e : p2 = p.toInt.toNat + 1) : ∀ x : Nat, x < p2 → (aZ B 20 (odM H x)).toInt = rvM H G x := fun x hx => by
  if c : x = p.toInt.toNat then
    rw [wyM_kp fr, f2, f2, f2, f2, f2, f18, show (69 + 5 * k.toInt + 1).toNat = 69 + 5 * k.toInt.toNat + 1 by omega, show (69 + 5 * k.toInt + 2).toNat = 69 + 5 * k.toInt.toNat + 2 by omega, show (69 + 5 * k.toInt + 3).toNat = 69 + 5 * k.toInt.toNat + 3 by omega, yk] at P
    rw [c]
    exact P
  else
    rw [O _ (by rw [yk]; exact od_ne (by omega) hp)]
    exact q x (by omega)
set_option maxRecDepth 4000 in
set_option maxHeartbeats 4000000 in
/-- M.takesAll -/
theorem r_183 (H : mzH) (hI : gI SM H) (hJ : JN H) : gCall 183 [.ref 0] H (gRv (fun H' => gI SM H' ∧ JN H' ∧ (∀ a f, fZ H' a f = fZ H a f) ∧ (∀ i, aZ H' 2 i = aZ H 2 i) ∧ kpM H H' ∧ (∀ i, aZ H' 24 i = aZ H 24 i) ∧ (∀ q : Nat, (q : Int) < (aZ H' 2 2).toInt → ¬ (aZ H' 17 q).toInt = 0) ∧ (∀ q : Nat, (q : Int) < (aZ H 2 2).toInt → (aZ H' 18 q).toInt = (aZ H 2 (69 + 5 * q)).toInt ∧ (aZ H' 17 q).toInt = 1))) := by
  have mkF : ∀ a f, fZ H a f = fZ H a f := fun _ _ => rfl
  have mk2 : ∀ i, aZ H 2 i = aZ H 2 i := fun _ => rfl
  have mkfr : kpM H H := kpM_r
  have mk24 : ∀ i, aZ H 24 i = aZ H 24 i := fun _ => rfl
  refine gG_call [(0, .ref 0)] ⟨rfl, trivial⟩ ?_
  show gG 2 zB_183 (mzBlk zB_183 0) [(0, .ref 0)] [] H 0 0 _
  refine g_iconst (by decide) (fun v327 kv327 => ?_)
  refine g_istore_n (l' := [(0, .ref 0), (1, .int v327)]) rfl rfl ?_
  refine g_nop ?_
  have L334 : ∀ (N : Nat) (v328 : Int32) (H329 : mzH), gI SM H329 → JN H329 → (∀ a f, fZ H329 a f = fZ H a f) → (∀ i, aZ H329 2 i = aZ H 2 i) → kpM H H329 → (∀ i, aZ H329 24 i = aZ H 24 i) → (0 ≤ v328.toInt ∧ v328.toInt ≤ 60) → (∀ q : Nat, q < v328.toInt.toNat → ¬ (aZ H329 17 q).toInt = 0) → (∀ q : Nat, q < v328.toInt.toNat → (aZ H329 18 q).toInt = (aZ H 2 (69 + 5 * q)).toInt) → (∀ q : Nat, q < v328.toInt.toNat → (aZ H329 17 q).toInt = 1) → (60 - v328.toInt).toNat < N → gG 2 zB_183 (mzBlk zB_183 1) [(0, .ref 0), (1, .int v328)] [] H329 0 0 (gRv (fun H' => gI SM H' ∧ JN H' ∧ (∀ a f, fZ H' a f = fZ H a f) ∧ (∀ i, aZ H' 2 i = aZ H 2 i) ∧ kpM H H' ∧ (∀ i, aZ H' 24 i = aZ H 24 i) ∧ (∀ q : Nat, (q : Int) < (aZ H' 2 2).toInt → ¬ (aZ H' 17 q).toInt = 0) ∧ (∀ q : Nat, (q : Int) < (aZ H 2 2).toInt → (aZ H' 18 q).toInt = (aZ H 2 (69 + 5 * q)).toInt ∧ (aZ H' 17 q).toInt = 1))) := by
    intro N
    induction N with
    | zero => intro v328 H329 hIH329 hJH329 m330 m331 m332 m333 bv328 q1 q5 q6 hmL334; exact absurd hmL334 (Nat.not_lt_zero _)
    | succ N ihL334 =>
      intro v328 H329 hIH329 hJH329 m330 m331 m332 m333 bv328 q1 q5 q6 hmL334
      refine g_iload_n rfl ?_
      refine g_aload_n rfl ?_
      refine g_invvi hIH329 sm_0 rfl rfl rfl rfl (s_181 H329 hIH329 hJH329) (fun v337 H335 r336 => ?_)
      obtain ⟨rfl, bv337, p338⟩ := r336
      refine g_if2_ge (fun c339 => ?_) (fun c339 => ?_)
      · exact g_ret ⟨rfl, hIH329, hJH329, m330, m331, m332, m333, (fun q hq => q1 q (by omega)), (fun q hq => by have hz := congrArg Int32.toInt (m331 2); exact ⟨q5 q (by omega), q6 q (by omega)⟩)⟩
      · refine g_aload_n rfl ?_
        refine g_gfr hIH329 sm_0 rfl ?_
        refine g_iload_n rfl ?_
        refine g_iconst (by decide) (fun v340 kv340 => ?_)
        refine g_zastore hIH329 sm_17 (by omega) (by omega) (fun H341 eH341 hIH341 => ?_)
        have hJH341 : JN H341 := JN_sA (by decide) eH341 hJH329
        have m342 : ∀ a f, fZ H341 a f = fZ H a f := fun a f => (by rw [eH341, fZ_sA] : fZ H341 a f = fZ H329 a f).trans (m330 a f)
        have m343 : ∀ i, aZ H341 2 i = aZ H 2 i := fun i => (by rw [eH341, aZ_sA_nc (by omega)] : aZ H341 2 i = aZ H329 2 i).trans (m331 i)
        have m344 : kpM H H341 := kpM_A m332 eH341 (by omega)
        have m345 : ∀ i, aZ H341 24 i = aZ H 24 i := fun i => (by rw [eH341, aZ_sA_nc (by omega)] : aZ H341 24 i = aZ H329 24 i).trans (m333 i)
        refine g_aload_n rfl ?_
        refine g_gfr hIH341 sm_0 rfl ?_
        refine g_iload_n rfl ?_
        refine g_aload_n rfl ?_
        refine g_iload_n rfl ?_
        refine g_iconst (by decide) (fun v346 kv346 => ?_)
        refine g_invvi hIH341 sm_0 rfl rfl rfl rfl (s_182 v328 (by omega) v346 (by omega) H341 hIH341 hJH341) (fun v349 H347 r348 => ?_)
        obtain ⟨rfl, p350⟩ := r348
        have tv349 : v349.toInt = (aZ H341 2 (69 + 5 * v328.toInt + v346.toInt).toNat).toInt := by rw [p350]
        refine g_iastore hIH341 sm_18 (by omega) (gz_any _) (fun H351 eH351 hIH351 => ?_)
        have hJH351 : JN H351 := JN_sA (by decide) eH351 hJH341
        have m352 : ∀ a f, fZ H351 a f = fZ H a f := fun a f => (by rw [eH351, fZ_sA] : fZ H351 a f = fZ H341 a f).trans (m342 a f)
        have m353 : ∀ i, aZ H351 2 i = aZ H 2 i := fun i => (by rw [eH351, aZ_sA_nc (by omega)] : aZ H351 2 i = aZ H341 2 i).trans (m343 i)
        have m354 : kpM H H351 := kpM_A m344 eH351 (by omega)
        have m355 : ∀ i, aZ H351 24 i = aZ H 24 i := fun i => (by rw [eH351, aZ_sA_nc (by omega)] : aZ H351 24 i = aZ H341 24 i).trans (m345 i)
        refine g_iinc (l' := (fun v356 => [(0, .ref 0), (1, .int v356)])) rfl rfl (by decide) (by omega) (fun _ => rfl) (fun v356 ev356 => ?_)
        refine g_goto ?_
        exact ihL334 v356 H351 hIH351 hJH351 m352 m353 m354 m355 (by omega) (fun q hq => by rw [eH351, aZ_sA_nc (by decide), eH341]; if e : v328.toInt.toNat = q then (subst e; rw [aZ_sA_eq hIH329 sm_17 (by omega)]; omega) else (rw [aZ_sA_ne e]; exact q1 q (by omega))) (fun q hq => by rw [eH351]; if e : v328.toInt.toNat = q then (subst e; rw [aZ_sA_eq hIH341 sm_18 (by omega), tv349, kv346, m343, show (69 + 5 * v328.toInt + 0).toNat = 69 + 5 * v328.toInt.toNat by omega]) else (rw [aZ_sA_ne e, eH341, aZ_sA_nc (by decide)]; exact q5 q (by omega))) (fun q hq => by rw [eH351, aZ_sA_nc (by decide), eH341]; if e : v328.toInt.toNat = q then (subst e; rw [aZ_sA_eq hIH329 sm_17 (by omega), kv340]) else (rw [aZ_sA_ne e]; exact q6 q (by omega))) (by omega)
  exact L334 _ v327 H hI hJ mkF mk2 mkfr mk24 (by omega) (fun q hq => absurd hq (by omega)) (fun q hq => absurd hq (by omega)) (fun q hq => absurd hq (by omega)) (Nat.lt_succ_self _)
set_option maxRecDepth 4000 in
set_option maxHeartbeats 4000000 in
/-- M.sorts -/
theorem r_184 (H : mzH) (hI : gI SM H) (hJ : JM H) : gCall 184 [.ref 0] H (gRv (fun H' => gI SM H' ∧ JM H' ∧ fZ H' 0 2 = fZ H 0 2 ∧ fZ H' 0 0 = fZ H 0 0 ∧ (∀ i, aZ H' 2 i = aZ H 2 i) ∧ (∀ i, aZ H' 17 i = aZ H 17 i) ∧ kpM H H' ∧ (∀ i, aZ H' 18 i = aZ H 18 i) ∧ (∀ i, aZ H' 7 i = aZ H 7 i) ∧ (∀ i, aZ H' 9 i = aZ H 9 i) ∧ (∀ i, aZ H' 12 i = aZ H 12 i) ∧ (∀ i, aZ H' 13 i = aZ H 13 i) ∧ (∀ i, aZ H' 14 i = aZ H 14 i) ∧ (∀ i, aZ H' 15 i = aZ H 15 i) ∧ (∀ i, aZ H' 16 i = aZ H 16 i) ∧ (∀ i, aZ H' 24 i = aZ H 24 i) ∧ pmA H' (aZ H' 2 2).toInt 60 ∧ odI H' H (aZ H 2 2).toInt.toNat)) := by
  obtain ⟨k0_2, ek0_2⟩ : ∃ z, z = fZ H 0 2 := ⟨_, rfl⟩
  have ik0_2 : k0_2.toInt = (fZ H 0 2).toInt := by rw [← ek0_2]
  have bk0_2 : 0 ≤ k0_2.toInt ∧ k0_2.toInt ≤ 900 := by rw [ek0_2]; exact fZ_of hI sm_0 rfl
  obtain ⟨k0_0, ek0_0⟩ : ∃ z, z = fZ H 0 0 := ⟨_, rfl⟩
  have ik0_0 : k0_0.toInt = (fZ H 0 0).toInt := by rw [← ek0_0]
  have mk2 : ∀ i, aZ H 2 i = aZ H 2 i := fun _ => rfl
  have mk17 : ∀ i, aZ H 17 i = aZ H 17 i := fun _ => rfl
  have mkfr : kpM H H := kpM_r
  have mk18 : ∀ i, aZ H 18 i = aZ H 18 i := fun _ => rfl
  have mk7 : ∀ i, aZ H 7 i = aZ H 7 i := fun _ => rfl
  have mk9 : ∀ i, aZ H 9 i = aZ H 9 i := fun _ => rfl
  have mk12 : ∀ i, aZ H 12 i = aZ H 12 i := fun _ => rfl
  have mk13 : ∀ i, aZ H 13 i = aZ H 13 i := fun _ => rfl
  have mk14 : ∀ i, aZ H 14 i = aZ H 14 i := fun _ => rfl
  have mk15 : ∀ i, aZ H 15 i = aZ H 15 i := fun _ => rfl
  have mk16 : ∀ i, aZ H 16 i = aZ H 16 i := fun _ => rfl
  have mk24 : ∀ i, aZ H 24 i = aZ H 24 i := fun _ => rfl
  refine gG_call [(0, .ref 0)] ⟨rfl, trivial⟩ ?_
  show gG 3 zB_184 (mzBlk zB_184 0) [(0, .ref 0)] [] H 0 0 _
  refine g_aload_n rfl ?_
  refine g_iconst (by decide) (fun v1396 kv1396 => ?_)
  refine g_pfi hI sm_0 rfl (by omega) (fun H1397 eH1397 hIH1397 => ?_)
  have hJH1397 : JM H1397 := JM_sF eH1397 hJ
  have e1398 : k0_2 = fZ H1397 0 2 := by rw [eH1397, fZ_sF_ne (by decide)]; exact ek0_2
  have e1399 : k0_0 = fZ H1397 0 0 := by rw [eH1397, fZ_sF_ne (by decide)]; exact ek0_0
  have e1400 : v1396 = fZ H1397 0 34 := by rw [eH1397, fZ_sF_eq hI sm_0 rfl]
  have m1401 : ∀ i, aZ H1397 2 i = aZ H 2 i := fun i => (by rw [eH1397, aZ_sF] : aZ H1397 2 i = aZ H 2 i).trans (mk2 i)
  have m1402 : ∀ i, aZ H1397 17 i = aZ H 17 i := fun i => (by rw [eH1397, aZ_sF] : aZ H1397 17 i = aZ H 17 i).trans (mk17 i)
  have m1403 : kpM H H1397 := kpM_F mkfr eH1397 (by omega)
  have m1404 : ∀ i, aZ H1397 18 i = aZ H 18 i := fun i => (by rw [eH1397, aZ_sF] : aZ H1397 18 i = aZ H 18 i).trans (mk18 i)
  have m1405 : ∀ i, aZ H1397 7 i = aZ H 7 i := fun i => (by rw [eH1397, aZ_sF] : aZ H1397 7 i = aZ H 7 i).trans (mk7 i)
  have m1406 : ∀ i, aZ H1397 9 i = aZ H 9 i := fun i => (by rw [eH1397, aZ_sF] : aZ H1397 9 i = aZ H 9 i).trans (mk9 i)
  have m1407 : ∀ i, aZ H1397 12 i = aZ H 12 i := fun i => (by rw [eH1397, aZ_sF] : aZ H1397 12 i = aZ H 12 i).trans (mk12 i)
  have m1408 : ∀ i, aZ H1397 13 i = aZ H 13 i := fun i => (by rw [eH1397, aZ_sF] : aZ H1397 13 i = aZ H 13 i).trans (mk13 i)
  have m1409 : ∀ i, aZ H1397 14 i = aZ H 14 i := fun i => (by rw [eH1397, aZ_sF] : aZ H1397 14 i = aZ H 14 i).trans (mk14 i)
  have m1410 : ∀ i, aZ H1397 15 i = aZ H 15 i := fun i => (by rw [eH1397, aZ_sF] : aZ H1397 15 i = aZ H 15 i).trans (mk15 i)
  have m1411 : ∀ i, aZ H1397 16 i = aZ H 16 i := fun i => (by rw [eH1397, aZ_sF] : aZ H1397 16 i = aZ H 16 i).trans (mk16 i)
  have m1412 : ∀ i, aZ H1397 24 i = aZ H 24 i := fun i => (by rw [eH1397, aZ_sF] : aZ H1397 24 i = aZ H 24 i).trans (mk24 i)
  have ie1400 : v1396.toInt = (fZ H1397 0 34).toInt := by rw [← e1400]
  refine g_iconst (by decide) (fun v1413 kv1413 => ?_)
  refine g_istore_n (l' := [(0, .ref 0), (1, .int v1413)]) rfl rfl ?_
  refine g_nop ?_
  have L1430 : ∀ (N : Nat) (v1414 : Int32) (H1415 : mzH), gI SM H1415 → JM H1415 → k0_2 = fZ H1415 0 2 → k0_0 = fZ H1415 0 0 → (∀ i, aZ H1415 2 i = aZ H 2 i) → (∀ i, aZ H1415 17 i = aZ H 17 i) → kpM H H1415 → (∀ i, aZ H1415 18 i = aZ H 18 i) → (∀ i, aZ H1415 7 i = aZ H 7 i) → (∀ i, aZ H1415 9 i = aZ H 9 i) → (∀ i, aZ H1415 12 i = aZ H 12 i) → (∀ i, aZ H1415 13 i = aZ H 13 i) → (∀ i, aZ H1415 14 i = aZ H 14 i) → (∀ i, aZ H1415 15 i = aZ H 15 i) → (∀ i, aZ H1415 16 i = aZ H 16 i) → (∀ i, aZ H1415 24 i = aZ H 24 i) → (0 ≤ v1414.toInt ∧ v1414.toInt ≤ 60) → (fZ H1415 0 34).toInt ≤ v1414.toInt → pmA H1415 v1414.toInt (fZ H1415 0 34).toInt → odI H1415 H v1414.toInt.toNat → (v1414.toInt ≤ 0 ∨ v1414.toInt ≤ (aZ H 2 2).toInt) → (60 - v1414.toInt).toNat < N → gG 3 zB_184 (mzBlk zB_184 1) [(0, .ref 0), (1, .int v1414)] [] H1415 0 0 (gRv (fun H' => gI SM H' ∧ JM H' ∧ fZ H' 0 2 = fZ H 0 2 ∧ fZ H' 0 0 = fZ H 0 0 ∧ (∀ i, aZ H' 2 i = aZ H 2 i) ∧ (∀ i, aZ H' 17 i = aZ H 17 i) ∧ kpM H H' ∧ (∀ i, aZ H' 18 i = aZ H 18 i) ∧ (∀ i, aZ H' 7 i = aZ H 7 i) ∧ (∀ i, aZ H' 9 i = aZ H 9 i) ∧ (∀ i, aZ H' 12 i = aZ H 12 i) ∧ (∀ i, aZ H' 13 i = aZ H 13 i) ∧ (∀ i, aZ H' 14 i = aZ H 14 i) ∧ (∀ i, aZ H' 15 i = aZ H 15 i) ∧ (∀ i, aZ H' 16 i = aZ H 16 i) ∧ (∀ i, aZ H' 24 i = aZ H 24 i) ∧ pmA H' (aZ H' 2 2).toInt 60 ∧ odI H' H (aZ H 2 2).toInt.toNat)) := by
    intro N
    induction N with
    | zero => intro v1414 H1415 hIH1415 hJH1415 e1416 e1417 m1418 m1419 m1420 m1421 m1422 m1423 m1424 m1425 m1426 m1427 m1428 m1429 bv1414 q1 q2 q5 q9 hmL1430; exact absurd hmL1430 (Nat.not_lt_zero _)
    | succ N ihL1430 =>
      intro v1414 H1415 hIH1415 hJH1415 e1416 e1417 m1418 m1419 m1420 m1421 m1422 m1423 m1424 m1425 m1426 m1427 m1428 m1429 bv1414 q1 q2 q5 q9 hmL1430
      obtain ⟨k1431, ek1431⟩ : ∃ z, z = fZ H1415 0 34 := ⟨_, rfl⟩
      have ik1431 : k1431.toInt = (fZ H1415 0 34).toInt := by rw [← ek1431]
      have bk1431 : 0 ≤ k1431.toInt ∧ k1431.toInt ≤ 60 := by rw [ek1431]; exact fZ_of hIH1415 sm_0 rfl
      have hq2 := congrArg Int32.toInt (m1418 2)
      refine g_iload_n rfl ?_
      refine g_aload_n rfl ?_
      refine g_invvi hIH1415 sm_0 rfl rfl rfl rfl (s_181 H1415 hIH1415 (JM_n hJH1415)) (fun v1434 H1432 r1433 => ?_)
      obtain ⟨rfl, bv1434, p1435⟩ := r1433
      refine g_if2_ge (fun c1436 => ?_) (fun c1436 => ?_)
      · exact g_ret ⟨rfl, hIH1415, hJH1415, (e1416.symm.trans ek0_2), (e1417.symm.trans ek0_0), m1418, m1419, m1420, m1421, m1422, m1423, m1424, m1425, m1426, m1427, m1428, m1429, (pmA_le q2 (by omega) (by omega)), (od_e q5 (by have hz := congrArg Int32.toInt (m1418 2); omega))⟩
      · refine g_aload_n rfl ?_
        refine g_gfr hIH1415 sm_0 rfl ?_
        refine g_iload_n rfl ?_
        refine g_baload hIH1415 sm_17 rfl (by omega) (fun v1437 ev1437 lv1437 uv1437 => ?_)
        have yv1437 : v1437.toInt = (aZ H 17 v1414.toInt.toNat).toInt := by rw [ev1437, m1419]
        refine g_if_ne (fun c1438 => ?_) (fun c1438 => ?_)
        · refine g_aload_n rfl ?_
          refine g_gfk hIH1415 sm_0 rfl ek1431 ?_
          refine g_istore_n (l' := [(0, .ref 0), (1, .int v1414), (2, .int k1431)]) rfl rfl ?_
          refine g_nop ?_
          have L1456 : ∀ (N : Nat) (v1439 : Int32) (H1440 : mzH), gI SM H1440 → JM H1440 → k0_2 = fZ H1440 0 2 → k0_0 = fZ H1440 0 0 → k1431 = fZ H1440 0 34 → (∀ i, aZ H1440 2 i = aZ H 2 i) → (∀ i, aZ H1440 17 i = aZ H 17 i) → kpM H H1440 → (∀ i, aZ H1440 18 i = aZ H 18 i) → (∀ i, aZ H1440 7 i = aZ H 7 i) → (∀ i, aZ H1440 9 i = aZ H 9 i) → (∀ i, aZ H1440 12 i = aZ H 12 i) → (∀ i, aZ H1440 13 i = aZ H 13 i) → (∀ i, aZ H1440 14 i = aZ H 14 i) → (∀ i, aZ H1440 15 i = aZ H 15 i) → (∀ i, aZ H1440 16 i = aZ H 16 i) → (∀ i, aZ H1440 24 i = aZ H 24 i) → (0 ≤ v1439.toInt ∧ v1439.toInt ≤ 60) → pmB H1440 v1414.toInt k1431.toInt v1439.toInt → v1439.toInt ≤ k1431.toInt → inO (hoM H) (ord2 (inM H) (hoM H) v1414.toInt.toNat).2 v1414.toInt.toNat (ord2 (inM H) (hoM H) v1414.toInt.toNat).1 v1439.toInt.toNat (fun q => (aZ H1440 19 q).toInt) → (v1439.toInt - (0)).toNat < N → gG 3 zB_184 (mzBlk zB_184 3) [(0, .ref 0), (1, .int v1414), (2, .int v1439)] [] H1440 0 0 (gRv (fun H' => gI SM H' ∧ JM H' ∧ fZ H' 0 2 = fZ H 0 2 ∧ fZ H' 0 0 = fZ H 0 0 ∧ (∀ i, aZ H' 2 i = aZ H 2 i) ∧ (∀ i, aZ H' 17 i = aZ H 17 i) ∧ kpM H H' ∧ (∀ i, aZ H' 18 i = aZ H 18 i) ∧ (∀ i, aZ H' 7 i = aZ H 7 i) ∧ (∀ i, aZ H' 9 i = aZ H 9 i) ∧ (∀ i, aZ H' 12 i = aZ H 12 i) ∧ (∀ i, aZ H' 13 i = aZ H 13 i) ∧ (∀ i, aZ H' 14 i = aZ H 14 i) ∧ (∀ i, aZ H' 15 i = aZ H 15 i) ∧ (∀ i, aZ H' 16 i = aZ H 16 i) ∧ (∀ i, aZ H' 24 i = aZ H 24 i) ∧ pmA H' (aZ H' 2 2).toInt 60 ∧ odI H' H (aZ H 2 2).toInt.toNat)) := by
            intro N
            induction N with
            | zero => intro v1439 H1440 hIH1440 hJH1440 e1441 e1442 e1443 m1444 m1445 m1446 m1447 m1448 m1449 m1450 m1451 m1452 m1453 m1454 m1455 bv1439 q3 q4 q7 hmL1456; exact absurd hmL1456 (Nat.not_lt_zero _)
            | succ N ihL1456 =>
              intro v1439 H1440 hIH1440 hJH1440 e1441 e1442 e1443 m1444 m1445 m1446 m1447 m1448 m1449 m1450 m1451 m1452 m1453 m1454 m1455 bv1439 q3 q4 q7 hmL1456
              refine g_iload_n rfl ?_
              refine g_if_le (fun c1457 => ?_) (fun c1457 => ?_)
              · refine g_aload_n rfl ?_
                refine g_gfr hIH1440 sm_0 rfl ?_
                refine g_iload_n rfl ?_
                refine g_iload_n rfl ?_
                refine g_iastore hIH1440 sm_19 (by omega) (by omega) (fun H1458 eH1458 hIH1458 => ?_)
                have hJH1458 : JM H1458 := JM_sA (by decide) eH1458 hJH1440
                have e1459 : k0_2 = fZ H1458 0 2 := by rw [eH1458, fZ_sA]; exact e1441
                have e1460 : k0_0 = fZ H1458 0 0 := by rw [eH1458, fZ_sA]; exact e1442
                have e1461 : k1431 = fZ H1458 0 34 := by rw [eH1458, fZ_sA]; exact e1443
                have m1462 : ∀ i, aZ H1458 2 i = aZ H 2 i := fun i => (by rw [eH1458, aZ_sA_nc (by omega)] : aZ H1458 2 i = aZ H1440 2 i).trans (m1444 i)
                have m1463 : ∀ i, aZ H1458 17 i = aZ H 17 i := fun i => (by rw [eH1458, aZ_sA_nc (by omega)] : aZ H1458 17 i = aZ H1440 17 i).trans (m1445 i)
                have m1464 : kpM H H1458 := kpM_A m1446 eH1458 (by omega)
                have m1465 : ∀ i, aZ H1458 18 i = aZ H 18 i := fun i => (by rw [eH1458, aZ_sA_nc (by omega)] : aZ H1458 18 i = aZ H1440 18 i).trans (m1447 i)
                have m1466 : ∀ i, aZ H1458 7 i = aZ H 7 i := fun i => (by rw [eH1458, aZ_sA_nc (by omega)] : aZ H1458 7 i = aZ H1440 7 i).trans (m1448 i)
                have m1467 : ∀ i, aZ H1458 9 i = aZ H 9 i := fun i => (by rw [eH1458, aZ_sA_nc (by omega)] : aZ H1458 9 i = aZ H1440 9 i).trans (m1449 i)
                have m1468 : ∀ i, aZ H1458 12 i = aZ H 12 i := fun i => (by rw [eH1458, aZ_sA_nc (by omega)] : aZ H1458 12 i = aZ H1440 12 i).trans (m1450 i)
                have m1469 : ∀ i, aZ H1458 13 i = aZ H 13 i := fun i => (by rw [eH1458, aZ_sA_nc (by omega)] : aZ H1458 13 i = aZ H1440 13 i).trans (m1451 i)
                have m1470 : ∀ i, aZ H1458 14 i = aZ H 14 i := fun i => (by rw [eH1458, aZ_sA_nc (by omega)] : aZ H1458 14 i = aZ H1440 14 i).trans (m1452 i)
                have m1471 : ∀ i, aZ H1458 15 i = aZ H 15 i := fun i => (by rw [eH1458, aZ_sA_nc (by omega)] : aZ H1458 15 i = aZ H1440 15 i).trans (m1453 i)
                have m1472 : ∀ i, aZ H1458 16 i = aZ H 16 i := fun i => (by rw [eH1458, aZ_sA_nc (by omega)] : aZ H1458 16 i = aZ H1440 16 i).trans (m1454 i)
                have m1473 : ∀ i, aZ H1458 24 i = aZ H 24 i := fun i => (by rw [eH1458, aZ_sA_nc (by omega)] : aZ H1458 24 i = aZ H1440 24 i).trans (m1455 i)
                have ie1461 : k1431.toInt = (fZ H1458 0 34).toInt := by rw [← e1461]
                refine g_aload_n rfl ?_
                refine g_dup rfl ?_
                refine g_gfk hIH1458 sm_0 rfl e1461 ?_
                refine g_iconst (by decide) (fun v1474 kv1474 => ?_)
                refine g_iadd (by omega) (fun v1475 ev1475 => ?_)
                refine g_pfi hIH1458 sm_0 rfl (by omega) (fun H1476 eH1476 hIH1476 => ?_)
                have hJH1476 : JM H1476 := JM_sF eH1476 hJH1458
                have e1477 : k0_2 = fZ H1476 0 2 := by rw [eH1476, fZ_sF_ne (by decide)]; exact e1459
                have e1478 : k0_0 = fZ H1476 0 0 := by rw [eH1476, fZ_sF_ne (by decide)]; exact e1460
                have e1479 : v1475 = fZ H1476 0 34 := by rw [eH1476, fZ_sF_eq hIH1458 sm_0 rfl]
                have m1480 : ∀ i, aZ H1476 2 i = aZ H 2 i := fun i => (by rw [eH1476, aZ_sF] : aZ H1476 2 i = aZ H1458 2 i).trans (m1462 i)
                have m1481 : ∀ i, aZ H1476 17 i = aZ H 17 i := fun i => (by rw [eH1476, aZ_sF] : aZ H1476 17 i = aZ H1458 17 i).trans (m1463 i)
                have m1482 : kpM H H1476 := kpM_F m1464 eH1476 (by omega)
                have m1483 : ∀ i, aZ H1476 18 i = aZ H 18 i := fun i => (by rw [eH1476, aZ_sF] : aZ H1476 18 i = aZ H1458 18 i).trans (m1465 i)
                have m1484 : ∀ i, aZ H1476 7 i = aZ H 7 i := fun i => (by rw [eH1476, aZ_sF] : aZ H1476 7 i = aZ H1458 7 i).trans (m1466 i)
                have m1485 : ∀ i, aZ H1476 9 i = aZ H 9 i := fun i => (by rw [eH1476, aZ_sF] : aZ H1476 9 i = aZ H1458 9 i).trans (m1467 i)
                have m1486 : ∀ i, aZ H1476 12 i = aZ H 12 i := fun i => (by rw [eH1476, aZ_sF] : aZ H1476 12 i = aZ H1458 12 i).trans (m1468 i)
                have m1487 : ∀ i, aZ H1476 13 i = aZ H 13 i := fun i => (by rw [eH1476, aZ_sF] : aZ H1476 13 i = aZ H1458 13 i).trans (m1469 i)
                have m1488 : ∀ i, aZ H1476 14 i = aZ H 14 i := fun i => (by rw [eH1476, aZ_sF] : aZ H1476 14 i = aZ H1458 14 i).trans (m1470 i)
                have m1489 : ∀ i, aZ H1476 15 i = aZ H 15 i := fun i => (by rw [eH1476, aZ_sF] : aZ H1476 15 i = aZ H1458 15 i).trans (m1471 i)
                have m1490 : ∀ i, aZ H1476 16 i = aZ H 16 i := fun i => (by rw [eH1476, aZ_sF] : aZ H1476 16 i = aZ H1458 16 i).trans (m1472 i)
                have m1491 : ∀ i, aZ H1476 24 i = aZ H 24 i := fun i => (by rw [eH1476, aZ_sF] : aZ H1476 24 i = aZ H1458 24 i).trans (m1473 i)
                have ie1479 : v1475.toInt = (fZ H1476 0 34).toInt := by rw [← e1479]
                refine g_nop ?_
                refine g_iinc (l' := (fun v1492 => [(0, .ref 0), (1, .int v1492), (2, .int v1439)])) rfl rfl (by decide) (by omega) (fun _ => rfl) (fun v1492 ev1492 => ?_)
                refine g_goto ?_
                refine gG_pick [0, 1] (l' := [(0, .ref 0), (1, .int v1492)]) rfl ?_
                exact ihL1430 v1492 H1476 hIH1476 hJH1476 e1477 e1478 m1480 m1481 m1482 m1483 m1484 m1485 m1486 m1487 m1488 m1489 m1490 m1491 (by omega) (by omega) (pmA_st hIH1440 (by omega) rfl eH1458 (fun a i => by rw [eH1476, aZ_sF]) q3 (by omega) (by omega)) (od_st (in_en hIH1440 sm_19 q7 eH1458 (by omega) (by omega) (Or.inl (by omega))) (by omega) (by show ¬ (aZ H 17 _).toInt = 0; omega) eH1476 (by have := q5.1; omega)) (by have hz := congrArg Int32.toInt (m1480 2); omega) (by omega)
              · refine g_aload_n rfl ?_
                refine g_gfr hIH1440 sm_0 rfl ?_
                refine g_aload_n rfl ?_
                refine g_gfr hIH1440 sm_0 rfl ?_
                refine g_iload_n rfl ?_
                refine g_iconst (by decide) (fun v1493 kv1493 => ?_)
                refine g_isub (by omega) (fun v1494 ev1494 => ?_)
                refine g_iaload hIH1440 sm_19 rfl (by omega) (fun v1495 ev1495 lv1495 uv1495 => ?_)
                have yv1495 : v1495.toInt = (aZ H1440 19 v1494.toInt.toNat).toInt := by rw [ev1495]
                refine g_iaload hIH1440 sm_18 rfl (by omega) (fun v1496 ev1496 lv1496 uv1496 => ?_)
                have yv1496 : v1496.toInt = (aZ H 18 v1495.toInt.toNat).toInt := by rw [ev1496, m1447]
                refine g_aload_n rfl ?_
                refine g_gfr hIH1440 sm_0 rfl ?_
                refine g_iload_n rfl ?_
                refine g_iaload hIH1440 sm_18 rfl (by omega) (fun v1497 ev1497 lv1497 uv1497 => ?_)
                have yv1497 : v1497.toInt = (aZ H 18 v1414.toInt.toNat).toInt := by rw [ev1497, m1447]
                refine g_if2_le (fun c1498 => ?_) (fun c1498 => ?_)
                · refine g_aload_n rfl ?_
                  refine g_gfr hIH1440 sm_0 rfl ?_
                  refine g_iload_n rfl ?_
                  refine g_iload_n rfl ?_
                  refine g_iastore hIH1440 sm_19 (by omega) (by omega) (fun H1499 eH1499 hIH1499 => ?_)
                  have hJH1499 : JM H1499 := JM_sA (by decide) eH1499 hJH1440
                  have e1500 : k0_2 = fZ H1499 0 2 := by rw [eH1499, fZ_sA]; exact e1441
                  have e1501 : k0_0 = fZ H1499 0 0 := by rw [eH1499, fZ_sA]; exact e1442
                  have e1502 : k1431 = fZ H1499 0 34 := by rw [eH1499, fZ_sA]; exact e1443
                  have m1503 : ∀ i, aZ H1499 2 i = aZ H 2 i := fun i => (by rw [eH1499, aZ_sA_nc (by omega)] : aZ H1499 2 i = aZ H1440 2 i).trans (m1444 i)
                  have m1504 : ∀ i, aZ H1499 17 i = aZ H 17 i := fun i => (by rw [eH1499, aZ_sA_nc (by omega)] : aZ H1499 17 i = aZ H1440 17 i).trans (m1445 i)
                  have m1505 : kpM H H1499 := kpM_A m1446 eH1499 (by omega)
                  have m1506 : ∀ i, aZ H1499 18 i = aZ H 18 i := fun i => (by rw [eH1499, aZ_sA_nc (by omega)] : aZ H1499 18 i = aZ H1440 18 i).trans (m1447 i)
                  have m1507 : ∀ i, aZ H1499 7 i = aZ H 7 i := fun i => (by rw [eH1499, aZ_sA_nc (by omega)] : aZ H1499 7 i = aZ H1440 7 i).trans (m1448 i)
                  have m1508 : ∀ i, aZ H1499 9 i = aZ H 9 i := fun i => (by rw [eH1499, aZ_sA_nc (by omega)] : aZ H1499 9 i = aZ H1440 9 i).trans (m1449 i)
                  have m1509 : ∀ i, aZ H1499 12 i = aZ H 12 i := fun i => (by rw [eH1499, aZ_sA_nc (by omega)] : aZ H1499 12 i = aZ H1440 12 i).trans (m1450 i)
                  have m1510 : ∀ i, aZ H1499 13 i = aZ H 13 i := fun i => (by rw [eH1499, aZ_sA_nc (by omega)] : aZ H1499 13 i = aZ H1440 13 i).trans (m1451 i)
                  have m1511 : ∀ i, aZ H1499 14 i = aZ H 14 i := fun i => (by rw [eH1499, aZ_sA_nc (by omega)] : aZ H1499 14 i = aZ H1440 14 i).trans (m1452 i)
                  have m1512 : ∀ i, aZ H1499 15 i = aZ H 15 i := fun i => (by rw [eH1499, aZ_sA_nc (by omega)] : aZ H1499 15 i = aZ H1440 15 i).trans (m1453 i)
                  have m1513 : ∀ i, aZ H1499 16 i = aZ H 16 i := fun i => (by rw [eH1499, aZ_sA_nc (by omega)] : aZ H1499 16 i = aZ H1440 16 i).trans (m1454 i)
                  have m1514 : ∀ i, aZ H1499 24 i = aZ H 24 i := fun i => (by rw [eH1499, aZ_sA_nc (by omega)] : aZ H1499 24 i = aZ H1440 24 i).trans (m1455 i)
                  have ie1502 : k1431.toInt = (fZ H1499 0 34).toInt := by rw [← e1502]
                  refine g_aload_n rfl ?_
                  refine g_dup rfl ?_
                  refine g_gfk hIH1499 sm_0 rfl e1502 ?_
                  refine g_iconst (by decide) (fun v1515 kv1515 => ?_)
                  refine g_iadd (by omega) (fun v1516 ev1516 => ?_)
                  refine g_pfi hIH1499 sm_0 rfl (by omega) (fun H1517 eH1517 hIH1517 => ?_)
                  have hJH1517 : JM H1517 := JM_sF eH1517 hJH1499
                  have e1518 : k0_2 = fZ H1517 0 2 := by rw [eH1517, fZ_sF_ne (by decide)]; exact e1500
                  have e1519 : k0_0 = fZ H1517 0 0 := by rw [eH1517, fZ_sF_ne (by decide)]; exact e1501
                  have e1520 : v1516 = fZ H1517 0 34 := by rw [eH1517, fZ_sF_eq hIH1499 sm_0 rfl]
                  have m1521 : ∀ i, aZ H1517 2 i = aZ H 2 i := fun i => (by rw [eH1517, aZ_sF] : aZ H1517 2 i = aZ H1499 2 i).trans (m1503 i)
                  have m1522 : ∀ i, aZ H1517 17 i = aZ H 17 i := fun i => (by rw [eH1517, aZ_sF] : aZ H1517 17 i = aZ H1499 17 i).trans (m1504 i)
                  have m1523 : kpM H H1517 := kpM_F m1505 eH1517 (by omega)
                  have m1524 : ∀ i, aZ H1517 18 i = aZ H 18 i := fun i => (by rw [eH1517, aZ_sF] : aZ H1517 18 i = aZ H1499 18 i).trans (m1506 i)
                  have m1525 : ∀ i, aZ H1517 7 i = aZ H 7 i := fun i => (by rw [eH1517, aZ_sF] : aZ H1517 7 i = aZ H1499 7 i).trans (m1507 i)
                  have m1526 : ∀ i, aZ H1517 9 i = aZ H 9 i := fun i => (by rw [eH1517, aZ_sF] : aZ H1517 9 i = aZ H1499 9 i).trans (m1508 i)
                  have m1527 : ∀ i, aZ H1517 12 i = aZ H 12 i := fun i => (by rw [eH1517, aZ_sF] : aZ H1517 12 i = aZ H1499 12 i).trans (m1509 i)
                  have m1528 : ∀ i, aZ H1517 13 i = aZ H 13 i := fun i => (by rw [eH1517, aZ_sF] : aZ H1517 13 i = aZ H1499 13 i).trans (m1510 i)
                  have m1529 : ∀ i, aZ H1517 14 i = aZ H 14 i := fun i => (by rw [eH1517, aZ_sF] : aZ H1517 14 i = aZ H1499 14 i).trans (m1511 i)
                  have m1530 : ∀ i, aZ H1517 15 i = aZ H 15 i := fun i => (by rw [eH1517, aZ_sF] : aZ H1517 15 i = aZ H1499 15 i).trans (m1512 i)
                  have m1531 : ∀ i, aZ H1517 16 i = aZ H 16 i := fun i => (by rw [eH1517, aZ_sF] : aZ H1517 16 i = aZ H1499 16 i).trans (m1513 i)
                  have m1532 : ∀ i, aZ H1517 24 i = aZ H 24 i := fun i => (by rw [eH1517, aZ_sF] : aZ H1517 24 i = aZ H1499 24 i).trans (m1514 i)
                  have ie1520 : v1516.toInt = (fZ H1517 0 34).toInt := by rw [← e1520]
                  refine g_nop ?_
                  refine g_iinc (l' := (fun v1533 => [(0, .ref 0), (1, .int v1533), (2, .int v1439)])) rfl rfl (by decide) (by omega) (fun _ => rfl) (fun v1533 ev1533 => ?_)
                  refine g_goto ?_
                  refine gG_pick [0, 1] (l' := [(0, .ref 0), (1, .int v1533)]) rfl ?_
                  exact ihL1430 v1533 H1517 hIH1517 hJH1517 e1518 e1519 m1521 m1522 m1523 m1524 m1525 m1526 m1527 m1528 m1529 m1530 m1531 m1532 (by omega) (by omega) (pmA_st hIH1440 (by omega) rfl eH1499 (fun a i => by rw [eH1517, aZ_sF]) q3 (by omega) (by omega)) (od_st (in_en hIH1440 sm_19 q7 eH1499 (by omega) (by omega) (Or.inr (by rw [orv_t q7 yv1495 (by omega) (by omega)]; show ¬ (aZ H 18 v1414.toInt.toNat).toInt < (aZ H 18 v1495.toInt.toNat).toInt; omega))) (by omega) (by show ¬ (aZ H 17 _).toInt = 0; omega) eH1517 (by have := q5.1; omega)) (by have hz := congrArg Int32.toInt (m1521 2); omega) (by omega)
                · refine g_aload_n rfl ?_
                  refine g_gfr hIH1440 sm_0 rfl ?_
                  refine g_iload_n rfl ?_
                  refine g_aload_n rfl ?_
                  refine g_gfr hIH1440 sm_0 rfl ?_
                  refine g_iload_n rfl ?_
                  refine g_iconst (by decide) (fun v1534 kv1534 => ?_)
                  refine g_isub (by omega) (fun v1535 ev1535 => ?_)
                  refine g_iaload hIH1440 sm_19 rfl (by omega) (fun v1536 ev1536 lv1536 uv1536 => ?_)
                  have yv1536 : v1536.toInt = (aZ H1440 19 v1535.toInt.toNat).toInt := by rw [ev1536]
                  refine g_iastore hIH1440 sm_19 (by omega) (by omega) (fun H1537 eH1537 hIH1537 => ?_)
                  have hJH1537 : JM H1537 := JM_sA (by decide) eH1537 hJH1440
                  have e1538 : k0_2 = fZ H1537 0 2 := by rw [eH1537, fZ_sA]; exact e1441
                  have e1539 : k0_0 = fZ H1537 0 0 := by rw [eH1537, fZ_sA]; exact e1442
                  have e1540 : k1431 = fZ H1537 0 34 := by rw [eH1537, fZ_sA]; exact e1443
                  have m1541 : ∀ i, aZ H1537 2 i = aZ H 2 i := fun i => (by rw [eH1537, aZ_sA_nc (by omega)] : aZ H1537 2 i = aZ H1440 2 i).trans (m1444 i)
                  have m1542 : ∀ i, aZ H1537 17 i = aZ H 17 i := fun i => (by rw [eH1537, aZ_sA_nc (by omega)] : aZ H1537 17 i = aZ H1440 17 i).trans (m1445 i)
                  have m1543 : kpM H H1537 := kpM_A m1446 eH1537 (by omega)
                  have m1544 : ∀ i, aZ H1537 18 i = aZ H 18 i := fun i => (by rw [eH1537, aZ_sA_nc (by omega)] : aZ H1537 18 i = aZ H1440 18 i).trans (m1447 i)
                  have m1545 : ∀ i, aZ H1537 7 i = aZ H 7 i := fun i => (by rw [eH1537, aZ_sA_nc (by omega)] : aZ H1537 7 i = aZ H1440 7 i).trans (m1448 i)
                  have m1546 : ∀ i, aZ H1537 9 i = aZ H 9 i := fun i => (by rw [eH1537, aZ_sA_nc (by omega)] : aZ H1537 9 i = aZ H1440 9 i).trans (m1449 i)
                  have m1547 : ∀ i, aZ H1537 12 i = aZ H 12 i := fun i => (by rw [eH1537, aZ_sA_nc (by omega)] : aZ H1537 12 i = aZ H1440 12 i).trans (m1450 i)
                  have m1548 : ∀ i, aZ H1537 13 i = aZ H 13 i := fun i => (by rw [eH1537, aZ_sA_nc (by omega)] : aZ H1537 13 i = aZ H1440 13 i).trans (m1451 i)
                  have m1549 : ∀ i, aZ H1537 14 i = aZ H 14 i := fun i => (by rw [eH1537, aZ_sA_nc (by omega)] : aZ H1537 14 i = aZ H1440 14 i).trans (m1452 i)
                  have m1550 : ∀ i, aZ H1537 15 i = aZ H 15 i := fun i => (by rw [eH1537, aZ_sA_nc (by omega)] : aZ H1537 15 i = aZ H1440 15 i).trans (m1453 i)
                  have m1551 : ∀ i, aZ H1537 16 i = aZ H 16 i := fun i => (by rw [eH1537, aZ_sA_nc (by omega)] : aZ H1537 16 i = aZ H1440 16 i).trans (m1454 i)
                  have m1552 : ∀ i, aZ H1537 24 i = aZ H 24 i := fun i => (by rw [eH1537, aZ_sA_nc (by omega)] : aZ H1537 24 i = aZ H1440 24 i).trans (m1455 i)
                  have ie1540 : k1431.toInt = (fZ H1537 0 34).toInt := by rw [← e1540]
                  refine g_iinc (l' := (fun v1553 => [(0, .ref 0), (1, .int v1414), (2, .int v1553)])) rfl rfl (by decide) (by omega) (fun _ => rfl) (fun v1553 ev1553 => ?_)
                  refine g_goto ?_
                  exact ihL1456 v1553 H1537 hIH1537 hJH1537 e1538 e1539 e1540 m1541 m1542 m1543 m1544 m1545 m1546 m1547 m1548 m1549 m1550 m1551 m1552 (by omega) (pmB_sh hIH1440 (by omega) (by omega) ev1536 eH1537 q3 (by omega)) (by omega) (in_sp hIH1440 sm_19 q7 eH1537 (by omega) (by omega) (by rw [yv1536, show v1535.toInt.toNat = v1439.toInt.toNat - 1 by omega]) (by rw [orv_t q7 yv1495 (by omega) (by omega)]; show (aZ H 18 v1414.toInt.toNat).toInt < (aZ H 18 v1495.toInt.toNat).toInt; omega) (by omega)) (by omega)
          exact L1456 _ k1431 H1415 hIH1415 hJH1415 e1416 e1417 ek1431 m1418 m1419 m1420 m1421 m1422 m1423 m1424 m1425 m1426 m1427 m1428 m1429 (by omega) (pmB_0 (by rw [ek1431]; exact q2)) (by omega) (od_in q5 (by have hz := q5.1; rw [← ek1431] at hz; omega)) (Nat.lt_succ_self _)
        · refine g_goto ?_
          refine g_iinc (l' := (fun v1554 => [(0, .ref 0), (1, .int v1554)])) rfl rfl (by decide) (by omega) (fun _ => rfl) (fun v1554 ev1554 => ?_)
          refine g_goto ?_
          exact ihL1430 v1554 H1415 hIH1415 hJH1415 e1416 e1417 m1418 m1419 m1420 m1421 m1422 m1423 m1424 m1425 m1426 m1427 m1428 m1429 (by omega) (by omega) (pmA_skip q2 (by omega) (by omega) (by rw [← ev1437]; omega)) (od_sk q5 (by omega) (by rw [← yv1437]; omega)) (by have hz := congrArg Int32.toInt (m1418 2); omega) (by omega)
  exact L1430 _ v1413 H1397 hIH1397 hJH1397 e1398 e1399 m1401 m1402 m1403 m1404 m1405 m1406 m1407 m1408 m1409 m1410 m1411 m1412 (by omega) (by omega) (pmA_0 (by omega)) (od_0 (by omega) (by omega)) (by have hz := congrArg Int32.toInt (m1401 2); omega) (Nat.lt_succ_self _)
set_option maxRecDepth 4000 in
set_option maxHeartbeats 4000000 in
/-- M.clears -/
theorem r_185 (H : mzH) (hI : gI SM H) (hJ : JN H) : gCall 185 [.ref 0] H (gRv (fun H' => gI SM H' ∧ JM H' ∧ fZ H' 0 2 = fZ H 0 2 ∧ fZ H' 0 0 = fZ H 0 0 ∧ (∀ i, aZ H' 2 i = aZ H 2 i) ∧ (∀ i, aZ H' 17 i = aZ H 17 i) ∧ kpM H H' ∧ (∀ i, aZ H' 18 i = aZ H 18 i) ∧ (∀ i, aZ H' 24 i = aZ H 24 i) ∧ pmA H' (aZ H' 2 2).toInt 60 ∧ clR (rgM H') (mdM H') ∧ odI H' H (aZ H 2 2).toInt.toNat)) := by
  obtain ⟨k0_2, ek0_2⟩ : ∃ z, z = fZ H 0 2 := ⟨_, rfl⟩
  have ik0_2 : k0_2.toInt = (fZ H 0 2).toInt := by rw [← ek0_2]
  have bk0_2 : 0 ≤ k0_2.toInt ∧ k0_2.toInt ≤ 900 := by rw [ek0_2]; exact fZ_of hI sm_0 rfl
  obtain ⟨k0_0, ek0_0⟩ : ∃ z, z = fZ H 0 0 := ⟨_, rfl⟩
  have ik0_0 : k0_0.toInt = (fZ H 0 0).toInt := by rw [← ek0_0]
  have mk2 : ∀ i, aZ H 2 i = aZ H 2 i := fun _ => rfl
  have mk17 : ∀ i, aZ H 17 i = aZ H 17 i := fun _ => rfl
  have mkfr : kpM H H := kpM_r
  have mk18 : ∀ i, aZ H 18 i = aZ H 18 i := fun _ => rfl
  have mk24 : ∀ i, aZ H 24 i = aZ H 24 i := fun _ => rfl
  have mk3 : ∀ i, aZ H 3 i = aZ H 3 i := fun _ => rfl
  refine gG_call [(0, .ref 0)] ⟨rfl, trivial⟩ ?_
  show gG 2 zB_185 (mzBlk zB_185 0) [(0, .ref 0)] [] H 0 0 _
  refine g_iconst (by decide) (fun v821 kv821 => ?_)
  refine g_istore_n (l' := [(0, .ref 0), (1, .int v821)]) rfl rfl ?_
  refine g_nop ?_
  have L832 : ∀ (N : Nat) (v822 : Int32) (H823 : mzH), gI SM H823 → k0_2 = fZ H823 0 2 → k0_0 = fZ H823 0 0 → (∀ i, aZ H823 2 i = aZ H 2 i) → (∀ i, aZ H823 17 i = aZ H 17 i) → kpM H H823 → (∀ i, aZ H823 18 i = aZ H 18 i) → (∀ i, aZ H823 24 i = aZ H 24 i) → (∀ i, aZ H823 3 i = aZ H 3 i) → (0 ≤ v822.toInt ∧ v822.toInt ≤ 40) → (∀ q, q < v822.toInt.toNat → (aZ H823 9 q).toInt = -5) → (∀ q : Nat, q < v822.toInt.toNat → (aZ H823 7 q).toInt = 0) → (∀ q : Nat, q < v822.toInt.toNat → (aZ H823 9 q).toInt = -5) → (∀ q : Nat, q < v822.toInt.toNat → (aZ H823 12 q).toInt = -5) → (∀ q : Nat, q < v822.toInt.toNat → (aZ H823 13 q).toInt = 0) → (∀ q : Nat, q < v822.toInt.toNat → (aZ H823 14 q).toInt = 0) → (∀ q : Nat, q < v822.toInt.toNat → (aZ H823 15 q).toInt = 0) → (∀ q : Nat, q < v822.toInt.toNat → (aZ H823 16 q).toInt = 0) → (40 - v822.toInt).toNat < N → gG 2 zB_185 (mzBlk zB_185 1) [(0, .ref 0), (1, .int v822)] [] H823 0 0 (gRv (fun H' => gI SM H' ∧ JM H' ∧ fZ H' 0 2 = fZ H 0 2 ∧ fZ H' 0 0 = fZ H 0 0 ∧ (∀ i, aZ H' 2 i = aZ H 2 i) ∧ (∀ i, aZ H' 17 i = aZ H 17 i) ∧ kpM H H' ∧ (∀ i, aZ H' 18 i = aZ H 18 i) ∧ (∀ i, aZ H' 24 i = aZ H 24 i) ∧ pmA H' (aZ H' 2 2).toInt 60 ∧ clR (rgM H') (mdM H') ∧ odI H' H (aZ H 2 2).toInt.toNat)) := by
    intro N
    induction N with
    | zero => intro v822 H823 hIH823 e824 e825 m826 m827 m828 m829 m830 m831 bv822 q1 q5_7 q5_9 q5_12 q5_13 q5_14 q5_15 q5_16 hmL832; exact absurd hmL832 (Nat.not_lt_zero _)
    | succ N ihL832 =>
      intro v822 H823 hIH823 e824 e825 m826 m827 m828 m829 m830 m831 bv822 q1 q5_7 q5_9 q5_12 q5_13 q5_14 q5_15 q5_16 hmL832
      refine g_iload_n rfl ?_
      refine g_bipush (by decide) (fun v833 kv833 => ?_)
      refine g_if2_ge (fun c834 => ?_) (fun c834 => ?_)
      · have hJ835 : JM H823 := JM_clr hJ (fun q hq => q1 q (by omega)) m826 m831
        refine g_aload_n rfl ?_
        refine g_invvv hIH823 sm_0 rfl rfl rfl rfl (r_184 H823 hIH823 hJ835) (fun H836 r837 => ?_)
        obtain ⟨hIH836, hJH836, w838, w839, m840, m841, m842, m843, m844, m845, m846, m847, m848, m849, m850, m851, p852, p853⟩ := r837
        have e854 : k0_2 = fZ H836 0 2 := e824.trans w838.symm
        have e855 : k0_0 = fZ H836 0 0 := e825.trans w839.symm
        have m856 : ∀ i, aZ H836 2 i = aZ H 2 i := fun i => (m840 i).trans (m826 i)
        have m857 : ∀ i, aZ H836 17 i = aZ H 17 i := fun i => (m841 i).trans (m827 i)
        have m858 : kpM H H836 := kpM_t m828 m842
        have m859 : ∀ i, aZ H836 18 i = aZ H 18 i := fun i => (m843 i).trans (m829 i)
        have m860 : ∀ i, aZ H836 24 i = aZ H 24 i := fun i => (m851 i).trans (m830 i)
        exact g_ret ⟨rfl, hIH836, hJH836, (e854.symm.trans ek0_2), (e855.symm.trans ek0_0), m856, m857, m858, m859, m860, p852, (fun n hn => ⟨by show (aZ H836 7 n).toInt = 0; rw [m844]; exact q5_7 n (by omega), by show (aZ H836 9 n).toInt = -5; rw [m845]; exact q5_9 n (by omega), by show (aZ H836 12 n).toInt = -5; rw [m846]; exact q5_12 n (by omega), by show (aZ H836 13 n).toInt = 0; rw [m847]; exact q5_13 n (by omega), by show (aZ H836 14 n).toInt = 0; rw [m848]; exact q5_14 n (by omega), by show (aZ H836 15 n).toInt = 0; rw [m849]; exact q5_15 n (by omega), by show (aZ H836 16 n).toInt = 0; rw [m850]; exact q5_16 n (by omega)⟩), (od_cg m827 m829 m826 p853)⟩
      · refine g_aload_n rfl ?_
        refine g_gfr hIH823 sm_0 rfl ?_
        refine g_iload_n rfl ?_
        refine g_iconst (by decide) (fun v861 kv861 => ?_)
        refine g_zastore hIH823 sm_7 (by omega) (by omega) (fun H862 eH862 hIH862 => ?_)
        have e863 : k0_2 = fZ H862 0 2 := by rw [eH862, fZ_sA]; exact e824
        have e864 : k0_0 = fZ H862 0 0 := by rw [eH862, fZ_sA]; exact e825
        have m865 : ∀ i, aZ H862 2 i = aZ H 2 i := fun i => (by rw [eH862, aZ_sA_nc (by omega)] : aZ H862 2 i = aZ H823 2 i).trans (m826 i)
        have m866 : ∀ i, aZ H862 17 i = aZ H 17 i := fun i => (by rw [eH862, aZ_sA_nc (by omega)] : aZ H862 17 i = aZ H823 17 i).trans (m827 i)
        have m867 : kpM H H862 := kpM_A m828 eH862 (by omega)
        have m868 : ∀ i, aZ H862 18 i = aZ H 18 i := fun i => (by rw [eH862, aZ_sA_nc (by omega)] : aZ H862 18 i = aZ H823 18 i).trans (m829 i)
        have m869 : ∀ i, aZ H862 24 i = aZ H 24 i := fun i => (by rw [eH862, aZ_sA_nc (by omega)] : aZ H862 24 i = aZ H823 24 i).trans (m830 i)
        have m870 : ∀ i, aZ H862 3 i = aZ H 3 i := fun i => (by rw [eH862, aZ_sA_nc (by omega)] : aZ H862 3 i = aZ H823 3 i).trans (m831 i)
        refine g_aload_n rfl ?_
        refine g_gfr hIH862 sm_0 rfl ?_
        refine g_iload_n rfl ?_
        refine g_bipush (by decide) (fun v871 kv871 => ?_)
        refine g_iastore hIH862 sm_9 (by omega) (by omega) (fun H872 eH872 hIH872 => ?_)
        have e873 : k0_2 = fZ H872 0 2 := by rw [eH872, fZ_sA]; exact e863
        have e874 : k0_0 = fZ H872 0 0 := by rw [eH872, fZ_sA]; exact e864
        have m875 : ∀ i, aZ H872 2 i = aZ H 2 i := fun i => (by rw [eH872, aZ_sA_nc (by omega)] : aZ H872 2 i = aZ H862 2 i).trans (m865 i)
        have m876 : ∀ i, aZ H872 17 i = aZ H 17 i := fun i => (by rw [eH872, aZ_sA_nc (by omega)] : aZ H872 17 i = aZ H862 17 i).trans (m866 i)
        have m877 : kpM H H872 := kpM_A m867 eH872 (by omega)
        have m878 : ∀ i, aZ H872 18 i = aZ H 18 i := fun i => (by rw [eH872, aZ_sA_nc (by omega)] : aZ H872 18 i = aZ H862 18 i).trans (m868 i)
        have m879 : ∀ i, aZ H872 24 i = aZ H 24 i := fun i => (by rw [eH872, aZ_sA_nc (by omega)] : aZ H872 24 i = aZ H862 24 i).trans (m869 i)
        have m880 : ∀ i, aZ H872 3 i = aZ H 3 i := fun i => (by rw [eH872, aZ_sA_nc (by omega)] : aZ H872 3 i = aZ H862 3 i).trans (m870 i)
        refine g_aload_n rfl ?_
        refine g_gfr hIH872 sm_0 rfl ?_
        refine g_iload_n rfl ?_
        refine g_bipush (by decide) (fun v881 kv881 => ?_)
        refine g_iastore hIH872 sm_12 (by omega) (gz_any _) (fun H882 eH882 hIH882 => ?_)
        have e883 : k0_2 = fZ H882 0 2 := by rw [eH882, fZ_sA]; exact e873
        have e884 : k0_0 = fZ H882 0 0 := by rw [eH882, fZ_sA]; exact e874
        have m885 : ∀ i, aZ H882 2 i = aZ H 2 i := fun i => (by rw [eH882, aZ_sA_nc (by omega)] : aZ H882 2 i = aZ H872 2 i).trans (m875 i)
        have m886 : ∀ i, aZ H882 17 i = aZ H 17 i := fun i => (by rw [eH882, aZ_sA_nc (by omega)] : aZ H882 17 i = aZ H872 17 i).trans (m876 i)
        have m887 : kpM H H882 := kpM_A m877 eH882 (by omega)
        have m888 : ∀ i, aZ H882 18 i = aZ H 18 i := fun i => (by rw [eH882, aZ_sA_nc (by omega)] : aZ H882 18 i = aZ H872 18 i).trans (m878 i)
        have m889 : ∀ i, aZ H882 24 i = aZ H 24 i := fun i => (by rw [eH882, aZ_sA_nc (by omega)] : aZ H882 24 i = aZ H872 24 i).trans (m879 i)
        have m890 : ∀ i, aZ H882 3 i = aZ H 3 i := fun i => (by rw [eH882, aZ_sA_nc (by omega)] : aZ H882 3 i = aZ H872 3 i).trans (m880 i)
        refine g_aload_n rfl ?_
        refine g_gfr hIH882 sm_0 rfl ?_
        refine g_iload_n rfl ?_
        refine g_iconst (by decide) (fun v891 kv891 => ?_)
        refine g_zastore hIH882 sm_13 (by omega) (by omega) (fun H892 eH892 hIH892 => ?_)
        have e893 : k0_2 = fZ H892 0 2 := by rw [eH892, fZ_sA]; exact e883
        have e894 : k0_0 = fZ H892 0 0 := by rw [eH892, fZ_sA]; exact e884
        have m895 : ∀ i, aZ H892 2 i = aZ H 2 i := fun i => (by rw [eH892, aZ_sA_nc (by omega)] : aZ H892 2 i = aZ H882 2 i).trans (m885 i)
        have m896 : ∀ i, aZ H892 17 i = aZ H 17 i := fun i => (by rw [eH892, aZ_sA_nc (by omega)] : aZ H892 17 i = aZ H882 17 i).trans (m886 i)
        have m897 : kpM H H892 := kpM_A m887 eH892 (by omega)
        have m898 : ∀ i, aZ H892 18 i = aZ H 18 i := fun i => (by rw [eH892, aZ_sA_nc (by omega)] : aZ H892 18 i = aZ H882 18 i).trans (m888 i)
        have m899 : ∀ i, aZ H892 24 i = aZ H 24 i := fun i => (by rw [eH892, aZ_sA_nc (by omega)] : aZ H892 24 i = aZ H882 24 i).trans (m889 i)
        have m900 : ∀ i, aZ H892 3 i = aZ H 3 i := fun i => (by rw [eH892, aZ_sA_nc (by omega)] : aZ H892 3 i = aZ H882 3 i).trans (m890 i)
        refine g_aload_n rfl ?_
        refine g_gfr hIH892 sm_0 rfl ?_
        refine g_iload_n rfl ?_
        refine g_iconst (by decide) (fun v901 kv901 => ?_)
        refine g_zastore hIH892 sm_14 (by omega) (by omega) (fun H902 eH902 hIH902 => ?_)
        have e903 : k0_2 = fZ H902 0 2 := by rw [eH902, fZ_sA]; exact e893
        have e904 : k0_0 = fZ H902 0 0 := by rw [eH902, fZ_sA]; exact e894
        have m905 : ∀ i, aZ H902 2 i = aZ H 2 i := fun i => (by rw [eH902, aZ_sA_nc (by omega)] : aZ H902 2 i = aZ H892 2 i).trans (m895 i)
        have m906 : ∀ i, aZ H902 17 i = aZ H 17 i := fun i => (by rw [eH902, aZ_sA_nc (by omega)] : aZ H902 17 i = aZ H892 17 i).trans (m896 i)
        have m907 : kpM H H902 := kpM_A m897 eH902 (by omega)
        have m908 : ∀ i, aZ H902 18 i = aZ H 18 i := fun i => (by rw [eH902, aZ_sA_nc (by omega)] : aZ H902 18 i = aZ H892 18 i).trans (m898 i)
        have m909 : ∀ i, aZ H902 24 i = aZ H 24 i := fun i => (by rw [eH902, aZ_sA_nc (by omega)] : aZ H902 24 i = aZ H892 24 i).trans (m899 i)
        have m910 : ∀ i, aZ H902 3 i = aZ H 3 i := fun i => (by rw [eH902, aZ_sA_nc (by omega)] : aZ H902 3 i = aZ H892 3 i).trans (m900 i)
        refine g_aload_n rfl ?_
        refine g_gfr hIH902 sm_0 rfl ?_
        refine g_iload_n rfl ?_
        refine g_iconst (by decide) (fun v911 kv911 => ?_)
        refine g_zastore hIH902 sm_15 (by omega) (by omega) (fun H912 eH912 hIH912 => ?_)
        have e913 : k0_2 = fZ H912 0 2 := by rw [eH912, fZ_sA]; exact e903
        have e914 : k0_0 = fZ H912 0 0 := by rw [eH912, fZ_sA]; exact e904
        have m915 : ∀ i, aZ H912 2 i = aZ H 2 i := fun i => (by rw [eH912, aZ_sA_nc (by omega)] : aZ H912 2 i = aZ H902 2 i).trans (m905 i)
        have m916 : ∀ i, aZ H912 17 i = aZ H 17 i := fun i => (by rw [eH912, aZ_sA_nc (by omega)] : aZ H912 17 i = aZ H902 17 i).trans (m906 i)
        have m917 : kpM H H912 := kpM_A m907 eH912 (by omega)
        have m918 : ∀ i, aZ H912 18 i = aZ H 18 i := fun i => (by rw [eH912, aZ_sA_nc (by omega)] : aZ H912 18 i = aZ H902 18 i).trans (m908 i)
        have m919 : ∀ i, aZ H912 24 i = aZ H 24 i := fun i => (by rw [eH912, aZ_sA_nc (by omega)] : aZ H912 24 i = aZ H902 24 i).trans (m909 i)
        have m920 : ∀ i, aZ H912 3 i = aZ H 3 i := fun i => (by rw [eH912, aZ_sA_nc (by omega)] : aZ H912 3 i = aZ H902 3 i).trans (m910 i)
        refine g_aload_n rfl ?_
        refine g_gfr hIH912 sm_0 rfl ?_
        refine g_iload_n rfl ?_
        refine g_iconst (by decide) (fun v921 kv921 => ?_)
        refine g_zastore hIH912 sm_16 (by omega) (by omega) (fun H922 eH922 hIH922 => ?_)
        have e923 : k0_2 = fZ H922 0 2 := by rw [eH922, fZ_sA]; exact e913
        have e924 : k0_0 = fZ H922 0 0 := by rw [eH922, fZ_sA]; exact e914
        have m925 : ∀ i, aZ H922 2 i = aZ H 2 i := fun i => (by rw [eH922, aZ_sA_nc (by omega)] : aZ H922 2 i = aZ H912 2 i).trans (m915 i)
        have m926 : ∀ i, aZ H922 17 i = aZ H 17 i := fun i => (by rw [eH922, aZ_sA_nc (by omega)] : aZ H922 17 i = aZ H912 17 i).trans (m916 i)
        have m927 : kpM H H922 := kpM_A m917 eH922 (by omega)
        have m928 : ∀ i, aZ H922 18 i = aZ H 18 i := fun i => (by rw [eH922, aZ_sA_nc (by omega)] : aZ H922 18 i = aZ H912 18 i).trans (m918 i)
        have m929 : ∀ i, aZ H922 24 i = aZ H 24 i := fun i => (by rw [eH922, aZ_sA_nc (by omega)] : aZ H922 24 i = aZ H912 24 i).trans (m919 i)
        have m930 : ∀ i, aZ H922 3 i = aZ H 3 i := fun i => (by rw [eH922, aZ_sA_nc (by omega)] : aZ H922 3 i = aZ H912 3 i).trans (m920 i)
        refine g_iinc (l' := (fun v931 => [(0, .ref 0), (1, .int v931)])) rfl rfl (by decide) (by omega) (fun _ => rfl) (fun v931 ev931 => ?_)
        refine g_goto ?_
        exact ihL832 v931 H922 hIH922 e923 e924 m925 m926 m927 m928 m929 m930 (by omega) (fun q hq => by rw [eH922, aZ_sA_nc (by decide), eH912, aZ_sA_nc (by decide), eH902, aZ_sA_nc (by decide), eH892, aZ_sA_nc (by decide), eH882, aZ_sA_nc (by decide), eH872]; if e : v822.toInt.toNat = q then (subst e; rw [aZ_sA_eq hIH862 sm_9 (by omega)]; omega) else (rw [aZ_sA_ne e, eH862, aZ_sA_nc (by decide)]; exact q1 q (by omega))) (fun q hq => by rw [eH922, aZ_sA_nc (by decide), eH912, aZ_sA_nc (by decide), eH902, aZ_sA_nc (by decide), eH892, aZ_sA_nc (by decide), eH882, aZ_sA_nc (by decide), eH872, aZ_sA_nc (by decide), eH862]; if e : v822.toInt.toNat = q then (subst e; rw [aZ_sA_eq hIH823 sm_7 (by omega)]; omega) else (rw [aZ_sA_ne e]; exact q5_7 q (by omega))) (fun q hq => by rw [eH922, aZ_sA_nc (by decide), eH912, aZ_sA_nc (by decide), eH902, aZ_sA_nc (by decide), eH892, aZ_sA_nc (by decide), eH882, aZ_sA_nc (by decide), eH872]; if e : v822.toInt.toNat = q then (subst e; rw [aZ_sA_eq hIH862 sm_9 (by omega)]; omega) else (rw [aZ_sA_ne e, eH862, aZ_sA_nc (by decide)]; exact q5_9 q (by omega))) (fun q hq => by rw [eH922, aZ_sA_nc (by decide), eH912, aZ_sA_nc (by decide), eH902, aZ_sA_nc (by decide), eH892, aZ_sA_nc (by decide), eH882]; if e : v822.toInt.toNat = q then (subst e; rw [aZ_sA_eq hIH872 sm_12 (by omega)]; omega) else (rw [aZ_sA_ne e, eH872, aZ_sA_nc (by decide), eH862, aZ_sA_nc (by decide)]; exact q5_12 q (by omega))) (fun q hq => by rw [eH922, aZ_sA_nc (by decide), eH912, aZ_sA_nc (by decide), eH902, aZ_sA_nc (by decide), eH892]; if e : v822.toInt.toNat = q then (subst e; rw [aZ_sA_eq hIH882 sm_13 (by omega)]; omega) else (rw [aZ_sA_ne e, eH882, aZ_sA_nc (by decide), eH872, aZ_sA_nc (by decide), eH862, aZ_sA_nc (by decide)]; exact q5_13 q (by omega))) (fun q hq => by rw [eH922, aZ_sA_nc (by decide), eH912, aZ_sA_nc (by decide), eH902]; if e : v822.toInt.toNat = q then (subst e; rw [aZ_sA_eq hIH892 sm_14 (by omega)]; omega) else (rw [aZ_sA_ne e, eH892, aZ_sA_nc (by decide), eH882, aZ_sA_nc (by decide), eH872, aZ_sA_nc (by decide), eH862, aZ_sA_nc (by decide)]; exact q5_14 q (by omega))) (fun q hq => by rw [eH922, aZ_sA_nc (by decide), eH912]; if e : v822.toInt.toNat = q then (subst e; rw [aZ_sA_eq hIH902 sm_15 (by omega)]; omega) else (rw [aZ_sA_ne e, eH902, aZ_sA_nc (by decide), eH892, aZ_sA_nc (by decide), eH882, aZ_sA_nc (by decide), eH872, aZ_sA_nc (by decide), eH862, aZ_sA_nc (by decide)]; exact q5_15 q (by omega))) (fun q hq => by rw [eH922]; if e : v822.toInt.toNat = q then (subst e; rw [aZ_sA_eq hIH912 sm_16 (by omega)]; omega) else (rw [aZ_sA_ne e, eH912, aZ_sA_nc (by decide), eH902, aZ_sA_nc (by decide), eH892, aZ_sA_nc (by decide), eH882, aZ_sA_nc (by decide), eH872, aZ_sA_nc (by decide), eH862, aZ_sA_nc (by decide)]; exact q5_16 q (by omega))) (by omega)
  exact L832 _ v821 H hI ek0_2 ek0_0 mk2 mk17 mkfr mk18 mk24 mk3 (by omega) (fun q hq => absurd hq (by omega)) (fun q hq => absurd hq (by omega)) (fun q hq => absurd hq (by omega)) (fun q hq => absurd hq (by omega)) (fun q hq => absurd hq (by omega)) (fun q hq => absurd hq (by omega)) (fun q hq => absurd hq (by omega)) (fun q hq => absurd hq (by omega)) (Nat.lt_succ_self _)
set_option maxRecDepth 4000 in
set_option maxHeartbeats 4000000 in
/-- M.runs -/
theorem r_199 (a1 : Int32) (H : mzH) (hI : gI SM H) (hJ : JN H) (hp0 : gdM H) : gCall 199 [.ref 0, .int a1] H (gRv (fun H' => gI SM H' ∧ JM H' ∧ fZ H' 0 2 = fZ H 0 2 ∧ fZ H' 0 0 = fZ H 0 0 ∧ (∀ i, aZ H' 2 i = aZ H 2 i) ∧ (∀ i, aZ H' 17 i = aZ H 17 i) ∧ kpM H H' ∧ (∀ i, aZ H' 18 i = aZ H 18 i) ∧ (∀ i, aZ H' 24 i = aZ H 24 i) ∧ pmA H' (aZ H' 2 2).toInt 60 ∧ (∃ G : mzH, clR (rgM G) (mdM G) ∧ ∃ p : Nat, rwX H' (fM H G p).1 (fM H G p).2 ∧ stM H a1.toInt p ∧ (∀ x : Nat, x < p → (aZ H' 20 (odM H x)).toInt = rvM H G x) ∧ odI H' H (aZ H 2 2).toInt.toNat))) := by
  obtain ⟨k0_2, ek0_2⟩ : ∃ z, z = fZ H 0 2 := ⟨_, rfl⟩
  have ik0_2 : k0_2.toInt = (fZ H 0 2).toInt := by rw [← ek0_2]
  have bk0_2 : 0 ≤ k0_2.toInt ∧ k0_2.toInt ≤ 900 := by rw [ek0_2]; exact fZ_of hI sm_0 rfl
  obtain ⟨k0_0, ek0_0⟩ : ∃ z, z = fZ H 0 0 := ⟨_, rfl⟩
  have ik0_0 : k0_0.toInt = (fZ H 0 0).toInt := by rw [← ek0_0]
  have mk2 : ∀ i, aZ H 2 i = aZ H 2 i := fun _ => rfl
  have mk17 : ∀ i, aZ H 17 i = aZ H 17 i := fun _ => rfl
  have mkfr : kpM H H := kpM_r
  have mk18 : ∀ i, aZ H 18 i = aZ H 18 i := fun _ => rfl
  have mk24 : ∀ i, aZ H 24 i = aZ H 24 i := fun _ => rfl
  refine gG_call [(0, .ref 0), (1, .int a1)] ⟨rfl, rfl, trivial⟩ ?_
  show gG 3 zB_199 (mzBlk zB_199 0) [(0, .ref 0), (1, .int a1)] [] H 0 0 _
  refine g_aload_n rfl ?_
  refine g_invvv hI sm_0 rfl rfl rfl rfl (r_185 H hI hJ) (fun H473 r474 => ?_)
  obtain ⟨hIH473, hJH473, w475, w476, m477, m478, m479, m480, m481, p482, p483, p484⟩ := r474
  have e485 : k0_2 = fZ H473 0 2 := ek0_2.trans w475.symm
  have e486 : k0_0 = fZ H473 0 0 := ek0_0.trans w476.symm
  have m487 : ∀ i, aZ H473 2 i = aZ H 2 i := fun i => (m477 i).trans (mk2 i)
  have m488 : ∀ i, aZ H473 17 i = aZ H 17 i := fun i => (m478 i).trans (mk17 i)
  have m489 : kpM H H473 := kpM_t mkfr m479
  have m490 : ∀ i, aZ H473 18 i = aZ H 18 i := fun i => (m480 i).trans (mk18 i)
  have m491 : ∀ i, aZ H473 24 i = aZ H 24 i := fun i => (m481 i).trans (mk24 i)
  refine g_iconst (by decide) (fun v492 kv492 => ?_)
  refine g_istore_n (l' := [(0, .ref 0), (1, .int a1), (2, .int v492)]) rfl rfl ?_
  refine g_nop ?_
  have L502 : ∀ (N : Nat) (v493 : Int32) (H494 : mzH), gI SM H494 → JM H494 → k0_2 = fZ H494 0 2 → k0_0 = fZ H494 0 0 → (∀ i, aZ H494 2 i = aZ H 2 i) → (∀ i, aZ H494 17 i = aZ H 17 i) → kpM H H494 → (∀ i, aZ H494 18 i = aZ H 18 i) → (∀ i, aZ H494 24 i = aZ H 24 i) → (0 ≤ v493.toInt ∧ v493.toInt ≤ 60) → pmA H494 (aZ H494 2 2).toInt 60 → rwX H494 (fM H H473 v493.toInt.toNat).1 (fM H H473 v493.toInt.toNat).2 → (∀ q : Nat, q < v493.toInt.toNat → hqM H q ≤ a1.toInt) → odI H494 H (aZ H 2 2).toInt.toNat → v493.toInt.toNat ≤ cnM H → (∀ x : Nat, x < v493.toInt.toNat → (aZ H494 20 (odM H x)).toInt = rvM H H473 x) → (60 - v493.toInt).toNat < N → gG 3 zB_199 (mzBlk zB_199 1) [(0, .ref 0), (1, .int a1), (2, .int v493)] [] H494 0 0 (gRv (fun H' => gI SM H' ∧ JM H' ∧ fZ H' 0 2 = fZ H 0 2 ∧ fZ H' 0 0 = fZ H 0 0 ∧ (∀ i, aZ H' 2 i = aZ H 2 i) ∧ (∀ i, aZ H' 17 i = aZ H 17 i) ∧ kpM H H' ∧ (∀ i, aZ H' 18 i = aZ H 18 i) ∧ (∀ i, aZ H' 24 i = aZ H 24 i) ∧ pmA H' (aZ H' 2 2).toInt 60 ∧ (∃ G : mzH, clR (rgM G) (mdM G) ∧ ∃ p : Nat, rwX H' (fM H G p).1 (fM H G p).2 ∧ stM H a1.toInt p ∧ (∀ x : Nat, x < p → (aZ H' 20 (odM H x)).toInt = rvM H G x) ∧ odI H' H (aZ H 2 2).toInt.toNat))) := by
    intro N
    induction N with
    | zero => intro v493 H494 hIH494 hJH494 e495 e496 m497 m498 m499 m500 m501 bv493 q1 q5 q6 q7 q8 q10 hmL502; exact absurd hmL502 (Nat.not_lt_zero _)
    | succ N ihL502 =>
      intro v493 H494 hIH494 hJH494 e495 e496 m497 m498 m499 m500 m501 bv493 q1 q5 q6 q7 q8 q10 hmL502
      refine g_iload_n rfl ?_
      refine g_aload_n rfl ?_
      refine g_gfi hIH494 sm_0 rfl (fun v503 ev503 lv503 uv503 => ?_)
      have zv503 : v503.toInt = (cnM H : Int) := by rw [ev503]; exact od_n q7
      refine g_if2_ge (fun c504 => ?_) (fun c504 => ?_)
      · exact g_ret ⟨rfl, hIH494, hJH494, (e495.symm.trans ek0_2), (e496.symm.trans ek0_0), m497, m498, m499, m500, m501, q1, ⟨H473, p483, v493.toInt.toNat, q5, ⟨q8, q6, Or.inl (by omega)⟩, q10, q7⟩⟩
      · refine g_aload_n rfl ?_
        refine g_gfr hIH494 sm_0 rfl ?_
        refine g_aload_n rfl ?_
        refine g_gfr hIH494 sm_0 rfl ?_
        refine g_iload_n rfl ?_
        refine g_iaload hIH494 sm_19 rfl (by omega) (fun v505 ev505 lv505 uv505 => ?_)
        have zv505 : v505.toInt.toNat = odM H v493.toInt.toNat := by rw [ev505]; exact od_g q7 (by omega)
        refine g_iaload hIH494 sm_18 rfl (by omega) (fun v506 ev506 lv506 uv506 => ?_)
        have yv506 : v506.toInt = (aZ H 18 v505.toInt.toNat).toInt := by rw [ev506, m500]
        refine g_iload_n rfl ?_
        refine g_if2_gt (fun c507 => ?_) (fun c507 => ?_)
        · exact g_ret ⟨rfl, hIH494, hJH494, (e495.symm.trans ek0_2), (e496.symm.trans ek0_0), m497, m498, m499, m500, m501, q1, ⟨H473, p483, v493.toInt.toNat, q5, ⟨q8, q6, Or.inr (by show _ < (aZ H 18 (odM H _)).toInt; rw [← zv505]; omega)⟩, q10, q7⟩⟩
        · refine g_aload_n rfl ?_
          refine g_aload_n rfl ?_
          refine g_gfr hIH494 sm_0 rfl ?_
          refine g_iload_n rfl ?_
          refine g_ialoadk hIH494 sm_19 rfl (by omega) ev505 ?_
          refine g_invvv hIH494 sm_0 rfl rfl rfl rfl (r_193 v505 (by omega) H494 hIH494 hJH494 q5 ((hp0.2 H473 p483 v493.toInt.toNat (by omega)).1) ((hp0.2 H473 p483 v493.toInt.toNat (by omega)).2) (by rw [m500, zv505]; exact (hp0.1 v493.toInt.toNat (by omega))) (bt_of hIH494 q5)) (fun H508 r509 => ?_)
          obtain ⟨hIH508, hJH508, m510, m511, m512, m513, m514, m515, m516, m517, m518, m519, p520, p521, p522⟩ := r509
          have e523 : k0_2 = fZ H508 0 2 := e495.trans (m510 0 2).symm
          have e524 : k0_0 = fZ H508 0 0 := e496.trans (m510 0 0).symm
          have m525 : ∀ i, aZ H508 2 i = aZ H 2 i := fun i => (m511 i).trans (m497 i)
          have m526 : ∀ i, aZ H508 17 i = aZ H 17 i := fun i => (m513 i).trans (m498 i)
          have m527 : kpM H H508 := kpM_t m499 m514
          have m528 : ∀ i, aZ H508 18 i = aZ H 18 i := fun i => (m515 i).trans (m500 i)
          have m529 : ∀ i, aZ H508 24 i = aZ H 24 i := fun i => (m518 i).trans (m501 i)
          refine g_iinc (l' := (fun v530 => [(0, .ref 0), (1, .int a1), (2, .int v530)])) rfl rfl (by decide) (by omega) (fun _ => rfl) (fun v530 ev530 => ?_)
          refine g_goto ?_
          exact ihL502 v530 H508 hIH508 hJH508 e523 e524 m525 m526 m527 m528 m529 (by omega) (by rw [m511 2]; exact pmA_cg m513 m512 q1) (fm_st m499 m500 m497 p520 zv505 (by omega) (by omega)) (hm_st q6 (by omega) (by show (aZ H 18 (odM H _)).toInt ≤ _; rw [← zv505]; omega)) (od_cg2 m512 (m510 0 34) q7) (by omega) (rv_st q10 m499 m500 m497 p521 p522 zv505 (by omega) (by omega) (by omega)) (by omega)
  exact L502 _ v492 H473 hIH473 hJH473 e485 e486 m487 m488 m489 m490 m491 (by omega) p482 (by rw [kv492]; exact rw_rd) (fun q hq => by omega) p484 (by omega) (fun x hx => by omega) (Nat.lt_succ_self _)
