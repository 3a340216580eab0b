/-! THE SHAPE of the reference's cells (by program, wip/model.py) -/
def SM : List gSp := [.inr (10, [.inr (-2147483648, 2147483647), .inl 1, .inr (0, 900), .inl 2, .inl 3, .inl 4, .inl 5, .inr (0, 900), .inr (0, 900), .inr (0, 900), .inr (0, 4), .inr (-2147483648, 2147483647), .inr (-2147483648, 2147483647), .inr (-2147483648, 2147483647), .inr (-2147483648, 2147483647), .inr (-2147483648, 2147483647), .inr (-2147483648, 2147483647), .inr (0, 1), .inr (0, 1), .inr (-2147483648, 2147483647), .inl 6, .inl 7, .inl 8, .inl 9, .inl 10, .inl 11, .inl 12, .inl 13, .inl 14, .inl 15, .inl 16, .inl 17, .inl 18, .inl 19, .inr (0, 60), .inl 20, .inl 21, .inl 22, .inl 23, .inr (0, 60), .inl 24, .inr (-2147483648, 2147483647), .inr (-2147483648, 2147483647), .inr (-2147483648, 2147483647), .inl 25]), .inl (0, 900, 0, 255), .inl (0, 369, -2147483648, 2147483647), .inl (0, 369, -2147483648, 2147483647), .inl (0, 8, -2147483648, 2147483647), .inl (0, 8, -2147483648, 2147483647), .inl (0, 64, -2147483648, 2147483647), .inl (1, 40, 0, 1), .inl (0, 40, 0, 2), .inl (0, 40, -5, 39), .inl (0, 40, 0, 7), .inl (0, 40, -2147483648, 2147483647), .inl (0, 40, -2147483648, 2147483647), .inl (1, 40, 0, 1), .inl (1, 40, 0, 1), .inl (1, 40, 0, 1), .inl (1, 40, 0, 1), .inl (1, 60, 0, 1), .inl (0, 60, -2147483648, 2147483647), .inl (0, 60, 0, 59), .inl (0, 60, -2147483648, 2147483647), .inl (1, 40, 0, 1), .inl (0, 61, -4, 7), .inl (0, 61, -2147483648, 2147483647), .inl (0, 40, -2147483648, 2147483647), .inl (1, 40, 0, 1)]
theorem sm_0 : SM[0]? = some (.inr (10, [.inr (-2147483648, 2147483647), .inl 1, .inr (0, 900), .inl 2, .inl 3, .inl 4, .inl 5, .inr (0, 900), .inr (0, 900), .inr (0, 900), .inr (0, 4), .inr (-2147483648, 2147483647), .inr (-2147483648, 2147483647), .inr (-2147483648, 2147483647), .inr (-2147483648, 2147483647), .inr (-2147483648, 2147483647), .inr (-2147483648, 2147483647), .inr (0, 1), .inr (0, 1), .inr (-2147483648, 2147483647), .inl 6, .inl 7, .inl 8, .inl 9, .inl 10, .inl 11, .inl 12, .inl 13, .inl 14, .inl 15, .inl 16, .inl 17, .inl 18, .inl 19, .inr (0, 60), .inl 20, .inl 21, .inl 22, .inl 23, .inr (0, 60), .inl 24, .inr (-2147483648, 2147483647), .inr (-2147483648, 2147483647), .inr (-2147483648, 2147483647), .inl 25])) := rfl
theorem sm_1 : SM[1]? = some (.inl (0, 900, 0, 255)) := rfl
theorem sm_2 : SM[2]? = some (.inl (0, 369, -2147483648, 2147483647)) := rfl
theorem sm_3 : SM[3]? = some (.inl (0, 369, -2147483648, 2147483647)) := rfl
theorem sm_4 : SM[4]? = some (.inl (0, 8, -2147483648, 2147483647)) := rfl
theorem sm_5 : SM[5]? = some (.inl (0, 8, -2147483648, 2147483647)) := rfl
theorem sm_6 : SM[6]? = some (.inl (0, 64, -2147483648, 2147483647)) := rfl
theorem sm_7 : SM[7]? = some (.inl (1, 40, 0, 1)) := rfl
theorem sm_8 : SM[8]? = some (.inl (0, 40, 0, 2)) := rfl
theorem sm_9 : SM[9]? = some (.inl (0, 40, -5, 39)) := rfl
theorem sm_10 : SM[10]? = some (.inl (0, 40, 0, 7)) := rfl
theorem sm_11 : SM[11]? = some (.inl (0, 40, -2147483648, 2147483647)) := rfl
theorem sm_12 : SM[12]? = some (.inl (0, 40, -2147483648, 2147483647)) := rfl
theorem sm_13 : SM[13]? = some (.inl (1, 40, 0, 1)) := rfl
theorem sm_14 : SM[14]? = some (.inl (1, 40, 0, 1)) := rfl
theorem sm_15 : SM[15]? = some (.inl (1, 40, 0, 1)) := rfl
theorem sm_16 : SM[16]? = some (.inl (1, 40, 0, 1)) := rfl
theorem sm_17 : SM[17]? = some (.inl (1, 60, 0, 1)) := rfl
theorem sm_18 : SM[18]? = some (.inl (0, 60, -2147483648, 2147483647)) := rfl
theorem sm_19 : SM[19]? = some (.inl (0, 60, 0, 59)) := rfl
theorem sm_20 : SM[20]? = some (.inl (0, 60, -2147483648, 2147483647)) := rfl
theorem sm_21 : SM[21]? = some (.inl (1, 40, 0, 1)) := rfl
theorem sm_22 : SM[22]? = some (.inl (0, 61, -4, 7)) := rfl
theorem sm_23 : SM[23]? = some (.inl (0, 61, -2147483648, 2147483647)) := rfl
theorem sm_24 : SM[24]? = some (.inl (0, 40, -2147483648, 2147483647)) := rfl
theorem sm_25 : SM[25]? = some (.inl (1, 40, 0, 1)) := rfl
/-- a row of a message in the reference's rows -/
def WR (H : mzH) (a k : Nat) : Prop :=
  (0 ≤ (aZ H a (70 + 5 * k)).toInt ∧ (aZ H a (70 + 5 * k)).toInt ≤ 10) ∧ (0 ≤ (aZ H a (71 + 5 * k)).toInt ∧ (aZ H a (71 + 5 * k)).toInt ≤ 39) ∧
  (((aZ H a (70 + 5 * k)).toInt = 0 ∨ (aZ H a (70 + 5 * k)).toInt = 5 ∨ (aZ H a (70 + 5 * k)).toInt = 6 ∨ (aZ H a (70 + 5 * k)).toInt = 8) → (0 ≤ (aZ H a (72 + 5 * k)).toInt ∧ (aZ H a (72 + 5 * k)).toInt ≤ 7)) ∧
  ((aZ H a (70 + 5 * k)).toInt = 1 → (0 ≤ (aZ H a (72 + 5 * k)).toInt ∧ (aZ H a (72 + 5 * k)).toInt ≤ 39)) ∧
  ((aZ H a (70 + 5 * k)).toInt = 0 → (0 ≤ (aZ H a (73 + 5 * k)).toInt ∧ (aZ H a (73 + 5 * k)).toInt ≤ 2))
def WF (H : mzH) (a : Nat) : Prop := (0 ≤ (aZ H a 0).toInt ∧ (aZ H a 0).toInt ≤ 8) ∧ (0 ≤ (aZ H a 2).toInt ∧ (aZ H a 2).toInt ≤ 60) ∧ ∀ k, k < 60 → WR H a k
/-- what is in another one is of the kind below; both are made -/
def AC (H : mzH) : Prop := ∀ t, t < 40 → (aZ H 9 t).toInt = -5 ∨ (0 ≤ (aZ H 9 t).toInt ∧ (aZ H 8 (aZ H 9 t).toInt.toNat).toInt = (aZ H 8 t).toInt + 1 ∧ ¬ (aZ H 7 t).toInt = 0 ∧ ¬ (aZ H 7 (aZ H 9 t).toInt.toNat).toInt = 0)
def JM (H : mzH) : Prop := WF H 2 ∧ WF H 3 ∧ AC H
/-- the same without what holds only behind a look at messages -/
def JN (H : mzH) : Prop := WF H 2 ∧ WF H 3
theorem JM_n {H : mzH} (h : JM H) : JN H := ⟨h.1, h.2.1⟩
theorem WF_cg {H H1 : mzH} {a b : Nat} (h : ∀ i, i < 369 → aZ H1 a i = aZ H b i) (hw : WF H b) : WF H1 a := by
  refine ⟨by rw [h 0 (by decide)]; exact hw.1, by rw [h 2 (by decide)]; exact hw.2.1, fun k hk => ?_⟩
  have := hw.2.2 k hk
  unfold WR at *
  rw [h (70 + 5 * k) (by first | with_reducible assumption | omega), h (71 + 5 * k) (by first | with_reducible assumption | omega), h (72 + 5 * k) (by first | with_reducible assumption | omega), h (73 + 5 * k) (by first | with_reducible assumption | omega)]
  exact this
theorem AC_cg {H H1 : mzH} (h7 : ∀ i, aZ H1 7 i = aZ H 7 i) (h8 : ∀ i, aZ H1 8 i = aZ H 8 i) (h9 : ∀ i, aZ H1 9 i = aZ H 9 i) (hw : AC H) : AC H1 := fun t ht => by
  have := hw t ht
  rw [h9, h8, h8, h7, h7]
  exact this
theorem JM_cg {H H1 : mzH} (hJ : JM H) (h : ∀ a i, (a = 2 ∨ a = 3 ∨ a = 7 ∨ a = 8 ∨ a = 9) → aZ H1 a i = aZ H a i) : JM H1 :=
  ⟨WF_cg (fun i _ => h 2 i (by first | with_reducible assumption | omega)) hJ.1, WF_cg (fun i _ => h 3 i (by first | with_reducible assumption | omega)) hJ.2.1, AC_cg (fun i => h 7 i (by first | with_reducible assumption | omega)) (fun i => h 8 i (by first | with_reducible assumption | omega)) (fun i => h 9 i (by first | with_reducible assumption | omega)) hJ.2.2⟩
theorem JM_sF {H H1 : mzH} {a f : Nat} {v : Int32} (e : H1 = sF H a f v) (hJ : JM H) : JM H1 := JM_cg hJ (fun b i _ => by rw [e]; exact aZ_sF)
theorem JM_sA {H H1 : mzH} {a i : Nat} {v : Int32} (h : a ≠ 2 ∧ a ≠ 3 ∧ a ≠ 7 ∧ a ≠ 8 ∧ a ≠ 9) (e : H1 = sA H a i v) (hJ : JM H) : JM H1 := JM_cg hJ (fun b i hb => by rw [e]; exact aZ_sA_nc (by first | with_reducible assumption | omega))
theorem JN_cg {H H1 : mzH} (hJ : JN H) (h : ∀ a i, (a = 2 ∨ a = 3) → aZ H1 a i = aZ H a i) : JN H1 := ⟨WF_cg (fun i _ => h 2 i (by first | with_reducible assumption | omega)) hJ.1, WF_cg (fun i _ => h 3 i (by first | with_reducible assumption | omega)) hJ.2⟩
theorem JN_sF {H H1 : mzH} {a f : Nat} {v : Int32} (e : H1 = sF H a f v) (hJ : JN H) : JN H1 := JN_cg hJ (fun b i _ => by rw [e]; exact aZ_sF)
theorem JN_sA {H H1 : mzH} {a i : Nat} {v : Int32} (h : a ≠ 2 ∧ a ≠ 3) (e : H1 = sA H a i v) (hJ : JN H) : JN H1 := JN_cg hJ (fun b i hb => by rw [e]; exact aZ_sA_nc (by first | with_reducible assumption | omega))
theorem JM_in {H : mzH} {x v : Int32} (hJ : JM H) (hx : 0 ≤ x.toInt ∧ x.toInt ≤ 39) (e : v = aZ H 9 x.toInt.toNat) : v.toInt = -5 ∨ 0 ≤ v.toInt := by
  have := hJ.2.2 x.toInt.toNat (by first | with_reducible assumption | omega)
  rw [← e] at this
  rcases this with h | h
  · exact .inl h
  · exact .inr h.1
theorem JN_n20 {H : mzH} {v : Int32} (hJ : JN H) (e : v = aZ H 2 0) : 0 ≤ v.toInt ∧ v.toInt ≤ 8 := by rw [e]; exact hJ.1.1
theorem JN_n30 {H : mzH} {v : Int32} (hJ : JN H) (e : v = aZ H 3 0) : 0 ≤ v.toInt ∧ v.toInt ≤ 8 := by rw [e]; exact hJ.2.1
theorem JN_n22 {H : mzH} {v : Int32} (hJ : JN H) (e : v = aZ H 2 2) : 0 ≤ v.toInt ∧ v.toInt ≤ 60 := by rw [e]; exact hJ.1.2.1
theorem JN_n32 {H : mzH} {v : Int32} (hJ : JN H) (e : v = aZ H 3 2) : 0 ≤ v.toInt ∧ v.toInt ≤ 60 := by rw [e]; exact hJ.2.2.1
theorem JN_w1 {H : mzH} {k v : Int32} (hJ : JN H) (hk : 0 ≤ k.toInt ∧ k.toInt ≤ 59) (e : v = aZ H 2 (69 + 5 * k.toInt + 1).toNat) : 0 ≤ v.toInt ∧ v.toInt ≤ 10 := by
  have := hJ.1.2.2 k.toInt.toNat (by first | with_reducible assumption | omega)
  rw [e, show (69 + 5 * k.toInt + 1).toNat = 70 + 5 * k.toInt.toNat by omega]
  exact this.1
theorem JN_w2 {H : mzH} {k v : Int32} (hJ : JN H) (hk : 0 ≤ k.toInt ∧ k.toInt ≤ 59) (e : v = aZ H 2 (69 + 5 * k.toInt + 2).toNat) : 0 ≤ v.toInt ∧ v.toInt ≤ 39 := by
  have := hJ.1.2.2 k.toInt.toNat (by first | with_reducible assumption | omega)
  rw [e, show (69 + 5 * k.toInt + 2).toNat = 71 + 5 * k.toInt.toNat by omega]
  exact this.2.1
theorem JN_w3 {H : mzH} {k w v : Int32} (hJ : JN H) (hk : 0 ≤ k.toInt ∧ k.toInt ≤ 59) (e1 : w = aZ H 2 (69 + 5 * k.toInt + 1).toNat) (e : v = aZ H 2 (69 + 5 * k.toInt + 3).toNat) : ((w.toInt = 0 ∨ w.toInt = 5 ∨ w.toInt = 6 ∨ w.toInt = 8) → (0 ≤ v.toInt ∧ v.toInt ≤ 7)) ∧ (w.toInt = 1 → (0 ≤ v.toInt ∧ v.toInt ≤ 39)) := by
  have := hJ.1.2.2 k.toInt.toNat (by first | with_reducible assumption | omega)
  rw [e, e1, show (69 + 5 * k.toInt + 3).toNat = 72 + 5 * k.toInt.toNat by omega, show (69 + 5 * k.toInt + 1).toNat = 70 + 5 * k.toInt.toNat by omega]
  exact ⟨this.2.2.1, this.2.2.2.1⟩
theorem JN_w4 {H : mzH} {k w v : Int32} (hJ : JN H) (hk : 0 ≤ k.toInt ∧ k.toInt ≤ 59) (e1 : w = aZ H 2 (69 + 5 * k.toInt + 1).toNat) (e : v = aZ H 2 (69 + 5 * k.toInt + 4).toNat) : w.toInt = 0 → (0 ≤ v.toInt ∧ v.toInt ≤ 2) := by
  have := hJ.1.2.2 k.toInt.toNat (by first | with_reducible assumption | omega)
  rw [e, e1, show (69 + 5 * k.toInt + 4).toNat = 73 + 5 * k.toInt.toNat by omega, show (69 + 5 * k.toInt + 1).toNat = 70 + 5 * k.toInt.toNat by omega]
  exact this.2.2.2.2
/-- how far it is to the topmost one -/
def mK (H : mzH) (t : Int32) : Nat := if t.toInt < 0 then 0 else (3 - (aZ H 8 t.toInt.toNat).toInt).toNat
theorem mK_up {H : mzH} {t u : Int32} {N : Nat} (hI : gI SM H) (hJ : JM H) (ht : 0 ≤ t.toInt ∧ t.toInt ≤ 39) (e : u = aZ H 9 t.toInt.toNat) (hm : mK H t < N + 1) : mK H u < N := by
  have h1 := hJ.2.2 t.toInt.toNat (by first | with_reducible assumption | omega)
  have h2 := aZ_of hI sm_8 (i := t.toInt.toNat) (by first | with_reducible assumption | omega)
  have h3 := aZ_of hI sm_9 (i := t.toInt.toNat) (by first | with_reducible assumption | omega)
  rw [← e] at h1 h3
  have e1 : mK H t = (3 - (aZ H 8 t.toInt.toNat).toInt).toNat := by unfold mK; rw [if_neg (by first | with_reducible assumption | omega)]
  rcases h1 with h | h
  · have e2 : mK H u = 0 := by unfold mK; rw [if_pos (by first | with_reducible assumption | omega)]
    omega
  · have h4 := aZ_of hI sm_8 (i := u.toInt.toNat) (by first | with_reducible assumption | omega)
    have e2 : mK H u = (3 - (aZ H 8 u.toInt.toNat).toInt).toNat := by unfold mK; rw [if_neg (by first | with_reducible assumption | omega)]
    omega
/-- what it says of the world that a message isn't refused -/
def RS (H : mzH) (w n o : Int32) : Prop := (w.toInt = 0 → (aZ H 7 n.toInt.toNat).toInt = 0) ∧ (w.toInt = 2 → ¬ (aZ H 9 n.toInt.toNat).toInt = -5) ∧ (w.toInt = 1 → (¬ (aZ H 7 n.toInt.toNat).toInt = 0 ∧ ¬ (aZ H 7 o.toInt.toNat).toInt = 0 ∧ (aZ H 8 o.toInt.toNat).toInt = (aZ H 8 n.toInt.toNat).toInt + 1))
theorem RS_cg {H H1 : mzH} {w n o : Int32} (h7 : ∀ i, aZ H1 7 i = aZ H 7 i) (h8 : ∀ i, aZ H1 8 i = aZ H 8 i) (h9 : ∀ i, aZ H1 9 i = aZ H 9 i) (h : RS H w n o) : RS H1 w n o := by
  unfold RS at *
  rw [h7, h7, h8, h8, h9]
  exact h
theorem JM_out {H H1 : mzH} {n v : Int32} (hI : gI SM H) (hJ : JM H) (hn : 0 ≤ n.toInt ∧ n.toInt ≤ 39) (hv : v.toInt = -5) (e : H1 = sA H 9 n.toInt.toNat v) : JM H1 := by
  refine ⟨WF_cg (fun i _ => by rw [e]; exact aZ_sA_nc (by decide)) hJ.1, WF_cg (fun i _ => by rw [e]; exact aZ_sA_nc (by decide)) hJ.2.1, fun t ht => ?_⟩
  have := hJ.2.2 t ht
  rw [e]
  if h : n.toInt.toNat = t then
    subst h
    rw [aZ_sA_eq hI sm_9 (by first | with_reducible assumption | omega)]
    exact .inl hv
  else
    rw [aZ_sA_ne h, aZ_sA_nc (by decide), aZ_sA_nc (by decide), aZ_sA_nc (by decide), aZ_sA_nc (by decide)]
    exact this
theorem JM_pack {H H1 : mzH} {n o : Int32} (hI : gI SM H) (hJ : JM H) (hn : 0 ≤ n.toInt ∧ n.toInt ≤ 39) (ho : 0 ≤ o.toInt ∧ o.toInt ≤ 39) (hr : ¬ (aZ H 7 n.toInt.toNat).toInt = 0 ∧ ¬ (aZ H 7 o.toInt.toNat).toInt = 0 ∧ (aZ H 8 o.toInt.toNat).toInt = (aZ H 8 n.toInt.toNat).toInt + 1) (e : H1 = sA H 9 n.toInt.toNat o) : JM H1 := by
  refine ⟨WF_cg (fun i _ => by rw [e]; exact aZ_sA_nc (by decide)) hJ.1, WF_cg (fun i _ => by rw [e]; exact aZ_sA_nc (by decide)) hJ.2.1, fun t ht => ?_⟩
  have := hJ.2.2 t ht
  rw [e]
  if h : n.toInt.toNat = t then
    subst h
    rw [aZ_sA_eq hI sm_9 (by first | with_reducible assumption | omega), aZ_sA_nc (by decide), aZ_sA_nc (by decide), aZ_sA_nc (by decide), aZ_sA_nc (by decide)]
    exact .inr ⟨ho.1, hr.2.2, hr.1, hr.2.1⟩
  else
    rw [aZ_sA_ne h, aZ_sA_nc (by decide), aZ_sA_nc (by decide), aZ_sA_nc (by decide), aZ_sA_nc (by decide)]
    exact this
theorem aZ_sA_or {S : List gSp} {H : mzH} {a d n i g : Nat} {lo hi : Int} {v : Int32} (hI : gI S H) (hs : S[a]? = some (.inl (d, n, lo, hi))) (hi2 : i < n) : (i = g ∧ aZ (sA H a i v) a g = v) ∨ (i ≠ g ∧ aZ (sA H a i v) a g = aZ H a g) := by
  if h : i = g then exact .inl ⟨h, by subst h; exact aZ_sA_eq hI hs hi2⟩ else exact .inr ⟨h, aZ_sA_ne h⟩
theorem JM_mk1 {H H1 : mzH} {n v : Int32} (hI : gI SM H) (hJ : JM H) (hn : 0 ≤ n.toInt ∧ n.toInt ≤ 39 ∧ v.toInt = 1) (e : H1 = sA H 7 n.toInt.toNat v) : JM H1 := by
  refine ⟨WF_cg (fun i _ => by rw [e]; exact aZ_sA_nc (by decide)) hJ.1, WF_cg (fun i _ => by rw [e]; exact aZ_sA_nc (by decide)) hJ.2.1, fun t ht => ?_⟩
  have h := hJ.2.2 t ht
  have q : ∀ g, ¬ (aZ H 7 g).toInt = 0 → ¬ (aZ H1 7 g).toInt = 0 := fun g hg => by
    rw [e]
    rcases aZ_sA_or (g := g) (v := v) hI sm_7 (show n.toInt.toNat < 40 by omega) with ⟨_, h2⟩ | ⟨_, h2⟩
    · rw [h2]; omega
    · rw [h2]; exact hg
  have e9 : ∀ i, aZ H1 9 i = aZ H 9 i := fun i => by rw [e]; exact aZ_sA_nc (by decide)
  have e8 : ∀ i, aZ H1 8 i = aZ H 8 i := fun i => by rw [e]; exact aZ_sA_nc (by decide)
  rw [e9, e8, e8]
  rcases h with h | h
  · exact .inl h
  · exact .inr ⟨h.1, h.2.1, q _ h.2.2.1, q _ h.2.2.2⟩
theorem JM_mk2 {H H1 H2 : mzH} {n v d : Int32} (hI : gI SM H) (hI1 : gI SM H1) (hJ : JM H) (hn : 0 ≤ n.toInt ∧ n.toInt ≤ 39) (hm : (aZ H 7 n.toInt.toNat).toInt = 0) (hv : v.toInt = 1) (e1 : H1 = sA H 7 n.toInt.toNat v) (e2 : H2 = sA H1 8 n.toInt.toNat d) : JM H2 := by
  refine ⟨WF_cg (fun i _ => by rw [e2, aZ_sA_nc (by decide), e1]; exact aZ_sA_nc (by decide)) hJ.1, WF_cg (fun i _ => by rw [e2, aZ_sA_nc (by decide), e1]; exact aZ_sA_nc (by decide)) hJ.2.1, fun t ht => ?_⟩
  have h := hJ.2.2 t ht
  have e9 : ∀ i, aZ H2 9 i = aZ H 9 i := fun i => by rw [e2, aZ_sA_nc (by decide), e1]; exact aZ_sA_nc (by decide)
  have q : ∀ g, ¬ (aZ H 7 g).toInt = 0 → aZ H2 8 g = aZ H 8 g ∧ aZ H2 7 g = aZ H 7 g := fun g hg => by
    have hne : n.toInt.toNat ≠ g := fun h => hg (h ▸ hm)
    rw [e2, aZ_sA_ne hne, aZ_sA_nc (by decide), e1, aZ_sA_nc (by decide), aZ_sA_ne hne]
    exact ⟨rfl, rfl⟩
  rw [e9]
  rcases h with h | h
  · exact .inl h
  · rw [(q _ h.2.2.1).1, (q _ h.2.2.1).2, (q _ h.2.2.2).1, (q _ h.2.2.2).2]
    exact .inr h
theorem JN_s3 {H H1 : mzH} {x v : Int32} (hI : gI SM H) (hJ : JN H) (hi : 0 ≤ x.toInt ∧ x.toInt < 69) (h0 : x.toInt = 0 → (0 ≤ v.toInt ∧ v.toInt ≤ 8)) (h2 : x.toInt = 2 → (0 ≤ v.toInt ∧ v.toInt ≤ 60)) (e : H1 = sA H 3 x.toInt.toNat v) : JN H1 := by
  refine ⟨WF_cg (fun i _ => by rw [e]; exact aZ_sA_nc (by decide)) hJ.1, ⟨?_, ?_, fun k hk => ?_⟩⟩
  · rw [e]
    rcases aZ_sA_or (g := 0) (v := v) hI sm_3 (show x.toInt.toNat < 369 by omega) with ⟨h, h3⟩ | ⟨h, h3⟩
    · rw [h3]; exact h0 (by first | with_reducible assumption | omega)
    · rw [h3]; exact hJ.2.1
  · rw [e]
    rcases aZ_sA_or (g := 2) (v := v) hI sm_3 (show x.toInt.toNat < 369 by omega) with ⟨h, h3⟩ | ⟨h, h3⟩
    · rw [h3]; exact h2 (by first | with_reducible assumption | omega)
    · rw [h3]; exact hJ.2.2.1
  · have := hJ.2.2.2 k hk
    unfold WR at *
    rw [e, aZ_sA_ne (by first | with_reducible assumption | omega), aZ_sA_ne (by first | with_reducible assumption | omega), aZ_sA_ne (by first | with_reducible assumption | omega), aZ_sA_ne (by first | with_reducible assumption | omega)]
    exact this
theorem JN_row {H0 H1 H2 H3 H4 H5 : mzH} {x0 x1 x2 x3 x4 h w f s d : Int32} (hJ : JN H0) (hI0 : gI SM H0) (hI1 : gI SM H1) (hI2 : gI SM H2) (hI3 : gI SM H3) (hI4 : gI SM H4) (hx : 69 ≤ x0.toInt ∧ x0.toInt ≤ 364 ∧ (x0.toInt - 69) % 5 = 0) (hx1 : x1.toInt = x0.toInt + 1) (hx2 : x2.toInt = x0.toInt + 2) (hx3 : x3.toInt = x0.toInt + 3) (hx4 : x4.toInt = x0.toInt + 4) (hw : 0 ≤ w.toInt ∧ w.toInt ≤ 10) (hf : 0 ≤ f.toInt ∧ f.toInt ≤ 39) (hs : ((w.toInt = 0 ∨ w.toInt = 5 ∨ w.toInt = 6 ∨ w.toInt = 8) → (0 ≤ s.toInt ∧ s.toInt ≤ 7)) ∧ (w.toInt = 1 → (0 ≤ s.toInt ∧ s.toInt ≤ 39))) (hd : w.toInt = 0 → (0 ≤ d.toInt ∧ d.toInt ≤ 2)) (e1 : H1 = sA H0 3 x0.toInt.toNat h) (e2 : H2 = sA H1 3 x1.toInt.toNat w) (e3 : H3 = sA H2 3 x2.toInt.toNat f) (e4 : H4 = sA H3 3 x3.toInt.toNat s) (e5 : H5 = sA H4 3 x4.toInt.toNat d) : JN H5 := by
  have nc : ∀ a i, a ≠ 3 → aZ H5 a i = aZ H0 a i := fun a i ha => by rw [e5, aZ_sA_nc (Ne.symm ha), e4, aZ_sA_nc (Ne.symm ha), e3, aZ_sA_nc (Ne.symm ha), e2, aZ_sA_nc (Ne.symm ha), e1, aZ_sA_nc (Ne.symm ha)]
  have ne : ∀ i : Nat, ((i : Int) < x0.toInt ∨ x0.toInt + 4 < i) → aZ H5 3 i = aZ H0 3 i := fun i hi => by rw [e5, aZ_sA_ne (by first | with_reducible assumption | omega), e4, aZ_sA_ne (by first | with_reducible assumption | omega), e3, aZ_sA_ne (by first | with_reducible assumption | omega), e2, aZ_sA_ne (by first | with_reducible assumption | omega), e1, aZ_sA_ne (by first | with_reducible assumption | omega)]
  refine ⟨WF_cg (fun i _ => nc 2 i (by decide)) hJ.1, ⟨by rw [ne 0 (by first | with_reducible assumption | omega)]; exact hJ.2.1, by rw [ne 2 (by first | with_reducible assumption | omega)]; exact hJ.2.2.1, fun k hk => ?_⟩⟩
  have := hJ.2.2.2 k hk
  unfold WR at *
  if hk2 : x0.toInt = 69 + 5 * (k : Int) then
    have v1 : aZ H5 3 (70 + 5 * k) = w := by
      rw [e5, aZ_sA_ne (by first | with_reducible assumption | omega), e4, aZ_sA_ne (by first | with_reducible assumption | omega), e3, aZ_sA_ne (by first | with_reducible assumption | omega), e2, show 70 + 5 * k = x1.toInt.toNat by omega]; exact aZ_sA_eq hI1 sm_3 (by first | with_reducible assumption | omega)
    have v2 : aZ H5 3 (71 + 5 * k) = f := by
      rw [e5, aZ_sA_ne (by first | with_reducible assumption | omega), e4, aZ_sA_ne (by first | with_reducible assumption | omega), e3, show 71 + 5 * k = x2.toInt.toNat by omega]; exact aZ_sA_eq hI2 sm_3 (by first | with_reducible assumption | omega)
    have v3 : aZ H5 3 (72 + 5 * k) = s := by
      rw [e5, aZ_sA_ne (by first | with_reducible assumption | omega), e4, show 72 + 5 * k = x3.toInt.toNat by omega]; exact aZ_sA_eq hI3 sm_3 (by first | with_reducible assumption | omega)
    have v4 : aZ H5 3 (73 + 5 * k) = d := by
      rw [e5, show 73 + 5 * k = x4.toInt.toNat by omega]; exact aZ_sA_eq hI4 sm_3 (by first | with_reducible assumption | omega)
    rw [v1, v2, v3, v4]
    exact ⟨hw, hf, hs.1, hs.2, hd⟩
  else
    rw [ne (70 + 5 * k) (by first | with_reducible assumption | omega), ne (71 + 5 * k) (by first | with_reducible assumption | omega), ne (72 + 5 * k) (by first | with_reducible assumption | omega), ne (73 + 5 * k) (by first | with_reducible assumption | omega)]
    exact this
theorem JN_cp2 {H H1 : mzH} (hJ : JN H) (h : ∀ i, i < 369 → aZ H1 2 i = aZ H 3 i) (h3 : ∀ i, aZ H1 3 i = aZ H 3 i) : JN H1 := ⟨WF_cg h hJ.2, WF_cg (fun i _ => h3 i) hJ.2⟩
theorem JN_cp3 {H H1 : mzH} (hJ : JN H) (h : ∀ i, i < 369 → aZ H1 3 i = aZ H 2 i) (h3 : ∀ i, aZ H1 2 i = aZ H 2 i) : JN H1 := ⟨WF_cg (fun i _ => h3 i) hJ.1, WF_cg h hJ.1⟩
theorem JN_zr3 {H H1 : mzH} (hJ : JN H) (h : ∀ i, i < 369 → (aZ H1 3 i).toInt = 0) (h3 : ∀ i, aZ H1 2 i = aZ H 2 i) : JN H1 := by
  refine ⟨WF_cg (fun i _ => h3 i) hJ.1, ⟨by rw [h 0 (by decide)]; decide, by rw [h 2 (by decide)]; decide, fun k hk => ?_⟩⟩
  unfold WR
  rw [h (70 + 5 * k) (by first | with_reducible assumption | omega), h (71 + 5 * k) (by first | with_reducible assumption | omega), h (72 + 5 * k) (by first | with_reducible assumption | omega), h (73 + 5 * k) (by first | with_reducible assumption | omega)]
  decide
theorem JM_clr {H H1 : mzH} (hJ : JN H) (h : ∀ q, q < 40 → (aZ H1 9 q).toInt = -5) (h2 : ∀ i, aZ H1 2 i = aZ H 2 i) (h3 : ∀ i, aZ H1 3 i = aZ H 3 i) : JM H1 := ⟨WF_cg (fun i _ => h2 i) hJ.1, WF_cg (fun i _ => h3 i) hJ.2, fun t ht => .inl (h t ht)⟩
/-- the order holds all that are looked at; and so but for one place -/
def pmA (H : mzH) (k n : Int) : Prop := ∀ q : Nat, (q : Int) < k → ¬ (aZ H 17 q).toInt = 0 → ∃ p : Nat, (p : Int) < n ∧ (aZ H 19 p).toInt = q
def pmB (H : mzH) (k n h : Int) : Prop := ∀ q : Nat, (q : Int) < k → ¬ (aZ H 17 q).toInt = 0 → ∃ p : Nat, (p : Int) ≤ n ∧ ¬ (p : Int) = h ∧ (aZ H 19 p).toInt = q
theorem pmA_cg {H H1 : mzH} {k n : Int} (h17 : ∀ i, aZ H1 17 i = aZ H 17 i) (h19 : ∀ i, aZ H1 19 i = aZ H 19 i) (h : pmA H k n) : pmA H1 k n := fun q hq hz => by
  rw [h17] at hz
  obtain ⟨p, h1, h2⟩ := h q hq hz
  exact ⟨p, h1, by rw [h19]; exact h2⟩
theorem pmA_le {H : mzH} {k n k' n' : Int} (h : pmA H k n) (hk : k' ≤ k) (hn : n ≤ n') : pmA H k' n' := fun q hq hz => by
  obtain ⟨p, h1, h2⟩ := h q (by first | with_reducible assumption | omega) hz
  exact ⟨p, by omega, h2⟩
theorem pmA_0 {H : mzH} {k n : Int} (h : k ≤ 0) : pmA H k n := fun q hq _ => absurd hq (by first | with_reducible assumption | omega)
theorem pmB_0 {H : mzH} {k n : Int} (h : pmA H k n) : pmB H k n n := fun q hq hz => by
  obtain ⟨p, h1, h2⟩ := h q hq hz
  exact ⟨p, by omega, by omega, h2⟩
theorem pmB_sh {H H1 : mzH} {k n h' : Int} {h x u : Int32} (hI : gI SM H) (hh : 1 ≤ h.toInt ∧ h.toInt ≤ n ∧ h.toInt ≤ 59) (hx : x.toInt = h.toInt - 1) (eu : u = aZ H 19 x.toInt.toNat) (e : H1 = sA H 19 h.toInt.toNat u) (hb : pmB H k n h.toInt) (hh' : h' = h.toInt - 1) : pmB H1 k n h' := fun q hq hz => by
  rw [e, aZ_sA_nc (by decide)] at hz
  obtain ⟨p, h1, h2, h3⟩ := hb q hq hz
  if hp : (p : Int) = h.toInt - 1 then
    refine ⟨h.toInt.toNat, by omega, by omega, ?_⟩
    rw [e, aZ_sA_eq hI sm_19 (by first | with_reducible assumption | omega), eu, show x.toInt.toNat = p by omega]
    exact h3
  else
    refine ⟨p, h1, by omega, ?_⟩
    rw [e, aZ_sA_ne (by first | with_reducible assumption | omega)]
    exact h3
theorem pmA_st {H H1 H2 : mzH} {k n k' n' : Int} {h kk : Int32} (hI : gI SM H) (hh : 0 ≤ h.toInt ∧ h.toInt ≤ n ∧ h.toInt ≤ 59) (hkk : kk.toInt = k) (e : H1 = sA H 19 h.toInt.toNat kk) (h2 : ∀ a i, aZ H2 a i = aZ H1 a i) (hb : pmB H k n h.toInt) (hk' : k' = k + 1) (hn' : n' = n + 1) : pmA H2 k' n' := fun q hq hz => by
  rw [h2, e, aZ_sA_nc (by decide)] at hz
  if hq2 : (q : Int) = k then
    refine ⟨h.toInt.toNat, by omega, ?_⟩
    rw [h2, e, aZ_sA_eq hI sm_19 (by first | with_reducible assumption | omega)]
    omega
  else
    obtain ⟨p, h3, h4, h5⟩ := hb q (by first | with_reducible assumption | omega) hz
    refine ⟨p, by omega, ?_⟩
    rw [h2, e, aZ_sA_ne (by first | with_reducible assumption | omega)]
    exact h5
theorem pmA_skip {H : mzH} {k n k' : Int} (h : pmA H k n) (hk0 : 0 ≤ k) (hk : k' = k + 1) (hz0 : (aZ H 17 k.toNat).toInt = 0) : pmA H k' n := fun q hq hz => by
  if hq2 : (q : Int) = k then
    rw [show k.toNat = q by omega] at hz0
    exact absurd hz0 hz
  else exact h q (by first | with_reducible assumption | omega) hz
/-- how much of the text is left to be read -/
def mR (H : mzH) : Nat := if (fZ H 0 13).toInt = 0 ∧ ¬ (fZ H 0 10).toInt = 3 then (901 - (fZ H 0 8).toInt).toNat else 0
theorem JM_row2 {H0 H1 H2 H3 H4 H5 : mzH} {x0 x1 x2 x3 x4 h w f s d : Int32} (hx : 69 ≤ x0.toInt ∧ x0.toInt ≤ 364) (hx1 : x1.toInt = x0.toInt + 1) (hx2 : x2.toInt = x0.toInt + 2) (hx3 : x3.toInt = x0.toInt + 3) (hx4 : x4.toInt = x0.toInt + 4) (e1 : H1 = sA H0 3 x0.toInt.toNat h) (e2 : H2 = sA H1 3 x1.toInt.toNat w) (e3 : H3 = sA H2 3 x2.toInt.toNat f) (e4 : H4 = sA H3 3 x3.toInt.toNat s) (e5 : H5 = sA H4 3 x4.toInt.toNat d) : aZ H5 3 2 = aZ H0 3 2 := by
  rw [e5, aZ_sA_ne (by first | with_reducible assumption | omega), e4, aZ_sA_ne (by first | with_reducible assumption | omega), e3, aZ_sA_ne (by first | with_reducible assumption | omega), e2, aZ_sA_ne (by first | with_reducible assumption | omega), e1, aZ_sA_ne (by first | with_reducible assumption | omega)]
/-- the tape, the world, the names and the ways are as they were; so are taped, lastFault, lastPlace, hadFits -/
def kpM (H B : mzH) : Prop := (∀ c, (c = 1 ∨ c = 2 ∨ c = 5 ∨ c = 6) → ∀ i, aZ B c i = aZ H c i) ∧ (∀ f, (f = 2 ∨ f = 15 ∨ f = 16 ∨ f = 18) → fZ B 0 f = fZ H 0 f)
theorem kpM_r {H : mzH} : kpM H H := ⟨fun _ _ _ => rfl, fun _ _ => rfl⟩
theorem kpM_t {H B B1 : mzH} (h : kpM H B) (g : kpM B B1) : kpM H B1 := ⟨fun c hc i => (g.1 c hc i).trans (h.1 c hc i), fun f hf => (g.2 f hf).trans (h.2 f hf)⟩
theorem kpM_F {H B B1 : mzH} {a f : Nat} {v : Int32} (m : kpM H B) (e : B1 = sF B a f v) (h : a ≠ 0 ∨ (f ≠ 2 ∧ f ≠ 15 ∧ f ≠ 16 ∧ f ≠ 18)) : kpM H B1 := kpM_t m ⟨fun c hc i => by rw [e, aZ_sF], fun g hg => by
  if q : a = 0 then
    subst q
    rw [e, fZ_sF_ne (by first | with_reducible assumption | omega)]
  else rw [e, fZ_sF_nc q]⟩
theorem kpM_A {H B B1 : mzH} {a f : Nat} {v : Int32} (m : kpM H B) (e : B1 = sA B a f v) (h : ¬ (a = 1 ∨ a = 2 ∨ a = 5 ∨ a = 6)) : kpM H B1 := kpM_t m ⟨fun c hc i => by rw [e, aZ_sA_nc (by first | with_reducible assumption | omega)], fun g _ => by rw [e, fZ_sA]⟩

