/-! THE REFERENCE'S WORLDS THAT CHANGE -/
theorem rw_8 {H B : mzH} {s : pS} {md : Nat → Int} {i v : Int32} (hI : gI SM H) (h : rwX H s md) (e : B = sA H 8 i.toInt.toNat v) (hi : 0 ≤ i.toInt ∧ i.toInt < 40) : rwX B (sKd s i.toInt.toNat v.toInt) md := fun n hn => by
  have hh := h n hn
  have hk : ∀ q, q ≠ 8 → aZ B q n = aZ H q n := fun q hq => by rw [e, aZ_sA_nc (Ne.symm hq)]
  rw [hk 7 (by decide), hk 9 (by decide), hk 10 (by decide), hk 11 (by decide), hk 12 (by decide), hk 13 (by decide), hk 14 (by decide), hk 15 (by decide), hk 16 (by decide), e, aZ_if hI sm_8 (by first | with_reducible assumption | omega) rfl]
  refine ⟨hh.1, ?_, hh.2.2.1, hh.2.2.2.1, hh.2.2.2.2.1, hh.2.2.2.2.2.1, hh.2.2.2.2.2.2.1, hh.2.2.2.2.2.2.2.1, hh.2.2.2.2.2.2.2.2.1, hh.2.2.2.2.2.2.2.2.2⟩
  show _ = if n = i.toInt.toNat then v.toInt else s.kd n
  split
  · rfl
  · exact hh.2.1
theorem rw_9 {H B : mzH} {s : pS} {md : Nat → Int} {i v : Int32} (hI : gI SM H) (h : rwX H s md) (e : B = sA H 9 i.toInt.toNat v) (hi : 0 ≤ i.toInt ∧ i.toInt < 40) : rwX B (sII s i.toInt.toNat v.toInt) md := fun n hn => by
  have hh := h n hn
  have hk : ∀ q, q ≠ 9 → aZ B q n = aZ H q n := fun q hq => by rw [e, aZ_sA_nc (Ne.symm hq)]
  rw [hk 7 (by decide), hk 8 (by decide), hk 10 (by decide), hk 11 (by decide), hk 12 (by decide), hk 13 (by decide), hk 14 (by decide), hk 15 (by decide), hk 16 (by decide), e, aZ_if hI sm_9 (by first | with_reducible assumption | omega) rfl]
  refine ⟨hh.1, hh.2.1, ?_, hh.2.2.2.1, hh.2.2.2.2.1, hh.2.2.2.2.2.1, hh.2.2.2.2.2.2.1, hh.2.2.2.2.2.2.2.1, hh.2.2.2.2.2.2.2.2.1, hh.2.2.2.2.2.2.2.2.2⟩
  show _ = if n = i.toInt.toNat then v.toInt else s.ii n
  split
  · rfl
  · exact hh.2.2.1
theorem rw_10 {H B : mzH} {s : pS} {md : Nat → Int} {i v : Int32} (hI : gI SM H) (h : rwX H s md) (e : B = sA H 10 i.toInt.toNat v) (hi : 0 ≤ i.toInt ∧ i.toInt < 40) : rwX B (sPl s i.toInt.toNat v.toInt) md := fun n hn => by
  have hh := h n hn
  have hk : ∀ q, q ≠ 10 → aZ B q n = aZ H q n := fun q hq => by rw [e, aZ_sA_nc (Ne.symm hq)]
  rw [hk 7 (by decide), hk 8 (by decide), hk 9 (by decide), hk 11 (by decide), hk 12 (by decide), hk 13 (by decide), hk 14 (by decide), hk 15 (by decide), hk 16 (by decide), e, aZ_if hI sm_10 (by first | with_reducible assumption | omega) rfl]
  refine ⟨hh.1, hh.2.1, hh.2.2.1, ?_, hh.2.2.2.2.1, hh.2.2.2.2.2.1, hh.2.2.2.2.2.2.1, hh.2.2.2.2.2.2.2.1, hh.2.2.2.2.2.2.2.2.1, hh.2.2.2.2.2.2.2.2.2⟩
  show _ = if n = i.toInt.toNat then v.toInt else s.pl n
  split
  · rfl
  · exact hh.2.2.2.1
theorem rw_11 {H B : mzH} {s : pS} {md : Nat → Int} {i v : Int32} (hI : gI SM H) (h : rwX H s md) (e : B = sA H 11 i.toInt.toNat v) (hi : 0 ≤ i.toInt ∧ i.toInt < 40) : rwX B (sLa s i.toInt.toNat v.toInt) md := fun n hn => by
  have hh := h n hn
  have hk : ∀ q, q ≠ 11 → aZ B q n = aZ H q n := fun q hq => by rw [e, aZ_sA_nc (Ne.symm hq)]
  rw [hk 7 (by decide), hk 8 (by decide), hk 9 (by decide), hk 10 (by decide), hk 12 (by decide), hk 13 (by decide), hk 14 (by decide), hk 15 (by decide), hk 16 (by decide), e, aZ_if hI sm_11 (by first | with_reducible assumption | omega) rfl]
  refine ⟨hh.1, hh.2.1, hh.2.2.1, hh.2.2.2.1, ?_, hh.2.2.2.2.2.1, hh.2.2.2.2.2.2.1, hh.2.2.2.2.2.2.2.1, hh.2.2.2.2.2.2.2.2.1, hh.2.2.2.2.2.2.2.2.2⟩
  show _ = if n = i.toInt.toNat then v.toInt else s.la n
  split
  · rfl
  · exact hh.2.2.2.2.1
theorem rw_12 {H B : mzH} {s : pS} {md : Nat → Int} {i v : Int32} (hI : gI SM H) (h : rwX H s md) (e : B = sA H 12 i.toInt.toNat v) (hi : 0 ≤ i.toInt ∧ i.toInt < 40) : rwX B (sSe s i.toInt.toNat v.toInt) md := fun n hn => by
  have hh := h n hn
  have hk : ∀ q, q ≠ 12 → aZ B q n = aZ H q n := fun q hq => by rw [e, aZ_sA_nc (Ne.symm hq)]
  rw [hk 7 (by decide), hk 8 (by decide), hk 9 (by decide), hk 10 (by decide), hk 11 (by decide), hk 13 (by decide), hk 14 (by decide), hk 15 (by decide), hk 16 (by decide), e, aZ_if hI sm_12 (by first | with_reducible assumption | omega) rfl]
  refine ⟨hh.1, hh.2.1, hh.2.2.1, hh.2.2.2.1, hh.2.2.2.2.1, ?_, hh.2.2.2.2.2.2.1, hh.2.2.2.2.2.2.2.1, hh.2.2.2.2.2.2.2.2.1, hh.2.2.2.2.2.2.2.2.2⟩
  show _ = if n = i.toInt.toNat then v.toInt else s.se n
  split
  · rfl
  · exact hh.2.2.2.2.2.1
theorem rw_13 {H B : mzH} {s : pS} {md : Nat → Int} {i v : Int32} (hI : gI SM H) (h : rwX H s md) (e : B = sA H 13 i.toInt.toNat v) (hi : 0 ≤ i.toInt ∧ i.toInt < 40) : rwX B (sOp s i.toInt.toNat v.toInt) md := fun n hn => by
  have hh := h n hn
  have hk : ∀ q, q ≠ 13 → aZ B q n = aZ H q n := fun q hq => by rw [e, aZ_sA_nc (Ne.symm hq)]
  rw [hk 7 (by decide), hk 8 (by decide), hk 9 (by decide), hk 10 (by decide), hk 11 (by decide), hk 12 (by decide), hk 14 (by decide), hk 15 (by decide), hk 16 (by decide), e, aZ_if hI sm_13 (by first | with_reducible assumption | omega) rfl]
  refine ⟨hh.1, hh.2.1, hh.2.2.1, hh.2.2.2.1, hh.2.2.2.2.1, hh.2.2.2.2.2.1, ?_, hh.2.2.2.2.2.2.2.1, hh.2.2.2.2.2.2.2.2.1, hh.2.2.2.2.2.2.2.2.2⟩
  show _ = if n = i.toInt.toNat then v.toInt else s.op n
  split
  · rfl
  · exact hh.2.2.2.2.2.2.1
theorem rw_14 {H B : mzH} {s : pS} {md : Nat → Int} {i v : Int32} (hI : gI SM H) (h : rwX H s md) (e : B = sA H 14 i.toInt.toNat v) (hi : 0 ≤ i.toInt ∧ i.toInt < 40) : rwX B (sHe s i.toInt.toNat v.toInt) md := fun n hn => by
  have hh := h n hn
  have hk : ∀ q, q ≠ 14 → aZ B q n = aZ H q n := fun q hq => by rw [e, aZ_sA_nc (Ne.symm hq)]
  rw [hk 7 (by decide), hk 8 (by decide), hk 9 (by decide), hk 10 (by decide), hk 11 (by decide), hk 12 (by decide), hk 13 (by decide), hk 15 (by decide), hk 16 (by decide), e, aZ_if hI sm_14 (by first | with_reducible assumption | omega) rfl]
  refine ⟨hh.1, hh.2.1, hh.2.2.1, hh.2.2.2.1, hh.2.2.2.2.1, hh.2.2.2.2.2.1, hh.2.2.2.2.2.2.1, ?_, hh.2.2.2.2.2.2.2.2.1, hh.2.2.2.2.2.2.2.2.2⟩
  show _ = if n = i.toInt.toNat then v.toInt else s.he n
  split
  · rfl
  · exact hh.2.2.2.2.2.2.2.1
theorem rw_15 {H B : mzH} {s : pS} {md : Nat → Int} {i v : Int32} (hI : gI SM H) (h : rwX H s md) (e : B = sA H 15 i.toInt.toNat v) (hi : 0 ≤ i.toInt ∧ i.toInt < 40) : rwX B (sSo s i.toInt.toNat v.toInt) md := fun n hn => by
  have hh := h n hn
  have hk : ∀ q, q ≠ 15 → aZ B q n = aZ H q n := fun q hq => by rw [e, aZ_sA_nc (Ne.symm hq)]
  rw [hk 7 (by decide), hk 8 (by decide), hk 9 (by decide), hk 10 (by decide), hk 11 (by decide), hk 12 (by decide), hk 13 (by decide), hk 14 (by decide), hk 16 (by decide), e, aZ_if hI sm_15 (by first | with_reducible assumption | omega) rfl]
  refine ⟨hh.1, hh.2.1, hh.2.2.1, hh.2.2.2.1, hh.2.2.2.2.1, hh.2.2.2.2.2.1, hh.2.2.2.2.2.2.1, hh.2.2.2.2.2.2.2.1, ?_, hh.2.2.2.2.2.2.2.2.2⟩
  show _ = if n = i.toInt.toNat then v.toInt else s.so n
  split
  · rfl
  · exact hh.2.2.2.2.2.2.2.2.1
theorem rw_16 {H B : mzH} {s : pS} {md : Nat → Int} {i v : Int32} (hI : gI SM H) (h : rwX H s md) (e : B = sA H 16 i.toInt.toNat v) (hi : 0 ≤ i.toInt ∧ i.toInt < 40) : rwX B (sEn s i.toInt.toNat v.toInt) md := fun n hn => by
  have hh := h n hn
  have hk : ∀ q, q ≠ 16 → aZ B q n = aZ H q n := fun q hq => by rw [e, aZ_sA_nc (Ne.symm hq)]
  rw [hk 7 (by decide), hk 8 (by decide), hk 9 (by decide), hk 10 (by decide), hk 11 (by decide), hk 12 (by decide), hk 13 (by decide), hk 14 (by decide), hk 15 (by decide), e, aZ_if hI sm_16 (by first | with_reducible assumption | omega) rfl]
  refine ⟨hh.1, hh.2.1, hh.2.2.1, hh.2.2.2.1, hh.2.2.2.2.1, hh.2.2.2.2.2.1, hh.2.2.2.2.2.2.1, hh.2.2.2.2.2.2.2.1, hh.2.2.2.2.2.2.2.2.1, ?_⟩
  show _ = if n = i.toInt.toNat then v.toInt else s.en n
  split
  · rfl
  · exact hh.2.2.2.2.2.2.2.2.2
theorem rw_7 {H B : mzH} {s : pS} {md : Nat → Int} {i v : Int32} (hI : gI SM H) (h : rwX H s md) (e : B = sA H 7 i.toInt.toNat v) (hi : 0 ≤ i.toInt ∧ i.toInt < 40) : rwX B s (upi md i.toInt.toNat v.toInt) := fun n hn => by
  have hh := h n hn
  have hk : ∀ q, q ≠ 7 → aZ B q n = aZ H q n := fun q hq => by rw [e, aZ_sA_nc (Ne.symm hq)]
  rw [hk 8 (by decide), hk 9 (by decide), hk 10 (by decide), hk 11 (by decide), hk 12 (by decide), hk 13 (by decide), hk 14 (by decide), hk 15 (by decide), hk 16 (by decide), e, aZ_if hI sm_7 (by first | with_reducible assumption | omega) rfl]
  refine ⟨?_, hh.2⟩
  show _ = if n = i.toInt.toNat then v.toInt else md n
  split
  · rfl
  · exact hh.1
theorem rw_o {H B : mzH} {s : pS} {md : Nat → Int} {c i : Nat} {v : Int32} (h : rwX H s md) (e : B = sA H c i v) (hc : c < 7 ∨ 16 < c) : rwX B s md := fun n hn => by
  have hk : ∀ q, (7 ≤ q ∧ q ≤ 16) → aZ B q n = aZ H q n := fun q hq => by rw [e, aZ_sA_nc (by first | with_reducible assumption | omega)]
  rw [hk 7 (by decide), hk 8 (by decide), hk 9 (by decide), hk 10 (by decide), hk 11 (by decide), hk 12 (by decide), hk 13 (by decide), hk 14 (by decide), hk 15 (by decide), hk 16 (by decide)]
  exact h n hn
def lie (s : pS) (n : Nat) (p h : Int) : pS := sLa (sPl s n p) n h
def cou (s : pS) (n : Nat) (p h : Int) : pS := lie (sII (sOp s (s.ii n).toNat 1) n (-5)) n p h
theorem loo_e {s : pS} {t : Nat} (h : s.ii t = -5 ∨ ¬ s.op (s.ii t).toNat = 0 ∧ s.op (s.ii t).toNat = 1) : loo s t = t := by
  unfold loo
  rw [if_pos (by first | with_reducible assumption | omega)]
theorem loo_st {s : pS} {t : Nat} (hd : dpt s) (ht : t < 40) (h : ¬ s.ii t = -5) (ho : s.op (s.ii t).toNat = 0) : loo s (s.ii t).toNat = loo s t := by
  have k := hd t ht
  unfold loo
  have h1 : ¬ (s.ii t < 0 ∨ s.op (s.ii t).toNat = 1) := by omega
  rw [if_neg h1]
  rcases k with k | ⟨k1, k2, k3 | ⟨k3, k4, k5⟩⟩
  · omega
  · have c : s.ii (s.ii t).toNat < 0 ∨ s.op (s.ii (s.ii t).toNat).toNat = 1 := by omega
    rw [if_pos c, if_pos c]
  · if q : s.ii (s.ii t).toNat < 0 ∨ s.op (s.ii (s.ii t).toNat).toNat = 1 then rw [if_pos q, if_pos q]
    else rw [if_neg q, if_pos (show s.ii (s.ii (s.ii t).toNat).toNat < 0 ∨ s.op (s.ii (s.ii (s.ii t).toNat).toNat).toNat = 1 by omega), if_neg q]
def scn (s : pS) (n : Nat) (p h : Int) : pS := if (sSe s n h).pl (tp (sSe s n h) n) = p then sLa (sSe s n h) (tp (sSe s n h) n) h else if ¬ (sSe s n h).ii (loo (sSe s n h) n) = -5 then cou (sSe s n h) (loo (sSe s n h) n) p h else lie (sSe s n h) (tp (sSe s n h) n) p h
theorem scn_1 {s : pS} {n : Nat} {p h : Int} (c : (sSe s n h).pl (tp (sSe s n h) n) = p) : scn s n p h = sLa (sSe s n h) (tp (sSe s n h) n) h := by unfold scn; rw [if_pos c]
theorem scn_2 {s : pS} {n : Nat} {p h : Int} (c : ¬ (sSe s n h).pl (tp (sSe s n h) n) = p) (d : ¬ (sSe s n h).ii (loo (sSe s n h) n) = -5) : scn s n p h = cou (sSe s n h) (loo (sSe s n h) n) p h := by unfold scn; rw [if_neg c, if_pos d]
theorem scn_3 {s : pS} {n : Nat} {p h : Int} (c : ¬ (sSe s n h).pl (tp (sSe s n h) n) = p) (d : (sSe s n h).ii (loo (sSe s n h) n) = -5) : scn s n p h = lie (sSe s n h) (tp (sSe s n h) n) p h := by unfold scn; rw [if_neg c, if_neg (fun z => z d)]
def gos (s : pS) (n : Int) (x : Nat) : Int := if (x : Int) = n ∨ inn s x n = 1 then 1 else 0
theorem gos_y {s : pS} {n : Int} {x : Nat} (h : (x : Int) = n ∨ inn s x n = 1) : gos s n x = 1 := by unfold gos; rw [if_pos h]
theorem gos_n {s : pS} {n : Int} {x : Nat} (h : ¬ ((x : Int) = n ∨ inn s x n = 1)) : gos s n x = 0 := by unfold gos; rw [if_neg h]
def opM (s : pS) (n : Nat) : pS := if s.ii n = -5 then s else sOp s (s.ii n).toNat 1
theorem om_0 {H : mzH} {s : pS} {md : Nat → Int} {n : Nat} (h : s.ii n = -5) (k : rwX H s md) : rwX H (opM s n) md := by unfold opM; rw [if_pos h]; exact k
theorem om_1 {H : mzH} {s : pS} {md : Nat → Int} {n : Nat} {i v : Int} (h : ¬ s.ii n = -5) (hi : i = s.ii n) (hv : v = 1) (k : rwX H (sOp s i.toNat v) md) : rwX H (opM s n) md := by
  unfold opM
  rw [if_neg h, ← hi, ← hv]
  exact k
/-- those that go, below k, are ended -/
def sN (g : Nat → Int) (t : pS) (k : Nat) : pS := psM t.kd (fun x => if x < k ∧ g x = 1 then -5 else t.ii x) t.pl t.la t.se (fun x => if x < k ∧ g x = 1 then 0 else t.op x) (fun x => if x < k ∧ g x = 1 then 0 else t.so x) (fun x => if x < k ∧ g x = 1 then 1 else t.en x) (fun x => if x < k ∧ g x = 1 then 0 else t.he x)
theorem up_k {g f : Nat → Int} {k : Nat} {v : Int} (hg : g k = 1) : (fun x => if x < k + 1 ∧ g x = 1 then v else f x) = upi (fun x => if x < k ∧ g x = 1 then v else f x) k v := by
  funext x
  unfold upi
  if q : x = k then
    subst q
    rw [if_pos rfl, if_pos ⟨by omega, hg⟩]
  else
    rw [if_neg q]
    show _ = if x < k ∧ g x = 1 then v else f x
    if z : x < k ∧ g x = 1 then rw [if_pos z, if_pos ⟨by omega, z.2⟩]
    else rw [if_neg z, if_neg (fun c => z ⟨by omega, c.2⟩)]
theorem up_n {g f : Nat → Int} {k : Nat} {v : Int} (hg : ¬ g k = 1) : (fun x => if x < k + 1 ∧ g x = 1 then v else f x) = (fun x => if x < k ∧ g x = 1 then v else f x) := by
  funext x
  if z : x < k ∧ g x = 1 then rw [if_pos z, if_pos ⟨by omega, z.2⟩]
  else
    rw [if_neg z, if_neg]
    rintro ⟨c1, c2⟩
    if q : x = k then
      subst q
      exact hg c2
    else exact z ⟨by omega, c2⟩
theorem up_0 {g f : Nat → Int} {v : Int} : (fun x => if x < 0 ∧ g x = 1 then v else f x) = f := by
  funext x
  rw [if_neg (fun z => absurd z.1 (Nat.not_lt_zero _))]
theorem sN_0 {H : mzH} {t : pS} {md g : Nat → Int} {k : Nat} (h : rwX H t md) (hk : k = 0) : rwX H (sN g t k) md := by
  subst hk
  have e : sN g t 0 = t := by
    unfold sN
    rw [up_0, up_0, up_0, up_0, up_0]
    rfl
  rw [e]
  exact h
theorem sN_y {H : mzH} {t : pS} {md g : Nat → Int} {k k' : Nat} {v1 v2 v3 v4 v5 : Int} (hk : k' = k + 1) (hg : g k = 1) (h1 : v1 = 1) (h2 : v2 = -5) (h3 : v3 = 0) (h4 : v4 = 0) (h5 : v5 = 0) (h : rwX H (sSo (sHe (sOp (sII (sEn (sN g t k) k v1) k v2) k v3) k v4) k v5) md) : rwX H (sN g t k') md := by
  subst hk h1 h2 h3 h4 h5
  have e : sN g t (k + 1) = sSo (sHe (sOp (sII (sEn (sN g t k) k 1) k (-5)) k 0) k 0) k 0 := by
    show psM t.kd _ t.pl t.la t.se _ _ _ _ = psM t.kd _ t.pl t.la t.se _ _ _ _
    rw [up_k hg, up_k hg, up_k hg, up_k hg, up_k hg]
    rfl
  rw [e]
  exact h
theorem sN_n {H : mzH} {t : pS} {md g : Nat → Int} {k k' : Nat} (hk : k' = k + 1) (hg : ¬ g k = 1) (h : rwX H (sN g t k) md) : rwX H (sN g t k') md := by
  subst hk
  have e : sN g t (k + 1) = sN g t k := by
    unfold sN
    rw [up_n hg, up_n hg, up_n hg, up_n hg, up_n hg]
  rw [e]
  exact h
def ens (s : pS) (n : Int) : pS := sN (gos s n) (opM s n.toNat) 40
theorem en_end {H : mzH} {s : pS} {md : Nat → Int} {n : Int} {m k : Nat} (h : rwX H (sN (gos s n) (opM s m) k) md) (hm : m = n.toNat) (hk : k = 40) : rwX H (ens s n) md := by
  subst hm hk
  exact h
/-- a message that is taken -/
def tks (s : pS) (ac : Int) (n : Nat) (ot hour ki : Int) : pS := if ac = 0 then lie (sKd s n ki) n ot hour else if ac = 1 then sII s n ot else if ac = 2 then cou s n (s.pl (tp s n)) hour else if ac = 3 then sOp s n 1 else if ac = 4 then sOp s n 0 else if ac = 5 then lie s n ot hour else if ac = 6 then scn s n ot hour else if ac = 7 then sSo s n 1 else if ac = 8 then lie (sSo s n 0) n ot hour else if ac = 9 then ens s (n : Int) else sHe s n 0
def tmd (md : Nat → Int) (ac : Int) (n : Nat) : Nat → Int := if ac = 0 then upi md n 1 else md
theorem tmd_0 {md : Nat → Int} {ac : Int} {n : Nat} (h : ac = 0) : tmd md ac n = upi md n 1 := by unfold tmd; rw [if_pos h]
theorem tmd_n {md : Nat → Int} {ac : Int} {n : Nat} (h : ¬ ac = 0) : tmd md ac n = md := by unfold tmd; rw [if_neg h]
theorem tks_0 {s : pS} {ac ot hour ki : Int} {n : Nat} (h : ac = 0) : tks s ac n ot hour ki = lie (sKd s n ki) n ot hour := by
  subst h
  rfl
theorem tks_1 {s : pS} {ac ot hour ki : Int} {n : Nat} (h : ac = 1) : tks s ac n ot hour ki = sII s n ot := by
  subst h
  rfl
theorem tks_2 {s : pS} {ac ot hour ki : Int} {n : Nat} (h : ac = 2) : tks s ac n ot hour ki = cou s n (s.pl (tp s n)) hour := by
  subst h
  rfl
theorem tks_3 {s : pS} {ac ot hour ki : Int} {n : Nat} (h : ac = 3) : tks s ac n ot hour ki = sOp s n 1 := by
  subst h
  rfl
theorem tks_4 {s : pS} {ac ot hour ki : Int} {n : Nat} (h : ac = 4) : tks s ac n ot hour ki = sOp s n 0 := by
  subst h
  rfl
theorem tks_5 {s : pS} {ac ot hour ki : Int} {n : Nat} (h : ac = 5) : tks s ac n ot hour ki = lie s n ot hour := by
  subst h
  rfl
theorem tks_6 {s : pS} {ac ot hour ki : Int} {n : Nat} (h : ac = 6) : tks s ac n ot hour ki = scn s n ot hour := by
  subst h
  rfl
theorem tks_7 {s : pS} {ac ot hour ki : Int} {n : Nat} (h : ac = 7) : tks s ac n ot hour ki = sSo s n 1 := by
  subst h
  rfl
theorem tks_8 {s : pS} {ac ot hour ki : Int} {n : Nat} (h : ac = 8) : tks s ac n ot hour ki = lie (sSo s n 0) n ot hour := by
  subst h
  rfl
theorem tks_9 {s : pS} {ac ot hour ki : Int} {n : Nat} (h : ac = 9) : tks s ac n ot hour ki = ens s (n : Int) := by
  subst h
  rfl
theorem tks_10 {s : pS} {ac ot hour ki : Int} {n : Nat} (h : ac = 10) : tks s ac n ot hour ki = sHe s n 0 := by
  subst h
  rfl
set_option maxRecDepth 4000 in
set_option maxHeartbeats 4000000 in
/-- M.lies -/
theorem r_193 {s : pS} {md : Nat → Int} (a1 : Int32) (ha1 : 0 ≤ a1.toInt ∧ a1.toInt ≤ 39) (a2 : Int32) (ha2 : 0 ≤ a2.toInt ∧ a2.toInt ≤ 7) (a3 : Int32) (H : mzH) (hI : gI SM H) (hJ : JM H) (hp0 : rwX H s md) : gCall 193 [.ref 0, .int a1, .int a2, .int a3] H (gRv (fun H' => gI SM H' ∧ JM H' ∧ (∀ a f, fZ H' a f = fZ H a f) ∧ (∀ i, aZ H' 2 i = aZ H 2 i) ∧ (∀ i, aZ H' 19 i = aZ H 19 i) ∧ (∀ i, aZ H' 17 i = aZ H 17 i) ∧ kpM H H' ∧ (∀ i, aZ H' 18 i = aZ H 18 i) ∧ (∀ i, aZ H' 20 i = aZ H 20 i) ∧ (∀ i, aZ H' 22 i = aZ H 22 i) ∧ (∀ i, aZ H' 23 i = aZ H 23 i) ∧ (∀ i, aZ H' 24 i = aZ H 24 i) ∧ (∀ i, aZ H' 25 i = aZ H 25 i) ∧ rwX H' (lie s a1.toInt.toNat a2.toInt a3.toInt) md)) := by
  have mkF : ∀ a f, fZ H a f = fZ H a f := fun _ _ => rfl
  have mk2 : ∀ i, aZ H 2 i = aZ H 2 i := fun _ => rfl
  have mk19 : ∀ i, aZ H 19 i = aZ H 19 i := fun _ => rfl
  have mk17 : ∀ i, aZ H 17 i = aZ H 17 i := fun _ => rfl
  have mkfr : kpM H H := kpM_r
  have mk18 : ∀ i, aZ H 18 i = aZ H 18 i := fun _ => rfl
  have mk20 : ∀ i, aZ H 20 i = aZ H 20 i := fun _ => rfl
  have mk22 : ∀ i, aZ H 22 i = aZ H 22 i := fun _ => rfl
  have mk23 : ∀ i, aZ H 23 i = aZ H 23 i := fun _ => rfl
  have mk24 : ∀ i, aZ H 24 i = aZ H 24 i := fun _ => rfl
  have mk25 : ∀ i, aZ H 25 i = aZ H 25 i := fun _ => rfl
  refine gG_call [(0, .ref 0), (1, .int a1), (2, .int a2), (3, .int a3)] ⟨rfl, rfl, rfl, rfl, trivial⟩ ?_
  show gG 4 zB_193 (mzBlk zB_193 0) [(0, .ref 0), (1, .int a1), (2, .int a2), (3, .int a3)] [] H 0 0 _
  refine g_aload_n rfl ?_
  refine g_gfr hI sm_0 rfl ?_
  refine g_iload_n rfl ?_
  refine g_iload_n rfl ?_
  refine g_iastore hI sm_10 (by first | with_reducible assumption | omega) (by first | with_reducible assumption | omega) (fun H97 eH97 hIH97 => ?_)
  have hJH97 : JM H97 := JM_sA (by decide) eH97 hJ
  have m98 : ∀ a f, fZ H97 a f = fZ H a f := fun a f => (by rw [eH97, fZ_sA] : fZ H97 a f = fZ H a f).trans (mkF a f)
  have m99 : ∀ i, aZ H97 2 i = aZ H 2 i := fun i => (by rw [eH97, aZ_sA_nc (by first | with_reducible assumption | omega)] : aZ H97 2 i = aZ H 2 i).trans (mk2 i)
  have m100 : ∀ i, aZ H97 19 i = aZ H 19 i := fun i => (by rw [eH97, aZ_sA_nc (by first | with_reducible assumption | omega)] : aZ H97 19 i = aZ H 19 i).trans (mk19 i)
  have m101 : ∀ i, aZ H97 17 i = aZ H 17 i := fun i => (by rw [eH97, aZ_sA_nc (by first | with_reducible assumption | omega)] : aZ H97 17 i = aZ H 17 i).trans (mk17 i)
  have m102 : kpM H H97 := kpM_A mkfr eH97 (by first | with_reducible assumption | omega)
  have m103 : ∀ i, aZ H97 18 i = aZ H 18 i := fun i => (by rw [eH97, aZ_sA_nc (by first | with_reducible assumption | omega)] : aZ H97 18 i = aZ H 18 i).trans (mk18 i)
  have m104 : ∀ i, aZ H97 20 i = aZ H 20 i := fun i => (by rw [eH97, aZ_sA_nc (by first | with_reducible assumption | omega)] : aZ H97 20 i = aZ H 20 i).trans (mk20 i)
  have m105 : ∀ i, aZ H97 22 i = aZ H 22 i := fun i => (by rw [eH97, aZ_sA_nc (by first | with_reducible assumption | omega)] : aZ H97 22 i = aZ H 22 i).trans (mk22 i)
  have m106 : ∀ i, aZ H97 23 i = aZ H 23 i := fun i => (by rw [eH97, aZ_sA_nc (by first | with_reducible assumption | omega)] : aZ H97 23 i = aZ H 23 i).trans (mk23 i)
  have m107 : ∀ i, aZ H97 24 i = aZ H 24 i := fun i => (by rw [eH97, aZ_sA_nc (by first | with_reducible assumption | omega)] : aZ H97 24 i = aZ H 24 i).trans (mk24 i)
  have m108 : ∀ i, aZ H97 25 i = aZ H 25 i := fun i => (by rw [eH97, aZ_sA_nc (by first | with_reducible assumption | omega)] : aZ H97 25 i = aZ H 25 i).trans (mk25 i)
  have wdH97 : rwX H97 (sPl s a1.toInt.toNat a2.toInt) md := rw_10 hI hp0 eH97 (by first | with_reducible assumption | omega)
  refine g_aload_n rfl ?_
  refine g_gfr hIH97 sm_0 rfl ?_
  refine g_iload_n rfl ?_
  refine g_iload_n rfl ?_
  refine g_iastore hIH97 sm_11 (by first | with_reducible assumption | omega) (gz_any _) (fun H109 eH109 hIH109 => ?_)
  have hJH109 : JM H109 := JM_sA (by decide) eH109 hJH97
  have m110 : ∀ a f, fZ H109 a f = fZ H a f := fun a f => (by rw [eH109, fZ_sA] : fZ H109 a f = fZ H97 a f).trans (m98 a f)
  have m111 : ∀ i, aZ H109 2 i = aZ H 2 i := fun i => (by rw [eH109, aZ_sA_nc (by first | with_reducible assumption | omega)] : aZ H109 2 i = aZ H97 2 i).trans (m99 i)
  have m112 : ∀ i, aZ H109 19 i = aZ H 19 i := fun i => (by rw [eH109, aZ_sA_nc (by first | with_reducible assumption | omega)] : aZ H109 19 i = aZ H97 19 i).trans (m100 i)
  have m113 : ∀ i, aZ H109 17 i = aZ H 17 i := fun i => (by rw [eH109, aZ_sA_nc (by first | with_reducible assumption | omega)] : aZ H109 17 i = aZ H97 17 i).trans (m101 i)
  have m114 : kpM H H109 := kpM_A m102 eH109 (by first | with_reducible assumption | omega)
  have m115 : ∀ i, aZ H109 18 i = aZ H 18 i := fun i => (by rw [eH109, aZ_sA_nc (by first | with_reducible assumption | omega)] : aZ H109 18 i = aZ H97 18 i).trans (m103 i)
  have m116 : ∀ i, aZ H109 20 i = aZ H 20 i := fun i => (by rw [eH109, aZ_sA_nc (by first | with_reducible assumption | omega)] : aZ H109 20 i = aZ H97 20 i).trans (m104 i)
  have m117 : ∀ i, aZ H109 22 i = aZ H 22 i := fun i => (by rw [eH109, aZ_sA_nc (by first | with_reducible assumption | omega)] : aZ H109 22 i = aZ H97 22 i).trans (m105 i)
  have m118 : ∀ i, aZ H109 23 i = aZ H 23 i := fun i => (by rw [eH109, aZ_sA_nc (by first | with_reducible assumption | omega)] : aZ H109 23 i = aZ H97 23 i).trans (m106 i)
  have m119 : ∀ i, aZ H109 24 i = aZ H 24 i := fun i => (by rw [eH109, aZ_sA_nc (by first | with_reducible assumption | omega)] : aZ H109 24 i = aZ H97 24 i).trans (m107 i)
  have m120 : ∀ i, aZ H109 25 i = aZ H 25 i := fun i => (by rw [eH109, aZ_sA_nc (by first | with_reducible assumption | omega)] : aZ H109 25 i = aZ H97 25 i).trans (m108 i)
  have wdH109 : rwX H109 (sLa (sPl s a1.toInt.toNat a2.toInt) a1.toInt.toNat a3.toInt) md := rw_11 hIH97 wdH97 eH109 (by first | with_reducible assumption | omega)
  exact g_ret ⟨rfl, hIH109, hJH109, m110, m111, m112, m113, m114, m115, m116, m117, m118, m119, m120, wdH109⟩
set_option maxRecDepth 4000 in
set_option maxHeartbeats 4000000 in
/-- M.comesOut -/
theorem r_195 {s : pS} {md : Nat → Int} (a1 : Int32) (ha1 : 0 ≤ a1.toInt ∧ a1.toInt ≤ 39) (a2 : Int32) (ha2 : 0 ≤ a2.toInt ∧ a2.toInt ≤ 7) (a3 : Int32) (H : mzH) (hI : gI SM H) (hJ : JM H) (hp0 : rwX H s md) (hp1 : ¬ (aZ H 9 a1.toInt.toNat).toInt = -5) (hp2 : (s.ii a1.toInt.toNat = -5 ∨ (0 ≤ s.ii a1.toInt.toNat ∧ s.ii a1.toInt.toNat < 40))) : gCall 195 [.ref 0, .int a1, .int a2, .int a3] H (gRv (fun H' => gI SM H' ∧ JM H' ∧ (∀ a f, fZ H' a f = fZ H a f) ∧ (∀ i, aZ H' 2 i = aZ H 2 i) ∧ (∀ i, aZ H' 19 i = aZ H 19 i) ∧ (∀ i, aZ H' 17 i = aZ H 17 i) ∧ kpM H H' ∧ (∀ i, aZ H' 18 i = aZ H 18 i) ∧ (∀ i, aZ H' 20 i = aZ H 20 i) ∧ (∀ i, aZ H' 22 i = aZ H 22 i) ∧ (∀ i, aZ H' 23 i = aZ H 23 i) ∧ (∀ i, aZ H' 24 i = aZ H 24 i) ∧ (∀ i, aZ H' 25 i = aZ H 25 i) ∧ rwX H' (cou s a1.toInt.toNat a2.toInt a3.toInt) md)) := by
  have mkF : ∀ a f, fZ H a f = fZ H a f := fun _ _ => rfl
  have mk2 : ∀ i, aZ H 2 i = aZ H 2 i := fun _ => rfl
  have mk19 : ∀ i, aZ H 19 i = aZ H 19 i := fun _ => rfl
  have mk17 : ∀ i, aZ H 17 i = aZ H 17 i := fun _ => rfl
  have mkfr : kpM H H := kpM_r
  have mk18 : ∀ i, aZ H 18 i = aZ H 18 i := fun _ => rfl
  have mk20 : ∀ i, aZ H 20 i = aZ H 20 i := fun _ => rfl
  have mk22 : ∀ i, aZ H 22 i = aZ H 22 i := fun _ => rfl
  have mk23 : ∀ i, aZ H 23 i = aZ H 23 i := fun _ => rfl
  have mk24 : ∀ i, aZ H 24 i = aZ H 24 i := fun _ => rfl
  have mk25 : ∀ i, aZ H 25 i = aZ H 25 i := fun _ => rfl
  refine gG_call [(0, .ref 0), (1, .int a1), (2, .int a2), (3, .int a3)] ⟨rfl, rfl, rfl, rfl, trivial⟩ ?_
  show gG 4 zB_195 (mzBlk zB_195 0) [(0, .ref 0), (1, .int a1), (2, .int a2), (3, .int a3)] [] H 0 0 _
  refine g_aload_n rfl ?_
  refine g_gfr hI sm_0 rfl ?_
  refine g_aload_n rfl ?_
  refine g_gfr hI sm_0 rfl ?_
  refine g_iload_n rfl ?_
  refine g_iaload hI sm_9 rfl (by first | with_reducible assumption | omega) (fun v209 ev209 lv209 uv209 => ?_)
  have qv209 := JM_in hJ (by first | with_reducible assumption | omega) ev209
  have yv209 : v209.toInt = (aZ H 9 a1.toInt.toNat).toInt := by rw [ev209]
  have yv209 : v209.toInt = (s).ii a1.toInt.toNat := by rw [ev209]; exact (hp0 _ (by first | with_reducible assumption | omega)).2.2.1
  refine g_iconst (by decide) (fun v210 kv210 => ?_)
  refine g_zastore hI sm_13 (by first | with_reducible assumption | omega) (by first | with_reducible assumption | omega) (fun H211 eH211 hIH211 => ?_)
  have hJH211 : JM H211 := JM_sA (by decide) eH211 hJ
  have m212 : ∀ a f, fZ H211 a f = fZ H a f := fun a f => (by rw [eH211, fZ_sA] : fZ H211 a f = fZ H a f).trans (mkF a f)
  have m213 : ∀ i, aZ H211 2 i = aZ H 2 i := fun i => (by rw [eH211, aZ_sA_nc (by first | with_reducible assumption | omega)] : aZ H211 2 i = aZ H 2 i).trans (mk2 i)
  have m214 : ∀ i, aZ H211 19 i = aZ H 19 i := fun i => (by rw [eH211, aZ_sA_nc (by first | with_reducible assumption | omega)] : aZ H211 19 i = aZ H 19 i).trans (mk19 i)
  have m215 : ∀ i, aZ H211 17 i = aZ H 17 i := fun i => (by rw [eH211, aZ_sA_nc (by first | with_reducible assumption | omega)] : aZ H211 17 i = aZ H 17 i).trans (mk17 i)
  have m216 : kpM H H211 := kpM_A mkfr eH211 (by first | with_reducible assumption | omega)
  have m217 : ∀ i, aZ H211 18 i = aZ H 18 i := fun i => (by rw [eH211, aZ_sA_nc (by first | with_reducible assumption | omega)] : aZ H211 18 i = aZ H 18 i).trans (mk18 i)
  have m218 : ∀ i, aZ H211 20 i = aZ H 20 i := fun i => (by rw [eH211, aZ_sA_nc (by first | with_reducible assumption | omega)] : aZ H211 20 i = aZ H 20 i).trans (mk20 i)
  have m219 : ∀ i, aZ H211 22 i = aZ H 22 i := fun i => (by rw [eH211, aZ_sA_nc (by first | with_reducible assumption | omega)] : aZ H211 22 i = aZ H 22 i).trans (mk22 i)
  have m220 : ∀ i, aZ H211 23 i = aZ H 23 i := fun i => (by rw [eH211, aZ_sA_nc (by first | with_reducible assumption | omega)] : aZ H211 23 i = aZ H 23 i).trans (mk23 i)
  have m221 : ∀ i, aZ H211 24 i = aZ H 24 i := fun i => (by rw [eH211, aZ_sA_nc (by first | with_reducible assumption | omega)] : aZ H211 24 i = aZ H 24 i).trans (mk24 i)
  have m222 : ∀ i, aZ H211 25 i = aZ H 25 i := fun i => (by rw [eH211, aZ_sA_nc (by first | with_reducible assumption | omega)] : aZ H211 25 i = aZ H 25 i).trans (mk25 i)
  have wdH211 : rwX H211 (sOp s v209.toInt.toNat v210.toInt) md := rw_13 hI hp0 eH211 (by first | with_reducible assumption | omega)
  refine g_aload_n rfl ?_
  refine g_gfr hIH211 sm_0 rfl ?_
  refine g_iload_n rfl ?_
  refine g_bipush (by decide) (fun v223 kv223 => ?_)
  refine g_iastore hIH211 sm_9 (by first | with_reducible assumption | omega) (by first | with_reducible assumption | omega) (fun H224 eH224 hIH224 => ?_)
  have hJH224 : JM H224 := JM_out hIH211 hJH211 (by first | with_reducible assumption | omega) (by first | with_reducible assumption | omega) eH224
  have m225 : ∀ a f, fZ H224 a f = fZ H a f := fun a f => (by rw [eH224, fZ_sA] : fZ H224 a f = fZ H211 a f).trans (m212 a f)
  have m226 : ∀ i, aZ H224 2 i = aZ H 2 i := fun i => (by rw [eH224, aZ_sA_nc (by first | with_reducible assumption | omega)] : aZ H224 2 i = aZ H211 2 i).trans (m213 i)
  have m227 : ∀ i, aZ H224 19 i = aZ H 19 i := fun i => (by rw [eH224, aZ_sA_nc (by first | with_reducible assumption | omega)] : aZ H224 19 i = aZ H211 19 i).trans (m214 i)
  have m228 : ∀ i, aZ H224 17 i = aZ H 17 i := fun i => (by rw [eH224, aZ_sA_nc (by first | with_reducible assumption | omega)] : aZ H224 17 i = aZ H211 17 i).trans (m215 i)
  have m229 : kpM H H224 := kpM_A m216 eH224 (by first | with_reducible assumption | omega)
  have m230 : ∀ i, aZ H224 18 i = aZ H 18 i := fun i => (by rw [eH224, aZ_sA_nc (by first | with_reducible assumption | omega)] : aZ H224 18 i = aZ H211 18 i).trans (m217 i)
  have m231 : ∀ i, aZ H224 20 i = aZ H 20 i := fun i => (by rw [eH224, aZ_sA_nc (by first | with_reducible assumption | omega)] : aZ H224 20 i = aZ H211 20 i).trans (m218 i)
  have m232 : ∀ i, aZ H224 22 i = aZ H 22 i := fun i => (by rw [eH224, aZ_sA_nc (by first | with_reducible assumption | omega)] : aZ H224 22 i = aZ H211 22 i).trans (m219 i)
  have m233 : ∀ i, aZ H224 23 i = aZ H 23 i := fun i => (by rw [eH224, aZ_sA_nc (by first | with_reducible assumption | omega)] : aZ H224 23 i = aZ H211 23 i).trans (m220 i)
  have m234 : ∀ i, aZ H224 24 i = aZ H 24 i := fun i => (by rw [eH224, aZ_sA_nc (by first | with_reducible assumption | omega)] : aZ H224 24 i = aZ H211 24 i).trans (m221 i)
  have m235 : ∀ i, aZ H224 25 i = aZ H 25 i := fun i => (by rw [eH224, aZ_sA_nc (by first | with_reducible assumption | omega)] : aZ H224 25 i = aZ H211 25 i).trans (m222 i)
  have wdH224 : rwX H224 (sII (sOp s v209.toInt.toNat v210.toInt) a1.toInt.toNat v223.toInt) md := rw_9 hIH211 wdH211 eH224 (by first | with_reducible assumption | omega)
  refine g_aload_n rfl ?_
  refine g_iload_n rfl ?_
  refine g_iload_n rfl ?_
  refine g_iload_n rfl ?_
  refine g_invvv hIH224 sm_0 rfl rfl rfl rfl (r_193 a1 (by first | with_reducible assumption | omega) a2 (by first | with_reducible assumption | omega) a3 H224 hIH224 hJH224 wdH224) (fun H236 r237 => ?_)
  obtain ⟨hIH236, hJH236, m238, m239, m240, m241, m242, m243, m244, m245, m246, m247, m248, p249⟩ := r237
  have m250 : ∀ a f, fZ H236 a f = fZ H a f := fun a f => (m238 a f).trans (m225 a f)
  have m251 : ∀ i, aZ H236 2 i = aZ H 2 i := fun i => (m239 i).trans (m226 i)
  have m252 : ∀ i, aZ H236 19 i = aZ H 19 i := fun i => (m240 i).trans (m227 i)
  have m253 : ∀ i, aZ H236 17 i = aZ H 17 i := fun i => (m241 i).trans (m228 i)
  have m254 : kpM H H236 := kpM_t m229 m242
  have m255 : ∀ i, aZ H236 18 i = aZ H 18 i := fun i => (m243 i).trans (m230 i)
  have m256 : ∀ i, aZ H236 20 i = aZ H 20 i := fun i => (m244 i).trans (m231 i)
  have m257 : ∀ i, aZ H236 22 i = aZ H 22 i := fun i => (m245 i).trans (m232 i)
  have m258 : ∀ i, aZ H236 23 i = aZ H 23 i := fun i => (m246 i).trans (m233 i)
  have m259 : ∀ i, aZ H236 24 i = aZ H 24 i := fun i => (m247 i).trans (m234 i)
  have m260 : ∀ i, aZ H236 25 i = aZ H 25 i := fun i => (m248 i).trans (m235 i)
  exact g_ret ⟨rfl, hIH236, hJH236, m250, m251, m252, m253, m254, m255, m256, m257, m258, m259, m260, (by unfold cou; have z := p249; rw [kv210, kv223, yv209] at z; exact z)⟩
set_option maxRecDepth 4000 in
set_option maxHeartbeats 4000000 in
/-- M.scans -/
theorem r_196 {s : pS} {md : Nat → Int} (a1 : Int32) (ha1 : 0 ≤ a1.toInt ∧ a1.toInt ≤ 39) (a2 : Int32) (ha2 : 0 ≤ a2.toInt ∧ a2.toInt ≤ 7) (a3 : Int32) (H : mzH) (hI : gI SM H) (hJ : JM H) (hp0 : rwX H s md) (hp1 : dpt s) : gCall 196 [.ref 0, .int a1, .int a2, .int a3] H (gRv (fun H' => gI SM H' ∧ JM H' ∧ (∀ a f, fZ H' a f = fZ H a f) ∧ (∀ i, aZ H' 2 i = aZ H 2 i) ∧ (∀ i, aZ H' 19 i = aZ H 19 i) ∧ (∀ i, aZ H' 17 i = aZ H 17 i) ∧ kpM H H' ∧ (∀ i, aZ H' 18 i = aZ H 18 i) ∧ (∀ i, aZ H' 20 i = aZ H 20 i) ∧ (∀ i, aZ H' 22 i = aZ H 22 i) ∧ (∀ i, aZ H' 23 i = aZ H 23 i) ∧ (∀ i, aZ H' 24 i = aZ H 24 i) ∧ (∀ i, aZ H' 25 i = aZ H 25 i) ∧ rwX H' (scn s a1.toInt.toNat a2.toInt a3.toInt) md)) := by
  have mkF : ∀ a f, fZ H a f = fZ H a f := fun _ _ => rfl
  have mk2 : ∀ i, aZ H 2 i = aZ H 2 i := fun _ => rfl
  have mk19 : ∀ i, aZ H 19 i = aZ H 19 i := fun _ => rfl
  have mk17 : ∀ i, aZ H 17 i = aZ H 17 i := fun _ => rfl
  have mkfr : kpM H H := kpM_r
  have mk18 : ∀ i, aZ H 18 i = aZ H 18 i := fun _ => rfl
  have mk20 : ∀ i, aZ H 20 i = aZ H 20 i := fun _ => rfl
  have mk22 : ∀ i, aZ H 22 i = aZ H 22 i := fun _ => rfl
  have mk23 : ∀ i, aZ H 23 i = aZ H 23 i := fun _ => rfl
  have mk24 : ∀ i, aZ H 24 i = aZ H 24 i := fun _ => rfl
  have mk25 : ∀ i, aZ H 25 i = aZ H 25 i := fun _ => rfl
  refine gG_call [(0, .ref 0), (1, .int a1), (2, .int a2), (3, .int a3)] ⟨rfl, rfl, rfl, rfl, trivial⟩ ?_
  show gG 6 zB_196 (mzBlk zB_196 0) [(0, .ref 0), (1, .int a1), (2, .int a2), (3, .int a3)] [] H 0 0 _
  refine g_aload_n rfl ?_
  refine g_gfr hI sm_0 rfl ?_
  refine g_iload_n rfl ?_
  refine g_iload_n rfl ?_
  refine g_iastore hI sm_12 (by first | with_reducible assumption | omega) (gz_any _) (fun H377 eH377 hIH377 => ?_)
  have hJH377 : JM H377 := JM_sA (by decide) eH377 hJ
  have m378 : ∀ a f, fZ H377 a f = fZ H a f := fun a f => (by rw [eH377, fZ_sA] : fZ H377 a f = fZ H a f).trans (mkF a f)
  have m379 : ∀ i, aZ H377 2 i = aZ H 2 i := fun i => (by rw [eH377, aZ_sA_nc (by first | with_reducible assumption | omega)] : aZ H377 2 i = aZ H 2 i).trans (mk2 i)
  have m380 : ∀ i, aZ H377 19 i = aZ H 19 i := fun i => (by rw [eH377, aZ_sA_nc (by first | with_reducible assumption | omega)] : aZ H377 19 i = aZ H 19 i).trans (mk19 i)
  have m381 : ∀ i, aZ H377 17 i = aZ H 17 i := fun i => (by rw [eH377, aZ_sA_nc (by first | with_reducible assumption | omega)] : aZ H377 17 i = aZ H 17 i).trans (mk17 i)
  have m382 : kpM H H377 := kpM_A mkfr eH377 (by first | with_reducible assumption | omega)
  have m383 : ∀ i, aZ H377 18 i = aZ H 18 i := fun i => (by rw [eH377, aZ_sA_nc (by first | with_reducible assumption | omega)] : aZ H377 18 i = aZ H 18 i).trans (mk18 i)
  have m384 : ∀ i, aZ H377 20 i = aZ H 20 i := fun i => (by rw [eH377, aZ_sA_nc (by first | with_reducible assumption | omega)] : aZ H377 20 i = aZ H 20 i).trans (mk20 i)
  have m385 : ∀ i, aZ H377 22 i = aZ H 22 i := fun i => (by rw [eH377, aZ_sA_nc (by first | with_reducible assumption | omega)] : aZ H377 22 i = aZ H 22 i).trans (mk22 i)
  have m386 : ∀ i, aZ H377 23 i = aZ H 23 i := fun i => (by rw [eH377, aZ_sA_nc (by first | with_reducible assumption | omega)] : aZ H377 23 i = aZ H 23 i).trans (mk23 i)
  have m387 : ∀ i, aZ H377 24 i = aZ H 24 i := fun i => (by rw [eH377, aZ_sA_nc (by first | with_reducible assumption | omega)] : aZ H377 24 i = aZ H 24 i).trans (mk24 i)
  have m388 : ∀ i, aZ H377 25 i = aZ H 25 i := fun i => (by rw [eH377, aZ_sA_nc (by first | with_reducible assumption | omega)] : aZ H377 25 i = aZ H 25 i).trans (mk25 i)
  have wdH377 : rwX H377 (sSe s a1.toInt.toNat a3.toInt) md := rw_12 hI hp0 eH377 (by first | with_reducible assumption | omega)
  refine g_aload_n rfl ?_
  refine g_iload_n rfl ?_
  refine g_invvi hIH377 sm_0 rfl rfl rfl rfl (r_185 a1 (by first | with_reducible assumption | omega) H377 hIH377 hJH377 wdH377 (show dpt (sSe s a1.toInt.toNat a3.toInt) from hp1)) (fun v391 H389 r390 => ?_)
  obtain ⟨rfl, bv391, p392⟩ := r390
  have tnv391 : v391.toInt.toNat = tp (sSe s a1.toInt.toNat a3.toInt) a1.toInt.toNat := by omega
  refine g_istore (l' := [(0, .ref 0), (1, .int a1), (2, .int a2), (3, .int a3), (4, .int v391)]) rfl rfl ?_
  refine g_aload_n rfl ?_
  refine g_gfr hIH377 sm_0 rfl ?_
  refine g_iload rfl ?_
  refine g_iaload hIH377 sm_10 rfl (by first | with_reducible assumption | omega) (fun v393 ev393 lv393 uv393 => ?_)
  have yv393 : v393.toInt = ((sSe s a1.toInt.toNat a3.toInt)).pl v391.toInt.toNat := by rw [ev393]; exact (wdH377 _ (by first | with_reducible assumption | omega)).2.2.2.1
  rw [tnv391] at yv393
  refine g_iload_n rfl ?_
  refine g_if2_ne (fun c394 => ?_) (fun c394 => ?_)
  · refine g_iload_n rfl ?_
    refine g_istore (l' := [(0, .ref 0), (1, .int a1), (2, .int a2), (3, .int a3), (4, .int v391), (5, .int a1)]) rfl rfl ?_
    refine g_nop ?_
    have L396 : ∀ (N : Nat) (v395 : Int32), (0 ≤ v395.toInt ∧ v395.toInt ≤ 39) → loo (sSe s a1.toInt.toNat a3.toInt) v395.toInt.toNat = loo (sSe s a1.toInt.toNat a3.toInt) a1.toInt.toNat → dep (sSe s a1.toInt.toNat a3.toInt) v395.toInt.toNat < N → gG 6 zB_196 (mzBlk zB_196 2) [(0, .ref 0), (1, .int a1), (2, .int a2), (3, .int a3), (4, .int v391), (5, .int v395)] [] H377 0 0 (gRv (fun H' => gI SM H' ∧ JM H' ∧ (∀ a f, fZ H' a f = fZ H a f) ∧ (∀ i, aZ H' 2 i = aZ H 2 i) ∧ (∀ i, aZ H' 19 i = aZ H 19 i) ∧ (∀ i, aZ H' 17 i = aZ H 17 i) ∧ kpM H H' ∧ (∀ i, aZ H' 18 i = aZ H 18 i) ∧ (∀ i, aZ H' 20 i = aZ H 20 i) ∧ (∀ i, aZ H' 22 i = aZ H 22 i) ∧ (∀ i, aZ H' 23 i = aZ H 23 i) ∧ (∀ i, aZ H' 24 i = aZ H 24 i) ∧ (∀ i, aZ H' 25 i = aZ H 25 i) ∧ rwX H' (scn s a1.toInt.toNat a2.toInt a3.toInt) md)) := by
      intro N
      induction N with
      | zero => intro v395 bv395 q1 hmL396; exact absurd hmL396 (Nat.not_lt_zero _)
      | succ N ihL396 =>
        intro v395 bv395 q1 hmL396
        refine g_aload_n rfl ?_
        refine g_gfr hIH377 sm_0 rfl ?_
        refine g_iload rfl ?_
        refine g_iaload hIH377 sm_9 rfl (by first | with_reducible assumption | omega) (fun v397 ev397 lv397 uv397 => ?_)
        have qv397 := JM_in hJH377 (by first | with_reducible assumption | omega) ev397
        have yv397 : v397.toInt = (aZ H377 9 v395.toInt.toNat).toInt := by rw [ev397]
        have yv397 : v397.toInt = ((sSe s a1.toInt.toNat a3.toInt)).ii v395.toInt.toNat := by rw [ev397]; exact (wdH377 _ (by first | with_reducible assumption | omega)).2.2.1
        have ddv397 := dpt_1 (show dpt (sSe s a1.toInt.toNat a3.toInt) from hp1) (n := v395.toInt.toNat) (by first | with_reducible assumption | omega)
        refine g_bipush (by decide) (fun v398 kv398 => ?_)
        refine g_if2_eq (fun c399 => ?_) (fun c399 => ?_)
        · refine g_aload_n rfl ?_
          refine g_gfr hIH377 sm_0 rfl ?_
          refine g_iload rfl ?_
          refine g_ialoadk hIH377 sm_9 rfl (by first | with_reducible assumption | omega) ev397 ?_
          refine g_bipush (by decide) (fun v400 kv400 => ?_)
          refine g_if2_eq (fun c401 => ?_) (fun c401 => ?_)
          · refine g_aload_n rfl ?_
            refine g_iload rfl ?_
            refine g_iload_n rfl ?_
            refine g_iload_n rfl ?_
            refine g_invvv hIH377 sm_0 rfl rfl rfl rfl (r_193 v391 (by first | with_reducible assumption | omega) a2 (by first | with_reducible assumption | omega) a3 H377 hIH377 hJH377 wdH377) (fun H402 r403 => ?_)
            obtain ⟨hIH402, hJH402, m404, m405, m406, m407, m408, m409, m410, m411, m412, m413, m414, p415⟩ := r403
            have m416 : ∀ a f, fZ H402 a f = fZ H a f := fun a f => (m404 a f).trans (m378 a f)
            have m417 : ∀ i, aZ H402 2 i = aZ H 2 i := fun i => (m405 i).trans (m379 i)
            have m418 : ∀ i, aZ H402 19 i = aZ H 19 i := fun i => (m406 i).trans (m380 i)
            have m419 : ∀ i, aZ H402 17 i = aZ H 17 i := fun i => (m407 i).trans (m381 i)
            have m420 : kpM H H402 := kpM_t m382 m408
            have m421 : ∀ i, aZ H402 18 i = aZ H 18 i := fun i => (m409 i).trans (m383 i)
            have m422 : ∀ i, aZ H402 20 i = aZ H 20 i := fun i => (m410 i).trans (m384 i)
            have m423 : ∀ i, aZ H402 22 i = aZ H 22 i := fun i => (m411 i).trans (m385 i)
            have m424 : ∀ i, aZ H402 23 i = aZ H 23 i := fun i => (m412 i).trans (m386 i)
            have m425 : ∀ i, aZ H402 24 i = aZ H 24 i := fun i => (m413 i).trans (m387 i)
            have m426 : ∀ i, aZ H402 25 i = aZ H 25 i := fun i => (m414 i).trans (m388 i)
            refine g_nop ?_
            exact g_ret ⟨rfl, hIH402, hJH402, m416, m417, m418, m419, m420, m421, m422, m423, m424, m425, m426, (by rw [scn_3 (by first | with_reducible assumption | omega) (by rw [← q1, loo_e (by first | with_reducible assumption | omega)]; omega), ← tnv391]; exact p415)⟩
          · exfalso; omega
        · refine g_aload_n rfl ?_
          refine g_gfr hIH377 sm_0 rfl ?_
          refine g_aload_n rfl ?_
          refine g_gfr hIH377 sm_0 rfl ?_
          refine g_iload rfl ?_
          refine g_ialoadk hIH377 sm_9 rfl (by first | with_reducible assumption | omega) ev397 ?_
          refine g_baload hIH377 sm_13 rfl (by first | with_reducible assumption | omega) (fun v427 ev427 lv427 uv427 => ?_)
          have yv427 : v427.toInt = ((sSe s a1.toInt.toNat a3.toInt)).op v397.toInt.toNat := by rw [ev427]; exact (wdH377 _ (by first | with_reducible assumption | omega)).2.2.2.2.2.2.1
          rw [yv397] at yv427
          refine g_if_ne (fun c428 => ?_) (fun c428 => ?_)
          · refine g_aload_n rfl ?_
            refine g_gfr hIH377 sm_0 rfl ?_
            refine g_iload rfl ?_
            refine g_ialoadk hIH377 sm_9 rfl (by first | with_reducible assumption | omega) ev397 ?_
            refine g_bipush (by decide) (fun v429 kv429 => ?_)
            refine g_if2_eq (fun c430 => ?_) (fun c430 => ?_)
            · exfalso; omega
            · refine g_aload_n rfl ?_
              refine g_iload rfl ?_
              refine g_iload_n rfl ?_
              refine g_iload_n rfl ?_
              refine g_invvv hIH377 sm_0 rfl rfl rfl rfl (r_195 v395 (by first | with_reducible assumption | omega) a2 (by first | with_reducible assumption | omega) a3 H377 hIH377 hJH377 wdH377 (by rw [(wdH377 _ (by first | with_reducible assumption | omega)).2.2.1]; omega) (dpt_1 (show dpt (sSe s a1.toInt.toNat a3.toInt) from hp1) (by first | with_reducible assumption | omega))) (fun H431 r432 => ?_)
              obtain ⟨hIH431, hJH431, m433, m434, m435, m436, m437, m438, m439, m440, m441, m442, m443, p444⟩ := r432
              have m445 : ∀ a f, fZ H431 a f = fZ H a f := fun a f => (m433 a f).trans (m378 a f)
              have m446 : ∀ i, aZ H431 2 i = aZ H 2 i := fun i => (m434 i).trans (m379 i)
              have m447 : ∀ i, aZ H431 19 i = aZ H 19 i := fun i => (m435 i).trans (m380 i)
              have m448 : ∀ i, aZ H431 17 i = aZ H 17 i := fun i => (m436 i).trans (m381 i)
              have m449 : kpM H H431 := kpM_t m382 m437
              have m450 : ∀ i, aZ H431 18 i = aZ H 18 i := fun i => (m438 i).trans (m383 i)
              have m451 : ∀ i, aZ H431 20 i = aZ H 20 i := fun i => (m439 i).trans (m384 i)
              have m452 : ∀ i, aZ H431 22 i = aZ H 22 i := fun i => (m440 i).trans (m385 i)
              have m453 : ∀ i, aZ H431 23 i = aZ H 23 i := fun i => (m441 i).trans (m386 i)
              have m454 : ∀ i, aZ H431 24 i = aZ H 24 i := fun i => (m442 i).trans (m387 i)
              have m455 : ∀ i, aZ H431 25 i = aZ H 25 i := fun i => (m443 i).trans (m388 i)
              refine g_goto ?_
              exact g_ret ⟨rfl, hIH431, hJH431, m445, m446, m447, m448, m449, m450, m451, m452, m453, m454, m455, (by rw [scn_2 (by first | with_reducible assumption | omega) (by rw [← q1, loo_e (by first | with_reducible assumption | omega)]; omega), ← q1, loo_e (by first | with_reducible assumption | omega)]; exact p444)⟩
          · refine g_aload_n rfl ?_
            refine g_gfr hIH377 sm_0 rfl ?_
            refine g_iload rfl ?_
            refine g_ialoadk hIH377 sm_9 rfl (by first | with_reducible assumption | omega) ev397 ?_
            refine g_istore (l' := [(0, .ref 0), (1, .int a1), (2, .int a2), (3, .int a3), (4, .int v391), (5, .int v397)]) rfl rfl ?_
            refine g_goto ?_
            exact ihL396 v397 (by first | with_reducible assumption | omega) (by rw [yv397]; exact (loo_st (show dpt (sSe s a1.toInt.toNat a3.toInt) from hp1) (by first | with_reducible assumption | omega) (by first | with_reducible assumption | omega) (by first | with_reducible assumption | omega)).trans q1) (by have := (top_st (show dpt (sSe s a1.toInt.toNat a3.toInt) from hp1) (t := v395.toInt.toNat) (by first | with_reducible assumption | omega) (by first | with_reducible assumption | omega)).2; rw [yv397]; omega)
    exact L396 _ a1 (by first | with_reducible assumption | omega) rfl (Nat.lt_succ_self _)
  · refine g_aload_n rfl ?_
    refine g_gfr hIH377 sm_0 rfl ?_
    refine g_iload rfl ?_
    refine g_iload_n rfl ?_
    refine g_iastore hIH377 sm_11 (by first | with_reducible assumption | omega) (gz_any _) (fun H456 eH456 hIH456 => ?_)
    have hJH456 : JM H456 := JM_sA (by decide) eH456 hJH377
    have m457 : ∀ a f, fZ H456 a f = fZ H a f := fun a f => (by rw [eH456, fZ_sA] : fZ H456 a f = fZ H377 a f).trans (m378 a f)
    have m458 : ∀ i, aZ H456 2 i = aZ H 2 i := fun i => (by rw [eH456, aZ_sA_nc (by first | with_reducible assumption | omega)] : aZ H456 2 i = aZ H377 2 i).trans (m379 i)
    have m459 : ∀ i, aZ H456 19 i = aZ H 19 i := fun i => (by rw [eH456, aZ_sA_nc (by first | with_reducible assumption | omega)] : aZ H456 19 i = aZ H377 19 i).trans (m380 i)
    have m460 : ∀ i, aZ H456 17 i = aZ H 17 i := fun i => (by rw [eH456, aZ_sA_nc (by first | with_reducible assumption | omega)] : aZ H456 17 i = aZ H377 17 i).trans (m381 i)
    have m461 : kpM H H456 := kpM_A m382 eH456 (by first | with_reducible assumption | omega)
    have m462 : ∀ i, aZ H456 18 i = aZ H 18 i := fun i => (by rw [eH456, aZ_sA_nc (by first | with_reducible assumption | omega)] : aZ H456 18 i = aZ H377 18 i).trans (m383 i)
    have m463 : ∀ i, aZ H456 20 i = aZ H 20 i := fun i => (by rw [eH456, aZ_sA_nc (by first | with_reducible assumption | omega)] : aZ H456 20 i = aZ H377 20 i).trans (m384 i)
    have m464 : ∀ i, aZ H456 22 i = aZ H 22 i := fun i => (by rw [eH456, aZ_sA_nc (by first | with_reducible assumption | omega)] : aZ H456 22 i = aZ H377 22 i).trans (m385 i)
    have m465 : ∀ i, aZ H456 23 i = aZ H 23 i := fun i => (by rw [eH456, aZ_sA_nc (by first | with_reducible assumption | omega)] : aZ H456 23 i = aZ H377 23 i).trans (m386 i)
    have m466 : ∀ i, aZ H456 24 i = aZ H 24 i := fun i => (by rw [eH456, aZ_sA_nc (by first | with_reducible assumption | omega)] : aZ H456 24 i = aZ H377 24 i).trans (m387 i)
    have m467 : ∀ i, aZ H456 25 i = aZ H 25 i := fun i => (by rw [eH456, aZ_sA_nc (by first | with_reducible assumption | omega)] : aZ H456 25 i = aZ H377 25 i).trans (m388 i)
    have wdH456 : rwX H456 (sLa (sSe s a1.toInt.toNat a3.toInt) v391.toInt.toNat a3.toInt) md := rw_11 hIH377 wdH377 eH456 (by first | with_reducible assumption | omega)
    exact g_ret ⟨rfl, hIH456, hJH456, m457, m458, m459, m460, m461, m462, m463, m464, m465, m466, m467, (by rw [scn_1 (by first | with_reducible assumption | omega), ← tnv391]; exact wdH456)⟩
set_option maxRecDepth 4000 in
set_option maxHeartbeats 4000000 in
/-- M.ends -/
theorem r_197 {s : pS} {md : Nat → Int} (a1 : Int32) (ha1 : 0 ≤ a1.toInt ∧ a1.toInt ≤ 39) (H : mzH) (hI : gI SM H) (hJ : JM H) (hp0 : rwX H s md) (hp1 : dpt s) : gCall 197 [.ref 0, .int a1] H (gRv (fun H' => gI SM H' ∧ JM H' ∧ (∀ a f, fZ H' a f = fZ H a f) ∧ (∀ i, aZ H' 2 i = aZ H 2 i) ∧ (∀ i, aZ H' 19 i = aZ H 19 i) ∧ (∀ i, aZ H' 17 i = aZ H 17 i) ∧ kpM H H' ∧ (∀ i, aZ H' 18 i = aZ H 18 i) ∧ (∀ i, aZ H' 20 i = aZ H 20 i) ∧ (∀ i, aZ H' 22 i = aZ H 22 i) ∧ (∀ i, aZ H' 23 i = aZ H 23 i) ∧ (∀ i, aZ H' 24 i = aZ H 24 i) ∧ (∀ i, aZ H' 25 i = aZ H 25 i) ∧ rwX H' (ens s a1.toInt) md)) := by
  have mkF : ∀ a f, fZ H a f = fZ H a f := fun _ _ => rfl
  have mk2 : ∀ i, aZ H 2 i = aZ H 2 i := fun _ => rfl
  have mk19 : ∀ i, aZ H 19 i = aZ H 19 i := fun _ => rfl
  have mk17 : ∀ i, aZ H 17 i = aZ H 17 i := fun _ => rfl
  have mkfr : kpM H H := kpM_r
  have mk18 : ∀ i, aZ H 18 i = aZ H 18 i := fun _ => rfl
  have mk20 : ∀ i, aZ H 20 i = aZ H 20 i := fun _ => rfl
  have mk22 : ∀ i, aZ H 22 i = aZ H 22 i := fun _ => rfl
  have mk23 : ∀ i, aZ H 23 i = aZ H 23 i := fun _ => rfl
  have mk24 : ∀ i, aZ H 24 i = aZ H 24 i := fun _ => rfl
  have mk25 : ∀ i, aZ H 25 i = aZ H 25 i := fun _ => rfl
  refine gG_call [(0, .ref 0), (1, .int a1)] ⟨rfl, rfl, trivial⟩ ?_
  show gG 3 zB_197 (mzBlk zB_197 0) [(0, .ref 0), (1, .int a1)] [] H 0 0 _
  refine g_iconst (by decide) (fun v1577 kv1577 => ?_)
  refine g_istore_n (l' := [(0, .ref 0), (1, .int a1), (2, .int v1577)]) rfl rfl ?_
  refine g_nop ?_
  have L1591 : ∀ (N : Nat) (v1578 : Int32) (H1579 : mzH), gI SM H1579 → JM H1579 → (∀ a f, fZ H1579 a f = fZ H a f) → (∀ i, aZ H1579 2 i = aZ H 2 i) → (∀ i, aZ H1579 19 i = aZ H 19 i) → (∀ i, aZ H1579 17 i = aZ H 17 i) → kpM H H1579 → (∀ i, aZ H1579 18 i = aZ H 18 i) → (∀ i, aZ H1579 20 i = aZ H 20 i) → (∀ i, aZ H1579 22 i = aZ H 22 i) → (∀ i, aZ H1579 23 i = aZ H 23 i) → (∀ i, aZ H1579 24 i = aZ H 24 i) → (∀ i, aZ H1579 25 i = aZ H 25 i) → (0 ≤ v1578.toInt ∧ v1578.toInt ≤ 40) → rwX H1579 s md → (∀ x : Nat, x < v1578.toInt.toNat → (aZ H1579 21 x).toInt = gos s a1.toInt x) → (40 - v1578.toInt).toNat < N → gG 3 zB_197 (mzBlk zB_197 1) [(0, .ref 0), (1, .int a1), (2, .int v1578)] [] H1579 0 0 (gRv (fun H' => gI SM H' ∧ JM H' ∧ (∀ a f, fZ H' a f = fZ H a f) ∧ (∀ i, aZ H' 2 i = aZ H 2 i) ∧ (∀ i, aZ H' 19 i = aZ H 19 i) ∧ (∀ i, aZ H' 17 i = aZ H 17 i) ∧ kpM H H' ∧ (∀ i, aZ H' 18 i = aZ H 18 i) ∧ (∀ i, aZ H' 20 i = aZ H 20 i) ∧ (∀ i, aZ H' 22 i = aZ H 22 i) ∧ (∀ i, aZ H' 23 i = aZ H 23 i) ∧ (∀ i, aZ H' 24 i = aZ H 24 i) ∧ (∀ i, aZ H' 25 i = aZ H 25 i) ∧ rwX H' (ens s a1.toInt) md)) := by
    intro N
    induction N with
    | zero => intro v1578 H1579 hIH1579 hJH1579 m1580 m1581 m1582 m1583 m1584 m1585 m1586 m1587 m1588 m1589 m1590 bv1578 q0 q1 hmL1591; exact absurd hmL1591 (Nat.not_lt_zero _)
    | succ N ihL1591 =>
      intro v1578 H1579 hIH1579 hJH1579 m1580 m1581 m1582 m1583 m1584 m1585 m1586 m1587 m1588 m1589 m1590 bv1578 q0 q1 hmL1591
      refine g_iload_n rfl ?_
      refine g_bipush (by decide) (fun v1592 kv1592 => ?_)
      refine g_if2_ge (fun c1593 => ?_) (fun c1593 => ?_)
      · refine g_aload_n rfl ?_
        refine g_gfr hIH1579 sm_0 rfl ?_
        refine g_iload_n rfl ?_
        refine g_iaload hIH1579 sm_9 rfl (by first | with_reducible assumption | omega) (fun v1594 ev1594 lv1594 uv1594 => ?_)
        have qv1594 := JM_in hJH1579 (by first | with_reducible assumption | omega) ev1594
        have yv1594 : v1594.toInt = (aZ H1579 9 a1.toInt.toNat).toInt := by rw [ev1594]
        have yv1594 : v1594.toInt = (s).ii a1.toInt.toNat := by rw [ev1594]; exact (q0 _ (by first | with_reducible assumption | omega)).2.2.1
        have ddv1594 := dpt_1 (show dpt s from hp1) (n := a1.toInt.toNat) (by first | with_reducible assumption | omega)
        refine g_bipush (by decide) (fun v1595 kv1595 => ?_)
        refine g_if2_eq (fun c1596 => ?_) (fun c1596 => ?_)
        · refine g_iconst (by decide) (fun v1597 kv1597 => ?_)
          refine g_istore_n (l' := [(0, .ref 0), (1, .int a1), (2, .int v1597)]) rfl rfl ?_
          refine g_nop ?_
          have L1611 : ∀ (N : Nat) (v1598 : Int32) (H1599 : mzH), gI SM H1599 → JM H1599 → (∀ a f, fZ H1599 a f = fZ H a f) → (∀ i, aZ H1599 2 i = aZ H 2 i) → (∀ i, aZ H1599 19 i = aZ H 19 i) → (∀ i, aZ H1599 17 i = aZ H 17 i) → kpM H H1599 → (∀ i, aZ H1599 18 i = aZ H 18 i) → (∀ i, aZ H1599 20 i = aZ H 20 i) → (∀ i, aZ H1599 22 i = aZ H 22 i) → (∀ i, aZ H1599 23 i = aZ H 23 i) → (∀ i, aZ H1599 24 i = aZ H 24 i) → (∀ i, aZ H1599 25 i = aZ H 25 i) → (0 ≤ v1598.toInt ∧ v1598.toInt ≤ 40) → rwX H1599 (sN (gos s a1.toInt) (opM s a1.toInt.toNat) v1598.toInt.toNat) md → (∀ x : Nat, x < 40 → (aZ H1599 21 x).toInt = gos s a1.toInt x) → (40 - v1598.toInt).toNat < N → gG 3 zB_197 (mzBlk zB_197 7) [(0, .ref 0), (1, .int a1), (2, .int v1598)] [] H1599 0 0 (gRv (fun H' => gI SM H' ∧ JM H' ∧ (∀ a f, fZ H' a f = fZ H a f) ∧ (∀ i, aZ H' 2 i = aZ H 2 i) ∧ (∀ i, aZ H' 19 i = aZ H 19 i) ∧ (∀ i, aZ H' 17 i = aZ H 17 i) ∧ kpM H H' ∧ (∀ i, aZ H' 18 i = aZ H 18 i) ∧ (∀ i, aZ H' 20 i = aZ H 20 i) ∧ (∀ i, aZ H' 22 i = aZ H 22 i) ∧ (∀ i, aZ H' 23 i = aZ H 23 i) ∧ (∀ i, aZ H' 24 i = aZ H 24 i) ∧ (∀ i, aZ H' 25 i = aZ H 25 i) ∧ rwX H' (ens s a1.toInt) md)) := by
            intro N
            induction N with
            | zero => intro v1598 H1599 hIH1599 hJH1599 m1600 m1601 m1602 m1603 m1604 m1605 m1606 m1607 m1608 m1609 m1610 bv1598 q2 q3 hmL1611; exact absurd hmL1611 (Nat.not_lt_zero _)
            | succ N ihL1611 =>
              intro v1598 H1599 hIH1599 hJH1599 m1600 m1601 m1602 m1603 m1604 m1605 m1606 m1607 m1608 m1609 m1610 bv1598 q2 q3 hmL1611
              refine g_iload_n rfl ?_
              refine g_bipush (by decide) (fun v1612 kv1612 => ?_)
              refine g_if2_ge (fun c1613 => ?_) (fun c1613 => ?_)
              · exact g_ret ⟨rfl, hIH1599, hJH1599, m1600, m1601, m1602, m1603, m1604, m1605, m1606, m1607, m1608, m1609, m1610, (en_end q2 (by first | with_reducible assumption | omega) (by first | with_reducible assumption | omega))⟩
              · refine g_aload_n rfl ?_
                refine g_gfr hIH1599 sm_0 rfl ?_
                refine g_iload_n rfl ?_
                refine g_baload hIH1599 sm_21 rfl (by first | with_reducible assumption | omega) (fun v1614 ev1614 lv1614 uv1614 => ?_)
                have gqv1614 : v1614.toInt = gos s a1.toInt v1598.toInt.toNat := by rw [ev1614]; exact q3 _ (by first | with_reducible assumption | omega)
                refine g_if_ne (fun c1615 => ?_) (fun c1615 => ?_)
                · refine g_aload_n rfl ?_
                  refine g_gfr hIH1599 sm_0 rfl ?_
                  refine g_iload_n rfl ?_
                  refine g_iconst (by decide) (fun v1616 kv1616 => ?_)
                  refine g_zastore hIH1599 sm_16 (by first | with_reducible assumption | omega) (by first | with_reducible assumption | omega) (fun H1617 eH1617 hIH1617 => ?_)
                  have hJH1617 : JM H1617 := JM_sA (by decide) eH1617 hJH1599
                  have m1618 : ∀ a f, fZ H1617 a f = fZ H a f := fun a f => (by rw [eH1617, fZ_sA] : fZ H1617 a f = fZ H1599 a f).trans (m1600 a f)
                  have m1619 : ∀ i, aZ H1617 2 i = aZ H 2 i := fun i => (by rw [eH1617, aZ_sA_nc (by first | with_reducible assumption | omega)] : aZ H1617 2 i = aZ H1599 2 i).trans (m1601 i)
                  have m1620 : ∀ i, aZ H1617 19 i = aZ H 19 i := fun i => (by rw [eH1617, aZ_sA_nc (by first | with_reducible assumption | omega)] : aZ H1617 19 i = aZ H1599 19 i).trans (m1602 i)
                  have m1621 : ∀ i, aZ H1617 17 i = aZ H 17 i := fun i => (by rw [eH1617, aZ_sA_nc (by first | with_reducible assumption | omega)] : aZ H1617 17 i = aZ H1599 17 i).trans (m1603 i)
                  have m1622 : kpM H H1617 := kpM_A m1604 eH1617 (by first | with_reducible assumption | omega)
                  have m1623 : ∀ i, aZ H1617 18 i = aZ H 18 i := fun i => (by rw [eH1617, aZ_sA_nc (by first | with_reducible assumption | omega)] : aZ H1617 18 i = aZ H1599 18 i).trans (m1605 i)
                  have m1624 : ∀ i, aZ H1617 20 i = aZ H 20 i := fun i => (by rw [eH1617, aZ_sA_nc (by first | with_reducible assumption | omega)] : aZ H1617 20 i = aZ H1599 20 i).trans (m1606 i)
                  have m1625 : ∀ i, aZ H1617 22 i = aZ H 22 i := fun i => (by rw [eH1617, aZ_sA_nc (by first | with_reducible assumption | omega)] : aZ H1617 22 i = aZ H1599 22 i).trans (m1607 i)
                  have m1626 : ∀ i, aZ H1617 23 i = aZ H 23 i := fun i => (by rw [eH1617, aZ_sA_nc (by first | with_reducible assumption | omega)] : aZ H1617 23 i = aZ H1599 23 i).trans (m1608 i)
                  have m1627 : ∀ i, aZ H1617 24 i = aZ H 24 i := fun i => (by rw [eH1617, aZ_sA_nc (by first | with_reducible assumption | omega)] : aZ H1617 24 i = aZ H1599 24 i).trans (m1609 i)
                  have m1628 : ∀ i, aZ H1617 25 i = aZ H 25 i := fun i => (by rw [eH1617, aZ_sA_nc (by first | with_reducible assumption | omega)] : aZ H1617 25 i = aZ H1599 25 i).trans (m1610 i)
                  have wdH1617 : rwX H1617 (sEn (sN (gos s a1.toInt) (opM s a1.toInt.toNat) v1598.toInt.toNat) v1598.toInt.toNat v1616.toInt) md := rw_16 hIH1599 q2 eH1617 (by first | with_reducible assumption | omega)
                  refine g_aload_n rfl ?_
                  refine g_gfr hIH1617 sm_0 rfl ?_
                  refine g_iload_n rfl ?_
                  refine g_bipush (by decide) (fun v1629 kv1629 => ?_)
                  refine g_iastore hIH1617 sm_9 (by first | with_reducible assumption | omega) (by first | with_reducible assumption | omega) (fun H1630 eH1630 hIH1630 => ?_)
                  have hJH1630 : JM H1630 := JM_out hIH1617 hJH1617 (by first | with_reducible assumption | omega) (by first | with_reducible assumption | omega) eH1630
                  have m1631 : ∀ a f, fZ H1630 a f = fZ H a f := fun a f => (by rw [eH1630, fZ_sA] : fZ H1630 a f = fZ H1617 a f).trans (m1618 a f)
                  have m1632 : ∀ i, aZ H1630 2 i = aZ H 2 i := fun i => (by rw [eH1630, aZ_sA_nc (by first | with_reducible assumption | omega)] : aZ H1630 2 i = aZ H1617 2 i).trans (m1619 i)
                  have m1633 : ∀ i, aZ H1630 19 i = aZ H 19 i := fun i => (by rw [eH1630, aZ_sA_nc (by first | with_reducible assumption | omega)] : aZ H1630 19 i = aZ H1617 19 i).trans (m1620 i)
                  have m1634 : ∀ i, aZ H1630 17 i = aZ H 17 i := fun i => (by rw [eH1630, aZ_sA_nc (by first | with_reducible assumption | omega)] : aZ H1630 17 i = aZ H1617 17 i).trans (m1621 i)
                  have m1635 : kpM H H1630 := kpM_A m1622 eH1630 (by first | with_reducible assumption | omega)
                  have m1636 : ∀ i, aZ H1630 18 i = aZ H 18 i := fun i => (by rw [eH1630, aZ_sA_nc (by first | with_reducible assumption | omega)] : aZ H1630 18 i = aZ H1617 18 i).trans (m1623 i)
                  have m1637 : ∀ i, aZ H1630 20 i = aZ H 20 i := fun i => (by rw [eH1630, aZ_sA_nc (by first | with_reducible assumption | omega)] : aZ H1630 20 i = aZ H1617 20 i).trans (m1624 i)
                  have m1638 : ∀ i, aZ H1630 22 i = aZ H 22 i := fun i => (by rw [eH1630, aZ_sA_nc (by first | with_reducible assumption | omega)] : aZ H1630 22 i = aZ H1617 22 i).trans (m1625 i)
                  have m1639 : ∀ i, aZ H1630 23 i = aZ H 23 i := fun i => (by rw [eH1630, aZ_sA_nc (by first | with_reducible assumption | omega)] : aZ H1630 23 i = aZ H1617 23 i).trans (m1626 i)
                  have m1640 : ∀ i, aZ H1630 24 i = aZ H 24 i := fun i => (by rw [eH1630, aZ_sA_nc (by first | with_reducible assumption | omega)] : aZ H1630 24 i = aZ H1617 24 i).trans (m1627 i)
                  have m1641 : ∀ i, aZ H1630 25 i = aZ H 25 i := fun i => (by rw [eH1630, aZ_sA_nc (by first | with_reducible assumption | omega)] : aZ H1630 25 i = aZ H1617 25 i).trans (m1628 i)
                  have wdH1630 : rwX H1630 (sII (sEn (sN (gos s a1.toInt) (opM s a1.toInt.toNat) v1598.toInt.toNat) v1598.toInt.toNat v1616.toInt) v1598.toInt.toNat v1629.toInt) md := rw_9 hIH1617 wdH1617 eH1630 (by first | with_reducible assumption | omega)
                  refine g_aload_n rfl ?_
                  refine g_gfr hIH1630 sm_0 rfl ?_
                  refine g_iload_n rfl ?_
                  refine g_iconst (by decide) (fun v1642 kv1642 => ?_)
                  refine g_zastore hIH1630 sm_13 (by first | with_reducible assumption | omega) (by first | with_reducible assumption | omega) (fun H1643 eH1643 hIH1643 => ?_)
                  have hJH1643 : JM H1643 := JM_sA (by decide) eH1643 hJH1630
                  have m1644 : ∀ a f, fZ H1643 a f = fZ H a f := fun a f => (by rw [eH1643, fZ_sA] : fZ H1643 a f = fZ H1630 a f).trans (m1631 a f)
                  have m1645 : ∀ i, aZ H1643 2 i = aZ H 2 i := fun i => (by rw [eH1643, aZ_sA_nc (by first | with_reducible assumption | omega)] : aZ H1643 2 i = aZ H1630 2 i).trans (m1632 i)
                  have m1646 : ∀ i, aZ H1643 19 i = aZ H 19 i := fun i => (by rw [eH1643, aZ_sA_nc (by first | with_reducible assumption | omega)] : aZ H1643 19 i = aZ H1630 19 i).trans (m1633 i)
                  have m1647 : ∀ i, aZ H1643 17 i = aZ H 17 i := fun i => (by rw [eH1643, aZ_sA_nc (by first | with_reducible assumption | omega)] : aZ H1643 17 i = aZ H1630 17 i).trans (m1634 i)
                  have m1648 : kpM H H1643 := kpM_A m1635 eH1643 (by first | with_reducible assumption | omega)
                  have m1649 : ∀ i, aZ H1643 18 i = aZ H 18 i := fun i => (by rw [eH1643, aZ_sA_nc (by first | with_reducible assumption | omega)] : aZ H1643 18 i = aZ H1630 18 i).trans (m1636 i)
                  have m1650 : ∀ i, aZ H1643 20 i = aZ H 20 i := fun i => (by rw [eH1643, aZ_sA_nc (by first | with_reducible assumption | omega)] : aZ H1643 20 i = aZ H1630 20 i).trans (m1637 i)
                  have m1651 : ∀ i, aZ H1643 22 i = aZ H 22 i := fun i => (by rw [eH1643, aZ_sA_nc (by first | with_reducible assumption | omega)] : aZ H1643 22 i = aZ H1630 22 i).trans (m1638 i)
                  have m1652 : ∀ i, aZ H1643 23 i = aZ H 23 i := fun i => (by rw [eH1643, aZ_sA_nc (by first | with_reducible assumption | omega)] : aZ H1643 23 i = aZ H1630 23 i).trans (m1639 i)
                  have m1653 : ∀ i, aZ H1643 24 i = aZ H 24 i := fun i => (by rw [eH1643, aZ_sA_nc (by first | with_reducible assumption | omega)] : aZ H1643 24 i = aZ H1630 24 i).trans (m1640 i)
                  have m1654 : ∀ i, aZ H1643 25 i = aZ H 25 i := fun i => (by rw [eH1643, aZ_sA_nc (by first | with_reducible assumption | omega)] : aZ H1643 25 i = aZ H1630 25 i).trans (m1641 i)
                  have wdH1643 : rwX H1643 (sOp (sII (sEn (sN (gos s a1.toInt) (opM s a1.toInt.toNat) v1598.toInt.toNat) v1598.toInt.toNat v1616.toInt) v1598.toInt.toNat v1629.toInt) v1598.toInt.toNat v1642.toInt) md := rw_13 hIH1630 wdH1630 eH1643 (by first | with_reducible assumption | omega)
                  refine g_aload_n rfl ?_
                  refine g_gfr hIH1643 sm_0 rfl ?_
                  refine g_iload_n rfl ?_
                  refine g_iconst (by decide) (fun v1655 kv1655 => ?_)
                  refine g_zastore hIH1643 sm_14 (by first | with_reducible assumption | omega) (by first | with_reducible assumption | omega) (fun H1656 eH1656 hIH1656 => ?_)
                  have hJH1656 : JM H1656 := JM_sA (by decide) eH1656 hJH1643
                  have m1657 : ∀ a f, fZ H1656 a f = fZ H a f := fun a f => (by rw [eH1656, fZ_sA] : fZ H1656 a f = fZ H1643 a f).trans (m1644 a f)
                  have m1658 : ∀ i, aZ H1656 2 i = aZ H 2 i := fun i => (by rw [eH1656, aZ_sA_nc (by first | with_reducible assumption | omega)] : aZ H1656 2 i = aZ H1643 2 i).trans (m1645 i)
                  have m1659 : ∀ i, aZ H1656 19 i = aZ H 19 i := fun i => (by rw [eH1656, aZ_sA_nc (by first | with_reducible assumption | omega)] : aZ H1656 19 i = aZ H1643 19 i).trans (m1646 i)
                  have m1660 : ∀ i, aZ H1656 17 i = aZ H 17 i := fun i => (by rw [eH1656, aZ_sA_nc (by first | with_reducible assumption | omega)] : aZ H1656 17 i = aZ H1643 17 i).trans (m1647 i)
                  have m1661 : kpM H H1656 := kpM_A m1648 eH1656 (by first | with_reducible assumption | omega)
                  have m1662 : ∀ i, aZ H1656 18 i = aZ H 18 i := fun i => (by rw [eH1656, aZ_sA_nc (by first | with_reducible assumption | omega)] : aZ H1656 18 i = aZ H1643 18 i).trans (m1649 i)
                  have m1663 : ∀ i, aZ H1656 20 i = aZ H 20 i := fun i => (by rw [eH1656, aZ_sA_nc (by first | with_reducible assumption | omega)] : aZ H1656 20 i = aZ H1643 20 i).trans (m1650 i)
                  have m1664 : ∀ i, aZ H1656 22 i = aZ H 22 i := fun i => (by rw [eH1656, aZ_sA_nc (by first | with_reducible assumption | omega)] : aZ H1656 22 i = aZ H1643 22 i).trans (m1651 i)
                  have m1665 : ∀ i, aZ H1656 23 i = aZ H 23 i := fun i => (by rw [eH1656, aZ_sA_nc (by first | with_reducible assumption | omega)] : aZ H1656 23 i = aZ H1643 23 i).trans (m1652 i)
                  have m1666 : ∀ i, aZ H1656 24 i = aZ H 24 i := fun i => (by rw [eH1656, aZ_sA_nc (by first | with_reducible assumption | omega)] : aZ H1656 24 i = aZ H1643 24 i).trans (m1653 i)
                  have m1667 : ∀ i, aZ H1656 25 i = aZ H 25 i := fun i => (by rw [eH1656, aZ_sA_nc (by first | with_reducible assumption | omega)] : aZ H1656 25 i = aZ H1643 25 i).trans (m1654 i)
                  have wdH1656 : rwX H1656 (sHe (sOp (sII (sEn (sN (gos s a1.toInt) (opM s a1.toInt.toNat) v1598.toInt.toNat) v1598.toInt.toNat v1616.toInt) v1598.toInt.toNat v1629.toInt) v1598.toInt.toNat v1642.toInt) v1598.toInt.toNat v1655.toInt) md := rw_14 hIH1643 wdH1643 eH1656 (by first | with_reducible assumption | omega)
                  refine g_aload_n rfl ?_
                  refine g_gfr hIH1656 sm_0 rfl ?_
                  refine g_iload_n rfl ?_
                  refine g_iconst (by decide) (fun v1668 kv1668 => ?_)
                  refine g_zastore hIH1656 sm_15 (by first | with_reducible assumption | omega) (by first | with_reducible assumption | omega) (fun H1669 eH1669 hIH1669 => ?_)
                  have hJH1669 : JM H1669 := JM_sA (by decide) eH1669 hJH1656
                  have m1670 : ∀ a f, fZ H1669 a f = fZ H a f := fun a f => (by rw [eH1669, fZ_sA] : fZ H1669 a f = fZ H1656 a f).trans (m1657 a f)
                  have m1671 : ∀ i, aZ H1669 2 i = aZ H 2 i := fun i => (by rw [eH1669, aZ_sA_nc (by first | with_reducible assumption | omega)] : aZ H1669 2 i = aZ H1656 2 i).trans (m1658 i)
                  have m1672 : ∀ i, aZ H1669 19 i = aZ H 19 i := fun i => (by rw [eH1669, aZ_sA_nc (by first | with_reducible assumption | omega)] : aZ H1669 19 i = aZ H1656 19 i).trans (m1659 i)
                  have m1673 : ∀ i, aZ H1669 17 i = aZ H 17 i := fun i => (by rw [eH1669, aZ_sA_nc (by first | with_reducible assumption | omega)] : aZ H1669 17 i = aZ H1656 17 i).trans (m1660 i)
                  have m1674 : kpM H H1669 := kpM_A m1661 eH1669 (by first | with_reducible assumption | omega)
                  have m1675 : ∀ i, aZ H1669 18 i = aZ H 18 i := fun i => (by rw [eH1669, aZ_sA_nc (by first | with_reducible assumption | omega)] : aZ H1669 18 i = aZ H1656 18 i).trans (m1662 i)
                  have m1676 : ∀ i, aZ H1669 20 i = aZ H 20 i := fun i => (by rw [eH1669, aZ_sA_nc (by first | with_reducible assumption | omega)] : aZ H1669 20 i = aZ H1656 20 i).trans (m1663 i)
                  have m1677 : ∀ i, aZ H1669 22 i = aZ H 22 i := fun i => (by rw [eH1669, aZ_sA_nc (by first | with_reducible assumption | omega)] : aZ H1669 22 i = aZ H1656 22 i).trans (m1664 i)
                  have m1678 : ∀ i, aZ H1669 23 i = aZ H 23 i := fun i => (by rw [eH1669, aZ_sA_nc (by first | with_reducible assumption | omega)] : aZ H1669 23 i = aZ H1656 23 i).trans (m1665 i)
                  have m1679 : ∀ i, aZ H1669 24 i = aZ H 24 i := fun i => (by rw [eH1669, aZ_sA_nc (by first | with_reducible assumption | omega)] : aZ H1669 24 i = aZ H1656 24 i).trans (m1666 i)
                  have m1680 : ∀ i, aZ H1669 25 i = aZ H 25 i := fun i => (by rw [eH1669, aZ_sA_nc (by first | with_reducible assumption | omega)] : aZ H1669 25 i = aZ H1656 25 i).trans (m1667 i)
                  have wdH1669 : rwX H1669 (sSo (sHe (sOp (sII (sEn (sN (gos s a1.toInt) (opM s a1.toInt.toNat) v1598.toInt.toNat) v1598.toInt.toNat v1616.toInt) v1598.toInt.toNat v1629.toInt) v1598.toInt.toNat v1642.toInt) v1598.toInt.toNat v1655.toInt) v1598.toInt.toNat v1668.toInt) md := rw_15 hIH1656 wdH1656 eH1669 (by first | with_reducible assumption | omega)
                  refine g_nop ?_
                  refine g_iinc (l' := (fun v1681 => [(0, .ref 0), (1, .int a1), (2, .int v1681)])) rfl rfl (by decide) (by first | with_reducible assumption | omega) (fun _ => rfl) (fun v1681 ev1681 => ?_)
                  refine g_goto ?_
                  exact ihL1611 v1681 H1669 hIH1669 hJH1669 m1670 m1671 m1672 m1673 m1674 m1675 m1676 m1677 m1678 m1679 m1680 (by first | with_reducible assumption | omega) (sN_y (by first | with_reducible assumption | omega) (by first | with_reducible assumption | omega) (by first | with_reducible assumption | omega) (by first | with_reducible assumption | omega) (by first | with_reducible assumption | omega) (by first | with_reducible assumption | omega) (by first | with_reducible assumption | omega) wdH1669) (fun x hx => by rw [eH1669, aZ_sA_nc (by decide), eH1656, aZ_sA_nc (by decide), eH1643, aZ_sA_nc (by decide), eH1630, aZ_sA_nc (by decide), eH1617, aZ_sA_nc (by decide)]; exact q3 x (by first | with_reducible assumption | omega)) (by first | with_reducible assumption | omega)
                · refine g_goto ?_
                  refine g_iinc (l' := (fun v1682 => [(0, .ref 0), (1, .int a1), (2, .int v1682)])) rfl rfl (by decide) (by first | with_reducible assumption | omega) (fun _ => rfl) (fun v1682 ev1682 => ?_)
                  refine g_goto ?_
                  exact ihL1611 v1682 H1599 hIH1599 hJH1599 m1600 m1601 m1602 m1603 m1604 m1605 m1606 m1607 m1608 m1609 m1610 (by first | with_reducible assumption | omega) (sN_n (by first | with_reducible assumption | omega) (by first | with_reducible assumption | omega) q2) q3 (by first | with_reducible assumption | omega)
          exact L1611 _ v1597 H1579 hIH1579 hJH1579 m1580 m1581 m1582 m1583 m1584 m1585 m1586 m1587 m1588 m1589 m1590 (by first | with_reducible assumption | omega) (sN_0 (om_0 (by first | with_reducible assumption | omega) q0) (by first | with_reducible assumption | omega)) (fun x hx => q1 x (by first | with_reducible assumption | omega)) (Nat.lt_succ_self _)
        · refine g_aload_n rfl ?_
          refine g_gfr hIH1579 sm_0 rfl ?_
          refine g_aload_n rfl ?_
          refine g_gfr hIH1579 sm_0 rfl ?_
          refine g_iload_n rfl ?_
          refine g_ialoadk hIH1579 sm_9 rfl (by first | with_reducible assumption | omega) ev1594 ?_
          refine g_iconst (by decide) (fun v1683 kv1683 => ?_)
          refine g_zastore hIH1579 sm_13 (by first | with_reducible assumption | omega) (by first | with_reducible assumption | omega) (fun H1684 eH1684 hIH1684 => ?_)
          have hJH1684 : JM H1684 := JM_sA (by decide) eH1684 hJH1579
          have m1685 : ∀ a f, fZ H1684 a f = fZ H a f := fun a f => (by rw [eH1684, fZ_sA] : fZ H1684 a f = fZ H1579 a f).trans (m1580 a f)
          have m1686 : ∀ i, aZ H1684 2 i = aZ H 2 i := fun i => (by rw [eH1684, aZ_sA_nc (by first | with_reducible assumption | omega)] : aZ H1684 2 i = aZ H1579 2 i).trans (m1581 i)
          have m1687 : ∀ i, aZ H1684 19 i = aZ H 19 i := fun i => (by rw [eH1684, aZ_sA_nc (by first | with_reducible assumption | omega)] : aZ H1684 19 i = aZ H1579 19 i).trans (m1582 i)
          have m1688 : ∀ i, aZ H1684 17 i = aZ H 17 i := fun i => (by rw [eH1684, aZ_sA_nc (by first | with_reducible assumption | omega)] : aZ H1684 17 i = aZ H1579 17 i).trans (m1583 i)
          have m1689 : kpM H H1684 := kpM_A m1584 eH1684 (by first | with_reducible assumption | omega)
          have m1690 : ∀ i, aZ H1684 18 i = aZ H 18 i := fun i => (by rw [eH1684, aZ_sA_nc (by first | with_reducible assumption | omega)] : aZ H1684 18 i = aZ H1579 18 i).trans (m1585 i)
          have m1691 : ∀ i, aZ H1684 20 i = aZ H 20 i := fun i => (by rw [eH1684, aZ_sA_nc (by first | with_reducible assumption | omega)] : aZ H1684 20 i = aZ H1579 20 i).trans (m1586 i)
          have m1692 : ∀ i, aZ H1684 22 i = aZ H 22 i := fun i => (by rw [eH1684, aZ_sA_nc (by first | with_reducible assumption | omega)] : aZ H1684 22 i = aZ H1579 22 i).trans (m1587 i)
          have m1693 : ∀ i, aZ H1684 23 i = aZ H 23 i := fun i => (by rw [eH1684, aZ_sA_nc (by first | with_reducible assumption | omega)] : aZ H1684 23 i = aZ H1579 23 i).trans (m1588 i)
          have m1694 : ∀ i, aZ H1684 24 i = aZ H 24 i := fun i => (by rw [eH1684, aZ_sA_nc (by first | with_reducible assumption | omega)] : aZ H1684 24 i = aZ H1579 24 i).trans (m1589 i)
          have m1695 : ∀ i, aZ H1684 25 i = aZ H 25 i := fun i => (by rw [eH1684, aZ_sA_nc (by first | with_reducible assumption | omega)] : aZ H1684 25 i = aZ H1579 25 i).trans (m1590 i)
          have wdH1684 : rwX H1684 (sOp s v1594.toInt.toNat v1683.toInt) md := rw_13 hIH1579 q0 eH1684 (by first | with_reducible assumption | omega)
          refine g_nop ?_
          refine g_iconst (by decide) (fun v1696 kv1696 => ?_)
          refine g_istore_n (l' := [(0, .ref 0), (1, .int a1), (2, .int v1696)]) rfl rfl ?_
          refine g_nop ?_
          have L1710 : ∀ (N : Nat) (v1697 : Int32) (H1698 : mzH), gI SM H1698 → JM H1698 → (∀ a f, fZ H1698 a f = fZ H a f) → (∀ i, aZ H1698 2 i = aZ H 2 i) → (∀ i, aZ H1698 19 i = aZ H 19 i) → (∀ i, aZ H1698 17 i = aZ H 17 i) → kpM H H1698 → (∀ i, aZ H1698 18 i = aZ H 18 i) → (∀ i, aZ H1698 20 i = aZ H 20 i) → (∀ i, aZ H1698 22 i = aZ H 22 i) → (∀ i, aZ H1698 23 i = aZ H 23 i) → (∀ i, aZ H1698 24 i = aZ H 24 i) → (∀ i, aZ H1698 25 i = aZ H 25 i) → (0 ≤ v1697.toInt ∧ v1697.toInt ≤ 40) → rwX H1698 (sN (gos s a1.toInt) (opM s a1.toInt.toNat) v1697.toInt.toNat) md → (∀ x : Nat, x < 40 → (aZ H1698 21 x).toInt = gos s a1.toInt x) → (40 - v1697.toInt).toNat < N → gG 3 zB_197 (mzBlk zB_197 7) [(0, .ref 0), (1, .int a1), (2, .int v1697)] [] H1698 0 0 (gRv (fun H' => gI SM H' ∧ JM H' ∧ (∀ a f, fZ H' a f = fZ H a f) ∧ (∀ i, aZ H' 2 i = aZ H 2 i) ∧ (∀ i, aZ H' 19 i = aZ H 19 i) ∧ (∀ i, aZ H' 17 i = aZ H 17 i) ∧ kpM H H' ∧ (∀ i, aZ H' 18 i = aZ H 18 i) ∧ (∀ i, aZ H' 20 i = aZ H 20 i) ∧ (∀ i, aZ H' 22 i = aZ H 22 i) ∧ (∀ i, aZ H' 23 i = aZ H 23 i) ∧ (∀ i, aZ H' 24 i = aZ H 24 i) ∧ (∀ i, aZ H' 25 i = aZ H 25 i) ∧ rwX H' (ens s a1.toInt) md)) := by
            intro N
            induction N with
            | zero => intro v1697 H1698 hIH1698 hJH1698 m1699 m1700 m1701 m1702 m1703 m1704 m1705 m1706 m1707 m1708 m1709 bv1697 q2 q3 hmL1710; exact absurd hmL1710 (Nat.not_lt_zero _)
            | succ N ihL1710 =>
              intro v1697 H1698 hIH1698 hJH1698 m1699 m1700 m1701 m1702 m1703 m1704 m1705 m1706 m1707 m1708 m1709 bv1697 q2 q3 hmL1710
              refine g_iload_n rfl ?_
              refine g_bipush (by decide) (fun v1711 kv1711 => ?_)
              refine g_if2_ge (fun c1712 => ?_) (fun c1712 => ?_)
              · exact g_ret ⟨rfl, hIH1698, hJH1698, m1699, m1700, m1701, m1702, m1703, m1704, m1705, m1706, m1707, m1708, m1709, (en_end q2 (by first | with_reducible assumption | omega) (by first | with_reducible assumption | omega))⟩
              · refine g_aload_n rfl ?_
                refine g_gfr hIH1698 sm_0 rfl ?_
                refine g_iload_n rfl ?_
                refine g_baload hIH1698 sm_21 rfl (by first | with_reducible assumption | omega) (fun v1713 ev1713 lv1713 uv1713 => ?_)
                have gqv1713 : v1713.toInt = gos s a1.toInt v1697.toInt.toNat := by rw [ev1713]; exact q3 _ (by first | with_reducible assumption | omega)
                refine g_if_ne (fun c1714 => ?_) (fun c1714 => ?_)
                · refine g_aload_n rfl ?_
                  refine g_gfr hIH1698 sm_0 rfl ?_
                  refine g_iload_n rfl ?_
                  refine g_iconst (by decide) (fun v1715 kv1715 => ?_)
                  refine g_zastore hIH1698 sm_16 (by first | with_reducible assumption | omega) (by first | with_reducible assumption | omega) (fun H1716 eH1716 hIH1716 => ?_)
                  have hJH1716 : JM H1716 := JM_sA (by decide) eH1716 hJH1698
                  have m1717 : ∀ a f, fZ H1716 a f = fZ H a f := fun a f => (by rw [eH1716, fZ_sA] : fZ H1716 a f = fZ H1698 a f).trans (m1699 a f)
                  have m1718 : ∀ i, aZ H1716 2 i = aZ H 2 i := fun i => (by rw [eH1716, aZ_sA_nc (by first | with_reducible assumption | omega)] : aZ H1716 2 i = aZ H1698 2 i).trans (m1700 i)
                  have m1719 : ∀ i, aZ H1716 19 i = aZ H 19 i := fun i => (by rw [eH1716, aZ_sA_nc (by first | with_reducible assumption | omega)] : aZ H1716 19 i = aZ H1698 19 i).trans (m1701 i)
                  have m1720 : ∀ i, aZ H1716 17 i = aZ H 17 i := fun i => (by rw [eH1716, aZ_sA_nc (by first | with_reducible assumption | omega)] : aZ H1716 17 i = aZ H1698 17 i).trans (m1702 i)
                  have m1721 : kpM H H1716 := kpM_A m1703 eH1716 (by first | with_reducible assumption | omega)
                  have m1722 : ∀ i, aZ H1716 18 i = aZ H 18 i := fun i => (by rw [eH1716, aZ_sA_nc (by first | with_reducible assumption | omega)] : aZ H1716 18 i = aZ H1698 18 i).trans (m1704 i)
                  have m1723 : ∀ i, aZ H1716 20 i = aZ H 20 i := fun i => (by rw [eH1716, aZ_sA_nc (by first | with_reducible assumption | omega)] : aZ H1716 20 i = aZ H1698 20 i).trans (m1705 i)
                  have m1724 : ∀ i, aZ H1716 22 i = aZ H 22 i := fun i => (by rw [eH1716, aZ_sA_nc (by first | with_reducible assumption | omega)] : aZ H1716 22 i = aZ H1698 22 i).trans (m1706 i)
                  have m1725 : ∀ i, aZ H1716 23 i = aZ H 23 i := fun i => (by rw [eH1716, aZ_sA_nc (by first | with_reducible assumption | omega)] : aZ H1716 23 i = aZ H1698 23 i).trans (m1707 i)
                  have m1726 : ∀ i, aZ H1716 24 i = aZ H 24 i := fun i => (by rw [eH1716, aZ_sA_nc (by first | with_reducible assumption | omega)] : aZ H1716 24 i = aZ H1698 24 i).trans (m1708 i)
                  have m1727 : ∀ i, aZ H1716 25 i = aZ H 25 i := fun i => (by rw [eH1716, aZ_sA_nc (by first | with_reducible assumption | omega)] : aZ H1716 25 i = aZ H1698 25 i).trans (m1709 i)
                  have wdH1716 : rwX H1716 (sEn (sN (gos s a1.toInt) (opM s a1.toInt.toNat) v1697.toInt.toNat) v1697.toInt.toNat v1715.toInt) md := rw_16 hIH1698 q2 eH1716 (by first | with_reducible assumption | omega)
                  refine g_aload_n rfl ?_
                  refine g_gfr hIH1716 sm_0 rfl ?_
                  refine g_iload_n rfl ?_
                  refine g_bipush (by decide) (fun v1728 kv1728 => ?_)
                  refine g_iastore hIH1716 sm_9 (by first | with_reducible assumption | omega) (by first | with_reducible assumption | omega) (fun H1729 eH1729 hIH1729 => ?_)
                  have hJH1729 : JM H1729 := JM_out hIH1716 hJH1716 (by first | with_reducible assumption | omega) (by first | with_reducible assumption | omega) eH1729
                  have m1730 : ∀ a f, fZ H1729 a f = fZ H a f := fun a f => (by rw [eH1729, fZ_sA] : fZ H1729 a f = fZ H1716 a f).trans (m1717 a f)
                  have m1731 : ∀ i, aZ H1729 2 i = aZ H 2 i := fun i => (by rw [eH1729, aZ_sA_nc (by first | with_reducible assumption | omega)] : aZ H1729 2 i = aZ H1716 2 i).trans (m1718 i)
                  have m1732 : ∀ i, aZ H1729 19 i = aZ H 19 i := fun i => (by rw [eH1729, aZ_sA_nc (by first | with_reducible assumption | omega)] : aZ H1729 19 i = aZ H1716 19 i).trans (m1719 i)
                  have m1733 : ∀ i, aZ H1729 17 i = aZ H 17 i := fun i => (by rw [eH1729, aZ_sA_nc (by first | with_reducible assumption | omega)] : aZ H1729 17 i = aZ H1716 17 i).trans (m1720 i)
                  have m1734 : kpM H H1729 := kpM_A m1721 eH1729 (by first | with_reducible assumption | omega)
                  have m1735 : ∀ i, aZ H1729 18 i = aZ H 18 i := fun i => (by rw [eH1729, aZ_sA_nc (by first | with_reducible assumption | omega)] : aZ H1729 18 i = aZ H1716 18 i).trans (m1722 i)
                  have m1736 : ∀ i, aZ H1729 20 i = aZ H 20 i := fun i => (by rw [eH1729, aZ_sA_nc (by first | with_reducible assumption | omega)] : aZ H1729 20 i = aZ H1716 20 i).trans (m1723 i)
                  have m1737 : ∀ i, aZ H1729 22 i = aZ H 22 i := fun i => (by rw [eH1729, aZ_sA_nc (by first | with_reducible assumption | omega)] : aZ H1729 22 i = aZ H1716 22 i).trans (m1724 i)
                  have m1738 : ∀ i, aZ H1729 23 i = aZ H 23 i := fun i => (by rw [eH1729, aZ_sA_nc (by first | with_reducible assumption | omega)] : aZ H1729 23 i = aZ H1716 23 i).trans (m1725 i)
                  have m1739 : ∀ i, aZ H1729 24 i = aZ H 24 i := fun i => (by rw [eH1729, aZ_sA_nc (by first | with_reducible assumption | omega)] : aZ H1729 24 i = aZ H1716 24 i).trans (m1726 i)
                  have m1740 : ∀ i, aZ H1729 25 i = aZ H 25 i := fun i => (by rw [eH1729, aZ_sA_nc (by first | with_reducible assumption | omega)] : aZ H1729 25 i = aZ H1716 25 i).trans (m1727 i)
                  have wdH1729 : rwX H1729 (sII (sEn (sN (gos s a1.toInt) (opM s a1.toInt.toNat) v1697.toInt.toNat) v1697.toInt.toNat v1715.toInt) v1697.toInt.toNat v1728.toInt) md := rw_9 hIH1716 wdH1716 eH1729 (by first | with_reducible assumption | omega)
                  refine g_aload_n rfl ?_
                  refine g_gfr hIH1729 sm_0 rfl ?_
                  refine g_iload_n rfl ?_
                  refine g_iconst (by decide) (fun v1741 kv1741 => ?_)
                  refine g_zastore hIH1729 sm_13 (by first | with_reducible assumption | omega) (by first | with_reducible assumption | omega) (fun H1742 eH1742 hIH1742 => ?_)
                  have hJH1742 : JM H1742 := JM_sA (by decide) eH1742 hJH1729
                  have m1743 : ∀ a f, fZ H1742 a f = fZ H a f := fun a f => (by rw [eH1742, fZ_sA] : fZ H1742 a f = fZ H1729 a f).trans (m1730 a f)
                  have m1744 : ∀ i, aZ H1742 2 i = aZ H 2 i := fun i => (by rw [eH1742, aZ_sA_nc (by first | with_reducible assumption | omega)] : aZ H1742 2 i = aZ H1729 2 i).trans (m1731 i)
                  have m1745 : ∀ i, aZ H1742 19 i = aZ H 19 i := fun i => (by rw [eH1742, aZ_sA_nc (by first | with_reducible assumption | omega)] : aZ H1742 19 i = aZ H1729 19 i).trans (m1732 i)
                  have m1746 : ∀ i, aZ H1742 17 i = aZ H 17 i := fun i => (by rw [eH1742, aZ_sA_nc (by first | with_reducible assumption | omega)] : aZ H1742 17 i = aZ H1729 17 i).trans (m1733 i)
                  have m1747 : kpM H H1742 := kpM_A m1734 eH1742 (by first | with_reducible assumption | omega)
                  have m1748 : ∀ i, aZ H1742 18 i = aZ H 18 i := fun i => (by rw [eH1742, aZ_sA_nc (by first | with_reducible assumption | omega)] : aZ H1742 18 i = aZ H1729 18 i).trans (m1735 i)
                  have m1749 : ∀ i, aZ H1742 20 i = aZ H 20 i := fun i => (by rw [eH1742, aZ_sA_nc (by first | with_reducible assumption | omega)] : aZ H1742 20 i = aZ H1729 20 i).trans (m1736 i)
                  have m1750 : ∀ i, aZ H1742 22 i = aZ H 22 i := fun i => (by rw [eH1742, aZ_sA_nc (by first | with_reducible assumption | omega)] : aZ H1742 22 i = aZ H1729 22 i).trans (m1737 i)
                  have m1751 : ∀ i, aZ H1742 23 i = aZ H 23 i := fun i => (by rw [eH1742, aZ_sA_nc (by first | with_reducible assumption | omega)] : aZ H1742 23 i = aZ H1729 23 i).trans (m1738 i)
                  have m1752 : ∀ i, aZ H1742 24 i = aZ H 24 i := fun i => (by rw [eH1742, aZ_sA_nc (by first | with_reducible assumption | omega)] : aZ H1742 24 i = aZ H1729 24 i).trans (m1739 i)
                  have m1753 : ∀ i, aZ H1742 25 i = aZ H 25 i := fun i => (by rw [eH1742, aZ_sA_nc (by first | with_reducible assumption | omega)] : aZ H1742 25 i = aZ H1729 25 i).trans (m1740 i)
                  have wdH1742 : rwX H1742 (sOp (sII (sEn (sN (gos s a1.toInt) (opM s a1.toInt.toNat) v1697.toInt.toNat) v1697.toInt.toNat v1715.toInt) v1697.toInt.toNat v1728.toInt) v1697.toInt.toNat v1741.toInt) md := rw_13 hIH1729 wdH1729 eH1742 (by first | with_reducible assumption | omega)
                  refine g_aload_n rfl ?_
                  refine g_gfr hIH1742 sm_0 rfl ?_
                  refine g_iload_n rfl ?_
                  refine g_iconst (by decide) (fun v1754 kv1754 => ?_)
                  refine g_zastore hIH1742 sm_14 (by first | with_reducible assumption | omega) (by first | with_reducible assumption | omega) (fun H1755 eH1755 hIH1755 => ?_)
                  have hJH1755 : JM H1755 := JM_sA (by decide) eH1755 hJH1742
                  have m1756 : ∀ a f, fZ H1755 a f = fZ H a f := fun a f => (by rw [eH1755, fZ_sA] : fZ H1755 a f = fZ H1742 a f).trans (m1743 a f)
                  have m1757 : ∀ i, aZ H1755 2 i = aZ H 2 i := fun i => (by rw [eH1755, aZ_sA_nc (by first | with_reducible assumption | omega)] : aZ H1755 2 i = aZ H1742 2 i).trans (m1744 i)
                  have m1758 : ∀ i, aZ H1755 19 i = aZ H 19 i := fun i => (by rw [eH1755, aZ_sA_nc (by first | with_reducible assumption | omega)] : aZ H1755 19 i = aZ H1742 19 i).trans (m1745 i)
                  have m1759 : ∀ i, aZ H1755 17 i = aZ H 17 i := fun i => (by rw [eH1755, aZ_sA_nc (by first | with_reducible assumption | omega)] : aZ H1755 17 i = aZ H1742 17 i).trans (m1746 i)
                  have m1760 : kpM H H1755 := kpM_A m1747 eH1755 (by first | with_reducible assumption | omega)
                  have m1761 : ∀ i, aZ H1755 18 i = aZ H 18 i := fun i => (by rw [eH1755, aZ_sA_nc (by first | with_reducible assumption | omega)] : aZ H1755 18 i = aZ H1742 18 i).trans (m1748 i)
                  have m1762 : ∀ i, aZ H1755 20 i = aZ H 20 i := fun i => (by rw [eH1755, aZ_sA_nc (by first | with_reducible assumption | omega)] : aZ H1755 20 i = aZ H1742 20 i).trans (m1749 i)
                  have m1763 : ∀ i, aZ H1755 22 i = aZ H 22 i := fun i => (by rw [eH1755, aZ_sA_nc (by first | with_reducible assumption | omega)] : aZ H1755 22 i = aZ H1742 22 i).trans (m1750 i)
                  have m1764 : ∀ i, aZ H1755 23 i = aZ H 23 i := fun i => (by rw [eH1755, aZ_sA_nc (by first | with_reducible assumption | omega)] : aZ H1755 23 i = aZ H1742 23 i).trans (m1751 i)
                  have m1765 : ∀ i, aZ H1755 24 i = aZ H 24 i := fun i => (by rw [eH1755, aZ_sA_nc (by first | with_reducible assumption | omega)] : aZ H1755 24 i = aZ H1742 24 i).trans (m1752 i)
                  have m1766 : ∀ i, aZ H1755 25 i = aZ H 25 i := fun i => (by rw [eH1755, aZ_sA_nc (by first | with_reducible assumption | omega)] : aZ H1755 25 i = aZ H1742 25 i).trans (m1753 i)
                  have wdH1755 : rwX H1755 (sHe (sOp (sII (sEn (sN (gos s a1.toInt) (opM s a1.toInt.toNat) v1697.toInt.toNat) v1697.toInt.toNat v1715.toInt) v1697.toInt.toNat v1728.toInt) v1697.toInt.toNat v1741.toInt) v1697.toInt.toNat v1754.toInt) md := rw_14 hIH1742 wdH1742 eH1755 (by first | with_reducible assumption | omega)
                  refine g_aload_n rfl ?_
                  refine g_gfr hIH1755 sm_0 rfl ?_
                  refine g_iload_n rfl ?_
                  refine g_iconst (by decide) (fun v1767 kv1767 => ?_)
                  refine g_zastore hIH1755 sm_15 (by first | with_reducible assumption | omega) (by first | with_reducible assumption | omega) (fun H1768 eH1768 hIH1768 => ?_)
                  have hJH1768 : JM H1768 := JM_sA (by decide) eH1768 hJH1755
                  have m1769 : ∀ a f, fZ H1768 a f = fZ H a f := fun a f => (by rw [eH1768, fZ_sA] : fZ H1768 a f = fZ H1755 a f).trans (m1756 a f)
                  have m1770 : ∀ i, aZ H1768 2 i = aZ H 2 i := fun i => (by rw [eH1768, aZ_sA_nc (by first | with_reducible assumption | omega)] : aZ H1768 2 i = aZ H1755 2 i).trans (m1757 i)
                  have m1771 : ∀ i, aZ H1768 19 i = aZ H 19 i := fun i => (by rw [eH1768, aZ_sA_nc (by first | with_reducible assumption | omega)] : aZ H1768 19 i = aZ H1755 19 i).trans (m1758 i)
                  have m1772 : ∀ i, aZ H1768 17 i = aZ H 17 i := fun i => (by rw [eH1768, aZ_sA_nc (by first | with_reducible assumption | omega)] : aZ H1768 17 i = aZ H1755 17 i).trans (m1759 i)
                  have m1773 : kpM H H1768 := kpM_A m1760 eH1768 (by first | with_reducible assumption | omega)
                  have m1774 : ∀ i, aZ H1768 18 i = aZ H 18 i := fun i => (by rw [eH1768, aZ_sA_nc (by first | with_reducible assumption | omega)] : aZ H1768 18 i = aZ H1755 18 i).trans (m1761 i)
                  have m1775 : ∀ i, aZ H1768 20 i = aZ H 20 i := fun i => (by rw [eH1768, aZ_sA_nc (by first | with_reducible assumption | omega)] : aZ H1768 20 i = aZ H1755 20 i).trans (m1762 i)
                  have m1776 : ∀ i, aZ H1768 22 i = aZ H 22 i := fun i => (by rw [eH1768, aZ_sA_nc (by first | with_reducible assumption | omega)] : aZ H1768 22 i = aZ H1755 22 i).trans (m1763 i)
                  have m1777 : ∀ i, aZ H1768 23 i = aZ H 23 i := fun i => (by rw [eH1768, aZ_sA_nc (by first | with_reducible assumption | omega)] : aZ H1768 23 i = aZ H1755 23 i).trans (m1764 i)
                  have m1778 : ∀ i, aZ H1768 24 i = aZ H 24 i := fun i => (by rw [eH1768, aZ_sA_nc (by first | with_reducible assumption | omega)] : aZ H1768 24 i = aZ H1755 24 i).trans (m1765 i)
                  have m1779 : ∀ i, aZ H1768 25 i = aZ H 25 i := fun i => (by rw [eH1768, aZ_sA_nc (by first | with_reducible assumption | omega)] : aZ H1768 25 i = aZ H1755 25 i).trans (m1766 i)
                  have wdH1768 : rwX H1768 (sSo (sHe (sOp (sII (sEn (sN (gos s a1.toInt) (opM s a1.toInt.toNat) v1697.toInt.toNat) v1697.toInt.toNat v1715.toInt) v1697.toInt.toNat v1728.toInt) v1697.toInt.toNat v1741.toInt) v1697.toInt.toNat v1754.toInt) v1697.toInt.toNat v1767.toInt) md := rw_15 hIH1755 wdH1755 eH1768 (by first | with_reducible assumption | omega)
                  refine g_nop ?_
                  refine g_iinc (l' := (fun v1780 => [(0, .ref 0), (1, .int a1), (2, .int v1780)])) rfl rfl (by decide) (by first | with_reducible assumption | omega) (fun _ => rfl) (fun v1780 ev1780 => ?_)
                  refine g_goto ?_
                  exact ihL1710 v1780 H1768 hIH1768 hJH1768 m1769 m1770 m1771 m1772 m1773 m1774 m1775 m1776 m1777 m1778 m1779 (by first | with_reducible assumption | omega) (sN_y (by first | with_reducible assumption | omega) (by first | with_reducible assumption | omega) (by first | with_reducible assumption | omega) (by first | with_reducible assumption | omega) (by first | with_reducible assumption | omega) (by first | with_reducible assumption | omega) (by first | with_reducible assumption | omega) wdH1768) (fun x hx => by rw [eH1768, aZ_sA_nc (by decide), eH1755, aZ_sA_nc (by decide), eH1742, aZ_sA_nc (by decide), eH1729, aZ_sA_nc (by decide), eH1716, aZ_sA_nc (by decide)]; exact q3 x (by first | with_reducible assumption | omega)) (by first | with_reducible assumption | omega)
                · refine g_goto ?_
                  refine g_iinc (l' := (fun v1781 => [(0, .ref 0), (1, .int a1), (2, .int v1781)])) rfl rfl (by decide) (by first | with_reducible assumption | omega) (fun _ => rfl) (fun v1781 ev1781 => ?_)
                  refine g_goto ?_
                  exact ihL1710 v1781 H1698 hIH1698 hJH1698 m1699 m1700 m1701 m1702 m1703 m1704 m1705 m1706 m1707 m1708 m1709 (by first | with_reducible assumption | omega) (sN_n (by first | with_reducible assumption | omega) (by first | with_reducible assumption | omega) q2) q3 (by first | with_reducible assumption | omega)
          exact L1710 _ v1696 H1684 hIH1684 hJH1684 m1685 m1686 m1687 m1688 m1689 m1690 m1691 m1692 m1693 m1694 m1695 (by first | with_reducible assumption | omega) (sN_0 (om_1 (by first | with_reducible assumption | omega) yv1594 (by first | with_reducible assumption | omega) wdH1684) (by first | with_reducible assumption | omega)) (fun x hx => by rw [eH1684, aZ_sA_nc (by decide)]; exact q1 x (by first | with_reducible assumption | omega)) (Nat.lt_succ_self _)
      · refine g_aload_n rfl ?_
        refine g_gfr hIH1579 sm_0 rfl ?_
        refine g_iload_n rfl ?_
        refine g_iload_n rfl ?_
        refine g_iload_n rfl ?_
        refine g_if2_eq (fun c1782 => ?_) (fun c1782 => ?_)
        · refine g_iconst (by decide) (fun v1783 kv1783 => ?_)
          refine g_goto ?_
          refine g_zastore hIH1579 sm_21 (by first | with_reducible assumption | omega) (by first | with_reducible assumption | omega) (fun H1784 eH1784 hIH1784 => ?_)
          have hJH1784 : JM H1784 := JM_sA (by decide) eH1784 hJH1579
          have m1785 : ∀ a f, fZ H1784 a f = fZ H a f := fun a f => (by rw [eH1784, fZ_sA] : fZ H1784 a f = fZ H1579 a f).trans (m1580 a f)
          have m1786 : ∀ i, aZ H1784 2 i = aZ H 2 i := fun i => (by rw [eH1784, aZ_sA_nc (by first | with_reducible assumption | omega)] : aZ H1784 2 i = aZ H1579 2 i).trans (m1581 i)
          have m1787 : ∀ i, aZ H1784 19 i = aZ H 19 i := fun i => (by rw [eH1784, aZ_sA_nc (by first | with_reducible assumption | omega)] : aZ H1784 19 i = aZ H1579 19 i).trans (m1582 i)
          have m1788 : ∀ i, aZ H1784 17 i = aZ H 17 i := fun i => (by rw [eH1784, aZ_sA_nc (by first | with_reducible assumption | omega)] : aZ H1784 17 i = aZ H1579 17 i).trans (m1583 i)
          have m1789 : kpM H H1784 := kpM_A m1584 eH1784 (by first | with_reducible assumption | omega)
          have m1790 : ∀ i, aZ H1784 18 i = aZ H 18 i := fun i => (by rw [eH1784, aZ_sA_nc (by first | with_reducible assumption | omega)] : aZ H1784 18 i = aZ H1579 18 i).trans (m1585 i)
          have m1791 : ∀ i, aZ H1784 20 i = aZ H 20 i := fun i => (by rw [eH1784, aZ_sA_nc (by first | with_reducible assumption | omega)] : aZ H1784 20 i = aZ H1579 20 i).trans (m1586 i)
          have m1792 : ∀ i, aZ H1784 22 i = aZ H 22 i := fun i => (by rw [eH1784, aZ_sA_nc (by first | with_reducible assumption | omega)] : aZ H1784 22 i = aZ H1579 22 i).trans (m1587 i)
          have m1793 : ∀ i, aZ H1784 23 i = aZ H 23 i := fun i => (by rw [eH1784, aZ_sA_nc (by first | with_reducible assumption | omega)] : aZ H1784 23 i = aZ H1579 23 i).trans (m1588 i)
          have m1794 : ∀ i, aZ H1784 24 i = aZ H 24 i := fun i => (by rw [eH1784, aZ_sA_nc (by first | with_reducible assumption | omega)] : aZ H1784 24 i = aZ H1579 24 i).trans (m1589 i)
          have m1795 : ∀ i, aZ H1784 25 i = aZ H 25 i := fun i => (by rw [eH1784, aZ_sA_nc (by first | with_reducible assumption | omega)] : aZ H1784 25 i = aZ H1579 25 i).trans (m1590 i)
          have wdH1784 : rwX H1784 s md := rw_o q0 eH1784 (by decide)
          refine g_iinc (l' := (fun v1796 => [(0, .ref 0), (1, .int a1), (2, .int v1796)])) rfl rfl (by decide) (by first | with_reducible assumption | omega) (fun _ => rfl) (fun v1796 ev1796 => ?_)
          refine g_goto ?_
          exact ihL1591 v1796 H1784 hIH1784 hJH1784 m1785 m1786 m1787 m1788 m1789 m1790 m1791 m1792 m1793 m1794 m1795 (by first | with_reducible assumption | omega) wdH1784 (fun x hx => by rw [eH1784]; if e : v1578.toInt.toNat = x then (rw [← e, aZ_sA_eq hIH1579 sm_21 (by first | with_reducible assumption | omega), gos_y (by first | with_reducible assumption | omega)]; omega) else (rw [aZ_sA_ne e]; exact q1 x (by first | with_reducible assumption | omega))) (by first | with_reducible assumption | omega)
        · refine g_aload_n rfl ?_
          refine g_iload_n rfl ?_
          refine g_iload_n rfl ?_
          refine g_invvi hIH1579 sm_0 rfl rfl rfl rfl (r_186 v1578 (by first | with_reducible assumption | omega) a1 (by first | with_reducible assumption | omega) H1579 hIH1579 hJH1579 q0 hp1) (fun v1799 H1797 r1798 => ?_)
          obtain ⟨rfl, bv1799, p1800⟩ := r1798
          have ibv1799 := inn_b (s := s) (n := v1578.toInt.toNat) (o := a1.toInt)
          refine g_if_eq (fun c1801 => ?_) (fun c1801 => ?_)
          · refine g_iconst (by decide) (fun v1802 kv1802 => ?_)
            refine g_nop ?_
            refine g_zastore hIH1579 sm_21 (by first | with_reducible assumption | omega) (by first | with_reducible assumption | omega) (fun H1803 eH1803 hIH1803 => ?_)
            have hJH1803 : JM H1803 := JM_sA (by decide) eH1803 hJH1579
            have m1804 : ∀ a f, fZ H1803 a f = fZ H a f := fun a f => (by rw [eH1803, fZ_sA] : fZ H1803 a f = fZ H1579 a f).trans (m1580 a f)
            have m1805 : ∀ i, aZ H1803 2 i = aZ H 2 i := fun i => (by rw [eH1803, aZ_sA_nc (by first | with_reducible assumption | omega)] : aZ H1803 2 i = aZ H1579 2 i).trans (m1581 i)
            have m1806 : ∀ i, aZ H1803 19 i = aZ H 19 i := fun i => (by rw [eH1803, aZ_sA_nc (by first | with_reducible assumption | omega)] : aZ H1803 19 i = aZ H1579 19 i).trans (m1582 i)
            have m1807 : ∀ i, aZ H1803 17 i = aZ H 17 i := fun i => (by rw [eH1803, aZ_sA_nc (by first | with_reducible assumption | omega)] : aZ H1803 17 i = aZ H1579 17 i).trans (m1583 i)
            have m1808 : kpM H H1803 := kpM_A m1584 eH1803 (by first | with_reducible assumption | omega)
            have m1809 : ∀ i, aZ H1803 18 i = aZ H 18 i := fun i => (by rw [eH1803, aZ_sA_nc (by first | with_reducible assumption | omega)] : aZ H1803 18 i = aZ H1579 18 i).trans (m1585 i)
            have m1810 : ∀ i, aZ H1803 20 i = aZ H 20 i := fun i => (by rw [eH1803, aZ_sA_nc (by first | with_reducible assumption | omega)] : aZ H1803 20 i = aZ H1579 20 i).trans (m1586 i)
            have m1811 : ∀ i, aZ H1803 22 i = aZ H 22 i := fun i => (by rw [eH1803, aZ_sA_nc (by first | with_reducible assumption | omega)] : aZ H1803 22 i = aZ H1579 22 i).trans (m1587 i)
            have m1812 : ∀ i, aZ H1803 23 i = aZ H 23 i := fun i => (by rw [eH1803, aZ_sA_nc (by first | with_reducible assumption | omega)] : aZ H1803 23 i = aZ H1579 23 i).trans (m1588 i)
            have m1813 : ∀ i, aZ H1803 24 i = aZ H 24 i := fun i => (by rw [eH1803, aZ_sA_nc (by first | with_reducible assumption | omega)] : aZ H1803 24 i = aZ H1579 24 i).trans (m1589 i)
            have m1814 : ∀ i, aZ H1803 25 i = aZ H 25 i := fun i => (by rw [eH1803, aZ_sA_nc (by first | with_reducible assumption | omega)] : aZ H1803 25 i = aZ H1579 25 i).trans (m1590 i)
            have wdH1803 : rwX H1803 s md := rw_o q0 eH1803 (by decide)
            refine g_iinc (l' := (fun v1815 => [(0, .ref 0), (1, .int a1), (2, .int v1815)])) rfl rfl (by decide) (by first | with_reducible assumption | omega) (fun _ => rfl) (fun v1815 ev1815 => ?_)
            refine g_goto ?_
            exact ihL1591 v1815 H1803 hIH1803 hJH1803 m1804 m1805 m1806 m1807 m1808 m1809 m1810 m1811 m1812 m1813 m1814 (by first | with_reducible assumption | omega) wdH1803 (fun x hx => by rw [eH1803]; if e : v1578.toInt.toNat = x then (rw [← e, aZ_sA_eq hIH1579 sm_21 (by first | with_reducible assumption | omega), gos_n (by first | with_reducible assumption | omega)]; omega) else (rw [aZ_sA_ne e]; exact q1 x (by first | with_reducible assumption | omega))) (by first | with_reducible assumption | omega)
          · refine g_nop ?_
            refine g_iconst (by decide) (fun v1816 kv1816 => ?_)
            refine g_goto ?_
            refine g_zastore hIH1579 sm_21 (by first | with_reducible assumption | omega) (by first | with_reducible assumption | omega) (fun H1817 eH1817 hIH1817 => ?_)
            have hJH1817 : JM H1817 := JM_sA (by decide) eH1817 hJH1579
            have m1818 : ∀ a f, fZ H1817 a f = fZ H a f := fun a f => (by rw [eH1817, fZ_sA] : fZ H1817 a f = fZ H1579 a f).trans (m1580 a f)
            have m1819 : ∀ i, aZ H1817 2 i = aZ H 2 i := fun i => (by rw [eH1817, aZ_sA_nc (by first | with_reducible assumption | omega)] : aZ H1817 2 i = aZ H1579 2 i).trans (m1581 i)
            have m1820 : ∀ i, aZ H1817 19 i = aZ H 19 i := fun i => (by rw [eH1817, aZ_sA_nc (by first | with_reducible assumption | omega)] : aZ H1817 19 i = aZ H1579 19 i).trans (m1582 i)
            have m1821 : ∀ i, aZ H1817 17 i = aZ H 17 i := fun i => (by rw [eH1817, aZ_sA_nc (by first | with_reducible assumption | omega)] : aZ H1817 17 i = aZ H1579 17 i).trans (m1583 i)
            have m1822 : kpM H H1817 := kpM_A m1584 eH1817 (by first | with_reducible assumption | omega)
            have m1823 : ∀ i, aZ H1817 18 i = aZ H 18 i := fun i => (by rw [eH1817, aZ_sA_nc (by first | with_reducible assumption | omega)] : aZ H1817 18 i = aZ H1579 18 i).trans (m1585 i)
            have m1824 : ∀ i, aZ H1817 20 i = aZ H 20 i := fun i => (by rw [eH1817, aZ_sA_nc (by first | with_reducible assumption | omega)] : aZ H1817 20 i = aZ H1579 20 i).trans (m1586 i)
            have m1825 : ∀ i, aZ H1817 22 i = aZ H 22 i := fun i => (by rw [eH1817, aZ_sA_nc (by first | with_reducible assumption | omega)] : aZ H1817 22 i = aZ H1579 22 i).trans (m1587 i)
            have m1826 : ∀ i, aZ H1817 23 i = aZ H 23 i := fun i => (by rw [eH1817, aZ_sA_nc (by first | with_reducible assumption | omega)] : aZ H1817 23 i = aZ H1579 23 i).trans (m1588 i)
            have m1827 : ∀ i, aZ H1817 24 i = aZ H 24 i := fun i => (by rw [eH1817, aZ_sA_nc (by first | with_reducible assumption | omega)] : aZ H1817 24 i = aZ H1579 24 i).trans (m1589 i)
            have m1828 : ∀ i, aZ H1817 25 i = aZ H 25 i := fun i => (by rw [eH1817, aZ_sA_nc (by first | with_reducible assumption | omega)] : aZ H1817 25 i = aZ H1579 25 i).trans (m1590 i)
            have wdH1817 : rwX H1817 s md := rw_o q0 eH1817 (by decide)
            refine g_iinc (l' := (fun v1829 => [(0, .ref 0), (1, .int a1), (2, .int v1829)])) rfl rfl (by decide) (by first | with_reducible assumption | omega) (fun _ => rfl) (fun v1829 ev1829 => ?_)
            refine g_goto ?_
            exact ihL1591 v1829 H1817 hIH1817 hJH1817 m1818 m1819 m1820 m1821 m1822 m1823 m1824 m1825 m1826 m1827 m1828 (by first | with_reducible assumption | omega) wdH1817 (fun x hx => by rw [eH1817]; if e : v1578.toInt.toNat = x then (rw [← e, aZ_sA_eq hIH1579 sm_21 (by first | with_reducible assumption | omega), gos_y (by first | with_reducible assumption | omega)]; omega) else (rw [aZ_sA_ne e]; exact q1 x (by first | with_reducible assumption | omega))) (by first | with_reducible assumption | omega)
  exact L1591 _ v1577 H hI hJ mkF mk2 mk19 mk17 mkfr mk18 mk20 mk22 mk23 mk24 mk25 (by first | with_reducible assumption | omega) hp0 (fun x hx => absurd hx (by first | with_reducible assumption | omega)) (Nat.lt_succ_self _)
set_option maxRecDepth 4000 in
set_option maxHeartbeats 4000000 in
/-- M.takes -/
theorem r_194 {s : pS} {md : Nat → Int} (a1 : Int32) (ha1 : 0 ≤ a1.toInt ∧ a1.toInt ≤ 10) (a2 : Int32) (ha2 : 0 ≤ a2.toInt ∧ a2.toInt ≤ 39) (a3 : Int32) (a4 : Int32) (a5 : Int32) (H : mzH) (hI : gI SM H) (hJ : JM H) (hp0 : (a1.toInt = 0 → (0 ≤ a3.toInt ∧ a3.toInt ≤ 7 ∧ 0 ≤ a5.toInt ∧ a5.toInt ≤ 2))) (hp1 : ((a1.toInt = 5 ∨ a1.toInt = 6 ∨ a1.toInt = 8) → (0 ≤ a3.toInt ∧ a3.toInt ≤ 7))) (hp2 : (a1.toInt = 1 → (0 ≤ a3.toInt ∧ a3.toInt ≤ 39))) (hp3 : RS H a1 a2 a3) (hp4 : rwX H s md) (hp5 : dpt s) : gCall 194 [.ref 0, .int a1, .int a2, .int a3, .int a4, .int a5] H (gRv (fun H' => gI SM H' ∧ JM H' ∧ (∀ a f, fZ H' a f = fZ H a f) ∧ (∀ i, aZ H' 2 i = aZ H 2 i) ∧ (∀ i, aZ H' 19 i = aZ H 19 i) ∧ (∀ i, aZ H' 17 i = aZ H 17 i) ∧ kpM H H' ∧ (∀ i, aZ H' 18 i = aZ H 18 i) ∧ (∀ i, aZ H' 20 i = aZ H 20 i) ∧ (∀ i, aZ H' 22 i = aZ H 22 i) ∧ (∀ i, aZ H' 23 i = aZ H 23 i) ∧ (∀ i, aZ H' 24 i = aZ H 24 i) ∧ (∀ i, aZ H' 25 i = aZ H 25 i) ∧ rwX H' (tks s a1.toInt a2.toInt.toNat a3.toInt a4.toInt a5.toInt) (tmd md a1.toInt a2.toInt.toNat))) := by
  have mkF : ∀ a f, fZ H a f = fZ H a f := fun _ _ => rfl
  have mk2 : ∀ i, aZ H 2 i = aZ H 2 i := fun _ => rfl
  have mk19 : ∀ i, aZ H 19 i = aZ H 19 i := fun _ => rfl
  have mk17 : ∀ i, aZ H 17 i = aZ H 17 i := fun _ => rfl
  have mkfr : kpM H H := kpM_r
  have mk18 : ∀ i, aZ H 18 i = aZ H 18 i := fun _ => rfl
  have mk20 : ∀ i, aZ H 20 i = aZ H 20 i := fun _ => rfl
  have mk22 : ∀ i, aZ H 22 i = aZ H 22 i := fun _ => rfl
  have mk23 : ∀ i, aZ H 23 i = aZ H 23 i := fun _ => rfl
  have mk24 : ∀ i, aZ H 24 i = aZ H 24 i := fun _ => rfl
  have mk25 : ∀ i, aZ H 25 i = aZ H 25 i := fun _ => rfl
  refine gG_call [(0, .ref 0), (1, .int a1), (2, .int a2), (3, .int a3), (4, .int a4), (5, .int a5)] ⟨rfl, rfl, rfl, rfl, rfl, rfl, trivial⟩ ?_
  show gG 6 zB_194 (mzBlk zB_194 0) [(0, .ref 0), (1, .int a1), (2, .int a2), (3, .int a3), (4, .int a4), (5, .int a5)] [] H 0 0 _
  refine g_iload_n rfl ?_
  refine g_sw (by decide) (fun c1033 => ?_) ⟨fun c1033 => ?_, fun c1033 => ?_, fun c1033 => ?_, fun c1033 => ?_, fun c1033 => ?_, fun c1033 => ?_, fun c1033 => ?_, fun c1033 => ?_, fun c1033 => ?_, fun c1033 => ?_, trivial⟩
  · refine g_aload_n rfl ?_
    refine g_gfr hI sm_0 rfl ?_
    refine g_iload_n rfl ?_
    refine g_iconst (by decide) (fun v1034 kv1034 => ?_)
    refine g_zastore hI sm_14 (by first | with_reducible assumption | omega) (by first | with_reducible assumption | omega) (fun H1035 eH1035 hIH1035 => ?_)
    have hJH1035 : JM H1035 := JM_sA (by decide) eH1035 hJ
    have m1036 : ∀ a f, fZ H1035 a f = fZ H a f := fun a f => (by rw [eH1035, fZ_sA] : fZ H1035 a f = fZ H a f).trans (mkF a f)
    have m1037 : ∀ i, aZ H1035 2 i = aZ H 2 i := fun i => (by rw [eH1035, aZ_sA_nc (by first | with_reducible assumption | omega)] : aZ H1035 2 i = aZ H 2 i).trans (mk2 i)
    have m1038 : ∀ i, aZ H1035 19 i = aZ H 19 i := fun i => (by rw [eH1035, aZ_sA_nc (by first | with_reducible assumption | omega)] : aZ H1035 19 i = aZ H 19 i).trans (mk19 i)
    have m1039 : ∀ i, aZ H1035 17 i = aZ H 17 i := fun i => (by rw [eH1035, aZ_sA_nc (by first | with_reducible assumption | omega)] : aZ H1035 17 i = aZ H 17 i).trans (mk17 i)
    have m1040 : kpM H H1035 := kpM_A mkfr eH1035 (by first | with_reducible assumption | omega)
    have m1041 : ∀ i, aZ H1035 18 i = aZ H 18 i := fun i => (by rw [eH1035, aZ_sA_nc (by first | with_reducible assumption | omega)] : aZ H1035 18 i = aZ H 18 i).trans (mk18 i)
    have m1042 : ∀ i, aZ H1035 20 i = aZ H 20 i := fun i => (by rw [eH1035, aZ_sA_nc (by first | with_reducible assumption | omega)] : aZ H1035 20 i = aZ H 20 i).trans (mk20 i)
    have m1043 : ∀ i, aZ H1035 22 i = aZ H 22 i := fun i => (by rw [eH1035, aZ_sA_nc (by first | with_reducible assumption | omega)] : aZ H1035 22 i = aZ H 22 i).trans (mk22 i)
    have m1044 : ∀ i, aZ H1035 23 i = aZ H 23 i := fun i => (by rw [eH1035, aZ_sA_nc (by first | with_reducible assumption | omega)] : aZ H1035 23 i = aZ H 23 i).trans (mk23 i)
    have m1045 : ∀ i, aZ H1035 24 i = aZ H 24 i := fun i => (by rw [eH1035, aZ_sA_nc (by first | with_reducible assumption | omega)] : aZ H1035 24 i = aZ H 24 i).trans (mk24 i)
    have m1046 : ∀ i, aZ H1035 25 i = aZ H 25 i := fun i => (by rw [eH1035, aZ_sA_nc (by first | with_reducible assumption | omega)] : aZ H1035 25 i = aZ H 25 i).trans (mk25 i)
    have wdH1035 : rwX H1035 (sHe s a2.toInt.toNat v1034.toInt) md := rw_14 hI hp4 eH1035 (by first | with_reducible assumption | omega)
    refine g_nop ?_
    exact g_ret ⟨rfl, hIH1035, hJH1035, m1036, m1037, m1038, m1039, m1040, m1041, m1042, m1043, m1044, m1045, m1046, (by have z := wdH1035; rw [kv1034] at z; rw [tks_10 (by first | with_reducible assumption | omega), tmd_n (by first | with_reducible assumption | omega)]; exact z)⟩
  · refine g_aload_n rfl ?_
    refine g_gfr hI sm_0 rfl ?_
    refine g_iload_n rfl ?_
    refine g_iconst (by decide) (fun v1047 kv1047 => ?_)
    refine g_zastore hI sm_7 (by first | with_reducible assumption | omega) (by first | with_reducible assumption | omega) (fun H1048 eH1048 hIH1048 => ?_)
    have hJH1048 : JM H1048 := JM_mk1 hI hJ (by first | with_reducible assumption | omega) eH1048
    have m1049 : ∀ a f, fZ H1048 a f = fZ H a f := fun a f => (by rw [eH1048, fZ_sA] : fZ H1048 a f = fZ H a f).trans (mkF a f)
    have m1050 : ∀ i, aZ H1048 2 i = aZ H 2 i := fun i => (by rw [eH1048, aZ_sA_nc (by first | with_reducible assumption | omega)] : aZ H1048 2 i = aZ H 2 i).trans (mk2 i)
    have m1051 : ∀ i, aZ H1048 19 i = aZ H 19 i := fun i => (by rw [eH1048, aZ_sA_nc (by first | with_reducible assumption | omega)] : aZ H1048 19 i = aZ H 19 i).trans (mk19 i)
    have m1052 : ∀ i, aZ H1048 17 i = aZ H 17 i := fun i => (by rw [eH1048, aZ_sA_nc (by first | with_reducible assumption | omega)] : aZ H1048 17 i = aZ H 17 i).trans (mk17 i)
    have m1053 : kpM H H1048 := kpM_A mkfr eH1048 (by first | with_reducible assumption | omega)
    have m1054 : ∀ i, aZ H1048 18 i = aZ H 18 i := fun i => (by rw [eH1048, aZ_sA_nc (by first | with_reducible assumption | omega)] : aZ H1048 18 i = aZ H 18 i).trans (mk18 i)
    have m1055 : ∀ i, aZ H1048 20 i = aZ H 20 i := fun i => (by rw [eH1048, aZ_sA_nc (by first | with_reducible assumption | omega)] : aZ H1048 20 i = aZ H 20 i).trans (mk20 i)
    have m1056 : ∀ i, aZ H1048 22 i = aZ H 22 i := fun i => (by rw [eH1048, aZ_sA_nc (by first | with_reducible assumption | omega)] : aZ H1048 22 i = aZ H 22 i).trans (mk22 i)
    have m1057 : ∀ i, aZ H1048 23 i = aZ H 23 i := fun i => (by rw [eH1048, aZ_sA_nc (by first | with_reducible assumption | omega)] : aZ H1048 23 i = aZ H 23 i).trans (mk23 i)
    have m1058 : ∀ i, aZ H1048 24 i = aZ H 24 i := fun i => (by rw [eH1048, aZ_sA_nc (by first | with_reducible assumption | omega)] : aZ H1048 24 i = aZ H 24 i).trans (mk24 i)
    have m1059 : ∀ i, aZ H1048 25 i = aZ H 25 i := fun i => (by rw [eH1048, aZ_sA_nc (by first | with_reducible assumption | omega)] : aZ H1048 25 i = aZ H 25 i).trans (mk25 i)
    have wdH1048 : rwX H1048 s (upi md a2.toInt.toNat v1047.toInt) := rw_7 hI hp4 eH1048 (by first | with_reducible assumption | omega)
    refine g_aload_n rfl ?_
    refine g_gfr hIH1048 sm_0 rfl ?_
    refine g_iload_n rfl ?_
    refine g_iload rfl ?_
    refine g_iastore hIH1048 sm_8 (by first | with_reducible assumption | omega) (by first | with_reducible assumption | omega) (fun H1060 eH1060 hIH1060 => ?_)
    have hJH1060 : JM H1060 := JM_mk2 hI hIH1048 hJ (by first | with_reducible assumption | omega) (hp3.1 (by first | with_reducible assumption | omega)) (by first | with_reducible assumption | omega) eH1048 eH1060
    have m1061 : ∀ a f, fZ H1060 a f = fZ H a f := fun a f => (by rw [eH1060, fZ_sA] : fZ H1060 a f = fZ H1048 a f).trans (m1049 a f)
    have m1062 : ∀ i, aZ H1060 2 i = aZ H 2 i := fun i => (by rw [eH1060, aZ_sA_nc (by first | with_reducible assumption | omega)] : aZ H1060 2 i = aZ H1048 2 i).trans (m1050 i)
    have m1063 : ∀ i, aZ H1060 19 i = aZ H 19 i := fun i => (by rw [eH1060, aZ_sA_nc (by first | with_reducible assumption | omega)] : aZ H1060 19 i = aZ H1048 19 i).trans (m1051 i)
    have m1064 : ∀ i, aZ H1060 17 i = aZ H 17 i := fun i => (by rw [eH1060, aZ_sA_nc (by first | with_reducible assumption | omega)] : aZ H1060 17 i = aZ H1048 17 i).trans (m1052 i)
    have m1065 : kpM H H1060 := kpM_A m1053 eH1060 (by first | with_reducible assumption | omega)
    have m1066 : ∀ i, aZ H1060 18 i = aZ H 18 i := fun i => (by rw [eH1060, aZ_sA_nc (by first | with_reducible assumption | omega)] : aZ H1060 18 i = aZ H1048 18 i).trans (m1054 i)
    have m1067 : ∀ i, aZ H1060 20 i = aZ H 20 i := fun i => (by rw [eH1060, aZ_sA_nc (by first | with_reducible assumption | omega)] : aZ H1060 20 i = aZ H1048 20 i).trans (m1055 i)
    have m1068 : ∀ i, aZ H1060 22 i = aZ H 22 i := fun i => (by rw [eH1060, aZ_sA_nc (by first | with_reducible assumption | omega)] : aZ H1060 22 i = aZ H1048 22 i).trans (m1056 i)
    have m1069 : ∀ i, aZ H1060 23 i = aZ H 23 i := fun i => (by rw [eH1060, aZ_sA_nc (by first | with_reducible assumption | omega)] : aZ H1060 23 i = aZ H1048 23 i).trans (m1057 i)
    have m1070 : ∀ i, aZ H1060 24 i = aZ H 24 i := fun i => (by rw [eH1060, aZ_sA_nc (by first | with_reducible assumption | omega)] : aZ H1060 24 i = aZ H1048 24 i).trans (m1058 i)
    have m1071 : ∀ i, aZ H1060 25 i = aZ H 25 i := fun i => (by rw [eH1060, aZ_sA_nc (by first | with_reducible assumption | omega)] : aZ H1060 25 i = aZ H1048 25 i).trans (m1059 i)
    have wdH1060 : rwX H1060 (sKd s a2.toInt.toNat a5.toInt) (upi md a2.toInt.toNat v1047.toInt) := rw_8 hIH1048 wdH1048 eH1060 (by first | with_reducible assumption | omega)
    refine g_aload_n rfl ?_
    refine g_iload_n rfl ?_
    refine g_iload_n rfl ?_
    refine g_iload rfl ?_
    refine g_invvv hIH1060 sm_0 rfl rfl rfl rfl (r_193 a2 (by first | with_reducible assumption | omega) a3 (by first | with_reducible assumption | omega) a4 H1060 hIH1060 hJH1060 wdH1060) (fun H1072 r1073 => ?_)
    obtain ⟨hIH1072, hJH1072, m1074, m1075, m1076, m1077, m1078, m1079, m1080, m1081, m1082, m1083, m1084, p1085⟩ := r1073
    have m1086 : ∀ a f, fZ H1072 a f = fZ H a f := fun a f => (m1074 a f).trans (m1061 a f)
    have m1087 : ∀ i, aZ H1072 2 i = aZ H 2 i := fun i => (m1075 i).trans (m1062 i)
    have m1088 : ∀ i, aZ H1072 19 i = aZ H 19 i := fun i => (m1076 i).trans (m1063 i)
    have m1089 : ∀ i, aZ H1072 17 i = aZ H 17 i := fun i => (m1077 i).trans (m1064 i)
    have m1090 : kpM H H1072 := kpM_t m1065 m1078
    have m1091 : ∀ i, aZ H1072 18 i = aZ H 18 i := fun i => (m1079 i).trans (m1066 i)
    have m1092 : ∀ i, aZ H1072 20 i = aZ H 20 i := fun i => (m1080 i).trans (m1067 i)
    have m1093 : ∀ i, aZ H1072 22 i = aZ H 22 i := fun i => (m1081 i).trans (m1068 i)
    have m1094 : ∀ i, aZ H1072 23 i = aZ H 23 i := fun i => (m1082 i).trans (m1069 i)
    have m1095 : ∀ i, aZ H1072 24 i = aZ H 24 i := fun i => (m1083 i).trans (m1070 i)
    have m1096 : ∀ i, aZ H1072 25 i = aZ H 25 i := fun i => (m1084 i).trans (m1071 i)
    refine g_goto ?_
    exact g_ret ⟨rfl, hIH1072, hJH1072, m1086, m1087, m1088, m1089, m1090, m1091, m1092, m1093, m1094, m1095, m1096, (by have z := p1085; rw [kv1047] at z; rw [tks_0 (by first | with_reducible assumption | omega), tmd_0 (by first | with_reducible assumption | omega)]; exact z)⟩
  · refine g_aload_n rfl ?_
    refine g_gfr hI sm_0 rfl ?_
    refine g_iload_n rfl ?_
    refine g_iload_n rfl ?_
    refine g_iastore hI sm_9 (by first | with_reducible assumption | omega) (by first | with_reducible assumption | omega) (fun H1097 eH1097 hIH1097 => ?_)
    have hJH1097 : JM H1097 := JM_pack hI hJ (by first | with_reducible assumption | omega) (by first | with_reducible assumption | omega) (hp3.2.2 (by first | with_reducible assumption | omega)) eH1097
    have m1098 : ∀ a f, fZ H1097 a f = fZ H a f := fun a f => (by rw [eH1097, fZ_sA] : fZ H1097 a f = fZ H a f).trans (mkF a f)
    have m1099 : ∀ i, aZ H1097 2 i = aZ H 2 i := fun i => (by rw [eH1097, aZ_sA_nc (by first | with_reducible assumption | omega)] : aZ H1097 2 i = aZ H 2 i).trans (mk2 i)
    have m1100 : ∀ i, aZ H1097 19 i = aZ H 19 i := fun i => (by rw [eH1097, aZ_sA_nc (by first | with_reducible assumption | omega)] : aZ H1097 19 i = aZ H 19 i).trans (mk19 i)
    have m1101 : ∀ i, aZ H1097 17 i = aZ H 17 i := fun i => (by rw [eH1097, aZ_sA_nc (by first | with_reducible assumption | omega)] : aZ H1097 17 i = aZ H 17 i).trans (mk17 i)
    have m1102 : kpM H H1097 := kpM_A mkfr eH1097 (by first | with_reducible assumption | omega)
    have m1103 : ∀ i, aZ H1097 18 i = aZ H 18 i := fun i => (by rw [eH1097, aZ_sA_nc (by first | with_reducible assumption | omega)] : aZ H1097 18 i = aZ H 18 i).trans (mk18 i)
    have m1104 : ∀ i, aZ H1097 20 i = aZ H 20 i := fun i => (by rw [eH1097, aZ_sA_nc (by first | with_reducible assumption | omega)] : aZ H1097 20 i = aZ H 20 i).trans (mk20 i)
    have m1105 : ∀ i, aZ H1097 22 i = aZ H 22 i := fun i => (by rw [eH1097, aZ_sA_nc (by first | with_reducible assumption | omega)] : aZ H1097 22 i = aZ H 22 i).trans (mk22 i)
    have m1106 : ∀ i, aZ H1097 23 i = aZ H 23 i := fun i => (by rw [eH1097, aZ_sA_nc (by first | with_reducible assumption | omega)] : aZ H1097 23 i = aZ H 23 i).trans (mk23 i)
    have m1107 : ∀ i, aZ H1097 24 i = aZ H 24 i := fun i => (by rw [eH1097, aZ_sA_nc (by first | with_reducible assumption | omega)] : aZ H1097 24 i = aZ H 24 i).trans (mk24 i)
    have m1108 : ∀ i, aZ H1097 25 i = aZ H 25 i := fun i => (by rw [eH1097, aZ_sA_nc (by first | with_reducible assumption | omega)] : aZ H1097 25 i = aZ H 25 i).trans (mk25 i)
    have wdH1097 : rwX H1097 (sII s a2.toInt.toNat a3.toInt) md := rw_9 hI hp4 eH1097 (by first | with_reducible assumption | omega)
    refine g_goto ?_
    exact g_ret ⟨rfl, hIH1097, hJH1097, m1098, m1099, m1100, m1101, m1102, m1103, m1104, m1105, m1106, m1107, m1108, (by have z := wdH1097; rw [tks_1 (by first | with_reducible assumption | omega), tmd_n (by first | with_reducible assumption | omega)]; exact z)⟩
  · refine g_aload_n rfl ?_
    refine g_iload_n rfl ?_
    refine g_aload_n rfl ?_
    refine g_gfr hI sm_0 rfl ?_
    refine g_aload_n rfl ?_
    refine g_iload_n rfl ?_
    refine g_invvi hI sm_0 rfl rfl rfl rfl (r_185 a2 (by first | with_reducible assumption | omega) H hI hJ hp4 (show dpt s from hp5)) (fun v1111 H1109 r1110 => ?_)
    obtain ⟨rfl, bv1111, p1112⟩ := r1110
    have tnv1111 : v1111.toInt.toNat = tp s a2.toInt.toNat := by omega
    refine g_iaload hI sm_10 rfl (by first | with_reducible assumption | omega) (fun v1113 ev1113 lv1113 uv1113 => ?_)
    have yv1113 : v1113.toInt = (s).pl v1111.toInt.toNat := by rw [ev1113]; exact (hp4 _ (by first | with_reducible assumption | omega)).2.2.2.1
    rw [tnv1111] at yv1113
    refine g_iload rfl ?_
    refine g_invvv hI sm_0 rfl rfl rfl rfl (r_195 a2 (by first | with_reducible assumption | omega) v1113 (by first | with_reducible assumption | omega) a4 H hI hJ hp4 (hp3.2.1 (by first | with_reducible assumption | omega)) (dpt_1 (show dpt s from hp5) (by first | with_reducible assumption | omega))) (fun H1114 r1115 => ?_)
    obtain ⟨hIH1114, hJH1114, m1116, m1117, m1118, m1119, m1120, m1121, m1122, m1123, m1124, m1125, m1126, p1127⟩ := r1115
    have m1128 : ∀ a f, fZ H1114 a f = fZ H a f := fun a f => (m1116 a f).trans (mkF a f)
    have m1129 : ∀ i, aZ H1114 2 i = aZ H 2 i := fun i => (m1117 i).trans (mk2 i)
    have m1130 : ∀ i, aZ H1114 19 i = aZ H 19 i := fun i => (m1118 i).trans (mk19 i)
    have m1131 : ∀ i, aZ H1114 17 i = aZ H 17 i := fun i => (m1119 i).trans (mk17 i)
    have m1132 : kpM H H1114 := kpM_t mkfr m1120
    have m1133 : ∀ i, aZ H1114 18 i = aZ H 18 i := fun i => (m1121 i).trans (mk18 i)
    have m1134 : ∀ i, aZ H1114 20 i = aZ H 20 i := fun i => (m1122 i).trans (mk20 i)
    have m1135 : ∀ i, aZ H1114 22 i = aZ H 22 i := fun i => (m1123 i).trans (mk22 i)
    have m1136 : ∀ i, aZ H1114 23 i = aZ H 23 i := fun i => (m1124 i).trans (mk23 i)
    have m1137 : ∀ i, aZ H1114 24 i = aZ H 24 i := fun i => (m1125 i).trans (mk24 i)
    have m1138 : ∀ i, aZ H1114 25 i = aZ H 25 i := fun i => (m1126 i).trans (mk25 i)
    refine g_goto ?_
    exact g_ret ⟨rfl, hIH1114, hJH1114, m1128, m1129, m1130, m1131, m1132, m1133, m1134, m1135, m1136, m1137, m1138, (by have z := p1127; rw [yv1113] at z; rw [tks_2 (by first | with_reducible assumption | omega), tmd_n (by first | with_reducible assumption | omega)]; exact z)⟩
  · refine g_aload_n rfl ?_
    refine g_gfr hI sm_0 rfl ?_
    refine g_iload_n rfl ?_
    refine g_iconst (by decide) (fun v1139 kv1139 => ?_)
    refine g_zastore hI sm_13 (by first | with_reducible assumption | omega) (by first | with_reducible assumption | omega) (fun H1140 eH1140 hIH1140 => ?_)
    have hJH1140 : JM H1140 := JM_sA (by decide) eH1140 hJ
    have m1141 : ∀ a f, fZ H1140 a f = fZ H a f := fun a f => (by rw [eH1140, fZ_sA] : fZ H1140 a f = fZ H a f).trans (mkF a f)
    have m1142 : ∀ i, aZ H1140 2 i = aZ H 2 i := fun i => (by rw [eH1140, aZ_sA_nc (by first | with_reducible assumption | omega)] : aZ H1140 2 i = aZ H 2 i).trans (mk2 i)
    have m1143 : ∀ i, aZ H1140 19 i = aZ H 19 i := fun i => (by rw [eH1140, aZ_sA_nc (by first | with_reducible assumption | omega)] : aZ H1140 19 i = aZ H 19 i).trans (mk19 i)
    have m1144 : ∀ i, aZ H1140 17 i = aZ H 17 i := fun i => (by rw [eH1140, aZ_sA_nc (by first | with_reducible assumption | omega)] : aZ H1140 17 i = aZ H 17 i).trans (mk17 i)
    have m1145 : kpM H H1140 := kpM_A mkfr eH1140 (by first | with_reducible assumption | omega)
    have m1146 : ∀ i, aZ H1140 18 i = aZ H 18 i := fun i => (by rw [eH1140, aZ_sA_nc (by first | with_reducible assumption | omega)] : aZ H1140 18 i = aZ H 18 i).trans (mk18 i)
    have m1147 : ∀ i, aZ H1140 20 i = aZ H 20 i := fun i => (by rw [eH1140, aZ_sA_nc (by first | with_reducible assumption | omega)] : aZ H1140 20 i = aZ H 20 i).trans (mk20 i)
    have m1148 : ∀ i, aZ H1140 22 i = aZ H 22 i := fun i => (by rw [eH1140, aZ_sA_nc (by first | with_reducible assumption | omega)] : aZ H1140 22 i = aZ H 22 i).trans (mk22 i)
    have m1149 : ∀ i, aZ H1140 23 i = aZ H 23 i := fun i => (by rw [eH1140, aZ_sA_nc (by first | with_reducible assumption | omega)] : aZ H1140 23 i = aZ H 23 i).trans (mk23 i)
    have m1150 : ∀ i, aZ H1140 24 i = aZ H 24 i := fun i => (by rw [eH1140, aZ_sA_nc (by first | with_reducible assumption | omega)] : aZ H1140 24 i = aZ H 24 i).trans (mk24 i)
    have m1151 : ∀ i, aZ H1140 25 i = aZ H 25 i := fun i => (by rw [eH1140, aZ_sA_nc (by first | with_reducible assumption | omega)] : aZ H1140 25 i = aZ H 25 i).trans (mk25 i)
    have wdH1140 : rwX H1140 (sOp s a2.toInt.toNat v1139.toInt) md := rw_13 hI hp4 eH1140 (by first | with_reducible assumption | omega)
    refine g_goto ?_
    exact g_ret ⟨rfl, hIH1140, hJH1140, m1141, m1142, m1143, m1144, m1145, m1146, m1147, m1148, m1149, m1150, m1151, (by have z := wdH1140; rw [kv1139] at z; rw [tks_3 (by first | with_reducible assumption | omega), tmd_n (by first | with_reducible assumption | omega)]; exact z)⟩
  · refine g_aload_n rfl ?_
    refine g_gfr hI sm_0 rfl ?_
    refine g_iload_n rfl ?_
    refine g_iconst (by decide) (fun v1152 kv1152 => ?_)
    refine g_zastore hI sm_13 (by first | with_reducible assumption | omega) (by first | with_reducible assumption | omega) (fun H1153 eH1153 hIH1153 => ?_)
    have hJH1153 : JM H1153 := JM_sA (by decide) eH1153 hJ
    have m1154 : ∀ a f, fZ H1153 a f = fZ H a f := fun a f => (by rw [eH1153, fZ_sA] : fZ H1153 a f = fZ H a f).trans (mkF a f)
    have m1155 : ∀ i, aZ H1153 2 i = aZ H 2 i := fun i => (by rw [eH1153, aZ_sA_nc (by first | with_reducible assumption | omega)] : aZ H1153 2 i = aZ H 2 i).trans (mk2 i)
    have m1156 : ∀ i, aZ H1153 19 i = aZ H 19 i := fun i => (by rw [eH1153, aZ_sA_nc (by first | with_reducible assumption | omega)] : aZ H1153 19 i = aZ H 19 i).trans (mk19 i)
    have m1157 : ∀ i, aZ H1153 17 i = aZ H 17 i := fun i => (by rw [eH1153, aZ_sA_nc (by first | with_reducible assumption | omega)] : aZ H1153 17 i = aZ H 17 i).trans (mk17 i)
    have m1158 : kpM H H1153 := kpM_A mkfr eH1153 (by first | with_reducible assumption | omega)
    have m1159 : ∀ i, aZ H1153 18 i = aZ H 18 i := fun i => (by rw [eH1153, aZ_sA_nc (by first | with_reducible assumption | omega)] : aZ H1153 18 i = aZ H 18 i).trans (mk18 i)
    have m1160 : ∀ i, aZ H1153 20 i = aZ H 20 i := fun i => (by rw [eH1153, aZ_sA_nc (by first | with_reducible assumption | omega)] : aZ H1153 20 i = aZ H 20 i).trans (mk20 i)
    have m1161 : ∀ i, aZ H1153 22 i = aZ H 22 i := fun i => (by rw [eH1153, aZ_sA_nc (by first | with_reducible assumption | omega)] : aZ H1153 22 i = aZ H 22 i).trans (mk22 i)
    have m1162 : ∀ i, aZ H1153 23 i = aZ H 23 i := fun i => (by rw [eH1153, aZ_sA_nc (by first | with_reducible assumption | omega)] : aZ H1153 23 i = aZ H 23 i).trans (mk23 i)
    have m1163 : ∀ i, aZ H1153 24 i = aZ H 24 i := fun i => (by rw [eH1153, aZ_sA_nc (by first | with_reducible assumption | omega)] : aZ H1153 24 i = aZ H 24 i).trans (mk24 i)
    have m1164 : ∀ i, aZ H1153 25 i = aZ H 25 i := fun i => (by rw [eH1153, aZ_sA_nc (by first | with_reducible assumption | omega)] : aZ H1153 25 i = aZ H 25 i).trans (mk25 i)
    have wdH1153 : rwX H1153 (sOp s a2.toInt.toNat v1152.toInt) md := rw_13 hI hp4 eH1153 (by first | with_reducible assumption | omega)
    refine g_goto ?_
    exact g_ret ⟨rfl, hIH1153, hJH1153, m1154, m1155, m1156, m1157, m1158, m1159, m1160, m1161, m1162, m1163, m1164, (by have z := wdH1153; rw [kv1152] at z; rw [tks_4 (by first | with_reducible assumption | omega), tmd_n (by first | with_reducible assumption | omega)]; exact z)⟩
  · refine g_aload_n rfl ?_
    refine g_iload_n rfl ?_
    refine g_iload_n rfl ?_
    refine g_iload rfl ?_
    refine g_invvv hI sm_0 rfl rfl rfl rfl (r_193 a2 (by first | with_reducible assumption | omega) a3 (by first | with_reducible assumption | omega) a4 H hI hJ hp4) (fun H1165 r1166 => ?_)
    obtain ⟨hIH1165, hJH1165, m1167, m1168, m1169, m1170, m1171, m1172, m1173, m1174, m1175, m1176, m1177, p1178⟩ := r1166
    have m1179 : ∀ a f, fZ H1165 a f = fZ H a f := fun a f => (m1167 a f).trans (mkF a f)
    have m1180 : ∀ i, aZ H1165 2 i = aZ H 2 i := fun i => (m1168 i).trans (mk2 i)
    have m1181 : ∀ i, aZ H1165 19 i = aZ H 19 i := fun i => (m1169 i).trans (mk19 i)
    have m1182 : ∀ i, aZ H1165 17 i = aZ H 17 i := fun i => (m1170 i).trans (mk17 i)
    have m1183 : kpM H H1165 := kpM_t mkfr m1171
    have m1184 : ∀ i, aZ H1165 18 i = aZ H 18 i := fun i => (m1172 i).trans (mk18 i)
    have m1185 : ∀ i, aZ H1165 20 i = aZ H 20 i := fun i => (m1173 i).trans (mk20 i)
    have m1186 : ∀ i, aZ H1165 22 i = aZ H 22 i := fun i => (m1174 i).trans (mk22 i)
    have m1187 : ∀ i, aZ H1165 23 i = aZ H 23 i := fun i => (m1175 i).trans (mk23 i)
    have m1188 : ∀ i, aZ H1165 24 i = aZ H 24 i := fun i => (m1176 i).trans (mk24 i)
    have m1189 : ∀ i, aZ H1165 25 i = aZ H 25 i := fun i => (m1177 i).trans (mk25 i)
    refine g_goto ?_
    exact g_ret ⟨rfl, hIH1165, hJH1165, m1179, m1180, m1181, m1182, m1183, m1184, m1185, m1186, m1187, m1188, m1189, (by have z := p1178; rw [tks_5 (by first | with_reducible assumption | omega), tmd_n (by first | with_reducible assumption | omega)]; exact z)⟩
  · refine g_aload_n rfl ?_
    refine g_iload_n rfl ?_
    refine g_iload_n rfl ?_
    refine g_iload rfl ?_
    refine g_invvv hI sm_0 rfl rfl rfl rfl (r_196 a2 (by first | with_reducible assumption | omega) a3 (by first | with_reducible assumption | omega) a4 H hI hJ hp4 (show dpt s from hp5)) (fun H1190 r1191 => ?_)
    obtain ⟨hIH1190, hJH1190, m1192, m1193, m1194, m1195, m1196, m1197, m1198, m1199, m1200, m1201, m1202, p1203⟩ := r1191
    have m1204 : ∀ a f, fZ H1190 a f = fZ H a f := fun a f => (m1192 a f).trans (mkF a f)
    have m1205 : ∀ i, aZ H1190 2 i = aZ H 2 i := fun i => (m1193 i).trans (mk2 i)
    have m1206 : ∀ i, aZ H1190 19 i = aZ H 19 i := fun i => (m1194 i).trans (mk19 i)
    have m1207 : ∀ i, aZ H1190 17 i = aZ H 17 i := fun i => (m1195 i).trans (mk17 i)
    have m1208 : kpM H H1190 := kpM_t mkfr m1196
    have m1209 : ∀ i, aZ H1190 18 i = aZ H 18 i := fun i => (m1197 i).trans (mk18 i)
    have m1210 : ∀ i, aZ H1190 20 i = aZ H 20 i := fun i => (m1198 i).trans (mk20 i)
    have m1211 : ∀ i, aZ H1190 22 i = aZ H 22 i := fun i => (m1199 i).trans (mk22 i)
    have m1212 : ∀ i, aZ H1190 23 i = aZ H 23 i := fun i => (m1200 i).trans (mk23 i)
    have m1213 : ∀ i, aZ H1190 24 i = aZ H 24 i := fun i => (m1201 i).trans (mk24 i)
    have m1214 : ∀ i, aZ H1190 25 i = aZ H 25 i := fun i => (m1202 i).trans (mk25 i)
    refine g_goto ?_
    exact g_ret ⟨rfl, hIH1190, hJH1190, m1204, m1205, m1206, m1207, m1208, m1209, m1210, m1211, m1212, m1213, m1214, (by have z := p1203; rw [tks_6 (by first | with_reducible assumption | omega), tmd_n (by first | with_reducible assumption | omega)]; exact z)⟩
  · refine g_aload_n rfl ?_
    refine g_gfr hI sm_0 rfl ?_
    refine g_iload_n rfl ?_
    refine g_iconst (by decide) (fun v1215 kv1215 => ?_)
    refine g_zastore hI sm_15 (by first | with_reducible assumption | omega) (by first | with_reducible assumption | omega) (fun H1216 eH1216 hIH1216 => ?_)
    have hJH1216 : JM H1216 := JM_sA (by decide) eH1216 hJ
    have m1217 : ∀ a f, fZ H1216 a f = fZ H a f := fun a f => (by rw [eH1216, fZ_sA] : fZ H1216 a f = fZ H a f).trans (mkF a f)
    have m1218 : ∀ i, aZ H1216 2 i = aZ H 2 i := fun i => (by rw [eH1216, aZ_sA_nc (by first | with_reducible assumption | omega)] : aZ H1216 2 i = aZ H 2 i).trans (mk2 i)
    have m1219 : ∀ i, aZ H1216 19 i = aZ H 19 i := fun i => (by rw [eH1216, aZ_sA_nc (by first | with_reducible assumption | omega)] : aZ H1216 19 i = aZ H 19 i).trans (mk19 i)
    have m1220 : ∀ i, aZ H1216 17 i = aZ H 17 i := fun i => (by rw [eH1216, aZ_sA_nc (by first | with_reducible assumption | omega)] : aZ H1216 17 i = aZ H 17 i).trans (mk17 i)
    have m1221 : kpM H H1216 := kpM_A mkfr eH1216 (by first | with_reducible assumption | omega)
    have m1222 : ∀ i, aZ H1216 18 i = aZ H 18 i := fun i => (by rw [eH1216, aZ_sA_nc (by first | with_reducible assumption | omega)] : aZ H1216 18 i = aZ H 18 i).trans (mk18 i)
    have m1223 : ∀ i, aZ H1216 20 i = aZ H 20 i := fun i => (by rw [eH1216, aZ_sA_nc (by first | with_reducible assumption | omega)] : aZ H1216 20 i = aZ H 20 i).trans (mk20 i)
    have m1224 : ∀ i, aZ H1216 22 i = aZ H 22 i := fun i => (by rw [eH1216, aZ_sA_nc (by first | with_reducible assumption | omega)] : aZ H1216 22 i = aZ H 22 i).trans (mk22 i)
    have m1225 : ∀ i, aZ H1216 23 i = aZ H 23 i := fun i => (by rw [eH1216, aZ_sA_nc (by first | with_reducible assumption | omega)] : aZ H1216 23 i = aZ H 23 i).trans (mk23 i)
    have m1226 : ∀ i, aZ H1216 24 i = aZ H 24 i := fun i => (by rw [eH1216, aZ_sA_nc (by first | with_reducible assumption | omega)] : aZ H1216 24 i = aZ H 24 i).trans (mk24 i)
    have m1227 : ∀ i, aZ H1216 25 i = aZ H 25 i := fun i => (by rw [eH1216, aZ_sA_nc (by first | with_reducible assumption | omega)] : aZ H1216 25 i = aZ H 25 i).trans (mk25 i)
    have wdH1216 : rwX H1216 (sSo s a2.toInt.toNat v1215.toInt) md := rw_15 hI hp4 eH1216 (by first | with_reducible assumption | omega)
    refine g_goto ?_
    exact g_ret ⟨rfl, hIH1216, hJH1216, m1217, m1218, m1219, m1220, m1221, m1222, m1223, m1224, m1225, m1226, m1227, (by have z := wdH1216; rw [kv1215] at z; rw [tks_7 (by first | with_reducible assumption | omega), tmd_n (by first | with_reducible assumption | omega)]; exact z)⟩
  · refine g_aload_n rfl ?_
    refine g_gfr hI sm_0 rfl ?_
    refine g_iload_n rfl ?_
    refine g_iconst (by decide) (fun v1228 kv1228 => ?_)
    refine g_zastore hI sm_15 (by first | with_reducible assumption | omega) (by first | with_reducible assumption | omega) (fun H1229 eH1229 hIH1229 => ?_)
    have hJH1229 : JM H1229 := JM_sA (by decide) eH1229 hJ
    have m1230 : ∀ a f, fZ H1229 a f = fZ H a f := fun a f => (by rw [eH1229, fZ_sA] : fZ H1229 a f = fZ H a f).trans (mkF a f)
    have m1231 : ∀ i, aZ H1229 2 i = aZ H 2 i := fun i => (by rw [eH1229, aZ_sA_nc (by first | with_reducible assumption | omega)] : aZ H1229 2 i = aZ H 2 i).trans (mk2 i)
    have m1232 : ∀ i, aZ H1229 19 i = aZ H 19 i := fun i => (by rw [eH1229, aZ_sA_nc (by first | with_reducible assumption | omega)] : aZ H1229 19 i = aZ H 19 i).trans (mk19 i)
    have m1233 : ∀ i, aZ H1229 17 i = aZ H 17 i := fun i => (by rw [eH1229, aZ_sA_nc (by first | with_reducible assumption | omega)] : aZ H1229 17 i = aZ H 17 i).trans (mk17 i)
    have m1234 : kpM H H1229 := kpM_A mkfr eH1229 (by first | with_reducible assumption | omega)
    have m1235 : ∀ i, aZ H1229 18 i = aZ H 18 i := fun i => (by rw [eH1229, aZ_sA_nc (by first | with_reducible assumption | omega)] : aZ H1229 18 i = aZ H 18 i).trans (mk18 i)
    have m1236 : ∀ i, aZ H1229 20 i = aZ H 20 i := fun i => (by rw [eH1229, aZ_sA_nc (by first | with_reducible assumption | omega)] : aZ H1229 20 i = aZ H 20 i).trans (mk20 i)
    have m1237 : ∀ i, aZ H1229 22 i = aZ H 22 i := fun i => (by rw [eH1229, aZ_sA_nc (by first | with_reducible assumption | omega)] : aZ H1229 22 i = aZ H 22 i).trans (mk22 i)
    have m1238 : ∀ i, aZ H1229 23 i = aZ H 23 i := fun i => (by rw [eH1229, aZ_sA_nc (by first | with_reducible assumption | omega)] : aZ H1229 23 i = aZ H 23 i).trans (mk23 i)
    have m1239 : ∀ i, aZ H1229 24 i = aZ H 24 i := fun i => (by rw [eH1229, aZ_sA_nc (by first | with_reducible assumption | omega)] : aZ H1229 24 i = aZ H 24 i).trans (mk24 i)
    have m1240 : ∀ i, aZ H1229 25 i = aZ H 25 i := fun i => (by rw [eH1229, aZ_sA_nc (by first | with_reducible assumption | omega)] : aZ H1229 25 i = aZ H 25 i).trans (mk25 i)
    have wdH1229 : rwX H1229 (sSo s a2.toInt.toNat v1228.toInt) md := rw_15 hI hp4 eH1229 (by first | with_reducible assumption | omega)
    refine g_aload_n rfl ?_
    refine g_iload_n rfl ?_
    refine g_iload_n rfl ?_
    refine g_iload rfl ?_
    refine g_invvv hIH1229 sm_0 rfl rfl rfl rfl (r_193 a2 (by first | with_reducible assumption | omega) a3 (by first | with_reducible assumption | omega) a4 H1229 hIH1229 hJH1229 wdH1229) (fun H1241 r1242 => ?_)
    obtain ⟨hIH1241, hJH1241, m1243, m1244, m1245, m1246, m1247, m1248, m1249, m1250, m1251, m1252, m1253, p1254⟩ := r1242
    have m1255 : ∀ a f, fZ H1241 a f = fZ H a f := fun a f => (m1243 a f).trans (m1230 a f)
    have m1256 : ∀ i, aZ H1241 2 i = aZ H 2 i := fun i => (m1244 i).trans (m1231 i)
    have m1257 : ∀ i, aZ H1241 19 i = aZ H 19 i := fun i => (m1245 i).trans (m1232 i)
    have m1258 : ∀ i, aZ H1241 17 i = aZ H 17 i := fun i => (m1246 i).trans (m1233 i)
    have m1259 : kpM H H1241 := kpM_t m1234 m1247
    have m1260 : ∀ i, aZ H1241 18 i = aZ H 18 i := fun i => (m1248 i).trans (m1235 i)
    have m1261 : ∀ i, aZ H1241 20 i = aZ H 20 i := fun i => (m1249 i).trans (m1236 i)
    have m1262 : ∀ i, aZ H1241 22 i = aZ H 22 i := fun i => (m1250 i).trans (m1237 i)
    have m1263 : ∀ i, aZ H1241 23 i = aZ H 23 i := fun i => (m1251 i).trans (m1238 i)
    have m1264 : ∀ i, aZ H1241 24 i = aZ H 24 i := fun i => (m1252 i).trans (m1239 i)
    have m1265 : ∀ i, aZ H1241 25 i = aZ H 25 i := fun i => (m1253 i).trans (m1240 i)
    refine g_goto ?_
    exact g_ret ⟨rfl, hIH1241, hJH1241, m1255, m1256, m1257, m1258, m1259, m1260, m1261, m1262, m1263, m1264, m1265, (by have z := p1254; rw [kv1228] at z; rw [tks_8 (by first | with_reducible assumption | omega), tmd_n (by first | with_reducible assumption | omega)]; exact z)⟩
  · refine g_aload_n rfl ?_
    refine g_iload_n rfl ?_
    refine g_invvv hI sm_0 rfl rfl rfl rfl (r_197 a2 (by first | with_reducible assumption | omega) H hI hJ hp4 (show dpt s from hp5)) (fun H1266 r1267 => ?_)
    obtain ⟨hIH1266, hJH1266, m1268, m1269, m1270, m1271, m1272, m1273, m1274, m1275, m1276, m1277, m1278, p1279⟩ := r1267
    have m1280 : ∀ a f, fZ H1266 a f = fZ H a f := fun a f => (m1268 a f).trans (mkF a f)
    have m1281 : ∀ i, aZ H1266 2 i = aZ H 2 i := fun i => (m1269 i).trans (mk2 i)
    have m1282 : ∀ i, aZ H1266 19 i = aZ H 19 i := fun i => (m1270 i).trans (mk19 i)
    have m1283 : ∀ i, aZ H1266 17 i = aZ H 17 i := fun i => (m1271 i).trans (mk17 i)
    have m1284 : kpM H H1266 := kpM_t mkfr m1272
    have m1285 : ∀ i, aZ H1266 18 i = aZ H 18 i := fun i => (m1273 i).trans (mk18 i)
    have m1286 : ∀ i, aZ H1266 20 i = aZ H 20 i := fun i => (m1274 i).trans (mk20 i)
    have m1287 : ∀ i, aZ H1266 22 i = aZ H 22 i := fun i => (m1275 i).trans (mk22 i)
    have m1288 : ∀ i, aZ H1266 23 i = aZ H 23 i := fun i => (m1276 i).trans (mk23 i)
    have m1289 : ∀ i, aZ H1266 24 i = aZ H 24 i := fun i => (m1277 i).trans (mk24 i)
    have m1290 : ∀ i, aZ H1266 25 i = aZ H 25 i := fun i => (m1278 i).trans (mk25 i)
    refine g_goto ?_
    exact g_ret ⟨rfl, hIH1266, hJH1266, m1280, m1281, m1282, m1283, m1284, m1285, m1286, m1287, m1288, m1289, m1290, (by have z := p1279; rw [tks_9 (by first | with_reducible assumption | omega), tmd_n (by first | with_reducible assumption | omega)]; rw [show ((a2.toInt.toNat : Nat) : Int) = a2.toInt by omega]; exact z)⟩
