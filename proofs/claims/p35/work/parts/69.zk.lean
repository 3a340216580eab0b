/-! THE REFERENCE'S WORLDS THAT CHANGE -/
theorem rw_8 {H B : mzH} {s : pS} {md : Nat → Int} {i v : Int32} (hI : gI SM H) (h : rwX H s md) (e : B = sA H 8 i.toInt.toNat v) (hi : 0 ≤ i.toInt ∧ i.toInt < 40) : rwX B (sKd s i.toInt.toNat v.toInt) md := fun n hn => by
  have hh := h n hn
  have hk : ∀ q, q ≠ 8 → aZ B q n = aZ H q n := fun q hq => by rw [e, aZ_sA_nc (Ne.symm hq)]
  rw [hk 7 (by decide), hk 9 (by decide), hk 10 (by decide), hk 11 (by decide), hk 12 (by decide), hk 13 (by decide), hk 14 (by decide), hk 15 (by decide), hk 16 (by decide), e, aZ_if hI sm_8 (by omega) rfl]
  refine ⟨hh.1, ?_, hh.2.2.1, hh.2.2.2.1, hh.2.2.2.2.1, hh.2.2.2.2.2.1, hh.2.2.2.2.2.2.1, hh.2.2.2.2.2.2.2.1, hh.2.2.2.2.2.2.2.2.1, hh.2.2.2.2.2.2.2.2.2⟩
  show _ = if n = i.toInt.toNat then v.toInt else s.kd n
  split
  · rfl
  · exact hh.2.1
theorem rw_9 {H B : mzH} {s : pS} {md : Nat → Int} {i v : Int32} (hI : gI SM H) (h : rwX H s md) (e : B = sA H 9 i.toInt.toNat v) (hi : 0 ≤ i.toInt ∧ i.toInt < 40) : rwX B (sII s i.toInt.toNat v.toInt) md := fun n hn => by
  have hh := h n hn
  have hk : ∀ q, q ≠ 9 → aZ B q n = aZ H q n := fun q hq => by rw [e, aZ_sA_nc (Ne.symm hq)]
  rw [hk 7 (by decide), hk 8 (by decide), hk 10 (by decide), hk 11 (by decide), hk 12 (by decide), hk 13 (by decide), hk 14 (by decide), hk 15 (by decide), hk 16 (by decide), e, aZ_if hI sm_9 (by omega) rfl]
  refine ⟨hh.1, hh.2.1, ?_, hh.2.2.2.1, hh.2.2.2.2.1, hh.2.2.2.2.2.1, hh.2.2.2.2.2.2.1, hh.2.2.2.2.2.2.2.1, hh.2.2.2.2.2.2.2.2.1, hh.2.2.2.2.2.2.2.2.2⟩
  show _ = if n = i.toInt.toNat then v.toInt else s.ii n
  split
  · rfl
  · exact hh.2.2.1
theorem rw_10 {H B : mzH} {s : pS} {md : Nat → Int} {i v : Int32} (hI : gI SM H) (h : rwX H s md) (e : B = sA H 10 i.toInt.toNat v) (hi : 0 ≤ i.toInt ∧ i.toInt < 40) : rwX B (sPl s i.toInt.toNat v.toInt) md := fun n hn => by
  have hh := h n hn
  have hk : ∀ q, q ≠ 10 → aZ B q n = aZ H q n := fun q hq => by rw [e, aZ_sA_nc (Ne.symm hq)]
  rw [hk 7 (by decide), hk 8 (by decide), hk 9 (by decide), hk 11 (by decide), hk 12 (by decide), hk 13 (by decide), hk 14 (by decide), hk 15 (by decide), hk 16 (by decide), e, aZ_if hI sm_10 (by omega) rfl]
  refine ⟨hh.1, hh.2.1, hh.2.2.1, ?_, hh.2.2.2.2.1, hh.2.2.2.2.2.1, hh.2.2.2.2.2.2.1, hh.2.2.2.2.2.2.2.1, hh.2.2.2.2.2.2.2.2.1, hh.2.2.2.2.2.2.2.2.2⟩
  show _ = if n = i.toInt.toNat then v.toInt else s.pl n
  split
  · rfl
  · exact hh.2.2.2.1
theorem rw_11 {H B : mzH} {s : pS} {md : Nat → Int} {i v : Int32} (hI : gI SM H) (h : rwX H s md) (e : B = sA H 11 i.toInt.toNat v) (hi : 0 ≤ i.toInt ∧ i.toInt < 40) : rwX B (sLa s i.toInt.toNat v.toInt) md := fun n hn => by
  have hh := h n hn
  have hk : ∀ q, q ≠ 11 → aZ B q n = aZ H q n := fun q hq => by rw [e, aZ_sA_nc (Ne.symm hq)]
  rw [hk 7 (by decide), hk 8 (by decide), hk 9 (by decide), hk 10 (by decide), hk 12 (by decide), hk 13 (by decide), hk 14 (by decide), hk 15 (by decide), hk 16 (by decide), e, aZ_if hI sm_11 (by omega) rfl]
  refine ⟨hh.1, hh.2.1, hh.2.2.1, hh.2.2.2.1, ?_, hh.2.2.2.2.2.1, hh.2.2.2.2.2.2.1, hh.2.2.2.2.2.2.2.1, hh.2.2.2.2.2.2.2.2.1, hh.2.2.2.2.2.2.2.2.2⟩
  show _ = if n = i.toInt.toNat then v.toInt else s.la n
  split
  · rfl
  · exact hh.2.2.2.2.1
theorem rw_12 {H B : mzH} {s : pS} {md : Nat → Int} {i v : Int32} (hI : gI SM H) (h : rwX H s md) (e : B = sA H 12 i.toInt.toNat v) (hi : 0 ≤ i.toInt ∧ i.toInt < 40) : rwX B (sSe s i.toInt.toNat v.toInt) md := fun n hn => by
  have hh := h n hn
  have hk : ∀ q, q ≠ 12 → aZ B q n = aZ H q n := fun q hq => by rw [e, aZ_sA_nc (Ne.symm hq)]
  rw [hk 7 (by decide), hk 8 (by decide), hk 9 (by decide), hk 10 (by decide), hk 11 (by decide), hk 13 (by decide), hk 14 (by decide), hk 15 (by decide), hk 16 (by decide), e, aZ_if hI sm_12 (by omega) rfl]
  refine ⟨hh.1, hh.2.1, hh.2.2.1, hh.2.2.2.1, hh.2.2.2.2.1, ?_, hh.2.2.2.2.2.2.1, hh.2.2.2.2.2.2.2.1, hh.2.2.2.2.2.2.2.2.1, hh.2.2.2.2.2.2.2.2.2⟩
  show _ = if n = i.toInt.toNat then v.toInt else s.se n
  split
  · rfl
  · exact hh.2.2.2.2.2.1
theorem rw_13 {H B : mzH} {s : pS} {md : Nat → Int} {i v : Int32} (hI : gI SM H) (h : rwX H s md) (e : B = sA H 13 i.toInt.toNat v) (hi : 0 ≤ i.toInt ∧ i.toInt < 40) : rwX B (sOp s i.toInt.toNat v.toInt) md := fun n hn => by
  have hh := h n hn
  have hk : ∀ q, q ≠ 13 → aZ B q n = aZ H q n := fun q hq => by rw [e, aZ_sA_nc (Ne.symm hq)]
  rw [hk 7 (by decide), hk 8 (by decide), hk 9 (by decide), hk 10 (by decide), hk 11 (by decide), hk 12 (by decide), hk 14 (by decide), hk 15 (by decide), hk 16 (by decide), e, aZ_if hI sm_13 (by omega) rfl]
  refine ⟨hh.1, hh.2.1, hh.2.2.1, hh.2.2.2.1, hh.2.2.2.2.1, hh.2.2.2.2.2.1, ?_, hh.2.2.2.2.2.2.2.1, hh.2.2.2.2.2.2.2.2.1, hh.2.2.2.2.2.2.2.2.2⟩
  show _ = if n = i.toInt.toNat then v.toInt else s.op n
  split
  · rfl
  · exact hh.2.2.2.2.2.2.1
theorem rw_14 {H B : mzH} {s : pS} {md : Nat → Int} {i v : Int32} (hI : gI SM H) (h : rwX H s md) (e : B = sA H 14 i.toInt.toNat v) (hi : 0 ≤ i.toInt ∧ i.toInt < 40) : rwX B (sHe s i.toInt.toNat v.toInt) md := fun n hn => by
  have hh := h n hn
  have hk : ∀ q, q ≠ 14 → aZ B q n = aZ H q n := fun q hq => by rw [e, aZ_sA_nc (Ne.symm hq)]
  rw [hk 7 (by decide), hk 8 (by decide), hk 9 (by decide), hk 10 (by decide), hk 11 (by decide), hk 12 (by decide), hk 13 (by decide), hk 15 (by decide), hk 16 (by decide), e, aZ_if hI sm_14 (by omega) rfl]
  refine ⟨hh.1, hh.2.1, hh.2.2.1, hh.2.2.2.1, hh.2.2.2.2.1, hh.2.2.2.2.2.1, hh.2.2.2.2.2.2.1, ?_, hh.2.2.2.2.2.2.2.2.1, hh.2.2.2.2.2.2.2.2.2⟩
  show _ = if n = i.toInt.toNat then v.toInt else s.he n
  split
  · rfl
  · exact hh.2.2.2.2.2.2.2.1
theorem rw_15 {H B : mzH} {s : pS} {md : Nat → Int} {i v : Int32} (hI : gI SM H) (h : rwX H s md) (e : B = sA H 15 i.toInt.toNat v) (hi : 0 ≤ i.toInt ∧ i.toInt < 40) : rwX B (sSo s i.toInt.toNat v.toInt) md := fun n hn => by
  have hh := h n hn
  have hk : ∀ q, q ≠ 15 → aZ B q n = aZ H q n := fun q hq => by rw [e, aZ_sA_nc (Ne.symm hq)]
  rw [hk 7 (by decide), hk 8 (by decide), hk 9 (by decide), hk 10 (by decide), hk 11 (by decide), hk 12 (by decide), hk 13 (by decide), hk 14 (by decide), hk 16 (by decide), e, aZ_if hI sm_15 (by omega) rfl]
  refine ⟨hh.1, hh.2.1, hh.2.2.1, hh.2.2.2.1, hh.2.2.2.2.1, hh.2.2.2.2.2.1, hh.2.2.2.2.2.2.1, hh.2.2.2.2.2.2.2.1, ?_, hh.2.2.2.2.2.2.2.2.2⟩
  show _ = if n = i.toInt.toNat then v.toInt else s.so n
  split
  · rfl
  · exact hh.2.2.2.2.2.2.2.2.1
theorem rw_16 {H B : mzH} {s : pS} {md : Nat → Int} {i v : Int32} (hI : gI SM H) (h : rwX H s md) (e : B = sA H 16 i.toInt.toNat v) (hi : 0 ≤ i.toInt ∧ i.toInt < 40) : rwX B (sEn s i.toInt.toNat v.toInt) md := fun n hn => by
  have hh := h n hn
  have hk : ∀ q, q ≠ 16 → aZ B q n = aZ H q n := fun q hq => by rw [e, aZ_sA_nc (Ne.symm hq)]
  rw [hk 7 (by decide), hk 8 (by decide), hk 9 (by decide), hk 10 (by decide), hk 11 (by decide), hk 12 (by decide), hk 13 (by decide), hk 14 (by decide), hk 15 (by decide), e, aZ_if hI sm_16 (by omega) rfl]
  refine ⟨hh.1, hh.2.1, hh.2.2.1, hh.2.2.2.1, hh.2.2.2.2.1, hh.2.2.2.2.2.1, hh.2.2.2.2.2.2.1, hh.2.2.2.2.2.2.2.1, hh.2.2.2.2.2.2.2.2.1, ?_⟩
  show _ = if n = i.toInt.toNat then v.toInt else s.en n
  split
  · rfl
  · exact hh.2.2.2.2.2.2.2.2.2
theorem rw_7 {H B : mzH} {s : pS} {md : Nat → Int} {i v : Int32} (hI : gI SM H) (h : rwX H s md) (e : B = sA H 7 i.toInt.toNat v) (hi : 0 ≤ i.toInt ∧ i.toInt < 40) : rwX B s (upi md i.toInt.toNat v.toInt) := fun n hn => by
  have hh := h n hn
  have hk : ∀ q, q ≠ 7 → aZ B q n = aZ H q n := fun q hq => by rw [e, aZ_sA_nc (Ne.symm hq)]
  rw [hk 8 (by decide), hk 9 (by decide), hk 10 (by decide), hk 11 (by decide), hk 12 (by decide), hk 13 (by decide), hk 14 (by decide), hk 15 (by decide), hk 16 (by decide), e, aZ_if hI sm_7 (by omega) rfl]
  refine ⟨?_, hh.2⟩
  show _ = if n = i.toInt.toNat then v.toInt else md n
  split
  · rfl
  · exact hh.1
theorem rw_o {H B : mzH} {s : pS} {md : Nat → Int} {c i : Nat} {v : Int32} (h : rwX H s md) (e : B = sA H c i v) (hc : c < 7 ∨ 16 < c) : rwX B s md := fun n hn => by
  have hk : ∀ q, (7 ≤ q ∧ q ≤ 16) → aZ B q n = aZ H q n := fun q hq => by rw [e, aZ_sA_nc (by omega)]
  rw [hk 7 (by decide), hk 8 (by decide), hk 9 (by decide), hk 10 (by decide), hk 11 (by decide), hk 12 (by decide), hk 13 (by decide), hk 14 (by decide), hk 15 (by decide), hk 16 (by decide)]
  exact h n hn
def lie (s : pS) (n : Nat) (p h : Int) : pS := sLa (sPl s n p) n h
def cou (s : pS) (n : Nat) (p h : Int) : pS := lie (sII (sOp s (s.ii n).toNat 1) n (-5)) n p h
theorem loo_e {s : pS} {t : Nat} (h : s.ii t = -5 ∨ ¬ s.op (s.ii t).toNat = 0 ∧ s.op (s.ii t).toNat = 1) : loo s t = t := by
  unfold loo
  rw [if_pos (by omega)]
theorem loo_st {s : pS} {t : Nat} (hd : dpt s) (ht : t < 40) (h : ¬ s.ii t = -5) (ho : s.op (s.ii t).toNat = 0) : loo s (s.ii t).toNat = loo s t := by
  have k := hd t ht
  unfold loo
  have h1 : ¬ (s.ii t < 0 ∨ s.op (s.ii t).toNat = 1) := by omega
  rw [if_neg h1]
  rcases k with k | ⟨k1, k2, k3 | ⟨k3, k4, k5⟩⟩
  · omega
  · have c : s.ii (s.ii t).toNat < 0 ∨ s.op (s.ii (s.ii t).toNat).toNat = 1 := by omega
    rw [if_pos c, if_pos c]
  · if q : s.ii (s.ii t).toNat < 0 ∨ s.op (s.ii (s.ii t).toNat).toNat = 1 then rw [if_pos q, if_pos q]
    else rw [if_neg q, if_pos (show s.ii (s.ii (s.ii t).toNat).toNat < 0 ∨ s.op (s.ii (s.ii (s.ii t).toNat).toNat).toNat = 1 by omega), if_neg q]
def scn (s : pS) (n : Nat) (p h : Int) : pS := if (sSe s n h).pl (tp (sSe s n h) n) = p then sLa (sSe s n h) (tp (sSe s n h) n) h else if ¬ (sSe s n h).ii (loo (sSe s n h) n) = -5 then cou (sSe s n h) (loo (sSe s n h) n) p h else lie (sSe s n h) (tp (sSe s n h) n) p h
theorem scn_1 {s : pS} {n : Nat} {p h : Int} (c : (sSe s n h).pl (tp (sSe s n h) n) = p) : scn s n p h = sLa (sSe s n h) (tp (sSe s n h) n) h := by unfold scn; rw [if_pos c]
theorem scn_2 {s : pS} {n : Nat} {p h : Int} (c : ¬ (sSe s n h).pl (tp (sSe s n h) n) = p) (d : ¬ (sSe s n h).ii (loo (sSe s n h) n) = -5) : scn s n p h = cou (sSe s n h) (loo (sSe s n h) n) p h := by unfold scn; rw [if_neg c, if_pos d]
theorem scn_3 {s : pS} {n : Nat} {p h : Int} (c : ¬ (sSe s n h).pl (tp (sSe s n h) n) = p) (d : (sSe s n h).ii (loo (sSe s n h) n) = -5) : scn s n p h = lie (sSe s n h) (tp (sSe s n h) n) p h := by unfold scn; rw [if_neg c, if_neg (fun z => z d)]
def gos (s : pS) (n : Int) (x : Nat) : Int := if (x : Int) = n ∨ inn s x n = 1 then 1 else 0
theorem gos_y {s : pS} {n : Int} {x : Nat} (h : (x : Int) = n ∨ inn s x n = 1) : gos s n x = 1 := by unfold gos; rw [if_pos h]
theorem gos_n {s : pS} {n : Int} {x : Nat} (h : ¬ ((x : Int) = n ∨ inn s x n = 1)) : gos s n x = 0 := by unfold gos; rw [if_neg h]
def opM (s : pS) (n : Nat) : pS := if s.ii n = -5 then s else sOp s (s.ii n).toNat 1
theorem om_0 {H : mzH} {s : pS} {md : Nat → Int} {n : Nat} (h : s.ii n = -5) (k : rwX H s md) : rwX H (opM s n) md := by unfold opM; rw [if_pos h]; exact k
theorem om_1 {H : mzH} {s : pS} {md : Nat → Int} {n : Nat} {i v : Int} (h : ¬ s.ii n = -5) (hi : i = s.ii n) (hv : v = 1) (k : rwX H (sOp s i.toNat v) md) : rwX H (opM s n) md := by
  unfold opM
  rw [if_neg h, ← hi, ← hv]
  exact k
/-- those that go, below k, are ended -/
def sN (g : Nat → Int) (t : pS) (k : Nat) : pS := psM t.kd (fun x => if x < k ∧ g x = 1 then -5 else t.ii x) t.pl t.la t.se (fun x => if x < k ∧ g x = 1 then 0 else t.op x) (fun x => if x < k ∧ g x = 1 then 0 else t.so x) (fun x => if x < k ∧ g x = 1 then 1 else t.en x) (fun x => if x < k ∧ g x = 1 then 0 else t.he x)
theorem up_k {g f : Nat → Int} {k : Nat} {v : Int} (hg : g k = 1) : (fun x => if x < k + 1 ∧ g x = 1 then v else f x) = upi (fun x => if x < k ∧ g x = 1 then v else f x) k v := by
  funext x
  unfold upi
  if q : x = k then
    subst q
    rw [if_pos rfl, if_pos ⟨by omega, hg⟩]
  else
    rw [if_neg q]
    show _ = if x < k ∧ g x = 1 then v else f x
    if z : x < k ∧ g x = 1 then rw [if_pos z, if_pos ⟨by omega, z.2⟩]
    else rw [if_neg z, if_neg (fun c => z ⟨by omega, c.2⟩)]
theorem up_n {g f : Nat → Int} {k : Nat} {v : Int} (hg : ¬ g k = 1) : (fun x => if x < k + 1 ∧ g x = 1 then v else f x) = (fun x => if x < k ∧ g x = 1 then v else f x) := by
  funext x
  if z : x < k ∧ g x = 1 then rw [if_pos z, if_pos ⟨by omega, z.2⟩]
  else
    rw [if_neg z, if_neg]
    rintro ⟨c1, c2⟩
    if q : x = k then
      subst q
      exact hg c2
    else exact z ⟨by omega, c2⟩
theorem up_0 {g f : Nat → Int} {v : Int} : (fun x => if x < 0 ∧ g x = 1 then v else f x) = f := by
  funext x
  rw [if_neg (fun z => absurd z.1 (Nat.not_lt_zero _))]
theorem sN_0 {H : mzH} {t : pS} {md g : Nat → Int} {k : Nat} (h : rwX H t md) (hk : k = 0) : rwX H (sN g t k) md := by
  subst hk
  have e : sN g t 0 = t := by
    unfold sN
    rw [up_0, up_0, up_0, up_0, up_0]
    rfl
  rw [e]
  exact h
theorem sN_y {H : mzH} {t : pS} {md g : Nat → Int} {k k' : Nat} {v1 v2 v3 v4 v5 : Int} (hk : k' = k + 1) (hg : g k = 1) (h1 : v1 = 1) (h2 : v2 = -5) (h3 : v3 = 0) (h4 : v4 = 0) (h5 : v5 = 0) (h : rwX H (sSo (sHe (sOp (sII (sEn (sN g t k) k v1) k v2) k v3) k v4) k v5) md) : rwX H (sN g t k') md := by
  subst hk h1 h2 h3 h4 h5
  have e : sN g t (k + 1) = sSo (sHe (sOp (sII (sEn (sN g t k) k 1) k (-5)) k 0) k 0) k 0 := by
    show psM t.kd _ t.pl t.la t.se _ _ _ _ = psM t.kd _ t.pl t.la t.se _ _ _ _
    rw [up_k hg, up_k hg, up_k hg, up_k hg, up_k hg]
    rfl
  rw [e]
  exact h
theorem sN_n {H : mzH} {t : pS} {md g : Nat → Int} {k k' : Nat} (hk : k' = k + 1) (hg : ¬ g k = 1) (h : rwX H (sN g t k) md) : rwX H (sN g t k') md := by
  subst hk
  have e : sN g t (k + 1) = sN g t k := by
    unfold sN
    rw [up_n hg, up_n hg, up_n hg, up_n hg, up_n hg]
  rw [e]
  exact h
def ens (s : pS) (n : Int) : pS := sN (gos s n) (opM s n.toNat) 40
theorem en_end {H : mzH} {s : pS} {md : Nat → Int} {n : Int} {m k : Nat} (h : rwX H (sN (gos s n) (opM s m) k) md) (hm : m = n.toNat) (hk : k = 40) : rwX H (ens s n) md := by
  subst hm hk
  exact h
/-- a message that is taken -/
def tks (s : pS) (ac : Int) (n : Nat) (ot hour ki : Int) : pS := if ac = 0 then lie (sKd s n ki) n ot hour else if ac = 1 then sII s n ot else if ac = 2 then cou s n (s.pl (tp s n)) hour else if ac = 3 then sOp s n 1 else if ac = 4 then sOp s n 0 else if ac = 5 then lie s n ot hour else if ac = 6 then scn s n ot hour else if ac = 7 then sSo s n 1 else if ac = 8 then lie (sSo s n 0) n ot hour else if ac = 9 then ens s (n : Int) else sHe s n 0
def tmd (md : Nat → Int) (ac : Int) (n : Nat) : Nat → Int := if ac = 0 then upi md n 1 else md
theorem tmd_0 {md : Nat → Int} {ac : Int} {n : Nat} (h : ac = 0) : tmd md ac n = upi md n 1 := by unfold tmd; rw [if_pos h]
theorem tmd_n {md : Nat → Int} {ac : Int} {n : Nat} (h : ¬ ac = 0) : tmd md ac n = md := by unfold tmd; rw [if_neg h]
theorem tks_0 {s : pS} {ac ot hour ki : Int} {n : Nat} (h : ac = 0) : tks s ac n ot hour ki = lie (sKd s n ki) n ot hour := by
  subst h
  rfl
theorem tks_1 {s : pS} {ac ot hour ki : Int} {n : Nat} (h : ac = 1) : tks s ac n ot hour ki = sII s n ot := by
  subst h
  rfl
theorem tks_2 {s : pS} {ac ot hour ki : Int} {n : Nat} (h : ac = 2) : tks s ac n ot hour ki = cou s n (s.pl (tp s n)) hour := by
  subst h
  rfl
theorem tks_3 {s : pS} {ac ot hour ki : Int} {n : Nat} (h : ac = 3) : tks s ac n ot hour ki = sOp s n 1 := by
  subst h
  rfl
theorem tks_4 {s : pS} {ac ot hour ki : Int} {n : Nat} (h : ac = 4) : tks s ac n ot hour ki = sOp s n 0 := by
  subst h
  rfl
theorem tks_5 {s : pS} {ac ot hour ki : Int} {n : Nat} (h : ac = 5) : tks s ac n ot hour ki = lie s n ot hour := by
  subst h
  rfl
theorem tks_6 {s : pS} {ac ot hour ki : Int} {n : Nat} (h : ac = 6) : tks s ac n ot hour ki = scn s n ot hour := by
  subst h
  rfl
theorem tks_7 {s : pS} {ac ot hour ki : Int} {n : Nat} (h : ac = 7) : tks s ac n ot hour ki = sSo s n 1 := by
  subst h
  rfl
theorem tks_8 {s : pS} {ac ot hour ki : Int} {n : Nat} (h : ac = 8) : tks s ac n ot hour ki = lie (sSo s n 0) n ot hour := by
  subst h
  rfl
theorem tks_9 {s : pS} {ac ot hour ki : Int} {n : Nat} (h : ac = 9) : tks s ac n ot hour ki = ens s (n : Int) := by
  subst h
  rfl
theorem tks_10 {s : pS} {ac ot hour ki : Int} {n : Nat} (h : ac = 10) : tks s ac n ot hour ki = sHe s n 0 := by
  subst h
  rfl
set_option maxRecDepth 4000 in
set_option maxHeartbeats 4000000 in
/-- M.lies -/
theorem r_193 {s : pS} {md : Nat → Int} (a1 : Int32) (ha1 : 0 ≤ a1.toInt ∧ a1.toInt ≤ 39) (a2 : Int32) (ha2 : 0 ≤ a2.toInt ∧ a2.toInt ≤ 7) (a3 : Int32) (H : mzH) (hI : gI SM H) (hJ : JM H) (hp0 : rwX H s md) : gCall 193 [.ref 0, .int a1, .int a2, .int a3] H (gRv (fun H' => gI SM H' ∧ JM H' ∧ (∀ a f, fZ H' a f = fZ H a f) ∧ (∀ i, aZ H' 2 i = aZ H 2 i) ∧ (∀ i, aZ H' 19 i = aZ H 19 i) ∧ (∀ i, aZ H' 17 i = aZ H 17 i) ∧ kpM H H' ∧ (∀ i, aZ H' 18 i = aZ H 18 i) ∧ (∀ i, aZ H' 20 i = aZ H 20 i) ∧ rwX H' (lie s a1.toInt.toNat a2.toInt a3.toInt) md)) := by
  have mkF : ∀ a f, fZ H a f = fZ H a f := fun _ _ => rfl
  have mk2 : ∀ i, aZ H 2 i = aZ H 2 i := fun _ => rfl
  have mk19 : ∀ i, aZ H 19 i = aZ H 19 i := fun _ => rfl
  have mk17 : ∀ i, aZ H 17 i = aZ H 17 i := fun _ => rfl
  have mkfr : kpM H H := kpM_r
  have mk18 : ∀ i, aZ H 18 i = aZ H 18 i := fun _ => rfl
  have mk20 : ∀ i, aZ H 20 i = aZ H 20 i := fun _ => rfl
  refine gG_call [(0, .ref 0), (1, .int a1), (2, .int a2), (3, .int a3)] ⟨rfl, rfl, rfl, rfl, trivial⟩ ?_
  show gG 4 zB_193 (mzBlk zB_193 0) [(0, .ref 0), (1, .int a1), (2, .int a2), (3, .int a3)] [] H 0 0 _
  refine g_aload_n rfl ?_
  refine g_gfr hI sm_0 rfl ?_
  refine g_iload_n rfl ?_
  refine g_iload_n rfl ?_
  refine g_iastore hI sm_10 (by omega) (by omega) (fun H65 eH65 hIH65 => ?_)
  have hJH65 : JM H65 := JM_sA (by decide) eH65 hJ
  have m66 : ∀ a f, fZ H65 a f = fZ H a f := fun a f => (by rw [eH65, fZ_sA] : fZ H65 a f = fZ H a f).trans (mkF a f)
  have m67 : ∀ i, aZ H65 2 i = aZ H 2 i := fun i => (by rw [eH65, aZ_sA_nc (by omega)] : aZ H65 2 i = aZ H 2 i).trans (mk2 i)
  have m68 : ∀ i, aZ H65 19 i = aZ H 19 i := fun i => (by rw [eH65, aZ_sA_nc (by omega)] : aZ H65 19 i = aZ H 19 i).trans (mk19 i)
  have m69 : ∀ i, aZ H65 17 i = aZ H 17 i := fun i => (by rw [eH65, aZ_sA_nc (by omega)] : aZ H65 17 i = aZ H 17 i).trans (mk17 i)
  have m70 : kpM H H65 := kpM_A mkfr eH65 (by omega)
  have m71 : ∀ i, aZ H65 18 i = aZ H 18 i := fun i => (by rw [eH65, aZ_sA_nc (by omega)] : aZ H65 18 i = aZ H 18 i).trans (mk18 i)
  have m72 : ∀ i, aZ H65 20 i = aZ H 20 i := fun i => (by rw [eH65, aZ_sA_nc (by omega)] : aZ H65 20 i = aZ H 20 i).trans (mk20 i)
  have wdH65 : rwX H65 (sPl s a1.toInt.toNat a2.toInt) md := rw_10 hI hp0 eH65 (by omega)
  refine g_aload_n rfl ?_
  refine g_gfr hIH65 sm_0 rfl ?_
  refine g_iload_n rfl ?_
  refine g_iload_n rfl ?_
  refine g_iastore hIH65 sm_11 (by omega) (gz_any _) (fun H73 eH73 hIH73 => ?_)
  have hJH73 : JM H73 := JM_sA (by decide) eH73 hJH65
  have m74 : ∀ a f, fZ H73 a f = fZ H a f := fun a f => (by rw [eH73, fZ_sA] : fZ H73 a f = fZ H65 a f).trans (m66 a f)
  have m75 : ∀ i, aZ H73 2 i = aZ H 2 i := fun i => (by rw [eH73, aZ_sA_nc (by omega)] : aZ H73 2 i = aZ H65 2 i).trans (m67 i)
  have m76 : ∀ i, aZ H73 19 i = aZ H 19 i := fun i => (by rw [eH73, aZ_sA_nc (by omega)] : aZ H73 19 i = aZ H65 19 i).trans (m68 i)
  have m77 : ∀ i, aZ H73 17 i = aZ H 17 i := fun i => (by rw [eH73, aZ_sA_nc (by omega)] : aZ H73 17 i = aZ H65 17 i).trans (m69 i)
  have m78 : kpM H H73 := kpM_A m70 eH73 (by omega)
  have m79 : ∀ i, aZ H73 18 i = aZ H 18 i := fun i => (by rw [eH73, aZ_sA_nc (by omega)] : aZ H73 18 i = aZ H65 18 i).trans (m71 i)
  have m80 : ∀ i, aZ H73 20 i = aZ H 20 i := fun i => (by rw [eH73, aZ_sA_nc (by omega)] : aZ H73 20 i = aZ H65 20 i).trans (m72 i)
  have wdH73 : rwX H73 (sLa (sPl s a1.toInt.toNat a2.toInt) a1.toInt.toNat a3.toInt) md := rw_11 hIH65 wdH65 eH73 (by omega)
  exact g_ret ⟨rfl, hIH73, hJH73, m74, m75, m76, m77, m78, m79, m80, wdH73⟩
set_option maxRecDepth 4000 in
set_option maxHeartbeats 4000000 in
/-- M.comesOut -/
theorem r_195 {s : pS} {md : Nat → Int} (a1 : Int32) (ha1 : 0 ≤ a1.toInt ∧ a1.toInt ≤ 39) (a2 : Int32) (ha2 : 0 ≤ a2.toInt ∧ a2.toInt ≤ 7) (a3 : Int32) (H : mzH) (hI : gI SM H) (hJ : JM H) (hp0 : rwX H s md) (hp1 : ¬ (aZ H 9 a1.toInt.toNat).toInt = -5) (hp2 : (s.ii a1.toInt.toNat = -5 ∨ (0 ≤ s.ii a1.toInt.toNat ∧ s.ii a1.toInt.toNat < 40))) : gCall 195 [.ref 0, .int a1, .int a2, .int a3] H (gRv (fun H' => gI SM H' ∧ JM H' ∧ (∀ a f, fZ H' a f = fZ H a f) ∧ (∀ i, aZ H' 2 i = aZ H 2 i) ∧ (∀ i, aZ H' 19 i = aZ H 19 i) ∧ (∀ i, aZ H' 17 i = aZ H 17 i) ∧ kpM H H' ∧ (∀ i, aZ H' 18 i = aZ H 18 i) ∧ (∀ i, aZ H' 20 i = aZ H 20 i) ∧ rwX H' (cou s a1.toInt.toNat a2.toInt a3.toInt) md)) := by
  have mkF : ∀ a f, fZ H a f = fZ H a f := fun _ _ => rfl
  have mk2 : ∀ i, aZ H 2 i = aZ H 2 i := fun _ => rfl
  have mk19 : ∀ i, aZ H 19 i = aZ H 19 i := fun _ => rfl
  have mk17 : ∀ i, aZ H 17 i = aZ H 17 i := fun _ => rfl
  have mkfr : kpM H H := kpM_r
  have mk18 : ∀ i, aZ H 18 i = aZ H 18 i := fun _ => rfl
  have mk20 : ∀ i, aZ H 20 i = aZ H 20 i := fun _ => rfl
  refine gG_call [(0, .ref 0), (1, .int a1), (2, .int a2), (3, .int a3)] ⟨rfl, rfl, rfl, rfl, trivial⟩ ?_
  show gG 4 zB_195 (mzBlk zB_195 0) [(0, .ref 0), (1, .int a1), (2, .int a2), (3, .int a3)] [] H 0 0 _
  refine g_aload_n rfl ?_
  refine g_gfr hI sm_0 rfl ?_
  refine g_aload_n rfl ?_
  refine g_gfr hI sm_0 rfl ?_
  refine g_iload_n rfl ?_
  refine g_iaload hI sm_9 rfl (by omega) (fun v145 ev145 lv145 uv145 => ?_)
  have qv145 := JM_in hJ (by omega) ev145
  have yv145 : v145.toInt = (aZ H 9 a1.toInt.toNat).toInt := by rw [ev145]
  have yv145 : v145.toInt = (s).ii a1.toInt.toNat := by rw [ev145]; exact (hp0 _ (by omega)).2.2.1
  refine g_iconst (by decide) (fun v146 kv146 => ?_)
  refine g_zastore hI sm_13 (by omega) (by omega) (fun H147 eH147 hIH147 => ?_)
  have hJH147 : JM H147 := JM_sA (by decide) eH147 hJ
  have m148 : ∀ a f, fZ H147 a f = fZ H a f := fun a f => (by rw [eH147, fZ_sA] : fZ H147 a f = fZ H a f).trans (mkF a f)
  have m149 : ∀ i, aZ H147 2 i = aZ H 2 i := fun i => (by rw [eH147, aZ_sA_nc (by omega)] : aZ H147 2 i = aZ H 2 i).trans (mk2 i)
  have m150 : ∀ i, aZ H147 19 i = aZ H 19 i := fun i => (by rw [eH147, aZ_sA_nc (by omega)] : aZ H147 19 i = aZ H 19 i).trans (mk19 i)
  have m151 : ∀ i, aZ H147 17 i = aZ H 17 i := fun i => (by rw [eH147, aZ_sA_nc (by omega)] : aZ H147 17 i = aZ H 17 i).trans (mk17 i)
  have m152 : kpM H H147 := kpM_A mkfr eH147 (by omega)
  have m153 : ∀ i, aZ H147 18 i = aZ H 18 i := fun i => (by rw [eH147, aZ_sA_nc (by omega)] : aZ H147 18 i = aZ H 18 i).trans (mk18 i)
  have m154 : ∀ i, aZ H147 20 i = aZ H 20 i := fun i => (by rw [eH147, aZ_sA_nc (by omega)] : aZ H147 20 i = aZ H 20 i).trans (mk20 i)
  have wdH147 : rwX H147 (sOp s v145.toInt.toNat v146.toInt) md := rw_13 hI hp0 eH147 (by omega)
  refine g_aload_n rfl ?_
  refine g_gfr hIH147 sm_0 rfl ?_
  refine g_iload_n rfl ?_
  refine g_bipush (by decide) (fun v155 kv155 => ?_)
  refine g_iastore hIH147 sm_9 (by omega) (by omega) (fun H156 eH156 hIH156 => ?_)
  have hJH156 : JM H156 := JM_out hIH147 hJH147 (by omega) (by omega) eH156
  have m157 : ∀ a f, fZ H156 a f = fZ H a f := fun a f => (by rw [eH156, fZ_sA] : fZ H156 a f = fZ H147 a f).trans (m148 a f)
  have m158 : ∀ i, aZ H156 2 i = aZ H 2 i := fun i => (by rw [eH156, aZ_sA_nc (by omega)] : aZ H156 2 i = aZ H147 2 i).trans (m149 i)
  have m159 : ∀ i, aZ H156 19 i = aZ H 19 i := fun i => (by rw [eH156, aZ_sA_nc (by omega)] : aZ H156 19 i = aZ H147 19 i).trans (m150 i)
  have m160 : ∀ i, aZ H156 17 i = aZ H 17 i := fun i => (by rw [eH156, aZ_sA_nc (by omega)] : aZ H156 17 i = aZ H147 17 i).trans (m151 i)
  have m161 : kpM H H156 := kpM_A m152 eH156 (by omega)
  have m162 : ∀ i, aZ H156 18 i = aZ H 18 i := fun i => (by rw [eH156, aZ_sA_nc (by omega)] : aZ H156 18 i = aZ H147 18 i).trans (m153 i)
  have m163 : ∀ i, aZ H156 20 i = aZ H 20 i := fun i => (by rw [eH156, aZ_sA_nc (by omega)] : aZ H156 20 i = aZ H147 20 i).trans (m154 i)
  have wdH156 : rwX H156 (sII (sOp s v145.toInt.toNat v146.toInt) a1.toInt.toNat v155.toInt) md := rw_9 hIH147 wdH147 eH156 (by omega)
  refine g_aload_n rfl ?_
  refine g_iload_n rfl ?_
  refine g_iload_n rfl ?_
  refine g_iload_n rfl ?_
  refine g_invvv hIH156 sm_0 rfl rfl rfl rfl (r_193 a1 (by omega) a2 (by omega) a3 H156 hIH156 hJH156 wdH156) (fun H164 r165 => ?_)
  obtain ⟨hIH164, hJH164, m166, m167, m168, m169, m170, m171, m172, p173⟩ := r165
  have m174 : ∀ a f, fZ H164 a f = fZ H a f := fun a f => (m166 a f).trans (m157 a f)
  have m175 : ∀ i, aZ H164 2 i = aZ H 2 i := fun i => (m167 i).trans (m158 i)
  have m176 : ∀ i, aZ H164 19 i = aZ H 19 i := fun i => (m168 i).trans (m159 i)
  have m177 : ∀ i, aZ H164 17 i = aZ H 17 i := fun i => (m169 i).trans (m160 i)
  have m178 : kpM H H164 := kpM_t m161 m170
  have m179 : ∀ i, aZ H164 18 i = aZ H 18 i := fun i => (m171 i).trans (m162 i)
  have m180 : ∀ i, aZ H164 20 i = aZ H 20 i := fun i => (m172 i).trans (m163 i)
  exact g_ret ⟨rfl, hIH164, hJH164, m174, m175, m176, m177, m178, m179, m180, (by unfold cou; have z := p173; rw [kv146, kv155, yv145] at z; exact z)⟩
set_option maxRecDepth 4000 in
set_option maxHeartbeats 4000000 in
/-- M.scans -/
theorem r_196 {s : pS} {md : Nat → Int} (a1 : Int32) (ha1 : 0 ≤ a1.toInt ∧ a1.toInt ≤ 39) (a2 : Int32) (ha2 : 0 ≤ a2.toInt ∧ a2.toInt ≤ 7) (a3 : Int32) (H : mzH) (hI : gI SM H) (hJ : JM H) (hp0 : rwX H s md) (hp1 : dpt s) : gCall 196 [.ref 0, .int a1, .int a2, .int a3] H (gRv (fun H' => gI SM H' ∧ JM H' ∧ (∀ a f, fZ H' a f = fZ H a f) ∧ (∀ i, aZ H' 2 i = aZ H 2 i) ∧ (∀ i, aZ H' 19 i = aZ H 19 i) ∧ (∀ i, aZ H' 17 i = aZ H 17 i) ∧ kpM H H' ∧ (∀ i, aZ H' 18 i = aZ H 18 i) ∧ (∀ i, aZ H' 20 i = aZ H 20 i) ∧ rwX H' (scn s a1.toInt.toNat a2.toInt a3.toInt) md)) := by
  have mkF : ∀ a f, fZ H a f = fZ H a f := fun _ _ => rfl
  have mk2 : ∀ i, aZ H 2 i = aZ H 2 i := fun _ => rfl
  have mk19 : ∀ i, aZ H 19 i = aZ H 19 i := fun _ => rfl
  have mk17 : ∀ i, aZ H 17 i = aZ H 17 i := fun _ => rfl
  have mkfr : kpM H H := kpM_r
  have mk18 : ∀ i, aZ H 18 i = aZ H 18 i := fun _ => rfl
  have mk20 : ∀ i, aZ H 20 i = aZ H 20 i := fun _ => rfl
  refine gG_call [(0, .ref 0), (1, .int a1), (2, .int a2), (3, .int a3)] ⟨rfl, rfl, rfl, rfl, trivial⟩ ?_
  show gG 6 zB_196 (mzBlk zB_196 0) [(0, .ref 0), (1, .int a1), (2, .int a2), (3, .int a3)] [] H 0 0 _
  refine g_aload_n rfl ?_
  refine g_gfr hI sm_0 rfl ?_
  refine g_iload_n rfl ?_
  refine g_iload_n rfl ?_
  refine g_iastore hI sm_12 (by omega) (gz_any _) (fun H281 eH281 hIH281 => ?_)
  have hJH281 : JM H281 := JM_sA (by decide) eH281 hJ
  have m282 : ∀ a f, fZ H281 a f = fZ H a f := fun a f => (by rw [eH281, fZ_sA] : fZ H281 a f = fZ H a f).trans (mkF a f)
  have m283 : ∀ i, aZ H281 2 i = aZ H 2 i := fun i => (by rw [eH281, aZ_sA_nc (by omega)] : aZ H281 2 i = aZ H 2 i).trans (mk2 i)
  have m284 : ∀ i, aZ H281 19 i = aZ H 19 i := fun i => (by rw [eH281, aZ_sA_nc (by omega)] : aZ H281 19 i = aZ H 19 i).trans (mk19 i)
  have m285 : ∀ i, aZ H281 17 i = aZ H 17 i := fun i => (by rw [eH281, aZ_sA_nc (by omega)] : aZ H281 17 i = aZ H 17 i).trans (mk17 i)
  have m286 : kpM H H281 := kpM_A mkfr eH281 (by omega)
  have m287 : ∀ i, aZ H281 18 i = aZ H 18 i := fun i => (by rw [eH281, aZ_sA_nc (by omega)] : aZ H281 18 i = aZ H 18 i).trans (mk18 i)
  have m288 : ∀ i, aZ H281 20 i = aZ H 20 i := fun i => (by rw [eH281, aZ_sA_nc (by omega)] : aZ H281 20 i = aZ H 20 i).trans (mk20 i)
  have wdH281 : rwX H281 (sSe s a1.toInt.toNat a3.toInt) md := rw_12 hI hp0 eH281 (by omega)
  refine g_aload_n rfl ?_
  refine g_iload_n rfl ?_
  refine g_invvi hIH281 sm_0 rfl rfl rfl rfl (r_185 a1 (by omega) H281 hIH281 hJH281 wdH281 (show dpt (sSe s a1.toInt.toNat a3.toInt) from hp1)) (fun v291 H289 r290 => ?_)
  obtain ⟨rfl, bv291, p292⟩ := r290
  have tnv291 : v291.toInt.toNat = tp (sSe s a1.toInt.toNat a3.toInt) a1.toInt.toNat := by omega
  refine g_istore (l' := [(0, .ref 0), (1, .int a1), (2, .int a2), (3, .int a3), (4, .int v291)]) rfl rfl ?_
  refine g_aload_n rfl ?_
  refine g_gfr hIH281 sm_0 rfl ?_
  refine g_iload rfl ?_
  refine g_iaload hIH281 sm_10 rfl (by omega) (fun v293 ev293 lv293 uv293 => ?_)
  have yv293 : v293.toInt = ((sSe s a1.toInt.toNat a3.toInt)).pl v291.toInt.toNat := by rw [ev293]; exact (wdH281 _ (by omega)).2.2.2.1
  rw [tnv291] at yv293
  refine g_iload_n rfl ?_
  refine g_if2_ne (fun c294 => ?_) (fun c294 => ?_)
  · refine g_iload_n rfl ?_
    refine g_istore (l' := [(0, .ref 0), (1, .int a1), (2, .int a2), (3, .int a3), (4, .int v291), (5, .int a1)]) rfl rfl ?_
    refine g_nop ?_
    have L296 : ∀ (N : Nat) (v295 : Int32), (0 ≤ v295.toInt ∧ v295.toInt ≤ 39) → loo (sSe s a1.toInt.toNat a3.toInt) v295.toInt.toNat = loo (sSe s a1.toInt.toNat a3.toInt) a1.toInt.toNat → dep (sSe s a1.toInt.toNat a3.toInt) v295.toInt.toNat < N → gG 6 zB_196 (mzBlk zB_196 2) [(0, .ref 0), (1, .int a1), (2, .int a2), (3, .int a3), (4, .int v291), (5, .int v295)] [] H281 0 0 (gRv (fun H' => gI SM H' ∧ JM H' ∧ (∀ a f, fZ H' a f = fZ H a f) ∧ (∀ i, aZ H' 2 i = aZ H 2 i) ∧ (∀ i, aZ H' 19 i = aZ H 19 i) ∧ (∀ i, aZ H' 17 i = aZ H 17 i) ∧ kpM H H' ∧ (∀ i, aZ H' 18 i = aZ H 18 i) ∧ (∀ i, aZ H' 20 i = aZ H 20 i) ∧ rwX H' (scn s a1.toInt.toNat a2.toInt a3.toInt) md)) := by
      intro N
      induction N with
      | zero => intro v295 bv295 q1 hmL296; exact absurd hmL296 (Nat.not_lt_zero _)
      | succ N ihL296 =>
        intro v295 bv295 q1 hmL296
        refine g_aload_n rfl ?_
        refine g_gfr hIH281 sm_0 rfl ?_
        refine g_iload rfl ?_
        refine g_iaload hIH281 sm_9 rfl (by omega) (fun v297 ev297 lv297 uv297 => ?_)
        have qv297 := JM_in hJH281 (by omega) ev297
        have yv297 : v297.toInt = (aZ H281 9 v295.toInt.toNat).toInt := by rw [ev297]
        have yv297 : v297.toInt = ((sSe s a1.toInt.toNat a3.toInt)).ii v295.toInt.toNat := by rw [ev297]; exact (wdH281 _ (by omega)).2.2.1
        have ddv297 := dpt_1 (show dpt (sSe s a1.toInt.toNat a3.toInt) from hp1) (n := v295.toInt.toNat) (by omega)
        refine g_bipush (by decide) (fun v298 kv298 => ?_)
        refine g_if2_eq (fun c299 => ?_) (fun c299 => ?_)
        · refine g_aload_n rfl ?_
          refine g_gfr hIH281 sm_0 rfl ?_
          refine g_iload rfl ?_
          refine g_ialoadk hIH281 sm_9 rfl (by omega) ev297 ?_
          refine g_bipush (by decide) (fun v300 kv300 => ?_)
          refine g_if2_eq (fun c301 => ?_) (fun c301 => ?_)
          · refine g_aload_n rfl ?_
            refine g_iload rfl ?_
            refine g_iload_n rfl ?_
            refine g_iload_n rfl ?_
            refine g_invvv hIH281 sm_0 rfl rfl rfl rfl (r_193 v291 (by omega) a2 (by omega) a3 H281 hIH281 hJH281 wdH281) (fun H302 r303 => ?_)
            obtain ⟨hIH302, hJH302, m304, m305, m306, m307, m308, m309, m310, p311⟩ := r303
            have m312 : ∀ a f, fZ H302 a f = fZ H a f := fun a f => (m304 a f).trans (m282 a f)
            have m313 : ∀ i, aZ H302 2 i = aZ H 2 i := fun i => (m305 i).trans (m283 i)
            have m314 : ∀ i, aZ H302 19 i = aZ H 19 i := fun i => (m306 i).trans (m284 i)
            have m315 : ∀ i, aZ H302 17 i = aZ H 17 i := fun i => (m307 i).trans (m285 i)
            have m316 : kpM H H302 := kpM_t m286 m308
            have m317 : ∀ i, aZ H302 18 i = aZ H 18 i := fun i => (m309 i).trans (m287 i)
            have m318 : ∀ i, aZ H302 20 i = aZ H 20 i := fun i => (m310 i).trans (m288 i)
            refine g_nop ?_
            exact g_ret ⟨rfl, hIH302, hJH302, m312, m313, m314, m315, m316, m317, m318, (by rw [scn_3 (by omega) (by rw [← q1, loo_e (by omega)]; omega), ← tnv291]; exact p311)⟩
          · exfalso; omega
        · refine g_aload_n rfl ?_
          refine g_gfr hIH281 sm_0 rfl ?_
          refine g_aload_n rfl ?_
          refine g_gfr hIH281 sm_0 rfl ?_
          refine g_iload rfl ?_
          refine g_ialoadk hIH281 sm_9 rfl (by omega) ev297 ?_
          refine g_baload hIH281 sm_13 rfl (by omega) (fun v319 ev319 lv319 uv319 => ?_)
          have yv319 : v319.toInt = ((sSe s a1.toInt.toNat a3.toInt)).op v297.toInt.toNat := by rw [ev319]; exact (wdH281 _ (by omega)).2.2.2.2.2.2.1
          rw [yv297] at yv319
          refine g_if_ne (fun c320 => ?_) (fun c320 => ?_)
          · refine g_aload_n rfl ?_
            refine g_gfr hIH281 sm_0 rfl ?_
            refine g_iload rfl ?_
            refine g_ialoadk hIH281 sm_9 rfl (by omega) ev297 ?_
            refine g_bipush (by decide) (fun v321 kv321 => ?_)
            refine g_if2_eq (fun c322 => ?_) (fun c322 => ?_)
            · exfalso; omega
            · refine g_aload_n rfl ?_
              refine g_iload rfl ?_
              refine g_iload_n rfl ?_
              refine g_iload_n rfl ?_
              refine g_invvv hIH281 sm_0 rfl rfl rfl rfl (r_195 v295 (by omega) a2 (by omega) a3 H281 hIH281 hJH281 wdH281 (by rw [(wdH281 _ (by omega)).2.2.1]; omega) (dpt_1 (show dpt (sSe s a1.toInt.toNat a3.toInt) from hp1) (by omega))) (fun H323 r324 => ?_)
              obtain ⟨hIH323, hJH323, m325, m326, m327, m328, m329, m330, m331, p332⟩ := r324
              have m333 : ∀ a f, fZ H323 a f = fZ H a f := fun a f => (m325 a f).trans (m282 a f)
              have m334 : ∀ i, aZ H323 2 i = aZ H 2 i := fun i => (m326 i).trans (m283 i)
              have m335 : ∀ i, aZ H323 19 i = aZ H 19 i := fun i => (m327 i).trans (m284 i)
              have m336 : ∀ i, aZ H323 17 i = aZ H 17 i := fun i => (m328 i).trans (m285 i)
              have m337 : kpM H H323 := kpM_t m286 m329
              have m338 : ∀ i, aZ H323 18 i = aZ H 18 i := fun i => (m330 i).trans (m287 i)
              have m339 : ∀ i, aZ H323 20 i = aZ H 20 i := fun i => (m331 i).trans (m288 i)
              refine g_goto ?_
              exact g_ret ⟨rfl, hIH323, hJH323, m333, m334, m335, m336, m337, m338, m339, (by rw [scn_2 (by omega) (by rw [← q1, loo_e (by omega)]; omega), ← q1, loo_e (by omega)]; exact p332)⟩
          · refine g_aload_n rfl ?_
            refine g_gfr hIH281 sm_0 rfl ?_
            refine g_iload rfl ?_
            refine g_ialoadk hIH281 sm_9 rfl (by omega) ev297 ?_
            refine g_istore (l' := [(0, .ref 0), (1, .int a1), (2, .int a2), (3, .int a3), (4, .int v291), (5, .int v297)]) rfl rfl ?_
            refine g_goto ?_
            exact ihL296 v297 (by omega) (by rw [yv297]; exact (loo_st (show dpt (sSe s a1.toInt.toNat a3.toInt) from hp1) (by omega) (by omega) (by omega)).trans q1) (by have := (top_st (show dpt (sSe s a1.toInt.toNat a3.toInt) from hp1) (t := v295.toInt.toNat) (by omega) (by omega)).2; rw [yv297]; omega)
    exact L296 _ a1 (by omega) rfl (Nat.lt_succ_self _)
  · refine g_aload_n rfl ?_
    refine g_gfr hIH281 sm_0 rfl ?_
    refine g_iload rfl ?_
    refine g_iload_n rfl ?_
    refine g_iastore hIH281 sm_11 (by omega) (gz_any _) (fun H340 eH340 hIH340 => ?_)
    have hJH340 : JM H340 := JM_sA (by decide) eH340 hJH281
    have m341 : ∀ a f, fZ H340 a f = fZ H a f := fun a f => (by rw [eH340, fZ_sA] : fZ H340 a f = fZ H281 a f).trans (m282 a f)
    have m342 : ∀ i, aZ H340 2 i = aZ H 2 i := fun i => (by rw [eH340, aZ_sA_nc (by omega)] : aZ H340 2 i = aZ H281 2 i).trans (m283 i)
    have m343 : ∀ i, aZ H340 19 i = aZ H 19 i := fun i => (by rw [eH340, aZ_sA_nc (by omega)] : aZ H340 19 i = aZ H281 19 i).trans (m284 i)
    have m344 : ∀ i, aZ H340 17 i = aZ H 17 i := fun i => (by rw [eH340, aZ_sA_nc (by omega)] : aZ H340 17 i = aZ H281 17 i).trans (m285 i)
    have m345 : kpM H H340 := kpM_A m286 eH340 (by omega)
    have m346 : ∀ i, aZ H340 18 i = aZ H 18 i := fun i => (by rw [eH340, aZ_sA_nc (by omega)] : aZ H340 18 i = aZ H281 18 i).trans (m287 i)
    have m347 : ∀ i, aZ H340 20 i = aZ H 20 i := fun i => (by rw [eH340, aZ_sA_nc (by omega)] : aZ H340 20 i = aZ H281 20 i).trans (m288 i)
    have wdH340 : rwX H340 (sLa (sSe s a1.toInt.toNat a3.toInt) v291.toInt.toNat a3.toInt) md := rw_11 hIH281 wdH281 eH340 (by omega)
    exact g_ret ⟨rfl, hIH340, hJH340, m341, m342, m343, m344, m345, m346, m347, (by rw [scn_1 (by omega), ← tnv291]; exact wdH340)⟩
set_option maxRecDepth 4000 in
set_option maxHeartbeats 4000000 in
/-- M.ends -/
theorem r_197 {s : pS} {md : Nat → Int} (a1 : Int32) (ha1 : 0 ≤ a1.toInt ∧ a1.toInt ≤ 39) (H : mzH) (hI : gI SM H) (hJ : JM H) (hp0 : rwX H s md) (hp1 : dpt s) : gCall 197 [.ref 0, .int a1] H (gRv (fun H' => gI SM H' ∧ JM H' ∧ (∀ a f, fZ H' a f = fZ H a f) ∧ (∀ i, aZ H' 2 i = aZ H 2 i) ∧ (∀ i, aZ H' 19 i = aZ H 19 i) ∧ (∀ i, aZ H' 17 i = aZ H 17 i) ∧ kpM H H' ∧ (∀ i, aZ H' 18 i = aZ H 18 i) ∧ (∀ i, aZ H' 20 i = aZ H 20 i) ∧ rwX H' (ens s a1.toInt) md)) := by
  have mkF : ∀ a f, fZ H a f = fZ H a f := fun _ _ => rfl
  have mk2 : ∀ i, aZ H 2 i = aZ H 2 i := fun _ => rfl
  have mk19 : ∀ i, aZ H 19 i = aZ H 19 i := fun _ => rfl
  have mk17 : ∀ i, aZ H 17 i = aZ H 17 i := fun _ => rfl
  have mkfr : kpM H H := kpM_r
  have mk18 : ∀ i, aZ H 18 i = aZ H 18 i := fun _ => rfl
  have mk20 : ∀ i, aZ H 20 i = aZ H 20 i := fun _ => rfl
  refine gG_call [(0, .ref 0), (1, .int a1)] ⟨rfl, rfl, trivial⟩ ?_
  show gG 3 zB_197 (mzBlk zB_197 0) [(0, .ref 0), (1, .int a1)] [] H 0 0 _
  refine g_iconst (by decide) (fun v1177 kv1177 => ?_)
  refine g_istore_n (l' := [(0, .ref 0), (1, .int a1), (2, .int v1177)]) rfl rfl ?_
  refine g_nop ?_
  have L1187 : ∀ (N : Nat) (v1178 : Int32) (H1179 : mzH), gI SM H1179 → JM H1179 → (∀ a f, fZ H1179 a f = fZ H a f) → (∀ i, aZ H1179 2 i = aZ H 2 i) → (∀ i, aZ H1179 19 i = aZ H 19 i) → (∀ i, aZ H1179 17 i = aZ H 17 i) → kpM H H1179 → (∀ i, aZ H1179 18 i = aZ H 18 i) → (∀ i, aZ H1179 20 i = aZ H 20 i) → (0 ≤ v1178.toInt ∧ v1178.toInt ≤ 40) → rwX H1179 s md → (∀ x : Nat, x < v1178.toInt.toNat → (aZ H1179 21 x).toInt = gos s a1.toInt x) → (40 - v1178.toInt).toNat < N → gG 3 zB_197 (mzBlk zB_197 1) [(0, .ref 0), (1, .int a1), (2, .int v1178)] [] H1179 0 0 (gRv (fun H' => gI SM H' ∧ JM H' ∧ (∀ a f, fZ H' a f = fZ H a f) ∧ (∀ i, aZ H' 2 i = aZ H 2 i) ∧ (∀ i, aZ H' 19 i = aZ H 19 i) ∧ (∀ i, aZ H' 17 i = aZ H 17 i) ∧ kpM H H' ∧ (∀ i, aZ H' 18 i = aZ H 18 i) ∧ (∀ i, aZ H' 20 i = aZ H 20 i) ∧ rwX H' (ens s a1.toInt) md)) := by
    intro N
    induction N with
    | zero => intro v1178 H1179 hIH1179 hJH1179 m1180 m1181 m1182 m1183 m1184 m1185 m1186 bv1178 q0 q1 hmL1187; exact absurd hmL1187 (Nat.not_lt_zero _)
    | succ N ihL1187 =>
      intro v1178 H1179 hIH1179 hJH1179 m1180 m1181 m1182 m1183 m1184 m1185 m1186 bv1178 q0 q1 hmL1187
      refine g_iload_n rfl ?_
      refine g_bipush (by decide) (fun v1188 kv1188 => ?_)
      refine g_if2_ge (fun c1189 => ?_) (fun c1189 => ?_)
      · refine g_aload_n rfl ?_
        refine g_gfr hIH1179 sm_0 rfl ?_
        refine g_iload_n rfl ?_
        refine g_iaload hIH1179 sm_9 rfl (by omega) (fun v1190 ev1190 lv1190 uv1190 => ?_)
        have qv1190 := JM_in hJH1179 (by omega) ev1190
        have yv1190 : v1190.toInt = (aZ H1179 9 a1.toInt.toNat).toInt := by rw [ev1190]
        have yv1190 : v1190.toInt = (s).ii a1.toInt.toNat := by rw [ev1190]; exact (q0 _ (by omega)).2.2.1
        have ddv1190 := dpt_1 (show dpt s from hp1) (n := a1.toInt.toNat) (by omega)
        refine g_bipush (by decide) (fun v1191 kv1191 => ?_)
        refine g_if2_eq (fun c1192 => ?_) (fun c1192 => ?_)
        · refine g_iconst (by decide) (fun v1193 kv1193 => ?_)
          refine g_istore_n (l' := [(0, .ref 0), (1, .int a1), (2, .int v1193)]) rfl rfl ?_
          refine g_nop ?_
          have L1203 : ∀ (N : Nat) (v1194 : Int32) (H1195 : mzH), gI SM H1195 → JM H1195 → (∀ a f, fZ H1195 a f = fZ H a f) → (∀ i, aZ H1195 2 i = aZ H 2 i) → (∀ i, aZ H1195 19 i = aZ H 19 i) → (∀ i, aZ H1195 17 i = aZ H 17 i) → kpM H H1195 → (∀ i, aZ H1195 18 i = aZ H 18 i) → (∀ i, aZ H1195 20 i = aZ H 20 i) → (0 ≤ v1194.toInt ∧ v1194.toInt ≤ 40) → rwX H1195 (sN (gos s a1.toInt) (opM s a1.toInt.toNat) v1194.toInt.toNat) md → (∀ x : Nat, x < 40 → (aZ H1195 21 x).toInt = gos s a1.toInt x) → (40 - v1194.toInt).toNat < N → gG 3 zB_197 (mzBlk zB_197 7) [(0, .ref 0), (1, .int a1), (2, .int v1194)] [] H1195 0 0 (gRv (fun H' => gI SM H' ∧ JM H' ∧ (∀ a f, fZ H' a f = fZ H a f) ∧ (∀ i, aZ H' 2 i = aZ H 2 i) ∧ (∀ i, aZ H' 19 i = aZ H 19 i) ∧ (∀ i, aZ H' 17 i = aZ H 17 i) ∧ kpM H H' ∧ (∀ i, aZ H' 18 i = aZ H 18 i) ∧ (∀ i, aZ H' 20 i = aZ H 20 i) ∧ rwX H' (ens s a1.toInt) md)) := by
            intro N
            induction N with
            | zero => intro v1194 H1195 hIH1195 hJH1195 m1196 m1197 m1198 m1199 m1200 m1201 m1202 bv1194 q2 q3 hmL1203; exact absurd hmL1203 (Nat.not_lt_zero _)
            | succ N ihL1203 =>
              intro v1194 H1195 hIH1195 hJH1195 m1196 m1197 m1198 m1199 m1200 m1201 m1202 bv1194 q2 q3 hmL1203
              refine g_iload_n rfl ?_
              refine g_bipush (by decide) (fun v1204 kv1204 => ?_)
              refine g_if2_ge (fun c1205 => ?_) (fun c1205 => ?_)
              · exact g_ret ⟨rfl, hIH1195, hJH1195, m1196, m1197, m1198, m1199, m1200, m1201, m1202, (en_end q2 (by omega) (by omega))⟩
              · refine g_aload_n rfl ?_
                refine g_gfr hIH1195 sm_0 rfl ?_
                refine g_iload_n rfl ?_
                refine g_baload hIH1195 sm_21 rfl (by omega) (fun v1206 ev1206 lv1206 uv1206 => ?_)
                have gqv1206 : v1206.toInt = gos s a1.toInt v1194.toInt.toNat := by rw [ev1206]; exact q3 _ (by omega)
                refine g_if_ne (fun c1207 => ?_) (fun c1207 => ?_)
                · refine g_aload_n rfl ?_
                  refine g_gfr hIH1195 sm_0 rfl ?_
                  refine g_iload_n rfl ?_
                  refine g_iconst (by decide) (fun v1208 kv1208 => ?_)
                  refine g_zastore hIH1195 sm_16 (by omega) (by omega) (fun H1209 eH1209 hIH1209 => ?_)
                  have hJH1209 : JM H1209 := JM_sA (by decide) eH1209 hJH1195
                  have m1210 : ∀ a f, fZ H1209 a f = fZ H a f := fun a f => (by rw [eH1209, fZ_sA] : fZ H1209 a f = fZ H1195 a f).trans (m1196 a f)
                  have m1211 : ∀ i, aZ H1209 2 i = aZ H 2 i := fun i => (by rw [eH1209, aZ_sA_nc (by omega)] : aZ H1209 2 i = aZ H1195 2 i).trans (m1197 i)
                  have m1212 : ∀ i, aZ H1209 19 i = aZ H 19 i := fun i => (by rw [eH1209, aZ_sA_nc (by omega)] : aZ H1209 19 i = aZ H1195 19 i).trans (m1198 i)
                  have m1213 : ∀ i, aZ H1209 17 i = aZ H 17 i := fun i => (by rw [eH1209, aZ_sA_nc (by omega)] : aZ H1209 17 i = aZ H1195 17 i).trans (m1199 i)
                  have m1214 : kpM H H1209 := kpM_A m1200 eH1209 (by omega)
                  have m1215 : ∀ i, aZ H1209 18 i = aZ H 18 i := fun i => (by rw [eH1209, aZ_sA_nc (by omega)] : aZ H1209 18 i = aZ H1195 18 i).trans (m1201 i)
                  have m1216 : ∀ i, aZ H1209 20 i = aZ H 20 i := fun i => (by rw [eH1209, aZ_sA_nc (by omega)] : aZ H1209 20 i = aZ H1195 20 i).trans (m1202 i)
                  have wdH1209 : rwX H1209 (sEn (sN (gos s a1.toInt) (opM s a1.toInt.toNat) v1194.toInt.toNat) v1194.toInt.toNat v1208.toInt) md := rw_16 hIH1195 q2 eH1209 (by omega)
                  refine g_aload_n rfl ?_
                  refine g_gfr hIH1209 sm_0 rfl ?_
                  refine g_iload_n rfl ?_
                  refine g_bipush (by decide) (fun v1217 kv1217 => ?_)
                  refine g_iastore hIH1209 sm_9 (by omega) (by omega) (fun H1218 eH1218 hIH1218 => ?_)
                  have hJH1218 : JM H1218 := JM_out hIH1209 hJH1209 (by omega) (by omega) eH1218
                  have m1219 : ∀ a f, fZ H1218 a f = fZ H a f := fun a f => (by rw [eH1218, fZ_sA] : fZ H1218 a f = fZ H1209 a f).trans (m1210 a f)
                  have m1220 : ∀ i, aZ H1218 2 i = aZ H 2 i := fun i => (by rw [eH1218, aZ_sA_nc (by omega)] : aZ H1218 2 i = aZ H1209 2 i).trans (m1211 i)
                  have m1221 : ∀ i, aZ H1218 19 i = aZ H 19 i := fun i => (by rw [eH1218, aZ_sA_nc (by omega)] : aZ H1218 19 i = aZ H1209 19 i).trans (m1212 i)
                  have m1222 : ∀ i, aZ H1218 17 i = aZ H 17 i := fun i => (by rw [eH1218, aZ_sA_nc (by omega)] : aZ H1218 17 i = aZ H1209 17 i).trans (m1213 i)
                  have m1223 : kpM H H1218 := kpM_A m1214 eH1218 (by omega)
                  have m1224 : ∀ i, aZ H1218 18 i = aZ H 18 i := fun i => (by rw [eH1218, aZ_sA_nc (by omega)] : aZ H1218 18 i = aZ H1209 18 i).trans (m1215 i)
                  have m1225 : ∀ i, aZ H1218 20 i = aZ H 20 i := fun i => (by rw [eH1218, aZ_sA_nc (by omega)] : aZ H1218 20 i = aZ H1209 20 i).trans (m1216 i)
                  have wdH1218 : rwX H1218 (sII (sEn (sN (gos s a1.toInt) (opM s a1.toInt.toNat) v1194.toInt.toNat) v1194.toInt.toNat v1208.toInt) v1194.toInt.toNat v1217.toInt) md := rw_9 hIH1209 wdH1209 eH1218 (by omega)
                  refine g_aload_n rfl ?_
                  refine g_gfr hIH1218 sm_0 rfl ?_
                  refine g_iload_n rfl ?_
                  refine g_iconst (by decide) (fun v1226 kv1226 => ?_)
                  refine g_zastore hIH1218 sm_13 (by omega) (by omega) (fun H1227 eH1227 hIH1227 => ?_)
                  have hJH1227 : JM H1227 := JM_sA (by decide) eH1227 hJH1218
                  have m1228 : ∀ a f, fZ H1227 a f = fZ H a f := fun a f => (by rw [eH1227, fZ_sA] : fZ H1227 a f = fZ H1218 a f).trans (m1219 a f)
                  have m1229 : ∀ i, aZ H1227 2 i = aZ H 2 i := fun i => (by rw [eH1227, aZ_sA_nc (by omega)] : aZ H1227 2 i = aZ H1218 2 i).trans (m1220 i)
                  have m1230 : ∀ i, aZ H1227 19 i = aZ H 19 i := fun i => (by rw [eH1227, aZ_sA_nc (by omega)] : aZ H1227 19 i = aZ H1218 19 i).trans (m1221 i)
                  have m1231 : ∀ i, aZ H1227 17 i = aZ H 17 i := fun i => (by rw [eH1227, aZ_sA_nc (by omega)] : aZ H1227 17 i = aZ H1218 17 i).trans (m1222 i)
                  have m1232 : kpM H H1227 := kpM_A m1223 eH1227 (by omega)
                  have m1233 : ∀ i, aZ H1227 18 i = aZ H 18 i := fun i => (by rw [eH1227, aZ_sA_nc (by omega)] : aZ H1227 18 i = aZ H1218 18 i).trans (m1224 i)
                  have m1234 : ∀ i, aZ H1227 20 i = aZ H 20 i := fun i => (by rw [eH1227, aZ_sA_nc (by omega)] : aZ H1227 20 i = aZ H1218 20 i).trans (m1225 i)
                  have wdH1227 : rwX H1227 (sOp (sII (sEn (sN (gos s a1.toInt) (opM s a1.toInt.toNat) v1194.toInt.toNat) v1194.toInt.toNat v1208.toInt) v1194.toInt.toNat v1217.toInt) v1194.toInt.toNat v1226.toInt) md := rw_13 hIH1218 wdH1218 eH1227 (by omega)
                  refine g_aload_n rfl ?_
                  refine g_gfr hIH1227 sm_0 rfl ?_
                  refine g_iload_n rfl ?_
                  refine g_iconst (by decide) (fun v1235 kv1235 => ?_)
                  refine g_zastore hIH1227 sm_14 (by omega) (by omega) (fun H1236 eH1236 hIH1236 => ?_)
                  have hJH1236 : JM H1236 := JM_sA (by decide) eH1236 hJH1227
                  have m1237 : ∀ a f, fZ H1236 a f = fZ H a f := fun a f => (by rw [eH1236, fZ_sA] : fZ H1236 a f = fZ H1227 a f).trans (m1228 a f)
                  have m1238 : ∀ i, aZ H1236 2 i = aZ H 2 i := fun i => (by rw [eH1236, aZ_sA_nc (by omega)] : aZ H1236 2 i = aZ H1227 2 i).trans (m1229 i)
                  have m1239 : ∀ i, aZ H1236 19 i = aZ H 19 i := fun i => (by rw [eH1236, aZ_sA_nc (by omega)] : aZ H1236 19 i = aZ H1227 19 i).trans (m1230 i)
                  have m1240 : ∀ i, aZ H1236 17 i = aZ H 17 i := fun i => (by rw [eH1236, aZ_sA_nc (by omega)] : aZ H1236 17 i = aZ H1227 17 i).trans (m1231 i)
                  have m1241 : kpM H H1236 := kpM_A m1232 eH1236 (by omega)
                  have m1242 : ∀ i, aZ H1236 18 i = aZ H 18 i := fun i => (by rw [eH1236, aZ_sA_nc (by omega)] : aZ H1236 18 i = aZ H1227 18 i).trans (m1233 i)
                  have m1243 : ∀ i, aZ H1236 20 i = aZ H 20 i := fun i => (by rw [eH1236, aZ_sA_nc (by omega)] : aZ H1236 20 i = aZ H1227 20 i).trans (m1234 i)
                  have wdH1236 : rwX H1236 (sHe (sOp (sII (sEn (sN (gos s a1.toInt) (opM s a1.toInt.toNat) v1194.toInt.toNat) v1194.toInt.toNat v1208.toInt) v1194.toInt.toNat v1217.toInt) v1194.toInt.toNat v1226.toInt) v1194.toInt.toNat v1235.toInt) md := rw_14 hIH1227 wdH1227 eH1236 (by omega)
                  refine g_aload_n rfl ?_
                  refine g_gfr hIH1236 sm_0 rfl ?_
                  refine g_iload_n rfl ?_
                  refine g_iconst (by decide) (fun v1244 kv1244 => ?_)
                  refine g_zastore hIH1236 sm_15 (by omega) (by omega) (fun H1245 eH1245 hIH1245 => ?_)
                  have hJH1245 : JM H1245 := JM_sA (by decide) eH1245 hJH1236
                  have m1246 : ∀ a f, fZ H1245 a f = fZ H a f := fun a f => (by rw [eH1245, fZ_sA] : fZ H1245 a f = fZ H1236 a f).trans (m1237 a f)
                  have m1247 : ∀ i, aZ H1245 2 i = aZ H 2 i := fun i => (by rw [eH1245, aZ_sA_nc (by omega)] : aZ H1245 2 i = aZ H1236 2 i).trans (m1238 i)
                  have m1248 : ∀ i, aZ H1245 19 i = aZ H 19 i := fun i => (by rw [eH1245, aZ_sA_nc (by omega)] : aZ H1245 19 i = aZ H1236 19 i).trans (m1239 i)
                  have m1249 : ∀ i, aZ H1245 17 i = aZ H 17 i := fun i => (by rw [eH1245, aZ_sA_nc (by omega)] : aZ H1245 17 i = aZ H1236 17 i).trans (m1240 i)
                  have m1250 : kpM H H1245 := kpM_A m1241 eH1245 (by omega)
                  have m1251 : ∀ i, aZ H1245 18 i = aZ H 18 i := fun i => (by rw [eH1245, aZ_sA_nc (by omega)] : aZ H1245 18 i = aZ H1236 18 i).trans (m1242 i)
                  have m1252 : ∀ i, aZ H1245 20 i = aZ H 20 i := fun i => (by rw [eH1245, aZ_sA_nc (by omega)] : aZ H1245 20 i = aZ H1236 20 i).trans (m1243 i)
                  have wdH1245 : rwX H1245 (sSo (sHe (sOp (sII (sEn (sN (gos s a1.toInt) (opM s a1.toInt.toNat) v1194.toInt.toNat) v1194.toInt.toNat v1208.toInt) v1194.toInt.toNat v1217.toInt) v1194.toInt.toNat v1226.toInt) v1194.toInt.toNat v1235.toInt) v1194.toInt.toNat v1244.toInt) md := rw_15 hIH1236 wdH1236 eH1245 (by omega)
                  refine g_nop ?_
                  refine g_iinc (l' := (fun v1253 => [(0, .ref 0), (1, .int a1), (2, .int v1253)])) rfl rfl (by decide) (by omega) (fun _ => rfl) (fun v1253 ev1253 => ?_)
                  refine g_goto ?_
                  exact ihL1203 v1253 H1245 hIH1245 hJH1245 m1246 m1247 m1248 m1249 m1250 m1251 m1252 (by omega) (sN_y (by omega) (by omega) (by omega) (by omega) (by omega) (by omega) (by omega) wdH1245) (fun x hx => by rw [eH1245, aZ_sA_nc (by decide), eH1236, aZ_sA_nc (by decide), eH1227, aZ_sA_nc (by decide), eH1218, aZ_sA_nc (by decide), eH1209, aZ_sA_nc (by decide)]; exact q3 x (by omega)) (by omega)
                · refine g_goto ?_
                  refine g_iinc (l' := (fun v1254 => [(0, .ref 0), (1, .int a1), (2, .int v1254)])) rfl rfl (by decide) (by omega) (fun _ => rfl) (fun v1254 ev1254 => ?_)
                  refine g_goto ?_
                  exact ihL1203 v1254 H1195 hIH1195 hJH1195 m1196 m1197 m1198 m1199 m1200 m1201 m1202 (by omega) (sN_n (by omega) (by omega) q2) q3 (by omega)
          exact L1203 _ v1193 H1179 hIH1179 hJH1179 m1180 m1181 m1182 m1183 m1184 m1185 m1186 (by omega) (sN_0 (om_0 (by omega) q0) (by omega)) (fun x hx => q1 x (by omega)) (Nat.lt_succ_self _)
        · refine g_aload_n rfl ?_
          refine g_gfr hIH1179 sm_0 rfl ?_
          refine g_aload_n rfl ?_
          refine g_gfr hIH1179 sm_0 rfl ?_
          refine g_iload_n rfl ?_
          refine g_ialoadk hIH1179 sm_9 rfl (by omega) ev1190 ?_
          refine g_iconst (by decide) (fun v1255 kv1255 => ?_)
          refine g_zastore hIH1179 sm_13 (by omega) (by omega) (fun H1256 eH1256 hIH1256 => ?_)
          have hJH1256 : JM H1256 := JM_sA (by decide) eH1256 hJH1179
          have m1257 : ∀ a f, fZ H1256 a f = fZ H a f := fun a f => (by rw [eH1256, fZ_sA] : fZ H1256 a f = fZ H1179 a f).trans (m1180 a f)
          have m1258 : ∀ i, aZ H1256 2 i = aZ H 2 i := fun i => (by rw [eH1256, aZ_sA_nc (by omega)] : aZ H1256 2 i = aZ H1179 2 i).trans (m1181 i)
          have m1259 : ∀ i, aZ H1256 19 i = aZ H 19 i := fun i => (by rw [eH1256, aZ_sA_nc (by omega)] : aZ H1256 19 i = aZ H1179 19 i).trans (m1182 i)
          have m1260 : ∀ i, aZ H1256 17 i = aZ H 17 i := fun i => (by rw [eH1256, aZ_sA_nc (by omega)] : aZ H1256 17 i = aZ H1179 17 i).trans (m1183 i)
          have m1261 : kpM H H1256 := kpM_A m1184 eH1256 (by omega)
          have m1262 : ∀ i, aZ H1256 18 i = aZ H 18 i := fun i => (by rw [eH1256, aZ_sA_nc (by omega)] : aZ H1256 18 i = aZ H1179 18 i).trans (m1185 i)
          have m1263 : ∀ i, aZ H1256 20 i = aZ H 20 i := fun i => (by rw [eH1256, aZ_sA_nc (by omega)] : aZ H1256 20 i = aZ H1179 20 i).trans (m1186 i)
          have wdH1256 : rwX H1256 (sOp s v1190.toInt.toNat v1255.toInt) md := rw_13 hIH1179 q0 eH1256 (by omega)
          refine g_nop ?_
          refine g_iconst (by decide) (fun v1264 kv1264 => ?_)
          refine g_istore_n (l' := [(0, .ref 0), (1, .int a1), (2, .int v1264)]) rfl rfl ?_
          refine g_nop ?_
          have L1274 : ∀ (N : Nat) (v1265 : Int32) (H1266 : mzH), gI SM H1266 → JM H1266 → (∀ a f, fZ H1266 a f = fZ H a f) → (∀ i, aZ H1266 2 i = aZ H 2 i) → (∀ i, aZ H1266 19 i = aZ H 19 i) → (∀ i, aZ H1266 17 i = aZ H 17 i) → kpM H H1266 → (∀ i, aZ H1266 18 i = aZ H 18 i) → (∀ i, aZ H1266 20 i = aZ H 20 i) → (0 ≤ v1265.toInt ∧ v1265.toInt ≤ 40) → rwX H1266 (sN (gos s a1.toInt) (opM s a1.toInt.toNat) v1265.toInt.toNat) md → (∀ x : Nat, x < 40 → (aZ H1266 21 x).toInt = gos s a1.toInt x) → (40 - v1265.toInt).toNat < N → gG 3 zB_197 (mzBlk zB_197 7) [(0, .ref 0), (1, .int a1), (2, .int v1265)] [] H1266 0 0 (gRv (fun H' => gI SM H' ∧ JM H' ∧ (∀ a f, fZ H' a f = fZ H a f) ∧ (∀ i, aZ H' 2 i = aZ H 2 i) ∧ (∀ i, aZ H' 19 i = aZ H 19 i) ∧ (∀ i, aZ H' 17 i = aZ H 17 i) ∧ kpM H H' ∧ (∀ i, aZ H' 18 i = aZ H 18 i) ∧ (∀ i, aZ H' 20 i = aZ H 20 i) ∧ rwX H' (ens s a1.toInt) md)) := by
            intro N
            induction N with
            | zero => intro v1265 H1266 hIH1266 hJH1266 m1267 m1268 m1269 m1270 m1271 m1272 m1273 bv1265 q2 q3 hmL1274; exact absurd hmL1274 (Nat.not_lt_zero _)
            | succ N ihL1274 =>
              intro v1265 H1266 hIH1266 hJH1266 m1267 m1268 m1269 m1270 m1271 m1272 m1273 bv1265 q2 q3 hmL1274
              refine g_iload_n rfl ?_
              refine g_bipush (by decide) (fun v1275 kv1275 => ?_)
              refine g_if2_ge (fun c1276 => ?_) (fun c1276 => ?_)
              · exact g_ret ⟨rfl, hIH1266, hJH1266, m1267, m1268, m1269, m1270, m1271, m1272, m1273, (en_end q2 (by omega) (by omega))⟩
              · refine g_aload_n rfl ?_
                refine g_gfr hIH1266 sm_0 rfl ?_
                refine g_iload_n rfl ?_
                refine g_baload hIH1266 sm_21 rfl (by omega) (fun v1277 ev1277 lv1277 uv1277 => ?_)
                have gqv1277 : v1277.toInt = gos s a1.toInt v1265.toInt.toNat := by rw [ev1277]; exact q3 _ (by omega)
                refine g_if_ne (fun c1278 => ?_) (fun c1278 => ?_)
                · refine g_aload_n rfl ?_
                  refine g_gfr hIH1266 sm_0 rfl ?_
                  refine g_iload_n rfl ?_
                  refine g_iconst (by decide) (fun v1279 kv1279 => ?_)
                  refine g_zastore hIH1266 sm_16 (by omega) (by omega) (fun H1280 eH1280 hIH1280 => ?_)
                  have hJH1280 : JM H1280 := JM_sA (by decide) eH1280 hJH1266
                  have m1281 : ∀ a f, fZ H1280 a f = fZ H a f := fun a f => (by rw [eH1280, fZ_sA] : fZ H1280 a f = fZ H1266 a f).trans (m1267 a f)
                  have m1282 : ∀ i, aZ H1280 2 i = aZ H 2 i := fun i => (by rw [eH1280, aZ_sA_nc (by omega)] : aZ H1280 2 i = aZ H1266 2 i).trans (m1268 i)
                  have m1283 : ∀ i, aZ H1280 19 i = aZ H 19 i := fun i => (by rw [eH1280, aZ_sA_nc (by omega)] : aZ H1280 19 i = aZ H1266 19 i).trans (m1269 i)
                  have m1284 : ∀ i, aZ H1280 17 i = aZ H 17 i := fun i => (by rw [eH1280, aZ_sA_nc (by omega)] : aZ H1280 17 i = aZ H1266 17 i).trans (m1270 i)
                  have m1285 : kpM H H1280 := kpM_A m1271 eH1280 (by omega)
                  have m1286 : ∀ i, aZ H1280 18 i = aZ H 18 i := fun i => (by rw [eH1280, aZ_sA_nc (by omega)] : aZ H1280 18 i = aZ H1266 18 i).trans (m1272 i)
                  have m1287 : ∀ i, aZ H1280 20 i = aZ H 20 i := fun i => (by rw [eH1280, aZ_sA_nc (by omega)] : aZ H1280 20 i = aZ H1266 20 i).trans (m1273 i)
                  have wdH1280 : rwX H1280 (sEn (sN (gos s a1.toInt) (opM s a1.toInt.toNat) v1265.toInt.toNat) v1265.toInt.toNat v1279.toInt) md := rw_16 hIH1266 q2 eH1280 (by omega)
                  refine g_aload_n rfl ?_
                  refine g_gfr hIH1280 sm_0 rfl ?_
                  refine g_iload_n rfl ?_
                  refine g_bipush (by decide) (fun v1288 kv1288 => ?_)
                  refine g_iastore hIH1280 sm_9 (by omega) (by omega) (fun H1289 eH1289 hIH1289 => ?_)
                  have hJH1289 : JM H1289 := JM_out hIH1280 hJH1280 (by omega) (by omega) eH1289
                  have m1290 : ∀ a f, fZ H1289 a f = fZ H a f := fun a f => (by rw [eH1289, fZ_sA] : fZ H1289 a f = fZ H1280 a f).trans (m1281 a f)
                  have m1291 : ∀ i, aZ H1289 2 i = aZ H 2 i := fun i => (by rw [eH1289, aZ_sA_nc (by omega)] : aZ H1289 2 i = aZ H1280 2 i).trans (m1282 i)
                  have m1292 : ∀ i, aZ H1289 19 i = aZ H 19 i := fun i => (by rw [eH1289, aZ_sA_nc (by omega)] : aZ H1289 19 i = aZ H1280 19 i).trans (m1283 i)
                  have m1293 : ∀ i, aZ H1289 17 i = aZ H 17 i := fun i => (by rw [eH1289, aZ_sA_nc (by omega)] : aZ H1289 17 i = aZ H1280 17 i).trans (m1284 i)
                  have m1294 : kpM H H1289 := kpM_A m1285 eH1289 (by omega)
                  have m1295 : ∀ i, aZ H1289 18 i = aZ H 18 i := fun i => (by rw [eH1289, aZ_sA_nc (by omega)] : aZ H1289 18 i = aZ H1280 18 i).trans (m1286 i)
                  have m1296 : ∀ i, aZ H1289 20 i = aZ H 20 i := fun i => (by rw [eH1289, aZ_sA_nc (by omega)] : aZ H1289 20 i = aZ H1280 20 i).trans (m1287 i)
                  have wdH1289 : rwX H1289 (sII (sEn (sN (gos s a1.toInt) (opM s a1.toInt.toNat) v1265.toInt.toNat) v1265.toInt.toNat v1279.toInt) v1265.toInt.toNat v1288.toInt) md := rw_9 hIH1280 wdH1280 eH1289 (by omega)
                  refine g_aload_n rfl ?_
                  refine g_gfr hIH1289 sm_0 rfl ?_
                  refine g_iload_n rfl ?_
                  refine g_iconst (by decide) (fun v1297 kv1297 => ?_)
                  refine g_zastore hIH1289 sm_13 (by omega) (by omega) (fun H1298 eH1298 hIH1298 => ?_)
                  have hJH1298 : JM H1298 := JM_sA (by decide) eH1298 hJH1289
                  have m1299 : ∀ a f, fZ H1298 a f = fZ H a f := fun a f => (by rw [eH1298, fZ_sA] : fZ H1298 a f = fZ H1289 a f).trans (m1290 a f)
                  have m1300 : ∀ i, aZ H1298 2 i = aZ H 2 i := fun i => (by rw [eH1298, aZ_sA_nc (by omega)] : aZ H1298 2 i = aZ H1289 2 i).trans (m1291 i)
                  have m1301 : ∀ i, aZ H1298 19 i = aZ H 19 i := fun i => (by rw [eH1298, aZ_sA_nc (by omega)] : aZ H1298 19 i = aZ H1289 19 i).trans (m1292 i)
                  have m1302 : ∀ i, aZ H1298 17 i = aZ H 17 i := fun i => (by rw [eH1298, aZ_sA_nc (by omega)] : aZ H1298 17 i = aZ H1289 17 i).trans (m1293 i)
                  have m1303 : kpM H H1298 := kpM_A m1294 eH1298 (by omega)
                  have m1304 : ∀ i, aZ H1298 18 i = aZ H 18 i := fun i => (by rw [eH1298, aZ_sA_nc (by omega)] : aZ H1298 18 i = aZ H1289 18 i).trans (m1295 i)
                  have m1305 : ∀ i, aZ H1298 20 i = aZ H 20 i := fun i => (by rw [eH1298, aZ_sA_nc (by omega)] : aZ H1298 20 i = aZ H1289 20 i).trans (m1296 i)
                  have wdH1298 : rwX H1298 (sOp (sII (sEn (sN (gos s a1.toInt) (opM s a1.toInt.toNat) v1265.toInt.toNat) v1265.toInt.toNat v1279.toInt) v1265.toInt.toNat v1288.toInt) v1265.toInt.toNat v1297.toInt) md := rw_13 hIH1289 wdH1289 eH1298 (by omega)
                  refine g_aload_n rfl ?_
                  refine g_gfr hIH1298 sm_0 rfl ?_
                  refine g_iload_n rfl ?_
                  refine g_iconst (by decide) (fun v1306 kv1306 => ?_)
                  refine g_zastore hIH1298 sm_14 (by omega) (by omega) (fun H1307 eH1307 hIH1307 => ?_)
                  have hJH1307 : JM H1307 := JM_sA (by decide) eH1307 hJH1298
                  have m1308 : ∀ a f, fZ H1307 a f = fZ H a f := fun a f => (by rw [eH1307, fZ_sA] : fZ H1307 a f = fZ H1298 a f).trans (m1299 a f)
                  have m1309 : ∀ i, aZ H1307 2 i = aZ H 2 i := fun i => (by rw [eH1307, aZ_sA_nc (by omega)] : aZ H1307 2 i = aZ H1298 2 i).trans (m1300 i)
                  have m1310 : ∀ i, aZ H1307 19 i = aZ H 19 i := fun i => (by rw [eH1307, aZ_sA_nc (by omega)] : aZ H1307 19 i = aZ H1298 19 i).trans (m1301 i)
                  have m1311 : ∀ i, aZ H1307 17 i = aZ H 17 i := fun i => (by rw [eH1307, aZ_sA_nc (by omega)] : aZ H1307 17 i = aZ H1298 17 i).trans (m1302 i)
                  have m1312 : kpM H H1307 := kpM_A m1303 eH1307 (by omega)
                  have m1313 : ∀ i, aZ H1307 18 i = aZ H 18 i := fun i => (by rw [eH1307, aZ_sA_nc (by omega)] : aZ H1307 18 i = aZ H1298 18 i).trans (m1304 i)
                  have m1314 : ∀ i, aZ H1307 20 i = aZ H 20 i := fun i => (by rw [eH1307, aZ_sA_nc (by omega)] : aZ H1307 20 i = aZ H1298 20 i).trans (m1305 i)
                  have wdH1307 : rwX H1307 (sHe (sOp (sII (sEn (sN (gos s a1.toInt) (opM s a1.toInt.toNat) v1265.toInt.toNat) v1265.toInt.toNat v1279.toInt) v1265.toInt.toNat v1288.toInt) v1265.toInt.toNat v1297.toInt) v1265.toInt.toNat v1306.toInt) md := rw_14 hIH1298 wdH1298 eH1307 (by omega)
                  refine g_aload_n rfl ?_
                  refine g_gfr hIH1307 sm_0 rfl ?_
                  refine g_iload_n rfl ?_
                  refine g_iconst (by decide) (fun v1315 kv1315 => ?_)
                  refine g_zastore hIH1307 sm_15 (by omega) (by omega) (fun H1316 eH1316 hIH1316 => ?_)
                  have hJH1316 : JM H1316 := JM_sA (by decide) eH1316 hJH1307
                  have m1317 : ∀ a f, fZ H1316 a f = fZ H a f := fun a f => (by rw [eH1316, fZ_sA] : fZ H1316 a f = fZ H1307 a f).trans (m1308 a f)
                  have m1318 : ∀ i, aZ H1316 2 i = aZ H 2 i := fun i => (by rw [eH1316, aZ_sA_nc (by omega)] : aZ H1316 2 i = aZ H1307 2 i).trans (m1309 i)
                  have m1319 : ∀ i, aZ H1316 19 i = aZ H 19 i := fun i => (by rw [eH1316, aZ_sA_nc (by omega)] : aZ H1316 19 i = aZ H1307 19 i).trans (m1310 i)
                  have m1320 : ∀ i, aZ H1316 17 i = aZ H 17 i := fun i => (by rw [eH1316, aZ_sA_nc (by omega)] : aZ H1316 17 i = aZ H1307 17 i).trans (m1311 i)
                  have m1321 : kpM H H1316 := kpM_A m1312 eH1316 (by omega)
                  have m1322 : ∀ i, aZ H1316 18 i = aZ H 18 i := fun i => (by rw [eH1316, aZ_sA_nc (by omega)] : aZ H1316 18 i = aZ H1307 18 i).trans (m1313 i)
                  have m1323 : ∀ i, aZ H1316 20 i = aZ H 20 i := fun i => (by rw [eH1316, aZ_sA_nc (by omega)] : aZ H1316 20 i = aZ H1307 20 i).trans (m1314 i)
                  have wdH1316 : rwX H1316 (sSo (sHe (sOp (sII (sEn (sN (gos s a1.toInt) (opM s a1.toInt.toNat) v1265.toInt.toNat) v1265.toInt.toNat v1279.toInt) v1265.toInt.toNat v1288.toInt) v1265.toInt.toNat v1297.toInt) v1265.toInt.toNat v1306.toInt) v1265.toInt.toNat v1315.toInt) md := rw_15 hIH1307 wdH1307 eH1316 (by omega)
                  refine g_nop ?_
                  refine g_iinc (l' := (fun v1324 => [(0, .ref 0), (1, .int a1), (2, .int v1324)])) rfl rfl (by decide) (by omega) (fun _ => rfl) (fun v1324 ev1324 => ?_)
                  refine g_goto ?_
                  exact ihL1274 v1324 H1316 hIH1316 hJH1316 m1317 m1318 m1319 m1320 m1321 m1322 m1323 (by omega) (sN_y (by omega) (by omega) (by omega) (by omega) (by omega) (by omega) (by omega) wdH1316) (fun x hx => by rw [eH1316, aZ_sA_nc (by decide), eH1307, aZ_sA_nc (by decide), eH1298, aZ_sA_nc (by decide), eH1289, aZ_sA_nc (by decide), eH1280, aZ_sA_nc (by decide)]; exact q3 x (by omega)) (by omega)
                · refine g_goto ?_
                  refine g_iinc (l' := (fun v1325 => [(0, .ref 0), (1, .int a1), (2, .int v1325)])) rfl rfl (by decide) (by omega) (fun _ => rfl) (fun v1325 ev1325 => ?_)
                  refine g_goto ?_
                  exact ihL1274 v1325 H1266 hIH1266 hJH1266 m1267 m1268 m1269 m1270 m1271 m1272 m1273 (by omega) (sN_n (by omega) (by omega) q2) q3 (by omega)
          exact L1274 _ v1264 H1256 hIH1256 hJH1256 m1257 m1258 m1259 m1260 m1261 m1262 m1263 (by omega) (sN_0 (om_1 (by omega) yv1190 (by omega) wdH1256) (by omega)) (fun x hx => by rw [eH1256, aZ_sA_nc (by decide)]; exact q1 x (by omega)) (Nat.lt_succ_self _)
      · refine g_aload_n rfl ?_
        refine g_gfr hIH1179 sm_0 rfl ?_
        refine g_iload_n rfl ?_
        refine g_iload_n rfl ?_
        refine g_iload_n rfl ?_
        refine g_if2_eq (fun c1326 => ?_) (fun c1326 => ?_)
        · refine g_iconst (by decide) (fun v1327 kv1327 => ?_)
          refine g_goto ?_
          refine g_zastore hIH1179 sm_21 (by omega) (by omega) (fun H1328 eH1328 hIH1328 => ?_)
          have hJH1328 : JM H1328 := JM_sA (by decide) eH1328 hJH1179
          have m1329 : ∀ a f, fZ H1328 a f = fZ H a f := fun a f => (by rw [eH1328, fZ_sA] : fZ H1328 a f = fZ H1179 a f).trans (m1180 a f)
          have m1330 : ∀ i, aZ H1328 2 i = aZ H 2 i := fun i => (by rw [eH1328, aZ_sA_nc (by omega)] : aZ H1328 2 i = aZ H1179 2 i).trans (m1181 i)
          have m1331 : ∀ i, aZ H1328 19 i = aZ H 19 i := fun i => (by rw [eH1328, aZ_sA_nc (by omega)] : aZ H1328 19 i = aZ H1179 19 i).trans (m1182 i)
          have m1332 : ∀ i, aZ H1328 17 i = aZ H 17 i := fun i => (by rw [eH1328, aZ_sA_nc (by omega)] : aZ H1328 17 i = aZ H1179 17 i).trans (m1183 i)
          have m1333 : kpM H H1328 := kpM_A m1184 eH1328 (by omega)
          have m1334 : ∀ i, aZ H1328 18 i = aZ H 18 i := fun i => (by rw [eH1328, aZ_sA_nc (by omega)] : aZ H1328 18 i = aZ H1179 18 i).trans (m1185 i)
          have m1335 : ∀ i, aZ H1328 20 i = aZ H 20 i := fun i => (by rw [eH1328, aZ_sA_nc (by omega)] : aZ H1328 20 i = aZ H1179 20 i).trans (m1186 i)
          have wdH1328 : rwX H1328 s md := rw_o q0 eH1328 (by decide)
          refine g_iinc (l' := (fun v1336 => [(0, .ref 0), (1, .int a1), (2, .int v1336)])) rfl rfl (by decide) (by omega) (fun _ => rfl) (fun v1336 ev1336 => ?_)
          refine g_goto ?_
          exact ihL1187 v1336 H1328 hIH1328 hJH1328 m1329 m1330 m1331 m1332 m1333 m1334 m1335 (by omega) wdH1328 (fun x hx => by rw [eH1328]; if e : v1178.toInt.toNat = x then (rw [← e, aZ_sA_eq hIH1179 sm_21 (by omega), gos_y (by omega)]; omega) else (rw [aZ_sA_ne e]; exact q1 x (by omega))) (by omega)
        · refine g_aload_n rfl ?_
          refine g_iload_n rfl ?_
          refine g_iload_n rfl ?_
          refine g_invvi hIH1179 sm_0 rfl rfl rfl rfl (r_186 v1178 (by omega) a1 (by omega) H1179 hIH1179 hJH1179 q0 hp1) (fun v1339 H1337 r1338 => ?_)
          obtain ⟨rfl, bv1339, p1340⟩ := r1338
          have ibv1339 := inn_b (s := s) (n := v1178.toInt.toNat) (o := a1.toInt)
          refine g_if_eq (fun c1341 => ?_) (fun c1341 => ?_)
          · refine g_iconst (by decide) (fun v1342 kv1342 => ?_)
            refine g_nop ?_
            refine g_zastore hIH1179 sm_21 (by omega) (by omega) (fun H1343 eH1343 hIH1343 => ?_)
            have hJH1343 : JM H1343 := JM_sA (by decide) eH1343 hJH1179
            have m1344 : ∀ a f, fZ H1343 a f = fZ H a f := fun a f => (by rw [eH1343, fZ_sA] : fZ H1343 a f = fZ H1179 a f).trans (m1180 a f)
            have m1345 : ∀ i, aZ H1343 2 i = aZ H 2 i := fun i => (by rw [eH1343, aZ_sA_nc (by omega)] : aZ H1343 2 i = aZ H1179 2 i).trans (m1181 i)
            have m1346 : ∀ i, aZ H1343 19 i = aZ H 19 i := fun i => (by rw [eH1343, aZ_sA_nc (by omega)] : aZ H1343 19 i = aZ H1179 19 i).trans (m1182 i)
            have m1347 : ∀ i, aZ H1343 17 i = aZ H 17 i := fun i => (by rw [eH1343, aZ_sA_nc (by omega)] : aZ H1343 17 i = aZ H1179 17 i).trans (m1183 i)
            have m1348 : kpM H H1343 := kpM_A m1184 eH1343 (by omega)
            have m1349 : ∀ i, aZ H1343 18 i = aZ H 18 i := fun i => (by rw [eH1343, aZ_sA_nc (by omega)] : aZ H1343 18 i = aZ H1179 18 i).trans (m1185 i)
            have m1350 : ∀ i, aZ H1343 20 i = aZ H 20 i := fun i => (by rw [eH1343, aZ_sA_nc (by omega)] : aZ H1343 20 i = aZ H1179 20 i).trans (m1186 i)
            have wdH1343 : rwX H1343 s md := rw_o q0 eH1343 (by decide)
            refine g_iinc (l' := (fun v1351 => [(0, .ref 0), (1, .int a1), (2, .int v1351)])) rfl rfl (by decide) (by omega) (fun _ => rfl) (fun v1351 ev1351 => ?_)
            refine g_goto ?_
            exact ihL1187 v1351 H1343 hIH1343 hJH1343 m1344 m1345 m1346 m1347 m1348 m1349 m1350 (by omega) wdH1343 (fun x hx => by rw [eH1343]; if e : v1178.toInt.toNat = x then (rw [← e, aZ_sA_eq hIH1179 sm_21 (by omega), gos_n (by omega)]; omega) else (rw [aZ_sA_ne e]; exact q1 x (by omega))) (by omega)
          · refine g_nop ?_
            refine g_iconst (by decide) (fun v1352 kv1352 => ?_)
            refine g_goto ?_
            refine g_zastore hIH1179 sm_21 (by omega) (by omega) (fun H1353 eH1353 hIH1353 => ?_)
            have hJH1353 : JM H1353 := JM_sA (by decide) eH1353 hJH1179
            have m1354 : ∀ a f, fZ H1353 a f = fZ H a f := fun a f => (by rw [eH1353, fZ_sA] : fZ H1353 a f = fZ H1179 a f).trans (m1180 a f)
            have m1355 : ∀ i, aZ H1353 2 i = aZ H 2 i := fun i => (by rw [eH1353, aZ_sA_nc (by omega)] : aZ H1353 2 i = aZ H1179 2 i).trans (m1181 i)
            have m1356 : ∀ i, aZ H1353 19 i = aZ H 19 i := fun i => (by rw [eH1353, aZ_sA_nc (by omega)] : aZ H1353 19 i = aZ H1179 19 i).trans (m1182 i)
            have m1357 : ∀ i, aZ H1353 17 i = aZ H 17 i := fun i => (by rw [eH1353, aZ_sA_nc (by omega)] : aZ H1353 17 i = aZ H1179 17 i).trans (m1183 i)
            have m1358 : kpM H H1353 := kpM_A m1184 eH1353 (by omega)
            have m1359 : ∀ i, aZ H1353 18 i = aZ H 18 i := fun i => (by rw [eH1353, aZ_sA_nc (by omega)] : aZ H1353 18 i = aZ H1179 18 i).trans (m1185 i)
            have m1360 : ∀ i, aZ H1353 20 i = aZ H 20 i := fun i => (by rw [eH1353, aZ_sA_nc (by omega)] : aZ H1353 20 i = aZ H1179 20 i).trans (m1186 i)
            have wdH1353 : rwX H1353 s md := rw_o q0 eH1353 (by decide)
            refine g_iinc (l' := (fun v1361 => [(0, .ref 0), (1, .int a1), (2, .int v1361)])) rfl rfl (by decide) (by omega) (fun _ => rfl) (fun v1361 ev1361 => ?_)
            refine g_goto ?_
            exact ihL1187 v1361 H1353 hIH1353 hJH1353 m1354 m1355 m1356 m1357 m1358 m1359 m1360 (by omega) wdH1353 (fun x hx => by rw [eH1353]; if e : v1178.toInt.toNat = x then (rw [← e, aZ_sA_eq hIH1179 sm_21 (by omega), gos_y (by omega)]; omega) else (rw [aZ_sA_ne e]; exact q1 x (by omega))) (by omega)
  exact L1187 _ v1177 H hI hJ mkF mk2 mk19 mk17 mkfr mk18 mk20 (by omega) hp0 (fun x hx => absurd hx (by omega)) (Nat.lt_succ_self _)
set_option maxRecDepth 4000 in
set_option maxHeartbeats 4000000 in
/-- M.takes -/
theorem r_194 {s : pS} {md : Nat → Int} (a1 : Int32) (ha1 : 0 ≤ a1.toInt ∧ a1.toInt ≤ 10) (a2 : Int32) (ha2 : 0 ≤ a2.toInt ∧ a2.toInt ≤ 39) (a3 : Int32) (a4 : Int32) (a5 : Int32) (H : mzH) (hI : gI SM H) (hJ : JM H) (hp0 : (a1.toInt = 0 → (0 ≤ a3.toInt ∧ a3.toInt ≤ 7 ∧ 0 ≤ a5.toInt ∧ a5.toInt ≤ 2))) (hp1 : ((a1.toInt = 5 ∨ a1.toInt = 6 ∨ a1.toInt = 8) → (0 ≤ a3.toInt ∧ a3.toInt ≤ 7))) (hp2 : (a1.toInt = 1 → (0 ≤ a3.toInt ∧ a3.toInt ≤ 39))) (hp3 : RS H a1 a2 a3) (hp4 : rwX H s md) (hp5 : dpt s) : gCall 194 [.ref 0, .int a1, .int a2, .int a3, .int a4, .int a5] H (gRv (fun H' => gI SM H' ∧ JM H' ∧ (∀ a f, fZ H' a f = fZ H a f) ∧ (∀ i, aZ H' 2 i = aZ H 2 i) ∧ (∀ i, aZ H' 19 i = aZ H 19 i) ∧ (∀ i, aZ H' 17 i = aZ H 17 i) ∧ kpM H H' ∧ (∀ i, aZ H' 18 i = aZ H 18 i) ∧ (∀ i, aZ H' 20 i = aZ H 20 i) ∧ rwX H' (tks s a1.toInt a2.toInt.toNat a3.toInt a4.toInt a5.toInt) (tmd md a1.toInt a2.toInt.toNat))) := by
  have mkF : ∀ a f, fZ H a f = fZ H a f := fun _ _ => rfl
  have mk2 : ∀ i, aZ H 2 i = aZ H 2 i := fun _ => rfl
  have mk19 : ∀ i, aZ H 19 i = aZ H 19 i := fun _ => rfl
  have mk17 : ∀ i, aZ H 17 i = aZ H 17 i := fun _ => rfl
  have mkfr : kpM H H := kpM_r
  have mk18 : ∀ i, aZ H 18 i = aZ H 18 i := fun _ => rfl
  have mk20 : ∀ i, aZ H 20 i = aZ H 20 i := fun _ => rfl
  refine gG_call [(0, .ref 0), (1, .int a1), (2, .int a2), (3, .int a3), (4, .int a4), (5, .int a5)] ⟨rfl, rfl, rfl, rfl, rfl, rfl, trivial⟩ ?_
  show gG 6 zB_194 (mzBlk zB_194 0) [(0, .ref 0), (1, .int a1), (2, .int a2), (3, .int a3), (4, .int a4), (5, .int a5)] [] H 0 0 _
  refine g_iload_n rfl ?_
  refine g_sw (by decide) (fun c713 => ?_) ⟨fun c713 => ?_, fun c713 => ?_, fun c713 => ?_, fun c713 => ?_, fun c713 => ?_, fun c713 => ?_, fun c713 => ?_, fun c713 => ?_, fun c713 => ?_, fun c713 => ?_, trivial⟩
  · refine g_aload_n rfl ?_
    refine g_gfr hI sm_0 rfl ?_
    refine g_iload_n rfl ?_
    refine g_iconst (by decide) (fun v714 kv714 => ?_)
    refine g_zastore hI sm_14 (by omega) (by omega) (fun H715 eH715 hIH715 => ?_)
    have hJH715 : JM H715 := JM_sA (by decide) eH715 hJ
    have m716 : ∀ a f, fZ H715 a f = fZ H a f := fun a f => (by rw [eH715, fZ_sA] : fZ H715 a f = fZ H a f).trans (mkF a f)
    have m717 : ∀ i, aZ H715 2 i = aZ H 2 i := fun i => (by rw [eH715, aZ_sA_nc (by omega)] : aZ H715 2 i = aZ H 2 i).trans (mk2 i)
    have m718 : ∀ i, aZ H715 19 i = aZ H 19 i := fun i => (by rw [eH715, aZ_sA_nc (by omega)] : aZ H715 19 i = aZ H 19 i).trans (mk19 i)
    have m719 : ∀ i, aZ H715 17 i = aZ H 17 i := fun i => (by rw [eH715, aZ_sA_nc (by omega)] : aZ H715 17 i = aZ H 17 i).trans (mk17 i)
    have m720 : kpM H H715 := kpM_A mkfr eH715 (by omega)
    have m721 : ∀ i, aZ H715 18 i = aZ H 18 i := fun i => (by rw [eH715, aZ_sA_nc (by omega)] : aZ H715 18 i = aZ H 18 i).trans (mk18 i)
    have m722 : ∀ i, aZ H715 20 i = aZ H 20 i := fun i => (by rw [eH715, aZ_sA_nc (by omega)] : aZ H715 20 i = aZ H 20 i).trans (mk20 i)
    have wdH715 : rwX H715 (sHe s a2.toInt.toNat v714.toInt) md := rw_14 hI hp4 eH715 (by omega)
    refine g_nop ?_
    exact g_ret ⟨rfl, hIH715, hJH715, m716, m717, m718, m719, m720, m721, m722, (by have z := wdH715; rw [kv714] at z; rw [tks_10 (by omega), tmd_n (by omega)]; exact z)⟩
  · refine g_aload_n rfl ?_
    refine g_gfr hI sm_0 rfl ?_
    refine g_iload_n rfl ?_
    refine g_iconst (by decide) (fun v723 kv723 => ?_)
    refine g_zastore hI sm_7 (by omega) (by omega) (fun H724 eH724 hIH724 => ?_)
    have hJH724 : JM H724 := JM_mk1 hI hJ (by omega) eH724
    have m725 : ∀ a f, fZ H724 a f = fZ H a f := fun a f => (by rw [eH724, fZ_sA] : fZ H724 a f = fZ H a f).trans (mkF a f)
    have m726 : ∀ i, aZ H724 2 i = aZ H 2 i := fun i => (by rw [eH724, aZ_sA_nc (by omega)] : aZ H724 2 i = aZ H 2 i).trans (mk2 i)
    have m727 : ∀ i, aZ H724 19 i = aZ H 19 i := fun i => (by rw [eH724, aZ_sA_nc (by omega)] : aZ H724 19 i = aZ H 19 i).trans (mk19 i)
    have m728 : ∀ i, aZ H724 17 i = aZ H 17 i := fun i => (by rw [eH724, aZ_sA_nc (by omega)] : aZ H724 17 i = aZ H 17 i).trans (mk17 i)
    have m729 : kpM H H724 := kpM_A mkfr eH724 (by omega)
    have m730 : ∀ i, aZ H724 18 i = aZ H 18 i := fun i => (by rw [eH724, aZ_sA_nc (by omega)] : aZ H724 18 i = aZ H 18 i).trans (mk18 i)
    have m731 : ∀ i, aZ H724 20 i = aZ H 20 i := fun i => (by rw [eH724, aZ_sA_nc (by omega)] : aZ H724 20 i = aZ H 20 i).trans (mk20 i)
    have wdH724 : rwX H724 s (upi md a2.toInt.toNat v723.toInt) := rw_7 hI hp4 eH724 (by omega)
    refine g_aload_n rfl ?_
    refine g_gfr hIH724 sm_0 rfl ?_
    refine g_iload_n rfl ?_
    refine g_iload rfl ?_
    refine g_iastore hIH724 sm_8 (by omega) (by omega) (fun H732 eH732 hIH732 => ?_)
    have hJH732 : JM H732 := JM_mk2 hI hIH724 hJ (by omega) (hp3.1 (by omega)) (by omega) eH724 eH732
    have m733 : ∀ a f, fZ H732 a f = fZ H a f := fun a f => (by rw [eH732, fZ_sA] : fZ H732 a f = fZ H724 a f).trans (m725 a f)
    have m734 : ∀ i, aZ H732 2 i = aZ H 2 i := fun i => (by rw [eH732, aZ_sA_nc (by omega)] : aZ H732 2 i = aZ H724 2 i).trans (m726 i)
    have m735 : ∀ i, aZ H732 19 i = aZ H 19 i := fun i => (by rw [eH732, aZ_sA_nc (by omega)] : aZ H732 19 i = aZ H724 19 i).trans (m727 i)
    have m736 : ∀ i, aZ H732 17 i = aZ H 17 i := fun i => (by rw [eH732, aZ_sA_nc (by omega)] : aZ H732 17 i = aZ H724 17 i).trans (m728 i)
    have m737 : kpM H H732 := kpM_A m729 eH732 (by omega)
    have m738 : ∀ i, aZ H732 18 i = aZ H 18 i := fun i => (by rw [eH732, aZ_sA_nc (by omega)] : aZ H732 18 i = aZ H724 18 i).trans (m730 i)
    have m739 : ∀ i, aZ H732 20 i = aZ H 20 i := fun i => (by rw [eH732, aZ_sA_nc (by omega)] : aZ H732 20 i = aZ H724 20 i).trans (m731 i)
    have wdH732 : rwX H732 (sKd s a2.toInt.toNat a5.toInt) (upi md a2.toInt.toNat v723.toInt) := rw_8 hIH724 wdH724 eH732 (by omega)
    refine g_aload_n rfl ?_
    refine g_iload_n rfl ?_
    refine g_iload_n rfl ?_
    refine g_iload rfl ?_
    refine g_invvv hIH732 sm_0 rfl rfl rfl rfl (r_193 a2 (by omega) a3 (by omega) a4 H732 hIH732 hJH732 wdH732) (fun H740 r741 => ?_)
    obtain ⟨hIH740, hJH740, m742, m743, m744, m745, m746, m747, m748, p749⟩ := r741
    have m750 : ∀ a f, fZ H740 a f = fZ H a f := fun a f => (m742 a f).trans (m733 a f)
    have m751 : ∀ i, aZ H740 2 i = aZ H 2 i := fun i => (m743 i).trans (m734 i)
    have m752 : ∀ i, aZ H740 19 i = aZ H 19 i := fun i => (m744 i).trans (m735 i)
    have m753 : ∀ i, aZ H740 17 i = aZ H 17 i := fun i => (m745 i).trans (m736 i)
    have m754 : kpM H H740 := kpM_t m737 m746
    have m755 : ∀ i, aZ H740 18 i = aZ H 18 i := fun i => (m747 i).trans (m738 i)
    have m756 : ∀ i, aZ H740 20 i = aZ H 20 i := fun i => (m748 i).trans (m739 i)
    refine g_goto ?_
    exact g_ret ⟨rfl, hIH740, hJH740, m750, m751, m752, m753, m754, m755, m756, (by have z := p749; rw [kv723] at z; rw [tks_0 (by omega), tmd_0 (by omega)]; exact z)⟩
  · refine g_aload_n rfl ?_
    refine g_gfr hI sm_0 rfl ?_
    refine g_iload_n rfl ?_
    refine g_iload_n rfl ?_
    refine g_iastore hI sm_9 (by omega) (by omega) (fun H757 eH757 hIH757 => ?_)
    have hJH757 : JM H757 := JM_pack hI hJ (by omega) (by omega) (hp3.2.2 (by omega)) eH757
    have m758 : ∀ a f, fZ H757 a f = fZ H a f := fun a f => (by rw [eH757, fZ_sA] : fZ H757 a f = fZ H a f).trans (mkF a f)
    have m759 : ∀ i, aZ H757 2 i = aZ H 2 i := fun i => (by rw [eH757, aZ_sA_nc (by omega)] : aZ H757 2 i = aZ H 2 i).trans (mk2 i)
    have m760 : ∀ i, aZ H757 19 i = aZ H 19 i := fun i => (by rw [eH757, aZ_sA_nc (by omega)] : aZ H757 19 i = aZ H 19 i).trans (mk19 i)
    have m761 : ∀ i, aZ H757 17 i = aZ H 17 i := fun i => (by rw [eH757, aZ_sA_nc (by omega)] : aZ H757 17 i = aZ H 17 i).trans (mk17 i)
    have m762 : kpM H H757 := kpM_A mkfr eH757 (by omega)
    have m763 : ∀ i, aZ H757 18 i = aZ H 18 i := fun i => (by rw [eH757, aZ_sA_nc (by omega)] : aZ H757 18 i = aZ H 18 i).trans (mk18 i)
    have m764 : ∀ i, aZ H757 20 i = aZ H 20 i := fun i => (by rw [eH757, aZ_sA_nc (by omega)] : aZ H757 20 i = aZ H 20 i).trans (mk20 i)
    have wdH757 : rwX H757 (sII s a2.toInt.toNat a3.toInt) md := rw_9 hI hp4 eH757 (by omega)
    refine g_goto ?_
    exact g_ret ⟨rfl, hIH757, hJH757, m758, m759, m760, m761, m762, m763, m764, (by have z := wdH757; rw [tks_1 (by omega), tmd_n (by omega)]; exact z)⟩
  · refine g_aload_n rfl ?_
    refine g_iload_n rfl ?_
    refine g_aload_n rfl ?_
    refine g_gfr hI sm_0 rfl ?_
    refine g_aload_n rfl ?_
    refine g_iload_n rfl ?_
    refine g_invvi hI sm_0 rfl rfl rfl rfl (r_185 a2 (by omega) H hI hJ hp4 (show dpt s from hp5)) (fun v767 H765 r766 => ?_)
    obtain ⟨rfl, bv767, p768⟩ := r766
    have tnv767 : v767.toInt.toNat = tp s a2.toInt.toNat := by omega
    refine g_iaload hI sm_10 rfl (by omega) (fun v769 ev769 lv769 uv769 => ?_)
    have yv769 : v769.toInt = (s).pl v767.toInt.toNat := by rw [ev769]; exact (hp4 _ (by omega)).2.2.2.1
    rw [tnv767] at yv769
    refine g_iload rfl ?_
    refine g_invvv hI sm_0 rfl rfl rfl rfl (r_195 a2 (by omega) v769 (by omega) a4 H hI hJ hp4 (hp3.2.1 (by omega)) (dpt_1 (show dpt s from hp5) (by omega))) (fun H770 r771 => ?_)
    obtain ⟨hIH770, hJH770, m772, m773, m774, m775, m776, m777, m778, p779⟩ := r771
    have m780 : ∀ a f, fZ H770 a f = fZ H a f := fun a f => (m772 a f).trans (mkF a f)
    have m781 : ∀ i, aZ H770 2 i = aZ H 2 i := fun i => (m773 i).trans (mk2 i)
    have m782 : ∀ i, aZ H770 19 i = aZ H 19 i := fun i => (m774 i).trans (mk19 i)
    have m783 : ∀ i, aZ H770 17 i = aZ H 17 i := fun i => (m775 i).trans (mk17 i)
    have m784 : kpM H H770 := kpM_t mkfr m776
    have m785 : ∀ i, aZ H770 18 i = aZ H 18 i := fun i => (m777 i).trans (mk18 i)
    have m786 : ∀ i, aZ H770 20 i = aZ H 20 i := fun i => (m778 i).trans (mk20 i)
    refine g_goto ?_
    exact g_ret ⟨rfl, hIH770, hJH770, m780, m781, m782, m783, m784, m785, m786, (by have z := p779; rw [yv769] at z; rw [tks_2 (by omega), tmd_n (by omega)]; exact z)⟩
  · refine g_aload_n rfl ?_
    refine g_gfr hI sm_0 rfl ?_
    refine g_iload_n rfl ?_
    refine g_iconst (by decide) (fun v787 kv787 => ?_)
    refine g_zastore hI sm_13 (by omega) (by omega) (fun H788 eH788 hIH788 => ?_)
    have hJH788 : JM H788 := JM_sA (by decide) eH788 hJ
    have m789 : ∀ a f, fZ H788 a f = fZ H a f := fun a f => (by rw [eH788, fZ_sA] : fZ H788 a f = fZ H a f).trans (mkF a f)
    have m790 : ∀ i, aZ H788 2 i = aZ H 2 i := fun i => (by rw [eH788, aZ_sA_nc (by omega)] : aZ H788 2 i = aZ H 2 i).trans (mk2 i)
    have m791 : ∀ i, aZ H788 19 i = aZ H 19 i := fun i => (by rw [eH788, aZ_sA_nc (by omega)] : aZ H788 19 i = aZ H 19 i).trans (mk19 i)
    have m792 : ∀ i, aZ H788 17 i = aZ H 17 i := fun i => (by rw [eH788, aZ_sA_nc (by omega)] : aZ H788 17 i = aZ H 17 i).trans (mk17 i)
    have m793 : kpM H H788 := kpM_A mkfr eH788 (by omega)
    have m794 : ∀ i, aZ H788 18 i = aZ H 18 i := fun i => (by rw [eH788, aZ_sA_nc (by omega)] : aZ H788 18 i = aZ H 18 i).trans (mk18 i)
    have m795 : ∀ i, aZ H788 20 i = aZ H 20 i := fun i => (by rw [eH788, aZ_sA_nc (by omega)] : aZ H788 20 i = aZ H 20 i).trans (mk20 i)
    have wdH788 : rwX H788 (sOp s a2.toInt.toNat v787.toInt) md := rw_13 hI hp4 eH788 (by omega)
    refine g_goto ?_
    exact g_ret ⟨rfl, hIH788, hJH788, m789, m790, m791, m792, m793, m794, m795, (by have z := wdH788; rw [kv787] at z; rw [tks_3 (by omega), tmd_n (by omega)]; exact z)⟩
  · refine g_aload_n rfl ?_
    refine g_gfr hI sm_0 rfl ?_
    refine g_iload_n rfl ?_
    refine g_iconst (by decide) (fun v796 kv796 => ?_)
    refine g_zastore hI sm_13 (by omega) (by omega) (fun H797 eH797 hIH797 => ?_)
    have hJH797 : JM H797 := JM_sA (by decide) eH797 hJ
    have m798 : ∀ a f, fZ H797 a f = fZ H a f := fun a f => (by rw [eH797, fZ_sA] : fZ H797 a f = fZ H a f).trans (mkF a f)
    have m799 : ∀ i, aZ H797 2 i = aZ H 2 i := fun i => (by rw [eH797, aZ_sA_nc (by omega)] : aZ H797 2 i = aZ H 2 i).trans (mk2 i)
    have m800 : ∀ i, aZ H797 19 i = aZ H 19 i := fun i => (by rw [eH797, aZ_sA_nc (by omega)] : aZ H797 19 i = aZ H 19 i).trans (mk19 i)
    have m801 : ∀ i, aZ H797 17 i = aZ H 17 i := fun i => (by rw [eH797, aZ_sA_nc (by omega)] : aZ H797 17 i = aZ H 17 i).trans (mk17 i)
    have m802 : kpM H H797 := kpM_A mkfr eH797 (by omega)
    have m803 : ∀ i, aZ H797 18 i = aZ H 18 i := fun i => (by rw [eH797, aZ_sA_nc (by omega)] : aZ H797 18 i = aZ H 18 i).trans (mk18 i)
    have m804 : ∀ i, aZ H797 20 i = aZ H 20 i := fun i => (by rw [eH797, aZ_sA_nc (by omega)] : aZ H797 20 i = aZ H 20 i).trans (mk20 i)
    have wdH797 : rwX H797 (sOp s a2.toInt.toNat v796.toInt) md := rw_13 hI hp4 eH797 (by omega)
    refine g_goto ?_
    exact g_ret ⟨rfl, hIH797, hJH797, m798, m799, m800, m801, m802, m803, m804, (by have z := wdH797; rw [kv796] at z; rw [tks_4 (by omega), tmd_n (by omega)]; exact z)⟩
  · refine g_aload_n rfl ?_
    refine g_iload_n rfl ?_
    refine g_iload_n rfl ?_
    refine g_iload rfl ?_
    refine g_invvv hI sm_0 rfl rfl rfl rfl (r_193 a2 (by omega) a3 (by omega) a4 H hI hJ hp4) (fun H805 r806 => ?_)
    obtain ⟨hIH805, hJH805, m807, m808, m809, m810, m811, m812, m813, p814⟩ := r806
    have m815 : ∀ a f, fZ H805 a f = fZ H a f := fun a f => (m807 a f).trans (mkF a f)
    have m816 : ∀ i, aZ H805 2 i = aZ H 2 i := fun i => (m808 i).trans (mk2 i)
    have m817 : ∀ i, aZ H805 19 i = aZ H 19 i := fun i => (m809 i).trans (mk19 i)
    have m818 : ∀ i, aZ H805 17 i = aZ H 17 i := fun i => (m810 i).trans (mk17 i)
    have m819 : kpM H H805 := kpM_t mkfr m811
    have m820 : ∀ i, aZ H805 18 i = aZ H 18 i := fun i => (m812 i).trans (mk18 i)
    have m821 : ∀ i, aZ H805 20 i = aZ H 20 i := fun i => (m813 i).trans (mk20 i)
    refine g_goto ?_
    exact g_ret ⟨rfl, hIH805, hJH805, m815, m816, m817, m818, m819, m820, m821, (by have z := p814; rw [tks_5 (by omega), tmd_n (by omega)]; exact z)⟩
  · refine g_aload_n rfl ?_
    refine g_iload_n rfl ?_
    refine g_iload_n rfl ?_
    refine g_iload rfl ?_
    refine g_invvv hI sm_0 rfl rfl rfl rfl (r_196 a2 (by omega) a3 (by omega) a4 H hI hJ hp4 (show dpt s from hp5)) (fun H822 r823 => ?_)
    obtain ⟨hIH822, hJH822, m824, m825, m826, m827, m828, m829, m830, p831⟩ := r823
    have m832 : ∀ a f, fZ H822 a f = fZ H a f := fun a f => (m824 a f).trans (mkF a f)
    have m833 : ∀ i, aZ H822 2 i = aZ H 2 i := fun i => (m825 i).trans (mk2 i)
    have m834 : ∀ i, aZ H822 19 i = aZ H 19 i := fun i => (m826 i).trans (mk19 i)
    have m835 : ∀ i, aZ H822 17 i = aZ H 17 i := fun i => (m827 i).trans (mk17 i)
    have m836 : kpM H H822 := kpM_t mkfr m828
    have m837 : ∀ i, aZ H822 18 i = aZ H 18 i := fun i => (m829 i).trans (mk18 i)
    have m838 : ∀ i, aZ H822 20 i = aZ H 20 i := fun i => (m830 i).trans (mk20 i)
    refine g_goto ?_
    exact g_ret ⟨rfl, hIH822, hJH822, m832, m833, m834, m835, m836, m837, m838, (by have z := p831; rw [tks_6 (by omega), tmd_n (by omega)]; exact z)⟩
  · refine g_aload_n rfl ?_
    refine g_gfr hI sm_0 rfl ?_
    refine g_iload_n rfl ?_
    refine g_iconst (by decide) (fun v839 kv839 => ?_)
    refine g_zastore hI sm_15 (by omega) (by omega) (fun H840 eH840 hIH840 => ?_)
    have hJH840 : JM H840 := JM_sA (by decide) eH840 hJ
    have m841 : ∀ a f, fZ H840 a f = fZ H a f := fun a f => (by rw [eH840, fZ_sA] : fZ H840 a f = fZ H a f).trans (mkF a f)
    have m842 : ∀ i, aZ H840 2 i = aZ H 2 i := fun i => (by rw [eH840, aZ_sA_nc (by omega)] : aZ H840 2 i = aZ H 2 i).trans (mk2 i)
    have m843 : ∀ i, aZ H840 19 i = aZ H 19 i := fun i => (by rw [eH840, aZ_sA_nc (by omega)] : aZ H840 19 i = aZ H 19 i).trans (mk19 i)
    have m844 : ∀ i, aZ H840 17 i = aZ H 17 i := fun i => (by rw [eH840, aZ_sA_nc (by omega)] : aZ H840 17 i = aZ H 17 i).trans (mk17 i)
    have m845 : kpM H H840 := kpM_A mkfr eH840 (by omega)
    have m846 : ∀ i, aZ H840 18 i = aZ H 18 i := fun i => (by rw [eH840, aZ_sA_nc (by omega)] : aZ H840 18 i = aZ H 18 i).trans (mk18 i)
    have m847 : ∀ i, aZ H840 20 i = aZ H 20 i := fun i => (by rw [eH840, aZ_sA_nc (by omega)] : aZ H840 20 i = aZ H 20 i).trans (mk20 i)
    have wdH840 : rwX H840 (sSo s a2.toInt.toNat v839.toInt) md := rw_15 hI hp4 eH840 (by omega)
    refine g_goto ?_
    exact g_ret ⟨rfl, hIH840, hJH840, m841, m842, m843, m844, m845, m846, m847, (by have z := wdH840; rw [kv839] at z; rw [tks_7 (by omega), tmd_n (by omega)]; exact z)⟩
  · refine g_aload_n rfl ?_
    refine g_gfr hI sm_0 rfl ?_
    refine g_iload_n rfl ?_
    refine g_iconst (by decide) (fun v848 kv848 => ?_)
    refine g_zastore hI sm_15 (by omega) (by omega) (fun H849 eH849 hIH849 => ?_)
    have hJH849 : JM H849 := JM_sA (by decide) eH849 hJ
    have m850 : ∀ a f, fZ H849 a f = fZ H a f := fun a f => (by rw [eH849, fZ_sA] : fZ H849 a f = fZ H a f).trans (mkF a f)
    have m851 : ∀ i, aZ H849 2 i = aZ H 2 i := fun i => (by rw [eH849, aZ_sA_nc (by omega)] : aZ H849 2 i = aZ H 2 i).trans (mk2 i)
    have m852 : ∀ i, aZ H849 19 i = aZ H 19 i := fun i => (by rw [eH849, aZ_sA_nc (by omega)] : aZ H849 19 i = aZ H 19 i).trans (mk19 i)
    have m853 : ∀ i, aZ H849 17 i = aZ H 17 i := fun i => (by rw [eH849, aZ_sA_nc (by omega)] : aZ H849 17 i = aZ H 17 i).trans (mk17 i)
    have m854 : kpM H H849 := kpM_A mkfr eH849 (by omega)
    have m855 : ∀ i, aZ H849 18 i = aZ H 18 i := fun i => (by rw [eH849, aZ_sA_nc (by omega)] : aZ H849 18 i = aZ H 18 i).trans (mk18 i)
    have m856 : ∀ i, aZ H849 20 i = aZ H 20 i := fun i => (by rw [eH849, aZ_sA_nc (by omega)] : aZ H849 20 i = aZ H 20 i).trans (mk20 i)
    have wdH849 : rwX H849 (sSo s a2.toInt.toNat v848.toInt) md := rw_15 hI hp4 eH849 (by omega)
    refine g_aload_n rfl ?_
    refine g_iload_n rfl ?_
    refine g_iload_n rfl ?_
    refine g_iload rfl ?_
    refine g_invvv hIH849 sm_0 rfl rfl rfl rfl (r_193 a2 (by omega) a3 (by omega) a4 H849 hIH849 hJH849 wdH849) (fun H857 r858 => ?_)
    obtain ⟨hIH857, hJH857, m859, m860, m861, m862, m863, m864, m865, p866⟩ := r858
    have m867 : ∀ a f, fZ H857 a f = fZ H a f := fun a f => (m859 a f).trans (m850 a f)
    have m868 : ∀ i, aZ H857 2 i = aZ H 2 i := fun i => (m860 i).trans (m851 i)
    have m869 : ∀ i, aZ H857 19 i = aZ H 19 i := fun i => (m861 i).trans (m852 i)
    have m870 : ∀ i, aZ H857 17 i = aZ H 17 i := fun i => (m862 i).trans (m853 i)
    have m871 : kpM H H857 := kpM_t m854 m863
    have m872 : ∀ i, aZ H857 18 i = aZ H 18 i := fun i => (m864 i).trans (m855 i)
    have m873 : ∀ i, aZ H857 20 i = aZ H 20 i := fun i => (m865 i).trans (m856 i)
    refine g_goto ?_
    exact g_ret ⟨rfl, hIH857, hJH857, m867, m868, m869, m870, m871, m872, m873, (by have z := p866; rw [kv848] at z; rw [tks_8 (by omega), tmd_n (by omega)]; exact z)⟩
  · refine g_aload_n rfl ?_
    refine g_iload_n rfl ?_
    refine g_invvv hI sm_0 rfl rfl rfl rfl (r_197 a2 (by omega) H hI hJ hp4 (show dpt s from hp5)) (fun H874 r875 => ?_)
    obtain ⟨hIH874, hJH874, m876, m877, m878, m879, m880, m881, m882, p883⟩ := r875
    have m884 : ∀ a f, fZ H874 a f = fZ H a f := fun a f => (m876 a f).trans (mkF a f)
    have m885 : ∀ i, aZ H874 2 i = aZ H 2 i := fun i => (m877 i).trans (mk2 i)
    have m886 : ∀ i, aZ H874 19 i = aZ H 19 i := fun i => (m878 i).trans (mk19 i)
    have m887 : ∀ i, aZ H874 17 i = aZ H 17 i := fun i => (m879 i).trans (mk17 i)
    have m888 : kpM H H874 := kpM_t mkfr m880
    have m889 : ∀ i, aZ H874 18 i = aZ H 18 i := fun i => (m881 i).trans (mk18 i)
    have m890 : ∀ i, aZ H874 20 i = aZ H 20 i := fun i => (m882 i).trans (mk20 i)
    refine g_goto ?_
    exact g_ret ⟨rfl, hIH874, hJH874, m884, m885, m886, m887, m888, m889, m890, (by have z := p883; rw [tks_9 (by omega), tmd_n (by omega)]; rw [show ((a2.toInt.toNat : Nat) : Int) = a2.toInt by omega]; exact z)⟩
