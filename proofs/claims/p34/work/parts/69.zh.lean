/-! WORLDS THAT CHANGE -/
def upi (f : Nat → Int) (n : Nat) (v : Int) : Nat → Int := fun x => if x = n then v else f x
def sKd (s : pS) (n : Nat) (v : Int) : pS := psM (upi s.kd n v) s.ii s.pl s.la s.se s.op s.so s.en s.he
def sII (s : pS) (n : Nat) (v : Int) : pS := psM s.kd (upi s.ii n v) s.pl s.la s.se s.op s.so s.en s.he
def sPl (s : pS) (n : Nat) (v : Int) : pS := psM s.kd s.ii (upi s.pl n v) s.la s.se s.op s.so s.en s.he
def sLa (s : pS) (n : Nat) (v : Int) : pS := psM s.kd s.ii s.pl (upi s.la n v) s.se s.op s.so s.en s.he
def sSe (s : pS) (n : Nat) (v : Int) : pS := psM s.kd s.ii s.pl s.la (upi s.se n v) s.op s.so s.en s.he
def sOp (s : pS) (n : Nat) (v : Int) : pS := psM s.kd s.ii s.pl s.la s.se (upi s.op n v) s.so s.en s.he
def sSo (s : pS) (n : Nat) (v : Int) : pS := psM s.kd s.ii s.pl s.la s.se s.op (upi s.so n v) s.en s.he
def sEn (s : pS) (n : Nat) (v : Int) : pS := psM s.kd s.ii s.pl s.la s.se s.op s.so (upi s.en n v) s.he
def sHe (s : pS) (n : Nat) (v : Int) : pS := psM s.kd s.ii s.pl s.la s.se s.op s.so s.en (upi s.he n v)
def smk (s : pS) (m : Int) (n : Nat) (v : Int) : pS := if m = 1 then sOp s n v else if m = 2 then sSo s n v else if m = 4 then sEn s n v else sHe s n v
theorem smk_1 {s : pS} {n : Nat} {v : Int} : smk s 1 n v = sOp s n v := rfl
theorem smk_2 {s : pS} {n : Nat} {v : Int} : smk s 2 n v = sSo s n v := rfl
theorem smk_4 {s : pS} {n : Nat} {v : Int} : smk s 4 n v = sEn s n v := rfl
theorem smk_8 {s : pS} {n : Nat} {v : Int} : smk s 8 n v = sHe s n v := rfl
def sSt (s : pS) (n : Nat) (p h : Int) : pS := sLa (sPl (sII s n (-5)) n p) n h
theorem wd_kd {H B : mzH} {w : Nat} {s : pS} {i v : Int32} {lo hi : Int} (hI : gI SX H) (hs : SX[w + 1]? = some (.inl (0, 40, lo, hi))) (h : wdX H w s) (e : B = sA H (w + 1) i.toInt.toNat v) (hi : 0 ≤ i.toInt ∧ i.toInt < 40) : wdX B w (sKd s i.toInt.toNat v.toInt) := fun n hn => by
  have hh := h n hn
  have hk : ∀ q, q ≠ 1 → aZ B (w + q) n = aZ H (w + q) n := fun q hq => by rw [e, aZ_sA_nc (by first | with_reducible assumption | omega)]
  rw [hk 2 (by decide), hk 3 (by decide), hk 4 (by decide), hk 5 (by decide), hk 6 (by decide), e, aZ_if hI hs (by first | with_reducible assumption | omega) rfl]
  refine ⟨?_, hh.2.1, hh.2.2.1, hh.2.2.2.1, hh.2.2.2.2.1, hh.2.2.2.2.2.1, hh.2.2.2.2.2.2⟩
  show _ = if n = i.toInt.toNat then v.toInt else s.kd n
  split
  · rfl
  · exact hh.1
theorem wd_ii {H B : mzH} {w : Nat} {s : pS} {i v : Int32} {lo hi : Int} (hI : gI SX H) (hs : SX[w + 2]? = some (.inl (0, 40, lo, hi))) (h : wdX H w s) (e : B = sA H (w + 2) i.toInt.toNat v) (hi : 0 ≤ i.toInt ∧ i.toInt < 40) : wdX B w (sII s i.toInt.toNat v.toInt) := fun n hn => by
  have hh := h n hn
  have hk : ∀ q, q ≠ 2 → aZ B (w + q) n = aZ H (w + q) n := fun q hq => by rw [e, aZ_sA_nc (by first | with_reducible assumption | omega)]
  rw [hk 1 (by decide), hk 3 (by decide), hk 4 (by decide), hk 5 (by decide), hk 6 (by decide), e, aZ_if hI hs (by first | with_reducible assumption | omega) rfl]
  refine ⟨hh.1, ?_, hh.2.2.1, hh.2.2.2.1, hh.2.2.2.2.1, hh.2.2.2.2.2.1, hh.2.2.2.2.2.2⟩
  show _ = if n = i.toInt.toNat then v.toInt else s.ii n
  split
  · rfl
  · exact hh.2.1
theorem wd_pl {H B : mzH} {w : Nat} {s : pS} {i v : Int32} {lo hi : Int} (hI : gI SX H) (hs : SX[w + 3]? = some (.inl (0, 40, lo, hi))) (h : wdX H w s) (e : B = sA H (w + 3) i.toInt.toNat v) (hi : 0 ≤ i.toInt ∧ i.toInt < 40) : wdX B w (sPl s i.toInt.toNat v.toInt) := fun n hn => by
  have hh := h n hn
  have hk : ∀ q, q ≠ 3 → aZ B (w + q) n = aZ H (w + q) n := fun q hq => by rw [e, aZ_sA_nc (by first | with_reducible assumption | omega)]
  rw [hk 1 (by decide), hk 2 (by decide), hk 4 (by decide), hk 5 (by decide), hk 6 (by decide), e, aZ_if hI hs (by first | with_reducible assumption | omega) rfl]
  refine ⟨hh.1, hh.2.1, ?_, hh.2.2.2.1, hh.2.2.2.2.1, hh.2.2.2.2.2.1, hh.2.2.2.2.2.2⟩
  show _ = if n = i.toInt.toNat then v.toInt else s.pl n
  split
  · rfl
  · exact hh.2.2.1
theorem wd_la {H B : mzH} {w : Nat} {s : pS} {i v : Int32} {lo hi : Int} (hI : gI SX H) (hs : SX[w + 4]? = some (.inl (0, 40, lo, hi))) (h : wdX H w s) (e : B = sA H (w + 4) i.toInt.toNat v) (hi : 0 ≤ i.toInt ∧ i.toInt < 40) : wdX B w (sLa s i.toInt.toNat v.toInt) := fun n hn => by
  have hh := h n hn
  have hk : ∀ q, q ≠ 4 → aZ B (w + q) n = aZ H (w + q) n := fun q hq => by rw [e, aZ_sA_nc (by first | with_reducible assumption | omega)]
  rw [hk 1 (by decide), hk 2 (by decide), hk 3 (by decide), hk 5 (by decide), hk 6 (by decide), e, aZ_if hI hs (by first | with_reducible assumption | omega) rfl]
  refine ⟨hh.1, hh.2.1, hh.2.2.1, ?_, hh.2.2.2.2.1, hh.2.2.2.2.2.1, hh.2.2.2.2.2.2⟩
  show _ = if n = i.toInt.toNat then v.toInt else s.la n
  split
  · rfl
  · exact hh.2.2.2.1
theorem wd_se {H B : mzH} {w : Nat} {s : pS} {i v : Int32} {lo hi : Int} (hI : gI SX H) (hs : SX[w + 5]? = some (.inl (0, 40, lo, hi))) (h : wdX H w s) (e : B = sA H (w + 5) i.toInt.toNat v) (hi : 0 ≤ i.toInt ∧ i.toInt < 40) : wdX B w (sSe s i.toInt.toNat v.toInt) := fun n hn => by
  have hh := h n hn
  have hk : ∀ q, q ≠ 5 → aZ B (w + q) n = aZ H (w + q) n := fun q hq => by rw [e, aZ_sA_nc (by first | with_reducible assumption | omega)]
  rw [hk 1 (by decide), hk 2 (by decide), hk 3 (by decide), hk 4 (by decide), hk 6 (by decide), e, aZ_if hI hs (by first | with_reducible assumption | omega) rfl]
  refine ⟨hh.1, hh.2.1, hh.2.2.1, hh.2.2.2.1, ?_, hh.2.2.2.2.2.1, hh.2.2.2.2.2.2⟩
  show _ = if n = i.toInt.toNat then v.toInt else s.se n
  split
  · rfl
  · exact hh.2.2.2.2.1
theorem or_t : ∀ n : Fin 16, ((Int32.ofNat n.val) ||| 1).toInt = ((n.val - n.val % 2 + 1 : Nat) : Int) ∧ ((Int32.ofNat n.val) ||| 2).toInt = ((n.val - n.val / 2 % 2 * 2 + 2 : Nat) : Int) ∧ ((Int32.ofNat n.val) ||| 4).toInt = ((n.val - n.val / 4 % 2 * 4 + 4 : Nat) : Int) ∧ ((Int32.ofNat n.val) ||| 8).toInt = ((n.val - n.val / 8 % 2 * 8 + 8 : Nat) : Int) := by decide
theorem an_t : ∀ n : Fin 16, ((Int32.ofNat n.val) &&& (1 ^^^ -1)).toInt = ((n.val - n.val % 2 : Nat) : Int) ∧ ((Int32.ofNat n.val) &&& (2 ^^^ -1)).toInt = ((n.val - n.val / 2 % 2 * 2 : Nat) : Int) ∧ ((Int32.ofNat n.val) &&& (4 ^^^ -1)).toInt = ((n.val - n.val / 4 % 2 * 4 : Nat) : Int) ∧ ((Int32.ofNat n.val) &&& (8 ^^^ -1)).toInt = ((n.val - n.val / 8 % 2 * 8 : Nat) : Int) := by decide
/-- a mark is set to v -/
theorem wd_mk {H B : mzH} {w i : Nat} {s : pS} {x : Int32} {m v : Int} {lo hi : Int} (hI : gI SX H) (hs : SX[w + 6]? = some (.inl (0, 40, lo, hi))) (h : wdX H w s) (hm : m = 1 ∨ m = 2 ∨ m = 4 ∨ m = 8) (hv : 0 ≤ v ∧ v ≤ 1) (hx : x.toInt = mkv (smk s m i v) i) (e : B = sA H (w + 6) i x) (hi : i < 40) : wdX B w (smk s m i v) := by
  intro n hn
  obtain ⟨h1, h2, h3, h4, h5, h6, h7⟩ := h n hn
  have hk : ∀ q, q ≠ 6 → aZ B (w + q) n = aZ H (w + q) n := fun q hq => by rw [e, aZ_sA_nc (by first | with_reducible assumption | omega)]
  rw [hk 1 (by decide), hk 2 (by decide), hk 3 (by decide), hk 4 (by decide), hk 5 (by decide), e, aZ_if hI hs hi rfl]
  have hb : ∀ q, ¬ q = i → mkv (smk s m i v) q = mkv s q ∧ (bts s q → bts (smk s m i v) q) := fun q hq => by
    rcases hm with rfl | rfl | rfl | rfl
    · rw [smk_1]
      unfold mkv bts sOp psM upi pS.op pS.so pS.en pS.he
      simp only [if_neg hq]
      exact ⟨trivial, id⟩
    · rw [smk_2]
      unfold mkv bts sSo psM upi pS.op pS.so pS.en pS.he
      simp only [if_neg hq]
      exact ⟨trivial, id⟩
    · rw [smk_4]
      unfold mkv bts sEn psM upi pS.op pS.so pS.en pS.he
      simp only [if_neg hq]
      exact ⟨trivial, id⟩
    · rw [smk_8]
      unfold mkv bts sHe psM upi pS.op pS.so pS.en pS.he
      simp only [if_neg hq]
      exact ⟨trivial, id⟩
  have hc : bts s i → bts (smk s m i v) i := fun z => by
    rcases hm with rfl | rfl | rfl | rfl
    · rw [smk_1]
      unfold bts sOp psM upi pS.op pS.so pS.en pS.he at *
      simp only [if_pos]
      exact ⟨hv, z.2.1, z.2.2.1, z.2.2.2⟩
    · rw [smk_2]
      unfold bts sSo psM upi pS.op pS.so pS.en pS.he at *
      simp only [if_pos]
      exact ⟨z.1, hv, z.2.2.1, z.2.2.2⟩
    · rw [smk_4]
      unfold bts sEn psM upi pS.op pS.so pS.en pS.he at *
      simp only [if_pos]
      exact ⟨z.1, z.2.1, hv, z.2.2.2⟩
    · rw [smk_8]
      unfold bts sHe psM upi pS.op pS.so pS.en pS.he at *
      simp only [if_pos]
      exact ⟨z.1, z.2.1, z.2.2.1, hv⟩
  have hf : (smk s m i v).kd = s.kd ∧ (smk s m i v).ii = s.ii ∧ (smk s m i v).pl = s.pl ∧ (smk s m i v).la = s.la ∧ (smk s m i v).se = s.se := by
    rcases hm with rfl | rfl | rfl | rfl
    · rw [smk_1]; exact ⟨rfl, rfl, rfl, rfl, rfl⟩
    · rw [smk_2]; exact ⟨rfl, rfl, rfl, rfl, rfl⟩
    · rw [smk_4]; exact ⟨rfl, rfl, rfl, rfl, rfl⟩
    · rw [smk_8]; exact ⟨rfl, rfl, rfl, rfl, rfl⟩
  rw [hf.1, hf.2.1, hf.2.2.1, hf.2.2.2.1, hf.2.2.2.2]
  refine ⟨h1, h2, h3, h4, h5, ?_⟩
  if q : n = i then
    subst q
    rw [if_pos rfl]
    exact ⟨hx, hc h7⟩
  else
    rw [if_neg q, (hb n q).1]
    exact ⟨h6, (hb n q).2 h7⟩
theorem mkv_set {s : pS} {m v : Int} {i : Nat} (hm : m = 1 ∨ m = 2 ∨ m = 4 ∨ m = 8) : mkv (smk s m i v) i = mkv s i + m * (v - mkb s m i) := by
  rcases hm with rfl | rfl | rfl | rfl
  · rw [smk_1, mkb_1]
    unfold mkv sOp psM upi pS.op pS.so pS.en pS.he
    simp only [if_pos]
    omega
  · rw [smk_2, mkb_2]
    unfold mkv sSo psM upi pS.op pS.so pS.en pS.he
    simp only [if_pos]
    omega
  · rw [smk_4, mkb_4]
    unfold mkv sEn psM upi pS.op pS.so pS.en pS.he
    simp only [if_pos]
    omega
  · rw [smk_8, mkb_8]
    unfold mkv sHe psM upi pS.op pS.so pS.en pS.he
    simp only [if_pos]
    omega
theorem wd_or {H B : mzH} {w : Nat} {s : pS} {x a r i : Int32} {lo hi : Int} (hI : gI SX H) (hs : SX[w + 6]? = some (.inl (0, 40, lo, hi))) (h : wdX H w s) (ha : a.toInt = 1 ∨ a.toInt = 2 ∨ a.toInt = 4 ∨ a.toInt = 8) (hx : x.toInt = mkv s i.toInt.toNat ∧ bts s i.toInt.toNat) (o : r = x ||| a) (e : B = sA H (w + 6) i.toInt.toNat r) (hi : 0 ≤ i.toInt ∧ i.toInt < 40) : wdX B w (smk s a.toInt i.toInt.toNat 1) := by
  refine wd_mk hI hs h ha (by decide) ?_ e (by first | with_reducible assumption | omega)
  rw [mkv_set ha]
  obtain ⟨h1, h2⟩ := hx
  rw [← h1]
  unfold mkv at h1
  unfold bts at h2
  obtain ⟨k, rfl, e2⟩ := i32_of (x := x) (by first | with_reducible assumption | omega)
  obtain ⟨t1, t2, t3, t4⟩ := or_t k
  rw [o]
  rcases ha with ha | ha | ha | ha
  · rw [show a = 1 from Int32.toInt_inj.mp ha, t1]; show _ = _ + 1 * (1 - mkb s 1 _); rw [mkb_1]; omega
  · rw [show a = 2 from Int32.toInt_inj.mp ha, t2]; show _ = _ + 2 * (1 - mkb s 2 _); rw [mkb_2]; omega
  · rw [show a = 4 from Int32.toInt_inj.mp ha, t3]; show _ = _ + 4 * (1 - mkb s 4 _); rw [mkb_4]; omega
  · rw [show a = 8 from Int32.toInt_inj.mp ha, t4]; show _ = _ + 8 * (1 - mkb s 8 _); rw [mkb_8]; omega
theorem wd_an {H B : mzH} {w : Nat} {s : pS} {x a r c z i : Int32} {lo hi : Int} (hI : gI SX H) (hs : SX[w + 6]? = some (.inl (0, 40, lo, hi))) (h : wdX H w s) (ha : a.toInt = 1 ∨ a.toInt = 2 ∨ a.toInt = 4 ∨ a.toInt = 8) (hx : x.toInt = mkv s i.toInt.toNat ∧ bts s i.toInt.toNat) (o1 : c = a ^^^ z) (hz : z.toInt = -1) (o : r = x &&& c) (e : B = sA H (w + 6) i.toInt.toNat r) (hi : 0 ≤ i.toInt ∧ i.toInt < 40) : wdX B w (smk s a.toInt i.toInt.toNat 0) := by
  refine wd_mk hI hs h ha (by decide) ?_ e (by first | with_reducible assumption | omega)
  rw [mkv_set ha]
  obtain ⟨h1, h2⟩ := hx
  rw [← h1]
  unfold mkv at h1
  unfold bts at h2
  obtain ⟨k, rfl, e2⟩ := i32_of (x := x) (by first | with_reducible assumption | omega)
  obtain ⟨t1, t2, t3, t4⟩ := an_t k
  rw [o, o1, show z = -1 from Int32.toInt_inj.mp hz]
  rcases ha with ha | ha | ha | ha
  · rw [show a = 1 from Int32.toInt_inj.mp ha, t1]; show _ = _ + 1 * (0 - mkb s 1 _); rw [mkb_1]; omega
  · rw [show a = 2 from Int32.toInt_inj.mp ha, t2]; show _ = _ + 2 * (0 - mkb s 2 _); rw [mkb_2]; omega
  · rw [show a = 4 from Int32.toInt_inj.mp ha, t3]; show _ = _ + 4 * (0 - mkb s 4 _); rw [mkb_4]; omega
  · rw [show a = 8 from Int32.toInt_inj.mp ha, t4]; show _ = _ + 8 * (0 - mkb s 8 _); rw [mkb_8]; omega
def opA (s : pS) (n : Nat) : pS := if s.ii n < 0 then s else sOp s (s.ii n).toNat 1
theorem opA_pl {s : pS} {n : Nat} : (opA s n).pl = s.pl := by
  unfold opA
  split <;> rfl
def sE1 (s : pS) (n : Int) (k : Nat) : pS := psM s.kd s.ii s.pl s.la s.se s.op s.so (fun x => if x < k ∧ ((x : Int) = n ∨ inn s x n = 1) then 1 else s.en x) s.he
def sE2 (s : pS) (k : Nat) : pS := psM s.kd (fun x => if x < k ∧ s.en x = 1 then -5 else s.ii x) s.pl s.la s.se s.op s.so s.en (fun x => if x < k ∧ s.en x = 1 then 0 else s.he x)
def sEnd (s : pS) (n : Int) : pS := sE2 (sE1 s n 40) 40
theorem inn_e1 {s : pS} {n o : Int} {k x : Nat} : inn (sE1 s n k) x o = inn s x o := rfl
theorem e2_en {s : pS} {k x : Nat} : (sE2 s k).en x = s.en x := rfl
theorem e1_0 {H : mzH} {w k : Nat} {s : pS} {n : Int} (h : wdX H w s) (hk : k = 0) : wdX H w (sE1 s n k) := by
  subst hk
  have e : sE1 s n 0 = s := by
    show psM s.kd s.ii s.pl s.la s.se s.op s.so _ s.he = psM s.kd s.ii s.pl s.la s.se s.op s.so s.en s.he
    refine congrArg (fun f => psM s.kd s.ii s.pl s.la s.se s.op s.so f s.he) ?_
    funext x
    rw [if_neg (fun z => absurd z.1 (Nat.not_lt_zero _))]
  rw [e]
  exact h
theorem e1_y {H : mzH} {w k k' : Nat} {s : pS} {n : Int} (hk : k' = k + 1) (hp : (k : Int) = n ∨ inn s k n = 1) (h : wdX H w (sEn (sE1 s n k) k 1)) : wdX H w (sE1 s n k') := by
  subst hk
  have e : sE1 s n (k + 1) = sEn (sE1 s n k) k 1 := by
    show psM s.kd s.ii s.pl s.la s.se s.op s.so _ s.he = psM s.kd s.ii s.pl s.la s.se s.op s.so _ s.he
    refine congrArg (fun f => psM s.kd s.ii s.pl s.la s.se s.op s.so f s.he) ?_
    funext x
    show _ = if x = k then 1 else if x < k ∧ ((x : Int) = n ∨ inn s x n = 1) then 1 else s.en x
    if q : x = k then
      subst q
      rw [if_pos rfl, if_pos ⟨by omega, hp⟩]
    else
      rw [if_neg q]
      if z : x < k ∧ ((x : Int) = n ∨ inn s x n = 1) then rw [if_pos z, if_pos ⟨by omega, z.2⟩]
      else rw [if_neg z, if_neg (fun c => z ⟨by omega, c.2⟩)]
  rw [e]
  exact h
theorem e1_n {H : mzH} {w k k' : Nat} {s : pS} {n : Int} (hk : k' = k + 1) (hp : ¬ ((k : Int) = n ∨ inn s k n = 1)) (h : wdX H w (sE1 s n k)) : wdX H w (sE1 s n k') := by
  subst hk
  have e : sE1 s n (k + 1) = sE1 s n k := by
    refine congrArg (fun f => psM s.kd s.ii s.pl s.la s.se s.op s.so f s.he) ?_
    funext x
    if z : x < k ∧ ((x : Int) = n ∨ inn s x n = 1) then rw [if_pos z, if_pos ⟨by omega, z.2⟩]
    else
      rw [if_neg z, if_neg]
      rintro ⟨c1, c2⟩
      if q : x = k then
        subst q
        exact hp c2
      else exact z ⟨by omega, c2⟩
  rw [e]
  exact h
theorem e2_0 {H : mzH} {w k q : Nat} {s : pS} {n : Int} (h : wdX H w (sE1 s n q)) (hq : q = 40) (hk : k = 0) : wdX H w (sE2 (sE1 s n 40) k) := by
  subst hq hk
  have e : sE2 (sE1 s n 40) 0 = sE1 s n 40 := by
    generalize sE1 s n 40 = t
    show psM t.kd _ t.pl t.la t.se t.op t.so t.en _ = psM t.kd t.ii t.pl t.la t.se t.op t.so t.en t.he
    have e1 : (fun x => if x < 0 ∧ t.en x = 1 then -5 else t.ii x) = t.ii := by
      funext x
      rw [if_neg (fun z => absurd z.1 (Nat.not_lt_zero _))]
    have e2 : (fun x => if x < 0 ∧ t.en x = 1 then 0 else t.he x) = t.he := by
      funext x
      rw [if_neg (fun z => absurd z.1 (Nat.not_lt_zero _))]
    rw [e1, e2]
  rw [e]
  exact h
theorem e2_y {H : mzH} {w k k' : Nat} {t : pS} {m : Int} (hk : k' = k + 1) (hp : t.en k = 1) (hm : m = -5) (h : wdX H w (sHe (sII (sE2 t k) k m) k 0)) : wdX H w (sE2 t k') := by
  subst hk hm
  have e1 : (fun x => if x < k + 1 ∧ t.en x = 1 then -5 else t.ii x) = upi (sE2 t k).ii k (-5) := by
    funext x
    show _ = if x = k then -5 else if x < k ∧ t.en x = 1 then -5 else t.ii x
    if q : x = k then
      subst q
      rw [if_pos rfl, if_pos ⟨by omega, hp⟩]
    else
      rw [if_neg q]
      if z : x < k ∧ t.en x = 1 then rw [if_pos z, if_pos ⟨by omega, z.2⟩]
      else rw [if_neg z, if_neg (fun c => z ⟨by omega, c.2⟩)]
  have e2 : (fun x => if x < k + 1 ∧ t.en x = 1 then 0 else t.he x) = upi (sE2 t k).he k 0 := by
    funext x
    show _ = if x = k then 0 else if x < k ∧ t.en x = 1 then 0 else t.he x
    if q : x = k then
      subst q
      rw [if_pos rfl, if_pos ⟨by omega, hp⟩]
    else
      rw [if_neg q]
      if z : x < k ∧ t.en x = 1 then rw [if_pos z, if_pos ⟨by omega, z.2⟩]
      else rw [if_neg z, if_neg (fun c => z ⟨by omega, c.2⟩)]
  have e : sE2 t (k + 1) = sHe (sII (sE2 t k) k (-5)) k 0 := by
    show psM t.kd _ t.pl t.la t.se t.op t.so t.en _ = psM t.kd _ t.pl t.la t.se t.op t.so t.en _
    rw [e1, e2]
    rfl
  rw [e]
  exact h
theorem e2_n {H : mzH} {w k k' : Nat} {t : pS} (hk : k' = k + 1) (hp : ¬ t.en k = 1) (h : wdX H w (sE2 t k)) : wdX H w (sE2 t k') := by
  subst hk
  have e0 : ∀ x, (x < k + 1 ∧ t.en x = 1) ↔ (x < k ∧ t.en x = 1) := fun x => by
    constructor
    · rintro ⟨c1, c2⟩
      if q : x = k then
        subst q
        exact absurd c2 hp
      else exact ⟨by omega, c2⟩
    · exact fun c => ⟨by omega, c.2⟩
  have e : sE2 t (k + 1) = sE2 t k := by
    unfold sE2
    simp only [e0]
  rw [e]
  exact h
theorem e2_end {H : mzH} {w k : Nat} {s : pS} {n : Int} (h : wdX H w (sE2 (sE1 s n 40) k)) (hk : k = 40) : wdX H w (sEnd s n) := by
  subst hk
  exact h
/-- a message that is taken -/
def cO (s : pS) (ac : Int) (n : Nat) (se ki hour : Int) : pS := if ac = 0 then sSt (sKd s n ki) n se hour else if ac = 1 then sII s n se else if ac = 2 then sSt (opA s n) n (s.pl (tp s n)) hour else if ac = 3 then sOp s n 1 else if ac = 4 then sOp s n 0 else if ac = 5 then sSt s n se hour else if ac = 6 then sSt (sSe s n hour) (if (sSe s n hour).pl (tp s n) = se then tp s n else loo (sSe s n hour) n) se hour else if ac = 7 then sSo s n 1 else if ac = 8 then sSt (sSo s n 0) n se hour else if ac = 9 then sEnd (opA s n) (n : Int) else sHe s n 0
theorem cq_0 {s : pS} {ac se ki hour : Int} {n : Nat} (h : ac = 0) : cO s ac n se ki hour = sSt (sKd s n ki) n se hour := by
  subst h
  rfl
theorem cq_1 {s : pS} {ac se ki hour : Int} {n : Nat} (h : ac = 1) : cO s ac n se ki hour = sII s n se := by
  subst h
  rfl
theorem cq_2 {s : pS} {ac se ki hour : Int} {n : Nat} (h : ac = 2) : cO s ac n se ki hour = sSt (opA s n) n (s.pl (tp s n)) hour := by
  subst h
  rfl
theorem cq_3 {s : pS} {ac se ki hour : Int} {n : Nat} (h : ac = 3) : cO s ac n se ki hour = sOp s n 1 := by
  subst h
  rfl
theorem cq_4 {s : pS} {ac se ki hour : Int} {n : Nat} (h : ac = 4) : cO s ac n se ki hour = sOp s n 0 := by
  subst h
  rfl
theorem cq_5 {s : pS} {ac se ki hour : Int} {n : Nat} (h : ac = 5) : cO s ac n se ki hour = sSt s n se hour := by
  subst h
  rfl
theorem cq_6 {s : pS} {ac se ki hour : Int} {n : Nat} (h : ac = 6) : cO s ac n se ki hour = sSt (sSe s n hour) (if (sSe s n hour).pl (tp s n) = se then tp s n else loo (sSe s n hour) n) se hour := by
  subst h
  rfl
theorem cq_7 {s : pS} {ac se ki hour : Int} {n : Nat} (h : ac = 7) : cO s ac n se ki hour = sSo s n 1 := by
  subst h
  rfl
theorem cq_8 {s : pS} {ac se ki hour : Int} {n : Nat} (h : ac = 8) : cO s ac n se ki hour = sSt (sSo s n 0) n se hour := by
  subst h
  rfl
theorem cq_9 {s : pS} {ac se ki hour : Int} {n : Nat} (h : ac = 9) : cO s ac n se ki hour = sEnd (opA s n) (n : Int) := by
  subst h
  rfl
theorem cq_10 {s : pS} {ac se ki hour : Int} {n : Nat} (h : ac = 10) : cO s ac n se ki hour = sHe s n 0 := by
  subst h
  rfl
/-- the world behind a message -/
def lkS (s : pS) (wy : Int → Int → Int) (U C ac : Int) (n : Nat) (se ki hour : Int) : pS := if obj s wy U C ac n se hour = 0 then cO s ac n se ki hour else if (ac = 0 ∧ s.en n ≠ 1) ∨ (ac = 6 ∧ (obj s wy U C ac n se hour = 6 ∨ obj s wy U C ac n se hour = 10)) then sHe s n 1 else s
section
variable {s : pS} {wy : Int → Int → Int} {U C ac se ki hour : Int} {n : Nat}
theorem lk_t (h : obj s wy U C ac n se hour = 0) : lkS s wy U C ac n se ki hour = cO s ac n se ki hour := by unfold lkS; rw [if_pos h]
theorem lk_q (h : ¬ obj s wy U C ac n se hour = 0) (h2 : (ac = 0 ∧ s.en n ≠ 1) ∨ (ac = 6 ∧ (obj s wy U C ac n se hour = 6 ∨ obj s wy U C ac n se hour = 10))) : lkS s wy U C ac n se ki hour = sHe s n 1 := by unfold lkS; rw [if_neg h, if_pos h2]
theorem lk_n (h : ¬ obj s wy U C ac n se hour = 0) (h2 : ¬ ((ac = 0 ∧ s.en n ≠ 1) ∨ (ac = 6 ∧ (obj s wy U C ac n se hour = 6 ∨ obj s wy U C ac n se hour = 10)))) : lkS s wy U C ac n se ki hour = s := by unfold lkS; rw [if_neg h, if_neg h2]
end
set_option maxRecDepth 4000 in
set_option maxHeartbeats 4000000 in
/-- X8.mark -/
theorem w_86 {s : pS} (w : Nat) (hw : zWo w) (a1 : Int32) (ha1 : 0 ≤ a1.toInt ∧ a1.toInt ≤ 39) (a2 : Int32) (H : mzH) (hI : gI SX H) (hJ : JX H) (hp0 : wdX H w s) (hp1 : (a2.toInt = 1 ∨ a2.toInt = 2 ∨ a2.toInt = 4 ∨ a2.toInt = 8)) : gCall 86 [.ref w, .int a1, .int a2] H (gRv (fun H' => gI SX H' ∧ JX H' ∧ fZ H' 1 1 = fZ H 1 1 ∧ kpN (w + 1) (w + 6) H H' ∧ wdX H' w (smk s a2.toInt a1.toInt.toNat 1))) := by
  obtain ⟨hwr, hw0, hw1, hw2, hw3, hw4, hw5, hw6⟩ := id hw
  obtain ⟨k1_1, ek1_1⟩ : ∃ z, z = fZ H 1 1 := ⟨_, rfl⟩
  have ik1_1 : k1_1.toInt = (fZ H 1 1).toInt := by rw [← ek1_1]
  have bk1_1 : 0 ≤ k1_1.toInt ∧ k1_1.toInt ≤ 900 := by rw [ek1_1]; exact fZ_of hI sx_1 rfl
  have mkfr : kpN (w + 1) (w + 6) H H := kpN_r
  refine gG_call [(0, .ref w), (1, .int a1), (2, .int a2)] ⟨rfl, rfl, rfl, trivial⟩ ?_
  show gG 3 zB_86 (mzBlk zB_86 0) [(0, .ref w), (1, .int a1), (2, .int a2)] [] H 0 0 _
  refine g_aload_n rfl ?_
  refine g_gfr hI hw0 rfl ?_
  refine g_iload_n rfl ?_
  refine g_dup2 rfl ?_
  refine g_iaload hI hw6 rfl (by first | with_reducible assumption | omega) (fun v21 ev21 lv21 uv21 => ?_)
  have yv21 : v21.toInt = mkv s a1.toInt.toNat ∧ bts s a1.toInt.toNat := by rw [ev21]; exact (hp0 _ (by first | with_reducible assumption | omega)).2.2.2.2.2
  refine g_iload_n rfl ?_
  refine g_ior' (fun v22 ov22 => ?_)
  refine g_iastore hI hw6 (by first | with_reducible assumption | omega) (gz_any _) (fun H23 eH23 hIH23 => ?_)
  have hJH23 : JX H23 := JX_sA (by first | with_reducible assumption | omega) eH23 hJ
  have e24 : k1_1 = fZ H23 1 1 := by rw [eH23, fZ_sA]; exact ek1_1
  have m25 : kpN (w + 1) (w + 6) H H23 := kpN_A mkfr eH23 (by first | with_reducible assumption | omega)
  exact g_ret ⟨rfl, hIH23, hJH23, (e24.symm.trans ek1_1), m25, (wd_or hI hw6 hp0 hp1 yv21 ov22 eH23 (by first | with_reducible assumption | omega))⟩
set_option maxRecDepth 4000 in
set_option maxHeartbeats 4000000 in
/-- X8.unmark -/
theorem w_87 {s : pS} (w : Nat) (hw : zWo w) (a1 : Int32) (ha1 : 0 ≤ a1.toInt ∧ a1.toInt ≤ 39) (a2 : Int32) (H : mzH) (hI : gI SX H) (hJ : JX H) (hp0 : wdX H w s) (hp1 : (a2.toInt = 1 ∨ a2.toInt = 2 ∨ a2.toInt = 4 ∨ a2.toInt = 8)) : gCall 87 [.ref w, .int a1, .int a2] H (gRv (fun H' => gI SX H' ∧ JX H' ∧ fZ H' 1 1 = fZ H 1 1 ∧ kpN (w + 1) (w + 6) H H' ∧ wdX H' w (smk s a2.toInt a1.toInt.toNat 0))) := by
  obtain ⟨hwr, hw0, hw1, hw2, hw3, hw4, hw5, hw6⟩ := id hw
  obtain ⟨k1_1, ek1_1⟩ : ∃ z, z = fZ H 1 1 := ⟨_, rfl⟩
  have ik1_1 : k1_1.toInt = (fZ H 1 1).toInt := by rw [← ek1_1]
  have bk1_1 : 0 ≤ k1_1.toInt ∧ k1_1.toInt ≤ 900 := by rw [ek1_1]; exact fZ_of hI sx_1 rfl
  have mkfr : kpN (w + 1) (w + 6) H H := kpN_r
  refine gG_call [(0, .ref w), (1, .int a1), (2, .int a2)] ⟨rfl, rfl, rfl, trivial⟩ ?_
  show gG 3 zB_87 (mzBlk zB_87 0) [(0, .ref w), (1, .int a1), (2, .int a2)] [] H 0 0 _
  refine g_aload_n rfl ?_
  refine g_gfr hI hw0 rfl ?_
  refine g_iload_n rfl ?_
  refine g_dup2 rfl ?_
  refine g_iaload hI hw6 rfl (by first | with_reducible assumption | omega) (fun v29 ev29 lv29 uv29 => ?_)
  have yv29 : v29.toInt = mkv s a1.toInt.toNat ∧ bts s a1.toInt.toNat := by rw [ev29]; exact (hp0 _ (by first | with_reducible assumption | omega)).2.2.2.2.2
  refine g_iload_n rfl ?_
  refine g_iconst (by decide) (fun v30 kv30 => ?_)
  refine g_ixor' (fun v31 ov31 => ?_)
  refine g_iand' (fun v32 ov32 => ?_)
  refine g_iastore hI hw6 (by first | with_reducible assumption | omega) (gz_any _) (fun H33 eH33 hIH33 => ?_)
  have hJH33 : JX H33 := JX_sA (by first | with_reducible assumption | omega) eH33 hJ
  have e34 : k1_1 = fZ H33 1 1 := by rw [eH33, fZ_sA]; exact ek1_1
  have m35 : kpN (w + 1) (w + 6) H H33 := kpN_A mkfr eH33 (by first | with_reducible assumption | omega)
  exact g_ret ⟨rfl, hIH33, hJH33, (e34.symm.trans ek1_1), m35, (wd_an hI hw6 hp0 hp1 yv29 ov31 (by first | with_reducible assumption | omega) ov32 eH33 (by first | with_reducible assumption | omega))⟩
set_option maxRecDepth 4000 in
set_option maxHeartbeats 4000000 in
/-- X8.stand -/
theorem w_99 {s : pS} (w : Nat) (hw : zWo w) (a1 : Int32) (ha1 : 0 ≤ a1.toInt ∧ a1.toInt ≤ 39) (a2 : Int32) (a3 : Int32) (H : mzH) (hI : gI SX H) (hJ : JX H) (hp0 : wdX H w s) : gCall 99 [.ref w, .int a1, .int a2, .int a3] H (gRv (fun H' => gI SX H' ∧ JX H' ∧ fZ H' 1 1 = fZ H 1 1 ∧ kpN (w + 1) (w + 6) H H' ∧ wdX H' w (sSt s a1.toInt.toNat a2.toInt a3.toInt))) := by
  obtain ⟨hwr, hw0, hw1, hw2, hw3, hw4, hw5, hw6⟩ := id hw
  obtain ⟨k1_1, ek1_1⟩ : ∃ z, z = fZ H 1 1 := ⟨_, rfl⟩
  have ik1_1 : k1_1.toInt = (fZ H 1 1).toInt := by rw [← ek1_1]
  have bk1_1 : 0 ≤ k1_1.toInt ∧ k1_1.toInt ≤ 900 := by rw [ek1_1]; exact fZ_of hI sx_1 rfl
  have mkfr : kpN (w + 1) (w + 6) H H := kpN_r
  refine gG_call [(0, .ref w), (1, .int a1), (2, .int a2), (3, .int a3)] ⟨rfl, rfl, rfl, rfl, trivial⟩ ?_
  show gG 4 zB_99 (mzBlk zB_99 0) [(0, .ref w), (1, .int a1), (2, .int a2), (3, .int a3)] [] H 0 0 _
  refine g_aload_n rfl ?_
  refine g_gfr hI hw0 rfl ?_
  refine g_iload_n rfl ?_
  refine g_bipush (by decide) (fun v41 kv41 => ?_)
  refine g_iastore hI hw2 (by first | with_reducible assumption | omega) (by first | with_reducible assumption | omega) (fun H42 eH42 hIH42 => ?_)
  have hJH42 : JX H42 := JX_sA (by first | with_reducible assumption | omega) eH42 hJ
  have e43 : k1_1 = fZ H42 1 1 := by rw [eH42, fZ_sA]; exact ek1_1
  have m44 : kpN (w + 1) (w + 6) H H42 := kpN_A mkfr eH42 (by first | with_reducible assumption | omega)
  have wdH42 : wdX H42 w (sII s a1.toInt.toNat v41.toInt) := wd_ii hI hw2 hp0 eH42 (by first | with_reducible assumption | omega)
  refine g_aload_n rfl ?_
  refine g_gfr hIH42 hw0 rfl ?_
  refine g_iload_n rfl ?_
  refine g_iload_n rfl ?_
  refine g_iastore hIH42 hw3 (by first | with_reducible assumption | omega) (gz_any _) (fun H45 eH45 hIH45 => ?_)
  have hJH45 : JX H45 := JX_sA (by first | with_reducible assumption | omega) eH45 hJH42
  have e46 : k1_1 = fZ H45 1 1 := by rw [eH45, fZ_sA]; exact e43
  have m47 : kpN (w + 1) (w + 6) H H45 := kpN_A m44 eH45 (by first | with_reducible assumption | omega)
  have wdH45 : wdX H45 w (sPl (sII s a1.toInt.toNat v41.toInt) a1.toInt.toNat a2.toInt) := wd_pl hIH42 hw3 wdH42 eH45 (by first | with_reducible assumption | omega)
  refine g_aload_n rfl ?_
  refine g_gfr hIH45 hw0 rfl ?_
  refine g_iload_n rfl ?_
  refine g_iload_n rfl ?_
  refine g_iastore hIH45 hw4 (by first | with_reducible assumption | omega) (gz_any _) (fun H48 eH48 hIH48 => ?_)
  have hJH48 : JX H48 := JX_sA (by first | with_reducible assumption | omega) eH48 hJH45
  have e49 : k1_1 = fZ H48 1 1 := by rw [eH48, fZ_sA]; exact e46
  have m50 : kpN (w + 1) (w + 6) H H48 := kpN_A m47 eH48 (by first | with_reducible assumption | omega)
  have wdH48 : wdX H48 w (sLa (sPl (sII s a1.toInt.toNat v41.toInt) a1.toInt.toNat a2.toInt) a1.toInt.toNat a3.toInt) := wd_la hIH45 hw4 wdH45 eH48 (by first | with_reducible assumption | omega)
  exact g_ret ⟨rfl, hIH48, hJH48, (e49.symm.trans ek1_1), m50, (by unfold sSt; have z := wdH48; rw [kv41] at z; exact z)⟩
set_option maxRecDepth 4000 in
set_option maxHeartbeats 4000000 in
/-- X8.openAround -/
theorem w_100 {s : pS} (w : Nat) (hw : zWo w) (a1 : Int32) (ha1 : 0 ≤ a1.toInt ∧ a1.toInt ≤ 39) (H : mzH) (hI : gI SX H) (hJ : JX H) (hp0 : wdX H w s) : gCall 100 [.ref w, .int a1] H (gRv (fun H' => gI SX H' ∧ JX H' ∧ fZ H' 1 1 = fZ H 1 1 ∧ kpN (w + 1) (w + 6) H H' ∧ wdX H' w (opA s a1.toInt.toNat))) := by
  obtain ⟨hwr, hw0, hw1, hw2, hw3, hw4, hw5, hw6⟩ := id hw
  obtain ⟨k1_1, ek1_1⟩ : ∃ z, z = fZ H 1 1 := ⟨_, rfl⟩
  have ik1_1 : k1_1.toInt = (fZ H 1 1).toInt := by rw [← ek1_1]
  have bk1_1 : 0 ≤ k1_1.toInt ∧ k1_1.toInt ≤ 900 := by rw [ek1_1]; exact fZ_of hI sx_1 rfl
  have mkfr : kpN (w + 1) (w + 6) H H := kpN_r
  refine gG_call [(0, .ref w), (1, .int a1)] ⟨rfl, rfl, trivial⟩ ?_
  show gG 2 zB_100 (mzBlk zB_100 0) [(0, .ref w), (1, .int a1)] [] H 0 0 _
  refine g_aload_n rfl ?_
  refine g_gfr hI hw0 rfl ?_
  refine g_iload_n rfl ?_
  refine g_iaload hI hw2 rfl (by first | with_reducible assumption | omega) (fun v41 ev41 lv41 uv41 => ?_)
  have yv41 : v41.toInt = (s).ii a1.toInt.toNat := by rw [ev41]; exact (hp0 _ (by first | with_reducible assumption | omega)).2.1
  refine g_if_lt (fun c42 => ?_) (fun c42 => ?_)
  · exact g_ret ⟨rfl, hI, hJ, (ek1_1.symm.trans ek1_1), mkfr, (by unfold opA; rw [if_pos (by first | with_reducible assumption | omega)]; exact hp0)⟩
  · refine g_aload_n rfl ?_
    refine g_aload_n rfl ?_
    refine g_gfr hI hw0 rfl ?_
    refine g_iload_n rfl ?_
    refine g_ialoadk hI hw2 rfl (by first | with_reducible assumption | omega) ev41 ?_
    refine g_iconst (by decide) (fun v43 kv43 => ?_)
    refine g_invvv hI hw0 rfl rfl rfl rfl (w_86 w hw v41 (by first | with_reducible assumption | omega) v43 H hI hJ hp0 (by first | with_reducible assumption | omega)) (fun H44 r45 => ?_)
    obtain ⟨hIH44, hJH44, w46, m47, p48⟩ := r45
    have e49 : k1_1 = fZ H44 1 1 := ek1_1.trans w46.symm
    have m50 : kpN (w + 1) (w + 6) H H44 := kpN_t mkfr m47
    rw [kv43, smk_1] at p48
    refine g_nop ?_
    exact g_ret ⟨rfl, hIH44, hJH44, (e49.symm.trans ek1_1), m50, (by unfold opA; rw [if_neg (by first | with_reducible assumption | omega), ← yv41]; exact p48)⟩
set_option maxRecDepth 4000 in
set_option maxHeartbeats 4000000 in
/-- X8.endWithAllIn -/
theorem w_102 {s : pS} (w : Nat) (hw : zWo w) (a1 : Int32) (H : mzH) (hI : gI SX H) (hJ : JX H) (hp0 : wdX H w s) : gCall 102 [.ref w, .int a1] H (gRv (fun H' => gI SX H' ∧ JX H' ∧ fZ H' 1 1 = fZ H 1 1 ∧ kpN (w + 1) (w + 6) H H' ∧ wdX H' w (sEnd s a1.toInt))) := by
  obtain ⟨hwr, hw0, hw1, hw2, hw3, hw4, hw5, hw6⟩ := id hw
  obtain ⟨k1_1, ek1_1⟩ : ∃ z, z = fZ H 1 1 := ⟨_, rfl⟩
  have ik1_1 : k1_1.toInt = (fZ H 1 1).toInt := by rw [← ek1_1]
  have bk1_1 : 0 ≤ k1_1.toInt ∧ k1_1.toInt ≤ 900 := by rw [ek1_1]; exact fZ_of hI sx_1 rfl
  have mkfr : kpN (w + 1) (w + 6) H H := kpN_r
  refine gG_call [(0, .ref w), (1, .int a1)] ⟨rfl, rfl, trivial⟩ ?_
  show gG 3 zB_102 (mzBlk zB_102 0) [(0, .ref w), (1, .int a1)] [] H 0 0 _
  refine g_iconst (by decide) (fun v597 kv597 => ?_)
  refine g_istore_n (l' := [(0, .ref w), (1, .int a1), (2, .int v597)]) rfl rfl ?_
  refine g_nop ?_
  have L602 : ∀ (N : Nat) (v598 : Int32) (H599 : mzH), gI SX H599 → JX H599 → k1_1 = fZ H599 1 1 → kpN (w + 1) (w + 6) H H599 → (0 ≤ v598.toInt ∧ v598.toInt ≤ 40) → wdX H599 w (sE1 s a1.toInt v598.toInt.toNat) → (40 - v598.toInt).toNat < N → gG 3 zB_102 (mzBlk zB_102 1) [(0, .ref w), (1, .int a1), (2, .int v598)] [] H599 0 0 (gRv (fun H' => gI SX H' ∧ JX H' ∧ fZ H' 1 1 = fZ H 1 1 ∧ kpN (w + 1) (w + 6) H H' ∧ wdX H' w (sEnd s a1.toInt))) := by
    intro N
    induction N with
    | zero => intro v598 H599 hIH599 hJH599 e600 m601 bv598 q1 hmL602; exact absurd hmL602 (Nat.not_lt_zero _)
    | succ N ihL602 =>
      intro v598 H599 hIH599 hJH599 e600 m601 bv598 q1 hmL602
      refine g_iload_n rfl ?_
      refine g_bipush (by decide) (fun v603 kv603 => ?_)
      refine g_if2_ge (fun c604 => ?_) (fun c604 => ?_)
      · refine g_iconst (by decide) (fun v605 kv605 => ?_)
        refine g_istore_n (l' := [(0, .ref w), (1, .int a1), (2, .int v605)]) rfl rfl ?_
        refine g_nop ?_
        have L610 : ∀ (N : Nat) (v606 : Int32) (H607 : mzH), gI SX H607 → JX H607 → k1_1 = fZ H607 1 1 → kpN (w + 1) (w + 6) H H607 → (0 ≤ v606.toInt ∧ v606.toInt ≤ 40) → wdX H607 w (sE2 (sE1 s a1.toInt 40) v606.toInt.toNat) → (40 - v606.toInt).toNat < N → gG 3 zB_102 (mzBlk zB_102 5) [(0, .ref w), (1, .int a1), (2, .int v606)] [] H607 0 0 (gRv (fun H' => gI SX H' ∧ JX H' ∧ fZ H' 1 1 = fZ H 1 1 ∧ kpN (w + 1) (w + 6) H H' ∧ wdX H' w (sEnd s a1.toInt))) := by
          intro N
          induction N with
          | zero => intro v606 H607 hIH607 hJH607 e608 m609 bv606 q2 hmL610; exact absurd hmL610 (Nat.not_lt_zero _)
          | succ N ihL610 =>
            intro v606 H607 hIH607 hJH607 e608 m609 bv606 q2 hmL610
            refine g_iload_n rfl ?_
            refine g_bipush (by decide) (fun v611 kv611 => ?_)
            refine g_if2_ge (fun c612 => ?_) (fun c612 => ?_)
            · exact g_ret ⟨rfl, hIH607, hJH607, (e608.symm.trans ek1_1), m609, (e2_end q2 (by first | with_reducible assumption | omega))⟩
            · refine g_aload_n rfl ?_
              refine g_iload_n rfl ?_
              refine g_iconst (by decide) (fun v613 kv613 => ?_)
              refine g_invvi hIH607 hw0 rfl rfl rfl rfl (w_85 w hw v606 (by first | with_reducible assumption | omega) v613 H607 hIH607 hJH607 q2 (by first | with_reducible assumption | omega)) (fun v616 H614 r615 => ?_)
              obtain ⟨rfl, bv616, p617⟩ := r615
              rw [kv613, mkb_4] at p617
              rw [e2_en] at p617
              refine g_if_eq (fun c618 => ?_) (fun c618 => ?_)
              · refine g_iinc (l' := (fun v619 => [(0, .ref w), (1, .int a1), (2, .int v619)])) rfl rfl (by decide) (by first | with_reducible assumption | omega) (fun _ => rfl) (fun v619 ev619 => ?_)
                refine g_goto ?_
                exact ihL610 v619 H607 hIH607 hJH607 e608 m609 (by first | with_reducible assumption | omega) (e2_n (by first | with_reducible assumption | omega) (by first | with_reducible assumption | omega) q2) (by first | with_reducible assumption | omega)
              · refine g_aload_n rfl ?_
                refine g_gfr hIH607 hw0 rfl ?_
                refine g_iload_n rfl ?_
                refine g_bipush (by decide) (fun v620 kv620 => ?_)
                refine g_iastore hIH607 hw2 (by first | with_reducible assumption | omega) (by first | with_reducible assumption | omega) (fun H621 eH621 hIH621 => ?_)
                have hJH621 : JX H621 := JX_sA (by first | with_reducible assumption | omega) eH621 hJH607
                have e622 : k1_1 = fZ H621 1 1 := by rw [eH621, fZ_sA]; exact e608
                have m623 : kpN (w + 1) (w + 6) H H621 := kpN_A m609 eH621 (by first | with_reducible assumption | omega)
                have wdH621 : wdX H621 w (sII (sE2 (sE1 s a1.toInt 40) v606.toInt.toNat) v606.toInt.toNat v620.toInt) := wd_ii hIH607 hw2 q2 eH621 (by first | with_reducible assumption | omega)
                refine g_aload_n rfl ?_
                refine g_iload_n rfl ?_
                refine g_bipush (by decide) (fun v624 kv624 => ?_)
                refine g_invvv hIH621 hw0 rfl rfl rfl rfl (w_87 w hw v606 (by first | with_reducible assumption | omega) v624 H621 hIH621 hJH621 wdH621 (by first | with_reducible assumption | omega)) (fun H625 r626 => ?_)
                obtain ⟨hIH625, hJH625, w627, m628, p629⟩ := r626
                have e630 : k1_1 = fZ H625 1 1 := e622.trans w627.symm
                have m631 : kpN (w + 1) (w + 6) H H625 := kpN_t m623 m628
                rw [kv624, smk_8] at p629
                refine g_nop ?_
                refine g_iinc (l' := (fun v632 => [(0, .ref w), (1, .int a1), (2, .int v632)])) rfl rfl (by decide) (by first | with_reducible assumption | omega) (fun _ => rfl) (fun v632 ev632 => ?_)
                refine g_goto ?_
                exact ihL610 v632 H625 hIH625 hJH625 e630 m631 (by first | with_reducible assumption | omega) (e2_y (by first | with_reducible assumption | omega) (by first | with_reducible assumption | omega) (by first | with_reducible assumption | omega) p629) (by first | with_reducible assumption | omega)
        exact L610 _ v605 H599 hIH599 hJH599 e600 m601 (by first | with_reducible assumption | omega) (e2_0 q1 (by first | with_reducible assumption | omega) (by first | with_reducible assumption | omega)) (Nat.lt_succ_self _)
      · refine g_iload_n rfl ?_
        refine g_iload_n rfl ?_
        refine g_if2_eq (fun c633 => ?_) (fun c633 => ?_)
        · refine g_aload_n rfl ?_
          refine g_iload_n rfl ?_
          refine g_iconst (by decide) (fun v634 kv634 => ?_)
          refine g_invvv hIH599 hw0 rfl rfl rfl rfl (w_86 w hw v598 (by first | with_reducible assumption | omega) v634 H599 hIH599 hJH599 q1 (by first | with_reducible assumption | omega)) (fun H635 r636 => ?_)
          obtain ⟨hIH635, hJH635, w637, m638, p639⟩ := r636
          have e640 : k1_1 = fZ H635 1 1 := e600.trans w637.symm
          have m641 : kpN (w + 1) (w + 6) H H635 := kpN_t m601 m638
          rw [kv634, smk_4] at p639
          refine g_nop ?_
          refine g_iinc (l' := (fun v642 => [(0, .ref w), (1, .int a1), (2, .int v642)])) rfl rfl (by decide) (by first | with_reducible assumption | omega) (fun _ => rfl) (fun v642 ev642 => ?_)
          refine g_goto ?_
          exact ihL602 v642 H635 hIH635 hJH635 e640 m641 (by first | with_reducible assumption | omega) (e1_y (by first | with_reducible assumption | omega) (by first | with_reducible assumption | omega) p639) (by first | with_reducible assumption | omega)
        · refine g_aload_n rfl ?_
          refine g_iload_n rfl ?_
          refine g_iload_n rfl ?_
          refine g_invvi hIH599 hw0 rfl rfl rfl rfl (w_90 w hw v598 (by first | with_reducible assumption | omega) a1 H599 hIH599 hJH599 q1) (fun v645 H643 r644 => ?_)
          obtain ⟨rfl, bv645, p646⟩ := r644
          rw [inn_e1] at p646
          refine g_if_eq (fun c647 => ?_) (fun c647 => ?_)
          · refine g_iinc (l' := (fun v648 => [(0, .ref w), (1, .int a1), (2, .int v648)])) rfl rfl (by decide) (by first | with_reducible assumption | omega) (fun _ => rfl) (fun v648 ev648 => ?_)
            refine g_goto ?_
            exact ihL602 v648 H599 hIH599 hJH599 e600 m601 (by first | with_reducible assumption | omega) (e1_n (by first | with_reducible assumption | omega) (by first | with_reducible assumption | omega) q1) (by first | with_reducible assumption | omega)
          · refine g_nop ?_
            refine g_aload_n rfl ?_
            refine g_iload_n rfl ?_
            refine g_iconst (by decide) (fun v649 kv649 => ?_)
            refine g_invvv hIH599 hw0 rfl rfl rfl rfl (w_86 w hw v598 (by first | with_reducible assumption | omega) v649 H599 hIH599 hJH599 q1 (by first | with_reducible assumption | omega)) (fun H650 r651 => ?_)
            obtain ⟨hIH650, hJH650, w652, m653, p654⟩ := r651
            have e655 : k1_1 = fZ H650 1 1 := e600.trans w652.symm
            have m656 : kpN (w + 1) (w + 6) H H650 := kpN_t m601 m653
            rw [kv649, smk_4] at p654
            refine g_nop ?_
            refine g_iinc (l' := (fun v657 => [(0, .ref w), (1, .int a1), (2, .int v657)])) rfl rfl (by decide) (by first | with_reducible assumption | omega) (fun _ => rfl) (fun v657 ev657 => ?_)
            refine g_goto ?_
            exact ihL602 v657 H650 hIH650 hJH650 e655 m656 (by first | with_reducible assumption | omega) (e1_y (by first | with_reducible assumption | omega) (by first | with_reducible assumption | omega) p654) (by first | with_reducible assumption | omega)
  exact L602 _ v597 H hI hJ ek1_1 mkfr (by first | with_reducible assumption | omega) (e1_0 hp0 (by first | with_reducible assumption | omega)) (Nat.lt_succ_self _)
set_option maxRecDepth 4000 in
set_option maxHeartbeats 4000000 in
/-- X8.carryOut -/
theorem w_98 {s : pS} (w : Nat) (hw : zWo w) (a2 : Int32) (ha2 : 0 ≤ a2.toInt ∧ a2.toInt ≤ 59) (a3 : Int32) (H : mzH) (hI : gI SX H) (hJ : JX H) (hp0 : wdX H w s) (hp1 : (0 ≤ (aZ H 7 a2.toInt.toNat).toInt ∧ (aZ H 7 a2.toInt.toNat).toInt ≤ 10)) : gCall 98 [.ref w, .ref 3, .int a2, .int a3] H (gRv (fun H' => gI SX H' ∧ JX H' ∧ fZ H' 1 1 = fZ H 1 1 ∧ kpN (w + 1) (w + 6) H H' ∧ wdX H' w (cO s (aZ H 7 a2.toInt.toNat).toInt (aZ H 8 a2.toInt.toNat).toInt.toNat (aZ H 9 a2.toInt.toNat).toInt (aZ H 10 a2.toInt.toNat).toInt a3.toInt))) := by
  obtain ⟨hwr, hw0, hw1, hw2, hw3, hw4, hw5, hw6⟩ := id hw
  obtain ⟨k1_1, ek1_1⟩ : ∃ z, z = fZ H 1 1 := ⟨_, rfl⟩
  have ik1_1 : k1_1.toInt = (fZ H 1 1).toInt := by rw [← ek1_1]
  have bk1_1 : 0 ≤ k1_1.toInt ∧ k1_1.toInt ≤ 900 := by rw [ek1_1]; exact fZ_of hI sx_1 rfl
  have mkfr : kpN (w + 1) (w + 6) H H := kpN_r
  refine gG_call [(0, .ref w), (1, .ref 3), (2, .int a2), (3, .int a3)] ⟨rfl, rfl, rfl, rfl, trivial⟩ ?_
  show gG 7 zB_98 (mzBlk zB_98 0) [(0, .ref w), (1, .ref 3), (2, .int a2), (3, .int a3)] [] H 0 0 _
  refine g_aload_n rfl ?_
  refine g_gfr hI sx_3 rfl ?_
  refine g_iload_n rfl ?_
  refine g_iaload hI sx_8 rfl (by first | with_reducible assumption | omega) (fun v513 ev513 lv513 uv513 => ?_)
  have zv513 : v513.toInt = (aZ H 8 a2.toInt.toNat).toInt := by rw [ev513]
  refine g_istore (l' := [(0, .ref w), (1, .ref 3), (2, .int a2), (3, .int a3), (4, .int v513)]) rfl rfl ?_
  refine g_aload_n rfl ?_
  refine g_gfr hI sx_3 rfl ?_
  refine g_iload_n rfl ?_
  refine g_iaload hI sx_9 rfl (by first | with_reducible assumption | omega) (fun v514 ev514 lv514 uv514 => ?_)
  have zv514 : v514.toInt = (aZ H 9 a2.toInt.toNat).toInt := by rw [ev514]
  refine g_istore (l' := [(0, .ref w), (1, .ref 3), (2, .int a2), (3, .int a3), (4, .int v513), (5, .int v514)]) rfl rfl ?_
  refine g_aload_n rfl ?_
  refine g_iload rfl ?_
  refine g_invvi hI hw0 rfl rfl rfl rfl (w_89 w hw v513 (by first | with_reducible assumption | omega) H hI hJ hp0) (fun v517 H515 r516 => ?_)
  obtain ⟨rfl, bv517, p518⟩ := r516
  have tnv517 : v517.toInt.toNat = tp s v513.toInt.toNat := by omega
  refine g_istore (l' := [(0, .ref w), (1, .ref 3), (2, .int a2), (3, .int a3), (4, .int v513), (5, .int v514), (6, .int v517)]) rfl rfl ?_
  refine g_aload_n rfl ?_
  refine g_gfr hI sx_3 rfl ?_
  refine g_iload_n rfl ?_
  refine g_iaload hI sx_7 rfl (by first | with_reducible assumption | omega) (fun v519 ev519 lv519 uv519 => ?_)
  have zv519 : v519.toInt = (aZ H 7 a2.toInt.toNat).toInt := by rw [ev519]
  refine g_sw (by decide) (fun c520 => ?_) ⟨fun c520 => ?_, fun c520 => ?_, fun c520 => ?_, fun c520 => ?_, fun c520 => ?_, fun c520 => ?_, fun c520 => ?_, fun c520 => ?_, fun c520 => ?_, fun c520 => ?_, trivial⟩
  · refine g_aload_n rfl ?_
    refine g_iload rfl ?_
    refine g_bipush (by decide) (fun v521 kv521 => ?_)
    refine g_invvv hI hw0 rfl rfl rfl rfl (w_87 w hw v513 (by first | with_reducible assumption | omega) v521 H hI hJ hp0 (by first | with_reducible assumption | omega)) (fun H522 r523 => ?_)
    obtain ⟨hIH522, hJH522, w524, m525, p526⟩ := r523
    have e527 : k1_1 = fZ H522 1 1 := ek1_1.trans w524.symm
    have m528 : kpN (w + 1) (w + 6) H H522 := kpN_t mkfr m525
    rw [kv521, smk_8] at p526
    refine g_nop ?_
    exact g_ret ⟨rfl, hIH522, hJH522, (e527.symm.trans ek1_1), m528, (by rw [← zv519, ← zv513, ← zv514]; rw [cq_10 (by first | with_reducible assumption | omega)]; exact p526)⟩
  · refine g_aload_n rfl ?_
    refine g_gfr hI hw0 rfl ?_
    refine g_iload rfl ?_
    refine g_aload_n rfl ?_
    refine g_gfr hI sx_3 rfl ?_
    refine g_iload_n rfl ?_
    refine g_iaload hI sx_10 rfl (by first | with_reducible assumption | omega) (fun v529 ev529 lv529 uv529 => ?_)
    have zv529 : v529.toInt = (aZ H 10 a2.toInt.toNat).toInt := by rw [ev529]
    refine g_iastore hI hw1 (by first | with_reducible assumption | omega) (gz_any _) (fun H530 eH530 hIH530 => ?_)
    have hJH530 : JX H530 := JX_sA (by first | with_reducible assumption | omega) eH530 hJ
    have e531 : k1_1 = fZ H530 1 1 := by rw [eH530, fZ_sA]; exact ek1_1
    have m532 : kpN (w + 1) (w + 6) H H530 := kpN_A mkfr eH530 (by first | with_reducible assumption | omega)
    have wdH530 : wdX H530 w (sKd s v513.toInt.toNat v529.toInt) := wd_kd hI hw1 hp0 eH530 (by first | with_reducible assumption | omega)
    refine g_aload_n rfl ?_
    refine g_iload rfl ?_
    refine g_iload rfl ?_
    refine g_iload_n rfl ?_
    refine g_invvv hIH530 hw0 rfl rfl rfl rfl (w_99 w hw v513 (by first | with_reducible assumption | omega) v514 a3 H530 hIH530 hJH530 wdH530) (fun H533 r534 => ?_)
    obtain ⟨hIH533, hJH533, w535, m536, p537⟩ := r534
    have e538 : k1_1 = fZ H533 1 1 := e531.trans w535.symm
    have m539 : kpN (w + 1) (w + 6) H H533 := kpN_t m532 m536
    refine g_goto ?_
    exact g_ret ⟨rfl, hIH533, hJH533, (e538.symm.trans ek1_1), m539, (by rw [← zv519, ← zv513, ← zv514, ← zv529]; rw [cq_0 (by first | with_reducible assumption | omega)]; exact p537)⟩
  · refine g_aload_n rfl ?_
    refine g_gfr hI hw0 rfl ?_
    refine g_iload rfl ?_
    refine g_iload rfl ?_
    refine g_iastore hI hw2 (by first | with_reducible assumption | omega) (by first | with_reducible assumption | omega) (fun H540 eH540 hIH540 => ?_)
    have hJH540 : JX H540 := JX_sA (by first | with_reducible assumption | omega) eH540 hJ
    have e541 : k1_1 = fZ H540 1 1 := by rw [eH540, fZ_sA]; exact ek1_1
    have m542 : kpN (w + 1) (w + 6) H H540 := kpN_A mkfr eH540 (by first | with_reducible assumption | omega)
    have wdH540 : wdX H540 w (sII s v513.toInt.toNat v514.toInt) := wd_ii hI hw2 hp0 eH540 (by first | with_reducible assumption | omega)
    refine g_goto ?_
    exact g_ret ⟨rfl, hIH540, hJH540, (e541.symm.trans ek1_1), m542, (by rw [← zv519, ← zv513, ← zv514]; rw [cq_1 (by first | with_reducible assumption | omega)]; exact wdH540)⟩
  · refine g_aload_n rfl ?_
    refine g_iload rfl ?_
    refine g_invvv hI hw0 rfl rfl rfl rfl (w_100 w hw v513 (by first | with_reducible assumption | omega) H hI hJ hp0) (fun H543 r544 => ?_)
    obtain ⟨hIH543, hJH543, w545, m546, p547⟩ := r544
    have e548 : k1_1 = fZ H543 1 1 := ek1_1.trans w545.symm
    have m549 : kpN (w + 1) (w + 6) H H543 := kpN_t mkfr m546
    refine g_aload_n rfl ?_
    refine g_iload rfl ?_
    refine g_aload_n rfl ?_
    refine g_gfr hIH543 hw0 rfl ?_
    refine g_iload rfl ?_
    refine g_iaload hIH543 hw3 rfl (by first | with_reducible assumption | omega) (fun v550 ev550 lv550 uv550 => ?_)
    have yv550 : v550.toInt = ((opA s v513.toInt.toNat)).pl v517.toInt.toNat := by rw [ev550]; exact (p547 _ (by first | with_reducible assumption | omega)).2.2.1
    rw [tnv517] at yv550
    rw [opA_pl] at yv550
    refine g_iload_n rfl ?_
    refine g_invvv hIH543 hw0 rfl rfl rfl rfl (w_99 w hw v513 (by first | with_reducible assumption | omega) v550 a3 H543 hIH543 hJH543 p547) (fun H551 r552 => ?_)
    obtain ⟨hIH551, hJH551, w553, m554, p555⟩ := r552
    have e556 : k1_1 = fZ H551 1 1 := e548.trans w553.symm
    have m557 : kpN (w + 1) (w + 6) H H551 := kpN_t m549 m554
    refine g_goto ?_
    exact g_ret ⟨rfl, hIH551, hJH551, (e556.symm.trans ek1_1), m557, (by rw [← zv519, ← zv513, ← zv514]; rw [cq_2 (by first | with_reducible assumption | omega)]; rw [← yv550]; exact p555)⟩
  · refine g_aload_n rfl ?_
    refine g_iload rfl ?_
    refine g_iconst (by decide) (fun v558 kv558 => ?_)
    refine g_invvv hI hw0 rfl rfl rfl rfl (w_86 w hw v513 (by first | with_reducible assumption | omega) v558 H hI hJ hp0 (by first | with_reducible assumption | omega)) (fun H559 r560 => ?_)
    obtain ⟨hIH559, hJH559, w561, m562, p563⟩ := r560
    have e564 : k1_1 = fZ H559 1 1 := ek1_1.trans w561.symm
    have m565 : kpN (w + 1) (w + 6) H H559 := kpN_t mkfr m562
    rw [kv558, smk_1] at p563
    refine g_goto ?_
    exact g_ret ⟨rfl, hIH559, hJH559, (e564.symm.trans ek1_1), m565, (by rw [← zv519, ← zv513, ← zv514]; rw [cq_3 (by first | with_reducible assumption | omega)]; exact p563)⟩
  · refine g_aload_n rfl ?_
    refine g_iload rfl ?_
    refine g_iconst (by decide) (fun v566 kv566 => ?_)
    refine g_invvv hI hw0 rfl rfl rfl rfl (w_87 w hw v513 (by first | with_reducible assumption | omega) v566 H hI hJ hp0 (by first | with_reducible assumption | omega)) (fun H567 r568 => ?_)
    obtain ⟨hIH567, hJH567, w569, m570, p571⟩ := r568
    have e572 : k1_1 = fZ H567 1 1 := ek1_1.trans w569.symm
    have m573 : kpN (w + 1) (w + 6) H H567 := kpN_t mkfr m570
    rw [kv566, smk_1] at p571
    refine g_goto ?_
    exact g_ret ⟨rfl, hIH567, hJH567, (e572.symm.trans ek1_1), m573, (by rw [← zv519, ← zv513, ← zv514]; rw [cq_4 (by first | with_reducible assumption | omega)]; exact p571)⟩
  · refine g_aload_n rfl ?_
    refine g_iload rfl ?_
    refine g_iload rfl ?_
    refine g_iload_n rfl ?_
    refine g_invvv hI hw0 rfl rfl rfl rfl (w_99 w hw v513 (by first | with_reducible assumption | omega) v514 a3 H hI hJ hp0) (fun H574 r575 => ?_)
    obtain ⟨hIH574, hJH574, w576, m577, p578⟩ := r575
    have e579 : k1_1 = fZ H574 1 1 := ek1_1.trans w576.symm
    have m580 : kpN (w + 1) (w + 6) H H574 := kpN_t mkfr m577
    refine g_goto ?_
    exact g_ret ⟨rfl, hIH574, hJH574, (e579.symm.trans ek1_1), m580, (by rw [← zv519, ← zv513, ← zv514]; rw [cq_5 (by first | with_reducible assumption | omega)]; exact p578)⟩
  · refine g_aload_n rfl ?_
    refine g_gfr hI hw0 rfl ?_
    refine g_iload rfl ?_
    refine g_iload_n rfl ?_
    refine g_iastore hI hw5 (by first | with_reducible assumption | omega) (gz_any _) (fun H581 eH581 hIH581 => ?_)
    have hJH581 : JX H581 := JX_sA (by first | with_reducible assumption | omega) eH581 hJ
    have e582 : k1_1 = fZ H581 1 1 := by rw [eH581, fZ_sA]; exact ek1_1
    have m583 : kpN (w + 1) (w + 6) H H581 := kpN_A mkfr eH581 (by first | with_reducible assumption | omega)
    have wdH581 : wdX H581 w (sSe s v513.toInt.toNat a3.toInt) := wd_se hI hw5 hp0 eH581 (by first | with_reducible assumption | omega)
    refine g_aload_n rfl ?_
    refine g_aload_n rfl ?_
    refine g_gfr hIH581 hw0 rfl ?_
    refine g_iload rfl ?_
    refine g_iaload hIH581 hw3 rfl (by first | with_reducible assumption | omega) (fun v584 ev584 lv584 uv584 => ?_)
    have yv584 : v584.toInt = ((sSe s v513.toInt.toNat a3.toInt)).pl v517.toInt.toNat := by rw [ev584]; exact (wdH581 _ (by first | with_reducible assumption | omega)).2.2.1
    rw [tnv517] at yv584
    refine g_iload rfl ?_
    refine g_if2_ne (fun c585 => ?_) (fun c585 => ?_)
    · refine g_aload_n rfl ?_
      refine g_iload rfl ?_
      refine g_invvi hIH581 hw0 rfl rfl rfl rfl (w_101 w hw v513 (by first | with_reducible assumption | omega) H581 hIH581 hJH581 wdH581) (fun v588 H586 r587 => ?_)
      obtain ⟨rfl, bv588, p589⟩ := r587
      have lnv588 : v588.toInt.toNat = loo (sSe s v513.toInt.toNat a3.toInt) v513.toInt.toNat := by omega
      refine g_nop ?_
      refine g_iload rfl ?_
      refine g_iload_n rfl ?_
      refine g_invvv hIH581 hw0 rfl rfl rfl rfl (w_99 w hw v588 (by first | with_reducible assumption | omega) v514 a3 H581 hIH581 hJH581 wdH581) (fun H590 r591 => ?_)
      obtain ⟨hIH590, hJH590, w592, m593, p594⟩ := r591
      have e595 : k1_1 = fZ H590 1 1 := e582.trans w592.symm
      have m596 : kpN (w + 1) (w + 6) H H590 := kpN_t m583 m593
      refine g_goto ?_
      exact g_ret ⟨rfl, hIH590, hJH590, (e595.symm.trans ek1_1), m596, (by rw [← zv519, ← zv513, ← zv514]; rw [cq_6 (by first | with_reducible assumption | omega)]; rw [if_neg (by first | with_reducible assumption | omega), ← lnv588]; exact p594)⟩
    · refine g_iload rfl ?_
      refine g_goto ?_
      refine g_iload rfl ?_
      refine g_iload_n rfl ?_
      refine g_invvv hIH581 hw0 rfl rfl rfl rfl (w_99 w hw v517 (by first | with_reducible assumption | omega) v514 a3 H581 hIH581 hJH581 wdH581) (fun H597 r598 => ?_)
      obtain ⟨hIH597, hJH597, w599, m600, p601⟩ := r598
      have e602 : k1_1 = fZ H597 1 1 := e582.trans w599.symm
      have m603 : kpN (w + 1) (w + 6) H H597 := kpN_t m583 m600
      refine g_goto ?_
      exact g_ret ⟨rfl, hIH597, hJH597, (e602.symm.trans ek1_1), m603, (by rw [← zv519, ← zv513, ← zv514]; rw [cq_6 (by first | with_reducible assumption | omega)]; rw [if_pos (by first | with_reducible assumption | omega), ← tnv517]; exact p601)⟩
  · refine g_aload_n rfl ?_
    refine g_iload rfl ?_
    refine g_iconst (by decide) (fun v604 kv604 => ?_)
    refine g_invvv hI hw0 rfl rfl rfl rfl (w_86 w hw v513 (by first | with_reducible assumption | omega) v604 H hI hJ hp0 (by first | with_reducible assumption | omega)) (fun H605 r606 => ?_)
    obtain ⟨hIH605, hJH605, w607, m608, p609⟩ := r606
    have e610 : k1_1 = fZ H605 1 1 := ek1_1.trans w607.symm
    have m611 : kpN (w + 1) (w + 6) H H605 := kpN_t mkfr m608
    rw [kv604, smk_2] at p609
    refine g_goto ?_
    exact g_ret ⟨rfl, hIH605, hJH605, (e610.symm.trans ek1_1), m611, (by rw [← zv519, ← zv513, ← zv514]; rw [cq_7 (by first | with_reducible assumption | omega)]; exact p609)⟩
  · refine g_aload_n rfl ?_
    refine g_iload rfl ?_
    refine g_iconst (by decide) (fun v612 kv612 => ?_)
    refine g_invvv hI hw0 rfl rfl rfl rfl (w_87 w hw v513 (by first | with_reducible assumption | omega) v612 H hI hJ hp0 (by first | with_reducible assumption | omega)) (fun H613 r614 => ?_)
    obtain ⟨hIH613, hJH613, w615, m616, p617⟩ := r614
    have e618 : k1_1 = fZ H613 1 1 := ek1_1.trans w615.symm
    have m619 : kpN (w + 1) (w + 6) H H613 := kpN_t mkfr m616
    rw [kv612, smk_2] at p617
    refine g_aload_n rfl ?_
    refine g_iload rfl ?_
    refine g_iload rfl ?_
    refine g_iload_n rfl ?_
    refine g_invvv hIH613 hw0 rfl rfl rfl rfl (w_99 w hw v513 (by first | with_reducible assumption | omega) v514 a3 H613 hIH613 hJH613 p617) (fun H620 r621 => ?_)
    obtain ⟨hIH620, hJH620, w622, m623, p624⟩ := r621
    have e625 : k1_1 = fZ H620 1 1 := e618.trans w622.symm
    have m626 : kpN (w + 1) (w + 6) H H620 := kpN_t m619 m623
    refine g_goto ?_
    exact g_ret ⟨rfl, hIH620, hJH620, (e625.symm.trans ek1_1), m626, (by rw [← zv519, ← zv513, ← zv514]; rw [cq_8 (by first | with_reducible assumption | omega)]; exact p624)⟩
  · refine g_aload_n rfl ?_
    refine g_iload rfl ?_
    refine g_invvv hI hw0 rfl rfl rfl rfl (w_100 w hw v513 (by first | with_reducible assumption | omega) H hI hJ hp0) (fun H627 r628 => ?_)
    obtain ⟨hIH627, hJH627, w629, m630, p631⟩ := r628
    have e632 : k1_1 = fZ H627 1 1 := ek1_1.trans w629.symm
    have m633 : kpN (w + 1) (w + 6) H H627 := kpN_t mkfr m630
    refine g_aload_n rfl ?_
    refine g_iload rfl ?_
    refine g_invvv hIH627 hw0 rfl rfl rfl rfl (w_102 w hw v513 H627 hIH627 hJH627 p631) (fun H634 r635 => ?_)
    obtain ⟨hIH634, hJH634, w636, m637, p638⟩ := r635
    have e639 : k1_1 = fZ H634 1 1 := e632.trans w636.symm
    have m640 : kpN (w + 1) (w + 6) H H634 := kpN_t m633 m637
    refine g_goto ?_
    exact g_ret ⟨rfl, hIH634, hJH634, (e639.symm.trans ek1_1), m640, (by rw [← zv519, ← zv513, ← zv514]; rw [cq_9 (by first | with_reducible assumption | omega)]; rw [show ((v513.toInt.toNat : Nat) : Int) = v513.toInt by omega]; exact p638)⟩
set_option maxRecDepth 4000 in
set_option maxHeartbeats 4000000 in
/-- X8.look -/
theorem w_93 {s : pS} (w : Nat) (hw : zWo w) (a2 : Int32) (ha2 : 0 ≤ a2.toInt ∧ a2.toInt ≤ 59) (a3 : Int32) (ha3 : 0 ≤ a3.toInt ∧ a3.toInt ≤ 999) (H : mzH) (hI : gI SX H) (hJ : JX H) (hp0 : wdX H w s) (hp1 : laB s) (hp2 : kdB s) (hp3 : (0 ≤ (aZ H 7 a2.toInt.toNat).toInt ∧ (aZ H 7 a2.toInt.toNat).toInt ≤ 10)) : gCall 93 [.ref w, .ref 3, .int a2, .int a3] H (gRi (fun v H' => gI SX H' ∧ JX H' ∧ fZ H' 1 1 = fZ H 1 1 ∧ kpN (w + 1) (w + 6) H H' ∧ wdX H' w (lkS s (wyX H) (fZ H 3 10).toInt (fZ H 3 11).toInt (aZ H 7 a2.toInt.toNat).toInt (aZ H 8 a2.toInt.toNat).toInt.toNat (aZ H 9 a2.toInt.toNat).toInt (aZ H 10 a2.toInt.toNat).toInt a3.toInt) ∧ v.toInt = obj s (wyX H) (fZ H 3 10).toInt (fZ H 3 11).toInt (aZ H 7 a2.toInt.toNat).toInt (aZ H 8 a2.toInt.toNat).toInt.toNat (aZ H 9 a2.toInt.toNat).toInt a3.toInt)) := by
  obtain ⟨hwr, hw0, hw1, hw2, hw3, hw4, hw5, hw6⟩ := id hw
  obtain ⟨k1_1, ek1_1⟩ : ∃ z, z = fZ H 1 1 := ⟨_, rfl⟩
  have ik1_1 : k1_1.toInt = (fZ H 1 1).toInt := by rw [← ek1_1]
  have bk1_1 : 0 ≤ k1_1.toInt ∧ k1_1.toInt ≤ 900 := by rw [ek1_1]; exact fZ_of hI sx_1 rfl
  have mkfr : kpN (w + 1) (w + 6) H H := kpN_r
  refine gG_call [(0, .ref w), (1, .ref 3), (2, .int a2), (3, .int a3)] ⟨rfl, rfl, rfl, rfl, trivial⟩ ?_
  show gG 7 zB_93 (mzBlk zB_93 0) [(0, .ref w), (1, .ref 3), (2, .int a2), (3, .int a3)] [] H 0 0 _
  refine g_aload_n rfl ?_
  refine g_aload_n rfl ?_
  refine g_iload_n rfl ?_
  refine g_iload_n rfl ?_
  refine g_invvi hI hw0 rfl rfl rfl rfl (w_94 w hw a2 (by first | with_reducible assumption | omega) a3 (by first | with_reducible assumption | omega) H hI hJ hp0 hp1 hp2 hp3) (fun v215 H213 r214 => ?_)
  obtain ⟨rfl, p216⟩ := r214
  refine g_istore (l' := [(0, .ref w), (1, .ref 3), (2, .int a2), (3, .int a3), (4, .int v215)]) rfl rfl ?_
  refine g_aload_n rfl ?_
  refine g_gfr hI sx_3 rfl ?_
  refine g_iload_n rfl ?_
  refine g_iaload hI sx_8 rfl (by first | with_reducible assumption | omega) (fun v217 ev217 lv217 uv217 => ?_)
  have zv217 : v217.toInt = (aZ H 8 a2.toInt.toNat).toInt := by rw [ev217]
  refine g_istore (l' := [(0, .ref w), (1, .ref 3), (2, .int a2), (3, .int a3), (4, .int v215), (5, .int v217)]) rfl rfl ?_
  refine g_aload_n rfl ?_
  refine g_gfr hI sx_3 rfl ?_
  refine g_iload_n rfl ?_
  refine g_iaload hI sx_7 rfl (by first | with_reducible assumption | omega) (fun v218 ev218 lv218 uv218 => ?_)
  have zv218 : v218.toInt = (aZ H 7 a2.toInt.toNat).toInt := by rw [ev218]
  refine g_istore (l' := [(0, .ref w), (1, .ref 3), (2, .int a2), (3, .int a3), (4, .int v215), (5, .int v217), (6, .int v218)]) rfl rfl ?_
  refine g_iload rfl ?_
  refine g_if_ne (fun c219 => ?_) (fun c219 => ?_)
  · refine g_iload rfl ?_
    refine g_if_ne (fun c220 => ?_) (fun c220 => ?_)
    · refine g_iload rfl ?_
      refine g_bipush (by decide) (fun v221 kv221 => ?_)
      refine g_if2_ne (fun c222 => ?_) (fun c222 => ?_)
      · refine g_iload rfl ?_
        exact g_iret ⟨_, rfl, hI, hJ, (ek1_1.symm.trans ek1_1), mkfr, (by rw [lk_n (by first | with_reducible assumption | omega) (by first | with_reducible assumption | omega)]; exact hp0), p216⟩
      · refine g_iload rfl ?_
        refine g_bipush (by decide) (fun v223 kv223 => ?_)
        refine g_if2_eq (fun c224 => ?_) (fun c224 => ?_)
        · refine g_aload_n rfl ?_
          refine g_iload rfl ?_
          refine g_bipush (by decide) (fun v225 kv225 => ?_)
          refine g_invvv hI hw0 rfl rfl rfl rfl (w_86 w hw v217 (by first | with_reducible assumption | omega) v225 H hI hJ hp0 (by first | with_reducible assumption | omega)) (fun H226 r227 => ?_)
          obtain ⟨hIH226, hJH226, w228, m229, p230⟩ := r227
          have e231 : k1_1 = fZ H226 1 1 := ek1_1.trans w228.symm
          have m232 : kpN (w + 1) (w + 6) H H226 := kpN_t mkfr m229
          rw [kv225, smk_8] at p230
          refine g_nop ?_
          refine g_iload rfl ?_
          exact g_iret ⟨_, rfl, hIH226, hJH226, (e231.symm.trans ek1_1), m232, (by rw [lk_q (by first | with_reducible assumption | omega) (by first | with_reducible assumption | omega), ← zv217]; exact p230), p216⟩
        · refine g_iload rfl ?_
          refine g_bipush (by decide) (fun v233 kv233 => ?_)
          refine g_if2_ne (fun c234 => ?_) (fun c234 => ?_)
          · refine g_iload rfl ?_
            exact g_iret ⟨_, rfl, hI, hJ, (ek1_1.symm.trans ek1_1), mkfr, (by rw [lk_n (by first | with_reducible assumption | omega) (by first | with_reducible assumption | omega)]; exact hp0), p216⟩
          · refine g_nop ?_
            refine g_aload_n rfl ?_
            refine g_iload rfl ?_
            refine g_bipush (by decide) (fun v235 kv235 => ?_)
            refine g_invvv hI hw0 rfl rfl rfl rfl (w_86 w hw v217 (by first | with_reducible assumption | omega) v235 H hI hJ hp0 (by first | with_reducible assumption | omega)) (fun H236 r237 => ?_)
            obtain ⟨hIH236, hJH236, w238, m239, p240⟩ := r237
            have e241 : k1_1 = fZ H236 1 1 := ek1_1.trans w238.symm
            have m242 : kpN (w + 1) (w + 6) H H236 := kpN_t mkfr m239
            rw [kv235, smk_8] at p240
            refine g_nop ?_
            refine g_iload rfl ?_
            exact g_iret ⟨_, rfl, hIH236, hJH236, (e241.symm.trans ek1_1), m242, (by rw [lk_q (by first | with_reducible assumption | omega) (by first | with_reducible assumption | omega), ← zv217]; exact p240), p216⟩
    · refine g_aload_n rfl ?_
      refine g_iload rfl ?_
      refine g_iconst (by decide) (fun v243 kv243 => ?_)
      refine g_invvi hI hw0 rfl rfl rfl rfl (w_85 w hw v217 (by first | with_reducible assumption | omega) v243 H hI hJ hp0 (by first | with_reducible assumption | omega)) (fun v246 H244 r245 => ?_)
      obtain ⟨rfl, bv246, p247⟩ := r245
      rw [kv243, mkb_4] at p247
      rw [zv217] at p247
      refine g_if_ne (fun c248 => ?_) (fun c248 => ?_)
      · refine g_iload rfl ?_
        refine g_bipush (by decide) (fun v249 kv249 => ?_)
        refine g_if2_ne (fun c250 => ?_) (fun c250 => ?_)
        · refine g_iload rfl ?_
          exact g_iret ⟨_, rfl, hI, hJ, (ek1_1.symm.trans ek1_1), mkfr, (by rw [lk_n (by first | with_reducible assumption | omega) (by first | with_reducible assumption | omega)]; exact hp0), p216⟩
        · exfalso; omega
      · refine g_aload_n rfl ?_
        refine g_iload rfl ?_
        refine g_bipush (by decide) (fun v251 kv251 => ?_)
        refine g_invvv hI hw0 rfl rfl rfl rfl (w_86 w hw v217 (by first | with_reducible assumption | omega) v251 H hI hJ hp0 (by first | with_reducible assumption | omega)) (fun H252 r253 => ?_)
        obtain ⟨hIH252, hJH252, w254, m255, p256⟩ := r253
        have e257 : k1_1 = fZ H252 1 1 := ek1_1.trans w254.symm
        have m258 : kpN (w + 1) (w + 6) H H252 := kpN_t mkfr m255
        rw [kv251, smk_8] at p256
        refine g_goto ?_
        refine g_iload rfl ?_
        exact g_iret ⟨_, rfl, hIH252, hJH252, (e257.symm.trans ek1_1), m258, (by rw [lk_q (by first | with_reducible assumption | omega) (by first | with_reducible assumption | omega), ← zv217]; exact p256), p216⟩
  · refine g_aload_n rfl ?_
    refine g_aload_n rfl ?_
    refine g_iload_n rfl ?_
    refine g_iload_n rfl ?_
    refine g_invvv hI hw0 rfl rfl rfl rfl (w_98 w hw a2 (by first | with_reducible assumption | omega) a3 H hI hJ hp0 hp3) (fun H259 r260 => ?_)
    obtain ⟨hIH259, hJH259, w261, m262, p263⟩ := r260
    have e264 : k1_1 = fZ H259 1 1 := ek1_1.trans w261.symm
    have m265 : kpN (w + 1) (w + 6) H H259 := kpN_t mkfr m262
    refine g_goto ?_
    refine g_iload rfl ?_
    exact g_iret ⟨_, rfl, hIH259, hJH259, (e264.symm.trans ek1_1), m265, (by rw [lk_t (by first | with_reducible assumption | omega)]; exact p263), p216⟩
