/-- where what is made is topmost, the hour is an hour -/
def laT (s : pS) (md : Nat → Int) : Prop := ∀ n, n < 40 → md n ≠ 0 → 0 ≤ s.la (tp s n) ∧ s.la (tp s n) ≤ 999
def fit (s : pS) (U C : Int) (m : Nat) : Int := if s.kd m = 1 then U else C
theorem fit_mk {H : mzH} {s : pS} {v x : Int32} {m : Nat} (e : v = aZ H 2 x.toInt.toNat) (hx : x.toInt = 3 + s.kd m - 1) (hk : s.kd m = 1 ∨ s.kd m = 2) : v.toInt = fit s (aZ H 2 3).toInt (aZ H 2 4).toInt m := by
  unfold fit
  rcases hk with hk | hk
  · rw [if_pos hk, e, show x.toInt.toNat = 3 by omega]
  · rw [if_neg (by first | with_reducible assumption | omega), e, show x.toInt.toNat = 4 by omega]
/-- marks are 0 or 1 -/
def bt1 (s : pS) (md : Nat → Int) : Prop := ∀ n, n < 40 → 0 ≤ s.kd n
/-- the reference's reason -/
def rea (s : pS) (md : Nat → Int) (wy : Int → Int → Int) (U C ac : Int) (n : Nat) (ot hour : Int) : Int := if ac = 0 then md n else if md n = 0 ∨ (ac = 1 ∧ md ot.toNat = 0) then 2 else if ¬ s.en n = 0 ∨ (ac = 1 ∧ ¬ s.en ot.toNat = 0) then 3 else if ac = 1 ∧ s.kd ot.toNat ≠ s.kd n + 1 then 4 else if (ac = 1 ∧ s.ii n ≠ -5) ∨ (ac = 2 ∧ s.ii n = -5) then 5 else if ((1 ≤ ac ∧ ac ≤ 7) ∧ ¬ s.so (tp s n) = 0) ∨ (ac = 1 ∧ ¬ s.so (tp s ot.toNat) = 0) then 6 else if ac = 8 ∧ (s.ii n ≠ -5 ∨ s.so n = 0) then 6 else if ac = 1 ∧ (s.pl n ≠ s.pl (tp s ot.toNat) ∨ fit s U C ot.toNat ≤ hel s ((ot.toNat : Nat) : Int)) then 7 else if (ac = 3 ∧ (¬ s.op n = 0 ∨ s.kd n = 0)) ∨ (ac = 4 ∧ s.op n = 0) then 8 else if (ac = 5 ∨ ac = 7 ∨ ac = 8) ∧ s.ii n ≠ -5 then 9 else if (ac = 5 ∨ ac = 6) ∧ ¬ soM s wy (tp s n) ot hour = 0 then 10 else if (ac = 1 ∨ ac = 7) ∧ ¬ qwi s ((n : Nat) : Int) = 0 then 11 else if ac = 10 ∧ s.he n = 0 then 12 else 0
theorem rea_u {s : pS} {md : Nat → Int} {wy : Int → Int → Int} {U C ac ot hour : Int} {n : Nat} : rea s md wy U C ac n ot hour = if ac = 0 then md n else if md n = 0 ∨ (ac = 1 ∧ md ot.toNat = 0) then 2 else if ¬ s.en n = 0 ∨ (ac = 1 ∧ ¬ s.en ot.toNat = 0) then 3 else if ac = 1 ∧ s.kd ot.toNat ≠ s.kd n + 1 then 4 else if (ac = 1 ∧ s.ii n ≠ -5) ∨ (ac = 2 ∧ s.ii n = -5) then 5 else if ((1 ≤ ac ∧ ac ≤ 7) ∧ ¬ s.so (tp s n) = 0) ∨ (ac = 1 ∧ ¬ s.so (tp s ot.toNat) = 0) then 6 else if ac = 8 ∧ (s.ii n ≠ -5 ∨ s.so n = 0) then 6 else if ac = 1 ∧ (s.pl n ≠ s.pl (tp s ot.toNat) ∨ fit s U C ot.toNat ≤ hel s ((ot.toNat : Nat) : Int)) then 7 else if (ac = 3 ∧ (¬ s.op n = 0 ∨ s.kd n = 0)) ∨ (ac = 4 ∧ s.op n = 0) then 8 else if (ac = 5 ∨ ac = 7 ∨ ac = 8) ∧ s.ii n ≠ -5 then 9 else if (ac = 5 ∨ ac = 6) ∧ ¬ soM s wy (tp s n) ot hour = 0 then 10 else if (ac = 1 ∨ ac = 7) ∧ ¬ qwi s ((n : Nat) : Int) = 0 then 11 else if ac = 10 ∧ s.he n = 0 then 12 else 0 := rfl
set_option maxRecDepth 4000 in
set_option maxHeartbeats 4000000 in
/-- M.isOneOf -/
theorem r_190 (a1 : Int32) (a2 : Int32) (a3 : Int32) (a4 : Int32) (H : mzH) (hI : gI SM H) (hJ : JN H) : gCall 190 [.ref 0, .int a1, .int a2, .int a3, .int a4] H (gRi (fun v H' => H = H' ∧ (0 ≤ v.toInt ∧ v.toInt ≤ 1) ∧ ((v.toInt = 1 ∧ (a1.toInt = a2.toInt ∨ a1.toInt = a3.toInt ∨ a1.toInt = a4.toInt)) ∨ (v.toInt = 0 ∧ ¬ (a1.toInt = a2.toInt ∨ a1.toInt = a3.toInt ∨ a1.toInt = a4.toInt))))) := by
  refine gG_call [(0, .ref 0), (1, .int a1), (2, .int a2), (3, .int a3), (4, .int a4)] ⟨rfl, rfl, rfl, rfl, rfl, trivial⟩ ?_
  show gG 5 zB_190 (mzBlk zB_190 0) [(0, .ref 0), (1, .int a1), (2, .int a2), (3, .int a3), (4, .int a4)] [] H 0 0 _
  refine g_iload_n rfl ?_
  refine g_iload_n rfl ?_
  refine g_if2_eq (fun c29 => ?_) (fun c29 => ?_)
  · refine g_iconst (by decide) (fun v30 kv30 => ?_)
    refine g_goto ?_
    exact g_zret (by first | with_reducible assumption | omega) ⟨_, rfl, rfl, (by first | with_reducible assumption | omega), (by first | with_reducible assumption | omega)⟩
  · refine g_iload_n rfl ?_
    refine g_iload_n rfl ?_
    refine g_if2_eq (fun c31 => ?_) (fun c31 => ?_)
    · refine g_iconst (by decide) (fun v32 kv32 => ?_)
      refine g_goto ?_
      exact g_zret (by first | with_reducible assumption | omega) ⟨_, rfl, rfl, (by first | with_reducible assumption | omega), (by first | with_reducible assumption | omega)⟩
    · refine g_iload_n rfl ?_
      refine g_iload rfl ?_
      refine g_if2_ne (fun c33 => ?_) (fun c33 => ?_)
      · refine g_iconst (by decide) (fun v34 kv34 => ?_)
        refine g_nop ?_
        exact g_zret (by first | with_reducible assumption | omega) ⟨_, rfl, rfl, (by first | with_reducible assumption | omega), (by first | with_reducible assumption | omega)⟩
      · refine g_nop ?_
        refine g_iconst (by decide) (fun v35 kv35 => ?_)
        refine g_goto ?_
        exact g_zret (by first | with_reducible assumption | omega) ⟨_, rfl, rfl, (by first | with_reducible assumption | omega), (by first | with_reducible assumption | omega)⟩
set_option maxRecDepth 4000 in
set_option maxHeartbeats 4000000 in
/-- M.reason -/
theorem r_191 {s : pS} {md : Nat → Int} (a1 : Int32) (ha1 : 0 ≤ a1.toInt ∧ a1.toInt ≤ 59) (H : mzH) (hI : gI SM H) (hJ : JM H) (hp0 : rwX H s md) (hp1 : dpt s) (hp2 : laT s md) (hp3 : (0 ≤ (aZ H 18 a1.toInt.toNat).toInt ∧ (aZ H 18 a1.toInt.toNat).toInt ≤ 999)) (hp4 : bt1 s md) : gCall 191 [.ref 0, .int a1] H (gRi (fun v H' => H = H' ∧ v.toInt = rea s md (wyM H) (aZ H 2 3).toInt (aZ H 2 4).toInt (aZ H 2 (69 + 5 * a1.toInt + 1).toNat).toInt (aZ H 2 (69 + 5 * a1.toInt + 2).toNat).toInt.toNat (aZ H 2 (69 + 5 * a1.toInt + 3).toNat).toInt (aZ H 18 a1.toInt.toNat).toInt)) := by
  refine gG_call [(0, .ref 0), (1, .int a1)] ⟨rfl, rfl, trivial⟩ ?_
  show gG 7 zB_191 (mzBlk zB_191 0) [(0, .ref 0), (1, .int a1)] [] H 0 0 _
  refine g_aload_n rfl ?_
  refine g_iload_n rfl ?_
  refine g_iconst (by decide) (fun v1945 kv1945 => ?_)
  refine g_invvi hI sm_0 rfl rfl rfl rfl (s_181 a1 (by first | with_reducible assumption | omega) v1945 (by first | with_reducible assumption | omega) H hI (JM_n hJ)) (fun v1948 H1946 r1947 => ?_)
  obtain ⟨rfl, p1949⟩ := r1947
  have tv1948 : v1948 = aZ H 2 (69 + 5 * a1.toInt + 1).toNat := by rw [p1949, kv1945]
  have qv1948 := JN_w1 (JM_n hJ) (by first | with_reducible assumption | omega) tv1948
  have zv1948 : v1948.toInt = (aZ H 2 (69 + 5 * a1.toInt + 1).toNat).toInt := by rw [tv1948]
  refine g_istore_n (l' := [(0, .ref 0), (1, .int a1), (2, .int v1948)]) rfl rfl ?_
  refine g_aload_n rfl ?_
  refine g_iload_n rfl ?_
  refine g_iconst (by decide) (fun v1950 kv1950 => ?_)
  refine g_invvi hI sm_0 rfl rfl rfl rfl (s_181 a1 (by first | with_reducible assumption | omega) v1950 (by first | with_reducible assumption | omega) H hI (JM_n hJ)) (fun v1953 H1951 r1952 => ?_)
  obtain ⟨rfl, p1954⟩ := r1952
  have tv1953 : v1953 = aZ H 2 (69 + 5 * a1.toInt + 2).toNat := by rw [p1954, kv1950]
  have qv1953 := JN_w2 (JM_n hJ) (by first | with_reducible assumption | omega) tv1953
  have zv1953 : v1953.toInt = (aZ H 2 (69 + 5 * a1.toInt + 2).toNat).toInt := by rw [tv1953]
  refine g_istore_n (l' := [(0, .ref 0), (1, .int a1), (2, .int v1948), (3, .int v1953)]) rfl rfl ?_
  refine g_aload_n rfl ?_
  refine g_iload_n rfl ?_
  refine g_iconst (by decide) (fun v1955 kv1955 => ?_)
  refine g_invvi hI sm_0 rfl rfl rfl rfl (s_181 a1 (by first | with_reducible assumption | omega) v1955 (by first | with_reducible assumption | omega) H hI (JM_n hJ)) (fun v1958 H1956 r1957 => ?_)
  obtain ⟨rfl, p1959⟩ := r1957
  have tv1958 : v1958 = aZ H 2 (69 + 5 * a1.toInt + 3).toNat := by rw [p1959, kv1955]
  have qv1958 := JN_w3 (JM_n hJ) (by first | with_reducible assumption | omega) tv1948 tv1958
  have zv1958 : v1958.toInt = (aZ H 2 (69 + 5 * a1.toInt + 3).toNat).toInt := by rw [tv1958]
  refine g_istore (l' := [(0, .ref 0), (1, .int a1), (2, .int v1948), (3, .int v1953), (4, .int v1958)]) rfl rfl ?_
  refine g_iload_n rfl ?_
  refine g_iconst (by decide) (fun v1960 kv1960 => ?_)
  refine g_if2_ne (fun c1961 => ?_) (fun c1961 => ?_)
  · refine g_iconst (by decide) (fun v1962 kv1962 => ?_)
    refine g_nop ?_
    refine g_istore (l' := [(0, .ref 0), (1, .int a1), (2, .int v1948), (3, .int v1953), (4, .int v1958), (5, .int v1962)]) rfl rfl ?_
    refine g_iload_n rfl ?_
    refine g_if_ne (fun c1963 => ?_) (fun c1963 => ?_)
    · refine g_aload_n rfl ?_
      refine g_gfr hI sm_0 rfl ?_
      refine g_iload_n rfl ?_
      refine g_baload hI sm_7 rfl (by first | with_reducible assumption | omega) (fun v1964 ev1964 lv1964 uv1964 => ?_)
      have yv1964 : v1964.toInt = (aZ H 7 v1953.toInt.toNat).toInt := by rw [ev1964]
      have yv1964 : v1964.toInt = md v1953.toInt.toNat := by rw [ev1964]; exact (hp0 _ (by first | with_reducible assumption | omega)).1
      refine g_if_eq (fun c1965 => ?_) (fun c1965 => ?_)
      · refine g_iconst (by decide) (fun v1966 kv1966 => ?_)
        exact g_iret ⟨_, rfl, rfl, (by rw [← zv1948, ← zv1953, ← zv1958]; rw [rea_u, if_neg (by first | with_reducible assumption | omega), if_pos (by first | with_reducible assumption | omega)]; omega)⟩
      · refine g_iload rfl ?_
        refine g_if_eq (fun c1967 => ?_) (fun c1967 => ?_)
        · refine g_aload_n rfl ?_
          refine g_gfr hI sm_0 rfl ?_
          refine g_iload_n rfl ?_
          refine g_baload hI sm_16 rfl (by first | with_reducible assumption | omega) (fun v1968 ev1968 lv1968 uv1968 => ?_)
          have yv1968 : v1968.toInt = (s).en v1953.toInt.toNat := by rw [ev1968]; exact (hp0 _ (by first | with_reducible assumption | omega)).2.2.2.2.2.2.2.2.2
          refine g_if_ne (fun c1969 => ?_) (fun c1969 => ?_)
          · refine g_iconst (by decide) (fun v1970 kv1970 => ?_)
            exact g_iret ⟨_, rfl, rfl, (by rw [← zv1948, ← zv1953, ← zv1958]; rw [rea_u, if_neg (by first | with_reducible assumption | omega), if_neg (by first | with_reducible assumption | omega), if_pos (by first | with_reducible assumption | omega)]; omega)⟩
          · refine g_iload rfl ?_
            refine g_if_eq (fun c1971 => ?_) (fun c1971 => ?_)
            · refine g_iload rfl ?_
              refine g_if_eq (fun c1972 => ?_) (fun c1972 => ?_)
              · refine g_iload rfl ?_
                refine g_if_eq (fun c1973 => ?_) (fun c1973 => ?_)
                · refine g_iload_n rfl ?_
                  refine g_iconst (by decide) (fun v1974 kv1974 => ?_)
                  refine g_if2_ne (fun c1975 => ?_) (fun c1975 => ?_)
                  · refine g_iload_n rfl ?_
                    refine g_iconst (by decide) (fun v1976 kv1976 => ?_)
                    refine g_if2_lt (fun c1977 => ?_) (fun c1977 => ?_)
                    · exfalso; omega
                    · refine g_iload_n rfl ?_
                      refine g_bipush (by decide) (fun v1978 kv1978 => ?_)
                      refine g_if2_gt (fun c1979 => ?_) (fun c1979 => ?_)
                      · refine g_iconst (by decide) (fun v1980 kv1980 => ?_)
                        refine g_nop ?_
                        refine g_istore (l' := [(0, .ref 0), (1, .int a1), (2, .int v1948), (3, .int v1953), (4, .int v1958), (5, .int v1962), (6, .int v1980)]) rfl rfl ?_
                        refine g_iload rfl ?_
                        refine g_if_eq (fun c1981 => ?_) (fun c1981 => ?_)
                        · refine g_iload rfl ?_
                          refine g_if_eq (fun c1982 => ?_) (fun c1982 => ?_)
                          · refine g_iload_n rfl ?_
                            refine g_bipush (by decide) (fun v1983 kv1983 => ?_)
                            refine g_if2_ne (fun c1984 => ?_) (fun c1984 => ?_)
                            · refine g_iload rfl ?_
                              refine g_if_eq (fun c1985 => ?_) (fun c1985 => ?_)
                              · refine g_iload_n rfl ?_
                                refine g_iconst (by decide) (fun v1986 kv1986 => ?_)
                                refine g_if2_ne (fun c1987 => ?_) (fun c1987 => ?_)
                                · refine g_iload_n rfl ?_
                                  refine g_iconst (by decide) (fun v1988 kv1988 => ?_)
                                  refine g_if2_ne (fun c1989 => ?_) (fun c1989 => ?_)
                                  · refine g_aload_n rfl ?_
                                    refine g_iload_n rfl ?_
                                    refine g_iconst (by decide) (fun v1990 kv1990 => ?_)
                                    refine g_bipush (by decide) (fun v1991 kv1991 => ?_)
                                    refine g_bipush (by decide) (fun v1992 kv1992 => ?_)
                                    refine g_invvi hI sm_0 rfl rfl rfl rfl (r_190 v1948 v1990 v1991 v1992 H hI (JM_n hJ)) (fun v1995 H1993 r1994 => ?_)
                                    obtain ⟨rfl, bv1995, p1996⟩ := r1994
                                    refine g_if_eq (fun c1997 => ?_) (fun c1997 => ?_)
                                    · refine g_iload_n rfl ?_
                                      refine g_iconst (by decide) (fun v1998 kv1998 => ?_)
                                      refine g_if2_eq (fun c1999 => ?_) (fun c1999 => ?_)
                                      · exfalso; omega
                                      · refine g_iload_n rfl ?_
                                        refine g_bipush (by decide) (fun v2000 kv2000 => ?_)
                                        refine g_if2_ne (fun c2001 => ?_) (fun c2001 => ?_)
                                        · refine g_iload rfl ?_
                                          refine g_if_ne (fun c2002 => ?_) (fun c2002 => ?_)
                                          · exfalso; omega
                                          · refine g_iload_n rfl ?_
                                            refine g_bipush (by decide) (fun v2003 kv2003 => ?_)
                                            refine g_if2_ne (fun c2004 => ?_) (fun c2004 => ?_)
                                            · refine g_iload_n rfl ?_
                                              refine g_bipush (by decide) (fun v2005 kv2005 => ?_)
                                              refine g_if2_ne (fun c2006 => ?_) (fun c2006 => ?_)
                                              · refine g_iconst (by decide) (fun v2007 kv2007 => ?_)
                                                refine g_nop ?_
                                                exact g_iret ⟨_, rfl, rfl, (by rw [← zv1948, ← zv1953, ← zv1958]; rw [rea_u, if_neg (by first | with_reducible assumption | omega), if_neg (by first | with_reducible assumption | omega), if_neg (by first | with_reducible assumption | omega), if_neg (by first | with_reducible assumption | omega), if_neg (by first | with_reducible assumption | omega), if_neg (by first | with_reducible assumption | omega), if_neg (by first | with_reducible assumption | omega), if_neg (by first | with_reducible assumption | omega), if_neg (by first | with_reducible assumption | omega), if_neg (by first | with_reducible assumption | omega), if_neg (by first | with_reducible assumption | omega), if_neg (by first | with_reducible assumption | omega), if_neg (by first | with_reducible assumption | omega)]; omega)⟩
                                              · refine g_aload_n rfl ?_
                                                refine g_gfr hI sm_0 rfl ?_
                                                refine g_iload_n rfl ?_
                                                refine g_baload hI sm_14 rfl (by first | with_reducible assumption | omega) (fun v2008 ev2008 lv2008 uv2008 => ?_)
                                                have yv2008 : v2008.toInt = (s).he v1953.toInt.toNat := by rw [ev2008]; exact (hp0 _ (by first | with_reducible assumption | omega)).2.2.2.2.2.2.2.1
                                                refine g_if_ne (fun c2009 => ?_) (fun c2009 => ?_)
                                                · refine g_iconst (by decide) (fun v2010 kv2010 => ?_)
                                                  refine g_nop ?_
                                                  exact g_iret ⟨_, rfl, rfl, (by rw [← zv1948, ← zv1953, ← zv1958]; rw [rea_u, if_neg (by first | with_reducible assumption | omega), if_neg (by first | with_reducible assumption | omega), if_neg (by first | with_reducible assumption | omega), if_neg (by first | with_reducible assumption | omega), if_neg (by first | with_reducible assumption | omega), if_neg (by first | with_reducible assumption | omega), if_neg (by first | with_reducible assumption | omega), if_neg (by first | with_reducible assumption | omega), if_neg (by first | with_reducible assumption | omega), if_neg (by first | with_reducible assumption | omega), if_neg (by first | with_reducible assumption | omega), if_neg (by first | with_reducible assumption | omega), if_neg (by first | with_reducible assumption | omega)]; omega)⟩
                                                · refine g_bipush (by decide) (fun v2011 kv2011 => ?_)
                                                  refine g_goto ?_
                                                  exact g_iret ⟨_, rfl, rfl, (by rw [← zv1948, ← zv1953, ← zv1958]; rw [rea_u, if_neg (by first | with_reducible assumption | omega), if_neg (by first | with_reducible assumption | omega), if_neg (by first | with_reducible assumption | omega), if_neg (by first | with_reducible assumption | omega), if_neg (by first | with_reducible assumption | omega), if_neg (by first | with_reducible assumption | omega), if_neg (by first | with_reducible assumption | omega), if_neg (by first | with_reducible assumption | omega), if_neg (by first | with_reducible assumption | omega), if_neg (by first | with_reducible assumption | omega), if_neg (by first | with_reducible assumption | omega), if_neg (by first | with_reducible assumption | omega), if_pos (by first | with_reducible assumption | omega)]; omega)⟩
                                            · exfalso; omega
                                        · exfalso; omega
                                    · refine g_aload_n rfl ?_
                                      refine g_gfr hI sm_0 rfl ?_
                                      refine g_iload_n rfl ?_
                                      refine g_iaload hI sm_9 rfl (by first | with_reducible assumption | omega) (fun v2012 ev2012 lv2012 uv2012 => ?_)
                                      have qv2012 := JM_in hJ (by first | with_reducible assumption | omega) ev2012
                                      have yv2012 : v2012.toInt = (aZ H 9 v1953.toInt.toNat).toInt := by rw [ev2012]
                                      have yv2012 : v2012.toInt = (s).ii v1953.toInt.toNat := by rw [ev2012]; exact (hp0 _ (by first | with_reducible assumption | omega)).2.2.1
                                      refine g_bipush (by decide) (fun v2013 kv2013 => ?_)
                                      refine g_if2_eq (fun c2014 => ?_) (fun c2014 => ?_)
                                      · refine g_iload_n rfl ?_
                                        refine g_iconst (by decide) (fun v2015 kv2015 => ?_)
                                        refine g_if2_eq (fun c2016 => ?_) (fun c2016 => ?_)
                                        · exfalso; omega
                                        · refine g_iload_n rfl ?_
                                          refine g_bipush (by decide) (fun v2017 kv2017 => ?_)
                                          refine g_if2_ne (fun c2018 => ?_) (fun c2018 => ?_)
                                          · refine g_iload rfl ?_
                                            refine g_if_ne (fun c2019 => ?_) (fun c2019 => ?_)
                                            · exfalso; omega
                                            · refine g_iload_n rfl ?_
                                              refine g_bipush (by decide) (fun v2020 kv2020 => ?_)
                                              refine g_if2_ne (fun c2021 => ?_) (fun c2021 => ?_)
                                              · refine g_iload_n rfl ?_
                                                refine g_bipush (by decide) (fun v2022 kv2022 => ?_)
                                                refine g_if2_ne (fun c2023 => ?_) (fun c2023 => ?_)
                                                · refine g_iconst (by decide) (fun v2024 kv2024 => ?_)
                                                  refine g_nop ?_
                                                  exact g_iret ⟨_, rfl, rfl, (by rw [← zv1948, ← zv1953, ← zv1958]; rw [rea_u, if_neg (by first | with_reducible assumption | omega), if_neg (by first | with_reducible assumption | omega), if_neg (by first | with_reducible assumption | omega), if_neg (by first | with_reducible assumption | omega), if_neg (by first | with_reducible assumption | omega), if_neg (by first | with_reducible assumption | omega), if_neg (by first | with_reducible assumption | omega), if_neg (by first | with_reducible assumption | omega), if_neg (by first | with_reducible assumption | omega), if_neg (by first | with_reducible assumption | omega), if_neg (by first | with_reducible assumption | omega), if_neg (by first | with_reducible assumption | omega), if_neg (by first | with_reducible assumption | omega)]; omega)⟩
                                                · refine g_aload_n rfl ?_
                                                  refine g_gfr hI sm_0 rfl ?_
                                                  refine g_iload_n rfl ?_
                                                  refine g_baload hI sm_14 rfl (by first | with_reducible assumption | omega) (fun v2025 ev2025 lv2025 uv2025 => ?_)
                                                  have yv2025 : v2025.toInt = (s).he v1953.toInt.toNat := by rw [ev2025]; exact (hp0 _ (by first | with_reducible assumption | omega)).2.2.2.2.2.2.2.1
                                                  refine g_if_ne (fun c2026 => ?_) (fun c2026 => ?_)
                                                  · refine g_iconst (by decide) (fun v2027 kv2027 => ?_)
                                                    refine g_nop ?_
                                                    exact g_iret ⟨_, rfl, rfl, (by rw [← zv1948, ← zv1953, ← zv1958]; rw [rea_u, if_neg (by first | with_reducible assumption | omega), if_neg (by first | with_reducible assumption | omega), if_neg (by first | with_reducible assumption | omega), if_neg (by first | with_reducible assumption | omega), if_neg (by first | with_reducible assumption | omega), if_neg (by first | with_reducible assumption | omega), if_neg (by first | with_reducible assumption | omega), if_neg (by first | with_reducible assumption | omega), if_neg (by first | with_reducible assumption | omega), if_neg (by first | with_reducible assumption | omega), if_neg (by first | with_reducible assumption | omega), if_neg (by first | with_reducible assumption | omega), if_neg (by first | with_reducible assumption | omega)]; omega)⟩
                                                  · refine g_bipush (by decide) (fun v2028 kv2028 => ?_)
                                                    refine g_goto ?_
                                                    exact g_iret ⟨_, rfl, rfl, (by rw [← zv1948, ← zv1953, ← zv1958]; rw [rea_u, if_neg (by first | with_reducible assumption | omega), if_neg (by first | with_reducible assumption | omega), if_neg (by first | with_reducible assumption | omega), if_neg (by first | with_reducible assumption | omega), if_neg (by first | with_reducible assumption | omega), if_neg (by first | with_reducible assumption | omega), if_neg (by first | with_reducible assumption | omega), if_neg (by first | with_reducible assumption | omega), if_neg (by first | with_reducible assumption | omega), if_neg (by first | with_reducible assumption | omega), if_neg (by first | with_reducible assumption | omega), if_neg (by first | with_reducible assumption | omega), if_pos (by first | with_reducible assumption | omega)]; omega)⟩
                                              · exfalso; omega
                                          · exfalso; omega
                                      · refine g_bipush (by decide) (fun v2029 kv2029 => ?_)
                                        exact g_iret ⟨_, rfl, rfl, (by rw [← zv1948, ← zv1953, ← zv1958]; rw [rea_u, if_neg (by first | with_reducible assumption | omega), if_neg (by first | with_reducible assumption | omega), if_neg (by first | with_reducible assumption | omega), if_neg (by first | with_reducible assumption | omega), if_neg (by first | with_reducible assumption | omega), if_neg (by first | with_reducible assumption | omega), if_neg (by first | with_reducible assumption | omega), if_neg (by first | with_reducible assumption | omega), if_neg (by first | with_reducible assumption | omega), if_pos (by first | with_reducible assumption | omega)]; omega)⟩
                                  · exfalso; omega
                                · exfalso; omega
                              · exfalso; omega
                            · refine g_aload_n rfl ?_
                              refine g_gfr hI sm_0 rfl ?_
                              refine g_iload_n rfl ?_
                              refine g_iaload hI sm_9 rfl (by first | with_reducible assumption | omega) (fun v2030 ev2030 lv2030 uv2030 => ?_)
                              have qv2030 := JM_in hJ (by first | with_reducible assumption | omega) ev2030
                              have yv2030 : v2030.toInt = (aZ H 9 v1953.toInt.toNat).toInt := by rw [ev2030]
                              have yv2030 : v2030.toInt = (s).ii v1953.toInt.toNat := by rw [ev2030]; exact (hp0 _ (by first | with_reducible assumption | omega)).2.2.1
                              refine g_bipush (by decide) (fun v2031 kv2031 => ?_)
                              refine g_if2_ne (fun c2032 => ?_) (fun c2032 => ?_)
                              · refine g_bipush (by decide) (fun v2033 kv2033 => ?_)
                                exact g_iret ⟨_, rfl, rfl, (by rw [← zv1948, ← zv1953, ← zv1958]; rw [rea_u, if_neg (by first | with_reducible assumption | omega), if_neg (by first | with_reducible assumption | omega), if_neg (by first | with_reducible assumption | omega), if_neg (by first | with_reducible assumption | omega), if_neg (by first | with_reducible assumption | omega), if_neg (by first | with_reducible assumption | omega), if_pos (by first | with_reducible assumption | omega)]; omega)⟩
                              · refine g_aload_n rfl ?_
                                refine g_gfr hI sm_0 rfl ?_
                                refine g_iload_n rfl ?_
                                refine g_baload hI sm_15 rfl (by first | with_reducible assumption | omega) (fun v2034 ev2034 lv2034 uv2034 => ?_)
                                have yv2034 : v2034.toInt = (s).so v1953.toInt.toNat := by rw [ev2034]; exact (hp0 _ (by first | with_reducible assumption | omega)).2.2.2.2.2.2.2.2.1
                                refine g_if_ne (fun c2035 => ?_) (fun c2035 => ?_)
                                · refine g_iload rfl ?_
                                  refine g_if_eq (fun c2036 => ?_) (fun c2036 => ?_)
                                  · refine g_iload_n rfl ?_
                                    refine g_iconst (by decide) (fun v2037 kv2037 => ?_)
                                    refine g_if2_ne (fun c2038 => ?_) (fun c2038 => ?_)
                                    · refine g_iload_n rfl ?_
                                      refine g_iconst (by decide) (fun v2039 kv2039 => ?_)
                                      refine g_if2_ne (fun c2040 => ?_) (fun c2040 => ?_)
                                      · refine g_aload_n rfl ?_
                                        refine g_iload_n rfl ?_
                                        refine g_iconst (by decide) (fun v2041 kv2041 => ?_)
                                        refine g_bipush (by decide) (fun v2042 kv2042 => ?_)
                                        refine g_bipush (by decide) (fun v2043 kv2043 => ?_)
                                        refine g_invvi hI sm_0 rfl rfl rfl rfl (r_190 v1948 v2041 v2042 v2043 H hI (JM_n hJ)) (fun v2046 H2044 r2045 => ?_)
                                        obtain ⟨rfl, bv2046, p2047⟩ := r2045
                                        refine g_if_eq (fun c2048 => ?_) (fun c2048 => ?_)
                                        · refine g_iload_n rfl ?_
                                          refine g_iconst (by decide) (fun v2049 kv2049 => ?_)
                                          refine g_if2_eq (fun c2050 => ?_) (fun c2050 => ?_)
                                          · exfalso; omega
                                          · refine g_iload_n rfl ?_
                                            refine g_bipush (by decide) (fun v2051 kv2051 => ?_)
                                            refine g_if2_ne (fun c2052 => ?_) (fun c2052 => ?_)
                                            · refine g_iload rfl ?_
                                              refine g_if_ne (fun c2053 => ?_) (fun c2053 => ?_)
                                              · exfalso; omega
                                              · refine g_iload_n rfl ?_
                                                refine g_bipush (by decide) (fun v2054 kv2054 => ?_)
                                                refine g_if2_ne (fun c2055 => ?_) (fun c2055 => ?_)
                                                · refine g_iload_n rfl ?_
                                                  refine g_bipush (by decide) (fun v2056 kv2056 => ?_)
                                                  refine g_if2_ne (fun c2057 => ?_) (fun c2057 => ?_)
                                                  · refine g_iconst (by decide) (fun v2058 kv2058 => ?_)
                                                    refine g_nop ?_
                                                    exact g_iret ⟨_, rfl, rfl, (by rw [← zv1948, ← zv1953, ← zv1958]; rw [rea_u, if_neg (by first | with_reducible assumption | omega), if_neg (by first | with_reducible assumption | omega), if_neg (by first | with_reducible assumption | omega), if_neg (by first | with_reducible assumption | omega), if_neg (by first | with_reducible assumption | omega), if_neg (by first | with_reducible assumption | omega), if_neg (by first | with_reducible assumption | omega), if_neg (by first | with_reducible assumption | omega), if_neg (by first | with_reducible assumption | omega), if_neg (by first | with_reducible assumption | omega), if_neg (by first | with_reducible assumption | omega), if_neg (by first | with_reducible assumption | omega), if_neg (by first | with_reducible assumption | omega)]; omega)⟩
                                                  · exfalso; omega
                                                · exfalso; omega
                                            · exfalso; omega
                                        · refine g_aload_n rfl ?_
                                          refine g_gfr hI sm_0 rfl ?_
                                          refine g_iload_n rfl ?_
                                          refine g_ialoadk hI sm_9 rfl (by first | with_reducible assumption | omega) ev2030 ?_
                                          refine g_bipush (by decide) (fun v2059 kv2059 => ?_)
                                          refine g_if2_eq (fun c2060 => ?_) (fun c2060 => ?_)
                                          · refine g_iload_n rfl ?_
                                            refine g_iconst (by decide) (fun v2061 kv2061 => ?_)
                                            refine g_if2_eq (fun c2062 => ?_) (fun c2062 => ?_)
                                            · exfalso; omega
                                            · refine g_iload_n rfl ?_
                                              refine g_bipush (by decide) (fun v2063 kv2063 => ?_)
                                              refine g_if2_ne (fun c2064 => ?_) (fun c2064 => ?_)
                                              · refine g_iload rfl ?_
                                                refine g_if_ne (fun c2065 => ?_) (fun c2065 => ?_)
                                                · exfalso; omega
                                                · refine g_iload_n rfl ?_
                                                  refine g_bipush (by decide) (fun v2066 kv2066 => ?_)
                                                  refine g_if2_ne (fun c2067 => ?_) (fun c2067 => ?_)
                                                  · refine g_iload_n rfl ?_
                                                    refine g_bipush (by decide) (fun v2068 kv2068 => ?_)
                                                    refine g_if2_ne (fun c2069 => ?_) (fun c2069 => ?_)
                                                    · refine g_iconst (by decide) (fun v2070 kv2070 => ?_)
                                                      refine g_nop ?_
                                                      exact g_iret ⟨_, rfl, rfl, (by rw [← zv1948, ← zv1953, ← zv1958]; rw [rea_u, if_neg (by first | with_reducible assumption | omega), if_neg (by first | with_reducible assumption | omega), if_neg (by first | with_reducible assumption | omega), if_neg (by first | with_reducible assumption | omega), if_neg (by first | with_reducible assumption | omega), if_neg (by first | with_reducible assumption | omega), if_neg (by first | with_reducible assumption | omega), if_neg (by first | with_reducible assumption | omega), if_neg (by first | with_reducible assumption | omega), if_neg (by first | with_reducible assumption | omega), if_neg (by first | with_reducible assumption | omega), if_neg (by first | with_reducible assumption | omega), if_neg (by first | with_reducible assumption | omega)]; omega)⟩
                                                    · exfalso; omega
                                                  · exfalso; omega
                                              · exfalso; omega
                                          · exfalso; omega
                                      · exfalso; omega
                                    · exfalso; omega
                                  · exfalso; omega
                                · refine g_nop ?_
                                  refine g_bipush (by decide) (fun v2071 kv2071 => ?_)
                                  exact g_iret ⟨_, rfl, rfl, (by rw [← zv1948, ← zv1953, ← zv1958]; rw [rea_u, if_neg (by first | with_reducible assumption | omega), if_neg (by first | with_reducible assumption | omega), if_neg (by first | with_reducible assumption | omega), if_neg (by first | with_reducible assumption | omega), if_neg (by first | with_reducible assumption | omega), if_neg (by first | with_reducible assumption | omega), if_pos (by first | with_reducible assumption | omega)]; omega)⟩
                          · exfalso; omega
                        · exfalso; omega
                      · refine g_iconst (by decide) (fun v2072 kv2072 => ?_)
                        refine g_goto ?_
                        refine g_istore (l' := [(0, .ref 0), (1, .int a1), (2, .int v1948), (3, .int v1953), (4, .int v1958), (5, .int v1962), (6, .int v2072)]) rfl rfl ?_
                        refine g_iload rfl ?_
                        refine g_if_eq (fun c2073 => ?_) (fun c2073 => ?_)
                        · exfalso; omega
                        · refine g_aload_n rfl ?_
                          refine g_gfr hI sm_0 rfl ?_
                          refine g_aload_n rfl ?_
                          refine g_iload_n rfl ?_
                          refine g_invvi hI sm_0 rfl rfl rfl rfl (r_185 v1953 (by first | with_reducible assumption | omega) H hI hJ hp0 hp1) (fun v2076 H2074 r2075 => ?_)
                          obtain ⟨rfl, bv2076, p2077⟩ := r2075
                          have tnv2076 : v2076.toInt.toNat = tp s v1953.toInt.toNat := by omega
                          refine g_baload hI sm_15 rfl (by first | with_reducible assumption | omega) (fun v2078 ev2078 lv2078 uv2078 => ?_)
                          have yv2078 : v2078.toInt = (s).so v2076.toInt.toNat := by rw [ev2078]; exact (hp0 _ (by first | with_reducible assumption | omega)).2.2.2.2.2.2.2.2.1
                          rw [tnv2076] at yv2078
                          refine g_if_ne (fun c2079 => ?_) (fun c2079 => ?_)
                          · refine g_bipush (by decide) (fun v2080 kv2080 => ?_)
                            exact g_iret ⟨_, rfl, rfl, (by rw [← zv1948, ← zv1953, ← zv1958]; rw [rea_u, if_neg (by first | with_reducible assumption | omega), if_neg (by first | with_reducible assumption | omega), if_neg (by first | with_reducible assumption | omega), if_neg (by first | with_reducible assumption | omega), if_neg (by first | with_reducible assumption | omega), if_pos (by first | with_reducible assumption | omega)]; omega)⟩
                          · refine g_nop ?_
                            refine g_iload rfl ?_
                            refine g_if_eq (fun c2081 => ?_) (fun c2081 => ?_)
                            · refine g_iload_n rfl ?_
                              refine g_bipush (by decide) (fun v2082 kv2082 => ?_)
                              refine g_if2_ne (fun c2083 => ?_) (fun c2083 => ?_)
                              · refine g_iload rfl ?_
                                refine g_if_eq (fun c2084 => ?_) (fun c2084 => ?_)
                                · refine g_iload_n rfl ?_
                                  refine g_iconst (by decide) (fun v2085 kv2085 => ?_)
                                  refine g_if2_ne (fun c2086 => ?_) (fun c2086 => ?_)
                                  · refine g_iload_n rfl ?_
                                    refine g_iconst (by decide) (fun v2087 kv2087 => ?_)
                                    refine g_if2_ne (fun c2088 => ?_) (fun c2088 => ?_)
                                    · refine g_aload_n rfl ?_
                                      refine g_iload_n rfl ?_
                                      refine g_iconst (by decide) (fun v2089 kv2089 => ?_)
                                      refine g_bipush (by decide) (fun v2090 kv2090 => ?_)
                                      refine g_bipush (by decide) (fun v2091 kv2091 => ?_)
                                      refine g_invvi hI sm_0 rfl rfl rfl rfl (r_190 v1948 v2089 v2090 v2091 H hI (JM_n hJ)) (fun v2094 H2092 r2093 => ?_)
                                      obtain ⟨rfl, bv2094, p2095⟩ := r2093
                                      refine g_if_eq (fun c2096 => ?_) (fun c2096 => ?_)
                                      · refine g_iload_n rfl ?_
                                        refine g_iconst (by decide) (fun v2097 kv2097 => ?_)
                                        refine g_if2_eq (fun c2098 => ?_) (fun c2098 => ?_)
                                        · refine g_aload_n rfl ?_
                                          refine g_iload_n rfl ?_
                                          refine g_iload rfl ?_
                                          refine g_aload_n rfl ?_
                                          refine g_gfr hI sm_0 rfl ?_
                                          refine g_iload_n rfl ?_
                                          refine g_iaload hI sm_18 rfl (by first | with_reducible assumption | omega) (fun v2099 ev2099 lv2099 uv2099 => ?_)
                                          have hzv2099 : v2099.toInt = (aZ H 18 a1.toInt.toNat).toInt := by rw [ev2099]
                                          have hbv2099 := hp3
                                          refine g_invvi hI sm_0 rfl rfl rfl rfl (r_189 v1953 (by first | with_reducible assumption | omega) v1958 (by first | with_reducible assumption | omega) v2099 (by first | with_reducible assumption | omega) H hI hJ hp0 hp1 (hp2 v1953.toInt.toNat (by first | with_reducible assumption | omega) (by first | with_reducible assumption | omega))) (fun v2102 H2100 r2101 => ?_)
                                          obtain ⟨rfl, bv2102, p2103⟩ := r2101
                                          rw [hzv2099] at p2103
                                          refine g_if_eq (fun c2104 => ?_) (fun c2104 => ?_)
                                          · refine g_iload rfl ?_
                                            refine g_if_ne (fun c2105 => ?_) (fun c2105 => ?_)
                                            · exfalso; omega
                                            · refine g_iload_n rfl ?_
                                              refine g_bipush (by decide) (fun v2106 kv2106 => ?_)
                                              refine g_if2_ne (fun c2107 => ?_) (fun c2107 => ?_)
                                              · refine g_iload_n rfl ?_
                                                refine g_bipush (by decide) (fun v2108 kv2108 => ?_)
                                                refine g_if2_ne (fun c2109 => ?_) (fun c2109 => ?_)
                                                · refine g_iconst (by decide) (fun v2110 kv2110 => ?_)
                                                  refine g_nop ?_
                                                  exact g_iret ⟨_, rfl, rfl, (by rw [← zv1948, ← zv1953, ← zv1958]; rw [rea_u, if_neg (by first | with_reducible assumption | omega), if_neg (by first | with_reducible assumption | omega), if_neg (by first | with_reducible assumption | omega), if_neg (by first | with_reducible assumption | omega), if_neg (by first | with_reducible assumption | omega), if_neg (by first | with_reducible assumption | omega), if_neg (by first | with_reducible assumption | omega), if_neg (by first | with_reducible assumption | omega), if_neg (by first | with_reducible assumption | omega), if_neg (by first | with_reducible assumption | omega), if_neg (by first | with_reducible assumption | omega), if_neg (by first | with_reducible assumption | omega), if_neg (by first | with_reducible assumption | omega)]; omega)⟩
                                                · exfalso; omega
                                              · exfalso; omega
                                          · refine g_bipush (by decide) (fun v2111 kv2111 => ?_)
                                            exact g_iret ⟨_, rfl, rfl, (by rw [← zv1948, ← zv1953, ← zv1958]; rw [rea_u, if_neg (by first | with_reducible assumption | omega), if_neg (by first | with_reducible assumption | omega), if_neg (by first | with_reducible assumption | omega), if_neg (by first | with_reducible assumption | omega), if_neg (by first | with_reducible assumption | omega), if_neg (by first | with_reducible assumption | omega), if_neg (by first | with_reducible assumption | omega), if_neg (by first | with_reducible assumption | omega), if_neg (by first | with_reducible assumption | omega), if_neg (by first | with_reducible assumption | omega), if_pos (by first | with_reducible assumption | omega)]; omega)⟩
                                        · refine g_iload_n rfl ?_
                                          refine g_bipush (by decide) (fun v2112 kv2112 => ?_)
                                          refine g_if2_ne (fun c2113 => ?_) (fun c2113 => ?_)
                                          · refine g_iload rfl ?_
                                            refine g_if_ne (fun c2114 => ?_) (fun c2114 => ?_)
                                            · exfalso; omega
                                            · refine g_iload_n rfl ?_
                                              refine g_bipush (by decide) (fun v2115 kv2115 => ?_)
                                              refine g_if2_ne (fun c2116 => ?_) (fun c2116 => ?_)
                                              · refine g_iload_n rfl ?_
                                                refine g_bipush (by decide) (fun v2117 kv2117 => ?_)
                                                refine g_if2_ne (fun c2118 => ?_) (fun c2118 => ?_)
                                                · refine g_iconst (by decide) (fun v2119 kv2119 => ?_)
                                                  refine g_nop ?_
                                                  exact g_iret ⟨_, rfl, rfl, (by rw [← zv1948, ← zv1953, ← zv1958]; rw [rea_u, if_neg (by first | with_reducible assumption | omega), if_neg (by first | with_reducible assumption | omega), if_neg (by first | with_reducible assumption | omega), if_neg (by first | with_reducible assumption | omega), if_neg (by first | with_reducible assumption | omega), if_neg (by first | with_reducible assumption | omega), if_neg (by first | with_reducible assumption | omega), if_neg (by first | with_reducible assumption | omega), if_neg (by first | with_reducible assumption | omega), if_neg (by first | with_reducible assumption | omega), if_neg (by first | with_reducible assumption | omega), if_neg (by first | with_reducible assumption | omega), if_neg (by first | with_reducible assumption | omega)]; omega)⟩
                                                · exfalso; omega
                                              · refine g_nop ?_
                                                refine g_aload_n rfl ?_
                                                refine g_iload_n rfl ?_
                                                refine g_invvi hI sm_0 rfl rfl rfl rfl (r_187 v1953 (by first | with_reducible assumption | omega) H hI hJ hp0 hp1) (fun v2122 H2120 r2121 => ?_)
                                                obtain ⟨rfl, bv2122, p2123⟩ := r2121
                                                have qnv2122 : qwi s v1953.toInt = qwi s ((v1953.toInt.toNat : Nat) : Int) := by rw [show ((v1953.toInt.toNat : Nat) : Int) = v1953.toInt by omega]
                                                refine g_if_eq (fun c2124 => ?_) (fun c2124 => ?_)
                                                · refine g_iload_n rfl ?_
                                                  refine g_bipush (by decide) (fun v2125 kv2125 => ?_)
                                                  refine g_if2_ne (fun c2126 => ?_) (fun c2126 => ?_)
                                                  · refine g_iconst (by decide) (fun v2127 kv2127 => ?_)
                                                    refine g_nop ?_
                                                    exact g_iret ⟨_, rfl, rfl, (by rw [← zv1948, ← zv1953, ← zv1958]; rw [rea_u, if_neg (by first | with_reducible assumption | omega), if_neg (by first | with_reducible assumption | omega), if_neg (by first | with_reducible assumption | omega), if_neg (by first | with_reducible assumption | omega), if_neg (by first | with_reducible assumption | omega), if_neg (by first | with_reducible assumption | omega), if_neg (by first | with_reducible assumption | omega), if_neg (by first | with_reducible assumption | omega), if_neg (by first | with_reducible assumption | omega), if_neg (by first | with_reducible assumption | omega), if_neg (by first | with_reducible assumption | omega), if_neg (by first | with_reducible assumption | omega), if_neg (by first | with_reducible assumption | omega)]; omega)⟩
                                                  · exfalso; omega
                                                · refine g_bipush (by decide) (fun v2128 kv2128 => ?_)
                                                  exact g_iret ⟨_, rfl, rfl, (by rw [← zv1948, ← zv1953, ← zv1958]; rw [rea_u, if_neg (by first | with_reducible assumption | omega), if_neg (by first | with_reducible assumption | omega), if_neg (by first | with_reducible assumption | omega), if_neg (by first | with_reducible assumption | omega), if_neg (by first | with_reducible assumption | omega), if_neg (by first | with_reducible assumption | omega), if_neg (by first | with_reducible assumption | omega), if_neg (by first | with_reducible assumption | omega), if_neg (by first | with_reducible assumption | omega), if_neg (by first | with_reducible assumption | omega), if_neg (by first | with_reducible assumption | omega), if_pos (by first | with_reducible assumption | omega)]; omega)⟩
                                          · refine g_nop ?_
                                            refine g_aload_n rfl ?_
                                            refine g_iload_n rfl ?_
                                            refine g_iload rfl ?_
                                            refine g_aload_n rfl ?_
                                            refine g_gfr hI sm_0 rfl ?_
                                            refine g_iload_n rfl ?_
                                            refine g_iaload hI sm_18 rfl (by first | with_reducible assumption | omega) (fun v2129 ev2129 lv2129 uv2129 => ?_)
                                            have hzv2129 : v2129.toInt = (aZ H 18 a1.toInt.toNat).toInt := by rw [ev2129]
                                            have hbv2129 := hp3
                                            refine g_invvi hI sm_0 rfl rfl rfl rfl (r_189 v1953 (by first | with_reducible assumption | omega) v1958 (by first | with_reducible assumption | omega) v2129 (by first | with_reducible assumption | omega) H hI hJ hp0 hp1 (hp2 v1953.toInt.toNat (by first | with_reducible assumption | omega) (by first | with_reducible assumption | omega))) (fun v2132 H2130 r2131 => ?_)
                                            obtain ⟨rfl, bv2132, p2133⟩ := r2131
                                            rw [hzv2129] at p2133
                                            refine g_if_eq (fun c2134 => ?_) (fun c2134 => ?_)
                                            · refine g_iload rfl ?_
                                              refine g_if_ne (fun c2135 => ?_) (fun c2135 => ?_)
                                              · exfalso; omega
                                              · refine g_iload_n rfl ?_
                                                refine g_bipush (by decide) (fun v2136 kv2136 => ?_)
                                                refine g_if2_ne (fun c2137 => ?_) (fun c2137 => ?_)
                                                · refine g_iload_n rfl ?_
                                                  refine g_bipush (by decide) (fun v2138 kv2138 => ?_)
                                                  refine g_if2_ne (fun c2139 => ?_) (fun c2139 => ?_)
                                                  · refine g_iconst (by decide) (fun v2140 kv2140 => ?_)
                                                    refine g_nop ?_
                                                    exact g_iret ⟨_, rfl, rfl, (by rw [← zv1948, ← zv1953, ← zv1958]; rw [rea_u, if_neg (by first | with_reducible assumption | omega), if_neg (by first | with_reducible assumption | omega), if_neg (by first | with_reducible assumption | omega), if_neg (by first | with_reducible assumption | omega), if_neg (by first | with_reducible assumption | omega), if_neg (by first | with_reducible assumption | omega), if_neg (by first | with_reducible assumption | omega), if_neg (by first | with_reducible assumption | omega), if_neg (by first | with_reducible assumption | omega), if_neg (by first | with_reducible assumption | omega), if_neg (by first | with_reducible assumption | omega), if_neg (by first | with_reducible assumption | omega), if_neg (by first | with_reducible assumption | omega)]; omega)⟩
                                                  · exfalso; omega
                                                · exfalso; omega
                                            · refine g_bipush (by decide) (fun v2141 kv2141 => ?_)
                                              exact g_iret ⟨_, rfl, rfl, (by rw [← zv1948, ← zv1953, ← zv1958]; rw [rea_u, if_neg (by first | with_reducible assumption | omega), if_neg (by first | with_reducible assumption | omega), if_neg (by first | with_reducible assumption | omega), if_neg (by first | with_reducible assumption | omega), if_neg (by first | with_reducible assumption | omega), if_neg (by first | with_reducible assumption | omega), if_neg (by first | with_reducible assumption | omega), if_neg (by first | with_reducible assumption | omega), if_neg (by first | with_reducible assumption | omega), if_neg (by first | with_reducible assumption | omega), if_pos (by first | with_reducible assumption | omega)]; omega)⟩
                                      · refine g_aload_n rfl ?_
                                        refine g_gfr hI sm_0 rfl ?_
                                        refine g_iload_n rfl ?_
                                        refine g_iaload hI sm_9 rfl (by first | with_reducible assumption | omega) (fun v2142 ev2142 lv2142 uv2142 => ?_)
                                        have qv2142 := JM_in hJ (by first | with_reducible assumption | omega) ev2142
                                        have yv2142 : v2142.toInt = (aZ H 9 v1953.toInt.toNat).toInt := by rw [ev2142]
                                        have yv2142 : v2142.toInt = (s).ii v1953.toInt.toNat := by rw [ev2142]; exact (hp0 _ (by first | with_reducible assumption | omega)).2.2.1
                                        refine g_bipush (by decide) (fun v2143 kv2143 => ?_)
                                        refine g_if2_eq (fun c2144 => ?_) (fun c2144 => ?_)
                                        · refine g_iload_n rfl ?_
                                          refine g_iconst (by decide) (fun v2145 kv2145 => ?_)
                                          refine g_if2_eq (fun c2146 => ?_) (fun c2146 => ?_)
                                          · refine g_aload_n rfl ?_
                                            refine g_iload_n rfl ?_
                                            refine g_iload rfl ?_
                                            refine g_aload_n rfl ?_
                                            refine g_gfr hI sm_0 rfl ?_
                                            refine g_iload_n rfl ?_
                                            refine g_iaload hI sm_18 rfl (by first | with_reducible assumption | omega) (fun v2147 ev2147 lv2147 uv2147 => ?_)
                                            have hzv2147 : v2147.toInt = (aZ H 18 a1.toInt.toNat).toInt := by rw [ev2147]
                                            have hbv2147 := hp3
                                            refine g_invvi hI sm_0 rfl rfl rfl rfl (r_189 v1953 (by first | with_reducible assumption | omega) v1958 (by first | with_reducible assumption | omega) v2147 (by first | with_reducible assumption | omega) H hI hJ hp0 hp1 (hp2 v1953.toInt.toNat (by first | with_reducible assumption | omega) (by first | with_reducible assumption | omega))) (fun v2150 H2148 r2149 => ?_)
                                            obtain ⟨rfl, bv2150, p2151⟩ := r2149
                                            rw [hzv2147] at p2151
                                            refine g_if_eq (fun c2152 => ?_) (fun c2152 => ?_)
                                            · refine g_iload rfl ?_
                                              refine g_if_ne (fun c2153 => ?_) (fun c2153 => ?_)
                                              · exfalso; omega
                                              · refine g_iload_n rfl ?_
                                                refine g_bipush (by decide) (fun v2154 kv2154 => ?_)
                                                refine g_if2_ne (fun c2155 => ?_) (fun c2155 => ?_)
                                                · refine g_iload_n rfl ?_
                                                  refine g_bipush (by decide) (fun v2156 kv2156 => ?_)
                                                  refine g_if2_ne (fun c2157 => ?_) (fun c2157 => ?_)
                                                  · refine g_iconst (by decide) (fun v2158 kv2158 => ?_)
                                                    refine g_nop ?_
                                                    exact g_iret ⟨_, rfl, rfl, (by rw [← zv1948, ← zv1953, ← zv1958]; rw [rea_u, if_neg (by first | with_reducible assumption | omega), if_neg (by first | with_reducible assumption | omega), if_neg (by first | with_reducible assumption | omega), if_neg (by first | with_reducible assumption | omega), if_neg (by first | with_reducible assumption | omega), if_neg (by first | with_reducible assumption | omega), if_neg (by first | with_reducible assumption | omega), if_neg (by first | with_reducible assumption | omega), if_neg (by first | with_reducible assumption | omega), if_neg (by first | with_reducible assumption | omega), if_neg (by first | with_reducible assumption | omega), if_neg (by first | with_reducible assumption | omega), if_neg (by first | with_reducible assumption | omega)]; omega)⟩
                                                  · exfalso; omega
                                                · exfalso; omega
                                            · refine g_bipush (by decide) (fun v2159 kv2159 => ?_)
                                              exact g_iret ⟨_, rfl, rfl, (by rw [← zv1948, ← zv1953, ← zv1958]; rw [rea_u, if_neg (by first | with_reducible assumption | omega), if_neg (by first | with_reducible assumption | omega), if_neg (by first | with_reducible assumption | omega), if_neg (by first | with_reducible assumption | omega), if_neg (by first | with_reducible assumption | omega), if_neg (by first | with_reducible assumption | omega), if_neg (by first | with_reducible assumption | omega), if_neg (by first | with_reducible assumption | omega), if_neg (by first | with_reducible assumption | omega), if_neg (by first | with_reducible assumption | omega), if_pos (by first | with_reducible assumption | omega)]; omega)⟩
                                          · refine g_iload_n rfl ?_
                                            refine g_bipush (by decide) (fun v2160 kv2160 => ?_)
                                            refine g_if2_ne (fun c2161 => ?_) (fun c2161 => ?_)
                                            · refine g_iload rfl ?_
                                              refine g_if_ne (fun c2162 => ?_) (fun c2162 => ?_)
                                              · exfalso; omega
                                              · refine g_iload_n rfl ?_
                                                refine g_bipush (by decide) (fun v2163 kv2163 => ?_)
                                                refine g_if2_ne (fun c2164 => ?_) (fun c2164 => ?_)
                                                · refine g_iload_n rfl ?_
                                                  refine g_bipush (by decide) (fun v2165 kv2165 => ?_)
                                                  refine g_if2_ne (fun c2166 => ?_) (fun c2166 => ?_)
                                                  · refine g_iconst (by decide) (fun v2167 kv2167 => ?_)
                                                    refine g_nop ?_
                                                    exact g_iret ⟨_, rfl, rfl, (by rw [← zv1948, ← zv1953, ← zv1958]; rw [rea_u, if_neg (by first | with_reducible assumption | omega), if_neg (by first | with_reducible assumption | omega), if_neg (by first | with_reducible assumption | omega), if_neg (by first | with_reducible assumption | omega), if_neg (by first | with_reducible assumption | omega), if_neg (by first | with_reducible assumption | omega), if_neg (by first | with_reducible assumption | omega), if_neg (by first | with_reducible assumption | omega), if_neg (by first | with_reducible assumption | omega), if_neg (by first | with_reducible assumption | omega), if_neg (by first | with_reducible assumption | omega), if_neg (by first | with_reducible assumption | omega), if_neg (by first | with_reducible assumption | omega)]; omega)⟩
                                                  · exfalso; omega
                                                · refine g_nop ?_
                                                  refine g_aload_n rfl ?_
                                                  refine g_iload_n rfl ?_
                                                  refine g_invvi hI sm_0 rfl rfl rfl rfl (r_187 v1953 (by first | with_reducible assumption | omega) H hI hJ hp0 hp1) (fun v2170 H2168 r2169 => ?_)
                                                  obtain ⟨rfl, bv2170, p2171⟩ := r2169
                                                  have qnv2170 : qwi s v1953.toInt = qwi s ((v1953.toInt.toNat : Nat) : Int) := by rw [show ((v1953.toInt.toNat : Nat) : Int) = v1953.toInt by omega]
                                                  refine g_if_eq (fun c2172 => ?_) (fun c2172 => ?_)
                                                  · refine g_iload_n rfl ?_
                                                    refine g_bipush (by decide) (fun v2173 kv2173 => ?_)
                                                    refine g_if2_ne (fun c2174 => ?_) (fun c2174 => ?_)
                                                    · refine g_iconst (by decide) (fun v2175 kv2175 => ?_)
                                                      refine g_nop ?_
                                                      exact g_iret ⟨_, rfl, rfl, (by rw [← zv1948, ← zv1953, ← zv1958]; rw [rea_u, if_neg (by first | with_reducible assumption | omega), if_neg (by first | with_reducible assumption | omega), if_neg (by first | with_reducible assumption | omega), if_neg (by first | with_reducible assumption | omega), if_neg (by first | with_reducible assumption | omega), if_neg (by first | with_reducible assumption | omega), if_neg (by first | with_reducible assumption | omega), if_neg (by first | with_reducible assumption | omega), if_neg (by first | with_reducible assumption | omega), if_neg (by first | with_reducible assumption | omega), if_neg (by first | with_reducible assumption | omega), if_neg (by first | with_reducible assumption | omega), if_neg (by first | with_reducible assumption | omega)]; omega)⟩
                                                    · exfalso; omega
                                                  · refine g_bipush (by decide) (fun v2176 kv2176 => ?_)
                                                    exact g_iret ⟨_, rfl, rfl, (by rw [← zv1948, ← zv1953, ← zv1958]; rw [rea_u, if_neg (by first | with_reducible assumption | omega), if_neg (by first | with_reducible assumption | omega), if_neg (by first | with_reducible assumption | omega), if_neg (by first | with_reducible assumption | omega), if_neg (by first | with_reducible assumption | omega), if_neg (by first | with_reducible assumption | omega), if_neg (by first | with_reducible assumption | omega), if_neg (by first | with_reducible assumption | omega), if_neg (by first | with_reducible assumption | omega), if_neg (by first | with_reducible assumption | omega), if_neg (by first | with_reducible assumption | omega), if_pos (by first | with_reducible assumption | omega)]; omega)⟩
                                            · refine g_nop ?_
                                              refine g_aload_n rfl ?_
                                              refine g_iload_n rfl ?_
                                              refine g_iload rfl ?_
                                              refine g_aload_n rfl ?_
                                              refine g_gfr hI sm_0 rfl ?_
                                              refine g_iload_n rfl ?_
                                              refine g_iaload hI sm_18 rfl (by first | with_reducible assumption | omega) (fun v2177 ev2177 lv2177 uv2177 => ?_)
                                              have hzv2177 : v2177.toInt = (aZ H 18 a1.toInt.toNat).toInt := by rw [ev2177]
                                              have hbv2177 := hp3
                                              refine g_invvi hI sm_0 rfl rfl rfl rfl (r_189 v1953 (by first | with_reducible assumption | omega) v1958 (by first | with_reducible assumption | omega) v2177 (by first | with_reducible assumption | omega) H hI hJ hp0 hp1 (hp2 v1953.toInt.toNat (by first | with_reducible assumption | omega) (by first | with_reducible assumption | omega))) (fun v2180 H2178 r2179 => ?_)
                                              obtain ⟨rfl, bv2180, p2181⟩ := r2179
                                              rw [hzv2177] at p2181
                                              refine g_if_eq (fun c2182 => ?_) (fun c2182 => ?_)
                                              · refine g_iload rfl ?_
                                                refine g_if_ne (fun c2183 => ?_) (fun c2183 => ?_)
                                                · exfalso; omega
                                                · refine g_iload_n rfl ?_
                                                  refine g_bipush (by decide) (fun v2184 kv2184 => ?_)
                                                  refine g_if2_ne (fun c2185 => ?_) (fun c2185 => ?_)
                                                  · refine g_iload_n rfl ?_
                                                    refine g_bipush (by decide) (fun v2186 kv2186 => ?_)
                                                    refine g_if2_ne (fun c2187 => ?_) (fun c2187 => ?_)
                                                    · refine g_iconst (by decide) (fun v2188 kv2188 => ?_)
                                                      refine g_nop ?_
                                                      exact g_iret ⟨_, rfl, rfl, (by rw [← zv1948, ← zv1953, ← zv1958]; rw [rea_u, if_neg (by first | with_reducible assumption | omega), if_neg (by first | with_reducible assumption | omega), if_neg (by first | with_reducible assumption | omega), if_neg (by first | with_reducible assumption | omega), if_neg (by first | with_reducible assumption | omega), if_neg (by first | with_reducible assumption | omega), if_neg (by first | with_reducible assumption | omega), if_neg (by first | with_reducible assumption | omega), if_neg (by first | with_reducible assumption | omega), if_neg (by first | with_reducible assumption | omega), if_neg (by first | with_reducible assumption | omega), if_neg (by first | with_reducible assumption | omega), if_neg (by first | with_reducible assumption | omega)]; omega)⟩
                                                    · exfalso; omega
                                                  · exfalso; omega
                                              · refine g_bipush (by decide) (fun v2189 kv2189 => ?_)
                                                exact g_iret ⟨_, rfl, rfl, (by rw [← zv1948, ← zv1953, ← zv1958]; rw [rea_u, if_neg (by first | with_reducible assumption | omega), if_neg (by first | with_reducible assumption | omega), if_neg (by first | with_reducible assumption | omega), if_neg (by first | with_reducible assumption | omega), if_neg (by first | with_reducible assumption | omega), if_neg (by first | with_reducible assumption | omega), if_neg (by first | with_reducible assumption | omega), if_neg (by first | with_reducible assumption | omega), if_neg (by first | with_reducible assumption | omega), if_neg (by first | with_reducible assumption | omega), if_pos (by first | with_reducible assumption | omega)]; omega)⟩
                                        · refine g_bipush (by decide) (fun v2190 kv2190 => ?_)
                                          exact g_iret ⟨_, rfl, rfl, (by rw [← zv1948, ← zv1953, ← zv1958]; rw [rea_u, if_neg (by first | with_reducible assumption | omega), if_neg (by first | with_reducible assumption | omega), if_neg (by first | with_reducible assumption | omega), if_neg (by first | with_reducible assumption | omega), if_neg (by first | with_reducible assumption | omega), if_neg (by first | with_reducible assumption | omega), if_neg (by first | with_reducible assumption | omega), if_neg (by first | with_reducible assumption | omega), if_neg (by first | with_reducible assumption | omega), if_pos (by first | with_reducible assumption | omega)]; omega)⟩
                                    · refine g_aload_n rfl ?_
                                      refine g_gfr hI sm_0 rfl ?_
                                      refine g_iload_n rfl ?_
                                      refine g_baload hI sm_13 rfl (by first | with_reducible assumption | omega) (fun v2191 ev2191 lv2191 uv2191 => ?_)
                                      have yv2191 : v2191.toInt = (s).op v1953.toInt.toNat := by rw [ev2191]; exact (hp0 _ (by first | with_reducible assumption | omega)).2.2.2.2.2.2.1
                                      refine g_if_ne (fun c2192 => ?_) (fun c2192 => ?_)
                                      · refine g_aload_n rfl ?_
                                        refine g_iload_n rfl ?_
                                        refine g_iconst (by decide) (fun v2193 kv2193 => ?_)
                                        refine g_bipush (by decide) (fun v2194 kv2194 => ?_)
                                        refine g_bipush (by decide) (fun v2195 kv2195 => ?_)
                                        refine g_invvi hI sm_0 rfl rfl rfl rfl (r_190 v1948 v2193 v2194 v2195 H hI (JM_n hJ)) (fun v2198 H2196 r2197 => ?_)
                                        obtain ⟨rfl, bv2198, p2199⟩ := r2197
                                        refine g_if_eq (fun c2200 => ?_) (fun c2200 => ?_)
                                        · refine g_iload_n rfl ?_
                                          refine g_iconst (by decide) (fun v2201 kv2201 => ?_)
                                          refine g_if2_eq (fun c2202 => ?_) (fun c2202 => ?_)
                                          · exfalso; omega
                                          · refine g_iload_n rfl ?_
                                            refine g_bipush (by decide) (fun v2203 kv2203 => ?_)
                                            refine g_if2_ne (fun c2204 => ?_) (fun c2204 => ?_)
                                            · refine g_iload rfl ?_
                                              refine g_if_ne (fun c2205 => ?_) (fun c2205 => ?_)
                                              · exfalso; omega
                                              · refine g_iload_n rfl ?_
                                                refine g_bipush (by decide) (fun v2206 kv2206 => ?_)
                                                refine g_if2_ne (fun c2207 => ?_) (fun c2207 => ?_)
                                                · refine g_iload_n rfl ?_
                                                  refine g_bipush (by decide) (fun v2208 kv2208 => ?_)
                                                  refine g_if2_ne (fun c2209 => ?_) (fun c2209 => ?_)
                                                  · refine g_iconst (by decide) (fun v2210 kv2210 => ?_)
                                                    refine g_nop ?_
                                                    exact g_iret ⟨_, rfl, rfl, (by rw [← zv1948, ← zv1953, ← zv1958]; rw [rea_u, if_neg (by first | with_reducible assumption | omega), if_neg (by first | with_reducible assumption | omega), if_neg (by first | with_reducible assumption | omega), if_neg (by first | with_reducible assumption | omega), if_neg (by first | with_reducible assumption | omega), if_neg (by first | with_reducible assumption | omega), if_neg (by first | with_reducible assumption | omega), if_neg (by first | with_reducible assumption | omega), if_neg (by first | with_reducible assumption | omega), if_neg (by first | with_reducible assumption | omega), if_neg (by first | with_reducible assumption | omega), if_neg (by first | with_reducible assumption | omega), if_neg (by first | with_reducible assumption | omega)]; omega)⟩
                                                  · exfalso; omega
                                                · exfalso; omega
                                            · exfalso; omega
                                        · refine g_aload_n rfl ?_
                                          refine g_gfr hI sm_0 rfl ?_
                                          refine g_iload_n rfl ?_
                                          refine g_iaload hI sm_9 rfl (by first | with_reducible assumption | omega) (fun v2211 ev2211 lv2211 uv2211 => ?_)
                                          have qv2211 := JM_in hJ (by first | with_reducible assumption | omega) ev2211
                                          have yv2211 : v2211.toInt = (aZ H 9 v1953.toInt.toNat).toInt := by rw [ev2211]
                                          have yv2211 : v2211.toInt = (s).ii v1953.toInt.toNat := by rw [ev2211]; exact (hp0 _ (by first | with_reducible assumption | omega)).2.2.1
                                          refine g_bipush (by decide) (fun v2212 kv2212 => ?_)
                                          refine g_if2_eq (fun c2213 => ?_) (fun c2213 => ?_)
                                          · refine g_iload_n rfl ?_
                                            refine g_iconst (by decide) (fun v2214 kv2214 => ?_)
                                            refine g_if2_eq (fun c2215 => ?_) (fun c2215 => ?_)
                                            · exfalso; omega
                                            · refine g_iload_n rfl ?_
                                              refine g_bipush (by decide) (fun v2216 kv2216 => ?_)
                                              refine g_if2_ne (fun c2217 => ?_) (fun c2217 => ?_)
                                              · refine g_iload rfl ?_
                                                refine g_if_ne (fun c2218 => ?_) (fun c2218 => ?_)
                                                · exfalso; omega
                                                · refine g_iload_n rfl ?_
                                                  refine g_bipush (by decide) (fun v2219 kv2219 => ?_)
                                                  refine g_if2_ne (fun c2220 => ?_) (fun c2220 => ?_)
                                                  · refine g_iload_n rfl ?_
                                                    refine g_bipush (by decide) (fun v2221 kv2221 => ?_)
                                                    refine g_if2_ne (fun c2222 => ?_) (fun c2222 => ?_)
                                                    · refine g_iconst (by decide) (fun v2223 kv2223 => ?_)
                                                      refine g_nop ?_
                                                      exact g_iret ⟨_, rfl, rfl, (by rw [← zv1948, ← zv1953, ← zv1958]; rw [rea_u, if_neg (by first | with_reducible assumption | omega), if_neg (by first | with_reducible assumption | omega), if_neg (by first | with_reducible assumption | omega), if_neg (by first | with_reducible assumption | omega), if_neg (by first | with_reducible assumption | omega), if_neg (by first | with_reducible assumption | omega), if_neg (by first | with_reducible assumption | omega), if_neg (by first | with_reducible assumption | omega), if_neg (by first | with_reducible assumption | omega), if_neg (by first | with_reducible assumption | omega), if_neg (by first | with_reducible assumption | omega), if_neg (by first | with_reducible assumption | omega), if_neg (by first | with_reducible assumption | omega)]; omega)⟩
                                                    · exfalso; omega
                                                  · exfalso; omega
                                              · exfalso; omega
                                          · refine g_bipush (by decide) (fun v2224 kv2224 => ?_)
                                            exact g_iret ⟨_, rfl, rfl, (by rw [← zv1948, ← zv1953, ← zv1958]; rw [rea_u, if_neg (by first | with_reducible assumption | omega), if_neg (by first | with_reducible assumption | omega), if_neg (by first | with_reducible assumption | omega), if_neg (by first | with_reducible assumption | omega), if_neg (by first | with_reducible assumption | omega), if_neg (by first | with_reducible assumption | omega), if_neg (by first | with_reducible assumption | omega), if_neg (by first | with_reducible assumption | omega), if_neg (by first | with_reducible assumption | omega), if_pos (by first | with_reducible assumption | omega)]; omega)⟩
                                      · refine g_nop ?_
                                        refine g_bipush (by decide) (fun v2225 kv2225 => ?_)
                                        exact g_iret ⟨_, rfl, rfl, (by rw [← zv1948, ← zv1953, ← zv1958]; rw [rea_u, if_neg (by first | with_reducible assumption | omega), if_neg (by first | with_reducible assumption | omega), if_neg (by first | with_reducible assumption | omega), if_neg (by first | with_reducible assumption | omega), if_neg (by first | with_reducible assumption | omega), if_neg (by first | with_reducible assumption | omega), if_neg (by first | with_reducible assumption | omega), if_neg (by first | with_reducible assumption | omega), if_pos (by first | with_reducible assumption | omega)]; omega)⟩
                                  · refine g_aload_n rfl ?_
                                    refine g_gfr hI sm_0 rfl ?_
                                    refine g_iload_n rfl ?_
                                    refine g_baload hI sm_13 rfl (by first | with_reducible assumption | omega) (fun v2226 ev2226 lv2226 uv2226 => ?_)
                                    have yv2226 : v2226.toInt = (s).op v1953.toInt.toNat := by rw [ev2226]; exact (hp0 _ (by first | with_reducible assumption | omega)).2.2.2.2.2.2.1
                                    refine g_if_ne (fun c2227 => ?_) (fun c2227 => ?_)
                                    · refine g_bipush (by decide) (fun v2228 kv2228 => ?_)
                                      exact g_iret ⟨_, rfl, rfl, (by rw [← zv1948, ← zv1953, ← zv1958]; rw [rea_u, if_neg (by first | with_reducible assumption | omega), if_neg (by first | with_reducible assumption | omega), if_neg (by first | with_reducible assumption | omega), if_neg (by first | with_reducible assumption | omega), if_neg (by first | with_reducible assumption | omega), if_neg (by first | with_reducible assumption | omega), if_neg (by first | with_reducible assumption | omega), if_neg (by first | with_reducible assumption | omega), if_pos (by first | with_reducible assumption | omega)]; omega)⟩
                                    · refine g_aload_n rfl ?_
                                      refine g_gfr hI sm_0 rfl ?_
                                      refine g_iload_n rfl ?_
                                      refine g_iaload hI sm_8 rfl (by first | with_reducible assumption | omega) (fun v2229 ev2229 lv2229 uv2229 => ?_)
                                      have yv2229 : v2229.toInt = (aZ H 8 v1953.toInt.toNat).toInt := by rw [ev2229]
                                      have yv2229 : v2229.toInt = (s).kd v1953.toInt.toNat := by rw [ev2229]; exact (hp0 _ (by first | with_reducible assumption | omega)).2.1
                                      refine g_if_eq (fun c2230 => ?_) (fun c2230 => ?_)
                                      · refine g_bipush (by decide) (fun v2231 kv2231 => ?_)
                                        exact g_iret ⟨_, rfl, rfl, (by rw [← zv1948, ← zv1953, ← zv1958]; rw [rea_u, if_neg (by first | with_reducible assumption | omega), if_neg (by first | with_reducible assumption | omega), if_neg (by first | with_reducible assumption | omega), if_neg (by first | with_reducible assumption | omega), if_neg (by first | with_reducible assumption | omega), if_neg (by first | with_reducible assumption | omega), if_neg (by first | with_reducible assumption | omega), if_neg (by first | with_reducible assumption | omega), if_pos (by first | with_reducible assumption | omega)]; omega)⟩
                                      · refine g_nop ?_
                                        refine g_iload_n rfl ?_
                                        refine g_iconst (by decide) (fun v2232 kv2232 => ?_)
                                        refine g_if2_ne (fun c2233 => ?_) (fun c2233 => ?_)
                                        · refine g_aload_n rfl ?_
                                          refine g_iload_n rfl ?_
                                          refine g_iconst (by decide) (fun v2234 kv2234 => ?_)
                                          refine g_bipush (by decide) (fun v2235 kv2235 => ?_)
                                          refine g_bipush (by decide) (fun v2236 kv2236 => ?_)
                                          refine g_invvi hI sm_0 rfl rfl rfl rfl (r_190 v1948 v2234 v2235 v2236 H hI (JM_n hJ)) (fun v2239 H2237 r2238 => ?_)
                                          obtain ⟨rfl, bv2239, p2240⟩ := r2238
                                          refine g_if_eq (fun c2241 => ?_) (fun c2241 => ?_)
                                          · refine g_iload_n rfl ?_
                                            refine g_iconst (by decide) (fun v2242 kv2242 => ?_)
                                            refine g_if2_eq (fun c2243 => ?_) (fun c2243 => ?_)
                                            · exfalso; omega
                                            · refine g_iload_n rfl ?_
                                              refine g_bipush (by decide) (fun v2244 kv2244 => ?_)
                                              refine g_if2_ne (fun c2245 => ?_) (fun c2245 => ?_)
                                              · refine g_iload rfl ?_
                                                refine g_if_ne (fun c2246 => ?_) (fun c2246 => ?_)
                                                · exfalso; omega
                                                · refine g_iload_n rfl ?_
                                                  refine g_bipush (by decide) (fun v2247 kv2247 => ?_)
                                                  refine g_if2_ne (fun c2248 => ?_) (fun c2248 => ?_)
                                                  · refine g_iload_n rfl ?_
                                                    refine g_bipush (by decide) (fun v2249 kv2249 => ?_)
                                                    refine g_if2_ne (fun c2250 => ?_) (fun c2250 => ?_)
                                                    · refine g_iconst (by decide) (fun v2251 kv2251 => ?_)
                                                      refine g_nop ?_
                                                      exact g_iret ⟨_, rfl, rfl, (by rw [← zv1948, ← zv1953, ← zv1958]; rw [rea_u, if_neg (by first | with_reducible assumption | omega), if_neg (by first | with_reducible assumption | omega), if_neg (by first | with_reducible assumption | omega), if_neg (by first | with_reducible assumption | omega), if_neg (by first | with_reducible assumption | omega), if_neg (by first | with_reducible assumption | omega), if_neg (by first | with_reducible assumption | omega), if_neg (by first | with_reducible assumption | omega), if_neg (by first | with_reducible assumption | omega), if_neg (by first | with_reducible assumption | omega), if_neg (by first | with_reducible assumption | omega), if_neg (by first | with_reducible assumption | omega), if_neg (by first | with_reducible assumption | omega)]; omega)⟩
                                                    · exfalso; omega
                                                  · exfalso; omega
                                              · exfalso; omega
                                          · refine g_aload_n rfl ?_
                                            refine g_gfr hI sm_0 rfl ?_
                                            refine g_iload_n rfl ?_
                                            refine g_iaload hI sm_9 rfl (by first | with_reducible assumption | omega) (fun v2252 ev2252 lv2252 uv2252 => ?_)
                                            have qv2252 := JM_in hJ (by first | with_reducible assumption | omega) ev2252
                                            have yv2252 : v2252.toInt = (aZ H 9 v1953.toInt.toNat).toInt := by rw [ev2252]
                                            have yv2252 : v2252.toInt = (s).ii v1953.toInt.toNat := by rw [ev2252]; exact (hp0 _ (by first | with_reducible assumption | omega)).2.2.1
                                            refine g_bipush (by decide) (fun v2253 kv2253 => ?_)
                                            refine g_if2_eq (fun c2254 => ?_) (fun c2254 => ?_)
                                            · refine g_iload_n rfl ?_
                                              refine g_iconst (by decide) (fun v2255 kv2255 => ?_)
                                              refine g_if2_eq (fun c2256 => ?_) (fun c2256 => ?_)
                                              · exfalso; omega
                                              · refine g_iload_n rfl ?_
                                                refine g_bipush (by decide) (fun v2257 kv2257 => ?_)
                                                refine g_if2_ne (fun c2258 => ?_) (fun c2258 => ?_)
                                                · refine g_iload rfl ?_
                                                  refine g_if_ne (fun c2259 => ?_) (fun c2259 => ?_)
                                                  · exfalso; omega
                                                  · refine g_iload_n rfl ?_
                                                    refine g_bipush (by decide) (fun v2260 kv2260 => ?_)
                                                    refine g_if2_ne (fun c2261 => ?_) (fun c2261 => ?_)
                                                    · refine g_iload_n rfl ?_
                                                      refine g_bipush (by decide) (fun v2262 kv2262 => ?_)
                                                      refine g_if2_ne (fun c2263 => ?_) (fun c2263 => ?_)
                                                      · refine g_iconst (by decide) (fun v2264 kv2264 => ?_)
                                                        refine g_nop ?_
                                                        exact g_iret ⟨_, rfl, rfl, (by rw [← zv1948, ← zv1953, ← zv1958]; rw [rea_u, if_neg (by first | with_reducible assumption | omega), if_neg (by first | with_reducible assumption | omega), if_neg (by first | with_reducible assumption | omega), if_neg (by first | with_reducible assumption | omega), if_neg (by first | with_reducible assumption | omega), if_neg (by first | with_reducible assumption | omega), if_neg (by first | with_reducible assumption | omega), if_neg (by first | with_reducible assumption | omega), if_neg (by first | with_reducible assumption | omega), if_neg (by first | with_reducible assumption | omega), if_neg (by first | with_reducible assumption | omega), if_neg (by first | with_reducible assumption | omega), if_neg (by first | with_reducible assumption | omega)]; omega)⟩
                                                      · exfalso; omega
                                                    · exfalso; omega
                                                · exfalso; omega
                                            · refine g_bipush (by decide) (fun v2265 kv2265 => ?_)
                                              exact g_iret ⟨_, rfl, rfl, (by rw [← zv1948, ← zv1953, ← zv1958]; rw [rea_u, if_neg (by first | with_reducible assumption | omega), if_neg (by first | with_reducible assumption | omega), if_neg (by first | with_reducible assumption | omega), if_neg (by first | with_reducible assumption | omega), if_neg (by first | with_reducible assumption | omega), if_neg (by first | with_reducible assumption | omega), if_neg (by first | with_reducible assumption | omega), if_neg (by first | with_reducible assumption | omega), if_neg (by first | with_reducible assumption | omega), if_pos (by first | with_reducible assumption | omega)]; omega)⟩
                                        · exfalso; omega
                                · exfalso; omega
                              · exfalso; omega
                            · exfalso; omega
                  · refine g_aload_n rfl ?_
                    refine g_gfr hI sm_0 rfl ?_
                    refine g_iload_n rfl ?_
                    refine g_iaload hI sm_9 rfl (by first | with_reducible assumption | omega) (fun v2266 ev2266 lv2266 uv2266 => ?_)
                    have qv2266 := JM_in hJ (by first | with_reducible assumption | omega) ev2266
                    have yv2266 : v2266.toInt = (aZ H 9 v1953.toInt.toNat).toInt := by rw [ev2266]
                    have yv2266 : v2266.toInt = (s).ii v1953.toInt.toNat := by rw [ev2266]; exact (hp0 _ (by first | with_reducible assumption | omega)).2.2.1
                    refine g_bipush (by decide) (fun v2267 kv2267 => ?_)
                    refine g_if2_ne (fun c2268 => ?_) (fun c2268 => ?_)
                    · refine g_iload_n rfl ?_
                      refine g_iconst (by decide) (fun v2269 kv2269 => ?_)
                      refine g_if2_lt (fun c2270 => ?_) (fun c2270 => ?_)
                      · exfalso; omega
                      · refine g_iload_n rfl ?_
                        refine g_bipush (by decide) (fun v2271 kv2271 => ?_)
                        refine g_if2_gt (fun c2272 => ?_) (fun c2272 => ?_)
                        · exfalso; omega
                        · refine g_iconst (by decide) (fun v2273 kv2273 => ?_)
                          refine g_goto ?_
                          refine g_istore (l' := [(0, .ref 0), (1, .int a1), (2, .int v1948), (3, .int v1953), (4, .int v1958), (5, .int v1962), (6, .int v2273)]) rfl rfl ?_
                          refine g_iload rfl ?_
                          refine g_if_eq (fun c2274 => ?_) (fun c2274 => ?_)
                          · exfalso; omega
                          · refine g_aload_n rfl ?_
                            refine g_gfr hI sm_0 rfl ?_
                            refine g_aload_n rfl ?_
                            refine g_iload_n rfl ?_
                            refine g_invvi hI sm_0 rfl rfl rfl rfl (r_185 v1953 (by first | with_reducible assumption | omega) H hI hJ hp0 hp1) (fun v2277 H2275 r2276 => ?_)
                            obtain ⟨rfl, bv2277, p2278⟩ := r2276
                            have tnv2277 : v2277.toInt.toNat = tp s v1953.toInt.toNat := by omega
                            refine g_baload hI sm_15 rfl (by first | with_reducible assumption | omega) (fun v2279 ev2279 lv2279 uv2279 => ?_)
                            have yv2279 : v2279.toInt = (s).so v2277.toInt.toNat := by rw [ev2279]; exact (hp0 _ (by first | with_reducible assumption | omega)).2.2.2.2.2.2.2.2.1
                            rw [tnv2277] at yv2279
                            refine g_if_ne (fun c2280 => ?_) (fun c2280 => ?_)
                            · refine g_bipush (by decide) (fun v2281 kv2281 => ?_)
                              exact g_iret ⟨_, rfl, rfl, (by rw [← zv1948, ← zv1953, ← zv1958]; rw [rea_u, if_neg (by first | with_reducible assumption | omega), if_neg (by first | with_reducible assumption | omega), if_neg (by first | with_reducible assumption | omega), if_neg (by first | with_reducible assumption | omega), if_neg (by first | with_reducible assumption | omega), if_pos (by first | with_reducible assumption | omega)]; omega)⟩
                            · refine g_nop ?_
                              refine g_iload rfl ?_
                              refine g_if_eq (fun c2282 => ?_) (fun c2282 => ?_)
                              · refine g_iload_n rfl ?_
                                refine g_bipush (by decide) (fun v2283 kv2283 => ?_)
                                refine g_if2_ne (fun c2284 => ?_) (fun c2284 => ?_)
                                · refine g_iload rfl ?_
                                  refine g_if_eq (fun c2285 => ?_) (fun c2285 => ?_)
                                  · refine g_iload_n rfl ?_
                                    refine g_iconst (by decide) (fun v2286 kv2286 => ?_)
                                    refine g_if2_ne (fun c2287 => ?_) (fun c2287 => ?_)
                                    · refine g_iload_n rfl ?_
                                      refine g_iconst (by decide) (fun v2288 kv2288 => ?_)
                                      refine g_if2_ne (fun c2289 => ?_) (fun c2289 => ?_)
                                      · refine g_aload_n rfl ?_
                                        refine g_iload_n rfl ?_
                                        refine g_iconst (by decide) (fun v2290 kv2290 => ?_)
                                        refine g_bipush (by decide) (fun v2291 kv2291 => ?_)
                                        refine g_bipush (by decide) (fun v2292 kv2292 => ?_)
                                        refine g_invvi hI sm_0 rfl rfl rfl rfl (r_190 v1948 v2290 v2291 v2292 H hI (JM_n hJ)) (fun v2295 H2293 r2294 => ?_)
                                        obtain ⟨rfl, bv2295, p2296⟩ := r2294
                                        refine g_if_eq (fun c2297 => ?_) (fun c2297 => ?_)
                                        · refine g_iload_n rfl ?_
                                          refine g_iconst (by decide) (fun v2298 kv2298 => ?_)
                                          refine g_if2_eq (fun c2299 => ?_) (fun c2299 => ?_)
                                          · exfalso; omega
                                          · refine g_iload_n rfl ?_
                                            refine g_bipush (by decide) (fun v2300 kv2300 => ?_)
                                            refine g_if2_ne (fun c2301 => ?_) (fun c2301 => ?_)
                                            · refine g_iload rfl ?_
                                              refine g_if_ne (fun c2302 => ?_) (fun c2302 => ?_)
                                              · exfalso; omega
                                              · refine g_iload_n rfl ?_
                                                refine g_bipush (by decide) (fun v2303 kv2303 => ?_)
                                                refine g_if2_ne (fun c2304 => ?_) (fun c2304 => ?_)
                                                · refine g_iload_n rfl ?_
                                                  refine g_bipush (by decide) (fun v2305 kv2305 => ?_)
                                                  refine g_if2_ne (fun c2306 => ?_) (fun c2306 => ?_)
                                                  · refine g_iconst (by decide) (fun v2307 kv2307 => ?_)
                                                    refine g_nop ?_
                                                    exact g_iret ⟨_, rfl, rfl, (by rw [← zv1948, ← zv1953, ← zv1958]; rw [rea_u, if_neg (by first | with_reducible assumption | omega), if_neg (by first | with_reducible assumption | omega), if_neg (by first | with_reducible assumption | omega), if_neg (by first | with_reducible assumption | omega), if_neg (by first | with_reducible assumption | omega), if_neg (by first | with_reducible assumption | omega), if_neg (by first | with_reducible assumption | omega), if_neg (by first | with_reducible assumption | omega), if_neg (by first | with_reducible assumption | omega), if_neg (by first | with_reducible assumption | omega), if_neg (by first | with_reducible assumption | omega), if_neg (by first | with_reducible assumption | omega), if_neg (by first | with_reducible assumption | omega)]; omega)⟩
                                                  · exfalso; omega
                                                · exfalso; omega
                                            · exfalso; omega
                                        · refine g_aload_n rfl ?_
                                          refine g_gfr hI sm_0 rfl ?_
                                          refine g_iload_n rfl ?_
                                          refine g_ialoadk hI sm_9 rfl (by first | with_reducible assumption | omega) ev2266 ?_
                                          refine g_bipush (by decide) (fun v2308 kv2308 => ?_)
                                          refine g_if2_eq (fun c2309 => ?_) (fun c2309 => ?_)
                                          · exfalso; omega
                                          · refine g_bipush (by decide) (fun v2310 kv2310 => ?_)
                                            exact g_iret ⟨_, rfl, rfl, (by rw [← zv1948, ← zv1953, ← zv1958]; rw [rea_u, if_neg (by first | with_reducible assumption | omega), if_neg (by first | with_reducible assumption | omega), if_neg (by first | with_reducible assumption | omega), if_neg (by first | with_reducible assumption | omega), if_neg (by first | with_reducible assumption | omega), if_neg (by first | with_reducible assumption | omega), if_neg (by first | with_reducible assumption | omega), if_neg (by first | with_reducible assumption | omega), if_neg (by first | with_reducible assumption | omega), if_pos (by first | with_reducible assumption | omega)]; omega)⟩
                                      · exfalso; omega
                                    · exfalso; omega
                                  · exfalso; omega
                                · exfalso; omega
                              · exfalso; omega
                    · refine g_nop ?_
                      refine g_iconst (by decide) (fun v2311 kv2311 => ?_)
                      exact g_iret ⟨_, rfl, rfl, (by rw [← zv1948, ← zv1953, ← zv1958]; rw [rea_u, if_neg (by first | with_reducible assumption | omega), if_neg (by first | with_reducible assumption | omega), if_neg (by first | with_reducible assumption | omega), if_neg (by first | with_reducible assumption | omega), if_pos (by first | with_reducible assumption | omega)]; omega)⟩
                · exfalso; omega
              · exfalso; omega
            · exfalso; omega
        · exfalso; omega
    · refine g_aload_n rfl ?_
      refine g_gfr hI sm_0 rfl ?_
      refine g_iload_n rfl ?_
      refine g_baload hI sm_7 rfl (by first | with_reducible assumption | omega) (fun v2312 ev2312 lv2312 uv2312 => ?_)
      have yv2312 : v2312.toInt = (aZ H 7 v1953.toInt.toNat).toInt := by rw [ev2312]
      have yv2312 : v2312.toInt = md v1953.toInt.toNat := by rw [ev2312]; exact (hp0 _ (by first | with_reducible assumption | omega)).1
      refine g_if_eq (fun c2313 => ?_) (fun c2313 => ?_)
      · refine g_iconst (by decide) (fun v2314 kv2314 => ?_)
        refine g_nop ?_
        exact g_iret ⟨_, rfl, rfl, (by rw [← zv1948, ← zv1953, ← zv1958]; rw [rea_u, if_pos (by first | with_reducible assumption | omega)]; omega)⟩
      · refine g_iconst (by decide) (fun v2315 kv2315 => ?_)
        refine g_goto ?_
        exact g_iret ⟨_, rfl, rfl, (by rw [← zv1948, ← zv1953, ← zv1958]; rw [rea_u, if_pos (by first | with_reducible assumption | omega)]; omega)⟩
  · refine g_iconst (by decide) (fun v2316 kv2316 => ?_)
    refine g_goto ?_
    refine g_istore (l' := [(0, .ref 0), (1, .int a1), (2, .int v1948), (3, .int v1953), (4, .int v1958), (5, .int v2316)]) rfl rfl ?_
    refine g_iload_n rfl ?_
    refine g_if_ne (fun c2317 => ?_) (fun c2317 => ?_)
    · refine g_aload_n rfl ?_
      refine g_gfr hI sm_0 rfl ?_
      refine g_iload_n rfl ?_
      refine g_baload hI sm_7 rfl (by first | with_reducible assumption | omega) (fun v2318 ev2318 lv2318 uv2318 => ?_)
      have yv2318 : v2318.toInt = (aZ H 7 v1953.toInt.toNat).toInt := by rw [ev2318]
      have yv2318 : v2318.toInt = md v1953.toInt.toNat := by rw [ev2318]; exact (hp0 _ (by first | with_reducible assumption | omega)).1
      refine g_if_eq (fun c2319 => ?_) (fun c2319 => ?_)
      · refine g_iconst (by decide) (fun v2320 kv2320 => ?_)
        exact g_iret ⟨_, rfl, rfl, (by rw [← zv1948, ← zv1953, ← zv1958]; rw [rea_u, if_neg (by first | with_reducible assumption | omega), if_pos (by first | with_reducible assumption | omega)]; omega)⟩
      · refine g_iload rfl ?_
        refine g_if_eq (fun c2321 => ?_) (fun c2321 => ?_)
        · exfalso; omega
        · refine g_aload_n rfl ?_
          refine g_gfr hI sm_0 rfl ?_
          refine g_iload rfl ?_
          refine g_baload hI sm_7 rfl (by first | with_reducible assumption | omega) (fun v2322 ev2322 lv2322 uv2322 => ?_)
          have yv2322 : v2322.toInt = (aZ H 7 v1958.toInt.toNat).toInt := by rw [ev2322]
          have yv2322 : v2322.toInt = md v1958.toInt.toNat := by rw [ev2322]; exact (hp0 _ (by first | with_reducible assumption | omega)).1
          refine g_if_ne (fun c2323 => ?_) (fun c2323 => ?_)
          · refine g_aload_n rfl ?_
            refine g_gfr hI sm_0 rfl ?_
            refine g_iload_n rfl ?_
            refine g_baload hI sm_16 rfl (by first | with_reducible assumption | omega) (fun v2324 ev2324 lv2324 uv2324 => ?_)
            have yv2324 : v2324.toInt = (s).en v1953.toInt.toNat := by rw [ev2324]; exact (hp0 _ (by first | with_reducible assumption | omega)).2.2.2.2.2.2.2.2.2
            refine g_if_ne (fun c2325 => ?_) (fun c2325 => ?_)
            · refine g_iconst (by decide) (fun v2326 kv2326 => ?_)
              exact g_iret ⟨_, rfl, rfl, (by rw [← zv1948, ← zv1953, ← zv1958]; rw [rea_u, if_neg (by first | with_reducible assumption | omega), if_neg (by first | with_reducible assumption | omega), if_pos (by first | with_reducible assumption | omega)]; omega)⟩
            · refine g_iload rfl ?_
              refine g_if_eq (fun c2327 => ?_) (fun c2327 => ?_)
              · exfalso; omega
              · refine g_aload_n rfl ?_
                refine g_gfr hI sm_0 rfl ?_
                refine g_iload rfl ?_
                refine g_baload hI sm_16 rfl (by first | with_reducible assumption | omega) (fun v2328 ev2328 lv2328 uv2328 => ?_)
                have yv2328 : v2328.toInt = (s).en v1958.toInt.toNat := by rw [ev2328]; exact (hp0 _ (by first | with_reducible assumption | omega)).2.2.2.2.2.2.2.2.2
                refine g_if_eq (fun c2329 => ?_) (fun c2329 => ?_)
                · refine g_iload rfl ?_
                  refine g_if_eq (fun c2330 => ?_) (fun c2330 => ?_)
                  · exfalso; omega
                  · refine g_aload_n rfl ?_
                    refine g_gfr hI sm_0 rfl ?_
                    refine g_iload rfl ?_
                    refine g_iaload hI sm_8 rfl (by first | with_reducible assumption | omega) (fun v2331 ev2331 lv2331 uv2331 => ?_)
                    have yv2331 : v2331.toInt = (aZ H 8 v1958.toInt.toNat).toInt := by rw [ev2331]
                    have yv2331 : v2331.toInt = (s).kd v1958.toInt.toNat := by rw [ev2331]; exact (hp0 _ (by first | with_reducible assumption | omega)).2.1
                    refine g_aload_n rfl ?_
                    refine g_gfr hI sm_0 rfl ?_
                    refine g_iload_n rfl ?_
                    refine g_iaload hI sm_8 rfl (by first | with_reducible assumption | omega) (fun v2332 ev2332 lv2332 uv2332 => ?_)
                    have yv2332 : v2332.toInt = (aZ H 8 v1953.toInt.toNat).toInt := by rw [ev2332]
                    have yv2332 : v2332.toInt = (s).kd v1953.toInt.toNat := by rw [ev2332]; exact (hp0 _ (by first | with_reducible assumption | omega)).2.1
                    refine g_iconst (by decide) (fun v2333 kv2333 => ?_)
                    refine g_iadd (by first | with_reducible assumption | omega) (fun v2334 ev2334 => ?_)
                    refine g_if2_eq (fun c2335 => ?_) (fun c2335 => ?_)
                    · refine g_iload rfl ?_
                      refine g_if_eq (fun c2336 => ?_) (fun c2336 => ?_)
                      · exfalso; omega
                      · refine g_aload_n rfl ?_
                        refine g_gfr hI sm_0 rfl ?_
                        refine g_iload_n rfl ?_
                        refine g_iaload hI sm_9 rfl (by first | with_reducible assumption | omega) (fun v2337 ev2337 lv2337 uv2337 => ?_)
                        have qv2337 := JM_in hJ (by first | with_reducible assumption | omega) ev2337
                        have yv2337 : v2337.toInt = (aZ H 9 v1953.toInt.toNat).toInt := by rw [ev2337]
                        have yv2337 : v2337.toInt = (s).ii v1953.toInt.toNat := by rw [ev2337]; exact (hp0 _ (by first | with_reducible assumption | omega)).2.2.1
                        refine g_bipush (by decide) (fun v2338 kv2338 => ?_)
                        refine g_if2_ne (fun c2339 => ?_) (fun c2339 => ?_)
                        · refine g_iconst (by decide) (fun v2340 kv2340 => ?_)
                          exact g_iret ⟨_, rfl, rfl, (by rw [← zv1948, ← zv1953, ← zv1958]; rw [rea_u, if_neg (by first | with_reducible assumption | omega), if_neg (by first | with_reducible assumption | omega), if_neg (by first | with_reducible assumption | omega), if_neg (by first | with_reducible assumption | omega), if_pos (by first | with_reducible assumption | omega)]; omega)⟩
                        · refine g_nop ?_
                          refine g_iload_n rfl ?_
                          refine g_iconst (by decide) (fun v2341 kv2341 => ?_)
                          refine g_if2_ne (fun c2342 => ?_) (fun c2342 => ?_)
                          · refine g_iload_n rfl ?_
                            refine g_iconst (by decide) (fun v2343 kv2343 => ?_)
                            refine g_if2_lt (fun c2344 => ?_) (fun c2344 => ?_)
                            · exfalso; omega
                            · refine g_iload_n rfl ?_
                              refine g_bipush (by decide) (fun v2345 kv2345 => ?_)
                              refine g_if2_gt (fun c2346 => ?_) (fun c2346 => ?_)
                              · exfalso; omega
                              · refine g_iconst (by decide) (fun v2347 kv2347 => ?_)
                                refine g_goto ?_
                                refine g_istore (l' := [(0, .ref 0), (1, .int a1), (2, .int v1948), (3, .int v1953), (4, .int v1958), (5, .int v2316), (6, .int v2347)]) rfl rfl ?_
                                refine g_iload rfl ?_
                                refine g_if_eq (fun c2348 => ?_) (fun c2348 => ?_)
                                · exfalso; omega
                                · refine g_aload_n rfl ?_
                                  refine g_gfr hI sm_0 rfl ?_
                                  refine g_aload_n rfl ?_
                                  refine g_iload_n rfl ?_
                                  refine g_invvi hI sm_0 rfl rfl rfl rfl (r_185 v1953 (by first | with_reducible assumption | omega) H hI hJ hp0 hp1) (fun v2351 H2349 r2350 => ?_)
                                  obtain ⟨rfl, bv2351, p2352⟩ := r2350
                                  have tnv2351 : v2351.toInt.toNat = tp s v1953.toInt.toNat := by omega
                                  refine g_baload hI sm_15 rfl (by first | with_reducible assumption | omega) (fun v2353 ev2353 lv2353 uv2353 => ?_)
                                  have yv2353 : v2353.toInt = (s).so v2351.toInt.toNat := by rw [ev2353]; exact (hp0 _ (by first | with_reducible assumption | omega)).2.2.2.2.2.2.2.2.1
                                  rw [tnv2351] at yv2353
                                  refine g_if_ne (fun c2354 => ?_) (fun c2354 => ?_)
                                  · refine g_bipush (by decide) (fun v2355 kv2355 => ?_)
                                    exact g_iret ⟨_, rfl, rfl, (by rw [← zv1948, ← zv1953, ← zv1958]; rw [rea_u, if_neg (by first | with_reducible assumption | omega), if_neg (by first | with_reducible assumption | omega), if_neg (by first | with_reducible assumption | omega), if_neg (by first | with_reducible assumption | omega), if_neg (by first | with_reducible assumption | omega), if_pos (by first | with_reducible assumption | omega)]; omega)⟩
                                  · refine g_nop ?_
                                    refine g_iload rfl ?_
                                    refine g_if_eq (fun c2356 => ?_) (fun c2356 => ?_)
                                    · exfalso; omega
                                    · refine g_aload_n rfl ?_
                                      refine g_gfr hI sm_0 rfl ?_
                                      refine g_aload_n rfl ?_
                                      refine g_iload rfl ?_
                                      refine g_invvi hI sm_0 rfl rfl rfl rfl (r_185 v1958 (by first | with_reducible assumption | omega) H hI hJ hp0 hp1) (fun v2359 H2357 r2358 => ?_)
                                      obtain ⟨rfl, bv2359, p2360⟩ := r2358
                                      have tnv2359 : v2359.toInt.toNat = tp s v1958.toInt.toNat := by omega
                                      refine g_baload hI sm_15 rfl (by first | with_reducible assumption | omega) (fun v2361 ev2361 lv2361 uv2361 => ?_)
                                      have yv2361 : v2361.toInt = (s).so v2359.toInt.toNat := by rw [ev2361]; exact (hp0 _ (by first | with_reducible assumption | omega)).2.2.2.2.2.2.2.2.1
                                      rw [tnv2359] at yv2361
                                      refine g_if_eq (fun c2362 => ?_) (fun c2362 => ?_)
                                      · refine g_iload_n rfl ?_
                                        refine g_bipush (by decide) (fun v2363 kv2363 => ?_)
                                        refine g_if2_ne (fun c2364 => ?_) (fun c2364 => ?_)
                                        · refine g_iload rfl ?_
                                          refine g_if_eq (fun c2365 => ?_) (fun c2365 => ?_)
                                          · exfalso; omega
                                          · refine g_aload_n rfl ?_
                                            refine g_gfr hI sm_0 rfl ?_
                                            refine g_iload_n rfl ?_
                                            refine g_iaload hI sm_10 rfl (by first | with_reducible assumption | omega) (fun v2366 ev2366 lv2366 uv2366 => ?_)
                                            have yv2366 : v2366.toInt = (s).pl v1953.toInt.toNat := by rw [ev2366]; exact (hp0 _ (by first | with_reducible assumption | omega)).2.2.2.1
                                            refine g_aload_n rfl ?_
                                            refine g_gfr hI sm_0 rfl ?_
                                            refine g_aload_n rfl ?_
                                            refine g_iload rfl ?_
                                            refine g_invvi hI sm_0 rfl rfl rfl rfl (r_185 v1958 (by first | with_reducible assumption | omega) H hI hJ hp0 hp1) (fun v2369 H2367 r2368 => ?_)
                                            obtain ⟨rfl, bv2369, p2370⟩ := r2368
                                            have tnv2369 : v2369.toInt.toNat = tp s v1958.toInt.toNat := by omega
                                            refine g_iaload hI sm_10 rfl (by first | with_reducible assumption | omega) (fun v2371 ev2371 lv2371 uv2371 => ?_)
                                            have yv2371 : v2371.toInt = (s).pl v2369.toInt.toNat := by rw [ev2371]; exact (hp0 _ (by first | with_reducible assumption | omega)).2.2.2.1
                                            rw [tnv2369] at yv2371
                                            refine g_if2_ne (fun c2372 => ?_) (fun c2372 => ?_)
                                            · refine g_bipush (by decide) (fun v2373 kv2373 => ?_)
                                              exact g_iret ⟨_, rfl, rfl, (by rw [← zv1948, ← zv1953, ← zv1958]; rw [rea_u, if_neg (by first | with_reducible assumption | omega), if_neg (by first | with_reducible assumption | omega), if_neg (by first | with_reducible assumption | omega), if_neg (by first | with_reducible assumption | omega), if_neg (by first | with_reducible assumption | omega), if_neg (by first | with_reducible assumption | omega), if_neg (by first | with_reducible assumption | omega), if_pos (by first | with_reducible assumption | omega)]; omega)⟩
                                            · refine g_aload_n rfl ?_
                                              refine g_iload rfl ?_
                                              refine g_invvi hI sm_0 rfl rfl rfl rfl (r_188 v1958 H hI (JM_n hJ) hp0) (fun v2376 H2374 r2375 => ?_)
                                              obtain ⟨rfl, p2377⟩ := r2375
                                              have hlv2376 : hel s v1958.toInt = hel s ((v1958.toInt.toNat : Nat) : Int) := by rw [show ((v1958.toInt.toNat : Nat) : Int) = v1958.toInt by omega]
                                              refine g_aload_n rfl ?_
                                              refine g_gfr hI sm_0 rfl ?_
                                              refine g_iconst (by decide) (fun v2378 kv2378 => ?_)
                                              refine g_aload_n rfl ?_
                                              refine g_gfr hI sm_0 rfl ?_
                                              refine g_iload rfl ?_
                                              refine g_ialoadk hI sm_8 rfl (by first | with_reducible assumption | omega) ev2331 ?_
                                              refine g_iadd (by first | with_reducible assumption | omega) (fun v2379 ev2379 => ?_)
                                              refine g_iconst (by decide) (fun v2380 kv2380 => ?_)
                                              refine g_isub (by first | with_reducible assumption | omega) (fun v2381 ev2381 => ?_)
                                              refine g_iaload hI sm_2 rfl (by first | with_reducible assumption | omega) (fun v2382 ev2382 lv2382 uv2382 => ?_)
                                              have fvv2382 : v2382.toInt = fit s (aZ H 2 3).toInt (aZ H 2 4).toInt v1958.toInt.toNat := fit_mk ev2382 (by first | with_reducible assumption | omega) (by first | with_reducible assumption | omega)
                                              refine g_if2_lt (fun c2383 => ?_) (fun c2383 => ?_)
                                              · refine g_iload_n rfl ?_
                                                refine g_iconst (by decide) (fun v2384 kv2384 => ?_)
                                                refine g_if2_ne (fun c2385 => ?_) (fun c2385 => ?_)
                                                · refine g_iload_n rfl ?_
                                                  refine g_iconst (by decide) (fun v2386 kv2386 => ?_)
                                                  refine g_if2_ne (fun c2387 => ?_) (fun c2387 => ?_)
                                                  · refine g_aload_n rfl ?_
                                                    refine g_iload_n rfl ?_
                                                    refine g_iconst (by decide) (fun v2388 kv2388 => ?_)
                                                    refine g_bipush (by decide) (fun v2389 kv2389 => ?_)
                                                    refine g_bipush (by decide) (fun v2390 kv2390 => ?_)
                                                    refine g_invvi hI sm_0 rfl rfl rfl rfl (r_190 v1948 v2388 v2389 v2390 H hI (JM_n hJ)) (fun v2393 H2391 r2392 => ?_)
                                                    obtain ⟨rfl, bv2393, p2394⟩ := r2392
                                                    refine g_if_eq (fun c2395 => ?_) (fun c2395 => ?_)
                                                    · refine g_iload_n rfl ?_
                                                      refine g_iconst (by decide) (fun v2396 kv2396 => ?_)
                                                      refine g_if2_eq (fun c2397 => ?_) (fun c2397 => ?_)
                                                      · exfalso; omega
                                                      · refine g_iload_n rfl ?_
                                                        refine g_bipush (by decide) (fun v2398 kv2398 => ?_)
                                                        refine g_if2_ne (fun c2399 => ?_) (fun c2399 => ?_)
                                                        · refine g_iload rfl ?_
                                                          refine g_if_ne (fun c2400 => ?_) (fun c2400 => ?_)
                                                          · refine g_aload_n rfl ?_
                                                            refine g_iload_n rfl ?_
                                                            refine g_invvi hI sm_0 rfl rfl rfl rfl (r_187 v1953 (by first | with_reducible assumption | omega) H hI hJ hp0 hp1) (fun v2403 H2401 r2402 => ?_)
                                                            obtain ⟨rfl, bv2403, p2404⟩ := r2402
                                                            have qnv2403 : qwi s v1953.toInt = qwi s ((v1953.toInt.toNat : Nat) : Int) := by rw [show ((v1953.toInt.toNat : Nat) : Int) = v1953.toInt by omega]
                                                            refine g_if_eq (fun c2405 => ?_) (fun c2405 => ?_)
                                                            · refine g_iload_n rfl ?_
                                                              refine g_bipush (by decide) (fun v2406 kv2406 => ?_)
                                                              refine g_if2_ne (fun c2407 => ?_) (fun c2407 => ?_)
                                                              · refine g_iconst (by decide) (fun v2408 kv2408 => ?_)
                                                                refine g_nop ?_
                                                                exact g_iret ⟨_, rfl, rfl, (by rw [← zv1948, ← zv1953, ← zv1958]; rw [rea_u, if_neg (by first | with_reducible assumption | omega), if_neg (by first | with_reducible assumption | omega), if_neg (by first | with_reducible assumption | omega), if_neg (by first | with_reducible assumption | omega), if_neg (by first | with_reducible assumption | omega), if_neg (by first | with_reducible assumption | omega), if_neg (by first | with_reducible assumption | omega), if_neg (by first | with_reducible assumption | omega), if_neg (by first | with_reducible assumption | omega), if_neg (by first | with_reducible assumption | omega), if_neg (by first | with_reducible assumption | omega), if_neg (by first | with_reducible assumption | omega), if_neg (by first | with_reducible assumption | omega)]; omega)⟩
                                                              · exfalso; omega
                                                            · refine g_bipush (by decide) (fun v2409 kv2409 => ?_)
                                                              exact g_iret ⟨_, rfl, rfl, (by rw [← zv1948, ← zv1953, ← zv1958]; rw [rea_u, if_neg (by first | with_reducible assumption | omega), if_neg (by first | with_reducible assumption | omega), if_neg (by first | with_reducible assumption | omega), if_neg (by first | with_reducible assumption | omega), if_neg (by first | with_reducible assumption | omega), if_neg (by first | with_reducible assumption | omega), if_neg (by first | with_reducible assumption | omega), if_neg (by first | with_reducible assumption | omega), if_neg (by first | with_reducible assumption | omega), if_neg (by first | with_reducible assumption | omega), if_neg (by first | with_reducible assumption | omega), if_pos (by first | with_reducible assumption | omega)]; omega)⟩
                                                          · exfalso; omega
                                                        · exfalso; omega
                                                    · refine g_aload_n rfl ?_
                                                      refine g_gfr hI sm_0 rfl ?_
                                                      refine g_iload_n rfl ?_
                                                      refine g_ialoadk hI sm_9 rfl (by first | with_reducible assumption | omega) ev2337 ?_
                                                      refine g_bipush (by decide) (fun v2410 kv2410 => ?_)
                                                      refine g_if2_eq (fun c2411 => ?_) (fun c2411 => ?_)
                                                      · refine g_iload_n rfl ?_
                                                        refine g_iconst (by decide) (fun v2412 kv2412 => ?_)
                                                        refine g_if2_eq (fun c2413 => ?_) (fun c2413 => ?_)
                                                        · exfalso; omega
                                                        · refine g_iload_n rfl ?_
                                                          refine g_bipush (by decide) (fun v2414 kv2414 => ?_)
                                                          refine g_if2_ne (fun c2415 => ?_) (fun c2415 => ?_)
                                                          · refine g_iload rfl ?_
                                                            refine g_if_ne (fun c2416 => ?_) (fun c2416 => ?_)
                                                            · refine g_aload_n rfl ?_
                                                              refine g_iload_n rfl ?_
                                                              refine g_invvi hI sm_0 rfl rfl rfl rfl (r_187 v1953 (by first | with_reducible assumption | omega) H hI hJ hp0 hp1) (fun v2419 H2417 r2418 => ?_)
                                                              obtain ⟨rfl, bv2419, p2420⟩ := r2418
                                                              have qnv2419 : qwi s v1953.toInt = qwi s ((v1953.toInt.toNat : Nat) : Int) := by rw [show ((v1953.toInt.toNat : Nat) : Int) = v1953.toInt by omega]
                                                              refine g_if_eq (fun c2421 => ?_) (fun c2421 => ?_)
                                                              · refine g_iload_n rfl ?_
                                                                refine g_bipush (by decide) (fun v2422 kv2422 => ?_)
                                                                refine g_if2_ne (fun c2423 => ?_) (fun c2423 => ?_)
                                                                · refine g_iconst (by decide) (fun v2424 kv2424 => ?_)
                                                                  refine g_nop ?_
                                                                  exact g_iret ⟨_, rfl, rfl, (by rw [← zv1948, ← zv1953, ← zv1958]; rw [rea_u, if_neg (by first | with_reducible assumption | omega), if_neg (by first | with_reducible assumption | omega), if_neg (by first | with_reducible assumption | omega), if_neg (by first | with_reducible assumption | omega), if_neg (by first | with_reducible assumption | omega), if_neg (by first | with_reducible assumption | omega), if_neg (by first | with_reducible assumption | omega), if_neg (by first | with_reducible assumption | omega), if_neg (by first | with_reducible assumption | omega), if_neg (by first | with_reducible assumption | omega), if_neg (by first | with_reducible assumption | omega), if_neg (by first | with_reducible assumption | omega), if_neg (by first | with_reducible assumption | omega)]; omega)⟩
                                                                · exfalso; omega
                                                              · refine g_bipush (by decide) (fun v2425 kv2425 => ?_)
                                                                exact g_iret ⟨_, rfl, rfl, (by rw [← zv1948, ← zv1953, ← zv1958]; rw [rea_u, if_neg (by first | with_reducible assumption | omega), if_neg (by first | with_reducible assumption | omega), if_neg (by first | with_reducible assumption | omega), if_neg (by first | with_reducible assumption | omega), if_neg (by first | with_reducible assumption | omega), if_neg (by first | with_reducible assumption | omega), if_neg (by first | with_reducible assumption | omega), if_neg (by first | with_reducible assumption | omega), if_neg (by first | with_reducible assumption | omega), if_neg (by first | with_reducible assumption | omega), if_neg (by first | with_reducible assumption | omega), if_pos (by first | with_reducible assumption | omega)]; omega)⟩
                                                            · exfalso; omega
                                                          · exfalso; omega
                                                      · exfalso; omega
                                                  · exfalso; omega
                                                · exfalso; omega
                                              · refine g_nop ?_
                                                refine g_bipush (by decide) (fun v2426 kv2426 => ?_)
                                                exact g_iret ⟨_, rfl, rfl, (by rw [← zv1948, ← zv1953, ← zv1958]; rw [rea_u, if_neg (by first | with_reducible assumption | omega), if_neg (by first | with_reducible assumption | omega), if_neg (by first | with_reducible assumption | omega), if_neg (by first | with_reducible assumption | omega), if_neg (by first | with_reducible assumption | omega), if_neg (by first | with_reducible assumption | omega), if_neg (by first | with_reducible assumption | omega), if_pos (by first | with_reducible assumption | omega)]; omega)⟩
                                        · exfalso; omega
                                      · refine g_nop ?_
                                        refine g_bipush (by decide) (fun v2427 kv2427 => ?_)
                                        exact g_iret ⟨_, rfl, rfl, (by rw [← zv1948, ← zv1953, ← zv1958]; rw [rea_u, if_neg (by first | with_reducible assumption | omega), if_neg (by first | with_reducible assumption | omega), if_neg (by first | with_reducible assumption | omega), if_neg (by first | with_reducible assumption | omega), if_neg (by first | with_reducible assumption | omega), if_pos (by first | with_reducible assumption | omega)]; omega)⟩
                          · exfalso; omega
                    · refine g_iconst (by decide) (fun v2428 kv2428 => ?_)
                      exact g_iret ⟨_, rfl, rfl, (by rw [← zv1948, ← zv1953, ← zv1958]; rw [rea_u, if_neg (by first | with_reducible assumption | omega), if_neg (by first | with_reducible assumption | omega), if_neg (by first | with_reducible assumption | omega), if_pos (by first | with_reducible assumption | omega)]; omega)⟩
                · refine g_nop ?_
                  refine g_iconst (by decide) (fun v2429 kv2429 => ?_)
                  exact g_iret ⟨_, rfl, rfl, (by rw [← zv1948, ← zv1953, ← zv1958]; rw [rea_u, if_neg (by first | with_reducible assumption | omega), if_neg (by first | with_reducible assumption | omega), if_pos (by first | with_reducible assumption | omega)]; omega)⟩
          · refine g_nop ?_
            refine g_iconst (by decide) (fun v2430 kv2430 => ?_)
            exact g_iret ⟨_, rfl, rfl, (by rw [← zv1948, ← zv1953, ← zv1958]; rw [rea_u, if_neg (by first | with_reducible assumption | omega), if_pos (by first | with_reducible assumption | omega)]; omega)⟩
    · exfalso; omega
