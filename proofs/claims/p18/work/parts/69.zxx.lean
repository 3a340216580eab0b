theorem bh_len {l : List Nat} {t : Nat → Nat} {a q : Nat} : (bhL l t a q).length = l.length + (q - a) := by
  unfold bhL
  rw [List.length_append, List.length_drop, olF_len]
theorem bh_lt {H : mzH} {p a q : Nat} (hg : gdY H) (hp : p ≤ (fZ H 25 2).toInt.toNat) (hq : q ≤ (fZ H 25 2).toInt.toNat) : ∀ j, j ∈ bhL (olF p (odX H)) (odX H) a q → j < (fZ H 25 2).toInt.toNat := fun j hj => by
  rcases List.mem_append.mp hj with z | z
  · exact ol_lt hg hp j z
  · exact ol_lt hg hq j (List.mem_of_mem_drop z)
theorem wd_all {H B : mzH} {w : Nat} {s : pS} (h : wdX H w s) (m : ∀ a i, aZ B a i = aZ H a i) : wdX B w s := fun n hn => by
  rw [m (w + 1) n, m (w + 2) n, m (w + 3) n, m (w + 4) n, m (w + 5) n, m (w + 6) n]
  exact h n hn
theorem rfL_kq {H A : mzH} (fr : kpX H A) {p q : Nat} : rfL A (hoX A) (bhL (bhL (olF p (odX H)) (odX H) (p + 1) q) (odX A) (q + 1) (fZ A 25 2).toInt.toNat) = tT H p q := by
  rw [rfL_kx fr, od_kp fr, (fr 25 (by decide)).1]
  rfl
theorem rb_su {H : mzH} {l : List Nat} {t : Nat → Nat} {a q q2 : Nat} {r r2 u : Int} (h : r = rfL H (hoX H) (bhL l t a q)) (h1 : a ≤ q) (e : q2 = q + 1) (hu : (u = 0 ∧ vdH H (hoX H) (rnH H (hoX H) (bhL l t a q)) (t q) = 0) ∨ (u = 1 ∧ ¬ vdH H (hoX H) (rnH H (hoX H) (bhL l t a q)) (t q) = 0)) (hr2 : r2 = r + u) : r2 = rfL H (hoX H) (bhL l t a q2) := by
  subst e
  rw [bh_s h1, rfL_s, ← h]
  rcases hu with ⟨z1, z2⟩ | ⟨z1, z2⟩
  · rw [if_pos z2]
    omega
  · rw [if_neg z2]
    omega
theorem bt_c {H : mzH} {p q : Nat} {a b c a2 b2 c2 : Int} (h : blT H p q a b c) (e1 : a2 = a) (e2 : b2 = b) (e3 : c2 = c) : blT H p q a2 b2 c2 := by
  subst e1 e2 e3
  exact h
theorem tT_kx {H A : mzH} (fr : kpX H A) {p q : Nat} : tT A p q = tT H p q := by
  unfold tT
  rw [rfL_kx fr, od_kp fr, (fr 25 (by decide)).1]
theorem blT_kx {H A : mzH} (fr : kpX H A) {p q : Nat} {a b c : Int} (h : blT H p q a b c) : blT A p q a b c := by
  have e : odX A = odX H := od_kp fr
  have m1 : mnX A = mnX H := by
    funext x y
    unfold mnX
    rw [e]
  have m2 : mxX A = mxX H := by
    funext x y
    unfold mxX
    rw [e]
  have m3 : tT A = tT H := by
    funext x y
    exact tT_kx fr
  unfold blT at *
  rw [m1, m2, m3, (fr 25 (by decide)).1]
  exact h
theorem blT_xk {H A : mzH} (fr : kpX H A) {p q : Nat} {a b c : Int} (h : blT A p q a b c) : blT H p q a b c := by
  have e : odX A = odX H := od_kp fr
  have m1 : mnX A = mnX H := by
    funext x y
    unfold mnX
    rw [e]
  have m2 : mxX A = mxX H := by
    funext x y
    unfold mxX
    rw [e]
  have m3 : tT A = tT H := by
    funext x y
    exact tT_kx fr
  unfold blT at *
  rw [m1, m2, m3, (fr 25 (by decide)).1] at h
  exact h
/-- the answer, by what is asked -/
def btA (H : mzH) (w v : Int) : Prop := ∃ o1 o2 l, blT H (fZ H 25 2).toInt.toNat ((fZ H 25 2).toInt.toNat + 1) o1 o2 l ∧ v = if w = 0 then o1 else if w = 1 then o2 else l
set_option maxRecDepth 4000 in
set_option maxHeartbeats 4000000 in
/-- X0.propose -/
theorem w_5  (a1 : Int32) (a2 : Int32) (a3 : Int32) (H : mzH) (hI : gI SX H) (hJ : JX H) : gCall 5 [.ref 54, .int a1, .int a2, .int a3] H (gRv (fun H' => gI SX H' ∧ JX H' ∧ fZ H' 1 1 = fZ H 1 1 ∧ fZ H' 54 5 = fZ H 54 5 ∧ fZ H' 54 6 = fZ H 54 6 ∧ fZ H' 54 7 = fZ H 54 7 ∧ fZ H' 54 8 = fZ H 54 8 ∧ kpX H H' ∧ (∀ a i, aZ H' a i = aZ H a i) ∧ (((a3.toInt < (fZ H 54 11).toInt ∨ (a3.toInt = (fZ H 54 11).toInt ∧ (a1.toInt < (fZ H 54 9).toInt ∨ (a1.toInt = (fZ H 54 9).toInt ∧ a2.toInt < (fZ H 54 10).toInt)))) ∧ (fZ H' 54 9).toInt = a1.toInt ∧ (fZ H' 54 10).toInt = a2.toInt ∧ (fZ H' 54 11).toInt = a3.toInt) ∨ (¬ (a3.toInt < (fZ H 54 11).toInt ∨ (a3.toInt = (fZ H 54 11).toInt ∧ (a1.toInt < (fZ H 54 9).toInt ∨ (a1.toInt = (fZ H 54 9).toInt ∧ a2.toInt < (fZ H 54 10).toInt)))) ∧ (fZ H' 54 9).toInt = (fZ H 54 9).toInt ∧ (fZ H' 54 10).toInt = (fZ H 54 10).toInt ∧ (fZ H' 54 11).toInt = (fZ H 54 11).toInt)))) := by
  obtain ⟨k1_1, ek1_1⟩ : ∃ z, z = fZ H 1 1 := ⟨_, rfl⟩
  have ik1_1 : k1_1.toInt = (fZ H 1 1).toInt := by rw [← ek1_1]
  have bk1_1 : 0 ≤ k1_1.toInt ∧ k1_1.toInt ≤ 900 := by rw [ek1_1]; exact fZ_of hI sx_1 rfl
  obtain ⟨k54_5, ek54_5⟩ : ∃ z, z = fZ H 54 5 := ⟨_, rfl⟩
  have ik54_5 : k54_5.toInt = (fZ H 54 5).toInt := by rw [← ek54_5]
  have bk54_5 : 0 ≤ k54_5.toInt ∧ k54_5.toInt ≤ 1 := by rw [ek54_5]; exact fZ_of hI sx_54 rfl
  obtain ⟨k54_6, ek54_6⟩ : ∃ z, z = fZ H 54 6 := ⟨_, rfl⟩
  have ik54_6 : k54_6.toInt = (fZ H 54 6).toInt := by rw [← ek54_6]
  have bk54_6 : 0 ≤ k54_6.toInt ∧ k54_6.toInt ≤ 1 := by rw [ek54_6]; exact fZ_of hI sx_54 rfl
  obtain ⟨k54_7, ek54_7⟩ : ∃ z, z = fZ H 54 7 := ⟨_, rfl⟩
  have ik54_7 : k54_7.toInt = (fZ H 54 7).toInt := by rw [← ek54_7]
  obtain ⟨k54_8, ek54_8⟩ : ∃ z, z = fZ H 54 8 := ⟨_, rfl⟩
  have ik54_8 : k54_8.toInt = (fZ H 54 8).toInt := by rw [← ek54_8]
  have mkfr : kpX H H := kpX_r
  have mkall : ∀ a i, aZ H a i = aZ H a i := fun _ _ => rfl
  refine gG_call [(0, .ref 54), (1, .int a1), (2, .int a2), (3, .int a3)] ⟨rfl, rfl, rfl, rfl, trivial⟩ ?_
  show gG 5 zB_5 (mzBlk zB_5 0) [(0, .ref 54), (1, .int a1), (2, .int a2), (3, .int a3)] [] H 0 0 _
  refine g_iload_n rfl ?_
  refine g_aload_n rfl ?_
  refine g_gfi hI sx_54 rfl (fun v893 ev893 lv893 uv893 => ?_)
  have iev893 : v893.toInt = (fZ H 54 9).toInt := by rw [← ev893]
  refine g_if2_lt (fun c894 => ?_) (fun c894 => ?_)
  · refine g_iconst (by decide) (fun v895 kv895 => ?_)
    refine g_goto ?_
    refine g_istore (l' := [(0, .ref 54), (1, .int a1), (2, .int a2), (3, .int a3), (4, .int v895)]) rfl rfl ?_
    refine g_iload_n rfl ?_
    refine g_aload_n rfl ?_
    refine g_gfi hI sx_54 rfl (fun v896 ev896 lv896 uv896 => ?_)
    have iev896 : v896.toInt = (fZ H 54 11).toInt := by rw [← ev896]
    refine g_if2_lt (fun c897 => ?_) (fun c897 => ?_)
    · refine g_aload_n rfl ?_
      refine g_iload_n rfl ?_
      refine g_pfi hI sx_54 rfl (gz_any _) (fun H898 eH898 hIH898 => ?_)
      have hJH898 : JX H898 := JX_sF eH898 hJ
      have e899 : k1_1 = fZ H898 1 1 := by rw [eH898, fZ_sF_nc (by omega)]; exact ek1_1
      have e900 : k54_5 = fZ H898 54 5 := by rw [eH898, fZ_sF_ne (by decide)]; exact ek54_5
      have e901 : k54_6 = fZ H898 54 6 := by rw [eH898, fZ_sF_ne (by decide)]; exact ek54_6
      have e902 : k54_7 = fZ H898 54 7 := by rw [eH898, fZ_sF_ne (by decide)]; exact ek54_7
      have e903 : k54_8 = fZ H898 54 8 := by rw [eH898, fZ_sF_ne (by decide)]; exact ek54_8
      have e904 : v896 = fZ H898 54 11 := by rw [eH898, fZ_sF_ne (by decide)]; exact ev896
      have e905 : a1 = fZ H898 54 9 := by rw [eH898, fZ_sF_eq hI sx_54 rfl]
      have m906 : kpX H H898 := kpX_F mkfr eH898 (by omega)
      have m907 : ∀ a i, aZ H898 a i = aZ H a i := fun a i => (by rw [eH898, aZ_sF] : aZ H898 a i = aZ H a i).trans (mkall a i)
      have jj908_10 : (fZ H898 54 10).toInt = (fZ H 54 10).toInt := by rw [eH898, fZ_sF_ne (by decide)]
      have ie904 : v896.toInt = (fZ H898 54 11).toInt := by rw [← e904]
      have ie905 : a1.toInt = (fZ H898 54 9).toInt := by rw [← e905]
      refine g_aload_n rfl ?_
      refine g_iload_n rfl ?_
      refine g_pfi hIH898 sx_54 rfl (gz_any _) (fun H909 eH909 hIH909 => ?_)
      have hJH909 : JX H909 := JX_sF eH909 hJH898
      have e910 : k1_1 = fZ H909 1 1 := by rw [eH909, fZ_sF_nc (by omega)]; exact e899
      have e911 : k54_5 = fZ H909 54 5 := by rw [eH909, fZ_sF_ne (by decide)]; exact e900
      have e912 : k54_6 = fZ H909 54 6 := by rw [eH909, fZ_sF_ne (by decide)]; exact e901
      have e913 : k54_7 = fZ H909 54 7 := by rw [eH909, fZ_sF_ne (by decide)]; exact e902
      have e914 : k54_8 = fZ H909 54 8 := by rw [eH909, fZ_sF_ne (by decide)]; exact e903
      have e915 : v896 = fZ H909 54 11 := by rw [eH909, fZ_sF_ne (by decide)]; exact e904
      have e916 : a1 = fZ H909 54 9 := by rw [eH909, fZ_sF_ne (by decide)]; exact e905
      have e917 : a2 = fZ H909 54 10 := by rw [eH909, fZ_sF_eq hIH898 sx_54 rfl]
      have m918 : kpX H H909 := kpX_F m906 eH909 (by omega)
      have m919 : ∀ a i, aZ H909 a i = aZ H a i := fun a i => (by rw [eH909, aZ_sF] : aZ H909 a i = aZ H898 a i).trans (m907 a i)
      have ie915 : v896.toInt = (fZ H909 54 11).toInt := by rw [← e915]
      have ie916 : a1.toInt = (fZ H909 54 9).toInt := by rw [← e916]
      have ie917 : a2.toInt = (fZ H909 54 10).toInt := by rw [← e917]
      refine g_aload_n rfl ?_
      refine g_iload_n rfl ?_
      refine g_pfi hIH909 sx_54 rfl (gz_any _) (fun H920 eH920 hIH920 => ?_)
      have hJH920 : JX H920 := JX_sF eH920 hJH909
      have e921 : k1_1 = fZ H920 1 1 := by rw [eH920, fZ_sF_nc (by omega)]; exact e910
      have e922 : k54_5 = fZ H920 54 5 := by rw [eH920, fZ_sF_ne (by decide)]; exact e911
      have e923 : k54_6 = fZ H920 54 6 := by rw [eH920, fZ_sF_ne (by decide)]; exact e912
      have e924 : k54_7 = fZ H920 54 7 := by rw [eH920, fZ_sF_ne (by decide)]; exact e913
      have e925 : k54_8 = fZ H920 54 8 := by rw [eH920, fZ_sF_ne (by decide)]; exact e914
      have e926 : a1 = fZ H920 54 9 := by rw [eH920, fZ_sF_ne (by decide)]; exact e916
      have e927 : a2 = fZ H920 54 10 := by rw [eH920, fZ_sF_ne (by decide)]; exact e917
      have e928 : a3 = fZ H920 54 11 := by rw [eH920, fZ_sF_eq hIH909 sx_54 rfl]
      have m929 : kpX H H920 := kpX_F m918 eH920 (by omega)
      have m930 : ∀ a i, aZ H920 a i = aZ H a i := fun a i => (by rw [eH920, aZ_sF] : aZ H920 a i = aZ H909 a i).trans (m919 a i)
      have ie926 : a1.toInt = (fZ H920 54 9).toInt := by rw [← e926]
      have ie927 : a2.toInt = (fZ H920 54 10).toInt := by rw [← e927]
      have ie928 : a3.toInt = (fZ H920 54 11).toInt := by rw [← e928]
      refine g_nop ?_
      exact g_ret ⟨rfl, hIH920, hJH920, (e921.symm.trans ek1_1), (e922.symm.trans ek54_5), (e923.symm.trans ek54_6), (e924.symm.trans ek54_7), (e925.symm.trans ek54_8), m929, m930, (by omega)⟩
    · refine g_iload_n rfl ?_
      refine g_aload_n rfl ?_
      refine g_gfk hI sx_54 rfl ev896 ?_
      refine g_if2_ne (fun c931 => ?_) (fun c931 => ?_)
      · exact g_ret ⟨rfl, hI, hJ, (ek1_1.symm.trans ek1_1), (ek54_5.symm.trans ek54_5), (ek54_6.symm.trans ek54_6), (ek54_7.symm.trans ek54_7), (ek54_8.symm.trans ek54_8), mkfr, mkall, (by omega)⟩
      · refine g_iload rfl ?_
        refine g_if_eq (fun c932 => ?_) (fun c932 => ?_)
        · exfalso; omega
        · refine g_nop ?_
          refine g_aload_n rfl ?_
          refine g_iload_n rfl ?_
          refine g_pfi hI sx_54 rfl (gz_any _) (fun H933 eH933 hIH933 => ?_)
          have hJH933 : JX H933 := JX_sF eH933 hJ
          have e934 : k1_1 = fZ H933 1 1 := by rw [eH933, fZ_sF_nc (by omega)]; exact ek1_1
          have e935 : k54_5 = fZ H933 54 5 := by rw [eH933, fZ_sF_ne (by decide)]; exact ek54_5
          have e936 : k54_6 = fZ H933 54 6 := by rw [eH933, fZ_sF_ne (by decide)]; exact ek54_6
          have e937 : k54_7 = fZ H933 54 7 := by rw [eH933, fZ_sF_ne (by decide)]; exact ek54_7
          have e938 : k54_8 = fZ H933 54 8 := by rw [eH933, fZ_sF_ne (by decide)]; exact ek54_8
          have e939 : v896 = fZ H933 54 11 := by rw [eH933, fZ_sF_ne (by decide)]; exact ev896
          have e940 : a1 = fZ H933 54 9 := by rw [eH933, fZ_sF_eq hI sx_54 rfl]
          have m941 : kpX H H933 := kpX_F mkfr eH933 (by omega)
          have m942 : ∀ a i, aZ H933 a i = aZ H a i := fun a i => (by rw [eH933, aZ_sF] : aZ H933 a i = aZ H a i).trans (mkall a i)
          have jj943_10 : (fZ H933 54 10).toInt = (fZ H 54 10).toInt := by rw [eH933, fZ_sF_ne (by decide)]
          have ie939 : v896.toInt = (fZ H933 54 11).toInt := by rw [← e939]
          have ie940 : a1.toInt = (fZ H933 54 9).toInt := by rw [← e940]
          refine g_aload_n rfl ?_
          refine g_iload_n rfl ?_
          refine g_pfi hIH933 sx_54 rfl (gz_any _) (fun H944 eH944 hIH944 => ?_)
          have hJH944 : JX H944 := JX_sF eH944 hJH933
          have e945 : k1_1 = fZ H944 1 1 := by rw [eH944, fZ_sF_nc (by omega)]; exact e934
          have e946 : k54_5 = fZ H944 54 5 := by rw [eH944, fZ_sF_ne (by decide)]; exact e935
          have e947 : k54_6 = fZ H944 54 6 := by rw [eH944, fZ_sF_ne (by decide)]; exact e936
          have e948 : k54_7 = fZ H944 54 7 := by rw [eH944, fZ_sF_ne (by decide)]; exact e937
          have e949 : k54_8 = fZ H944 54 8 := by rw [eH944, fZ_sF_ne (by decide)]; exact e938
          have e950 : v896 = fZ H944 54 11 := by rw [eH944, fZ_sF_ne (by decide)]; exact e939
          have e951 : a1 = fZ H944 54 9 := by rw [eH944, fZ_sF_ne (by decide)]; exact e940
          have e952 : a2 = fZ H944 54 10 := by rw [eH944, fZ_sF_eq hIH933 sx_54 rfl]
          have m953 : kpX H H944 := kpX_F m941 eH944 (by omega)
          have m954 : ∀ a i, aZ H944 a i = aZ H a i := fun a i => (by rw [eH944, aZ_sF] : aZ H944 a i = aZ H933 a i).trans (m942 a i)
          have ie950 : v896.toInt = (fZ H944 54 11).toInt := by rw [← e950]
          have ie951 : a1.toInt = (fZ H944 54 9).toInt := by rw [← e951]
          have ie952 : a2.toInt = (fZ H944 54 10).toInt := by rw [← e952]
          refine g_aload_n rfl ?_
          refine g_iload_n rfl ?_
          refine g_pfi hIH944 sx_54 rfl (gz_any _) (fun H955 eH955 hIH955 => ?_)
          have hJH955 : JX H955 := JX_sF eH955 hJH944
          have e956 : k1_1 = fZ H955 1 1 := by rw [eH955, fZ_sF_nc (by omega)]; exact e945
          have e957 : k54_5 = fZ H955 54 5 := by rw [eH955, fZ_sF_ne (by decide)]; exact e946
          have e958 : k54_6 = fZ H955 54 6 := by rw [eH955, fZ_sF_ne (by decide)]; exact e947
          have e959 : k54_7 = fZ H955 54 7 := by rw [eH955, fZ_sF_ne (by decide)]; exact e948
          have e960 : k54_8 = fZ H955 54 8 := by rw [eH955, fZ_sF_ne (by decide)]; exact e949
          have e961 : a1 = fZ H955 54 9 := by rw [eH955, fZ_sF_ne (by decide)]; exact e951
          have e962 : a2 = fZ H955 54 10 := by rw [eH955, fZ_sF_ne (by decide)]; exact e952
          have e963 : a3 = fZ H955 54 11 := by rw [eH955, fZ_sF_eq hIH944 sx_54 rfl]
          have m964 : kpX H H955 := kpX_F m953 eH955 (by omega)
          have m965 : ∀ a i, aZ H955 a i = aZ H a i := fun a i => (by rw [eH955, aZ_sF] : aZ H955 a i = aZ H944 a i).trans (m954 a i)
          have ie961 : a1.toInt = (fZ H955 54 9).toInt := by rw [← e961]
          have ie962 : a2.toInt = (fZ H955 54 10).toInt := by rw [← e962]
          have ie963 : a3.toInt = (fZ H955 54 11).toInt := by rw [← e963]
          refine g_nop ?_
          exact g_ret ⟨rfl, hIH955, hJH955, (e956.symm.trans ek1_1), (e957.symm.trans ek54_5), (e958.symm.trans ek54_6), (e959.symm.trans ek54_7), (e960.symm.trans ek54_8), m964, m965, (by omega)⟩
  · refine g_iload_n rfl ?_
    refine g_aload_n rfl ?_
    refine g_gfk hI sx_54 rfl ev893 ?_
    refine g_if2_ne (fun c966 => ?_) (fun c966 => ?_)
    · refine g_iconst (by decide) (fun v967 kv967 => ?_)
      refine g_nop ?_
      refine g_istore (l' := [(0, .ref 54), (1, .int a1), (2, .int a2), (3, .int a3), (4, .int v967)]) rfl rfl ?_
      refine g_iload_n rfl ?_
      refine g_aload_n rfl ?_
      refine g_gfi hI sx_54 rfl (fun v968 ev968 lv968 uv968 => ?_)
      have iev968 : v968.toInt = (fZ H 54 11).toInt := by rw [← ev968]
      refine g_if2_lt (fun c969 => ?_) (fun c969 => ?_)
      · refine g_aload_n rfl ?_
        refine g_iload_n rfl ?_
        refine g_pfi hI sx_54 rfl (gz_any _) (fun H970 eH970 hIH970 => ?_)
        have hJH970 : JX H970 := JX_sF eH970 hJ
        have e971 : k1_1 = fZ H970 1 1 := by rw [eH970, fZ_sF_nc (by omega)]; exact ek1_1
        have e972 : k54_5 = fZ H970 54 5 := by rw [eH970, fZ_sF_ne (by decide)]; exact ek54_5
        have e973 : k54_6 = fZ H970 54 6 := by rw [eH970, fZ_sF_ne (by decide)]; exact ek54_6
        have e974 : k54_7 = fZ H970 54 7 := by rw [eH970, fZ_sF_ne (by decide)]; exact ek54_7
        have e975 : k54_8 = fZ H970 54 8 := by rw [eH970, fZ_sF_ne (by decide)]; exact ek54_8
        have e976 : v968 = fZ H970 54 11 := by rw [eH970, fZ_sF_ne (by decide)]; exact ev968
        have e977 : a1 = fZ H970 54 9 := by rw [eH970, fZ_sF_eq hI sx_54 rfl]
        have m978 : kpX H H970 := kpX_F mkfr eH970 (by omega)
        have m979 : ∀ a i, aZ H970 a i = aZ H a i := fun a i => (by rw [eH970, aZ_sF] : aZ H970 a i = aZ H a i).trans (mkall a i)
        have jj980_10 : (fZ H970 54 10).toInt = (fZ H 54 10).toInt := by rw [eH970, fZ_sF_ne (by decide)]
        have ie976 : v968.toInt = (fZ H970 54 11).toInt := by rw [← e976]
        have ie977 : a1.toInt = (fZ H970 54 9).toInt := by rw [← e977]
        refine g_aload_n rfl ?_
        refine g_iload_n rfl ?_
        refine g_pfi hIH970 sx_54 rfl (gz_any _) (fun H981 eH981 hIH981 => ?_)
        have hJH981 : JX H981 := JX_sF eH981 hJH970
        have e982 : k1_1 = fZ H981 1 1 := by rw [eH981, fZ_sF_nc (by omega)]; exact e971
        have e983 : k54_5 = fZ H981 54 5 := by rw [eH981, fZ_sF_ne (by decide)]; exact e972
        have e984 : k54_6 = fZ H981 54 6 := by rw [eH981, fZ_sF_ne (by decide)]; exact e973
        have e985 : k54_7 = fZ H981 54 7 := by rw [eH981, fZ_sF_ne (by decide)]; exact e974
        have e986 : k54_8 = fZ H981 54 8 := by rw [eH981, fZ_sF_ne (by decide)]; exact e975
        have e987 : v968 = fZ H981 54 11 := by rw [eH981, fZ_sF_ne (by decide)]; exact e976
        have e988 : a1 = fZ H981 54 9 := by rw [eH981, fZ_sF_ne (by decide)]; exact e977
        have e989 : a2 = fZ H981 54 10 := by rw [eH981, fZ_sF_eq hIH970 sx_54 rfl]
        have m990 : kpX H H981 := kpX_F m978 eH981 (by omega)
        have m991 : ∀ a i, aZ H981 a i = aZ H a i := fun a i => (by rw [eH981, aZ_sF] : aZ H981 a i = aZ H970 a i).trans (m979 a i)
        have ie987 : v968.toInt = (fZ H981 54 11).toInt := by rw [← e987]
        have ie988 : a1.toInt = (fZ H981 54 9).toInt := by rw [← e988]
        have ie989 : a2.toInt = (fZ H981 54 10).toInt := by rw [← e989]
        refine g_aload_n rfl ?_
        refine g_iload_n rfl ?_
        refine g_pfi hIH981 sx_54 rfl (gz_any _) (fun H992 eH992 hIH992 => ?_)
        have hJH992 : JX H992 := JX_sF eH992 hJH981
        have e993 : k1_1 = fZ H992 1 1 := by rw [eH992, fZ_sF_nc (by omega)]; exact e982
        have e994 : k54_5 = fZ H992 54 5 := by rw [eH992, fZ_sF_ne (by decide)]; exact e983
        have e995 : k54_6 = fZ H992 54 6 := by rw [eH992, fZ_sF_ne (by decide)]; exact e984
        have e996 : k54_7 = fZ H992 54 7 := by rw [eH992, fZ_sF_ne (by decide)]; exact e985
        have e997 : k54_8 = fZ H992 54 8 := by rw [eH992, fZ_sF_ne (by decide)]; exact e986
        have e998 : a1 = fZ H992 54 9 := by rw [eH992, fZ_sF_ne (by decide)]; exact e988
        have e999 : a2 = fZ H992 54 10 := by rw [eH992, fZ_sF_ne (by decide)]; exact e989
        have e1000 : a3 = fZ H992 54 11 := by rw [eH992, fZ_sF_eq hIH981 sx_54 rfl]
        have m1001 : kpX H H992 := kpX_F m990 eH992 (by omega)
        have m1002 : ∀ a i, aZ H992 a i = aZ H a i := fun a i => (by rw [eH992, aZ_sF] : aZ H992 a i = aZ H981 a i).trans (m991 a i)
        have ie998 : a1.toInt = (fZ H992 54 9).toInt := by rw [← e998]
        have ie999 : a2.toInt = (fZ H992 54 10).toInt := by rw [← e999]
        have ie1000 : a3.toInt = (fZ H992 54 11).toInt := by rw [← e1000]
        refine g_nop ?_
        exact g_ret ⟨rfl, hIH992, hJH992, (e993.symm.trans ek1_1), (e994.symm.trans ek54_5), (e995.symm.trans ek54_6), (e996.symm.trans ek54_7), (e997.symm.trans ek54_8), m1001, m1002, (by omega)⟩
      · refine g_iload_n rfl ?_
        refine g_aload_n rfl ?_
        refine g_gfk hI sx_54 rfl ev968 ?_
        refine g_if2_ne (fun c1003 => ?_) (fun c1003 => ?_)
        · exact g_ret ⟨rfl, hI, hJ, (ek1_1.symm.trans ek1_1), (ek54_5.symm.trans ek54_5), (ek54_6.symm.trans ek54_6), (ek54_7.symm.trans ek54_7), (ek54_8.symm.trans ek54_8), mkfr, mkall, (by omega)⟩
        · refine g_iload rfl ?_
          refine g_if_eq (fun c1004 => ?_) (fun c1004 => ?_)
          · exact g_ret ⟨rfl, hI, hJ, (ek1_1.symm.trans ek1_1), (ek54_5.symm.trans ek54_5), (ek54_6.symm.trans ek54_6), (ek54_7.symm.trans ek54_7), (ek54_8.symm.trans ek54_8), mkfr, mkall, (by omega)⟩
          · exfalso; omega
    · refine g_iload_n rfl ?_
      refine g_aload_n rfl ?_
      refine g_gfi hI sx_54 rfl (fun v1005 ev1005 lv1005 uv1005 => ?_)
      have iev1005 : v1005.toInt = (fZ H 54 10).toInt := by rw [← ev1005]
      refine g_if2_ge (fun c1006 => ?_) (fun c1006 => ?_)
      · refine g_iconst (by decide) (fun v1007 kv1007 => ?_)
        refine g_nop ?_
        refine g_istore (l' := [(0, .ref 54), (1, .int a1), (2, .int a2), (3, .int a3), (4, .int v1007)]) rfl rfl ?_
        refine g_iload_n rfl ?_
        refine g_aload_n rfl ?_
        refine g_gfi hI sx_54 rfl (fun v1008 ev1008 lv1008 uv1008 => ?_)
        have iev1008 : v1008.toInt = (fZ H 54 11).toInt := by rw [← ev1008]
        refine g_if2_lt (fun c1009 => ?_) (fun c1009 => ?_)
        · refine g_aload_n rfl ?_
          refine g_iload_n rfl ?_
          refine g_pfi hI sx_54 rfl (gz_any _) (fun H1010 eH1010 hIH1010 => ?_)
          have hJH1010 : JX H1010 := JX_sF eH1010 hJ
          have e1011 : k1_1 = fZ H1010 1 1 := by rw [eH1010, fZ_sF_nc (by omega)]; exact ek1_1
          have e1012 : k54_5 = fZ H1010 54 5 := by rw [eH1010, fZ_sF_ne (by decide)]; exact ek54_5
          have e1013 : k54_6 = fZ H1010 54 6 := by rw [eH1010, fZ_sF_ne (by decide)]; exact ek54_6
          have e1014 : k54_7 = fZ H1010 54 7 := by rw [eH1010, fZ_sF_ne (by decide)]; exact ek54_7
          have e1015 : k54_8 = fZ H1010 54 8 := by rw [eH1010, fZ_sF_ne (by decide)]; exact ek54_8
          have e1016 : v1005 = fZ H1010 54 10 := by rw [eH1010, fZ_sF_ne (by decide)]; exact ev1005
          have e1017 : v1008 = fZ H1010 54 11 := by rw [eH1010, fZ_sF_ne (by decide)]; exact ev1008
          have e1018 : a1 = fZ H1010 54 9 := by rw [eH1010, fZ_sF_eq hI sx_54 rfl]
          have m1019 : kpX H H1010 := kpX_F mkfr eH1010 (by omega)
          have m1020 : ∀ a i, aZ H1010 a i = aZ H a i := fun a i => (by rw [eH1010, aZ_sF] : aZ H1010 a i = aZ H a i).trans (mkall a i)
          have ie1016 : v1005.toInt = (fZ H1010 54 10).toInt := by rw [← e1016]
          have ie1017 : v1008.toInt = (fZ H1010 54 11).toInt := by rw [← e1017]
          have ie1018 : a1.toInt = (fZ H1010 54 9).toInt := by rw [← e1018]
          refine g_aload_n rfl ?_
          refine g_iload_n rfl ?_
          refine g_pfi hIH1010 sx_54 rfl (gz_any _) (fun H1021 eH1021 hIH1021 => ?_)
          have hJH1021 : JX H1021 := JX_sF eH1021 hJH1010
          have e1022 : k1_1 = fZ H1021 1 1 := by rw [eH1021, fZ_sF_nc (by omega)]; exact e1011
          have e1023 : k54_5 = fZ H1021 54 5 := by rw [eH1021, fZ_sF_ne (by decide)]; exact e1012
          have e1024 : k54_6 = fZ H1021 54 6 := by rw [eH1021, fZ_sF_ne (by decide)]; exact e1013
          have e1025 : k54_7 = fZ H1021 54 7 := by rw [eH1021, fZ_sF_ne (by decide)]; exact e1014
          have e1026 : k54_8 = fZ H1021 54 8 := by rw [eH1021, fZ_sF_ne (by decide)]; exact e1015
          have e1027 : v1008 = fZ H1021 54 11 := by rw [eH1021, fZ_sF_ne (by decide)]; exact e1017
          have e1028 : a1 = fZ H1021 54 9 := by rw [eH1021, fZ_sF_ne (by decide)]; exact e1018
          have e1029 : a2 = fZ H1021 54 10 := by rw [eH1021, fZ_sF_eq hIH1010 sx_54 rfl]
          have m1030 : kpX H H1021 := kpX_F m1019 eH1021 (by omega)
          have m1031 : ∀ a i, aZ H1021 a i = aZ H a i := fun a i => (by rw [eH1021, aZ_sF] : aZ H1021 a i = aZ H1010 a i).trans (m1020 a i)
          have ie1027 : v1008.toInt = (fZ H1021 54 11).toInt := by rw [← e1027]
          have ie1028 : a1.toInt = (fZ H1021 54 9).toInt := by rw [← e1028]
          have ie1029 : a2.toInt = (fZ H1021 54 10).toInt := by rw [← e1029]
          refine g_aload_n rfl ?_
          refine g_iload_n rfl ?_
          refine g_pfi hIH1021 sx_54 rfl (gz_any _) (fun H1032 eH1032 hIH1032 => ?_)
          have hJH1032 : JX H1032 := JX_sF eH1032 hJH1021
          have e1033 : k1_1 = fZ H1032 1 1 := by rw [eH1032, fZ_sF_nc (by omega)]; exact e1022
          have e1034 : k54_5 = fZ H1032 54 5 := by rw [eH1032, fZ_sF_ne (by decide)]; exact e1023
          have e1035 : k54_6 = fZ H1032 54 6 := by rw [eH1032, fZ_sF_ne (by decide)]; exact e1024
          have e1036 : k54_7 = fZ H1032 54 7 := by rw [eH1032, fZ_sF_ne (by decide)]; exact e1025
          have e1037 : k54_8 = fZ H1032 54 8 := by rw [eH1032, fZ_sF_ne (by decide)]; exact e1026
          have e1038 : a1 = fZ H1032 54 9 := by rw [eH1032, fZ_sF_ne (by decide)]; exact e1028
          have e1039 : a2 = fZ H1032 54 10 := by rw [eH1032, fZ_sF_ne (by decide)]; exact e1029
          have e1040 : a3 = fZ H1032 54 11 := by rw [eH1032, fZ_sF_eq hIH1021 sx_54 rfl]
          have m1041 : kpX H H1032 := kpX_F m1030 eH1032 (by omega)
          have m1042 : ∀ a i, aZ H1032 a i = aZ H a i := fun a i => (by rw [eH1032, aZ_sF] : aZ H1032 a i = aZ H1021 a i).trans (m1031 a i)
          have ie1038 : a1.toInt = (fZ H1032 54 9).toInt := by rw [← e1038]
          have ie1039 : a2.toInt = (fZ H1032 54 10).toInt := by rw [← e1039]
          have ie1040 : a3.toInt = (fZ H1032 54 11).toInt := by rw [← e1040]
          refine g_nop ?_
          exact g_ret ⟨rfl, hIH1032, hJH1032, (e1033.symm.trans ek1_1), (e1034.symm.trans ek54_5), (e1035.symm.trans ek54_6), (e1036.symm.trans ek54_7), (e1037.symm.trans ek54_8), m1041, m1042, (by omega)⟩
        · refine g_iload_n rfl ?_
          refine g_aload_n rfl ?_
          refine g_gfk hI sx_54 rfl ev1008 ?_
          refine g_if2_ne (fun c1043 => ?_) (fun c1043 => ?_)
          · exact g_ret ⟨rfl, hI, hJ, (ek1_1.symm.trans ek1_1), (ek54_5.symm.trans ek54_5), (ek54_6.symm.trans ek54_6), (ek54_7.symm.trans ek54_7), (ek54_8.symm.trans ek54_8), mkfr, mkall, (by omega)⟩
          · refine g_iload rfl ?_
            refine g_if_eq (fun c1044 => ?_) (fun c1044 => ?_)
            · exact g_ret ⟨rfl, hI, hJ, (ek1_1.symm.trans ek1_1), (ek54_5.symm.trans ek54_5), (ek54_6.symm.trans ek54_6), (ek54_7.symm.trans ek54_7), (ek54_8.symm.trans ek54_8), mkfr, mkall, (by omega)⟩
            · exfalso; omega
      · refine g_nop ?_
        refine g_iconst (by decide) (fun v1045 kv1045 => ?_)
        refine g_goto ?_
        refine g_istore (l' := [(0, .ref 54), (1, .int a1), (2, .int a2), (3, .int a3), (4, .int v1045)]) rfl rfl ?_
        refine g_iload_n rfl ?_
        refine g_aload_n rfl ?_
        refine g_gfi hI sx_54 rfl (fun v1046 ev1046 lv1046 uv1046 => ?_)
        have iev1046 : v1046.toInt = (fZ H 54 11).toInt := by rw [← ev1046]
        refine g_if2_lt (fun c1047 => ?_) (fun c1047 => ?_)
        · refine g_aload_n rfl ?_
          refine g_iload_n rfl ?_
          refine g_pfi hI sx_54 rfl (gz_any _) (fun H1048 eH1048 hIH1048 => ?_)
          have hJH1048 : JX H1048 := JX_sF eH1048 hJ
          have e1049 : k1_1 = fZ H1048 1 1 := by rw [eH1048, fZ_sF_nc (by omega)]; exact ek1_1
          have e1050 : k54_5 = fZ H1048 54 5 := by rw [eH1048, fZ_sF_ne (by decide)]; exact ek54_5
          have e1051 : k54_6 = fZ H1048 54 6 := by rw [eH1048, fZ_sF_ne (by decide)]; exact ek54_6
          have e1052 : k54_7 = fZ H1048 54 7 := by rw [eH1048, fZ_sF_ne (by decide)]; exact ek54_7
          have e1053 : k54_8 = fZ H1048 54 8 := by rw [eH1048, fZ_sF_ne (by decide)]; exact ek54_8
          have e1054 : v1005 = fZ H1048 54 10 := by rw [eH1048, fZ_sF_ne (by decide)]; exact ev1005
          have e1055 : v1046 = fZ H1048 54 11 := by rw [eH1048, fZ_sF_ne (by decide)]; exact ev1046
          have e1056 : a1 = fZ H1048 54 9 := by rw [eH1048, fZ_sF_eq hI sx_54 rfl]
          have m1057 : kpX H H1048 := kpX_F mkfr eH1048 (by omega)
          have m1058 : ∀ a i, aZ H1048 a i = aZ H a i := fun a i => (by rw [eH1048, aZ_sF] : aZ H1048 a i = aZ H a i).trans (mkall a i)
          have ie1054 : v1005.toInt = (fZ H1048 54 10).toInt := by rw [← e1054]
          have ie1055 : v1046.toInt = (fZ H1048 54 11).toInt := by rw [← e1055]
          have ie1056 : a1.toInt = (fZ H1048 54 9).toInt := by rw [← e1056]
          refine g_aload_n rfl ?_
          refine g_iload_n rfl ?_
          refine g_pfi hIH1048 sx_54 rfl (gz_any _) (fun H1059 eH1059 hIH1059 => ?_)
          have hJH1059 : JX H1059 := JX_sF eH1059 hJH1048
          have e1060 : k1_1 = fZ H1059 1 1 := by rw [eH1059, fZ_sF_nc (by omega)]; exact e1049
          have e1061 : k54_5 = fZ H1059 54 5 := by rw [eH1059, fZ_sF_ne (by decide)]; exact e1050
          have e1062 : k54_6 = fZ H1059 54 6 := by rw [eH1059, fZ_sF_ne (by decide)]; exact e1051
          have e1063 : k54_7 = fZ H1059 54 7 := by rw [eH1059, fZ_sF_ne (by decide)]; exact e1052
          have e1064 : k54_8 = fZ H1059 54 8 := by rw [eH1059, fZ_sF_ne (by decide)]; exact e1053
          have e1065 : v1046 = fZ H1059 54 11 := by rw [eH1059, fZ_sF_ne (by decide)]; exact e1055
          have e1066 : a1 = fZ H1059 54 9 := by rw [eH1059, fZ_sF_ne (by decide)]; exact e1056
          have e1067 : a2 = fZ H1059 54 10 := by rw [eH1059, fZ_sF_eq hIH1048 sx_54 rfl]
          have m1068 : kpX H H1059 := kpX_F m1057 eH1059 (by omega)
          have m1069 : ∀ a i, aZ H1059 a i = aZ H a i := fun a i => (by rw [eH1059, aZ_sF] : aZ H1059 a i = aZ H1048 a i).trans (m1058 a i)
          have ie1065 : v1046.toInt = (fZ H1059 54 11).toInt := by rw [← e1065]
          have ie1066 : a1.toInt = (fZ H1059 54 9).toInt := by rw [← e1066]
          have ie1067 : a2.toInt = (fZ H1059 54 10).toInt := by rw [← e1067]
          refine g_aload_n rfl ?_
          refine g_iload_n rfl ?_
          refine g_pfi hIH1059 sx_54 rfl (gz_any _) (fun H1070 eH1070 hIH1070 => ?_)
          have hJH1070 : JX H1070 := JX_sF eH1070 hJH1059
          have e1071 : k1_1 = fZ H1070 1 1 := by rw [eH1070, fZ_sF_nc (by omega)]; exact e1060
          have e1072 : k54_5 = fZ H1070 54 5 := by rw [eH1070, fZ_sF_ne (by decide)]; exact e1061
          have e1073 : k54_6 = fZ H1070 54 6 := by rw [eH1070, fZ_sF_ne (by decide)]; exact e1062
          have e1074 : k54_7 = fZ H1070 54 7 := by rw [eH1070, fZ_sF_ne (by decide)]; exact e1063
          have e1075 : k54_8 = fZ H1070 54 8 := by rw [eH1070, fZ_sF_ne (by decide)]; exact e1064
          have e1076 : a1 = fZ H1070 54 9 := by rw [eH1070, fZ_sF_ne (by decide)]; exact e1066
          have e1077 : a2 = fZ H1070 54 10 := by rw [eH1070, fZ_sF_ne (by decide)]; exact e1067
          have e1078 : a3 = fZ H1070 54 11 := by rw [eH1070, fZ_sF_eq hIH1059 sx_54 rfl]
          have m1079 : kpX H H1070 := kpX_F m1068 eH1070 (by omega)
          have m1080 : ∀ a i, aZ H1070 a i = aZ H a i := fun a i => (by rw [eH1070, aZ_sF] : aZ H1070 a i = aZ H1059 a i).trans (m1069 a i)
          have ie1076 : a1.toInt = (fZ H1070 54 9).toInt := by rw [← e1076]
          have ie1077 : a2.toInt = (fZ H1070 54 10).toInt := by rw [← e1077]
          have ie1078 : a3.toInt = (fZ H1070 54 11).toInt := by rw [← e1078]
          refine g_nop ?_
          exact g_ret ⟨rfl, hIH1070, hJH1070, (e1071.symm.trans ek1_1), (e1072.symm.trans ek54_5), (e1073.symm.trans ek54_6), (e1074.symm.trans ek54_7), (e1075.symm.trans ek54_8), m1079, m1080, (by omega)⟩
        · refine g_iload_n rfl ?_
          refine g_aload_n rfl ?_
          refine g_gfk hI sx_54 rfl ev1046 ?_
          refine g_if2_ne (fun c1081 => ?_) (fun c1081 => ?_)
          · exact g_ret ⟨rfl, hI, hJ, (ek1_1.symm.trans ek1_1), (ek54_5.symm.trans ek54_5), (ek54_6.symm.trans ek54_6), (ek54_7.symm.trans ek54_7), (ek54_8.symm.trans ek54_8), mkfr, mkall, (by omega)⟩
          · refine g_iload rfl ?_
            refine g_if_eq (fun c1082 => ?_) (fun c1082 => ?_)
            · exfalso; omega
            · refine g_nop ?_
              refine g_aload_n rfl ?_
              refine g_iload_n rfl ?_
              refine g_pfi hI sx_54 rfl (gz_any _) (fun H1083 eH1083 hIH1083 => ?_)
              have hJH1083 : JX H1083 := JX_sF eH1083 hJ
              have e1084 : k1_1 = fZ H1083 1 1 := by rw [eH1083, fZ_sF_nc (by omega)]; exact ek1_1
              have e1085 : k54_5 = fZ H1083 54 5 := by rw [eH1083, fZ_sF_ne (by decide)]; exact ek54_5
              have e1086 : k54_6 = fZ H1083 54 6 := by rw [eH1083, fZ_sF_ne (by decide)]; exact ek54_6
              have e1087 : k54_7 = fZ H1083 54 7 := by rw [eH1083, fZ_sF_ne (by decide)]; exact ek54_7
              have e1088 : k54_8 = fZ H1083 54 8 := by rw [eH1083, fZ_sF_ne (by decide)]; exact ek54_8
              have e1089 : v1005 = fZ H1083 54 10 := by rw [eH1083, fZ_sF_ne (by decide)]; exact ev1005
              have e1090 : v1046 = fZ H1083 54 11 := by rw [eH1083, fZ_sF_ne (by decide)]; exact ev1046
              have e1091 : a1 = fZ H1083 54 9 := by rw [eH1083, fZ_sF_eq hI sx_54 rfl]
              have m1092 : kpX H H1083 := kpX_F mkfr eH1083 (by omega)
              have m1093 : ∀ a i, aZ H1083 a i = aZ H a i := fun a i => (by rw [eH1083, aZ_sF] : aZ H1083 a i = aZ H a i).trans (mkall a i)
              have ie1089 : v1005.toInt = (fZ H1083 54 10).toInt := by rw [← e1089]
              have ie1090 : v1046.toInt = (fZ H1083 54 11).toInt := by rw [← e1090]
              have ie1091 : a1.toInt = (fZ H1083 54 9).toInt := by rw [← e1091]
              refine g_aload_n rfl ?_
              refine g_iload_n rfl ?_
              refine g_pfi hIH1083 sx_54 rfl (gz_any _) (fun H1094 eH1094 hIH1094 => ?_)
              have hJH1094 : JX H1094 := JX_sF eH1094 hJH1083
              have e1095 : k1_1 = fZ H1094 1 1 := by rw [eH1094, fZ_sF_nc (by omega)]; exact e1084
              have e1096 : k54_5 = fZ H1094 54 5 := by rw [eH1094, fZ_sF_ne (by decide)]; exact e1085
              have e1097 : k54_6 = fZ H1094 54 6 := by rw [eH1094, fZ_sF_ne (by decide)]; exact e1086
              have e1098 : k54_7 = fZ H1094 54 7 := by rw [eH1094, fZ_sF_ne (by decide)]; exact e1087
              have e1099 : k54_8 = fZ H1094 54 8 := by rw [eH1094, fZ_sF_ne (by decide)]; exact e1088
              have e1100 : v1046 = fZ H1094 54 11 := by rw [eH1094, fZ_sF_ne (by decide)]; exact e1090
              have e1101 : a1 = fZ H1094 54 9 := by rw [eH1094, fZ_sF_ne (by decide)]; exact e1091
              have e1102 : a2 = fZ H1094 54 10 := by rw [eH1094, fZ_sF_eq hIH1083 sx_54 rfl]
              have m1103 : kpX H H1094 := kpX_F m1092 eH1094 (by omega)
              have m1104 : ∀ a i, aZ H1094 a i = aZ H a i := fun a i => (by rw [eH1094, aZ_sF] : aZ H1094 a i = aZ H1083 a i).trans (m1093 a i)
              have ie1100 : v1046.toInt = (fZ H1094 54 11).toInt := by rw [← e1100]
              have ie1101 : a1.toInt = (fZ H1094 54 9).toInt := by rw [← e1101]
              have ie1102 : a2.toInt = (fZ H1094 54 10).toInt := by rw [← e1102]
              refine g_aload_n rfl ?_
              refine g_iload_n rfl ?_
              refine g_pfi hIH1094 sx_54 rfl (gz_any _) (fun H1105 eH1105 hIH1105 => ?_)
              have hJH1105 : JX H1105 := JX_sF eH1105 hJH1094
              have e1106 : k1_1 = fZ H1105 1 1 := by rw [eH1105, fZ_sF_nc (by omega)]; exact e1095
              have e1107 : k54_5 = fZ H1105 54 5 := by rw [eH1105, fZ_sF_ne (by decide)]; exact e1096
              have e1108 : k54_6 = fZ H1105 54 6 := by rw [eH1105, fZ_sF_ne (by decide)]; exact e1097
              have e1109 : k54_7 = fZ H1105 54 7 := by rw [eH1105, fZ_sF_ne (by decide)]; exact e1098
              have e1110 : k54_8 = fZ H1105 54 8 := by rw [eH1105, fZ_sF_ne (by decide)]; exact e1099
              have e1111 : a1 = fZ H1105 54 9 := by rw [eH1105, fZ_sF_ne (by decide)]; exact e1101
              have e1112 : a2 = fZ H1105 54 10 := by rw [eH1105, fZ_sF_ne (by decide)]; exact e1102
              have e1113 : a3 = fZ H1105 54 11 := by rw [eH1105, fZ_sF_eq hIH1094 sx_54 rfl]
              have m1114 : kpX H H1105 := kpX_F m1103 eH1105 (by omega)
              have m1115 : ∀ a i, aZ H1105 a i = aZ H a i := fun a i => (by rw [eH1105, aZ_sF] : aZ H1105 a i = aZ H1094 a i).trans (m1104 a i)
              have ie1111 : a1.toInt = (fZ H1105 54 9).toInt := by rw [← e1111]
              have ie1112 : a2.toInt = (fZ H1105 54 10).toInt := by rw [← e1112]
              have ie1113 : a3.toInt = (fZ H1105 54 11).toInt := by rw [← e1113]
              refine g_nop ?_
              exact g_ret ⟨rfl, hIH1105, hJH1105, (e1106.symm.trans ek1_1), (e1107.symm.trans ek54_5), (e1108.symm.trans ek54_6), (e1109.symm.trans ek54_7), (e1110.symm.trans ek54_8), m1114, m1115, (by omega)⟩
set_option maxRecDepth 4000 in
set_option maxHeartbeats 4000000 in
/-- X8.become -/
theorem wb_62_55 {s : pS} (H : mzH) (hI : gI SX H) (hJ : JX H) (hp0 : wdX H 55 s) : gCall 84 [.ref 62, .ref 55] H (gRv (fun H' => gI SX H' ∧ JX H' ∧ fZ H' 1 1 = fZ H 1 1 ∧ kpN 63 68 H H' ∧ wdX H' 62 s)) := by
  obtain ⟨k1_1, ek1_1⟩ : ∃ z, z = fZ H 1 1 := ⟨_, rfl⟩
  have ik1_1 : k1_1.toInt = (fZ H 1 1).toInt := by rw [← ek1_1]
  have bk1_1 : 0 ≤ k1_1.toInt ∧ k1_1.toInt ≤ 900 := by rw [ek1_1]; exact fZ_of hI sx_1 rfl
  have mkfr : kpN 63 68 H H := kpN_r
  refine gG_call [(0, .ref 62), (1, .ref 55)] ⟨rfl, rfl, trivial⟩ ?_
  show gG 2 zB_84 (mzBlk zB_84 0) [(0, .ref 62), (1, .ref 55)] [] H 0 0 _
  refine g_aload_n rfl ?_
  refine g_gfr hI sx_55 rfl ?_
  refine g_iconst (by decide) (fun v145 kv145 => ?_)
  refine g_aload_n rfl ?_
  refine g_gfr hI sx_62 rfl ?_
  refine g_iconst (by decide) (fun v146 kv146 => ?_)
  refine g_bipush (by decide) (fun v147 kv147 => ?_)
  refine g_acp hI sx_63 sx_56 (by decide) (by decide) (by omega) (by omega) (by omega) rfl (fun H148 eH148 hIH148 => ?_)
  have hJH148 : JX H148 := JX_sC (by omega) eH148 hJ
  have e149 : k1_1 = fZ H148 1 1 := by rw [eH148, fZ_sC hI sx_63 sx_56]; exact ek1_1
  have m150 : kpN 63 68 H H148 := kpN_C hI sx_63 sx_56 mkfr eH148 (by omega)
  refine g_aload_n rfl ?_
  refine g_gfr hIH148 sx_55 rfl ?_
  refine g_iconst (by decide) (fun v151 kv151 => ?_)
  refine g_aload_n rfl ?_
  refine g_gfr hIH148 sx_62 rfl ?_
  refine g_iconst (by decide) (fun v152 kv152 => ?_)
  refine g_bipush (by decide) (fun v153 kv153 => ?_)
  refine g_acp hIH148 sx_64 sx_57 (by decide) (by decide) (by omega) (by omega) (by omega) rfl (fun H154 eH154 hIH154 => ?_)
  have hJH154 : JX H154 := JX_sC (by omega) eH154 hJH148
  have e155 : k1_1 = fZ H154 1 1 := by rw [eH154, fZ_sC hIH148 sx_64 sx_57]; exact e149
  have m156 : kpN 63 68 H H154 := kpN_C hIH148 sx_64 sx_57 m150 eH154 (by omega)
  refine g_aload_n rfl ?_
  refine g_gfr hIH154 sx_55 rfl ?_
  refine g_iconst (by decide) (fun v157 kv157 => ?_)
  refine g_aload_n rfl ?_
  refine g_gfr hIH154 sx_62 rfl ?_
  refine g_iconst (by decide) (fun v158 kv158 => ?_)
  refine g_bipush (by decide) (fun v159 kv159 => ?_)
  refine g_acp hIH154 sx_65 sx_58 (by decide) (by decide) (by omega) (by omega) (by omega) rfl (fun H160 eH160 hIH160 => ?_)
  have hJH160 : JX H160 := JX_sC (by omega) eH160 hJH154
  have e161 : k1_1 = fZ H160 1 1 := by rw [eH160, fZ_sC hIH154 sx_65 sx_58]; exact e155
  have m162 : kpN 63 68 H H160 := kpN_C hIH154 sx_65 sx_58 m156 eH160 (by omega)
  refine g_aload_n rfl ?_
  refine g_gfr hIH160 sx_55 rfl ?_
  refine g_iconst (by decide) (fun v163 kv163 => ?_)
  refine g_aload_n rfl ?_
  refine g_gfr hIH160 sx_62 rfl ?_
  refine g_iconst (by decide) (fun v164 kv164 => ?_)
  refine g_bipush (by decide) (fun v165 kv165 => ?_)
  refine g_acp hIH160 sx_66 sx_59 (by decide) (by decide) (by omega) (by omega) (by omega) rfl (fun H166 eH166 hIH166 => ?_)
  have hJH166 : JX H166 := JX_sC (by omega) eH166 hJH160
  have e167 : k1_1 = fZ H166 1 1 := by rw [eH166, fZ_sC hIH160 sx_66 sx_59]; exact e161
  have m168 : kpN 63 68 H H166 := kpN_C hIH160 sx_66 sx_59 m162 eH166 (by omega)
  refine g_aload_n rfl ?_
  refine g_gfr hIH166 sx_55 rfl ?_
  refine g_iconst (by decide) (fun v169 kv169 => ?_)
  refine g_aload_n rfl ?_
  refine g_gfr hIH166 sx_62 rfl ?_
  refine g_iconst (by decide) (fun v170 kv170 => ?_)
  refine g_bipush (by decide) (fun v171 kv171 => ?_)
  refine g_acp hIH166 sx_67 sx_60 (by decide) (by decide) (by omega) (by omega) (by omega) rfl (fun H172 eH172 hIH172 => ?_)
  have hJH172 : JX H172 := JX_sC (by omega) eH172 hJH166
  have e173 : k1_1 = fZ H172 1 1 := by rw [eH172, fZ_sC hIH166 sx_67 sx_60]; exact e167
  have m174 : kpN 63 68 H H172 := kpN_C hIH166 sx_67 sx_60 m168 eH172 (by omega)
  refine g_aload_n rfl ?_
  refine g_gfr hIH172 sx_55 rfl ?_
  refine g_iconst (by decide) (fun v175 kv175 => ?_)
  refine g_aload_n rfl ?_
  refine g_gfr hIH172 sx_62 rfl ?_
  refine g_iconst (by decide) (fun v176 kv176 => ?_)
  refine g_bipush (by decide) (fun v177 kv177 => ?_)
  refine g_acp hIH172 sx_68 sx_61 (by decide) (by decide) (by omega) (by omega) (by omega) rfl (fun H178 eH178 hIH178 => ?_)
  have hJH178 : JX H178 := JX_sC (by omega) eH178 hJH172
  have e179 : k1_1 = fZ H178 1 1 := by rw [eH178, fZ_sC hIH172 sx_68 sx_61]; exact e173
  have m180 : kpN 63 68 H H178 := kpN_C hIH172 sx_68 sx_61 m174 eH178 (by omega)
  exact g_ret ⟨rfl, hIH178, hJH178, (e179.symm.trans ek1_1), m180, (fun n hn => by obtain ⟨h1, h2, h3, h4, h5, h6, h7⟩ := hp0 n hn; exact ⟨by show (aZ H178 63 n).toInt = _; rw [eH178, aZ_sC_nc (by decide), eH172, aZ_sC_nc (by decide), eH166, aZ_sC_nc (by decide), eH160, aZ_sC_nc (by decide), eH154, aZ_sC_nc (by decide), eH148, aZ_sC_eq hI sx_63 sx_56]; exact h1, by show (aZ H178 64 n).toInt = _; rw [eH178, aZ_sC_nc (by decide), eH172, aZ_sC_nc (by decide), eH166, aZ_sC_nc (by decide), eH160, aZ_sC_nc (by decide), eH154, aZ_sC_eq hIH148 sx_64 sx_57, eH148, aZ_sC_nc (by decide)]; exact h2, by show (aZ H178 65 n).toInt = _; rw [eH178, aZ_sC_nc (by decide), eH172, aZ_sC_nc (by decide), eH166, aZ_sC_nc (by decide), eH160, aZ_sC_eq hIH154 sx_65 sx_58, eH154, aZ_sC_nc (by decide), eH148, aZ_sC_nc (by decide)]; exact h3, by show (aZ H178 66 n).toInt = _; rw [eH178, aZ_sC_nc (by decide), eH172, aZ_sC_nc (by decide), eH166, aZ_sC_eq hIH160 sx_66 sx_59, eH160, aZ_sC_nc (by decide), eH154, aZ_sC_nc (by decide), eH148, aZ_sC_nc (by decide)]; exact h4, by show (aZ H178 67 n).toInt = _; rw [eH178, aZ_sC_nc (by decide), eH172, aZ_sC_eq hIH166 sx_67 sx_60, eH166, aZ_sC_nc (by decide), eH160, aZ_sC_nc (by decide), eH154, aZ_sC_nc (by decide), eH148, aZ_sC_nc (by decide)]; exact h5, by show (aZ H178 68 n).toInt = _; rw [eH178, aZ_sC_eq hIH172 sx_68 sx_61, eH172, aZ_sC_nc (by decide), eH166, aZ_sC_nc (by decide), eH160, aZ_sC_nc (by decide), eH154, aZ_sC_nc (by decide), eH148, aZ_sC_nc (by decide)]; exact h6, h7⟩)⟩
set_option maxRecDepth 4000 in
set_option maxHeartbeats 4000000 in
/-- X8.become -/
theorem wb_69_62 {s : pS} (H : mzH) (hI : gI SX H) (hJ : JX H) (hp0 : wdX H 62 s) : gCall 84 [.ref 69, .ref 62] H (gRv (fun H' => gI SX H' ∧ JX H' ∧ fZ H' 1 1 = fZ H 1 1 ∧ kpN 70 75 H H' ∧ wdX H' 69 s)) := by
  obtain ⟨k1_1, ek1_1⟩ : ∃ z, z = fZ H 1 1 := ⟨_, rfl⟩
  have ik1_1 : k1_1.toInt = (fZ H 1 1).toInt := by rw [← ek1_1]
  have bk1_1 : 0 ≤ k1_1.toInt ∧ k1_1.toInt ≤ 900 := by rw [ek1_1]; exact fZ_of hI sx_1 rfl
  have mkfr : kpN 70 75 H H := kpN_r
  refine gG_call [(0, .ref 69), (1, .ref 62)] ⟨rfl, rfl, trivial⟩ ?_
  show gG 2 zB_84 (mzBlk zB_84 0) [(0, .ref 69), (1, .ref 62)] [] H 0 0 _
  refine g_aload_n rfl ?_
  refine g_gfr hI sx_62 rfl ?_
  refine g_iconst (by decide) (fun v145 kv145 => ?_)
  refine g_aload_n rfl ?_
  refine g_gfr hI sx_69 rfl ?_
  refine g_iconst (by decide) (fun v146 kv146 => ?_)
  refine g_bipush (by decide) (fun v147 kv147 => ?_)
  refine g_acp hI sx_70 sx_63 (by decide) (by decide) (by omega) (by omega) (by omega) rfl (fun H148 eH148 hIH148 => ?_)
  have hJH148 : JX H148 := JX_sC (by omega) eH148 hJ
  have e149 : k1_1 = fZ H148 1 1 := by rw [eH148, fZ_sC hI sx_70 sx_63]; exact ek1_1
  have m150 : kpN 70 75 H H148 := kpN_C hI sx_70 sx_63 mkfr eH148 (by omega)
  refine g_aload_n rfl ?_
  refine g_gfr hIH148 sx_62 rfl ?_
  refine g_iconst (by decide) (fun v151 kv151 => ?_)
  refine g_aload_n rfl ?_
  refine g_gfr hIH148 sx_69 rfl ?_
  refine g_iconst (by decide) (fun v152 kv152 => ?_)
  refine g_bipush (by decide) (fun v153 kv153 => ?_)
  refine g_acp hIH148 sx_71 sx_64 (by decide) (by decide) (by omega) (by omega) (by omega) rfl (fun H154 eH154 hIH154 => ?_)
  have hJH154 : JX H154 := JX_sC (by omega) eH154 hJH148
  have e155 : k1_1 = fZ H154 1 1 := by rw [eH154, fZ_sC hIH148 sx_71 sx_64]; exact e149
  have m156 : kpN 70 75 H H154 := kpN_C hIH148 sx_71 sx_64 m150 eH154 (by omega)
  refine g_aload_n rfl ?_
  refine g_gfr hIH154 sx_62 rfl ?_
  refine g_iconst (by decide) (fun v157 kv157 => ?_)
  refine g_aload_n rfl ?_
  refine g_gfr hIH154 sx_69 rfl ?_
  refine g_iconst (by decide) (fun v158 kv158 => ?_)
  refine g_bipush (by decide) (fun v159 kv159 => ?_)
  refine g_acp hIH154 sx_72 sx_65 (by decide) (by decide) (by omega) (by omega) (by omega) rfl (fun H160 eH160 hIH160 => ?_)
  have hJH160 : JX H160 := JX_sC (by omega) eH160 hJH154
  have e161 : k1_1 = fZ H160 1 1 := by rw [eH160, fZ_sC hIH154 sx_72 sx_65]; exact e155
  have m162 : kpN 70 75 H H160 := kpN_C hIH154 sx_72 sx_65 m156 eH160 (by omega)
  refine g_aload_n rfl ?_
  refine g_gfr hIH160 sx_62 rfl ?_
  refine g_iconst (by decide) (fun v163 kv163 => ?_)
  refine g_aload_n rfl ?_
  refine g_gfr hIH160 sx_69 rfl ?_
  refine g_iconst (by decide) (fun v164 kv164 => ?_)
  refine g_bipush (by decide) (fun v165 kv165 => ?_)
  refine g_acp hIH160 sx_73 sx_66 (by decide) (by decide) (by omega) (by omega) (by omega) rfl (fun H166 eH166 hIH166 => ?_)
  have hJH166 : JX H166 := JX_sC (by omega) eH166 hJH160
  have e167 : k1_1 = fZ H166 1 1 := by rw [eH166, fZ_sC hIH160 sx_73 sx_66]; exact e161
  have m168 : kpN 70 75 H H166 := kpN_C hIH160 sx_73 sx_66 m162 eH166 (by omega)
  refine g_aload_n rfl ?_
  refine g_gfr hIH166 sx_62 rfl ?_
  refine g_iconst (by decide) (fun v169 kv169 => ?_)
  refine g_aload_n rfl ?_
  refine g_gfr hIH166 sx_69 rfl ?_
  refine g_iconst (by decide) (fun v170 kv170 => ?_)
  refine g_bipush (by decide) (fun v171 kv171 => ?_)
  refine g_acp hIH166 sx_74 sx_67 (by decide) (by decide) (by omega) (by omega) (by omega) rfl (fun H172 eH172 hIH172 => ?_)
  have hJH172 : JX H172 := JX_sC (by omega) eH172 hJH166
  have e173 : k1_1 = fZ H172 1 1 := by rw [eH172, fZ_sC hIH166 sx_74 sx_67]; exact e167
  have m174 : kpN 70 75 H H172 := kpN_C hIH166 sx_74 sx_67 m168 eH172 (by omega)
  refine g_aload_n rfl ?_
  refine g_gfr hIH172 sx_62 rfl ?_
  refine g_iconst (by decide) (fun v175 kv175 => ?_)
  refine g_aload_n rfl ?_
  refine g_gfr hIH172 sx_69 rfl ?_
  refine g_iconst (by decide) (fun v176 kv176 => ?_)
  refine g_bipush (by decide) (fun v177 kv177 => ?_)
  refine g_acp hIH172 sx_75 sx_68 (by decide) (by decide) (by omega) (by omega) (by omega) rfl (fun H178 eH178 hIH178 => ?_)
  have hJH178 : JX H178 := JX_sC (by omega) eH178 hJH172
  have e179 : k1_1 = fZ H178 1 1 := by rw [eH178, fZ_sC hIH172 sx_75 sx_68]; exact e173
  have m180 : kpN 70 75 H H178 := kpN_C hIH172 sx_75 sx_68 m174 eH178 (by omega)
  exact g_ret ⟨rfl, hIH178, hJH178, (e179.symm.trans ek1_1), m180, (fun n hn => by obtain ⟨h1, h2, h3, h4, h5, h6, h7⟩ := hp0 n hn; exact ⟨by show (aZ H178 70 n).toInt = _; rw [eH178, aZ_sC_nc (by decide), eH172, aZ_sC_nc (by decide), eH166, aZ_sC_nc (by decide), eH160, aZ_sC_nc (by decide), eH154, aZ_sC_nc (by decide), eH148, aZ_sC_eq hI sx_70 sx_63]; exact h1, by show (aZ H178 71 n).toInt = _; rw [eH178, aZ_sC_nc (by decide), eH172, aZ_sC_nc (by decide), eH166, aZ_sC_nc (by decide), eH160, aZ_sC_nc (by decide), eH154, aZ_sC_eq hIH148 sx_71 sx_64, eH148, aZ_sC_nc (by decide)]; exact h2, by show (aZ H178 72 n).toInt = _; rw [eH178, aZ_sC_nc (by decide), eH172, aZ_sC_nc (by decide), eH166, aZ_sC_nc (by decide), eH160, aZ_sC_eq hIH154 sx_72 sx_65, eH154, aZ_sC_nc (by decide), eH148, aZ_sC_nc (by decide)]; exact h3, by show (aZ H178 73 n).toInt = _; rw [eH178, aZ_sC_nc (by decide), eH172, aZ_sC_nc (by decide), eH166, aZ_sC_eq hIH160 sx_73 sx_66, eH160, aZ_sC_nc (by decide), eH154, aZ_sC_nc (by decide), eH148, aZ_sC_nc (by decide)]; exact h4, by show (aZ H178 74 n).toInt = _; rw [eH178, aZ_sC_nc (by decide), eH172, aZ_sC_eq hIH166 sx_74 sx_67, eH166, aZ_sC_nc (by decide), eH160, aZ_sC_nc (by decide), eH154, aZ_sC_nc (by decide), eH148, aZ_sC_nc (by decide)]; exact h5, by show (aZ H178 75 n).toInt = _; rw [eH178, aZ_sC_eq hIH172 sx_75 sx_68, eH172, aZ_sC_nc (by decide), eH166, aZ_sC_nc (by decide), eH160, aZ_sC_nc (by decide), eH154, aZ_sC_nc (by decide), eH148, aZ_sC_nc (by decide)]; exact h6, h7⟩)⟩
set_option maxRecDepth 4000 in
set_option maxHeartbeats 4000000 in
/-- X0.tryPairsWith -/
theorem w_4  (a1 : Int32) (ha1 : 0 ≤ a1.toInt ∧ a1.toInt ≤ 59) (a2 : Int32) (ha2 : 0 ≤ a2.toInt ∧ a2.toInt ≤ 60) (H : mzH) (hI : gI SX H) (hJ : JX H) (hp0 : gdY H) (hp1 : wdX H 55 (rnH H (hoX H) (olF a1.toInt.toNat (odX H)))) (hp2 : a2.toInt = rfL H (hoX H) (olF a1.toInt.toNat (odX H))) (hp3 : a1.toInt < (fZ H 25 2).toInt) (hp4 : blT H a1.toInt.toNat (a1.toInt.toNat + 1) (fZ H 54 9).toInt (fZ H 54 10).toInt (fZ H 54 11).toInt) : gCall 4 [.ref 54, .int a1, .int a2] H (gRv (fun H' => gI SX H' ∧ JX H' ∧ fZ H' 1 1 = fZ H 1 1 ∧ fZ H' 54 5 = fZ H 54 5 ∧ fZ H' 54 7 = fZ H 54 7 ∧ fZ H' 54 8 = fZ H 54 8 ∧ kpX H H' ∧ wdX H' 55 (rnH H (hoX H) (olF a1.toInt.toNat (odX H))) ∧ (fZ H' 54 6).toInt = (fZ H 54 6).toInt ∧ blT H a1.toInt.toNat (fZ H 25 2).toInt.toNat (fZ H' 54 9).toInt (fZ H' 54 10).toInt (fZ H' 54 11).toInt)) := by
  obtain ⟨k1_1, ek1_1⟩ : ∃ z, z = fZ H 1 1 := ⟨_, rfl⟩
  have ik1_1 : k1_1.toInt = (fZ H 1 1).toInt := by rw [← ek1_1]
  have bk1_1 : 0 ≤ k1_1.toInt ∧ k1_1.toInt ≤ 900 := by rw [ek1_1]; exact fZ_of hI sx_1 rfl
  obtain ⟨k54_5, ek54_5⟩ : ∃ z, z = fZ H 54 5 := ⟨_, rfl⟩
  have ik54_5 : k54_5.toInt = (fZ H 54 5).toInt := by rw [← ek54_5]
  have bk54_5 : 0 ≤ k54_5.toInt ∧ k54_5.toInt ≤ 1 := by rw [ek54_5]; exact fZ_of hI sx_54 rfl
  obtain ⟨k54_7, ek54_7⟩ : ∃ z, z = fZ H 54 7 := ⟨_, rfl⟩
  have ik54_7 : k54_7.toInt = (fZ H 54 7).toInt := by rw [← ek54_7]
  obtain ⟨k54_8, ek54_8⟩ : ∃ z, z = fZ H 54 8 := ⟨_, rfl⟩
  have ik54_8 : k54_8.toInt = (fZ H 54 8).toInt := by rw [← ek54_8]
  have mkfr : kpX H H := kpX_r
  refine gG_call [(0, .ref 54), (1, .int a1), (2, .int a2)] ⟨rfl, rfl, rfl, trivial⟩ ?_
  show gG 6 zB_4 (mzBlk zB_4 0) [(0, .ref 54), (1, .int a1), (2, .int a2)] [] H 0 0 _
  refine g_aload_n rfl ?_
  refine g_gfr hI sx_54 rfl ?_
  refine g_aload_n rfl ?_
  refine g_gfr hI sx_54 rfl ?_
  refine g_invvv hI sx_62 rfl rfl rfl rfl (wb_62_55 H hI hJ hp1) (fun H982 r983 => ?_)
  obtain ⟨hIH982, hJH982, w984, m985, p986⟩ := r983
  have e987 : k1_1 = fZ H982 1 1 := ek1_1.trans w984.symm
  have m988 : kpX H H982 := kpX_t mkfr (kpX_W (w := 62) (by decide) m985)
  have jf989 : (fZ H982 54 6).toInt = (fZ H 54 6).toInt := by rw [(m985 54 (by decide)).1 6]
  have jf990 : (fZ H982 54 9).toInt = (fZ H 54 9).toInt := by rw [(m985 54 (by decide)).1 9]
  have jf991 : (fZ H982 54 10).toInt = (fZ H 54 10).toInt := by rw [(m985 54 (by decide)).1 10]
  have jf992 : (fZ H982 54 11).toInt = (fZ H 54 11).toInt := by rw [(m985 54 (by decide)).1 11]
  have e993 : k54_5 = fZ H982 54 5 := ek54_5.trans ((m985 54 (by decide)).1 5).symm
  have e994 : k54_7 = fZ H982 54 7 := ek54_7.trans ((m985 54 (by decide)).1 7).symm
  have e995 : k54_8 = fZ H982 54 8 := ek54_8.trans ((m985 54 (by decide)).1 8).symm
  have wk996 : wdX H982 55 (rnH H (hoX H) (olF a1.toInt.toNat (odX H))) := wdX_n hp1 m985 (by decide)
  have wy62 : wdX H982 62 (rnH H (hoX H) (olF a1.toInt.toNat (odX H))) := p986
  refine g_iload_n rfl ?_
  refine g_istore_n (l' := [(0, .ref 54), (1, .int a1), (2, .int a2), (3, .int a2)]) rfl rfl ?_
  refine g_iload_n rfl ?_
  refine g_iconst (by decide) (fun v997 kv997 => ?_)
  refine g_iadd (by omega) (fun v998 ev998 => ?_)
  refine g_istore (l' := [(0, .ref 54), (1, .int a1), (2, .int a2), (3, .int a2), (4, .int v998)]) rfl rfl ?_
  refine g_nop ?_
  have L1007 : ∀ (N : Nat) (v999 : Int32) (v1000 : Int32) (H1001 : mzH), gI SX H1001 → JX H1001 → k1_1 = fZ H1001 1 1 → k54_5 = fZ H1001 54 5 → k54_7 = fZ H1001 54 7 → k54_8 = fZ H1001 54 8 → kpX H H1001 → (0 ≤ v999.toInt ∧ v999.toInt ≤ 60) → (1 ≤ v1000.toInt ∧ v1000.toInt ≤ 60) → wdX H1001 55 (rnH H (hoX H) (olF a1.toInt.toNat (odX H))) → wdX H1001 62 (rnH H (hoX H) (bhL (olF a1.toInt.toNat (odX H)) (odX H) (a1.toInt.toNat + 1) v1000.toInt.toNat)) → v999.toInt = rfL H (hoX H) (bhL (olF a1.toInt.toNat (odX H)) (odX H) (a1.toInt.toNat + 1) v1000.toInt.toNat) → (a1.toInt + 1 ≤ v1000.toInt ∧ v1000.toInt ≤ (fZ H 25 2).toInt) → blT H a1.toInt.toNat v1000.toInt.toNat (fZ H1001 54 9).toInt (fZ H1001 54 10).toInt (fZ H1001 54 11).toInt → (fZ H1001 54 6).toInt = (fZ H 54 6).toInt → (60 - v1000.toInt).toNat < N → gG 6 zB_4 (mzBlk zB_4 1) [(0, .ref 54), (1, .int a1), (2, .int a2), (3, .int v999), (4, .int v1000)] [] H1001 0 0 (gRv (fun H' => gI SX H' ∧ JX H' ∧ fZ H' 1 1 = fZ H 1 1 ∧ fZ H' 54 5 = fZ H 54 5 ∧ fZ H' 54 7 = fZ H 54 7 ∧ fZ H' 54 8 = fZ H 54 8 ∧ kpX H H' ∧ wdX H' 55 (rnH H (hoX H) (olF a1.toInt.toNat (odX H))) ∧ (fZ H' 54 6).toInt = (fZ H 54 6).toInt ∧ blT H a1.toInt.toNat (fZ H 25 2).toInt.toNat (fZ H' 54 9).toInt (fZ H' 54 10).toInt (fZ H' 54 11).toInt)) := by
    intro N
    induction N with
    | zero => intro v999 v1000 H1001 hIH1001 hJH1001 e1002 e1003 e1004 e1005 m1006 bv999 bv1000 q0 q1 q2 q3 q5 q6 hmL1007; exact absurd hmL1007 (Nat.not_lt_zero _)
    | succ N ihL1007 =>
      intro v999 v1000 H1001 hIH1001 hJH1001 e1002 e1003 e1004 e1005 m1006 bv999 bv1000 q0 q1 q2 q3 q5 q6 hmL1007
      have hb2 := bh_b q2 (by rw [olF_len]; omega) (by omega)
      have hsz := fZ_of hI sx_25 (f := 2) rfl
      refine g_iload rfl ?_
      refine g_aload_n rfl ?_
      refine g_gfr hIH1001 sx_54 rfl ?_
      refine g_gfi hIH1001 sx_25 rfl (fun v1008 ev1008 lv1008 uv1008 => ?_)
      have zv1008 : v1008.toInt = (fZ H 25 2).toInt := by rw [ev1008, (m1006 25 (by decide)).1]
      refine g_if2_ge (fun c1009 => ?_) (fun c1009 => ?_)
      · exact g_ret ⟨rfl, hIH1001, hJH1001, (e1002.symm.trans ek1_1), (e1003.symm.trans ek54_5), (e1004.symm.trans ek54_7), (e1005.symm.trans ek54_8), m1006, q0, (by omega), (by rw [show (fZ H 25 2).toInt.toNat = v1000.toInt.toNat by omega]; exact bt_c q5 rfl rfl rfl)⟩
      · refine g_aload_n rfl ?_
        refine g_gfr hIH1001 sx_54 rfl ?_
        refine g_aload_n rfl ?_
        refine g_gfr hIH1001 sx_54 rfl ?_
        refine g_invvv hIH1001 sx_69 rfl rfl rfl rfl (wb_69_62 H1001 hIH1001 hJH1001 q1) (fun H1010 r1011 => ?_)
        obtain ⟨hIH1010, hJH1010, w1012, m1013, p1014⟩ := r1011
        have e1015 : k1_1 = fZ H1010 1 1 := e1002.trans w1012.symm
        have m1016 : kpX H H1010 := kpX_t m1006 (kpX_W (w := 69) (by decide) m1013)
        have jf1017 : (fZ H1010 54 6).toInt = (fZ H1001 54 6).toInt := by rw [(m1013 54 (by decide)).1 6]
        have jf1018 : (fZ H1010 54 9).toInt = (fZ H1001 54 9).toInt := by rw [(m1013 54 (by decide)).1 9]
        have jf1019 : (fZ H1010 54 10).toInt = (fZ H1001 54 10).toInt := by rw [(m1013 54 (by decide)).1 10]
        have jf1020 : (fZ H1010 54 11).toInt = (fZ H1001 54 11).toInt := by rw [(m1013 54 (by decide)).1 11]
        have e1021 : k54_5 = fZ H1010 54 5 := e1003.trans ((m1013 54 (by decide)).1 5).symm
        have e1022 : k54_7 = fZ H1010 54 7 := e1004.trans ((m1013 54 (by decide)).1 7).symm
        have e1023 : k54_8 = fZ H1010 54 8 := e1005.trans ((m1013 54 (by decide)).1 8).symm
        have wk1024 : wdX H1010 55 (rnH H (hoX H) (olF a1.toInt.toNat (odX H))) := wdX_n q0 m1013 (by decide)
        have wk1025 : wdX H1010 62 (rnH H (hoX H) (bhL (olF a1.toInt.toNat (odX H)) (odX H) (a1.toInt.toNat + 1) v1000.toInt.toNat)) := wdX_n q1 m1013 (by decide)
        refine g_aload_n rfl ?_
        refine g_iload rfl ?_
        refine g_iload_n rfl ?_
        refine g_aload_n rfl ?_
        refine g_gfi hIH1010 sx_54 rfl (fun v1026 ev1026 lv1026 uv1026 => ?_)
        have iev1026 : v1026.toInt = (fZ H1010 54 11).toInt := by rw [← ev1026]
        refine g_invvi hIH1010 sx_54 rfl rfl rfl rfl (w_6 (l := (bhL (olF a1.toInt.toNat (odX H)) (odX H) (a1.toInt.toNat + 1) v1000.toInt.toNat)) v1000 (by omega) v999 (by omega) v1026 H1010 hIH1010 hJH1010 (gdY_kp m1016 hp0) (by rw [rnH_kx m1016]; exact p1014) (by rw [(m1016 25 (by decide)).1]; exact bh_lt hp0 (by omega) (by omega)) (by rw [bh_len, olF_len]; omega) (by rw [rfL_kx m1016]; exact q2) (by rw [(m1016 25 (by decide)).1]; omega)) (fun v1029 H1027 r1028 => ?_)
        obtain ⟨hIH1027, hJH1027, w1030, m1031, p1032⟩ := r1028
        have e1033 : k1_1 = fZ H1027 1 1 := e1015.trans w1030.symm
        have m1034 : kpX H H1027 := kpX_t m1016 (kpX_W (w := 69) (by decide) m1031)
        have jf1035 : (fZ H1027 54 6).toInt = (fZ H1010 54 6).toInt := by rw [(m1031 54 (by decide)).1 6]
        have jf1036 : (fZ H1027 54 9).toInt = (fZ H1010 54 9).toInt := by rw [(m1031 54 (by decide)).1 9]
        have jf1037 : (fZ H1027 54 10).toInt = (fZ H1010 54 10).toInt := by rw [(m1031 54 (by decide)).1 10]
        have jf1038 : (fZ H1027 54 11).toInt = (fZ H1010 54 11).toInt := by rw [(m1031 54 (by decide)).1 11]
        have e1039 : k54_5 = fZ H1027 54 5 := e1021.trans ((m1031 54 (by decide)).1 5).symm
        have e1040 : k54_7 = fZ H1027 54 7 := e1022.trans ((m1031 54 (by decide)).1 7).symm
        have e1041 : k54_8 = fZ H1027 54 8 := e1023.trans ((m1031 54 (by decide)).1 8).symm
        have wk1042 : wdX H1027 55 (rnH H (hoX H) (olF a1.toInt.toNat (odX H))) := wdX_n wk1024 m1031 (by decide)
        have wk1043 : wdX H1027 62 (rnH H (hoX H) (bhL (olF a1.toInt.toNat (odX H)) (odX H) (a1.toInt.toNat + 1) v1000.toInt.toNat)) := wdX_n wk1025 m1031 (by decide)
        have rbv1029 : rbR v1029.toInt (fZ H1001 54 11).toInt (tT H a1.toInt.toNat v1000.toInt.toNat) := by have z := p1032; rw [rfL_kq m1016, show v1026.toInt = (fZ H1001 54 11).toInt by omega] at z; exact z
        refine g_istore (l' := [(0, .ref 54), (1, .int a1), (2, .int a2), (3, .int v999), (4, .int v1000), (5, .int v1029)]) rfl rfl ?_
        refine g_aload_n rfl ?_
        refine g_aload_n rfl ?_
        refine g_gfr hIH1027 sx_54 rfl ?_
        refine g_gfr hIH1027 sx_25 rfl ?_
        refine g_iload_n rfl ?_
        refine g_iaload hIH1027 sx_27 rfl (by omega) (fun v1044 ev1044 lv1044 uv1044 => ?_)
        have zv1044 : v1044.toInt = (odX H a1.toInt.toNat : Int) := by have z : odX H a1.toInt.toNat = v1044.toInt.toNat := (by rw [← od_kp m1034, ev1044]; rfl); omega
        refine g_aload_n rfl ?_
        refine g_gfr hIH1027 sx_54 rfl ?_
        refine g_gfr hIH1027 sx_25 rfl ?_
        refine g_iload rfl ?_
        refine g_iaload hIH1027 sx_27 rfl (by omega) (fun v1045 ev1045 lv1045 uv1045 => ?_)
        have zv1045 : v1045.toInt = (odX H v1000.toInt.toNat : Int) := by have z : odX H v1000.toInt.toNat = v1045.toInt.toNat := (by rw [← od_kp m1034, ev1045]; rfl); omega
        refine g_min rfl (fun v1046 av1046 bv1046 dv1046 => ?_)
        refine g_aload_n rfl ?_
        refine g_gfr hIH1027 sx_54 rfl ?_
        refine g_gfr hIH1027 sx_25 rfl ?_
        refine g_iload_n rfl ?_
        refine g_ialoadk hIH1027 sx_27 rfl (by omega) ev1044 ?_
        refine g_aload_n rfl ?_
        refine g_gfr hIH1027 sx_54 rfl ?_
        refine g_gfr hIH1027 sx_25 rfl ?_
        refine g_iload rfl ?_
        refine g_ialoadk hIH1027 sx_27 rfl (by omega) ev1045 ?_
        refine g_max rfl (fun v1047 av1047 bv1047 dv1047 => ?_)
        refine g_iload rfl ?_
        refine g_invvv hIH1027 sx_54 rfl rfl rfl rfl (w_5 v1046 v1047 v1029 H1027 hIH1027 hJH1027) (fun H1048 r1049 => ?_)
        obtain ⟨hIH1048, hJH1048, w1050, w1051, w1052, w1053, w1054, m1055, m1056, p1057⟩ := r1049
        have e1058 : k1_1 = fZ H1048 1 1 := e1033.trans w1050.symm
        have e1059 : k54_5 = fZ H1048 54 5 := e1039.trans w1051.symm
        have e1060 : k54_7 = fZ H1048 54 7 := e1040.trans w1053.symm
        have e1061 : k54_8 = fZ H1048 54 8 := e1041.trans w1054.symm
        have iw1052 : (fZ H1048 54 6).toInt = (fZ H1027 54 6).toInt := by rw [w1052]
        have m1062 : kpX H H1048 := kpX_t m1034 m1055
        have wk1063 : wdX H1048 55 (rnH H (hoX H) (olF a1.toInt.toNat (odX H))) := wd_all wk1042 m1056
        have wk1064 : wdX H1048 62 (rnH H (hoX H) (bhL (olF a1.toInt.toNat (odX H)) (odX H) (a1.toInt.toNat + 1) v1000.toInt.toNat)) := wd_all wk1043 m1056
        obtain ⟨mm1, mm2⟩ := mn_of (p := a1.toInt.toNat) (q := v1000.toInt.toNat) zv1044 zv1045 ⟨av1046, bv1046, dv1046⟩ ⟨av1047, bv1047, dv1047⟩
        have bt : blT H a1.toInt.toNat (v1000.toInt.toNat + 1) (fZ H1048 54 9).toInt (fZ H1048 54 10).toInt (fZ H1048 54 11).toInt := by
          rcases p1057 with ⟨c, e1, e2, e3⟩ | ⟨c, e1, e2, e3⟩
          · exact bt_y q5 rfl (by omega) (by omega) rbv1029 (by omega) (by omega) (by omega) (by omega)
          · exact bt_n q5 rfl (by omega) (by omega) (by omega) rbv1029 (by omega) (by omega) (by omega) (by omega)
        refine g_iload_n rfl ?_
        refine g_aload_n rfl ?_
        refine g_iload rfl ?_
        refine g_aload_n rfl ?_
        refine g_gfr hIH1048 sx_54 rfl ?_
        refine g_invvi hIH1048 sx_54 rfl rfl rfl rfl (w62_7 v1000 (by omega) H1048 hIH1048 hJH1048 (gdY_kp m1062 hp0) wk1064 (bh_wf hp0 (ol_lt hp0 (by omega)) (by omega)) (by rw [(m1062 25 (by decide)).1]; omega)) (fun v1067 H1065 r1066 => ?_)
        obtain ⟨hIH1065, hJH1065, bv1067, w1068, m1069, p1070, p1071⟩ := r1066
        have e1072 : k1_1 = fZ H1065 1 1 := e1058.trans w1068.symm
        have m1073 : kpX H H1065 := kpX_t m1062 (kpX_W (w := 62) (by decide) m1069)
        have jf1074 : (fZ H1065 54 6).toInt = (fZ H1048 54 6).toInt := by rw [(m1069 54 (by decide)).1 6]
        have jf1075 : (fZ H1065 54 9).toInt = (fZ H1048 54 9).toInt := by rw [(m1069 54 (by decide)).1 9]
        have jf1076 : (fZ H1065 54 10).toInt = (fZ H1048 54 10).toInt := by rw [(m1069 54 (by decide)).1 10]
        have jf1077 : (fZ H1065 54 11).toInt = (fZ H1048 54 11).toInt := by rw [(m1069 54 (by decide)).1 11]
        have e1078 : k54_5 = fZ H1065 54 5 := e1059.trans ((m1069 54 (by decide)).1 5).symm
        have e1079 : k54_7 = fZ H1065 54 7 := e1060.trans ((m1069 54 (by decide)).1 7).symm
        have e1080 : k54_8 = fZ H1065 54 8 := e1061.trans ((m1069 54 (by decide)).1 8).symm
        have rav1067 := p1071
        rw [vdH_kx m1062, od_kp m1062] at rav1067
        have wk1081 : wdX H1065 55 (rnH H (hoX H) (olF a1.toInt.toNat (odX H))) := wdX_n wk1063 m1069 (by decide)
        have wrv1067 : wdX H1065 62 (stH H (hoX H) (rnH H (hoX H) (bhL (olF a1.toInt.toNat (odX H)) (odX H) (a1.toInt.toNat + 1) v1000.toInt.toNat)) (odX H v1000.toInt.toNat)) := by have z := p1070; rw [stH_kx m1062, od_kp m1062] at z; exact z
        refine g_iadd (by omega) (fun v1082 ev1082 => ?_)
        refine g_istore_n (l' := [(0, .ref 54), (1, .int a1), (2, .int a2), (3, .int v1082), (4, .int v1000), (5, .int v1029)]) rfl rfl ?_
        refine g_iinc (l' := (fun v1083 => [(0, .ref 54), (1, .int a1), (2, .int a2), (3, .int v1082), (4, .int v1083), (5, .int v1029)])) rfl rfl (by decide) (by omega) (fun _ => rfl) (fun v1083 ev1083 => ?_)
        refine g_goto ?_
        refine gG_pick [0, 1, 2, 3, 4] (l' := [(0, .ref 54), (1, .int a1), (2, .int a2), (3, .int v1082), (4, .int v1083)]) rfl ?_
        exact ihL1007 v1082 v1083 H1065 hIH1065 hJH1065 e1072 e1078 e1079 e1080 m1073 (by omega) (by omega) wk1081 (by rw [show v1083.toInt.toNat = v1000.toInt.toNat + 1 by omega, bh_s (by omega)]; exact wd_rn wrv1067 rfl) (rb_su q2 (by omega) (by omega) rav1067 (by omega)) (by omega) (by rw [show v1083.toInt.toNat = v1000.toInt.toNat + 1 by omega]; exact bt_c bt (by omega) (by omega) (by omega)) (by omega) (by omega)
  exact L1007 _ a2 v998 H982 hIH982 hJH982 e987 e993 e994 e995 m988 (by omega) (by omega) wk996 (by rw [show v998.toInt.toNat = a1.toInt.toNat + 1 by omega, bh_0 (Nat.le_refl _)]; exact wy62) (by rw [show v998.toInt.toNat = a1.toInt.toNat + 1 by omega, bh_0 (Nat.le_refl _)]; exact hp2) (by omega) (by rw [show v998.toInt.toNat = a1.toInt.toNat + 1 by omega]; exact bt_c hp4 (by omega) (by omega) (by omega)) (by omega) (Nat.lt_succ_self _)
set_option maxRecDepth 4000 in
set_option maxHeartbeats 4000000 in
/-- X0.findTwo -/
theorem w_3  (H : mzH) (hI : gI SX H) (hJ : JX H) (hp0 : gdY H) (hp1 : btK H H) : gCall 3 [.ref 54] H (gRv (fun H' => gI SX H' ∧ JX H' ∧ fZ H' 1 1 = fZ H 1 1 ∧ fZ H' 54 5 = fZ H 54 5 ∧ fZ H' 54 7 = fZ H 54 7 ∧ fZ H' 54 8 = fZ H 54 8 ∧ kpX H H' ∧ (fZ H' 54 6).toInt = 1 ∧ blT H (fZ H 25 2).toInt.toNat ((fZ H 25 2).toInt.toNat + 1) (fZ H' 54 9).toInt (fZ H' 54 10).toInt (fZ H' 54 11).toInt)) := by
  obtain ⟨k1_1, ek1_1⟩ : ∃ z, z = fZ H 1 1 := ⟨_, rfl⟩
  have ik1_1 : k1_1.toInt = (fZ H 1 1).toInt := by rw [← ek1_1]
  have bk1_1 : 0 ≤ k1_1.toInt ∧ k1_1.toInt ≤ 900 := by rw [ek1_1]; exact fZ_of hI sx_1 rfl
  obtain ⟨k54_5, ek54_5⟩ : ∃ z, z = fZ H 54 5 := ⟨_, rfl⟩
  have ik54_5 : k54_5.toInt = (fZ H 54 5).toInt := by rw [← ek54_5]
  have bk54_5 : 0 ≤ k54_5.toInt ∧ k54_5.toInt ≤ 1 := by rw [ek54_5]; exact fZ_of hI sx_54 rfl
  obtain ⟨k54_7, ek54_7⟩ : ∃ z, z = fZ H 54 7 := ⟨_, rfl⟩
  have ik54_7 : k54_7.toInt = (fZ H 54 7).toInt := by rw [← ek54_7]
  obtain ⟨k54_8, ek54_8⟩ : ∃ z, z = fZ H 54 8 := ⟨_, rfl⟩
  have ik54_8 : k54_8.toInt = (fZ H 54 8).toInt := by rw [← ek54_8]
  have mkfr : kpX H H := kpX_r
  refine gG_call [(0, .ref 54)] ⟨rfl, trivial⟩ ?_
  show gG 3 zB_3 (mzBlk zB_3 0) [(0, .ref 54)] [] H 0 0 _
  refine g_aload_n rfl ?_
  refine g_gfi hI sx_54 rfl (fun v883 ev883 lv883 uv883 => ?_)
  have iev883 : v883.toInt = (fZ H 54 6).toInt := by rw [← ev883]
  refine g_if_eq (fun c884 => ?_) (fun c884 => ?_)
  · refine g_aload_n rfl ?_
    refine g_iconst (by decide) (fun v885 kv885 => ?_)
    refine g_pfz hI sx_54 rfl (by omega) (fun H886 eH886 hIH886 => ?_)
    have hJH886 : JX H886 := JX_sF eH886 hJ
    have e887 : k1_1 = fZ H886 1 1 := by rw [eH886, fZ_sF_nc (by omega)]; exact ek1_1
    have e888 : k54_5 = fZ H886 54 5 := by rw [eH886, fZ_sF_ne (by decide)]; exact ek54_5
    have e889 : k54_7 = fZ H886 54 7 := by rw [eH886, fZ_sF_ne (by decide)]; exact ek54_7
    have e890 : k54_8 = fZ H886 54 8 := by rw [eH886, fZ_sF_ne (by decide)]; exact ek54_8
    have e891 : v885 = fZ H886 54 6 := by rw [eH886, fZ_sF_eq hI sx_54 rfl]
    have m892 : kpX H H886 := kpX_F mkfr eH886 (by omega)
    have jj893_9 : (fZ H886 54 9).toInt = (fZ H 54 9).toInt := by rw [eH886, fZ_sF_ne (by decide)]
    have jj894_10 : (fZ H886 54 10).toInt = (fZ H 54 10).toInt := by rw [eH886, fZ_sF_ne (by decide)]
    have jj895_11 : (fZ H886 54 11).toInt = (fZ H 54 11).toInt := by rw [eH886, fZ_sF_ne (by decide)]
    have ie891 : v885.toInt = (fZ H886 54 6).toInt := by rw [← e891]
    refine g_aload_n rfl ?_
    refine g_bipush (by decide) (fun v896 kv896 => ?_)
    refine g_pfi hIH886 sx_54 rfl (gz_any _) (fun H897 eH897 hIH897 => ?_)
    have hJH897 : JX H897 := JX_sF eH897 hJH886
    have e898 : k1_1 = fZ H897 1 1 := by rw [eH897, fZ_sF_nc (by omega)]; exact e887
    have e899 : k54_5 = fZ H897 54 5 := by rw [eH897, fZ_sF_ne (by decide)]; exact e888
    have e900 : k54_7 = fZ H897 54 7 := by rw [eH897, fZ_sF_ne (by decide)]; exact e889
    have e901 : k54_8 = fZ H897 54 8 := by rw [eH897, fZ_sF_ne (by decide)]; exact e890
    have e902 : v885 = fZ H897 54 6 := by rw [eH897, fZ_sF_ne (by decide)]; exact e891
    have e903 : v896 = fZ H897 54 11 := by rw [eH897, fZ_sF_eq hIH886 sx_54 rfl]
    have m904 : kpX H H897 := kpX_F m892 eH897 (by omega)
    have jj905_9 : (fZ H897 54 9).toInt = (fZ H886 54 9).toInt := by rw [eH897, fZ_sF_ne (by decide)]
    have jj906_10 : (fZ H897 54 10).toInt = (fZ H886 54 10).toInt := by rw [eH897, fZ_sF_ne (by decide)]
    have ie902 : v885.toInt = (fZ H897 54 6).toInt := by rw [← e902]
    have ie903 : v896.toInt = (fZ H897 54 11).toInt := by rw [← e903]
    refine g_aload_n rfl ?_
    refine g_gfr hIH897 sx_54 rfl ?_
    refine g_invvv hIH897 sx_55 rfl rfl rfl rfl (w_83 55 zWo_55 H897 hIH897 hJH897) (fun H907 r908 => ?_)
    obtain ⟨hIH907, hJH907, w909, m910, p911⟩ := r908
    have e912 : k1_1 = fZ H907 1 1 := e898.trans w909.symm
    have m913 : kpX H H907 := kpX_t m904 (kpX_W (by decide) m910)
    have jf914 : (fZ H907 54 6).toInt = (fZ H897 54 6).toInt := by rw [(m910 54 (by decide)).1 6]
    have jf915 : (fZ H907 54 9).toInt = (fZ H897 54 9).toInt := by rw [(m910 54 (by decide)).1 9]
    have jf916 : (fZ H907 54 10).toInt = (fZ H897 54 10).toInt := by rw [(m910 54 (by decide)).1 10]
    have jf917 : (fZ H907 54 11).toInt = (fZ H897 54 11).toInt := by rw [(m910 54 (by decide)).1 11]
    have e918 : k54_5 = fZ H907 54 5 := e899.trans ((m910 54 (by decide)).1 5).symm
    have e919 : k54_7 = fZ H907 54 7 := e900.trans ((m910 54 (by decide)).1 7).symm
    have e920 : k54_8 = fZ H907 54 8 := e901.trans ((m910 54 (by decide)).1 8).symm
    have wz0 : wdX H907 55 (rnH H (hoX H) (olF 0 (odX H))) := p911
    refine g_iconst (by decide) (fun v921 kv921 => ?_)
    refine g_istore_n (l' := [(0, .ref 54), (1, .int v921)]) rfl rfl ?_
    refine g_iconst (by decide) (fun v922 kv922 => ?_)
    refine g_istore_n (l' := [(0, .ref 54), (1, .int v921), (2, .int v922)]) rfl rfl ?_
    refine g_nop ?_
    have L931 : ∀ (N : Nat) (v923 : Int32) (v924 : Int32) (H925 : mzH), gI SX H925 → JX H925 → k1_1 = fZ H925 1 1 → k54_5 = fZ H925 54 5 → k54_7 = fZ H925 54 7 → k54_8 = fZ H925 54 8 → kpX H H925 → (0 ≤ v923.toInt ∧ v923.toInt ≤ 60) → (0 ≤ v924.toInt ∧ v924.toInt ≤ 60) → wdX H925 55 (rnH H (hoX H) (olF v924.toInt.toNat (odX H))) → v923.toInt = rfL H (hoX H) (olF v924.toInt.toNat (odX H)) → (v924.toInt ≤ (fZ H 25 2).toInt ∧ 0 ≤ v923.toInt ∧ v923.toInt ≤ v924.toInt) → blT H v924.toInt.toNat (v924.toInt.toNat + 1) (fZ H925 54 9).toInt (fZ H925 54 10).toInt (fZ H925 54 11).toInt → (fZ H925 54 6).toInt = 1 → (60 - v924.toInt).toNat < N → gG 3 zB_3 (mzBlk zB_3 2) [(0, .ref 54), (1, .int v923), (2, .int v924)] [] H925 0 0 (gRv (fun H' => gI SX H' ∧ JX H' ∧ fZ H' 1 1 = fZ H 1 1 ∧ fZ H' 54 5 = fZ H 54 5 ∧ fZ H' 54 7 = fZ H 54 7 ∧ fZ H' 54 8 = fZ H 54 8 ∧ kpX H H' ∧ (fZ H' 54 6).toInt = 1 ∧ blT H (fZ H 25 2).toInt.toNat ((fZ H 25 2).toInt.toNat + 1) (fZ H' 54 9).toInt (fZ H' 54 10).toInt (fZ H' 54 11).toInt)) := by
      intro N
      induction N with
      | zero => intro v923 v924 H925 hIH925 hJH925 e926 e927 e928 e929 m930 bv923 bv924 q1 q2 q3 q4 q5 hmL931; exact absurd hmL931 (Nat.not_lt_zero _)
      | succ N ihL931 =>
        intro v923 v924 H925 hIH925 hJH925 e926 e927 e928 e929 m930 bv923 bv924 q1 q2 q3 q4 q5 hmL931
        have hsz := fZ_of hI sx_25 (f := 2) rfl
        refine g_iload_n rfl ?_
        refine g_aload_n rfl ?_
        refine g_gfr hIH925 sx_54 rfl ?_
        refine g_gfi hIH925 sx_25 rfl (fun v932 ev932 lv932 uv932 => ?_)
        have zv932 : v932.toInt = (fZ H 25 2).toInt := by rw [ev932, (m930 25 (by decide)).1]
        refine g_if2_ge (fun c933 => ?_) (fun c933 => ?_)
        · exact g_ret ⟨rfl, hIH925, hJH925, (e926.symm.trans ek1_1), (e927.symm.trans ek54_5), (e928.symm.trans ek54_7), (e929.symm.trans ek54_8), m930, (by omega), (by rw [show (fZ H 25 2).toInt.toNat = v924.toInt.toNat by omega]; exact q4)⟩
        · refine g_aload_n rfl ?_
          refine g_iload_n rfl ?_
          refine g_iload_n rfl ?_
          refine g_invvv hIH925 sx_54 rfl rfl rfl rfl (w_4 v924 (by omega) v923 (by omega) H925 hIH925 hJH925 (gdY_kp m930 hp0) (by rw [rnH_kx m930, od_kp m930]; exact q1) (by rw [rfL_kx m930, od_kp m930]; exact q2) (by rw [(m930 25 (by decide)).1]; omega) (blT_kx m930 (bt_c q4 (by omega) (by omega) (by omega)))) (fun H934 r935 => ?_)
          obtain ⟨hIH934, hJH934, w936, w937, w938, w939, m940, p941, p942, p943⟩ := r935
          have e944 : k1_1 = fZ H934 1 1 := e926.trans w936.symm
          have e945 : k54_5 = fZ H934 54 5 := e927.trans w937.symm
          have e946 : k54_7 = fZ H934 54 7 := e928.trans w938.symm
          have e947 : k54_8 = fZ H934 54 8 := e929.trans w939.symm
          have m948 : kpX H H934 := kpX_t m930 m940
          have wt : wdX H934 55 (rnH H (hoX H) (olF v924.toInt.toNat (odX H))) := by have z := p941; rw [rnH_kx m930, od_kp m930] at z; exact z
          have j6 := p942
          have bt : blT H v924.toInt.toNat (fZ H 25 2).toInt.toNat (fZ H934 54 9).toInt (fZ H934 54 10).toInt (fZ H934 54 11).toInt := by have z := p943; rw [(m930 25 (by decide)).1] at z; exact blT_xk m930 z
          refine g_iload_n rfl ?_
          refine g_aload_n rfl ?_
          refine g_iload_n rfl ?_
          refine g_aload_n rfl ?_
          refine g_gfr hIH934 sx_54 rfl ?_
          refine g_invvi hIH934 sx_54 rfl rfl rfl rfl (w55_7 v924 (by omega) H934 hIH934 hJH934 (gdY_kp m948 hp0) wt (rn_ol hp0 (by omega)) (by rw [(m948 25 (by decide)).1]; omega)) (fun v951 H949 r950 => ?_)
          obtain ⟨hIH949, hJH949, bv951, w952, m953, p954, p955⟩ := r950
          have e956 : k1_1 = fZ H949 1 1 := e944.trans w952.symm
          have m957 : kpX H H949 := kpX_t m948 (kpX_W (w := 55) (by decide) m953)
          have jf958 : (fZ H949 54 6).toInt = (fZ H934 54 6).toInt := by rw [(m953 54 (by decide)).1 6]
          have jf959 : (fZ H949 54 9).toInt = (fZ H934 54 9).toInt := by rw [(m953 54 (by decide)).1 9]
          have jf960 : (fZ H949 54 10).toInt = (fZ H934 54 10).toInt := by rw [(m953 54 (by decide)).1 10]
          have jf961 : (fZ H949 54 11).toInt = (fZ H934 54 11).toInt := by rw [(m953 54 (by decide)).1 11]
          have e962 : k54_5 = fZ H949 54 5 := e945.trans ((m953 54 (by decide)).1 5).symm
          have e963 : k54_7 = fZ H949 54 7 := e946.trans ((m953 54 (by decide)).1 7).symm
          have e964 : k54_8 = fZ H949 54 8 := e947.trans ((m953 54 (by decide)).1 8).symm
          have rav951 := p955
          rw [vdH_kx m948, od_kp m948] at rav951
          have wrv951 : wdX H949 55 (rnH H (hoX H) (olF (v924.toInt.toNat + 1) (odX H))) := by have z := p954; rw [stH_kx m948, od_kp m948] at z; exact wd_rn z olF_s
          refine g_iadd (by omega) (fun v965 ev965 => ?_)
          refine g_istore_n (l' := [(0, .ref 54), (1, .int v965), (2, .int v924)]) rfl rfl ?_
          refine g_iinc (l' := (fun v966 => [(0, .ref 54), (1, .int v965), (2, .int v966)])) rfl rfl (by decide) (by omega) (fun _ => rfl) (fun v966 ev966 => ?_)
          refine g_goto ?_
          exact ihL931 v965 v966 H949 hIH949 hJH949 e956 e962 e963 e964 m957 (by omega) (by omega) (by rw [show v966.toInt.toNat = v924.toInt.toNat + 1 by omega]; exact wrv951) (rf_ol q2 (by omega) rav951 (by omega)) (by omega) (bt_c (bt_r bt (Nat.le_refl _) (show v966.toInt.toNat = v924.toInt.toNat + 1 by omega) rfl) (by omega) (by omega) (by omega)) (by omega) (by omega)
    exact L931 _ v921 v922 H907 hIH907 hJH907 e912 e918 e919 e920 m913 (by omega) (by omega) (by rw [show v922.toInt.toNat = 0 by omega]; exact wz0) (by rw [show v922.toInt.toNat = 0 by omega]; show _ = (0 : Int); omega) (by have := fZ_of hI sx_25 (f := 2) rfl; omega) (bt_0 (by omega) (by omega) (by omega)) (by omega) (Nat.lt_succ_self _)
  · exact g_ret ⟨rfl, hI, hJ, (ek1_1.symm.trans ek1_1), (ek54_5.symm.trans ek54_5), (ek54_7.symm.trans ek54_7), (ek54_8.symm.trans ek54_8), mkfr, (by omega), (hp1 (by omega))⟩
set_option maxRecDepth 4000 in
set_option maxHeartbeats 4000000 in
/-- X9.twoBlamed -/
theorem w_130  (a1 : Int32) (H : mzH) (hI : gI SX H) (hJ : JX H) (hp0 : gdY H) (hp1 : btK H H) : gCall 130 [.ref 0, .int a1] H (gRi (fun v H' => gI SX H' ∧ JX H' ∧ fZ H' 1 1 = fZ H 1 1 ∧ fZ H' 54 5 = fZ H 54 5 ∧ fZ H' 54 7 = fZ H 54 7 ∧ fZ H' 54 8 = fZ H 54 8 ∧ kpX H H' ∧ ((v.toInt = -1 ∧ ¬ (0 ≤ a1.toInt ∧ a1.toInt ≤ 2)) ∨ ((0 ≤ a1.toInt ∧ a1.toInt ≤ 2) ∧ (((fZ H 3 9).toInt < 2 ∧ v.toInt = -2) ∨ (¬ (fZ H 3 9).toInt < 2 ∧ btA H a1.toInt v.toInt)))) ∧ btK H H')) := by
  obtain ⟨k1_1, ek1_1⟩ : ∃ z, z = fZ H 1 1 := ⟨_, rfl⟩
  have ik1_1 : k1_1.toInt = (fZ H 1 1).toInt := by rw [← ek1_1]
  have bk1_1 : 0 ≤ k1_1.toInt ∧ k1_1.toInt ≤ 900 := by rw [ek1_1]; exact fZ_of hI sx_1 rfl
  obtain ⟨k54_5, ek54_5⟩ : ∃ z, z = fZ H 54 5 := ⟨_, rfl⟩
  have ik54_5 : k54_5.toInt = (fZ H 54 5).toInt := by rw [← ek54_5]
  have bk54_5 : 0 ≤ k54_5.toInt ∧ k54_5.toInt ≤ 1 := by rw [ek54_5]; exact fZ_of hI sx_54 rfl
  obtain ⟨k54_7, ek54_7⟩ : ∃ z, z = fZ H 54 7 := ⟨_, rfl⟩
  have ik54_7 : k54_7.toInt = (fZ H 54 7).toInt := by rw [← ek54_7]
  obtain ⟨k54_8, ek54_8⟩ : ∃ z, z = fZ H 54 8 := ⟨_, rfl⟩
  have ik54_8 : k54_8.toInt = (fZ H 54 8).toInt := by rw [← ek54_8]
  obtain ⟨k3_9, ek3_9⟩ : ∃ z, z = fZ H 3 9 := ⟨_, rfl⟩
  have ik3_9 : k3_9.toInt = (fZ H 3 9).toInt := by rw [← ek3_9]
  have bk3_9 : 0 ≤ k3_9.toInt ∧ k3_9.toInt ≤ 60 := by rw [ek3_9]; exact fZ_of hI sx_3 rfl
  have mkfr : kpX H H := kpX_r
  refine gG_call [(0, .ref 0), (1, .int a1)] ⟨rfl, rfl, trivial⟩ ?_
  show gG 2 zB_130 (mzBlk zB_130 0) [(0, .ref 0), (1, .int a1)] [] H 0 0 _
  refine g_iload_n rfl ?_
  refine g_if_lt (fun c113 => ?_) (fun c113 => ?_)
  · refine g_iconst (by decide) (fun v114 kv114 => ?_)
    exact g_iret ⟨_, rfl, hI, hJ, (ek1_1.symm.trans ek1_1), (ek54_5.symm.trans ek54_5), (ek54_7.symm.trans ek54_7), (ek54_8.symm.trans ek54_8), mkfr, (Or.inl ⟨by omega, by omega⟩), hp1⟩
  · refine g_iload_n rfl ?_
    refine g_iconst (by decide) (fun v115 kv115 => ?_)
    refine g_if2_le (fun c116 => ?_) (fun c116 => ?_)
    · refine g_aload_n rfl ?_
      refine g_gfr hI sx_0 rfl ?_
      refine g_gfk hI sx_3 rfl ek3_9 ?_
      refine g_iconst (by decide) (fun v117 kv117 => ?_)
      refine g_if2_ge (fun c118 => ?_) (fun c118 => ?_)
      · refine g_aload_n rfl ?_
        refine g_gfr hI sx_0 rfl ?_
        refine g_invvv hI sx_54 rfl rfl rfl rfl (w_3 H hI hJ hp0 hp1) (fun H119 r120 => ?_)
        obtain ⟨hIH119, hJH119, w121, w122, w123, w124, m125, p126, p127⟩ := r120
        have e128 : k1_1 = fZ H119 1 1 := ek1_1.trans w121.symm
        have e129 : k54_5 = fZ H119 54 5 := ek54_5.trans w122.symm
        have e130 : k54_7 = fZ H119 54 7 := ek54_7.trans w123.symm
        have e131 : k54_8 = fZ H119 54 8 := ek54_8.trans w124.symm
        have m132 : kpX H H119 := kpX_t mkfr m125
        have fb := p127
        refine g_iload_n rfl ?_
        refine g_iconst (by decide) (fun v133 kv133 => ?_)
        refine g_if2_ne (fun c134 => ?_) (fun c134 => ?_)
        · refine g_iload_n rfl ?_
          refine g_if_ne (fun c135 => ?_) (fun c135 => ?_)
          · refine g_aload_n rfl ?_
            refine g_gfr hIH119 sx_0 rfl ?_
            refine g_gfi hIH119 sx_54 rfl (fun v136 ev136 lv136 uv136 => ?_)
            have iev136 : v136.toInt = (fZ H119 54 10).toInt := by rw [← ev136]
            refine g_nop ?_
            exact g_iret ⟨_, rfl, hIH119, hJH119, (e128.symm.trans ek1_1), (e129.symm.trans ek54_5), (e130.symm.trans ek54_7), (e131.symm.trans ek54_8), m132, (Or.inr ⟨by omega, Or.inr ⟨by omega, _, _, _, fb, by rw [if_neg (by omega), if_pos (by omega)]; omega⟩⟩), (fun _ => fb)⟩
          · refine g_aload_n rfl ?_
            refine g_gfr hIH119 sx_0 rfl ?_
            refine g_gfi hIH119 sx_54 rfl (fun v137 ev137 lv137 uv137 => ?_)
            have iev137 : v137.toInt = (fZ H119 54 9).toInt := by rw [← ev137]
            refine g_goto ?_
            exact g_iret ⟨_, rfl, hIH119, hJH119, (e128.symm.trans ek1_1), (e129.symm.trans ek54_5), (e130.symm.trans ek54_7), (e131.symm.trans ek54_8), m132, (Or.inr ⟨by omega, Or.inr ⟨by omega, _, _, _, fb, by rw [if_pos (by omega)]; omega⟩⟩), (fun _ => fb)⟩
        · refine g_aload_n rfl ?_
          refine g_gfr hIH119 sx_0 rfl ?_
          refine g_gfi hIH119 sx_54 rfl (fun v138 ev138 lv138 uv138 => ?_)
          have iev138 : v138.toInt = (fZ H119 54 11).toInt := by rw [← ev138]
          exact g_iret ⟨_, rfl, hIH119, hJH119, (e128.symm.trans ek1_1), (e129.symm.trans ek54_5), (e130.symm.trans ek54_7), (e131.symm.trans ek54_8), m132, (Or.inr ⟨by omega, Or.inr ⟨by omega, _, _, _, fb, by rw [if_neg (by omega), if_neg (by omega)]; omega⟩⟩), (fun _ => fb)⟩
      · refine g_bipush (by decide) (fun v139 kv139 => ?_)
        exact g_iret ⟨_, rfl, hI, hJ, (ek1_1.symm.trans ek1_1), (ek54_5.symm.trans ek54_5), (ek54_7.symm.trans ek54_7), (ek54_8.symm.trans ek54_8), mkfr, (Or.inr ⟨by omega, Or.inl ⟨by omega, by omega⟩⟩), hp1⟩
    · refine g_nop ?_
      refine g_iconst (by decide) (fun v140 kv140 => ?_)
      exact g_iret ⟨_, rfl, hI, hJ, (ek1_1.symm.trans ek1_1), (ek54_5.symm.trans ek54_5), (ek54_7.symm.trans ek54_7), (ek54_8.symm.trans ek54_8), mkfr, (Or.inl ⟨by omega, by omega⟩), hp1⟩
