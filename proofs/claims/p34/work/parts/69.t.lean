theorem or_5 {v a d : Int32} {w : Int} (o : v = a ||| d) (ha : a.toInt = w * 32) (hw : 0 ≤ w ∧ w < 33554432) (hd : 0 ≤ d.toInt ∧ d.toInt < 32) : v.toInt = w * 32 + d.toInt := by
  have tn : ∀ x : Int32, 0 ≤ x.toInt → x.toInt = (x.toBitVec.toNat : Int) := fun x hx => by
    have h1 := BitVec.toInt_eq_toNat_cond x.toBitVec
    have h2 : x.toInt = x.toBitVec.toInt := rfl
    have h3 := x.toBitVec.isLt
    rw [h2] at hx ⊢
    split at h1 <;> omega
  have e1 := tn a (by first | with_reducible assumption | omega)
  have e2 := tn d (by first | with_reducible assumption | omega)
  have e3 : v.toBitVec.toNat = a.toBitVec.toNat ||| d.toBitVec.toNat := by
    rw [o]
    exact BitVec.toNat_or ..
  have e4 : a.toBitVec.toNat = w.toNat <<< 5 := by
    rw [Nat.shiftLeft_eq]
    omega
  have hd2 : d.toBitVec.toNat < 2 ^ 5 := by omega
  rw [e4, ← Nat.shiftLeft_add_eq_or_of_lt hd2, Nat.shiftLeft_eq] at e3
  have e5 : v.toInt = v.toBitVec.toInt := rfl
  rw [e5, BitVec.toInt_eq_toNat_cond, e3]
  split <;> omega
theorem wd_sk {b : Nat → Int} {i p q : Nat} {v : Int} (h : wdI b i p v) (hq : q = p + 1) (hb : bL (b p)) (h6 : 6 ≤ p - i) : wdI b i q v := ⟨by have := h.1; omega, rn_st h.2.1 hq hb, fun h4 => by omega⟩
def dmI (b : Nat → Int) (s e : Nat) (v : Int) : Prop := s ≤ e ∧ rnI bD b s e ∧ v = dM b s (e - s)
theorem dm_0 {b : Nat → Int} {i : Nat} {v : Int} (hv : v = 0) : dmI b i i v := ⟨Nat.le_refl _, rn_0, by rw [Nat.sub_self]; exact hv⟩
theorem dm_go {b : Nat → Int} {i p q : Nat} {v w : Int} (h : dmI b i p v) (hq : q = p + 1) (hb : bD (b p)) (hw : w = if 9999 < v then v else 10 * v + (b p - 48)) : dmI b i q w := by
  obtain ⟨h1, h2, h3⟩ := h
  refine ⟨by omega, rn_st h2 hq hb, ?_⟩
  have e : q - i = (p - i) + 1 := by omega
  rw [e]
  unfold dM
  rw [← h3, show i + (p - i) = p by omega]
  exact hw
theorem dm_big {b : Nat → Int} {i p q : Nat} {v : Int} (h : dmI b i p v) (hq : q = p + 1) (hb : bD (b p)) (hw : 9999 < v) : dmI b i q v := dm_go h hq hb (by rw [if_pos hw])
theorem dm_st {b : Nat → Int} {i p q : Nat} {v w : Int} (h : dmI b i p v) (hq : q = p + 1) (hb : bD (b p)) (hv : ¬ 9999 < v) (hw : w = 10 * v + (b p - 48)) : dmI b i q w := dm_go h hq hb (by rw [if_neg hv]; exact hw)
/-- a token of the reference -/
def tkY (b : Nat → Int) (n s e : Nat) (so va wo : Int) : Prop := (rnP bL b n s e ∧ ((e - s ≤ 6 ∧ so = 0 ∧ wo = wv b s (e - s) ∧ kwM va (wv b s (e - s))) ∨ (6 < e - s ∧ so = 4))) ∨ (rnP bD b n s e ∧ so = 1 ∧ va = dM b s (e - s)) ∨ (¬ bL (b s) ∧ ¬ bD (b s) ∧ e = s + 1 ∧ ((b s = 59 ∧ so = 2) ∨ (b s ≠ 59 ∧ so = 4)))
def mkT (b : Nat → Int) (n i : Nat) (a p so va wo : Int) : Prop := skP b n i p.toNat ∧ ((p.toNat = n ∧ a.toNat = n ∧ so = 3) ∨ (p.toNat < n ∧ tkY b n p.toNat a.toNat so va wo))
set_option maxRecDepth 4000 in
set_option maxHeartbeats 4000000 in
/-- M.token, exactly -/
theorem f_159 (H : mzH) (hI : gI SM H) (hJ : JN H) (x0 x1 x2 x3 x4 x5 x6 : Int32) (hx0 : 0 ≤ x0.toInt ∧ x0.toInt ≤ 900) (hx1 : 0 ≤ x1.toInt ∧ x1.toInt ≤ 900) (hx2 : 0 ≤ x2.toInt ∧ x2.toInt ≤ 4) (hp0 : x0.toInt ≤ (fZ H 0 7).toInt) : gCall 159 [.ref 0] (mS H x0 x1 x2 x3 x4 x5 x6) (gRv (fun H' => ∃ y0 y1 y2 y3 y4 : Int32, H' = mS H y0 y1 y2 y3 y4 x5 x6 ∧ (0 ≤ y0.toInt ∧ y0.toInt ≤ 900) ∧ (0 ≤ y1.toInt ∧ y1.toInt ≤ 900) ∧ (0 ≤ y2.toInt ∧ y2.toInt ≤ 4) ∧ mkT (bM H) (fZ H 0 7).toInt.toNat x0.toInt.toNat y0.toInt y1.toInt y2.toInt y3.toInt y4.toInt)) := by
  have w0_7 : 0 ≤ (fZ H 0 7).toInt ∧ (fZ H 0 7).toInt ≤ 900 := fZ_of hI sm_0 rfl
  refine gG_call [(0, .ref 0)] ⟨rfl, trivial⟩ ?_
  show gG 2 zB_159 (mzBlk zB_159 0) [(0, .ref 0)] [] (mS H x0 x1 x2 x3 x4 x5 x6) 0 0 _
  have L734 : ∀ (N : Nat) (z733 : Int32), (0 ≤ z733.toInt ∧ z733.toInt ≤ 900) → z733.toInt ≤ (fZ H 0 7).toInt → skI (bM H) x0.toInt.toNat z733.toInt.toNat → (900 - z733.toInt).toNat < N → gG 2 zB_159 (mzBlk zB_159 0) [(0, .ref 0)] [] (mS H z733 x1 x2 x3 x4 x5 x6) 0 0 (gRv (fun H' => ∃ y0 y1 y2 y3 y4 : Int32, H' = mS H y0 y1 y2 y3 y4 x5 x6 ∧ (0 ≤ y0.toInt ∧ y0.toInt ≤ 900) ∧ (0 ≤ y1.toInt ∧ y1.toInt ≤ 900) ∧ (0 ≤ y2.toInt ∧ y2.toInt ≤ 4) ∧ mkT (bM H) (fZ H 0 7).toInt.toNat x0.toInt.toNat y0.toInt y1.toInt y2.toInt y3.toInt y4.toInt)) := by
    intro N
    induction N with
    | zero => intro z733 bz733 q0 q1 hmL734; exact absurd hmL734 (Nat.not_lt_zero _)
    | succ N ihL734 =>
      intro z733 bz733 q0 q1 hmL734
      refine g_aload_n rfl ?_
      refine g_invvi (mS_I hI (by first | with_reducible assumption | omega) (by first | with_reducible assumption | omega) (by first | with_reducible assumption | omega)) sm_0 rfl rfl rfl rfl (f_156 H hI hJ z733 x1 x2 x3 x4 x5 x6 (by first | with_reducible assumption | omega) (by first | with_reducible assumption | omega) (by first | with_reducible assumption | omega)) (fun v737 H735 r736 => ?_)
      obtain ⟨rfl, bv737, zp738⟩ := r736
      refine g_bipush (by decide) (fun v739 kv739 => ?_)
      refine g_if2_eq (fun c740 => ?_) (fun c740 => ?_)
      · refine g_aload_n rfl ?_
        refine g_dup rfl ?_
        refine g_gfk (mS_I hI (by first | with_reducible assumption | omega) (by first | with_reducible assumption | omega) (by first | with_reducible assumption | omega)) sm_0 rfl (mS_g8 hI) ?_
        refine g_iconst (by decide) (fun v741 kv741 => ?_)
        refine g_iadd (by first | with_reducible assumption | omega) (fun v742 ev742 => ?_)
        refine g_pfi (mS_I hI (by first | with_reducible assumption | omega) (by first | with_reducible assumption | omega) (by first | with_reducible assumption | omega)) sm_0 rfl (by first | with_reducible assumption | omega) (fun H743 eH743 hIH743 => ?_)
        obtain rfl : H743 = (mS H v742 x1 x2 x3 x4 x5 x6) := eH743.trans (mS_s8 hI)
        refine g_goto ?_
        exact ihL734 v742 (by first | with_reducible assumption | omega) (by first | with_reducible assumption | omega) (sk_st q1 (by first | with_reducible assumption | omega) (by unfold bB; omega)) (by first | with_reducible assumption | omega)
      · refine g_aload_n rfl ?_
        refine g_invvi (mS_I hI (by first | with_reducible assumption | omega) (by first | with_reducible assumption | omega) (by first | with_reducible assumption | omega)) sm_0 rfl rfl rfl rfl (f_156 H hI hJ z733 x1 x2 x3 x4 x5 x6 (by first | with_reducible assumption | omega) (by first | with_reducible assumption | omega) (by first | with_reducible assumption | omega)) (fun v746 H744 r745 => ?_)
        obtain ⟨rfl, bv746, zp747⟩ := r745
        refine g_bipush (by decide) (fun v748 kv748 => ?_)
        refine g_if2_ne (fun c749 => ?_) (fun c749 => ?_)
        · have qs : skP (bM H) (fZ H 0 7).toInt.toNat x0.toInt.toNat z733.toInt.toNat := sk_end q1 (by first | with_reducible assumption | omega) (fun h => by unfold bB; omega)
          refine g_aload_n rfl ?_
          refine g_aload_n rfl ?_
          refine g_gfk (mS_I hI (by first | with_reducible assumption | omega) (by first | with_reducible assumption | omega) (by first | with_reducible assumption | omega)) sm_0 rfl (mS_g8 hI) ?_
          refine g_pfi (mS_I hI (by first | with_reducible assumption | omega) (by first | with_reducible assumption | omega) (by first | with_reducible assumption | omega)) sm_0 rfl (by first | with_reducible assumption | omega) (fun H750 eH750 hIH750 => ?_)
          obtain rfl : H750 = (mS H z733 z733 x2 x3 x4 x5 x6) := eH750.trans (mS_s9 hI)
          refine g_aload_n rfl ?_
          refine g_invvi (mS_I hI (by first | with_reducible assumption | omega) (by first | with_reducible assumption | omega) (by first | with_reducible assumption | omega)) sm_0 rfl rfl rfl rfl (f_156 H hI hJ z733 z733 x2 x3 x4 x5 x6 (by first | with_reducible assumption | omega) (by first | with_reducible assumption | omega) (by first | with_reducible assumption | omega)) (fun v753 H751 r752 => ?_)
          obtain ⟨rfl, bv753, zp754⟩ := r752
          refine g_istore_n (l' := [(0, .ref 0), (1, .int v753)]) rfl rfl ?_
          refine g_iload_n rfl ?_
          refine g_iconst (by decide) (fun v755 kv755 => ?_)
          refine g_if2_ne (fun c756 => ?_) (fun c756 => ?_)
          · refine g_iload_n rfl ?_
            refine g_invti rfl rfl rfl (f_157 v753 H hI hJ z733 z733 x2 x3 x4 x5 x6 (by first | with_reducible assumption | omega) (by first | with_reducible assumption | omega) (by first | with_reducible assumption | omega)) (fun v759 H757 r758 => ?_)
            obtain ⟨rfl, bv759, zp760⟩ := r758
            refine g_if_eq (fun c761 => ?_) (fun c761 => ?_)
            · refine g_iload_n rfl ?_
              refine g_invti rfl rfl rfl (f_158 v753 H hI hJ z733 z733 x2 x3 x4 x5 x6 (by first | with_reducible assumption | omega) (by first | with_reducible assumption | omega) (by first | with_reducible assumption | omega)) (fun v764 H762 r763 => ?_)
              obtain ⟨rfl, bv764, zp765⟩ := r763
              refine g_if_eq (fun c766 => ?_) (fun c766 => ?_)
              · refine g_aload_n rfl ?_
                refine g_iload_n rfl ?_
                refine g_bipush (by decide) (fun v767 kv767 => ?_)
                refine g_if2_ne (fun c768 => ?_) (fun c768 => ?_)
                · refine g_iconst (by decide) (fun v769 kv769 => ?_)
                  refine g_nop ?_
                  refine g_pfi (mS_I hI (by first | with_reducible assumption | omega) (by first | with_reducible assumption | omega) (by first | with_reducible assumption | omega)) sm_0 rfl (by first | with_reducible assumption | omega) (fun H770 eH770 hIH770 => ?_)
                  obtain rfl : H770 = (mS H z733 z733 v769 x3 x4 x5 x6) := eH770.trans (mS_s10 hI)
                  refine g_aload_n rfl ?_
                  refine g_dup rfl ?_
                  refine g_gfk (mS_I hI (by first | with_reducible assumption | omega) (by first | with_reducible assumption | omega) (by first | with_reducible assumption | omega)) sm_0 rfl (mS_g8 hI) ?_
                  refine g_iconst (by decide) (fun v771 kv771 => ?_)
                  refine g_iadd (by first | with_reducible assumption | omega) (fun v772 ev772 => ?_)
                  refine g_pfi (mS_I hI (by first | with_reducible assumption | omega) (by first | with_reducible assumption | omega) (by first | with_reducible assumption | omega)) sm_0 rfl (by first | with_reducible assumption | omega) (fun H773 eH773 hIH773 => ?_)
                  obtain rfl : H773 = (mS H v772 z733 v769 x3 x4 x5 x6) := eH773.trans (mS_s8 hI)
                  refine g_nop ?_
                  exact g_ret ⟨rfl, v772, z733, v769, x3, x4, rfl, (by first | with_reducible assumption | omega), (by first | with_reducible assumption | omega), (by first | with_reducible assumption | omega), ⟨qs, Or.inr ⟨by omega, Or.inr (Or.inr ⟨by unfold bL; omega, by unfold bD; omega, by omega, by omega⟩)⟩⟩⟩
                · refine g_iconst (by decide) (fun v774 kv774 => ?_)
                  refine g_goto ?_
                  refine g_pfi (mS_I hI (by first | with_reducible assumption | omega) (by first | with_reducible assumption | omega) (by first | with_reducible assumption | omega)) sm_0 rfl (by first | with_reducible assumption | omega) (fun H775 eH775 hIH775 => ?_)
                  obtain rfl : H775 = (mS H z733 z733 v774 x3 x4 x5 x6) := eH775.trans (mS_s10 hI)
                  refine g_aload_n rfl ?_
                  refine g_dup rfl ?_
                  refine g_gfk (mS_I hI (by first | with_reducible assumption | omega) (by first | with_reducible assumption | omega) (by first | with_reducible assumption | omega)) sm_0 rfl (mS_g8 hI) ?_
                  refine g_iconst (by decide) (fun v776 kv776 => ?_)
                  refine g_iadd (by first | with_reducible assumption | omega) (fun v777 ev777 => ?_)
                  refine g_pfi (mS_I hI (by first | with_reducible assumption | omega) (by first | with_reducible assumption | omega) (by first | with_reducible assumption | omega)) sm_0 rfl (by first | with_reducible assumption | omega) (fun H778 eH778 hIH778 => ?_)
                  obtain rfl : H778 = (mS H v777 z733 v774 x3 x4 x5 x6) := eH778.trans (mS_s8 hI)
                  refine g_nop ?_
                  exact g_ret ⟨rfl, v777, z733, v774, x3, x4, rfl, (by first | with_reducible assumption | omega), (by first | with_reducible assumption | omega), (by first | with_reducible assumption | omega), ⟨qs, Or.inr ⟨by omega, Or.inr (Or.inr ⟨by unfold bL; omega, by unfold bD; omega, by omega, by omega⟩)⟩⟩⟩
              · refine g_aload_n rfl ?_
                refine g_iconst (by decide) (fun v779 kv779 => ?_)
                refine g_pfi (mS_I hI (by first | with_reducible assumption | omega) (by first | with_reducible assumption | omega) (by first | with_reducible assumption | omega)) sm_0 rfl (by first | with_reducible assumption | omega) (fun H780 eH780 hIH780 => ?_)
                obtain rfl : H780 = (mS H z733 z733 v779 x3 x4 x5 x6) := eH780.trans (mS_s10 hI)
                refine g_aload_n rfl ?_
                refine g_iconst (by decide) (fun v781 kv781 => ?_)
                refine g_pfi (mS_I hI (by first | with_reducible assumption | omega) (by first | with_reducible assumption | omega) (by first | with_reducible assumption | omega)) sm_0 rfl (gz_any _) (fun H782 eH782 hIH782 => ?_)
                obtain rfl : H782 = (mS H z733 z733 v779 v781 x4 x5 x6) := eH782.trans (mS_s11 hI)
                refine g_nop ?_
                have L785 : ∀ (N : Nat) (z783 : Int32) (z784 : Int32), (0 ≤ z783.toInt ∧ z783.toInt ≤ 900) → (0 ≤ z784.toInt ∧ z784.toInt ≤ 99999) → z783.toInt ≤ (fZ H 0 7).toInt → dmI (bM H) z733.toInt.toNat z783.toInt.toNat z784.toInt → z733.toInt ≤ z783.toInt → (900 - z783.toInt).toNat < N → gG 2 zB_159 (mzBlk zB_159 10) [(0, .ref 0), (1, .int v753)] [] (mS H z783 z733 v779 z784 x4 x5 x6) 0 0 (gRv (fun H' => ∃ y0 y1 y2 y3 y4 : Int32, H' = mS H y0 y1 y2 y3 y4 x5 x6 ∧ (0 ≤ y0.toInt ∧ y0.toInt ≤ 900) ∧ (0 ≤ y1.toInt ∧ y1.toInt ≤ 900) ∧ (0 ≤ y2.toInt ∧ y2.toInt ≤ 4) ∧ mkT (bM H) (fZ H 0 7).toInt.toNat x0.toInt.toNat y0.toInt y1.toInt y2.toInt y3.toInt y4.toInt)) := by
                  intro N
                  induction N with
                  | zero => intro z783 z784 bz783 bz784 q2 q3 q4 hmL785; exact absurd hmL785 (Nat.not_lt_zero _)
                  | succ N ihL785 =>
                    intro z783 z784 bz783 bz784 q2 q3 q4 hmL785
                    refine g_aload_n rfl ?_
                    refine g_invvi (mS_I hI (by first | with_reducible assumption | omega) (by first | with_reducible assumption | omega) (by first | with_reducible assumption | omega)) sm_0 rfl rfl rfl rfl (f_156 H hI hJ z783 z733 v779 z784 x4 x5 x6 (by first | with_reducible assumption | omega) (by first | with_reducible assumption | omega) (by first | with_reducible assumption | omega)) (fun v788 H786 r787 => ?_)
                    obtain ⟨rfl, bv788, zp789⟩ := r787
                    refine g_invti rfl rfl rfl (f_158 v788 H hI hJ z783 z733 v779 z784 x4 x5 x6 (by first | with_reducible assumption | omega) (by first | with_reducible assumption | omega) (by first | with_reducible assumption | omega)) (fun v792 H790 r791 => ?_)
                    obtain ⟨rfl, bv792, zp793⟩ := r791
                    refine g_if_eq (fun c794 => ?_) (fun c794 => ?_)
                    · exact g_ret ⟨rfl, z783, z733, v779, z784, x4, rfl, (by first | with_reducible assumption | omega), (by first | with_reducible assumption | omega), (by first | with_reducible assumption | omega), ⟨qs, Or.inr ⟨by omega, Or.inr (Or.inl ⟨rn_end q3.2.1 (by unfold bD; omega) (by first | with_reducible assumption | omega) (by first | with_reducible assumption | omega) (fun h => by unfold bD; omega), by omega, q3.2.2⟩)⟩⟩⟩
                    · refine g_aload_n rfl ?_
                      refine g_aload_n rfl ?_
                      refine g_gfk (mS_I hI (by first | with_reducible assumption | omega) (by first | with_reducible assumption | omega) (by first | with_reducible assumption | omega)) sm_0 rfl (mS_g11 hI) ?_
                      refine g_sipush (by decide) (fun v795 kv795 => ?_)
                      refine g_if2_le (fun c796 => ?_) (fun c796 => ?_)
                      · refine g_bipush (by decide) (fun v797 kv797 => ?_)
                        refine g_aload_n rfl ?_
                        refine g_gfk (mS_I hI (by first | with_reducible assumption | omega) (by first | with_reducible assumption | omega) (by first | with_reducible assumption | omega)) sm_0 rfl (mS_g11 hI) ?_
                        refine g_imulk' (n := 10) kv797 (by first | with_reducible assumption | omega) (fun v798 ev798 => ?_)
                        refine g_aload_n rfl ?_
                        refine g_invvi (mS_I hI (by first | with_reducible assumption | omega) (by first | with_reducible assumption | omega) (by first | with_reducible assumption | omega)) sm_0 rfl rfl rfl rfl (f_156 H hI hJ z783 z733 v779 z784 x4 x5 x6 (by first | with_reducible assumption | omega) (by first | with_reducible assumption | omega) (by first | with_reducible assumption | omega)) (fun v801 H799 r800 => ?_)
                        obtain ⟨rfl, bv801, zp802⟩ := r800
                        refine g_iadd (by first | with_reducible assumption | omega) (fun v803 ev803 => ?_)
                        refine g_bipush (by decide) (fun v804 kv804 => ?_)
                        refine g_isub (by first | with_reducible assumption | omega) (fun v805 ev805 => ?_)
                        refine g_nop ?_
                        refine g_pfi (mS_I hI (by first | with_reducible assumption | omega) (by first | with_reducible assumption | omega) (by first | with_reducible assumption | omega)) sm_0 rfl (gz_any _) (fun H806 eH806 hIH806 => ?_)
                        obtain rfl : H806 = (mS H z783 z733 v779 v805 x4 x5 x6) := eH806.trans (mS_s11 hI)
                        refine g_aload_n rfl ?_
                        refine g_dup rfl ?_
                        refine g_gfk (mS_I hI (by first | with_reducible assumption | omega) (by first | with_reducible assumption | omega) (by first | with_reducible assumption | omega)) sm_0 rfl (mS_g8 hI) ?_
                        refine g_iconst (by decide) (fun v807 kv807 => ?_)
                        refine g_iadd (by first | with_reducible assumption | omega) (fun v808 ev808 => ?_)
                        refine g_pfi (mS_I hI (by first | with_reducible assumption | omega) (by first | with_reducible assumption | omega) (by first | with_reducible assumption | omega)) sm_0 rfl (by first | with_reducible assumption | omega) (fun H809 eH809 hIH809 => ?_)
                        obtain rfl : H809 = (mS H v808 z733 v779 v805 x4 x5 x6) := eH809.trans (mS_s8 hI)
                        refine g_goto ?_
                        exact ihL785 v808 v805 (by first | with_reducible assumption | omega) (by first | with_reducible assumption | omega) (by first | with_reducible assumption | omega) (dm_st q3 (by first | with_reducible assumption | omega) (by unfold bD; omega) (by first | with_reducible assumption | omega) (by first | with_reducible assumption | omega)) (by first | with_reducible assumption | omega) (by first | with_reducible assumption | omega)
                      · refine g_aload_n rfl ?_
                        refine g_gfk (mS_I hI (by first | with_reducible assumption | omega) (by first | with_reducible assumption | omega) (by first | with_reducible assumption | omega)) sm_0 rfl (mS_g11 hI) ?_
                        refine g_goto ?_
                        refine g_pfi (mS_I hI (by first | with_reducible assumption | omega) (by first | with_reducible assumption | omega) (by first | with_reducible assumption | omega)) sm_0 rfl (gz_any _) (fun H810 eH810 hIH810 => ?_)
                        obtain rfl : H810 = (mS H z783 z733 v779 z784 x4 x5 x6) := eH810.trans (mS_s11 hI)
                        refine g_aload_n rfl ?_
                        refine g_dup rfl ?_
                        refine g_gfk (mS_I hI (by first | with_reducible assumption | omega) (by first | with_reducible assumption | omega) (by first | with_reducible assumption | omega)) sm_0 rfl (mS_g8 hI) ?_
                        refine g_iconst (by decide) (fun v811 kv811 => ?_)
                        refine g_iadd (by first | with_reducible assumption | omega) (fun v812 ev812 => ?_)
                        refine g_pfi (mS_I hI (by first | with_reducible assumption | omega) (by first | with_reducible assumption | omega) (by first | with_reducible assumption | omega)) sm_0 rfl (by first | with_reducible assumption | omega) (fun H813 eH813 hIH813 => ?_)
                        obtain rfl : H813 = (mS H v812 z733 v779 z784 x4 x5 x6) := eH813.trans (mS_s8 hI)
                        refine g_goto ?_
                        exact ihL785 v812 z784 (by first | with_reducible assumption | omega) (by first | with_reducible assumption | omega) (by first | with_reducible assumption | omega) (dm_big q3 (by first | with_reducible assumption | omega) (by unfold bD; omega) (by first | with_reducible assumption | omega)) (by first | with_reducible assumption | omega) (by first | with_reducible assumption | omega)
                exact L785 _ z733 v781 (by first | with_reducible assumption | omega) (by first | with_reducible assumption | omega) (by first | with_reducible assumption | omega) (dm_0 (by first | with_reducible assumption | omega)) (by first | with_reducible assumption | omega) (Nat.lt_succ_self _)
            · refine g_aload_n rfl ?_
              refine g_iconst (by decide) (fun v814 kv814 => ?_)
              refine g_pfi (mS_I hI (by first | with_reducible assumption | omega) (by first | with_reducible assumption | omega) (by first | with_reducible assumption | omega)) sm_0 rfl (gz_any _) (fun H815 eH815 hIH815 => ?_)
              obtain rfl : H815 = (mS H z733 z733 x2 x3 v814 x5 x6) := eH815.trans (mS_s12 hI)
              refine g_nop ?_
              have L818 : ∀ (N : Nat) (z816 : Int32) (z817 : Int32), (0 ≤ z816.toInt ∧ z816.toInt ≤ 900) → z816.toInt ≤ (fZ H 0 7).toInt → wdI (bM H) z733.toInt.toNat z816.toInt.toNat z817.toInt → z733.toInt ≤ z816.toInt → (900 - z816.toInt).toNat < N → gG 2 zB_159 (mzBlk zB_159 4) [(0, .ref 0), (1, .int v753)] [] (mS H z816 z733 x2 x3 z817 x5 x6) 0 0 (gRv (fun H' => ∃ y0 y1 y2 y3 y4 : Int32, H' = mS H y0 y1 y2 y3 y4 x5 x6 ∧ (0 ≤ y0.toInt ∧ y0.toInt ≤ 900) ∧ (0 ≤ y1.toInt ∧ y1.toInt ≤ 900) ∧ (0 ≤ y2.toInt ∧ y2.toInt ≤ 4) ∧ mkT (bM H) (fZ H 0 7).toInt.toNat x0.toInt.toNat y0.toInt y1.toInt y2.toInt y3.toInt y4.toInt)) := by
                intro N
                induction N with
                | zero => intro z816 z817 bz816 q2 q3 q4 hmL818; exact absurd hmL818 (Nat.not_lt_zero _)
                | succ N ihL818 =>
                  intro z816 z817 bz816 q2 q3 q4 hmL818
                  refine g_aload_n rfl ?_
                  refine g_invvi (mS_I hI (by first | with_reducible assumption | omega) (by first | with_reducible assumption | omega) (by first | with_reducible assumption | omega)) sm_0 rfl rfl rfl rfl (f_156 H hI hJ z816 z733 x2 x3 z817 x5 x6 (by first | with_reducible assumption | omega) (by first | with_reducible assumption | omega) (by first | with_reducible assumption | omega)) (fun v821 H819 r820 => ?_)
                  obtain ⟨rfl, bv821, zp822⟩ := r820
                  refine g_invti rfl rfl rfl (f_157 v821 H hI hJ z816 z733 x2 x3 z817 x5 x6 (by first | with_reducible assumption | omega) (by first | with_reducible assumption | omega) (by first | with_reducible assumption | omega)) (fun v825 H823 r824 => ?_)
                  obtain ⟨rfl, bv825, zp826⟩ := r824
                  refine g_if_eq (fun c827 => ?_) (fun c827 => ?_)
                  · refine g_aload_n rfl ?_
                    refine g_aload_n rfl ?_
                    refine g_gfk (mS_I hI (by first | with_reducible assumption | omega) (by first | with_reducible assumption | omega) (by first | with_reducible assumption | omega)) sm_0 rfl (mS_g8 hI) ?_
                    refine g_aload_n rfl ?_
                    refine g_gfk (mS_I hI (by first | with_reducible assumption | omega) (by first | with_reducible assumption | omega) (by first | with_reducible assumption | omega)) sm_0 rfl (mS_g9 hI) ?_
                    refine g_isub (by first | with_reducible assumption | omega) (fun v828 ev828 => ?_)
                    refine g_bipush (by decide) (fun v829 kv829 => ?_)
                    refine g_if2_gt (fun c830 => ?_) (fun c830 => ?_)
                    · refine g_iconst (by decide) (fun v831 kv831 => ?_)
                      refine g_nop ?_
                      refine g_pfi (mS_I hI (by first | with_reducible assumption | omega) (by first | with_reducible assumption | omega) (by first | with_reducible assumption | omega)) sm_0 rfl (by first | with_reducible assumption | omega) (fun H832 eH832 hIH832 => ?_)
                      obtain rfl : H832 = (mS H z816 z733 v831 x3 z817 x5 x6) := eH832.trans (mS_s10 hI)
                      refine g_aload_n rfl ?_
                      refine g_aload_n rfl ?_
                      refine g_invvi (mS_I hI (by first | with_reducible assumption | omega) (by first | with_reducible assumption | omega) (by first | with_reducible assumption | omega)) sm_0 rfl rfl rfl rfl (f_160 H hI hJ z816 z733 v831 x3 z817 x5 x6 (by first | with_reducible assumption | omega) (by first | with_reducible assumption | omega) (by first | with_reducible assumption | omega) q3.2.1 (by first | with_reducible assumption | omega)) (fun v835 H833 r834 => ?_)
                      obtain ⟨rfl, bv835, zp836⟩ := r834
                      refine g_pfi (mS_I hI (by first | with_reducible assumption | omega) (by first | with_reducible assumption | omega) (by first | with_reducible assumption | omega)) sm_0 rfl (gz_any _) (fun H837 eH837 hIH837 => ?_)
                      obtain rfl : H837 = (mS H z816 z733 v831 v835 z817 x5 x6) := eH837.trans (mS_s11 hI)
                      refine g_goto ?_
                      exact g_ret ⟨rfl, z816, z733, v831, v835, z817, rfl, (by first | with_reducible assumption | omega), (by first | with_reducible assumption | omega), (by first | with_reducible assumption | omega), ⟨qs, Or.inr ⟨by omega, Or.inl ⟨rn_end q3.2.1 (by unfold bL; omega) (by first | with_reducible assumption | omega) (by first | with_reducible assumption | omega) (fun h => by unfold bL; omega), by first | exact Or.inl ⟨by omega, by omega, q3.2.2 (by first | with_reducible assumption | omega), zp836⟩ | exact Or.inr ⟨by omega, by omega⟩⟩⟩⟩⟩
                    · refine g_iconst (by decide) (fun v838 kv838 => ?_)
                      refine g_goto ?_
                      refine g_pfi (mS_I hI (by first | with_reducible assumption | omega) (by first | with_reducible assumption | omega) (by first | with_reducible assumption | omega)) sm_0 rfl (by first | with_reducible assumption | omega) (fun H839 eH839 hIH839 => ?_)
                      obtain rfl : H839 = (mS H z816 z733 v838 x3 z817 x5 x6) := eH839.trans (mS_s10 hI)
                      refine g_aload_n rfl ?_
                      refine g_aload_n rfl ?_
                      refine g_invvi (mS_I hI (by first | with_reducible assumption | omega) (by first | with_reducible assumption | omega) (by first | with_reducible assumption | omega)) sm_0 rfl rfl rfl rfl (f_160 H hI hJ z816 z733 v838 x3 z817 x5 x6 (by first | with_reducible assumption | omega) (by first | with_reducible assumption | omega) (by first | with_reducible assumption | omega) q3.2.1 (by first | with_reducible assumption | omega)) (fun v842 H840 r841 => ?_)
                      obtain ⟨rfl, bv842, zp843⟩ := r841
                      refine g_pfi (mS_I hI (by first | with_reducible assumption | omega) (by first | with_reducible assumption | omega) (by first | with_reducible assumption | omega)) sm_0 rfl (gz_any _) (fun H844 eH844 hIH844 => ?_)
                      obtain rfl : H844 = (mS H z816 z733 v838 v842 z817 x5 x6) := eH844.trans (mS_s11 hI)
                      refine g_goto ?_
                      exact g_ret ⟨rfl, z816, z733, v838, v842, z817, rfl, (by first | with_reducible assumption | omega), (by first | with_reducible assumption | omega), (by first | with_reducible assumption | omega), ⟨qs, Or.inr ⟨by omega, Or.inl ⟨rn_end q3.2.1 (by unfold bL; omega) (by first | with_reducible assumption | omega) (by first | with_reducible assumption | omega) (fun h => by unfold bL; omega), by first | exact Or.inl ⟨by omega, by omega, q3.2.2 (by first | with_reducible assumption | omega), zp843⟩ | exact Or.inr ⟨by omega, by omega⟩⟩⟩⟩⟩
                  · refine g_aload_n rfl ?_
                    refine g_gfk (mS_I hI (by first | with_reducible assumption | omega) (by first | with_reducible assumption | omega) (by first | with_reducible assumption | omega)) sm_0 rfl (mS_g8 hI) ?_
                    refine g_aload_n rfl ?_
                    refine g_gfk (mS_I hI (by first | with_reducible assumption | omega) (by first | with_reducible assumption | omega) (by first | with_reducible assumption | omega)) sm_0 rfl (mS_g9 hI) ?_
                    refine g_isub (by first | with_reducible assumption | omega) (fun v845 ev845 => ?_)
                    refine g_bipush (by decide) (fun v846 kv846 => ?_)
                    refine g_if2_ge (fun c847 => ?_) (fun c847 => ?_)
                    · refine g_aload_n rfl ?_
                      refine g_dup rfl ?_
                      refine g_gfk (mS_I hI (by first | with_reducible assumption | omega) (by first | with_reducible assumption | omega) (by first | with_reducible assumption | omega)) sm_0 rfl (mS_g8 hI) ?_
                      refine g_iconst (by decide) (fun v848 kv848 => ?_)
                      refine g_iadd (by first | with_reducible assumption | omega) (fun v849 ev849 => ?_)
                      refine g_pfi (mS_I hI (by first | with_reducible assumption | omega) (by first | with_reducible assumption | omega) (by first | with_reducible assumption | omega)) sm_0 rfl (by first | with_reducible assumption | omega) (fun H850 eH850 hIH850 => ?_)
                      obtain rfl : H850 = (mS H v849 z733 x2 x3 z817 x5 x6) := eH850.trans (mS_s8 hI)
                      refine g_goto ?_
                      exact ihL818 v849 z817 (by first | with_reducible assumption | omega) (by first | with_reducible assumption | omega) (wd_sk q3 (by first | with_reducible assumption | omega) (by unfold bL; omega) (by first | with_reducible assumption | omega)) (by first | with_reducible assumption | omega) (by first | with_reducible assumption | omega)
                    · refine g_aload_n rfl ?_
                      refine g_aload_n rfl ?_
                      refine g_gfk (mS_I hI (by first | with_reducible assumption | omega) (by first | with_reducible assumption | omega) (by first | with_reducible assumption | omega)) sm_0 rfl (mS_g12 hI) ?_
                      refine g_iconst (by decide) (fun v851 kv851 => ?_)
                      refine g_ishl' (fun v852 ov852 => ?_)
                      refine g_aload_n rfl ?_
                      refine g_invvi (mS_I hI (by first | with_reducible assumption | omega) (by first | with_reducible assumption | omega) (by first | with_reducible assumption | omega)) sm_0 rfl rfl rfl rfl (f_156 H hI hJ z816 z733 x2 x3 z817 x5 x6 (by first | with_reducible assumption | omega) (by first | with_reducible assumption | omega) (by first | with_reducible assumption | omega)) (fun v855 H853 r854 => ?_)
                      obtain ⟨rfl, bv855, zp856⟩ := r854
                      refine g_bipush (by decide) (fun v857 kv857 => ?_)
                      refine g_isub (by first | with_reducible assumption | omega) (fun v858 ev858 => ?_)
                      refine g_iconst (by decide) (fun v859 kv859 => ?_)
                      refine g_iadd (by first | with_reducible assumption | omega) (fun v860 ev860 => ?_)
                      refine g_ior' (fun v861 ov861 => ?_)
                      refine g_pfi (mS_I hI (by first | with_reducible assumption | omega) (by first | with_reducible assumption | omega) (by first | with_reducible assumption | omega)) sm_0 rfl (gz_any _) (fun H862 eH862 hIH862 => ?_)
                      obtain rfl : H862 = (mS H z816 z733 x2 x3 v861 x5 x6) := eH862.trans (mS_s12 hI)
                      refine g_nop ?_
                      refine g_aload_n rfl ?_
                      refine g_dup rfl ?_
                      refine g_gfk (mS_I hI (by first | with_reducible assumption | omega) (by first | with_reducible assumption | omega) (by first | with_reducible assumption | omega)) sm_0 rfl (mS_g8 hI) ?_
                      refine g_iconst (by decide) (fun v863 kv863 => ?_)
                      refine g_iadd (by first | with_reducible assumption | omega) (fun v864 ev864 => ?_)
                      refine g_pfi (mS_I hI (by first | with_reducible assumption | omega) (by first | with_reducible assumption | omega) (by first | with_reducible assumption | omega)) sm_0 rfl (by first | with_reducible assumption | omega) (fun H865 eH865 hIH865 => ?_)
                      obtain rfl : H865 = (mS H v864 z733 x2 x3 v861 x5 x6) := eH865.trans (mS_s8 hI)
                      refine g_goto ?_
                      exact ihL818 v864 v861 (by first | with_reducible assumption | omega) (by first | with_reducible assumption | omega) (wd_st q3 (by first | with_reducible assumption | omega) (by unfold bL; omega) (fun h1 h2 => by have sv852 : (0 ≤ z817.toInt ∧ z817.toInt < 33554432) → v852.toInt = z817.toInt * 32 := sh_5 ov852 kv851; have sv861 := or_5 (w := z817.toInt) ov861 (sv852 (by first | with_reducible assumption | omega)) (by first | with_reducible assumption | omega) (by first | with_reducible assumption | omega); omega)) (by first | with_reducible assumption | omega) (by first | with_reducible assumption | omega)
              exact L818 _ z733 v814 (by first | with_reducible assumption | omega) (by first | with_reducible assumption | omega) (wd_0 (by first | with_reducible assumption | omega)) (by first | with_reducible assumption | omega) (Nat.lt_succ_self _)
          · refine g_aload_n rfl ?_
            refine g_iconst (by decide) (fun v866 kv866 => ?_)
            refine g_pfi (mS_I hI (by first | with_reducible assumption | omega) (by first | with_reducible assumption | omega) (by first | with_reducible assumption | omega)) sm_0 rfl (by first | with_reducible assumption | omega) (fun H867 eH867 hIH867 => ?_)
            obtain rfl : H867 = (mS H z733 z733 v866 x3 x4 x5 x6) := eH867.trans (mS_s10 hI)
            refine g_goto ?_
            exact g_ret ⟨rfl, z733, z733, v866, x3, x4, rfl, (by first | with_reducible assumption | omega), (by first | with_reducible assumption | omega), (by first | with_reducible assumption | omega), ⟨qs, Or.inl (by first | with_reducible assumption | omega)⟩⟩
        · refine g_nop ?_
          refine g_aload_n rfl ?_
          refine g_dup rfl ?_
          refine g_gfk (mS_I hI (by first | with_reducible assumption | omega) (by first | with_reducible assumption | omega) (by first | with_reducible assumption | omega)) sm_0 rfl (mS_g8 hI) ?_
          refine g_iconst (by decide) (fun v868 kv868 => ?_)
          refine g_iadd (by first | with_reducible assumption | omega) (fun v869 ev869 => ?_)
          refine g_pfi (mS_I hI (by first | with_reducible assumption | omega) (by first | with_reducible assumption | omega) (by first | with_reducible assumption | omega)) sm_0 rfl (by first | with_reducible assumption | omega) (fun H870 eH870 hIH870 => ?_)
          obtain rfl : H870 = (mS H v869 x1 x2 x3 x4 x5 x6) := eH870.trans (mS_s8 hI)
          refine g_goto ?_
          exact ihL734 v869 (by first | with_reducible assumption | omega) (by first | with_reducible assumption | omega) (sk_st q1 (by first | with_reducible assumption | omega) (by unfold bB; omega)) (by first | with_reducible assumption | omega)
  exact L734 _ x0 (by first | with_reducible assumption | omega) (by first | with_reducible assumption | omega) (sk_0) (Nat.lt_succ_self _)
