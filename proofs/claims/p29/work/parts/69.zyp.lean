/-! THE REFERENCE AT EACH HOUR -/
theorem wn_rv {H A G B : mzH} {k v y : Int} {f : Nat → Int} (u : tkQ H A) (sd : ∀ q : Nat, (q : Int) < (aZ H 2 2).toInt → (inM A q ≠ 0 ↔ True) ∧ hoM A q = f q) (wy : ∀ x : Nat, x < cnM A → (aZ B 20 (odM A x)).toInt = rvM A G x) (hk : 0 ≤ k ∧ k < (aZ H 2 2).toInt) (e : v = (aZ B 20 k.toNat).toInt) (hp : ∀ x : Nat, x < cnM A → (odM A x : Int) = k → rvM A G x = y) : v = y := by
  obtain ⟨x, hx, ex⟩ := od_mem (k := k.toNat) u.2.1 (by omega) ((sd k.toNat (by omega)).1.mpr trivial)
  rw [e, ← hp x hx (by omega), ← wy x hx, ex]
set_option maxRecDepth 4000 in
set_option maxHeartbeats 4000000 in
/-- M.window -/
theorem r_234 {w : Nat → Int} (a1 : Int32) (a2 : Int32) (H : mzH) (hI : gI SM H) (hJ : JN H) (hp0 : ((∀ A, tkQ H A → gdM A))) (hp1 : (∀ k : Nat, (k : Int) < (aZ H 2 2).toInt → 0 ≤ (aZ H 2 (69 + 5 * k)).toInt ∧ (aZ H 2 (69 + 5 * k)).toInt ≤ 999)) (hp2 : (∀ h : Nat, h < 1000 → ∀ A : mzH, tkQ H A → (∀ q : Nat, (q : Int) < (aZ H 2 2).toInt → (inM A q ≠ 0 ↔ True) ∧ hoM A q = (upi (fun q => (aZ H 2 (69 + 5 * q)).toInt) a1.toInt.toNat (h : Int)) q) → ∀ G : mzH, clR (rgM G) (mdM G) → ∀ x : Nat, x < cnM A → (odM A x : Int) = a1.toInt → rvM A G x = w h)) : gCall 234 [.ref 0, .int a1, .int a2] H (gRi (fun v H' => gI SM H' ∧ JN H' ∧ fZ H' 0 2 = fZ H 0 2 ∧ kpM H H' ∧ ((v.toInt = -1 ∧ ¬ ((0 ≤ a1.toInt ∧ a1.toInt < (aZ H 2 2).toInt) ∧ (0 ≤ a2.toInt ∧ a2.toInt ≤ 2))) ∨ (((0 ≤ a1.toInt ∧ a1.toInt < (aZ H 2 2).toInt) ∧ (0 ≤ a2.toInt ∧ a2.toInt ≤ 2)) ∧ v.toInt = (if a2.toInt = 0 then (wnF w 1000).1 else if a2.toInt = 1 then (wnF w 1000).2.1 else (wnF w 1000).2.2))))) := by
  obtain ⟨k0_2, ek0_2⟩ : ∃ z, z = fZ H 0 2 := ⟨_, rfl⟩
  have ik0_2 : k0_2.toInt = (fZ H 0 2).toInt := by rw [← ek0_2]
  have bk0_2 : 0 ≤ k0_2.toInt ∧ k0_2.toInt ≤ 900 := by rw [ek0_2]; exact fZ_of hI sm_0 rfl
  have mkfr : kpM H H := kpM_r
  refine gG_call [(0, .ref 0), (1, .int a1), (2, .int a2)] ⟨rfl, rfl, rfl, trivial⟩ ?_
  show gG 7 zB_234 (mzBlk zB_234 0) [(0, .ref 0), (1, .int a1), (2, .int a2)] [] H 0 0 _
  refine g_aload_n rfl ?_
  refine g_iconst (by decide) (fun v821 kv821 => ?_)
  refine g_pfi hI sm_0 rfl (gz_any _) (fun H822 eH822 hIH822 => ?_)
  have hJH822 : JN H822 := JN_sF eH822 hJ
  have e823 : k0_2 = fZ H822 0 2 := by rw [eH822, fZ_sF_ne (by decide)]; exact ek0_2
  have m824 : kpM H H822 := kpM_F mkfr eH822 (by omega)
  refine g_iload_n rfl ?_
  refine g_if_lt (fun c825 => ?_) (fun c825 => ?_)
  · refine g_iconst (by decide) (fun v826 kv826 => ?_)
    exact g_iret ⟨_, rfl, hIH822, hJH822, (e823.symm.trans ek0_2), m824, (Or.inl ⟨by omega, by omega⟩)⟩
  · refine g_iload_n rfl ?_
    refine g_aload_n rfl ?_
    refine g_invvi hIH822 sm_0 rfl rfl rfl rfl (s_180 H822 hIH822 hJH822) (fun v829 H827 r828 => ?_)
    obtain ⟨rfl, bv829, p830⟩ := r828
    have hm2 := congrArg Int32.toInt (m824.1 2 (by decide) 2)
    refine g_if2_ge (fun c831 => ?_) (fun c831 => ?_)
    · refine g_iconst (by decide) (fun v832 kv832 => ?_)
      exact g_iret ⟨_, rfl, hIH822, hJH822, (e823.symm.trans ek0_2), m824, (Or.inl ⟨by omega, by omega⟩)⟩
    · refine g_iload_n rfl ?_
      refine g_if_lt (fun c833 => ?_) (fun c833 => ?_)
      · refine g_iconst (by decide) (fun v834 kv834 => ?_)
        exact g_iret ⟨_, rfl, hIH822, hJH822, (e823.symm.trans ek0_2), m824, (Or.inl ⟨by omega, by omega⟩)⟩
      · refine g_iload_n rfl ?_
        refine g_iconst (by decide) (fun v835 kv835 => ?_)
        refine g_if2_le (fun c836 => ?_) (fun c836 => ?_)
        · refine g_bipush (by decide) (fun v837 kv837 => ?_)
          refine g_istore_n (l' := [(0, .ref 0), (1, .int a1), (2, .int a2), (3, .int v837)]) rfl rfl ?_
          refine g_bipush (by decide) (fun v838 kv838 => ?_)
          refine g_istore (l' := [(0, .ref 0), (1, .int a1), (2, .int a2), (3, .int v837), (4, .int v838)]) rfl rfl ?_
          refine g_iconst (by decide) (fun v839 kv839 => ?_)
          refine g_istore (l' := [(0, .ref 0), (1, .int a1), (2, .int a2), (3, .int v837), (4, .int v838), (5, .int v839)]) rfl rfl ?_
          refine g_iconst (by decide) (fun v840 kv840 => ?_)
          refine g_istore (l' := [(0, .ref 0), (1, .int a1), (2, .int a2), (3, .int v837), (4, .int v838), (5, .int v839), (6, .int v840)]) rfl rfl ?_
          refine g_nop ?_
          have L848 : ∀ (N : Nat) (v841 : Int32) (v842 : Int32) (v843 : Int32) (v844 : Int32) (H845 : mzH), gI SM H845 → JN H845 → k0_2 = fZ H845 0 2 → kpM H H845 → (-2 ≤ v841.toInt ∧ v841.toInt ≤ 999) → (-2 ≤ v842.toInt ∧ v842.toInt ≤ 999) → (0 ≤ v843.toInt ∧ v843.toInt ≤ 1000) → (0 ≤ v844.toInt ∧ v844.toInt ≤ 1000) → (v841.toInt = (wnF w v844.toInt.toNat).1 ∧ v842.toInt = (wnF w v844.toInt.toNat).2.1 ∧ v843.toInt = (wnF w v844.toInt.toNat).2.2) → (0 ≤ v843.toInt ∧ v843.toInt ≤ v844.toInt) → (1000 - v844.toInt).toNat < N → gG 7 zB_234 (mzBlk zB_234 3) [(0, .ref 0), (1, .int a1), (2, .int a2), (3, .int v841), (4, .int v842), (5, .int v843), (6, .int v844)] [] H845 0 0 (gRi (fun v H' => gI SM H' ∧ JN H' ∧ fZ H' 0 2 = fZ H 0 2 ∧ kpM H H' ∧ ((v.toInt = -1 ∧ ¬ ((0 ≤ a1.toInt ∧ a1.toInt < (aZ H 2 2).toInt) ∧ (0 ≤ a2.toInt ∧ a2.toInt ≤ 2))) ∨ (((0 ≤ a1.toInt ∧ a1.toInt < (aZ H 2 2).toInt) ∧ (0 ≤ a2.toInt ∧ a2.toInt ≤ 2)) ∧ v.toInt = (if a2.toInt = 0 then (wnF w 1000).1 else if a2.toInt = 1 then (wnF w 1000).2.1 else (wnF w 1000).2.2))))) := by
            intro N
            induction N with
            | zero => intro v841 v842 v843 v844 H845 hIH845 hJH845 e846 m847 bv841 bv842 bv843 bv844 q1 q2 hmL848; exact absurd hmL848 (Nat.not_lt_zero _)
            | succ N ihL848 =>
              intro v841 v842 v843 v844 H845 hIH845 hJH845 e846 m847 bv841 bv842 bv843 bv844 q1 q2 hmL848
              refine g_iload rfl ?_
              refine g_sipush (by decide) (fun v849 kv849 => ?_)
              refine g_if2_gt (fun c850 => ?_) (fun c850 => ?_)
              · refine g_iload_n rfl ?_
                refine g_if_ne (fun c851 => ?_) (fun c851 => ?_)
                · refine g_iload_n rfl ?_
                  refine g_iconst (by decide) (fun v852 kv852 => ?_)
                  refine g_if2_ne (fun c853 => ?_) (fun c853 => ?_)
                  · refine g_iload rfl ?_
                    refine g_nop ?_
                    exact g_iret ⟨_, rfl, hIH845, hJH845, (e846.symm.trans ek0_2), m847, (Or.inr ⟨by omega, by have z := q1; rw [show v844.toInt.toNat = 1000 by omega] at z; rw [if_neg (by omega), if_neg (by omega)]; omega⟩)⟩
                  · refine g_iload rfl ?_
                    refine g_goto ?_
                    exact g_iret ⟨_, rfl, hIH845, hJH845, (e846.symm.trans ek0_2), m847, (Or.inr ⟨by omega, by have z := q1; rw [show v844.toInt.toNat = 1000 by omega] at z; rw [if_neg (by omega), if_pos (by omega)]; omega⟩)⟩
                · refine g_iload_n rfl ?_
                  refine g_goto ?_
                  exact g_iret ⟨_, rfl, hIH845, hJH845, (e846.symm.trans ek0_2), m847, (Or.inr ⟨by omega, by have z := q1; rw [show v844.toInt.toNat = 1000 by omega] at z; rw [if_pos (by omega)]; omega⟩)⟩
              · refine g_aload_n rfl ?_
                refine g_iload_n rfl ?_
                refine g_iload rfl ?_
                refine g_invvv hIH845 sm_0 rfl rfl rfl rfl (r_232 a1 (by omega) v844 (by omega) H845 hIH845 hJH845 (fun A t => hp0 A (tkQ_kp m847 t)) (hr_kp m847 hp1)) (fun H854 r855 => ?_)
                obtain ⟨hIH854, hJH854, w856, m857, p858⟩ := r855
                have e859 : k0_2 = fZ H854 0 2 := e846.trans w856.symm
                have m860 : kpM H H854 := kpM_t m847 m857
                obtain ⟨A861, ttA861, sbA861, G862, clG862, wdA861, wyA861, oiA861⟩ := p858
                have uA861 : tkQ H A861 := tkQ_kp m847 ttA861
                have sdA861 := sa_kp m847 sbA861
                refine g_aload_n rfl ?_
                refine g_gfr hIH854 sm_0 rfl ?_
                refine g_iload_n rfl ?_
                refine g_iaload hIH854 sm_20 rfl (by omega) (fun v863 ev863 lv863 uv863 => ?_)
                have yv863 : v863.toInt = w v844.toInt.toNat := wn_rv uA861 sdA861 wyA861 (by omega) (by rw [ev863]) (fun x hx ex => hp2 v844.toInt.toNat (by omega) A861 uA861 (fun q hq => by rw [show ((v844.toInt.toNat : Nat) : Int) = v844.toInt by omega]; exact sdA861 q hq) G862 clG862 x hx ex)
                refine g_if_eq (fun c864 => ?_) (fun c864 => ?_)
                · refine g_iload rfl ?_
                  refine g_if_ne (fun c865 => ?_) (fun c865 => ?_)
                  · refine g_iload_n rfl ?_
                    refine g_nop ?_
                    refine g_istore_n (l' := [(0, .ref 0), (1, .int a1), (2, .int a2), (3, .int v841), (4, .int v842), (5, .int v843), (6, .int v844)]) rfl rfl ?_
                    refine g_iload rfl ?_
                    refine g_istore (l' := [(0, .ref 0), (1, .int a1), (2, .int a2), (3, .int v841), (4, .int v844), (5, .int v843), (6, .int v844)]) rfl rfl ?_
                    refine g_iinc (l' := (fun v866 => [(0, .ref 0), (1, .int a1), (2, .int a2), (3, .int v841), (4, .int v844), (5, .int v866), (6, .int v844)])) rfl rfl (by decide) (by omega) (fun _ => rfl) (fun v866 ev866 => ?_)
                    refine g_nop ?_
                    refine g_iinc (l' := (fun v867 => [(0, .ref 0), (1, .int a1), (2, .int a2), (3, .int v841), (4, .int v844), (5, .int v866), (6, .int v867)])) rfl rfl (by decide) (by omega) (fun _ => rfl) (fun v867 ev867 => ?_)
                    refine g_goto ?_
                    exact ihL848 v841 v844 v866 v867 H854 hIH854 (JM_n hJH854) e859 m860 (by omega) (by omega) (by omega) (by omega) (wn_y q1 (by omega) (by omega) (by omega) (by omega) (by omega)) (by omega) (by omega)
                  · refine g_iload rfl ?_
                    refine g_goto ?_
                    refine g_istore_n (l' := [(0, .ref 0), (1, .int a1), (2, .int a2), (3, .int v844), (4, .int v842), (5, .int v843), (6, .int v844)]) rfl rfl ?_
                    refine g_iload rfl ?_
                    refine g_istore (l' := [(0, .ref 0), (1, .int a1), (2, .int a2), (3, .int v844), (4, .int v844), (5, .int v843), (6, .int v844)]) rfl rfl ?_
                    refine g_iinc (l' := (fun v868 => [(0, .ref 0), (1, .int a1), (2, .int a2), (3, .int v844), (4, .int v844), (5, .int v868), (6, .int v844)])) rfl rfl (by decide) (by omega) (fun _ => rfl) (fun v868 ev868 => ?_)
                    refine g_nop ?_
                    refine g_iinc (l' := (fun v869 => [(0, .ref 0), (1, .int a1), (2, .int a2), (3, .int v844), (4, .int v844), (5, .int v868), (6, .int v869)])) rfl rfl (by decide) (by omega) (fun _ => rfl) (fun v869 ev869 => ?_)
                    refine g_goto ?_
                    exact ihL848 v844 v844 v868 v869 H854 hIH854 (JM_n hJH854) e859 m860 (by omega) (by omega) (by omega) (by omega) (wn_y q1 (by omega) (by omega) (by omega) (by omega) (by omega)) (by omega) (by omega)
                · refine g_goto ?_
                  refine g_iinc (l' := (fun v870 => [(0, .ref 0), (1, .int a1), (2, .int a2), (3, .int v841), (4, .int v842), (5, .int v843), (6, .int v870)])) rfl rfl (by decide) (by omega) (fun _ => rfl) (fun v870 ev870 => ?_)
                  refine g_goto ?_
                  exact ihL848 v841 v842 v843 v870 H854 hIH854 (JM_n hJH854) e859 m860 (by omega) (by omega) (by omega) (by omega) (wn_n q1 (by omega) (by omega) (by omega) (by omega) (by omega)) (by omega) (by omega)
          exact L848 _ v837 v838 v839 v840 H822 hIH822 hJH822 e823 m824 (by omega) (by omega) (by omega) (by omega) (wn_0 (by omega) (by omega) (by omega) (by omega)) (by omega) (Nat.lt_succ_self _)
        · refine g_nop ?_
          refine g_iconst (by decide) (fun v871 kv871 => ?_)
          exact g_iret ⟨_, rfl, hIH822, hJH822, (e823.symm.trans ek0_2), m824, (Or.inl ⟨by omega, by omega⟩)⟩
