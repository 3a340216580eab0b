/-! Arrays.fill over the class's cells -/
def gFill (a n : Nat) (x : Int32) (H : mzH) : Option Value → mzH → Prop := gRv (fun H' => gI SX H' ∧ (∀ b f, fZ H' b f = fZ H b f) ∧ (∀ {b k}, b ≠ a → aZ H' b k = aZ H b k) ∧ (∀ k, k < n → aZ H' a k = x))
set_option maxRecDepth 4000 in
theorem s_fill (a : Nat) {n : Nat} {lo hi : Int} (ha : SX[a]? = some (.inl (0, n, lo, hi))) (hn : (Int32.ofNat n).toInt = n) (x : Int32) (hx : lo ≤ x.toInt ∧ x.toInt ≤ hi) (H : mzH) (hI : gI SX H) : gCall 254 [.ref a, .int x] H (gFill a n x H) := by
  refine gG_call [(0, .ref a), (1, .int x)] ⟨rfl, rfl, trivial⟩ ?_
  show gG 4 zB_254 (mzBlk zB_254 0) [(0, .ref a), (1, .int x)] [] H 0 0 _
  refine g_iconst (by decide) (fun v0 kv0 => ?_)
  refine g_istore_n (l' := [(0, .ref a), (1, .int x), (2, .int v0)]) rfl rfl ?_
  refine g_aload_n rfl ?_
  refine g_len hI ha hn (fun v1 kv1 => ?_)
  refine g_istore_n (l' := [(0, .ref a), (1, .int x), (2, .int v0), (3, .int v1)]) rfl rfl ?_
  refine g_nop ?_
  have L : ∀ (N : Nat) (v2 : Int32) (H2 : mzH), gI SX H2 → (∀ b f, fZ H2 b f = fZ H b f) → (∀ {b k}, b ≠ a → aZ H2 b k = aZ H b k) → (∀ k, k < v2.toInt.toNat → aZ H2 a k = x) → (0 ≤ v2.toInt ∧ v2.toInt ≤ n) → (n - v2.toInt).toNat < N → gG 4 zB_254 (mzBlk zB_254 1) [(0, .ref a), (1, .int x), (2, .int v2), (3, .int v1)] [] H2 0 0 (gFill a n x H) := by
    intro N
    induction N with
    | zero => intro v2 H2 _ _ _ _ _ hm; exact absurd hm (Nat.not_lt_zero _)
    | succ N ih =>
      intro v2 H2 hI2 h1 h2 h3 hv hm
      refine g_iload_n rfl ?_
      refine g_iload_n rfl ?_
      refine g_if2_ge (fun c => ?_) (fun c => ?_)
      · exact g_ret ⟨rfl, hI2, h1, h2, fun k hk => h3 k (by omega)⟩
      · refine g_aload_n rfl ?_
        refine g_iload_n rfl ?_
        refine g_iload_n rfl ?_
        refine g_iastore hI2 ha (by omega) hx (fun H3 e3 hI3 => ?_)
        refine g_iinc (l' := (fun v4 => [(0, .ref a), (1, .int x), (2, .int v4), (3, .int v1)])) rfl rfl (by decide) (by have := v1.toInt_lt; omega) (fun _ => rfl) (fun v4 e4 => ?_)
        refine g_goto ?_
        refine ih v4 H3 hI3 (fun b f => by rw [e3, fZ_sA]; exact h1 b f) (fun {b k} hb => by rw [e3, aZ_sA_nc (fun e => hb e.symm)]; exact h2 hb) (fun k hk => ?_) (by omega) (by omega)
        rw [e3]
        if e : v2.toInt.toNat = k then
          subst e
          exact aZ_sA_eq hI2 ha (by omega)
        else
          rw [aZ_sA_ne e]
          exact h3 k (by omega)
  exact L _ v0 H hI (fun _ _ => rfl) (fun _ => rfl) (fun k hk => absurd hk (by omega)) (by omega) (Nat.lt_succ_self _)
