/-! EVERY CALL ON NEW OBJECTS: the ints' line cut into intervals, a run for each -/
noncomputable def aRun (f j : Nat) (as : List Value) (H : mzH) : mzR := aEx f (zN j) (zB j) (mzBlk (zB j) 0) (lv_args 0 as) [] H (zmc j) (zms j)
noncomputable def zRun (f j : Nat) (as : List Value) (H : mzH) : mzR := zEx f (zN j) (zB j) (mzBlk (zB j) 0) (lv_args 0 as) [] H (zmc j) (zms j)
/-- both answer, and alike -/
noncomputable def aSame (f jx jm : Nat) (as : List Value) : Bool := Nat.ble (mzWd as + 1) (zN jx) && (Nat.ble (mzWd as + 1) (zN jm) && (match aRun f jx (.ref 0 :: as) zHx, aRun f jm (.ref 0 :: as) zHm with
  | some (some (.int a), _), some (some (.int b), _) => mzEq a b
  | _, _ => false))
def zNoTok : Value → Bool
  | .retAddr _ => false
  | _ => true
def zWfH (H : mzH) : Bool := H.all (fun c => match c with
  | .inl _ => true
  | .inr (d, fs) => Nat.blt d 100 && fs.all zNoTok)
theorem aV_self {ρ : Nat → Int32} {v : Value} (h : zNoTok v = true) : aV ρ v v := by
  cases v with
  | retAddr k => cases h
  | _ => rfl
theorem aL_self {ρ : Nat → Int32} : ∀ {l : List Value}, l.all zNoTok = true → aL ρ l l
  | [], _ => rfl
  | v :: l, h => by
    rw [List.all_cons, Bool.and_eq_true] at h
    exact ⟨v, l, rfl, aV_self h.1, aL_self h.2⟩
theorem aH_self {ρ : Nat → Int32} : ∀ {H : mzH}, zWfH H = true → aH ρ H H
  | [], _ => rfl
  | c :: H, h => by
    unfold zWfH at h
    rw [List.all_cons, Bool.and_eq_true] at h
    refine ⟨c, H, rfl, ?_, aH_self h.2⟩
    cases c with
    | inl x => rfl
    | inr x =>
      obtain ⟨d, fs⟩ := x
      have h1 := h.1
      dsimp only at h1
      rw [Bool.and_eq_true] at h1
      exact Or.inl ⟨Nat.blt_eq.mp h1.1, fs, rfl, aL_self h1.2⟩
theorem zHx_wf : zWfH zHx = true := by decide +kernel
theorem zHm_wf : zWfH zHm = true := by decide +kernel
/-- two calls with the same ints answer alike -/
def zAlike (jx jm : Nat) (xs : List Int32) : Prop := mzWd (.ref 0 :: xs.map .int) ≤ zN jx ∧ mzWd (.ref 0 :: xs.map .int) ≤ zN jm ∧ ∃ (f : Nat) (r : Int32) (H1 H2 : mzH), zRun f jx (.ref 0 :: xs.map .int) zHx = some (some (.int r), H1) ∧ zRun f jm (.ref 0 :: xs.map .int) zHm = some (some (.int r), H2)
theorem aSame_at {ρ : Nat → Int32} (hr : ρ 1 < ρ 2 ∧ ¬ ρ 4 < ρ 3) {f jx jm : Nat} {as : List Value} {xs : List Int32} (h : aSame f jx jm as = true) (hL : aL ρ as (xs.map .int)) : zAlike jx jm xs := by
  unfold aSame at h
  simp only [Bool.and_eq_true] at h
  obtain ⟨h1, h2, h⟩ := h
  have hL2 : aL ρ (.ref 0 :: as) (.ref 0 :: xs.map .int) := ⟨_, _, rfl, rfl, hL⟩
  have hw : mzWd (.ref 0 :: xs.map .int) = mzWd as + 1 := by
    rw [aL_wd hL2]
    show 1 + _ = _
    rw [Nat.add_comm]
    rfl
  refine ⟨by rw [hw]; exact Nat.le_of_ble_eq_true h1, by rw [hw]; exact Nat.le_of_ble_eq_true h2, ?_⟩
  split at h
  · rename_i a G1 b G2 e1 e2
    rw [mzEq_eq, decide_eq_true_eq] at h
    subst h
    obtain ⟨r1, H1, q1, ⟨x1, rfl, rfl⟩, -⟩ := a_sim hr f _ _ _ _ _ _ _ _ _ e1 _ _ _ (aM_args 0 hL2) (show aL ρ [] [] from rfl) (aH_self zHx_wf)
    obtain ⟨r2, H2, q2, ⟨x2, rfl, rfl⟩, -⟩ := a_sim hr f _ _ _ _ _ _ _ _ _ e2 _ _ _ (aM_args 0 hL2) (show aL ρ [] [] from rfl) (aH_self zHm_wf)
    exact ⟨f, a, H1, H2, q1, q2⟩
  · cases h
/-- intervals that follow each other up to the greatest int -/
def aCov : Int → List Value → Bool
  | p, [] => decide (p = 2147483648)
  | p, t :: ts => (match aVlo t, aVhi t with
    | some l, some h => decide (l = p) && (decide (p ≤ h) && (Nat.beq (aIdv t) 0 && aCov (h + 1) ts))
    | _, _ => false)
theorem aCov_at {ρ : Nat → Int32} : ∀ {ts : List Value} {p : Int}, aCov p ts = true → ∀ x : Int32, p ≤ x.toInt → ∃ t ∈ ts, aV ρ t (.int x)
  | [], p, h, x, hx => by
    have h1 := of_decide_eq_true h
    have := Int32.toInt_lt x
    omega
  | t :: ts, p, h, x, hx => by
    unfold aCov at h
    split at h
    · rename_i l hh e1 e2
      simp only [Bool.and_eq_true, decide_eq_true_eq] at h
      obtain ⟨h1, h2, h3, h4⟩ := h
      by_cases hc : x.toInt ≤ hh
      · refine ⟨t, List.mem_cons_self, ?_⟩
        cases t with
        | int y =>
          cases e1; cases e2
          have : x = y := Int32.toInt_inj.mp (by omega)
          rw [this]
          rfl
        | retAddr k =>
          cases e1; cases e2
          exact ⟨x, rfl, ⟨by omega, hc⟩, Or.inl (Nat.eq_of_beq_eq_true h3)⟩
        | _ => cases e1
      · obtain ⟨u, hu, hv⟩ := aCov_at h4 x (by omega)
        exact ⟨u, List.mem_cons_of_mem _ hu, hv⟩
    · cases h
def aProd : List (List Value) → List (List Value)
  | [] => [[]]
  | p :: ps => p.flatMap (fun t => (aProd ps).map (fun l => t :: l))
theorem aProd_at {ρ : Nat → Int32} : ∀ {ps : List (List Value)} {xs : List Int32}, ps.all (aCov (-2147483648)) = true → xs.length = ps.length → ∃ as ∈ aProd ps, aL ρ as (xs.map .int)
  | [], [], _, _ => ⟨[], List.mem_cons_self, rfl⟩
  | p :: ps, x :: xs, h, hl => by
    rw [List.all_cons, Bool.and_eq_true] at h
    obtain ⟨t, ht, hv⟩ := aCov_at (ρ := ρ) h.1 x (Int32.le_toInt x)
    obtain ⟨as, ha, hL⟩ := aProd_at (ρ := ρ) (xs := xs) h.2 (by simpa using hl)
    exact ⟨t :: as, List.mem_flatMap.mpr ⟨t, ht, List.mem_map.mpr ⟨as, ha, rfl⟩⟩, _, _, rfl, hv, hL⟩
  | [], _ :: _, _, hl => by simp at hl
  | _ :: _, [], _, hl => by simp at hl
noncomputable def aChk (f jx jm : Nat) (ps : List (List Value)) : Bool := ps.all (aCov (-2147483648)) && (aProd ps).all (aSame f jx jm)
def zρ0 : Nat → Int32 := fun k => match k with
  | 1 => 0
  | _ => 1
theorem aChk_at {f jx jm : Nat} {ps : List (List Value)} (h : aChk f jx jm ps = true) {xs : List Int32} (hl : xs.length = ps.length) : zAlike jx jm xs := by
  unfold aChk at h
  rw [Bool.and_eq_true] at h
  obtain ⟨as, ha, hL⟩ := aProd_at (ρ := zρ0) h.1 hl
  exact aSame_at (ρ := zρ0) (by decide) (List.all_eq_true.mp h.2 as ha) hL
def tI (lo hi : Int) : Value := .retAddr (aK lo hi)
def tAny : List Value := [.retAddr aT]
/-- cut at some places: below, between .. -/
def tCut (a : Int) (cs : List Int) : List Value := match cs with
  | [] => [tI a 2147483647]
  | c :: cs => tI a (c - 1) :: tCut c cs
def tC (cs : List Int) : List Value := tCut (-2147483648) cs
