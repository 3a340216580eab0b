theorem rs_of {H : mzH} {s : pS} {md : Nat → Int} {wy : Int → Int → Int} {U C hour : Int} {w n o : Int32} (hw : rwX H s md) (hn : 0 ≤ n.toInt ∧ n.toInt < 40) (ho : w.toInt = 1 → (0 ≤ o.toInt ∧ o.toInt < 40)) (h : rea s md wy U C w.toInt n.toInt.toNat o.toInt hour = 0) : RS H w n o := by
  have h1 := hw n.toInt.toNat (by omega)
  refine ⟨fun q => ?_, fun q => ?_, fun q => ?_⟩
  · rw [rea_u, if_pos q] at h
    rw [h1.1]
    exact h
  · rw [h1.2.2.1]
    intro z
    rw [rea_u, if_neg (by omega)] at h
    if a : md n.toInt.toNat = 0 ∨ (w.toInt = 1 ∧ md o.toInt.toNat = 0) then
      rw [if_pos a] at h
      omega
    else
      rw [if_neg a] at h
      if b : ¬ s.en n.toInt.toNat = 0 ∨ (w.toInt = 1 ∧ ¬ s.en o.toInt.toNat = 0) then
        rw [if_pos b] at h
        omega
      else
        rw [if_neg b, if_neg (by omega), if_pos (Or.inr ⟨q, z⟩)] at h
        omega
  · have h2 := hw o.toInt.toNat (by have := ho q; omega)
    rw [h1.1, h2.1, h1.2.1, h2.2.1]
    rw [rea_u, if_neg (by omega)] at h
    if a : md n.toInt.toNat = 0 ∨ (w.toInt = 1 ∧ md o.toInt.toNat = 0) then
      rw [if_pos a] at h
      omega
    else
      rw [if_neg a] at h
      if b : ¬ s.en n.toInt.toNat = 0 ∨ (w.toInt = 1 ∧ ¬ s.en o.toInt.toNat = 0) then
        rw [if_pos b] at h
        omega
      else
        rw [if_neg b] at h
        if c : w.toInt = 1 ∧ s.kd o.toInt.toNat ≠ s.kd n.toInt.toNat + 1 then
          rw [if_pos c] at h
          omega
        else exact ⟨fun z => a (Or.inl z), fun z => a (Or.inr ⟨q, z⟩), by omega⟩
/-- the world behind a message -/
def loS (s : pS) (md : Nat → Int) (wy : Int → Int → Int) (U C ac : Int) (n : Nat) (ot ki hour : Int) : pS := if rea s md wy U C ac n ot hour = 0 then tks s ac n ot hour ki else if (ac = 0 ∧ s.en n = 0) ∨ (ac = 6 ∧ (rea s md wy U C ac n ot hour = 6 ∨ rea s md wy U C ac n ot hour = 10)) then sHe s n 1 else s
def loM (s : pS) (md : Nat → Int) (wy : Int → Int → Int) (U C ac : Int) (n : Nat) (ot hour : Int) : Nat → Int := if rea s md wy U C ac n ot hour = 0 then tmd md ac n else md
section
variable {s : pS} {md : Nat → Int} {wy : Int → Int → Int} {U C ac ot ki hour : Int} {n : Nat}
theorem lo_t (h : rea s md wy U C ac n ot hour = 0) : loS s md wy U C ac n ot ki hour = tks s ac n ot hour ki := by unfold loS; rw [if_pos h]
theorem lo_q (h : ¬ rea s md wy U C ac n ot hour = 0) (h2 : (ac = 0 ∧ s.en n = 0) ∨ (ac = 6 ∧ (rea s md wy U C ac n ot hour = 6 ∨ rea s md wy U C ac n ot hour = 10))) : loS s md wy U C ac n ot ki hour = sHe s n 1 := by unfold loS; rw [if_neg h, if_pos h2]
theorem lo_n (h : ¬ rea s md wy U C ac n ot hour = 0) (h2 : ¬ ((ac = 0 ∧ s.en n = 0) ∨ (ac = 6 ∧ (rea s md wy U C ac n ot hour = 6 ∨ rea s md wy U C ac n ot hour = 10)))) : loS s md wy U C ac n ot ki hour = s := by unfold loS; rw [if_neg h, if_neg h2]
theorem lm_t (h : rea s md wy U C ac n ot hour = 0) : loM s md wy U C ac n ot hour = tmd md ac n := by unfold loM; rw [if_pos h]
theorem lm_n (h : ¬ rea s md wy U C ac n ot hour = 0) : loM s md wy U C ac n ot hour = md := by unfold loM; rw [if_neg h]
end
set_option maxRecDepth 4000 in
set_option maxHeartbeats 4000000 in
/-- M.looks -/
theorem r_192 {s : pS} {md : Nat → Int} (a1 : Int32) (ha1 : 0 ≤ a1.toInt ∧ a1.toInt ≤ 59) (H : mzH) (hI : gI SM H) (hJ : JM H) (hp0 : rwX H s md) (hp1 : dpt s) (hp2 : laT s md) (hp3 : (0 ≤ (aZ H 18 a1.toInt.toNat).toInt ∧ (aZ H 18 a1.toInt.toNat).toInt ≤ 999)) (hp4 : bt1 s md) : gCall 192 [.ref 0, .int a1] H (gRv (fun H' => gI SM H' ∧ JM H' ∧ (∀ a f, fZ H' a f = fZ H a f) ∧ (∀ i, aZ H' 2 i = aZ H 2 i) ∧ (∀ i, aZ H' 19 i = aZ H 19 i) ∧ (∀ i, aZ H' 17 i = aZ H 17 i) ∧ kpM H H' ∧ (∀ i, aZ H' 18 i = aZ H 18 i) ∧ (∀ i, aZ H' 22 i = aZ H 22 i) ∧ (∀ i, aZ H' 23 i = aZ H 23 i) ∧ (∀ i, aZ H' 24 i = aZ H 24 i) ∧ (∀ i, aZ H' 25 i = aZ H 25 i) ∧ rwX H' (loS s md (wyM H) (aZ H 2 3).toInt (aZ H 2 4).toInt (aZ H 2 (69 + 5 * a1.toInt + 1).toNat).toInt (aZ H 2 (69 + 5 * a1.toInt + 2).toNat).toInt.toNat (aZ H 2 (69 + 5 * a1.toInt + 3).toNat).toInt (aZ H 2 (69 + 5 * a1.toInt + 4).toNat).toInt (aZ H 18 a1.toInt.toNat).toInt) (loM s md (wyM H) (aZ H 2 3).toInt (aZ H 2 4).toInt (aZ H 2 (69 + 5 * a1.toInt + 1).toNat).toInt (aZ H 2 (69 + 5 * a1.toInt + 2).toNat).toInt.toNat (aZ H 2 (69 + 5 * a1.toInt + 3).toNat).toInt (aZ H 18 a1.toInt.toNat).toInt) ∧ (aZ H' 20 a1.toInt.toNat).toInt = rea s md (wyM H) (aZ H 2 3).toInt (aZ H 2 4).toInt (aZ H 2 (69 + 5 * a1.toInt + 1).toNat).toInt (aZ H 2 (69 + 5 * a1.toInt + 2).toNat).toInt.toNat (aZ H 2 (69 + 5 * a1.toInt + 3).toNat).toInt (aZ H 18 a1.toInt.toNat).toInt ∧ (∀ i, i ≠ a1.toInt.toNat → aZ H' 20 i = aZ H 20 i))) := by
  have mkF : ∀ a f, fZ H a f = fZ H a f := fun _ _ => rfl
  have mk2 : ∀ i, aZ H 2 i = aZ H 2 i := fun _ => rfl
  have mk19 : ∀ i, aZ H 19 i = aZ H 19 i := fun _ => rfl
  have mk17 : ∀ i, aZ H 17 i = aZ H 17 i := fun _ => rfl
  have mkfr : kpM H H := kpM_r
  have mk18 : ∀ i, aZ H 18 i = aZ H 18 i := fun _ => rfl
  have mk22 : ∀ i, aZ H 22 i = aZ H 22 i := fun _ => rfl
  have mk23 : ∀ i, aZ H 23 i = aZ H 23 i := fun _ => rfl
  have mk24 : ∀ i, aZ H 24 i = aZ H 24 i := fun _ => rfl
  have mk25 : ∀ i, aZ H 25 i = aZ H 25 i := fun _ => rfl
  have mk7 : ∀ i, aZ H 7 i = aZ H 7 i := fun _ => rfl
  have mk8 : ∀ i, aZ H 8 i = aZ H 8 i := fun _ => rfl
  have mk9 : ∀ i, aZ H 9 i = aZ H 9 i := fun _ => rfl
  refine gG_call [(0, .ref 0), (1, .int a1)] ⟨rfl, rfl, trivial⟩ ?_
  show gG 4 zB_192 (mzBlk zB_192 0) [(0, .ref 0), (1, .int a1)] [] H 0 0 _
  refine g_aload_n rfl ?_
  refine g_gfr hI sm_0 rfl ?_
  refine g_iload_n rfl ?_
  refine g_aload_n rfl ?_
  refine g_iload_n rfl ?_
  refine g_invvi hI sm_0 rfl rfl rfl rfl (r_191 a1 (by omega) H hI hJ hp0 hp1 hp2 hp3 hp4) (fun v487 H485 r486 => ?_)
  obtain ⟨rfl, p488⟩ := r486
  refine g_iastore hI sm_20 (by omega) (gz_any _) (fun H489 eH489 hIH489 => ?_)
  have hJH489 : JM H489 := JM_sA (by decide) eH489 hJ
  have m490 : ∀ a f, fZ H489 a f = fZ H a f := fun a f => (by rw [eH489, fZ_sA] : fZ H489 a f = fZ H a f).trans (mkF a f)
  have m491 : ∀ i, aZ H489 2 i = aZ H 2 i := fun i => (by rw [eH489, aZ_sA_nc (by omega)] : aZ H489 2 i = aZ H 2 i).trans (mk2 i)
  have m492 : ∀ i, aZ H489 19 i = aZ H 19 i := fun i => (by rw [eH489, aZ_sA_nc (by omega)] : aZ H489 19 i = aZ H 19 i).trans (mk19 i)
  have m493 : ∀ i, aZ H489 17 i = aZ H 17 i := fun i => (by rw [eH489, aZ_sA_nc (by omega)] : aZ H489 17 i = aZ H 17 i).trans (mk17 i)
  have m494 : kpM H H489 := kpM_A mkfr eH489 (by omega)
  have m495 : ∀ i, aZ H489 18 i = aZ H 18 i := fun i => (by rw [eH489, aZ_sA_nc (by omega)] : aZ H489 18 i = aZ H 18 i).trans (mk18 i)
  have m496 : ∀ i, aZ H489 22 i = aZ H 22 i := fun i => (by rw [eH489, aZ_sA_nc (by omega)] : aZ H489 22 i = aZ H 22 i).trans (mk22 i)
  have m497 : ∀ i, aZ H489 23 i = aZ H 23 i := fun i => (by rw [eH489, aZ_sA_nc (by omega)] : aZ H489 23 i = aZ H 23 i).trans (mk23 i)
  have m498 : ∀ i, aZ H489 24 i = aZ H 24 i := fun i => (by rw [eH489, aZ_sA_nc (by omega)] : aZ H489 24 i = aZ H 24 i).trans (mk24 i)
  have m499 : ∀ i, aZ H489 25 i = aZ H 25 i := fun i => (by rw [eH489, aZ_sA_nc (by omega)] : aZ H489 25 i = aZ H 25 i).trans (mk25 i)
  have m500 : ∀ i, aZ H489 7 i = aZ H 7 i := fun i => (by rw [eH489, aZ_sA_nc (by omega)] : aZ H489 7 i = aZ H 7 i).trans (mk7 i)
  have m501 : ∀ i, aZ H489 8 i = aZ H 8 i := fun i => (by rw [eH489, aZ_sA_nc (by omega)] : aZ H489 8 i = aZ H 8 i).trans (mk8 i)
  have m502 : ∀ i, aZ H489 9 i = aZ H 9 i := fun i => (by rw [eH489, aZ_sA_nc (by omega)] : aZ H489 9 i = aZ H 9 i).trans (mk9 i)
  have wdH489 : rwX H489 s md := rw_o hp0 eH489 (by decide)
  have e503 : v487 = aZ H489 20 a1.toInt.toNat := by rw [eH489, aZ_sA_eq hI sm_20 (by omega)]
  refine g_aload_n rfl ?_
  refine g_iload_n rfl ?_
  refine g_iconst (by decide) (fun v504 kv504 => ?_)
  refine g_invvi hIH489 sm_0 rfl rfl rfl rfl (s_181 a1 (by omega) v504 (by omega) H489 hIH489 (JM_n hJH489)) (fun v507 H505 r506 => ?_)
  obtain ⟨rfl, p508⟩ := r506
  have tv507 : v507 = aZ H489 2 (69 + 5 * a1.toInt + 1).toNat := by rw [p508, kv504]
  have qv507 := JN_w1 (JM_n hJH489) (by omega) tv507
  have zv507 : v507.toInt = (aZ H 2 (69 + 5 * a1.toInt + 1).toNat).toInt := by rw [tv507, m491]
  refine g_istore_n (l' := [(0, .ref 0), (1, .int a1), (2, .int v507)]) rfl rfl ?_
  refine g_aload_n rfl ?_
  refine g_iload_n rfl ?_
  refine g_iconst (by decide) (fun v509 kv509 => ?_)
  refine g_invvi hIH489 sm_0 rfl rfl rfl rfl (s_181 a1 (by omega) v509 (by omega) H489 hIH489 (JM_n hJH489)) (fun v512 H510 r511 => ?_)
  obtain ⟨rfl, p513⟩ := r511
  have tv512 : v512 = aZ H489 2 (69 + 5 * a1.toInt + 2).toNat := by rw [p513, kv509]
  have qv512 := JN_w2 (JM_n hJH489) (by omega) tv512
  have zv512 : v512.toInt = (aZ H 2 (69 + 5 * a1.toInt + 2).toNat).toInt := by rw [tv512, m491]
  refine g_istore_n (l' := [(0, .ref 0), (1, .int a1), (2, .int v507), (3, .int v512)]) rfl rfl ?_
  refine g_aload_n rfl ?_
  refine g_gfr hIH489 sm_0 rfl ?_
  refine g_iload_n rfl ?_
  refine g_ialoadk hIH489 sm_20 rfl (by omega) e503 ?_
  refine g_if_ne (fun c514 => ?_) (fun c514 => ?_)
  · refine g_iload_n rfl ?_
    refine g_if_ne (fun c515 => ?_) (fun c515 => ?_)
    · refine g_iload_n rfl ?_
      refine g_bipush (by decide) (fun v516 kv516 => ?_)
      refine g_if2_ne (fun c517 => ?_) (fun c517 => ?_)
      · exact g_ret ⟨rfl, hIH489, hJH489, m490, m491, m492, m493, m494, m495, m496, m497, m498, m499, (by rw [lo_n (by omega) (by omega), lm_n (by omega)]; exact wdH489), (by rw [eH489, aZ_sA_eq hI sm_20 (by omega)]; exact p488), (fun i hi => by rw [eH489, aZ_sA_ne (by omega)])⟩
      · refine g_aload_n rfl ?_
        refine g_gfr hIH489 sm_0 rfl ?_
        refine g_iload_n rfl ?_
        refine g_ialoadk hIH489 sm_20 rfl (by omega) e503 ?_
        refine g_bipush (by decide) (fun v518 kv518 => ?_)
        refine g_if2_eq (fun c519 => ?_) (fun c519 => ?_)
        · refine g_aload_n rfl ?_
          refine g_gfr hIH489 sm_0 rfl ?_
          refine g_iload_n rfl ?_
          refine g_iconst (by decide) (fun v520 kv520 => ?_)
          refine g_zastore hIH489 sm_14 (by omega) (by omega) (fun H521 eH521 hIH521 => ?_)
          have hJH521 : JM H521 := JM_sA (by decide) eH521 hJH489
          have m522 : ∀ a f, fZ H521 a f = fZ H a f := fun a f => (by rw [eH521, fZ_sA] : fZ H521 a f = fZ H489 a f).trans (m490 a f)
          have m523 : ∀ i, aZ H521 2 i = aZ H 2 i := fun i => (by rw [eH521, aZ_sA_nc (by omega)] : aZ H521 2 i = aZ H489 2 i).trans (m491 i)
          have m524 : ∀ i, aZ H521 19 i = aZ H 19 i := fun i => (by rw [eH521, aZ_sA_nc (by omega)] : aZ H521 19 i = aZ H489 19 i).trans (m492 i)
          have m525 : ∀ i, aZ H521 17 i = aZ H 17 i := fun i => (by rw [eH521, aZ_sA_nc (by omega)] : aZ H521 17 i = aZ H489 17 i).trans (m493 i)
          have m526 : kpM H H521 := kpM_A m494 eH521 (by omega)
          have m527 : ∀ i, aZ H521 18 i = aZ H 18 i := fun i => (by rw [eH521, aZ_sA_nc (by omega)] : aZ H521 18 i = aZ H489 18 i).trans (m495 i)
          have m528 : ∀ i, aZ H521 22 i = aZ H 22 i := fun i => (by rw [eH521, aZ_sA_nc (by omega)] : aZ H521 22 i = aZ H489 22 i).trans (m496 i)
          have m529 : ∀ i, aZ H521 23 i = aZ H 23 i := fun i => (by rw [eH521, aZ_sA_nc (by omega)] : aZ H521 23 i = aZ H489 23 i).trans (m497 i)
          have m530 : ∀ i, aZ H521 24 i = aZ H 24 i := fun i => (by rw [eH521, aZ_sA_nc (by omega)] : aZ H521 24 i = aZ H489 24 i).trans (m498 i)
          have m531 : ∀ i, aZ H521 25 i = aZ H 25 i := fun i => (by rw [eH521, aZ_sA_nc (by omega)] : aZ H521 25 i = aZ H489 25 i).trans (m499 i)
          have m532 : ∀ i, aZ H521 7 i = aZ H 7 i := fun i => (by rw [eH521, aZ_sA_nc (by omega)] : aZ H521 7 i = aZ H489 7 i).trans (m500 i)
          have m533 : ∀ i, aZ H521 8 i = aZ H 8 i := fun i => (by rw [eH521, aZ_sA_nc (by omega)] : aZ H521 8 i = aZ H489 8 i).trans (m501 i)
          have m534 : ∀ i, aZ H521 9 i = aZ H 9 i := fun i => (by rw [eH521, aZ_sA_nc (by omega)] : aZ H521 9 i = aZ H489 9 i).trans (m502 i)
          have wdH521 : rwX H521 (sHe s v512.toInt.toNat v520.toInt) md := rw_14 hIH489 wdH489 eH521 (by omega)
          refine g_nop ?_
          exact g_ret ⟨rfl, hIH521, hJH521, m522, m523, m524, m525, m526, m527, m528, m529, m530, m531, (by rw [lo_q (by omega) (by omega), lm_n (by omega), ← zv512]; have z := wdH521; rw [kv520] at z; exact z), (by rw [eH521, aZ_sA_nc (by decide), eH489, aZ_sA_eq hI sm_20 (by omega)]; exact p488), (fun i hi => by rw [eH521, aZ_sA_nc (by decide), eH489, aZ_sA_ne (by omega)])⟩
        · refine g_aload_n rfl ?_
          refine g_gfr hIH489 sm_0 rfl ?_
          refine g_iload_n rfl ?_
          refine g_ialoadk hIH489 sm_20 rfl (by omega) e503 ?_
          refine g_bipush (by decide) (fun v535 kv535 => ?_)
          refine g_if2_ne (fun c536 => ?_) (fun c536 => ?_)
          · exact g_ret ⟨rfl, hIH489, hJH489, m490, m491, m492, m493, m494, m495, m496, m497, m498, m499, (by rw [lo_n (by omega) (by omega), lm_n (by omega)]; exact wdH489), (by rw [eH489, aZ_sA_eq hI sm_20 (by omega)]; exact p488), (fun i hi => by rw [eH489, aZ_sA_ne (by omega)])⟩
          · refine g_nop ?_
            refine g_aload_n rfl ?_
            refine g_gfr hIH489 sm_0 rfl ?_
            refine g_iload_n rfl ?_
            refine g_iconst (by decide) (fun v537 kv537 => ?_)
            refine g_zastore hIH489 sm_14 (by omega) (by omega) (fun H538 eH538 hIH538 => ?_)
            have hJH538 : JM H538 := JM_sA (by decide) eH538 hJH489
            have m539 : ∀ a f, fZ H538 a f = fZ H a f := fun a f => (by rw [eH538, fZ_sA] : fZ H538 a f = fZ H489 a f).trans (m490 a f)
            have m540 : ∀ i, aZ H538 2 i = aZ H 2 i := fun i => (by rw [eH538, aZ_sA_nc (by omega)] : aZ H538 2 i = aZ H489 2 i).trans (m491 i)
            have m541 : ∀ i, aZ H538 19 i = aZ H 19 i := fun i => (by rw [eH538, aZ_sA_nc (by omega)] : aZ H538 19 i = aZ H489 19 i).trans (m492 i)
            have m542 : ∀ i, aZ H538 17 i = aZ H 17 i := fun i => (by rw [eH538, aZ_sA_nc (by omega)] : aZ H538 17 i = aZ H489 17 i).trans (m493 i)
            have m543 : kpM H H538 := kpM_A m494 eH538 (by omega)
            have m544 : ∀ i, aZ H538 18 i = aZ H 18 i := fun i => (by rw [eH538, aZ_sA_nc (by omega)] : aZ H538 18 i = aZ H489 18 i).trans (m495 i)
            have m545 : ∀ i, aZ H538 22 i = aZ H 22 i := fun i => (by rw [eH538, aZ_sA_nc (by omega)] : aZ H538 22 i = aZ H489 22 i).trans (m496 i)
            have m546 : ∀ i, aZ H538 23 i = aZ H 23 i := fun i => (by rw [eH538, aZ_sA_nc (by omega)] : aZ H538 23 i = aZ H489 23 i).trans (m497 i)
            have m547 : ∀ i, aZ H538 24 i = aZ H 24 i := fun i => (by rw [eH538, aZ_sA_nc (by omega)] : aZ H538 24 i = aZ H489 24 i).trans (m498 i)
            have m548 : ∀ i, aZ H538 25 i = aZ H 25 i := fun i => (by rw [eH538, aZ_sA_nc (by omega)] : aZ H538 25 i = aZ H489 25 i).trans (m499 i)
            have m549 : ∀ i, aZ H538 7 i = aZ H 7 i := fun i => (by rw [eH538, aZ_sA_nc (by omega)] : aZ H538 7 i = aZ H489 7 i).trans (m500 i)
            have m550 : ∀ i, aZ H538 8 i = aZ H 8 i := fun i => (by rw [eH538, aZ_sA_nc (by omega)] : aZ H538 8 i = aZ H489 8 i).trans (m501 i)
            have m551 : ∀ i, aZ H538 9 i = aZ H 9 i := fun i => (by rw [eH538, aZ_sA_nc (by omega)] : aZ H538 9 i = aZ H489 9 i).trans (m502 i)
            have wdH538 : rwX H538 (sHe s v512.toInt.toNat v537.toInt) md := rw_14 hIH489 wdH489 eH538 (by omega)
            refine g_nop ?_
            exact g_ret ⟨rfl, hIH538, hJH538, m539, m540, m541, m542, m543, m544, m545, m546, m547, m548, (by rw [lo_q (by omega) (by omega), lm_n (by omega), ← zv512]; have z := wdH538; rw [kv537] at z; exact z), (by rw [eH538, aZ_sA_nc (by decide), eH489, aZ_sA_eq hI sm_20 (by omega)]; exact p488), (fun i hi => by rw [eH538, aZ_sA_nc (by decide), eH489, aZ_sA_ne (by omega)])⟩
    · refine g_aload_n rfl ?_
      refine g_gfr hIH489 sm_0 rfl ?_
      refine g_iload_n rfl ?_
      refine g_baload hIH489 sm_16 rfl (by omega) (fun v552 ev552 lv552 uv552 => ?_)
      have yv552 : v552.toInt = (s).en v512.toInt.toNat := by rw [ev552]; exact (wdH489 _ (by omega)).2.2.2.2.2.2.2.2.2
      rw [zv512] at yv552
      refine g_if_eq (fun c553 => ?_) (fun c553 => ?_)
      · refine g_aload_n rfl ?_
        refine g_gfr hIH489 sm_0 rfl ?_
        refine g_iload_n rfl ?_
        refine g_iconst (by decide) (fun v554 kv554 => ?_)
        refine g_zastore hIH489 sm_14 (by omega) (by omega) (fun H555 eH555 hIH555 => ?_)
        have hJH555 : JM H555 := JM_sA (by decide) eH555 hJH489
        have m556 : ∀ a f, fZ H555 a f = fZ H a f := fun a f => (by rw [eH555, fZ_sA] : fZ H555 a f = fZ H489 a f).trans (m490 a f)
        have m557 : ∀ i, aZ H555 2 i = aZ H 2 i := fun i => (by rw [eH555, aZ_sA_nc (by omega)] : aZ H555 2 i = aZ H489 2 i).trans (m491 i)
        have m558 : ∀ i, aZ H555 19 i = aZ H 19 i := fun i => (by rw [eH555, aZ_sA_nc (by omega)] : aZ H555 19 i = aZ H489 19 i).trans (m492 i)
        have m559 : ∀ i, aZ H555 17 i = aZ H 17 i := fun i => (by rw [eH555, aZ_sA_nc (by omega)] : aZ H555 17 i = aZ H489 17 i).trans (m493 i)
        have m560 : kpM H H555 := kpM_A m494 eH555 (by omega)
        have m561 : ∀ i, aZ H555 18 i = aZ H 18 i := fun i => (by rw [eH555, aZ_sA_nc (by omega)] : aZ H555 18 i = aZ H489 18 i).trans (m495 i)
        have m562 : ∀ i, aZ H555 22 i = aZ H 22 i := fun i => (by rw [eH555, aZ_sA_nc (by omega)] : aZ H555 22 i = aZ H489 22 i).trans (m496 i)
        have m563 : ∀ i, aZ H555 23 i = aZ H 23 i := fun i => (by rw [eH555, aZ_sA_nc (by omega)] : aZ H555 23 i = aZ H489 23 i).trans (m497 i)
        have m564 : ∀ i, aZ H555 24 i = aZ H 24 i := fun i => (by rw [eH555, aZ_sA_nc (by omega)] : aZ H555 24 i = aZ H489 24 i).trans (m498 i)
        have m565 : ∀ i, aZ H555 25 i = aZ H 25 i := fun i => (by rw [eH555, aZ_sA_nc (by omega)] : aZ H555 25 i = aZ H489 25 i).trans (m499 i)
        have m566 : ∀ i, aZ H555 7 i = aZ H 7 i := fun i => (by rw [eH555, aZ_sA_nc (by omega)] : aZ H555 7 i = aZ H489 7 i).trans (m500 i)
        have m567 : ∀ i, aZ H555 8 i = aZ H 8 i := fun i => (by rw [eH555, aZ_sA_nc (by omega)] : aZ H555 8 i = aZ H489 8 i).trans (m501 i)
        have m568 : ∀ i, aZ H555 9 i = aZ H 9 i := fun i => (by rw [eH555, aZ_sA_nc (by omega)] : aZ H555 9 i = aZ H489 9 i).trans (m502 i)
        have wdH555 : rwX H555 (sHe s v512.toInt.toNat v554.toInt) md := rw_14 hIH489 wdH489 eH555 (by omega)
        refine g_nop ?_
        exact g_ret ⟨rfl, hIH555, hJH555, m556, m557, m558, m559, m560, m561, m562, m563, m564, m565, (by rw [lo_q (by omega) (by omega), lm_n (by omega), ← zv512]; have z := wdH555; rw [kv554] at z; exact z), (by rw [eH555, aZ_sA_nc (by decide), eH489, aZ_sA_eq hI sm_20 (by omega)]; exact p488), (fun i hi => by rw [eH555, aZ_sA_nc (by decide), eH489, aZ_sA_ne (by omega)])⟩
      · refine g_nop ?_
        refine g_iload_n rfl ?_
        refine g_bipush (by decide) (fun v569 kv569 => ?_)
        refine g_if2_ne (fun c570 => ?_) (fun c570 => ?_)
        · exact g_ret ⟨rfl, hIH489, hJH489, m490, m491, m492, m493, m494, m495, m496, m497, m498, m499, (by rw [lo_n (by omega) (by omega), lm_n (by omega)]; exact wdH489), (by rw [eH489, aZ_sA_eq hI sm_20 (by omega)]; exact p488), (fun i hi => by rw [eH489, aZ_sA_ne (by omega)])⟩
        · exfalso; omega
  · refine g_aload_n rfl ?_
    refine g_iload_n rfl ?_
    refine g_iload_n rfl ?_
    refine g_aload_n rfl ?_
    refine g_iload_n rfl ?_
    refine g_iconst (by decide) (fun v571 kv571 => ?_)
    refine g_invvi hIH489 sm_0 rfl rfl rfl rfl (s_181 a1 (by omega) v571 (by omega) H489 hIH489 (JM_n hJH489)) (fun v574 H572 r573 => ?_)
    obtain ⟨rfl, p575⟩ := r573
    have tv574 : v574 = aZ H489 2 (69 + 5 * a1.toInt + 3).toNat := by rw [p575, kv571]
    have qv574 := JN_w3 (JM_n hJH489) (by omega) tv507 tv574
    have zv574 : v574.toInt = (aZ H 2 (69 + 5 * a1.toInt + 3).toNat).toInt := by rw [tv574, m491]
    refine g_aload_n rfl ?_
    refine g_gfr hIH489 sm_0 rfl ?_
    refine g_iload_n rfl ?_
    refine g_iaload hIH489 sm_18 rfl (by omega) (fun v576 ev576 lv576 uv576 => ?_)
    have hzv576 : v576.toInt = (aZ H 18 a1.toInt.toNat).toInt := by rw [ev576, m495]
    refine g_aload_n rfl ?_
    refine g_iload_n rfl ?_
    refine g_iconst (by decide) (fun v577 kv577 => ?_)
    refine g_invvi hIH489 sm_0 rfl rfl rfl rfl (s_181 a1 (by omega) v577 (by omega) H489 hIH489 (JM_n hJH489)) (fun v580 H578 r579 => ?_)
    obtain ⟨rfl, p581⟩ := r579
    have tv580 : v580 = aZ H489 2 (69 + 5 * a1.toInt + 4).toNat := by rw [p581, kv577]
    have qv580 := JN_w4 (JM_n hJH489) (by omega) tv507 tv580
    have zv580 : v580.toInt = (aZ H 2 (69 + 5 * a1.toInt + 4).toNat).toInt := by rw [tv580, m491]
    refine g_invvv hIH489 sm_0 rfl rfl rfl rfl (r_194 v507 (by omega) v512 (by omega) v574 v576 v580 H489 hIH489 hJH489 (by omega) (by omega) (by omega) (rs_of wdH489 (by omega) (by omega) (by rw [zv507, zv512, zv574, ← p488]; omega)) wdH489 hp1) (fun H582 r583 => ?_)
    obtain ⟨hIH582, hJH582, m584, m585, m586, m587, m588, m589, m590, m591, m592, m593, m594, p595⟩ := r583
    have m596 : ∀ a f, fZ H582 a f = fZ H a f := fun a f => (m584 a f).trans (m490 a f)
    have m597 : ∀ i, aZ H582 2 i = aZ H 2 i := fun i => (m585 i).trans (m491 i)
    have m598 : ∀ i, aZ H582 19 i = aZ H 19 i := fun i => (m586 i).trans (m492 i)
    have m599 : ∀ i, aZ H582 17 i = aZ H 17 i := fun i => (m587 i).trans (m493 i)
    have m600 : kpM H H582 := kpM_t m494 m588
    have m601 : ∀ i, aZ H582 18 i = aZ H 18 i := fun i => (m589 i).trans (m495 i)
    have m602 : ∀ i, aZ H582 22 i = aZ H 22 i := fun i => (m591 i).trans (m496 i)
    have m603 : ∀ i, aZ H582 23 i = aZ H 23 i := fun i => (m592 i).trans (m497 i)
    have m604 : ∀ i, aZ H582 24 i = aZ H 24 i := fun i => (m593 i).trans (m498 i)
    have m605 : ∀ i, aZ H582 25 i = aZ H 25 i := fun i => (m594 i).trans (m499 i)
    refine g_goto ?_
    exact g_ret ⟨rfl, hIH582, hJH582, m596, m597, m598, m599, m600, m601, m602, m603, m604, m605, (by rw [lo_t (by omega), lm_t (by omega), ← zv507, ← zv512, ← zv574, ← zv580, ← hzv576]; exact p595), (by rw [m590, eH489, aZ_sA_eq hI sm_20 (by omega)]; exact p488), (fun i hi => by rw [m590, eH489, aZ_sA_ne (by omega)])⟩
