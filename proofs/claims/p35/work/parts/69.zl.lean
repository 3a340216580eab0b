theorem rs_of {H : mzH} {s : pS} {md : Nat → Int} {wy : Int → Int → Int} {U C hour : Int} {w n o : Int32} (hw : rwX H s md) (hn : 0 ≤ n.toInt ∧ n.toInt < 40) (ho : w.toInt = 1 → (0 ≤ o.toInt ∧ o.toInt < 40)) (h : rea s md wy U C w.toInt n.toInt.toNat o.toInt hour = 0) : RS H w n o := by
  have h1 := hw n.toInt.toNat (by omega)
  refine ⟨fun q => ?_, fun q => ?_, fun q => ?_⟩
  · rw [rea_u, if_pos q] at h
    rw [h1.1]
    exact h
  · rw [h1.2.2.1]
    intro z
    rw [rea_u, if_neg (by omega)] at h
    if a : md n.toInt.toNat = 0 ∨ (w.toInt = 1 ∧ md o.toInt.toNat = 0) then
      rw [if_pos a] at h
      omega
    else
      rw [if_neg a] at h
      if b : ¬ s.en n.toInt.toNat = 0 ∨ (w.toInt = 1 ∧ ¬ s.en o.toInt.toNat = 0) then
        rw [if_pos b] at h
        omega
      else
        rw [if_neg b, if_neg (by omega), if_pos (Or.inr ⟨q, z⟩)] at h
        omega
  · have h2 := hw o.toInt.toNat (by have := ho q; omega)
    rw [h1.1, h2.1, h1.2.1, h2.2.1]
    rw [rea_u, if_neg (by omega)] at h
    if a : md n.toInt.toNat = 0 ∨ (w.toInt = 1 ∧ md o.toInt.toNat = 0) then
      rw [if_pos a] at h
      omega
    else
      rw [if_neg a] at h
      if b : ¬ s.en n.toInt.toNat = 0 ∨ (w.toInt = 1 ∧ ¬ s.en o.toInt.toNat = 0) then
        rw [if_pos b] at h
        omega
      else
        rw [if_neg b] at h
        if c : w.toInt = 1 ∧ s.kd o.toInt.toNat ≠ s.kd n.toInt.toNat + 1 then
          rw [if_pos c] at h
          omega
        else exact ⟨fun z => a (Or.inl z), fun z => a (Or.inr ⟨q, z⟩), by omega⟩
/-- the world behind a message -/
def loS (s : pS) (md : Nat → Int) (wy : Int → Int → Int) (U C ac : Int) (n : Nat) (ot ki hour : Int) : pS := if rea s md wy U C ac n ot hour = 0 then tks s ac n ot hour ki else if (ac = 0 ∧ s.en n = 0) ∨ (ac = 6 ∧ (rea s md wy U C ac n ot hour = 6 ∨ rea s md wy U C ac n ot hour = 10)) then sHe s n 1 else s
def loM (s : pS) (md : Nat → Int) (wy : Int → Int → Int) (U C ac : Int) (n : Nat) (ot hour : Int) : Nat → Int := if rea s md wy U C ac n ot hour = 0 then tmd md ac n else md
section
variable {s : pS} {md : Nat → Int} {wy : Int → Int → Int} {U C ac ot ki hour : Int} {n : Nat}
theorem lo_t (h : rea s md wy U C ac n ot hour = 0) : loS s md wy U C ac n ot ki hour = tks s ac n ot hour ki := by unfold loS; rw [if_pos h]
theorem lo_q (h : ¬ rea s md wy U C ac n ot hour = 0) (h2 : (ac = 0 ∧ s.en n = 0) ∨ (ac = 6 ∧ (rea s md wy U C ac n ot hour = 6 ∨ rea s md wy U C ac n ot hour = 10))) : loS s md wy U C ac n ot ki hour = sHe s n 1 := by unfold loS; rw [if_neg h, if_pos h2]
theorem lo_n (h : ¬ rea s md wy U C ac n ot hour = 0) (h2 : ¬ ((ac = 0 ∧ s.en n = 0) ∨ (ac = 6 ∧ (rea s md wy U C ac n ot hour = 6 ∨ rea s md wy U C ac n ot hour = 10)))) : loS s md wy U C ac n ot ki hour = s := by unfold loS; rw [if_neg h, if_neg h2]
theorem lm_t (h : rea s md wy U C ac n ot hour = 0) : loM s md wy U C ac n ot hour = tmd md ac n := by unfold loM; rw [if_pos h]
theorem lm_n (h : ¬ rea s md wy U C ac n ot hour = 0) : loM s md wy U C ac n ot hour = md := by unfold loM; rw [if_neg h]
end
set_option maxRecDepth 4000 in
set_option maxHeartbeats 4000000 in
/-- M.looks -/
theorem r_192 {s : pS} {md : Nat → Int} (a1 : Int32) (ha1 : 0 ≤ a1.toInt ∧ a1.toInt ≤ 59) (H : mzH) (hI : gI SM H) (hJ : JM H) (hp0 : rwX H s md) (hp1 : dpt s) (hp2 : laT s md) (hp3 : (0 ≤ (aZ H 18 a1.toInt.toNat).toInt ∧ (aZ H 18 a1.toInt.toNat).toInt ≤ 999)) (hp4 : bt1 s md) : gCall 192 [.ref 0, .int a1] H (gRv (fun H' => gI SM H' ∧ JM H' ∧ (∀ a f, fZ H' a f = fZ H a f) ∧ (∀ i, aZ H' 2 i = aZ H 2 i) ∧ (∀ i, aZ H' 19 i = aZ H 19 i) ∧ (∀ i, aZ H' 17 i = aZ H 17 i) ∧ kpM H H' ∧ (∀ i, aZ H' 18 i = aZ H 18 i) ∧ rwX H' (loS s md (wyM H) (aZ H 2 3).toInt (aZ H 2 4).toInt (aZ H 2 (69 + 5 * a1.toInt + 1).toNat).toInt (aZ H 2 (69 + 5 * a1.toInt + 2).toNat).toInt.toNat (aZ H 2 (69 + 5 * a1.toInt + 3).toNat).toInt (aZ H 2 (69 + 5 * a1.toInt + 4).toNat).toInt (aZ H 18 a1.toInt.toNat).toInt) (loM s md (wyM H) (aZ H 2 3).toInt (aZ H 2 4).toInt (aZ H 2 (69 + 5 * a1.toInt + 1).toNat).toInt (aZ H 2 (69 + 5 * a1.toInt + 2).toNat).toInt.toNat (aZ H 2 (69 + 5 * a1.toInt + 3).toNat).toInt (aZ H 18 a1.toInt.toNat).toInt) ∧ (aZ H' 20 a1.toInt.toNat).toInt = rea s md (wyM H) (aZ H 2 3).toInt (aZ H 2 4).toInt (aZ H 2 (69 + 5 * a1.toInt + 1).toNat).toInt (aZ H 2 (69 + 5 * a1.toInt + 2).toNat).toInt.toNat (aZ H 2 (69 + 5 * a1.toInt + 3).toNat).toInt (aZ H 18 a1.toInt.toNat).toInt ∧ (∀ i, i ≠ a1.toInt.toNat → aZ H' 20 i = aZ H 20 i))) := by
  have mkF : ∀ a f, fZ H a f = fZ H a f := fun _ _ => rfl
  have mk2 : ∀ i, aZ H 2 i = aZ H 2 i := fun _ => rfl
  have mk19 : ∀ i, aZ H 19 i = aZ H 19 i := fun _ => rfl
  have mk17 : ∀ i, aZ H 17 i = aZ H 17 i := fun _ => rfl
  have mkfr : kpM H H := kpM_r
  have mk18 : ∀ i, aZ H 18 i = aZ H 18 i := fun _ => rfl
  have mk7 : ∀ i, aZ H 7 i = aZ H 7 i := fun _ => rfl
  have mk8 : ∀ i, aZ H 8 i = aZ H 8 i := fun _ => rfl
  have mk9 : ∀ i, aZ H 9 i = aZ H 9 i := fun _ => rfl
  refine gG_call [(0, .ref 0), (1, .int a1)] ⟨rfl, rfl, trivial⟩ ?_
  show gG 4 zB_192 (mzBlk zB_192 0) [(0, .ref 0), (1, .int a1)] [] H 0 0 _
  refine g_aload_n rfl ?_
  refine g_gfr hI sm_0 rfl ?_
  refine g_iload_n rfl ?_
  refine g_aload_n rfl ?_
  refine g_iload_n rfl ?_
  refine g_invvi hI sm_0 rfl rfl rfl rfl (r_191 a1 (by omega) H hI hJ hp0 hp1 hp2 hp3 hp4) (fun v391 H389 r390 => ?_)
  obtain ⟨rfl, p392⟩ := r390
  refine g_iastore hI sm_20 (by omega) (gz_any _) (fun H393 eH393 hIH393 => ?_)
  have hJH393 : JM H393 := JM_sA (by decide) eH393 hJ
  have m394 : ∀ a f, fZ H393 a f = fZ H a f := fun a f => (by rw [eH393, fZ_sA] : fZ H393 a f = fZ H a f).trans (mkF a f)
  have m395 : ∀ i, aZ H393 2 i = aZ H 2 i := fun i => (by rw [eH393, aZ_sA_nc (by omega)] : aZ H393 2 i = aZ H 2 i).trans (mk2 i)
  have m396 : ∀ i, aZ H393 19 i = aZ H 19 i := fun i => (by rw [eH393, aZ_sA_nc (by omega)] : aZ H393 19 i = aZ H 19 i).trans (mk19 i)
  have m397 : ∀ i, aZ H393 17 i = aZ H 17 i := fun i => (by rw [eH393, aZ_sA_nc (by omega)] : aZ H393 17 i = aZ H 17 i).trans (mk17 i)
  have m398 : kpM H H393 := kpM_A mkfr eH393 (by omega)
  have m399 : ∀ i, aZ H393 18 i = aZ H 18 i := fun i => (by rw [eH393, aZ_sA_nc (by omega)] : aZ H393 18 i = aZ H 18 i).trans (mk18 i)
  have m400 : ∀ i, aZ H393 7 i = aZ H 7 i := fun i => (by rw [eH393, aZ_sA_nc (by omega)] : aZ H393 7 i = aZ H 7 i).trans (mk7 i)
  have m401 : ∀ i, aZ H393 8 i = aZ H 8 i := fun i => (by rw [eH393, aZ_sA_nc (by omega)] : aZ H393 8 i = aZ H 8 i).trans (mk8 i)
  have m402 : ∀ i, aZ H393 9 i = aZ H 9 i := fun i => (by rw [eH393, aZ_sA_nc (by omega)] : aZ H393 9 i = aZ H 9 i).trans (mk9 i)
  have wdH393 : rwX H393 s md := rw_o hp0 eH393 (by decide)
  have e403 : v391 = aZ H393 20 a1.toInt.toNat := by rw [eH393, aZ_sA_eq hI sm_20 (by omega)]
  refine g_aload_n rfl ?_
  refine g_iload_n rfl ?_
  refine g_iconst (by decide) (fun v404 kv404 => ?_)
  refine g_invvi hIH393 sm_0 rfl rfl rfl rfl (s_181 a1 (by omega) v404 (by omega) H393 hIH393 (JM_n hJH393)) (fun v407 H405 r406 => ?_)
  obtain ⟨rfl, p408⟩ := r406
  have tv407 : v407 = aZ H393 2 (69 + 5 * a1.toInt + 1).toNat := by rw [p408, kv404]
  have qv407 := JN_w1 (JM_n hJH393) (by omega) tv407
  have zv407 : v407.toInt = (aZ H 2 (69 + 5 * a1.toInt + 1).toNat).toInt := by rw [tv407, m395]
  refine g_istore_n (l' := [(0, .ref 0), (1, .int a1), (2, .int v407)]) rfl rfl ?_
  refine g_aload_n rfl ?_
  refine g_iload_n rfl ?_
  refine g_iconst (by decide) (fun v409 kv409 => ?_)
  refine g_invvi hIH393 sm_0 rfl rfl rfl rfl (s_181 a1 (by omega) v409 (by omega) H393 hIH393 (JM_n hJH393)) (fun v412 H410 r411 => ?_)
  obtain ⟨rfl, p413⟩ := r411
  have tv412 : v412 = aZ H393 2 (69 + 5 * a1.toInt + 2).toNat := by rw [p413, kv409]
  have qv412 := JN_w2 (JM_n hJH393) (by omega) tv412
  have zv412 : v412.toInt = (aZ H 2 (69 + 5 * a1.toInt + 2).toNat).toInt := by rw [tv412, m395]
  refine g_istore_n (l' := [(0, .ref 0), (1, .int a1), (2, .int v407), (3, .int v412)]) rfl rfl ?_
  refine g_aload_n rfl ?_
  refine g_gfr hIH393 sm_0 rfl ?_
  refine g_iload_n rfl ?_
  refine g_ialoadk hIH393 sm_20 rfl (by omega) e403 ?_
  refine g_if_ne (fun c414 => ?_) (fun c414 => ?_)
  · refine g_iload_n rfl ?_
    refine g_if_ne (fun c415 => ?_) (fun c415 => ?_)
    · refine g_iload_n rfl ?_
      refine g_bipush (by decide) (fun v416 kv416 => ?_)
      refine g_if2_ne (fun c417 => ?_) (fun c417 => ?_)
      · exact g_ret ⟨rfl, hIH393, hJH393, m394, m395, m396, m397, m398, m399, (by rw [lo_n (by omega) (by omega), lm_n (by omega)]; exact wdH393), (by rw [eH393, aZ_sA_eq hI sm_20 (by omega)]; exact p392), (fun i hi => by rw [eH393, aZ_sA_ne (by omega)])⟩
      · refine g_aload_n rfl ?_
        refine g_gfr hIH393 sm_0 rfl ?_
        refine g_iload_n rfl ?_
        refine g_ialoadk hIH393 sm_20 rfl (by omega) e403 ?_
        refine g_bipush (by decide) (fun v418 kv418 => ?_)
        refine g_if2_eq (fun c419 => ?_) (fun c419 => ?_)
        · refine g_aload_n rfl ?_
          refine g_gfr hIH393 sm_0 rfl ?_
          refine g_iload_n rfl ?_
          refine g_iconst (by decide) (fun v420 kv420 => ?_)
          refine g_zastore hIH393 sm_14 (by omega) (by omega) (fun H421 eH421 hIH421 => ?_)
          have hJH421 : JM H421 := JM_sA (by decide) eH421 hJH393
          have m422 : ∀ a f, fZ H421 a f = fZ H a f := fun a f => (by rw [eH421, fZ_sA] : fZ H421 a f = fZ H393 a f).trans (m394 a f)
          have m423 : ∀ i, aZ H421 2 i = aZ H 2 i := fun i => (by rw [eH421, aZ_sA_nc (by omega)] : aZ H421 2 i = aZ H393 2 i).trans (m395 i)
          have m424 : ∀ i, aZ H421 19 i = aZ H 19 i := fun i => (by rw [eH421, aZ_sA_nc (by omega)] : aZ H421 19 i = aZ H393 19 i).trans (m396 i)
          have m425 : ∀ i, aZ H421 17 i = aZ H 17 i := fun i => (by rw [eH421, aZ_sA_nc (by omega)] : aZ H421 17 i = aZ H393 17 i).trans (m397 i)
          have m426 : kpM H H421 := kpM_A m398 eH421 (by omega)
          have m427 : ∀ i, aZ H421 18 i = aZ H 18 i := fun i => (by rw [eH421, aZ_sA_nc (by omega)] : aZ H421 18 i = aZ H393 18 i).trans (m399 i)
          have m428 : ∀ i, aZ H421 7 i = aZ H 7 i := fun i => (by rw [eH421, aZ_sA_nc (by omega)] : aZ H421 7 i = aZ H393 7 i).trans (m400 i)
          have m429 : ∀ i, aZ H421 8 i = aZ H 8 i := fun i => (by rw [eH421, aZ_sA_nc (by omega)] : aZ H421 8 i = aZ H393 8 i).trans (m401 i)
          have m430 : ∀ i, aZ H421 9 i = aZ H 9 i := fun i => (by rw [eH421, aZ_sA_nc (by omega)] : aZ H421 9 i = aZ H393 9 i).trans (m402 i)
          have wdH421 : rwX H421 (sHe s v412.toInt.toNat v420.toInt) md := rw_14 hIH393 wdH393 eH421 (by omega)
          refine g_nop ?_
          exact g_ret ⟨rfl, hIH421, hJH421, m422, m423, m424, m425, m426, m427, (by rw [lo_q (by omega) (by omega), lm_n (by omega), ← zv412]; have z := wdH421; rw [kv420] at z; exact z), (by rw [eH421, aZ_sA_nc (by decide), eH393, aZ_sA_eq hI sm_20 (by omega)]; exact p392), (fun i hi => by rw [eH421, aZ_sA_nc (by decide), eH393, aZ_sA_ne (by omega)])⟩
        · refine g_aload_n rfl ?_
          refine g_gfr hIH393 sm_0 rfl ?_
          refine g_iload_n rfl ?_
          refine g_ialoadk hIH393 sm_20 rfl (by omega) e403 ?_
          refine g_bipush (by decide) (fun v431 kv431 => ?_)
          refine g_if2_ne (fun c432 => ?_) (fun c432 => ?_)
          · exact g_ret ⟨rfl, hIH393, hJH393, m394, m395, m396, m397, m398, m399, (by rw [lo_n (by omega) (by omega), lm_n (by omega)]; exact wdH393), (by rw [eH393, aZ_sA_eq hI sm_20 (by omega)]; exact p392), (fun i hi => by rw [eH393, aZ_sA_ne (by omega)])⟩
          · refine g_nop ?_
            refine g_aload_n rfl ?_
            refine g_gfr hIH393 sm_0 rfl ?_
            refine g_iload_n rfl ?_
            refine g_iconst (by decide) (fun v433 kv433 => ?_)
            refine g_zastore hIH393 sm_14 (by omega) (by omega) (fun H434 eH434 hIH434 => ?_)
            have hJH434 : JM H434 := JM_sA (by decide) eH434 hJH393
            have m435 : ∀ a f, fZ H434 a f = fZ H a f := fun a f => (by rw [eH434, fZ_sA] : fZ H434 a f = fZ H393 a f).trans (m394 a f)
            have m436 : ∀ i, aZ H434 2 i = aZ H 2 i := fun i => (by rw [eH434, aZ_sA_nc (by omega)] : aZ H434 2 i = aZ H393 2 i).trans (m395 i)
            have m437 : ∀ i, aZ H434 19 i = aZ H 19 i := fun i => (by rw [eH434, aZ_sA_nc (by omega)] : aZ H434 19 i = aZ H393 19 i).trans (m396 i)
            have m438 : ∀ i, aZ H434 17 i = aZ H 17 i := fun i => (by rw [eH434, aZ_sA_nc (by omega)] : aZ H434 17 i = aZ H393 17 i).trans (m397 i)
            have m439 : kpM H H434 := kpM_A m398 eH434 (by omega)
            have m440 : ∀ i, aZ H434 18 i = aZ H 18 i := fun i => (by rw [eH434, aZ_sA_nc (by omega)] : aZ H434 18 i = aZ H393 18 i).trans (m399 i)
            have m441 : ∀ i, aZ H434 7 i = aZ H 7 i := fun i => (by rw [eH434, aZ_sA_nc (by omega)] : aZ H434 7 i = aZ H393 7 i).trans (m400 i)
            have m442 : ∀ i, aZ H434 8 i = aZ H 8 i := fun i => (by rw [eH434, aZ_sA_nc (by omega)] : aZ H434 8 i = aZ H393 8 i).trans (m401 i)
            have m443 : ∀ i, aZ H434 9 i = aZ H 9 i := fun i => (by rw [eH434, aZ_sA_nc (by omega)] : aZ H434 9 i = aZ H393 9 i).trans (m402 i)
            have wdH434 : rwX H434 (sHe s v412.toInt.toNat v433.toInt) md := rw_14 hIH393 wdH393 eH434 (by omega)
            refine g_nop ?_
            exact g_ret ⟨rfl, hIH434, hJH434, m435, m436, m437, m438, m439, m440, (by rw [lo_q (by omega) (by omega), lm_n (by omega), ← zv412]; have z := wdH434; rw [kv433] at z; exact z), (by rw [eH434, aZ_sA_nc (by decide), eH393, aZ_sA_eq hI sm_20 (by omega)]; exact p392), (fun i hi => by rw [eH434, aZ_sA_nc (by decide), eH393, aZ_sA_ne (by omega)])⟩
    · refine g_aload_n rfl ?_
      refine g_gfr hIH393 sm_0 rfl ?_
      refine g_iload_n rfl ?_
      refine g_baload hIH393 sm_16 rfl (by omega) (fun v444 ev444 lv444 uv444 => ?_)
      have yv444 : v444.toInt = (s).en v412.toInt.toNat := by rw [ev444]; exact (wdH393 _ (by omega)).2.2.2.2.2.2.2.2.2
      rw [zv412] at yv444
      refine g_if_eq (fun c445 => ?_) (fun c445 => ?_)
      · refine g_aload_n rfl ?_
        refine g_gfr hIH393 sm_0 rfl ?_
        refine g_iload_n rfl ?_
        refine g_iconst (by decide) (fun v446 kv446 => ?_)
        refine g_zastore hIH393 sm_14 (by omega) (by omega) (fun H447 eH447 hIH447 => ?_)
        have hJH447 : JM H447 := JM_sA (by decide) eH447 hJH393
        have m448 : ∀ a f, fZ H447 a f = fZ H a f := fun a f => (by rw [eH447, fZ_sA] : fZ H447 a f = fZ H393 a f).trans (m394 a f)
        have m449 : ∀ i, aZ H447 2 i = aZ H 2 i := fun i => (by rw [eH447, aZ_sA_nc (by omega)] : aZ H447 2 i = aZ H393 2 i).trans (m395 i)
        have m450 : ∀ i, aZ H447 19 i = aZ H 19 i := fun i => (by rw [eH447, aZ_sA_nc (by omega)] : aZ H447 19 i = aZ H393 19 i).trans (m396 i)
        have m451 : ∀ i, aZ H447 17 i = aZ H 17 i := fun i => (by rw [eH447, aZ_sA_nc (by omega)] : aZ H447 17 i = aZ H393 17 i).trans (m397 i)
        have m452 : kpM H H447 := kpM_A m398 eH447 (by omega)
        have m453 : ∀ i, aZ H447 18 i = aZ H 18 i := fun i => (by rw [eH447, aZ_sA_nc (by omega)] : aZ H447 18 i = aZ H393 18 i).trans (m399 i)
        have m454 : ∀ i, aZ H447 7 i = aZ H 7 i := fun i => (by rw [eH447, aZ_sA_nc (by omega)] : aZ H447 7 i = aZ H393 7 i).trans (m400 i)
        have m455 : ∀ i, aZ H447 8 i = aZ H 8 i := fun i => (by rw [eH447, aZ_sA_nc (by omega)] : aZ H447 8 i = aZ H393 8 i).trans (m401 i)
        have m456 : ∀ i, aZ H447 9 i = aZ H 9 i := fun i => (by rw [eH447, aZ_sA_nc (by omega)] : aZ H447 9 i = aZ H393 9 i).trans (m402 i)
        have wdH447 : rwX H447 (sHe s v412.toInt.toNat v446.toInt) md := rw_14 hIH393 wdH393 eH447 (by omega)
        refine g_nop ?_
        exact g_ret ⟨rfl, hIH447, hJH447, m448, m449, m450, m451, m452, m453, (by rw [lo_q (by omega) (by omega), lm_n (by omega), ← zv412]; have z := wdH447; rw [kv446] at z; exact z), (by rw [eH447, aZ_sA_nc (by decide), eH393, aZ_sA_eq hI sm_20 (by omega)]; exact p392), (fun i hi => by rw [eH447, aZ_sA_nc (by decide), eH393, aZ_sA_ne (by omega)])⟩
      · refine g_nop ?_
        refine g_iload_n rfl ?_
        refine g_bipush (by decide) (fun v457 kv457 => ?_)
        refine g_if2_ne (fun c458 => ?_) (fun c458 => ?_)
        · exact g_ret ⟨rfl, hIH393, hJH393, m394, m395, m396, m397, m398, m399, (by rw [lo_n (by omega) (by omega), lm_n (by omega)]; exact wdH393), (by rw [eH393, aZ_sA_eq hI sm_20 (by omega)]; exact p392), (fun i hi => by rw [eH393, aZ_sA_ne (by omega)])⟩
        · exfalso; omega
  · refine g_aload_n rfl ?_
    refine g_iload_n rfl ?_
    refine g_iload_n rfl ?_
    refine g_aload_n rfl ?_
    refine g_iload_n rfl ?_
    refine g_iconst (by decide) (fun v459 kv459 => ?_)
    refine g_invvi hIH393 sm_0 rfl rfl rfl rfl (s_181 a1 (by omega) v459 (by omega) H393 hIH393 (JM_n hJH393)) (fun v462 H460 r461 => ?_)
    obtain ⟨rfl, p463⟩ := r461
    have tv462 : v462 = aZ H393 2 (69 + 5 * a1.toInt + 3).toNat := by rw [p463, kv459]
    have qv462 := JN_w3 (JM_n hJH393) (by omega) tv407 tv462
    have zv462 : v462.toInt = (aZ H 2 (69 + 5 * a1.toInt + 3).toNat).toInt := by rw [tv462, m395]
    refine g_aload_n rfl ?_
    refine g_gfr hIH393 sm_0 rfl ?_
    refine g_iload_n rfl ?_
    refine g_iaload hIH393 sm_18 rfl (by omega) (fun v464 ev464 lv464 uv464 => ?_)
    have hzv464 : v464.toInt = (aZ H 18 a1.toInt.toNat).toInt := by rw [ev464, m399]
    refine g_aload_n rfl ?_
    refine g_iload_n rfl ?_
    refine g_iconst (by decide) (fun v465 kv465 => ?_)
    refine g_invvi hIH393 sm_0 rfl rfl rfl rfl (s_181 a1 (by omega) v465 (by omega) H393 hIH393 (JM_n hJH393)) (fun v468 H466 r467 => ?_)
    obtain ⟨rfl, p469⟩ := r467
    have tv468 : v468 = aZ H393 2 (69 + 5 * a1.toInt + 4).toNat := by rw [p469, kv465]
    have qv468 := JN_w4 (JM_n hJH393) (by omega) tv407 tv468
    have zv468 : v468.toInt = (aZ H 2 (69 + 5 * a1.toInt + 4).toNat).toInt := by rw [tv468, m395]
    refine g_invvv hIH393 sm_0 rfl rfl rfl rfl (r_194 v407 (by omega) v412 (by omega) v462 v464 v468 H393 hIH393 hJH393 (by omega) (by omega) (by omega) (rs_of wdH393 (by omega) (by omega) (by rw [zv407, zv412, zv462, ← p392]; omega)) wdH393 hp1) (fun H470 r471 => ?_)
    obtain ⟨hIH470, hJH470, m472, m473, m474, m475, m476, m477, m478, p479⟩ := r471
    have m480 : ∀ a f, fZ H470 a f = fZ H a f := fun a f => (m472 a f).trans (m394 a f)
    have m481 : ∀ i, aZ H470 2 i = aZ H 2 i := fun i => (m473 i).trans (m395 i)
    have m482 : ∀ i, aZ H470 19 i = aZ H 19 i := fun i => (m474 i).trans (m396 i)
    have m483 : ∀ i, aZ H470 17 i = aZ H 17 i := fun i => (m475 i).trans (m397 i)
    have m484 : kpM H H470 := kpM_t m398 m476
    have m485 : ∀ i, aZ H470 18 i = aZ H 18 i := fun i => (m477 i).trans (m399 i)
    refine g_goto ?_
    exact g_ret ⟨rfl, hIH470, hJH470, m480, m481, m482, m483, m484, m485, (by rw [lo_t (by omega), lm_t (by omega), ← zv407, ← zv412, ← zv462, ← zv468, ← hzv464]; exact p479), (by rw [m478, eH393, aZ_sA_eq hI sm_20 (by omega)]; exact p392), (fun i hi => by rw [m478, eH393, aZ_sA_ne (by omega)])⟩
