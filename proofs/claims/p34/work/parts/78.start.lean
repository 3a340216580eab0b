/-! THE LAW FROM ITS ENTRY: the two objects made, the loop, the switch -/
theorem zNest_of {args : Array Value} {s : State} (hts : ∀ w ∈ lw_tbl, w.before args s = true) : zNest s := by
  intro w hw
  obtain ⟨h1, h2⟩ := List.mem_filter.mp hw
  have h3 := hts w h1
  unfold znd at h2
  split at h2
  · exact va_Nw.of rfl h3
  · exact va_Nw.of rfl h3
  · cases h2
theorem z_knwn {args : Array Value} {s : State} (hts : ∀ w ∈ lw_tbl, w.before args s = true) : ∃ D : va_G, va_K D vwCl [] s := by
  have hz : ∀ w ∈ zBG, w.before args s = true := fun w h => hts w (zLw_in w h)
  have h : ∀ k : Nat, ∃ (cC : ClassId) (iS : Nat → Nat), ∀ q : vw_C, vwCl[k]? = some q → u_Kn s q.1 q.2.1 q.2.2 cC iS := by
    intro k
    by_cases hk : k < 11
    · obtain ⟨C, T, N, ty, g1, g2, -, -, g5, -⟩ := zC_ok k hk
      obtain ⟨cC, iS, hh⟩ := u_known (C := C) (T := T) (N := N) (n := N) hz g2 (hz _ g5)
      refine ⟨cC, iS, fun q hq => ?_⟩
      cases g1.symm.trans hq
      exact hh
    · exact ⟨0, fun _ => 0, fun q hq => absurd (z_clt hq) hk⟩
  refine ⟨(fun k => Classical.choose (h k), fun k => Classical.choose (Classical.choose_spec (h k))), fun k q hq => ?_, fun k q hq => by simp at hq⟩
  exact Classical.choose_spec (Classical.choose_spec (h k)) q hq
theorem z_two {A : Nat → Prop} {w1 w2 : va_W} (h : va_D A (w1 ++ w2)) : va_D A w1 ∧ va_D A w2 ∧ zDis w1 w2 := by
  have l1 : ∀ {i : Nat} {p : Nat × va_E}, w1[i]? = some p → i < w1.length ∧ (w1 ++ w2)[i]? = some p := fun {i p} hp => by
    have hl := (List.getElem?_eq_some_iff.mp hp).1
    exact ⟨hl, by rw [List.getElem?_append_left hl]; exact hp⟩
  have l2 : ∀ {i : Nat} {p : Nat × va_E}, w2[i]? = some p → (w1 ++ w2)[w1.length + i]? = some p := fun {i p} hp => by
    rw [List.getElem?_append_right (Nat.le_add_right _ _), Nat.add_sub_cancel_left]
    exact hp
  refine ⟨⟨fun i j p q hp hq e => h.1 i j p q (l1 hp).2 (l1 hq).2 e, fun k q hq => h.2 k q (l1 hq).2⟩, ⟨fun i j p q hp hq e => ?_, fun k q hq => h.2 _ q (l2 hq)⟩, fun i j p q hp hq e => ?_⟩
  · have := h.1 _ _ p q (l2 hp) (l2 hq) e
    omega
  · have h1 := h.1 _ _ p q (l1 hp).2 (l2 hq) e
    have h2 := (l1 hp).1
    omega
theorem z_twoP {D : va_G} {cl : List vw_C} {w1 w2 : va_W} {H : Heap} (h : va_P D cl (w1 ++ w2) H) : va_P D cl w1 H ∧ va_P D cl w2 H := by
  refine ⟨fun k q hk => ?_, fun k q hk => ?_⟩
  · exact h k q (by rw [List.getElem?_append_left (List.getElem?_eq_some_iff.mp hk).1]; exact hk)
  · exact h (w1.length + k) q (by rw [List.getElem?_append_right (Nat.le_add_right _ _), Nat.add_sub_cancel_left]; exact hk)
set_option maxHeartbeats 4000000 in
/-- a constructor called in the law -/
theorem z_lawI {p : Program} {l : Launch} {e : Env} {s : State} {m : MethodId} {args : Array Value} {below : List Frame} {meth : Method} {c : Code} {H : Heap} {locs : List Loc} {cells slots : Nat} {Q : State → Prop} {pc : Nat} {ls : Array Slot} {rest : List Value} {D : va_G}
    (C : zLaw p s m args c) {x idx : Nat} (hx1 : x < 255) (hv : x ∈ zKi) (hlk : Cond.methodLink RL idx (zM x).1 ∈ lw_tbl) (hdg : decode code pc = .ok (.invokespecial idx, 3)) (hr1 : zfr x + 1 ≤ 15) (hr2 : 8 + ((zM x).2.2.1 + 11) + zlo x ≤ 572) (hc : cells + zmc x ≤ room_1.cells) (hs : slots + zms x ≤ room_1.slots) (hna : zna x = 1)
    {f : Nat} {Hm : mzH} {res : Option Value × mzH} {ws : va_W} {tys : List (ClassId × FieldType)} {b0 : Nat}
    (hrun : zEx f (zN x) (zB x) (mzBlk (zB x) 0) (lv_args 0 [.ref 0]) [] Hm (zmc x) (zms x) = some res) (hwd : 1 ≤ zN x) (hW : zWd D s Hm ws tys H) (hS : va_S (zA s) s.heap H locs) (hb0 : (zad ws)[0]? = some b0) (hsz : ls.size = 7)
    (hrs : (rest.map fun v => v.category).sum ≤ 8)
    (kk : ∀ (v : Option Value) (ws1 : va_W) (tys1 : List (ClassId × FieldType)) (H1 : Heap) (locs1 : List Loc), zrO (zad ws1) res.1 v → zad ws <+: zad ws1 → zWd D s res.2 ws1 tys1 H1 → va_D (va_A ws H.size) ws1 → (∀ q : Nat, q < H.size → ¬ va_A ws H.size q → H1[q]? = H[q]?) → va_S (zA s) s.heap H1 locs1 → W p l e room_1 s m args below meth c H1 locs1 (cells + zmc x) (slots + zms x) Q (F0 m (pc + 3) ls (v.toList ++ rest))) :
    W p l e room_1 s m args below meth c H locs cells slots Q (F0 m pc ls (.ref b0 :: rest)) := by
  obtain ⟨hx, hb, hml, hown, hts, hN, hZt⟩ := C
  obtain ⟨hH, hP, hK, hDd⟩ := id hW
  obtain ⟨hpl, hnd, hcn, hnl, hcd, hin⟩ := zMf_ok x hx1
  obtain ⟨hd1, hna0, him, hnm1, hrt⟩ := zKi_ok x hv
  have hsub := z_sub hDd hS (fun q h => h)
  have hMet := z_met_of (l := l) (D := D) zok (z_snd l D zok f) hx1 (as := [.ref 0]) (Hm := Hm) (res := res) hwd hrun ws tys H.size [.ref b0] ⟨_, _, rfl, ⟨b0, hb0, rfl⟩, rfl⟩ hH
  have hIn : ∀ {w : Cond}, w ∈ zBG → w.before args s = true := fun {w} h => hts w (zLw_in w h)
  have hwx : zws x = Cond.code (zM x).1 (zM x).2.1 (zM x).2.2.1 none :: zBG := by unfold zws; rw [hrt]
  refine z_call (A0 := zA s) (H0 := s.heap) (va_runI (As := []) (rest := rest) (b := b0) (own := RL) (n := zna x - 1) (bytes := (zM x).2.1) (maxL := (zM x).2.2.1) ⟨hx, hb, hml, hown, hts⟩ hMet ⟨callB_of (zna x - 1) hts (zws_in zLw_in hx1) hwx rfl rfl (hIn hin) (hts _ hlk) ⟨hnd.1, hnd.2, hd1⟩ ⟨hr1, hr2⟩, hnm1, hIn him⟩ ⟨zPre_blind, (fun U hU hW => ⟨rfl, by rw [hU], by rw [hU]; exact hP, va_K.moved hW.alike hK, hDd.weaken (fun _ _ _ _ => trivial), hN.warm hW, hZt.go hS hsub hU hW⟩)⟩ rfl (by rw [hna]; rfl) hsz rfl (lv_room hrs) hdg ⟨hc, hs⟩) hS hsub (fun st t v h0 hq => ?_) (fun v st t H1 locs1 ht hvm h0 hq hS1 => ?_)
  · obtain ⟨-, h1, h2⟩ := hq
    rw [h0] at h1 h2
    exact ⟨h1, fun q a1 a2 => h2 q a1 (fun z => a2 (hsub q z))⟩
  · obtain ⟨⟨r, ws1, tys1, e1, hO, hH1, hpre, hP1, hK1, hD1⟩, h1, h2⟩ := hq
    cases e1
    rw [ht] at hP1 h2
    rw [h0] at h2
    exact kk v ws1 tys1 H1 locs1 hO hpre ⟨hH1, hP1, va_K.moved hvm.symm hK1, hD1.weaken (fun k q _ h => hsub _ h)⟩ hD1 h2 hS1
theorem z_wd1 {D : va_G} {s : State} {H : Heap} {q ci : Nat} (hci : ci < 11) (hP : va_P D vwCl [(q, .inr (ci, zD ci))] H) (hK : va_K D vwCl [] s) (hD : va_D (zA s) [(q, .inr (ci, zD ci))]) : zWd D s [.inr (ci, zD ci)] [(q, .inr (ci, zD ci))] [] H := by
  refine ⟨⟨rfl, fun k c hk => ?_⟩, hP, hK, hD⟩
  match k, hk with
  | 0, hk => cases hk; exact ⟨q, _, rfl, _, rfl, z_dflt ci hci⟩
  | k + 1, hk => simp at hk
/-- the two texts at the start -/
def zTm (x : Nat) : Term := if x = 0 then .string RX7 82 else .string RX10 134
def zEl (x j : Nat) : Cond := .eq (.elem (.field (zTm x) "java/lang/String" "value" "[B") (.int (Int32.ofNat j))) (.int ((sBy.getD x []).getD j 0))
theorem z_sl0 : ((flatC (Jvm.Cond.and given_1 narrow_1)).drop 39).take 91 = (List.range 91).map (zEl 0) := by decide +kernel
theorem z_sl1 : ((flatC (Jvm.Cond.and given_1 narrow_1)).drop 172).take 91 = (List.range 91).map (zEl 1) := by decide +kernel
theorem z_el {args : Array Value} {s : State} (hgs : ∀ w ∈ flatC (Jvm.Cond.and given_1 narrow_1), w.before args s = true) (i : Nat) (hi : i < 2) (j : Nat) (hj : j < sLn.getD i 0) : (zEl i j).before args s = true := by
  rcases (show i = 0 ∨ i = 1 by omega) with h | h <;> subst h
  · have h1 : zEl 0 j ∈ (List.range 91).map (zEl 0) := List.mem_map.mpr ⟨j, List.mem_range.mpr hj, rfl⟩
    rw [← z_sl0] at h1
    exact hgs _ (List.mem_of_mem_drop (List.mem_of_mem_take h1))
  · have h1 : zEl 1 j ∈ (List.range 91).map (zEl 1) := List.mem_map.mpr ⟨j, List.mem_range.mpr hj, rfl⟩
    rw [← z_sl1] at h1
    exact hgs _ (List.mem_of_mem_drop (List.mem_of_mem_take h1))
theorem z_dfk : ∀ i, i < 2 → ∀ j, j < 2 → i ≠ j → ((Cond.not (Cond.eq (zTm i) (zTm j))) ∈ flatC (Jvm.Cond.and given_1 narrow_1) ∨ (Cond.not (Cond.eq (zTm j) (zTm i))) ∈ flatC (Jvm.Cond.and given_1 narrow_1)) := by decide +kernel
theorem z_df {args : Array Value} {s : State} (hgs : ∀ w ∈ flatC (Jvm.Cond.and given_1 narrow_1), w.before args s = true) (i j : Nat) (hi : i < 2) (hj : j < 2) (hne : i ≠ j) : (Cond.not (Cond.eq (zTm i) (zTm j))).before args s = true ∨ (Cond.not (Cond.eq (zTm j) (zTm i))).before args s = true := by
  rcases z_dfk i hi j hj hne with h | h
  · exact Or.inl (hgs _ h)
  · exact Or.inr (hgs _ h)
theorem z_refk : ∀ r ∈ zLt, (r.2.2.1 < 2 ∧ zTm r.2.2.1 = .string (zcn r.1) r.2.1 ∧ Cond.stringRef (zcn r.1) r.2.1 (sTx.getD r.2.2.1 "") ∈ lw_tbl) := by decide +kernel
theorem z_refs {args : Array Value} {s : State} {adK : Nat → Nat} (hts : ∀ w ∈ lw_tbl, w.before args s = true) (hE : ∀ i : Nat, i < 2 → (zTm i).eval args s none [] s = some (.ref (adK i))) : ∀ r ∈ zLt, ∃ tx, vk_R (zcn r.1) r.2.1 tx (adK r.2.2.1) s := by
  intro r hr
  obtain ⟨h1, h2, h3⟩ := z_refk r hr
  exact ⟨_, vk_R.of (hts _ h3) (by rw [← h2]; exact hE _ h1)⟩
theorem zStr_of {b : Nat} {s : State} (hts : ∀ w ∈ lw_tbl, w.before #[Value.ref b] s = true) (hgv : (Jvm.Cond.and given_1 narrow_1).before #[Value.ref b] s = true) : zStr (zA s) s := by
  have hgs := flat_of_before _ hgv
  have hA : ∀ a : Nat, a < s.heap.size → ¬ zA s a := fun a h => Nat.not_le.mpr h
  have two : ∀ {P : Nat → Prop}, P 0 → P 1 → ∀ i : Nat, i < 2 → P i := fun {P} h0 h1 i hi => by
    rcases (show i = 0 ∨ i = 1 by omega) with h | h <;> subst h <;> assumption
  obtain ⟨adK, adV, hS, hE⟩ := vk_Sof (args := #[Value.ref b]) (s := s) (N := 2) (tm := zTm) (len := sLn) (byt := sBy) (A := zA s) (two (by decide) (by decide))
    (two (hgs _ (by decide +kernel)) (hgs _ (by decide +kernel))) (two (hgs _ (by decide +kernel)) (hgs _ (by decide +kernel)))
    (two (hgs _ (by decide +kernel)) (hgs _ (by decide +kernel))) (two (hgs _ (by decide +kernel)) (hgs _ (by decide +kernel)))
    (fun i hi j hj => z_el hgs i hi j hj)
    (fun i j hi hj hne => z_df hgs i j hi hj hne) hA
  have hC : va_Z "java/lang/String" "COMPACT_STRINGS" "Z" (.int 1) (zA s) s s.heap := va_Zof (hts _ (by decide +kernel)) (hts _ (by decide +kernel)) (va_eqi (hgs _ (by decide +kernel))) hA
  have hF : va_Zq "jdk/internal/util/Preconditions" "SIOOBE_FORMATTER" "Ljava/util/function/BiFunction;" (zA s) s s.heap := va_Zqof (hts _ (by decide +kernel)) (hts _ (by decide +kernel)) (hgs _ (by decide +kernel)) hA
  refine ⟨adK, adV, fun x hx => ?_, fun r hr => ?_⟩
  · obtain ⟨h1, h2, h3, h4⟩ := hS.1 x hx
    exact ⟨h1, h2, h3, h4, hC, hF⟩
  · exact z_refs hts hE r hr
set_option maxRecDepth 100000 in
set_option maxHeartbeats 4000000 in
/-- the switch -/
theorem law_sw {p : Program} {l : Launch} {e : Env} {s : State} {m : MethodId} {below : List Frame} {meth : Method} {c : Code} {b L : Nat} {xs : Nat → Int32} {D : va_G} {bx bm qo : Nat} {i : Int32} {H : Heap} {locs : List Loc} {ls : Array Slot} {cells slots : Nat} {Q : State → Prop} (hflags : l.flags = flags0) (hgv : (Jvm.Cond.and given_1 narrow_1).before #[Value.ref b] s = true) (F : zFx p s m meth c b L xs) (hi : 0 ≤ i.toInt ∧ i.toInt + 6 ≤ L) (hc : cells + 1 ≤ 1129) (hs : slots + 6 ≤ 17054) (B : zBe s b D bx bm qo i H locs ls) (KK : ∀ (H : Heap) (locs : List Loc) (ls : Array Slot), zBe s b D bx bm qo i H locs ls → W p l e room_1 s m #[Value.ref b] below meth c H locs (cells + 1) (slots + 6) Q (F0 m 1542 ls [])) : W p l e room_1 s m #[Value.ref b] below meth c H locs cells slots Q (F0 m 33 ls []) := by
  obtain ⟨C, hX, hbl, hr, hlocks, hL⟩ := id F
  obtain ⟨hx, hb, hml, hown, hts, hN, hZt⟩ := id C
  have hbA : ¬ zA s b := Nat.not_le.mpr hbl
  obtain ⟨wsx, wsm, tysx, tysm, cA, fo, Hx, Hm, hWx, hWm, hdis, hPo, hKo, hDo, hdx, hdm, hS, hbx, hbm, hl, hIv⟩ := id B
  refine lv_aload_n hx hb dl_33 rfl (lv_at hl 4 rfl) ?_
  refine lv_iload hx hb dl_34 (lv_at hl 0 rfl) ?_
  refine va_sld hx hb hX hbl hbA hS (vI0 hi) dl_36 ?_
  refine lv_bipush (v := 63) hx hb dl_37 (by decide) ?_
  refine lv_iand hx hb dl_39 ?_
  refine lv_topi (fun z ez => ?_)
  by_cases hz : z.toInt < 0 ∨ 34 < z.toInt
  · refine lv_tableOut (tgt := 1542) hx hb dl_40 hz (by decide) ?_
    exact W.widen (by omega) (by omega) (KK _ _ _ B)
  · have h35 : z.toInt = 0 ∨ z.toInt = 1 ∨ z.toInt = 2 ∨ z.toInt = 3 ∨ z.toInt = 4 ∨ z.toInt = 5 ∨ z.toInt = 6 ∨ z.toInt = 7 ∨ z.toInt = 8 ∨ z.toInt = 9 ∨ z.toInt = 10 ∨ z.toInt = 11 ∨ z.toInt = 12 ∨ z.toInt = 13 ∨ z.toInt = 14 ∨ z.toInt = 15 ∨ z.toInt = 16 ∨ z.toInt = 17 ∨ z.toInt = 18 ∨ z.toInt = 19 ∨ z.toInt = 20 ∨ z.toInt = 21 ∨ z.toInt = 22 ∨ z.toInt = 23 ∨ z.toInt = 24 ∨ z.toInt = 25 ∨ z.toInt = 26 ∨ z.toInt = 27 ∨ z.toInt = 28 ∨ z.toInt = 29 ∨ z.toInt = 30 ∨ z.toInt = 31 ∨ z.toInt = 32 ∨ z.toInt = 33 ∨ z.toInt = 34 := by omega
    rcases h35 with h | h | h | h | h | h | h | h | h | h | h | h | h | h | h | h | h | h | h | h | h | h | h | h | h | h | h | h | h | h | h | h | h | h | h
    · exact lv_tableIn (tgt := 196) (off := 156) hx hb dl_40 (by omega) (by omega) (by rw [h]; rfl) (by decide) (law_0 F hi hc hs B KK)
    · exact lv_tableIn (tgt := 269) (off := 229) hx hb dl_40 (by omega) (by omega) (by rw [h]; rfl) (by decide) (law_1 F hi hc hs B KK)
    · exact lv_tableIn (tgt := 294) (off := 254) hx hb dl_40 (by omega) (by omega) (by rw [h]; rfl) (by decide) (law_2 F hi hc hs B KK)
    · exact lv_tableIn (tgt := 319) (off := 279) hx hb dl_40 (by omega) (by omega) (by rw [h]; rfl) (by decide) (law_3 F hi hc hs B KK)
    · exact lv_tableIn (tgt := 344) (off := 304) hx hb dl_40 (by omega) (by omega) (by rw [h]; rfl) (by decide) (law_4 F hi hc hs B KK)
    · exact lv_tableIn (tgt := 381) (off := 341) hx hb dl_40 (by omega) (by omega) (by rw [h]; rfl) (by decide) (law_5 hflags hgv F hi hc hs B KK)
    · exact lv_tableIn (tgt := 421) (off := 381) hx hb dl_40 (by omega) (by omega) (by rw [h]; rfl) (by decide) (law_6 F hi hc hs B KK)
    · exact lv_tableIn (tgt := 470) (off := 430) hx hb dl_40 (by omega) (by omega) (by rw [h]; rfl) (by decide) (law_7 F hi hc hs B KK)
    · exact lv_tableIn (tgt := 519) (off := 479) hx hb dl_40 (by omega) (by omega) (by rw [h]; rfl) (by decide) (law_8 F hi hc hs B KK)
    · exact lv_tableIn (tgt := 568) (off := 528) hx hb dl_40 (by omega) (by omega) (by rw [h]; rfl) (by decide) (law_9 F hi hc hs B KK)
    · exact lv_tableIn (tgt := 605) (off := 565) hx hb dl_40 (by omega) (by omega) (by rw [h]; rfl) (by decide) (law_10 F hi hc hs B KK)
    · exact lv_tableIn (tgt := 654) (off := 614) hx hb dl_40 (by omega) (by omega) (by rw [h]; rfl) (by decide) (law_11 F hi hc hs B KK)
    · exact lv_tableIn (tgt := 691) (off := 651) hx hb dl_40 (by omega) (by omega) (by rw [h]; rfl) (by decide) (law_12 F hi hc hs B KK)
    · exact lv_tableIn (tgt := 716) (off := 676) hx hb dl_40 (by omega) (by omega) (by rw [h]; rfl) (by decide) (law_13 F hi hc hs B KK)
    · exact lv_tableIn (tgt := 753) (off := 713) hx hb dl_40 (by omega) (by omega) (by rw [h]; rfl) (by decide) (law_14 F hi hc hs B KK)
    · exact lv_tableIn (tgt := 778) (off := 738) hx hb dl_40 (by omega) (by omega) (by rw [h]; rfl) (by decide) (law_15 F hi hc hs B KK)
    · exact lv_tableIn (tgt := 803) (off := 763) hx hb dl_40 (by omega) (by omega) (by rw [h]; rfl) (by decide) (law_16 F hi hc hs B KK)
    · exact lv_tableIn (tgt := 828) (off := 788) hx hb dl_40 (by omega) (by omega) (by rw [h]; rfl) (by decide) (law_17 F hi hc hs B KK)
    · exact lv_tableIn (tgt := 877) (off := 837) hx hb dl_40 (by omega) (by omega) (by rw [h]; rfl) (by decide) (law_18 F hi hc hs B KK)
    · exact lv_tableIn (tgt := 938) (off := 898) hx hb dl_40 (by omega) (by omega) (by rw [h]; rfl) (by decide) (law_19 F hi hc hs B KK)
    · exact lv_tableIn (tgt := 963) (off := 923) hx hb dl_40 (by omega) (by omega) (by rw [h]; rfl) (by decide) (law_20 F hi hc hs B KK)
    · exact lv_tableIn (tgt := 1000) (off := 960) hx hb dl_40 (by omega) (by omega) (by rw [h]; rfl) (by decide) (law_21 F hi hc hs B KK)
    · exact lv_tableIn (tgt := 1037) (off := 997) hx hb dl_40 (by omega) (by omega) (by rw [h]; rfl) (by decide) (law_22 F hi hc hs B KK)
    · exact lv_tableIn (tgt := 1074) (off := 1034) hx hb dl_40 (by omega) (by omega) (by rw [h]; rfl) (by decide) (law_23 F hi hc hs B KK)
    · exact lv_tableIn (tgt := 1111) (off := 1071) hx hb dl_40 (by omega) (by omega) (by rw [h]; rfl) (by decide) (law_24 F hi hc hs B KK)
    · exact lv_tableIn (tgt := 1136) (off := 1096) hx hb dl_40 (by omega) (by omega) (by rw [h]; rfl) (by decide) (law_25 F hi hc hs B KK)
    · exact lv_tableIn (tgt := 1173) (off := 1133) hx hb dl_40 (by omega) (by omega) (by rw [h]; rfl) (by decide) (law_26 F hi hc hs B KK)
    · exact lv_tableIn (tgt := 1222) (off := 1182) hx hb dl_40 (by omega) (by omega) (by rw [h]; rfl) (by decide) (law_27 F hi hc hs B KK)
    · exact lv_tableIn (tgt := 1259) (off := 1219) hx hb dl_40 (by omega) (by omega) (by rw [h]; rfl) (by decide) (law_28 F hi hc hs B KK)
    · exact lv_tableIn (tgt := 1308) (off := 1268) hx hb dl_40 (by omega) (by omega) (by rw [h]; rfl) (by decide) (law_29 F hi hc hs B KK)
    · exact lv_tableIn (tgt := 1357) (off := 1317) hx hb dl_40 (by omega) (by omega) (by rw [h]; rfl) (by decide) (law_30 F hi hc hs B KK)
    · exact lv_tableIn (tgt := 1394) (off := 1354) hx hb dl_40 (by omega) (by omega) (by rw [h]; rfl) (by decide) (law_31 F hi hc hs B KK)
    · exact lv_tableIn (tgt := 1419) (off := 1379) hx hb dl_40 (by omega) (by omega) (by rw [h]; rfl) (by decide) (law_32 F hi hc hs B KK)
    · exact lv_tableIn (tgt := 1468) (off := 1428) hx hb dl_40 (by omega) (by omega) (by rw [h]; rfl) (by decide) (law_33 F hi hc hs B KK)
    · exact lv_tableIn (tgt := 1517) (off := 1477) hx hb dl_40 (by omega) (by omega) (by rw [h]; rfl) (by decide) (law_34 F hi hc hs B KK)
set_option maxRecDepth 100000 in
set_option maxHeartbeats 4000000 in
/-- the loop -/
theorem law_loop {p : Program} {l : Launch} {e : Env} {s : State} {m : MethodId} {below : List Frame} {meth : Method} {c : Code} {b L : Nat} {xs : Nat → Int32} {D : va_G} {bx bm qo : Nat} (hflags : l.flags = flags0) (hgv : (Jvm.Cond.and given_1 narrow_1).before #[Value.ref b] s = true) (F : zFx p s m meth c b L xs) : ∀ (N n : Nat) (i : Int32) (H : Heap) (locs : List Loc) (ls : Array Slot), i.toInt = 6 * n → 6 * n ≤ L → L - 6 * n < N → zBe s b D bx bm qo i H locs ls → W p l e room_1 s m #[Value.ref b] below meth c H locs (103 + n) (8850 + 6 * n) (lw_Z below #[Value.ref b] s) (F0 m 23 ls []) := by
  intro N
  induction N with
  | zero => intro n i H locs ls _ _ h; exact absurd h (Nat.not_lt_zero _)
  | succ N ih =>
    intro n i H locs ls hin hnL hN2 B
    obtain ⟨C, hX, hbl, hr, hlocks, hL⟩ := id F
    obtain ⟨hx, hb, hml, hown, hts, hN, hZt⟩ := id C
    have hbA : ¬ zA s b := Nat.not_le.mpr hbl
    obtain ⟨wsx, wsm, tysx, tysm, cA, fo, Hx, Hm, hWx, hWm, hdis, hPo, hKo, hDo, hdx, hdm, hS, hbx, hbm, hl, hIv⟩ := id B
    have eL : (Int32.ofNat L).toInt = L := by first | exact Int32.toInt_ofNat_of_lt (by omega) | exact Int32.toInt_ofNat_small (by omega)
    have e6 : (6 : Int32).toInt = 6 := by decide
    have eS : (Int32.ofNat L - 6).toInt = (L : Int) - 6 := by rw [gz_sub (by omega), eL, e6]
    refine lv_iload hx hb dl_23 (lv_at hl 0 rfl) ?_
    refine lv_aload_n hx hb dl_25 rfl (lv_at hl 4 rfl) ?_
    refine va_slen hx hb hX hbl hbA hS dl_26 ?_
    refine lv_bipush (v := 6) hx hb dl_27 (by decide) ?_
    refine lv_isub hx hb dl_29 ?_
    refine lv_icmp_gt (tgt := 1548) hx hb dl_30 (by decide) (fun _ => ?_) (fun h => ?_)
    · refine lv_iconst (v := 1) hx hb dl_1548 (by decide) ?_
      refine va_forget (fun q hq => hS.2.2 q hq) ?_
      refine W.widen (k := 1129) (n := 17054) (by omega) (by omega) ?_
      exact lw_ret hx hb hr hlocks dl_1549
    · rw [Int32.lt_iff_toInt_lt, eS] at h
      refine law_sw hflags hgv F (by omega) (by omega) (by omega) B (fun H locs ls B2 => ?_)
      obtain ⟨wsx, wsm, tysx, tysm, cA, fo, Hx, Hm, hWx, hWm, hdis, hPo, hKo, hDo, hdx, hdm, hS, hbx, hbm, hl, hIv⟩ := B2
      have ei : (i + Int32.ofInt 6).toInt = 6 * ((n + 1 : Nat) : Int) := by
        rw [gz_add (by rw [show (Int32.ofInt 6).toInt = 6 by decide]; omega), show (Int32.ofInt 6).toInt = 6 by decide]
        omega
      refine lv_iinc (v := i + Int32.ofInt 6) (lv' := [(4, .int (i + Int32.ofInt 6)), (3, .ref qo), (2, .ref bm), (1, .ref bx), (0, .ref b)]) hx hb dl_1542 hl (k := 0) rfl rfl (by decide) rfl (fun ls hl => ?_)
      refine lv_goto (tgt := 23) hx hb dl_1545 (by decide) ?_
      exact ih (n + 1) (i + Int32.ofInt 6) H locs ls ei (by omega) (by omega) ⟨wsx, wsm, tysx, tysm, cA, fo, Hx, Hm, hWx, hWm, hdis, hPo, hKo, hDo, hdx, hdm, hS, hbx, hbm, hl, hIv⟩
set_option maxRecDepth 100000 in
set_option maxHeartbeats 8000000 in
/-- THE LAW, from its entry -/
theorem whole_start {p : Program} {e : Env} {s : State} {m : MethodId} {below : List Frame} {meth : Method} {c : Code} (l : Launch) (hflags : l.flags = flags0) {b L : Nat} {xs : Nat → Int32} (hL : L ≤ 3072) (C0 : lw_At p s m meth c b L xs) : W p l e room_1 s m #[Value.ref b] below meth c s.heap [] 0 0 (lw_Z below #[Value.ref b] s) (entryFrame m ([Value.ref b] : List Value).toArray 7) := by
  obtain ⟨hx, hb, hr, hml, hown, hts, hX, hbl, hlocks, hgv⟩ := C0
  have hN : zNest s := zNest_of hts
  have C : zLaw p s m #[Value.ref b] c := ⟨hx, hb, hml, hown, hts, hN, zStr_of hts hgv⟩
  have hz : ∀ w ∈ zBG, w.before #[Value.ref b] s = true := fun w h => hts w (zLw_in w h)
  have hbA : ¬ zA s b := Nat.not_le.mpr hbl
  obtain ⟨D, hK0⟩ := z_knwn hts
  have hS : va_S (zA s) s.heap s.heap [] := va_S.rf
  have hP : va_P D vwCl [] s.heap := fun k q h => by simp at h
  have hD : va_D (zA s) [] := ⟨fun i j p q h => by simp at h, fun k q h => by simp at h⟩
  have hl := lv_entry ([.ref b]) (n := 7) (Nat.le_of_ble_eq_true rfl)
  rw [lg_entry_eq]
  generalize (lg_sl ([.ref b]) ++ List.replicate (7 - (lg_sl ([.ref b])).length) Slot.unset).toArray = ls at hl ⊢
  have hl : lv_has ls 7 [(0, .ref b)] := hl
  obtain ⟨Cn, T, N, ty2, g1, g2, g3, g4, g5, g6, g7, g8, g9⟩ := zC_ok 9 (by decide)
  have eC : Cn = RX9 ∧ N = 7 := by
    have e1 : vwCl[9]? = some (RX9, TX9, 7) := rfl
    cases g1.symm.trans e1
    exact ⟨rfl, rfl⟩
  obtain ⟨rfl, rfl⟩ := eC
  refine va_new (ci := 9) (fs := zD 9) (C := RX9) (T := T) (N := 7) hx hb hz g2 ty2 g3 hown (hts (.classLink RL 8 RX9) (List.mem_append_right _ (List.mem_of_getElem? (i := 25) (by decide +kernel)))) (hz _ g5) (hz _ g6) hK0 hP hD hS (fun q h => h) g1 g9 (Nat.le_of_ble_eq_true rfl) (Nat.le_of_ble_eq_true rfl) dl_0 (fun q9 H hP hD hS => ?_)
  have hWx := z_wd1 (ci := 9) (by decide) hP hK0 hD
  clear g1 g2 g3 g4 g5 g6 g7 g8 g9
  refine W.widen (k := 1) (n := 7) (by omega) (by omega) ?_
  refine lv_dup hx hb dl_3 rfl ?_
  refine z_lawI (rest := [.ref q9]) C (x := 112) (idx := 17) (by decide) (by decide +kernel) (List.mem_append_right _ (List.mem_of_getElem? (i := 27) (by decide +kernel))) dl_4 (by decide +kernel) (by decide +kernel) (by decide +kernel) (by decide +kernel) (by decide +kernel) (zRe_at zHx_run) (by decide +kernel) hWx hS rfl hl.1 (Nat.le_of_ble_eq_true rfl) (fun v wsx tysx H locs hO hpre hWx hD1 hk1 hS => ?_)
  have hO : v = none := hO
  subst hO
  have hbx : (zad wsx)[0]? = some q9 := zpre_at hpre rfl
  refine W.widen (k := 76) (n := 6204) (Nat.le_of_ble_eq_true rfl) (Nat.le_of_ble_eq_true rfl) ?_
  generalize q9 = bx at hbx ⊢
  refine lv_astore_n (lv' := [(1, .ref bx), (0, .ref b)]) hx hb dl_7 rfl hl (by decide) rfl (fun ls hl => ?_)
  obtain ⟨hHx, hPx, hKx, hDx⟩ := id hWx
  have hP := hPx
  have hD := hDx
  obtain ⟨Cn, T, N, ty2, g1, g2, g3, g4, g5, g6, g7, g8, g9⟩ := zC_ok 10 (by decide)
  have eC : Cn = RX10 ∧ N = 45 := by
    have e1 : vwCl[10]? = some (RX10, TX10, 45) := rfl
    cases g1.symm.trans e1
    exact ⟨rfl, rfl⟩
  obtain ⟨rfl, rfl⟩ := eC
  refine va_new (ci := 10) (fs := zD 10) (C := RX10) (T := T) (N := 45) hx hb hz g2 ty2 g3 hown (hts (.classLink RL 18 RX10) (List.mem_append_right _ (List.mem_of_getElem? (i := 1140) (by decide +kernel)))) (hz _ g5) (hz _ g6) hK0 hP hD hS (fun q h => h) g1 g9 (Nat.le_of_ble_eq_true rfl) (Nat.le_of_ble_eq_true rfl) dl_8 (fun q9 H hP hD hS => ?_)
  obtain ⟨hPx, hPm⟩ := z_twoP hP
  obtain ⟨-, hDm, hdis⟩ := z_two hD
  have hWx : zWd D s zHx wsx tysx H := ⟨hHx, hPx, hKx, hDx⟩
  have hWm := z_wd1 (ci := 10) (by decide) hPm hK0 hDm
  clear g1 g2 g3 g4 g5 g6 g7 g8 g9
  refine W.widen (k := 77) (n := 6249) (Nat.le_of_ble_eq_true rfl) (Nat.le_of_ble_eq_true rfl) ?_
  refine lv_dup hx hb dl_11 rfl ?_
  refine z_lawI (rest := [.ref q9]) C (x := 154) (idx := 20) (by decide) (by decide +kernel) (List.mem_append_right _ (List.mem_of_getElem? (i := 1142) (by decide +kernel))) dl_12 (by decide +kernel) (by decide +kernel) (by decide +kernel) (by decide +kernel) (by decide +kernel) (zRe_at zHm_run) (by decide +kernel) hWm hS rfl hl.1 (Nat.le_of_ble_eq_true rfl) (fun v wsm tysm H locs hO hpre hWm hD1 hk1 hS => ?_)
  have hO : v = none := hO
  subst hO
  have hbm : (zad wsm)[0]? = some q9 := zpre_at hpre rfl
  obtain ⟨hWx, hdis⟩ := hWx.other hdis.symm hk1 hD1
  have hdis := hdis.symm
  refine W.widen (k := 102) (n := 8849) (Nat.le_of_ble_eq_true rfl) (Nat.le_of_ble_eq_true rfl) ?_
  generalize q9 = bm at hbm ⊢
  refine lv_astore_n (lv' := [(2, .ref bm), (1, .ref bx), (0, .ref b)]) hx hb dl_15 rfl hl (by decide) rfl (fun ls hl => ?_)
  obtain ⟨hHx, hPx, hKx, hDx⟩ := id hWx
  obtain ⟨hHm, hPm, hKm, hDm⟩ := id hWm
  refine lv_iconst (v := 1) hx hb dl_16 (by decide) ?_
  refine va_newa (atype := .long) (ty := .long) (N' := 1) (a0 := (1, .inr (.inl (fun _ => 0)))) hx hb (hts (.arrayClass .long) (List.mem_append_right _ (List.mem_of_getElem? (i := 1674) (by decide +kernel)))) rfl hK0 (hPx.app hPm) (hDx.app hDm hdis) hS (fun q h => h) (fun _ => rfl) (by decide) (by decide) (Nat.le_of_ble_eq_true rfl) (Nat.le_of_ble_eq_true rfl) (Nat.le_of_ble_eq_true rfl) dl_17 (fun qo cA H hKo hP hD hS => ?_)
  obtain ⟨hP, hPo⟩ := z_twoP hP
  obtain ⟨hPx, hPm⟩ := z_twoP hP
  obtain ⟨hDa, hDo, hda⟩ := z_two hD
  have hWx : zWd D s zHx wsx tysx H := ⟨hHx, hPx, hKx, hDx⟩
  have hWm : zWd D s zHm wsm tysm H := ⟨hHm, hPm, hKm, hDm⟩
  have hdx : zDis wsx [(qo, zOe cA (fun _ => 0))] := fun i2 j2 p2 q2 hp2 hq2 => hda i2 j2 p2 q2 (by rw [List.getElem?_append_left (List.getElem?_eq_some_iff.mp hp2).1]; exact hp2) hq2
  have hdm : zDis wsm [(qo, zOe cA (fun _ => 0))] := fun i2 j2 p2 q2 hp2 hq2 => hda (wsx.length + i2) j2 p2 q2 (by rw [List.getElem?_append_right (Nat.le_add_right _ _), Nat.add_sub_cancel_left]; exact hp2) hq2
  refine W.widen (k := 103) (n := 8850) (Nat.le_of_ble_eq_true rfl) (Nat.le_of_ble_eq_true rfl) ?_
  refine lv_astore_n (lv' := [(3, .ref qo), (2, .ref bm), (1, .ref bx), (0, .ref b)]) hx hb dl_19 rfl hl (by decide) rfl (fun ls hl => ?_)
  refine lv_iconst (v := 0) hx hb dl_20 (by decide) ?_
  refine lv_istore (lv' := [(4, .int 0), (3, .ref qo), (2, .ref bm), (1, .ref bx), (0, .ref b)]) hx hb dl_21 hl (by decide) rfl (fun ls hl => ?_)
  exact law_loop hflags hgv ⟨C, hX, hbl, hr, hlocks, hL⟩ _ 0 0 H _ ls (by decide) (by omega) (Nat.lt_succ_self _) ⟨wsx, wsm, tysx, tysm, cA, fun _ => 0, zHx, zHm, hWx, hWm, hdis, hPo, hKo, hDo, hdx, hdm, hS, hbx, hbm, hl, zIv_0⟩
