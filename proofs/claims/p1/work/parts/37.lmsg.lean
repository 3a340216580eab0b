/-! THE LAW'S OWN message: it catches what the class throws -/
theorem dn_0 : decode cL_message 0 = .ok (.aload_n 3, 1) := by decide +kernel
theorem dn_1 : decode cL_message 1 = .ok (.iconst 0, 1) := by decide +kernel
theorem dn_2 : decode cL_message 2 = .ok (.aload_n 0, 1) := by decide +kernel
theorem dn_3 : decode cL_message 3 = .ok (.iload_n 1, 1) := by decide +kernel
theorem dn_4 : decode cL_message 4 = .ok (.iload_n 2, 1) := by decide +kernel
theorem dn_5 : decode cL_message 5 = .ok (.invokevirtual 7, 3) := by decide +kernel
theorem dn_8 : decode cL_message 8 = .ok (.i2l, 1) := by decide +kernel
theorem dn_9 : decode cL_message 9 = .ok (.lastore, 1) := by decide +kernel
theorem dn_10 : decode cL_message 10 = .ok (.goto 11, 3) := by decide +kernel
theorem dn_13 : decode cL_message 13 = .ok (.astore 4, 2) := by decide +kernel
theorem dn_15 : decode cL_message 15 = .ok (.iconst 1, 1) := by decide +kernel
theorem dn_16 : decode cL_message 16 = .ok (.ireturn, 1) := by decide +kernel
theorem dn_17 : decode cL_message 17 = .ok (.astore 4, 2) := by decide +kernel
theorem dn_19 : decode cL_message 19 = .ok (.iconst 2, 1) := by decide +kernel
theorem dn_20 : decode cL_message 20 = .ok (.ireturn, 1) := by decide +kernel
theorem dn_21 : decode cL_message 21 = .ok (.iconst 0, 1) := by decide +kernel
theorem dn_22 : decode cL_message 22 = .ok (.ireturn, 1) := by decide +kernel
theorem Met_ofWH {l : Launch} {y : MethodName} {ws ws' : List Cond} {rm : Room} {Pc : Array Value → State → Prop} {Qc : Array Value → State → Outcome → State → Prop} {mc ms : Nat} {free : Addr → Prop} {cc : ByteArray} {maxL : Nat} {ret : Option FieldType} {hh : List (Nat × Nat × Nat × Nat)}
    (hy : plainName y.cls = true) (hw : ws = Cond.codeWith y cc maxL ret hh :: ws')
    (body : ∀ p e s m args below meth c s₁, BodyLoose p l y (headSpec ws rm) cc maxL ret e s m args below meth c s₁ → c.maxLocals = maxL → Pc args s →
      W p l e (headSpec ws rm).room s m args below meth c s.heap [] 0 0 (MQ below Qc args s mc ms free) (entryFrame m args maxL)) : Met l y ws rm Pc Qc mc ms free := by
  refine MetFree.of_bodyS (code := cc) (maxLocals := maxL) (ret := ret) hy ?_ ?_
  · intro args s m h hn
    obtain ⟨m9, meth, c, hn9, h1, h2, h3, h4, -, h5, h6, -⟩ := Cond.codeWith_spec (atoms_spec (ws := ws) h _ (by rw [hw]; exact List.mem_cons_self))
    cases hn.symm.trans hn9
    exact ⟨meth, c, h1, h2, h3, h4, h5, h6⟩
  · intro p e s m args below meth c s₁ B hml hP _
    have hh0 : s₁.heap = s.heap := by rw [B.state]; rfl
    obtain ⟨t, a1, o, b1, b2, b3⟩ := body p e s m args below meth c s₁ B hml hP s₁ hh0 (Stand.of_body B)
    exact ⟨t, o, a1, b1, b2, ⟨b3.1, b3.2⟩⟩
abbrev zhh : List (Nat × Nat × Nat × Nat) := [(0, 10, 13, 13), (0, 10, 17, 15)]
def zwL : List Cond := .codeWith yL_message cL_message 5 (some .int) zhh :: zBG
def zRmL : Room := { frames := 8, cells := 1, slots := 6, locals := 140 }
theorem zPm_blind {D : va_G} {ws0 : va_W} {tys0 : List (ClassId × FieldType)} {sz sa : Nat} {av : List Value} : FrameBlind (va_Pc av (zPm D ws0 tys0 sz sa)) := by
  intro a U g mk q
  obtain ⟨q0, q1, qP, qK, qD, qN, qT, qR, qU, qS⟩ := q
  exact ⟨q0, q1, qP, va_K.moved (u := U) (U := U.calling g mk a) (Vm.Alike.refl U.vm) qK, qD, zNest.same (s := U) (U := U.calling g mk a) rfl qN, zThr.same (s := U) (U := U.calling g mk a) rfl qT, vk_R.same (u := U) (U := U.calling g mk a) rfl qR, vx_Zq.moved (u := U) (U := U.calling g mk a) (Vm.Alike.refl U.vm) qU, vx_Zq.moved (u := U) (U := U.calling g mk a) (Vm.Alike.refl U.vm) qS⟩
theorem zPm_warm {D : va_G} {ws0 : va_W} {tys0 : List (ClassId × FieldType)} {sa : Nat} {s U : State} {H : Heap} (hU : U.heap = H) (hW : s.WarmedH U.vm) (hP : va_P D vwCl ws0 H) (hK : va_K D vwCl tys0 s) (hD : va_D (fun _ => True) ws0) (hN : zNest s) (hT : zThr s) (hR : vk_R RX9 116 "no such message" sa s) (h1 : vx_Zq Bundle.tN "UNASSIGNED_STACK" Bundle.steD (va_A ws0 H.size) s H) (h2 : vx_Zq Bundle.tN "SUPPRESSED_SENTINEL" Bundle.listD (va_A ws0 H.size) s H) : zPm D ws0 tys0 H.size sa U := by
  subst hU
  exact ⟨rfl, hP, va_K.moved hW.alike hK, hD, hN.warm hW, hT.warm hW, vk_R.warm hW hR, vx_Zq.moved hW.alike h1, vx_Zq.moved hW.alike h2⟩
theorem zXself : Cond.castable zXc zXc ∈ zTS := by decide +kernel
set_option maxRecDepth 100000 in
set_option maxHeartbeats 4000000 in
theorem c_lmsg {l : Launch} (hlt : l.stackTraces = false) {D : va_G} (ws0 : va_W) (tys0 : List (ClassId × FieldType)) (sz sa b0 qo : Nat) (k w : Int32) (hb0 : (zad ws0)[0]? = some b0) (hH : zrH tys0 zHx ws0) :
    Met l yL_message zwL zRmL (va_Pc [.ref b0, .int k, .int w, .ref qo] (zPm D ws0 tys0 sz sa)) (va_Qi (fun (r : Int32) (_ : Unit) => r = 1) (fun _ _ => True) (va_A ws0 sz)) 1 6 (va_A ws0 sz) := by
  refine Met_ofWH (cc := cL_message) (maxL := 5) (ret := some .int) (hh := zhh) (by decide +kernel) rfl ?_
  intro p e s m args below meth c s₁ B hml hv
  obtain ⟨rfl, hsz, hP, hK, hD0, hN, hT, hR, hU, hSn⟩ := hv
  subst hsz
  have hx := B.exec
  have hb := B.bytes
  have hr := B.returns
  have hts := atoms_spec (ws := zwL) B.pre
  have hz : ∀ w9 ∈ zBG, w9.before ([Value.ref b0, .int k, .int w, .ref qo] : List Value).toArray s = true := fun w9 h => hts w9 (List.mem_cons_of_mem _ h)
  have htab : c.exceptionTable.toList = tableOf zhh := vx_table (x := yL_message) B (hts _ List.mem_cons_self)
  have hown : s.vm.findClass RL = some m.cls := findClass_of_methodNamed B.named
  have hlocks := B.notSynchronized
  have hD := hD0.self (sz := s.heap.size)
  have hS : va_S (va_A ws0 s.heap.size) s.heap s.heap [] := va_S.rf
  have hl := lv_entry ([.ref b0, .int k, .int w, .ref qo]) (n := 5) (Nat.le_of_ble_eq_true rfl)
  rw [lg_entry_eq]
  generalize (lg_sl ([.ref b0, .int k, .int w, .ref qo]) ++ List.replicate (5 - (lg_sl ([.ref b0, .int k, .int w, .ref qo])).length) Slot.unset).toArray = ls at hl ⊢
  have hl : lv_has ls 5 [(0, .ref b0), (1, .int k), (2, .int w), (3, .ref qo)] := hl
  obtain ⟨_, hwa, fs', rfl, hfs⟩ := zrH_get hH (k := 0) (c := .inr (9, [.ref 1, .ref 3, .ref 11, .ref 19, .ref 24, .ref 43, .ref 54])) rfl hb0
  refine lv_aload_n hx hb dn_0 rfl (lv_at hl 3 rfl) ?_
  refine lv_iconst (v := 0) hx hb dn_1 (by decide) ?_
  refine lv_aload_n hx hb dn_2 rfl (lv_at hl 0 rfl) ?_
  refine lv_iload_n hx hb dn_3 rfl (lv_at hl 1 rfl) ?_
  refine lv_iload_n hx hb dn_4 rfl (lv_at hl 2 rfl) ?_
  obtain ⟨hpl, hnd, hcn, hnl, hcd, hin⟩ := zMf_ok 119 (by decide)
  obtain ⟨hd1, hna0, him, hsel⟩ := zKv_ok 119 (by decide +kernel)
  refine vx_calli (A0 := va_A ws0 s.heap.size) (H0 := s.heap) (vx_runV (As := [.int k, .int w]) (rest := [.int 0, .ref qo]) (b := b0) (C := RX9) (own := RL) (nL := 5) ⟨hx, hb, hml, hown, hts⟩ (c_msg hlt ws0 tys0 s.heap.size sa b0 k w hb0 hH) ⟨callB_of 2 hts (zws_in (fun w h => List.mem_cons_of_mem _ h) (by decide)) rfl rfl rfl (hz _ hin) (hz _ (zT 1052 (by decide +kernel) rfl)) ⟨hnd.1, hnd.2, hd1⟩ ⟨by decide, by decide +kernel⟩, hz _ him, hz _ hsel⟩ ⟨zPm_blind, va_recv hK hP (ci := 9) rfl hwa, fun U hU2 hW => ⟨rfl, zPm_warm hU2 hW hP hK hD0 hN hT hR hU hSn⟩⟩ rfl rfl hl.1 rfl (lv_room (Nat.le_of_ble_eq_true rfl)) dn_5 ⟨by decide, by decide⟩) hS (fun q _ h => h) (fun q h => h) (fun q _ h => h) (fun E ce q9 u t H1 locs1 ht hvm _ hE hsz1 hk1 hS1 hce hcv hcl => ?_) (fun r u t H1 locs1 _ _ hF _ _ _ _ => hF.elim)
  have hE : E = zXc := hE
  subst hE
  refine vx_catch (own := RL) (name := zXc) hown [] ((tableOf zhh).head (by decide)) (tableOf zhh).tail (by rw [htab]; rfl) (fun z hz => by cases hz) (by decide) (by decide) (hz _ (zT 1050 (by decide +kernel) rfl)) (va_Nw.use rfl (hT _ zXself)) hce hcv hcl ?_
  show W p l e _ s m _ below meth c H1 locs1 _ _ _ (F0 m 13 ls [.ref q9])
  refine lv_astore (lv' := [(4, .ref q9), (0, .ref b0), (1, .int k), (2, .int w), (3, .ref qo)]) hx hb dn_13 hl (by decide) rfl (fun ls hl => ?_)
  refine lv_iconst (v := 1) hx hb dn_15 (by decide) ?_
  exact W.iret (v := 1) hx hb hr (fun t ht hW => ⟨⟨1, (), rfl, rfl, trivial⟩, hS1.F ht⟩) hS1.2.2 dn_16
theorem z_lmsgw : GoodIn lw_tbl (va_wsS RL 43 yL_message zwL) := by
  have h1 : Cond.methodLink RL 43 yL_message ∈ zBG := (zT 1047 (by decide +kernel) rfl)
  have h2 : Cond.static yL_message ∈ zBG := (zT 1048 (by decide +kernel) rfl)
  have h3 : Cond.initialized RL ∈ zBG := (zT 0 (by decide +kernel) rfl)
  have h4 : Cond.codeWith yL_message cL_message 5 (some .int) zhh ∈ zBG := (zT 1049 (by decide +kernel) rfl)
  intro w hw
  refine zBG_in zLw_in w ?_
  unfold va_wsS zwL at hw
  rcases List.mem_append.mp hw with hw | hw
  · simp only [List.mem_cons, List.not_mem_nil, or_false] at hw
    rcases hw with e | e | e <;> subst e
    · exact h1
    · exact h2
    · exact h3
  · rcases List.mem_cons.mp hw with e | e
    · subst e; exact h4
    · exact e
set_option maxRecDepth 1000000 in
theorem zc_msgm : ((tC [0]).flatMap (fun a => tAny.map (fun d => (a, d)))).all (fun q => match aRun 3000 203 [.ref 0, q.1, q.2] zHm with
  | some (some (.int _), G) => (match mzNq G 0 with | some (.inr (10, _)) => true | _ => false) && (match aRun 3000 155 [.ref 0] G with | some (some (.int v), _) => mzEq v 1 | _ => false)
  | _ => false) = true := by decide +kernel
theorem z_msgm (k w : Int32) : ∃ (f : Nat) (r : Int32) (G : mzH) (fs : List Value), zRun f 203 [.ref 0, .int k, .int w] zHm = some (some (.int r), G) ∧ G[0]? = some (.inr (10, fs)) ∧ ∃ (g : Nat) (G2 : mzH), zRun g 155 [.ref 0] G = some (some (.int 1), G2) := by
  obtain ⟨t, ht, hv⟩ := aCov_at (ρ := zρ0) (ts := tC [0]) (p := -2147483648) (by decide +kernel) k (Int32.le_toInt k)
  have h := List.all_eq_true.mp zc_msgm (t, .retAddr aT) (List.mem_flatMap.mpr ⟨t, ht, List.mem_map.mpr ⟨_, List.mem_cons_self, rfl⟩⟩)
  dsimp only at h
  split at h
  · rename_i v G e1
    rw [Bool.and_eq_true] at h
    have hL : aL zρ0 [.ref 0, t, .retAddr aT] [.ref 0, .int k, .int w] := ⟨_, _, rfl, rfl, _, _, rfl, hv, _, _, rfl, a_top w, rfl⟩
    obtain ⟨r1, H1, q1, ⟨x1, rfl, rfl⟩, hH⟩ := a_sim (ρ := zρ0) (by decide) _ _ _ _ _ _ _ _ _ _ e1 _ _ _ (aM_args 0 hL) (show aL zρ0 [] [] from rfl) (aH_self zHm_wf)
    obtain ⟨ha, hb⟩ := h
    split at ha
    · rename_i fs e2
      obtain ⟨cc, hc1, ⟨-, fs', rfl, -⟩ | ⟨h9, -⟩⟩ := aH_at hH e2
      · split at hb
        · rename_i v2 G2 e3
          rw [mzEq_eq, decide_eq_true_eq] at hb
          subst hb
          obtain ⟨r3, H3, q3, ⟨x3, rfl, rfl⟩, -⟩ := a_sim (ρ := zρ0) (by decide) _ _ _ _ _ _ _ _ _ _ e3 _ _ _ (aM_args 0 (show aL zρ0 [.ref 0] [.ref 0] from ⟨_, _, rfl, rfl, rfl⟩)) (show aL zρ0 [] [] from rfl) hH
          rw [mzNq_eq] at hc1
          exact ⟨_, _, H1, fs', q1, hc1, _, H3, q3⟩
        · cases hb
      · omega
    · cases ha
  · cases h
set_option maxRecDepth 100000 in
set_option maxHeartbeats 4000000 in
theorem law_5 {p : Program} {l : Launch} {e : Env} {s : State} {m : MethodId} {below : List Frame} {meth : Method} {c : Code} {b : Nat} {xs : Nat → Int32} {D : va_G} {wsx wsm : va_W} {tysx tysm : List (ClassId × FieldType)} {bx bm qo : Nat} {H : Heap} {locs : List Loc} {ls : Array Slot} (B : zBe p s m meth c b xs D wsx wsm tysx tysm bx bm qo H locs ls) (hflags : l.flags = flags0) (hgv : (Jvm.Cond.and given_1 narrow_1).before #[Value.ref b] s = true) : W p l e room_1 s m #[Value.ref b] below meth c H locs 103 8850 (lw_Z below #[Value.ref b] s) (F0 m 381 ls []) := by
  obtain ⟨C, hX, hbl, hr, hlocks, hWx, hWm, hdis, hS, hbx, hbm, hl⟩ := B
  obtain ⟨hx, hb, hml, hown, hts, hN⟩ := id C
  have hbA : ¬ zA s b := Nat.not_le.mpr hbl
  have hlt : l.stackTraces = false := by unfold Launch.stackTraces; rw [hflags]; decide
  have hz : ∀ w ∈ zBG, w.before #[Value.ref b] s = true := fun w h => hts w (zLw_in w h)
  have hgs := flat_of_before _ hgv
  have hT : zThr s := zThr_of hts
  obtain ⟨hHx, hPx, hKx, hDx⟩ := id hWx
  have hsub := z_sub hDx hS (fun q h => h)
  obtain ⟨-, hfc, -⟩ := hKx.1 9 _ rfl
  obtain ⟨_, _, _, sa, -, -, -, -, -, hsa⟩ := Cond.stringRef_spec hfc (hts (.stringRef RX9 116 "no such message") (by decide +kernel))
  have hR : vk_R RX9 116 "no such message" sa s := vk_R.of (hts (.stringRef RX9 116 "no such message") (by decide +kernel)) hsa
  have hU : vx_Zq Bundle.tN "UNASSIGNED_STACK" Bundle.steD (zA s) s s.heap := vx_Zqof (hts _ (by decide +kernel)) (hts _ (by decide +kernel)) (hgs _ (by decide +kernel)) (fun a h => Nat.not_le.mpr h)
  have hV : vx_Zq Bundle.tN "SUPPRESSED_SENTINEL" Bundle.listD (zA s) s s.heap := vx_Zqof (hts _ (by decide +kernel)) (hts _ (by decide +kernel)) (hgs _ (by decide +kernel)) (fun a h => Nat.not_le.mpr h)
  have hU := (hU.kept hS.2.1).narrow hsub
  have hV := (hV.kept hS.2.1).narrow hsub
  refine lv_aload_n hx hb dl_381 rfl (lv_at hl 3 rfl) ?_
  refine lv_aload_n hx hb dl_382 rfl (lv_at hl 4 rfl) ?_
  refine lv_iload hx hb dl_383 (lv_at hl 0 rfl) ?_
  refine lv_iconst (v := 1) hx hb dl_385 (by decide) ?_
  refine lv_iadd hx hb dl_386 ?_
  refine va_sld hx hb hX hbl hbA hS vI1 dl_387 ?_
  refine lv_aload_n hx hb dl_388 rfl (lv_at hl 4 rfl) ?_
  refine lv_iload hx hb dl_389 (lv_at hl 0 rfl) ?_
  refine lv_iconst (v := 2) hx hb dl_391 (by decide) ?_
  refine lv_iadd hx hb dl_392 ?_
  refine va_sld hx hb hX hbl hbA hS vI2 dl_393 ?_
  refine lv_aload_n hx hb dl_394 rfl (lv_at hl 1 rfl) ?_
  refine va_calli (A0 := zA s) (H0 := s.heap) (vx_runSW (As := [.ref bx, .int (xs ((0 : Int32) + 1).toNatClampNeg), .int (xs ((0 : Int32) + 2).toNatClampNeg), .ref qo]) (rest := []) (nL := 7) (own := RL) ⟨hx, hb, hml, hown, hts⟩ (c_lmsg hlt wsx tysx H.size sa bx qo (xs ((0 : Int32) + 1).toNatClampNeg) (xs ((0 : Int32) + 2).toNatClampNeg) hbx hHx) (vx_cwSW (hh := zhh) 4 hts z_lmsgw rfl rfl rfl (by decide +kernel) ⟨by decide, by decide⟩) ⟨zPm_blind, fun U hU2 hW => ⟨rfl, zPm_warm hU2 hW hPx hKx (hDx.weaken (fun _ _ _ _ => trivial)) hN hT hR hU hV⟩⟩ rfl rfl hl.1 rfl (lv_room (Nat.le_of_ble_eq_true rfl)) dl_395 ⟨by decide, by decide⟩) hS (fun q _ h => hsub q h) hsub (fun r u t H1 locs1 ht hvm hpost _ hz1 hk1 hS => ?_)
  subst hpost
  obtain ⟨hWm, -⟩ := hWm.other (w1 := []) hdis hk1 ⟨fun i j p q h => by simp at h, fun k q h => by simp at h⟩
  refine lv_istore (lv' := [(5, .int 1), (4, .int 0), (3, .ref qo), (2, .ref bm), (1, .ref bx), (0, .ref b)]) hx hb dl_398 hl (by decide) rfl (fun ls hl => ?_)
  obtain ⟨f, r0, G, fs, q1, q2, g, G2, q3⟩ := z_msgm (xs ((0 : Int32) + 1).toNatClampNeg) (xs ((0 : Int32) + 2).toNatClampNeg)
  refine lv_aload_n hx hb dl_400 rfl (lv_at hl 3 rfl) ?_
  refine lv_aload_n hx hb dl_401 rfl (lv_at hl 5 rfl) ?_
  refine lv_iload hx hb dl_402 (lv_at hl 1 rfl) ?_
  refine lv_iconst (v := 1) hx hb dl_404 (by decide) ?_
  refine lv_iadd hx hb dl_405 ?_
  refine va_sld hx hb hX hbl hbA hS vI1 dl_406 ?_
  refine lv_aload_n hx hb dl_407 rfl (lv_at hl 5 rfl) ?_
  refine lv_iload hx hb dl_408 (lv_at hl 1 rfl) ?_
  refine lv_iconst (v := 2) hx hb dl_410 (by decide) ?_
  refine lv_iadd hx hb dl_411 ?_
  refine va_sld hx hb hX hbl hbA hS vI2 dl_412 ?_
  refine z_law (rest := []) C (x := 203) (idx := 48) (by decide) (by decide +kernel) (List.mem_append_right _ (List.mem_of_getElem? (i := 1393) (by decide +kernel))) dl_413 (by decide +kernel) (by decide +kernel) rfl rfl (by decide +kernel) (by decide) (by decide) q1 (Nat.le_of_ble_eq_true rfl) hWm hS rfl hbm ⟨_, _, rfl, rfl, _, _, rfl, rfl, rfl⟩ rfl hl.1 (Nat.le_of_ble_eq_true rfl) rfl (fun v ws1 tys1 H1 locs1 hO hpre hWm hD1 hk1 hS => ?_)
  obtain ⟨_, rfl, rfl⟩ := hO
  have hbm := zpre_at hpre hbm
  refine lv_istore (lv' := [(6, .int r0), (5, .int 1), (4, .int 0), (3, .ref qo), (2, .ref bm), (1, .ref bx), (0, .ref b)]) hx hb dl_416 hl (by decide) rfl (fun ls hl => ?_)
  refine lv_aload_n hx hb dl_418 rfl (lv_at hl 4 rfl) ?_
  refine z_law (rest := []) C (x := 155) (idx := 49) (by decide) (by decide +kernel) (List.mem_append_right _ (List.mem_of_getElem? (i := 1296) (by decide +kernel))) dl_419 (by decide +kernel) (by decide +kernel) rfl rfl (by decide +kernel) (by decide) (by decide) (xs := []) q3 (Nat.le_of_ble_eq_true rfl) hWm hS q2 hbm rfl rfl hl.1 (Nat.le_of_ble_eq_true rfl) rfl (fun v ws2 tys2 H2 locs2 hO hpre2 hWm hD2 hk2 hS => ?_)
  obtain ⟨_, rfl, rfl⟩ := hO
  refine lv_iload hx hb dl_422 (lv_at hl 1 rfl) ?_
  refine lv_icmp_eq (tgt := 429) hx hb dl_424 (by decide) (fun _ => ?_) (fun h => absurd rfl h)
  refine lv_iload hx hb dl_429 (lv_at hl 1 rfl) ?_
  refine lv_if_ne (tgt := 446) hx hb dl_431 (by decide) (fun _ => ?_) (fun h => absurd h (by decide))
  refine lv_goto (tgt := 1570) hx hb dl_446 (by decide) ?_
  exact law_exit (by decide) (by decide) C hX hbl hr hlocks hS (lv_sub hl [2, 3, 4, 5, 6] rfl)
