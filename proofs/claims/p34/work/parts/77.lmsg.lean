/-! THE LAW'S OWN message: it catches what the class throws, lays what it answers into 'out' -/
theorem dn_0 : decode cL_message 0 = .ok (.aload_n 3, 1) := by decide +kernel
theorem dn_1 : decode cL_message 1 = .ok (.iconst 0, 1) := by decide +kernel
theorem dn_2 : decode cL_message 2 = .ok (.aload_n 0, 1) := by decide +kernel
theorem dn_3 : decode cL_message 3 = .ok (.iload_n 1, 1) := by decide +kernel
theorem dn_4 : decode cL_message 4 = .ok (.iload_n 2, 1) := by decide +kernel
theorem dn_5 : decode cL_message 5 = .ok (.invokevirtual 7, 3) := by decide +kernel
theorem dn_8 : decode cL_message 8 = .ok (.i2l, 1) := by decide +kernel
theorem dn_9 : decode cL_message 9 = .ok (.lastore, 1) := by decide +kernel
theorem dn_10 : decode cL_message 10 = .ok (.goto 11, 3) := by decide +kernel
theorem dn_13 : decode cL_message 13 = .ok (.astore 4, 2) := by decide +kernel
theorem dn_15 : decode cL_message 15 = .ok (.iconst 1, 1) := by decide +kernel
theorem dn_16 : decode cL_message 16 = .ok (.ireturn, 1) := by decide +kernel
theorem dn_17 : decode cL_message 17 = .ok (.astore 4, 2) := by decide +kernel
theorem dn_19 : decode cL_message 19 = .ok (.iconst 2, 1) := by decide +kernel
theorem dn_20 : decode cL_message 20 = .ok (.ireturn, 1) := by decide +kernel
theorem dn_21 : decode cL_message 21 = .ok (.iconst 0, 1) := by decide +kernel
theorem dn_22 : decode cL_message 22 = .ok (.ireturn, 1) := by decide +kernel
theorem Met_ofWH {l : Launch} {y : MethodName} {ws ws' : List Cond} {rm : Room} {Pc : Array Value → State → Prop} {Qc : Array Value → State → Outcome → State → Prop} {mc ms : Nat} {free : Addr → Prop} {cc : ByteArray} {maxL : Nat} {ret : Option FieldType} {hh : List (Nat × Nat × Nat × Nat)}
    (hy : plainName y.cls = true) (hw : ws = Cond.codeWith y cc maxL ret hh :: ws')
    (body : ∀ p e s m args below meth c s₁, BodyLoose p l y (headSpec ws rm) cc maxL ret e s m args below meth c s₁ → c.maxLocals = maxL → Pc args s →
      W p l e (headSpec ws rm).room s m args below meth c s.heap [] 0 0 (MQ below Qc args s mc ms free) (entryFrame m args maxL)) : Met l y ws rm Pc Qc mc ms free := by
  refine MetFree.of_bodyS (code := cc) (maxLocals := maxL) (ret := ret) hy ?_ ?_
  · intro args s m h hn
    obtain ⟨m9, meth, c, hn9, h1, h2, h3, h4, -, h5, h6, -⟩ := Cond.codeWith_spec (atoms_spec (ws := ws) h _ (by rw [hw]; exact List.mem_cons_self))
    cases hn.symm.trans hn9
    exact ⟨meth, c, h1, h2, h3, h4, h5, h6⟩
  · intro p e s m args below meth c s₁ B hml hP _
    have hh0 : s₁.heap = s.heap := by rw [B.state]; rfl
    obtain ⟨t, a1, o, b1, b2, b3⟩ := body p e s m args below meth c s₁ B hml hP s₁ hh0 (Stand.of_body B)
    exact ⟨t, o, a1, b1, b2, ⟨b3.1, b3.2⟩⟩
abbrev zhh : List (Nat × Nat × Nat × Nat) := [(0, 10, 13, 13), (0, 10, 17, 15)]
def zwL : List Cond := .codeWith yL_message cL_message 5 (some .int) zhh :: zBG
def zRmL : Room := { frames := 8, cells := 1, slots := 6, locals := 140 }
/-- what the law's message rests on -/
def zPl (D : va_G) (ws0 : va_W) (tys0 : List (ClassId × FieldType)) (qo : Nat) (cA : ClassId) (fo : Nat → Int64) (sz sa sb : Nat) (U : State) : Prop :=
  U.heap.size = sz ∧ va_P D vwCl ws0 U.heap ∧ va_K D vwCl tys0 U ∧ va_P D vwCl [(qo, zOe cA fo)] U.heap ∧ va_K D vwCl [(cA, .long)] U ∧ va_D (fun _ => True) (ws0 ++ [(qo, zOe cA fo)]) ∧ zNest U ∧ zThr U ∧ vk_R RX9 116 "no such message" sa U ∧ vk_R RX9 152 "no such what" sb U ∧ vx_Zq Bundle.tN "UNASSIGNED_STACK" Bundle.steD (va_A (ws0 ++ [(qo, zOe cA fo)]) sz) U U.heap ∧ vx_Zq Bundle.tN "SUPPRESSED_SENTINEL" Bundle.listD (va_A (ws0 ++ [(qo, zOe cA fo)]) sz) U U.heap ∧ zStr (va_A (ws0 ++ [(qo, zOe cA fo)]) sz) U ∧ va_Nc zXd zXc U
theorem zPl_blind {D : va_G} {ws0 : va_W} {tys0 : List (ClassId × FieldType)} {qo : Nat} {cA : ClassId} {fo : Nat → Int64} {sz sa sb : Nat} {av : List Value} : FrameBlind (va_Pc av (zPl D ws0 tys0 qo cA fo sz sa sb)) := by
  intro a U g mk q
  obtain ⟨q0, q1, qP, qK, qPo, qKo, qD, qN, qT, qR, qR2, qU, qS, qZ, qC⟩ := q
  exact ⟨q0, q1, qP, va_K.moved (u := U) (U := U.calling g mk a) (Vm.Alike.refl U.vm) qK, qPo, va_K.moved (u := U) (U := U.calling g mk a) (Vm.Alike.refl U.vm) qKo, qD, zNest.same (s := U) (U := U.calling g mk a) rfl qN, zThr.same (s := U) (U := U.calling g mk a) rfl qT, vk_R.same (u := U) (U := U.calling g mk a) rfl qR, vk_R.same (u := U) (U := U.calling g mk a) rfl qR2, vx_Zq.moved (u := U) (U := U.calling g mk a) (Vm.Alike.refl U.vm) qU, vx_Zq.moved (u := U) (U := U.calling g mk a) (Vm.Alike.refl U.vm) qS, qZ.same (U := U.calling g mk a) rfl rfl, va_Nc.moved (u := U) (U := U.calling g mk a) (Vm.Alike.refl U.vm) qC⟩
theorem zPm_blind {D : va_G} {ws0 : va_W} {tys0 : List (ClassId × FieldType)} {sz sa ix : Nat} {tx : String} {av : List Value} : FrameBlind (va_Pc av (zPm D ws0 tys0 sz sa ix tx)) := by
  intro a U g mk q
  obtain ⟨q0, q1, qP, qK, qD, qN, qT, qR, qU, qS, qZ⟩ := q
  exact ⟨q0, q1, qP, va_K.moved (u := U) (U := U.calling g mk a) (Vm.Alike.refl U.vm) qK, qD, zNest.same (s := U) (U := U.calling g mk a) rfl qN, zThr.same (s := U) (U := U.calling g mk a) rfl qT, vk_R.same (u := U) (U := U.calling g mk a) rfl qR, vx_Zq.moved (u := U) (U := U.calling g mk a) (Vm.Alike.refl U.vm) qU, vx_Zq.moved (u := U) (U := U.calling g mk a) (Vm.Alike.refl U.vm) qS, qZ.same (U := U.calling g mk a) rfl rfl⟩
theorem zA_app {ws wo : va_W} {sz : Nat} : ∀ q, va_A ws sz q → va_A (ws ++ wo) sz q := by
  intro q h
  rcases h with ⟨k, e, h⟩ | h
  · exact Or.inl ⟨k, e, by rw [List.getElem?_append_left (List.getElem?_eq_some_iff.mp h).1]; exact h⟩
  · exact Or.inr h
theorem zXself : Cond.castable zXc zXc ∈ zTS := by decide +kernel
theorem zXself2 : Cond.castable zXd zXd ∈ zTS := by decide +kernel
/-- both worlds behind the law's message -/
def zWl (D : va_G) (ws0 : va_W) (qo : Nat) (cA : ClassId) (sz : Nat) (Hx : mzH) (t : State) : Prop := ∃ (ws1 : va_W) (tys1 : List (ClassId × FieldType)) (fo1 : Nat → Int64), zrH tys1 Hx ws1 ∧ zad ws0 <+: zad ws1 ∧ va_P D vwCl ws1 t.heap ∧ va_K D vwCl tys1 t ∧ va_D (va_A ws0 sz) ws1 ∧ va_P D vwCl [(qo, zOe cA fo1)] t.heap
theorem z_two0 {A : Nat → Prop} {w1 w2 : va_W} (h : va_D A (w1 ++ w2)) : va_D A w1 ∧ va_D A w2 ∧ zDis w1 w2 := by
  have l1 : ∀ {i : Nat} {p : Nat × va_E}, w1[i]? = some p → i < w1.length ∧ (w1 ++ w2)[i]? = some p := fun {i p} hp => by
    have hl := (List.getElem?_eq_some_iff.mp hp).1
    exact ⟨hl, by rw [List.getElem?_append_left hl]; exact hp⟩
  have l2 : ∀ {i : Nat} {p : Nat × va_E}, w2[i]? = some p → (w1 ++ w2)[w1.length + i]? = some p := fun {i p} hp => by
    rw [List.getElem?_append_right (Nat.le_add_right _ _), Nat.add_sub_cancel_left]
    exact hp
  refine ⟨⟨fun i j p q hp hq e => h.1 i j p q (l1 hp).2 (l1 hq).2 e, fun k q hq => h.2 k q (l1 hq).2⟩, ⟨fun i j p q hp hq e => ?_, fun k q hq => h.2 _ q (l2 hq)⟩, fun i j p q hp hq e => ?_⟩
  · have := h.1 _ _ p q (l2 hp) (l2 hq) e
    omega
  · have h1 := h.1 _ _ p q (l1 hp).2 (l2 hq) e
    have h2 := (l1 hp).1
    omega
set_option maxRecDepth 100000 in
set_option maxHeartbeats 8000000 in
theorem c_lmsg {l : Launch} (hlt : l.stackTraces = false) {D : va_G} (ws0 : va_W) (tys0 : List (ClassId × FieldType)) (sz sa sb b0 qo : Nat) (cA : ClassId) (fo : Nat → Int64) (k w : Int32) (hb0 : (zad ws0)[0]? = some b0) {Hx : mzH} (hH : zrH tys0 Hx ws0) (hI : gI SX Hx) (hJ : JX Hx) :
    Met l yL_message zwL zRmL (va_Pc [.ref b0, .int k, .int w, .ref qo] (zPl D ws0 tys0 qo cA fo sz sa sb)) (va_Qi (fun (_ : Int32) (_ : Unit) => True) (fun _ t => zWl D ws0 qo cA sz Hx t) (va_A (ws0 ++ [(qo, zOe cA fo)]) sz)) 1 6 (va_A (ws0 ++ [(qo, zOe cA fo)]) sz) := by
  refine Met_ofWH (cc := cL_message) (maxL := 5) (ret := some .int) (hh := zhh) (by decide +kernel) rfl ?_
  intro p e s m args below meth c s₁ B hml hv
  obtain ⟨rfl, hsz, hP, hK, hPo, hKo, hD0, hN, hT, hR, hR2, hU, hSn, hZt, hNc⟩ := hv
  subst hsz
  have hx := B.exec
  have hb := B.bytes
  have hr := B.returns
  have hts := atoms_spec (ws := zwL) B.pre
  have hz : ∀ w9 ∈ zBG, w9.before ([Value.ref b0, .int k, .int w, .ref qo] : List Value).toArray s = true := fun w9 h => hts w9 (List.mem_cons_of_mem _ h)
  have htab : c.exceptionTable.toList = tableOf zhh := vx_table (x := yL_message) B (hts _ List.mem_cons_self)
  have hown : s.vm.findClass RL = some m.cls := findClass_of_methodNamed B.named
  have hlocks := B.notSynchronized
  obtain ⟨hDx, hDo, hdis⟩ := z_two0 hD0
  have hS : va_S (va_A (ws0 ++ [(qo, zOe cA fo)]) s.heap.size) s.heap s.heap [] := va_S.rf
  have hSub : ∀ q, va_A ws0 s.heap.size q → va_A (ws0 ++ [(qo, zOe cA fo)]) s.heap.size q := zA_app
  have hl := lv_entry ([.ref b0, .int k, .int w, .ref qo]) (n := 5) (Nat.le_of_ble_eq_true rfl)
  rw [lg_entry_eq]
  generalize (lg_sl ([.ref b0, .int k, .int w, .ref qo]) ++ List.replicate (5 - (lg_sl ([.ref b0, .int k, .int w, .ref qo])).length) Slot.unset).toArray = ls at hl ⊢
  have hl : lv_has ls 5 [(0, .ref b0), (1, .int k), (2, .int w), (3, .ref qo)] := hl
  obtain ⟨vx0, hx0, -, -⟩ := gI_obj hI sx_0
  obtain ⟨_, hwa, fs', rfl, hfs⟩ := zrH_get hH (k := 0) hx0 hb0
  refine lv_aload_n hx hb dn_0 rfl (lv_at hl 3 rfl) ?_
  refine lv_iconst (v := 0) hx hb dn_1 (by decide) ?_
  refine lv_aload_n hx hb dn_2 rfl (lv_at hl 0 rfl) ?_
  refine lv_iload_n hx hb dn_3 rfl (lv_at hl 1 rfl) ?_
  refine lv_iload_n hx hb dn_4 rfl (lv_at hl 2 rfl) ?_
  obtain ⟨hpl, hnd, hcn, hnl, hcd, hin⟩ := zMf_ok 119 (by decide)
  obtain ⟨hd1, hna0, him, hsel⟩ := zKv_ok 119 (by decide +kernel)
  obtain ⟨_, _, ⟨v0, rfl, rfl, hv1, hv2⟩, f0, hf0⟩ := s_12 3 zBo_3 k Hx hI hJ
  have hrun : zRun f0 12 [.ref 3, .int k] Hx = some (some (.int v0), Hx) := hf0 f0 (Nat.le_refl _)
  by_cases hv0 : v0 = 0
  · refine vx_calli (A0 := va_A (ws0 ++ [(qo, zOe cA fo)]) s.heap.size) (H0 := s.heap) (vx_runV (As := [.int k, .int w]) (rest := [.int 0, .ref qo]) (b := b0) (C := RX9) (own := RL) (nL := 5) ⟨hx, hb, hml, hown, hts⟩ (c_msgA hlt ws0 tys0 s.heap.size sa b0 k w hb0 hH hI hrun hv0) ⟨callB_of 2 hts (zws_in (fun w h => List.mem_cons_of_mem _ h) (by decide)) rfl rfl rfl (hz _ hin) (hz _ (zT_5 92 (by decide +kernel) rfl)) ⟨hnd.1, hnd.2, hd1⟩ ⟨by decide, by decide +kernel⟩, hz _ him, hz _ hsel⟩ ⟨zPm_blind, va_recv hK hP (ci := 9) rfl hwa, fun U hU2 hW => ⟨rfl, by rw [hU2], by rw [hU2]; exact hP, va_K.moved hW.alike hK, hDx, hN.warm hW, hT.warm hW, vk_R.warm hW hR, by rw [hU2]; exact vx_Zq.moved hW.alike (hU.narrow hSub), by rw [hU2]; exact vx_Zq.moved hW.alike (hSn.narrow hSub), hZt.go hS hSub hU2 hW⟩⟩ rfl rfl hl.1 rfl (lv_room (Nat.le_of_ble_eq_true rfl)) dn_5 ⟨by decide, by decide⟩) hS (fun q _ h => hSub q h) hSub (fun q _ h => hSub q h) (fun E ce q9 u t H1 locs1 ht hvm _ hE hsz1 hk1 hS1 hce hcv hcl => ?_) (fun r u t H1 locs1 _ _ hF _ _ _ _ => hF.elim)
    obtain ⟨hE, ws1, tys1, hH1, hpre, hP1, hK1, hD1⟩ := hE
    subst hE
    rw [ht] at hP1
    obtain ⟨hPo1, -⟩ := z_other hPo hdis hk1 hD1
    refine vx_catch (own := RL) (name := zXc) hown [] ((tableOf zhh).head (by decide)) (tableOf zhh).tail (by rw [htab]; rfl) (fun z hz => by cases hz) (by decide) (by decide) (hz _ (zT_5 90 (by decide +kernel) rfl)) (va_Nw.use rfl (hT _ zXself)) hce hcv hcl ?_
    show W p l e _ s m _ below meth c H1 locs1 _ _ _ (F0 m 13 ls [.ref q9])
    refine lv_astore (lv' := [(4, .ref q9), (0, .ref b0), (1, .int k), (2, .int w), (3, .ref qo)]) hx hb dn_13 hl (by decide) rfl (fun ls hl => ?_)
    refine lv_iconst (v := 1) hx hb dn_15 (by decide) ?_
    exact W.iret (v := 1) hx hb hr (fun t2 ht2 hW => ⟨⟨1, (), rfl, trivial, ws1, tys1, fo, hH1, hpre, by rw [ht2]; exact hP1, va_K.moved hW.alike (va_K.moved hvm.symm hK1), hD1, by rw [ht2]; exact hPo1⟩, hS1.F ht2⟩) hS1.2.2 dn_16
  · by_cases hw0 : w.toInt < 0 ∨ 6 < w.toInt
    · refine vx_calli (A0 := va_A (ws0 ++ [(qo, zOe cA fo)]) s.heap.size) (H0 := s.heap) (vx_runV (As := [.int k, .int w]) (rest := [.int 0, .ref qo]) (b := b0) (C := RX9) (own := RL) (nL := 5) ⟨hx, hb, hml, hown, hts⟩ (c_msgC hlt ws0 tys0 s.heap.size sb b0 k w hb0 hH hI hrun hv0 hw0) ⟨callB_of 2 hts (zws_in (fun w h => List.mem_cons_of_mem _ h) (by decide)) rfl rfl rfl (hz _ hin) (hz _ (zT_5 92 (by decide +kernel) rfl)) ⟨hnd.1, hnd.2, hd1⟩ ⟨by decide, by decide +kernel⟩, hz _ him, hz _ hsel⟩ ⟨zPm_blind, va_recv hK hP (ci := 9) rfl hwa, fun U hU2 hW => ⟨rfl, by rw [hU2], by rw [hU2]; exact hP, va_K.moved hW.alike hK, hDx, hN.warm hW, hT.warm hW, vk_R.warm hW hR2, by rw [hU2]; exact vx_Zq.moved hW.alike (hU.narrow hSub), by rw [hU2]; exact vx_Zq.moved hW.alike (hSn.narrow hSub), hZt.go hS hSub hU2 hW⟩⟩ rfl rfl hl.1 rfl (lv_room (Nat.le_of_ble_eq_true rfl)) dn_5 ⟨by decide, by decide⟩) hS (fun q _ h => hSub q h) hSub (fun q _ h => hSub q h) (fun E ce q9 u t H1 locs1 ht hvm _ hE hsz1 hk1 hS1 hce hcv hcl => ?_) (fun r u t H1 locs1 _ _ hF _ _ _ _ => hF.elim)
      obtain ⟨hE, ws1, tys1, hH1, hpre, hP1, hK1, hD1⟩ := hE
      subst hE
      rw [ht] at hP1
      obtain ⟨hPo1, -⟩ := z_other hPo hdis hk1 hD1
      refine vx_catch (own := RL) (name := zXd) hown [(tableOf zhh).head (by decide)] ((tableOf zhh).tail.head (by decide)) [] (by rw [htab]; rfl) (fun z hz9 => by
        rw [List.mem_singleton] at hz9
        subst hz9
        exact Or.inr ⟨by decide, zXc, hz _ (zT_5 90 (by decide +kernel) rfl), hNc⟩) (by decide) (by decide) (hz _ (zT_5 91 (by decide +kernel) rfl)) (va_Nw.use rfl (hT _ zXself2)) hce hcv hcl ?_
      show W p l e _ s m _ below meth c H1 locs1 _ _ _ (F0 m 17 ls [.ref q9])
      refine lv_astore (lv' := [(4, .ref q9), (0, .ref b0), (1, .int k), (2, .int w), (3, .ref qo)]) hx hb dn_17 hl (by decide) rfl (fun ls hl => ?_)
      refine lv_iconst (v := 2) hx hb dn_19 (by decide) ?_
      exact W.iret (v := 2) hx hb hr (fun t2 ht2 hW => ⟨⟨2, (), rfl, trivial, ws1, tys1, fo, hH1, hpre, by rw [ht2]; exact hP1, va_K.moved hW.alike (va_K.moved hvm.symm hK1), hD1, by rw [ht2]; exact hPo1⟩, hS1.F ht2⟩) hS1.2.2 dn_20
    · have hne : ¬ v0.toInt = 0 := fun h => hv0 (Int32.toInt_inj.mp h)
      obtain ⟨_, _, ⟨r0, rfl, rfl⟩, f1, hf1⟩ := s_119 k w (by omega) Hx hI hJ ⟨_, _, ⟨v0, rfl, rfl, by omega, by omega⟩, f0, hf0⟩
      have hMet := z_met_of (l := l) (D := D) zok (z_snd l D zok f1) (j := 119) (by decide) (as := [.ref 0, .int k, .int w]) (Hm := Hx) (res := (some (.int r0), Hx)) (Nat.le_of_ble_eq_true rfl) (hf1 f1 (Nat.le_refl _)) ws0 tys0 s.heap.size [.ref b0, .int k, .int w] ⟨_, _, rfl, ⟨b0, hb0, rfl⟩, _, _, rfl, rfl, _, _, rfl, rfl, rfl⟩ hH
      refine z_call (A0 := va_A (ws0 ++ [(qo, zOe cA fo)]) s.heap.size) (H0 := s.heap) (va_runV (As := [.int k, .int w]) (rest := [.int 0, .ref qo]) (b := b0) (C := RX9) (own := RL) (nL := 5) ⟨hx, hb, hml, hown, hts⟩ hMet ⟨callB_of 2 hts (zws_in (fun w h => List.mem_cons_of_mem _ h) (by decide)) rfl rfl rfl (hz _ hin) (hz _ (zT_5 92 (by decide +kernel) rfl)) ⟨hnd.1, hnd.2, hd1⟩ ⟨by decide +kernel, by decide +kernel⟩, hz _ him, hz _ hsel⟩ ⟨zPre_blind, va_recv hK hP (ci := 9) rfl hwa, fun U hU2 hW => ⟨rfl, by rw [hU2], by rw [hU2]; exact hP, va_K.moved hW.alike hK, hDx, hN.warm hW, hZt.go hS hSub hU2 hW⟩⟩ rfl rfl hl.1 rfl (lv_room (Nat.le_of_ble_eq_true rfl)) dn_5 ⟨by decide +kernel, by decide +kernel⟩) hS hSub (fun st t v h0 hq => ?_) (fun v st t H1 locs1 ht hvm h0 hq hS1 => ?_)
      · obtain ⟨-, h1, h2⟩ := hq
        rw [h0] at h1 h2
        exact ⟨h1, fun q a1 a2 => h2 q a1 (fun z => a2 (hSub q z))⟩
      · obtain ⟨⟨r, ws1, tys1, e1, hO, hH1, hpre, hP1, hK1, hD1⟩, h1, h2⟩ := hq
        cases e1
        obtain ⟨_, rfl, rfl⟩ := hO
        rw [ht] at hP1 h2
        rw [h0] at h2
        obtain ⟨hPo1, hdis1⟩ := z_other hPo hdis h2 hD1
        have hDA : va_D (va_A (ws0 ++ [(qo, zOe cA fo)]) s.heap.size) (ws1 ++ [(qo, zOe cA fo)]) := va_D.app (hD1.weaken (fun _ _ _ h => hSub _ h)) ⟨hDo.1, fun j q hq => Or.inl ⟨ws0.length + j, q.2, by rw [List.getElem?_append_right (Nat.le_add_right _ _), Nat.add_sub_cancel_left]; exact hq⟩⟩ hdis1
        refine lv_i2l (v := r0.toInt64) hx hb dn_8 rfl ?_
        refine va_last (i := 0) (A := va_A (ws0 ++ [(qo, zOe cA fo)]) s.heap.size) hx hb hKo (hP1.app hPo1) hDA hS1 ws1.length 0 (by rw [List.getElem?_append_right (Nat.le_refl _), Nat.sub_self]; rfl) rfl (by unfold vp_in; decide) dn_9 (fun H2 locs2 hP2 hD2 hS2 => ?_)
        rw [List.set_append_right _ _ (Nat.le_refl _), Nat.sub_self] at hP2
        obtain ⟨hP2, hPo2⟩ := (show va_P D vwCl ws1 H2 ∧ va_P D vwCl [(qo, zOe cA (vp_updL fo (0 : Int32).toNatClampNeg r0.toInt64))] H2 from ⟨fun k2 q2 hk2 => hP2 k2 q2 (by rw [List.getElem?_append_left (List.getElem?_eq_some_iff.mp hk2).1]; exact hk2), fun k2 q2 hk2 => hP2 (ws1.length + k2) q2 (by rw [List.getElem?_append_right (Nat.le_add_right _ _), Nat.add_sub_cancel_left]; exact hk2)⟩)
        refine lv_goto (tgt := 21) hx hb dn_10 (by decide) ?_
        refine lv_iconst (v := 0) hx hb dn_21 (by decide) ?_
        refine W.widen (k := 1) (n := 6) (by decide +kernel) (by decide +kernel) ?_
        exact W.iret (v := 0) hx hb hr (fun t2 ht2 hW => ⟨⟨0, (), rfl, trivial, ws1, tys1, _, hH1, hpre, by rw [ht2]; exact hP2, va_K.moved hW.alike (va_K.moved hvm.symm hK1), hD1, by rw [ht2]; exact hPo2⟩, hS2.F ht2⟩) hS2.2.2 dn_22
theorem z_lmsgw : GoodIn lw_tbl (va_wsS RL 43 yL_message zwL) := by
  have h1 : Cond.methodLink RL 43 yL_message ∈ zBG := (zT_5 87 (by decide +kernel) rfl)
  have h2 : Cond.static yL_message ∈ zBG := (zT_5 88 (by decide +kernel) rfl)
  have h3 : Cond.initialized RL ∈ zBG := (zT_1 0 (by decide +kernel) rfl)
  have h4 : Cond.codeWith yL_message cL_message 5 (some .int) zhh ∈ zBG := (zT_5 89 (by decide +kernel) rfl)
  intro w hw
  refine zBG_in zLw_in w ?_
  unfold va_wsS zwL at hw
  rcases List.mem_append.mp hw with hw | hw
  · simp only [List.mem_cons, List.not_mem_nil, or_false] at hw
    rcases hw with e | e | e <;> subst e
    · exact h1
    · exact h2
    · exact h3
  · rcases List.mem_cons.mp hw with e | e
    · subst e; exact h4
    · exact e
set_option maxRecDepth 100000 in
set_option maxHeartbeats 8000000 in
theorem law_5 {p : Program} {l : Launch} {e : Env} {s : State} {m : MethodId} {below : List Frame} {meth : Method} {c : Code} {b L : Nat} {xs : Nat → Int32} {D : va_G} {bx bm qo : Nat} {i : Int32} {H : Heap} {locs : List Loc} {ls : Array Slot} {cells slots : Nat} {Q : State → Prop} (hflags : l.flags = flags0) (hgv : (Jvm.Cond.and given_1 narrow_1).before #[Value.ref b] s = true) (F : zFx p s m meth c b L xs) (hi : 0 ≤ i.toInt ∧ i.toInt + 6 ≤ L) (hc : cells + 1 ≤ 1129) (hs : slots + 6 ≤ 17054) (B : zBe s b D bx bm qo i H locs ls) (KK : ∀ (H : Heap) (locs : List Loc) (ls : Array Slot), zBe s b D bx bm qo i H locs ls → W p l e room_1 s m #[Value.ref b] below meth c H locs (cells + 1) (slots + 6) Q (F0 m 1542 ls [])) : W p l e room_1 s m #[Value.ref b] below meth c H locs cells slots Q (F0 m 381 ls []) := by
  obtain ⟨C, hX, hbl, hr, hlocks, hL⟩ := id F
  obtain ⟨hx, hb, hml, hown, hts, hN, hZt⟩ := id C
  have hbA : ¬ zA s b := Nat.not_le.mpr hbl
  obtain ⟨wsx, wsm, tysx, tysm, cA, fo, Hx, Hm, hWx, hWm, hdis, hPo, hKo, hDo, hdx, hdm, hS, hbx, hbm, hl, hIv⟩ := B
  have hWm0 := hWm
  have hlt : l.stackTraces = false := by unfold Launch.stackTraces; rw [hflags]; decide
  have hgs := flat_of_before _ hgv
  have hT : zThr s := zThr_of hts
  obtain ⟨hHx, hPx, hKx, hDx⟩ := id hWx
  obtain ⟨-, hfc, -⟩ := hKx.1 9 _ rfl
  obtain ⟨_, _, _, sa, -, -, -, -, -, hsa⟩ := Cond.stringRef_spec hfc (hts (.stringRef RX9 116 "no such message") (by decide +kernel))
  have hRsa : vk_R RX9 116 "no such message" sa s := vk_R.of (hts (.stringRef RX9 116 "no such message") (by decide +kernel)) hsa
  obtain ⟨_, _, _, sb, -, -, -, -, -, hsb⟩ := Cond.stringRef_spec hfc (hts (.stringRef RX9 152 "no such what") (by decide +kernel))
  have hRsb : vk_R RX9 152 "no such what" sb s := vk_R.of (hts (.stringRef RX9 152 "no such what") (by decide +kernel)) hsb
  have hNc : va_Nc zXd zXc s := va_Nc.of (hgs (.not (.castable zXd zXc)) (by decide +kernel))
  have hDa := hDx.app hDo hdx
  have hsub := z_sub hDa hS (fun q h => h)
  have hsubx := z_sub hDx hS (fun q h => h)
  have hU : vx_Zq Bundle.tN "UNASSIGNED_STACK" Bundle.steD (zA s) s s.heap := vx_Zqof (hts _ (by decide +kernel)) (hts _ (by decide +kernel)) (hgs _ (by decide +kernel)) (fun a h => Nat.not_le.mpr h)
  have hV : vx_Zq Bundle.tN "SUPPRESSED_SENTINEL" Bundle.listD (zA s) s s.heap := vx_Zqof (hts _ (by decide +kernel)) (hts _ (by decide +kernel)) (hgs _ (by decide +kernel)) (fun a h => Nat.not_le.mpr h)
  have hU := (hU.kept hS.2.1).narrow hsub
  have hV := (hV.kept hS.2.1).narrow hsub
  obtain ⟨vm0, hm0, -, -⟩ := gI_obj hIv.2.1.1 sm_0
  obtain ⟨f, rm, Gm, q2, hIv2⟩ := step_5 (xs (i + 1).toNatClampNeg) (xs (i + 2).toNatClampNeg) hIv
  refine lv_aload_n hx hb dl_381 rfl (lv_at hl 3 rfl) ?_
  refine lv_aload_n hx hb dl_382 rfl (lv_at hl 4 rfl) ?_
  refine lv_iload hx hb dl_383 (lv_at hl 0 rfl) ?_
  refine lv_iconst (v := 1) hx hb dl_385 (by decide) ?_
  refine lv_iadd hx hb dl_386 ?_
  refine va_sld hx hb hX hbl hbA hS (vIk (k := 1) (by decide) (by decide) hi hL) dl_387 ?_
  refine lv_aload_n hx hb dl_388 rfl (lv_at hl 4 rfl) ?_
  refine lv_iload hx hb dl_389 (lv_at hl 0 rfl) ?_
  refine lv_iconst (v := 2) hx hb dl_391 (by decide) ?_
  refine lv_iadd hx hb dl_392 ?_
  refine va_sld hx hb hX hbl hbA hS (vIk (k := 2) (by decide) (by decide) hi hL) dl_393 ?_
  refine lv_aload_n hx hb dl_394 rfl (lv_at hl 1 rfl) ?_
  refine va_calli (A0 := zA s) (H0 := s.heap) (vx_runSW (As := [.ref bx, .int (xs (i + 1).toNatClampNeg), .int (xs (i + 2).toNatClampNeg), .ref qo]) (rest := []) (nL := 7) (own := RL) ⟨hx, hb, hml, hown, hts⟩ (c_lmsg hlt wsx tysx H.size sa sb bx qo cA fo (xs (i + 1).toNatClampNeg) (xs (i + 2).toNatClampNeg) hbx hHx hIv.1.1 hIv.1.2) (vx_cwSW (hh := zhh) 4 hts z_lmsgw rfl rfl rfl (by decide +kernel) ⟨by decide, by decide⟩) ⟨zPl_blind, fun U hU2 hW => ⟨rfl, by rw [hU2], by rw [hU2]; exact hPx, va_K.moved hW.alike hKx, by rw [hU2]; exact hPo, va_K.moved hW.alike hKo, hDa.weaken (fun _ _ _ _ => trivial), hN.warm hW, hT.warm hW, vk_R.warm hW hRsa, vk_R.warm hW hRsb, by rw [hU2]; exact vx_Zq.moved hW.alike hU, by rw [hU2]; exact vx_Zq.moved hW.alike hV, hZt.go hS hsub hU2 hW, va_Nc.moved hW.alike hNc⟩⟩ rfl rfl hl.1 rfl (lv_room (Nat.le_of_ble_eq_true rfl)) dl_395 ⟨hc, hs⟩) hS (fun q _ h => hsub q h) hsub (fun v0 u t H1 locs1 ht hvm _ hB hz1 hk1 hS => ?_)
  obtain ⟨ws1, tys1, fo1, hH1, hpre, hP1, hK1, hD1, hPo1⟩ := hB
  rw [ht] at hP1 hPo1
  have hWx : zWd D s Hx ws1 tys1 H1 := ⟨hH1, hP1, va_K.moved hvm.symm hK1, hD1.weaken (fun k q _ h => hsubx _ h)⟩
  have hdmx : zDis (wsx ++ [(qo, zOe cA fo)]) wsm := fun i2 j2 p2 q2 hp2 hq2 e2 => by
    by_cases hlt2 : i2 < wsx.length
    · rw [List.getElem?_append_left hlt2] at hp2
      exact hdis i2 j2 p2 q2 hp2 hq2 e2
    · rw [List.getElem?_append_right (by omega)] at hp2
      exact hdm j2 _ q2 p2 hq2 hp2 e2.symm
  obtain ⟨hWm, -⟩ := hWm.other (w1 := []) hdmx hk1 ⟨fun i j p q h => by simp at h, fun k q h => by simp at h⟩
  have hbx := zpre_at hpre hbx
  have hdis1 : zDis ws1 wsm := fun i2 j2 p2 q2 hp2 hq2 e2 => by
    have hA := hD1.2 i2 p2 hp2
    rcases hA with ⟨k2, e3, h3⟩ | h3
    · exact hdis k2 j2 (p2.1, e3) q2 h3 hq2 e2
    · have := (hWm0.2.1 j2 q2 hq2).lt
      have e4 : p2.1 = q2.1 := e2
      omega
  have hdx1 : zDis ws1 [(qo, zOe cA fo)] := fun i2 j2 p2 q2 hp2 hq2 e2 => by
    have hA := hD1.2 i2 p2 hp2
    rcases hA with ⟨k2, e3, h3⟩ | h3
    · exact hdx k2 j2 (p2.1, e3) q2 h3 hq2 e2
    · have := (hPo j2 q2 hq2).lt
      have e4 : p2.1 = q2.1 := e2
      omega
  have hDo1 : va_D (zA s) [(qo, zOe cA fo1)] := ⟨fun i2 j2 p2 q2 hp2 hq2 _ => by
    match i2, j2, hp2, hq2 with
    | 0, 0, _, _ => rfl
    | 0, j + 1, _, hq2 => simp at hq2
    | i + 1, _, hp2, _ => simp at hp2, fun k2 q2 hq2 => by
    match k2, hq2 with
    | 0, hq2 => cases hq2; exact hDo.2 0 (qo, zOe cA fo) rfl
    | k + 1, hq2 => simp at hq2⟩
  refine lv_istore (lv' := [(5, .int v0), (4, .int i), (3, .ref qo), (2, .ref bm), (1, .ref bx), (0, .ref b)]) hx hb dl_398 hl (by decide) rfl (fun ls hl => ?_)
  refine lv_aload_n hx hb dl_400 rfl (lv_at hl 3 rfl) ?_
  refine lv_aload_n hx hb dl_401 rfl (lv_at hl 5 rfl) ?_
  refine lv_iload hx hb dl_402 (lv_at hl 1 rfl) ?_
  refine lv_iconst (v := 1) hx hb dl_404 (by decide) ?_
  refine lv_iadd hx hb dl_405 ?_
  refine va_sld hx hb hX hbl hbA hS (vIk (k := 1) (by decide) (by decide) hi hL) dl_406 ?_
  refine lv_aload_n hx hb dl_407 rfl (lv_at hl 5 rfl) ?_
  refine lv_iload hx hb dl_408 (lv_at hl 1 rfl) ?_
  refine lv_iconst (v := 2) hx hb dl_410 (by decide) ?_
  refine lv_iadd hx hb dl_411 ?_
  refine va_sld hx hb hX hbl hbA hS (vIk (k := 2) (by decide) (by decide) hi hL) dl_412 ?_
  refine z_law (rest := []) C (x := 202) (idx := 48) (by decide) (by decide +kernel) (List.mem_append_right _ (List.mem_of_getElem? (i := 1389) (by decide +kernel))) dl_413 (by decide +kernel) (by decide +kernel) rfl rfl (by decide +kernel) (show cells + 1 ≤ 1129 by omega) (show slots + 6 ≤ 17054 by omega) q2 (Nat.le_of_ble_eq_true rfl) hWm hS hm0 hbm ⟨_, _, rfl, rfl, ⟨_, _, rfl, rfl, rfl⟩⟩ rfl hl.1 (Nat.le_of_ble_eq_true rfl) rfl (fun v ws2 tys2 H2 locs2 hO hpre hW1 hD1 hk1 hS => ?_)
  obtain ⟨_, rfl, rfl⟩ := hO
  obtain ⟨hWx, hdis2⟩ := hWx.other hdis1.symm hk1 hD1
  obtain ⟨hPo2, hdm2⟩ := z_other hPo1 (zDis.set hdm) hk1 hD1
  have hbm := zpre_at hpre hbm
  refine lv_istore (lv' := [(6, .int rm), (5, .int v0), (4, .int i), (3, .ref qo), (2, .ref bm), (1, .ref bx), (0, .ref b)]) hx hb dl_416 hl (by decide) rfl (fun ls hl => ?_)
  refine lv_goto (tgt := 1542) hx hb dl_418 (by decide) ?_
  exact KK _ _ _ ⟨_, _, _, _, cA, fo1, Hx, Gm, hWx, hW1, hdis2.symm, hPo2, hKo, hDo1, zDis.set hdx1, hdm2, hS, hbx, hbm, lv_sub hl [2, 3, 4, 5, 6] rfl, hIv2⟩
