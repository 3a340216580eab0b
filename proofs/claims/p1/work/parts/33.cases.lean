/-! THE LAW'S CASES: one call on new objects -/
/-- what stands as a case begins -/
def zBe (p : Program) (s : State) (m : MethodId) (meth : Method) (c : Code) (b : Nat) (xs : Nat → Int32) (D : va_G) (wsx wsm : va_W) (tysx tysm : List (ClassId × FieldType)) (bx bm qo : Nat) (H : Heap) (locs : List Loc) (ls : Array Slot) : Prop :=
  zLaw p s m #[Value.ref b] c ∧ va_X b 6 xs s s.heap ∧ b < s.heap.size ∧ meth.sig.returnType = ret ∧ meth.locks = false ∧ zWd D s zHx wsx tysx H ∧ zWd D s zHm wsm tysm H ∧ zDis wsx wsm ∧ va_S (zA s) s.heap H locs ∧ (zad wsx)[0]? = some bx ∧ (zad wsm)[0]? = some bm ∧ lv_has ls 7 [(4, .int 0), (3, .ref qo), (2, .ref bm), (1, .ref bx), (0, .ref b)]
theorem vI0 : vp_in ((0 : Int32)) 6 := by unfold vp_in; decide
theorem vI1 : vp_in ((0 : Int32) + 1) 6 := by unfold vp_in; decide
theorem vI2 : vp_in ((0 : Int32) + 2) 6 := by unfold vp_in; decide
theorem vI3 : vp_in ((0 : Int32) + 3) 6 := by unfold vp_in; decide
theorem vI4 : vp_in ((0 : Int32) + 4) 6 := by unfold vp_in; decide
theorem vI5 : vp_in ((0 : Int32) + 5) 6 := by unfold vp_in; decide
set_option maxHeartbeats 4000000 in
/-- behind the case: the loop's end, 1 -/
theorem law_exit {p : Program} {l : Launch} {e : Env} {s : State} {m : MethodId} {below : List Frame} {meth : Method} {c : Code} {b : Nat} {xs : Nat → Int32} {H : Heap} {locs : List Loc} {ls : Array Slot} {bx bm qo : Nat} {cells slots : Nat} (hc : cells ≤ 107) (hs : slots ≤ 8878)
    (C : zLaw p s m #[Value.ref b] c) (hX : va_X b 6 xs s s.heap) (hbl : b < s.heap.size) (hr : meth.sig.returnType = ret) (hlocks : meth.locks = false) (hS : va_S (zA s) s.heap H locs) (hl : lv_has ls 7 [(4, .int 0), (3, .ref qo), (2, .ref bm), (1, .ref bx), (0, .ref b)]) :
    W p l e room_1 s m #[Value.ref b] below meth c H locs cells slots (lw_Z below #[Value.ref b] s) (F0 m 1570 ls []) := by
  obtain ⟨hx, hb, hml, hown, hts, hN⟩ := C
  have hbA : ¬ zA s b := Nat.not_le.mpr hbl
  refine lv_iinc (v := 6) (lv' := [(4, .int 6), (3, .ref qo), (2, .ref bm), (1, .ref bx), (0, .ref b)]) hx hb dl_1570 hl (k := 0) rfl (by decide) (by decide) rfl (fun ls hl => ?_)
  refine lv_goto (tgt := 23) hx hb dl_1573 (by decide) ?_
  refine lv_iload hx hb dl_23 (lv_at hl 0 rfl) ?_
  refine lv_aload_n hx hb dl_25 rfl (lv_at hl 4 rfl) ?_
  refine va_slen hx hb hX hbl hbA hS dl_26 ?_
  refine lv_bipush (v := 6) hx hb dl_27 (by decide) ?_
  refine lv_isub hx hb dl_29 ?_
  refine lv_icmp_gt (tgt := 1576) hx hb dl_30 (by decide) (fun _ => ?_) (fun h => absurd (by decide) h)
  refine lv_iconst (v := 1) hx hb dl_1576 (by decide) ?_
  refine va_forget (fun q hq => hS.2.2 q hq) ?_
  refine W.widen (k := 107) (n := 8878) hc hs ?_
  exact lw_ret hx hb hr hlocks dl_1577
set_option maxRecDepth 100000 in
set_option maxHeartbeats 4000000 in
theorem law_0 {p : Program} {l : Launch} {e : Env} {s : State} {m : MethodId} {below : List Frame} {meth : Method} {c : Code} {b : Nat} {xs : Nat → Int32} {D : va_G} {wsx wsm : va_W} {tysx tysm : List (ClassId × FieldType)} {bx bm qo : Nat} {H : Heap} {locs : List Loc} {ls : Array Slot} (B : zBe p s m meth c b xs D wsx wsm tysx tysm bx bm qo H locs ls) : W p l e room_1 s m #[Value.ref b] below meth c H locs 103 8850 (lw_Z below #[Value.ref b] s) (F0 m 196 ls []) := by
  obtain ⟨C, hX, hbl, hr, hlocks, hWx, hWm, hdis, hS, hbx, hbm, hl⟩ := B
  obtain ⟨hx, hb, hml, hown, hts, hN⟩ := id C
  have hbA : ¬ zA s b := Nat.not_le.mpr hbl
  obtain ⟨w1, w2, f, r0, G1, G2, q1, q2⟩ := aChk_at zc_feed (xs := [xs ((0 : Int32) + 1).toNatClampNeg, xs ((0 : Int32) + 2).toNatClampNeg, xs ((0 : Int32) + 3).toNatClampNeg, xs ((0 : Int32) + 4).toNatClampNeg, xs ((0 : Int32) + 5).toNatClampNeg]) rfl
  refine lv_aload_n hx hb dl_196 rfl (lv_at hl 3 rfl) ?_
  refine lv_aload_n hx hb dl_197 rfl (lv_at hl 4 rfl) ?_
  refine lv_iload hx hb dl_198 (lv_at hl 0 rfl) ?_
  refine lv_iconst (v := 1) hx hb dl_200 (by decide) ?_
  refine lv_iadd hx hb dl_201 ?_
  refine va_sld hx hb hX hbl hbA hS vI1 dl_202 ?_
  refine lv_aload_n hx hb dl_203 rfl (lv_at hl 4 rfl) ?_
  refine lv_iload hx hb dl_204 (lv_at hl 0 rfl) ?_
  refine lv_iconst (v := 2) hx hb dl_206 (by decide) ?_
  refine lv_iadd hx hb dl_207 ?_
  refine va_sld hx hb hX hbl hbA hS vI2 dl_208 ?_
  refine lv_aload_n hx hb dl_209 rfl (lv_at hl 4 rfl) ?_
  refine lv_iload hx hb dl_210 (lv_at hl 0 rfl) ?_
  refine lv_iconst (v := 3) hx hb dl_212 (by decide) ?_
  refine lv_iadd hx hb dl_213 ?_
  refine va_sld hx hb hX hbl hbA hS vI3 dl_214 ?_
  refine lv_aload_n hx hb dl_215 rfl (lv_at hl 4 rfl) ?_
  refine lv_iload hx hb dl_216 (lv_at hl 0 rfl) ?_
  refine lv_iconst (v := 4) hx hb dl_218 (by decide) ?_
  refine lv_iadd hx hb dl_219 ?_
  refine va_sld hx hb hX hbl hbA hS vI4 dl_220 ?_
  refine lv_aload_n hx hb dl_221 rfl (lv_at hl 4 rfl) ?_
  refine lv_iload hx hb dl_222 (lv_at hl 0 rfl) ?_
  refine lv_iconst (v := 5) hx hb dl_224 (by decide) ?_
  refine lv_iadd hx hb dl_225 ?_
  refine va_sld hx hb hX hbl hbA hS vI5 dl_226 ?_
  refine z_law (rest := []) C (x := 113) (idx := 21) (by decide) (by decide +kernel) (List.mem_append_right _ (List.mem_of_getElem? (i := 377) (by decide +kernel))) dl_227 (by decide +kernel) (by decide +kernel) rfl rfl (by decide +kernel) (by decide) (by decide) q1 w1 hWx hS rfl hbx ⟨_, _, rfl, rfl, ⟨_, _, rfl, rfl, ⟨_, _, rfl, rfl, ⟨_, _, rfl, rfl, ⟨_, _, rfl, rfl, rfl⟩⟩⟩⟩⟩ rfl hl.1 (Nat.le_of_ble_eq_true rfl) rfl (fun v ws1 tys1 H1 locs1 hO hpre hW1 hD1 hk1 hS => ?_)
  obtain ⟨_, rfl, rfl⟩ := hO
  obtain ⟨hWm, hdis⟩ := hWm.other hdis hk1 hD1
  refine lv_aload_n hx hb dl_230 rfl (lv_at hl 2 rfl) ?_
  refine lv_aload_n hx hb dl_231 rfl (lv_at hl 4 rfl) ?_
  refine lv_iload hx hb dl_232 (lv_at hl 0 rfl) ?_
  refine lv_iconst (v := 1) hx hb dl_234 (by decide) ?_
  refine lv_iadd hx hb dl_235 ?_
  refine va_sld hx hb hX hbl hbA hS vI1 dl_236 ?_
  refine lv_aload_n hx hb dl_237 rfl (lv_at hl 4 rfl) ?_
  refine lv_iload hx hb dl_238 (lv_at hl 0 rfl) ?_
  refine lv_iconst (v := 2) hx hb dl_240 (by decide) ?_
  refine lv_iadd hx hb dl_241 ?_
  refine va_sld hx hb hX hbl hbA hS vI2 dl_242 ?_
  refine lv_aload_n hx hb dl_243 rfl (lv_at hl 4 rfl) ?_
  refine lv_iload hx hb dl_244 (lv_at hl 0 rfl) ?_
  refine lv_iconst (v := 3) hx hb dl_246 (by decide) ?_
  refine lv_iadd hx hb dl_247 ?_
  refine va_sld hx hb hX hbl hbA hS vI3 dl_248 ?_
  refine lv_aload_n hx hb dl_249 rfl (lv_at hl 4 rfl) ?_
  refine lv_iload hx hb dl_250 (lv_at hl 0 rfl) ?_
  refine lv_iconst (v := 4) hx hb dl_252 (by decide) ?_
  refine lv_iadd hx hb dl_253 ?_
  refine va_sld hx hb hX hbl hbA hS vI4 dl_254 ?_
  refine lv_aload_n hx hb dl_255 rfl (lv_at hl 4 rfl) ?_
  refine lv_iload hx hb dl_256 (lv_at hl 0 rfl) ?_
  refine lv_iconst (v := 5) hx hb dl_258 (by decide) ?_
  refine lv_iadd hx hb dl_259 ?_
  refine va_sld hx hb hX hbl hbA hS vI5 dl_260 ?_
  refine z_law (rest := [.int r0]) C (x := 156) (idx := 25) (by decide) (by decide +kernel) (List.mem_append_right _ (List.mem_of_getElem? (i := 1300) (by decide +kernel))) dl_261 (by decide +kernel) (by decide +kernel) rfl rfl (by decide +kernel) (by decide) (by decide) q2 w2 hWm hS rfl hbm ⟨_, _, rfl, rfl, ⟨_, _, rfl, rfl, ⟨_, _, rfl, rfl, ⟨_, _, rfl, rfl, ⟨_, _, rfl, rfl, rfl⟩⟩⟩⟩⟩ rfl hl.1 (Nat.le_of_ble_eq_true rfl) rfl (fun v ws1 tys1 H1 locs1 hO hpre hW1 hD1 hk1 hS => ?_)
  obtain ⟨_, rfl, rfl⟩ := hO
  refine lv_icmp_eq (tgt := 1570) hx hb dl_264 (by decide) (fun _ => ?_) (fun h => absurd rfl h)
  exact law_exit (by decide) (by decide) C hX hbl hr hlocks hS hl
set_option maxRecDepth 100000 in
set_option maxHeartbeats 4000000 in
theorem law_1 {p : Program} {l : Launch} {e : Env} {s : State} {m : MethodId} {below : List Frame} {meth : Method} {c : Code} {b : Nat} {xs : Nat → Int32} {D : va_G} {wsx wsm : va_W} {tysx tysm : List (ClassId × FieldType)} {bx bm qo : Nat} {H : Heap} {locs : List Loc} {ls : Array Slot} (B : zBe p s m meth c b xs D wsx wsm tysx tysm bx bm qo H locs ls) : W p l e room_1 s m #[Value.ref b] below meth c H locs 103 8850 (lw_Z below #[Value.ref b] s) (F0 m 269 ls []) := by
  obtain ⟨C, hX, hbl, hr, hlocks, hWx, hWm, hdis, hS, hbx, hbm, hl⟩ := B
  obtain ⟨hx, hb, hml, hown, hts, hN⟩ := id C
  have hbA : ¬ zA s b := Nat.not_le.mpr hbl
  obtain ⟨w1, w2, f, r0, G1, G2, q1, q2⟩ := aChk_at zc_text (xs := [xs ((0 : Int32) + 1).toNatClampNeg]) rfl
  refine lv_aload_n hx hb dl_269 rfl (lv_at hl 3 rfl) ?_
  refine lv_aload_n hx hb dl_270 rfl (lv_at hl 4 rfl) ?_
  refine lv_iload hx hb dl_271 (lv_at hl 0 rfl) ?_
  refine lv_iconst (v := 1) hx hb dl_273 (by decide) ?_
  refine lv_iadd hx hb dl_274 ?_
  refine va_sld hx hb hX hbl hbA hS vI1 dl_275 ?_
  refine z_law (rest := []) C (x := 114) (idx := 26) (by decide) (by decide +kernel) (List.mem_append_right _ (List.mem_of_getElem? (i := 389) (by decide +kernel))) dl_276 (by decide +kernel) (by decide +kernel) rfl rfl (by decide +kernel) (by decide) (by decide) q1 w1 hWx hS rfl hbx ⟨_, _, rfl, rfl, rfl⟩ rfl hl.1 (Nat.le_of_ble_eq_true rfl) rfl (fun v ws1 tys1 H1 locs1 hO hpre hW1 hD1 hk1 hS => ?_)
  obtain ⟨_, rfl, rfl⟩ := hO
  obtain ⟨hWm, hdis⟩ := hWm.other hdis hk1 hD1
  refine lv_aload_n hx hb dl_279 rfl (lv_at hl 2 rfl) ?_
  refine lv_aload_n hx hb dl_280 rfl (lv_at hl 4 rfl) ?_
  refine lv_iload hx hb dl_281 (lv_at hl 0 rfl) ?_
  refine lv_iconst (v := 1) hx hb dl_283 (by decide) ?_
  refine lv_iadd hx hb dl_284 ?_
  refine va_sld hx hb hX hbl hbA hS vI1 dl_285 ?_
  refine z_law (rest := [.int r0]) C (x := 176) (idx := 30) (by decide) (by decide +kernel) (List.mem_append_right _ (List.mem_of_getElem? (i := 1304) (by decide +kernel))) dl_286 (by decide +kernel) (by decide +kernel) rfl rfl (by decide +kernel) (by decide) (by decide) q2 w2 hWm hS rfl hbm ⟨_, _, rfl, rfl, rfl⟩ rfl hl.1 (Nat.le_of_ble_eq_true rfl) rfl (fun v ws1 tys1 H1 locs1 hO hpre hW1 hD1 hk1 hS => ?_)
  obtain ⟨_, rfl, rfl⟩ := hO
  refine lv_icmp_eq (tgt := 1570) hx hb dl_289 (by decide) (fun _ => ?_) (fun h => absurd rfl h)
  exact law_exit (by decide) (by decide) C hX hbl hr hlocks hS hl
set_option maxRecDepth 100000 in
set_option maxHeartbeats 4000000 in
theorem law_2 {p : Program} {l : Launch} {e : Env} {s : State} {m : MethodId} {below : List Frame} {meth : Method} {c : Code} {b : Nat} {xs : Nat → Int32} {D : va_G} {wsx wsm : va_W} {tysx tysm : List (ClassId × FieldType)} {bx bm qo : Nat} {H : Heap} {locs : List Loc} {ls : Array Slot} (B : zBe p s m meth c b xs D wsx wsm tysx tysm bx bm qo H locs ls) : W p l e room_1 s m #[Value.ref b] below meth c H locs 103 8850 (lw_Z below #[Value.ref b] s) (F0 m 294 ls []) := by
  obtain ⟨C, hX, hbl, hr, hlocks, hWx, hWm, hdis, hS, hbx, hbm, hl⟩ := B
  obtain ⟨hx, hb, hml, hown, hts, hN⟩ := id C
  have hbA : ¬ zA s b := Nat.not_le.mpr hbl
  obtain ⟨w1, w2, f, r0, G1, G2, q1, q2⟩ := aChk_at zc_tell (xs := [xs ((0 : Int32) + 1).toNatClampNeg]) rfl
  refine lv_aload_n hx hb dl_294 rfl (lv_at hl 3 rfl) ?_
  refine lv_aload_n hx hb dl_295 rfl (lv_at hl 4 rfl) ?_
  refine lv_iload hx hb dl_296 (lv_at hl 0 rfl) ?_
  refine lv_iconst (v := 1) hx hb dl_298 (by decide) ?_
  refine lv_iadd hx hb dl_299 ?_
  refine va_sld hx hb hX hbl hbA hS vI1 dl_300 ?_
  refine z_law (rest := []) C (x := 115) (idx := 31) (by decide) (by decide +kernel) (List.mem_append_right _ (List.mem_of_getElem? (i := 686) (by decide +kernel))) dl_301 (by decide +kernel) (by decide +kernel) rfl rfl (by decide +kernel) (by decide) (by decide) q1 w1 hWx hS rfl hbx ⟨_, _, rfl, rfl, rfl⟩ rfl hl.1 (Nat.le_of_ble_eq_true rfl) rfl (fun v ws1 tys1 H1 locs1 hO hpre hW1 hD1 hk1 hS => ?_)
  obtain ⟨_, rfl, rfl⟩ := hO
  obtain ⟨hWm, hdis⟩ := hWm.other hdis hk1 hD1
  refine lv_aload_n hx hb dl_304 rfl (lv_at hl 2 rfl) ?_
  refine lv_aload_n hx hb dl_305 rfl (lv_at hl 4 rfl) ?_
  refine lv_iload hx hb dl_306 (lv_at hl 0 rfl) ?_
  refine lv_iconst (v := 1) hx hb dl_308 (by decide) ?_
  refine lv_iadd hx hb dl_309 ?_
  refine va_sld hx hb hX hbl hbA hS vI1 dl_310 ?_
  refine z_law (rest := [.int r0]) C (x := 177) (idx := 34) (by decide) (by decide +kernel) (List.mem_append_right _ (List.mem_of_getElem? (i := 1377) (by decide +kernel))) dl_311 (by decide +kernel) (by decide +kernel) rfl rfl (by decide +kernel) (by decide) (by decide) q2 w2 hWm hS rfl hbm ⟨_, _, rfl, rfl, rfl⟩ rfl hl.1 (Nat.le_of_ble_eq_true rfl) rfl (fun v ws1 tys1 H1 locs1 hO hpre hW1 hD1 hk1 hS => ?_)
  obtain ⟨_, rfl, rfl⟩ := hO
  refine lv_icmp_eq (tgt := 1570) hx hb dl_314 (by decide) (fun _ => ?_) (fun h => absurd rfl h)
  exact law_exit (by decide) (by decide) C hX hbl hr hlocks hS hl
set_option maxRecDepth 100000 in
set_option maxHeartbeats 4000000 in
theorem law_3 {p : Program} {l : Launch} {e : Env} {s : State} {m : MethodId} {below : List Frame} {meth : Method} {c : Code} {b : Nat} {xs : Nat → Int32} {D : va_G} {wsx wsm : va_W} {tysx tysm : List (ClassId × FieldType)} {bx bm qo : Nat} {H : Heap} {locs : List Loc} {ls : Array Slot} (B : zBe p s m meth c b xs D wsx wsm tysx tysm bx bm qo H locs ls) : W p l e room_1 s m #[Value.ref b] below meth c H locs 103 8850 (lw_Z below #[Value.ref b] s) (F0 m 319 ls []) := by
  obtain ⟨C, hX, hbl, hr, hlocks, hWx, hWm, hdis, hS, hbx, hbm, hl⟩ := B
  obtain ⟨hx, hb, hml, hown, hts, hN⟩ := id C
  have hbA : ¬ zA s b := Nat.not_le.mpr hbl
  obtain ⟨w1, w2, f, r0, G1, G2, q1, q2⟩ := aChk_at zc_fault (xs := [xs ((0 : Int32) + 1).toNatClampNeg]) rfl
  refine lv_aload_n hx hb dl_319 rfl (lv_at hl 3 rfl) ?_
  refine lv_aload_n hx hb dl_320 rfl (lv_at hl 4 rfl) ?_
  refine lv_iload hx hb dl_321 (lv_at hl 0 rfl) ?_
  refine lv_iconst (v := 1) hx hb dl_323 (by decide) ?_
  refine lv_iadd hx hb dl_324 ?_
  refine va_sld hx hb hX hbl hbA hS vI1 dl_325 ?_
  refine z_law (rest := []) C (x := 117) (idx := 35) (by decide) (by decide +kernel) (List.mem_append_right _ (List.mem_of_getElem? (i := 690) (by decide +kernel))) dl_326 (by decide +kernel) (by decide +kernel) rfl rfl (by decide +kernel) (by decide) (by decide) q1 w1 hWx hS rfl hbx ⟨_, _, rfl, rfl, rfl⟩ rfl hl.1 (Nat.le_of_ble_eq_true rfl) rfl (fun v ws1 tys1 H1 locs1 hO hpre hW1 hD1 hk1 hS => ?_)
  obtain ⟨_, rfl, rfl⟩ := hO
  obtain ⟨hWm, hdis⟩ := hWm.other hdis hk1 hD1
  refine lv_aload_n hx hb dl_329 rfl (lv_at hl 2 rfl) ?_
  refine lv_aload_n hx hb dl_330 rfl (lv_at hl 4 rfl) ?_
  refine lv_iload hx hb dl_331 (lv_at hl 0 rfl) ?_
  refine lv_iconst (v := 1) hx hb dl_333 (by decide) ?_
  refine lv_iadd hx hb dl_334 ?_
  refine va_sld hx hb hX hbl hbA hS vI1 dl_335 ?_
  refine z_law (rest := [.int r0]) C (x := 178) (idx := 38) (by decide) (by decide +kernel) (List.mem_append_right _ (List.mem_of_getElem? (i := 1381) (by decide +kernel))) dl_336 (by decide +kernel) (by decide +kernel) rfl rfl (by decide +kernel) (by decide) (by decide) q2 w2 hWm hS rfl hbm ⟨_, _, rfl, rfl, rfl⟩ rfl hl.1 (Nat.le_of_ble_eq_true rfl) rfl (fun v ws1 tys1 H1 locs1 hO hpre hW1 hD1 hk1 hS => ?_)
  obtain ⟨_, rfl, rfl⟩ := hO
  refine lv_icmp_eq (tgt := 1570) hx hb dl_339 (by decide) (fun _ => ?_) (fun h => absurd rfl h)
  exact law_exit (by decide) (by decide) C hX hbl hr hlocks hS hl
set_option maxRecDepth 100000 in
set_option maxHeartbeats 4000000 in
theorem law_4 {p : Program} {l : Launch} {e : Env} {s : State} {m : MethodId} {below : List Frame} {meth : Method} {c : Code} {b : Nat} {xs : Nat → Int32} {D : va_G} {wsx wsm : va_W} {tysx tysm : List (ClassId × FieldType)} {bx bm qo : Nat} {H : Heap} {locs : List Loc} {ls : Array Slot} (B : zBe p s m meth c b xs D wsx wsm tysx tysm bx bm qo H locs ls) : W p l e room_1 s m #[Value.ref b] below meth c H locs 103 8850 (lw_Z below #[Value.ref b] s) (F0 m 344 ls []) := by
  obtain ⟨C, hX, hbl, hr, hlocks, hWx, hWm, hdis, hS, hbx, hbm, hl⟩ := B
  obtain ⟨hx, hb, hml, hown, hts, hN⟩ := id C
  have hbA : ¬ zA s b := Nat.not_le.mpr hbl
  obtain ⟨w1, w2, f, r0, G1, G2, q1, q2⟩ := aChk_at zc_hours (xs := [xs ((0 : Int32) + 1).toNatClampNeg, xs ((0 : Int32) + 2).toNatClampNeg]) rfl
  refine lv_aload_n hx hb dl_344 rfl (lv_at hl 3 rfl) ?_
  refine lv_aload_n hx hb dl_345 rfl (lv_at hl 4 rfl) ?_
  refine lv_iload hx hb dl_346 (lv_at hl 0 rfl) ?_
  refine lv_iconst (v := 1) hx hb dl_348 (by decide) ?_
  refine lv_iadd hx hb dl_349 ?_
  refine va_sld hx hb hX hbl hbA hS vI1 dl_350 ?_
  refine lv_aload_n hx hb dl_351 rfl (lv_at hl 4 rfl) ?_
  refine lv_iload hx hb dl_352 (lv_at hl 0 rfl) ?_
  refine lv_iconst (v := 2) hx hb dl_354 (by decide) ?_
  refine lv_iadd hx hb dl_355 ?_
  refine va_sld hx hb hX hbl hbA hS vI2 dl_356 ?_
  refine z_law (rest := []) C (x := 118) (idx := 39) (by decide) (by decide +kernel) (List.mem_append_right _ (List.mem_of_getElem? (i := 694) (by decide +kernel))) dl_357 (by decide +kernel) (by decide +kernel) rfl rfl (by decide +kernel) (by decide) (by decide) q1 w1 hWx hS rfl hbx ⟨_, _, rfl, rfl, ⟨_, _, rfl, rfl, rfl⟩⟩ rfl hl.1 (Nat.le_of_ble_eq_true rfl) rfl (fun v ws1 tys1 H1 locs1 hO hpre hW1 hD1 hk1 hS => ?_)
  obtain ⟨_, rfl, rfl⟩ := hO
  obtain ⟨hWm, hdis⟩ := hWm.other hdis hk1 hD1
  refine lv_aload_n hx hb dl_360 rfl (lv_at hl 2 rfl) ?_
  refine lv_aload_n hx hb dl_361 rfl (lv_at hl 4 rfl) ?_
  refine lv_iload hx hb dl_362 (lv_at hl 0 rfl) ?_
  refine lv_iconst (v := 1) hx hb dl_364 (by decide) ?_
  refine lv_iadd hx hb dl_365 ?_
  refine va_sld hx hb hX hbl hbA hS vI1 dl_366 ?_
  refine lv_aload_n hx hb dl_367 rfl (lv_at hl 4 rfl) ?_
  refine lv_iload hx hb dl_368 (lv_at hl 0 rfl) ?_
  refine lv_iconst (v := 2) hx hb dl_370 (by decide) ?_
  refine lv_iadd hx hb dl_371 ?_
  refine va_sld hx hb hX hbl hbA hS vI2 dl_372 ?_
  refine z_law (rest := [.int r0]) C (x := 180) (idx := 42) (by decide) (by decide +kernel) (List.mem_append_right _ (List.mem_of_getElem? (i := 1385) (by decide +kernel))) dl_373 (by decide +kernel) (by decide +kernel) rfl rfl (by decide +kernel) (by decide) (by decide) q2 w2 hWm hS rfl hbm ⟨_, _, rfl, rfl, ⟨_, _, rfl, rfl, rfl⟩⟩ rfl hl.1 (Nat.le_of_ble_eq_true rfl) rfl (fun v ws1 tys1 H1 locs1 hO hpre hW1 hD1 hk1 hS => ?_)
  obtain ⟨_, rfl, rfl⟩ := hO
  refine lv_icmp_eq (tgt := 1570) hx hb dl_376 (by decide) (fun _ => ?_) (fun h => absurd rfl h)
  exact law_exit (by decide) (by decide) C hX hbl hr hlocks hS hl
set_option maxRecDepth 100000 in
set_option maxHeartbeats 4000000 in
theorem law_6 {p : Program} {l : Launch} {e : Env} {s : State} {m : MethodId} {below : List Frame} {meth : Method} {c : Code} {b : Nat} {xs : Nat → Int32} {D : va_G} {wsx wsm : va_W} {tysx tysm : List (ClassId × FieldType)} {bx bm qo : Nat} {H : Heap} {locs : List Loc} {ls : Array Slot} (B : zBe p s m meth c b xs D wsx wsm tysx tysm bx bm qo H locs ls) : W p l e room_1 s m #[Value.ref b] below meth c H locs 103 8850 (lw_Z below #[Value.ref b] s) (F0 m 449 ls []) := by
  obtain ⟨C, hX, hbl, hr, hlocks, hWx, hWm, hdis, hS, hbx, hbm, hl⟩ := B
  obtain ⟨hx, hb, hml, hown, hts, hN⟩ := id C
  have hbA : ¬ zA s b := Nat.not_le.mpr hbl
  obtain ⟨w1, w2, f, r0, G1, G2, q1, q2⟩ := aChk_at zc_thing (xs := [xs ((0 : Int32) + 1).toNatClampNeg, xs ((0 : Int32) + 2).toNatClampNeg, xs ((0 : Int32) + 3).toNatClampNeg]) rfl
  refine lv_aload_n hx hb dl_449 rfl (lv_at hl 3 rfl) ?_
  refine lv_aload_n hx hb dl_450 rfl (lv_at hl 4 rfl) ?_
  refine lv_iload hx hb dl_451 (lv_at hl 0 rfl) ?_
  refine lv_iconst (v := 1) hx hb dl_453 (by decide) ?_
  refine lv_iadd hx hb dl_454 ?_
  refine va_sld hx hb hX hbl hbA hS vI1 dl_455 ?_
  refine lv_aload_n hx hb dl_456 rfl (lv_at hl 4 rfl) ?_
  refine lv_iload hx hb dl_457 (lv_at hl 0 rfl) ?_
  refine lv_iconst (v := 2) hx hb dl_459 (by decide) ?_
  refine lv_iadd hx hb dl_460 ?_
  refine va_sld hx hb hX hbl hbA hS vI2 dl_461 ?_
  refine lv_aload_n hx hb dl_462 rfl (lv_at hl 4 rfl) ?_
  refine lv_iload hx hb dl_463 (lv_at hl 0 rfl) ?_
  refine lv_iconst (v := 3) hx hb dl_465 (by decide) ?_
  refine lv_iadd hx hb dl_466 ?_
  refine va_sld hx hb hX hbl hbA hS vI3 dl_467 ?_
  refine z_law (rest := []) C (x := 120) (idx := 53) (by decide) (by decide +kernel) (List.mem_append_right _ (List.mem_of_getElem? (i := 700) (by decide +kernel))) dl_468 (by decide +kernel) (by decide +kernel) rfl rfl (by decide +kernel) (by decide) (by decide) q1 w1 hWx hS rfl hbx ⟨_, _, rfl, rfl, ⟨_, _, rfl, rfl, ⟨_, _, rfl, rfl, rfl⟩⟩⟩ rfl hl.1 (Nat.le_of_ble_eq_true rfl) rfl (fun v ws1 tys1 H1 locs1 hO hpre hW1 hD1 hk1 hS => ?_)
  obtain ⟨_, rfl, rfl⟩ := hO
  obtain ⟨hWm, hdis⟩ := hWm.other hdis hk1 hD1
  refine lv_aload_n hx hb dl_471 rfl (lv_at hl 2 rfl) ?_
  refine lv_aload_n hx hb dl_472 rfl (lv_at hl 4 rfl) ?_
  refine lv_iload hx hb dl_473 (lv_at hl 0 rfl) ?_
  refine lv_iconst (v := 1) hx hb dl_475 (by decide) ?_
  refine lv_iadd hx hb dl_476 ?_
  refine va_sld hx hb hX hbl hbA hS vI1 dl_477 ?_
  refine lv_aload_n hx hb dl_478 rfl (lv_at hl 4 rfl) ?_
  refine lv_iload hx hb dl_479 (lv_at hl 0 rfl) ?_
  refine lv_iconst (v := 2) hx hb dl_481 (by decide) ?_
  refine lv_iadd hx hb dl_482 ?_
  refine va_sld hx hb hX hbl hbA hS vI2 dl_483 ?_
  refine lv_aload_n hx hb dl_484 rfl (lv_at hl 4 rfl) ?_
  refine lv_iload hx hb dl_485 (lv_at hl 0 rfl) ?_
  refine lv_iconst (v := 3) hx hb dl_487 (by decide) ?_
  refine lv_iadd hx hb dl_488 ?_
  refine va_sld hx hb hX hbl hbA hS vI3 dl_489 ?_
  refine z_law (rest := [.int r0]) C (x := 209) (idx := 57) (by decide) (by decide +kernel) (List.mem_append_right _ (List.mem_of_getElem? (i := 1485) (by decide +kernel))) dl_490 (by decide +kernel) (by decide +kernel) rfl rfl (by decide +kernel) (by decide) (by decide) q2 w2 hWm hS rfl hbm ⟨_, _, rfl, rfl, ⟨_, _, rfl, rfl, ⟨_, _, rfl, rfl, rfl⟩⟩⟩ rfl hl.1 (Nat.le_of_ble_eq_true rfl) rfl (fun v ws1 tys1 H1 locs1 hO hpre hW1 hD1 hk1 hS => ?_)
  obtain ⟨_, rfl, rfl⟩ := hO
  refine lv_icmp_eq (tgt := 1570) hx hb dl_493 (by decide) (fun _ => ?_) (fun h => absurd rfl h)
  exact law_exit (by decide) (by decide) C hX hbl hr hlocks hS hl
set_option maxRecDepth 100000 in
set_option maxHeartbeats 4000000 in
theorem law_7 {p : Program} {l : Launch} {e : Env} {s : State} {m : MethodId} {below : List Frame} {meth : Method} {c : Code} {b : Nat} {xs : Nat → Int32} {D : va_G} {wsx wsm : va_W} {tysx tysm : List (ClassId × FieldType)} {bx bm qo : Nat} {H : Heap} {locs : List Loc} {ls : Array Slot} (B : zBe p s m meth c b xs D wsx wsm tysx tysm bx bm qo H locs ls) : W p l e room_1 s m #[Value.ref b] below meth c H locs 103 8850 (lw_Z below #[Value.ref b] s) (F0 m 498 ls []) := by
  obtain ⟨C, hX, hbl, hr, hlocks, hWx, hWm, hdis, hS, hbx, hbm, hl⟩ := B
  obtain ⟨hx, hb, hml, hown, hts, hN⟩ := id C
  have hbA : ¬ zA s b := Nat.not_le.mpr hbl
  obtain ⟨w1, w2, f, r0, G1, G2, q1, q2⟩ := aChk_at zc_inside (xs := [xs ((0 : Int32) + 1).toNatClampNeg, xs ((0 : Int32) + 2).toNatClampNeg, xs ((0 : Int32) + 3).toNatClampNeg]) rfl
  refine lv_aload_n hx hb dl_498 rfl (lv_at hl 3 rfl) ?_
  refine lv_aload_n hx hb dl_499 rfl (lv_at hl 4 rfl) ?_
  refine lv_iload hx hb dl_500 (lv_at hl 0 rfl) ?_
  refine lv_iconst (v := 1) hx hb dl_502 (by decide) ?_
  refine lv_iadd hx hb dl_503 ?_
  refine va_sld hx hb hX hbl hbA hS vI1 dl_504 ?_
  refine lv_aload_n hx hb dl_505 rfl (lv_at hl 4 rfl) ?_
  refine lv_iload hx hb dl_506 (lv_at hl 0 rfl) ?_
  refine lv_iconst (v := 2) hx hb dl_508 (by decide) ?_
  refine lv_iadd hx hb dl_509 ?_
  refine va_sld hx hb hX hbl hbA hS vI2 dl_510 ?_
  refine lv_aload_n hx hb dl_511 rfl (lv_at hl 4 rfl) ?_
  refine lv_iload hx hb dl_512 (lv_at hl 0 rfl) ?_
  refine lv_iconst (v := 3) hx hb dl_514 (by decide) ?_
  refine lv_iadd hx hb dl_515 ?_
  refine va_sld hx hb hX hbl hbA hS vI3 dl_516 ?_
  refine z_law (rest := []) C (x := 121) (idx := 58) (by decide) (by decide +kernel) (List.mem_append_right _ (List.mem_of_getElem? (i := 740) (by decide +kernel))) dl_517 (by decide +kernel) (by decide +kernel) rfl rfl (by decide +kernel) (by decide) (by decide) q1 w1 hWx hS rfl hbx ⟨_, _, rfl, rfl, ⟨_, _, rfl, rfl, ⟨_, _, rfl, rfl, rfl⟩⟩⟩ rfl hl.1 (Nat.le_of_ble_eq_true rfl) rfl (fun v ws1 tys1 H1 locs1 hO hpre hW1 hD1 hk1 hS => ?_)
  obtain ⟨_, rfl, rfl⟩ := hO
  obtain ⟨hWm, hdis⟩ := hWm.other hdis hk1 hD1
  refine lv_aload_n hx hb dl_520 rfl (lv_at hl 2 rfl) ?_
  refine lv_aload_n hx hb dl_521 rfl (lv_at hl 4 rfl) ?_
  refine lv_iload hx hb dl_522 (lv_at hl 0 rfl) ?_
  refine lv_iconst (v := 1) hx hb dl_524 (by decide) ?_
  refine lv_iadd hx hb dl_525 ?_
  refine va_sld hx hb hX hbl hbA hS vI1 dl_526 ?_
  refine lv_aload_n hx hb dl_527 rfl (lv_at hl 4 rfl) ?_
  refine lv_iload hx hb dl_528 (lv_at hl 0 rfl) ?_
  refine lv_iconst (v := 2) hx hb dl_530 (by decide) ?_
  refine lv_iadd hx hb dl_531 ?_
  refine va_sld hx hb hX hbl hbA hS vI2 dl_532 ?_
  refine lv_aload_n hx hb dl_533 rfl (lv_at hl 4 rfl) ?_
  refine lv_iload hx hb dl_534 (lv_at hl 0 rfl) ?_
  refine lv_iconst (v := 3) hx hb dl_536 (by decide) ?_
  refine lv_iadd hx hb dl_537 ?_
  refine va_sld hx hb hX hbl hbA hS vI3 dl_538 ?_
  refine z_law (rest := [.int r0]) C (x := 210) (idx := 61) (by decide) (by decide +kernel) (List.mem_append_right _ (List.mem_of_getElem? (i := 1507) (by decide +kernel))) dl_539 (by decide +kernel) (by decide +kernel) rfl rfl (by decide +kernel) (by decide) (by decide) q2 w2 hWm hS rfl hbm ⟨_, _, rfl, rfl, ⟨_, _, rfl, rfl, ⟨_, _, rfl, rfl, rfl⟩⟩⟩ rfl hl.1 (Nat.le_of_ble_eq_true rfl) rfl (fun v ws1 tys1 H1 locs1 hO hpre hW1 hD1 hk1 hS => ?_)
  obtain ⟨_, rfl, rfl⟩ := hO
  refine lv_icmp_eq (tgt := 1570) hx hb dl_542 (by decide) (fun _ => ?_) (fun h => absurd rfl h)
  exact law_exit (by decide) (by decide) C hX hbl hr hlocks hS hl
set_option maxRecDepth 100000 in
set_option maxHeartbeats 4000000 in
theorem law_8 {p : Program} {l : Launch} {e : Env} {s : State} {m : MethodId} {below : List Frame} {meth : Method} {c : Code} {b : Nat} {xs : Nat → Int32} {D : va_G} {wsx wsm : va_W} {tysx tysm : List (ClassId × FieldType)} {bx bm qo : Nat} {H : Heap} {locs : List Loc} {ls : Array Slot} (B : zBe p s m meth c b xs D wsx wsm tysx tysm bx bm qo H locs ls) : W p l e room_1 s m #[Value.ref b] below meth c H locs 103 8850 (lw_Z below #[Value.ref b] s) (F0 m 547 ls []) := by
  obtain ⟨C, hX, hbl, hr, hlocks, hWx, hWm, hdis, hS, hbx, hbm, hl⟩ := B
  obtain ⟨hx, hb, hml, hown, hts, hN⟩ := id C
  have hbA : ¬ zA s b := Nat.not_le.mpr hbl
  obtain ⟨w1, w2, f, r0, G1, G2, q1, q2⟩ := aChk_at zc_there (xs := [xs ((0 : Int32) + 1).toNatClampNeg, xs ((0 : Int32) + 2).toNatClampNeg, xs ((0 : Int32) + 3).toNatClampNeg]) rfl
  refine lv_aload_n hx hb dl_547 rfl (lv_at hl 3 rfl) ?_
  refine lv_aload_n hx hb dl_548 rfl (lv_at hl 4 rfl) ?_
  refine lv_iload hx hb dl_549 (lv_at hl 0 rfl) ?_
  refine lv_iconst (v := 1) hx hb dl_551 (by decide) ?_
  refine lv_iadd hx hb dl_552 ?_
  refine va_sld hx hb hX hbl hbA hS vI1 dl_553 ?_
  refine lv_aload_n hx hb dl_554 rfl (lv_at hl 4 rfl) ?_
  refine lv_iload hx hb dl_555 (lv_at hl 0 rfl) ?_
  refine lv_iconst (v := 2) hx hb dl_557 (by decide) ?_
  refine lv_iadd hx hb dl_558 ?_
  refine va_sld hx hb hX hbl hbA hS vI2 dl_559 ?_
  refine lv_aload_n hx hb dl_560 rfl (lv_at hl 4 rfl) ?_
  refine lv_iload hx hb dl_561 (lv_at hl 0 rfl) ?_
  refine lv_iconst (v := 3) hx hb dl_563 (by decide) ?_
  refine lv_iadd hx hb dl_564 ?_
  refine va_sld hx hb hX hbl hbA hS vI3 dl_565 ?_
  refine z_law (rest := []) C (x := 122) (idx := 62) (by decide) (by decide +kernel) (List.mem_append_right _ (List.mem_of_getElem? (i := 748) (by decide +kernel))) dl_566 (by decide +kernel) (by decide +kernel) rfl rfl (by decide +kernel) (by decide) (by decide) q1 w1 hWx hS rfl hbx ⟨_, _, rfl, rfl, ⟨_, _, rfl, rfl, ⟨_, _, rfl, rfl, rfl⟩⟩⟩ rfl hl.1 (Nat.le_of_ble_eq_true rfl) rfl (fun v ws1 tys1 H1 locs1 hO hpre hW1 hD1 hk1 hS => ?_)
  obtain ⟨_, rfl, rfl⟩ := hO
  obtain ⟨hWm, hdis⟩ := hWm.other hdis hk1 hD1
  refine lv_aload_n hx hb dl_569 rfl (lv_at hl 2 rfl) ?_
  refine lv_aload_n hx hb dl_570 rfl (lv_at hl 4 rfl) ?_
  refine lv_iload hx hb dl_571 (lv_at hl 0 rfl) ?_
  refine lv_iconst (v := 1) hx hb dl_573 (by decide) ?_
  refine lv_iadd hx hb dl_574 ?_
  refine va_sld hx hb hX hbl hbA hS vI1 dl_575 ?_
  refine lv_aload_n hx hb dl_576 rfl (lv_at hl 4 rfl) ?_
  refine lv_iload hx hb dl_577 (lv_at hl 0 rfl) ?_
  refine lv_iconst (v := 2) hx hb dl_579 (by decide) ?_
  refine lv_iadd hx hb dl_580 ?_
  refine va_sld hx hb hX hbl hbA hS vI2 dl_581 ?_
  refine lv_aload_n hx hb dl_582 rfl (lv_at hl 4 rfl) ?_
  refine lv_iload hx hb dl_583 (lv_at hl 0 rfl) ?_
  refine lv_iconst (v := 3) hx hb dl_585 (by decide) ?_
  refine lv_iadd hx hb dl_586 ?_
  refine va_sld hx hb hX hbl hbA hS vI3 dl_587 ?_
  refine z_law (rest := [.int r0]) C (x := 212) (idx := 65) (by decide) (by decide +kernel) (List.mem_append_right _ (List.mem_of_getElem? (i := 1511) (by decide +kernel))) dl_588 (by decide +kernel) (by decide +kernel) rfl rfl (by decide +kernel) (by decide) (by decide) q2 w2 hWm hS rfl hbm ⟨_, _, rfl, rfl, ⟨_, _, rfl, rfl, ⟨_, _, rfl, rfl, rfl⟩⟩⟩ rfl hl.1 (Nat.le_of_ble_eq_true rfl) rfl (fun v ws1 tys1 H1 locs1 hO hpre hW1 hD1 hk1 hS => ?_)
  obtain ⟨_, rfl, rfl⟩ := hO
  refine lv_icmp_eq (tgt := 1570) hx hb dl_591 (by decide) (fun _ => ?_) (fun h => absurd rfl h)
  exact law_exit (by decide) (by decide) C hX hbl hr hlocks hS hl
set_option maxRecDepth 100000 in
set_option maxHeartbeats 4000000 in
theorem law_9 {p : Program} {l : Launch} {e : Env} {s : State} {m : MethodId} {below : List Frame} {meth : Method} {c : Code} {b : Nat} {xs : Nat → Int32} {D : va_G} {wsx wsm : va_W} {tysx tysm : List (ClassId × FieldType)} {bx bm qo : Nat} {H : Heap} {locs : List Loc} {ls : Array Slot} (B : zBe p s m meth c b xs D wsx wsm tysx tysm bx bm qo H locs ls) : W p l e room_1 s m #[Value.ref b] below meth c H locs 103 8850 (lw_Z below #[Value.ref b] s) (F0 m 596 ls []) := by
  obtain ⟨C, hX, hbl, hr, hlocks, hWx, hWm, hdis, hS, hbx, hbm, hl⟩ := B
  obtain ⟨hx, hb, hml, hown, hts, hN⟩ := id C
  have hbA : ¬ zA s b := Nat.not_le.mpr hbl
  obtain ⟨w1, w2, f, r0, G1, G2, q1, q2⟩ := aChk_at zc_many (xs := [xs ((0 : Int32) + 1).toNatClampNeg, xs ((0 : Int32) + 2).toNatClampNeg]) rfl
  refine lv_aload_n hx hb dl_596 rfl (lv_at hl 3 rfl) ?_
  refine lv_aload_n hx hb dl_597 rfl (lv_at hl 4 rfl) ?_
  refine lv_iload hx hb dl_598 (lv_at hl 0 rfl) ?_
  refine lv_iconst (v := 1) hx hb dl_600 (by decide) ?_
  refine lv_iadd hx hb dl_601 ?_
  refine va_sld hx hb hX hbl hbA hS vI1 dl_602 ?_
  refine lv_aload_n hx hb dl_603 rfl (lv_at hl 4 rfl) ?_
  refine lv_iload hx hb dl_604 (lv_at hl 0 rfl) ?_
  refine lv_iconst (v := 2) hx hb dl_606 (by decide) ?_
  refine lv_iadd hx hb dl_607 ?_
  refine va_sld hx hb hX hbl hbA hS vI2 dl_608 ?_
  refine z_law (rest := []) C (x := 123) (idx := 66) (by decide) (by decide +kernel) (List.mem_append_right _ (List.mem_of_getElem? (i := 764) (by decide +kernel))) dl_609 (by decide +kernel) (by decide +kernel) rfl rfl (by decide +kernel) (by decide) (by decide) q1 w1 hWx hS rfl hbx ⟨_, _, rfl, rfl, ⟨_, _, rfl, rfl, rfl⟩⟩ rfl hl.1 (Nat.le_of_ble_eq_true rfl) rfl (fun v ws1 tys1 H1 locs1 hO hpre hW1 hD1 hk1 hS => ?_)
  obtain ⟨_, rfl, rfl⟩ := hO
  obtain ⟨hWm, hdis⟩ := hWm.other hdis hk1 hD1
  refine lv_aload_n hx hb dl_612 rfl (lv_at hl 2 rfl) ?_
  refine lv_aload_n hx hb dl_613 rfl (lv_at hl 4 rfl) ?_
  refine lv_iload hx hb dl_614 (lv_at hl 0 rfl) ?_
  refine lv_iconst (v := 1) hx hb dl_616 (by decide) ?_
  refine lv_iadd hx hb dl_617 ?_
  refine va_sld hx hb hX hbl hbA hS vI1 dl_618 ?_
  refine lv_aload_n hx hb dl_619 rfl (lv_at hl 4 rfl) ?_
  refine lv_iload hx hb dl_620 (lv_at hl 0 rfl) ?_
  refine lv_iconst (v := 2) hx hb dl_622 (by decide) ?_
  refine lv_iadd hx hb dl_623 ?_
  refine va_sld hx hb hX hbl hbA hS vI2 dl_624 ?_
  refine z_law (rest := [.int r0]) C (x := 214) (idx := 69) (by decide) (by decide +kernel) (List.mem_append_right _ (List.mem_of_getElem? (i := 1515) (by decide +kernel))) dl_625 (by decide +kernel) (by decide +kernel) rfl rfl (by decide +kernel) (by decide) (by decide) q2 w2 hWm hS rfl hbm ⟨_, _, rfl, rfl, ⟨_, _, rfl, rfl, rfl⟩⟩ rfl hl.1 (Nat.le_of_ble_eq_true rfl) rfl (fun v ws1 tys1 H1 locs1 hO hpre hW1 hD1 hk1 hS => ?_)
  obtain ⟨_, rfl, rfl⟩ := hO
  refine lv_icmp_eq (tgt := 1570) hx hb dl_628 (by decide) (fun _ => ?_) (fun h => absurd rfl h)
  exact law_exit (by decide) (by decide) C hX hbl hr hlocks hS hl
set_option maxRecDepth 100000 in
set_option maxHeartbeats 4000000 in
theorem law_10 {p : Program} {l : Launch} {e : Env} {s : State} {m : MethodId} {below : List Frame} {meth : Method} {c : Code} {b : Nat} {xs : Nat → Int32} {D : va_G} {wsx wsm : va_W} {tysx tysm : List (ClassId × FieldType)} {bx bm qo : Nat} {H : Heap} {locs : List Loc} {ls : Array Slot} (B : zBe p s m meth c b xs D wsx wsm tysx tysm bx bm qo H locs ls) : W p l e room_1 s m #[Value.ref b] below meth c H locs 103 8850 (lw_Z below #[Value.ref b] s) (F0 m 633 ls []) := by
  obtain ⟨C, hX, hbl, hr, hlocks, hWx, hWm, hdis, hS, hbx, hbm, hl⟩ := B
  obtain ⟨hx, hb, hml, hown, hts, hN⟩ := id C
  have hbA : ¬ zA s b := Nat.not_le.mpr hbl
  obtain ⟨w1, w2, f, r0, G1, G2, q1, q2⟩ := aChk_at zc_trail (xs := [xs ((0 : Int32) + 1).toNatClampNeg, xs ((0 : Int32) + 2).toNatClampNeg, xs ((0 : Int32) + 3).toNatClampNeg]) rfl
  refine lv_aload_n hx hb dl_633 rfl (lv_at hl 3 rfl) ?_
  refine lv_aload_n hx hb dl_634 rfl (lv_at hl 4 rfl) ?_
  refine lv_iload hx hb dl_635 (lv_at hl 0 rfl) ?_
  refine lv_iconst (v := 1) hx hb dl_637 (by decide) ?_
  refine lv_iadd hx hb dl_638 ?_
  refine va_sld hx hb hX hbl hbA hS vI1 dl_639 ?_
  refine lv_aload_n hx hb dl_640 rfl (lv_at hl 4 rfl) ?_
  refine lv_iload hx hb dl_641 (lv_at hl 0 rfl) ?_
  refine lv_iconst (v := 2) hx hb dl_643 (by decide) ?_
  refine lv_iadd hx hb dl_644 ?_
  refine va_sld hx hb hX hbl hbA hS vI2 dl_645 ?_
  refine lv_aload_n hx hb dl_646 rfl (lv_at hl 4 rfl) ?_
  refine lv_iload hx hb dl_647 (lv_at hl 0 rfl) ?_
  refine lv_iconst (v := 3) hx hb dl_649 (by decide) ?_
  refine lv_iadd hx hb dl_650 ?_
  refine va_sld hx hb hX hbl hbA hS vI3 dl_651 ?_
  refine z_law (rest := []) C (x := 124) (idx := 70) (by decide) (by decide +kernel) (List.mem_append_right _ (List.mem_of_getElem? (i := 776) (by decide +kernel))) dl_652 (by decide +kernel) (by decide +kernel) rfl rfl (by decide +kernel) (by decide) (by decide) q1 w1 hWx hS rfl hbx ⟨_, _, rfl, rfl, ⟨_, _, rfl, rfl, ⟨_, _, rfl, rfl, rfl⟩⟩⟩ rfl hl.1 (Nat.le_of_ble_eq_true rfl) rfl (fun v ws1 tys1 H1 locs1 hO hpre hW1 hD1 hk1 hS => ?_)
  obtain ⟨_, rfl, rfl⟩ := hO
  obtain ⟨hWm, hdis⟩ := hWm.other hdis hk1 hD1
  refine lv_aload_n hx hb dl_655 rfl (lv_at hl 2 rfl) ?_
  refine lv_aload_n hx hb dl_656 rfl (lv_at hl 4 rfl) ?_
  refine lv_iload hx hb dl_657 (lv_at hl 0 rfl) ?_
  refine lv_iconst (v := 1) hx hb dl_659 (by decide) ?_
  refine lv_iadd hx hb dl_660 ?_
  refine va_sld hx hb hX hbl hbA hS vI1 dl_661 ?_
  refine lv_aload_n hx hb dl_662 rfl (lv_at hl 4 rfl) ?_
  refine lv_iload hx hb dl_663 (lv_at hl 0 rfl) ?_
  refine lv_iconst (v := 2) hx hb dl_665 (by decide) ?_
  refine lv_iadd hx hb dl_666 ?_
  refine va_sld hx hb hX hbl hbA hS vI2 dl_667 ?_
  refine lv_aload_n hx hb dl_668 rfl (lv_at hl 4 rfl) ?_
  refine lv_iload hx hb dl_669 (lv_at hl 0 rfl) ?_
  refine lv_iconst (v := 3) hx hb dl_671 (by decide) ?_
  refine lv_iadd hx hb dl_672 ?_
  refine va_sld hx hb hX hbl hbA hS vI3 dl_673 ?_
  refine z_law (rest := [.int r0]) C (x := 216) (idx := 73) (by decide) (by decide +kernel) (List.mem_append_right _ (List.mem_of_getElem? (i := 1523) (by decide +kernel))) dl_674 (by decide +kernel) (by decide +kernel) rfl rfl (by decide +kernel) (by decide) (by decide) q2 w2 hWm hS rfl hbm ⟨_, _, rfl, rfl, ⟨_, _, rfl, rfl, ⟨_, _, rfl, rfl, rfl⟩⟩⟩ rfl hl.1 (Nat.le_of_ble_eq_true rfl) rfl (fun v ws1 tys1 H1 locs1 hO hpre hW1 hD1 hk1 hS => ?_)
  obtain ⟨_, rfl, rfl⟩ := hO
  refine lv_icmp_eq (tgt := 1570) hx hb dl_677 (by decide) (fun _ => ?_) (fun h => absurd rfl h)
  exact law_exit (by decide) (by decide) C hX hbl hr hlocks hS hl
set_option maxRecDepth 100000 in
set_option maxHeartbeats 4000000 in
theorem law_11 {p : Program} {l : Launch} {e : Env} {s : State} {m : MethodId} {below : List Frame} {meth : Method} {c : Code} {b : Nat} {xs : Nat → Int32} {D : va_G} {wsx wsm : va_W} {tysx tysm : List (ClassId × FieldType)} {bx bm qo : Nat} {H : Heap} {locs : List Loc} {ls : Array Slot} (B : zBe p s m meth c b xs D wsx wsm tysx tysm bx bm qo H locs ls) : W p l e room_1 s m #[Value.ref b] below meth c H locs 103 8850 (lw_Z below #[Value.ref b] s) (F0 m 682 ls []) := by
  obtain ⟨C, hX, hbl, hr, hlocks, hWx, hWm, hdis, hS, hbx, hbm, hl⟩ := B
  obtain ⟨hx, hb, hml, hown, hts, hN⟩ := id C
  have hbA : ¬ zA s b := Nat.not_le.mpr hbl
  obtain ⟨w1, w2, f, r0, G1, G2, q1, q2⟩ := aChk_at zc_known (xs := [xs ((0 : Int32) + 1).toNatClampNeg, xs ((0 : Int32) + 2).toNatClampNeg]) rfl
  refine lv_aload_n hx hb dl_682 rfl (lv_at hl 3 rfl) ?_
  refine lv_aload_n hx hb dl_683 rfl (lv_at hl 4 rfl) ?_
  refine lv_iload hx hb dl_684 (lv_at hl 0 rfl) ?_
  refine lv_iconst (v := 1) hx hb dl_686 (by decide) ?_
  refine lv_iadd hx hb dl_687 ?_
  refine va_sld hx hb hX hbl hbA hS vI1 dl_688 ?_
  refine lv_aload_n hx hb dl_689 rfl (lv_at hl 4 rfl) ?_
  refine lv_iload hx hb dl_690 (lv_at hl 0 rfl) ?_
  refine lv_iconst (v := 2) hx hb dl_692 (by decide) ?_
  refine lv_iadd hx hb dl_693 ?_
  refine va_sld hx hb hX hbl hbA hS vI2 dl_694 ?_
  refine z_law (rest := []) C (x := 125) (idx := 74) (by decide) (by decide +kernel) (List.mem_append_right _ (List.mem_of_getElem? (i := 785) (by decide +kernel))) dl_695 (by decide +kernel) (by decide +kernel) rfl rfl (by decide +kernel) (by decide) (by decide) q1 w1 hWx hS rfl hbx ⟨_, _, rfl, rfl, ⟨_, _, rfl, rfl, rfl⟩⟩ rfl hl.1 (Nat.le_of_ble_eq_true rfl) rfl (fun v ws1 tys1 H1 locs1 hO hpre hW1 hD1 hk1 hS => ?_)
  obtain ⟨_, rfl, rfl⟩ := hO
  obtain ⟨hWm, hdis⟩ := hWm.other hdis hk1 hD1
  refine lv_aload_n hx hb dl_698 rfl (lv_at hl 2 rfl) ?_
  refine lv_aload_n hx hb dl_699 rfl (lv_at hl 4 rfl) ?_
  refine lv_iload hx hb dl_700 (lv_at hl 0 rfl) ?_
  refine lv_iconst (v := 1) hx hb dl_702 (by decide) ?_
  refine lv_iadd hx hb dl_703 ?_
  refine va_sld hx hb hX hbl hbA hS vI1 dl_704 ?_
  refine lv_aload_n hx hb dl_705 rfl (lv_at hl 4 rfl) ?_
  refine lv_iload hx hb dl_706 (lv_at hl 0 rfl) ?_
  refine lv_iconst (v := 2) hx hb dl_708 (by decide) ?_
  refine lv_iadd hx hb dl_709 ?_
  refine va_sld hx hb hX hbl hbA hS vI2 dl_710 ?_
  refine z_law (rest := [.int r0]) C (x := 221) (idx := 77) (by decide) (by decide +kernel) (List.mem_append_right _ (List.mem_of_getElem? (i := 1543) (by decide +kernel))) dl_711 (by decide +kernel) (by decide +kernel) rfl rfl (by decide +kernel) (by decide) (by decide) q2 w2 hWm hS rfl hbm ⟨_, _, rfl, rfl, ⟨_, _, rfl, rfl, rfl⟩⟩ rfl hl.1 (Nat.le_of_ble_eq_true rfl) rfl (fun v ws1 tys1 H1 locs1 hO hpre hW1 hD1 hk1 hS => ?_)
  obtain ⟨_, rfl, rfl⟩ := hO
  refine lv_icmp_eq (tgt := 1570) hx hb dl_714 (by decide) (fun _ => ?_) (fun h => absurd rfl h)
  exact law_exit (by decide) (by decide) C hX hbl hr hlocks hS hl
set_option maxRecDepth 100000 in
set_option maxHeartbeats 4000000 in
theorem law_12 {p : Program} {l : Launch} {e : Env} {s : State} {m : MethodId} {below : List Frame} {meth : Method} {c : Code} {b : Nat} {xs : Nat → Int32} {D : va_G} {wsx wsm : va_W} {tysx tysm : List (ClassId × FieldType)} {bx bm qo : Nat} {H : Heap} {locs : List Loc} {ls : Array Slot} (B : zBe p s m meth c b xs D wsx wsm tysx tysm bx bm qo H locs ls) : W p l e room_1 s m #[Value.ref b] below meth c H locs 103 8850 (lw_Z below #[Value.ref b] s) (F0 m 719 ls []) := by
  obtain ⟨C, hX, hbl, hr, hlocks, hWx, hWm, hdis, hS, hbx, hbm, hl⟩ := B
  obtain ⟨hx, hb, hml, hown, hts, hN⟩ := id C
  have hbA : ¬ zA s b := Nat.not_le.mpr hbl
  obtain ⟨w1, w2, f, r0, G1, G2, q1, q2⟩ := aChk_at zc_changed (xs := [xs ((0 : Int32) + 1).toNatClampNeg]) rfl
  refine lv_aload_n hx hb dl_719 rfl (lv_at hl 3 rfl) ?_
  refine lv_aload_n hx hb dl_720 rfl (lv_at hl 4 rfl) ?_
  refine lv_iload hx hb dl_721 (lv_at hl 0 rfl) ?_
  refine lv_iconst (v := 1) hx hb dl_723 (by decide) ?_
  refine lv_iadd hx hb dl_724 ?_
  refine va_sld hx hb hX hbl hbA hS vI1 dl_725 ?_
  refine z_law (rest := []) C (x := 126) (idx := 78) (by decide) (by decide +kernel) (List.mem_append_right _ (List.mem_of_getElem? (i := 794) (by decide +kernel))) dl_726 (by decide +kernel) (by decide +kernel) rfl rfl (by decide +kernel) (by decide) (by decide) q1 w1 hWx hS rfl hbx ⟨_, _, rfl, rfl, rfl⟩ rfl hl.1 (Nat.le_of_ble_eq_true rfl) rfl (fun v ws1 tys1 H1 locs1 hO hpre hW1 hD1 hk1 hS => ?_)
  obtain ⟨_, rfl, rfl⟩ := hO
  obtain ⟨hWm, hdis⟩ := hWm.other hdis hk1 hD1
  refine lv_aload_n hx hb dl_729 rfl (lv_at hl 2 rfl) ?_
  refine lv_aload_n hx hb dl_730 rfl (lv_at hl 4 rfl) ?_
  refine lv_iload hx hb dl_731 (lv_at hl 0 rfl) ?_
  refine lv_iconst (v := 1) hx hb dl_733 (by decide) ?_
  refine lv_iadd hx hb dl_734 ?_
  refine va_sld hx hb hX hbl hbA hS vI1 dl_735 ?_
  refine z_law (rest := [.int r0]) C (x := 222) (idx := 81) (by decide) (by decide +kernel) (List.mem_append_right _ (List.mem_of_getElem? (i := 1551) (by decide +kernel))) dl_736 (by decide +kernel) (by decide +kernel) rfl rfl (by decide +kernel) (by decide) (by decide) q2 w2 hWm hS rfl hbm ⟨_, _, rfl, rfl, rfl⟩ rfl hl.1 (Nat.le_of_ble_eq_true rfl) rfl (fun v ws1 tys1 H1 locs1 hO hpre hW1 hD1 hk1 hS => ?_)
  obtain ⟨_, rfl, rfl⟩ := hO
  refine lv_icmp_eq (tgt := 1570) hx hb dl_739 (by decide) (fun _ => ?_) (fun h => absurd rfl h)
  exact law_exit (by decide) (by decide) C hX hbl hr hlocks hS hl
set_option maxRecDepth 100000 in
set_option maxHeartbeats 4000000 in
theorem law_13 {p : Program} {l : Launch} {e : Env} {s : State} {m : MethodId} {below : List Frame} {meth : Method} {c : Code} {b : Nat} {xs : Nat → Int32} {D : va_G} {wsx wsm : va_W} {tysx tysm : List (ClassId × FieldType)} {bx bm qo : Nat} {H : Heap} {locs : List Loc} {ls : Array Slot} (B : zBe p s m meth c b xs D wsx wsm tysx tysm bx bm qo H locs ls) : W p l e room_1 s m #[Value.ref b] below meth c H locs 103 8850 (lw_Z below #[Value.ref b] s) (F0 m 744 ls []) := by
  obtain ⟨C, hX, hbl, hr, hlocks, hWx, hWm, hdis, hS, hbx, hbm, hl⟩ := B
  obtain ⟨hx, hb, hml, hown, hts, hN⟩ := id C
  have hbA : ¬ zA s b := Nat.not_le.mpr hbl
  obtain ⟨w1, w2, f, r0, G1, G2, q1, q2⟩ := aChk_at zc_without (xs := [xs ((0 : Int32) + 1).toNatClampNeg, xs ((0 : Int32) + 2).toNatClampNeg]) rfl
  refine lv_aload_n hx hb dl_744 rfl (lv_at hl 3 rfl) ?_
  refine lv_aload_n hx hb dl_745 rfl (lv_at hl 4 rfl) ?_
  refine lv_iload hx hb dl_746 (lv_at hl 0 rfl) ?_
  refine lv_iconst (v := 1) hx hb dl_748 (by decide) ?_
  refine lv_iadd hx hb dl_749 ?_
  refine va_sld hx hb hX hbl hbA hS vI1 dl_750 ?_
  refine lv_aload_n hx hb dl_751 rfl (lv_at hl 4 rfl) ?_
  refine lv_iload hx hb dl_752 (lv_at hl 0 rfl) ?_
  refine lv_iconst (v := 2) hx hb dl_754 (by decide) ?_
  refine lv_iadd hx hb dl_755 ?_
  refine va_sld hx hb hX hbl hbA hS vI2 dl_756 ?_
  refine z_law (rest := []) C (x := 127) (idx := 82) (by decide) (by decide +kernel) (List.mem_append_right _ (List.mem_of_getElem? (i := 812) (by decide +kernel))) dl_757 (by decide +kernel) (by decide +kernel) rfl rfl (by decide +kernel) (by decide) (by decide) q1 w1 hWx hS rfl hbx ⟨_, _, rfl, rfl, ⟨_, _, rfl, rfl, rfl⟩⟩ rfl hl.1 (Nat.le_of_ble_eq_true rfl) rfl (fun v ws1 tys1 H1 locs1 hO hpre hW1 hD1 hk1 hS => ?_)
  obtain ⟨_, rfl, rfl⟩ := hO
  obtain ⟨hWm, hdis⟩ := hWm.other hdis hk1 hD1
  refine lv_aload_n hx hb dl_760 rfl (lv_at hl 2 rfl) ?_
  refine lv_aload_n hx hb dl_761 rfl (lv_at hl 4 rfl) ?_
  refine lv_iload hx hb dl_762 (lv_at hl 0 rfl) ?_
  refine lv_iconst (v := 1) hx hb dl_764 (by decide) ?_
  refine lv_iadd hx hb dl_765 ?_
  refine va_sld hx hb hX hbl hbA hS vI1 dl_766 ?_
  refine lv_aload_n hx hb dl_767 rfl (lv_at hl 4 rfl) ?_
  refine lv_iload hx hb dl_768 (lv_at hl 0 rfl) ?_
  refine lv_iconst (v := 2) hx hb dl_770 (by decide) ?_
  refine lv_iadd hx hb dl_771 ?_
  refine va_sld hx hb hX hbl hbA hS vI2 dl_772 ?_
  refine z_law (rest := [.int r0]) C (x := 224) (idx := 85) (by decide) (by decide +kernel) (List.mem_append_right _ (List.mem_of_getElem? (i := 1555) (by decide +kernel))) dl_773 (by decide +kernel) (by decide +kernel) rfl rfl (by decide +kernel) (by decide) (by decide) q2 w2 hWm hS rfl hbm ⟨_, _, rfl, rfl, ⟨_, _, rfl, rfl, rfl⟩⟩ rfl hl.1 (Nat.le_of_ble_eq_true rfl) rfl (fun v ws1 tys1 H1 locs1 hO hpre hW1 hD1 hk1 hS => ?_)
  obtain ⟨_, rfl, rfl⟩ := hO
  refine lv_icmp_eq (tgt := 1570) hx hb dl_776 (by decide) (fun _ => ?_) (fun h => absurd rfl h)
  exact law_exit (by decide) (by decide) C hX hbl hr hlocks hS hl
set_option maxRecDepth 100000 in
set_option maxHeartbeats 4000000 in
theorem law_14 {p : Program} {l : Launch} {e : Env} {s : State} {m : MethodId} {below : List Frame} {meth : Method} {c : Code} {b : Nat} {xs : Nat → Int32} {D : va_G} {wsx wsm : va_W} {tysx tysm : List (ClassId × FieldType)} {bx bm qo : Nat} {H : Heap} {locs : List Loc} {ls : Array Slot} (B : zBe p s m meth c b xs D wsx wsm tysx tysm bx bm qo H locs ls) : W p l e room_1 s m #[Value.ref b] below meth c H locs 103 8850 (lw_Z below #[Value.ref b] s) (F0 m 781 ls []) := by
  obtain ⟨C, hX, hbl, hr, hlocks, hWx, hWm, hdis, hS, hbx, hbm, hl⟩ := B
  obtain ⟨hx, hb, hml, hown, hts, hN⟩ := id C
  have hbA : ¬ zA s b := Nat.not_le.mpr hbl
  obtain ⟨w1, w2, f, r0, G1, G2, q1, q2⟩ := aChk_at zc_refused (xs := [xs ((0 : Int32) + 1).toNatClampNeg]) rfl
  refine lv_aload_n hx hb dl_781 rfl (lv_at hl 3 rfl) ?_
  refine lv_aload_n hx hb dl_782 rfl (lv_at hl 4 rfl) ?_
  refine lv_iload hx hb dl_783 (lv_at hl 0 rfl) ?_
  refine lv_iconst (v := 1) hx hb dl_785 (by decide) ?_
  refine lv_iadd hx hb dl_786 ?_
  refine va_sld hx hb hX hbl hbA hS vI1 dl_787 ?_
  refine z_law (rest := []) C (x := 128) (idx := 86) (by decide) (by decide +kernel) (List.mem_append_right _ (List.mem_of_getElem? (i := 827) (by decide +kernel))) dl_788 (by decide +kernel) (by decide +kernel) rfl rfl (by decide +kernel) (by decide) (by decide) q1 w1 hWx hS rfl hbx ⟨_, _, rfl, rfl, rfl⟩ rfl hl.1 (Nat.le_of_ble_eq_true rfl) rfl (fun v ws1 tys1 H1 locs1 hO hpre hW1 hD1 hk1 hS => ?_)
  obtain ⟨_, rfl, rfl⟩ := hO
  obtain ⟨hWm, hdis⟩ := hWm.other hdis hk1 hD1
  refine lv_aload_n hx hb dl_791 rfl (lv_at hl 2 rfl) ?_
  refine lv_aload_n hx hb dl_792 rfl (lv_at hl 4 rfl) ?_
  refine lv_iload hx hb dl_793 (lv_at hl 0 rfl) ?_
  refine lv_iconst (v := 1) hx hb dl_795 (by decide) ?_
  refine lv_iadd hx hb dl_796 ?_
  refine va_sld hx hb hX hbl hbA hS vI1 dl_797 ?_
  refine z_law (rest := [.int r0]) C (x := 226) (idx := 89) (by decide) (by decide +kernel) (List.mem_append_right _ (List.mem_of_getElem? (i := 1563) (by decide +kernel))) dl_798 (by decide +kernel) (by decide +kernel) rfl rfl (by decide +kernel) (by decide) (by decide) q2 w2 hWm hS rfl hbm ⟨_, _, rfl, rfl, rfl⟩ rfl hl.1 (Nat.le_of_ble_eq_true rfl) rfl (fun v ws1 tys1 H1 locs1 hO hpre hW1 hD1 hk1 hS => ?_)
  obtain ⟨_, rfl, rfl⟩ := hO
  refine lv_icmp_eq (tgt := 1570) hx hb dl_801 (by decide) (fun _ => ?_) (fun h => absurd rfl h)
  exact law_exit (by decide) (by decide) C hX hbl hr hlocks hS hl
set_option maxRecDepth 100000 in
set_option maxHeartbeats 4000000 in
theorem law_15 {p : Program} {l : Launch} {e : Env} {s : State} {m : MethodId} {below : List Frame} {meth : Method} {c : Code} {b : Nat} {xs : Nat → Int32} {D : va_G} {wsx wsm : va_W} {tysx tysm : List (ClassId × FieldType)} {bx bm qo : Nat} {H : Heap} {locs : List Loc} {ls : Array Slot} (B : zBe p s m meth c b xs D wsx wsm tysx tysm bx bm qo H locs ls) : W p l e room_1 s m #[Value.ref b] below meth c H locs 103 8850 (lw_Z below #[Value.ref b] s) (F0 m 806 ls []) := by
  obtain ⟨C, hX, hbl, hr, hlocks, hWx, hWm, hdis, hS, hbx, hbm, hl⟩ := B
  obtain ⟨hx, hb, hml, hown, hts, hN⟩ := id C
  have hbA : ¬ zA s b := Nat.not_le.mpr hbl
  obtain ⟨w1, w2, f, r0, G1, G2, q1, q2⟩ := aChk_at zc_blamed (xs := [xs ((0 : Int32) + 1).toNatClampNeg]) rfl
  refine lv_aload_n hx hb dl_806 rfl (lv_at hl 3 rfl) ?_
  refine lv_aload_n hx hb dl_807 rfl (lv_at hl 4 rfl) ?_
  refine lv_iload hx hb dl_808 (lv_at hl 0 rfl) ?_
  refine lv_iconst (v := 1) hx hb dl_810 (by decide) ?_
  refine lv_iadd hx hb dl_811 ?_
  refine va_sld hx hb hX hbl hbA hS vI1 dl_812 ?_
  refine z_law (rest := []) C (x := 129) (idx := 90) (by decide) (by decide +kernel) (List.mem_append_right _ (List.mem_of_getElem? (i := 835) (by decide +kernel))) dl_813 (by decide +kernel) (by decide +kernel) rfl rfl (by decide +kernel) (by decide) (by decide) q1 w1 hWx hS rfl hbx ⟨_, _, rfl, rfl, rfl⟩ rfl hl.1 (Nat.le_of_ble_eq_true rfl) rfl (fun v ws1 tys1 H1 locs1 hO hpre hW1 hD1 hk1 hS => ?_)
  obtain ⟨_, rfl, rfl⟩ := hO
  obtain ⟨hWm, hdis⟩ := hWm.other hdis hk1 hD1
  refine lv_aload_n hx hb dl_816 rfl (lv_at hl 2 rfl) ?_
  refine lv_aload_n hx hb dl_817 rfl (lv_at hl 4 rfl) ?_
  refine lv_iload hx hb dl_818 (lv_at hl 0 rfl) ?_
  refine lv_iconst (v := 1) hx hb dl_820 (by decide) ?_
  refine lv_iadd hx hb dl_821 ?_
  refine va_sld hx hb hX hbl hbA hS vI1 dl_822 ?_
  refine z_law (rest := [.int r0]) C (x := 228) (idx := 93) (by decide) (by decide +kernel) (List.mem_append_right _ (List.mem_of_getElem? (i := 1571) (by decide +kernel))) dl_823 (by decide +kernel) (by decide +kernel) rfl rfl (by decide +kernel) (by decide) (by decide) q2 w2 hWm hS rfl hbm ⟨_, _, rfl, rfl, rfl⟩ rfl hl.1 (Nat.le_of_ble_eq_true rfl) rfl (fun v ws1 tys1 H1 locs1 hO hpre hW1 hD1 hk1 hS => ?_)
  obtain ⟨_, rfl, rfl⟩ := hO
  refine lv_icmp_eq (tgt := 1570) hx hb dl_826 (by decide) (fun _ => ?_) (fun h => absurd rfl h)
  exact law_exit (by decide) (by decide) C hX hbl hr hlocks hS hl
set_option maxRecDepth 100000 in
set_option maxHeartbeats 4000000 in
theorem law_16 {p : Program} {l : Launch} {e : Env} {s : State} {m : MethodId} {below : List Frame} {meth : Method} {c : Code} {b : Nat} {xs : Nat → Int32} {D : va_G} {wsx wsm : va_W} {tysx tysm : List (ClassId × FieldType)} {bx bm qo : Nat} {H : Heap} {locs : List Loc} {ls : Array Slot} (B : zBe p s m meth c b xs D wsx wsm tysx tysm bx bm qo H locs ls) : W p l e room_1 s m #[Value.ref b] below meth c H locs 103 8850 (lw_Z below #[Value.ref b] s) (F0 m 831 ls []) := by
  obtain ⟨C, hX, hbl, hr, hlocks, hWx, hWm, hdis, hS, hbx, hbm, hl⟩ := B
  obtain ⟨hx, hb, hml, hown, hts, hN⟩ := id C
  have hbA : ¬ zA s b := Nat.not_le.mpr hbl
  obtain ⟨w1, w2, f, r0, G1, G2, q1, q2⟩ := aChk_at zc_twoBlamed (xs := [xs ((0 : Int32) + 1).toNatClampNeg]) rfl
  refine lv_aload_n hx hb dl_831 rfl (lv_at hl 3 rfl) ?_
  refine lv_aload_n hx hb dl_832 rfl (lv_at hl 4 rfl) ?_
  refine lv_iload hx hb dl_833 (lv_at hl 0 rfl) ?_
  refine lv_iconst (v := 1) hx hb dl_835 (by decide) ?_
  refine lv_iadd hx hb dl_836 ?_
  refine va_sld hx hb hX hbl hbA hS vI1 dl_837 ?_
  refine z_law (rest := []) C (x := 130) (idx := 94) (by decide) (by decide +kernel) (List.mem_append_right _ (List.mem_of_getElem? (i := 855) (by decide +kernel))) dl_838 (by decide +kernel) (by decide +kernel) rfl rfl (by decide +kernel) (by decide) (by decide) q1 w1 hWx hS rfl hbx ⟨_, _, rfl, rfl, rfl⟩ rfl hl.1 (Nat.le_of_ble_eq_true rfl) rfl (fun v ws1 tys1 H1 locs1 hO hpre hW1 hD1 hk1 hS => ?_)
  obtain ⟨_, rfl, rfl⟩ := hO
  obtain ⟨hWm, hdis⟩ := hWm.other hdis hk1 hD1
  refine lv_aload_n hx hb dl_841 rfl (lv_at hl 2 rfl) ?_
  refine lv_aload_n hx hb dl_842 rfl (lv_at hl 4 rfl) ?_
  refine lv_iload hx hb dl_843 (lv_at hl 0 rfl) ?_
  refine lv_iconst (v := 1) hx hb dl_845 (by decide) ?_
  refine lv_iadd hx hb dl_846 ?_
  refine va_sld hx hb hX hbl hbA hS vI1 dl_847 ?_
  refine z_law (rest := [.int r0]) C (x := 229) (idx := 97) (by decide) (by decide +kernel) (List.mem_append_right _ (List.mem_of_getElem? (i := 1579) (by decide +kernel))) dl_848 (by decide +kernel) (by decide +kernel) rfl rfl (by decide +kernel) (by decide) (by decide) q2 w2 hWm hS rfl hbm ⟨_, _, rfl, rfl, rfl⟩ rfl hl.1 (Nat.le_of_ble_eq_true rfl) rfl (fun v ws1 tys1 H1 locs1 hO hpre hW1 hD1 hk1 hS => ?_)
  obtain ⟨_, rfl, rfl⟩ := hO
  refine lv_icmp_eq (tgt := 1570) hx hb dl_851 (by decide) (fun _ => ?_) (fun h => absurd rfl h)
  exact law_exit (by decide) (by decide) C hX hbl hr hlocks hS hl
set_option maxRecDepth 100000 in
set_option maxHeartbeats 4000000 in
theorem law_17 {p : Program} {l : Launch} {e : Env} {s : State} {m : MethodId} {below : List Frame} {meth : Method} {c : Code} {b : Nat} {xs : Nat → Int32} {D : va_G} {wsx wsm : va_W} {tysx tysm : List (ClassId × FieldType)} {bx bm qo : Nat} {H : Heap} {locs : List Loc} {ls : Array Slot} (B : zBe p s m meth c b xs D wsx wsm tysx tysm bx bm qo H locs ls) : W p l e room_1 s m #[Value.ref b] below meth c H locs 103 8850 (lw_Z below #[Value.ref b] s) (F0 m 856 ls []) := by
  obtain ⟨C, hX, hbl, hr, hlocks, hWx, hWm, hdis, hS, hbx, hbm, hl⟩ := B
  obtain ⟨hx, hb, hml, hown, hts, hN⟩ := id C
  have hbA : ¬ zA s b := Nat.not_le.mpr hbl
  obtain ⟨w1, w2, f, r0, G1, G2, q1, q2⟩ := aChk_at zc_met (xs := [xs ((0 : Int32) + 1).toNatClampNeg, xs ((0 : Int32) + 2).toNatClampNeg, xs ((0 : Int32) + 3).toNatClampNeg]) rfl
  refine lv_aload_n hx hb dl_856 rfl (lv_at hl 3 rfl) ?_
  refine lv_aload_n hx hb dl_857 rfl (lv_at hl 4 rfl) ?_
  refine lv_iload hx hb dl_858 (lv_at hl 0 rfl) ?_
  refine lv_iconst (v := 1) hx hb dl_860 (by decide) ?_
  refine lv_iadd hx hb dl_861 ?_
  refine va_sld hx hb hX hbl hbA hS vI1 dl_862 ?_
  refine lv_aload_n hx hb dl_863 rfl (lv_at hl 4 rfl) ?_
  refine lv_iload hx hb dl_864 (lv_at hl 0 rfl) ?_
  refine lv_iconst (v := 2) hx hb dl_866 (by decide) ?_
  refine lv_iadd hx hb dl_867 ?_
  refine va_sld hx hb hX hbl hbA hS vI2 dl_868 ?_
  refine lv_aload_n hx hb dl_869 rfl (lv_at hl 4 rfl) ?_
  refine lv_iload hx hb dl_870 (lv_at hl 0 rfl) ?_
  refine lv_iconst (v := 3) hx hb dl_872 (by decide) ?_
  refine lv_iadd hx hb dl_873 ?_
  refine va_sld hx hb hX hbl hbA hS vI3 dl_874 ?_
  refine z_law (rest := []) C (x := 131) (idx := 98) (by decide) (by decide +kernel) (List.mem_append_right _ (List.mem_of_getElem? (i := 873) (by decide +kernel))) dl_875 (by decide +kernel) (by decide +kernel) rfl rfl (by decide +kernel) (by decide) (by decide) q1 w1 hWx hS rfl hbx ⟨_, _, rfl, rfl, ⟨_, _, rfl, rfl, ⟨_, _, rfl, rfl, rfl⟩⟩⟩ rfl hl.1 (Nat.le_of_ble_eq_true rfl) rfl (fun v ws1 tys1 H1 locs1 hO hpre hW1 hD1 hk1 hS => ?_)
  obtain ⟨_, rfl, rfl⟩ := hO
  obtain ⟨hWm, hdis⟩ := hWm.other hdis hk1 hD1
  refine lv_aload_n hx hb dl_878 rfl (lv_at hl 2 rfl) ?_
  refine lv_aload_n hx hb dl_879 rfl (lv_at hl 4 rfl) ?_
  refine lv_iload hx hb dl_880 (lv_at hl 0 rfl) ?_
  refine lv_iconst (v := 1) hx hb dl_882 (by decide) ?_
  refine lv_iadd hx hb dl_883 ?_
  refine va_sld hx hb hX hbl hbA hS vI1 dl_884 ?_
  refine lv_aload_n hx hb dl_885 rfl (lv_at hl 4 rfl) ?_
  refine lv_iload hx hb dl_886 (lv_at hl 0 rfl) ?_
  refine lv_iconst (v := 2) hx hb dl_888 (by decide) ?_
  refine lv_iadd hx hb dl_889 ?_
  refine va_sld hx hb hX hbl hbA hS vI2 dl_890 ?_
  refine lv_aload_n hx hb dl_891 rfl (lv_at hl 4 rfl) ?_
  refine lv_iload hx hb dl_892 (lv_at hl 0 rfl) ?_
  refine lv_iconst (v := 3) hx hb dl_894 (by decide) ?_
  refine lv_iadd hx hb dl_895 ?_
  refine va_sld hx hb hX hbl hbA hS vI3 dl_896 ?_
  refine z_law (rest := [.int r0]) C (x := 238) (idx := 101) (by decide) (by decide +kernel) (List.mem_append_right _ (List.mem_of_getElem? (i := 1607) (by decide +kernel))) dl_897 (by decide +kernel) (by decide +kernel) rfl rfl (by decide +kernel) (by decide) (by decide) q2 w2 hWm hS rfl hbm ⟨_, _, rfl, rfl, ⟨_, _, rfl, rfl, ⟨_, _, rfl, rfl, rfl⟩⟩⟩ rfl hl.1 (Nat.le_of_ble_eq_true rfl) rfl (fun v ws1 tys1 H1 locs1 hO hpre hW1 hD1 hk1 hS => ?_)
  obtain ⟨_, rfl, rfl⟩ := hO
  refine lv_icmp_eq (tgt := 1570) hx hb dl_900 (by decide) (fun _ => ?_) (fun h => absurd rfl h)
  exact law_exit (by decide) (by decide) C hX hbl hr hlocks hS hl
set_option maxRecDepth 100000 in
set_option maxHeartbeats 4000000 in
theorem law_18 {p : Program} {l : Launch} {e : Env} {s : State} {m : MethodId} {below : List Frame} {meth : Method} {c : Code} {b : Nat} {xs : Nat → Int32} {D : va_G} {wsx wsm : va_W} {tysx tysm : List (ClassId × FieldType)} {bx bm qo : Nat} {H : Heap} {locs : List Loc} {ls : Array Slot} (B : zBe p s m meth c b xs D wsx wsm tysx tysm bx bm qo H locs ls) : W p l e room_1 s m #[Value.ref b] below meth c H locs 103 8850 (lw_Z below #[Value.ref b] s) (F0 m 905 ls []) := by
  obtain ⟨C, hX, hbl, hr, hlocks, hWx, hWm, hdis, hS, hbx, hbm, hl⟩ := B
  obtain ⟨hx, hb, hml, hown, hts, hN⟩ := id C
  have hbA : ¬ zA s b := Nat.not_le.mpr hbl
  obtain ⟨w1, w2, f, r0, G1, G2, q1, q2⟩ := zc_wereIn (xs ((0 : Int32) + 1).toNatClampNeg) (xs ((0 : Int32) + 2).toNatClampNeg) (xs ((0 : Int32) + 3).toNatClampNeg) (xs ((0 : Int32) + 4).toNatClampNeg)
  refine lv_aload_n hx hb dl_905 rfl (lv_at hl 3 rfl) ?_
  refine lv_aload_n hx hb dl_906 rfl (lv_at hl 4 rfl) ?_
  refine lv_iload hx hb dl_907 (lv_at hl 0 rfl) ?_
  refine lv_iconst (v := 1) hx hb dl_909 (by decide) ?_
  refine lv_iadd hx hb dl_910 ?_
  refine va_sld hx hb hX hbl hbA hS vI1 dl_911 ?_
  refine lv_aload_n hx hb dl_912 rfl (lv_at hl 4 rfl) ?_
  refine lv_iload hx hb dl_913 (lv_at hl 0 rfl) ?_
  refine lv_iconst (v := 2) hx hb dl_915 (by decide) ?_
  refine lv_iadd hx hb dl_916 ?_
  refine va_sld hx hb hX hbl hbA hS vI2 dl_917 ?_
  refine lv_aload_n hx hb dl_918 rfl (lv_at hl 4 rfl) ?_
  refine lv_iload hx hb dl_919 (lv_at hl 0 rfl) ?_
  refine lv_iconst (v := 3) hx hb dl_921 (by decide) ?_
  refine lv_iadd hx hb dl_922 ?_
  refine va_sld hx hb hX hbl hbA hS vI3 dl_923 ?_
  refine lv_aload_n hx hb dl_924 rfl (lv_at hl 4 rfl) ?_
  refine lv_iload hx hb dl_925 (lv_at hl 0 rfl) ?_
  refine lv_iconst (v := 4) hx hb dl_927 (by decide) ?_
  refine lv_iadd hx hb dl_928 ?_
  refine va_sld hx hb hX hbl hbA hS vI4 dl_929 ?_
  refine z_law (rest := []) C (x := 132) (idx := 102) (by decide) (by decide +kernel) (List.mem_append_right _ (List.mem_of_getElem? (i := 887) (by decide +kernel))) dl_930 (by decide +kernel) (by decide +kernel) rfl rfl (by decide +kernel) (by decide) (by decide) q1 w1 hWx hS rfl hbx ⟨_, _, rfl, rfl, ⟨_, _, rfl, rfl, ⟨_, _, rfl, rfl, ⟨_, _, rfl, rfl, rfl⟩⟩⟩⟩ rfl hl.1 (Nat.le_of_ble_eq_true rfl) rfl (fun v ws1 tys1 H1 locs1 hO hpre hW1 hD1 hk1 hS => ?_)
  obtain ⟨_, rfl, rfl⟩ := hO
  obtain ⟨hWm, hdis⟩ := hWm.other hdis hk1 hD1
  refine lv_aload_n hx hb dl_933 rfl (lv_at hl 2 rfl) ?_
  refine lv_aload_n hx hb dl_934 rfl (lv_at hl 4 rfl) ?_
  refine lv_iload hx hb dl_935 (lv_at hl 0 rfl) ?_
  refine lv_iconst (v := 1) hx hb dl_937 (by decide) ?_
  refine lv_iadd hx hb dl_938 ?_
  refine va_sld hx hb hX hbl hbA hS vI1 dl_939 ?_
  refine lv_aload_n hx hb dl_940 rfl (lv_at hl 4 rfl) ?_
  refine lv_iload hx hb dl_941 (lv_at hl 0 rfl) ?_
  refine lv_iconst (v := 2) hx hb dl_943 (by decide) ?_
  refine lv_iadd hx hb dl_944 ?_
  refine va_sld hx hb hX hbl hbA hS vI2 dl_945 ?_
  refine lv_aload_n hx hb dl_946 rfl (lv_at hl 4 rfl) ?_
  refine lv_iload hx hb dl_947 (lv_at hl 0 rfl) ?_
  refine lv_iconst (v := 3) hx hb dl_949 (by decide) ?_
  refine lv_iadd hx hb dl_950 ?_
  refine va_sld hx hb hX hbl hbA hS vI3 dl_951 ?_
  refine lv_aload_n hx hb dl_952 rfl (lv_at hl 4 rfl) ?_
  refine lv_iload hx hb dl_953 (lv_at hl 0 rfl) ?_
  refine lv_iconst (v := 4) hx hb dl_955 (by decide) ?_
  refine lv_iadd hx hb dl_956 ?_
  refine va_sld hx hb hX hbl hbA hS vI4 dl_957 ?_
  refine z_law (rest := [.int r0]) C (x := 240) (idx := 106) (by decide) (by decide +kernel) (List.mem_append_right _ (List.mem_of_getElem? (i := 1618) (by decide +kernel))) dl_958 (by decide +kernel) (by decide +kernel) rfl rfl (by decide +kernel) (by decide) (by decide) q2 w2 hWm hS rfl hbm ⟨_, _, rfl, rfl, ⟨_, _, rfl, rfl, ⟨_, _, rfl, rfl, ⟨_, _, rfl, rfl, rfl⟩⟩⟩⟩ rfl hl.1 (Nat.le_of_ble_eq_true rfl) rfl (fun v ws1 tys1 H1 locs1 hO hpre hW1 hD1 hk1 hS => ?_)
  obtain ⟨_, rfl, rfl⟩ := hO
  refine lv_icmp_eq (tgt := 1570) hx hb dl_961 (by decide) (fun _ => ?_) (fun h => absurd rfl h)
  exact law_exit (by decide) (by decide) C hX hbl hr hlocks hS hl
set_option maxRecDepth 100000 in
set_option maxHeartbeats 4000000 in
theorem law_19 {p : Program} {l : Launch} {e : Env} {s : State} {m : MethodId} {below : List Frame} {meth : Method} {c : Code} {b : Nat} {xs : Nat → Int32} {D : va_G} {wsx wsm : va_W} {tysx tysm : List (ClassId × FieldType)} {bx bm qo : Nat} {H : Heap} {locs : List Loc} {ls : Array Slot} (B : zBe p s m meth c b xs D wsx wsm tysx tysm bx bm qo H locs ls) : W p l e room_1 s m #[Value.ref b] below meth c H locs 103 8850 (lw_Z below #[Value.ref b] s) (F0 m 966 ls []) := by
  obtain ⟨C, hX, hbl, hr, hlocks, hWx, hWm, hdis, hS, hbx, hbm, hl⟩ := B
  obtain ⟨hx, hb, hml, hown, hts, hN⟩ := id C
  have hbA : ¬ zA s b := Nat.not_le.mpr hbl
  obtain ⟨w1, w2, f, r0, G1, G2, q1, q2⟩ := aChk_at zc_most (xs := [xs ((0 : Int32) + 1).toNatClampNeg]) rfl
  refine lv_aload_n hx hb dl_966 rfl (lv_at hl 3 rfl) ?_
  refine lv_aload_n hx hb dl_967 rfl (lv_at hl 4 rfl) ?_
  refine lv_iload hx hb dl_968 (lv_at hl 0 rfl) ?_
  refine lv_iconst (v := 1) hx hb dl_970 (by decide) ?_
  refine lv_iadd hx hb dl_971 ?_
  refine va_sld hx hb hX hbl hbA hS vI1 dl_972 ?_
  refine z_law (rest := []) C (x := 133) (idx := 107) (by decide) (by decide +kernel) (List.mem_append_right _ (List.mem_of_getElem? (i := 896) (by decide +kernel))) dl_973 (by decide +kernel) (by decide +kernel) rfl rfl (by decide +kernel) (by decide) (by decide) q1 w1 hWx hS rfl hbx ⟨_, _, rfl, rfl, rfl⟩ rfl hl.1 (Nat.le_of_ble_eq_true rfl) rfl (fun v ws1 tys1 H1 locs1 hO hpre hW1 hD1 hk1 hS => ?_)
  obtain ⟨_, rfl, rfl⟩ := hO
  obtain ⟨hWm, hdis⟩ := hWm.other hdis hk1 hD1
  refine lv_aload_n hx hb dl_976 rfl (lv_at hl 2 rfl) ?_
  refine lv_aload_n hx hb dl_977 rfl (lv_at hl 4 rfl) ?_
  refine lv_iload hx hb dl_978 (lv_at hl 0 rfl) ?_
  refine lv_iconst (v := 1) hx hb dl_980 (by decide) ?_
  refine lv_iadd hx hb dl_981 ?_
  refine va_sld hx hb hX hbl hbA hS vI1 dl_982 ?_
  refine z_law (rest := [.int r0]) C (x := 241) (idx := 110) (by decide) (by decide +kernel) (List.mem_append_right _ (List.mem_of_getElem? (i := 1626) (by decide +kernel))) dl_983 (by decide +kernel) (by decide +kernel) rfl rfl (by decide +kernel) (by decide) (by decide) q2 w2 hWm hS rfl hbm ⟨_, _, rfl, rfl, rfl⟩ rfl hl.1 (Nat.le_of_ble_eq_true rfl) rfl (fun v ws1 tys1 H1 locs1 hO hpre hW1 hD1 hk1 hS => ?_)
  obtain ⟨_, rfl, rfl⟩ := hO
  refine lv_icmp_eq (tgt := 1570) hx hb dl_986 (by decide) (fun _ => ?_) (fun h => absurd rfl h)
  exact law_exit (by decide) (by decide) C hX hbl hr hlocks hS hl
set_option maxRecDepth 100000 in
set_option maxHeartbeats 4000000 in
theorem law_20 {p : Program} {l : Launch} {e : Env} {s : State} {m : MethodId} {below : List Frame} {meth : Method} {c : Code} {b : Nat} {xs : Nat → Int32} {D : va_G} {wsx wsm : va_W} {tysx tysm : List (ClassId × FieldType)} {bx bm qo : Nat} {H : Heap} {locs : List Loc} {ls : Array Slot} (B : zBe p s m meth c b xs D wsx wsm tysx tysm bx bm qo H locs ls) : W p l e room_1 s m #[Value.ref b] below meth c H locs 103 8850 (lw_Z below #[Value.ref b] s) (F0 m 991 ls []) := by
  obtain ⟨C, hX, hbl, hr, hlocks, hWx, hWm, hdis, hS, hbx, hbm, hl⟩ := B
  obtain ⟨hx, hb, hml, hown, hts, hN⟩ := id C
  have hbA : ¬ zA s b := Nat.not_le.mpr hbl
  obtain ⟨w1, w2, f, r0, G1, G2, q1, q2⟩ := aChk_at zc_still (xs := [xs ((0 : Int32) + 1).toNatClampNeg, xs ((0 : Int32) + 2).toNatClampNeg]) rfl
  refine lv_aload_n hx hb dl_991 rfl (lv_at hl 3 rfl) ?_
  refine lv_aload_n hx hb dl_992 rfl (lv_at hl 4 rfl) ?_
  refine lv_iload hx hb dl_993 (lv_at hl 0 rfl) ?_
  refine lv_iconst (v := 1) hx hb dl_995 (by decide) ?_
  refine lv_iadd hx hb dl_996 ?_
  refine va_sld hx hb hX hbl hbA hS vI1 dl_997 ?_
  refine lv_aload_n hx hb dl_998 rfl (lv_at hl 4 rfl) ?_
  refine lv_iload hx hb dl_999 (lv_at hl 0 rfl) ?_
  refine lv_iconst (v := 2) hx hb dl_1001 (by decide) ?_
  refine lv_iadd hx hb dl_1002 ?_
  refine va_sld hx hb hX hbl hbA hS vI2 dl_1003 ?_
  refine z_law (rest := []) C (x := 134) (idx := 111) (by decide) (by decide +kernel) (List.mem_append_right _ (List.mem_of_getElem? (i := 906) (by decide +kernel))) dl_1004 (by decide +kernel) (by decide +kernel) rfl rfl (by decide +kernel) (by decide) (by decide) q1 w1 hWx hS rfl hbx ⟨_, _, rfl, rfl, ⟨_, _, rfl, rfl, rfl⟩⟩ rfl hl.1 (Nat.le_of_ble_eq_true rfl) rfl (fun v ws1 tys1 H1 locs1 hO hpre hW1 hD1 hk1 hS => ?_)
  obtain ⟨_, rfl, rfl⟩ := hO
  obtain ⟨hWm, hdis⟩ := hWm.other hdis hk1 hD1
  refine lv_aload_n hx hb dl_1007 rfl (lv_at hl 2 rfl) ?_
  refine lv_aload_n hx hb dl_1008 rfl (lv_at hl 4 rfl) ?_
  refine lv_iload hx hb dl_1009 (lv_at hl 0 rfl) ?_
  refine lv_iconst (v := 1) hx hb dl_1011 (by decide) ?_
  refine lv_iadd hx hb dl_1012 ?_
  refine va_sld hx hb hX hbl hbA hS vI1 dl_1013 ?_
  refine lv_aload_n hx hb dl_1014 rfl (lv_at hl 4 rfl) ?_
  refine lv_iload hx hb dl_1015 (lv_at hl 0 rfl) ?_
  refine lv_iconst (v := 2) hx hb dl_1017 (by decide) ?_
  refine lv_iadd hx hb dl_1018 ?_
  refine va_sld hx hb hX hbl hbA hS vI2 dl_1019 ?_
  refine z_law (rest := [.int r0]) C (x := 243) (idx := 114) (by decide) (by decide +kernel) (List.mem_append_right _ (List.mem_of_getElem? (i := 1630) (by decide +kernel))) dl_1020 (by decide +kernel) (by decide +kernel) rfl rfl (by decide +kernel) (by decide) (by decide) q2 w2 hWm hS rfl hbm ⟨_, _, rfl, rfl, ⟨_, _, rfl, rfl, rfl⟩⟩ rfl hl.1 (Nat.le_of_ble_eq_true rfl) rfl (fun v ws1 tys1 H1 locs1 hO hpre hW1 hD1 hk1 hS => ?_)
  obtain ⟨_, rfl, rfl⟩ := hO
  refine lv_icmp_eq (tgt := 1570) hx hb dl_1023 (by decide) (fun _ => ?_) (fun h => absurd rfl h)
  exact law_exit (by decide) (by decide) C hX hbl hr hlocks hS hl
set_option maxRecDepth 100000 in
set_option maxHeartbeats 4000000 in
theorem law_21 {p : Program} {l : Launch} {e : Env} {s : State} {m : MethodId} {below : List Frame} {meth : Method} {c : Code} {b : Nat} {xs : Nat → Int32} {D : va_G} {wsx wsm : va_W} {tysx tysm : List (ClassId × FieldType)} {bx bm qo : Nat} {H : Heap} {locs : List Loc} {ls : Array Slot} (B : zBe p s m meth c b xs D wsx wsm tysx tysm bx bm qo H locs ls) : W p l e room_1 s m #[Value.ref b] below meth c H locs 103 8850 (lw_Z below #[Value.ref b] s) (F0 m 1028 ls []) := by
  obtain ⟨C, hX, hbl, hr, hlocks, hWx, hWm, hdis, hS, hbx, hbm, hl⟩ := B
  obtain ⟨hx, hb, hml, hown, hts, hN⟩ := id C
  have hbA : ¬ zA s b := Nat.not_le.mpr hbl
  obtain ⟨w1, w2, f, r0, G1, G2, q1, q2⟩ := aChk_at zc_components (xs := [xs ((0 : Int32) + 1).toNatClampNeg, xs ((0 : Int32) + 2).toNatClampNeg]) rfl
  refine lv_aload_n hx hb dl_1028 rfl (lv_at hl 3 rfl) ?_
  refine lv_aload_n hx hb dl_1029 rfl (lv_at hl 4 rfl) ?_
  refine lv_iload hx hb dl_1030 (lv_at hl 0 rfl) ?_
  refine lv_iconst (v := 1) hx hb dl_1032 (by decide) ?_
  refine lv_iadd hx hb dl_1033 ?_
  refine va_sld hx hb hX hbl hbA hS vI1 dl_1034 ?_
  refine lv_aload_n hx hb dl_1035 rfl (lv_at hl 4 rfl) ?_
  refine lv_iload hx hb dl_1036 (lv_at hl 0 rfl) ?_
  refine lv_iconst (v := 2) hx hb dl_1038 (by decide) ?_
  refine lv_iadd hx hb dl_1039 ?_
  refine va_sld hx hb hX hbl hbA hS vI2 dl_1040 ?_
  refine z_law (rest := []) C (x := 135) (idx := 115) (by decide) (by decide +kernel) (List.mem_append_right _ (List.mem_of_getElem? (i := 914) (by decide +kernel))) dl_1041 (by decide +kernel) (by decide +kernel) rfl rfl (by decide +kernel) (by decide) (by decide) q1 w1 hWx hS rfl hbx ⟨_, _, rfl, rfl, ⟨_, _, rfl, rfl, rfl⟩⟩ rfl hl.1 (Nat.le_of_ble_eq_true rfl) rfl (fun v ws1 tys1 H1 locs1 hO hpre hW1 hD1 hk1 hS => ?_)
  obtain ⟨_, rfl, rfl⟩ := hO
  obtain ⟨hWm, hdis⟩ := hWm.other hdis hk1 hD1
  refine lv_aload_n hx hb dl_1044 rfl (lv_at hl 2 rfl) ?_
  refine lv_aload_n hx hb dl_1045 rfl (lv_at hl 4 rfl) ?_
  refine lv_iload hx hb dl_1046 (lv_at hl 0 rfl) ?_
  refine lv_iconst (v := 1) hx hb dl_1048 (by decide) ?_
  refine lv_iadd hx hb dl_1049 ?_
  refine va_sld hx hb hX hbl hbA hS vI1 dl_1050 ?_
  refine lv_aload_n hx hb dl_1051 rfl (lv_at hl 4 rfl) ?_
  refine lv_iload hx hb dl_1052 (lv_at hl 0 rfl) ?_
  refine lv_iconst (v := 2) hx hb dl_1054 (by decide) ?_
  refine lv_iadd hx hb dl_1055 ?_
  refine va_sld hx hb hX hbl hbA hS vI2 dl_1056 ?_
  refine z_law (rest := [.int r0]) C (x := 244) (idx := 118) (by decide) (by decide +kernel) (List.mem_append_right _ (List.mem_of_getElem? (i := 1638) (by decide +kernel))) dl_1057 (by decide +kernel) (by decide +kernel) rfl rfl (by decide +kernel) (by decide) (by decide) q2 w2 hWm hS rfl hbm ⟨_, _, rfl, rfl, ⟨_, _, rfl, rfl, rfl⟩⟩ rfl hl.1 (Nat.le_of_ble_eq_true rfl) rfl (fun v ws1 tys1 H1 locs1 hO hpre hW1 hD1 hk1 hS => ?_)
  obtain ⟨_, rfl, rfl⟩ := hO
  refine lv_icmp_eq (tgt := 1570) hx hb dl_1060 (by decide) (fun _ => ?_) (fun h => absurd rfl h)
  exact law_exit (by decide) (by decide) C hX hbl hr hlocks hS hl
set_option maxRecDepth 100000 in
set_option maxHeartbeats 4000000 in
theorem law_22 {p : Program} {l : Launch} {e : Env} {s : State} {m : MethodId} {below : List Frame} {meth : Method} {c : Code} {b : Nat} {xs : Nat → Int32} {D : va_G} {wsx wsm : va_W} {tysx tysm : List (ClassId × FieldType)} {bx bm qo : Nat} {H : Heap} {locs : List Loc} {ls : Array Slot} (B : zBe p s m meth c b xs D wsx wsm tysx tysm bx bm qo H locs ls) : W p l e room_1 s m #[Value.ref b] below meth c H locs 103 8850 (lw_Z below #[Value.ref b] s) (F0 m 1065 ls []) := by
  obtain ⟨C, hX, hbl, hr, hlocks, hWx, hWm, hdis, hS, hbx, hbm, hl⟩ := B
  obtain ⟨hx, hb, hml, hown, hts, hN⟩ := id C
  have hbA : ¬ zA s b := Nat.not_le.mpr hbl
  obtain ⟨w1, w2, f, r0, G1, G2, q1, q2⟩ := aChk_at zc_dwelt (xs := [xs ((0 : Int32) + 1).toNatClampNeg, xs ((0 : Int32) + 2).toNatClampNeg]) rfl
  refine lv_aload_n hx hb dl_1065 rfl (lv_at hl 3 rfl) ?_
  refine lv_aload_n hx hb dl_1066 rfl (lv_at hl 4 rfl) ?_
  refine lv_iload hx hb dl_1067 (lv_at hl 0 rfl) ?_
  refine lv_iconst (v := 1) hx hb dl_1069 (by decide) ?_
  refine lv_iadd hx hb dl_1070 ?_
  refine va_sld hx hb hX hbl hbA hS vI1 dl_1071 ?_
  refine lv_aload_n hx hb dl_1072 rfl (lv_at hl 4 rfl) ?_
  refine lv_iload hx hb dl_1073 (lv_at hl 0 rfl) ?_
  refine lv_iconst (v := 2) hx hb dl_1075 (by decide) ?_
  refine lv_iadd hx hb dl_1076 ?_
  refine va_sld hx hb hX hbl hbA hS vI2 dl_1077 ?_
  refine z_law (rest := []) C (x := 136) (idx := 119) (by decide) (by decide +kernel) (List.mem_append_right _ (List.mem_of_getElem? (i := 922) (by decide +kernel))) dl_1078 (by decide +kernel) (by decide +kernel) rfl rfl (by decide +kernel) (by decide) (by decide) q1 w1 hWx hS rfl hbx ⟨_, _, rfl, rfl, ⟨_, _, rfl, rfl, rfl⟩⟩ rfl hl.1 (Nat.le_of_ble_eq_true rfl) rfl (fun v ws1 tys1 H1 locs1 hO hpre hW1 hD1 hk1 hS => ?_)
  obtain ⟨_, rfl, rfl⟩ := hO
  obtain ⟨hWm, hdis⟩ := hWm.other hdis hk1 hD1
  refine lv_aload_n hx hb dl_1081 rfl (lv_at hl 2 rfl) ?_
  refine lv_aload_n hx hb dl_1082 rfl (lv_at hl 4 rfl) ?_
  refine lv_iload hx hb dl_1083 (lv_at hl 0 rfl) ?_
  refine lv_iconst (v := 1) hx hb dl_1085 (by decide) ?_
  refine lv_iadd hx hb dl_1086 ?_
  refine va_sld hx hb hX hbl hbA hS vI1 dl_1087 ?_
  refine lv_aload_n hx hb dl_1088 rfl (lv_at hl 4 rfl) ?_
  refine lv_iload hx hb dl_1089 (lv_at hl 0 rfl) ?_
  refine lv_iconst (v := 2) hx hb dl_1091 (by decide) ?_
  refine lv_iadd hx hb dl_1092 ?_
  refine va_sld hx hb hX hbl hbA hS vI2 dl_1093 ?_
  refine z_law (rest := [.int r0]) C (x := 218) (idx := 122) (by decide) (by decide +kernel) (List.mem_append_right _ (List.mem_of_getElem? (i := 1531) (by decide +kernel))) dl_1094 (by decide +kernel) (by decide +kernel) rfl rfl (by decide +kernel) (by decide) (by decide) q2 w2 hWm hS rfl hbm ⟨_, _, rfl, rfl, ⟨_, _, rfl, rfl, rfl⟩⟩ rfl hl.1 (Nat.le_of_ble_eq_true rfl) rfl (fun v ws1 tys1 H1 locs1 hO hpre hW1 hD1 hk1 hS => ?_)
  obtain ⟨_, rfl, rfl⟩ := hO
  refine lv_icmp_eq (tgt := 1570) hx hb dl_1097 (by decide) (fun _ => ?_) (fun h => absurd rfl h)
  exact law_exit (by decide) (by decide) C hX hbl hr hlocks hS hl
set_option maxRecDepth 100000 in
set_option maxHeartbeats 4000000 in
theorem law_23 {p : Program} {l : Launch} {e : Env} {s : State} {m : MethodId} {below : List Frame} {meth : Method} {c : Code} {b : Nat} {xs : Nat → Int32} {D : va_G} {wsx wsm : va_W} {tysx tysm : List (ClassId × FieldType)} {bx bm qo : Nat} {H : Heap} {locs : List Loc} {ls : Array Slot} (B : zBe p s m meth c b xs D wsx wsm tysx tysm bx bm qo H locs ls) : W p l e room_1 s m #[Value.ref b] below meth c H locs 103 8850 (lw_Z below #[Value.ref b] s) (F0 m 1102 ls []) := by
  obtain ⟨C, hX, hbl, hr, hlocks, hWx, hWm, hdis, hS, hbx, hbm, hl⟩ := B
  obtain ⟨hx, hb, hml, hown, hts, hN⟩ := id C
  have hbA : ¬ zA s b := Nat.not_le.mpr hbl
  obtain ⟨w1, w2, f, r0, G1, G2, q1, q2⟩ := aChk_at zc_flow (xs := [xs ((0 : Int32) + 1).toNatClampNeg, xs ((0 : Int32) + 2).toNatClampNeg]) rfl
  refine lv_aload_n hx hb dl_1102 rfl (lv_at hl 3 rfl) ?_
  refine lv_aload_n hx hb dl_1103 rfl (lv_at hl 4 rfl) ?_
  refine lv_iload hx hb dl_1104 (lv_at hl 0 rfl) ?_
  refine lv_iconst (v := 1) hx hb dl_1106 (by decide) ?_
  refine lv_iadd hx hb dl_1107 ?_
  refine va_sld hx hb hX hbl hbA hS vI1 dl_1108 ?_
  refine lv_aload_n hx hb dl_1109 rfl (lv_at hl 4 rfl) ?_
  refine lv_iload hx hb dl_1110 (lv_at hl 0 rfl) ?_
  refine lv_iconst (v := 2) hx hb dl_1112 (by decide) ?_
  refine lv_iadd hx hb dl_1113 ?_
  refine va_sld hx hb hX hbl hbA hS vI2 dl_1114 ?_
  refine z_law (rest := []) C (x := 137) (idx := 123) (by decide) (by decide +kernel) (List.mem_append_right _ (List.mem_of_getElem? (i := 935) (by decide +kernel))) dl_1115 (by decide +kernel) (by decide +kernel) rfl rfl (by decide +kernel) (by decide) (by decide) q1 w1 hWx hS rfl hbx ⟨_, _, rfl, rfl, ⟨_, _, rfl, rfl, rfl⟩⟩ rfl hl.1 (Nat.le_of_ble_eq_true rfl) rfl (fun v ws1 tys1 H1 locs1 hO hpre hW1 hD1 hk1 hS => ?_)
  obtain ⟨_, rfl, rfl⟩ := hO
  obtain ⟨hWm, hdis⟩ := hWm.other hdis hk1 hD1
  refine lv_aload_n hx hb dl_1118 rfl (lv_at hl 2 rfl) ?_
  refine lv_aload_n hx hb dl_1119 rfl (lv_at hl 4 rfl) ?_
  refine lv_iload hx hb dl_1120 (lv_at hl 0 rfl) ?_
  refine lv_iconst (v := 1) hx hb dl_1122 (by decide) ?_
  refine lv_iadd hx hb dl_1123 ?_
  refine va_sld hx hb hX hbl hbA hS vI1 dl_1124 ?_
  refine lv_aload_n hx hb dl_1125 rfl (lv_at hl 4 rfl) ?_
  refine lv_iload hx hb dl_1126 (lv_at hl 0 rfl) ?_
  refine lv_iconst (v := 2) hx hb dl_1128 (by decide) ?_
  refine lv_iadd hx hb dl_1129 ?_
  refine va_sld hx hb hX hbl hbA hS vI2 dl_1130 ?_
  refine z_law (rest := [.int r0]) C (x := 219) (idx := 126) (by decide) (by decide +kernel) (List.mem_append_right _ (List.mem_of_getElem? (i := 1539) (by decide +kernel))) dl_1131 (by decide +kernel) (by decide +kernel) rfl rfl (by decide +kernel) (by decide) (by decide) q2 w2 hWm hS rfl hbm ⟨_, _, rfl, rfl, ⟨_, _, rfl, rfl, rfl⟩⟩ rfl hl.1 (Nat.le_of_ble_eq_true rfl) rfl (fun v ws1 tys1 H1 locs1 hO hpre hW1 hD1 hk1 hS => ?_)
  obtain ⟨_, rfl, rfl⟩ := hO
  refine lv_icmp_eq (tgt := 1570) hx hb dl_1134 (by decide) (fun _ => ?_) (fun h => absurd rfl h)
  exact law_exit (by decide) (by decide) C hX hbl hr hlocks hS hl
set_option maxRecDepth 100000 in
set_option maxHeartbeats 4000000 in
theorem law_24 {p : Program} {l : Launch} {e : Env} {s : State} {m : MethodId} {below : List Frame} {meth : Method} {c : Code} {b : Nat} {xs : Nat → Int32} {D : va_G} {wsx wsm : va_W} {tysx tysm : List (ClassId × FieldType)} {bx bm qo : Nat} {H : Heap} {locs : List Loc} {ls : Array Slot} (B : zBe p s m meth c b xs D wsx wsm tysx tysm bx bm qo H locs ls) : W p l e room_1 s m #[Value.ref b] below meth c H locs 103 8850 (lw_Z below #[Value.ref b] s) (F0 m 1139 ls []) := by
  obtain ⟨C, hX, hbl, hr, hlocks, hWx, hWm, hdis, hS, hbx, hbm, hl⟩ := B
  obtain ⟨hx, hb, hml, hown, hts, hN⟩ := id C
  have hbA : ¬ zA s b := Nat.not_le.mpr hbl
  obtain ⟨w1, w2, f, r0, G1, G2, q1, q2⟩ := aChk_at zc_cause (xs := [xs ((0 : Int32) + 1).toNatClampNeg]) rfl
  refine lv_aload_n hx hb dl_1139 rfl (lv_at hl 3 rfl) ?_
  refine lv_aload_n hx hb dl_1140 rfl (lv_at hl 4 rfl) ?_
  refine lv_iload hx hb dl_1141 (lv_at hl 0 rfl) ?_
  refine lv_iconst (v := 1) hx hb dl_1143 (by decide) ?_
  refine lv_iadd hx hb dl_1144 ?_
  refine va_sld hx hb hX hbl hbA hS vI1 dl_1145 ?_
  refine z_law (rest := []) C (x := 138) (idx := 127) (by decide) (by decide +kernel) (List.mem_append_right _ (List.mem_of_getElem? (i := 944) (by decide +kernel))) dl_1146 (by decide +kernel) (by decide +kernel) rfl rfl (by decide +kernel) (by decide) (by decide) q1 w1 hWx hS rfl hbx ⟨_, _, rfl, rfl, rfl⟩ rfl hl.1 (Nat.le_of_ble_eq_true rfl) rfl (fun v ws1 tys1 H1 locs1 hO hpre hW1 hD1 hk1 hS => ?_)
  obtain ⟨_, rfl, rfl⟩ := hO
  obtain ⟨hWm, hdis⟩ := hWm.other hdis hk1 hD1
  refine lv_aload_n hx hb dl_1149 rfl (lv_at hl 2 rfl) ?_
  refine lv_aload_n hx hb dl_1150 rfl (lv_at hl 4 rfl) ?_
  refine lv_iload hx hb dl_1151 (lv_at hl 0 rfl) ?_
  refine lv_iconst (v := 1) hx hb dl_1153 (by decide) ?_
  refine lv_iadd hx hb dl_1154 ?_
  refine va_sld hx hb hX hbl hbA hS vI1 dl_1155 ?_
  refine z_law (rest := [.int r0]) C (x := 231) (idx := 130) (by decide) (by decide +kernel) (List.mem_append_right _ (List.mem_of_getElem? (i := 1583) (by decide +kernel))) dl_1156 (by decide +kernel) (by decide +kernel) rfl rfl (by decide +kernel) (by decide) (by decide) q2 w2 hWm hS rfl hbm ⟨_, _, rfl, rfl, rfl⟩ rfl hl.1 (Nat.le_of_ble_eq_true rfl) rfl (fun v ws1 tys1 H1 locs1 hO hpre hW1 hD1 hk1 hS => ?_)
  obtain ⟨_, rfl, rfl⟩ := hO
  refine lv_icmp_eq (tgt := 1570) hx hb dl_1159 (by decide) (fun _ => ?_) (fun h => absurd rfl h)
  exact law_exit (by decide) (by decide) C hX hbl hr hlocks hS hl
set_option maxRecDepth 100000 in
set_option maxHeartbeats 4000000 in
theorem law_25 {p : Program} {l : Launch} {e : Env} {s : State} {m : MethodId} {below : List Frame} {meth : Method} {c : Code} {b : Nat} {xs : Nat → Int32} {D : va_G} {wsx wsm : va_W} {tysx tysm : List (ClassId × FieldType)} {bx bm qo : Nat} {H : Heap} {locs : List Loc} {ls : Array Slot} (B : zBe p s m meth c b xs D wsx wsm tysx tysm bx bm qo H locs ls) : W p l e room_1 s m #[Value.ref b] below meth c H locs 103 8850 (lw_Z below #[Value.ref b] s) (F0 m 1164 ls []) := by
  obtain ⟨C, hX, hbl, hr, hlocks, hWx, hWm, hdis, hS, hbx, hbm, hl⟩ := B
  obtain ⟨hx, hb, hml, hown, hts, hN⟩ := id C
  have hbA : ¬ zA s b := Nat.not_le.mpr hbl
  obtain ⟨w1, w2, f, r0, G1, G2, q1, q2⟩ := aChk_at zc_needs (xs := [xs ((0 : Int32) + 1).toNatClampNeg, xs ((0 : Int32) + 2).toNatClampNeg]) rfl
  refine lv_aload_n hx hb dl_1164 rfl (lv_at hl 3 rfl) ?_
  refine lv_aload_n hx hb dl_1165 rfl (lv_at hl 4 rfl) ?_
  refine lv_iload hx hb dl_1166 (lv_at hl 0 rfl) ?_
  refine lv_iconst (v := 1) hx hb dl_1168 (by decide) ?_
  refine lv_iadd hx hb dl_1169 ?_
  refine va_sld hx hb hX hbl hbA hS vI1 dl_1170 ?_
  refine lv_aload_n hx hb dl_1171 rfl (lv_at hl 4 rfl) ?_
  refine lv_iload hx hb dl_1172 (lv_at hl 0 rfl) ?_
  refine lv_iconst (v := 2) hx hb dl_1174 (by decide) ?_
  refine lv_iadd hx hb dl_1175 ?_
  refine va_sld hx hb hX hbl hbA hS vI2 dl_1176 ?_
  refine z_law (rest := []) C (x := 139) (idx := 131) (by decide) (by decide +kernel) (List.mem_append_right _ (List.mem_of_getElem? (i := 956) (by decide +kernel))) dl_1177 (by decide +kernel) (by decide +kernel) rfl rfl (by decide +kernel) (by decide) (by decide) q1 w1 hWx hS rfl hbx ⟨_, _, rfl, rfl, ⟨_, _, rfl, rfl, rfl⟩⟩ rfl hl.1 (Nat.le_of_ble_eq_true rfl) rfl (fun v ws1 tys1 H1 locs1 hO hpre hW1 hD1 hk1 hS => ?_)
  obtain ⟨_, rfl, rfl⟩ := hO
  obtain ⟨hWm, hdis⟩ := hWm.other hdis hk1 hD1
  refine lv_aload_n hx hb dl_1180 rfl (lv_at hl 2 rfl) ?_
  refine lv_aload_n hx hb dl_1181 rfl (lv_at hl 4 rfl) ?_
  refine lv_iload hx hb dl_1182 (lv_at hl 0 rfl) ?_
  refine lv_iconst (v := 1) hx hb dl_1184 (by decide) ?_
  refine lv_iadd hx hb dl_1185 ?_
  refine va_sld hx hb hX hbl hbA hS vI1 dl_1186 ?_
  refine lv_aload_n hx hb dl_1187 rfl (lv_at hl 4 rfl) ?_
  refine lv_iload hx hb dl_1188 (lv_at hl 0 rfl) ?_
  refine lv_iconst (v := 2) hx hb dl_1190 (by decide) ?_
  refine lv_iadd hx hb dl_1191 ?_
  refine va_sld hx hb hX hbl hbA hS vI2 dl_1192 ?_
  refine z_law (rest := [.int r0]) C (x := 232) (idx := 134) (by decide) (by decide +kernel) (List.mem_append_right _ (List.mem_of_getElem? (i := 1591) (by decide +kernel))) dl_1193 (by decide +kernel) (by decide +kernel) rfl rfl (by decide +kernel) (by decide) (by decide) q2 w2 hWm hS rfl hbm ⟨_, _, rfl, rfl, ⟨_, _, rfl, rfl, rfl⟩⟩ rfl hl.1 (Nat.le_of_ble_eq_true rfl) rfl (fun v ws1 tys1 H1 locs1 hO hpre hW1 hD1 hk1 hS => ?_)
  obtain ⟨_, rfl, rfl⟩ := hO
  refine lv_icmp_eq (tgt := 1570) hx hb dl_1196 (by decide) (fun _ => ?_) (fun h => absurd rfl h)
  exact law_exit (by decide) (by decide) C hX hbl hr hlocks hS hl
set_option maxRecDepth 100000 in
set_option maxHeartbeats 4000000 in
theorem law_26 {p : Program} {l : Launch} {e : Env} {s : State} {m : MethodId} {below : List Frame} {meth : Method} {c : Code} {b : Nat} {xs : Nat → Int32} {D : va_G} {wsx wsm : va_W} {tysx tysm : List (ClassId × FieldType)} {bx bm qo : Nat} {H : Heap} {locs : List Loc} {ls : Array Slot} (B : zBe p s m meth c b xs D wsx wsm tysx tysm bx bm qo H locs ls) : W p l e room_1 s m #[Value.ref b] below meth c H locs 103 8850 (lw_Z below #[Value.ref b] s) (F0 m 1201 ls []) := by
  obtain ⟨C, hX, hbl, hr, hlocks, hWx, hWm, hdis, hS, hbx, hbm, hl⟩ := B
  obtain ⟨hx, hb, hml, hown, hts, hN⟩ := id C
  have hbA : ¬ zA s b := Nat.not_le.mpr hbl
  obtain ⟨w1, w2, f, r0, G1, G2, q1, q2⟩ := aChk_at zc_ifAt (xs := [xs ((0 : Int32) + 1).toNatClampNeg, xs ((0 : Int32) + 2).toNatClampNeg, xs ((0 : Int32) + 3).toNatClampNeg]) rfl
  refine lv_aload_n hx hb dl_1201 rfl (lv_at hl 3 rfl) ?_
  refine lv_aload_n hx hb dl_1202 rfl (lv_at hl 4 rfl) ?_
  refine lv_iload hx hb dl_1203 (lv_at hl 0 rfl) ?_
  refine lv_iconst (v := 1) hx hb dl_1205 (by decide) ?_
  refine lv_iadd hx hb dl_1206 ?_
  refine va_sld hx hb hX hbl hbA hS vI1 dl_1207 ?_
  refine lv_aload_n hx hb dl_1208 rfl (lv_at hl 4 rfl) ?_
  refine lv_iload hx hb dl_1209 (lv_at hl 0 rfl) ?_
  refine lv_iconst (v := 2) hx hb dl_1211 (by decide) ?_
  refine lv_iadd hx hb dl_1212 ?_
  refine va_sld hx hb hX hbl hbA hS vI2 dl_1213 ?_
  refine lv_aload_n hx hb dl_1214 rfl (lv_at hl 4 rfl) ?_
  refine lv_iload hx hb dl_1215 (lv_at hl 0 rfl) ?_
  refine lv_iconst (v := 3) hx hb dl_1217 (by decide) ?_
  refine lv_iadd hx hb dl_1218 ?_
  refine va_sld hx hb hX hbl hbA hS vI3 dl_1219 ?_
  refine z_law (rest := []) C (x := 140) (idx := 135) (by decide) (by decide +kernel) (List.mem_append_right _ (List.mem_of_getElem? (i := 960) (by decide +kernel))) dl_1220 (by decide +kernel) (by decide +kernel) rfl rfl (by decide +kernel) (by decide) (by decide) q1 w1 hWx hS rfl hbx ⟨_, _, rfl, rfl, ⟨_, _, rfl, rfl, ⟨_, _, rfl, rfl, rfl⟩⟩⟩ rfl hl.1 (Nat.le_of_ble_eq_true rfl) rfl (fun v ws1 tys1 H1 locs1 hO hpre hW1 hD1 hk1 hS => ?_)
  obtain ⟨_, rfl, rfl⟩ := hO
  obtain ⟨hWm, hdis⟩ := hWm.other hdis hk1 hD1
  refine lv_aload_n hx hb dl_1223 rfl (lv_at hl 2 rfl) ?_
  refine lv_aload_n hx hb dl_1224 rfl (lv_at hl 4 rfl) ?_
  refine lv_iload hx hb dl_1225 (lv_at hl 0 rfl) ?_
  refine lv_iconst (v := 1) hx hb dl_1227 (by decide) ?_
  refine lv_iadd hx hb dl_1228 ?_
  refine va_sld hx hb hX hbl hbA hS vI1 dl_1229 ?_
  refine lv_aload_n hx hb dl_1230 rfl (lv_at hl 4 rfl) ?_
  refine lv_iload hx hb dl_1231 (lv_at hl 0 rfl) ?_
  refine lv_iconst (v := 2) hx hb dl_1233 (by decide) ?_
  refine lv_iadd hx hb dl_1234 ?_
  refine va_sld hx hb hX hbl hbA hS vI2 dl_1235 ?_
  refine lv_aload_n hx hb dl_1236 rfl (lv_at hl 4 rfl) ?_
  refine lv_iload hx hb dl_1237 (lv_at hl 0 rfl) ?_
  refine lv_iconst (v := 3) hx hb dl_1239 (by decide) ?_
  refine lv_iadd hx hb dl_1240 ?_
  refine va_sld hx hb hX hbl hbA hS vI3 dl_1241 ?_
  refine z_law (rest := [.int r0]) C (x := 234) (idx := 138) (by decide) (by decide +kernel) (List.mem_append_right _ (List.mem_of_getElem? (i := 1595) (by decide +kernel))) dl_1242 (by decide +kernel) (by decide +kernel) rfl rfl (by decide +kernel) (by decide) (by decide) q2 w2 hWm hS rfl hbm ⟨_, _, rfl, rfl, ⟨_, _, rfl, rfl, ⟨_, _, rfl, rfl, rfl⟩⟩⟩ rfl hl.1 (Nat.le_of_ble_eq_true rfl) rfl (fun v ws1 tys1 H1 locs1 hO hpre hW1 hD1 hk1 hS => ?_)
  obtain ⟨_, rfl, rfl⟩ := hO
  refine lv_icmp_eq (tgt := 1570) hx hb dl_1245 (by decide) (fun _ => ?_) (fun h => absurd rfl h)
  exact law_exit (by decide) (by decide) C hX hbl hr hlocks hS hl
set_option maxRecDepth 100000 in
set_option maxHeartbeats 4000000 in
theorem law_27 {p : Program} {l : Launch} {e : Env} {s : State} {m : MethodId} {below : List Frame} {meth : Method} {c : Code} {b : Nat} {xs : Nat → Int32} {D : va_G} {wsx wsm : va_W} {tysx tysm : List (ClassId × FieldType)} {bx bm qo : Nat} {H : Heap} {locs : List Loc} {ls : Array Slot} (B : zBe p s m meth c b xs D wsx wsm tysx tysm bx bm qo H locs ls) : W p l e room_1 s m #[Value.ref b] below meth c H locs 103 8850 (lw_Z below #[Value.ref b] s) (F0 m 1250 ls []) := by
  obtain ⟨C, hX, hbl, hr, hlocks, hWx, hWm, hdis, hS, hbx, hbm, hl⟩ := B
  obtain ⟨hx, hb, hml, hown, hts, hN⟩ := id C
  have hbA : ¬ zA s b := Nat.not_le.mpr hbl
  obtain ⟨w1, w2, f, r0, G1, G2, q1, q2⟩ := aChk_at zc_window (xs := [xs ((0 : Int32) + 1).toNatClampNeg, xs ((0 : Int32) + 2).toNatClampNeg]) rfl
  refine lv_aload_n hx hb dl_1250 rfl (lv_at hl 3 rfl) ?_
  refine lv_aload_n hx hb dl_1251 rfl (lv_at hl 4 rfl) ?_
  refine lv_iload hx hb dl_1252 (lv_at hl 0 rfl) ?_
  refine lv_iconst (v := 1) hx hb dl_1254 (by decide) ?_
  refine lv_iadd hx hb dl_1255 ?_
  refine va_sld hx hb hX hbl hbA hS vI1 dl_1256 ?_
  refine lv_aload_n hx hb dl_1257 rfl (lv_at hl 4 rfl) ?_
  refine lv_iload hx hb dl_1258 (lv_at hl 0 rfl) ?_
  refine lv_iconst (v := 2) hx hb dl_1260 (by decide) ?_
  refine lv_iadd hx hb dl_1261 ?_
  refine va_sld hx hb hX hbl hbA hS vI2 dl_1262 ?_
  refine z_law (rest := []) C (x := 141) (idx := 139) (by decide) (by decide +kernel) (List.mem_append_right _ (List.mem_of_getElem? (i := 975) (by decide +kernel))) dl_1263 (by decide +kernel) (by decide +kernel) rfl rfl (by decide +kernel) (by decide) (by decide) q1 w1 hWx hS rfl hbx ⟨_, _, rfl, rfl, ⟨_, _, rfl, rfl, rfl⟩⟩ rfl hl.1 (Nat.le_of_ble_eq_true rfl) rfl (fun v ws1 tys1 H1 locs1 hO hpre hW1 hD1 hk1 hS => ?_)
  obtain ⟨_, rfl, rfl⟩ := hO
  obtain ⟨hWm, hdis⟩ := hWm.other hdis hk1 hD1
  refine lv_aload_n hx hb dl_1266 rfl (lv_at hl 2 rfl) ?_
  refine lv_aload_n hx hb dl_1267 rfl (lv_at hl 4 rfl) ?_
  refine lv_iload hx hb dl_1268 (lv_at hl 0 rfl) ?_
  refine lv_iconst (v := 1) hx hb dl_1270 (by decide) ?_
  refine lv_iadd hx hb dl_1271 ?_
  refine va_sld hx hb hX hbl hbA hS vI1 dl_1272 ?_
  refine lv_aload_n hx hb dl_1273 rfl (lv_at hl 4 rfl) ?_
  refine lv_iload hx hb dl_1274 (lv_at hl 0 rfl) ?_
  refine lv_iconst (v := 2) hx hb dl_1276 (by decide) ?_
  refine lv_iadd hx hb dl_1277 ?_
  refine va_sld hx hb hX hbl hbA hS vI2 dl_1278 ?_
  refine z_law (rest := [.int r0]) C (x := 235) (idx := 142) (by decide) (by decide +kernel) (List.mem_append_right _ (List.mem_of_getElem? (i := 1603) (by decide +kernel))) dl_1279 (by decide +kernel) (by decide +kernel) rfl rfl (by decide +kernel) (by decide) (by decide) q2 w2 hWm hS rfl hbm ⟨_, _, rfl, rfl, ⟨_, _, rfl, rfl, rfl⟩⟩ rfl hl.1 (Nat.le_of_ble_eq_true rfl) rfl (fun v ws1 tys1 H1 locs1 hO hpre hW1 hD1 hk1 hS => ?_)
  obtain ⟨_, rfl, rfl⟩ := hO
  refine lv_icmp_eq (tgt := 1570) hx hb dl_1282 (by decide) (fun _ => ?_) (fun h => absurd rfl h)
  exact law_exit (by decide) (by decide) C hX hbl hr hlocks hS hl
set_option maxRecDepth 100000 in
set_option maxHeartbeats 4000000 in
theorem law_28 {p : Program} {l : Launch} {e : Env} {s : State} {m : MethodId} {below : List Frame} {meth : Method} {c : Code} {b : Nat} {xs : Nat → Int32} {D : va_G} {wsx wsm : va_W} {tysx tysm : List (ClassId × FieldType)} {bx bm qo : Nat} {H : Heap} {locs : List Loc} {ls : Array Slot} (B : zBe p s m meth c b xs D wsx wsm tysx tysm bx bm qo H locs ls) : W p l e room_1 s m #[Value.ref b] below meth c H locs 103 8850 (lw_Z below #[Value.ref b] s) (F0 m 1287 ls []) := by
  obtain ⟨C, hX, hbl, hr, hlocks, hWx, hWm, hdis, hS, hbx, hbm, hl⟩ := B
  obtain ⟨hx, hb, hml, hown, hts, hN⟩ := id C
  have hbA : ¬ zA s b := Nat.not_le.mpr hbl
  obtain ⟨w1, w2, f, r0, G1, G2, q1, q2⟩ := aChk_at zc_lost (xs := [xs ((0 : Int32) + 1).toNatClampNeg, xs ((0 : Int32) + 2).toNatClampNeg, xs ((0 : Int32) + 3).toNatClampNeg]) rfl
  refine lv_aload_n hx hb dl_1287 rfl (lv_at hl 3 rfl) ?_
  refine lv_aload_n hx hb dl_1288 rfl (lv_at hl 4 rfl) ?_
  refine lv_iload hx hb dl_1289 (lv_at hl 0 rfl) ?_
  refine lv_iconst (v := 1) hx hb dl_1291 (by decide) ?_
  refine lv_iadd hx hb dl_1292 ?_
  refine va_sld hx hb hX hbl hbA hS vI1 dl_1293 ?_
  refine lv_aload_n hx hb dl_1294 rfl (lv_at hl 4 rfl) ?_
  refine lv_iload hx hb dl_1295 (lv_at hl 0 rfl) ?_
  refine lv_iconst (v := 2) hx hb dl_1297 (by decide) ?_
  refine lv_iadd hx hb dl_1298 ?_
  refine va_sld hx hb hX hbl hbA hS vI2 dl_1299 ?_
  refine lv_aload_n hx hb dl_1300 rfl (lv_at hl 4 rfl) ?_
  refine lv_iload hx hb dl_1301 (lv_at hl 0 rfl) ?_
  refine lv_iconst (v := 3) hx hb dl_1303 (by decide) ?_
  refine lv_iadd hx hb dl_1304 ?_
  refine va_sld hx hb hX hbl hbA hS vI3 dl_1305 ?_
  refine z_law (rest := []) C (x := 142) (idx := 143) (by decide) (by decide +kernel) (List.mem_append_right _ (List.mem_of_getElem? (i := 988) (by decide +kernel))) dl_1306 (by decide +kernel) (by decide +kernel) rfl rfl (by decide +kernel) (by decide) (by decide) q1 w1 hWx hS rfl hbx ⟨_, _, rfl, rfl, ⟨_, _, rfl, rfl, ⟨_, _, rfl, rfl, rfl⟩⟩⟩ rfl hl.1 (Nat.le_of_ble_eq_true rfl) rfl (fun v ws1 tys1 H1 locs1 hO hpre hW1 hD1 hk1 hS => ?_)
  obtain ⟨_, rfl, rfl⟩ := hO
  obtain ⟨hWm, hdis⟩ := hWm.other hdis hk1 hD1
  refine lv_aload_n hx hb dl_1309 rfl (lv_at hl 2 rfl) ?_
  refine lv_aload_n hx hb dl_1310 rfl (lv_at hl 4 rfl) ?_
  refine lv_iload hx hb dl_1311 (lv_at hl 0 rfl) ?_
  refine lv_iconst (v := 1) hx hb dl_1313 (by decide) ?_
  refine lv_iadd hx hb dl_1314 ?_
  refine va_sld hx hb hX hbl hbA hS vI1 dl_1315 ?_
  refine lv_aload_n hx hb dl_1316 rfl (lv_at hl 4 rfl) ?_
  refine lv_iload hx hb dl_1317 (lv_at hl 0 rfl) ?_
  refine lv_iconst (v := 2) hx hb dl_1319 (by decide) ?_
  refine lv_iadd hx hb dl_1320 ?_
  refine va_sld hx hb hX hbl hbA hS vI2 dl_1321 ?_
  refine lv_aload_n hx hb dl_1322 rfl (lv_at hl 4 rfl) ?_
  refine lv_iload hx hb dl_1323 (lv_at hl 0 rfl) ?_
  refine lv_iconst (v := 3) hx hb dl_1325 (by decide) ?_
  refine lv_iadd hx hb dl_1326 ?_
  refine va_sld hx hb hX hbl hbA hS vI3 dl_1327 ?_
  refine z_law (rest := [.int r0]) C (x := 247) (idx := 146) (by decide) (by decide +kernel) (List.mem_append_right _ (List.mem_of_getElem? (i := 1650) (by decide +kernel))) dl_1328 (by decide +kernel) (by decide +kernel) rfl rfl (by decide +kernel) (by decide) (by decide) q2 w2 hWm hS rfl hbm ⟨_, _, rfl, rfl, ⟨_, _, rfl, rfl, ⟨_, _, rfl, rfl, rfl⟩⟩⟩ rfl hl.1 (Nat.le_of_ble_eq_true rfl) rfl (fun v ws1 tys1 H1 locs1 hO hpre hW1 hD1 hk1 hS => ?_)
  obtain ⟨_, rfl, rfl⟩ := hO
  refine lv_icmp_eq (tgt := 1570) hx hb dl_1331 (by decide) (fun _ => ?_) (fun h => absurd rfl h)
  exact law_exit (by decide) (by decide) C hX hbl hr hlocks hS hl
set_option maxRecDepth 100000 in
set_option maxHeartbeats 4000000 in
theorem law_29 {p : Program} {l : Launch} {e : Env} {s : State} {m : MethodId} {below : List Frame} {meth : Method} {c : Code} {b : Nat} {xs : Nat → Int32} {D : va_G} {wsx wsm : va_W} {tysx tysm : List (ClassId × FieldType)} {bx bm qo : Nat} {H : Heap} {locs : List Loc} {ls : Array Slot} (B : zBe p s m meth c b xs D wsx wsm tysx tysm bx bm qo H locs ls) : W p l e room_1 s m #[Value.ref b] below meth c H locs 103 8850 (lw_Z below #[Value.ref b] s) (F0 m 1336 ls []) := by
  obtain ⟨C, hX, hbl, hr, hlocks, hWx, hWm, hdis, hS, hbx, hbm, hl⟩ := B
  obtain ⟨hx, hb, hml, hown, hts, hN⟩ := id C
  have hbA : ¬ zA s b := Nat.not_le.mpr hbl
  obtain ⟨w1, w2, f, r0, G1, G2, q1, q2⟩ := aChk_at zc_ifSwapped (xs := [xs ((0 : Int32) + 1).toNatClampNeg, xs ((0 : Int32) + 2).toNatClampNeg, xs ((0 : Int32) + 3).toNatClampNeg]) rfl
  refine lv_aload_n hx hb dl_1336 rfl (lv_at hl 3 rfl) ?_
  refine lv_aload_n hx hb dl_1337 rfl (lv_at hl 4 rfl) ?_
  refine lv_iload hx hb dl_1338 (lv_at hl 0 rfl) ?_
  refine lv_iconst (v := 1) hx hb dl_1340 (by decide) ?_
  refine lv_iadd hx hb dl_1341 ?_
  refine va_sld hx hb hX hbl hbA hS vI1 dl_1342 ?_
  refine lv_aload_n hx hb dl_1343 rfl (lv_at hl 4 rfl) ?_
  refine lv_iload hx hb dl_1344 (lv_at hl 0 rfl) ?_
  refine lv_iconst (v := 2) hx hb dl_1346 (by decide) ?_
  refine lv_iadd hx hb dl_1347 ?_
  refine va_sld hx hb hX hbl hbA hS vI2 dl_1348 ?_
  refine lv_aload_n hx hb dl_1349 rfl (lv_at hl 4 rfl) ?_
  refine lv_iload hx hb dl_1350 (lv_at hl 0 rfl) ?_
  refine lv_iconst (v := 3) hx hb dl_1352 (by decide) ?_
  refine lv_iadd hx hb dl_1353 ?_
  refine va_sld hx hb hX hbl hbA hS vI3 dl_1354 ?_
  refine z_law (rest := []) C (x := 143) (idx := 147) (by decide) (by decide +kernel) (List.mem_append_right _ (List.mem_of_getElem? (i := 996) (by decide +kernel))) dl_1355 (by decide +kernel) (by decide +kernel) rfl rfl (by decide +kernel) (by decide) (by decide) q1 w1 hWx hS rfl hbx ⟨_, _, rfl, rfl, ⟨_, _, rfl, rfl, ⟨_, _, rfl, rfl, rfl⟩⟩⟩ rfl hl.1 (Nat.le_of_ble_eq_true rfl) rfl (fun v ws1 tys1 H1 locs1 hO hpre hW1 hD1 hk1 hS => ?_)
  obtain ⟨_, rfl, rfl⟩ := hO
  obtain ⟨hWm, hdis⟩ := hWm.other hdis hk1 hD1
  refine lv_aload_n hx hb dl_1358 rfl (lv_at hl 2 rfl) ?_
  refine lv_aload_n hx hb dl_1359 rfl (lv_at hl 4 rfl) ?_
  refine lv_iload hx hb dl_1360 (lv_at hl 0 rfl) ?_
  refine lv_iconst (v := 1) hx hb dl_1362 (by decide) ?_
  refine lv_iadd hx hb dl_1363 ?_
  refine va_sld hx hb hX hbl hbA hS vI1 dl_1364 ?_
  refine lv_aload_n hx hb dl_1365 rfl (lv_at hl 4 rfl) ?_
  refine lv_iload hx hb dl_1366 (lv_at hl 0 rfl) ?_
  refine lv_iconst (v := 2) hx hb dl_1368 (by decide) ?_
  refine lv_iadd hx hb dl_1369 ?_
  refine va_sld hx hb hX hbl hbA hS vI2 dl_1370 ?_
  refine lv_aload_n hx hb dl_1371 rfl (lv_at hl 4 rfl) ?_
  refine lv_iload hx hb dl_1372 (lv_at hl 0 rfl) ?_
  refine lv_iconst (v := 3) hx hb dl_1374 (by decide) ?_
  refine lv_iadd hx hb dl_1375 ?_
  refine va_sld hx hb hX hbl hbA hS vI3 dl_1376 ?_
  refine z_law (rest := [.int r0]) C (x := 248) (idx := 150) (by decide) (by decide +kernel) (List.mem_append_right _ (List.mem_of_getElem? (i := 1654) (by decide +kernel))) dl_1377 (by decide +kernel) (by decide +kernel) rfl rfl (by decide +kernel) (by decide) (by decide) q2 w2 hWm hS rfl hbm ⟨_, _, rfl, rfl, ⟨_, _, rfl, rfl, ⟨_, _, rfl, rfl, rfl⟩⟩⟩ rfl hl.1 (Nat.le_of_ble_eq_true rfl) rfl (fun v ws1 tys1 H1 locs1 hO hpre hW1 hD1 hk1 hS => ?_)
  obtain ⟨_, rfl, rfl⟩ := hO
  refine lv_icmp_eq (tgt := 1570) hx hb dl_1380 (by decide) (fun _ => ?_) (fun h => absurd rfl h)
  exact law_exit (by decide) (by decide) C hX hbl hr hlocks hS hl
set_option maxRecDepth 100000 in
set_option maxHeartbeats 4000000 in
theorem law_30 {p : Program} {l : Launch} {e : Env} {s : State} {m : MethodId} {below : List Frame} {meth : Method} {c : Code} {b : Nat} {xs : Nat → Int32} {D : va_G} {wsx wsm : va_W} {tysx tysm : List (ClassId × FieldType)} {bx bm qo : Nat} {H : Heap} {locs : List Loc} {ls : Array Slot} (B : zBe p s m meth c b xs D wsx wsm tysx tysm bx bm qo H locs ls) : W p l e room_1 s m #[Value.ref b] below meth c H locs 103 8850 (lw_Z below #[Value.ref b] s) (F0 m 1385 ls []) := by
  obtain ⟨C, hX, hbl, hr, hlocks, hWx, hWm, hdis, hS, hbx, hbm, hl⟩ := B
  obtain ⟨hx, hb, hml, hown, hts, hN⟩ := id C
  have hbA : ¬ zA s b := Nat.not_le.mpr hbl
  obtain ⟨w1, w2, f, r0, G1, G2, q1, q2⟩ := aChk_at zc_busy (xs := [xs ((0 : Int32) + 1).toNatClampNeg, xs ((0 : Int32) + 2).toNatClampNeg]) rfl
  refine lv_aload_n hx hb dl_1385 rfl (lv_at hl 3 rfl) ?_
  refine lv_aload_n hx hb dl_1386 rfl (lv_at hl 4 rfl) ?_
  refine lv_iload hx hb dl_1387 (lv_at hl 0 rfl) ?_
  refine lv_iconst (v := 1) hx hb dl_1389 (by decide) ?_
  refine lv_iadd hx hb dl_1390 ?_
  refine va_sld hx hb hX hbl hbA hS vI1 dl_1391 ?_
  refine lv_aload_n hx hb dl_1392 rfl (lv_at hl 4 rfl) ?_
  refine lv_iload hx hb dl_1393 (lv_at hl 0 rfl) ?_
  refine lv_iconst (v := 2) hx hb dl_1395 (by decide) ?_
  refine lv_iadd hx hb dl_1396 ?_
  refine va_sld hx hb hX hbl hbA hS vI2 dl_1397 ?_
  refine z_law (rest := []) C (x := 144) (idx := 151) (by decide) (by decide +kernel) (List.mem_append_right _ (List.mem_of_getElem? (i := 1004) (by decide +kernel))) dl_1398 (by decide +kernel) (by decide +kernel) rfl rfl (by decide +kernel) (by decide) (by decide) q1 w1 hWx hS rfl hbx ⟨_, _, rfl, rfl, ⟨_, _, rfl, rfl, rfl⟩⟩ rfl hl.1 (Nat.le_of_ble_eq_true rfl) rfl (fun v ws1 tys1 H1 locs1 hO hpre hW1 hD1 hk1 hS => ?_)
  obtain ⟨_, rfl, rfl⟩ := hO
  obtain ⟨hWm, hdis⟩ := hWm.other hdis hk1 hD1
  refine lv_aload_n hx hb dl_1401 rfl (lv_at hl 2 rfl) ?_
  refine lv_aload_n hx hb dl_1402 rfl (lv_at hl 4 rfl) ?_
  refine lv_iload hx hb dl_1403 (lv_at hl 0 rfl) ?_
  refine lv_iconst (v := 1) hx hb dl_1405 (by decide) ?_
  refine lv_iadd hx hb dl_1406 ?_
  refine va_sld hx hb hX hbl hbA hS vI1 dl_1407 ?_
  refine lv_aload_n hx hb dl_1408 rfl (lv_at hl 4 rfl) ?_
  refine lv_iload hx hb dl_1409 (lv_at hl 0 rfl) ?_
  refine lv_iconst (v := 2) hx hb dl_1411 (by decide) ?_
  refine lv_iadd hx hb dl_1412 ?_
  refine va_sld hx hb hX hbl hbA hS vI2 dl_1413 ?_
  refine z_law (rest := [.int r0]) C (x := 250) (idx := 154) (by decide) (by decide +kernel) (List.mem_append_right _ (List.mem_of_getElem? (i := 1658) (by decide +kernel))) dl_1414 (by decide +kernel) (by decide +kernel) rfl rfl (by decide +kernel) (by decide) (by decide) q2 w2 hWm hS rfl hbm ⟨_, _, rfl, rfl, ⟨_, _, rfl, rfl, rfl⟩⟩ rfl hl.1 (Nat.le_of_ble_eq_true rfl) rfl (fun v ws1 tys1 H1 locs1 hO hpre hW1 hD1 hk1 hS => ?_)
  obtain ⟨_, rfl, rfl⟩ := hO
  refine lv_icmp_eq (tgt := 1570) hx hb dl_1417 (by decide) (fun _ => ?_) (fun h => absurd rfl h)
  exact law_exit (by decide) (by decide) C hX hbl hr hlocks hS hl
set_option maxRecDepth 100000 in
set_option maxHeartbeats 4000000 in
theorem law_31 {p : Program} {l : Launch} {e : Env} {s : State} {m : MethodId} {below : List Frame} {meth : Method} {c : Code} {b : Nat} {xs : Nat → Int32} {D : va_G} {wsx wsm : va_W} {tysx tysm : List (ClassId × FieldType)} {bx bm qo : Nat} {H : Heap} {locs : List Loc} {ls : Array Slot} (B : zBe p s m meth c b xs D wsx wsm tysx tysm bx bm qo H locs ls) : W p l e room_1 s m #[Value.ref b] below meth c H locs 103 8850 (lw_Z below #[Value.ref b] s) (F0 m 1422 ls []) := by
  obtain ⟨C, hX, hbl, hr, hlocks, hWx, hWm, hdis, hS, hbx, hbm, hl⟩ := B
  obtain ⟨hx, hb, hml, hown, hts, hN⟩ := id C
  have hbA : ¬ zA s b := Nat.not_le.mpr hbl
  obtain ⟨w1, w2, f, r0, G1, G2, q1, q2⟩ := aChk_at zc_travelled (xs := [xs ((0 : Int32) + 1).toNatClampNeg]) rfl
  refine lv_aload_n hx hb dl_1422 rfl (lv_at hl 3 rfl) ?_
  refine lv_aload_n hx hb dl_1423 rfl (lv_at hl 4 rfl) ?_
  refine lv_iload hx hb dl_1424 (lv_at hl 0 rfl) ?_
  refine lv_iconst (v := 1) hx hb dl_1426 (by decide) ?_
  refine lv_iadd hx hb dl_1427 ?_
  refine va_sld hx hb hX hbl hbA hS vI1 dl_1428 ?_
  refine z_law (rest := []) C (x := 145) (idx := 155) (by decide) (by decide +kernel) (List.mem_append_right _ (List.mem_of_getElem? (i := 1012) (by decide +kernel))) dl_1429 (by decide +kernel) (by decide +kernel) rfl rfl (by decide +kernel) (by decide) (by decide) q1 w1 hWx hS rfl hbx ⟨_, _, rfl, rfl, rfl⟩ rfl hl.1 (Nat.le_of_ble_eq_true rfl) rfl (fun v ws1 tys1 H1 locs1 hO hpre hW1 hD1 hk1 hS => ?_)
  obtain ⟨_, rfl, rfl⟩ := hO
  obtain ⟨hWm, hdis⟩ := hWm.other hdis hk1 hD1
  refine lv_aload_n hx hb dl_1432 rfl (lv_at hl 2 rfl) ?_
  refine lv_aload_n hx hb dl_1433 rfl (lv_at hl 4 rfl) ?_
  refine lv_iload hx hb dl_1434 (lv_at hl 0 rfl) ?_
  refine lv_iconst (v := 1) hx hb dl_1436 (by decide) ?_
  refine lv_iadd hx hb dl_1437 ?_
  refine va_sld hx hb hX hbl hbA hS vI1 dl_1438 ?_
  refine z_law (rest := [.int r0]) C (x := 251) (idx := 158) (by decide) (by decide +kernel) (List.mem_append_right _ (List.mem_of_getElem? (i := 1666) (by decide +kernel))) dl_1439 (by decide +kernel) (by decide +kernel) rfl rfl (by decide +kernel) (by decide) (by decide) q2 w2 hWm hS rfl hbm ⟨_, _, rfl, rfl, rfl⟩ rfl hl.1 (Nat.le_of_ble_eq_true rfl) rfl (fun v ws1 tys1 H1 locs1 hO hpre hW1 hD1 hk1 hS => ?_)
  obtain ⟨_, rfl, rfl⟩ := hO
  refine lv_icmp_eq (tgt := 1570) hx hb dl_1442 (by decide) (fun _ => ?_) (fun h => absurd rfl h)
  exact law_exit (by decide) (by decide) C hX hbl hr hlocks hS hl
set_option maxRecDepth 100000 in
set_option maxHeartbeats 4000000 in
theorem law_32 {p : Program} {l : Launch} {e : Env} {s : State} {m : MethodId} {below : List Frame} {meth : Method} {c : Code} {b : Nat} {xs : Nat → Int32} {D : va_G} {wsx wsm : va_W} {tysx tysm : List (ClassId × FieldType)} {bx bm qo : Nat} {H : Heap} {locs : List Loc} {ls : Array Slot} (B : zBe p s m meth c b xs D wsx wsm tysx tysm bx bm qo H locs ls) : W p l e room_1 s m #[Value.ref b] below meth c H locs 103 8850 (lw_Z below #[Value.ref b] s) (F0 m 1447 ls []) := by
  obtain ⟨C, hX, hbl, hr, hlocks, hWx, hWm, hdis, hS, hbx, hbm, hl⟩ := B
  obtain ⟨hx, hb, hml, hown, hts, hN⟩ := id C
  have hbA : ¬ zA s b := Nat.not_le.mpr hbl
  obtain ⟨w1, w2, f, r0, G1, G2, q1, q2⟩ := aChk_at zc_clash (xs := [xs ((0 : Int32) + 1).toNatClampNeg, xs ((0 : Int32) + 2).toNatClampNeg, xs ((0 : Int32) + 3).toNatClampNeg]) rfl
  refine lv_aload_n hx hb dl_1447 rfl (lv_at hl 3 rfl) ?_
  refine lv_aload_n hx hb dl_1448 rfl (lv_at hl 4 rfl) ?_
  refine lv_iload hx hb dl_1449 (lv_at hl 0 rfl) ?_
  refine lv_iconst (v := 1) hx hb dl_1451 (by decide) ?_
  refine lv_iadd hx hb dl_1452 ?_
  refine va_sld hx hb hX hbl hbA hS vI1 dl_1453 ?_
  refine lv_aload_n hx hb dl_1454 rfl (lv_at hl 4 rfl) ?_
  refine lv_iload hx hb dl_1455 (lv_at hl 0 rfl) ?_
  refine lv_iconst (v := 2) hx hb dl_1457 (by decide) ?_
  refine lv_iadd hx hb dl_1458 ?_
  refine va_sld hx hb hX hbl hbA hS vI2 dl_1459 ?_
  refine lv_aload_n hx hb dl_1460 rfl (lv_at hl 4 rfl) ?_
  refine lv_iload hx hb dl_1461 (lv_at hl 0 rfl) ?_
  refine lv_iconst (v := 3) hx hb dl_1463 (by decide) ?_
  refine lv_iadd hx hb dl_1464 ?_
  refine va_sld hx hb hX hbl hbA hS vI3 dl_1465 ?_
  refine z_law (rest := []) C (x := 146) (idx := 159) (by decide) (by decide +kernel) (List.mem_append_right _ (List.mem_of_getElem? (i := 1021) (by decide +kernel))) dl_1466 (by decide +kernel) (by decide +kernel) rfl rfl (by decide +kernel) (by decide) (by decide) q1 w1 hWx hS rfl hbx ⟨_, _, rfl, rfl, ⟨_, _, rfl, rfl, ⟨_, _, rfl, rfl, rfl⟩⟩⟩ rfl hl.1 (Nat.le_of_ble_eq_true rfl) rfl (fun v ws1 tys1 H1 locs1 hO hpre hW1 hD1 hk1 hS => ?_)
  obtain ⟨_, rfl, rfl⟩ := hO
  obtain ⟨hWm, hdis⟩ := hWm.other hdis hk1 hD1
  refine lv_aload_n hx hb dl_1469 rfl (lv_at hl 2 rfl) ?_
  refine lv_aload_n hx hb dl_1470 rfl (lv_at hl 4 rfl) ?_
  refine lv_iload hx hb dl_1471 (lv_at hl 0 rfl) ?_
  refine lv_iconst (v := 1) hx hb dl_1473 (by decide) ?_
  refine lv_iadd hx hb dl_1474 ?_
  refine va_sld hx hb hX hbl hbA hS vI1 dl_1475 ?_
  refine lv_aload_n hx hb dl_1476 rfl (lv_at hl 4 rfl) ?_
  refine lv_iload hx hb dl_1477 (lv_at hl 0 rfl) ?_
  refine lv_iconst (v := 2) hx hb dl_1479 (by decide) ?_
  refine lv_iadd hx hb dl_1480 ?_
  refine va_sld hx hb hX hbl hbA hS vI2 dl_1481 ?_
  refine lv_aload_n hx hb dl_1482 rfl (lv_at hl 4 rfl) ?_
  refine lv_iload hx hb dl_1483 (lv_at hl 0 rfl) ?_
  refine lv_iconst (v := 3) hx hb dl_1485 (by decide) ?_
  refine lv_iadd hx hb dl_1486 ?_
  refine va_sld hx hb hX hbl hbA hS vI3 dl_1487 ?_
  refine z_law (rest := [.int r0]) C (x := 245) (idx := 162) (by decide) (by decide +kernel) (List.mem_append_right _ (List.mem_of_getElem? (i := 1642) (by decide +kernel))) dl_1488 (by decide +kernel) (by decide +kernel) rfl rfl (by decide +kernel) (by decide) (by decide) q2 w2 hWm hS rfl hbm ⟨_, _, rfl, rfl, ⟨_, _, rfl, rfl, ⟨_, _, rfl, rfl, rfl⟩⟩⟩ rfl hl.1 (Nat.le_of_ble_eq_true rfl) rfl (fun v ws1 tys1 H1 locs1 hO hpre hW1 hD1 hk1 hS => ?_)
  obtain ⟨_, rfl, rfl⟩ := hO
  refine lv_icmp_eq (tgt := 1570) hx hb dl_1491 (by decide) (fun _ => ?_) (fun h => absurd rfl h)
  exact law_exit (by decide) (by decide) C hX hbl hr hlocks hS hl
set_option maxRecDepth 100000 in
set_option maxHeartbeats 4000000 in
theorem law_33 {p : Program} {l : Launch} {e : Env} {s : State} {m : MethodId} {below : List Frame} {meth : Method} {c : Code} {b : Nat} {xs : Nat → Int32} {D : va_G} {wsx wsm : va_W} {tysx tysm : List (ClassId × FieldType)} {bx bm qo : Nat} {H : Heap} {locs : List Loc} {ls : Array Slot} (B : zBe p s m meth c b xs D wsx wsm tysx tysm bx bm qo H locs ls) : W p l e room_1 s m #[Value.ref b] below meth c H locs 103 8850 (lw_Z below #[Value.ref b] s) (F0 m 1496 ls []) := by
  obtain ⟨C, hX, hbl, hr, hlocks, hWx, hWm, hdis, hS, hbx, hbm, hl⟩ := B
  obtain ⟨hx, hb, hml, hown, hts, hN⟩ := id C
  have hbA : ¬ zA s b := Nat.not_le.mpr hbl
  obtain ⟨w1, w2, f, r0, G1, G2, q1, q2⟩ := aChk_at zc_soonest (xs := [xs ((0 : Int32) + 1).toNatClampNeg, xs ((0 : Int32) + 2).toNatClampNeg, xs ((0 : Int32) + 3).toNatClampNeg]) rfl
  refine lv_aload_n hx hb dl_1496 rfl (lv_at hl 3 rfl) ?_
  refine lv_aload_n hx hb dl_1497 rfl (lv_at hl 4 rfl) ?_
  refine lv_iload hx hb dl_1498 (lv_at hl 0 rfl) ?_
  refine lv_iconst (v := 1) hx hb dl_1500 (by decide) ?_
  refine lv_iadd hx hb dl_1501 ?_
  refine va_sld hx hb hX hbl hbA hS vI1 dl_1502 ?_
  refine lv_aload_n hx hb dl_1503 rfl (lv_at hl 4 rfl) ?_
  refine lv_iload hx hb dl_1504 (lv_at hl 0 rfl) ?_
  refine lv_iconst (v := 2) hx hb dl_1506 (by decide) ?_
  refine lv_iadd hx hb dl_1507 ?_
  refine va_sld hx hb hX hbl hbA hS vI2 dl_1508 ?_
  refine lv_aload_n hx hb dl_1509 rfl (lv_at hl 4 rfl) ?_
  refine lv_iload hx hb dl_1510 (lv_at hl 0 rfl) ?_
  refine lv_iconst (v := 3) hx hb dl_1512 (by decide) ?_
  refine lv_iadd hx hb dl_1513 ?_
  refine va_sld hx hb hX hbl hbA hS vI3 dl_1514 ?_
  refine z_law (rest := []) C (x := 147) (idx := 163) (by decide) (by decide +kernel) (List.mem_append_right _ (List.mem_of_getElem? (i := 1029) (by decide +kernel))) dl_1515 (by decide +kernel) (by decide +kernel) rfl rfl (by decide +kernel) (by decide) (by decide) q1 w1 hWx hS rfl hbx ⟨_, _, rfl, rfl, ⟨_, _, rfl, rfl, ⟨_, _, rfl, rfl, rfl⟩⟩⟩ rfl hl.1 (Nat.le_of_ble_eq_true rfl) rfl (fun v ws1 tys1 H1 locs1 hO hpre hW1 hD1 hk1 hS => ?_)
  obtain ⟨_, rfl, rfl⟩ := hO
  obtain ⟨hWm, hdis⟩ := hWm.other hdis hk1 hD1
  refine lv_aload_n hx hb dl_1518 rfl (lv_at hl 2 rfl) ?_
  refine lv_aload_n hx hb dl_1519 rfl (lv_at hl 4 rfl) ?_
  refine lv_iload hx hb dl_1520 (lv_at hl 0 rfl) ?_
  refine lv_iconst (v := 1) hx hb dl_1522 (by decide) ?_
  refine lv_iadd hx hb dl_1523 ?_
  refine va_sld hx hb hX hbl hbA hS vI1 dl_1524 ?_
  refine lv_aload_n hx hb dl_1525 rfl (lv_at hl 4 rfl) ?_
  refine lv_iload hx hb dl_1526 (lv_at hl 0 rfl) ?_
  refine lv_iconst (v := 2) hx hb dl_1528 (by decide) ?_
  refine lv_iadd hx hb dl_1529 ?_
  refine va_sld hx hb hX hbl hbA hS vI2 dl_1530 ?_
  refine lv_aload_n hx hb dl_1531 rfl (lv_at hl 4 rfl) ?_
  refine lv_iload hx hb dl_1532 (lv_at hl 0 rfl) ?_
  refine lv_iconst (v := 3) hx hb dl_1534 (by decide) ?_
  refine lv_iadd hx hb dl_1535 ?_
  refine va_sld hx hb hX hbl hbA hS vI3 dl_1536 ?_
  refine z_law (rest := [.int r0]) C (x := 246) (idx := 166) (by decide) (by decide +kernel) (List.mem_append_right _ (List.mem_of_getElem? (i := 1646) (by decide +kernel))) dl_1537 (by decide +kernel) (by decide +kernel) rfl rfl (by decide +kernel) (by decide) (by decide) q2 w2 hWm hS rfl hbm ⟨_, _, rfl, rfl, ⟨_, _, rfl, rfl, ⟨_, _, rfl, rfl, rfl⟩⟩⟩ rfl hl.1 (Nat.le_of_ble_eq_true rfl) rfl (fun v ws1 tys1 H1 locs1 hO hpre hW1 hD1 hk1 hS => ?_)
  obtain ⟨_, rfl, rfl⟩ := hO
  refine lv_icmp_eq (tgt := 1570) hx hb dl_1540 (by decide) (fun _ => ?_) (fun h => absurd rfl h)
  exact law_exit (by decide) (by decide) C hX hbl hr hlocks hS hl
set_option maxRecDepth 100000 in
set_option maxHeartbeats 4000000 in
theorem law_34 {p : Program} {l : Launch} {e : Env} {s : State} {m : MethodId} {below : List Frame} {meth : Method} {c : Code} {b : Nat} {xs : Nat → Int32} {D : va_G} {wsx wsm : va_W} {tysx tysm : List (ClassId × FieldType)} {bx bm qo : Nat} {H : Heap} {locs : List Loc} {ls : Array Slot} (B : zBe p s m meth c b xs D wsx wsm tysx tysm bx bm qo H locs ls) : W p l e room_1 s m #[Value.ref b] below meth c H locs 103 8850 (lw_Z below #[Value.ref b] s) (F0 m 1545 ls []) := by
  obtain ⟨C, hX, hbl, hr, hlocks, hWx, hWm, hdis, hS, hbx, hbm, hl⟩ := B
  obtain ⟨hx, hb, hml, hown, hts, hN⟩ := id C
  have hbA : ¬ zA s b := Nat.not_le.mpr hbl
  obtain ⟨w1, w2, f, r0, G1, G2, q1, q2⟩ := aChk_at zc_count (xs := [xs ((0 : Int32) + 1).toNatClampNeg]) rfl
  refine lv_aload_n hx hb dl_1545 rfl (lv_at hl 3 rfl) ?_
  refine lv_aload_n hx hb dl_1546 rfl (lv_at hl 4 rfl) ?_
  refine lv_iload hx hb dl_1547 (lv_at hl 0 rfl) ?_
  refine lv_iconst (v := 1) hx hb dl_1549 (by decide) ?_
  refine lv_iadd hx hb dl_1550 ?_
  refine va_sld hx hb hX hbl hbA hS vI1 dl_1551 ?_
  refine z_law (rest := []) C (x := 148) (idx := 167) (by decide) (by decide +kernel) (List.mem_append_right _ (List.mem_of_getElem? (i := 1035) (by decide +kernel))) dl_1552 (by decide +kernel) (by decide +kernel) rfl rfl (by decide +kernel) (by decide) (by decide) q1 w1 hWx hS rfl hbx ⟨_, _, rfl, rfl, rfl⟩ rfl hl.1 (Nat.le_of_ble_eq_true rfl) rfl (fun v ws1 tys1 H1 locs1 hO hpre hW1 hD1 hk1 hS => ?_)
  obtain ⟨_, rfl, rfl⟩ := hO
  obtain ⟨hWm, hdis⟩ := hWm.other hdis hk1 hD1
  refine lv_aload_n hx hb dl_1555 rfl (lv_at hl 2 rfl) ?_
  refine lv_aload_n hx hb dl_1556 rfl (lv_at hl 4 rfl) ?_
  refine lv_iload hx hb dl_1557 (lv_at hl 0 rfl) ?_
  refine lv_iconst (v := 1) hx hb dl_1559 (by decide) ?_
  refine lv_iadd hx hb dl_1560 ?_
  refine va_sld hx hb hX hbl hbA hS vI1 dl_1561 ?_
  refine z_law (rest := [.int r0]) C (x := 252) (idx := 170) (by decide) (by decide +kernel) (List.mem_append_right _ (List.mem_of_getElem? (i := 1670) (by decide +kernel))) dl_1562 (by decide +kernel) (by decide +kernel) rfl rfl (by decide +kernel) (by decide) (by decide) q2 w2 hWm hS rfl hbm ⟨_, _, rfl, rfl, rfl⟩ rfl hl.1 (Nat.le_of_ble_eq_true rfl) rfl (fun v ws1 tys1 H1 locs1 hO hpre hW1 hD1 hk1 hS => ?_)
  obtain ⟨_, rfl, rfl⟩ := hO
  refine lv_icmp_eq (tgt := 1570) hx hb dl_1565 (by decide) (fun _ => ?_) (fun h => absurd rfl h)
  exact law_exit (by decide) (by decide) C hX hbl hr hlocks hS hl
