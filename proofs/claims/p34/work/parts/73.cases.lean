/-! THE LAW'S CASES: a call on both, from every state of the shapes (by program, wip/lawn.py) -/
def zOe (cA : ClassId) (fo : Nat → Int64) : va_E := .inl (cA, 1, .inr (.inl fo))
/-- what doesn't change -/
def zFx (p : Program) (s : State) (m : MethodId) (meth : Method) (c : Code) (b L : Nat) (xs : Nat → Int32) : Prop := zLaw p s m #[Value.ref b] c ∧ va_X b L xs s s.heap ∧ b < s.heap.size ∧ meth.sig.returnType = ret ∧ meth.locks = false ∧ L ≤ 3072
/-- what stands as a case begins and ends -/
def zBe (s : State) (b : Nat) (D : va_G) (bx bm qo : Nat) (i : Int32) (H : Heap) (locs : List Loc) (ls : Array Slot) : Prop :=
  ∃ (wsx wsm : va_W) (tysx tysm : List (ClassId × FieldType)) (cA : ClassId) (fo : Nat → Int64) (Hx Hm : mzH), zWd D s Hx wsx tysx H ∧ zWd D s Hm wsm tysm H ∧ zDis wsx wsm ∧ va_P D vwCl [(qo, zOe cA fo)] H ∧ va_K D vwCl [(cA, .long)] s ∧ va_D (zA s) [(qo, zOe cA fo)] ∧ zDis wsx [(qo, zOe cA fo)] ∧ zDis wsm [(qo, zOe cA fo)] ∧ va_S (zA s) s.heap H locs ∧ (zad wsx)[0]? = some bx ∧ (zad wsm)[0]? = some bm ∧ lv_has ls 7 [(4, .int i), (3, .ref qo), (2, .ref bm), (1, .ref bx), (0, .ref b)] ∧ zIv Hx Hm
theorem vIk {i v : Int32} {L k : Nat} (hv : v.toInt = k) (hk : k ≤ 5) (h : 0 ≤ i.toInt ∧ i.toInt + 6 ≤ L) (hL : L ≤ 3072) : vp_in (i + v) L := by
  have e : (i + v).toInt = i.toInt + v.toInt := gz_add (by omega)
  have e2 : (i + v).toNatClampNeg = (i + v).toInt.toNat := rfl
  intro hh
  rcases hh with hh | hh
  · rw [Int32.lt_iff_toInt_lt, Int32.toInt_zero] at hh
    omega
  · omega
theorem vI0 {i : Int32} {L : Nat} (h : 0 ≤ i.toInt ∧ i.toInt + 6 ≤ L) : vp_in i L := by
  have e2 : i.toNatClampNeg = i.toInt.toNat := rfl
  intro hh
  rcases hh with hh | hh
  · rw [Int32.lt_iff_toInt_lt, Int32.toInt_zero] at hh
    omega
  · omega
theorem zDis.set {w : va_W} {q : Nat} {e e' : va_E} (h : zDis w [(q, e)]) : zDis w [(q, e')] := by
  intro i j p r hp hr
  match j, hr with
  | 0, hr => cases hr; exact h i 0 p (q, e) hp rfl
  | j + 1, hr => simp at hr
set_option maxRecDepth 100000 in
set_option maxHeartbeats 4000000 in
theorem law_0 {p : Program} {l : Launch} {e : Env} {s : State} {m : MethodId} {below : List Frame} {meth : Method} {c : Code} {b L : Nat} {xs : Nat → Int32} {D : va_G} {bx bm qo : Nat} {i : Int32} {H : Heap} {locs : List Loc} {ls : Array Slot} {cells slots : Nat} {Q : State → Prop} (F : zFx p s m meth c b L xs) (hi : 0 ≤ i.toInt ∧ i.toInt + 6 ≤ L) (hc : cells + 1 ≤ 1129) (hs : slots + 6 ≤ 17054) (B : zBe s b D bx bm qo i H locs ls) (KK : ∀ (H : Heap) (locs : List Loc) (ls : Array Slot), zBe s b D bx bm qo i H locs ls → W p l e room_1 s m #[Value.ref b] below meth c H locs (cells + 1) (slots + 6) Q (F0 m 1542 ls [])) : W p l e room_1 s m #[Value.ref b] below meth c H locs cells slots Q (F0 m 196 ls []) := by
  obtain ⟨C, hX, hbl, hr, hlocks, hL⟩ := id F
  obtain ⟨hx, hb, hml, hown, hts, hN, hZt⟩ := id C
  have hbA : ¬ zA s b := Nat.not_le.mpr hbl
  obtain ⟨wsx, wsm, tysx, tysm, cA, fo, Hx, Hm, hWx, hWm, hdis, hPo, hKo, hDo, hdx, hdm, hS, hbx, hbm, hl, hIv⟩ := B
  obtain ⟨f, rx, rm, Gx, Gm, q1, q2, hIv2, hE⟩ := step_0 (xs (i + 1).toNatClampNeg) (xs (i + 2).toNatClampNeg) (xs (i + 3).toNatClampNeg) (xs (i + 4).toNatClampNeg) (xs (i + 5).toNatClampNeg) hIv
  obtain ⟨vx0, hx0, -, -⟩ := gI_obj hIv.1.1 sx_0
  obtain ⟨vm0, hm0, -, -⟩ := gI_obj hIv.2.1.1 sm_0
  refine lv_aload_n hx hb dl_196 rfl (lv_at hl 3 rfl) ?_
  refine lv_aload_n hx hb dl_197 rfl (lv_at hl 4 rfl) ?_
  refine lv_iload hx hb dl_198 (lv_at hl 0 rfl) ?_
  refine lv_iconst (v := 1) hx hb dl_200 (by decide) ?_
  refine lv_iadd hx hb dl_201 ?_
  refine va_sld hx hb hX hbl hbA hS (vIk (k := 1) (by decide) (by decide) hi hL) dl_202 ?_
  refine lv_aload_n hx hb dl_203 rfl (lv_at hl 4 rfl) ?_
  refine lv_iload hx hb dl_204 (lv_at hl 0 rfl) ?_
  refine lv_iconst (v := 2) hx hb dl_206 (by decide) ?_
  refine lv_iadd hx hb dl_207 ?_
  refine va_sld hx hb hX hbl hbA hS (vIk (k := 2) (by decide) (by decide) hi hL) dl_208 ?_
  refine lv_aload_n hx hb dl_209 rfl (lv_at hl 4 rfl) ?_
  refine lv_iload hx hb dl_210 (lv_at hl 0 rfl) ?_
  refine lv_iconst (v := 3) hx hb dl_212 (by decide) ?_
  refine lv_iadd hx hb dl_213 ?_
  refine va_sld hx hb hX hbl hbA hS (vIk (k := 3) (by decide) (by decide) hi hL) dl_214 ?_
  refine lv_aload_n hx hb dl_215 rfl (lv_at hl 4 rfl) ?_
  refine lv_iload hx hb dl_216 (lv_at hl 0 rfl) ?_
  refine lv_iconst (v := 4) hx hb dl_218 (by decide) ?_
  refine lv_iadd hx hb dl_219 ?_
  refine va_sld hx hb hX hbl hbA hS (vIk (k := 4) (by decide) (by decide) hi hL) dl_220 ?_
  refine lv_aload_n hx hb dl_221 rfl (lv_at hl 4 rfl) ?_
  refine lv_iload hx hb dl_222 (lv_at hl 0 rfl) ?_
  refine lv_iconst (v := 5) hx hb dl_224 (by decide) ?_
  refine lv_iadd hx hb dl_225 ?_
  refine va_sld hx hb hX hbl hbA hS (vIk (k := 5) (by decide) (by decide) hi hL) dl_226 ?_
  refine z_law (rest := []) C (x := 113) (idx := 21) (by decide) (by decide +kernel) (List.mem_append_right _ (List.mem_of_getElem? (i := 377) (by decide +kernel))) dl_227 (by decide +kernel) (by decide +kernel) rfl rfl (by decide +kernel) (show cells ≤ 1129 by omega) (show slots ≤ 17054 by omega) q1 (Nat.le_of_ble_eq_true rfl) hWx hS hx0 hbx ⟨_, _, rfl, rfl, ⟨_, _, rfl, rfl, ⟨_, _, rfl, rfl, ⟨_, _, rfl, rfl, ⟨_, _, rfl, rfl, rfl⟩⟩⟩⟩⟩ rfl hl.1 (Nat.le_of_ble_eq_true rfl) rfl (fun v ws1 tys1 H1 locs1 hO hpre hW1 hD1 hk1 hS => ?_)
  obtain ⟨_, rfl, rfl⟩ := hO
  obtain ⟨hWm, hdis⟩ := hWm.other hdis hk1 hD1
  obtain ⟨hPo, hdx⟩ := z_other hPo hdx hk1 hD1
  have hWx := hW1
  have hbx := zpre_at hpre hbx
  refine lv_pop hx hb dl_230 rfl ?_
  refine lv_aload_n hx hb dl_231 rfl (lv_at hl 2 rfl) ?_
  refine lv_aload_n hx hb dl_232 rfl (lv_at hl 4 rfl) ?_
  refine lv_iload hx hb dl_233 (lv_at hl 0 rfl) ?_
  refine lv_iconst (v := 1) hx hb dl_235 (by decide) ?_
  refine lv_iadd hx hb dl_236 ?_
  refine va_sld hx hb hX hbl hbA hS (vIk (k := 1) (by decide) (by decide) hi hL) dl_237 ?_
  refine lv_aload_n hx hb dl_238 rfl (lv_at hl 4 rfl) ?_
  refine lv_iload hx hb dl_239 (lv_at hl 0 rfl) ?_
  refine lv_iconst (v := 2) hx hb dl_241 (by decide) ?_
  refine lv_iadd hx hb dl_242 ?_
  refine va_sld hx hb hX hbl hbA hS (vIk (k := 2) (by decide) (by decide) hi hL) dl_243 ?_
  refine lv_aload_n hx hb dl_244 rfl (lv_at hl 4 rfl) ?_
  refine lv_iload hx hb dl_245 (lv_at hl 0 rfl) ?_
  refine lv_iconst (v := 3) hx hb dl_247 (by decide) ?_
  refine lv_iadd hx hb dl_248 ?_
  refine va_sld hx hb hX hbl hbA hS (vIk (k := 3) (by decide) (by decide) hi hL) dl_249 ?_
  refine lv_aload_n hx hb dl_250 rfl (lv_at hl 4 rfl) ?_
  refine lv_iload hx hb dl_251 (lv_at hl 0 rfl) ?_
  refine lv_iconst (v := 4) hx hb dl_253 (by decide) ?_
  refine lv_iadd hx hb dl_254 ?_
  refine va_sld hx hb hX hbl hbA hS (vIk (k := 4) (by decide) (by decide) hi hL) dl_255 ?_
  refine lv_aload_n hx hb dl_256 rfl (lv_at hl 4 rfl) ?_
  refine lv_iload hx hb dl_257 (lv_at hl 0 rfl) ?_
  refine lv_iconst (v := 5) hx hb dl_259 (by decide) ?_
  refine lv_iadd hx hb dl_260 ?_
  refine va_sld hx hb hX hbl hbA hS (vIk (k := 5) (by decide) (by decide) hi hL) dl_261 ?_
  refine z_law (rest := []) C (x := 155) (idx := 25) (by decide) (by decide +kernel) (List.mem_append_right _ (List.mem_of_getElem? (i := 1296) (by decide +kernel))) dl_262 (by decide +kernel) (by decide +kernel) rfl rfl (by decide +kernel) (show cells ≤ 1129 by omega) (show slots ≤ 17054 by omega) q2 (Nat.le_of_ble_eq_true rfl) hWm hS hm0 hbm ⟨_, _, rfl, rfl, ⟨_, _, rfl, rfl, ⟨_, _, rfl, rfl, ⟨_, _, rfl, rfl, ⟨_, _, rfl, rfl, rfl⟩⟩⟩⟩⟩ rfl hl.1 (Nat.le_of_ble_eq_true rfl) rfl (fun v ws1 tys1 H1 locs1 hO hpre hW1 hD1 hk1 hS => ?_)
  obtain ⟨_, rfl, rfl⟩ := hO
  obtain ⟨hWx, hdis2⟩ := hWx.other hdis.symm hk1 hD1
  obtain ⟨hPo, hdm⟩ := z_other hPo hdm hk1 hD1
  have hbm := zpre_at hpre hbm
  refine lv_pop hx hb dl_265 rfl ?_
  refine lv_goto (tgt := 1542) hx hb dl_266 (by decide) ?_
  exact W.widen (by omega) (by omega) (KK _ _ _ ⟨_, _, _, _, cA, fo, Gx, Gm, hWx, hW1, hdis2.symm, hPo, hKo, hDo, hdx, hdm, hS, hbx, hbm, hl, hIv2⟩)
set_option maxRecDepth 100000 in
set_option maxHeartbeats 4000000 in
theorem law_1 {p : Program} {l : Launch} {e : Env} {s : State} {m : MethodId} {below : List Frame} {meth : Method} {c : Code} {b L : Nat} {xs : Nat → Int32} {D : va_G} {bx bm qo : Nat} {i : Int32} {H : Heap} {locs : List Loc} {ls : Array Slot} {cells slots : Nat} {Q : State → Prop} (F : zFx p s m meth c b L xs) (hi : 0 ≤ i.toInt ∧ i.toInt + 6 ≤ L) (hc : cells + 1 ≤ 1129) (hs : slots + 6 ≤ 17054) (B : zBe s b D bx bm qo i H locs ls) (KK : ∀ (H : Heap) (locs : List Loc) (ls : Array Slot), zBe s b D bx bm qo i H locs ls → W p l e room_1 s m #[Value.ref b] below meth c H locs (cells + 1) (slots + 6) Q (F0 m 1542 ls [])) : W p l e room_1 s m #[Value.ref b] below meth c H locs cells slots Q (F0 m 269 ls []) := by
  obtain ⟨C, hX, hbl, hr, hlocks, hL⟩ := id F
  obtain ⟨hx, hb, hml, hown, hts, hN, hZt⟩ := id C
  have hbA : ¬ zA s b := Nat.not_le.mpr hbl
  obtain ⟨wsx, wsm, tysx, tysm, cA, fo, Hx, Hm, hWx, hWm, hdis, hPo, hKo, hDo, hdx, hdm, hS, hbx, hbm, hl, hIv⟩ := B
  obtain ⟨f, rx, rm, Gx, Gm, q1, q2, hIv2, hE⟩ := step_1 (xs (i + 1).toNatClampNeg) hIv
  obtain ⟨vx0, hx0, -, -⟩ := gI_obj hIv.1.1 sx_0
  obtain ⟨vm0, hm0, -, -⟩ := gI_obj hIv.2.1.1 sm_0
  refine lv_aload_n hx hb dl_269 rfl (lv_at hl 3 rfl) ?_
  refine lv_aload_n hx hb dl_270 rfl (lv_at hl 4 rfl) ?_
  refine lv_iload hx hb dl_271 (lv_at hl 0 rfl) ?_
  refine lv_iconst (v := 1) hx hb dl_273 (by decide) ?_
  refine lv_iadd hx hb dl_274 ?_
  refine va_sld hx hb hX hbl hbA hS (vIk (k := 1) (by decide) (by decide) hi hL) dl_275 ?_
  refine z_law (rest := []) C (x := 114) (idx := 26) (by decide) (by decide +kernel) (List.mem_append_right _ (List.mem_of_getElem? (i := 389) (by decide +kernel))) dl_276 (by decide +kernel) (by decide +kernel) rfl rfl (by decide +kernel) (show cells ≤ 1129 by omega) (show slots ≤ 17054 by omega) q1 (Nat.le_of_ble_eq_true rfl) hWx hS hx0 hbx ⟨_, _, rfl, rfl, rfl⟩ rfl hl.1 (Nat.le_of_ble_eq_true rfl) rfl (fun v ws1 tys1 H1 locs1 hO hpre hW1 hD1 hk1 hS => ?_)
  obtain ⟨_, rfl, rfl⟩ := hO
  obtain ⟨hWm, hdis⟩ := hWm.other hdis hk1 hD1
  obtain ⟨hPo, hdx⟩ := z_other hPo hdx hk1 hD1
  have hWx := hW1
  have hbx := zpre_at hpre hbx
  refine lv_pop hx hb dl_279 rfl ?_
  refine lv_aload_n hx hb dl_280 rfl (lv_at hl 2 rfl) ?_
  refine lv_aload_n hx hb dl_281 rfl (lv_at hl 4 rfl) ?_
  refine lv_iload hx hb dl_282 (lv_at hl 0 rfl) ?_
  refine lv_iconst (v := 1) hx hb dl_284 (by decide) ?_
  refine lv_iadd hx hb dl_285 ?_
  refine va_sld hx hb hX hbl hbA hS (vIk (k := 1) (by decide) (by decide) hi hL) dl_286 ?_
  refine z_law (rest := []) C (x := 175) (idx := 30) (by decide) (by decide +kernel) (List.mem_append_right _ (List.mem_of_getElem? (i := 1300) (by decide +kernel))) dl_287 (by decide +kernel) (by decide +kernel) rfl rfl (by decide +kernel) (show cells ≤ 1129 by omega) (show slots ≤ 17054 by omega) q2 (Nat.le_of_ble_eq_true rfl) hWm hS hm0 hbm ⟨_, _, rfl, rfl, rfl⟩ rfl hl.1 (Nat.le_of_ble_eq_true rfl) rfl (fun v ws1 tys1 H1 locs1 hO hpre hW1 hD1 hk1 hS => ?_)
  obtain ⟨_, rfl, rfl⟩ := hO
  obtain ⟨hWx, hdis2⟩ := hWx.other hdis.symm hk1 hD1
  obtain ⟨hPo, hdm⟩ := z_other hPo hdm hk1 hD1
  have hbm := zpre_at hpre hbm
  refine lv_pop hx hb dl_290 rfl ?_
  refine lv_goto (tgt := 1542) hx hb dl_291 (by decide) ?_
  exact W.widen (by omega) (by omega) (KK _ _ _ ⟨_, _, _, _, cA, fo, Gx, Gm, hWx, hW1, hdis2.symm, hPo, hKo, hDo, hdx, hdm, hS, hbx, hbm, hl, hIv2⟩)
set_option maxRecDepth 100000 in
set_option maxHeartbeats 4000000 in
theorem law_2 {p : Program} {l : Launch} {e : Env} {s : State} {m : MethodId} {below : List Frame} {meth : Method} {c : Code} {b L : Nat} {xs : Nat → Int32} {D : va_G} {bx bm qo : Nat} {i : Int32} {H : Heap} {locs : List Loc} {ls : Array Slot} {cells slots : Nat} {Q : State → Prop} (F : zFx p s m meth c b L xs) (hi : 0 ≤ i.toInt ∧ i.toInt + 6 ≤ L) (hc : cells + 1 ≤ 1129) (hs : slots + 6 ≤ 17054) (B : zBe s b D bx bm qo i H locs ls) (KK : ∀ (H : Heap) (locs : List Loc) (ls : Array Slot), zBe s b D bx bm qo i H locs ls → W p l e room_1 s m #[Value.ref b] below meth c H locs (cells + 1) (slots + 6) Q (F0 m 1542 ls [])) : W p l e room_1 s m #[Value.ref b] below meth c H locs cells slots Q (F0 m 294 ls []) := by
  obtain ⟨C, hX, hbl, hr, hlocks, hL⟩ := id F
  obtain ⟨hx, hb, hml, hown, hts, hN, hZt⟩ := id C
  have hbA : ¬ zA s b := Nat.not_le.mpr hbl
  obtain ⟨wsx, wsm, tysx, tysm, cA, fo, Hx, Hm, hWx, hWm, hdis, hPo, hKo, hDo, hdx, hdm, hS, hbx, hbm, hl, hIv⟩ := B
  obtain ⟨f, rx, rm, Gx, Gm, q1, q2, hIv2, hE⟩ := step_2 (xs (i + 1).toNatClampNeg) hIv
  obtain ⟨vx0, hx0, -, -⟩ := gI_obj hIv.1.1 sx_0
  obtain ⟨vm0, hm0, -, -⟩ := gI_obj hIv.2.1.1 sm_0
  refine lv_aload_n hx hb dl_294 rfl (lv_at hl 3 rfl) ?_
  refine lv_aload_n hx hb dl_295 rfl (lv_at hl 4 rfl) ?_
  refine lv_iload hx hb dl_296 (lv_at hl 0 rfl) ?_
  refine lv_iconst (v := 1) hx hb dl_298 (by decide) ?_
  refine lv_iadd hx hb dl_299 ?_
  refine va_sld hx hb hX hbl hbA hS (vIk (k := 1) (by decide) (by decide) hi hL) dl_300 ?_
  refine z_law (rest := []) C (x := 115) (idx := 31) (by decide) (by decide +kernel) (List.mem_append_right _ (List.mem_of_getElem? (i := 686) (by decide +kernel))) dl_301 (by decide +kernel) (by decide +kernel) rfl rfl (by decide +kernel) (show cells ≤ 1129 by omega) (show slots ≤ 17054 by omega) q1 (Nat.le_of_ble_eq_true rfl) hWx hS hx0 hbx ⟨_, _, rfl, rfl, rfl⟩ rfl hl.1 (Nat.le_of_ble_eq_true rfl) rfl (fun v ws1 tys1 H1 locs1 hO hpre hW1 hD1 hk1 hS => ?_)
  obtain ⟨_, rfl, rfl⟩ := hO
  obtain ⟨hWm, hdis⟩ := hWm.other hdis hk1 hD1
  obtain ⟨hPo, hdx⟩ := z_other hPo hdx hk1 hD1
  have hWx := hW1
  have hbx := zpre_at hpre hbx
  refine lv_pop hx hb dl_304 rfl ?_
  refine lv_aload_n hx hb dl_305 rfl (lv_at hl 2 rfl) ?_
  refine lv_aload_n hx hb dl_306 rfl (lv_at hl 4 rfl) ?_
  refine lv_iload hx hb dl_307 (lv_at hl 0 rfl) ?_
  refine lv_iconst (v := 1) hx hb dl_309 (by decide) ?_
  refine lv_iadd hx hb dl_310 ?_
  refine va_sld hx hb hX hbl hbA hS (vIk (k := 1) (by decide) (by decide) hi hL) dl_311 ?_
  refine z_law (rest := []) C (x := 176) (idx := 34) (by decide) (by decide +kernel) (List.mem_append_right _ (List.mem_of_getElem? (i := 1373) (by decide +kernel))) dl_312 (by decide +kernel) (by decide +kernel) rfl rfl (by decide +kernel) (show cells ≤ 1129 by omega) (show slots ≤ 17054 by omega) q2 (Nat.le_of_ble_eq_true rfl) hWm hS hm0 hbm ⟨_, _, rfl, rfl, rfl⟩ rfl hl.1 (Nat.le_of_ble_eq_true rfl) rfl (fun v ws1 tys1 H1 locs1 hO hpre hW1 hD1 hk1 hS => ?_)
  obtain ⟨_, rfl, rfl⟩ := hO
  obtain ⟨hWx, hdis2⟩ := hWx.other hdis.symm hk1 hD1
  obtain ⟨hPo, hdm⟩ := z_other hPo hdm hk1 hD1
  have hbm := zpre_at hpre hbm
  refine lv_pop hx hb dl_315 rfl ?_
  refine lv_goto (tgt := 1542) hx hb dl_316 (by decide) ?_
  exact W.widen (by omega) (by omega) (KK _ _ _ ⟨_, _, _, _, cA, fo, Gx, Gm, hWx, hW1, hdis2.symm, hPo, hKo, hDo, hdx, hdm, hS, hbx, hbm, hl, hIv2⟩)
set_option maxRecDepth 100000 in
set_option maxHeartbeats 4000000 in
theorem law_3 {p : Program} {l : Launch} {e : Env} {s : State} {m : MethodId} {below : List Frame} {meth : Method} {c : Code} {b L : Nat} {xs : Nat → Int32} {D : va_G} {bx bm qo : Nat} {i : Int32} {H : Heap} {locs : List Loc} {ls : Array Slot} {cells slots : Nat} {Q : State → Prop} (F : zFx p s m meth c b L xs) (hi : 0 ≤ i.toInt ∧ i.toInt + 6 ≤ L) (hc : cells + 1 ≤ 1129) (hs : slots + 6 ≤ 17054) (B : zBe s b D bx bm qo i H locs ls) (KK : ∀ (H : Heap) (locs : List Loc) (ls : Array Slot), zBe s b D bx bm qo i H locs ls → W p l e room_1 s m #[Value.ref b] below meth c H locs (cells + 1) (slots + 6) Q (F0 m 1542 ls [])) : W p l e room_1 s m #[Value.ref b] below meth c H locs cells slots Q (F0 m 319 ls []) := by
  obtain ⟨C, hX, hbl, hr, hlocks, hL⟩ := id F
  obtain ⟨hx, hb, hml, hown, hts, hN, hZt⟩ := id C
  have hbA : ¬ zA s b := Nat.not_le.mpr hbl
  obtain ⟨wsx, wsm, tysx, tysm, cA, fo, Hx, Hm, hWx, hWm, hdis, hPo, hKo, hDo, hdx, hdm, hS, hbx, hbm, hl, hIv⟩ := B
  obtain ⟨f, rx, rm, Gx, Gm, q1, q2, hIv2, hE⟩ := step_3 (xs (i + 1).toNatClampNeg) hIv
  obtain ⟨vx0, hx0, -, -⟩ := gI_obj hIv.1.1 sx_0
  obtain ⟨vm0, hm0, -, -⟩ := gI_obj hIv.2.1.1 sm_0
  refine lv_aload_n hx hb dl_319 rfl (lv_at hl 3 rfl) ?_
  refine lv_aload_n hx hb dl_320 rfl (lv_at hl 4 rfl) ?_
  refine lv_iload hx hb dl_321 (lv_at hl 0 rfl) ?_
  refine lv_iconst (v := 1) hx hb dl_323 (by decide) ?_
  refine lv_iadd hx hb dl_324 ?_
  refine va_sld hx hb hX hbl hbA hS (vIk (k := 1) (by decide) (by decide) hi hL) dl_325 ?_
  refine z_law (rest := []) C (x := 117) (idx := 35) (by decide) (by decide +kernel) (List.mem_append_right _ (List.mem_of_getElem? (i := 690) (by decide +kernel))) dl_326 (by decide +kernel) (by decide +kernel) rfl rfl (by decide +kernel) (show cells ≤ 1129 by omega) (show slots ≤ 17054 by omega) q1 (Nat.le_of_ble_eq_true rfl) hWx hS hx0 hbx ⟨_, _, rfl, rfl, rfl⟩ rfl hl.1 (Nat.le_of_ble_eq_true rfl) rfl (fun v ws1 tys1 H1 locs1 hO hpre hW1 hD1 hk1 hS => ?_)
  obtain ⟨_, rfl, rfl⟩ := hO
  obtain ⟨hWm, hdis⟩ := hWm.other hdis hk1 hD1
  obtain ⟨hPo, hdx⟩ := z_other hPo hdx hk1 hD1
  have hWx := hW1
  have hbx := zpre_at hpre hbx
  refine lv_pop hx hb dl_329 rfl ?_
  refine lv_aload_n hx hb dl_330 rfl (lv_at hl 2 rfl) ?_
  refine lv_aload_n hx hb dl_331 rfl (lv_at hl 4 rfl) ?_
  refine lv_iload hx hb dl_332 (lv_at hl 0 rfl) ?_
  refine lv_iconst (v := 1) hx hb dl_334 (by decide) ?_
  refine lv_iadd hx hb dl_335 ?_
  refine va_sld hx hb hX hbl hbA hS (vIk (k := 1) (by decide) (by decide) hi hL) dl_336 ?_
  refine z_law (rest := []) C (x := 177) (idx := 38) (by decide) (by decide +kernel) (List.mem_append_right _ (List.mem_of_getElem? (i := 1377) (by decide +kernel))) dl_337 (by decide +kernel) (by decide +kernel) rfl rfl (by decide +kernel) (show cells ≤ 1129 by omega) (show slots ≤ 17054 by omega) q2 (Nat.le_of_ble_eq_true rfl) hWm hS hm0 hbm ⟨_, _, rfl, rfl, rfl⟩ rfl hl.1 (Nat.le_of_ble_eq_true rfl) rfl (fun v ws1 tys1 H1 locs1 hO hpre hW1 hD1 hk1 hS => ?_)
  obtain ⟨_, rfl, rfl⟩ := hO
  obtain ⟨hWx, hdis2⟩ := hWx.other hdis.symm hk1 hD1
  obtain ⟨hPo, hdm⟩ := z_other hPo hdm hk1 hD1
  have hbm := zpre_at hpre hbm
  refine lv_pop hx hb dl_340 rfl ?_
  refine lv_goto (tgt := 1542) hx hb dl_341 (by decide) ?_
  exact W.widen (by omega) (by omega) (KK _ _ _ ⟨_, _, _, _, cA, fo, Gx, Gm, hWx, hW1, hdis2.symm, hPo, hKo, hDo, hdx, hdm, hS, hbx, hbm, hl, hIv2⟩)
set_option maxRecDepth 100000 in
set_option maxHeartbeats 4000000 in
theorem law_4 {p : Program} {l : Launch} {e : Env} {s : State} {m : MethodId} {below : List Frame} {meth : Method} {c : Code} {b L : Nat} {xs : Nat → Int32} {D : va_G} {bx bm qo : Nat} {i : Int32} {H : Heap} {locs : List Loc} {ls : Array Slot} {cells slots : Nat} {Q : State → Prop} (F : zFx p s m meth c b L xs) (hi : 0 ≤ i.toInt ∧ i.toInt + 6 ≤ L) (hc : cells + 1 ≤ 1129) (hs : slots + 6 ≤ 17054) (B : zBe s b D bx bm qo i H locs ls) (KK : ∀ (H : Heap) (locs : List Loc) (ls : Array Slot), zBe s b D bx bm qo i H locs ls → W p l e room_1 s m #[Value.ref b] below meth c H locs (cells + 1) (slots + 6) Q (F0 m 1542 ls [])) : W p l e room_1 s m #[Value.ref b] below meth c H locs cells slots Q (F0 m 344 ls []) := by
  obtain ⟨C, hX, hbl, hr, hlocks, hL⟩ := id F
  obtain ⟨hx, hb, hml, hown, hts, hN, hZt⟩ := id C
  have hbA : ¬ zA s b := Nat.not_le.mpr hbl
  obtain ⟨wsx, wsm, tysx, tysm, cA, fo, Hx, Hm, hWx, hWm, hdis, hPo, hKo, hDo, hdx, hdm, hS, hbx, hbm, hl, hIv⟩ := B
  obtain ⟨f, rx, rm, Gx, Gm, q1, q2, hIv2, hE⟩ := step_4 (xs (i + 1).toNatClampNeg) (xs (i + 2).toNatClampNeg) hIv
  obtain ⟨vx0, hx0, -, -⟩ := gI_obj hIv.1.1 sx_0
  obtain ⟨vm0, hm0, -, -⟩ := gI_obj hIv.2.1.1 sm_0
  refine lv_aload_n hx hb dl_344 rfl (lv_at hl 3 rfl) ?_
  refine lv_aload_n hx hb dl_345 rfl (lv_at hl 4 rfl) ?_
  refine lv_iload hx hb dl_346 (lv_at hl 0 rfl) ?_
  refine lv_iconst (v := 1) hx hb dl_348 (by decide) ?_
  refine lv_iadd hx hb dl_349 ?_
  refine va_sld hx hb hX hbl hbA hS (vIk (k := 1) (by decide) (by decide) hi hL) dl_350 ?_
  refine lv_aload_n hx hb dl_351 rfl (lv_at hl 4 rfl) ?_
  refine lv_iload hx hb dl_352 (lv_at hl 0 rfl) ?_
  refine lv_iconst (v := 2) hx hb dl_354 (by decide) ?_
  refine lv_iadd hx hb dl_355 ?_
  refine va_sld hx hb hX hbl hbA hS (vIk (k := 2) (by decide) (by decide) hi hL) dl_356 ?_
  refine z_law (rest := []) C (x := 118) (idx := 39) (by decide) (by decide +kernel) (List.mem_append_right _ (List.mem_of_getElem? (i := 694) (by decide +kernel))) dl_357 (by decide +kernel) (by decide +kernel) rfl rfl (by decide +kernel) (show cells ≤ 1129 by omega) (show slots ≤ 17054 by omega) q1 (Nat.le_of_ble_eq_true rfl) hWx hS hx0 hbx ⟨_, _, rfl, rfl, ⟨_, _, rfl, rfl, rfl⟩⟩ rfl hl.1 (Nat.le_of_ble_eq_true rfl) rfl (fun v ws1 tys1 H1 locs1 hO hpre hW1 hD1 hk1 hS => ?_)
  obtain ⟨_, rfl, rfl⟩ := hO
  obtain ⟨hWm, hdis⟩ := hWm.other hdis hk1 hD1
  obtain ⟨hPo, hdx⟩ := z_other hPo hdx hk1 hD1
  have hWx := hW1
  have hbx := zpre_at hpre hbx
  refine lv_pop hx hb dl_360 rfl ?_
  refine lv_aload_n hx hb dl_361 rfl (lv_at hl 2 rfl) ?_
  refine lv_aload_n hx hb dl_362 rfl (lv_at hl 4 rfl) ?_
  refine lv_iload hx hb dl_363 (lv_at hl 0 rfl) ?_
  refine lv_iconst (v := 1) hx hb dl_365 (by decide) ?_
  refine lv_iadd hx hb dl_366 ?_
  refine va_sld hx hb hX hbl hbA hS (vIk (k := 1) (by decide) (by decide) hi hL) dl_367 ?_
  refine lv_aload_n hx hb dl_368 rfl (lv_at hl 4 rfl) ?_
  refine lv_iload hx hb dl_369 (lv_at hl 0 rfl) ?_
  refine lv_iconst (v := 2) hx hb dl_371 (by decide) ?_
  refine lv_iadd hx hb dl_372 ?_
  refine va_sld hx hb hX hbl hbA hS (vIk (k := 2) (by decide) (by decide) hi hL) dl_373 ?_
  refine z_law (rest := []) C (x := 179) (idx := 42) (by decide) (by decide +kernel) (List.mem_append_right _ (List.mem_of_getElem? (i := 1381) (by decide +kernel))) dl_374 (by decide +kernel) (by decide +kernel) rfl rfl (by decide +kernel) (show cells ≤ 1129 by omega) (show slots ≤ 17054 by omega) q2 (Nat.le_of_ble_eq_true rfl) hWm hS hm0 hbm ⟨_, _, rfl, rfl, ⟨_, _, rfl, rfl, rfl⟩⟩ rfl hl.1 (Nat.le_of_ble_eq_true rfl) rfl (fun v ws1 tys1 H1 locs1 hO hpre hW1 hD1 hk1 hS => ?_)
  obtain ⟨_, rfl, rfl⟩ := hO
  obtain ⟨hWx, hdis2⟩ := hWx.other hdis.symm hk1 hD1
  obtain ⟨hPo, hdm⟩ := z_other hPo hdm hk1 hD1
  have hbm := zpre_at hpre hbm
  refine lv_pop hx hb dl_377 rfl ?_
  refine lv_goto (tgt := 1542) hx hb dl_378 (by decide) ?_
  exact W.widen (by omega) (by omega) (KK _ _ _ ⟨_, _, _, _, cA, fo, Gx, Gm, hWx, hW1, hdis2.symm, hPo, hKo, hDo, hdx, hdm, hS, hbx, hbm, hl, hIv2⟩)
set_option maxRecDepth 100000 in
set_option maxHeartbeats 4000000 in
theorem law_6 {p : Program} {l : Launch} {e : Env} {s : State} {m : MethodId} {below : List Frame} {meth : Method} {c : Code} {b L : Nat} {xs : Nat → Int32} {D : va_G} {bx bm qo : Nat} {i : Int32} {H : Heap} {locs : List Loc} {ls : Array Slot} {cells slots : Nat} {Q : State → Prop} (F : zFx p s m meth c b L xs) (hi : 0 ≤ i.toInt ∧ i.toInt + 6 ≤ L) (hc : cells + 1 ≤ 1129) (hs : slots + 6 ≤ 17054) (B : zBe s b D bx bm qo i H locs ls) (KK : ∀ (H : Heap) (locs : List Loc) (ls : Array Slot), zBe s b D bx bm qo i H locs ls → W p l e room_1 s m #[Value.ref b] below meth c H locs (cells + 1) (slots + 6) Q (F0 m 1542 ls [])) : W p l e room_1 s m #[Value.ref b] below meth c H locs cells slots Q (F0 m 421 ls []) := by
  obtain ⟨C, hX, hbl, hr, hlocks, hL⟩ := id F
  obtain ⟨hx, hb, hml, hown, hts, hN, hZt⟩ := id C
  have hbA : ¬ zA s b := Nat.not_le.mpr hbl
  obtain ⟨wsx, wsm, tysx, tysm, cA, fo, Hx, Hm, hWx, hWm, hdis, hPo, hKo, hDo, hdx, hdm, hS, hbx, hbm, hl, hIv⟩ := B
  obtain ⟨f, rx, rm, Gx, Gm, q1, q2, hIv2, hE⟩ := step_6 (xs (i + 1).toNatClampNeg) (xs (i + 2).toNatClampNeg) (xs (i + 3).toNatClampNeg) hIv
  obtain ⟨vx0, hx0, -, -⟩ := gI_obj hIv.1.1 sx_0
  obtain ⟨vm0, hm0, -, -⟩ := gI_obj hIv.2.1.1 sm_0
  refine lv_aload_n hx hb dl_421 rfl (lv_at hl 3 rfl) ?_
  refine lv_aload_n hx hb dl_422 rfl (lv_at hl 4 rfl) ?_
  refine lv_iload hx hb dl_423 (lv_at hl 0 rfl) ?_
  refine lv_iconst (v := 1) hx hb dl_425 (by decide) ?_
  refine lv_iadd hx hb dl_426 ?_
  refine va_sld hx hb hX hbl hbA hS (vIk (k := 1) (by decide) (by decide) hi hL) dl_427 ?_
  refine lv_aload_n hx hb dl_428 rfl (lv_at hl 4 rfl) ?_
  refine lv_iload hx hb dl_429 (lv_at hl 0 rfl) ?_
  refine lv_iconst (v := 2) hx hb dl_431 (by decide) ?_
  refine lv_iadd hx hb dl_432 ?_
  refine va_sld hx hb hX hbl hbA hS (vIk (k := 2) (by decide) (by decide) hi hL) dl_433 ?_
  refine lv_aload_n hx hb dl_434 rfl (lv_at hl 4 rfl) ?_
  refine lv_iload hx hb dl_435 (lv_at hl 0 rfl) ?_
  refine lv_iconst (v := 3) hx hb dl_437 (by decide) ?_
  refine lv_iadd hx hb dl_438 ?_
  refine va_sld hx hb hX hbl hbA hS (vIk (k := 3) (by decide) (by decide) hi hL) dl_439 ?_
  refine z_law (rest := []) C (x := 120) (idx := 49) (by decide) (by decide +kernel) (List.mem_append_right _ (List.mem_of_getElem? (i := 700) (by decide +kernel))) dl_440 (by decide +kernel) (by decide +kernel) rfl rfl (by decide +kernel) (show cells ≤ 1129 by omega) (show slots ≤ 17054 by omega) q1 (Nat.le_of_ble_eq_true rfl) hWx hS hx0 hbx ⟨_, _, rfl, rfl, ⟨_, _, rfl, rfl, ⟨_, _, rfl, rfl, rfl⟩⟩⟩ rfl hl.1 (Nat.le_of_ble_eq_true rfl) rfl (fun v ws1 tys1 H1 locs1 hO hpre hW1 hD1 hk1 hS => ?_)
  obtain ⟨_, rfl, rfl⟩ := hO
  obtain ⟨hWm, hdis⟩ := hWm.other hdis hk1 hD1
  obtain ⟨hPo, hdx⟩ := z_other hPo hdx hk1 hD1
  have hWx := hW1
  have hbx := zpre_at hpre hbx
  refine lv_pop hx hb dl_443 rfl ?_
  refine lv_aload_n hx hb dl_444 rfl (lv_at hl 2 rfl) ?_
  refine lv_aload_n hx hb dl_445 rfl (lv_at hl 4 rfl) ?_
  refine lv_iload hx hb dl_446 (lv_at hl 0 rfl) ?_
  refine lv_iconst (v := 1) hx hb dl_448 (by decide) ?_
  refine lv_iadd hx hb dl_449 ?_
  refine va_sld hx hb hX hbl hbA hS (vIk (k := 1) (by decide) (by decide) hi hL) dl_450 ?_
  refine lv_aload_n hx hb dl_451 rfl (lv_at hl 4 rfl) ?_
  refine lv_iload hx hb dl_452 (lv_at hl 0 rfl) ?_
  refine lv_iconst (v := 2) hx hb dl_454 (by decide) ?_
  refine lv_iadd hx hb dl_455 ?_
  refine va_sld hx hb hX hbl hbA hS (vIk (k := 2) (by decide) (by decide) hi hL) dl_456 ?_
  refine lv_aload_n hx hb dl_457 rfl (lv_at hl 4 rfl) ?_
  refine lv_iload hx hb dl_458 (lv_at hl 0 rfl) ?_
  refine lv_iconst (v := 3) hx hb dl_460 (by decide) ?_
  refine lv_iadd hx hb dl_461 ?_
  refine va_sld hx hb hX hbl hbA hS (vIk (k := 3) (by decide) (by decide) hi hL) dl_462 ?_
  refine z_law (rest := []) C (x := 208) (idx := 53) (by decide) (by decide +kernel) (List.mem_append_right _ (List.mem_of_getElem? (i := 1481) (by decide +kernel))) dl_463 (by decide +kernel) (by decide +kernel) rfl rfl (by decide +kernel) (show cells ≤ 1129 by omega) (show slots ≤ 17054 by omega) q2 (Nat.le_of_ble_eq_true rfl) hWm hS hm0 hbm ⟨_, _, rfl, rfl, ⟨_, _, rfl, rfl, ⟨_, _, rfl, rfl, rfl⟩⟩⟩ rfl hl.1 (Nat.le_of_ble_eq_true rfl) rfl (fun v ws1 tys1 H1 locs1 hO hpre hW1 hD1 hk1 hS => ?_)
  obtain ⟨_, rfl, rfl⟩ := hO
  obtain ⟨hWx, hdis2⟩ := hWx.other hdis.symm hk1 hD1
  obtain ⟨hPo, hdm⟩ := z_other hPo hdm hk1 hD1
  have hbm := zpre_at hpre hbm
  refine lv_pop hx hb dl_466 rfl ?_
  refine lv_goto (tgt := 1542) hx hb dl_467 (by decide) ?_
  exact W.widen (by omega) (by omega) (KK _ _ _ ⟨_, _, _, _, cA, fo, Gx, Gm, hWx, hW1, hdis2.symm, hPo, hKo, hDo, hdx, hdm, hS, hbx, hbm, hl, hIv2⟩)
set_option maxRecDepth 100000 in
set_option maxHeartbeats 4000000 in
theorem law_7 {p : Program} {l : Launch} {e : Env} {s : State} {m : MethodId} {below : List Frame} {meth : Method} {c : Code} {b L : Nat} {xs : Nat → Int32} {D : va_G} {bx bm qo : Nat} {i : Int32} {H : Heap} {locs : List Loc} {ls : Array Slot} {cells slots : Nat} {Q : State → Prop} (F : zFx p s m meth c b L xs) (hi : 0 ≤ i.toInt ∧ i.toInt + 6 ≤ L) (hc : cells + 1 ≤ 1129) (hs : slots + 6 ≤ 17054) (B : zBe s b D bx bm qo i H locs ls) (KK : ∀ (H : Heap) (locs : List Loc) (ls : Array Slot), zBe s b D bx bm qo i H locs ls → W p l e room_1 s m #[Value.ref b] below meth c H locs (cells + 1) (slots + 6) Q (F0 m 1542 ls [])) : W p l e room_1 s m #[Value.ref b] below meth c H locs cells slots Q (F0 m 470 ls []) := by
  obtain ⟨C, hX, hbl, hr, hlocks, hL⟩ := id F
  obtain ⟨hx, hb, hml, hown, hts, hN, hZt⟩ := id C
  have hbA : ¬ zA s b := Nat.not_le.mpr hbl
  obtain ⟨wsx, wsm, tysx, tysm, cA, fo, Hx, Hm, hWx, hWm, hdis, hPo, hKo, hDo, hdx, hdm, hS, hbx, hbm, hl, hIv⟩ := B
  obtain ⟨f, rx, rm, Gx, Gm, q1, q2, hIv2, hE⟩ := step_7 (xs (i + 1).toNatClampNeg) (xs (i + 2).toNatClampNeg) (xs (i + 3).toNatClampNeg) hIv
  obtain ⟨vx0, hx0, -, -⟩ := gI_obj hIv.1.1 sx_0
  obtain ⟨vm0, hm0, -, -⟩ := gI_obj hIv.2.1.1 sm_0
  refine lv_aload_n hx hb dl_470 rfl (lv_at hl 3 rfl) ?_
  refine lv_aload_n hx hb dl_471 rfl (lv_at hl 4 rfl) ?_
  refine lv_iload hx hb dl_472 (lv_at hl 0 rfl) ?_
  refine lv_iconst (v := 1) hx hb dl_474 (by decide) ?_
  refine lv_iadd hx hb dl_475 ?_
  refine va_sld hx hb hX hbl hbA hS (vIk (k := 1) (by decide) (by decide) hi hL) dl_476 ?_
  refine lv_aload_n hx hb dl_477 rfl (lv_at hl 4 rfl) ?_
  refine lv_iload hx hb dl_478 (lv_at hl 0 rfl) ?_
  refine lv_iconst (v := 2) hx hb dl_480 (by decide) ?_
  refine lv_iadd hx hb dl_481 ?_
  refine va_sld hx hb hX hbl hbA hS (vIk (k := 2) (by decide) (by decide) hi hL) dl_482 ?_
  refine lv_aload_n hx hb dl_483 rfl (lv_at hl 4 rfl) ?_
  refine lv_iload hx hb dl_484 (lv_at hl 0 rfl) ?_
  refine lv_iconst (v := 3) hx hb dl_486 (by decide) ?_
  refine lv_iadd hx hb dl_487 ?_
  refine va_sld hx hb hX hbl hbA hS (vIk (k := 3) (by decide) (by decide) hi hL) dl_488 ?_
  refine z_law (rest := []) C (x := 121) (idx := 54) (by decide) (by decide +kernel) (List.mem_append_right _ (List.mem_of_getElem? (i := 740) (by decide +kernel))) dl_489 (by decide +kernel) (by decide +kernel) rfl rfl (by decide +kernel) (show cells ≤ 1129 by omega) (show slots ≤ 17054 by omega) q1 (Nat.le_of_ble_eq_true rfl) hWx hS hx0 hbx ⟨_, _, rfl, rfl, ⟨_, _, rfl, rfl, ⟨_, _, rfl, rfl, rfl⟩⟩⟩ rfl hl.1 (Nat.le_of_ble_eq_true rfl) rfl (fun v ws1 tys1 H1 locs1 hO hpre hW1 hD1 hk1 hS => ?_)
  obtain ⟨_, rfl, rfl⟩ := hO
  obtain ⟨hWm, hdis⟩ := hWm.other hdis hk1 hD1
  obtain ⟨hPo, hdx⟩ := z_other hPo hdx hk1 hD1
  have hWx := hW1
  have hbx := zpre_at hpre hbx
  refine lv_pop hx hb dl_492 rfl ?_
  refine lv_aload_n hx hb dl_493 rfl (lv_at hl 2 rfl) ?_
  refine lv_aload_n hx hb dl_494 rfl (lv_at hl 4 rfl) ?_
  refine lv_iload hx hb dl_495 (lv_at hl 0 rfl) ?_
  refine lv_iconst (v := 1) hx hb dl_497 (by decide) ?_
  refine lv_iadd hx hb dl_498 ?_
  refine va_sld hx hb hX hbl hbA hS (vIk (k := 1) (by decide) (by decide) hi hL) dl_499 ?_
  refine lv_aload_n hx hb dl_500 rfl (lv_at hl 4 rfl) ?_
  refine lv_iload hx hb dl_501 (lv_at hl 0 rfl) ?_
  refine lv_iconst (v := 2) hx hb dl_503 (by decide) ?_
  refine lv_iadd hx hb dl_504 ?_
  refine va_sld hx hb hX hbl hbA hS (vIk (k := 2) (by decide) (by decide) hi hL) dl_505 ?_
  refine lv_aload_n hx hb dl_506 rfl (lv_at hl 4 rfl) ?_
  refine lv_iload hx hb dl_507 (lv_at hl 0 rfl) ?_
  refine lv_iconst (v := 3) hx hb dl_509 (by decide) ?_
  refine lv_iadd hx hb dl_510 ?_
  refine va_sld hx hb hX hbl hbA hS (vIk (k := 3) (by decide) (by decide) hi hL) dl_511 ?_
  refine z_law (rest := []) C (x := 209) (idx := 57) (by decide) (by decide +kernel) (List.mem_append_right _ (List.mem_of_getElem? (i := 1503) (by decide +kernel))) dl_512 (by decide +kernel) (by decide +kernel) rfl rfl (by decide +kernel) (show cells ≤ 1129 by omega) (show slots ≤ 17054 by omega) q2 (Nat.le_of_ble_eq_true rfl) hWm hS hm0 hbm ⟨_, _, rfl, rfl, ⟨_, _, rfl, rfl, ⟨_, _, rfl, rfl, rfl⟩⟩⟩ rfl hl.1 (Nat.le_of_ble_eq_true rfl) rfl (fun v ws1 tys1 H1 locs1 hO hpre hW1 hD1 hk1 hS => ?_)
  obtain ⟨_, rfl, rfl⟩ := hO
  obtain ⟨hWx, hdis2⟩ := hWx.other hdis.symm hk1 hD1
  obtain ⟨hPo, hdm⟩ := z_other hPo hdm hk1 hD1
  have hbm := zpre_at hpre hbm
  refine lv_pop hx hb dl_515 rfl ?_
  refine lv_goto (tgt := 1542) hx hb dl_516 (by decide) ?_
  exact W.widen (by omega) (by omega) (KK _ _ _ ⟨_, _, _, _, cA, fo, Gx, Gm, hWx, hW1, hdis2.symm, hPo, hKo, hDo, hdx, hdm, hS, hbx, hbm, hl, hIv2⟩)
set_option maxRecDepth 100000 in
set_option maxHeartbeats 4000000 in
theorem law_8 {p : Program} {l : Launch} {e : Env} {s : State} {m : MethodId} {below : List Frame} {meth : Method} {c : Code} {b L : Nat} {xs : Nat → Int32} {D : va_G} {bx bm qo : Nat} {i : Int32} {H : Heap} {locs : List Loc} {ls : Array Slot} {cells slots : Nat} {Q : State → Prop} (F : zFx p s m meth c b L xs) (hi : 0 ≤ i.toInt ∧ i.toInt + 6 ≤ L) (hc : cells + 1 ≤ 1129) (hs : slots + 6 ≤ 17054) (B : zBe s b D bx bm qo i H locs ls) (KK : ∀ (H : Heap) (locs : List Loc) (ls : Array Slot), zBe s b D bx bm qo i H locs ls → W p l e room_1 s m #[Value.ref b] below meth c H locs (cells + 1) (slots + 6) Q (F0 m 1542 ls [])) : W p l e room_1 s m #[Value.ref b] below meth c H locs cells slots Q (F0 m 519 ls []) := by
  obtain ⟨C, hX, hbl, hr, hlocks, hL⟩ := id F
  obtain ⟨hx, hb, hml, hown, hts, hN, hZt⟩ := id C
  have hbA : ¬ zA s b := Nat.not_le.mpr hbl
  obtain ⟨wsx, wsm, tysx, tysm, cA, fo, Hx, Hm, hWx, hWm, hdis, hPo, hKo, hDo, hdx, hdm, hS, hbx, hbm, hl, hIv⟩ := B
  obtain ⟨f, rx, rm, Gx, Gm, q1, q2, hIv2, hE⟩ := step_8 (xs (i + 1).toNatClampNeg) (xs (i + 2).toNatClampNeg) (xs (i + 3).toNatClampNeg) hIv
  obtain ⟨vx0, hx0, -, -⟩ := gI_obj hIv.1.1 sx_0
  obtain ⟨vm0, hm0, -, -⟩ := gI_obj hIv.2.1.1 sm_0
  refine lv_aload_n hx hb dl_519 rfl (lv_at hl 3 rfl) ?_
  refine lv_aload_n hx hb dl_520 rfl (lv_at hl 4 rfl) ?_
  refine lv_iload hx hb dl_521 (lv_at hl 0 rfl) ?_
  refine lv_iconst (v := 1) hx hb dl_523 (by decide) ?_
  refine lv_iadd hx hb dl_524 ?_
  refine va_sld hx hb hX hbl hbA hS (vIk (k := 1) (by decide) (by decide) hi hL) dl_525 ?_
  refine lv_aload_n hx hb dl_526 rfl (lv_at hl 4 rfl) ?_
  refine lv_iload hx hb dl_527 (lv_at hl 0 rfl) ?_
  refine lv_iconst (v := 2) hx hb dl_529 (by decide) ?_
  refine lv_iadd hx hb dl_530 ?_
  refine va_sld hx hb hX hbl hbA hS (vIk (k := 2) (by decide) (by decide) hi hL) dl_531 ?_
  refine lv_aload_n hx hb dl_532 rfl (lv_at hl 4 rfl) ?_
  refine lv_iload hx hb dl_533 (lv_at hl 0 rfl) ?_
  refine lv_iconst (v := 3) hx hb dl_535 (by decide) ?_
  refine lv_iadd hx hb dl_536 ?_
  refine va_sld hx hb hX hbl hbA hS (vIk (k := 3) (by decide) (by decide) hi hL) dl_537 ?_
  refine z_law (rest := []) C (x := 122) (idx := 58) (by decide) (by decide +kernel) (List.mem_append_right _ (List.mem_of_getElem? (i := 748) (by decide +kernel))) dl_538 (by decide +kernel) (by decide +kernel) rfl rfl (by decide +kernel) (show cells ≤ 1129 by omega) (show slots ≤ 17054 by omega) q1 (Nat.le_of_ble_eq_true rfl) hWx hS hx0 hbx ⟨_, _, rfl, rfl, ⟨_, _, rfl, rfl, ⟨_, _, rfl, rfl, rfl⟩⟩⟩ rfl hl.1 (Nat.le_of_ble_eq_true rfl) rfl (fun v ws1 tys1 H1 locs1 hO hpre hW1 hD1 hk1 hS => ?_)
  obtain ⟨_, rfl, rfl⟩ := hO
  obtain ⟨hWm, hdis⟩ := hWm.other hdis hk1 hD1
  obtain ⟨hPo, hdx⟩ := z_other hPo hdx hk1 hD1
  have hWx := hW1
  have hbx := zpre_at hpre hbx
  refine lv_pop hx hb dl_541 rfl ?_
  refine lv_aload_n hx hb dl_542 rfl (lv_at hl 2 rfl) ?_
  refine lv_aload_n hx hb dl_543 rfl (lv_at hl 4 rfl) ?_
  refine lv_iload hx hb dl_544 (lv_at hl 0 rfl) ?_
  refine lv_iconst (v := 1) hx hb dl_546 (by decide) ?_
  refine lv_iadd hx hb dl_547 ?_
  refine va_sld hx hb hX hbl hbA hS (vIk (k := 1) (by decide) (by decide) hi hL) dl_548 ?_
  refine lv_aload_n hx hb dl_549 rfl (lv_at hl 4 rfl) ?_
  refine lv_iload hx hb dl_550 (lv_at hl 0 rfl) ?_
  refine lv_iconst (v := 2) hx hb dl_552 (by decide) ?_
  refine lv_iadd hx hb dl_553 ?_
  refine va_sld hx hb hX hbl hbA hS (vIk (k := 2) (by decide) (by decide) hi hL) dl_554 ?_
  refine lv_aload_n hx hb dl_555 rfl (lv_at hl 4 rfl) ?_
  refine lv_iload hx hb dl_556 (lv_at hl 0 rfl) ?_
  refine lv_iconst (v := 3) hx hb dl_558 (by decide) ?_
  refine lv_iadd hx hb dl_559 ?_
  refine va_sld hx hb hX hbl hbA hS (vIk (k := 3) (by decide) (by decide) hi hL) dl_560 ?_
  refine z_law (rest := []) C (x := 211) (idx := 61) (by decide) (by decide +kernel) (List.mem_append_right _ (List.mem_of_getElem? (i := 1507) (by decide +kernel))) dl_561 (by decide +kernel) (by decide +kernel) rfl rfl (by decide +kernel) (show cells ≤ 1129 by omega) (show slots ≤ 17054 by omega) q2 (Nat.le_of_ble_eq_true rfl) hWm hS hm0 hbm ⟨_, _, rfl, rfl, ⟨_, _, rfl, rfl, ⟨_, _, rfl, rfl, rfl⟩⟩⟩ rfl hl.1 (Nat.le_of_ble_eq_true rfl) rfl (fun v ws1 tys1 H1 locs1 hO hpre hW1 hD1 hk1 hS => ?_)
  obtain ⟨_, rfl, rfl⟩ := hO
  obtain ⟨hWx, hdis2⟩ := hWx.other hdis.symm hk1 hD1
  obtain ⟨hPo, hdm⟩ := z_other hPo hdm hk1 hD1
  have hbm := zpre_at hpre hbm
  refine lv_pop hx hb dl_564 rfl ?_
  refine lv_goto (tgt := 1542) hx hb dl_565 (by decide) ?_
  exact W.widen (by omega) (by omega) (KK _ _ _ ⟨_, _, _, _, cA, fo, Gx, Gm, hWx, hW1, hdis2.symm, hPo, hKo, hDo, hdx, hdm, hS, hbx, hbm, hl, hIv2⟩)
set_option maxRecDepth 100000 in
set_option maxHeartbeats 4000000 in
theorem law_9 {p : Program} {l : Launch} {e : Env} {s : State} {m : MethodId} {below : List Frame} {meth : Method} {c : Code} {b L : Nat} {xs : Nat → Int32} {D : va_G} {bx bm qo : Nat} {i : Int32} {H : Heap} {locs : List Loc} {ls : Array Slot} {cells slots : Nat} {Q : State → Prop} (F : zFx p s m meth c b L xs) (hi : 0 ≤ i.toInt ∧ i.toInt + 6 ≤ L) (hc : cells + 1 ≤ 1129) (hs : slots + 6 ≤ 17054) (B : zBe s b D bx bm qo i H locs ls) (KK : ∀ (H : Heap) (locs : List Loc) (ls : Array Slot), zBe s b D bx bm qo i H locs ls → W p l e room_1 s m #[Value.ref b] below meth c H locs (cells + 1) (slots + 6) Q (F0 m 1542 ls [])) : W p l e room_1 s m #[Value.ref b] below meth c H locs cells slots Q (F0 m 568 ls []) := by
  obtain ⟨C, hX, hbl, hr, hlocks, hL⟩ := id F
  obtain ⟨hx, hb, hml, hown, hts, hN, hZt⟩ := id C
  have hbA : ¬ zA s b := Nat.not_le.mpr hbl
  obtain ⟨wsx, wsm, tysx, tysm, cA, fo, Hx, Hm, hWx, hWm, hdis, hPo, hKo, hDo, hdx, hdm, hS, hbx, hbm, hl, hIv⟩ := B
  obtain ⟨f, rx, rm, Gx, Gm, q1, q2, hIv2, hE⟩ := step_9 (xs (i + 1).toNatClampNeg) (xs (i + 2).toNatClampNeg) hIv
  obtain ⟨vx0, hx0, -, -⟩ := gI_obj hIv.1.1 sx_0
  obtain ⟨vm0, hm0, -, -⟩ := gI_obj hIv.2.1.1 sm_0
  refine lv_aload_n hx hb dl_568 rfl (lv_at hl 3 rfl) ?_
  refine lv_aload_n hx hb dl_569 rfl (lv_at hl 4 rfl) ?_
  refine lv_iload hx hb dl_570 (lv_at hl 0 rfl) ?_
  refine lv_iconst (v := 1) hx hb dl_572 (by decide) ?_
  refine lv_iadd hx hb dl_573 ?_
  refine va_sld hx hb hX hbl hbA hS (vIk (k := 1) (by decide) (by decide) hi hL) dl_574 ?_
  refine lv_aload_n hx hb dl_575 rfl (lv_at hl 4 rfl) ?_
  refine lv_iload hx hb dl_576 (lv_at hl 0 rfl) ?_
  refine lv_iconst (v := 2) hx hb dl_578 (by decide) ?_
  refine lv_iadd hx hb dl_579 ?_
  refine va_sld hx hb hX hbl hbA hS (vIk (k := 2) (by decide) (by decide) hi hL) dl_580 ?_
  refine z_law (rest := []) C (x := 123) (idx := 62) (by decide) (by decide +kernel) (List.mem_append_right _ (List.mem_of_getElem? (i := 764) (by decide +kernel))) dl_581 (by decide +kernel) (by decide +kernel) rfl rfl (by decide +kernel) (show cells ≤ 1129 by omega) (show slots ≤ 17054 by omega) q1 (Nat.le_of_ble_eq_true rfl) hWx hS hx0 hbx ⟨_, _, rfl, rfl, ⟨_, _, rfl, rfl, rfl⟩⟩ rfl hl.1 (Nat.le_of_ble_eq_true rfl) rfl (fun v ws1 tys1 H1 locs1 hO hpre hW1 hD1 hk1 hS => ?_)
  obtain ⟨_, rfl, rfl⟩ := hO
  obtain ⟨hWm, hdis⟩ := hWm.other hdis hk1 hD1
  obtain ⟨hPo, hdx⟩ := z_other hPo hdx hk1 hD1
  have hWx := hW1
  have hbx := zpre_at hpre hbx
  refine lv_pop hx hb dl_584 rfl ?_
  refine lv_aload_n hx hb dl_585 rfl (lv_at hl 2 rfl) ?_
  refine lv_aload_n hx hb dl_586 rfl (lv_at hl 4 rfl) ?_
  refine lv_iload hx hb dl_587 (lv_at hl 0 rfl) ?_
  refine lv_iconst (v := 1) hx hb dl_589 (by decide) ?_
  refine lv_iadd hx hb dl_590 ?_
  refine va_sld hx hb hX hbl hbA hS (vIk (k := 1) (by decide) (by decide) hi hL) dl_591 ?_
  refine lv_aload_n hx hb dl_592 rfl (lv_at hl 4 rfl) ?_
  refine lv_iload hx hb dl_593 (lv_at hl 0 rfl) ?_
  refine lv_iconst (v := 2) hx hb dl_595 (by decide) ?_
  refine lv_iadd hx hb dl_596 ?_
  refine va_sld hx hb hX hbl hbA hS (vIk (k := 2) (by decide) (by decide) hi hL) dl_597 ?_
  refine z_law (rest := []) C (x := 213) (idx := 65) (by decide) (by decide +kernel) (List.mem_append_right _ (List.mem_of_getElem? (i := 1511) (by decide +kernel))) dl_598 (by decide +kernel) (by decide +kernel) rfl rfl (by decide +kernel) (show cells ≤ 1129 by omega) (show slots ≤ 17054 by omega) q2 (Nat.le_of_ble_eq_true rfl) hWm hS hm0 hbm ⟨_, _, rfl, rfl, ⟨_, _, rfl, rfl, rfl⟩⟩ rfl hl.1 (Nat.le_of_ble_eq_true rfl) rfl (fun v ws1 tys1 H1 locs1 hO hpre hW1 hD1 hk1 hS => ?_)
  obtain ⟨_, rfl, rfl⟩ := hO
  obtain ⟨hWx, hdis2⟩ := hWx.other hdis.symm hk1 hD1
  obtain ⟨hPo, hdm⟩ := z_other hPo hdm hk1 hD1
  have hbm := zpre_at hpre hbm
  refine lv_pop hx hb dl_601 rfl ?_
  refine lv_goto (tgt := 1542) hx hb dl_602 (by decide) ?_
  exact W.widen (by omega) (by omega) (KK _ _ _ ⟨_, _, _, _, cA, fo, Gx, Gm, hWx, hW1, hdis2.symm, hPo, hKo, hDo, hdx, hdm, hS, hbx, hbm, hl, hIv2⟩)
set_option maxRecDepth 100000 in
set_option maxHeartbeats 4000000 in
theorem law_10 {p : Program} {l : Launch} {e : Env} {s : State} {m : MethodId} {below : List Frame} {meth : Method} {c : Code} {b L : Nat} {xs : Nat → Int32} {D : va_G} {bx bm qo : Nat} {i : Int32} {H : Heap} {locs : List Loc} {ls : Array Slot} {cells slots : Nat} {Q : State → Prop} (F : zFx p s m meth c b L xs) (hi : 0 ≤ i.toInt ∧ i.toInt + 6 ≤ L) (hc : cells + 1 ≤ 1129) (hs : slots + 6 ≤ 17054) (B : zBe s b D bx bm qo i H locs ls) (KK : ∀ (H : Heap) (locs : List Loc) (ls : Array Slot), zBe s b D bx bm qo i H locs ls → W p l e room_1 s m #[Value.ref b] below meth c H locs (cells + 1) (slots + 6) Q (F0 m 1542 ls [])) : W p l e room_1 s m #[Value.ref b] below meth c H locs cells slots Q (F0 m 605 ls []) := by
  obtain ⟨C, hX, hbl, hr, hlocks, hL⟩ := id F
  obtain ⟨hx, hb, hml, hown, hts, hN, hZt⟩ := id C
  have hbA : ¬ zA s b := Nat.not_le.mpr hbl
  obtain ⟨wsx, wsm, tysx, tysm, cA, fo, Hx, Hm, hWx, hWm, hdis, hPo, hKo, hDo, hdx, hdm, hS, hbx, hbm, hl, hIv⟩ := B
  obtain ⟨f, rx, rm, Gx, Gm, q1, q2, hIv2, hE⟩ := step_10 (xs (i + 1).toNatClampNeg) (xs (i + 2).toNatClampNeg) (xs (i + 3).toNatClampNeg) hIv
  obtain ⟨vx0, hx0, -, -⟩ := gI_obj hIv.1.1 sx_0
  obtain ⟨vm0, hm0, -, -⟩ := gI_obj hIv.2.1.1 sm_0
  refine lv_aload_n hx hb dl_605 rfl (lv_at hl 3 rfl) ?_
  refine lv_aload_n hx hb dl_606 rfl (lv_at hl 4 rfl) ?_
  refine lv_iload hx hb dl_607 (lv_at hl 0 rfl) ?_
  refine lv_iconst (v := 1) hx hb dl_609 (by decide) ?_
  refine lv_iadd hx hb dl_610 ?_
  refine va_sld hx hb hX hbl hbA hS (vIk (k := 1) (by decide) (by decide) hi hL) dl_611 ?_
  refine lv_aload_n hx hb dl_612 rfl (lv_at hl 4 rfl) ?_
  refine lv_iload hx hb dl_613 (lv_at hl 0 rfl) ?_
  refine lv_iconst (v := 2) hx hb dl_615 (by decide) ?_
  refine lv_iadd hx hb dl_616 ?_
  refine va_sld hx hb hX hbl hbA hS (vIk (k := 2) (by decide) (by decide) hi hL) dl_617 ?_
  refine lv_aload_n hx hb dl_618 rfl (lv_at hl 4 rfl) ?_
  refine lv_iload hx hb dl_619 (lv_at hl 0 rfl) ?_
  refine lv_iconst (v := 3) hx hb dl_621 (by decide) ?_
  refine lv_iadd hx hb dl_622 ?_
  refine va_sld hx hb hX hbl hbA hS (vIk (k := 3) (by decide) (by decide) hi hL) dl_623 ?_
  refine z_law (rest := []) C (x := 124) (idx := 66) (by decide) (by decide +kernel) (List.mem_append_right _ (List.mem_of_getElem? (i := 776) (by decide +kernel))) dl_624 (by decide +kernel) (by decide +kernel) rfl rfl (by decide +kernel) (show cells ≤ 1129 by omega) (show slots ≤ 17054 by omega) q1 (Nat.le_of_ble_eq_true rfl) hWx hS hx0 hbx ⟨_, _, rfl, rfl, ⟨_, _, rfl, rfl, ⟨_, _, rfl, rfl, rfl⟩⟩⟩ rfl hl.1 (Nat.le_of_ble_eq_true rfl) rfl (fun v ws1 tys1 H1 locs1 hO hpre hW1 hD1 hk1 hS => ?_)
  obtain ⟨_, rfl, rfl⟩ := hO
  obtain ⟨hWm, hdis⟩ := hWm.other hdis hk1 hD1
  obtain ⟨hPo, hdx⟩ := z_other hPo hdx hk1 hD1
  have hWx := hW1
  have hbx := zpre_at hpre hbx
  refine lv_pop hx hb dl_627 rfl ?_
  refine lv_aload_n hx hb dl_628 rfl (lv_at hl 2 rfl) ?_
  refine lv_aload_n hx hb dl_629 rfl (lv_at hl 4 rfl) ?_
  refine lv_iload hx hb dl_630 (lv_at hl 0 rfl) ?_
  refine lv_iconst (v := 1) hx hb dl_632 (by decide) ?_
  refine lv_iadd hx hb dl_633 ?_
  refine va_sld hx hb hX hbl hbA hS (vIk (k := 1) (by decide) (by decide) hi hL) dl_634 ?_
  refine lv_aload_n hx hb dl_635 rfl (lv_at hl 4 rfl) ?_
  refine lv_iload hx hb dl_636 (lv_at hl 0 rfl) ?_
  refine lv_iconst (v := 2) hx hb dl_638 (by decide) ?_
  refine lv_iadd hx hb dl_639 ?_
  refine va_sld hx hb hX hbl hbA hS (vIk (k := 2) (by decide) (by decide) hi hL) dl_640 ?_
  refine lv_aload_n hx hb dl_641 rfl (lv_at hl 4 rfl) ?_
  refine lv_iload hx hb dl_642 (lv_at hl 0 rfl) ?_
  refine lv_iconst (v := 3) hx hb dl_644 (by decide) ?_
  refine lv_iadd hx hb dl_645 ?_
  refine va_sld hx hb hX hbl hbA hS (vIk (k := 3) (by decide) (by decide) hi hL) dl_646 ?_
  refine z_law (rest := []) C (x := 215) (idx := 69) (by decide) (by decide +kernel) (List.mem_append_right _ (List.mem_of_getElem? (i := 1519) (by decide +kernel))) dl_647 (by decide +kernel) (by decide +kernel) rfl rfl (by decide +kernel) (show cells ≤ 1129 by omega) (show slots ≤ 17054 by omega) q2 (Nat.le_of_ble_eq_true rfl) hWm hS hm0 hbm ⟨_, _, rfl, rfl, ⟨_, _, rfl, rfl, ⟨_, _, rfl, rfl, rfl⟩⟩⟩ rfl hl.1 (Nat.le_of_ble_eq_true rfl) rfl (fun v ws1 tys1 H1 locs1 hO hpre hW1 hD1 hk1 hS => ?_)
  obtain ⟨_, rfl, rfl⟩ := hO
  obtain ⟨hWx, hdis2⟩ := hWx.other hdis.symm hk1 hD1
  obtain ⟨hPo, hdm⟩ := z_other hPo hdm hk1 hD1
  have hbm := zpre_at hpre hbm
  refine lv_pop hx hb dl_650 rfl ?_
  refine lv_goto (tgt := 1542) hx hb dl_651 (by decide) ?_
  exact W.widen (by omega) (by omega) (KK _ _ _ ⟨_, _, _, _, cA, fo, Gx, Gm, hWx, hW1, hdis2.symm, hPo, hKo, hDo, hdx, hdm, hS, hbx, hbm, hl, hIv2⟩)
set_option maxRecDepth 100000 in
set_option maxHeartbeats 4000000 in
theorem law_11 {p : Program} {l : Launch} {e : Env} {s : State} {m : MethodId} {below : List Frame} {meth : Method} {c : Code} {b L : Nat} {xs : Nat → Int32} {D : va_G} {bx bm qo : Nat} {i : Int32} {H : Heap} {locs : List Loc} {ls : Array Slot} {cells slots : Nat} {Q : State → Prop} (F : zFx p s m meth c b L xs) (hi : 0 ≤ i.toInt ∧ i.toInt + 6 ≤ L) (hc : cells + 1 ≤ 1129) (hs : slots + 6 ≤ 17054) (B : zBe s b D bx bm qo i H locs ls) (KK : ∀ (H : Heap) (locs : List Loc) (ls : Array Slot), zBe s b D bx bm qo i H locs ls → W p l e room_1 s m #[Value.ref b] below meth c H locs (cells + 1) (slots + 6) Q (F0 m 1542 ls [])) : W p l e room_1 s m #[Value.ref b] below meth c H locs cells slots Q (F0 m 654 ls []) := by
  obtain ⟨C, hX, hbl, hr, hlocks, hL⟩ := id F
  obtain ⟨hx, hb, hml, hown, hts, hN, hZt⟩ := id C
  have hbA : ¬ zA s b := Nat.not_le.mpr hbl
  obtain ⟨wsx, wsm, tysx, tysm, cA, fo, Hx, Hm, hWx, hWm, hdis, hPo, hKo, hDo, hdx, hdm, hS, hbx, hbm, hl, hIv⟩ := B
  obtain ⟨f, rx, rm, Gx, Gm, q1, q2, hIv2, hE⟩ := step_11 (xs (i + 1).toNatClampNeg) (xs (i + 2).toNatClampNeg) hIv
  obtain ⟨vx0, hx0, -, -⟩ := gI_obj hIv.1.1 sx_0
  obtain ⟨vm0, hm0, -, -⟩ := gI_obj hIv.2.1.1 sm_0
  refine lv_aload_n hx hb dl_654 rfl (lv_at hl 3 rfl) ?_
  refine lv_aload_n hx hb dl_655 rfl (lv_at hl 4 rfl) ?_
  refine lv_iload hx hb dl_656 (lv_at hl 0 rfl) ?_
  refine lv_iconst (v := 1) hx hb dl_658 (by decide) ?_
  refine lv_iadd hx hb dl_659 ?_
  refine va_sld hx hb hX hbl hbA hS (vIk (k := 1) (by decide) (by decide) hi hL) dl_660 ?_
  refine lv_aload_n hx hb dl_661 rfl (lv_at hl 4 rfl) ?_
  refine lv_iload hx hb dl_662 (lv_at hl 0 rfl) ?_
  refine lv_iconst (v := 2) hx hb dl_664 (by decide) ?_
  refine lv_iadd hx hb dl_665 ?_
  refine va_sld hx hb hX hbl hbA hS (vIk (k := 2) (by decide) (by decide) hi hL) dl_666 ?_
  refine z_law (rest := []) C (x := 125) (idx := 70) (by decide) (by decide +kernel) (List.mem_append_right _ (List.mem_of_getElem? (i := 785) (by decide +kernel))) dl_667 (by decide +kernel) (by decide +kernel) rfl rfl (by decide +kernel) (show cells ≤ 1129 by omega) (show slots ≤ 17054 by omega) q1 (Nat.le_of_ble_eq_true rfl) hWx hS hx0 hbx ⟨_, _, rfl, rfl, ⟨_, _, rfl, rfl, rfl⟩⟩ rfl hl.1 (Nat.le_of_ble_eq_true rfl) rfl (fun v ws1 tys1 H1 locs1 hO hpre hW1 hD1 hk1 hS => ?_)
  obtain ⟨_, rfl, rfl⟩ := hO
  obtain ⟨hWm, hdis⟩ := hWm.other hdis hk1 hD1
  obtain ⟨hPo, hdx⟩ := z_other hPo hdx hk1 hD1
  have hWx := hW1
  have hbx := zpre_at hpre hbx
  refine lv_pop hx hb dl_670 rfl ?_
  refine lv_aload_n hx hb dl_671 rfl (lv_at hl 2 rfl) ?_
  refine lv_aload_n hx hb dl_672 rfl (lv_at hl 4 rfl) ?_
  refine lv_iload hx hb dl_673 (lv_at hl 0 rfl) ?_
  refine lv_iconst (v := 1) hx hb dl_675 (by decide) ?_
  refine lv_iadd hx hb dl_676 ?_
  refine va_sld hx hb hX hbl hbA hS (vIk (k := 1) (by decide) (by decide) hi hL) dl_677 ?_
  refine lv_aload_n hx hb dl_678 rfl (lv_at hl 4 rfl) ?_
  refine lv_iload hx hb dl_679 (lv_at hl 0 rfl) ?_
  refine lv_iconst (v := 2) hx hb dl_681 (by decide) ?_
  refine lv_iadd hx hb dl_682 ?_
  refine va_sld hx hb hX hbl hbA hS (vIk (k := 2) (by decide) (by decide) hi hL) dl_683 ?_
  refine z_law (rest := []) C (x := 220) (idx := 73) (by decide) (by decide +kernel) (List.mem_append_right _ (List.mem_of_getElem? (i := 1539) (by decide +kernel))) dl_684 (by decide +kernel) (by decide +kernel) rfl rfl (by decide +kernel) (show cells ≤ 1129 by omega) (show slots ≤ 17054 by omega) q2 (Nat.le_of_ble_eq_true rfl) hWm hS hm0 hbm ⟨_, _, rfl, rfl, ⟨_, _, rfl, rfl, rfl⟩⟩ rfl hl.1 (Nat.le_of_ble_eq_true rfl) rfl (fun v ws1 tys1 H1 locs1 hO hpre hW1 hD1 hk1 hS => ?_)
  obtain ⟨_, rfl, rfl⟩ := hO
  obtain ⟨hWx, hdis2⟩ := hWx.other hdis.symm hk1 hD1
  obtain ⟨hPo, hdm⟩ := z_other hPo hdm hk1 hD1
  have hbm := zpre_at hpre hbm
  refine lv_pop hx hb dl_687 rfl ?_
  refine lv_goto (tgt := 1542) hx hb dl_688 (by decide) ?_
  exact W.widen (by omega) (by omega) (KK _ _ _ ⟨_, _, _, _, cA, fo, Gx, Gm, hWx, hW1, hdis2.symm, hPo, hKo, hDo, hdx, hdm, hS, hbx, hbm, hl, hIv2⟩)
set_option maxRecDepth 100000 in
set_option maxHeartbeats 4000000 in
theorem law_12 {p : Program} {l : Launch} {e : Env} {s : State} {m : MethodId} {below : List Frame} {meth : Method} {c : Code} {b L : Nat} {xs : Nat → Int32} {D : va_G} {bx bm qo : Nat} {i : Int32} {H : Heap} {locs : List Loc} {ls : Array Slot} {cells slots : Nat} {Q : State → Prop} (F : zFx p s m meth c b L xs) (hi : 0 ≤ i.toInt ∧ i.toInt + 6 ≤ L) (hc : cells + 1 ≤ 1129) (hs : slots + 6 ≤ 17054) (B : zBe s b D bx bm qo i H locs ls) (KK : ∀ (H : Heap) (locs : List Loc) (ls : Array Slot), zBe s b D bx bm qo i H locs ls → W p l e room_1 s m #[Value.ref b] below meth c H locs (cells + 1) (slots + 6) Q (F0 m 1542 ls [])) : W p l e room_1 s m #[Value.ref b] below meth c H locs cells slots Q (F0 m 691 ls []) := by
  obtain ⟨C, hX, hbl, hr, hlocks, hL⟩ := id F
  obtain ⟨hx, hb, hml, hown, hts, hN, hZt⟩ := id C
  have hbA : ¬ zA s b := Nat.not_le.mpr hbl
  obtain ⟨wsx, wsm, tysx, tysm, cA, fo, Hx, Hm, hWx, hWm, hdis, hPo, hKo, hDo, hdx, hdm, hS, hbx, hbm, hl, hIv⟩ := B
  obtain ⟨f, rx, rm, Gx, Gm, q1, q2, hIv2, hE⟩ := step_12 (xs (i + 1).toNatClampNeg) hIv
  obtain ⟨vx0, hx0, -, -⟩ := gI_obj hIv.1.1 sx_0
  obtain ⟨vm0, hm0, -, -⟩ := gI_obj hIv.2.1.1 sm_0
  refine lv_aload_n hx hb dl_691 rfl (lv_at hl 3 rfl) ?_
  refine lv_aload_n hx hb dl_692 rfl (lv_at hl 4 rfl) ?_
  refine lv_iload hx hb dl_693 (lv_at hl 0 rfl) ?_
  refine lv_iconst (v := 1) hx hb dl_695 (by decide) ?_
  refine lv_iadd hx hb dl_696 ?_
  refine va_sld hx hb hX hbl hbA hS (vIk (k := 1) (by decide) (by decide) hi hL) dl_697 ?_
  refine z_law (rest := []) C (x := 126) (idx := 74) (by decide) (by decide +kernel) (List.mem_append_right _ (List.mem_of_getElem? (i := 794) (by decide +kernel))) dl_698 (by decide +kernel) (by decide +kernel) rfl rfl (by decide +kernel) (show cells ≤ 1129 by omega) (show slots ≤ 17054 by omega) q1 (Nat.le_of_ble_eq_true rfl) hWx hS hx0 hbx ⟨_, _, rfl, rfl, rfl⟩ rfl hl.1 (Nat.le_of_ble_eq_true rfl) rfl (fun v ws1 tys1 H1 locs1 hO hpre hW1 hD1 hk1 hS => ?_)
  obtain ⟨_, rfl, rfl⟩ := hO
  obtain ⟨hWm, hdis⟩ := hWm.other hdis hk1 hD1
  obtain ⟨hPo, hdx⟩ := z_other hPo hdx hk1 hD1
  have hWx := hW1
  have hbx := zpre_at hpre hbx
  refine lv_pop hx hb dl_701 rfl ?_
  refine lv_aload_n hx hb dl_702 rfl (lv_at hl 2 rfl) ?_
  refine lv_aload_n hx hb dl_703 rfl (lv_at hl 4 rfl) ?_
  refine lv_iload hx hb dl_704 (lv_at hl 0 rfl) ?_
  refine lv_iconst (v := 1) hx hb dl_706 (by decide) ?_
  refine lv_iadd hx hb dl_707 ?_
  refine va_sld hx hb hX hbl hbA hS (vIk (k := 1) (by decide) (by decide) hi hL) dl_708 ?_
  refine z_law (rest := []) C (x := 221) (idx := 77) (by decide) (by decide +kernel) (List.mem_append_right _ (List.mem_of_getElem? (i := 1547) (by decide +kernel))) dl_709 (by decide +kernel) (by decide +kernel) rfl rfl (by decide +kernel) (show cells ≤ 1129 by omega) (show slots ≤ 17054 by omega) q2 (Nat.le_of_ble_eq_true rfl) hWm hS hm0 hbm ⟨_, _, rfl, rfl, rfl⟩ rfl hl.1 (Nat.le_of_ble_eq_true rfl) rfl (fun v ws1 tys1 H1 locs1 hO hpre hW1 hD1 hk1 hS => ?_)
  obtain ⟨_, rfl, rfl⟩ := hO
  obtain ⟨hWx, hdis2⟩ := hWx.other hdis.symm hk1 hD1
  obtain ⟨hPo, hdm⟩ := z_other hPo hdm hk1 hD1
  have hbm := zpre_at hpre hbm
  refine lv_pop hx hb dl_712 rfl ?_
  refine lv_goto (tgt := 1542) hx hb dl_713 (by decide) ?_
  exact W.widen (by omega) (by omega) (KK _ _ _ ⟨_, _, _, _, cA, fo, Gx, Gm, hWx, hW1, hdis2.symm, hPo, hKo, hDo, hdx, hdm, hS, hbx, hbm, hl, hIv2⟩)
set_option maxRecDepth 100000 in
set_option maxHeartbeats 4000000 in
theorem law_13 {p : Program} {l : Launch} {e : Env} {s : State} {m : MethodId} {below : List Frame} {meth : Method} {c : Code} {b L : Nat} {xs : Nat → Int32} {D : va_G} {bx bm qo : Nat} {i : Int32} {H : Heap} {locs : List Loc} {ls : Array Slot} {cells slots : Nat} {Q : State → Prop} (F : zFx p s m meth c b L xs) (hi : 0 ≤ i.toInt ∧ i.toInt + 6 ≤ L) (hc : cells + 1 ≤ 1129) (hs : slots + 6 ≤ 17054) (B : zBe s b D bx bm qo i H locs ls) (KK : ∀ (H : Heap) (locs : List Loc) (ls : Array Slot), zBe s b D bx bm qo i H locs ls → W p l e room_1 s m #[Value.ref b] below meth c H locs (cells + 1) (slots + 6) Q (F0 m 1542 ls [])) : W p l e room_1 s m #[Value.ref b] below meth c H locs cells slots Q (F0 m 716 ls []) := by
  obtain ⟨C, hX, hbl, hr, hlocks, hL⟩ := id F
  obtain ⟨hx, hb, hml, hown, hts, hN, hZt⟩ := id C
  have hbA : ¬ zA s b := Nat.not_le.mpr hbl
  obtain ⟨wsx, wsm, tysx, tysm, cA, fo, Hx, Hm, hWx, hWm, hdis, hPo, hKo, hDo, hdx, hdm, hS, hbx, hbm, hl, hIv⟩ := B
  obtain ⟨f, rx, rm, Gx, Gm, q1, q2, hIv2, hE⟩ := step_13 (xs (i + 1).toNatClampNeg) (xs (i + 2).toNatClampNeg) hIv
  obtain ⟨vx0, hx0, -, -⟩ := gI_obj hIv.1.1 sx_0
  obtain ⟨vm0, hm0, -, -⟩ := gI_obj hIv.2.1.1 sm_0
  refine lv_aload_n hx hb dl_716 rfl (lv_at hl 3 rfl) ?_
  refine lv_aload_n hx hb dl_717 rfl (lv_at hl 4 rfl) ?_
  refine lv_iload hx hb dl_718 (lv_at hl 0 rfl) ?_
  refine lv_iconst (v := 1) hx hb dl_720 (by decide) ?_
  refine lv_iadd hx hb dl_721 ?_
  refine va_sld hx hb hX hbl hbA hS (vIk (k := 1) (by decide) (by decide) hi hL) dl_722 ?_
  refine lv_aload_n hx hb dl_723 rfl (lv_at hl 4 rfl) ?_
  refine lv_iload hx hb dl_724 (lv_at hl 0 rfl) ?_
  refine lv_iconst (v := 2) hx hb dl_726 (by decide) ?_
  refine lv_iadd hx hb dl_727 ?_
  refine va_sld hx hb hX hbl hbA hS (vIk (k := 2) (by decide) (by decide) hi hL) dl_728 ?_
  refine z_law (rest := []) C (x := 127) (idx := 78) (by decide) (by decide +kernel) (List.mem_append_right _ (List.mem_of_getElem? (i := 812) (by decide +kernel))) dl_729 (by decide +kernel) (by decide +kernel) rfl rfl (by decide +kernel) (show cells ≤ 1129 by omega) (show slots ≤ 17054 by omega) q1 (Nat.le_of_ble_eq_true rfl) hWx hS hx0 hbx ⟨_, _, rfl, rfl, ⟨_, _, rfl, rfl, rfl⟩⟩ rfl hl.1 (Nat.le_of_ble_eq_true rfl) rfl (fun v ws1 tys1 H1 locs1 hO hpre hW1 hD1 hk1 hS => ?_)
  obtain ⟨_, rfl, rfl⟩ := hO
  obtain ⟨hWm, hdis⟩ := hWm.other hdis hk1 hD1
  obtain ⟨hPo, hdx⟩ := z_other hPo hdx hk1 hD1
  have hWx := hW1
  have hbx := zpre_at hpre hbx
  refine lv_pop hx hb dl_732 rfl ?_
  refine lv_aload_n hx hb dl_733 rfl (lv_at hl 2 rfl) ?_
  refine lv_aload_n hx hb dl_734 rfl (lv_at hl 4 rfl) ?_
  refine lv_iload hx hb dl_735 (lv_at hl 0 rfl) ?_
  refine lv_iconst (v := 1) hx hb dl_737 (by decide) ?_
  refine lv_iadd hx hb dl_738 ?_
  refine va_sld hx hb hX hbl hbA hS (vIk (k := 1) (by decide) (by decide) hi hL) dl_739 ?_
  refine lv_aload_n hx hb dl_740 rfl (lv_at hl 4 rfl) ?_
  refine lv_iload hx hb dl_741 (lv_at hl 0 rfl) ?_
  refine lv_iconst (v := 2) hx hb dl_743 (by decide) ?_
  refine lv_iadd hx hb dl_744 ?_
  refine va_sld hx hb hX hbl hbA hS (vIk (k := 2) (by decide) (by decide) hi hL) dl_745 ?_
  refine z_law (rest := []) C (x := 223) (idx := 81) (by decide) (by decide +kernel) (List.mem_append_right _ (List.mem_of_getElem? (i := 1551) (by decide +kernel))) dl_746 (by decide +kernel) (by decide +kernel) rfl rfl (by decide +kernel) (show cells ≤ 1129 by omega) (show slots ≤ 17054 by omega) q2 (Nat.le_of_ble_eq_true rfl) hWm hS hm0 hbm ⟨_, _, rfl, rfl, ⟨_, _, rfl, rfl, rfl⟩⟩ rfl hl.1 (Nat.le_of_ble_eq_true rfl) rfl (fun v ws1 tys1 H1 locs1 hO hpre hW1 hD1 hk1 hS => ?_)
  obtain ⟨_, rfl, rfl⟩ := hO
  obtain ⟨hWx, hdis2⟩ := hWx.other hdis.symm hk1 hD1
  obtain ⟨hPo, hdm⟩ := z_other hPo hdm hk1 hD1
  have hbm := zpre_at hpre hbm
  refine lv_pop hx hb dl_749 rfl ?_
  refine lv_goto (tgt := 1542) hx hb dl_750 (by decide) ?_
  exact W.widen (by omega) (by omega) (KK _ _ _ ⟨_, _, _, _, cA, fo, Gx, Gm, hWx, hW1, hdis2.symm, hPo, hKo, hDo, hdx, hdm, hS, hbx, hbm, hl, hIv2⟩)
set_option maxRecDepth 100000 in
set_option maxHeartbeats 4000000 in
theorem law_14 {p : Program} {l : Launch} {e : Env} {s : State} {m : MethodId} {below : List Frame} {meth : Method} {c : Code} {b L : Nat} {xs : Nat → Int32} {D : va_G} {bx bm qo : Nat} {i : Int32} {H : Heap} {locs : List Loc} {ls : Array Slot} {cells slots : Nat} {Q : State → Prop} (F : zFx p s m meth c b L xs) (hi : 0 ≤ i.toInt ∧ i.toInt + 6 ≤ L) (hc : cells + 1 ≤ 1129) (hs : slots + 6 ≤ 17054) (B : zBe s b D bx bm qo i H locs ls) (KK : ∀ (H : Heap) (locs : List Loc) (ls : Array Slot), zBe s b D bx bm qo i H locs ls → W p l e room_1 s m #[Value.ref b] below meth c H locs (cells + 1) (slots + 6) Q (F0 m 1542 ls [])) : W p l e room_1 s m #[Value.ref b] below meth c H locs cells slots Q (F0 m 753 ls []) := by
  obtain ⟨C, hX, hbl, hr, hlocks, hL⟩ := id F
  obtain ⟨hx, hb, hml, hown, hts, hN, hZt⟩ := id C
  have hbA : ¬ zA s b := Nat.not_le.mpr hbl
  obtain ⟨wsx, wsm, tysx, tysm, cA, fo, Hx, Hm, hWx, hWm, hdis, hPo, hKo, hDo, hdx, hdm, hS, hbx, hbm, hl, hIv⟩ := B
  obtain ⟨f, rx, rm, Gx, Gm, q1, q2, hIv2, hE⟩ := step_14 (xs (i + 1).toNatClampNeg) hIv
  obtain ⟨vx0, hx0, -, -⟩ := gI_obj hIv.1.1 sx_0
  obtain ⟨vm0, hm0, -, -⟩ := gI_obj hIv.2.1.1 sm_0
  refine lv_aload_n hx hb dl_753 rfl (lv_at hl 3 rfl) ?_
  refine lv_aload_n hx hb dl_754 rfl (lv_at hl 4 rfl) ?_
  refine lv_iload hx hb dl_755 (lv_at hl 0 rfl) ?_
  refine lv_iconst (v := 1) hx hb dl_757 (by decide) ?_
  refine lv_iadd hx hb dl_758 ?_
  refine va_sld hx hb hX hbl hbA hS (vIk (k := 1) (by decide) (by decide) hi hL) dl_759 ?_
  refine z_law (rest := []) C (x := 128) (idx := 82) (by decide) (by decide +kernel) (List.mem_append_right _ (List.mem_of_getElem? (i := 827) (by decide +kernel))) dl_760 (by decide +kernel) (by decide +kernel) rfl rfl (by decide +kernel) (show cells ≤ 1129 by omega) (show slots ≤ 17054 by omega) q1 (Nat.le_of_ble_eq_true rfl) hWx hS hx0 hbx ⟨_, _, rfl, rfl, rfl⟩ rfl hl.1 (Nat.le_of_ble_eq_true rfl) rfl (fun v ws1 tys1 H1 locs1 hO hpre hW1 hD1 hk1 hS => ?_)
  obtain ⟨_, rfl, rfl⟩ := hO
  obtain ⟨hWm, hdis⟩ := hWm.other hdis hk1 hD1
  obtain ⟨hPo, hdx⟩ := z_other hPo hdx hk1 hD1
  have hWx := hW1
  have hbx := zpre_at hpre hbx
  refine lv_pop hx hb dl_763 rfl ?_
  refine lv_aload_n hx hb dl_764 rfl (lv_at hl 2 rfl) ?_
  refine lv_aload_n hx hb dl_765 rfl (lv_at hl 4 rfl) ?_
  refine lv_iload hx hb dl_766 (lv_at hl 0 rfl) ?_
  refine lv_iconst (v := 1) hx hb dl_768 (by decide) ?_
  refine lv_iadd hx hb dl_769 ?_
  refine va_sld hx hb hX hbl hbA hS (vIk (k := 1) (by decide) (by decide) hi hL) dl_770 ?_
  refine z_law (rest := []) C (x := 225) (idx := 85) (by decide) (by decide +kernel) (List.mem_append_right _ (List.mem_of_getElem? (i := 1559) (by decide +kernel))) dl_771 (by decide +kernel) (by decide +kernel) rfl rfl (by decide +kernel) (show cells ≤ 1129 by omega) (show slots ≤ 17054 by omega) q2 (Nat.le_of_ble_eq_true rfl) hWm hS hm0 hbm ⟨_, _, rfl, rfl, rfl⟩ rfl hl.1 (Nat.le_of_ble_eq_true rfl) rfl (fun v ws1 tys1 H1 locs1 hO hpre hW1 hD1 hk1 hS => ?_)
  obtain ⟨_, rfl, rfl⟩ := hO
  obtain ⟨hWx, hdis2⟩ := hWx.other hdis.symm hk1 hD1
  obtain ⟨hPo, hdm⟩ := z_other hPo hdm hk1 hD1
  have hbm := zpre_at hpre hbm
  refine lv_pop hx hb dl_774 rfl ?_
  refine lv_goto (tgt := 1542) hx hb dl_775 (by decide) ?_
  exact W.widen (by omega) (by omega) (KK _ _ _ ⟨_, _, _, _, cA, fo, Gx, Gm, hWx, hW1, hdis2.symm, hPo, hKo, hDo, hdx, hdm, hS, hbx, hbm, hl, hIv2⟩)
set_option maxRecDepth 100000 in
set_option maxHeartbeats 4000000 in
theorem law_15 {p : Program} {l : Launch} {e : Env} {s : State} {m : MethodId} {below : List Frame} {meth : Method} {c : Code} {b L : Nat} {xs : Nat → Int32} {D : va_G} {bx bm qo : Nat} {i : Int32} {H : Heap} {locs : List Loc} {ls : Array Slot} {cells slots : Nat} {Q : State → Prop} (F : zFx p s m meth c b L xs) (hi : 0 ≤ i.toInt ∧ i.toInt + 6 ≤ L) (hc : cells + 1 ≤ 1129) (hs : slots + 6 ≤ 17054) (B : zBe s b D bx bm qo i H locs ls) (KK : ∀ (H : Heap) (locs : List Loc) (ls : Array Slot), zBe s b D bx bm qo i H locs ls → W p l e room_1 s m #[Value.ref b] below meth c H locs (cells + 1) (slots + 6) Q (F0 m 1542 ls [])) : W p l e room_1 s m #[Value.ref b] below meth c H locs cells slots Q (F0 m 778 ls []) := by
  obtain ⟨C, hX, hbl, hr, hlocks, hL⟩ := id F
  obtain ⟨hx, hb, hml, hown, hts, hN, hZt⟩ := id C
  have hbA : ¬ zA s b := Nat.not_le.mpr hbl
  obtain ⟨wsx, wsm, tysx, tysm, cA, fo, Hx, Hm, hWx, hWm, hdis, hPo, hKo, hDo, hdx, hdm, hS, hbx, hbm, hl, hIv⟩ := B
  obtain ⟨f, rx, rm, Gx, Gm, q1, q2, hIv2, hE⟩ := step_15 (xs (i + 1).toNatClampNeg) hIv
  obtain ⟨vx0, hx0, -, -⟩ := gI_obj hIv.1.1 sx_0
  obtain ⟨vm0, hm0, -, -⟩ := gI_obj hIv.2.1.1 sm_0
  refine lv_aload_n hx hb dl_778 rfl (lv_at hl 3 rfl) ?_
  refine lv_aload_n hx hb dl_779 rfl (lv_at hl 4 rfl) ?_
  refine lv_iload hx hb dl_780 (lv_at hl 0 rfl) ?_
  refine lv_iconst (v := 1) hx hb dl_782 (by decide) ?_
  refine lv_iadd hx hb dl_783 ?_
  refine va_sld hx hb hX hbl hbA hS (vIk (k := 1) (by decide) (by decide) hi hL) dl_784 ?_
  refine z_law (rest := []) C (x := 129) (idx := 86) (by decide) (by decide +kernel) (List.mem_append_right _ (List.mem_of_getElem? (i := 835) (by decide +kernel))) dl_785 (by decide +kernel) (by decide +kernel) rfl rfl (by decide +kernel) (show cells ≤ 1129 by omega) (show slots ≤ 17054 by omega) q1 (Nat.le_of_ble_eq_true rfl) hWx hS hx0 hbx ⟨_, _, rfl, rfl, rfl⟩ rfl hl.1 (Nat.le_of_ble_eq_true rfl) rfl (fun v ws1 tys1 H1 locs1 hO hpre hW1 hD1 hk1 hS => ?_)
  obtain ⟨_, rfl, rfl⟩ := hO
  obtain ⟨hWm, hdis⟩ := hWm.other hdis hk1 hD1
  obtain ⟨hPo, hdx⟩ := z_other hPo hdx hk1 hD1
  have hWx := hW1
  have hbx := zpre_at hpre hbx
  refine lv_pop hx hb dl_788 rfl ?_
  refine lv_aload_n hx hb dl_789 rfl (lv_at hl 2 rfl) ?_
  refine lv_aload_n hx hb dl_790 rfl (lv_at hl 4 rfl) ?_
  refine lv_iload hx hb dl_791 (lv_at hl 0 rfl) ?_
  refine lv_iconst (v := 1) hx hb dl_793 (by decide) ?_
  refine lv_iadd hx hb dl_794 ?_
  refine va_sld hx hb hX hbl hbA hS (vIk (k := 1) (by decide) (by decide) hi hL) dl_795 ?_
  refine z_law (rest := []) C (x := 227) (idx := 89) (by decide) (by decide +kernel) (List.mem_append_right _ (List.mem_of_getElem? (i := 1567) (by decide +kernel))) dl_796 (by decide +kernel) (by decide +kernel) rfl rfl (by decide +kernel) (show cells ≤ 1129 by omega) (show slots ≤ 17054 by omega) q2 (Nat.le_of_ble_eq_true rfl) hWm hS hm0 hbm ⟨_, _, rfl, rfl, rfl⟩ rfl hl.1 (Nat.le_of_ble_eq_true rfl) rfl (fun v ws1 tys1 H1 locs1 hO hpre hW1 hD1 hk1 hS => ?_)
  obtain ⟨_, rfl, rfl⟩ := hO
  obtain ⟨hWx, hdis2⟩ := hWx.other hdis.symm hk1 hD1
  obtain ⟨hPo, hdm⟩ := z_other hPo hdm hk1 hD1
  have hbm := zpre_at hpre hbm
  refine lv_pop hx hb dl_799 rfl ?_
  refine lv_goto (tgt := 1542) hx hb dl_800 (by decide) ?_
  exact W.widen (by omega) (by omega) (KK _ _ _ ⟨_, _, _, _, cA, fo, Gx, Gm, hWx, hW1, hdis2.symm, hPo, hKo, hDo, hdx, hdm, hS, hbx, hbm, hl, hIv2⟩)
set_option maxRecDepth 100000 in
set_option maxHeartbeats 4000000 in
theorem law_16 {p : Program} {l : Launch} {e : Env} {s : State} {m : MethodId} {below : List Frame} {meth : Method} {c : Code} {b L : Nat} {xs : Nat → Int32} {D : va_G} {bx bm qo : Nat} {i : Int32} {H : Heap} {locs : List Loc} {ls : Array Slot} {cells slots : Nat} {Q : State → Prop} (F : zFx p s m meth c b L xs) (hi : 0 ≤ i.toInt ∧ i.toInt + 6 ≤ L) (hc : cells + 1 ≤ 1129) (hs : slots + 6 ≤ 17054) (B : zBe s b D bx bm qo i H locs ls) (KK : ∀ (H : Heap) (locs : List Loc) (ls : Array Slot), zBe s b D bx bm qo i H locs ls → W p l e room_1 s m #[Value.ref b] below meth c H locs (cells + 1) (slots + 6) Q (F0 m 1542 ls [])) : W p l e room_1 s m #[Value.ref b] below meth c H locs cells slots Q (F0 m 803 ls []) := by
  obtain ⟨C, hX, hbl, hr, hlocks, hL⟩ := id F
  obtain ⟨hx, hb, hml, hown, hts, hN, hZt⟩ := id C
  have hbA : ¬ zA s b := Nat.not_le.mpr hbl
  obtain ⟨wsx, wsm, tysx, tysm, cA, fo, Hx, Hm, hWx, hWm, hdis, hPo, hKo, hDo, hdx, hdm, hS, hbx, hbm, hl, hIv⟩ := B
  obtain ⟨f, rx, rm, Gx, Gm, q1, q2, hIv2, hE⟩ := step_16 (xs (i + 1).toNatClampNeg) hIv
  obtain ⟨vx0, hx0, -, -⟩ := gI_obj hIv.1.1 sx_0
  obtain ⟨vm0, hm0, -, -⟩ := gI_obj hIv.2.1.1 sm_0
  refine lv_aload_n hx hb dl_803 rfl (lv_at hl 3 rfl) ?_
  refine lv_aload_n hx hb dl_804 rfl (lv_at hl 4 rfl) ?_
  refine lv_iload hx hb dl_805 (lv_at hl 0 rfl) ?_
  refine lv_iconst (v := 1) hx hb dl_807 (by decide) ?_
  refine lv_iadd hx hb dl_808 ?_
  refine va_sld hx hb hX hbl hbA hS (vIk (k := 1) (by decide) (by decide) hi hL) dl_809 ?_
  refine z_law (rest := []) C (x := 130) (idx := 90) (by decide) (by decide +kernel) (List.mem_append_right _ (List.mem_of_getElem? (i := 855) (by decide +kernel))) dl_810 (by decide +kernel) (by decide +kernel) rfl rfl (by decide +kernel) (show cells ≤ 1129 by omega) (show slots ≤ 17054 by omega) q1 (Nat.le_of_ble_eq_true rfl) hWx hS hx0 hbx ⟨_, _, rfl, rfl, rfl⟩ rfl hl.1 (Nat.le_of_ble_eq_true rfl) rfl (fun v ws1 tys1 H1 locs1 hO hpre hW1 hD1 hk1 hS => ?_)
  obtain ⟨_, rfl, rfl⟩ := hO
  obtain ⟨hWm, hdis⟩ := hWm.other hdis hk1 hD1
  obtain ⟨hPo, hdx⟩ := z_other hPo hdx hk1 hD1
  have hWx := hW1
  have hbx := zpre_at hpre hbx
  refine lv_pop hx hb dl_813 rfl ?_
  refine lv_aload_n hx hb dl_814 rfl (lv_at hl 2 rfl) ?_
  refine lv_aload_n hx hb dl_815 rfl (lv_at hl 4 rfl) ?_
  refine lv_iload hx hb dl_816 (lv_at hl 0 rfl) ?_
  refine lv_iconst (v := 1) hx hb dl_818 (by decide) ?_
  refine lv_iadd hx hb dl_819 ?_
  refine va_sld hx hb hX hbl hbA hS (vIk (k := 1) (by decide) (by decide) hi hL) dl_820 ?_
  refine z_law (rest := []) C (x := 228) (idx := 93) (by decide) (by decide +kernel) (List.mem_append_right _ (List.mem_of_getElem? (i := 1575) (by decide +kernel))) dl_821 (by decide +kernel) (by decide +kernel) rfl rfl (by decide +kernel) (show cells ≤ 1129 by omega) (show slots ≤ 17054 by omega) q2 (Nat.le_of_ble_eq_true rfl) hWm hS hm0 hbm ⟨_, _, rfl, rfl, rfl⟩ rfl hl.1 (Nat.le_of_ble_eq_true rfl) rfl (fun v ws1 tys1 H1 locs1 hO hpre hW1 hD1 hk1 hS => ?_)
  obtain ⟨_, rfl, rfl⟩ := hO
  obtain ⟨hWx, hdis2⟩ := hWx.other hdis.symm hk1 hD1
  obtain ⟨hPo, hdm⟩ := z_other hPo hdm hk1 hD1
  have hbm := zpre_at hpre hbm
  refine lv_pop hx hb dl_824 rfl ?_
  refine lv_goto (tgt := 1542) hx hb dl_825 (by decide) ?_
  exact W.widen (by omega) (by omega) (KK _ _ _ ⟨_, _, _, _, cA, fo, Gx, Gm, hWx, hW1, hdis2.symm, hPo, hKo, hDo, hdx, hdm, hS, hbx, hbm, hl, hIv2⟩)
set_option maxRecDepth 100000 in
set_option maxHeartbeats 4000000 in
theorem law_17 {p : Program} {l : Launch} {e : Env} {s : State} {m : MethodId} {below : List Frame} {meth : Method} {c : Code} {b L : Nat} {xs : Nat → Int32} {D : va_G} {bx bm qo : Nat} {i : Int32} {H : Heap} {locs : List Loc} {ls : Array Slot} {cells slots : Nat} {Q : State → Prop} (F : zFx p s m meth c b L xs) (hi : 0 ≤ i.toInt ∧ i.toInt + 6 ≤ L) (hc : cells + 1 ≤ 1129) (hs : slots + 6 ≤ 17054) (B : zBe s b D bx bm qo i H locs ls) (KK : ∀ (H : Heap) (locs : List Loc) (ls : Array Slot), zBe s b D bx bm qo i H locs ls → W p l e room_1 s m #[Value.ref b] below meth c H locs (cells + 1) (slots + 6) Q (F0 m 1542 ls [])) : W p l e room_1 s m #[Value.ref b] below meth c H locs cells slots Q (F0 m 828 ls []) := by
  obtain ⟨C, hX, hbl, hr, hlocks, hL⟩ := id F
  obtain ⟨hx, hb, hml, hown, hts, hN, hZt⟩ := id C
  have hbA : ¬ zA s b := Nat.not_le.mpr hbl
  obtain ⟨wsx, wsm, tysx, tysm, cA, fo, Hx, Hm, hWx, hWm, hdis, hPo, hKo, hDo, hdx, hdm, hS, hbx, hbm, hl, hIv⟩ := B
  obtain ⟨f, rx, rm, Gx, Gm, q1, q2, hIv2, hE⟩ := step_17 (xs (i + 1).toNatClampNeg) (xs (i + 2).toNatClampNeg) (xs (i + 3).toNatClampNeg) hIv
  obtain ⟨vx0, hx0, -, -⟩ := gI_obj hIv.1.1 sx_0
  obtain ⟨vm0, hm0, -, -⟩ := gI_obj hIv.2.1.1 sm_0
  refine lv_aload_n hx hb dl_828 rfl (lv_at hl 3 rfl) ?_
  refine lv_aload_n hx hb dl_829 rfl (lv_at hl 4 rfl) ?_
  refine lv_iload hx hb dl_830 (lv_at hl 0 rfl) ?_
  refine lv_iconst (v := 1) hx hb dl_832 (by decide) ?_
  refine lv_iadd hx hb dl_833 ?_
  refine va_sld hx hb hX hbl hbA hS (vIk (k := 1) (by decide) (by decide) hi hL) dl_834 ?_
  refine lv_aload_n hx hb dl_835 rfl (lv_at hl 4 rfl) ?_
  refine lv_iload hx hb dl_836 (lv_at hl 0 rfl) ?_
  refine lv_iconst (v := 2) hx hb dl_838 (by decide) ?_
  refine lv_iadd hx hb dl_839 ?_
  refine va_sld hx hb hX hbl hbA hS (vIk (k := 2) (by decide) (by decide) hi hL) dl_840 ?_
  refine lv_aload_n hx hb dl_841 rfl (lv_at hl 4 rfl) ?_
  refine lv_iload hx hb dl_842 (lv_at hl 0 rfl) ?_
  refine lv_iconst (v := 3) hx hb dl_844 (by decide) ?_
  refine lv_iadd hx hb dl_845 ?_
  refine va_sld hx hb hX hbl hbA hS (vIk (k := 3) (by decide) (by decide) hi hL) dl_846 ?_
  refine z_law (rest := []) C (x := 131) (idx := 94) (by decide) (by decide +kernel) (List.mem_append_right _ (List.mem_of_getElem? (i := 873) (by decide +kernel))) dl_847 (by decide +kernel) (by decide +kernel) rfl rfl (by decide +kernel) (show cells ≤ 1129 by omega) (show slots ≤ 17054 by omega) q1 (Nat.le_of_ble_eq_true rfl) hWx hS hx0 hbx ⟨_, _, rfl, rfl, ⟨_, _, rfl, rfl, ⟨_, _, rfl, rfl, rfl⟩⟩⟩ rfl hl.1 (Nat.le_of_ble_eq_true rfl) rfl (fun v ws1 tys1 H1 locs1 hO hpre hW1 hD1 hk1 hS => ?_)
  obtain ⟨_, rfl, rfl⟩ := hO
  obtain ⟨hWm, hdis⟩ := hWm.other hdis hk1 hD1
  obtain ⟨hPo, hdx⟩ := z_other hPo hdx hk1 hD1
  have hWx := hW1
  have hbx := zpre_at hpre hbx
  refine lv_pop hx hb dl_850 rfl ?_
  refine lv_aload_n hx hb dl_851 rfl (lv_at hl 2 rfl) ?_
  refine lv_aload_n hx hb dl_852 rfl (lv_at hl 4 rfl) ?_
  refine lv_iload hx hb dl_853 (lv_at hl 0 rfl) ?_
  refine lv_iconst (v := 1) hx hb dl_855 (by decide) ?_
  refine lv_iadd hx hb dl_856 ?_
  refine va_sld hx hb hX hbl hbA hS (vIk (k := 1) (by decide) (by decide) hi hL) dl_857 ?_
  refine lv_aload_n hx hb dl_858 rfl (lv_at hl 4 rfl) ?_
  refine lv_iload hx hb dl_859 (lv_at hl 0 rfl) ?_
  refine lv_iconst (v := 2) hx hb dl_861 (by decide) ?_
  refine lv_iadd hx hb dl_862 ?_
  refine va_sld hx hb hX hbl hbA hS (vIk (k := 2) (by decide) (by decide) hi hL) dl_863 ?_
  refine lv_aload_n hx hb dl_864 rfl (lv_at hl 4 rfl) ?_
  refine lv_iload hx hb dl_865 (lv_at hl 0 rfl) ?_
  refine lv_iconst (v := 3) hx hb dl_867 (by decide) ?_
  refine lv_iadd hx hb dl_868 ?_
  refine va_sld hx hb hX hbl hbA hS (vIk (k := 3) (by decide) (by decide) hi hL) dl_869 ?_
  refine z_law (rest := []) C (x := 237) (idx := 97) (by decide) (by decide +kernel) (List.mem_append_right _ (List.mem_of_getElem? (i := 1603) (by decide +kernel))) dl_870 (by decide +kernel) (by decide +kernel) rfl rfl (by decide +kernel) (show cells ≤ 1129 by omega) (show slots ≤ 17054 by omega) q2 (Nat.le_of_ble_eq_true rfl) hWm hS hm0 hbm ⟨_, _, rfl, rfl, ⟨_, _, rfl, rfl, ⟨_, _, rfl, rfl, rfl⟩⟩⟩ rfl hl.1 (Nat.le_of_ble_eq_true rfl) rfl (fun v ws1 tys1 H1 locs1 hO hpre hW1 hD1 hk1 hS => ?_)
  obtain ⟨_, rfl, rfl⟩ := hO
  obtain ⟨hWx, hdis2⟩ := hWx.other hdis.symm hk1 hD1
  obtain ⟨hPo, hdm⟩ := z_other hPo hdm hk1 hD1
  have hbm := zpre_at hpre hbm
  refine lv_pop hx hb dl_873 rfl ?_
  refine lv_goto (tgt := 1542) hx hb dl_874 (by decide) ?_
  exact W.widen (by omega) (by omega) (KK _ _ _ ⟨_, _, _, _, cA, fo, Gx, Gm, hWx, hW1, hdis2.symm, hPo, hKo, hDo, hdx, hdm, hS, hbx, hbm, hl, hIv2⟩)
set_option maxRecDepth 100000 in
set_option maxHeartbeats 4000000 in
theorem law_18 {p : Program} {l : Launch} {e : Env} {s : State} {m : MethodId} {below : List Frame} {meth : Method} {c : Code} {b L : Nat} {xs : Nat → Int32} {D : va_G} {bx bm qo : Nat} {i : Int32} {H : Heap} {locs : List Loc} {ls : Array Slot} {cells slots : Nat} {Q : State → Prop} (F : zFx p s m meth c b L xs) (hi : 0 ≤ i.toInt ∧ i.toInt + 6 ≤ L) (hc : cells + 1 ≤ 1129) (hs : slots + 6 ≤ 17054) (B : zBe s b D bx bm qo i H locs ls) (KK : ∀ (H : Heap) (locs : List Loc) (ls : Array Slot), zBe s b D bx bm qo i H locs ls → W p l e room_1 s m #[Value.ref b] below meth c H locs (cells + 1) (slots + 6) Q (F0 m 1542 ls [])) : W p l e room_1 s m #[Value.ref b] below meth c H locs cells slots Q (F0 m 877 ls []) := by
  obtain ⟨C, hX, hbl, hr, hlocks, hL⟩ := id F
  obtain ⟨hx, hb, hml, hown, hts, hN, hZt⟩ := id C
  have hbA : ¬ zA s b := Nat.not_le.mpr hbl
  obtain ⟨wsx, wsm, tysx, tysm, cA, fo, Hx, Hm, hWx, hWm, hdis, hPo, hKo, hDo, hdx, hdm, hS, hbx, hbm, hl, hIv⟩ := B
  obtain ⟨f, rx, rm, Gx, Gm, q1, q2, hIv2, hE⟩ := step_18 (xs (i + 1).toNatClampNeg) (xs (i + 2).toNatClampNeg) (xs (i + 3).toNatClampNeg) (xs (i + 4).toNatClampNeg) hIv
  obtain ⟨vx0, hx0, -, -⟩ := gI_obj hIv.1.1 sx_0
  obtain ⟨vm0, hm0, -, -⟩ := gI_obj hIv.2.1.1 sm_0
  refine lv_aload_n hx hb dl_877 rfl (lv_at hl 3 rfl) ?_
  refine lv_aload_n hx hb dl_878 rfl (lv_at hl 4 rfl) ?_
  refine lv_iload hx hb dl_879 (lv_at hl 0 rfl) ?_
  refine lv_iconst (v := 1) hx hb dl_881 (by decide) ?_
  refine lv_iadd hx hb dl_882 ?_
  refine va_sld hx hb hX hbl hbA hS (vIk (k := 1) (by decide) (by decide) hi hL) dl_883 ?_
  refine lv_aload_n hx hb dl_884 rfl (lv_at hl 4 rfl) ?_
  refine lv_iload hx hb dl_885 (lv_at hl 0 rfl) ?_
  refine lv_iconst (v := 2) hx hb dl_887 (by decide) ?_
  refine lv_iadd hx hb dl_888 ?_
  refine va_sld hx hb hX hbl hbA hS (vIk (k := 2) (by decide) (by decide) hi hL) dl_889 ?_
  refine lv_aload_n hx hb dl_890 rfl (lv_at hl 4 rfl) ?_
  refine lv_iload hx hb dl_891 (lv_at hl 0 rfl) ?_
  refine lv_iconst (v := 3) hx hb dl_893 (by decide) ?_
  refine lv_iadd hx hb dl_894 ?_
  refine va_sld hx hb hX hbl hbA hS (vIk (k := 3) (by decide) (by decide) hi hL) dl_895 ?_
  refine lv_aload_n hx hb dl_896 rfl (lv_at hl 4 rfl) ?_
  refine lv_iload hx hb dl_897 (lv_at hl 0 rfl) ?_
  refine lv_iconst (v := 4) hx hb dl_899 (by decide) ?_
  refine lv_iadd hx hb dl_900 ?_
  refine va_sld hx hb hX hbl hbA hS (vIk (k := 4) (by decide) (by decide) hi hL) dl_901 ?_
  refine z_law (rest := []) C (x := 132) (idx := 98) (by decide) (by decide +kernel) (List.mem_append_right _ (List.mem_of_getElem? (i := 887) (by decide +kernel))) dl_902 (by decide +kernel) (by decide +kernel) rfl rfl (by decide +kernel) (show cells ≤ 1129 by omega) (show slots ≤ 17054 by omega) q1 (Nat.le_of_ble_eq_true rfl) hWx hS hx0 hbx ⟨_, _, rfl, rfl, ⟨_, _, rfl, rfl, ⟨_, _, rfl, rfl, ⟨_, _, rfl, rfl, rfl⟩⟩⟩⟩ rfl hl.1 (Nat.le_of_ble_eq_true rfl) rfl (fun v ws1 tys1 H1 locs1 hO hpre hW1 hD1 hk1 hS => ?_)
  obtain ⟨_, rfl, rfl⟩ := hO
  obtain ⟨hWm, hdis⟩ := hWm.other hdis hk1 hD1
  obtain ⟨hPo, hdx⟩ := z_other hPo hdx hk1 hD1
  have hWx := hW1
  have hbx := zpre_at hpre hbx
  refine lv_pop hx hb dl_905 rfl ?_
  refine lv_aload_n hx hb dl_906 rfl (lv_at hl 2 rfl) ?_
  refine lv_aload_n hx hb dl_907 rfl (lv_at hl 4 rfl) ?_
  refine lv_iload hx hb dl_908 (lv_at hl 0 rfl) ?_
  refine lv_iconst (v := 1) hx hb dl_910 (by decide) ?_
  refine lv_iadd hx hb dl_911 ?_
  refine va_sld hx hb hX hbl hbA hS (vIk (k := 1) (by decide) (by decide) hi hL) dl_912 ?_
  refine lv_aload_n hx hb dl_913 rfl (lv_at hl 4 rfl) ?_
  refine lv_iload hx hb dl_914 (lv_at hl 0 rfl) ?_
  refine lv_iconst (v := 2) hx hb dl_916 (by decide) ?_
  refine lv_iadd hx hb dl_917 ?_
  refine va_sld hx hb hX hbl hbA hS (vIk (k := 2) (by decide) (by decide) hi hL) dl_918 ?_
  refine lv_aload_n hx hb dl_919 rfl (lv_at hl 4 rfl) ?_
  refine lv_iload hx hb dl_920 (lv_at hl 0 rfl) ?_
  refine lv_iconst (v := 3) hx hb dl_922 (by decide) ?_
  refine lv_iadd hx hb dl_923 ?_
  refine va_sld hx hb hX hbl hbA hS (vIk (k := 3) (by decide) (by decide) hi hL) dl_924 ?_
  refine lv_aload_n hx hb dl_925 rfl (lv_at hl 4 rfl) ?_
  refine lv_iload hx hb dl_926 (lv_at hl 0 rfl) ?_
  refine lv_iconst (v := 4) hx hb dl_928 (by decide) ?_
  refine lv_iadd hx hb dl_929 ?_
  refine va_sld hx hb hX hbl hbA hS (vIk (k := 4) (by decide) (by decide) hi hL) dl_930 ?_
  refine z_law (rest := []) C (x := 239) (idx := 102) (by decide) (by decide +kernel) (List.mem_append_right _ (List.mem_of_getElem? (i := 1614) (by decide +kernel))) dl_931 (by decide +kernel) (by decide +kernel) rfl rfl (by decide +kernel) (show cells ≤ 1129 by omega) (show slots ≤ 17054 by omega) q2 (Nat.le_of_ble_eq_true rfl) hWm hS hm0 hbm ⟨_, _, rfl, rfl, ⟨_, _, rfl, rfl, ⟨_, _, rfl, rfl, ⟨_, _, rfl, rfl, rfl⟩⟩⟩⟩ rfl hl.1 (Nat.le_of_ble_eq_true rfl) rfl (fun v ws1 tys1 H1 locs1 hO hpre hW1 hD1 hk1 hS => ?_)
  obtain ⟨_, rfl, rfl⟩ := hO
  obtain ⟨hWx, hdis2⟩ := hWx.other hdis.symm hk1 hD1
  obtain ⟨hPo, hdm⟩ := z_other hPo hdm hk1 hD1
  have hbm := zpre_at hpre hbm
  refine lv_pop hx hb dl_934 rfl ?_
  refine lv_goto (tgt := 1542) hx hb dl_935 (by decide) ?_
  exact W.widen (by omega) (by omega) (KK _ _ _ ⟨_, _, _, _, cA, fo, Gx, Gm, hWx, hW1, hdis2.symm, hPo, hKo, hDo, hdx, hdm, hS, hbx, hbm, hl, hIv2⟩)
set_option maxRecDepth 100000 in
set_option maxHeartbeats 4000000 in
theorem law_19 {p : Program} {l : Launch} {e : Env} {s : State} {m : MethodId} {below : List Frame} {meth : Method} {c : Code} {b L : Nat} {xs : Nat → Int32} {D : va_G} {bx bm qo : Nat} {i : Int32} {H : Heap} {locs : List Loc} {ls : Array Slot} {cells slots : Nat} {Q : State → Prop} (F : zFx p s m meth c b L xs) (hi : 0 ≤ i.toInt ∧ i.toInt + 6 ≤ L) (hc : cells + 1 ≤ 1129) (hs : slots + 6 ≤ 17054) (B : zBe s b D bx bm qo i H locs ls) (KK : ∀ (H : Heap) (locs : List Loc) (ls : Array Slot), zBe s b D bx bm qo i H locs ls → W p l e room_1 s m #[Value.ref b] below meth c H locs (cells + 1) (slots + 6) Q (F0 m 1542 ls [])) : W p l e room_1 s m #[Value.ref b] below meth c H locs cells slots Q (F0 m 938 ls []) := by
  obtain ⟨C, hX, hbl, hr, hlocks, hL⟩ := id F
  obtain ⟨hx, hb, hml, hown, hts, hN, hZt⟩ := id C
  have hbA : ¬ zA s b := Nat.not_le.mpr hbl
  obtain ⟨wsx, wsm, tysx, tysm, cA, fo, Hx, Hm, hWx, hWm, hdis, hPo, hKo, hDo, hdx, hdm, hS, hbx, hbm, hl, hIv⟩ := B
  obtain ⟨f, rx, rm, Gx, Gm, q1, q2, hIv2, hE⟩ := step_19 (xs (i + 1).toNatClampNeg) hIv
  obtain ⟨vx0, hx0, -, -⟩ := gI_obj hIv.1.1 sx_0
  obtain ⟨vm0, hm0, -, -⟩ := gI_obj hIv.2.1.1 sm_0
  refine lv_aload_n hx hb dl_938 rfl (lv_at hl 3 rfl) ?_
  refine lv_aload_n hx hb dl_939 rfl (lv_at hl 4 rfl) ?_
  refine lv_iload hx hb dl_940 (lv_at hl 0 rfl) ?_
  refine lv_iconst (v := 1) hx hb dl_942 (by decide) ?_
  refine lv_iadd hx hb dl_943 ?_
  refine va_sld hx hb hX hbl hbA hS (vIk (k := 1) (by decide) (by decide) hi hL) dl_944 ?_
  refine z_law (rest := []) C (x := 133) (idx := 103) (by decide) (by decide +kernel) (List.mem_append_right _ (List.mem_of_getElem? (i := 896) (by decide +kernel))) dl_945 (by decide +kernel) (by decide +kernel) rfl rfl (by decide +kernel) (show cells ≤ 1129 by omega) (show slots ≤ 17054 by omega) q1 (Nat.le_of_ble_eq_true rfl) hWx hS hx0 hbx ⟨_, _, rfl, rfl, rfl⟩ rfl hl.1 (Nat.le_of_ble_eq_true rfl) rfl (fun v ws1 tys1 H1 locs1 hO hpre hW1 hD1 hk1 hS => ?_)
  obtain ⟨_, rfl, rfl⟩ := hO
  obtain ⟨hWm, hdis⟩ := hWm.other hdis hk1 hD1
  obtain ⟨hPo, hdx⟩ := z_other hPo hdx hk1 hD1
  have hWx := hW1
  have hbx := zpre_at hpre hbx
  refine lv_pop hx hb dl_948 rfl ?_
  refine lv_aload_n hx hb dl_949 rfl (lv_at hl 2 rfl) ?_
  refine lv_aload_n hx hb dl_950 rfl (lv_at hl 4 rfl) ?_
  refine lv_iload hx hb dl_951 (lv_at hl 0 rfl) ?_
  refine lv_iconst (v := 1) hx hb dl_953 (by decide) ?_
  refine lv_iadd hx hb dl_954 ?_
  refine va_sld hx hb hX hbl hbA hS (vIk (k := 1) (by decide) (by decide) hi hL) dl_955 ?_
  refine z_law (rest := []) C (x := 240) (idx := 106) (by decide) (by decide +kernel) (List.mem_append_right _ (List.mem_of_getElem? (i := 1622) (by decide +kernel))) dl_956 (by decide +kernel) (by decide +kernel) rfl rfl (by decide +kernel) (show cells ≤ 1129 by omega) (show slots ≤ 17054 by omega) q2 (Nat.le_of_ble_eq_true rfl) hWm hS hm0 hbm ⟨_, _, rfl, rfl, rfl⟩ rfl hl.1 (Nat.le_of_ble_eq_true rfl) rfl (fun v ws1 tys1 H1 locs1 hO hpre hW1 hD1 hk1 hS => ?_)
  obtain ⟨_, rfl, rfl⟩ := hO
  obtain ⟨hWx, hdis2⟩ := hWx.other hdis.symm hk1 hD1
  obtain ⟨hPo, hdm⟩ := z_other hPo hdm hk1 hD1
  have hbm := zpre_at hpre hbm
  refine lv_pop hx hb dl_959 rfl ?_
  refine lv_goto (tgt := 1542) hx hb dl_960 (by decide) ?_
  exact W.widen (by omega) (by omega) (KK _ _ _ ⟨_, _, _, _, cA, fo, Gx, Gm, hWx, hW1, hdis2.symm, hPo, hKo, hDo, hdx, hdm, hS, hbx, hbm, hl, hIv2⟩)
set_option maxRecDepth 100000 in
set_option maxHeartbeats 4000000 in
theorem law_20 {p : Program} {l : Launch} {e : Env} {s : State} {m : MethodId} {below : List Frame} {meth : Method} {c : Code} {b L : Nat} {xs : Nat → Int32} {D : va_G} {bx bm qo : Nat} {i : Int32} {H : Heap} {locs : List Loc} {ls : Array Slot} {cells slots : Nat} {Q : State → Prop} (F : zFx p s m meth c b L xs) (hi : 0 ≤ i.toInt ∧ i.toInt + 6 ≤ L) (hc : cells + 1 ≤ 1129) (hs : slots + 6 ≤ 17054) (B : zBe s b D bx bm qo i H locs ls) (KK : ∀ (H : Heap) (locs : List Loc) (ls : Array Slot), zBe s b D bx bm qo i H locs ls → W p l e room_1 s m #[Value.ref b] below meth c H locs (cells + 1) (slots + 6) Q (F0 m 1542 ls [])) : W p l e room_1 s m #[Value.ref b] below meth c H locs cells slots Q (F0 m 963 ls []) := by
  obtain ⟨C, hX, hbl, hr, hlocks, hL⟩ := id F
  obtain ⟨hx, hb, hml, hown, hts, hN, hZt⟩ := id C
  have hbA : ¬ zA s b := Nat.not_le.mpr hbl
  obtain ⟨wsx, wsm, tysx, tysm, cA, fo, Hx, Hm, hWx, hWm, hdis, hPo, hKo, hDo, hdx, hdm, hS, hbx, hbm, hl, hIv⟩ := B
  obtain ⟨f, rx, rm, Gx, Gm, q1, q2, hIv2, hE⟩ := step_20 (xs (i + 1).toNatClampNeg) (xs (i + 2).toNatClampNeg) hIv
  obtain ⟨vx0, hx0, -, -⟩ := gI_obj hIv.1.1 sx_0
  obtain ⟨vm0, hm0, -, -⟩ := gI_obj hIv.2.1.1 sm_0
  refine lv_aload_n hx hb dl_963 rfl (lv_at hl 3 rfl) ?_
  refine lv_aload_n hx hb dl_964 rfl (lv_at hl 4 rfl) ?_
  refine lv_iload hx hb dl_965 (lv_at hl 0 rfl) ?_
  refine lv_iconst (v := 1) hx hb dl_967 (by decide) ?_
  refine lv_iadd hx hb dl_968 ?_
  refine va_sld hx hb hX hbl hbA hS (vIk (k := 1) (by decide) (by decide) hi hL) dl_969 ?_
  refine lv_aload_n hx hb dl_970 rfl (lv_at hl 4 rfl) ?_
  refine lv_iload hx hb dl_971 (lv_at hl 0 rfl) ?_
  refine lv_iconst (v := 2) hx hb dl_973 (by decide) ?_
  refine lv_iadd hx hb dl_974 ?_
  refine va_sld hx hb hX hbl hbA hS (vIk (k := 2) (by decide) (by decide) hi hL) dl_975 ?_
  refine z_law (rest := []) C (x := 134) (idx := 107) (by decide) (by decide +kernel) (List.mem_append_right _ (List.mem_of_getElem? (i := 906) (by decide +kernel))) dl_976 (by decide +kernel) (by decide +kernel) rfl rfl (by decide +kernel) (show cells ≤ 1129 by omega) (show slots ≤ 17054 by omega) q1 (Nat.le_of_ble_eq_true rfl) hWx hS hx0 hbx ⟨_, _, rfl, rfl, ⟨_, _, rfl, rfl, rfl⟩⟩ rfl hl.1 (Nat.le_of_ble_eq_true rfl) rfl (fun v ws1 tys1 H1 locs1 hO hpre hW1 hD1 hk1 hS => ?_)
  obtain ⟨_, rfl, rfl⟩ := hO
  obtain ⟨hWm, hdis⟩ := hWm.other hdis hk1 hD1
  obtain ⟨hPo, hdx⟩ := z_other hPo hdx hk1 hD1
  have hWx := hW1
  have hbx := zpre_at hpre hbx
  refine lv_pop hx hb dl_979 rfl ?_
  refine lv_aload_n hx hb dl_980 rfl (lv_at hl 2 rfl) ?_
  refine lv_aload_n hx hb dl_981 rfl (lv_at hl 4 rfl) ?_
  refine lv_iload hx hb dl_982 (lv_at hl 0 rfl) ?_
  refine lv_iconst (v := 1) hx hb dl_984 (by decide) ?_
  refine lv_iadd hx hb dl_985 ?_
  refine va_sld hx hb hX hbl hbA hS (vIk (k := 1) (by decide) (by decide) hi hL) dl_986 ?_
  refine lv_aload_n hx hb dl_987 rfl (lv_at hl 4 rfl) ?_
  refine lv_iload hx hb dl_988 (lv_at hl 0 rfl) ?_
  refine lv_iconst (v := 2) hx hb dl_990 (by decide) ?_
  refine lv_iadd hx hb dl_991 ?_
  refine va_sld hx hb hX hbl hbA hS (vIk (k := 2) (by decide) (by decide) hi hL) dl_992 ?_
  refine z_law (rest := []) C (x := 242) (idx := 110) (by decide) (by decide +kernel) (List.mem_append_right _ (List.mem_of_getElem? (i := 1626) (by decide +kernel))) dl_993 (by decide +kernel) (by decide +kernel) rfl rfl (by decide +kernel) (show cells ≤ 1129 by omega) (show slots ≤ 17054 by omega) q2 (Nat.le_of_ble_eq_true rfl) hWm hS hm0 hbm ⟨_, _, rfl, rfl, ⟨_, _, rfl, rfl, rfl⟩⟩ rfl hl.1 (Nat.le_of_ble_eq_true rfl) rfl (fun v ws1 tys1 H1 locs1 hO hpre hW1 hD1 hk1 hS => ?_)
  obtain ⟨_, rfl, rfl⟩ := hO
  obtain ⟨hWx, hdis2⟩ := hWx.other hdis.symm hk1 hD1
  obtain ⟨hPo, hdm⟩ := z_other hPo hdm hk1 hD1
  have hbm := zpre_at hpre hbm
  refine lv_pop hx hb dl_996 rfl ?_
  refine lv_goto (tgt := 1542) hx hb dl_997 (by decide) ?_
  exact W.widen (by omega) (by omega) (KK _ _ _ ⟨_, _, _, _, cA, fo, Gx, Gm, hWx, hW1, hdis2.symm, hPo, hKo, hDo, hdx, hdm, hS, hbx, hbm, hl, hIv2⟩)
set_option maxRecDepth 100000 in
set_option maxHeartbeats 4000000 in
theorem law_21 {p : Program} {l : Launch} {e : Env} {s : State} {m : MethodId} {below : List Frame} {meth : Method} {c : Code} {b L : Nat} {xs : Nat → Int32} {D : va_G} {bx bm qo : Nat} {i : Int32} {H : Heap} {locs : List Loc} {ls : Array Slot} {cells slots : Nat} {Q : State → Prop} (F : zFx p s m meth c b L xs) (hi : 0 ≤ i.toInt ∧ i.toInt + 6 ≤ L) (hc : cells + 1 ≤ 1129) (hs : slots + 6 ≤ 17054) (B : zBe s b D bx bm qo i H locs ls) (KK : ∀ (H : Heap) (locs : List Loc) (ls : Array Slot), zBe s b D bx bm qo i H locs ls → W p l e room_1 s m #[Value.ref b] below meth c H locs (cells + 1) (slots + 6) Q (F0 m 1542 ls [])) : W p l e room_1 s m #[Value.ref b] below meth c H locs cells slots Q (F0 m 1000 ls []) := by
  obtain ⟨C, hX, hbl, hr, hlocks, hL⟩ := id F
  obtain ⟨hx, hb, hml, hown, hts, hN, hZt⟩ := id C
  have hbA : ¬ zA s b := Nat.not_le.mpr hbl
  obtain ⟨wsx, wsm, tysx, tysm, cA, fo, Hx, Hm, hWx, hWm, hdis, hPo, hKo, hDo, hdx, hdm, hS, hbx, hbm, hl, hIv⟩ := B
  obtain ⟨f, rx, rm, Gx, Gm, q1, q2, hIv2, hE⟩ := step_21 (xs (i + 1).toNatClampNeg) (xs (i + 2).toNatClampNeg) hIv
  obtain ⟨vx0, hx0, -, -⟩ := gI_obj hIv.1.1 sx_0
  obtain ⟨vm0, hm0, -, -⟩ := gI_obj hIv.2.1.1 sm_0
  refine lv_aload_n hx hb dl_1000 rfl (lv_at hl 3 rfl) ?_
  refine lv_aload_n hx hb dl_1001 rfl (lv_at hl 4 rfl) ?_
  refine lv_iload hx hb dl_1002 (lv_at hl 0 rfl) ?_
  refine lv_iconst (v := 1) hx hb dl_1004 (by decide) ?_
  refine lv_iadd hx hb dl_1005 ?_
  refine va_sld hx hb hX hbl hbA hS (vIk (k := 1) (by decide) (by decide) hi hL) dl_1006 ?_
  refine lv_aload_n hx hb dl_1007 rfl (lv_at hl 4 rfl) ?_
  refine lv_iload hx hb dl_1008 (lv_at hl 0 rfl) ?_
  refine lv_iconst (v := 2) hx hb dl_1010 (by decide) ?_
  refine lv_iadd hx hb dl_1011 ?_
  refine va_sld hx hb hX hbl hbA hS (vIk (k := 2) (by decide) (by decide) hi hL) dl_1012 ?_
  refine z_law (rest := []) C (x := 135) (idx := 111) (by decide) (by decide +kernel) (List.mem_append_right _ (List.mem_of_getElem? (i := 914) (by decide +kernel))) dl_1013 (by decide +kernel) (by decide +kernel) rfl rfl (by decide +kernel) (show cells ≤ 1129 by omega) (show slots ≤ 17054 by omega) q1 (Nat.le_of_ble_eq_true rfl) hWx hS hx0 hbx ⟨_, _, rfl, rfl, ⟨_, _, rfl, rfl, rfl⟩⟩ rfl hl.1 (Nat.le_of_ble_eq_true rfl) rfl (fun v ws1 tys1 H1 locs1 hO hpre hW1 hD1 hk1 hS => ?_)
  obtain ⟨_, rfl, rfl⟩ := hO
  obtain ⟨hWm, hdis⟩ := hWm.other hdis hk1 hD1
  obtain ⟨hPo, hdx⟩ := z_other hPo hdx hk1 hD1
  have hWx := hW1
  have hbx := zpre_at hpre hbx
  refine lv_pop hx hb dl_1016 rfl ?_
  refine lv_aload_n hx hb dl_1017 rfl (lv_at hl 2 rfl) ?_
  refine lv_aload_n hx hb dl_1018 rfl (lv_at hl 4 rfl) ?_
  refine lv_iload hx hb dl_1019 (lv_at hl 0 rfl) ?_
  refine lv_iconst (v := 1) hx hb dl_1021 (by decide) ?_
  refine lv_iadd hx hb dl_1022 ?_
  refine va_sld hx hb hX hbl hbA hS (vIk (k := 1) (by decide) (by decide) hi hL) dl_1023 ?_
  refine lv_aload_n hx hb dl_1024 rfl (lv_at hl 4 rfl) ?_
  refine lv_iload hx hb dl_1025 (lv_at hl 0 rfl) ?_
  refine lv_iconst (v := 2) hx hb dl_1027 (by decide) ?_
  refine lv_iadd hx hb dl_1028 ?_
  refine va_sld hx hb hX hbl hbA hS (vIk (k := 2) (by decide) (by decide) hi hL) dl_1029 ?_
  refine z_law (rest := []) C (x := 243) (idx := 114) (by decide) (by decide +kernel) (List.mem_append_right _ (List.mem_of_getElem? (i := 1634) (by decide +kernel))) dl_1030 (by decide +kernel) (by decide +kernel) rfl rfl (by decide +kernel) (show cells ≤ 1129 by omega) (show slots ≤ 17054 by omega) q2 (Nat.le_of_ble_eq_true rfl) hWm hS hm0 hbm ⟨_, _, rfl, rfl, ⟨_, _, rfl, rfl, rfl⟩⟩ rfl hl.1 (Nat.le_of_ble_eq_true rfl) rfl (fun v ws1 tys1 H1 locs1 hO hpre hW1 hD1 hk1 hS => ?_)
  obtain ⟨_, rfl, rfl⟩ := hO
  obtain ⟨hWx, hdis2⟩ := hWx.other hdis.symm hk1 hD1
  obtain ⟨hPo, hdm⟩ := z_other hPo hdm hk1 hD1
  have hbm := zpre_at hpre hbm
  refine lv_pop hx hb dl_1033 rfl ?_
  refine lv_goto (tgt := 1542) hx hb dl_1034 (by decide) ?_
  exact W.widen (by omega) (by omega) (KK _ _ _ ⟨_, _, _, _, cA, fo, Gx, Gm, hWx, hW1, hdis2.symm, hPo, hKo, hDo, hdx, hdm, hS, hbx, hbm, hl, hIv2⟩)
set_option maxRecDepth 100000 in
set_option maxHeartbeats 4000000 in
theorem law_22 {p : Program} {l : Launch} {e : Env} {s : State} {m : MethodId} {below : List Frame} {meth : Method} {c : Code} {b L : Nat} {xs : Nat → Int32} {D : va_G} {bx bm qo : Nat} {i : Int32} {H : Heap} {locs : List Loc} {ls : Array Slot} {cells slots : Nat} {Q : State → Prop} (F : zFx p s m meth c b L xs) (hi : 0 ≤ i.toInt ∧ i.toInt + 6 ≤ L) (hc : cells + 1 ≤ 1129) (hs : slots + 6 ≤ 17054) (B : zBe s b D bx bm qo i H locs ls) (KK : ∀ (H : Heap) (locs : List Loc) (ls : Array Slot), zBe s b D bx bm qo i H locs ls → W p l e room_1 s m #[Value.ref b] below meth c H locs (cells + 1) (slots + 6) Q (F0 m 1542 ls [])) : W p l e room_1 s m #[Value.ref b] below meth c H locs cells slots Q (F0 m 1037 ls []) := by
  obtain ⟨C, hX, hbl, hr, hlocks, hL⟩ := id F
  obtain ⟨hx, hb, hml, hown, hts, hN, hZt⟩ := id C
  have hbA : ¬ zA s b := Nat.not_le.mpr hbl
  obtain ⟨wsx, wsm, tysx, tysm, cA, fo, Hx, Hm, hWx, hWm, hdis, hPo, hKo, hDo, hdx, hdm, hS, hbx, hbm, hl, hIv⟩ := B
  obtain ⟨f, rx, rm, Gx, Gm, q1, q2, hIv2, hE⟩ := step_22 (xs (i + 1).toNatClampNeg) (xs (i + 2).toNatClampNeg) hIv
  obtain ⟨vx0, hx0, -, -⟩ := gI_obj hIv.1.1 sx_0
  obtain ⟨vm0, hm0, -, -⟩ := gI_obj hIv.2.1.1 sm_0
  refine lv_aload_n hx hb dl_1037 rfl (lv_at hl 3 rfl) ?_
  refine lv_aload_n hx hb dl_1038 rfl (lv_at hl 4 rfl) ?_
  refine lv_iload hx hb dl_1039 (lv_at hl 0 rfl) ?_
  refine lv_iconst (v := 1) hx hb dl_1041 (by decide) ?_
  refine lv_iadd hx hb dl_1042 ?_
  refine va_sld hx hb hX hbl hbA hS (vIk (k := 1) (by decide) (by decide) hi hL) dl_1043 ?_
  refine lv_aload_n hx hb dl_1044 rfl (lv_at hl 4 rfl) ?_
  refine lv_iload hx hb dl_1045 (lv_at hl 0 rfl) ?_
  refine lv_iconst (v := 2) hx hb dl_1047 (by decide) ?_
  refine lv_iadd hx hb dl_1048 ?_
  refine va_sld hx hb hX hbl hbA hS (vIk (k := 2) (by decide) (by decide) hi hL) dl_1049 ?_
  refine z_law (rest := []) C (x := 136) (idx := 115) (by decide) (by decide +kernel) (List.mem_append_right _ (List.mem_of_getElem? (i := 922) (by decide +kernel))) dl_1050 (by decide +kernel) (by decide +kernel) rfl rfl (by decide +kernel) (show cells ≤ 1129 by omega) (show slots ≤ 17054 by omega) q1 (Nat.le_of_ble_eq_true rfl) hWx hS hx0 hbx ⟨_, _, rfl, rfl, ⟨_, _, rfl, rfl, rfl⟩⟩ rfl hl.1 (Nat.le_of_ble_eq_true rfl) rfl (fun v ws1 tys1 H1 locs1 hO hpre hW1 hD1 hk1 hS => ?_)
  obtain ⟨_, rfl, rfl⟩ := hO
  obtain ⟨hWm, hdis⟩ := hWm.other hdis hk1 hD1
  obtain ⟨hPo, hdx⟩ := z_other hPo hdx hk1 hD1
  have hWx := hW1
  have hbx := zpre_at hpre hbx
  refine lv_pop hx hb dl_1053 rfl ?_
  refine lv_aload_n hx hb dl_1054 rfl (lv_at hl 2 rfl) ?_
  refine lv_aload_n hx hb dl_1055 rfl (lv_at hl 4 rfl) ?_
  refine lv_iload hx hb dl_1056 (lv_at hl 0 rfl) ?_
  refine lv_iconst (v := 1) hx hb dl_1058 (by decide) ?_
  refine lv_iadd hx hb dl_1059 ?_
  refine va_sld hx hb hX hbl hbA hS (vIk (k := 1) (by decide) (by decide) hi hL) dl_1060 ?_
  refine lv_aload_n hx hb dl_1061 rfl (lv_at hl 4 rfl) ?_
  refine lv_iload hx hb dl_1062 (lv_at hl 0 rfl) ?_
  refine lv_iconst (v := 2) hx hb dl_1064 (by decide) ?_
  refine lv_iadd hx hb dl_1065 ?_
  refine va_sld hx hb hX hbl hbA hS (vIk (k := 2) (by decide) (by decide) hi hL) dl_1066 ?_
  refine z_law (rest := []) C (x := 217) (idx := 118) (by decide) (by decide +kernel) (List.mem_append_right _ (List.mem_of_getElem? (i := 1527) (by decide +kernel))) dl_1067 (by decide +kernel) (by decide +kernel) rfl rfl (by decide +kernel) (show cells ≤ 1129 by omega) (show slots ≤ 17054 by omega) q2 (Nat.le_of_ble_eq_true rfl) hWm hS hm0 hbm ⟨_, _, rfl, rfl, ⟨_, _, rfl, rfl, rfl⟩⟩ rfl hl.1 (Nat.le_of_ble_eq_true rfl) rfl (fun v ws1 tys1 H1 locs1 hO hpre hW1 hD1 hk1 hS => ?_)
  obtain ⟨_, rfl, rfl⟩ := hO
  obtain ⟨hWx, hdis2⟩ := hWx.other hdis.symm hk1 hD1
  obtain ⟨hPo, hdm⟩ := z_other hPo hdm hk1 hD1
  have hbm := zpre_at hpre hbm
  refine lv_pop hx hb dl_1070 rfl ?_
  refine lv_goto (tgt := 1542) hx hb dl_1071 (by decide) ?_
  exact W.widen (by omega) (by omega) (KK _ _ _ ⟨_, _, _, _, cA, fo, Gx, Gm, hWx, hW1, hdis2.symm, hPo, hKo, hDo, hdx, hdm, hS, hbx, hbm, hl, hIv2⟩)
set_option maxRecDepth 100000 in
set_option maxHeartbeats 4000000 in
theorem law_23 {p : Program} {l : Launch} {e : Env} {s : State} {m : MethodId} {below : List Frame} {meth : Method} {c : Code} {b L : Nat} {xs : Nat → Int32} {D : va_G} {bx bm qo : Nat} {i : Int32} {H : Heap} {locs : List Loc} {ls : Array Slot} {cells slots : Nat} {Q : State → Prop} (F : zFx p s m meth c b L xs) (hi : 0 ≤ i.toInt ∧ i.toInt + 6 ≤ L) (hc : cells + 1 ≤ 1129) (hs : slots + 6 ≤ 17054) (B : zBe s b D bx bm qo i H locs ls) (KK : ∀ (H : Heap) (locs : List Loc) (ls : Array Slot), zBe s b D bx bm qo i H locs ls → W p l e room_1 s m #[Value.ref b] below meth c H locs (cells + 1) (slots + 6) Q (F0 m 1542 ls [])) : W p l e room_1 s m #[Value.ref b] below meth c H locs cells slots Q (F0 m 1074 ls []) := by
  obtain ⟨C, hX, hbl, hr, hlocks, hL⟩ := id F
  obtain ⟨hx, hb, hml, hown, hts, hN, hZt⟩ := id C
  have hbA : ¬ zA s b := Nat.not_le.mpr hbl
  obtain ⟨wsx, wsm, tysx, tysm, cA, fo, Hx, Hm, hWx, hWm, hdis, hPo, hKo, hDo, hdx, hdm, hS, hbx, hbm, hl, hIv⟩ := B
  obtain ⟨f, rx, rm, Gx, Gm, q1, q2, hIv2, hE⟩ := step_23 (xs (i + 1).toNatClampNeg) (xs (i + 2).toNatClampNeg) hIv
  obtain ⟨vx0, hx0, -, -⟩ := gI_obj hIv.1.1 sx_0
  obtain ⟨vm0, hm0, -, -⟩ := gI_obj hIv.2.1.1 sm_0
  refine lv_aload_n hx hb dl_1074 rfl (lv_at hl 3 rfl) ?_
  refine lv_aload_n hx hb dl_1075 rfl (lv_at hl 4 rfl) ?_
  refine lv_iload hx hb dl_1076 (lv_at hl 0 rfl) ?_
  refine lv_iconst (v := 1) hx hb dl_1078 (by decide) ?_
  refine lv_iadd hx hb dl_1079 ?_
  refine va_sld hx hb hX hbl hbA hS (vIk (k := 1) (by decide) (by decide) hi hL) dl_1080 ?_
  refine lv_aload_n hx hb dl_1081 rfl (lv_at hl 4 rfl) ?_
  refine lv_iload hx hb dl_1082 (lv_at hl 0 rfl) ?_
  refine lv_iconst (v := 2) hx hb dl_1084 (by decide) ?_
  refine lv_iadd hx hb dl_1085 ?_
  refine va_sld hx hb hX hbl hbA hS (vIk (k := 2) (by decide) (by decide) hi hL) dl_1086 ?_
  refine z_law (rest := []) C (x := 137) (idx := 119) (by decide) (by decide +kernel) (List.mem_append_right _ (List.mem_of_getElem? (i := 935) (by decide +kernel))) dl_1087 (by decide +kernel) (by decide +kernel) rfl rfl (by decide +kernel) (show cells ≤ 1129 by omega) (show slots ≤ 17054 by omega) q1 (Nat.le_of_ble_eq_true rfl) hWx hS hx0 hbx ⟨_, _, rfl, rfl, ⟨_, _, rfl, rfl, rfl⟩⟩ rfl hl.1 (Nat.le_of_ble_eq_true rfl) rfl (fun v ws1 tys1 H1 locs1 hO hpre hW1 hD1 hk1 hS => ?_)
  obtain ⟨_, rfl, rfl⟩ := hO
  obtain ⟨hWm, hdis⟩ := hWm.other hdis hk1 hD1
  obtain ⟨hPo, hdx⟩ := z_other hPo hdx hk1 hD1
  have hWx := hW1
  have hbx := zpre_at hpre hbx
  refine lv_pop hx hb dl_1090 rfl ?_
  refine lv_aload_n hx hb dl_1091 rfl (lv_at hl 2 rfl) ?_
  refine lv_aload_n hx hb dl_1092 rfl (lv_at hl 4 rfl) ?_
  refine lv_iload hx hb dl_1093 (lv_at hl 0 rfl) ?_
  refine lv_iconst (v := 1) hx hb dl_1095 (by decide) ?_
  refine lv_iadd hx hb dl_1096 ?_
  refine va_sld hx hb hX hbl hbA hS (vIk (k := 1) (by decide) (by decide) hi hL) dl_1097 ?_
  refine lv_aload_n hx hb dl_1098 rfl (lv_at hl 4 rfl) ?_
  refine lv_iload hx hb dl_1099 (lv_at hl 0 rfl) ?_
  refine lv_iconst (v := 2) hx hb dl_1101 (by decide) ?_
  refine lv_iadd hx hb dl_1102 ?_
  refine va_sld hx hb hX hbl hbA hS (vIk (k := 2) (by decide) (by decide) hi hL) dl_1103 ?_
  refine z_law (rest := []) C (x := 218) (idx := 122) (by decide) (by decide +kernel) (List.mem_append_right _ (List.mem_of_getElem? (i := 1535) (by decide +kernel))) dl_1104 (by decide +kernel) (by decide +kernel) rfl rfl (by decide +kernel) (show cells ≤ 1129 by omega) (show slots ≤ 17054 by omega) q2 (Nat.le_of_ble_eq_true rfl) hWm hS hm0 hbm ⟨_, _, rfl, rfl, ⟨_, _, rfl, rfl, rfl⟩⟩ rfl hl.1 (Nat.le_of_ble_eq_true rfl) rfl (fun v ws1 tys1 H1 locs1 hO hpre hW1 hD1 hk1 hS => ?_)
  obtain ⟨_, rfl, rfl⟩ := hO
  obtain ⟨hWx, hdis2⟩ := hWx.other hdis.symm hk1 hD1
  obtain ⟨hPo, hdm⟩ := z_other hPo hdm hk1 hD1
  have hbm := zpre_at hpre hbm
  refine lv_pop hx hb dl_1107 rfl ?_
  refine lv_goto (tgt := 1542) hx hb dl_1108 (by decide) ?_
  exact W.widen (by omega) (by omega) (KK _ _ _ ⟨_, _, _, _, cA, fo, Gx, Gm, hWx, hW1, hdis2.symm, hPo, hKo, hDo, hdx, hdm, hS, hbx, hbm, hl, hIv2⟩)
set_option maxRecDepth 100000 in
set_option maxHeartbeats 4000000 in
theorem law_24 {p : Program} {l : Launch} {e : Env} {s : State} {m : MethodId} {below : List Frame} {meth : Method} {c : Code} {b L : Nat} {xs : Nat → Int32} {D : va_G} {bx bm qo : Nat} {i : Int32} {H : Heap} {locs : List Loc} {ls : Array Slot} {cells slots : Nat} {Q : State → Prop} (F : zFx p s m meth c b L xs) (hi : 0 ≤ i.toInt ∧ i.toInt + 6 ≤ L) (hc : cells + 1 ≤ 1129) (hs : slots + 6 ≤ 17054) (B : zBe s b D bx bm qo i H locs ls) (KK : ∀ (H : Heap) (locs : List Loc) (ls : Array Slot), zBe s b D bx bm qo i H locs ls → W p l e room_1 s m #[Value.ref b] below meth c H locs (cells + 1) (slots + 6) Q (F0 m 1542 ls [])) : W p l e room_1 s m #[Value.ref b] below meth c H locs cells slots Q (F0 m 1111 ls []) := by
  obtain ⟨C, hX, hbl, hr, hlocks, hL⟩ := id F
  obtain ⟨hx, hb, hml, hown, hts, hN, hZt⟩ := id C
  have hbA : ¬ zA s b := Nat.not_le.mpr hbl
  obtain ⟨wsx, wsm, tysx, tysm, cA, fo, Hx, Hm, hWx, hWm, hdis, hPo, hKo, hDo, hdx, hdm, hS, hbx, hbm, hl, hIv⟩ := B
  obtain ⟨f, rx, rm, Gx, Gm, q1, q2, hIv2, hE⟩ := step_24 (xs (i + 1).toNatClampNeg) hIv
  obtain ⟨vx0, hx0, -, -⟩ := gI_obj hIv.1.1 sx_0
  obtain ⟨vm0, hm0, -, -⟩ := gI_obj hIv.2.1.1 sm_0
  refine lv_aload_n hx hb dl_1111 rfl (lv_at hl 3 rfl) ?_
  refine lv_aload_n hx hb dl_1112 rfl (lv_at hl 4 rfl) ?_
  refine lv_iload hx hb dl_1113 (lv_at hl 0 rfl) ?_
  refine lv_iconst (v := 1) hx hb dl_1115 (by decide) ?_
  refine lv_iadd hx hb dl_1116 ?_
  refine va_sld hx hb hX hbl hbA hS (vIk (k := 1) (by decide) (by decide) hi hL) dl_1117 ?_
  refine z_law (rest := []) C (x := 138) (idx := 123) (by decide) (by decide +kernel) (List.mem_append_right _ (List.mem_of_getElem? (i := 944) (by decide +kernel))) dl_1118 (by decide +kernel) (by decide +kernel) rfl rfl (by decide +kernel) (show cells ≤ 1129 by omega) (show slots ≤ 17054 by omega) q1 (Nat.le_of_ble_eq_true rfl) hWx hS hx0 hbx ⟨_, _, rfl, rfl, rfl⟩ rfl hl.1 (Nat.le_of_ble_eq_true rfl) rfl (fun v ws1 tys1 H1 locs1 hO hpre hW1 hD1 hk1 hS => ?_)
  obtain ⟨_, rfl, rfl⟩ := hO
  obtain ⟨hWm, hdis⟩ := hWm.other hdis hk1 hD1
  obtain ⟨hPo, hdx⟩ := z_other hPo hdx hk1 hD1
  have hWx := hW1
  have hbx := zpre_at hpre hbx
  refine lv_pop hx hb dl_1121 rfl ?_
  refine lv_aload_n hx hb dl_1122 rfl (lv_at hl 2 rfl) ?_
  refine lv_aload_n hx hb dl_1123 rfl (lv_at hl 4 rfl) ?_
  refine lv_iload hx hb dl_1124 (lv_at hl 0 rfl) ?_
  refine lv_iconst (v := 1) hx hb dl_1126 (by decide) ?_
  refine lv_iadd hx hb dl_1127 ?_
  refine va_sld hx hb hX hbl hbA hS (vIk (k := 1) (by decide) (by decide) hi hL) dl_1128 ?_
  refine z_law (rest := []) C (x := 230) (idx := 126) (by decide) (by decide +kernel) (List.mem_append_right _ (List.mem_of_getElem? (i := 1579) (by decide +kernel))) dl_1129 (by decide +kernel) (by decide +kernel) rfl rfl (by decide +kernel) (show cells ≤ 1129 by omega) (show slots ≤ 17054 by omega) q2 (Nat.le_of_ble_eq_true rfl) hWm hS hm0 hbm ⟨_, _, rfl, rfl, rfl⟩ rfl hl.1 (Nat.le_of_ble_eq_true rfl) rfl (fun v ws1 tys1 H1 locs1 hO hpre hW1 hD1 hk1 hS => ?_)
  obtain ⟨_, rfl, rfl⟩ := hO
  obtain ⟨hWx, hdis2⟩ := hWx.other hdis.symm hk1 hD1
  obtain ⟨hPo, hdm⟩ := z_other hPo hdm hk1 hD1
  have hbm := zpre_at hpre hbm
  refine lv_pop hx hb dl_1132 rfl ?_
  refine lv_goto (tgt := 1542) hx hb dl_1133 (by decide) ?_
  exact W.widen (by omega) (by omega) (KK _ _ _ ⟨_, _, _, _, cA, fo, Gx, Gm, hWx, hW1, hdis2.symm, hPo, hKo, hDo, hdx, hdm, hS, hbx, hbm, hl, hIv2⟩)
set_option maxRecDepth 100000 in
set_option maxHeartbeats 4000000 in
theorem law_25 {p : Program} {l : Launch} {e : Env} {s : State} {m : MethodId} {below : List Frame} {meth : Method} {c : Code} {b L : Nat} {xs : Nat → Int32} {D : va_G} {bx bm qo : Nat} {i : Int32} {H : Heap} {locs : List Loc} {ls : Array Slot} {cells slots : Nat} {Q : State → Prop} (F : zFx p s m meth c b L xs) (hi : 0 ≤ i.toInt ∧ i.toInt + 6 ≤ L) (hc : cells + 1 ≤ 1129) (hs : slots + 6 ≤ 17054) (B : zBe s b D bx bm qo i H locs ls) (KK : ∀ (H : Heap) (locs : List Loc) (ls : Array Slot), zBe s b D bx bm qo i H locs ls → W p l e room_1 s m #[Value.ref b] below meth c H locs (cells + 1) (slots + 6) Q (F0 m 1542 ls [])) : W p l e room_1 s m #[Value.ref b] below meth c H locs cells slots Q (F0 m 1136 ls []) := by
  obtain ⟨C, hX, hbl, hr, hlocks, hL⟩ := id F
  obtain ⟨hx, hb, hml, hown, hts, hN, hZt⟩ := id C
  have hbA : ¬ zA s b := Nat.not_le.mpr hbl
  obtain ⟨wsx, wsm, tysx, tysm, cA, fo, Hx, Hm, hWx, hWm, hdis, hPo, hKo, hDo, hdx, hdm, hS, hbx, hbm, hl, hIv⟩ := B
  obtain ⟨f, rx, rm, Gx, Gm, q1, q2, hIv2, hE⟩ := step_25 (xs (i + 1).toNatClampNeg) (xs (i + 2).toNatClampNeg) hIv
  obtain ⟨vx0, hx0, -, -⟩ := gI_obj hIv.1.1 sx_0
  obtain ⟨vm0, hm0, -, -⟩ := gI_obj hIv.2.1.1 sm_0
  refine lv_aload_n hx hb dl_1136 rfl (lv_at hl 3 rfl) ?_
  refine lv_aload_n hx hb dl_1137 rfl (lv_at hl 4 rfl) ?_
  refine lv_iload hx hb dl_1138 (lv_at hl 0 rfl) ?_
  refine lv_iconst (v := 1) hx hb dl_1140 (by decide) ?_
  refine lv_iadd hx hb dl_1141 ?_
  refine va_sld hx hb hX hbl hbA hS (vIk (k := 1) (by decide) (by decide) hi hL) dl_1142 ?_
  refine lv_aload_n hx hb dl_1143 rfl (lv_at hl 4 rfl) ?_
  refine lv_iload hx hb dl_1144 (lv_at hl 0 rfl) ?_
  refine lv_iconst (v := 2) hx hb dl_1146 (by decide) ?_
  refine lv_iadd hx hb dl_1147 ?_
  refine va_sld hx hb hX hbl hbA hS (vIk (k := 2) (by decide) (by decide) hi hL) dl_1148 ?_
  refine z_law (rest := []) C (x := 139) (idx := 127) (by decide) (by decide +kernel) (List.mem_append_right _ (List.mem_of_getElem? (i := 956) (by decide +kernel))) dl_1149 (by decide +kernel) (by decide +kernel) rfl rfl (by decide +kernel) (show cells ≤ 1129 by omega) (show slots ≤ 17054 by omega) q1 (Nat.le_of_ble_eq_true rfl) hWx hS hx0 hbx ⟨_, _, rfl, rfl, ⟨_, _, rfl, rfl, rfl⟩⟩ rfl hl.1 (Nat.le_of_ble_eq_true rfl) rfl (fun v ws1 tys1 H1 locs1 hO hpre hW1 hD1 hk1 hS => ?_)
  obtain ⟨_, rfl, rfl⟩ := hO
  obtain ⟨hWm, hdis⟩ := hWm.other hdis hk1 hD1
  obtain ⟨hPo, hdx⟩ := z_other hPo hdx hk1 hD1
  have hWx := hW1
  have hbx := zpre_at hpre hbx
  refine lv_pop hx hb dl_1152 rfl ?_
  refine lv_aload_n hx hb dl_1153 rfl (lv_at hl 2 rfl) ?_
  refine lv_aload_n hx hb dl_1154 rfl (lv_at hl 4 rfl) ?_
  refine lv_iload hx hb dl_1155 (lv_at hl 0 rfl) ?_
  refine lv_iconst (v := 1) hx hb dl_1157 (by decide) ?_
  refine lv_iadd hx hb dl_1158 ?_
  refine va_sld hx hb hX hbl hbA hS (vIk (k := 1) (by decide) (by decide) hi hL) dl_1159 ?_
  refine lv_aload_n hx hb dl_1160 rfl (lv_at hl 4 rfl) ?_
  refine lv_iload hx hb dl_1161 (lv_at hl 0 rfl) ?_
  refine lv_iconst (v := 2) hx hb dl_1163 (by decide) ?_
  refine lv_iadd hx hb dl_1164 ?_
  refine va_sld hx hb hX hbl hbA hS (vIk (k := 2) (by decide) (by decide) hi hL) dl_1165 ?_
  refine z_law (rest := []) C (x := 231) (idx := 130) (by decide) (by decide +kernel) (List.mem_append_right _ (List.mem_of_getElem? (i := 1587) (by decide +kernel))) dl_1166 (by decide +kernel) (by decide +kernel) rfl rfl (by decide +kernel) (show cells ≤ 1129 by omega) (show slots ≤ 17054 by omega) q2 (Nat.le_of_ble_eq_true rfl) hWm hS hm0 hbm ⟨_, _, rfl, rfl, ⟨_, _, rfl, rfl, rfl⟩⟩ rfl hl.1 (Nat.le_of_ble_eq_true rfl) rfl (fun v ws1 tys1 H1 locs1 hO hpre hW1 hD1 hk1 hS => ?_)
  obtain ⟨_, rfl, rfl⟩ := hO
  obtain ⟨hWx, hdis2⟩ := hWx.other hdis.symm hk1 hD1
  obtain ⟨hPo, hdm⟩ := z_other hPo hdm hk1 hD1
  have hbm := zpre_at hpre hbm
  refine lv_pop hx hb dl_1169 rfl ?_
  refine lv_goto (tgt := 1542) hx hb dl_1170 (by decide) ?_
  exact W.widen (by omega) (by omega) (KK _ _ _ ⟨_, _, _, _, cA, fo, Gx, Gm, hWx, hW1, hdis2.symm, hPo, hKo, hDo, hdx, hdm, hS, hbx, hbm, hl, hIv2⟩)
set_option maxRecDepth 100000 in
set_option maxHeartbeats 4000000 in
theorem law_26 {p : Program} {l : Launch} {e : Env} {s : State} {m : MethodId} {below : List Frame} {meth : Method} {c : Code} {b L : Nat} {xs : Nat → Int32} {D : va_G} {bx bm qo : Nat} {i : Int32} {H : Heap} {locs : List Loc} {ls : Array Slot} {cells slots : Nat} {Q : State → Prop} (F : zFx p s m meth c b L xs) (hi : 0 ≤ i.toInt ∧ i.toInt + 6 ≤ L) (hc : cells + 1 ≤ 1129) (hs : slots + 6 ≤ 17054) (B : zBe s b D bx bm qo i H locs ls) (KK : ∀ (H : Heap) (locs : List Loc) (ls : Array Slot), zBe s b D bx bm qo i H locs ls → W p l e room_1 s m #[Value.ref b] below meth c H locs (cells + 1) (slots + 6) Q (F0 m 1542 ls [])) : W p l e room_1 s m #[Value.ref b] below meth c H locs cells slots Q (F0 m 1173 ls []) := by
  obtain ⟨C, hX, hbl, hr, hlocks, hL⟩ := id F
  obtain ⟨hx, hb, hml, hown, hts, hN, hZt⟩ := id C
  have hbA : ¬ zA s b := Nat.not_le.mpr hbl
  obtain ⟨wsx, wsm, tysx, tysm, cA, fo, Hx, Hm, hWx, hWm, hdis, hPo, hKo, hDo, hdx, hdm, hS, hbx, hbm, hl, hIv⟩ := B
  obtain ⟨f, rx, rm, Gx, Gm, q1, q2, hIv2, hE⟩ := step_26 (xs (i + 1).toNatClampNeg) (xs (i + 2).toNatClampNeg) (xs (i + 3).toNatClampNeg) hIv
  obtain ⟨vx0, hx0, -, -⟩ := gI_obj hIv.1.1 sx_0
  obtain ⟨vm0, hm0, -, -⟩ := gI_obj hIv.2.1.1 sm_0
  refine lv_aload_n hx hb dl_1173 rfl (lv_at hl 3 rfl) ?_
  refine lv_aload_n hx hb dl_1174 rfl (lv_at hl 4 rfl) ?_
  refine lv_iload hx hb dl_1175 (lv_at hl 0 rfl) ?_
  refine lv_iconst (v := 1) hx hb dl_1177 (by decide) ?_
  refine lv_iadd hx hb dl_1178 ?_
  refine va_sld hx hb hX hbl hbA hS (vIk (k := 1) (by decide) (by decide) hi hL) dl_1179 ?_
  refine lv_aload_n hx hb dl_1180 rfl (lv_at hl 4 rfl) ?_
  refine lv_iload hx hb dl_1181 (lv_at hl 0 rfl) ?_
  refine lv_iconst (v := 2) hx hb dl_1183 (by decide) ?_
  refine lv_iadd hx hb dl_1184 ?_
  refine va_sld hx hb hX hbl hbA hS (vIk (k := 2) (by decide) (by decide) hi hL) dl_1185 ?_
  refine lv_aload_n hx hb dl_1186 rfl (lv_at hl 4 rfl) ?_
  refine lv_iload hx hb dl_1187 (lv_at hl 0 rfl) ?_
  refine lv_iconst (v := 3) hx hb dl_1189 (by decide) ?_
  refine lv_iadd hx hb dl_1190 ?_
  refine va_sld hx hb hX hbl hbA hS (vIk (k := 3) (by decide) (by decide) hi hL) dl_1191 ?_
  refine z_law (rest := []) C (x := 140) (idx := 131) (by decide) (by decide +kernel) (List.mem_append_right _ (List.mem_of_getElem? (i := 960) (by decide +kernel))) dl_1192 (by decide +kernel) (by decide +kernel) rfl rfl (by decide +kernel) (show cells ≤ 1129 by omega) (show slots ≤ 17054 by omega) q1 (Nat.le_of_ble_eq_true rfl) hWx hS hx0 hbx ⟨_, _, rfl, rfl, ⟨_, _, rfl, rfl, ⟨_, _, rfl, rfl, rfl⟩⟩⟩ rfl hl.1 (Nat.le_of_ble_eq_true rfl) rfl (fun v ws1 tys1 H1 locs1 hO hpre hW1 hD1 hk1 hS => ?_)
  obtain ⟨_, rfl, rfl⟩ := hO
  obtain ⟨hWm, hdis⟩ := hWm.other hdis hk1 hD1
  obtain ⟨hPo, hdx⟩ := z_other hPo hdx hk1 hD1
  have hWx := hW1
  have hbx := zpre_at hpre hbx
  refine lv_pop hx hb dl_1195 rfl ?_
  refine lv_aload_n hx hb dl_1196 rfl (lv_at hl 2 rfl) ?_
  refine lv_aload_n hx hb dl_1197 rfl (lv_at hl 4 rfl) ?_
  refine lv_iload hx hb dl_1198 (lv_at hl 0 rfl) ?_
  refine lv_iconst (v := 1) hx hb dl_1200 (by decide) ?_
  refine lv_iadd hx hb dl_1201 ?_
  refine va_sld hx hb hX hbl hbA hS (vIk (k := 1) (by decide) (by decide) hi hL) dl_1202 ?_
  refine lv_aload_n hx hb dl_1203 rfl (lv_at hl 4 rfl) ?_
  refine lv_iload hx hb dl_1204 (lv_at hl 0 rfl) ?_
  refine lv_iconst (v := 2) hx hb dl_1206 (by decide) ?_
  refine lv_iadd hx hb dl_1207 ?_
  refine va_sld hx hb hX hbl hbA hS (vIk (k := 2) (by decide) (by decide) hi hL) dl_1208 ?_
  refine lv_aload_n hx hb dl_1209 rfl (lv_at hl 4 rfl) ?_
  refine lv_iload hx hb dl_1210 (lv_at hl 0 rfl) ?_
  refine lv_iconst (v := 3) hx hb dl_1212 (by decide) ?_
  refine lv_iadd hx hb dl_1213 ?_
  refine va_sld hx hb hX hbl hbA hS (vIk (k := 3) (by decide) (by decide) hi hL) dl_1214 ?_
  refine z_law (rest := []) C (x := 233) (idx := 134) (by decide) (by decide +kernel) (List.mem_append_right _ (List.mem_of_getElem? (i := 1591) (by decide +kernel))) dl_1215 (by decide +kernel) (by decide +kernel) rfl rfl (by decide +kernel) (show cells ≤ 1129 by omega) (show slots ≤ 17054 by omega) q2 (Nat.le_of_ble_eq_true rfl) hWm hS hm0 hbm ⟨_, _, rfl, rfl, ⟨_, _, rfl, rfl, ⟨_, _, rfl, rfl, rfl⟩⟩⟩ rfl hl.1 (Nat.le_of_ble_eq_true rfl) rfl (fun v ws1 tys1 H1 locs1 hO hpre hW1 hD1 hk1 hS => ?_)
  obtain ⟨_, rfl, rfl⟩ := hO
  obtain ⟨hWx, hdis2⟩ := hWx.other hdis.symm hk1 hD1
  obtain ⟨hPo, hdm⟩ := z_other hPo hdm hk1 hD1
  have hbm := zpre_at hpre hbm
  refine lv_pop hx hb dl_1218 rfl ?_
  refine lv_goto (tgt := 1542) hx hb dl_1219 (by decide) ?_
  exact W.widen (by omega) (by omega) (KK _ _ _ ⟨_, _, _, _, cA, fo, Gx, Gm, hWx, hW1, hdis2.symm, hPo, hKo, hDo, hdx, hdm, hS, hbx, hbm, hl, hIv2⟩)
set_option maxRecDepth 100000 in
set_option maxHeartbeats 4000000 in
theorem law_27 {p : Program} {l : Launch} {e : Env} {s : State} {m : MethodId} {below : List Frame} {meth : Method} {c : Code} {b L : Nat} {xs : Nat → Int32} {D : va_G} {bx bm qo : Nat} {i : Int32} {H : Heap} {locs : List Loc} {ls : Array Slot} {cells slots : Nat} {Q : State → Prop} (F : zFx p s m meth c b L xs) (hi : 0 ≤ i.toInt ∧ i.toInt + 6 ≤ L) (hc : cells + 1 ≤ 1129) (hs : slots + 6 ≤ 17054) (B : zBe s b D bx bm qo i H locs ls) (KK : ∀ (H : Heap) (locs : List Loc) (ls : Array Slot), zBe s b D bx bm qo i H locs ls → W p l e room_1 s m #[Value.ref b] below meth c H locs (cells + 1) (slots + 6) Q (F0 m 1542 ls [])) : W p l e room_1 s m #[Value.ref b] below meth c H locs cells slots Q (F0 m 1222 ls []) := by
  obtain ⟨C, hX, hbl, hr, hlocks, hL⟩ := id F
  obtain ⟨hx, hb, hml, hown, hts, hN, hZt⟩ := id C
  have hbA : ¬ zA s b := Nat.not_le.mpr hbl
  obtain ⟨wsx, wsm, tysx, tysm, cA, fo, Hx, Hm, hWx, hWm, hdis, hPo, hKo, hDo, hdx, hdm, hS, hbx, hbm, hl, hIv⟩ := B
  obtain ⟨f, rx, rm, Gx, Gm, q1, q2, hIv2, hE⟩ := step_27 (xs (i + 1).toNatClampNeg) (xs (i + 2).toNatClampNeg) hIv
  obtain ⟨vx0, hx0, -, -⟩ := gI_obj hIv.1.1 sx_0
  obtain ⟨vm0, hm0, -, -⟩ := gI_obj hIv.2.1.1 sm_0
  refine lv_aload_n hx hb dl_1222 rfl (lv_at hl 3 rfl) ?_
  refine lv_aload_n hx hb dl_1223 rfl (lv_at hl 4 rfl) ?_
  refine lv_iload hx hb dl_1224 (lv_at hl 0 rfl) ?_
  refine lv_iconst (v := 1) hx hb dl_1226 (by decide) ?_
  refine lv_iadd hx hb dl_1227 ?_
  refine va_sld hx hb hX hbl hbA hS (vIk (k := 1) (by decide) (by decide) hi hL) dl_1228 ?_
  refine lv_aload_n hx hb dl_1229 rfl (lv_at hl 4 rfl) ?_
  refine lv_iload hx hb dl_1230 (lv_at hl 0 rfl) ?_
  refine lv_iconst (v := 2) hx hb dl_1232 (by decide) ?_
  refine lv_iadd hx hb dl_1233 ?_
  refine va_sld hx hb hX hbl hbA hS (vIk (k := 2) (by decide) (by decide) hi hL) dl_1234 ?_
  refine z_law (rest := []) C (x := 141) (idx := 135) (by decide) (by decide +kernel) (List.mem_append_right _ (List.mem_of_getElem? (i := 975) (by decide +kernel))) dl_1235 (by decide +kernel) (by decide +kernel) rfl rfl (by decide +kernel) (show cells ≤ 1129 by omega) (show slots ≤ 17054 by omega) q1 (Nat.le_of_ble_eq_true rfl) hWx hS hx0 hbx ⟨_, _, rfl, rfl, ⟨_, _, rfl, rfl, rfl⟩⟩ rfl hl.1 (Nat.le_of_ble_eq_true rfl) rfl (fun v ws1 tys1 H1 locs1 hO hpre hW1 hD1 hk1 hS => ?_)
  obtain ⟨_, rfl, rfl⟩ := hO
  obtain ⟨hWm, hdis⟩ := hWm.other hdis hk1 hD1
  obtain ⟨hPo, hdx⟩ := z_other hPo hdx hk1 hD1
  have hWx := hW1
  have hbx := zpre_at hpre hbx
  refine lv_pop hx hb dl_1238 rfl ?_
  refine lv_aload_n hx hb dl_1239 rfl (lv_at hl 2 rfl) ?_
  refine lv_aload_n hx hb dl_1240 rfl (lv_at hl 4 rfl) ?_
  refine lv_iload hx hb dl_1241 (lv_at hl 0 rfl) ?_
  refine lv_iconst (v := 1) hx hb dl_1243 (by decide) ?_
  refine lv_iadd hx hb dl_1244 ?_
  refine va_sld hx hb hX hbl hbA hS (vIk (k := 1) (by decide) (by decide) hi hL) dl_1245 ?_
  refine lv_aload_n hx hb dl_1246 rfl (lv_at hl 4 rfl) ?_
  refine lv_iload hx hb dl_1247 (lv_at hl 0 rfl) ?_
  refine lv_iconst (v := 2) hx hb dl_1249 (by decide) ?_
  refine lv_iadd hx hb dl_1250 ?_
  refine va_sld hx hb hX hbl hbA hS (vIk (k := 2) (by decide) (by decide) hi hL) dl_1251 ?_
  refine z_law (rest := []) C (x := 234) (idx := 138) (by decide) (by decide +kernel) (List.mem_append_right _ (List.mem_of_getElem? (i := 1599) (by decide +kernel))) dl_1252 (by decide +kernel) (by decide +kernel) rfl rfl (by decide +kernel) (show cells ≤ 1129 by omega) (show slots ≤ 17054 by omega) q2 (Nat.le_of_ble_eq_true rfl) hWm hS hm0 hbm ⟨_, _, rfl, rfl, ⟨_, _, rfl, rfl, rfl⟩⟩ rfl hl.1 (Nat.le_of_ble_eq_true rfl) rfl (fun v ws1 tys1 H1 locs1 hO hpre hW1 hD1 hk1 hS => ?_)
  obtain ⟨_, rfl, rfl⟩ := hO
  obtain ⟨hWx, hdis2⟩ := hWx.other hdis.symm hk1 hD1
  obtain ⟨hPo, hdm⟩ := z_other hPo hdm hk1 hD1
  have hbm := zpre_at hpre hbm
  refine lv_pop hx hb dl_1255 rfl ?_
  refine lv_goto (tgt := 1542) hx hb dl_1256 (by decide) ?_
  exact W.widen (by omega) (by omega) (KK _ _ _ ⟨_, _, _, _, cA, fo, Gx, Gm, hWx, hW1, hdis2.symm, hPo, hKo, hDo, hdx, hdm, hS, hbx, hbm, hl, hIv2⟩)
set_option maxRecDepth 100000 in
set_option maxHeartbeats 4000000 in
theorem law_28 {p : Program} {l : Launch} {e : Env} {s : State} {m : MethodId} {below : List Frame} {meth : Method} {c : Code} {b L : Nat} {xs : Nat → Int32} {D : va_G} {bx bm qo : Nat} {i : Int32} {H : Heap} {locs : List Loc} {ls : Array Slot} {cells slots : Nat} {Q : State → Prop} (F : zFx p s m meth c b L xs) (hi : 0 ≤ i.toInt ∧ i.toInt + 6 ≤ L) (hc : cells + 1 ≤ 1129) (hs : slots + 6 ≤ 17054) (B : zBe s b D bx bm qo i H locs ls) (KK : ∀ (H : Heap) (locs : List Loc) (ls : Array Slot), zBe s b D bx bm qo i H locs ls → W p l e room_1 s m #[Value.ref b] below meth c H locs (cells + 1) (slots + 6) Q (F0 m 1542 ls [])) : W p l e room_1 s m #[Value.ref b] below meth c H locs cells slots Q (F0 m 1259 ls []) := by
  obtain ⟨C, hX, hbl, hr, hlocks, hL⟩ := id F
  obtain ⟨hx, hb, hml, hown, hts, hN, hZt⟩ := id C
  have hbA : ¬ zA s b := Nat.not_le.mpr hbl
  obtain ⟨wsx, wsm, tysx, tysm, cA, fo, Hx, Hm, hWx, hWm, hdis, hPo, hKo, hDo, hdx, hdm, hS, hbx, hbm, hl, hIv⟩ := B
  obtain ⟨f, rx, rm, Gx, Gm, q1, q2, hIv2, hE⟩ := step_28 (xs (i + 1).toNatClampNeg) (xs (i + 2).toNatClampNeg) (xs (i + 3).toNatClampNeg) hIv
  obtain ⟨vx0, hx0, -, -⟩ := gI_obj hIv.1.1 sx_0
  obtain ⟨vm0, hm0, -, -⟩ := gI_obj hIv.2.1.1 sm_0
  refine lv_aload_n hx hb dl_1259 rfl (lv_at hl 3 rfl) ?_
  refine lv_aload_n hx hb dl_1260 rfl (lv_at hl 4 rfl) ?_
  refine lv_iload hx hb dl_1261 (lv_at hl 0 rfl) ?_
  refine lv_iconst (v := 1) hx hb dl_1263 (by decide) ?_
  refine lv_iadd hx hb dl_1264 ?_
  refine va_sld hx hb hX hbl hbA hS (vIk (k := 1) (by decide) (by decide) hi hL) dl_1265 ?_
  refine lv_aload_n hx hb dl_1266 rfl (lv_at hl 4 rfl) ?_
  refine lv_iload hx hb dl_1267 (lv_at hl 0 rfl) ?_
  refine lv_iconst (v := 2) hx hb dl_1269 (by decide) ?_
  refine lv_iadd hx hb dl_1270 ?_
  refine va_sld hx hb hX hbl hbA hS (vIk (k := 2) (by decide) (by decide) hi hL) dl_1271 ?_
  refine lv_aload_n hx hb dl_1272 rfl (lv_at hl 4 rfl) ?_
  refine lv_iload hx hb dl_1273 (lv_at hl 0 rfl) ?_
  refine lv_iconst (v := 3) hx hb dl_1275 (by decide) ?_
  refine lv_iadd hx hb dl_1276 ?_
  refine va_sld hx hb hX hbl hbA hS (vIk (k := 3) (by decide) (by decide) hi hL) dl_1277 ?_
  refine z_law (rest := []) C (x := 142) (idx := 139) (by decide) (by decide +kernel) (List.mem_append_right _ (List.mem_of_getElem? (i := 988) (by decide +kernel))) dl_1278 (by decide +kernel) (by decide +kernel) rfl rfl (by decide +kernel) (show cells ≤ 1129 by omega) (show slots ≤ 17054 by omega) q1 (Nat.le_of_ble_eq_true rfl) hWx hS hx0 hbx ⟨_, _, rfl, rfl, ⟨_, _, rfl, rfl, ⟨_, _, rfl, rfl, rfl⟩⟩⟩ rfl hl.1 (Nat.le_of_ble_eq_true rfl) rfl (fun v ws1 tys1 H1 locs1 hO hpre hW1 hD1 hk1 hS => ?_)
  obtain ⟨_, rfl, rfl⟩ := hO
  obtain ⟨hWm, hdis⟩ := hWm.other hdis hk1 hD1
  obtain ⟨hPo, hdx⟩ := z_other hPo hdx hk1 hD1
  have hWx := hW1
  have hbx := zpre_at hpre hbx
  refine lv_pop hx hb dl_1281 rfl ?_
  refine lv_aload_n hx hb dl_1282 rfl (lv_at hl 2 rfl) ?_
  refine lv_aload_n hx hb dl_1283 rfl (lv_at hl 4 rfl) ?_
  refine lv_iload hx hb dl_1284 (lv_at hl 0 rfl) ?_
  refine lv_iconst (v := 1) hx hb dl_1286 (by decide) ?_
  refine lv_iadd hx hb dl_1287 ?_
  refine va_sld hx hb hX hbl hbA hS (vIk (k := 1) (by decide) (by decide) hi hL) dl_1288 ?_
  refine lv_aload_n hx hb dl_1289 rfl (lv_at hl 4 rfl) ?_
  refine lv_iload hx hb dl_1290 (lv_at hl 0 rfl) ?_
  refine lv_iconst (v := 2) hx hb dl_1292 (by decide) ?_
  refine lv_iadd hx hb dl_1293 ?_
  refine va_sld hx hb hX hbl hbA hS (vIk (k := 2) (by decide) (by decide) hi hL) dl_1294 ?_
  refine lv_aload_n hx hb dl_1295 rfl (lv_at hl 4 rfl) ?_
  refine lv_iload hx hb dl_1296 (lv_at hl 0 rfl) ?_
  refine lv_iconst (v := 3) hx hb dl_1298 (by decide) ?_
  refine lv_iadd hx hb dl_1299 ?_
  refine va_sld hx hb hX hbl hbA hS (vIk (k := 3) (by decide) (by decide) hi hL) dl_1300 ?_
  refine z_law (rest := []) C (x := 246) (idx := 142) (by decide) (by decide +kernel) (List.mem_append_right _ (List.mem_of_getElem? (i := 1646) (by decide +kernel))) dl_1301 (by decide +kernel) (by decide +kernel) rfl rfl (by decide +kernel) (show cells ≤ 1129 by omega) (show slots ≤ 17054 by omega) q2 (Nat.le_of_ble_eq_true rfl) hWm hS hm0 hbm ⟨_, _, rfl, rfl, ⟨_, _, rfl, rfl, ⟨_, _, rfl, rfl, rfl⟩⟩⟩ rfl hl.1 (Nat.le_of_ble_eq_true rfl) rfl (fun v ws1 tys1 H1 locs1 hO hpre hW1 hD1 hk1 hS => ?_)
  obtain ⟨_, rfl, rfl⟩ := hO
  obtain ⟨hWx, hdis2⟩ := hWx.other hdis.symm hk1 hD1
  obtain ⟨hPo, hdm⟩ := z_other hPo hdm hk1 hD1
  have hbm := zpre_at hpre hbm
  refine lv_pop hx hb dl_1304 rfl ?_
  refine lv_goto (tgt := 1542) hx hb dl_1305 (by decide) ?_
  exact W.widen (by omega) (by omega) (KK _ _ _ ⟨_, _, _, _, cA, fo, Gx, Gm, hWx, hW1, hdis2.symm, hPo, hKo, hDo, hdx, hdm, hS, hbx, hbm, hl, hIv2⟩)
set_option maxRecDepth 100000 in
set_option maxHeartbeats 4000000 in
theorem law_29 {p : Program} {l : Launch} {e : Env} {s : State} {m : MethodId} {below : List Frame} {meth : Method} {c : Code} {b L : Nat} {xs : Nat → Int32} {D : va_G} {bx bm qo : Nat} {i : Int32} {H : Heap} {locs : List Loc} {ls : Array Slot} {cells slots : Nat} {Q : State → Prop} (F : zFx p s m meth c b L xs) (hi : 0 ≤ i.toInt ∧ i.toInt + 6 ≤ L) (hc : cells + 1 ≤ 1129) (hs : slots + 6 ≤ 17054) (B : zBe s b D bx bm qo i H locs ls) (KK : ∀ (H : Heap) (locs : List Loc) (ls : Array Slot), zBe s b D bx bm qo i H locs ls → W p l e room_1 s m #[Value.ref b] below meth c H locs (cells + 1) (slots + 6) Q (F0 m 1542 ls [])) : W p l e room_1 s m #[Value.ref b] below meth c H locs cells slots Q (F0 m 1308 ls []) := by
  obtain ⟨C, hX, hbl, hr, hlocks, hL⟩ := id F
  obtain ⟨hx, hb, hml, hown, hts, hN, hZt⟩ := id C
  have hbA : ¬ zA s b := Nat.not_le.mpr hbl
  obtain ⟨wsx, wsm, tysx, tysm, cA, fo, Hx, Hm, hWx, hWm, hdis, hPo, hKo, hDo, hdx, hdm, hS, hbx, hbm, hl, hIv⟩ := B
  obtain ⟨f, rx, rm, Gx, Gm, q1, q2, hIv2, hE⟩ := step_29 (xs (i + 1).toNatClampNeg) (xs (i + 2).toNatClampNeg) (xs (i + 3).toNatClampNeg) hIv
  obtain ⟨vx0, hx0, -, -⟩ := gI_obj hIv.1.1 sx_0
  obtain ⟨vm0, hm0, -, -⟩ := gI_obj hIv.2.1.1 sm_0
  refine lv_aload_n hx hb dl_1308 rfl (lv_at hl 3 rfl) ?_
  refine lv_aload_n hx hb dl_1309 rfl (lv_at hl 4 rfl) ?_
  refine lv_iload hx hb dl_1310 (lv_at hl 0 rfl) ?_
  refine lv_iconst (v := 1) hx hb dl_1312 (by decide) ?_
  refine lv_iadd hx hb dl_1313 ?_
  refine va_sld hx hb hX hbl hbA hS (vIk (k := 1) (by decide) (by decide) hi hL) dl_1314 ?_
  refine lv_aload_n hx hb dl_1315 rfl (lv_at hl 4 rfl) ?_
  refine lv_iload hx hb dl_1316 (lv_at hl 0 rfl) ?_
  refine lv_iconst (v := 2) hx hb dl_1318 (by decide) ?_
  refine lv_iadd hx hb dl_1319 ?_
  refine va_sld hx hb hX hbl hbA hS (vIk (k := 2) (by decide) (by decide) hi hL) dl_1320 ?_
  refine lv_aload_n hx hb dl_1321 rfl (lv_at hl 4 rfl) ?_
  refine lv_iload hx hb dl_1322 (lv_at hl 0 rfl) ?_
  refine lv_iconst (v := 3) hx hb dl_1324 (by decide) ?_
  refine lv_iadd hx hb dl_1325 ?_
  refine va_sld hx hb hX hbl hbA hS (vIk (k := 3) (by decide) (by decide) hi hL) dl_1326 ?_
  refine z_law (rest := []) C (x := 143) (idx := 143) (by decide) (by decide +kernel) (List.mem_append_right _ (List.mem_of_getElem? (i := 996) (by decide +kernel))) dl_1327 (by decide +kernel) (by decide +kernel) rfl rfl (by decide +kernel) (show cells ≤ 1129 by omega) (show slots ≤ 17054 by omega) q1 (Nat.le_of_ble_eq_true rfl) hWx hS hx0 hbx ⟨_, _, rfl, rfl, ⟨_, _, rfl, rfl, ⟨_, _, rfl, rfl, rfl⟩⟩⟩ rfl hl.1 (Nat.le_of_ble_eq_true rfl) rfl (fun v ws1 tys1 H1 locs1 hO hpre hW1 hD1 hk1 hS => ?_)
  obtain ⟨_, rfl, rfl⟩ := hO
  obtain ⟨hWm, hdis⟩ := hWm.other hdis hk1 hD1
  obtain ⟨hPo, hdx⟩ := z_other hPo hdx hk1 hD1
  have hWx := hW1
  have hbx := zpre_at hpre hbx
  refine lv_pop hx hb dl_1330 rfl ?_
  refine lv_aload_n hx hb dl_1331 rfl (lv_at hl 2 rfl) ?_
  refine lv_aload_n hx hb dl_1332 rfl (lv_at hl 4 rfl) ?_
  refine lv_iload hx hb dl_1333 (lv_at hl 0 rfl) ?_
  refine lv_iconst (v := 1) hx hb dl_1335 (by decide) ?_
  refine lv_iadd hx hb dl_1336 ?_
  refine va_sld hx hb hX hbl hbA hS (vIk (k := 1) (by decide) (by decide) hi hL) dl_1337 ?_
  refine lv_aload_n hx hb dl_1338 rfl (lv_at hl 4 rfl) ?_
  refine lv_iload hx hb dl_1339 (lv_at hl 0 rfl) ?_
  refine lv_iconst (v := 2) hx hb dl_1341 (by decide) ?_
  refine lv_iadd hx hb dl_1342 ?_
  refine va_sld hx hb hX hbl hbA hS (vIk (k := 2) (by decide) (by decide) hi hL) dl_1343 ?_
  refine lv_aload_n hx hb dl_1344 rfl (lv_at hl 4 rfl) ?_
  refine lv_iload hx hb dl_1345 (lv_at hl 0 rfl) ?_
  refine lv_iconst (v := 3) hx hb dl_1347 (by decide) ?_
  refine lv_iadd hx hb dl_1348 ?_
  refine va_sld hx hb hX hbl hbA hS (vIk (k := 3) (by decide) (by decide) hi hL) dl_1349 ?_
  refine z_law (rest := []) C (x := 247) (idx := 146) (by decide) (by decide +kernel) (List.mem_append_right _ (List.mem_of_getElem? (i := 1650) (by decide +kernel))) dl_1350 (by decide +kernel) (by decide +kernel) rfl rfl (by decide +kernel) (show cells ≤ 1129 by omega) (show slots ≤ 17054 by omega) q2 (Nat.le_of_ble_eq_true rfl) hWm hS hm0 hbm ⟨_, _, rfl, rfl, ⟨_, _, rfl, rfl, ⟨_, _, rfl, rfl, rfl⟩⟩⟩ rfl hl.1 (Nat.le_of_ble_eq_true rfl) rfl (fun v ws1 tys1 H1 locs1 hO hpre hW1 hD1 hk1 hS => ?_)
  obtain ⟨_, rfl, rfl⟩ := hO
  obtain ⟨hWx, hdis2⟩ := hWx.other hdis.symm hk1 hD1
  obtain ⟨hPo, hdm⟩ := z_other hPo hdm hk1 hD1
  have hbm := zpre_at hpre hbm
  refine lv_pop hx hb dl_1353 rfl ?_
  refine lv_goto (tgt := 1542) hx hb dl_1354 (by decide) ?_
  exact W.widen (by omega) (by omega) (KK _ _ _ ⟨_, _, _, _, cA, fo, Gx, Gm, hWx, hW1, hdis2.symm, hPo, hKo, hDo, hdx, hdm, hS, hbx, hbm, hl, hIv2⟩)
set_option maxRecDepth 100000 in
set_option maxHeartbeats 4000000 in
theorem law_30 {p : Program} {l : Launch} {e : Env} {s : State} {m : MethodId} {below : List Frame} {meth : Method} {c : Code} {b L : Nat} {xs : Nat → Int32} {D : va_G} {bx bm qo : Nat} {i : Int32} {H : Heap} {locs : List Loc} {ls : Array Slot} {cells slots : Nat} {Q : State → Prop} (F : zFx p s m meth c b L xs) (hi : 0 ≤ i.toInt ∧ i.toInt + 6 ≤ L) (hc : cells + 1 ≤ 1129) (hs : slots + 6 ≤ 17054) (B : zBe s b D bx bm qo i H locs ls) (KK : ∀ (H : Heap) (locs : List Loc) (ls : Array Slot), zBe s b D bx bm qo i H locs ls → W p l e room_1 s m #[Value.ref b] below meth c H locs (cells + 1) (slots + 6) Q (F0 m 1542 ls [])) : W p l e room_1 s m #[Value.ref b] below meth c H locs cells slots Q (F0 m 1357 ls []) := by
  obtain ⟨C, hX, hbl, hr, hlocks, hL⟩ := id F
  obtain ⟨hx, hb, hml, hown, hts, hN, hZt⟩ := id C
  have hbA : ¬ zA s b := Nat.not_le.mpr hbl
  obtain ⟨wsx, wsm, tysx, tysm, cA, fo, Hx, Hm, hWx, hWm, hdis, hPo, hKo, hDo, hdx, hdm, hS, hbx, hbm, hl, hIv⟩ := B
  obtain ⟨f, rx, rm, Gx, Gm, q1, q2, hIv2, hE⟩ := step_30 (xs (i + 1).toNatClampNeg) (xs (i + 2).toNatClampNeg) hIv
  obtain ⟨vx0, hx0, -, -⟩ := gI_obj hIv.1.1 sx_0
  obtain ⟨vm0, hm0, -, -⟩ := gI_obj hIv.2.1.1 sm_0
  refine lv_aload_n hx hb dl_1357 rfl (lv_at hl 3 rfl) ?_
  refine lv_aload_n hx hb dl_1358 rfl (lv_at hl 4 rfl) ?_
  refine lv_iload hx hb dl_1359 (lv_at hl 0 rfl) ?_
  refine lv_iconst (v := 1) hx hb dl_1361 (by decide) ?_
  refine lv_iadd hx hb dl_1362 ?_
  refine va_sld hx hb hX hbl hbA hS (vIk (k := 1) (by decide) (by decide) hi hL) dl_1363 ?_
  refine lv_aload_n hx hb dl_1364 rfl (lv_at hl 4 rfl) ?_
  refine lv_iload hx hb dl_1365 (lv_at hl 0 rfl) ?_
  refine lv_iconst (v := 2) hx hb dl_1367 (by decide) ?_
  refine lv_iadd hx hb dl_1368 ?_
  refine va_sld hx hb hX hbl hbA hS (vIk (k := 2) (by decide) (by decide) hi hL) dl_1369 ?_
  refine z_law (rest := []) C (x := 144) (idx := 147) (by decide) (by decide +kernel) (List.mem_append_right _ (List.mem_of_getElem? (i := 1004) (by decide +kernel))) dl_1370 (by decide +kernel) (by decide +kernel) rfl rfl (by decide +kernel) (show cells ≤ 1129 by omega) (show slots ≤ 17054 by omega) q1 (Nat.le_of_ble_eq_true rfl) hWx hS hx0 hbx ⟨_, _, rfl, rfl, ⟨_, _, rfl, rfl, rfl⟩⟩ rfl hl.1 (Nat.le_of_ble_eq_true rfl) rfl (fun v ws1 tys1 H1 locs1 hO hpre hW1 hD1 hk1 hS => ?_)
  obtain ⟨_, rfl, rfl⟩ := hO
  obtain ⟨hWm, hdis⟩ := hWm.other hdis hk1 hD1
  obtain ⟨hPo, hdx⟩ := z_other hPo hdx hk1 hD1
  have hWx := hW1
  have hbx := zpre_at hpre hbx
  refine lv_pop hx hb dl_1373 rfl ?_
  refine lv_aload_n hx hb dl_1374 rfl (lv_at hl 2 rfl) ?_
  refine lv_aload_n hx hb dl_1375 rfl (lv_at hl 4 rfl) ?_
  refine lv_iload hx hb dl_1376 (lv_at hl 0 rfl) ?_
  refine lv_iconst (v := 1) hx hb dl_1378 (by decide) ?_
  refine lv_iadd hx hb dl_1379 ?_
  refine va_sld hx hb hX hbl hbA hS (vIk (k := 1) (by decide) (by decide) hi hL) dl_1380 ?_
  refine lv_aload_n hx hb dl_1381 rfl (lv_at hl 4 rfl) ?_
  refine lv_iload hx hb dl_1382 (lv_at hl 0 rfl) ?_
  refine lv_iconst (v := 2) hx hb dl_1384 (by decide) ?_
  refine lv_iadd hx hb dl_1385 ?_
  refine va_sld hx hb hX hbl hbA hS (vIk (k := 2) (by decide) (by decide) hi hL) dl_1386 ?_
  refine z_law (rest := []) C (x := 249) (idx := 150) (by decide) (by decide +kernel) (List.mem_append_right _ (List.mem_of_getElem? (i := 1654) (by decide +kernel))) dl_1387 (by decide +kernel) (by decide +kernel) rfl rfl (by decide +kernel) (show cells ≤ 1129 by omega) (show slots ≤ 17054 by omega) q2 (Nat.le_of_ble_eq_true rfl) hWm hS hm0 hbm ⟨_, _, rfl, rfl, ⟨_, _, rfl, rfl, rfl⟩⟩ rfl hl.1 (Nat.le_of_ble_eq_true rfl) rfl (fun v ws1 tys1 H1 locs1 hO hpre hW1 hD1 hk1 hS => ?_)
  obtain ⟨_, rfl, rfl⟩ := hO
  obtain ⟨hWx, hdis2⟩ := hWx.other hdis.symm hk1 hD1
  obtain ⟨hPo, hdm⟩ := z_other hPo hdm hk1 hD1
  have hbm := zpre_at hpre hbm
  refine lv_pop hx hb dl_1390 rfl ?_
  refine lv_goto (tgt := 1542) hx hb dl_1391 (by decide) ?_
  exact W.widen (by omega) (by omega) (KK _ _ _ ⟨_, _, _, _, cA, fo, Gx, Gm, hWx, hW1, hdis2.symm, hPo, hKo, hDo, hdx, hdm, hS, hbx, hbm, hl, hIv2⟩)
set_option maxRecDepth 100000 in
set_option maxHeartbeats 4000000 in
theorem law_31 {p : Program} {l : Launch} {e : Env} {s : State} {m : MethodId} {below : List Frame} {meth : Method} {c : Code} {b L : Nat} {xs : Nat → Int32} {D : va_G} {bx bm qo : Nat} {i : Int32} {H : Heap} {locs : List Loc} {ls : Array Slot} {cells slots : Nat} {Q : State → Prop} (F : zFx p s m meth c b L xs) (hi : 0 ≤ i.toInt ∧ i.toInt + 6 ≤ L) (hc : cells + 1 ≤ 1129) (hs : slots + 6 ≤ 17054) (B : zBe s b D bx bm qo i H locs ls) (KK : ∀ (H : Heap) (locs : List Loc) (ls : Array Slot), zBe s b D bx bm qo i H locs ls → W p l e room_1 s m #[Value.ref b] below meth c H locs (cells + 1) (slots + 6) Q (F0 m 1542 ls [])) : W p l e room_1 s m #[Value.ref b] below meth c H locs cells slots Q (F0 m 1394 ls []) := by
  obtain ⟨C, hX, hbl, hr, hlocks, hL⟩ := id F
  obtain ⟨hx, hb, hml, hown, hts, hN, hZt⟩ := id C
  have hbA : ¬ zA s b := Nat.not_le.mpr hbl
  obtain ⟨wsx, wsm, tysx, tysm, cA, fo, Hx, Hm, hWx, hWm, hdis, hPo, hKo, hDo, hdx, hdm, hS, hbx, hbm, hl, hIv⟩ := B
  obtain ⟨f, rx, rm, Gx, Gm, q1, q2, hIv2, hE⟩ := step_31 (xs (i + 1).toNatClampNeg) hIv
  obtain ⟨vx0, hx0, -, -⟩ := gI_obj hIv.1.1 sx_0
  obtain ⟨vm0, hm0, -, -⟩ := gI_obj hIv.2.1.1 sm_0
  refine lv_aload_n hx hb dl_1394 rfl (lv_at hl 3 rfl) ?_
  refine lv_aload_n hx hb dl_1395 rfl (lv_at hl 4 rfl) ?_
  refine lv_iload hx hb dl_1396 (lv_at hl 0 rfl) ?_
  refine lv_iconst (v := 1) hx hb dl_1398 (by decide) ?_
  refine lv_iadd hx hb dl_1399 ?_
  refine va_sld hx hb hX hbl hbA hS (vIk (k := 1) (by decide) (by decide) hi hL) dl_1400 ?_
  refine z_law (rest := []) C (x := 145) (idx := 151) (by decide) (by decide +kernel) (List.mem_append_right _ (List.mem_of_getElem? (i := 1012) (by decide +kernel))) dl_1401 (by decide +kernel) (by decide +kernel) rfl rfl (by decide +kernel) (show cells ≤ 1129 by omega) (show slots ≤ 17054 by omega) q1 (Nat.le_of_ble_eq_true rfl) hWx hS hx0 hbx ⟨_, _, rfl, rfl, rfl⟩ rfl hl.1 (Nat.le_of_ble_eq_true rfl) rfl (fun v ws1 tys1 H1 locs1 hO hpre hW1 hD1 hk1 hS => ?_)
  obtain ⟨_, rfl, rfl⟩ := hO
  obtain ⟨hWm, hdis⟩ := hWm.other hdis hk1 hD1
  obtain ⟨hPo, hdx⟩ := z_other hPo hdx hk1 hD1
  have hWx := hW1
  have hbx := zpre_at hpre hbx
  refine lv_pop hx hb dl_1404 rfl ?_
  refine lv_aload_n hx hb dl_1405 rfl (lv_at hl 2 rfl) ?_
  refine lv_aload_n hx hb dl_1406 rfl (lv_at hl 4 rfl) ?_
  refine lv_iload hx hb dl_1407 (lv_at hl 0 rfl) ?_
  refine lv_iconst (v := 1) hx hb dl_1409 (by decide) ?_
  refine lv_iadd hx hb dl_1410 ?_
  refine va_sld hx hb hX hbl hbA hS (vIk (k := 1) (by decide) (by decide) hi hL) dl_1411 ?_
  refine z_law (rest := []) C (x := 250) (idx := 154) (by decide) (by decide +kernel) (List.mem_append_right _ (List.mem_of_getElem? (i := 1662) (by decide +kernel))) dl_1412 (by decide +kernel) (by decide +kernel) rfl rfl (by decide +kernel) (show cells ≤ 1129 by omega) (show slots ≤ 17054 by omega) q2 (Nat.le_of_ble_eq_true rfl) hWm hS hm0 hbm ⟨_, _, rfl, rfl, rfl⟩ rfl hl.1 (Nat.le_of_ble_eq_true rfl) rfl (fun v ws1 tys1 H1 locs1 hO hpre hW1 hD1 hk1 hS => ?_)
  obtain ⟨_, rfl, rfl⟩ := hO
  obtain ⟨hWx, hdis2⟩ := hWx.other hdis.symm hk1 hD1
  obtain ⟨hPo, hdm⟩ := z_other hPo hdm hk1 hD1
  have hbm := zpre_at hpre hbm
  refine lv_pop hx hb dl_1415 rfl ?_
  refine lv_goto (tgt := 1542) hx hb dl_1416 (by decide) ?_
  exact W.widen (by omega) (by omega) (KK _ _ _ ⟨_, _, _, _, cA, fo, Gx, Gm, hWx, hW1, hdis2.symm, hPo, hKo, hDo, hdx, hdm, hS, hbx, hbm, hl, hIv2⟩)
set_option maxRecDepth 100000 in
set_option maxHeartbeats 4000000 in
theorem law_32 {p : Program} {l : Launch} {e : Env} {s : State} {m : MethodId} {below : List Frame} {meth : Method} {c : Code} {b L : Nat} {xs : Nat → Int32} {D : va_G} {bx bm qo : Nat} {i : Int32} {H : Heap} {locs : List Loc} {ls : Array Slot} {cells slots : Nat} {Q : State → Prop} (F : zFx p s m meth c b L xs) (hi : 0 ≤ i.toInt ∧ i.toInt + 6 ≤ L) (hc : cells + 1 ≤ 1129) (hs : slots + 6 ≤ 17054) (B : zBe s b D bx bm qo i H locs ls) (KK : ∀ (H : Heap) (locs : List Loc) (ls : Array Slot), zBe s b D bx bm qo i H locs ls → W p l e room_1 s m #[Value.ref b] below meth c H locs (cells + 1) (slots + 6) Q (F0 m 1542 ls [])) : W p l e room_1 s m #[Value.ref b] below meth c H locs cells slots Q (F0 m 1419 ls []) := by
  obtain ⟨C, hX, hbl, hr, hlocks, hL⟩ := id F
  obtain ⟨hx, hb, hml, hown, hts, hN, hZt⟩ := id C
  have hbA : ¬ zA s b := Nat.not_le.mpr hbl
  obtain ⟨wsx, wsm, tysx, tysm, cA, fo, Hx, Hm, hWx, hWm, hdis, hPo, hKo, hDo, hdx, hdm, hS, hbx, hbm, hl, hIv⟩ := B
  obtain ⟨f, rx, rm, Gx, Gm, q1, q2, hIv2, hE⟩ := step_32 (xs (i + 1).toNatClampNeg) (xs (i + 2).toNatClampNeg) (xs (i + 3).toNatClampNeg) hIv
  obtain ⟨vx0, hx0, -, -⟩ := gI_obj hIv.1.1 sx_0
  obtain ⟨vm0, hm0, -, -⟩ := gI_obj hIv.2.1.1 sm_0
  refine lv_aload_n hx hb dl_1419 rfl (lv_at hl 3 rfl) ?_
  refine lv_aload_n hx hb dl_1420 rfl (lv_at hl 4 rfl) ?_
  refine lv_iload hx hb dl_1421 (lv_at hl 0 rfl) ?_
  refine lv_iconst (v := 1) hx hb dl_1423 (by decide) ?_
  refine lv_iadd hx hb dl_1424 ?_
  refine va_sld hx hb hX hbl hbA hS (vIk (k := 1) (by decide) (by decide) hi hL) dl_1425 ?_
  refine lv_aload_n hx hb dl_1426 rfl (lv_at hl 4 rfl) ?_
  refine lv_iload hx hb dl_1427 (lv_at hl 0 rfl) ?_
  refine lv_iconst (v := 2) hx hb dl_1429 (by decide) ?_
  refine lv_iadd hx hb dl_1430 ?_
  refine va_sld hx hb hX hbl hbA hS (vIk (k := 2) (by decide) (by decide) hi hL) dl_1431 ?_
  refine lv_aload_n hx hb dl_1432 rfl (lv_at hl 4 rfl) ?_
  refine lv_iload hx hb dl_1433 (lv_at hl 0 rfl) ?_
  refine lv_iconst (v := 3) hx hb dl_1435 (by decide) ?_
  refine lv_iadd hx hb dl_1436 ?_
  refine va_sld hx hb hX hbl hbA hS (vIk (k := 3) (by decide) (by decide) hi hL) dl_1437 ?_
  refine z_law (rest := []) C (x := 146) (idx := 155) (by decide) (by decide +kernel) (List.mem_append_right _ (List.mem_of_getElem? (i := 1021) (by decide +kernel))) dl_1438 (by decide +kernel) (by decide +kernel) rfl rfl (by decide +kernel) (show cells ≤ 1129 by omega) (show slots ≤ 17054 by omega) q1 (Nat.le_of_ble_eq_true rfl) hWx hS hx0 hbx ⟨_, _, rfl, rfl, ⟨_, _, rfl, rfl, ⟨_, _, rfl, rfl, rfl⟩⟩⟩ rfl hl.1 (Nat.le_of_ble_eq_true rfl) rfl (fun v ws1 tys1 H1 locs1 hO hpre hW1 hD1 hk1 hS => ?_)
  obtain ⟨_, rfl, rfl⟩ := hO
  obtain ⟨hWm, hdis⟩ := hWm.other hdis hk1 hD1
  obtain ⟨hPo, hdx⟩ := z_other hPo hdx hk1 hD1
  have hWx := hW1
  have hbx := zpre_at hpre hbx
  refine lv_aload_n hx hb dl_1441 rfl (lv_at hl 2 rfl) ?_
  refine lv_aload_n hx hb dl_1442 rfl (lv_at hl 4 rfl) ?_
  refine lv_iload hx hb dl_1443 (lv_at hl 0 rfl) ?_
  refine lv_iconst (v := 1) hx hb dl_1445 (by decide) ?_
  refine lv_iadd hx hb dl_1446 ?_
  refine va_sld hx hb hX hbl hbA hS (vIk (k := 1) (by decide) (by decide) hi hL) dl_1447 ?_
  refine lv_aload_n hx hb dl_1448 rfl (lv_at hl 4 rfl) ?_
  refine lv_iload hx hb dl_1449 (lv_at hl 0 rfl) ?_
  refine lv_iconst (v := 2) hx hb dl_1451 (by decide) ?_
  refine lv_iadd hx hb dl_1452 ?_
  refine va_sld hx hb hX hbl hbA hS (vIk (k := 2) (by decide) (by decide) hi hL) dl_1453 ?_
  refine lv_aload_n hx hb dl_1454 rfl (lv_at hl 4 rfl) ?_
  refine lv_iload hx hb dl_1455 (lv_at hl 0 rfl) ?_
  refine lv_iconst (v := 3) hx hb dl_1457 (by decide) ?_
  refine lv_iadd hx hb dl_1458 ?_
  refine va_sld hx hb hX hbl hbA hS (vIk (k := 3) (by decide) (by decide) hi hL) dl_1459 ?_
  refine z_law (rest := [.int rx]) C (x := 244) (idx := 158) (by decide) (by decide +kernel) (List.mem_append_right _ (List.mem_of_getElem? (i := 1638) (by decide +kernel))) dl_1460 (by decide +kernel) (by decide +kernel) rfl rfl (by decide +kernel) (show cells ≤ 1129 by omega) (show slots ≤ 17054 by omega) q2 (Nat.le_of_ble_eq_true rfl) hWm hS hm0 hbm ⟨_, _, rfl, rfl, ⟨_, _, rfl, rfl, ⟨_, _, rfl, rfl, rfl⟩⟩⟩ rfl hl.1 (Nat.le_of_ble_eq_true rfl) rfl (fun v ws1 tys1 H1 locs1 hO hpre hW1 hD1 hk1 hS => ?_)
  obtain ⟨_, rfl, rfl⟩ := hO
  obtain ⟨hWx, hdis2⟩ := hWx.other hdis.symm hk1 hD1
  obtain ⟨hPo, hdm⟩ := z_other hPo hdm hk1 hD1
  have hbm := zpre_at hpre hbm
  refine lv_icmp_eq (tgt := 1542) hx hb dl_1463 (by decide) (fun _ => ?_) (fun h => absurd hE h)
  exact W.widen (by omega) (by omega) (KK _ _ _ ⟨_, _, _, _, cA, fo, Gx, Gm, hWx, hW1, hdis2.symm, hPo, hKo, hDo, hdx, hdm, hS, hbx, hbm, hl, hIv2⟩)
set_option maxRecDepth 100000 in
set_option maxHeartbeats 4000000 in
theorem law_33 {p : Program} {l : Launch} {e : Env} {s : State} {m : MethodId} {below : List Frame} {meth : Method} {c : Code} {b L : Nat} {xs : Nat → Int32} {D : va_G} {bx bm qo : Nat} {i : Int32} {H : Heap} {locs : List Loc} {ls : Array Slot} {cells slots : Nat} {Q : State → Prop} (F : zFx p s m meth c b L xs) (hi : 0 ≤ i.toInt ∧ i.toInt + 6 ≤ L) (hc : cells + 1 ≤ 1129) (hs : slots + 6 ≤ 17054) (B : zBe s b D bx bm qo i H locs ls) (KK : ∀ (H : Heap) (locs : List Loc) (ls : Array Slot), zBe s b D bx bm qo i H locs ls → W p l e room_1 s m #[Value.ref b] below meth c H locs (cells + 1) (slots + 6) Q (F0 m 1542 ls [])) : W p l e room_1 s m #[Value.ref b] below meth c H locs cells slots Q (F0 m 1468 ls []) := by
  obtain ⟨C, hX, hbl, hr, hlocks, hL⟩ := id F
  obtain ⟨hx, hb, hml, hown, hts, hN, hZt⟩ := id C
  have hbA : ¬ zA s b := Nat.not_le.mpr hbl
  obtain ⟨wsx, wsm, tysx, tysm, cA, fo, Hx, Hm, hWx, hWm, hdis, hPo, hKo, hDo, hdx, hdm, hS, hbx, hbm, hl, hIv⟩ := B
  obtain ⟨f, rx, rm, Gx, Gm, q1, q2, hIv2, hE⟩ := step_33 (xs (i + 1).toNatClampNeg) (xs (i + 2).toNatClampNeg) (xs (i + 3).toNatClampNeg) hIv
  obtain ⟨vx0, hx0, -, -⟩ := gI_obj hIv.1.1 sx_0
  obtain ⟨vm0, hm0, -, -⟩ := gI_obj hIv.2.1.1 sm_0
  refine lv_aload_n hx hb dl_1468 rfl (lv_at hl 3 rfl) ?_
  refine lv_aload_n hx hb dl_1469 rfl (lv_at hl 4 rfl) ?_
  refine lv_iload hx hb dl_1470 (lv_at hl 0 rfl) ?_
  refine lv_iconst (v := 1) hx hb dl_1472 (by decide) ?_
  refine lv_iadd hx hb dl_1473 ?_
  refine va_sld hx hb hX hbl hbA hS (vIk (k := 1) (by decide) (by decide) hi hL) dl_1474 ?_
  refine lv_aload_n hx hb dl_1475 rfl (lv_at hl 4 rfl) ?_
  refine lv_iload hx hb dl_1476 (lv_at hl 0 rfl) ?_
  refine lv_iconst (v := 2) hx hb dl_1478 (by decide) ?_
  refine lv_iadd hx hb dl_1479 ?_
  refine va_sld hx hb hX hbl hbA hS (vIk (k := 2) (by decide) (by decide) hi hL) dl_1480 ?_
  refine lv_aload_n hx hb dl_1481 rfl (lv_at hl 4 rfl) ?_
  refine lv_iload hx hb dl_1482 (lv_at hl 0 rfl) ?_
  refine lv_iconst (v := 3) hx hb dl_1484 (by decide) ?_
  refine lv_iadd hx hb dl_1485 ?_
  refine va_sld hx hb hX hbl hbA hS (vIk (k := 3) (by decide) (by decide) hi hL) dl_1486 ?_
  refine z_law (rest := []) C (x := 147) (idx := 159) (by decide) (by decide +kernel) (List.mem_append_right _ (List.mem_of_getElem? (i := 1029) (by decide +kernel))) dl_1487 (by decide +kernel) (by decide +kernel) rfl rfl (by decide +kernel) (show cells ≤ 1129 by omega) (show slots ≤ 17054 by omega) q1 (Nat.le_of_ble_eq_true rfl) hWx hS hx0 hbx ⟨_, _, rfl, rfl, ⟨_, _, rfl, rfl, ⟨_, _, rfl, rfl, rfl⟩⟩⟩ rfl hl.1 (Nat.le_of_ble_eq_true rfl) rfl (fun v ws1 tys1 H1 locs1 hO hpre hW1 hD1 hk1 hS => ?_)
  obtain ⟨_, rfl, rfl⟩ := hO
  obtain ⟨hWm, hdis⟩ := hWm.other hdis hk1 hD1
  obtain ⟨hPo, hdx⟩ := z_other hPo hdx hk1 hD1
  have hWx := hW1
  have hbx := zpre_at hpre hbx
  refine lv_pop hx hb dl_1490 rfl ?_
  refine lv_aload_n hx hb dl_1491 rfl (lv_at hl 2 rfl) ?_
  refine lv_aload_n hx hb dl_1492 rfl (lv_at hl 4 rfl) ?_
  refine lv_iload hx hb dl_1493 (lv_at hl 0 rfl) ?_
  refine lv_iconst (v := 1) hx hb dl_1495 (by decide) ?_
  refine lv_iadd hx hb dl_1496 ?_
  refine va_sld hx hb hX hbl hbA hS (vIk (k := 1) (by decide) (by decide) hi hL) dl_1497 ?_
  refine lv_aload_n hx hb dl_1498 rfl (lv_at hl 4 rfl) ?_
  refine lv_iload hx hb dl_1499 (lv_at hl 0 rfl) ?_
  refine lv_iconst (v := 2) hx hb dl_1501 (by decide) ?_
  refine lv_iadd hx hb dl_1502 ?_
  refine va_sld hx hb hX hbl hbA hS (vIk (k := 2) (by decide) (by decide) hi hL) dl_1503 ?_
  refine lv_aload_n hx hb dl_1504 rfl (lv_at hl 4 rfl) ?_
  refine lv_iload hx hb dl_1505 (lv_at hl 0 rfl) ?_
  refine lv_iconst (v := 3) hx hb dl_1507 (by decide) ?_
  refine lv_iadd hx hb dl_1508 ?_
  refine va_sld hx hb hX hbl hbA hS (vIk (k := 3) (by decide) (by decide) hi hL) dl_1509 ?_
  refine z_law (rest := []) C (x := 245) (idx := 162) (by decide) (by decide +kernel) (List.mem_append_right _ (List.mem_of_getElem? (i := 1642) (by decide +kernel))) dl_1510 (by decide +kernel) (by decide +kernel) rfl rfl (by decide +kernel) (show cells ≤ 1129 by omega) (show slots ≤ 17054 by omega) q2 (Nat.le_of_ble_eq_true rfl) hWm hS hm0 hbm ⟨_, _, rfl, rfl, ⟨_, _, rfl, rfl, ⟨_, _, rfl, rfl, rfl⟩⟩⟩ rfl hl.1 (Nat.le_of_ble_eq_true rfl) rfl (fun v ws1 tys1 H1 locs1 hO hpre hW1 hD1 hk1 hS => ?_)
  obtain ⟨_, rfl, rfl⟩ := hO
  obtain ⟨hWx, hdis2⟩ := hWx.other hdis.symm hk1 hD1
  obtain ⟨hPo, hdm⟩ := z_other hPo hdm hk1 hD1
  have hbm := zpre_at hpre hbm
  refine lv_pop hx hb dl_1513 rfl ?_
  refine lv_goto (tgt := 1542) hx hb dl_1514 (by decide) ?_
  exact W.widen (by omega) (by omega) (KK _ _ _ ⟨_, _, _, _, cA, fo, Gx, Gm, hWx, hW1, hdis2.symm, hPo, hKo, hDo, hdx, hdm, hS, hbx, hbm, hl, hIv2⟩)
set_option maxRecDepth 100000 in
set_option maxHeartbeats 4000000 in
theorem law_34 {p : Program} {l : Launch} {e : Env} {s : State} {m : MethodId} {below : List Frame} {meth : Method} {c : Code} {b L : Nat} {xs : Nat → Int32} {D : va_G} {bx bm qo : Nat} {i : Int32} {H : Heap} {locs : List Loc} {ls : Array Slot} {cells slots : Nat} {Q : State → Prop} (F : zFx p s m meth c b L xs) (hi : 0 ≤ i.toInt ∧ i.toInt + 6 ≤ L) (hc : cells + 1 ≤ 1129) (hs : slots + 6 ≤ 17054) (B : zBe s b D bx bm qo i H locs ls) (KK : ∀ (H : Heap) (locs : List Loc) (ls : Array Slot), zBe s b D bx bm qo i H locs ls → W p l e room_1 s m #[Value.ref b] below meth c H locs (cells + 1) (slots + 6) Q (F0 m 1542 ls [])) : W p l e room_1 s m #[Value.ref b] below meth c H locs cells slots Q (F0 m 1517 ls []) := by
  obtain ⟨C, hX, hbl, hr, hlocks, hL⟩ := id F
  obtain ⟨hx, hb, hml, hown, hts, hN, hZt⟩ := id C
  have hbA : ¬ zA s b := Nat.not_le.mpr hbl
  obtain ⟨wsx, wsm, tysx, tysm, cA, fo, Hx, Hm, hWx, hWm, hdis, hPo, hKo, hDo, hdx, hdm, hS, hbx, hbm, hl, hIv⟩ := B
  obtain ⟨f, rx, rm, Gx, Gm, q1, q2, hIv2, hE⟩ := step_34 (xs (i + 1).toNatClampNeg) hIv
  obtain ⟨vx0, hx0, -, -⟩ := gI_obj hIv.1.1 sx_0
  obtain ⟨vm0, hm0, -, -⟩ := gI_obj hIv.2.1.1 sm_0
  refine lv_aload_n hx hb dl_1517 rfl (lv_at hl 3 rfl) ?_
  refine lv_aload_n hx hb dl_1518 rfl (lv_at hl 4 rfl) ?_
  refine lv_iload hx hb dl_1519 (lv_at hl 0 rfl) ?_
  refine lv_iconst (v := 1) hx hb dl_1521 (by decide) ?_
  refine lv_iadd hx hb dl_1522 ?_
  refine va_sld hx hb hX hbl hbA hS (vIk (k := 1) (by decide) (by decide) hi hL) dl_1523 ?_
  refine z_law (rest := []) C (x := 148) (idx := 163) (by decide) (by decide +kernel) (List.mem_append_right _ (List.mem_of_getElem? (i := 1035) (by decide +kernel))) dl_1524 (by decide +kernel) (by decide +kernel) rfl rfl (by decide +kernel) (show cells ≤ 1129 by omega) (show slots ≤ 17054 by omega) q1 (Nat.le_of_ble_eq_true rfl) hWx hS hx0 hbx ⟨_, _, rfl, rfl, rfl⟩ rfl hl.1 (Nat.le_of_ble_eq_true rfl) rfl (fun v ws1 tys1 H1 locs1 hO hpre hW1 hD1 hk1 hS => ?_)
  obtain ⟨_, rfl, rfl⟩ := hO
  obtain ⟨hWm, hdis⟩ := hWm.other hdis hk1 hD1
  obtain ⟨hPo, hdx⟩ := z_other hPo hdx hk1 hD1
  have hWx := hW1
  have hbx := zpre_at hpre hbx
  refine lv_pop hx hb dl_1527 rfl ?_
  refine lv_aload_n hx hb dl_1528 rfl (lv_at hl 2 rfl) ?_
  refine lv_aload_n hx hb dl_1529 rfl (lv_at hl 4 rfl) ?_
  refine lv_iload hx hb dl_1530 (lv_at hl 0 rfl) ?_
  refine lv_iconst (v := 1) hx hb dl_1532 (by decide) ?_
  refine lv_iadd hx hb dl_1533 ?_
  refine va_sld hx hb hX hbl hbA hS (vIk (k := 1) (by decide) (by decide) hi hL) dl_1534 ?_
  refine z_law (rest := []) C (x := 251) (idx := 166) (by decide) (by decide +kernel) (List.mem_append_right _ (List.mem_of_getElem? (i := 1666) (by decide +kernel))) dl_1535 (by decide +kernel) (by decide +kernel) rfl rfl (by decide +kernel) (show cells ≤ 1129 by omega) (show slots ≤ 17054 by omega) q2 (Nat.le_of_ble_eq_true rfl) hWm hS hm0 hbm ⟨_, _, rfl, rfl, rfl⟩ rfl hl.1 (Nat.le_of_ble_eq_true rfl) rfl (fun v ws1 tys1 H1 locs1 hO hpre hW1 hD1 hk1 hS => ?_)
  obtain ⟨_, rfl, rfl⟩ := hO
  obtain ⟨hWx, hdis2⟩ := hWx.other hdis.symm hk1 hD1
  obtain ⟨hPo, hdm⟩ := z_other hPo hdm hk1 hD1
  have hbm := zpre_at hpre hbm
  refine lv_pop hx hb dl_1538 rfl ?_
  refine lv_goto (tgt := 1542) hx hb dl_1539 (by decide) ?_
  exact W.widen (by omega) (by omega) (KK _ _ _ ⟨_, _, _, _, cA, fo, Gx, Gm, hWx, hW1, hdis2.symm, hPo, hKo, hDo, hdx, hdm, hS, hbx, hbm, hl, hIv2⟩)
