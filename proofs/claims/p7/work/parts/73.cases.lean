/-! THE LAW'S CASES: a call on both, from every state of the shapes (by program, wip/lawn.py) -/
def zOe (cA : ClassId) (fo : Nat → Int64) : va_E := .inl (cA, 1, .inr (.inl fo))
/-- what doesn't change -/
def zFx (p : Program) (s : State) (m : MethodId) (meth : Method) (c : Code) (b L : Nat) (xs : Nat → Int32) : Prop := zLaw p s m #[Value.ref b] c ∧ va_X b L xs s s.heap ∧ b < s.heap.size ∧ meth.sig.returnType = ret ∧ meth.locks = false ∧ L ≤ 3072
/-- what stands as a case begins and ends -/
def zBe (s : State) (b : Nat) (D : va_G) (bx bm qo : Nat) (i : Int32) (H : Heap) (locs : List Loc) (ls : Array Slot) : Prop :=
  ∃ (wsx wsm : va_W) (tysx tysm : List (ClassId × FieldType)) (cA : ClassId) (fo : Nat → Int64) (Hx Hm : mzH), zWd D s Hx wsx tysx H ∧ zWd D s Hm wsm tysm H ∧ zDis wsx wsm ∧ va_P D vwCl [(qo, zOe cA fo)] H ∧ va_K D vwCl [(cA, .long)] s ∧ va_D (zA s) [(qo, zOe cA fo)] ∧ zDis wsx [(qo, zOe cA fo)] ∧ zDis wsm [(qo, zOe cA fo)] ∧ va_S (zA s) s.heap H locs ∧ (zad wsx)[0]? = some bx ∧ (zad wsm)[0]? = some bm ∧ lv_has ls 7 [(4, .int i), (3, .ref qo), (2, .ref bm), (1, .ref bx), (0, .ref b)] ∧ zIv Hx Hm
theorem vIk {i v : Int32} {L k : Nat} (hv : v.toInt = k) (hk : k ≤ 5) (h : 0 ≤ i.toInt ∧ i.toInt + 6 ≤ L) (hL : L ≤ 3072) : vp_in (i + v) L := by
  have e : (i + v).toInt = i.toInt + v.toInt := gz_add (by omega)
  have e2 : (i + v).toNatClampNeg = (i + v).toInt.toNat := rfl
  intro hh
  rcases hh with hh | hh
  · rw [Int32.lt_iff_toInt_lt, Int32.toInt_zero] at hh
    omega
  · omega
theorem vI0 {i : Int32} {L : Nat} (h : 0 ≤ i.toInt ∧ i.toInt + 6 ≤ L) : vp_in i L := by
  have e2 : i.toNatClampNeg = i.toInt.toNat := rfl
  intro hh
  rcases hh with hh | hh
  · rw [Int32.lt_iff_toInt_lt, Int32.toInt_zero] at hh
    omega
  · omega
theorem zDis.set {w : va_W} {q : Nat} {e e' : va_E} (h : zDis w [(q, e)]) : zDis w [(q, e')] := by
  intro i j p r hp hr
  match j, hr with
  | 0, hr => cases hr; exact h i 0 p (q, e) hp rfl
  | j + 1, hr => simp at hr
set_option maxRecDepth 100000 in
set_option maxHeartbeats 4000000 in
theorem law_0 {p : Program} {l : Launch} {e : Env} {s : State} {m : MethodId} {below : List Frame} {meth : Method} {c : Code} {b L : Nat} {xs : Nat → Int32} {D : va_G} {bx bm qo : Nat} {i : Int32} {H : Heap} {locs : List Loc} {ls : Array Slot} {cells slots : Nat} {Q : State → Prop} (F : zFx p s m meth c b L xs) (hi : 0 ≤ i.toInt ∧ i.toInt + 6 ≤ L) (hc : cells + 1 ≤ 1129) (hs : slots + 6 ≤ 17054) (B : zBe s b D bx bm qo i H locs ls) (KK : ∀ (H : Heap) (locs : List Loc) (ls : Array Slot), zBe s b D bx bm qo i H locs ls → W p l e room_1 s m #[Value.ref b] below meth c H locs (cells + 1) (slots + 6) Q (F0 m 1570 ls [])) : W p l e room_1 s m #[Value.ref b] below meth c H locs cells slots Q (F0 m 196 ls []) := by
  obtain ⟨C, hX, hbl, hr, hlocks, hL⟩ := id F
  obtain ⟨hx, hb, hml, hown, hts, hN, hZt⟩ := id C
  have hbA : ¬ zA s b := Nat.not_le.mpr hbl
  obtain ⟨wsx, wsm, tysx, tysm, cA, fo, Hx, Hm, hWx, hWm, hdis, hPo, hKo, hDo, hdx, hdm, hS, hbx, hbm, hl, hIv⟩ := B
  obtain ⟨f, rx, rm, Gx, Gm, q1, q2, hIv2, hE⟩ := step_0 (xs (i + 1).toNatClampNeg) (xs (i + 2).toNatClampNeg) (xs (i + 3).toNatClampNeg) (xs (i + 4).toNatClampNeg) (xs (i + 5).toNatClampNeg) hIv
  obtain ⟨vx0, hx0, -, -⟩ := gI_obj hIv.1.1 sx_0
  obtain ⟨vm0, hm0, -, -⟩ := gI_obj hIv.2.1.1 sm_0
  refine lv_aload_n hx hb dl_196 rfl (lv_at hl 3 rfl) ?_
  refine lv_aload_n hx hb dl_197 rfl (lv_at hl 4 rfl) ?_
  refine lv_iload hx hb dl_198 (lv_at hl 0 rfl) ?_
  refine lv_iconst (v := 1) hx hb dl_200 (by decide) ?_
  refine lv_iadd hx hb dl_201 ?_
  refine va_sld hx hb hX hbl hbA hS (vIk (k := 1) (by decide) (by decide) hi hL) dl_202 ?_
  refine lv_aload_n hx hb dl_203 rfl (lv_at hl 4 rfl) ?_
  refine lv_iload hx hb dl_204 (lv_at hl 0 rfl) ?_
  refine lv_iconst (v := 2) hx hb dl_206 (by decide) ?_
  refine lv_iadd hx hb dl_207 ?_
  refine va_sld hx hb hX hbl hbA hS (vIk (k := 2) (by decide) (by decide) hi hL) dl_208 ?_
  refine lv_aload_n hx hb dl_209 rfl (lv_at hl 4 rfl) ?_
  refine lv_iload hx hb dl_210 (lv_at hl 0 rfl) ?_
  refine lv_iconst (v := 3) hx hb dl_212 (by decide) ?_
  refine lv_iadd hx hb dl_213 ?_
  refine va_sld hx hb hX hbl hbA hS (vIk (k := 3) (by decide) (by decide) hi hL) dl_214 ?_
  refine lv_aload_n hx hb dl_215 rfl (lv_at hl 4 rfl) ?_
  refine lv_iload hx hb dl_216 (lv_at hl 0 rfl) ?_
  refine lv_iconst (v := 4) hx hb dl_218 (by decide) ?_
  refine lv_iadd hx hb dl_219 ?_
  refine va_sld hx hb hX hbl hbA hS (vIk (k := 4) (by decide) (by decide) hi hL) dl_220 ?_
  refine lv_aload_n hx hb dl_221 rfl (lv_at hl 4 rfl) ?_
  refine lv_iload hx hb dl_222 (lv_at hl 0 rfl) ?_
  refine lv_iconst (v := 5) hx hb dl_224 (by decide) ?_
  refine lv_iadd hx hb dl_225 ?_
  refine va_sld hx hb hX hbl hbA hS (vIk (k := 5) (by decide) (by decide) hi hL) dl_226 ?_
  refine z_law (rest := []) C (x := 113) (idx := 21) (by decide) (by decide +kernel) (List.mem_append_right _ (List.mem_of_getElem? (i := 377) (by decide +kernel))) dl_227 (by decide +kernel) (by decide +kernel) rfl rfl (by decide +kernel) (show cells ≤ 1129 by omega) (show slots ≤ 17054 by omega) q1 (Nat.le_of_ble_eq_true rfl) hWx hS hx0 hbx ⟨_, _, rfl, rfl, ⟨_, _, rfl, rfl, ⟨_, _, rfl, rfl, ⟨_, _, rfl, rfl, ⟨_, _, rfl, rfl, rfl⟩⟩⟩⟩⟩ rfl hl.1 (Nat.le_of_ble_eq_true rfl) rfl (fun v ws1 tys1 H1 locs1 hO hpre hW1 hD1 hk1 hS => ?_)
  obtain ⟨_, rfl, rfl⟩ := hO
  obtain ⟨hWm, hdis⟩ := hWm.other hdis hk1 hD1
  obtain ⟨hPo, hdx⟩ := z_other hPo hdx hk1 hD1
  have hWx := hW1
  have hbx := zpre_at hpre hbx
  refine lv_pop hx hb dl_230 rfl ?_
  refine lv_aload_n hx hb dl_231 rfl (lv_at hl 2 rfl) ?_
  refine lv_aload_n hx hb dl_232 rfl (lv_at hl 4 rfl) ?_
  refine lv_iload hx hb dl_233 (lv_at hl 0 rfl) ?_
  refine lv_iconst (v := 1) hx hb dl_235 (by decide) ?_
  refine lv_iadd hx hb dl_236 ?_
  refine va_sld hx hb hX hbl hbA hS (vIk (k := 1) (by decide) (by decide) hi hL) dl_237 ?_
  refine lv_aload_n hx hb dl_238 rfl (lv_at hl 4 rfl) ?_
  refine lv_iload hx hb dl_239 (lv_at hl 0 rfl) ?_
  refine lv_iconst (v := 2) hx hb dl_241 (by decide) ?_
  refine lv_iadd hx hb dl_242 ?_
  refine va_sld hx hb hX hbl hbA hS (vIk (k := 2) (by decide) (by decide) hi hL) dl_243 ?_
  refine lv_aload_n hx hb dl_244 rfl (lv_at hl 4 rfl) ?_
  refine lv_iload hx hb dl_245 (lv_at hl 0 rfl) ?_
  refine lv_iconst (v := 3) hx hb dl_247 (by decide) ?_
  refine lv_iadd hx hb dl_248 ?_
  refine va_sld hx hb hX hbl hbA hS (vIk (k := 3) (by decide) (by decide) hi hL) dl_249 ?_
  refine lv_aload_n hx hb dl_250 rfl (lv_at hl 4 rfl) ?_
  refine lv_iload hx hb dl_251 (lv_at hl 0 rfl) ?_
  refine lv_iconst (v := 4) hx hb dl_253 (by decide) ?_
  refine lv_iadd hx hb dl_254 ?_
  refine va_sld hx hb hX hbl hbA hS (vIk (k := 4) (by decide) (by decide) hi hL) dl_255 ?_
  refine lv_aload_n hx hb dl_256 rfl (lv_at hl 4 rfl) ?_
  refine lv_iload hx hb dl_257 (lv_at hl 0 rfl) ?_
  refine lv_iconst (v := 5) hx hb dl_259 (by decide) ?_
  refine lv_iadd hx hb dl_260 ?_
  refine va_sld hx hb hX hbl hbA hS (vIk (k := 5) (by decide) (by decide) hi hL) dl_261 ?_
  refine z_law (rest := []) C (x := 156) (idx := 25) (by decide) (by decide +kernel) (List.mem_append_right _ (List.mem_of_getElem? (i := 1300) (by decide +kernel))) dl_262 (by decide +kernel) (by decide +kernel) rfl rfl (by decide +kernel) (show cells ≤ 1129 by omega) (show slots ≤ 17054 by omega) q2 (Nat.le_of_ble_eq_true rfl) hWm hS hm0 hbm ⟨_, _, rfl, rfl, ⟨_, _, rfl, rfl, ⟨_, _, rfl, rfl, ⟨_, _, rfl, rfl, ⟨_, _, rfl, rfl, rfl⟩⟩⟩⟩⟩ rfl hl.1 (Nat.le_of_ble_eq_true rfl) rfl (fun v ws1 tys1 H1 locs1 hO hpre hW1 hD1 hk1 hS => ?_)
  obtain ⟨_, rfl, rfl⟩ := hO
  obtain ⟨hWx, hdis2⟩ := hWx.other hdis.symm hk1 hD1
  obtain ⟨hPo, hdm⟩ := z_other hPo hdm hk1 hD1
  have hbm := zpre_at hpre hbm
  refine lv_pop hx hb dl_265 rfl ?_
  refine lv_goto (tgt := 1570) hx hb dl_266 (by decide) ?_
  exact W.widen (by omega) (by omega) (KK _ _ _ ⟨_, _, _, _, cA, fo, Gx, Gm, hWx, hW1, hdis2.symm, hPo, hKo, hDo, hdx, hdm, hS, hbx, hbm, hl, hIv2⟩)
set_option maxRecDepth 100000 in
set_option maxHeartbeats 4000000 in
theorem law_1 {p : Program} {l : Launch} {e : Env} {s : State} {m : MethodId} {below : List Frame} {meth : Method} {c : Code} {b L : Nat} {xs : Nat → Int32} {D : va_G} {bx bm qo : Nat} {i : Int32} {H : Heap} {locs : List Loc} {ls : Array Slot} {cells slots : Nat} {Q : State → Prop} (F : zFx p s m meth c b L xs) (hi : 0 ≤ i.toInt ∧ i.toInt + 6 ≤ L) (hc : cells + 1 ≤ 1129) (hs : slots + 6 ≤ 17054) (B : zBe s b D bx bm qo i H locs ls) (KK : ∀ (H : Heap) (locs : List Loc) (ls : Array Slot), zBe s b D bx bm qo i H locs ls → W p l e room_1 s m #[Value.ref b] below meth c H locs (cells + 1) (slots + 6) Q (F0 m 1570 ls [])) : W p l e room_1 s m #[Value.ref b] below meth c H locs cells slots Q (F0 m 269 ls []) := by
  obtain ⟨C, hX, hbl, hr, hlocks, hL⟩ := id F
  obtain ⟨hx, hb, hml, hown, hts, hN, hZt⟩ := id C
  have hbA : ¬ zA s b := Nat.not_le.mpr hbl
  obtain ⟨wsx, wsm, tysx, tysm, cA, fo, Hx, Hm, hWx, hWm, hdis, hPo, hKo, hDo, hdx, hdm, hS, hbx, hbm, hl, hIv⟩ := B
  obtain ⟨f, rx, rm, Gx, Gm, q1, q2, hIv2, hE⟩ := step_1 (xs (i + 1).toNatClampNeg) hIv
  obtain ⟨vx0, hx0, -, -⟩ := gI_obj hIv.1.1 sx_0
  obtain ⟨vm0, hm0, -, -⟩ := gI_obj hIv.2.1.1 sm_0
  refine lv_aload_n hx hb dl_269 rfl (lv_at hl 3 rfl) ?_
  refine lv_aload_n hx hb dl_270 rfl (lv_at hl 4 rfl) ?_
  refine lv_iload hx hb dl_271 (lv_at hl 0 rfl) ?_
  refine lv_iconst (v := 1) hx hb dl_273 (by decide) ?_
  refine lv_iadd hx hb dl_274 ?_
  refine va_sld hx hb hX hbl hbA hS (vIk (k := 1) (by decide) (by decide) hi hL) dl_275 ?_
  refine z_law (rest := []) C (x := 114) (idx := 26) (by decide) (by decide +kernel) (List.mem_append_right _ (List.mem_of_getElem? (i := 389) (by decide +kernel))) dl_276 (by decide +kernel) (by decide +kernel) rfl rfl (by decide +kernel) (show cells ≤ 1129 by omega) (show slots ≤ 17054 by omega) q1 (Nat.le_of_ble_eq_true rfl) hWx hS hx0 hbx ⟨_, _, rfl, rfl, rfl⟩ rfl hl.1 (Nat.le_of_ble_eq_true rfl) rfl (fun v ws1 tys1 H1 locs1 hO hpre hW1 hD1 hk1 hS => ?_)
  obtain ⟨_, rfl, rfl⟩ := hO
  obtain ⟨hWm, hdis⟩ := hWm.other hdis hk1 hD1
  obtain ⟨hPo, hdx⟩ := z_other hPo hdx hk1 hD1
  have hWx := hW1
  have hbx := zpre_at hpre hbx
  refine lv_pop hx hb dl_279 rfl ?_
  refine lv_aload_n hx hb dl_280 rfl (lv_at hl 2 rfl) ?_
  refine lv_aload_n hx hb dl_281 rfl (lv_at hl 4 rfl) ?_
  refine lv_iload hx hb dl_282 (lv_at hl 0 rfl) ?_
  refine lv_iconst (v := 1) hx hb dl_284 (by decide) ?_
  refine lv_iadd hx hb dl_285 ?_
  refine va_sld hx hb hX hbl hbA hS (vIk (k := 1) (by decide) (by decide) hi hL) dl_286 ?_
  refine z_law (rest := []) C (x := 176) (idx := 30) (by decide) (by decide +kernel) (List.mem_append_right _ (List.mem_of_getElem? (i := 1304) (by decide +kernel))) dl_287 (by decide +kernel) (by decide +kernel) rfl rfl (by decide +kernel) (show cells ≤ 1129 by omega) (show slots ≤ 17054 by omega) q2 (Nat.le_of_ble_eq_true rfl) hWm hS hm0 hbm ⟨_, _, rfl, rfl, rfl⟩ rfl hl.1 (Nat.le_of_ble_eq_true rfl) rfl (fun v ws1 tys1 H1 locs1 hO hpre hW1 hD1 hk1 hS => ?_)
  obtain ⟨_, rfl, rfl⟩ := hO
  obtain ⟨hWx, hdis2⟩ := hWx.other hdis.symm hk1 hD1
  obtain ⟨hPo, hdm⟩ := z_other hPo hdm hk1 hD1
  have hbm := zpre_at hpre hbm
  refine lv_pop hx hb dl_290 rfl ?_
  refine lv_goto (tgt := 1570) hx hb dl_291 (by decide) ?_
  exact W.widen (by omega) (by omega) (KK _ _ _ ⟨_, _, _, _, cA, fo, Gx, Gm, hWx, hW1, hdis2.symm, hPo, hKo, hDo, hdx, hdm, hS, hbx, hbm, hl, hIv2⟩)
set_option maxRecDepth 100000 in
set_option maxHeartbeats 4000000 in
theorem law_2 {p : Program} {l : Launch} {e : Env} {s : State} {m : MethodId} {below : List Frame} {meth : Method} {c : Code} {b L : Nat} {xs : Nat → Int32} {D : va_G} {bx bm qo : Nat} {i : Int32} {H : Heap} {locs : List Loc} {ls : Array Slot} {cells slots : Nat} {Q : State → Prop} (F : zFx p s m meth c b L xs) (hi : 0 ≤ i.toInt ∧ i.toInt + 6 ≤ L) (hc : cells + 1 ≤ 1129) (hs : slots + 6 ≤ 17054) (B : zBe s b D bx bm qo i H locs ls) (KK : ∀ (H : Heap) (locs : List Loc) (ls : Array Slot), zBe s b D bx bm qo i H locs ls → W p l e room_1 s m #[Value.ref b] below meth c H locs (cells + 1) (slots + 6) Q (F0 m 1570 ls [])) : W p l e room_1 s m #[Value.ref b] below meth c H locs cells slots Q (F0 m 294 ls []) := by
  obtain ⟨C, hX, hbl, hr, hlocks, hL⟩ := id F
  obtain ⟨hx, hb, hml, hown, hts, hN, hZt⟩ := id C
  have hbA : ¬ zA s b := Nat.not_le.mpr hbl
  obtain ⟨wsx, wsm, tysx, tysm, cA, fo, Hx, Hm, hWx, hWm, hdis, hPo, hKo, hDo, hdx, hdm, hS, hbx, hbm, hl, hIv⟩ := B
  obtain ⟨f, rx, rm, Gx, Gm, q1, q2, hIv2, hE⟩ := step_2 (xs (i + 1).toNatClampNeg) hIv
  obtain ⟨vx0, hx0, -, -⟩ := gI_obj hIv.1.1 sx_0
  obtain ⟨vm0, hm0, -, -⟩ := gI_obj hIv.2.1.1 sm_0
  refine lv_aload_n hx hb dl_294 rfl (lv_at hl 3 rfl) ?_
  refine lv_aload_n hx hb dl_295 rfl (lv_at hl 4 rfl) ?_
  refine lv_iload hx hb dl_296 (lv_at hl 0 rfl) ?_
  refine lv_iconst (v := 1) hx hb dl_298 (by decide) ?_
  refine lv_iadd hx hb dl_299 ?_
  refine va_sld hx hb hX hbl hbA hS (vIk (k := 1) (by decide) (by decide) hi hL) dl_300 ?_
  refine z_law (rest := []) C (x := 115) (idx := 31) (by decide) (by decide +kernel) (List.mem_append_right _ (List.mem_of_getElem? (i := 686) (by decide +kernel))) dl_301 (by decide +kernel) (by decide +kernel) rfl rfl (by decide +kernel) (show cells ≤ 1129 by omega) (show slots ≤ 17054 by omega) q1 (Nat.le_of_ble_eq_true rfl) hWx hS hx0 hbx ⟨_, _, rfl, rfl, rfl⟩ rfl hl.1 (Nat.le_of_ble_eq_true rfl) rfl (fun v ws1 tys1 H1 locs1 hO hpre hW1 hD1 hk1 hS => ?_)
  obtain ⟨_, rfl, rfl⟩ := hO
  obtain ⟨hWm, hdis⟩ := hWm.other hdis hk1 hD1
  obtain ⟨hPo, hdx⟩ := z_other hPo hdx hk1 hD1
  have hWx := hW1
  have hbx := zpre_at hpre hbx
  refine lv_pop hx hb dl_304 rfl ?_
  refine lv_aload_n hx hb dl_305 rfl (lv_at hl 2 rfl) ?_
  refine lv_aload_n hx hb dl_306 rfl (lv_at hl 4 rfl) ?_
  refine lv_iload hx hb dl_307 (lv_at hl 0 rfl) ?_
  refine lv_iconst (v := 1) hx hb dl_309 (by decide) ?_
  refine lv_iadd hx hb dl_310 ?_
  refine va_sld hx hb hX hbl hbA hS (vIk (k := 1) (by decide) (by decide) hi hL) dl_311 ?_
  refine z_law (rest := []) C (x := 177) (idx := 34) (by decide) (by decide +kernel) (List.mem_append_right _ (List.mem_of_getElem? (i := 1377) (by decide +kernel))) dl_312 (by decide +kernel) (by decide +kernel) rfl rfl (by decide +kernel) (show cells ≤ 1129 by omega) (show slots ≤ 17054 by omega) q2 (Nat.le_of_ble_eq_true rfl) hWm hS hm0 hbm ⟨_, _, rfl, rfl, rfl⟩ rfl hl.1 (Nat.le_of_ble_eq_true rfl) rfl (fun v ws1 tys1 H1 locs1 hO hpre hW1 hD1 hk1 hS => ?_)
  obtain ⟨_, rfl, rfl⟩ := hO
  obtain ⟨hWx, hdis2⟩ := hWx.other hdis.symm hk1 hD1
  obtain ⟨hPo, hdm⟩ := z_other hPo hdm hk1 hD1
  have hbm := zpre_at hpre hbm
  refine lv_pop hx hb dl_315 rfl ?_
  refine lv_goto (tgt := 1570) hx hb dl_316 (by decide) ?_
  exact W.widen (by omega) (by omega) (KK _ _ _ ⟨_, _, _, _, cA, fo, Gx, Gm, hWx, hW1, hdis2.symm, hPo, hKo, hDo, hdx, hdm, hS, hbx, hbm, hl, hIv2⟩)
set_option maxRecDepth 100000 in
set_option maxHeartbeats 4000000 in
theorem law_3 {p : Program} {l : Launch} {e : Env} {s : State} {m : MethodId} {below : List Frame} {meth : Method} {c : Code} {b L : Nat} {xs : Nat → Int32} {D : va_G} {bx bm qo : Nat} {i : Int32} {H : Heap} {locs : List Loc} {ls : Array Slot} {cells slots : Nat} {Q : State → Prop} (F : zFx p s m meth c b L xs) (hi : 0 ≤ i.toInt ∧ i.toInt + 6 ≤ L) (hc : cells + 1 ≤ 1129) (hs : slots + 6 ≤ 17054) (B : zBe s b D bx bm qo i H locs ls) (KK : ∀ (H : Heap) (locs : List Loc) (ls : Array Slot), zBe s b D bx bm qo i H locs ls → W p l e room_1 s m #[Value.ref b] below meth c H locs (cells + 1) (slots + 6) Q (F0 m 1570 ls [])) : W p l e room_1 s m #[Value.ref b] below meth c H locs cells slots Q (F0 m 319 ls []) := by
  obtain ⟨C, hX, hbl, hr, hlocks, hL⟩ := id F
  obtain ⟨hx, hb, hml, hown, hts, hN, hZt⟩ := id C
  have hbA : ¬ zA s b := Nat.not_le.mpr hbl
  obtain ⟨wsx, wsm, tysx, tysm, cA, fo, Hx, Hm, hWx, hWm, hdis, hPo, hKo, hDo, hdx, hdm, hS, hbx, hbm, hl, hIv⟩ := B
  obtain ⟨f, rx, rm, Gx, Gm, q1, q2, hIv2, hE⟩ := step_3 (xs (i + 1).toNatClampNeg) hIv
  obtain ⟨vx0, hx0, -, -⟩ := gI_obj hIv.1.1 sx_0
  obtain ⟨vm0, hm0, -, -⟩ := gI_obj hIv.2.1.1 sm_0
  refine lv_aload_n hx hb dl_319 rfl (lv_at hl 3 rfl) ?_
  refine lv_aload_n hx hb dl_320 rfl (lv_at hl 4 rfl) ?_
  refine lv_iload hx hb dl_321 (lv_at hl 0 rfl) ?_
  refine lv_iconst (v := 1) hx hb dl_323 (by decide) ?_
  refine lv_iadd hx hb dl_324 ?_
  refine va_sld hx hb hX hbl hbA hS (vIk (k := 1) (by decide) (by decide) hi hL) dl_325 ?_
  refine z_law (rest := []) C (x := 117) (idx := 35) (by decide) (by decide +kernel) (List.mem_append_right _ (List.mem_of_getElem? (i := 690) (by decide +kernel))) dl_326 (by decide +kernel) (by decide +kernel) rfl rfl (by decide +kernel) (show cells ≤ 1129 by omega) (show slots ≤ 17054 by omega) q1 (Nat.le_of_ble_eq_true rfl) hWx hS hx0 hbx ⟨_, _, rfl, rfl, rfl⟩ rfl hl.1 (Nat.le_of_ble_eq_true rfl) rfl (fun v ws1 tys1 H1 locs1 hO hpre hW1 hD1 hk1 hS => ?_)
  obtain ⟨_, rfl, rfl⟩ := hO
  obtain ⟨hWm, hdis⟩ := hWm.other hdis hk1 hD1
  obtain ⟨hPo, hdx⟩ := z_other hPo hdx hk1 hD1
  have hWx := hW1
  have hbx := zpre_at hpre hbx
  refine lv_pop hx hb dl_329 rfl ?_
  refine lv_aload_n hx hb dl_330 rfl (lv_at hl 2 rfl) ?_
  refine lv_aload_n hx hb dl_331 rfl (lv_at hl 4 rfl) ?_
  refine lv_iload hx hb dl_332 (lv_at hl 0 rfl) ?_
  refine lv_iconst (v := 1) hx hb dl_334 (by decide) ?_
  refine lv_iadd hx hb dl_335 ?_
  refine va_sld hx hb hX hbl hbA hS (vIk (k := 1) (by decide) (by decide) hi hL) dl_336 ?_
  refine z_law (rest := []) C (x := 178) (idx := 38) (by decide) (by decide +kernel) (List.mem_append_right _ (List.mem_of_getElem? (i := 1381) (by decide +kernel))) dl_337 (by decide +kernel) (by decide +kernel) rfl rfl (by decide +kernel) (show cells ≤ 1129 by omega) (show slots ≤ 17054 by omega) q2 (Nat.le_of_ble_eq_true rfl) hWm hS hm0 hbm ⟨_, _, rfl, rfl, rfl⟩ rfl hl.1 (Nat.le_of_ble_eq_true rfl) rfl (fun v ws1 tys1 H1 locs1 hO hpre hW1 hD1 hk1 hS => ?_)
  obtain ⟨_, rfl, rfl⟩ := hO
  obtain ⟨hWx, hdis2⟩ := hWx.other hdis.symm hk1 hD1
  obtain ⟨hPo, hdm⟩ := z_other hPo hdm hk1 hD1
  have hbm := zpre_at hpre hbm
  refine lv_pop hx hb dl_340 rfl ?_
  refine lv_goto (tgt := 1570) hx hb dl_341 (by decide) ?_
  exact W.widen (by omega) (by omega) (KK _ _ _ ⟨_, _, _, _, cA, fo, Gx, Gm, hWx, hW1, hdis2.symm, hPo, hKo, hDo, hdx, hdm, hS, hbx, hbm, hl, hIv2⟩)
set_option maxRecDepth 100000 in
set_option maxHeartbeats 4000000 in
theorem law_4 {p : Program} {l : Launch} {e : Env} {s : State} {m : MethodId} {below : List Frame} {meth : Method} {c : Code} {b L : Nat} {xs : Nat → Int32} {D : va_G} {bx bm qo : Nat} {i : Int32} {H : Heap} {locs : List Loc} {ls : Array Slot} {cells slots : Nat} {Q : State → Prop} (F : zFx p s m meth c b L xs) (hi : 0 ≤ i.toInt ∧ i.toInt + 6 ≤ L) (hc : cells + 1 ≤ 1129) (hs : slots + 6 ≤ 17054) (B : zBe s b D bx bm qo i H locs ls) (KK : ∀ (H : Heap) (locs : List Loc) (ls : Array Slot), zBe s b D bx bm qo i H locs ls → W p l e room_1 s m #[Value.ref b] below meth c H locs (cells + 1) (slots + 6) Q (F0 m 1570 ls [])) : W p l e room_1 s m #[Value.ref b] below meth c H locs cells slots Q (F0 m 344 ls []) := by
  obtain ⟨C, hX, hbl, hr, hlocks, hL⟩ := id F
  obtain ⟨hx, hb, hml, hown, hts, hN, hZt⟩ := id C
  have hbA : ¬ zA s b := Nat.not_le.mpr hbl
  obtain ⟨wsx, wsm, tysx, tysm, cA, fo, Hx, Hm, hWx, hWm, hdis, hPo, hKo, hDo, hdx, hdm, hS, hbx, hbm, hl, hIv⟩ := B
  obtain ⟨f, rx, rm, Gx, Gm, q1, q2, hIv2, hE⟩ := step_4 (xs (i + 1).toNatClampNeg) (xs (i + 2).toNatClampNeg) hIv
  obtain ⟨vx0, hx0, -, -⟩ := gI_obj hIv.1.1 sx_0
  obtain ⟨vm0, hm0, -, -⟩ := gI_obj hIv.2.1.1 sm_0
  refine lv_aload_n hx hb dl_344 rfl (lv_at hl 3 rfl) ?_
  refine lv_aload_n hx hb dl_345 rfl (lv_at hl 4 rfl) ?_
  refine lv_iload hx hb dl_346 (lv_at hl 0 rfl) ?_
  refine lv_iconst (v := 1) hx hb dl_348 (by decide) ?_
  refine lv_iadd hx hb dl_349 ?_
  refine va_sld hx hb hX hbl hbA hS (vIk (k := 1) (by decide) (by decide) hi hL) dl_350 ?_
  refine lv_aload_n hx hb dl_351 rfl (lv_at hl 4 rfl) ?_
  refine lv_iload hx hb dl_352 (lv_at hl 0 rfl) ?_
  refine lv_iconst (v := 2) hx hb dl_354 (by decide) ?_
  refine lv_iadd hx hb dl_355 ?_
  refine va_sld hx hb hX hbl hbA hS (vIk (k := 2) (by decide) (by decide) hi hL) dl_356 ?_
  refine z_law (rest := []) C (x := 118) (idx := 39) (by decide) (by decide +kernel) (List.mem_append_right _ (List.mem_of_getElem? (i := 694) (by decide +kernel))) dl_357 (by decide +kernel) (by decide +kernel) rfl rfl (by decide +kernel) (show cells ≤ 1129 by omega) (show slots ≤ 17054 by omega) q1 (Nat.le_of_ble_eq_true rfl) hWx hS hx0 hbx ⟨_, _, rfl, rfl, ⟨_, _, rfl, rfl, rfl⟩⟩ rfl hl.1 (Nat.le_of_ble_eq_true rfl) rfl (fun v ws1 tys1 H1 locs1 hO hpre hW1 hD1 hk1 hS => ?_)
  obtain ⟨_, rfl, rfl⟩ := hO
  obtain ⟨hWm, hdis⟩ := hWm.other hdis hk1 hD1
  obtain ⟨hPo, hdx⟩ := z_other hPo hdx hk1 hD1
  have hWx := hW1
  have hbx := zpre_at hpre hbx
  refine lv_pop hx hb dl_360 rfl ?_
  refine lv_aload_n hx hb dl_361 rfl (lv_at hl 2 rfl) ?_
  refine lv_aload_n hx hb dl_362 rfl (lv_at hl 4 rfl) ?_
  refine lv_iload hx hb dl_363 (lv_at hl 0 rfl) ?_
  refine lv_iconst (v := 1) hx hb dl_365 (by decide) ?_
  refine lv_iadd hx hb dl_366 ?_
  refine va_sld hx hb hX hbl hbA hS (vIk (k := 1) (by decide) (by decide) hi hL) dl_367 ?_
  refine lv_aload_n hx hb dl_368 rfl (lv_at hl 4 rfl) ?_
  refine lv_iload hx hb dl_369 (lv_at hl 0 rfl) ?_
  refine lv_iconst (v := 2) hx hb dl_371 (by decide) ?_
  refine lv_iadd hx hb dl_372 ?_
  refine va_sld hx hb hX hbl hbA hS (vIk (k := 2) (by decide) (by decide) hi hL) dl_373 ?_
  refine z_law (rest := []) C (x := 180) (idx := 42) (by decide) (by decide +kernel) (List.mem_append_right _ (List.mem_of_getElem? (i := 1385) (by decide +kernel))) dl_374 (by decide +kernel) (by decide +kernel) rfl rfl (by decide +kernel) (show cells ≤ 1129 by omega) (show slots ≤ 17054 by omega) q2 (Nat.le_of_ble_eq_true rfl) hWm hS hm0 hbm ⟨_, _, rfl, rfl, ⟨_, _, rfl, rfl, rfl⟩⟩ rfl hl.1 (Nat.le_of_ble_eq_true rfl) rfl (fun v ws1 tys1 H1 locs1 hO hpre hW1 hD1 hk1 hS => ?_)
  obtain ⟨_, rfl, rfl⟩ := hO
  obtain ⟨hWx, hdis2⟩ := hWx.other hdis.symm hk1 hD1
  obtain ⟨hPo, hdm⟩ := z_other hPo hdm hk1 hD1
  have hbm := zpre_at hpre hbm
  refine lv_pop hx hb dl_377 rfl ?_
  refine lv_goto (tgt := 1570) hx hb dl_378 (by decide) ?_
  exact W.widen (by omega) (by omega) (KK _ _ _ ⟨_, _, _, _, cA, fo, Gx, Gm, hWx, hW1, hdis2.symm, hPo, hKo, hDo, hdx, hdm, hS, hbx, hbm, hl, hIv2⟩)
set_option maxRecDepth 100000 in
set_option maxHeartbeats 4000000 in
theorem law_6 {p : Program} {l : Launch} {e : Env} {s : State} {m : MethodId} {below : List Frame} {meth : Method} {c : Code} {b L : Nat} {xs : Nat → Int32} {D : va_G} {bx bm qo : Nat} {i : Int32} {H : Heap} {locs : List Loc} {ls : Array Slot} {cells slots : Nat} {Q : State → Prop} (F : zFx p s m meth c b L xs) (hi : 0 ≤ i.toInt ∧ i.toInt + 6 ≤ L) (hc : cells + 1 ≤ 1129) (hs : slots + 6 ≤ 17054) (B : zBe s b D bx bm qo i H locs ls) (KK : ∀ (H : Heap) (locs : List Loc) (ls : Array Slot), zBe s b D bx bm qo i H locs ls → W p l e room_1 s m #[Value.ref b] below meth c H locs (cells + 1) (slots + 6) Q (F0 m 1570 ls [])) : W p l e room_1 s m #[Value.ref b] below meth c H locs cells slots Q (F0 m 449 ls []) := by
  obtain ⟨C, hX, hbl, hr, hlocks, hL⟩ := id F
  obtain ⟨hx, hb, hml, hown, hts, hN, hZt⟩ := id C
  have hbA : ¬ zA s b := Nat.not_le.mpr hbl
  obtain ⟨wsx, wsm, tysx, tysm, cA, fo, Hx, Hm, hWx, hWm, hdis, hPo, hKo, hDo, hdx, hdm, hS, hbx, hbm, hl, hIv⟩ := B
  obtain ⟨f, rx, rm, Gx, Gm, q1, q2, hIv2, hE⟩ := step_6 (xs (i + 1).toNatClampNeg) (xs (i + 2).toNatClampNeg) (xs (i + 3).toNatClampNeg) hIv
  obtain ⟨vx0, hx0, -, -⟩ := gI_obj hIv.1.1 sx_0
  obtain ⟨vm0, hm0, -, -⟩ := gI_obj hIv.2.1.1 sm_0
  refine lv_aload_n hx hb dl_449 rfl (lv_at hl 3 rfl) ?_
  refine lv_aload_n hx hb dl_450 rfl (lv_at hl 4 rfl) ?_
  refine lv_iload hx hb dl_451 (lv_at hl 0 rfl) ?_
  refine lv_iconst (v := 1) hx hb dl_453 (by decide) ?_
  refine lv_iadd hx hb dl_454 ?_
  refine va_sld hx hb hX hbl hbA hS (vIk (k := 1) (by decide) (by decide) hi hL) dl_455 ?_
  refine lv_aload_n hx hb dl_456 rfl (lv_at hl 4 rfl) ?_
  refine lv_iload hx hb dl_457 (lv_at hl 0 rfl) ?_
  refine lv_iconst (v := 2) hx hb dl_459 (by decide) ?_
  refine lv_iadd hx hb dl_460 ?_
  refine va_sld hx hb hX hbl hbA hS (vIk (k := 2) (by decide) (by decide) hi hL) dl_461 ?_
  refine lv_aload_n hx hb dl_462 rfl (lv_at hl 4 rfl) ?_
  refine lv_iload hx hb dl_463 (lv_at hl 0 rfl) ?_
  refine lv_iconst (v := 3) hx hb dl_465 (by decide) ?_
  refine lv_iadd hx hb dl_466 ?_
  refine va_sld hx hb hX hbl hbA hS (vIk (k := 3) (by decide) (by decide) hi hL) dl_467 ?_
  refine z_law (rest := []) C (x := 120) (idx := 53) (by decide) (by decide +kernel) (List.mem_append_right _ (List.mem_of_getElem? (i := 700) (by decide +kernel))) dl_468 (by decide +kernel) (by decide +kernel) rfl rfl (by decide +kernel) (show cells ≤ 1129 by omega) (show slots ≤ 17054 by omega) q1 (Nat.le_of_ble_eq_true rfl) hWx hS hx0 hbx ⟨_, _, rfl, rfl, ⟨_, _, rfl, rfl, ⟨_, _, rfl, rfl, rfl⟩⟩⟩ rfl hl.1 (Nat.le_of_ble_eq_true rfl) rfl (fun v ws1 tys1 H1 locs1 hO hpre hW1 hD1 hk1 hS => ?_)
  obtain ⟨_, rfl, rfl⟩ := hO
  obtain ⟨hWm, hdis⟩ := hWm.other hdis hk1 hD1
  obtain ⟨hPo, hdx⟩ := z_other hPo hdx hk1 hD1
  have hWx := hW1
  have hbx := zpre_at hpre hbx
  refine lv_pop hx hb dl_471 rfl ?_
  refine lv_aload_n hx hb dl_472 rfl (lv_at hl 2 rfl) ?_
  refine lv_aload_n hx hb dl_473 rfl (lv_at hl 4 rfl) ?_
  refine lv_iload hx hb dl_474 (lv_at hl 0 rfl) ?_
  refine lv_iconst (v := 1) hx hb dl_476 (by decide) ?_
  refine lv_iadd hx hb dl_477 ?_
  refine va_sld hx hb hX hbl hbA hS (vIk (k := 1) (by decide) (by decide) hi hL) dl_478 ?_
  refine lv_aload_n hx hb dl_479 rfl (lv_at hl 4 rfl) ?_
  refine lv_iload hx hb dl_480 (lv_at hl 0 rfl) ?_
  refine lv_iconst (v := 2) hx hb dl_482 (by decide) ?_
  refine lv_iadd hx hb dl_483 ?_
  refine va_sld hx hb hX hbl hbA hS (vIk (k := 2) (by decide) (by decide) hi hL) dl_484 ?_
  refine lv_aload_n hx hb dl_485 rfl (lv_at hl 4 rfl) ?_
  refine lv_iload hx hb dl_486 (lv_at hl 0 rfl) ?_
  refine lv_iconst (v := 3) hx hb dl_488 (by decide) ?_
  refine lv_iadd hx hb dl_489 ?_
  refine va_sld hx hb hX hbl hbA hS (vIk (k := 3) (by decide) (by decide) hi hL) dl_490 ?_
  refine z_law (rest := []) C (x := 209) (idx := 57) (by decide) (by decide +kernel) (List.mem_append_right _ (List.mem_of_getElem? (i := 1485) (by decide +kernel))) dl_491 (by decide +kernel) (by decide +kernel) rfl rfl (by decide +kernel) (show cells ≤ 1129 by omega) (show slots ≤ 17054 by omega) q2 (Nat.le_of_ble_eq_true rfl) hWm hS hm0 hbm ⟨_, _, rfl, rfl, ⟨_, _, rfl, rfl, ⟨_, _, rfl, rfl, rfl⟩⟩⟩ rfl hl.1 (Nat.le_of_ble_eq_true rfl) rfl (fun v ws1 tys1 H1 locs1 hO hpre hW1 hD1 hk1 hS => ?_)
  obtain ⟨_, rfl, rfl⟩ := hO
  obtain ⟨hWx, hdis2⟩ := hWx.other hdis.symm hk1 hD1
  obtain ⟨hPo, hdm⟩ := z_other hPo hdm hk1 hD1
  have hbm := zpre_at hpre hbm
  refine lv_pop hx hb dl_494 rfl ?_
  refine lv_goto (tgt := 1570) hx hb dl_495 (by decide) ?_
  exact W.widen (by omega) (by omega) (KK _ _ _ ⟨_, _, _, _, cA, fo, Gx, Gm, hWx, hW1, hdis2.symm, hPo, hKo, hDo, hdx, hdm, hS, hbx, hbm, hl, hIv2⟩)
set_option maxRecDepth 100000 in
set_option maxHeartbeats 4000000 in
theorem law_7 {p : Program} {l : Launch} {e : Env} {s : State} {m : MethodId} {below : List Frame} {meth : Method} {c : Code} {b L : Nat} {xs : Nat → Int32} {D : va_G} {bx bm qo : Nat} {i : Int32} {H : Heap} {locs : List Loc} {ls : Array Slot} {cells slots : Nat} {Q : State → Prop} (F : zFx p s m meth c b L xs) (hi : 0 ≤ i.toInt ∧ i.toInt + 6 ≤ L) (hc : cells + 1 ≤ 1129) (hs : slots + 6 ≤ 17054) (B : zBe s b D bx bm qo i H locs ls) (KK : ∀ (H : Heap) (locs : List Loc) (ls : Array Slot), zBe s b D bx bm qo i H locs ls → W p l e room_1 s m #[Value.ref b] below meth c H locs (cells + 1) (slots + 6) Q (F0 m 1570 ls [])) : W p l e room_1 s m #[Value.ref b] below meth c H locs cells slots Q (F0 m 498 ls []) := by
  obtain ⟨C, hX, hbl, hr, hlocks, hL⟩ := id F
  obtain ⟨hx, hb, hml, hown, hts, hN, hZt⟩ := id C
  have hbA : ¬ zA s b := Nat.not_le.mpr hbl
  obtain ⟨wsx, wsm, tysx, tysm, cA, fo, Hx, Hm, hWx, hWm, hdis, hPo, hKo, hDo, hdx, hdm, hS, hbx, hbm, hl, hIv⟩ := B
  obtain ⟨f, rx, rm, Gx, Gm, q1, q2, hIv2, hE⟩ := step_7 (xs (i + 1).toNatClampNeg) (xs (i + 2).toNatClampNeg) (xs (i + 3).toNatClampNeg) hIv
  obtain ⟨vx0, hx0, -, -⟩ := gI_obj hIv.1.1 sx_0
  obtain ⟨vm0, hm0, -, -⟩ := gI_obj hIv.2.1.1 sm_0
  refine lv_aload_n hx hb dl_498 rfl (lv_at hl 3 rfl) ?_
  refine lv_aload_n hx hb dl_499 rfl (lv_at hl 4 rfl) ?_
  refine lv_iload hx hb dl_500 (lv_at hl 0 rfl) ?_
  refine lv_iconst (v := 1) hx hb dl_502 (by decide) ?_
  refine lv_iadd hx hb dl_503 ?_
  refine va_sld hx hb hX hbl hbA hS (vIk (k := 1) (by decide) (by decide) hi hL) dl_504 ?_
  refine lv_aload_n hx hb dl_505 rfl (lv_at hl 4 rfl) ?_
  refine lv_iload hx hb dl_506 (lv_at hl 0 rfl) ?_
  refine lv_iconst (v := 2) hx hb dl_508 (by decide) ?_
  refine lv_iadd hx hb dl_509 ?_
  refine va_sld hx hb hX hbl hbA hS (vIk (k := 2) (by decide) (by decide) hi hL) dl_510 ?_
  refine lv_aload_n hx hb dl_511 rfl (lv_at hl 4 rfl) ?_
  refine lv_iload hx hb dl_512 (lv_at hl 0 rfl) ?_
  refine lv_iconst (v := 3) hx hb dl_514 (by decide) ?_
  refine lv_iadd hx hb dl_515 ?_
  refine va_sld hx hb hX hbl hbA hS (vIk (k := 3) (by decide) (by decide) hi hL) dl_516 ?_
  refine z_law (rest := []) C (x := 121) (idx := 58) (by decide) (by decide +kernel) (List.mem_append_right _ (List.mem_of_getElem? (i := 740) (by decide +kernel))) dl_517 (by decide +kernel) (by decide +kernel) rfl rfl (by decide +kernel) (show cells ≤ 1129 by omega) (show slots ≤ 17054 by omega) q1 (Nat.le_of_ble_eq_true rfl) hWx hS hx0 hbx ⟨_, _, rfl, rfl, ⟨_, _, rfl, rfl, ⟨_, _, rfl, rfl, rfl⟩⟩⟩ rfl hl.1 (Nat.le_of_ble_eq_true rfl) rfl (fun v ws1 tys1 H1 locs1 hO hpre hW1 hD1 hk1 hS => ?_)
  obtain ⟨_, rfl, rfl⟩ := hO
  obtain ⟨hWm, hdis⟩ := hWm.other hdis hk1 hD1
  obtain ⟨hPo, hdx⟩ := z_other hPo hdx hk1 hD1
  have hWx := hW1
  have hbx := zpre_at hpre hbx
  refine lv_pop hx hb dl_520 rfl ?_
  refine lv_aload_n hx hb dl_521 rfl (lv_at hl 2 rfl) ?_
  refine lv_aload_n hx hb dl_522 rfl (lv_at hl 4 rfl) ?_
  refine lv_iload hx hb dl_523 (lv_at hl 0 rfl) ?_
  refine lv_iconst (v := 1) hx hb dl_525 (by decide) ?_
  refine lv_iadd hx hb dl_526 ?_
  refine va_sld hx hb hX hbl hbA hS (vIk (k := 1) (by decide) (by decide) hi hL) dl_527 ?_
  refine lv_aload_n hx hb dl_528 rfl (lv_at hl 4 rfl) ?_
  refine lv_iload hx hb dl_529 (lv_at hl 0 rfl) ?_
  refine lv_iconst (v := 2) hx hb dl_531 (by decide) ?_
  refine lv_iadd hx hb dl_532 ?_
  refine va_sld hx hb hX hbl hbA hS (vIk (k := 2) (by decide) (by decide) hi hL) dl_533 ?_
  refine lv_aload_n hx hb dl_534 rfl (lv_at hl 4 rfl) ?_
  refine lv_iload hx hb dl_535 (lv_at hl 0 rfl) ?_
  refine lv_iconst (v := 3) hx hb dl_537 (by decide) ?_
  refine lv_iadd hx hb dl_538 ?_
  refine va_sld hx hb hX hbl hbA hS (vIk (k := 3) (by decide) (by decide) hi hL) dl_539 ?_
  refine z_law (rest := []) C (x := 210) (idx := 61) (by decide) (by decide +kernel) (List.mem_append_right _ (List.mem_of_getElem? (i := 1507) (by decide +kernel))) dl_540 (by decide +kernel) (by decide +kernel) rfl rfl (by decide +kernel) (show cells ≤ 1129 by omega) (show slots ≤ 17054 by omega) q2 (Nat.le_of_ble_eq_true rfl) hWm hS hm0 hbm ⟨_, _, rfl, rfl, ⟨_, _, rfl, rfl, ⟨_, _, rfl, rfl, rfl⟩⟩⟩ rfl hl.1 (Nat.le_of_ble_eq_true rfl) rfl (fun v ws1 tys1 H1 locs1 hO hpre hW1 hD1 hk1 hS => ?_)
  obtain ⟨_, rfl, rfl⟩ := hO
  obtain ⟨hWx, hdis2⟩ := hWx.other hdis.symm hk1 hD1
  obtain ⟨hPo, hdm⟩ := z_other hPo hdm hk1 hD1
  have hbm := zpre_at hpre hbm
  refine lv_pop hx hb dl_543 rfl ?_
  refine lv_goto (tgt := 1570) hx hb dl_544 (by decide) ?_
  exact W.widen (by omega) (by omega) (KK _ _ _ ⟨_, _, _, _, cA, fo, Gx, Gm, hWx, hW1, hdis2.symm, hPo, hKo, hDo, hdx, hdm, hS, hbx, hbm, hl, hIv2⟩)
set_option maxRecDepth 100000 in
set_option maxHeartbeats 4000000 in
theorem law_8 {p : Program} {l : Launch} {e : Env} {s : State} {m : MethodId} {below : List Frame} {meth : Method} {c : Code} {b L : Nat} {xs : Nat → Int32} {D : va_G} {bx bm qo : Nat} {i : Int32} {H : Heap} {locs : List Loc} {ls : Array Slot} {cells slots : Nat} {Q : State → Prop} (F : zFx p s m meth c b L xs) (hi : 0 ≤ i.toInt ∧ i.toInt + 6 ≤ L) (hc : cells + 1 ≤ 1129) (hs : slots + 6 ≤ 17054) (B : zBe s b D bx bm qo i H locs ls) (KK : ∀ (H : Heap) (locs : List Loc) (ls : Array Slot), zBe s b D bx bm qo i H locs ls → W p l e room_1 s m #[Value.ref b] below meth c H locs (cells + 1) (slots + 6) Q (F0 m 1570 ls [])) : W p l e room_1 s m #[Value.ref b] below meth c H locs cells slots Q (F0 m 547 ls []) := by
  obtain ⟨C, hX, hbl, hr, hlocks, hL⟩ := id F
  obtain ⟨hx, hb, hml, hown, hts, hN, hZt⟩ := id C
  have hbA : ¬ zA s b := Nat.not_le.mpr hbl
  obtain ⟨wsx, wsm, tysx, tysm, cA, fo, Hx, Hm, hWx, hWm, hdis, hPo, hKo, hDo, hdx, hdm, hS, hbx, hbm, hl, hIv⟩ := B
  obtain ⟨f, rx, rm, Gx, Gm, q1, q2, hIv2, hE⟩ := step_8 (xs (i + 1).toNatClampNeg) (xs (i + 2).toNatClampNeg) (xs (i + 3).toNatClampNeg) hIv
  obtain ⟨vx0, hx0, -, -⟩ := gI_obj hIv.1.1 sx_0
  obtain ⟨vm0, hm0, -, -⟩ := gI_obj hIv.2.1.1 sm_0
  refine lv_aload_n hx hb dl_547 rfl (lv_at hl 3 rfl) ?_
  refine lv_aload_n hx hb dl_548 rfl (lv_at hl 4 rfl) ?_
  refine lv_iload hx hb dl_549 (lv_at hl 0 rfl) ?_
  refine lv_iconst (v := 1) hx hb dl_551 (by decide) ?_
  refine lv_iadd hx hb dl_552 ?_
  refine va_sld hx hb hX hbl hbA hS (vIk (k := 1) (by decide) (by decide) hi hL) dl_553 ?_
  refine lv_aload_n hx hb dl_554 rfl (lv_at hl 4 rfl) ?_
  refine lv_iload hx hb dl_555 (lv_at hl 0 rfl) ?_
  refine lv_iconst (v := 2) hx hb dl_557 (by decide) ?_
  refine lv_iadd hx hb dl_558 ?_
  refine va_sld hx hb hX hbl hbA hS (vIk (k := 2) (by decide) (by decide) hi hL) dl_559 ?_
  refine lv_aload_n hx hb dl_560 rfl (lv_at hl 4 rfl) ?_
  refine lv_iload hx hb dl_561 (lv_at hl 0 rfl) ?_
  refine lv_iconst (v := 3) hx hb dl_563 (by decide) ?_
  refine lv_iadd hx hb dl_564 ?_
  refine va_sld hx hb hX hbl hbA hS (vIk (k := 3) (by decide) (by decide) hi hL) dl_565 ?_
  refine z_law (rest := []) C (x := 122) (idx := 62) (by decide) (by decide +kernel) (List.mem_append_right _ (List.mem_of_getElem? (i := 748) (by decide +kernel))) dl_566 (by decide +kernel) (by decide +kernel) rfl rfl (by decide +kernel) (show cells ≤ 1129 by omega) (show slots ≤ 17054 by omega) q1 (Nat.le_of_ble_eq_true rfl) hWx hS hx0 hbx ⟨_, _, rfl, rfl, ⟨_, _, rfl, rfl, ⟨_, _, rfl, rfl, rfl⟩⟩⟩ rfl hl.1 (Nat.le_of_ble_eq_true rfl) rfl (fun v ws1 tys1 H1 locs1 hO hpre hW1 hD1 hk1 hS => ?_)
  obtain ⟨_, rfl, rfl⟩ := hO
  obtain ⟨hWm, hdis⟩ := hWm.other hdis hk1 hD1
  obtain ⟨hPo, hdx⟩ := z_other hPo hdx hk1 hD1
  have hWx := hW1
  have hbx := zpre_at hpre hbx
  refine lv_pop hx hb dl_569 rfl ?_
  refine lv_aload_n hx hb dl_570 rfl (lv_at hl 2 rfl) ?_
  refine lv_aload_n hx hb dl_571 rfl (lv_at hl 4 rfl) ?_
  refine lv_iload hx hb dl_572 (lv_at hl 0 rfl) ?_
  refine lv_iconst (v := 1) hx hb dl_574 (by decide) ?_
  refine lv_iadd hx hb dl_575 ?_
  refine va_sld hx hb hX hbl hbA hS (vIk (k := 1) (by decide) (by decide) hi hL) dl_576 ?_
  refine lv_aload_n hx hb dl_577 rfl (lv_at hl 4 rfl) ?_
  refine lv_iload hx hb dl_578 (lv_at hl 0 rfl) ?_
  refine lv_iconst (v := 2) hx hb dl_580 (by decide) ?_
  refine lv_iadd hx hb dl_581 ?_
  refine va_sld hx hb hX hbl hbA hS (vIk (k := 2) (by decide) (by decide) hi hL) dl_582 ?_
  refine lv_aload_n hx hb dl_583 rfl (lv_at hl 4 rfl) ?_
  refine lv_iload hx hb dl_584 (lv_at hl 0 rfl) ?_
  refine lv_iconst (v := 3) hx hb dl_586 (by decide) ?_
  refine lv_iadd hx hb dl_587 ?_
  refine va_sld hx hb hX hbl hbA hS (vIk (k := 3) (by decide) (by decide) hi hL) dl_588 ?_
  refine z_law (rest := []) C (x := 212) (idx := 65) (by decide) (by decide +kernel) (List.mem_append_right _ (List.mem_of_getElem? (i := 1511) (by decide +kernel))) dl_589 (by decide +kernel) (by decide +kernel) rfl rfl (by decide +kernel) (show cells ≤ 1129 by omega) (show slots ≤ 17054 by omega) q2 (Nat.le_of_ble_eq_true rfl) hWm hS hm0 hbm ⟨_, _, rfl, rfl, ⟨_, _, rfl, rfl, ⟨_, _, rfl, rfl, rfl⟩⟩⟩ rfl hl.1 (Nat.le_of_ble_eq_true rfl) rfl (fun v ws1 tys1 H1 locs1 hO hpre hW1 hD1 hk1 hS => ?_)
  obtain ⟨_, rfl, rfl⟩ := hO
  obtain ⟨hWx, hdis2⟩ := hWx.other hdis.symm hk1 hD1
  obtain ⟨hPo, hdm⟩ := z_other hPo hdm hk1 hD1
  have hbm := zpre_at hpre hbm
  refine lv_pop hx hb dl_592 rfl ?_
  refine lv_goto (tgt := 1570) hx hb dl_593 (by decide) ?_
  exact W.widen (by omega) (by omega) (KK _ _ _ ⟨_, _, _, _, cA, fo, Gx, Gm, hWx, hW1, hdis2.symm, hPo, hKo, hDo, hdx, hdm, hS, hbx, hbm, hl, hIv2⟩)
set_option maxRecDepth 100000 in
set_option maxHeartbeats 4000000 in
theorem law_9 {p : Program} {l : Launch} {e : Env} {s : State} {m : MethodId} {below : List Frame} {meth : Method} {c : Code} {b L : Nat} {xs : Nat → Int32} {D : va_G} {bx bm qo : Nat} {i : Int32} {H : Heap} {locs : List Loc} {ls : Array Slot} {cells slots : Nat} {Q : State → Prop} (F : zFx p s m meth c b L xs) (hi : 0 ≤ i.toInt ∧ i.toInt + 6 ≤ L) (hc : cells + 1 ≤ 1129) (hs : slots + 6 ≤ 17054) (B : zBe s b D bx bm qo i H locs ls) (KK : ∀ (H : Heap) (locs : List Loc) (ls : Array Slot), zBe s b D bx bm qo i H locs ls → W p l e room_1 s m #[Value.ref b] below meth c H locs (cells + 1) (slots + 6) Q (F0 m 1570 ls [])) : W p l e room_1 s m #[Value.ref b] below meth c H locs cells slots Q (F0 m 596 ls []) := by
  obtain ⟨C, hX, hbl, hr, hlocks, hL⟩ := id F
  obtain ⟨hx, hb, hml, hown, hts, hN, hZt⟩ := id C
  have hbA : ¬ zA s b := Nat.not_le.mpr hbl
  obtain ⟨wsx, wsm, tysx, tysm, cA, fo, Hx, Hm, hWx, hWm, hdis, hPo, hKo, hDo, hdx, hdm, hS, hbx, hbm, hl, hIv⟩ := B
  obtain ⟨f, rx, rm, Gx, Gm, q1, q2, hIv2, hE⟩ := step_9 (xs (i + 1).toNatClampNeg) (xs (i + 2).toNatClampNeg) hIv
  obtain ⟨vx0, hx0, -, -⟩ := gI_obj hIv.1.1 sx_0
  obtain ⟨vm0, hm0, -, -⟩ := gI_obj hIv.2.1.1 sm_0
  refine lv_aload_n hx hb dl_596 rfl (lv_at hl 3 rfl) ?_
  refine lv_aload_n hx hb dl_597 rfl (lv_at hl 4 rfl) ?_
  refine lv_iload hx hb dl_598 (lv_at hl 0 rfl) ?_
  refine lv_iconst (v := 1) hx hb dl_600 (by decide) ?_
  refine lv_iadd hx hb dl_601 ?_
  refine va_sld hx hb hX hbl hbA hS (vIk (k := 1) (by decide) (by decide) hi hL) dl_602 ?_
  refine lv_aload_n hx hb dl_603 rfl (lv_at hl 4 rfl) ?_
  refine lv_iload hx hb dl_604 (lv_at hl 0 rfl) ?_
  refine lv_iconst (v := 2) hx hb dl_606 (by decide) ?_
  refine lv_iadd hx hb dl_607 ?_
  refine va_sld hx hb hX hbl hbA hS (vIk (k := 2) (by decide) (by decide) hi hL) dl_608 ?_
  refine z_law (rest := []) C (x := 123) (idx := 66) (by decide) (by decide +kernel) (List.mem_append_right _ (List.mem_of_getElem? (i := 764) (by decide +kernel))) dl_609 (by decide +kernel) (by decide +kernel) rfl rfl (by decide +kernel) (show cells ≤ 1129 by omega) (show slots ≤ 17054 by omega) q1 (Nat.le_of_ble_eq_true rfl) hWx hS hx0 hbx ⟨_, _, rfl, rfl, ⟨_, _, rfl, rfl, rfl⟩⟩ rfl hl.1 (Nat.le_of_ble_eq_true rfl) rfl (fun v ws1 tys1 H1 locs1 hO hpre hW1 hD1 hk1 hS => ?_)
  obtain ⟨_, rfl, rfl⟩ := hO
  obtain ⟨hWm, hdis⟩ := hWm.other hdis hk1 hD1
  obtain ⟨hPo, hdx⟩ := z_other hPo hdx hk1 hD1
  have hWx := hW1
  have hbx := zpre_at hpre hbx
  refine lv_pop hx hb dl_612 rfl ?_
  refine lv_aload_n hx hb dl_613 rfl (lv_at hl 2 rfl) ?_
  refine lv_aload_n hx hb dl_614 rfl (lv_at hl 4 rfl) ?_
  refine lv_iload hx hb dl_615 (lv_at hl 0 rfl) ?_
  refine lv_iconst (v := 1) hx hb dl_617 (by decide) ?_
  refine lv_iadd hx hb dl_618 ?_
  refine va_sld hx hb hX hbl hbA hS (vIk (k := 1) (by decide) (by decide) hi hL) dl_619 ?_
  refine lv_aload_n hx hb dl_620 rfl (lv_at hl 4 rfl) ?_
  refine lv_iload hx hb dl_621 (lv_at hl 0 rfl) ?_
  refine lv_iconst (v := 2) hx hb dl_623 (by decide) ?_
  refine lv_iadd hx hb dl_624 ?_
  refine va_sld hx hb hX hbl hbA hS (vIk (k := 2) (by decide) (by decide) hi hL) dl_625 ?_
  refine z_law (rest := []) C (x := 214) (idx := 69) (by decide) (by decide +kernel) (List.mem_append_right _ (List.mem_of_getElem? (i := 1515) (by decide +kernel))) dl_626 (by decide +kernel) (by decide +kernel) rfl rfl (by decide +kernel) (show cells ≤ 1129 by omega) (show slots ≤ 17054 by omega) q2 (Nat.le_of_ble_eq_true rfl) hWm hS hm0 hbm ⟨_, _, rfl, rfl, ⟨_, _, rfl, rfl, rfl⟩⟩ rfl hl.1 (Nat.le_of_ble_eq_true rfl) rfl (fun v ws1 tys1 H1 locs1 hO hpre hW1 hD1 hk1 hS => ?_)
  obtain ⟨_, rfl, rfl⟩ := hO
  obtain ⟨hWx, hdis2⟩ := hWx.other hdis.symm hk1 hD1
  obtain ⟨hPo, hdm⟩ := z_other hPo hdm hk1 hD1
  have hbm := zpre_at hpre hbm
  refine lv_pop hx hb dl_629 rfl ?_
  refine lv_goto (tgt := 1570) hx hb dl_630 (by decide) ?_
  exact W.widen (by omega) (by omega) (KK _ _ _ ⟨_, _, _, _, cA, fo, Gx, Gm, hWx, hW1, hdis2.symm, hPo, hKo, hDo, hdx, hdm, hS, hbx, hbm, hl, hIv2⟩)
set_option maxRecDepth 100000 in
set_option maxHeartbeats 4000000 in
theorem law_10 {p : Program} {l : Launch} {e : Env} {s : State} {m : MethodId} {below : List Frame} {meth : Method} {c : Code} {b L : Nat} {xs : Nat → Int32} {D : va_G} {bx bm qo : Nat} {i : Int32} {H : Heap} {locs : List Loc} {ls : Array Slot} {cells slots : Nat} {Q : State → Prop} (F : zFx p s m meth c b L xs) (hi : 0 ≤ i.toInt ∧ i.toInt + 6 ≤ L) (hc : cells + 1 ≤ 1129) (hs : slots + 6 ≤ 17054) (B : zBe s b D bx bm qo i H locs ls) (KK : ∀ (H : Heap) (locs : List Loc) (ls : Array Slot), zBe s b D bx bm qo i H locs ls → W p l e room_1 s m #[Value.ref b] below meth c H locs (cells + 1) (slots + 6) Q (F0 m 1570 ls [])) : W p l e room_1 s m #[Value.ref b] below meth c H locs cells slots Q (F0 m 633 ls []) := by
  obtain ⟨C, hX, hbl, hr, hlocks, hL⟩ := id F
  obtain ⟨hx, hb, hml, hown, hts, hN, hZt⟩ := id C
  have hbA : ¬ zA s b := Nat.not_le.mpr hbl
  obtain ⟨wsx, wsm, tysx, tysm, cA, fo, Hx, Hm, hWx, hWm, hdis, hPo, hKo, hDo, hdx, hdm, hS, hbx, hbm, hl, hIv⟩ := B
  obtain ⟨f, rx, rm, Gx, Gm, q1, q2, hIv2, hE⟩ := step_10 (xs (i + 1).toNatClampNeg) (xs (i + 2).toNatClampNeg) (xs (i + 3).toNatClampNeg) hIv
  obtain ⟨vx0, hx0, -, -⟩ := gI_obj hIv.1.1 sx_0
  obtain ⟨vm0, hm0, -, -⟩ := gI_obj hIv.2.1.1 sm_0
  refine lv_aload_n hx hb dl_633 rfl (lv_at hl 3 rfl) ?_
  refine lv_aload_n hx hb dl_634 rfl (lv_at hl 4 rfl) ?_
  refine lv_iload hx hb dl_635 (lv_at hl 0 rfl) ?_
  refine lv_iconst (v := 1) hx hb dl_637 (by decide) ?_
  refine lv_iadd hx hb dl_638 ?_
  refine va_sld hx hb hX hbl hbA hS (vIk (k := 1) (by decide) (by decide) hi hL) dl_639 ?_
  refine lv_aload_n hx hb dl_640 rfl (lv_at hl 4 rfl) ?_
  refine lv_iload hx hb dl_641 (lv_at hl 0 rfl) ?_
  refine lv_iconst (v := 2) hx hb dl_643 (by decide) ?_
  refine lv_iadd hx hb dl_644 ?_
  refine va_sld hx hb hX hbl hbA hS (vIk (k := 2) (by decide) (by decide) hi hL) dl_645 ?_
  refine lv_aload_n hx hb dl_646 rfl (lv_at hl 4 rfl) ?_
  refine lv_iload hx hb dl_647 (lv_at hl 0 rfl) ?_
  refine lv_iconst (v := 3) hx hb dl_649 (by decide) ?_
  refine lv_iadd hx hb dl_650 ?_
  refine va_sld hx hb hX hbl hbA hS (vIk (k := 3) (by decide) (by decide) hi hL) dl_651 ?_
  refine z_law (rest := []) C (x := 124) (idx := 70) (by decide) (by decide +kernel) (List.mem_append_right _ (List.mem_of_getElem? (i := 776) (by decide +kernel))) dl_652 (by decide +kernel) (by decide +kernel) rfl rfl (by decide +kernel) (show cells ≤ 1129 by omega) (show slots ≤ 17054 by omega) q1 (Nat.le_of_ble_eq_true rfl) hWx hS hx0 hbx ⟨_, _, rfl, rfl, ⟨_, _, rfl, rfl, ⟨_, _, rfl, rfl, rfl⟩⟩⟩ rfl hl.1 (Nat.le_of_ble_eq_true rfl) rfl (fun v ws1 tys1 H1 locs1 hO hpre hW1 hD1 hk1 hS => ?_)
  obtain ⟨_, rfl, rfl⟩ := hO
  obtain ⟨hWm, hdis⟩ := hWm.other hdis hk1 hD1
  obtain ⟨hPo, hdx⟩ := z_other hPo hdx hk1 hD1
  have hWx := hW1
  have hbx := zpre_at hpre hbx
  refine lv_pop hx hb dl_655 rfl ?_
  refine lv_aload_n hx hb dl_656 rfl (lv_at hl 2 rfl) ?_
  refine lv_aload_n hx hb dl_657 rfl (lv_at hl 4 rfl) ?_
  refine lv_iload hx hb dl_658 (lv_at hl 0 rfl) ?_
  refine lv_iconst (v := 1) hx hb dl_660 (by decide) ?_
  refine lv_iadd hx hb dl_661 ?_
  refine va_sld hx hb hX hbl hbA hS (vIk (k := 1) (by decide) (by decide) hi hL) dl_662 ?_
  refine lv_aload_n hx hb dl_663 rfl (lv_at hl 4 rfl) ?_
  refine lv_iload hx hb dl_664 (lv_at hl 0 rfl) ?_
  refine lv_iconst (v := 2) hx hb dl_666 (by decide) ?_
  refine lv_iadd hx hb dl_667 ?_
  refine va_sld hx hb hX hbl hbA hS (vIk (k := 2) (by decide) (by decide) hi hL) dl_668 ?_
  refine lv_aload_n hx hb dl_669 rfl (lv_at hl 4 rfl) ?_
  refine lv_iload hx hb dl_670 (lv_at hl 0 rfl) ?_
  refine lv_iconst (v := 3) hx hb dl_672 (by decide) ?_
  refine lv_iadd hx hb dl_673 ?_
  refine va_sld hx hb hX hbl hbA hS (vIk (k := 3) (by decide) (by decide) hi hL) dl_674 ?_
  refine z_law (rest := []) C (x := 216) (idx := 73) (by decide) (by decide +kernel) (List.mem_append_right _ (List.mem_of_getElem? (i := 1523) (by decide +kernel))) dl_675 (by decide +kernel) (by decide +kernel) rfl rfl (by decide +kernel) (show cells ≤ 1129 by omega) (show slots ≤ 17054 by omega) q2 (Nat.le_of_ble_eq_true rfl) hWm hS hm0 hbm ⟨_, _, rfl, rfl, ⟨_, _, rfl, rfl, ⟨_, _, rfl, rfl, rfl⟩⟩⟩ rfl hl.1 (Nat.le_of_ble_eq_true rfl) rfl (fun v ws1 tys1 H1 locs1 hO hpre hW1 hD1 hk1 hS => ?_)
  obtain ⟨_, rfl, rfl⟩ := hO
  obtain ⟨hWx, hdis2⟩ := hWx.other hdis.symm hk1 hD1
  obtain ⟨hPo, hdm⟩ := z_other hPo hdm hk1 hD1
  have hbm := zpre_at hpre hbm
  refine lv_pop hx hb dl_678 rfl ?_
  refine lv_goto (tgt := 1570) hx hb dl_679 (by decide) ?_
  exact W.widen (by omega) (by omega) (KK _ _ _ ⟨_, _, _, _, cA, fo, Gx, Gm, hWx, hW1, hdis2.symm, hPo, hKo, hDo, hdx, hdm, hS, hbx, hbm, hl, hIv2⟩)
set_option maxRecDepth 100000 in
set_option maxHeartbeats 4000000 in
theorem law_11 {p : Program} {l : Launch} {e : Env} {s : State} {m : MethodId} {below : List Frame} {meth : Method} {c : Code} {b L : Nat} {xs : Nat → Int32} {D : va_G} {bx bm qo : Nat} {i : Int32} {H : Heap} {locs : List Loc} {ls : Array Slot} {cells slots : Nat} {Q : State → Prop} (F : zFx p s m meth c b L xs) (hi : 0 ≤ i.toInt ∧ i.toInt + 6 ≤ L) (hc : cells + 1 ≤ 1129) (hs : slots + 6 ≤ 17054) (B : zBe s b D bx bm qo i H locs ls) (KK : ∀ (H : Heap) (locs : List Loc) (ls : Array Slot), zBe s b D bx bm qo i H locs ls → W p l e room_1 s m #[Value.ref b] below meth c H locs (cells + 1) (slots + 6) Q (F0 m 1570 ls [])) : W p l e room_1 s m #[Value.ref b] below meth c H locs cells slots Q (F0 m 682 ls []) := by
  obtain ⟨C, hX, hbl, hr, hlocks, hL⟩ := id F
  obtain ⟨hx, hb, hml, hown, hts, hN, hZt⟩ := id C
  have hbA : ¬ zA s b := Nat.not_le.mpr hbl
  obtain ⟨wsx, wsm, tysx, tysm, cA, fo, Hx, Hm, hWx, hWm, hdis, hPo, hKo, hDo, hdx, hdm, hS, hbx, hbm, hl, hIv⟩ := B
  obtain ⟨f, rx, rm, Gx, Gm, q1, q2, hIv2, hE⟩ := step_11 (xs (i + 1).toNatClampNeg) (xs (i + 2).toNatClampNeg) hIv
  obtain ⟨vx0, hx0, -, -⟩ := gI_obj hIv.1.1 sx_0
  obtain ⟨vm0, hm0, -, -⟩ := gI_obj hIv.2.1.1 sm_0
  refine lv_aload_n hx hb dl_682 rfl (lv_at hl 3 rfl) ?_
  refine lv_aload_n hx hb dl_683 rfl (lv_at hl 4 rfl) ?_
  refine lv_iload hx hb dl_684 (lv_at hl 0 rfl) ?_
  refine lv_iconst (v := 1) hx hb dl_686 (by decide) ?_
  refine lv_iadd hx hb dl_687 ?_
  refine va_sld hx hb hX hbl hbA hS (vIk (k := 1) (by decide) (by decide) hi hL) dl_688 ?_
  refine lv_aload_n hx hb dl_689 rfl (lv_at hl 4 rfl) ?_
  refine lv_iload hx hb dl_690 (lv_at hl 0 rfl) ?_
  refine lv_iconst (v := 2) hx hb dl_692 (by decide) ?_
  refine lv_iadd hx hb dl_693 ?_
  refine va_sld hx hb hX hbl hbA hS (vIk (k := 2) (by decide) (by decide) hi hL) dl_694 ?_
  refine z_law (rest := []) C (x := 125) (idx := 74) (by decide) (by decide +kernel) (List.mem_append_right _ (List.mem_of_getElem? (i := 785) (by decide +kernel))) dl_695 (by decide +kernel) (by decide +kernel) rfl rfl (by decide +kernel) (show cells ≤ 1129 by omega) (show slots ≤ 17054 by omega) q1 (Nat.le_of_ble_eq_true rfl) hWx hS hx0 hbx ⟨_, _, rfl, rfl, ⟨_, _, rfl, rfl, rfl⟩⟩ rfl hl.1 (Nat.le_of_ble_eq_true rfl) rfl (fun v ws1 tys1 H1 locs1 hO hpre hW1 hD1 hk1 hS => ?_)
  obtain ⟨_, rfl, rfl⟩ := hO
  obtain ⟨hWm, hdis⟩ := hWm.other hdis hk1 hD1
  obtain ⟨hPo, hdx⟩ := z_other hPo hdx hk1 hD1
  have hWx := hW1
  have hbx := zpre_at hpre hbx
  refine lv_pop hx hb dl_698 rfl ?_
  refine lv_aload_n hx hb dl_699 rfl (lv_at hl 2 rfl) ?_
  refine lv_aload_n hx hb dl_700 rfl (lv_at hl 4 rfl) ?_
  refine lv_iload hx hb dl_701 (lv_at hl 0 rfl) ?_
  refine lv_iconst (v := 1) hx hb dl_703 (by decide) ?_
  refine lv_iadd hx hb dl_704 ?_
  refine va_sld hx hb hX hbl hbA hS (vIk (k := 1) (by decide) (by decide) hi hL) dl_705 ?_
  refine lv_aload_n hx hb dl_706 rfl (lv_at hl 4 rfl) ?_
  refine lv_iload hx hb dl_707 (lv_at hl 0 rfl) ?_
  refine lv_iconst (v := 2) hx hb dl_709 (by decide) ?_
  refine lv_iadd hx hb dl_710 ?_
  refine va_sld hx hb hX hbl hbA hS (vIk (k := 2) (by decide) (by decide) hi hL) dl_711 ?_
  refine z_law (rest := []) C (x := 221) (idx := 77) (by decide) (by decide +kernel) (List.mem_append_right _ (List.mem_of_getElem? (i := 1543) (by decide +kernel))) dl_712 (by decide +kernel) (by decide +kernel) rfl rfl (by decide +kernel) (show cells ≤ 1129 by omega) (show slots ≤ 17054 by omega) q2 (Nat.le_of_ble_eq_true rfl) hWm hS hm0 hbm ⟨_, _, rfl, rfl, ⟨_, _, rfl, rfl, rfl⟩⟩ rfl hl.1 (Nat.le_of_ble_eq_true rfl) rfl (fun v ws1 tys1 H1 locs1 hO hpre hW1 hD1 hk1 hS => ?_)
  obtain ⟨_, rfl, rfl⟩ := hO
  obtain ⟨hWx, hdis2⟩ := hWx.other hdis.symm hk1 hD1
  obtain ⟨hPo, hdm⟩ := z_other hPo hdm hk1 hD1
  have hbm := zpre_at hpre hbm
  refine lv_pop hx hb dl_715 rfl ?_
  refine lv_goto (tgt := 1570) hx hb dl_716 (by decide) ?_
  exact W.widen (by omega) (by omega) (KK _ _ _ ⟨_, _, _, _, cA, fo, Gx, Gm, hWx, hW1, hdis2.symm, hPo, hKo, hDo, hdx, hdm, hS, hbx, hbm, hl, hIv2⟩)
set_option maxRecDepth 100000 in
set_option maxHeartbeats 4000000 in
theorem law_12 {p : Program} {l : Launch} {e : Env} {s : State} {m : MethodId} {below : List Frame} {meth : Method} {c : Code} {b L : Nat} {xs : Nat → Int32} {D : va_G} {bx bm qo : Nat} {i : Int32} {H : Heap} {locs : List Loc} {ls : Array Slot} {cells slots : Nat} {Q : State → Prop} (F : zFx p s m meth c b L xs) (hi : 0 ≤ i.toInt ∧ i.toInt + 6 ≤ L) (hc : cells + 1 ≤ 1129) (hs : slots + 6 ≤ 17054) (B : zBe s b D bx bm qo i H locs ls) (KK : ∀ (H : Heap) (locs : List Loc) (ls : Array Slot), zBe s b D bx bm qo i H locs ls → W p l e room_1 s m #[Value.ref b] below meth c H locs (cells + 1) (slots + 6) Q (F0 m 1570 ls [])) : W p l e room_1 s m #[Value.ref b] below meth c H locs cells slots Q (F0 m 719 ls []) := by
  obtain ⟨C, hX, hbl, hr, hlocks, hL⟩ := id F
  obtain ⟨hx, hb, hml, hown, hts, hN, hZt⟩ := id C
  have hbA : ¬ zA s b := Nat.not_le.mpr hbl
  obtain ⟨wsx, wsm, tysx, tysm, cA, fo, Hx, Hm, hWx, hWm, hdis, hPo, hKo, hDo, hdx, hdm, hS, hbx, hbm, hl, hIv⟩ := B
  obtain ⟨f, rx, rm, Gx, Gm, q1, q2, hIv2, hE⟩ := step_12 (xs (i + 1).toNatClampNeg) hIv
  obtain ⟨vx0, hx0, -, -⟩ := gI_obj hIv.1.1 sx_0
  obtain ⟨vm0, hm0, -, -⟩ := gI_obj hIv.2.1.1 sm_0
  refine lv_aload_n hx hb dl_719 rfl (lv_at hl 3 rfl) ?_
  refine lv_aload_n hx hb dl_720 rfl (lv_at hl 4 rfl) ?_
  refine lv_iload hx hb dl_721 (lv_at hl 0 rfl) ?_
  refine lv_iconst (v := 1) hx hb dl_723 (by decide) ?_
  refine lv_iadd hx hb dl_724 ?_
  refine va_sld hx hb hX hbl hbA hS (vIk (k := 1) (by decide) (by decide) hi hL) dl_725 ?_
  refine z_law (rest := []) C (x := 126) (idx := 78) (by decide) (by decide +kernel) (List.mem_append_right _ (List.mem_of_getElem? (i := 794) (by decide +kernel))) dl_726 (by decide +kernel) (by decide +kernel) rfl rfl (by decide +kernel) (show cells ≤ 1129 by omega) (show slots ≤ 17054 by omega) q1 (Nat.le_of_ble_eq_true rfl) hWx hS hx0 hbx ⟨_, _, rfl, rfl, rfl⟩ rfl hl.1 (Nat.le_of_ble_eq_true rfl) rfl (fun v ws1 tys1 H1 locs1 hO hpre hW1 hD1 hk1 hS => ?_)
  obtain ⟨_, rfl, rfl⟩ := hO
  obtain ⟨hWm, hdis⟩ := hWm.other hdis hk1 hD1
  obtain ⟨hPo, hdx⟩ := z_other hPo hdx hk1 hD1
  have hWx := hW1
  have hbx := zpre_at hpre hbx
  refine lv_pop hx hb dl_729 rfl ?_
  refine lv_aload_n hx hb dl_730 rfl (lv_at hl 2 rfl) ?_
  refine lv_aload_n hx hb dl_731 rfl (lv_at hl 4 rfl) ?_
  refine lv_iload hx hb dl_732 (lv_at hl 0 rfl) ?_
  refine lv_iconst (v := 1) hx hb dl_734 (by decide) ?_
  refine lv_iadd hx hb dl_735 ?_
  refine va_sld hx hb hX hbl hbA hS (vIk (k := 1) (by decide) (by decide) hi hL) dl_736 ?_
  refine z_law (rest := []) C (x := 222) (idx := 81) (by decide) (by decide +kernel) (List.mem_append_right _ (List.mem_of_getElem? (i := 1551) (by decide +kernel))) dl_737 (by decide +kernel) (by decide +kernel) rfl rfl (by decide +kernel) (show cells ≤ 1129 by omega) (show slots ≤ 17054 by omega) q2 (Nat.le_of_ble_eq_true rfl) hWm hS hm0 hbm ⟨_, _, rfl, rfl, rfl⟩ rfl hl.1 (Nat.le_of_ble_eq_true rfl) rfl (fun v ws1 tys1 H1 locs1 hO hpre hW1 hD1 hk1 hS => ?_)
  obtain ⟨_, rfl, rfl⟩ := hO
  obtain ⟨hWx, hdis2⟩ := hWx.other hdis.symm hk1 hD1
  obtain ⟨hPo, hdm⟩ := z_other hPo hdm hk1 hD1
  have hbm := zpre_at hpre hbm
  refine lv_pop hx hb dl_740 rfl ?_
  refine lv_goto (tgt := 1570) hx hb dl_741 (by decide) ?_
  exact W.widen (by omega) (by omega) (KK _ _ _ ⟨_, _, _, _, cA, fo, Gx, Gm, hWx, hW1, hdis2.symm, hPo, hKo, hDo, hdx, hdm, hS, hbx, hbm, hl, hIv2⟩)
set_option maxRecDepth 100000 in
set_option maxHeartbeats 4000000 in
theorem law_13 {p : Program} {l : Launch} {e : Env} {s : State} {m : MethodId} {below : List Frame} {meth : Method} {c : Code} {b L : Nat} {xs : Nat → Int32} {D : va_G} {bx bm qo : Nat} {i : Int32} {H : Heap} {locs : List Loc} {ls : Array Slot} {cells slots : Nat} {Q : State → Prop} (F : zFx p s m meth c b L xs) (hi : 0 ≤ i.toInt ∧ i.toInt + 6 ≤ L) (hc : cells + 1 ≤ 1129) (hs : slots + 6 ≤ 17054) (B : zBe s b D bx bm qo i H locs ls) (KK : ∀ (H : Heap) (locs : List Loc) (ls : Array Slot), zBe s b D bx bm qo i H locs ls → W p l e room_1 s m #[Value.ref b] below meth c H locs (cells + 1) (slots + 6) Q (F0 m 1570 ls [])) : W p l e room_1 s m #[Value.ref b] below meth c H locs cells slots Q (F0 m 744 ls []) := by
  obtain ⟨C, hX, hbl, hr, hlocks, hL⟩ := id F
  obtain ⟨hx, hb, hml, hown, hts, hN, hZt⟩ := id C
  have hbA : ¬ zA s b := Nat.not_le.mpr hbl
  obtain ⟨wsx, wsm, tysx, tysm, cA, fo, Hx, Hm, hWx, hWm, hdis, hPo, hKo, hDo, hdx, hdm, hS, hbx, hbm, hl, hIv⟩ := B
  obtain ⟨f, rx, rm, Gx, Gm, q1, q2, hIv2, hE⟩ := step_13 (xs (i + 1).toNatClampNeg) (xs (i + 2).toNatClampNeg) hIv
  obtain ⟨vx0, hx0, -, -⟩ := gI_obj hIv.1.1 sx_0
  obtain ⟨vm0, hm0, -, -⟩ := gI_obj hIv.2.1.1 sm_0
  refine lv_aload_n hx hb dl_744 rfl (lv_at hl 3 rfl) ?_
  refine lv_aload_n hx hb dl_745 rfl (lv_at hl 4 rfl) ?_
  refine lv_iload hx hb dl_746 (lv_at hl 0 rfl) ?_
  refine lv_iconst (v := 1) hx hb dl_748 (by decide) ?_
  refine lv_iadd hx hb dl_749 ?_
  refine va_sld hx hb hX hbl hbA hS (vIk (k := 1) (by decide) (by decide) hi hL) dl_750 ?_
  refine lv_aload_n hx hb dl_751 rfl (lv_at hl 4 rfl) ?_
  refine lv_iload hx hb dl_752 (lv_at hl 0 rfl) ?_
  refine lv_iconst (v := 2) hx hb dl_754 (by decide) ?_
  refine lv_iadd hx hb dl_755 ?_
  refine va_sld hx hb hX hbl hbA hS (vIk (k := 2) (by decide) (by decide) hi hL) dl_756 ?_
  refine z_law (rest := []) C (x := 127) (idx := 82) (by decide) (by decide +kernel) (List.mem_append_right _ (List.mem_of_getElem? (i := 812) (by decide +kernel))) dl_757 (by decide +kernel) (by decide +kernel) rfl rfl (by decide +kernel) (show cells ≤ 1129 by omega) (show slots ≤ 17054 by omega) q1 (Nat.le_of_ble_eq_true rfl) hWx hS hx0 hbx ⟨_, _, rfl, rfl, ⟨_, _, rfl, rfl, rfl⟩⟩ rfl hl.1 (Nat.le_of_ble_eq_true rfl) rfl (fun v ws1 tys1 H1 locs1 hO hpre hW1 hD1 hk1 hS => ?_)
  obtain ⟨_, rfl, rfl⟩ := hO
  obtain ⟨hWm, hdis⟩ := hWm.other hdis hk1 hD1
  obtain ⟨hPo, hdx⟩ := z_other hPo hdx hk1 hD1
  have hWx := hW1
  have hbx := zpre_at hpre hbx
  refine lv_pop hx hb dl_760 rfl ?_
  refine lv_aload_n hx hb dl_761 rfl (lv_at hl 2 rfl) ?_
  refine lv_aload_n hx hb dl_762 rfl (lv_at hl 4 rfl) ?_
  refine lv_iload hx hb dl_763 (lv_at hl 0 rfl) ?_
  refine lv_iconst (v := 1) hx hb dl_765 (by decide) ?_
  refine lv_iadd hx hb dl_766 ?_
  refine va_sld hx hb hX hbl hbA hS (vIk (k := 1) (by decide) (by decide) hi hL) dl_767 ?_
  refine lv_aload_n hx hb dl_768 rfl (lv_at hl 4 rfl) ?_
  refine lv_iload hx hb dl_769 (lv_at hl 0 rfl) ?_
  refine lv_iconst (v := 2) hx hb dl_771 (by decide) ?_
  refine lv_iadd hx hb dl_772 ?_
  refine va_sld hx hb hX hbl hbA hS (vIk (k := 2) (by decide) (by decide) hi hL) dl_773 ?_
  refine z_law (rest := []) C (x := 224) (idx := 85) (by decide) (by decide +kernel) (List.mem_append_right _ (List.mem_of_getElem? (i := 1555) (by decide +kernel))) dl_774 (by decide +kernel) (by decide +kernel) rfl rfl (by decide +kernel) (show cells ≤ 1129 by omega) (show slots ≤ 17054 by omega) q2 (Nat.le_of_ble_eq_true rfl) hWm hS hm0 hbm ⟨_, _, rfl, rfl, ⟨_, _, rfl, rfl, rfl⟩⟩ rfl hl.1 (Nat.le_of_ble_eq_true rfl) rfl (fun v ws1 tys1 H1 locs1 hO hpre hW1 hD1 hk1 hS => ?_)
  obtain ⟨_, rfl, rfl⟩ := hO
  obtain ⟨hWx, hdis2⟩ := hWx.other hdis.symm hk1 hD1
  obtain ⟨hPo, hdm⟩ := z_other hPo hdm hk1 hD1
  have hbm := zpre_at hpre hbm
  refine lv_pop hx hb dl_777 rfl ?_
  refine lv_goto (tgt := 1570) hx hb dl_778 (by decide) ?_
  exact W.widen (by omega) (by omega) (KK _ _ _ ⟨_, _, _, _, cA, fo, Gx, Gm, hWx, hW1, hdis2.symm, hPo, hKo, hDo, hdx, hdm, hS, hbx, hbm, hl, hIv2⟩)
set_option maxRecDepth 100000 in
set_option maxHeartbeats 4000000 in
theorem law_14 {p : Program} {l : Launch} {e : Env} {s : State} {m : MethodId} {below : List Frame} {meth : Method} {c : Code} {b L : Nat} {xs : Nat → Int32} {D : va_G} {bx bm qo : Nat} {i : Int32} {H : Heap} {locs : List Loc} {ls : Array Slot} {cells slots : Nat} {Q : State → Prop} (F : zFx p s m meth c b L xs) (hi : 0 ≤ i.toInt ∧ i.toInt + 6 ≤ L) (hc : cells + 1 ≤ 1129) (hs : slots + 6 ≤ 17054) (B : zBe s b D bx bm qo i H locs ls) (KK : ∀ (H : Heap) (locs : List Loc) (ls : Array Slot), zBe s b D bx bm qo i H locs ls → W p l e room_1 s m #[Value.ref b] below meth c H locs (cells + 1) (slots + 6) Q (F0 m 1570 ls [])) : W p l e room_1 s m #[Value.ref b] below meth c H locs cells slots Q (F0 m 781 ls []) := by
  obtain ⟨C, hX, hbl, hr, hlocks, hL⟩ := id F
  obtain ⟨hx, hb, hml, hown, hts, hN, hZt⟩ := id C
  have hbA : ¬ zA s b := Nat.not_le.mpr hbl
  obtain ⟨wsx, wsm, tysx, tysm, cA, fo, Hx, Hm, hWx, hWm, hdis, hPo, hKo, hDo, hdx, hdm, hS, hbx, hbm, hl, hIv⟩ := B
  obtain ⟨f, rx, rm, Gx, Gm, q1, q2, hIv2, hE⟩ := step_14 (xs (i + 1).toNatClampNeg) hIv
  obtain ⟨vx0, hx0, -, -⟩ := gI_obj hIv.1.1 sx_0
  obtain ⟨vm0, hm0, -, -⟩ := gI_obj hIv.2.1.1 sm_0
  refine lv_aload_n hx hb dl_781 rfl (lv_at hl 3 rfl) ?_
  refine lv_aload_n hx hb dl_782 rfl (lv_at hl 4 rfl) ?_
  refine lv_iload hx hb dl_783 (lv_at hl 0 rfl) ?_
  refine lv_iconst (v := 1) hx hb dl_785 (by decide) ?_
  refine lv_iadd hx hb dl_786 ?_
  refine va_sld hx hb hX hbl hbA hS (vIk (k := 1) (by decide) (by decide) hi hL) dl_787 ?_
  refine z_law (rest := []) C (x := 128) (idx := 86) (by decide) (by decide +kernel) (List.mem_append_right _ (List.mem_of_getElem? (i := 827) (by decide +kernel))) dl_788 (by decide +kernel) (by decide +kernel) rfl rfl (by decide +kernel) (show cells ≤ 1129 by omega) (show slots ≤ 17054 by omega) q1 (Nat.le_of_ble_eq_true rfl) hWx hS hx0 hbx ⟨_, _, rfl, rfl, rfl⟩ rfl hl.1 (Nat.le_of_ble_eq_true rfl) rfl (fun v ws1 tys1 H1 locs1 hO hpre hW1 hD1 hk1 hS => ?_)
  obtain ⟨_, rfl, rfl⟩ := hO
  obtain ⟨hWm, hdis⟩ := hWm.other hdis hk1 hD1
  obtain ⟨hPo, hdx⟩ := z_other hPo hdx hk1 hD1
  have hWx := hW1
  have hbx := zpre_at hpre hbx
  refine lv_pop hx hb dl_791 rfl ?_
  refine lv_aload_n hx hb dl_792 rfl (lv_at hl 2 rfl) ?_
  refine lv_aload_n hx hb dl_793 rfl (lv_at hl 4 rfl) ?_
  refine lv_iload hx hb dl_794 (lv_at hl 0 rfl) ?_
  refine lv_iconst (v := 1) hx hb dl_796 (by decide) ?_
  refine lv_iadd hx hb dl_797 ?_
  refine va_sld hx hb hX hbl hbA hS (vIk (k := 1) (by decide) (by decide) hi hL) dl_798 ?_
  refine z_law (rest := []) C (x := 226) (idx := 89) (by decide) (by decide +kernel) (List.mem_append_right _ (List.mem_of_getElem? (i := 1563) (by decide +kernel))) dl_799 (by decide +kernel) (by decide +kernel) rfl rfl (by decide +kernel) (show cells ≤ 1129 by omega) (show slots ≤ 17054 by omega) q2 (Nat.le_of_ble_eq_true rfl) hWm hS hm0 hbm ⟨_, _, rfl, rfl, rfl⟩ rfl hl.1 (Nat.le_of_ble_eq_true rfl) rfl (fun v ws1 tys1 H1 locs1 hO hpre hW1 hD1 hk1 hS => ?_)
  obtain ⟨_, rfl, rfl⟩ := hO
  obtain ⟨hWx, hdis2⟩ := hWx.other hdis.symm hk1 hD1
  obtain ⟨hPo, hdm⟩ := z_other hPo hdm hk1 hD1
  have hbm := zpre_at hpre hbm
  refine lv_pop hx hb dl_802 rfl ?_
  refine lv_goto (tgt := 1570) hx hb dl_803 (by decide) ?_
  exact W.widen (by omega) (by omega) (KK _ _ _ ⟨_, _, _, _, cA, fo, Gx, Gm, hWx, hW1, hdis2.symm, hPo, hKo, hDo, hdx, hdm, hS, hbx, hbm, hl, hIv2⟩)
set_option maxRecDepth 100000 in
set_option maxHeartbeats 4000000 in
theorem law_15 {p : Program} {l : Launch} {e : Env} {s : State} {m : MethodId} {below : List Frame} {meth : Method} {c : Code} {b L : Nat} {xs : Nat → Int32} {D : va_G} {bx bm qo : Nat} {i : Int32} {H : Heap} {locs : List Loc} {ls : Array Slot} {cells slots : Nat} {Q : State → Prop} (F : zFx p s m meth c b L xs) (hi : 0 ≤ i.toInt ∧ i.toInt + 6 ≤ L) (hc : cells + 1 ≤ 1129) (hs : slots + 6 ≤ 17054) (B : zBe s b D bx bm qo i H locs ls) (KK : ∀ (H : Heap) (locs : List Loc) (ls : Array Slot), zBe s b D bx bm qo i H locs ls → W p l e room_1 s m #[Value.ref b] below meth c H locs (cells + 1) (slots + 6) Q (F0 m 1570 ls [])) : W p l e room_1 s m #[Value.ref b] below meth c H locs cells slots Q (F0 m 806 ls []) := by
  obtain ⟨C, hX, hbl, hr, hlocks, hL⟩ := id F
  obtain ⟨hx, hb, hml, hown, hts, hN, hZt⟩ := id C
  have hbA : ¬ zA s b := Nat.not_le.mpr hbl
  obtain ⟨wsx, wsm, tysx, tysm, cA, fo, Hx, Hm, hWx, hWm, hdis, hPo, hKo, hDo, hdx, hdm, hS, hbx, hbm, hl, hIv⟩ := B
  obtain ⟨f, rx, rm, Gx, Gm, q1, q2, hIv2, hE⟩ := step_15 (xs (i + 1).toNatClampNeg) hIv
  obtain ⟨vx0, hx0, -, -⟩ := gI_obj hIv.1.1 sx_0
  obtain ⟨vm0, hm0, -, -⟩ := gI_obj hIv.2.1.1 sm_0
  refine lv_aload_n hx hb dl_806 rfl (lv_at hl 3 rfl) ?_
  refine lv_aload_n hx hb dl_807 rfl (lv_at hl 4 rfl) ?_
  refine lv_iload hx hb dl_808 (lv_at hl 0 rfl) ?_
  refine lv_iconst (v := 1) hx hb dl_810 (by decide) ?_
  refine lv_iadd hx hb dl_811 ?_
  refine va_sld hx hb hX hbl hbA hS (vIk (k := 1) (by decide) (by decide) hi hL) dl_812 ?_
  refine z_law (rest := []) C (x := 129) (idx := 90) (by decide) (by decide +kernel) (List.mem_append_right _ (List.mem_of_getElem? (i := 835) (by decide +kernel))) dl_813 (by decide +kernel) (by decide +kernel) rfl rfl (by decide +kernel) (show cells ≤ 1129 by omega) (show slots ≤ 17054 by omega) q1 (Nat.le_of_ble_eq_true rfl) hWx hS hx0 hbx ⟨_, _, rfl, rfl, rfl⟩ rfl hl.1 (Nat.le_of_ble_eq_true rfl) rfl (fun v ws1 tys1 H1 locs1 hO hpre hW1 hD1 hk1 hS => ?_)
  obtain ⟨_, rfl, rfl⟩ := hO
  obtain ⟨hWm, hdis⟩ := hWm.other hdis hk1 hD1
  obtain ⟨hPo, hdx⟩ := z_other hPo hdx hk1 hD1
  have hWx := hW1
  have hbx := zpre_at hpre hbx
  refine lv_pop hx hb dl_816 rfl ?_
  refine lv_aload_n hx hb dl_817 rfl (lv_at hl 2 rfl) ?_
  refine lv_aload_n hx hb dl_818 rfl (lv_at hl 4 rfl) ?_
  refine lv_iload hx hb dl_819 (lv_at hl 0 rfl) ?_
  refine lv_iconst (v := 1) hx hb dl_821 (by decide) ?_
  refine lv_iadd hx hb dl_822 ?_
  refine va_sld hx hb hX hbl hbA hS (vIk (k := 1) (by decide) (by decide) hi hL) dl_823 ?_
  refine z_law (rest := []) C (x := 228) (idx := 93) (by decide) (by decide +kernel) (List.mem_append_right _ (List.mem_of_getElem? (i := 1571) (by decide +kernel))) dl_824 (by decide +kernel) (by decide +kernel) rfl rfl (by decide +kernel) (show cells ≤ 1129 by omega) (show slots ≤ 17054 by omega) q2 (Nat.le_of_ble_eq_true rfl) hWm hS hm0 hbm ⟨_, _, rfl, rfl, rfl⟩ rfl hl.1 (Nat.le_of_ble_eq_true rfl) rfl (fun v ws1 tys1 H1 locs1 hO hpre hW1 hD1 hk1 hS => ?_)
  obtain ⟨_, rfl, rfl⟩ := hO
  obtain ⟨hWx, hdis2⟩ := hWx.other hdis.symm hk1 hD1
  obtain ⟨hPo, hdm⟩ := z_other hPo hdm hk1 hD1
  have hbm := zpre_at hpre hbm
  refine lv_pop hx hb dl_827 rfl ?_
  refine lv_goto (tgt := 1570) hx hb dl_828 (by decide) ?_
  exact W.widen (by omega) (by omega) (KK _ _ _ ⟨_, _, _, _, cA, fo, Gx, Gm, hWx, hW1, hdis2.symm, hPo, hKo, hDo, hdx, hdm, hS, hbx, hbm, hl, hIv2⟩)
set_option maxRecDepth 100000 in
set_option maxHeartbeats 4000000 in
theorem law_16 {p : Program} {l : Launch} {e : Env} {s : State} {m : MethodId} {below : List Frame} {meth : Method} {c : Code} {b L : Nat} {xs : Nat → Int32} {D : va_G} {bx bm qo : Nat} {i : Int32} {H : Heap} {locs : List Loc} {ls : Array Slot} {cells slots : Nat} {Q : State → Prop} (F : zFx p s m meth c b L xs) (hi : 0 ≤ i.toInt ∧ i.toInt + 6 ≤ L) (hc : cells + 1 ≤ 1129) (hs : slots + 6 ≤ 17054) (B : zBe s b D bx bm qo i H locs ls) (KK : ∀ (H : Heap) (locs : List Loc) (ls : Array Slot), zBe s b D bx bm qo i H locs ls → W p l e room_1 s m #[Value.ref b] below meth c H locs (cells + 1) (slots + 6) Q (F0 m 1570 ls [])) : W p l e room_1 s m #[Value.ref b] below meth c H locs cells slots Q (F0 m 831 ls []) := by
  obtain ⟨C, hX, hbl, hr, hlocks, hL⟩ := id F
  obtain ⟨hx, hb, hml, hown, hts, hN, hZt⟩ := id C
  have hbA : ¬ zA s b := Nat.not_le.mpr hbl
  obtain ⟨wsx, wsm, tysx, tysm, cA, fo, Hx, Hm, hWx, hWm, hdis, hPo, hKo, hDo, hdx, hdm, hS, hbx, hbm, hl, hIv⟩ := B
  obtain ⟨f, rx, rm, Gx, Gm, q1, q2, hIv2, hE⟩ := step_16 (xs (i + 1).toNatClampNeg) hIv
  obtain ⟨vx0, hx0, -, -⟩ := gI_obj hIv.1.1 sx_0
  obtain ⟨vm0, hm0, -, -⟩ := gI_obj hIv.2.1.1 sm_0
  refine lv_aload_n hx hb dl_831 rfl (lv_at hl 3 rfl) ?_
  refine lv_aload_n hx hb dl_832 rfl (lv_at hl 4 rfl) ?_
  refine lv_iload hx hb dl_833 (lv_at hl 0 rfl) ?_
  refine lv_iconst (v := 1) hx hb dl_835 (by decide) ?_
  refine lv_iadd hx hb dl_836 ?_
  refine va_sld hx hb hX hbl hbA hS (vIk (k := 1) (by decide) (by decide) hi hL) dl_837 ?_
  refine z_law (rest := []) C (x := 130) (idx := 94) (by decide) (by decide +kernel) (List.mem_append_right _ (List.mem_of_getElem? (i := 855) (by decide +kernel))) dl_838 (by decide +kernel) (by decide +kernel) rfl rfl (by decide +kernel) (show cells ≤ 1129 by omega) (show slots ≤ 17054 by omega) q1 (Nat.le_of_ble_eq_true rfl) hWx hS hx0 hbx ⟨_, _, rfl, rfl, rfl⟩ rfl hl.1 (Nat.le_of_ble_eq_true rfl) rfl (fun v ws1 tys1 H1 locs1 hO hpre hW1 hD1 hk1 hS => ?_)
  obtain ⟨_, rfl, rfl⟩ := hO
  obtain ⟨hWm, hdis⟩ := hWm.other hdis hk1 hD1
  obtain ⟨hPo, hdx⟩ := z_other hPo hdx hk1 hD1
  have hWx := hW1
  have hbx := zpre_at hpre hbx
  refine lv_pop hx hb dl_841 rfl ?_
  refine lv_aload_n hx hb dl_842 rfl (lv_at hl 2 rfl) ?_
  refine lv_aload_n hx hb dl_843 rfl (lv_at hl 4 rfl) ?_
  refine lv_iload hx hb dl_844 (lv_at hl 0 rfl) ?_
  refine lv_iconst (v := 1) hx hb dl_846 (by decide) ?_
  refine lv_iadd hx hb dl_847 ?_
  refine va_sld hx hb hX hbl hbA hS (vIk (k := 1) (by decide) (by decide) hi hL) dl_848 ?_
  refine z_law (rest := []) C (x := 229) (idx := 97) (by decide) (by decide +kernel) (List.mem_append_right _ (List.mem_of_getElem? (i := 1579) (by decide +kernel))) dl_849 (by decide +kernel) (by decide +kernel) rfl rfl (by decide +kernel) (show cells ≤ 1129 by omega) (show slots ≤ 17054 by omega) q2 (Nat.le_of_ble_eq_true rfl) hWm hS hm0 hbm ⟨_, _, rfl, rfl, rfl⟩ rfl hl.1 (Nat.le_of_ble_eq_true rfl) rfl (fun v ws1 tys1 H1 locs1 hO hpre hW1 hD1 hk1 hS => ?_)
  obtain ⟨_, rfl, rfl⟩ := hO
  obtain ⟨hWx, hdis2⟩ := hWx.other hdis.symm hk1 hD1
  obtain ⟨hPo, hdm⟩ := z_other hPo hdm hk1 hD1
  have hbm := zpre_at hpre hbm
  refine lv_pop hx hb dl_852 rfl ?_
  refine lv_goto (tgt := 1570) hx hb dl_853 (by decide) ?_
  exact W.widen (by omega) (by omega) (KK _ _ _ ⟨_, _, _, _, cA, fo, Gx, Gm, hWx, hW1, hdis2.symm, hPo, hKo, hDo, hdx, hdm, hS, hbx, hbm, hl, hIv2⟩)
set_option maxRecDepth 100000 in
set_option maxHeartbeats 4000000 in
theorem law_17 {p : Program} {l : Launch} {e : Env} {s : State} {m : MethodId} {below : List Frame} {meth : Method} {c : Code} {b L : Nat} {xs : Nat → Int32} {D : va_G} {bx bm qo : Nat} {i : Int32} {H : Heap} {locs : List Loc} {ls : Array Slot} {cells slots : Nat} {Q : State → Prop} (F : zFx p s m meth c b L xs) (hi : 0 ≤ i.toInt ∧ i.toInt + 6 ≤ L) (hc : cells + 1 ≤ 1129) (hs : slots + 6 ≤ 17054) (B : zBe s b D bx bm qo i H locs ls) (KK : ∀ (H : Heap) (locs : List Loc) (ls : Array Slot), zBe s b D bx bm qo i H locs ls → W p l e room_1 s m #[Value.ref b] below meth c H locs (cells + 1) (slots + 6) Q (F0 m 1570 ls [])) : W p l e room_1 s m #[Value.ref b] below meth c H locs cells slots Q (F0 m 856 ls []) := by
  obtain ⟨C, hX, hbl, hr, hlocks, hL⟩ := id F
  obtain ⟨hx, hb, hml, hown, hts, hN, hZt⟩ := id C
  have hbA : ¬ zA s b := Nat.not_le.mpr hbl
  obtain ⟨wsx, wsm, tysx, tysm, cA, fo, Hx, Hm, hWx, hWm, hdis, hPo, hKo, hDo, hdx, hdm, hS, hbx, hbm, hl, hIv⟩ := B
  obtain ⟨f, rx, rm, Gx, Gm, q1, q2, hIv2, hE⟩ := step_17 (xs (i + 1).toNatClampNeg) (xs (i + 2).toNatClampNeg) (xs (i + 3).toNatClampNeg) hIv
  obtain ⟨vx0, hx0, -, -⟩ := gI_obj hIv.1.1 sx_0
  obtain ⟨vm0, hm0, -, -⟩ := gI_obj hIv.2.1.1 sm_0
  refine lv_aload_n hx hb dl_856 rfl (lv_at hl 3 rfl) ?_
  refine lv_aload_n hx hb dl_857 rfl (lv_at hl 4 rfl) ?_
  refine lv_iload hx hb dl_858 (lv_at hl 0 rfl) ?_
  refine lv_iconst (v := 1) hx hb dl_860 (by decide) ?_
  refine lv_iadd hx hb dl_861 ?_
  refine va_sld hx hb hX hbl hbA hS (vIk (k := 1) (by decide) (by decide) hi hL) dl_862 ?_
  refine lv_aload_n hx hb dl_863 rfl (lv_at hl 4 rfl) ?_
  refine lv_iload hx hb dl_864 (lv_at hl 0 rfl) ?_
  refine lv_iconst (v := 2) hx hb dl_866 (by decide) ?_
  refine lv_iadd hx hb dl_867 ?_
  refine va_sld hx hb hX hbl hbA hS (vIk (k := 2) (by decide) (by decide) hi hL) dl_868 ?_
  refine lv_aload_n hx hb dl_869 rfl (lv_at hl 4 rfl) ?_
  refine lv_iload hx hb dl_870 (lv_at hl 0 rfl) ?_
  refine lv_iconst (v := 3) hx hb dl_872 (by decide) ?_
  refine lv_iadd hx hb dl_873 ?_
  refine va_sld hx hb hX hbl hbA hS (vIk (k := 3) (by decide) (by decide) hi hL) dl_874 ?_
  refine z_law (rest := []) C (x := 131) (idx := 98) (by decide) (by decide +kernel) (List.mem_append_right _ (List.mem_of_getElem? (i := 873) (by decide +kernel))) dl_875 (by decide +kernel) (by decide +kernel) rfl rfl (by decide +kernel) (show cells ≤ 1129 by omega) (show slots ≤ 17054 by omega) q1 (Nat.le_of_ble_eq_true rfl) hWx hS hx0 hbx ⟨_, _, rfl, rfl, ⟨_, _, rfl, rfl, ⟨_, _, rfl, rfl, rfl⟩⟩⟩ rfl hl.1 (Nat.le_of_ble_eq_true rfl) rfl (fun v ws1 tys1 H1 locs1 hO hpre hW1 hD1 hk1 hS => ?_)
  obtain ⟨_, rfl, rfl⟩ := hO
  obtain ⟨hWm, hdis⟩ := hWm.other hdis hk1 hD1
  obtain ⟨hPo, hdx⟩ := z_other hPo hdx hk1 hD1
  have hWx := hW1
  have hbx := zpre_at hpre hbx
  refine lv_pop hx hb dl_878 rfl ?_
  refine lv_aload_n hx hb dl_879 rfl (lv_at hl 2 rfl) ?_
  refine lv_aload_n hx hb dl_880 rfl (lv_at hl 4 rfl) ?_
  refine lv_iload hx hb dl_881 (lv_at hl 0 rfl) ?_
  refine lv_iconst (v := 1) hx hb dl_883 (by decide) ?_
  refine lv_iadd hx hb dl_884 ?_
  refine va_sld hx hb hX hbl hbA hS (vIk (k := 1) (by decide) (by decide) hi hL) dl_885 ?_
  refine lv_aload_n hx hb dl_886 rfl (lv_at hl 4 rfl) ?_
  refine lv_iload hx hb dl_887 (lv_at hl 0 rfl) ?_
  refine lv_iconst (v := 2) hx hb dl_889 (by decide) ?_
  refine lv_iadd hx hb dl_890 ?_
  refine va_sld hx hb hX hbl hbA hS (vIk (k := 2) (by decide) (by decide) hi hL) dl_891 ?_
  refine lv_aload_n hx hb dl_892 rfl (lv_at hl 4 rfl) ?_
  refine lv_iload hx hb dl_893 (lv_at hl 0 rfl) ?_
  refine lv_iconst (v := 3) hx hb dl_895 (by decide) ?_
  refine lv_iadd hx hb dl_896 ?_
  refine va_sld hx hb hX hbl hbA hS (vIk (k := 3) (by decide) (by decide) hi hL) dl_897 ?_
  refine z_law (rest := []) C (x := 238) (idx := 101) (by decide) (by decide +kernel) (List.mem_append_right _ (List.mem_of_getElem? (i := 1607) (by decide +kernel))) dl_898 (by decide +kernel) (by decide +kernel) rfl rfl (by decide +kernel) (show cells ≤ 1129 by omega) (show slots ≤ 17054 by omega) q2 (Nat.le_of_ble_eq_true rfl) hWm hS hm0 hbm ⟨_, _, rfl, rfl, ⟨_, _, rfl, rfl, ⟨_, _, rfl, rfl, rfl⟩⟩⟩ rfl hl.1 (Nat.le_of_ble_eq_true rfl) rfl (fun v ws1 tys1 H1 locs1 hO hpre hW1 hD1 hk1 hS => ?_)
  obtain ⟨_, rfl, rfl⟩ := hO
  obtain ⟨hWx, hdis2⟩ := hWx.other hdis.symm hk1 hD1
  obtain ⟨hPo, hdm⟩ := z_other hPo hdm hk1 hD1
  have hbm := zpre_at hpre hbm
  refine lv_pop hx hb dl_901 rfl ?_
  refine lv_goto (tgt := 1570) hx hb dl_902 (by decide) ?_
  exact W.widen (by omega) (by omega) (KK _ _ _ ⟨_, _, _, _, cA, fo, Gx, Gm, hWx, hW1, hdis2.symm, hPo, hKo, hDo, hdx, hdm, hS, hbx, hbm, hl, hIv2⟩)
set_option maxRecDepth 100000 in
set_option maxHeartbeats 4000000 in
theorem law_18 {p : Program} {l : Launch} {e : Env} {s : State} {m : MethodId} {below : List Frame} {meth : Method} {c : Code} {b L : Nat} {xs : Nat → Int32} {D : va_G} {bx bm qo : Nat} {i : Int32} {H : Heap} {locs : List Loc} {ls : Array Slot} {cells slots : Nat} {Q : State → Prop} (F : zFx p s m meth c b L xs) (hi : 0 ≤ i.toInt ∧ i.toInt + 6 ≤ L) (hc : cells + 1 ≤ 1129) (hs : slots + 6 ≤ 17054) (B : zBe s b D bx bm qo i H locs ls) (KK : ∀ (H : Heap) (locs : List Loc) (ls : Array Slot), zBe s b D bx bm qo i H locs ls → W p l e room_1 s m #[Value.ref b] below meth c H locs (cells + 1) (slots + 6) Q (F0 m 1570 ls [])) : W p l e room_1 s m #[Value.ref b] below meth c H locs cells slots Q (F0 m 905 ls []) := by
  obtain ⟨C, hX, hbl, hr, hlocks, hL⟩ := id F
  obtain ⟨hx, hb, hml, hown, hts, hN, hZt⟩ := id C
  have hbA : ¬ zA s b := Nat.not_le.mpr hbl
  obtain ⟨wsx, wsm, tysx, tysm, cA, fo, Hx, Hm, hWx, hWm, hdis, hPo, hKo, hDo, hdx, hdm, hS, hbx, hbm, hl, hIv⟩ := B
  obtain ⟨f, rx, rm, Gx, Gm, q1, q2, hIv2, hE⟩ := step_18 (xs (i + 1).toNatClampNeg) (xs (i + 2).toNatClampNeg) (xs (i + 3).toNatClampNeg) (xs (i + 4).toNatClampNeg) hIv
  obtain ⟨vx0, hx0, -, -⟩ := gI_obj hIv.1.1 sx_0
  obtain ⟨vm0, hm0, -, -⟩ := gI_obj hIv.2.1.1 sm_0
  refine lv_aload_n hx hb dl_905 rfl (lv_at hl 3 rfl) ?_
  refine lv_aload_n hx hb dl_906 rfl (lv_at hl 4 rfl) ?_
  refine lv_iload hx hb dl_907 (lv_at hl 0 rfl) ?_
  refine lv_iconst (v := 1) hx hb dl_909 (by decide) ?_
  refine lv_iadd hx hb dl_910 ?_
  refine va_sld hx hb hX hbl hbA hS (vIk (k := 1) (by decide) (by decide) hi hL) dl_911 ?_
  refine lv_aload_n hx hb dl_912 rfl (lv_at hl 4 rfl) ?_
  refine lv_iload hx hb dl_913 (lv_at hl 0 rfl) ?_
  refine lv_iconst (v := 2) hx hb dl_915 (by decide) ?_
  refine lv_iadd hx hb dl_916 ?_
  refine va_sld hx hb hX hbl hbA hS (vIk (k := 2) (by decide) (by decide) hi hL) dl_917 ?_
  refine lv_aload_n hx hb dl_918 rfl (lv_at hl 4 rfl) ?_
  refine lv_iload hx hb dl_919 (lv_at hl 0 rfl) ?_
  refine lv_iconst (v := 3) hx hb dl_921 (by decide) ?_
  refine lv_iadd hx hb dl_922 ?_
  refine va_sld hx hb hX hbl hbA hS (vIk (k := 3) (by decide) (by decide) hi hL) dl_923 ?_
  refine lv_aload_n hx hb dl_924 rfl (lv_at hl 4 rfl) ?_
  refine lv_iload hx hb dl_925 (lv_at hl 0 rfl) ?_
  refine lv_iconst (v := 4) hx hb dl_927 (by decide) ?_
  refine lv_iadd hx hb dl_928 ?_
  refine va_sld hx hb hX hbl hbA hS (vIk (k := 4) (by decide) (by decide) hi hL) dl_929 ?_
  refine z_law (rest := []) C (x := 132) (idx := 102) (by decide) (by decide +kernel) (List.mem_append_right _ (List.mem_of_getElem? (i := 887) (by decide +kernel))) dl_930 (by decide +kernel) (by decide +kernel) rfl rfl (by decide +kernel) (show cells ≤ 1129 by omega) (show slots ≤ 17054 by omega) q1 (Nat.le_of_ble_eq_true rfl) hWx hS hx0 hbx ⟨_, _, rfl, rfl, ⟨_, _, rfl, rfl, ⟨_, _, rfl, rfl, ⟨_, _, rfl, rfl, rfl⟩⟩⟩⟩ rfl hl.1 (Nat.le_of_ble_eq_true rfl) rfl (fun v ws1 tys1 H1 locs1 hO hpre hW1 hD1 hk1 hS => ?_)
  obtain ⟨_, rfl, rfl⟩ := hO
  obtain ⟨hWm, hdis⟩ := hWm.other hdis hk1 hD1
  obtain ⟨hPo, hdx⟩ := z_other hPo hdx hk1 hD1
  have hWx := hW1
  have hbx := zpre_at hpre hbx
  refine lv_pop hx hb dl_933 rfl ?_
  refine lv_aload_n hx hb dl_934 rfl (lv_at hl 2 rfl) ?_
  refine lv_aload_n hx hb dl_935 rfl (lv_at hl 4 rfl) ?_
  refine lv_iload hx hb dl_936 (lv_at hl 0 rfl) ?_
  refine lv_iconst (v := 1) hx hb dl_938 (by decide) ?_
  refine lv_iadd hx hb dl_939 ?_
  refine va_sld hx hb hX hbl hbA hS (vIk (k := 1) (by decide) (by decide) hi hL) dl_940 ?_
  refine lv_aload_n hx hb dl_941 rfl (lv_at hl 4 rfl) ?_
  refine lv_iload hx hb dl_942 (lv_at hl 0 rfl) ?_
  refine lv_iconst (v := 2) hx hb dl_944 (by decide) ?_
  refine lv_iadd hx hb dl_945 ?_
  refine va_sld hx hb hX hbl hbA hS (vIk (k := 2) (by decide) (by decide) hi hL) dl_946 ?_
  refine lv_aload_n hx hb dl_947 rfl (lv_at hl 4 rfl) ?_
  refine lv_iload hx hb dl_948 (lv_at hl 0 rfl) ?_
  refine lv_iconst (v := 3) hx hb dl_950 (by decide) ?_
  refine lv_iadd hx hb dl_951 ?_
  refine va_sld hx hb hX hbl hbA hS (vIk (k := 3) (by decide) (by decide) hi hL) dl_952 ?_
  refine lv_aload_n hx hb dl_953 rfl (lv_at hl 4 rfl) ?_
  refine lv_iload hx hb dl_954 (lv_at hl 0 rfl) ?_
  refine lv_iconst (v := 4) hx hb dl_956 (by decide) ?_
  refine lv_iadd hx hb dl_957 ?_
  refine va_sld hx hb hX hbl hbA hS (vIk (k := 4) (by decide) (by decide) hi hL) dl_958 ?_
  refine z_law (rest := []) C (x := 240) (idx := 106) (by decide) (by decide +kernel) (List.mem_append_right _ (List.mem_of_getElem? (i := 1618) (by decide +kernel))) dl_959 (by decide +kernel) (by decide +kernel) rfl rfl (by decide +kernel) (show cells ≤ 1129 by omega) (show slots ≤ 17054 by omega) q2 (Nat.le_of_ble_eq_true rfl) hWm hS hm0 hbm ⟨_, _, rfl, rfl, ⟨_, _, rfl, rfl, ⟨_, _, rfl, rfl, ⟨_, _, rfl, rfl, rfl⟩⟩⟩⟩ rfl hl.1 (Nat.le_of_ble_eq_true rfl) rfl (fun v ws1 tys1 H1 locs1 hO hpre hW1 hD1 hk1 hS => ?_)
  obtain ⟨_, rfl, rfl⟩ := hO
  obtain ⟨hWx, hdis2⟩ := hWx.other hdis.symm hk1 hD1
  obtain ⟨hPo, hdm⟩ := z_other hPo hdm hk1 hD1
  have hbm := zpre_at hpre hbm
  refine lv_pop hx hb dl_962 rfl ?_
  refine lv_goto (tgt := 1570) hx hb dl_963 (by decide) ?_
  exact W.widen (by omega) (by omega) (KK _ _ _ ⟨_, _, _, _, cA, fo, Gx, Gm, hWx, hW1, hdis2.symm, hPo, hKo, hDo, hdx, hdm, hS, hbx, hbm, hl, hIv2⟩)
set_option maxRecDepth 100000 in
set_option maxHeartbeats 4000000 in
theorem law_19 {p : Program} {l : Launch} {e : Env} {s : State} {m : MethodId} {below : List Frame} {meth : Method} {c : Code} {b L : Nat} {xs : Nat → Int32} {D : va_G} {bx bm qo : Nat} {i : Int32} {H : Heap} {locs : List Loc} {ls : Array Slot} {cells slots : Nat} {Q : State → Prop} (F : zFx p s m meth c b L xs) (hi : 0 ≤ i.toInt ∧ i.toInt + 6 ≤ L) (hc : cells + 1 ≤ 1129) (hs : slots + 6 ≤ 17054) (B : zBe s b D bx bm qo i H locs ls) (KK : ∀ (H : Heap) (locs : List Loc) (ls : Array Slot), zBe s b D bx bm qo i H locs ls → W p l e room_1 s m #[Value.ref b] below meth c H locs (cells + 1) (slots + 6) Q (F0 m 1570 ls [])) : W p l e room_1 s m #[Value.ref b] below meth c H locs cells slots Q (F0 m 966 ls []) := by
  obtain ⟨C, hX, hbl, hr, hlocks, hL⟩ := id F
  obtain ⟨hx, hb, hml, hown, hts, hN, hZt⟩ := id C
  have hbA : ¬ zA s b := Nat.not_le.mpr hbl
  obtain ⟨wsx, wsm, tysx, tysm, cA, fo, Hx, Hm, hWx, hWm, hdis, hPo, hKo, hDo, hdx, hdm, hS, hbx, hbm, hl, hIv⟩ := B
  obtain ⟨f, rx, rm, Gx, Gm, q1, q2, hIv2, hE⟩ := step_19 (xs (i + 1).toNatClampNeg) hIv
  obtain ⟨vx0, hx0, -, -⟩ := gI_obj hIv.1.1 sx_0
  obtain ⟨vm0, hm0, -, -⟩ := gI_obj hIv.2.1.1 sm_0
  refine lv_aload_n hx hb dl_966 rfl (lv_at hl 3 rfl) ?_
  refine lv_aload_n hx hb dl_967 rfl (lv_at hl 4 rfl) ?_
  refine lv_iload hx hb dl_968 (lv_at hl 0 rfl) ?_
  refine lv_iconst (v := 1) hx hb dl_970 (by decide) ?_
  refine lv_iadd hx hb dl_971 ?_
  refine va_sld hx hb hX hbl hbA hS (vIk (k := 1) (by decide) (by decide) hi hL) dl_972 ?_
  refine z_law (rest := []) C (x := 133) (idx := 107) (by decide) (by decide +kernel) (List.mem_append_right _ (List.mem_of_getElem? (i := 896) (by decide +kernel))) dl_973 (by decide +kernel) (by decide +kernel) rfl rfl (by decide +kernel) (show cells ≤ 1129 by omega) (show slots ≤ 17054 by omega) q1 (Nat.le_of_ble_eq_true rfl) hWx hS hx0 hbx ⟨_, _, rfl, rfl, rfl⟩ rfl hl.1 (Nat.le_of_ble_eq_true rfl) rfl (fun v ws1 tys1 H1 locs1 hO hpre hW1 hD1 hk1 hS => ?_)
  obtain ⟨_, rfl, rfl⟩ := hO
  obtain ⟨hWm, hdis⟩ := hWm.other hdis hk1 hD1
  obtain ⟨hPo, hdx⟩ := z_other hPo hdx hk1 hD1
  have hWx := hW1
  have hbx := zpre_at hpre hbx
  refine lv_pop hx hb dl_976 rfl ?_
  refine lv_aload_n hx hb dl_977 rfl (lv_at hl 2 rfl) ?_
  refine lv_aload_n hx hb dl_978 rfl (lv_at hl 4 rfl) ?_
  refine lv_iload hx hb dl_979 (lv_at hl 0 rfl) ?_
  refine lv_iconst (v := 1) hx hb dl_981 (by decide) ?_
  refine lv_iadd hx hb dl_982 ?_
  refine va_sld hx hb hX hbl hbA hS (vIk (k := 1) (by decide) (by decide) hi hL) dl_983 ?_
  refine z_law (rest := []) C (x := 241) (idx := 110) (by decide) (by decide +kernel) (List.mem_append_right _ (List.mem_of_getElem? (i := 1626) (by decide +kernel))) dl_984 (by decide +kernel) (by decide +kernel) rfl rfl (by decide +kernel) (show cells ≤ 1129 by omega) (show slots ≤ 17054 by omega) q2 (Nat.le_of_ble_eq_true rfl) hWm hS hm0 hbm ⟨_, _, rfl, rfl, rfl⟩ rfl hl.1 (Nat.le_of_ble_eq_true rfl) rfl (fun v ws1 tys1 H1 locs1 hO hpre hW1 hD1 hk1 hS => ?_)
  obtain ⟨_, rfl, rfl⟩ := hO
  obtain ⟨hWx, hdis2⟩ := hWx.other hdis.symm hk1 hD1
  obtain ⟨hPo, hdm⟩ := z_other hPo hdm hk1 hD1
  have hbm := zpre_at hpre hbm
  refine lv_pop hx hb dl_987 rfl ?_
  refine lv_goto (tgt := 1570) hx hb dl_988 (by decide) ?_
  exact W.widen (by omega) (by omega) (KK _ _ _ ⟨_, _, _, _, cA, fo, Gx, Gm, hWx, hW1, hdis2.symm, hPo, hKo, hDo, hdx, hdm, hS, hbx, hbm, hl, hIv2⟩)
set_option maxRecDepth 100000 in
set_option maxHeartbeats 4000000 in
theorem law_20 {p : Program} {l : Launch} {e : Env} {s : State} {m : MethodId} {below : List Frame} {meth : Method} {c : Code} {b L : Nat} {xs : Nat → Int32} {D : va_G} {bx bm qo : Nat} {i : Int32} {H : Heap} {locs : List Loc} {ls : Array Slot} {cells slots : Nat} {Q : State → Prop} (F : zFx p s m meth c b L xs) (hi : 0 ≤ i.toInt ∧ i.toInt + 6 ≤ L) (hc : cells + 1 ≤ 1129) (hs : slots + 6 ≤ 17054) (B : zBe s b D bx bm qo i H locs ls) (KK : ∀ (H : Heap) (locs : List Loc) (ls : Array Slot), zBe s b D bx bm qo i H locs ls → W p l e room_1 s m #[Value.ref b] below meth c H locs (cells + 1) (slots + 6) Q (F0 m 1570 ls [])) : W p l e room_1 s m #[Value.ref b] below meth c H locs cells slots Q (F0 m 991 ls []) := by
  obtain ⟨C, hX, hbl, hr, hlocks, hL⟩ := id F
  obtain ⟨hx, hb, hml, hown, hts, hN, hZt⟩ := id C
  have hbA : ¬ zA s b := Nat.not_le.mpr hbl
  obtain ⟨wsx, wsm, tysx, tysm, cA, fo, Hx, Hm, hWx, hWm, hdis, hPo, hKo, hDo, hdx, hdm, hS, hbx, hbm, hl, hIv⟩ := B
  obtain ⟨f, rx, rm, Gx, Gm, q1, q2, hIv2, hE⟩ := step_20 (xs (i + 1).toNatClampNeg) (xs (i + 2).toNatClampNeg) hIv
  obtain ⟨vx0, hx0, -, -⟩ := gI_obj hIv.1.1 sx_0
  obtain ⟨vm0, hm0, -, -⟩ := gI_obj hIv.2.1.1 sm_0
  refine lv_aload_n hx hb dl_991 rfl (lv_at hl 3 rfl) ?_
  refine lv_aload_n hx hb dl_992 rfl (lv_at hl 4 rfl) ?_
  refine lv_iload hx hb dl_993 (lv_at hl 0 rfl) ?_
  refine lv_iconst (v := 1) hx hb dl_995 (by decide) ?_
  refine lv_iadd hx hb dl_996 ?_
  refine va_sld hx hb hX hbl hbA hS (vIk (k := 1) (by decide) (by decide) hi hL) dl_997 ?_
  refine lv_aload_n hx hb dl_998 rfl (lv_at hl 4 rfl) ?_
  refine lv_iload hx hb dl_999 (lv_at hl 0 rfl) ?_
  refine lv_iconst (v := 2) hx hb dl_1001 (by decide) ?_
  refine lv_iadd hx hb dl_1002 ?_
  refine va_sld hx hb hX hbl hbA hS (vIk (k := 2) (by decide) (by decide) hi hL) dl_1003 ?_
  refine z_law (rest := []) C (x := 134) (idx := 111) (by decide) (by decide +kernel) (List.mem_append_right _ (List.mem_of_getElem? (i := 906) (by decide +kernel))) dl_1004 (by decide +kernel) (by decide +kernel) rfl rfl (by decide +kernel) (show cells ≤ 1129 by omega) (show slots ≤ 17054 by omega) q1 (Nat.le_of_ble_eq_true rfl) hWx hS hx0 hbx ⟨_, _, rfl, rfl, ⟨_, _, rfl, rfl, rfl⟩⟩ rfl hl.1 (Nat.le_of_ble_eq_true rfl) rfl (fun v ws1 tys1 H1 locs1 hO hpre hW1 hD1 hk1 hS => ?_)
  obtain ⟨_, rfl, rfl⟩ := hO
  obtain ⟨hWm, hdis⟩ := hWm.other hdis hk1 hD1
  obtain ⟨hPo, hdx⟩ := z_other hPo hdx hk1 hD1
  have hWx := hW1
  have hbx := zpre_at hpre hbx
  refine lv_pop hx hb dl_1007 rfl ?_
  refine lv_aload_n hx hb dl_1008 rfl (lv_at hl 2 rfl) ?_
  refine lv_aload_n hx hb dl_1009 rfl (lv_at hl 4 rfl) ?_
  refine lv_iload hx hb dl_1010 (lv_at hl 0 rfl) ?_
  refine lv_iconst (v := 1) hx hb dl_1012 (by decide) ?_
  refine lv_iadd hx hb dl_1013 ?_
  refine va_sld hx hb hX hbl hbA hS (vIk (k := 1) (by decide) (by decide) hi hL) dl_1014 ?_
  refine lv_aload_n hx hb dl_1015 rfl (lv_at hl 4 rfl) ?_
  refine lv_iload hx hb dl_1016 (lv_at hl 0 rfl) ?_
  refine lv_iconst (v := 2) hx hb dl_1018 (by decide) ?_
  refine lv_iadd hx hb dl_1019 ?_
  refine va_sld hx hb hX hbl hbA hS (vIk (k := 2) (by decide) (by decide) hi hL) dl_1020 ?_
  refine z_law (rest := []) C (x := 243) (idx := 114) (by decide) (by decide +kernel) (List.mem_append_right _ (List.mem_of_getElem? (i := 1630) (by decide +kernel))) dl_1021 (by decide +kernel) (by decide +kernel) rfl rfl (by decide +kernel) (show cells ≤ 1129 by omega) (show slots ≤ 17054 by omega) q2 (Nat.le_of_ble_eq_true rfl) hWm hS hm0 hbm ⟨_, _, rfl, rfl, ⟨_, _, rfl, rfl, rfl⟩⟩ rfl hl.1 (Nat.le_of_ble_eq_true rfl) rfl (fun v ws1 tys1 H1 locs1 hO hpre hW1 hD1 hk1 hS => ?_)
  obtain ⟨_, rfl, rfl⟩ := hO
  obtain ⟨hWx, hdis2⟩ := hWx.other hdis.symm hk1 hD1
  obtain ⟨hPo, hdm⟩ := z_other hPo hdm hk1 hD1
  have hbm := zpre_at hpre hbm
  refine lv_pop hx hb dl_1024 rfl ?_
  refine lv_goto (tgt := 1570) hx hb dl_1025 (by decide) ?_
  exact W.widen (by omega) (by omega) (KK _ _ _ ⟨_, _, _, _, cA, fo, Gx, Gm, hWx, hW1, hdis2.symm, hPo, hKo, hDo, hdx, hdm, hS, hbx, hbm, hl, hIv2⟩)
set_option maxRecDepth 100000 in
set_option maxHeartbeats 4000000 in
theorem law_21 {p : Program} {l : Launch} {e : Env} {s : State} {m : MethodId} {below : List Frame} {meth : Method} {c : Code} {b L : Nat} {xs : Nat → Int32} {D : va_G} {bx bm qo : Nat} {i : Int32} {H : Heap} {locs : List Loc} {ls : Array Slot} {cells slots : Nat} {Q : State → Prop} (F : zFx p s m meth c b L xs) (hi : 0 ≤ i.toInt ∧ i.toInt + 6 ≤ L) (hc : cells + 1 ≤ 1129) (hs : slots + 6 ≤ 17054) (B : zBe s b D bx bm qo i H locs ls) (KK : ∀ (H : Heap) (locs : List Loc) (ls : Array Slot), zBe s b D bx bm qo i H locs ls → W p l e room_1 s m #[Value.ref b] below meth c H locs (cells + 1) (slots + 6) Q (F0 m 1570 ls [])) : W p l e room_1 s m #[Value.ref b] below meth c H locs cells slots Q (F0 m 1028 ls []) := by
  obtain ⟨C, hX, hbl, hr, hlocks, hL⟩ := id F
  obtain ⟨hx, hb, hml, hown, hts, hN, hZt⟩ := id C
  have hbA : ¬ zA s b := Nat.not_le.mpr hbl
  obtain ⟨wsx, wsm, tysx, tysm, cA, fo, Hx, Hm, hWx, hWm, hdis, hPo, hKo, hDo, hdx, hdm, hS, hbx, hbm, hl, hIv⟩ := B
  obtain ⟨f, rx, rm, Gx, Gm, q1, q2, hIv2, hE⟩ := step_21 (xs (i + 1).toNatClampNeg) (xs (i + 2).toNatClampNeg) hIv
  obtain ⟨vx0, hx0, -, -⟩ := gI_obj hIv.1.1 sx_0
  obtain ⟨vm0, hm0, -, -⟩ := gI_obj hIv.2.1.1 sm_0
  refine lv_aload_n hx hb dl_1028 rfl (lv_at hl 3 rfl) ?_
  refine lv_aload_n hx hb dl_1029 rfl (lv_at hl 4 rfl) ?_
  refine lv_iload hx hb dl_1030 (lv_at hl 0 rfl) ?_
  refine lv_iconst (v := 1) hx hb dl_1032 (by decide) ?_
  refine lv_iadd hx hb dl_1033 ?_
  refine va_sld hx hb hX hbl hbA hS (vIk (k := 1) (by decide) (by decide) hi hL) dl_1034 ?_
  refine lv_aload_n hx hb dl_1035 rfl (lv_at hl 4 rfl) ?_
  refine lv_iload hx hb dl_1036 (lv_at hl 0 rfl) ?_
  refine lv_iconst (v := 2) hx hb dl_1038 (by decide) ?_
  refine lv_iadd hx hb dl_1039 ?_
  refine va_sld hx hb hX hbl hbA hS (vIk (k := 2) (by decide) (by decide) hi hL) dl_1040 ?_
  refine z_law (rest := []) C (x := 135) (idx := 115) (by decide) (by decide +kernel) (List.mem_append_right _ (List.mem_of_getElem? (i := 914) (by decide +kernel))) dl_1041 (by decide +kernel) (by decide +kernel) rfl rfl (by decide +kernel) (show cells ≤ 1129 by omega) (show slots ≤ 17054 by omega) q1 (Nat.le_of_ble_eq_true rfl) hWx hS hx0 hbx ⟨_, _, rfl, rfl, ⟨_, _, rfl, rfl, rfl⟩⟩ rfl hl.1 (Nat.le_of_ble_eq_true rfl) rfl (fun v ws1 tys1 H1 locs1 hO hpre hW1 hD1 hk1 hS => ?_)
  obtain ⟨_, rfl, rfl⟩ := hO
  obtain ⟨hWm, hdis⟩ := hWm.other hdis hk1 hD1
  obtain ⟨hPo, hdx⟩ := z_other hPo hdx hk1 hD1
  have hWx := hW1
  have hbx := zpre_at hpre hbx
  refine lv_pop hx hb dl_1044 rfl ?_
  refine lv_aload_n hx hb dl_1045 rfl (lv_at hl 2 rfl) ?_
  refine lv_aload_n hx hb dl_1046 rfl (lv_at hl 4 rfl) ?_
  refine lv_iload hx hb dl_1047 (lv_at hl 0 rfl) ?_
  refine lv_iconst (v := 1) hx hb dl_1049 (by decide) ?_
  refine lv_iadd hx hb dl_1050 ?_
  refine va_sld hx hb hX hbl hbA hS (vIk (k := 1) (by decide) (by decide) hi hL) dl_1051 ?_
  refine lv_aload_n hx hb dl_1052 rfl (lv_at hl 4 rfl) ?_
  refine lv_iload hx hb dl_1053 (lv_at hl 0 rfl) ?_
  refine lv_iconst (v := 2) hx hb dl_1055 (by decide) ?_
  refine lv_iadd hx hb dl_1056 ?_
  refine va_sld hx hb hX hbl hbA hS (vIk (k := 2) (by decide) (by decide) hi hL) dl_1057 ?_
  refine z_law (rest := []) C (x := 244) (idx := 118) (by decide) (by decide +kernel) (List.mem_append_right _ (List.mem_of_getElem? (i := 1638) (by decide +kernel))) dl_1058 (by decide +kernel) (by decide +kernel) rfl rfl (by decide +kernel) (show cells ≤ 1129 by omega) (show slots ≤ 17054 by omega) q2 (Nat.le_of_ble_eq_true rfl) hWm hS hm0 hbm ⟨_, _, rfl, rfl, ⟨_, _, rfl, rfl, rfl⟩⟩ rfl hl.1 (Nat.le_of_ble_eq_true rfl) rfl (fun v ws1 tys1 H1 locs1 hO hpre hW1 hD1 hk1 hS => ?_)
  obtain ⟨_, rfl, rfl⟩ := hO
  obtain ⟨hWx, hdis2⟩ := hWx.other hdis.symm hk1 hD1
  obtain ⟨hPo, hdm⟩ := z_other hPo hdm hk1 hD1
  have hbm := zpre_at hpre hbm
  refine lv_pop hx hb dl_1061 rfl ?_
  refine lv_goto (tgt := 1570) hx hb dl_1062 (by decide) ?_
  exact W.widen (by omega) (by omega) (KK _ _ _ ⟨_, _, _, _, cA, fo, Gx, Gm, hWx, hW1, hdis2.symm, hPo, hKo, hDo, hdx, hdm, hS, hbx, hbm, hl, hIv2⟩)
set_option maxRecDepth 100000 in
set_option maxHeartbeats 4000000 in
theorem law_22 {p : Program} {l : Launch} {e : Env} {s : State} {m : MethodId} {below : List Frame} {meth : Method} {c : Code} {b L : Nat} {xs : Nat → Int32} {D : va_G} {bx bm qo : Nat} {i : Int32} {H : Heap} {locs : List Loc} {ls : Array Slot} {cells slots : Nat} {Q : State → Prop} (F : zFx p s m meth c b L xs) (hi : 0 ≤ i.toInt ∧ i.toInt + 6 ≤ L) (hc : cells + 1 ≤ 1129) (hs : slots + 6 ≤ 17054) (B : zBe s b D bx bm qo i H locs ls) (KK : ∀ (H : Heap) (locs : List Loc) (ls : Array Slot), zBe s b D bx bm qo i H locs ls → W p l e room_1 s m #[Value.ref b] below meth c H locs (cells + 1) (slots + 6) Q (F0 m 1570 ls [])) : W p l e room_1 s m #[Value.ref b] below meth c H locs cells slots Q (F0 m 1065 ls []) := by
  obtain ⟨C, hX, hbl, hr, hlocks, hL⟩ := id F
  obtain ⟨hx, hb, hml, hown, hts, hN, hZt⟩ := id C
  have hbA : ¬ zA s b := Nat.not_le.mpr hbl
  obtain ⟨wsx, wsm, tysx, tysm, cA, fo, Hx, Hm, hWx, hWm, hdis, hPo, hKo, hDo, hdx, hdm, hS, hbx, hbm, hl, hIv⟩ := B
  obtain ⟨f, rx, rm, Gx, Gm, q1, q2, hIv2, hE⟩ := step_22 (xs (i + 1).toNatClampNeg) (xs (i + 2).toNatClampNeg) hIv
  obtain ⟨vx0, hx0, -, -⟩ := gI_obj hIv.1.1 sx_0
  obtain ⟨vm0, hm0, -, -⟩ := gI_obj hIv.2.1.1 sm_0
  refine lv_aload_n hx hb dl_1065 rfl (lv_at hl 3 rfl) ?_
  refine lv_aload_n hx hb dl_1066 rfl (lv_at hl 4 rfl) ?_
  refine lv_iload hx hb dl_1067 (lv_at hl 0 rfl) ?_
  refine lv_iconst (v := 1) hx hb dl_1069 (by decide) ?_
  refine lv_iadd hx hb dl_1070 ?_
  refine va_sld hx hb hX hbl hbA hS (vIk (k := 1) (by decide) (by decide) hi hL) dl_1071 ?_
  refine lv_aload_n hx hb dl_1072 rfl (lv_at hl 4 rfl) ?_
  refine lv_iload hx hb dl_1073 (lv_at hl 0 rfl) ?_
  refine lv_iconst (v := 2) hx hb dl_1075 (by decide) ?_
  refine lv_iadd hx hb dl_1076 ?_
  refine va_sld hx hb hX hbl hbA hS (vIk (k := 2) (by decide) (by decide) hi hL) dl_1077 ?_
  refine z_law (rest := []) C (x := 136) (idx := 119) (by decide) (by decide +kernel) (List.mem_append_right _ (List.mem_of_getElem? (i := 922) (by decide +kernel))) dl_1078 (by decide +kernel) (by decide +kernel) rfl rfl (by decide +kernel) (show cells ≤ 1129 by omega) (show slots ≤ 17054 by omega) q1 (Nat.le_of_ble_eq_true rfl) hWx hS hx0 hbx ⟨_, _, rfl, rfl, ⟨_, _, rfl, rfl, rfl⟩⟩ rfl hl.1 (Nat.le_of_ble_eq_true rfl) rfl (fun v ws1 tys1 H1 locs1 hO hpre hW1 hD1 hk1 hS => ?_)
  obtain ⟨_, rfl, rfl⟩ := hO
  obtain ⟨hWm, hdis⟩ := hWm.other hdis hk1 hD1
  obtain ⟨hPo, hdx⟩ := z_other hPo hdx hk1 hD1
  have hWx := hW1
  have hbx := zpre_at hpre hbx
  refine lv_pop hx hb dl_1081 rfl ?_
  refine lv_aload_n hx hb dl_1082 rfl (lv_at hl 2 rfl) ?_
  refine lv_aload_n hx hb dl_1083 rfl (lv_at hl 4 rfl) ?_
  refine lv_iload hx hb dl_1084 (lv_at hl 0 rfl) ?_
  refine lv_iconst (v := 1) hx hb dl_1086 (by decide) ?_
  refine lv_iadd hx hb dl_1087 ?_
  refine va_sld hx hb hX hbl hbA hS (vIk (k := 1) (by decide) (by decide) hi hL) dl_1088 ?_
  refine lv_aload_n hx hb dl_1089 rfl (lv_at hl 4 rfl) ?_
  refine lv_iload hx hb dl_1090 (lv_at hl 0 rfl) ?_
  refine lv_iconst (v := 2) hx hb dl_1092 (by decide) ?_
  refine lv_iadd hx hb dl_1093 ?_
  refine va_sld hx hb hX hbl hbA hS (vIk (k := 2) (by decide) (by decide) hi hL) dl_1094 ?_
  refine z_law (rest := []) C (x := 218) (idx := 122) (by decide) (by decide +kernel) (List.mem_append_right _ (List.mem_of_getElem? (i := 1531) (by decide +kernel))) dl_1095 (by decide +kernel) (by decide +kernel) rfl rfl (by decide +kernel) (show cells ≤ 1129 by omega) (show slots ≤ 17054 by omega) q2 (Nat.le_of_ble_eq_true rfl) hWm hS hm0 hbm ⟨_, _, rfl, rfl, ⟨_, _, rfl, rfl, rfl⟩⟩ rfl hl.1 (Nat.le_of_ble_eq_true rfl) rfl (fun v ws1 tys1 H1 locs1 hO hpre hW1 hD1 hk1 hS => ?_)
  obtain ⟨_, rfl, rfl⟩ := hO
  obtain ⟨hWx, hdis2⟩ := hWx.other hdis.symm hk1 hD1
  obtain ⟨hPo, hdm⟩ := z_other hPo hdm hk1 hD1
  have hbm := zpre_at hpre hbm
  refine lv_pop hx hb dl_1098 rfl ?_
  refine lv_goto (tgt := 1570) hx hb dl_1099 (by decide) ?_
  exact W.widen (by omega) (by omega) (KK _ _ _ ⟨_, _, _, _, cA, fo, Gx, Gm, hWx, hW1, hdis2.symm, hPo, hKo, hDo, hdx, hdm, hS, hbx, hbm, hl, hIv2⟩)
set_option maxRecDepth 100000 in
set_option maxHeartbeats 4000000 in
theorem law_23 {p : Program} {l : Launch} {e : Env} {s : State} {m : MethodId} {below : List Frame} {meth : Method} {c : Code} {b L : Nat} {xs : Nat → Int32} {D : va_G} {bx bm qo : Nat} {i : Int32} {H : Heap} {locs : List Loc} {ls : Array Slot} {cells slots : Nat} {Q : State → Prop} (F : zFx p s m meth c b L xs) (hi : 0 ≤ i.toInt ∧ i.toInt + 6 ≤ L) (hc : cells + 1 ≤ 1129) (hs : slots + 6 ≤ 17054) (B : zBe s b D bx bm qo i H locs ls) (KK : ∀ (H : Heap) (locs : List Loc) (ls : Array Slot), zBe s b D bx bm qo i H locs ls → W p l e room_1 s m #[Value.ref b] below meth c H locs (cells + 1) (slots + 6) Q (F0 m 1570 ls [])) : W p l e room_1 s m #[Value.ref b] below meth c H locs cells slots Q (F0 m 1102 ls []) := by
  obtain ⟨C, hX, hbl, hr, hlocks, hL⟩ := id F
  obtain ⟨hx, hb, hml, hown, hts, hN, hZt⟩ := id C
  have hbA : ¬ zA s b := Nat.not_le.mpr hbl
  obtain ⟨wsx, wsm, tysx, tysm, cA, fo, Hx, Hm, hWx, hWm, hdis, hPo, hKo, hDo, hdx, hdm, hS, hbx, hbm, hl, hIv⟩ := B
  obtain ⟨f, rx, rm, Gx, Gm, q1, q2, hIv2, hE⟩ := step_23 (xs (i + 1).toNatClampNeg) (xs (i + 2).toNatClampNeg) hIv
  obtain ⟨vx0, hx0, -, -⟩ := gI_obj hIv.1.1 sx_0
  obtain ⟨vm0, hm0, -, -⟩ := gI_obj hIv.2.1.1 sm_0
  refine lv_aload_n hx hb dl_1102 rfl (lv_at hl 3 rfl) ?_
  refine lv_aload_n hx hb dl_1103 rfl (lv_at hl 4 rfl) ?_
  refine lv_iload hx hb dl_1104 (lv_at hl 0 rfl) ?_
  refine lv_iconst (v := 1) hx hb dl_1106 (by decide) ?_
  refine lv_iadd hx hb dl_1107 ?_
  refine va_sld hx hb hX hbl hbA hS (vIk (k := 1) (by decide) (by decide) hi hL) dl_1108 ?_
  refine lv_aload_n hx hb dl_1109 rfl (lv_at hl 4 rfl) ?_
  refine lv_iload hx hb dl_1110 (lv_at hl 0 rfl) ?_
  refine lv_iconst (v := 2) hx hb dl_1112 (by decide) ?_
  refine lv_iadd hx hb dl_1113 ?_
  refine va_sld hx hb hX hbl hbA hS (vIk (k := 2) (by decide) (by decide) hi hL) dl_1114 ?_
  refine z_law (rest := []) C (x := 137) (idx := 123) (by decide) (by decide +kernel) (List.mem_append_right _ (List.mem_of_getElem? (i := 935) (by decide +kernel))) dl_1115 (by decide +kernel) (by decide +kernel) rfl rfl (by decide +kernel) (show cells ≤ 1129 by omega) (show slots ≤ 17054 by omega) q1 (Nat.le_of_ble_eq_true rfl) hWx hS hx0 hbx ⟨_, _, rfl, rfl, ⟨_, _, rfl, rfl, rfl⟩⟩ rfl hl.1 (Nat.le_of_ble_eq_true rfl) rfl (fun v ws1 tys1 H1 locs1 hO hpre hW1 hD1 hk1 hS => ?_)
  obtain ⟨_, rfl, rfl⟩ := hO
  obtain ⟨hWm, hdis⟩ := hWm.other hdis hk1 hD1
  obtain ⟨hPo, hdx⟩ := z_other hPo hdx hk1 hD1
  have hWx := hW1
  have hbx := zpre_at hpre hbx
  refine lv_pop hx hb dl_1118 rfl ?_
  refine lv_aload_n hx hb dl_1119 rfl (lv_at hl 2 rfl) ?_
  refine lv_aload_n hx hb dl_1120 rfl (lv_at hl 4 rfl) ?_
  refine lv_iload hx hb dl_1121 (lv_at hl 0 rfl) ?_
  refine lv_iconst (v := 1) hx hb dl_1123 (by decide) ?_
  refine lv_iadd hx hb dl_1124 ?_
  refine va_sld hx hb hX hbl hbA hS (vIk (k := 1) (by decide) (by decide) hi hL) dl_1125 ?_
  refine lv_aload_n hx hb dl_1126 rfl (lv_at hl 4 rfl) ?_
  refine lv_iload hx hb dl_1127 (lv_at hl 0 rfl) ?_
  refine lv_iconst (v := 2) hx hb dl_1129 (by decide) ?_
  refine lv_iadd hx hb dl_1130 ?_
  refine va_sld hx hb hX hbl hbA hS (vIk (k := 2) (by decide) (by decide) hi hL) dl_1131 ?_
  refine z_law (rest := []) C (x := 219) (idx := 126) (by decide) (by decide +kernel) (List.mem_append_right _ (List.mem_of_getElem? (i := 1539) (by decide +kernel))) dl_1132 (by decide +kernel) (by decide +kernel) rfl rfl (by decide +kernel) (show cells ≤ 1129 by omega) (show slots ≤ 17054 by omega) q2 (Nat.le_of_ble_eq_true rfl) hWm hS hm0 hbm ⟨_, _, rfl, rfl, ⟨_, _, rfl, rfl, rfl⟩⟩ rfl hl.1 (Nat.le_of_ble_eq_true rfl) rfl (fun v ws1 tys1 H1 locs1 hO hpre hW1 hD1 hk1 hS => ?_)
  obtain ⟨_, rfl, rfl⟩ := hO
  obtain ⟨hWx, hdis2⟩ := hWx.other hdis.symm hk1 hD1
  obtain ⟨hPo, hdm⟩ := z_other hPo hdm hk1 hD1
  have hbm := zpre_at hpre hbm
  refine lv_pop hx hb dl_1135 rfl ?_
  refine lv_goto (tgt := 1570) hx hb dl_1136 (by decide) ?_
  exact W.widen (by omega) (by omega) (KK _ _ _ ⟨_, _, _, _, cA, fo, Gx, Gm, hWx, hW1, hdis2.symm, hPo, hKo, hDo, hdx, hdm, hS, hbx, hbm, hl, hIv2⟩)
set_option maxRecDepth 100000 in
set_option maxHeartbeats 4000000 in
theorem law_24 {p : Program} {l : Launch} {e : Env} {s : State} {m : MethodId} {below : List Frame} {meth : Method} {c : Code} {b L : Nat} {xs : Nat → Int32} {D : va_G} {bx bm qo : Nat} {i : Int32} {H : Heap} {locs : List Loc} {ls : Array Slot} {cells slots : Nat} {Q : State → Prop} (F : zFx p s m meth c b L xs) (hi : 0 ≤ i.toInt ∧ i.toInt + 6 ≤ L) (hc : cells + 1 ≤ 1129) (hs : slots + 6 ≤ 17054) (B : zBe s b D bx bm qo i H locs ls) (KK : ∀ (H : Heap) (locs : List Loc) (ls : Array Slot), zBe s b D bx bm qo i H locs ls → W p l e room_1 s m #[Value.ref b] below meth c H locs (cells + 1) (slots + 6) Q (F0 m 1570 ls [])) : W p l e room_1 s m #[Value.ref b] below meth c H locs cells slots Q (F0 m 1139 ls []) := by
  obtain ⟨C, hX, hbl, hr, hlocks, hL⟩ := id F
  obtain ⟨hx, hb, hml, hown, hts, hN, hZt⟩ := id C
  have hbA : ¬ zA s b := Nat.not_le.mpr hbl
  obtain ⟨wsx, wsm, tysx, tysm, cA, fo, Hx, Hm, hWx, hWm, hdis, hPo, hKo, hDo, hdx, hdm, hS, hbx, hbm, hl, hIv⟩ := B
  obtain ⟨f, rx, rm, Gx, Gm, q1, q2, hIv2, hE⟩ := step_24 (xs (i + 1).toNatClampNeg) hIv
  obtain ⟨vx0, hx0, -, -⟩ := gI_obj hIv.1.1 sx_0
  obtain ⟨vm0, hm0, -, -⟩ := gI_obj hIv.2.1.1 sm_0
  refine lv_aload_n hx hb dl_1139 rfl (lv_at hl 3 rfl) ?_
  refine lv_aload_n hx hb dl_1140 rfl (lv_at hl 4 rfl) ?_
  refine lv_iload hx hb dl_1141 (lv_at hl 0 rfl) ?_
  refine lv_iconst (v := 1) hx hb dl_1143 (by decide) ?_
  refine lv_iadd hx hb dl_1144 ?_
  refine va_sld hx hb hX hbl hbA hS (vIk (k := 1) (by decide) (by decide) hi hL) dl_1145 ?_
  refine z_law (rest := []) C (x := 138) (idx := 127) (by decide) (by decide +kernel) (List.mem_append_right _ (List.mem_of_getElem? (i := 944) (by decide +kernel))) dl_1146 (by decide +kernel) (by decide +kernel) rfl rfl (by decide +kernel) (show cells ≤ 1129 by omega) (show slots ≤ 17054 by omega) q1 (Nat.le_of_ble_eq_true rfl) hWx hS hx0 hbx ⟨_, _, rfl, rfl, rfl⟩ rfl hl.1 (Nat.le_of_ble_eq_true rfl) rfl (fun v ws1 tys1 H1 locs1 hO hpre hW1 hD1 hk1 hS => ?_)
  obtain ⟨_, rfl, rfl⟩ := hO
  obtain ⟨hWm, hdis⟩ := hWm.other hdis hk1 hD1
  obtain ⟨hPo, hdx⟩ := z_other hPo hdx hk1 hD1
  have hWx := hW1
  have hbx := zpre_at hpre hbx
  refine lv_pop hx hb dl_1149 rfl ?_
  refine lv_aload_n hx hb dl_1150 rfl (lv_at hl 2 rfl) ?_
  refine lv_aload_n hx hb dl_1151 rfl (lv_at hl 4 rfl) ?_
  refine lv_iload hx hb dl_1152 (lv_at hl 0 rfl) ?_
  refine lv_iconst (v := 1) hx hb dl_1154 (by decide) ?_
  refine lv_iadd hx hb dl_1155 ?_
  refine va_sld hx hb hX hbl hbA hS (vIk (k := 1) (by decide) (by decide) hi hL) dl_1156 ?_
  refine z_law (rest := []) C (x := 231) (idx := 130) (by decide) (by decide +kernel) (List.mem_append_right _ (List.mem_of_getElem? (i := 1583) (by decide +kernel))) dl_1157 (by decide +kernel) (by decide +kernel) rfl rfl (by decide +kernel) (show cells ≤ 1129 by omega) (show slots ≤ 17054 by omega) q2 (Nat.le_of_ble_eq_true rfl) hWm hS hm0 hbm ⟨_, _, rfl, rfl, rfl⟩ rfl hl.1 (Nat.le_of_ble_eq_true rfl) rfl (fun v ws1 tys1 H1 locs1 hO hpre hW1 hD1 hk1 hS => ?_)
  obtain ⟨_, rfl, rfl⟩ := hO
  obtain ⟨hWx, hdis2⟩ := hWx.other hdis.symm hk1 hD1
  obtain ⟨hPo, hdm⟩ := z_other hPo hdm hk1 hD1
  have hbm := zpre_at hpre hbm
  refine lv_pop hx hb dl_1160 rfl ?_
  refine lv_goto (tgt := 1570) hx hb dl_1161 (by decide) ?_
  exact W.widen (by omega) (by omega) (KK _ _ _ ⟨_, _, _, _, cA, fo, Gx, Gm, hWx, hW1, hdis2.symm, hPo, hKo, hDo, hdx, hdm, hS, hbx, hbm, hl, hIv2⟩)
set_option maxRecDepth 100000 in
set_option maxHeartbeats 4000000 in
theorem law_25 {p : Program} {l : Launch} {e : Env} {s : State} {m : MethodId} {below : List Frame} {meth : Method} {c : Code} {b L : Nat} {xs : Nat → Int32} {D : va_G} {bx bm qo : Nat} {i : Int32} {H : Heap} {locs : List Loc} {ls : Array Slot} {cells slots : Nat} {Q : State → Prop} (F : zFx p s m meth c b L xs) (hi : 0 ≤ i.toInt ∧ i.toInt + 6 ≤ L) (hc : cells + 1 ≤ 1129) (hs : slots + 6 ≤ 17054) (B : zBe s b D bx bm qo i H locs ls) (KK : ∀ (H : Heap) (locs : List Loc) (ls : Array Slot), zBe s b D bx bm qo i H locs ls → W p l e room_1 s m #[Value.ref b] below meth c H locs (cells + 1) (slots + 6) Q (F0 m 1570 ls [])) : W p l e room_1 s m #[Value.ref b] below meth c H locs cells slots Q (F0 m 1164 ls []) := by
  obtain ⟨C, hX, hbl, hr, hlocks, hL⟩ := id F
  obtain ⟨hx, hb, hml, hown, hts, hN, hZt⟩ := id C
  have hbA : ¬ zA s b := Nat.not_le.mpr hbl
  obtain ⟨wsx, wsm, tysx, tysm, cA, fo, Hx, Hm, hWx, hWm, hdis, hPo, hKo, hDo, hdx, hdm, hS, hbx, hbm, hl, hIv⟩ := B
  obtain ⟨f, rx, rm, Gx, Gm, q1, q2, hIv2, hE⟩ := step_25 (xs (i + 1).toNatClampNeg) (xs (i + 2).toNatClampNeg) hIv
  obtain ⟨vx0, hx0, -, -⟩ := gI_obj hIv.1.1 sx_0
  obtain ⟨vm0, hm0, -, -⟩ := gI_obj hIv.2.1.1 sm_0
  refine lv_aload_n hx hb dl_1164 rfl (lv_at hl 3 rfl) ?_
  refine lv_aload_n hx hb dl_1165 rfl (lv_at hl 4 rfl) ?_
  refine lv_iload hx hb dl_1166 (lv_at hl 0 rfl) ?_
  refine lv_iconst (v := 1) hx hb dl_1168 (by decide) ?_
  refine lv_iadd hx hb dl_1169 ?_
  refine va_sld hx hb hX hbl hbA hS (vIk (k := 1) (by decide) (by decide) hi hL) dl_1170 ?_
  refine lv_aload_n hx hb dl_1171 rfl (lv_at hl 4 rfl) ?_
  refine lv_iload hx hb dl_1172 (lv_at hl 0 rfl) ?_
  refine lv_iconst (v := 2) hx hb dl_1174 (by decide) ?_
  refine lv_iadd hx hb dl_1175 ?_
  refine va_sld hx hb hX hbl hbA hS (vIk (k := 2) (by decide) (by decide) hi hL) dl_1176 ?_
  refine z_law (rest := []) C (x := 139) (idx := 131) (by decide) (by decide +kernel) (List.mem_append_right _ (List.mem_of_getElem? (i := 956) (by decide +kernel))) dl_1177 (by decide +kernel) (by decide +kernel) rfl rfl (by decide +kernel) (show cells ≤ 1129 by omega) (show slots ≤ 17054 by omega) q1 (Nat.le_of_ble_eq_true rfl) hWx hS hx0 hbx ⟨_, _, rfl, rfl, ⟨_, _, rfl, rfl, rfl⟩⟩ rfl hl.1 (Nat.le_of_ble_eq_true rfl) rfl (fun v ws1 tys1 H1 locs1 hO hpre hW1 hD1 hk1 hS => ?_)
  obtain ⟨_, rfl, rfl⟩ := hO
  obtain ⟨hWm, hdis⟩ := hWm.other hdis hk1 hD1
  obtain ⟨hPo, hdx⟩ := z_other hPo hdx hk1 hD1
  have hWx := hW1
  have hbx := zpre_at hpre hbx
  refine lv_pop hx hb dl_1180 rfl ?_
  refine lv_aload_n hx hb dl_1181 rfl (lv_at hl 2 rfl) ?_
  refine lv_aload_n hx hb dl_1182 rfl (lv_at hl 4 rfl) ?_
  refine lv_iload hx hb dl_1183 (lv_at hl 0 rfl) ?_
  refine lv_iconst (v := 1) hx hb dl_1185 (by decide) ?_
  refine lv_iadd hx hb dl_1186 ?_
  refine va_sld hx hb hX hbl hbA hS (vIk (k := 1) (by decide) (by decide) hi hL) dl_1187 ?_
  refine lv_aload_n hx hb dl_1188 rfl (lv_at hl 4 rfl) ?_
  refine lv_iload hx hb dl_1189 (lv_at hl 0 rfl) ?_
  refine lv_iconst (v := 2) hx hb dl_1191 (by decide) ?_
  refine lv_iadd hx hb dl_1192 ?_
  refine va_sld hx hb hX hbl hbA hS (vIk (k := 2) (by decide) (by decide) hi hL) dl_1193 ?_
  refine z_law (rest := []) C (x := 232) (idx := 134) (by decide) (by decide +kernel) (List.mem_append_right _ (List.mem_of_getElem? (i := 1591) (by decide +kernel))) dl_1194 (by decide +kernel) (by decide +kernel) rfl rfl (by decide +kernel) (show cells ≤ 1129 by omega) (show slots ≤ 17054 by omega) q2 (Nat.le_of_ble_eq_true rfl) hWm hS hm0 hbm ⟨_, _, rfl, rfl, ⟨_, _, rfl, rfl, rfl⟩⟩ rfl hl.1 (Nat.le_of_ble_eq_true rfl) rfl (fun v ws1 tys1 H1 locs1 hO hpre hW1 hD1 hk1 hS => ?_)
  obtain ⟨_, rfl, rfl⟩ := hO
  obtain ⟨hWx, hdis2⟩ := hWx.other hdis.symm hk1 hD1
  obtain ⟨hPo, hdm⟩ := z_other hPo hdm hk1 hD1
  have hbm := zpre_at hpre hbm
  refine lv_pop hx hb dl_1197 rfl ?_
  refine lv_goto (tgt := 1570) hx hb dl_1198 (by decide) ?_
  exact W.widen (by omega) (by omega) (KK _ _ _ ⟨_, _, _, _, cA, fo, Gx, Gm, hWx, hW1, hdis2.symm, hPo, hKo, hDo, hdx, hdm, hS, hbx, hbm, hl, hIv2⟩)
set_option maxRecDepth 100000 in
set_option maxHeartbeats 4000000 in
theorem law_26 {p : Program} {l : Launch} {e : Env} {s : State} {m : MethodId} {below : List Frame} {meth : Method} {c : Code} {b L : Nat} {xs : Nat → Int32} {D : va_G} {bx bm qo : Nat} {i : Int32} {H : Heap} {locs : List Loc} {ls : Array Slot} {cells slots : Nat} {Q : State → Prop} (F : zFx p s m meth c b L xs) (hi : 0 ≤ i.toInt ∧ i.toInt + 6 ≤ L) (hc : cells + 1 ≤ 1129) (hs : slots + 6 ≤ 17054) (B : zBe s b D bx bm qo i H locs ls) (KK : ∀ (H : Heap) (locs : List Loc) (ls : Array Slot), zBe s b D bx bm qo i H locs ls → W p l e room_1 s m #[Value.ref b] below meth c H locs (cells + 1) (slots + 6) Q (F0 m 1570 ls [])) : W p l e room_1 s m #[Value.ref b] below meth c H locs cells slots Q (F0 m 1201 ls []) := by
  obtain ⟨C, hX, hbl, hr, hlocks, hL⟩ := id F
  obtain ⟨hx, hb, hml, hown, hts, hN, hZt⟩ := id C
  have hbA : ¬ zA s b := Nat.not_le.mpr hbl
  obtain ⟨wsx, wsm, tysx, tysm, cA, fo, Hx, Hm, hWx, hWm, hdis, hPo, hKo, hDo, hdx, hdm, hS, hbx, hbm, hl, hIv⟩ := B
  obtain ⟨f, rx, rm, Gx, Gm, q1, q2, hIv2, hE⟩ := step_26 (xs (i + 1).toNatClampNeg) (xs (i + 2).toNatClampNeg) (xs (i + 3).toNatClampNeg) hIv
  obtain ⟨vx0, hx0, -, -⟩ := gI_obj hIv.1.1 sx_0
  obtain ⟨vm0, hm0, -, -⟩ := gI_obj hIv.2.1.1 sm_0
  refine lv_aload_n hx hb dl_1201 rfl (lv_at hl 3 rfl) ?_
  refine lv_aload_n hx hb dl_1202 rfl (lv_at hl 4 rfl) ?_
  refine lv_iload hx hb dl_1203 (lv_at hl 0 rfl) ?_
  refine lv_iconst (v := 1) hx hb dl_1205 (by decide) ?_
  refine lv_iadd hx hb dl_1206 ?_
  refine va_sld hx hb hX hbl hbA hS (vIk (k := 1) (by decide) (by decide) hi hL) dl_1207 ?_
  refine lv_aload_n hx hb dl_1208 rfl (lv_at hl 4 rfl) ?_
  refine lv_iload hx hb dl_1209 (lv_at hl 0 rfl) ?_
  refine lv_iconst (v := 2) hx hb dl_1211 (by decide) ?_
  refine lv_iadd hx hb dl_1212 ?_
  refine va_sld hx hb hX hbl hbA hS (vIk (k := 2) (by decide) (by decide) hi hL) dl_1213 ?_
  refine lv_aload_n hx hb dl_1214 rfl (lv_at hl 4 rfl) ?_
  refine lv_iload hx hb dl_1215 (lv_at hl 0 rfl) ?_
  refine lv_iconst (v := 3) hx hb dl_1217 (by decide) ?_
  refine lv_iadd hx hb dl_1218 ?_
  refine va_sld hx hb hX hbl hbA hS (vIk (k := 3) (by decide) (by decide) hi hL) dl_1219 ?_
  refine z_law (rest := []) C (x := 140) (idx := 135) (by decide) (by decide +kernel) (List.mem_append_right _ (List.mem_of_getElem? (i := 960) (by decide +kernel))) dl_1220 (by decide +kernel) (by decide +kernel) rfl rfl (by decide +kernel) (show cells ≤ 1129 by omega) (show slots ≤ 17054 by omega) q1 (Nat.le_of_ble_eq_true rfl) hWx hS hx0 hbx ⟨_, _, rfl, rfl, ⟨_, _, rfl, rfl, ⟨_, _, rfl, rfl, rfl⟩⟩⟩ rfl hl.1 (Nat.le_of_ble_eq_true rfl) rfl (fun v ws1 tys1 H1 locs1 hO hpre hW1 hD1 hk1 hS => ?_)
  obtain ⟨_, rfl, rfl⟩ := hO
  obtain ⟨hWm, hdis⟩ := hWm.other hdis hk1 hD1
  obtain ⟨hPo, hdx⟩ := z_other hPo hdx hk1 hD1
  have hWx := hW1
  have hbx := zpre_at hpre hbx
  refine lv_pop hx hb dl_1223 rfl ?_
  refine lv_aload_n hx hb dl_1224 rfl (lv_at hl 2 rfl) ?_
  refine lv_aload_n hx hb dl_1225 rfl (lv_at hl 4 rfl) ?_
  refine lv_iload hx hb dl_1226 (lv_at hl 0 rfl) ?_
  refine lv_iconst (v := 1) hx hb dl_1228 (by decide) ?_
  refine lv_iadd hx hb dl_1229 ?_
  refine va_sld hx hb hX hbl hbA hS (vIk (k := 1) (by decide) (by decide) hi hL) dl_1230 ?_
  refine lv_aload_n hx hb dl_1231 rfl (lv_at hl 4 rfl) ?_
  refine lv_iload hx hb dl_1232 (lv_at hl 0 rfl) ?_
  refine lv_iconst (v := 2) hx hb dl_1234 (by decide) ?_
  refine lv_iadd hx hb dl_1235 ?_
  refine va_sld hx hb hX hbl hbA hS (vIk (k := 2) (by decide) (by decide) hi hL) dl_1236 ?_
  refine lv_aload_n hx hb dl_1237 rfl (lv_at hl 4 rfl) ?_
  refine lv_iload hx hb dl_1238 (lv_at hl 0 rfl) ?_
  refine lv_iconst (v := 3) hx hb dl_1240 (by decide) ?_
  refine lv_iadd hx hb dl_1241 ?_
  refine va_sld hx hb hX hbl hbA hS (vIk (k := 3) (by decide) (by decide) hi hL) dl_1242 ?_
  refine z_law (rest := []) C (x := 234) (idx := 138) (by decide) (by decide +kernel) (List.mem_append_right _ (List.mem_of_getElem? (i := 1595) (by decide +kernel))) dl_1243 (by decide +kernel) (by decide +kernel) rfl rfl (by decide +kernel) (show cells ≤ 1129 by omega) (show slots ≤ 17054 by omega) q2 (Nat.le_of_ble_eq_true rfl) hWm hS hm0 hbm ⟨_, _, rfl, rfl, ⟨_, _, rfl, rfl, ⟨_, _, rfl, rfl, rfl⟩⟩⟩ rfl hl.1 (Nat.le_of_ble_eq_true rfl) rfl (fun v ws1 tys1 H1 locs1 hO hpre hW1 hD1 hk1 hS => ?_)
  obtain ⟨_, rfl, rfl⟩ := hO
  obtain ⟨hWx, hdis2⟩ := hWx.other hdis.symm hk1 hD1
  obtain ⟨hPo, hdm⟩ := z_other hPo hdm hk1 hD1
  have hbm := zpre_at hpre hbm
  refine lv_pop hx hb dl_1246 rfl ?_
  refine lv_goto (tgt := 1570) hx hb dl_1247 (by decide) ?_
  exact W.widen (by omega) (by omega) (KK _ _ _ ⟨_, _, _, _, cA, fo, Gx, Gm, hWx, hW1, hdis2.symm, hPo, hKo, hDo, hdx, hdm, hS, hbx, hbm, hl, hIv2⟩)
set_option maxRecDepth 100000 in
set_option maxHeartbeats 4000000 in
theorem law_27 {p : Program} {l : Launch} {e : Env} {s : State} {m : MethodId} {below : List Frame} {meth : Method} {c : Code} {b L : Nat} {xs : Nat → Int32} {D : va_G} {bx bm qo : Nat} {i : Int32} {H : Heap} {locs : List Loc} {ls : Array Slot} {cells slots : Nat} {Q : State → Prop} (F : zFx p s m meth c b L xs) (hi : 0 ≤ i.toInt ∧ i.toInt + 6 ≤ L) (hc : cells + 1 ≤ 1129) (hs : slots + 6 ≤ 17054) (B : zBe s b D bx bm qo i H locs ls) (KK : ∀ (H : Heap) (locs : List Loc) (ls : Array Slot), zBe s b D bx bm qo i H locs ls → W p l e room_1 s m #[Value.ref b] below meth c H locs (cells + 1) (slots + 6) Q (F0 m 1570 ls [])) : W p l e room_1 s m #[Value.ref b] below meth c H locs cells slots Q (F0 m 1250 ls []) := by
  obtain ⟨C, hX, hbl, hr, hlocks, hL⟩ := id F
  obtain ⟨hx, hb, hml, hown, hts, hN, hZt⟩ := id C
  have hbA : ¬ zA s b := Nat.not_le.mpr hbl
  obtain ⟨wsx, wsm, tysx, tysm, cA, fo, Hx, Hm, hWx, hWm, hdis, hPo, hKo, hDo, hdx, hdm, hS, hbx, hbm, hl, hIv⟩ := B
  obtain ⟨f, rx, rm, Gx, Gm, q1, q2, hIv2, hE⟩ := step_27 (xs (i + 1).toNatClampNeg) (xs (i + 2).toNatClampNeg) hIv
  obtain ⟨vx0, hx0, -, -⟩ := gI_obj hIv.1.1 sx_0
  obtain ⟨vm0, hm0, -, -⟩ := gI_obj hIv.2.1.1 sm_0
  refine lv_aload_n hx hb dl_1250 rfl (lv_at hl 3 rfl) ?_
  refine lv_aload_n hx hb dl_1251 rfl (lv_at hl 4 rfl) ?_
  refine lv_iload hx hb dl_1252 (lv_at hl 0 rfl) ?_
  refine lv_iconst (v := 1) hx hb dl_1254 (by decide) ?_
  refine lv_iadd hx hb dl_1255 ?_
  refine va_sld hx hb hX hbl hbA hS (vIk (k := 1) (by decide) (by decide) hi hL) dl_1256 ?_
  refine lv_aload_n hx hb dl_1257 rfl (lv_at hl 4 rfl) ?_
  refine lv_iload hx hb dl_1258 (lv_at hl 0 rfl) ?_
  refine lv_iconst (v := 2) hx hb dl_1260 (by decide) ?_
  refine lv_iadd hx hb dl_1261 ?_
  refine va_sld hx hb hX hbl hbA hS (vIk (k := 2) (by decide) (by decide) hi hL) dl_1262 ?_
  refine z_law (rest := []) C (x := 141) (idx := 139) (by decide) (by decide +kernel) (List.mem_append_right _ (List.mem_of_getElem? (i := 975) (by decide +kernel))) dl_1263 (by decide +kernel) (by decide +kernel) rfl rfl (by decide +kernel) (show cells ≤ 1129 by omega) (show slots ≤ 17054 by omega) q1 (Nat.le_of_ble_eq_true rfl) hWx hS hx0 hbx ⟨_, _, rfl, rfl, ⟨_, _, rfl, rfl, rfl⟩⟩ rfl hl.1 (Nat.le_of_ble_eq_true rfl) rfl (fun v ws1 tys1 H1 locs1 hO hpre hW1 hD1 hk1 hS => ?_)
  obtain ⟨_, rfl, rfl⟩ := hO
  obtain ⟨hWm, hdis⟩ := hWm.other hdis hk1 hD1
  obtain ⟨hPo, hdx⟩ := z_other hPo hdx hk1 hD1
  have hWx := hW1
  have hbx := zpre_at hpre hbx
  refine lv_pop hx hb dl_1266 rfl ?_
  refine lv_aload_n hx hb dl_1267 rfl (lv_at hl 2 rfl) ?_
  refine lv_aload_n hx hb dl_1268 rfl (lv_at hl 4 rfl) ?_
  refine lv_iload hx hb dl_1269 (lv_at hl 0 rfl) ?_
  refine lv_iconst (v := 1) hx hb dl_1271 (by decide) ?_
  refine lv_iadd hx hb dl_1272 ?_
  refine va_sld hx hb hX hbl hbA hS (vIk (k := 1) (by decide) (by decide) hi hL) dl_1273 ?_
  refine lv_aload_n hx hb dl_1274 rfl (lv_at hl 4 rfl) ?_
  refine lv_iload hx hb dl_1275 (lv_at hl 0 rfl) ?_
  refine lv_iconst (v := 2) hx hb dl_1277 (by decide) ?_
  refine lv_iadd hx hb dl_1278 ?_
  refine va_sld hx hb hX hbl hbA hS (vIk (k := 2) (by decide) (by decide) hi hL) dl_1279 ?_
  refine z_law (rest := []) C (x := 235) (idx := 142) (by decide) (by decide +kernel) (List.mem_append_right _ (List.mem_of_getElem? (i := 1603) (by decide +kernel))) dl_1280 (by decide +kernel) (by decide +kernel) rfl rfl (by decide +kernel) (show cells ≤ 1129 by omega) (show slots ≤ 17054 by omega) q2 (Nat.le_of_ble_eq_true rfl) hWm hS hm0 hbm ⟨_, _, rfl, rfl, ⟨_, _, rfl, rfl, rfl⟩⟩ rfl hl.1 (Nat.le_of_ble_eq_true rfl) rfl (fun v ws1 tys1 H1 locs1 hO hpre hW1 hD1 hk1 hS => ?_)
  obtain ⟨_, rfl, rfl⟩ := hO
  obtain ⟨hWx, hdis2⟩ := hWx.other hdis.symm hk1 hD1
  obtain ⟨hPo, hdm⟩ := z_other hPo hdm hk1 hD1
  have hbm := zpre_at hpre hbm
  refine lv_pop hx hb dl_1283 rfl ?_
  refine lv_goto (tgt := 1570) hx hb dl_1284 (by decide) ?_
  exact W.widen (by omega) (by omega) (KK _ _ _ ⟨_, _, _, _, cA, fo, Gx, Gm, hWx, hW1, hdis2.symm, hPo, hKo, hDo, hdx, hdm, hS, hbx, hbm, hl, hIv2⟩)
set_option maxRecDepth 100000 in
set_option maxHeartbeats 4000000 in
theorem law_28 {p : Program} {l : Launch} {e : Env} {s : State} {m : MethodId} {below : List Frame} {meth : Method} {c : Code} {b L : Nat} {xs : Nat → Int32} {D : va_G} {bx bm qo : Nat} {i : Int32} {H : Heap} {locs : List Loc} {ls : Array Slot} {cells slots : Nat} {Q : State → Prop} (F : zFx p s m meth c b L xs) (hi : 0 ≤ i.toInt ∧ i.toInt + 6 ≤ L) (hc : cells + 1 ≤ 1129) (hs : slots + 6 ≤ 17054) (B : zBe s b D bx bm qo i H locs ls) (KK : ∀ (H : Heap) (locs : List Loc) (ls : Array Slot), zBe s b D bx bm qo i H locs ls → W p l e room_1 s m #[Value.ref b] below meth c H locs (cells + 1) (slots + 6) Q (F0 m 1570 ls [])) : W p l e room_1 s m #[Value.ref b] below meth c H locs cells slots Q (F0 m 1287 ls []) := by
  obtain ⟨C, hX, hbl, hr, hlocks, hL⟩ := id F
  obtain ⟨hx, hb, hml, hown, hts, hN, hZt⟩ := id C
  have hbA : ¬ zA s b := Nat.not_le.mpr hbl
  obtain ⟨wsx, wsm, tysx, tysm, cA, fo, Hx, Hm, hWx, hWm, hdis, hPo, hKo, hDo, hdx, hdm, hS, hbx, hbm, hl, hIv⟩ := B
  obtain ⟨f, rx, rm, Gx, Gm, q1, q2, hIv2, hE⟩ := step_28 (xs (i + 1).toNatClampNeg) (xs (i + 2).toNatClampNeg) (xs (i + 3).toNatClampNeg) hIv
  obtain ⟨vx0, hx0, -, -⟩ := gI_obj hIv.1.1 sx_0
  obtain ⟨vm0, hm0, -, -⟩ := gI_obj hIv.2.1.1 sm_0
  refine lv_aload_n hx hb dl_1287 rfl (lv_at hl 3 rfl) ?_
  refine lv_aload_n hx hb dl_1288 rfl (lv_at hl 4 rfl) ?_
  refine lv_iload hx hb dl_1289 (lv_at hl 0 rfl) ?_
  refine lv_iconst (v := 1) hx hb dl_1291 (by decide) ?_
  refine lv_iadd hx hb dl_1292 ?_
  refine va_sld hx hb hX hbl hbA hS (vIk (k := 1) (by decide) (by decide) hi hL) dl_1293 ?_
  refine lv_aload_n hx hb dl_1294 rfl (lv_at hl 4 rfl) ?_
  refine lv_iload hx hb dl_1295 (lv_at hl 0 rfl) ?_
  refine lv_iconst (v := 2) hx hb dl_1297 (by decide) ?_
  refine lv_iadd hx hb dl_1298 ?_
  refine va_sld hx hb hX hbl hbA hS (vIk (k := 2) (by decide) (by decide) hi hL) dl_1299 ?_
  refine lv_aload_n hx hb dl_1300 rfl (lv_at hl 4 rfl) ?_
  refine lv_iload hx hb dl_1301 (lv_at hl 0 rfl) ?_
  refine lv_iconst (v := 3) hx hb dl_1303 (by decide) ?_
  refine lv_iadd hx hb dl_1304 ?_
  refine va_sld hx hb hX hbl hbA hS (vIk (k := 3) (by decide) (by decide) hi hL) dl_1305 ?_
  refine z_law (rest := []) C (x := 142) (idx := 143) (by decide) (by decide +kernel) (List.mem_append_right _ (List.mem_of_getElem? (i := 988) (by decide +kernel))) dl_1306 (by decide +kernel) (by decide +kernel) rfl rfl (by decide +kernel) (show cells ≤ 1129 by omega) (show slots ≤ 17054 by omega) q1 (Nat.le_of_ble_eq_true rfl) hWx hS hx0 hbx ⟨_, _, rfl, rfl, ⟨_, _, rfl, rfl, ⟨_, _, rfl, rfl, rfl⟩⟩⟩ rfl hl.1 (Nat.le_of_ble_eq_true rfl) rfl (fun v ws1 tys1 H1 locs1 hO hpre hW1 hD1 hk1 hS => ?_)
  obtain ⟨_, rfl, rfl⟩ := hO
  obtain ⟨hWm, hdis⟩ := hWm.other hdis hk1 hD1
  obtain ⟨hPo, hdx⟩ := z_other hPo hdx hk1 hD1
  have hWx := hW1
  have hbx := zpre_at hpre hbx
  refine lv_pop hx hb dl_1309 rfl ?_
  refine lv_aload_n hx hb dl_1310 rfl (lv_at hl 2 rfl) ?_
  refine lv_aload_n hx hb dl_1311 rfl (lv_at hl 4 rfl) ?_
  refine lv_iload hx hb dl_1312 (lv_at hl 0 rfl) ?_
  refine lv_iconst (v := 1) hx hb dl_1314 (by decide) ?_
  refine lv_iadd hx hb dl_1315 ?_
  refine va_sld hx hb hX hbl hbA hS (vIk (k := 1) (by decide) (by decide) hi hL) dl_1316 ?_
  refine lv_aload_n hx hb dl_1317 rfl (lv_at hl 4 rfl) ?_
  refine lv_iload hx hb dl_1318 (lv_at hl 0 rfl) ?_
  refine lv_iconst (v := 2) hx hb dl_1320 (by decide) ?_
  refine lv_iadd hx hb dl_1321 ?_
  refine va_sld hx hb hX hbl hbA hS (vIk (k := 2) (by decide) (by decide) hi hL) dl_1322 ?_
  refine lv_aload_n hx hb dl_1323 rfl (lv_at hl 4 rfl) ?_
  refine lv_iload hx hb dl_1324 (lv_at hl 0 rfl) ?_
  refine lv_iconst (v := 3) hx hb dl_1326 (by decide) ?_
  refine lv_iadd hx hb dl_1327 ?_
  refine va_sld hx hb hX hbl hbA hS (vIk (k := 3) (by decide) (by decide) hi hL) dl_1328 ?_
  refine z_law (rest := []) C (x := 247) (idx := 146) (by decide) (by decide +kernel) (List.mem_append_right _ (List.mem_of_getElem? (i := 1650) (by decide +kernel))) dl_1329 (by decide +kernel) (by decide +kernel) rfl rfl (by decide +kernel) (show cells ≤ 1129 by omega) (show slots ≤ 17054 by omega) q2 (Nat.le_of_ble_eq_true rfl) hWm hS hm0 hbm ⟨_, _, rfl, rfl, ⟨_, _, rfl, rfl, ⟨_, _, rfl, rfl, rfl⟩⟩⟩ rfl hl.1 (Nat.le_of_ble_eq_true rfl) rfl (fun v ws1 tys1 H1 locs1 hO hpre hW1 hD1 hk1 hS => ?_)
  obtain ⟨_, rfl, rfl⟩ := hO
  obtain ⟨hWx, hdis2⟩ := hWx.other hdis.symm hk1 hD1
  obtain ⟨hPo, hdm⟩ := z_other hPo hdm hk1 hD1
  have hbm := zpre_at hpre hbm
  refine lv_pop hx hb dl_1332 rfl ?_
  refine lv_goto (tgt := 1570) hx hb dl_1333 (by decide) ?_
  exact W.widen (by omega) (by omega) (KK _ _ _ ⟨_, _, _, _, cA, fo, Gx, Gm, hWx, hW1, hdis2.symm, hPo, hKo, hDo, hdx, hdm, hS, hbx, hbm, hl, hIv2⟩)
set_option maxRecDepth 100000 in
set_option maxHeartbeats 4000000 in
theorem law_29 {p : Program} {l : Launch} {e : Env} {s : State} {m : MethodId} {below : List Frame} {meth : Method} {c : Code} {b L : Nat} {xs : Nat → Int32} {D : va_G} {bx bm qo : Nat} {i : Int32} {H : Heap} {locs : List Loc} {ls : Array Slot} {cells slots : Nat} {Q : State → Prop} (F : zFx p s m meth c b L xs) (hi : 0 ≤ i.toInt ∧ i.toInt + 6 ≤ L) (hc : cells + 1 ≤ 1129) (hs : slots + 6 ≤ 17054) (B : zBe s b D bx bm qo i H locs ls) (KK : ∀ (H : Heap) (locs : List Loc) (ls : Array Slot), zBe s b D bx bm qo i H locs ls → W p l e room_1 s m #[Value.ref b] below meth c H locs (cells + 1) (slots + 6) Q (F0 m 1570 ls [])) : W p l e room_1 s m #[Value.ref b] below meth c H locs cells slots Q (F0 m 1336 ls []) := by
  obtain ⟨C, hX, hbl, hr, hlocks, hL⟩ := id F
  obtain ⟨hx, hb, hml, hown, hts, hN, hZt⟩ := id C
  have hbA : ¬ zA s b := Nat.not_le.mpr hbl
  obtain ⟨wsx, wsm, tysx, tysm, cA, fo, Hx, Hm, hWx, hWm, hdis, hPo, hKo, hDo, hdx, hdm, hS, hbx, hbm, hl, hIv⟩ := B
  obtain ⟨f, rx, rm, Gx, Gm, q1, q2, hIv2, hE⟩ := step_29 (xs (i + 1).toNatClampNeg) (xs (i + 2).toNatClampNeg) (xs (i + 3).toNatClampNeg) hIv
  obtain ⟨vx0, hx0, -, -⟩ := gI_obj hIv.1.1 sx_0
  obtain ⟨vm0, hm0, -, -⟩ := gI_obj hIv.2.1.1 sm_0
  refine lv_aload_n hx hb dl_1336 rfl (lv_at hl 3 rfl) ?_
  refine lv_aload_n hx hb dl_1337 rfl (lv_at hl 4 rfl) ?_
  refine lv_iload hx hb dl_1338 (lv_at hl 0 rfl) ?_
  refine lv_iconst (v := 1) hx hb dl_1340 (by decide) ?_
  refine lv_iadd hx hb dl_1341 ?_
  refine va_sld hx hb hX hbl hbA hS (vIk (k := 1) (by decide) (by decide) hi hL) dl_1342 ?_
  refine lv_aload_n hx hb dl_1343 rfl (lv_at hl 4 rfl) ?_
  refine lv_iload hx hb dl_1344 (lv_at hl 0 rfl) ?_
  refine lv_iconst (v := 2) hx hb dl_1346 (by decide) ?_
  refine lv_iadd hx hb dl_1347 ?_
  refine va_sld hx hb hX hbl hbA hS (vIk (k := 2) (by decide) (by decide) hi hL) dl_1348 ?_
  refine lv_aload_n hx hb dl_1349 rfl (lv_at hl 4 rfl) ?_
  refine lv_iload hx hb dl_1350 (lv_at hl 0 rfl) ?_
  refine lv_iconst (v := 3) hx hb dl_1352 (by decide) ?_
  refine lv_iadd hx hb dl_1353 ?_
  refine va_sld hx hb hX hbl hbA hS (vIk (k := 3) (by decide) (by decide) hi hL) dl_1354 ?_
  refine z_law (rest := []) C (x := 143) (idx := 147) (by decide) (by decide +kernel) (List.mem_append_right _ (List.mem_of_getElem? (i := 996) (by decide +kernel))) dl_1355 (by decide +kernel) (by decide +kernel) rfl rfl (by decide +kernel) (show cells ≤ 1129 by omega) (show slots ≤ 17054 by omega) q1 (Nat.le_of_ble_eq_true rfl) hWx hS hx0 hbx ⟨_, _, rfl, rfl, ⟨_, _, rfl, rfl, ⟨_, _, rfl, rfl, rfl⟩⟩⟩ rfl hl.1 (Nat.le_of_ble_eq_true rfl) rfl (fun v ws1 tys1 H1 locs1 hO hpre hW1 hD1 hk1 hS => ?_)
  obtain ⟨_, rfl, rfl⟩ := hO
  obtain ⟨hWm, hdis⟩ := hWm.other hdis hk1 hD1
  obtain ⟨hPo, hdx⟩ := z_other hPo hdx hk1 hD1
  have hWx := hW1
  have hbx := zpre_at hpre hbx
  refine lv_pop hx hb dl_1358 rfl ?_
  refine lv_aload_n hx hb dl_1359 rfl (lv_at hl 2 rfl) ?_
  refine lv_aload_n hx hb dl_1360 rfl (lv_at hl 4 rfl) ?_
  refine lv_iload hx hb dl_1361 (lv_at hl 0 rfl) ?_
  refine lv_iconst (v := 1) hx hb dl_1363 (by decide) ?_
  refine lv_iadd hx hb dl_1364 ?_
  refine va_sld hx hb hX hbl hbA hS (vIk (k := 1) (by decide) (by decide) hi hL) dl_1365 ?_
  refine lv_aload_n hx hb dl_1366 rfl (lv_at hl 4 rfl) ?_
  refine lv_iload hx hb dl_1367 (lv_at hl 0 rfl) ?_
  refine lv_iconst (v := 2) hx hb dl_1369 (by decide) ?_
  refine lv_iadd hx hb dl_1370 ?_
  refine va_sld hx hb hX hbl hbA hS (vIk (k := 2) (by decide) (by decide) hi hL) dl_1371 ?_
  refine lv_aload_n hx hb dl_1372 rfl (lv_at hl 4 rfl) ?_
  refine lv_iload hx hb dl_1373 (lv_at hl 0 rfl) ?_
  refine lv_iconst (v := 3) hx hb dl_1375 (by decide) ?_
  refine lv_iadd hx hb dl_1376 ?_
  refine va_sld hx hb hX hbl hbA hS (vIk (k := 3) (by decide) (by decide) hi hL) dl_1377 ?_
  refine z_law (rest := []) C (x := 248) (idx := 150) (by decide) (by decide +kernel) (List.mem_append_right _ (List.mem_of_getElem? (i := 1654) (by decide +kernel))) dl_1378 (by decide +kernel) (by decide +kernel) rfl rfl (by decide +kernel) (show cells ≤ 1129 by omega) (show slots ≤ 17054 by omega) q2 (Nat.le_of_ble_eq_true rfl) hWm hS hm0 hbm ⟨_, _, rfl, rfl, ⟨_, _, rfl, rfl, ⟨_, _, rfl, rfl, rfl⟩⟩⟩ rfl hl.1 (Nat.le_of_ble_eq_true rfl) rfl (fun v ws1 tys1 H1 locs1 hO hpre hW1 hD1 hk1 hS => ?_)
  obtain ⟨_, rfl, rfl⟩ := hO
  obtain ⟨hWx, hdis2⟩ := hWx.other hdis.symm hk1 hD1
  obtain ⟨hPo, hdm⟩ := z_other hPo hdm hk1 hD1
  have hbm := zpre_at hpre hbm
  refine lv_pop hx hb dl_1381 rfl ?_
  refine lv_goto (tgt := 1570) hx hb dl_1382 (by decide) ?_
  exact W.widen (by omega) (by omega) (KK _ _ _ ⟨_, _, _, _, cA, fo, Gx, Gm, hWx, hW1, hdis2.symm, hPo, hKo, hDo, hdx, hdm, hS, hbx, hbm, hl, hIv2⟩)
set_option maxRecDepth 100000 in
set_option maxHeartbeats 4000000 in
theorem law_30 {p : Program} {l : Launch} {e : Env} {s : State} {m : MethodId} {below : List Frame} {meth : Method} {c : Code} {b L : Nat} {xs : Nat → Int32} {D : va_G} {bx bm qo : Nat} {i : Int32} {H : Heap} {locs : List Loc} {ls : Array Slot} {cells slots : Nat} {Q : State → Prop} (F : zFx p s m meth c b L xs) (hi : 0 ≤ i.toInt ∧ i.toInt + 6 ≤ L) (hc : cells + 1 ≤ 1129) (hs : slots + 6 ≤ 17054) (B : zBe s b D bx bm qo i H locs ls) (KK : ∀ (H : Heap) (locs : List Loc) (ls : Array Slot), zBe s b D bx bm qo i H locs ls → W p l e room_1 s m #[Value.ref b] below meth c H locs (cells + 1) (slots + 6) Q (F0 m 1570 ls [])) : W p l e room_1 s m #[Value.ref b] below meth c H locs cells slots Q (F0 m 1385 ls []) := by
  obtain ⟨C, hX, hbl, hr, hlocks, hL⟩ := id F
  obtain ⟨hx, hb, hml, hown, hts, hN, hZt⟩ := id C
  have hbA : ¬ zA s b := Nat.not_le.mpr hbl
  obtain ⟨wsx, wsm, tysx, tysm, cA, fo, Hx, Hm, hWx, hWm, hdis, hPo, hKo, hDo, hdx, hdm, hS, hbx, hbm, hl, hIv⟩ := B
  obtain ⟨f, rx, rm, Gx, Gm, q1, q2, hIv2, hE⟩ := step_30 (xs (i + 1).toNatClampNeg) (xs (i + 2).toNatClampNeg) hIv
  obtain ⟨vx0, hx0, -, -⟩ := gI_obj hIv.1.1 sx_0
  obtain ⟨vm0, hm0, -, -⟩ := gI_obj hIv.2.1.1 sm_0
  refine lv_aload_n hx hb dl_1385 rfl (lv_at hl 3 rfl) ?_
  refine lv_aload_n hx hb dl_1386 rfl (lv_at hl 4 rfl) ?_
  refine lv_iload hx hb dl_1387 (lv_at hl 0 rfl) ?_
  refine lv_iconst (v := 1) hx hb dl_1389 (by decide) ?_
  refine lv_iadd hx hb dl_1390 ?_
  refine va_sld hx hb hX hbl hbA hS (vIk (k := 1) (by decide) (by decide) hi hL) dl_1391 ?_
  refine lv_aload_n hx hb dl_1392 rfl (lv_at hl 4 rfl) ?_
  refine lv_iload hx hb dl_1393 (lv_at hl 0 rfl) ?_
  refine lv_iconst (v := 2) hx hb dl_1395 (by decide) ?_
  refine lv_iadd hx hb dl_1396 ?_
  refine va_sld hx hb hX hbl hbA hS (vIk (k := 2) (by decide) (by decide) hi hL) dl_1397 ?_
  refine z_law (rest := []) C (x := 144) (idx := 151) (by decide) (by decide +kernel) (List.mem_append_right _ (List.mem_of_getElem? (i := 1004) (by decide +kernel))) dl_1398 (by decide +kernel) (by decide +kernel) rfl rfl (by decide +kernel) (show cells ≤ 1129 by omega) (show slots ≤ 17054 by omega) q1 (Nat.le_of_ble_eq_true rfl) hWx hS hx0 hbx ⟨_, _, rfl, rfl, ⟨_, _, rfl, rfl, rfl⟩⟩ rfl hl.1 (Nat.le_of_ble_eq_true rfl) rfl (fun v ws1 tys1 H1 locs1 hO hpre hW1 hD1 hk1 hS => ?_)
  obtain ⟨_, rfl, rfl⟩ := hO
  obtain ⟨hWm, hdis⟩ := hWm.other hdis hk1 hD1
  obtain ⟨hPo, hdx⟩ := z_other hPo hdx hk1 hD1
  have hWx := hW1
  have hbx := zpre_at hpre hbx
  refine lv_pop hx hb dl_1401 rfl ?_
  refine lv_aload_n hx hb dl_1402 rfl (lv_at hl 2 rfl) ?_
  refine lv_aload_n hx hb dl_1403 rfl (lv_at hl 4 rfl) ?_
  refine lv_iload hx hb dl_1404 (lv_at hl 0 rfl) ?_
  refine lv_iconst (v := 1) hx hb dl_1406 (by decide) ?_
  refine lv_iadd hx hb dl_1407 ?_
  refine va_sld hx hb hX hbl hbA hS (vIk (k := 1) (by decide) (by decide) hi hL) dl_1408 ?_
  refine lv_aload_n hx hb dl_1409 rfl (lv_at hl 4 rfl) ?_
  refine lv_iload hx hb dl_1410 (lv_at hl 0 rfl) ?_
  refine lv_iconst (v := 2) hx hb dl_1412 (by decide) ?_
  refine lv_iadd hx hb dl_1413 ?_
  refine va_sld hx hb hX hbl hbA hS (vIk (k := 2) (by decide) (by decide) hi hL) dl_1414 ?_
  refine z_law (rest := []) C (x := 250) (idx := 154) (by decide) (by decide +kernel) (List.mem_append_right _ (List.mem_of_getElem? (i := 1658) (by decide +kernel))) dl_1415 (by decide +kernel) (by decide +kernel) rfl rfl (by decide +kernel) (show cells ≤ 1129 by omega) (show slots ≤ 17054 by omega) q2 (Nat.le_of_ble_eq_true rfl) hWm hS hm0 hbm ⟨_, _, rfl, rfl, ⟨_, _, rfl, rfl, rfl⟩⟩ rfl hl.1 (Nat.le_of_ble_eq_true rfl) rfl (fun v ws1 tys1 H1 locs1 hO hpre hW1 hD1 hk1 hS => ?_)
  obtain ⟨_, rfl, rfl⟩ := hO
  obtain ⟨hWx, hdis2⟩ := hWx.other hdis.symm hk1 hD1
  obtain ⟨hPo, hdm⟩ := z_other hPo hdm hk1 hD1
  have hbm := zpre_at hpre hbm
  refine lv_pop hx hb dl_1418 rfl ?_
  refine lv_goto (tgt := 1570) hx hb dl_1419 (by decide) ?_
  exact W.widen (by omega) (by omega) (KK _ _ _ ⟨_, _, _, _, cA, fo, Gx, Gm, hWx, hW1, hdis2.symm, hPo, hKo, hDo, hdx, hdm, hS, hbx, hbm, hl, hIv2⟩)
set_option maxRecDepth 100000 in
set_option maxHeartbeats 4000000 in
theorem law_31 {p : Program} {l : Launch} {e : Env} {s : State} {m : MethodId} {below : List Frame} {meth : Method} {c : Code} {b L : Nat} {xs : Nat → Int32} {D : va_G} {bx bm qo : Nat} {i : Int32} {H : Heap} {locs : List Loc} {ls : Array Slot} {cells slots : Nat} {Q : State → Prop} (F : zFx p s m meth c b L xs) (hi : 0 ≤ i.toInt ∧ i.toInt + 6 ≤ L) (hc : cells + 1 ≤ 1129) (hs : slots + 6 ≤ 17054) (B : zBe s b D bx bm qo i H locs ls) (KK : ∀ (H : Heap) (locs : List Loc) (ls : Array Slot), zBe s b D bx bm qo i H locs ls → W p l e room_1 s m #[Value.ref b] below meth c H locs (cells + 1) (slots + 6) Q (F0 m 1570 ls [])) : W p l e room_1 s m #[Value.ref b] below meth c H locs cells slots Q (F0 m 1422 ls []) := by
  obtain ⟨C, hX, hbl, hr, hlocks, hL⟩ := id F
  obtain ⟨hx, hb, hml, hown, hts, hN, hZt⟩ := id C
  have hbA : ¬ zA s b := Nat.not_le.mpr hbl
  obtain ⟨wsx, wsm, tysx, tysm, cA, fo, Hx, Hm, hWx, hWm, hdis, hPo, hKo, hDo, hdx, hdm, hS, hbx, hbm, hl, hIv⟩ := B
  obtain ⟨f, rx, rm, Gx, Gm, q1, q2, hIv2, hE⟩ := step_31 (xs (i + 1).toNatClampNeg) hIv
  obtain ⟨vx0, hx0, -, -⟩ := gI_obj hIv.1.1 sx_0
  obtain ⟨vm0, hm0, -, -⟩ := gI_obj hIv.2.1.1 sm_0
  refine lv_aload_n hx hb dl_1422 rfl (lv_at hl 3 rfl) ?_
  refine lv_aload_n hx hb dl_1423 rfl (lv_at hl 4 rfl) ?_
  refine lv_iload hx hb dl_1424 (lv_at hl 0 rfl) ?_
  refine lv_iconst (v := 1) hx hb dl_1426 (by decide) ?_
  refine lv_iadd hx hb dl_1427 ?_
  refine va_sld hx hb hX hbl hbA hS (vIk (k := 1) (by decide) (by decide) hi hL) dl_1428 ?_
  refine z_law (rest := []) C (x := 145) (idx := 155) (by decide) (by decide +kernel) (List.mem_append_right _ (List.mem_of_getElem? (i := 1012) (by decide +kernel))) dl_1429 (by decide +kernel) (by decide +kernel) rfl rfl (by decide +kernel) (show cells ≤ 1129 by omega) (show slots ≤ 17054 by omega) q1 (Nat.le_of_ble_eq_true rfl) hWx hS hx0 hbx ⟨_, _, rfl, rfl, rfl⟩ rfl hl.1 (Nat.le_of_ble_eq_true rfl) rfl (fun v ws1 tys1 H1 locs1 hO hpre hW1 hD1 hk1 hS => ?_)
  obtain ⟨_, rfl, rfl⟩ := hO
  obtain ⟨hWm, hdis⟩ := hWm.other hdis hk1 hD1
  obtain ⟨hPo, hdx⟩ := z_other hPo hdx hk1 hD1
  have hWx := hW1
  have hbx := zpre_at hpre hbx
  refine lv_pop hx hb dl_1432 rfl ?_
  refine lv_aload_n hx hb dl_1433 rfl (lv_at hl 2 rfl) ?_
  refine lv_aload_n hx hb dl_1434 rfl (lv_at hl 4 rfl) ?_
  refine lv_iload hx hb dl_1435 (lv_at hl 0 rfl) ?_
  refine lv_iconst (v := 1) hx hb dl_1437 (by decide) ?_
  refine lv_iadd hx hb dl_1438 ?_
  refine va_sld hx hb hX hbl hbA hS (vIk (k := 1) (by decide) (by decide) hi hL) dl_1439 ?_
  refine z_law (rest := []) C (x := 251) (idx := 158) (by decide) (by decide +kernel) (List.mem_append_right _ (List.mem_of_getElem? (i := 1666) (by decide +kernel))) dl_1440 (by decide +kernel) (by decide +kernel) rfl rfl (by decide +kernel) (show cells ≤ 1129 by omega) (show slots ≤ 17054 by omega) q2 (Nat.le_of_ble_eq_true rfl) hWm hS hm0 hbm ⟨_, _, rfl, rfl, rfl⟩ rfl hl.1 (Nat.le_of_ble_eq_true rfl) rfl (fun v ws1 tys1 H1 locs1 hO hpre hW1 hD1 hk1 hS => ?_)
  obtain ⟨_, rfl, rfl⟩ := hO
  obtain ⟨hWx, hdis2⟩ := hWx.other hdis.symm hk1 hD1
  obtain ⟨hPo, hdm⟩ := z_other hPo hdm hk1 hD1
  have hbm := zpre_at hpre hbm
  refine lv_pop hx hb dl_1443 rfl ?_
  refine lv_goto (tgt := 1570) hx hb dl_1444 (by decide) ?_
  exact W.widen (by omega) (by omega) (KK _ _ _ ⟨_, _, _, _, cA, fo, Gx, Gm, hWx, hW1, hdis2.symm, hPo, hKo, hDo, hdx, hdm, hS, hbx, hbm, hl, hIv2⟩)
set_option maxRecDepth 100000 in
set_option maxHeartbeats 4000000 in
theorem law_32 {p : Program} {l : Launch} {e : Env} {s : State} {m : MethodId} {below : List Frame} {meth : Method} {c : Code} {b L : Nat} {xs : Nat → Int32} {D : va_G} {bx bm qo : Nat} {i : Int32} {H : Heap} {locs : List Loc} {ls : Array Slot} {cells slots : Nat} {Q : State → Prop} (F : zFx p s m meth c b L xs) (hi : 0 ≤ i.toInt ∧ i.toInt + 6 ≤ L) (hc : cells + 1 ≤ 1129) (hs : slots + 6 ≤ 17054) (B : zBe s b D bx bm qo i H locs ls) (KK : ∀ (H : Heap) (locs : List Loc) (ls : Array Slot), zBe s b D bx bm qo i H locs ls → W p l e room_1 s m #[Value.ref b] below meth c H locs (cells + 1) (slots + 6) Q (F0 m 1570 ls [])) : W p l e room_1 s m #[Value.ref b] below meth c H locs cells slots Q (F0 m 1447 ls []) := by
  obtain ⟨C, hX, hbl, hr, hlocks, hL⟩ := id F
  obtain ⟨hx, hb, hml, hown, hts, hN, hZt⟩ := id C
  have hbA : ¬ zA s b := Nat.not_le.mpr hbl
  obtain ⟨wsx, wsm, tysx, tysm, cA, fo, Hx, Hm, hWx, hWm, hdis, hPo, hKo, hDo, hdx, hdm, hS, hbx, hbm, hl, hIv⟩ := B
  obtain ⟨f, rx, rm, Gx, Gm, q1, q2, hIv2, hE⟩ := step_32 (xs (i + 1).toNatClampNeg) (xs (i + 2).toNatClampNeg) (xs (i + 3).toNatClampNeg) hIv
  obtain ⟨vx0, hx0, -, -⟩ := gI_obj hIv.1.1 sx_0
  obtain ⟨vm0, hm0, -, -⟩ := gI_obj hIv.2.1.1 sm_0
  refine lv_aload_n hx hb dl_1447 rfl (lv_at hl 3 rfl) ?_
  refine lv_aload_n hx hb dl_1448 rfl (lv_at hl 4 rfl) ?_
  refine lv_iload hx hb dl_1449 (lv_at hl 0 rfl) ?_
  refine lv_iconst (v := 1) hx hb dl_1451 (by decide) ?_
  refine lv_iadd hx hb dl_1452 ?_
  refine va_sld hx hb hX hbl hbA hS (vIk (k := 1) (by decide) (by decide) hi hL) dl_1453 ?_
  refine lv_aload_n hx hb dl_1454 rfl (lv_at hl 4 rfl) ?_
  refine lv_iload hx hb dl_1455 (lv_at hl 0 rfl) ?_
  refine lv_iconst (v := 2) hx hb dl_1457 (by decide) ?_
  refine lv_iadd hx hb dl_1458 ?_
  refine va_sld hx hb hX hbl hbA hS (vIk (k := 2) (by decide) (by decide) hi hL) dl_1459 ?_
  refine lv_aload_n hx hb dl_1460 rfl (lv_at hl 4 rfl) ?_
  refine lv_iload hx hb dl_1461 (lv_at hl 0 rfl) ?_
  refine lv_iconst (v := 3) hx hb dl_1463 (by decide) ?_
  refine lv_iadd hx hb dl_1464 ?_
  refine va_sld hx hb hX hbl hbA hS (vIk (k := 3) (by decide) (by decide) hi hL) dl_1465 ?_
  refine z_law (rest := []) C (x := 146) (idx := 159) (by decide) (by decide +kernel) (List.mem_append_right _ (List.mem_of_getElem? (i := 1021) (by decide +kernel))) dl_1466 (by decide +kernel) (by decide +kernel) rfl rfl (by decide +kernel) (show cells ≤ 1129 by omega) (show slots ≤ 17054 by omega) q1 (Nat.le_of_ble_eq_true rfl) hWx hS hx0 hbx ⟨_, _, rfl, rfl, ⟨_, _, rfl, rfl, ⟨_, _, rfl, rfl, rfl⟩⟩⟩ rfl hl.1 (Nat.le_of_ble_eq_true rfl) rfl (fun v ws1 tys1 H1 locs1 hO hpre hW1 hD1 hk1 hS => ?_)
  obtain ⟨_, rfl, rfl⟩ := hO
  obtain ⟨hWm, hdis⟩ := hWm.other hdis hk1 hD1
  obtain ⟨hPo, hdx⟩ := z_other hPo hdx hk1 hD1
  have hWx := hW1
  have hbx := zpre_at hpre hbx
  refine lv_pop hx hb dl_1469 rfl ?_
  refine lv_aload_n hx hb dl_1470 rfl (lv_at hl 2 rfl) ?_
  refine lv_aload_n hx hb dl_1471 rfl (lv_at hl 4 rfl) ?_
  refine lv_iload hx hb dl_1472 (lv_at hl 0 rfl) ?_
  refine lv_iconst (v := 1) hx hb dl_1474 (by decide) ?_
  refine lv_iadd hx hb dl_1475 ?_
  refine va_sld hx hb hX hbl hbA hS (vIk (k := 1) (by decide) (by decide) hi hL) dl_1476 ?_
  refine lv_aload_n hx hb dl_1477 rfl (lv_at hl 4 rfl) ?_
  refine lv_iload hx hb dl_1478 (lv_at hl 0 rfl) ?_
  refine lv_iconst (v := 2) hx hb dl_1480 (by decide) ?_
  refine lv_iadd hx hb dl_1481 ?_
  refine va_sld hx hb hX hbl hbA hS (vIk (k := 2) (by decide) (by decide) hi hL) dl_1482 ?_
  refine lv_aload_n hx hb dl_1483 rfl (lv_at hl 4 rfl) ?_
  refine lv_iload hx hb dl_1484 (lv_at hl 0 rfl) ?_
  refine lv_iconst (v := 3) hx hb dl_1486 (by decide) ?_
  refine lv_iadd hx hb dl_1487 ?_
  refine va_sld hx hb hX hbl hbA hS (vIk (k := 3) (by decide) (by decide) hi hL) dl_1488 ?_
  refine z_law (rest := []) C (x := 245) (idx := 162) (by decide) (by decide +kernel) (List.mem_append_right _ (List.mem_of_getElem? (i := 1642) (by decide +kernel))) dl_1489 (by decide +kernel) (by decide +kernel) rfl rfl (by decide +kernel) (show cells ≤ 1129 by omega) (show slots ≤ 17054 by omega) q2 (Nat.le_of_ble_eq_true rfl) hWm hS hm0 hbm ⟨_, _, rfl, rfl, ⟨_, _, rfl, rfl, ⟨_, _, rfl, rfl, rfl⟩⟩⟩ rfl hl.1 (Nat.le_of_ble_eq_true rfl) rfl (fun v ws1 tys1 H1 locs1 hO hpre hW1 hD1 hk1 hS => ?_)
  obtain ⟨_, rfl, rfl⟩ := hO
  obtain ⟨hWx, hdis2⟩ := hWx.other hdis.symm hk1 hD1
  obtain ⟨hPo, hdm⟩ := z_other hPo hdm hk1 hD1
  have hbm := zpre_at hpre hbm
  refine lv_pop hx hb dl_1492 rfl ?_
  refine lv_goto (tgt := 1570) hx hb dl_1493 (by decide) ?_
  exact W.widen (by omega) (by omega) (KK _ _ _ ⟨_, _, _, _, cA, fo, Gx, Gm, hWx, hW1, hdis2.symm, hPo, hKo, hDo, hdx, hdm, hS, hbx, hbm, hl, hIv2⟩)
set_option maxRecDepth 100000 in
set_option maxHeartbeats 4000000 in
theorem law_33 {p : Program} {l : Launch} {e : Env} {s : State} {m : MethodId} {below : List Frame} {meth : Method} {c : Code} {b L : Nat} {xs : Nat → Int32} {D : va_G} {bx bm qo : Nat} {i : Int32} {H : Heap} {locs : List Loc} {ls : Array Slot} {cells slots : Nat} {Q : State → Prop} (F : zFx p s m meth c b L xs) (hi : 0 ≤ i.toInt ∧ i.toInt + 6 ≤ L) (hc : cells + 1 ≤ 1129) (hs : slots + 6 ≤ 17054) (B : zBe s b D bx bm qo i H locs ls) (KK : ∀ (H : Heap) (locs : List Loc) (ls : Array Slot), zBe s b D bx bm qo i H locs ls → W p l e room_1 s m #[Value.ref b] below meth c H locs (cells + 1) (slots + 6) Q (F0 m 1570 ls [])) : W p l e room_1 s m #[Value.ref b] below meth c H locs cells slots Q (F0 m 1496 ls []) := by
  obtain ⟨C, hX, hbl, hr, hlocks, hL⟩ := id F
  obtain ⟨hx, hb, hml, hown, hts, hN, hZt⟩ := id C
  have hbA : ¬ zA s b := Nat.not_le.mpr hbl
  obtain ⟨wsx, wsm, tysx, tysm, cA, fo, Hx, Hm, hWx, hWm, hdis, hPo, hKo, hDo, hdx, hdm, hS, hbx, hbm, hl, hIv⟩ := B
  obtain ⟨f, rx, rm, Gx, Gm, q1, q2, hIv2, hE⟩ := step_33 (xs (i + 1).toNatClampNeg) (xs (i + 2).toNatClampNeg) (xs (i + 3).toNatClampNeg) hIv
  obtain ⟨vx0, hx0, -, -⟩ := gI_obj hIv.1.1 sx_0
  obtain ⟨vm0, hm0, -, -⟩ := gI_obj hIv.2.1.1 sm_0
  refine lv_aload_n hx hb dl_1496 rfl (lv_at hl 3 rfl) ?_
  refine lv_aload_n hx hb dl_1497 rfl (lv_at hl 4 rfl) ?_
  refine lv_iload hx hb dl_1498 (lv_at hl 0 rfl) ?_
  refine lv_iconst (v := 1) hx hb dl_1500 (by decide) ?_
  refine lv_iadd hx hb dl_1501 ?_
  refine va_sld hx hb hX hbl hbA hS (vIk (k := 1) (by decide) (by decide) hi hL) dl_1502 ?_
  refine lv_aload_n hx hb dl_1503 rfl (lv_at hl 4 rfl) ?_
  refine lv_iload hx hb dl_1504 (lv_at hl 0 rfl) ?_
  refine lv_iconst (v := 2) hx hb dl_1506 (by decide) ?_
  refine lv_iadd hx hb dl_1507 ?_
  refine va_sld hx hb hX hbl hbA hS (vIk (k := 2) (by decide) (by decide) hi hL) dl_1508 ?_
  refine lv_aload_n hx hb dl_1509 rfl (lv_at hl 4 rfl) ?_
  refine lv_iload hx hb dl_1510 (lv_at hl 0 rfl) ?_
  refine lv_iconst (v := 3) hx hb dl_1512 (by decide) ?_
  refine lv_iadd hx hb dl_1513 ?_
  refine va_sld hx hb hX hbl hbA hS (vIk (k := 3) (by decide) (by decide) hi hL) dl_1514 ?_
  refine z_law (rest := []) C (x := 147) (idx := 163) (by decide) (by decide +kernel) (List.mem_append_right _ (List.mem_of_getElem? (i := 1029) (by decide +kernel))) dl_1515 (by decide +kernel) (by decide +kernel) rfl rfl (by decide +kernel) (show cells ≤ 1129 by omega) (show slots ≤ 17054 by omega) q1 (Nat.le_of_ble_eq_true rfl) hWx hS hx0 hbx ⟨_, _, rfl, rfl, ⟨_, _, rfl, rfl, ⟨_, _, rfl, rfl, rfl⟩⟩⟩ rfl hl.1 (Nat.le_of_ble_eq_true rfl) rfl (fun v ws1 tys1 H1 locs1 hO hpre hW1 hD1 hk1 hS => ?_)
  obtain ⟨_, rfl, rfl⟩ := hO
  obtain ⟨hWm, hdis⟩ := hWm.other hdis hk1 hD1
  obtain ⟨hPo, hdx⟩ := z_other hPo hdx hk1 hD1
  have hWx := hW1
  have hbx := zpre_at hpre hbx
  refine lv_pop hx hb dl_1518 rfl ?_
  refine lv_aload_n hx hb dl_1519 rfl (lv_at hl 2 rfl) ?_
  refine lv_aload_n hx hb dl_1520 rfl (lv_at hl 4 rfl) ?_
  refine lv_iload hx hb dl_1521 (lv_at hl 0 rfl) ?_
  refine lv_iconst (v := 1) hx hb dl_1523 (by decide) ?_
  refine lv_iadd hx hb dl_1524 ?_
  refine va_sld hx hb hX hbl hbA hS (vIk (k := 1) (by decide) (by decide) hi hL) dl_1525 ?_
  refine lv_aload_n hx hb dl_1526 rfl (lv_at hl 4 rfl) ?_
  refine lv_iload hx hb dl_1527 (lv_at hl 0 rfl) ?_
  refine lv_iconst (v := 2) hx hb dl_1529 (by decide) ?_
  refine lv_iadd hx hb dl_1530 ?_
  refine va_sld hx hb hX hbl hbA hS (vIk (k := 2) (by decide) (by decide) hi hL) dl_1531 ?_
  refine lv_aload_n hx hb dl_1532 rfl (lv_at hl 4 rfl) ?_
  refine lv_iload hx hb dl_1533 (lv_at hl 0 rfl) ?_
  refine lv_iconst (v := 3) hx hb dl_1535 (by decide) ?_
  refine lv_iadd hx hb dl_1536 ?_
  refine va_sld hx hb hX hbl hbA hS (vIk (k := 3) (by decide) (by decide) hi hL) dl_1537 ?_
  refine z_law (rest := []) C (x := 246) (idx := 166) (by decide) (by decide +kernel) (List.mem_append_right _ (List.mem_of_getElem? (i := 1646) (by decide +kernel))) dl_1538 (by decide +kernel) (by decide +kernel) rfl rfl (by decide +kernel) (show cells ≤ 1129 by omega) (show slots ≤ 17054 by omega) q2 (Nat.le_of_ble_eq_true rfl) hWm hS hm0 hbm ⟨_, _, rfl, rfl, ⟨_, _, rfl, rfl, ⟨_, _, rfl, rfl, rfl⟩⟩⟩ rfl hl.1 (Nat.le_of_ble_eq_true rfl) rfl (fun v ws1 tys1 H1 locs1 hO hpre hW1 hD1 hk1 hS => ?_)
  obtain ⟨_, rfl, rfl⟩ := hO
  obtain ⟨hWx, hdis2⟩ := hWx.other hdis.symm hk1 hD1
  obtain ⟨hPo, hdm⟩ := z_other hPo hdm hk1 hD1
  have hbm := zpre_at hpre hbm
  refine lv_pop hx hb dl_1541 rfl ?_
  refine lv_goto (tgt := 1570) hx hb dl_1542 (by decide) ?_
  exact W.widen (by omega) (by omega) (KK _ _ _ ⟨_, _, _, _, cA, fo, Gx, Gm, hWx, hW1, hdis2.symm, hPo, hKo, hDo, hdx, hdm, hS, hbx, hbm, hl, hIv2⟩)
set_option maxRecDepth 100000 in
set_option maxHeartbeats 4000000 in
theorem law_34 {p : Program} {l : Launch} {e : Env} {s : State} {m : MethodId} {below : List Frame} {meth : Method} {c : Code} {b L : Nat} {xs : Nat → Int32} {D : va_G} {bx bm qo : Nat} {i : Int32} {H : Heap} {locs : List Loc} {ls : Array Slot} {cells slots : Nat} {Q : State → Prop} (F : zFx p s m meth c b L xs) (hi : 0 ≤ i.toInt ∧ i.toInt + 6 ≤ L) (hc : cells + 1 ≤ 1129) (hs : slots + 6 ≤ 17054) (B : zBe s b D bx bm qo i H locs ls) (KK : ∀ (H : Heap) (locs : List Loc) (ls : Array Slot), zBe s b D bx bm qo i H locs ls → W p l e room_1 s m #[Value.ref b] below meth c H locs (cells + 1) (slots + 6) Q (F0 m 1570 ls [])) : W p l e room_1 s m #[Value.ref b] below meth c H locs cells slots Q (F0 m 1545 ls []) := by
  obtain ⟨C, hX, hbl, hr, hlocks, hL⟩ := id F
  obtain ⟨hx, hb, hml, hown, hts, hN, hZt⟩ := id C
  have hbA : ¬ zA s b := Nat.not_le.mpr hbl
  obtain ⟨wsx, wsm, tysx, tysm, cA, fo, Hx, Hm, hWx, hWm, hdis, hPo, hKo, hDo, hdx, hdm, hS, hbx, hbm, hl, hIv⟩ := B
  obtain ⟨f, rx, rm, Gx, Gm, q1, q2, hIv2, hE⟩ := step_34 (xs (i + 1).toNatClampNeg) hIv
  obtain ⟨vx0, hx0, -, -⟩ := gI_obj hIv.1.1 sx_0
  obtain ⟨vm0, hm0, -, -⟩ := gI_obj hIv.2.1.1 sm_0
  refine lv_aload_n hx hb dl_1545 rfl (lv_at hl 3 rfl) ?_
  refine lv_aload_n hx hb dl_1546 rfl (lv_at hl 4 rfl) ?_
  refine lv_iload hx hb dl_1547 (lv_at hl 0 rfl) ?_
  refine lv_iconst (v := 1) hx hb dl_1549 (by decide) ?_
  refine lv_iadd hx hb dl_1550 ?_
  refine va_sld hx hb hX hbl hbA hS (vIk (k := 1) (by decide) (by decide) hi hL) dl_1551 ?_
  refine z_law (rest := []) C (x := 148) (idx := 167) (by decide) (by decide +kernel) (List.mem_append_right _ (List.mem_of_getElem? (i := 1035) (by decide +kernel))) dl_1552 (by decide +kernel) (by decide +kernel) rfl rfl (by decide +kernel) (show cells ≤ 1129 by omega) (show slots ≤ 17054 by omega) q1 (Nat.le_of_ble_eq_true rfl) hWx hS hx0 hbx ⟨_, _, rfl, rfl, rfl⟩ rfl hl.1 (Nat.le_of_ble_eq_true rfl) rfl (fun v ws1 tys1 H1 locs1 hO hpre hW1 hD1 hk1 hS => ?_)
  obtain ⟨_, rfl, rfl⟩ := hO
  obtain ⟨hWm, hdis⟩ := hWm.other hdis hk1 hD1
  obtain ⟨hPo, hdx⟩ := z_other hPo hdx hk1 hD1
  have hWx := hW1
  have hbx := zpre_at hpre hbx
  refine lv_pop hx hb dl_1555 rfl ?_
  refine lv_aload_n hx hb dl_1556 rfl (lv_at hl 2 rfl) ?_
  refine lv_aload_n hx hb dl_1557 rfl (lv_at hl 4 rfl) ?_
  refine lv_iload hx hb dl_1558 (lv_at hl 0 rfl) ?_
  refine lv_iconst (v := 1) hx hb dl_1560 (by decide) ?_
  refine lv_iadd hx hb dl_1561 ?_
  refine va_sld hx hb hX hbl hbA hS (vIk (k := 1) (by decide) (by decide) hi hL) dl_1562 ?_
  refine z_law (rest := []) C (x := 252) (idx := 170) (by decide) (by decide +kernel) (List.mem_append_right _ (List.mem_of_getElem? (i := 1670) (by decide +kernel))) dl_1563 (by decide +kernel) (by decide +kernel) rfl rfl (by decide +kernel) (show cells ≤ 1129 by omega) (show slots ≤ 17054 by omega) q2 (Nat.le_of_ble_eq_true rfl) hWm hS hm0 hbm ⟨_, _, rfl, rfl, rfl⟩ rfl hl.1 (Nat.le_of_ble_eq_true rfl) rfl (fun v ws1 tys1 H1 locs1 hO hpre hW1 hD1 hk1 hS => ?_)
  obtain ⟨_, rfl, rfl⟩ := hO
  obtain ⟨hWx, hdis2⟩ := hWx.other hdis.symm hk1 hD1
  obtain ⟨hPo, hdm⟩ := z_other hPo hdm hk1 hD1
  have hbm := zpre_at hpre hbm
  refine lv_pop hx hb dl_1566 rfl ?_
  refine lv_goto (tgt := 1570) hx hb dl_1567 (by decide) ?_
  exact W.widen (by omega) (by omega) (KK _ _ _ ⟨_, _, _, _, cA, fo, Gx, Gm, hWx, hW1, hdis2.symm, hPo, hKo, hDo, hdx, hdm, hS, hbx, hbm, hl, hIv2⟩)
