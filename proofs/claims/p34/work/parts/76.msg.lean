/-! message OF THE CLASS WHERE IT THROWS -/
abbrev zXn : List String := ["java/lang/RuntimeException", "java/lang/Exception"]
abbrev zXc : String := "java/lang/IndexOutOfBoundsException"
def zXa : List Cond := vx_atS RX9 118 zXc zXn
def zTw (w : Cond) : Bool := match w with
  | .castable _ _ => true
  | .declares _ => true
  | _ => false
def zTS : List Cond := lw_tbl.filter zTw
def zThr (U : State) : Prop := ∀ w ∈ zTS, va_Nw w U
theorem zThr.warm {s U : State} (hW : s.WarmedH U.vm) (h : zThr s) : zThr U := by
  intro w hw
  have h1 := h w hw
  have h2 := (List.mem_filter.mp hw).2
  unfold zTw at h2
  split at h2
  · exact va_Nw.warmC hW h1
  · exact va_Nw.warmD hW h1
  · cases h2
theorem zThr.same {s U : State} (hv : s.vm = U.vm) (h : zThr s) : zThr U := by
  intro w hw
  have h1 := h w hw
  have h2 := (List.mem_filter.mp hw).2
  unfold zTw at h2
  split at h2
  · exact va_Nw.same rfl hv h1
  · exact va_Nw.same rfl hv h1
  · cases h2
theorem zThr_of {args : Array Value} {s : State} (hts : ∀ w ∈ lw_tbl, w.before args s = true) : zThr s := by
  intro w hw
  obtain ⟨h1, h2⟩ := List.mem_filter.mp hw
  have h3 := hts w h1
  unfold zTw at h2
  split at h2
  · exact va_Nw.of rfl h3
  · exact va_Nw.of rfl h3
  · cases h2
theorem zXb_in : ∀ w ∈ zXa.filter (fun w => !goodWord w), w ∈ lw_tbl ∧ zTw w = true := by decide +kernel
theorem zXg_in : ∀ w ∈ zXa.filter goodWord, w ∈ lw_tbl := by decide +kernel
theorem zXo : zXa.all vx_ot = true := by decide +kernel
theorem zgd_good {w : Cond} (h : goodWord w = true) : zgd w = true := by
  unfold goodWord at h
  unfold zgd
  split at h
  · rfl
  · rw [h]; rfl
theorem z_hat {args : Array Value} {s : State} (hz : ∀ w ∈ zBG, w.before args s = true) (hT : zThr s) : ∀ w ∈ vx_atS RX9 118 zXc zXn, w.before args s = true := by
  refine vx_hat (B := zTS) (fun w hw => hz w (List.mem_filter.mpr ⟨zXg_in w hw, zgd_good (List.mem_filter.mp hw).2⟩)) (fun w hw => List.mem_filter.mpr (zXb_in w hw)) (fun w hw => ?_)
  have h2 := (List.mem_filter.mp hw).2
  have h1 := hT w hw
  unfold zTw at h2
  split at h2
  · exact va_Nw.use rfl h1
  · exact va_Nw.use rfl h1
  · cases h2
abbrev zXd : String := "java/util/NoSuchElementException"
abbrev zXr : ByteArray := ⟨#[0x2a, 0x2b, 0xb7, 0x00, 0x0d, 0xb1]⟩
abbrev zXy : String := "java/lang/RuntimeException"
abbrev zXm : List String := ["java/lang/Exception"]
def zXe : List Cond := (vyAt RX9 154 zXd 13 zXr zXy zXm).filter vx_no
theorem zXb2_in : ∀ w ∈ zXe.filter (fun w => !goodWord w), w ∈ lw_tbl ∧ zTw w = true := by decide +kernel
theorem zXg2_in : ∀ w ∈ zXe.filter goodWord, w ∈ lw_tbl := by decide +kernel
theorem zXo2 : zXe.all vx_ot = true := by decide +kernel
theorem z_hat2 {args : Array Value} {s : State} (hz : ∀ w ∈ zBG, w.before args s = true) (hT : zThr s) : ∀ w ∈ (vyAt RX9 154 zXd 13 zXr zXy zXm).filter vx_no, w.before args s = true := by
  refine vx_hat (B := zTS) (fun w hw => hz w (List.mem_filter.mpr ⟨zXg2_in w hw, zgd_good (List.mem_filter.mp hw).2⟩)) (fun w hw => List.mem_filter.mpr (zXb2_in w hw)) (fun w hw => ?_)
  have h2 := (List.mem_filter.mp hw).2
  have h1 := hT w hw
  unfold zTw at h2
  split at h2
  · exact va_Nw.use rfl h1
  · exact va_Nw.use rfl h1
  · cases h2
def zRmM : Room := { frames := 6, cells := 1, slots := 6, locals := 100 }
/-- what a throw of message rests on -/
def zPm (D : va_G) (ws0 : va_W) (tys0 : List (ClassId × FieldType)) (sz sa : Nat) (ix : Nat) (tx : String) (U : State) : Prop := U.heap.size = sz ∧ va_P D vwCl ws0 U.heap ∧ va_K D vwCl tys0 U ∧ va_D (fun _ => True) ws0 ∧ zNest U ∧ zThr U ∧ vk_R RX9 ix tx sa U ∧ vx_Zq Bundle.tN "UNASSIGNED_STACK" Bundle.steD (va_A ws0 sz) U U.heap ∧ vx_Zq Bundle.tN "SUPPRESSED_SENTINEL" Bundle.listD (va_A ws0 sz) U U.heap ∧ zStr (va_A ws0 sz) U
/-- the class's world behind it: the same mini heap -/
def zWk (D : va_G) (ws0 : va_W) (sz : Nat) (Hx : mzH) (t : State) : Prop := ∃ (ws1 : va_W) (tys1 : List (ClassId × FieldType)), zrH tys1 Hx ws1 ∧ zad ws0 <+: zad ws1 ∧ va_P D vwCl ws1 t.heap ∧ va_K D vwCl tys1 t ∧ va_D (va_A ws0 sz) ws1
theorem dqm_0 : decode (zM 119).2.1 0 = .ok (.aload_n 0, 1) := by decide +kernel
theorem dqm_1 : decode (zM 119).2.1 1 = .ok (.getfield 19, 3) := by decide +kernel
theorem dqm_4 : decode (zM 119).2.1 4 = .ok (.iload_n 1, 1) := by decide +kernel
theorem dqm_5 : decode (zM 119).2.1 5 = .ok (.invokevirtual 111, 3) := by decide +kernel
theorem dqm_8 : decode (zM 119).2.1 8 = .ok (.ifCond .ne 13, 3) := by decide +kernel
theorem dqm_11 : decode (zM 119).2.1 11 = .ok (.new 114, 3) := by decide +kernel
theorem dqm_14 : decode (zM 119).2.1 14 = .ok (.dup, 1) := by decide +kernel
theorem dqm_15 : decode (zM 119).2.1 15 = .ok (.ldc 116, 2) := by decide +kernel
theorem dqm_17 : decode (zM 119).2.1 17 = .ok (.invokespecial 118, 3) := by decide +kernel
theorem dqm_20 : decode (zM 119).2.1 20 = .ok (.athrow, 1) := by decide +kernel
theorem dqm_21 : decode (zM 119).2.1 21 = .ok (.iload_n 2, 1) := by decide +kernel
theorem dqm_22 : decode (zM 119).2.1 22 = .ok (.tableswitch 121 0 6 #[42, 52, 62, 72, 82, 92, 104], 42) := by decide +kernel
theorem dqm_143 : decode (zM 119).2.1 143 = .ok (.new 150, 3) := by decide +kernel
theorem dqm_146 : decode (zM 119).2.1 146 = .ok (.dup, 1) := by decide +kernel
theorem dqm_147 : decode (zM 119).2.1 147 = .ok (.ldc 152, 2) := by decide +kernel
theorem dqm_149 : decode (zM 119).2.1 149 = .ok (.invokespecial 154, 3) := by decide +kernel
theorem dqm_152 : decode (zM 119).2.1 152 = .ok (.athrow, 1) := by decide +kernel
set_option maxRecDepth 100000 in
set_option maxHeartbeats 4000000 in
theorem c_msgA {l : Launch} (hlt : l.stackTraces = false) {D : va_G} (ws0 : va_W) (tys0 : List (ClassId × FieldType)) (sz sa b0 : Nat) (k w : Int32) (hb0 : (zad ws0)[0]? = some b0) {Hx : mzH} (hH : zrH tys0 Hx ws0) (hI : gI SX Hx) {f : Nat} {v0 : Int32} (hrun : zRun f 12 [.ref 3, .int k] Hx = some (some (.int v0), Hx)) (hv0 : v0 = 0) :
    vx_Met l (zM 119).1 (zws 119) zRmM (va_Pc [.ref b0, .int k, .int w] (zPm D ws0 tys0 sz sa 116 "no such message")) (va_Qi (fun (_ : Int32) (_ : Unit) => False) (fun _ _ => True) (va_A ws0 sz)) (vx_X (fun _ : Unit => True) (fun E _ t => E = zXc ∧ zWk D ws0 sz Hx t) (va_A ws0 sz)) 1 6 (va_A ws0 sz) := by
  refine vx_ofW (cc := (zM 119).2.1) (maxL := 3) (ret := some .int) (zMf_ok 119 (by decide)).1 rfl ?_
  intro p e s m args below meth c s₁ B hml htab hv
  obtain ⟨rfl, hsz, hP, hK, hD0, hN, hT, hR, hU, hSn, hZt⟩ := hv
  subst hsz
  have hx := B.exec
  have hb := B.bytes
  have hts := atoms_spec (ws := zws 119) B.pre
  have hown : s.vm.findClass RX9 = some m.cls := findClass_of_methodNamed B.named
  have hlocks := B.notSynchronized
  have hD := hD0.self (sz := s.heap.size)
  have hS : va_S (va_A ws0 s.heap.size) s.heap s.heap [] := va_S.rf
  have hl := lv_entry ([.ref b0, .int k, .int w]) (n := 3) (Nat.le_of_ble_eq_true rfl)
  rw [lg_entry_eq]
  generalize (lg_sl ([.ref b0, .int k, .int w]) ++ List.replicate (3 - (lg_sl ([.ref b0, .int k, .int w])).length) Slot.unset).toArray = ls at hl ⊢
  have hl : lv_has ls 3 [(0, .ref b0), (1, .int k), (2, .int w)] := hl
  obtain ⟨vx0, hx0, hx0l, hx0f⟩ := gI_obj hI sx_0
  obtain ⟨vx3, hx3, -, -⟩ := gI_obj hI sx_3
  obtain ⟨_, hx01, rfl⟩ := hx0f 1 (.inl 3) rfl
  obtain ⟨_, hwa, fs', rfl, hfs⟩ := zrH_get hH (k := 0) hx0 hb0
  obtain ⟨_, hf1, a3, ha3, rfl⟩ := zrL_at (k := 1) hfs hx01
  obtain ⟨Cn, T, N, h1, h2, h3, h4⟩ := zLF_ok (9, 19, 9, 1) (by decide +kernel)
  obtain ⟨Cn2, T2, N2, ty2, g1, g2, g3, g4, -⟩ := zC_ok 9 (by decide)
  cases g1.symm.trans h1
  refine lv_aload_n hx hb dqm_0 rfl (lv_at hl 0 rfl) ?_
  refine va_get (D := D) (C := Cn) (T := T) (N := N) hx hb hts (fun w hw => zws_own 119 w (g2 w hw)) hown hK hP 0 hwa h1 1 h2 (zIn (Ts := []) hts h4) (fun q hq => by rw [← h3]; exact hq) hf1 dqm_1 ?_
  refine lv_iload_n hx hb dqm_4 rfl (lv_at hl 1 rfl) ?_
  obtain ⟨hpl, hnd, hcn, hnl, hcd, hin⟩ := zMf_ok 12 (by decide)
  obtain ⟨hd1, hna0, him, hsel⟩ := zKv_ok 12 (by decide +kernel)
  have hMet := z_met_of (l := l) (D := D) zok (z_snd l D zok f) (j := 12) (by decide) (as := [.ref 3, .int k]) (Hm := Hx) (res := (some (.int v0), Hx)) (Nat.le_of_ble_eq_true rfl) hrun ws0 tys0 s.heap.size [.ref a3, .int k] ⟨_, _, rfl, ⟨a3, ha3, rfl⟩, _, _, rfl, rfl, rfl⟩ hH
  obtain ⟨_, hw3, fs3, rfl, hfs3⟩ := zrH_get hH (k := 3) hx3 ha3
  obtain ⟨hst0, hn4⟩ := zLMn_ok (9, 111, 12, 0) (by decide +kernel)
  refine z_calls (ws0 := ws0) (Hm := Hx) (ws := ws0) (tys := tys0) ⟨hH, hP, hK, hD, hS⟩ (va_runVN (As := [.int k]) (rest := []) (b := a3) (C := RX1) (nL := 3) ⟨hx, hb, hml, hown, hts⟩ hMet ⟨va_cnB 1 hts (zws_in (zws_own 119) (by decide)) rfl rfl rfl (hN _ hn4) (zIn (Ts := []) hts hin) ⟨hnd.1, hnd.2, hd1⟩ ⟨by decide +kernel, by decide +kernel⟩, zIn (Ts := []) hts him, zIn (Ts := []) hts hsel⟩ ⟨zPre_blind, va_recv hK hP (ci := 1) rfl hw3, (fun U hU hW => ⟨rfl, by rw [hU], by rw [hU]; exact hP, va_K.moved hW.alike hK, hD.weaken (fun _ _ _ _ => trivial), hN.warm hW, hZt.go hS (fun _ h => h) hU hW⟩)⟩ rfl rfl hl.1 rfl (lv_room (Nat.le_of_ble_eq_true rfl)) dqm_5 ⟨by decide +kernel, by decide +kernel⟩) (fun v ws1 tys1 H1 locs1 hO hpre hI1 => ?_)
  obtain ⟨_, rfl, rfl⟩ := hO
  obtain ⟨hH1, hP1, hK1, hD1, hS1⟩ := hI1
  refine lv_if_ne (tgt := 21) hx hb dqm_8 (by decide) (fun h => absurd hv0 h) (fun _ => ?_)
  refine vx_throwS (own := RX9) (cls := zXc) (text := "no such message") (names := zXn) (ik := 114) (is := 116) (ic := 118) (sa := sa) (A := va_A ws0 s.heap.size) hx hb hlt hown (by decide +kernel) (by decide +kernel) (zIn (Ts := []) hts (zT_5 96 (by decide +kernel) rfl)) (zIn (Ts := []) hts (zT_1 22 (by decide +kernel) rfl)) hR (z_hat (fun w h => zIn (Ts := []) hts h) hT) (fun w hw => ?_) hU hSn hS1 (by rw [hl.1, hml]) dqm_11 dqm_14 dqm_15 dqm_17 dqm_20 (fun x hx => (htab x hx).elim) (by decide) (Nat.le_of_ble_eq_true rfl) (by decide +kernel) (by decide +kernel) hlocks (fun t hvm hsz hq => ⟨(), trivial, ⟨rfl, ws1, tys1, hH1, hpre, fun k2 q2 h2 => (hP1 k2 q2 h2).kept (hq _ (hP1 k2 q2 h2).lt), va_K.moved hvm hK1, hD1⟩, Nat.le_trans hS1.1 hsz, fun q h1 h2 => (hq q (Nat.lt_of_lt_of_le h1 hS1.1)).trans (hS1.2.1 q h1 h2)⟩) hS1.2.2 (by decide +kernel) (by decide +kernel)
  rcases List.mem_cons.mp hw with e | hw
  · rw [e]; rfl
  · rcases List.mem_cons.mp hw with e | hw
    · rw [e]; rfl
    · exact List.all_eq_true.mp zXo w hw
set_option maxRecDepth 100000 in
set_option maxHeartbeats 4000000 in
theorem c_msgC {l : Launch} (hlt : l.stackTraces = false) {D : va_G} (ws0 : va_W) (tys0 : List (ClassId × FieldType)) (sz sa b0 : Nat) (k w : Int32) (hb0 : (zad ws0)[0]? = some b0) {Hx : mzH} (hH : zrH tys0 Hx ws0) (hI : gI SX Hx) {f : Nat} {v0 : Int32} (hrun : zRun f 12 [.ref 3, .int k] Hx = some (some (.int v0), Hx)) (hv0 : ¬ v0 = 0) (hw0 : w.toInt < 0 ∨ 6 < w.toInt) :
    vx_Met l (zM 119).1 (zws 119) zRmM (va_Pc [.ref b0, .int k, .int w] (zPm D ws0 tys0 sz sa 152 "no such what")) (va_Qi (fun (_ : Int32) (_ : Unit) => False) (fun _ _ => True) (va_A ws0 sz)) (vx_X (fun _ : Unit => True) (fun E _ t => E = zXd ∧ zWk D ws0 sz Hx t) (va_A ws0 sz)) 1 6 (va_A ws0 sz) := by
  refine vx_ofW (cc := (zM 119).2.1) (maxL := 3) (ret := some .int) (zMf_ok 119 (by decide)).1 rfl ?_
  intro p e s m args below meth c s₁ B hml htab hv
  obtain ⟨rfl, hsz, hP, hK, hD0, hN, hT, hR, hU, hSn, hZt⟩ := hv
  subst hsz
  have hx := B.exec
  have hb := B.bytes
  have hts := atoms_spec (ws := zws 119) B.pre
  have hown : s.vm.findClass RX9 = some m.cls := findClass_of_methodNamed B.named
  have hlocks := B.notSynchronized
  have hD := hD0.self (sz := s.heap.size)
  have hS : va_S (va_A ws0 s.heap.size) s.heap s.heap [] := va_S.rf
  have hl := lv_entry ([.ref b0, .int k, .int w]) (n := 3) (Nat.le_of_ble_eq_true rfl)
  rw [lg_entry_eq]
  generalize (lg_sl ([.ref b0, .int k, .int w]) ++ List.replicate (3 - (lg_sl ([.ref b0, .int k, .int w])).length) Slot.unset).toArray = ls at hl ⊢
  have hl : lv_has ls 3 [(0, .ref b0), (1, .int k), (2, .int w)] := hl
  obtain ⟨vx0, hx0, hx0l, hx0f⟩ := gI_obj hI sx_0
  obtain ⟨vx3, hx3, -, -⟩ := gI_obj hI sx_3
  obtain ⟨_, hx01, rfl⟩ := hx0f 1 (.inl 3) rfl
  obtain ⟨_, hwa, fs', rfl, hfs⟩ := zrH_get hH (k := 0) hx0 hb0
  obtain ⟨_, hf1, a3, ha3, rfl⟩ := zrL_at (k := 1) hfs hx01
  obtain ⟨Cn, T, N, h1, h2, h3, h4⟩ := zLF_ok (9, 19, 9, 1) (by decide +kernel)
  obtain ⟨Cn2, T2, N2, ty2, g1, g2, g3, g4, -⟩ := zC_ok 9 (by decide)
  cases g1.symm.trans h1
  refine lv_aload_n hx hb dqm_0 rfl (lv_at hl 0 rfl) ?_
  refine va_get (D := D) (C := Cn) (T := T) (N := N) hx hb hts (fun w hw => zws_own 119 w (g2 w hw)) hown hK hP 0 hwa h1 1 h2 (zIn (Ts := []) hts h4) (fun q hq => by rw [← h3]; exact hq) hf1 dqm_1 ?_
  refine lv_iload_n hx hb dqm_4 rfl (lv_at hl 1 rfl) ?_
  obtain ⟨hpl, hnd, hcn, hnl, hcd, hin⟩ := zMf_ok 12 (by decide)
  obtain ⟨hd1, hna0, him, hsel⟩ := zKv_ok 12 (by decide +kernel)
  have hMet := z_met_of (l := l) (D := D) zok (z_snd l D zok f) (j := 12) (by decide) (as := [.ref 3, .int k]) (Hm := Hx) (res := (some (.int v0), Hx)) (Nat.le_of_ble_eq_true rfl) hrun ws0 tys0 s.heap.size [.ref a3, .int k] ⟨_, _, rfl, ⟨a3, ha3, rfl⟩, _, _, rfl, rfl, rfl⟩ hH
  obtain ⟨_, hw3, fs3, rfl, hfs3⟩ := zrH_get hH (k := 3) hx3 ha3
  obtain ⟨hst0, hn4⟩ := zLMn_ok (9, 111, 12, 0) (by decide +kernel)
  refine z_calls (ws0 := ws0) (Hm := Hx) (ws := ws0) (tys := tys0) ⟨hH, hP, hK, hD, hS⟩ (va_runVN (As := [.int k]) (rest := []) (b := a3) (C := RX1) (nL := 3) ⟨hx, hb, hml, hown, hts⟩ hMet ⟨va_cnB 1 hts (zws_in (zws_own 119) (by decide)) rfl rfl rfl (hN _ hn4) (zIn (Ts := []) hts hin) ⟨hnd.1, hnd.2, hd1⟩ ⟨by decide +kernel, by decide +kernel⟩, zIn (Ts := []) hts him, zIn (Ts := []) hts hsel⟩ ⟨zPre_blind, va_recv hK hP (ci := 1) rfl hw3, (fun U hU hW => ⟨rfl, by rw [hU], by rw [hU]; exact hP, va_K.moved hW.alike hK, hD.weaken (fun _ _ _ _ => trivial), hN.warm hW, hZt.go hS (fun _ h => h) hU hW⟩)⟩ rfl rfl hl.1 rfl (lv_room (Nat.le_of_ble_eq_true rfl)) dqm_5 ⟨by decide +kernel, by decide +kernel⟩) (fun v ws1 tys1 H1 locs1 hO hpre hI1 => ?_)
  obtain ⟨_, rfl, rfl⟩ := hO
  obtain ⟨hH1, hP1, hK1, hD1, hS1⟩ := hI1
  refine lv_if_ne (tgt := 21) hx hb dqm_8 (by decide) (fun _ => ?_) (fun h => absurd h hv0)
  refine lv_iload_n hx hb dqm_21 rfl (lv_at hl 2 rfl) ?_
  refine lv_tableOut (tgt := 143) hx hb dqm_22 hw0 (by decide) ?_
  refine vy_make (own := RX9) (cls := zXd) (text := "no such what") (names := zXm) (ik := 150) (is := 152) (ic := 154) (sa := sa) (ix := 13) (rx := zXr) (Y0 := zXy) (A := va_A ws0 s.heap.size) hx hb hlt (by decide +kernel) (by decide +kernel) (by decide +kernel) (by decide +kernel) (by decide +kernel) hown (by decide +kernel) (by decide +kernel) (zIn (Ts := []) hts (zT_5 164 (by decide +kernel) rfl)) (zIn (Ts := []) hts (zT_1 23 (by decide +kernel) rfl)) hR (z_hat2 (fun w h => zIn (Ts := []) hts h) hT) (fun w hw => ?_) hU hSn hS1 (by rw [hl.1, hml]) dqm_143 dqm_146 dqm_147 dqm_149 (by decide) (Nat.le_of_ble_eq_true rfl) (by decide +kernel) (by decide +kernel) (fun q9 ce H2 hce hcv hcl hsz2 hq2 hS2 => ?_)
  rotate_left
  · refine vy_athrow hx hb dqm_152 ?_
    exact vx_out (fun x hx => (htab x hx).elim) hlocks hce hcv hcl (fun t ht hvm => ⟨(), trivial, ⟨rfl, ws1, tys1, hH1, hpre, fun k2 q2 h2 => by rw [ht]; exact (hP1 k2 q2 h2).kept (hq2 _ (hP1 k2 q2 h2).lt), va_K.moved hvm hK1, hD1⟩, hS2.F ht⟩) hS2.2.2 (by decide +kernel) (by decide +kernel)
  rcases List.mem_cons.mp hw with e | hw
  · rw [e]; rfl
  · rcases List.mem_cons.mp hw with e | hw
    · rw [e]; rfl
    · exact List.all_eq_true.mp zXo2 w hw
