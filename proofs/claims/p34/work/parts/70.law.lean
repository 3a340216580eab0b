/-! THE LAW'S CALLS: two worlds, the class's and the reference's, side by side -/
def zDis (w1 w2 : va_W) : Prop := ∀ (i j : Nat) (p q : Nat × va_E), w1[i]? = some p → w2[j]? = some q → p.1 ≠ q.1
theorem zDis.symm {w1 w2 : va_W} (h : zDis w1 w2) : zDis w2 w1 := fun i j p q hp hq e => h j i q p hq hp e.symm
/-- a world that a call didn't get stays, and lies apart from what came back -/
theorem z_other {D : va_G} {cl : List vw_C} {wc wy w1 : va_W} {H H1 : Heap} (hPy : va_P D cl wy H) (hd : zDis wc wy) (hk : ∀ q : Nat, q < H.size → ¬ va_A wc H.size q → H1[q]? = H[q]?) (hD1 : va_D (va_A wc H.size) w1) : va_P D cl wy H1 ∧ zDis w1 wy := by
  have key : ∀ (j : Nat) (q : Nat × va_E), wy[j]? = some q → q.1 < H.size ∧ ¬ va_A wc H.size q.1 := by
    intro j q hq
    have hl := (hPy j q hq).lt
    refine ⟨hl, fun h => ?_⟩
    rcases h with ⟨k, e, h⟩ | h
    · exact hd k j (q.1, e) q h hq rfl
    · omega
  refine ⟨fun j q hq => (hPy j q hq).kept (hk q.1 (key j q hq).1 (key j q hq).2), fun i j p q hp hq e => ?_⟩
  have h1 := hD1.2 i p hp
  rw [e] at h1
  exact (key j q hq).2 h1
def zA (s : State) : Nat → Prop := fun q => s.heap.size ≤ q
/-- what holds in the law's frame -/
def zLaw (p : Program) (s : State) (m : MethodId) (args : Array Value) (c : Code) : Prop :=
  p.tables.exec = Jvm.exec ∧ c.code = code ∧ c.maxLocals = 7 ∧ s.vm.findClass RL = some m.cls ∧ (∀ w ∈ lw_tbl, w.before args s = true) ∧ zNest s ∧ zStr (zA s) s
/-- a world at a moment: its mini heap, its cells -/
def zWd (D : va_G) (s : State) (Hm : mzH) (ws : va_W) (tys : List (ClassId × FieldType)) (H : Heap) : Prop :=
  zrH tys Hm ws ∧ va_P D vwCl ws H ∧ va_K D vwCl tys s ∧ va_D (zA s) ws
theorem zWd.other {D : va_G} {s : State} {Hm : mzH} {wc ws w1 : va_W} {tys : List (ClassId × FieldType)} {H H1 : Heap} (h : zWd D s Hm ws tys H) (hd : zDis wc ws) (hk : ∀ q : Nat, q < H.size → ¬ va_A wc H.size q → H1[q]? = H[q]?) (hD1 : va_D (va_A wc H.size) w1) : zWd D s Hm ws tys H1 ∧ zDis w1 ws := by
  obtain ⟨h1, h2, h3, h4⟩ := h
  obtain ⟨g1, g2⟩ := z_other h2 hd hk hD1
  exact ⟨⟨h1, g1, h3, h4⟩, g2⟩
theorem zLw_in : ∀ w ∈ zBG, w ∈ lw_tbl := fun _ h => (List.mem_filter.mp h).1
set_option maxHeartbeats 4000000 in
theorem z_law {p : Program} {l : Launch} {e : Env} {s : State} {m : MethodId} {args : Array Value} {below : List Frame} {meth : Method} {c : Code} {H : Heap} {locs : List Loc} {cells slots : Nat} {Q : State → Prop} {pc : Nat} {ls : Array Slot} {rest : List Value} {D : va_G}
    (C : zLaw p s m args c) {x idx : Nat} (hx1 : x < 255) (hv : x ∈ zKv) (hlk : Cond.methodLink RL idx (zM x).1 ∈ lw_tbl) (hdg : decode code pc = .ok (.invokevirtual idx, 3)) (hr1 : zfr x + 1 ≤ 15) (hr2 : 8 + ((zM x).2.2.1 + 11) + zlo x ≤ 572) (hm0 : zmc x = 0) (hs0 : zms x = 0) (hy : zO x < 11) (hc : cells ≤ room_1.cells) (hs : slots ≤ room_1.slots)
    {f : Nat} {Hm : mzH} {res : Option Value × mzH} {xs : List Value} {ws : va_W} {tys : List (ClassId × FieldType)} {b0 : Nat} {As : List Value} {fs : List Value}
    (hrun : zRun f x (.ref 0 :: xs) Hm = some res) (hwd : mzWd (.ref 0 :: xs) ≤ zN x) (hW : zWd D s Hm ws tys H) (hS : va_S (zA s) s.heap H locs) (h0 : Hm[0]? = some (.inr (zO x, fs))) (hb0 : (zad ws)[0]? = some b0) (hL : zrL (zad ws) xs As) (hn : xs.length = zna x - 1) (hsz : ls.size = 7)
    (hrs : (rest.map fun v => v.category).sum ≤ 8) {st0 : List Value} (hst : st0 = As.reverse ++ .ref b0 :: rest)
    (kk : ∀ (v : Option Value) (ws1 : va_W) (tys1 : List (ClassId × FieldType)) (H1 : Heap) (locs1 : List Loc), zrO (zad ws1) res.1 v → zad ws <+: zad ws1 → zWd D s res.2 ws1 tys1 H1 → va_D (va_A ws H.size) ws1 → (∀ q : Nat, q < H.size → ¬ va_A ws H.size q → H1[q]? = H[q]?) → va_S (zA s) s.heap H1 locs1 → W p l e room_1 s m args below meth c H1 locs1 cells slots Q (F0 m (pc + 3) ls (v.toList ++ rest))) :
    W p l e room_1 s m args below meth c H locs cells slots Q (F0 m pc ls st0) := by
  obtain ⟨hx, hb, hml, hown, hts, hN, hZt⟩ := C
  obtain ⟨hH, hP, hK, hDd⟩ := id hW
  obtain ⟨hpl, hnd, hcn, hnl, hcd, hin⟩ := zMf_ok x hx1
  obtain ⟨hd1, hna0, him, hsel⟩ := zKv_ok x hv
  have hsub := z_sub hDd hS (fun q h => h)
  have hMet := z_met_of (l := l) (D := D) zok (z_snd l D zok f) hx1 (as := .ref 0 :: xs) (Hm := Hm) (res := res) hwd (by rw [hm0, hs0]; exact hrun) ws tys H.size (.ref b0 :: As) ⟨_, _, rfl, ⟨b0, hb0, rfl⟩, hL⟩ hH
  obtain ⟨_, hwb, fs', rfl, hfs⟩ := zrH_get hH h0 hb0
  obtain ⟨Cn, T, N, ty2, g1, -, -, -, -, -, g7, -⟩ := zC_ok (zO x) hy
  have hCn : Cn = (zM x).1.cls := by rw [hcn, ← g7]; rfl
  have hIn : ∀ {w : Cond}, w ∈ zBG → w.before args s = true := fun {w} h => hts w (zLw_in w h)
  subst hst
  refine z_call (A0 := zA s) (H0 := s.heap) (va_runV (As := As) (rest := rest) (b := b0) (C := (zM x).1.cls) (own := RL) ⟨hx, hb, hml, hown, hts⟩ hMet ⟨callB_of (zna x - 1) hts (zws_in zLw_in hx1) rfl rfl rfl (hIn hin) (hts _ hlk) ⟨hnd.1, hnd.2, hd1⟩ ⟨hr1, hr2⟩, hIn him, hIn hsel⟩ ⟨zPre_blind, hCn ▸ va_recv hK hP g1 hwb, (fun U hU hW => ⟨rfl, by rw [hU], by rw [hU]; exact hP, va_K.moved hW.alike hK, hDd.weaken (fun _ _ _ _ => trivial), hN.warm hW, hZt.go hS hsub hU hW⟩)⟩ rfl ((zrL_len hL).trans hn) hsz rfl (lv_room hrs) hdg ⟨by rw [hm0]; exact hc, by rw [hs0]; exact hs⟩) hS hsub (fun st t v h0 hq => ?_) (fun v st t H1 locs1 ht hvm h0 hq hS1 => ?_)
  · obtain ⟨-, h1, h2⟩ := hq
    rw [h0] at h1 h2
    exact ⟨h1, fun q a1 a2 => h2 q a1 (fun z => a2 (hsub q z))⟩
  · obtain ⟨⟨r, ws1, tys1, e1, hO, hH1, hpre, hP1, hK1, hD1⟩, h1, h2⟩ := hq
    cases e1
    rw [ht] at hP1 h2
    rw [h0] at h2
    rw [hm0, hs0]
    exact kk v ws1 tys1 H1 locs1 hO hpre ⟨hH1, hP1, va_K.moved hvm.symm hK1, hD1.weaken (fun k q _ h => hsub _ h)⟩ hD1 h2 hS1
