/-! A RUN OF THE MINI MACHINE THAT ENDS IS A WALK OF THE MACHINE -/
def zws (j : Nat) : List Cond := .code (zM j).1 (zM j).2.1 (zM j).2.2.1 (zM j).2.2.2.1 :: zBG
theorem zgd_ok {w : Cond} (h : zgd w = true) : (w.onTables && w.keeps) = true ∨ ∃ ty, w = .arrayClass ty := by
  unfold zgd at h
  rcases (Bool.or_eq_true _ _).mp h with h | h
  · exact Or.inl h
  · split at h
    · exact Or.inr ⟨_, rfl⟩
    · cases h
theorem zBG_in {Ts : List Cond} (h : ∀ w ∈ zBG, w ∈ Ts) : GoodIn Ts zBG := fun w hw => ⟨h w hw, zgd_ok (List.mem_filter.mp hw).2⟩
theorem zws_in {Ts : List Cond} (h : ∀ w ∈ zBG, w ∈ Ts) {j : Nat} (hj : j < 255) : GoodIn Ts (zws j) := by
  intro w hw
  rcases List.mem_cons.mp hw with e | e
  · subst e
    exact zBG_in h _ (zMf_ok j hj).2.2.2.2.1
  · exact zBG_in h _ e
theorem zws_own (j : Nat) : ∀ w ∈ zBG, w ∈ zws j := fun w h => List.mem_cons_of_mem _ h
def zRm (j : Nat) : Room := { frames := zfr j, cells := zmc j, slots := zms j, locals := zlo j }
def zNest (s : State) : Prop := ∀ w ∈ zNS, va_Nw w s
theorem zNest.warm {s U : State} (hW : s.WarmedH U.vm) (h : zNest s) : zNest U := by
  intro w hw
  have h1 := h w hw
  have h2 := (List.mem_filter.mp hw).2
  unfold znd at h2
  split at h2
  · exact va_Nw.warmF hW h1
  · exact va_Nw.warmM hW h1
  · cases h2
theorem zNest.same {s U : State} (hv : s.vm = U.vm) (h : zNest s) : zNest U := by
  intro w hw
  have h1 := h w hw
  have h2 := (List.mem_filter.mp hw).2
  unfold znd at h2
  split at h2
  · exact va_Nw.same rfl hv h1
  · exact va_Nw.same rfl hv h1
  · cases h2
def zPre (D : va_G) (ws0 : va_W) (tys0 : List (ClassId × FieldType)) (sz : Nat) (av : List Value) : Array Value → State → Prop :=
  va_Pc av (fun U => U.heap.size = sz ∧ va_P D vwCl ws0 U.heap ∧ va_K D vwCl tys0 U ∧ va_D (fun _ => True) ws0 ∧ zNest U ∧ zStr (va_A ws0 sz) U)
def zQ (D : va_G) (ws0 : va_W) (sz : Nat) (res : Option Value × mzH) : Array Value → State → Outcome → State → Prop := fun _ st oc t =>
  (∃ (r : Option Value) (ws : va_W) (tys : List (ClassId × FieldType)), oc = .returned r ∧ zrO (zad ws) res.1 r ∧ zrH tys res.2 ws ∧ zad ws0 <+: zad ws ∧ va_P D vwCl ws t.heap ∧ va_K D vwCl tys t ∧ va_D (va_A ws0 sz) ws) ∧ va_F (va_A ws0 sz) st t
/-- a method's contract at one run of the mini machine -/
def zMet (l : Launch) (D : va_G) (j : Nat) (as : List Value) (Hm : mzH) (res : Option Value × mzH) : Prop :=
  ∀ (ws0 : va_W) (tys0 : List (ClassId × FieldType)) (sz : Nat) (av : List Value), zrL (zad ws0) as av → zrH tys0 Hm ws0 → Met l (zM j).1 (zws j) (zRm j) (zPre D ws0 tys0 sz av) (zQ D ws0 sz res) (zmc j) (zms j) (va_A ws0 sz)
theorem zPre_blind {D : va_G} {ws0 : va_W} {tys0 : List (ClassId × FieldType)} {sz : Nat} {av : List Value} : FrameBlind (zPre D ws0 tys0 sz av) := by
  intro a U g mk q
  obtain ⟨q0, q1, qP, qK, qD, qN, qZ⟩ := q
  exact ⟨q0, q1, qP, va_K.moved (u := U) (U := U.calling g mk a) (Vm.Alike.refl U.vm) qK, qD, zNest.same (s := U) (U := U.calling g mk a) rfl qN, qZ.same (U := U.calling g mk a) rfl rfl⟩
/-- what holds in a method's frame -/
def zCtx (p : Program) (s : State) (m : MethodId) (args : Array Value) (meth : Method) (c : Code) (j : Nat) : Prop :=
  p.tables.exec = Jvm.exec ∧ c.code = (zM j).2.1 ∧ meth.sig.returnType = (zM j).2.2.2.1 ∧ meth.locks = false ∧ c.maxLocals = (zM j).2.2.1 ∧ s.vm.findClass (zM j).1.cls = some m.cls ∧ meth.name = (zM j).1.name ∧ (∀ w ∈ zws j, w.before args s = true) ∧ zNest s
def zInv (D : va_G) (A : Nat → Prop) (U : State) (Hm : mzH) (ws : va_W) (tys : List (ClassId × FieldType)) (H : Heap) (locs : List Loc) : Prop :=
  zrH tys Hm ws ∧ va_P D vwCl ws H ∧ va_K D vwCl tys U ∧ va_D A ws ∧ va_S A U.heap H locs
def zStmt (l : Launch) (D : va_G) (f : Nat) : Prop :=
  ∀ (p : Program) (e : Env) (s : State) (m : MethodId) (args : Array Value) (below : List Frame) (meth : Method) (c : Code) (j : Nat) (_ : j < 255) (_ : zCtx p s m args meth c j) (ws0 : va_W) (_ : zStr (va_A ws0 s.heap.size) s) (ops : List mzO) (_ : zOkL j (zB j) ops = true)
    (lv : mzL) (st : List Value) (Hm : mzH) (bc bs : Nat) (res : Option Value × mzH) (_ : zEx f (zN j) (zB j) ops lv st Hm bc bs = some res)
    (ws : va_W) (tys : List (ClassId × FieldType)) (lv' : mzL) (st' : List Value) (H : Heap) (locs : List Loc) (ls : Array Slot) (cells slots : Nat)
    (_ : zrM (zad ws) lv lv') (_ : zrL (zad ws) st st') (_ : zad ws0 <+: zad ws) (_ : zInv D (va_A ws0 s.heap.size) s Hm ws tys H locs) (_ : lv_has ls (zN j) lv') (_ : cells + bc ≤ zmc j) (_ : slots + bs ≤ zms j),
    W p l e (zRm j) s m args below meth c H locs cells slots (MQ below (zQ D ws0 s.heap.size res) args s (zmc j) (zms j) (va_A ws0 s.heap.size)) (F0 m (mzPc ops) ls st')
theorem z_call {p : Program} {l : Launch} {e : Env} {R : Room} {s : State} {m : MethodId} {args : Array Value} {below : List Frame} {meth : Method} {c : Code} {H : Heap} {locs : List Loc} {cells slots : Nat} {Q : State → Prop} {mc ms pc : Nat} {ls : Array Slot} {st0 rest : List Value} {Qa : State → Outcome → State → Prop} {free : Addr → Prop} {A0 : Nat → Prop} {H0 : Heap}
    (hr : va_Run p l e R s m args below meth c H locs cells slots mc ms (F0 m pc ls st0) rest Qa free) (hS : va_S A0 H0 H locs) (hf : ∀ q, free q → A0 q)
    (hq : ∀ (st t : State) (v : Option Value), st.heap = H → Qa st (.returned v) t → H.size ≤ t.heap.size ∧ ∀ q : Nat, q < H.size → ¬ A0 q → t.heap[q]? = H[q]?)
    (kk : ∀ (v : Option Value) (st t : State) (H1 : Heap) (locs1 : List Loc), t.heap = H1 → s.vm.Alike t.vm → st.heap = H → Qa st (.returned v) t → va_S A0 H0 H1 locs1 → W p l e R s m args below meth c H1 locs1 (cells + mc) (slots + ms) Q (F0 m (pc + 3) ls (v.toList ++ rest))) :
    W p l e R s m args below meth c H locs cells slots Q (F0 m pc ls st0) := by
  intro T hT X
  obtain ⟨v, st₀, t, T', L, h0, X', hL, e1, e2, hqa, st⟩ := hr T hT X
  obtain ⟨hz, hk⟩ := hq st₀ t v h0 hqa
  obtain ⟨t2, a1, b1⟩ := kk v st₀ t T'.heap (locs ++ L) e1.symm (by rw [← e2]; exact X'.warmed.alike) h0 hqa ⟨Nat.le_trans hS.1 (by rw [e1]; exact hz), fun q h1 h2 => by rw [e1, hk q (Nat.lt_of_lt_of_le h1 hS.1) h2]; exact hS.2.1 q h1 h2, fun q hq => by
      rcases List.mem_append.mp hq with h | h
      · exact hS.2.2 q h
      · exact hf _ (hL q h)⟩ T' rfl X'
  exact ⟨t2, st t2 a1, b1⟩
theorem z_sub {A0 : Nat → Prop} {ws : va_W} {H0 H : Heap} {locs : List Loc} (hD : va_D A0 ws) (hS : va_S A0 H0 H locs) (hA : ∀ q, H0.size ≤ q → A0 q) : ∀ q, va_A ws H.size q → A0 q := by
  intro q h
  rcases h with ⟨k, e, h⟩ | h
  · exact hD.2 k (q, e) h
  · exact hA q (Nat.le_trans hS.1 h)
theorem zAge {ws0 : va_W} {n : Nat} : ∀ q, n ≤ q → va_A ws0 n q := fun _ h => Or.inr h
/-- the way on behind any call of a method with a contract by the mini machine -/
theorem z_calls {p : Program} {l : Launch} {e : Env} {R : Room} {s : State} {m : MethodId} {args : Array Value} {below : List Frame} {meth : Method} {c : Code} {H : Heap} {locs : List Loc} {cells slots : Nat} {Q : State → Prop} {mc ms pc : Nat} {ls : Array Slot} {st0 rest : List Value} {a : Array Value} {D : va_G} {ws0 ws : va_W} {res : Option Value × mzH} {Hm : mzH} {tys : List (ClassId × FieldType)}
    (hI : zInv D (va_A ws0 s.heap.size) s Hm ws tys H locs) (hr : va_Run p l e R s m args below meth c H locs cells slots mc ms (F0 m pc ls st0) rest (zQ D ws H.size res a) (va_A ws H.size))
    (kk : ∀ (v : Option Value) (ws1 : va_W) (tys1 : List (ClassId × FieldType)) (H1 : Heap) (locs1 : List Loc), zrO (zad ws1) res.1 v → zad ws <+: zad ws1 → zInv D (va_A ws0 s.heap.size) s res.2 ws1 tys1 H1 locs1 → W p l e R s m args below meth c H1 locs1 (cells + mc) (slots + ms) Q (F0 m (pc + 3) ls (v.toList ++ rest))) :
    W p l e R s m args below meth c H locs cells slots Q (F0 m pc ls st0) := by
  obtain ⟨hH, hP, hK, hDd, hS⟩ := hI
  have hsub := z_sub hDd hS zAge
  refine z_call hr hS hsub (fun st t v h0 hq => ?_) (fun v st t H1 locs1 ht hvm h0 hq hS1 => ?_)
  · obtain ⟨-, h1, h2⟩ := hq
    rw [h0] at h1 h2
    exact ⟨h1, fun q a1 a2 => h2 q a1 (fun z => a2 (hsub q z))⟩
  · obtain ⟨⟨r, ws1, tys1, e1, hO, hH1, hpre, hP1, hK1, hD1⟩, -⟩ := hq
    cases e1
    rw [ht] at hP1
    exact kk v ws1 tys1 H1 locs1 hO hpre ⟨hH1, hP1, va_K.moved hvm.symm hK1, hD1.weaken (fun k q _ h => hsub _ h), hS1⟩
set_option maxHeartbeats 4000000 in
theorem z_met_of {l : Launch} {D : va_G} {f : Nat} (hok : ∀ j, j < 255 → zOkM j = true) (hS : zStmt l D f) {j : Nat} (hj : j < 255) {as : List Value} {Hm : mzH} {res : Option Value × mzH} (hw : mzWd as ≤ zN j)
    (hex : zEx f (zN j) (zB j) (mzBlk (zB j) 0) (lv_args 0 as) [] Hm (zmc j) (zms j) = some res) : zMet l D j as Hm res := by
  intro ws0 tys0 sz av hL hH
  obtain ⟨hpl, -, hcn, hnl, -, -⟩ := zMf_ok j hj
  refine Met.ofW (cc := (zM j).2.1) (maxL := (zM j).2.2.1) (ret := (zM j).2.2.2.1) hpl rfl ?_
  intro p e s m args below meth c s₁ B hml hv
  obtain ⟨rfl, hsz, hP, hK, hD0, hN, hZt⟩ := hv
  subst hsz
  have C : zCtx p s m av.toArray meth c j := ⟨B.exec, B.bytes, B.returns, B.notSynchronized, hml, findClass_of_methodNamed B.named, (name_of_methodNamed B.named B.method).1, atoms_spec (ws := zws j) B.pre, hN⟩
  have hl := lv_entry av (n := zN j) (by rw [zsl_len, zrL_cats hL]; exact hw)
  rw [lg_entry_eq, ← hnl]
  have h0 : mzPc (mzBlk (zB j) 0) = 0 := by
    have h := hok j hj
    unfold zOkM at h
    simp only [Bool.and_eq_true] at h
    exact Nat.eq_of_beq_eq_true h.1
  have h1 := hS p e s m av.toArray below meth c j hj C ws0 hZt _ (zOkL_blk (hok j hj) 0) _ _ _ _ _ _ hex ws0 tys0 (lv_args 0 av) [] s.heap [] _ 0 0 (zrM_args 0 hL) rfl (List.prefix_refl _) ⟨hH, hP, hK, hD0.self, va_S.rf⟩ hl (by omega) (by omega)
  rw [h0] at h1
  exact h1
theorem zIn {Ts : List Cond} {args : Array Value} {s : State} {j : Nat} (h : ∀ w ∈ zws j, w.before args s = true) {w : Cond} (hw : w ∈ zBG) : w.before args s = true := h w (zws_own j w hw)
theorem z_tys {tys : List (ClassId × FieldType)} {q : ClassId × FieldType} (h : q ∈ tys) : ∃ t0 : Nat, tys[t0]? = some q := List.getElem?_of_mem h

theorem z_clt {x : Nat} {q : vw_C} (h : vwCl[x]? = some q) : x < 11 := (List.getElem?_eq_some_iff.mp h).1
theorem zCl_at {j x na mc ms : Nat} (h : zCl j x na mc ms = true) : x < 255 ∧ na = zna x ∧ mc = zmc x ∧ ms = zms x ∧ zfr x + 1 ≤ zfr j ∧ 8 + ((zM x).2.2.1 + 11) + zlo x ≤ zlo j := by
  unfold zCl at h
  simp only [Bool.and_eq_true] at h
  obtain ⟨a1, a2, a3, a4, a5, a6⟩ := h
  exact ⟨Nat.blt_eq.mp a1, Nat.eq_of_beq_eq_true a2, Nat.eq_of_beq_eq_true a3, Nat.eq_of_beq_eq_true a4, Nat.le_of_ble_eq_true a5, Nat.le_of_ble_eq_true a6⟩
theorem zRoom_at {j a b : Nat} (h : zRoom j a b = true) : a ≤ zfr j ∧ b ≤ zlo j := by
  unfold zRoom at h
  rw [Bool.and_eq_true] at h
  exact ⟨Nat.le_of_ble_eq_true h.1, Nat.le_of_ble_eq_true h.2⟩
theorem z_pp (ws : va_W) (q : Nat) (e : va_E) : zad ws <+: zad (ws ++ [(q, e)]) := by rw [zad_push]; exact List.prefix_append _ _
theorem z_repl (cA : ClassId) (n : Nat) : (Sum.inl (cA, n, Sum.inl (fun _ => 0)) : va_E) = .inl (cA, (List.replicate n (0 : Int32)).length, .inl (fun k => (List.replicate n (0 : Int32)).getD k 0)) := by
  rw [List.length_replicate]
  congr 3
  congr 1
  funext k
  simp only [List.getD_eq_getElem?_getD, List.getElem?_replicate]
  split <;> rfl
theorem z_opt {ad : List Nat} {v w : Option Value} (h : zrO ad v w) : zrL ad v.toList w.toList := by
  cases v with
  | none =>
    have e : w = none := h
    subst e
    rfl
  | some v =>
    obtain ⟨x, rfl, h⟩ := h
    exact ⟨x, [], rfl, h, rfl⟩
theorem z_wdr (st : List Value) : mzWd st.reverse = mzWd st := by
  unfold mzWd
  rw [List.map_reverse, List.sum_reverse]
theorem z_split {st : List Value} {n a : Nat} (h : st[n - 1]? = some (.ref a)) (h0 : 0 < n) (hn : n ≤ st.length) : ∃ As : List Value, ((st.take n).reverse = .ref a :: As ∧ As.length = n - 1) ∧ st = As.reverse ++ .ref a :: st.drop n := by
  obtain ⟨m, rfl⟩ : ∃ m, n = m + 1 := ⟨n - 1, by omega⟩
  have e : st.take (m + 1) = st.take m ++ [.ref a] := by
    rw [List.take_add_one, show st[m]? = some (.ref a) from h]
    rfl
  refine ⟨(st.take m).reverse, ⟨by rw [e, List.reverse_append]; rfl, by rw [List.length_reverse, List.length_take]; omega⟩, ?_⟩
  rw [List.reverse_reverse]
  have e2 := List.take_append_drop (m + 1) st
  rw [e, List.append_assoc] at e2
  exact e2.symm
theorem z_dflt {ad : List Nat} : ∀ c, c < 11 → zrL ad (zD c) (zD c) := by
  intro c hc
  have h : ∀ c, c < 11 → ∀ v ∈ zD c, v = .null ∨ v = .int 0 := by decide +kernel
  have h2 : ∀ l : List Value, (∀ v ∈ l, v = .null ∨ v = .int 0) → zrL ad l l := by
    intro l
    induction l with
    | nil => intro _; rfl
    | cons v l ih =>
      intro hv
      refine ⟨v, l, rfl, ?_, ih fun w hw => hv w (List.mem_cons_of_mem _ hw)⟩
      rcases hv v List.mem_cons_self with e | e <;> subst e <;> rfl
  exact h2 _ (h c hc)
theorem zPt_at {j x y t : Nat} {b : Bool} {Cn : String} {T : u_T} {N : Nat} (h1 : vwCl[x]? = some (Cn, T, N)) (h : zPt j x y t b = true) {v v' : Value} {ad : List Nat} (hf : mzFit t v = true) (hv : zrV ad v v') :
    ∃ ty, parseFieldDescriptor (T y).2.2.1 = some ty ∧ narrow ty v' = v' ∧ fits ty v' = true ∧ ((T y).2.2.2 = false ∨ (b = false ∧ (T y).2.2.2 = true ∧ (T y).1 = zcn (zO j) ∧ (zM j).1.name = "<init>")) := by
  unfold zPt at h
  rw [h1] at h
  simp only [Bool.and_eq_true, Bool.or_eq_true, decide_eq_true_eq, Bool.not_eq_true'] at h
  obtain ⟨ha, hb⟩ := h
  have hb2 : (T y).2.2.2 = false ∨ (b = false ∧ (T y).2.2.2 = true ∧ (T y).1 = zcn (zO j) ∧ (zM j).1.name = "<init>") := by
    rcases hb with hb | hb
    · exact Or.inl hb
    · cases e : (T y).2.2.2 with
      | false => exact Or.inl rfl
      | true => exact Or.inr ⟨hb.1, rfl, hb.2.1, hb.2.2⟩
  split at ha
  · rename_i e
    cases v <;> first | (simp [mzFit] at hf; done) | (have e2 : v' = _ := hv; subst e2; exact ⟨.int, e, rfl, rfl, hb2⟩)
  · rename_i e
    cases v with
    | int z =>
      have e2 : v' = _ := hv
      subst e2
      simp only [mzFit, Bool.or_eq_true, decide_eq_true_eq] at hf
      rcases hf with hf | hf <;> subst hf <;> exact ⟨.boolean, e, by decide, by decide, hb2⟩
    | _ => simp [mzFit] at hf
  · rename_i e
    cases v with
    | ref z =>
      obtain ⟨a, -, rfl⟩ := hv
      exact ⟨_, e, rfl, rfl, hb2⟩
    | _ => simp [mzFit] at hf
  · rename_i e
    cases v with
    | ref z =>
      obtain ⟨a, -, rfl⟩ := hv
      exact ⟨_, e, rfl, rfl, hb2⟩
    | _ => simp [mzFit] at hf
  · cases ha

set_option maxHeartbeats 40000000 in
set_option maxRecDepth 100000 in
theorem z_snd (l : Launch) (D : va_G) (hok : ∀ j, j < 255 → zOkM j = true) : ∀ f : Nat, zStmt l D f := by
  intro f
  induction f with
  | zero =>
    intro p e s m args below meth c j hj C ws0 hZt ops hokl lv st Hm bc bs res hex
    exact absurd (show (none : mzR) = some res from hex) (by simp)
  | succ f ih =>
    intro p e s m args below meth c j hj C ws0 hZt ops hokl lv st Hm bc bs res hex ws tys lv' st' H locs ls cells slots hM hL hp hI hl hc hs
    obtain ⟨hx, hb, hr, hlocks, hml, hown, hnm, hts, hN⟩ := id C
    obtain ⟨-, -, hcn, hnl, -, -⟩ := zMf_ok j hj
    have hown' : s.vm.findClass (zcn (zO j)) = some m.cls := hcn ▸ hown
    have hml' : c.maxLocals = zN j := hml.trans hnl.symm
    cases ops with
    | nil => exact absurd (show (none : mzR) = some res from hex) (by simp)
    | cons op r =>
      obtain ⟨pc, i, x, y, ts⟩ := op
      obtain ⟨hok1, hokr⟩ := (Bool.and_eq_true_iff (x := zOk1 j (zB j) pc i x y ts r) (y := zOkL j (zB j) r)).mp hokl
      show W p l e (zRm j) s m args below meth c H locs cells slots _ (F0 m pc ls st')
      cases i with
      | iconst n =>
        have hk := (Bool.and_eq_true_iff (x := zDec j pc (.iconst n) 1) (y := zNx pc 1 r)).mp hok1
        have hex2 : zEx f (zN j) (zB j) r lv (.int (Int32.ofInt n) :: st) Hm bc bs = some res := hex
        refine lv_iconst hx hb (zDec_at hk.1) rfl ?_
        rw [← zNx_at hk.2]
        exact ih p e s m args below meth c j hj C ws0 hZt r hokr _ _ _ _ _ _ hex2 ws tys _ _ H locs _ cells slots hM ⟨_, _, rfl, rfl, hL⟩ hp hI hl hc hs
      | bipush n =>
        have hk := (Bool.and_eq_true_iff (x := zDec j pc (.bipush n) 2) (y := zNx pc 2 r)).mp hok1
        have hex2 : zEx f (zN j) (zB j) r lv (.int (Int8.ofInt n).toInt32 :: st) Hm bc bs = some res := hex
        refine lv_bipush hx hb (zDec_at hk.1) rfl ?_
        rw [← zNx_at hk.2]
        exact ih p e s m args below meth c j hj C ws0 hZt r hokr _ _ _ _ _ _ hex2 ws tys _ _ H locs _ cells slots hM ⟨_, _, rfl, rfl, hL⟩ hp hI hl hc hs
      | sipush n =>
        have hk := (Bool.and_eq_true_iff (x := zDec j pc (.sipush n) 3) (y := zNx pc 3 r)).mp hok1
        have hex2 : zEx f (zN j) (zB j) r lv (.int (Int16.ofInt n).toInt32 :: st) Hm bc bs = some res := hex
        refine lv_sipush hx hb (zDec_at hk.1) rfl ?_
        rw [← zNx_at hk.2]
        exact ih p e s m args below meth c j hj C ws0 hZt r hokr _ _ _ _ _ _ hex2 ws tys _ _ H locs _ cells slots hM ⟨_, _, rfl, rfl, hL⟩ hp hI hl hc hs
      | lconst n =>
        have hk := (Bool.and_eq_true_iff (x := zDec j pc (.lconst n) 1) (y := zNx pc 1 r)).mp hok1
        have hex2 : zEx f (zN j) (zB j) r lv (.long (Int64.ofNat (n : Nat)) :: st) Hm bc bs = some res := hex
        refine lv_lconst hx hb (zDec_at hk.1) rfl ?_
        rw [← zNx_at hk.2]
        exact ih p e s m args below meth c j hj C ws0 hZt r hokr _ _ _ _ _ _ hex2 ws tys _ _ H locs _ cells slots hM ⟨_, _, rfl, rfl, hL⟩ hp hI hl hc hs
      | iload k =>
        have hk := (Bool.and_eq_true_iff (x := zDec j pc (.iload k) 2) (y := zNx pc 2 r)).mp hok1
        obtain ⟨v, hg, hex2⟩ := mzIld_i (i := k) (k := zEx f (zN j) (zB j) r) hex
        obtain ⟨w, rfl, hm⟩ := zrM_mem hM (mzGet_mem hg)
        refine lv_iload hx hb (zDec_at hk.1) (hl.2.2 _ hm) ?_
        rw [← zNx_at hk.2]
        exact ih p e s m args below meth c j hj C ws0 hZt r hokr _ _ _ _ _ _ hex2 ws tys _ _ H locs _ cells slots hM ⟨_, _, rfl, rfl, hL⟩ hp hI hl hc hs
      | iload_n k =>
        have hk := (Bool.and_eq_true_iff (x := zDec j pc (.iload_n k) 1) (y := zNx pc 1 r)).mp hok1
        obtain ⟨v, hg, hex2⟩ := mzIld_i (i := (k : Nat)) (k := zEx f (zN j) (zB j) r) hex
        obtain ⟨w, rfl, hm⟩ := zrM_mem hM (mzGet_mem hg)
        refine lv_iload_n hx hb (zDec_at hk.1) rfl (hl.2.2 _ hm) ?_
        rw [← zNx_at hk.2]
        exact ih p e s m args below meth c j hj C ws0 hZt r hokr _ _ _ _ _ _ hex2 ws tys _ _ H locs _ cells slots hM ⟨_, _, rfl, rfl, hL⟩ hp hI hl hc hs
      | lload k =>
        have hk := (Bool.and_eq_true_iff (x := zDec j pc (.lload k) 2) (y := zNx pc 2 r)).mp hok1
        obtain ⟨v, hg, hex2⟩ := mzLld_i (i := k) (k := zEx f (zN j) (zB j) r) hex
        obtain ⟨w, rfl, hm⟩ := zrM_mem hM (mzGet_mem hg)
        refine lv_lload hx hb (zDec_at hk.1) (hl.2.2 _ hm) ?_
        rw [← zNx_at hk.2]
        exact ih p e s m args below meth c j hj C ws0 hZt r hokr _ _ _ _ _ _ hex2 ws tys _ _ H locs _ cells slots hM ⟨_, _, rfl, rfl, hL⟩ hp hI hl hc hs
      | lload_n k =>
        have hk := (Bool.and_eq_true_iff (x := zDec j pc (.lload_n k) 1) (y := zNx pc 1 r)).mp hok1
        obtain ⟨v, hg, hex2⟩ := mzLld_i (i := (k : Nat)) (k := zEx f (zN j) (zB j) r) hex
        obtain ⟨w, rfl, hm⟩ := zrM_mem hM (mzGet_mem hg)
        refine lv_lload_n hx hb (zDec_at hk.1) rfl (hl.2.2 _ hm) ?_
        rw [← zNx_at hk.2]
        exact ih p e s m args below meth c j hj C ws0 hZt r hokr _ _ _ _ _ _ hex2 ws tys _ _ H locs _ cells slots hM ⟨_, _, rfl, rfl, hL⟩ hp hI hl hc hs
      | aload k =>
        have hk := (Bool.and_eq_true_iff (x := zDec j pc (.aload k) 2) (y := zNx pc 2 r)).mp hok1
        obtain ⟨v, hg, hex2⟩ := mzAld_i (i := k) (k := zEx f (zN j) (zB j) r) hex
        obtain ⟨w, ⟨a, ha, rfl⟩, hm⟩ := zrM_mem hM (mzGet_mem hg)
        refine lv_aload hx hb (zDec_at hk.1) (hl.2.2 _ hm) ?_
        rw [← zNx_at hk.2]
        exact ih p e s m args below meth c j hj C ws0 hZt r hokr _ _ _ _ _ _ hex2 ws tys _ _ H locs _ cells slots hM ⟨_, _, rfl, ⟨a, ha, rfl⟩, hL⟩ hp hI hl hc hs
      | aload_n k =>
        have hk := (Bool.and_eq_true_iff (x := zDec j pc (.aload_n k) 1) (y := zNx pc 1 r)).mp hok1
        obtain ⟨v, hg, hex2⟩ := mzAld_i (i := (k : Nat)) (k := zEx f (zN j) (zB j) r) hex
        obtain ⟨w, ⟨a, ha, rfl⟩, hm⟩ := zrM_mem hM (mzGet_mem hg)
        refine lv_aload_n hx hb (zDec_at hk.1) rfl (hl.2.2 _ hm) ?_
        rw [← zNx_at hk.2]
        exact ih p e s m args below meth c j hj C ws0 hZt r hokr _ _ _ _ _ _ hex2 ws tys _ _ H locs _ cells slots hM ⟨_, _, rfl, ⟨a, ha, rfl⟩, hL⟩ hp hI hl hc hs
      | istore k =>
        have hk := (Bool.and_eq_true_iff (x := zDec j pc (.istore k) 2) (y := zNx pc 2 r)).mp hok1
        obtain ⟨v, r', rfl, hn1, hex2⟩ := mzIst_i (n := zN j) (i := k) (k := zEx f (zN j) (zB j) r) hex
        obtain ⟨_, _, rfl, rfl, hL⟩ := hL
        refine lv_istore hx hb (zDec_at hk.1) hl hn1 rfl (fun ls hl => ?_)
        rw [← zNx_at hk.2]
        exact ih p e s m args below meth c j hj C ws0 hZt r hokr _ _ _ _ _ _ hex2 ws tys _ _ H locs _ cells slots (zrM_st1 hM rfl) hL hp hI hl hc hs
      | istore_n k =>
        have hk := (Bool.and_eq_true_iff (x := zDec j pc (.istore_n k) 1) (y := zNx pc 1 r)).mp hok1
        obtain ⟨v, r', rfl, hn1, hex2⟩ := mzIst_i (n := zN j) (i := (k : Nat)) (k := zEx f (zN j) (zB j) r) hex
        obtain ⟨_, _, rfl, rfl, hL⟩ := hL
        refine lv_istore_n hx hb (zDec_at hk.1) rfl hl hn1 rfl (fun ls hl => ?_)
        rw [← zNx_at hk.2]
        exact ih p e s m args below meth c j hj C ws0 hZt r hokr _ _ _ _ _ _ hex2 ws tys _ _ H locs _ cells slots (zrM_st1 hM rfl) hL hp hI hl hc hs
      | astore k =>
        have hk := (Bool.and_eq_true_iff (x := zDec j pc (.astore k) 2) (y := zNx pc 2 r)).mp hok1
        obtain ⟨v, r', rfl, hn1, hex2⟩ := mzAst_i (n := zN j) (i := k) (k := zEx f (zN j) (zB j) r) hex
        obtain ⟨_, _, rfl, ⟨a, ha, rfl⟩, hL⟩ := hL
        refine lv_astore hx hb (zDec_at hk.1) hl hn1 rfl (fun ls hl => ?_)
        rw [← zNx_at hk.2]
        exact ih p e s m args below meth c j hj C ws0 hZt r hokr _ _ _ _ _ _ hex2 ws tys _ _ H locs _ cells slots (zrM_st1 hM ⟨a, ha, rfl⟩) hL hp hI hl hc hs
      | astore_n k =>
        have hk := (Bool.and_eq_true_iff (x := zDec j pc (.astore_n k) 1) (y := zNx pc 1 r)).mp hok1
        obtain ⟨v, r', rfl, hn1, hex2⟩ := mzAst_i (n := zN j) (i := (k : Nat)) (k := zEx f (zN j) (zB j) r) hex
        obtain ⟨_, _, rfl, ⟨a, ha, rfl⟩, hL⟩ := hL
        refine lv_astore_n hx hb (zDec_at hk.1) rfl hl hn1 rfl (fun ls hl => ?_)
        rw [← zNx_at hk.2]
        exact ih p e s m args below meth c j hj C ws0 hZt r hokr _ _ _ _ _ _ hex2 ws tys _ _ H locs _ cells slots (zrM_st1 hM ⟨a, ha, rfl⟩) hL hp hI hl hc hs
      | lstore k =>
        have hk := (Bool.and_eq_true_iff (x := zDec j pc (.lstore k) 2) (y := zNx pc 2 r)).mp hok1
        obtain ⟨v, r', rfl, hn1, hex2⟩ := mzLst_i (n := zN j) (i := k) (k := zEx f (zN j) (zB j) r) hex
        obtain ⟨_, _, rfl, rfl, hL⟩ := hL
        refine lv_lstore hx hb (zDec_at hk.1) hl hn1 rfl (fun ls hl => ?_)
        rw [← zNx_at hk.2]
        exact ih p e s m args below meth c j hj C ws0 hZt r hokr _ _ _ _ _ _ hex2 ws tys _ _ H locs _ cells slots (zrM_st2 hM rfl) hL hp hI hl hc hs
      | lstore_n k =>
        have hk := (Bool.and_eq_true_iff (x := zDec j pc (.lstore_n k) 1) (y := zNx pc 1 r)).mp hok1
        obtain ⟨v, r', rfl, hn1, hex2⟩ := mzLst_i (n := zN j) (i := (k : Nat)) (k := zEx f (zN j) (zB j) r) hex
        obtain ⟨_, _, rfl, rfl, hL⟩ := hL
        refine lv_lstore_n hx hb (zDec_at hk.1) rfl hl hn1 rfl (fun ls hl => ?_)
        rw [← zNx_at hk.2]
        exact ih p e s m args below meth c j hj C ws0 hZt r hokr _ _ _ _ _ _ hex2 ws tys _ _ H locs _ cells slots (zrM_st2 hM rfl) hL hp hI hl hc hs
      | iinc k d =>
        have hk := (Bool.and_eq_true_iff (x := zDec j pc (.iinc k d) 3) (y := zNx pc 3 r)).mp hok1
        obtain ⟨v, hg, hn1, hex2⟩ := mzInc_i (n := zN j) (i := k) (d := d) (k := zEx f (zN j) (zB j) r) hex
        obtain ⟨w, rfl, hm⟩ := zrM_mem hM (mzGet_mem hg)
        obtain ⟨q, hq⟩ := List.getElem?_of_mem hm
        refine lv_iinc hx hb (zDec_at hk.1) hl hq rfl hn1 rfl (fun ls hl => ?_)
        rw [← zNx_at hk.2]
        exact ih p e s m args below meth c j hj C ws0 hZt r hokr _ _ _ _ _ _ hex2 ws tys _ _ H locs _ cells slots (zrM_st1 hM rfl) hL hp hI hl hc hs
      | iadd =>
        have hk := (Bool.and_eq_true_iff (x := zDec j pc (.iadd) 1) (y := zNx pc 1 r)).mp hok1
        obtain ⟨a, b, r', rfl, hex2⟩ := mzI2_i (k := zEx f (zN j) (zB j) r) hex
        obtain ⟨_, _, rfl, rfl, _, _, rfl, rfl, hL⟩ := hL
        refine lv_iadd hx hb (zDec_at hk.1) ?_
        rw [← zNx_at hk.2]
        exact ih p e s m args below meth c j hj C ws0 hZt r hokr _ _ _ _ _ _ hex2 ws tys _ _ H locs _ cells slots hM ⟨_, _, rfl, rfl, hL⟩ hp hI hl hc hs
      | isub =>
        have hk := (Bool.and_eq_true_iff (x := zDec j pc (.isub) 1) (y := zNx pc 1 r)).mp hok1
        obtain ⟨a, b, r', rfl, hex2⟩ := mzI2_i (k := zEx f (zN j) (zB j) r) hex
        obtain ⟨_, _, rfl, rfl, _, _, rfl, rfl, hL⟩ := hL
        refine lv_isub hx hb (zDec_at hk.1) ?_
        rw [← zNx_at hk.2]
        exact ih p e s m args below meth c j hj C ws0 hZt r hokr _ _ _ _ _ _ hex2 ws tys _ _ H locs _ cells slots hM ⟨_, _, rfl, rfl, hL⟩ hp hI hl hc hs
      | imul =>
        have hk := (Bool.and_eq_true_iff (x := zDec j pc (.imul) 1) (y := zNx pc 1 r)).mp hok1
        obtain ⟨a, b, r', rfl, hex2⟩ := mzI2_i (k := zEx f (zN j) (zB j) r) hex
        obtain ⟨_, _, rfl, rfl, _, _, rfl, rfl, hL⟩ := hL
        refine lv_imul hx hb (zDec_at hk.1) ?_
        rw [← zNx_at hk.2]
        exact ih p e s m args below meth c j hj C ws0 hZt r hokr _ _ _ _ _ _ hex2 ws tys _ _ H locs _ cells slots hM ⟨_, _, rfl, rfl, hL⟩ hp hI hl hc hs
      | iand =>
        have hk := (Bool.and_eq_true_iff (x := zDec j pc (.iand) 1) (y := zNx pc 1 r)).mp hok1
        obtain ⟨a, b, r', rfl, hex2⟩ := mzI2_i (k := zEx f (zN j) (zB j) r) hex
        obtain ⟨_, _, rfl, rfl, _, _, rfl, rfl, hL⟩ := hL
        refine lv_iand hx hb (zDec_at hk.1) ?_
        rw [← zNx_at hk.2]
        exact ih p e s m args below meth c j hj C ws0 hZt r hokr _ _ _ _ _ _ hex2 ws tys _ _ H locs _ cells slots hM ⟨_, _, rfl, rfl, hL⟩ hp hI hl hc hs
      | ior =>
        have hk := (Bool.and_eq_true_iff (x := zDec j pc (.ior) 1) (y := zNx pc 1 r)).mp hok1
        obtain ⟨a, b, r', rfl, hex2⟩ := mzI2_i (k := zEx f (zN j) (zB j) r) hex
        obtain ⟨_, _, rfl, rfl, _, _, rfl, rfl, hL⟩ := hL
        refine lv_ior hx hb (zDec_at hk.1) ?_
        rw [← zNx_at hk.2]
        exact ih p e s m args below meth c j hj C ws0 hZt r hokr _ _ _ _ _ _ hex2 ws tys _ _ H locs _ cells slots hM ⟨_, _, rfl, rfl, hL⟩ hp hI hl hc hs
      | ixor =>
        have hk := (Bool.and_eq_true_iff (x := zDec j pc (.ixor) 1) (y := zNx pc 1 r)).mp hok1
        obtain ⟨a, b, r', rfl, hex2⟩ := mzI2_i (k := zEx f (zN j) (zB j) r) hex
        obtain ⟨_, _, rfl, rfl, _, _, rfl, rfl, hL⟩ := hL
        refine lv_ixor hx hb (zDec_at hk.1) ?_
        rw [← zNx_at hk.2]
        exact ih p e s m args below meth c j hj C ws0 hZt r hokr _ _ _ _ _ _ hex2 ws tys _ _ H locs _ cells slots hM ⟨_, _, rfl, rfl, hL⟩ hp hI hl hc hs
      | ishl =>
        have hk := (Bool.and_eq_true_iff (x := zDec j pc (.ishl) 1) (y := zNx pc 1 r)).mp hok1
        obtain ⟨a, b, r', rfl, hex2⟩ := mzI2_i (k := zEx f (zN j) (zB j) r) hex
        obtain ⟨_, _, rfl, rfl, _, _, rfl, rfl, hL⟩ := hL
        refine lv_ishl hx hb (zDec_at hk.1) ?_
        rw [← zNx_at hk.2]
        exact ih p e s m args below meth c j hj C ws0 hZt r hokr _ _ _ _ _ _ hex2 ws tys _ _ H locs _ cells slots hM ⟨_, _, rfl, rfl, hL⟩ hp hI hl hc hs
      | ishr =>
        have hk := (Bool.and_eq_true_iff (x := zDec j pc (.ishr) 1) (y := zNx pc 1 r)).mp hok1
        obtain ⟨a, b, r', rfl, hex2⟩ := mzI2_i (k := zEx f (zN j) (zB j) r) hex
        obtain ⟨_, _, rfl, rfl, _, _, rfl, rfl, hL⟩ := hL
        refine lv_ishr hx hb (zDec_at hk.1) ?_
        rw [← zNx_at hk.2]
        exact ih p e s m args below meth c j hj C ws0 hZt r hokr _ _ _ _ _ _ hex2 ws tys _ _ H locs _ cells slots hM ⟨_, _, rfl, rfl, hL⟩ hp hI hl hc hs
      | iushr =>
        have hk := (Bool.and_eq_true_iff (x := zDec j pc (.iushr) 1) (y := zNx pc 1 r)).mp hok1
        obtain ⟨a, b, r', rfl, hex2⟩ := mzI2_i (k := zEx f (zN j) (zB j) r) hex
        obtain ⟨_, _, rfl, rfl, _, _, rfl, rfl, hL⟩ := hL
        refine lv_iushr hx hb (zDec_at hk.1) rfl ?_
        rw [← zNx_at hk.2]
        exact ih p e s m args below meth c j hj C ws0 hZt r hokr _ _ _ _ _ _ hex2 ws tys _ _ H locs _ cells slots hM ⟨_, _, rfl, rfl, hL⟩ hp hI hl hc hs
      | irem =>
        have hk := (Bool.and_eq_true_iff (x := zDec j pc (.irem) 1) (y := zNx pc 1 r)).mp hok1
        obtain ⟨a, b, r', rfl, hne, hex2⟩ := mzRem_i (k := zEx f (zN j) (zB j) r) hex
        obtain ⟨_, _, rfl, rfl, _, _, rfl, rfl, hL⟩ := hL
        refine lv_irem hx hb (zDec_at hk.1) hne ?_
        rw [← zNx_at hk.2]
        exact ih p e s m args below meth c j hj C ws0 hZt r hokr _ _ _ _ _ _ hex2 ws tys _ _ H locs _ cells slots hM ⟨_, _, rfl, rfl, hL⟩ hp hI hl hc hs
      | ladd =>
        have hk := (Bool.and_eq_true_iff (x := zDec j pc (.ladd) 1) (y := zNx pc 1 r)).mp hok1
        obtain ⟨a, b, r', rfl, hex2⟩ := mzL2_i (k := zEx f (zN j) (zB j) r) hex
        obtain ⟨_, _, rfl, rfl, _, _, rfl, rfl, hL⟩ := hL
        refine lv_ladd hx hb (zDec_at hk.1) ?_
        rw [← zNx_at hk.2]
        exact ih p e s m args below meth c j hj C ws0 hZt r hokr _ _ _ _ _ _ hex2 ws tys _ _ H locs _ cells slots hM ⟨_, _, rfl, rfl, hL⟩ hp hI hl hc hs
      | lsub =>
        have hk := (Bool.and_eq_true_iff (x := zDec j pc (.lsub) 1) (y := zNx pc 1 r)).mp hok1
        obtain ⟨a, b, r', rfl, hex2⟩ := mzL2_i (k := zEx f (zN j) (zB j) r) hex
        obtain ⟨_, _, rfl, rfl, _, _, rfl, rfl, hL⟩ := hL
        refine lv_lsub hx hb (zDec_at hk.1) ?_
        rw [← zNx_at hk.2]
        exact ih p e s m args below meth c j hj C ws0 hZt r hokr _ _ _ _ _ _ hex2 ws tys _ _ H locs _ cells slots hM ⟨_, _, rfl, rfl, hL⟩ hp hI hl hc hs
      | land =>
        have hk := (Bool.and_eq_true_iff (x := zDec j pc (.land) 1) (y := zNx pc 1 r)).mp hok1
        obtain ⟨a, b, r', rfl, hex2⟩ := mzL2_i (k := zEx f (zN j) (zB j) r) hex
        obtain ⟨_, _, rfl, rfl, _, _, rfl, rfl, hL⟩ := hL
        refine lv_land hx hb (zDec_at hk.1) ?_
        rw [← zNx_at hk.2]
        exact ih p e s m args below meth c j hj C ws0 hZt r hokr _ _ _ _ _ _ hex2 ws tys _ _ H locs _ cells slots hM ⟨_, _, rfl, rfl, hL⟩ hp hI hl hc hs
      | lor =>
        have hk := (Bool.and_eq_true_iff (x := zDec j pc (.lor) 1) (y := zNx pc 1 r)).mp hok1
        obtain ⟨a, b, r', rfl, hex2⟩ := mzL2_i (k := zEx f (zN j) (zB j) r) hex
        obtain ⟨_, _, rfl, rfl, _, _, rfl, rfl, hL⟩ := hL
        refine lv_lor hx hb (zDec_at hk.1) ?_
        rw [← zNx_at hk.2]
        exact ih p e s m args below meth c j hj C ws0 hZt r hokr _ _ _ _ _ _ hex2 ws tys _ _ H locs _ cells slots hM ⟨_, _, rfl, rfl, hL⟩ hp hI hl hc hs
      | lshl =>
        have hk := (Bool.and_eq_true_iff (x := zDec j pc (.lshl) 1) (y := zNx pc 1 r)).mp hok1
        obtain ⟨a, b, r', rfl, hex2⟩ := mzLsh_i (k := zEx f (zN j) (zB j) r) hex
        obtain ⟨_, _, rfl, rfl, _, _, rfl, rfl, hL⟩ := hL
        refine lv_lshl hx hb (zDec_at hk.1) rfl ?_
        rw [← zNx_at hk.2]
        exact ih p e s m args below meth c j hj C ws0 hZt r hokr _ _ _ _ _ _ hex2 ws tys _ _ H locs _ cells slots hM ⟨_, _, rfl, rfl, hL⟩ hp hI hl hc hs
      | lushr =>
        have hk := (Bool.and_eq_true_iff (x := zDec j pc (.lushr) 1) (y := zNx pc 1 r)).mp hok1
        obtain ⟨a, b, r', rfl, hex2⟩ := mzLsh_i (k := zEx f (zN j) (zB j) r) hex
        obtain ⟨_, _, rfl, rfl, _, _, rfl, rfl, hL⟩ := hL
        refine lv_lushr hx hb (zDec_at hk.1) rfl ?_
        rw [← zNx_at hk.2]
        exact ih p e s m args below meth c j hj C ws0 hZt r hokr _ _ _ _ _ _ hex2 ws tys _ _ H locs _ cells slots hM ⟨_, _, rfl, rfl, hL⟩ hp hI hl hc hs
      | lcmp =>
        have hk := (Bool.and_eq_true_iff (x := zDec j pc (.lcmp) 1) (y := zNx pc 1 r)).mp hok1
        obtain ⟨a, b, r', rfl, hex2⟩ := mzLcmp_i (k := zEx f (zN j) (zB j) r) hex
        obtain ⟨_, _, rfl, rfl, _, _, rfl, rfl, hL⟩ := hL
        refine W.lcmp hx hb (zDec_at hk.1) ?_
        rw [← zNx_at hk.2]
        exact ih p e s m args below meth c j hj C ws0 hZt r hokr _ _ _ _ _ _ hex2 ws tys _ _ H locs _ cells slots hM ⟨_, _, rfl, rfl, hL⟩ hp hI hl hc hs
      | i2l =>
        have hk := (Bool.and_eq_true_iff (x := zDec j pc (.i2l) 1) (y := zNx pc 1 r)).mp hok1
        obtain ⟨a, r', rfl, hex2⟩ := mzI1_i (k := zEx f (zN j) (zB j) r) hex
        obtain ⟨_, _, rfl, rfl, hL⟩ := hL
        refine lv_i2l hx hb (zDec_at hk.1) rfl ?_
        rw [← zNx_at hk.2]
        exact ih p e s m args below meth c j hj C ws0 hZt r hokr _ _ _ _ _ _ hex2 ws tys _ _ H locs _ cells slots hM ⟨_, _, rfl, rfl, hL⟩ hp hI hl hc hs
      | i2b =>
        have hk := (Bool.and_eq_true_iff (x := zDec j pc (.i2b) 1) (y := zNx pc 1 r)).mp hok1
        obtain ⟨a, r', rfl, hex2⟩ := mzI1_i (k := zEx f (zN j) (zB j) r) hex
        obtain ⟨_, _, rfl, rfl, hL⟩ := hL
        refine lv_i2b hx hb (zDec_at hk.1) rfl ?_
        rw [← zNx_at hk.2]
        exact ih p e s m args below meth c j hj C ws0 hZt r hokr _ _ _ _ _ _ hex2 ws tys _ _ H locs _ cells slots hM ⟨_, _, rfl, rfl, hL⟩ hp hI hl hc hs
      | l2i =>
        have hk := (Bool.and_eq_true_iff (x := zDec j pc (.l2i) 1) (y := zNx pc 1 r)).mp hok1
        obtain ⟨a, r', rfl, hex2⟩ := mzL1_i (k := zEx f (zN j) (zB j) r) hex
        obtain ⟨_, _, rfl, rfl, hL⟩ := hL
        refine lv_l2i hx hb (zDec_at hk.1) rfl ?_
        rw [← zNx_at hk.2]
        exact ih p e s m args below meth c j hj C ws0 hZt r hokr _ _ _ _ _ _ hex2 ws tys _ _ H locs _ cells slots hM ⟨_, _, rfl, rfl, hL⟩ hp hI hl hc hs
      | dup =>
        have hk := (Bool.and_eq_true_iff (x := zDec j pc (.dup) 1) (y := zNx pc 1 r)).mp hok1
        obtain ⟨a, r', rfl, hca, hex2⟩ := mzDup_i (k := zEx f (zN j) (zB j) r) hex
        obtain ⟨_, _, rfl, h1, hL⟩ := hL
        refine lv_dup hx hb (zDec_at hk.1) ((zrV_cat h1).trans hca) ?_
        rw [← zNx_at hk.2]
        exact ih p e s m args below meth c j hj C ws0 hZt r hokr _ _ _ _ _ _ hex2 ws tys _ _ H locs _ cells slots hM ⟨_, _, rfl, h1, _, _, rfl, h1, hL⟩ hp hI hl hc hs
      | dup2 =>
        have hk := (Bool.and_eq_true_iff (x := zDec j pc (.dup2) 1) (y := zNx pc 1 r)).mp hok1
        obtain ⟨a, b, r', rfl, hca, hcb, hex2⟩ := mzDup2_i (k := zEx f (zN j) (zB j) r) hex
        obtain ⟨_, _, rfl, h1, _, _, rfl, h2, hL⟩ := hL
        refine lv_dup2_11 hx hb (zDec_at hk.1) ((zrV_cat h1).trans hca) ((zrV_cat h2).trans hcb) ?_
        rw [← zNx_at hk.2]
        exact ih p e s m args below meth c j hj C ws0 hZt r hokr _ _ _ _ _ _ hex2 ws tys _ _ H locs _ cells slots hM ⟨_, _, rfl, h1, _, _, rfl, h2, _, _, rfl, h1, _, _, rfl, h2, hL⟩ hp hI hl hc hs
      | pop =>
        have hk := (Bool.and_eq_true_iff (x := zDec j pc (.pop) 1) (y := zNx pc 1 r)).mp hok1
        obtain ⟨a, r', rfl, hca, hex2⟩ := mzPop_i (k := zEx f (zN j) (zB j) r) hex
        obtain ⟨_, _, rfl, h1, hL⟩ := hL
        refine lv_pop hx hb (zDec_at hk.1) ((zrV_cat h1).trans hca) ?_
        rw [← zNx_at hk.2]
        exact ih p e s m args below meth c j hj C ws0 hZt r hokr _ _ _ _ _ _ hex2 ws tys _ _ H locs _ cells slots hM hL hp hI hl hc hs
      | nop =>
        have hk : mzPc (mzBlk (zB j) x) = pc := Nat.eq_of_beq_eq_true hok1
        have hex2 : zEx f (zN j) (zB j) (mzBlk (zB j) x) lv st Hm bc bs = some res := hex
        rw [← hk]
        exact ih p e s m args below meth c j hj C ws0 hZt _ (zOkL_blk (hok j hj) x) _ _ _ _ _ _ hex2 ws tys _ _ H locs _ cells slots hM hL hp hI hl hc hs
      | goto d =>
        have hk := (Bool.and_eq_true_iff (x := zDec j pc (.goto d) 3) (y := zTo pc d (zB j) x)).mp hok1
        have hex2 : zEx f (zN j) (zB j) (mzBlk (zB j) x) lv st Hm bc bs = some res := hex
        refine lv_goto hx hb (zDec_at hk.1) (zTo_at hk.2) ?_
        exact ih p e s m args below meth c j hj C ws0 hZt _ (zOkL_blk (hok j hj) x) _ _ _ _ _ _ hex2 ws tys _ _ H locs _ cells slots hM hL hp hI hl hc hs
      | if_icmp o d =>
        have hk := (Bool.and_eq_true_iff (x := zDec j pc (.if_icmp o d) 3) (y := zNx pc 3 r && zTo pc d (zB j) x)).mp hok1
        rw [Bool.and_eq_true] at hk
        obtain ⟨a, b, r', rfl, hex2⟩ := mzIf2_i (kt := zEx f (zN j) (zB j) (mzBlk (zB j) x)) (kf := zEx f (zN j) (zB j) r) hex
        obtain ⟨_, _, rfl, rfl, _, _, rfl, rfl, hL⟩ := hL
        cases o with
        | eq =>
          refine lv_icmp_eq hx hb (zDec_at hk.1) (zTo_at hk.2.2) (fun h9 => ?_) (fun h9 => ?_)
          · exact ih p e s m args below meth c j hj C ws0 hZt _ (zOkL_blk (hok j hj) x) _ _ _ _ _ _ (hex2.1 (by rw [mzCnd_eq]; simp [h9])) ws tys _ _ H locs _ cells slots hM hL hp hI hl hc hs
          · rw [← zNx_at hk.2.1]
            exact ih p e s m args below meth c j hj C ws0 hZt r hokr _ _ _ _ _ _ (hex2.2 (by rw [mzCnd_eq]; simp [h9])) ws tys _ _ H locs _ cells slots hM hL hp hI hl hc hs
        | ne =>
          refine lv_icmp_ne hx hb (zDec_at hk.1) (zTo_at hk.2.2) (fun h9 => ?_) (fun h9 => ?_)
          · exact ih p e s m args below meth c j hj C ws0 hZt _ (zOkL_blk (hok j hj) x) _ _ _ _ _ _ (hex2.1 (by rw [mzCnd_eq]; simp [h9])) ws tys _ _ H locs _ cells slots hM hL hp hI hl hc hs
          · rw [← zNx_at hk.2.1]
            exact ih p e s m args below meth c j hj C ws0 hZt r hokr _ _ _ _ _ _ (hex2.2 (by rw [mzCnd_eq]; simp [h9])) ws tys _ _ H locs _ cells slots hM hL hp hI hl hc hs
        | lt =>
          refine lv_icmp_lt hx hb (zDec_at hk.1) (zTo_at hk.2.2) (fun h9 => ?_) (fun h9 => ?_)
          · exact ih p e s m args below meth c j hj C ws0 hZt _ (zOkL_blk (hok j hj) x) _ _ _ _ _ _ (hex2.1 (by rw [mzCnd_eq]; simp [h9])) ws tys _ _ H locs _ cells slots hM hL hp hI hl hc hs
          · rw [← zNx_at hk.2.1]
            exact ih p e s m args below meth c j hj C ws0 hZt r hokr _ _ _ _ _ _ (hex2.2 (by rw [mzCnd_eq]; simp [h9])) ws tys _ _ H locs _ cells slots hM hL hp hI hl hc hs
        | ge =>
          refine lv_icmp_ge hx hb (zDec_at hk.1) (zTo_at hk.2.2) (fun h9 => ?_) (fun h9 => ?_)
          · exact ih p e s m args below meth c j hj C ws0 hZt _ (zOkL_blk (hok j hj) x) _ _ _ _ _ _ (hex2.1 (by rw [mzCnd_eq]; simp [h9])) ws tys _ _ H locs _ cells slots hM hL hp hI hl hc hs
          · rw [← zNx_at hk.2.1]
            exact ih p e s m args below meth c j hj C ws0 hZt r hokr _ _ _ _ _ _ (hex2.2 (by rw [mzCnd_eq]; simp [h9])) ws tys _ _ H locs _ cells slots hM hL hp hI hl hc hs
        | gt =>
          refine lv_icmp_gt hx hb (zDec_at hk.1) (zTo_at hk.2.2) (fun h9 => ?_) (fun h9 => ?_)
          · exact ih p e s m args below meth c j hj C ws0 hZt _ (zOkL_blk (hok j hj) x) _ _ _ _ _ _ (hex2.1 (by rw [mzCnd_eq]; simp [h9])) ws tys _ _ H locs _ cells slots hM hL hp hI hl hc hs
          · rw [← zNx_at hk.2.1]
            exact ih p e s m args below meth c j hj C ws0 hZt r hokr _ _ _ _ _ _ (hex2.2 (by rw [mzCnd_eq]; simp [h9])) ws tys _ _ H locs _ cells slots hM hL hp hI hl hc hs
        | le =>
          refine lv_icmp_le hx hb (zDec_at hk.1) (zTo_at hk.2.2) (fun h9 => ?_) (fun h9 => ?_)
          · exact ih p e s m args below meth c j hj C ws0 hZt _ (zOkL_blk (hok j hj) x) _ _ _ _ _ _ (hex2.1 (by rw [mzCnd_eq]; simp [h9])) ws tys _ _ H locs _ cells slots hM hL hp hI hl hc hs
          · rw [← zNx_at hk.2.1]
            exact ih p e s m args below meth c j hj C ws0 hZt r hokr _ _ _ _ _ _ (hex2.2 (by rw [mzCnd_eq]; simp [h9])) ws tys _ _ H locs _ cells slots hM hL hp hI hl hc hs
      | ifCond o d =>
        have hk := (Bool.and_eq_true_iff (x := zDec j pc (.ifCond o d) 3) (y := zNx pc 3 r && zTo pc d (zB j) x)).mp hok1
        rw [Bool.and_eq_true] at hk
        obtain ⟨a, r', rfl, hex2⟩ := mzIf_i (kt := zEx f (zN j) (zB j) (mzBlk (zB j) x)) (kf := zEx f (zN j) (zB j) r) hex
        obtain ⟨_, _, rfl, rfl, hL⟩ := hL
        cases o with
        | eq =>
          refine lv_if_eq hx hb (zDec_at hk.1) (zTo_at hk.2.2) (fun h9 => ?_) (fun h9 => ?_)
          · exact ih p e s m args below meth c j hj C ws0 hZt _ (zOkL_blk (hok j hj) x) _ _ _ _ _ _ (hex2.1 (by rw [mzCnd_eq]; simp [h9])) ws tys _ _ H locs _ cells slots hM hL hp hI hl hc hs
          · rw [← zNx_at hk.2.1]
            exact ih p e s m args below meth c j hj C ws0 hZt r hokr _ _ _ _ _ _ (hex2.2 (by rw [mzCnd_eq]; simp [h9])) ws tys _ _ H locs _ cells slots hM hL hp hI hl hc hs
        | ne =>
          refine lv_if_ne hx hb (zDec_at hk.1) (zTo_at hk.2.2) (fun h9 => ?_) (fun h9 => ?_)
          · exact ih p e s m args below meth c j hj C ws0 hZt _ (zOkL_blk (hok j hj) x) _ _ _ _ _ _ (hex2.1 (by rw [mzCnd_eq]; simp [h9])) ws tys _ _ H locs _ cells slots hM hL hp hI hl hc hs
          · rw [← zNx_at hk.2.1]
            exact ih p e s m args below meth c j hj C ws0 hZt r hokr _ _ _ _ _ _ (hex2.2 (by rw [mzCnd_eq]; simp [h9])) ws tys _ _ H locs _ cells slots hM hL hp hI hl hc hs
        | lt =>
          refine lv_if_lt hx hb (zDec_at hk.1) (zTo_at hk.2.2) (fun h9 => ?_) (fun h9 => ?_)
          · exact ih p e s m args below meth c j hj C ws0 hZt _ (zOkL_blk (hok j hj) x) _ _ _ _ _ _ (hex2.1 (by rw [mzCnd_eq]; simp [h9])) ws tys _ _ H locs _ cells slots hM hL hp hI hl hc hs
          · rw [← zNx_at hk.2.1]
            exact ih p e s m args below meth c j hj C ws0 hZt r hokr _ _ _ _ _ _ (hex2.2 (by rw [mzCnd_eq]; simp [h9])) ws tys _ _ H locs _ cells slots hM hL hp hI hl hc hs
        | ge =>
          refine lv_if_ge hx hb (zDec_at hk.1) (zTo_at hk.2.2) (fun h9 => ?_) (fun h9 => ?_)
          · exact ih p e s m args below meth c j hj C ws0 hZt _ (zOkL_blk (hok j hj) x) _ _ _ _ _ _ (hex2.1 (by rw [mzCnd_eq]; simp [h9])) ws tys _ _ H locs _ cells slots hM hL hp hI hl hc hs
          · rw [← zNx_at hk.2.1]
            exact ih p e s m args below meth c j hj C ws0 hZt r hokr _ _ _ _ _ _ (hex2.2 (by rw [mzCnd_eq]; simp [h9])) ws tys _ _ H locs _ cells slots hM hL hp hI hl hc hs
        | gt =>
          refine lv_if_gt hx hb (zDec_at hk.1) (zTo_at hk.2.2) (fun h9 => ?_) (fun h9 => ?_)
          · exact ih p e s m args below meth c j hj C ws0 hZt _ (zOkL_blk (hok j hj) x) _ _ _ _ _ _ (hex2.1 (by rw [mzCnd_eq]; simp [h9])) ws tys _ _ H locs _ cells slots hM hL hp hI hl hc hs
          · rw [← zNx_at hk.2.1]
            exact ih p e s m args below meth c j hj C ws0 hZt r hokr _ _ _ _ _ _ (hex2.2 (by rw [mzCnd_eq]; simp [h9])) ws tys _ _ H locs _ cells slots hM hL hp hI hl hc hs
        | le =>
          refine lv_if_le hx hb (zDec_at hk.1) (zTo_at hk.2.2) (fun h9 => ?_) (fun h9 => ?_)
          · exact ih p e s m args below meth c j hj C ws0 hZt _ (zOkL_blk (hok j hj) x) _ _ _ _ _ _ (hex2.1 (by rw [mzCnd_eq]; simp [h9])) ws tys _ _ H locs _ cells slots hM hL hp hI hl hc hs
          · rw [← zNx_at hk.2.1]
            exact ih p e s m args below meth c j hj C ws0 hZt r hokr _ _ _ _ _ _ (hex2.2 (by rw [mzCnd_eq]; simp [h9])) ws tys _ _ H locs _ cells slots hM hL hp hI hl hc hs
      | tableswitch d lo hi os =>
        have hk := (Bool.and_eq_true_iff (x := zDecA j pc (.tableswitch d lo hi os)) (y := zTo pc d (zB j) x && zSw pc (zB j) os.toList ts)).mp hok1
        rw [Bool.and_eq_true] at hk
        obtain ⟨n, hd⟩ := zDecA_at hk.1
        obtain ⟨a, r', rfl, hex2⟩ := mzSw_i (kd := zEx f (zN j) (zB j) (mzBlk (zB j) x)) (kq := fun b => zEx f (zN j) (zB j) (mzBlk (zB j) b)) hex
        obtain ⟨_, _, rfl, rfl, hL⟩ := hL
        rcases hex2 with ⟨h1, hex2⟩ | ⟨h1, h2, b, h3, hex2⟩
        · refine lv_tableOut hx hb hd h1 (zTo_at hk.2.1) ?_
          exact ih p e s m args below meth c j hj C ws0 hZt _ (zOkL_blk (hok j hj) x) _ _ _ _ _ _ hex2 ws tys _ _ H locs _ cells slots hM hL hp hI hl hc hs
        · obtain ⟨off, h4, h5⟩ := zSw_at hk.2.2 h3
          refine lv_tableIn hx hb hd h1 h2 (by rw [← Array.getElem?_toList]; exact h4) h5 ?_
          exact ih p e s m args below meth c j hj C ws0 hZt _ (zOkL_blk (hok j hj) b) _ _ _ _ _ _ hex2 ws tys _ _ H locs _ cells slots hM hL hp hI hl hc hs
      | ldc k =>
        match ts, hok1, hex with
        | [t0], hok1, hex =>
          have hk := (Bool.and_eq_true_iff (x := zDec j pc (.ldc k) 2) (y := zNx pc 2 r && decide ((zO j, k, x) ∈ zLi))).mp hok1
          rw [Bool.and_eq_true, decide_eq_true_eq] at hk
          have hex2 : zEx f (zN j) (zB j) r lv (.int (Int32.ofNat x) :: st) Hm bc bs = some res := hex
          refine lv_ldc hx hb hown' (zIn (Ts := []) hts (zLi_ok _ hk.2.2)) (zDec_at hk.1) ?_
          rw [← zNx_at hk.2.1]
          exact ih p e s m args below meth c j hj C ws0 hZt r hokr _ _ _ _ _ _ hex2 ws tys _ _ H locs _ cells slots hM ⟨_, _, rfl, rfl, hL⟩ hp hI hl hc hs
        | [t0, t1], hok1, hex =>
          have hk := (Bool.and_eq_true_iff (x := zDec j pc (.ldc k) 2) (y := zDec j (pc + 2) (.invokevirtual y) 3 && (zNx pc 5 r && (decide ((zO j, k, x, y, 0) ∈ zLt) && zRoom j 2 40)))).mp hok1
          rw [Bool.and_eq_true, Bool.and_eq_true, Bool.and_eq_true, decide_eq_true_eq] at hk
          obtain ⟨hd0, hd1, hn, hlt, hrm⟩ := hk
          obtain ⟨hwd, hex2⟩ := mzSln_i (k := zEx f (zN j) (zB j) r) hex
          obtain ⟨hH, hP, hK, hDd, hS⟩ := id hI
          obtain ⟨adK, adV, hst, hrf⟩ := id hZt
          obtain ⟨tx, hR⟩ := hrf _ hlt
          obtain ⟨hx2, -, hlk⟩ := zLt_ok _ hlt
          have hT := hst x hx2
          have hroom : (st'.map fun v => v.category).sum ≤ 8 := by rw [zrL_cats hL]; exact hwd
          refine va_ldcS hx hb hown' hR (zDec_at hd0) ?_
          refine va_calli (va_runV (As := []) (rest := st') (b := adK x) (C := "java/lang/String") ⟨hx, hb, hml', hown', hts⟩ (c_len l (adK x) (adV x) (sLn.getD x 0) (fun j => (sBy.getD x []).getD j 0) (s_chars x hx2).2.1) ⟨callB_of 0 hts (sJw_in (zws_own j) sk_len.1) rfl rfl rfl (zIn (Ts := []) hts sk_len.2) (zIn (Ts := []) hts hlk) ⟨by decide +kernel, by decide +kernel, by decide +kernel⟩ ⟨(zRoom_at hrm).1, (zRoom_at hrm).2⟩, zIn (Ts := []) hts si_len.1, zIn (Ts := []) hts si_len.2⟩ ⟨sPc_blind, s_recv hT.1 hS, (fun U hU hW => ⟨rfl, hT.at hS hU hW⟩)⟩ rfl rfl hl.1 rfl (lv_room hroom) (zDec_at hd1) ⟨by show cells + 0 ≤ zmc j; omega, by show slots + 0 ≤ zms j; omega⟩) hS (fun _ _ z => z.elim) (fun _ z => z.elim) (fun v u t2 H1 locs1 ht hvm hp2 _ hsz hkp hS1 => ?_)
          subst hp2
          have hPk : ∀ q : Nat, q < H.size → H1[q]? = H[q]? := fun q h => hkp q h (fun z => z)
          rw [show pc + 2 + 3 = mzPc r from (zNx_at hn).symm]
          exact ih p e s m args below meth c j hj C ws0 hZt r hokr _ _ _ _ _ _ hex2 ws tys _ _ H1 locs1 _ _ _ hM ⟨_, _, rfl, rfl, hL⟩ hp ⟨hH, fun k2 q2 h2 => (hP k2 q2 h2).kept (hPk _ (hP k2 q2 h2).lt), hK, hDd, hS1⟩ hl (by omega) (by omega)
        | [t0, a, t1], hok1, hex =>
          have hk := (Bool.and_eq_true_iff (x := zDec j pc (.ldc k) 2) (y := zDec j (pc + 2) (.iload_n (zf4 a)) 1 && (zDec j (pc + 3) (.invokevirtual y) 3 && (zNx pc 6 r && (decide ((zO j, k, x, y, 1) ∈ zLt) && zRoom j 4 85))))).mp hok1
          rw [Bool.and_eq_true, Bool.and_eq_true, Bool.and_eq_true, Bool.and_eq_true, decide_eq_true_eq] at hk
          obtain ⟨hd0, hd1, hd2, hn, hlt, hrm⟩ := hk
          obtain ⟨i, v0, hg, hi0, hi1, hwd, hex2⟩ := mzSc1_i (k := zEx f (zN j) (zB j) r) hex
          obtain ⟨_, hv', hmem⟩ := zrM_mem hM (mzGet_mem hg)
          have hv'' : _ = Value.int i := hv'
          subst hv''
          obtain ⟨hH, hP, hK, hDd, hS⟩ := id hI
          obtain ⟨adK, adV, hst, hrf⟩ := id hZt
          obtain ⟨tx, hR⟩ := hrf _ hlt
          obtain ⟨hx2, -, hlk⟩ := zLt_ok _ hlt
          have hT := hst x hx2
          have hroom : (st'.map fun v => v.category).sum ≤ 8 := by rw [zrL_cats hL]; exact hwd
          obtain ⟨hq0, hq1, hq2, hq3⟩ := s_chars x hx2
          have hlen : (i).toNatClampNeg < sLn.getD x 0 := by rw [hq0]; exact (List.getElem?_eq_some_iff.mp hi1).1
          have hch := hq3 v0 (List.mem_of_getElem? hi1)
          have hget : (sBy.getD x []).getD (i).toNatClampNeg 0 = v0 := by rw [List.getD_eq_getElem?_getD, hi1]; rfl
          have hin := s_in hi0 hlen hq2
          refine va_ldcS hx hb hown' hR (zDec_at hd0) ?_
          refine lv_iload_n hx hb (zDec_at hd1) rfl (hl.2.2 _ hmem) ?_
          refine va_calli (va_runV (As := [.int i]) (rest := st') (b := adK x) (C := "java/lang/String") ⟨hx, hb, hml', hown', hts⟩ (c_chr l (adK x) (adV x) (sLn.getD x 0) (fun j => (sBy.getD x []).getD j 0) i v0 hi0 hin.1 hin.2 (by rw [hget]; exact hch.1) hch.2) ⟨callB_of 1 hts (sJw_in (zws_own j) sk_chr.1) rfl rfl rfl (zIn (Ts := []) hts sk_chr.2) (zIn (Ts := []) hts hlk) ⟨by decide +kernel, by decide +kernel, by decide +kernel⟩ ⟨(zRoom_at hrm).1, (zRoom_at hrm).2⟩, zIn (Ts := []) hts si_chr.1, zIn (Ts := []) hts si_chr.2⟩ ⟨sPc_blind, s_recv hT.1 hS, (fun U hU hW => ⟨rfl, hT.at hS hU hW⟩)⟩ rfl rfl hl.1 rfl (lv_room hroom) (zDec_at hd2) ⟨by show cells + 0 ≤ zmc j; omega, by show slots + 0 ≤ zms j; omega⟩) hS (fun _ _ z => z.elim) (fun _ z => z.elim) (fun v u t2 H1 locs1 ht hvm hp2 _ hsz hkp hS1 => ?_)
          subst hp2
          have hPk : ∀ q : Nat, q < H.size → H1[q]? = H[q]? := fun q h => hkp q h (fun z => z)
          rw [show pc + 2 + 1 + 3 = mzPc r from (zNx_at hn).symm]
          exact ih p e s m args below meth c j hj C ws0 hZt r hokr _ _ _ _ _ _ hex2 ws tys _ _ H1 locs1 _ _ _ hM ⟨_, _, rfl, rfl, hL⟩ hp ⟨hH, fun k2 q2 h2 => (hP k2 q2 h2).kept (hPk _ (hP k2 q2 h2).lt), hK, hDd, hS1⟩ hl (by omega) (by omega)
        | [t0, a, t1, b], hok1, hex =>
          have hk := (Bool.and_eq_true_iff (x := zDec j pc (.ldc k) 2) (y := zDec j (pc + 2) (.iload_n (zf4 a)) 1 && (zDec j (pc + 3) (.iload_n (zf4 b)) 1 && (zDec j (pc + 4) .iadd 1 && (zDec j (pc + 5) (.invokevirtual y) 3 && (zNx pc 8 r && (decide ((zO j, k, x, y, 1) ∈ zLt) && zRoom j 4 85))))))).mp hok1
          rw [Bool.and_eq_true, Bool.and_eq_true, Bool.and_eq_true, Bool.and_eq_true, Bool.and_eq_true, Bool.and_eq_true, decide_eq_true_eq] at hk
          obtain ⟨hd0, hd1, hd2, hd3, hd4, hn, hlt, hrm⟩ := hk
          obtain ⟨i1, i2, v0, hg, hg2, hi0, hi1, hwd, hex2⟩ := mzSc2_i (k := zEx f (zN j) (zB j) r) hex
          obtain ⟨_, hv', hmem⟩ := zrM_mem hM (mzGet_mem hg)
          have hv'' : _ = Value.int i1 := hv'
          subst hv''
          obtain ⟨_, hv', hmem2⟩ := zrM_mem hM (mzGet_mem hg2)
          have hv'' : _ = Value.int i2 := hv'
          subst hv''
          obtain ⟨hH, hP, hK, hDd, hS⟩ := id hI
          obtain ⟨adK, adV, hst, hrf⟩ := id hZt
          obtain ⟨tx, hR⟩ := hrf _ hlt
          obtain ⟨hx2, -, hlk⟩ := zLt_ok _ hlt
          have hT := hst x hx2
          have hroom : (st'.map fun v => v.category).sum ≤ 8 := by rw [zrL_cats hL]; exact hwd
          obtain ⟨hq0, hq1, hq2, hq3⟩ := s_chars x hx2
          have hlen : ((i1 + i2)).toNatClampNeg < sLn.getD x 0 := by rw [hq0]; exact (List.getElem?_eq_some_iff.mp hi1).1
          have hch := hq3 v0 (List.mem_of_getElem? hi1)
          have hget : (sBy.getD x []).getD ((i1 + i2)).toNatClampNeg 0 = v0 := by rw [List.getD_eq_getElem?_getD, hi1]; rfl
          have hin := s_in hi0 hlen hq2
          refine va_ldcS hx hb hown' hR (zDec_at hd0) ?_
          refine lv_iload_n hx hb (zDec_at hd1) rfl (hl.2.2 _ hmem) ?_
          refine lv_iload_n hx hb (zDec_at hd2) rfl (hl.2.2 _ hmem2) ?_
          refine lv_iadd hx hb (zDec_at hd3) ?_
          refine va_calli (va_runV (As := [.int (i1 + i2)]) (rest := st') (b := adK x) (C := "java/lang/String") ⟨hx, hb, hml', hown', hts⟩ (c_chr l (adK x) (adV x) (sLn.getD x 0) (fun j => (sBy.getD x []).getD j 0) (i1 + i2) v0 hi0 hin.1 hin.2 (by rw [hget]; exact hch.1) hch.2) ⟨callB_of 1 hts (sJw_in (zws_own j) sk_chr.1) rfl rfl rfl (zIn (Ts := []) hts sk_chr.2) (zIn (Ts := []) hts hlk) ⟨by decide +kernel, by decide +kernel, by decide +kernel⟩ ⟨(zRoom_at hrm).1, (zRoom_at hrm).2⟩, zIn (Ts := []) hts si_chr.1, zIn (Ts := []) hts si_chr.2⟩ ⟨sPc_blind, s_recv hT.1 hS, (fun U hU hW => ⟨rfl, hT.at hS hU hW⟩)⟩ rfl rfl hl.1 rfl (lv_room hroom) (zDec_at hd4) ⟨by show cells + 0 ≤ zmc j; omega, by show slots + 0 ≤ zms j; omega⟩) hS (fun _ _ z => z.elim) (fun _ z => z.elim) (fun v u t2 H1 locs1 ht hvm hp2 _ hsz hkp hS1 => ?_)
          subst hp2
          have hPk : ∀ q : Nat, q < H.size → H1[q]? = H[q]? := fun q h => hkp q h (fun z => z)
          rw [show pc + 2 + 1 + 1 + 1 + 3 = mzPc r from (zNx_at hn).symm]
          exact ih p e s m args below meth c j hj C ws0 hZt r hokr _ _ _ _ _ _ hex2 ws tys _ _ H1 locs1 _ _ _ hM ⟨_, _, rfl, rfl, hL⟩ hp ⟨hH, fun k2 q2 h2 => (hP k2 q2 h2).kept (hPk _ (hP k2 q2 h2).lt), hK, hDd, hS1⟩ hl (by omega) (by omega)
        | [], _, hex => exact absurd (show (none : mzR) = some res from hex) (by simp)
        | _ :: _ :: _ :: _ :: _ :: _, _, hex => exact absurd (show (none : mzR) = some res from hex) (by simp)
      | ldc2_w k =>
        match ts, hok1, hex with
        | [t0], hok1, hex =>
          have hk := (Bool.and_eq_true_iff (x := zDec j pc (.ldc2_w k) 3) (y := zNx pc 3 r && decide ((zO j, k, x) ∈ zLl))).mp hok1
          rw [Bool.and_eq_true, decide_eq_true_eq] at hk
          have hex2 : zEx f (zN j) (zB j) r lv (.long (Int64.ofNat x) :: st) Hm bc bs = some res := hex
          refine lv_ldc2 hx hb hown' (zIn (Ts := []) hts (zLl_ok _ hk.2.2)) (zDec_at hk.1) ?_
          rw [← zNx_at hk.2.1]
          exact ih p e s m args below meth c j hj C ws0 hZt r hokr _ _ _ _ _ _ hex2 ws tys _ _ H locs _ cells slots hM ⟨_, _, rfl, rfl, hL⟩ hp hI hl hc hs
        | [], _, hex => exact absurd (show (none : mzR) = some res from hex) (by simp)
        | _ :: _ :: _, _, hex => exact absurd (show (none : mzR) = some res from hex) (by simp)
      | getfield k =>
        match ts, hok1, hex with
        | [t0], hok1, hex =>
          have hk := (Bool.and_eq_true_iff (x := zDec j pc (.getfield k) 3) (y := zNx pc 3 r && (decide ((zO j, k, x, y) ∈ zLF) || decide ((zO j, k, x, y) ∈ zLFn)))).mp hok1
          rw [Bool.and_eq_true, Bool.or_eq_true, decide_eq_true_eq, decide_eq_true_eq] at hk
          obtain ⟨a, r', fs, v, rfl, hHa, hfv, hex2⟩ := mzGf_i (k := zEx f (zN j) (zB j) r) hex
          obtain ⟨_, _, rfl, ⟨a', ha, rfl⟩, hL⟩ := hL
          obtain ⟨hH, hP, hK, hDd, hS⟩ := id hI
          obtain ⟨_, hwa, fs', rfl, hfs⟩ := zrH_get hH hHa ha
          obtain ⟨v', hv', hvv⟩ := zrL_at hfs hfv
          rcases hk.2.2 with h9 | h9
          · obtain ⟨Cn, T, N, h1, h2, h3, h4⟩ := zLF_ok _ h9
            obtain ⟨Cn2, T2, N2, ty2, g1, g2, g3, g4, -⟩ := zC_ok x (z_clt h1)
            cases g1.symm.trans h1
            refine va_get (D := D) (C := Cn) (T := T) (N := N) hx hb hts (fun w hw => zws_own j w (g2 w hw)) hown' hK hP a hwa h1 y h2 (zIn (Ts := []) hts h4) (fun q hq => by rw [← h3]; exact hq) hv' (zDec_at hk.1) ?_
            rw [← zNx_at hk.2.1]
            exact ih p e s m args below meth c j hj C ws0 hZt r hokr _ _ _ _ _ _ hex2 ws tys _ _ H locs _ cells slots hM ⟨_, _, rfl, hvv, hL⟩ hp hI hl hc hs
          · obtain ⟨Cn, T, N, h1, h2, h3, hst, h4⟩ := zLFn_ok _ h9
            obtain ⟨Cn2, T2, N2, ty2, g1, g2, g3, g4, -⟩ := zC_ok x (z_clt h1)
            cases g1.symm.trans h1
            refine va_getN (D := D) (C := Cn) (T := T) (N := N) hx hb hts (fun w hw => zws_own j w (g2 w hw)) hown' hK hP a hwa h1 y h2 (va_Nw.use rfl (hN _ h4)) (fun q hq => by rw [← h3]; exact hq) hv' (zDec_at hk.1) ?_
            rw [← zNx_at hk.2.1]
            exact ih p e s m args below meth c j hj C ws0 hZt r hokr _ _ _ _ _ _ hex2 ws tys _ _ H locs _ cells slots hM ⟨_, _, rfl, hvv, hL⟩ hp hI hl hc hs
        | [], _, hex => exact absurd (show (none : mzR) = some res from hex) (by simp)
        | _ :: _ :: _, _, hex => exact absurd (show (none : mzR) = some res from hex) (by simp)
      | putfield k =>
        match ts, hok1, hex with
        | [t0], hok1, hex =>
          have hk := (Bool.and_eq_true_iff (x := zDec j pc (.putfield k) 3) (y := zNx pc 3 r && ((decide ((zO j, k, x, y) ∈ zLF) && zPt j x y t0 false) || (decide ((zO j, k, x, y) ∈ zLFn) && zPt j x y t0 true)))).mp hok1
          rw [Bool.and_eq_true, Bool.or_eq_true, Bool.and_eq_true, Bool.and_eq_true, decide_eq_true_eq, decide_eq_true_eq] at hk
          obtain ⟨a, r', fs, v, rfl, hHa, hfl, hft, hex2⟩ := mzPf_i (k := zEx f (zN j) (zB j) r) hex
          obtain ⟨v', _, rfl, hvv, _, _, rfl, ⟨a', ha, rfl⟩, hL⟩ := hL
          obtain ⟨hH, hP, hK, hDd, hS⟩ := id hI
          obtain ⟨_, hwa, fs', rfl, hfs⟩ := zrH_get hH hHa ha
          have hfl' : y < fs'.length := by rw [zrL_len hfs]; exact hfl
          rcases hk.2.2 with ⟨h9, hpt⟩ | ⟨h9, hpt⟩
          · obtain ⟨Cn, T, N, h1, h2, h3, h4⟩ := zLF_ok _ h9
            obtain ⟨Cn2, T2, N2, ty2, g1, g2, g3, g4, -⟩ := zC_ok x (z_clt h1)
            cases g1.symm.trans h1
            obtain ⟨ty, p1, p2, p3, p4⟩ := zPt_at h1 hpt hft hvv
            rcases p4 with p4 | ⟨-, p4, p5, p6⟩
            · refine va_put (D := D) (C := Cn) (T := T) (N := N) hx hb hts (fun w hw => zws_own j w (g2 w hw)) ty2 g3 g4 hown' hK hP hDd hS a hwa h1 y h2 (zIn (Ts := []) hts h4) (fun q hq => by rw [← h3]; exact hq) p4 p1 p2 p3 hfl' (zDec_at hk.1) (fun H1 locs1 hP hDd hS => ?_)
              rw [← zNx_at hk.2.1]
              exact ih p e s m args below meth c j hj C ws0 hZt r hokr _ _ _ _ _ _ hex2 (ws.set a (a', .inr (x, fs'.set y v'))) tys _ _ H1 locs1 _ cells slots (by rw [zad_set hwa]; exact hM) (by rw [zad_set hwa]; exact hL) (by rw [zad_set hwa]; exact hp) ⟨zrH_set hH hwa ⟨_, rfl, zrL_set hfs hvv⟩, hP, hK, hDd, hS⟩ hl hc hs
            · refine va_putF (D := D) (C := Cn) (T := T) (N := N) hx hb hts (fun w hw => zws_own j w (g2 w hw)) ty2 g3 g4 hown' hK hP hDd hS a hwa h1 y h2 (zIn (Ts := []) hts h4) (fun q hq => by rw [← h3]; exact hq) p4 (hnm.trans p6) p5 p1 p2 p3 hfl' (zDec_at hk.1) (fun H1 locs1 hP hDd hS => ?_)
              rw [← zNx_at hk.2.1]
              exact ih p e s m args below meth c j hj C ws0 hZt r hokr _ _ _ _ _ _ hex2 (ws.set a (a', .inr (x, fs'.set y v'))) tys _ _ H1 locs1 _ cells slots (by rw [zad_set hwa]; exact hM) (by rw [zad_set hwa]; exact hL) (by rw [zad_set hwa]; exact hp) ⟨zrH_set hH hwa ⟨_, rfl, zrL_set hfs hvv⟩, hP, hK, hDd, hS⟩ hl hc hs
          · obtain ⟨Cn, T, N, h1, h2, h3, hst, h4⟩ := zLFn_ok _ h9
            obtain ⟨Cn2, T2, N2, ty2, g1, g2, g3, g4, -⟩ := zC_ok x (z_clt h1)
            cases g1.symm.trans h1
            obtain ⟨ty, p1, p2, p3, p4⟩ := zPt_at h1 hpt hft hvv
            rcases p4 with p4 | ⟨p4, -⟩
            · refine va_putN (D := D) (C := Cn) (T := T) (N := N) hx hb hts (fun w hw => zws_own j w (g2 w hw)) ty2 g3 g4 hown' hK hP hDd hS a hwa h1 y h2 (va_Nw.use rfl (hN _ h4)) (fun q hq => by rw [← h3]; exact hq) p4 p1 p2 p3 hfl' (zDec_at hk.1) (fun H1 locs1 hP hDd hS => ?_)
              rw [← zNx_at hk.2.1]
              exact ih p e s m args below meth c j hj C ws0 hZt r hokr _ _ _ _ _ _ hex2 (ws.set a (a', .inr (x, fs'.set y v'))) tys _ _ H1 locs1 _ cells slots (by rw [zad_set hwa]; exact hM) (by rw [zad_set hwa]; exact hL) (by rw [zad_set hwa]; exact hp) ⟨zrH_set hH hwa ⟨_, rfl, zrL_set hfs hvv⟩, hP, hK, hDd, hS⟩ hl hc hs
            · cases p4
        | [], _, hex => exact absurd (show (none : mzR) = some res from hex) (by simp)
        | _ :: _ :: _, _, hex => exact absurd (show (none : mzR) = some res from hex) (by simp)
      | iaload =>
        have hk := (Bool.and_eq_true_iff (x := zDec j pc (.iaload) 1) (y := zNx pc 1 r)).mp hok1
        obtain ⟨i, a, r', d, l0, rfl, hHa, hbx, hin, hex2⟩ := mzAl_i (b := false) (k := zEx f (zN j) (zB j) r) hex
        obtain ⟨_, _, rfl, rfl, _, _, rfl, ⟨a', ha, rfl⟩, hL⟩ := hL
        obtain ⟨hH, hP, hK, hDd, hS⟩ := id hI
        obtain ⟨_, hwa, cA, hty, rfl⟩ := zrH_get hH hHa ha
        obtain ⟨t0, ht0⟩ := z_tys hty
        match d, hbx, ht0 with
        | 0, hbx, ht0 =>
          refine va_iald hx hb hK hP a t0 hwa ht0 hin (zDec_at hk.1) ?_
          rw [← zNx_at hk.2]
          exact ih p e s m args below meth c j hj C ws0 hZt r hokr _ _ _ _ _ _ hex2 ws tys _ _ H locs _ cells slots hM ⟨_, _, rfl, rfl, hL⟩ hp hI hl hc hs
        | _ + 1, hbx, ht0 => cases hbx
      | baload =>
        have hk := (Bool.and_eq_true_iff (x := zDec j pc (.baload) 1) (y := zNx pc 1 r)).mp hok1
        obtain ⟨i, a, r', d, l0, rfl, hHa, hbx, hin, hex2⟩ := mzAl_i (b := true) (k := zEx f (zN j) (zB j) r) hex
        obtain ⟨_, _, rfl, rfl, _, _, rfl, ⟨a', ha, rfl⟩, hL⟩ := hL
        obtain ⟨hH, hP, hK, hDd, hS⟩ := id hI
        obtain ⟨_, hwa, cA, hty, rfl⟩ := zrH_get hH hHa ha
        obtain ⟨t0, ht0⟩ := z_tys hty
        match d, hbx, ht0 with
        | 0, hbx, ht0 => cases hbx
        | 1, hbx, ht0 =>
          refine va_zald hx hb hK hP a t0 hwa ht0 hin (zDec_at hk.1) ?_
          rw [← zNx_at hk.2]
          exact ih p e s m args below meth c j hj C ws0 hZt r hokr _ _ _ _ _ _ hex2 ws tys _ _ H locs _ cells slots hM ⟨_, _, rfl, rfl, hL⟩ hp hI hl hc hs
        | _ + 2, hbx, ht0 =>
          refine va_bald hx hb hK hP a t0 hwa ht0 hin (zDec_at hk.1) ?_
          rw [← zNx_at hk.2]
          exact ih p e s m args below meth c j hj C ws0 hZt r hokr _ _ _ _ _ _ hex2 ws tys _ _ H locs _ cells slots hM ⟨_, _, rfl, rfl, hL⟩ hp hI hl hc hs
      | iastore =>
        have hk := (Bool.and_eq_true_iff (x := zDec j pc (.iastore) 1) (y := zNx pc 1 r)).mp hok1
        obtain ⟨v, i, a, r', d, l0, rfl, hHa, hbx, hin, hex2⟩ := mzAs_i (b := false) (k := zEx f (zN j) (zB j) r) hex
        obtain ⟨_, _, rfl, rfl, _, _, rfl, rfl, _, _, rfl, ⟨a', ha, rfl⟩, hL⟩ := hL
        obtain ⟨hH, hP, hK, hDd, hS⟩ := id hI
        obtain ⟨_, hwa, cA, hty, rfl⟩ := zrH_get hH hHa ha
        obtain ⟨t0, ht0⟩ := z_tys hty
        have hlt : i.toNatClampNeg < l0.length := Nat.not_le.mp fun q => hin (Or.inr q)
        match d, hbx, ht0, hty, hex2 with
        | 0, hbx, ht0, hty, hex2 =>
          refine va_iast hx hb hK hP hDd hS a t0 hwa ht0 hin (zDec_at hk.1) (fun H1 locs1 hP hDd hS => ?_)
          rw [← zNx_at hk.2]
          exact ih p e s m args below meth c j hj C ws0 hZt r hokr _ _ _ _ _ _ hex2 (ws.set a (a', .inl (cA, l0.length, .inl (upd (fun k => l0.getD k 0) i.toNatClampNeg (v))))) tys _ _ H1 locs1 _ cells slots (by rw [zad_set hwa]; exact hM) (by rw [zad_set hwa]; exact hL) (by rw [zad_set hwa]; exact hp) ⟨zrH_set hH hwa ⟨cA, hty, by rw [← z_upd _ hlt, List.length_set]; rfl⟩, hP, hK, hDd, hS⟩ hl hc hs
        | _ + 1, hbx, ht0, hty, hex2 => cases hbx
      | bastore =>
        have hk := (Bool.and_eq_true_iff (x := zDec j pc (.bastore) 1) (y := zNx pc 1 r)).mp hok1
        obtain ⟨v, i, a, r', d, l0, rfl, hHa, hbx, hin, hex2⟩ := mzAs_i (b := true) (k := zEx f (zN j) (zB j) r) hex
        obtain ⟨_, _, rfl, rfl, _, _, rfl, rfl, _, _, rfl, ⟨a', ha, rfl⟩, hL⟩ := hL
        obtain ⟨hH, hP, hK, hDd, hS⟩ := id hI
        obtain ⟨_, hwa, cA, hty, rfl⟩ := zrH_get hH hHa ha
        obtain ⟨t0, ht0⟩ := z_tys hty
        have hlt : i.toNatClampNeg < l0.length := Nat.not_le.mp fun q => hin (Or.inr q)
        match d, hbx, ht0, hty, hex2 with
        | 0, hbx, ht0, hty, hex2 => cases hbx
        | 1, hbx, ht0, hty, hex2 =>
          refine va_zast hx hb hK hP hDd hS a t0 hwa ht0 hin (zDec_at hk.1) (fun H1 locs1 hP hDd hS => ?_)
          rw [← zNx_at hk.2]
          exact ih p e s m args below meth c j hj C ws0 hZt r hokr _ _ _ _ _ _ hex2 (ws.set a (a', .inl (cA, l0.length, .inl (upd (fun k => l0.getD k 0) i.toNatClampNeg (vp_nar .boolean v))))) tys _ _ H1 locs1 _ cells slots (by rw [zad_set hwa]; exact hM) (by rw [zad_set hwa]; exact hL) (by rw [zad_set hwa]; exact hp) ⟨zrH_set hH hwa ⟨cA, hty, by rw [← z_upd _ hlt, List.length_set]; rfl⟩, hP, hK, hDd, hS⟩ hl hc hs
        | _ + 2, hbx, ht0, hty, hex2 =>
          refine va_bast hx hb hK hP hDd hS a t0 hwa ht0 hin (zDec_at hk.1) (fun H1 locs1 hP hDd hS => ?_)
          rw [← zNx_at hk.2]
          exact ih p e s m args below meth c j hj C ws0 hZt r hokr _ _ _ _ _ _ hex2 (ws.set a (a', .inl (cA, l0.length, .inl (upd (fun k => l0.getD k 0) i.toNatClampNeg (vp_nar .byte v))))) tys _ _ H1 locs1 _ cells slots (by rw [zad_set hwa]; exact hM) (by rw [zad_set hwa]; exact hL) (by rw [zad_set hwa]; exact hp) ⟨zrH_set hH hwa ⟨cA, hty, by rw [← z_upd _ hlt, List.length_set]; rfl⟩, hP, hK, hDd, hS⟩ hl hc hs
      | arraylength =>
        have hk := (Bool.and_eq_true_iff (x := zDec j pc (.arraylength) 1) (y := zNx pc 1 r)).mp hok1
        obtain ⟨a, r', d, l0, rfl, hHa, hex2⟩ := mzLen_i (k := zEx f (zN j) (zB j) r) hex
        obtain ⟨_, _, rfl, ⟨a', ha, rfl⟩, hL⟩ := hL
        obtain ⟨hH, hP, hK, hDd, hS⟩ := id hI
        obtain ⟨_, hwa, cA, hty, rfl⟩ := zrH_get hH hHa ha
        obtain ⟨t0, ht0⟩ := z_tys hty
        refine va_alen hx hb hK hP a t0 hwa ht0 rfl (zDec_at hk.1) ?_
        rw [← zNx_at hk.2]
        exact ih p e s m args below meth c j hj C ws0 hZt r hokr _ _ _ _ _ _ hex2 ws tys _ _ H locs _ cells slots hM ⟨_, _, rfl, rfl, hL⟩ hp hI hl hc hs
      | newarray aty =>
        match ts, hok1, hex with
        | [t0], hok1, hex =>
          have hk := (Bool.and_eq_true_iff (x := zDec j pc (.newarray aty) 2) (y := zNx pc 2 r && zAt aty x)).mp hok1
          rw [Bool.and_eq_true] at hk
          obtain ⟨n, r', rfl, hn, h1, h2, h3, hex2⟩ := mzNewa_i (k := zEx f (zN j) (zB j) r) hex
          obtain ⟨_, _, rfl, rfl, hL⟩ := hL
          obtain ⟨hH, hP, hK, hDd, hS⟩ := id hI
          obtain ⟨hk1, hk2, hk3⟩ := hk
          have hk : zDec j pc (.newarray aty) 2 = true ∧ zNx pc 2 r = true ∧ True := ⟨hk1, hk2, trivial⟩
          unfold zAt at hk3
          split at hk3
          · refine va_newa (atype := .int) (ty := .int) (N' := n.toNatClampNeg) (a0 := (n.toNatClampNeg, .inl (fun _ => 0))) hx hb (zIn (Ts := []) hts zAI.1) rfl hK hP hDd hS zAge (fun _ => rfl) hn (rfl) (by show n.toNatClampNeg * _ ≤ _; simp only [componentBytes]; omega) (by show cells + 1 ≤ zmc j; omega) (by show slots + n.toNatClampNeg ≤ zms j; omega) (zDec_at hk.1) (fun q cA H1 hK hP hDd hS => ?_)
            rw [← zNx_at hk.2.1]
            exact ih p e s m args below meth c j hj C ws0 hZt r hokr _ _ _ _ _ _ hex2 _ (tys ++ [(cA, .int)]) _ _ H1 locs _ _ _ (zrM_mono (z_pp _ _ _) hM) ⟨_, _, rfl, ⟨q, zad_len hH _ _, rfl⟩, zrL_mono (z_pp _ _ _) hL⟩ (hp.trans (z_pp _ _ _)) ⟨zrH_push hH (fun q hq => List.mem_append_left _ hq) ⟨cA, List.mem_append_right _ List.mem_cons_self, z_repl _ _⟩, hP, hK, hDd, hS⟩ hl (by omega) (by omega)
          · refine va_newa (atype := .boolean) (ty := .boolean) (N' := n.toNatClampNeg) (a0 := (n.toNatClampNeg, .inl (fun _ => 0))) hx hb (zIn (Ts := []) hts zAI.2.1) rfl hK hP hDd hS zAge (fun _ => rfl) hn (rfl) (by show n.toNatClampNeg * _ ≤ _; simp only [componentBytes]; omega) (by show cells + 1 ≤ zmc j; omega) (by show slots + n.toNatClampNeg ≤ zms j; omega) (zDec_at hk.1) (fun q cA H1 hK hP hDd hS => ?_)
            rw [← zNx_at hk.2.1]
            exact ih p e s m args below meth c j hj C ws0 hZt r hokr _ _ _ _ _ _ hex2 _ (tys ++ [(cA, .boolean)]) _ _ H1 locs _ _ _ (zrM_mono (z_pp _ _ _) hM) ⟨_, _, rfl, ⟨q, zad_len hH _ _, rfl⟩, zrL_mono (z_pp _ _ _) hL⟩ (hp.trans (z_pp _ _ _)) ⟨zrH_push hH (fun q hq => List.mem_append_left _ hq) ⟨cA, List.mem_append_right _ List.mem_cons_self, z_repl _ _⟩, hP, hK, hDd, hS⟩ hl (by omega) (by omega)
          · refine va_newa (atype := .byte) (ty := .byte) (N' := n.toNatClampNeg) (a0 := (n.toNatClampNeg, .inl (fun _ => 0))) hx hb (zIn (Ts := []) hts zAI.2.2) rfl hK hP hDd hS zAge (fun _ => rfl) hn (rfl) (by show n.toNatClampNeg * _ ≤ _; simp only [componentBytes]; omega) (by show cells + 1 ≤ zmc j; omega) (by show slots + n.toNatClampNeg ≤ zms j; omega) (zDec_at hk.1) (fun q cA H1 hK hP hDd hS => ?_)
            rw [← zNx_at hk.2.1]
            exact ih p e s m args below meth c j hj C ws0 hZt r hokr _ _ _ _ _ _ hex2 _ (tys ++ [(cA, .byte)]) _ _ H1 locs _ _ _ (zrM_mono (z_pp _ _ _) hM) ⟨_, _, rfl, ⟨q, zad_len hH _ _, rfl⟩, zrL_mono (z_pp _ _ _) hL⟩ (hp.trans (z_pp _ _ _)) ⟨zrH_push hH (fun q hq => List.mem_append_left _ hq) ⟨cA, List.mem_append_right _ List.mem_cons_self, z_repl _ _⟩, hP, hK, hDd, hS⟩ hl (by omega) (by omega)
          · cases hk3
        | [], _, hex => exact absurd (show (none : mzR) = some res from hex) (by simp)
        | _ :: _ :: _, _, hex => exact absurd (show (none : mzR) = some res from hex) (by simp)
      | new k =>
        match ts, hok1, hex with
        | [t0], hok1, hex =>
          have hk := (Bool.and_eq_true_iff (x := zDec j pc (.new k) 3) (y := zNx pc 3 r && (decide ((zO j, k, x) ∈ zLw) && Nat.blt x 11))).mp hok1
          rw [Bool.and_eq_true, Bool.and_eq_true, decide_eq_true_eq] at hk
          obtain ⟨h1, h2, hex2⟩ := mzNew_i (k := zEx f (zN j) (zB j) r) hex
          obtain ⟨hH, hP, hK, hDd, hS⟩ := id hI
          obtain ⟨Cn, T, N, q1, q2⟩ := zLw_ok _ hk.2.2.1
          obtain ⟨Cn2, T2, N2, ty2, g1, g2, g3, g4, g5, g6, g7, g8, g9⟩ := zC_ok x (Nat.blt_eq.mp hk.2.2.2)
          cases g1.symm.trans q1
          refine va_new (ci := x) (fs := zD x) (C := Cn) (T := T) (N := N) hx hb hts (fun w hw => zws_own j w (g2 w hw)) ty2 g3 hown' (zIn (Ts := []) hts q2) (zIn (Ts := []) hts g5) (zIn (Ts := []) hts g6) hK hP hDd hS zAge q1 g9 (by show cells + 1 ≤ zmc j; omega) (by show slots + N ≤ zms j; omega) (zDec_at hk.1) (fun q H1 hP hDd hS => ?_)
          rw [← zNx_at hk.2.1]
          exact ih p e s m args below meth c j hj C ws0 hZt r hokr _ _ _ _ _ _ hex2 _ tys _ _ H1 locs _ _ _ (zrM_mono (z_pp _ _ _) hM) ⟨_, _, rfl, ⟨q, zad_len hH _ _, rfl⟩, zrL_mono (z_pp _ _ _) hL⟩ (hp.trans (z_pp _ _ _)) ⟨zrH_push hH (fun q hq => hq) ⟨_, rfl, z_dflt x (Nat.blt_eq.mp hk.2.2.2)⟩, hP, hK, hDd, hS⟩ hl (by omega) (by omega)
        | [], _, hex => exact absurd (show (none : mzR) = some res from hex) (by simp)
        | _ :: _ :: _, _, hex => exact absurd (show (none : mzR) = some res from hex) (by simp)
      | invokevirtual k =>
        match ts, hok1, hex with
        | [na, mc, ms], hok1, hex =>
          have hk := (Bool.and_eq_true_iff (x := zDec j pc (.invokevirtual k) 3) (y := zNx pc 3 r && ((decide ((zO j, k, x, 0) ∈ zLM) || decide ((zO j, k, x, 0) ∈ zLMn)) && (zCl j x na mc ms && (decide (x ∈ zKv) && (Nat.beq y (zO x) && Nat.blt y 11)))))).mp hok1
          rw [Bool.and_eq_true, Bool.and_eq_true, Bool.and_eq_true, Bool.or_eq_true, decide_eq_true_eq, decide_eq_true_eq] at hk
          obtain ⟨hd, hn, hlk, hcl, hkd⟩ := hk
          obtain ⟨hx1, hna, hmc, hms, hfr, hlo⟩ := zCl_at hcl
          obtain ⟨hg, hln, hwd, hmc', hms', hwa, o, H1m, hcall, hex2⟩ := mzInv_i (g := mzRcv na y) (nl := zN x) (ca := zEx f (zN x) (zB x) (mzBlk (zB x) 0)) (k := zEx f (zN j) (zB j) r) hex
          subst hna; subst hmc; subst hms
          have hlen' := zrL_len hL
          have hav : zrL (zad ws) (st.take (zna x)).reverse (st'.take (zna x)).reverse := zrL_rev (zrL_take _ hL)
          have hrs : zrL (zad ws) (st.drop (zna x)) (st'.drop (zna x)) := zrL_drop _ hL
          have hroom : ((st'.drop (zna x)).map fun v => v.category).sum ≤ 8 := by rw [zrL_cats hrs]; exact hwd
          obtain ⟨hH, hP, hK, hDd, hS⟩ := id hI
          obtain ⟨hpl, hnd, hcn, hnl, hcd, hin⟩ := zMf_ok x hx1
          have hMet := z_met_of (l := l) (D := D) hok ih hx1 (as := (st.take (zna x)).reverse) (Hm := Hm) (res := (o, H1m)) (by rw [z_wdr]; exact hwa) hcall ws tys H.size _ hav hH
          rw [Bool.and_eq_true, Bool.and_eq_true, decide_eq_true_eq] at hkd
          obtain ⟨hd1, hna0, him, hsel⟩ := zKv_ok x hkd.1
          have hy : y = zO x := Nat.eq_of_beq_eq_true hkd.2.1
          obtain ⟨a, fs, hsa, hHa⟩ := mzRcv_i hg
          obtain ⟨w, hw1, a', ha, rfl⟩ := zrL_at hL hsa
          obtain ⟨_, hwb, fs', rfl, hfs⟩ := zrH_get hH hHa ha
          obtain ⟨Cn, T, N, ty2, g1, -, -, -, -, -, g7, -⟩ := zC_ok y (Nat.blt_eq.mp hkd.2.2)
          obtain ⟨As, hAs, hst⟩ := z_split hw1 hna0 (by rw [hlen']; exact hln)
          have hCn : Cn = (zM x).1.cls := by rw [hcn, ← g7, hy]; rfl
          rw [hAs.1] at hMet
          rcases hlk with h9 | h9
          · refine z_calls hI (va_runV (As := As) (rest := st'.drop (zna x)) (b := a') (C := (zM x).1.cls) ⟨hx, hb, hml', hown', hts⟩ hMet ⟨callB_of (zna x - 1) hts (zws_in (zws_own j) hx1) rfl rfl rfl (zIn (Ts := []) hts hin) (zIn (Ts := []) hts (zLM_ok _ h9)) ⟨hnd.1, hnd.2, hd1⟩ ⟨hfr, hlo⟩, zIn (Ts := []) hts him, zIn (Ts := []) hts hsel⟩ ⟨zPre_blind, hCn ▸ va_recv hK hP g1 hwb, (fun U hU hW => ⟨rfl, by rw [hU], by rw [hU]; exact hP, va_K.moved hW.alike hK, hDd.weaken (fun _ _ _ _ => trivial), hN.warm hW, hZt.go hS (z_sub hDd hS zAge) hU hW⟩)⟩ rfl hAs.2 hl.1 hst (lv_room hroom) (zDec_at hd) ⟨by show cells + zmc x ≤ zmc j; omega, by show slots + zms x ≤ zms j; omega⟩) (fun v ws1 tys1 H1 locs1 hO hpre hI1 => ?_)
            rw [← zNx_at hn]
            exact ih p e s m args below meth c j hj C ws0 hZt r hokr _ _ _ _ _ _ hex2 ws1 tys1 _ _ H1 locs1 _ _ _ (zrM_mono hpre hM) (zrL_app (z_opt hO) (zrL_mono hpre hrs)) (hp.trans hpre) hI1 hl (by omega) (by omega)
          · obtain ⟨hst0, h4⟩ := zLMn_ok _ h9
            refine z_calls hI (va_runVN (As := As) (rest := st'.drop (zna x)) (b := a') (C := (zM x).1.cls) ⟨hx, hb, hml', hown', hts⟩ hMet ⟨va_cnB (zna x - 1) hts (zws_in (zws_own j) hx1) rfl rfl rfl (hN _ h4) (zIn (Ts := []) hts hin) ⟨hnd.1, hnd.2, hd1⟩ ⟨hfr, hlo⟩, zIn (Ts := []) hts him, zIn (Ts := []) hts hsel⟩ ⟨zPre_blind, hCn ▸ va_recv hK hP g1 hwb, (fun U hU hW => ⟨rfl, by rw [hU], by rw [hU]; exact hP, va_K.moved hW.alike hK, hDd.weaken (fun _ _ _ _ => trivial), hN.warm hW, hZt.go hS (z_sub hDd hS zAge) hU hW⟩)⟩ rfl hAs.2 hl.1 hst (lv_room hroom) (zDec_at hd) ⟨by show cells + zmc x ≤ zmc j; omega, by show slots + zms x ≤ zms j; omega⟩) (fun v ws1 tys1 H1 locs1 hO hpre hI1 => ?_)
            rw [← zNx_at hn]
            exact ih p e s m args below meth c j hj C ws0 hZt r hokr _ _ _ _ _ _ hex2 ws1 tys1 _ _ H1 locs1 _ _ _ (zrM_mono hpre hM) (zrL_app (z_opt hO) (zrL_mono hpre hrs)) (hp.trans hpre) hI1 hl (by omega) (by omega)
        | [_], _, hex => exact absurd (show (none : mzR) = some res from hex) (by simp)
        | [], _, hex => exact absurd (show (none : mzR) = some res from hex) (by simp)
        | [_, _], _, hex => exact absurd (show (none : mzR) = some res from hex) (by simp)
        | _ :: _ :: _ :: _ :: _, _, hex => exact absurd (show (none : mzR) = some res from hex) (by simp)
      | invokestatic k =>
        match ts, hok1, hex with
        | [na, mc, ms], hok1, hex =>
          have hk := (Bool.and_eq_true_iff (x := zDec j pc (.invokestatic k) 3) (y := zNx pc 3 r && ((decide ((zO j, k, x, 1) ∈ zLM) || decide ((zO j, k, x, 1) ∈ zLMn)) && (zCl j x na mc ms && decide (x ∈ zKs))))).mp hok1
          rw [Bool.and_eq_true, Bool.and_eq_true, Bool.and_eq_true, Bool.or_eq_true, decide_eq_true_eq, decide_eq_true_eq] at hk
          obtain ⟨hd, hn, hlk, hcl, hkd⟩ := hk
          obtain ⟨hx1, hna, hmc, hms, hfr, hlo⟩ := zCl_at hcl
          obtain ⟨hg, hln, hwd, hmc', hms', hwa, o, H1m, hcall, hex2⟩ := mzInv_i (g := fun _ _ => true) (nl := zN x) (ca := zEx f (zN x) (zB x) (mzBlk (zB x) 0)) (k := zEx f (zN j) (zB j) r) hex
          subst hna; subst hmc; subst hms
          have hlen' := zrL_len hL
          have hav : zrL (zad ws) (st.take (zna x)).reverse (st'.take (zna x)).reverse := zrL_rev (zrL_take _ hL)
          have hrs : zrL (zad ws) (st.drop (zna x)) (st'.drop (zna x)) := zrL_drop _ hL
          have hroom : ((st'.drop (zna x)).map fun v => v.category).sum ≤ 8 := by rw [zrL_cats hrs]; exact hwd
          obtain ⟨hH, hP, hK, hDd, hS⟩ := id hI
          obtain ⟨hpl, hnd, hcn, hnl, hcd, hin⟩ := zMf_ok x hx1
          have hMet := z_met_of (l := l) (D := D) hok ih hx1 (as := (st.take (zna x)).reverse) (Hm := Hm) (res := (o, H1m)) (by rw [z_wdr]; exact hwa) hcall ws tys H.size _ hav hH
          rw [decide_eq_true_eq] at hkd
          obtain ⟨hd1, hstt⟩ := zKs_ok x hkd
          have hst : st' = ((st'.take (zna x)).reverse).reverse ++ st'.drop (zna x) := by rw [List.reverse_reverse, List.take_append_drop]
          have hnA : ((st'.take (zna x)).reverse).length = zna x := by rw [List.length_reverse, List.length_take]; omega
          rcases hlk with h9 | h9
          · refine z_calls hI (va_runS (As := (st'.take (zna x)).reverse) (rest := st'.drop (zna x)) ⟨hx, hb, hml', hown', hts⟩ hMet ⟨callB_of (zna x) hts (zws_in (zws_own j) hx1) rfl rfl rfl (zIn (Ts := []) hts hin) (zIn (Ts := []) hts (zLM_ok _ h9)) ⟨hnd.1, hnd.2, hd1⟩ ⟨hfr, hlo⟩, zIn (Ts := []) hts hstt⟩ ⟨zPre_blind, (fun U hU hW => ⟨rfl, by rw [hU], by rw [hU]; exact hP, va_K.moved hW.alike hK, hDd.weaken (fun _ _ _ _ => trivial), hN.warm hW, hZt.go hS (z_sub hDd hS zAge) hU hW⟩)⟩ rfl hnA hl.1 hst (lv_room hroom) (zDec_at hd) ⟨by show cells + zmc x ≤ zmc j; omega, by show slots + zms x ≤ zms j; omega⟩) (fun v ws1 tys1 H1 locs1 hO hpre hI1 => ?_)
            rw [← zNx_at hn]
            exact ih p e s m args below meth c j hj C ws0 hZt r hokr _ _ _ _ _ _ hex2 ws1 tys1 _ _ H1 locs1 _ _ _ (zrM_mono hpre hM) (zrL_app (z_opt hO) (zrL_mono hpre hrs)) (hp.trans hpre) hI1 hl (by omega) (by omega)
          · obtain ⟨hst0, h4⟩ := zLMn_ok _ h9
            refine z_calls hI (va_runSN (As := (st'.take (zna x)).reverse) (rest := st'.drop (zna x)) ⟨hx, hb, hml', hown', hts⟩ hMet ⟨va_cnB (zna x) hts (zws_in (zws_own j) hx1) rfl rfl rfl (hN _ h4) (zIn (Ts := []) hts hin) ⟨hnd.1, hnd.2, hd1⟩ ⟨hfr, hlo⟩, zIn (Ts := []) hts hstt, trivial⟩ ⟨zPre_blind, (fun U hU hW => ⟨rfl, by rw [hU], by rw [hU]; exact hP, va_K.moved hW.alike hK, hDd.weaken (fun _ _ _ _ => trivial), hN.warm hW, hZt.go hS (z_sub hDd hS zAge) hU hW⟩)⟩ rfl hnA hl.1 hst (lv_room hroom) (zDec_at hd) ⟨by show cells + zmc x ≤ zmc j; omega, by show slots + zms x ≤ zms j; omega⟩) (fun v ws1 tys1 H1 locs1 hO hpre hI1 => ?_)
            rw [← zNx_at hn]
            exact ih p e s m args below meth c j hj C ws0 hZt r hokr _ _ _ _ _ _ hex2 ws1 tys1 _ _ H1 locs1 _ _ _ (zrM_mono hpre hM) (zrL_app (z_opt hO) (zrL_mono hpre hrs)) (hp.trans hpre) hI1 hl (by omega) (by omega)
        | [0], hok1, hex =>
          have hk := (Bool.and_eq_true_iff (x := zDec j pc (.invokestatic k) 3) (y := zNx pc 3 r && (decide ((zO j, k) ∈ zLa) && zRoom j 1 26))).mp hok1
          rw [Bool.and_eq_true, Bool.and_eq_true, decide_eq_true_eq] at hk
          obtain ⟨n, dp, a, sp, a0, r', fl, gl, rfl, hH0, hHa, h1, h2, h3, h4, h5, hwd, hex2⟩ := mzAcp_i (k := zEx f (zN j) (zB j) r) hex
          obtain ⟨_, _, rfl, rfl, _, _, rfl, rfl, _, _, rfl, ⟨a', ha, rfl⟩, _, _, rfl, rfl, _, _, rfl, ⟨a0', ha0, rfl⟩, hL⟩ := hL
          obtain ⟨hH, hP, hK, hDd, hS⟩ := id hI
          obtain ⟨_, hw0, cA0, hty0, rfl⟩ := zrH_get hH hH0 ha0
          obtain ⟨_, hw1, cA1, hty1, rfl⟩ := zrH_get hH hHa ha
          obtain ⟨t0, ht0⟩ := z_tys hty0
          obtain ⟨t1, ht1⟩ := z_tys hty1
          have hrm := zRoom_at hk.2.2.2
          refine va_copyi hx hb (by rw [hml', hl.1]) hown' (zIn (Ts := []) hts (zLa_ok _ hk.2.2.1)) (zIn (Ts := []) hts zAC.1) (zIn (Ts := []) hts zAC.2.1) (zIn (Ts := []) hts zAC.2.2) hK hP hDd hS a0 a t0 t1 hw0 hw1 ht0 ht1 rfl h1 h2 h3 h4 h5 (fun _ _ => rfl) hrm.1 (by rw [zrL_cats hL]; have := hrm.2; show _ + (nativeFrameWords _ _ 5 + 11) ≤ zlo j; have e7 : nativeFrameWords "java/lang/System" "arraycopy" 5 = 7 := (by decide +kernel); omega) (zDec_at hk.1) (fun H1 locs1 hP hDd hS => ?_)
          rw [← zNx_at hk.2.1]
          exact ih p e s m args below meth c j hj C ws0 hZt r hokr _ _ _ _ _ _ hex2 _ tys _ _ H1 locs1 _ cells slots (by rw [zad_set hw1]; exact hM) (by rw [zad_set hw1]; exact hL) (by rw [zad_set hw1]; exact hp) ⟨zrH_set hH hw1 ⟨cA1, hty1, by rw [← z_cpy h4 h5, ← z_cpyl h4 h5]⟩, hP, hK, hDd, hS⟩ hl hc hs
        | [1], hok1, hex =>
          have hk := (Bool.and_eq_true_iff (x := zDec j pc (.invokestatic k) 3) (y := zNx pc 3 r && (decide ((zO j, k) ∈ zLx) && zRoom j 1 21))).mp hok1
          rw [Bool.and_eq_true, Bool.and_eq_true, decide_eq_true_eq] at hk
          obtain ⟨a, b, r', rfl, hwd, hex2⟩ := mzMm_i (k := zEx f (zN j) (zB j) r) hex
          obtain ⟨_, _, rfl, rfl, _, _, rfl, rfl, hL⟩ := hL
          have hrm := zRoom_at hk.2.2.2
          refine va_mmax hx hb (by rw [hml', hl.1]) hown' (zIn (Ts := []) hts (zLx_ok _ hk.2.2.1)) (zIn (Ts := []) hts zMM.1.1) (zIn (Ts := []) hts zMM.2.2) (zIn (Ts := []) hts zMM.1.2) hrm.1 (by rw [zrL_cats hL]; have := hrm.2; show _ ≤ zlo j; omega) (by show cells ≤ zmc j; omega) (by show slots ≤ zms j; omega) (zDec_at hk.1) ?_
          rw [← zNx_at hk.2.1]
          exact ih p e s m args below meth c j hj C ws0 hZt r hokr _ _ _ _ _ _ hex2 ws tys _ _ H locs _ cells slots hM ⟨_, _, rfl, rfl, hL⟩ hp hI hl hc hs
        | [_ + 2], hok1, hex =>
          have hk := (Bool.and_eq_true_iff (x := zDec j pc (.invokestatic k) 3) (y := zNx pc 3 r && (decide ((zO j, k) ∈ zLn) && zRoom j 1 21))).mp hok1
          rw [Bool.and_eq_true, Bool.and_eq_true, decide_eq_true_eq] at hk
          obtain ⟨a, b, r', rfl, hwd, hex2⟩ := mzMm_i (k := zEx f (zN j) (zB j) r) hex
          obtain ⟨_, _, rfl, rfl, _, _, rfl, rfl, hL⟩ := hL
          have hrm := zRoom_at hk.2.2.2
          refine va_mmin hx hb (by rw [hml', hl.1]) hown' (zIn (Ts := []) hts (zLn_ok _ hk.2.2.1)) (zIn (Ts := []) hts zMM.2.1.1) (zIn (Ts := []) hts zMM.2.2) (zIn (Ts := []) hts zMM.2.1.2) hrm.1 (by rw [zrL_cats hL]; have := hrm.2; show _ ≤ zlo j; omega) (by show cells ≤ zmc j; omega) (by show slots ≤ zms j; omega) (zDec_at hk.1) ?_
          rw [← zNx_at hk.2.1]
          exact ih p e s m args below meth c j hj C ws0 hZt r hokr _ _ _ _ _ _ hex2 ws tys _ _ H locs _ cells slots hM ⟨_, _, rfl, rfl, hL⟩ hp hI hl hc hs
        | [], _, hex => exact absurd (show (none : mzR) = some res from hex) (by simp)
        | [_, _], _, hex => exact absurd (show (none : mzR) = some res from hex) (by simp)
        | _ :: _ :: _ :: _ :: _, _, hex => exact absurd (show (none : mzR) = some res from hex) (by simp)
      | invokespecial k =>
        match ts, hok1, hex with
        | [na, mc, ms], hok1, hex =>
          have hk := (Bool.and_eq_true_iff (x := zDec j pc (.invokespecial k) 3) (y := zNx pc 3 r && ((decide ((zO j, k, x, 2) ∈ zLM) || decide ((zO j, k, x, 2) ∈ zLMn)) && (zCl j x na mc ms && decide (x ∈ zKi))))).mp hok1
          rw [Bool.and_eq_true, Bool.and_eq_true, Bool.and_eq_true, Bool.or_eq_true, decide_eq_true_eq, decide_eq_true_eq] at hk
          obtain ⟨hd, hn, hlk, hcl, hkd⟩ := hk
          obtain ⟨hx1, hna, hmc, hms, hfr, hlo⟩ := zCl_at hcl
          obtain ⟨hg, hln, hwd, hmc', hms', hwa, o, H1m, hcall, hex2⟩ := mzInv_i (g := mzRcv na y) (nl := zN x) (ca := zEx f (zN x) (zB x) (mzBlk (zB x) 0)) (k := zEx f (zN j) (zB j) r) hex
          subst hna; subst hmc; subst hms
          have hlen' := zrL_len hL
          have hav : zrL (zad ws) (st.take (zna x)).reverse (st'.take (zna x)).reverse := zrL_rev (zrL_take _ hL)
          have hrs : zrL (zad ws) (st.drop (zna x)) (st'.drop (zna x)) := zrL_drop _ hL
          have hroom : ((st'.drop (zna x)).map fun v => v.category).sum ≤ 8 := by rw [zrL_cats hrs]; exact hwd
          obtain ⟨hH, hP, hK, hDd, hS⟩ := id hI
          obtain ⟨hpl, hnd, hcn, hnl, hcd, hin⟩ := zMf_ok x hx1
          have hMet := z_met_of (l := l) (D := D) hok ih hx1 (as := (st.take (zna x)).reverse) (Hm := Hm) (res := (o, H1m)) (by rw [z_wdr]; exact hwa) hcall ws tys H.size _ hav hH
          rw [decide_eq_true_eq] at hkd
          obtain ⟨hd1, hna0, him, hnm1, hrt⟩ := zKi_ok x hkd
          obtain ⟨a, fs, hsa, hHa⟩ := mzRcv_i hg
          obtain ⟨w, hw1, a', ha, rfl⟩ := zrL_at hL hsa
          obtain ⟨As, hAs, hst⟩ := z_split hw1 hna0 (by rw [hlen']; exact hln)
          rw [hAs.1] at hMet
          have hwx : zws x = Cond.code (zM x).1 (zM x).2.1 (zM x).2.2.1 none :: zBG := by unfold zws; rw [hrt]
          rcases hlk with h9 | h9
          · refine z_calls hI (va_runI (As := As) (rest := st'.drop (zna x)) (b := a') (bytes := (zM x).2.1) (maxL := (zM x).2.2.1) ⟨hx, hb, hml', hown', hts⟩ hMet ⟨callB_of (zna x - 1) hts (zws_in (zws_own j) hx1) hwx rfl rfl (zIn (Ts := []) hts hin) (zIn (Ts := []) hts (zLM_ok _ h9)) ⟨hnd.1, hnd.2, hd1⟩ ⟨hfr, hlo⟩, hnm1, zIn (Ts := []) hts him⟩ ⟨zPre_blind, (fun U hU hW => ⟨rfl, by rw [hU], by rw [hU]; exact hP, va_K.moved hW.alike hK, hDd.weaken (fun _ _ _ _ => trivial), hN.warm hW, hZt.go hS (z_sub hDd hS zAge) hU hW⟩)⟩ rfl hAs.2 hl.1 hst (lv_room hroom) (zDec_at hd) ⟨by show cells + zmc x ≤ zmc j; omega, by show slots + zms x ≤ zms j; omega⟩) (fun v ws1 tys1 H1 locs1 hO hpre hI1 => ?_)
            rw [← zNx_at hn]
            exact ih p e s m args below meth c j hj C ws0 hZt r hokr _ _ _ _ _ _ hex2 ws1 tys1 _ _ H1 locs1 _ _ _ (zrM_mono hpre hM) (zrL_app (z_opt hO) (zrL_mono hpre hrs)) (hp.trans hpre) hI1 hl (by omega) (by omega)
          · obtain ⟨hst0, h4⟩ := zLMn_ok _ h9
            refine z_calls hI (va_runIN (As := As) (rest := st'.drop (zna x)) (b := a') (bytes := (zM x).2.1) (maxL := (zM x).2.2.1) ⟨hx, hb, hml', hown', hts⟩ hMet ⟨va_cnB (zna x - 1) hts (zws_in (zws_own j) hx1) hwx rfl rfl (hN _ h4) (zIn (Ts := []) hts hin) ⟨hnd.1, hnd.2, hd1⟩ ⟨hfr, hlo⟩, hnm1, zIn (Ts := []) hts him⟩ ⟨zPre_blind, (fun U hU hW => ⟨rfl, by rw [hU], by rw [hU]; exact hP, va_K.moved hW.alike hK, hDd.weaken (fun _ _ _ _ => trivial), hN.warm hW, hZt.go hS (z_sub hDd hS zAge) hU hW⟩)⟩ rfl hAs.2 hl.1 hst (lv_room hroom) (zDec_at hd) ⟨by show cells + zmc x ≤ zmc j; omega, by show slots + zms x ≤ zms j; omega⟩) (fun v ws1 tys1 H1 locs1 hO hpre hI1 => ?_)
            rw [← zNx_at hn]
            exact ih p e s m args below meth c j hj C ws0 hZt r hokr _ _ _ _ _ _ hex2 ws1 tys1 _ _ H1 locs1 _ _ _ (zrM_mono hpre hM) (zrL_app (z_opt hO) (zrL_mono hpre hrs)) (hp.trans hpre) hI1 hl (by omega) (by omega)
        | [_], hok1, hex =>
          have hk := (Bool.and_eq_true_iff (x := zDec j pc (.invokespecial k) 3) (y := zNx pc 3 r && (decide ((zO j, k) ∈ zLo) && zRoom j 1 20))).mp hok1
          rw [Bool.and_eq_true, Bool.and_eq_true, decide_eq_true_eq] at hk
          obtain ⟨a, r', rfl, hwd, hex2⟩ := mzObi_i (k := zEx f (zN j) (zB j) r) hex
          obtain ⟨_, _, rfl, ⟨a', ha, rfl⟩, hL⟩ := hL
          have hrm := zRoom_at hk.2.2.2
          refine W.objInit hx hb hown' (zIn (Ts := []) hts (zLo_ok _ hk.2.2.1)) (zIn (Ts := []) hts zOB.1) (zIn (Ts := []) hts zOB.2) rfl (by rw [hml']; exact hl.1) rfl (zDec_at hk.1) hrm.1 (by rw [zrL_cats hL]; have := hrm.2; show 2 * 0 + _ + 12 ≤ zlo j; omega) ?_
          refine W.eq (g2 := F0 m (pc + 3) ls _) rfl ?_
          rw [← zNx_at hk.2.1]
          exact ih p e s m args below meth c j hj C ws0 hZt r hokr _ _ _ _ _ _ hex2 ws tys _ _ H locs _ cells slots hM hL hp hI hl hc hs
        | [], _, hex => exact absurd (show (none : mzR) = some res from hex) (by simp)
        | [_, _], _, hex => exact absurd (show (none : mzR) = some res from hex) (by simp)
        | _ :: _ :: _ :: _ :: _, _, hex => exact absurd (show (none : mzR) = some res from hex) (by simp)
      | ireturn =>
        have hk := (Bool.and_eq_true_iff (x := zDec j pc .ireturn 1) (y := zRi (zM j).2.2.2.1 x)).mp hok1
        obtain ⟨v, rfl, rfl, hv⟩ := mzIret_i (lv := lv) (c := bc) (s := bs) hex
        obtain ⟨_, _, rfl, rfl, hL⟩ := hL
        have hL : _ = [] := hL
        subst hL
        obtain ⟨hH, hP, hK, hDd, hS⟩ := id hI
        refine W.widen (k := zmc j) (n := zms j) (by omega) (by omega) ?_
        obtain ⟨hk1, hk2⟩ := hk
        unfold zRi at hk2
        split at hk2
        · skip
          exact W.iret (v := v) hx hb (hr.trans (by assumption)) (fun t ht hW => ⟨⟨some (.int v), ws, tys, rfl, ⟨_, rfl, rfl⟩, hH, hp, by rw [ht]; exact hP, va_K.moved hW.alike hK, hDd⟩, hS.F ht⟩) hS.2.2 (zDec_at hk1)
        · skip
          exact W.zret (v := v) (ty := .boolean) hx hb (hr.trans (by assumption)) (by rcases hv with h | h | h <;> first | (cases h; done) | (subst h; decide)) (fun t ht hW => ⟨⟨some (.int v), ws, tys, rfl, ⟨_, rfl, rfl⟩, hH, hp, by rw [ht]; exact hP, va_K.moved hW.alike hK, hDd⟩, hS.F ht⟩) hS.2.2 (zDec_at hk1)
        · cases hk2
      | lreturn =>
        have hk := (Bool.and_eq_true_iff (x := zDec j pc .lreturn 1) (y := zRl (zM j).2.2.2.1)).mp hok1
        obtain ⟨v, rfl, rfl⟩ := mzLret_i (lv := lv) (c := bc) (s := bs) hex
        obtain ⟨_, _, rfl, rfl, hL⟩ := hL
        have hL : _ = [] := hL
        subst hL
        obtain ⟨hH, hP, hK, hDd, hS⟩ := id hI
        refine W.widen (k := zmc j) (n := zms j) (by omega) (by omega) ?_
        obtain ⟨hk1, hk2⟩ := hk
        unfold zRl at hk2
        split at hk2
        · rename_i e9
          exact W.lret (v := v) hx hb (hr.trans (by assumption)) (fun t ht hW => ⟨⟨some (.long v), ws, tys, rfl, ⟨_, rfl, rfl⟩, hH, hp, by rw [ht]; exact hP, va_K.moved hW.alike hK, hDd⟩, hS.F ht⟩) hS.2.2 (zDec_at hk1)
        · cases hk2
      | areturn =>
        have hk := (Bool.and_eq_true_iff (x := zDec j pc .areturn 1) (y := zRa (zM j).2.2.2.1)).mp hok1
        obtain ⟨v, rfl, rfl⟩ := mzAret_i (lv := lv) (c := bc) (s := bs) hex
        obtain ⟨_, _, rfl, ⟨a', ha, rfl⟩, hL⟩ := hL
        have hL : _ = [] := hL
        subst hL
        obtain ⟨hH, hP, hK, hDd, hS⟩ := id hI
        refine W.widen (k := zmc j) (n := zms j) (by omega) (by omega) ?_
        obtain ⟨hk1, hk2⟩ := hk
        unfold zRa at hk2
        split at hk2
        · rename_i nn e9
          exact W.aret (v := .ref a') hx hb (hr.trans (by assumption)) (Or.inl ⟨_, rfl⟩) (Or.inr ⟨_, rfl⟩) (fun t ht hW => ⟨⟨some (.ref a'), ws, tys, rfl, ⟨_, rfl, a', ha, rfl⟩, hH, hp, by rw [ht]; exact hP, va_K.moved hW.alike hK, hDd⟩, hS.F ht⟩) hS.2.2 (zDec_at hk1)
        · cases hk2
      | return_ =>
        have hk := (Bool.and_eq_true_iff (x := zDec j pc .return_ 1) (y := zRv (zM j).2.2.2.1)).mp hok1
        obtain ⟨rfl, rfl⟩ := mzVret_i (lv := lv) (c := bc) (s := bs) hex
        have hL : _ = [] := hL
        subst hL
        obtain ⟨hH, hP, hK, hDd, hS⟩ := id hI
        refine W.widen (k := zmc j) (n := zms j) (by omega) (by omega) ?_
        obtain ⟨hk1, hk2⟩ := hk
        unfold zRv at hk2
        split at hk2
        · rename_i e9
          exact W.vret hx hb (hr.trans (by assumption)) (fun t ht hW => ⟨⟨none, ws, tys, rfl, rfl, hH, hp, by rw [ht]; exact hP, va_K.moved hW.alike hK, hDd⟩, hS.F ht⟩) hS.2.2 (zDec_at hk1)
        · cases hk2
      | _ => exact absurd (show (none : mzR) = some res from hex) (by simp)
