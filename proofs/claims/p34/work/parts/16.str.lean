/-! STRING CONSTANTS: String.length and String.charAt of the two texts of words, over the machine (by program, wip/str.py) -/
theorem s_gd {w : Cond} (h : zgd w = true) : (w.onTables && w.keeps) = true ∨ ∃ ty, w = .arrayClass ty := by
  unfold zgd at h
  rcases (Bool.or_eq_true _ _).mp h with h | h
  · exact Or.inl h
  · split at h
    · exact Or.inr ⟨_, rfl⟩
    · cases h
def sJw (y : MethodName) (cc : ByteArray) (n : Nat) (rt : Option FieldType) : List Cond := .code y cc n rt :: zBG
theorem sJw_in {Ts : List Cond} (h : ∀ w ∈ zBG, w ∈ Ts) {y : MethodName} {cc : ByteArray} {n : Nat} {rt : Option FieldType} (hc : Cond.code y cc n rt ∈ zBG) : GoodIn Ts (sJw y cc n rt) := by
  intro w hw
  rcases List.mem_cons.mp hw with e | e
  · subst e
    exact ⟨h _ hc, s_gd (List.mem_filter.mp hc).2⟩
  · exact ⟨h _ e, s_gd (List.mem_filter.mp e).2⟩
theorem sJw_own {y : MethodName} {cc : ByteArray} {n : Nat} {rt : Option FieldType} : ∀ w ∈ zBG, w ∈ sJw y cc n rt := fun _ h => List.mem_cons_of_mem _ h
def sRm (f lo : Nat) : Room := { frames := f, cells := 0, slots := 0, locals := lo }
def sNo : Nat → Prop := fun _ => False
/-- a text: its cell a, its bytes' cell t; what the JDK's statics hold -/
def sS (a t n : Nat) (f : Nat → Int32) (A : Nat → Prop) (U : State) (H : Heap) : Prop := va_O "java/lang/String" a A U H ∧ va_OF "java/lang/String" "coder" "B" (.int 0) a A U H ∧ va_OF "java/lang/String" "value" "[B" (.ref t) a A U H ∧ va_T .byte t n (fun j => .int (f j)) A U H ∧ va_Z "java/lang/String" "COMPACT_STRINGS" "Z" (.int 1) A U H ∧ va_Zq "jdk/internal/util/Preconditions" "SIOOBE_FORMATTER" "Ljava/util/function/BiFunction;" A U H
theorem sS.moved {a t n : Nat} {f : Nat → Int32} {A : Nat → Prop} {u U : State} {H : Heap} (hvm : u.vm.Alike U.vm) (h : sS a t n f A u H) : sS a t n f A U H :=
  ⟨h.1.moved hvm, h.2.1.moved hvm, h.2.2.1.moved hvm, h.2.2.2.1.moved hvm, h.2.2.2.2.1.moved hvm, h.2.2.2.2.2.moved hvm⟩
theorem sS.kept {a t n : Nat} {f : Nat → Int32} {A : Nat → Prop} {U : State} {H H1 : Heap} (h : sS a t n f A U H) (hq : ∀ a : Nat, a < H.size → ¬ A a → H1[a]? = H[a]?) : sS a t n f A U H1 :=
  ⟨h.1.kept hq, h.2.1.kept hq, h.2.2.1.kept hq, h.2.2.2.1.kept hq, h.2.2.2.2.1.kept hq, h.2.2.2.2.2.kept hq⟩
theorem sS.narrow {a t n : Nat} {f : Nat → Int32} {A B : Nat → Prop} {U : State} {H : Heap} (h : sS a t n f A U H) (hAB : ∀ q, B q → A q) : sS a t n f B U H :=
  ⟨h.1.narrow hAB, h.2.1.narrow hAB, h.2.2.1.narrow hAB, h.2.2.2.1.narrow hAB, h.2.2.2.2.1.narrow hAB, h.2.2.2.2.2.narrow hAB⟩
theorem sS.no {a t n : Nat} {f : Nat → Int32} {A : Nat → Prop} {U : State} {H : Heap} (h : sS a t n f A U H) : sS a t n f sNo U H := h.narrow (fun _ z => z.elim)
theorem sS.at {a t n : Nat} {f : Nat → Int32} {A : Nat → Prop} {s U : State} {H : Heap} {locs : List Loc} (h : sS a t n f A s s.heap) (hZ : va_S A s.heap H locs) (hU : U.heap = H) (hW : s.WarmedH U.vm) : sS a t n f sNo U U.heap := by
  rw [hU]
  exact ((h.kept hZ.2.1).moved hW.alike).no
def sPc (av : List Value) (a t n : Nat) (f : Nat → Int32) : Array Value → State → Prop := va_Pc av (fun U => sS a t n f sNo U U.heap)
theorem sPc_blind {av : List Value} {a t n : Nat} {f : Nat → Int32} : FrameBlind (sPc av a t n f) := by
  intro x U g mk q
  exact ⟨q.1, q.2.moved (u := U) (U := U.calling g mk x) (Vm.Alike.refl U.vm)⟩
def sQi (v : Int32) : Array Value → State → Outcome → State → Prop := va_Qi (fun r (_ : Unit) => r = v) (fun _ _ => True) sNo
def sQv : Array Value → State → Outcome → State → Prop := va_Qv (fun (_ : Unit) => True) (fun _ _ => True) sNo
theorem sk_coder : Cond.code yJ0_coder_7d493 cJ0_coder_7d493 1 (some .byte) ∈ zBG ∧ Cond.initialized yJ0_coder_7d493.cls ∈ zBG := ⟨zT_2 202 (by decide +kernel) rfl, zT_1 14 (by decide +kernel) rfl⟩
abbrev sw_coder : List Cond := sJw yJ0_coder_7d493 cJ0_coder_7d493 1 (some .byte)
theorem sk_len : Cond.code yJ0_length_8abf5 cJ0_length_8abf5 1 (some .int) ∈ zBG ∧ Cond.initialized yJ0_length_8abf5.cls ∈ zBG := ⟨zT_2 198 (by decide +kernel) rfl, zT_1 14 (by decide +kernel) rfl⟩
abbrev sw_len : List Cond := sJw yJ0_length_8abf5 cJ0_length_8abf5 1 (some .int)
theorem sk_lat : Cond.code yJ0_isLatin1_aae02 cJ0_isLatin1_aae02 1 (some .boolean) ∈ zBG ∧ Cond.initialized yJ0_isLatin1_aae02.cls ∈ zBG := ⟨zT_2 212 (by decide +kernel) rfl, zT_1 14 (by decide +kernel) rfl⟩
abbrev sw_lat : List Cond := sJw yJ0_isLatin1_aae02 cJ0_isLatin1_aae02 1 (some .boolean)
theorem sk_pchk : Cond.code yJ3_checkIndex_8e157 cJ3_checkIndex_8e157 3 (some .int) ∈ zBG ∧ Cond.initialized yJ3_checkIndex_8e157.cls ∈ zBG := ⟨zT_2 223 (by decide +kernel) rfl, zT_1 16 (by decide +kernel) rfl⟩
abbrev sw_pchk : List Cond := sJw yJ3_checkIndex_8e157 cJ3_checkIndex_8e157 3 (some .int)
theorem sk_chk : Cond.code yJ0_checkIndex_df160 cJ0_checkIndex_df160 2 none ∈ zBG ∧ Cond.initialized yJ0_checkIndex_df160.cls ∈ zBG := ⟨zT_2 218 (by decide +kernel) rfl, zT_1 14 (by decide +kernel) rfl⟩
abbrev sw_chk : List Cond := sJw yJ0_checkIndex_df160 cJ0_checkIndex_df160 2 none
theorem sk_l1 : Cond.code yJ1_charAt_3b067 cJ1_charAt_3b067 2 (some .char) ∈ zBG ∧ Cond.initialized yJ1_charAt_3b067.cls ∈ zBG := ⟨zT_2 215 (by decide +kernel) rfl, zT_1 15 (by decide +kernel) rfl⟩
abbrev sw_l1 : List Cond := sJw yJ1_charAt_3b067 cJ1_charAt_3b067 2 (some .char)
theorem sk_chr : Cond.code yJ0_charAt_5068e cJ0_charAt_5068e 2 (some .char) ∈ zBG ∧ Cond.initialized yJ0_charAt_5068e.cls ∈ zBG := ⟨zT_2 208 (by decide +kernel) rfl, zT_1 14 (by decide +kernel) rfl⟩
abbrev sw_chr : List Cond := sJw yJ0_charAt_5068e cJ0_charAt_5068e 2 (some .char)
theorem si_coder : Cond.instanceMethod yJ0_coder_7d493 ∈ zBG ∧ Cond.selects "java/lang/String" yJ0_coder_7d493 yJ0_coder_7d493 ∈ zBG := ⟨zT_2 200 (by decide +kernel) rfl, zT_2 201 (by decide +kernel) rfl⟩
theorem si_lat : Cond.instanceMethod yJ0_isLatin1_aae02 ∈ zBG ∧ Cond.selects "java/lang/String" yJ0_isLatin1_aae02 yJ0_isLatin1_aae02 ∈ zBG := ⟨zT_2 210 (by decide +kernel) rfl, zT_2 211 (by decide +kernel) rfl⟩
theorem si_len : Cond.instanceMethod yJ0_length_8abf5 ∈ zBG ∧ Cond.selects "java/lang/String" yJ0_length_8abf5 yJ0_length_8abf5 ∈ zBG := ⟨zT_2 196 (by decide +kernel) rfl, zT_2 197 (by decide +kernel) rfl⟩
theorem si_chr : Cond.instanceMethod yJ0_charAt_5068e ∈ zBG ∧ Cond.selects "java/lang/String" yJ0_charAt_5068e yJ0_charAt_5068e ∈ zBG := ⟨zT_2 206 (by decide +kernel) rfl, zT_2 207 (by decide +kernel) rfl⟩
theorem st_pchk : Cond.static yJ3_checkIndex_8e157 ∈ zBG := zT_2 222 (by decide +kernel) rfl
theorem st_chk : Cond.static yJ0_checkIndex_df160 ∈ zBG := zT_2 217 (by decide +kernel) rfl
theorem st_l1 : Cond.static yJ1_charAt_3b067 ∈ zBG := zT_2 214 (by decide +kernel) rfl
theorem sl_len_coder : Cond.methodLink "java/lang/String" 335 yJ0_coder_7d493 ∈ zBG := zT_2 199 (by decide +kernel) rfl
theorem sl_chr_lat : Cond.methodLink "java/lang/String" 492 yJ0_isLatin1_aae02 ∈ zBG := zT_2 209 (by decide +kernel) rfl
theorem sl_chr_l1 : Cond.methodLink "java/lang/String" 495 yJ1_charAt_3b067 ∈ zBG := zT_2 213 (by decide +kernel) rfl
theorem sl_l1_chk : Cond.methodLink "java/lang/StringLatin1" 9 yJ0_checkIndex_df160 ∈ zBG := zT_2 216 (by decide +kernel) rfl
theorem sl_chk_pchk : Cond.methodLink "java/lang/String" 1059 yJ3_checkIndex_8e157 ∈ zBG := zT_2 221 (by decide +kernel) rfl
theorem sf_cs : Cond.fieldLink "java/lang/String" 38 "java/lang/String" "COMPACT_STRINGS" "Z" ∈ zBG := zT_2 203 (by decide +kernel) rfl
theorem sf_cd : Cond.fieldLink "java/lang/String" 15 "java/lang/String" "coder" "B" ∈ zBG := zT_8 12 (by decide +kernel) rfl
theorem sf_vl : Cond.fieldLink "java/lang/String" 9 "java/lang/String" "value" "[B" ∈ zBG := zT_8 11 (by decide +kernel) rfl
theorem sf_fm : Cond.fieldLink "java/lang/String" 1053 "jdk/internal/util/Preconditions" "SIOOBE_FORMATTER" "Ljava/util/function/BiFunction;" ∈ zBG := zT_2 219 (by decide +kernel) rfl
theorem sd_coder_0 : decode cJ0_coder_7d493 0 = .ok (.getstatic 38, 3) := by decide +kernel
theorem sd_coder_3 : decode cJ0_coder_7d493 3 = .ok (.ifCond .eq 10, 3) := by decide +kernel
theorem sd_coder_6 : decode cJ0_coder_7d493 6 = .ok (.aload_n 0, 1) := by decide +kernel
theorem sd_coder_7 : decode cJ0_coder_7d493 7 = .ok (.getfield 15, 3) := by decide +kernel
theorem sd_coder_10 : decode cJ0_coder_7d493 10 = .ok (.goto 4, 3) := by decide +kernel
theorem sd_coder_14 : decode cJ0_coder_7d493 14 = .ok (.ireturn, 1) := by decide +kernel
theorem sd_lat_0 : decode cJ0_isLatin1_aae02 0 = .ok (.getstatic 38, 3) := by decide +kernel
theorem sd_lat_3 : decode cJ0_isLatin1_aae02 3 = .ok (.ifCond .eq 14, 3) := by decide +kernel
theorem sd_lat_6 : decode cJ0_isLatin1_aae02 6 = .ok (.aload_n 0, 1) := by decide +kernel
theorem sd_lat_7 : decode cJ0_isLatin1_aae02 7 = .ok (.getfield 15, 3) := by decide +kernel
theorem sd_lat_10 : decode cJ0_isLatin1_aae02 10 = .ok (.ifCond .ne 7, 3) := by decide +kernel
theorem sd_lat_13 : decode cJ0_isLatin1_aae02 13 = .ok (.iconst 1, 1) := by decide +kernel
theorem sd_lat_14 : decode cJ0_isLatin1_aae02 14 = .ok (.goto 4, 3) := by decide +kernel
theorem sd_lat_18 : decode cJ0_isLatin1_aae02 18 = .ok (.ireturn, 1) := by decide +kernel
theorem sd_pchk_0 : decode cJ3_checkIndex_8e157 0 = .ok (.iload_n 0, 1) := by decide +kernel
theorem sd_pchk_1 : decode cJ3_checkIndex_8e157 1 = .ok (.ifCond .lt 8, 3) := by decide +kernel
theorem sd_pchk_4 : decode cJ3_checkIndex_8e157 4 = .ok (.iload_n 0, 1) := by decide +kernel
theorem sd_pchk_5 : decode cJ3_checkIndex_8e157 5 = .ok (.iload_n 1, 1) := by decide +kernel
theorem sd_pchk_6 : decode cJ3_checkIndex_8e157 6 = .ok (.if_icmp .lt 10, 3) := by decide +kernel
theorem sd_pchk_16 : decode cJ3_checkIndex_8e157 16 = .ok (.iload_n 0, 1) := by decide +kernel
theorem sd_pchk_17 : decode cJ3_checkIndex_8e157 17 = .ok (.ireturn, 1) := by decide +kernel
theorem sd_len_0 : decode cJ0_length_8abf5 0 = .ok (.aload_n 0, 1) := by decide +kernel
theorem sd_len_1 : decode cJ0_length_8abf5 1 = .ok (.getfield 9, 3) := by decide +kernel
theorem sd_len_4 : decode cJ0_length_8abf5 4 = .ok (.arraylength, 1) := by decide +kernel
theorem sd_len_5 : decode cJ0_length_8abf5 5 = .ok (.aload_n 0, 1) := by decide +kernel
theorem sd_len_6 : decode cJ0_length_8abf5 6 = .ok (.invokevirtual 335, 3) := by decide +kernel
theorem sd_len_9 : decode cJ0_length_8abf5 9 = .ok (.ishr, 1) := by decide +kernel
theorem sd_len_10 : decode cJ0_length_8abf5 10 = .ok (.ireturn, 1) := by decide +kernel
theorem sd_chk_0 : decode cJ0_checkIndex_df160 0 = .ok (.iload_n 0, 1) := by decide +kernel
theorem sd_chk_1 : decode cJ0_checkIndex_df160 1 = .ok (.iload_n 1, 1) := by decide +kernel
theorem sd_chk_2 : decode cJ0_checkIndex_df160 2 = .ok (.getstatic 1053, 3) := by decide +kernel
theorem sd_chk_5 : decode cJ0_checkIndex_df160 5 = .ok (.invokestatic 1059, 3) := by decide +kernel
theorem sd_chk_8 : decode cJ0_checkIndex_df160 8 = .ok (.pop, 1) := by decide +kernel
theorem sd_chk_9 : decode cJ0_checkIndex_df160 9 = .ok (.return_, 1) := by decide +kernel
theorem sd_l1_0 : decode cJ1_charAt_3b067 0 = .ok (.iload_n 1, 1) := by decide +kernel
theorem sd_l1_1 : decode cJ1_charAt_3b067 1 = .ok (.aload_n 0, 1) := by decide +kernel
theorem sd_l1_2 : decode cJ1_charAt_3b067 2 = .ok (.arraylength, 1) := by decide +kernel
theorem sd_l1_3 : decode cJ1_charAt_3b067 3 = .ok (.invokestatic 9, 3) := by decide +kernel
theorem sd_l1_6 : decode cJ1_charAt_3b067 6 = .ok (.aload_n 0, 1) := by decide +kernel
theorem sd_l1_7 : decode cJ1_charAt_3b067 7 = .ok (.iload_n 1, 1) := by decide +kernel
theorem sd_l1_8 : decode cJ1_charAt_3b067 8 = .ok (.baload, 1) := by decide +kernel
theorem sd_l1_9 : decode cJ1_charAt_3b067 9 = .ok (.sipush 255, 3) := by decide +kernel
theorem sd_l1_12 : decode cJ1_charAt_3b067 12 = .ok (.iand, 1) := by decide +kernel
theorem sd_l1_13 : decode cJ1_charAt_3b067 13 = .ok (.i2c, 1) := by decide +kernel
theorem sd_l1_14 : decode cJ1_charAt_3b067 14 = .ok (.ireturn, 1) := by decide +kernel
theorem sd_chr_0 : decode cJ0_charAt_5068e 0 = .ok (.aload_n 0, 1) := by decide +kernel
theorem sd_chr_1 : decode cJ0_charAt_5068e 1 = .ok (.invokevirtual 492, 3) := by decide +kernel
theorem sd_chr_4 : decode cJ0_charAt_5068e 4 = .ok (.ifCond .eq 12, 3) := by decide +kernel
theorem sd_chr_7 : decode cJ0_charAt_5068e 7 = .ok (.aload_n 0, 1) := by decide +kernel
theorem sd_chr_8 : decode cJ0_charAt_5068e 8 = .ok (.getfield 9, 3) := by decide +kernel
theorem sd_chr_11 : decode cJ0_charAt_5068e 11 = .ok (.iload_n 1, 1) := by decide +kernel
theorem sd_chr_12 : decode cJ0_charAt_5068e 12 = .ok (.invokestatic 495, 3) := by decide +kernel
theorem sd_chr_15 : decode cJ0_charAt_5068e 15 = .ok (.ireturn, 1) := by decide +kernel
theorem c_coder (l : Launch) (a t n : Nat) (f : Nat → Int32) : Met l yJ0_coder_7d493 sw_coder (sRm 0 0) (sPc [.ref a] a t n f) (sQi 0) 0 0 sNo := by
  refine Met.ofW (cc := cJ0_coder_7d493) (maxL := 1) (ret := (some .byte)) (by decide +kernel) rfl ?_
  intro p e s m args below meth c s₁ B hml hv
  obtain ⟨rfl, hS⟩ := hv
  have hx := B.exec
  have hb := B.bytes
  have hr := B.returns
  have hlk := B.notSynchronized
  have hts : ∀ w ∈ sw_coder, w.before ([.ref a] : List Value).toArray s = true := atoms_spec (ws := sw_coder) B.pre
  have hown : s.vm.findClass "java/lang/String" = some m.cls := findClass_of_methodNamed B.named
  have hl := lv_entry ([.ref a] : List Value) (n := 1) (Nat.le_of_ble_eq_true rfl)
  rw [lg_entry_eq]
  refine va_gets hx hb hS.2.2.2.2.1 va_S.rf hown (hts _ (sJw_own _ sf_cs)) (fun _ h => h) sd_coder_0 ?_
  refine lv_if_eq hx hb (tgt := 13) sd_coder_3 (by decide) (fun h => absurd h (by decide)) (fun _ => ?_)
  refine lv_aload_n hx hb sd_coder_6 rfl (lv_at hl 0 rfl) ?_
  refine vk_getf hx hb hS.2.1 va_S.rf hown (hts _ (sJw_own _ sf_cd)) (fun _ h => h) sd_coder_7 ?_
  refine lv_goto hx hb (tgt := 14) sd_coder_10 (by decide) ?_
  exact W.zret hx hb hr rfl (fun t ht _ => ⟨⟨0, (), rfl, rfl, trivial⟩, va_S.rf.F ht⟩) (fun _ h => absurd h List.not_mem_nil) sd_coder_14 hlk
theorem c_lat (l : Launch) (a t n : Nat) (f : Nat → Int32) : Met l yJ0_isLatin1_aae02 sw_lat (sRm 0 0) (sPc [.ref a] a t n f) (sQi 1) 0 0 sNo := by
  refine Met.ofW (cc := cJ0_isLatin1_aae02) (maxL := 1) (ret := (some .boolean)) (by decide +kernel) rfl ?_
  intro p e s m args below meth c s₁ B hml hv
  obtain ⟨rfl, hS⟩ := hv
  have hx := B.exec
  have hb := B.bytes
  have hr := B.returns
  have hlk := B.notSynchronized
  have hts : ∀ w ∈ sw_lat, w.before ([.ref a] : List Value).toArray s = true := atoms_spec (ws := sw_lat) B.pre
  have hown : s.vm.findClass "java/lang/String" = some m.cls := findClass_of_methodNamed B.named
  have hl := lv_entry ([.ref a] : List Value) (n := 1) (Nat.le_of_ble_eq_true rfl)
  rw [lg_entry_eq]
  refine va_gets hx hb hS.2.2.2.2.1 va_S.rf hown (hts _ (sJw_own _ sf_cs)) (fun _ h => h) sd_lat_0 ?_
  refine lv_if_eq hx hb (tgt := 17) sd_lat_3 (by decide) (fun h => absurd h (by decide)) (fun _ => ?_)
  refine lv_aload_n hx hb sd_lat_6 rfl (lv_at hl 0 rfl) ?_
  refine vk_getf hx hb hS.2.1 va_S.rf hown (hts _ (sJw_own _ sf_cd)) (fun _ h => h) sd_lat_7 ?_
  refine lv_if_ne hx hb (tgt := 17) sd_lat_10 (by decide) (fun h => absurd rfl h) (fun _ => ?_)
  refine lv_iconst hx hb (v := 1) sd_lat_13 rfl ?_
  refine lv_goto hx hb (tgt := 18) sd_lat_14 (by decide) ?_
  exact W.zret hx hb hr rfl (fun t ht _ => ⟨⟨1, (), rfl, rfl, trivial⟩, va_S.rf.F ht⟩) (fun _ h => absurd h List.not_mem_nil) sd_lat_18 hlk
theorem c_pchk (l : Launch) (a t n : Nat) (f : Nat → Int32) (i k : Int32) (q : Nat) (h0 : ¬ i < 0) (h1 : i < k) : Met l yJ3_checkIndex_8e157 sw_pchk (sRm 0 0) (sPc [.int i, .int k, .ref q] a t n f) (sQi i) 0 0 sNo := by
  refine Met.ofW (cc := cJ3_checkIndex_8e157) (maxL := 3) (ret := (some .int)) (by decide +kernel) rfl ?_
  intro p e s m args below meth c s₁ B hml hv
  obtain ⟨rfl, hS⟩ := hv
  have hx := B.exec
  have hb := B.bytes
  have hr := B.returns
  have hlk := B.notSynchronized
  have hts : ∀ w ∈ sw_pchk, w.before ([.int i, .int k, .ref q] : List Value).toArray s = true := atoms_spec (ws := sw_pchk) B.pre
  have hown : s.vm.findClass "jdk/internal/util/Preconditions" = some m.cls := findClass_of_methodNamed B.named
  have hl := lv_entry ([.int i, .int k, .ref q] : List Value) (n := 3) (Nat.le_of_ble_eq_true rfl)
  rw [lg_entry_eq]
  refine lv_iload_n hx hb sd_pchk_0 rfl (lv_at hl 0 rfl) ?_
  refine lv_if_lt hx hb (tgt := 9) sd_pchk_1 (by decide) (fun h => absurd h h0) (fun _ => ?_)
  refine lv_iload_n hx hb sd_pchk_4 rfl (lv_at hl 0 rfl) ?_
  refine lv_iload_n hx hb sd_pchk_5 rfl (lv_at hl 1 rfl) ?_
  refine lv_icmp_lt hx hb (tgt := 16) sd_pchk_6 (by decide) (fun _ => ?_) (fun h => absurd h1 h)
  refine lv_iload_n hx hb sd_pchk_16 rfl (lv_at hl 0 rfl) ?_
  exact W.iret hx hb hr (fun t ht _ => ⟨⟨i, (), rfl, rfl, trivial⟩, va_S.rf.F ht⟩) (fun _ h => absurd h List.not_mem_nil) sd_pchk_17 hlk
theorem c_pchkN (l : Launch) (a t n : Nat) (f : Nat → Int32) (i k : Int32) (h0 : ¬ i < 0) (h1 : i < k) : Met l yJ3_checkIndex_8e157 sw_pchk (sRm 0 0) (sPc [.int i, .int k, .null] a t n f) (sQi i) 0 0 sNo := by
  refine Met.ofW (cc := cJ3_checkIndex_8e157) (maxL := 3) (ret := (some .int)) (by decide +kernel) rfl ?_
  intro p e s m args below meth c s₁ B hml hv
  obtain ⟨rfl, hS⟩ := hv
  have hx := B.exec
  have hb := B.bytes
  have hr := B.returns
  have hlk := B.notSynchronized
  have hts : ∀ w ∈ sw_pchk, w.before ([.int i, .int k, .null] : List Value).toArray s = true := atoms_spec (ws := sw_pchk) B.pre
  have hown : s.vm.findClass "jdk/internal/util/Preconditions" = some m.cls := findClass_of_methodNamed B.named
  have hl := lv_entry ([.int i, .int k, .null] : List Value) (n := 3) (Nat.le_of_ble_eq_true rfl)
  rw [lg_entry_eq]
  refine lv_iload_n hx hb sd_pchk_0 rfl (lv_at hl 0 rfl) ?_
  refine lv_if_lt hx hb (tgt := 9) sd_pchk_1 (by decide) (fun h => absurd h h0) (fun _ => ?_)
  refine lv_iload_n hx hb sd_pchk_4 rfl (lv_at hl 0 rfl) ?_
  refine lv_iload_n hx hb sd_pchk_5 rfl (lv_at hl 1 rfl) ?_
  refine lv_icmp_lt hx hb (tgt := 16) sd_pchk_6 (by decide) (fun _ => ?_) (fun h => absurd h1 h)
  refine lv_iload_n hx hb sd_pchk_16 rfl (lv_at hl 0 rfl) ?_
  exact W.iret hx hb hr (fun t ht _ => ⟨⟨i, (), rfl, rfl, trivial⟩, va_S.rf.F ht⟩) (fun _ h => absurd h List.not_mem_nil) sd_pchk_17 hlk
theorem s_recv {a : Nat} {A : Nat → Prop} {s : State} {H : Heap} {locs : List Loc} (hE : va_O "java/lang/String" a A s s.heap) (hS : va_S A s.heap H locs) : ∃ cell : Cell, H[a]? = some cell ∧ cell.vm.isStatics = false ∧ s.vm.findClass "java/lang/String" = some cell.cls := by
  obtain ⟨cell, h1, h2, h3, -⟩ := hE.kept hS.2.1
  exact ⟨cell, h1, h2, h3⟩
theorem c_len (l : Launch) (a t n : Nat) (f : Nat → Int32) (hn : Int32.ofNat n >>> ((0 : Int32) &&& 31) = Int32.ofNat n) : Met l yJ0_length_8abf5 sw_len (sRm 1 20) (sPc [.ref a] a t n f) (sQi (Int32.ofNat n)) 0 0 sNo := by
  refine Met.ofW (cc := cJ0_length_8abf5) (maxL := 1) (ret := (some .int)) (by decide +kernel) rfl ?_
  intro p e s m args below meth c s₁ B hml hv
  obtain ⟨rfl, hS⟩ := hv
  have hx := B.exec
  have hb := B.bytes
  have hr := B.returns
  have hlk := B.notSynchronized
  have hts : ∀ w ∈ sw_len, w.before ([.ref a] : List Value).toArray s = true := atoms_spec (ws := sw_len) B.pre
  have hown : s.vm.findClass "java/lang/String" = some m.cls := findClass_of_methodNamed B.named
  have hl := lv_entry ([.ref a] : List Value) (n := 1) (Nat.le_of_ble_eq_true rfl)
  rw [lg_entry_eq]
  have hZ : va_S sNo s.heap s.heap [] := va_S.rf
  refine lv_aload_n hx hb sd_len_0 rfl (lv_at hl 0 rfl) ?_
  refine vk_getf hx hb hS.2.2.1 va_S.rf hown (hts _ (sJw_own _ sf_vl)) (fun _ h => h) sd_len_1 ?_
  refine va_tlen hx hb hS.2.2.2.1 va_S.rf rfl sd_len_4 ?_
  refine lv_aload_n hx hb sd_len_5 rfl (lv_at hl 0 rfl) ?_
  refine va_calli (va_runV (As := []) (rest := [.int (Int32.ofNat n)]) (b := a) (C := "java/lang/String") ⟨hx, hb, hml, hown, hts⟩ (c_coder l a t n f) ⟨callB_of 0 hts (sJw_in sJw_own sk_coder.1) rfl rfl rfl (hts _ (sJw_own _ sk_coder.2)) (hts _ (sJw_own _ sl_len_coder)) ⟨by decide +kernel, by decide +kernel, by decide +kernel⟩ ⟨by decide, by decide⟩, (hts _ (sJw_own _ si_coder.1)), (hts _ (sJw_own _ si_coder.2))⟩ ⟨sPc_blind, s_recv hS.1 hZ, (fun U hU hW => ⟨rfl, hS.at hZ hU hW⟩)⟩ rfl rfl hl.1 rfl (lv_room (Nat.le_of_ble_eq_true rfl)) sd_len_6 ⟨by decide, by decide⟩) hZ (fun _ _ z => z.elim) (fun _ z => z.elim) (fun r u t2 H1 locs1 ht _ hp _ _ _ hZ1 => ?_)
  subst hp
  refine lv_ishr hx hb sd_len_9 ?_
  rw [hn]
  exact W.iret hx hb hr (fun t ht _ => ⟨⟨_, (), rfl, rfl, trivial⟩, hZ1.F ht⟩) (fun q h => hZ1.2.2 q h) sd_len_10 hlk
theorem c_chk (l : Launch) (a t n : Nat) (f : Nat → Int32) (i k : Int32) (h0 : ¬ i < 0) (h1 : i < k) : Met l yJ0_checkIndex_df160 sw_chk (sRm 1 22) (sPc [.int i, .int k] a t n f) sQv 0 0 sNo := by
  refine Met.ofW (cc := cJ0_checkIndex_df160) (maxL := 2) (ret := none) (by decide +kernel) rfl ?_
  intro p e s m args below meth c s₁ B hml hv
  obtain ⟨rfl, hS⟩ := hv
  have hx := B.exec
  have hb := B.bytes
  have hr := B.returns
  have hlk := B.notSynchronized
  have hts : ∀ w ∈ sw_chk, w.before ([.int i, .int k] : List Value).toArray s = true := atoms_spec (ws := sw_chk) B.pre
  have hown : s.vm.findClass "java/lang/String" = some m.cls := findClass_of_methodNamed B.named
  have hl := lv_entry ([.int i, .int k] : List Value) (n := 2) (Nat.le_of_ble_eq_true rfl)
  rw [lg_entry_eq]
  have hZ : va_S sNo s.heap s.heap [] := va_S.rf
  refine lv_iload_n hx hb sd_chk_0 rfl (lv_at hl 0 rfl) ?_
  refine lv_iload_n hx hb sd_chk_1 rfl (lv_at hl 1 rfl) ?_
  rcases hS.2.2.2.2.2 with hq | ⟨q, hq⟩
  · refine va_gets hx hb hq va_S.rf hown (hts _ (sJw_own _ sf_fm)) (fun _ h => h) sd_chk_2 ?_
    refine va_calli (va_runS (As := [.int i, .int k, .null]) (rest := []) ⟨hx, hb, hml, hown, hts⟩ (c_pchkN l a t n f i k h0 h1) ⟨callB_of 3 hts (sJw_in sJw_own sk_pchk.1) rfl rfl rfl (hts _ (sJw_own _ sk_pchk.2)) (hts _ (sJw_own _ sl_chk_pchk)) ⟨by decide +kernel, by decide +kernel, by decide +kernel⟩ ⟨by decide, by decide⟩, (hts _ (sJw_own _ st_pchk))⟩ ⟨sPc_blind, (fun U hU hW => ⟨rfl, hS.at hZ hU hW⟩)⟩ rfl rfl hl.1 rfl (lv_room (Nat.le_of_ble_eq_true rfl)) sd_chk_5 ⟨by decide, by decide⟩) hZ (fun _ _ z => z.elim) (fun _ z => z.elim) (fun r u t2 H1 locs1 ht _ hp _ _ _ hZ1 => ?_)
    refine lv_pop hx hb sd_chk_8 rfl ?_
    exact W.vret hx hb hr (fun t ht _ => ⟨⟨(), rfl, trivial, trivial⟩, hZ1.F ht⟩) (fun q h => hZ1.2.2 q h) sd_chk_9 hlk
  · refine va_gets hx hb hq va_S.rf hown (hts _ (sJw_own _ sf_fm)) (fun _ h => h) sd_chk_2 ?_
    refine va_calli (va_runS (As := [.int i, .int k, .ref q]) (rest := []) ⟨hx, hb, hml, hown, hts⟩ (c_pchk l a t n f i k q h0 h1) ⟨callB_of 3 hts (sJw_in sJw_own sk_pchk.1) rfl rfl rfl (hts _ (sJw_own _ sk_pchk.2)) (hts _ (sJw_own _ sl_chk_pchk)) ⟨by decide +kernel, by decide +kernel, by decide +kernel⟩ ⟨by decide, by decide⟩, (hts _ (sJw_own _ st_pchk))⟩ ⟨sPc_blind, (fun U hU hW => ⟨rfl, hS.at hZ hU hW⟩)⟩ rfl rfl hl.1 rfl (lv_room (Nat.le_of_ble_eq_true rfl)) sd_chk_5 ⟨by decide, by decide⟩) hZ (fun _ _ z => z.elim) (fun _ z => z.elim) (fun r u t2 H1 locs1 ht _ hp _ _ _ hZ1 => ?_)
    refine lv_pop hx hb sd_chk_8 rfl ?_
    exact W.vret hx hb hr (fun t ht _ => ⟨⟨(), rfl, trivial, trivial⟩, hZ1.F ht⟩) (fun q h => hZ1.2.2 q h) sd_chk_9 hlk
theorem c_l1 (l : Launch) (a t n : Nat) (f : Nat → Int32) (i : Int32) (v : Int32) (h0 : ¬ i < 0) (h1 : i < Int32.ofNat n) (hi : vp_in i n) (hv : ((f i.toNatClampNeg &&& 255).toUInt32 % 65536).toInt32 = v) (hc : narrow .char (.int v) = .int v) : Met l yJ1_charAt_3b067 sw_l1 (sRm 2 43) (sPc [.ref t, .int i] a t n f) (sQi v) 0 0 sNo := by
  refine Met.ofW (cc := cJ1_charAt_3b067) (maxL := 2) (ret := (some .char)) (by decide +kernel) rfl ?_
  intro p e s m args below meth c s₁ B hml hv
  obtain ⟨rfl, hS⟩ := hv
  have hx := B.exec
  have hb := B.bytes
  have hr := B.returns
  have hlk := B.notSynchronized
  have hts : ∀ w ∈ sw_l1, w.before ([.ref t, .int i] : List Value).toArray s = true := atoms_spec (ws := sw_l1) B.pre
  have hown : s.vm.findClass "java/lang/StringLatin1" = some m.cls := findClass_of_methodNamed B.named
  have hl := lv_entry ([.ref t, .int i] : List Value) (n := 2) (Nat.le_of_ble_eq_true rfl)
  rw [lg_entry_eq]
  have hZ : va_S sNo s.heap s.heap [] := va_S.rf
  refine lv_iload_n hx hb sd_l1_0 rfl (lv_at hl 1 rfl) ?_
  refine lv_aload_n hx hb sd_l1_1 rfl (lv_at hl 0 rfl) ?_
  refine va_tlen hx hb hS.2.2.2.1 va_S.rf rfl sd_l1_2 ?_
  refine va_callv (va_runS (As := [.int i, .int (Int32.ofNat n)]) (rest := []) ⟨hx, hb, hml, hown, hts⟩ (c_chk l a t n f i (Int32.ofNat n) h0 h1) ⟨callB_of 2 hts (sJw_in sJw_own sk_chk.1) rfl rfl rfl (hts _ (sJw_own _ sk_chk.2)) (hts _ (sJw_own _ sl_l1_chk)) ⟨by decide +kernel, by decide +kernel, by decide +kernel⟩ ⟨by decide, by decide⟩, (hts _ (sJw_own _ st_chk))⟩ ⟨sPc_blind, (fun U hU hW => ⟨rfl, hS.at hZ hU hW⟩)⟩ rfl rfl hl.1 rfl (lv_room (Nat.le_of_ble_eq_true rfl)) sd_l1_3 ⟨by decide, by decide⟩) hZ (fun _ _ z => z.elim) (fun _ z => z.elim) (fun u t2 H1 locs1 ht _ hp _ _ _ hZ1 => ?_)
  refine lv_aload_n hx hb sd_l1_6 rfl (lv_at hl 0 rfl) ?_
  refine lv_iload_n hx hb sd_l1_7 rfl (lv_at hl 1 rfl) ?_
  refine va_tb hx hb hS.2.2.2.1 hZ1 hi rfl sd_l1_8 ?_
  refine lv_sipush hx hb (v := 255) sd_l1_9 (by decide +kernel) ?_
  refine lv_iand hx hb sd_l1_12 ?_
  refine lv_i2c hx hb sd_l1_13 hv ?_
  exact W.zret hx hb hr hc (fun t ht _ => ⟨⟨_, (), rfl, rfl, trivial⟩, hZ1.F ht⟩) (fun q h => hZ1.2.2 q h) sd_l1_14 hlk
theorem c_chr (l : Launch) (a t n : Nat) (f : Nat → Int32) (i : Int32) (v : Int32) (h0 : ¬ i < 0) (h1 : i < Int32.ofNat n) (hi : vp_in i n) (hv : ((f i.toNatClampNeg &&& 255).toUInt32 % 65536).toInt32 = v) (hc : narrow .char (.int v) = .int v) : Met l yJ0_charAt_5068e sw_chr (sRm 3 64) (sPc [.ref a, .int i] a t n f) (sQi v) 0 0 sNo := by
  refine Met.ofW (cc := cJ0_charAt_5068e) (maxL := 2) (ret := (some .char)) (by decide +kernel) rfl ?_
  intro p e s m args below meth c s₁ B hml hv
  obtain ⟨rfl, hS⟩ := hv
  have hx := B.exec
  have hb := B.bytes
  have hr := B.returns
  have hlk := B.notSynchronized
  have hts : ∀ w ∈ sw_chr, w.before ([.ref a, .int i] : List Value).toArray s = true := atoms_spec (ws := sw_chr) B.pre
  have hown : s.vm.findClass "java/lang/String" = some m.cls := findClass_of_methodNamed B.named
  have hl := lv_entry ([.ref a, .int i] : List Value) (n := 2) (Nat.le_of_ble_eq_true rfl)
  rw [lg_entry_eq]
  have hZ : va_S sNo s.heap s.heap [] := va_S.rf
  refine lv_aload_n hx hb sd_chr_0 rfl (lv_at hl 0 rfl) ?_
  refine va_calli (va_runV (As := []) (rest := []) (b := a) (C := "java/lang/String") ⟨hx, hb, hml, hown, hts⟩ (c_lat l a t n f) ⟨callB_of 0 hts (sJw_in sJw_own sk_lat.1) rfl rfl rfl (hts _ (sJw_own _ sk_lat.2)) (hts _ (sJw_own _ sl_chr_lat)) ⟨by decide +kernel, by decide +kernel, by decide +kernel⟩ ⟨by decide, by decide⟩, (hts _ (sJw_own _ si_lat.1)), (hts _ (sJw_own _ si_lat.2))⟩ ⟨sPc_blind, s_recv hS.1 hZ, (fun U hU hW => ⟨rfl, hS.at hZ hU hW⟩)⟩ rfl rfl hl.1 rfl (lv_room (Nat.le_of_ble_eq_true rfl)) sd_chr_1 ⟨by decide, by decide⟩) hZ (fun _ _ z => z.elim) (fun _ z => z.elim) (fun r u t2 H1 locs1 ht _ hp _ _ _ hZ => ?_)
  subst hp
  refine lv_if_eq hx hb (tgt := 16) sd_chr_4 (by decide) (fun h => absurd h (by decide)) (fun _ => ?_)
  refine lv_aload_n hx hb sd_chr_7 rfl (lv_at hl 0 rfl) ?_
  refine vk_getf hx hb hS.2.2.1 hZ hown (hts _ (sJw_own _ sf_vl)) (fun _ h => h) sd_chr_8 ?_
  refine lv_iload_n hx hb sd_chr_11 rfl (lv_at hl 1 rfl) ?_
  refine va_calli (va_runS (As := [.ref t, .int i]) (rest := []) ⟨hx, hb, hml, hown, hts⟩ (c_l1 l a t n f i v h0 h1 hi hv hc) ⟨callB_of 2 hts (sJw_in sJw_own sk_l1.1) rfl rfl rfl (hts _ (sJw_own _ sk_l1.2)) (hts _ (sJw_own _ sl_chr_l1)) ⟨by decide +kernel, by decide +kernel, by decide +kernel⟩ ⟨by decide, by decide⟩, (hts _ (sJw_own _ st_l1))⟩ ⟨sPc_blind, (fun U hU hW => ⟨rfl, hS.at hZ hU hW⟩)⟩ rfl rfl hl.1 rfl (lv_room (Nat.le_of_ble_eq_true rfl)) sd_chr_12 ⟨by decide, by decide⟩) hZ (fun _ _ z => z.elim) (fun _ z => z.elim) (fun r u t2 H1 locs1 ht _ hp _ _ _ hZ1 => ?_)
  subst hp
  exact W.zret hx hb hr hc (fun t ht _ => ⟨⟨_, (), rfl, rfl, trivial⟩, hZ1.F ht⟩) (fun q h => hZ1.2.2 q h) sd_chr_15 hlk
/-- the two texts -/
def zSt (adK adV : Nat → Nat) (A : Nat → Prop) (U : State) : Prop := (∀ x, x < 2 → sS (adK x) (adV x) (sLn.getD x 0) (fun j => (sBy.getD x []).getD j 0) A U U.heap) ∧ ∀ r ∈ zLt, ∃ tx, vk_R (zcn r.1) r.2.1 tx (adK r.2.2.1) U
def zStr (A : Nat → Prop) (U : State) : Prop := ∃ adK adV : Nat → Nat, zSt adK adV A U
theorem zStr.same {A : Nat → Prop} {s U : State} (hh : U.heap = s.heap) (hv : U.vm = s.vm) (h : zStr A s) : zStr A U := by
  obtain ⟨k, v, h1, h2⟩ := h
  refine ⟨k, v, fun x hx => ?_, fun r hr => (h2 r hr).imp (fun _ z => z.same hv)⟩
  rw [hh]
  exact (h1 x hx).moved (by rw [hv]; exact Vm.Alike.refl _)
theorem zStr.go {A0 A1 : Nat → Prop} {s U : State} {H : Heap} {locs : List Loc} (h : zStr A0 s) (hS : va_S A0 s.heap H locs) (hA : ∀ q, A1 q → A0 q) (hU : U.heap = H) (hW : s.WarmedH U.vm) : zStr A1 U := by
  obtain ⟨k, v, h1, h2⟩ := h
  refine ⟨k, v, fun x hx => ?_, fun r hr => (h2 r hr).imp (fun _ z => z.warm hW)⟩
  rw [hU]
  exact (((h1 x hx).kept hS.2.1).moved hW.alike).narrow hA
theorem s_chars : ∀ x, x < 2 → (sLn.getD x 0 = (sBy.getD x []).length ∧ Int32.ofNat (sLn.getD x 0) >>> ((0 : Int32) &&& 31) = Int32.ofNat (sLn.getD x 0) ∧ sLn.getD x 0 < 1000 ∧ ∀ b ∈ sBy.getD x [], (((b &&& 255).toUInt32 % 65536).toInt32 = b ∧ narrow .char (.int b) = .int b)) := by decide +kernel
theorem s_in {i : Int32} {n : Nat} (h0 : ¬ i < 0) (h1 : i.toNatClampNeg < n) (hn : n < 1000) : i < Int32.ofNat n ∧ vp_in i n := by
  have e : i.toNatClampNeg = i.toInt.toNat := rfl
  have h2 : (Int32.ofNat n).toInt = n := Int32.toInt_ofNat_of_lt (by omega)
  have h3 : ¬ i.toInt < 0 := fun h => h0 (by rw [Int32.lt_iff_toInt_lt, Int32.toInt_zero]; exact h)
  exact ⟨by rw [Int32.lt_iff_toInt_lt, h2]; omega, fun h => h.elim h0 (fun h => by omega)⟩
