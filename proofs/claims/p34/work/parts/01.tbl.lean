-- ===== PART A: goes FIRST, ahead of the names: the tables' words, and 'selects' of the private methods out of them =====
theorem ztm_1 {w : Cond} (h : w ∈ tables_1_1) : w ∈ tables_1 := List.mem_append_left _ h
theorem ztm_2 {w : Cond} (h : w ∈ tables_1_2) : w ∈ tables_1 := List.mem_append_right _ (List.mem_append_left _ h)
theorem ztm_3 {w : Cond} (h : w ∈ tables_1_3) : w ∈ tables_1 := List.mem_append_right _ (List.mem_append_right _ (List.mem_append_left _ h))
theorem ztm_4 {w : Cond} (h : w ∈ tables_1_4) : w ∈ tables_1 := List.mem_append_right _ (List.mem_append_right _ (List.mem_append_right _ (List.mem_append_left _ h)))
theorem ztm_5 {w : Cond} (h : w ∈ tables_1_5) : w ∈ tables_1 := List.mem_append_right _ (List.mem_append_right _ (List.mem_append_right _ (List.mem_append_right _ (List.mem_append_left _ h))))
theorem ztm_6 {w : Cond} (h : w ∈ tables_1_6) : w ∈ tables_1 := List.mem_append_right _ (List.mem_append_right _ (List.mem_append_right _ (List.mem_append_right _ (List.mem_append_right _ (List.mem_append_left _ h)))))
theorem ztm_7 {w : Cond} (h : w ∈ tables_1_7) : w ∈ tables_1 := List.mem_append_right _ (List.mem_append_right _ (List.mem_append_right _ (List.mem_append_right _ (List.mem_append_right _ (List.mem_append_right _ (List.mem_append_left _ h))))))
theorem ztm_8 {w : Cond} (h : w ∈ tables_1_8) : w ∈ tables_1 := List.mem_append_right _ (List.mem_append_right _ (List.mem_append_right _ (List.mem_append_right _ (List.mem_append_right _ (List.mem_append_right _ (List.mem_append_right _ (h)))))))
/-- a private method of a class that the tables say can be made, by its rows of tables_1 -/
def lw_okq (q : MethodName × Nat) : Prop := (q.1.cls ≠ "java/lang/invoke/MethodHandle" ∧ q.1.cls ≠ "java/lang/invoke/VarHandle") ∧ Cond.instantiable q.1.cls q.2 ∈ tables_1 ∧ Cond.privateMethod q.1 ∈ tables_1 ∧ Cond.instanceMethod q.1 ∈ tables_1
set_option maxRecDepth 100000 in
theorem lw_p0 : lw_okq (⟨"PackTracer$Tape", "hasRoomFor", "(I)Z"⟩, 2) := ⟨⟨by decide +kernel, by decide +kernel⟩, ztm_1 (List.mem_of_getElem? (i := 34) rfl), ztm_2 (List.mem_of_getElem? (i := 142) rfl), ztm_2 (List.mem_of_getElem? (i := 143) rfl)⟩
set_option maxRecDepth 100000 in
theorem lw_p1 : lw_okq (⟨"PackTracer$Tape", "append", "(I)V"⟩, 2) := ⟨⟨by decide +kernel, by decide +kernel⟩, ztm_1 (List.mem_of_getElem? (i := 34) rfl), ztm_2 (List.mem_of_getElem? (i := 146) rfl), ztm_2 (List.mem_of_getElem? (i := 147) rfl)⟩
set_option maxRecDepth 100000 in
theorem lw_p2 : lw_okq (⟨"PackTracer$Book", "clear", "()V"⟩, 13) := ⟨⟨by decide +kernel, by decide +kernel⟩, ztm_1 (List.mem_of_getElem? (i := 51) rfl), ztm_2 (List.mem_of_getElem? (i := 154) rfl), ztm_2 (List.mem_of_getElem? (i := 155) rfl)⟩
set_option maxRecDepth 100000 in
theorem lw_p3 : lw_okq (⟨"PackTracer$Reader", "read", "(IZ)Z"⟩, 8) := ⟨⟨by decide +kernel, by decide +kernel⟩, ztm_1 (List.mem_of_getElem? (i := 125) rfl), ztm_2 (List.mem_of_getElem? (i := 161) rfl), ztm_2 (List.mem_of_getElem? (i := 162) rfl)⟩
set_option maxRecDepth 100000 in
theorem lw_p4 : lw_okq (⟨"PackTracer$Tokens", "cut", "(I)V"⟩, 8) := ⟨⟨by decide +kernel, by decide +kernel⟩, ztm_1 (List.mem_of_getElem? (i := 131) rfl), ztm_2 (List.mem_of_getElem? (i := 165) rfl), ztm_2 (List.mem_of_getElem? (i := 166) rfl)⟩
set_option maxRecDepth 100000 in
theorem lw_p5 : lw_okq (⟨"PackTracer$Tokens", "skipBlanks", "()V"⟩, 8) := ⟨⟨by decide +kernel, by decide +kernel⟩, ztm_1 (List.mem_of_getElem? (i := 131) rfl), ztm_2 (List.mem_of_getElem? (i := 175) rfl), ztm_2 (List.mem_of_getElem? (i := 176) rfl)⟩
set_option maxRecDepth 100000 in
theorem lw_p6 : lw_okq (⟨"PackTracer$Tokens", "passToken", "()I"⟩, 8) := ⟨⟨by decide +kernel, by decide +kernel⟩, ztm_1 (List.mem_of_getElem? (i := 131) rfl), ztm_2 (List.mem_of_getElem? (i := 179) rfl), ztm_2 (List.mem_of_getElem? (i := 180) rfl)⟩
set_option maxRecDepth 100000 in
theorem lw_p7 : lw_okq (⟨"PackTracer$Tokens", "isLetter", "()Z"⟩, 8) := ⟨⟨by decide +kernel, by decide +kernel⟩, ztm_1 (List.mem_of_getElem? (i := 131) rfl), ztm_2 (List.mem_of_getElem? (i := 183) rfl), ztm_2 (List.mem_of_getElem? (i := 184) rfl)⟩
set_option maxRecDepth 100000 in
theorem lw_p8 : lw_okq (⟨"PackTracer$Tokens", "passWord", "()I"⟩, 8) := ⟨⟨by decide +kernel, by decide +kernel⟩, ztm_1 (List.mem_of_getElem? (i := 131) rfl), ztm_2 (List.mem_of_getElem? (i := 187) rfl), ztm_2 (List.mem_of_getElem? (i := 188) rfl)⟩
set_option maxRecDepth 100000 in
theorem lw_p9 : lw_okq (⟨"PackTracer$Tokens", "kindOfWord", "()I"⟩, 8) := ⟨⟨by decide +kernel, by decide +kernel⟩, ztm_1 (List.mem_of_getElem? (i := 131) rfl), ztm_2 (List.mem_of_getElem? (i := 191) rfl), ztm_2 (List.mem_of_getElem? (i := 192) rfl)⟩
set_option maxRecDepth 100000 in
theorem lw_p10 : lw_okq (⟨"PackTracer$Tokens", "isDigit", "()Z"⟩, 8) := ⟨⟨by decide +kernel, by decide +kernel⟩, ztm_1 (List.mem_of_getElem? (i := 131) rfl), ztm_3 (List.mem_of_getElem? (i := 4) rfl), ztm_3 (List.mem_of_getElem? (i := 5) rfl)⟩
set_option maxRecDepth 100000 in
theorem lw_p11 : lw_okq (⟨"PackTracer$Tokens", "passDigits", "()V"⟩, 8) := ⟨⟨by decide +kernel, by decide +kernel⟩, ztm_1 (List.mem_of_getElem? (i := 131) rfl), ztm_3 (List.mem_of_getElem? (i := 8) rfl), ztm_3 (List.mem_of_getElem? (i := 9) rfl)⟩
set_option maxRecDepth 100000 in
theorem lw_p12 : lw_okq (⟨"PackTracer$Tokens", "add", "(II)V"⟩, 8) := ⟨⟨by decide +kernel, by decide +kernel⟩, ztm_1 (List.mem_of_getElem? (i := 131) rfl), ztm_3 (List.mem_of_getElem? (i := 13) rfl), ztm_3 (List.mem_of_getElem? (i := 14) rfl)⟩
set_option maxRecDepth 100000 in
theorem lw_p13 : lw_okq (⟨"PackTracer$Reader", "goTo", "(I)V"⟩, 8) := ⟨⟨by decide +kernel, by decide +kernel⟩, ztm_1 (List.mem_of_getElem? (i := 125) rfl), ztm_3 (List.mem_of_getElem? (i := 17) rfl), ztm_3 (List.mem_of_getElem? (i := 18) rfl)⟩
set_option maxRecDepth 100000 in
theorem lw_p14 : lw_okq (⟨"PackTracer$Reader", "fail", "(I)V"⟩, 8) := ⟨⟨by decide +kernel, by decide +kernel⟩, ztm_1 (List.mem_of_getElem? (i := 125) rfl), ztm_3 (List.mem_of_getElem? (i := 21) rfl), ztm_3 (List.mem_of_getElem? (i := 22) rfl)⟩
set_option maxRecDepth 100000 in
theorem lw_p15 : lw_okq (⟨"PackTracer$Reader", "readLine", "()V"⟩, 8) := ⟨⟨by decide +kernel, by decide +kernel⟩, ztm_1 (List.mem_of_getElem? (i := 125) rfl), ztm_3 (List.mem_of_getElem? (i := 25) rfl), ztm_3 (List.mem_of_getElem? (i := 26) rfl)⟩
def lw_privs_1 : List (MethodName × Nat) := [(⟨"PackTracer$Tape", "hasRoomFor", "(I)Z"⟩, 2), (⟨"PackTracer$Tape", "append", "(I)V"⟩, 2), (⟨"PackTracer$Book", "clear", "()V"⟩, 13), (⟨"PackTracer$Reader", "read", "(IZ)Z"⟩, 8), (⟨"PackTracer$Tokens", "cut", "(I)V"⟩, 8), (⟨"PackTracer$Tokens", "skipBlanks", "()V"⟩, 8), (⟨"PackTracer$Tokens", "passToken", "()I"⟩, 8), (⟨"PackTracer$Tokens", "isLetter", "()Z"⟩, 8), (⟨"PackTracer$Tokens", "passWord", "()I"⟩, 8), (⟨"PackTracer$Tokens", "kindOfWord", "()I"⟩, 8), (⟨"PackTracer$Tokens", "isDigit", "()Z"⟩, 8), (⟨"PackTracer$Tokens", "passDigits", "()V"⟩, 8), (⟨"PackTracer$Tokens", "add", "(II)V"⟩, 8), (⟨"PackTracer$Reader", "goTo", "(I)V"⟩, 8), (⟨"PackTracer$Reader", "fail", "(I)V"⟩, 8), (⟨"PackTracer$Reader", "readLine", "()V"⟩, 8)]
theorem lw_r1 : ∀ q ∈ lw_privs_1, lw_okq q := List.forall_mem_cons.mpr ⟨lw_p0, List.forall_mem_cons.mpr ⟨lw_p1, List.forall_mem_cons.mpr ⟨lw_p2, List.forall_mem_cons.mpr ⟨lw_p3, List.forall_mem_cons.mpr ⟨lw_p4, List.forall_mem_cons.mpr ⟨lw_p5, List.forall_mem_cons.mpr ⟨lw_p6, List.forall_mem_cons.mpr ⟨lw_p7, List.forall_mem_cons.mpr ⟨lw_p8, List.forall_mem_cons.mpr ⟨lw_p9, List.forall_mem_cons.mpr ⟨lw_p10, List.forall_mem_cons.mpr ⟨lw_p11, List.forall_mem_cons.mpr ⟨lw_p12, List.forall_mem_cons.mpr ⟨lw_p13, List.forall_mem_cons.mpr ⟨lw_p14, List.forall_mem_cons.mpr ⟨lw_p15, fun _ h => absurd h List.not_mem_nil⟩⟩⟩⟩⟩⟩⟩⟩⟩⟩⟩⟩⟩⟩⟩⟩
set_option maxRecDepth 100000 in
theorem lw_p16 : lw_okq (⟨"PackTracer$Reader", "readPlace", "()V"⟩, 8) := ⟨⟨by decide +kernel, by decide +kernel⟩, ztm_1 (List.mem_of_getElem? (i := 125) rfl), ztm_3 (List.mem_of_getElem? (i := 29) rfl), ztm_3 (List.mem_of_getElem? (i := 30) rfl)⟩
set_option maxRecDepth 100000 in
theorem lw_p17 : lw_okq (⟨"PackTracer$Reader", "take", "(II)I"⟩, 8) := ⟨⟨by decide +kernel, by decide +kernel⟩, ztm_1 (List.mem_of_getElem? (i := 125) rfl), ztm_3 (List.mem_of_getElem? (i := 33) rfl), ztm_3 (List.mem_of_getElem? (i := 34) rfl)⟩
set_option maxRecDepth 100000 in
theorem lw_p18 : lw_okq (⟨"PackTracer$Book", "placeNamed", "(I)I"⟩, 13) := ⟨⟨by decide +kernel, by decide +kernel⟩, ztm_1 (List.mem_of_getElem? (i := 51) rfl), ztm_3 (List.mem_of_getElem? (i := 37) rfl), ztm_3 (List.mem_of_getElem? (i := 38) rfl)⟩
set_option maxRecDepth 100000 in
theorem lw_p19 : lw_okq (⟨"PackTracer$Book", "addPlace", "(I)V"⟩, 13) := ⟨⟨by decide +kernel, by decide +kernel⟩, ztm_1 (List.mem_of_getElem? (i := 51) rfl), ztm_3 (List.mem_of_getElem? (i := 41) rfl), ztm_3 (List.mem_of_getElem? (i := 42) rfl)⟩
set_option maxRecDepth 100000 in
theorem lw_p20 : lw_okq (⟨"PackTracer$Reader", "readRoad", "()V"⟩, 8) := ⟨⟨by decide +kernel, by decide +kernel⟩, ztm_1 (List.mem_of_getElem? (i := 125) rfl), ztm_3 (List.mem_of_getElem? (i := 45) rfl), ztm_3 (List.mem_of_getElem? (i := 46) rfl)⟩
set_option maxRecDepth 100000 in
theorem lw_p21 : lw_okq (⟨"PackTracer$Reader", "takePlace", "(I)I"⟩, 8) := ⟨⟨by decide +kernel, by decide +kernel⟩, ztm_1 (List.mem_of_getElem? (i := 125) rfl), ztm_3 (List.mem_of_getElem? (i := 49) rfl), ztm_3 (List.mem_of_getElem? (i := 50) rfl)⟩
set_option maxRecDepth 100000 in
theorem lw_p22 : lw_okq (⟨"PackTracer$Reader", "takeNumber", "(II)I"⟩, 8) := ⟨⟨by decide +kernel, by decide +kernel⟩, ztm_1 (List.mem_of_getElem? (i := 125) rfl), ztm_3 (List.mem_of_getElem? (i := 53) rfl), ztm_3 (List.mem_of_getElem? (i := 54) rfl)⟩
set_option maxRecDepth 100000 in
theorem lw_p23 : lw_okq (⟨"PackTracer$Book", "addRoad", "(III)V"⟩, 13) := ⟨⟨by decide +kernel, by decide +kernel⟩, ztm_1 (List.mem_of_getElem? (i := 51) rfl), ztm_3 (List.mem_of_getElem? (i := 57) rfl), ztm_3 (List.mem_of_getElem? (i := 58) rfl)⟩
set_option maxRecDepth 100000 in
theorem lw_p24 : lw_okq (⟨"PackTracer$Book", "shorten", "(III)V"⟩, 13) := ⟨⟨by decide +kernel, by decide +kernel⟩, ztm_1 (List.mem_of_getElem? (i := 51) rfl), ztm_3 (List.mem_of_getElem? (i := 61) rfl), ztm_3 (List.mem_of_getElem? (i := 62) rfl)⟩
set_option maxRecDepth 100000 in
theorem lw_p25 : lw_okq (⟨"PackTracer$Book", "way", "(II)I"⟩, 13) := ⟨⟨by decide +kernel, by decide +kernel⟩, ztm_1 (List.mem_of_getElem? (i := 51) rfl), ztm_3 (List.mem_of_getElem? (i := 65) rfl), ztm_3 (List.mem_of_getElem? (i := 66) rfl)⟩
set_option maxRecDepth 100000 in
theorem lw_p26 : lw_okq (⟨"PackTracer$Book", "hasPlace", "(I)Z"⟩, 13) := ⟨⟨by decide +kernel, by decide +kernel⟩, ztm_1 (List.mem_of_getElem? (i := 51) rfl), ztm_3 (List.mem_of_getElem? (i := 69) rfl), ztm_3 (List.mem_of_getElem? (i := 70) rfl)⟩
set_option maxRecDepth 100000 in
theorem lw_p27 : lw_okq (⟨"PackTracer$Reader", "readFits", "()V"⟩, 8) := ⟨⟨by decide +kernel, by decide +kernel⟩, ztm_1 (List.mem_of_getElem? (i := 125) rfl), ztm_3 (List.mem_of_getElem? (i := 73) rfl), ztm_3 (List.mem_of_getElem? (i := 74) rfl)⟩
set_option maxRecDepth 100000 in
theorem lw_p28 : lw_okq (⟨"PackTracer$Reader", "readMessage", "()V"⟩, 8) := ⟨⟨by decide +kernel, by decide +kernel⟩, ztm_1 (List.mem_of_getElem? (i := 125) rfl), ztm_3 (List.mem_of_getElem? (i := 77) rfl), ztm_3 (List.mem_of_getElem? (i := 78) rfl)⟩
set_option maxRecDepth 100000 in
theorem lw_p29 : lw_okq (⟨"PackTracer$Reader", "takeAct", "()I"⟩, 8) := ⟨⟨by decide +kernel, by decide +kernel⟩, ztm_1 (List.mem_of_getElem? (i := 125) rfl), ztm_3 (List.mem_of_getElem? (i := 81) rfl), ztm_3 (List.mem_of_getElem? (i := 82) rfl)⟩
set_option maxRecDepth 100000 in
theorem lw_p30 : lw_okq (⟨"PackTracer$Reader", "takeSecond", "(I)I"⟩, 8) := ⟨⟨by decide +kernel, by decide +kernel⟩, ztm_1 (List.mem_of_getElem? (i := 125) rfl), ztm_3 (List.mem_of_getElem? (i := 85) rfl), ztm_3 (List.mem_of_getElem? (i := 86) rfl)⟩
set_option maxRecDepth 100000 in
theorem lw_p31 : lw_okq (⟨"PackTracer$Book", "addMessage", "(IIIII)V"⟩, 13) := ⟨⟨by decide +kernel, by decide +kernel⟩, ztm_1 (List.mem_of_getElem? (i := 51) rfl), ztm_3 (List.mem_of_getElem? (i := 89) rfl), ztm_3 (List.mem_of_getElem? (i := 90) rfl)⟩
def lw_privs_2 : List (MethodName × Nat) := [(⟨"PackTracer$Reader", "readPlace", "()V"⟩, 8), (⟨"PackTracer$Reader", "take", "(II)I"⟩, 8), (⟨"PackTracer$Book", "placeNamed", "(I)I"⟩, 13), (⟨"PackTracer$Book", "addPlace", "(I)V"⟩, 13), (⟨"PackTracer$Reader", "readRoad", "()V"⟩, 8), (⟨"PackTracer$Reader", "takePlace", "(I)I"⟩, 8), (⟨"PackTracer$Reader", "takeNumber", "(II)I"⟩, 8), (⟨"PackTracer$Book", "addRoad", "(III)V"⟩, 13), (⟨"PackTracer$Book", "shorten", "(III)V"⟩, 13), (⟨"PackTracer$Book", "way", "(II)I"⟩, 13), (⟨"PackTracer$Book", "hasPlace", "(I)Z"⟩, 13), (⟨"PackTracer$Reader", "readFits", "()V"⟩, 8), (⟨"PackTracer$Reader", "readMessage", "()V"⟩, 8), (⟨"PackTracer$Reader", "takeAct", "()I"⟩, 8), (⟨"PackTracer$Reader", "takeSecond", "(I)I"⟩, 8), (⟨"PackTracer$Book", "addMessage", "(IIIII)V"⟩, 13)]
theorem lw_r2 : ∀ q ∈ lw_privs_2, lw_okq q := List.forall_mem_cons.mpr ⟨lw_p16, List.forall_mem_cons.mpr ⟨lw_p17, List.forall_mem_cons.mpr ⟨lw_p18, List.forall_mem_cons.mpr ⟨lw_p19, List.forall_mem_cons.mpr ⟨lw_p20, List.forall_mem_cons.mpr ⟨lw_p21, List.forall_mem_cons.mpr ⟨lw_p22, List.forall_mem_cons.mpr ⟨lw_p23, List.forall_mem_cons.mpr ⟨lw_p24, List.forall_mem_cons.mpr ⟨lw_p25, List.forall_mem_cons.mpr ⟨lw_p26, List.forall_mem_cons.mpr ⟨lw_p27, List.forall_mem_cons.mpr ⟨lw_p28, List.forall_mem_cons.mpr ⟨lw_p29, List.forall_mem_cons.mpr ⟨lw_p30, List.forall_mem_cons.mpr ⟨lw_p31, fun _ h => absurd h List.not_mem_nil⟩⟩⟩⟩⟩⟩⟩⟩⟩⟩⟩⟩⟩⟩⟩⟩
set_option maxRecDepth 100000 in
theorem lw_p32 : lw_okq (⟨"PackTracer", "close", "(Z)I"⟩, 7) := ⟨⟨by decide +kernel, by decide +kernel⟩, ztm_1 (List.mem_of_getElem? (i := 26) rfl), ztm_3 (List.mem_of_getElem? (i := 93) rfl), ztm_3 (List.mem_of_getElem? (i := 94) rfl)⟩
set_option maxRecDepth 100000 in
theorem lw_p33 : lw_okq (⟨"PackTracer$Book", "joinRoads", "()V"⟩, 13) := ⟨⟨by decide +kernel, by decide +kernel⟩, ztm_1 (List.mem_of_getElem? (i := 51) rfl), ztm_3 (List.mem_of_getElem? (i := 97) rfl), ztm_3 (List.mem_of_getElem? (i := 98) rfl)⟩
set_option maxRecDepth 100000 in
theorem lw_p34 : lw_okq (⟨"PackTracer$Book", "become", "(LPackTracer$Book;)V"⟩, 13) := ⟨⟨by decide +kernel, by decide +kernel⟩, ztm_1 (List.mem_of_getElem? (i := 51) rfl), ztm_3 (List.mem_of_getElem? (i := 101) rfl), ztm_3 (List.mem_of_getElem? (i := 102) rfl)⟩
set_option maxRecDepth 100000 in
theorem lw_p35 : lw_okq (⟨"PackTracer$Story", "settle", "()V"⟩, 5) := ⟨⟨by decide +kernel, by decide +kernel⟩, ztm_1 (List.mem_of_getElem? (i := 194) rfl), ztm_3 (List.mem_of_getElem? (i := 108) rfl), ztm_3 (List.mem_of_getElem? (i := 109) rfl)⟩
set_option maxRecDepth 100000 in
theorem lw_p36 : lw_okq (⟨"PackTracer$Course", "takeHours", "(LPackTracer$Book;)V"⟩, 3) := ⟨⟨by decide +kernel, by decide +kernel⟩, ztm_1 (List.mem_of_getElem? (i := 200) rfl), ztm_3 (List.mem_of_getElem? (i := 112) rfl), ztm_3 (List.mem_of_getElem? (i := 113) rfl)⟩
set_option maxRecDepth 100000 in
theorem lw_p37 : lw_okq (⟨"PackTracer$Course", "arrange", "()V"⟩, 3) := ⟨⟨by decide +kernel, by decide +kernel⟩, ztm_1 (List.mem_of_getElem? (i := 200) rfl), ztm_3 (List.mem_of_getElem? (i := 117) rfl), ztm_3 (List.mem_of_getElem? (i := 118) rfl)⟩
set_option maxRecDepth 100000 in
theorem lw_p38 : lw_okq (⟨"PackTracer$World", "clear", "()V"⟩, 6) := ⟨⟨by decide +kernel, by decide +kernel⟩, ztm_1 (List.mem_of_getElem? (i := 223) rfl), ztm_3 (List.mem_of_getElem? (i := 121) rfl), ztm_3 (List.mem_of_getElem? (i := 122) rfl)⟩
set_option maxRecDepth 100000 in
theorem lw_p39 : lw_okq (⟨"PackTracer$Story", "step", "(I)I"⟩, 5) := ⟨⟨by decide +kernel, by decide +kernel⟩, ztm_1 (List.mem_of_getElem? (i := 194) rfl), ztm_3 (List.mem_of_getElem? (i := 126) rfl), ztm_3 (List.mem_of_getElem? (i := 127) rfl)⟩
set_option maxRecDepth 100000 in
theorem lw_p40 : lw_okq (⟨"PackTracer$Course", "hourAt", "(I)I"⟩, 3) := ⟨⟨by decide +kernel, by decide +kernel⟩, ztm_1 (List.mem_of_getElem? (i := 200) rfl), ztm_3 (List.mem_of_getElem? (i := 130) rfl), ztm_3 (List.mem_of_getElem? (i := 131) rfl)⟩
set_option maxRecDepth 100000 in
theorem lw_p41 : lw_okq (⟨"PackTracer$World", "look", "(LPackTracer$Book;II)I"⟩, 6) := ⟨⟨by decide +kernel, by decide +kernel⟩, ztm_1 (List.mem_of_getElem? (i := 223) rfl), ztm_3 (List.mem_of_getElem? (i := 134) rfl), ztm_3 (List.mem_of_getElem? (i := 135) rfl)⟩
set_option maxRecDepth 100000 in
theorem lw_p42 : lw_okq (⟨"PackTracer$World", "objection", "(LPackTracer$Book;II)I"⟩, 6) := ⟨⟨by decide +kernel, by decide +kernel⟩, ztm_1 (List.mem_of_getElem? (i := 223) rfl), ztm_3 (List.mem_of_getElem? (i := 138) rfl), ztm_3 (List.mem_of_getElem? (i := 139) rfl)⟩
set_option maxRecDepth 100000 in
theorem lw_p43 : lw_okq (⟨"PackTracer$World", "isMade", "(I)Z"⟩, 6) := ⟨⟨by decide +kernel, by decide +kernel⟩, ztm_1 (List.mem_of_getElem? (i := 223) rfl), ztm_3 (List.mem_of_getElem? (i := 142) rfl), ztm_3 (List.mem_of_getElem? (i := 143) rfl)⟩
set_option maxRecDepth 100000 in
theorem lw_p44 : lw_okq (⟨"PackTracer$World", "has", "(II)Z"⟩, 6) := ⟨⟨by decide +kernel, by decide +kernel⟩, ztm_1 (List.mem_of_getElem? (i := 223) rfl), ztm_3 (List.mem_of_getElem? (i := 146) rfl), ztm_3 (List.mem_of_getElem? (i := 147) rfl)⟩
set_option maxRecDepth 100000 in
theorem lw_p45 : lw_okq (⟨"PackTracer$World", "topmost", "(I)I"⟩, 6) := ⟨⟨by decide +kernel, by decide +kernel⟩, ztm_1 (List.mem_of_getElem? (i := 223) rfl), ztm_3 (List.mem_of_getElem? (i := 150) rfl), ztm_3 (List.mem_of_getElem? (i := 151) rfl)⟩
set_option maxRecDepth 100000 in
theorem lw_p46 : lw_okq (⟨"PackTracer$World", "objectionToPack", "(LPackTracer$Book;II)I"⟩, 6) := ⟨⟨by decide +kernel, by decide +kernel⟩, ztm_1 (List.mem_of_getElem? (i := 223) rfl), ztm_3 (List.mem_of_getElem? (i := 154) rfl), ztm_3 (List.mem_of_getElem? (i := 155) rfl)⟩
set_option maxRecDepth 100000 in
theorem lw_p47 : lw_okq (⟨"PackTracer$World", "heldAtOnce", "(I)I"⟩, 6) := ⟨⟨by decide +kernel, by decide +kernel⟩, ztm_1 (List.mem_of_getElem? (i := 223) rfl), ztm_3 (List.mem_of_getElem? (i := 158) rfl), ztm_3 (List.mem_of_getElem? (i := 159) rfl)⟩
def lw_privs_3 : List (MethodName × Nat) := [(⟨"PackTracer", "close", "(Z)I"⟩, 7), (⟨"PackTracer$Book", "joinRoads", "()V"⟩, 13), (⟨"PackTracer$Book", "become", "(LPackTracer$Book;)V"⟩, 13), (⟨"PackTracer$Story", "settle", "()V"⟩, 5), (⟨"PackTracer$Course", "takeHours", "(LPackTracer$Book;)V"⟩, 3), (⟨"PackTracer$Course", "arrange", "()V"⟩, 3), (⟨"PackTracer$World", "clear", "()V"⟩, 6), (⟨"PackTracer$Story", "step", "(I)I"⟩, 5), (⟨"PackTracer$Course", "hourAt", "(I)I"⟩, 3), (⟨"PackTracer$World", "look", "(LPackTracer$Book;II)I"⟩, 6), (⟨"PackTracer$World", "objection", "(LPackTracer$Book;II)I"⟩, 6), (⟨"PackTracer$World", "isMade", "(I)Z"⟩, 6), (⟨"PackTracer$World", "has", "(II)Z"⟩, 6), (⟨"PackTracer$World", "topmost", "(I)I"⟩, 6), (⟨"PackTracer$World", "objectionToPack", "(LPackTracer$Book;II)I"⟩, 6), (⟨"PackTracer$World", "heldAtOnce", "(I)I"⟩, 6)]
theorem lw_r3 : ∀ q ∈ lw_privs_3, lw_okq q := List.forall_mem_cons.mpr ⟨lw_p32, List.forall_mem_cons.mpr ⟨lw_p33, List.forall_mem_cons.mpr ⟨lw_p34, List.forall_mem_cons.mpr ⟨lw_p35, List.forall_mem_cons.mpr ⟨lw_p36, List.forall_mem_cons.mpr ⟨lw_p37, List.forall_mem_cons.mpr ⟨lw_p38, List.forall_mem_cons.mpr ⟨lw_p39, List.forall_mem_cons.mpr ⟨lw_p40, List.forall_mem_cons.mpr ⟨lw_p41, List.forall_mem_cons.mpr ⟨lw_p42, List.forall_mem_cons.mpr ⟨lw_p43, List.forall_mem_cons.mpr ⟨lw_p44, List.forall_mem_cons.mpr ⟨lw_p45, List.forall_mem_cons.mpr ⟨lw_p46, List.forall_mem_cons.mpr ⟨lw_p47, fun _ h => absurd h List.not_mem_nil⟩⟩⟩⟩⟩⟩⟩⟩⟩⟩⟩⟩⟩⟩⟩⟩
set_option maxRecDepth 100000 in
theorem lw_p48 : lw_okq (⟨"PackTracer$World", "isQuarantinedWithin", "(I)Z"⟩, 6) := ⟨⟨by decide +kernel, by decide +kernel⟩, ztm_1 (List.mem_of_getElem? (i := 223) rfl), ztm_3 (List.mem_of_getElem? (i := 162) rfl), ztm_3 (List.mem_of_getElem? (i := 163) rfl)⟩
set_option maxRecDepth 100000 in
theorem lw_p49 : lw_okq (⟨"PackTracer$World", "isIn", "(II)Z"⟩, 6) := ⟨⟨by decide +kernel, by decide +kernel⟩, ztm_1 (List.mem_of_getElem? (i := 223) rfl), ztm_3 (List.mem_of_getElem? (i := 166) rfl), ztm_3 (List.mem_of_getElem? (i := 167) rfl)⟩
set_option maxRecDepth 100000 in
theorem lw_p50 : lw_okq (⟨"PackTracer$World", "isTooSoon", "(LPackTracer$Book;III)Z"⟩, 6) := ⟨⟨by decide +kernel, by decide +kernel⟩, ztm_1 (List.mem_of_getElem? (i := 223) rfl), ztm_3 (List.mem_of_getElem? (i := 170) rfl), ztm_3 (List.mem_of_getElem? (i := 171) rfl)⟩
set_option maxRecDepth 100000 in
theorem lw_p51 : lw_okq (⟨"PackTracer$World", "carryOut", "(LPackTracer$Book;II)V"⟩, 6) := ⟨⟨by decide +kernel, by decide +kernel⟩, ztm_1 (List.mem_of_getElem? (i := 223) rfl), ztm_3 (List.mem_of_getElem? (i := 175) rfl), ztm_3 (List.mem_of_getElem? (i := 176) rfl)⟩
set_option maxRecDepth 100000 in
theorem lw_p52 : lw_okq (⟨"PackTracer$World", "stand", "(III)V"⟩, 6) := ⟨⟨by decide +kernel, by decide +kernel⟩, ztm_1 (List.mem_of_getElem? (i := 223) rfl), ztm_3 (List.mem_of_getElem? (i := 179) rfl), ztm_3 (List.mem_of_getElem? (i := 180) rfl)⟩
set_option maxRecDepth 100000 in
theorem lw_p53 : lw_okq (⟨"PackTracer$World", "openAround", "(I)V"⟩, 6) := ⟨⟨by decide +kernel, by decide +kernel⟩, ztm_1 (List.mem_of_getElem? (i := 223) rfl), ztm_3 (List.mem_of_getElem? (i := 183) rfl), ztm_3 (List.mem_of_getElem? (i := 184) rfl)⟩
set_option maxRecDepth 100000 in
theorem lw_p54 : lw_okq (⟨"PackTracer$World", "mark", "(II)V"⟩, 6) := ⟨⟨by decide +kernel, by decide +kernel⟩, ztm_1 (List.mem_of_getElem? (i := 223) rfl), ztm_3 (List.mem_of_getElem? (i := 187) rfl), ztm_3 (List.mem_of_getElem? (i := 188) rfl)⟩
set_option maxRecDepth 100000 in
theorem lw_p55 : lw_okq (⟨"PackTracer$World", "unmark", "(II)V"⟩, 6) := ⟨⟨by decide +kernel, by decide +kernel⟩, ztm_1 (List.mem_of_getElem? (i := 223) rfl), ztm_3 (List.mem_of_getElem? (i := 191) rfl), ztm_3 (List.mem_of_getElem? (i := 192) rfl)⟩
set_option maxRecDepth 100000 in
theorem lw_p56 : lw_okq (⟨"PackTracer$World", "looseWith", "(I)I"⟩, 6) := ⟨⟨by decide +kernel, by decide +kernel⟩, ztm_1 (List.mem_of_getElem? (i := 223) rfl), ztm_3 (List.mem_of_getElem? (i := 195) rfl), ztm_3 (List.mem_of_getElem? (i := 196) rfl)⟩
set_option maxRecDepth 100000 in
theorem lw_p57 : lw_okq (⟨"PackTracer$World", "endWithAllIn", "(I)V"⟩, 6) := ⟨⟨by decide +kernel, by decide +kernel⟩, ztm_1 (List.mem_of_getElem? (i := 223) rfl), ztm_3 (List.mem_of_getElem? (i := 199) rfl), ztm_3 (List.mem_of_getElem? (i := 200) rfl)⟩
set_option maxRecDepth 100000 in
theorem lw_p58 : lw_okq (⟨"PackTracer$Blame", "forget", "()V"⟩, 12) := ⟨⟨by decide +kernel, by decide +kernel⟩, ztm_2 (List.mem_of_getElem? (i := 66) rfl), ztm_3 (List.mem_of_getElem? (i := 203) rfl), ztm_3 (List.mem_of_getElem? (i := 204) rfl)⟩
set_option maxRecDepth 100000 in
theorem lw_p59 : lw_okq (⟨"PackTracer$Story", "worldBy", "(I)LPackTracer$World;"⟩, 5) := ⟨⟨by decide +kernel, by decide +kernel⟩, ztm_1 (List.mem_of_getElem? (i := 194) rfl), ztm_3 (List.mem_of_getElem? (i := 231) rfl), ztm_3 (List.mem_of_getElem? (i := 232) rfl)⟩
set_option maxRecDepth 100000 in
theorem lw_p60 : lw_okq (⟨"PackTracer$Story", "goTo", "(I)I"⟩, 5) := ⟨⟨by decide +kernel, by decide +kernel⟩, ztm_1 (List.mem_of_getElem? (i := 194) rfl), ztm_3 (List.mem_of_getElem? (i := 235) rfl), ztm_3 (List.mem_of_getElem? (i := 236) rfl)⟩
set_option maxRecDepth 100000 in
theorem lw_p61 : lw_okq (⟨"PackTracer$World", "tellOf", "(II)I"⟩, 6) := ⟨⟨by decide +kernel, by decide +kernel⟩, ztm_1 (List.mem_of_getElem? (i := 223) rfl), ztm_3 (List.mem_of_getElem? (i := 239) rfl), ztm_4 (List.mem_of_getElem? (i := 0) rfl)⟩
set_option maxRecDepth 100000 in
theorem lw_p62 : lw_okq (⟨"PackTracer$World", "whereIs", "(I)I"⟩, 6) := ⟨⟨by decide +kernel, by decide +kernel⟩, ztm_1 (List.mem_of_getElem? (i := 223) rfl), ztm_4 (List.mem_of_getElem? (i := 3) rfl), ztm_4 (List.mem_of_getElem? (i := 4) rfl)⟩
set_option maxRecDepth 100000 in
theorem lw_p63 : lw_okq (⟨"PackTracer$World", "knownAt", "(I)I"⟩, 6) := ⟨⟨by decide +kernel, by decide +kernel⟩, ztm_1 (List.mem_of_getElem? (i := 223) rfl), ztm_4 (List.mem_of_getElem? (i := 7) rfl), ztm_4 (List.mem_of_getElem? (i := 8) rfl)⟩
def lw_privs_4 : List (MethodName × Nat) := [(⟨"PackTracer$World", "isQuarantinedWithin", "(I)Z"⟩, 6), (⟨"PackTracer$World", "isIn", "(II)Z"⟩, 6), (⟨"PackTracer$World", "isTooSoon", "(LPackTracer$Book;III)Z"⟩, 6), (⟨"PackTracer$World", "carryOut", "(LPackTracer$Book;II)V"⟩, 6), (⟨"PackTracer$World", "stand", "(III)V"⟩, 6), (⟨"PackTracer$World", "openAround", "(I)V"⟩, 6), (⟨"PackTracer$World", "mark", "(II)V"⟩, 6), (⟨"PackTracer$World", "unmark", "(II)V"⟩, 6), (⟨"PackTracer$World", "looseWith", "(I)I"⟩, 6), (⟨"PackTracer$World", "endWithAllIn", "(I)V"⟩, 6), (⟨"PackTracer$Blame", "forget", "()V"⟩, 12), (⟨"PackTracer$Story", "worldBy", "(I)LPackTracer$World;"⟩, 5), (⟨"PackTracer$Story", "goTo", "(I)I"⟩, 5), (⟨"PackTracer$World", "tellOf", "(II)I"⟩, 6), (⟨"PackTracer$World", "whereIs", "(I)I"⟩, 6), (⟨"PackTracer$World", "knownAt", "(I)I"⟩, 6)]
theorem lw_r4 : ∀ q ∈ lw_privs_4, lw_okq q := List.forall_mem_cons.mpr ⟨lw_p48, List.forall_mem_cons.mpr ⟨lw_p49, List.forall_mem_cons.mpr ⟨lw_p50, List.forall_mem_cons.mpr ⟨lw_p51, List.forall_mem_cons.mpr ⟨lw_p52, List.forall_mem_cons.mpr ⟨lw_p53, List.forall_mem_cons.mpr ⟨lw_p54, List.forall_mem_cons.mpr ⟨lw_p55, List.forall_mem_cons.mpr ⟨lw_p56, List.forall_mem_cons.mpr ⟨lw_p57, List.forall_mem_cons.mpr ⟨lw_p58, List.forall_mem_cons.mpr ⟨lw_p59, List.forall_mem_cons.mpr ⟨lw_p60, List.forall_mem_cons.mpr ⟨lw_p61, List.forall_mem_cons.mpr ⟨lw_p62, List.forall_mem_cons.mpr ⟨lw_p63, fun _ h => absurd h List.not_mem_nil⟩⟩⟩⟩⟩⟩⟩⟩⟩⟩⟩⟩⟩⟩⟩⟩
set_option maxRecDepth 100000 in
theorem lw_p64 : lw_okq (⟨"PackTracer$World", "contents", "(I)J"⟩, 6) := ⟨⟨by decide +kernel, by decide +kernel⟩, ztm_1 (List.mem_of_getElem? (i := 223) rfl), ztm_4 (List.mem_of_getElem? (i := 11) rfl), ztm_4 (List.mem_of_getElem? (i := 12) rfl)⟩
set_option maxRecDepth 100000 in
theorem lw_p65 : lw_okq (⟨"PackTracer", "isWhereabouts", "(I)Z"⟩, 7) := ⟨⟨by decide +kernel, by decide +kernel⟩, ztm_1 (List.mem_of_getElem? (i := 26) rfl), ztm_4 (List.mem_of_getElem? (i := 33) rfl), ztm_4 (List.mem_of_getElem? (i := 34) rfl)⟩
set_option maxRecDepth 100000 in
theorem lw_p66 : lw_okq (⟨"PackTracer", "isPlaceOrSold", "(I)Z"⟩, 7) := ⟨⟨by decide +kernel, by decide +kernel⟩, ztm_1 (List.mem_of_getElem? (i := 26) rfl), ztm_4 (List.mem_of_getElem? (i := 37) rfl), ztm_4 (List.mem_of_getElem? (i := 38) rfl)⟩
set_option maxRecDepth 100000 in
theorem lw_p67 : lw_okq (⟨"PackTracer$World", "allAt", "(I)J"⟩, 6) := ⟨⟨by decide +kernel, by decide +kernel⟩, ztm_1 (List.mem_of_getElem? (i := 223) rfl), ztm_4 (List.mem_of_getElem? (i := 41) rfl), ztm_4 (List.mem_of_getElem? (i := 42) rfl)⟩
set_option maxRecDepth 100000 in
theorem lw_p68 : lw_okq (⟨"PackTracer$World", "tally", "(I)I"⟩, 6) := ⟨⟨by decide +kernel, by decide +kernel⟩, ztm_1 (List.mem_of_getElem? (i := 223) rfl), ztm_4 (List.mem_of_getElem? (i := 49) rfl), ztm_4 (List.mem_of_getElem? (i := 50) rfl)⟩
set_option maxRecDepth 100000 in
theorem lw_p69 : lw_okq (⟨"PackTracer$World", "isSo", "(II)Z"⟩, 6) := ⟨⟨by decide +kernel, by decide +kernel⟩, ztm_1 (List.mem_of_getElem? (i := 223) rfl), ztm_4 (List.mem_of_getElem? (i := 53) rfl), ztm_4 (List.mem_of_getElem? (i := 54) rfl)⟩
set_option maxRecDepth 100000 in
theorem lw_p70 : lw_okq (⟨"PackTracer$Story", "trailEntry", "(IIZ)I"⟩, 5) := ⟨⟨by decide +kernel, by decide +kernel⟩, ztm_1 (List.mem_of_getElem? (i := 194) rfl), ztm_4 (List.mem_of_getElem? (i := 61) rfl), ztm_4 (List.mem_of_getElem? (i := 62) rfl)⟩
set_option maxRecDepth 100000 in
theorem lw_p71 : lw_okq (⟨"PackTracer$Story", "worldOfFirst", "(I)LPackTracer$World;"⟩, 5) := ⟨⟨by decide +kernel, by decide +kernel⟩, ztm_1 (List.mem_of_getElem? (i := 194) rfl), ztm_4 (List.mem_of_getElem? (i := 70) rfl), ztm_4 (List.mem_of_getElem? (i := 71) rfl)⟩
set_option maxRecDepth 100000 in
theorem lw_p72 : lw_okq (⟨"PackTracer$Book", "hasMessage", "(I)Z"⟩, 13) := ⟨⟨by decide +kernel, by decide +kernel⟩, ztm_1 (List.mem_of_getElem? (i := 51) rfl), ztm_4 (List.mem_of_getElem? (i := 79) rfl), ztm_4 (List.mem_of_getElem? (i := 80) rfl)⟩
set_option maxRecDepth 100000 in
theorem lw_p73 : lw_okq (⟨"PackTracer$Story", "thingsChangedBy", "(I)I"⟩, 5) := ⟨⟨by decide +kernel, by decide +kernel⟩, ztm_1 (List.mem_of_getElem? (i := 194) rfl), ztm_4 (List.mem_of_getElem? (i := 83) rfl), ztm_4 (List.mem_of_getElem? (i := 84) rfl)⟩
set_option maxRecDepth 100000 in
theorem lw_p74 : lw_okq (⟨"PackTracer$World", "become", "(LPackTracer$World;)V"⟩, 6) := ⟨⟨by decide +kernel, by decide +kernel⟩, ztm_1 (List.mem_of_getElem? (i := 223) rfl), ztm_4 (List.mem_of_getElem? (i := 88) rfl), ztm_4 (List.mem_of_getElem? (i := 89) rfl)⟩
set_option maxRecDepth 100000 in
theorem lw_p75 : lw_okq (⟨"PackTracer$Guess", "placeWithout", "(II)I"⟩, 7) := ⟨⟨by decide +kernel, by decide +kernel⟩, ztm_2 (List.mem_of_getElem? (i := 31) rfl), ztm_4 (List.mem_of_getElem? (i := 97) rfl), ztm_4 (List.mem_of_getElem? (i := 98) rfl)⟩
set_option maxRecDepth 100000 in
theorem lw_p76 : lw_okq (⟨"PackTracer$Guess", "lastVerdictWithout", "(II)I"⟩, 7) := ⟨⟨by decide +kernel, by decide +kernel⟩, ztm_2 (List.mem_of_getElem? (i := 31) rfl), ztm_4 (List.mem_of_getElem? (i := 101) rfl), ztm_4 (List.mem_of_getElem? (i := 102) rfl)⟩
set_option maxRecDepth 100000 in
theorem lw_p77 : lw_okq (⟨"PackTracer$Story", "verdicts", "(I)I"⟩, 5) := ⟨⟨by decide +kernel, by decide +kernel⟩, ztm_1 (List.mem_of_getElem? (i := 194) rfl), ztm_4 (List.mem_of_getElem? (i := 112) rfl), ztm_4 (List.mem_of_getElem? (i := 113) rfl)⟩
set_option maxRecDepth 100000 in
theorem lw_p78 : lw_okq (⟨"PackTracer$Blame", "findOne", "()V"⟩, 12) := ⟨⟨by decide +kernel, by decide +kernel⟩, ztm_2 (List.mem_of_getElem? (i := 66) rfl), ztm_4 (List.mem_of_getElem? (i := 120) rfl), ztm_4 (List.mem_of_getElem? (i := 121) rfl)⟩
set_option maxRecDepth 100000 in
theorem lw_p79 : lw_okq (⟨"PackTracer$Blame", "refusedBehind", "(III)I"⟩, 12) := ⟨⟨by decide +kernel, by decide +kernel⟩, ztm_2 (List.mem_of_getElem? (i := 66) rfl), ztm_4 (List.mem_of_getElem? (i := 126) rfl), ztm_4 (List.mem_of_getElem? (i := 127) rfl)⟩
def lw_privs_5 : List (MethodName × Nat) := [(⟨"PackTracer$World", "contents", "(I)J"⟩, 6), (⟨"PackTracer", "isWhereabouts", "(I)Z"⟩, 7), (⟨"PackTracer", "isPlaceOrSold", "(I)Z"⟩, 7), (⟨"PackTracer$World", "allAt", "(I)J"⟩, 6), (⟨"PackTracer$World", "tally", "(I)I"⟩, 6), (⟨"PackTracer$World", "isSo", "(II)Z"⟩, 6), (⟨"PackTracer$Story", "trailEntry", "(IIZ)I"⟩, 5), (⟨"PackTracer$Story", "worldOfFirst", "(I)LPackTracer$World;"⟩, 5), (⟨"PackTracer$Book", "hasMessage", "(I)Z"⟩, 13), (⟨"PackTracer$Story", "thingsChangedBy", "(I)I"⟩, 5), (⟨"PackTracer$World", "become", "(LPackTracer$World;)V"⟩, 6), (⟨"PackTracer$Guess", "placeWithout", "(II)I"⟩, 7), (⟨"PackTracer$Guess", "lastVerdictWithout", "(II)I"⟩, 7), (⟨"PackTracer$Story", "verdicts", "(I)I"⟩, 5), (⟨"PackTracer$Blame", "findOne", "()V"⟩, 12), (⟨"PackTracer$Blame", "refusedBehind", "(III)I"⟩, 12)]
theorem lw_r5 : ∀ q ∈ lw_privs_5, lw_okq q := List.forall_mem_cons.mpr ⟨lw_p64, List.forall_mem_cons.mpr ⟨lw_p65, List.forall_mem_cons.mpr ⟨lw_p66, List.forall_mem_cons.mpr ⟨lw_p67, List.forall_mem_cons.mpr ⟨lw_p68, List.forall_mem_cons.mpr ⟨lw_p69, List.forall_mem_cons.mpr ⟨lw_p70, List.forall_mem_cons.mpr ⟨lw_p71, List.forall_mem_cons.mpr ⟨lw_p72, List.forall_mem_cons.mpr ⟨lw_p73, List.forall_mem_cons.mpr ⟨lw_p74, List.forall_mem_cons.mpr ⟨lw_p75, List.forall_mem_cons.mpr ⟨lw_p76, List.forall_mem_cons.mpr ⟨lw_p77, List.forall_mem_cons.mpr ⟨lw_p78, List.forall_mem_cons.mpr ⟨lw_p79, fun _ h => absurd h List.not_mem_nil⟩⟩⟩⟩⟩⟩⟩⟩⟩⟩⟩⟩⟩⟩⟩⟩
set_option maxRecDepth 100000 in
theorem lw_p80 : lw_okq (⟨"PackTracer$Blame", "refusalAt", "(ILPackTracer$World;)I"⟩, 12) := ⟨⟨by decide +kernel, by decide +kernel⟩, ztm_2 (List.mem_of_getElem? (i := 66) rfl), ztm_4 (List.mem_of_getElem? (i := 132) rfl), ztm_4 (List.mem_of_getElem? (i := 133) rfl)⟩
set_option maxRecDepth 100000 in
theorem lw_p81 : lw_okq (⟨"PackTracer$Blame", "findTwo", "()V"⟩, 12) := ⟨⟨by decide +kernel, by decide +kernel⟩, ztm_2 (List.mem_of_getElem? (i := 66) rfl), ztm_4 (List.mem_of_getElem? (i := 140) rfl), ztm_4 (List.mem_of_getElem? (i := 141) rfl)⟩
set_option maxRecDepth 100000 in
theorem lw_p82 : lw_okq (⟨"PackTracer$Blame", "tryPairsWith", "(II)V"⟩, 12) := ⟨⟨by decide +kernel, by decide +kernel⟩, ztm_2 (List.mem_of_getElem? (i := 66) rfl), ztm_4 (List.mem_of_getElem? (i := 144) rfl), ztm_4 (List.mem_of_getElem? (i := 145) rfl)⟩
set_option maxRecDepth 100000 in
theorem lw_p83 : lw_okq (⟨"PackTracer$Blame", "propose", "(III)V"⟩, 12) := ⟨⟨by decide +kernel, by decide +kernel⟩, ztm_2 (List.mem_of_getElem? (i := 66) rfl), ztm_4 (List.mem_of_getElem? (i := 150) rfl), ztm_4 (List.mem_of_getElem? (i := 151) rfl)⟩
set_option maxRecDepth 100000 in
theorem lw_p84 : lw_okq (⟨"PackTracer$Story", "allMet", "(II)J"⟩, 5) := ⟨⟨by decide +kernel, by decide +kernel⟩, ztm_1 (List.mem_of_getElem? (i := 194) rfl), ztm_4 (List.mem_of_getElem? (i := 158) rfl), ztm_4 (List.mem_of_getElem? (i := 159) rfl)⟩
set_option maxRecDepth 100000 in
theorem lw_p85 : lw_okq (⟨"PackTracer$World", "withCompany", "(J)J"⟩, 6) := ⟨⟨by decide +kernel, by decide +kernel⟩, ztm_1 (List.mem_of_getElem? (i := 223) rfl), ztm_4 (List.mem_of_getElem? (i := 164) rfl), ztm_4 (List.mem_of_getElem? (i := 165) rfl)⟩
set_option maxRecDepth 100000 in
theorem lw_p86 : lw_okq (⟨"PackTracer$Story", "allHeld", "(III)J"⟩, 5) := ⟨⟨by decide +kernel, by decide +kernel⟩, ztm_1 (List.mem_of_getElem? (i := 194) rfl), ztm_4 (List.mem_of_getElem? (i := 172) rfl), ztm_4 (List.mem_of_getElem? (i := 173) rfl)⟩
set_option maxRecDepth 100000 in
theorem lw_p87 : lw_okq (⟨"PackTracer$Story", "mostHeld", "(I)I"⟩, 5) := ⟨⟨by decide +kernel, by decide +kernel⟩, ztm_1 (List.mem_of_getElem? (i := 194) rfl), ztm_4 (List.mem_of_getElem? (i := 181) rfl), ztm_4 (List.mem_of_getElem? (i := 182) rfl)⟩
set_option maxRecDepth 100000 in
theorem lw_p88 : lw_okq (⟨"PackTracer$Story", "heldSince", "(II)I"⟩, 5) := ⟨⟨by decide +kernel, by decide +kernel⟩, ztm_1 (List.mem_of_getElem? (i := 194) rfl), ztm_4 (List.mem_of_getElem? (i := 191) rfl), ztm_4 (List.mem_of_getElem? (i := 192) rfl)⟩
set_option maxRecDepth 100000 in
theorem lw_p89 : lw_okq (⟨"PackTracer$World", "clumpsAt", "(I)I"⟩, 6) := ⟨⟨by decide +kernel, by decide +kernel⟩, ztm_1 (List.mem_of_getElem? (i := 223) rfl), ztm_4 (List.mem_of_getElem? (i := 199) rfl), ztm_4 (List.mem_of_getElem? (i := 200) rfl)⟩
set_option maxRecDepth 100000 in
theorem lw_p90 : lw_okq (⟨"PackTracer$Story", "hoursAt", "(II)I"⟩, 5) := ⟨⟨by decide +kernel, by decide +kernel⟩, ztm_1 (List.mem_of_getElem? (i := 194) rfl), ztm_4 (List.mem_of_getElem? (i := 207) rfl), ztm_4 (List.mem_of_getElem? (i := 208) rfl)⟩
set_option maxRecDepth 100000 in
theorem lw_p91 : lw_okq (⟨"PackTracer$Book", "latestHour", "()I"⟩, 13) := ⟨⟨by decide +kernel, by decide +kernel⟩, ztm_1 (List.mem_of_getElem? (i := 51) rfl), ztm_4 (List.mem_of_getElem? (i := 211) rfl), ztm_4 (List.mem_of_getElem? (i := 212) rfl)⟩
set_option maxRecDepth 100000 in
theorem lw_p92 : lw_okq (⟨"PackTracer$Story", "passages", "(II)I"⟩, 5) := ⟨⟨by decide +kernel, by decide +kernel⟩, ztm_1 (List.mem_of_getElem? (i := 194) rfl), ztm_4 (List.mem_of_getElem? (i := 220) rfl), ztm_4 (List.mem_of_getElem? (i := 221) rfl)⟩
set_option maxRecDepth 100000 in
theorem lw_p93 : lw_okq (⟨"PackTracer$Guess", "deciding", "(I)J"⟩, 7) := ⟨⟨by decide +kernel, by decide +kernel⟩, ztm_2 (List.mem_of_getElem? (i := 31) rfl), ztm_4 (List.mem_of_getElem? (i := 229) rfl), ztm_4 (List.mem_of_getElem? (i := 230) rfl)⟩
set_option maxRecDepth 100000 in
theorem lw_p94 : lw_okq (⟨"PackTracer$Course", "spotOf", "(I)I"⟩, 3) := ⟨⟨by decide +kernel, by decide +kernel⟩, ztm_1 (List.mem_of_getElem? (i := 200) rfl), ztm_4 (List.mem_of_getElem? (i := 233) rfl), ztm_4 (List.mem_of_getElem? (i := 234) rfl)⟩
set_option maxRecDepth 100000 in
theorem lw_p95 : lw_okq (⟨"PackTracer$Guess", "outcomeAt", "(III)I"⟩, 7) := ⟨⟨by decide +kernel, by decide +kernel⟩, ztm_2 (List.mem_of_getElem? (i := 31) rfl), ztm_5 (List.mem_of_getElem? (i := 5) rfl), ztm_5 (List.mem_of_getElem? (i := 6) rfl)⟩
def lw_privs_6 : List (MethodName × Nat) := [(⟨"PackTracer$Blame", "refusalAt", "(ILPackTracer$World;)I"⟩, 12), (⟨"PackTracer$Blame", "findTwo", "()V"⟩, 12), (⟨"PackTracer$Blame", "tryPairsWith", "(II)V"⟩, 12), (⟨"PackTracer$Blame", "propose", "(III)V"⟩, 12), (⟨"PackTracer$Story", "allMet", "(II)J"⟩, 5), (⟨"PackTracer$World", "withCompany", "(J)J"⟩, 6), (⟨"PackTracer$Story", "allHeld", "(III)J"⟩, 5), (⟨"PackTracer$Story", "mostHeld", "(I)I"⟩, 5), (⟨"PackTracer$Story", "heldSince", "(II)I"⟩, 5), (⟨"PackTracer$World", "clumpsAt", "(I)I"⟩, 6), (⟨"PackTracer$Story", "hoursAt", "(II)I"⟩, 5), (⟨"PackTracer$Book", "latestHour", "()I"⟩, 13), (⟨"PackTracer$Story", "passages", "(II)I"⟩, 5), (⟨"PackTracer$Guess", "deciding", "(I)J"⟩, 7), (⟨"PackTracer$Course", "spotOf", "(I)I"⟩, 3), (⟨"PackTracer$Guess", "outcomeAt", "(III)I"⟩, 7)]
theorem lw_r6 : ∀ q ∈ lw_privs_6, lw_okq q := List.forall_mem_cons.mpr ⟨lw_p80, List.forall_mem_cons.mpr ⟨lw_p81, List.forall_mem_cons.mpr ⟨lw_p82, List.forall_mem_cons.mpr ⟨lw_p83, List.forall_mem_cons.mpr ⟨lw_p84, List.forall_mem_cons.mpr ⟨lw_p85, List.forall_mem_cons.mpr ⟨lw_p86, List.forall_mem_cons.mpr ⟨lw_p87, List.forall_mem_cons.mpr ⟨lw_p88, List.forall_mem_cons.mpr ⟨lw_p89, List.forall_mem_cons.mpr ⟨lw_p90, List.forall_mem_cons.mpr ⟨lw_p91, List.forall_mem_cons.mpr ⟨lw_p92, List.forall_mem_cons.mpr ⟨lw_p93, List.forall_mem_cons.mpr ⟨lw_p94, List.forall_mem_cons.mpr ⟨lw_p95, fun _ h => absurd h List.not_mem_nil⟩⟩⟩⟩⟩⟩⟩⟩⟩⟩⟩⟩⟩⟩⟩⟩
set_option maxRecDepth 100000 in
theorem lw_p96 : lw_okq (⟨"PackTracer$Guess", "outcome", "(I)I"⟩, 7) := ⟨⟨by decide +kernel, by decide +kernel⟩, ztm_2 (List.mem_of_getElem? (i := 31) rfl), ztm_5 (List.mem_of_getElem? (i := 10) rfl), ztm_5 (List.mem_of_getElem? (i := 11) rfl)⟩
set_option maxRecDepth 100000 in
theorem lw_p97 : lw_okq (⟨"PackTracer$Guess", "openWindow", "(I)V"⟩, 7) := ⟨⟨by decide +kernel, by decide +kernel⟩, ztm_2 (List.mem_of_getElem? (i := 31) rfl), ztm_5 (List.mem_of_getElem? (i := 20) rfl), ztm_5 (List.mem_of_getElem? (i := 21) rfl)⟩
set_option maxRecDepth 100000 in
theorem lw_p98 : lw_okq (⟨"PackTracer$Guess", "isAheadOf", "(III)Z"⟩, 7) := ⟨⟨by decide +kernel, by decide +kernel⟩, ztm_2 (List.mem_of_getElem? (i := 31) rfl), ztm_5 (List.mem_of_getElem? (i := 25) rfl), ztm_5 (List.mem_of_getElem? (i := 26) rfl)⟩
set_option maxRecDepth 100000 in
theorem lw_p99 : lw_okq (⟨"PackTracer$World", "allKnownBy", "(I)J"⟩, 6) := ⟨⟨by decide +kernel, by decide +kernel⟩, ztm_1 (List.mem_of_getElem? (i := 223) rfl), ztm_5 (List.mem_of_getElem? (i := 33) rfl), ztm_5 (List.mem_of_getElem? (i := 34) rfl)⟩
set_option maxRecDepth 100000 in
theorem lw_p100 : lw_okq (⟨"PackTracer$Guess", "outcomeSwapped", "(III)I"⟩, 7) := ⟨⟨by decide +kernel, by decide +kernel⟩, ztm_2 (List.mem_of_getElem? (i := 31) rfl), ztm_5 (List.mem_of_getElem? (i := 41) rfl), ztm_5 (List.mem_of_getElem? (i := 42) rfl)⟩
set_option maxRecDepth 100000 in
theorem lw_p101 : lw_okq (⟨"PackTracer$Story", "busiest", "(IZ)I"⟩, 5) := ⟨⟨by decide +kernel, by decide +kernel⟩, ztm_1 (List.mem_of_getElem? (i := 194) rfl), ztm_5 (List.mem_of_getElem? (i := 49) rfl), ztm_5 (List.mem_of_getElem? (i := 50) rfl)⟩
set_option maxRecDepth 100000 in
theorem lw_p102 : lw_okq (⟨"PackTracer$Story", "hoursOnWays", "(I)I"⟩, 5) := ⟨⟨by decide +kernel, by decide +kernel⟩, ztm_1 (List.mem_of_getElem? (i := 194) rfl), ztm_5 (List.mem_of_getElem? (i := 57) rfl), ztm_5 (List.mem_of_getElem? (i := 58) rfl)⟩
set_option maxRecDepth 100000 in
theorem lw_p103 : lw_okq (⟨"PackTracer$Story", "clashOf", "(II)I"⟩, 5) := ⟨⟨by decide +kernel, by decide +kernel⟩, ztm_1 (List.mem_of_getElem? (i := 194) rfl), ztm_5 (List.mem_of_getElem? (i := 66) rfl), ztm_5 (List.mem_of_getElem? (i := 67) rfl)⟩
set_option maxRecDepth 100000 in
theorem lw_p104 : lw_okq (⟨"PackTracer$Book", "lateOnes", "()I"⟩, 13) := ⟨⟨by decide +kernel, by decide +kernel⟩, ztm_1 (List.mem_of_getElem? (i := 51) rfl), ztm_5 (List.mem_of_getElem? (i := 80) rfl), ztm_5 (List.mem_of_getElem? (i := 81) rfl)⟩
set_option maxRecDepth 100000 in
theorem lw_p105 : lw_okq (⟨"PackTracer$Book", "isLate", "(I)Z"⟩, 13) := ⟨⟨by decide +kernel, by decide +kernel⟩, ztm_1 (List.mem_of_getElem? (i := 51) rfl), ztm_5 (List.mem_of_getElem? (i := 84) rfl), ztm_5 (List.mem_of_getElem? (i := 85) rfl)⟩
set_option maxRecDepth 100000 in
theorem lw_p106 : lw_okq (⟨"java/lang/Throwable", "fillInStackTrace", "(I)Ljava/lang/Throwable;"⟩, 6) := ⟨⟨by decide +kernel, by decide +kernel⟩, ztm_5 (List.mem_of_getElem? (i := 134) rfl), ztm_5 (List.mem_of_getElem? (i := 132) rfl), ztm_5 (List.mem_of_getElem? (i := 133) rfl)⟩
set_option maxRecDepth 100000 in
theorem lw_p107 : lw_okq (⟨"PackTracerModel", "freshText", "()V"⟩, 45) := ⟨⟨by decide +kernel, by decide +kernel⟩, ztm_5 (List.mem_of_getElem? (i := 181) rfl), ztm_5 (List.mem_of_getElem? (i := 187) rfl), ztm_5 (List.mem_of_getElem? (i := 188) rfl)⟩
set_option maxRecDepth 100000 in
theorem lw_p108 : lw_okq (⟨"PackTracerModel", "becomes", "()V"⟩, 45) := ⟨⟨by decide +kernel, by decide +kernel⟩, ztm_5 (List.mem_of_getElem? (i := 181) rfl), ztm_5 (List.mem_of_getElem? (i := 192) rfl), ztm_5 (List.mem_of_getElem? (i := 193) rfl)⟩
set_option maxRecDepth 100000 in
theorem lw_p109 : lw_okq (⟨"PackTracerModel", "laysWays", "()V"⟩, 45) := ⟨⟨by decide +kernel, by decide +kernel⟩, ztm_5 (List.mem_of_getElem? (i := 181) rfl), ztm_5 (List.mem_of_getElem? (i := 196) rfl), ztm_5 (List.mem_of_getElem? (i := 197) rfl)⟩
set_option maxRecDepth 100000 in
theorem lw_p110 : lw_okq (⟨"PackTracerModel", "reads", "(IZ)I"⟩, 45) := ⟨⟨by decide +kernel, by decide +kernel⟩, ztm_5 (List.mem_of_getElem? (i := 181) rfl), ztm_6 (List.mem_of_getElem? (i := 105) rfl), ztm_6 (List.mem_of_getElem? (i := 106) rfl)⟩
set_option maxRecDepth 100000 in
theorem lw_p111 : lw_okq (⟨"PackTracerModel", "token", "()V"⟩, 45) := ⟨⟨by decide +kernel, by decide +kernel⟩, ztm_5 (List.mem_of_getElem? (i := 181) rfl), ztm_6 (List.mem_of_getElem? (i := 109) rfl), ztm_6 (List.mem_of_getElem? (i := 110) rfl)⟩
def lw_privs_7 : List (MethodName × Nat) := [(⟨"PackTracer$Guess", "outcome", "(I)I"⟩, 7), (⟨"PackTracer$Guess", "openWindow", "(I)V"⟩, 7), (⟨"PackTracer$Guess", "isAheadOf", "(III)Z"⟩, 7), (⟨"PackTracer$World", "allKnownBy", "(I)J"⟩, 6), (⟨"PackTracer$Guess", "outcomeSwapped", "(III)I"⟩, 7), (⟨"PackTracer$Story", "busiest", "(IZ)I"⟩, 5), (⟨"PackTracer$Story", "hoursOnWays", "(I)I"⟩, 5), (⟨"PackTracer$Story", "clashOf", "(II)I"⟩, 5), (⟨"PackTracer$Book", "lateOnes", "()I"⟩, 13), (⟨"PackTracer$Book", "isLate", "(I)Z"⟩, 13), (⟨"java/lang/Throwable", "fillInStackTrace", "(I)Ljava/lang/Throwable;"⟩, 6), (⟨"PackTracerModel", "freshText", "()V"⟩, 45), (⟨"PackTracerModel", "becomes", "()V"⟩, 45), (⟨"PackTracerModel", "laysWays", "()V"⟩, 45), (⟨"PackTracerModel", "reads", "(IZ)I"⟩, 45), (⟨"PackTracerModel", "token", "()V"⟩, 45)]
theorem lw_r7 : ∀ q ∈ lw_privs_7, lw_okq q := List.forall_mem_cons.mpr ⟨lw_p96, List.forall_mem_cons.mpr ⟨lw_p97, List.forall_mem_cons.mpr ⟨lw_p98, List.forall_mem_cons.mpr ⟨lw_p99, List.forall_mem_cons.mpr ⟨lw_p100, List.forall_mem_cons.mpr ⟨lw_p101, List.forall_mem_cons.mpr ⟨lw_p102, List.forall_mem_cons.mpr ⟨lw_p103, List.forall_mem_cons.mpr ⟨lw_p104, List.forall_mem_cons.mpr ⟨lw_p105, List.forall_mem_cons.mpr ⟨lw_p106, List.forall_mem_cons.mpr ⟨lw_p107, List.forall_mem_cons.mpr ⟨lw_p108, List.forall_mem_cons.mpr ⟨lw_p109, List.forall_mem_cons.mpr ⟨lw_p110, List.forall_mem_cons.mpr ⟨lw_p111, fun _ h => absurd h List.not_mem_nil⟩⟩⟩⟩⟩⟩⟩⟩⟩⟩⟩⟩⟩⟩⟩⟩
set_option maxRecDepth 100000 in
theorem lw_p112 : lw_okq (⟨"PackTracerModel", "here", "()I"⟩, 45) := ⟨⟨by decide +kernel, by decide +kernel⟩, ztm_5 (List.mem_of_getElem? (i := 181) rfl), ztm_6 (List.mem_of_getElem? (i := 113) rfl), ztm_6 (List.mem_of_getElem? (i := 114) rfl)⟩
set_option maxRecDepth 100000 in
theorem lw_p113 : lw_okq (⟨"PackTracerModel", "wordHere", "()I"⟩, 45) := ⟨⟨by decide +kernel, by decide +kernel⟩, ztm_5 (List.mem_of_getElem? (i := 181) rfl), ztm_6 (List.mem_of_getElem? (i := 120) rfl), ztm_6 (List.mem_of_getElem? (i := 121) rfl)⟩
set_option maxRecDepth 100000 in
theorem lw_p114 : lw_okq (⟨"PackTracerModel", "readLine", "(Z)V"⟩, 45) := ⟨⟨by decide +kernel, by decide +kernel⟩, ztm_5 (List.mem_of_getElem? (i := 181) rfl), ztm_6 (List.mem_of_getElem? (i := 130) rfl), ztm_6 (List.mem_of_getElem? (i := 131) rfl)⟩
set_option maxRecDepth 100000 in
theorem lw_p115 : lw_okq (⟨"PackTracerModel", "readMessage", "()V"⟩, 45) := ⟨⟨by decide +kernel, by decide +kernel⟩, ztm_5 (List.mem_of_getElem? (i := 181) rfl), ztm_6 (List.mem_of_getElem? (i := 134) rfl), ztm_6 (List.mem_of_getElem? (i := 135) rfl)⟩
set_option maxRecDepth 100000 in
theorem lw_p116 : lw_okq (⟨"PackTracerModel", "wrong", "(I)V"⟩, 45) := ⟨⟨by decide +kernel, by decide +kernel⟩, ztm_5 (List.mem_of_getElem? (i := 181) rfl), ztm_6 (List.mem_of_getElem? (i := 138) rfl), ztm_6 (List.mem_of_getElem? (i := 139) rfl)⟩
set_option maxRecDepth 100000 in
theorem lw_p117 : lw_okq (⟨"PackTracerModel", "goOn", "()V"⟩, 45) := ⟨⟨by decide +kernel, by decide +kernel⟩, ztm_5 (List.mem_of_getElem? (i := 181) rfl), ztm_6 (List.mem_of_getElem? (i := 142) rfl), ztm_6 (List.mem_of_getElem? (i := 143) rfl)⟩
set_option maxRecDepth 100000 in
theorem lw_p118 : lw_okq (⟨"PackTracerModel", "number", "(II)I"⟩, 45) := ⟨⟨by decide +kernel, by decide +kernel⟩, ztm_5 (List.mem_of_getElem? (i := 181) rfl), ztm_6 (List.mem_of_getElem? (i := 146) rfl), ztm_6 (List.mem_of_getElem? (i := 147) rfl)⟩
set_option maxRecDepth 100000 in
theorem lw_p119 : lw_okq (⟨"PackTracerModel", "kindHere", "()I"⟩, 45) := ⟨⟨by decide +kernel, by decide +kernel⟩, ztm_5 (List.mem_of_getElem? (i := 181) rfl), ztm_6 (List.mem_of_getElem? (i := 150) rfl), ztm_6 (List.mem_of_getElem? (i := 151) rfl)⟩
set_option maxRecDepth 100000 in
theorem lw_p120 : lw_okq (⟨"PackTracerModel", "readPlace", "()I"⟩, 45) := ⟨⟨by decide +kernel, by decide +kernel⟩, ztm_5 (List.mem_of_getElem? (i := 181) rfl), ztm_6 (List.mem_of_getElem? (i := 154) rfl), ztm_6 (List.mem_of_getElem? (i := 155) rfl)⟩
set_option maxRecDepth 100000 in
theorem lw_p121 : lw_okq (⟨"PackTracerModel", "placeHere", "()I"⟩, 45) := ⟨⟨by decide +kernel, by decide +kernel⟩, ztm_5 (List.mem_of_getElem? (i := 181) rfl), ztm_6 (List.mem_of_getElem? (i := 158) rfl), ztm_6 (List.mem_of_getElem? (i := 159) rfl)⟩
set_option maxRecDepth 100000 in
theorem lw_p122 : lw_okq (⟨"PackTracerModel", "readNew", "()V"⟩, 45) := ⟨⟨by decide +kernel, by decide +kernel⟩, ztm_5 (List.mem_of_getElem? (i := 181) rfl), ztm_6 (List.mem_of_getElem? (i := 162) rfl), ztm_6 (List.mem_of_getElem? (i := 163) rfl)⟩
set_option maxRecDepth 100000 in
theorem lw_p123 : lw_okq (⟨"PackTracerModel", "readRoad", "()V"⟩, 45) := ⟨⟨by decide +kernel, by decide +kernel⟩, ztm_5 (List.mem_of_getElem? (i := 181) rfl), ztm_6 (List.mem_of_getElem? (i := 166) rfl), ztm_6 (List.mem_of_getElem? (i := 167) rfl)⟩
set_option maxRecDepth 100000 in
theorem lw_p124 : lw_okq (⟨"PackTracerModel", "readFits", "()V"⟩, 45) := ⟨⟨by decide +kernel, by decide +kernel⟩, ztm_5 (List.mem_of_getElem? (i := 181) rfl), ztm_6 (List.mem_of_getElem? (i := 170) rfl), ztm_6 (List.mem_of_getElem? (i := 171) rfl)⟩
set_option maxRecDepth 100000 in
theorem lw_p125 : lw_okq (⟨"PackTracerModel", "isPlace", "(I)Z"⟩, 45) := ⟨⟨by decide +kernel, by decide +kernel⟩, ztm_5 (List.mem_of_getElem? (i := 181) rfl), ztm_6 (List.mem_of_getElem? (i := 186) rfl), ztm_6 (List.mem_of_getElem? (i := 187) rfl)⟩
set_option maxRecDepth 100000 in
theorem lw_p126 : lw_okq (⟨"PackTracerModel", "messages", "()I"⟩, 45) := ⟨⟨by decide +kernel, by decide +kernel⟩, ztm_5 (List.mem_of_getElem? (i := 181) rfl), ztm_6 (List.mem_of_getElem? (i := 194) rfl), ztm_6 (List.mem_of_getElem? (i := 195) rfl)⟩
set_option maxRecDepth 100000 in
theorem lw_p127 : lw_okq (⟨"PackTracerModel", "runsAll", "()V"⟩, 45) := ⟨⟨by decide +kernel, by decide +kernel⟩, ztm_5 (List.mem_of_getElem? (i := 181) rfl), ztm_6 (List.mem_of_getElem? (i := 198) rfl), ztm_6 (List.mem_of_getElem? (i := 199) rfl)⟩
def lw_privs_8 : List (MethodName × Nat) := [(⟨"PackTracerModel", "here", "()I"⟩, 45), (⟨"PackTracerModel", "wordHere", "()I"⟩, 45), (⟨"PackTracerModel", "readLine", "(Z)V"⟩, 45), (⟨"PackTracerModel", "readMessage", "()V"⟩, 45), (⟨"PackTracerModel", "wrong", "(I)V"⟩, 45), (⟨"PackTracerModel", "goOn", "()V"⟩, 45), (⟨"PackTracerModel", "number", "(II)I"⟩, 45), (⟨"PackTracerModel", "kindHere", "()I"⟩, 45), (⟨"PackTracerModel", "readPlace", "()I"⟩, 45), (⟨"PackTracerModel", "placeHere", "()I"⟩, 45), (⟨"PackTracerModel", "readNew", "()V"⟩, 45), (⟨"PackTracerModel", "readRoad", "()V"⟩, 45), (⟨"PackTracerModel", "readFits", "()V"⟩, 45), (⟨"PackTracerModel", "isPlace", "(I)Z"⟩, 45), (⟨"PackTracerModel", "messages", "()I"⟩, 45), (⟨"PackTracerModel", "runsAll", "()V"⟩, 45)]
theorem lw_r8 : ∀ q ∈ lw_privs_8, lw_okq q := List.forall_mem_cons.mpr ⟨lw_p112, List.forall_mem_cons.mpr ⟨lw_p113, List.forall_mem_cons.mpr ⟨lw_p114, List.forall_mem_cons.mpr ⟨lw_p115, List.forall_mem_cons.mpr ⟨lw_p116, List.forall_mem_cons.mpr ⟨lw_p117, List.forall_mem_cons.mpr ⟨lw_p118, List.forall_mem_cons.mpr ⟨lw_p119, List.forall_mem_cons.mpr ⟨lw_p120, List.forall_mem_cons.mpr ⟨lw_p121, List.forall_mem_cons.mpr ⟨lw_p122, List.forall_mem_cons.mpr ⟨lw_p123, List.forall_mem_cons.mpr ⟨lw_p124, List.forall_mem_cons.mpr ⟨lw_p125, List.forall_mem_cons.mpr ⟨lw_p126, List.forall_mem_cons.mpr ⟨lw_p127, fun _ h => absurd h List.not_mem_nil⟩⟩⟩⟩⟩⟩⟩⟩⟩⟩⟩⟩⟩⟩⟩⟩
set_option maxRecDepth 100000 in
theorem lw_p128 : lw_okq (⟨"PackTracerModel", "takesAll", "()V"⟩, 45) := ⟨⟨by decide +kernel, by decide +kernel⟩, ztm_5 (List.mem_of_getElem? (i := 181) rfl), ztm_6 (List.mem_of_getElem? (i := 202) rfl), ztm_6 (List.mem_of_getElem? (i := 203) rfl)⟩
set_option maxRecDepth 100000 in
theorem lw_p129 : lw_okq (⟨"PackTracerModel", "told", "(II)I"⟩, 45) := ⟨⟨by decide +kernel, by decide +kernel⟩, ztm_5 (List.mem_of_getElem? (i := 181) rfl), ztm_6 (List.mem_of_getElem? (i := 206) rfl), ztm_6 (List.mem_of_getElem? (i := 207) rfl)⟩
set_option maxRecDepth 100000 in
theorem lw_p130 : lw_okq (⟨"PackTracerModel", "runs", "(I)V"⟩, 45) := ⟨⟨by decide +kernel, by decide +kernel⟩, ztm_5 (List.mem_of_getElem? (i := 181) rfl), ztm_6 (List.mem_of_getElem? (i := 210) rfl), ztm_6 (List.mem_of_getElem? (i := 211) rfl)⟩
set_option maxRecDepth 100000 in
theorem lw_p131 : lw_okq (⟨"PackTracerModel", "clears", "()V"⟩, 45) := ⟨⟨by decide +kernel, by decide +kernel⟩, ztm_5 (List.mem_of_getElem? (i := 181) rfl), ztm_6 (List.mem_of_getElem? (i := 214) rfl), ztm_6 (List.mem_of_getElem? (i := 215) rfl)⟩
set_option maxRecDepth 100000 in
theorem lw_p132 : lw_okq (⟨"PackTracerModel", "sorts", "()V"⟩, 45) := ⟨⟨by decide +kernel, by decide +kernel⟩, ztm_5 (List.mem_of_getElem? (i := 181) rfl), ztm_6 (List.mem_of_getElem? (i := 218) rfl), ztm_6 (List.mem_of_getElem? (i := 219) rfl)⟩
set_option maxRecDepth 100000 in
theorem lw_p133 : lw_okq (⟨"PackTracerModel", "looks", "(I)V"⟩, 45) := ⟨⟨by decide +kernel, by decide +kernel⟩, ztm_5 (List.mem_of_getElem? (i := 181) rfl), ztm_6 (List.mem_of_getElem? (i := 222) rfl), ztm_6 (List.mem_of_getElem? (i := 223) rfl)⟩
set_option maxRecDepth 100000 in
theorem lw_p134 : lw_okq (⟨"PackTracerModel", "reason", "(I)I"⟩, 45) := ⟨⟨by decide +kernel, by decide +kernel⟩, ztm_5 (List.mem_of_getElem? (i := 181) rfl), ztm_6 (List.mem_of_getElem? (i := 226) rfl), ztm_6 (List.mem_of_getElem? (i := 227) rfl)⟩
set_option maxRecDepth 100000 in
theorem lw_p135 : lw_okq (⟨"PackTracerModel", "topOf", "(I)I"⟩, 45) := ⟨⟨by decide +kernel, by decide +kernel⟩, ztm_5 (List.mem_of_getElem? (i := 181) rfl), ztm_6 (List.mem_of_getElem? (i := 230) rfl), ztm_6 (List.mem_of_getElem? (i := 231) rfl)⟩
set_option maxRecDepth 100000 in
theorem lw_p136 : lw_okq (⟨"PackTracerModel", "manyIn", "(I)I"⟩, 45) := ⟨⟨by decide +kernel, by decide +kernel⟩, ztm_5 (List.mem_of_getElem? (i := 181) rfl), ztm_6 (List.mem_of_getElem? (i := 234) rfl), ztm_6 (List.mem_of_getElem? (i := 235) rfl)⟩
set_option maxRecDepth 100000 in
theorem lw_p137 : lw_okq (⟨"PackTracerModel", "isOneOf", "(IIII)Z"⟩, 45) := ⟨⟨by decide +kernel, by decide +kernel⟩, ztm_5 (List.mem_of_getElem? (i := 181) rfl), ztm_6 (List.mem_of_getElem? (i := 238) rfl), ztm_6 (List.mem_of_getElem? (i := 239) rfl)⟩
set_option maxRecDepth 100000 in
theorem lw_p138 : lw_okq (⟨"PackTracerModel", "isSoon", "(III)Z"⟩, 45) := ⟨⟨by decide +kernel, by decide +kernel⟩, ztm_5 (List.mem_of_getElem? (i := 181) rfl), ztm_7 (List.mem_of_getElem? (i := 2) rfl), ztm_7 (List.mem_of_getElem? (i := 3) rfl)⟩
set_option maxRecDepth 100000 in
theorem lw_p139 : lw_okq (⟨"PackTracerModel", "isHeld", "(I)Z"⟩, 45) := ⟨⟨by decide +kernel, by decide +kernel⟩, ztm_5 (List.mem_of_getElem? (i := 181) rfl), ztm_7 (List.mem_of_getElem? (i := 6) rfl), ztm_7 (List.mem_of_getElem? (i := 7) rfl)⟩
set_option maxRecDepth 100000 in
theorem lw_p140 : lw_okq (⟨"PackTracerModel", "isWithin", "(II)Z"⟩, 45) := ⟨⟨by decide +kernel, by decide +kernel⟩, ztm_5 (List.mem_of_getElem? (i := 181) rfl), ztm_7 (List.mem_of_getElem? (i := 10) rfl), ztm_7 (List.mem_of_getElem? (i := 11) rfl)⟩
set_option maxRecDepth 100000 in
theorem lw_p141 : lw_okq (⟨"PackTracerModel", "takes", "(IIIII)V"⟩, 45) := ⟨⟨by decide +kernel, by decide +kernel⟩, ztm_5 (List.mem_of_getElem? (i := 181) rfl), ztm_7 (List.mem_of_getElem? (i := 14) rfl), ztm_7 (List.mem_of_getElem? (i := 15) rfl)⟩
set_option maxRecDepth 100000 in
theorem lw_p142 : lw_okq (⟨"PackTracerModel", "lies", "(III)V"⟩, 45) := ⟨⟨by decide +kernel, by decide +kernel⟩, ztm_5 (List.mem_of_getElem? (i := 181) rfl), ztm_7 (List.mem_of_getElem? (i := 18) rfl), ztm_7 (List.mem_of_getElem? (i := 19) rfl)⟩
set_option maxRecDepth 100000 in
theorem lw_p143 : lw_okq (⟨"PackTracerModel", "comesOut", "(III)V"⟩, 45) := ⟨⟨by decide +kernel, by decide +kernel⟩, ztm_5 (List.mem_of_getElem? (i := 181) rfl), ztm_7 (List.mem_of_getElem? (i := 22) rfl), ztm_7 (List.mem_of_getElem? (i := 23) rfl)⟩
def lw_privs_9 : List (MethodName × Nat) := [(⟨"PackTracerModel", "takesAll", "()V"⟩, 45), (⟨"PackTracerModel", "told", "(II)I"⟩, 45), (⟨"PackTracerModel", "runs", "(I)V"⟩, 45), (⟨"PackTracerModel", "clears", "()V"⟩, 45), (⟨"PackTracerModel", "sorts", "()V"⟩, 45), (⟨"PackTracerModel", "looks", "(I)V"⟩, 45), (⟨"PackTracerModel", "reason", "(I)I"⟩, 45), (⟨"PackTracerModel", "topOf", "(I)I"⟩, 45), (⟨"PackTracerModel", "manyIn", "(I)I"⟩, 45), (⟨"PackTracerModel", "isOneOf", "(IIII)Z"⟩, 45), (⟨"PackTracerModel", "isSoon", "(III)Z"⟩, 45), (⟨"PackTracerModel", "isHeld", "(I)Z"⟩, 45), (⟨"PackTracerModel", "isWithin", "(II)Z"⟩, 45), (⟨"PackTracerModel", "takes", "(IIIII)V"⟩, 45), (⟨"PackTracerModel", "lies", "(III)V"⟩, 45), (⟨"PackTracerModel", "comesOut", "(III)V"⟩, 45)]
theorem lw_r9 : ∀ q ∈ lw_privs_9, lw_okq q := List.forall_mem_cons.mpr ⟨lw_p128, List.forall_mem_cons.mpr ⟨lw_p129, List.forall_mem_cons.mpr ⟨lw_p130, List.forall_mem_cons.mpr ⟨lw_p131, List.forall_mem_cons.mpr ⟨lw_p132, List.forall_mem_cons.mpr ⟨lw_p133, List.forall_mem_cons.mpr ⟨lw_p134, List.forall_mem_cons.mpr ⟨lw_p135, List.forall_mem_cons.mpr ⟨lw_p136, List.forall_mem_cons.mpr ⟨lw_p137, List.forall_mem_cons.mpr ⟨lw_p138, List.forall_mem_cons.mpr ⟨lw_p139, List.forall_mem_cons.mpr ⟨lw_p140, List.forall_mem_cons.mpr ⟨lw_p141, List.forall_mem_cons.mpr ⟨lw_p142, List.forall_mem_cons.mpr ⟨lw_p143, fun _ h => absurd h List.not_mem_nil⟩⟩⟩⟩⟩⟩⟩⟩⟩⟩⟩⟩⟩⟩⟩⟩
set_option maxRecDepth 100000 in
theorem lw_p144 : lw_okq (⟨"PackTracerModel", "scans", "(III)V"⟩, 45) := ⟨⟨by decide +kernel, by decide +kernel⟩, ztm_5 (List.mem_of_getElem? (i := 181) rfl), ztm_7 (List.mem_of_getElem? (i := 26) rfl), ztm_7 (List.mem_of_getElem? (i := 27) rfl)⟩
set_option maxRecDepth 100000 in
theorem lw_p145 : lw_okq (⟨"PackTracerModel", "ends", "(I)V"⟩, 45) := ⟨⟨by decide +kernel, by decide +kernel⟩, ztm_5 (List.mem_of_getElem? (i := 181) rfl), ztm_7 (List.mem_of_getElem? (i := 30) rfl), ztm_7 (List.mem_of_getElem? (i := 31) rfl)⟩
set_option maxRecDepth 100000 in
theorem lw_p146 : lw_okq (⟨"PackTracerModel", "orderOf", "(I)I"⟩, 45) := ⟨⟨by decide +kernel, by decide +kernel⟩, ztm_5 (List.mem_of_getElem? (i := 181) rfl), ztm_7 (List.mem_of_getElem? (i := 34) rfl), ztm_7 (List.mem_of_getElem? (i := 35) rfl)⟩
set_option maxRecDepth 100000 in
theorem lw_p147 : lw_okq (⟨"PackTracerModel", "isLate", "(I)Z"⟩, 45) := ⟨⟨by decide +kernel, by decide +kernel⟩, ztm_5 (List.mem_of_getElem? (i := 181) rfl), ztm_7 (List.mem_of_getElem? (i := 38) rfl), ztm_7 (List.mem_of_getElem? (i := 39) rfl)⟩
set_option maxRecDepth 100000 in
theorem lw_p148 : lw_okq (⟨"PackTracerModel", "runsTo", "(I)V"⟩, 45) := ⟨⟨by decide +kernel, by decide +kernel⟩, ztm_5 (List.mem_of_getElem? (i := 181) rfl), ztm_7 (List.mem_of_getElem? (i := 52) rfl), ztm_7 (List.mem_of_getElem? (i := 53) rfl)⟩
set_option maxRecDepth 100000 in
theorem lw_p149 : lw_okq (⟨"PackTracerModel", "whereIs", "(I)I"⟩, 45) := ⟨⟨by decide +kernel, by decide +kernel⟩, ztm_5 (List.mem_of_getElem? (i := 181) rfl), ztm_7 (List.mem_of_getElem? (i := 56) rfl), ztm_7 (List.mem_of_getElem? (i := 57) rfl)⟩
set_option maxRecDepth 100000 in
theorem lw_p150 : lw_okq (⟨"PackTracerModel", "allIn", "(I)I"⟩, 45) := ⟨⟨by decide +kernel, by decide +kernel⟩, ztm_5 (List.mem_of_getElem? (i := 181) rfl), ztm_7 (List.mem_of_getElem? (i := 60) rfl), ztm_7 (List.mem_of_getElem? (i := 61) rfl)⟩
set_option maxRecDepth 100000 in
theorem lw_p151 : lw_okq (⟨"PackTracerModel", "isSo", "(II)Z"⟩, 45) := ⟨⟨by decide +kernel, by decide +kernel⟩, ztm_5 (List.mem_of_getElem? (i := 181) rfl), ztm_7 (List.mem_of_getElem? (i := 76) rfl), ztm_7 (List.mem_of_getElem? (i := 77) rfl)⟩
set_option maxRecDepth 100000 in
theorem lw_p152 : lw_okq (⟨"PackTracerModel", "laysTrail", "(I)V"⟩, 45) := ⟨⟨by decide +kernel, by decide +kernel⟩, ztm_5 (List.mem_of_getElem? (i := 181) rfl), ztm_7 (List.mem_of_getElem? (i := 84) rfl), ztm_7 (List.mem_of_getElem? (i := 85) rfl)⟩
set_option maxRecDepth 100000 in
theorem lw_p153 : lw_okq (⟨"PackTracerModel", "latest", "()I"⟩, 45) := ⟨⟨by decide +kernel, by decide +kernel⟩, ztm_5 (List.mem_of_getElem? (i := 181) rfl), ztm_7 (List.mem_of_getElem? (i := 92) rfl), ztm_7 (List.mem_of_getElem? (i := 93) rfl)⟩
set_option maxRecDepth 100000 in
theorem lw_p154 : lw_okq (⟨"PackTracerModel", "runsFirst", "(I)V"⟩, 45) := ⟨⟨by decide +kernel, by decide +kernel⟩, ztm_5 (List.mem_of_getElem? (i := 181) rfl), ztm_7 (List.mem_of_getElem? (i := 104) rfl), ztm_7 (List.mem_of_getElem? (i := 105) rfl)⟩
set_option maxRecDepth 100000 in
theorem lw_p155 : lw_okq (⟨"PackTracerModel", "runsWithout", "(II)V"⟩, 45) := ⟨⟨by decide +kernel, by decide +kernel⟩, ztm_5 (List.mem_of_getElem? (i := 181) rfl), ztm_7 (List.mem_of_getElem? (i := 116) rfl), ztm_7 (List.mem_of_getElem? (i := 117) rfl)⟩
set_option maxRecDepth 100000 in
theorem lw_p156 : lw_okq (⟨"PackTracerModel", "refusedNow", "()I"⟩, 45) := ⟨⟨by decide +kernel, by decide +kernel⟩, ztm_5 (List.mem_of_getElem? (i := 181) rfl), ztm_7 (List.mem_of_getElem? (i := 124) rfl), ztm_7 (List.mem_of_getElem? (i := 125) rfl)⟩
set_option maxRecDepth 100000 in
theorem lw_p157 : lw_okq (⟨"PackTracerModel", "blames", "(Z)V"⟩, 45) := ⟨⟨by decide +kernel, by decide +kernel⟩, ztm_5 (List.mem_of_getElem? (i := 181) rfl), ztm_7 (List.mem_of_getElem? (i := 132) rfl), ztm_7 (List.mem_of_getElem? (i := 133) rfl)⟩
set_option maxRecDepth 100000 in
theorem lw_p158 : lw_okq (⟨"PackTracerModel", "isRefused", "(I)Z"⟩, 45) := ⟨⟨by decide +kernel, by decide +kernel⟩, ztm_5 (List.mem_of_getElem? (i := 181) rfl), ztm_7 (List.mem_of_getElem? (i := 144) rfl), ztm_7 (List.mem_of_getElem? (i := 145) rfl)⟩
set_option maxRecDepth 100000 in
theorem lw_p159 : lw_okq (⟨"PackTracerModel", "runsAt", "(II)V"⟩, 45) := ⟨⟨by decide +kernel, by decide +kernel⟩, ztm_5 (List.mem_of_getElem? (i := 181) rfl), ztm_7 (List.mem_of_getElem? (i := 156) rfl), ztm_7 (List.mem_of_getElem? (i := 157) rfl)⟩
def lw_privs_10 : List (MethodName × Nat) := [(⟨"PackTracerModel", "scans", "(III)V"⟩, 45), (⟨"PackTracerModel", "ends", "(I)V"⟩, 45), (⟨"PackTracerModel", "orderOf", "(I)I"⟩, 45), (⟨"PackTracerModel", "isLate", "(I)Z"⟩, 45), (⟨"PackTracerModel", "runsTo", "(I)V"⟩, 45), (⟨"PackTracerModel", "whereIs", "(I)I"⟩, 45), (⟨"PackTracerModel", "allIn", "(I)I"⟩, 45), (⟨"PackTracerModel", "isSo", "(II)Z"⟩, 45), (⟨"PackTracerModel", "laysTrail", "(I)V"⟩, 45), (⟨"PackTracerModel", "latest", "()I"⟩, 45), (⟨"PackTracerModel", "runsFirst", "(I)V"⟩, 45), (⟨"PackTracerModel", "runsWithout", "(II)V"⟩, 45), (⟨"PackTracerModel", "refusedNow", "()I"⟩, 45), (⟨"PackTracerModel", "blames", "(Z)V"⟩, 45), (⟨"PackTracerModel", "isRefused", "(I)Z"⟩, 45), (⟨"PackTracerModel", "runsAt", "(II)V"⟩, 45)]
theorem lw_r10 : ∀ q ∈ lw_privs_10, lw_okq q := List.forall_mem_cons.mpr ⟨lw_p144, List.forall_mem_cons.mpr ⟨lw_p145, List.forall_mem_cons.mpr ⟨lw_p146, List.forall_mem_cons.mpr ⟨lw_p147, List.forall_mem_cons.mpr ⟨lw_p148, List.forall_mem_cons.mpr ⟨lw_p149, List.forall_mem_cons.mpr ⟨lw_p150, List.forall_mem_cons.mpr ⟨lw_p151, List.forall_mem_cons.mpr ⟨lw_p152, List.forall_mem_cons.mpr ⟨lw_p153, List.forall_mem_cons.mpr ⟨lw_p154, List.forall_mem_cons.mpr ⟨lw_p155, List.forall_mem_cons.mpr ⟨lw_p156, List.forall_mem_cons.mpr ⟨lw_p157, List.forall_mem_cons.mpr ⟨lw_p158, List.forall_mem_cons.mpr ⟨lw_p159, fun _ h => absurd h List.not_mem_nil⟩⟩⟩⟩⟩⟩⟩⟩⟩⟩⟩⟩⟩⟩⟩⟩
set_option maxRecDepth 100000 in
theorem lw_p160 : lw_okq (⟨"PackTracerModel", "meets", "()V"⟩, 45) := ⟨⟨by decide +kernel, by decide +kernel⟩, ztm_5 (List.mem_of_getElem? (i := 181) rfl), ztm_7 (List.mem_of_getElem? (i := 168) rfl), ztm_7 (List.mem_of_getElem? (i := 169) rfl)⟩
set_option maxRecDepth 100000 in
theorem lw_p161 : lw_okq (⟨"PackTracerModel", "adds", "(I)V"⟩, 45) := ⟨⟨by decide +kernel, by decide +kernel⟩, ztm_5 (List.mem_of_getElem? (i := 181) rfl), ztm_7 (List.mem_of_getElem? (i := 179) rfl), ztm_7 (List.mem_of_getElem? (i := 180) rfl)⟩
set_option maxRecDepth 100000 in
theorem lw_p162 : lw_okq (⟨"PackTracerModel", "bitsIn", "(I)J"⟩, 45) := ⟨⟨by decide +kernel, by decide +kernel⟩, ztm_5 (List.mem_of_getElem? (i := 181) rfl), ztm_7 (List.mem_of_getElem? (i := 191) rfl), ztm_7 (List.mem_of_getElem? (i := 192) rfl)⟩
set_option maxRecDepth 100000 in
theorem lw_p163 : lw_okq (⟨"PackTracerModel", "manyAt", "(I)I"⟩, 45) := ⟨⟨by decide +kernel, by decide +kernel⟩, ztm_5 (List.mem_of_getElem? (i := 181) rfl), ztm_7 (List.mem_of_getElem? (i := 219) rfl), ztm_7 (List.mem_of_getElem? (i := 220) rfl)⟩
set_option maxRecDepth 100000 in
theorem lw_p164 : lw_okq (⟨"PackTracerModel", "lates", "()I"⟩, 45) := ⟨⟨by decide +kernel, by decide +kernel⟩, ztm_5 (List.mem_of_getElem? (i := 181) rfl), ztm_7 (List.mem_of_getElem? (i := 231) rfl), ztm_7 (List.mem_of_getElem? (i := 232) rfl)⟩
def lw_privs_11 : List (MethodName × Nat) := [(⟨"PackTracerModel", "meets", "()V"⟩, 45), (⟨"PackTracerModel", "adds", "(I)V"⟩, 45), (⟨"PackTracerModel", "bitsIn", "(I)J"⟩, 45), (⟨"PackTracerModel", "manyAt", "(I)I"⟩, 45), (⟨"PackTracerModel", "lates", "()I"⟩, 45)]
theorem lw_r11 : ∀ q ∈ lw_privs_11, lw_okq q := List.forall_mem_cons.mpr ⟨lw_p160, List.forall_mem_cons.mpr ⟨lw_p161, List.forall_mem_cons.mpr ⟨lw_p162, List.forall_mem_cons.mpr ⟨lw_p163, List.forall_mem_cons.mpr ⟨lw_p164, fun _ h => absurd h List.not_mem_nil⟩⟩⟩⟩⟩
def lw_privs : List (MethodName × Nat) := lw_privs_1 ++ (lw_privs_2 ++ (lw_privs_3 ++ (lw_privs_4 ++ (lw_privs_5 ++ (lw_privs_6 ++ (lw_privs_7 ++ (lw_privs_8 ++ (lw_privs_9 ++ (lw_privs_10 ++ (lw_privs_11))))))))))
def lw_tbl : List Cond := k2_sels lw_privs ++ tables_1
set_option maxRecDepth 100000 in
theorem lw_privs_ok : ∀ q ∈ lw_privs, lw_okq q := by
  show ∀ q ∈ lw_privs_1 ++ (lw_privs_2 ++ (lw_privs_3 ++ (lw_privs_4 ++ (lw_privs_5 ++ (lw_privs_6 ++ (lw_privs_7 ++ (lw_privs_8 ++ (lw_privs_9 ++ (lw_privs_10 ++ (lw_privs_11)))))))))), lw_okq q
  exact List.forall_mem_append.mpr ⟨lw_r1, List.forall_mem_append.mpr ⟨lw_r2, List.forall_mem_append.mpr ⟨lw_r3, List.forall_mem_append.mpr ⟨lw_r4, List.forall_mem_append.mpr ⟨lw_r5, List.forall_mem_append.mpr ⟨lw_r6, List.forall_mem_append.mpr ⟨lw_r7, List.forall_mem_append.mpr ⟨lw_r8, List.forall_mem_append.mpr ⟨lw_r9, List.forall_mem_append.mpr ⟨lw_r10, lw_r11⟩⟩⟩⟩⟩⟩⟩⟩⟩⟩
