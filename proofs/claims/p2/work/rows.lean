section
-- ===== PART A: goes FIRST, ahead of the names: the tables' words, and 'selects' of the private methods out of them =====
/-- a private method of a class that the tables say can be made, by its rows of tables_1 -/
def lw_okq (q : MethodName × Nat) : Prop := (q.1.cls ≠ "java/lang/invoke/MethodHandle" ∧ q.1.cls ≠ "java/lang/invoke/VarHandle") ∧ Cond.instantiable q.1.cls q.2 ∈ tables_1 ∧ Cond.privateMethod q.1 ∈ tables_1 ∧ Cond.instanceMethod q.1 ∈ tables_1
theorem lw_p0 : lw_okq (⟨"PackTracer$Tape", "hasRoomFor", "(I)Z"⟩, 2) := ⟨⟨by decide +kernel, by decide +kernel⟩, List.mem_of_getElem? (i := 34) (by decide +kernel), List.mem_of_getElem? (i := 382) (by decide +kernel), List.mem_of_getElem? (i := 383) (by decide +kernel)⟩
theorem lw_p1 : lw_okq (⟨"PackTracer$Tape", "append", "(I)V"⟩, 2) := ⟨⟨by decide +kernel, by decide +kernel⟩, List.mem_of_getElem? (i := 34) (by decide +kernel), List.mem_of_getElem? (i := 386) (by decide +kernel), List.mem_of_getElem? (i := 387) (by decide +kernel)⟩
theorem lw_p2 : lw_okq (⟨"PackTracer$Book", "clear", "()V"⟩, 13) := ⟨⟨by decide +kernel, by decide +kernel⟩, List.mem_of_getElem? (i := 51) (by decide +kernel), List.mem_of_getElem? (i := 394) (by decide +kernel), List.mem_of_getElem? (i := 395) (by decide +kernel)⟩
theorem lw_p3 : lw_okq (⟨"PackTracer$Reader", "read", "(IZ)Z"⟩, 8) := ⟨⟨by decide +kernel, by decide +kernel⟩, List.mem_of_getElem? (i := 125) (by decide +kernel), List.mem_of_getElem? (i := 401) (by decide +kernel), List.mem_of_getElem? (i := 402) (by decide +kernel)⟩
theorem lw_p4 : lw_okq (⟨"PackTracer$Tokens", "cut", "(I)V"⟩, 8) := ⟨⟨by decide +kernel, by decide +kernel⟩, List.mem_of_getElem? (i := 131) (by decide +kernel), List.mem_of_getElem? (i := 405) (by decide +kernel), List.mem_of_getElem? (i := 406) (by decide +kernel)⟩
theorem lw_p5 : lw_okq (⟨"PackTracer$Tokens", "skipBlanks", "()V"⟩, 8) := ⟨⟨by decide +kernel, by decide +kernel⟩, List.mem_of_getElem? (i := 131) (by decide +kernel), List.mem_of_getElem? (i := 415) (by decide +kernel), List.mem_of_getElem? (i := 416) (by decide +kernel)⟩
theorem lw_p6 : lw_okq (⟨"PackTracer$Tokens", "passToken", "()I"⟩, 8) := ⟨⟨by decide +kernel, by decide +kernel⟩, List.mem_of_getElem? (i := 131) (by decide +kernel), List.mem_of_getElem? (i := 419) (by decide +kernel), List.mem_of_getElem? (i := 420) (by decide +kernel)⟩
theorem lw_p7 : lw_okq (⟨"PackTracer$Tokens", "isLetter", "()Z"⟩, 8) := ⟨⟨by decide +kernel, by decide +kernel⟩, List.mem_of_getElem? (i := 131) (by decide +kernel), List.mem_of_getElem? (i := 423) (by decide +kernel), List.mem_of_getElem? (i := 424) (by decide +kernel)⟩
theorem lw_p8 : lw_okq (⟨"PackTracer$Tokens", "passWord", "()I"⟩, 8) := ⟨⟨by decide +kernel, by decide +kernel⟩, List.mem_of_getElem? (i := 131) (by decide +kernel), List.mem_of_getElem? (i := 427) (by decide +kernel), List.mem_of_getElem? (i := 428) (by decide +kernel)⟩
theorem lw_p9 : lw_okq (⟨"PackTracer$Tokens", "kindOfWord", "()I"⟩, 8) := ⟨⟨by decide +kernel, by decide +kernel⟩, List.mem_of_getElem? (i := 131) (by decide +kernel), List.mem_of_getElem? (i := 431) (by decide +kernel), List.mem_of_getElem? (i := 432) (by decide +kernel)⟩
theorem lw_p10 : lw_okq (⟨"PackTracer$Tokens", "isDigit", "()Z"⟩, 8) := ⟨⟨by decide +kernel, by decide +kernel⟩, List.mem_of_getElem? (i := 131) (by decide +kernel), List.mem_of_getElem? (i := 484) (by decide +kernel), List.mem_of_getElem? (i := 485) (by decide +kernel)⟩
theorem lw_p11 : lw_okq (⟨"PackTracer$Tokens", "passDigits", "()V"⟩, 8) := ⟨⟨by decide +kernel, by decide +kernel⟩, List.mem_of_getElem? (i := 131) (by decide +kernel), List.mem_of_getElem? (i := 488) (by decide +kernel), List.mem_of_getElem? (i := 489) (by decide +kernel)⟩
theorem lw_p12 : lw_okq (⟨"PackTracer$Tokens", "add", "(II)V"⟩, 8) := ⟨⟨by decide +kernel, by decide +kernel⟩, List.mem_of_getElem? (i := 131) (by decide +kernel), List.mem_of_getElem? (i := 493) (by decide +kernel), List.mem_of_getElem? (i := 494) (by decide +kernel)⟩
theorem lw_p13 : lw_okq (⟨"PackTracer$Reader", "goTo", "(I)V"⟩, 8) := ⟨⟨by decide +kernel, by decide +kernel⟩, List.mem_of_getElem? (i := 125) (by decide +kernel), List.mem_of_getElem? (i := 497) (by decide +kernel), List.mem_of_getElem? (i := 498) (by decide +kernel)⟩
theorem lw_p14 : lw_okq (⟨"PackTracer$Reader", "fail", "(I)V"⟩, 8) := ⟨⟨by decide +kernel, by decide +kernel⟩, List.mem_of_getElem? (i := 125) (by decide +kernel), List.mem_of_getElem? (i := 501) (by decide +kernel), List.mem_of_getElem? (i := 502) (by decide +kernel)⟩
theorem lw_p15 : lw_okq (⟨"PackTracer$Reader", "readLine", "()V"⟩, 8) := ⟨⟨by decide +kernel, by decide +kernel⟩, List.mem_of_getElem? (i := 125) (by decide +kernel), List.mem_of_getElem? (i := 505) (by decide +kernel), List.mem_of_getElem? (i := 506) (by decide +kernel)⟩
def lw_privs_1 : List (MethodName × Nat) := [(⟨"PackTracer$Tape", "hasRoomFor", "(I)Z"⟩, 2), (⟨"PackTracer$Tape", "append", "(I)V"⟩, 2), (⟨"PackTracer$Book", "clear", "()V"⟩, 13), (⟨"PackTracer$Reader", "read", "(IZ)Z"⟩, 8), (⟨"PackTracer$Tokens", "cut", "(I)V"⟩, 8), (⟨"PackTracer$Tokens", "skipBlanks", "()V"⟩, 8), (⟨"PackTracer$Tokens", "passToken", "()I"⟩, 8), (⟨"PackTracer$Tokens", "isLetter", "()Z"⟩, 8), (⟨"PackTracer$Tokens", "passWord", "()I"⟩, 8), (⟨"PackTracer$Tokens", "kindOfWord", "()I"⟩, 8), (⟨"PackTracer$Tokens", "isDigit", "()Z"⟩, 8), (⟨"PackTracer$Tokens", "passDigits", "()V"⟩, 8), (⟨"PackTracer$Tokens", "add", "(II)V"⟩, 8), (⟨"PackTracer$Reader", "goTo", "(I)V"⟩, 8), (⟨"PackTracer$Reader", "fail", "(I)V"⟩, 8), (⟨"PackTracer$Reader", "readLine", "()V"⟩, 8)]
theorem lw_r1 : ∀ q ∈ lw_privs_1, lw_okq q := List.forall_mem_cons.mpr ⟨lw_p0, List.forall_mem_cons.mpr ⟨lw_p1, List.forall_mem_cons.mpr ⟨lw_p2, List.forall_mem_cons.mpr ⟨lw_p3, List.forall_mem_cons.mpr ⟨lw_p4, List.forall_mem_cons.mpr ⟨lw_p5, List.forall_mem_cons.mpr ⟨lw_p6, List.forall_mem_cons.mpr ⟨lw_p7, List.forall_mem_cons.mpr ⟨lw_p8, List.forall_mem_cons.mpr ⟨lw_p9, List.forall_mem_cons.mpr ⟨lw_p10, List.forall_mem_cons.mpr ⟨lw_p11, List.forall_mem_cons.mpr ⟨lw_p12, List.forall_mem_cons.mpr ⟨lw_p13, List.forall_mem_cons.mpr ⟨lw_p14, List.forall_mem_cons.mpr ⟨lw_p15, fun _ h => absurd h List.not_mem_nil⟩⟩⟩⟩⟩⟩⟩⟩⟩⟩⟩⟩⟩⟩⟩⟩
theorem lw_p16 : lw_okq (⟨"PackTracer$Reader", "readPlace", "()V"⟩, 8) := ⟨⟨by decide +kernel, by decide +kernel⟩, List.mem_of_getElem? (i := 125) (by decide +kernel), List.mem_of_getElem? (i := 509) (by decide +kernel), List.mem_of_getElem? (i := 510) (by decide +kernel)⟩
theorem lw_p17 : lw_okq (⟨"PackTracer$Reader", "take", "(II)I"⟩, 8) := ⟨⟨by decide +kernel, by decide +kernel⟩, List.mem_of_getElem? (i := 125) (by decide +kernel), List.mem_of_getElem? (i := 513) (by decide +kernel), List.mem_of_getElem? (i := 514) (by decide +kernel)⟩
theorem lw_p18 : lw_okq (⟨"PackTracer$Book", "placeNamed", "(I)I"⟩, 13) := ⟨⟨by decide +kernel, by decide +kernel⟩, List.mem_of_getElem? (i := 51) (by decide +kernel), List.mem_of_getElem? (i := 517) (by decide +kernel), List.mem_of_getElem? (i := 518) (by decide +kernel)⟩
theorem lw_p19 : lw_okq (⟨"PackTracer$Book", "addPlace", "(I)V"⟩, 13) := ⟨⟨by decide +kernel, by decide +kernel⟩, List.mem_of_getElem? (i := 51) (by decide +kernel), List.mem_of_getElem? (i := 521) (by decide +kernel), List.mem_of_getElem? (i := 522) (by decide +kernel)⟩
theorem lw_p20 : lw_okq (⟨"PackTracer$Reader", "readRoad", "()V"⟩, 8) := ⟨⟨by decide +kernel, by decide +kernel⟩, List.mem_of_getElem? (i := 125) (by decide +kernel), List.mem_of_getElem? (i := 525) (by decide +kernel), List.mem_of_getElem? (i := 526) (by decide +kernel)⟩
theorem lw_p21 : lw_okq (⟨"PackTracer$Reader", "takePlace", "(I)I"⟩, 8) := ⟨⟨by decide +kernel, by decide +kernel⟩, List.mem_of_getElem? (i := 125) (by decide +kernel), List.mem_of_getElem? (i := 529) (by decide +kernel), List.mem_of_getElem? (i := 530) (by decide +kernel)⟩
theorem lw_p22 : lw_okq (⟨"PackTracer$Reader", "takeNumber", "(II)I"⟩, 8) := ⟨⟨by decide +kernel, by decide +kernel⟩, List.mem_of_getElem? (i := 125) (by decide +kernel), List.mem_of_getElem? (i := 533) (by decide +kernel), List.mem_of_getElem? (i := 534) (by decide +kernel)⟩
theorem lw_p23 : lw_okq (⟨"PackTracer$Book", "addRoad", "(III)V"⟩, 13) := ⟨⟨by decide +kernel, by decide +kernel⟩, List.mem_of_getElem? (i := 51) (by decide +kernel), List.mem_of_getElem? (i := 537) (by decide +kernel), List.mem_of_getElem? (i := 538) (by decide +kernel)⟩
theorem lw_p24 : lw_okq (⟨"PackTracer$Book", "shorten", "(III)V"⟩, 13) := ⟨⟨by decide +kernel, by decide +kernel⟩, List.mem_of_getElem? (i := 51) (by decide +kernel), List.mem_of_getElem? (i := 541) (by decide +kernel), List.mem_of_getElem? (i := 542) (by decide +kernel)⟩
theorem lw_p25 : lw_okq (⟨"PackTracer$Book", "way", "(II)I"⟩, 13) := ⟨⟨by decide +kernel, by decide +kernel⟩, List.mem_of_getElem? (i := 51) (by decide +kernel), List.mem_of_getElem? (i := 545) (by decide +kernel), List.mem_of_getElem? (i := 546) (by decide +kernel)⟩
theorem lw_p26 : lw_okq (⟨"PackTracer$Book", "hasPlace", "(I)Z"⟩, 13) := ⟨⟨by decide +kernel, by decide +kernel⟩, List.mem_of_getElem? (i := 51) (by decide +kernel), List.mem_of_getElem? (i := 549) (by decide +kernel), List.mem_of_getElem? (i := 550) (by decide +kernel)⟩
theorem lw_p27 : lw_okq (⟨"PackTracer$Reader", "readFits", "()V"⟩, 8) := ⟨⟨by decide +kernel, by decide +kernel⟩, List.mem_of_getElem? (i := 125) (by decide +kernel), List.mem_of_getElem? (i := 553) (by decide +kernel), List.mem_of_getElem? (i := 554) (by decide +kernel)⟩
theorem lw_p28 : lw_okq (⟨"PackTracer$Reader", "readMessage", "()V"⟩, 8) := ⟨⟨by decide +kernel, by decide +kernel⟩, List.mem_of_getElem? (i := 125) (by decide +kernel), List.mem_of_getElem? (i := 557) (by decide +kernel), List.mem_of_getElem? (i := 558) (by decide +kernel)⟩
theorem lw_p29 : lw_okq (⟨"PackTracer$Reader", "takeAct", "()I"⟩, 8) := ⟨⟨by decide +kernel, by decide +kernel⟩, List.mem_of_getElem? (i := 125) (by decide +kernel), List.mem_of_getElem? (i := 561) (by decide +kernel), List.mem_of_getElem? (i := 562) (by decide +kernel)⟩
theorem lw_p30 : lw_okq (⟨"PackTracer$Reader", "takeSecond", "(I)I"⟩, 8) := ⟨⟨by decide +kernel, by decide +kernel⟩, List.mem_of_getElem? (i := 125) (by decide +kernel), List.mem_of_getElem? (i := 565) (by decide +kernel), List.mem_of_getElem? (i := 566) (by decide +kernel)⟩
theorem lw_p31 : lw_okq (⟨"PackTracer$Book", "addMessage", "(IIIII)V"⟩, 13) := ⟨⟨by decide +kernel, by decide +kernel⟩, List.mem_of_getElem? (i := 51) (by decide +kernel), List.mem_of_getElem? (i := 569) (by decide +kernel), List.mem_of_getElem? (i := 570) (by decide +kernel)⟩
def lw_privs_2 : List (MethodName × Nat) := [(⟨"PackTracer$Reader", "readPlace", "()V"⟩, 8), (⟨"PackTracer$Reader", "take", "(II)I"⟩, 8), (⟨"PackTracer$Book", "placeNamed", "(I)I"⟩, 13), (⟨"PackTracer$Book", "addPlace", "(I)V"⟩, 13), (⟨"PackTracer$Reader", "readRoad", "()V"⟩, 8), (⟨"PackTracer$Reader", "takePlace", "(I)I"⟩, 8), (⟨"PackTracer$Reader", "takeNumber", "(II)I"⟩, 8), (⟨"PackTracer$Book", "addRoad", "(III)V"⟩, 13), (⟨"PackTracer$Book", "shorten", "(III)V"⟩, 13), (⟨"PackTracer$Book", "way", "(II)I"⟩, 13), (⟨"PackTracer$Book", "hasPlace", "(I)Z"⟩, 13), (⟨"PackTracer$Reader", "readFits", "()V"⟩, 8), (⟨"PackTracer$Reader", "readMessage", "()V"⟩, 8), (⟨"PackTracer$Reader", "takeAct", "()I"⟩, 8), (⟨"PackTracer$Reader", "takeSecond", "(I)I"⟩, 8), (⟨"PackTracer$Book", "addMessage", "(IIIII)V"⟩, 13)]
theorem lw_r2 : ∀ q ∈ lw_privs_2, lw_okq q := List.forall_mem_cons.mpr ⟨lw_p16, List.forall_mem_cons.mpr ⟨lw_p17, List.forall_mem_cons.mpr ⟨lw_p18, List.forall_mem_cons.mpr ⟨lw_p19, List.forall_mem_cons.mpr ⟨lw_p20, List.forall_mem_cons.mpr ⟨lw_p21, List.forall_mem_cons.mpr ⟨lw_p22, List.forall_mem_cons.mpr ⟨lw_p23, List.forall_mem_cons.mpr ⟨lw_p24, List.forall_mem_cons.mpr ⟨lw_p25, List.forall_mem_cons.mpr ⟨lw_p26, List.forall_mem_cons.mpr ⟨lw_p27, List.forall_mem_cons.mpr ⟨lw_p28, List.forall_mem_cons.mpr ⟨lw_p29, List.forall_mem_cons.mpr ⟨lw_p30, List.forall_mem_cons.mpr ⟨lw_p31, fun _ h => absurd h List.not_mem_nil⟩⟩⟩⟩⟩⟩⟩⟩⟩⟩⟩⟩⟩⟩⟩⟩
theorem lw_p32 : lw_okq (⟨"PackTracer", "close", "(Z)I"⟩, 7) := ⟨⟨by decide +kernel, by decide +kernel⟩, List.mem_of_getElem? (i := 26) (by decide +kernel), List.mem_of_getElem? (i := 573) (by decide +kernel), List.mem_of_getElem? (i := 574) (by decide +kernel)⟩
theorem lw_p33 : lw_okq (⟨"PackTracer$Book", "joinRoads", "()V"⟩, 13) := ⟨⟨by decide +kernel, by decide +kernel⟩, List.mem_of_getElem? (i := 51) (by decide +kernel), List.mem_of_getElem? (i := 577) (by decide +kernel), List.mem_of_getElem? (i := 578) (by decide +kernel)⟩
theorem lw_p34 : lw_okq (⟨"PackTracer$Book", "become", "(LPackTracer$Book;)V"⟩, 13) := ⟨⟨by decide +kernel, by decide +kernel⟩, List.mem_of_getElem? (i := 51) (by decide +kernel), List.mem_of_getElem? (i := 581) (by decide +kernel), List.mem_of_getElem? (i := 582) (by decide +kernel)⟩
theorem lw_p35 : lw_okq (⟨"PackTracer$Story", "settle", "()V"⟩, 5) := ⟨⟨by decide +kernel, by decide +kernel⟩, List.mem_of_getElem? (i := 194) (by decide +kernel), List.mem_of_getElem? (i := 588) (by decide +kernel), List.mem_of_getElem? (i := 589) (by decide +kernel)⟩
theorem lw_p36 : lw_okq (⟨"PackTracer$Course", "takeHours", "(LPackTracer$Book;)V"⟩, 3) := ⟨⟨by decide +kernel, by decide +kernel⟩, List.mem_of_getElem? (i := 200) (by decide +kernel), List.mem_of_getElem? (i := 592) (by decide +kernel), List.mem_of_getElem? (i := 593) (by decide +kernel)⟩
theorem lw_p37 : lw_okq (⟨"PackTracer$Course", "arrange", "()V"⟩, 3) := ⟨⟨by decide +kernel, by decide +kernel⟩, List.mem_of_getElem? (i := 200) (by decide +kernel), List.mem_of_getElem? (i := 597) (by decide +kernel), List.mem_of_getElem? (i := 598) (by decide +kernel)⟩
theorem lw_p38 : lw_okq (⟨"PackTracer$World", "clear", "()V"⟩, 6) := ⟨⟨by decide +kernel, by decide +kernel⟩, List.mem_of_getElem? (i := 223) (by decide +kernel), List.mem_of_getElem? (i := 601) (by decide +kernel), List.mem_of_getElem? (i := 602) (by decide +kernel)⟩
theorem lw_p39 : lw_okq (⟨"PackTracer$Story", "step", "(I)I"⟩, 5) := ⟨⟨by decide +kernel, by decide +kernel⟩, List.mem_of_getElem? (i := 194) (by decide +kernel), List.mem_of_getElem? (i := 606) (by decide +kernel), List.mem_of_getElem? (i := 607) (by decide +kernel)⟩
theorem lw_p40 : lw_okq (⟨"PackTracer$Course", "hourAt", "(I)I"⟩, 3) := ⟨⟨by decide +kernel, by decide +kernel⟩, List.mem_of_getElem? (i := 200) (by decide +kernel), List.mem_of_getElem? (i := 610) (by decide +kernel), List.mem_of_getElem? (i := 611) (by decide +kernel)⟩
theorem lw_p41 : lw_okq (⟨"PackTracer$World", "look", "(LPackTracer$Book;II)I"⟩, 6) := ⟨⟨by decide +kernel, by decide +kernel⟩, List.mem_of_getElem? (i := 223) (by decide +kernel), List.mem_of_getElem? (i := 614) (by decide +kernel), List.mem_of_getElem? (i := 615) (by decide +kernel)⟩
theorem lw_p42 : lw_okq (⟨"PackTracer$World", "objection", "(LPackTracer$Book;II)I"⟩, 6) := ⟨⟨by decide +kernel, by decide +kernel⟩, List.mem_of_getElem? (i := 223) (by decide +kernel), List.mem_of_getElem? (i := 618) (by decide +kernel), List.mem_of_getElem? (i := 619) (by decide +kernel)⟩
theorem lw_p43 : lw_okq (⟨"PackTracer$World", "isMade", "(I)Z"⟩, 6) := ⟨⟨by decide +kernel, by decide +kernel⟩, List.mem_of_getElem? (i := 223) (by decide +kernel), List.mem_of_getElem? (i := 622) (by decide +kernel), List.mem_of_getElem? (i := 623) (by decide +kernel)⟩
theorem lw_p44 : lw_okq (⟨"PackTracer$World", "has", "(II)Z"⟩, 6) := ⟨⟨by decide +kernel, by decide +kernel⟩, List.mem_of_getElem? (i := 223) (by decide +kernel), List.mem_of_getElem? (i := 626) (by decide +kernel), List.mem_of_getElem? (i := 627) (by decide +kernel)⟩
theorem lw_p45 : lw_okq (⟨"PackTracer$World", "topmost", "(I)I"⟩, 6) := ⟨⟨by decide +kernel, by decide +kernel⟩, List.mem_of_getElem? (i := 223) (by decide +kernel), List.mem_of_getElem? (i := 630) (by decide +kernel), List.mem_of_getElem? (i := 631) (by decide +kernel)⟩
theorem lw_p46 : lw_okq (⟨"PackTracer$World", "objectionToPack", "(LPackTracer$Book;II)I"⟩, 6) := ⟨⟨by decide +kernel, by decide +kernel⟩, List.mem_of_getElem? (i := 223) (by decide +kernel), List.mem_of_getElem? (i := 634) (by decide +kernel), List.mem_of_getElem? (i := 635) (by decide +kernel)⟩
theorem lw_p47 : lw_okq (⟨"PackTracer$World", "heldAtOnce", "(I)I"⟩, 6) := ⟨⟨by decide +kernel, by decide +kernel⟩, List.mem_of_getElem? (i := 223) (by decide +kernel), List.mem_of_getElem? (i := 638) (by decide +kernel), List.mem_of_getElem? (i := 639) (by decide +kernel)⟩
def lw_privs_3 : List (MethodName × Nat) := [(⟨"PackTracer", "close", "(Z)I"⟩, 7), (⟨"PackTracer$Book", "joinRoads", "()V"⟩, 13), (⟨"PackTracer$Book", "become", "(LPackTracer$Book;)V"⟩, 13), (⟨"PackTracer$Story", "settle", "()V"⟩, 5), (⟨"PackTracer$Course", "takeHours", "(LPackTracer$Book;)V"⟩, 3), (⟨"PackTracer$Course", "arrange", "()V"⟩, 3), (⟨"PackTracer$World", "clear", "()V"⟩, 6), (⟨"PackTracer$Story", "step", "(I)I"⟩, 5), (⟨"PackTracer$Course", "hourAt", "(I)I"⟩, 3), (⟨"PackTracer$World", "look", "(LPackTracer$Book;II)I"⟩, 6), (⟨"PackTracer$World", "objection", "(LPackTracer$Book;II)I"⟩, 6), (⟨"PackTracer$World", "isMade", "(I)Z"⟩, 6), (⟨"PackTracer$World", "has", "(II)Z"⟩, 6), (⟨"PackTracer$World", "topmost", "(I)I"⟩, 6), (⟨"PackTracer$World", "objectionToPack", "(LPackTracer$Book;II)I"⟩, 6), (⟨"PackTracer$World", "heldAtOnce", "(I)I"⟩, 6)]
theorem lw_r3 : ∀ q ∈ lw_privs_3, lw_okq q := List.forall_mem_cons.mpr ⟨lw_p32, List.forall_mem_cons.mpr ⟨lw_p33, List.forall_mem_cons.mpr ⟨lw_p34, List.forall_mem_cons.mpr ⟨lw_p35, List.forall_mem_cons.mpr ⟨lw_p36, List.forall_mem_cons.mpr ⟨lw_p37, List.forall_mem_cons.mpr ⟨lw_p38, List.forall_mem_cons.mpr ⟨lw_p39, List.forall_mem_cons.mpr ⟨lw_p40, List.forall_mem_cons.mpr ⟨lw_p41, List.forall_mem_cons.mpr ⟨lw_p42, List.forall_mem_cons.mpr ⟨lw_p43, List.forall_mem_cons.mpr ⟨lw_p44, List.forall_mem_cons.mpr ⟨lw_p45, List.forall_mem_cons.mpr ⟨lw_p46, List.forall_mem_cons.mpr ⟨lw_p47, fun _ h => absurd h List.not_mem_nil⟩⟩⟩⟩⟩⟩⟩⟩⟩⟩⟩⟩⟩⟩⟩⟩
theorem lw_p48 : lw_okq (⟨"PackTracer$World", "isQuarantinedWithin", "(I)Z"⟩, 6) := ⟨⟨by decide +kernel, by decide +kernel⟩, List.mem_of_getElem? (i := 223) (by decide +kernel), List.mem_of_getElem? (i := 642) (by decide +kernel), List.mem_of_getElem? (i := 643) (by decide +kernel)⟩
theorem lw_p49 : lw_okq (⟨"PackTracer$World", "isIn", "(II)Z"⟩, 6) := ⟨⟨by decide +kernel, by decide +kernel⟩, List.mem_of_getElem? (i := 223) (by decide +kernel), List.mem_of_getElem? (i := 646) (by decide +kernel), List.mem_of_getElem? (i := 647) (by decide +kernel)⟩
theorem lw_p50 : lw_okq (⟨"PackTracer$World", "isTooSoon", "(LPackTracer$Book;III)Z"⟩, 6) := ⟨⟨by decide +kernel, by decide +kernel⟩, List.mem_of_getElem? (i := 223) (by decide +kernel), List.mem_of_getElem? (i := 650) (by decide +kernel), List.mem_of_getElem? (i := 651) (by decide +kernel)⟩
theorem lw_p51 : lw_okq (⟨"PackTracer$World", "carryOut", "(LPackTracer$Book;II)V"⟩, 6) := ⟨⟨by decide +kernel, by decide +kernel⟩, List.mem_of_getElem? (i := 223) (by decide +kernel), List.mem_of_getElem? (i := 655) (by decide +kernel), List.mem_of_getElem? (i := 656) (by decide +kernel)⟩
theorem lw_p52 : lw_okq (⟨"PackTracer$World", "stand", "(III)V"⟩, 6) := ⟨⟨by decide +kernel, by decide +kernel⟩, List.mem_of_getElem? (i := 223) (by decide +kernel), List.mem_of_getElem? (i := 659) (by decide +kernel), List.mem_of_getElem? (i := 660) (by decide +kernel)⟩
theorem lw_p53 : lw_okq (⟨"PackTracer$World", "openAround", "(I)V"⟩, 6) := ⟨⟨by decide +kernel, by decide +kernel⟩, List.mem_of_getElem? (i := 223) (by decide +kernel), List.mem_of_getElem? (i := 663) (by decide +kernel), List.mem_of_getElem? (i := 664) (by decide +kernel)⟩
theorem lw_p54 : lw_okq (⟨"PackTracer$World", "mark", "(II)V"⟩, 6) := ⟨⟨by decide +kernel, by decide +kernel⟩, List.mem_of_getElem? (i := 223) (by decide +kernel), List.mem_of_getElem? (i := 667) (by decide +kernel), List.mem_of_getElem? (i := 668) (by decide +kernel)⟩
theorem lw_p55 : lw_okq (⟨"PackTracer$World", "unmark", "(II)V"⟩, 6) := ⟨⟨by decide +kernel, by decide +kernel⟩, List.mem_of_getElem? (i := 223) (by decide +kernel), List.mem_of_getElem? (i := 671) (by decide +kernel), List.mem_of_getElem? (i := 672) (by decide +kernel)⟩
theorem lw_p56 : lw_okq (⟨"PackTracer$World", "looseWith", "(I)I"⟩, 6) := ⟨⟨by decide +kernel, by decide +kernel⟩, List.mem_of_getElem? (i := 223) (by decide +kernel), List.mem_of_getElem? (i := 675) (by decide +kernel), List.mem_of_getElem? (i := 676) (by decide +kernel)⟩
theorem lw_p57 : lw_okq (⟨"PackTracer$World", "endWithAllIn", "(I)V"⟩, 6) := ⟨⟨by decide +kernel, by decide +kernel⟩, List.mem_of_getElem? (i := 223) (by decide +kernel), List.mem_of_getElem? (i := 679) (by decide +kernel), List.mem_of_getElem? (i := 680) (by decide +kernel)⟩
theorem lw_p58 : lw_okq (⟨"PackTracer$Blame", "forget", "()V"⟩, 12) := ⟨⟨by decide +kernel, by decide +kernel⟩, List.mem_of_getElem? (i := 306) (by decide +kernel), List.mem_of_getElem? (i := 683) (by decide +kernel), List.mem_of_getElem? (i := 684) (by decide +kernel)⟩
theorem lw_p59 : lw_okq (⟨"PackTracer$Story", "worldBy", "(I)LPackTracer$World;"⟩, 5) := ⟨⟨by decide +kernel, by decide +kernel⟩, List.mem_of_getElem? (i := 194) (by decide +kernel), List.mem_of_getElem? (i := 711) (by decide +kernel), List.mem_of_getElem? (i := 712) (by decide +kernel)⟩
theorem lw_p60 : lw_okq (⟨"PackTracer$Story", "goTo", "(I)I"⟩, 5) := ⟨⟨by decide +kernel, by decide +kernel⟩, List.mem_of_getElem? (i := 194) (by decide +kernel), List.mem_of_getElem? (i := 715) (by decide +kernel), List.mem_of_getElem? (i := 716) (by decide +kernel)⟩
theorem lw_p61 : lw_okq (⟨"PackTracer$World", "tellOf", "(II)I"⟩, 6) := ⟨⟨by decide +kernel, by decide +kernel⟩, List.mem_of_getElem? (i := 223) (by decide +kernel), List.mem_of_getElem? (i := 719) (by decide +kernel), List.mem_of_getElem? (i := 720) (by decide +kernel)⟩
theorem lw_p62 : lw_okq (⟨"PackTracer$World", "whereIs", "(I)I"⟩, 6) := ⟨⟨by decide +kernel, by decide +kernel⟩, List.mem_of_getElem? (i := 223) (by decide +kernel), List.mem_of_getElem? (i := 723) (by decide +kernel), List.mem_of_getElem? (i := 724) (by decide +kernel)⟩
theorem lw_p63 : lw_okq (⟨"PackTracer$World", "knownAt", "(I)I"⟩, 6) := ⟨⟨by decide +kernel, by decide +kernel⟩, List.mem_of_getElem? (i := 223) (by decide +kernel), List.mem_of_getElem? (i := 727) (by decide +kernel), List.mem_of_getElem? (i := 728) (by decide +kernel)⟩
def lw_privs_4 : List (MethodName × Nat) := [(⟨"PackTracer$World", "isQuarantinedWithin", "(I)Z"⟩, 6), (⟨"PackTracer$World", "isIn", "(II)Z"⟩, 6), (⟨"PackTracer$World", "isTooSoon", "(LPackTracer$Book;III)Z"⟩, 6), (⟨"PackTracer$World", "carryOut", "(LPackTracer$Book;II)V"⟩, 6), (⟨"PackTracer$World", "stand", "(III)V"⟩, 6), (⟨"PackTracer$World", "openAround", "(I)V"⟩, 6), (⟨"PackTracer$World", "mark", "(II)V"⟩, 6), (⟨"PackTracer$World", "unmark", "(II)V"⟩, 6), (⟨"PackTracer$World", "looseWith", "(I)I"⟩, 6), (⟨"PackTracer$World", "endWithAllIn", "(I)V"⟩, 6), (⟨"PackTracer$Blame", "forget", "()V"⟩, 12), (⟨"PackTracer$Story", "worldBy", "(I)LPackTracer$World;"⟩, 5), (⟨"PackTracer$Story", "goTo", "(I)I"⟩, 5), (⟨"PackTracer$World", "tellOf", "(II)I"⟩, 6), (⟨"PackTracer$World", "whereIs", "(I)I"⟩, 6), (⟨"PackTracer$World", "knownAt", "(I)I"⟩, 6)]
theorem lw_r4 : ∀ q ∈ lw_privs_4, lw_okq q := List.forall_mem_cons.mpr ⟨lw_p48, List.forall_mem_cons.mpr ⟨lw_p49, List.forall_mem_cons.mpr ⟨lw_p50, List.forall_mem_cons.mpr ⟨lw_p51, List.forall_mem_cons.mpr ⟨lw_p52, List.forall_mem_cons.mpr ⟨lw_p53, List.forall_mem_cons.mpr ⟨lw_p54, List.forall_mem_cons.mpr ⟨lw_p55, List.forall_mem_cons.mpr ⟨lw_p56, List.forall_mem_cons.mpr ⟨lw_p57, List.forall_mem_cons.mpr ⟨lw_p58, List.forall_mem_cons.mpr ⟨lw_p59, List.forall_mem_cons.mpr ⟨lw_p60, List.forall_mem_cons.mpr ⟨lw_p61, List.forall_mem_cons.mpr ⟨lw_p62, List.forall_mem_cons.mpr ⟨lw_p63, fun _ h => absurd h List.not_mem_nil⟩⟩⟩⟩⟩⟩⟩⟩⟩⟩⟩⟩⟩⟩⟩⟩
theorem lw_p64 : lw_okq (⟨"PackTracer$World", "contents", "(I)J"⟩, 6) := ⟨⟨by decide +kernel, by decide +kernel⟩, List.mem_of_getElem? (i := 223) (by decide +kernel), List.mem_of_getElem? (i := 731) (by decide +kernel), List.mem_of_getElem? (i := 732) (by decide +kernel)⟩
theorem lw_p65 : lw_okq (⟨"PackTracer", "isWhereabouts", "(I)Z"⟩, 7) := ⟨⟨by decide +kernel, by decide +kernel⟩, List.mem_of_getElem? (i := 26) (by decide +kernel), List.mem_of_getElem? (i := 753) (by decide +kernel), List.mem_of_getElem? (i := 754) (by decide +kernel)⟩
theorem lw_p66 : lw_okq (⟨"PackTracer", "isPlaceOrSold", "(I)Z"⟩, 7) := ⟨⟨by decide +kernel, by decide +kernel⟩, List.mem_of_getElem? (i := 26) (by decide +kernel), List.mem_of_getElem? (i := 757) (by decide +kernel), List.mem_of_getElem? (i := 758) (by decide +kernel)⟩
theorem lw_p67 : lw_okq (⟨"PackTracer$World", "allAt", "(I)J"⟩, 6) := ⟨⟨by decide +kernel, by decide +kernel⟩, List.mem_of_getElem? (i := 223) (by decide +kernel), List.mem_of_getElem? (i := 761) (by decide +kernel), List.mem_of_getElem? (i := 762) (by decide +kernel)⟩
theorem lw_p68 : lw_okq (⟨"PackTracer$World", "tally", "(I)I"⟩, 6) := ⟨⟨by decide +kernel, by decide +kernel⟩, List.mem_of_getElem? (i := 223) (by decide +kernel), List.mem_of_getElem? (i := 769) (by decide +kernel), List.mem_of_getElem? (i := 770) (by decide +kernel)⟩
theorem lw_p69 : lw_okq (⟨"PackTracer$World", "isSo", "(II)Z"⟩, 6) := ⟨⟨by decide +kernel, by decide +kernel⟩, List.mem_of_getElem? (i := 223) (by decide +kernel), List.mem_of_getElem? (i := 773) (by decide +kernel), List.mem_of_getElem? (i := 774) (by decide +kernel)⟩
theorem lw_p70 : lw_okq (⟨"PackTracer$Story", "trailEntry", "(IIZ)I"⟩, 5) := ⟨⟨by decide +kernel, by decide +kernel⟩, List.mem_of_getElem? (i := 194) (by decide +kernel), List.mem_of_getElem? (i := 781) (by decide +kernel), List.mem_of_getElem? (i := 782) (by decide +kernel)⟩
theorem lw_p71 : lw_okq (⟨"PackTracer$Story", "worldOfFirst", "(I)LPackTracer$World;"⟩, 5) := ⟨⟨by decide +kernel, by decide +kernel⟩, List.mem_of_getElem? (i := 194) (by decide +kernel), List.mem_of_getElem? (i := 790) (by decide +kernel), List.mem_of_getElem? (i := 791) (by decide +kernel)⟩
theorem lw_p72 : lw_okq (⟨"PackTracer$Book", "hasMessage", "(I)Z"⟩, 13) := ⟨⟨by decide +kernel, by decide +kernel⟩, List.mem_of_getElem? (i := 51) (by decide +kernel), List.mem_of_getElem? (i := 799) (by decide +kernel), List.mem_of_getElem? (i := 800) (by decide +kernel)⟩
theorem lw_p73 : lw_okq (⟨"PackTracer$Story", "thingsChangedBy", "(I)I"⟩, 5) := ⟨⟨by decide +kernel, by decide +kernel⟩, List.mem_of_getElem? (i := 194) (by decide +kernel), List.mem_of_getElem? (i := 803) (by decide +kernel), List.mem_of_getElem? (i := 804) (by decide +kernel)⟩
theorem lw_p74 : lw_okq (⟨"PackTracer$World", "become", "(LPackTracer$World;)V"⟩, 6) := ⟨⟨by decide +kernel, by decide +kernel⟩, List.mem_of_getElem? (i := 223) (by decide +kernel), List.mem_of_getElem? (i := 808) (by decide +kernel), List.mem_of_getElem? (i := 809) (by decide +kernel)⟩
theorem lw_p75 : lw_okq (⟨"PackTracer$Guess", "placeWithout", "(II)I"⟩, 7) := ⟨⟨by decide +kernel, by decide +kernel⟩, List.mem_of_getElem? (i := 271) (by decide +kernel), List.mem_of_getElem? (i := 817) (by decide +kernel), List.mem_of_getElem? (i := 818) (by decide +kernel)⟩
theorem lw_p76 : lw_okq (⟨"PackTracer$Guess", "lastVerdictWithout", "(II)I"⟩, 7) := ⟨⟨by decide +kernel, by decide +kernel⟩, List.mem_of_getElem? (i := 271) (by decide +kernel), List.mem_of_getElem? (i := 821) (by decide +kernel), List.mem_of_getElem? (i := 822) (by decide +kernel)⟩
theorem lw_p77 : lw_okq (⟨"PackTracer$Story", "verdicts", "(I)I"⟩, 5) := ⟨⟨by decide +kernel, by decide +kernel⟩, List.mem_of_getElem? (i := 194) (by decide +kernel), List.mem_of_getElem? (i := 832) (by decide +kernel), List.mem_of_getElem? (i := 833) (by decide +kernel)⟩
theorem lw_p78 : lw_okq (⟨"PackTracer$Blame", "findOne", "()V"⟩, 12) := ⟨⟨by decide +kernel, by decide +kernel⟩, List.mem_of_getElem? (i := 306) (by decide +kernel), List.mem_of_getElem? (i := 840) (by decide +kernel), List.mem_of_getElem? (i := 841) (by decide +kernel)⟩
theorem lw_p79 : lw_okq (⟨"PackTracer$Blame", "refusedBehind", "(III)I"⟩, 12) := ⟨⟨by decide +kernel, by decide +kernel⟩, List.mem_of_getElem? (i := 306) (by decide +kernel), List.mem_of_getElem? (i := 846) (by decide +kernel), List.mem_of_getElem? (i := 847) (by decide +kernel)⟩
def lw_privs_5 : List (MethodName × Nat) := [(⟨"PackTracer$World", "contents", "(I)J"⟩, 6), (⟨"PackTracer", "isWhereabouts", "(I)Z"⟩, 7), (⟨"PackTracer", "isPlaceOrSold", "(I)Z"⟩, 7), (⟨"PackTracer$World", "allAt", "(I)J"⟩, 6), (⟨"PackTracer$World", "tally", "(I)I"⟩, 6), (⟨"PackTracer$World", "isSo", "(II)Z"⟩, 6), (⟨"PackTracer$Story", "trailEntry", "(IIZ)I"⟩, 5), (⟨"PackTracer$Story", "worldOfFirst", "(I)LPackTracer$World;"⟩, 5), (⟨"PackTracer$Book", "hasMessage", "(I)Z"⟩, 13), (⟨"PackTracer$Story", "thingsChangedBy", "(I)I"⟩, 5), (⟨"PackTracer$World", "become", "(LPackTracer$World;)V"⟩, 6), (⟨"PackTracer$Guess", "placeWithout", "(II)I"⟩, 7), (⟨"PackTracer$Guess", "lastVerdictWithout", "(II)I"⟩, 7), (⟨"PackTracer$Story", "verdicts", "(I)I"⟩, 5), (⟨"PackTracer$Blame", "findOne", "()V"⟩, 12), (⟨"PackTracer$Blame", "refusedBehind", "(III)I"⟩, 12)]
theorem lw_r5 : ∀ q ∈ lw_privs_5, lw_okq q := List.forall_mem_cons.mpr ⟨lw_p64, List.forall_mem_cons.mpr ⟨lw_p65, List.forall_mem_cons.mpr ⟨lw_p66, List.forall_mem_cons.mpr ⟨lw_p67, List.forall_mem_cons.mpr ⟨lw_p68, List.forall_mem_cons.mpr ⟨lw_p69, List.forall_mem_cons.mpr ⟨lw_p70, List.forall_mem_cons.mpr ⟨lw_p71, List.forall_mem_cons.mpr ⟨lw_p72, List.forall_mem_cons.mpr ⟨lw_p73, List.forall_mem_cons.mpr ⟨lw_p74, List.forall_mem_cons.mpr ⟨lw_p75, List.forall_mem_cons.mpr ⟨lw_p76, List.forall_mem_cons.mpr ⟨lw_p77, List.forall_mem_cons.mpr ⟨lw_p78, List.forall_mem_cons.mpr ⟨lw_p79, fun _ h => absurd h List.not_mem_nil⟩⟩⟩⟩⟩⟩⟩⟩⟩⟩⟩⟩⟩⟩⟩⟩
theorem lw_p80 : lw_okq (⟨"PackTracer$Blame", "refusalAt", "(ILPackTracer$World;)I"⟩, 12) := ⟨⟨by decide +kernel, by decide +kernel⟩, List.mem_of_getElem? (i := 306) (by decide +kernel), List.mem_of_getElem? (i := 852) (by decide +kernel), List.mem_of_getElem? (i := 853) (by decide +kernel)⟩
theorem lw_p81 : lw_okq (⟨"PackTracer$Blame", "findTwo", "()V"⟩, 12) := ⟨⟨by decide +kernel, by decide +kernel⟩, List.mem_of_getElem? (i := 306) (by decide +kernel), List.mem_of_getElem? (i := 860) (by decide +kernel), List.mem_of_getElem? (i := 861) (by decide +kernel)⟩
theorem lw_p82 : lw_okq (⟨"PackTracer$Blame", "tryPairsWith", "(II)V"⟩, 12) := ⟨⟨by decide +kernel, by decide +kernel⟩, List.mem_of_getElem? (i := 306) (by decide +kernel), List.mem_of_getElem? (i := 864) (by decide +kernel), List.mem_of_getElem? (i := 865) (by decide +kernel)⟩
theorem lw_p83 : lw_okq (⟨"PackTracer$Blame", "propose", "(III)V"⟩, 12) := ⟨⟨by decide +kernel, by decide +kernel⟩, List.mem_of_getElem? (i := 306) (by decide +kernel), List.mem_of_getElem? (i := 870) (by decide +kernel), List.mem_of_getElem? (i := 871) (by decide +kernel)⟩
theorem lw_p84 : lw_okq (⟨"PackTracer$Story", "allMet", "(II)J"⟩, 5) := ⟨⟨by decide +kernel, by decide +kernel⟩, List.mem_of_getElem? (i := 194) (by decide +kernel), List.mem_of_getElem? (i := 878) (by decide +kernel), List.mem_of_getElem? (i := 879) (by decide +kernel)⟩
theorem lw_p85 : lw_okq (⟨"PackTracer$World", "withCompany", "(J)J"⟩, 6) := ⟨⟨by decide +kernel, by decide +kernel⟩, List.mem_of_getElem? (i := 223) (by decide +kernel), List.mem_of_getElem? (i := 884) (by decide +kernel), List.mem_of_getElem? (i := 885) (by decide +kernel)⟩
theorem lw_p86 : lw_okq (⟨"PackTracer$Story", "allHeld", "(III)J"⟩, 5) := ⟨⟨by decide +kernel, by decide +kernel⟩, List.mem_of_getElem? (i := 194) (by decide +kernel), List.mem_of_getElem? (i := 892) (by decide +kernel), List.mem_of_getElem? (i := 893) (by decide +kernel)⟩
theorem lw_p87 : lw_okq (⟨"PackTracer$Story", "mostHeld", "(I)I"⟩, 5) := ⟨⟨by decide +kernel, by decide +kernel⟩, List.mem_of_getElem? (i := 194) (by decide +kernel), List.mem_of_getElem? (i := 901) (by decide +kernel), List.mem_of_getElem? (i := 902) (by decide +kernel)⟩
theorem lw_p88 : lw_okq (⟨"PackTracer$Story", "heldSince", "(II)I"⟩, 5) := ⟨⟨by decide +kernel, by decide +kernel⟩, List.mem_of_getElem? (i := 194) (by decide +kernel), List.mem_of_getElem? (i := 911) (by decide +kernel), List.mem_of_getElem? (i := 912) (by decide +kernel)⟩
theorem lw_p89 : lw_okq (⟨"PackTracer$World", "clumpsAt", "(I)I"⟩, 6) := ⟨⟨by decide +kernel, by decide +kernel⟩, List.mem_of_getElem? (i := 223) (by decide +kernel), List.mem_of_getElem? (i := 919) (by decide +kernel), List.mem_of_getElem? (i := 920) (by decide +kernel)⟩
theorem lw_p90 : lw_okq (⟨"PackTracer$Story", "hoursAt", "(II)I"⟩, 5) := ⟨⟨by decide +kernel, by decide +kernel⟩, List.mem_of_getElem? (i := 194) (by decide +kernel), List.mem_of_getElem? (i := 927) (by decide +kernel), List.mem_of_getElem? (i := 928) (by decide +kernel)⟩
theorem lw_p91 : lw_okq (⟨"PackTracer$Book", "latestHour", "()I"⟩, 13) := ⟨⟨by decide +kernel, by decide +kernel⟩, List.mem_of_getElem? (i := 51) (by decide +kernel), List.mem_of_getElem? (i := 931) (by decide +kernel), List.mem_of_getElem? (i := 932) (by decide +kernel)⟩
theorem lw_p92 : lw_okq (⟨"PackTracer$Story", "passages", "(II)I"⟩, 5) := ⟨⟨by decide +kernel, by decide +kernel⟩, List.mem_of_getElem? (i := 194) (by decide +kernel), List.mem_of_getElem? (i := 940) (by decide +kernel), List.mem_of_getElem? (i := 941) (by decide +kernel)⟩
theorem lw_p93 : lw_okq (⟨"PackTracer$Guess", "deciding", "(I)J"⟩, 7) := ⟨⟨by decide +kernel, by decide +kernel⟩, List.mem_of_getElem? (i := 271) (by decide +kernel), List.mem_of_getElem? (i := 949) (by decide +kernel), List.mem_of_getElem? (i := 950) (by decide +kernel)⟩
theorem lw_p94 : lw_okq (⟨"PackTracer$Course", "spotOf", "(I)I"⟩, 3) := ⟨⟨by decide +kernel, by decide +kernel⟩, List.mem_of_getElem? (i := 200) (by decide +kernel), List.mem_of_getElem? (i := 953) (by decide +kernel), List.mem_of_getElem? (i := 954) (by decide +kernel)⟩
theorem lw_p95 : lw_okq (⟨"PackTracer$Guess", "outcomeAt", "(III)I"⟩, 7) := ⟨⟨by decide +kernel, by decide +kernel⟩, List.mem_of_getElem? (i := 271) (by decide +kernel), List.mem_of_getElem? (i := 965) (by decide +kernel), List.mem_of_getElem? (i := 966) (by decide +kernel)⟩
def lw_privs_6 : List (MethodName × Nat) := [(⟨"PackTracer$Blame", "refusalAt", "(ILPackTracer$World;)I"⟩, 12), (⟨"PackTracer$Blame", "findTwo", "()V"⟩, 12), (⟨"PackTracer$Blame", "tryPairsWith", "(II)V"⟩, 12), (⟨"PackTracer$Blame", "propose", "(III)V"⟩, 12), (⟨"PackTracer$Story", "allMet", "(II)J"⟩, 5), (⟨"PackTracer$World", "withCompany", "(J)J"⟩, 6), (⟨"PackTracer$Story", "allHeld", "(III)J"⟩, 5), (⟨"PackTracer$Story", "mostHeld", "(I)I"⟩, 5), (⟨"PackTracer$Story", "heldSince", "(II)I"⟩, 5), (⟨"PackTracer$World", "clumpsAt", "(I)I"⟩, 6), (⟨"PackTracer$Story", "hoursAt", "(II)I"⟩, 5), (⟨"PackTracer$Book", "latestHour", "()I"⟩, 13), (⟨"PackTracer$Story", "passages", "(II)I"⟩, 5), (⟨"PackTracer$Guess", "deciding", "(I)J"⟩, 7), (⟨"PackTracer$Course", "spotOf", "(I)I"⟩, 3), (⟨"PackTracer$Guess", "outcomeAt", "(III)I"⟩, 7)]
theorem lw_r6 : ∀ q ∈ lw_privs_6, lw_okq q := List.forall_mem_cons.mpr ⟨lw_p80, List.forall_mem_cons.mpr ⟨lw_p81, List.forall_mem_cons.mpr ⟨lw_p82, List.forall_mem_cons.mpr ⟨lw_p83, List.forall_mem_cons.mpr ⟨lw_p84, List.forall_mem_cons.mpr ⟨lw_p85, List.forall_mem_cons.mpr ⟨lw_p86, List.forall_mem_cons.mpr ⟨lw_p87, List.forall_mem_cons.mpr ⟨lw_p88, List.forall_mem_cons.mpr ⟨lw_p89, List.forall_mem_cons.mpr ⟨lw_p90, List.forall_mem_cons.mpr ⟨lw_p91, List.forall_mem_cons.mpr ⟨lw_p92, List.forall_mem_cons.mpr ⟨lw_p93, List.forall_mem_cons.mpr ⟨lw_p94, List.forall_mem_cons.mpr ⟨lw_p95, fun _ h => absurd h List.not_mem_nil⟩⟩⟩⟩⟩⟩⟩⟩⟩⟩⟩⟩⟩⟩⟩⟩
theorem lw_p96 : lw_okq (⟨"PackTracer$Guess", "outcome", "(I)I"⟩, 7) := ⟨⟨by decide +kernel, by decide +kernel⟩, List.mem_of_getElem? (i := 271) (by decide +kernel), List.mem_of_getElem? (i := 970) (by decide +kernel), List.mem_of_getElem? (i := 971) (by decide +kernel)⟩
theorem lw_p97 : lw_okq (⟨"PackTracer$Guess", "openWindow", "(I)V"⟩, 7) := ⟨⟨by decide +kernel, by decide +kernel⟩, List.mem_of_getElem? (i := 271) (by decide +kernel), List.mem_of_getElem? (i := 980) (by decide +kernel), List.mem_of_getElem? (i := 981) (by decide +kernel)⟩
theorem lw_p98 : lw_okq (⟨"PackTracer$Guess", "isAheadOf", "(III)Z"⟩, 7) := ⟨⟨by decide +kernel, by decide +kernel⟩, List.mem_of_getElem? (i := 271) (by decide +kernel), List.mem_of_getElem? (i := 985) (by decide +kernel), List.mem_of_getElem? (i := 986) (by decide +kernel)⟩
theorem lw_p99 : lw_okq (⟨"PackTracer$World", "allKnownBy", "(I)J"⟩, 6) := ⟨⟨by decide +kernel, by decide +kernel⟩, List.mem_of_getElem? (i := 223) (by decide +kernel), List.mem_of_getElem? (i := 993) (by decide +kernel), List.mem_of_getElem? (i := 994) (by decide +kernel)⟩
theorem lw_p100 : lw_okq (⟨"PackTracer$Guess", "outcomeSwapped", "(III)I"⟩, 7) := ⟨⟨by decide +kernel, by decide +kernel⟩, List.mem_of_getElem? (i := 271) (by decide +kernel), List.mem_of_getElem? (i := 1001) (by decide +kernel), List.mem_of_getElem? (i := 1002) (by decide +kernel)⟩
theorem lw_p101 : lw_okq (⟨"PackTracer$Story", "busiest", "(IZ)I"⟩, 5) := ⟨⟨by decide +kernel, by decide +kernel⟩, List.mem_of_getElem? (i := 194) (by decide +kernel), List.mem_of_getElem? (i := 1009) (by decide +kernel), List.mem_of_getElem? (i := 1010) (by decide +kernel)⟩
theorem lw_p102 : lw_okq (⟨"PackTracer$Story", "hoursOnWays", "(I)I"⟩, 5) := ⟨⟨by decide +kernel, by decide +kernel⟩, List.mem_of_getElem? (i := 194) (by decide +kernel), List.mem_of_getElem? (i := 1017) (by decide +kernel), List.mem_of_getElem? (i := 1018) (by decide +kernel)⟩
theorem lw_p103 : lw_okq (⟨"PackTracer$Story", "clashOf", "(II)I"⟩, 5) := ⟨⟨by decide +kernel, by decide +kernel⟩, List.mem_of_getElem? (i := 194) (by decide +kernel), List.mem_of_getElem? (i := 1026) (by decide +kernel), List.mem_of_getElem? (i := 1027) (by decide +kernel)⟩
theorem lw_p104 : lw_okq (⟨"PackTracer$Book", "lateOnes", "()I"⟩, 13) := ⟨⟨by decide +kernel, by decide +kernel⟩, List.mem_of_getElem? (i := 51) (by decide +kernel), List.mem_of_getElem? (i := 1040) (by decide +kernel), List.mem_of_getElem? (i := 1041) (by decide +kernel)⟩
theorem lw_p105 : lw_okq (⟨"PackTracer$Book", "isLate", "(I)Z"⟩, 13) := ⟨⟨by decide +kernel, by decide +kernel⟩, List.mem_of_getElem? (i := 51) (by decide +kernel), List.mem_of_getElem? (i := 1044) (by decide +kernel), List.mem_of_getElem? (i := 1045) (by decide +kernel)⟩
theorem lw_p106 : lw_okq (⟨"java/lang/Throwable", "fillInStackTrace", "(I)Ljava/lang/Throwable;"⟩, 6) := ⟨⟨by decide +kernel, by decide +kernel⟩, List.mem_of_getElem? (i := 1094) (by decide +kernel), List.mem_of_getElem? (i := 1092) (by decide +kernel), List.mem_of_getElem? (i := 1093) (by decide +kernel)⟩
theorem lw_p107 : lw_okq (⟨"PackTracerModel", "freshText", "()V"⟩, 45) := ⟨⟨by decide +kernel, by decide +kernel⟩, List.mem_of_getElem? (i := 1141) (by decide +kernel), List.mem_of_getElem? (i := 1147) (by decide +kernel), List.mem_of_getElem? (i := 1148) (by decide +kernel)⟩
theorem lw_p108 : lw_okq (⟨"PackTracerModel", "becomes", "()V"⟩, 45) := ⟨⟨by decide +kernel, by decide +kernel⟩, List.mem_of_getElem? (i := 1141) (by decide +kernel), List.mem_of_getElem? (i := 1152) (by decide +kernel), List.mem_of_getElem? (i := 1153) (by decide +kernel)⟩
theorem lw_p109 : lw_okq (⟨"PackTracerModel", "laysWays", "()V"⟩, 45) := ⟨⟨by decide +kernel, by decide +kernel⟩, List.mem_of_getElem? (i := 1141) (by decide +kernel), List.mem_of_getElem? (i := 1156) (by decide +kernel), List.mem_of_getElem? (i := 1157) (by decide +kernel)⟩
theorem lw_p110 : lw_okq (⟨"PackTracerModel", "reads", "(IZ)I"⟩, 45) := ⟨⟨by decide +kernel, by decide +kernel⟩, List.mem_of_getElem? (i := 1141) (by decide +kernel), List.mem_of_getElem? (i := 1305) (by decide +kernel), List.mem_of_getElem? (i := 1306) (by decide +kernel)⟩
theorem lw_p111 : lw_okq (⟨"PackTracerModel", "token", "()V"⟩, 45) := ⟨⟨by decide +kernel, by decide +kernel⟩, List.mem_of_getElem? (i := 1141) (by decide +kernel), List.mem_of_getElem? (i := 1309) (by decide +kernel), List.mem_of_getElem? (i := 1310) (by decide +kernel)⟩
def lw_privs_7 : List (MethodName × Nat) := [(⟨"PackTracer$Guess", "outcome", "(I)I"⟩, 7), (⟨"PackTracer$Guess", "openWindow", "(I)V"⟩, 7), (⟨"PackTracer$Guess", "isAheadOf", "(III)Z"⟩, 7), (⟨"PackTracer$World", "allKnownBy", "(I)J"⟩, 6), (⟨"PackTracer$Guess", "outcomeSwapped", "(III)I"⟩, 7), (⟨"PackTracer$Story", "busiest", "(IZ)I"⟩, 5), (⟨"PackTracer$Story", "hoursOnWays", "(I)I"⟩, 5), (⟨"PackTracer$Story", "clashOf", "(II)I"⟩, 5), (⟨"PackTracer$Book", "lateOnes", "()I"⟩, 13), (⟨"PackTracer$Book", "isLate", "(I)Z"⟩, 13), (⟨"java/lang/Throwable", "fillInStackTrace", "(I)Ljava/lang/Throwable;"⟩, 6), (⟨"PackTracerModel", "freshText", "()V"⟩, 45), (⟨"PackTracerModel", "becomes", "()V"⟩, 45), (⟨"PackTracerModel", "laysWays", "()V"⟩, 45), (⟨"PackTracerModel", "reads", "(IZ)I"⟩, 45), (⟨"PackTracerModel", "token", "()V"⟩, 45)]
theorem lw_r7 : ∀ q ∈ lw_privs_7, lw_okq q := List.forall_mem_cons.mpr ⟨lw_p96, List.forall_mem_cons.mpr ⟨lw_p97, List.forall_mem_cons.mpr ⟨lw_p98, List.forall_mem_cons.mpr ⟨lw_p99, List.forall_mem_cons.mpr ⟨lw_p100, List.forall_mem_cons.mpr ⟨lw_p101, List.forall_mem_cons.mpr ⟨lw_p102, List.forall_mem_cons.mpr ⟨lw_p103, List.forall_mem_cons.mpr ⟨lw_p104, List.forall_mem_cons.mpr ⟨lw_p105, List.forall_mem_cons.mpr ⟨lw_p106, List.forall_mem_cons.mpr ⟨lw_p107, List.forall_mem_cons.mpr ⟨lw_p108, List.forall_mem_cons.mpr ⟨lw_p109, List.forall_mem_cons.mpr ⟨lw_p110, List.forall_mem_cons.mpr ⟨lw_p111, fun _ h => absurd h List.not_mem_nil⟩⟩⟩⟩⟩⟩⟩⟩⟩⟩⟩⟩⟩⟩⟩⟩
theorem lw_p112 : lw_okq (⟨"PackTracerModel", "here", "()I"⟩, 45) := ⟨⟨by decide +kernel, by decide +kernel⟩, List.mem_of_getElem? (i := 1141) (by decide +kernel), List.mem_of_getElem? (i := 1313) (by decide +kernel), List.mem_of_getElem? (i := 1314) (by decide +kernel)⟩
theorem lw_p113 : lw_okq (⟨"PackTracerModel", "wordHere", "()I"⟩, 45) := ⟨⟨by decide +kernel, by decide +kernel⟩, List.mem_of_getElem? (i := 1141) (by decide +kernel), List.mem_of_getElem? (i := 1320) (by decide +kernel), List.mem_of_getElem? (i := 1321) (by decide +kernel)⟩
theorem lw_p114 : lw_okq (⟨"PackTracerModel", "readLine", "(Z)V"⟩, 45) := ⟨⟨by decide +kernel, by decide +kernel⟩, List.mem_of_getElem? (i := 1141) (by decide +kernel), List.mem_of_getElem? (i := 1330) (by decide +kernel), List.mem_of_getElem? (i := 1331) (by decide +kernel)⟩
theorem lw_p115 : lw_okq (⟨"PackTracerModel", "readMessage", "()V"⟩, 45) := ⟨⟨by decide +kernel, by decide +kernel⟩, List.mem_of_getElem? (i := 1141) (by decide +kernel), List.mem_of_getElem? (i := 1334) (by decide +kernel), List.mem_of_getElem? (i := 1335) (by decide +kernel)⟩
theorem lw_p116 : lw_okq (⟨"PackTracerModel", "wrong", "(I)V"⟩, 45) := ⟨⟨by decide +kernel, by decide +kernel⟩, List.mem_of_getElem? (i := 1141) (by decide +kernel), List.mem_of_getElem? (i := 1338) (by decide +kernel), List.mem_of_getElem? (i := 1339) (by decide +kernel)⟩
theorem lw_p117 : lw_okq (⟨"PackTracerModel", "goOn", "()V"⟩, 45) := ⟨⟨by decide +kernel, by decide +kernel⟩, List.mem_of_getElem? (i := 1141) (by decide +kernel), List.mem_of_getElem? (i := 1342) (by decide +kernel), List.mem_of_getElem? (i := 1343) (by decide +kernel)⟩
theorem lw_p118 : lw_okq (⟨"PackTracerModel", "number", "(II)I"⟩, 45) := ⟨⟨by decide +kernel, by decide +kernel⟩, List.mem_of_getElem? (i := 1141) (by decide +kernel), List.mem_of_getElem? (i := 1346) (by decide +kernel), List.mem_of_getElem? (i := 1347) (by decide +kernel)⟩
theorem lw_p119 : lw_okq (⟨"PackTracerModel", "kindHere", "()I"⟩, 45) := ⟨⟨by decide +kernel, by decide +kernel⟩, List.mem_of_getElem? (i := 1141) (by decide +kernel), List.mem_of_getElem? (i := 1350) (by decide +kernel), List.mem_of_getElem? (i := 1351) (by decide +kernel)⟩
theorem lw_p120 : lw_okq (⟨"PackTracerModel", "readPlace", "()I"⟩, 45) := ⟨⟨by decide +kernel, by decide +kernel⟩, List.mem_of_getElem? (i := 1141) (by decide +kernel), List.mem_of_getElem? (i := 1354) (by decide +kernel), List.mem_of_getElem? (i := 1355) (by decide +kernel)⟩
theorem lw_p121 : lw_okq (⟨"PackTracerModel", "placeHere", "()I"⟩, 45) := ⟨⟨by decide +kernel, by decide +kernel⟩, List.mem_of_getElem? (i := 1141) (by decide +kernel), List.mem_of_getElem? (i := 1358) (by decide +kernel), List.mem_of_getElem? (i := 1359) (by decide +kernel)⟩
theorem lw_p122 : lw_okq (⟨"PackTracerModel", "readNew", "()V"⟩, 45) := ⟨⟨by decide +kernel, by decide +kernel⟩, List.mem_of_getElem? (i := 1141) (by decide +kernel), List.mem_of_getElem? (i := 1362) (by decide +kernel), List.mem_of_getElem? (i := 1363) (by decide +kernel)⟩
theorem lw_p123 : lw_okq (⟨"PackTracerModel", "readRoad", "()V"⟩, 45) := ⟨⟨by decide +kernel, by decide +kernel⟩, List.mem_of_getElem? (i := 1141) (by decide +kernel), List.mem_of_getElem? (i := 1366) (by decide +kernel), List.mem_of_getElem? (i := 1367) (by decide +kernel)⟩
theorem lw_p124 : lw_okq (⟨"PackTracerModel", "readFits", "()V"⟩, 45) := ⟨⟨by decide +kernel, by decide +kernel⟩, List.mem_of_getElem? (i := 1141) (by decide +kernel), List.mem_of_getElem? (i := 1370) (by decide +kernel), List.mem_of_getElem? (i := 1371) (by decide +kernel)⟩
theorem lw_p125 : lw_okq (⟨"PackTracerModel", "isPlace", "(I)Z"⟩, 45) := ⟨⟨by decide +kernel, by decide +kernel⟩, List.mem_of_getElem? (i := 1141) (by decide +kernel), List.mem_of_getElem? (i := 1386) (by decide +kernel), List.mem_of_getElem? (i := 1387) (by decide +kernel)⟩
theorem lw_p126 : lw_okq (⟨"PackTracerModel", "messages", "()I"⟩, 45) := ⟨⟨by decide +kernel, by decide +kernel⟩, List.mem_of_getElem? (i := 1141) (by decide +kernel), List.mem_of_getElem? (i := 1394) (by decide +kernel), List.mem_of_getElem? (i := 1395) (by decide +kernel)⟩
theorem lw_p127 : lw_okq (⟨"PackTracerModel", "runsAll", "()V"⟩, 45) := ⟨⟨by decide +kernel, by decide +kernel⟩, List.mem_of_getElem? (i := 1141) (by decide +kernel), List.mem_of_getElem? (i := 1398) (by decide +kernel), List.mem_of_getElem? (i := 1399) (by decide +kernel)⟩
def lw_privs_8 : List (MethodName × Nat) := [(⟨"PackTracerModel", "here", "()I"⟩, 45), (⟨"PackTracerModel", "wordHere", "()I"⟩, 45), (⟨"PackTracerModel", "readLine", "(Z)V"⟩, 45), (⟨"PackTracerModel", "readMessage", "()V"⟩, 45), (⟨"PackTracerModel", "wrong", "(I)V"⟩, 45), (⟨"PackTracerModel", "goOn", "()V"⟩, 45), (⟨"PackTracerModel", "number", "(II)I"⟩, 45), (⟨"PackTracerModel", "kindHere", "()I"⟩, 45), (⟨"PackTracerModel", "readPlace", "()I"⟩, 45), (⟨"PackTracerModel", "placeHere", "()I"⟩, 45), (⟨"PackTracerModel", "readNew", "()V"⟩, 45), (⟨"PackTracerModel", "readRoad", "()V"⟩, 45), (⟨"PackTracerModel", "readFits", "()V"⟩, 45), (⟨"PackTracerModel", "isPlace", "(I)Z"⟩, 45), (⟨"PackTracerModel", "messages", "()I"⟩, 45), (⟨"PackTracerModel", "runsAll", "()V"⟩, 45)]
theorem lw_r8 : ∀ q ∈ lw_privs_8, lw_okq q := List.forall_mem_cons.mpr ⟨lw_p112, List.forall_mem_cons.mpr ⟨lw_p113, List.forall_mem_cons.mpr ⟨lw_p114, List.forall_mem_cons.mpr ⟨lw_p115, List.forall_mem_cons.mpr ⟨lw_p116, List.forall_mem_cons.mpr ⟨lw_p117, List.forall_mem_cons.mpr ⟨lw_p118, List.forall_mem_cons.mpr ⟨lw_p119, List.forall_mem_cons.mpr ⟨lw_p120, List.forall_mem_cons.mpr ⟨lw_p121, List.forall_mem_cons.mpr ⟨lw_p122, List.forall_mem_cons.mpr ⟨lw_p123, List.forall_mem_cons.mpr ⟨lw_p124, List.forall_mem_cons.mpr ⟨lw_p125, List.forall_mem_cons.mpr ⟨lw_p126, List.forall_mem_cons.mpr ⟨lw_p127, fun _ h => absurd h List.not_mem_nil⟩⟩⟩⟩⟩⟩⟩⟩⟩⟩⟩⟩⟩⟩⟩⟩
theorem lw_p128 : lw_okq (⟨"PackTracerModel", "takesAll", "()V"⟩, 45) := ⟨⟨by decide +kernel, by decide +kernel⟩, List.mem_of_getElem? (i := 1141) (by decide +kernel), List.mem_of_getElem? (i := 1402) (by decide +kernel), List.mem_of_getElem? (i := 1403) (by decide +kernel)⟩
theorem lw_p129 : lw_okq (⟨"PackTracerModel", "told", "(II)I"⟩, 45) := ⟨⟨by decide +kernel, by decide +kernel⟩, List.mem_of_getElem? (i := 1141) (by decide +kernel), List.mem_of_getElem? (i := 1406) (by decide +kernel), List.mem_of_getElem? (i := 1407) (by decide +kernel)⟩
theorem lw_p130 : lw_okq (⟨"PackTracerModel", "runs", "(I)V"⟩, 45) := ⟨⟨by decide +kernel, by decide +kernel⟩, List.mem_of_getElem? (i := 1141) (by decide +kernel), List.mem_of_getElem? (i := 1410) (by decide +kernel), List.mem_of_getElem? (i := 1411) (by decide +kernel)⟩
theorem lw_p131 : lw_okq (⟨"PackTracerModel", "clears", "()V"⟩, 45) := ⟨⟨by decide +kernel, by decide +kernel⟩, List.mem_of_getElem? (i := 1141) (by decide +kernel), List.mem_of_getElem? (i := 1414) (by decide +kernel), List.mem_of_getElem? (i := 1415) (by decide +kernel)⟩
theorem lw_p132 : lw_okq (⟨"PackTracerModel", "sorts", "()V"⟩, 45) := ⟨⟨by decide +kernel, by decide +kernel⟩, List.mem_of_getElem? (i := 1141) (by decide +kernel), List.mem_of_getElem? (i := 1418) (by decide +kernel), List.mem_of_getElem? (i := 1419) (by decide +kernel)⟩
theorem lw_p133 : lw_okq (⟨"PackTracerModel", "looks", "(I)V"⟩, 45) := ⟨⟨by decide +kernel, by decide +kernel⟩, List.mem_of_getElem? (i := 1141) (by decide +kernel), List.mem_of_getElem? (i := 1422) (by decide +kernel), List.mem_of_getElem? (i := 1423) (by decide +kernel)⟩
theorem lw_p134 : lw_okq (⟨"PackTracerModel", "reason", "(I)I"⟩, 45) := ⟨⟨by decide +kernel, by decide +kernel⟩, List.mem_of_getElem? (i := 1141) (by decide +kernel), List.mem_of_getElem? (i := 1426) (by decide +kernel), List.mem_of_getElem? (i := 1427) (by decide +kernel)⟩
theorem lw_p135 : lw_okq (⟨"PackTracerModel", "topOf", "(I)I"⟩, 45) := ⟨⟨by decide +kernel, by decide +kernel⟩, List.mem_of_getElem? (i := 1141) (by decide +kernel), List.mem_of_getElem? (i := 1430) (by decide +kernel), List.mem_of_getElem? (i := 1431) (by decide +kernel)⟩
theorem lw_p136 : lw_okq (⟨"PackTracerModel", "manyIn", "(I)I"⟩, 45) := ⟨⟨by decide +kernel, by decide +kernel⟩, List.mem_of_getElem? (i := 1141) (by decide +kernel), List.mem_of_getElem? (i := 1434) (by decide +kernel), List.mem_of_getElem? (i := 1435) (by decide +kernel)⟩
theorem lw_p137 : lw_okq (⟨"PackTracerModel", "isOneOf", "(IIII)Z"⟩, 45) := ⟨⟨by decide +kernel, by decide +kernel⟩, List.mem_of_getElem? (i := 1141) (by decide +kernel), List.mem_of_getElem? (i := 1438) (by decide +kernel), List.mem_of_getElem? (i := 1439) (by decide +kernel)⟩
theorem lw_p138 : lw_okq (⟨"PackTracerModel", "isSoon", "(III)Z"⟩, 45) := ⟨⟨by decide +kernel, by decide +kernel⟩, List.mem_of_getElem? (i := 1141) (by decide +kernel), List.mem_of_getElem? (i := 1442) (by decide +kernel), List.mem_of_getElem? (i := 1443) (by decide +kernel)⟩
theorem lw_p139 : lw_okq (⟨"PackTracerModel", "isHeld", "(I)Z"⟩, 45) := ⟨⟨by decide +kernel, by decide +kernel⟩, List.mem_of_getElem? (i := 1141) (by decide +kernel), List.mem_of_getElem? (i := 1446) (by decide +kernel), List.mem_of_getElem? (i := 1447) (by decide +kernel)⟩
theorem lw_p140 : lw_okq (⟨"PackTracerModel", "isWithin", "(II)Z"⟩, 45) := ⟨⟨by decide +kernel, by decide +kernel⟩, List.mem_of_getElem? (i := 1141) (by decide +kernel), List.mem_of_getElem? (i := 1450) (by decide +kernel), List.mem_of_getElem? (i := 1451) (by decide +kernel)⟩
theorem lw_p141 : lw_okq (⟨"PackTracerModel", "takes", "(IIIII)V"⟩, 45) := ⟨⟨by decide +kernel, by decide +kernel⟩, List.mem_of_getElem? (i := 1141) (by decide +kernel), List.mem_of_getElem? (i := 1454) (by decide +kernel), List.mem_of_getElem? (i := 1455) (by decide +kernel)⟩
theorem lw_p142 : lw_okq (⟨"PackTracerModel", "lies", "(III)V"⟩, 45) := ⟨⟨by decide +kernel, by decide +kernel⟩, List.mem_of_getElem? (i := 1141) (by decide +kernel), List.mem_of_getElem? (i := 1458) (by decide +kernel), List.mem_of_getElem? (i := 1459) (by decide +kernel)⟩
theorem lw_p143 : lw_okq (⟨"PackTracerModel", "comesOut", "(III)V"⟩, 45) := ⟨⟨by decide +kernel, by decide +kernel⟩, List.mem_of_getElem? (i := 1141) (by decide +kernel), List.mem_of_getElem? (i := 1462) (by decide +kernel), List.mem_of_getElem? (i := 1463) (by decide +kernel)⟩
def lw_privs_9 : List (MethodName × Nat) := [(⟨"PackTracerModel", "takesAll", "()V"⟩, 45), (⟨"PackTracerModel", "told", "(II)I"⟩, 45), (⟨"PackTracerModel", "runs", "(I)V"⟩, 45), (⟨"PackTracerModel", "clears", "()V"⟩, 45), (⟨"PackTracerModel", "sorts", "()V"⟩, 45), (⟨"PackTracerModel", "looks", "(I)V"⟩, 45), (⟨"PackTracerModel", "reason", "(I)I"⟩, 45), (⟨"PackTracerModel", "topOf", "(I)I"⟩, 45), (⟨"PackTracerModel", "manyIn", "(I)I"⟩, 45), (⟨"PackTracerModel", "isOneOf", "(IIII)Z"⟩, 45), (⟨"PackTracerModel", "isSoon", "(III)Z"⟩, 45), (⟨"PackTracerModel", "isHeld", "(I)Z"⟩, 45), (⟨"PackTracerModel", "isWithin", "(II)Z"⟩, 45), (⟨"PackTracerModel", "takes", "(IIIII)V"⟩, 45), (⟨"PackTracerModel", "lies", "(III)V"⟩, 45), (⟨"PackTracerModel", "comesOut", "(III)V"⟩, 45)]
theorem lw_r9 : ∀ q ∈ lw_privs_9, lw_okq q := List.forall_mem_cons.mpr ⟨lw_p128, List.forall_mem_cons.mpr ⟨lw_p129, List.forall_mem_cons.mpr ⟨lw_p130, List.forall_mem_cons.mpr ⟨lw_p131, List.forall_mem_cons.mpr ⟨lw_p132, List.forall_mem_cons.mpr ⟨lw_p133, List.forall_mem_cons.mpr ⟨lw_p134, List.forall_mem_cons.mpr ⟨lw_p135, List.forall_mem_cons.mpr ⟨lw_p136, List.forall_mem_cons.mpr ⟨lw_p137, List.forall_mem_cons.mpr ⟨lw_p138, List.forall_mem_cons.mpr ⟨lw_p139, List.forall_mem_cons.mpr ⟨lw_p140, List.forall_mem_cons.mpr ⟨lw_p141, List.forall_mem_cons.mpr ⟨lw_p142, List.forall_mem_cons.mpr ⟨lw_p143, fun _ h => absurd h List.not_mem_nil⟩⟩⟩⟩⟩⟩⟩⟩⟩⟩⟩⟩⟩⟩⟩⟩
theorem lw_p144 : lw_okq (⟨"PackTracerModel", "scans", "(III)V"⟩, 45) := ⟨⟨by decide +kernel, by decide +kernel⟩, List.mem_of_getElem? (i := 1141) (by decide +kernel), List.mem_of_getElem? (i := 1466) (by decide +kernel), List.mem_of_getElem? (i := 1467) (by decide +kernel)⟩
theorem lw_p145 : lw_okq (⟨"PackTracerModel", "ends", "(I)V"⟩, 45) := ⟨⟨by decide +kernel, by decide +kernel⟩, List.mem_of_getElem? (i := 1141) (by decide +kernel), List.mem_of_getElem? (i := 1470) (by decide +kernel), List.mem_of_getElem? (i := 1471) (by decide +kernel)⟩
theorem lw_p146 : lw_okq (⟨"PackTracerModel", "orderOf", "(I)I"⟩, 45) := ⟨⟨by decide +kernel, by decide +kernel⟩, List.mem_of_getElem? (i := 1141) (by decide +kernel), List.mem_of_getElem? (i := 1474) (by decide +kernel), List.mem_of_getElem? (i := 1475) (by decide +kernel)⟩
theorem lw_p147 : lw_okq (⟨"PackTracerModel", "isLate", "(I)Z"⟩, 45) := ⟨⟨by decide +kernel, by decide +kernel⟩, List.mem_of_getElem? (i := 1141) (by decide +kernel), List.mem_of_getElem? (i := 1478) (by decide +kernel), List.mem_of_getElem? (i := 1479) (by decide +kernel)⟩
theorem lw_p148 : lw_okq (⟨"PackTracerModel", "runsTo", "(I)V"⟩, 45) := ⟨⟨by decide +kernel, by decide +kernel⟩, List.mem_of_getElem? (i := 1141) (by decide +kernel), List.mem_of_getElem? (i := 1492) (by decide +kernel), List.mem_of_getElem? (i := 1493) (by decide +kernel)⟩
theorem lw_p149 : lw_okq (⟨"PackTracerModel", "whereIs", "(I)I"⟩, 45) := ⟨⟨by decide +kernel, by decide +kernel⟩, List.mem_of_getElem? (i := 1141) (by decide +kernel), List.mem_of_getElem? (i := 1496) (by decide +kernel), List.mem_of_getElem? (i := 1497) (by decide +kernel)⟩
theorem lw_p150 : lw_okq (⟨"PackTracerModel", "allIn", "(I)I"⟩, 45) := ⟨⟨by decide +kernel, by decide +kernel⟩, List.mem_of_getElem? (i := 1141) (by decide +kernel), List.mem_of_getElem? (i := 1500) (by decide +kernel), List.mem_of_getElem? (i := 1501) (by decide +kernel)⟩
theorem lw_p151 : lw_okq (⟨"PackTracerModel", "isSo", "(II)Z"⟩, 45) := ⟨⟨by decide +kernel, by decide +kernel⟩, List.mem_of_getElem? (i := 1141) (by decide +kernel), List.mem_of_getElem? (i := 1516) (by decide +kernel), List.mem_of_getElem? (i := 1517) (by decide +kernel)⟩
theorem lw_p152 : lw_okq (⟨"PackTracerModel", "laysTrail", "(I)V"⟩, 45) := ⟨⟨by decide +kernel, by decide +kernel⟩, List.mem_of_getElem? (i := 1141) (by decide +kernel), List.mem_of_getElem? (i := 1524) (by decide +kernel), List.mem_of_getElem? (i := 1525) (by decide +kernel)⟩
theorem lw_p153 : lw_okq (⟨"PackTracerModel", "latest", "()I"⟩, 45) := ⟨⟨by decide +kernel, by decide +kernel⟩, List.mem_of_getElem? (i := 1141) (by decide +kernel), List.mem_of_getElem? (i := 1532) (by decide +kernel), List.mem_of_getElem? (i := 1533) (by decide +kernel)⟩
theorem lw_p154 : lw_okq (⟨"PackTracerModel", "runsFirst", "(I)V"⟩, 45) := ⟨⟨by decide +kernel, by decide +kernel⟩, List.mem_of_getElem? (i := 1141) (by decide +kernel), List.mem_of_getElem? (i := 1544) (by decide +kernel), List.mem_of_getElem? (i := 1545) (by decide +kernel)⟩
theorem lw_p155 : lw_okq (⟨"PackTracerModel", "runsWithout", "(II)V"⟩, 45) := ⟨⟨by decide +kernel, by decide +kernel⟩, List.mem_of_getElem? (i := 1141) (by decide +kernel), List.mem_of_getElem? (i := 1556) (by decide +kernel), List.mem_of_getElem? (i := 1557) (by decide +kernel)⟩
theorem lw_p156 : lw_okq (⟨"PackTracerModel", "refusedNow", "()I"⟩, 45) := ⟨⟨by decide +kernel, by decide +kernel⟩, List.mem_of_getElem? (i := 1141) (by decide +kernel), List.mem_of_getElem? (i := 1564) (by decide +kernel), List.mem_of_getElem? (i := 1565) (by decide +kernel)⟩
theorem lw_p157 : lw_okq (⟨"PackTracerModel", "blames", "(Z)V"⟩, 45) := ⟨⟨by decide +kernel, by decide +kernel⟩, List.mem_of_getElem? (i := 1141) (by decide +kernel), List.mem_of_getElem? (i := 1572) (by decide +kernel), List.mem_of_getElem? (i := 1573) (by decide +kernel)⟩
theorem lw_p158 : lw_okq (⟨"PackTracerModel", "isRefused", "(I)Z"⟩, 45) := ⟨⟨by decide +kernel, by decide +kernel⟩, List.mem_of_getElem? (i := 1141) (by decide +kernel), List.mem_of_getElem? (i := 1584) (by decide +kernel), List.mem_of_getElem? (i := 1585) (by decide +kernel)⟩
theorem lw_p159 : lw_okq (⟨"PackTracerModel", "runsAt", "(II)V"⟩, 45) := ⟨⟨by decide +kernel, by decide +kernel⟩, List.mem_of_getElem? (i := 1141) (by decide +kernel), List.mem_of_getElem? (i := 1596) (by decide +kernel), List.mem_of_getElem? (i := 1597) (by decide +kernel)⟩
def lw_privs_10 : List (MethodName × Nat) := [(⟨"PackTracerModel", "scans", "(III)V"⟩, 45), (⟨"PackTracerModel", "ends", "(I)V"⟩, 45), (⟨"PackTracerModel", "orderOf", "(I)I"⟩, 45), (⟨"PackTracerModel", "isLate", "(I)Z"⟩, 45), (⟨"PackTracerModel", "runsTo", "(I)V"⟩, 45), (⟨"PackTracerModel", "whereIs", "(I)I"⟩, 45), (⟨"PackTracerModel", "allIn", "(I)I"⟩, 45), (⟨"PackTracerModel", "isSo", "(II)Z"⟩, 45), (⟨"PackTracerModel", "laysTrail", "(I)V"⟩, 45), (⟨"PackTracerModel", "latest", "()I"⟩, 45), (⟨"PackTracerModel", "runsFirst", "(I)V"⟩, 45), (⟨"PackTracerModel", "runsWithout", "(II)V"⟩, 45), (⟨"PackTracerModel", "refusedNow", "()I"⟩, 45), (⟨"PackTracerModel", "blames", "(Z)V"⟩, 45), (⟨"PackTracerModel", "isRefused", "(I)Z"⟩, 45), (⟨"PackTracerModel", "runsAt", "(II)V"⟩, 45)]
theorem lw_r10 : ∀ q ∈ lw_privs_10, lw_okq q := List.forall_mem_cons.mpr ⟨lw_p144, List.forall_mem_cons.mpr ⟨lw_p145, List.forall_mem_cons.mpr ⟨lw_p146, List.forall_mem_cons.mpr ⟨lw_p147, List.forall_mem_cons.mpr ⟨lw_p148, List.forall_mem_cons.mpr ⟨lw_p149, List.forall_mem_cons.mpr ⟨lw_p150, List.forall_mem_cons.mpr ⟨lw_p151, List.forall_mem_cons.mpr ⟨lw_p152, List.forall_mem_cons.mpr ⟨lw_p153, List.forall_mem_cons.mpr ⟨lw_p154, List.forall_mem_cons.mpr ⟨lw_p155, List.forall_mem_cons.mpr ⟨lw_p156, List.forall_mem_cons.mpr ⟨lw_p157, List.forall_mem_cons.mpr ⟨lw_p158, List.forall_mem_cons.mpr ⟨lw_p159, fun _ h => absurd h List.not_mem_nil⟩⟩⟩⟩⟩⟩⟩⟩⟩⟩⟩⟩⟩⟩⟩⟩
theorem lw_p160 : lw_okq (⟨"PackTracerModel", "meets", "()V"⟩, 45) := ⟨⟨by decide +kernel, by decide +kernel⟩, List.mem_of_getElem? (i := 1141) (by decide +kernel), List.mem_of_getElem? (i := 1608) (by decide +kernel), List.mem_of_getElem? (i := 1609) (by decide +kernel)⟩
theorem lw_p161 : lw_okq (⟨"PackTracerModel", "adds", "(I)V"⟩, 45) := ⟨⟨by decide +kernel, by decide +kernel⟩, List.mem_of_getElem? (i := 1141) (by decide +kernel), List.mem_of_getElem? (i := 1619) (by decide +kernel), List.mem_of_getElem? (i := 1620) (by decide +kernel)⟩
theorem lw_p162 : lw_okq (⟨"PackTracerModel", "bitsIn", "(I)J"⟩, 45) := ⟨⟨by decide +kernel, by decide +kernel⟩, List.mem_of_getElem? (i := 1141) (by decide +kernel), List.mem_of_getElem? (i := 1631) (by decide +kernel), List.mem_of_getElem? (i := 1632) (by decide +kernel)⟩
theorem lw_p163 : lw_okq (⟨"PackTracerModel", "manyAt", "(I)I"⟩, 45) := ⟨⟨by decide +kernel, by decide +kernel⟩, List.mem_of_getElem? (i := 1141) (by decide +kernel), List.mem_of_getElem? (i := 1659) (by decide +kernel), List.mem_of_getElem? (i := 1660) (by decide +kernel)⟩
theorem lw_p164 : lw_okq (⟨"PackTracerModel", "lates", "()I"⟩, 45) := ⟨⟨by decide +kernel, by decide +kernel⟩, List.mem_of_getElem? (i := 1141) (by decide +kernel), List.mem_of_getElem? (i := 1671) (by decide +kernel), List.mem_of_getElem? (i := 1672) (by decide +kernel)⟩
def lw_privs_11 : List (MethodName × Nat) := [(⟨"PackTracerModel", "meets", "()V"⟩, 45), (⟨"PackTracerModel", "adds", "(I)V"⟩, 45), (⟨"PackTracerModel", "bitsIn", "(I)J"⟩, 45), (⟨"PackTracerModel", "manyAt", "(I)I"⟩, 45), (⟨"PackTracerModel", "lates", "()I"⟩, 45)]
theorem lw_r11 : ∀ q ∈ lw_privs_11, lw_okq q := List.forall_mem_cons.mpr ⟨lw_p160, List.forall_mem_cons.mpr ⟨lw_p161, List.forall_mem_cons.mpr ⟨lw_p162, List.forall_mem_cons.mpr ⟨lw_p163, List.forall_mem_cons.mpr ⟨lw_p164, fun _ h => absurd h List.not_mem_nil⟩⟩⟩⟩⟩
def lw_privs : List (MethodName × Nat) := lw_privs_1 ++ (lw_privs_2 ++ (lw_privs_3 ++ (lw_privs_4 ++ (lw_privs_5 ++ (lw_privs_6 ++ (lw_privs_7 ++ (lw_privs_8 ++ (lw_privs_9 ++ (lw_privs_10 ++ (lw_privs_11))))))))))
def lw_tbl : List Cond := k2_sels lw_privs ++ tables_1
theorem lw_privs_ok : ∀ q ∈ lw_privs, lw_okq q := by
  show ∀ q ∈ lw_privs_1 ++ (lw_privs_2 ++ (lw_privs_3 ++ (lw_privs_4 ++ (lw_privs_5 ++ (lw_privs_6 ++ (lw_privs_7 ++ (lw_privs_8 ++ (lw_privs_9 ++ (lw_privs_10 ++ (lw_privs_11)))))))))), lw_okq q
  exact List.forall_mem_append.mpr ⟨lw_r1, List.forall_mem_append.mpr ⟨lw_r2, List.forall_mem_append.mpr ⟨lw_r3, List.forall_mem_append.mpr ⟨lw_r4, List.forall_mem_append.mpr ⟨lw_r5, List.forall_mem_append.mpr ⟨lw_r6, List.forall_mem_append.mpr ⟨lw_r7, List.forall_mem_append.mpr ⟨lw_r8, List.forall_mem_append.mpr ⟨lw_r9, List.forall_mem_append.mpr ⟨lw_r10, lw_r11⟩⟩⟩⟩⟩⟩⟩⟩⟩⟩
end
section
def RX0 : String := "PackTracer$Blame"
def TX0 : u_T := fun k => match k with
  | 0 => ("PackTracer$Blame", "ahead", "LPackTracer$World;", true)
  | 1 => ("PackTracer$Blame", "less", "LPackTracer$World;", true)
  | 2 => ("PackTracer$Blame", "rest", "LPackTracer$World;", true)
  | 3 => ("PackTracer$Blame", "book", "LPackTracer$Book;", true)
  | 4 => ("PackTracer$Blame", "course", "LPackTracer$Course;", true)
  | 5 => ("PackTracer$Blame", "foundOne", "Z", false)
  | 6 => ("PackTracer$Blame", "foundTwo", "Z", false)
  | 7 => ("PackTracer$Blame", "one", "I", false)
  | 8 => ("PackTracer$Blame", "oneLeaves", "I", false)
  | 9 => ("PackTracer$Blame", "lesser", "I", false)
  | 10 => ("PackTracer$Blame", "greater", "I", false)
  | _ => ("PackTracer$Blame", "twoLeave", "I", false)
def tyX0 : Nat → FieldType := fun k => match k with
  | 0 => .object "PackTracer$World"
  | 1 => .object "PackTracer$World"
  | 2 => .object "PackTracer$World"
  | 3 => .object "PackTracer$Book"
  | 4 => .object "PackTracer$Course"
  | 5 => .boolean
  | 6 => .boolean
  | 7 => .int
  | 8 => .int
  | 9 => .int
  | 10 => .int
  | _ => .int
theorem nmX0 : ∀ a, a < 12 → ∀ b, b < 12 → a ≠ b → (TX0 a).2.1 ≠ (TX0 b).2.1 := by decide +kernel
theorem tyX0_ok : ∀ k, k < 12 → parseFieldDescriptor (TX0 k).2.2.1 = some (tyX0 k) := by decide +kernel
abbrev cX0_init : ByteArray := prog_2_method_1_code
def yX0_init : MethodName := ⟨RX0, "<init>", "(LPackTracer$Story;)V"⟩
abbrev cX0_forget : ByteArray := prog_2_method_2_code
def yX0_forget : MethodName := ⟨RX0, "forget", "()V"⟩
abbrev cX0_findOne : ByteArray := prog_2_method_3_code
def yX0_findOne : MethodName := ⟨RX0, "findOne", "()V"⟩
abbrev cX0_findTwo : ByteArray := prog_2_method_4_code
def yX0_findTwo : MethodName := ⟨RX0, "findTwo", "()V"⟩
abbrev cX0_tryPairsWith : ByteArray := prog_2_method_5_code
def yX0_tryPairsWith : MethodName := ⟨RX0, "tryPairsWith", "(II)V"⟩
abbrev cX0_propose : ByteArray := prog_2_method_6_code
def yX0_propose : MethodName := ⟨RX0, "propose", "(III)V"⟩
abbrev cX0_refusedBehind : ByteArray := prog_2_method_7_code
def yX0_refusedBehind : MethodName := ⟨RX0, "refusedBehind", "(III)I"⟩
abbrev cX0_refusalAt : ByteArray := prog_2_method_8_code
def yX0_refusalAt : MethodName := ⟨RX0, "refusalAt", "(ILPackTracer$World;)I"⟩
def RX1 : String := "PackTracer$Book"
def TX1 : u_T := fun k => match k with
  | 0 => ("PackTracer$Book", "names", "[I", true)
  | 1 => ("PackTracer$Book", "ways", "[I", true)
  | 2 => ("PackTracer$Book", "hour", "[I", true)
  | 3 => ("PackTracer$Book", "act", "[I", true)
  | 4 => ("PackTracer$Book", "first", "[I", true)
  | 5 => ("PackTracer$Book", "second", "[I", true)
  | 6 => ("PackTracer$Book", "kind", "[I", true)
  | 7 => ("PackTracer$Book", "places", "I", false)
  | 8 => ("PackTracer$Book", "roads", "I", false)
  | 9 => ("PackTracer$Book", "size", "I", false)
  | 10 => ("PackTracer$Book", "unitsFit", "I", false)
  | 11 => ("PackTracer$Book", "cartonsFit", "I", false)
  | _ => ("PackTracer$Book", "fitsTold", "Z", false)
def tyX1 : Nat → FieldType := fun k => match k with
  | 0 => .array .int
  | 1 => .array .int
  | 2 => .array .int
  | 3 => .array .int
  | 4 => .array .int
  | 5 => .array .int
  | 6 => .array .int
  | 7 => .int
  | 8 => .int
  | 9 => .int
  | 10 => .int
  | 11 => .int
  | _ => .boolean
theorem nmX1 : ∀ a, a < 13 → ∀ b, b < 13 → a ≠ b → (TX1 a).2.1 ≠ (TX1 b).2.1 := by decide +kernel
theorem tyX1_ok : ∀ k, k < 13 → parseFieldDescriptor (TX1 k).2.2.1 = some (tyX1 k) := by decide +kernel
abbrev cX1_init : ByteArray := prog_3_method_1_code
def yX1_init : MethodName := ⟨RX1, "<init>", "()V"⟩
abbrev cX1_clear : ByteArray := prog_3_method_2_code
def yX1_clear : MethodName := ⟨RX1, "clear", "()V"⟩
abbrev cX1_become : ByteArray := prog_3_method_3_code
def yX1_become : MethodName := ⟨RX1, "become", "(LPackTracer$Book;)V"⟩
abbrev cX1_hasPlace : ByteArray := prog_3_method_4_code
def yX1_hasPlace : MethodName := ⟨RX1, "hasPlace", "(I)Z"⟩
abbrev cX1_hasMessage : ByteArray := prog_3_method_5_code
def yX1_hasMessage : MethodName := ⟨RX1, "hasMessage", "(I)Z"⟩
abbrev cX1_placeNamed : ByteArray := prog_3_method_6_code
def yX1_placeNamed : MethodName := ⟨RX1, "placeNamed", "(I)I"⟩
abbrev cX1_addPlace : ByteArray := prog_3_method_7_code
def yX1_addPlace : MethodName := ⟨RX1, "addPlace", "(I)V"⟩
abbrev cX1_addRoad : ByteArray := prog_3_method_8_code
def yX1_addRoad : MethodName := ⟨RX1, "addRoad", "(III)V"⟩
abbrev cX1_addMessage : ByteArray := prog_3_method_9_code
def yX1_addMessage : MethodName := ⟨RX1, "addMessage", "(IIIII)V"⟩
abbrev cX1_way : ByteArray := prog_3_method_10_code
def yX1_way : MethodName := ⟨RX1, "way", "(II)I"⟩
abbrev cX1_shorten : ByteArray := prog_3_method_11_code
def yX1_shorten : MethodName := ⟨RX1, "shorten", "(III)V"⟩
abbrev cX1_joinRoads : ByteArray := prog_3_method_12_code
def yX1_joinRoads : MethodName := ⟨RX1, "joinRoads", "()V"⟩
abbrev cX1_isLate : ByteArray := prog_3_method_13_code
def yX1_isLate : MethodName := ⟨RX1, "isLate", "(I)Z"⟩
abbrev cX1_lateOnes : ByteArray := prog_3_method_14_code
def yX1_lateOnes : MethodName := ⟨RX1, "lateOnes", "()I"⟩
abbrev cX1_latestHour : ByteArray := prog_3_method_15_code
def yX1_latestHour : MethodName := ⟨RX1, "latestHour", "()I"⟩
def RX2 : String := "PackTracer$Course"
def TX2 : u_T := fun k => match k with
  | 0 => ("PackTracer$Course", "hour", "[I", true)
  | 1 => ("PackTracer$Course", "turn", "[I", true)
  | _ => ("PackTracer$Course", "size", "I", false)
def tyX2 : Nat → FieldType := fun k => match k with
  | 0 => .array .int
  | 1 => .array .int
  | _ => .int
theorem nmX2 : ∀ a, a < 3 → ∀ b, b < 3 → a ≠ b → (TX2 a).2.1 ≠ (TX2 b).2.1 := by decide +kernel
theorem tyX2_ok : ∀ k, k < 3 → parseFieldDescriptor (TX2 k).2.2.1 = some (tyX2 k) := by decide +kernel
abbrev cX2_init : ByteArray := prog_4_method_1_code
def yX2_init : MethodName := ⟨RX2, "<init>", "()V"⟩
abbrev cX2_takeHours : ByteArray := prog_4_method_2_code
def yX2_takeHours : MethodName := ⟨RX2, "takeHours", "(LPackTracer$Book;)V"⟩
abbrev cX2_arrange : ByteArray := prog_4_method_3_code
def yX2_arrange : MethodName := ⟨RX2, "arrange", "()V"⟩
abbrev cX2_spotOf : ByteArray := prog_4_method_4_code
def yX2_spotOf : MethodName := ⟨RX2, "spotOf", "(I)I"⟩
abbrev cX2_hourAt : ByteArray := prog_4_method_5_code
def yX2_hourAt : MethodName := ⟨RX2, "hourAt", "(I)I"⟩
def RX3 : String := "PackTracer$Guess"
def TX3 : u_T := fun k => match k with
  | 0 => ("PackTracer$Guess", "world", "LPackTracer$World;", true)
  | 1 => ("PackTracer$Guess", "other", "LPackTracer$Course;", true)
  | 2 => ("PackTracer$Guess", "story", "LPackTracer$Story;", true)
  | 3 => ("PackTracer$Guess", "book", "LPackTracer$Book;", true)
  | 4 => ("PackTracer$Guess", "windowFirst", "I", false)
  | 5 => ("PackTracer$Guess", "windowLast", "I", false)
  | _ => ("PackTracer$Guess", "windowHours", "I", false)
def tyX3 : Nat → FieldType := fun k => match k with
  | 0 => .object "PackTracer$World"
  | 1 => .object "PackTracer$Course"
  | 2 => .object "PackTracer$Story"
  | 3 => .object "PackTracer$Book"
  | 4 => .int
  | 5 => .int
  | _ => .int
theorem nmX3 : ∀ a, a < 7 → ∀ b, b < 7 → a ≠ b → (TX3 a).2.1 ≠ (TX3 b).2.1 := by decide +kernel
theorem tyX3_ok : ∀ k, k < 7 → parseFieldDescriptor (TX3 k).2.2.1 = some (tyX3 k) := by decide +kernel
abbrev cX3_init : ByteArray := prog_5_method_1_code
def yX3_init : MethodName := ⟨RX3, "<init>", "(LPackTracer$Story;)V"⟩
abbrev cX3_placeWithout : ByteArray := prog_5_method_2_code
def yX3_placeWithout : MethodName := ⟨RX3, "placeWithout", "(II)I"⟩
abbrev cX3_lastVerdictWithout : ByteArray := prog_5_method_3_code
def yX3_lastVerdictWithout : MethodName := ⟨RX3, "lastVerdictWithout", "(II)I"⟩
abbrev cX3_deciding : ByteArray := prog_5_method_4_code
def yX3_deciding : MethodName := ⟨RX3, "deciding", "(I)J"⟩
abbrev cX3_outcomeAt : ByteArray := prog_5_method_5_code
def yX3_outcomeAt : MethodName := ⟨RX3, "outcomeAt", "(III)I"⟩
abbrev cX3_outcomeSwapped : ByteArray := prog_5_method_6_code
def yX3_outcomeSwapped : MethodName := ⟨RX3, "outcomeSwapped", "(III)I"⟩
abbrev cX3_outcome : ByteArray := prog_5_method_7_code
def yX3_outcome : MethodName := ⟨RX3, "outcome", "(I)I"⟩
abbrev cX3_openWindow : ByteArray := prog_5_method_8_code
def yX3_openWindow : MethodName := ⟨RX3, "openWindow", "(I)V"⟩
abbrev cX3_isAheadOf : ByteArray := prog_5_method_9_code
def yX3_isAheadOf : MethodName := ⟨RX3, "isAheadOf", "(III)Z"⟩
def RX4 : String := "PackTracer$Reader"
def TX4 : u_T := fun k => match k with
  | 0 => ("PackTracer$Reader", "tokens", "LPackTracer$Tokens;", true)
  | 1 => ("PackTracer$Reader", "book", "LPackTracer$Book;", true)
  | 2 => ("PackTracer$Reader", "at", "I", false)
  | 3 => ("PackTracer$Reader", "kind", "I", false)
  | 4 => ("PackTracer$Reader", "value", "I", false)
  | 5 => ("PackTracer$Reader", "fault", "I", false)
  | 6 => ("PackTracer$Reader", "faultAt", "I", false)
  | _ => ("PackTracer$Reader", "lines", "I", false)
def tyX4 : Nat → FieldType := fun k => match k with
  | 0 => .object "PackTracer$Tokens"
  | 1 => .object "PackTracer$Book"
  | 2 => .int
  | 3 => .int
  | 4 => .int
  | 5 => .int
  | 6 => .int
  | _ => .int
theorem nmX4 : ∀ a, a < 8 → ∀ b, b < 8 → a ≠ b → (TX4 a).2.1 ≠ (TX4 b).2.1 := by decide +kernel
theorem tyX4_ok : ∀ k, k < 8 → parseFieldDescriptor (TX4 k).2.2.1 = some (tyX4 k) := by decide +kernel
abbrev cX4_init : ByteArray := prog_6_method_1_code
def yX4_init : MethodName := ⟨RX4, "<init>", "(LPackTracer$Tape;LPackTracer$Book;)V"⟩
abbrev cX4_read : ByteArray := prog_6_method_2_code
def yX4_read : MethodName := ⟨RX4, "read", "(IZ)Z"⟩
abbrev cX4_goTo : ByteArray := prog_6_method_3_code
def yX4_goTo : MethodName := ⟨RX4, "goTo", "(I)V"⟩
abbrev cX4_fail : ByteArray := prog_6_method_4_code
def yX4_fail : MethodName := ⟨RX4, "fail", "(I)V"⟩
abbrev cX4_readLine : ByteArray := prog_6_method_5_code
def yX4_readLine : MethodName := ⟨RX4, "readLine", "()V"⟩
abbrev cX4_readPlace : ByteArray := prog_6_method_6_code
def yX4_readPlace : MethodName := ⟨RX4, "readPlace", "()V"⟩
abbrev cX4_readRoad : ByteArray := prog_6_method_7_code
def yX4_readRoad : MethodName := ⟨RX4, "readRoad", "()V"⟩
abbrev cX4_readFits : ByteArray := prog_6_method_8_code
def yX4_readFits : MethodName := ⟨RX4, "readFits", "()V"⟩
abbrev cX4_readMessage : ByteArray := prog_6_method_9_code
def yX4_readMessage : MethodName := ⟨RX4, "readMessage", "()V"⟩
abbrev cX4_takeAct : ByteArray := prog_6_method_10_code
def yX4_takeAct : MethodName := ⟨RX4, "takeAct", "()I"⟩
abbrev cX4_takeSecond : ByteArray := prog_6_method_11_code
def yX4_takeSecond : MethodName := ⟨RX4, "takeSecond", "(I)I"⟩
abbrev cX4_takeNumber : ByteArray := prog_6_method_12_code
def yX4_takeNumber : MethodName := ⟨RX4, "takeNumber", "(II)I"⟩
abbrev cX4_takePlace : ByteArray := prog_6_method_13_code
def yX4_takePlace : MethodName := ⟨RX4, "takePlace", "(I)I"⟩
abbrev cX4_take : ByteArray := prog_6_method_14_code
def yX4_take : MethodName := ⟨RX4, "take", "(II)I"⟩
def RX5 : String := "PackTracer$Story"
def TX5 : u_T := fun k => match k with
  | 0 => ("PackTracer$Story", "course", "LPackTracer$Course;", true)
  | 1 => ("PackTracer$Story", "world", "LPackTracer$World;", true)
  | 2 => ("PackTracer$Story", "before", "LPackTracer$World;", true)
  | 3 => ("PackTracer$Story", "why", "[I", true)
  | _ => ("PackTracer$Story", "book", "LPackTracer$Book;", true)
def tyX5 : Nat → FieldType := fun k => match k with
  | 0 => .object "PackTracer$Course"
  | 1 => .object "PackTracer$World"
  | 2 => .object "PackTracer$World"
  | 3 => .array .int
  | _ => .object "PackTracer$Book"
theorem nmX5 : ∀ a, a < 5 → ∀ b, b < 5 → a ≠ b → (TX5 a).2.1 ≠ (TX5 b).2.1 := by decide +kernel
theorem tyX5_ok : ∀ k, k < 5 → parseFieldDescriptor (TX5 k).2.2.1 = some (tyX5 k) := by decide +kernel
abbrev cX5_init : ByteArray := prog_7_method_1_code
def yX5_init : MethodName := ⟨RX5, "<init>", "(LPackTracer$Book;)V"⟩
abbrev cX5_settle : ByteArray := prog_7_method_2_code
def yX5_settle : MethodName := ⟨RX5, "settle", "()V"⟩
abbrev cX5_step : ByteArray := prog_7_method_3_code
def yX5_step : MethodName := ⟨RX5, "step", "(I)I"⟩
abbrev cX5_goTo : ByteArray := prog_7_method_4_code
def yX5_goTo : MethodName := ⟨RX5, "goTo", "(I)I"⟩
abbrev cX5_worldBy : ByteArray := prog_7_method_5_code
def yX5_worldBy : MethodName := ⟨RX5, "worldBy", "(I)LPackTracer$World;"⟩
abbrev cX5_worldOfFirst : ByteArray := prog_7_method_6_code
def yX5_worldOfFirst : MethodName := ⟨RX5, "worldOfFirst", "(I)LPackTracer$World;"⟩
abbrev cX5_thingsChangedBy : ByteArray := prog_7_method_7_code
def yX5_thingsChangedBy : MethodName := ⟨RX5, "thingsChangedBy", "(I)I"⟩
abbrev cX5_verdicts : ByteArray := prog_7_method_8_code
def yX5_verdicts : MethodName := ⟨RX5, "verdicts", "(I)I"⟩
abbrev cX5_trailEntry : ByteArray := prog_7_method_9_code
def yX5_trailEntry : MethodName := ⟨RX5, "trailEntry", "(IIZ)I"⟩
abbrev cX5_hoursAt : ByteArray := prog_7_method_10_code
def yX5_hoursAt : MethodName := ⟨RX5, "hoursAt", "(II)I"⟩
abbrev cX5_passages : ByteArray := prog_7_method_11_code
def yX5_passages : MethodName := ⟨RX5, "passages", "(II)I"⟩
abbrev cX5_hoursOnWays : ByteArray := prog_7_method_12_code
def yX5_hoursOnWays : MethodName := ⟨RX5, "hoursOnWays", "(I)I"⟩
abbrev cX5_busiest : ByteArray := prog_7_method_13_code
def yX5_busiest : MethodName := ⟨RX5, "busiest", "(IZ)I"⟩
abbrev cX5_allMet : ByteArray := prog_7_method_14_code
def yX5_allMet : MethodName := ⟨RX5, "allMet", "(II)J"⟩
abbrev cX5_allHeld : ByteArray := prog_7_method_15_code
def yX5_allHeld : MethodName := ⟨RX5, "allHeld", "(III)J"⟩
abbrev cX5_mostHeld : ByteArray := prog_7_method_16_code
def yX5_mostHeld : MethodName := ⟨RX5, "mostHeld", "(I)I"⟩
abbrev cX5_heldSince : ByteArray := prog_7_method_17_code
def yX5_heldSince : MethodName := ⟨RX5, "heldSince", "(II)I"⟩
abbrev cX5_clashOf : ByteArray := prog_7_method_18_code
def yX5_clashOf : MethodName := ⟨RX5, "clashOf", "(II)I"⟩
def RX6 : String := "PackTracer$Tape"
def TX6 : u_T := fun k => match k with
  | 0 => ("PackTracer$Tape", "bytes", "[B", true)
  | _ => ("PackTracer$Tape", "size", "I", false)
def tyX6 : Nat → FieldType := fun k => match k with
  | 0 => .array .byte
  | _ => .int
theorem nmX6 : ∀ a, a < 2 → ∀ b, b < 2 → a ≠ b → (TX6 a).2.1 ≠ (TX6 b).2.1 := by decide +kernel
theorem tyX6_ok : ∀ k, k < 2 → parseFieldDescriptor (TX6 k).2.2.1 = some (tyX6 k) := by decide +kernel
abbrev cX6_init : ByteArray := prog_8_method_1_code
def yX6_init : MethodName := ⟨RX6, "<init>", "()V"⟩
abbrev cX6_hasRoomFor : ByteArray := prog_8_method_2_code
def yX6_hasRoomFor : MethodName := ⟨RX6, "hasRoomFor", "(I)Z"⟩
abbrev cX6_append : ByteArray := prog_8_method_3_code
def yX6_append : MethodName := ⟨RX6, "append", "(I)V"⟩
def RX7 : String := "PackTracer$Tokens"
def TX7 : u_T := fun k => match k with
  | 0 => ("PackTracer$Tokens", "kinds", "[I", true)
  | 1 => ("PackTracer$Tokens", "starts", "[I", true)
  | 2 => ("PackTracer$Tokens", "values", "[I", true)
  | 3 => ("PackTracer$Tokens", "tape", "LPackTracer$Tape;", true)
  | 4 => ("PackTracer$Tokens", "size", "I", false)
  | 5 => ("PackTracer$Tokens", "end", "I", false)
  | 6 => ("PackTracer$Tokens", "at", "I", false)
  | _ => ("PackTracer$Tokens", "value", "I", false)
def tyX7 : Nat → FieldType := fun k => match k with
  | 0 => .array .int
  | 1 => .array .int
  | 2 => .array .int
  | 3 => .object "PackTracer$Tape"
  | 4 => .int
  | 5 => .int
  | 6 => .int
  | _ => .int
theorem nmX7 : ∀ a, a < 8 → ∀ b, b < 8 → a ≠ b → (TX7 a).2.1 ≠ (TX7 b).2.1 := by decide +kernel
theorem tyX7_ok : ∀ k, k < 8 → parseFieldDescriptor (TX7 k).2.2.1 = some (tyX7 k) := by decide +kernel
abbrev cX7_init : ByteArray := prog_9_method_1_code
def yX7_init : MethodName := ⟨RX7, "<init>", "(LPackTracer$Tape;)V"⟩
abbrev cX7_cut : ByteArray := prog_9_method_2_code
def yX7_cut : MethodName := ⟨RX7, "cut", "(I)V"⟩
abbrev cX7_add : ByteArray := prog_9_method_3_code
def yX7_add : MethodName := ⟨RX7, "add", "(II)V"⟩
abbrev cX7_skipBlanks : ByteArray := prog_9_method_4_code
def yX7_skipBlanks : MethodName := ⟨RX7, "skipBlanks", "()V"⟩
abbrev cX7_passToken : ByteArray := prog_9_method_5_code
def yX7_passToken : MethodName := ⟨RX7, "passToken", "()I"⟩
abbrev cX7_passWord : ByteArray := prog_9_method_6_code
def yX7_passWord : MethodName := ⟨RX7, "passWord", "()I"⟩
abbrev cX7_passDigits : ByteArray := prog_9_method_7_code
def yX7_passDigits : MethodName := ⟨RX7, "passDigits", "()V"⟩
abbrev cX7_isLetter : ByteArray := prog_9_method_8_code
def yX7_isLetter : MethodName := ⟨RX7, "isLetter", "()Z"⟩
abbrev cX7_isDigit : ByteArray := prog_9_method_9_code
def yX7_isDigit : MethodName := ⟨RX7, "isDigit", "()Z"⟩
abbrev cX7_kindOfWord : ByteArray := prog_9_method_10_code
def yX7_kindOfWord : MethodName := ⟨RX7, "kindOfWord", "()I"⟩
def RX8 : String := "PackTracer$World"
def TX8 : u_T := fun k => match k with
  | 0 => ("PackTracer$World", "kind", "[I", true)
  | 1 => ("PackTracer$World", "in", "[I", true)
  | 2 => ("PackTracer$World", "place", "[I", true)
  | 3 => ("PackTracer$World", "last", "[I", true)
  | 4 => ("PackTracer$World", "seen", "[I", true)
  | _ => ("PackTracer$World", "marks", "[I", true)
def tyX8 : Nat → FieldType := fun k => match k with
  | 0 => .array .int
  | 1 => .array .int
  | 2 => .array .int
  | 3 => .array .int
  | 4 => .array .int
  | _ => .array .int
theorem nmX8 : ∀ a, a < 6 → ∀ b, b < 6 → a ≠ b → (TX8 a).2.1 ≠ (TX8 b).2.1 := by decide +kernel
theorem tyX8_ok : ∀ k, k < 6 → parseFieldDescriptor (TX8 k).2.2.1 = some (tyX8 k) := by decide +kernel
abbrev cX8_init : ByteArray := prog_10_method_1_code
def yX8_init : MethodName := ⟨RX8, "<init>", "()V"⟩
abbrev cX8_clear : ByteArray := prog_10_method_2_code
def yX8_clear : MethodName := ⟨RX8, "clear", "()V"⟩
abbrev cX8_become : ByteArray := prog_10_method_3_code
def yX8_become : MethodName := ⟨RX8, "become", "(LPackTracer$World;)V"⟩
abbrev cX8_has : ByteArray := prog_10_method_4_code
def yX8_has : MethodName := ⟨RX8, "has", "(II)Z"⟩
abbrev cX8_mark : ByteArray := prog_10_method_5_code
def yX8_mark : MethodName := ⟨RX8, "mark", "(II)V"⟩
abbrev cX8_unmark : ByteArray := prog_10_method_6_code
def yX8_unmark : MethodName := ⟨RX8, "unmark", "(II)V"⟩
abbrev cX8_isMade : ByteArray := prog_10_method_7_code
def yX8_isMade : MethodName := ⟨RX8, "isMade", "(I)Z"⟩
abbrev cX8_topmost : ByteArray := prog_10_method_8_code
def yX8_topmost : MethodName := ⟨RX8, "topmost", "(I)I"⟩
abbrev cX8_isIn : ByteArray := prog_10_method_9_code
def yX8_isIn : MethodName := ⟨RX8, "isIn", "(II)Z"⟩
abbrev cX8_whereIs : ByteArray := prog_10_method_10_code
def yX8_whereIs : MethodName := ⟨RX8, "whereIs", "(I)I"⟩
abbrev cX8_knownAt : ByteArray := prog_10_method_11_code
def yX8_knownAt : MethodName := ⟨RX8, "knownAt", "(I)I"⟩
abbrev cX8_look : ByteArray := prog_10_method_12_code
def yX8_look : MethodName := ⟨RX8, "look", "(LPackTracer$Book;II)I"⟩
abbrev cX8_objection : ByteArray := prog_10_method_13_code
def yX8_objection : MethodName := ⟨RX8, "objection", "(LPackTracer$Book;II)I"⟩
abbrev cX8_objectionToPack : ByteArray := prog_10_method_14_code
def yX8_objectionToPack : MethodName := ⟨RX8, "objectionToPack", "(LPackTracer$Book;II)I"⟩
abbrev cX8_isTooSoon : ByteArray := prog_10_method_15_code
def yX8_isTooSoon : MethodName := ⟨RX8, "isTooSoon", "(LPackTracer$Book;III)Z"⟩
abbrev cX8_isQuarantinedWithin : ByteArray := prog_10_method_16_code
def yX8_isQuarantinedWithin : MethodName := ⟨RX8, "isQuarantinedWithin", "(I)Z"⟩
abbrev cX8_carryOut : ByteArray := prog_10_method_17_code
def yX8_carryOut : MethodName := ⟨RX8, "carryOut", "(LPackTracer$Book;II)V"⟩
abbrev cX8_stand : ByteArray := prog_10_method_18_code
def yX8_stand : MethodName := ⟨RX8, "stand", "(III)V"⟩
abbrev cX8_openAround : ByteArray := prog_10_method_19_code
def yX8_openAround : MethodName := ⟨RX8, "openAround", "(I)V"⟩
abbrev cX8_looseWith : ByteArray := prog_10_method_20_code
def yX8_looseWith : MethodName := ⟨RX8, "looseWith", "(I)I"⟩
abbrev cX8_endWithAllIn : ByteArray := prog_10_method_21_code
def yX8_endWithAllIn : MethodName := ⟨RX8, "endWithAllIn", "(I)V"⟩
abbrev cX8_heldAtOnce : ByteArray := prog_10_method_22_code
def yX8_heldAtOnce : MethodName := ⟨RX8, "heldAtOnce", "(I)I"⟩
abbrev cX8_contents : ByteArray := prog_10_method_23_code
def yX8_contents : MethodName := ⟨RX8, "contents", "(I)J"⟩
abbrev cX8_allAt : ByteArray := prog_10_method_24_code
def yX8_allAt : MethodName := ⟨RX8, "allAt", "(I)J"⟩
abbrev cX8_allKnownBy : ByteArray := prog_10_method_25_code
def yX8_allKnownBy : MethodName := ⟨RX8, "allKnownBy", "(I)J"⟩
abbrev cX8_withCompany : ByteArray := prog_10_method_26_code
def yX8_withCompany : MethodName := ⟨RX8, "withCompany", "(J)J"⟩
abbrev cX8_clumpsAt : ByteArray := prog_10_method_27_code
def yX8_clumpsAt : MethodName := ⟨RX8, "clumpsAt", "(I)I"⟩
abbrev cX8_tellOf : ByteArray := prog_10_method_28_code
def yX8_tellOf : MethodName := ⟨RX8, "tellOf", "(II)I"⟩
abbrev cX8_tally : ByteArray := prog_10_method_29_code
def yX8_tally : MethodName := ⟨RX8, "tally", "(I)I"⟩
abbrev cX8_isSo : ByteArray := prog_10_method_30_code
def yX8_isSo : MethodName := ⟨RX8, "isSo", "(II)Z"⟩
def RX9 : String := "PackTracer"
def TX9 : u_T := fun k => match k with
  | 0 => ("PackTracer", "tape", "LPackTracer$Tape;", true)
  | 1 => ("PackTracer", "book", "LPackTracer$Book;", true)
  | 2 => ("PackTracer", "draft", "LPackTracer$Book;", true)
  | 3 => ("PackTracer", "reader", "LPackTracer$Reader;", true)
  | 4 => ("PackTracer", "story", "LPackTracer$Story;", true)
  | 5 => ("PackTracer", "guess", "LPackTracer$Guess;", true)
  | _ => ("PackTracer", "blame", "LPackTracer$Blame;", true)
def tyX9 : Nat → FieldType := fun k => match k with
  | 0 => .object "PackTracer$Tape"
  | 1 => .object "PackTracer$Book"
  | 2 => .object "PackTracer$Book"
  | 3 => .object "PackTracer$Reader"
  | 4 => .object "PackTracer$Story"
  | 5 => .object "PackTracer$Guess"
  | _ => .object "PackTracer$Blame"
theorem nmX9 : ∀ a, a < 7 → ∀ b, b < 7 → a ≠ b → (TX9 a).2.1 ≠ (TX9 b).2.1 := by decide +kernel
theorem tyX9_ok : ∀ k, k < 7 → parseFieldDescriptor (TX9 k).2.2.1 = some (tyX9 k) := by decide +kernel
abbrev cX9_init : ByteArray := prog_1_method_1_code
def yX9_init : MethodName := ⟨RX9, "<init>", "()V"⟩
abbrev cX9_feed : ByteArray := prog_1_method_2_code
def yX9_feed : MethodName := ⟨RX9, "feed", "(IIIII)I"⟩
abbrev cX9_text : ByteArray := prog_1_method_3_code
def yX9_text : MethodName := ⟨RX9, "text", "(I)I"⟩
abbrev cX9_tell : ByteArray := prog_1_method_4_code
def yX9_tell : MethodName := ⟨RX9, "tell", "(I)I"⟩
abbrev cX9_close : ByteArray := prog_1_method_5_code
def yX9_close : MethodName := ⟨RX9, "close", "(Z)I"⟩
abbrev cX9_fault : ByteArray := prog_1_method_6_code
def yX9_fault : MethodName := ⟨RX9, "fault", "(I)I"⟩
abbrev cX9_hours : ByteArray := prog_1_method_7_code
def yX9_hours : MethodName := ⟨RX9, "hours", "(II)I"⟩
abbrev cX9_message : ByteArray := prog_1_method_8_code
def yX9_message : MethodName := ⟨RX9, "message", "(II)I"⟩
abbrev cX9_thing : ByteArray := prog_1_method_9_code
def yX9_thing : MethodName := ⟨RX9, "thing", "(III)I"⟩
abbrev cX9_inside : ByteArray := prog_1_method_10_code
def yX9_inside : MethodName := ⟨RX9, "inside", "(III)I"⟩
abbrev cX9_there : ByteArray := prog_1_method_11_code
def yX9_there : MethodName := ⟨RX9, "there", "(III)I"⟩
abbrev cX9_many : ByteArray := prog_1_method_12_code
def yX9_many : MethodName := ⟨RX9, "many", "(II)I"⟩
abbrev cX9_trail : ByteArray := prog_1_method_13_code
def yX9_trail : MethodName := ⟨RX9, "trail", "(III)I"⟩
abbrev cX9_known : ByteArray := prog_1_method_14_code
def yX9_known : MethodName := ⟨RX9, "known", "(II)I"⟩
abbrev cX9_changed : ByteArray := prog_1_method_15_code
def yX9_changed : MethodName := ⟨RX9, "changed", "(I)I"⟩
abbrev cX9_without : ByteArray := prog_1_method_16_code
def yX9_without : MethodName := ⟨RX9, "without", "(II)I"⟩
abbrev cX9_refused : ByteArray := prog_1_method_17_code
def yX9_refused : MethodName := ⟨RX9, "refused", "(I)I"⟩
abbrev cX9_blamed : ByteArray := prog_1_method_18_code
def yX9_blamed : MethodName := ⟨RX9, "blamed", "(I)I"⟩
abbrev cX9_twoBlamed : ByteArray := prog_1_method_19_code
def yX9_twoBlamed : MethodName := ⟨RX9, "twoBlamed", "(I)I"⟩
abbrev cX9_met : ByteArray := prog_1_method_20_code
def yX9_met : MethodName := ⟨RX9, "met", "(III)I"⟩
abbrev cX9_wereIn : ByteArray := prog_1_method_21_code
def yX9_wereIn : MethodName := ⟨RX9, "wereIn", "(IIII)I"⟩
abbrev cX9_most : ByteArray := prog_1_method_22_code
def yX9_most : MethodName := ⟨RX9, "most", "(I)I"⟩
abbrev cX9_still : ByteArray := prog_1_method_23_code
def yX9_still : MethodName := ⟨RX9, "still", "(II)I"⟩
abbrev cX9_components : ByteArray := prog_1_method_24_code
def yX9_components : MethodName := ⟨RX9, "components", "(II)I"⟩
abbrev cX9_dwelt : ByteArray := prog_1_method_25_code
def yX9_dwelt : MethodName := ⟨RX9, "dwelt", "(II)I"⟩
abbrev cX9_flow : ByteArray := prog_1_method_26_code
def yX9_flow : MethodName := ⟨RX9, "flow", "(II)I"⟩
abbrev cX9_cause : ByteArray := prog_1_method_27_code
def yX9_cause : MethodName := ⟨RX9, "cause", "(I)I"⟩
abbrev cX9_needs : ByteArray := prog_1_method_28_code
def yX9_needs : MethodName := ⟨RX9, "needs", "(II)I"⟩
abbrev cX9_ifAt : ByteArray := prog_1_method_29_code
def yX9_ifAt : MethodName := ⟨RX9, "ifAt", "(III)I"⟩
abbrev cX9_window : ByteArray := prog_1_method_30_code
def yX9_window : MethodName := ⟨RX9, "window", "(II)I"⟩
abbrev cX9_lost : ByteArray := prog_1_method_31_code
def yX9_lost : MethodName := ⟨RX9, "lost", "(III)I"⟩
abbrev cX9_ifSwapped : ByteArray := prog_1_method_32_code
def yX9_ifSwapped : MethodName := ⟨RX9, "ifSwapped", "(III)I"⟩
abbrev cX9_busy : ByteArray := prog_1_method_33_code
def yX9_busy : MethodName := ⟨RX9, "busy", "(II)I"⟩
abbrev cX9_travelled : ByteArray := prog_1_method_34_code
def yX9_travelled : MethodName := ⟨RX9, "travelled", "(I)I"⟩
abbrev cX9_clash : ByteArray := prog_1_method_35_code
def yX9_clash : MethodName := ⟨RX9, "clash", "(III)I"⟩
abbrev cX9_soonest : ByteArray := prog_1_method_36_code
def yX9_soonest : MethodName := ⟨RX9, "soonest", "(III)I"⟩
abbrev cX9_count : ByteArray := prog_1_method_37_code
def yX9_count : MethodName := ⟨RX9, "count", "(I)I"⟩
abbrev cX9_isThing : ByteArray := prog_1_method_38_code
def yX9_isThing : MethodName := ⟨RX9, "isThing", "(I)Z"⟩
abbrev cX9_isHour : ByteArray := prog_1_method_39_code
def yX9_isHour : MethodName := ⟨RX9, "isHour", "(I)Z"⟩
abbrev cX9_isPlaceOrSold : ByteArray := prog_1_method_40_code
def yX9_isPlaceOrSold : MethodName := ⟨RX9, "isPlaceOrSold", "(I)Z"⟩
abbrev cX9_isWhereabouts : ByteArray := prog_1_method_41_code
def yX9_isWhereabouts : MethodName := ⟨RX9, "isWhereabouts", "(I)Z"⟩
abbrev cX9_pick : ByteArray := prog_1_method_42_code
def yX9_pick : MethodName := ⟨RX9, "pick", "(JI)I"⟩
def RX10 : String := "PackTracerModel"
def TX10 : u_T := fun k => match k with
  | 0 => ("PackTracerModel", "thrown", "I", false)
  | 1 => ("PackTracerModel", "tape", "[I", true)
  | 2 => ("PackTracerModel", "taped", "I", false)
  | 3 => ("PackTracerModel", "world", "[I", true)
  | 4 => ("PackTracerModel", "fresh", "[I", true)
  | 5 => ("PackTracerModel", "name", "[I", true)
  | 6 => ("PackTracerModel", "nameNow", "[I", true)
  | 7 => ("PackTracerModel", "size", "I", false)
  | 8 => ("PackTracerModel", "at", "I", false)
  | 9 => ("PackTracerModel", "place", "I", false)
  | 10 => ("PackTracerModel", "sort", "I", false)
  | 11 => ("PackTracerModel", "value", "I", false)
  | 12 => ("PackTracerModel", "word", "I", false)
  | 13 => ("PackTracerModel", "fault", "I", false)
  | 14 => ("PackTracerModel", "faultPlace", "I", false)
  | 15 => ("PackTracerModel", "lastFault", "I", false)
  | 16 => ("PackTracerModel", "lastPlace", "I", false)
  | 17 => ("PackTracerModel", "hasFits", "Z", false)
  | 18 => ("PackTracerModel", "hadFits", "Z", false)
  | 19 => ("PackTracerModel", "lines", "I", false)
  | 20 => ("PackTracerModel", "ways", "[I", true)
  | 21 => ("PackTracerModel", "made", "[Z", true)
  | 22 => ("PackTracerModel", "kind", "[I", true)
  | 23 => ("PackTracerModel", "inside", "[I", true)
  | 24 => ("PackTracerModel", "spot", "[I", true)
  | 25 => ("PackTracerModel", "last", "[I", true)
  | 26 => ("PackTracerModel", "seen", "[I", true)
  | 27 => ("PackTracerModel", "open", "[Z", true)
  | 28 => ("PackTracerModel", "held", "[Z", true)
  | 29 => ("PackTracerModel", "sold", "[Z", true)
  | 30 => ("PackTracerModel", "ended", "[Z", true)
  | 31 => ("PackTracerModel", "isIn", "[Z", true)
  | 32 => ("PackTracerModel", "hourOf", "[I", true)
  | 33 => ("PackTracerModel", "order", "[I", true)
  | 34 => ("PackTracerModel", "ordered", "I", false)
  | 35 => ("PackTracerModel", "why", "[I", true)
  | 36 => ("PackTracerModel", "goes", "[Z", true)
  | 37 => ("PackTracerModel", "trailPlace", "[I", true)
  | 38 => ("PackTracerModel", "trailHour", "[I", true)
  | 39 => ("PackTracerModel", "trailed", "I", false)
  | 40 => ("PackTracerModel", "wereAt", "[I", true)
  | 41 => ("PackTracerModel", "blameOne", "I", false)
  | 42 => ("PackTracerModel", "blameTwo", "I", false)
  | 43 => ("PackTracerModel", "blameLeast", "I", false)
  | _ => ("PackTracerModel", "met", "[Z", true)
def tyX10 : Nat → FieldType := fun k => match k with
  | 0 => .int
  | 1 => .array .int
  | 2 => .int
  | 3 => .array .int
  | 4 => .array .int
  | 5 => .array .int
  | 6 => .array .int
  | 7 => .int
  | 8 => .int
  | 9 => .int
  | 10 => .int
  | 11 => .int
  | 12 => .int
  | 13 => .int
  | 14 => .int
  | 15 => .int
  | 16 => .int
  | 17 => .boolean
  | 18 => .boolean
  | 19 => .int
  | 20 => .array .int
  | 21 => .array .boolean
  | 22 => .array .int
  | 23 => .array .int
  | 24 => .array .int
  | 25 => .array .int
  | 26 => .array .int
  | 27 => .array .boolean
  | 28 => .array .boolean
  | 29 => .array .boolean
  | 30 => .array .boolean
  | 31 => .array .boolean
  | 32 => .array .int
  | 33 => .array .int
  | 34 => .int
  | 35 => .array .int
  | 36 => .array .boolean
  | 37 => .array .int
  | 38 => .array .int
  | 39 => .int
  | 40 => .array .int
  | 41 => .int
  | 42 => .int
  | 43 => .int
  | _ => .array .boolean
theorem nmX10 : ∀ a, a < 45 → ∀ b, b < 45 → a ≠ b → (TX10 a).2.1 ≠ (TX10 b).2.1 := by decide +kernel
theorem tyX10_ok : ∀ k, k < 45 → parseFieldDescriptor (TX10 k).2.2.1 = some (tyX10 k) := by decide +kernel
abbrev cX10_init : ByteArray := prog_12_method_1_code
def yX10_init : MethodName := ⟨RX10, "<init>", "()V"⟩
abbrev cX10_feed : ByteArray := prog_12_method_3_code
def yX10_feed : MethodName := ⟨RX10, "feed", "(IIIII)I"⟩
abbrev cX10_here : ByteArray := prog_12_method_4_code
def yX10_here : MethodName := ⟨RX10, "here", "()I"⟩
abbrev cX10_isSmall : ByteArray := prog_12_method_5_code
def yX10_isSmall : MethodName := ⟨RX10, "isSmall", "(I)Z"⟩
abbrev cX10_isDigit : ByteArray := prog_12_method_6_code
def yX10_isDigit : MethodName := ⟨RX10, "isDigit", "(I)Z"⟩
abbrev cX10_token : ByteArray := prog_12_method_7_code
def yX10_token : MethodName := ⟨RX10, "token", "()V"⟩
abbrev cX10_wordHere : ByteArray := prog_12_method_8_code
def yX10_wordHere : MethodName := ⟨RX10, "wordHere", "()I"⟩
abbrev cX10_wrong : ByteArray := prog_12_method_9_code
def yX10_wrong : MethodName := ⟨RX10, "wrong", "(I)V"⟩
abbrev cX10_goOn : ByteArray := prog_12_method_10_code
def yX10_goOn : MethodName := ⟨RX10, "goOn", "()V"⟩
abbrev cX10_number : ByteArray := prog_12_method_11_code
def yX10_number : MethodName := ⟨RX10, "number", "(II)I"⟩
abbrev cX10_placeHere : ByteArray := prog_12_method_12_code
def yX10_placeHere : MethodName := ⟨RX10, "placeHere", "()I"⟩
abbrev cX10_readPlace : ByteArray := prog_12_method_13_code
def yX10_readPlace : MethodName := ⟨RX10, "readPlace", "()I"⟩
abbrev cX10_readNew : ByteArray := prog_12_method_14_code
def yX10_readNew : MethodName := ⟨RX10, "readNew", "()V"⟩
abbrev cX10_readRoad : ByteArray := prog_12_method_15_code
def yX10_readRoad : MethodName := ⟨RX10, "readRoad", "()V"⟩
abbrev cX10_readFits : ByteArray := prog_12_method_16_code
def yX10_readFits : MethodName := ⟨RX10, "readFits", "()V"⟩
abbrev cX10_kindHere : ByteArray := prog_12_method_17_code
def yX10_kindHere : MethodName := ⟨RX10, "kindHere", "()I"⟩
abbrev cX10_readMessage : ByteArray := prog_12_method_18_code
def yX10_readMessage : MethodName := ⟨RX10, "readMessage", "()V"⟩
abbrev cX10_readLine : ByteArray := prog_12_method_19_code
def yX10_readLine : MethodName := ⟨RX10, "readLine", "(Z)V"⟩
abbrev cX10_freshText : ByteArray := prog_12_method_20_code
def yX10_freshText : MethodName := ⟨RX10, "freshText", "()V"⟩
abbrev cX10_reads : ByteArray := prog_12_method_21_code
def yX10_reads : MethodName := ⟨RX10, "reads", "(IZ)I"⟩
abbrev cX10_becomes : ByteArray := prog_12_method_22_code
def yX10_becomes : MethodName := ⟨RX10, "becomes", "()V"⟩
abbrev cX10_text : ByteArray := prog_12_method_23_code
def yX10_text : MethodName := ⟨RX10, "text", "(I)I"⟩
abbrev cX10_tell : ByteArray := prog_12_method_24_code
def yX10_tell : MethodName := ⟨RX10, "tell", "(I)I"⟩
abbrev cX10_fault : ByteArray := prog_12_method_25_code
def yX10_fault : MethodName := ⟨RX10, "fault", "(I)I"⟩
abbrev cX10_laysWays : ByteArray := prog_12_method_26_code
def yX10_laysWays : MethodName := ⟨RX10, "laysWays", "()V"⟩
abbrev cX10_hours : ByteArray := prog_12_method_27_code
def yX10_hours : MethodName := ⟨RX10, "hours", "(II)I"⟩
abbrev cX10_messages : ByteArray := prog_12_method_28_code
def yX10_messages : MethodName := ⟨RX10, "messages", "()I"⟩
abbrev cX10_told : ByteArray := prog_12_method_29_code
def yX10_told : MethodName := ⟨RX10, "told", "(II)I"⟩
abbrev cX10_takesAll : ByteArray := prog_12_method_30_code
def yX10_takesAll : MethodName := ⟨RX10, "takesAll", "()V"⟩
abbrev cX10_sorts : ByteArray := prog_12_method_31_code
def yX10_sorts : MethodName := ⟨RX10, "sorts", "()V"⟩
abbrev cX10_clears : ByteArray := prog_12_method_32_code
def yX10_clears : MethodName := ⟨RX10, "clears", "()V"⟩
abbrev cX10_topOf : ByteArray := prog_12_method_33_code
def yX10_topOf : MethodName := ⟨RX10, "topOf", "(I)I"⟩
abbrev cX10_isWithin : ByteArray := prog_12_method_34_code
def yX10_isWithin : MethodName := ⟨RX10, "isWithin", "(II)Z"⟩
abbrev cX10_isHeld : ByteArray := prog_12_method_35_code
def yX10_isHeld : MethodName := ⟨RX10, "isHeld", "(I)Z"⟩
abbrev cX10_manyIn : ByteArray := prog_12_method_36_code
def yX10_manyIn : MethodName := ⟨RX10, "manyIn", "(I)I"⟩
abbrev cX10_isSoon : ByteArray := prog_12_method_37_code
def yX10_isSoon : MethodName := ⟨RX10, "isSoon", "(III)Z"⟩
abbrev cX10_isOneOf : ByteArray := prog_12_method_38_code
def yX10_isOneOf : MethodName := ⟨RX10, "isOneOf", "(IIII)Z"⟩
abbrev cX10_reason : ByteArray := prog_12_method_39_code
def yX10_reason : MethodName := ⟨RX10, "reason", "(I)I"⟩
abbrev cX10_looks : ByteArray := prog_12_method_40_code
def yX10_looks : MethodName := ⟨RX10, "looks", "(I)V"⟩
abbrev cX10_lies : ByteArray := prog_12_method_41_code
def yX10_lies : MethodName := ⟨RX10, "lies", "(III)V"⟩
abbrev cX10_takes : ByteArray := prog_12_method_42_code
def yX10_takes : MethodName := ⟨RX10, "takes", "(IIIII)V"⟩
abbrev cX10_comesOut : ByteArray := prog_12_method_43_code
def yX10_comesOut : MethodName := ⟨RX10, "comesOut", "(III)V"⟩
abbrev cX10_scans : ByteArray := prog_12_method_44_code
def yX10_scans : MethodName := ⟨RX10, "scans", "(III)V"⟩
abbrev cX10_ends : ByteArray := prog_12_method_45_code
def yX10_ends : MethodName := ⟨RX10, "ends", "(I)V"⟩
abbrev cX10_runs : ByteArray := prog_12_method_46_code
def yX10_runs : MethodName := ⟨RX10, "runs", "(I)V"⟩
abbrev cX10_runsAll : ByteArray := prog_12_method_47_code
def yX10_runsAll : MethodName := ⟨RX10, "runsAll", "()V"⟩
abbrev cX10_runsTo : ByteArray := prog_12_method_48_code
def yX10_runsTo : MethodName := ⟨RX10, "runsTo", "(I)V"⟩
abbrev cX10_whereIs : ByteArray := prog_12_method_49_code
def yX10_whereIs : MethodName := ⟨RX10, "whereIs", "(I)I"⟩
abbrev cX10_message : ByteArray := prog_12_method_50_code
def yX10_message : MethodName := ⟨RX10, "message", "(II)I"⟩
abbrev cX10_orderOf : ByteArray := prog_12_method_51_code
def yX10_orderOf : MethodName := ⟨RX10, "orderOf", "(I)I"⟩
abbrev cX10_isLate : ByteArray := prog_12_method_52_code
def yX10_isLate : MethodName := ⟨RX10, "isLate", "(I)Z"⟩
abbrev cX10_isThing : ByteArray := prog_12_method_53_code
def yX10_isThing : MethodName := ⟨RX10, "isThing", "(I)Z"⟩
abbrev cX10_isHour : ByteArray := prog_12_method_54_code
def yX10_isHour : MethodName := ⟨RX10, "isHour", "(I)Z"⟩
abbrev cX10_allIn : ByteArray := prog_12_method_55_code
def yX10_allIn : MethodName := ⟨RX10, "allIn", "(I)I"⟩
abbrev cX10_thing : ByteArray := prog_12_method_56_code
def yX10_thing : MethodName := ⟨RX10, "thing", "(III)I"⟩
abbrev cX10_inside : ByteArray := prog_12_method_57_code
def yX10_inside : MethodName := ⟨RX10, "inside", "(III)I"⟩
abbrev cX10_isPlace : ByteArray := prog_12_method_58_code
def yX10_isPlace : MethodName := ⟨RX10, "isPlace", "(I)Z"⟩
abbrev cX10_there : ByteArray := prog_12_method_59_code
def yX10_there : MethodName := ⟨RX10, "there", "(III)I"⟩
abbrev cX10_isSo : ByteArray := prog_12_method_60_code
def yX10_isSo : MethodName := ⟨RX10, "isSo", "(II)Z"⟩
abbrev cX10_many : ByteArray := prog_12_method_61_code
def yX10_many : MethodName := ⟨RX10, "many", "(II)I"⟩
abbrev cX10_laysTrail : ByteArray := prog_12_method_62_code
def yX10_laysTrail : MethodName := ⟨RX10, "laysTrail", "(I)V"⟩
abbrev cX10_trail : ByteArray := prog_12_method_63_code
def yX10_trail : MethodName := ⟨RX10, "trail", "(III)I"⟩
abbrev cX10_latest : ByteArray := prog_12_method_64_code
def yX10_latest : MethodName := ⟨RX10, "latest", "()I"⟩
abbrev cX10_dwelt : ByteArray := prog_12_method_65_code
def yX10_dwelt : MethodName := ⟨RX10, "dwelt", "(II)I"⟩
abbrev cX10_flow : ByteArray := prog_12_method_66_code
def yX10_flow : MethodName := ⟨RX10, "flow", "(II)I"⟩
abbrev cX10_runsFirst : ByteArray := prog_12_method_67_code
def yX10_runsFirst : MethodName := ⟨RX10, "runsFirst", "(I)V"⟩
abbrev cX10_known : ByteArray := prog_12_method_68_code
def yX10_known : MethodName := ⟨RX10, "known", "(II)I"⟩
abbrev cX10_changed : ByteArray := prog_12_method_69_code
def yX10_changed : MethodName := ⟨RX10, "changed", "(I)I"⟩
abbrev cX10_runsWithout : ByteArray := prog_12_method_70_code
def yX10_runsWithout : MethodName := ⟨RX10, "runsWithout", "(II)V"⟩
abbrev cX10_without : ByteArray := prog_12_method_71_code
def yX10_without : MethodName := ⟨RX10, "without", "(II)I"⟩
abbrev cX10_refusedNow : ByteArray := prog_12_method_72_code
def yX10_refusedNow : MethodName := ⟨RX10, "refusedNow", "()I"⟩
abbrev cX10_refused : ByteArray := prog_12_method_73_code
def yX10_refused : MethodName := ⟨RX10, "refused", "(I)I"⟩
abbrev cX10_blames : ByteArray := prog_12_method_74_code
def yX10_blames : MethodName := ⟨RX10, "blames", "(Z)V"⟩
abbrev cX10_blamed : ByteArray := prog_12_method_75_code
def yX10_blamed : MethodName := ⟨RX10, "blamed", "(I)I"⟩
abbrev cX10_twoBlamed : ByteArray := prog_12_method_76_code
def yX10_twoBlamed : MethodName := ⟨RX10, "twoBlamed", "(I)I"⟩
abbrev cX10_isRefused : ByteArray := prog_12_method_77_code
def yX10_isRefused : MethodName := ⟨RX10, "isRefused", "(I)Z"⟩
abbrev cX10_cause : ByteArray := prog_12_method_78_code
def yX10_cause : MethodName := ⟨RX10, "cause", "(I)I"⟩
abbrev cX10_needs : ByteArray := prog_12_method_79_code
def yX10_needs : MethodName := ⟨RX10, "needs", "(II)I"⟩
abbrev cX10_runsAt : ByteArray := prog_12_method_80_code
def yX10_runsAt : MethodName := ⟨RX10, "runsAt", "(II)V"⟩
abbrev cX10_ifAt : ByteArray := prog_12_method_81_code
def yX10_ifAt : MethodName := ⟨RX10, "ifAt", "(III)I"⟩
abbrev cX10_window : ByteArray := prog_12_method_82_code
def yX10_window : MethodName := ⟨RX10, "window", "(II)I"⟩
abbrev cX10_meets : ByteArray := prog_12_method_83_code
def yX10_meets : MethodName := ⟨RX10, "meets", "()V"⟩
abbrev cX10_pick : ByteArray := prog_12_method_84_code
def yX10_pick : MethodName := ⟨RX10, "pick", "([ZI)I"⟩
abbrev cX10_met : ByteArray := prog_12_method_85_code
def yX10_met : MethodName := ⟨RX10, "met", "(III)I"⟩
abbrev cX10_adds : ByteArray := prog_12_method_86_code
def yX10_adds : MethodName := ⟨RX10, "adds", "(I)V"⟩
abbrev cX10_wereIn : ByteArray := prog_12_method_87_code
def yX10_wereIn : MethodName := ⟨RX10, "wereIn", "(IIII)I"⟩
abbrev cX10_most : ByteArray := prog_12_method_88_code
def yX10_most : MethodName := ⟨RX10, "most", "(I)I"⟩
abbrev cX10_bitsIn : ByteArray := prog_12_method_89_code
def yX10_bitsIn : MethodName := ⟨RX10, "bitsIn", "(I)J"⟩
abbrev cX10_still : ByteArray := prog_12_method_90_code
def yX10_still : MethodName := ⟨RX10, "still", "(II)I"⟩
abbrev cX10_components : ByteArray := prog_12_method_91_code
def yX10_components : MethodName := ⟨RX10, "components", "(II)I"⟩
abbrev cX10_clash : ByteArray := prog_12_method_92_code
def yX10_clash : MethodName := ⟨RX10, "clash", "(III)I"⟩
abbrev cX10_soonest : ByteArray := prog_12_method_93_code
def yX10_soonest : MethodName := ⟨RX10, "soonest", "(III)I"⟩
abbrev cX10_lost : ByteArray := prog_12_method_94_code
def yX10_lost : MethodName := ⟨RX10, "lost", "(III)I"⟩
abbrev cX10_ifSwapped : ByteArray := prog_12_method_95_code
def yX10_ifSwapped : MethodName := ⟨RX10, "ifSwapped", "(III)I"⟩
abbrev cX10_manyAt : ByteArray := prog_12_method_96_code
def yX10_manyAt : MethodName := ⟨RX10, "manyAt", "(I)I"⟩
abbrev cX10_busy : ByteArray := prog_12_method_97_code
def yX10_busy : MethodName := ⟨RX10, "busy", "(II)I"⟩
abbrev cX10_travelled : ByteArray := prog_12_method_98_code
def yX10_travelled : MethodName := ⟨RX10, "travelled", "(I)I"⟩
abbrev cX10_count : ByteArray := prog_12_method_99_code
def yX10_count : MethodName := ⟨RX10, "count", "(I)I"⟩
abbrev cX10_lates : ByteArray := prog_12_method_100_code
def yX10_lates : MethodName := ⟨RX10, "lates", "()I"⟩
def RJx145de : String := "java/io/Serializable"
def TJx145de : u_T := fun k => match k with
  | _ => ("", "", "", false)
def tyJx145de : Nat → FieldType := fun k => match k with
  | _ => .int
theorem nmJx145de : ∀ a, a < 0 → ∀ b, b < 0 → a ≠ b → (TJx145de a).2.1 ≠ (TJx145de b).2.1 := by decide +kernel
theorem tyJx145de_ok : ∀ k, k < 0 → parseFieldDescriptor (TJx145de k).2.2.1 = some (tyJx145de k) := by decide +kernel
def RJx9f9b0 : String := "java/lang/CharSequence"
def TJx9f9b0 : u_T := fun k => match k with
  | _ => ("", "", "", false)
def tyJx9f9b0 : Nat → FieldType := fun k => match k with
  | _ => .int
theorem nmJx9f9b0 : ∀ a, a < 0 → ∀ b, b < 0 → a ≠ b → (TJx9f9b0 a).2.1 ≠ (TJx9f9b0 b).2.1 := by decide +kernel
theorem tyJx9f9b0_ok : ∀ k, k < 0 → parseFieldDescriptor (TJx9f9b0 k).2.2.1 = some (tyJx9f9b0 k) := by decide +kernel
def RJxb160c : String := "java/lang/Comparable"
def TJxb160c : u_T := fun k => match k with
  | _ => ("", "", "", false)
def tyJxb160c : Nat → FieldType := fun k => match k with
  | _ => .int
theorem nmJxb160c : ∀ a, a < 0 → ∀ b, b < 0 → a ≠ b → (TJxb160c a).2.1 ≠ (TJxb160c b).2.1 := by decide +kernel
theorem tyJxb160c_ok : ∀ k, k < 0 → parseFieldDescriptor (TJxb160c k).2.2.1 = some (tyJxb160c k) := by decide +kernel
def RJ13 : String := "java/lang/Long"
def TJ13 : u_T := fun k => match k with
  | _ => ("", "", "", false)
def tyJ13 : Nat → FieldType := fun k => match k with
  | _ => .int
theorem nmJ13 : ∀ a, a < 0 → ∀ b, b < 0 → a ≠ b → (TJ13 a).2.1 ≠ (TJ13 b).2.1 := by decide +kernel
theorem tyJ13_ok : ∀ k, k < 0 → parseFieldDescriptor (TJ13 k).2.2.1 = some (tyJ13 k) := by decide +kernel
abbrev cJ13_bitCount_95d88 : ByteArray := prog_18_method_50_code
def yJ13_bitCount_95d88 : MethodName := ⟨RJ13, "bitCount", "(J)I"⟩
def RJ9 : String := "java/lang/Math"
def TJ9 : u_T := fun k => match k with
  | _ => ("", "", "", false)
def tyJ9 : Nat → FieldType := fun k => match k with
  | _ => .int
theorem nmJ9 : ∀ a, a < 0 → ∀ b, b < 0 → a ≠ b → (TJ9 a).2.1 ≠ (TJ9 b).2.1 := by decide +kernel
theorem tyJ9_ok : ∀ k, k < 0 → parseFieldDescriptor (TJ9 k).2.2.1 = some (tyJ9 k) := by decide +kernel
abbrev cJ9_max_7cf53 : ByteArray := prog_19_method_65_code
def yJ9_max_7cf53 : MethodName := ⟨RJ9, "max", "(II)I"⟩
abbrev cJ9_min_7cf53 : ByteArray := prog_19_method_69_code
def yJ9_min_7cf53 : MethodName := ⟨RJ9, "min", "(II)I"⟩
def RJ0 : String := "java/lang/String"
def TJ0 : u_T := fun k => match k with
  | _ => ("", "", "", false)
def tyJ0 : Nat → FieldType := fun k => match k with
  | _ => .int
theorem nmJ0 : ∀ a, a < 0 → ∀ b, b < 0 → a ≠ b → (TJ0 a).2.1 ≠ (TJ0 b).2.1 := by decide +kernel
theorem tyJ0_ok : ∀ k, k < 0 → parseFieldDescriptor (TJ0 k).2.2.1 = some (tyJ0 k) := by decide +kernel
abbrev cJ0_length_8abf5 : ByteArray := prog_21_method_54_code
def yJ0_length_8abf5 : MethodName := ⟨RJ0, "length", "()I"⟩
abbrev cJ0_charAt_5068e : ByteArray := prog_21_method_56_code
def yJ0_charAt_5068e : MethodName := ⟨RJ0, "charAt", "(I)C"⟩
abbrev cJ0_coder_7d493 : ByteArray := prog_21_method_152_code
def yJ0_coder_7d493 : MethodName := ⟨RJ0, "coder", "()B"⟩
abbrev cJ0_isLatin1_aae02 : ByteArray := prog_21_method_154_code
def yJ0_isLatin1_aae02 : MethodName := ⟨RJ0, "isLatin1", "()Z"⟩
abbrev cJ0_checkIndex_df160 : ByteArray := prog_21_method_155_code
def yJ0_checkIndex_df160 : MethodName := ⟨RJ0, "checkIndex", "(II)V"⟩
def RJ1 : String := "java/lang/StringLatin1"
def TJ1 : u_T := fun k => match k with
  | _ => ("", "", "", false)
def tyJ1 : Nat → FieldType := fun k => match k with
  | _ => .int
theorem nmJ1 : ∀ a, a < 0 → ∀ b, b < 0 → a ≠ b → (TJ1 a).2.1 ≠ (TJ1 b).2.1 := by decide +kernel
theorem tyJ1_ok : ∀ k, k < 0 → parseFieldDescriptor (TJ1 k).2.2.1 = some (tyJ1 k) := by decide +kernel
abbrev cJ1_charAt_3b067 : ByteArray := prog_22_method_2_code
def yJ1_charAt_3b067 : MethodName := ⟨RJ1, "charAt", "([BI)C"⟩
def RJ2 : String := "java/lang/StringUTF16"
def TJ2 : u_T := fun k => match k with
  | _ => ("", "", "", false)
def tyJ2 : Nat → FieldType := fun k => match k with
  | _ => .int
theorem nmJ2 : ∀ a, a < 0 → ∀ b, b < 0 → a ≠ b → (TJ2 a).2.1 ≠ (TJ2 b).2.1 := by decide +kernel
theorem tyJ2_ok : ∀ k, k < 0 → parseFieldDescriptor (TJ2 k).2.2.1 = some (tyJ2 k) := by decide +kernel
abbrev cJ2_getChar_3b067 : ByteArray := prog_23_method_5_code
def yJ2_getChar_3b067 : MethodName := ⟨RJ2, "getChar", "([BI)C"⟩
abbrev cJ2_length_9d52b : ByteArray := prog_23_method_6_code
def yJ2_length_9d52b : MethodName := ⟨RJ2, "length", "([B)I"⟩
abbrev cJ2_charAt_3b067 : ByteArray := prog_23_method_83_code
def yJ2_charAt_3b067 : MethodName := ⟨RJ2, "charAt", "([BI)C"⟩
abbrev cJ2_checkIndex_2214a : ByteArray := prog_23_method_91_code
def yJ2_checkIndex_2214a : MethodName := ⟨RJ2, "checkIndex", "(I[B)V"⟩
def RJ10 : String := "java/lang/System"
def TJ10 : u_T := fun k => match k with
  | _ => ("", "", "", false)
def tyJ10 : Nat → FieldType := fun k => match k with
  | _ => .int
theorem nmJ10 : ∀ a, a < 0 → ∀ b, b < 0 → a ≠ b → (TJ10 a).2.1 ≠ (TJ10 b).2.1 := by decide +kernel
theorem tyJ10_ok : ∀ k, k < 0 → parseFieldDescriptor (TJ10 k).2.2.1 = some (tyJ10 k) := by decide +kernel
def RJxfd54e : String := "java/lang/constant/Constable"
def TJxfd54e : u_T := fun k => match k with
  | _ => ("", "", "", false)
def tyJxfd54e : Nat → FieldType := fun k => match k with
  | _ => .int
theorem nmJxfd54e : ∀ a, a < 0 → ∀ b, b < 0 → a ≠ b → (TJxfd54e a).2.1 ≠ (TJxfd54e b).2.1 := by decide +kernel
theorem tyJxfd54e_ok : ∀ k, k < 0 → parseFieldDescriptor (TJxfd54e k).2.2.1 = some (tyJxfd54e k) := by decide +kernel
def RJx3cf43 : String := "java/lang/constant/ConstantDesc"
def TJx3cf43 : u_T := fun k => match k with
  | _ => ("", "", "", false)
def tyJx3cf43 : Nat → FieldType := fun k => match k with
  | _ => .int
theorem nmJx3cf43 : ∀ a, a < 0 → ∀ b, b < 0 → a ≠ b → (TJx3cf43 a).2.1 ≠ (TJx3cf43 b).2.1 := by decide +kernel
theorem tyJx3cf43_ok : ∀ k, k < 0 → parseFieldDescriptor (TJx3cf43 k).2.2.1 = some (tyJx3cf43 k) := by decide +kernel
def RJ7 : String := "java/util/Arrays"
def TJ7 : u_T := fun k => match k with
  | _ => ("", "", "", false)
def tyJ7 : Nat → FieldType := fun k => match k with
  | _ => .int
theorem nmJ7 : ∀ a, a < 0 → ∀ b, b < 0 → a ≠ b → (TJ7 a).2.1 ≠ (TJ7 b).2.1 := by decide +kernel
theorem tyJ7_ok : ∀ k, k < 0 → parseFieldDescriptor (TJ7 k).2.2.1 = some (tyJ7 k) := by decide +kernel
abbrev cJ7_fill_53178 : ByteArray := prog_28_method_103_code
def yJ7_fill_53178 : MethodName := ⟨RJ7, "fill", "([II)V"⟩
def RJ3 : String := "jdk/internal/util/Preconditions"
def TJ3 : u_T := fun k => match k with
  | _ => ("", "", "", false)
def tyJ3 : Nat → FieldType := fun k => match k with
  | _ => .int
theorem nmJ3 : ∀ a, a < 0 → ∀ b, b < 0 → a ≠ b → (TJ3 a).2.1 ≠ (TJ3 b).2.1 := by decide +kernel
theorem tyJ3_ok : ∀ k, k < 0 → parseFieldDescriptor (TJ3 k).2.2.1 = some (tyJ3 k) := by decide +kernel
abbrev cJ3_checkIndex_8e157 : ByteArray := prog_30_method_11_code
def yJ3_checkIndex_8e157 : MethodName := ⟨RJ3, "checkIndex", "(IILjava/util/function/BiFunction;)I"⟩
def RL : String := "PackTracerLaw"
abbrev cL_message : ByteArray := method_3_code
def yL_message : MethodName := ⟨RL, "message", "(LPackTracer;II[J)I"⟩
abbrev cL_law : ByteArray := code
def yL_law : MethodName := ⟨RL, "law", "([I)Z"⟩
abbrev vwCl : List vw_C := [(RX0, TX0, 12), (RX1, TX1, 13), (RX2, TX2, 3), (RX3, TX3, 7), (RX4, TX4, 8), (RX5, TX5, 5), (RX6, TX6, 2), (RX7, TX7, 8), (RX8, TX8, 6), (RX9, TX9, 7), (RX10, TX10, 45)]
end
section
/-! THE MINI MACHINE: the bytecode of class and reference run over a heap of cells by number. A run of it that ends is a walk of the machine itself (part 12). -/
/-- a cell: an array of small ints (0 int, 1 boolean, 2 byte), or an object (the number of its class, its fields); a reference is a cell's number -/
abbrev mzC : Type := (Nat × List Int32) ⊕ (Nat × List Value)
abbrev mzH : Type := List mzC
abbrev mzL : Type := List (Nat × Value)
/-- pc, instruction, two numbers (a block, a field, a callee ..), a list of numbers -/
abbrev mzO : Type := Nat × Instr × Nat × Nat × List Nat
abbrev mzB : Type := List (List mzO)
abbrev mzR : Type := Option (Option Value × mzH)
/-- a way to go on: locals, stack, heap, cells left, slots left -/
abbrev mzK : Type := mzL → List Value → mzH → Nat → Nat → mzR
def mzNth {α : Type} : List α → Nat → Option α
  | [], _ => none
  | a :: _, 0 => some a
  | _ :: l, n + 1 => mzNth l n
theorem mzNth_eq {α : Type} : ∀ (l : List α) (n : Nat), mzNth l n = l[n]?
  | [], n => by simp [mzNth]
  | a :: l, 0 => by simp [mzNth]
  | a :: l, n + 1 => by simp [mzNth, mzNth_eq l n]
def mzPc : List mzO → Nat
  | [] => 0
  | q :: _ => q.1
def mzBlk (bl : mzB) (x : Nat) : List mzO := (mzNth bl x).getD []
end
section
/-! TABLES of the mini machine, by program (wip/gen.py) -/
def zB_0 : mzB := [[(0, .aload_n 0, 0, 0, []), (1, .invokespecial 3, 0, 0, [0]), (4, .aload_n 0, 0, 0, []), (5, .new 9, 8, 6, [0]), (8, .dup, 0, 0, []), (9, .invokespecial 11, 82, 8, [1, 6, 240]), (12, .putfield 12, 0, 0, [2]), (15, .aload_n 0, 0, 0, []), (16, .new 9, 8, 6, [0]), (19, .dup, 0, 0, []), (20, .invokespecial 11, 82, 8, [1, 6, 240]), (23, .putfield 18, 0, 1, [2]), (26, .aload_n 0, 0, 0, []), (27, .new 9, 8, 6, [0]), (30, .dup, 0, 0, []), (31, .invokespecial 11, 82, 8, [1, 6, 240]), (34, .putfield 21, 0, 2, [2]), (37, .aload_n 0, 0, 0, []), (38, .aload_n 1, 0, 0, []), (39, .getfield 24, 5, 4, [0]), (42, .putfield 30, 0, 3, [2]), (45, .aload_n 0, 0, 0, []), (46, .aload_n 1, 0, 0, []), (47, .getfield 31, 5, 0, [0]), (50, .putfield 35, 0, 4, [2]), (53, .return_, 0, 0, [])]]
def zB_1 : mzB := [[(0, .aload_n 0, 0, 0, []), (1, .iconst 0, 0, 0, []), (2, .putfield 36, 0, 5, [1]), (5, .aload_n 0, 0, 0, []), (6, .iconst 0, 0, 0, []), (7, .putfield 40, 0, 6, [1]), (10, .return_, 0, 0, [])]]
def zB_2 : mzB := [[(0, .aload_n 0, 0, 0, []), (1, .getfield 36, 0, 5, [0]), (4, .ifCond .eq 4, 1, 0, []), (7, .return_, 0, 0, [])], [(8, .aload_n 0, 0, 0, []), (9, .iconst 1, 0, 0, []), (10, .putfield 36, 0, 5, [1]), (13, .aload_n 0, 0, 0, []), (14, .bipush 60, 0, 0, []), (16, .putfield 43, 0, 8, [0]), (19, .aload_n 0, 0, 0, []), (20, .getfield 12, 0, 0, [0]), (23, .invokevirtual 47, 83, 8, [1, 0, 0]), (26, .iconst 0, 0, 0, []), (27, .istore_n 1, 0, 0, []), (28, .iconst 0, 0, 0, []), (29, .istore_n 2, 0, 0, []), (30, .nop, 2, 0, [])], [(30, .iload_n 2, 0, 0, []), (31, .aload_n 0, 0, 0, []), (32, .getfield 35, 0, 4, [0]), (35, .getfield 50, 2, 2, [0]), (38, .if_icmp .ge 91, 5, 0, []), (41, .aload_n 0, 0, 0, []), (42, .getfield 21, 0, 2, [0]), (45, .aload_n 0, 0, 0, []), (46, .getfield 12, 0, 0, [0]), (49, .invokevirtual 55, 84, 8, [2, 0, 0]), (52, .aload_n 0, 0, 0, []), (53, .getfield 35, 0, 4, [0]), (56, .getfield 59, 2, 1, [0]), (59, .iload_n 2, 0, 0, []), (60, .iaload, 0, 0, []), (61, .istore_n 3, 0, 0, []), (62, .aload_n 0, 0, 0, []), (63, .iload_n 2, 0, 0, []), (64, .iload_n 1, 0, 0, []), (65, .aload_n 0, 0, 0, []), (66, .getfield 43, 0, 8, [0]), (69, .invokevirtual 63, 6, 0, [4, 0, 0]), (72, .istore 4, 0, 0, []), (74, .iload 4, 0, 0, []), (76, .aload_n 0, 0, 0, []), (77, .getfield 43, 0, 8, [0]), (80, .if_icmp .lt 20, 3, 0, []), (83, .iload 4, 0, 0, []), (85, .aload_n 0, 0, 0, []), (86, .getfield 43, 0, 8, [0]), (89, .if_icmp .ne 22, 4, 0, []), (92, .iload_n 3, 0, 0, []), (93, .aload_n 0, 0, 0, []), (94, .getfield 67, 0, 7, [0]), (97, .if_icmp .ge 14, 4, 0, []), (100, .nop, 3, 0, [])], [(100, .aload_n 0, 0, 0, []), (101, .iload_n 3, 0, 0, []), (102, .putfield 67, 0, 7, [0]), (105, .aload_n 0, 0, 0, []), (106, .iload 4, 0, 0, []), (108, .putfield 43, 0, 8, [0]), (111, .nop, 4, 0, [])], [(111, .iload_n 1, 0, 0, []), (112, .aload_n 0, 0, 0, []), (113, .iload_n 2, 0, 0, []), (114, .aload_n 0, 0, 0, []), (115, .getfield 12, 0, 0, [0]), (118, .invokevirtual 70, 7, 0, [3, 0, 0]), (121, .iadd, 0, 0, []), (122, .istore_n 1, 0, 0, []), (123, .iinc 2 1, 0, 0, []), (126, .goto (-96), 2, 0, [])], [(129, .return_, 0, 0, [])]]
def zB_3 : mzB := [[(0, .aload_n 0, 0, 0, []), (1, .getfield 40, 0, 6, [0]), (4, .ifCond .eq 4, 1, 0, []), (7, .return_, 0, 0, [])], [(8, .aload_n 0, 0, 0, []), (9, .iconst 1, 0, 0, []), (10, .putfield 40, 0, 6, [1]), (13, .aload_n 0, 0, 0, []), (14, .bipush 60, 0, 0, []), (16, .putfield 74, 0, 11, [0]), (19, .aload_n 0, 0, 0, []), (20, .getfield 12, 0, 0, [0]), (23, .invokevirtual 47, 83, 8, [1, 0, 0]), (26, .iconst 0, 0, 0, []), (27, .istore_n 1, 0, 0, []), (28, .iconst 0, 0, 0, []), (29, .istore_n 2, 0, 0, []), (30, .nop, 2, 0, [])], [(30, .iload_n 2, 0, 0, []), (31, .aload_n 0, 0, 0, []), (32, .getfield 35, 0, 4, [0]), (35, .getfield 50, 2, 2, [0]), (38, .if_icmp .ge 27, 3, 0, []), (41, .aload_n 0, 0, 0, []), (42, .iload_n 2, 0, 0, []), (43, .iload_n 1, 0, 0, []), (44, .invokevirtual 77, 4, 0, [3, 0, 0]), (47, .iload_n 1, 0, 0, []), (48, .aload_n 0, 0, 0, []), (49, .iload_n 2, 0, 0, []), (50, .aload_n 0, 0, 0, []), (51, .getfield 12, 0, 0, [0]), (54, .invokevirtual 70, 7, 0, [3, 0, 0]), (57, .iadd, 0, 0, []), (58, .istore_n 1, 0, 0, []), (59, .iinc 2 1, 0, 0, []), (62, .goto (-32), 2, 0, [])], [(65, .return_, 0, 0, [])]]
def zB_4 : mzB := [[(0, .aload_n 0, 0, 0, []), (1, .getfield 18, 0, 1, [0]), (4, .aload_n 0, 0, 0, []), (5, .getfield 12, 0, 0, [0]), (8, .invokevirtual 55, 84, 8, [2, 0, 0]), (11, .iload_n 2, 0, 0, []), (12, .istore_n 3, 0, 0, []), (13, .iload_n 1, 0, 0, []), (14, .iconst 1, 0, 0, []), (15, .iadd, 0, 0, []), (16, .istore 4, 0, 0, []), (18, .nop, 1, 0, [])], [(18, .iload 4, 0, 0, []), (20, .aload_n 0, 0, 0, []), (21, .getfield 35, 0, 4, [0]), (24, .getfield 50, 2, 2, [0]), (27, .if_icmp .ge 96, 2, 0, []), (30, .aload_n 0, 0, 0, []), (31, .getfield 21, 0, 2, [0]), (34, .aload_n 0, 0, 0, []), (35, .getfield 18, 0, 1, [0]), (38, .invokevirtual 55, 84, 8, [2, 0, 0]), (41, .aload_n 0, 0, 0, []), (42, .iload 4, 0, 0, []), (44, .iload_n 3, 0, 0, []), (45, .aload_n 0, 0, 0, []), (46, .getfield 74, 0, 11, [0]), (49, .invokevirtual 63, 6, 0, [4, 0, 0]), (52, .istore 5, 0, 0, []), (54, .aload_n 0, 0, 0, []), (55, .aload_n 0, 0, 0, []), (56, .getfield 35, 0, 4, [0]), (59, .getfield 59, 2, 1, [0]), (62, .iload_n 1, 0, 0, []), (63, .iaload, 0, 0, []), (64, .aload_n 0, 0, 0, []), (65, .getfield 35, 0, 4, [0]), (68, .getfield 59, 2, 1, [0]), (71, .iload 4, 0, 0, []), (73, .iaload, 0, 0, []), (74, .invokestatic 81, 0, 0, [2]), (77, .aload_n 0, 0, 0, []), (78, .getfield 35, 0, 4, [0]), (81, .getfield 59, 2, 1, [0]), (84, .iload_n 1, 0, 0, []), (85, .iaload, 0, 0, []), (86, .aload_n 0, 0, 0, []), (87, .getfield 35, 0, 4, [0]), (90, .getfield 59, 2, 1, [0]), (93, .iload 4, 0, 0, []), (95, .iaload, 0, 0, []), (96, .invokestatic 87, 0, 0, [1]), (99, .iload 5, 0, 0, []), (101, .invokevirtual 90, 5, 0, [4, 0, 0]), (104, .iload_n 3, 0, 0, []), (105, .aload_n 0, 0, 0, []), (106, .iload 4, 0, 0, []), (108, .aload_n 0, 0, 0, []), (109, .getfield 18, 0, 1, [0]), (112, .invokevirtual 70, 7, 0, [3, 0, 0]), (115, .iadd, 0, 0, []), (116, .istore_n 3, 0, 0, []), (117, .iinc 4 1, 0, 0, []), (120, .goto (-102), 1, 0, [])], [(123, .return_, 0, 0, [])]]
def zB_5 : mzB := [[(0, .iload_n 1, 0, 0, []), (1, .aload_n 0, 0, 0, []), (2, .getfield 94, 0, 9, [0]), (5, .if_icmp .lt 19, 1, 0, []), (8, .iload_n 1, 0, 0, []), (9, .aload_n 0, 0, 0, []), (10, .getfield 94, 0, 9, [0]), (13, .if_icmp .ne 15, 2, 0, []), (16, .iload_n 2, 0, 0, []), (17, .aload_n 0, 0, 0, []), (18, .getfield 97, 0, 10, [0]), (21, .if_icmp .ge 7, 2, 0, []), (24, .nop, 1, 0, [])], [(24, .iconst 1, 0, 0, []), (25, .goto 4, 3, 0, [])], [(28, .iconst 0, 0, 0, []), (29, .nop, 3, 0, [])], [(29, .istore 4, 0, 0, []), (31, .iload_n 3, 0, 0, []), (32, .aload_n 0, 0, 0, []), (33, .getfield 74, 0, 11, [0]), (36, .if_icmp .lt 16, 4, 0, []), (39, .iload_n 3, 0, 0, []), (40, .aload_n 0, 0, 0, []), (41, .getfield 74, 0, 11, [0]), (44, .if_icmp .ne 23, 5, 0, []), (47, .iload 4, 0, 0, []), (49, .ifCond .eq 18, 5, 0, []), (52, .nop, 4, 0, [])], [(52, .aload_n 0, 0, 0, []), (53, .iload_n 1, 0, 0, []), (54, .putfield 94, 0, 9, [0]), (57, .aload_n 0, 0, 0, []), (58, .iload_n 2, 0, 0, []), (59, .putfield 97, 0, 10, [0]), (62, .aload_n 0, 0, 0, []), (63, .iload_n 3, 0, 0, []), (64, .putfield 74, 0, 11, [0]), (67, .nop, 5, 0, [])], [(67, .return_, 0, 0, [])]]
def zB_6 : mzB := [[(0, .iload_n 2, 0, 0, []), (1, .istore 4, 0, 0, []), (3, .iload_n 1, 0, 0, []), (4, .iconst 1, 0, 0, []), (5, .iadd, 0, 0, []), (6, .istore 5, 0, 0, []), (8, .nop, 1, 0, [])], [(8, .iload 5, 0, 0, []), (10, .aload_n 0, 0, 0, []), (11, .getfield 35, 0, 4, [0]), (14, .getfield 50, 2, 2, [0]), (17, .if_icmp .ge 58, 4, 0, []), (20, .iload 4, 0, 0, []), (22, .iload_n 3, 0, 0, []), (23, .if_icmp .gt 52, 4, 0, []), (26, .iload 4, 0, 0, []), (28, .aload_n 0, 0, 0, []), (29, .getfield 21, 0, 2, [0]), (32, .aload_n 0, 0, 0, []), (33, .getfield 30, 0, 3, [0]), (36, .aload_n 0, 0, 0, []), (37, .getfield 35, 0, 4, [0]), (40, .getfield 59, 2, 1, [0]), (43, .iload 5, 0, 0, []), (45, .iaload, 0, 0, []), (46, .aload_n 0, 0, 0, []), (47, .getfield 35, 0, 4, [0]), (50, .iload 5, 0, 0, []), (52, .invokevirtual 100, 27, 2, [2, 0, 0]), (55, .invokevirtual 104, 93, 8, [4, 0, 0]), (58, .ifCond .eq 7, 2, 0, []), (61, .iconst 1, 0, 0, []), (62, .goto 4, 3, 0, [])], [(65, .iconst 0, 0, 0, []), (66, .nop, 3, 0, [])], [(66, .iadd, 0, 0, []), (67, .istore 4, 0, 0, []), (69, .iinc 5 1, 0, 0, []), (72, .goto (-64), 1, 0, [])], [(75, .iload 4, 0, 0, []), (77, .ireturn, 0, 0, [])]]
def zB_7 : mzB := [[(0, .aload_n 2, 0, 0, []), (1, .aload_n 0, 0, 0, []), (2, .getfield 30, 0, 3, [0]), (5, .aload_n 0, 0, 0, []), (6, .getfield 35, 0, 4, [0]), (9, .getfield 59, 2, 1, [0]), (12, .iload_n 1, 0, 0, []), (13, .iaload, 0, 0, []), (14, .aload_n 0, 0, 0, []), (15, .getfield 35, 0, 4, [0]), (18, .iload_n 1, 0, 0, []), (19, .invokevirtual 100, 27, 2, [2, 0, 0]), (22, .invokevirtual 104, 93, 8, [4, 0, 0]), (25, .ifCond .eq 7, 1, 0, []), (28, .iconst 1, 0, 0, []), (29, .goto 4, 2, 0, [])], [(32, .iconst 0, 0, 0, []), (33, .nop, 2, 0, [])], [(33, .ireturn, 0, 0, [])]]
def zB_8 : mzB := [[(0, .aload_n 0, 0, 0, []), (1, .invokespecial 3, 0, 0, [0]), (4, .aload_n 0, 0, 0, []), (5, .bipush 8, 0, 0, []), (7, .newarray .int, 0, 0, [0]), (9, .putfield 9, 1, 0, [2]), (12, .aload_n 0, 0, 0, []), (13, .bipush 64, 0, 0, []), (15, .newarray .int, 0, 0, [0]), (17, .putfield 15, 1, 1, [2]), (20, .aload_n 0, 0, 0, []), (21, .bipush 60, 0, 0, []), (23, .newarray .int, 0, 0, [0]), (25, .putfield 18, 1, 2, [2]), (28, .aload_n 0, 0, 0, []), (29, .bipush 60, 0, 0, []), (31, .newarray .int, 0, 0, [0]), (33, .putfield 21, 1, 3, [2]), (36, .aload_n 0, 0, 0, []), (37, .bipush 60, 0, 0, []), (39, .newarray .int, 0, 0, [0]), (41, .putfield 24, 1, 4, [2]), (44, .aload_n 0, 0, 0, []), (45, .bipush 60, 0, 0, []), (47, .newarray .int, 0, 0, [0]), (49, .putfield 27, 1, 5, [2]), (52, .aload_n 0, 0, 0, []), (53, .bipush 60, 0, 0, []), (55, .newarray .int, 0, 0, [0]), (57, .putfield 30, 1, 6, [2]), (60, .aload_n 0, 0, 0, []), (61, .bipush 10, 0, 0, []), (63, .putfield 33, 1, 10, [0]), (66, .aload_n 0, 0, 0, []), (67, .bipush 10, 0, 0, []), (69, .putfield 37, 1, 11, [0]), (72, .return_, 0, 0, [])]]
def zB_9 : mzB := [[(0, .aload_n 0, 0, 0, []), (1, .iconst 0, 0, 0, []), (2, .putfield 40, 1, 7, [0]), (5, .aload_n 0, 0, 0, []), (6, .iconst 0, 0, 0, []), (7, .putfield 43, 1, 8, [0]), (10, .aload_n 0, 0, 0, []), (11, .iconst 0, 0, 0, []), (12, .putfield 46, 1, 9, [0]), (15, .aload_n 0, 0, 0, []), (16, .bipush 10, 0, 0, []), (18, .putfield 33, 1, 10, [0]), (21, .aload_n 0, 0, 0, []), (22, .bipush 10, 0, 0, []), (24, .putfield 37, 1, 11, [0]), (27, .aload_n 0, 0, 0, []), (28, .iconst 0, 0, 0, []), (29, .putfield 49, 1, 12, [1]), (32, .aload_n 0, 0, 0, []), (33, .getfield 15, 1, 1, [0]), (36, .bipush (-2), 0, 0, []), (38, .invokestatic 53, 254, 12, [2, 0, 0]), (41, .return_, 0, 0, [])]]
def zB_10 : mzB := [[(0, .aload_n 1, 0, 0, []), (1, .getfield 9, 1, 0, [0]), (4, .iconst 0, 0, 0, []), (5, .aload_n 0, 0, 0, []), (6, .getfield 9, 1, 0, [0]), (9, .iconst 0, 0, 0, []), (10, .bipush 8, 0, 0, []), (12, .invokestatic 59, 0, 0, [0]), (15, .aload_n 1, 0, 0, []), (16, .getfield 15, 1, 1, [0]), (19, .iconst 0, 0, 0, []), (20, .aload_n 0, 0, 0, []), (21, .getfield 15, 1, 1, [0]), (24, .iconst 0, 0, 0, []), (25, .bipush 64, 0, 0, []), (27, .invokestatic 59, 0, 0, [0]), (30, .aload_n 1, 0, 0, []), (31, .getfield 18, 1, 2, [0]), (34, .iconst 0, 0, 0, []), (35, .aload_n 0, 0, 0, []), (36, .getfield 18, 1, 2, [0]), (39, .iconst 0, 0, 0, []), (40, .bipush 60, 0, 0, []), (42, .invokestatic 59, 0, 0, [0]), (45, .aload_n 1, 0, 0, []), (46, .getfield 21, 1, 3, [0]), (49, .iconst 0, 0, 0, []), (50, .aload_n 0, 0, 0, []), (51, .getfield 21, 1, 3, [0]), (54, .iconst 0, 0, 0, []), (55, .bipush 60, 0, 0, []), (57, .invokestatic 59, 0, 0, [0]), (60, .aload_n 1, 0, 0, []), (61, .getfield 24, 1, 4, [0]), (64, .iconst 0, 0, 0, []), (65, .aload_n 0, 0, 0, []), (66, .getfield 24, 1, 4, [0]), (69, .iconst 0, 0, 0, []), (70, .bipush 60, 0, 0, []), (72, .invokestatic 59, 0, 0, [0]), (75, .aload_n 1, 0, 0, []), (76, .getfield 27, 1, 5, [0]), (79, .iconst 0, 0, 0, []), (80, .aload_n 0, 0, 0, []), (81, .getfield 27, 1, 5, [0]), (84, .iconst 0, 0, 0, []), (85, .bipush 60, 0, 0, []), (87, .invokestatic 59, 0, 0, [0]), (90, .aload_n 1, 0, 0, []), (91, .getfield 30, 1, 6, [0]), (94, .iconst 0, 0, 0, []), (95, .aload_n 0, 0, 0, []), (96, .getfield 30, 1, 6, [0]), (99, .iconst 0, 0, 0, []), (100, .bipush 60, 0, 0, []), (102, .invokestatic 59, 0, 0, [0]), (105, .aload_n 0, 0, 0, []), (106, .aload_n 1, 0, 0, []), (107, .getfield 40, 1, 7, [0]), (110, .putfield 40, 1, 7, [0]), (113, .aload_n 0, 0, 0, []), (114, .aload_n 1, 0, 0, []), (115, .getfield 43, 1, 8, [0]), (118, .putfield 43, 1, 8, [0]), (121, .aload_n 0, 0, 0, []), (122, .aload_n 1, 0, 0, []), (123, .getfield 46, 1, 9, [0]), (126, .putfield 46, 1, 9, [0]), (129, .aload_n 0, 0, 0, []), (130, .aload_n 1, 0, 0, []), (131, .getfield 33, 1, 10, [0]), (134, .putfield 33, 1, 10, [0]), (137, .aload_n 0, 0, 0, []), (138, .aload_n 1, 0, 0, []), (139, .getfield 37, 1, 11, [0]), (142, .putfield 37, 1, 11, [0]), (145, .aload_n 0, 0, 0, []), (146, .aload_n 1, 0, 0, []), (147, .getfield 49, 1, 12, [0]), (150, .putfield 49, 1, 12, [1]), (153, .return_, 0, 0, [])]]
def zB_11 : mzB := [[(0, .iload_n 1, 0, 0, []), (1, .ifCond .lt 15, 1, 0, []), (4, .iload_n 1, 0, 0, []), (5, .aload_n 0, 0, 0, []), (6, .getfield 40, 1, 7, [0]), (9, .if_icmp .ge 7, 1, 0, []), (12, .iconst 1, 0, 0, []), (13, .goto 4, 2, 0, [])], [(16, .iconst 0, 0, 0, []), (17, .nop, 2, 0, [])], [(17, .ireturn, 1, 0, [])]]
def zB_12 : mzB := [[(0, .iload_n 1, 0, 0, []), (1, .ifCond .lt 15, 1, 0, []), (4, .iload_n 1, 0, 0, []), (5, .aload_n 0, 0, 0, []), (6, .getfield 46, 1, 9, [0]), (9, .if_icmp .ge 7, 1, 0, []), (12, .iconst 1, 0, 0, []), (13, .goto 4, 2, 0, [])], [(16, .iconst 0, 0, 0, []), (17, .nop, 2, 0, [])], [(17, .ireturn, 1, 0, [])]]
def zB_13 : mzB := [[(0, .iconst 0, 0, 0, []), (1, .istore_n 2, 0, 0, []), (2, .nop, 1, 0, [])], [(2, .iload_n 2, 0, 0, []), (3, .aload_n 0, 0, 0, []), (4, .getfield 40, 1, 7, [0]), (7, .if_icmp .ge 21, 3, 0, []), (10, .aload_n 0, 0, 0, []), (11, .getfield 9, 1, 0, [0]), (14, .iload_n 2, 0, 0, []), (15, .iaload, 0, 0, []), (16, .iload_n 1, 0, 0, []), (17, .if_icmp .ne 5, 2, 0, []), (20, .iload_n 2, 0, 0, []), (21, .ireturn, 0, 0, [])], [(22, .iinc 2 1, 0, 0, []), (25, .goto (-23), 1, 0, [])], [(28, .bipush (-2), 0, 0, []), (30, .ireturn, 0, 0, [])]]
def zB_14 : mzB := [[(0, .aload_n 0, 0, 0, []), (1, .getfield 40, 1, 7, [0]), (4, .bipush 8, 0, 0, []), (6, .if_icmp .ge 41, 1, 0, []), (9, .aload_n 0, 0, 0, []), (10, .getfield 9, 1, 0, [0]), (13, .aload_n 0, 0, 0, []), (14, .getfield 40, 1, 7, [0]), (17, .iload_n 1, 0, 0, []), (18, .iastore, 0, 0, []), (19, .aload_n 0, 0, 0, []), (20, .getfield 15, 1, 1, [0]), (23, .aload_n 0, 0, 0, []), (24, .getfield 40, 1, 7, [0]), (27, .bipush 8, 0, 0, []), (29, .imul, 0, 0, []), (30, .aload_n 0, 0, 0, []), (31, .getfield 40, 1, 7, [0]), (34, .iadd, 0, 0, []), (35, .iconst 0, 0, 0, []), (36, .iastore, 0, 0, []), (37, .aload_n 0, 0, 0, []), (38, .dup, 0, 0, []), (39, .getfield 40, 1, 7, [0]), (42, .iconst 1, 0, 0, []), (43, .iadd, 0, 0, []), (44, .putfield 40, 1, 7, [0]), (47, .nop, 1, 0, [])], [(47, .return_, 0, 0, [])]]
def zB_15 : mzB := [[(0, .aload_n 0, 0, 0, []), (1, .iload_n 1, 0, 0, []), (2, .iload_n 2, 0, 0, []), (3, .iload_n 3, 0, 0, []), (4, .invokevirtual 65, 18, 1, [4, 0, 0]), (7, .aload_n 0, 0, 0, []), (8, .iload_n 2, 0, 0, []), (9, .iload_n 1, 0, 0, []), (10, .iload_n 3, 0, 0, []), (11, .invokevirtual 65, 18, 1, [4, 0, 0]), (14, .aload_n 0, 0, 0, []), (15, .dup, 0, 0, []), (16, .getfield 43, 1, 8, [0]), (19, .iconst 1, 0, 0, []), (20, .iadd, 0, 0, []), (21, .putfield 43, 1, 8, [0]), (24, .return_, 0, 0, [])]]
def zB_16 : mzB := [[(0, .aload_n 0, 0, 0, []), (1, .getfield 46, 1, 9, [0]), (4, .bipush 60, 0, 0, []), (6, .if_icmp .ge 65, 1, 0, []), (9, .aload_n 0, 0, 0, []), (10, .getfield 18, 1, 2, [0]), (13, .aload_n 0, 0, 0, []), (14, .getfield 46, 1, 9, [0]), (17, .iload_n 1, 0, 0, []), (18, .iastore, 0, 0, []), (19, .aload_n 0, 0, 0, []), (20, .getfield 21, 1, 3, [0]), (23, .aload_n 0, 0, 0, []), (24, .getfield 46, 1, 9, [0]), (27, .iload_n 2, 0, 0, []), (28, .iastore, 0, 0, []), (29, .aload_n 0, 0, 0, []), (30, .getfield 24, 1, 4, [0]), (33, .aload_n 0, 0, 0, []), (34, .getfield 46, 1, 9, [0]), (37, .iload_n 3, 0, 0, []), (38, .iastore, 0, 0, []), (39, .aload_n 0, 0, 0, []), (40, .getfield 27, 1, 5, [0]), (43, .aload_n 0, 0, 0, []), (44, .getfield 46, 1, 9, [0]), (47, .iload 4, 0, 0, []), (49, .iastore, 0, 0, []), (50, .aload_n 0, 0, 0, []), (51, .getfield 30, 1, 6, [0]), (54, .aload_n 0, 0, 0, []), (55, .getfield 46, 1, 9, [0]), (58, .iload 5, 0, 0, []), (60, .iastore, 0, 0, []), (61, .aload_n 0, 0, 0, []), (62, .dup, 0, 0, []), (63, .getfield 46, 1, 9, [0]), (66, .iconst 1, 0, 0, []), (67, .iadd, 0, 0, []), (68, .putfield 46, 1, 9, [0]), (71, .nop, 1, 0, [])], [(71, .return_, 0, 0, [])]]
def zB_17 : mzB := [[(0, .iload_n 1, 0, 0, []), (1, .ifCond .lt 27, 1, 0, []), (4, .iload_n 1, 0, 0, []), (5, .aload_n 0, 0, 0, []), (6, .getfield 40, 1, 7, [0]), (9, .if_icmp .ge 19, 1, 0, []), (12, .iload_n 2, 0, 0, []), (13, .ifCond .lt 15, 1, 0, []), (16, .iload_n 2, 0, 0, []), (17, .aload_n 0, 0, 0, []), (18, .getfield 40, 1, 7, [0]), (21, .if_icmp .ge 7, 1, 0, []), (24, .iconst 1, 0, 0, []), (25, .goto 4, 2, 0, [])], [(28, .iconst 0, 0, 0, []), (29, .nop, 2, 0, [])], [(29, .istore_n 3, 0, 0, []), (30, .iload_n 3, 0, 0, []), (31, .ifCond .eq 17, 3, 0, []), (34, .aload_n 0, 0, 0, []), (35, .getfield 15, 1, 1, [0]), (38, .iload_n 1, 0, 0, []), (39, .bipush 8, 0, 0, []), (41, .imul, 0, 0, []), (42, .iload_n 2, 0, 0, []), (43, .iadd, 0, 0, []), (44, .iaload, 0, 0, []), (45, .goto 5, 4, 0, [])], [(48, .bipush (-2), 0, 0, []), (50, .nop, 4, 0, [])], [(50, .ireturn, 0, 0, [])]]
def zB_18 : mzB := [[(0, .aload_n 0, 0, 0, []), (1, .iload_n 1, 0, 0, []), (2, .iload_n 2, 0, 0, []), (3, .invokevirtual 69, 17, 1, [3, 0, 0]), (6, .istore 4, 0, 0, []), (8, .aload_n 0, 0, 0, []), (9, .iload_n 1, 0, 0, []), (10, .invokevirtual 73, 11, 1, [2, 0, 0]), (13, .ifCond .eq 36, 2, 0, []), (16, .aload_n 0, 0, 0, []), (17, .iload_n 2, 0, 0, []), (18, .invokevirtual 73, 11, 1, [2, 0, 0]), (21, .ifCond .eq 28, 2, 0, []), (24, .iload 4, 0, 0, []), (26, .bipush (-2), 0, 0, []), (28, .if_icmp .eq 9, 1, 0, []), (31, .iload_n 3, 0, 0, []), (32, .iload 4, 0, 0, []), (34, .if_icmp .ge 15, 2, 0, []), (37, .nop, 1, 0, [])], [(37, .aload_n 0, 0, 0, []), (38, .getfield 15, 1, 1, [0]), (41, .iload_n 1, 0, 0, []), (42, .bipush 8, 0, 0, []), (44, .imul, 0, 0, []), (45, .iload_n 2, 0, 0, []), (46, .iadd, 0, 0, []), (47, .iload_n 3, 0, 0, []), (48, .iastore, 0, 0, []), (49, .nop, 2, 0, [])], [(49, .return_, 0, 0, [])]]
def zB_19 : mzB := [[(0, .iconst 0, 0, 0, []), (1, .istore_n 1, 0, 0, []), (2, .nop, 1, 0, [])], [(2, .iload_n 1, 0, 0, []), (3, .aload_n 0, 0, 0, []), (4, .getfield 40, 1, 7, [0]), (7, .if_icmp .ge 82, 7, 0, []), (10, .iconst 0, 0, 0, []), (11, .istore_n 2, 0, 0, []), (12, .nop, 2, 0, [])], [(12, .iload_n 2, 0, 0, []), (13, .aload_n 0, 0, 0, []), (14, .getfield 40, 1, 7, [0]), (17, .if_icmp .ge 66, 6, 0, []), (20, .iconst 0, 0, 0, []), (21, .istore_n 3, 0, 0, []), (22, .nop, 3, 0, [])], [(22, .iload_n 3, 0, 0, []), (23, .aload_n 0, 0, 0, []), (24, .getfield 40, 1, 7, [0]), (27, .if_icmp .ge 50, 5, 0, []), (30, .aload_n 0, 0, 0, []), (31, .iload_n 2, 0, 0, []), (32, .iload_n 1, 0, 0, []), (33, .invokevirtual 69, 17, 1, [3, 0, 0]), (36, .bipush (-2), 0, 0, []), (38, .if_icmp .eq 33, 4, 0, []), (41, .aload_n 0, 0, 0, []), (42, .iload_n 1, 0, 0, []), (43, .iload_n 3, 0, 0, []), (44, .invokevirtual 69, 17, 1, [3, 0, 0]), (47, .bipush (-2), 0, 0, []), (49, .if_icmp .eq 22, 4, 0, []), (52, .aload_n 0, 0, 0, []), (53, .iload_n 2, 0, 0, []), (54, .iload_n 3, 0, 0, []), (55, .aload_n 0, 0, 0, []), (56, .iload_n 2, 0, 0, []), (57, .iload_n 1, 0, 0, []), (58, .invokevirtual 69, 17, 1, [3, 0, 0]), (61, .aload_n 0, 0, 0, []), (62, .iload_n 1, 0, 0, []), (63, .iload_n 3, 0, 0, []), (64, .invokevirtual 69, 17, 1, [3, 0, 0]), (67, .iadd, 0, 0, []), (68, .invokevirtual 65, 18, 1, [4, 0, 0]), (71, .nop, 4, 0, [])], [(71, .iinc 3 1, 0, 0, []), (74, .goto (-52), 3, 0, [])], [(77, .iinc 2 1, 0, 0, []), (80, .goto (-68), 2, 0, [])], [(83, .iinc 1 1, 0, 0, []), (86, .goto (-84), 1, 0, [])], [(89, .return_, 0, 0, [])]]
def zB_20 : mzB := [[(0, .iconst 0, 0, 0, []), (1, .istore_n 2, 0, 0, []), (2, .nop, 1, 0, [])], [(2, .iload_n 2, 0, 0, []), (3, .iload_n 1, 0, 0, []), (4, .if_icmp .ge 34, 3, 0, []), (7, .iload_n 2, 0, 0, []), (8, .aload_n 0, 0, 0, []), (9, .getfield 46, 1, 9, [0]), (12, .if_icmp .ge 26, 3, 0, []), (15, .aload_n 0, 0, 0, []), (16, .getfield 18, 1, 2, [0]), (19, .iload_n 2, 0, 0, []), (20, .iaload, 0, 0, []), (21, .aload_n 0, 0, 0, []), (22, .getfield 18, 1, 2, [0]), (25, .iload_n 1, 0, 0, []), (26, .iaload, 0, 0, []), (27, .if_icmp .le 5, 2, 0, []), (30, .iconst 1, 0, 0, []), (31, .ireturn, 1, 0, [])], [(32, .iinc 2 1, 0, 0, []), (35, .goto (-33), 1, 0, [])], [(38, .iconst 0, 0, 0, []), (39, .ireturn, 1, 0, [])]]
def zB_21 : mzB := [[(0, .iconst 0, 0, 0, []), (1, .istore_n 1, 0, 0, []), (2, .iconst 0, 0, 0, []), (3, .istore_n 2, 0, 0, []), (4, .nop, 1, 0, [])], [(4, .iload_n 2, 0, 0, []), (5, .aload_n 0, 0, 0, []), (6, .getfield 46, 1, 9, [0]), (9, .if_icmp .ge 25, 4, 0, []), (12, .iload_n 1, 0, 0, []), (13, .aload_n 0, 0, 0, []), (14, .iload_n 2, 0, 0, []), (15, .invokevirtual 77, 20, 1, [2, 0, 0]), (18, .ifCond .eq 7, 2, 0, []), (21, .iconst 1, 0, 0, []), (22, .goto 4, 3, 0, [])], [(25, .iconst 0, 0, 0, []), (26, .nop, 3, 0, [])], [(26, .iadd, 0, 0, []), (27, .istore_n 1, 0, 0, []), (28, .iinc 2 1, 0, 0, []), (31, .goto (-27), 1, 0, [])], [(34, .iload_n 1, 0, 0, []), (35, .ireturn, 0, 0, [])]]
def zB_22 : mzB := [[(0, .iconst 0, 0, 0, []), (1, .istore_n 1, 0, 0, []), (2, .iconst 0, 0, 0, []), (3, .istore_n 2, 0, 0, []), (4, .nop, 1, 0, [])], [(4, .iload_n 2, 0, 0, []), (5, .aload_n 0, 0, 0, []), (6, .getfield 46, 1, 9, [0]), (9, .if_icmp .ge 20, 2, 0, []), (12, .iload_n 1, 0, 0, []), (13, .aload_n 0, 0, 0, []), (14, .getfield 18, 1, 2, [0]), (17, .iload_n 2, 0, 0, []), (18, .iaload, 0, 0, []), (19, .invokestatic 80, 0, 0, [1]), (22, .istore_n 1, 0, 0, []), (23, .iinc 2 1, 0, 0, []), (26, .goto (-22), 1, 0, [])], [(29, .iload_n 1, 0, 0, []), (30, .ireturn, 0, 0, [])]]
def zB_23 : mzB := [[(0, .aload_n 0, 0, 0, []), (1, .invokespecial 3, 0, 0, [0]), (4, .aload_n 0, 0, 0, []), (5, .bipush 60, 0, 0, []), (7, .newarray .int, 0, 0, [0]), (9, .putfield 9, 2, 0, [2]), (12, .aload_n 0, 0, 0, []), (13, .bipush 60, 0, 0, []), (15, .newarray .int, 0, 0, [0]), (17, .putfield 15, 2, 1, [2]), (20, .return_, 0, 0, [])]]
def zB_24 : mzB := [[(0, .aload_n 0, 0, 0, []), (1, .aload_n 1, 0, 0, []), (2, .getfield 18, 1, 9, [0]), (5, .putfield 24, 2, 2, [0]), (8, .aload_n 1, 0, 0, []), (9, .getfield 25, 1, 2, [0]), (12, .iconst 0, 0, 0, []), (13, .aload_n 0, 0, 0, []), (14, .getfield 9, 2, 0, [0]), (17, .iconst 0, 0, 0, []), (18, .bipush 60, 0, 0, []), (20, .invokestatic 26, 0, 0, [0]), (23, .return_, 0, 0, [])]]
def zB_25 : mzB := [[(0, .iconst 0, 0, 0, []), (1, .istore_n 1, 0, 0, []), (2, .nop, 1, 0, [])], [(2, .iload_n 1, 0, 0, []), (3, .aload_n 0, 0, 0, []), (4, .getfield 24, 2, 2, [0]), (7, .if_icmp .ge 64, 4, 0, []), (10, .iload_n 1, 0, 0, []), (11, .istore_n 2, 0, 0, []), (12, .nop, 2, 0, [])], [(12, .iload_n 2, 0, 0, []), (13, .ifCond .le 45, 3, 0, []), (16, .aload_n 0, 0, 0, []), (17, .getfield 9, 2, 0, [0]), (20, .aload_n 0, 0, 0, []), (21, .getfield 15, 2, 1, [0]), (24, .iload_n 2, 0, 0, []), (25, .iconst 1, 0, 0, []), (26, .isub, 0, 0, []), (27, .iaload, 0, 0, []), (28, .iaload, 0, 0, []), (29, .aload_n 0, 0, 0, []), (30, .getfield 9, 2, 0, [0]), (33, .iload_n 1, 0, 0, []), (34, .iaload, 0, 0, []), (35, .if_icmp .le 23, 3, 0, []), (38, .aload_n 0, 0, 0, []), (39, .getfield 15, 2, 1, [0]), (42, .iload_n 2, 0, 0, []), (43, .aload_n 0, 0, 0, []), (44, .getfield 15, 2, 1, [0]), (47, .iload_n 2, 0, 0, []), (48, .iconst 1, 0, 0, []), (49, .isub, 0, 0, []), (50, .iaload, 0, 0, []), (51, .iastore, 0, 0, []), (52, .iinc 2 (-1), 0, 0, []), (55, .goto (-43), 2, 0, [])], [(58, .aload_n 0, 0, 0, []), (59, .getfield 15, 2, 1, [0]), (62, .iload_n 2, 0, 0, []), (63, .iload_n 1, 0, 0, []), (64, .iastore, 0, 0, []), (65, .iinc 1 1, 0, 0, []), (68, .goto (-66), 1, 0, [])], [(71, .return_, 0, 0, [])]]
def zB_26 : mzB := [[(0, .iconst 0, 0, 0, []), (1, .istore_n 2, 0, 0, []), (2, .nop, 1, 0, [])], [(2, .iload_n 2, 0, 0, []), (3, .aload_n 0, 0, 0, []), (4, .getfield 24, 2, 2, [0]), (7, .if_icmp .ge 21, 3, 0, []), (10, .aload_n 0, 0, 0, []), (11, .getfield 15, 2, 1, [0]), (14, .iload_n 2, 0, 0, []), (15, .iaload, 0, 0, []), (16, .iload_n 1, 0, 0, []), (17, .if_icmp .ne 5, 2, 0, []), (20, .iload_n 2, 0, 0, []), (21, .ireturn, 0, 0, [])], [(22, .iinc 2 1, 0, 0, []), (25, .goto (-23), 1, 0, [])], [(28, .iconst (-1), 0, 0, []), (29, .ireturn, 0, 0, [])]]
def zB_27 : mzB := [[(0, .aload_n 0, 0, 0, []), (1, .getfield 9, 2, 0, [0]), (4, .aload_n 0, 0, 0, []), (5, .getfield 15, 2, 1, [0]), (8, .iload_n 1, 0, 0, []), (9, .iaload, 0, 0, []), (10, .iaload, 0, 0, []), (11, .ireturn, 0, 0, [])]]
def zB_28 : mzB := [[(0, .aload_n 0, 0, 0, []), (1, .invokespecial 3, 0, 0, [0]), (4, .aload_n 0, 0, 0, []), (5, .new 9, 8, 6, [0]), (8, .dup, 0, 0, []), (9, .invokespecial 11, 82, 8, [1, 6, 240]), (12, .putfield 12, 3, 0, [2]), (15, .aload_n 0, 0, 0, []), (16, .new 18, 2, 3, [0]), (19, .dup, 0, 0, []), (20, .invokespecial 20, 23, 2, [1, 2, 120]), (23, .putfield 21, 3, 1, [2]), (26, .aload_n 0, 0, 0, []), (27, .aload_n 1, 0, 0, []), (28, .putfield 25, 3, 2, [2]), (31, .aload_n 0, 0, 0, []), (32, .aload_n 1, 0, 0, []), (33, .getfield 29, 5, 4, [0]), (36, .putfield 35, 3, 3, [2]), (39, .return_, 0, 0, [])]]
def zB_29 : mzB := [[(0, .aload_n 0, 0, 0, []), (1, .iload_n 1, 0, 0, []), (2, .aload_n 0, 0, 0, []), (3, .getfield 25, 3, 2, [0]), (6, .getfield 36, 5, 0, [0]), (9, .getfield 39, 2, 2, [0]), (12, .iconst 1, 0, 0, []), (13, .isub, 0, 0, []), (14, .invokevirtual 43, 30, 3, [3, 0, 0]), (17, .pop, 0, 0, []), (18, .aload_n 0, 0, 0, []), (19, .getfield 12, 3, 0, [0]), (22, .iload_n 2, 0, 0, []), (23, .invokevirtual 47, 91, 8, [2, 0, 0]), (26, .ireturn, 0, 0, [])]]
def zB_30 : mzB := [[(0, .aload_n 0, 0, 0, []), (1, .getfield 12, 3, 0, [0]), (4, .invokevirtual 51, 83, 8, [1, 0, 0]), (7, .iconst 0, 0, 0, []), (8, .istore_n 3, 0, 0, []), (9, .iconst 0, 0, 0, []), (10, .istore 4, 0, 0, []), (12, .nop, 1, 0, [])], [(12, .iload 4, 0, 0, []), (14, .iload_n 2, 0, 0, []), (15, .if_icmp .gt 69, 3, 0, []), (18, .iload 4, 0, 0, []), (20, .aload_n 0, 0, 0, []), (21, .getfield 25, 3, 2, [0]), (24, .getfield 36, 5, 0, [0]), (27, .getfield 39, 2, 2, [0]), (30, .if_icmp .ge 54, 3, 0, []), (33, .aload_n 0, 0, 0, []), (34, .getfield 25, 3, 2, [0]), (37, .getfield 36, 5, 0, [0]), (40, .getfield 54, 2, 1, [0]), (43, .iload 4, 0, 0, []), (45, .iaload, 0, 0, []), (46, .istore 5, 0, 0, []), (48, .iload 5, 0, 0, []), (50, .iload_n 1, 0, 0, []), (51, .if_icmp .eq 27, 2, 0, []), (54, .aload_n 0, 0, 0, []), (55, .getfield 12, 3, 0, [0]), (58, .aload_n 0, 0, 0, []), (59, .getfield 35, 3, 3, [0]), (62, .iload 5, 0, 0, []), (64, .aload_n 0, 0, 0, []), (65, .getfield 35, 3, 3, [0]), (68, .getfield 58, 1, 2, [0]), (71, .iload 5, 0, 0, []), (73, .iaload, 0, 0, []), (74, .invokevirtual 63, 93, 8, [4, 0, 0]), (77, .istore_n 3, 0, 0, []), (78, .nop, 2, 0, [])], [(78, .iinc 4 1, 0, 0, []), (81, .goto (-69), 1, 0, [])], [(84, .iload_n 3, 0, 0, []), (85, .ireturn, 0, 0, [])]]
def zB_31 : mzB := [[(0, .lconst 0, 0, 0, []), (1, .lstore_n 2, 0, 0, []), (2, .aload_n 0, 0, 0, []), (3, .getfield 25, 3, 2, [0]), (6, .getfield 36, 5, 0, [0]), (9, .iload_n 1, 0, 0, []), (10, .invokevirtual 67, 26, 2, [2, 0, 0]), (13, .istore 4, 0, 0, []), (15, .iconst 0, 0, 0, []), (16, .istore 5, 0, 0, []), (18, .nop, 1, 0, [])], [(18, .iload 5, 0, 0, []), (20, .iload 4, 0, 0, []), (22, .if_icmp .ge 71, 7, 0, []), (25, .aload_n 0, 0, 0, []), (26, .getfield 25, 3, 2, [0]), (29, .getfield 36, 5, 0, [0]), (32, .getfield 54, 2, 1, [0]), (35, .iload 5, 0, 0, []), (37, .iaload, 0, 0, []), (38, .istore 6, 0, 0, []), (40, .aload_n 0, 0, 0, []), (41, .iload 6, 0, 0, []), (43, .iload 4, 0, 0, []), (45, .invokevirtual 43, 30, 3, [3, 0, 0]), (48, .ifCond .ne 7, 2, 0, []), (51, .iconst 1, 0, 0, []), (52, .goto 4, 3, 0, [])], [(55, .iconst 0, 0, 0, []), (56, .nop, 3, 0, [])], [(56, .istore 7, 0, 0, []), (58, .iload 7, 0, 0, []), (60, .aload_n 0, 0, 0, []), (61, .getfield 25, 3, 2, [0]), (64, .getfield 70, 5, 3, [0]), (67, .iload_n 1, 0, 0, []), (68, .iaload, 0, 0, []), (69, .ifCond .ne 7, 4, 0, []), (72, .iconst 1, 0, 0, []), (73, .goto 4, 5, 0, [])], [(76, .iconst 0, 0, 0, []), (77, .nop, 5, 0, [])], [(77, .if_icmp .eq 10, 6, 0, []), (80, .lload_n 2, 0, 0, []), (81, .lconst 1, 0, 0, []), (82, .iload 6, 0, 0, []), (84, .lshl, 0, 0, []), (85, .lor, 0, 0, []), (86, .lstore_n 2, 0, 0, []), (87, .nop, 6, 0, [])], [(87, .iinc 5 1, 0, 0, []), (90, .goto (-72), 1, 0, [])], [(93, .lload_n 2, 0, 0, []), (94, .lreturn, 0, 0, [])]]
def zB_32 : mzB := [[(0, .aload_n 0, 0, 0, []), (1, .getfield 21, 3, 1, [0]), (4, .aload_n 0, 0, 0, []), (5, .getfield 35, 3, 3, [0]), (8, .invokevirtual 73, 24, 2, [2, 0, 0]), (11, .aload_n 0, 0, 0, []), (12, .getfield 21, 3, 1, [0]), (15, .getfield 77, 2, 0, [0]), (18, .iload_n 1, 0, 0, []), (19, .iload_n 2, 0, 0, []), (20, .iastore, 0, 0, []), (21, .aload_n 0, 0, 0, []), (22, .iload_n 3, 0, 0, []), (23, .invokevirtual 78, 34, 3, [2, 0, 0]), (26, .ireturn, 0, 0, [])]]
def zB_33 : mzB := [[(0, .aload_n 0, 0, 0, []), (1, .getfield 21, 3, 1, [0]), (4, .aload_n 0, 0, 0, []), (5, .getfield 35, 3, 3, [0]), (8, .invokevirtual 73, 24, 2, [2, 0, 0]), (11, .aload_n 0, 0, 0, []), (12, .getfield 21, 3, 1, [0]), (15, .getfield 77, 2, 0, [0]), (18, .iload_n 1, 0, 0, []), (19, .aload_n 0, 0, 0, []), (20, .getfield 35, 3, 3, [0]), (23, .getfield 58, 1, 2, [0]), (26, .iload_n 2, 0, 0, []), (27, .iaload, 0, 0, []), (28, .iastore, 0, 0, []), (29, .aload_n 0, 0, 0, []), (30, .getfield 21, 3, 1, [0]), (33, .getfield 77, 2, 0, [0]), (36, .iload_n 2, 0, 0, []), (37, .aload_n 0, 0, 0, []), (38, .getfield 35, 3, 3, [0]), (41, .getfield 58, 1, 2, [0]), (44, .iload_n 1, 0, 0, []), (45, .iaload, 0, 0, []), (46, .iastore, 0, 0, []), (47, .aload_n 0, 0, 0, []), (48, .iload_n 3, 0, 0, []), (49, .invokevirtual 78, 34, 3, [2, 0, 0]), (52, .ireturn, 0, 0, [])]]
def zB_34 : mzB := [[(0, .aload_n 0, 0, 0, []), (1, .getfield 21, 3, 1, [0]), (4, .invokevirtual 81, 25, 2, [1, 0, 0]), (7, .aload_n 0, 0, 0, []), (8, .getfield 12, 3, 0, [0]), (11, .invokevirtual 51, 83, 8, [1, 0, 0]), (14, .iconst 0, 0, 0, []), (15, .istore_n 2, 0, 0, []), (16, .iconst 0, 0, 0, []), (17, .istore_n 3, 0, 0, []), (18, .nop, 1, 0, [])], [(18, .iload_n 3, 0, 0, []), (19, .aload_n 0, 0, 0, []), (20, .getfield 21, 3, 1, [0]), (23, .getfield 39, 2, 2, [0]), (26, .if_icmp .ge 48, 4, 0, []), (29, .iload_n 2, 0, 0, []), (30, .aload_n 0, 0, 0, []), (31, .getfield 12, 3, 0, [0]), (34, .aload_n 0, 0, 0, []), (35, .getfield 35, 3, 3, [0]), (38, .aload_n 0, 0, 0, []), (39, .getfield 21, 3, 1, [0]), (42, .getfield 54, 2, 1, [0]), (45, .iload_n 3, 0, 0, []), (46, .iaload, 0, 0, []), (47, .aload_n 0, 0, 0, []), (48, .getfield 21, 3, 1, [0]), (51, .iload_n 3, 0, 0, []), (52, .invokevirtual 84, 27, 2, [2, 0, 0]), (55, .invokevirtual 63, 93, 8, [4, 0, 0]), (58, .ifCond .eq 7, 2, 0, []), (61, .iconst 1, 0, 0, []), (62, .goto 4, 3, 0, [])], [(65, .iconst 0, 0, 0, []), (66, .nop, 3, 0, [])], [(66, .iadd, 0, 0, []), (67, .istore_n 2, 0, 0, []), (68, .iinc 3 1, 0, 0, []), (71, .goto (-53), 1, 0, [])], [(74, .iload_n 1, 0, 0, []), (75, .ifCond .ge 7, 5, 0, []), (78, .iload_n 2, 0, 0, []), (79, .goto 11, 6, 0, [])], [(82, .aload_n 0, 0, 0, []), (83, .getfield 12, 3, 0, [0]), (86, .iload_n 1, 0, 0, []), (87, .invokevirtual 47, 91, 8, [2, 0, 0]), (90, .nop, 6, 0, [])], [(90, .ireturn, 0, 0, [])]]
def zB_35 : mzB := [[(0, .aload_n 0, 0, 0, []), (1, .bipush (-2), 0, 0, []), (3, .putfield 87, 3, 4, [0]), (6, .aload_n 0, 0, 0, []), (7, .bipush (-2), 0, 0, []), (9, .putfield 90, 3, 5, [0]), (12, .aload_n 0, 0, 0, []), (13, .iconst 0, 0, 0, []), (14, .putfield 93, 3, 6, [0]), (17, .aload_n 0, 0, 0, []), (18, .getfield 12, 3, 0, [0]), (21, .invokevirtual 51, 83, 8, [1, 0, 0]), (24, .iconst 0, 0, 0, []), (25, .istore_n 2, 0, 0, []), (26, .aload_n 0, 0, 0, []), (27, .getfield 12, 3, 0, [0]), (30, .aload_n 0, 0, 0, []), (31, .getfield 35, 3, 3, [0]), (34, .iload_n 1, 0, 0, []), (35, .iconst 0, 0, 0, []), (36, .invokevirtual 96, 94, 8, [4, 0, 0]), (39, .ifCond .ne 7, 1, 0, []), (42, .iconst 1, 0, 0, []), (43, .goto 4, 2, 0, [])], [(46, .iconst 0, 0, 0, []), (47, .nop, 2, 0, [])], [(47, .istore_n 3, 0, 0, []), (48, .aload_n 0, 0, 0, []), (49, .getfield 35, 3, 3, [0]), (52, .getfield 99, 1, 3, [0]), (55, .iload_n 1, 0, 0, []), (56, .iaload, 0, 0, []), (57, .iconst 5, 0, 0, []), (58, .if_icmp .eq 17, 3, 0, []), (61, .aload_n 0, 0, 0, []), (62, .getfield 35, 3, 3, [0]), (65, .getfield 99, 1, 3, [0]), (68, .iload_n 1, 0, 0, []), (69, .iaload, 0, 0, []), (70, .bipush 6, 0, 0, []), (72, .if_icmp .ne 7, 4, 0, []), (75, .nop, 3, 0, [])], [(75, .iconst 1, 0, 0, []), (76, .goto 4, 5, 0, [])], [(79, .iconst 0, 0, 0, []), (80, .nop, 5, 0, [])], [(80, .istore 4, 0, 0, []), (82, .iconst 0, 0, 0, []), (83, .istore 5, 0, 0, []), (85, .nop, 6, 0, [])], [(85, .iload 5, 0, 0, []), (87, .sipush 999, 0, 0, []), (90, .if_icmp .gt 161, 17, 0, []), (93, .iload_n 2, 0, 0, []), (94, .istore 6, 0, 0, []), (96, .nop, 7, 0, [])], [(96, .iload_n 2, 0, 0, []), (97, .aload_n 0, 0, 0, []), (98, .getfield 25, 3, 2, [0]), (101, .getfield 36, 5, 0, [0]), (104, .getfield 39, 2, 2, [0]), (107, .if_icmp .ge 64, 9, 0, []), (110, .aload_n 0, 0, 0, []), (111, .iload_n 2, 0, 0, []), (112, .iload_n 1, 0, 0, []), (113, .iload 5, 0, 0, []), (115, .invokevirtual 102, 36, 3, [4, 0, 0]), (118, .ifCond .eq 53, 9, 0, []), (121, .aload_n 0, 0, 0, []), (122, .getfield 25, 3, 2, [0]), (125, .getfield 36, 5, 0, [0]), (128, .getfield 54, 2, 1, [0]), (131, .iload_n 2, 0, 0, []), (132, .iaload, 0, 0, []), (133, .istore 7, 0, 0, []), (135, .iload 7, 0, 0, []), (137, .iload_n 1, 0, 0, []), (138, .if_icmp .eq 27, 8, 0, []), (141, .aload_n 0, 0, 0, []), (142, .getfield 12, 3, 0, [0]), (145, .aload_n 0, 0, 0, []), (146, .getfield 35, 3, 3, [0]), (149, .iload 7, 0, 0, []), (151, .aload_n 0, 0, 0, []), (152, .getfield 35, 3, 3, [0]), (155, .getfield 58, 1, 2, [0]), (158, .iload 7, 0, 0, []), (160, .iaload, 0, 0, []), (161, .invokevirtual 63, 93, 8, [4, 0, 0]), (164, .pop, 0, 0, []), (165, .nop, 8, 0, [])], [(165, .iinc 2 1, 0, 0, []), (168, .goto (-72), 7, 0, [])], [(171, .iload_n 2, 0, 0, []), (172, .iload 6, 0, 0, []), (174, .if_icmp .ne 8, 10, 0, []), (177, .iload 4, 0, 0, []), (179, .ifCond .eq 26, 13, 0, []), (182, .nop, 10, 0, [])], [(182, .aload_n 0, 0, 0, []), (183, .getfield 12, 3, 0, [0]), (186, .aload_n 0, 0, 0, []), (187, .getfield 35, 3, 3, [0]), (190, .iload_n 1, 0, 0, []), (191, .iload 5, 0, 0, []), (193, .invokevirtual 96, 94, 8, [4, 0, 0]), (196, .ifCond .ne 7, 11, 0, []), (199, .iconst 1, 0, 0, []), (200, .goto 4, 12, 0, [])], [(203, .iconst 0, 0, 0, []), (204, .nop, 12, 0, [])], [(204, .istore_n 3, 0, 0, []), (205, .nop, 13, 0, [])], [(205, .iload_n 3, 0, 0, []), (206, .ifCond .eq 39, 16, 0, []), (209, .aload_n 0, 0, 0, []), (210, .aload_n 0, 0, 0, []), (211, .getfield 93, 3, 6, [0]), (214, .ifCond .ne 8, 14, 0, []), (217, .iload 5, 0, 0, []), (219, .goto 7, 15, 0, [])], [(222, .aload_n 0, 0, 0, []), (223, .getfield 87, 3, 4, [0]), (226, .nop, 15, 0, [])], [(226, .putfield 87, 3, 4, [0]), (229, .aload_n 0, 0, 0, []), (230, .iload 5, 0, 0, []), (232, .putfield 90, 3, 5, [0]), (235, .aload_n 0, 0, 0, []), (236, .dup, 0, 0, []), (237, .getfield 93, 3, 6, [0]), (240, .iconst 1, 0, 0, []), (241, .iadd, 0, 0, []), (242, .putfield 93, 3, 6, [0]), (245, .nop, 16, 0, [])], [(245, .iinc 5 1, 0, 0, []), (248, .goto (-163), 6, 0, [])], [(251, .return_, 0, 0, [])]]
def zB_36 : mzB := [[(0, .aload_n 0, 0, 0, []), (1, .getfield 25, 3, 2, [0]), (4, .getfield 36, 5, 0, [0]), (7, .getfield 54, 2, 1, [0]), (10, .iload_n 1, 0, 0, []), (11, .iaload, 0, 0, []), (12, .istore 4, 0, 0, []), (14, .aload_n 0, 0, 0, []), (15, .getfield 35, 3, 3, [0]), (18, .getfield 58, 1, 2, [0]), (21, .iload 4, 0, 0, []), (23, .iaload, 0, 0, []), (24, .istore 5, 0, 0, []), (26, .iload 4, 0, 0, []), (28, .iload_n 2, 0, 0, []), (29, .if_icmp .eq 21, 1, 0, []), (32, .iload 5, 0, 0, []), (34, .iload_n 3, 0, 0, []), (35, .if_icmp .lt 15, 1, 0, []), (38, .iload 5, 0, 0, []), (40, .iload_n 3, 0, 0, []), (41, .if_icmp .ne 13, 2, 0, []), (44, .iload 4, 0, 0, []), (46, .iload_n 2, 0, 0, []), (47, .if_icmp .ge 7, 2, 0, []), (50, .nop, 1, 0, [])], [(50, .iconst 1, 0, 0, []), (51, .goto 4, 3, 0, [])], [(54, .iconst 0, 0, 0, []), (55, .nop, 3, 0, [])], [(55, .ireturn, 1, 0, [])]]
def zB_37 : mzB := [[(0, .aload_n 0, 0, 0, []), (1, .invokespecial 3, 0, 0, [0]), (4, .aload_n 0, 0, 0, []), (5, .iconst (-1), 0, 0, []), (6, .putfield 9, 4, 6, [0]), (9, .aload_n 0, 0, 0, []), (10, .new 15, 7, 8, [0]), (13, .dup, 0, 0, []), (14, .aload_n 1, 0, 0, []), (15, .invokespecial 17, 72, 7, [2, 3, 2703]), (18, .putfield 20, 4, 0, [2]), (21, .aload_n 0, 0, 0, []), (22, .aload_n 2, 0, 0, []), (23, .putfield 24, 4, 1, [2]), (26, .return_, 0, 0, [])]]
def zB_38 : mzB := [[(0, .aload_n 0, 0, 0, []), (1, .getfield 20, 4, 0, [0]), (4, .iload_n 1, 0, 0, []), (5, .invokevirtual 28, 73, 7, [2, 0, 0]), (8, .aload_n 0, 0, 0, []), (9, .iconst 0, 0, 0, []), (10, .putfield 32, 4, 5, [0]), (13, .aload_n 0, 0, 0, []), (14, .iconst (-1), 0, 0, []), (15, .putfield 9, 4, 6, [0]), (18, .aload_n 0, 0, 0, []), (19, .iconst 0, 0, 0, []), (20, .putfield 35, 4, 7, [0]), (23, .aload_n 0, 0, 0, []), (24, .iconst 0, 0, 0, []), (25, .invokevirtual 38, 39, 4, [2, 0, 0]), (28, .nop, 1, 0, [])], [(28, .aload_n 0, 0, 0, []), (29, .getfield 35, 4, 7, [0]), (32, .sipush 900, 0, 0, []), (35, .if_icmp .ge 53, 3, 0, []), (38, .aload_n 0, 0, 0, []), (39, .getfield 32, 4, 5, [0]), (42, .ifCond .ne 46, 3, 0, []), (45, .aload_n 0, 0, 0, []), (46, .getfield 41, 4, 3, [0]), (49, .bipush 21, 0, 0, []), (51, .if_icmp .eq 37, 3, 0, []), (54, .iload_n 2, 0, 0, []), (55, .ifCond .eq 16, 2, 0, []), (58, .aload_n 0, 0, 0, []), (59, .getfield 41, 4, 3, [0]), (62, .iconst 3, 0, 0, []), (63, .if_icmp .eq 8, 2, 0, []), (66, .aload_n 0, 0, 0, []), (67, .iconst 1, 0, 0, []), (68, .invokevirtual 44, 40, 4, [2, 0, 0]), (71, .nop, 2, 0, [])], [(71, .aload_n 0, 0, 0, []), (72, .invokevirtual 47, 41, 4, [1, 0, 0]), (75, .aload_n 0, 0, 0, []), (76, .dup, 0, 0, []), (77, .getfield 35, 4, 7, [0]), (80, .iconst 1, 0, 0, []), (81, .iadd, 0, 0, []), (82, .putfield 35, 4, 7, [0]), (85, .goto (-57), 1, 0, [])], [(88, .aload_n 0, 0, 0, []), (89, .getfield 32, 4, 5, [0]), (92, .ifCond .ne 7, 4, 0, []), (95, .iconst 1, 0, 0, []), (96, .goto 4, 5, 0, [])], [(99, .iconst 0, 0, 0, []), (100, .nop, 5, 0, [])], [(100, .ireturn, 1, 0, [])]]
def zB_39 : mzB := [[(0, .iload_n 1, 0, 0, []), (1, .aload_n 0, 0, 0, []), (2, .getfield 20, 4, 0, [0]), (5, .getfield 50, 7, 4, [0]), (8, .if_icmp .ge 34, 1, 0, []), (11, .aload_n 0, 0, 0, []), (12, .iload_n 1, 0, 0, []), (13, .putfield 53, 4, 2, [0]), (16, .aload_n 0, 0, 0, []), (17, .aload_n 0, 0, 0, []), (18, .getfield 20, 4, 0, [0]), (21, .getfield 56, 7, 0, [0]), (24, .iload_n 1, 0, 0, []), (25, .iaload, 0, 0, []), (26, .putfield 41, 4, 3, [0]), (29, .aload_n 0, 0, 0, []), (30, .aload_n 0, 0, 0, []), (31, .getfield 20, 4, 0, [0]), (34, .getfield 60, 7, 2, [0]), (37, .iload_n 1, 0, 0, []), (38, .iaload, 0, 0, []), (39, .putfield 63, 4, 4, [0]), (42, .nop, 1, 0, [])], [(42, .return_, 0, 0, [])]]
def zB_40 : mzB := [[(0, .aload_n 0, 0, 0, []), (1, .getfield 32, 4, 5, [0]), (4, .ifCond .ne 24, 1, 0, []), (7, .aload_n 0, 0, 0, []), (8, .iload_n 1, 0, 0, []), (9, .putfield 32, 4, 5, [0]), (12, .aload_n 0, 0, 0, []), (13, .aload_n 0, 0, 0, []), (14, .getfield 20, 4, 0, [0]), (17, .getfield 66, 7, 1, [0]), (20, .aload_n 0, 0, 0, []), (21, .getfield 53, 4, 2, [0]), (24, .iaload, 0, 0, []), (25, .putfield 9, 4, 6, [0]), (28, .nop, 1, 0, [])], [(28, .return_, 0, 0, [])]]
def zB_41 : mzB := [[(0, .aload_n 0, 0, 0, []), (1, .getfield 41, 4, 3, [0]), (4, .tableswitch 60 0 3 #[32, 39, 46, 53], 5, 0, [1, 2, 3, 4])], [(36, .aload_n 0, 0, 0, []), (37, .invokevirtual 69, 42, 4, [1, 0, 0]), (40, .goto 29, 6, 0, [])], [(43, .aload_n 0, 0, 0, []), (44, .invokevirtual 72, 43, 4, [1, 0, 0]), (47, .goto 22, 6, 0, [])], [(50, .aload_n 0, 0, 0, []), (51, .invokevirtual 75, 44, 4, [1, 0, 0]), (54, .goto 15, 6, 0, [])], [(57, .aload_n 0, 0, 0, []), (58, .invokevirtual 78, 45, 4, [1, 0, 0]), (61, .goto 8, 6, 0, [])], [(64, .aload_n 0, 0, 0, []), (65, .iconst 1, 0, 0, []), (66, .invokevirtual 44, 40, 4, [2, 0, 0]), (69, .nop, 6, 0, [])], [(69, .aload_n 0, 0, 0, []), (70, .bipush 20, 0, 0, []), (72, .bipush 20, 0, 0, []), (74, .invokevirtual 81, 50, 4, [3, 0, 0]), (77, .pop, 0, 0, []), (78, .return_, 0, 0, [])]]
def zB_42 : mzB := [[(0, .aload_n 0, 0, 0, []), (1, .getfield 24, 4, 1, [0]), (4, .getfield 85, 1, 7, [0]), (7, .bipush 8, 0, 0, []), (9, .if_icmp .ne 8, 1, 0, []), (12, .aload_n 0, 0, 0, []), (13, .iconst 2, 0, 0, []), (14, .invokevirtual 44, 40, 4, [2, 0, 0]), (17, .nop, 1, 0, [])], [(17, .aload_n 0, 0, 0, []), (18, .iconst 0, 0, 0, []), (19, .iconst 0, 0, 0, []), (20, .invokevirtual 81, 50, 4, [3, 0, 0]), (23, .pop, 0, 0, []), (24, .aload_n 0, 0, 0, []), (25, .getfield 63, 4, 4, [0]), (28, .istore_n 1, 0, 0, []), (29, .aload_n 0, 0, 0, []), (30, .getfield 41, 4, 3, [0]), (33, .bipush 18, 0, 0, []), (35, .if_icmp .ne 21, 2, 0, []), (38, .aload_n 0, 0, 0, []), (39, .getfield 24, 4, 1, [0]), (42, .iload_n 1, 0, 0, []), (43, .invokevirtual 90, 13, 1, [2, 0, 0]), (46, .bipush (-2), 0, 0, []), (48, .if_icmp .eq 8, 2, 0, []), (51, .aload_n 0, 0, 0, []), (52, .iconst 3, 0, 0, []), (53, .invokevirtual 44, 40, 4, [2, 0, 0]), (56, .nop, 2, 0, [])], [(56, .aload_n 0, 0, 0, []), (57, .bipush 18, 0, 0, []), (59, .bipush 18, 0, 0, []), (61, .invokevirtual 81, 50, 4, [3, 0, 0]), (64, .pop, 0, 0, []), (65, .aload_n 0, 0, 0, []), (66, .getfield 32, 4, 5, [0]), (69, .ifCond .ne 11, 3, 0, []), (72, .aload_n 0, 0, 0, []), (73, .getfield 24, 4, 1, [0]), (76, .iload_n 1, 0, 0, []), (77, .invokevirtual 94, 14, 1, [2, 0, 0]), (80, .nop, 3, 0, [])], [(80, .return_, 0, 0, [])]]
def zB_43 : mzB := [[(0, .aload_n 0, 0, 0, []), (1, .getfield 24, 4, 1, [0]), (4, .getfield 97, 1, 8, [0]), (7, .bipush 12, 0, 0, []), (9, .if_icmp .ne 8, 1, 0, []), (12, .aload_n 0, 0, 0, []), (13, .iconst 2, 0, 0, []), (14, .invokevirtual 44, 40, 4, [2, 0, 0]), (17, .nop, 1, 0, [])], [(17, .aload_n 0, 0, 0, []), (18, .iconst 1, 0, 0, []), (19, .iconst 1, 0, 0, []), (20, .invokevirtual 81, 50, 4, [3, 0, 0]), (23, .pop, 0, 0, []), (24, .aload_n 0, 0, 0, []), (25, .iconst (-1), 0, 0, []), (26, .invokevirtual 100, 49, 4, [2, 0, 0]), (29, .istore_n 1, 0, 0, []), (30, .aload_n 0, 0, 0, []), (31, .iload_n 1, 0, 0, []), (32, .invokevirtual 100, 49, 4, [2, 0, 0]), (35, .istore_n 2, 0, 0, []), (36, .aload_n 0, 0, 0, []), (37, .iconst 1, 0, 0, []), (38, .bipush 99, 0, 0, []), (40, .invokevirtual 103, 48, 4, [3, 0, 0]), (43, .istore_n 3, 0, 0, []), (44, .aload_n 0, 0, 0, []), (45, .getfield 32, 4, 5, [0]), (48, .ifCond .ne 13, 2, 0, []), (51, .aload_n 0, 0, 0, []), (52, .getfield 24, 4, 1, [0]), (55, .iload_n 1, 0, 0, []), (56, .iload_n 2, 0, 0, []), (57, .iload_n 3, 0, 0, []), (58, .invokevirtual 106, 15, 1, [4, 0, 0]), (61, .nop, 2, 0, [])], [(61, .return_, 0, 0, [])]]
def zB_44 : mzB := [[(0, .aload_n 0, 0, 0, []), (1, .getfield 24, 4, 1, [0]), (4, .getfield 110, 1, 12, [0]), (7, .ifCond .eq 8, 1, 0, []), (10, .aload_n 0, 0, 0, []), (11, .iconst 3, 0, 0, []), (12, .invokevirtual 44, 40, 4, [2, 0, 0]), (15, .nop, 1, 0, [])], [(15, .aload_n 0, 0, 0, []), (16, .iconst 2, 0, 0, []), (17, .iconst 2, 0, 0, []), (18, .invokevirtual 81, 50, 4, [3, 0, 0]), (21, .pop, 0, 0, []), (22, .aload_n 0, 0, 0, []), (23, .iconst 1, 0, 0, []), (24, .bipush 20, 0, 0, []), (26, .invokevirtual 103, 48, 4, [3, 0, 0]), (29, .istore_n 1, 0, 0, []), (30, .aload_n 0, 0, 0, []), (31, .iconst 1, 0, 0, []), (32, .bipush 20, 0, 0, []), (34, .invokevirtual 103, 48, 4, [3, 0, 0]), (37, .istore_n 2, 0, 0, []), (38, .aload_n 0, 0, 0, []), (39, .getfield 32, 4, 5, [0]), (42, .ifCond .ne 27, 2, 0, []), (45, .aload_n 0, 0, 0, []), (46, .getfield 24, 4, 1, [0]), (49, .iload_n 1, 0, 0, []), (50, .putfield 114, 1, 10, [0]), (53, .aload_n 0, 0, 0, []), (54, .getfield 24, 4, 1, [0]), (57, .iload_n 2, 0, 0, []), (58, .putfield 117, 1, 11, [0]), (61, .aload_n 0, 0, 0, []), (62, .getfield 24, 4, 1, [0]), (65, .iconst 1, 0, 0, []), (66, .putfield 110, 1, 12, [1]), (69, .nop, 2, 0, [])], [(69, .return_, 0, 0, [])]]
def zB_45 : mzB := [[(0, .aload_n 0, 0, 0, []), (1, .getfield 24, 4, 1, [0]), (4, .getfield 120, 1, 9, [0]), (7, .bipush 60, 0, 0, []), (9, .if_icmp .ne 8, 1, 0, []), (12, .aload_n 0, 0, 0, []), (13, .iconst 2, 0, 0, []), (14, .invokevirtual 44, 40, 4, [2, 0, 0]), (17, .nop, 1, 0, [])], [(17, .aload_n 0, 0, 0, []), (18, .iconst 3, 0, 0, []), (19, .iconst 3, 0, 0, []), (20, .invokevirtual 81, 50, 4, [3, 0, 0]), (23, .pop, 0, 0, []), (24, .aload_n 0, 0, 0, []), (25, .iconst 0, 0, 0, []), (26, .sipush 999, 0, 0, []), (29, .invokevirtual 103, 48, 4, [3, 0, 0]), (32, .istore_n 1, 0, 0, []), (33, .aload_n 0, 0, 0, []), (34, .invokevirtual 121, 46, 4, [1, 0, 0]), (37, .istore_n 2, 0, 0, []), (38, .aload_n 0, 0, 0, []), (39, .iconst 0, 0, 0, []), (40, .bipush 39, 0, 0, []), (42, .invokevirtual 103, 48, 4, [3, 0, 0]), (45, .istore_n 3, 0, 0, []), (46, .iconst 0, 0, 0, []), (47, .istore 4, 0, 0, []), (49, .iload_n 2, 0, 0, []), (50, .ifCond .ne 16, 2, 0, []), (53, .iconst 0, 0, 0, []), (54, .aload_n 0, 0, 0, []), (55, .iconst 5, 0, 0, []), (56, .bipush 7, 0, 0, []), (58, .invokevirtual 81, 50, 4, [3, 0, 0]), (61, .iadd, 0, 0, []), (62, .iconst 5, 0, 0, []), (63, .isub, 0, 0, []), (64, .istore 4, 0, 0, []), (66, .nop, 2, 0, [])], [(66, .aload_n 0, 0, 0, []), (67, .iload_n 2, 0, 0, []), (68, .invokevirtual 125, 47, 4, [2, 0, 0]), (71, .istore 5, 0, 0, []), (73, .aload_n 0, 0, 0, []), (74, .getfield 32, 4, 5, [0]), (77, .ifCond .ne 17, 3, 0, []), (80, .aload_n 0, 0, 0, []), (81, .getfield 24, 4, 1, [0]), (84, .iload_n 1, 0, 0, []), (85, .iload_n 2, 0, 0, []), (86, .iload_n 3, 0, 0, []), (87, .iload 5, 0, 0, []), (89, .iload 4, 0, 0, []), (91, .invokevirtual 128, 16, 1, [6, 0, 0]), (94, .nop, 3, 0, [])], [(94, .return_, 0, 0, [])]]
def zB_46 : mzB := [[(0, .aload_n 0, 0, 0, []), (1, .getfield 41, 4, 3, [0]), (4, .iconst 4, 0, 0, []), (5, .if_icmp .ne 12, 1, 0, []), (8, .aload_n 0, 0, 0, []), (9, .iconst 4, 0, 0, []), (10, .iconst 4, 0, 0, []), (11, .invokevirtual 81, 50, 4, [3, 0, 0]), (14, .pop, 0, 0, []), (15, .iconst 0, 0, 0, []), (16, .ireturn, 0, 0, [])], [(17, .iconst 1, 0, 0, []), (18, .aload_n 0, 0, 0, []), (19, .bipush 8, 0, 0, []), (21, .bipush 17, 0, 0, []), (23, .invokevirtual 81, 50, 4, [3, 0, 0]), (26, .iadd, 0, 0, []), (27, .bipush 8, 0, 0, []), (29, .isub, 0, 0, []), (30, .ireturn, 0, 0, [])]]
def zB_47 : mzB := [[(0, .iload_n 1, 0, 0, []), (1, .tableswitch 65 0 8 #[59, 51, 65, 65, 65, 59, 59, 65, 59], 3, 0, [2, 1, 3, 3, 3, 2, 2, 3, 2])], [(52, .aload_n 0, 0, 0, []), (53, .iconst 0, 0, 0, []), (54, .bipush 39, 0, 0, []), (56, .invokevirtual 103, 48, 4, [3, 0, 0]), (59, .ireturn, 0, 0, [])], [(60, .aload_n 0, 0, 0, []), (61, .iconst (-1), 0, 0, []), (62, .invokevirtual 100, 49, 4, [2, 0, 0]), (65, .ireturn, 0, 0, [])], [(66, .bipush (-2), 0, 0, []), (68, .ireturn, 0, 0, [])]]
def zB_48 : mzB := [[(0, .aload_n 0, 0, 0, []), (1, .getfield 63, 4, 4, [0]), (4, .istore_n 3, 0, 0, []), (5, .aload_n 0, 0, 0, []), (6, .getfield 41, 4, 3, [0]), (9, .bipush 19, 0, 0, []), (11, .if_icmp .ne 18, 2, 0, []), (14, .iload_n 3, 0, 0, []), (15, .iload_n 1, 0, 0, []), (16, .if_icmp .lt 8, 1, 0, []), (19, .iload_n 3, 0, 0, []), (20, .iload_n 2, 0, 0, []), (21, .if_icmp .le 8, 2, 0, []), (24, .nop, 1, 0, [])], [(24, .aload_n 0, 0, 0, []), (25, .iconst 2, 0, 0, []), (26, .invokevirtual 44, 40, 4, [2, 0, 0]), (29, .nop, 2, 0, [])], [(29, .aload_n 0, 0, 0, []), (30, .bipush 19, 0, 0, []), (32, .bipush 19, 0, 0, []), (34, .invokevirtual 81, 50, 4, [3, 0, 0]), (37, .pop, 0, 0, []), (38, .iload_n 3, 0, 0, []), (39, .ireturn, 0, 0, [])]]
def zB_49 : mzB := [[(0, .aload_n 0, 0, 0, []), (1, .getfield 41, 4, 3, [0]), (4, .bipush 18, 0, 0, []), (6, .if_icmp .ne 17, 1, 0, []), (9, .aload_n 0, 0, 0, []), (10, .getfield 24, 4, 1, [0]), (13, .aload_n 0, 0, 0, []), (14, .getfield 63, 4, 4, [0]), (17, .invokevirtual 90, 13, 1, [2, 0, 0]), (20, .goto 5, 2, 0, [])], [(23, .bipush (-2), 0, 0, []), (25, .nop, 2, 0, [])], [(25, .istore_n 2, 0, 0, []), (26, .iload_n 2, 0, 0, []), (27, .bipush (-2), 0, 0, []), (29, .if_icmp .ne 11, 3, 0, []), (32, .aload_n 0, 0, 0, []), (33, .iconst 1, 0, 0, []), (34, .invokevirtual 44, 40, 4, [2, 0, 0]), (37, .goto 13, 4, 0, [])], [(40, .iload_n 2, 0, 0, []), (41, .iload_n 1, 0, 0, []), (42, .if_icmp .ne 8, 4, 0, []), (45, .aload_n 0, 0, 0, []), (46, .iconst 3, 0, 0, []), (47, .invokevirtual 44, 40, 4, [2, 0, 0]), (50, .nop, 4, 0, [])], [(50, .aload_n 0, 0, 0, []), (51, .bipush 18, 0, 0, []), (53, .bipush 18, 0, 0, []), (55, .invokevirtual 81, 50, 4, [3, 0, 0]), (58, .pop, 0, 0, []), (59, .iload_n 2, 0, 0, []), (60, .ireturn, 0, 0, [])]]
def zB_50 : mzB := [[(0, .aload_n 0, 0, 0, []), (1, .getfield 41, 4, 3, [0]), (4, .istore_n 3, 0, 0, []), (5, .iload_n 3, 0, 0, []), (6, .iload_n 1, 0, 0, []), (7, .if_icmp .lt 8, 1, 0, []), (10, .iload_n 3, 0, 0, []), (11, .iload_n 2, 0, 0, []), (12, .if_icmp .le 8, 2, 0, []), (15, .nop, 1, 0, [])], [(15, .aload_n 0, 0, 0, []), (16, .iconst 1, 0, 0, []), (17, .invokevirtual 44, 40, 4, [2, 0, 0]), (20, .nop, 2, 0, [])], [(20, .aload_n 0, 0, 0, []), (21, .getfield 32, 4, 5, [0]), (24, .ifCond .eq 5, 3, 0, []), (27, .iload_n 1, 0, 0, []), (28, .ireturn, 0, 0, [])], [(29, .aload_n 0, 0, 0, []), (30, .aload_n 0, 0, 0, []), (31, .getfield 53, 4, 2, [0]), (34, .iconst 1, 0, 0, []), (35, .iadd, 0, 0, []), (36, .invokevirtual 38, 39, 4, [2, 0, 0]), (39, .iload_n 3, 0, 0, []), (40, .ireturn, 0, 0, [])]]
def zB_51 : mzB := [[(0, .aload_n 0, 0, 0, []), (1, .invokespecial 3, 0, 0, [0]), (4, .aload_n 0, 0, 0, []), (5, .new 9, 2, 3, [0]), (8, .dup, 0, 0, []), (9, .invokespecial 11, 23, 2, [1, 2, 120]), (12, .putfield 12, 5, 0, [2]), (15, .aload_n 0, 0, 0, []), (16, .new 18, 8, 6, [0]), (19, .dup, 0, 0, []), (20, .invokespecial 20, 82, 8, [1, 6, 240]), (23, .putfield 21, 5, 1, [2]), (26, .aload_n 0, 0, 0, []), (27, .new 18, 8, 6, [0]), (30, .dup, 0, 0, []), (31, .invokespecial 20, 82, 8, [1, 6, 240]), (34, .putfield 25, 5, 2, [2]), (37, .aload_n 0, 0, 0, []), (38, .bipush 60, 0, 0, []), (40, .newarray .int, 0, 0, [0]), (42, .putfield 28, 5, 3, [2]), (45, .aload_n 0, 0, 0, []), (46, .aload_n 1, 0, 0, []), (47, .putfield 32, 5, 4, [2]), (50, .return_, 0, 0, [])]]
def zB_52 : mzB := [[(0, .aload_n 0, 0, 0, []), (1, .getfield 12, 5, 0, [0]), (4, .aload_n 0, 0, 0, []), (5, .getfield 32, 5, 4, [0]), (8, .invokevirtual 36, 24, 2, [2, 0, 0]), (11, .aload_n 0, 0, 0, []), (12, .getfield 12, 5, 0, [0]), (15, .invokevirtual 40, 25, 2, [1, 0, 0]), (18, .aload_n 0, 0, 0, []), (19, .getfield 21, 5, 1, [0]), (22, .invokevirtual 43, 83, 8, [1, 0, 0]), (25, .iconst 0, 0, 0, []), (26, .istore_n 1, 0, 0, []), (27, .nop, 1, 0, [])], [(27, .iload_n 1, 0, 0, []), (28, .aload_n 0, 0, 0, []), (29, .getfield 12, 5, 0, [0]), (32, .getfield 46, 2, 2, [0]), (35, .if_icmp .ge 28, 2, 0, []), (38, .aload_n 0, 0, 0, []), (39, .getfield 28, 5, 3, [0]), (42, .aload_n 0, 0, 0, []), (43, .getfield 12, 5, 0, [0]), (46, .getfield 50, 2, 1, [0]), (49, .iload_n 1, 0, 0, []), (50, .iaload, 0, 0, []), (51, .aload_n 0, 0, 0, []), (52, .iload_n 1, 0, 0, []), (53, .invokevirtual 53, 53, 5, [2, 0, 0]), (56, .iastore, 0, 0, []), (57, .iinc 1 1, 0, 0, []), (60, .goto (-33), 1, 0, [])], [(63, .return_, 0, 0, [])]]
def zB_53 : mzB := [[(0, .aload_n 0, 0, 0, []), (1, .getfield 21, 5, 1, [0]), (4, .aload_n 0, 0, 0, []), (5, .getfield 32, 5, 4, [0]), (8, .aload_n 0, 0, 0, []), (9, .getfield 12, 5, 0, [0]), (12, .getfield 50, 2, 1, [0]), (15, .iload_n 1, 0, 0, []), (16, .iaload, 0, 0, []), (17, .aload_n 0, 0, 0, []), (18, .getfield 12, 5, 0, [0]), (21, .iload_n 1, 0, 0, []), (22, .invokevirtual 57, 27, 2, [2, 0, 0]), (25, .invokevirtual 60, 93, 8, [4, 0, 0]), (28, .ireturn, 0, 0, [])]]
def zB_54 : mzB := [[(0, .aload_n 0, 0, 0, []), (1, .getfield 21, 5, 1, [0]), (4, .invokevirtual 43, 83, 8, [1, 0, 0]), (7, .iconst 0, 0, 0, []), (8, .istore_n 2, 0, 0, []), (9, .nop, 1, 0, [])], [(9, .iload_n 2, 0, 0, []), (10, .aload_n 0, 0, 0, []), (11, .getfield 12, 5, 0, [0]), (14, .getfield 46, 2, 2, [0]), (17, .if_icmp .ge 50, 2, 0, []), (20, .aload_n 0, 0, 0, []), (21, .getfield 12, 5, 0, [0]), (24, .iload_n 2, 0, 0, []), (25, .invokevirtual 57, 27, 2, [2, 0, 0]), (28, .iload_n 1, 0, 0, []), (29, .if_icmp .gt 38, 2, 0, []), (32, .aload_n 0, 0, 0, []), (33, .getfield 21, 5, 1, [0]), (36, .aload_n 0, 0, 0, []), (37, .getfield 32, 5, 4, [0]), (40, .aload_n 0, 0, 0, []), (41, .getfield 12, 5, 0, [0]), (44, .getfield 50, 2, 1, [0]), (47, .iload_n 2, 0, 0, []), (48, .iaload, 0, 0, []), (49, .aload_n 0, 0, 0, []), (50, .getfield 12, 5, 0, [0]), (53, .iload_n 2, 0, 0, []), (54, .invokevirtual 57, 27, 2, [2, 0, 0]), (57, .invokevirtual 60, 93, 8, [4, 0, 0]), (60, .pop, 0, 0, []), (61, .iinc 2 1, 0, 0, []), (64, .goto (-55), 1, 0, [])], [(67, .iload_n 2, 0, 0, []), (68, .ireturn, 0, 0, [])]]
def zB_55 : mzB := [[(0, .aload_n 0, 0, 0, []), (1, .iload_n 1, 0, 0, []), (2, .invokevirtual 64, 54, 5, [2, 0, 0]), (5, .pop, 0, 0, []), (6, .aload_n 0, 0, 0, []), (7, .getfield 21, 5, 1, [0]), (10, .areturn, 0, 0, [])]]
def zB_56 : mzB := [[(0, .aload_n 0, 0, 0, []), (1, .getfield 21, 5, 1, [0]), (4, .invokevirtual 43, 83, 8, [1, 0, 0]), (7, .iconst 0, 0, 0, []), (8, .istore_n 2, 0, 0, []), (9, .nop, 1, 0, [])], [(9, .iload_n 2, 0, 0, []), (10, .aload_n 0, 0, 0, []), (11, .getfield 12, 5, 0, [0]), (14, .getfield 46, 2, 2, [0]), (17, .if_icmp .ge 28, 3, 0, []), (20, .aload_n 0, 0, 0, []), (21, .getfield 12, 5, 0, [0]), (24, .getfield 50, 2, 1, [0]), (27, .iload_n 2, 0, 0, []), (28, .iaload, 0, 0, []), (29, .iload_n 1, 0, 0, []), (30, .if_icmp .ge 9, 2, 0, []), (33, .aload_n 0, 0, 0, []), (34, .iload_n 2, 0, 0, []), (35, .invokevirtual 53, 53, 5, [2, 0, 0]), (38, .pop, 0, 0, []), (39, .nop, 2, 0, [])], [(39, .iinc 2 1, 0, 0, []), (42, .goto (-33), 1, 0, [])], [(45, .aload_n 0, 0, 0, []), (46, .getfield 21, 5, 1, [0]), (49, .areturn, 0, 0, [])]]
def zB_57 : mzB := [[(0, .aload_n 0, 0, 0, []), (1, .getfield 25, 5, 2, [0]), (4, .aload_n 0, 0, 0, []), (5, .iload_n 1, 0, 0, []), (6, .invokevirtual 67, 56, 5, [2, 0, 0]), (9, .invokevirtual 71, 84, 8, [2, 0, 0]), (12, .aload_n 0, 0, 0, []), (13, .iload_n 1, 0, 0, []), (14, .iconst 1, 0, 0, []), (15, .iadd, 0, 0, []), (16, .invokevirtual 67, 56, 5, [2, 0, 0]), (19, .pop, 0, 0, []), (20, .iconst 0, 0, 0, []), (21, .istore_n 2, 0, 0, []), (22, .iconst 0, 0, 0, []), (23, .istore_n 3, 0, 0, []), (24, .nop, 1, 0, [])], [(24, .iload_n 3, 0, 0, []), (25, .bipush 40, 0, 0, []), (27, .if_icmp .ge 36, 4, 0, []), (30, .iload_n 2, 0, 0, []), (31, .aload_n 0, 0, 0, []), (32, .getfield 25, 5, 2, [0]), (35, .iload_n 3, 0, 0, []), (36, .invokevirtual 75, 91, 8, [2, 0, 0]), (39, .aload_n 0, 0, 0, []), (40, .getfield 21, 5, 1, [0]), (43, .iload_n 3, 0, 0, []), (44, .invokevirtual 75, 91, 8, [2, 0, 0]), (47, .if_icmp .eq 7, 2, 0, []), (50, .iconst 1, 0, 0, []), (51, .goto 4, 3, 0, [])], [(54, .iconst 0, 0, 0, []), (55, .nop, 3, 0, [])], [(55, .iadd, 0, 0, []), (56, .istore_n 2, 0, 0, []), (57, .iinc 3 1, 0, 0, []), (60, .goto (-36), 1, 0, [])], [(63, .iload_n 2, 0, 0, []), (64, .ireturn, 0, 0, [])]]
def zB_58 : mzB := [[(0, .iconst 0, 0, 0, []), (1, .istore_n 2, 0, 0, []), (2, .iconst 0, 0, 0, []), (3, .istore_n 3, 0, 0, []), (4, .nop, 1, 0, [])], [(4, .iload_n 3, 0, 0, []), (5, .aload_n 0, 0, 0, []), (6, .getfield 12, 5, 0, [0]), (9, .getfield 46, 2, 2, [0]), (12, .if_icmp .ge 41, 5, 0, []), (15, .iload_n 2, 0, 0, []), (16, .iload_n 1, 0, 0, []), (17, .aload_n 0, 0, 0, []), (18, .getfield 28, 5, 3, [0]), (21, .iload_n 3, 0, 0, []), (22, .iaload, 0, 0, []), (23, .if_icmp .eq 17, 2, 0, []), (26, .iload_n 1, 0, 0, []), (27, .iconst (-1), 0, 0, []), (28, .if_icmp .ne 16, 3, 0, []), (31, .aload_n 0, 0, 0, []), (32, .getfield 28, 5, 3, [0]), (35, .iload_n 3, 0, 0, []), (36, .iaload, 0, 0, []), (37, .ifCond .eq 7, 3, 0, []), (40, .nop, 2, 0, [])], [(40, .iconst 1, 0, 0, []), (41, .goto 4, 4, 0, [])], [(44, .iconst 0, 0, 0, []), (45, .nop, 4, 0, [])], [(45, .iadd, 0, 0, []), (46, .istore_n 2, 0, 0, []), (47, .iinc 3 1, 0, 0, []), (50, .goto (-46), 1, 0, [])], [(53, .iload_n 2, 0, 0, []), (54, .ireturn, 0, 0, [])]]
def zB_59 : mzB := [[(0, .aload_n 0, 0, 0, []), (1, .getfield 21, 5, 1, [0]), (4, .invokevirtual 43, 83, 8, [1, 0, 0]), (7, .bipush (-2), 0, 0, []), (9, .istore 4, 0, 0, []), (11, .iconst 0, 0, 0, []), (12, .istore 5, 0, 0, []), (14, .iconst 0, 0, 0, []), (15, .istore 6, 0, 0, []), (17, .nop, 1, 0, [])], [(17, .iload 6, 0, 0, []), (19, .aload_n 0, 0, 0, []), (20, .getfield 12, 5, 0, [0]), (23, .getfield 46, 2, 2, [0]), (26, .if_icmp .ge 67, 6, 0, []), (29, .aload_n 0, 0, 0, []), (30, .iload 6, 0, 0, []), (32, .invokevirtual 53, 53, 5, [2, 0, 0]), (35, .pop, 0, 0, []), (36, .aload_n 0, 0, 0, []), (37, .getfield 21, 5, 1, [0]), (40, .iload_n 1, 0, 0, []), (41, .invokevirtual 75, 91, 8, [2, 0, 0]), (44, .iload 4, 0, 0, []), (46, .if_icmp .eq 41, 5, 0, []), (49, .aload_n 0, 0, 0, []), (50, .getfield 21, 5, 1, [0]), (53, .iload_n 1, 0, 0, []), (54, .invokevirtual 75, 91, 8, [2, 0, 0]), (57, .istore 4, 0, 0, []), (59, .iload 5, 0, 0, []), (61, .iload_n 2, 0, 0, []), (62, .if_icmp .ne 22, 4, 0, []), (65, .iload_n 3, 0, 0, []), (66, .ifCond .eq 8, 2, 0, []), (69, .iload 4, 0, 0, []), (71, .goto 12, 3, 0, [])], [(74, .aload_n 0, 0, 0, []), (75, .getfield 12, 5, 0, [0]), (78, .iload 6, 0, 0, []), (80, .invokevirtual 57, 27, 2, [2, 0, 0]), (83, .nop, 3, 0, [])], [(83, .ireturn, 0, 0, [])], [(84, .iinc 5 1, 0, 0, []), (87, .nop, 5, 0, [])], [(87, .iinc 6 1, 0, 0, []), (90, .goto (-73), 1, 0, [])], [(93, .bipush (-2), 0, 0, []), (95, .ireturn, 0, 0, [])]]
def zB_60 : mzB := [[(0, .aload_n 0, 0, 0, []), (1, .getfield 21, 5, 1, [0]), (4, .invokevirtual 43, 83, 8, [1, 0, 0]), (7, .bipush (-2), 0, 0, []), (9, .istore_n 3, 0, 0, []), (10, .iconst 0, 0, 0, []), (11, .istore 4, 0, 0, []), (13, .iconst 0, 0, 0, []), (14, .istore 5, 0, 0, []), (16, .iconst 0, 0, 0, []), (17, .istore 6, 0, 0, []), (19, .nop, 1, 0, [])], [(19, .iload 6, 0, 0, []), (21, .aload_n 0, 0, 0, []), (22, .getfield 12, 5, 0, [0]), (25, .getfield 46, 2, 2, [0]), (28, .if_icmp .ge 74, 5, 0, []), (31, .aload_n 0, 0, 0, []), (32, .iload 6, 0, 0, []), (34, .invokevirtual 53, 53, 5, [2, 0, 0]), (37, .pop, 0, 0, []), (38, .aload_n 0, 0, 0, []), (39, .getfield 21, 5, 1, [0]), (42, .iload_n 1, 0, 0, []), (43, .invokevirtual 75, 91, 8, [2, 0, 0]), (46, .iload_n 3, 0, 0, []), (47, .if_icmp .eq 49, 4, 0, []), (50, .iload 5, 0, 0, []), (52, .iload_n 3, 0, 0, []), (53, .iload_n 2, 0, 0, []), (54, .if_icmp .ne 18, 2, 0, []), (57, .aload_n 0, 0, 0, []), (58, .getfield 12, 5, 0, [0]), (61, .iload 6, 0, 0, []), (63, .invokevirtual 57, 27, 2, [2, 0, 0]), (66, .iload 4, 0, 0, []), (68, .isub, 0, 0, []), (69, .goto 4, 3, 0, [])], [(72, .iconst 0, 0, 0, []), (73, .nop, 3, 0, [])], [(73, .iadd, 0, 0, []), (74, .istore 5, 0, 0, []), (76, .aload_n 0, 0, 0, []), (77, .getfield 21, 5, 1, [0]), (80, .iload_n 1, 0, 0, []), (81, .invokevirtual 75, 91, 8, [2, 0, 0]), (84, .istore_n 3, 0, 0, []), (85, .aload_n 0, 0, 0, []), (86, .getfield 12, 5, 0, [0]), (89, .iload 6, 0, 0, []), (91, .invokevirtual 57, 27, 2, [2, 0, 0]), (94, .istore 4, 0, 0, []), (96, .nop, 4, 0, [])], [(96, .iinc 6 1, 0, 0, []), (99, .goto (-80), 1, 0, [])], [(102, .iload_n 3, 0, 0, []), (103, .iload_n 2, 0, 0, []), (104, .if_icmp .ne 19, 6, 0, []), (107, .iload 5, 0, 0, []), (109, .aload_n 0, 0, 0, []), (110, .getfield 32, 5, 4, [0]), (113, .invokevirtual 78, 22, 1, [1, 0, 0]), (116, .iadd, 0, 0, []), (117, .iload 4, 0, 0, []), (119, .isub, 0, 0, []), (120, .goto 5, 7, 0, [])], [(123, .iload 5, 0, 0, []), (125, .nop, 7, 0, [])], [(125, .ireturn, 0, 0, [])]]
def zB_61 : mzB := [[(0, .aload_n 0, 0, 0, []), (1, .getfield 21, 5, 1, [0]), (4, .invokevirtual 43, 83, 8, [1, 0, 0]), (7, .iconst 0, 0, 0, []), (8, .istore_n 3, 0, 0, []), (9, .iconst 0, 0, 0, []), (10, .istore 4, 0, 0, []), (12, .nop, 1, 0, [])], [(12, .iload 4, 0, 0, []), (14, .aload_n 0, 0, 0, []), (15, .getfield 12, 5, 0, [0]), (18, .getfield 46, 2, 2, [0]), (21, .if_icmp .ge 43, 2, 0, []), (24, .aload_n 0, 0, 0, []), (25, .getfield 21, 5, 1, [0]), (28, .iload_n 1, 0, 0, []), (29, .invokevirtual 84, 105, 8, [2, 0, 0]), (32, .lstore 5, 0, 0, []), (34, .aload_n 0, 0, 0, []), (35, .iload 4, 0, 0, []), (37, .invokevirtual 53, 53, 5, [2, 0, 0]), (40, .pop, 0, 0, []), (41, .iload_n 3, 0, 0, []), (42, .lload 5, 0, 0, []), (44, .aload_n 0, 0, 0, []), (45, .getfield 21, 5, 1, [0]), (48, .iload_n 2, 0, 0, []), (49, .invokevirtual 84, 105, 8, [2, 0, 0]), (52, .land, 0, 0, []), (53, .invokestatic 88, 253, 11, [1, 0, 0]), (56, .iadd, 0, 0, []), (57, .istore_n 3, 0, 0, []), (58, .iinc 4 1, 0, 0, []), (61, .goto (-49), 1, 0, [])], [(64, .iload_n 3, 0, 0, []), (65, .ireturn, 0, 0, [])]]
def zB_62 : mzB := [[(0, .aload_n 0, 0, 0, []), (1, .getfield 21, 5, 1, [0]), (4, .invokevirtual 43, 83, 8, [1, 0, 0]), (7, .bipush (-2), 0, 0, []), (9, .istore_n 2, 0, 0, []), (10, .iconst 0, 0, 0, []), (11, .istore_n 3, 0, 0, []), (12, .iconst 0, 0, 0, []), (13, .istore 4, 0, 0, []), (15, .nop, 1, 0, [])], [(15, .iload 4, 0, 0, []), (17, .aload_n 0, 0, 0, []), (18, .getfield 12, 5, 0, [0]), (21, .getfield 46, 2, 2, [0]), (24, .if_icmp .ge 51, 3, 0, []), (27, .aload_n 0, 0, 0, []), (28, .iload 4, 0, 0, []), (30, .invokevirtual 53, 53, 5, [2, 0, 0]), (33, .pop, 0, 0, []), (34, .aload_n 0, 0, 0, []), (35, .getfield 21, 5, 1, [0]), (38, .iload_n 1, 0, 0, []), (39, .invokevirtual 75, 91, 8, [2, 0, 0]), (42, .istore 5, 0, 0, []), (44, .iload 5, 0, 0, []), (46, .ifCond .lt 23, 2, 0, []), (49, .iload_n 3, 0, 0, []), (50, .iconst 0, 0, 0, []), (51, .aload_n 0, 0, 0, []), (52, .getfield 32, 5, 4, [0]), (55, .iload_n 2, 0, 0, []), (56, .iload 5, 0, 0, []), (58, .invokevirtual 94, 17, 1, [3, 0, 0]), (61, .invokestatic 98, 0, 0, [1]), (64, .iadd, 0, 0, []), (65, .istore_n 3, 0, 0, []), (66, .iload 5, 0, 0, []), (68, .istore_n 2, 0, 0, []), (69, .nop, 2, 0, [])], [(69, .iinc 4 1, 0, 0, []), (72, .goto (-57), 1, 0, [])], [(75, .aload_n 0, 0, 0, []), (76, .getfield 21, 5, 1, [0]), (79, .iload_n 1, 0, 0, []), (80, .invokevirtual 103, 88, 8, [2, 0, 0]), (83, .ifCond .eq 7, 4, 0, []), (86, .iload_n 3, 0, 0, []), (87, .goto 5, 5, 0, [])], [(90, .bipush (-2), 0, 0, []), (92, .nop, 5, 0, [])], [(92, .ireturn, 0, 0, [])]]
def zB_63 : mzB := [[(0, .aload_n 0, 0, 0, []), (1, .getfield 21, 5, 1, [0]), (4, .invokevirtual 43, 83, 8, [1, 0, 0]), (7, .iconst (-1), 0, 0, []), (8, .istore_n 3, 0, 0, []), (9, .bipush (-2), 0, 0, []), (11, .istore 4, 0, 0, []), (13, .iconst 0, 0, 0, []), (14, .istore 5, 0, 0, []), (16, .nop, 1, 0, [])], [(16, .iload 5, 0, 0, []), (18, .aload_n 0, 0, 0, []), (19, .getfield 12, 5, 0, [0]), (22, .getfield 46, 2, 2, [0]), (25, .if_icmp .ge 49, 3, 0, []), (28, .aload_n 0, 0, 0, []), (29, .iload 5, 0, 0, []), (31, .invokevirtual 53, 53, 5, [2, 0, 0]), (34, .pop, 0, 0, []), (35, .aload_n 0, 0, 0, []), (36, .getfield 21, 5, 1, [0]), (39, .iload_n 1, 0, 0, []), (40, .invokevirtual 84, 105, 8, [2, 0, 0]), (43, .invokestatic 88, 253, 11, [1, 0, 0]), (46, .istore 6, 0, 0, []), (48, .iload 6, 0, 0, []), (50, .iload_n 3, 0, 0, []), (51, .if_icmp .le 17, 2, 0, []), (54, .iload 6, 0, 0, []), (56, .istore_n 3, 0, 0, []), (57, .aload_n 0, 0, 0, []), (58, .getfield 12, 5, 0, [0]), (61, .iload 5, 0, 0, []), (63, .invokevirtual 57, 27, 2, [2, 0, 0]), (66, .istore 4, 0, 0, []), (68, .nop, 2, 0, [])], [(68, .iinc 5 1, 0, 0, []), (71, .goto (-55), 1, 0, [])], [(74, .iload_n 2, 0, 0, []), (75, .ifCond .eq 11, 4, 0, []), (78, .iconst 0, 0, 0, []), (79, .iload_n 3, 0, 0, []), (80, .invokestatic 98, 0, 0, [1]), (83, .goto 5, 5, 0, [])], [(86, .iload 4, 0, 0, []), (88, .nop, 5, 0, [])], [(88, .ireturn, 0, 0, [])]]
def zB_64 : mzB := [[(0, .aload_n 0, 0, 0, []), (1, .iload_n 2, 0, 0, []), (2, .invokevirtual 64, 54, 5, [2, 0, 0]), (5, .istore_n 3, 0, 0, []), (6, .aload_n 0, 0, 0, []), (7, .getfield 21, 5, 1, [0]), (10, .iload_n 1, 0, 0, []), (11, .invokevirtual 103, 88, 8, [2, 0, 0]), (14, .ifCond .eq 15, 1, 0, []), (17, .aload_n 0, 0, 0, []), (18, .getfield 21, 5, 1, [0]), (21, .iload_n 1, 0, 0, []), (22, .iconst 4, 0, 0, []), (23, .invokevirtual 107, 85, 8, [3, 0, 0]), (26, .ifCond .eq 5, 2, 0, []), (29, .nop, 1, 0, [])], [(29, .lconst 0, 0, 0, []), (30, .lreturn, 0, 0, [])], [(31, .aload_n 0, 0, 0, []), (32, .getfield 21, 5, 1, [0]), (35, .lconst 1, 0, 0, []), (36, .iload_n 1, 0, 0, []), (37, .lshl, 0, 0, []), (38, .invokevirtual 111, 107, 8, [2, 0, 0]), (41, .lstore 4, 0, 0, []), (43, .iload_n 3, 0, 0, []), (44, .istore 6, 0, 0, []), (46, .nop, 3, 0, [])], [(46, .iload 6, 0, 0, []), (48, .aload_n 0, 0, 0, []), (49, .getfield 12, 5, 0, [0]), (52, .getfield 46, 2, 2, [0]), (55, .if_icmp .ge 27, 4, 0, []), (58, .aload_n 0, 0, 0, []), (59, .iload 6, 0, 0, []), (61, .invokevirtual 53, 53, 5, [2, 0, 0]), (64, .pop, 0, 0, []), (65, .aload_n 0, 0, 0, []), (66, .getfield 21, 5, 1, [0]), (69, .lload 4, 0, 0, []), (71, .invokevirtual 111, 107, 8, [2, 0, 0]), (74, .lstore 4, 0, 0, []), (76, .iinc 6 1, 0, 0, []), (79, .goto (-33), 3, 0, [])], [(82, .lload 4, 0, 0, []), (84, .lreturn, 0, 0, [])]]
def zB_65 : mzB := [[(0, .aload_n 0, 0, 0, []), (1, .iload_n 2, 0, 0, []), (2, .invokevirtual 64, 54, 5, [2, 0, 0]), (5, .istore 4, 0, 0, []), (7, .aload_n 0, 0, 0, []), (8, .getfield 21, 5, 1, [0]), (11, .iload_n 1, 0, 0, []), (12, .invokevirtual 115, 104, 8, [2, 0, 0]), (15, .lstore 5, 0, 0, []), (17, .iload 4, 0, 0, []), (19, .istore 7, 0, 0, []), (21, .nop, 1, 0, [])], [(21, .iload 7, 0, 0, []), (23, .aload_n 0, 0, 0, []), (24, .getfield 12, 5, 0, [0]), (27, .getfield 46, 2, 2, [0]), (30, .if_icmp .ge 42, 2, 0, []), (33, .aload_n 0, 0, 0, []), (34, .getfield 12, 5, 0, [0]), (37, .iload 7, 0, 0, []), (39, .invokevirtual 57, 27, 2, [2, 0, 0]), (42, .iload_n 3, 0, 0, []), (43, .if_icmp .gt 29, 2, 0, []), (46, .aload_n 0, 0, 0, []), (47, .iload 7, 0, 0, []), (49, .invokevirtual 53, 53, 5, [2, 0, 0]), (52, .pop, 0, 0, []), (53, .lload 5, 0, 0, []), (55, .aload_n 0, 0, 0, []), (56, .getfield 21, 5, 1, [0]), (59, .iload_n 1, 0, 0, []), (60, .invokevirtual 115, 104, 8, [2, 0, 0]), (63, .lor, 0, 0, []), (64, .lstore 5, 0, 0, []), (66, .iinc 7 1, 0, 0, []), (69, .goto (-48), 1, 0, [])], [(72, .lload 5, 0, 0, []), (74, .lreturn, 0, 0, [])]]
def zB_66 : mzB := [[(0, .aload_n 0, 0, 0, []), (1, .getfield 21, 5, 1, [0]), (4, .invokevirtual 43, 83, 8, [1, 0, 0]), (7, .iconst 0, 0, 0, []), (8, .istore_n 2, 0, 0, []), (9, .iconst 0, 0, 0, []), (10, .istore_n 3, 0, 0, []), (11, .nop, 1, 0, [])], [(11, .iload_n 3, 0, 0, []), (12, .aload_n 0, 0, 0, []), (13, .getfield 12, 5, 0, [0]), (16, .getfield 46, 2, 2, [0]), (19, .if_icmp .ge 31, 2, 0, []), (22, .aload_n 0, 0, 0, []), (23, .iload_n 3, 0, 0, []), (24, .invokevirtual 53, 53, 5, [2, 0, 0]), (27, .pop, 0, 0, []), (28, .iload_n 2, 0, 0, []), (29, .aload_n 0, 0, 0, []), (30, .getfield 21, 5, 1, [0]), (33, .iload_n 1, 0, 0, []), (34, .invokevirtual 115, 104, 8, [2, 0, 0]), (37, .invokestatic 88, 253, 11, [1, 0, 0]), (40, .invokestatic 98, 0, 0, [1]), (43, .istore_n 2, 0, 0, []), (44, .iinc 3 1, 0, 0, []), (47, .goto (-36), 1, 0, [])], [(50, .aload_n 0, 0, 0, []), (51, .getfield 21, 5, 1, [0]), (54, .iload_n 1, 0, 0, []), (55, .invokevirtual 103, 88, 8, [2, 0, 0]), (58, .ifCond .eq 7, 3, 0, []), (61, .iload_n 2, 0, 0, []), (62, .goto 5, 4, 0, [])], [(65, .bipush (-2), 0, 0, []), (67, .nop, 4, 0, [])], [(67, .ireturn, 0, 0, [])]]
def zB_67 : mzB := [[(0, .aload_n 0, 0, 0, []), (1, .getfield 21, 5, 1, [0]), (4, .invokevirtual 43, 83, 8, [1, 0, 0]), (7, .bipush (-2), 0, 0, []), (9, .istore_n 3, 0, 0, []), (10, .iconst 0, 0, 0, []), (11, .istore 4, 0, 0, []), (13, .nop, 1, 0, [])], [(13, .iload 4, 0, 0, []), (15, .aload_n 0, 0, 0, []), (16, .getfield 12, 5, 0, [0]), (19, .getfield 46, 2, 2, [0]), (22, .if_icmp .ge 86, 4, 0, []), (25, .aload_n 0, 0, 0, []), (26, .getfield 12, 5, 0, [0]), (29, .iload 4, 0, 0, []), (31, .invokevirtual 57, 27, 2, [2, 0, 0]), (34, .iload_n 2, 0, 0, []), (35, .if_icmp .gt 73, 4, 0, []), (38, .aload_n 0, 0, 0, []), (39, .getfield 21, 5, 1, [0]), (42, .iload_n 1, 0, 0, []), (43, .invokevirtual 115, 104, 8, [2, 0, 0]), (46, .lstore 5, 0, 0, []), (48, .aload_n 0, 0, 0, []), (49, .getfield 21, 5, 1, [0]), (52, .iload_n 1, 0, 0, []), (53, .invokevirtual 103, 88, 8, [2, 0, 0]), (56, .istore 7, 0, 0, []), (58, .aload_n 0, 0, 0, []), (59, .iload 4, 0, 0, []), (61, .invokevirtual 53, 53, 5, [2, 0, 0]), (64, .pop, 0, 0, []), (65, .aload_n 0, 0, 0, []), (66, .getfield 21, 5, 1, [0]), (69, .iload_n 1, 0, 0, []), (70, .invokevirtual 115, 104, 8, [2, 0, 0]), (73, .lload 5, 0, 0, []), (75, .lcmp, 0, 0, []), (76, .ifCond .ne 16, 2, 0, []), (79, .aload_n 0, 0, 0, []), (80, .getfield 21, 5, 1, [0]), (83, .iload_n 1, 0, 0, []), (84, .invokevirtual 103, 88, 8, [2, 0, 0]), (87, .iload 7, 0, 0, []), (89, .if_icmp .eq 13, 3, 0, []), (92, .nop, 2, 0, [])], [(92, .aload_n 0, 0, 0, []), (93, .getfield 12, 5, 0, [0]), (96, .iload 4, 0, 0, []), (98, .invokevirtual 57, 27, 2, [2, 0, 0]), (101, .istore_n 3, 0, 0, []), (102, .nop, 3, 0, [])], [(102, .iinc 4 1, 0, 0, []), (105, .goto (-92), 1, 0, [])], [(108, .aload_n 0, 0, 0, []), (109, .getfield 21, 5, 1, [0]), (112, .iload_n 1, 0, 0, []), (113, .iconst 4, 0, 0, []), (114, .invokevirtual 107, 85, 8, [3, 0, 0]), (117, .ifCond .eq 8, 5, 0, []), (120, .bipush (-4), 0, 0, []), (122, .goto 4, 6, 0, [])], [(125, .iload_n 3, 0, 0, []), (126, .nop, 6, 0, [])], [(126, .ireturn, 0, 0, [])]]
def zB_68 : mzB := [[(0, .iconst 0, 0, 0, []), (1, .istore_n 3, 0, 0, []), (2, .iconst 0, 0, 0, []), (3, .istore 4, 0, 0, []), (5, .nop, 1, 0, [])], [(5, .iload 4, 0, 0, []), (7, .aload_n 0, 0, 0, []), (8, .getfield 12, 5, 0, [0]), (11, .getfield 46, 2, 2, [0]), (14, .if_icmp .ge 97, 7, 0, []), (17, .aload_n 0, 0, 0, []), (18, .getfield 12, 5, 0, [0]), (21, .getfield 50, 2, 1, [0]), (24, .iload 4, 0, 0, []), (26, .iaload, 0, 0, []), (27, .istore 5, 0, 0, []), (29, .aload_n 0, 0, 0, []), (30, .getfield 28, 5, 3, [0]), (33, .iload 5, 0, 0, []), (35, .iaload, 0, 0, []), (36, .bipush 6, 0, 0, []), (38, .if_icmp .eq 15, 2, 0, []), (41, .aload_n 0, 0, 0, []), (42, .getfield 28, 5, 3, [0]), (45, .iload 5, 0, 0, []), (47, .iaload, 0, 0, []), (48, .bipush 10, 0, 0, []), (50, .if_icmp .ne 7, 3, 0, []), (53, .nop, 2, 0, [])], [(53, .iconst 1, 0, 0, []), (54, .goto 4, 4, 0, [])], [(57, .iconst 0, 0, 0, []), (58, .nop, 4, 0, [])], [(58, .istore 6, 0, 0, []), (60, .aload_n 0, 0, 0, []), (61, .getfield 32, 5, 4, [0]), (64, .getfield 118, 1, 3, [0]), (67, .iload 5, 0, 0, []), (69, .iaload, 0, 0, []), (70, .bipush 6, 0, 0, []), (72, .if_icmp .ne 33, 6, 0, []), (75, .aload_n 0, 0, 0, []), (76, .getfield 32, 5, 4, [0]), (79, .getfield 121, 1, 4, [0]), (82, .iload 5, 0, 0, []), (84, .iaload, 0, 0, []), (85, .iload_n 1, 0, 0, []), (86, .if_icmp .ne 19, 6, 0, []), (89, .iload 6, 0, 0, []), (91, .ifCond .eq 14, 6, 0, []), (94, .iload_n 3, 0, 0, []), (95, .iload_n 2, 0, 0, []), (96, .if_icmp .ne 6, 5, 0, []), (99, .iload 5, 0, 0, []), (101, .ireturn, 0, 0, [])], [(102, .iinc 3 1, 0, 0, []), (105, .nop, 6, 0, [])], [(105, .iinc 4 1, 0, 0, []), (108, .goto (-103), 1, 0, [])], [(111, .bipush (-2), 0, 0, []), (113, .ireturn, 0, 0, [])]]
def zB_69 : mzB := [[(0, .aload_n 0, 0, 0, []), (1, .invokespecial 3, 0, 0, [0]), (4, .aload_n 0, 0, 0, []), (5, .sipush 900, 0, 0, []), (8, .newarray .byte, 2, 0, [0]), (10, .putfield 9, 6, 0, [2]), (13, .return_, 0, 0, [])]]
def zB_70 : mzB := [[(0, .aload_n 0, 0, 0, []), (1, .getfield 15, 6, 1, [0]), (4, .iload_n 1, 0, 0, []), (5, .iadd, 0, 0, []), (6, .sipush 900, 0, 0, []), (9, .if_icmp .gt 7, 1, 0, []), (12, .iconst 1, 0, 0, []), (13, .goto 4, 2, 0, [])], [(16, .iconst 0, 0, 0, []), (17, .nop, 2, 0, [])], [(17, .ireturn, 1, 0, [])]]
def zB_71 : mzB := [[(0, .bipush 24, 0, 0, []), (2, .istore_n 2, 0, 0, []), (3, .nop, 1, 0, [])], [(3, .iload_n 2, 0, 0, []), (4, .ifCond .lt 42, 2, 0, []), (7, .aload_n 0, 0, 0, []), (8, .getfield 15, 6, 1, [0]), (11, .sipush 900, 0, 0, []), (14, .if_icmp .ge 32, 2, 0, []), (17, .aload_n 0, 0, 0, []), (18, .getfield 9, 6, 0, [0]), (21, .aload_n 0, 0, 0, []), (22, .getfield 15, 6, 1, [0]), (25, .iload_n 1, 0, 0, []), (26, .iload_n 2, 0, 0, []), (27, .iushr, 0, 0, []), (28, .i2b, 0, 0, []), (29, .bastore, 0, 0, []), (30, .aload_n 0, 0, 0, []), (31, .dup, 0, 0, []), (32, .getfield 15, 6, 1, [0]), (35, .iconst 1, 0, 0, []), (36, .iadd, 0, 0, []), (37, .putfield 15, 6, 1, [0]), (40, .iinc 2 (-8), 0, 0, []), (43, .goto (-40), 1, 0, [])], [(46, .return_, 0, 0, [])]]
def zB_72 : mzB := [[(0, .aload_n 0, 0, 0, []), (1, .invokespecial 3, 0, 0, [0]), (4, .aload_n 0, 0, 0, []), (5, .sipush 901, 0, 0, []), (8, .newarray .int, 0, 0, [0]), (10, .putfield 9, 7, 0, [2]), (13, .aload_n 0, 0, 0, []), (14, .sipush 901, 0, 0, []), (17, .newarray .int, 0, 0, [0]), (19, .putfield 15, 7, 1, [2]), (22, .aload_n 0, 0, 0, []), (23, .sipush 901, 0, 0, []), (26, .newarray .int, 0, 0, [0]), (28, .putfield 18, 7, 2, [2]), (31, .aload_n 0, 0, 0, []), (32, .aload_n 1, 0, 0, []), (33, .putfield 21, 7, 3, [2]), (36, .return_, 0, 0, [])]]
def zB_73 : mzB := [[(0, .aload_n 0, 0, 0, []), (1, .iconst 0, 0, 0, []), (2, .iload_n 1, 0, 0, []), (3, .aload_n 0, 0, 0, []), (4, .getfield 21, 7, 3, [0]), (7, .getfield 25, 6, 1, [0]), (10, .invokestatic 31, 0, 0, [2]), (13, .invokestatic 37, 0, 0, [1]), (16, .putfield 40, 7, 5, [0]), (19, .aload_n 0, 0, 0, []), (20, .iconst 0, 0, 0, []), (21, .putfield 43, 7, 6, [0]), (24, .aload_n 0, 0, 0, []), (25, .iconst 0, 0, 0, []), (26, .putfield 46, 7, 4, [0]), (29, .aload_n 0, 0, 0, []), (30, .invokevirtual 47, 75, 7, [1, 0, 0]), (33, .iconst 0, 0, 0, []), (34, .istore_n 2, 0, 0, []), (35, .nop, 1, 0, [])], [(35, .iload_n 2, 0, 0, []), (36, .sipush 900, 0, 0, []), (39, .if_icmp .ge 47, 2, 0, []), (42, .aload_n 0, 0, 0, []), (43, .getfield 43, 7, 6, [0]), (46, .aload_n 0, 0, 0, []), (47, .getfield 40, 7, 5, [0]), (50, .if_icmp .ge 36, 2, 0, []), (53, .aload_n 0, 0, 0, []), (54, .getfield 43, 7, 6, [0]), (57, .istore_n 3, 0, 0, []), (58, .aload_n 0, 0, 0, []), (59, .iconst 0, 0, 0, []), (60, .putfield 50, 7, 7, [0]), (63, .aload_n 0, 0, 0, []), (64, .invokevirtual 53, 76, 7, [1, 0, 0]), (67, .istore 4, 0, 0, []), (69, .aload_n 0, 0, 0, []), (70, .iload 4, 0, 0, []), (72, .iload_n 3, 0, 0, []), (73, .invokevirtual 57, 74, 7, [3, 0, 0]), (76, .aload_n 0, 0, 0, []), (77, .invokevirtual 47, 75, 7, [1, 0, 0]), (80, .iinc 2 1, 0, 0, []), (83, .goto (-48), 1, 0, [])], [(86, .aload_n 0, 0, 0, []), (87, .iconst 0, 0, 0, []), (88, .putfield 50, 7, 7, [0]), (91, .aload_n 0, 0, 0, []), (92, .bipush 21, 0, 0, []), (94, .aload_n 0, 0, 0, []), (95, .getfield 40, 7, 5, [0]), (98, .invokevirtual 57, 74, 7, [3, 0, 0]), (101, .return_, 0, 0, [])]]
def zB_74 : mzB := [[(0, .aload_n 0, 0, 0, []), (1, .getfield 46, 7, 4, [0]), (4, .aload_n 0, 0, 0, []), (5, .getfield 9, 7, 0, [0]), (8, .arraylength, 0, 0, []), (9, .if_icmp .ge 46, 1, 0, []), (12, .aload_n 0, 0, 0, []), (13, .getfield 9, 7, 0, [0]), (16, .aload_n 0, 0, 0, []), (17, .getfield 46, 7, 4, [0]), (20, .iload_n 1, 0, 0, []), (21, .iastore, 0, 0, []), (22, .aload_n 0, 0, 0, []), (23, .getfield 15, 7, 1, [0]), (26, .aload_n 0, 0, 0, []), (27, .getfield 46, 7, 4, [0]), (30, .iload_n 2, 0, 0, []), (31, .iastore, 0, 0, []), (32, .aload_n 0, 0, 0, []), (33, .getfield 18, 7, 2, [0]), (36, .aload_n 0, 0, 0, []), (37, .getfield 46, 7, 4, [0]), (40, .aload_n 0, 0, 0, []), (41, .getfield 50, 7, 7, [0]), (44, .iastore, 0, 0, []), (45, .aload_n 0, 0, 0, []), (46, .dup, 0, 0, []), (47, .getfield 46, 7, 4, [0]), (50, .iconst 1, 0, 0, []), (51, .iadd, 0, 0, []), (52, .putfield 46, 7, 4, [0]), (55, .nop, 1, 0, [])], [(55, .return_, 0, 0, [])]]
def zB_75 : mzB := [[(0, .aload_n 0, 0, 0, []), (1, .getfield 43, 7, 6, [0]), (4, .aload_n 0, 0, 0, []), (5, .getfield 40, 7, 5, [0]), (8, .if_icmp .ge 50, 2, 0, []), (11, .aload_n 0, 0, 0, []), (12, .getfield 21, 7, 3, [0]), (15, .getfield 61, 6, 0, [0]), (18, .aload_n 0, 0, 0, []), (19, .getfield 43, 7, 6, [0]), (22, .baload, 0, 0, []), (23, .bipush 10, 0, 0, []), (25, .if_icmp .eq 20, 1, 0, []), (28, .aload_n 0, 0, 0, []), (29, .getfield 21, 7, 3, [0]), (32, .getfield 61, 6, 0, [0]), (35, .aload_n 0, 0, 0, []), (36, .getfield 43, 7, 6, [0]), (39, .baload, 0, 0, []), (40, .bipush 32, 0, 0, []), (42, .if_icmp .ne 16, 2, 0, []), (45, .nop, 1, 0, [])], [(45, .aload_n 0, 0, 0, []), (46, .dup, 0, 0, []), (47, .getfield 43, 7, 6, [0]), (50, .iconst 1, 0, 0, []), (51, .iadd, 0, 0, []), (52, .putfield 43, 7, 6, [0]), (55, .goto (-55), 0, 0, [])], [(58, .return_, 0, 0, [])]]
def zB_76 : mzB := [[(0, .aload_n 0, 0, 0, []), (1, .invokevirtual 65, 79, 7, [1, 0, 0]), (4, .ifCond .eq 8, 1, 0, []), (7, .aload_n 0, 0, 0, []), (8, .invokevirtual 69, 77, 7, [1, 0, 0]), (11, .ireturn, 0, 0, [])], [(12, .aload_n 0, 0, 0, []), (13, .invokevirtual 72, 80, 7, [1, 0, 0]), (16, .ifCond .eq 10, 2, 0, []), (19, .aload_n 0, 0, 0, []), (20, .invokevirtual 75, 78, 7, [1, 0, 0]), (23, .bipush 19, 0, 0, []), (25, .ireturn, 0, 0, [])], [(26, .aload_n 0, 0, 0, []), (27, .dup, 0, 0, []), (28, .getfield 43, 7, 6, [0]), (31, .iconst 1, 0, 0, []), (32, .iadd, 0, 0, []), (33, .putfield 43, 7, 6, [0]), (36, .aload_n 0, 0, 0, []), (37, .getfield 21, 7, 3, [0]), (40, .getfield 61, 6, 0, [0]), (43, .aload_n 0, 0, 0, []), (44, .getfield 43, 7, 6, [0]), (47, .iconst 1, 0, 0, []), (48, .isub, 0, 0, []), (49, .baload, 0, 0, []), (50, .bipush 59, 0, 0, []), (52, .if_icmp .ne 8, 3, 0, []), (55, .bipush 20, 0, 0, []), (57, .goto 5, 4, 0, [])], [(60, .bipush 22, 0, 0, []), (62, .nop, 4, 0, [])], [(62, .ireturn, 0, 0, [])]]
def zB_77 : mzB := [[(0, .aload_n 0, 0, 0, []), (1, .getfield 43, 7, 6, [0]), (4, .istore_n 1, 0, 0, []), (5, .nop, 1, 0, [])], [(5, .aload_n 0, 0, 0, []), (6, .getfield 43, 7, 6, [0]), (9, .aload_n 0, 0, 0, []), (10, .getfield 40, 7, 5, [0]), (13, .if_icmp .ge 51, 2, 0, []), (16, .aload_n 0, 0, 0, []), (17, .invokevirtual 65, 79, 7, [1, 0, 0]), (20, .ifCond .eq 44, 2, 0, []), (23, .aload_n 0, 0, 0, []), (24, .aload_n 0, 0, 0, []), (25, .getfield 50, 7, 7, [0]), (28, .iconst 5, 0, 0, []), (29, .ishl, 0, 0, []), (30, .aload_n 0, 0, 0, []), (31, .getfield 21, 7, 3, [0]), (34, .getfield 61, 6, 0, [0]), (37, .aload_n 0, 0, 0, []), (38, .getfield 43, 7, 6, [0]), (41, .baload, 0, 0, []), (42, .iadd, 0, 0, []), (43, .bipush 97, 0, 0, []), (45, .isub, 0, 0, []), (46, .iconst 1, 0, 0, []), (47, .iadd, 0, 0, []), (48, .putfield 50, 7, 7, [0]), (51, .aload_n 0, 0, 0, []), (52, .dup, 0, 0, []), (53, .getfield 43, 7, 6, [0]), (56, .iconst 1, 0, 0, []), (57, .iadd, 0, 0, []), (58, .putfield 43, 7, 6, [0]), (61, .goto (-56), 1, 0, [])], [(64, .aload_n 0, 0, 0, []), (65, .getfield 43, 7, 6, [0]), (68, .iload_n 1, 0, 0, []), (69, .isub, 0, 0, []), (70, .bipush 6, 0, 0, []), (72, .if_icmp .le 8, 3, 0, []), (75, .bipush 22, 0, 0, []), (77, .goto 7, 4, 0, [])], [(80, .aload_n 0, 0, 0, []), (81, .invokevirtual 78, 81, 7, [1, 0, 0]), (84, .nop, 4, 0, [])], [(84, .ireturn, 0, 0, [])]]
def zB_78 : mzB := [[(0, .aload_n 0, 0, 0, []), (1, .getfield 43, 7, 6, [0]), (4, .aload_n 0, 0, 0, []), (5, .getfield 40, 7, 5, [0]), (8, .if_icmp .ge 55, 1, 0, []), (11, .aload_n 0, 0, 0, []), (12, .invokevirtual 72, 80, 7, [1, 0, 0]), (15, .ifCond .eq 48, 1, 0, []), (18, .aload_n 0, 0, 0, []), (19, .aload_n 0, 0, 0, []), (20, .getfield 50, 7, 7, [0]), (23, .bipush 10, 0, 0, []), (25, .imul, 0, 0, []), (26, .aload_n 0, 0, 0, []), (27, .getfield 21, 7, 3, [0]), (30, .getfield 61, 6, 0, [0]), (33, .aload_n 0, 0, 0, []), (34, .getfield 43, 7, 6, [0]), (37, .baload, 0, 0, []), (38, .iadd, 0, 0, []), (39, .bipush 48, 0, 0, []), (41, .isub, 0, 0, []), (42, .ldc 81, 100000, 0, [0]), (44, .invokestatic 31, 0, 0, [2]), (47, .putfield 50, 7, 7, [0]), (50, .aload_n 0, 0, 0, []), (51, .dup, 0, 0, []), (52, .getfield 43, 7, 6, [0]), (55, .iconst 1, 0, 0, []), (56, .iadd, 0, 0, []), (57, .putfield 43, 7, 6, [0]), (60, .goto (-60), 0, 0, [])], [(63, .return_, 0, 0, [])]]
def zB_79 : mzB := [[(0, .aload_n 0, 0, 0, []), (1, .getfield 21, 7, 3, [0]), (4, .getfield 61, 6, 0, [0]), (7, .aload_n 0, 0, 0, []), (8, .getfield 43, 7, 6, [0]), (11, .baload, 0, 0, []), (12, .bipush 97, 0, 0, []), (14, .if_icmp .lt 24, 1, 0, []), (17, .aload_n 0, 0, 0, []), (18, .getfield 21, 7, 3, [0]), (21, .getfield 61, 6, 0, [0]), (24, .aload_n 0, 0, 0, []), (25, .getfield 43, 7, 6, [0]), (28, .baload, 0, 0, []), (29, .bipush 122, 0, 0, []), (31, .if_icmp .gt 7, 1, 0, []), (34, .iconst 1, 0, 0, []), (35, .goto 4, 2, 0, [])], [(38, .iconst 0, 0, 0, []), (39, .nop, 2, 0, [])], [(39, .ireturn, 1, 0, [])]]
def zB_80 : mzB := [[(0, .aload_n 0, 0, 0, []), (1, .getfield 21, 7, 3, [0]), (4, .getfield 61, 6, 0, [0]), (7, .aload_n 0, 0, 0, []), (8, .getfield 43, 7, 6, [0]), (11, .baload, 0, 0, []), (12, .bipush 48, 0, 0, []), (14, .if_icmp .lt 24, 1, 0, []), (17, .aload_n 0, 0, 0, []), (18, .getfield 21, 7, 3, [0]), (21, .getfield 61, 6, 0, [0]), (24, .aload_n 0, 0, 0, []), (25, .getfield 43, 7, 6, [0]), (28, .baload, 0, 0, []), (29, .bipush 57, 0, 0, []), (31, .if_icmp .gt 7, 1, 0, []), (34, .iconst 1, 0, 0, []), (35, .goto 4, 2, 0, [])], [(38, .iconst 0, 0, 0, []), (39, .nop, 2, 0, [])], [(39, .ireturn, 1, 0, [])]]
def zB_81 : mzB := [[(0, .iconst 0, 0, 0, []), (1, .istore_n 1, 0, 0, []), (2, .iconst 0, 0, 0, []), (3, .istore_n 2, 0, 0, []), (4, .iconst 0, 0, 0, []), (5, .istore_n 3, 0, 0, []), (6, .nop, 1, 0, [])], [(6, .iload_n 3, 0, 0, []), (7, .ldc 82, 0, 0, []), (9, .invokevirtual 84, 0, 0, []), (12, .if_icmp .ge 54, 5, 0, []), (15, .ldc 82, 0, 0, []), (17, .iload_n 3, 0, 0, []), (18, .invokevirtual 89, 0, 0, []), (21, .istore 4, 0, 0, []), (23, .iload 4, 0, 0, []), (25, .bipush 32, 0, 0, []), (27, .if_icmp .eq 18, 2, 0, []), (30, .iload_n 2, 0, 0, []), (31, .iconst 5, 0, 0, []), (32, .ishl, 0, 0, []), (33, .iload 4, 0, 0, []), (35, .iadd, 0, 0, []), (36, .bipush 97, 0, 0, []), (38, .isub, 0, 0, []), (39, .iconst 1, 0, 0, []), (40, .iadd, 0, 0, []), (41, .istore_n 2, 0, 0, []), (42, .goto 18, 4, 0, [])], [(45, .iload_n 2, 0, 0, []), (46, .aload_n 0, 0, 0, []), (47, .getfield 50, 7, 7, [0]), (50, .if_icmp .ne 5, 3, 0, []), (53, .iload_n 1, 0, 0, []), (54, .ireturn, 0, 0, [])], [(55, .iinc 1 1, 0, 0, []), (58, .iconst 0, 0, 0, []), (59, .istore_n 2, 0, 0, []), (60, .nop, 4, 0, [])], [(60, .iinc 3 1, 0, 0, []), (63, .goto (-57), 1, 0, [])], [(66, .bipush 18, 0, 0, []), (68, .ireturn, 0, 0, [])]]
def zB_82 : mzB := [[(0, .aload_n 0, 0, 0, []), (1, .invokespecial 3, 0, 0, [0]), (4, .aload_n 0, 0, 0, []), (5, .bipush 40, 0, 0, []), (7, .newarray .int, 0, 0, [0]), (9, .putfield 9, 8, 0, [2]), (12, .aload_n 0, 0, 0, []), (13, .bipush 40, 0, 0, []), (15, .newarray .int, 0, 0, [0]), (17, .putfield 15, 8, 1, [2]), (20, .aload_n 0, 0, 0, []), (21, .bipush 40, 0, 0, []), (23, .newarray .int, 0, 0, [0]), (25, .putfield 18, 8, 2, [2]), (28, .aload_n 0, 0, 0, []), (29, .bipush 40, 0, 0, []), (31, .newarray .int, 0, 0, [0]), (33, .putfield 21, 8, 3, [2]), (36, .aload_n 0, 0, 0, []), (37, .bipush 40, 0, 0, []), (39, .newarray .int, 0, 0, [0]), (41, .putfield 24, 8, 4, [2]), (44, .aload_n 0, 0, 0, []), (45, .bipush 40, 0, 0, []), (47, .newarray .int, 0, 0, [0]), (49, .putfield 27, 8, 5, [2]), (52, .return_, 0, 0, [])]]
def zB_83 : mzB := [[(0, .aload_n 0, 0, 0, []), (1, .getfield 9, 8, 0, [0]), (4, .iconst (-1), 0, 0, []), (5, .invokestatic 30, 254, 12, [2, 0, 0]), (8, .aload_n 0, 0, 0, []), (9, .getfield 15, 8, 1, [0]), (12, .bipush (-5), 0, 0, []), (14, .invokestatic 30, 254, 12, [2, 0, 0]), (17, .aload_n 0, 0, 0, []), (18, .getfield 18, 8, 2, [0]), (21, .iconst (-1), 0, 0, []), (22, .invokestatic 30, 254, 12, [2, 0, 0]), (25, .aload_n 0, 0, 0, []), (26, .getfield 21, 8, 3, [0]), (29, .iconst 0, 0, 0, []), (30, .invokestatic 30, 254, 12, [2, 0, 0]), (33, .aload_n 0, 0, 0, []), (34, .getfield 24, 8, 4, [0]), (37, .bipush (-5), 0, 0, []), (39, .invokestatic 30, 254, 12, [2, 0, 0]), (42, .aload_n 0, 0, 0, []), (43, .getfield 27, 8, 5, [0]), (46, .iconst 0, 0, 0, []), (47, .invokestatic 30, 254, 12, [2, 0, 0]), (50, .return_, 0, 0, [])]]
def zB_84 : mzB := [[(0, .aload_n 1, 0, 0, []), (1, .getfield 9, 8, 0, [0]), (4, .iconst 0, 0, 0, []), (5, .aload_n 0, 0, 0, []), (6, .getfield 9, 8, 0, [0]), (9, .iconst 0, 0, 0, []), (10, .bipush 40, 0, 0, []), (12, .invokestatic 36, 0, 0, [0]), (15, .aload_n 1, 0, 0, []), (16, .getfield 15, 8, 1, [0]), (19, .iconst 0, 0, 0, []), (20, .aload_n 0, 0, 0, []), (21, .getfield 15, 8, 1, [0]), (24, .iconst 0, 0, 0, []), (25, .bipush 40, 0, 0, []), (27, .invokestatic 36, 0, 0, [0]), (30, .aload_n 1, 0, 0, []), (31, .getfield 18, 8, 2, [0]), (34, .iconst 0, 0, 0, []), (35, .aload_n 0, 0, 0, []), (36, .getfield 18, 8, 2, [0]), (39, .iconst 0, 0, 0, []), (40, .bipush 40, 0, 0, []), (42, .invokestatic 36, 0, 0, [0]), (45, .aload_n 1, 0, 0, []), (46, .getfield 21, 8, 3, [0]), (49, .iconst 0, 0, 0, []), (50, .aload_n 0, 0, 0, []), (51, .getfield 21, 8, 3, [0]), (54, .iconst 0, 0, 0, []), (55, .bipush 40, 0, 0, []), (57, .invokestatic 36, 0, 0, [0]), (60, .aload_n 1, 0, 0, []), (61, .getfield 24, 8, 4, [0]), (64, .iconst 0, 0, 0, []), (65, .aload_n 0, 0, 0, []), (66, .getfield 24, 8, 4, [0]), (69, .iconst 0, 0, 0, []), (70, .bipush 40, 0, 0, []), (72, .invokestatic 36, 0, 0, [0]), (75, .aload_n 1, 0, 0, []), (76, .getfield 27, 8, 5, [0]), (79, .iconst 0, 0, 0, []), (80, .aload_n 0, 0, 0, []), (81, .getfield 27, 8, 5, [0]), (84, .iconst 0, 0, 0, []), (85, .bipush 40, 0, 0, []), (87, .invokestatic 36, 0, 0, [0]), (90, .return_, 0, 0, [])]]
def zB_85 : mzB := [[(0, .aload_n 0, 0, 0, []), (1, .getfield 27, 8, 5, [0]), (4, .iload_n 1, 0, 0, []), (5, .iaload, 0, 0, []), (6, .iload_n 2, 0, 0, []), (7, .iand, 0, 0, []), (8, .ifCond .eq 7, 1, 0, []), (11, .iconst 1, 0, 0, []), (12, .goto 4, 2, 0, [])], [(15, .iconst 0, 0, 0, []), (16, .nop, 2, 0, [])], [(16, .ireturn, 1, 0, [])]]
def zB_86 : mzB := [[(0, .aload_n 0, 0, 0, []), (1, .getfield 27, 8, 5, [0]), (4, .iload_n 1, 0, 0, []), (5, .dup2, 0, 0, []), (6, .iaload, 0, 0, []), (7, .iload_n 2, 0, 0, []), (8, .ior, 0, 0, []), (9, .iastore, 0, 0, []), (10, .return_, 0, 0, [])]]
def zB_87 : mzB := [[(0, .aload_n 0, 0, 0, []), (1, .getfield 27, 8, 5, [0]), (4, .iload_n 1, 0, 0, []), (5, .dup2, 0, 0, []), (6, .iaload, 0, 0, []), (7, .iload_n 2, 0, 0, []), (8, .iconst (-1), 0, 0, []), (9, .ixor, 0, 0, []), (10, .iand, 0, 0, []), (11, .iastore, 0, 0, []), (12, .return_, 0, 0, [])]]
def zB_88 : mzB := [[(0, .aload_n 0, 0, 0, []), (1, .getfield 9, 8, 0, [0]), (4, .iload_n 1, 0, 0, []), (5, .iaload, 0, 0, []), (6, .iconst (-1), 0, 0, []), (7, .if_icmp .eq 7, 1, 0, []), (10, .iconst 1, 0, 0, []), (11, .goto 4, 2, 0, [])], [(14, .iconst 0, 0, 0, []), (15, .nop, 2, 0, [])], [(15, .ireturn, 1, 0, [])]]
def zB_89 : mzB := [[(0, .iload_n 1, 0, 0, []), (1, .istore_n 2, 0, 0, []), (2, .iconst 0, 0, 0, []), (3, .istore_n 3, 0, 0, []), (4, .nop, 1, 0, [])], [(4, .iload_n 3, 0, 0, []), (5, .iconst 2, 0, 0, []), (6, .if_icmp .ge 25, 2, 0, []), (9, .aload_n 0, 0, 0, []), (10, .getfield 15, 8, 1, [0]), (13, .iload_n 2, 0, 0, []), (14, .iaload, 0, 0, []), (15, .ifCond .lt 16, 2, 0, []), (18, .aload_n 0, 0, 0, []), (19, .getfield 15, 8, 1, [0]), (22, .iload_n 2, 0, 0, []), (23, .iaload, 0, 0, []), (24, .istore_n 2, 0, 0, []), (25, .iinc 3 1, 0, 0, []), (28, .goto (-24), 1, 0, [])], [(31, .iload_n 2, 0, 0, []), (32, .ireturn, 0, 0, [])]]
def zB_90 : mzB := [[(0, .aload_n 0, 0, 0, []), (1, .getfield 15, 8, 1, [0]), (4, .iload_n 1, 0, 0, []), (5, .iaload, 0, 0, []), (6, .istore_n 3, 0, 0, []), (7, .iconst 0, 0, 0, []), (8, .istore 4, 0, 0, []), (10, .nop, 1, 0, [])], [(10, .iload 4, 0, 0, []), (12, .iconst 2, 0, 0, []), (13, .if_icmp .ge 27, 3, 0, []), (16, .iload_n 3, 0, 0, []), (17, .ifCond .lt 23, 3, 0, []), (20, .iload_n 3, 0, 0, []), (21, .iload_n 2, 0, 0, []), (22, .if_icmp .ne 5, 2, 0, []), (25, .iconst 1, 0, 0, []), (26, .ireturn, 1, 0, [])], [(27, .aload_n 0, 0, 0, []), (28, .getfield 15, 8, 1, [0]), (31, .iload_n 3, 0, 0, []), (32, .iaload, 0, 0, []), (33, .istore_n 3, 0, 0, []), (34, .iinc 4 1, 0, 0, []), (37, .goto (-27), 1, 0, [])], [(40, .iconst 0, 0, 0, []), (41, .ireturn, 1, 0, [])]]
def zB_91 : mzB := [[(0, .aload_n 0, 0, 0, []), (1, .iload_n 1, 0, 0, []), (2, .invokevirtual 42, 88, 8, [2, 0, 0]), (5, .ifCond .ne 6, 1, 0, []), (8, .bipush (-2), 0, 0, []), (10, .ireturn, 0, 0, [])], [(11, .aload_n 0, 0, 0, []), (12, .iload_n 1, 0, 0, []), (13, .iconst 4, 0, 0, []), (14, .invokevirtual 46, 85, 8, [3, 0, 0]), (17, .ifCond .eq 6, 2, 0, []), (20, .bipush (-4), 0, 0, []), (22, .ireturn, 0, 0, [])], [(23, .aload_n 0, 0, 0, []), (24, .iload_n 1, 0, 0, []), (25, .invokevirtual 50, 89, 8, [2, 0, 0]), (28, .istore_n 2, 0, 0, []), (29, .aload_n 0, 0, 0, []), (30, .iload_n 2, 0, 0, []), (31, .iconst 2, 0, 0, []), (32, .invokevirtual 46, 85, 8, [3, 0, 0]), (35, .ifCond .eq 8, 3, 0, []), (38, .bipush (-3), 0, 0, []), (40, .goto 9, 4, 0, [])], [(43, .aload_n 0, 0, 0, []), (44, .getfield 18, 8, 2, [0]), (47, .iload_n 2, 0, 0, []), (48, .iaload, 0, 0, []), (49, .nop, 4, 0, [])], [(49, .ireturn, 0, 0, [])]]
def zB_92 : mzB := [[(0, .aload_n 0, 0, 0, []), (1, .getfield 21, 8, 3, [0]), (4, .aload_n 0, 0, 0, []), (5, .iload_n 1, 0, 0, []), (6, .invokevirtual 50, 89, 8, [2, 0, 0]), (9, .iaload, 0, 0, []), (10, .ireturn, 0, 0, [])]]
def zB_93 : mzB := [[(0, .aload_n 0, 0, 0, []), (1, .aload_n 1, 0, 0, []), (2, .iload_n 2, 0, 0, []), (3, .iload_n 3, 0, 0, []), (4, .invokevirtual 54, 94, 8, [4, 0, 0]), (7, .istore 4, 0, 0, []), (9, .aload_n 1, 0, 0, []), (10, .getfield 58, 1, 4, [0]), (13, .iload_n 2, 0, 0, []), (14, .iaload, 0, 0, []), (15, .istore 5, 0, 0, []), (17, .aload_n 1, 0, 0, []), (18, .getfield 63, 1, 3, [0]), (21, .iload_n 2, 0, 0, []), (22, .iaload, 0, 0, []), (23, .istore 6, 0, 0, []), (25, .iload 4, 0, 0, []), (27, .ifCond .ne 13, 1, 0, []), (30, .aload_n 0, 0, 0, []), (31, .aload_n 1, 0, 0, []), (32, .iload_n 2, 0, 0, []), (33, .iload_n 3, 0, 0, []), (34, .invokevirtual 66, 98, 8, [4, 0, 0]), (37, .goto 58, 4, 0, [])], [(40, .iload 6, 0, 0, []), (42, .ifCond .ne 24, 2, 0, []), (45, .aload_n 0, 0, 0, []), (46, .iload 5, 0, 0, []), (48, .iconst 4, 0, 0, []), (49, .invokevirtual 46, 85, 8, [3, 0, 0]), (52, .ifCond .ne 14, 2, 0, []), (55, .aload_n 0, 0, 0, []), (56, .iload 5, 0, 0, []), (58, .bipush 8, 0, 0, []), (60, .invokevirtual 70, 86, 8, [3, 0, 0]), (63, .goto 32, 4, 0, [])], [(66, .iload 6, 0, 0, []), (68, .bipush 6, 0, 0, []), (70, .if_icmp .ne 25, 4, 0, []), (73, .iload 4, 0, 0, []), (75, .bipush 6, 0, 0, []), (77, .if_icmp .eq 10, 3, 0, []), (80, .iload 4, 0, 0, []), (82, .bipush 10, 0, 0, []), (84, .if_icmp .ne 11, 4, 0, []), (87, .nop, 3, 0, [])], [(87, .aload_n 0, 0, 0, []), (88, .iload 5, 0, 0, []), (90, .bipush 8, 0, 0, []), (92, .invokevirtual 70, 86, 8, [3, 0, 0]), (95, .nop, 4, 0, [])], [(95, .iload 4, 0, 0, []), (97, .ireturn, 0, 0, [])]]
def zB_94 : mzB := [[(0, .aload_n 1, 0, 0, []), (1, .getfield 63, 1, 3, [0]), (4, .iload_n 2, 0, 0, []), (5, .iaload, 0, 0, []), (6, .istore 4, 0, 0, []), (8, .aload_n 1, 0, 0, []), (9, .getfield 58, 1, 4, [0]), (12, .iload_n 2, 0, 0, []), (13, .iaload, 0, 0, []), (14, .istore 5, 0, 0, []), (16, .iload 4, 0, 0, []), (18, .ifCond .ne 18, 3, 0, []), (21, .aload_n 0, 0, 0, []), (22, .iload 5, 0, 0, []), (24, .invokevirtual 42, 88, 8, [2, 0, 0]), (27, .ifCond .eq 7, 1, 0, []), (30, .iconst 1, 0, 0, []), (31, .goto 4, 2, 0, [])], [(34, .iconst 0, 0, 0, []), (35, .nop, 2, 0, [])], [(35, .ireturn, 0, 0, [])], [(36, .iload 4, 0, 0, []), (38, .iconst 1, 0, 0, []), (39, .if_icmp .ne 12, 4, 0, []), (42, .aload_n 1, 0, 0, []), (43, .getfield 74, 1, 5, [0]), (46, .iload_n 2, 0, 0, []), (47, .iaload, 0, 0, []), (48, .goto 5, 5, 0, [])], [(51, .iload 5, 0, 0, []), (53, .nop, 5, 0, [])], [(53, .istore 6, 0, 0, []), (55, .aload_n 0, 0, 0, []), (56, .iload 5, 0, 0, []), (58, .invokevirtual 42, 88, 8, [2, 0, 0]), (61, .ifCond .eq 12, 6, 0, []), (64, .aload_n 0, 0, 0, []), (65, .iload 6, 0, 0, []), (67, .invokevirtual 42, 88, 8, [2, 0, 0]), (70, .ifCond .ne 5, 7, 0, []), (73, .nop, 6, 0, [])], [(73, .iconst 2, 0, 0, []), (74, .ireturn, 0, 0, [])], [(75, .aload_n 0, 0, 0, []), (76, .iload 5, 0, 0, []), (78, .iconst 4, 0, 0, []), (79, .invokevirtual 46, 85, 8, [3, 0, 0]), (82, .ifCond .ne 13, 8, 0, []), (85, .aload_n 0, 0, 0, []), (86, .iload 6, 0, 0, []), (88, .iconst 4, 0, 0, []), (89, .invokevirtual 46, 85, 8, [3, 0, 0]), (92, .ifCond .eq 5, 9, 0, []), (95, .nop, 8, 0, [])], [(95, .iconst 3, 0, 0, []), (96, .ireturn, 0, 0, [])], [(97, .aload_n 0, 0, 0, []), (98, .iload 5, 0, 0, []), (100, .invokevirtual 50, 89, 8, [2, 0, 0]), (103, .istore 7, 0, 0, []), (105, .aload_n 0, 0, 0, []), (106, .iload 7, 0, 0, []), (108, .iconst 2, 0, 0, []), (109, .invokevirtual 46, 85, 8, [3, 0, 0]), (112, .istore 8, 0, 0, []), (114, .iload 4, 0, 0, []), (116, .tableswitch 343 1 10 #[56, 89, 115, 152, 179, 228, 262, 303, 343, 325], 47, 0, [10, 13, 17, 22, 26, 31, 35, 40, 47, 44])], [(172, .aload_n 0, 0, 0, []), (173, .aload_n 1, 0, 0, []), (174, .iload 5, 0, 0, []), (176, .iload 6, 0, 0, []), (178, .invokevirtual 77, 95, 8, [4, 0, 0]), (181, .istore 9, 0, 0, []), (183, .iload 9, 0, 0, []), (185, .ifCond .ne 17, 11, 0, []), (188, .aload_n 0, 0, 0, []), (189, .iload 5, 0, 0, []), (191, .invokevirtual 80, 97, 8, [2, 0, 0]), (194, .ifCond .eq 8, 11, 0, []), (197, .bipush 11, 0, 0, []), (199, .goto 5, 12, 0, [])], [(202, .iload 9, 0, 0, []), (204, .nop, 12, 0, [])], [(204, .ireturn, 0, 0, [])], [(205, .aload_n 0, 0, 0, []), (206, .getfield 15, 8, 1, [0]), (209, .iload 5, 0, 0, []), (211, .iaload, 0, 0, []), (212, .ifCond .ge 7, 14, 0, []), (215, .iconst 5, 0, 0, []), (216, .goto 14, 16, 0, [])], [(219, .iload 8, 0, 0, []), (221, .ifCond .eq 8, 15, 0, []), (224, .bipush 6, 0, 0, []), (226, .goto 4, 16, 0, [])], [(229, .iconst 0, 0, 0, []), (230, .nop, 16, 0, [])], [(230, .ireturn, 0, 0, [])], [(231, .iload 8, 0, 0, []), (233, .ifCond .eq 8, 18, 0, []), (236, .bipush 6, 0, 0, []), (238, .goto 29, 21, 0, [])], [(241, .aload_n 0, 0, 0, []), (242, .iload 5, 0, 0, []), (244, .iconst 1, 0, 0, []), (245, .invokevirtual 46, 85, 8, [3, 0, 0]), (248, .ifCond .ne 13, 19, 0, []), (251, .aload_n 0, 0, 0, []), (252, .getfield 9, 8, 0, [0]), (255, .iload 5, 0, 0, []), (257, .iaload, 0, 0, []), (258, .ifCond .ne 8, 20, 0, []), (261, .nop, 19, 0, [])], [(261, .bipush 8, 0, 0, []), (263, .goto 4, 21, 0, [])], [(266, .iconst 0, 0, 0, []), (267, .nop, 21, 0, [])], [(267, .ireturn, 0, 0, [])], [(268, .iload 8, 0, 0, []), (270, .ifCond .eq 8, 23, 0, []), (273, .bipush 6, 0, 0, []), (275, .goto 19, 25, 0, [])], [(278, .aload_n 0, 0, 0, []), (279, .iload 5, 0, 0, []), (281, .iconst 1, 0, 0, []), (282, .invokevirtual 46, 85, 8, [3, 0, 0]), (285, .ifCond .eq 7, 24, 0, []), (288, .iconst 0, 0, 0, []), (289, .goto 5, 25, 0, [])], [(292, .bipush 8, 0, 0, []), (294, .nop, 25, 0, [])], [(294, .ireturn, 0, 0, [])], [(295, .iload 8, 0, 0, []), (297, .ifCond .eq 8, 27, 0, []), (300, .bipush 6, 0, 0, []), (302, .goto 41, 30, 0, [])], [(305, .aload_n 0, 0, 0, []), (306, .getfield 15, 8, 1, [0]), (309, .iload 5, 0, 0, []), (311, .iaload, 0, 0, []), (312, .ifCond .lt 8, 28, 0, []), (315, .bipush 9, 0, 0, []), (317, .goto 26, 30, 0, [])], [(320, .aload_n 0, 0, 0, []), (321, .aload_n 1, 0, 0, []), (322, .iload 7, 0, 0, []), (324, .aload_n 1, 0, 0, []), (325, .getfield 74, 1, 5, [0]), (328, .iload_n 2, 0, 0, []), (329, .iaload, 0, 0, []), (330, .iload_n 3, 0, 0, []), (331, .invokevirtual 83, 96, 8, [5, 0, 0]), (334, .ifCond .eq 8, 29, 0, []), (337, .bipush 10, 0, 0, []), (339, .goto 4, 30, 0, [])], [(342, .iconst 0, 0, 0, []), (343, .nop, 30, 0, [])], [(343, .ireturn, 0, 0, [])], [(344, .iload 8, 0, 0, []), (346, .ifCond .eq 8, 32, 0, []), (349, .bipush 6, 0, 0, []), (351, .goto 26, 34, 0, [])], [(354, .aload_n 0, 0, 0, []), (355, .aload_n 1, 0, 0, []), (356, .iload 7, 0, 0, []), (358, .aload_n 1, 0, 0, []), (359, .getfield 74, 1, 5, [0]), (362, .iload_n 2, 0, 0, []), (363, .iaload, 0, 0, []), (364, .iload_n 3, 0, 0, []), (365, .invokevirtual 83, 96, 8, [5, 0, 0]), (368, .ifCond .eq 8, 33, 0, []), (371, .bipush 10, 0, 0, []), (373, .goto 4, 34, 0, [])], [(376, .iconst 0, 0, 0, []), (377, .nop, 34, 0, [])], [(377, .ireturn, 0, 0, [])], [(378, .iload 8, 0, 0, []), (380, .ifCond .eq 8, 36, 0, []), (383, .bipush 6, 0, 0, []), (385, .goto 33, 39, 0, [])], [(388, .aload_n 0, 0, 0, []), (389, .getfield 15, 8, 1, [0]), (392, .iload 5, 0, 0, []), (394, .iaload, 0, 0, []), (395, .ifCond .lt 8, 37, 0, []), (398, .bipush 9, 0, 0, []), (400, .goto 18, 39, 0, [])], [(403, .aload_n 0, 0, 0, []), (404, .iload 5, 0, 0, []), (406, .invokevirtual 80, 97, 8, [2, 0, 0]), (409, .ifCond .eq 8, 38, 0, []), (412, .bipush 11, 0, 0, []), (414, .goto 4, 39, 0, [])], [(417, .iconst 0, 0, 0, []), (418, .nop, 39, 0, [])], [(418, .ireturn, 0, 0, [])], [(419, .aload_n 0, 0, 0, []), (420, .getfield 15, 8, 1, [0]), (423, .iload 5, 0, 0, []), (425, .iaload, 0, 0, []), (426, .ifCond .ge 8, 41, 0, []), (429, .iload 8, 0, 0, []), (431, .ifCond .ne 8, 42, 0, []), (434, .nop, 41, 0, [])], [(434, .bipush 6, 0, 0, []), (436, .goto 4, 43, 0, [])], [(439, .iconst 0, 0, 0, []), (440, .nop, 43, 0, [])], [(440, .ireturn, 0, 0, [])], [(441, .aload_n 0, 0, 0, []), (442, .iload 5, 0, 0, []), (444, .bipush 8, 0, 0, []), (446, .invokevirtual 46, 85, 8, [3, 0, 0]), (449, .ifCond .eq 7, 45, 0, []), (452, .iconst 0, 0, 0, []), (453, .goto 5, 46, 0, [])], [(456, .bipush 12, 0, 0, []), (458, .nop, 46, 0, [])], [(458, .ireturn, 0, 0, [])], [(459, .iconst 0, 0, 0, []), (460, .ireturn, 0, 0, [])]]
def zB_95 : mzB := [[(0, .aload_n 0, 0, 0, []), (1, .iload_n 2, 0, 0, []), (2, .invokevirtual 50, 89, 8, [2, 0, 0]), (5, .istore 4, 0, 0, []), (7, .aload_n 0, 0, 0, []), (8, .iload_n 3, 0, 0, []), (9, .invokevirtual 50, 89, 8, [2, 0, 0]), (12, .istore 5, 0, 0, []), (14, .aload_n 0, 0, 0, []), (15, .getfield 9, 8, 0, [0]), (18, .iload_n 3, 0, 0, []), (19, .iaload, 0, 0, []), (20, .aload_n 0, 0, 0, []), (21, .getfield 9, 8, 0, [0]), (24, .iload_n 2, 0, 0, []), (25, .iaload, 0, 0, []), (26, .iconst 1, 0, 0, []), (27, .iadd, 0, 0, []), (28, .if_icmp .eq 5, 1, 0, []), (31, .iconst 4, 0, 0, []), (32, .ireturn, 0, 0, [])], [(33, .aload_n 0, 0, 0, []), (34, .getfield 15, 8, 1, [0]), (37, .iload_n 2, 0, 0, []), (38, .iaload, 0, 0, []), (39, .ifCond .lt 5, 2, 0, []), (42, .iconst 5, 0, 0, []), (43, .ireturn, 0, 0, [])], [(44, .aload_n 0, 0, 0, []), (45, .iload 4, 0, 0, []), (47, .iconst 2, 0, 0, []), (48, .invokevirtual 46, 85, 8, [3, 0, 0]), (51, .ifCond .ne 13, 3, 0, []), (54, .aload_n 0, 0, 0, []), (55, .iload 5, 0, 0, []), (57, .iconst 2, 0, 0, []), (58, .invokevirtual 46, 85, 8, [3, 0, 0]), (61, .ifCond .eq 6, 4, 0, []), (64, .nop, 3, 0, [])], [(64, .bipush 6, 0, 0, []), (66, .ireturn, 0, 0, [])], [(67, .aload_n 0, 0, 0, []), (68, .getfield 9, 8, 0, [0]), (71, .iload_n 3, 0, 0, []), (72, .iaload, 0, 0, []), (73, .iconst 1, 0, 0, []), (74, .if_icmp .ne 10, 5, 0, []), (77, .aload_n 1, 0, 0, []), (78, .getfield 87, 1, 10, [0]), (81, .goto 7, 6, 0, [])], [(84, .aload_n 1, 0, 0, []), (85, .getfield 91, 1, 11, [0]), (88, .nop, 6, 0, [])], [(88, .istore 6, 0, 0, []), (90, .aload_n 0, 0, 0, []), (91, .getfield 18, 8, 2, [0]), (94, .iload 4, 0, 0, []), (96, .iaload, 0, 0, []), (97, .aload_n 0, 0, 0, []), (98, .getfield 18, 8, 2, [0]), (101, .iload 5, 0, 0, []), (103, .iaload, 0, 0, []), (104, .if_icmp .ne 13, 7, 0, []), (107, .aload_n 0, 0, 0, []), (108, .iload_n 3, 0, 0, []), (109, .invokevirtual 94, 103, 8, [2, 0, 0]), (112, .iload 6, 0, 0, []), (114, .if_icmp .lt 8, 8, 0, []), (117, .nop, 7, 0, [])], [(117, .bipush 7, 0, 0, []), (119, .goto 4, 9, 0, [])], [(122, .iconst 0, 0, 0, []), (123, .nop, 9, 0, [])], [(123, .ireturn, 0, 0, [])]]
def zB_96 : mzB := [[(0, .aload_n 0, 0, 0, []), (1, .getfield 18, 8, 2, [0]), (4, .iload_n 2, 0, 0, []), (5, .iaload, 0, 0, []), (6, .iload_n 3, 0, 0, []), (7, .if_icmp .ne 5, 1, 0, []), (10, .iconst 0, 0, 0, []), (11, .ireturn, 1, 0, [])], [(12, .aload_n 1, 0, 0, []), (13, .aload_n 0, 0, 0, []), (14, .getfield 18, 8, 2, [0]), (17, .iload_n 2, 0, 0, []), (18, .iaload, 0, 0, []), (19, .iload_n 3, 0, 0, []), (20, .invokevirtual 97, 17, 1, [3, 0, 0]), (23, .istore 5, 0, 0, []), (25, .iload 5, 0, 0, []), (27, .bipush (-2), 0, 0, []), (29, .if_icmp .eq 17, 2, 0, []), (32, .iload 4, 0, 0, []), (34, .aload_n 0, 0, 0, []), (35, .getfield 21, 8, 3, [0]), (38, .iload_n 2, 0, 0, []), (39, .iaload, 0, 0, []), (40, .isub, 0, 0, []), (41, .iload 5, 0, 0, []), (43, .if_icmp .ge 7, 3, 0, []), (46, .nop, 2, 0, [])], [(46, .iconst 1, 0, 0, []), (47, .goto 4, 4, 0, [])], [(50, .iconst 0, 0, 0, []), (51, .nop, 4, 0, [])], [(51, .ireturn, 1, 0, [])]]
def zB_97 : mzB := [[(0, .iconst 0, 0, 0, []), (1, .istore_n 2, 0, 0, []), (2, .nop, 1, 0, [])], [(2, .iload_n 2, 0, 0, []), (3, .bipush 40, 0, 0, []), (5, .if_icmp .ge 35, 4, 0, []), (8, .aload_n 0, 0, 0, []), (9, .iload_n 2, 0, 0, []), (10, .bipush 8, 0, 0, []), (12, .invokevirtual 46, 85, 8, [3, 0, 0]), (15, .ifCond .eq 19, 3, 0, []), (18, .iload_n 2, 0, 0, []), (19, .iload_n 1, 0, 0, []), (20, .if_icmp .eq 12, 2, 0, []), (23, .aload_n 0, 0, 0, []), (24, .iload_n 2, 0, 0, []), (25, .iload_n 1, 0, 0, []), (26, .invokevirtual 101, 90, 8, [3, 0, 0]), (29, .ifCond .eq 5, 3, 0, []), (32, .nop, 2, 0, [])], [(32, .iconst 1, 0, 0, []), (33, .ireturn, 1, 0, [])], [(34, .iinc 2 1, 0, 0, []), (37, .goto (-35), 1, 0, [])], [(40, .iconst 0, 0, 0, []), (41, .ireturn, 1, 0, [])]]
def zB_98 : mzB := [[(0, .aload_n 1, 0, 0, []), (1, .getfield 58, 1, 4, [0]), (4, .iload_n 2, 0, 0, []), (5, .iaload, 0, 0, []), (6, .istore 4, 0, 0, []), (8, .aload_n 1, 0, 0, []), (9, .getfield 74, 1, 5, [0]), (12, .iload_n 2, 0, 0, []), (13, .iaload, 0, 0, []), (14, .istore 5, 0, 0, []), (16, .aload_n 0, 0, 0, []), (17, .iload 4, 0, 0, []), (19, .invokevirtual 50, 89, 8, [2, 0, 0]), (22, .istore 6, 0, 0, []), (24, .aload_n 1, 0, 0, []), (25, .getfield 63, 1, 3, [0]), (28, .iload_n 2, 0, 0, []), (29, .iaload, 0, 0, []), (30, .tableswitch 231 0 9 #[54, 79, 91, 114, 124, 134, 146, 187, 197, 216], 13, 0, [1, 2, 3, 4, 5, 6, 7, 10, 11, 12])], [(84, .aload_n 0, 0, 0, []), (85, .getfield 9, 8, 0, [0]), (88, .iload 4, 0, 0, []), (90, .aload_n 1, 0, 0, []), (91, .getfield 104, 1, 6, [0]), (94, .iload_n 2, 0, 0, []), (95, .iaload, 0, 0, []), (96, .iastore, 0, 0, []), (97, .aload_n 0, 0, 0, []), (98, .iload 4, 0, 0, []), (100, .iload 5, 0, 0, []), (102, .iload_n 3, 0, 0, []), (103, .invokevirtual 105, 99, 8, [4, 0, 0]), (106, .goto 163, 14, 0, [])], [(109, .aload_n 0, 0, 0, []), (110, .getfield 15, 8, 1, [0]), (113, .iload 4, 0, 0, []), (115, .iload 5, 0, 0, []), (117, .iastore, 0, 0, []), (118, .goto 151, 14, 0, [])], [(121, .aload_n 0, 0, 0, []), (122, .iload 4, 0, 0, []), (124, .invokevirtual 109, 100, 8, [2, 0, 0]), (127, .aload_n 0, 0, 0, []), (128, .iload 4, 0, 0, []), (130, .aload_n 0, 0, 0, []), (131, .getfield 18, 8, 2, [0]), (134, .iload 6, 0, 0, []), (136, .iaload, 0, 0, []), (137, .iload_n 3, 0, 0, []), (138, .invokevirtual 105, 99, 8, [4, 0, 0]), (141, .goto 128, 14, 0, [])], [(144, .aload_n 0, 0, 0, []), (145, .iload 4, 0, 0, []), (147, .iconst 1, 0, 0, []), (148, .invokevirtual 70, 86, 8, [3, 0, 0]), (151, .goto 118, 14, 0, [])], [(154, .aload_n 0, 0, 0, []), (155, .iload 4, 0, 0, []), (157, .iconst 1, 0, 0, []), (158, .invokevirtual 113, 87, 8, [3, 0, 0]), (161, .goto 108, 14, 0, [])], [(164, .aload_n 0, 0, 0, []), (165, .iload 4, 0, 0, []), (167, .iload 5, 0, 0, []), (169, .iload_n 3, 0, 0, []), (170, .invokevirtual 105, 99, 8, [4, 0, 0]), (173, .goto 96, 14, 0, [])], [(176, .aload_n 0, 0, 0, []), (177, .getfield 24, 8, 4, [0]), (180, .iload 4, 0, 0, []), (182, .iload_n 3, 0, 0, []), (183, .iastore, 0, 0, []), (184, .aload_n 0, 0, 0, []), (185, .aload_n 0, 0, 0, []), (186, .getfield 18, 8, 2, [0]), (189, .iload 6, 0, 0, []), (191, .iaload, 0, 0, []), (192, .iload 5, 0, 0, []), (194, .if_icmp .ne 8, 8, 0, []), (197, .iload 6, 0, 0, []), (199, .goto 9, 9, 0, [])], [(202, .aload_n 0, 0, 0, []), (203, .iload 4, 0, 0, []), (205, .invokevirtual 116, 101, 8, [2, 0, 0]), (208, .nop, 9, 0, [])], [(208, .iload 5, 0, 0, []), (210, .iload_n 3, 0, 0, []), (211, .invokevirtual 105, 99, 8, [4, 0, 0]), (214, .goto 55, 14, 0, [])], [(217, .aload_n 0, 0, 0, []), (218, .iload 4, 0, 0, []), (220, .iconst 2, 0, 0, []), (221, .invokevirtual 70, 86, 8, [3, 0, 0]), (224, .goto 45, 14, 0, [])], [(227, .aload_n 0, 0, 0, []), (228, .iload 4, 0, 0, []), (230, .iconst 2, 0, 0, []), (231, .invokevirtual 113, 87, 8, [3, 0, 0]), (234, .aload_n 0, 0, 0, []), (235, .iload 4, 0, 0, []), (237, .iload 5, 0, 0, []), (239, .iload_n 3, 0, 0, []), (240, .invokevirtual 105, 99, 8, [4, 0, 0]), (243, .goto 26, 14, 0, [])], [(246, .aload_n 0, 0, 0, []), (247, .iload 4, 0, 0, []), (249, .invokevirtual 109, 100, 8, [2, 0, 0]), (252, .aload_n 0, 0, 0, []), (253, .iload 4, 0, 0, []), (255, .invokevirtual 119, 102, 8, [2, 0, 0]), (258, .goto 11, 14, 0, [])], [(261, .aload_n 0, 0, 0, []), (262, .iload 4, 0, 0, []), (264, .bipush 8, 0, 0, []), (266, .invokevirtual 113, 87, 8, [3, 0, 0]), (269, .nop, 14, 0, [])], [(269, .return_, 0, 0, [])]]
def zB_99 : mzB := [[(0, .aload_n 0, 0, 0, []), (1, .getfield 15, 8, 1, [0]), (4, .iload_n 1, 0, 0, []), (5, .bipush (-5), 0, 0, []), (7, .iastore, 0, 0, []), (8, .aload_n 0, 0, 0, []), (9, .getfield 18, 8, 2, [0]), (12, .iload_n 1, 0, 0, []), (13, .iload_n 2, 0, 0, []), (14, .iastore, 0, 0, []), (15, .aload_n 0, 0, 0, []), (16, .getfield 21, 8, 3, [0]), (19, .iload_n 1, 0, 0, []), (20, .iload_n 3, 0, 0, []), (21, .iastore, 0, 0, []), (22, .return_, 0, 0, [])]]
def zB_100 : mzB := [[(0, .aload_n 0, 0, 0, []), (1, .getfield 15, 8, 1, [0]), (4, .iload_n 1, 0, 0, []), (5, .iaload, 0, 0, []), (6, .ifCond .lt 14, 1, 0, []), (9, .aload_n 0, 0, 0, []), (10, .aload_n 0, 0, 0, []), (11, .getfield 15, 8, 1, [0]), (14, .iload_n 1, 0, 0, []), (15, .iaload, 0, 0, []), (16, .iconst 1, 0, 0, []), (17, .invokevirtual 70, 86, 8, [3, 0, 0]), (20, .nop, 1, 0, [])], [(20, .return_, 0, 0, [])]]
def zB_101 : mzB := [[(0, .iload_n 1, 0, 0, []), (1, .istore_n 2, 0, 0, []), (2, .iconst 0, 0, 0, []), (3, .istore_n 3, 0, 0, []), (4, .nop, 1, 0, [])], [(4, .iload_n 3, 0, 0, []), (5, .iconst 2, 0, 0, []), (6, .if_icmp .ge 41, 3, 0, []), (9, .aload_n 0, 0, 0, []), (10, .getfield 15, 8, 1, [0]), (13, .iload_n 2, 0, 0, []), (14, .iaload, 0, 0, []), (15, .ifCond .lt 32, 3, 0, []), (18, .aload_n 0, 0, 0, []), (19, .aload_n 0, 0, 0, []), (20, .getfield 15, 8, 1, [0]), (23, .iload_n 2, 0, 0, []), (24, .iaload, 0, 0, []), (25, .iconst 1, 0, 0, []), (26, .invokevirtual 46, 85, 8, [3, 0, 0]), (29, .ifCond .eq 5, 2, 0, []), (32, .iload_n 2, 0, 0, []), (33, .ireturn, 0, 0, [])], [(34, .aload_n 0, 0, 0, []), (35, .getfield 15, 8, 1, [0]), (38, .iload_n 2, 0, 0, []), (39, .iaload, 0, 0, []), (40, .istore_n 2, 0, 0, []), (41, .iinc 3 1, 0, 0, []), (44, .goto (-40), 1, 0, [])], [(47, .iload_n 2, 0, 0, []), (48, .ireturn, 0, 0, [])]]
def zB_102 : mzB := [[(0, .iconst 0, 0, 0, []), (1, .istore_n 2, 0, 0, []), (2, .nop, 1, 0, [])], [(2, .iload_n 2, 0, 0, []), (3, .bipush 40, 0, 0, []), (5, .if_icmp .ge 29, 4, 0, []), (8, .iload_n 2, 0, 0, []), (9, .iload_n 1, 0, 0, []), (10, .if_icmp .eq 12, 2, 0, []), (13, .aload_n 0, 0, 0, []), (14, .iload_n 2, 0, 0, []), (15, .iload_n 1, 0, 0, []), (16, .invokevirtual 101, 90, 8, [3, 0, 0]), (19, .ifCond .eq 9, 3, 0, []), (22, .nop, 2, 0, [])], [(22, .aload_n 0, 0, 0, []), (23, .iload_n 2, 0, 0, []), (24, .iconst 4, 0, 0, []), (25, .invokevirtual 70, 86, 8, [3, 0, 0]), (28, .nop, 3, 0, [])], [(28, .iinc 2 1, 0, 0, []), (31, .goto (-29), 1, 0, [])], [(34, .iconst 0, 0, 0, []), (35, .istore_n 2, 0, 0, []), (36, .nop, 5, 0, [])], [(36, .iload_n 2, 0, 0, []), (37, .bipush 40, 0, 0, []), (39, .if_icmp .ge 33, 7, 0, []), (42, .aload_n 0, 0, 0, []), (43, .iload_n 2, 0, 0, []), (44, .iconst 4, 0, 0, []), (45, .invokevirtual 46, 85, 8, [3, 0, 0]), (48, .ifCond .eq 18, 6, 0, []), (51, .aload_n 0, 0, 0, []), (52, .getfield 15, 8, 1, [0]), (55, .iload_n 2, 0, 0, []), (56, .bipush (-5), 0, 0, []), (58, .iastore, 0, 0, []), (59, .aload_n 0, 0, 0, []), (60, .iload_n 2, 0, 0, []), (61, .bipush 8, 0, 0, []), (63, .invokevirtual 113, 87, 8, [3, 0, 0]), (66, .nop, 6, 0, [])], [(66, .iinc 2 1, 0, 0, []), (69, .goto (-33), 5, 0, [])], [(72, .return_, 0, 0, [])]]
def zB_103 : mzB := [[(0, .iconst 0, 0, 0, []), (1, .istore_n 2, 0, 0, []), (2, .iconst 0, 0, 0, []), (3, .istore_n 3, 0, 0, []), (4, .nop, 1, 0, [])], [(4, .iload_n 3, 0, 0, []), (5, .bipush 40, 0, 0, []), (7, .if_icmp .ge 27, 4, 0, []), (10, .iload_n 2, 0, 0, []), (11, .aload_n 0, 0, 0, []), (12, .getfield 15, 8, 1, [0]), (15, .iload_n 3, 0, 0, []), (16, .iaload, 0, 0, []), (17, .iload_n 1, 0, 0, []), (18, .if_icmp .ne 7, 2, 0, []), (21, .iconst 1, 0, 0, []), (22, .goto 4, 3, 0, [])], [(25, .iconst 0, 0, 0, []), (26, .nop, 3, 0, [])], [(26, .iadd, 0, 0, []), (27, .istore_n 2, 0, 0, []), (28, .iinc 3 1, 0, 0, []), (31, .goto (-27), 1, 0, [])], [(34, .iload_n 2, 0, 0, []), (35, .ireturn, 0, 0, [])]]
def zB_104 : mzB := [[(0, .lconst 0, 0, 0, []), (1, .lstore_n 2, 0, 0, []), (2, .iconst 0, 0, 0, []), (3, .istore 4, 0, 0, []), (5, .nop, 1, 0, [])], [(5, .iload 4, 0, 0, []), (7, .bipush 40, 0, 0, []), (9, .if_icmp .ge 26, 3, 0, []), (12, .aload_n 0, 0, 0, []), (13, .iload 4, 0, 0, []), (15, .iload_n 1, 0, 0, []), (16, .invokevirtual 101, 90, 8, [3, 0, 0]), (19, .ifCond .eq 10, 2, 0, []), (22, .lload_n 2, 0, 0, []), (23, .lconst 1, 0, 0, []), (24, .iload 4, 0, 0, []), (26, .lshl, 0, 0, []), (27, .lor, 0, 0, []), (28, .lstore_n 2, 0, 0, []), (29, .nop, 2, 0, [])], [(29, .iinc 4 1, 0, 0, []), (32, .goto (-27), 1, 0, [])], [(35, .lload_n 2, 0, 0, []), (36, .lreturn, 0, 0, [])]]
def zB_105 : mzB := [[(0, .lconst 0, 0, 0, []), (1, .lstore_n 2, 0, 0, []), (2, .iconst 0, 0, 0, []), (3, .istore 4, 0, 0, []), (5, .nop, 1, 0, [])], [(5, .iload 4, 0, 0, []), (7, .bipush 40, 0, 0, []), (9, .if_icmp .ge 26, 3, 0, []), (12, .aload_n 0, 0, 0, []), (13, .iload 4, 0, 0, []), (15, .invokevirtual 122, 91, 8, [2, 0, 0]), (18, .iload_n 1, 0, 0, []), (19, .if_icmp .ne 10, 2, 0, []), (22, .lload_n 2, 0, 0, []), (23, .lconst 1, 0, 0, []), (24, .iload 4, 0, 0, []), (26, .lshl, 0, 0, []), (27, .lor, 0, 0, []), (28, .lstore_n 2, 0, 0, []), (29, .nop, 2, 0, [])], [(29, .iinc 4 1, 0, 0, []), (32, .goto (-27), 1, 0, [])], [(35, .lload_n 2, 0, 0, []), (36, .lreturn, 0, 0, [])]]
def zB_106 : mzB := [[(0, .lconst 0, 0, 0, []), (1, .lstore_n 2, 0, 0, []), (2, .iconst 0, 0, 0, []), (3, .istore 4, 0, 0, []), (5, .nop, 1, 0, [])], [(5, .iload 4, 0, 0, []), (7, .bipush 40, 0, 0, []), (9, .if_icmp .ge 35, 3, 0, []), (12, .aload_n 0, 0, 0, []), (13, .iload 4, 0, 0, []), (15, .invokevirtual 122, 91, 8, [2, 0, 0]), (18, .ifCond .lt 20, 2, 0, []), (21, .aload_n 0, 0, 0, []), (22, .iload 4, 0, 0, []), (24, .invokevirtual 125, 92, 8, [2, 0, 0]), (27, .iload_n 1, 0, 0, []), (28, .if_icmp .gt 10, 2, 0, []), (31, .lload_n 2, 0, 0, []), (32, .lconst 1, 0, 0, []), (33, .iload 4, 0, 0, []), (35, .lshl, 0, 0, []), (36, .lor, 0, 0, []), (37, .lstore_n 2, 0, 0, []), (38, .nop, 2, 0, [])], [(38, .iinc 4 1, 0, 0, []), (41, .goto (-36), 1, 0, [])], [(44, .lload_n 2, 0, 0, []), (45, .lreturn, 0, 0, [])]]
def zB_107 : mzB := [[(0, .lconst 0, 0, 0, []), (1, .lstore_n 3, 0, 0, []), (2, .iconst 0, 0, 0, []), (3, .istore 5, 0, 0, []), (5, .nop, 1, 0, [])], [(5, .iload 5, 0, 0, []), (7, .bipush 40, 0, 0, []), (9, .if_icmp .ge 41, 3, 0, []), (12, .lload_n 1, 0, 0, []), (13, .iload 5, 0, 0, []), (15, .lushr, 0, 0, []), (16, .lconst 1, 0, 0, []), (17, .land, 0, 0, []), (18, .lconst 0, 0, 0, []), (19, .lcmp, 0, 0, []), (20, .ifCond .eq 24, 2, 0, []), (23, .aload_n 0, 0, 0, []), (24, .iload 5, 0, 0, []), (26, .iconst 4, 0, 0, []), (27, .invokevirtual 46, 85, 8, [3, 0, 0]), (30, .ifCond .ne 14, 2, 0, []), (33, .lload_n 3, 0, 0, []), (34, .lconst 1, 0, 0, []), (35, .aload_n 0, 0, 0, []), (36, .iload 5, 0, 0, []), (38, .invokevirtual 50, 89, 8, [2, 0, 0]), (41, .lshl, 0, 0, []), (42, .lor, 0, 0, []), (43, .lstore_n 3, 0, 0, []), (44, .nop, 2, 0, [])], [(44, .iinc 5 1, 0, 0, []), (47, .goto (-42), 1, 0, [])], [(50, .lload_n 1, 0, 0, []), (51, .lstore 5, 0, 0, []), (53, .iconst 0, 0, 0, []), (54, .istore 7, 0, 0, []), (56, .nop, 4, 0, [])], [(56, .iload 7, 0, 0, []), (58, .bipush 40, 0, 0, []), (60, .if_icmp .ge 33, 6, 0, []), (63, .lload_n 3, 0, 0, []), (64, .aload_n 0, 0, 0, []), (65, .iload 7, 0, 0, []), (67, .invokevirtual 50, 89, 8, [2, 0, 0]), (70, .lushr, 0, 0, []), (71, .lconst 1, 0, 0, []), (72, .land, 0, 0, []), (73, .lconst 0, 0, 0, []), (74, .lcmp, 0, 0, []), (75, .ifCond .eq 12, 5, 0, []), (78, .lload 5, 0, 0, []), (80, .lconst 1, 0, 0, []), (81, .iload 7, 0, 0, []), (83, .lshl, 0, 0, []), (84, .lor, 0, 0, []), (85, .lstore 5, 0, 0, []), (87, .nop, 5, 0, [])], [(87, .iinc 7 1, 0, 0, []), (90, .goto (-34), 4, 0, [])], [(93, .lload 5, 0, 0, []), (95, .lreturn, 0, 0, [])]]
def zB_108 : mzB := [[(0, .iconst 0, 0, 0, []), (1, .istore_n 2, 0, 0, []), (2, .iconst 0, 0, 0, []), (3, .istore_n 3, 0, 0, []), (4, .nop, 1, 0, [])], [(4, .iload_n 3, 0, 0, []), (5, .bipush 40, 0, 0, []), (7, .if_icmp .ge 44, 4, 0, []), (10, .aload_n 0, 0, 0, []), (11, .iload_n 3, 0, 0, []), (12, .invokevirtual 122, 91, 8, [2, 0, 0]), (15, .iload_n 1, 0, 0, []), (16, .if_icmp .ne 29, 3, 0, []), (19, .aload_n 0, 0, 0, []), (20, .getfield 15, 8, 1, [0]), (23, .iload_n 3, 0, 0, []), (24, .iaload, 0, 0, []), (25, .ifCond .lt 17, 2, 0, []), (28, .aload_n 0, 0, 0, []), (29, .aload_n 0, 0, 0, []), (30, .getfield 15, 8, 1, [0]), (33, .iload_n 3, 0, 0, []), (34, .iaload, 0, 0, []), (35, .iconst 1, 0, 0, []), (36, .invokevirtual 46, 85, 8, [3, 0, 0]), (39, .ifCond .eq 6, 3, 0, []), (42, .nop, 2, 0, [])], [(42, .iinc 2 1, 0, 0, []), (45, .nop, 3, 0, [])], [(45, .iinc 3 1, 0, 0, []), (48, .goto (-44), 1, 0, [])], [(51, .iload_n 2, 0, 0, []), (52, .ireturn, 0, 0, [])]]
def zB_109 : mzB := [[(0, .aload_n 0, 0, 0, []), (1, .iload_n 1, 0, 0, []), (2, .invokevirtual 122, 91, 8, [2, 0, 0]), (5, .istore_n 3, 0, 0, []), (6, .iload_n 3, 0, 0, []), (7, .bipush (-2), 0, 0, []), (9, .if_icmp .eq 9, 1, 0, []), (12, .iload_n 3, 0, 0, []), (13, .bipush (-4), 0, 0, []), (15, .if_icmp .ne 5, 2, 0, []), (18, .nop, 1, 0, [])], [(18, .iload_n 3, 0, 0, []), (19, .ireturn, 0, 0, [])], [(20, .iload_n 2, 0, 0, []), (21, .tableswitch 123 0 8 #[51, 58, 65, 71, 73, 88, 104, 111, 117], 16, 0, [3, 4, 5, 6, 7, 10, 13, 14, 15])], [(72, .aload_n 0, 0, 0, []), (73, .getfield 9, 8, 0, [0]), (76, .iload_n 1, 0, 0, []), (77, .iaload, 0, 0, []), (78, .ireturn, 0, 0, [])], [(79, .aload_n 0, 0, 0, []), (80, .getfield 15, 8, 1, [0]), (83, .iload_n 1, 0, 0, []), (84, .iaload, 0, 0, []), (85, .ireturn, 0, 0, [])], [(86, .aload_n 0, 0, 0, []), (87, .iload_n 1, 0, 0, []), (88, .invokevirtual 50, 89, 8, [2, 0, 0]), (91, .ireturn, 0, 0, [])], [(92, .iload_n 3, 0, 0, []), (93, .ireturn, 0, 0, [])], [(94, .aload_n 0, 0, 0, []), (95, .iload_n 1, 0, 0, []), (96, .iconst 1, 0, 0, []), (97, .invokevirtual 46, 85, 8, [3, 0, 0]), (100, .ifCond .eq 7, 8, 0, []), (103, .iconst 1, 0, 0, []), (104, .goto 4, 9, 0, [])], [(107, .iconst 0, 0, 0, []), (108, .nop, 9, 0, [])], [(108, .ireturn, 0, 0, [])], [(109, .aload_n 0, 0, 0, []), (110, .iload_n 1, 0, 0, []), (111, .bipush 8, 0, 0, []), (113, .invokevirtual 46, 85, 8, [3, 0, 0]), (116, .ifCond .eq 7, 11, 0, []), (119, .iconst 1, 0, 0, []), (120, .goto 4, 12, 0, [])], [(123, .iconst 0, 0, 0, []), (124, .nop, 12, 0, [])], [(124, .ireturn, 0, 0, [])], [(125, .aload_n 0, 0, 0, []), (126, .getfield 24, 8, 4, [0]), (129, .iload_n 1, 0, 0, []), (130, .iaload, 0, 0, []), (131, .ireturn, 0, 0, [])], [(132, .aload_n 0, 0, 0, []), (133, .iload_n 1, 0, 0, []), (134, .invokevirtual 125, 92, 8, [2, 0, 0]), (137, .ireturn, 0, 0, [])], [(138, .aload_n 0, 0, 0, []), (139, .iload_n 1, 0, 0, []), (140, .invokevirtual 94, 103, 8, [2, 0, 0]), (143, .ireturn, 0, 0, [])], [(144, .aload_n 0, 0, 0, []), (145, .iload_n 1, 0, 0, []), (146, .invokevirtual 128, 104, 8, [2, 0, 0]), (149, .invokestatic 132, 253, 11, [1, 0, 0]), (152, .ireturn, 0, 0, [])]]
def zB_110 : mzB := [[(0, .iconst 0, 0, 0, []), (1, .istore_n 2, 0, 0, []), (2, .iconst 0, 0, 0, []), (3, .istore_n 3, 0, 0, []), (4, .nop, 1, 0, [])], [(4, .iload_n 3, 0, 0, []), (5, .bipush 40, 0, 0, []), (7, .if_icmp .ge 26, 4, 0, []), (10, .iload_n 2, 0, 0, []), (11, .aload_n 0, 0, 0, []), (12, .iload_n 3, 0, 0, []), (13, .iload_n 1, 0, 0, []), (14, .invokevirtual 138, 111, 8, [3, 0, 0]), (17, .ifCond .eq 7, 2, 0, []), (20, .iconst 1, 0, 0, []), (21, .goto 4, 3, 0, [])], [(24, .iconst 0, 0, 0, []), (25, .nop, 3, 0, [])], [(25, .iadd, 0, 0, []), (26, .istore_n 2, 0, 0, []), (27, .iinc 3 1, 0, 0, []), (30, .goto (-26), 1, 0, [])], [(33, .iload_n 2, 0, 0, []), (34, .ireturn, 0, 0, [])]]
def zB_111 : mzB := [[(0, .iload_n 2, 0, 0, []), (1, .tableswitch 104 0 4 #[35, 41, 57, 64, 72], 10, 0, [1, 2, 5, 6, 7])], [(36, .aload_n 0, 0, 0, []), (37, .iload_n 1, 0, 0, []), (38, .invokevirtual 42, 88, 8, [2, 0, 0]), (41, .ireturn, 1, 0, [])], [(42, .aload_n 0, 0, 0, []), (43, .iload_n 1, 0, 0, []), (44, .invokevirtual 122, 91, 8, [2, 0, 0]), (47, .bipush (-3), 0, 0, []), (49, .if_icmp .ne 7, 3, 0, []), (52, .iconst 1, 0, 0, []), (53, .goto 4, 4, 0, [])], [(56, .iconst 0, 0, 0, []), (57, .nop, 4, 0, [])], [(57, .ireturn, 1, 0, [])], [(58, .aload_n 0, 0, 0, []), (59, .iload_n 1, 0, 0, []), (60, .iconst 4, 0, 0, []), (61, .invokevirtual 46, 85, 8, [3, 0, 0]), (64, .ireturn, 1, 0, [])], [(65, .aload_n 0, 0, 0, []), (66, .iload_n 1, 0, 0, []), (67, .bipush 8, 0, 0, []), (69, .invokevirtual 46, 85, 8, [3, 0, 0]), (72, .ireturn, 1, 0, [])], [(73, .aload_n 0, 0, 0, []), (74, .iload_n 1, 0, 0, []), (75, .invokevirtual 42, 88, 8, [2, 0, 0]), (78, .ifCond .eq 25, 8, 0, []), (81, .aload_n 0, 0, 0, []), (82, .getfield 15, 8, 1, [0]), (85, .iload_n 1, 0, 0, []), (86, .iaload, 0, 0, []), (87, .ifCond .ge 16, 8, 0, []), (90, .aload_n 0, 0, 0, []), (91, .iload_n 1, 0, 0, []), (92, .iconst 4, 0, 0, []), (93, .invokevirtual 46, 85, 8, [3, 0, 0]), (96, .ifCond .ne 7, 8, 0, []), (99, .iconst 1, 0, 0, []), (100, .goto 4, 9, 0, [])], [(103, .iconst 0, 0, 0, []), (104, .nop, 9, 0, [])], [(104, .ireturn, 1, 0, [])], [(105, .aload_n 0, 0, 0, []), (106, .iload_n 1, 0, 0, []), (107, .iconst 1, 0, 0, []), (108, .invokevirtual 46, 85, 8, [3, 0, 0]), (111, .ireturn, 1, 0, [])]]
def zB_112 : mzB := [[(0, .aload_n 0, 0, 0, []), (1, .invokespecial 1, 0, 0, [0]), (4, .aload_n 0, 0, 0, []), (5, .new 7, 6, 2, [0]), (8, .dup, 0, 0, []), (9, .invokespecial 9, 69, 6, [1, 1, 900]), (12, .putfield 10, 9, 0, [2]), (15, .aload_n 0, 0, 0, []), (16, .new 16, 1, 13, [0]), (19, .dup, 0, 0, []), (20, .invokespecial 18, 8, 1, [1, 7, 372]), (23, .putfield 19, 9, 1, [2]), (26, .aload_n 0, 0, 0, []), (27, .new 16, 1, 13, [0]), (30, .dup, 0, 0, []), (31, .invokespecial 18, 8, 1, [1, 7, 372]), (34, .putfield 23, 9, 2, [2]), (37, .aload_n 0, 0, 0, []), (38, .new 26, 4, 8, [0]), (41, .dup, 0, 0, []), (42, .aload_n 0, 0, 0, []), (43, .getfield 10, 9, 0, [0]), (46, .aload_n 0, 0, 0, []), (47, .getfield 23, 9, 2, [0]), (50, .invokespecial 28, 37, 4, [3, 4, 2711]), (53, .putfield 31, 9, 3, [2]), (56, .aload_n 0, 0, 0, []), (57, .new 35, 5, 5, [0]), (60, .dup, 0, 0, []), (61, .aload_n 0, 0, 0, []), (62, .getfield 19, 9, 1, [0]), (65, .invokespecial 37, 51, 5, [2, 18, 675]), (68, .putfield 40, 9, 4, [2]), (71, .aload_n 0, 0, 0, []), (72, .new 44, 3, 7, [0]), (75, .dup, 0, 0, []), (76, .aload_n 0, 0, 0, []), (77, .getfield 40, 9, 4, [0]), (80, .invokespecial 46, 28, 3, [2, 10, 369]), (83, .putfield 49, 9, 5, [2]), (86, .aload_n 0, 0, 0, []), (87, .new 53, 0, 12, [0]), (90, .dup, 0, 0, []), (91, .aload_n 0, 0, 0, []), (92, .getfield 40, 9, 4, [0]), (95, .invokespecial 55, 0, 0, [2, 21, 738]), (98, .putfield 56, 9, 6, [2]), (101, .return_, 0, 0, [])]]
def zB_113 : mzB := [[(0, .aload_n 0, 0, 0, []), (1, .getfield 10, 9, 0, [0]), (4, .bipush 20, 0, 0, []), (6, .invokevirtual 60, 70, 6, [2, 0, 0]), (9, .ifCond .ne 5, 1, 0, []), (12, .iconst (-1), 0, 0, []), (13, .ireturn, 0, 0, [])], [(14, .aload_n 0, 0, 0, []), (15, .getfield 10, 9, 0, [0]), (18, .iload_n 1, 0, 0, []), (19, .invokevirtual 64, 71, 6, [2, 0, 0]), (22, .aload_n 0, 0, 0, []), (23, .getfield 10, 9, 0, [0]), (26, .iload_n 2, 0, 0, []), (27, .invokevirtual 64, 71, 6, [2, 0, 0]), (30, .aload_n 0, 0, 0, []), (31, .getfield 10, 9, 0, [0]), (34, .iload_n 3, 0, 0, []), (35, .invokevirtual 64, 71, 6, [2, 0, 0]), (38, .aload_n 0, 0, 0, []), (39, .getfield 10, 9, 0, [0]), (42, .iload 4, 0, 0, []), (44, .invokevirtual 64, 71, 6, [2, 0, 0]), (47, .aload_n 0, 0, 0, []), (48, .getfield 10, 9, 0, [0]), (51, .iload 5, 0, 0, []), (53, .invokevirtual 64, 71, 6, [2, 0, 0]), (56, .aload_n 0, 0, 0, []), (57, .getfield 10, 9, 0, [0]), (60, .getfield 68, 6, 1, [0]), (63, .ireturn, 0, 0, [])]]
def zB_114 : mzB := [[(0, .iload_n 1, 0, 0, []), (1, .ifCond .lt 14, 1, 0, []), (4, .iload_n 1, 0, 0, []), (5, .aload_n 0, 0, 0, []), (6, .getfield 10, 9, 0, [0]), (9, .getfield 68, 6, 1, [0]), (12, .if_icmp .le 6, 2, 0, []), (15, .nop, 1, 0, [])], [(15, .bipush (-2), 0, 0, []), (17, .ireturn, 0, 0, [])], [(18, .aload_n 0, 0, 0, []), (19, .getfield 23, 9, 2, [0]), (22, .invokevirtual 72, 9, 1, [1, 0, 0]), (25, .aload_n 0, 0, 0, []), (26, .getfield 31, 9, 3, [0]), (29, .iload_n 1, 0, 0, []), (30, .iconst 0, 0, 0, []), (31, .invokevirtual 75, 38, 4, [3, 0, 0]), (34, .istore_n 2, 0, 0, []), (35, .aload_n 0, 0, 0, []), (36, .iload_n 2, 0, 0, []), (37, .invokevirtual 79, 116, 9, [2, 0, 0]), (40, .ireturn, 0, 0, [])]]
def zB_115 : mzB := [[(0, .iload_n 1, 0, 0, []), (1, .ifCond .lt 14, 1, 0, []), (4, .iload_n 1, 0, 0, []), (5, .aload_n 0, 0, 0, []), (6, .getfield 10, 9, 0, [0]), (9, .getfield 68, 6, 1, [0]), (12, .if_icmp .le 6, 2, 0, []), (15, .nop, 1, 0, [])], [(15, .bipush (-2), 0, 0, []), (17, .ireturn, 0, 0, [])], [(18, .aload_n 0, 0, 0, []), (19, .getfield 23, 9, 2, [0]), (22, .aload_n 0, 0, 0, []), (23, .getfield 19, 9, 1, [0]), (26, .invokevirtual 83, 10, 1, [2, 0, 0]), (29, .aload_n 0, 0, 0, []), (30, .getfield 31, 9, 3, [0]), (33, .iload_n 1, 0, 0, []), (34, .iconst 1, 0, 0, []), (35, .invokevirtual 75, 38, 4, [3, 0, 0]), (38, .istore_n 2, 0, 0, []), (39, .aload_n 0, 0, 0, []), (40, .iload_n 2, 0, 0, []), (41, .invokevirtual 79, 116, 9, [2, 0, 0]), (44, .ireturn, 0, 0, [])]]
def zB_116 : mzB := [[(0, .aload_n 0, 0, 0, []), (1, .getfield 10, 9, 0, [0]), (4, .iconst 0, 0, 0, []), (5, .putfield 68, 6, 1, [0]), (8, .iload_n 1, 0, 0, []), (9, .ifCond .ne 5, 1, 0, []), (12, .iconst (-1), 0, 0, []), (13, .ireturn, 0, 0, [])], [(14, .aload_n 0, 0, 0, []), (15, .getfield 23, 9, 2, [0]), (18, .invokevirtual 86, 19, 1, [1, 0, 0]), (21, .aload_n 0, 0, 0, []), (22, .getfield 19, 9, 1, [0]), (25, .aload_n 0, 0, 0, []), (26, .getfield 23, 9, 2, [0]), (29, .invokevirtual 83, 10, 1, [2, 0, 0]), (32, .aload_n 0, 0, 0, []), (33, .getfield 40, 9, 4, [0]), (36, .invokevirtual 89, 52, 5, [1, 0, 0]), (39, .aload_n 0, 0, 0, []), (40, .getfield 56, 9, 6, [0]), (43, .invokevirtual 92, 1, 0, [1, 0, 0]), (46, .aload_n 0, 0, 0, []), (47, .getfield 31, 9, 3, [0]), (50, .getfield 95, 4, 7, [0]), (53, .ireturn, 0, 0, [])]]
def zB_117 : mzB := [[(0, .iload_n 1, 0, 0, []), (1, .ifCond .ne 11, 1, 0, []), (4, .aload_n 0, 0, 0, []), (5, .getfield 31, 9, 3, [0]), (8, .getfield 98, 4, 5, [0]), (11, .ireturn, 0, 0, [])], [(12, .iload_n 1, 0, 0, []), (13, .iconst 1, 0, 0, []), (14, .if_icmp .ne 13, 2, 0, []), (17, .aload_n 0, 0, 0, []), (18, .getfield 31, 9, 3, [0]), (21, .getfield 101, 4, 6, [0]), (24, .goto 4, 3, 0, [])], [(27, .iconst (-1), 0, 0, []), (28, .nop, 3, 0, [])], [(28, .ireturn, 0, 0, [])]]
def zB_118 : mzB := [[(0, .aload_n 0, 0, 0, []), (1, .getfield 19, 9, 1, [0]), (4, .iload_n 1, 0, 0, []), (5, .invokevirtual 104, 11, 1, [2, 0, 0]), (8, .ifCond .eq 14, 1, 0, []), (11, .aload_n 0, 0, 0, []), (12, .getfield 19, 9, 1, [0]), (15, .iload_n 2, 0, 0, []), (16, .invokevirtual 104, 11, 1, [2, 0, 0]), (19, .ifCond .ne 5, 2, 0, []), (22, .nop, 1, 0, [])], [(22, .iconst (-1), 0, 0, []), (23, .ireturn, 0, 0, [])], [(24, .aload_n 0, 0, 0, []), (25, .getfield 19, 9, 1, [0]), (28, .iload_n 1, 0, 0, []), (29, .iload_n 2, 0, 0, []), (30, .invokevirtual 107, 17, 1, [3, 0, 0]), (33, .ireturn, 0, 0, [])]]
def zB_119 : mzB := [[(0, .aload_n 0, 0, 0, []), (1, .getfield 19, 9, 1, [0]), (4, .iload_n 1, 0, 0, []), (5, .invokevirtual 111, 12, 1, [2, 0, 0]), (8, .ifCond .ne 13, 1, 0, []), (11, .new 114, 0, 0, []), (14, .dup, 0, 0, []), (15, .ldc 116, 0, 0, []), (17, .invokespecial 118, 0, 0, []), (20, .athrow, 0, 0, [])], [(21, .iload_n 2, 0, 0, []), (22, .tableswitch 121 0 6 #[42, 52, 62, 72, 82, 92, 104], 11, 0, [2, 3, 4, 5, 6, 7, 8])], [(64, .aload_n 0, 0, 0, []), (65, .getfield 19, 9, 1, [0]), (68, .getfield 121, 1, 2, [0]), (71, .iload_n 1, 0, 0, []), (72, .iaload, 0, 0, []), (73, .ireturn, 0, 0, [])], [(74, .aload_n 0, 0, 0, []), (75, .getfield 19, 9, 1, [0]), (78, .getfield 125, 1, 3, [0]), (81, .iload_n 1, 0, 0, []), (82, .iaload, 0, 0, []), (83, .ireturn, 0, 0, [])], [(84, .aload_n 0, 0, 0, []), (85, .getfield 19, 9, 1, [0]), (88, .getfield 128, 1, 4, [0]), (91, .iload_n 1, 0, 0, []), (92, .iaload, 0, 0, []), (93, .ireturn, 0, 0, [])], [(94, .aload_n 0, 0, 0, []), (95, .getfield 19, 9, 1, [0]), (98, .getfield 131, 1, 5, [0]), (101, .iload_n 1, 0, 0, []), (102, .iaload, 0, 0, []), (103, .ireturn, 0, 0, [])], [(104, .aload_n 0, 0, 0, []), (105, .getfield 40, 9, 4, [0]), (108, .getfield 134, 5, 3, [0]), (111, .iload_n 1, 0, 0, []), (112, .iaload, 0, 0, []), (113, .ireturn, 0, 0, [])], [(114, .aload_n 0, 0, 0, []), (115, .getfield 40, 9, 4, [0]), (118, .getfield 137, 5, 0, [0]), (121, .iload_n 1, 0, 0, []), (122, .invokevirtual 141, 26, 2, [2, 0, 0]), (125, .ireturn, 0, 0, [])], [(126, .aload_n 0, 0, 0, []), (127, .getfield 19, 9, 1, [0]), (130, .iload_n 1, 0, 0, []), (131, .invokevirtual 147, 20, 1, [2, 0, 0]), (134, .ifCond .eq 7, 9, 0, []), (137, .iconst 1, 0, 0, []), (138, .goto 4, 10, 0, [])], [(141, .iconst 0, 0, 0, []), (142, .nop, 10, 0, [])], [(142, .ireturn, 0, 0, [])], [(143, .new 150, 0, 0, []), (146, .dup, 0, 0, []), (147, .ldc 152, 0, 0, []), (149, .invokespecial 154, 0, 0, []), (152, .athrow, 0, 0, [])]]
def zB_120 : mzB := [[(0, .iload_n 1, 0, 0, []), (1, .invokestatic 155, 149, 9, [1, 0, 0]), (4, .ifCond .eq 20, 1, 0, []), (7, .iload_n 2, 0, 0, []), (8, .invokestatic 158, 150, 9, [1, 0, 0]), (11, .ifCond .eq 13, 1, 0, []), (14, .iload_n 3, 0, 0, []), (15, .ifCond .lt 9, 1, 0, []), (18, .iload_n 3, 0, 0, []), (19, .bipush 9, 0, 0, []), (21, .if_icmp .le 5, 2, 0, []), (24, .nop, 1, 0, [])], [(24, .iconst (-1), 0, 0, []), (25, .ireturn, 0, 0, [])], [(26, .aload_n 0, 0, 0, []), (27, .getfield 40, 9, 4, [0]), (30, .iload_n 2, 0, 0, []), (31, .invokevirtual 161, 55, 5, [2, 0, 0]), (34, .iload_n 1, 0, 0, []), (35, .iload_n 3, 0, 0, []), (36, .invokevirtual 165, 109, 8, [3, 0, 0]), (39, .ireturn, 0, 0, [])]]
def zB_121 : mzB := [[(0, .iload_n 1, 0, 0, []), (1, .invokestatic 155, 149, 9, [1, 0, 0]), (4, .ifCond .eq 14, 1, 0, []), (7, .iload_n 2, 0, 0, []), (8, .invokestatic 158, 150, 9, [1, 0, 0]), (11, .ifCond .eq 7, 1, 0, []), (14, .iload_n 3, 0, 0, []), (15, .ifCond .ge 5, 2, 0, []), (18, .nop, 1, 0, [])], [(18, .iconst (-1), 0, 0, []), (19, .ireturn, 0, 0, [])], [(20, .aload_n 0, 0, 0, []), (21, .getfield 40, 9, 4, [0]), (24, .iload_n 2, 0, 0, []), (25, .invokevirtual 161, 55, 5, [2, 0, 0]), (28, .iload_n 1, 0, 0, []), (29, .invokevirtual 170, 104, 8, [2, 0, 0]), (32, .iload_n 3, 0, 0, []), (33, .invokestatic 174, 153, 9, [2, 0, 0]), (36, .ireturn, 0, 0, [])]]
def zB_122 : mzB := [[(0, .aload_n 0, 0, 0, []), (1, .iload_n 1, 0, 0, []), (2, .invokevirtual 178, 152, 9, [2, 0, 0]), (5, .ifCond .eq 14, 1, 0, []), (8, .iload_n 2, 0, 0, []), (9, .invokestatic 158, 150, 9, [1, 0, 0]), (12, .ifCond .eq 7, 1, 0, []), (15, .iload_n 3, 0, 0, []), (16, .ifCond .ge 5, 2, 0, []), (19, .nop, 1, 0, [])], [(19, .iconst (-1), 0, 0, []), (20, .ireturn, 0, 0, [])], [(21, .aload_n 0, 0, 0, []), (22, .getfield 40, 9, 4, [0]), (25, .iload_n 2, 0, 0, []), (26, .invokevirtual 161, 55, 5, [2, 0, 0]), (29, .iload_n 1, 0, 0, []), (30, .invokevirtual 181, 105, 8, [2, 0, 0]), (33, .iload_n 3, 0, 0, []), (34, .invokestatic 174, 153, 9, [2, 0, 0]), (37, .ireturn, 0, 0, [])]]
def zB_123 : mzB := [[(0, .iload_n 1, 0, 0, []), (1, .invokestatic 158, 150, 9, [1, 0, 0]), (4, .ifCond .eq 12, 1, 0, []), (7, .iload_n 2, 0, 0, []), (8, .ifCond .lt 8, 1, 0, []), (11, .iload_n 2, 0, 0, []), (12, .iconst 5, 0, 0, []), (13, .if_icmp .le 5, 2, 0, []), (16, .nop, 1, 0, [])], [(16, .iconst (-1), 0, 0, []), (17, .ireturn, 0, 0, [])], [(18, .aload_n 0, 0, 0, []), (19, .getfield 40, 9, 4, [0]), (22, .iload_n 1, 0, 0, []), (23, .invokevirtual 161, 55, 5, [2, 0, 0]), (26, .iload_n 2, 0, 0, []), (27, .invokevirtual 184, 110, 8, [2, 0, 0]), (30, .ireturn, 0, 0, [])]]
def zB_124 : mzB := [[(0, .iload_n 1, 0, 0, []), (1, .invokestatic 155, 149, 9, [1, 0, 0]), (4, .ifCond .eq 16, 1, 0, []), (7, .iload_n 2, 0, 0, []), (8, .ifCond .lt 12, 1, 0, []), (11, .iload_n 3, 0, 0, []), (12, .ifCond .lt 8, 1, 0, []), (15, .iload_n 3, 0, 0, []), (16, .iconst 1, 0, 0, []), (17, .if_icmp .le 6, 2, 0, []), (20, .nop, 1, 0, [])], [(20, .bipush (-10), 0, 0, []), (22, .ireturn, 0, 0, [])], [(23, .aload_n 0, 0, 0, []), (24, .getfield 40, 9, 4, [0]), (27, .iload_n 1, 0, 0, []), (28, .iload_n 2, 0, 0, []), (29, .iload_n 3, 0, 0, []), (30, .ifCond .ne 7, 3, 0, []), (33, .iconst 1, 0, 0, []), (34, .goto 4, 4, 0, [])], [(37, .iconst 0, 0, 0, []), (38, .nop, 4, 0, [])], [(38, .invokevirtual 187, 59, 5, [4, 0, 0]), (41, .ireturn, 0, 0, [])]]
def zB_125 : mzB := [[(0, .iload_n 1, 0, 0, []), (1, .ifCond .lt 21, 1, 0, []), (4, .iload_n 1, 0, 0, []), (5, .aload_n 0, 0, 0, []), (6, .getfield 19, 9, 1, [0]), (9, .getfield 191, 1, 9, [0]), (12, .if_icmp .gt 10, 1, 0, []), (15, .iload_n 2, 0, 0, []), (16, .invokestatic 155, 149, 9, [1, 0, 0]), (19, .ifCond .ne 5, 2, 0, []), (22, .nop, 1, 0, [])], [(22, .iconst (-1), 0, 0, []), (23, .ireturn, 0, 0, [])], [(24, .aload_n 0, 0, 0, []), (25, .getfield 40, 9, 4, [0]), (28, .iload_n 1, 0, 0, []), (29, .invokevirtual 192, 56, 5, [2, 0, 0]), (32, .iload_n 2, 0, 0, []), (33, .invokevirtual 195, 91, 8, [2, 0, 0]), (36, .ireturn, 0, 0, [])]]
def zB_126 : mzB := [[(0, .aload_n 0, 0, 0, []), (1, .getfield 19, 9, 1, [0]), (4, .iload_n 1, 0, 0, []), (5, .invokevirtual 111, 12, 1, [2, 0, 0]), (8, .ifCond .ne 5, 1, 0, []), (11, .iconst (-1), 0, 0, []), (12, .ireturn, 0, 0, [])], [(13, .aload_n 0, 0, 0, []), (14, .getfield 40, 9, 4, [0]), (17, .iload_n 1, 0, 0, []), (18, .invokevirtual 198, 57, 5, [2, 0, 0]), (21, .ireturn, 0, 0, [])]]
def zB_127 : mzB := [[(0, .aload_n 0, 0, 0, []), (1, .getfield 19, 9, 1, [0]), (4, .iload_n 1, 0, 0, []), (5, .invokevirtual 111, 12, 1, [2, 0, 0]), (8, .ifCond .eq 10, 1, 0, []), (11, .iload_n 2, 0, 0, []), (12, .invokestatic 155, 149, 9, [1, 0, 0]), (15, .ifCond .ne 5, 2, 0, []), (18, .nop, 1, 0, [])], [(18, .iconst (-1), 0, 0, []), (19, .ireturn, 0, 0, [])], [(20, .aload_n 0, 0, 0, []), (21, .getfield 49, 9, 5, [0]), (24, .iload_n 1, 0, 0, []), (25, .iload_n 2, 0, 0, []), (26, .invokevirtual 201, 29, 3, [3, 0, 0]), (29, .ireturn, 0, 0, [])]]
def zB_128 : mzB := [[(0, .iload_n 1, 0, 0, []), (1, .iconst (-1), 0, 0, []), (2, .if_icmp .lt 9, 1, 0, []), (5, .iload_n 1, 0, 0, []), (6, .bipush 12, 0, 0, []), (8, .if_icmp .le 6, 2, 0, []), (11, .nop, 1, 0, [])], [(11, .bipush (-2), 0, 0, []), (13, .ireturn, 0, 0, [])], [(14, .aload_n 0, 0, 0, []), (15, .getfield 40, 9, 4, [0]), (18, .iload_n 1, 0, 0, []), (19, .invokevirtual 204, 58, 5, [2, 0, 0]), (22, .ireturn, 0, 0, [])]]
def zB_129 : mzB := [[(0, .iload_n 1, 0, 0, []), (1, .ifCond .lt 8, 1, 0, []), (4, .iload_n 1, 0, 0, []), (5, .iconst 1, 0, 0, []), (6, .if_icmp .le 5, 2, 0, []), (9, .nop, 1, 0, [])], [(9, .iconst (-1), 0, 0, []), (10, .ireturn, 0, 0, [])], [(11, .aload_n 0, 0, 0, []), (12, .getfield 19, 9, 1, [0]), (15, .getfield 191, 1, 9, [0]), (18, .ifCond .ne 6, 3, 0, []), (21, .bipush (-2), 0, 0, []), (23, .ireturn, 0, 0, [])], [(24, .aload_n 0, 0, 0, []), (25, .getfield 56, 9, 6, [0]), (28, .invokevirtual 207, 2, 0, [1, 0, 0]), (31, .iload_n 1, 0, 0, []), (32, .ifCond .ne 13, 4, 0, []), (35, .aload_n 0, 0, 0, []), (36, .getfield 56, 9, 6, [0]), (39, .getfield 210, 0, 7, [0]), (42, .goto 10, 5, 0, [])], [(45, .aload_n 0, 0, 0, []), (46, .getfield 56, 9, 6, [0]), (49, .getfield 213, 0, 8, [0]), (52, .nop, 5, 0, [])], [(52, .ireturn, 0, 0, [])]]
def zB_130 : mzB := [[(0, .iload_n 1, 0, 0, []), (1, .ifCond .lt 8, 1, 0, []), (4, .iload_n 1, 0, 0, []), (5, .iconst 2, 0, 0, []), (6, .if_icmp .le 5, 2, 0, []), (9, .nop, 1, 0, [])], [(9, .iconst (-1), 0, 0, []), (10, .ireturn, 0, 0, [])], [(11, .aload_n 0, 0, 0, []), (12, .getfield 19, 9, 1, [0]), (15, .getfield 191, 1, 9, [0]), (18, .iconst 2, 0, 0, []), (19, .if_icmp .ge 6, 3, 0, []), (22, .bipush (-2), 0, 0, []), (24, .ireturn, 0, 0, [])], [(25, .aload_n 0, 0, 0, []), (26, .getfield 56, 9, 6, [0]), (29, .invokevirtual 216, 3, 0, [1, 0, 0]), (32, .iload_n 1, 0, 0, []), (33, .iconst 2, 0, 0, []), (34, .if_icmp .ne 11, 4, 0, []), (37, .aload_n 0, 0, 0, []), (38, .getfield 56, 9, 6, [0]), (41, .getfield 219, 0, 11, [0]), (44, .ireturn, 0, 0, [])], [(45, .iload_n 1, 0, 0, []), (46, .ifCond .ne 13, 5, 0, []), (49, .aload_n 0, 0, 0, []), (50, .getfield 56, 9, 6, [0]), (53, .getfield 222, 0, 9, [0]), (56, .goto 10, 6, 0, [])], [(59, .aload_n 0, 0, 0, []), (60, .getfield 56, 9, 6, [0]), (63, .getfield 225, 0, 10, [0]), (66, .nop, 6, 0, [])], [(66, .ireturn, 0, 0, [])]]
def zB_131 : mzB := [[(0, .iload_n 1, 0, 0, []), (1, .invokestatic 155, 149, 9, [1, 0, 0]), (4, .ifCond .eq 14, 1, 0, []), (7, .iload_n 2, 0, 0, []), (8, .invokestatic 158, 150, 9, [1, 0, 0]), (11, .ifCond .eq 7, 1, 0, []), (14, .iload_n 3, 0, 0, []), (15, .ifCond .ge 5, 2, 0, []), (18, .nop, 1, 0, [])], [(18, .iconst (-1), 0, 0, []), (19, .ireturn, 0, 0, [])], [(20, .aload_n 0, 0, 0, []), (21, .getfield 40, 9, 4, [0]), (24, .iload_n 1, 0, 0, []), (25, .iload_n 2, 0, 0, []), (26, .invokevirtual 228, 64, 5, [3, 0, 0]), (29, .iload_n 3, 0, 0, []), (30, .invokestatic 174, 153, 9, [2, 0, 0]), (33, .ireturn, 0, 0, [])]]
def zB_132 : mzB := [[(0, .iload_n 1, 0, 0, []), (1, .invokestatic 155, 149, 9, [1, 0, 0]), (4, .ifCond .eq 27, 1, 0, []), (7, .iload_n 2, 0, 0, []), (8, .invokestatic 158, 150, 9, [1, 0, 0]), (11, .ifCond .eq 20, 1, 0, []), (14, .iload_n 3, 0, 0, []), (15, .invokestatic 158, 150, 9, [1, 0, 0]), (18, .ifCond .eq 13, 1, 0, []), (21, .iload_n 3, 0, 0, []), (22, .iload_n 2, 0, 0, []), (23, .if_icmp .lt 8, 1, 0, []), (26, .iload 4, 0, 0, []), (28, .ifCond .ge 5, 2, 0, []), (31, .nop, 1, 0, [])], [(31, .iconst (-1), 0, 0, []), (32, .ireturn, 0, 0, [])], [(33, .aload_n 0, 0, 0, []), (34, .getfield 40, 9, 4, [0]), (37, .iload_n 1, 0, 0, []), (38, .iload_n 2, 0, 0, []), (39, .iload_n 3, 0, 0, []), (40, .invokevirtual 232, 65, 5, [4, 0, 0]), (43, .iload 4, 0, 0, []), (45, .invokestatic 174, 153, 9, [2, 0, 0]), (48, .ireturn, 0, 0, [])]]
def zB_133 : mzB := [[(0, .iload_n 1, 0, 0, []), (1, .invokestatic 155, 149, 9, [1, 0, 0]), (4, .ifCond .eq 14, 1, 0, []), (7, .aload_n 0, 0, 0, []), (8, .getfield 40, 9, 4, [0]), (11, .iload_n 1, 0, 0, []), (12, .invokevirtual 236, 66, 5, [2, 0, 0]), (15, .goto 4, 2, 0, [])], [(18, .iconst (-1), 0, 0, []), (19, .nop, 2, 0, [])], [(19, .ireturn, 0, 0, [])]]
def zB_134 : mzB := [[(0, .iload_n 1, 0, 0, []), (1, .invokestatic 155, 149, 9, [1, 0, 0]), (4, .ifCond .eq 10, 1, 0, []), (7, .iload_n 2, 0, 0, []), (8, .invokestatic 158, 150, 9, [1, 0, 0]), (11, .ifCond .ne 5, 2, 0, []), (14, .nop, 1, 0, [])], [(14, .iconst (-1), 0, 0, []), (15, .ireturn, 0, 0, [])], [(16, .aload_n 0, 0, 0, []), (17, .getfield 40, 9, 4, [0]), (20, .iload_n 1, 0, 0, []), (21, .iload_n 2, 0, 0, []), (22, .invokevirtual 239, 67, 5, [3, 0, 0]), (25, .ireturn, 0, 0, [])]]
def zB_135 : mzB := [[(0, .aload_n 0, 0, 0, []), (1, .getfield 19, 9, 1, [0]), (4, .iload_n 1, 0, 0, []), (5, .invokevirtual 104, 11, 1, [2, 0, 0]), (8, .ifCond .eq 10, 1, 0, []), (11, .iload_n 2, 0, 0, []), (12, .invokestatic 158, 150, 9, [1, 0, 0]), (15, .ifCond .ne 5, 2, 0, []), (18, .nop, 1, 0, [])], [(18, .iconst (-1), 0, 0, []), (19, .ireturn, 0, 0, [])], [(20, .aload_n 0, 0, 0, []), (21, .getfield 40, 9, 4, [0]), (24, .iload_n 2, 0, 0, []), (25, .invokevirtual 161, 55, 5, [2, 0, 0]), (28, .iload_n 1, 0, 0, []), (29, .invokevirtual 242, 108, 8, [2, 0, 0]), (32, .ireturn, 0, 0, [])]]
def zB_136 : mzB := [[(0, .iload_n 1, 0, 0, []), (1, .invokestatic 155, 149, 9, [1, 0, 0]), (4, .ifCond .eq 11, 1, 0, []), (7, .aload_n 0, 0, 0, []), (8, .iload_n 2, 0, 0, []), (9, .invokevirtual 245, 151, 9, [2, 0, 0]), (12, .ifCond .ne 5, 2, 0, []), (15, .nop, 1, 0, [])], [(15, .iconst (-1), 0, 0, []), (16, .ireturn, 0, 0, [])], [(17, .aload_n 0, 0, 0, []), (18, .getfield 40, 9, 4, [0]), (21, .iload_n 1, 0, 0, []), (22, .iload_n 2, 0, 0, []), (23, .invokevirtual 248, 60, 5, [3, 0, 0]), (26, .ireturn, 0, 0, [])]]
def zB_137 : mzB := [[(0, .aload_n 0, 0, 0, []), (1, .iload_n 1, 0, 0, []), (2, .invokevirtual 245, 151, 9, [2, 0, 0]), (5, .ifCond .eq 16, 1, 0, []), (8, .aload_n 0, 0, 0, []), (9, .iload_n 2, 0, 0, []), (10, .invokevirtual 178, 152, 9, [2, 0, 0]), (13, .ifCond .eq 8, 1, 0, []), (16, .iload_n 1, 0, 0, []), (17, .iload_n 2, 0, 0, []), (18, .if_icmp .ne 5, 2, 0, []), (21, .nop, 1, 0, [])], [(21, .iconst (-1), 0, 0, []), (22, .ireturn, 0, 0, [])], [(23, .aload_n 0, 0, 0, []), (24, .getfield 40, 9, 4, [0]), (27, .iload_n 1, 0, 0, []), (28, .iload_n 2, 0, 0, []), (29, .invokevirtual 251, 61, 5, [3, 0, 0]), (32, .ireturn, 0, 0, [])]]
def zB_138 : mzB := [[(0, .aload_n 0, 0, 0, []), (1, .getfield 19, 9, 1, [0]), (4, .iload_n 1, 0, 0, []), (5, .invokevirtual 111, 12, 1, [2, 0, 0]), (8, .ifCond .ne 5, 1, 0, []), (11, .iconst (-1), 0, 0, []), (12, .ireturn, 0, 0, [])], [(13, .aload_n 0, 0, 0, []), (14, .getfield 40, 9, 4, [0]), (17, .getfield 134, 5, 3, [0]), (20, .iload_n 1, 0, 0, []), (21, .iaload, 0, 0, []), (22, .ifCond .ne 6, 2, 0, []), (25, .bipush (-3), 0, 0, []), (27, .ireturn, 0, 0, [])], [(28, .aload_n 0, 0, 0, []), (29, .getfield 49, 9, 5, [0]), (32, .iload_n 1, 0, 0, []), (33, .invokevirtual 254, 31, 3, [2, 0, 0]), (36, .iconst 0, 0, 0, []), (37, .invokestatic 174, 153, 9, [2, 0, 0]), (40, .ireturn, 0, 0, [])]]
def zB_139 : mzB := [[(0, .aload_n 0, 0, 0, []), (1, .getfield 19, 9, 1, [0]), (4, .iload_n 1, 0, 0, []), (5, .invokevirtual 111, 12, 1, [2, 0, 0]), (8, .ifCond .eq 7, 1, 0, []), (11, .iload_n 2, 0, 0, []), (12, .ifCond .ge 5, 2, 0, []), (15, .nop, 1, 0, [])], [(15, .iconst (-1), 0, 0, []), (16, .ireturn, 0, 0, [])], [(17, .aload_n 0, 0, 0, []), (18, .getfield 40, 9, 4, [0]), (21, .getfield 134, 5, 3, [0]), (24, .iload_n 1, 0, 0, []), (25, .iaload, 0, 0, []), (26, .ifCond .eq 6, 3, 0, []), (29, .bipush (-3), 0, 0, []), (31, .ireturn, 0, 0, [])], [(32, .aload_n 0, 0, 0, []), (33, .getfield 49, 9, 5, [0]), (36, .iload_n 1, 0, 0, []), (37, .invokevirtual 254, 31, 3, [2, 0, 0]), (40, .iload_n 2, 0, 0, []), (41, .invokestatic 174, 153, 9, [2, 0, 0]), (44, .ireturn, 0, 0, [])]]
def zB_140 : mzB := [[(0, .aload_n 0, 0, 0, []), (1, .getfield 19, 9, 1, [0]), (4, .iload_n 1, 0, 0, []), (5, .invokevirtual 111, 12, 1, [2, 0, 0]), (8, .ifCond .eq 21, 1, 0, []), (11, .iload_n 2, 0, 0, []), (12, .invokestatic 158, 150, 9, [1, 0, 0]), (15, .ifCond .eq 14, 1, 0, []), (18, .iload_n 3, 0, 0, []), (19, .iconst (-1), 0, 0, []), (20, .if_icmp .lt 9, 1, 0, []), (23, .iload_n 3, 0, 0, []), (24, .bipush 40, 0, 0, []), (26, .if_icmp .lt 7, 2, 0, []), (29, .nop, 1, 0, [])], [(29, .sipush (-1000), 0, 0, []), (32, .ireturn, 0, 0, [])], [(33, .aload_n 0, 0, 0, []), (34, .getfield 49, 9, 5, [0]), (37, .iload_n 1, 0, 0, []), (38, .iload_n 2, 0, 0, []), (39, .iload_n 3, 0, 0, []), (40, .invokevirtual 257, 32, 3, [4, 0, 0]), (43, .ireturn, 0, 0, [])]]
def zB_141 : mzB := [[(0, .aload_n 0, 0, 0, []), (1, .getfield 19, 9, 1, [0]), (4, .iload_n 1, 0, 0, []), (5, .invokevirtual 111, 12, 1, [2, 0, 0]), (8, .ifCond .eq 12, 1, 0, []), (11, .iload_n 2, 0, 0, []), (12, .ifCond .lt 8, 1, 0, []), (15, .iload_n 2, 0, 0, []), (16, .iconst 2, 0, 0, []), (17, .if_icmp .le 5, 2, 0, []), (20, .nop, 1, 0, [])], [(20, .iconst (-1), 0, 0, []), (21, .ireturn, 0, 0, [])], [(22, .aload_n 0, 0, 0, []), (23, .getfield 49, 9, 5, [0]), (26, .iload_n 1, 0, 0, []), (27, .invokevirtual 261, 35, 3, [2, 0, 0]), (30, .iload_n 2, 0, 0, []), (31, .iconst 2, 0, 0, []), (32, .if_icmp .ne 11, 3, 0, []), (35, .aload_n 0, 0, 0, []), (36, .getfield 49, 9, 5, [0]), (39, .getfield 264, 3, 6, [0]), (42, .ireturn, 0, 0, [])], [(43, .iload_n 2, 0, 0, []), (44, .ifCond .ne 13, 4, 0, []), (47, .aload_n 0, 0, 0, []), (48, .getfield 49, 9, 5, [0]), (51, .getfield 267, 3, 4, [0]), (54, .goto 10, 5, 0, [])], [(57, .aload_n 0, 0, 0, []), (58, .getfield 49, 9, 5, [0]), (61, .getfield 270, 3, 5, [0]), (64, .nop, 5, 0, [])], [(64, .ireturn, 0, 0, [])]]
def zB_142 : mzB := [[(0, .iload_n 1, 0, 0, []), (1, .invokestatic 158, 150, 9, [1, 0, 0]), (4, .ifCond .eq 14, 1, 0, []), (7, .iload_n 2, 0, 0, []), (8, .invokestatic 158, 150, 9, [1, 0, 0]), (11, .ifCond .eq 7, 1, 0, []), (14, .iload_n 3, 0, 0, []), (15, .ifCond .ge 5, 2, 0, []), (18, .nop, 1, 0, [])], [(18, .iconst (-1), 0, 0, []), (19, .ireturn, 0, 0, [])], [(20, .aload_n 0, 0, 0, []), (21, .getfield 40, 9, 4, [0]), (24, .iload_n 1, 0, 0, []), (25, .invokevirtual 161, 55, 5, [2, 0, 0]), (28, .iload_n 1, 0, 0, []), (29, .iload_n 2, 0, 0, []), (30, .isub, 0, 0, []), (31, .invokevirtual 273, 106, 8, [2, 0, 0]), (34, .iload_n 3, 0, 0, []), (35, .invokestatic 174, 153, 9, [2, 0, 0]), (38, .ireturn, 0, 0, [])]]
def zB_143 : mzB := [[(0, .aload_n 0, 0, 0, []), (1, .getfield 19, 9, 1, [0]), (4, .iload_n 1, 0, 0, []), (5, .invokevirtual 111, 12, 1, [2, 0, 0]), (8, .ifCond .eq 30, 1, 0, []), (11, .aload_n 0, 0, 0, []), (12, .getfield 19, 9, 1, [0]), (15, .iload_n 2, 0, 0, []), (16, .invokevirtual 111, 12, 1, [2, 0, 0]), (19, .ifCond .eq 19, 1, 0, []), (22, .iload_n 1, 0, 0, []), (23, .iload_n 2, 0, 0, []), (24, .if_icmp .eq 14, 1, 0, []), (27, .iload_n 3, 0, 0, []), (28, .iconst (-1), 0, 0, []), (29, .if_icmp .lt 9, 1, 0, []), (32, .iload_n 3, 0, 0, []), (33, .bipush 40, 0, 0, []), (35, .if_icmp .lt 7, 2, 0, []), (38, .nop, 1, 0, [])], [(38, .sipush (-1000), 0, 0, []), (41, .ireturn, 0, 0, [])], [(42, .aload_n 0, 0, 0, []), (43, .getfield 49, 9, 5, [0]), (46, .iload_n 1, 0, 0, []), (47, .iload_n 2, 0, 0, []), (48, .iload_n 3, 0, 0, []), (49, .invokevirtual 276, 33, 3, [4, 0, 0]), (52, .ireturn, 0, 0, [])]]
def zB_144 : mzB := [[(0, .aload_n 0, 0, 0, []), (1, .iload_n 1, 0, 0, []), (2, .invokevirtual 178, 152, 9, [2, 0, 0]), (5, .ifCond .eq 12, 1, 0, []), (8, .iload_n 2, 0, 0, []), (9, .ifCond .lt 8, 1, 0, []), (12, .iload_n 2, 0, 0, []), (13, .iconst 1, 0, 0, []), (14, .if_icmp .le 5, 2, 0, []), (17, .nop, 1, 0, [])], [(17, .iconst (-1), 0, 0, []), (18, .ireturn, 0, 0, [])], [(19, .aload_n 0, 0, 0, []), (20, .getfield 40, 9, 4, [0]), (23, .iload_n 1, 0, 0, []), (24, .iload_n 2, 0, 0, []), (25, .ifCond .ne 7, 3, 0, []), (28, .iconst 1, 0, 0, []), (29, .goto 4, 4, 0, [])], [(32, .iconst 0, 0, 0, []), (33, .nop, 4, 0, [])], [(33, .invokevirtual 279, 63, 5, [3, 0, 0]), (36, .ireturn, 0, 0, [])]]
def zB_145 : mzB := [[(0, .iload_n 1, 0, 0, []), (1, .invokestatic 155, 149, 9, [1, 0, 0]), (4, .ifCond .eq 14, 1, 0, []), (7, .aload_n 0, 0, 0, []), (8, .getfield 40, 9, 4, [0]), (11, .iload_n 1, 0, 0, []), (12, .invokevirtual 283, 62, 5, [2, 0, 0]), (15, .goto 4, 2, 0, [])], [(18, .iconst (-1), 0, 0, []), (19, .nop, 2, 0, [])], [(19, .ireturn, 0, 0, [])]]
def zB_146 : mzB := [[(0, .iload_n 1, 0, 0, []), (1, .invokestatic 155, 149, 9, [1, 0, 0]), (4, .ifCond .eq 16, 1, 0, []), (7, .iload_n 2, 0, 0, []), (8, .ifCond .lt 12, 1, 0, []), (11, .iload_n 3, 0, 0, []), (12, .ifCond .lt 8, 1, 0, []), (15, .iload_n 3, 0, 0, []), (16, .iconst 2, 0, 0, []), (17, .if_icmp .le 5, 2, 0, []), (20, .nop, 1, 0, [])], [(20, .iconst (-1), 0, 0, []), (21, .ireturn, 0, 0, [])], [(22, .aload_n 0, 0, 0, []), (23, .getfield 40, 9, 4, [0]), (26, .iload_n 1, 0, 0, []), (27, .iload_n 2, 0, 0, []), (28, .invokevirtual 286, 68, 5, [3, 0, 0]), (31, .istore 4, 0, 0, []), (33, .iload 4, 0, 0, []), (35, .bipush (-2), 0, 0, []), (37, .if_icmp .eq 8, 3, 0, []), (40, .iload_n 3, 0, 0, []), (41, .iconst 2, 0, 0, []), (42, .if_icmp .ne 6, 4, 0, []), (45, .nop, 3, 0, [])], [(45, .iload 4, 0, 0, []), (47, .ireturn, 0, 0, [])], [(48, .iload_n 3, 0, 0, []), (49, .ifCond .ne 16, 5, 0, []), (52, .aload_n 0, 0, 0, []), (53, .getfield 19, 9, 1, [0]), (56, .getfield 131, 1, 5, [0]), (59, .iload 4, 0, 0, []), (61, .iaload, 0, 0, []), (62, .goto 13, 6, 0, [])], [(65, .aload_n 0, 0, 0, []), (66, .getfield 19, 9, 1, [0]), (69, .getfield 121, 1, 2, [0]), (72, .iload 4, 0, 0, []), (74, .iaload, 0, 0, []), (75, .nop, 6, 0, [])], [(75, .ireturn, 0, 0, [])]]
def zB_147 : mzB := [[(0, .iload_n 1, 0, 0, []), (1, .invokestatic 155, 149, 9, [1, 0, 0]), (4, .ifCond .eq 21, 1, 0, []), (7, .iload_n 2, 0, 0, []), (8, .invokestatic 158, 150, 9, [1, 0, 0]), (11, .ifCond .eq 14, 1, 0, []), (14, .aload_n 0, 0, 0, []), (15, .getfield 19, 9, 1, [0]), (18, .iload_n 3, 0, 0, []), (19, .invokevirtual 104, 11, 1, [2, 0, 0]), (22, .ifCond .ne 5, 2, 0, []), (25, .nop, 1, 0, [])], [(25, .iconst (-1), 0, 0, []), (26, .ireturn, 0, 0, [])], [(27, .aload_n 0, 0, 0, []), (28, .getfield 40, 9, 4, [0]), (31, .iload_n 2, 0, 0, []), (32, .invokevirtual 161, 55, 5, [2, 0, 0]), (35, .astore 4, 0, 0, []), (37, .aload 4, 0, 0, []), (39, .iload_n 1, 0, 0, []), (40, .invokevirtual 195, 91, 8, [2, 0, 0]), (43, .istore 5, 0, 0, []), (45, .iload 5, 0, 0, []), (47, .ifCond .lt 9, 3, 0, []), (50, .iload 5, 0, 0, []), (52, .iload_n 3, 0, 0, []), (53, .if_icmp .ne 15, 6, 0, []), (56, .nop, 3, 0, [])], [(56, .iload 5, 0, 0, []), (58, .ifCond .ge 8, 4, 0, []), (61, .iload 5, 0, 0, []), (63, .goto 4, 5, 0, [])], [(66, .iload_n 2, 0, 0, []), (67, .nop, 5, 0, [])], [(67, .ireturn, 0, 0, [])], [(68, .aload_n 0, 0, 0, []), (69, .getfield 19, 9, 1, [0]), (72, .iload 5, 0, 0, []), (74, .iload_n 3, 0, 0, []), (75, .invokevirtual 107, 17, 1, [3, 0, 0]), (78, .istore 6, 0, 0, []), (80, .iload 6, 0, 0, []), (82, .bipush (-2), 0, 0, []), (84, .if_icmp .ne 8, 7, 0, []), (87, .bipush (-2), 0, 0, []), (89, .goto 16, 8, 0, [])], [(92, .iload_n 2, 0, 0, []), (93, .aload 4, 0, 0, []), (95, .iload_n 1, 0, 0, []), (96, .invokevirtual 289, 92, 8, [2, 0, 0]), (99, .iload 6, 0, 0, []), (101, .iadd, 0, 0, []), (102, .invokestatic 292, 0, 0, [1]), (105, .nop, 8, 0, [])], [(105, .ireturn, 0, 0, [])]]
def zB_148 : mzB := [[(0, .iload_n 1, 0, 0, []), (1, .tableswitch 99 0 6 #[43, 51, 59, 67, 75, 83, 91], 8, 0, [1, 2, 3, 4, 5, 6, 7])], [(44, .aload_n 0, 0, 0, []), (45, .getfield 19, 9, 1, [0]), (48, .getfield 297, 1, 7, [0]), (51, .ireturn, 0, 0, [])], [(52, .aload_n 0, 0, 0, []), (53, .getfield 19, 9, 1, [0]), (56, .getfield 300, 1, 8, [0]), (59, .ireturn, 0, 0, [])], [(60, .aload_n 0, 0, 0, []), (61, .getfield 19, 9, 1, [0]), (64, .getfield 191, 1, 9, [0]), (67, .ireturn, 0, 0, [])], [(68, .aload_n 0, 0, 0, []), (69, .getfield 19, 9, 1, [0]), (72, .invokevirtual 303, 21, 1, [1, 0, 0]), (75, .ireturn, 0, 0, [])], [(76, .aload_n 0, 0, 0, []), (77, .getfield 19, 9, 1, [0]), (80, .getfield 307, 1, 10, [0]), (83, .ireturn, 0, 0, [])], [(84, .aload_n 0, 0, 0, []), (85, .getfield 19, 9, 1, [0]), (88, .getfield 310, 1, 11, [0]), (91, .ireturn, 0, 0, [])], [(92, .aload_n 0, 0, 0, []), (93, .getfield 10, 9, 0, [0]), (96, .getfield 68, 6, 1, [0]), (99, .ireturn, 0, 0, [])], [(100, .iconst (-1), 0, 0, []), (101, .ireturn, 0, 0, [])]]
def zB_149 : mzB := [[(0, .iload_n 0, 0, 0, []), (1, .ifCond .lt 13, 1, 0, []), (4, .iload_n 0, 0, 0, []), (5, .bipush 40, 0, 0, []), (7, .if_icmp .ge 7, 1, 0, []), (10, .iconst 1, 0, 0, []), (11, .goto 4, 2, 0, [])], [(14, .iconst 0, 0, 0, []), (15, .nop, 2, 0, [])], [(15, .ireturn, 1, 0, [])]]
def zB_150 : mzB := [[(0, .iload_n 0, 0, 0, []), (1, .ifCond .lt 14, 1, 0, []), (4, .iload_n 0, 0, 0, []), (5, .sipush 999, 0, 0, []), (8, .if_icmp .gt 7, 1, 0, []), (11, .iconst 1, 0, 0, []), (12, .goto 4, 2, 0, [])], [(15, .iconst 0, 0, 0, []), (16, .nop, 2, 0, [])], [(16, .ireturn, 1, 0, [])]]
def zB_151 : mzB := [[(0, .iload_n 1, 0, 0, []), (1, .bipush (-3), 0, 0, []), (3, .if_icmp .eq 14, 1, 0, []), (6, .aload_n 0, 0, 0, []), (7, .getfield 19, 9, 1, [0]), (10, .iload_n 1, 0, 0, []), (11, .invokevirtual 104, 11, 1, [2, 0, 0]), (14, .ifCond .eq 7, 2, 0, []), (17, .nop, 1, 0, [])], [(17, .iconst 1, 0, 0, []), (18, .goto 4, 3, 0, [])], [(21, .iconst 0, 0, 0, []), (22, .nop, 3, 0, [])], [(22, .ireturn, 1, 0, [])]]
def zB_152 : mzB := [[(0, .iload_n 1, 0, 0, []), (1, .bipush (-4), 0, 0, []), (3, .if_icmp .eq 11, 1, 0, []), (6, .aload_n 0, 0, 0, []), (7, .iload_n 1, 0, 0, []), (8, .invokevirtual 245, 151, 9, [2, 0, 0]), (11, .ifCond .eq 7, 2, 0, []), (14, .nop, 1, 0, [])], [(14, .iconst 1, 0, 0, []), (15, .goto 4, 3, 0, [])], [(18, .iconst 0, 0, 0, []), (19, .nop, 3, 0, [])], [(19, .ireturn, 1, 0, [])]]
def zB_153 : mzB := [[(0, .iconst 0, 0, 0, []), (1, .istore_n 3, 0, 0, []), (2, .iconst 0, 0, 0, []), (3, .istore 4, 0, 0, []), (5, .nop, 1, 0, [])], [(5, .iload 4, 0, 0, []), (7, .bipush 64, 0, 0, []), (9, .if_icmp .ge 31, 4, 0, []), (12, .lload_n 0, 0, 0, []), (13, .iload 4, 0, 0, []), (15, .lushr, 0, 0, []), (16, .lconst 1, 0, 0, []), (17, .land, 0, 0, []), (18, .lconst 0, 0, 0, []), (19, .lcmp, 0, 0, []), (20, .ifCond .eq 14, 3, 0, []), (23, .iload_n 3, 0, 0, []), (24, .iload_n 2, 0, 0, []), (25, .if_icmp .ne 6, 2, 0, []), (28, .iload 4, 0, 0, []), (30, .ireturn, 0, 0, [])], [(31, .iinc 3 1, 0, 0, []), (34, .nop, 3, 0, [])], [(34, .iinc 4 1, 0, 0, []), (37, .goto (-32), 1, 0, [])], [(40, .bipush (-2), 0, 0, []), (42, .ireturn, 0, 0, [])]]
def zB_154 : mzB := [[(0, .aload_n 0, 0, 0, []), (1, .invokespecial 1, 0, 0, [0]), (4, .aload_n 0, 0, 0, []), (5, .sipush 900, 0, 0, []), (8, .newarray .int, 0, 0, [0]), (10, .putfield 7, 10, 1, [2]), (13, .aload_n 0, 0, 0, []), (14, .sipush 369, 0, 0, []), (17, .newarray .int, 0, 0, [0]), (19, .putfield 13, 10, 3, [2]), (22, .aload_n 0, 0, 0, []), (23, .sipush 369, 0, 0, []), (26, .newarray .int, 0, 0, [0]), (28, .putfield 16, 10, 4, [2]), (31, .aload_n 0, 0, 0, []), (32, .bipush 8, 0, 0, []), (34, .newarray .int, 0, 0, [0]), (36, .putfield 19, 10, 5, [2]), (39, .aload_n 0, 0, 0, []), (40, .bipush 8, 0, 0, []), (42, .newarray .int, 0, 0, [0]), (44, .putfield 22, 10, 6, [2]), (47, .aload_n 0, 0, 0, []), (48, .iconst (-1), 0, 0, []), (49, .putfield 25, 10, 16, [0]), (52, .aload_n 0, 0, 0, []), (53, .bipush 64, 0, 0, []), (55, .newarray .int, 0, 0, [0]), (57, .putfield 29, 10, 20, [2]), (60, .aload_n 0, 0, 0, []), (61, .bipush 40, 0, 0, []), (63, .newarray .boolean, 1, 0, [0]), (65, .putfield 32, 10, 21, [2]), (68, .aload_n 0, 0, 0, []), (69, .bipush 40, 0, 0, []), (71, .newarray .int, 0, 0, [0]), (73, .putfield 36, 10, 22, [2]), (76, .aload_n 0, 0, 0, []), (77, .bipush 40, 0, 0, []), (79, .newarray .int, 0, 0, [0]), (81, .putfield 39, 10, 23, [2]), (84, .aload_n 0, 0, 0, []), (85, .bipush 40, 0, 0, []), (87, .newarray .int, 0, 0, [0]), (89, .putfield 42, 10, 24, [2]), (92, .aload_n 0, 0, 0, []), (93, .bipush 40, 0, 0, []), (95, .newarray .int, 0, 0, [0]), (97, .putfield 45, 10, 25, [2]), (100, .aload_n 0, 0, 0, []), (101, .bipush 40, 0, 0, []), (103, .newarray .int, 0, 0, [0]), (105, .putfield 48, 10, 26, [2]), (108, .aload_n 0, 0, 0, []), (109, .bipush 40, 0, 0, []), (111, .newarray .boolean, 1, 0, [0]), (113, .putfield 51, 10, 27, [2]), (116, .aload_n 0, 0, 0, []), (117, .bipush 40, 0, 0, []), (119, .newarray .boolean, 1, 0, [0]), (121, .putfield 54, 10, 28, [2]), (124, .aload_n 0, 0, 0, []), (125, .bipush 40, 0, 0, []), (127, .newarray .boolean, 1, 0, [0]), (129, .putfield 57, 10, 29, [2]), (132, .aload_n 0, 0, 0, []), (133, .bipush 40, 0, 0, []), (135, .newarray .boolean, 1, 0, [0]), (137, .putfield 60, 10, 30, [2]), (140, .aload_n 0, 0, 0, []), (141, .bipush 60, 0, 0, []), (143, .newarray .boolean, 1, 0, [0]), (145, .putfield 63, 10, 31, [2]), (148, .aload_n 0, 0, 0, []), (149, .bipush 60, 0, 0, []), (151, .newarray .int, 0, 0, [0]), (153, .putfield 66, 10, 32, [2]), (156, .aload_n 0, 0, 0, []), (157, .bipush 60, 0, 0, []), (159, .newarray .int, 0, 0, [0]), (161, .putfield 69, 10, 33, [2]), (164, .aload_n 0, 0, 0, []), (165, .bipush 60, 0, 0, []), (167, .newarray .int, 0, 0, [0]), (169, .putfield 72, 10, 35, [2]), (172, .aload_n 0, 0, 0, []), (173, .bipush 40, 0, 0, []), (175, .newarray .boolean, 1, 0, [0]), (177, .putfield 75, 10, 36, [2]), (180, .aload_n 0, 0, 0, []), (181, .bipush 61, 0, 0, []), (183, .newarray .int, 0, 0, [0]), (185, .putfield 78, 10, 37, [2]), (188, .aload_n 0, 0, 0, []), (189, .bipush 61, 0, 0, []), (191, .newarray .int, 0, 0, [0]), (193, .putfield 81, 10, 38, [2]), (196, .aload_n 0, 0, 0, []), (197, .bipush 40, 0, 0, []), (199, .newarray .int, 0, 0, [0]), (201, .putfield 84, 10, 40, [2]), (204, .aload_n 0, 0, 0, []), (205, .bipush 40, 0, 0, []), (207, .newarray .boolean, 1, 0, [0]), (209, .putfield 87, 10, 44, [2]), (212, .aload_n 0, 0, 0, []), (213, .invokevirtual 90, 172, 10, [1, 0, 0]), (216, .aload_n 0, 0, 0, []), (217, .invokevirtual 93, 174, 10, [1, 0, 0]), (220, .return_, 0, 0, [])]]
def zB_155 : mzB := [[(0, .aload_n 0, 0, 0, []), (1, .iconst 0, 0, 0, []), (2, .putfield 96, 10, 0, [0]), (5, .aload_n 0, 0, 0, []), (6, .getfield 99, 10, 2, [0]), (9, .sipush 880, 0, 0, []), (12, .if_icmp .le 5, 1, 0, []), (15, .iconst (-1), 0, 0, []), (16, .ireturn, 0, 0, [])], [(17, .iconst 0, 0, 0, []), (18, .istore 6, 0, 0, []), (20, .nop, 2, 0, [])], [(20, .iload 6, 0, 0, []), (22, .bipush 20, 0, 0, []), (24, .if_icmp .ge 86, 8, 0, []), (27, .iload 6, 0, 0, []), (29, .iconst 4, 0, 0, []), (30, .if_icmp .ge 7, 3, 0, []), (33, .iload_n 1, 0, 0, []), (34, .goto 39, 7, 0, [])], [(37, .iload 6, 0, 0, []), (39, .bipush 8, 0, 0, []), (41, .if_icmp .ge 7, 4, 0, []), (44, .iload_n 2, 0, 0, []), (45, .goto 28, 7, 0, [])], [(48, .iload 6, 0, 0, []), (50, .bipush 12, 0, 0, []), (52, .if_icmp .ge 7, 5, 0, []), (55, .iload_n 3, 0, 0, []), (56, .goto 17, 7, 0, [])], [(59, .iload 6, 0, 0, []), (61, .bipush 16, 0, 0, []), (63, .if_icmp .ge 8, 6, 0, []), (66, .iload 4, 0, 0, []), (68, .goto 5, 7, 0, [])], [(71, .iload 5, 0, 0, []), (73, .nop, 7, 0, [])], [(73, .istore 7, 0, 0, []), (75, .aload_n 0, 0, 0, []), (76, .getfield 7, 10, 1, [0]), (79, .aload_n 0, 0, 0, []), (80, .getfield 99, 10, 2, [0]), (83, .iload 6, 0, 0, []), (85, .iadd, 0, 0, []), (86, .iload 7, 0, 0, []), (88, .bipush 24, 0, 0, []), (90, .bipush 8, 0, 0, []), (92, .iload 6, 0, 0, []), (94, .iconst 4, 0, 0, []), (95, .irem, 0, 0, []), (96, .imul, 0, 0, []), (97, .isub, 0, 0, []), (98, .ishr, 0, 0, []), (99, .sipush 255, 0, 0, []), (102, .iand, 0, 0, []), (103, .iastore, 0, 0, []), (104, .iinc 6 1, 0, 0, []), (107, .goto (-87), 2, 0, [])], [(110, .aload_n 0, 0, 0, []), (111, .dup, 0, 0, []), (112, .getfield 99, 10, 2, [0]), (115, .bipush 20, 0, 0, []), (117, .iadd, 0, 0, []), (118, .putfield 99, 10, 2, [0]), (121, .aload_n 0, 0, 0, []), (122, .getfield 99, 10, 2, [0]), (125, .ireturn, 0, 0, [])]]
def zB_156 : mzB := [[(0, .aload_n 0, 0, 0, []), (1, .getfield 102, 10, 8, [0]), (4, .aload_n 0, 0, 0, []), (5, .getfield 105, 10, 7, [0]), (8, .if_icmp .ge 15, 1, 0, []), (11, .aload_n 0, 0, 0, []), (12, .getfield 7, 10, 1, [0]), (15, .aload_n 0, 0, 0, []), (16, .getfield 102, 10, 8, [0]), (19, .iaload, 0, 0, []), (20, .goto 4, 2, 0, [])], [(23, .iconst (-1), 0, 0, []), (24, .nop, 2, 0, [])], [(24, .ireturn, 0, 0, [])]]
def zB_157 : mzB := [[(0, .iload_n 0, 0, 0, []), (1, .bipush 97, 0, 0, []), (3, .if_icmp .lt 13, 1, 0, []), (6, .iload_n 0, 0, 0, []), (7, .bipush 122, 0, 0, []), (9, .if_icmp .gt 7, 1, 0, []), (12, .iconst 1, 0, 0, []), (13, .goto 4, 2, 0, [])], [(16, .iconst 0, 0, 0, []), (17, .nop, 2, 0, [])], [(17, .ireturn, 1, 0, [])]]
def zB_158 : mzB := [[(0, .iload_n 0, 0, 0, []), (1, .bipush 48, 0, 0, []), (3, .if_icmp .lt 13, 1, 0, []), (6, .iload_n 0, 0, 0, []), (7, .bipush 57, 0, 0, []), (9, .if_icmp .gt 7, 1, 0, []), (12, .iconst 1, 0, 0, []), (13, .goto 4, 2, 0, [])], [(16, .iconst 0, 0, 0, []), (17, .nop, 2, 0, [])], [(17, .ireturn, 1, 0, [])]]
def zB_159 : mzB := [[(0, .aload_n 0, 0, 0, []), (1, .invokevirtual 108, 156, 10, [1, 0, 0]), (4, .bipush 10, 0, 0, []), (6, .if_icmp .eq 12, 1, 0, []), (9, .aload_n 0, 0, 0, []), (10, .invokevirtual 108, 156, 10, [1, 0, 0]), (13, .bipush 32, 0, 0, []), (15, .if_icmp .ne 16, 2, 0, []), (18, .nop, 1, 0, [])], [(18, .aload_n 0, 0, 0, []), (19, .dup, 0, 0, []), (20, .getfield 102, 10, 8, [0]), (23, .iconst 1, 0, 0, []), (24, .iadd, 0, 0, []), (25, .putfield 102, 10, 8, [0]), (28, .goto (-28), 0, 0, [])], [(31, .aload_n 0, 0, 0, []), (32, .aload_n 0, 0, 0, []), (33, .getfield 102, 10, 8, [0]), (36, .putfield 112, 10, 9, [0]), (39, .aload_n 0, 0, 0, []), (40, .invokevirtual 108, 156, 10, [1, 0, 0]), (43, .istore_n 1, 0, 0, []), (44, .iload_n 1, 0, 0, []), (45, .iconst (-1), 0, 0, []), (46, .if_icmp .ne 11, 3, 0, []), (49, .aload_n 0, 0, 0, []), (50, .iconst 3, 0, 0, []), (51, .putfield 115, 10, 10, [0]), (54, .goto 207, 16, 0, [])], [(57, .iload_n 1, 0, 0, []), (58, .invokestatic 118, 157, 10, [1, 0, 0]), (61, .ifCond .eq 99, 9, 0, []), (64, .aload_n 0, 0, 0, []), (65, .iconst 0, 0, 0, []), (66, .putfield 122, 10, 12, [0]), (69, .nop, 4, 0, [])], [(69, .aload_n 0, 0, 0, []), (70, .invokevirtual 108, 156, 10, [1, 0, 0]), (73, .invokestatic 118, 157, 10, [1, 0, 0]), (76, .ifCond .eq 50, 6, 0, []), (79, .aload_n 0, 0, 0, []), (80, .getfield 102, 10, 8, [0]), (83, .aload_n 0, 0, 0, []), (84, .getfield 112, 10, 9, [0]), (87, .isub, 0, 0, []), (88, .bipush 6, 0, 0, []), (90, .if_icmp .ge 23, 5, 0, []), (93, .aload_n 0, 0, 0, []), (94, .aload_n 0, 0, 0, []), (95, .getfield 122, 10, 12, [0]), (98, .iconst 5, 0, 0, []), (99, .ishl, 0, 0, []), (100, .aload_n 0, 0, 0, []), (101, .invokevirtual 108, 156, 10, [1, 0, 0]), (104, .bipush 97, 0, 0, []), (106, .isub, 0, 0, []), (107, .iconst 1, 0, 0, []), (108, .iadd, 0, 0, []), (109, .ior, 0, 0, []), (110, .putfield 122, 10, 12, [0]), (113, .nop, 5, 0, [])], [(113, .aload_n 0, 0, 0, []), (114, .dup, 0, 0, []), (115, .getfield 102, 10, 8, [0]), (118, .iconst 1, 0, 0, []), (119, .iadd, 0, 0, []), (120, .putfield 102, 10, 8, [0]), (123, .goto (-54), 4, 0, [])], [(126, .aload_n 0, 0, 0, []), (127, .aload_n 0, 0, 0, []), (128, .getfield 102, 10, 8, [0]), (131, .aload_n 0, 0, 0, []), (132, .getfield 112, 10, 9, [0]), (135, .isub, 0, 0, []), (136, .bipush 6, 0, 0, []), (138, .if_icmp .gt 7, 7, 0, []), (141, .iconst 0, 0, 0, []), (142, .goto 4, 8, 0, [])], [(145, .iconst 4, 0, 0, []), (146, .nop, 8, 0, [])], [(146, .putfield 115, 10, 10, [0]), (149, .aload_n 0, 0, 0, []), (150, .aload_n 0, 0, 0, []), (151, .invokevirtual 125, 160, 10, [1, 0, 0]), (154, .putfield 128, 10, 11, [0]), (157, .goto 104, 16, 0, [])], [(160, .iload_n 1, 0, 0, []), (161, .invokestatic 131, 158, 10, [1, 0, 0]), (164, .ifCond .eq 72, 13, 0, []), (167, .aload_n 0, 0, 0, []), (168, .iconst 1, 0, 0, []), (169, .putfield 115, 10, 10, [0]), (172, .aload_n 0, 0, 0, []), (173, .iconst 0, 0, 0, []), (174, .putfield 128, 10, 11, [0]), (177, .nop, 10, 0, [])], [(177, .aload_n 0, 0, 0, []), (178, .invokevirtual 108, 156, 10, [1, 0, 0]), (181, .invokestatic 131, 158, 10, [1, 0, 0]), (184, .ifCond .eq 77, 16, 0, []), (187, .aload_n 0, 0, 0, []), (188, .aload_n 0, 0, 0, []), (189, .getfield 128, 10, 11, [0]), (192, .sipush 9999, 0, 0, []), (195, .if_icmp .le 10, 11, 0, []), (198, .aload_n 0, 0, 0, []), (199, .getfield 128, 10, 11, [0]), (202, .goto 18, 12, 0, [])], [(205, .bipush 10, 0, 0, []), (207, .aload_n 0, 0, 0, []), (208, .getfield 128, 10, 11, [0]), (211, .imul, 0, 0, []), (212, .aload_n 0, 0, 0, []), (213, .invokevirtual 108, 156, 10, [1, 0, 0]), (216, .iadd, 0, 0, []), (217, .bipush 48, 0, 0, []), (219, .isub, 0, 0, []), (220, .nop, 12, 0, [])], [(220, .putfield 128, 10, 11, [0]), (223, .aload_n 0, 0, 0, []), (224, .dup, 0, 0, []), (225, .getfield 102, 10, 8, [0]), (228, .iconst 1, 0, 0, []), (229, .iadd, 0, 0, []), (230, .putfield 102, 10, 8, [0]), (233, .goto (-56), 10, 0, [])], [(236, .aload_n 0, 0, 0, []), (237, .iload_n 1, 0, 0, []), (238, .bipush 59, 0, 0, []), (240, .if_icmp .ne 7, 14, 0, []), (243, .iconst 2, 0, 0, []), (244, .goto 4, 15, 0, [])], [(247, .iconst 4, 0, 0, []), (248, .nop, 15, 0, [])], [(248, .putfield 115, 10, 10, [0]), (251, .aload_n 0, 0, 0, []), (252, .dup, 0, 0, []), (253, .getfield 102, 10, 8, [0]), (256, .iconst 1, 0, 0, []), (257, .iadd, 0, 0, []), (258, .putfield 102, 10, 8, [0]), (261, .nop, 16, 0, [])], [(261, .return_, 0, 0, [])]]
def zB_160 : mzB := [[(0, .iconst 0, 0, 0, []), (1, .istore_n 1, 0, 0, []), (2, .iconst 0, 0, 0, []), (3, .istore_n 2, 0, 0, []), (4, .nop, 1, 0, [])], [(4, .iload_n 2, 0, 0, []), (5, .ldc 134, 0, 0, []), (7, .invokevirtual 136, 0, 0, []), (10, .if_icmp .ge 113, 6, 0, []), (13, .iconst 0, 0, 0, []), (14, .istore_n 3, 0, 0, []), (15, .nop, 2, 0, [])], [(15, .ldc 134, 0, 0, []), (17, .iload_n 2, 0, 0, []), (18, .iload_n 3, 0, 0, []), (19, .iadd, 0, 0, []), (20, .invokevirtual 141, 0, 0, []), (23, .bipush 32, 0, 0, []), (25, .if_icmp .eq 44, 3, 0, []), (28, .aload_n 0, 0, 0, []), (29, .getfield 112, 10, 9, [0]), (32, .iload_n 3, 0, 0, []), (33, .iadd, 0, 0, []), (34, .aload_n 0, 0, 0, []), (35, .getfield 102, 10, 8, [0]), (38, .if_icmp .ge 31, 3, 0, []), (41, .aload_n 0, 0, 0, []), (42, .getfield 7, 10, 1, [0]), (45, .aload_n 0, 0, 0, []), (46, .getfield 112, 10, 9, [0]), (49, .iload_n 3, 0, 0, []), (50, .iadd, 0, 0, []), (51, .iaload, 0, 0, []), (52, .ldc 134, 0, 0, []), (54, .iload_n 2, 0, 0, []), (55, .iload_n 3, 0, 0, []), (56, .iadd, 0, 0, []), (57, .invokevirtual 141, 0, 0, []), (60, .if_icmp .ne 9, 3, 0, []), (63, .iinc 3 1, 0, 0, []), (66, .goto (-51), 2, 0, [])], [(69, .ldc 134, 0, 0, []), (71, .iload_n 2, 0, 0, []), (72, .iload_n 3, 0, 0, []), (73, .iadd, 0, 0, []), (74, .invokevirtual 141, 0, 0, []), (77, .bipush 32, 0, 0, []), (79, .if_icmp .ne 18, 4, 0, []), (82, .aload_n 0, 0, 0, []), (83, .getfield 112, 10, 9, [0]), (86, .iload_n 3, 0, 0, []), (87, .iadd, 0, 0, []), (88, .aload_n 0, 0, 0, []), (89, .getfield 102, 10, 8, [0]), (92, .if_icmp .ne 5, 4, 0, []), (95, .iload_n 1, 0, 0, []), (96, .ireturn, 0, 0, [])], [(97, .ldc 134, 0, 0, []), (99, .iload_n 2, 0, 0, []), (100, .invokevirtual 141, 0, 0, []), (103, .bipush 32, 0, 0, []), (105, .if_icmp .eq 9, 5, 0, []), (108, .iinc 2 1, 0, 0, []), (111, .goto (-14), 4, 0, [])], [(114, .iinc 2 1, 0, 0, []), (117, .iinc 1 1, 0, 0, []), (120, .goto (-116), 1, 0, [])], [(123, .iconst (-1), 0, 0, []), (124, .ireturn, 0, 0, [])]]
def zB_161 : mzB := [[(0, .aload_n 0, 0, 0, []), (1, .getfield 145, 10, 13, [0]), (4, .ifCond .eq 4, 1, 0, []), (7, .return_, 0, 0, [])], [(8, .aload_n 0, 0, 0, []), (9, .iload_n 1, 0, 0, []), (10, .putfield 145, 10, 13, [0]), (13, .aload_n 0, 0, 0, []), (14, .aload_n 0, 0, 0, []), (15, .getfield 112, 10, 9, [0]), (18, .putfield 148, 10, 14, [0]), (21, .return_, 0, 0, [])]]
def zB_162 : mzB := [[(0, .aload_n 0, 0, 0, []), (1, .getfield 145, 10, 13, [0]), (4, .ifCond .ne 7, 1, 0, []), (7, .aload_n 0, 0, 0, []), (8, .invokevirtual 151, 159, 10, [1, 0, 0]), (11, .nop, 1, 0, [])], [(11, .return_, 0, 0, [])]]
def zB_163 : mzB := [[(0, .aload_n 0, 0, 0, []), (1, .getfield 145, 10, 13, [0]), (4, .ifCond .eq 5, 1, 0, []), (7, .iload_n 1, 0, 0, []), (8, .ireturn, 0, 0, [])], [(9, .aload_n 0, 0, 0, []), (10, .getfield 115, 10, 10, [0]), (13, .iconst 1, 0, 0, []), (14, .if_icmp .eq 11, 2, 0, []), (17, .aload_n 0, 0, 0, []), (18, .iconst 1, 0, 0, []), (19, .invokevirtual 154, 161, 10, [2, 0, 0]), (22, .goto 24, 4, 0, [])], [(25, .aload_n 0, 0, 0, []), (26, .getfield 128, 10, 11, [0]), (29, .iload_n 1, 0, 0, []), (30, .if_icmp .lt 11, 3, 0, []), (33, .aload_n 0, 0, 0, []), (34, .getfield 128, 10, 11, [0]), (37, .iload_n 2, 0, 0, []), (38, .if_icmp .le 8, 4, 0, []), (41, .nop, 3, 0, [])], [(41, .aload_n 0, 0, 0, []), (42, .iconst 2, 0, 0, []), (43, .invokevirtual 154, 161, 10, [2, 0, 0]), (46, .nop, 4, 0, [])], [(46, .aload_n 0, 0, 0, []), (47, .getfield 145, 10, 13, [0]), (50, .ifCond .ne 10, 5, 0, []), (53, .aload_n 0, 0, 0, []), (54, .getfield 128, 10, 11, [0]), (57, .goto 4, 6, 0, [])], [(60, .iload_n 1, 0, 0, []), (61, .nop, 6, 0, [])], [(61, .istore_n 3, 0, 0, []), (62, .aload_n 0, 0, 0, []), (63, .invokevirtual 158, 162, 10, [1, 0, 0]), (66, .iload_n 3, 0, 0, []), (67, .ireturn, 0, 0, [])]]
def zB_164 : mzB := [[(0, .aload_n 0, 0, 0, []), (1, .getfield 145, 10, 13, [0]), (4, .ifCond .ne 18, 1, 0, []), (7, .aload_n 0, 0, 0, []), (8, .getfield 115, 10, 10, [0]), (11, .ifCond .ne 11, 1, 0, []), (14, .aload_n 0, 0, 0, []), (15, .getfield 128, 10, 11, [0]), (18, .iconst (-1), 0, 0, []), (19, .if_icmp .eq 5, 2, 0, []), (22, .nop, 1, 0, [])], [(22, .iconst (-1), 0, 0, []), (23, .ireturn, 0, 0, [])], [(24, .iconst 0, 0, 0, []), (25, .istore_n 1, 0, 0, []), (26, .nop, 3, 0, [])], [(26, .iload_n 1, 0, 0, []), (27, .aload_n 0, 0, 0, []), (28, .getfield 16, 10, 4, [0]), (31, .iconst 0, 0, 0, []), (32, .iaload, 0, 0, []), (33, .if_icmp .ge 24, 5, 0, []), (36, .aload_n 0, 0, 0, []), (37, .getfield 19, 10, 5, [0]), (40, .iload_n 1, 0, 0, []), (41, .iaload, 0, 0, []), (42, .aload_n 0, 0, 0, []), (43, .getfield 122, 10, 12, [0]), (46, .if_icmp .ne 5, 4, 0, []), (49, .iload_n 1, 0, 0, []), (50, .ireturn, 0, 0, [])], [(51, .iinc 1 1, 0, 0, []), (54, .goto (-28), 3, 0, [])], [(57, .iconst (-1), 0, 0, []), (58, .ireturn, 0, 0, [])]]
def zB_165 : mzB := [[(0, .aload_n 0, 0, 0, []), (1, .invokevirtual 161, 164, 10, [1, 0, 0]), (4, .istore_n 1, 0, 0, []), (5, .iload_n 1, 0, 0, []), (6, .iconst (-1), 0, 0, []), (7, .if_icmp .ne 8, 1, 0, []), (10, .aload_n 0, 0, 0, []), (11, .iconst 1, 0, 0, []), (12, .invokevirtual 154, 161, 10, [2, 0, 0]), (15, .nop, 1, 0, [])], [(15, .aload_n 0, 0, 0, []), (16, .invokevirtual 158, 162, 10, [1, 0, 0]), (19, .iload_n 1, 0, 0, []), (20, .ireturn, 0, 0, [])]]
def zB_166 : mzB := [[(0, .aload_n 0, 0, 0, []), (1, .getfield 16, 10, 4, [0]), (4, .iconst 0, 0, 0, []), (5, .iaload, 0, 0, []), (6, .bipush 8, 0, 0, []), (8, .if_icmp .ne 8, 1, 0, []), (11, .aload_n 0, 0, 0, []), (12, .iconst 2, 0, 0, []), (13, .invokevirtual 154, 161, 10, [2, 0, 0]), (16, .nop, 1, 0, [])], [(16, .aload_n 0, 0, 0, []), (17, .invokevirtual 158, 162, 10, [1, 0, 0]), (20, .aload_n 0, 0, 0, []), (21, .getfield 145, 10, 13, [0]), (24, .ifCond .ne 23, 3, 0, []), (27, .aload_n 0, 0, 0, []), (28, .getfield 115, 10, 10, [0]), (31, .ifCond .ne 11, 2, 0, []), (34, .aload_n 0, 0, 0, []), (35, .getfield 128, 10, 11, [0]), (38, .iconst (-1), 0, 0, []), (39, .if_icmp .eq 8, 3, 0, []), (42, .nop, 2, 0, [])], [(42, .aload_n 0, 0, 0, []), (43, .iconst 1, 0, 0, []), (44, .invokevirtual 154, 161, 10, [2, 0, 0]), (47, .nop, 3, 0, [])], [(47, .aload_n 0, 0, 0, []), (48, .invokevirtual 161, 164, 10, [1, 0, 0]), (51, .iconst (-1), 0, 0, []), (52, .if_icmp .eq 8, 4, 0, []), (55, .aload_n 0, 0, 0, []), (56, .iconst 3, 0, 0, []), (57, .invokevirtual 154, 161, 10, [2, 0, 0]), (60, .nop, 4, 0, [])], [(60, .aload_n 0, 0, 0, []), (61, .getfield 122, 10, 12, [0]), (64, .istore_n 1, 0, 0, []), (65, .aload_n 0, 0, 0, []), (66, .invokevirtual 158, 162, 10, [1, 0, 0]), (69, .aload_n 0, 0, 0, []), (70, .getfield 145, 10, 13, [0]), (73, .ifCond .eq 4, 5, 0, []), (76, .return_, 0, 0, [])], [(77, .aload_n 0, 0, 0, []), (78, .getfield 19, 10, 5, [0]), (81, .aload_n 0, 0, 0, []), (82, .getfield 16, 10, 4, [0]), (85, .iconst 0, 0, 0, []), (86, .iaload, 0, 0, []), (87, .iload_n 1, 0, 0, []), (88, .iastore, 0, 0, []), (89, .aload_n 0, 0, 0, []), (90, .getfield 16, 10, 4, [0]), (93, .iconst 0, 0, 0, []), (94, .dup2, 0, 0, []), (95, .iaload, 0, 0, []), (96, .iconst 1, 0, 0, []), (97, .iadd, 0, 0, []), (98, .iastore, 0, 0, []), (99, .return_, 0, 0, [])]]
def zB_167 : mzB := [[(0, .aload_n 0, 0, 0, []), (1, .getfield 16, 10, 4, [0]), (4, .iconst 1, 0, 0, []), (5, .iaload, 0, 0, []), (6, .bipush 12, 0, 0, []), (8, .if_icmp .ne 8, 1, 0, []), (11, .aload_n 0, 0, 0, []), (12, .iconst 2, 0, 0, []), (13, .invokevirtual 154, 161, 10, [2, 0, 0]), (16, .nop, 1, 0, [])], [(16, .aload_n 0, 0, 0, []), (17, .invokevirtual 158, 162, 10, [1, 0, 0]), (20, .aload_n 0, 0, 0, []), (21, .invokevirtual 164, 165, 10, [1, 0, 0]), (24, .istore_n 1, 0, 0, []), (25, .aload_n 0, 0, 0, []), (26, .getfield 145, 10, 13, [0]), (29, .ifCond .ne 16, 2, 0, []), (32, .aload_n 0, 0, 0, []), (33, .invokevirtual 161, 164, 10, [1, 0, 0]), (36, .iload_n 1, 0, 0, []), (37, .if_icmp .ne 8, 2, 0, []), (40, .aload_n 0, 0, 0, []), (41, .iconst 3, 0, 0, []), (42, .invokevirtual 154, 161, 10, [2, 0, 0]), (45, .nop, 2, 0, [])], [(45, .aload_n 0, 0, 0, []), (46, .invokevirtual 164, 165, 10, [1, 0, 0]), (49, .istore_n 2, 0, 0, []), (50, .aload_n 0, 0, 0, []), (51, .iconst 1, 0, 0, []), (52, .bipush 99, 0, 0, []), (54, .invokevirtual 167, 163, 10, [3, 0, 0]), (57, .istore_n 3, 0, 0, []), (58, .aload_n 0, 0, 0, []), (59, .getfield 145, 10, 13, [0]), (62, .ifCond .eq 4, 3, 0, []), (65, .return_, 0, 0, [])], [(66, .aload_n 0, 0, 0, []), (67, .getfield 16, 10, 4, [0]), (70, .iconst 1, 0, 0, []), (71, .dup2, 0, 0, []), (72, .iaload, 0, 0, []), (73, .iconst 1, 0, 0, []), (74, .iadd, 0, 0, []), (75, .iastore, 0, 0, []), (76, .iload_n 3, 0, 0, []), (77, .aload_n 0, 0, 0, []), (78, .getfield 16, 10, 4, [0]), (81, .iconst 5, 0, 0, []), (82, .bipush 8, 0, 0, []), (84, .iload_n 1, 0, 0, []), (85, .imul, 0, 0, []), (86, .iadd, 0, 0, []), (87, .iload_n 2, 0, 0, []), (88, .iadd, 0, 0, []), (89, .iaload, 0, 0, []), (90, .if_icmp .lt 4, 4, 0, []), (93, .return_, 0, 0, [])], [(94, .aload_n 0, 0, 0, []), (95, .getfield 16, 10, 4, [0]), (98, .iconst 5, 0, 0, []), (99, .bipush 8, 0, 0, []), (101, .iload_n 1, 0, 0, []), (102, .imul, 0, 0, []), (103, .iadd, 0, 0, []), (104, .iload_n 2, 0, 0, []), (105, .iadd, 0, 0, []), (106, .iload_n 3, 0, 0, []), (107, .iastore, 0, 0, []), (108, .aload_n 0, 0, 0, []), (109, .getfield 16, 10, 4, [0]), (112, .iconst 5, 0, 0, []), (113, .bipush 8, 0, 0, []), (115, .iload_n 2, 0, 0, []), (116, .imul, 0, 0, []), (117, .iadd, 0, 0, []), (118, .iload_n 1, 0, 0, []), (119, .iadd, 0, 0, []), (120, .iload_n 3, 0, 0, []), (121, .iastore, 0, 0, []), (122, .return_, 0, 0, [])]]
def zB_168 : mzB := [[(0, .aload_n 0, 0, 0, []), (1, .getfield 171, 10, 17, [0]), (4, .ifCond .eq 8, 1, 0, []), (7, .aload_n 0, 0, 0, []), (8, .iconst 3, 0, 0, []), (9, .invokevirtual 154, 161, 10, [2, 0, 0]), (12, .nop, 1, 0, [])], [(12, .aload_n 0, 0, 0, []), (13, .iconst 1, 0, 0, []), (14, .putfield 171, 10, 17, [1]), (17, .aload_n 0, 0, 0, []), (18, .invokevirtual 158, 162, 10, [1, 0, 0]), (21, .aload_n 0, 0, 0, []), (22, .iconst 1, 0, 0, []), (23, .bipush 20, 0, 0, []), (25, .invokevirtual 167, 163, 10, [3, 0, 0]), (28, .istore_n 1, 0, 0, []), (29, .aload_n 0, 0, 0, []), (30, .iconst 1, 0, 0, []), (31, .bipush 20, 0, 0, []), (33, .invokevirtual 167, 163, 10, [3, 0, 0]), (36, .istore_n 2, 0, 0, []), (37, .aload_n 0, 0, 0, []), (38, .getfield 16, 10, 4, [0]), (41, .iconst 3, 0, 0, []), (42, .iload_n 1, 0, 0, []), (43, .iastore, 0, 0, []), (44, .aload_n 0, 0, 0, []), (45, .getfield 16, 10, 4, [0]), (48, .iconst 4, 0, 0, []), (49, .iload_n 2, 0, 0, []), (50, .iastore, 0, 0, []), (51, .return_, 0, 0, [])]]
def zB_169 : mzB := [[(0, .aload_n 0, 0, 0, []), (1, .getfield 145, 10, 13, [0]), (4, .ifCond .ne 32, 1, 0, []), (7, .aload_n 0, 0, 0, []), (8, .getfield 115, 10, 10, [0]), (11, .ifCond .ne 25, 1, 0, []), (14, .aload_n 0, 0, 0, []), (15, .getfield 128, 10, 11, [0]), (18, .bipush 15, 0, 0, []), (20, .if_icmp .lt 16, 1, 0, []), (23, .aload_n 0, 0, 0, []), (24, .getfield 128, 10, 11, [0]), (27, .bipush 17, 0, 0, []), (29, .if_icmp .gt 7, 1, 0, []), (32, .iconst 1, 0, 0, []), (33, .goto 4, 2, 0, [])], [(36, .iconst 0, 0, 0, []), (37, .nop, 2, 0, [])], [(37, .istore_n 1, 0, 0, []), (38, .iload_n 1, 0, 0, []), (39, .ifCond .ne 8, 3, 0, []), (42, .aload_n 0, 0, 0, []), (43, .iconst 1, 0, 0, []), (44, .invokevirtual 154, 161, 10, [2, 0, 0]), (47, .nop, 3, 0, [])], [(47, .iload_n 1, 0, 0, []), (48, .ifCond .eq 13, 4, 0, []), (51, .aload_n 0, 0, 0, []), (52, .getfield 128, 10, 11, [0]), (55, .bipush 15, 0, 0, []), (57, .isub, 0, 0, []), (58, .goto 4, 5, 0, [])], [(61, .iconst 0, 0, 0, []), (62, .nop, 5, 0, [])], [(62, .istore_n 2, 0, 0, []), (63, .aload_n 0, 0, 0, []), (64, .invokevirtual 158, 162, 10, [1, 0, 0]), (67, .iload_n 2, 0, 0, []), (68, .ireturn, 0, 0, [])]]
def zB_170 : mzB := [[(0, .aload_n 0, 0, 0, []), (1, .getfield 16, 10, 4, [0]), (4, .iconst 2, 0, 0, []), (5, .iaload, 0, 0, []), (6, .bipush 60, 0, 0, []), (8, .if_icmp .ne 8, 1, 0, []), (11, .aload_n 0, 0, 0, []), (12, .iconst 2, 0, 0, []), (13, .invokevirtual 154, 161, 10, [2, 0, 0]), (16, .nop, 1, 0, [])], [(16, .aload_n 0, 0, 0, []), (17, .invokevirtual 158, 162, 10, [1, 0, 0]), (20, .bipush 69, 0, 0, []), (22, .iconst 5, 0, 0, []), (23, .aload_n 0, 0, 0, []), (24, .getfield 16, 10, 4, [0]), (27, .iconst 2, 0, 0, []), (28, .iaload, 0, 0, []), (29, .imul, 0, 0, []), (30, .iadd, 0, 0, []), (31, .istore_n 1, 0, 0, []), (32, .aload_n 0, 0, 0, []), (33, .iconst 0, 0, 0, []), (34, .sipush 999, 0, 0, []), (37, .invokevirtual 167, 163, 10, [3, 0, 0]), (40, .istore_n 2, 0, 0, []), (41, .aload_n 0, 0, 0, []), (42, .getfield 145, 10, 13, [0]), (45, .ifCond .ne 30, 2, 0, []), (48, .aload_n 0, 0, 0, []), (49, .getfield 115, 10, 10, [0]), (52, .ifCond .ne 23, 2, 0, []), (55, .aload_n 0, 0, 0, []), (56, .getfield 128, 10, 11, [0]), (59, .ifCond .lt 16, 2, 0, []), (62, .aload_n 0, 0, 0, []), (63, .getfield 128, 10, 11, [0]), (66, .bipush 10, 0, 0, []), (68, .if_icmp .gt 7, 2, 0, []), (71, .iconst 1, 0, 0, []), (72, .goto 4, 3, 0, [])], [(75, .iconst 0, 0, 0, []), (76, .nop, 3, 0, [])], [(76, .istore_n 3, 0, 0, []), (77, .iload_n 3, 0, 0, []), (78, .ifCond .ne 8, 4, 0, []), (81, .aload_n 0, 0, 0, []), (82, .iconst 1, 0, 0, []), (83, .invokevirtual 154, 161, 10, [2, 0, 0]), (86, .nop, 4, 0, [])], [(86, .aload_n 0, 0, 0, []), (87, .getfield 128, 10, 11, [0]), (90, .istore 4, 0, 0, []), (92, .aload_n 0, 0, 0, []), (93, .invokevirtual 158, 162, 10, [1, 0, 0]), (96, .aload_n 0, 0, 0, []), (97, .iconst 0, 0, 0, []), (98, .bipush 39, 0, 0, []), (100, .invokevirtual 167, 163, 10, [3, 0, 0]), (103, .istore 5, 0, 0, []), (105, .bipush (-2), 0, 0, []), (107, .istore 6, 0, 0, []), (109, .iconst (-1), 0, 0, []), (110, .istore 7, 0, 0, []), (112, .aload_n 0, 0, 0, []), (113, .getfield 145, 10, 13, [0]), (116, .ifCond .ne 14, 5, 0, []), (119, .iload 4, 0, 0, []), (121, .ifCond .ne 9, 5, 0, []), (124, .aload_n 0, 0, 0, []), (125, .invokevirtual 175, 169, 10, [1, 0, 0]), (128, .istore 7, 0, 0, []), (130, .nop, 5, 0, [])], [(130, .aload_n 0, 0, 0, []), (131, .getfield 145, 10, 13, [0]), (134, .ifCond .ne 21, 6, 0, []), (137, .iload 4, 0, 0, []), (139, .iconst 1, 0, 0, []), (140, .if_icmp .ne 15, 6, 0, []), (143, .aload_n 0, 0, 0, []), (144, .iconst 0, 0, 0, []), (145, .bipush 39, 0, 0, []), (147, .invokevirtual 167, 163, 10, [3, 0, 0]), (150, .istore 6, 0, 0, []), (152, .goto 41, 8, 0, [])], [(155, .aload_n 0, 0, 0, []), (156, .getfield 145, 10, 13, [0]), (159, .ifCond .ne 34, 8, 0, []), (162, .iload 4, 0, 0, []), (164, .ifCond .eq 23, 7, 0, []), (167, .iload 4, 0, 0, []), (169, .iconst 5, 0, 0, []), (170, .if_icmp .eq 17, 7, 0, []), (173, .iload 4, 0, 0, []), (175, .bipush 6, 0, 0, []), (177, .if_icmp .eq 10, 7, 0, []), (180, .iload 4, 0, 0, []), (182, .bipush 8, 0, 0, []), (184, .if_icmp .ne 9, 8, 0, []), (187, .nop, 7, 0, [])], [(187, .aload_n 0, 0, 0, []), (188, .invokevirtual 164, 165, 10, [1, 0, 0]), (191, .istore 6, 0, 0, []), (193, .nop, 8, 0, [])], [(193, .aload_n 0, 0, 0, []), (194, .getfield 145, 10, 13, [0]), (197, .ifCond .eq 4, 9, 0, []), (200, .return_, 0, 0, [])], [(201, .aload_n 0, 0, 0, []), (202, .getfield 16, 10, 4, [0]), (205, .iload_n 1, 0, 0, []), (206, .iload_n 2, 0, 0, []), (207, .iastore, 0, 0, []), (208, .aload_n 0, 0, 0, []), (209, .getfield 16, 10, 4, [0]), (212, .iload_n 1, 0, 0, []), (213, .iconst 1, 0, 0, []), (214, .iadd, 0, 0, []), (215, .iload 4, 0, 0, []), (217, .iastore, 0, 0, []), (218, .aload_n 0, 0, 0, []), (219, .getfield 16, 10, 4, [0]), (222, .iload_n 1, 0, 0, []), (223, .iconst 2, 0, 0, []), (224, .iadd, 0, 0, []), (225, .iload 5, 0, 0, []), (227, .iastore, 0, 0, []), (228, .aload_n 0, 0, 0, []), (229, .getfield 16, 10, 4, [0]), (232, .iload_n 1, 0, 0, []), (233, .iconst 3, 0, 0, []), (234, .iadd, 0, 0, []), (235, .iload 6, 0, 0, []), (237, .iastore, 0, 0, []), (238, .aload_n 0, 0, 0, []), (239, .getfield 16, 10, 4, [0]), (242, .iload_n 1, 0, 0, []), (243, .iconst 4, 0, 0, []), (244, .iadd, 0, 0, []), (245, .iload 7, 0, 0, []), (247, .iastore, 0, 0, []), (248, .aload_n 0, 0, 0, []), (249, .getfield 16, 10, 4, [0]), (252, .iconst 2, 0, 0, []), (253, .dup2, 0, 0, []), (254, .iaload, 0, 0, []), (255, .iconst 1, 0, 0, []), (256, .iadd, 0, 0, []), (257, .iastore, 0, 0, []), (258, .return_, 0, 0, [])]]
def zB_171 : mzB := [[(0, .aload_n 0, 0, 0, []), (1, .getfield 145, 10, 13, [0]), (4, .ifCond .ne 17, 1, 0, []), (7, .aload_n 0, 0, 0, []), (8, .getfield 115, 10, 10, [0]), (11, .ifCond .ne 10, 1, 0, []), (14, .aload_n 0, 0, 0, []), (15, .getfield 128, 10, 11, [0]), (18, .goto 4, 2, 0, [])], [(21, .iconst (-1), 0, 0, []), (22, .nop, 2, 0, [])], [(22, .istore_n 2, 0, 0, []), (23, .iload_n 2, 0, 0, []), (24, .bipush 14, 0, 0, []), (26, .if_icmp .ne 10, 3, 0, []), (29, .aload_n 0, 0, 0, []), (30, .invokevirtual 178, 170, 10, [1, 0, 0]), (33, .goto 59, 7, 0, [])], [(36, .iload_n 2, 0, 0, []), (37, .bipush 11, 0, 0, []), (39, .if_icmp .ne 14, 4, 0, []), (42, .iload_n 1, 0, 0, []), (43, .ifCond .ne 10, 4, 0, []), (46, .aload_n 0, 0, 0, []), (47, .invokevirtual 181, 166, 10, [1, 0, 0]), (50, .goto 42, 7, 0, [])], [(53, .iload_n 2, 0, 0, []), (54, .bipush 12, 0, 0, []), (56, .if_icmp .ne 14, 5, 0, []), (59, .iload_n 1, 0, 0, []), (60, .ifCond .ne 10, 5, 0, []), (63, .aload_n 0, 0, 0, []), (64, .invokevirtual 184, 167, 10, [1, 0, 0]), (67, .goto 25, 7, 0, [])], [(70, .iload_n 2, 0, 0, []), (71, .bipush 13, 0, 0, []), (73, .if_icmp .ne 14, 6, 0, []), (76, .iload_n 1, 0, 0, []), (77, .ifCond .ne 10, 6, 0, []), (80, .aload_n 0, 0, 0, []), (81, .invokevirtual 187, 168, 10, [1, 0, 0]), (84, .goto 8, 7, 0, [])], [(87, .aload_n 0, 0, 0, []), (88, .iconst 1, 0, 0, []), (89, .invokevirtual 154, 161, 10, [2, 0, 0]), (92, .nop, 7, 0, [])], [(92, .aload_n 0, 0, 0, []), (93, .getfield 145, 10, 13, [0]), (96, .ifCond .ne 16, 8, 0, []), (99, .aload_n 0, 0, 0, []), (100, .getfield 115, 10, 10, [0]), (103, .iconst 2, 0, 0, []), (104, .if_icmp .eq 8, 8, 0, []), (107, .aload_n 0, 0, 0, []), (108, .iconst 1, 0, 0, []), (109, .invokevirtual 154, 161, 10, [2, 0, 0]), (112, .nop, 8, 0, [])], [(112, .aload_n 0, 0, 0, []), (113, .invokevirtual 158, 162, 10, [1, 0, 0]), (116, .aload_n 0, 0, 0, []), (117, .dup, 0, 0, []), (118, .getfield 190, 10, 19, [0]), (121, .iconst 1, 0, 0, []), (122, .iadd, 0, 0, []), (123, .putfield 190, 10, 19, [0]), (126, .return_, 0, 0, [])]]
def zB_172 : mzB := [[(0, .iconst 0, 0, 0, []), (1, .istore_n 1, 0, 0, []), (2, .nop, 1, 0, [])], [(2, .iload_n 1, 0, 0, []), (3, .sipush 369, 0, 0, []), (6, .if_icmp .ge 16, 2, 0, []), (9, .aload_n 0, 0, 0, []), (10, .getfield 16, 10, 4, [0]), (13, .iload_n 1, 0, 0, []), (14, .iconst 0, 0, 0, []), (15, .iastore, 0, 0, []), (16, .iinc 1 1, 0, 0, []), (19, .goto (-17), 1, 0, [])], [(22, .iconst 0, 0, 0, []), (23, .istore_n 1, 0, 0, []), (24, .nop, 3, 0, [])], [(24, .iload_n 1, 0, 0, []), (25, .bipush 64, 0, 0, []), (27, .if_icmp .ge 30, 6, 0, []), (30, .aload_n 0, 0, 0, []), (31, .getfield 16, 10, 4, [0]), (34, .iconst 5, 0, 0, []), (35, .iload_n 1, 0, 0, []), (36, .iadd, 0, 0, []), (37, .iload_n 1, 0, 0, []), (38, .bipush 9, 0, 0, []), (40, .irem, 0, 0, []), (41, .ifCond .ne 7, 4, 0, []), (44, .iconst 0, 0, 0, []), (45, .goto 5, 5, 0, [])], [(48, .ldc 193, 100000, 0, [0]), (50, .nop, 5, 0, [])], [(50, .iastore, 0, 0, []), (51, .iinc 1 1, 0, 0, []), (54, .goto (-30), 3, 0, [])], [(57, .aload_n 0, 0, 0, []), (58, .getfield 16, 10, 4, [0]), (61, .iconst 3, 0, 0, []), (62, .bipush 10, 0, 0, []), (64, .iastore, 0, 0, []), (65, .aload_n 0, 0, 0, []), (66, .getfield 16, 10, 4, [0]), (69, .iconst 4, 0, 0, []), (70, .bipush 10, 0, 0, []), (72, .iastore, 0, 0, []), (73, .aload_n 0, 0, 0, []), (74, .iconst 0, 0, 0, []), (75, .putfield 171, 10, 17, [1]), (78, .return_, 0, 0, [])]]
def zB_173 : mzB := [[(0, .aload_n 0, 0, 0, []), (1, .iload_n 1, 0, 0, []), (2, .putfield 105, 10, 7, [0]), (5, .aload_n 0, 0, 0, []), (6, .iconst 0, 0, 0, []), (7, .putfield 102, 10, 8, [0]), (10, .aload_n 0, 0, 0, []), (11, .iconst 0, 0, 0, []), (12, .putfield 145, 10, 13, [0]), (15, .aload_n 0, 0, 0, []), (16, .iconst 0, 0, 0, []), (17, .putfield 190, 10, 19, [0]), (20, .aload_n 0, 0, 0, []), (21, .invokevirtual 151, 159, 10, [1, 0, 0]), (24, .nop, 1, 0, [])], [(24, .aload_n 0, 0, 0, []), (25, .getfield 145, 10, 13, [0]), (28, .ifCond .ne 19, 2, 0, []), (31, .aload_n 0, 0, 0, []), (32, .getfield 115, 10, 10, [0]), (35, .iconst 3, 0, 0, []), (36, .if_icmp .eq 11, 2, 0, []), (39, .aload_n 0, 0, 0, []), (40, .iload_n 2, 0, 0, []), (41, .invokevirtual 194, 171, 10, [2, 0, 0]), (44, .goto (-20), 1, 0, [])], [(47, .aload_n 0, 0, 0, []), (48, .iconst 0, 0, 0, []), (49, .putfield 99, 10, 2, [0]), (52, .aload_n 0, 0, 0, []), (53, .aload_n 0, 0, 0, []), (54, .getfield 145, 10, 13, [0]), (57, .putfield 198, 10, 15, [0]), (60, .aload_n 0, 0, 0, []), (61, .aload_n 0, 0, 0, []), (62, .getfield 145, 10, 13, [0]), (65, .ifCond .ne 7, 3, 0, []), (68, .iconst (-1), 0, 0, []), (69, .goto 7, 4, 0, [])], [(72, .aload_n 0, 0, 0, []), (73, .getfield 148, 10, 14, [0]), (76, .nop, 4, 0, [])], [(76, .putfield 25, 10, 16, [0]), (79, .aload_n 0, 0, 0, []), (80, .getfield 145, 10, 13, [0]), (83, .ifCond .eq 5, 5, 0, []), (86, .iconst (-1), 0, 0, []), (87, .ireturn, 0, 0, [])], [(88, .aload_n 0, 0, 0, []), (89, .invokevirtual 93, 174, 10, [1, 0, 0]), (92, .aload_n 0, 0, 0, []), (93, .getfield 190, 10, 19, [0]), (96, .ireturn, 0, 0, [])]]
def zB_174 : mzB := [[(0, .iconst 0, 0, 0, []), (1, .istore_n 1, 0, 0, []), (2, .nop, 1, 0, [])], [(2, .iload_n 1, 0, 0, []), (3, .sipush 369, 0, 0, []), (6, .if_icmp .ge 21, 2, 0, []), (9, .aload_n 0, 0, 0, []), (10, .getfield 13, 10, 3, [0]), (13, .iload_n 1, 0, 0, []), (14, .aload_n 0, 0, 0, []), (15, .getfield 16, 10, 4, [0]), (18, .iload_n 1, 0, 0, []), (19, .iaload, 0, 0, []), (20, .iastore, 0, 0, []), (21, .iinc 1 1, 0, 0, []), (24, .goto (-22), 1, 0, [])], [(27, .iconst 0, 0, 0, []), (28, .istore_n 1, 0, 0, []), (29, .nop, 3, 0, [])], [(29, .iload_n 1, 0, 0, []), (30, .bipush 8, 0, 0, []), (32, .if_icmp .ge 21, 4, 0, []), (35, .aload_n 0, 0, 0, []), (36, .getfield 22, 10, 6, [0]), (39, .iload_n 1, 0, 0, []), (40, .aload_n 0, 0, 0, []), (41, .getfield 19, 10, 5, [0]), (44, .iload_n 1, 0, 0, []), (45, .iaload, 0, 0, []), (46, .iastore, 0, 0, []), (47, .iinc 1 1, 0, 0, []), (50, .goto (-21), 3, 0, [])], [(53, .aload_n 0, 0, 0, []), (54, .aload_n 0, 0, 0, []), (55, .getfield 171, 10, 17, [0]), (58, .putfield 201, 10, 18, [1]), (61, .aload_n 0, 0, 0, []), (62, .invokevirtual 204, 178, 10, [1, 0, 0]), (65, .return_, 0, 0, [])]]
def zB_175 : mzB := [[(0, .aload_n 0, 0, 0, []), (1, .iconst 0, 0, 0, []), (2, .putfield 96, 10, 0, [0]), (5, .iload_n 1, 0, 0, []), (6, .ifCond .lt 11, 1, 0, []), (9, .iload_n 1, 0, 0, []), (10, .aload_n 0, 0, 0, []), (11, .getfield 99, 10, 2, [0]), (14, .if_icmp .le 6, 2, 0, []), (17, .nop, 1, 0, [])], [(17, .bipush (-2), 0, 0, []), (19, .ireturn, 0, 0, [])], [(20, .aload_n 0, 0, 0, []), (21, .invokevirtual 90, 172, 10, [1, 0, 0]), (24, .aload_n 0, 0, 0, []), (25, .iload_n 1, 0, 0, []), (26, .iconst 0, 0, 0, []), (27, .invokevirtual 207, 173, 10, [3, 0, 0]), (30, .ireturn, 0, 0, [])]]
def zB_176 : mzB := [[(0, .aload_n 0, 0, 0, []), (1, .iconst 0, 0, 0, []), (2, .putfield 96, 10, 0, [0]), (5, .iload_n 1, 0, 0, []), (6, .ifCond .lt 11, 1, 0, []), (9, .iload_n 1, 0, 0, []), (10, .aload_n 0, 0, 0, []), (11, .getfield 99, 10, 2, [0]), (14, .if_icmp .le 6, 2, 0, []), (17, .nop, 1, 0, [])], [(17, .bipush (-2), 0, 0, []), (19, .ireturn, 0, 0, [])], [(20, .iconst 0, 0, 0, []), (21, .istore_n 2, 0, 0, []), (22, .nop, 3, 0, [])], [(22, .iload_n 2, 0, 0, []), (23, .sipush 369, 0, 0, []), (26, .if_icmp .ge 21, 4, 0, []), (29, .aload_n 0, 0, 0, []), (30, .getfield 16, 10, 4, [0]), (33, .iload_n 2, 0, 0, []), (34, .aload_n 0, 0, 0, []), (35, .getfield 13, 10, 3, [0]), (38, .iload_n 2, 0, 0, []), (39, .iaload, 0, 0, []), (40, .iastore, 0, 0, []), (41, .iinc 2 1, 0, 0, []), (44, .goto (-22), 3, 0, [])], [(47, .iconst 0, 0, 0, []), (48, .istore_n 2, 0, 0, []), (49, .nop, 5, 0, [])], [(49, .iload_n 2, 0, 0, []), (50, .bipush 8, 0, 0, []), (52, .if_icmp .ge 21, 6, 0, []), (55, .aload_n 0, 0, 0, []), (56, .getfield 19, 10, 5, [0]), (59, .iload_n 2, 0, 0, []), (60, .aload_n 0, 0, 0, []), (61, .getfield 22, 10, 6, [0]), (64, .iload_n 2, 0, 0, []), (65, .iaload, 0, 0, []), (66, .iastore, 0, 0, []), (67, .iinc 2 1, 0, 0, []), (70, .goto (-21), 5, 0, [])], [(73, .aload_n 0, 0, 0, []), (74, .aload_n 0, 0, 0, []), (75, .getfield 201, 10, 18, [0]), (78, .putfield 171, 10, 17, [1]), (81, .aload_n 0, 0, 0, []), (82, .iload_n 1, 0, 0, []), (83, .iconst 1, 0, 0, []), (84, .invokevirtual 207, 173, 10, [3, 0, 0]), (87, .ireturn, 0, 0, [])]]
def zB_177 : mzB := [[(0, .aload_n 0, 0, 0, []), (1, .iconst 0, 0, 0, []), (2, .putfield 96, 10, 0, [0]), (5, .iload_n 1, 0, 0, []), (6, .ifCond .ne 10, 1, 0, []), (9, .aload_n 0, 0, 0, []), (10, .getfield 198, 10, 15, [0]), (13, .goto 16, 3, 0, [])], [(16, .iload_n 1, 0, 0, []), (17, .iconst 1, 0, 0, []), (18, .if_icmp .ne 10, 2, 0, []), (21, .aload_n 0, 0, 0, []), (22, .getfield 25, 10, 16, [0]), (25, .goto 4, 3, 0, [])], [(28, .iconst (-1), 0, 0, []), (29, .nop, 3, 0, [])], [(29, .ireturn, 0, 0, [])]]
def zB_178 : mzB := [[(0, .iconst 0, 0, 0, []), (1, .istore_n 1, 0, 0, []), (2, .nop, 1, 0, [])], [(2, .iload_n 1, 0, 0, []), (3, .bipush 64, 0, 0, []), (5, .if_icmp .ge 23, 2, 0, []), (8, .aload_n 0, 0, 0, []), (9, .getfield 29, 10, 20, [0]), (12, .iload_n 1, 0, 0, []), (13, .aload_n 0, 0, 0, []), (14, .getfield 13, 10, 3, [0]), (17, .iconst 5, 0, 0, []), (18, .iload_n 1, 0, 0, []), (19, .iadd, 0, 0, []), (20, .iaload, 0, 0, []), (21, .iastore, 0, 0, []), (22, .iinc 1 1, 0, 0, []), (25, .goto (-23), 1, 0, [])], [(28, .iconst 0, 0, 0, []), (29, .istore_n 1, 0, 0, []), (30, .nop, 3, 0, [])], [(30, .iload_n 1, 0, 0, []), (31, .bipush 8, 0, 0, []), (33, .if_icmp .ge 91, 9, 0, []), (36, .iconst 0, 0, 0, []), (37, .istore_n 2, 0, 0, []), (38, .nop, 4, 0, [])], [(38, .iload_n 2, 0, 0, []), (39, .bipush 8, 0, 0, []), (41, .if_icmp .ge 77, 8, 0, []), (44, .iconst 0, 0, 0, []), (45, .istore_n 3, 0, 0, []), (46, .nop, 5, 0, [])], [(46, .iload_n 3, 0, 0, []), (47, .bipush 8, 0, 0, []), (49, .if_icmp .ge 63, 7, 0, []), (52, .aload_n 0, 0, 0, []), (53, .getfield 29, 10, 20, [0]), (56, .bipush 8, 0, 0, []), (58, .iload_n 2, 0, 0, []), (59, .imul, 0, 0, []), (60, .iload_n 1, 0, 0, []), (61, .iadd, 0, 0, []), (62, .iaload, 0, 0, []), (63, .aload_n 0, 0, 0, []), (64, .getfield 29, 10, 20, [0]), (67, .bipush 8, 0, 0, []), (69, .iload_n 1, 0, 0, []), (70, .imul, 0, 0, []), (71, .iload_n 3, 0, 0, []), (72, .iadd, 0, 0, []), (73, .iaload, 0, 0, []), (74, .iadd, 0, 0, []), (75, .istore 4, 0, 0, []), (77, .iload 4, 0, 0, []), (79, .aload_n 0, 0, 0, []), (80, .getfield 29, 10, 20, [0]), (83, .bipush 8, 0, 0, []), (85, .iload_n 2, 0, 0, []), (86, .imul, 0, 0, []), (87, .iload_n 3, 0, 0, []), (88, .iadd, 0, 0, []), (89, .iaload, 0, 0, []), (90, .if_icmp .ge 16, 6, 0, []), (93, .aload_n 0, 0, 0, []), (94, .getfield 29, 10, 20, [0]), (97, .bipush 8, 0, 0, []), (99, .iload_n 2, 0, 0, []), (100, .imul, 0, 0, []), (101, .iload_n 3, 0, 0, []), (102, .iadd, 0, 0, []), (103, .iload 4, 0, 0, []), (105, .iastore, 0, 0, []), (106, .nop, 6, 0, [])], [(106, .iinc 3 1, 0, 0, []), (109, .goto (-63), 5, 0, [])], [(112, .iinc 2 1, 0, 0, []), (115, .goto (-77), 4, 0, [])], [(118, .iinc 1 1, 0, 0, []), (121, .goto (-91), 3, 0, [])], [(124, .return_, 0, 0, [])]]
def zB_179 : mzB := [[(0, .aload_n 0, 0, 0, []), (1, .iconst 0, 0, 0, []), (2, .putfield 96, 10, 0, [0]), (5, .aload_n 0, 0, 0, []), (6, .iload_n 1, 0, 0, []), (7, .invokevirtual 211, 210, 10, [2, 0, 0]), (10, .ifCond .eq 11, 1, 0, []), (13, .aload_n 0, 0, 0, []), (14, .iload_n 2, 0, 0, []), (15, .invokevirtual 211, 210, 10, [2, 0, 0]), (18, .ifCond .ne 5, 2, 0, []), (21, .nop, 1, 0, [])], [(21, .iconst (-1), 0, 0, []), (22, .ireturn, 0, 0, [])], [(23, .aload_n 0, 0, 0, []), (24, .getfield 29, 10, 20, [0]), (27, .bipush 8, 0, 0, []), (29, .iload_n 1, 0, 0, []), (30, .imul, 0, 0, []), (31, .iload_n 2, 0, 0, []), (32, .iadd, 0, 0, []), (33, .iaload, 0, 0, []), (34, .ldc 193, 100000, 0, [0]), (36, .if_icmp .lt 8, 3, 0, []), (39, .bipush (-2), 0, 0, []), (41, .goto 14, 4, 0, [])], [(44, .aload_n 0, 0, 0, []), (45, .getfield 29, 10, 20, [0]), (48, .bipush 8, 0, 0, []), (50, .iload_n 1, 0, 0, []), (51, .imul, 0, 0, []), (52, .iload_n 2, 0, 0, []), (53, .iadd, 0, 0, []), (54, .iaload, 0, 0, []), (55, .nop, 4, 0, [])], [(55, .ireturn, 0, 0, [])]]
def zB_180 : mzB := [[(0, .aload_n 0, 0, 0, []), (1, .getfield 13, 10, 3, [0]), (4, .iconst 2, 0, 0, []), (5, .iaload, 0, 0, []), (6, .ireturn, 0, 0, [])]]
def zB_181 : mzB := [[(0, .aload_n 0, 0, 0, []), (1, .getfield 13, 10, 3, [0]), (4, .bipush 69, 0, 0, []), (6, .iconst 5, 0, 0, []), (7, .iload_n 1, 0, 0, []), (8, .imul, 0, 0, []), (9, .iadd, 0, 0, []), (10, .iload_n 2, 0, 0, []), (11, .iadd, 0, 0, []), (12, .iaload, 0, 0, []), (13, .ireturn, 0, 0, [])]]
def zB_182 : mzB := [[(0, .iconst 0, 0, 0, []), (1, .istore_n 1, 0, 0, []), (2, .nop, 1, 0, [])], [(2, .iload_n 1, 0, 0, []), (3, .aload_n 0, 0, 0, []), (4, .invokevirtual 214, 180, 10, [1, 0, 0]), (7, .if_icmp .ge 28, 2, 0, []), (10, .aload_n 0, 0, 0, []), (11, .getfield 63, 10, 31, [0]), (14, .iload_n 1, 0, 0, []), (15, .iconst 1, 0, 0, []), (16, .bastore, 0, 0, []), (17, .aload_n 0, 0, 0, []), (18, .getfield 66, 10, 32, [0]), (21, .iload_n 1, 0, 0, []), (22, .aload_n 0, 0, 0, []), (23, .iload_n 1, 0, 0, []), (24, .iconst 0, 0, 0, []), (25, .invokevirtual 217, 181, 10, [3, 0, 0]), (28, .iastore, 0, 0, []), (29, .iinc 1 1, 0, 0, []), (32, .goto (-30), 1, 0, [])], [(35, .return_, 0, 0, [])]]
def zB_183 : mzB := [[(0, .aload_n 0, 0, 0, []), (1, .iconst 0, 0, 0, []), (2, .putfield 220, 10, 34, [0]), (5, .iconst 0, 0, 0, []), (6, .istore_n 1, 0, 0, []), (7, .nop, 1, 0, [])], [(7, .iload_n 1, 0, 0, []), (8, .aload_n 0, 0, 0, []), (9, .invokevirtual 214, 180, 10, [1, 0, 0]), (12, .if_icmp .ge 89, 6, 0, []), (15, .aload_n 0, 0, 0, []), (16, .getfield 63, 10, 31, [0]), (19, .iload_n 1, 0, 0, []), (20, .baload, 0, 0, []), (21, .ifCond .ne 6, 2, 0, []), (24, .goto 71, 5, 0, [])], [(27, .aload_n 0, 0, 0, []), (28, .getfield 220, 10, 34, [0]), (31, .istore_n 2, 0, 0, []), (32, .nop, 3, 0, [])], [(32, .iload_n 2, 0, 0, []), (33, .ifCond .le 45, 4, 0, []), (36, .aload_n 0, 0, 0, []), (37, .getfield 66, 10, 32, [0]), (40, .aload_n 0, 0, 0, []), (41, .getfield 69, 10, 33, [0]), (44, .iload_n 2, 0, 0, []), (45, .iconst 1, 0, 0, []), (46, .isub, 0, 0, []), (47, .iaload, 0, 0, []), (48, .iaload, 0, 0, []), (49, .aload_n 0, 0, 0, []), (50, .getfield 66, 10, 32, [0]), (53, .iload_n 1, 0, 0, []), (54, .iaload, 0, 0, []), (55, .if_icmp .le 23, 4, 0, []), (58, .aload_n 0, 0, 0, []), (59, .getfield 69, 10, 33, [0]), (62, .iload_n 2, 0, 0, []), (63, .aload_n 0, 0, 0, []), (64, .getfield 69, 10, 33, [0]), (67, .iload_n 2, 0, 0, []), (68, .iconst 1, 0, 0, []), (69, .isub, 0, 0, []), (70, .iaload, 0, 0, []), (71, .iastore, 0, 0, []), (72, .iinc 2 (-1), 0, 0, []), (75, .goto (-43), 3, 0, [])], [(78, .aload_n 0, 0, 0, []), (79, .getfield 69, 10, 33, [0]), (82, .iload_n 2, 0, 0, []), (83, .iload_n 1, 0, 0, []), (84, .iastore, 0, 0, []), (85, .aload_n 0, 0, 0, []), (86, .dup, 0, 0, []), (87, .getfield 220, 10, 34, [0]), (90, .iconst 1, 0, 0, []), (91, .iadd, 0, 0, []), (92, .putfield 220, 10, 34, [0]), (95, .nop, 5, 0, [])], [(95, .iinc 1 1, 0, 0, []), (98, .goto (-91), 1, 0, [])], [(101, .return_, 0, 0, [])]]
def zB_184 : mzB := [[(0, .iconst 0, 0, 0, []), (1, .istore_n 1, 0, 0, []), (2, .nop, 1, 0, [])], [(2, .iload_n 1, 0, 0, []), (3, .bipush 40, 0, 0, []), (5, .if_icmp .ge 60, 2, 0, []), (8, .aload_n 0, 0, 0, []), (9, .getfield 32, 10, 21, [0]), (12, .iload_n 1, 0, 0, []), (13, .iconst 0, 0, 0, []), (14, .bastore, 0, 0, []), (15, .aload_n 0, 0, 0, []), (16, .getfield 39, 10, 23, [0]), (19, .iload_n 1, 0, 0, []), (20, .bipush (-5), 0, 0, []), (22, .iastore, 0, 0, []), (23, .aload_n 0, 0, 0, []), (24, .getfield 48, 10, 26, [0]), (27, .iload_n 1, 0, 0, []), (28, .bipush (-5), 0, 0, []), (30, .iastore, 0, 0, []), (31, .aload_n 0, 0, 0, []), (32, .getfield 51, 10, 27, [0]), (35, .iload_n 1, 0, 0, []), (36, .iconst 0, 0, 0, []), (37, .bastore, 0, 0, []), (38, .aload_n 0, 0, 0, []), (39, .getfield 54, 10, 28, [0]), (42, .iload_n 1, 0, 0, []), (43, .iconst 0, 0, 0, []), (44, .bastore, 0, 0, []), (45, .aload_n 0, 0, 0, []), (46, .getfield 57, 10, 29, [0]), (49, .iload_n 1, 0, 0, []), (50, .iconst 0, 0, 0, []), (51, .bastore, 0, 0, []), (52, .aload_n 0, 0, 0, []), (53, .getfield 60, 10, 30, [0]), (56, .iload_n 1, 0, 0, []), (57, .iconst 0, 0, 0, []), (58, .bastore, 0, 0, []), (59, .iinc 1 1, 0, 0, []), (62, .goto (-60), 1, 0, [])], [(65, .aload_n 0, 0, 0, []), (66, .invokevirtual 223, 183, 10, [1, 0, 0]), (69, .return_, 0, 0, [])]]
def zB_185 : mzB := [[(0, .iload_n 1, 0, 0, []), (1, .istore_n 2, 0, 0, []), (2, .nop, 1, 0, [])], [(2, .aload_n 0, 0, 0, []), (3, .getfield 39, 10, 23, [0]), (6, .iload_n 2, 0, 0, []), (7, .iaload, 0, 0, []), (8, .bipush (-5), 0, 0, []), (10, .if_icmp .eq 13, 2, 0, []), (13, .aload_n 0, 0, 0, []), (14, .getfield 39, 10, 23, [0]), (17, .iload_n 2, 0, 0, []), (18, .iaload, 0, 0, []), (19, .istore_n 2, 0, 0, []), (20, .goto (-18), 1, 0, [])], [(23, .iload_n 2, 0, 0, []), (24, .ireturn, 0, 0, [])]]
def zB_186 : mzB := [[(0, .aload_n 0, 0, 0, []), (1, .getfield 39, 10, 23, [0]), (4, .iload_n 1, 0, 0, []), (5, .iaload, 0, 0, []), (6, .istore_n 3, 0, 0, []), (7, .nop, 1, 0, [])], [(7, .iload_n 3, 0, 0, []), (8, .bipush (-5), 0, 0, []), (10, .if_icmp .eq 18, 2, 0, []), (13, .iload_n 3, 0, 0, []), (14, .iload_n 2, 0, 0, []), (15, .if_icmp .eq 13, 2, 0, []), (18, .aload_n 0, 0, 0, []), (19, .getfield 39, 10, 23, [0]), (22, .iload_n 3, 0, 0, []), (23, .iaload, 0, 0, []), (24, .istore_n 3, 0, 0, []), (25, .goto (-18), 1, 0, [])], [(28, .iload_n 3, 0, 0, []), (29, .iload_n 2, 0, 0, []), (30, .if_icmp .ne 7, 3, 0, []), (33, .iconst 1, 0, 0, []), (34, .goto 4, 4, 0, [])], [(37, .iconst 0, 0, 0, []), (38, .nop, 4, 0, [])], [(38, .ireturn, 1, 0, [])]]
def zB_187 : mzB := [[(0, .iconst 0, 0, 0, []), (1, .istore_n 2, 0, 0, []), (2, .nop, 1, 0, [])], [(2, .iload_n 2, 0, 0, []), (3, .bipush 40, 0, 0, []), (5, .if_icmp .ge 34, 4, 0, []), (8, .aload_n 0, 0, 0, []), (9, .getfield 54, 10, 28, [0]), (12, .iload_n 2, 0, 0, []), (13, .baload, 0, 0, []), (14, .ifCond .eq 19, 3, 0, []), (17, .iload_n 2, 0, 0, []), (18, .iload_n 1, 0, 0, []), (19, .if_icmp .eq 12, 2, 0, []), (22, .aload_n 0, 0, 0, []), (23, .iload_n 2, 0, 0, []), (24, .iload_n 1, 0, 0, []), (25, .invokevirtual 226, 186, 10, [3, 0, 0]), (28, .ifCond .eq 5, 3, 0, []), (31, .nop, 2, 0, [])], [(31, .iconst 1, 0, 0, []), (32, .ireturn, 1, 0, [])], [(33, .iinc 2 1, 0, 0, []), (36, .goto (-34), 1, 0, [])], [(39, .iconst 0, 0, 0, []), (40, .ireturn, 1, 0, [])]]
def zB_188 : mzB := [[(0, .iconst 0, 0, 0, []), (1, .istore_n 2, 0, 0, []), (2, .iconst 0, 0, 0, []), (3, .istore_n 3, 0, 0, []), (4, .nop, 1, 0, [])], [(4, .iload_n 3, 0, 0, []), (5, .bipush 40, 0, 0, []), (7, .if_icmp .ge 27, 4, 0, []), (10, .iload_n 2, 0, 0, []), (11, .aload_n 0, 0, 0, []), (12, .getfield 39, 10, 23, [0]), (15, .iload_n 3, 0, 0, []), (16, .iaload, 0, 0, []), (17, .iload_n 1, 0, 0, []), (18, .if_icmp .ne 7, 2, 0, []), (21, .iconst 1, 0, 0, []), (22, .goto 4, 3, 0, [])], [(25, .iconst 0, 0, 0, []), (26, .nop, 3, 0, [])], [(26, .iadd, 0, 0, []), (27, .istore_n 2, 0, 0, []), (28, .iinc 3 1, 0, 0, []), (31, .goto (-27), 1, 0, [])], [(34, .iload_n 2, 0, 0, []), (35, .ireturn, 0, 0, [])]]
def zB_189 : mzB := [[(0, .aload_n 0, 0, 0, []), (1, .iload_n 1, 0, 0, []), (2, .invokevirtual 230, 185, 10, [2, 0, 0]), (5, .istore 4, 0, 0, []), (7, .aload_n 0, 0, 0, []), (8, .getfield 42, 10, 24, [0]), (11, .iload 4, 0, 0, []), (13, .iaload, 0, 0, []), (14, .iload_n 2, 0, 0, []), (15, .if_icmp .eq 36, 1, 0, []), (18, .iload_n 3, 0, 0, []), (19, .aload_n 0, 0, 0, []), (20, .getfield 45, 10, 25, [0]), (23, .iload 4, 0, 0, []), (25, .iaload, 0, 0, []), (26, .isub, 0, 0, []), (27, .aload_n 0, 0, 0, []), (28, .getfield 29, 10, 20, [0]), (31, .bipush 8, 0, 0, []), (33, .aload_n 0, 0, 0, []), (34, .getfield 42, 10, 24, [0]), (37, .iload 4, 0, 0, []), (39, .iaload, 0, 0, []), (40, .imul, 0, 0, []), (41, .iload_n 2, 0, 0, []), (42, .iadd, 0, 0, []), (43, .iaload, 0, 0, []), (44, .if_icmp .ge 7, 1, 0, []), (47, .iconst 1, 0, 0, []), (48, .goto 4, 2, 0, [])], [(51, .iconst 0, 0, 0, []), (52, .nop, 2, 0, [])], [(52, .ireturn, 1, 0, [])]]
def zB_190 : mzB := [[(0, .iload_n 1, 0, 0, []), (1, .iload_n 2, 0, 0, []), (2, .if_icmp .eq 14, 1, 0, []), (5, .iload_n 1, 0, 0, []), (6, .iload_n 3, 0, 0, []), (7, .if_icmp .eq 9, 1, 0, []), (10, .iload_n 1, 0, 0, []), (11, .iload 4, 0, 0, []), (13, .if_icmp .ne 7, 2, 0, []), (16, .nop, 1, 0, [])], [(16, .iconst 1, 0, 0, []), (17, .goto 4, 3, 0, [])], [(20, .iconst 0, 0, 0, []), (21, .nop, 3, 0, [])], [(21, .ireturn, 1, 0, [])]]
def zB_191 : mzB := [[(0, .aload_n 0, 0, 0, []), (1, .iload_n 1, 0, 0, []), (2, .iconst 1, 0, 0, []), (3, .invokevirtual 217, 181, 10, [3, 0, 0]), (6, .istore_n 2, 0, 0, []), (7, .aload_n 0, 0, 0, []), (8, .iload_n 1, 0, 0, []), (9, .iconst 2, 0, 0, []), (10, .invokevirtual 217, 181, 10, [3, 0, 0]), (13, .istore_n 3, 0, 0, []), (14, .aload_n 0, 0, 0, []), (15, .iload_n 1, 0, 0, []), (16, .iconst 3, 0, 0, []), (17, .invokevirtual 217, 181, 10, [3, 0, 0]), (20, .istore 4, 0, 0, []), (22, .iload_n 2, 0, 0, []), (23, .iconst 1, 0, 0, []), (24, .if_icmp .ne 7, 1, 0, []), (27, .iconst 1, 0, 0, []), (28, .goto 4, 2, 0, [])], [(31, .iconst 0, 0, 0, []), (32, .nop, 2, 0, [])], [(32, .istore 5, 0, 0, []), (34, .iload_n 2, 0, 0, []), (35, .ifCond .ne 18, 5, 0, []), (38, .aload_n 0, 0, 0, []), (39, .getfield 32, 10, 21, [0]), (42, .iload_n 3, 0, 0, []), (43, .baload, 0, 0, []), (44, .ifCond .eq 7, 3, 0, []), (47, .iconst 1, 0, 0, []), (48, .goto 4, 4, 0, [])], [(51, .iconst 0, 0, 0, []), (52, .nop, 4, 0, [])], [(52, .ireturn, 0, 0, [])], [(53, .aload_n 0, 0, 0, []), (54, .getfield 32, 10, 21, [0]), (57, .iload_n 3, 0, 0, []), (58, .baload, 0, 0, []), (59, .ifCond .eq 18, 6, 0, []), (62, .iload 5, 0, 0, []), (64, .ifCond .eq 15, 7, 0, []), (67, .aload_n 0, 0, 0, []), (68, .getfield 32, 10, 21, [0]), (71, .iload 4, 0, 0, []), (73, .baload, 0, 0, []), (74, .ifCond .ne 5, 7, 0, []), (77, .nop, 6, 0, [])], [(77, .iconst 2, 0, 0, []), (78, .ireturn, 0, 0, [])], [(79, .aload_n 0, 0, 0, []), (80, .getfield 60, 10, 30, [0]), (83, .iload_n 3, 0, 0, []), (84, .baload, 0, 0, []), (85, .ifCond .ne 18, 8, 0, []), (88, .iload 5, 0, 0, []), (90, .ifCond .eq 15, 9, 0, []), (93, .aload_n 0, 0, 0, []), (94, .getfield 60, 10, 30, [0]), (97, .iload 4, 0, 0, []), (99, .baload, 0, 0, []), (100, .ifCond .eq 5, 9, 0, []), (103, .nop, 8, 0, [])], [(103, .iconst 3, 0, 0, []), (104, .ireturn, 0, 0, [])], [(105, .iload 5, 0, 0, []), (107, .ifCond .eq 23, 10, 0, []), (110, .aload_n 0, 0, 0, []), (111, .getfield 36, 10, 22, [0]), (114, .iload 4, 0, 0, []), (116, .iaload, 0, 0, []), (117, .aload_n 0, 0, 0, []), (118, .getfield 36, 10, 22, [0]), (121, .iload_n 3, 0, 0, []), (122, .iaload, 0, 0, []), (123, .iconst 1, 0, 0, []), (124, .iadd, 0, 0, []), (125, .if_icmp .eq 5, 10, 0, []), (128, .iconst 4, 0, 0, []), (129, .ireturn, 0, 0, [])], [(130, .iload 5, 0, 0, []), (132, .ifCond .eq 14, 11, 0, []), (135, .aload_n 0, 0, 0, []), (136, .getfield 39, 10, 23, [0]), (139, .iload_n 3, 0, 0, []), (140, .iaload, 0, 0, []), (141, .bipush (-5), 0, 0, []), (143, .if_icmp .ne 19, 12, 0, []), (146, .nop, 11, 0, [])], [(146, .iload_n 2, 0, 0, []), (147, .iconst 2, 0, 0, []), (148, .if_icmp .ne 16, 13, 0, []), (151, .aload_n 0, 0, 0, []), (152, .getfield 39, 10, 23, [0]), (155, .iload_n 3, 0, 0, []), (156, .iaload, 0, 0, []), (157, .bipush (-5), 0, 0, []), (159, .if_icmp .ne 5, 13, 0, []), (162, .nop, 12, 0, [])], [(162, .iconst 5, 0, 0, []), (163, .ireturn, 0, 0, [])], [(164, .iload_n 2, 0, 0, []), (165, .iconst 1, 0, 0, []), (166, .if_icmp .lt 13, 14, 0, []), (169, .iload_n 2, 0, 0, []), (170, .bipush 7, 0, 0, []), (172, .if_icmp .gt 7, 14, 0, []), (175, .iconst 1, 0, 0, []), (176, .goto 4, 15, 0, [])], [(179, .iconst 0, 0, 0, []), (180, .nop, 15, 0, [])], [(180, .istore 6, 0, 0, []), (182, .iload 6, 0, 0, []), (184, .ifCond .eq 16, 16, 0, []), (187, .aload_n 0, 0, 0, []), (188, .getfield 57, 10, 29, [0]), (191, .aload_n 0, 0, 0, []), (192, .iload_n 3, 0, 0, []), (193, .invokevirtual 230, 185, 10, [2, 0, 0]), (196, .baload, 0, 0, []), (197, .ifCond .ne 22, 17, 0, []), (200, .nop, 16, 0, [])], [(200, .iload 5, 0, 0, []), (202, .ifCond .eq 20, 18, 0, []), (205, .aload_n 0, 0, 0, []), (206, .getfield 57, 10, 29, [0]), (209, .aload_n 0, 0, 0, []), (210, .iload 4, 0, 0, []), (212, .invokevirtual 230, 185, 10, [2, 0, 0]), (215, .baload, 0, 0, []), (216, .ifCond .eq 6, 18, 0, []), (219, .nop, 17, 0, [])], [(219, .bipush 6, 0, 0, []), (221, .ireturn, 0, 0, [])], [(222, .iload_n 2, 0, 0, []), (223, .bipush 8, 0, 0, []), (225, .if_icmp .ne 26, 20, 0, []), (228, .aload_n 0, 0, 0, []), (229, .getfield 39, 10, 23, [0]), (232, .iload_n 3, 0, 0, []), (233, .iaload, 0, 0, []), (234, .bipush (-5), 0, 0, []), (236, .if_icmp .ne 12, 19, 0, []), (239, .aload_n 0, 0, 0, []), (240, .getfield 57, 10, 29, [0]), (243, .iload_n 3, 0, 0, []), (244, .baload, 0, 0, []), (245, .ifCond .ne 6, 20, 0, []), (248, .nop, 19, 0, [])], [(248, .bipush 6, 0, 0, []), (250, .ireturn, 0, 0, [])], [(251, .iload 5, 0, 0, []), (253, .ifCond .eq 51, 22, 0, []), (256, .aload_n 0, 0, 0, []), (257, .getfield 42, 10, 24, [0]), (260, .iload_n 3, 0, 0, []), (261, .iaload, 0, 0, []), (262, .aload_n 0, 0, 0, []), (263, .getfield 42, 10, 24, [0]), (266, .aload_n 0, 0, 0, []), (267, .iload 4, 0, 0, []), (269, .invokevirtual 230, 185, 10, [2, 0, 0]), (272, .iaload, 0, 0, []), (273, .if_icmp .ne 28, 21, 0, []), (276, .aload_n 0, 0, 0, []), (277, .iload 4, 0, 0, []), (279, .invokevirtual 234, 188, 10, [2, 0, 0]), (282, .aload_n 0, 0, 0, []), (283, .getfield 13, 10, 3, [0]), (286, .iconst 3, 0, 0, []), (287, .aload_n 0, 0, 0, []), (288, .getfield 36, 10, 22, [0]), (291, .iload 4, 0, 0, []), (293, .iaload, 0, 0, []), (294, .iadd, 0, 0, []), (295, .iconst 1, 0, 0, []), (296, .isub, 0, 0, []), (297, .iaload, 0, 0, []), (298, .if_icmp .lt 6, 22, 0, []), (301, .nop, 21, 0, [])], [(301, .bipush 7, 0, 0, []), (303, .ireturn, 0, 0, [])], [(304, .iload_n 2, 0, 0, []), (305, .iconst 3, 0, 0, []), (306, .if_icmp .ne 21, 23, 0, []), (309, .aload_n 0, 0, 0, []), (310, .getfield 51, 10, 27, [0]), (313, .iload_n 3, 0, 0, []), (314, .baload, 0, 0, []), (315, .ifCond .ne 26, 24, 0, []), (318, .aload_n 0, 0, 0, []), (319, .getfield 36, 10, 22, [0]), (322, .iload_n 3, 0, 0, []), (323, .iaload, 0, 0, []), (324, .ifCond .eq 17, 24, 0, []), (327, .nop, 23, 0, [])], [(327, .iload_n 2, 0, 0, []), (328, .iconst 4, 0, 0, []), (329, .if_icmp .ne 15, 25, 0, []), (332, .aload_n 0, 0, 0, []), (333, .getfield 51, 10, 27, [0]), (336, .iload_n 3, 0, 0, []), (337, .baload, 0, 0, []), (338, .ifCond .ne 6, 25, 0, []), (341, .nop, 24, 0, [])], [(341, .bipush 8, 0, 0, []), (343, .ireturn, 0, 0, [])], [(344, .aload_n 0, 0, 0, []), (345, .iload_n 2, 0, 0, []), (346, .iconst 5, 0, 0, []), (347, .bipush 7, 0, 0, []), (349, .bipush 8, 0, 0, []), (351, .invokevirtual 237, 190, 10, [5, 0, 0]), (354, .ifCond .eq 17, 26, 0, []), (357, .aload_n 0, 0, 0, []), (358, .getfield 39, 10, 23, [0]), (361, .iload_n 3, 0, 0, []), (362, .iaload, 0, 0, []), (363, .bipush (-5), 0, 0, []), (365, .if_icmp .eq 6, 26, 0, []), (368, .bipush 9, 0, 0, []), (370, .ireturn, 0, 0, [])], [(371, .iload_n 2, 0, 0, []), (372, .iconst 5, 0, 0, []), (373, .if_icmp .eq 9, 27, 0, []), (376, .iload_n 2, 0, 0, []), (377, .bipush 6, 0, 0, []), (379, .if_icmp .ne 22, 28, 0, []), (382, .nop, 27, 0, [])], [(382, .aload_n 0, 0, 0, []), (383, .iload_n 3, 0, 0, []), (384, .iload 4, 0, 0, []), (386, .aload_n 0, 0, 0, []), (387, .getfield 66, 10, 32, [0]), (390, .iload_n 1, 0, 0, []), (391, .iaload, 0, 0, []), (392, .invokevirtual 241, 189, 10, [4, 0, 0]), (395, .ifCond .eq 6, 28, 0, []), (398, .bipush 10, 0, 0, []), (400, .ireturn, 0, 0, [])], [(401, .iload 5, 0, 0, []), (403, .ifCond .ne 9, 29, 0, []), (406, .iload_n 2, 0, 0, []), (407, .bipush 7, 0, 0, []), (409, .if_icmp .ne 14, 30, 0, []), (412, .nop, 29, 0, [])], [(412, .aload_n 0, 0, 0, []), (413, .iload_n 3, 0, 0, []), (414, .invokevirtual 245, 187, 10, [2, 0, 0]), (417, .ifCond .eq 6, 30, 0, []), (420, .bipush 11, 0, 0, []), (422, .ireturn, 0, 0, [])], [(423, .iload_n 2, 0, 0, []), (424, .bipush 10, 0, 0, []), (426, .if_icmp .ne 17, 31, 0, []), (429, .aload_n 0, 0, 0, []), (430, .getfield 54, 10, 28, [0]), (433, .iload_n 3, 0, 0, []), (434, .baload, 0, 0, []), (435, .ifCond .ne 8, 31, 0, []), (438, .bipush 12, 0, 0, []), (440, .goto 4, 32, 0, [])], [(443, .iconst 0, 0, 0, []), (444, .nop, 32, 0, [])], [(444, .ireturn, 0, 0, [])]]
def zB_192 : mzB := [[(0, .aload_n 0, 0, 0, []), (1, .getfield 72, 10, 35, [0]), (4, .iload_n 1, 0, 0, []), (5, .aload_n 0, 0, 0, []), (6, .iload_n 1, 0, 0, []), (7, .invokevirtual 248, 191, 10, [2, 0, 0]), (10, .iastore, 0, 0, []), (11, .aload_n 0, 0, 0, []), (12, .iload_n 1, 0, 0, []), (13, .iconst 1, 0, 0, []), (14, .invokevirtual 217, 181, 10, [3, 0, 0]), (17, .istore_n 2, 0, 0, []), (18, .aload_n 0, 0, 0, []), (19, .iload_n 1, 0, 0, []), (20, .iconst 2, 0, 0, []), (21, .invokevirtual 217, 181, 10, [3, 0, 0]), (24, .istore_n 3, 0, 0, []), (25, .aload_n 0, 0, 0, []), (26, .getfield 72, 10, 35, [0]), (29, .iload_n 1, 0, 0, []), (30, .iaload, 0, 0, []), (31, .ifCond .ne 30, 1, 0, []), (34, .aload_n 0, 0, 0, []), (35, .iload_n 2, 0, 0, []), (36, .iload_n 3, 0, 0, []), (37, .aload_n 0, 0, 0, []), (38, .iload_n 1, 0, 0, []), (39, .iconst 3, 0, 0, []), (40, .invokevirtual 217, 181, 10, [3, 0, 0]), (43, .aload_n 0, 0, 0, []), (44, .getfield 66, 10, 32, [0]), (47, .iload_n 1, 0, 0, []), (48, .iaload, 0, 0, []), (49, .aload_n 0, 0, 0, []), (50, .iload_n 1, 0, 0, []), (51, .iconst 4, 0, 0, []), (52, .invokevirtual 217, 181, 10, [3, 0, 0]), (55, .invokevirtual 251, 194, 10, [6, 0, 0]), (58, .goto 51, 4, 0, [])], [(61, .iload_n 2, 0, 0, []), (62, .ifCond .ne 12, 2, 0, []), (65, .aload_n 0, 0, 0, []), (66, .getfield 60, 10, 30, [0]), (69, .iload_n 3, 0, 0, []), (70, .baload, 0, 0, []), (71, .ifCond .eq 31, 3, 0, []), (74, .nop, 2, 0, [])], [(74, .iload_n 2, 0, 0, []), (75, .bipush 6, 0, 0, []), (77, .if_icmp .ne 32, 4, 0, []), (80, .aload_n 0, 0, 0, []), (81, .getfield 72, 10, 35, [0]), (84, .iload_n 1, 0, 0, []), (85, .iaload, 0, 0, []), (86, .bipush 6, 0, 0, []), (88, .if_icmp .eq 14, 3, 0, []), (91, .aload_n 0, 0, 0, []), (92, .getfield 72, 10, 35, [0]), (95, .iload_n 1, 0, 0, []), (96, .iaload, 0, 0, []), (97, .bipush 10, 0, 0, []), (99, .if_icmp .ne 10, 4, 0, []), (102, .nop, 3, 0, [])], [(102, .aload_n 0, 0, 0, []), (103, .getfield 54, 10, 28, [0]), (106, .iload_n 3, 0, 0, []), (107, .iconst 1, 0, 0, []), (108, .bastore, 0, 0, []), (109, .nop, 4, 0, [])], [(109, .return_, 0, 0, [])]]
def zB_193 : mzB := [[(0, .aload_n 0, 0, 0, []), (1, .getfield 42, 10, 24, [0]), (4, .iload_n 1, 0, 0, []), (5, .iload_n 2, 0, 0, []), (6, .iastore, 0, 0, []), (7, .aload_n 0, 0, 0, []), (8, .getfield 45, 10, 25, [0]), (11, .iload_n 1, 0, 0, []), (12, .iload_n 3, 0, 0, []), (13, .iastore, 0, 0, []), (14, .return_, 0, 0, [])]]
def zB_194 : mzB := [[(0, .iload_n 1, 0, 0, []), (1, .tableswitch 189 0 9 #[55, 81, 91, 111, 121, 131, 142, 153, 163, 181], 11, 0, [1, 2, 3, 4, 5, 6, 7, 8, 9, 10])], [(56, .aload_n 0, 0, 0, []), (57, .getfield 32, 10, 21, [0]), (60, .iload_n 2, 0, 0, []), (61, .iconst 1, 0, 0, []), (62, .bastore, 0, 0, []), (63, .aload_n 0, 0, 0, []), (64, .getfield 36, 10, 22, [0]), (67, .iload_n 2, 0, 0, []), (68, .iload 5, 0, 0, []), (70, .iastore, 0, 0, []), (71, .aload_n 0, 0, 0, []), (72, .iload_n 2, 0, 0, []), (73, .iload_n 3, 0, 0, []), (74, .iload 4, 0, 0, []), (76, .invokevirtual 255, 193, 10, [4, 0, 0]), (79, .goto 118, 12, 0, [])], [(82, .aload_n 0, 0, 0, []), (83, .getfield 39, 10, 23, [0]), (86, .iload_n 2, 0, 0, []), (87, .iload_n 3, 0, 0, []), (88, .iastore, 0, 0, []), (89, .goto 108, 12, 0, [])], [(92, .aload_n 0, 0, 0, []), (93, .iload_n 2, 0, 0, []), (94, .aload_n 0, 0, 0, []), (95, .getfield 42, 10, 24, [0]), (98, .aload_n 0, 0, 0, []), (99, .iload_n 2, 0, 0, []), (100, .invokevirtual 230, 185, 10, [2, 0, 0]), (103, .iaload, 0, 0, []), (104, .iload 4, 0, 0, []), (106, .invokevirtual 259, 195, 10, [4, 0, 0]), (109, .goto 88, 12, 0, [])], [(112, .aload_n 0, 0, 0, []), (113, .getfield 51, 10, 27, [0]), (116, .iload_n 2, 0, 0, []), (117, .iconst 1, 0, 0, []), (118, .bastore, 0, 0, []), (119, .goto 78, 12, 0, [])], [(122, .aload_n 0, 0, 0, []), (123, .getfield 51, 10, 27, [0]), (126, .iload_n 2, 0, 0, []), (127, .iconst 0, 0, 0, []), (128, .bastore, 0, 0, []), (129, .goto 68, 12, 0, [])], [(132, .aload_n 0, 0, 0, []), (133, .iload_n 2, 0, 0, []), (134, .iload_n 3, 0, 0, []), (135, .iload 4, 0, 0, []), (137, .invokevirtual 255, 193, 10, [4, 0, 0]), (140, .goto 57, 12, 0, [])], [(143, .aload_n 0, 0, 0, []), (144, .iload_n 2, 0, 0, []), (145, .iload_n 3, 0, 0, []), (146, .iload 4, 0, 0, []), (148, .invokevirtual 262, 196, 10, [4, 0, 0]), (151, .goto 46, 12, 0, [])], [(154, .aload_n 0, 0, 0, []), (155, .getfield 57, 10, 29, [0]), (158, .iload_n 2, 0, 0, []), (159, .iconst 1, 0, 0, []), (160, .bastore, 0, 0, []), (161, .goto 36, 12, 0, [])], [(164, .aload_n 0, 0, 0, []), (165, .getfield 57, 10, 29, [0]), (168, .iload_n 2, 0, 0, []), (169, .iconst 0, 0, 0, []), (170, .bastore, 0, 0, []), (171, .aload_n 0, 0, 0, []), (172, .iload_n 2, 0, 0, []), (173, .iload_n 3, 0, 0, []), (174, .iload 4, 0, 0, []), (176, .invokevirtual 255, 193, 10, [4, 0, 0]), (179, .goto 18, 12, 0, [])], [(182, .aload_n 0, 0, 0, []), (183, .iload_n 2, 0, 0, []), (184, .invokevirtual 265, 197, 10, [2, 0, 0]), (187, .goto 10, 12, 0, [])], [(190, .aload_n 0, 0, 0, []), (191, .getfield 54, 10, 28, [0]), (194, .iload_n 2, 0, 0, []), (195, .iconst 0, 0, 0, []), (196, .bastore, 0, 0, []), (197, .nop, 12, 0, [])], [(197, .return_, 0, 0, [])]]
def zB_195 : mzB := [[(0, .aload_n 0, 0, 0, []), (1, .getfield 51, 10, 27, [0]), (4, .aload_n 0, 0, 0, []), (5, .getfield 39, 10, 23, [0]), (8, .iload_n 1, 0, 0, []), (9, .iaload, 0, 0, []), (10, .iconst 1, 0, 0, []), (11, .bastore, 0, 0, []), (12, .aload_n 0, 0, 0, []), (13, .getfield 39, 10, 23, [0]), (16, .iload_n 1, 0, 0, []), (17, .bipush (-5), 0, 0, []), (19, .iastore, 0, 0, []), (20, .aload_n 0, 0, 0, []), (21, .iload_n 1, 0, 0, []), (22, .iload_n 2, 0, 0, []), (23, .iload_n 3, 0, 0, []), (24, .invokevirtual 255, 193, 10, [4, 0, 0]), (27, .return_, 0, 0, [])]]
def zB_196 : mzB := [[(0, .aload_n 0, 0, 0, []), (1, .getfield 48, 10, 26, [0]), (4, .iload_n 1, 0, 0, []), (5, .iload_n 3, 0, 0, []), (6, .iastore, 0, 0, []), (7, .aload_n 0, 0, 0, []), (8, .iload_n 1, 0, 0, []), (9, .invokevirtual 230, 185, 10, [2, 0, 0]), (12, .istore 4, 0, 0, []), (14, .aload_n 0, 0, 0, []), (15, .getfield 42, 10, 24, [0]), (18, .iload 4, 0, 0, []), (20, .iaload, 0, 0, []), (21, .iload_n 2, 0, 0, []), (22, .if_icmp .ne 12, 1, 0, []), (25, .aload_n 0, 0, 0, []), (26, .getfield 45, 10, 25, [0]), (29, .iload 4, 0, 0, []), (31, .iload_n 3, 0, 0, []), (32, .iastore, 0, 0, []), (33, .return_, 0, 0, [])], [(34, .iload_n 1, 0, 0, []), (35, .istore 5, 0, 0, []), (37, .nop, 2, 0, [])], [(37, .aload_n 0, 0, 0, []), (38, .getfield 39, 10, 23, [0]), (41, .iload 5, 0, 0, []), (43, .iaload, 0, 0, []), (44, .bipush (-5), 0, 0, []), (46, .if_icmp .eq 30, 3, 0, []), (49, .aload_n 0, 0, 0, []), (50, .getfield 51, 10, 27, [0]), (53, .aload_n 0, 0, 0, []), (54, .getfield 39, 10, 23, [0]), (57, .iload 5, 0, 0, []), (59, .iaload, 0, 0, []), (60, .baload, 0, 0, []), (61, .ifCond .ne 15, 3, 0, []), (64, .aload_n 0, 0, 0, []), (65, .getfield 39, 10, 23, [0]), (68, .iload 5, 0, 0, []), (70, .iaload, 0, 0, []), (71, .istore 5, 0, 0, []), (73, .goto (-36), 2, 0, [])], [(76, .aload_n 0, 0, 0, []), (77, .getfield 39, 10, 23, [0]), (80, .iload 5, 0, 0, []), (82, .iaload, 0, 0, []), (83, .bipush (-5), 0, 0, []), (85, .if_icmp .eq 14, 4, 0, []), (88, .aload_n 0, 0, 0, []), (89, .iload 5, 0, 0, []), (91, .iload_n 2, 0, 0, []), (92, .iload_n 3, 0, 0, []), (93, .invokevirtual 259, 195, 10, [4, 0, 0]), (96, .goto 11, 5, 0, [])], [(99, .aload_n 0, 0, 0, []), (100, .iload 4, 0, 0, []), (102, .iload_n 2, 0, 0, []), (103, .iload_n 3, 0, 0, []), (104, .invokevirtual 255, 193, 10, [4, 0, 0]), (107, .nop, 5, 0, [])], [(107, .return_, 0, 0, [])]]
def zB_197 : mzB := [[(0, .iconst 0, 0, 0, []), (1, .istore_n 2, 0, 0, []), (2, .nop, 1, 0, [])], [(2, .iload_n 2, 0, 0, []), (3, .bipush 40, 0, 0, []), (5, .if_icmp .ge 34, 5, 0, []), (8, .aload_n 0, 0, 0, []), (9, .getfield 75, 10, 36, [0]), (12, .iload_n 2, 0, 0, []), (13, .iload_n 2, 0, 0, []), (14, .iload_n 1, 0, 0, []), (15, .if_icmp .eq 12, 2, 0, []), (18, .aload_n 0, 0, 0, []), (19, .iload_n 2, 0, 0, []), (20, .iload_n 1, 0, 0, []), (21, .invokevirtual 226, 186, 10, [3, 0, 0]), (24, .ifCond .eq 7, 3, 0, []), (27, .nop, 2, 0, [])], [(27, .iconst 1, 0, 0, []), (28, .goto 4, 4, 0, [])], [(31, .iconst 0, 0, 0, []), (32, .nop, 4, 0, [])], [(32, .bastore, 0, 0, []), (33, .iinc 2 1, 0, 0, []), (36, .goto (-34), 1, 0, [])], [(39, .aload_n 0, 0, 0, []), (40, .getfield 39, 10, 23, [0]), (43, .iload_n 1, 0, 0, []), (44, .iaload, 0, 0, []), (45, .bipush (-5), 0, 0, []), (47, .if_icmp .eq 15, 6, 0, []), (50, .aload_n 0, 0, 0, []), (51, .getfield 51, 10, 27, [0]), (54, .aload_n 0, 0, 0, []), (55, .getfield 39, 10, 23, [0]), (58, .iload_n 1, 0, 0, []), (59, .iaload, 0, 0, []), (60, .iconst 1, 0, 0, []), (61, .bastore, 0, 0, []), (62, .nop, 6, 0, [])], [(62, .iconst 0, 0, 0, []), (63, .istore_n 2, 0, 0, []), (64, .nop, 7, 0, [])], [(64, .iload_n 2, 0, 0, []), (65, .bipush 40, 0, 0, []), (67, .if_icmp .ge 57, 10, 0, []), (70, .aload_n 0, 0, 0, []), (71, .getfield 75, 10, 36, [0]), (74, .iload_n 2, 0, 0, []), (75, .baload, 0, 0, []), (76, .ifCond .ne 6, 8, 0, []), (79, .goto 39, 9, 0, [])], [(82, .aload_n 0, 0, 0, []), (83, .getfield 60, 10, 30, [0]), (86, .iload_n 2, 0, 0, []), (87, .iconst 1, 0, 0, []), (88, .bastore, 0, 0, []), (89, .aload_n 0, 0, 0, []), (90, .getfield 39, 10, 23, [0]), (93, .iload_n 2, 0, 0, []), (94, .bipush (-5), 0, 0, []), (96, .iastore, 0, 0, []), (97, .aload_n 0, 0, 0, []), (98, .getfield 51, 10, 27, [0]), (101, .iload_n 2, 0, 0, []), (102, .iconst 0, 0, 0, []), (103, .bastore, 0, 0, []), (104, .aload_n 0, 0, 0, []), (105, .getfield 54, 10, 28, [0]), (108, .iload_n 2, 0, 0, []), (109, .iconst 0, 0, 0, []), (110, .bastore, 0, 0, []), (111, .aload_n 0, 0, 0, []), (112, .getfield 57, 10, 29, [0]), (115, .iload_n 2, 0, 0, []), (116, .iconst 0, 0, 0, []), (117, .bastore, 0, 0, []), (118, .nop, 9, 0, [])], [(118, .iinc 2 1, 0, 0, []), (121, .goto (-57), 7, 0, [])], [(124, .return_, 0, 0, [])]]
def zB_198 : mzB := [[(0, .aload_n 0, 0, 0, []), (1, .invokevirtual 268, 184, 10, [1, 0, 0]), (4, .iconst 0, 0, 0, []), (5, .istore_n 2, 0, 0, []), (6, .nop, 1, 0, [])], [(6, .iload_n 2, 0, 0, []), (7, .aload_n 0, 0, 0, []), (8, .getfield 220, 10, 34, [0]), (11, .if_icmp .ge 34, 2, 0, []), (14, .aload_n 0, 0, 0, []), (15, .getfield 66, 10, 32, [0]), (18, .aload_n 0, 0, 0, []), (19, .getfield 69, 10, 33, [0]), (22, .iload_n 2, 0, 0, []), (23, .iaload, 0, 0, []), (24, .iaload, 0, 0, []), (25, .iload_n 1, 0, 0, []), (26, .if_icmp .gt 19, 2, 0, []), (29, .aload_n 0, 0, 0, []), (30, .aload_n 0, 0, 0, []), (31, .getfield 69, 10, 33, [0]), (34, .iload_n 2, 0, 0, []), (35, .iaload, 0, 0, []), (36, .invokevirtual 271, 192, 10, [2, 0, 0]), (39, .iinc 2 1, 0, 0, []), (42, .goto (-36), 1, 0, [])], [(45, .return_, 0, 0, [])]]
def zB_199 : mzB := [[(0, .aload_n 0, 0, 0, []), (1, .invokevirtual 274, 182, 10, [1, 0, 0]), (4, .aload_n 0, 0, 0, []), (5, .sipush 999, 0, 0, []), (8, .invokevirtual 277, 198, 10, [2, 0, 0]), (11, .return_, 0, 0, [])]]
def zB_200 : mzB := [[(0, .aload_n 0, 0, 0, []), (1, .invokevirtual 274, 182, 10, [1, 0, 0]), (4, .aload_n 0, 0, 0, []), (5, .iload_n 1, 0, 0, []), (6, .invokevirtual 277, 198, 10, [2, 0, 0]), (9, .return_, 0, 0, [])]]
def zB_201 : mzB := [[(0, .aload_n 0, 0, 0, []), (1, .getfield 32, 10, 21, [0]), (4, .iload_n 1, 0, 0, []), (5, .baload, 0, 0, []), (6, .ifCond .ne 6, 1, 0, []), (9, .bipush (-2), 0, 0, []), (11, .ireturn, 0, 0, [])], [(12, .aload_n 0, 0, 0, []), (13, .getfield 60, 10, 30, [0]), (16, .iload_n 1, 0, 0, []), (17, .baload, 0, 0, []), (18, .ifCond .eq 6, 2, 0, []), (21, .bipush (-4), 0, 0, []), (23, .ireturn, 0, 0, [])], [(24, .aload_n 0, 0, 0, []), (25, .iload_n 1, 0, 0, []), (26, .invokevirtual 230, 185, 10, [2, 0, 0]), (29, .istore_n 2, 0, 0, []), (30, .aload_n 0, 0, 0, []), (31, .getfield 57, 10, 29, [0]), (34, .iload_n 2, 0, 0, []), (35, .baload, 0, 0, []), (36, .ifCond .eq 8, 3, 0, []), (39, .bipush (-3), 0, 0, []), (41, .goto 9, 4, 0, [])], [(44, .aload_n 0, 0, 0, []), (45, .getfield 42, 10, 24, [0]), (48, .iload_n 2, 0, 0, []), (49, .iaload, 0, 0, []), (50, .nop, 4, 0, [])], [(50, .ireturn, 0, 0, [])]]
def zB_202 : mzB := [[(0, .aload_n 0, 0, 0, []), (1, .iconst 0, 0, 0, []), (2, .putfield 96, 10, 0, [0]), (5, .iload_n 1, 0, 0, []), (6, .ifCond .lt 11, 1, 0, []), (9, .iload_n 1, 0, 0, []), (10, .aload_n 0, 0, 0, []), (11, .invokevirtual 214, 180, 10, [1, 0, 0]), (14, .if_icmp .lt 10, 2, 0, []), (17, .nop, 1, 0, [])], [(17, .aload_n 0, 0, 0, []), (18, .iconst 1, 0, 0, []), (19, .putfield 96, 10, 0, [0]), (22, .iconst 0, 0, 0, []), (23, .ireturn, 0, 0, [])], [(24, .aload_n 0, 0, 0, []), (25, .invokevirtual 280, 199, 10, [1, 0, 0]), (28, .iload_n 2, 0, 0, []), (29, .tableswitch 77 0 6 #[43, 43, 43, 43, 50, 57, 63], 9, 0, [3, 3, 3, 3, 4, 5, 6])], [(72, .aload_n 0, 0, 0, []), (73, .iload_n 1, 0, 0, []), (74, .iload_n 2, 0, 0, []), (75, .invokevirtual 217, 181, 10, [3, 0, 0]), (78, .ireturn, 0, 0, [])], [(79, .aload_n 0, 0, 0, []), (80, .getfield 72, 10, 35, [0]), (83, .iload_n 1, 0, 0, []), (84, .iaload, 0, 0, []), (85, .ireturn, 0, 0, [])], [(86, .aload_n 0, 0, 0, []), (87, .iload_n 1, 0, 0, []), (88, .invokevirtual 283, 203, 10, [2, 0, 0]), (91, .ireturn, 0, 0, [])], [(92, .aload_n 0, 0, 0, []), (93, .iload_n 1, 0, 0, []), (94, .invokevirtual 286, 204, 10, [2, 0, 0]), (97, .ifCond .eq 7, 7, 0, []), (100, .iconst 1, 0, 0, []), (101, .goto 4, 8, 0, [])], [(104, .iconst 0, 0, 0, []), (105, .nop, 8, 0, [])], [(105, .ireturn, 0, 0, [])], [(106, .aload_n 0, 0, 0, []), (107, .iconst 2, 0, 0, []), (108, .putfield 96, 10, 0, [0]), (111, .iconst 0, 0, 0, []), (112, .ireturn, 0, 0, [])]]
def zB_203 : mzB := [[(0, .iconst 0, 0, 0, []), (1, .istore_n 2, 0, 0, []), (2, .nop, 1, 0, [])], [(2, .aload_n 0, 0, 0, []), (3, .getfield 69, 10, 33, [0]), (6, .iload_n 2, 0, 0, []), (7, .iaload, 0, 0, []), (8, .iload_n 1, 0, 0, []), (9, .if_icmp .eq 9, 2, 0, []), (12, .iinc 2 1, 0, 0, []), (15, .goto (-13), 1, 0, [])], [(18, .iload_n 2, 0, 0, []), (19, .ireturn, 0, 0, [])]]
def zB_204 : mzB := [[(0, .iconst 0, 0, 0, []), (1, .istore_n 2, 0, 0, []), (2, .nop, 1, 0, [])], [(2, .iload_n 2, 0, 0, []), (3, .iload_n 1, 0, 0, []), (4, .if_icmp .ge 26, 3, 0, []), (7, .aload_n 0, 0, 0, []), (8, .iload_n 2, 0, 0, []), (9, .iconst 0, 0, 0, []), (10, .invokevirtual 217, 181, 10, [3, 0, 0]), (13, .aload_n 0, 0, 0, []), (14, .iload_n 1, 0, 0, []), (15, .iconst 0, 0, 0, []), (16, .invokevirtual 217, 181, 10, [3, 0, 0]), (19, .if_icmp .le 5, 2, 0, []), (22, .iconst 1, 0, 0, []), (23, .ireturn, 1, 0, [])], [(24, .iinc 2 1, 0, 0, []), (27, .goto (-25), 1, 0, [])], [(30, .iconst 0, 0, 0, []), (31, .ireturn, 1, 0, [])]]
def zB_205 : mzB := [[(0, .iload_n 0, 0, 0, []), (1, .ifCond .lt 13, 1, 0, []), (4, .iload_n 0, 0, 0, []), (5, .bipush 40, 0, 0, []), (7, .if_icmp .ge 7, 1, 0, []), (10, .iconst 1, 0, 0, []), (11, .goto 4, 2, 0, [])], [(14, .iconst 0, 0, 0, []), (15, .nop, 2, 0, [])], [(15, .ireturn, 1, 0, [])]]
def zB_206 : mzB := [[(0, .iload_n 0, 0, 0, []), (1, .ifCond .lt 14, 1, 0, []), (4, .iload_n 0, 0, 0, []), (5, .sipush 999, 0, 0, []), (8, .if_icmp .gt 7, 1, 0, []), (11, .iconst 1, 0, 0, []), (12, .goto 4, 2, 0, [])], [(15, .iconst 0, 0, 0, []), (16, .nop, 2, 0, [])], [(16, .ireturn, 1, 0, [])]]
def zB_207 : mzB := [[(0, .iconst 0, 0, 0, []), (1, .istore_n 2, 0, 0, []), (2, .iconst 0, 0, 0, []), (3, .istore_n 3, 0, 0, []), (4, .nop, 1, 0, [])], [(4, .iload_n 3, 0, 0, []), (5, .bipush 40, 0, 0, []), (7, .if_icmp .ge 26, 4, 0, []), (10, .iload_n 2, 0, 0, []), (11, .aload_n 0, 0, 0, []), (12, .iload_n 3, 0, 0, []), (13, .iload_n 1, 0, 0, []), (14, .invokevirtual 226, 186, 10, [3, 0, 0]), (17, .ifCond .eq 7, 2, 0, []), (20, .iconst 1, 0, 0, []), (21, .goto 4, 3, 0, [])], [(24, .iconst 0, 0, 0, []), (25, .nop, 3, 0, [])], [(25, .iadd, 0, 0, []), (26, .istore_n 2, 0, 0, []), (27, .iinc 3 1, 0, 0, []), (30, .goto (-26), 1, 0, [])], [(33, .iload_n 2, 0, 0, []), (34, .ireturn, 0, 0, [])]]
def zB_208 : mzB := [[(0, .aload_n 0, 0, 0, []), (1, .iconst 0, 0, 0, []), (2, .putfield 96, 10, 0, [0]), (5, .iload_n 1, 0, 0, []), (6, .invokestatic 289, 205, 10, [1, 0, 0]), (9, .ifCond .eq 20, 1, 0, []), (12, .iload_n 2, 0, 0, []), (13, .invokestatic 292, 206, 10, [1, 0, 0]), (16, .ifCond .eq 13, 1, 0, []), (19, .iload_n 3, 0, 0, []), (20, .ifCond .lt 9, 1, 0, []), (23, .iload_n 3, 0, 0, []), (24, .bipush 9, 0, 0, []), (26, .if_icmp .le 5, 2, 0, []), (29, .nop, 1, 0, [])], [(29, .iconst (-1), 0, 0, []), (30, .ireturn, 0, 0, [])], [(31, .aload_n 0, 0, 0, []), (32, .iload_n 2, 0, 0, []), (33, .invokevirtual 295, 200, 10, [2, 0, 0]), (36, .aload_n 0, 0, 0, []), (37, .getfield 32, 10, 21, [0]), (40, .iload_n 1, 0, 0, []), (41, .baload, 0, 0, []), (42, .ifCond .ne 6, 3, 0, []), (45, .bipush (-2), 0, 0, []), (47, .ireturn, 0, 0, [])], [(48, .aload_n 0, 0, 0, []), (49, .getfield 60, 10, 30, [0]), (52, .iload_n 1, 0, 0, []), (53, .baload, 0, 0, []), (54, .ifCond .eq 6, 4, 0, []), (57, .bipush (-4), 0, 0, []), (59, .ireturn, 0, 0, [])], [(60, .iload_n 3, 0, 0, []), (61, .tableswitch 131 0 8 #[51, 58, 65, 71, 77, 92, 107, 114, 125], 18, 0, [5, 6, 7, 8, 9, 12, 15, 16, 17])], [(112, .aload_n 0, 0, 0, []), (113, .getfield 36, 10, 22, [0]), (116, .iload_n 1, 0, 0, []), (117, .iaload, 0, 0, []), (118, .ireturn, 0, 0, [])], [(119, .aload_n 0, 0, 0, []), (120, .getfield 39, 10, 23, [0]), (123, .iload_n 1, 0, 0, []), (124, .iaload, 0, 0, []), (125, .ireturn, 0, 0, [])], [(126, .aload_n 0, 0, 0, []), (127, .iload_n 1, 0, 0, []), (128, .invokevirtual 230, 185, 10, [2, 0, 0]), (131, .ireturn, 0, 0, [])], [(132, .aload_n 0, 0, 0, []), (133, .iload_n 1, 0, 0, []), (134, .invokevirtual 298, 201, 10, [2, 0, 0]), (137, .ireturn, 0, 0, [])], [(138, .aload_n 0, 0, 0, []), (139, .getfield 51, 10, 27, [0]), (142, .iload_n 1, 0, 0, []), (143, .baload, 0, 0, []), (144, .ifCond .eq 7, 10, 0, []), (147, .iconst 1, 0, 0, []), (148, .goto 4, 11, 0, [])], [(151, .iconst 0, 0, 0, []), (152, .nop, 11, 0, [])], [(152, .ireturn, 0, 0, [])], [(153, .aload_n 0, 0, 0, []), (154, .getfield 54, 10, 28, [0]), (157, .iload_n 1, 0, 0, []), (158, .baload, 0, 0, []), (159, .ifCond .eq 7, 13, 0, []), (162, .iconst 1, 0, 0, []), (163, .goto 4, 14, 0, [])], [(166, .iconst 0, 0, 0, []), (167, .nop, 14, 0, [])], [(167, .ireturn, 0, 0, [])], [(168, .aload_n 0, 0, 0, []), (169, .getfield 48, 10, 26, [0]), (172, .iload_n 1, 0, 0, []), (173, .iaload, 0, 0, []), (174, .ireturn, 0, 0, [])], [(175, .aload_n 0, 0, 0, []), (176, .getfield 45, 10, 25, [0]), (179, .aload_n 0, 0, 0, []), (180, .iload_n 1, 0, 0, []), (181, .invokevirtual 230, 185, 10, [2, 0, 0]), (184, .iaload, 0, 0, []), (185, .ireturn, 0, 0, [])], [(186, .aload_n 0, 0, 0, []), (187, .iload_n 1, 0, 0, []), (188, .invokevirtual 234, 188, 10, [2, 0, 0]), (191, .ireturn, 0, 0, [])], [(192, .aload_n 0, 0, 0, []), (193, .iload_n 1, 0, 0, []), (194, .invokevirtual 301, 207, 10, [2, 0, 0]), (197, .ireturn, 0, 0, [])]]
def zB_209 : mzB := [[(0, .aload_n 0, 0, 0, []), (1, .iconst 0, 0, 0, []), (2, .putfield 96, 10, 0, [0]), (5, .iload_n 1, 0, 0, []), (6, .invokestatic 289, 205, 10, [1, 0, 0]), (9, .ifCond .eq 14, 1, 0, []), (12, .iload_n 2, 0, 0, []), (13, .invokestatic 292, 206, 10, [1, 0, 0]), (16, .ifCond .eq 7, 1, 0, []), (19, .iload_n 3, 0, 0, []), (20, .ifCond .ge 5, 2, 0, []), (23, .nop, 1, 0, [])], [(23, .iconst (-1), 0, 0, []), (24, .ireturn, 0, 0, [])], [(25, .aload_n 0, 0, 0, []), (26, .iload_n 2, 0, 0, []), (27, .invokevirtual 295, 200, 10, [2, 0, 0]), (30, .iload_n 3, 0, 0, []), (31, .istore 4, 0, 0, []), (33, .iconst 0, 0, 0, []), (34, .istore 5, 0, 0, []), (36, .nop, 3, 0, [])], [(36, .iload 5, 0, 0, []), (38, .bipush 40, 0, 0, []), (40, .if_icmp .ge 33, 7, 0, []), (43, .aload_n 0, 0, 0, []), (44, .iload 5, 0, 0, []), (46, .iload_n 1, 0, 0, []), (47, .invokevirtual 226, 186, 10, [3, 0, 0]), (50, .ifCond .ne 6, 4, 0, []), (53, .goto 14, 6, 0, [])], [(56, .iload 4, 0, 0, []), (58, .ifCond .ne 6, 5, 0, []), (61, .iload 5, 0, 0, []), (63, .ireturn, 0, 0, [])], [(64, .iinc 4 (-1), 0, 0, []), (67, .nop, 6, 0, [])], [(67, .iinc 5 1, 0, 0, []), (70, .goto (-34), 3, 0, [])], [(73, .bipush (-2), 0, 0, []), (75, .ireturn, 0, 0, [])]]
def zB_210 : mzB := [[(0, .iload_n 1, 0, 0, []), (1, .ifCond .lt 17, 1, 0, []), (4, .iload_n 1, 0, 0, []), (5, .aload_n 0, 0, 0, []), (6, .getfield 13, 10, 3, [0]), (9, .iconst 0, 0, 0, []), (10, .iaload, 0, 0, []), (11, .if_icmp .ge 7, 1, 0, []), (14, .iconst 1, 0, 0, []), (15, .goto 4, 2, 0, [])], [(18, .iconst 0, 0, 0, []), (19, .nop, 2, 0, [])], [(19, .ireturn, 1, 0, [])]]
def zB_211 : mzB := [[(0, .aload_n 0, 0, 0, []), (1, .iconst 0, 0, 0, []), (2, .putfield 96, 10, 0, [0]), (5, .aload_n 0, 0, 0, []), (6, .iload_n 1, 0, 0, []), (7, .invokevirtual 211, 210, 10, [2, 0, 0]), (10, .ifCond .ne 15, 1, 0, []), (13, .iload_n 1, 0, 0, []), (14, .bipush (-3), 0, 0, []), (16, .if_icmp .eq 9, 1, 0, []), (19, .iload_n 1, 0, 0, []), (20, .bipush (-4), 0, 0, []), (22, .if_icmp .ne 14, 2, 0, []), (25, .nop, 1, 0, [])], [(25, .iload_n 2, 0, 0, []), (26, .invokestatic 292, 206, 10, [1, 0, 0]), (29, .ifCond .eq 7, 2, 0, []), (32, .iload_n 3, 0, 0, []), (33, .ifCond .ge 5, 3, 0, []), (36, .nop, 2, 0, [])], [(36, .iconst (-1), 0, 0, []), (37, .ireturn, 0, 0, [])], [(38, .aload_n 0, 0, 0, []), (39, .iload_n 2, 0, 0, []), (40, .invokevirtual 295, 200, 10, [2, 0, 0]), (43, .iload_n 3, 0, 0, []), (44, .istore 4, 0, 0, []), (46, .iconst 0, 0, 0, []), (47, .istore 5, 0, 0, []), (49, .nop, 4, 0, [])], [(49, .iload 5, 0, 0, []), (51, .bipush 40, 0, 0, []), (53, .if_icmp .ge 33, 8, 0, []), (56, .aload_n 0, 0, 0, []), (57, .iload 5, 0, 0, []), (59, .invokevirtual 298, 201, 10, [2, 0, 0]), (62, .iload_n 1, 0, 0, []), (63, .if_icmp .eq 6, 5, 0, []), (66, .goto 14, 7, 0, [])], [(69, .iload 4, 0, 0, []), (71, .ifCond .ne 6, 6, 0, []), (74, .iload 5, 0, 0, []), (76, .ireturn, 0, 0, [])], [(77, .iinc 4 (-1), 0, 0, []), (80, .nop, 7, 0, [])], [(80, .iinc 5 1, 0, 0, []), (83, .goto (-34), 4, 0, [])], [(86, .bipush (-2), 0, 0, []), (88, .ireturn, 0, 0, [])]]
def zB_212 : mzB := [[(0, .iload_n 2, 0, 0, []), (1, .tableswitch 107 0 4 #[35, 42, 58, 65, 72], 10, 0, [1, 2, 5, 6, 7])], [(36, .aload_n 0, 0, 0, []), (37, .getfield 32, 10, 21, [0]), (40, .iload_n 1, 0, 0, []), (41, .baload, 0, 0, []), (42, .ireturn, 1, 0, [])], [(43, .aload_n 0, 0, 0, []), (44, .iload_n 1, 0, 0, []), (45, .invokevirtual 298, 201, 10, [2, 0, 0]), (48, .bipush (-3), 0, 0, []), (50, .if_icmp .ne 7, 3, 0, []), (53, .iconst 1, 0, 0, []), (54, .goto 4, 4, 0, [])], [(57, .iconst 0, 0, 0, []), (58, .nop, 4, 0, [])], [(58, .ireturn, 1, 0, [])], [(59, .aload_n 0, 0, 0, []), (60, .getfield 60, 10, 30, [0]), (63, .iload_n 1, 0, 0, []), (64, .baload, 0, 0, []), (65, .ireturn, 1, 0, [])], [(66, .aload_n 0, 0, 0, []), (67, .getfield 54, 10, 28, [0]), (70, .iload_n 1, 0, 0, []), (71, .baload, 0, 0, []), (72, .ireturn, 1, 0, [])], [(73, .aload_n 0, 0, 0, []), (74, .getfield 32, 10, 21, [0]), (77, .iload_n 1, 0, 0, []), (78, .baload, 0, 0, []), (79, .ifCond .eq 27, 8, 0, []), (82, .aload_n 0, 0, 0, []), (83, .getfield 60, 10, 30, [0]), (86, .iload_n 1, 0, 0, []), (87, .baload, 0, 0, []), (88, .ifCond .ne 18, 8, 0, []), (91, .aload_n 0, 0, 0, []), (92, .getfield 39, 10, 23, [0]), (95, .iload_n 1, 0, 0, []), (96, .iaload, 0, 0, []), (97, .bipush (-5), 0, 0, []), (99, .if_icmp .ne 7, 8, 0, []), (102, .iconst 1, 0, 0, []), (103, .goto 4, 9, 0, [])], [(106, .iconst 0, 0, 0, []), (107, .nop, 9, 0, [])], [(107, .ireturn, 1, 0, [])], [(108, .aload_n 0, 0, 0, []), (109, .getfield 51, 10, 27, [0]), (112, .iload_n 1, 0, 0, []), (113, .baload, 0, 0, []), (114, .ireturn, 1, 0, [])]]
def zB_213 : mzB := [[(0, .aload_n 0, 0, 0, []), (1, .iconst 0, 0, 0, []), (2, .putfield 96, 10, 0, [0]), (5, .iload_n 1, 0, 0, []), (6, .invokestatic 292, 206, 10, [1, 0, 0]), (9, .ifCond .eq 12, 1, 0, []), (12, .iload_n 2, 0, 0, []), (13, .ifCond .lt 8, 1, 0, []), (16, .iload_n 2, 0, 0, []), (17, .iconst 5, 0, 0, []), (18, .if_icmp .le 5, 2, 0, []), (21, .nop, 1, 0, [])], [(21, .iconst (-1), 0, 0, []), (22, .ireturn, 0, 0, [])], [(23, .aload_n 0, 0, 0, []), (24, .iload_n 1, 0, 0, []), (25, .invokevirtual 295, 200, 10, [2, 0, 0]), (28, .iconst 0, 0, 0, []), (29, .istore_n 3, 0, 0, []), (30, .iconst 0, 0, 0, []), (31, .istore 4, 0, 0, []), (33, .nop, 3, 0, [])], [(33, .iload 4, 0, 0, []), (35, .bipush 40, 0, 0, []), (37, .if_icmp .ge 27, 6, 0, []), (40, .iload_n 3, 0, 0, []), (41, .aload_n 0, 0, 0, []), (42, .iload 4, 0, 0, []), (44, .iload_n 2, 0, 0, []), (45, .invokevirtual 304, 212, 10, [3, 0, 0]), (48, .ifCond .eq 7, 4, 0, []), (51, .iconst 1, 0, 0, []), (52, .goto 4, 5, 0, [])], [(55, .iconst 0, 0, 0, []), (56, .nop, 5, 0, [])], [(56, .iadd, 0, 0, []), (57, .istore_n 3, 0, 0, []), (58, .iinc 4 1, 0, 0, []), (61, .goto (-28), 3, 0, [])], [(64, .iload_n 3, 0, 0, []), (65, .ireturn, 0, 0, [])]]
def zB_214 : mzB := [[(0, .aload_n 0, 0, 0, []), (1, .invokevirtual 274, 182, 10, [1, 0, 0]), (4, .aload_n 0, 0, 0, []), (5, .invokevirtual 268, 184, 10, [1, 0, 0]), (8, .aload_n 0, 0, 0, []), (9, .iconst 0, 0, 0, []), (10, .putfield 307, 10, 39, [0]), (13, .bipush (-2), 0, 0, []), (15, .istore_n 2, 0, 0, []), (16, .iconst 0, 0, 0, []), (17, .istore_n 3, 0, 0, []), (18, .nop, 1, 0, [])], [(18, .iload_n 3, 0, 0, []), (19, .aload_n 0, 0, 0, []), (20, .getfield 220, 10, 34, [0]), (23, .if_icmp .ge 79, 4, 0, []), (26, .aload_n 0, 0, 0, []), (27, .aload_n 0, 0, 0, []), (28, .getfield 69, 10, 33, [0]), (31, .iload_n 3, 0, 0, []), (32, .iaload, 0, 0, []), (33, .invokevirtual 271, 192, 10, [2, 0, 0]), (36, .aload_n 0, 0, 0, []), (37, .iload_n 1, 0, 0, []), (38, .invokevirtual 298, 201, 10, [2, 0, 0]), (41, .istore 4, 0, 0, []), (43, .iload 4, 0, 0, []), (45, .iload_n 2, 0, 0, []), (46, .if_icmp .ne 6, 2, 0, []), (49, .goto 47, 3, 0, [])], [(52, .aload_n 0, 0, 0, []), (53, .getfield 78, 10, 37, [0]), (56, .aload_n 0, 0, 0, []), (57, .getfield 307, 10, 39, [0]), (60, .iload 4, 0, 0, []), (62, .iastore, 0, 0, []), (63, .aload_n 0, 0, 0, []), (64, .getfield 81, 10, 38, [0]), (67, .aload_n 0, 0, 0, []), (68, .getfield 307, 10, 39, [0]), (71, .aload_n 0, 0, 0, []), (72, .getfield 66, 10, 32, [0]), (75, .aload_n 0, 0, 0, []), (76, .getfield 69, 10, 33, [0]), (79, .iload_n 3, 0, 0, []), (80, .iaload, 0, 0, []), (81, .iaload, 0, 0, []), (82, .iastore, 0, 0, []), (83, .aload_n 0, 0, 0, []), (84, .dup, 0, 0, []), (85, .getfield 307, 10, 39, [0]), (88, .iconst 1, 0, 0, []), (89, .iadd, 0, 0, []), (90, .putfield 307, 10, 39, [0]), (93, .iload 4, 0, 0, []), (95, .istore_n 2, 0, 0, []), (96, .nop, 3, 0, [])], [(96, .iinc 3 1, 0, 0, []), (99, .goto (-81), 1, 0, [])], [(102, .return_, 0, 0, [])]]
def zB_215 : mzB := [[(0, .aload_n 0, 0, 0, []), (1, .iconst 0, 0, 0, []), (2, .putfield 96, 10, 0, [0]), (5, .iload_n 1, 0, 0, []), (6, .invokestatic 289, 205, 10, [1, 0, 0]), (9, .ifCond .eq 16, 1, 0, []), (12, .iload_n 2, 0, 0, []), (13, .ifCond .lt 12, 1, 0, []), (16, .iload_n 3, 0, 0, []), (17, .ifCond .lt 8, 1, 0, []), (20, .iload_n 3, 0, 0, []), (21, .iconst 1, 0, 0, []), (22, .if_icmp .le 6, 2, 0, []), (25, .nop, 1, 0, [])], [(25, .bipush (-10), 0, 0, []), (27, .ireturn, 0, 0, [])], [(28, .aload_n 0, 0, 0, []), (29, .iload_n 1, 0, 0, []), (30, .invokevirtual 310, 214, 10, [2, 0, 0]), (33, .iload_n 2, 0, 0, []), (34, .aload_n 0, 0, 0, []), (35, .getfield 307, 10, 39, [0]), (38, .if_icmp .ge 25, 4, 0, []), (41, .iload_n 3, 0, 0, []), (42, .ifCond .ne 12, 3, 0, []), (45, .aload_n 0, 0, 0, []), (46, .getfield 78, 10, 37, [0]), (49, .iload_n 2, 0, 0, []), (50, .iaload, 0, 0, []), (51, .goto 14, 5, 0, [])], [(54, .aload_n 0, 0, 0, []), (55, .getfield 81, 10, 38, [0]), (58, .iload_n 2, 0, 0, []), (59, .iaload, 0, 0, []), (60, .goto 5, 5, 0, [])], [(63, .bipush (-2), 0, 0, []), (65, .nop, 5, 0, [])], [(65, .ireturn, 0, 0, [])]]
def zB_216 : mzB := [[(0, .iconst 0, 0, 0, []), (1, .istore_n 1, 0, 0, []), (2, .iconst 0, 0, 0, []), (3, .istore_n 2, 0, 0, []), (4, .nop, 1, 0, [])], [(4, .iload_n 2, 0, 0, []), (5, .aload_n 0, 0, 0, []), (6, .invokevirtual 214, 180, 10, [1, 0, 0]), (9, .if_icmp .ge 30, 4, 0, []), (12, .aload_n 0, 0, 0, []), (13, .iload_n 2, 0, 0, []), (14, .iconst 0, 0, 0, []), (15, .invokevirtual 217, 181, 10, [3, 0, 0]), (18, .iload_n 1, 0, 0, []), (19, .if_icmp .le 12, 2, 0, []), (22, .aload_n 0, 0, 0, []), (23, .iload_n 2, 0, 0, []), (24, .iconst 0, 0, 0, []), (25, .invokevirtual 217, 181, 10, [3, 0, 0]), (28, .goto 4, 3, 0, [])], [(31, .iload_n 1, 0, 0, []), (32, .nop, 3, 0, [])], [(32, .istore_n 1, 0, 0, []), (33, .iinc 2 1, 0, 0, []), (36, .goto (-32), 1, 0, [])], [(39, .iload_n 1, 0, 0, []), (40, .ireturn, 0, 0, [])]]
def zB_217 : mzB := [[(0, .aload_n 0, 0, 0, []), (1, .iconst 0, 0, 0, []), (2, .putfield 96, 10, 0, [0]), (5, .iload_n 1, 0, 0, []), (6, .invokestatic 289, 205, 10, [1, 0, 0]), (9, .ifCond .eq 17, 1, 0, []), (12, .aload_n 0, 0, 0, []), (13, .iload_n 2, 0, 0, []), (14, .invokevirtual 211, 210, 10, [2, 0, 0]), (17, .ifCond .ne 11, 2, 0, []), (20, .iload_n 2, 0, 0, []), (21, .bipush (-3), 0, 0, []), (23, .if_icmp .eq 5, 2, 0, []), (26, .nop, 1, 0, [])], [(26, .iconst (-1), 0, 0, []), (27, .ireturn, 0, 0, [])], [(28, .aload_n 0, 0, 0, []), (29, .iload_n 1, 0, 0, []), (30, .invokevirtual 310, 214, 10, [2, 0, 0]), (33, .iconst 0, 0, 0, []), (34, .istore_n 3, 0, 0, []), (35, .iconst 0, 0, 0, []), (36, .istore 4, 0, 0, []), (38, .nop, 3, 0, [])], [(38, .iload 4, 0, 0, []), (40, .aload_n 0, 0, 0, []), (41, .getfield 307, 10, 39, [0]), (44, .if_icmp .ge 58, 7, 0, []), (47, .aload_n 0, 0, 0, []), (48, .getfield 78, 10, 37, [0]), (51, .iload 4, 0, 0, []), (53, .iaload, 0, 0, []), (54, .iload_n 2, 0, 0, []), (55, .if_icmp .ne 41, 6, 0, []), (58, .iload_n 3, 0, 0, []), (59, .iload 4, 0, 0, []), (61, .iconst 1, 0, 0, []), (62, .iadd, 0, 0, []), (63, .aload_n 0, 0, 0, []), (64, .getfield 307, 10, 39, [0]), (67, .if_icmp .ge 15, 4, 0, []), (70, .aload_n 0, 0, 0, []), (71, .getfield 81, 10, 38, [0]), (74, .iload 4, 0, 0, []), (76, .iconst 1, 0, 0, []), (77, .iadd, 0, 0, []), (78, .iaload, 0, 0, []), (79, .goto 7, 5, 0, [])], [(82, .aload_n 0, 0, 0, []), (83, .invokevirtual 313, 216, 10, [1, 0, 0]), (86, .nop, 5, 0, [])], [(86, .aload_n 0, 0, 0, []), (87, .getfield 81, 10, 38, [0]), (90, .iload 4, 0, 0, []), (92, .iaload, 0, 0, []), (93, .isub, 0, 0, []), (94, .iadd, 0, 0, []), (95, .istore_n 3, 0, 0, []), (96, .nop, 6, 0, [])], [(96, .iinc 4 1, 0, 0, []), (99, .goto (-61), 3, 0, [])], [(102, .iload_n 3, 0, 0, []), (103, .ireturn, 0, 0, [])]]
def zB_218 : mzB := [[(0, .aload_n 0, 0, 0, []), (1, .iconst 0, 0, 0, []), (2, .putfield 96, 10, 0, [0]), (5, .aload_n 0, 0, 0, []), (6, .iload_n 1, 0, 0, []), (7, .invokevirtual 211, 210, 10, [2, 0, 0]), (10, .ifCond .ne 9, 1, 0, []), (13, .iload_n 1, 0, 0, []), (14, .bipush (-3), 0, 0, []), (16, .if_icmp .ne 32, 3, 0, []), (19, .nop, 1, 0, [])], [(19, .aload_n 0, 0, 0, []), (20, .iload_n 2, 0, 0, []), (21, .invokevirtual 211, 210, 10, [2, 0, 0]), (24, .ifCond .ne 15, 2, 0, []), (27, .iload_n 2, 0, 0, []), (28, .bipush (-3), 0, 0, []), (30, .if_icmp .eq 9, 2, 0, []), (33, .iload_n 2, 0, 0, []), (34, .bipush (-4), 0, 0, []), (36, .if_icmp .ne 12, 3, 0, []), (39, .nop, 2, 0, [])], [(39, .iload_n 1, 0, 0, []), (40, .iload_n 2, 0, 0, []), (41, .if_icmp .eq 7, 3, 0, []), (44, .iconst 1, 0, 0, []), (45, .goto 4, 4, 0, [])], [(48, .iconst 0, 0, 0, []), (49, .nop, 4, 0, [])], [(49, .istore_n 3, 0, 0, []), (50, .iload_n 3, 0, 0, []), (51, .ifCond .ne 5, 5, 0, []), (54, .iconst (-1), 0, 0, []), (55, .ireturn, 0, 0, [])], [(56, .iconst 0, 0, 0, []), (57, .istore 4, 0, 0, []), (59, .iconst 0, 0, 0, []), (60, .istore 5, 0, 0, []), (62, .nop, 6, 0, [])], [(62, .iload 5, 0, 0, []), (64, .bipush 40, 0, 0, []), (66, .if_icmp .ge 69, 11, 0, []), (69, .aload_n 0, 0, 0, []), (70, .iload 5, 0, 0, []), (72, .invokevirtual 310, 214, 10, [2, 0, 0]), (75, .iconst 0, 0, 0, []), (76, .istore 6, 0, 0, []), (78, .nop, 7, 0, [])], [(78, .iload 6, 0, 0, []), (80, .iconst 1, 0, 0, []), (81, .iadd, 0, 0, []), (82, .aload_n 0, 0, 0, []), (83, .getfield 307, 10, 39, [0]), (86, .if_icmp .ge 43, 10, 0, []), (89, .iload 4, 0, 0, []), (91, .aload_n 0, 0, 0, []), (92, .getfield 78, 10, 37, [0]), (95, .iload 6, 0, 0, []), (97, .iaload, 0, 0, []), (98, .iload_n 1, 0, 0, []), (99, .if_icmp .ne 20, 8, 0, []), (102, .aload_n 0, 0, 0, []), (103, .getfield 78, 10, 37, [0]), (106, .iload 6, 0, 0, []), (108, .iconst 1, 0, 0, []), (109, .iadd, 0, 0, []), (110, .iaload, 0, 0, []), (111, .iload_n 2, 0, 0, []), (112, .if_icmp .ne 7, 8, 0, []), (115, .iconst 1, 0, 0, []), (116, .goto 4, 9, 0, [])], [(119, .iconst 0, 0, 0, []), (120, .nop, 9, 0, [])], [(120, .iadd, 0, 0, []), (121, .istore 4, 0, 0, []), (123, .iinc 6 1, 0, 0, []), (126, .goto (-48), 7, 0, [])], [(129, .iinc 5 1, 0, 0, []), (132, .goto (-70), 6, 0, [])], [(135, .iload 4, 0, 0, []), (137, .ireturn, 0, 0, [])]]
def zB_219 : mzB := [[(0, .aload_n 0, 0, 0, []), (1, .invokevirtual 274, 182, 10, [1, 0, 0]), (4, .iload_n 1, 0, 0, []), (5, .istore_n 2, 0, 0, []), (6, .nop, 1, 0, [])], [(6, .iload_n 2, 0, 0, []), (7, .aload_n 0, 0, 0, []), (8, .invokevirtual 214, 180, 10, [1, 0, 0]), (11, .if_icmp .ge 16, 2, 0, []), (14, .aload_n 0, 0, 0, []), (15, .getfield 63, 10, 31, [0]), (18, .iload_n 2, 0, 0, []), (19, .iconst 0, 0, 0, []), (20, .bastore, 0, 0, []), (21, .iinc 2 1, 0, 0, []), (24, .goto (-18), 1, 0, [])], [(27, .aload_n 0, 0, 0, []), (28, .sipush 999, 0, 0, []), (31, .invokevirtual 277, 198, 10, [2, 0, 0]), (34, .return_, 0, 0, [])]]
def zB_220 : mzB := [[(0, .aload_n 0, 0, 0, []), (1, .iconst 0, 0, 0, []), (2, .putfield 96, 10, 0, [0]), (5, .iload_n 1, 0, 0, []), (6, .ifCond .lt 18, 1, 0, []), (9, .iload_n 1, 0, 0, []), (10, .aload_n 0, 0, 0, []), (11, .invokevirtual 214, 180, 10, [1, 0, 0]), (14, .if_icmp .gt 10, 1, 0, []), (17, .iload_n 2, 0, 0, []), (18, .invokestatic 289, 205, 10, [1, 0, 0]), (21, .ifCond .ne 5, 2, 0, []), (24, .nop, 1, 0, [])], [(24, .iconst (-1), 0, 0, []), (25, .ireturn, 0, 0, [])], [(26, .aload_n 0, 0, 0, []), (27, .iload_n 1, 0, 0, []), (28, .invokevirtual 316, 219, 10, [2, 0, 0]), (31, .aload_n 0, 0, 0, []), (32, .iload_n 2, 0, 0, []), (33, .invokevirtual 298, 201, 10, [2, 0, 0]), (36, .ireturn, 0, 0, [])]]
def zB_221 : mzB := [[(0, .aload_n 0, 0, 0, []), (1, .iconst 0, 0, 0, []), (2, .putfield 96, 10, 0, [0]), (5, .iload_n 1, 0, 0, []), (6, .ifCond .lt 11, 1, 0, []), (9, .iload_n 1, 0, 0, []), (10, .aload_n 0, 0, 0, []), (11, .invokevirtual 214, 180, 10, [1, 0, 0]), (14, .if_icmp .lt 5, 2, 0, []), (17, .nop, 1, 0, [])], [(17, .iconst (-1), 0, 0, []), (18, .ireturn, 0, 0, [])], [(19, .aload_n 0, 0, 0, []), (20, .iload_n 1, 0, 0, []), (21, .invokevirtual 316, 219, 10, [2, 0, 0]), (24, .iconst 0, 0, 0, []), (25, .istore_n 2, 0, 0, []), (26, .nop, 3, 0, [])], [(26, .iload_n 2, 0, 0, []), (27, .bipush 40, 0, 0, []), (29, .if_icmp .ge 20, 4, 0, []), (32, .aload_n 0, 0, 0, []), (33, .getfield 84, 10, 40, [0]), (36, .iload_n 2, 0, 0, []), (37, .aload_n 0, 0, 0, []), (38, .iload_n 2, 0, 0, []), (39, .invokevirtual 298, 201, 10, [2, 0, 0]), (42, .iastore, 0, 0, []), (43, .iinc 2 1, 0, 0, []), (46, .goto (-20), 3, 0, [])], [(49, .aload_n 0, 0, 0, []), (50, .iload_n 1, 0, 0, []), (51, .iconst 1, 0, 0, []), (52, .iadd, 0, 0, []), (53, .invokevirtual 316, 219, 10, [2, 0, 0]), (56, .iconst 0, 0, 0, []), (57, .istore_n 2, 0, 0, []), (58, .iconst 0, 0, 0, []), (59, .istore_n 3, 0, 0, []), (60, .nop, 5, 0, [])], [(60, .iload_n 3, 0, 0, []), (61, .bipush 40, 0, 0, []), (63, .if_icmp .ge 31, 8, 0, []), (66, .iload_n 2, 0, 0, []), (67, .aload_n 0, 0, 0, []), (68, .iload_n 3, 0, 0, []), (69, .invokevirtual 298, 201, 10, [2, 0, 0]), (72, .aload_n 0, 0, 0, []), (73, .getfield 84, 10, 40, [0]), (76, .iload_n 3, 0, 0, []), (77, .iaload, 0, 0, []), (78, .if_icmp .ne 7, 6, 0, []), (81, .iconst 0, 0, 0, []), (82, .goto 4, 7, 0, [])], [(85, .iconst 1, 0, 0, []), (86, .nop, 7, 0, [])], [(86, .iadd, 0, 0, []), (87, .istore_n 2, 0, 0, []), (88, .iinc 3 1, 0, 0, []), (91, .goto (-31), 5, 0, [])], [(94, .iload_n 2, 0, 0, []), (95, .ireturn, 0, 0, [])]]
def zB_222 : mzB := [[(0, .aload_n 0, 0, 0, []), (1, .invokevirtual 274, 182, 10, [1, 0, 0]), (4, .iload_n 1, 0, 0, []), (5, .iconst (-1), 0, 0, []), (6, .if_icmp .eq 10, 1, 0, []), (9, .aload_n 0, 0, 0, []), (10, .getfield 63, 10, 31, [0]), (13, .iload_n 1, 0, 0, []), (14, .iconst 0, 0, 0, []), (15, .bastore, 0, 0, []), (16, .nop, 1, 0, [])], [(16, .iload_n 2, 0, 0, []), (17, .iconst (-1), 0, 0, []), (18, .if_icmp .eq 10, 2, 0, []), (21, .aload_n 0, 0, 0, []), (22, .getfield 63, 10, 31, [0]), (25, .iload_n 2, 0, 0, []), (26, .iconst 0, 0, 0, []), (27, .bastore, 0, 0, []), (28, .nop, 2, 0, [])], [(28, .aload_n 0, 0, 0, []), (29, .sipush 999, 0, 0, []), (32, .invokevirtual 277, 198, 10, [2, 0, 0]), (35, .return_, 0, 0, [])]]
def zB_223 : mzB := [[(0, .aload_n 0, 0, 0, []), (1, .iconst 0, 0, 0, []), (2, .putfield 96, 10, 0, [0]), (5, .iload_n 1, 0, 0, []), (6, .ifCond .lt 18, 1, 0, []), (9, .iload_n 1, 0, 0, []), (10, .aload_n 0, 0, 0, []), (11, .invokevirtual 214, 180, 10, [1, 0, 0]), (14, .if_icmp .ge 10, 1, 0, []), (17, .iload_n 2, 0, 0, []), (18, .invokestatic 289, 205, 10, [1, 0, 0]), (21, .ifCond .ne 5, 2, 0, []), (24, .nop, 1, 0, [])], [(24, .iconst (-1), 0, 0, []), (25, .ireturn, 0, 0, [])], [(26, .aload_n 0, 0, 0, []), (27, .iload_n 1, 0, 0, []), (28, .iconst (-1), 0, 0, []), (29, .invokevirtual 319, 222, 10, [3, 0, 0]), (32, .aload_n 0, 0, 0, []), (33, .iload_n 2, 0, 0, []), (34, .invokevirtual 298, 201, 10, [2, 0, 0]), (37, .ireturn, 0, 0, [])]]
def zB_224 : mzB := [[(0, .iconst 0, 0, 0, []), (1, .istore_n 1, 0, 0, []), (2, .iconst 0, 0, 0, []), (3, .istore_n 2, 0, 0, []), (4, .nop, 1, 0, [])], [(4, .iload_n 2, 0, 0, []), (5, .aload_n 0, 0, 0, []), (6, .getfield 220, 10, 34, [0]), (9, .if_icmp .ge 31, 4, 0, []), (12, .iload_n 1, 0, 0, []), (13, .aload_n 0, 0, 0, []), (14, .getfield 72, 10, 35, [0]), (17, .aload_n 0, 0, 0, []), (18, .getfield 69, 10, 33, [0]), (21, .iload_n 2, 0, 0, []), (22, .iaload, 0, 0, []), (23, .iaload, 0, 0, []), (24, .ifCond .ne 7, 2, 0, []), (27, .iconst 0, 0, 0, []), (28, .goto 4, 3, 0, [])], [(31, .iconst 1, 0, 0, []), (32, .nop, 3, 0, [])], [(32, .iadd, 0, 0, []), (33, .istore_n 1, 0, 0, []), (34, .iinc 2 1, 0, 0, []), (37, .goto (-33), 1, 0, [])], [(40, .iload_n 1, 0, 0, []), (41, .ireturn, 0, 0, [])]]
def zB_225 : mzB := [[(0, .aload_n 0, 0, 0, []), (1, .iconst 0, 0, 0, []), (2, .putfield 96, 10, 0, [0]), (5, .iload_n 1, 0, 0, []), (6, .iconst (-1), 0, 0, []), (7, .if_icmp .lt 9, 1, 0, []), (10, .iload_n 1, 0, 0, []), (11, .bipush 12, 0, 0, []), (13, .if_icmp .le 6, 2, 0, []), (16, .nop, 1, 0, [])], [(16, .bipush (-2), 0, 0, []), (18, .ireturn, 0, 0, [])], [(19, .aload_n 0, 0, 0, []), (20, .invokevirtual 280, 199, 10, [1, 0, 0]), (23, .iload_n 1, 0, 0, []), (24, .iconst (-1), 0, 0, []), (25, .if_icmp .ne 8, 3, 0, []), (28, .aload_n 0, 0, 0, []), (29, .invokevirtual 323, 224, 10, [1, 0, 0]), (32, .ireturn, 0, 0, [])], [(33, .iconst 0, 0, 0, []), (34, .istore_n 2, 0, 0, []), (35, .iconst 0, 0, 0, []), (36, .istore_n 3, 0, 0, []), (37, .nop, 4, 0, [])], [(37, .iload_n 3, 0, 0, []), (38, .aload_n 0, 0, 0, []), (39, .invokevirtual 214, 180, 10, [1, 0, 0]), (42, .if_icmp .ge 27, 7, 0, []), (45, .iload_n 2, 0, 0, []), (46, .aload_n 0, 0, 0, []), (47, .getfield 72, 10, 35, [0]), (50, .iload_n 3, 0, 0, []), (51, .iaload, 0, 0, []), (52, .iload_n 1, 0, 0, []), (53, .if_icmp .ne 7, 5, 0, []), (56, .iconst 1, 0, 0, []), (57, .goto 4, 6, 0, [])], [(60, .iconst 0, 0, 0, []), (61, .nop, 6, 0, [])], [(61, .iadd, 0, 0, []), (62, .istore_n 2, 0, 0, []), (63, .iinc 3 1, 0, 0, []), (66, .goto (-29), 4, 0, [])], [(69, .iload_n 2, 0, 0, []), (70, .ireturn, 0, 0, [])]]
def zB_226 : mzB := [[(0, .aload_n 0, 0, 0, []), (1, .iconst (-1), 0, 0, []), (2, .putfield 326, 10, 41, [0]), (5, .iconst 0, 0, 0, []), (6, .istore_n 2, 0, 0, []), (7, .nop, 1, 0, [])], [(7, .iload_n 2, 0, 0, []), (8, .aload_n 0, 0, 0, []), (9, .invokevirtual 214, 180, 10, [1, 0, 0]), (12, .if_icmp .ge 93, 10, 0, []), (15, .iload_n 2, 0, 0, []), (16, .iconst 1, 0, 0, []), (17, .iadd, 0, 0, []), (18, .istore_n 3, 0, 0, []), (19, .nop, 2, 0, [])], [(19, .iload_n 3, 0, 0, []), (20, .iload_n 1, 0, 0, []), (21, .ifCond .eq 10, 3, 0, []), (24, .aload_n 0, 0, 0, []), (25, .invokevirtual 214, 180, 10, [1, 0, 0]), (28, .goto 6, 4, 0, [])], [(31, .iload_n 2, 0, 0, []), (32, .iconst 2, 0, 0, []), (33, .iadd, 0, 0, []), (34, .nop, 4, 0, [])], [(34, .if_icmp .ge 65, 9, 0, []), (37, .aload_n 0, 0, 0, []), (38, .iload_n 2, 0, 0, []), (39, .iload_n 1, 0, 0, []), (40, .ifCond .eq 7, 5, 0, []), (43, .iload_n 3, 0, 0, []), (44, .goto 4, 6, 0, [])], [(47, .iconst (-1), 0, 0, []), (48, .nop, 6, 0, [])], [(48, .invokevirtual 319, 222, 10, [3, 0, 0]), (51, .aload_n 0, 0, 0, []), (52, .invokevirtual 323, 224, 10, [1, 0, 0]), (55, .istore 4, 0, 0, []), (57, .aload_n 0, 0, 0, []), (58, .getfield 326, 10, 41, [0]), (61, .iconst (-1), 0, 0, []), (62, .if_icmp .eq 15, 7, 0, []), (65, .iload 4, 0, 0, []), (67, .aload_n 0, 0, 0, []), (68, .getfield 329, 10, 43, [0]), (71, .if_icmp .lt 6, 7, 0, []), (74, .goto 19, 8, 0, [])], [(77, .aload_n 0, 0, 0, []), (78, .iload_n 2, 0, 0, []), (79, .putfield 326, 10, 41, [0]), (82, .aload_n 0, 0, 0, []), (83, .iload_n 3, 0, 0, []), (84, .putfield 332, 10, 42, [0]), (87, .aload_n 0, 0, 0, []), (88, .iload 4, 0, 0, []), (90, .putfield 329, 10, 43, [0]), (93, .nop, 8, 0, [])], [(93, .iinc 3 1, 0, 0, []), (96, .goto (-77), 2, 0, [])], [(99, .iinc 2 1, 0, 0, []), (102, .goto (-95), 1, 0, [])], [(105, .return_, 0, 0, [])]]
def zB_227 : mzB := [[(0, .aload_n 0, 0, 0, []), (1, .iconst 0, 0, 0, []), (2, .putfield 96, 10, 0, [0]), (5, .iload_n 1, 0, 0, []), (6, .ifCond .lt 8, 1, 0, []), (9, .iload_n 1, 0, 0, []), (10, .iconst 1, 0, 0, []), (11, .if_icmp .le 5, 2, 0, []), (14, .nop, 1, 0, [])], [(14, .iconst (-1), 0, 0, []), (15, .ireturn, 0, 0, [])], [(16, .aload_n 0, 0, 0, []), (17, .iconst 0, 0, 0, []), (18, .invokevirtual 335, 226, 10, [2, 0, 0]), (21, .aload_n 0, 0, 0, []), (22, .getfield 326, 10, 41, [0]), (25, .iconst (-1), 0, 0, []), (26, .if_icmp .ne 8, 3, 0, []), (29, .bipush (-2), 0, 0, []), (31, .goto 18, 5, 0, [])], [(34, .iload_n 1, 0, 0, []), (35, .ifCond .ne 10, 4, 0, []), (38, .aload_n 0, 0, 0, []), (39, .getfield 326, 10, 41, [0]), (42, .goto 7, 5, 0, [])], [(45, .aload_n 0, 0, 0, []), (46, .getfield 329, 10, 43, [0]), (49, .nop, 5, 0, [])], [(49, .ireturn, 0, 0, [])]]
def zB_228 : mzB := [[(0, .aload_n 0, 0, 0, []), (1, .iconst 0, 0, 0, []), (2, .putfield 96, 10, 0, [0]), (5, .iload_n 1, 0, 0, []), (6, .ifCond .lt 8, 1, 0, []), (9, .iload_n 1, 0, 0, []), (10, .iconst 2, 0, 0, []), (11, .if_icmp .le 5, 2, 0, []), (14, .nop, 1, 0, [])], [(14, .iconst (-1), 0, 0, []), (15, .ireturn, 0, 0, [])], [(16, .aload_n 0, 0, 0, []), (17, .iconst 1, 0, 0, []), (18, .invokevirtual 335, 226, 10, [2, 0, 0]), (21, .aload_n 0, 0, 0, []), (22, .getfield 326, 10, 41, [0]), (25, .iconst (-1), 0, 0, []), (26, .if_icmp .ne 8, 3, 0, []), (29, .bipush (-2), 0, 0, []), (31, .goto 30, 6, 0, [])], [(34, .iload_n 1, 0, 0, []), (35, .ifCond .ne 10, 4, 0, []), (38, .aload_n 0, 0, 0, []), (39, .getfield 326, 10, 41, [0]), (42, .goto 19, 6, 0, [])], [(45, .iload_n 1, 0, 0, []), (46, .iconst 1, 0, 0, []), (47, .if_icmp .ne 10, 5, 0, []), (50, .aload_n 0, 0, 0, []), (51, .getfield 332, 10, 42, [0]), (54, .goto 7, 6, 0, [])], [(57, .aload_n 0, 0, 0, []), (58, .getfield 329, 10, 43, [0]), (61, .nop, 6, 0, [])], [(61, .ireturn, 0, 0, [])]]
def zB_229 : mzB := [[(0, .aload_n 0, 0, 0, []), (1, .invokevirtual 280, 199, 10, [1, 0, 0]), (4, .aload_n 0, 0, 0, []), (5, .getfield 72, 10, 35, [0]), (8, .iload_n 1, 0, 0, []), (9, .iaload, 0, 0, []), (10, .ifCond .eq 7, 1, 0, []), (13, .iconst 1, 0, 0, []), (14, .goto 4, 2, 0, [])], [(17, .iconst 0, 0, 0, []), (18, .nop, 2, 0, [])], [(18, .ireturn, 1, 0, [])]]
def zB_230 : mzB := [[(0, .aload_n 0, 0, 0, []), (1, .iconst 0, 0, 0, []), (2, .putfield 96, 10, 0, [0]), (5, .iload_n 1, 0, 0, []), (6, .ifCond .lt 11, 1, 0, []), (9, .iload_n 1, 0, 0, []), (10, .aload_n 0, 0, 0, []), (11, .invokevirtual 214, 180, 10, [1, 0, 0]), (14, .if_icmp .lt 5, 2, 0, []), (17, .nop, 1, 0, [])], [(17, .iconst (-1), 0, 0, []), (18, .ireturn, 0, 0, [])], [(19, .aload_n 0, 0, 0, []), (20, .iload_n 1, 0, 0, []), (21, .invokevirtual 338, 229, 10, [2, 0, 0]), (24, .ifCond .ne 6, 3, 0, []), (27, .bipush (-3), 0, 0, []), (29, .ireturn, 0, 0, [])], [(30, .iconst 0, 0, 0, []), (31, .istore_n 2, 0, 0, []), (32, .nop, 4, 0, [])], [(32, .iload_n 2, 0, 0, []), (33, .aload_n 0, 0, 0, []), (34, .invokevirtual 214, 180, 10, [1, 0, 0]), (37, .if_icmp .ge 34, 7, 0, []), (40, .iload_n 2, 0, 0, []), (41, .iload_n 1, 0, 0, []), (42, .if_icmp .ne 6, 5, 0, []), (45, .goto 20, 6, 0, [])], [(48, .aload_n 0, 0, 0, []), (49, .iload_n 2, 0, 0, []), (50, .iconst (-1), 0, 0, []), (51, .invokevirtual 319, 222, 10, [3, 0, 0]), (54, .aload_n 0, 0, 0, []), (55, .getfield 72, 10, 35, [0]), (58, .iload_n 1, 0, 0, []), (59, .iaload, 0, 0, []), (60, .ifCond .ne 5, 6, 0, []), (63, .iload_n 2, 0, 0, []), (64, .ireturn, 0, 0, [])], [(65, .iinc 2 1, 0, 0, []), (68, .goto (-36), 4, 0, [])], [(71, .bipush (-2), 0, 0, []), (73, .ireturn, 0, 0, [])]]
def zB_231 : mzB := [[(0, .aload_n 0, 0, 0, []), (1, .iconst 0, 0, 0, []), (2, .putfield 96, 10, 0, [0]), (5, .iload_n 1, 0, 0, []), (6, .ifCond .lt 15, 1, 0, []), (9, .iload_n 1, 0, 0, []), (10, .aload_n 0, 0, 0, []), (11, .invokevirtual 214, 180, 10, [1, 0, 0]), (14, .if_icmp .ge 7, 1, 0, []), (17, .iload_n 2, 0, 0, []), (18, .ifCond .ge 5, 2, 0, []), (21, .nop, 1, 0, [])], [(21, .iconst (-1), 0, 0, []), (22, .ireturn, 0, 0, [])], [(23, .aload_n 0, 0, 0, []), (24, .iload_n 1, 0, 0, []), (25, .invokevirtual 338, 229, 10, [2, 0, 0]), (28, .ifCond .eq 6, 3, 0, []), (31, .bipush (-3), 0, 0, []), (33, .ireturn, 0, 0, [])], [(34, .iload_n 2, 0, 0, []), (35, .istore_n 3, 0, 0, []), (36, .iconst 0, 0, 0, []), (37, .istore 4, 0, 0, []), (39, .nop, 4, 0, [])], [(39, .iload 4, 0, 0, []), (41, .aload_n 0, 0, 0, []), (42, .invokevirtual 214, 180, 10, [1, 0, 0]), (45, .if_icmp .ge 47, 9, 0, []), (48, .iload 4, 0, 0, []), (50, .iload_n 1, 0, 0, []), (51, .if_icmp .ne 6, 5, 0, []), (54, .goto 32, 8, 0, [])], [(57, .aload_n 0, 0, 0, []), (58, .iload 4, 0, 0, []), (60, .iconst (-1), 0, 0, []), (61, .invokevirtual 319, 222, 10, [3, 0, 0]), (64, .aload_n 0, 0, 0, []), (65, .getfield 72, 10, 35, [0]), (68, .iload_n 1, 0, 0, []), (69, .iaload, 0, 0, []), (70, .ifCond .ne 6, 6, 0, []), (73, .goto 13, 8, 0, [])], [(76, .iload_n 3, 0, 0, []), (77, .ifCond .ne 6, 7, 0, []), (80, .iload 4, 0, 0, []), (82, .ireturn, 0, 0, [])], [(83, .iinc 3 (-1), 0, 0, []), (86, .nop, 8, 0, [])], [(86, .iinc 4 1, 0, 0, []), (89, .goto (-50), 4, 0, [])], [(92, .bipush (-2), 0, 0, []), (94, .ireturn, 0, 0, [])]]
def zB_232 : mzB := [[(0, .aload_n 0, 0, 0, []), (1, .invokevirtual 274, 182, 10, [1, 0, 0]), (4, .aload_n 0, 0, 0, []), (5, .getfield 66, 10, 32, [0]), (8, .iload_n 1, 0, 0, []), (9, .iload_n 2, 0, 0, []), (10, .iastore, 0, 0, []), (11, .aload_n 0, 0, 0, []), (12, .sipush 999, 0, 0, []), (15, .invokevirtual 277, 198, 10, [2, 0, 0]), (18, .return_, 0, 0, [])]]
def zB_233 : mzB := [[(0, .aload_n 0, 0, 0, []), (1, .iconst 0, 0, 0, []), (2, .putfield 96, 10, 0, [0]), (5, .iload_n 1, 0, 0, []), (6, .ifCond .lt 30, 1, 0, []), (9, .iload_n 1, 0, 0, []), (10, .aload_n 0, 0, 0, []), (11, .invokevirtual 214, 180, 10, [1, 0, 0]), (14, .if_icmp .ge 22, 1, 0, []), (17, .iload_n 2, 0, 0, []), (18, .invokestatic 292, 206, 10, [1, 0, 0]), (21, .ifCond .eq 15, 1, 0, []), (24, .iload_n 3, 0, 0, []), (25, .iconst (-1), 0, 0, []), (26, .if_icmp .eq 14, 2, 0, []), (29, .iload_n 3, 0, 0, []), (30, .invokestatic 289, 205, 10, [1, 0, 0]), (33, .ifCond .ne 7, 2, 0, []), (36, .nop, 1, 0, [])], [(36, .sipush (-1000), 0, 0, []), (39, .ireturn, 0, 0, [])], [(40, .aload_n 0, 0, 0, []), (41, .iload_n 1, 0, 0, []), (42, .iload_n 2, 0, 0, []), (43, .invokevirtual 341, 232, 10, [3, 0, 0]), (46, .iload_n 3, 0, 0, []), (47, .iconst (-1), 0, 0, []), (48, .if_icmp .ne 10, 3, 0, []), (51, .aload_n 0, 0, 0, []), (52, .invokevirtual 323, 224, 10, [1, 0, 0]), (55, .goto 8, 4, 0, [])], [(58, .aload_n 0, 0, 0, []), (59, .iload_n 3, 0, 0, []), (60, .invokevirtual 298, 201, 10, [2, 0, 0]), (63, .nop, 4, 0, [])], [(63, .ireturn, 0, 0, [])]]
def zB_234 : mzB := [[(0, .aload_n 0, 0, 0, []), (1, .iconst 0, 0, 0, []), (2, .putfield 96, 10, 0, [0]), (5, .iload_n 1, 0, 0, []), (6, .ifCond .lt 20, 1, 0, []), (9, .iload_n 1, 0, 0, []), (10, .aload_n 0, 0, 0, []), (11, .invokevirtual 214, 180, 10, [1, 0, 0]), (14, .if_icmp .ge 12, 1, 0, []), (17, .iload_n 2, 0, 0, []), (18, .ifCond .lt 8, 1, 0, []), (21, .iload_n 2, 0, 0, []), (22, .iconst 2, 0, 0, []), (23, .if_icmp .le 5, 2, 0, []), (26, .nop, 1, 0, [])], [(26, .iconst (-1), 0, 0, []), (27, .ireturn, 0, 0, [])], [(28, .bipush (-2), 0, 0, []), (30, .istore_n 3, 0, 0, []), (31, .bipush (-2), 0, 0, []), (33, .istore 4, 0, 0, []), (35, .iconst 0, 0, 0, []), (36, .istore 5, 0, 0, []), (38, .iconst 0, 0, 0, []), (39, .istore 6, 0, 0, []), (41, .nop, 3, 0, [])], [(41, .iload 6, 0, 0, []), (43, .sipush 999, 0, 0, []), (46, .if_icmp .gt 47, 8, 0, []), (49, .aload_n 0, 0, 0, []), (50, .iload_n 1, 0, 0, []), (51, .iload 6, 0, 0, []), (53, .invokevirtual 341, 232, 10, [3, 0, 0]), (56, .aload_n 0, 0, 0, []), (57, .getfield 72, 10, 35, [0]), (60, .iload_n 1, 0, 0, []), (61, .iaload, 0, 0, []), (62, .ifCond .eq 6, 4, 0, []), (65, .goto 22, 7, 0, [])], [(68, .iload 5, 0, 0, []), (70, .ifCond .ne 8, 5, 0, []), (73, .iload 6, 0, 0, []), (75, .goto 4, 6, 0, [])], [(78, .iload_n 3, 0, 0, []), (79, .nop, 6, 0, [])], [(79, .istore_n 3, 0, 0, []), (80, .iload 6, 0, 0, []), (82, .istore 4, 0, 0, []), (84, .iinc 5 1, 0, 0, []), (87, .nop, 7, 0, [])], [(87, .iinc 6 1, 0, 0, []), (90, .goto (-49), 3, 0, [])], [(93, .iload_n 2, 0, 0, []), (94, .ifCond .ne 7, 9, 0, []), (97, .iload_n 3, 0, 0, []), (98, .goto 15, 11, 0, [])], [(101, .iload_n 2, 0, 0, []), (102, .iconst 1, 0, 0, []), (103, .if_icmp .ne 8, 10, 0, []), (106, .iload 4, 0, 0, []), (108, .goto 5, 11, 0, [])], [(111, .iload 5, 0, 0, []), (113, .nop, 11, 0, [])], [(113, .ireturn, 0, 0, [])]]
def zB_235 : mzB := [[(0, .iconst 0, 0, 0, []), (1, .istore_n 1, 0, 0, []), (2, .nop, 1, 0, [])], [(2, .iload_n 1, 0, 0, []), (3, .bipush 40, 0, 0, []), (5, .if_icmp .ge 16, 2, 0, []), (8, .aload_n 0, 0, 0, []), (9, .getfield 75, 10, 36, [0]), (12, .iload_n 1, 0, 0, []), (13, .iconst 0, 0, 0, []), (14, .bastore, 0, 0, []), (15, .iinc 1 1, 0, 0, []), (18, .goto (-16), 1, 0, [])], [(21, .iconst 0, 0, 0, []), (22, .istore_n 1, 0, 0, []), (23, .nop, 3, 0, [])], [(23, .iload_n 1, 0, 0, []), (24, .bipush 40, 0, 0, []), (26, .if_icmp .ge 47, 5, 0, []), (29, .aload_n 0, 0, 0, []), (30, .getfield 87, 10, 44, [0]), (33, .iload_n 1, 0, 0, []), (34, .baload, 0, 0, []), (35, .ifCond .eq 32, 4, 0, []), (38, .aload_n 0, 0, 0, []), (39, .getfield 32, 10, 21, [0]), (42, .iload_n 1, 0, 0, []), (43, .baload, 0, 0, []), (44, .ifCond .eq 23, 4, 0, []), (47, .aload_n 0, 0, 0, []), (48, .getfield 60, 10, 30, [0]), (51, .iload_n 1, 0, 0, []), (52, .baload, 0, 0, []), (53, .ifCond .ne 14, 4, 0, []), (56, .aload_n 0, 0, 0, []), (57, .getfield 75, 10, 36, [0]), (60, .aload_n 0, 0, 0, []), (61, .iload_n 1, 0, 0, []), (62, .invokevirtual 230, 185, 10, [2, 0, 0]), (65, .iconst 1, 0, 0, []), (66, .bastore, 0, 0, []), (67, .nop, 4, 0, [])], [(67, .iinc 1 1, 0, 0, []), (70, .goto (-47), 3, 0, [])], [(73, .iconst 0, 0, 0, []), (74, .istore_n 1, 0, 0, []), (75, .nop, 6, 0, [])], [(75, .iload_n 1, 0, 0, []), (76, .bipush 40, 0, 0, []), (78, .if_icmp .ge 47, 8, 0, []), (81, .aload_n 0, 0, 0, []), (82, .getfield 32, 10, 21, [0]), (85, .iload_n 1, 0, 0, []), (86, .baload, 0, 0, []), (87, .ifCond .eq 32, 7, 0, []), (90, .aload_n 0, 0, 0, []), (91, .getfield 60, 10, 30, [0]), (94, .iload_n 1, 0, 0, []), (95, .baload, 0, 0, []), (96, .ifCond .ne 23, 7, 0, []), (99, .aload_n 0, 0, 0, []), (100, .getfield 75, 10, 36, [0]), (103, .aload_n 0, 0, 0, []), (104, .iload_n 1, 0, 0, []), (105, .invokevirtual 230, 185, 10, [2, 0, 0]), (108, .baload, 0, 0, []), (109, .ifCond .eq 10, 7, 0, []), (112, .aload_n 0, 0, 0, []), (113, .getfield 87, 10, 44, [0]), (116, .iload_n 1, 0, 0, []), (117, .iconst 1, 0, 0, []), (118, .bastore, 0, 0, []), (119, .nop, 7, 0, [])], [(119, .iinc 1 1, 0, 0, []), (122, .goto (-47), 6, 0, [])], [(125, .return_, 0, 0, [])]]
def zB_236 : mzB := [[(0, .iload_n 1, 0, 0, []), (1, .istore_n 2, 0, 0, []), (2, .iconst 0, 0, 0, []), (3, .istore_n 3, 0, 0, []), (4, .nop, 1, 0, [])], [(4, .iload_n 3, 0, 0, []), (5, .bipush 40, 0, 0, []), (7, .if_icmp .ge 27, 5, 0, []), (10, .aload_n 0, 0, 0, []), (11, .iload_n 3, 0, 0, []), (12, .baload, 0, 0, []), (13, .ifCond .ne 6, 2, 0, []), (16, .goto 12, 4, 0, [])], [(19, .iload_n 2, 0, 0, []), (20, .ifCond .ne 5, 3, 0, []), (23, .iload_n 3, 0, 0, []), (24, .ireturn, 0, 0, [])], [(25, .iinc 2 (-1), 0, 0, []), (28, .nop, 4, 0, [])], [(28, .iinc 3 1, 0, 0, []), (31, .goto (-27), 1, 0, [])], [(34, .bipush (-2), 0, 0, []), (36, .ireturn, 0, 0, [])]]
def zB_237 : mzB := [[(0, .aload_n 0, 0, 0, []), (1, .iconst 0, 0, 0, []), (2, .putfield 96, 10, 0, [0]), (5, .iload_n 1, 0, 0, []), (6, .invokestatic 289, 205, 10, [1, 0, 0]), (9, .ifCond .eq 14, 1, 0, []), (12, .iload_n 2, 0, 0, []), (13, .invokestatic 292, 206, 10, [1, 0, 0]), (16, .ifCond .eq 7, 1, 0, []), (19, .iload_n 3, 0, 0, []), (20, .ifCond .ge 5, 2, 0, []), (23, .nop, 1, 0, [])], [(23, .iconst (-1), 0, 0, []), (24, .ireturn, 0, 0, [])], [(25, .aload_n 0, 0, 0, []), (26, .iload_n 2, 0, 0, []), (27, .invokevirtual 295, 200, 10, [2, 0, 0]), (30, .aload_n 0, 0, 0, []), (31, .getfield 32, 10, 21, [0]), (34, .iload_n 1, 0, 0, []), (35, .baload, 0, 0, []), (36, .ifCond .eq 12, 3, 0, []), (39, .aload_n 0, 0, 0, []), (40, .getfield 60, 10, 30, [0]), (43, .iload_n 1, 0, 0, []), (44, .baload, 0, 0, []), (45, .ifCond .eq 6, 4, 0, []), (48, .nop, 3, 0, [])], [(48, .bipush (-2), 0, 0, []), (50, .ireturn, 0, 0, [])], [(51, .iconst 0, 0, 0, []), (52, .istore 4, 0, 0, []), (54, .nop, 5, 0, [])], [(54, .iload 4, 0, 0, []), (56, .bipush 40, 0, 0, []), (58, .if_icmp .ge 27, 8, 0, []), (61, .aload_n 0, 0, 0, []), (62, .getfield 87, 10, 44, [0]), (65, .iload 4, 0, 0, []), (67, .iload 4, 0, 0, []), (69, .iload_n 1, 0, 0, []), (70, .if_icmp .ne 7, 6, 0, []), (73, .iconst 1, 0, 0, []), (74, .goto 4, 7, 0, [])], [(77, .iconst 0, 0, 0, []), (78, .nop, 7, 0, [])], [(78, .bastore, 0, 0, []), (79, .iinc 4 1, 0, 0, []), (82, .goto (-28), 5, 0, [])], [(85, .aload_n 0, 0, 0, []), (86, .invokevirtual 344, 235, 10, [1, 0, 0]), (89, .iconst 0, 0, 0, []), (90, .istore 4, 0, 0, []), (92, .nop, 9, 0, [])], [(92, .iload 4, 0, 0, []), (94, .aload_n 0, 0, 0, []), (95, .getfield 220, 10, 34, [0]), (98, .if_icmp .ge 43, 12, 0, []), (101, .aload_n 0, 0, 0, []), (102, .getfield 66, 10, 32, [0]), (105, .aload_n 0, 0, 0, []), (106, .getfield 69, 10, 33, [0]), (109, .iload 4, 0, 0, []), (111, .iaload, 0, 0, []), (112, .iaload, 0, 0, []), (113, .iload_n 2, 0, 0, []), (114, .if_icmp .gt 6, 10, 0, []), (117, .goto 18, 11, 0, [])], [(120, .aload_n 0, 0, 0, []), (121, .aload_n 0, 0, 0, []), (122, .getfield 69, 10, 33, [0]), (125, .iload 4, 0, 0, []), (127, .iaload, 0, 0, []), (128, .invokevirtual 271, 192, 10, [2, 0, 0]), (131, .aload_n 0, 0, 0, []), (132, .invokevirtual 344, 235, 10, [1, 0, 0]), (135, .nop, 11, 0, [])], [(135, .iinc 4 1, 0, 0, []), (138, .goto (-46), 9, 0, [])], [(141, .aload_n 0, 0, 0, []), (142, .getfield 87, 10, 44, [0]), (145, .iload_n 3, 0, 0, []), (146, .invokestatic 347, 236, 10, [2, 0, 0]), (149, .ireturn, 0, 0, [])]]
def zB_238 : mzB := [[(0, .iconst 0, 0, 0, []), (1, .istore_n 2, 0, 0, []), (2, .nop, 1, 0, [])], [(2, .iload_n 2, 0, 0, []), (3, .bipush 40, 0, 0, []), (5, .if_icmp .ge 38, 5, 0, []), (8, .aload_n 0, 0, 0, []), (9, .getfield 87, 10, 44, [0]), (12, .iload_n 2, 0, 0, []), (13, .aload_n 0, 0, 0, []), (14, .getfield 87, 10, 44, [0]), (17, .iload_n 2, 0, 0, []), (18, .baload, 0, 0, []), (19, .ifCond .ne 12, 2, 0, []), (22, .aload_n 0, 0, 0, []), (23, .iload_n 2, 0, 0, []), (24, .iload_n 1, 0, 0, []), (25, .invokevirtual 226, 186, 10, [3, 0, 0]), (28, .ifCond .eq 7, 3, 0, []), (31, .nop, 2, 0, [])], [(31, .iconst 1, 0, 0, []), (32, .goto 4, 4, 0, [])], [(35, .iconst 0, 0, 0, []), (36, .nop, 4, 0, [])], [(36, .bastore, 0, 0, []), (37, .iinc 2 1, 0, 0, []), (40, .goto (-38), 1, 0, [])], [(43, .return_, 0, 0, [])]]
def zB_239 : mzB := [[(0, .aload_n 0, 0, 0, []), (1, .iconst 0, 0, 0, []), (2, .putfield 96, 10, 0, [0]), (5, .iload_n 1, 0, 0, []), (6, .invokestatic 289, 205, 10, [1, 0, 0]), (9, .ifCond .eq 27, 1, 0, []), (12, .iload_n 2, 0, 0, []), (13, .invokestatic 292, 206, 10, [1, 0, 0]), (16, .ifCond .eq 20, 1, 0, []), (19, .iload_n 3, 0, 0, []), (20, .invokestatic 292, 206, 10, [1, 0, 0]), (23, .ifCond .eq 13, 1, 0, []), (26, .iload_n 3, 0, 0, []), (27, .iload_n 2, 0, 0, []), (28, .if_icmp .lt 8, 1, 0, []), (31, .iload 4, 0, 0, []), (33, .ifCond .ge 5, 2, 0, []), (36, .nop, 1, 0, [])], [(36, .iconst (-1), 0, 0, []), (37, .ireturn, 0, 0, [])], [(38, .aload_n 0, 0, 0, []), (39, .iload_n 2, 0, 0, []), (40, .invokevirtual 295, 200, 10, [2, 0, 0]), (43, .iconst 0, 0, 0, []), (44, .istore 5, 0, 0, []), (46, .nop, 3, 0, [])], [(46, .iload 5, 0, 0, []), (48, .bipush 40, 0, 0, []), (50, .if_icmp .ge 17, 4, 0, []), (53, .aload_n 0, 0, 0, []), (54, .getfield 87, 10, 44, [0]), (57, .iload 5, 0, 0, []), (59, .iconst 0, 0, 0, []), (60, .bastore, 0, 0, []), (61, .iinc 5 1, 0, 0, []), (64, .goto (-18), 3, 0, [])], [(67, .aload_n 0, 0, 0, []), (68, .iload_n 1, 0, 0, []), (69, .invokevirtual 351, 238, 10, [2, 0, 0]), (72, .iconst 0, 0, 0, []), (73, .istore 5, 0, 0, []), (75, .nop, 5, 0, [])], [(75, .iload 5, 0, 0, []), (77, .aload_n 0, 0, 0, []), (78, .getfield 220, 10, 34, [0]), (81, .if_icmp .ge 54, 8, 0, []), (84, .aload_n 0, 0, 0, []), (85, .getfield 66, 10, 32, [0]), (88, .aload_n 0, 0, 0, []), (89, .getfield 69, 10, 33, [0]), (92, .iload 5, 0, 0, []), (94, .iaload, 0, 0, []), (95, .iaload, 0, 0, []), (96, .istore 6, 0, 0, []), (98, .iload 6, 0, 0, []), (100, .iload_n 2, 0, 0, []), (101, .if_icmp .le 28, 7, 0, []), (104, .iload 6, 0, 0, []), (106, .iload_n 3, 0, 0, []), (107, .if_icmp .le 6, 6, 0, []), (110, .goto 19, 7, 0, [])], [(113, .aload_n 0, 0, 0, []), (114, .aload_n 0, 0, 0, []), (115, .getfield 69, 10, 33, [0]), (118, .iload 5, 0, 0, []), (120, .iaload, 0, 0, []), (121, .invokevirtual 271, 192, 10, [2, 0, 0]), (124, .aload_n 0, 0, 0, []), (125, .iload_n 1, 0, 0, []), (126, .invokevirtual 351, 238, 10, [2, 0, 0]), (129, .nop, 7, 0, [])], [(129, .iinc 5 1, 0, 0, []), (132, .goto (-57), 5, 0, [])], [(135, .aload_n 0, 0, 0, []), (136, .getfield 87, 10, 44, [0]), (139, .iload 4, 0, 0, []), (141, .invokestatic 347, 236, 10, [2, 0, 0]), (144, .ireturn, 0, 0, [])]]
def zB_240 : mzB := [[(0, .aload_n 0, 0, 0, []), (1, .iconst 0, 0, 0, []), (2, .putfield 96, 10, 0, [0]), (5, .iload_n 1, 0, 0, []), (6, .invokestatic 289, 205, 10, [1, 0, 0]), (9, .ifCond .ne 5, 1, 0, []), (12, .iconst (-1), 0, 0, []), (13, .ireturn, 0, 0, [])], [(14, .aload_n 0, 0, 0, []), (15, .invokevirtual 274, 182, 10, [1, 0, 0]), (18, .aload_n 0, 0, 0, []), (19, .invokevirtual 268, 184, 10, [1, 0, 0]), (22, .iconst 0, 0, 0, []), (23, .istore_n 2, 0, 0, []), (24, .iconst 0, 0, 0, []), (25, .istore_n 3, 0, 0, []), (26, .nop, 2, 0, [])], [(26, .iload_n 3, 0, 0, []), (27, .aload_n 0, 0, 0, []), (28, .getfield 220, 10, 34, [0]), (31, .if_icmp .ge 38, 5, 0, []), (34, .aload_n 0, 0, 0, []), (35, .aload_n 0, 0, 0, []), (36, .getfield 69, 10, 33, [0]), (39, .iload_n 3, 0, 0, []), (40, .iaload, 0, 0, []), (41, .invokevirtual 271, 192, 10, [2, 0, 0]), (44, .aload_n 0, 0, 0, []), (45, .iload_n 1, 0, 0, []), (46, .invokevirtual 301, 207, 10, [2, 0, 0]), (49, .iload_n 2, 0, 0, []), (50, .if_icmp .le 11, 3, 0, []), (53, .aload_n 0, 0, 0, []), (54, .iload_n 1, 0, 0, []), (55, .invokevirtual 301, 207, 10, [2, 0, 0]), (58, .goto 4, 4, 0, [])], [(61, .iload_n 2, 0, 0, []), (62, .nop, 4, 0, [])], [(62, .istore_n 2, 0, 0, []), (63, .iinc 3 1, 0, 0, []), (66, .goto (-40), 2, 0, [])], [(69, .aload_n 0, 0, 0, []), (70, .getfield 32, 10, 21, [0]), (73, .iload_n 1, 0, 0, []), (74, .baload, 0, 0, []), (75, .ifCond .eq 7, 6, 0, []), (78, .iload_n 2, 0, 0, []), (79, .goto 5, 7, 0, [])], [(82, .bipush (-2), 0, 0, []), (84, .nop, 7, 0, [])], [(84, .ireturn, 0, 0, [])]]
def zB_241 : mzB := [[(0, .lconst 0, 0, 0, []), (1, .lstore_n 2, 0, 0, []), (2, .iconst 0, 0, 0, []), (3, .istore 4, 0, 0, []), (5, .nop, 1, 0, [])], [(5, .iload 4, 0, 0, []), (7, .bipush 40, 0, 0, []), (9, .if_icmp .ge 26, 3, 0, []), (12, .aload_n 0, 0, 0, []), (13, .iload 4, 0, 0, []), (15, .iload_n 1, 0, 0, []), (16, .invokevirtual 226, 186, 10, [3, 0, 0]), (19, .ifCond .eq 10, 2, 0, []), (22, .lload_n 2, 0, 0, []), (23, .lconst 1, 0, 0, []), (24, .iload 4, 0, 0, []), (26, .lshl, 0, 0, []), (27, .lor, 0, 0, []), (28, .lstore_n 2, 0, 0, []), (29, .nop, 2, 0, [])], [(29, .iinc 4 1, 0, 0, []), (32, .goto (-27), 1, 0, [])], [(35, .lload_n 2, 0, 0, []), (36, .lreturn, 0, 0, [])]]
def zB_242 : mzB := [[(0, .aload_n 0, 0, 0, []), (1, .iconst 0, 0, 0, []), (2, .putfield 96, 10, 0, [0]), (5, .iload_n 1, 0, 0, []), (6, .invokestatic 289, 205, 10, [1, 0, 0]), (9, .ifCond .eq 10, 1, 0, []), (12, .iload_n 2, 0, 0, []), (13, .invokestatic 292, 206, 10, [1, 0, 0]), (16, .ifCond .ne 5, 2, 0, []), (19, .nop, 1, 0, [])], [(19, .iconst (-1), 0, 0, []), (20, .ireturn, 0, 0, [])], [(21, .aload_n 0, 0, 0, []), (22, .invokevirtual 274, 182, 10, [1, 0, 0]), (25, .aload_n 0, 0, 0, []), (26, .invokevirtual 268, 184, 10, [1, 0, 0]), (29, .bipush (-2), 0, 0, []), (31, .istore_n 3, 0, 0, []), (32, .iconst 0, 0, 0, []), (33, .istore 4, 0, 0, []), (35, .nop, 3, 0, [])], [(35, .iload 4, 0, 0, []), (37, .aload_n 0, 0, 0, []), (38, .getfield 220, 10, 34, [0]), (41, .if_icmp .ge 89, 6, 0, []), (44, .aload_n 0, 0, 0, []), (45, .getfield 66, 10, 32, [0]), (48, .aload_n 0, 0, 0, []), (49, .getfield 69, 10, 33, [0]), (52, .iload 4, 0, 0, []), (54, .iaload, 0, 0, []), (55, .iaload, 0, 0, []), (56, .iload_n 2, 0, 0, []), (57, .if_icmp .gt 73, 6, 0, []), (60, .aload_n 0, 0, 0, []), (61, .getfield 32, 10, 21, [0]), (64, .iload_n 1, 0, 0, []), (65, .baload, 0, 0, []), (66, .istore 5, 0, 0, []), (68, .aload_n 0, 0, 0, []), (69, .iload_n 1, 0, 0, []), (70, .invokevirtual 354, 241, 10, [2, 0, 0]), (73, .lstore 6, 0, 0, []), (75, .aload_n 0, 0, 0, []), (76, .aload_n 0, 0, 0, []), (77, .getfield 69, 10, 33, [0]), (80, .iload 4, 0, 0, []), (82, .iaload, 0, 0, []), (83, .invokevirtual 271, 192, 10, [2, 0, 0]), (86, .aload_n 0, 0, 0, []), (87, .getfield 32, 10, 21, [0]), (90, .iload_n 1, 0, 0, []), (91, .baload, 0, 0, []), (92, .ifCond .eq 32, 5, 0, []), (95, .iload 5, 0, 0, []), (97, .ifCond .eq 14, 4, 0, []), (100, .aload_n 0, 0, 0, []), (101, .iload_n 1, 0, 0, []), (102, .invokevirtual 354, 241, 10, [2, 0, 0]), (105, .lload 6, 0, 0, []), (107, .lcmp, 0, 0, []), (108, .ifCond .eq 16, 5, 0, []), (111, .nop, 4, 0, [])], [(111, .aload_n 0, 0, 0, []), (112, .getfield 66, 10, 32, [0]), (115, .aload_n 0, 0, 0, []), (116, .getfield 69, 10, 33, [0]), (119, .iload 4, 0, 0, []), (121, .iaload, 0, 0, []), (122, .iaload, 0, 0, []), (123, .istore_n 3, 0, 0, []), (124, .nop, 5, 0, [])], [(124, .iinc 4 1, 0, 0, []), (127, .goto (-92), 3, 0, [])], [(130, .aload_n 0, 0, 0, []), (131, .getfield 32, 10, 21, [0]), (134, .iload_n 1, 0, 0, []), (135, .baload, 0, 0, []), (136, .ifCond .ne 8, 7, 0, []), (139, .bipush (-2), 0, 0, []), (141, .goto 18, 9, 0, [])], [(144, .aload_n 0, 0, 0, []), (145, .getfield 60, 10, 30, [0]), (148, .iload_n 1, 0, 0, []), (149, .baload, 0, 0, []), (150, .ifCond .eq 8, 8, 0, []), (153, .bipush (-4), 0, 0, []), (155, .goto 4, 9, 0, [])], [(158, .iload_n 3, 0, 0, []), (159, .nop, 9, 0, [])], [(159, .ireturn, 0, 0, [])]]
def zB_243 : mzB := [[(0, .aload_n 0, 0, 0, []), (1, .iconst 0, 0, 0, []), (2, .putfield 96, 10, 0, [0]), (5, .aload_n 0, 0, 0, []), (6, .iload_n 1, 0, 0, []), (7, .invokevirtual 211, 210, 10, [2, 0, 0]), (10, .ifCond .eq 10, 1, 0, []), (13, .iload_n 2, 0, 0, []), (14, .invokestatic 292, 206, 10, [1, 0, 0]), (17, .ifCond .ne 5, 2, 0, []), (20, .nop, 1, 0, [])], [(20, .iconst (-1), 0, 0, []), (21, .ireturn, 0, 0, [])], [(22, .aload_n 0, 0, 0, []), (23, .iload_n 2, 0, 0, []), (24, .invokevirtual 295, 200, 10, [2, 0, 0]), (27, .iconst 0, 0, 0, []), (28, .istore_n 3, 0, 0, []), (29, .iconst 0, 0, 0, []), (30, .istore 4, 0, 0, []), (32, .nop, 3, 0, [])], [(32, .iload 4, 0, 0, []), (34, .bipush 40, 0, 0, []), (36, .if_icmp .ge 66, 9, 0, []), (39, .aload_n 0, 0, 0, []), (40, .getfield 39, 10, 23, [0]), (43, .iload 4, 0, 0, []), (45, .iaload, 0, 0, []), (46, .bipush (-5), 0, 0, []), (48, .if_icmp .eq 18, 4, 0, []), (51, .aload_n 0, 0, 0, []), (52, .getfield 51, 10, 27, [0]), (55, .aload_n 0, 0, 0, []), (56, .getfield 39, 10, 23, [0]), (59, .iload 4, 0, 0, []), (61, .iaload, 0, 0, []), (62, .baload, 0, 0, []), (63, .ifCond .eq 7, 5, 0, []), (66, .nop, 4, 0, [])], [(66, .iconst 1, 0, 0, []), (67, .goto 4, 6, 0, [])], [(70, .iconst 0, 0, 0, []), (71, .nop, 6, 0, [])], [(71, .istore 5, 0, 0, []), (73, .iload_n 3, 0, 0, []), (74, .aload_n 0, 0, 0, []), (75, .iload 4, 0, 0, []), (77, .invokevirtual 298, 201, 10, [2, 0, 0]), (80, .iload_n 1, 0, 0, []), (81, .if_icmp .ne 12, 7, 0, []), (84, .iload 5, 0, 0, []), (86, .ifCond .eq 7, 7, 0, []), (89, .iconst 1, 0, 0, []), (90, .goto 4, 8, 0, [])], [(93, .iconst 0, 0, 0, []), (94, .nop, 8, 0, [])], [(94, .iadd, 0, 0, []), (95, .istore_n 3, 0, 0, []), (96, .iinc 4 1, 0, 0, []), (99, .goto (-67), 3, 0, [])], [(102, .iload_n 3, 0, 0, []), (103, .ireturn, 0, 0, [])]]
def zB_244 : mzB := [[(0, .aload_n 0, 0, 0, []), (1, .iconst 0, 0, 0, []), (2, .putfield 96, 10, 0, [0]), (5, .iload_n 1, 0, 0, []), (6, .invokestatic 289, 205, 10, [1, 0, 0]), (9, .ifCond .eq 16, 1, 0, []), (12, .iload_n 2, 0, 0, []), (13, .ifCond .lt 12, 1, 0, []), (16, .iload_n 3, 0, 0, []), (17, .ifCond .lt 8, 1, 0, []), (20, .iload_n 3, 0, 0, []), (21, .iconst 2, 0, 0, []), (22, .if_icmp .le 5, 2, 0, []), (25, .nop, 1, 0, [])], [(25, .iconst (-1), 0, 0, []), (26, .ireturn, 0, 0, [])], [(27, .aload_n 0, 0, 0, []), (28, .invokevirtual 280, 199, 10, [1, 0, 0]), (31, .iload_n 2, 0, 0, []), (32, .istore 4, 0, 0, []), (34, .iconst 0, 0, 0, []), (35, .istore 5, 0, 0, []), (37, .nop, 3, 0, [])], [(37, .iload 5, 0, 0, []), (39, .aload_n 0, 0, 0, []), (40, .getfield 220, 10, 34, [0]), (43, .if_icmp .ge 108, 10, 0, []), (46, .aload_n 0, 0, 0, []), (47, .getfield 69, 10, 33, [0]), (50, .iload 5, 0, 0, []), (52, .iaload, 0, 0, []), (53, .istore 6, 0, 0, []), (55, .aload_n 0, 0, 0, []), (56, .iload 6, 0, 0, []), (58, .iconst 1, 0, 0, []), (59, .invokevirtual 217, 181, 10, [3, 0, 0]), (62, .bipush 6, 0, 0, []), (64, .if_icmp .ne 81, 9, 0, []), (67, .aload_n 0, 0, 0, []), (68, .iload 6, 0, 0, []), (70, .iconst 2, 0, 0, []), (71, .invokevirtual 217, 181, 10, [3, 0, 0]), (74, .iload_n 1, 0, 0, []), (75, .if_icmp .ne 70, 9, 0, []), (78, .aload_n 0, 0, 0, []), (79, .getfield 72, 10, 35, [0]), (82, .iload 6, 0, 0, []), (84, .iaload, 0, 0, []), (85, .bipush 6, 0, 0, []), (87, .if_icmp .eq 18, 4, 0, []), (90, .aload_n 0, 0, 0, []), (91, .getfield 72, 10, 35, [0]), (94, .iload 6, 0, 0, []), (96, .iaload, 0, 0, []), (97, .bipush 10, 0, 0, []), (99, .if_icmp .eq 6, 4, 0, []), (102, .goto 43, 9, 0, [])], [(105, .iload 4, 0, 0, []), (107, .ifCond .ne 35, 8, 0, []), (110, .iload_n 3, 0, 0, []), (111, .ifCond .ne 13, 5, 0, []), (114, .aload_n 0, 0, 0, []), (115, .iload 6, 0, 0, []), (117, .iconst 3, 0, 0, []), (118, .invokevirtual 217, 181, 10, [3, 0, 0]), (121, .goto 20, 7, 0, [])], [(124, .iload_n 3, 0, 0, []), (125, .iconst 1, 0, 0, []), (126, .if_icmp .ne 13, 6, 0, []), (129, .aload_n 0, 0, 0, []), (130, .iload 6, 0, 0, []), (132, .iconst 0, 0, 0, []), (133, .invokevirtual 217, 181, 10, [3, 0, 0]), (136, .goto 5, 7, 0, [])], [(139, .iload 6, 0, 0, []), (141, .nop, 7, 0, [])], [(141, .ireturn, 0, 0, [])], [(142, .iinc 4 (-1), 0, 0, []), (145, .nop, 9, 0, [])], [(145, .iinc 5 1, 0, 0, []), (148, .goto (-111), 3, 0, [])], [(151, .bipush (-2), 0, 0, []), (153, .ireturn, 0, 0, [])]]
def zB_245 : mzB := [[(0, .aload_n 0, 0, 0, []), (1, .iconst 0, 0, 0, []), (2, .putfield 96, 10, 0, [0]), (5, .iload_n 1, 0, 0, []), (6, .invokestatic 289, 205, 10, [1, 0, 0]), (9, .ifCond .eq 18, 1, 0, []), (12, .iload_n 2, 0, 0, []), (13, .invokestatic 292, 206, 10, [1, 0, 0]), (16, .ifCond .eq 11, 1, 0, []), (19, .aload_n 0, 0, 0, []), (20, .iload_n 3, 0, 0, []), (21, .invokevirtual 211, 210, 10, [2, 0, 0]), (24, .ifCond .ne 5, 2, 0, []), (27, .nop, 1, 0, [])], [(27, .iconst (-1), 0, 0, []), (28, .ireturn, 0, 0, [])], [(29, .aload_n 0, 0, 0, []), (30, .iload_n 2, 0, 0, []), (31, .invokevirtual 295, 200, 10, [2, 0, 0]), (34, .aload_n 0, 0, 0, []), (35, .iload_n 1, 0, 0, []), (36, .invokevirtual 298, 201, 10, [2, 0, 0]), (39, .istore 4, 0, 0, []), (41, .iload 4, 0, 0, []), (43, .ifCond .lt 9, 3, 0, []), (46, .iload 4, 0, 0, []), (48, .iload_n 3, 0, 0, []), (49, .if_icmp .ne 15, 6, 0, []), (52, .nop, 3, 0, [])], [(52, .iload 4, 0, 0, []), (54, .ifCond .ge 8, 4, 0, []), (57, .iload 4, 0, 0, []), (59, .goto 4, 5, 0, [])], [(62, .iload_n 2, 0, 0, []), (63, .nop, 5, 0, [])], [(63, .ireturn, 0, 0, [])], [(64, .aload_n 0, 0, 0, []), (65, .getfield 29, 10, 20, [0]), (68, .bipush 8, 0, 0, []), (70, .iload 4, 0, 0, []), (72, .imul, 0, 0, []), (73, .iload_n 3, 0, 0, []), (74, .iadd, 0, 0, []), (75, .iaload, 0, 0, []), (76, .istore 5, 0, 0, []), (78, .iload 5, 0, 0, []), (80, .ldc 193, 100000, 0, [0]), (82, .if_icmp .lt 6, 7, 0, []), (85, .bipush (-2), 0, 0, []), (87, .ireturn, 0, 0, [])], [(88, .aload_n 0, 0, 0, []), (89, .getfield 45, 10, 25, [0]), (92, .aload_n 0, 0, 0, []), (93, .iload_n 1, 0, 0, []), (94, .invokevirtual 230, 185, 10, [2, 0, 0]), (97, .iaload, 0, 0, []), (98, .iload 5, 0, 0, []), (100, .iadd, 0, 0, []), (101, .istore 6, 0, 0, []), (103, .iload 6, 0, 0, []), (105, .iload_n 2, 0, 0, []), (106, .if_icmp .le 8, 8, 0, []), (109, .iload 6, 0, 0, []), (111, .goto 4, 9, 0, [])], [(114, .iload_n 2, 0, 0, []), (115, .nop, 9, 0, [])], [(115, .ireturn, 0, 0, [])]]
def zB_246 : mzB := [[(0, .aload_n 0, 0, 0, []), (1, .iconst 0, 0, 0, []), (2, .putfield 96, 10, 0, [0]), (5, .iload_n 1, 0, 0, []), (6, .invokestatic 292, 206, 10, [1, 0, 0]), (9, .ifCond .eq 14, 1, 0, []), (12, .iload_n 2, 0, 0, []), (13, .invokestatic 292, 206, 10, [1, 0, 0]), (16, .ifCond .eq 7, 1, 0, []), (19, .iload_n 3, 0, 0, []), (20, .ifCond .ge 5, 2, 0, []), (23, .nop, 1, 0, [])], [(23, .iconst (-1), 0, 0, []), (24, .ireturn, 0, 0, [])], [(25, .aload_n 0, 0, 0, []), (26, .iload_n 1, 0, 0, []), (27, .invokevirtual 295, 200, 10, [2, 0, 0]), (30, .iload_n 3, 0, 0, []), (31, .istore 4, 0, 0, []), (33, .iconst 0, 0, 0, []), (34, .istore 5, 0, 0, []), (36, .nop, 3, 0, [])], [(36, .iload 5, 0, 0, []), (38, .bipush 40, 0, 0, []), (40, .if_icmp .ge 49, 7, 0, []), (43, .aload_n 0, 0, 0, []), (44, .iload 5, 0, 0, []), (46, .invokevirtual 298, 201, 10, [2, 0, 0]), (49, .ifCond .lt 34, 6, 0, []), (52, .iload_n 1, 0, 0, []), (53, .aload_n 0, 0, 0, []), (54, .getfield 45, 10, 25, [0]), (57, .aload_n 0, 0, 0, []), (58, .iload 5, 0, 0, []), (60, .invokevirtual 230, 185, 10, [2, 0, 0]), (63, .iaload, 0, 0, []), (64, .isub, 0, 0, []), (65, .iload_n 2, 0, 0, []), (66, .if_icmp .ge 6, 4, 0, []), (69, .goto 14, 6, 0, [])], [(72, .iload 4, 0, 0, []), (74, .ifCond .ne 6, 5, 0, []), (77, .iload 5, 0, 0, []), (79, .ireturn, 0, 0, [])], [(80, .iinc 4 (-1), 0, 0, []), (83, .nop, 6, 0, [])], [(83, .iinc 5 1, 0, 0, []), (86, .goto (-50), 3, 0, [])], [(89, .bipush (-2), 0, 0, []), (91, .ireturn, 0, 0, [])]]
def zB_247 : mzB := [[(0, .aload_n 0, 0, 0, []), (1, .iconst 0, 0, 0, []), (2, .putfield 96, 10, 0, [0]), (5, .iload_n 1, 0, 0, []), (6, .ifCond .lt 44, 2, 0, []), (9, .iload_n 1, 0, 0, []), (10, .aload_n 0, 0, 0, []), (11, .invokevirtual 214, 180, 10, [1, 0, 0]), (14, .if_icmp .ge 36, 2, 0, []), (17, .iload_n 2, 0, 0, []), (18, .ifCond .lt 32, 2, 0, []), (21, .iload_n 2, 0, 0, []), (22, .aload_n 0, 0, 0, []), (23, .invokevirtual 214, 180, 10, [1, 0, 0]), (26, .if_icmp .ge 24, 2, 0, []), (29, .iload_n 2, 0, 0, []), (30, .iload_n 1, 0, 0, []), (31, .if_icmp .eq 19, 2, 0, []), (34, .iload_n 3, 0, 0, []), (35, .iconst (-1), 0, 0, []), (36, .if_icmp .eq 10, 1, 0, []), (39, .iload_n 3, 0, 0, []), (40, .invokestatic 289, 205, 10, [1, 0, 0]), (43, .ifCond .eq 7, 2, 0, []), (46, .nop, 1, 0, [])], [(46, .iconst 1, 0, 0, []), (47, .goto 4, 3, 0, [])], [(50, .iconst 0, 0, 0, []), (51, .nop, 3, 0, [])], [(51, .istore 4, 0, 0, []), (53, .iload 4, 0, 0, []), (55, .ifCond .ne 7, 4, 0, []), (58, .sipush (-1000), 0, 0, []), (61, .ireturn, 0, 0, [])], [(62, .aload_n 0, 0, 0, []), (63, .invokevirtual 274, 182, 10, [1, 0, 0]), (66, .aload_n 0, 0, 0, []), (67, .getfield 66, 10, 32, [0]), (70, .iload_n 1, 0, 0, []), (71, .aload_n 0, 0, 0, []), (72, .iload_n 2, 0, 0, []), (73, .iconst 0, 0, 0, []), (74, .invokevirtual 217, 181, 10, [3, 0, 0]), (77, .iastore, 0, 0, []), (78, .aload_n 0, 0, 0, []), (79, .getfield 66, 10, 32, [0]), (82, .iload_n 2, 0, 0, []), (83, .aload_n 0, 0, 0, []), (84, .iload_n 1, 0, 0, []), (85, .iconst 0, 0, 0, []), (86, .invokevirtual 217, 181, 10, [3, 0, 0]), (89, .iastore, 0, 0, []), (90, .aload_n 0, 0, 0, []), (91, .sipush 999, 0, 0, []), (94, .invokevirtual 277, 198, 10, [2, 0, 0]), (97, .iload_n 3, 0, 0, []), (98, .iconst (-1), 0, 0, []), (99, .if_icmp .ne 10, 5, 0, []), (102, .aload_n 0, 0, 0, []), (103, .invokevirtual 323, 224, 10, [1, 0, 0]), (106, .goto 8, 6, 0, [])], [(109, .aload_n 0, 0, 0, []), (110, .iload_n 3, 0, 0, []), (111, .invokevirtual 298, 201, 10, [2, 0, 0]), (114, .nop, 6, 0, [])], [(114, .ireturn, 0, 0, [])]]
def zB_248 : mzB := [[(0, .iconst 0, 0, 0, []), (1, .istore_n 2, 0, 0, []), (2, .iconst 0, 0, 0, []), (3, .istore_n 3, 0, 0, []), (4, .nop, 1, 0, [])], [(4, .iload_n 3, 0, 0, []), (5, .bipush 40, 0, 0, []), (7, .if_icmp .ge 26, 4, 0, []), (10, .iload_n 2, 0, 0, []), (11, .aload_n 0, 0, 0, []), (12, .iload_n 3, 0, 0, []), (13, .invokevirtual 298, 201, 10, [2, 0, 0]), (16, .iload_n 1, 0, 0, []), (17, .if_icmp .ne 7, 2, 0, []), (20, .iconst 1, 0, 0, []), (21, .goto 4, 3, 0, [])], [(24, .iconst 0, 0, 0, []), (25, .nop, 3, 0, [])], [(25, .iadd, 0, 0, []), (26, .istore_n 2, 0, 0, []), (27, .iinc 3 1, 0, 0, []), (30, .goto (-26), 1, 0, [])], [(33, .iload_n 2, 0, 0, []), (34, .ireturn, 0, 0, [])]]
def zB_249 : mzB := [[(0, .aload_n 0, 0, 0, []), (1, .iconst 0, 0, 0, []), (2, .putfield 96, 10, 0, [0]), (5, .aload_n 0, 0, 0, []), (6, .iload_n 1, 0, 0, []), (7, .invokevirtual 211, 210, 10, [2, 0, 0]), (10, .ifCond .ne 15, 1, 0, []), (13, .iload_n 1, 0, 0, []), (14, .bipush (-3), 0, 0, []), (16, .if_icmp .eq 9, 1, 0, []), (19, .iload_n 1, 0, 0, []), (20, .bipush (-4), 0, 0, []), (22, .if_icmp .ne 12, 2, 0, []), (25, .nop, 1, 0, [])], [(25, .iload_n 2, 0, 0, []), (26, .ifCond .lt 8, 2, 0, []), (29, .iload_n 2, 0, 0, []), (30, .iconst 1, 0, 0, []), (31, .if_icmp .le 5, 3, 0, []), (34, .nop, 2, 0, [])], [(34, .iconst (-1), 0, 0, []), (35, .ireturn, 0, 0, [])], [(36, .aload_n 0, 0, 0, []), (37, .invokevirtual 274, 182, 10, [1, 0, 0]), (40, .aload_n 0, 0, 0, []), (41, .invokevirtual 268, 184, 10, [1, 0, 0]), (44, .iconst (-1), 0, 0, []), (45, .istore_n 3, 0, 0, []), (46, .bipush (-2), 0, 0, []), (48, .istore 4, 0, 0, []), (50, .iconst 0, 0, 0, []), (51, .istore 5, 0, 0, []), (53, .nop, 4, 0, [])], [(53, .iload 5, 0, 0, []), (55, .aload_n 0, 0, 0, []), (56, .getfield 220, 10, 34, [0]), (59, .if_icmp .ge 53, 7, 0, []), (62, .aload_n 0, 0, 0, []), (63, .aload_n 0, 0, 0, []), (64, .getfield 69, 10, 33, [0]), (67, .iload 5, 0, 0, []), (69, .iaload, 0, 0, []), (70, .invokevirtual 271, 192, 10, [2, 0, 0]), (73, .aload_n 0, 0, 0, []), (74, .iload_n 1, 0, 0, []), (75, .invokevirtual 358, 248, 10, [2, 0, 0]), (78, .istore 6, 0, 0, []), (80, .iload 6, 0, 0, []), (82, .iload_n 3, 0, 0, []), (83, .if_icmp .gt 6, 5, 0, []), (86, .goto 20, 6, 0, [])], [(89, .iload 6, 0, 0, []), (91, .istore_n 3, 0, 0, []), (92, .aload_n 0, 0, 0, []), (93, .getfield 66, 10, 32, [0]), (96, .aload_n 0, 0, 0, []), (97, .getfield 69, 10, 33, [0]), (100, .iload 5, 0, 0, []), (102, .iaload, 0, 0, []), (103, .iaload, 0, 0, []), (104, .istore 4, 0, 0, []), (106, .nop, 6, 0, [])], [(106, .iinc 5 1, 0, 0, []), (109, .goto (-56), 4, 0, [])], [(112, .iload_n 2, 0, 0, []), (113, .iconst 1, 0, 0, []), (114, .if_icmp .ne 8, 8, 0, []), (117, .iload 4, 0, 0, []), (119, .goto 13, 10, 0, [])], [(122, .iload_n 3, 0, 0, []), (123, .iconst (-1), 0, 0, []), (124, .if_icmp .ne 7, 9, 0, []), (127, .iconst 0, 0, 0, []), (128, .goto 4, 10, 0, [])], [(131, .iload_n 3, 0, 0, []), (132, .nop, 10, 0, [])], [(132, .ireturn, 0, 0, [])]]
def zB_250 : mzB := [[(0, .aload_n 0, 0, 0, []), (1, .iconst 0, 0, 0, []), (2, .putfield 96, 10, 0, [0]), (5, .iload_n 1, 0, 0, []), (6, .invokestatic 289, 205, 10, [1, 0, 0]), (9, .ifCond .ne 5, 1, 0, []), (12, .iconst (-1), 0, 0, []), (13, .ireturn, 0, 0, [])], [(14, .aload_n 0, 0, 0, []), (15, .iload_n 1, 0, 0, []), (16, .invokevirtual 310, 214, 10, [2, 0, 0]), (19, .iconst 0, 0, 0, []), (20, .istore_n 2, 0, 0, []), (21, .iconst (-1), 0, 0, []), (22, .istore_n 3, 0, 0, []), (23, .iconst 0, 0, 0, []), (24, .istore 4, 0, 0, []), (26, .nop, 2, 0, [])], [(26, .iload 4, 0, 0, []), (28, .aload_n 0, 0, 0, []), (29, .getfield 307, 10, 39, [0]), (32, .if_icmp .ge 66, 6, 0, []), (35, .aload_n 0, 0, 0, []), (36, .getfield 78, 10, 37, [0]), (39, .iload 4, 0, 0, []), (41, .iaload, 0, 0, []), (42, .istore 5, 0, 0, []), (44, .iload 5, 0, 0, []), (46, .ifCond .ge 6, 3, 0, []), (49, .goto 43, 5, 0, [])], [(52, .iload_n 3, 0, 0, []), (53, .iconst (-1), 0, 0, []), (54, .if_icmp .eq 35, 4, 0, []), (57, .aload_n 0, 0, 0, []), (58, .getfield 29, 10, 20, [0]), (61, .bipush 8, 0, 0, []), (63, .iload_n 3, 0, 0, []), (64, .imul, 0, 0, []), (65, .iload 5, 0, 0, []), (67, .iadd, 0, 0, []), (68, .iaload, 0, 0, []), (69, .ldc 193, 100000, 0, [0]), (71, .if_icmp .ge 18, 4, 0, []), (74, .iload_n 2, 0, 0, []), (75, .aload_n 0, 0, 0, []), (76, .getfield 29, 10, 20, [0]), (79, .bipush 8, 0, 0, []), (81, .iload_n 3, 0, 0, []), (82, .imul, 0, 0, []), (83, .iload 5, 0, 0, []), (85, .iadd, 0, 0, []), (86, .iaload, 0, 0, []), (87, .iadd, 0, 0, []), (88, .istore_n 2, 0, 0, []), (89, .nop, 4, 0, [])], [(89, .iload 5, 0, 0, []), (91, .istore_n 3, 0, 0, []), (92, .nop, 5, 0, [])], [(92, .iinc 4 1, 0, 0, []), (95, .goto (-69), 2, 0, [])], [(98, .aload_n 0, 0, 0, []), (99, .getfield 307, 10, 39, [0]), (102, .ifCond .ne 8, 7, 0, []), (105, .bipush (-2), 0, 0, []), (107, .goto 4, 8, 0, [])], [(110, .iload_n 2, 0, 0, []), (111, .nop, 8, 0, [])], [(111, .ireturn, 0, 0, [])]]
def zB_251 : mzB := [[(0, .aload_n 0, 0, 0, []), (1, .iconst 0, 0, 0, []), (2, .putfield 96, 10, 0, [0]), (5, .iload_n 1, 0, 0, []), (6, .tableswitch 85 0 6 #[42, 49, 56, 61, 66, 73, 80], 8, 0, [1, 2, 3, 4, 5, 6, 7])], [(48, .aload_n 0, 0, 0, []), (49, .getfield 13, 10, 3, [0]), (52, .iconst 0, 0, 0, []), (53, .iaload, 0, 0, []), (54, .ireturn, 0, 0, [])], [(55, .aload_n 0, 0, 0, []), (56, .getfield 13, 10, 3, [0]), (59, .iconst 1, 0, 0, []), (60, .iaload, 0, 0, []), (61, .ireturn, 0, 0, [])], [(62, .aload_n 0, 0, 0, []), (63, .invokevirtual 214, 180, 10, [1, 0, 0]), (66, .ireturn, 0, 0, [])], [(67, .aload_n 0, 0, 0, []), (68, .invokevirtual 361, 252, 10, [1, 0, 0]), (71, .ireturn, 0, 0, [])], [(72, .aload_n 0, 0, 0, []), (73, .getfield 13, 10, 3, [0]), (76, .iconst 3, 0, 0, []), (77, .iaload, 0, 0, []), (78, .ireturn, 0, 0, [])], [(79, .aload_n 0, 0, 0, []), (80, .getfield 13, 10, 3, [0]), (83, .iconst 4, 0, 0, []), (84, .iaload, 0, 0, []), (85, .ireturn, 0, 0, [])], [(86, .aload_n 0, 0, 0, []), (87, .getfield 99, 10, 2, [0]), (90, .ireturn, 0, 0, [])], [(91, .iconst (-1), 0, 0, []), (92, .ireturn, 0, 0, [])]]
def zB_252 : mzB := [[(0, .iconst 0, 0, 0, []), (1, .istore_n 1, 0, 0, []), (2, .iconst 0, 0, 0, []), (3, .istore_n 2, 0, 0, []), (4, .nop, 1, 0, [])], [(4, .iload_n 2, 0, 0, []), (5, .aload_n 0, 0, 0, []), (6, .invokevirtual 214, 180, 10, [1, 0, 0]), (9, .if_icmp .ge 25, 4, 0, []), (12, .iload_n 1, 0, 0, []), (13, .aload_n 0, 0, 0, []), (14, .iload_n 2, 0, 0, []), (15, .invokevirtual 286, 204, 10, [2, 0, 0]), (18, .ifCond .eq 7, 2, 0, []), (21, .iconst 1, 0, 0, []), (22, .goto 4, 3, 0, [])], [(25, .iconst 0, 0, 0, []), (26, .nop, 3, 0, [])], [(26, .iadd, 0, 0, []), (27, .istore_n 1, 0, 0, []), (28, .iinc 2 1, 0, 0, []), (31, .goto (-27), 1, 0, [])], [(34, .iload_n 1, 0, 0, []), (35, .ireturn, 0, 0, [])]]
def zB_253 : mzB := [[(0, .lload_n 0, 0, 0, []), (1, .lload_n 0, 0, 0, []), (2, .iconst 1, 0, 0, []), (3, .lushr, 0, 0, []), (4, .ldc2_w 314, 6148914691236517205, 0, [0]), (7, .land, 0, 0, []), (8, .lsub, 0, 0, []), (9, .lstore_n 0, 0, 0, []), (10, .lload_n 0, 0, 0, []), (11, .ldc2_w 316, 3689348814741910323, 0, [0]), (14, .land, 0, 0, []), (15, .lload_n 0, 0, 0, []), (16, .iconst 2, 0, 0, []), (17, .lushr, 0, 0, []), (18, .ldc2_w 316, 3689348814741910323, 0, [0]), (21, .land, 0, 0, []), (22, .ladd, 0, 0, []), (23, .lstore_n 0, 0, 0, []), (24, .lload_n 0, 0, 0, []), (25, .lload_n 0, 0, 0, []), (26, .iconst 4, 0, 0, []), (27, .lushr, 0, 0, []), (28, .ladd, 0, 0, []), (29, .ldc2_w 318, 1085102592571150095, 0, [0]), (32, .land, 0, 0, []), (33, .lstore_n 0, 0, 0, []), (34, .lload_n 0, 0, 0, []), (35, .lload_n 0, 0, 0, []), (36, .bipush 8, 0, 0, []), (38, .lushr, 0, 0, []), (39, .ladd, 0, 0, []), (40, .lstore_n 0, 0, 0, []), (41, .lload_n 0, 0, 0, []), (42, .lload_n 0, 0, 0, []), (43, .bipush 16, 0, 0, []), (45, .lushr, 0, 0, []), (46, .ladd, 0, 0, []), (47, .lstore_n 0, 0, 0, []), (48, .lload_n 0, 0, 0, []), (49, .lload_n 0, 0, 0, []), (50, .bipush 32, 0, 0, []), (52, .lushr, 0, 0, []), (53, .ladd, 0, 0, []), (54, .lstore_n 0, 0, 0, []), (55, .lload_n 0, 0, 0, []), (56, .l2i, 0, 0, []), (57, .bipush 127, 0, 0, []), (59, .iand, 0, 0, []), (60, .ireturn, 0, 0, [])]]
def zB_254 : mzB := [[(0, .iconst 0, 0, 0, []), (1, .istore_n 2, 0, 0, []), (2, .aload_n 0, 0, 0, []), (3, .arraylength, 0, 0, []), (4, .istore_n 3, 0, 0, []), (5, .nop, 1, 0, [])], [(5, .iload_n 2, 0, 0, []), (6, .iload_n 3, 0, 0, []), (7, .if_icmp .ge 13, 2, 0, []), (10, .aload_n 0, 0, 0, []), (11, .iload_n 2, 0, 0, []), (12, .iload_n 1, 0, 0, []), (13, .iastore, 0, 0, []), (14, .iinc 2 1, 0, 0, []), (17, .goto (-12), 1, 0, [])], [(20, .return_, 0, 0, [])]]
def zBt : Lean.RArray mzB := (.branch 127 (.branch 63 (.branch 31 (.branch 15 (.branch 7 (.branch 3 (.branch 1 (.leaf zB_0) (.branch 2 (.leaf zB_1) (.leaf zB_2))) (.branch 5 (.branch 4 (.leaf zB_3) (.leaf zB_4)) (.branch 6 (.leaf zB_5) (.leaf zB_6)))) (.branch 11 (.branch 9 (.branch 8 (.leaf zB_7) (.leaf zB_8)) (.branch 10 (.leaf zB_9) (.leaf zB_10))) (.branch 13 (.branch 12 (.leaf zB_11) (.leaf zB_12)) (.branch 14 (.leaf zB_13) (.leaf zB_14))))) (.branch 23 (.branch 19 (.branch 17 (.branch 16 (.leaf zB_15) (.leaf zB_16)) (.branch 18 (.leaf zB_17) (.leaf zB_18))) (.branch 21 (.branch 20 (.leaf zB_19) (.leaf zB_20)) (.branch 22 (.leaf zB_21) (.leaf zB_22)))) (.branch 27 (.branch 25 (.branch 24 (.leaf zB_23) (.leaf zB_24)) (.branch 26 (.leaf zB_25) (.leaf zB_26))) (.branch 29 (.branch 28 (.leaf zB_27) (.leaf zB_28)) (.branch 30 (.leaf zB_29) (.leaf zB_30)))))) (.branch 47 (.branch 39 (.branch 35 (.branch 33 (.branch 32 (.leaf zB_31) (.leaf zB_32)) (.branch 34 (.leaf zB_33) (.leaf zB_34))) (.branch 37 (.branch 36 (.leaf zB_35) (.leaf zB_36)) (.branch 38 (.leaf zB_37) (.leaf zB_38)))) (.branch 43 (.branch 41 (.branch 40 (.leaf zB_39) (.leaf zB_40)) (.branch 42 (.leaf zB_41) (.leaf zB_42))) (.branch 45 (.branch 44 (.leaf zB_43) (.leaf zB_44)) (.branch 46 (.leaf zB_45) (.leaf zB_46))))) (.branch 55 (.branch 51 (.branch 49 (.branch 48 (.leaf zB_47) (.leaf zB_48)) (.branch 50 (.leaf zB_49) (.leaf zB_50))) (.branch 53 (.branch 52 (.leaf zB_51) (.leaf zB_52)) (.branch 54 (.leaf zB_53) (.leaf zB_54)))) (.branch 59 (.branch 57 (.branch 56 (.leaf zB_55) (.leaf zB_56)) (.branch 58 (.leaf zB_57) (.leaf zB_58))) (.branch 61 (.branch 60 (.leaf zB_59) (.leaf zB_60)) (.branch 62 (.leaf zB_61) (.leaf zB_62))))))) (.branch 95 (.branch 79 (.branch 71 (.branch 67 (.branch 65 (.branch 64 (.leaf zB_63) (.leaf zB_64)) (.branch 66 (.leaf zB_65) (.leaf zB_66))) (.branch 69 (.branch 68 (.leaf zB_67) (.leaf zB_68)) (.branch 70 (.leaf zB_69) (.leaf zB_70)))) (.branch 75 (.branch 73 (.branch 72 (.leaf zB_71) (.leaf zB_72)) (.branch 74 (.leaf zB_73) (.leaf zB_74))) (.branch 77 (.branch 76 (.leaf zB_75) (.leaf zB_76)) (.branch 78 (.leaf zB_77) (.leaf zB_78))))) (.branch 87 (.branch 83 (.branch 81 (.branch 80 (.leaf zB_79) (.leaf zB_80)) (.branch 82 (.leaf zB_81) (.leaf zB_82))) (.branch 85 (.branch 84 (.leaf zB_83) (.leaf zB_84)) (.branch 86 (.leaf zB_85) (.leaf zB_86)))) (.branch 91 (.branch 89 (.branch 88 (.leaf zB_87) (.leaf zB_88)) (.branch 90 (.leaf zB_89) (.leaf zB_90))) (.branch 93 (.branch 92 (.leaf zB_91) (.leaf zB_92)) (.branch 94 (.leaf zB_93) (.leaf zB_94)))))) (.branch 111 (.branch 103 (.branch 99 (.branch 97 (.branch 96 (.leaf zB_95) (.leaf zB_96)) (.branch 98 (.leaf zB_97) (.leaf zB_98))) (.branch 101 (.branch 100 (.leaf zB_99) (.leaf zB_100)) (.branch 102 (.leaf zB_101) (.leaf zB_102)))) (.branch 107 (.branch 105 (.branch 104 (.leaf zB_103) (.leaf zB_104)) (.branch 106 (.leaf zB_105) (.leaf zB_106))) (.branch 109 (.branch 108 (.leaf zB_107) (.leaf zB_108)) (.branch 110 (.leaf zB_109) (.leaf zB_110))))) (.branch 119 (.branch 115 (.branch 113 (.branch 112 (.leaf zB_111) (.leaf zB_112)) (.branch 114 (.leaf zB_113) (.leaf zB_114))) (.branch 117 (.branch 116 (.leaf zB_115) (.leaf zB_116)) (.branch 118 (.leaf zB_117) (.leaf zB_118)))) (.branch 123 (.branch 121 (.branch 120 (.leaf zB_119) (.leaf zB_120)) (.branch 122 (.leaf zB_121) (.leaf zB_122))) (.branch 125 (.branch 124 (.leaf zB_123) (.leaf zB_124)) (.branch 126 (.leaf zB_125) (.leaf zB_126)))))))) (.branch 191 (.branch 159 (.branch 143 (.branch 135 (.branch 131 (.branch 129 (.branch 128 (.leaf zB_127) (.leaf zB_128)) (.branch 130 (.leaf zB_129) (.leaf zB_130))) (.branch 133 (.branch 132 (.leaf zB_131) (.leaf zB_132)) (.branch 134 (.leaf zB_133) (.leaf zB_134)))) (.branch 139 (.branch 137 (.branch 136 (.leaf zB_135) (.leaf zB_136)) (.branch 138 (.leaf zB_137) (.leaf zB_138))) (.branch 141 (.branch 140 (.leaf zB_139) (.leaf zB_140)) (.branch 142 (.leaf zB_141) (.leaf zB_142))))) (.branch 151 (.branch 147 (.branch 145 (.branch 144 (.leaf zB_143) (.leaf zB_144)) (.branch 146 (.leaf zB_145) (.leaf zB_146))) (.branch 149 (.branch 148 (.leaf zB_147) (.leaf zB_148)) (.branch 150 (.leaf zB_149) (.leaf zB_150)))) (.branch 155 (.branch 153 (.branch 152 (.leaf zB_151) (.leaf zB_152)) (.branch 154 (.leaf zB_153) (.leaf zB_154))) (.branch 157 (.branch 156 (.leaf zB_155) (.leaf zB_156)) (.branch 158 (.leaf zB_157) (.leaf zB_158)))))) (.branch 175 (.branch 167 (.branch 163 (.branch 161 (.branch 160 (.leaf zB_159) (.leaf zB_160)) (.branch 162 (.leaf zB_161) (.leaf zB_162))) (.branch 165 (.branch 164 (.leaf zB_163) (.leaf zB_164)) (.branch 166 (.leaf zB_165) (.leaf zB_166)))) (.branch 171 (.branch 169 (.branch 168 (.leaf zB_167) (.leaf zB_168)) (.branch 170 (.leaf zB_169) (.leaf zB_170))) (.branch 173 (.branch 172 (.leaf zB_171) (.leaf zB_172)) (.branch 174 (.leaf zB_173) (.leaf zB_174))))) (.branch 183 (.branch 179 (.branch 177 (.branch 176 (.leaf zB_175) (.leaf zB_176)) (.branch 178 (.leaf zB_177) (.leaf zB_178))) (.branch 181 (.branch 180 (.leaf zB_179) (.leaf zB_180)) (.branch 182 (.leaf zB_181) (.leaf zB_182)))) (.branch 187 (.branch 185 (.branch 184 (.leaf zB_183) (.leaf zB_184)) (.branch 186 (.leaf zB_185) (.leaf zB_186))) (.branch 189 (.branch 188 (.leaf zB_187) (.leaf zB_188)) (.branch 190 (.leaf zB_189) (.leaf zB_190))))))) (.branch 223 (.branch 207 (.branch 199 (.branch 195 (.branch 193 (.branch 192 (.leaf zB_191) (.leaf zB_192)) (.branch 194 (.leaf zB_193) (.leaf zB_194))) (.branch 197 (.branch 196 (.leaf zB_195) (.leaf zB_196)) (.branch 198 (.leaf zB_197) (.leaf zB_198)))) (.branch 203 (.branch 201 (.branch 200 (.leaf zB_199) (.leaf zB_200)) (.branch 202 (.leaf zB_201) (.leaf zB_202))) (.branch 205 (.branch 204 (.leaf zB_203) (.leaf zB_204)) (.branch 206 (.leaf zB_205) (.leaf zB_206))))) (.branch 215 (.branch 211 (.branch 209 (.branch 208 (.leaf zB_207) (.leaf zB_208)) (.branch 210 (.leaf zB_209) (.leaf zB_210))) (.branch 213 (.branch 212 (.leaf zB_211) (.leaf zB_212)) (.branch 214 (.leaf zB_213) (.leaf zB_214)))) (.branch 219 (.branch 217 (.branch 216 (.leaf zB_215) (.leaf zB_216)) (.branch 218 (.leaf zB_217) (.leaf zB_218))) (.branch 221 (.branch 220 (.leaf zB_219) (.leaf zB_220)) (.branch 222 (.leaf zB_221) (.leaf zB_222)))))) (.branch 239 (.branch 231 (.branch 227 (.branch 225 (.branch 224 (.leaf zB_223) (.leaf zB_224)) (.branch 226 (.leaf zB_225) (.leaf zB_226))) (.branch 229 (.branch 228 (.leaf zB_227) (.leaf zB_228)) (.branch 230 (.leaf zB_229) (.leaf zB_230)))) (.branch 235 (.branch 233 (.branch 232 (.leaf zB_231) (.leaf zB_232)) (.branch 234 (.leaf zB_233) (.leaf zB_234))) (.branch 237 (.branch 236 (.leaf zB_235) (.leaf zB_236)) (.branch 238 (.leaf zB_237) (.leaf zB_238))))) (.branch 247 (.branch 243 (.branch 241 (.branch 240 (.leaf zB_239) (.leaf zB_240)) (.branch 242 (.leaf zB_241) (.leaf zB_242))) (.branch 245 (.branch 244 (.leaf zB_243) (.leaf zB_244)) (.branch 246 (.leaf zB_245) (.leaf zB_246)))) (.branch 251 (.branch 249 (.branch 248 (.leaf zB_247) (.leaf zB_248)) (.branch 250 (.leaf zB_249) (.leaf zB_250))) (.branch 253 (.branch 252 (.leaf zB_251) (.leaf zB_252)) (.branch 254 (.leaf zB_253) (.leaf zB_254)))))))))
def zB (j : Nat) : mzB := zBt.get j
def zNt : Lean.RArray Nat := (.branch 127 (.branch 63 (.branch 31 (.branch 15 (.branch 7 (.branch 3 (.branch 1 (.leaf 2) (.branch 2 (.leaf 1) (.leaf 5))) (.branch 5 (.branch 4 (.leaf 3) (.leaf 6)) (.branch 6 (.leaf 5) (.leaf 6)))) (.branch 11 (.branch 9 (.branch 8 (.leaf 3) (.leaf 1)) (.branch 10 (.leaf 1) (.leaf 2))) (.branch 13 (.branch 12 (.leaf 2) (.leaf 2)) (.branch 14 (.leaf 3) (.leaf 2))))) (.branch 23 (.branch 19 (.branch 17 (.branch 16 (.leaf 4) (.leaf 6)) (.branch 18 (.leaf 4) (.leaf 5))) (.branch 21 (.branch 20 (.leaf 4) (.leaf 3)) (.branch 22 (.leaf 3) (.leaf 3)))) (.branch 27 (.branch 25 (.branch 24 (.leaf 1) (.leaf 2)) (.branch 26 (.leaf 3) (.leaf 3))) (.branch 29 (.branch 28 (.leaf 2) (.leaf 2)) (.branch 30 (.leaf 3) (.leaf 6)))))) (.branch 47 (.branch 39 (.branch 35 (.branch 33 (.branch 32 (.leaf 8) (.leaf 4)) (.branch 34 (.leaf 4) (.leaf 4))) (.branch 37 (.branch 36 (.leaf 8) (.leaf 6)) (.branch 38 (.leaf 3) (.leaf 3)))) (.branch 43 (.branch 41 (.branch 40 (.leaf 2) (.leaf 2)) (.branch 42 (.leaf 1) (.leaf 2))) (.branch 45 (.branch 44 (.leaf 4) (.leaf 3)) (.branch 46 (.leaf 6) (.leaf 1))))) (.branch 55 (.branch 51 (.branch 49 (.branch 48 (.leaf 2) (.leaf 4)) (.branch 50 (.leaf 3) (.leaf 4))) (.branch 53 (.branch 52 (.leaf 2) (.leaf 2)) (.branch 54 (.leaf 2) (.leaf 3)))) (.branch 59 (.branch 57 (.branch 56 (.leaf 2) (.leaf 3)) (.branch 58 (.leaf 4) (.leaf 4))) (.branch 61 (.branch 60 (.leaf 7) (.leaf 7)) (.branch 62 (.leaf 7) (.leaf 6))))))) (.branch 95 (.branch 79 (.branch 71 (.branch 67 (.branch 65 (.branch 64 (.leaf 7) (.leaf 7)) (.branch 66 (.leaf 8) (.leaf 4))) (.branch 69 (.branch 68 (.leaf 8) (.leaf 7)) (.branch 70 (.leaf 1) (.leaf 2)))) (.branch 75 (.branch 73 (.branch 72 (.leaf 3) (.leaf 2)) (.branch 74 (.leaf 5) (.leaf 3))) (.branch 77 (.branch 76 (.leaf 1) (.leaf 1)) (.branch 78 (.leaf 2) (.leaf 1))))) (.branch 87 (.branch 83 (.branch 81 (.branch 80 (.leaf 1) (.leaf 1)) (.branch 82 (.leaf 5) (.leaf 1))) (.branch 85 (.branch 84 (.leaf 1) (.leaf 2)) (.branch 86 (.leaf 3) (.leaf 3)))) (.branch 91 (.branch 89 (.branch 88 (.leaf 3) (.leaf 2)) (.branch 90 (.leaf 4) (.leaf 5))) (.branch 93 (.branch 92 (.leaf 3) (.leaf 2)) (.branch 94 (.leaf 7) (.leaf 10)))))) (.branch 111 (.branch 103 (.branch 99 (.branch 97 (.branch 96 (.leaf 7) (.leaf 6)) (.branch 98 (.leaf 3) (.leaf 7))) (.branch 101 (.branch 100 (.leaf 4) (.leaf 2)) (.branch 102 (.leaf 4) (.leaf 3)))) (.branch 107 (.branch 105 (.branch 104 (.leaf 4) (.leaf 5)) (.branch 106 (.leaf 5) (.leaf 5))) (.branch 109 (.branch 108 (.leaf 8) (.leaf 4)) (.branch 110 (.leaf 4) (.leaf 4))))) (.branch 119 (.branch 115 (.branch 113 (.branch 112 (.leaf 3) (.leaf 1)) (.branch 114 (.leaf 6) (.leaf 3))) (.branch 117 (.branch 116 (.leaf 3) (.leaf 2)) (.branch 118 (.leaf 2) (.leaf 3)))) (.branch 123 (.branch 121 (.branch 120 (.leaf 3) (.leaf 4)) (.branch 122 (.leaf 4) (.leaf 4))) (.branch 125 (.branch 124 (.leaf 3) (.leaf 4)) (.branch 126 (.leaf 3) (.leaf 2)))))))) (.branch 191 (.branch 159 (.branch 143 (.branch 135 (.branch 131 (.branch 129 (.branch 128 (.leaf 3) (.leaf 2)) (.branch 130 (.leaf 2) (.leaf 2))) (.branch 133 (.branch 132 (.leaf 4) (.leaf 5)) (.branch 134 (.leaf 2) (.leaf 3)))) (.branch 139 (.branch 137 (.branch 136 (.leaf 3) (.leaf 3)) (.branch 138 (.leaf 3) (.leaf 2))) (.branch 141 (.branch 140 (.leaf 3) (.leaf 4)) (.branch 142 (.leaf 3) (.leaf 4))))) (.branch 151 (.branch 147 (.branch 145 (.branch 144 (.leaf 4) (.leaf 3)) (.branch 146 (.leaf 2) (.leaf 5))) (.branch 149 (.branch 148 (.leaf 7) (.leaf 2)) (.branch 150 (.leaf 1) (.leaf 1)))) (.branch 155 (.branch 153 (.branch 152 (.leaf 2) (.leaf 2)) (.branch 154 (.leaf 5) (.leaf 1))) (.branch 157 (.branch 156 (.leaf 8) (.leaf 1)) (.branch 158 (.leaf 1) (.leaf 1)))))) (.branch 175 (.branch 167 (.branch 163 (.branch 161 (.branch 160 (.leaf 2) (.leaf 4)) (.branch 162 (.leaf 2) (.leaf 1))) (.branch 165 (.branch 164 (.leaf 4) (.leaf 2)) (.branch 166 (.leaf 2) (.leaf 2)))) (.branch 171 (.branch 169 (.branch 168 (.leaf 4) (.leaf 3)) (.branch 170 (.leaf 3) (.leaf 8))) (.branch 173 (.branch 172 (.leaf 3) (.leaf 2)) (.branch 174 (.leaf 3) (.leaf 2))))) (.branch 183 (.branch 179 (.branch 177 (.branch 176 (.leaf 2) (.leaf 3)) (.branch 178 (.leaf 2) (.leaf 5))) (.branch 181 (.branch 180 (.leaf 3) (.leaf 1)) (.branch 182 (.leaf 3) (.leaf 2)))) (.branch 187 (.branch 185 (.branch 184 (.leaf 3) (.leaf 2)) (.branch 186 (.leaf 3) (.leaf 4))) (.branch 189 (.branch 188 (.leaf 3) (.leaf 4)) (.branch 190 (.leaf 5) (.leaf 5))))))) (.branch 223 (.branch 207 (.branch 199 (.branch 195 (.branch 193 (.branch 192 (.leaf 7) (.leaf 4)) (.branch 194 (.leaf 4) (.leaf 6))) (.branch 197 (.branch 196 (.leaf 4) (.leaf 6)) (.branch 198 (.leaf 3) (.leaf 3)))) (.branch 203 (.branch 201 (.branch 200 (.leaf 1) (.leaf 2)) (.branch 202 (.leaf 3) (.leaf 3))) (.branch 205 (.branch 204 (.leaf 3) (.leaf 3)) (.branch 206 (.leaf 1) (.leaf 1))))) (.branch 215 (.branch 211 (.branch 209 (.branch 208 (.leaf 4) (.leaf 4)) (.branch 210 (.leaf 6) (.leaf 2))) (.branch 213 (.branch 212 (.leaf 6) (.leaf 3)) (.branch 214 (.leaf 5) (.leaf 5)))) (.branch 219 (.branch 217 (.branch 216 (.leaf 4) (.leaf 3)) (.branch 218 (.leaf 5) (.leaf 7))) (.branch 221 (.branch 220 (.leaf 3) (.leaf 3)) (.branch 222 (.leaf 4) (.leaf 3)))))) (.branch 239 (.branch 231 (.branch 227 (.branch 225 (.branch 224 (.leaf 3) (.leaf 3)) (.branch 226 (.leaf 4) (.leaf 5))) (.branch 229 (.branch 228 (.leaf 2) (.leaf 2)) (.branch 230 (.leaf 2) (.leaf 3)))) (.branch 235 (.branch 233 (.branch 232 (.leaf 5) (.leaf 3)) (.branch 234 (.leaf 4) (.leaf 7))) (.branch 237 (.branch 236 (.leaf 2) (.leaf 4)) (.branch 238 (.leaf 5) (.leaf 3))))) (.branch 247 (.branch 243 (.branch 241 (.branch 240 (.leaf 7) (.leaf 4)) (.branch 242 (.leaf 5) (.leaf 8))) (.branch 245 (.branch 244 (.leaf 6) (.leaf 7)) (.branch 246 (.leaf 7) (.leaf 6)))) (.branch 251 (.branch 249 (.branch 248 (.leaf 5) (.leaf 4)) (.branch 250 (.leaf 7) (.leaf 6))) (.branch 253 (.branch 252 (.leaf 2) (.leaf 3)) (.branch 254 (.leaf 2) (.leaf 4)))))))))
def zN (j : Nat) : Nat := zNt.get j
/-- a method: name, code, locals, answer, its arguments with the receiver; frames, locals, cells, slots of its room; the number of its class -/
abbrev zMt : Type := MethodName × ByteArray × Nat × Option FieldType × Nat × Nat × Nat × Nat × Nat × Nat
def zM_0 : zMt := (yX0_init, cX0_init, 2, none, 2, 2, 40, 21, 738, 0)
def zM_1 : zMt := (yX0_forget, cX0_forget, 1, none, 1, 0, 0, 0, 0, 0)
def zM_2 : zMt := (yX0_findOne, cX0_findOne, 5, none, 1, 5, 129, 0, 0, 0)
def zM_3 : zMt := (yX0_findTwo, cX0_findTwo, 3, none, 1, 6, 154, 0, 0, 0)
def zM_4 : zMt := (yX0_tryPairsWith, cX0_tryPairsWith, 6, none, 3, 5, 129, 0, 0, 0)
def zM_5 : zMt := (yX0_propose, cX0_propose, 5, none, 4, 0, 0, 0, 0, 0)
def zM_6 : zMt := (yX0_refusedBehind, cX0_refusedBehind, 6, (some .int), 4, 4, 104, 0, 0, 0)
def zM_7 : zMt := (yX0_refusalAt, cX0_refusalAt, 3, (some .int), 3, 4, 104, 0, 0, 0)
def zM_8 : zMt := (yX1_init, cX1_init, 1, none, 1, 1, 20, 7, 372, 1)
def zM_9 : zMt := (yX1_clear, cX1_clear, 1, none, 1, 1, 23, 0, 0, 1)
def zM_10 : zMt := (yX1_become, cX1_become, 2, none, 2, 1, 26, 0, 0, 1)
def zM_11 : zMt := (yX1_hasPlace, cX1_hasPlace, 2, (some .boolean), 2, 0, 0, 0, 0, 1)
def zM_12 : zMt := (yX1_hasMessage, cX1_hasMessage, 2, (some .boolean), 2, 0, 0, 0, 0, 1)
def zM_13 : zMt := (yX1_placeNamed, cX1_placeNamed, 3, (some .int), 2, 0, 0, 0, 0, 1)
def zM_14 : zMt := (yX1_addPlace, cX1_addPlace, 2, none, 2, 0, 0, 0, 0, 1)
def zM_15 : zMt := (yX1_addRoad, cX1_addRoad, 4, none, 4, 2, 47, 0, 0, 1)
def zM_16 : zMt := (yX1_addMessage, cX1_addMessage, 6, none, 6, 0, 0, 0, 0, 1)
def zM_17 : zMt := (yX1_way, cX1_way, 4, (some .int), 3, 0, 0, 0, 0, 1)
def zM_18 : zMt := (yX1_shorten, cX1_shorten, 5, none, 4, 1, 23, 0, 0, 1)
def zM_19 : zMt := (yX1_joinRoads, cX1_joinRoads, 4, none, 1, 2, 47, 0, 0, 1)
def zM_20 : zMt := (yX1_isLate, cX1_isLate, 3, (some .boolean), 2, 0, 0, 0, 0, 1)
def zM_21 : zMt := (yX1_lateOnes, cX1_lateOnes, 3, (some .int), 1, 1, 22, 0, 0, 1)
def zM_22 : zMt := (yX1_latestHour, cX1_latestHour, 3, (some .int), 1, 1, 21, 0, 0, 1)
def zM_23 : zMt := (yX2_init, cX2_init, 1, none, 1, 1, 20, 2, 120, 2)
def zM_24 : zMt := (yX2_takeHours, cX2_takeHours, 2, none, 2, 1, 26, 0, 0, 2)
def zM_25 : zMt := (yX2_arrange, cX2_arrange, 3, none, 1, 0, 0, 0, 0, 2)
def zM_26 : zMt := (yX2_spotOf, cX2_spotOf, 3, (some .int), 2, 0, 0, 0, 0, 2)
def zM_27 : zMt := (yX2_hourAt, cX2_hourAt, 2, (some .int), 2, 0, 0, 0, 0, 2)
def zM_28 : zMt := (yX3_init, cX3_init, 2, none, 2, 2, 40, 10, 369, 3)
def zM_29 : zMt := (yX3_placeWithout, cX3_placeWithout, 3, (some .int), 3, 5, 129, 0, 0, 3)
def zM_30 : zMt := (yX3_lastVerdictWithout, cX3_lastVerdictWithout, 6, (some .int), 3, 4, 104, 0, 0, 3)
def zM_31 : zMt := (yX3_deciding, cX3_deciding, 8, (some .long), 2, 5, 129, 0, 0, 3)
def zM_32 : zMt := (yX3_outcomeAt, cX3_outcomeAt, 4, (some .int), 4, 5, 127, 0, 0, 3)
def zM_33 : zMt := (yX3_outcomeSwapped, cX3_outcomeSwapped, 4, (some .int), 4, 5, 127, 0, 0, 3)
def zM_34 : zMt := (yX3_outcome, cX3_outcome, 4, (some .int), 2, 4, 104, 0, 0, 3)
def zM_35 : zMt := (yX3_openWindow, cX3_openWindow, 8, none, 2, 4, 104, 0, 0, 3)
def zM_36 : zMt := (yX3_isAheadOf, cX3_isAheadOf, 6, (some .boolean), 4, 0, 0, 0, 0, 3)
def zM_37 : zMt := (yX4_init, cX4_init, 3, none, 3, 2, 41, 4, 2711, 4)
def zM_38 : zMt := (yX4_read, cX4_read, 3, (some .boolean), 3, 6, 133, 0, 0, 4)
def zM_39 : zMt := (yX4_goTo, cX4_goTo, 2, none, 2, 0, 0, 0, 0, 4)
def zM_40 : zMt := (yX4_fail, cX4_fail, 2, none, 2, 0, 0, 0, 0, 4)
def zM_41 : zMt := (yX4_readLine, cX4_readLine, 1, none, 1, 5, 113, 0, 0, 4)
def zM_42 : zMt := (yX4_readPlace, cX4_readPlace, 2, none, 1, 2, 44, 0, 0, 4)
def zM_43 : zMt := (yX4_readRoad, cX4_readRoad, 4, none, 1, 3, 70, 0, 0, 4)
def zM_44 : zMt := (yX4_readFits, cX4_readFits, 3, none, 1, 3, 67, 0, 0, 4)
def zM_45 : zMt := (yX4_readMessage, cX4_readMessage, 6, none, 1, 4, 88, 0, 0, 4)
def zM_46 : zMt := (yX4_takeAct, cX4_takeAct, 1, (some .int), 1, 2, 44, 0, 0, 4)
def zM_47 : zMt := (yX4_takeSecond, cX4_takeSecond, 2, (some .int), 2, 3, 67, 0, 0, 4)
def zM_48 : zMt := (yX4_takeNumber, cX4_takeNumber, 4, (some .int), 3, 2, 44, 0, 0, 4)
def zM_49 : zMt := (yX4_takePlace, cX4_takePlace, 3, (some .int), 2, 2, 44, 0, 0, 4)
def zM_50 : zMt := (yX4_take, cX4_take, 4, (some .int), 3, 1, 21, 0, 0, 4)
def zM_51 : zMt := (yX5_init, cX5_init, 2, none, 2, 2, 40, 18, 675, 5)
def zM_52 : zMt := (yX5_settle, cX5_settle, 2, none, 1, 5, 125, 0, 0, 5)
def zM_53 : zMt := (yX5_step, cX5_step, 2, (some .int), 2, 4, 104, 0, 0, 5)
def zM_54 : zMt := (yX5_goTo, cX5_goTo, 3, (some .int), 2, 4, 104, 0, 0, 5)
def zM_55 : zMt := (yX5_worldBy, cX5_worldBy, 2, (some (.object "PackTracer$World")), 2, 5, 126, 0, 0, 5)
def zM_56 : zMt := (yX5_worldOfFirst, cX5_worldOfFirst, 3, (some (.object "PackTracer$World")), 2, 5, 125, 0, 0, 5)
def zM_57 : zMt := (yX5_thingsChangedBy, cX5_thingsChangedBy, 4, (some .int), 2, 6, 147, 0, 0, 5)
def zM_58 : zMt := (yX5_verdicts, cX5_verdicts, 4, (some .int), 2, 0, 0, 0, 0, 5)
def zM_59 : zMt := (yX5_trailEntry, cX5_trailEntry, 7, (some .int), 4, 5, 125, 0, 0, 5)
def zM_60 : zMt := (yX5_hoursAt, cX5_hoursAt, 7, (some .int), 3, 5, 125, 0, 0, 5)
def zM_61 : zMt := (yX5_passages, cX5_passages, 7, (some .int), 3, 5, 125, 0, 0, 5)
def zM_62 : zMt := (yX5_hoursOnWays, cX5_hoursOnWays, 6, (some .int), 2, 5, 125, 0, 0, 5)
def zM_63 : zMt := (yX5_busiest, cX5_busiest, 7, (some .int), 3, 5, 125, 0, 0, 5)
def zM_64 : zMt := (yX5_allMet, cX5_allMet, 7, (some .long), 3, 5, 126, 0, 0, 5)
def zM_65 : zMt := (yX5_allHeld, cX5_allHeld, 8, (some .long), 4, 5, 126, 0, 0, 5)
def zM_66 : zMt := (yX5_mostHeld, cX5_mostHeld, 4, (some .int), 2, 5, 125, 0, 0, 5)
def zM_67 : zMt := (yX5_heldSince, cX5_heldSince, 8, (some .int), 3, 5, 125, 0, 0, 5)
def zM_68 : zMt := (yX5_clashOf, cX5_clashOf, 7, (some .int), 3, 0, 0, 0, 0, 5)
def zM_69 : zMt := (yX6_init, cX6_init, 1, none, 1, 1, 20, 1, 900, 6)
def zM_70 : zMt := (yX6_hasRoomFor, cX6_hasRoomFor, 2, (some .boolean), 2, 0, 0, 0, 0, 6)
def zM_71 : zMt := (yX6_append, cX6_append, 3, none, 2, 0, 0, 0, 0, 6)
def zM_72 : zMt := (yX7_init, cX7_init, 2, none, 2, 1, 20, 3, 2703, 7)
def zM_73 : zMt := (yX7_cut, cX7_cut, 5, none, 2, 3, 65, 0, 0, 7)
def zM_74 : zMt := (yX7_add, cX7_add, 3, none, 3, 0, 0, 0, 0, 7)
def zM_75 : zMt := (yX7_skipBlanks, cX7_skipBlanks, 1, none, 1, 0, 0, 0, 0, 7)
def zM_76 : zMt := (yX7_passToken, cX7_passToken, 1, (some .int), 1, 2, 45, 0, 0, 7)
def zM_77 : zMt := (yX7_passWord, cX7_passWord, 2, (some .int), 1, 1, 24, 0, 0, 7)
def zM_78 : zMt := (yX7_passDigits, cX7_passDigits, 1, none, 1, 1, 21, 0, 0, 7)
def zM_79 : zMt := (yX7_isLetter, cX7_isLetter, 1, (some .boolean), 1, 0, 0, 0, 0, 7)
def zM_80 : zMt := (yX7_isDigit, cX7_isDigit, 1, (some .boolean), 1, 0, 0, 0, 0, 7)
def zM_81 : zMt := (yX7_kindOfWord, cX7_kindOfWord, 5, (some .int), 1, 0, 0, 0, 0, 7)
def zM_82 : zMt := (yX8_init, cX8_init, 1, none, 1, 1, 20, 6, 240, 8)
def zM_83 : zMt := (yX8_clear, cX8_clear, 1, none, 1, 1, 23, 0, 0, 8)
def zM_84 : zMt := (yX8_become, cX8_become, 2, none, 2, 1, 26, 0, 0, 8)
def zM_85 : zMt := (yX8_has, cX8_has, 3, (some .boolean), 3, 0, 0, 0, 0, 8)
def zM_86 : zMt := (yX8_mark, cX8_mark, 3, none, 3, 0, 0, 0, 0, 8)
def zM_87 : zMt := (yX8_unmark, cX8_unmark, 3, none, 3, 0, 0, 0, 0, 8)
def zM_88 : zMt := (yX8_isMade, cX8_isMade, 2, (some .boolean), 2, 0, 0, 0, 0, 8)
def zM_89 : zMt := (yX8_topmost, cX8_topmost, 4, (some .int), 2, 0, 0, 0, 0, 8)
def zM_90 : zMt := (yX8_isIn, cX8_isIn, 5, (some .boolean), 3, 0, 0, 0, 0, 8)
def zM_91 : zMt := (yX8_whereIs, cX8_whereIs, 3, (some .int), 2, 1, 23, 0, 0, 8)
def zM_92 : zMt := (yX8_knownAt, cX8_knownAt, 2, (some .int), 2, 1, 23, 0, 0, 8)
def zM_93 : zMt := (yX8_look, cX8_look, 7, (some .int), 4, 3, 78, 0, 0, 8)
def zM_94 : zMt := (yX8_objection, cX8_objection, 10, (some .int), 4, 2, 49, 0, 0, 8)
def zM_95 : zMt := (yX8_objectionToPack, cX8_objectionToPack, 7, (some .int), 4, 1, 23, 0, 0, 8)
def zM_96 : zMt := (yX8_isTooSoon, cX8_isTooSoon, 6, (some .boolean), 5, 1, 23, 0, 0, 8)
def zM_97 : zMt := (yX8_isQuarantinedWithin, cX8_isQuarantinedWithin, 3, (some .boolean), 2, 1, 24, 0, 0, 8)
def zM_98 : zMt := (yX8_carryOut, cX8_carryOut, 7, none, 4, 2, 46, 0, 0, 8)
def zM_99 : zMt := (yX8_stand, cX8_stand, 4, none, 4, 0, 0, 0, 0, 8)
def zM_100 : zMt := (yX8_openAround, cX8_openAround, 2, none, 2, 1, 22, 0, 0, 8)
def zM_101 : zMt := (yX8_looseWith, cX8_looseWith, 4, (some .int), 2, 1, 22, 0, 0, 8)
def zM_102 : zMt := (yX8_endWithAllIn, cX8_endWithAllIn, 3, none, 2, 1, 24, 0, 0, 8)
def zM_103 : zMt := (yX8_heldAtOnce, cX8_heldAtOnce, 4, (some .int), 2, 0, 0, 0, 0, 8)
def zM_104 : zMt := (yX8_contents, cX8_contents, 5, (some .long), 2, 1, 24, 0, 0, 8)
def zM_105 : zMt := (yX8_allAt, cX8_allAt, 5, (some .long), 2, 2, 45, 0, 0, 8)
def zM_106 : zMt := (yX8_allKnownBy, cX8_allKnownBy, 5, (some .long), 2, 2, 45, 0, 0, 8)
def zM_107 : zMt := (yX8_withCompany, cX8_withCompany, 8, (some .long), 2, 1, 23, 0, 0, 8)
def zM_108 : zMt := (yX8_clumpsAt, cX8_clumpsAt, 4, (some .int), 2, 2, 45, 0, 0, 8)
def zM_109 : zMt := (yX8_tellOf, cX8_tellOf, 4, (some .int), 3, 2, 48, 0, 0, 8)
def zM_110 : zMt := (yX8_tally, cX8_tally, 4, (some .int), 2, 3, 67, 0, 0, 8)
def zM_111 : zMt := (yX8_isSo, cX8_isSo, 3, (some .boolean), 3, 2, 45, 0, 0, 8)
def zM_112 : zMt := (yX9_init, cX9_init, 1, none, 1, 3, 63, 75, 6197, 9)
def zM_113 : zMt := (yX9_feed, cX9_feed, 6, (some .int), 6, 1, 22, 0, 0, 9)
def zM_114 : zMt := (yX9_text, cX9_text, 3, (some .int), 2, 7, 167, 0, 0, 9)
def zM_115 : zMt := (yX9_tell, cX9_tell, 3, (some .int), 2, 7, 167, 0, 0, 9)
def zM_116 : zMt := (yX9_close, cX9_close, 2, (some .int), 2, 6, 146, 0, 0, 9)
def zM_117 : zMt := (yX9_fault, cX9_fault, 2, (some .int), 2, 0, 0, 0, 0, 9)
def zM_118 : zMt := (yX9_hours, cX9_hours, 3, (some .int), 3, 1, 23, 0, 0, 9)
def zM_119 : zMt := (yX9_message, cX9_message, 3, (some .int), 3, 1, 22, 0, 0, 9)
def zM_120 : zMt := (yX9_thing, cX9_thing, 4, (some .int), 4, 6, 147, 0, 0, 9)
def zM_121 : zMt := (yX9_inside, cX9_inside, 4, (some .int), 4, 6, 147, 0, 0, 9)
def zM_122 : zMt := (yX9_there, cX9_there, 4, (some .int), 4, 6, 147, 0, 0, 9)
def zM_123 : zMt := (yX9_many, cX9_many, 3, (some .int), 3, 6, 147, 0, 0, 9)
def zM_124 : zMt := (yX9_trail, cX9_trail, 4, (some .int), 4, 6, 151, 0, 0, 9)
def zM_125 : zMt := (yX9_known, cX9_known, 3, (some .int), 3, 6, 147, 0, 0, 9)
def zM_126 : zMt := (yX9_changed, cX9_changed, 2, (some .int), 2, 7, 170, 0, 0, 9)
def zM_127 : zMt := (yX9_without, cX9_without, 3, (some .int), 3, 6, 151, 0, 0, 9)
def zM_128 : zMt := (yX9_refused, cX9_refused, 2, (some .int), 2, 1, 23, 0, 0, 9)
def zM_129 : zMt := (yX9_blamed, cX9_blamed, 2, (some .int), 2, 6, 153, 0, 0, 9)
def zM_130 : zMt := (yX9_twoBlamed, cX9_twoBlamed, 2, (some .int), 2, 7, 176, 0, 0, 9)
def zM_131 : zMt := (yX9_met, cX9_met, 4, (some .int), 4, 6, 152, 0, 0, 9)
def zM_132 : zMt := (yX9_wereIn, cX9_wereIn, 5, (some .int), 5, 6, 153, 0, 0, 9)
def zM_133 : zMt := (yX9_most, cX9_most, 2, (some .int), 2, 6, 148, 0, 0, 9)
def zM_134 : zMt := (yX9_still, cX9_still, 3, (some .int), 3, 6, 152, 0, 0, 9)
def zM_135 : zMt := (yX9_components, cX9_components, 3, (some .int), 3, 6, 147, 0, 0, 9)
def zM_136 : zMt := (yX9_dwelt, cX9_dwelt, 3, (some .int), 3, 6, 151, 0, 0, 9)
def zM_137 : zMt := (yX9_flow, cX9_flow, 3, (some .int), 3, 6, 151, 0, 0, 9)
def zM_138 : zMt := (yX9_cause, cX9_cause, 2, (some .int), 2, 6, 156, 0, 0, 9)
def zM_139 : zMt := (yX9_needs, cX9_needs, 3, (some .int), 3, 6, 156, 0, 0, 9)
def zM_140 : zMt := (yX9_ifAt, cX9_ifAt, 4, (some .int), 4, 6, 150, 0, 0, 9)
def zM_141 : zMt := (yX9_window, cX9_window, 3, (some .int), 3, 5, 131, 0, 0, 9)
def zM_142 : zMt := (yX9_lost, cX9_lost, 4, (some .int), 4, 6, 147, 0, 0, 9)
def zM_143 : zMt := (yX9_ifSwapped, cX9_ifSwapped, 4, (some .int), 4, 6, 150, 0, 0, 9)
def zM_144 : zMt := (yX9_busy, cX9_busy, 3, (some .int), 3, 6, 151, 0, 0, 9)
def zM_145 : zMt := (yX9_travelled, cX9_travelled, 2, (some .int), 2, 6, 150, 0, 0, 9)
def zM_146 : zMt := (yX9_clash, cX9_clash, 5, (some .int), 4, 1, 26, 0, 0, 9)
def zM_147 : zMt := (yX9_soonest, cX9_soonest, 7, (some .int), 4, 6, 147, 0, 0, 9)
def zM_148 : zMt := (yX9_count, cX9_count, 2, (some .int), 2, 2, 44, 0, 0, 9)
def zM_149 : zMt := (yX9_isThing, cX9_isThing, 1, (some .boolean), 1, 0, 0, 0, 0, 9)
def zM_150 : zMt := (yX9_isHour, cX9_isHour, 1, (some .boolean), 1, 0, 0, 0, 0, 9)
def zM_151 : zMt := (yX9_isPlaceOrSold, cX9_isPlaceOrSold, 2, (some .boolean), 2, 1, 21, 0, 0, 9)
def zM_152 : zMt := (yX9_isWhereabouts, cX9_isWhereabouts, 2, (some .boolean), 2, 2, 42, 0, 0, 9)
def zM_153 : zMt := (yX9_pick, cX9_pick, 5, (some .int), 2, 0, 0, 0, 0, 9)
def zM_154 : zMt := (yX10_init, cX10_init, 1, none, 1, 2, 45, 25, 2600, 10)
def zM_155 : zMt := (yX10_feed, cX10_feed, 8, (some .int), 6, 0, 0, 0, 0, 10)
def zM_156 : zMt := (yX10_here, cX10_here, 1, (some .int), 1, 0, 0, 0, 0, 10)
def zM_157 : zMt := (yX10_isSmall, cX10_isSmall, 1, (some .boolean), 1, 0, 0, 0, 0, 10)
def zM_158 : zMt := (yX10_isDigit, cX10_isDigit, 1, (some .boolean), 1, 0, 0, 0, 0, 10)
def zM_159 : zMt := (yX10_token, cX10_token, 2, none, 1, 1, 23, 0, 0, 10)
def zM_160 : zMt := (yX10_wordHere, cX10_wordHere, 4, (some .int), 1, 0, 0, 0, 0, 10)
def zM_161 : zMt := (yX10_wrong, cX10_wrong, 2, none, 2, 0, 0, 0, 0, 10)
def zM_162 : zMt := (yX10_goOn, cX10_goOn, 1, none, 1, 2, 44, 0, 0, 10)
def zM_163 : zMt := (yX10_number, cX10_number, 4, (some .int), 3, 3, 64, 0, 0, 10)
def zM_164 : zMt := (yX10_placeHere, cX10_placeHere, 2, (some .int), 1, 0, 0, 0, 0, 10)
def zM_165 : zMt := (yX10_readPlace, cX10_readPlace, 2, (some .int), 1, 3, 64, 0, 0, 10)
def zM_166 : zMt := (yX10_readNew, cX10_readNew, 2, none, 1, 3, 64, 0, 0, 10)
def zM_167 : zMt := (yX10_readRoad, cX10_readRoad, 4, none, 1, 4, 87, 0, 0, 10)
def zM_168 : zMt := (yX10_readFits, cX10_readFits, 3, none, 1, 4, 87, 0, 0, 10)
def zM_169 : zMt := (yX10_kindHere, cX10_kindHere, 3, (some .int), 1, 3, 64, 0, 0, 10)
def zM_170 : zMt := (yX10_readMessage, cX10_readMessage, 8, none, 1, 4, 87, 0, 0, 10)
def zM_171 : zMt := (yX10_readLine, cX10_readLine, 3, none, 2, 5, 114, 0, 0, 10)
def zM_172 : zMt := (yX10_freshText, cX10_freshText, 2, none, 1, 0, 0, 0, 0, 10)
def zM_173 : zMt := (yX10_reads, cX10_reads, 3, (some .int), 3, 6, 136, 0, 0, 10)
def zM_174 : zMt := (yX10_becomes, cX10_becomes, 2, none, 1, 1, 24, 0, 0, 10)
def zM_175 : zMt := (yX10_text, cX10_text, 2, (some .int), 2, 7, 158, 0, 0, 10)
def zM_176 : zMt := (yX10_tell, cX10_tell, 3, (some .int), 2, 7, 158, 0, 0, 10)
def zM_177 : zMt := (yX10_fault, cX10_fault, 2, (some .int), 2, 0, 0, 0, 0, 10)
def zM_178 : zMt := (yX10_laysWays, cX10_laysWays, 5, none, 1, 0, 0, 0, 0, 10)
def zM_179 : zMt := (yX10_hours, cX10_hours, 3, (some .int), 3, 1, 21, 0, 0, 10)
def zM_180 : zMt := (yX10_messages, cX10_messages, 1, (some .int), 1, 0, 0, 0, 0, 10)
def zM_181 : zMt := (yX10_told, cX10_told, 3, (some .int), 3, 0, 0, 0, 0, 10)
def zM_182 : zMt := (yX10_takesAll, cX10_takesAll, 2, none, 1, 1, 22, 0, 0, 10)
def zM_183 : zMt := (yX10_sorts, cX10_sorts, 3, none, 1, 1, 20, 0, 0, 10)
def zM_184 : zMt := (yX10_clears, cX10_clears, 2, none, 1, 2, 42, 0, 0, 10)
def zM_185 : zMt := (yX10_topOf, cX10_topOf, 3, (some .int), 2, 0, 0, 0, 0, 10)
def zM_186 : zMt := (yX10_isWithin, cX10_isWithin, 4, (some .boolean), 3, 0, 0, 0, 0, 10)
def zM_187 : zMt := (yX10_isHeld, cX10_isHeld, 3, (some .boolean), 2, 1, 23, 0, 0, 10)
def zM_188 : zMt := (yX10_manyIn, cX10_manyIn, 4, (some .int), 2, 0, 0, 0, 0, 10)
def zM_189 : zMt := (yX10_isSoon, cX10_isSoon, 5, (some .boolean), 4, 1, 22, 0, 0, 10)
def zM_190 : zMt := (yX10_isOneOf, cX10_isOneOf, 5, (some .boolean), 5, 0, 0, 0, 0, 10)
def zM_191 : zMt := (yX10_reason, cX10_reason, 7, (some .int), 2, 2, 46, 0, 0, 10)
def zM_192 : zMt := (yX10_looks, cX10_looks, 4, none, 2, 4, 96, 0, 0, 10)
def zM_193 : zMt := (yX10_lies, cX10_lies, 4, none, 4, 0, 0, 0, 0, 10)
def zM_194 : zMt := (yX10_takes, cX10_takes, 6, none, 6, 3, 71, 0, 0, 10)
def zM_195 : zMt := (yX10_comesOut, cX10_comesOut, 4, none, 4, 1, 23, 0, 0, 10)
def zM_196 : zMt := (yX10_scans, cX10_scans, 6, none, 4, 2, 46, 0, 0, 10)
def zM_197 : zMt := (yX10_ends, cX10_ends, 3, none, 2, 1, 23, 0, 0, 10)
def zM_198 : zMt := (yX10_runs, cX10_runs, 3, none, 2, 5, 119, 0, 0, 10)
def zM_199 : zMt := (yX10_runsAll, cX10_runsAll, 1, none, 1, 6, 141, 0, 0, 10)
def zM_200 : zMt := (yX10_runsTo, cX10_runsTo, 2, none, 2, 6, 141, 0, 0, 10)
def zM_201 : zMt := (yX10_whereIs, cX10_whereIs, 3, (some .int), 2, 1, 22, 0, 0, 10)
def zM_202 : zMt := (yX10_message, cX10_message, 3, (some .int), 3, 7, 161, 0, 0, 10)
def zM_203 : zMt := (yX10_orderOf, cX10_orderOf, 3, (some .int), 2, 0, 0, 0, 0, 10)
def zM_204 : zMt := (yX10_isLate, cX10_isLate, 3, (some .boolean), 2, 1, 22, 0, 0, 10)
def zM_205 : zMt := (yX10_isThing, cX10_isThing, 1, (some .boolean), 1, 0, 0, 0, 0, 10)
def zM_206 : zMt := (yX10_isHour, cX10_isHour, 1, (some .boolean), 1, 0, 0, 0, 0, 10)
def zM_207 : zMt := (yX10_allIn, cX10_allIn, 4, (some .int), 2, 1, 23, 0, 0, 10)
def zM_208 : zMt := (yX10_thing, cX10_thing, 4, (some .int), 4, 7, 162, 0, 0, 10)
def zM_209 : zMt := (yX10_inside, cX10_inside, 6, (some .int), 4, 7, 162, 0, 0, 10)
def zM_210 : zMt := (yX10_isPlace, cX10_isPlace, 2, (some .boolean), 2, 0, 0, 0, 0, 10)
def zM_211 : zMt := (yX10_there, cX10_there, 6, (some .int), 4, 7, 162, 0, 0, 10)
def zM_212 : zMt := (yX10_isSo, cX10_isSo, 3, (some .boolean), 3, 2, 44, 0, 0, 10)
def zM_213 : zMt := (yX10_many, cX10_many, 5, (some .int), 3, 7, 162, 0, 0, 10)
def zM_214 : zMt := (yX10_laysTrail, cX10_laysTrail, 5, none, 2, 5, 119, 0, 0, 10)
def zM_215 : zMt := (yX10_trail, cX10_trail, 4, (some .int), 4, 6, 143, 0, 0, 10)
def zM_216 : zMt := (yX10_latest, cX10_latest, 3, (some .int), 1, 1, 22, 0, 0, 10)
def zM_217 : zMt := (yX10_dwelt, cX10_dwelt, 5, (some .int), 3, 6, 143, 0, 0, 10)
def zM_218 : zMt := (yX10_flow, cX10_flow, 7, (some .int), 3, 6, 143, 0, 0, 10)
def zM_219 : zMt := (yX10_runsFirst, cX10_runsFirst, 3, none, 2, 6, 141, 0, 0, 10)
def zM_220 : zMt := (yX10_known, cX10_known, 3, (some .int), 3, 7, 163, 0, 0, 10)
def zM_221 : zMt := (yX10_changed, cX10_changed, 4, (some .int), 2, 7, 163, 0, 0, 10)
def zM_222 : zMt := (yX10_runsWithout, cX10_runsWithout, 3, none, 3, 6, 141, 0, 0, 10)
def zM_223 : zMt := (yX10_without, cX10_without, 3, (some .int), 3, 7, 163, 0, 0, 10)
def zM_224 : zMt := (yX10_refusedNow, cX10_refusedNow, 3, (some .int), 1, 0, 0, 0, 0, 10)
def zM_225 : zMt := (yX10_refused, cX10_refused, 4, (some .int), 2, 7, 161, 0, 0, 10)
def zM_226 : zMt := (yX10_blames, cX10_blames, 5, none, 2, 7, 163, 0, 0, 10)
def zM_227 : zMt := (yX10_blamed, cX10_blamed, 2, (some .int), 2, 8, 187, 0, 0, 10)
def zM_228 : zMt := (yX10_twoBlamed, cX10_twoBlamed, 2, (some .int), 2, 8, 187, 0, 0, 10)
def zM_229 : zMt := (yX10_isRefused, cX10_isRefused, 2, (some .boolean), 2, 7, 161, 0, 0, 10)
def zM_230 : zMt := (yX10_cause, cX10_cause, 3, (some .int), 2, 8, 182, 0, 0, 10)
def zM_231 : zMt := (yX10_needs, cX10_needs, 5, (some .int), 3, 8, 182, 0, 0, 10)
def zM_232 : zMt := (yX10_runsAt, cX10_runsAt, 3, none, 3, 6, 141, 0, 0, 10)
def zM_233 : zMt := (yX10_ifAt, cX10_ifAt, 4, (some .int), 4, 7, 163, 0, 0, 10)
def zM_234 : zMt := (yX10_window, cX10_window, 7, (some .int), 3, 7, 163, 0, 0, 10)
def zM_235 : zMt := (yX10_meets, cX10_meets, 2, none, 1, 1, 22, 0, 0, 10)
def zM_236 : zMt := (yX10_pick, cX10_pick, 4, (some .int), 2, 0, 0, 0, 0, 10)
def zM_237 : zMt := (yX10_met, cX10_met, 5, (some .int), 4, 7, 162, 0, 0, 10)
def zM_238 : zMt := (yX10_adds, cX10_adds, 3, none, 2, 1, 23, 0, 0, 10)
def zM_239 : zMt := (yX10_wereIn, cX10_wereIn, 7, (some .int), 5, 7, 162, 0, 0, 10)
def zM_240 : zMt := (yX10_most, cX10_most, 4, (some .int), 2, 5, 119, 0, 0, 10)
def zM_241 : zMt := (yX10_bitsIn, cX10_bitsIn, 5, (some .long), 2, 1, 23, 0, 0, 10)
def zM_242 : zMt := (yX10_still, cX10_still, 8, (some .int), 3, 5, 119, 0, 0, 10)
def zM_243 : zMt := (yX10_components, cX10_components, 6, (some .int), 3, 7, 162, 0, 0, 10)
def zM_244 : zMt := (yX10_clash, cX10_clash, 7, (some .int), 4, 7, 161, 0, 0, 10)
def zM_245 : zMt := (yX10_soonest, cX10_soonest, 7, (some .int), 4, 7, 162, 0, 0, 10)
def zM_246 : zMt := (yX10_lost, cX10_lost, 6, (some .int), 4, 7, 162, 0, 0, 10)
def zM_247 : zMt := (yX10_ifSwapped, cX10_ifSwapped, 5, (some .int), 4, 6, 141, 0, 0, 10)
def zM_248 : zMt := (yX10_manyAt, cX10_manyAt, 4, (some .int), 2, 2, 44, 0, 0, 10)
def zM_249 : zMt := (yX10_busy, cX10_busy, 7, (some .int), 3, 5, 119, 0, 0, 10)
def zM_250 : zMt := (yX10_travelled, cX10_travelled, 6, (some .int), 2, 6, 143, 0, 0, 10)
def zM_251 : zMt := (yX10_count, cX10_count, 2, (some .int), 2, 3, 66, 0, 0, 10)
def zM_252 : zMt := (yX10_lates, cX10_lates, 3, (some .int), 1, 2, 44, 0, 0, 10)
def zM_253 : zMt := (yJ13_bitCount_95d88, cJ13_bitCount_95d88, 2, (some .int), 1, 0, 0, 0, 0, 11)
def zM_254 : zMt := (yJ7_fill_53178, cJ7_fill_53178, 4, none, 2, 0, 0, 0, 0, 12)
def zMr : Lean.RArray zMt := (.branch 127 (.branch 63 (.branch 31 (.branch 15 (.branch 7 (.branch 3 (.branch 1 (.leaf zM_0) (.branch 2 (.leaf zM_1) (.leaf zM_2))) (.branch 5 (.branch 4 (.leaf zM_3) (.leaf zM_4)) (.branch 6 (.leaf zM_5) (.leaf zM_6)))) (.branch 11 (.branch 9 (.branch 8 (.leaf zM_7) (.leaf zM_8)) (.branch 10 (.leaf zM_9) (.leaf zM_10))) (.branch 13 (.branch 12 (.leaf zM_11) (.leaf zM_12)) (.branch 14 (.leaf zM_13) (.leaf zM_14))))) (.branch 23 (.branch 19 (.branch 17 (.branch 16 (.leaf zM_15) (.leaf zM_16)) (.branch 18 (.leaf zM_17) (.leaf zM_18))) (.branch 21 (.branch 20 (.leaf zM_19) (.leaf zM_20)) (.branch 22 (.leaf zM_21) (.leaf zM_22)))) (.branch 27 (.branch 25 (.branch 24 (.leaf zM_23) (.leaf zM_24)) (.branch 26 (.leaf zM_25) (.leaf zM_26))) (.branch 29 (.branch 28 (.leaf zM_27) (.leaf zM_28)) (.branch 30 (.leaf zM_29) (.leaf zM_30)))))) (.branch 47 (.branch 39 (.branch 35 (.branch 33 (.branch 32 (.leaf zM_31) (.leaf zM_32)) (.branch 34 (.leaf zM_33) (.leaf zM_34))) (.branch 37 (.branch 36 (.leaf zM_35) (.leaf zM_36)) (.branch 38 (.leaf zM_37) (.leaf zM_38)))) (.branch 43 (.branch 41 (.branch 40 (.leaf zM_39) (.leaf zM_40)) (.branch 42 (.leaf zM_41) (.leaf zM_42))) (.branch 45 (.branch 44 (.leaf zM_43) (.leaf zM_44)) (.branch 46 (.leaf zM_45) (.leaf zM_46))))) (.branch 55 (.branch 51 (.branch 49 (.branch 48 (.leaf zM_47) (.leaf zM_48)) (.branch 50 (.leaf zM_49) (.leaf zM_50))) (.branch 53 (.branch 52 (.leaf zM_51) (.leaf zM_52)) (.branch 54 (.leaf zM_53) (.leaf zM_54)))) (.branch 59 (.branch 57 (.branch 56 (.leaf zM_55) (.leaf zM_56)) (.branch 58 (.leaf zM_57) (.leaf zM_58))) (.branch 61 (.branch 60 (.leaf zM_59) (.leaf zM_60)) (.branch 62 (.leaf zM_61) (.leaf zM_62))))))) (.branch 95 (.branch 79 (.branch 71 (.branch 67 (.branch 65 (.branch 64 (.leaf zM_63) (.leaf zM_64)) (.branch 66 (.leaf zM_65) (.leaf zM_66))) (.branch 69 (.branch 68 (.leaf zM_67) (.leaf zM_68)) (.branch 70 (.leaf zM_69) (.leaf zM_70)))) (.branch 75 (.branch 73 (.branch 72 (.leaf zM_71) (.leaf zM_72)) (.branch 74 (.leaf zM_73) (.leaf zM_74))) (.branch 77 (.branch 76 (.leaf zM_75) (.leaf zM_76)) (.branch 78 (.leaf zM_77) (.leaf zM_78))))) (.branch 87 (.branch 83 (.branch 81 (.branch 80 (.leaf zM_79) (.leaf zM_80)) (.branch 82 (.leaf zM_81) (.leaf zM_82))) (.branch 85 (.branch 84 (.leaf zM_83) (.leaf zM_84)) (.branch 86 (.leaf zM_85) (.leaf zM_86)))) (.branch 91 (.branch 89 (.branch 88 (.leaf zM_87) (.leaf zM_88)) (.branch 90 (.leaf zM_89) (.leaf zM_90))) (.branch 93 (.branch 92 (.leaf zM_91) (.leaf zM_92)) (.branch 94 (.leaf zM_93) (.leaf zM_94)))))) (.branch 111 (.branch 103 (.branch 99 (.branch 97 (.branch 96 (.leaf zM_95) (.leaf zM_96)) (.branch 98 (.leaf zM_97) (.leaf zM_98))) (.branch 101 (.branch 100 (.leaf zM_99) (.leaf zM_100)) (.branch 102 (.leaf zM_101) (.leaf zM_102)))) (.branch 107 (.branch 105 (.branch 104 (.leaf zM_103) (.leaf zM_104)) (.branch 106 (.leaf zM_105) (.leaf zM_106))) (.branch 109 (.branch 108 (.leaf zM_107) (.leaf zM_108)) (.branch 110 (.leaf zM_109) (.leaf zM_110))))) (.branch 119 (.branch 115 (.branch 113 (.branch 112 (.leaf zM_111) (.leaf zM_112)) (.branch 114 (.leaf zM_113) (.leaf zM_114))) (.branch 117 (.branch 116 (.leaf zM_115) (.leaf zM_116)) (.branch 118 (.leaf zM_117) (.leaf zM_118)))) (.branch 123 (.branch 121 (.branch 120 (.leaf zM_119) (.leaf zM_120)) (.branch 122 (.leaf zM_121) (.leaf zM_122))) (.branch 125 (.branch 124 (.leaf zM_123) (.leaf zM_124)) (.branch 126 (.leaf zM_125) (.leaf zM_126)))))))) (.branch 191 (.branch 159 (.branch 143 (.branch 135 (.branch 131 (.branch 129 (.branch 128 (.leaf zM_127) (.leaf zM_128)) (.branch 130 (.leaf zM_129) (.leaf zM_130))) (.branch 133 (.branch 132 (.leaf zM_131) (.leaf zM_132)) (.branch 134 (.leaf zM_133) (.leaf zM_134)))) (.branch 139 (.branch 137 (.branch 136 (.leaf zM_135) (.leaf zM_136)) (.branch 138 (.leaf zM_137) (.leaf zM_138))) (.branch 141 (.branch 140 (.leaf zM_139) (.leaf zM_140)) (.branch 142 (.leaf zM_141) (.leaf zM_142))))) (.branch 151 (.branch 147 (.branch 145 (.branch 144 (.leaf zM_143) (.leaf zM_144)) (.branch 146 (.leaf zM_145) (.leaf zM_146))) (.branch 149 (.branch 148 (.leaf zM_147) (.leaf zM_148)) (.branch 150 (.leaf zM_149) (.leaf zM_150)))) (.branch 155 (.branch 153 (.branch 152 (.leaf zM_151) (.leaf zM_152)) (.branch 154 (.leaf zM_153) (.leaf zM_154))) (.branch 157 (.branch 156 (.leaf zM_155) (.leaf zM_156)) (.branch 158 (.leaf zM_157) (.leaf zM_158)))))) (.branch 175 (.branch 167 (.branch 163 (.branch 161 (.branch 160 (.leaf zM_159) (.leaf zM_160)) (.branch 162 (.leaf zM_161) (.leaf zM_162))) (.branch 165 (.branch 164 (.leaf zM_163) (.leaf zM_164)) (.branch 166 (.leaf zM_165) (.leaf zM_166)))) (.branch 171 (.branch 169 (.branch 168 (.leaf zM_167) (.leaf zM_168)) (.branch 170 (.leaf zM_169) (.leaf zM_170))) (.branch 173 (.branch 172 (.leaf zM_171) (.leaf zM_172)) (.branch 174 (.leaf zM_173) (.leaf zM_174))))) (.branch 183 (.branch 179 (.branch 177 (.branch 176 (.leaf zM_175) (.leaf zM_176)) (.branch 178 (.leaf zM_177) (.leaf zM_178))) (.branch 181 (.branch 180 (.leaf zM_179) (.leaf zM_180)) (.branch 182 (.leaf zM_181) (.leaf zM_182)))) (.branch 187 (.branch 185 (.branch 184 (.leaf zM_183) (.leaf zM_184)) (.branch 186 (.leaf zM_185) (.leaf zM_186))) (.branch 189 (.branch 188 (.leaf zM_187) (.leaf zM_188)) (.branch 190 (.leaf zM_189) (.leaf zM_190))))))) (.branch 223 (.branch 207 (.branch 199 (.branch 195 (.branch 193 (.branch 192 (.leaf zM_191) (.leaf zM_192)) (.branch 194 (.leaf zM_193) (.leaf zM_194))) (.branch 197 (.branch 196 (.leaf zM_195) (.leaf zM_196)) (.branch 198 (.leaf zM_197) (.leaf zM_198)))) (.branch 203 (.branch 201 (.branch 200 (.leaf zM_199) (.leaf zM_200)) (.branch 202 (.leaf zM_201) (.leaf zM_202))) (.branch 205 (.branch 204 (.leaf zM_203) (.leaf zM_204)) (.branch 206 (.leaf zM_205) (.leaf zM_206))))) (.branch 215 (.branch 211 (.branch 209 (.branch 208 (.leaf zM_207) (.leaf zM_208)) (.branch 210 (.leaf zM_209) (.leaf zM_210))) (.branch 213 (.branch 212 (.leaf zM_211) (.leaf zM_212)) (.branch 214 (.leaf zM_213) (.leaf zM_214)))) (.branch 219 (.branch 217 (.branch 216 (.leaf zM_215) (.leaf zM_216)) (.branch 218 (.leaf zM_217) (.leaf zM_218))) (.branch 221 (.branch 220 (.leaf zM_219) (.leaf zM_220)) (.branch 222 (.leaf zM_221) (.leaf zM_222)))))) (.branch 239 (.branch 231 (.branch 227 (.branch 225 (.branch 224 (.leaf zM_223) (.leaf zM_224)) (.branch 226 (.leaf zM_225) (.leaf zM_226))) (.branch 229 (.branch 228 (.leaf zM_227) (.leaf zM_228)) (.branch 230 (.leaf zM_229) (.leaf zM_230)))) (.branch 235 (.branch 233 (.branch 232 (.leaf zM_231) (.leaf zM_232)) (.branch 234 (.leaf zM_233) (.leaf zM_234))) (.branch 237 (.branch 236 (.leaf zM_235) (.leaf zM_236)) (.branch 238 (.leaf zM_237) (.leaf zM_238))))) (.branch 247 (.branch 243 (.branch 241 (.branch 240 (.leaf zM_239) (.leaf zM_240)) (.branch 242 (.leaf zM_241) (.leaf zM_242))) (.branch 245 (.branch 244 (.leaf zM_243) (.leaf zM_244)) (.branch 246 (.leaf zM_245) (.leaf zM_246)))) (.branch 251 (.branch 249 (.branch 248 (.leaf zM_247) (.leaf zM_248)) (.branch 250 (.leaf zM_249) (.leaf zM_250))) (.branch 253 (.branch 252 (.leaf zM_251) (.leaf zM_252)) (.branch 254 (.leaf zM_253) (.leaf zM_254)))))))))
def zM (j : Nat) : zMt := zMr.get j
def zDt : Lean.RArray (List Value) := (.branch 5 (.branch 2 (.branch 1 (.leaf [.null, .null, .null, .null, .null, .int 0, .int 0, .int 0, .int 0, .int 0, .int 0, .int 0]) (.leaf [.null, .null, .null, .null, .null, .null, .null, .int 0, .int 0, .int 0, .int 0, .int 0, .int 0])) (.branch 3 (.leaf [.null, .null, .int 0]) (.branch 4 (.leaf [.null, .null, .null, .null, .int 0, .int 0, .int 0]) (.leaf [.null, .null, .int 0, .int 0, .int 0, .int 0, .int 0, .int 0])))) (.branch 8 (.branch 6 (.leaf [.null, .null, .null, .null, .null]) (.branch 7 (.leaf [.null, .int 0]) (.leaf [.null, .null, .null, .null, .int 0, .int 0, .int 0, .int 0]))) (.branch 9 (.leaf [.null, .null, .null, .null, .null, .null]) (.branch 10 (.leaf [.null, .null, .null, .null, .null, .null, .null]) (.leaf [.int 0, .null, .int 0, .null, .null, .null, .null, .int 0, .int 0, .int 0, .int 0, .int 0, .int 0, .int 0, .int 0, .int 0, .int 0, .int 0, .int 0, .int 0, .null, .null, .null, .null, .null, .null, .null, .null, .null, .null, .null, .null, .null, .null, .int 0, .null, .null, .null, .null, .int 0, .null, .int 0, .int 0, .int 0, .null])))))
def zD (c : Nat) : List Value := zDt.get c
def zcnt : Lean.RArray String := (.branch 6 (.branch 3 (.branch 1 (.leaf RX0) (.branch 2 (.leaf RX1) (.leaf RX2))) (.branch 4 (.leaf RX3) (.branch 5 (.leaf RX4) (.leaf RX5)))) (.branch 9 (.branch 7 (.leaf RX6) (.branch 8 (.leaf RX7) (.leaf RX8))) (.branch 11 (.branch 10 (.leaf RX9) (.leaf RX10)) (.branch 12 (.leaf RJ13) (.leaf RJ7)))))
def zcn (c : Nat) : String := zcnt.get c
def zLF : List (Nat × Nat × Nat × Nat) := [(9, 10, 9, 0), (9, 19, 9, 1), (9, 23, 9, 2), (9, 31, 9, 3), (9, 40, 9, 4), (9, 49, 9, 5), (9, 56, 9, 6), (0, 12, 0, 0), (0, 18, 0, 1), (0, 21, 0, 2), (0, 30, 0, 3), (0, 35, 0, 4), (0, 36, 0, 5), (0, 40, 0, 6), (0, 43, 0, 8), (0, 67, 0, 7), (0, 74, 0, 11), (0, 94, 0, 9), (0, 97, 0, 10), (1, 9, 1, 0), (1, 15, 1, 1), (1, 18, 1, 2), (1, 21, 1, 3), (1, 24, 1, 4), (1, 27, 1, 5), (1, 30, 1, 6), (1, 33, 1, 10), (1, 37, 1, 11), (1, 40, 1, 7), (1, 43, 1, 8), (1, 46, 1, 9), (1, 49, 1, 12), (2, 9, 2, 0), (2, 15, 2, 1), (2, 24, 2, 2), (3, 12, 3, 0), (3, 21, 3, 1), (3, 25, 3, 2), (3, 35, 3, 3), (3, 87, 3, 4), (3, 90, 3, 5), (3, 93, 3, 6), (4, 9, 4, 6), (4, 20, 4, 0), (4, 24, 4, 1), (4, 32, 4, 5), (4, 35, 4, 7), (4, 41, 4, 3), (4, 53, 4, 2), (4, 63, 4, 4), (5, 12, 5, 0), (5, 21, 5, 1), (5, 25, 5, 2), (5, 28, 5, 3), (5, 32, 5, 4), (6, 9, 6, 0), (6, 15, 6, 1), (7, 9, 7, 0), (7, 15, 7, 1), (7, 18, 7, 2), (7, 21, 7, 3), (7, 40, 7, 5), (7, 43, 7, 6), (7, 46, 7, 4), (7, 50, 7, 7), (8, 9, 8, 0), (8, 15, 8, 1), (8, 18, 8, 2), (8, 21, 8, 3), (8, 24, 8, 4), (8, 27, 8, 5), (10, 7, 10, 1), (10, 13, 10, 3), (10, 16, 10, 4), (10, 19, 10, 5), (10, 22, 10, 6), (10, 25, 10, 16), (10, 29, 10, 20), (10, 32, 10, 21), (10, 36, 10, 22), (10, 39, 10, 23), (10, 42, 10, 24), (10, 45, 10, 25), (10, 48, 10, 26), (10, 51, 10, 27), (10, 54, 10, 28), (10, 57, 10, 29), (10, 60, 10, 30), (10, 63, 10, 31), (10, 66, 10, 32), (10, 69, 10, 33), (10, 72, 10, 35), (10, 75, 10, 36), (10, 78, 10, 37), (10, 81, 10, 38), (10, 84, 10, 40), (10, 87, 10, 44), (10, 96, 10, 0), (10, 99, 10, 2), (10, 102, 10, 8), (10, 105, 10, 7), (10, 112, 10, 9), (10, 115, 10, 10), (10, 122, 10, 12), (10, 128, 10, 11), (10, 145, 10, 13), (10, 148, 10, 14), (10, 171, 10, 17), (10, 190, 10, 19), (10, 198, 10, 15), (10, 201, 10, 18), (10, 220, 10, 34), (10, 307, 10, 39), (10, 326, 10, 41), (10, 329, 10, 43), (10, 332, 10, 42)]
def zLFn : List (Nat × Nat × Nat × Nat) := [(9, 68, 6, 1), (9, 95, 4, 7), (9, 98, 4, 5), (9, 101, 4, 6), (9, 121, 1, 2), (9, 125, 1, 3), (9, 128, 1, 4), (9, 131, 1, 5), (9, 134, 5, 3), (9, 137, 5, 0), (9, 191, 1, 9), (9, 210, 0, 7), (9, 213, 0, 8), (9, 219, 0, 11), (9, 222, 0, 9), (9, 225, 0, 10), (9, 264, 3, 6), (9, 267, 3, 4), (9, 270, 3, 5), (9, 297, 1, 7), (9, 300, 1, 8), (9, 307, 1, 10), (9, 310, 1, 11), (0, 24, 5, 4), (0, 31, 5, 0), (0, 50, 2, 2), (0, 59, 2, 1), (2, 18, 1, 9), (2, 25, 1, 2), (3, 29, 5, 4), (3, 36, 5, 0), (3, 39, 2, 2), (3, 54, 2, 1), (3, 58, 1, 2), (3, 70, 5, 3), (3, 77, 2, 0), (3, 99, 1, 3), (4, 50, 7, 4), (4, 56, 7, 0), (4, 60, 7, 2), (4, 66, 7, 1), (4, 85, 1, 7), (4, 97, 1, 8), (4, 110, 1, 12), (4, 114, 1, 10), (4, 117, 1, 11), (4, 120, 1, 9), (5, 46, 2, 2), (5, 50, 2, 1), (5, 118, 1, 3), (5, 121, 1, 4), (7, 25, 6, 1), (7, 61, 6, 0), (8, 58, 1, 4), (8, 63, 1, 3), (8, 74, 1, 5), (8, 87, 1, 10), (8, 91, 1, 11), (8, 104, 1, 6)]
def zLM : List (Nat × Nat × Nat × Nat) := [(0, 63, 6, 0), (0, 70, 7, 0), (0, 77, 4, 0), (0, 90, 5, 0), (1, 53, 254, 1), (1, 65, 18, 0), (1, 69, 17, 0), (1, 73, 11, 0), (1, 77, 20, 0), (3, 102, 36, 0), (3, 43, 30, 0), (3, 78, 34, 0), (4, 100, 49, 0), (4, 103, 48, 0), (4, 121, 46, 0), (4, 125, 47, 0), (4, 38, 39, 0), (4, 44, 40, 0), (4, 47, 41, 0), (4, 69, 42, 0), (4, 72, 43, 0), (4, 75, 44, 0), (4, 78, 45, 0), (4, 81, 50, 0), (5, 53, 53, 0), (5, 64, 54, 0), (5, 67, 56, 0), (5, 88, 253, 1), (7, 47, 75, 0), (7, 53, 76, 0), (7, 57, 74, 0), (7, 65, 79, 0), (7, 69, 77, 0), (7, 72, 80, 0), (7, 75, 78, 0), (7, 78, 81, 0), (8, 101, 90, 0), (8, 105, 99, 0), (8, 109, 100, 0), (8, 113, 87, 0), (8, 116, 101, 0), (8, 119, 102, 0), (8, 122, 91, 0), (8, 125, 92, 0), (8, 128, 104, 0), (8, 132, 253, 1), (8, 138, 111, 0), (8, 30, 254, 1), (8, 42, 88, 0), (8, 46, 85, 0), (8, 50, 89, 0), (8, 54, 94, 0), (8, 66, 98, 0), (8, 70, 86, 0), (8, 77, 95, 0), (8, 80, 97, 0), (8, 83, 96, 0), (8, 94, 103, 0), (9, 155, 149, 1), (9, 158, 150, 1), (9, 174, 153, 1), (9, 178, 152, 0), (9, 245, 151, 0), (9, 79, 116, 0), (10, 108, 156, 0), (10, 118, 157, 1), (10, 125, 160, 0), (10, 131, 158, 1), (10, 151, 159, 0), (10, 154, 161, 0), (10, 158, 162, 0), (10, 161, 164, 0), (10, 164, 165, 0), (10, 167, 163, 0), (10, 175, 169, 0), (10, 178, 170, 0), (10, 181, 166, 0), (10, 184, 167, 0), (10, 187, 168, 0), (10, 194, 171, 0), (10, 204, 178, 0), (10, 207, 173, 0), (10, 211, 210, 0), (10, 214, 180, 0), (10, 217, 181, 0), (10, 223, 183, 0), (10, 226, 186, 0), (10, 230, 185, 0), (10, 234, 188, 0), (10, 237, 190, 0), (10, 241, 189, 0), (10, 245, 187, 0), (10, 248, 191, 0), (10, 251, 194, 0), (10, 255, 193, 0), (10, 259, 195, 0), (10, 262, 196, 0), (10, 265, 197, 0), (10, 268, 184, 0), (10, 271, 192, 0), (10, 274, 182, 0), (10, 277, 198, 0), (10, 280, 199, 0), (10, 283, 203, 0), (10, 286, 204, 0), (10, 289, 205, 1), (10, 292, 206, 1), (10, 295, 200, 0), (10, 298, 201, 0), (10, 301, 207, 0), (10, 304, 212, 0), (10, 310, 214, 0), (10, 313, 216, 0), (10, 316, 219, 0), (10, 319, 222, 0), (10, 323, 224, 0), (10, 335, 226, 0), (10, 338, 229, 0), (10, 341, 232, 0), (10, 344, 235, 0), (10, 347, 236, 1), (10, 351, 238, 0), (10, 354, 241, 0), (10, 358, 248, 0), (10, 361, 252, 0), (10, 90, 172, 0), (10, 93, 174, 0)]
def zLMn : List (Nat × Nat × Nat × Nat) := [(0, 100, 27, 0), (0, 104, 93, 0), (0, 11, 82, 2), (0, 47, 83, 0), (0, 55, 84, 0), (3, 11, 82, 2), (3, 20, 23, 2), (3, 47, 91, 0), (3, 51, 83, 0), (3, 63, 93, 0), (3, 67, 26, 0), (3, 73, 24, 0), (3, 81, 25, 0), (3, 84, 27, 0), (3, 96, 94, 0), (4, 106, 15, 0), (4, 128, 16, 0), (4, 17, 72, 2), (4, 28, 73, 0), (4, 90, 13, 0), (4, 94, 14, 0), (5, 103, 88, 0), (5, 107, 85, 0), (5, 11, 23, 2), (5, 111, 107, 0), (5, 115, 104, 0), (5, 20, 82, 2), (5, 36, 24, 0), (5, 40, 25, 0), (5, 43, 83, 0), (5, 57, 27, 0), (5, 60, 93, 0), (5, 71, 84, 0), (5, 75, 91, 0), (5, 78, 22, 0), (5, 84, 105, 0), (5, 94, 17, 0), (8, 97, 17, 0), (9, 104, 11, 0), (9, 107, 17, 0), (9, 111, 12, 0), (9, 141, 26, 0), (9, 147, 20, 0), (9, 161, 55, 0), (9, 165, 109, 0), (9, 170, 104, 0), (9, 18, 8, 2), (9, 181, 105, 0), (9, 184, 110, 0), (9, 187, 59, 0), (9, 192, 56, 0), (9, 195, 91, 0), (9, 198, 57, 0), (9, 201, 29, 0), (9, 204, 58, 0), (9, 207, 2, 0), (9, 216, 3, 0), (9, 228, 64, 0), (9, 232, 65, 0), (9, 236, 66, 0), (9, 239, 67, 0), (9, 242, 108, 0), (9, 248, 60, 0), (9, 251, 61, 0), (9, 254, 31, 0), (9, 257, 32, 0), (9, 261, 35, 0), (9, 273, 106, 0), (9, 276, 33, 0), (9, 279, 63, 0), (9, 28, 37, 2), (9, 283, 62, 0), (9, 286, 68, 0), (9, 289, 92, 0), (9, 303, 21, 0), (9, 37, 51, 2), (9, 46, 28, 2), (9, 55, 0, 2), (9, 60, 70, 0), (9, 64, 71, 0), (9, 72, 9, 0), (9, 75, 38, 0), (9, 83, 10, 0), (9, 86, 19, 0), (9, 89, 52, 0), (9, 9, 69, 2), (9, 92, 1, 0)]
def zLa : List (Nat × Nat) := [(1, 59), (2, 26), (8, 36)]
def zLo : List (Nat × Nat) := [(0, 3), (1, 3), (2, 3), (3, 3), (4, 3), (5, 3), (6, 3), (7, 3), (8, 3), (9, 1), (10, 1)]
def zLx : List (Nat × Nat) := [(0, 87), (1, 80), (5, 98), (7, 37), (9, 292)]
def zLn : List (Nat × Nat) := [(0, 81), (7, 31)]
def zLw : List (Nat × Nat × Nat) := [(9, 7, 6), (9, 16, 1), (9, 26, 4), (9, 35, 5), (9, 44, 3), (9, 53, 0), (0, 9, 8), (3, 9, 8), (3, 18, 2), (4, 15, 7), (5, 9, 2), (5, 18, 8)]
def zLi : List (Nat × Nat × Nat) := [(7, 81, 100000), (10, 193, 100000)]
def zLl : List (Nat × Nat × Nat) := [(11, 314, 6148914691236517205), (11, 316, 3689348814741910323), (11, 318, 1085102592571150095)]
end
section
/-- a place of a list, by the recursor itself: the kernel walks it in few steps -/
noncomputable def mzNq {α : Type} (l : List α) : Nat → Option α := List.rec (motive := fun _ => Nat → Option α) (fun _ => none) (fun a _ ih n => Nat.rec (motive := fun _ => Option α) (some a) (fun m _ => ih m) n) l
theorem mzNq_eq {α : Type} : ∀ (l : List α) (n : Nat), mzNq l n = l[n]?
  | [], n => by rw [List.getElem?_nil]; rfl
  | a :: l, 0 => rfl
  | a :: l, n + 1 => by rw [List.getElem?_cons_succ, ← mzNq_eq l n]; rfl
def mzSet {α : Type} : List α → Nat → α → List α
  | [], _, _ => []
  | _ :: l, 0, b => b :: l
  | a :: l, n + 1, b => a :: mzSet l n b
theorem mzSet_eq {α : Type} : ∀ (l : List α) (n : Nat) (b : α), mzSet l n b = l.set n b
  | [], n, b => by simp [mzSet]
  | a :: l, 0, b => by simp [mzSet]
  | a :: l, n + 1, b => by simp [mzSet, mzSet_eq l n b]
/-- a place set, the list laid out anew before the way on -/
noncomputable def mzSetK {α β : Type} (l : List α) (n : Nat) (b : α) (k : List α → β) : β := List.rec (motive := fun _ => Nat → (List α → β) → β) (fun _ k => k []) (fun a l ih n k => Nat.rec (motive := fun _ => β) (k (b :: l)) (fun m _ => ih m (fun x => k (a :: x))) n) l n k
theorem mzSetK_eq {α β : Type} : ∀ (l : List α) (n : Nat) (b : α) (k : List α → β), mzSetK l n b k = k (l.set n b)
  | [], n, b, k => rfl
  | a :: l, 0, b, k => rfl
  | a :: l, n + 1, b, k => mzSetK_eq l n b (fun x => k (a :: x))
noncomputable def mzGet (i : Nat) (l : mzL) : Option Value := List.rec (motive := fun _ => Option Value) none (fun q _ ih => Bool.rec (motive := fun _ => Option Value) ih (some q.2) (Nat.beq q.1 i)) l
theorem mzGet_cons (i k : Nat) (v : Value) (r : mzL) : mzGet i ((k, v) :: r) = bif Nat.beq k i then some v else mzGet i r := by
  show Bool.rec (motive := fun _ => Option Value) (mzGet i r) (some v) (Nat.beq k i) = _
  cases Nat.beq k i <;> rfl
theorem mzGet_mem : ∀ {i : Nat} {l : mzL} {v : Value}, mzGet i l = some v → (i, v) ∈ l
  | i, [], v, h => by cases h
  | i, (k, w) :: r, v, h => by
    rw [mzGet_cons] at h
    cases e : Nat.beq k i with
    | true =>
      rw [e] at h
      have hk : k = i := Nat.eq_of_beq_eq_true e
      simp only [cond_true, Option.some.injEq] at h
      subst hk; subst h
      exact List.mem_cons_self
    | false =>
      rw [e] at h
      simp only [cond_false] at h
      exact List.mem_cons_of_mem _ (mzGet_mem h)
noncomputable def mzFl1 (i : Nat) (l : mzL) : mzL := List.rec (motive := fun _ => mzL) [] (fun q _ ih => Bool.rec (motive := fun _ => mzL) (q :: ih) ih (Nat.beq q.1 i || (Nat.beq (q.1 + 1) i && Nat.beq q.2.category 2))) l
theorem mzFl1_cons (i k : Nat) (v : Value) (r : mzL) : mzFl1 i ((k, v) :: r) = bif Nat.beq k i || (Nat.beq (k + 1) i && Nat.beq v.category 2) then mzFl1 i r else (k, v) :: mzFl1 i r := by
  show Bool.rec (motive := fun _ => mzL) ((k, v) :: mzFl1 i r) (mzFl1 i r) (Nat.beq k i || (Nat.beq (k + 1) i && Nat.beq v.category 2)) = _
  cases (Nat.beq k i || (Nat.beq (k + 1) i && Nat.beq v.category 2)) <;> rfl
def mzFl2 (i : Nat) : mzL → mzL
  | [] => []
  | (k, v) :: r => bif Nat.beq k i || (Nat.beq k (i + 1) || (Nat.beq (k + 1) i && Nat.beq v.category 2)) then mzFl2 i r else (k, v) :: mzFl2 i r
theorem z_beq (a b : Nat) : Nat.beq a b = (a == b) := by rw [Bool.eq_iff_iff, beq_iff_eq]; exact ⟨Nat.eq_of_beq_eq_true, fun h => h ▸ Nat.beq_refl a⟩
theorem mzFl1_eq (i : Nat) : ∀ l : mzL, mzFl1 i l = l.filter (fun q => !(q.1 == i) && !(q.1 + 1 == i && q.2.category == 2))
  | [] => rfl
  | (k, v) :: r => by
    rw [mzFl1_cons, List.filter_cons, mzFl1_eq i r, z_beq, z_beq, z_beq]
    cases (k == i) <;> cases (k + 1 == i) <;> cases (v.category == 2) <;> rfl
theorem mzFl2_eq (i : Nat) : ∀ l : mzL, mzFl2 i l = l.filter (fun q => !(q.1 == i) && (!(q.1 == i + 1) && !(q.1 + 1 == i && q.2.category == 2)))
  | [] => rfl
  | (k, v) :: r => by
    unfold mzFl2
    rw [List.filter_cons, mzFl2_eq i r, z_beq, z_beq, z_beq, z_beq]
    cases (k == i) <;> cases (k == i + 1) <;> cases (k + 1 == i) <;> cases (v.category == 2) <;> rfl
noncomputable def mzSt1 (i : Nat) (v : Value) (lv : mzL) : mzL := (i, v) :: mzFl1 i lv
def mzSt2 (i : Nat) (v : Value) (lv : mzL) : mzL := (i, v) :: mzFl2 i lv
/-- an int's place on the line from 0 on: comparisons by numbers -/
def mzN (a : Int32) : Nat := a.toUInt32.toBitVec.toNat
def mzZ (a : Int32) : Nat := Nat.mod (Nat.add (mzN a) 2147483648) 4294967296
theorem mzZ_eq (a : Int32) : (mzZ a : Int) = a.toInt + 2147483648 := by
  have h : mzN a = a.toBitVec.toNat := rfl
  have h2 : a.toInt = a.toBitVec.toInt := rfl
  have h3 := a.toBitVec.isLt
  have e : mzZ a = (mzN a + 2147483648) % 4294967296 := rfl
  rw [e, h, h2, BitVec.toInt_eq_toNat_cond]
  split <;> omega
def mzLt (a b : Int32) : Bool := Nat.blt (mzZ a) (mzZ b)
def mzEq (a b : Int32) : Bool := Nat.beq (mzZ a) (mzZ b)
theorem mzLt_eq (a b : Int32) : mzLt a b = decide (a < b) := by
  have h1 := mzZ_eq a
  have h2 := mzZ_eq b
  rw [Bool.eq_iff_iff]
  unfold mzLt
  rw [Nat.blt_eq, decide_eq_true_eq, Int32.lt_iff_toInt_lt]
  omega
theorem mzEq_eq (a b : Int32) : mzEq a b = decide (a = b) := by
  have h1 := mzZ_eq a
  have h2 := mzZ_eq b
  rw [Bool.eq_iff_iff]
  unfold mzEq
  rw [decide_eq_true_eq, ← Int32.toInt_inj]
  exact ⟨fun h => by have := Nat.eq_of_beq_eq_true h; omega, fun h => by rw [show mzZ a = mzZ b by omega]; exact Nat.beq_refl _⟩
def mzWd (st : List Value) : Nat := (st.map fun v => v.category).sum
def mzNo : mzK := fun _ _ _ _ _ => none
def mzPush (v : Value) (k : mzK) : mzK := fun lv st H c s => k lv (v :: st) H c s
noncomputable def mzIld (i : Nat) (k : mzK) : mzK := fun lv st H c s => match mzGet i lv with
  | some (.int v) => k lv (.int v :: st) H c s
  | _ => none
noncomputable def mzLld (i : Nat) (k : mzK) : mzK := fun lv st H c s => match mzGet i lv with
  | some (.long v) => k lv (.long v :: st) H c s
  | _ => none
noncomputable def mzAld (i : Nat) (k : mzK) : mzK := fun lv st H c s => match mzGet i lv with
  | some (.ref v) => k lv (.ref v :: st) H c s
  | _ => none
noncomputable def mzIst (n i : Nat) (k : mzK) : mzK := fun lv st H c s => match st with
  | .int v :: r => bif Nat.blt i n then k (mzSt1 i (.int v) lv) r H c s else none
  | _ => none
noncomputable def mzAst (n i : Nat) (k : mzK) : mzK := fun lv st H c s => match st with
  | .ref v :: r => bif Nat.blt i n then k (mzSt1 i (.ref v) lv) r H c s else none
  | _ => none
noncomputable def mzLst (n i : Nat) (k : mzK) : mzK := fun lv st H c s => match st with
  | .long v :: r => bif Nat.blt (i + 1) n then k (mzSt2 i (.long v) lv) r H c s else none
  | _ => none
noncomputable def mzInc (n i : Nat) (d : Int) (k : mzK) : mzK := fun lv st H c s => match mzGet i lv with
  | some (.int v) => bif Nat.blt i n then k (mzSt1 i (.int (v + Int32.ofInt d)) lv) st H c s else none
  | _ => none
def mzI2 (g : Int32 → Int32 → Int32) (k : mzK) : mzK := fun lv st H c s => match st with
  | .int b :: .int a :: r => k lv (.int (g a b) :: r) H c s
  | _ => none
def mzRem (k : mzK) : mzK := fun lv st H c s => match st with
  | .int b :: .int a :: r => bif decide (b = 0) then none else k lv (.int (a - a / b * b) :: r) H c s
  | _ => none
def mzL2 (g : Int64 → Int64 → Int64) (k : mzK) : mzK := fun lv st H c s => match st with
  | .long b :: .long a :: r => k lv (.long (g a b) :: r) H c s
  | _ => none
def mzLsh (g : Int64 → Int32 → Int64) (k : mzK) : mzK := fun lv st H c s => match st with
  | .int b :: .long a :: r => k lv (.long (g a b) :: r) H c s
  | _ => none
def mzLcmp (k : mzK) : mzK := fun lv st H c s => match st with
  | .long b :: .long a :: r => k lv (.int (lg_cmp a b) :: r) H c s
  | _ => none
def mzI1 (g : Int32 → Value) (k : mzK) : mzK := fun lv st H c s => match st with
  | .int a :: r => k lv (g a :: r) H c s
  | _ => none
def mzL1 (g : Int64 → Value) (k : mzK) : mzK := fun lv st H c s => match st with
  | .long a :: r => k lv (g a :: r) H c s
  | _ => none
def mzDup (k : mzK) : mzK := fun lv st H c s => match st with
  | a :: r => bif Nat.beq a.category 1 then k lv (a :: a :: r) H c s else none
  | _ => none
def mzDup2 (k : mzK) : mzK := fun lv st H c s => match st with
  | a :: b :: r => bif Nat.beq a.category 1 && Nat.beq b.category 1 then k lv (a :: b :: a :: b :: r) H c s else none
  | _ => none
def mzPop (k : mzK) : mzK := fun lv st H c s => match st with
  | a :: r => bif Nat.beq a.category 1 then k lv r H c s else none
  | _ => none
def mzCnd (q : ClassFile.Cond) (a b : Int32) : Bool := match q with
  | .eq => mzEq a b
  | .ne => !mzEq a b
  | .lt => mzLt a b
  | .ge => !mzLt a b
  | .gt => mzLt b a
  | .le => !mzLt b a
theorem mzCnd_eq (q : ClassFile.Cond) (a b : Int32) : mzCnd q a b = (match q with
  | .eq => decide (a = b)
  | .ne => !decide (a = b)
  | .lt => decide (a < b)
  | .ge => decide (b ≤ a)
  | .gt => decide (b < a)
  | .le => decide (a ≤ b)) := by
  cases q
  · exact mzEq_eq a b
  · show (!mzEq a b) = _; rw [mzEq_eq]
  · exact mzLt_eq a b
  · show (!mzLt a b) = _; rw [mzLt_eq, ← decide_not]; exact decide_eq_decide.mpr Int32.not_lt
  · exact mzLt_eq b a
  · show (!mzLt b a) = _; rw [mzLt_eq, ← decide_not]; exact decide_eq_decide.mpr Int32.not_lt
def mzIf (q : ClassFile.Cond) (kt kf : mzK) : mzK := fun lv st H c s => match st with
  | .int a :: r => bif mzCnd q a 0 then kt lv r H c s else kf lv r H c s
  | _ => none
def mzIf2 (q : ClassFile.Cond) (kt kf : mzK) : mzK := fun lv st H c s => match st with
  | .int b :: .int a :: r => bif mzCnd q a b then kt lv r H c s else kf lv r H c s
  | _ => none
noncomputable def mzSw (lo hi : Int) (ts : List Nat) (kd : mzK) (kt : Nat → mzK) : mzK := fun lv st H c s => match st with
  | .int a :: r => bif decide (a.toInt < lo) || decide (hi < a.toInt) then kd lv r H c s else match mzNq ts (a.toInt - lo).toNat with
    | some b => kt b lv r H c s
    | none => none
  | _ => none
noncomputable def mzGf (ci f : Nat) (k : mzK) : mzK := fun lv st H c s => match st with
  | .ref a :: r => (match mzNq H a with
    | some (.inr (d, fs)) => bif Nat.beq d ci then (match mzNq fs f with
      | some v => k lv (v :: r) H c s
      | none => none) else none
    | _ => none)
  | _ => none
/-- may the value stand in a field: 0 an int, 1 a boolean, else a reference -/
def mzFit (t : Nat) (v : Value) : Bool := match t, v with
  | 0, .int _ => true
  | 1, .int b => decide (b = 0) || decide (b = 1)
  | 2, .ref _ => true
  | _, _ => false
noncomputable def mzPf (ci f t : Nat) (k : mzK) : mzK := fun lv st H c s => match st with
  | v :: .ref a :: r => (match mzNq H a with
    | some (.inr (d, fs)) => bif Nat.beq d ci && (Nat.blt f fs.length && mzFit t v) then mzSetK fs f v (fun gs => mzSetK H a (.inr (d, gs)) (fun G => k lv r G c s)) else none
    | _ => none)
  | _ => none
noncomputable def mzIx (l : List Int32) (i : Int32) : Option Int32 := bif Nat.blt (mzN i) 2147483648 then mzNq l (mzN i) else none
theorem mzN_eq {i : Int32} (h : Nat.blt (mzN i) 2147483648 = true) : ¬ i < 0 ∧ mzN i = i.toNatClampNeg := by
  have h1 := Nat.blt_eq.mp h
  have h2 := mzZ_eq i
  have e : mzZ i = (mzN i + 2147483648) % 4294967296 := rfl
  have e2 : i.toNatClampNeg = i.toInt.toNat := rfl
  rw [Int32.lt_iff_toInt_lt, Int32.toInt_zero, e2]
  omega
theorem mzN_ge {i : Int32} (h : 0 ≤ i.toInt) : Nat.blt (mzN i) 2147483648 = true ∧ mzN i = i.toNatClampNeg := by
  have h2 := mzZ_eq i
  have h3 : mzN i < 4294967296 := i.toUInt32.toBitVec.isLt
  have e : mzZ i = (mzN i + 2147483648) % 4294967296 := rfl
  have e2 : i.toNatClampNeg = i.toInt.toNat := rfl
  have h4 := Int32.toInt_lt i
  rw [Nat.blt_eq, e2]
  omega
noncomputable def mzAl (b : Bool) (k : mzK) : mzK := fun lv st H c s => match st with
  | .int i :: .ref a :: r => (match mzNq H a with
    | some (.inl (d, l)) => bif Bool.xor b (Nat.beq d 0) then (match mzIx l i with
      | some v => k lv (.int v :: r) H c s
      | none => none) else none
    | _ => none)
  | _ => none
def mzTy (d : Nat) : FieldType := match d with
  | 0 => .int
  | 1 => .boolean
  | _ => .byte
noncomputable def mzAs (b : Bool) (k : mzK) : mzK := fun lv st H c s => match st with
  | .int x :: .int i :: .ref a :: r => (match mzNq H a with
    | some (.inl (d, l)) => bif Bool.xor b (Nat.beq d 0) then (match mzIx l i with
      | some _ => mzSetK l (mzN i) (vp_nar (mzTy d) x) (fun m => mzSetK H a (.inl (d, m)) (fun G => k lv r G c s))
      | none => none) else none
    | _ => none)
  | _ => none
noncomputable def mzLen (k : mzK) : mzK := fun lv st H c s => match st with
  | .ref a :: r => (match mzNq H a with
    | some (.inl (_, l)) => k lv (.int (Int32.ofNat l.length) :: r) H c s
    | _ => none)
  | _ => none
def mzNewa (d : Nat) (k : mzK) : mzK := fun lv st H c s => match st with
  | .int n :: r => bif decide (n < 0) then none else bif Nat.ble 1 c && (Nat.ble n.toNatClampNeg s && Nat.ble n.toNatClampNeg 65536) then k lv (.ref H.length :: r) (H ++ [.inl (d, List.replicate n.toNatClampNeg 0)]) (c - 1) (s - n.toNatClampNeg) else none
  | _ => none
def mzNew (ci : Nat) (fs : List Value) (k : mzK) : mzK := fun lv st H c s => bif Nat.ble 1 c && Nat.ble fs.length s then k lv (.ref H.length :: st) (H ++ [.inr (ci, fs)]) (c - 1) (s - fs.length) else none
noncomputable def mzRcv (na ci : Nat) (st : List Value) (H : mzH) : Bool := match mzNq st (na - 1) with
  | some (.ref a) => (match mzNq H a with
    | some (.inr (d, _)) => Nat.beq d ci
    | _ => false)
  | _ => false
def mzInv (g : List Value → mzH → Bool) (nl : Nat) (callee : mzK) (na mc ms : Nat) (k : mzK) : mzK := fun lv st H c s =>
  bif g st H && (Nat.ble na st.length && (Nat.ble (mzWd (st.drop na)) 8 && (Nat.ble mc c && (Nat.ble ms s && Nat.ble (mzWd (st.take na)) nl)))) then
    (match callee (lv_args 0 (st.take na).reverse) [] H mc ms with
    | some (o, H1) => k lv (o.toList ++ st.drop na) H1 (c - mc) (s - ms)
    | none => none) else none
def mzCpy (f g : List Int32) (sp dp n : Nat) : List Int32 := g.take dp ++ ((f.drop sp).take n ++ g.drop (dp + n))
noncomputable def mzAcp (k : mzK) : mzK := fun lv st H c s => match st with
  | .int n :: .int dp :: .ref a :: .int sp :: .ref a0 :: r => (match mzNq H a0, mzNq H a with
    | some (.inl (0, f)), some (.inl (0, g)) => bif decide (sp < 0) || (decide (dp < 0) || decide (n < 0)) then none else
        bif Nat.ble (sp.toNatClampNeg + n.toNatClampNeg) f.length && (Nat.ble (dp.toNatClampNeg + n.toNatClampNeg) g.length && Nat.ble (mzWd r) 8) then mzSetK H a (.inl (0, mzCpy f g sp.toNatClampNeg dp.toNatClampNeg n.toNatClampNeg)) (fun G => k lv r G c s) else none
    | _, _ => none)
  | _ => none
def mzMm (g : Int32 → Int32 → Int32) (k : mzK) : mzK := fun lv st H c s => match st with
  | .int b :: .int a :: r => bif Nat.ble (mzWd r) 8 then k lv (.int (g a b) :: r) H c s else none
  | _ => none
def mzObi (k : mzK) : mzK := fun lv st H c s => match st with
  | .ref _ :: r => bif Nat.ble (mzWd r) 8 then k lv r H c s else none
  | _ => none
def mzIret (b : Nat) : mzK := fun _ st H _ _ => match st with
  | [.int v] => (match b with
    | 0 => some (some (.int v), H)
    | _ => bif decide (v = 0) || decide (v = 1) then some (some (.int v), H) else none)
  | _ => none
def mzLret : mzK := fun _ st H _ _ => match st with
  | [.long v] => some (some (.long v), H)
  | _ => none
def mzAret : mzK := fun _ st H _ _ => match st with
  | [.ref v] => some (some (.ref v), H)
  | _ => none
def mzVret : mzK := fun _ st H _ _ => match st with
  | [] => some (none, H)
  | _ => none
/-- a handler: how an instruction goes on. Each is closed, so that a step costs the kernel little -/
abbrev mzHd : Type := (Nat → mzB → List mzO → mzK) → Nat → mzB → Nat → Nat → List Nat → List mzO → mzK
def mhNo : mzHd := fun _ _ _ _ _ _ _ => mzNo
noncomputable def mh_nop : mzHd := fun ih nL bl x y ts r => ih nL bl (mzBlk bl x)
noncomputable def mh_iconst (n : Int) : mzHd := fun ih nL bl x y ts r => mzPush (.int (Int32.ofInt n)) (ih nL bl r)
noncomputable def mh_bipush (n : Int) : mzHd := fun ih nL bl x y ts r => mzPush (.int (Int8.ofInt n).toInt32) (ih nL bl r)
noncomputable def mh_sipush (n : Int) : mzHd := fun ih nL bl x y ts r => mzPush (.int (Int16.ofInt n).toInt32) (ih nL bl r)
noncomputable def mh_lconst (n : Fin 2) : mzHd := fun ih nL bl x y ts r => mzPush (.long (Int64.ofNat (n : Nat))) (ih nL bl r)
noncomputable def mh_ldc : mzHd := fun ih nL bl x y ts r => (match ts with | [_] => mzPush (.int (Int32.ofNat x)) (ih nL bl r) | _ => mzNo)
noncomputable def mh_ldc2_w : mzHd := fun ih nL bl x y ts r => (match ts with | [_] => mzPush (.long (Int64.ofNat x)) (ih nL bl r) | _ => mzNo)
noncomputable def mh_iload (k : Nat) : mzHd := fun ih nL bl x y ts r => mzIld k (ih nL bl r)
noncomputable def mh_iload_n (k : Fin 4) : mzHd := fun ih nL bl x y ts r => mzIld (k : Nat) (ih nL bl r)
noncomputable def mh_lload (k : Nat) : mzHd := fun ih nL bl x y ts r => mzLld k (ih nL bl r)
noncomputable def mh_lload_n (k : Fin 4) : mzHd := fun ih nL bl x y ts r => mzLld (k : Nat) (ih nL bl r)
noncomputable def mh_aload (k : Nat) : mzHd := fun ih nL bl x y ts r => mzAld k (ih nL bl r)
noncomputable def mh_aload_n (k : Fin 4) : mzHd := fun ih nL bl x y ts r => mzAld (k : Nat) (ih nL bl r)
noncomputable def mh_istore (k : Nat) : mzHd := fun ih nL bl x y ts r => mzIst nL k (ih nL bl r)
noncomputable def mh_istore_n (k : Fin 4) : mzHd := fun ih nL bl x y ts r => mzIst nL (k : Nat) (ih nL bl r)
noncomputable def mh_lstore (k : Nat) : mzHd := fun ih nL bl x y ts r => mzLst nL k (ih nL bl r)
noncomputable def mh_lstore_n (k : Fin 4) : mzHd := fun ih nL bl x y ts r => mzLst nL (k : Nat) (ih nL bl r)
noncomputable def mh_astore (k : Nat) : mzHd := fun ih nL bl x y ts r => mzAst nL k (ih nL bl r)
noncomputable def mh_astore_n (k : Fin 4) : mzHd := fun ih nL bl x y ts r => mzAst nL (k : Nat) (ih nL bl r)
noncomputable def mh_iinc (k : Nat) (d : Int) : mzHd := fun ih nL bl x y ts r => mzInc nL k d (ih nL bl r)
noncomputable def mh_iadd : mzHd := fun ih nL bl x y ts r => mzI2 (fun a b => a + b) (ih nL bl r)
noncomputable def mh_isub : mzHd := fun ih nL bl x y ts r => mzI2 (fun a b => a - b) (ih nL bl r)
noncomputable def mh_imul : mzHd := fun ih nL bl x y ts r => mzI2 (fun a b => a * b) (ih nL bl r)
noncomputable def mh_irem : mzHd := fun ih nL bl x y ts r => mzRem (ih nL bl r)
noncomputable def mh_iand : mzHd := fun ih nL bl x y ts r => mzI2 (fun a b => a &&& b) (ih nL bl r)
noncomputable def mh_ior : mzHd := fun ih nL bl x y ts r => mzI2 (fun a b => a ||| b) (ih nL bl r)
noncomputable def mh_ixor : mzHd := fun ih nL bl x y ts r => mzI2 (fun a b => a ^^^ b) (ih nL bl r)
noncomputable def mh_ishl : mzHd := fun ih nL bl x y ts r => mzI2 (fun a b => a <<< (b &&& 31)) (ih nL bl r)
noncomputable def mh_ishr : mzHd := fun ih nL bl x y ts r => mzI2 (fun a b => a >>> (b &&& 31)) (ih nL bl r)
noncomputable def mh_iushr : mzHd := fun ih nL bl x y ts r => mzI2 (fun a b => (a.toUInt32 >>> (b.toUInt32 &&& Int32.toUInt32 31)).toInt32) (ih nL bl r)
noncomputable def mh_ladd : mzHd := fun ih nL bl x y ts r => mzL2 (fun a b => a + b) (ih nL bl r)
noncomputable def mh_lsub : mzHd := fun ih nL bl x y ts r => mzL2 (fun a b => a - b) (ih nL bl r)
noncomputable def mh_land : mzHd := fun ih nL bl x y ts r => mzL2 (fun a b => a &&& b) (ih nL bl r)
noncomputable def mh_lor : mzHd := fun ih nL bl x y ts r => mzL2 (fun a b => a ||| b) (ih nL bl r)
noncomputable def mh_lshl : mzHd := fun ih nL bl x y ts r => mzLsh (fun a b => a <<< (b.toInt64 &&& 63)) (ih nL bl r)
noncomputable def mh_lushr : mzHd := fun ih nL bl x y ts r => mzLsh (fun a b => (a.toUInt64 >>> (b.toInt64.toUInt64 &&& Int64.toUInt64 63)).toInt64) (ih nL bl r)
noncomputable def mh_lcmp : mzHd := fun ih nL bl x y ts r => mzLcmp (ih nL bl r)
noncomputable def mh_i2l : mzHd := fun ih nL bl x y ts r => mzI1 (fun a => .long a.toInt64) (ih nL bl r)
noncomputable def mh_i2b : mzHd := fun ih nL bl x y ts r => mzI1 (fun a => .int a.toInt8.toInt32) (ih nL bl r)
noncomputable def mh_l2i : mzHd := fun ih nL bl x y ts r => mzL1 (fun a => .int a.toInt32) (ih nL bl r)
noncomputable def mh_dup : mzHd := fun ih nL bl x y ts r => mzDup (ih nL bl r)
noncomputable def mh_dup2 : mzHd := fun ih nL bl x y ts r => mzDup2 (ih nL bl r)
noncomputable def mh_pop : mzHd := fun ih nL bl x y ts r => mzPop (ih nL bl r)
noncomputable def mh_goto : mzHd := fun ih nL bl x y ts r => ih nL bl (mzBlk bl x)
noncomputable def mh_ifCond (q : ClassFile.Cond) : mzHd := fun ih nL bl x y ts r => mzIf q (ih nL bl (mzBlk bl x)) (ih nL bl r)
noncomputable def mh_if_icmp (q : ClassFile.Cond) : mzHd := fun ih nL bl x y ts r => mzIf2 q (ih nL bl (mzBlk bl x)) (ih nL bl r)
noncomputable def mh_tableswitch (lo : Int) (hi : Int) : mzHd := fun ih nL bl x y ts r => mzSw lo hi ts (ih nL bl (mzBlk bl x)) (fun b => ih nL bl (mzBlk bl b))
noncomputable def mh_getfield : mzHd := fun ih nL bl x y ts r => (match ts with | [_] => mzGf x y (ih nL bl r) | _ => mzNo)
noncomputable def mh_putfield : mzHd := fun ih nL bl x y ts r => (match ts with | [t] => mzPf x y t (ih nL bl r) | _ => mzNo)
noncomputable def mh_iaload : mzHd := fun ih nL bl x y ts r => mzAl false (ih nL bl r)
noncomputable def mh_baload : mzHd := fun ih nL bl x y ts r => mzAl true (ih nL bl r)
noncomputable def mh_iastore : mzHd := fun ih nL bl x y ts r => mzAs false (ih nL bl r)
noncomputable def mh_bastore : mzHd := fun ih nL bl x y ts r => mzAs true (ih nL bl r)
noncomputable def mh_arraylength : mzHd := fun ih nL bl x y ts r => mzLen (ih nL bl r)
noncomputable def mh_newarray : mzHd := fun ih nL bl x y ts r => (match ts with | [_] => mzNewa x (ih nL bl r) | _ => mzNo)
noncomputable def mh_new : mzHd := fun ih nL bl x y ts r => (match ts with | [_] => mzNew x (zD x) (ih nL bl r) | _ => mzNo)
noncomputable def mh_invokevirtual : mzHd := fun ih nL bl x y ts r => (match ts with | [na, mc, ms] => mzInv (mzRcv na y) (zN x) (ih (zN x) (zB x) (mzBlk (zB x) 0)) na mc ms (ih nL bl r) | _ => mzNo)
noncomputable def mh_invokestatic : mzHd := fun ih nL bl x y ts r => (match ts with | [na, mc, ms] => mzInv (fun _ _ => true) (zN x) (ih (zN x) (zB x) (mzBlk (zB x) 0)) na mc ms (ih nL bl r) | [0] => mzAcp (ih nL bl r) | [1] => mzMm (fun a b => if a < b then b else a) (ih nL bl r) | [_] => mzMm (fun a b => if b < a then b else a) (ih nL bl r) | _ => mzNo)
noncomputable def mh_invokespecial : mzHd := fun ih nL bl x y ts r => (match ts with | [na, mc, ms] => mzInv (mzRcv na y) (zN x) (ih (zN x) (zB x) (mzBlk (zB x) 0)) na mc ms (ih nL bl r) | [_] => mzObi (ih nL bl r) | _ => mzNo)
noncomputable def mh_ireturn : mzHd := fun ih nL bl x y ts r => mzIret x
noncomputable def mh_lreturn : mzHd := fun ih nL bl x y ts r => mzLret
noncomputable def mh_areturn : mzHd := fun ih nL bl x y ts r => mzAret
noncomputable def mh_return_ : mzHd := fun ih nL bl x y ts r => mzVret
noncomputable def mzSem (i : Instr) : mzHd := @Instr.rec (fun _ => mzHd)
  mhNo
  mhNo
  mhNo
  (fun k => (mh_aload k))
  (fun k => (mh_aload_n k))
  (fun _ => mhNo)
  mh_areturn
  mh_arraylength
  (fun k => (mh_astore k))
  (fun k => (mh_astore_n k))
  mhNo
  mh_baload
  mh_bastore
  (fun n => (mh_bipush n))
  mhNo
  mhNo
  (fun _ => mhNo)
  mhNo
  mhNo
  mhNo
  mhNo
  mhNo
  mhNo
  (fun _ => mhNo)
  (fun _ => mhNo)
  mhNo
  (fun _ => mhNo)
  (fun _ => mhNo)
  mhNo
  mhNo
  mhNo
  mhNo
  (fun _ => mhNo)
  (fun _ => mhNo)
  mhNo
  mh_dup
  mhNo
  mhNo
  mh_dup2
  mhNo
  mhNo
  mhNo
  mhNo
  mhNo
  mhNo
  mhNo
  mhNo
  (fun _ => mhNo)
  (fun _ => mhNo)
  mhNo
  (fun _ => mhNo)
  (fun _ => mhNo)
  mhNo
  mhNo
  mhNo
  mhNo
  (fun _ => mhNo)
  (fun _ => mhNo)
  mhNo
  (fun _ => mh_getfield)
  (fun _ => mhNo)
  (fun _ => mh_goto)
  (fun _ => mhNo)
  mh_i2b
  mhNo
  mhNo
  mhNo
  mh_i2l
  mhNo
  mh_iadd
  mh_iaload
  mh_iand
  mh_iastore
  (fun n => (mh_iconst n))
  mhNo
  (fun _ _ => mhNo)
  (fun q _ => (mh_if_icmp q))
  (fun q _ => (mh_ifCond q))
  (fun _ => mhNo)
  (fun _ => mhNo)
  (fun k d => (mh_iinc k d))
  (fun k => (mh_iload k))
  (fun k => (mh_iload_n k))
  mh_imul
  mhNo
  (fun _ => mhNo)
  (fun _ => mhNo)
  (fun _ _ => mhNo)
  (fun _ => mh_invokespecial)
  (fun _ => mh_invokestatic)
  (fun _ => mh_invokevirtual)
  mh_ior
  mh_irem
  mh_ireturn
  mh_ishl
  mh_ishr
  (fun k => (mh_istore k))
  (fun k => (mh_istore_n k))
  mh_isub
  mh_iushr
  mh_ixor
  (fun _ => mhNo)
  (fun _ => mhNo)
  mhNo
  mhNo
  mh_l2i
  mh_ladd
  mhNo
  mh_land
  mhNo
  mh_lcmp
  (fun n => (mh_lconst n))
  (fun _ => mh_ldc)
  (fun _ => mhNo)
  (fun _ => mh_ldc2_w)
  mhNo
  (fun k => (mh_lload k))
  (fun k => (mh_lload_n k))
  mhNo
  mhNo
  (fun _ _ => mhNo)
  mh_lor
  mhNo
  mh_lreturn
  mh_lshl
  mhNo
  (fun k => (mh_lstore k))
  (fun k => (mh_lstore_n k))
  mh_lsub
  mh_lushr
  mhNo
  mhNo
  mhNo
  (fun _ _ => mhNo)
  (fun _ => mh_new)
  (fun _ => mh_newarray)
  mh_nop
  mh_pop
  mhNo
  (fun _ => mh_putfield)
  (fun _ => mhNo)
  (fun _ => mhNo)
  mh_return_
  mhNo
  mhNo
  (fun n => (mh_sipush n))
  mhNo
  (fun _ lo hi _ => (mh_tableswitch lo hi))
  i
noncomputable def mzStp (ih : Nat → mzB → List mzO → mzK) (nL : Nat) (bl : mzB) (ops : List mzO) : mzK :=
  match ops with
  | [] => mzNo
  | (_, i, x, y, ts) :: r => mzSem i ih nL bl x y ts r
/-- a run: fuel, the method's locals, its blocks, what is left of the block -/
noncomputable def zEx (f : Nat) : Nat → mzB → List mzO → mzK :=
  Nat.rec (fun _ _ _ => mzNo) (fun _ ih => mzStp ih) f
end
section
/-! RULES: what a run of the mini machine comes to, instruction by instruction, over a heap of a known shape (by program, wip/go.py) -/
def gGo (nL : Nat) (bl : mzB) (ops : List mzO) (lv : mzL) (st : List Value) (H : mzH) (c s : Nat) (Q : Option Value → mzH → Prop) : Prop :=
  ∃ (q : Option Value) (H' : mzH), Q q H' ∧ ∃ f0, ∀ f, f0 ≤ f → zEx f nL bl ops lv st H c s = some (q, H')
def gLk (lv : mzL) : List (Nat × Value) → Prop
  | [] => True
  | q :: r => mzGet q.1 lv = some q.2 ∧ gLk lv r
/-- a run from every list of locals that says this much -/
def gG (nL : Nat) (bl : mzB) (ops : List mzO) (l : List (Nat × Value)) (st : List Value) (H : mzH) (c s : Nat) (Q : Option Value → mzH → Prop) : Prop := ∀ lv, gLk lv l → gGo nL bl ops lv st H c s Q
def gCall (j : Nat) (as : List Value) (H : mzH) (Q : Option Value → mzH → Prop) : Prop := gGo (zN j) (zB j) (mzBlk (zB j) 0) (lv_args 0 as) [] H 0 0 Q
def gk : List (Nat × Value) → Nat → Option Value
  | [], _ => none
  | (k, v) :: r, i => bif Nat.beq k i then some v else gk r i
theorem gLk_get : ∀ {l : List (Nat × Value)} {lv : mzL} {i : Nat} {v : Value}, gLk lv l → gk l i = some v → mzGet i lv = some v
  | [], _, _, _, _, h => by cases h
  | (k, u) :: r, lv, i, v, hl, h => by
    unfold gk at h
    cases e : Nat.beq k i with
    | true =>
      rw [e] at h
      simp only [cond_true, Option.some.injEq] at h
      have := Nat.eq_of_beq_eq_true e
      subst this; subst h
      exact hl.1
    | false =>
      rw [e] at h
      exact gLk_get hl.2 h
def gf1 (i : Nat) : List (Nat × Value) → List (Nat × Value)
  | [] => []
  | (k, v) :: r => bif Nat.beq k i || (Nat.beq (k + 1) i && Nat.beq v.category 2) then gf1 i r else (k, v) :: gf1 i r
def gf2 (i : Nat) : List (Nat × Value) → List (Nat × Value)
  | [] => []
  | (k, v) :: r => bif Nat.beq k i || (Nat.beq k (i + 1) || (Nat.beq (k + 1) i && Nat.beq v.category 2)) then gf2 i r else (k, v) :: gf2 i r
def gin (i : Nat) (v : Value) : List (Nat × Value) → List (Nat × Value)
  | [] => [(i, v)]
  | (k, u) :: r => bif Nat.blt i k then (i, v) :: (k, u) :: r else (k, u) :: gin i v r
theorem gin_ok {lv : mzL} {i : Nat} {v : Value} (h : mzGet i lv = some v) : ∀ {l : List (Nat × Value)}, gLk lv l → gLk lv (gin i v l)
  | [], _ => ⟨h, trivial⟩
  | (k, u) :: r, hl => by
    unfold gin
    cases Nat.blt i k with
    | true => exact ⟨h, hl⟩
    | false => exact ⟨hl.1, gin_ok h hl.2⟩
theorem gfl1 {k i : Nat} {u : Value} (h : (Nat.beq k i || (Nat.beq (k + 1) i && Nat.beq u.category 2)) = false) : ∀ {lv : mzL}, mzGet k lv = some u → mzGet k (mzFl1 i lv) = some u
  | [], h2 => by cases h2
  | (k2, u2) :: r, h2 => by
    rw [mzGet_cons] at h2
    rw [mzFl1_cons]
    cases e : Nat.beq k2 k with
    | true =>
      rw [e] at h2
      simp only [cond_true, Option.some.injEq] at h2
      have e2 := Nat.eq_of_beq_eq_true e
      subst e2; subst h2
      rw [h, cond_false, mzGet_cons, e, cond_true]
    | false =>
      rw [e] at h2
      have ih := gfl1 h (lv := r) h2
      cases (Nat.beq k2 i || (Nat.beq (k2 + 1) i && Nat.beq u2.category 2)) with
      | true => rw [cond_true]; exact ih
      | false => rw [cond_false, mzGet_cons, e, cond_false]; exact ih
theorem gfl2 {k i : Nat} {u : Value} (h : (Nat.beq k i || (Nat.beq k (i + 1) || (Nat.beq (k + 1) i && Nat.beq u.category 2))) = false) : ∀ {lv : mzL}, mzGet k lv = some u → mzGet k (mzFl2 i lv) = some u
  | [], h2 => by cases h2
  | (k2, u2) :: r, h2 => by
    rw [mzGet_cons] at h2
    unfold mzFl2
    cases e : Nat.beq k2 k with
    | true =>
      rw [e] at h2
      simp only [cond_true, Option.some.injEq] at h2
      have e2 := Nat.eq_of_beq_eq_true e
      subst e2; subst h2
      rw [h, cond_false, mzGet_cons, e, cond_true]
    | false =>
      rw [e] at h2
      have ih := gfl2 h (lv := r) h2
      cases (Nat.beq k2 i || (Nat.beq k2 (i + 1) || (Nat.beq (k2 + 1) i && Nat.beq u2.category 2))) with
      | true => rw [cond_true]; exact ih
      | false => rw [cond_false, mzGet_cons, e, cond_false]; exact ih
theorem gst_ne {k i : Nat} {v u : Value} {l : mzL} (h : Nat.beq k i = false) (h2 : mzGet k l = some u) : mzGet k ((i, v) :: l) = some u := by
  have e : Nat.beq i k = false := by
    cases e : Nat.beq i k with
    | false => rfl
    | true => rw [Nat.eq_of_beq_eq_true e, Nat.beq_refl] at h; cases h
  rw [mzGet_cons, e, cond_false, h2]
theorem gf1_ok {lv : mzL} {i : Nat} {v : Value} : ∀ {l : List (Nat × Value)}, gLk lv l → gLk (mzSt1 i v lv) (gf1 i l)
  | [], _ => trivial
  | (k, u) :: r, hl => by
    unfold gf1
    cases e : (Nat.beq k i || (Nat.beq (k + 1) i && Nat.beq u.category 2)) with
    | true => exact gf1_ok hl.2
    | false => exact ⟨gst_ne (Bool.or_eq_false_iff.mp e).1 (gfl1 e hl.1), gf1_ok hl.2⟩
theorem gf2_ok {lv : mzL} {i : Nat} {v : Value} : ∀ {l : List (Nat × Value)}, gLk lv l → gLk (mzSt2 i v lv) (gf2 i l)
  | [], _ => trivial
  | (k, u) :: r, hl => by
    unfold gf2
    cases e : (Nat.beq k i || (Nat.beq k (i + 1) || (Nat.beq (k + 1) i && Nat.beq u.category 2))) with
    | true => exact gf2_ok hl.2
    | false => exact ⟨gst_ne (Bool.or_eq_false_iff.mp e).1 (gfl2 e hl.1), gf2_ok hl.2⟩
def gu1 (l : List (Nat × Value)) (i : Nat) (v : Value) : List (Nat × Value) := gin i v (gf1 i l)
def gu2 (l : List (Nat × Value)) (i : Nat) (v : Value) : List (Nat × Value) := gin i v (gf2 i l)
theorem gu1_ok {lv : mzL} {i : Nat} {v : Value} {l l' : List (Nat × Value)} (hl : gLk lv l) (e : gu1 l i v = l') : gLk (mzSt1 i v lv) l' := e ▸ gin_ok (by unfold mzSt1; rw [mzGet_cons, Nat.beq_refl]; rfl) (gf1_ok hl)
theorem gu2_ok {lv : mzL} {i : Nat} {v : Value} {l l' : List (Nat × Value)} (hl : gLk lv l) (e : gu2 l i v = l') : gLk (mzSt2 i v lv) l' := e ▸ gin_ok (by unfold mzSt2; rw [mzGet_cons, Nat.beq_refl]; rfl) (gf2_ok hl)
/-- fewer locals known -/
def gsub (l l' : List (Nat × Value)) : Prop := ∀ lv, gLk lv l → gLk lv l'
def gpk (l : List (Nat × Value)) : List Nat → List (Nat × Value)
  | [] => []
  | i :: r => match gk l i with
    | some v => (i, v) :: gpk l r
    | none => gpk l r
theorem gpk_ok {lv : mzL} {l : List (Nat × Value)} (h : gLk lv l) : ∀ (r : List Nat), gLk lv (gpk l r)
  | [] => trivial
  | i :: r => by
    unfold gpk
    split
    · rename_i v e; exact ⟨gLk_get h e, gpk_ok h r⟩
    · exact gpk_ok h r
section
variable {nL : Nat} {bl : mzB} {r : List mzO} {l : List (Nat × Value)} {st : List Value} {H : mzH} {c s : Nat} {Q : Option Value → mzH → Prop} {pc x y : Nat} {ts : List Nat}
theorem gG_pick (is : List Nat) {l' : List (Nat × Value)} {ops : List mzO} (e : gpk l is = l') (K : gG nL bl ops l' st H c s Q) : gG nL bl ops l st H c s Q := fun lv hl => K lv (e ▸ gpk_ok hl is)
theorem gG_call {j : Nat} {as : List Value} (l : List (Nat × Value)) (hl : gLk (lv_args 0 as) l) (K : gG (zN j) (zB j) (mzBlk (zB j) 0) l [] H 0 0 Q) : gCall j as H Q := K _ hl
theorem gGo_mono {ops : List mzO} {lv : mzL} {P : Option Value → mzH → Prop} (h : gGo nL bl ops lv st H c s P) (hp : ∀ o H', P o H' → Q o H') : gGo nL bl ops lv st H c s Q := by
  obtain ⟨o, H', h1, h2⟩ := h
  exact ⟨o, H', hp o H' h1, h2⟩
theorem g_stp {ops ops' : List mzO} {lv lv' : mzL} {st st' : List Value} {H H1 : mzH} {c s c' s' : Nat} (h : ∀ g, mzStp (zEx g) nL bl ops lv st H c s = zEx g nL bl ops' lv' st' H1 c' s') (K : gGo nL bl ops' lv' st' H1 c' s' Q) : gGo nL bl ops lv st H c s Q := by
  obtain ⟨o, H2, hq, f0, hf⟩ := K
  refine ⟨o, H2, hq, f0 + 1, fun f hle => ?_⟩
  obtain ⟨g, rfl⟩ : ∃ g, f = g + 1 := ⟨f - 1, by omega⟩
  exact (h g).trans (hf g (by omega))
theorem g_nop (K : gG nL bl (mzBlk bl x) l st H c s Q) : gG nL bl ((pc, .nop, x, y, ts) :: r) l st H c s Q := fun lv hl => g_stp (fun _ => rfl) (K lv hl)
theorem g_goto {n : Int} (K : gG nL bl (mzBlk bl x) l st H c s Q) : gG nL bl ((pc, .goto n, x, y, ts) :: r) l st H c s Q := fun lv hl => g_stp (fun _ => rfl) (K lv hl)
theorem g_iconst {n : Int} (h : (Int32.ofInt n).toInt = n) (K : ∀ v : Int32, v.toInt = n → gG nL bl r l (.int v :: st) H c s Q) : gG nL bl ((pc, .iconst n, x, y, ts) :: r) l st H c s Q := fun lv hl => g_stp (fun _ => rfl) (K _ h lv hl)
theorem g_bipush {n : Int} (h : (Int8.ofInt n).toInt32.toInt = n) (K : ∀ v : Int32, v.toInt = n → gG nL bl r l (.int v :: st) H c s Q) : gG nL bl ((pc, .bipush n, x, y, ts) :: r) l st H c s Q := fun lv hl => g_stp (fun _ => rfl) (K _ h lv hl)
theorem g_sipush {n : Int} (h : (Int16.ofInt n).toInt32.toInt = n) (K : ∀ v : Int32, v.toInt = n → gG nL bl r l (.int v :: st) H c s Q) : gG nL bl ((pc, .sipush n, x, y, ts) :: r) l st H c s Q := fun lv hl => g_stp (fun _ => rfl) (K _ h lv hl)
theorem g_ldc {q t : Nat} (h : (Int32.ofNat x).toInt = x) (K : ∀ v : Int32, v.toInt = x → gG nL bl r l (.int v :: st) H c s Q) : gG nL bl ((pc, .ldc q, x, y, [t]) :: r) l st H c s Q := fun lv hl => g_stp (fun _ => rfl) (K _ h lv hl)
theorem g_ldc2 {q t : Nat} (K : ∀ v : Int64, v = Int64.ofNat x → gG nL bl r l (.long v :: st) H c s Q) : gG nL bl ((pc, .ldc2_w q, x, y, [t]) :: r) l st H c s Q := fun lv hl => g_stp (fun _ => rfl) (K _ rfl lv hl)
theorem g_lconst {n : Fin 2} (K : ∀ v : Int64, v = Int64.ofNat (n : Nat) → gG nL bl r l (.long v :: st) H c s Q) : gG nL bl ((pc, .lconst n, x, y, ts) :: r) l st H c s Q := fun lv hl => g_stp (fun _ => rfl) (K _ rfl lv hl)
theorem g_iload {k : Nat} {v : Int32} (h : gk l k = some (.int v)) (K : gG nL bl r l (.int v :: st) H c s Q) : gG nL bl ((pc, .iload k, x, y, ts) :: r) l st H c s Q := fun lv hl => g_stp (fun g => by show mzIld k (zEx g nL bl r) lv st H c s = _; unfold mzIld; rw [gLk_get hl h]) (K lv hl)
theorem g_iload_n {k : Fin 4} {v : Int32} (h : gk l (k : Nat) = some (.int v)) (K : gG nL bl r l (.int v :: st) H c s Q) : gG nL bl ((pc, .iload_n k, x, y, ts) :: r) l st H c s Q := fun lv hl => g_stp (fun g => by show mzIld (k : Nat) (zEx g nL bl r) lv st H c s = _; unfold mzIld; rw [gLk_get hl h]) (K lv hl)
theorem g_lload {k : Nat} {v : Int64} (h : gk l k = some (.long v)) (K : gG nL bl r l (.long v :: st) H c s Q) : gG nL bl ((pc, .lload k, x, y, ts) :: r) l st H c s Q := fun lv hl => g_stp (fun g => by show mzLld k (zEx g nL bl r) lv st H c s = _; unfold mzLld; rw [gLk_get hl h]) (K lv hl)
theorem g_lload_n {k : Fin 4} {v : Int64} (h : gk l (k : Nat) = some (.long v)) (K : gG nL bl r l (.long v :: st) H c s Q) : gG nL bl ((pc, .lload_n k, x, y, ts) :: r) l st H c s Q := fun lv hl => g_stp (fun g => by show mzLld (k : Nat) (zEx g nL bl r) lv st H c s = _; unfold mzLld; rw [gLk_get hl h]) (K lv hl)
theorem g_aload {k : Nat} {v : Nat} (h : gk l k = some (.ref v)) (K : gG nL bl r l (.ref v :: st) H c s Q) : gG nL bl ((pc, .aload k, x, y, ts) :: r) l st H c s Q := fun lv hl => g_stp (fun g => by show mzAld k (zEx g nL bl r) lv st H c s = _; unfold mzAld; rw [gLk_get hl h]) (K lv hl)
theorem g_aload_n {k : Fin 4} {v : Nat} (h : gk l (k : Nat) = some (.ref v)) (K : gG nL bl r l (.ref v :: st) H c s Q) : gG nL bl ((pc, .aload_n k, x, y, ts) :: r) l st H c s Q := fun lv hl => g_stp (fun g => by show mzAld (k : Nat) (zEx g nL bl r) lv st H c s = _; unfold mzAld; rw [gLk_get hl h]) (K lv hl)
theorem g_istore {k : Nat} {v : Int32} {l' : List (Nat × Value)} (hn : Nat.blt k nL = true) (e : gu1 l k (.int v) = l') (K : gG nL bl r l' st H c s Q) : gG nL bl ((pc, .istore k, x, y, ts) :: r) l (.int v :: st) H c s Q := fun lv hl => g_stp (fun g => by show (bif Nat.blt k nL then _ else _) = _; rw [hn]; rfl) (K _ (gu1_ok hl e))
theorem g_istore_n {k : Fin 4} {v : Int32} {l' : List (Nat × Value)} (hn : Nat.blt (k : Nat) nL = true) (e : gu1 l (k : Nat) (.int v) = l') (K : gG nL bl r l' st H c s Q) : gG nL bl ((pc, .istore_n k, x, y, ts) :: r) l (.int v :: st) H c s Q := fun lv hl => g_stp (fun g => by show (bif Nat.blt (k : Nat) nL then _ else _) = _; rw [hn]; rfl) (K _ (gu1_ok hl e))
theorem g_astore {k : Nat} {v : Nat} {l' : List (Nat × Value)} (hn : Nat.blt k nL = true) (e : gu1 l k (.ref v) = l') (K : gG nL bl r l' st H c s Q) : gG nL bl ((pc, .astore k, x, y, ts) :: r) l (.ref v :: st) H c s Q := fun lv hl => g_stp (fun g => by show (bif Nat.blt k nL then _ else _) = _; rw [hn]; rfl) (K _ (gu1_ok hl e))
theorem g_astore_n {k : Fin 4} {v : Nat} {l' : List (Nat × Value)} (hn : Nat.blt (k : Nat) nL = true) (e : gu1 l (k : Nat) (.ref v) = l') (K : gG nL bl r l' st H c s Q) : gG nL bl ((pc, .astore_n k, x, y, ts) :: r) l (.ref v :: st) H c s Q := fun lv hl => g_stp (fun g => by show (bif Nat.blt (k : Nat) nL then _ else _) = _; rw [hn]; rfl) (K _ (gu1_ok hl e))
theorem g_lstore {k : Nat} {v : Int64} {l' : List (Nat × Value)} (hn : Nat.blt (k + 1) nL = true) (e : gu2 l k (.long v) = l') (K : gG nL bl r l' st H c s Q) : gG nL bl ((pc, .lstore k, x, y, ts) :: r) l (.long v :: st) H c s Q := fun lv hl => g_stp (fun g => by show (bif Nat.blt (k + 1) nL then _ else _) = _; rw [hn]; rfl) (K _ (gu2_ok hl e))
theorem g_lstore_n {k : Fin 4} {v : Int64} {l' : List (Nat × Value)} (hn : Nat.blt ((k : Nat) + 1) nL = true) (e : gu2 l (k : Nat) (.long v) = l') (K : gG nL bl r l' st H c s Q) : gG nL bl ((pc, .lstore_n k, x, y, ts) :: r) l (.long v :: st) H c s Q := fun lv hl => g_stp (fun g => by show (bif Nat.blt ((k : Nat) + 1) nL then _ else _) = _; rw [hn]; rfl) (K _ (gu2_ok hl e))
theorem gz_ofInt {n : Int} (h1 : -2147483648 ≤ n) (h2 : n ≤ 2147483647) : (Int32.ofInt n).toInt = n := Int32.toInt_ofInt_of_le h1 (by omega)
theorem gz_add {a b : Int32} (h : -2147483648 ≤ a.toInt + b.toInt ∧ a.toInt + b.toInt ≤ 2147483647) : (a + b).toInt = a.toInt + b.toInt := by
  have e : a + b = Int32.ofInt (a.toInt + b.toInt) := by rw [Int32.ofInt_add, Int32.ofInt_toInt, Int32.ofInt_toInt]
  rw [e, gz_ofInt h.1 h.2]
theorem gz_sub {a b : Int32} (h : -2147483648 ≤ a.toInt - b.toInt ∧ a.toInt - b.toInt ≤ 2147483647) : (a - b).toInt = a.toInt - b.toInt := by
  have e : a - b = Int32.ofInt (a.toInt - b.toInt) := by rw [Int32.ofInt_sub, Int32.ofInt_toInt, Int32.ofInt_toInt]
  rw [e, gz_ofInt h.1 h.2]
theorem gz_mul {a b : Int32} (h : -2147483648 ≤ a.toInt * b.toInt ∧ a.toInt * b.toInt ≤ 2147483647) : (a * b).toInt = a.toInt * b.toInt := by
  have e : a * b = Int32.ofInt (a.toInt * b.toInt) := by rw [Int32.ofInt_mul, Int32.ofInt_toInt, Int32.ofInt_toInt]
  rw [e, gz_ofInt h.1 h.2]
theorem gz_and {a b : Int32} (h : 0 ≤ b.toInt) : 0 ≤ (a &&& b).toInt ∧ (a &&& b).toInt ≤ b.toInt := by
  have h1 : (a &&& b).toBitVec = a.toBitVec &&& b.toBitVec := rfl
  have h2 : b.toInt = b.toBitVec.toInt := rfl
  have h3 : (a &&& b).toInt = (a.toBitVec &&& b.toBitVec).toInt := rfl
  have h4 : b.toBitVec.toNat < 2147483648 := by
    rw [h2, BitVec.toInt_eq_toNat_cond] at h
    have := b.toBitVec.isLt
    split at h <;> omega
  have h5 : (a.toBitVec &&& b.toBitVec).toNat ≤ b.toBitVec.toNat := by rw [BitVec.toNat_and]; exact Nat.and_le_right
  rw [h3, h2, BitVec.toInt_eq_toNat_cond, BitVec.toInt_eq_toNat_cond, if_pos (by omega), if_pos (by omega)]
  omega
theorem g_iinc {k : Nat} {d : Int} {v : Int32} {l' : Int32 → List (Nat × Value)} (hg : gk l k = some (.int v)) (hn : Nat.blt k nL = true) (hd : (Int32.ofInt d).toInt = d) (h : -2147483648 ≤ v.toInt + d ∧ v.toInt + d ≤ 2147483647) (e : ∀ u, gu1 l k (.int u) = l' u) (K : ∀ u : Int32, u.toInt = v.toInt + d → gG nL bl r (l' u) st H c s Q) : gG nL bl ((pc, .iinc k d, x, y, ts) :: r) l st H c s Q := fun lv hl => g_stp (fun g => by show mzInc nL k d (zEx g nL bl r) lv st H c s = _; unfold mzInc; rw [gLk_get hl hg]; show (bif Nat.blt k nL then _ else _) = _; rw [hn]; rfl) (K _ (by rw [gz_add (by rw [hd]; exact h), hd]) _ (gu1_ok hl (e _)))
theorem g_iinc' {k : Nat} {d : Int} {v : Int32} {l' : Int32 → List (Nat × Value)} (hg : gk l k = some (.int v)) (hn : Nat.blt k nL = true) (e : ∀ u, gu1 l k (.int u) = l' u) (K : ∀ u : Int32, gG nL bl r (l' u) st H c s Q) : gG nL bl ((pc, .iinc k d, x, y, ts) :: r) l st H c s Q := fun lv hl => g_stp (fun g => by show mzInc nL k d (zEx g nL bl r) lv st H c s = _; unfold mzInc; rw [gLk_get hl hg]; show (bif Nat.blt k nL then _ else _) = _; rw [hn]; rfl) (K _ _ (gu1_ok hl (e _)))
theorem g_iadd {a b : Int32} (h : -2147483648 ≤ a.toInt + b.toInt ∧ a.toInt + b.toInt ≤ 2147483647) (K : ∀ v : Int32, v.toInt = a.toInt + b.toInt → gG nL bl r l (.int v :: st) H c s Q) : gG nL bl ((pc, .iadd, x, y, ts) :: r) l (.int b :: .int a :: st) H c s Q := fun lv hl => g_stp (fun _ => rfl) (K _ (gz_add h) lv hl)
theorem g_isub {a b : Int32} (h : -2147483648 ≤ a.toInt - b.toInt ∧ a.toInt - b.toInt ≤ 2147483647) (K : ∀ v : Int32, v.toInt = a.toInt - b.toInt → gG nL bl r l (.int v :: st) H c s Q) : gG nL bl ((pc, .isub, x, y, ts) :: r) l (.int b :: .int a :: st) H c s Q := fun lv hl => g_stp (fun _ => rfl) (K _ (gz_sub h) lv hl)
theorem g_imul {a b : Int32} (h : -2147483648 ≤ a.toInt * b.toInt ∧ a.toInt * b.toInt ≤ 2147483647) (K : ∀ v : Int32, v.toInt = a.toInt * b.toInt → gG nL bl r l (.int v :: st) H c s Q) : gG nL bl ((pc, .imul, x, y, ts) :: r) l (.int b :: .int a :: st) H c s Q := fun lv hl => g_stp (fun _ => rfl) (K _ (gz_mul h) lv hl)
theorem g_iadd' {a b : Int32} (K : ∀ v : Int32, v = (a + b) → gG nL bl r l (.int v :: st) H c s Q) : gG nL bl ((pc, .iadd, x, y, ts) :: r) l (.int b :: .int a :: st) H c s Q := fun lv hl => g_stp (fun _ => rfl) (K _ rfl lv hl)
theorem g_isub' {a b : Int32} (K : ∀ v : Int32, v = (a - b) → gG nL bl r l (.int v :: st) H c s Q) : gG nL bl ((pc, .isub, x, y, ts) :: r) l (.int b :: .int a :: st) H c s Q := fun lv hl => g_stp (fun _ => rfl) (K _ rfl lv hl)
theorem g_imul' {a b : Int32} (K : ∀ v : Int32, v = (a * b) → gG nL bl r l (.int v :: st) H c s Q) : gG nL bl ((pc, .imul, x, y, ts) :: r) l (.int b :: .int a :: st) H c s Q := fun lv hl => g_stp (fun _ => rfl) (K _ rfl lv hl)
theorem g_iand' {a b : Int32} (K : ∀ v : Int32, v = (a &&& b) → gG nL bl r l (.int v :: st) H c s Q) : gG nL bl ((pc, .iand, x, y, ts) :: r) l (.int b :: .int a :: st) H c s Q := fun lv hl => g_stp (fun _ => rfl) (K _ rfl lv hl)
theorem g_ior' {a b : Int32} (K : ∀ v : Int32, v = (a ||| b) → gG nL bl r l (.int v :: st) H c s Q) : gG nL bl ((pc, .ior, x, y, ts) :: r) l (.int b :: .int a :: st) H c s Q := fun lv hl => g_stp (fun _ => rfl) (K _ rfl lv hl)
theorem g_ixor' {a b : Int32} (K : ∀ v : Int32, v = (a ^^^ b) → gG nL bl r l (.int v :: st) H c s Q) : gG nL bl ((pc, .ixor, x, y, ts) :: r) l (.int b :: .int a :: st) H c s Q := fun lv hl => g_stp (fun _ => rfl) (K _ rfl lv hl)
theorem g_ishl' {a b : Int32} (K : ∀ v : Int32, v = (a <<< (b &&& 31)) → gG nL bl r l (.int v :: st) H c s Q) : gG nL bl ((pc, .ishl, x, y, ts) :: r) l (.int b :: .int a :: st) H c s Q := fun lv hl => g_stp (fun _ => rfl) (K _ rfl lv hl)
theorem g_ishr' {a b : Int32} (K : ∀ v : Int32, v = (a >>> (b &&& 31)) → gG nL bl r l (.int v :: st) H c s Q) : gG nL bl ((pc, .ishr, x, y, ts) :: r) l (.int b :: .int a :: st) H c s Q := fun lv hl => g_stp (fun _ => rfl) (K _ rfl lv hl)
theorem g_iushr' {a b : Int32} (K : ∀ v : Int32, v = ((a.toUInt32 >>> (b.toUInt32 &&& Int32.toUInt32 31)).toInt32) → gG nL bl r l (.int v :: st) H c s Q) : gG nL bl ((pc, .iushr, x, y, ts) :: r) l (.int b :: .int a :: st) H c s Q := fun lv hl => g_stp (fun _ => rfl) (K _ rfl lv hl)
theorem g_iand {a b : Int32} (h : 0 ≤ b.toInt) (K : ∀ v : Int32, v = a &&& b → 0 ≤ v.toInt → v.toInt ≤ b.toInt → gG nL bl r l (.int v :: st) H c s Q) : gG nL bl ((pc, .iand, x, y, ts) :: r) l (.int b :: .int a :: st) H c s Q := fun lv hl => g_stp (fun _ => rfl) (K _ rfl (gz_and h).1 (gz_and h).2 lv hl)
theorem g_irem' {a b : Int32} (h : b.toInt ≠ 0) (K : ∀ v : Int32, v = a - a / b * b → gG nL bl r l (.int v :: st) H c s Q) : gG nL bl ((pc, .irem, x, y, ts) :: r) l (.int b :: .int a :: st) H c s Q := fun lv hl => g_stp (fun g => by show (bif decide (b = 0) then none else _) = _; rw [decide_eq_false (fun e => h (by rw [e]; rfl))]; rfl) (K _ rfl lv hl)
theorem g_i2l {a : Int32} (K : ∀ v : Int64, v = a.toInt64 → gG nL bl r l (.long v :: st) H c s Q) : gG nL bl ((pc, .i2l, x, y, ts) :: r) l (.int a :: st) H c s Q := fun lv hl => g_stp (fun _ => rfl) (K _ rfl lv hl)
theorem g_i2b {a : Int32} (K : ∀ v : Int32, v = a.toInt8.toInt32 → gG nL bl r l (.int v :: st) H c s Q) : gG nL bl ((pc, .i2b, x, y, ts) :: r) l (.int a :: st) H c s Q := fun lv hl => g_stp (fun _ => rfl) (K _ rfl lv hl)
theorem g_l2i {a : Int64} (K : ∀ v : Int32, v = a.toInt32 → gG nL bl r l (.int v :: st) H c s Q) : gG nL bl ((pc, .l2i, x, y, ts) :: r) l (.long a :: st) H c s Q := fun lv hl => g_stp (fun _ => rfl) (K _ rfl lv hl)
theorem g_lcmp {a b : Int64} (K : ∀ v : Int32, v = lg_cmp a b → gG nL bl r l (.int v :: st) H c s Q) : gG nL bl ((pc, .lcmp, x, y, ts) :: r) l (.long b :: .long a :: st) H c s Q := fun lv hl => g_stp (fun _ => rfl) (K _ rfl lv hl)
theorem g_dup {v : Value} (h : Nat.beq v.category 1 = true) (K : gG nL bl r l (v :: v :: st) H c s Q) : gG nL bl ((pc, .dup, x, y, ts) :: r) l (v :: st) H c s Q := fun lv hl => g_stp (fun g => by show (bif Nat.beq v.category 1 then _ else _) = _; rw [h]; rfl) (K lv hl)
theorem g_dup2 {v u : Value} (h : (Nat.beq v.category 1 && Nat.beq u.category 1) = true) (K : gG nL bl r l (v :: u :: v :: u :: st) H c s Q) : gG nL bl ((pc, .dup2, x, y, ts) :: r) l (v :: u :: st) H c s Q := fun lv hl => g_stp (fun g => by show (bif Nat.beq v.category 1 && Nat.beq u.category 1 then _ else _) = _; rw [h]; rfl) (K lv hl)
theorem g_pop {v : Value} (h : Nat.beq v.category 1 = true) (K : gG nL bl r l st H c s Q) : gG nL bl ((pc, .pop, x, y, ts) :: r) l (v :: st) H c s Q := fun lv hl => g_stp (fun g => by show (bif Nat.beq v.category 1 then _ else _) = _; rw [h]; rfl) (K lv hl)
theorem g_ladd {a b : Int64} (K : ∀ v : Int64, v = (a + b) → gG nL bl r l (.long v :: st) H c s Q) : gG nL bl ((pc, .ladd, x, y, ts) :: r) l (.long b :: .long a :: st) H c s Q := fun lv hl => g_stp (fun _ => rfl) (K _ rfl lv hl)
theorem g_lsub {a b : Int64} (K : ∀ v : Int64, v = (a - b) → gG nL bl r l (.long v :: st) H c s Q) : gG nL bl ((pc, .lsub, x, y, ts) :: r) l (.long b :: .long a :: st) H c s Q := fun lv hl => g_stp (fun _ => rfl) (K _ rfl lv hl)
theorem g_land {a b : Int64} (K : ∀ v : Int64, v = (a &&& b) → gG nL bl r l (.long v :: st) H c s Q) : gG nL bl ((pc, .land, x, y, ts) :: r) l (.long b :: .long a :: st) H c s Q := fun lv hl => g_stp (fun _ => rfl) (K _ rfl lv hl)
theorem g_lor {a b : Int64} (K : ∀ v : Int64, v = (a ||| b) → gG nL bl r l (.long v :: st) H c s Q) : gG nL bl ((pc, .lor, x, y, ts) :: r) l (.long b :: .long a :: st) H c s Q := fun lv hl => g_stp (fun _ => rfl) (K _ rfl lv hl)
theorem g_lshl {a : Int64} {b : Int32} (K : ∀ v : Int64, v = (a <<< (b.toInt64 &&& 63)) → gG nL bl r l (.long v :: st) H c s Q) : gG nL bl ((pc, .lshl, x, y, ts) :: r) l (.int b :: .long a :: st) H c s Q := fun lv hl => g_stp (fun _ => rfl) (K _ rfl lv hl)
theorem g_lushr {a : Int64} {b : Int32} (K : ∀ v : Int64, v = ((a.toUInt64 >>> (b.toInt64.toUInt64 &&& Int64.toUInt64 63)).toInt64) → gG nL bl r l (.long v :: st) H c s Q) : gG nL bl ((pc, .lushr, x, y, ts) :: r) l (.int b :: .long a :: st) H c s Q := fun lv hl => g_stp (fun _ => rfl) (K _ rfl lv hl)
theorem gz_eq {a b : Int32} : mzEq a b = decide (a.toInt = b.toInt) := by rw [mzEq_eq]; exact decide_eq_decide.mpr Int32.toInt_inj.symm
theorem gz_lt {a b : Int32} : mzLt a b = decide (a.toInt < b.toInt) := by rw [mzLt_eq]; exact decide_eq_decide.mpr Int32.lt_iff_toInt_lt
theorem gc_eq {a b : Int32} : (mzCnd .eq a b = true → a.toInt = b.toInt) ∧ (mzCnd .eq a b = false → ¬ a.toInt = b.toInt) := by
  have e : mzCnd .eq a b = (mzEq a b) := rfl
  rw [e]
  simp only [gz_eq, gz_lt, Bool.not_eq_true', Bool.not_eq_false', decide_eq_true_eq, decide_eq_false_iff_not]
  constructor <;> intro h <;> omega
theorem g_if2_eq {a b : Int32} {n : Int} (K1 : a.toInt = b.toInt → gG nL bl (mzBlk bl x) l st H c s Q) (K2 : ¬ a.toInt = b.toInt → gG nL bl r l st H c s Q) : gG nL bl ((pc, .if_icmp .eq n, x, y, ts) :: r) l (.int b :: .int a :: st) H c s Q := fun lv hl => by
  cases e : mzCnd .eq a b with
  | true => exact g_stp (fun g => by show mzIf2 .eq (zEx g nL bl (mzBlk bl x)) (zEx g nL bl r) lv (.int b :: .int a :: st) H c s = _; unfold mzIf2; simp only [e, cond_true, cond_false]) (K1 (gc_eq.1 e) lv hl)
  | false => exact g_stp (fun g => by show mzIf2 .eq (zEx g nL bl (mzBlk bl x)) (zEx g nL bl r) lv (.int b :: .int a :: st) H c s = _; unfold mzIf2; simp only [e, cond_true, cond_false]) (K2 (gc_eq.2 e) lv hl)
theorem g_if_eq {a : Int32} {n : Int} (K1 : a.toInt = 0 → gG nL bl (mzBlk bl x) l st H c s Q) (K2 : ¬ a.toInt = 0 → gG nL bl r l st H c s Q) : gG nL bl ((pc, .ifCond .eq n, x, y, ts) :: r) l (.int a :: st) H c s Q := fun lv hl => by
  cases e : mzCnd .eq a 0 with
  | true => exact g_stp (fun g => by show mzIf .eq (zEx g nL bl (mzBlk bl x)) (zEx g nL bl r) lv (.int a :: st) H c s = _; unfold mzIf; simp only [e, cond_true, cond_false]) (K1 (by have := gc_eq.1 e; rw [Int32.toInt_zero] at this; exact this) lv hl)
  | false => exact g_stp (fun g => by show mzIf .eq (zEx g nL bl (mzBlk bl x)) (zEx g nL bl r) lv (.int a :: st) H c s = _; unfold mzIf; simp only [e, cond_true, cond_false]) (K2 (by have := gc_eq.2 e; rw [Int32.toInt_zero] at this; exact this) lv hl)
theorem gc_ne {a b : Int32} : (mzCnd .ne a b = true → ¬ a.toInt = b.toInt) ∧ (mzCnd .ne a b = false → a.toInt = b.toInt) := by
  have e : mzCnd .ne a b = (!mzEq a b) := rfl
  rw [e]
  simp only [gz_eq, gz_lt, Bool.not_eq_true', Bool.not_eq_false', decide_eq_true_eq, decide_eq_false_iff_not]
  constructor <;> intro h <;> omega
theorem g_if2_ne {a b : Int32} {n : Int} (K1 : ¬ a.toInt = b.toInt → gG nL bl (mzBlk bl x) l st H c s Q) (K2 : a.toInt = b.toInt → gG nL bl r l st H c s Q) : gG nL bl ((pc, .if_icmp .ne n, x, y, ts) :: r) l (.int b :: .int a :: st) H c s Q := fun lv hl => by
  cases e : mzCnd .ne a b with
  | true => exact g_stp (fun g => by show mzIf2 .ne (zEx g nL bl (mzBlk bl x)) (zEx g nL bl r) lv (.int b :: .int a :: st) H c s = _; unfold mzIf2; simp only [e, cond_true, cond_false]) (K1 (gc_ne.1 e) lv hl)
  | false => exact g_stp (fun g => by show mzIf2 .ne (zEx g nL bl (mzBlk bl x)) (zEx g nL bl r) lv (.int b :: .int a :: st) H c s = _; unfold mzIf2; simp only [e, cond_true, cond_false]) (K2 (gc_ne.2 e) lv hl)
theorem g_if_ne {a : Int32} {n : Int} (K1 : ¬ a.toInt = 0 → gG nL bl (mzBlk bl x) l st H c s Q) (K2 : a.toInt = 0 → gG nL bl r l st H c s Q) : gG nL bl ((pc, .ifCond .ne n, x, y, ts) :: r) l (.int a :: st) H c s Q := fun lv hl => by
  cases e : mzCnd .ne a 0 with
  | true => exact g_stp (fun g => by show mzIf .ne (zEx g nL bl (mzBlk bl x)) (zEx g nL bl r) lv (.int a :: st) H c s = _; unfold mzIf; simp only [e, cond_true, cond_false]) (K1 (by have := gc_ne.1 e; rw [Int32.toInt_zero] at this; exact this) lv hl)
  | false => exact g_stp (fun g => by show mzIf .ne (zEx g nL bl (mzBlk bl x)) (zEx g nL bl r) lv (.int a :: st) H c s = _; unfold mzIf; simp only [e, cond_true, cond_false]) (K2 (by have := gc_ne.2 e; rw [Int32.toInt_zero] at this; exact this) lv hl)
theorem gc_lt {a b : Int32} : (mzCnd .lt a b = true → a.toInt < b.toInt) ∧ (mzCnd .lt a b = false → b.toInt ≤ a.toInt) := by
  have e : mzCnd .lt a b = (mzLt a b) := rfl
  rw [e]
  simp only [gz_eq, gz_lt, Bool.not_eq_true', Bool.not_eq_false', decide_eq_true_eq, decide_eq_false_iff_not]
  constructor <;> intro h <;> omega
theorem g_if2_lt {a b : Int32} {n : Int} (K1 : a.toInt < b.toInt → gG nL bl (mzBlk bl x) l st H c s Q) (K2 : b.toInt ≤ a.toInt → gG nL bl r l st H c s Q) : gG nL bl ((pc, .if_icmp .lt n, x, y, ts) :: r) l (.int b :: .int a :: st) H c s Q := fun lv hl => by
  cases e : mzCnd .lt a b with
  | true => exact g_stp (fun g => by show mzIf2 .lt (zEx g nL bl (mzBlk bl x)) (zEx g nL bl r) lv (.int b :: .int a :: st) H c s = _; unfold mzIf2; simp only [e, cond_true, cond_false]) (K1 (gc_lt.1 e) lv hl)
  | false => exact g_stp (fun g => by show mzIf2 .lt (zEx g nL bl (mzBlk bl x)) (zEx g nL bl r) lv (.int b :: .int a :: st) H c s = _; unfold mzIf2; simp only [e, cond_true, cond_false]) (K2 (gc_lt.2 e) lv hl)
theorem g_if_lt {a : Int32} {n : Int} (K1 : a.toInt < 0 → gG nL bl (mzBlk bl x) l st H c s Q) (K2 : 0 ≤ a.toInt → gG nL bl r l st H c s Q) : gG nL bl ((pc, .ifCond .lt n, x, y, ts) :: r) l (.int a :: st) H c s Q := fun lv hl => by
  cases e : mzCnd .lt a 0 with
  | true => exact g_stp (fun g => by show mzIf .lt (zEx g nL bl (mzBlk bl x)) (zEx g nL bl r) lv (.int a :: st) H c s = _; unfold mzIf; simp only [e, cond_true, cond_false]) (K1 (by have := gc_lt.1 e; rw [Int32.toInt_zero] at this; exact this) lv hl)
  | false => exact g_stp (fun g => by show mzIf .lt (zEx g nL bl (mzBlk bl x)) (zEx g nL bl r) lv (.int a :: st) H c s = _; unfold mzIf; simp only [e, cond_true, cond_false]) (K2 (by have := gc_lt.2 e; rw [Int32.toInt_zero] at this; exact this) lv hl)
theorem gc_ge {a b : Int32} : (mzCnd .ge a b = true → b.toInt ≤ a.toInt) ∧ (mzCnd .ge a b = false → a.toInt < b.toInt) := by
  have e : mzCnd .ge a b = (!mzLt a b) := rfl
  rw [e]
  simp only [gz_eq, gz_lt, Bool.not_eq_true', Bool.not_eq_false', decide_eq_true_eq, decide_eq_false_iff_not]
  constructor <;> intro h <;> omega
theorem g_if2_ge {a b : Int32} {n : Int} (K1 : b.toInt ≤ a.toInt → gG nL bl (mzBlk bl x) l st H c s Q) (K2 : a.toInt < b.toInt → gG nL bl r l st H c s Q) : gG nL bl ((pc, .if_icmp .ge n, x, y, ts) :: r) l (.int b :: .int a :: st) H c s Q := fun lv hl => by
  cases e : mzCnd .ge a b with
  | true => exact g_stp (fun g => by show mzIf2 .ge (zEx g nL bl (mzBlk bl x)) (zEx g nL bl r) lv (.int b :: .int a :: st) H c s = _; unfold mzIf2; simp only [e, cond_true, cond_false]) (K1 (gc_ge.1 e) lv hl)
  | false => exact g_stp (fun g => by show mzIf2 .ge (zEx g nL bl (mzBlk bl x)) (zEx g nL bl r) lv (.int b :: .int a :: st) H c s = _; unfold mzIf2; simp only [e, cond_true, cond_false]) (K2 (gc_ge.2 e) lv hl)
theorem g_if_ge {a : Int32} {n : Int} (K1 : 0 ≤ a.toInt → gG nL bl (mzBlk bl x) l st H c s Q) (K2 : a.toInt < 0 → gG nL bl r l st H c s Q) : gG nL bl ((pc, .ifCond .ge n, x, y, ts) :: r) l (.int a :: st) H c s Q := fun lv hl => by
  cases e : mzCnd .ge a 0 with
  | true => exact g_stp (fun g => by show mzIf .ge (zEx g nL bl (mzBlk bl x)) (zEx g nL bl r) lv (.int a :: st) H c s = _; unfold mzIf; simp only [e, cond_true, cond_false]) (K1 (by have := gc_ge.1 e; rw [Int32.toInt_zero] at this; exact this) lv hl)
  | false => exact g_stp (fun g => by show mzIf .ge (zEx g nL bl (mzBlk bl x)) (zEx g nL bl r) lv (.int a :: st) H c s = _; unfold mzIf; simp only [e, cond_true, cond_false]) (K2 (by have := gc_ge.2 e; rw [Int32.toInt_zero] at this; exact this) lv hl)
theorem gc_gt {a b : Int32} : (mzCnd .gt a b = true → b.toInt < a.toInt) ∧ (mzCnd .gt a b = false → a.toInt ≤ b.toInt) := by
  have e : mzCnd .gt a b = (mzLt b a) := rfl
  rw [e]
  simp only [gz_eq, gz_lt, Bool.not_eq_true', Bool.not_eq_false', decide_eq_true_eq, decide_eq_false_iff_not]
  constructor <;> intro h <;> omega
theorem g_if2_gt {a b : Int32} {n : Int} (K1 : b.toInt < a.toInt → gG nL bl (mzBlk bl x) l st H c s Q) (K2 : a.toInt ≤ b.toInt → gG nL bl r l st H c s Q) : gG nL bl ((pc, .if_icmp .gt n, x, y, ts) :: r) l (.int b :: .int a :: st) H c s Q := fun lv hl => by
  cases e : mzCnd .gt a b with
  | true => exact g_stp (fun g => by show mzIf2 .gt (zEx g nL bl (mzBlk bl x)) (zEx g nL bl r) lv (.int b :: .int a :: st) H c s = _; unfold mzIf2; simp only [e, cond_true, cond_false]) (K1 (gc_gt.1 e) lv hl)
  | false => exact g_stp (fun g => by show mzIf2 .gt (zEx g nL bl (mzBlk bl x)) (zEx g nL bl r) lv (.int b :: .int a :: st) H c s = _; unfold mzIf2; simp only [e, cond_true, cond_false]) (K2 (gc_gt.2 e) lv hl)
theorem g_if_gt {a : Int32} {n : Int} (K1 : 0 < a.toInt → gG nL bl (mzBlk bl x) l st H c s Q) (K2 : a.toInt ≤ 0 → gG nL bl r l st H c s Q) : gG nL bl ((pc, .ifCond .gt n, x, y, ts) :: r) l (.int a :: st) H c s Q := fun lv hl => by
  cases e : mzCnd .gt a 0 with
  | true => exact g_stp (fun g => by show mzIf .gt (zEx g nL bl (mzBlk bl x)) (zEx g nL bl r) lv (.int a :: st) H c s = _; unfold mzIf; simp only [e, cond_true, cond_false]) (K1 (by have := gc_gt.1 e; rw [Int32.toInt_zero] at this; exact this) lv hl)
  | false => exact g_stp (fun g => by show mzIf .gt (zEx g nL bl (mzBlk bl x)) (zEx g nL bl r) lv (.int a :: st) H c s = _; unfold mzIf; simp only [e, cond_true, cond_false]) (K2 (by have := gc_gt.2 e; rw [Int32.toInt_zero] at this; exact this) lv hl)
theorem gc_le {a b : Int32} : (mzCnd .le a b = true → a.toInt ≤ b.toInt) ∧ (mzCnd .le a b = false → b.toInt < a.toInt) := by
  have e : mzCnd .le a b = (!mzLt b a) := rfl
  rw [e]
  simp only [gz_eq, gz_lt, Bool.not_eq_true', Bool.not_eq_false', decide_eq_true_eq, decide_eq_false_iff_not]
  constructor <;> intro h <;> omega
theorem g_if2_le {a b : Int32} {n : Int} (K1 : a.toInt ≤ b.toInt → gG nL bl (mzBlk bl x) l st H c s Q) (K2 : b.toInt < a.toInt → gG nL bl r l st H c s Q) : gG nL bl ((pc, .if_icmp .le n, x, y, ts) :: r) l (.int b :: .int a :: st) H c s Q := fun lv hl => by
  cases e : mzCnd .le a b with
  | true => exact g_stp (fun g => by show mzIf2 .le (zEx g nL bl (mzBlk bl x)) (zEx g nL bl r) lv (.int b :: .int a :: st) H c s = _; unfold mzIf2; simp only [e, cond_true, cond_false]) (K1 (gc_le.1 e) lv hl)
  | false => exact g_stp (fun g => by show mzIf2 .le (zEx g nL bl (mzBlk bl x)) (zEx g nL bl r) lv (.int b :: .int a :: st) H c s = _; unfold mzIf2; simp only [e, cond_true, cond_false]) (K2 (gc_le.2 e) lv hl)
theorem g_if_le {a : Int32} {n : Int} (K1 : a.toInt ≤ 0 → gG nL bl (mzBlk bl x) l st H c s Q) (K2 : 0 < a.toInt → gG nL bl r l st H c s Q) : gG nL bl ((pc, .ifCond .le n, x, y, ts) :: r) l (.int a :: st) H c s Q := fun lv hl => by
  cases e : mzCnd .le a 0 with
  | true => exact g_stp (fun g => by show mzIf .le (zEx g nL bl (mzBlk bl x)) (zEx g nL bl r) lv (.int a :: st) H c s = _; unfold mzIf; simp only [e, cond_true, cond_false]) (K1 (by have := gc_le.1 e; rw [Int32.toInt_zero] at this; exact this) lv hl)
  | false => exact g_stp (fun g => by show mzIf .le (zEx g nL bl (mzBlk bl x)) (zEx g nL bl r) lv (.int a :: st) H c s = _; unfold mzIf; simp only [e, cond_true, cond_false]) (K2 (by have := gc_le.2 e; rw [Int32.toInt_zero] at this; exact this) lv hl)
def gsw (P : Nat → Prop) (a : Int) : List Nat → Int → Prop
  | [], _ => True
  | b :: r, lo => (a = lo → P b) ∧ gsw P a r (lo + 1)
theorem gsw_at {P : Nat → Prop} {a : Int} : ∀ {ts : List Nat} {lo : Int}, gsw P a ts lo → ∀ {b : Nat}, lo ≤ a → ts[(a - lo).toNat]? = some b → P b
  | [], _, _, _, _, h => by simp at h
  | b :: r, lo, hs, b2, hle, h => by
    if e : a = lo then
      rw [e, Int.sub_self] at h
      simp only [Int.toNat_zero, List.getElem?_cons_zero, Option.some.injEq] at h
      exact h ▸ hs.1 e
    else
      have e2 : (a - lo).toNat = (a - (lo + 1)).toNat + 1 := by omega
      rw [e2, List.getElem?_cons_succ] at h
      exact gsw_at hs.2 (by omega) h
theorem g_sw {a : Int32} {df lo hi : Int} {os : Array Int} (hlen : hi - lo + 1 ≤ (ts.length : Int)) (Kd : a.toInt < lo ∨ hi < a.toInt → gG nL bl (mzBlk bl x) l st H c s Q) (K : gsw (fun b => gG nL bl (mzBlk bl b) l st H c s Q) a.toInt ts lo) : gG nL bl ((pc, .tableswitch df lo hi os, x, y, ts) :: r) l (.int a :: st) H c s Q := fun lv hl => by
  if e : a.toInt < lo ∨ hi < a.toInt then
    refine g_stp (fun g => ?_) (Kd e lv hl)
    show (bif decide (a.toInt < lo) || decide (hi < a.toInt) then _ else _) = _
    rw [show (decide (a.toInt < lo) || decide (hi < a.toInt)) = true by simpa using e]; rfl
  else
    have h1 : (a.toInt - lo).toNat < ts.length := by omega
    refine g_stp (fun g => ?_) (gsw_at K (b := ts[(a.toInt - lo).toNat]) (by omega) (List.getElem?_eq_getElem h1) lv hl)
    show (bif decide (a.toInt < lo) || decide (hi < a.toInt) then _ else match mzNq ts (a.toInt - lo).toNat with
      | some b => zEx g nL bl (mzBlk bl b) lv st H c s
      | none => none) = _
    rw [show (decide (a.toInt < lo) || decide (hi < a.toInt)) = false by simpa using e, cond_false, mzNq_eq, List.getElem?_eq_getElem h1]
/-- what a field, a cell must hold: a reference to a cell, or an int of an interval; an array of a kind, a length, ints of an interval; an object -/
abbrev gFs : Type := Nat ⊕ (Int × Int)
abbrev gSp : Type := (Nat × Nat × Int × Int) ⊕ (Nat × List gFs)
def gFo : gFs → Value → Prop
  | .inl q, v => v = .ref q
  | .inr (lo, hi), v => ∃ z : Int32, v = .int z ∧ lo ≤ z.toInt ∧ z.toInt ≤ hi
def gCo : gSp → mzC → Prop
  | .inl (d, n, lo, hi), .inl (e, k) => e = d ∧ k.length = n ∧ ∀ v ∈ k, lo ≤ v.toInt ∧ v.toInt ≤ hi
  | .inr (d, fs), .inr (e, vs) => e = d ∧ vs.length = fs.length ∧ ∀ (i : Nat) f, fs[i]? = some f → ∃ v, vs[i]? = some v ∧ gFo f v
  | _, _ => False
def gI (S : List gSp) (H : mzH) : Prop := H.length = S.length ∧ ∀ (a : Nat) sp, S[a]? = some sp → ∃ cl, H[a]? = some cl ∧ gCo sp cl
/-- an int field, an array's int; a field set, an array's place set, an array copied whole -/
def fZ (H : mzH) (a f : Nat) : Int32 := match H[a]? with
  | some (.inr (_, fs)) => (match fs[f]? with | some (.int v) => v | _ => 0)
  | _ => 0
def aZ (H : mzH) (a i : Nat) : Int32 := match H[a]? with
  | some (.inl (_, k)) => k.getD i 0
  | _ => 0
def sF (H : mzH) (a f : Nat) (v : Int32) : mzH := match H[a]? with
  | some (.inr (d, fs)) => H.set a (.inr (d, fs.set f (.int v)))
  | _ => H
def sA (H : mzH) (a i : Nat) (v : Int32) : mzH := match H[a]? with
  | some (.inl (d, k)) => H.set a (.inl (d, k.set i v))
  | _ => H
def sC (H : mzH) (b a : Nat) : mzH := match H[b]? with
  | some q => H.set a q
  | _ => H
theorem gI_obj {S : List gSp} (hI : gI S H) {a d : Nat} {fs : List gFs} (hs : S[a]? = some (.inr (d, fs))) : ∃ vs, H[a]? = some (.inr (d, vs)) ∧ vs.length = fs.length ∧ ∀ (i : Nat) f, fs[i]? = some f → ∃ v, vs[i]? = some v ∧ gFo f v := by
  obtain ⟨cl, h1, h2⟩ := hI.2 a _ hs
  match cl, h2 with
  | .inr (e, vs), h2 => obtain ⟨rfl, h3, h4⟩ := h2; exact ⟨vs, h1, h3, h4⟩
theorem gI_arr {S : List gSp} (hI : gI S H) {a d n : Nat} {lo hi : Int} (hs : S[a]? = some (.inl (d, n, lo, hi))) : ∃ k, H[a]? = some (.inl (d, k)) ∧ k.length = n ∧ ∀ v ∈ k, lo ≤ v.toInt ∧ v.toInt ≤ hi := by
  obtain ⟨cl, h1, h2⟩ := hI.2 a _ hs
  match cl, h2 with
  | .inl (e, vs), h2 => obtain ⟨rfl, h3, h4⟩ := h2; exact ⟨vs, h1, h3, h4⟩
theorem gI_set {S : List gSp} (hI : gI S H) {a : Nat} {sp : gSp} {cl : mzC} (hs : S[a]? = some sp) (hc : gCo sp cl) : gI S (H.set a cl) := by
  refine ⟨by rw [List.length_set]; exact hI.1, fun b sq hb => ?_⟩
  if e : a = b then
    subst e
    rw [hs] at hb
    have hlt : a < H.length := by rw [hI.1]; exact (List.getElem?_eq_some_iff.mp hs).1
    exact ⟨cl, by rw [List.getElem?_set_self hlt], (Option.some.inj hb) ▸ hc⟩
  else
    obtain ⟨q, h1, h2⟩ := hI.2 b sq hb
    exact ⟨q, by rw [List.getElem?_set_ne e]; exact h1, h2⟩
theorem gI_sF {S : List gSp} (hI : gI S H) {a d f : Nat} {fs : List gFs} {lo hi : Int} {v : Int32} (hs : S[a]? = some (.inr (d, fs))) (hf : fs[f]? = some (.inr (lo, hi))) (hb : lo ≤ v.toInt ∧ v.toInt ≤ hi) : gI S (sF H a f v) := by
  obtain ⟨vs, h1, h2, h3⟩ := gI_obj hI hs
  unfold sF
  rw [h1]
  refine gI_set hI hs ⟨rfl, by rw [List.length_set]; exact h2, fun i g hg => ?_⟩
  if e : f = i then
    subst e
    have hlt : f < vs.length := by rw [h2]; exact (List.getElem?_eq_some_iff.mp hg).1
    rw [hf] at hg
    exact ⟨.int v, by rw [List.getElem?_set_self hlt], (Option.some.inj hg) ▸ ⟨v, rfl, hb.1, hb.2⟩⟩
  else
    obtain ⟨q, h4, h5⟩ := h3 i g hg
    exact ⟨q, by rw [List.getElem?_set_ne e]; exact h4, h5⟩
theorem gI_sA {S : List gSp} (hI : gI S H) {a d n i : Nat} {lo hi : Int} {v : Int32} (hs : S[a]? = some (.inl (d, n, lo, hi))) (hb : lo ≤ v.toInt ∧ v.toInt ≤ hi) : gI S (sA H a i v) := by
  obtain ⟨k, h1, h2, h3⟩ := gI_arr hI hs
  unfold sA
  rw [h1]
  refine gI_set hI hs ⟨rfl, by rw [List.length_set]; exact h2, fun u hu => ?_⟩
  rcases List.mem_or_eq_of_mem_set hu with h | h
  · exact h3 u h
  · exact h ▸ hb
theorem gI_sC {S : List gSp} (hI : gI S H) {a b n : Nat} {lo hi lo1 hi1 : Int} (hs : S[a]? = some (.inl (0, n, lo, hi))) (hs1 : S[b]? = some (.inl (0, n, lo1, hi1))) (hlo : lo ≤ lo1) (hhi : hi1 ≤ hi) : gI S (sC H b a) := by
  obtain ⟨k, h1, h2, h3⟩ := gI_arr hI hs1
  unfold sC
  rw [h1]
  exact gI_set hI hs ⟨rfl, h2, fun u hu => ⟨Int.le_trans hlo (h3 u hu).1, Int.le_trans (h3 u hu).2 hhi⟩⟩
theorem fZ_of {S : List gSp} (hI : gI S H) {a d f : Nat} {fs : List gFs} {lo hi : Int} (hs : S[a]? = some (.inr (d, fs))) (hf : fs[f]? = some (.inr (lo, hi))) : lo ≤ (fZ H a f).toInt ∧ (fZ H a f).toInt ≤ hi := by
  obtain ⟨vs, h1, h2, h3⟩ := gI_obj hI hs
  obtain ⟨v, h4, z, rfl, h5⟩ := h3 f _ hf
  unfold fZ
  rw [h1]
  simp only [h4]
  exact h5
theorem aZ_of {S : List gSp} (hI : gI S H) {a d n i : Nat} {lo hi : Int} (hs : S[a]? = some (.inl (d, n, lo, hi))) (hi2 : i < n) : lo ≤ (aZ H a i).toInt ∧ (aZ H a i).toInt ≤ hi := by
  obtain ⟨k, h1, h2, h3⟩ := gI_arr hI hs
  unfold aZ
  rw [h1]
  simp only
  rw [List.getD_eq_getElem?_getD, List.getElem?_eq_getElem (by omega)]
  exact h3 _ (List.getElem_mem _)
theorem g_gfi {S : List gSp} {a ci f q t : Nat} {fs : List gFs} {lo hi : Int} (hI : gI S H) (hs : S[a]? = some (.inr (ci, fs))) (hf : fs[f]? = some (.inr (lo, hi))) (K : ∀ v : Int32, v = fZ H a f → lo ≤ v.toInt → v.toInt ≤ hi → gG nL bl r l (.int v :: st) H c s Q) : gG nL bl ((pc, .getfield q, ci, f, [t]) :: r) l (.ref a :: st) H c s Q := fun lv hl => by
  have hz := fZ_of hI hs hf
  obtain ⟨vs, h1, h2, h3⟩ := gI_obj hI hs
  obtain ⟨v, h4, z, rfl, h5⟩ := h3 f _ hf
  have e : fZ H a f = z := by unfold fZ; rw [h1]; simp only [h4]
  refine g_stp (fun g => ?_) (K z e.symm (e ▸ hz.1) (e ▸ hz.2) lv hl)
  show mzGf ci f (zEx g nL bl r) lv (.ref a :: st) H c s = _
  unfold mzGf
  simp only [mzNq_eq, h1, Nat.beq_refl, cond_true, h4]
theorem g_gfr {S : List gSp} {a ci f q t b : Nat} {fs : List gFs} (hI : gI S H) (hs : S[a]? = some (.inr (ci, fs))) (hf : fs[f]? = some (.inl b)) (K : gG nL bl r l (.ref b :: st) H c s Q) : gG nL bl ((pc, .getfield q, ci, f, [t]) :: r) l (.ref a :: st) H c s Q := fun lv hl => by
  obtain ⟨vs, h1, h2, h3⟩ := gI_obj hI hs
  obtain ⟨v, h4, rfl⟩ := h3 f _ hf
  refine g_stp (fun g => ?_) (K lv hl)
  show mzGf ci f (zEx g nL bl r) lv (.ref a :: st) H c s = _
  unfold mzGf
  simp only [mzNq_eq, h1, Nat.beq_refl, cond_true, h4]
theorem g_pf {S : List gSp} {a ci f q t : Nat} {fs : List gFs} {lo hi : Int} {v : Int32} (hI : gI S H) (hs : S[a]? = some (.inr (ci, fs))) (hf : fs[f]? = some (.inr (lo, hi))) (ht : mzFit t (.int v) = true) (hb : lo ≤ v.toInt ∧ v.toInt ≤ hi) (K : ∀ H1, H1 = sF H a f v → gI S H1 → gG nL bl r l st H1 c s Q) : gG nL bl ((pc, .putfield q, ci, f, [t]) :: r) l (.int v :: .ref a :: st) H c s Q := fun lv hl => by
  have hz := gI_sF hI hs hf hb
  obtain ⟨vs, h1, h2, h3⟩ := gI_obj hI hs
  have hlt : f < vs.length := by rw [h2]; exact (List.getElem?_eq_some_iff.mp hf).1
  refine g_stp (fun g => ?_) (K _ rfl hz lv hl)
  show mzPf ci f t (zEx g nL bl r) lv (.int v :: .ref a :: st) H c s = _
  unfold mzPf
  simp only [mzNq_eq, h1, Nat.beq_refl, ht, Nat.blt_eq.mpr hlt, Bool.and_self, cond_true, mzSetK_eq]
  unfold sF
  rw [h1]
theorem gz_fit {v : Int32} (h : 0 ≤ v.toInt ∧ v.toInt ≤ 1) : v = 0 ∨ v = 1 := by
  rcases (show v.toInt = 0 ∨ v.toInt = 1 by omega) with e | e
  · exact .inl (Int32.toInt_inj.mp (by rw [e]; rfl))
  · exact .inr (Int32.toInt_inj.mp (by rw [e]; rfl))
theorem g_pfi {S : List gSp} {a ci f q : Nat} {fs : List gFs} {lo hi : Int} {v : Int32} (hI : gI S H) (hs : S[a]? = some (.inr (ci, fs))) (hf : fs[f]? = some (.inr (lo, hi))) (hb : lo ≤ v.toInt ∧ v.toInt ≤ hi) (K : ∀ H1, H1 = sF H a f v → gI S H1 → gG nL bl r l st H1 c s Q) : gG nL bl ((pc, .putfield q, ci, f, [0]) :: r) l (.int v :: .ref a :: st) H c s Q := g_pf hI hs hf rfl hb K
theorem g_pfz {S : List gSp} {a ci f q : Nat} {fs : List gFs} {v : Int32} (hI : gI S H) (hs : S[a]? = some (.inr (ci, fs))) (hf : fs[f]? = some (.inr (0, 1))) (hb : 0 ≤ v.toInt ∧ v.toInt ≤ 1) (K : ∀ H1, H1 = sF H a f v → gI S H1 → gG nL bl r l st H1 c s Q) : gG nL bl ((pc, .putfield q, ci, f, [1]) :: r) l (.int v :: .ref a :: st) H c s Q := g_pf hI hs hf (by rcases gz_fit hb with e | e <;> subst e <;> rfl) hb K
theorem gz_ix {i : Int32} {k : List Int32} {n : Nat} (hn : k.length = n) (h : 0 ≤ i.toInt ∧ i.toInt < n) : mzN i = i.toInt.toNat ∧ mzIx k i = some (k.getD i.toInt.toNat 0) := by
  have h1 := mzN_ge h.1
  have e : i.toNatClampNeg = i.toInt.toNat := rfl
  refine ⟨h1.2.trans e, ?_⟩
  unfold mzIx
  rw [h1.1, cond_true, h1.2, e, mzNq_eq, List.getD_eq_getElem?_getD, List.getElem?_eq_getElem (by omega)]; rfl
theorem g_iaload {S : List gSp} {a d n : Nat} {lo hi : Int} {i : Int32} (hI : gI S H) (hs : S[a]? = some (.inl (d, n, lo, hi))) (hd : Bool.xor false (Nat.beq d 0) = true) (hi2 : 0 ≤ i.toInt ∧ i.toInt < n) (K : ∀ v : Int32, v = aZ H a i.toInt.toNat → lo ≤ v.toInt → v.toInt ≤ hi → gG nL bl r l (.int v :: st) H c s Q) : gG nL bl ((pc, .iaload, x, y, ts) :: r) l (.int i :: .ref a :: st) H c s Q := fun lv hl => by
  have hz := aZ_of hI hs (i := i.toInt.toNat) (by omega)
  obtain ⟨k, h1, h2, h3⟩ := gI_arr hI hs
  have hx := gz_ix h2 hi2
  have e : aZ H a i.toInt.toNat = k.getD i.toInt.toNat 0 := by unfold aZ; rw [h1]
  refine g_stp (fun g => ?_) (K _ rfl hz.1 hz.2 lv hl)
  show mzAl false (zEx g nL bl r) lv (.int i :: .ref a :: st) H c s = _
  unfold mzAl
  simp only [mzNq_eq, h1, hd, cond_true, hx.2, e]
theorem g_baload {S : List gSp} {a d n : Nat} {lo hi : Int} {i : Int32} (hI : gI S H) (hs : S[a]? = some (.inl (d, n, lo, hi))) (hd : Bool.xor true (Nat.beq d 0) = true) (hi2 : 0 ≤ i.toInt ∧ i.toInt < n) (K : ∀ v : Int32, v = aZ H a i.toInt.toNat → lo ≤ v.toInt → v.toInt ≤ hi → gG nL bl r l (.int v :: st) H c s Q) : gG nL bl ((pc, .baload, x, y, ts) :: r) l (.int i :: .ref a :: st) H c s Q := fun lv hl => by
  have hz := aZ_of hI hs (i := i.toInt.toNat) (by omega)
  obtain ⟨k, h1, h2, h3⟩ := gI_arr hI hs
  have hx := gz_ix h2 hi2
  have e : aZ H a i.toInt.toNat = k.getD i.toInt.toNat 0 := by unfold aZ; rw [h1]
  refine g_stp (fun g => ?_) (K _ rfl hz.1 hz.2 lv hl)
  show mzAl true (zEx g nL bl r) lv (.int i :: .ref a :: st) H c s = _
  unfold mzAl
  simp only [mzNq_eq, h1, hd, cond_true, hx.2, e]
theorem gx_iastore {S : List gSp} {a d n : Nat} {lo hi : Int} {i v w : Int32} (hI : gI S H) (hs : S[a]? = some (.inl (d, n, lo, hi))) (hd : Bool.xor false (Nat.beq d 0) = true) (hi2 : 0 ≤ i.toInt ∧ i.toInt < n) (hw : vp_nar (mzTy d) v = w) (hb : lo ≤ w.toInt ∧ w.toInt ≤ hi) (K : ∀ H1, H1 = sA H a i.toInt.toNat w → gI S H1 → gG nL bl r l st H1 c s Q) : gG nL bl ((pc, .iastore, x, y, ts) :: r) l (.int v :: .int i :: .ref a :: st) H c s Q := fun lv hl => by
  have hz := gI_sA hI hs (i := i.toInt.toNat) hb
  obtain ⟨k, h1, h2, h3⟩ := gI_arr hI hs
  have hx := gz_ix h2 hi2
  refine g_stp (fun g => ?_) (K _ rfl hz lv hl)
  show mzAs false (zEx g nL bl r) lv (.int v :: .int i :: .ref a :: st) H c s = _
  unfold mzAs
  simp only [mzNq_eq, h1, hd, cond_true, hx.2, hw, mzSetK_eq, hx.1]
  unfold sA
  rw [h1]
theorem gx_bastore {S : List gSp} {a d n : Nat} {lo hi : Int} {i v w : Int32} (hI : gI S H) (hs : S[a]? = some (.inl (d, n, lo, hi))) (hd : Bool.xor true (Nat.beq d 0) = true) (hi2 : 0 ≤ i.toInt ∧ i.toInt < n) (hw : vp_nar (mzTy d) v = w) (hb : lo ≤ w.toInt ∧ w.toInt ≤ hi) (K : ∀ H1, H1 = sA H a i.toInt.toNat w → gI S H1 → gG nL bl r l st H1 c s Q) : gG nL bl ((pc, .bastore, x, y, ts) :: r) l (.int v :: .int i :: .ref a :: st) H c s Q := fun lv hl => by
  have hz := gI_sA hI hs (i := i.toInt.toNat) hb
  obtain ⟨k, h1, h2, h3⟩ := gI_arr hI hs
  have hx := gz_ix h2 hi2
  refine g_stp (fun g => ?_) (K _ rfl hz lv hl)
  show mzAs true (zEx g nL bl r) lv (.int v :: .int i :: .ref a :: st) H c s = _
  unfold mzAs
  simp only [mzNq_eq, h1, hd, cond_true, hx.2, hw, mzSetK_eq, hx.1]
  unfold sA
  rw [h1]
theorem g_iastore {S : List gSp} {a n : Nat} {lo hi : Int} {i v : Int32} (hI : gI S H) (hs : S[a]? = some (.inl (0, n, lo, hi))) (hi2 : 0 ≤ i.toInt ∧ i.toInt < n) (hb : lo ≤ v.toInt ∧ v.toInt ≤ hi) (K : ∀ H1, H1 = sA H a i.toInt.toNat v → gI S H1 → gG nL bl r l st H1 c s Q) : gG nL bl ((pc, .iastore, x, y, ts) :: r) l (.int v :: .int i :: .ref a :: st) H c s Q := gx_iastore hI hs rfl hi2 rfl hb K
theorem gz_nb {v : Int32} (h : 0 ≤ v.toInt ∧ v.toInt ≤ 1) : vp_nar .boolean v = v := by rcases gz_fit h with e | e <;> subst e <;> rfl
theorem gz_ny (v : Int32) : -128 ≤ (vp_nar .byte v).toInt ∧ (vp_nar .byte v).toInt ≤ 127 := by
  have e : vp_nar .byte v = v.toInt8.toInt32 := rfl
  rw [e, Int8.toInt_toInt32]
  have h1 := Int8.le_toInt v.toInt8
  have h2 := Int8.toInt_lt v.toInt8
  omega
theorem g_zastore {S : List gSp} {a n : Nat} {i v : Int32} (hI : gI S H) (hs : S[a]? = some (.inl (1, n, 0, 1))) (hi2 : 0 ≤ i.toInt ∧ i.toInt < n) (hb : 0 ≤ v.toInt ∧ v.toInt ≤ 1) (K : ∀ H1, H1 = sA H a i.toInt.toNat v → gI S H1 → gG nL bl r l st H1 c s Q) : gG nL bl ((pc, .bastore, x, y, ts) :: r) l (.int v :: .int i :: .ref a :: st) H c s Q := gx_bastore hI hs rfl hi2 (gz_nb hb) hb K
theorem g_yastore {S : List gSp} {a n : Nat} {i v : Int32} (hI : gI S H) (hs : S[a]? = some (.inl (2, n, -128, 127))) (hi2 : 0 ≤ i.toInt ∧ i.toInt < n) (K : ∀ H1, H1 = sA H a i.toInt.toNat (vp_nar .byte v) → gI S H1 → gG nL bl r l st H1 c s Q) : gG nL bl ((pc, .bastore, x, y, ts) :: r) l (.int v :: .int i :: .ref a :: st) H c s Q := gx_bastore hI hs rfl hi2 rfl (gz_ny v) K
theorem g_len {S : List gSp} {a d n : Nat} {lo hi : Int} (hI : gI S H) (hs : S[a]? = some (.inl (d, n, lo, hi))) (hn : (Int32.ofNat n).toInt = n) (K : ∀ v : Int32, v.toInt = n → gG nL bl r l (.int v :: st) H c s Q) : gG nL bl ((pc, .arraylength, x, y, ts) :: r) l (.ref a :: st) H c s Q := fun lv hl => by
  obtain ⟨k, h1, h2, h3⟩ := gI_arr hI hs
  refine g_stp (fun g => ?_) (K (Int32.ofNat n) hn lv hl)
  show mzLen (zEx g nL bl r) lv (.ref a :: st) H c s = _
  unfold mzLen
  simp only [mzNq_eq, h1, h2]
theorem g_acp {S : List gSp} {a b n q : Nat} {lo hi lo1 hi1 : Int} {v dp sp : Int32} (hI : gI S H) (hs : S[a]? = some (.inl (0, n, lo, hi))) (hs1 : S[b]? = some (.inl (0, n, lo1, hi1))) (hlo : lo ≤ lo1) (hhi : hi1 ≤ hi) (hn : v.toInt = n) (hdp : dp.toInt = 0) (hsp : sp.toInt = 0) (hw : Nat.ble (mzWd st) 8 = true) (K : ∀ H1, H1 = sC H b a → gI S H1 → gG nL bl r l st H1 c s Q) : gG nL bl ((pc, .invokestatic q, x, y, [0]) :: r) l (.int v :: .int dp :: .ref a :: .int sp :: .ref b :: st) H c s Q := fun lv hl => by
  have hz := gI_sC hI hs hs1 hlo hhi
  obtain ⟨k, h1, h2, h3⟩ := gI_arr hI hs
  obtain ⟨k1, h4, h5, h6⟩ := gI_arr hI hs1
  refine g_stp (fun g => ?_) (K _ rfl hz lv hl)
  show mzAcp (zEx g nL bl r) lv (.int v :: .int dp :: .ref a :: .int sp :: .ref b :: st) H c s = _
  have e1 : dp.toNatClampNeg = 0 := by show dp.toInt.toNat = 0; omega
  have e2 : sp.toNatClampNeg = 0 := by show sp.toInt.toNat = 0; omega
  have e3 : v.toNatClampNeg = n := by show v.toInt.toNat = n; omega
  have c1 : ¬ sp < 0 := by rw [Int32.lt_iff_toInt_lt, Int32.toInt_zero]; omega
  have c2 : ¬ dp < 0 := by rw [Int32.lt_iff_toInt_lt, Int32.toInt_zero]; omega
  have c3 : ¬ v < 0 := by rw [Int32.lt_iff_toInt_lt, Int32.toInt_zero]; omega
  have e4 : mzCpy k1 k 0 0 n = k1 := by
    unfold mzCpy
    simp only [List.take_zero, List.drop_zero, List.nil_append, Nat.zero_add]
    rw [← h5, List.take_length, h5, ← h2, List.drop_length, List.append_nil]
  unfold mzAcp
  simp only [mzNq_eq, h1, h4]
  rw [decide_eq_false c1, decide_eq_false c2, decide_eq_false c3, e1, e2, e3, Nat.zero_add, h2, h5, Nat.ble_eq.mpr (Nat.le_refl n), hw, mzSetK_eq, e4]
  unfold sC
  rw [h4]; rfl
theorem g_max {a b : Int32} {q : Nat} (hw : Nat.ble (mzWd st) 8 = true) (K : ∀ v : Int32, a.toInt ≤ v.toInt → b.toInt ≤ v.toInt → v.toInt = a.toInt ∨ v.toInt = b.toInt → gG nL bl r l (.int v :: st) H c s Q) : gG nL bl ((pc, .invokestatic q, x, y, [1]) :: r) l (.int b :: .int a :: st) H c s Q := fun lv hl => by
  have h : ∀ v : Int32, v = (if a < b then b else a) → a.toInt ≤ v.toInt ∧ b.toInt ≤ v.toInt ∧ (v.toInt = a.toInt ∨ v.toInt = b.toInt) := by
    intro v hv
    split at hv <;> rename_i h <;> rw [Int32.lt_iff_toInt_lt] at h <;> subst hv <;> omega
  refine g_stp (fun g => ?_) (K _ (h _ rfl).1 (h _ rfl).2.1 (h _ rfl).2.2 lv hl)
  show (bif Nat.ble (mzWd st) 8 then _ else none) = _
  rw [hw]; rfl
theorem g_min {a b : Int32} {q : Nat} (hw : Nat.ble (mzWd st) 8 = true) (K : ∀ v : Int32, v.toInt ≤ a.toInt → v.toInt ≤ b.toInt → v.toInt = a.toInt ∨ v.toInt = b.toInt → gG nL bl r l (.int v :: st) H c s Q) : gG nL bl ((pc, .invokestatic q, x, y, [2]) :: r) l (.int b :: .int a :: st) H c s Q := fun lv hl => by
  have h : ∀ v : Int32, v = (if b < a then b else a) → v.toInt ≤ a.toInt ∧ v.toInt ≤ b.toInt ∧ (v.toInt = a.toInt ∨ v.toInt = b.toInt) := by
    intro v hv
    split at hv <;> rename_i h <;> rw [Int32.lt_iff_toInt_lt] at h <;> subst hv <;> omega
  refine g_stp (fun g => ?_) (K _ (h _ rfl).1 (h _ rfl).2.1 (h _ rfl).2.2 lv hl)
  show (bif Nat.ble (mzWd st) 8 then _ else none) = _
  rw [hw]; rfl
/-- what a call comes to: an int, a long, a reference, nothing -/
def gRi (R : Int32 → mzH → Prop) : Option Value → mzH → Prop := fun q H => ∃ v, q = some (.int v) ∧ R v H
def gRl (R : Int64 → mzH → Prop) : Option Value → mzH → Prop := fun q H => ∃ v, q = some (.long v) ∧ R v H
def gRa (a : Nat) (R : mzH → Prop) : Option Value → mzH → Prop := fun q H => q = some (.ref a) ∧ R H
def gRv (R : mzH → Prop) : Option Value → mzH → Prop := fun q H => q = none ∧ R H
theorem g_iret {v : Int32} (K : Q (some (.int v)) H) : gG nL bl ((pc, .ireturn, 0, y, ts) :: r) l [.int v] H c s Q := fun lv _ => ⟨_, _, K, 1, fun f hf => by obtain ⟨g, rfl⟩ : ∃ g, f = g + 1 := ⟨f - 1, by omega⟩; rfl⟩
theorem g_zret {v : Int32} (h : 0 ≤ v.toInt ∧ v.toInt ≤ 1) (K : Q (some (.int v)) H) : gG nL bl ((pc, .ireturn, 1, y, ts) :: r) l [.int v] H c s Q := fun lv _ => ⟨_, _, K, 1, fun f hf => by
  obtain ⟨g, rfl⟩ : ∃ g, f = g + 1 := ⟨f - 1, by omega⟩
  rcases gz_fit h with e | e <;> subst e <;> rfl⟩
theorem g_lret {v : Int64} (K : Q (some (.long v)) H) : gG nL bl ((pc, .lreturn, x, y, ts) :: r) l [.long v] H c s Q := fun lv _ => ⟨_, _, K, 1, fun f hf => by obtain ⟨g, rfl⟩ : ∃ g, f = g + 1 := ⟨f - 1, by omega⟩; rfl⟩
theorem g_aret {v : Nat} (K : Q (some (.ref v)) H) : gG nL bl ((pc, .areturn, x, y, ts) :: r) l [.ref v] H c s Q := fun lv _ => ⟨_, _, K, 1, fun f hf => by obtain ⟨g, rfl⟩ : ∃ g, f = g + 1 := ⟨f - 1, by omega⟩; rfl⟩
theorem g_ret (K : Q none H) : gG nL bl ((pc, .return_, x, y, ts) :: r) l [] H c s Q := fun lv _ => ⟨_, _, K, 1, fun f hf => by obtain ⟨g, rfl⟩ : ∃ g, f = g + 1 := ⟨f - 1, by omega⟩; rfl⟩
theorem gz_inv {g : List Value → mzH → Bool} {na : Nat} {st : List Value} {as st' : List Value} {P : Option Value → mzH → Prop} {lv : mzL} (hg : g st H = true) (hs : (Nat.ble na st.length && (Nat.ble (mzWd (st.drop na)) 8 && (Nat.ble 0 c && (Nat.ble 0 s && Nat.ble (mzWd (st.take na)) (zN x))))) = true) (ea : (st.take na).reverse = as) (ed : st.drop na = st') (hM : gCall x as H P) (K : ∀ o H1, P o H1 → gGo nL bl r lv (o.toList ++ st') H1 c s Q) : ∃ o H', Q o H' ∧ ∃ f0, ∀ f, f0 ≤ f → mzInv g (zN x) (zEx f (zN x) (zB x) (mzBlk (zB x) 0)) na 0 0 (zEx f nL bl r) lv st H c s = some (o, H') := by
  obtain ⟨o1, H1, hP, f1, hf1⟩ := hM
  obtain ⟨o2, H2, hQ, f2, hf2⟩ := K o1 H1 hP
  refine ⟨o2, H2, hQ, f1 + f2, fun f hf => ?_⟩
  unfold mzInv
  rw [hg, hs, ea, ed]
  simp only [Bool.and_self, cond_true, hf1 f (by omega)]
  exact hf2 f (by omega)
theorem gz_up {i : Instr} {lv : mzL} (h : ∃ o H', Q o H' ∧ ∃ f0, ∀ f, f0 ≤ f → mzStp (zEx f) nL bl ((pc, i, x, y, ts) :: r) lv st H c s = some (o, H')) : gGo nL bl ((pc, i, x, y, ts) :: r) lv st H c s Q := by
  obtain ⟨o, H', hQ, f0, hf⟩ := h
  refine ⟨o, H', hQ, f0 + 1, fun f hle => ?_⟩
  obtain ⟨g, rfl⟩ : ∃ g, f = g + 1 := ⟨f - 1, by omega⟩
  exact hf g (by omega)
theorem gz_rcv {S : List gSp} {a na : Nat} {fs : List gFs} (hI : gI S H) (hs : S[a]? = some (.inr (y, fs))) (ha : st[na - 1]? = some (.ref a)) : mzRcv na y st H = true := by
  obtain ⟨vs, h1, h2, h3⟩ := gI_obj hI hs
  unfold mzRcv
  simp only [mzNq_eq, ha, h1, Nat.beq_refl]
theorem g_invvi {S : List gSp} {a na q : Nat} {fs : List gFs} {as st' : List Value} {R : Int32 → mzH → Prop} (hI : gI S H) (hs : S[a]? = some (.inr (y, fs))) (ha : st[na - 1]? = some (.ref a)) (hw : (Nat.ble na st.length && (Nat.ble (mzWd (st.drop na)) 8 && (Nat.ble 0 c && (Nat.ble 0 s && Nat.ble (mzWd (st.take na)) (zN x))))) = true) (ea : (st.take na).reverse = as) (ed : st.drop na = st') (hM : gCall x as H (gRi R)) (K : ∀ (v : Int32) H1, R v H1 → gG nL bl r l (.int v :: st') H1 c s Q) : gG nL bl ((pc, .invokevirtual q, x, y, [na, 0, 0]) :: r) l st H c s Q := fun lv hl => gz_up (gz_inv (g := mzRcv na y) (gz_rcv hI hs ha) hw ea ed hM (fun o H1 hP => by obtain ⟨v, rfl, hR⟩ := hP; exact K v H1 hR lv hl))
theorem g_invsi {S : List gSp} {a na q : Nat} {fs : List gFs} {as st' : List Value} {R : Int32 → mzH → Prop} (hI : gI S H) (hs : S[a]? = some (.inr (y, fs))) (ha : st[na - 1]? = some (.ref a)) (hw : (Nat.ble na st.length && (Nat.ble (mzWd (st.drop na)) 8 && (Nat.ble 0 c && (Nat.ble 0 s && Nat.ble (mzWd (st.take na)) (zN x))))) = true) (ea : (st.take na).reverse = as) (ed : st.drop na = st') (hM : gCall x as H (gRi R)) (K : ∀ (v : Int32) H1, R v H1 → gG nL bl r l (.int v :: st') H1 c s Q) : gG nL bl ((pc, .invokespecial q, x, y, [na, 0, 0]) :: r) l st H c s Q := fun lv hl => gz_up (gz_inv (g := mzRcv na y) (gz_rcv hI hs ha) hw ea ed hM (fun o H1 hP => by obtain ⟨v, rfl, hR⟩ := hP; exact K v H1 hR lv hl))
theorem g_invti {na q : Nat} {as st' : List Value} {R : Int32 → mzH → Prop} (hw : (Nat.ble na st.length && (Nat.ble (mzWd (st.drop na)) 8 && (Nat.ble 0 c && (Nat.ble 0 s && Nat.ble (mzWd (st.take na)) (zN x))))) = true) (ea : (st.take na).reverse = as) (ed : st.drop na = st') (hM : gCall x as H (gRi R)) (K : ∀ (v : Int32) H1, R v H1 → gG nL bl r l (.int v :: st') H1 c s Q) : gG nL bl ((pc, .invokestatic q, x, y, [na, 0, 0]) :: r) l st H c s Q := fun lv hl => gz_up (gz_inv (g := fun _ _ => true) rfl hw ea ed hM (fun o H1 hP => by obtain ⟨v, rfl, hR⟩ := hP; exact K v H1 hR lv hl))
theorem g_invvl {S : List gSp} {a na q : Nat} {fs : List gFs} {as st' : List Value} {R : Int64 → mzH → Prop} (hI : gI S H) (hs : S[a]? = some (.inr (y, fs))) (ha : st[na - 1]? = some (.ref a)) (hw : (Nat.ble na st.length && (Nat.ble (mzWd (st.drop na)) 8 && (Nat.ble 0 c && (Nat.ble 0 s && Nat.ble (mzWd (st.take na)) (zN x))))) = true) (ea : (st.take na).reverse = as) (ed : st.drop na = st') (hM : gCall x as H (gRl R)) (K : ∀ (v : Int64) H1, R v H1 → gG nL bl r l (.long v :: st') H1 c s Q) : gG nL bl ((pc, .invokevirtual q, x, y, [na, 0, 0]) :: r) l st H c s Q := fun lv hl => gz_up (gz_inv (g := mzRcv na y) (gz_rcv hI hs ha) hw ea ed hM (fun o H1 hP => by obtain ⟨v, rfl, hR⟩ := hP; exact K v H1 hR lv hl))
theorem g_invsl {S : List gSp} {a na q : Nat} {fs : List gFs} {as st' : List Value} {R : Int64 → mzH → Prop} (hI : gI S H) (hs : S[a]? = some (.inr (y, fs))) (ha : st[na - 1]? = some (.ref a)) (hw : (Nat.ble na st.length && (Nat.ble (mzWd (st.drop na)) 8 && (Nat.ble 0 c && (Nat.ble 0 s && Nat.ble (mzWd (st.take na)) (zN x))))) = true) (ea : (st.take na).reverse = as) (ed : st.drop na = st') (hM : gCall x as H (gRl R)) (K : ∀ (v : Int64) H1, R v H1 → gG nL bl r l (.long v :: st') H1 c s Q) : gG nL bl ((pc, .invokespecial q, x, y, [na, 0, 0]) :: r) l st H c s Q := fun lv hl => gz_up (gz_inv (g := mzRcv na y) (gz_rcv hI hs ha) hw ea ed hM (fun o H1 hP => by obtain ⟨v, rfl, hR⟩ := hP; exact K v H1 hR lv hl))
theorem g_invtl {na q : Nat} {as st' : List Value} {R : Int64 → mzH → Prop} (hw : (Nat.ble na st.length && (Nat.ble (mzWd (st.drop na)) 8 && (Nat.ble 0 c && (Nat.ble 0 s && Nat.ble (mzWd (st.take na)) (zN x))))) = true) (ea : (st.take na).reverse = as) (ed : st.drop na = st') (hM : gCall x as H (gRl R)) (K : ∀ (v : Int64) H1, R v H1 → gG nL bl r l (.long v :: st') H1 c s Q) : gG nL bl ((pc, .invokestatic q, x, y, [na, 0, 0]) :: r) l st H c s Q := fun lv hl => gz_up (gz_inv (g := fun _ _ => true) rfl hw ea ed hM (fun o H1 hP => by obtain ⟨v, rfl, hR⟩ := hP; exact K v H1 hR lv hl))
theorem g_invva {S : List gSp} {a na q : Nat} {fs : List gFs} {as st' : List Value} {R : mzH → Prop} {b : Nat} (hI : gI S H) (hs : S[a]? = some (.inr (y, fs))) (ha : st[na - 1]? = some (.ref a)) (hw : (Nat.ble na st.length && (Nat.ble (mzWd (st.drop na)) 8 && (Nat.ble 0 c && (Nat.ble 0 s && Nat.ble (mzWd (st.take na)) (zN x))))) = true) (ea : (st.take na).reverse = as) (ed : st.drop na = st') (hM : gCall x as H (gRa b R)) (K : ∀ H1, R H1 → gG nL bl r l (.ref b :: st') H1 c s Q) : gG nL bl ((pc, .invokevirtual q, x, y, [na, 0, 0]) :: r) l st H c s Q := fun lv hl => gz_up (gz_inv (g := mzRcv na y) (gz_rcv hI hs ha) hw ea ed hM (fun o H1 hP => by obtain ⟨rfl, hR⟩ := hP; exact K H1 hR lv hl))
theorem g_invsa {S : List gSp} {a na q : Nat} {fs : List gFs} {as st' : List Value} {R : mzH → Prop} {b : Nat} (hI : gI S H) (hs : S[a]? = some (.inr (y, fs))) (ha : st[na - 1]? = some (.ref a)) (hw : (Nat.ble na st.length && (Nat.ble (mzWd (st.drop na)) 8 && (Nat.ble 0 c && (Nat.ble 0 s && Nat.ble (mzWd (st.take na)) (zN x))))) = true) (ea : (st.take na).reverse = as) (ed : st.drop na = st') (hM : gCall x as H (gRa b R)) (K : ∀ H1, R H1 → gG nL bl r l (.ref b :: st') H1 c s Q) : gG nL bl ((pc, .invokespecial q, x, y, [na, 0, 0]) :: r) l st H c s Q := fun lv hl => gz_up (gz_inv (g := mzRcv na y) (gz_rcv hI hs ha) hw ea ed hM (fun o H1 hP => by obtain ⟨rfl, hR⟩ := hP; exact K H1 hR lv hl))
theorem g_invta {na q : Nat} {as st' : List Value} {R : mzH → Prop} {b : Nat} (hw : (Nat.ble na st.length && (Nat.ble (mzWd (st.drop na)) 8 && (Nat.ble 0 c && (Nat.ble 0 s && Nat.ble (mzWd (st.take na)) (zN x))))) = true) (ea : (st.take na).reverse = as) (ed : st.drop na = st') (hM : gCall x as H (gRa b R)) (K : ∀ H1, R H1 → gG nL bl r l (.ref b :: st') H1 c s Q) : gG nL bl ((pc, .invokestatic q, x, y, [na, 0, 0]) :: r) l st H c s Q := fun lv hl => gz_up (gz_inv (g := fun _ _ => true) rfl hw ea ed hM (fun o H1 hP => by obtain ⟨rfl, hR⟩ := hP; exact K H1 hR lv hl))
theorem g_invvv {S : List gSp} {a na q : Nat} {fs : List gFs} {as st' : List Value} {R : mzH → Prop} (hI : gI S H) (hs : S[a]? = some (.inr (y, fs))) (ha : st[na - 1]? = some (.ref a)) (hw : (Nat.ble na st.length && (Nat.ble (mzWd (st.drop na)) 8 && (Nat.ble 0 c && (Nat.ble 0 s && Nat.ble (mzWd (st.take na)) (zN x))))) = true) (ea : (st.take na).reverse = as) (ed : st.drop na = st') (hM : gCall x as H (gRv R)) (K : ∀ H1, R H1 → gG nL bl r l st' H1 c s Q) : gG nL bl ((pc, .invokevirtual q, x, y, [na, 0, 0]) :: r) l st H c s Q := fun lv hl => gz_up (gz_inv (g := mzRcv na y) (gz_rcv hI hs ha) hw ea ed hM (fun o H1 hP => by obtain ⟨rfl, hR⟩ := hP; exact K H1 hR lv hl))
theorem g_invsv {S : List gSp} {a na q : Nat} {fs : List gFs} {as st' : List Value} {R : mzH → Prop} (hI : gI S H) (hs : S[a]? = some (.inr (y, fs))) (ha : st[na - 1]? = some (.ref a)) (hw : (Nat.ble na st.length && (Nat.ble (mzWd (st.drop na)) 8 && (Nat.ble 0 c && (Nat.ble 0 s && Nat.ble (mzWd (st.take na)) (zN x))))) = true) (ea : (st.take na).reverse = as) (ed : st.drop na = st') (hM : gCall x as H (gRv R)) (K : ∀ H1, R H1 → gG nL bl r l st' H1 c s Q) : gG nL bl ((pc, .invokespecial q, x, y, [na, 0, 0]) :: r) l st H c s Q := fun lv hl => gz_up (gz_inv (g := mzRcv na y) (gz_rcv hI hs ha) hw ea ed hM (fun o H1 hP => by obtain ⟨rfl, hR⟩ := hP; exact K H1 hR lv hl))
theorem g_invtv {na q : Nat} {as st' : List Value} {R : mzH → Prop} (hw : (Nat.ble na st.length && (Nat.ble (mzWd (st.drop na)) 8 && (Nat.ble 0 c && (Nat.ble 0 s && Nat.ble (mzWd (st.take na)) (zN x))))) = true) (ea : (st.take na).reverse = as) (ed : st.drop na = st') (hM : gCall x as H (gRv R)) (K : ∀ H1, R H1 → gG nL bl r l st' H1 c s Q) : gG nL bl ((pc, .invokestatic q, x, y, [na, 0, 0]) :: r) l st H c s Q := fun lv hl => gz_up (gz_inv (g := fun _ _ => true) rfl hw ea ed hM (fun o H1 hP => by obtain ⟨rfl, hR⟩ := hP; exact K H1 hR lv hl))
end
end
