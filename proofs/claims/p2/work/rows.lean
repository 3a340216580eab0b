section
-- ===== PART A: goes FIRST, ahead of the names: the tables' words, and 'selects' of the private methods out of them =====
/-- a private method of a class that the tables say can be made, by its rows of tables_1 -/
def lw_okq (q : MethodName × Nat) : Prop := (q.1.cls ≠ "java/lang/invoke/MethodHandle" ∧ q.1.cls ≠ "java/lang/invoke/VarHandle") ∧ Cond.instantiable q.1.cls q.2 ∈ tables_1 ∧ Cond.privateMethod q.1 ∈ tables_1 ∧ Cond.instanceMethod q.1 ∈ tables_1
theorem lw_p0 : lw_okq (⟨"PackTracer$Tape", "hasRoomFor", "(I)Z"⟩, 2) := ⟨⟨by decide +kernel, by decide +kernel⟩, List.mem_of_getElem? (i := 34) (by decide +kernel), List.mem_of_getElem? (i := 382) (by decide +kernel), List.mem_of_getElem? (i := 383) (by decide +kernel)⟩
theorem lw_p1 : lw_okq (⟨"PackTracer$Tape", "append", "(I)V"⟩, 2) := ⟨⟨by decide +kernel, by decide +kernel⟩, List.mem_of_getElem? (i := 34) (by decide +kernel), List.mem_of_getElem? (i := 386) (by decide +kernel), List.mem_of_getElem? (i := 387) (by decide +kernel)⟩
theorem lw_p2 : lw_okq (⟨"PackTracer$Book", "clear", "()V"⟩, 13) := ⟨⟨by decide +kernel, by decide +kernel⟩, List.mem_of_getElem? (i := 51) (by decide +kernel), List.mem_of_getElem? (i := 394) (by decide +kernel), List.mem_of_getElem? (i := 395) (by decide +kernel)⟩
theorem lw_p3 : lw_okq (⟨"PackTracer$Reader", "read", "(IZ)Z"⟩, 8) := ⟨⟨by decide +kernel, by decide +kernel⟩, List.mem_of_getElem? (i := 125) (by decide +kernel), List.mem_of_getElem? (i := 401) (by decide +kernel), List.mem_of_getElem? (i := 402) (by decide +kernel)⟩
theorem lw_p4 : lw_okq (⟨"PackTracer$Tokens", "cut", "(I)V"⟩, 8) := ⟨⟨by decide +kernel, by decide +kernel⟩, List.mem_of_getElem? (i := 131) (by decide +kernel), List.mem_of_getElem? (i := 405) (by decide +kernel), List.mem_of_getElem? (i := 406) (by decide +kernel)⟩
theorem lw_p5 : lw_okq (⟨"PackTracer$Tokens", "skipBlanks", "()V"⟩, 8) := ⟨⟨by decide +kernel, by decide +kernel⟩, List.mem_of_getElem? (i := 131) (by decide +kernel), List.mem_of_getElem? (i := 415) (by decide +kernel), List.mem_of_getElem? (i := 416) (by decide +kernel)⟩
theorem lw_p6 : lw_okq (⟨"PackTracer$Tokens", "passToken", "()I"⟩, 8) := ⟨⟨by decide +kernel, by decide +kernel⟩, List.mem_of_getElem? (i := 131) (by decide +kernel), List.mem_of_getElem? (i := 419) (by decide +kernel), List.mem_of_getElem? (i := 420) (by decide +kernel)⟩
theorem lw_p7 : lw_okq (⟨"PackTracer$Tokens", "isLetter", "()Z"⟩, 8) := ⟨⟨by decide +kernel, by decide +kernel⟩, List.mem_of_getElem? (i := 131) (by decide +kernel), List.mem_of_getElem? (i := 423) (by decide +kernel), List.mem_of_getElem? (i := 424) (by decide +kernel)⟩
theorem lw_p8 : lw_okq (⟨"PackTracer$Tokens", "passWord", "()I"⟩, 8) := ⟨⟨by decide +kernel, by decide +kernel⟩, List.mem_of_getElem? (i := 131) (by decide +kernel), List.mem_of_getElem? (i := 427) (by decide +kernel), List.mem_of_getElem? (i := 428) (by decide +kernel)⟩
theorem lw_p9 : lw_okq (⟨"PackTracer$Tokens", "kindOfWord", "()I"⟩, 8) := ⟨⟨by decide +kernel, by decide +kernel⟩, List.mem_of_getElem? (i := 131) (by decide +kernel), List.mem_of_getElem? (i := 431) (by decide +kernel), List.mem_of_getElem? (i := 432) (by decide +kernel)⟩
theorem lw_p10 : lw_okq (⟨"PackTracer$Tokens", "isDigit", "()Z"⟩, 8) := ⟨⟨by decide +kernel, by decide +kernel⟩, List.mem_of_getElem? (i := 131) (by decide +kernel), List.mem_of_getElem? (i := 484) (by decide +kernel), List.mem_of_getElem? (i := 485) (by decide +kernel)⟩
theorem lw_p11 : lw_okq (⟨"PackTracer$Tokens", "passDigits", "()V"⟩, 8) := ⟨⟨by decide +kernel, by decide +kernel⟩, List.mem_of_getElem? (i := 131) (by decide +kernel), List.mem_of_getElem? (i := 488) (by decide +kernel), List.mem_of_getElem? (i := 489) (by decide +kernel)⟩
theorem lw_p12 : lw_okq (⟨"PackTracer$Tokens", "add", "(II)V"⟩, 8) := ⟨⟨by decide +kernel, by decide +kernel⟩, List.mem_of_getElem? (i := 131) (by decide +kernel), List.mem_of_getElem? (i := 493) (by decide +kernel), List.mem_of_getElem? (i := 494) (by decide +kernel)⟩
theorem lw_p13 : lw_okq (⟨"PackTracer$Reader", "goTo", "(I)V"⟩, 8) := ⟨⟨by decide +kernel, by decide +kernel⟩, List.mem_of_getElem? (i := 125) (by decide +kernel), List.mem_of_getElem? (i := 497) (by decide +kernel), List.mem_of_getElem? (i := 498) (by decide +kernel)⟩
theorem lw_p14 : lw_okq (⟨"PackTracer$Reader", "fail", "(I)V"⟩, 8) := ⟨⟨by decide +kernel, by decide +kernel⟩, List.mem_of_getElem? (i := 125) (by decide +kernel), List.mem_of_getElem? (i := 501) (by decide +kernel), List.mem_of_getElem? (i := 502) (by decide +kernel)⟩
theorem lw_p15 : lw_okq (⟨"PackTracer$Reader", "readLine", "()V"⟩, 8) := ⟨⟨by decide +kernel, by decide +kernel⟩, List.mem_of_getElem? (i := 125) (by decide +kernel), List.mem_of_getElem? (i := 505) (by decide +kernel), List.mem_of_getElem? (i := 506) (by decide +kernel)⟩
def lw_privs_1 : List (MethodName × Nat) := [(⟨"PackTracer$Tape", "hasRoomFor", "(I)Z"⟩, 2), (⟨"PackTracer$Tape", "append", "(I)V"⟩, 2), (⟨"PackTracer$Book", "clear", "()V"⟩, 13), (⟨"PackTracer$Reader", "read", "(IZ)Z"⟩, 8), (⟨"PackTracer$Tokens", "cut", "(I)V"⟩, 8), (⟨"PackTracer$Tokens", "skipBlanks", "()V"⟩, 8), (⟨"PackTracer$Tokens", "passToken", "()I"⟩, 8), (⟨"PackTracer$Tokens", "isLetter", "()Z"⟩, 8), (⟨"PackTracer$Tokens", "passWord", "()I"⟩, 8), (⟨"PackTracer$Tokens", "kindOfWord", "()I"⟩, 8), (⟨"PackTracer$Tokens", "isDigit", "()Z"⟩, 8), (⟨"PackTracer$Tokens", "passDigits", "()V"⟩, 8), (⟨"PackTracer$Tokens", "add", "(II)V"⟩, 8), (⟨"PackTracer$Reader", "goTo", "(I)V"⟩, 8), (⟨"PackTracer$Reader", "fail", "(I)V"⟩, 8), (⟨"PackTracer$Reader", "readLine", "()V"⟩, 8)]
theorem lw_r1 : ∀ q ∈ lw_privs_1, lw_okq q := List.forall_mem_cons.mpr ⟨lw_p0, List.forall_mem_cons.mpr ⟨lw_p1, List.forall_mem_cons.mpr ⟨lw_p2, List.forall_mem_cons.mpr ⟨lw_p3, List.forall_mem_cons.mpr ⟨lw_p4, List.forall_mem_cons.mpr ⟨lw_p5, List.forall_mem_cons.mpr ⟨lw_p6, List.forall_mem_cons.mpr ⟨lw_p7, List.forall_mem_cons.mpr ⟨lw_p8, List.forall_mem_cons.mpr ⟨lw_p9, List.forall_mem_cons.mpr ⟨lw_p10, List.forall_mem_cons.mpr ⟨lw_p11, List.forall_mem_cons.mpr ⟨lw_p12, List.forall_mem_cons.mpr ⟨lw_p13, List.forall_mem_cons.mpr ⟨lw_p14, List.forall_mem_cons.mpr ⟨lw_p15, fun _ h => absurd h List.not_mem_nil⟩⟩⟩⟩⟩⟩⟩⟩⟩⟩⟩⟩⟩⟩⟩⟩
theorem lw_p16 : lw_okq (⟨"PackTracer$Reader", "readPlace", "()V"⟩, 8) := ⟨⟨by decide +kernel, by decide +kernel⟩, List.mem_of_getElem? (i := 125) (by decide +kernel), List.mem_of_getElem? (i := 509) (by decide +kernel), List.mem_of_getElem? (i := 510) (by decide +kernel)⟩
theorem lw_p17 : lw_okq (⟨"PackTracer$Reader", "take", "(II)I"⟩, 8) := ⟨⟨by decide +kernel, by decide +kernel⟩, List.mem_of_getElem? (i := 125) (by decide +kernel), List.mem_of_getElem? (i := 513) (by decide +kernel), List.mem_of_getElem? (i := 514) (by decide +kernel)⟩
theorem lw_p18 : lw_okq (⟨"PackTracer$Book", "placeNamed", "(I)I"⟩, 13) := ⟨⟨by decide +kernel, by decide +kernel⟩, List.mem_of_getElem? (i := 51) (by decide +kernel), List.mem_of_getElem? (i := 517) (by decide +kernel), List.mem_of_getElem? (i := 518) (by decide +kernel)⟩
theorem lw_p19 : lw_okq (⟨"PackTracer$Book", "addPlace", "(I)V"⟩, 13) := ⟨⟨by decide +kernel, by decide +kernel⟩, List.mem_of_getElem? (i := 51) (by decide +kernel), List.mem_of_getElem? (i := 521) (by decide +kernel), List.mem_of_getElem? (i := 522) (by decide +kernel)⟩
theorem lw_p20 : lw_okq (⟨"PackTracer$Reader", "readRoad", "()V"⟩, 8) := ⟨⟨by decide +kernel, by decide +kernel⟩, List.mem_of_getElem? (i := 125) (by decide +kernel), List.mem_of_getElem? (i := 525) (by decide +kernel), List.mem_of_getElem? (i := 526) (by decide +kernel)⟩
theorem lw_p21 : lw_okq (⟨"PackTracer$Reader", "takePlace", "(I)I"⟩, 8) := ⟨⟨by decide +kernel, by decide +kernel⟩, List.mem_of_getElem? (i := 125) (by decide +kernel), List.mem_of_getElem? (i := 529) (by decide +kernel), List.mem_of_getElem? (i := 530) (by decide +kernel)⟩
theorem lw_p22 : lw_okq (⟨"PackTracer$Reader", "takeNumber", "(II)I"⟩, 8) := ⟨⟨by decide +kernel, by decide +kernel⟩, List.mem_of_getElem? (i := 125) (by decide +kernel), List.mem_of_getElem? (i := 533) (by decide +kernel), List.mem_of_getElem? (i := 534) (by decide +kernel)⟩
theorem lw_p23 : lw_okq (⟨"PackTracer$Book", "addRoad", "(III)V"⟩, 13) := ⟨⟨by decide +kernel, by decide +kernel⟩, List.mem_of_getElem? (i := 51) (by decide +kernel), List.mem_of_getElem? (i := 537) (by decide +kernel), List.mem_of_getElem? (i := 538) (by decide +kernel)⟩
theorem lw_p24 : lw_okq (⟨"PackTracer$Book", "shorten", "(III)V"⟩, 13) := ⟨⟨by decide +kernel, by decide +kernel⟩, List.mem_of_getElem? (i := 51) (by decide +kernel), List.mem_of_getElem? (i := 541) (by decide +kernel), List.mem_of_getElem? (i := 542) (by decide +kernel)⟩
theorem lw_p25 : lw_okq (⟨"PackTracer$Book", "way", "(II)I"⟩, 13) := ⟨⟨by decide +kernel, by decide +kernel⟩, List.mem_of_getElem? (i := 51) (by decide +kernel), List.mem_of_getElem? (i := 545) (by decide +kernel), List.mem_of_getElem? (i := 546) (by decide +kernel)⟩
theorem lw_p26 : lw_okq (⟨"PackTracer$Book", "hasPlace", "(I)Z"⟩, 13) := ⟨⟨by decide +kernel, by decide +kernel⟩, List.mem_of_getElem? (i := 51) (by decide +kernel), List.mem_of_getElem? (i := 549) (by decide +kernel), List.mem_of_getElem? (i := 550) (by decide +kernel)⟩
theorem lw_p27 : lw_okq (⟨"PackTracer$Reader", "readFits", "()V"⟩, 8) := ⟨⟨by decide +kernel, by decide +kernel⟩, List.mem_of_getElem? (i := 125) (by decide +kernel), List.mem_of_getElem? (i := 553) (by decide +kernel), List.mem_of_getElem? (i := 554) (by decide +kernel)⟩
theorem lw_p28 : lw_okq (⟨"PackTracer$Reader", "readMessage", "()V"⟩, 8) := ⟨⟨by decide +kernel, by decide +kernel⟩, List.mem_of_getElem? (i := 125) (by decide +kernel), List.mem_of_getElem? (i := 557) (by decide +kernel), List.mem_of_getElem? (i := 558) (by decide +kernel)⟩
theorem lw_p29 : lw_okq (⟨"PackTracer$Reader", "takeAct", "()I"⟩, 8) := ⟨⟨by decide +kernel, by decide +kernel⟩, List.mem_of_getElem? (i := 125) (by decide +kernel), List.mem_of_getElem? (i := 561) (by decide +kernel), List.mem_of_getElem? (i := 562) (by decide +kernel)⟩
theorem lw_p30 : lw_okq (⟨"PackTracer$Reader", "takeSecond", "(I)I"⟩, 8) := ⟨⟨by decide +kernel, by decide +kernel⟩, List.mem_of_getElem? (i := 125) (by decide +kernel), List.mem_of_getElem? (i := 565) (by decide +kernel), List.mem_of_getElem? (i := 566) (by decide +kernel)⟩
theorem lw_p31 : lw_okq (⟨"PackTracer$Book", "addMessage", "(IIIII)V"⟩, 13) := ⟨⟨by decide +kernel, by decide +kernel⟩, List.mem_of_getElem? (i := 51) (by decide +kernel), List.mem_of_getElem? (i := 569) (by decide +kernel), List.mem_of_getElem? (i := 570) (by decide +kernel)⟩
def lw_privs_2 : List (MethodName × Nat) := [(⟨"PackTracer$Reader", "readPlace", "()V"⟩, 8), (⟨"PackTracer$Reader", "take", "(II)I"⟩, 8), (⟨"PackTracer$Book", "placeNamed", "(I)I"⟩, 13), (⟨"PackTracer$Book", "addPlace", "(I)V"⟩, 13), (⟨"PackTracer$Reader", "readRoad", "()V"⟩, 8), (⟨"PackTracer$Reader", "takePlace", "(I)I"⟩, 8), (⟨"PackTracer$Reader", "takeNumber", "(II)I"⟩, 8), (⟨"PackTracer$Book", "addRoad", "(III)V"⟩, 13), (⟨"PackTracer$Book", "shorten", "(III)V"⟩, 13), (⟨"PackTracer$Book", "way", "(II)I"⟩, 13), (⟨"PackTracer$Book", "hasPlace", "(I)Z"⟩, 13), (⟨"PackTracer$Reader", "readFits", "()V"⟩, 8), (⟨"PackTracer$Reader", "readMessage", "()V"⟩, 8), (⟨"PackTracer$Reader", "takeAct", "()I"⟩, 8), (⟨"PackTracer$Reader", "takeSecond", "(I)I"⟩, 8), (⟨"PackTracer$Book", "addMessage", "(IIIII)V"⟩, 13)]
theorem lw_r2 : ∀ q ∈ lw_privs_2, lw_okq q := List.forall_mem_cons.mpr ⟨lw_p16, List.forall_mem_cons.mpr ⟨lw_p17, List.forall_mem_cons.mpr ⟨lw_p18, List.forall_mem_cons.mpr ⟨lw_p19, List.forall_mem_cons.mpr ⟨lw_p20, List.forall_mem_cons.mpr ⟨lw_p21, List.forall_mem_cons.mpr ⟨lw_p22, List.forall_mem_cons.mpr ⟨lw_p23, List.forall_mem_cons.mpr ⟨lw_p24, List.forall_mem_cons.mpr ⟨lw_p25, List.forall_mem_cons.mpr ⟨lw_p26, List.forall_mem_cons.mpr ⟨lw_p27, List.forall_mem_cons.mpr ⟨lw_p28, List.forall_mem_cons.mpr ⟨lw_p29, List.forall_mem_cons.mpr ⟨lw_p30, List.forall_mem_cons.mpr ⟨lw_p31, fun _ h => absurd h List.not_mem_nil⟩⟩⟩⟩⟩⟩⟩⟩⟩⟩⟩⟩⟩⟩⟩⟩
theorem lw_p32 : lw_okq (⟨"PackTracer", "close", "(Z)I"⟩, 7) := ⟨⟨by decide +kernel, by decide +kernel⟩, List.mem_of_getElem? (i := 26) (by decide +kernel), List.mem_of_getElem? (i := 573) (by decide +kernel), List.mem_of_getElem? (i := 574) (by decide +kernel)⟩
theorem lw_p33 : lw_okq (⟨"PackTracer$Book", "joinRoads", "()V"⟩, 13) := ⟨⟨by decide +kernel, by decide +kernel⟩, List.mem_of_getElem? (i := 51) (by decide +kernel), List.mem_of_getElem? (i := 577) (by decide +kernel), List.mem_of_getElem? (i := 578) (by decide +kernel)⟩
theorem lw_p34 : lw_okq (⟨"PackTracer$Book", "become", "(LPackTracer$Book;)V"⟩, 13) := ⟨⟨by decide +kernel, by decide +kernel⟩, List.mem_of_getElem? (i := 51) (by decide +kernel), List.mem_of_getElem? (i := 581) (by decide +kernel), List.mem_of_getElem? (i := 582) (by decide +kernel)⟩
theorem lw_p35 : lw_okq (⟨"PackTracer$Story", "settle", "()V"⟩, 5) := ⟨⟨by decide +kernel, by decide +kernel⟩, List.mem_of_getElem? (i := 194) (by decide +kernel), List.mem_of_getElem? (i := 588) (by decide +kernel), List.mem_of_getElem? (i := 589) (by decide +kernel)⟩
theorem lw_p36 : lw_okq (⟨"PackTracer$Course", "takeHours", "(LPackTracer$Book;)V"⟩, 3) := ⟨⟨by decide +kernel, by decide +kernel⟩, List.mem_of_getElem? (i := 200) (by decide +kernel), List.mem_of_getElem? (i := 592) (by decide +kernel), List.mem_of_getElem? (i := 593) (by decide +kernel)⟩
theorem lw_p37 : lw_okq (⟨"PackTracer$Course", "arrange", "()V"⟩, 3) := ⟨⟨by decide +kernel, by decide +kernel⟩, List.mem_of_getElem? (i := 200) (by decide +kernel), List.mem_of_getElem? (i := 597) (by decide +kernel), List.mem_of_getElem? (i := 598) (by decide +kernel)⟩
theorem lw_p38 : lw_okq (⟨"PackTracer$World", "clear", "()V"⟩, 6) := ⟨⟨by decide +kernel, by decide +kernel⟩, List.mem_of_getElem? (i := 223) (by decide +kernel), List.mem_of_getElem? (i := 601) (by decide +kernel), List.mem_of_getElem? (i := 602) (by decide +kernel)⟩
theorem lw_p39 : lw_okq (⟨"PackTracer$Story", "step", "(I)I"⟩, 5) := ⟨⟨by decide +kernel, by decide +kernel⟩, List.mem_of_getElem? (i := 194) (by decide +kernel), List.mem_of_getElem? (i := 606) (by decide +kernel), List.mem_of_getElem? (i := 607) (by decide +kernel)⟩
theorem lw_p40 : lw_okq (⟨"PackTracer$Course", "hourAt", "(I)I"⟩, 3) := ⟨⟨by decide +kernel, by decide +kernel⟩, List.mem_of_getElem? (i := 200) (by decide +kernel), List.mem_of_getElem? (i := 610) (by decide +kernel), List.mem_of_getElem? (i := 611) (by decide +kernel)⟩
theorem lw_p41 : lw_okq (⟨"PackTracer$World", "look", "(LPackTracer$Book;II)I"⟩, 6) := ⟨⟨by decide +kernel, by decide +kernel⟩, List.mem_of_getElem? (i := 223) (by decide +kernel), List.mem_of_getElem? (i := 614) (by decide +kernel), List.mem_of_getElem? (i := 615) (by decide +kernel)⟩
theorem lw_p42 : lw_okq (⟨"PackTracer$World", "objection", "(LPackTracer$Book;II)I"⟩, 6) := ⟨⟨by decide +kernel, by decide +kernel⟩, List.mem_of_getElem? (i := 223) (by decide +kernel), List.mem_of_getElem? (i := 618) (by decide +kernel), List.mem_of_getElem? (i := 619) (by decide +kernel)⟩
theorem lw_p43 : lw_okq (⟨"PackTracer$World", "isMade", "(I)Z"⟩, 6) := ⟨⟨by decide +kernel, by decide +kernel⟩, List.mem_of_getElem? (i := 223) (by decide +kernel), List.mem_of_getElem? (i := 622) (by decide +kernel), List.mem_of_getElem? (i := 623) (by decide +kernel)⟩
theorem lw_p44 : lw_okq (⟨"PackTracer$World", "has", "(II)Z"⟩, 6) := ⟨⟨by decide +kernel, by decide +kernel⟩, List.mem_of_getElem? (i := 223) (by decide +kernel), List.mem_of_getElem? (i := 626) (by decide +kernel), List.mem_of_getElem? (i := 627) (by decide +kernel)⟩
theorem lw_p45 : lw_okq (⟨"PackTracer$World", "topmost", "(I)I"⟩, 6) := ⟨⟨by decide +kernel, by decide +kernel⟩, List.mem_of_getElem? (i := 223) (by decide +kernel), List.mem_of_getElem? (i := 630) (by decide +kernel), List.mem_of_getElem? (i := 631) (by decide +kernel)⟩
theorem lw_p46 : lw_okq (⟨"PackTracer$World", "objectionToPack", "(LPackTracer$Book;II)I"⟩, 6) := ⟨⟨by decide +kernel, by decide +kernel⟩, List.mem_of_getElem? (i := 223) (by decide +kernel), List.mem_of_getElem? (i := 634) (by decide +kernel), List.mem_of_getElem? (i := 635) (by decide +kernel)⟩
theorem lw_p47 : lw_okq (⟨"PackTracer$World", "heldAtOnce", "(I)I"⟩, 6) := ⟨⟨by decide +kernel, by decide +kernel⟩, List.mem_of_getElem? (i := 223) (by decide +kernel), List.mem_of_getElem? (i := 638) (by decide +kernel), List.mem_of_getElem? (i := 639) (by decide +kernel)⟩
def lw_privs_3 : List (MethodName × Nat) := [(⟨"PackTracer", "close", "(Z)I"⟩, 7), (⟨"PackTracer$Book", "joinRoads", "()V"⟩, 13), (⟨"PackTracer$Book", "become", "(LPackTracer$Book;)V"⟩, 13), (⟨"PackTracer$Story", "settle", "()V"⟩, 5), (⟨"PackTracer$Course", "takeHours", "(LPackTracer$Book;)V"⟩, 3), (⟨"PackTracer$Course", "arrange", "()V"⟩, 3), (⟨"PackTracer$World", "clear", "()V"⟩, 6), (⟨"PackTracer$Story", "step", "(I)I"⟩, 5), (⟨"PackTracer$Course", "hourAt", "(I)I"⟩, 3), (⟨"PackTracer$World", "look", "(LPackTracer$Book;II)I"⟩, 6), (⟨"PackTracer$World", "objection", "(LPackTracer$Book;II)I"⟩, 6), (⟨"PackTracer$World", "isMade", "(I)Z"⟩, 6), (⟨"PackTracer$World", "has", "(II)Z"⟩, 6), (⟨"PackTracer$World", "topmost", "(I)I"⟩, 6), (⟨"PackTracer$World", "objectionToPack", "(LPackTracer$Book;II)I"⟩, 6), (⟨"PackTracer$World", "heldAtOnce", "(I)I"⟩, 6)]
theorem lw_r3 : ∀ q ∈ lw_privs_3, lw_okq q := List.forall_mem_cons.mpr ⟨lw_p32, List.forall_mem_cons.mpr ⟨lw_p33, List.forall_mem_cons.mpr ⟨lw_p34, List.forall_mem_cons.mpr ⟨lw_p35, List.forall_mem_cons.mpr ⟨lw_p36, List.forall_mem_cons.mpr ⟨lw_p37, List.forall_mem_cons.mpr ⟨lw_p38, List.forall_mem_cons.mpr ⟨lw_p39, List.forall_mem_cons.mpr ⟨lw_p40, List.forall_mem_cons.mpr ⟨lw_p41, List.forall_mem_cons.mpr ⟨lw_p42, List.forall_mem_cons.mpr ⟨lw_p43, List.forall_mem_cons.mpr ⟨lw_p44, List.forall_mem_cons.mpr ⟨lw_p45, List.forall_mem_cons.mpr ⟨lw_p46, List.forall_mem_cons.mpr ⟨lw_p47, fun _ h => absurd h List.not_mem_nil⟩⟩⟩⟩⟩⟩⟩⟩⟩⟩⟩⟩⟩⟩⟩⟩
theorem lw_p48 : lw_okq (⟨"PackTracer$World", "isQuarantinedWithin", "(I)Z"⟩, 6) := ⟨⟨by decide +kernel, by decide +kernel⟩, List.mem_of_getElem? (i := 223) (by decide +kernel), List.mem_of_getElem? (i := 642) (by decide +kernel), List.mem_of_getElem? (i := 643) (by decide +kernel)⟩
theorem lw_p49 : lw_okq (⟨"PackTracer$World", "isIn", "(II)Z"⟩, 6) := ⟨⟨by decide +kernel, by decide +kernel⟩, List.mem_of_getElem? (i := 223) (by decide +kernel), List.mem_of_getElem? (i := 646) (by decide +kernel), List.mem_of_getElem? (i := 647) (by decide +kernel)⟩
theorem lw_p50 : lw_okq (⟨"PackTracer$World", "isTooSoon", "(LPackTracer$Book;III)Z"⟩, 6) := ⟨⟨by decide +kernel, by decide +kernel⟩, List.mem_of_getElem? (i := 223) (by decide +kernel), List.mem_of_getElem? (i := 650) (by decide +kernel), List.mem_of_getElem? (i := 651) (by decide +kernel)⟩
theorem lw_p51 : lw_okq (⟨"PackTracer$World", "carryOut", "(LPackTracer$Book;II)V"⟩, 6) := ⟨⟨by decide +kernel, by decide +kernel⟩, List.mem_of_getElem? (i := 223) (by decide +kernel), List.mem_of_getElem? (i := 655) (by decide +kernel), List.mem_of_getElem? (i := 656) (by decide +kernel)⟩
theorem lw_p52 : lw_okq (⟨"PackTracer$World", "stand", "(III)V"⟩, 6) := ⟨⟨by decide +kernel, by decide +kernel⟩, List.mem_of_getElem? (i := 223) (by decide +kernel), List.mem_of_getElem? (i := 659) (by decide +kernel), List.mem_of_getElem? (i := 660) (by decide +kernel)⟩
theorem lw_p53 : lw_okq (⟨"PackTracer$World", "openAround", "(I)V"⟩, 6) := ⟨⟨by decide +kernel, by decide +kernel⟩, List.mem_of_getElem? (i := 223) (by decide +kernel), List.mem_of_getElem? (i := 663) (by decide +kernel), List.mem_of_getElem? (i := 664) (by decide +kernel)⟩
theorem lw_p54 : lw_okq (⟨"PackTracer$World", "mark", "(II)V"⟩, 6) := ⟨⟨by decide +kernel, by decide +kernel⟩, List.mem_of_getElem? (i := 223) (by decide +kernel), List.mem_of_getElem? (i := 667) (by decide +kernel), List.mem_of_getElem? (i := 668) (by decide +kernel)⟩
theorem lw_p55 : lw_okq (⟨"PackTracer$World", "unmark", "(II)V"⟩, 6) := ⟨⟨by decide +kernel, by decide +kernel⟩, List.mem_of_getElem? (i := 223) (by decide +kernel), List.mem_of_getElem? (i := 671) (by decide +kernel), List.mem_of_getElem? (i := 672) (by decide +kernel)⟩
theorem lw_p56 : lw_okq (⟨"PackTracer$World", "looseWith", "(I)I"⟩, 6) := ⟨⟨by decide +kernel, by decide +kernel⟩, List.mem_of_getElem? (i := 223) (by decide +kernel), List.mem_of_getElem? (i := 675) (by decide +kernel), List.mem_of_getElem? (i := 676) (by decide +kernel)⟩
theorem lw_p57 : lw_okq (⟨"PackTracer$World", "endWithAllIn", "(I)V"⟩, 6) := ⟨⟨by decide +kernel, by decide +kernel⟩, List.mem_of_getElem? (i := 223) (by decide +kernel), List.mem_of_getElem? (i := 679) (by decide +kernel), List.mem_of_getElem? (i := 680) (by decide +kernel)⟩
theorem lw_p58 : lw_okq (⟨"PackTracer$Blame", "forget", "()V"⟩, 12) := ⟨⟨by decide +kernel, by decide +kernel⟩, List.mem_of_getElem? (i := 306) (by decide +kernel), List.mem_of_getElem? (i := 683) (by decide +kernel), List.mem_of_getElem? (i := 684) (by decide +kernel)⟩
theorem lw_p59 : lw_okq (⟨"PackTracer$Story", "worldBy", "(I)LPackTracer$World;"⟩, 5) := ⟨⟨by decide +kernel, by decide +kernel⟩, List.mem_of_getElem? (i := 194) (by decide +kernel), List.mem_of_getElem? (i := 711) (by decide +kernel), List.mem_of_getElem? (i := 712) (by decide +kernel)⟩
theorem lw_p60 : lw_okq (⟨"PackTracer$Story", "goTo", "(I)I"⟩, 5) := ⟨⟨by decide +kernel, by decide +kernel⟩, List.mem_of_getElem? (i := 194) (by decide +kernel), List.mem_of_getElem? (i := 715) (by decide +kernel), List.mem_of_getElem? (i := 716) (by decide +kernel)⟩
theorem lw_p61 : lw_okq (⟨"PackTracer$World", "tellOf", "(II)I"⟩, 6) := ⟨⟨by decide +kernel, by decide +kernel⟩, List.mem_of_getElem? (i := 223) (by decide +kernel), List.mem_of_getElem? (i := 719) (by decide +kernel), List.mem_of_getElem? (i := 720) (by decide +kernel)⟩
theorem lw_p62 : lw_okq (⟨"PackTracer$World", "whereIs", "(I)I"⟩, 6) := ⟨⟨by decide +kernel, by decide +kernel⟩, List.mem_of_getElem? (i := 223) (by decide +kernel), List.mem_of_getElem? (i := 723) (by decide +kernel), List.mem_of_getElem? (i := 724) (by decide +kernel)⟩
theorem lw_p63 : lw_okq (⟨"PackTracer$World", "knownAt", "(I)I"⟩, 6) := ⟨⟨by decide +kernel, by decide +kernel⟩, List.mem_of_getElem? (i := 223) (by decide +kernel), List.mem_of_getElem? (i := 727) (by decide +kernel), List.mem_of_getElem? (i := 728) (by decide +kernel)⟩
def lw_privs_4 : List (MethodName × Nat) := [(⟨"PackTracer$World", "isQuarantinedWithin", "(I)Z"⟩, 6), (⟨"PackTracer$World", "isIn", "(II)Z"⟩, 6), (⟨"PackTracer$World", "isTooSoon", "(LPackTracer$Book;III)Z"⟩, 6), (⟨"PackTracer$World", "carryOut", "(LPackTracer$Book;II)V"⟩, 6), (⟨"PackTracer$World", "stand", "(III)V"⟩, 6), (⟨"PackTracer$World", "openAround", "(I)V"⟩, 6), (⟨"PackTracer$World", "mark", "(II)V"⟩, 6), (⟨"PackTracer$World", "unmark", "(II)V"⟩, 6), (⟨"PackTracer$World", "looseWith", "(I)I"⟩, 6), (⟨"PackTracer$World", "endWithAllIn", "(I)V"⟩, 6), (⟨"PackTracer$Blame", "forget", "()V"⟩, 12), (⟨"PackTracer$Story", "worldBy", "(I)LPackTracer$World;"⟩, 5), (⟨"PackTracer$Story", "goTo", "(I)I"⟩, 5), (⟨"PackTracer$World", "tellOf", "(II)I"⟩, 6), (⟨"PackTracer$World", "whereIs", "(I)I"⟩, 6), (⟨"PackTracer$World", "knownAt", "(I)I"⟩, 6)]
theorem lw_r4 : ∀ q ∈ lw_privs_4, lw_okq q := List.forall_mem_cons.mpr ⟨lw_p48, List.forall_mem_cons.mpr ⟨lw_p49, List.forall_mem_cons.mpr ⟨lw_p50, List.forall_mem_cons.mpr ⟨lw_p51, List.forall_mem_cons.mpr ⟨lw_p52, List.forall_mem_cons.mpr ⟨lw_p53, List.forall_mem_cons.mpr ⟨lw_p54, List.forall_mem_cons.mpr ⟨lw_p55, List.forall_mem_cons.mpr ⟨lw_p56, List.forall_mem_cons.mpr ⟨lw_p57, List.forall_mem_cons.mpr ⟨lw_p58, List.forall_mem_cons.mpr ⟨lw_p59, List.forall_mem_cons.mpr ⟨lw_p60, List.forall_mem_cons.mpr ⟨lw_p61, List.forall_mem_cons.mpr ⟨lw_p62, List.forall_mem_cons.mpr ⟨lw_p63, fun _ h => absurd h List.not_mem_nil⟩⟩⟩⟩⟩⟩⟩⟩⟩⟩⟩⟩⟩⟩⟩⟩
theorem lw_p64 : lw_okq (⟨"PackTracer$World", "contents", "(I)J"⟩, 6) := ⟨⟨by decide +kernel, by decide +kernel⟩, List.mem_of_getElem? (i := 223) (by decide +kernel), List.mem_of_getElem? (i := 731) (by decide +kernel), List.mem_of_getElem? (i := 732) (by decide +kernel)⟩
theorem lw_p65 : lw_okq (⟨"PackTracer", "isWhereabouts", "(I)Z"⟩, 7) := ⟨⟨by decide +kernel, by decide +kernel⟩, List.mem_of_getElem? (i := 26) (by decide +kernel), List.mem_of_getElem? (i := 753) (by decide +kernel), List.mem_of_getElem? (i := 754) (by decide +kernel)⟩
theorem lw_p66 : lw_okq (⟨"PackTracer", "isPlaceOrSold", "(I)Z"⟩, 7) := ⟨⟨by decide +kernel, by decide +kernel⟩, List.mem_of_getElem? (i := 26) (by decide +kernel), List.mem_of_getElem? (i := 757) (by decide +kernel), List.mem_of_getElem? (i := 758) (by decide +kernel)⟩
theorem lw_p67 : lw_okq (⟨"PackTracer$World", "allAt", "(I)J"⟩, 6) := ⟨⟨by decide +kernel, by decide +kernel⟩, List.mem_of_getElem? (i := 223) (by decide +kernel), List.mem_of_getElem? (i := 761) (by decide +kernel), List.mem_of_getElem? (i := 762) (by decide +kernel)⟩
theorem lw_p68 : lw_okq (⟨"PackTracer$World", "tally", "(I)I"⟩, 6) := ⟨⟨by decide +kernel, by decide +kernel⟩, List.mem_of_getElem? (i := 223) (by decide +kernel), List.mem_of_getElem? (i := 769) (by decide +kernel), List.mem_of_getElem? (i := 770) (by decide +kernel)⟩
theorem lw_p69 : lw_okq (⟨"PackTracer$World", "isSo", "(II)Z"⟩, 6) := ⟨⟨by decide +kernel, by decide +kernel⟩, List.mem_of_getElem? (i := 223) (by decide +kernel), List.mem_of_getElem? (i := 773) (by decide +kernel), List.mem_of_getElem? (i := 774) (by decide +kernel)⟩
theorem lw_p70 : lw_okq (⟨"PackTracer$Story", "trailEntry", "(IIZ)I"⟩, 5) := ⟨⟨by decide +kernel, by decide +kernel⟩, List.mem_of_getElem? (i := 194) (by decide +kernel), List.mem_of_getElem? (i := 781) (by decide +kernel), List.mem_of_getElem? (i := 782) (by decide +kernel)⟩
theorem lw_p71 : lw_okq (⟨"PackTracer$Story", "worldOfFirst", "(I)LPackTracer$World;"⟩, 5) := ⟨⟨by decide +kernel, by decide +kernel⟩, List.mem_of_getElem? (i := 194) (by decide +kernel), List.mem_of_getElem? (i := 790) (by decide +kernel), List.mem_of_getElem? (i := 791) (by decide +kernel)⟩
theorem lw_p72 : lw_okq (⟨"PackTracer$Book", "hasMessage", "(I)Z"⟩, 13) := ⟨⟨by decide +kernel, by decide +kernel⟩, List.mem_of_getElem? (i := 51) (by decide +kernel), List.mem_of_getElem? (i := 799) (by decide +kernel), List.mem_of_getElem? (i := 800) (by decide +kernel)⟩
theorem lw_p73 : lw_okq (⟨"PackTracer$Story", "thingsChangedBy", "(I)I"⟩, 5) := ⟨⟨by decide +kernel, by decide +kernel⟩, List.mem_of_getElem? (i := 194) (by decide +kernel), List.mem_of_getElem? (i := 803) (by decide +kernel), List.mem_of_getElem? (i := 804) (by decide +kernel)⟩
theorem lw_p74 : lw_okq (⟨"PackTracer$World", "become", "(LPackTracer$World;)V"⟩, 6) := ⟨⟨by decide +kernel, by decide +kernel⟩, List.mem_of_getElem? (i := 223) (by decide +kernel), List.mem_of_getElem? (i := 808) (by decide +kernel), List.mem_of_getElem? (i := 809) (by decide +kernel)⟩
theorem lw_p75 : lw_okq (⟨"PackTracer$Guess", "placeWithout", "(II)I"⟩, 7) := ⟨⟨by decide +kernel, by decide +kernel⟩, List.mem_of_getElem? (i := 271) (by decide +kernel), List.mem_of_getElem? (i := 817) (by decide +kernel), List.mem_of_getElem? (i := 818) (by decide +kernel)⟩
theorem lw_p76 : lw_okq (⟨"PackTracer$Guess", "lastVerdictWithout", "(II)I"⟩, 7) := ⟨⟨by decide +kernel, by decide +kernel⟩, List.mem_of_getElem? (i := 271) (by decide +kernel), List.mem_of_getElem? (i := 821) (by decide +kernel), List.mem_of_getElem? (i := 822) (by decide +kernel)⟩
theorem lw_p77 : lw_okq (⟨"PackTracer$Story", "verdicts", "(I)I"⟩, 5) := ⟨⟨by decide +kernel, by decide +kernel⟩, List.mem_of_getElem? (i := 194) (by decide +kernel), List.mem_of_getElem? (i := 832) (by decide +kernel), List.mem_of_getElem? (i := 833) (by decide +kernel)⟩
theorem lw_p78 : lw_okq (⟨"PackTracer$Blame", "findOne", "()V"⟩, 12) := ⟨⟨by decide +kernel, by decide +kernel⟩, List.mem_of_getElem? (i := 306) (by decide +kernel), List.mem_of_getElem? (i := 840) (by decide +kernel), List.mem_of_getElem? (i := 841) (by decide +kernel)⟩
theorem lw_p79 : lw_okq (⟨"PackTracer$Blame", "refusedBehind", "(III)I"⟩, 12) := ⟨⟨by decide +kernel, by decide +kernel⟩, List.mem_of_getElem? (i := 306) (by decide +kernel), List.mem_of_getElem? (i := 846) (by decide +kernel), List.mem_of_getElem? (i := 847) (by decide +kernel)⟩
def lw_privs_5 : List (MethodName × Nat) := [(⟨"PackTracer$World", "contents", "(I)J"⟩, 6), (⟨"PackTracer", "isWhereabouts", "(I)Z"⟩, 7), (⟨"PackTracer", "isPlaceOrSold", "(I)Z"⟩, 7), (⟨"PackTracer$World", "allAt", "(I)J"⟩, 6), (⟨"PackTracer$World", "tally", "(I)I"⟩, 6), (⟨"PackTracer$World", "isSo", "(II)Z"⟩, 6), (⟨"PackTracer$Story", "trailEntry", "(IIZ)I"⟩, 5), (⟨"PackTracer$Story", "worldOfFirst", "(I)LPackTracer$World;"⟩, 5), (⟨"PackTracer$Book", "hasMessage", "(I)Z"⟩, 13), (⟨"PackTracer$Story", "thingsChangedBy", "(I)I"⟩, 5), (⟨"PackTracer$World", "become", "(LPackTracer$World;)V"⟩, 6), (⟨"PackTracer$Guess", "placeWithout", "(II)I"⟩, 7), (⟨"PackTracer$Guess", "lastVerdictWithout", "(II)I"⟩, 7), (⟨"PackTracer$Story", "verdicts", "(I)I"⟩, 5), (⟨"PackTracer$Blame", "findOne", "()V"⟩, 12), (⟨"PackTracer$Blame", "refusedBehind", "(III)I"⟩, 12)]
theorem lw_r5 : ∀ q ∈ lw_privs_5, lw_okq q := List.forall_mem_cons.mpr ⟨lw_p64, List.forall_mem_cons.mpr ⟨lw_p65, List.forall_mem_cons.mpr ⟨lw_p66, List.forall_mem_cons.mpr ⟨lw_p67, List.forall_mem_cons.mpr ⟨lw_p68, List.forall_mem_cons.mpr ⟨lw_p69, List.forall_mem_cons.mpr ⟨lw_p70, List.forall_mem_cons.mpr ⟨lw_p71, List.forall_mem_cons.mpr ⟨lw_p72, List.forall_mem_cons.mpr ⟨lw_p73, List.forall_mem_cons.mpr ⟨lw_p74, List.forall_mem_cons.mpr ⟨lw_p75, List.forall_mem_cons.mpr ⟨lw_p76, List.forall_mem_cons.mpr ⟨lw_p77, List.forall_mem_cons.mpr ⟨lw_p78, List.forall_mem_cons.mpr ⟨lw_p79, fun _ h => absurd h List.not_mem_nil⟩⟩⟩⟩⟩⟩⟩⟩⟩⟩⟩⟩⟩⟩⟩⟩
theorem lw_p80 : lw_okq (⟨"PackTracer$Blame", "refusalAt", "(ILPackTracer$World;)I"⟩, 12) := ⟨⟨by decide +kernel, by decide +kernel⟩, List.mem_of_getElem? (i := 306) (by decide +kernel), List.mem_of_getElem? (i := 852) (by decide +kernel), List.mem_of_getElem? (i := 853) (by decide +kernel)⟩
theorem lw_p81 : lw_okq (⟨"PackTracer$Blame", "findTwo", "()V"⟩, 12) := ⟨⟨by decide +kernel, by decide +kernel⟩, List.mem_of_getElem? (i := 306) (by decide +kernel), List.mem_of_getElem? (i := 860) (by decide +kernel), List.mem_of_getElem? (i := 861) (by decide +kernel)⟩
theorem lw_p82 : lw_okq (⟨"PackTracer$Blame", "tryPairsWith", "(II)V"⟩, 12) := ⟨⟨by decide +kernel, by decide +kernel⟩, List.mem_of_getElem? (i := 306) (by decide +kernel), List.mem_of_getElem? (i := 864) (by decide +kernel), List.mem_of_getElem? (i := 865) (by decide +kernel)⟩
theorem lw_p83 : lw_okq (⟨"PackTracer$Blame", "propose", "(III)V"⟩, 12) := ⟨⟨by decide +kernel, by decide +kernel⟩, List.mem_of_getElem? (i := 306) (by decide +kernel), List.mem_of_getElem? (i := 870) (by decide +kernel), List.mem_of_getElem? (i := 871) (by decide +kernel)⟩
theorem lw_p84 : lw_okq (⟨"PackTracer$Story", "allMet", "(II)J"⟩, 5) := ⟨⟨by decide +kernel, by decide +kernel⟩, List.mem_of_getElem? (i := 194) (by decide +kernel), List.mem_of_getElem? (i := 878) (by decide +kernel), List.mem_of_getElem? (i := 879) (by decide +kernel)⟩
theorem lw_p85 : lw_okq (⟨"PackTracer$World", "withCompany", "(J)J"⟩, 6) := ⟨⟨by decide +kernel, by decide +kernel⟩, List.mem_of_getElem? (i := 223) (by decide +kernel), List.mem_of_getElem? (i := 884) (by decide +kernel), List.mem_of_getElem? (i := 885) (by decide +kernel)⟩
theorem lw_p86 : lw_okq (⟨"PackTracer$Story", "allHeld", "(III)J"⟩, 5) := ⟨⟨by decide +kernel, by decide +kernel⟩, List.mem_of_getElem? (i := 194) (by decide +kernel), List.mem_of_getElem? (i := 892) (by decide +kernel), List.mem_of_getElem? (i := 893) (by decide +kernel)⟩
theorem lw_p87 : lw_okq (⟨"PackTracer$Story", "mostHeld", "(I)I"⟩, 5) := ⟨⟨by decide +kernel, by decide +kernel⟩, List.mem_of_getElem? (i := 194) (by decide +kernel), List.mem_of_getElem? (i := 901) (by decide +kernel), List.mem_of_getElem? (i := 902) (by decide +kernel)⟩
theorem lw_p88 : lw_okq (⟨"PackTracer$Story", "heldSince", "(II)I"⟩, 5) := ⟨⟨by decide +kernel, by decide +kernel⟩, List.mem_of_getElem? (i := 194) (by decide +kernel), List.mem_of_getElem? (i := 911) (by decide +kernel), List.mem_of_getElem? (i := 912) (by decide +kernel)⟩
theorem lw_p89 : lw_okq (⟨"PackTracer$World", "clumpsAt", "(I)I"⟩, 6) := ⟨⟨by decide +kernel, by decide +kernel⟩, List.mem_of_getElem? (i := 223) (by decide +kernel), List.mem_of_getElem? (i := 919) (by decide +kernel), List.mem_of_getElem? (i := 920) (by decide +kernel)⟩
theorem lw_p90 : lw_okq (⟨"PackTracer$Story", "hoursAt", "(II)I"⟩, 5) := ⟨⟨by decide +kernel, by decide +kernel⟩, List.mem_of_getElem? (i := 194) (by decide +kernel), List.mem_of_getElem? (i := 927) (by decide +kernel), List.mem_of_getElem? (i := 928) (by decide +kernel)⟩
theorem lw_p91 : lw_okq (⟨"PackTracer$Book", "latestHour", "()I"⟩, 13) := ⟨⟨by decide +kernel, by decide +kernel⟩, List.mem_of_getElem? (i := 51) (by decide +kernel), List.mem_of_getElem? (i := 931) (by decide +kernel), List.mem_of_getElem? (i := 932) (by decide +kernel)⟩
theorem lw_p92 : lw_okq (⟨"PackTracer$Story", "passages", "(II)I"⟩, 5) := ⟨⟨by decide +kernel, by decide +kernel⟩, List.mem_of_getElem? (i := 194) (by decide +kernel), List.mem_of_getElem? (i := 940) (by decide +kernel), List.mem_of_getElem? (i := 941) (by decide +kernel)⟩
theorem lw_p93 : lw_okq (⟨"PackTracer$Guess", "deciding", "(I)J"⟩, 7) := ⟨⟨by decide +kernel, by decide +kernel⟩, List.mem_of_getElem? (i := 271) (by decide +kernel), List.mem_of_getElem? (i := 949) (by decide +kernel), List.mem_of_getElem? (i := 950) (by decide +kernel)⟩
theorem lw_p94 : lw_okq (⟨"PackTracer$Course", "spotOf", "(I)I"⟩, 3) := ⟨⟨by decide +kernel, by decide +kernel⟩, List.mem_of_getElem? (i := 200) (by decide +kernel), List.mem_of_getElem? (i := 953) (by decide +kernel), List.mem_of_getElem? (i := 954) (by decide +kernel)⟩
theorem lw_p95 : lw_okq (⟨"PackTracer$Guess", "outcomeAt", "(III)I"⟩, 7) := ⟨⟨by decide +kernel, by decide +kernel⟩, List.mem_of_getElem? (i := 271) (by decide +kernel), List.mem_of_getElem? (i := 965) (by decide +kernel), List.mem_of_getElem? (i := 966) (by decide +kernel)⟩
def lw_privs_6 : List (MethodName × Nat) := [(⟨"PackTracer$Blame", "refusalAt", "(ILPackTracer$World;)I"⟩, 12), (⟨"PackTracer$Blame", "findTwo", "()V"⟩, 12), (⟨"PackTracer$Blame", "tryPairsWith", "(II)V"⟩, 12), (⟨"PackTracer$Blame", "propose", "(III)V"⟩, 12), (⟨"PackTracer$Story", "allMet", "(II)J"⟩, 5), (⟨"PackTracer$World", "withCompany", "(J)J"⟩, 6), (⟨"PackTracer$Story", "allHeld", "(III)J"⟩, 5), (⟨"PackTracer$Story", "mostHeld", "(I)I"⟩, 5), (⟨"PackTracer$Story", "heldSince", "(II)I"⟩, 5), (⟨"PackTracer$World", "clumpsAt", "(I)I"⟩, 6), (⟨"PackTracer$Story", "hoursAt", "(II)I"⟩, 5), (⟨"PackTracer$Book", "latestHour", "()I"⟩, 13), (⟨"PackTracer$Story", "passages", "(II)I"⟩, 5), (⟨"PackTracer$Guess", "deciding", "(I)J"⟩, 7), (⟨"PackTracer$Course", "spotOf", "(I)I"⟩, 3), (⟨"PackTracer$Guess", "outcomeAt", "(III)I"⟩, 7)]
theorem lw_r6 : ∀ q ∈ lw_privs_6, lw_okq q := List.forall_mem_cons.mpr ⟨lw_p80, List.forall_mem_cons.mpr ⟨lw_p81, List.forall_mem_cons.mpr ⟨lw_p82, List.forall_mem_cons.mpr ⟨lw_p83, List.forall_mem_cons.mpr ⟨lw_p84, List.forall_mem_cons.mpr ⟨lw_p85, List.forall_mem_cons.mpr ⟨lw_p86, List.forall_mem_cons.mpr ⟨lw_p87, List.forall_mem_cons.mpr ⟨lw_p88, List.forall_mem_cons.mpr ⟨lw_p89, List.forall_mem_cons.mpr ⟨lw_p90, List.forall_mem_cons.mpr ⟨lw_p91, List.forall_mem_cons.mpr ⟨lw_p92, List.forall_mem_cons.mpr ⟨lw_p93, List.forall_mem_cons.mpr ⟨lw_p94, List.forall_mem_cons.mpr ⟨lw_p95, fun _ h => absurd h List.not_mem_nil⟩⟩⟩⟩⟩⟩⟩⟩⟩⟩⟩⟩⟩⟩⟩⟩
theorem lw_p96 : lw_okq (⟨"PackTracer$Guess", "outcome", "(I)I"⟩, 7) := ⟨⟨by decide +kernel, by decide +kernel⟩, List.mem_of_getElem? (i := 271) (by decide +kernel), List.mem_of_getElem? (i := 970) (by decide +kernel), List.mem_of_getElem? (i := 971) (by decide +kernel)⟩
theorem lw_p97 : lw_okq (⟨"PackTracer$Guess", "openWindow", "(I)V"⟩, 7) := ⟨⟨by decide +kernel, by decide +kernel⟩, List.mem_of_getElem? (i := 271) (by decide +kernel), List.mem_of_getElem? (i := 980) (by decide +kernel), List.mem_of_getElem? (i := 981) (by decide +kernel)⟩
theorem lw_p98 : lw_okq (⟨"PackTracer$Guess", "isAheadOf", "(III)Z"⟩, 7) := ⟨⟨by decide +kernel, by decide +kernel⟩, List.mem_of_getElem? (i := 271) (by decide +kernel), List.mem_of_getElem? (i := 985) (by decide +kernel), List.mem_of_getElem? (i := 986) (by decide +kernel)⟩
theorem lw_p99 : lw_okq (⟨"PackTracer$World", "allKnownBy", "(I)J"⟩, 6) := ⟨⟨by decide +kernel, by decide +kernel⟩, List.mem_of_getElem? (i := 223) (by decide +kernel), List.mem_of_getElem? (i := 993) (by decide +kernel), List.mem_of_getElem? (i := 994) (by decide +kernel)⟩
theorem lw_p100 : lw_okq (⟨"PackTracer$Guess", "outcomeSwapped", "(III)I"⟩, 7) := ⟨⟨by decide +kernel, by decide +kernel⟩, List.mem_of_getElem? (i := 271) (by decide +kernel), List.mem_of_getElem? (i := 1001) (by decide +kernel), List.mem_of_getElem? (i := 1002) (by decide +kernel)⟩
theorem lw_p101 : lw_okq (⟨"PackTracer$Story", "busiest", "(IZ)I"⟩, 5) := ⟨⟨by decide +kernel, by decide +kernel⟩, List.mem_of_getElem? (i := 194) (by decide +kernel), List.mem_of_getElem? (i := 1009) (by decide +kernel), List.mem_of_getElem? (i := 1010) (by decide +kernel)⟩
theorem lw_p102 : lw_okq (⟨"PackTracer$Story", "hoursOnWays", "(I)I"⟩, 5) := ⟨⟨by decide +kernel, by decide +kernel⟩, List.mem_of_getElem? (i := 194) (by decide +kernel), List.mem_of_getElem? (i := 1017) (by decide +kernel), List.mem_of_getElem? (i := 1018) (by decide +kernel)⟩
theorem lw_p103 : lw_okq (⟨"PackTracer$Story", "clashOf", "(II)I"⟩, 5) := ⟨⟨by decide +kernel, by decide +kernel⟩, List.mem_of_getElem? (i := 194) (by decide +kernel), List.mem_of_getElem? (i := 1026) (by decide +kernel), List.mem_of_getElem? (i := 1027) (by decide +kernel)⟩
theorem lw_p104 : lw_okq (⟨"PackTracer$Book", "lateOnes", "()I"⟩, 13) := ⟨⟨by decide +kernel, by decide +kernel⟩, List.mem_of_getElem? (i := 51) (by decide +kernel), List.mem_of_getElem? (i := 1040) (by decide +kernel), List.mem_of_getElem? (i := 1041) (by decide +kernel)⟩
theorem lw_p105 : lw_okq (⟨"PackTracer$Book", "isLate", "(I)Z"⟩, 13) := ⟨⟨by decide +kernel, by decide +kernel⟩, List.mem_of_getElem? (i := 51) (by decide +kernel), List.mem_of_getElem? (i := 1044) (by decide +kernel), List.mem_of_getElem? (i := 1045) (by decide +kernel)⟩
theorem lw_p106 : lw_okq (⟨"java/lang/Throwable", "fillInStackTrace", "(I)Ljava/lang/Throwable;"⟩, 6) := ⟨⟨by decide +kernel, by decide +kernel⟩, List.mem_of_getElem? (i := 1094) (by decide +kernel), List.mem_of_getElem? (i := 1092) (by decide +kernel), List.mem_of_getElem? (i := 1093) (by decide +kernel)⟩
theorem lw_p107 : lw_okq (⟨"PackTracerModel", "freshText", "()V"⟩, 45) := ⟨⟨by decide +kernel, by decide +kernel⟩, List.mem_of_getElem? (i := 1141) (by decide +kernel), List.mem_of_getElem? (i := 1147) (by decide +kernel), List.mem_of_getElem? (i := 1148) (by decide +kernel)⟩
theorem lw_p108 : lw_okq (⟨"PackTracerModel", "becomes", "()V"⟩, 45) := ⟨⟨by decide +kernel, by decide +kernel⟩, List.mem_of_getElem? (i := 1141) (by decide +kernel), List.mem_of_getElem? (i := 1152) (by decide +kernel), List.mem_of_getElem? (i := 1153) (by decide +kernel)⟩
theorem lw_p109 : lw_okq (⟨"PackTracerModel", "laysWays", "()V"⟩, 45) := ⟨⟨by decide +kernel, by decide +kernel⟩, List.mem_of_getElem? (i := 1141) (by decide +kernel), List.mem_of_getElem? (i := 1156) (by decide +kernel), List.mem_of_getElem? (i := 1157) (by decide +kernel)⟩
theorem lw_p110 : lw_okq (⟨"PackTracerModel", "reads", "(IZ)I"⟩, 45) := ⟨⟨by decide +kernel, by decide +kernel⟩, List.mem_of_getElem? (i := 1141) (by decide +kernel), List.mem_of_getElem? (i := 1305) (by decide +kernel), List.mem_of_getElem? (i := 1306) (by decide +kernel)⟩
theorem lw_p111 : lw_okq (⟨"PackTracerModel", "token", "()V"⟩, 45) := ⟨⟨by decide +kernel, by decide +kernel⟩, List.mem_of_getElem? (i := 1141) (by decide +kernel), List.mem_of_getElem? (i := 1309) (by decide +kernel), List.mem_of_getElem? (i := 1310) (by decide +kernel)⟩
def lw_privs_7 : List (MethodName × Nat) := [(⟨"PackTracer$Guess", "outcome", "(I)I"⟩, 7), (⟨"PackTracer$Guess", "openWindow", "(I)V"⟩, 7), (⟨"PackTracer$Guess", "isAheadOf", "(III)Z"⟩, 7), (⟨"PackTracer$World", "allKnownBy", "(I)J"⟩, 6), (⟨"PackTracer$Guess", "outcomeSwapped", "(III)I"⟩, 7), (⟨"PackTracer$Story", "busiest", "(IZ)I"⟩, 5), (⟨"PackTracer$Story", "hoursOnWays", "(I)I"⟩, 5), (⟨"PackTracer$Story", "clashOf", "(II)I"⟩, 5), (⟨"PackTracer$Book", "lateOnes", "()I"⟩, 13), (⟨"PackTracer$Book", "isLate", "(I)Z"⟩, 13), (⟨"java/lang/Throwable", "fillInStackTrace", "(I)Ljava/lang/Throwable;"⟩, 6), (⟨"PackTracerModel", "freshText", "()V"⟩, 45), (⟨"PackTracerModel", "becomes", "()V"⟩, 45), (⟨"PackTracerModel", "laysWays", "()V"⟩, 45), (⟨"PackTracerModel", "reads", "(IZ)I"⟩, 45), (⟨"PackTracerModel", "token", "()V"⟩, 45)]
theorem lw_r7 : ∀ q ∈ lw_privs_7, lw_okq q := List.forall_mem_cons.mpr ⟨lw_p96, List.forall_mem_cons.mpr ⟨lw_p97, List.forall_mem_cons.mpr ⟨lw_p98, List.forall_mem_cons.mpr ⟨lw_p99, List.forall_mem_cons.mpr ⟨lw_p100, List.forall_mem_cons.mpr ⟨lw_p101, List.forall_mem_cons.mpr ⟨lw_p102, List.forall_mem_cons.mpr ⟨lw_p103, List.forall_mem_cons.mpr ⟨lw_p104, List.forall_mem_cons.mpr ⟨lw_p105, List.forall_mem_cons.mpr ⟨lw_p106, List.forall_mem_cons.mpr ⟨lw_p107, List.forall_mem_cons.mpr ⟨lw_p108, List.forall_mem_cons.mpr ⟨lw_p109, List.forall_mem_cons.mpr ⟨lw_p110, List.forall_mem_cons.mpr ⟨lw_p111, fun _ h => absurd h List.not_mem_nil⟩⟩⟩⟩⟩⟩⟩⟩⟩⟩⟩⟩⟩⟩⟩⟩
theorem lw_p112 : lw_okq (⟨"PackTracerModel", "here", "()I"⟩, 45) := ⟨⟨by decide +kernel, by decide +kernel⟩, List.mem_of_getElem? (i := 1141) (by decide +kernel), List.mem_of_getElem? (i := 1313) (by decide +kernel), List.mem_of_getElem? (i := 1314) (by decide +kernel)⟩
theorem lw_p113 : lw_okq (⟨"PackTracerModel", "wordHere", "()I"⟩, 45) := ⟨⟨by decide +kernel, by decide +kernel⟩, List.mem_of_getElem? (i := 1141) (by decide +kernel), List.mem_of_getElem? (i := 1320) (by decide +kernel), List.mem_of_getElem? (i := 1321) (by decide +kernel)⟩
theorem lw_p114 : lw_okq (⟨"PackTracerModel", "readLine", "(Z)V"⟩, 45) := ⟨⟨by decide +kernel, by decide +kernel⟩, List.mem_of_getElem? (i := 1141) (by decide +kernel), List.mem_of_getElem? (i := 1330) (by decide +kernel), List.mem_of_getElem? (i := 1331) (by decide +kernel)⟩
theorem lw_p115 : lw_okq (⟨"PackTracerModel", "readMessage", "()V"⟩, 45) := ⟨⟨by decide +kernel, by decide +kernel⟩, List.mem_of_getElem? (i := 1141) (by decide +kernel), List.mem_of_getElem? (i := 1334) (by decide +kernel), List.mem_of_getElem? (i := 1335) (by decide +kernel)⟩
theorem lw_p116 : lw_okq (⟨"PackTracerModel", "wrong", "(I)V"⟩, 45) := ⟨⟨by decide +kernel, by decide +kernel⟩, List.mem_of_getElem? (i := 1141) (by decide +kernel), List.mem_of_getElem? (i := 1338) (by decide +kernel), List.mem_of_getElem? (i := 1339) (by decide +kernel)⟩
theorem lw_p117 : lw_okq (⟨"PackTracerModel", "goOn", "()V"⟩, 45) := ⟨⟨by decide +kernel, by decide +kernel⟩, List.mem_of_getElem? (i := 1141) (by decide +kernel), List.mem_of_getElem? (i := 1342) (by decide +kernel), List.mem_of_getElem? (i := 1343) (by decide +kernel)⟩
theorem lw_p118 : lw_okq (⟨"PackTracerModel", "number", "(II)I"⟩, 45) := ⟨⟨by decide +kernel, by decide +kernel⟩, List.mem_of_getElem? (i := 1141) (by decide +kernel), List.mem_of_getElem? (i := 1346) (by decide +kernel), List.mem_of_getElem? (i := 1347) (by decide +kernel)⟩
theorem lw_p119 : lw_okq (⟨"PackTracerModel", "kindHere", "()I"⟩, 45) := ⟨⟨by decide +kernel, by decide +kernel⟩, List.mem_of_getElem? (i := 1141) (by decide +kernel), List.mem_of_getElem? (i := 1350) (by decide +kernel), List.mem_of_getElem? (i := 1351) (by decide +kernel)⟩
theorem lw_p120 : lw_okq (⟨"PackTracerModel", "readPlace", "()I"⟩, 45) := ⟨⟨by decide +kernel, by decide +kernel⟩, List.mem_of_getElem? (i := 1141) (by decide +kernel), List.mem_of_getElem? (i := 1354) (by decide +kernel), List.mem_of_getElem? (i := 1355) (by decide +kernel)⟩
theorem lw_p121 : lw_okq (⟨"PackTracerModel", "placeHere", "()I"⟩, 45) := ⟨⟨by decide +kernel, by decide +kernel⟩, List.mem_of_getElem? (i := 1141) (by decide +kernel), List.mem_of_getElem? (i := 1358) (by decide +kernel), List.mem_of_getElem? (i := 1359) (by decide +kernel)⟩
theorem lw_p122 : lw_okq (⟨"PackTracerModel", "readNew", "()V"⟩, 45) := ⟨⟨by decide +kernel, by decide +kernel⟩, List.mem_of_getElem? (i := 1141) (by decide +kernel), List.mem_of_getElem? (i := 1362) (by decide +kernel), List.mem_of_getElem? (i := 1363) (by decide +kernel)⟩
theorem lw_p123 : lw_okq (⟨"PackTracerModel", "readRoad", "()V"⟩, 45) := ⟨⟨by decide +kernel, by decide +kernel⟩, List.mem_of_getElem? (i := 1141) (by decide +kernel), List.mem_of_getElem? (i := 1366) (by decide +kernel), List.mem_of_getElem? (i := 1367) (by decide +kernel)⟩
theorem lw_p124 : lw_okq (⟨"PackTracerModel", "readFits", "()V"⟩, 45) := ⟨⟨by decide +kernel, by decide +kernel⟩, List.mem_of_getElem? (i := 1141) (by decide +kernel), List.mem_of_getElem? (i := 1370) (by decide +kernel), List.mem_of_getElem? (i := 1371) (by decide +kernel)⟩
theorem lw_p125 : lw_okq (⟨"PackTracerModel", "isPlace", "(I)Z"⟩, 45) := ⟨⟨by decide +kernel, by decide +kernel⟩, List.mem_of_getElem? (i := 1141) (by decide +kernel), List.mem_of_getElem? (i := 1386) (by decide +kernel), List.mem_of_getElem? (i := 1387) (by decide +kernel)⟩
theorem lw_p126 : lw_okq (⟨"PackTracerModel", "messages", "()I"⟩, 45) := ⟨⟨by decide +kernel, by decide +kernel⟩, List.mem_of_getElem? (i := 1141) (by decide +kernel), List.mem_of_getElem? (i := 1394) (by decide +kernel), List.mem_of_getElem? (i := 1395) (by decide +kernel)⟩
theorem lw_p127 : lw_okq (⟨"PackTracerModel", "runsAll", "()V"⟩, 45) := ⟨⟨by decide +kernel, by decide +kernel⟩, List.mem_of_getElem? (i := 1141) (by decide +kernel), List.mem_of_getElem? (i := 1398) (by decide +kernel), List.mem_of_getElem? (i := 1399) (by decide +kernel)⟩
def lw_privs_8 : List (MethodName × Nat) := [(⟨"PackTracerModel", "here", "()I"⟩, 45), (⟨"PackTracerModel", "wordHere", "()I"⟩, 45), (⟨"PackTracerModel", "readLine", "(Z)V"⟩, 45), (⟨"PackTracerModel", "readMessage", "()V"⟩, 45), (⟨"PackTracerModel", "wrong", "(I)V"⟩, 45), (⟨"PackTracerModel", "goOn", "()V"⟩, 45), (⟨"PackTracerModel", "number", "(II)I"⟩, 45), (⟨"PackTracerModel", "kindHere", "()I"⟩, 45), (⟨"PackTracerModel", "readPlace", "()I"⟩, 45), (⟨"PackTracerModel", "placeHere", "()I"⟩, 45), (⟨"PackTracerModel", "readNew", "()V"⟩, 45), (⟨"PackTracerModel", "readRoad", "()V"⟩, 45), (⟨"PackTracerModel", "readFits", "()V"⟩, 45), (⟨"PackTracerModel", "isPlace", "(I)Z"⟩, 45), (⟨"PackTracerModel", "messages", "()I"⟩, 45), (⟨"PackTracerModel", "runsAll", "()V"⟩, 45)]
theorem lw_r8 : ∀ q ∈ lw_privs_8, lw_okq q := List.forall_mem_cons.mpr ⟨lw_p112, List.forall_mem_cons.mpr ⟨lw_p113, List.forall_mem_cons.mpr ⟨lw_p114, List.forall_mem_cons.mpr ⟨lw_p115, List.forall_mem_cons.mpr ⟨lw_p116, List.forall_mem_cons.mpr ⟨lw_p117, List.forall_mem_cons.mpr ⟨lw_p118, List.forall_mem_cons.mpr ⟨lw_p119, List.forall_mem_cons.mpr ⟨lw_p120, List.forall_mem_cons.mpr ⟨lw_p121, List.forall_mem_cons.mpr ⟨lw_p122, List.forall_mem_cons.mpr ⟨lw_p123, List.forall_mem_cons.mpr ⟨lw_p124, List.forall_mem_cons.mpr ⟨lw_p125, List.forall_mem_cons.mpr ⟨lw_p126, List.forall_mem_cons.mpr ⟨lw_p127, fun _ h => absurd h List.not_mem_nil⟩⟩⟩⟩⟩⟩⟩⟩⟩⟩⟩⟩⟩⟩⟩⟩
theorem lw_p128 : lw_okq (⟨"PackTracerModel", "takesAll", "()V"⟩, 45) := ⟨⟨by decide +kernel, by decide +kernel⟩, List.mem_of_getElem? (i := 1141) (by decide +kernel), List.mem_of_getElem? (i := 1402) (by decide +kernel), List.mem_of_getElem? (i := 1403) (by decide +kernel)⟩
theorem lw_p129 : lw_okq (⟨"PackTracerModel", "told", "(II)I"⟩, 45) := ⟨⟨by decide +kernel, by decide +kernel⟩, List.mem_of_getElem? (i := 1141) (by decide +kernel), List.mem_of_getElem? (i := 1406) (by decide +kernel), List.mem_of_getElem? (i := 1407) (by decide +kernel)⟩
theorem lw_p130 : lw_okq (⟨"PackTracerModel", "runs", "(I)V"⟩, 45) := ⟨⟨by decide +kernel, by decide +kernel⟩, List.mem_of_getElem? (i := 1141) (by decide +kernel), List.mem_of_getElem? (i := 1410) (by decide +kernel), List.mem_of_getElem? (i := 1411) (by decide +kernel)⟩
theorem lw_p131 : lw_okq (⟨"PackTracerModel", "clears", "()V"⟩, 45) := ⟨⟨by decide +kernel, by decide +kernel⟩, List.mem_of_getElem? (i := 1141) (by decide +kernel), List.mem_of_getElem? (i := 1414) (by decide +kernel), List.mem_of_getElem? (i := 1415) (by decide +kernel)⟩
theorem lw_p132 : lw_okq (⟨"PackTracerModel", "sorts", "()V"⟩, 45) := ⟨⟨by decide +kernel, by decide +kernel⟩, List.mem_of_getElem? (i := 1141) (by decide +kernel), List.mem_of_getElem? (i := 1418) (by decide +kernel), List.mem_of_getElem? (i := 1419) (by decide +kernel)⟩
theorem lw_p133 : lw_okq (⟨"PackTracerModel", "looks", "(I)V"⟩, 45) := ⟨⟨by decide +kernel, by decide +kernel⟩, List.mem_of_getElem? (i := 1141) (by decide +kernel), List.mem_of_getElem? (i := 1422) (by decide +kernel), List.mem_of_getElem? (i := 1423) (by decide +kernel)⟩
theorem lw_p134 : lw_okq (⟨"PackTracerModel", "reason", "(I)I"⟩, 45) := ⟨⟨by decide +kernel, by decide +kernel⟩, List.mem_of_getElem? (i := 1141) (by decide +kernel), List.mem_of_getElem? (i := 1426) (by decide +kernel), List.mem_of_getElem? (i := 1427) (by decide +kernel)⟩
theorem lw_p135 : lw_okq (⟨"PackTracerModel", "topOf", "(I)I"⟩, 45) := ⟨⟨by decide +kernel, by decide +kernel⟩, List.mem_of_getElem? (i := 1141) (by decide +kernel), List.mem_of_getElem? (i := 1430) (by decide +kernel), List.mem_of_getElem? (i := 1431) (by decide +kernel)⟩
theorem lw_p136 : lw_okq (⟨"PackTracerModel", "manyIn", "(I)I"⟩, 45) := ⟨⟨by decide +kernel, by decide +kernel⟩, List.mem_of_getElem? (i := 1141) (by decide +kernel), List.mem_of_getElem? (i := 1434) (by decide +kernel), List.mem_of_getElem? (i := 1435) (by decide +kernel)⟩
theorem lw_p137 : lw_okq (⟨"PackTracerModel", "isOneOf", "(IIII)Z"⟩, 45) := ⟨⟨by decide +kernel, by decide +kernel⟩, List.mem_of_getElem? (i := 1141) (by decide +kernel), List.mem_of_getElem? (i := 1438) (by decide +kernel), List.mem_of_getElem? (i := 1439) (by decide +kernel)⟩
theorem lw_p138 : lw_okq (⟨"PackTracerModel", "isSoon", "(III)Z"⟩, 45) := ⟨⟨by decide +kernel, by decide +kernel⟩, List.mem_of_getElem? (i := 1141) (by decide +kernel), List.mem_of_getElem? (i := 1442) (by decide +kernel), List.mem_of_getElem? (i := 1443) (by decide +kernel)⟩
theorem lw_p139 : lw_okq (⟨"PackTracerModel", "isHeld", "(I)Z"⟩, 45) := ⟨⟨by decide +kernel, by decide +kernel⟩, List.mem_of_getElem? (i := 1141) (by decide +kernel), List.mem_of_getElem? (i := 1446) (by decide +kernel), List.mem_of_getElem? (i := 1447) (by decide +kernel)⟩
theorem lw_p140 : lw_okq (⟨"PackTracerModel", "isWithin", "(II)Z"⟩, 45) := ⟨⟨by decide +kernel, by decide +kernel⟩, List.mem_of_getElem? (i := 1141) (by decide +kernel), List.mem_of_getElem? (i := 1450) (by decide +kernel), List.mem_of_getElem? (i := 1451) (by decide +kernel)⟩
theorem lw_p141 : lw_okq (⟨"PackTracerModel", "takes", "(IIIII)V"⟩, 45) := ⟨⟨by decide +kernel, by decide +kernel⟩, List.mem_of_getElem? (i := 1141) (by decide +kernel), List.mem_of_getElem? (i := 1454) (by decide +kernel), List.mem_of_getElem? (i := 1455) (by decide +kernel)⟩
theorem lw_p142 : lw_okq (⟨"PackTracerModel", "lies", "(III)V"⟩, 45) := ⟨⟨by decide +kernel, by decide +kernel⟩, List.mem_of_getElem? (i := 1141) (by decide +kernel), List.mem_of_getElem? (i := 1458) (by decide +kernel), List.mem_of_getElem? (i := 1459) (by decide +kernel)⟩
theorem lw_p143 : lw_okq (⟨"PackTracerModel", "comesOut", "(III)V"⟩, 45) := ⟨⟨by decide +kernel, by decide +kernel⟩, List.mem_of_getElem? (i := 1141) (by decide +kernel), List.mem_of_getElem? (i := 1462) (by decide +kernel), List.mem_of_getElem? (i := 1463) (by decide +kernel)⟩
def lw_privs_9 : List (MethodName × Nat) := [(⟨"PackTracerModel", "takesAll", "()V"⟩, 45), (⟨"PackTracerModel", "told", "(II)I"⟩, 45), (⟨"PackTracerModel", "runs", "(I)V"⟩, 45), (⟨"PackTracerModel", "clears", "()V"⟩, 45), (⟨"PackTracerModel", "sorts", "()V"⟩, 45), (⟨"PackTracerModel", "looks", "(I)V"⟩, 45), (⟨"PackTracerModel", "reason", "(I)I"⟩, 45), (⟨"PackTracerModel", "topOf", "(I)I"⟩, 45), (⟨"PackTracerModel", "manyIn", "(I)I"⟩, 45), (⟨"PackTracerModel", "isOneOf", "(IIII)Z"⟩, 45), (⟨"PackTracerModel", "isSoon", "(III)Z"⟩, 45), (⟨"PackTracerModel", "isHeld", "(I)Z"⟩, 45), (⟨"PackTracerModel", "isWithin", "(II)Z"⟩, 45), (⟨"PackTracerModel", "takes", "(IIIII)V"⟩, 45), (⟨"PackTracerModel", "lies", "(III)V"⟩, 45), (⟨"PackTracerModel", "comesOut", "(III)V"⟩, 45)]
theorem lw_r9 : ∀ q ∈ lw_privs_9, lw_okq q := List.forall_mem_cons.mpr ⟨lw_p128, List.forall_mem_cons.mpr ⟨lw_p129, List.forall_mem_cons.mpr ⟨lw_p130, List.forall_mem_cons.mpr ⟨lw_p131, List.forall_mem_cons.mpr ⟨lw_p132, List.forall_mem_cons.mpr ⟨lw_p133, List.forall_mem_cons.mpr ⟨lw_p134, List.forall_mem_cons.mpr ⟨lw_p135, List.forall_mem_cons.mpr ⟨lw_p136, List.forall_mem_cons.mpr ⟨lw_p137, List.forall_mem_cons.mpr ⟨lw_p138, List.forall_mem_cons.mpr ⟨lw_p139, List.forall_mem_cons.mpr ⟨lw_p140, List.forall_mem_cons.mpr ⟨lw_p141, List.forall_mem_cons.mpr ⟨lw_p142, List.forall_mem_cons.mpr ⟨lw_p143, fun _ h => absurd h List.not_mem_nil⟩⟩⟩⟩⟩⟩⟩⟩⟩⟩⟩⟩⟩⟩⟩⟩
theorem lw_p144 : lw_okq (⟨"PackTracerModel", "scans", "(III)V"⟩, 45) := ⟨⟨by decide +kernel, by decide +kernel⟩, List.mem_of_getElem? (i := 1141) (by decide +kernel), List.mem_of_getElem? (i := 1466) (by decide +kernel), List.mem_of_getElem? (i := 1467) (by decide +kernel)⟩
theorem lw_p145 : lw_okq (⟨"PackTracerModel", "ends", "(I)V"⟩, 45) := ⟨⟨by decide +kernel, by decide +kernel⟩, List.mem_of_getElem? (i := 1141) (by decide +kernel), List.mem_of_getElem? (i := 1470) (by decide +kernel), List.mem_of_getElem? (i := 1471) (by decide +kernel)⟩
theorem lw_p146 : lw_okq (⟨"PackTracerModel", "orderOf", "(I)I"⟩, 45) := ⟨⟨by decide +kernel, by decide +kernel⟩, List.mem_of_getElem? (i := 1141) (by decide +kernel), List.mem_of_getElem? (i := 1474) (by decide +kernel), List.mem_of_getElem? (i := 1475) (by decide +kernel)⟩
theorem lw_p147 : lw_okq (⟨"PackTracerModel", "isLate", "(I)Z"⟩, 45) := ⟨⟨by decide +kernel, by decide +kernel⟩, List.mem_of_getElem? (i := 1141) (by decide +kernel), List.mem_of_getElem? (i := 1478) (by decide +kernel), List.mem_of_getElem? (i := 1479) (by decide +kernel)⟩
theorem lw_p148 : lw_okq (⟨"PackTracerModel", "runsTo", "(I)V"⟩, 45) := ⟨⟨by decide +kernel, by decide +kernel⟩, List.mem_of_getElem? (i := 1141) (by decide +kernel), List.mem_of_getElem? (i := 1492) (by decide +kernel), List.mem_of_getElem? (i := 1493) (by decide +kernel)⟩
theorem lw_p149 : lw_okq (⟨"PackTracerModel", "whereIs", "(I)I"⟩, 45) := ⟨⟨by decide +kernel, by decide +kernel⟩, List.mem_of_getElem? (i := 1141) (by decide +kernel), List.mem_of_getElem? (i := 1496) (by decide +kernel), List.mem_of_getElem? (i := 1497) (by decide +kernel)⟩
theorem lw_p150 : lw_okq (⟨"PackTracerModel", "allIn", "(I)I"⟩, 45) := ⟨⟨by decide +kernel, by decide +kernel⟩, List.mem_of_getElem? (i := 1141) (by decide +kernel), List.mem_of_getElem? (i := 1500) (by decide +kernel), List.mem_of_getElem? (i := 1501) (by decide +kernel)⟩
theorem lw_p151 : lw_okq (⟨"PackTracerModel", "isSo", "(II)Z"⟩, 45) := ⟨⟨by decide +kernel, by decide +kernel⟩, List.mem_of_getElem? (i := 1141) (by decide +kernel), List.mem_of_getElem? (i := 1516) (by decide +kernel), List.mem_of_getElem? (i := 1517) (by decide +kernel)⟩
theorem lw_p152 : lw_okq (⟨"PackTracerModel", "laysTrail", "(I)V"⟩, 45) := ⟨⟨by decide +kernel, by decide +kernel⟩, List.mem_of_getElem? (i := 1141) (by decide +kernel), List.mem_of_getElem? (i := 1524) (by decide +kernel), List.mem_of_getElem? (i := 1525) (by decide +kernel)⟩
theorem lw_p153 : lw_okq (⟨"PackTracerModel", "latest", "()I"⟩, 45) := ⟨⟨by decide +kernel, by decide +kernel⟩, List.mem_of_getElem? (i := 1141) (by decide +kernel), List.mem_of_getElem? (i := 1532) (by decide +kernel), List.mem_of_getElem? (i := 1533) (by decide +kernel)⟩
theorem lw_p154 : lw_okq (⟨"PackTracerModel", "runsFirst", "(I)V"⟩, 45) := ⟨⟨by decide +kernel, by decide +kernel⟩, List.mem_of_getElem? (i := 1141) (by decide +kernel), List.mem_of_getElem? (i := 1544) (by decide +kernel), List.mem_of_getElem? (i := 1545) (by decide +kernel)⟩
theorem lw_p155 : lw_okq (⟨"PackTracerModel", "runsWithout", "(II)V"⟩, 45) := ⟨⟨by decide +kernel, by decide +kernel⟩, List.mem_of_getElem? (i := 1141) (by decide +kernel), List.mem_of_getElem? (i := 1556) (by decide +kernel), List.mem_of_getElem? (i := 1557) (by decide +kernel)⟩
theorem lw_p156 : lw_okq (⟨"PackTracerModel", "refusedNow", "()I"⟩, 45) := ⟨⟨by decide +kernel, by decide +kernel⟩, List.mem_of_getElem? (i := 1141) (by decide +kernel), List.mem_of_getElem? (i := 1564) (by decide +kernel), List.mem_of_getElem? (i := 1565) (by decide +kernel)⟩
theorem lw_p157 : lw_okq (⟨"PackTracerModel", "blames", "(Z)V"⟩, 45) := ⟨⟨by decide +kernel, by decide +kernel⟩, List.mem_of_getElem? (i := 1141) (by decide +kernel), List.mem_of_getElem? (i := 1572) (by decide +kernel), List.mem_of_getElem? (i := 1573) (by decide +kernel)⟩
theorem lw_p158 : lw_okq (⟨"PackTracerModel", "isRefused", "(I)Z"⟩, 45) := ⟨⟨by decide +kernel, by decide +kernel⟩, List.mem_of_getElem? (i := 1141) (by decide +kernel), List.mem_of_getElem? (i := 1584) (by decide +kernel), List.mem_of_getElem? (i := 1585) (by decide +kernel)⟩
theorem lw_p159 : lw_okq (⟨"PackTracerModel", "runsAt", "(II)V"⟩, 45) := ⟨⟨by decide +kernel, by decide +kernel⟩, List.mem_of_getElem? (i := 1141) (by decide +kernel), List.mem_of_getElem? (i := 1596) (by decide +kernel), List.mem_of_getElem? (i := 1597) (by decide +kernel)⟩
def lw_privs_10 : List (MethodName × Nat) := [(⟨"PackTracerModel", "scans", "(III)V"⟩, 45), (⟨"PackTracerModel", "ends", "(I)V"⟩, 45), (⟨"PackTracerModel", "orderOf", "(I)I"⟩, 45), (⟨"PackTracerModel", "isLate", "(I)Z"⟩, 45), (⟨"PackTracerModel", "runsTo", "(I)V"⟩, 45), (⟨"PackTracerModel", "whereIs", "(I)I"⟩, 45), (⟨"PackTracerModel", "allIn", "(I)I"⟩, 45), (⟨"PackTracerModel", "isSo", "(II)Z"⟩, 45), (⟨"PackTracerModel", "laysTrail", "(I)V"⟩, 45), (⟨"PackTracerModel", "latest", "()I"⟩, 45), (⟨"PackTracerModel", "runsFirst", "(I)V"⟩, 45), (⟨"PackTracerModel", "runsWithout", "(II)V"⟩, 45), (⟨"PackTracerModel", "refusedNow", "()I"⟩, 45), (⟨"PackTracerModel", "blames", "(Z)V"⟩, 45), (⟨"PackTracerModel", "isRefused", "(I)Z"⟩, 45), (⟨"PackTracerModel", "runsAt", "(II)V"⟩, 45)]
theorem lw_r10 : ∀ q ∈ lw_privs_10, lw_okq q := List.forall_mem_cons.mpr ⟨lw_p144, List.forall_mem_cons.mpr ⟨lw_p145, List.forall_mem_cons.mpr ⟨lw_p146, List.forall_mem_cons.mpr ⟨lw_p147, List.forall_mem_cons.mpr ⟨lw_p148, List.forall_mem_cons.mpr ⟨lw_p149, List.forall_mem_cons.mpr ⟨lw_p150, List.forall_mem_cons.mpr ⟨lw_p151, List.forall_mem_cons.mpr ⟨lw_p152, List.forall_mem_cons.mpr ⟨lw_p153, List.forall_mem_cons.mpr ⟨lw_p154, List.forall_mem_cons.mpr ⟨lw_p155, List.forall_mem_cons.mpr ⟨lw_p156, List.forall_mem_cons.mpr ⟨lw_p157, List.forall_mem_cons.mpr ⟨lw_p158, List.forall_mem_cons.mpr ⟨lw_p159, fun _ h => absurd h List.not_mem_nil⟩⟩⟩⟩⟩⟩⟩⟩⟩⟩⟩⟩⟩⟩⟩⟩
theorem lw_p160 : lw_okq (⟨"PackTracerModel", "meets", "()V"⟩, 45) := ⟨⟨by decide +kernel, by decide +kernel⟩, List.mem_of_getElem? (i := 1141) (by decide +kernel), List.mem_of_getElem? (i := 1608) (by decide +kernel), List.mem_of_getElem? (i := 1609) (by decide +kernel)⟩
theorem lw_p161 : lw_okq (⟨"PackTracerModel", "adds", "(I)V"⟩, 45) := ⟨⟨by decide +kernel, by decide +kernel⟩, List.mem_of_getElem? (i := 1141) (by decide +kernel), List.mem_of_getElem? (i := 1619) (by decide +kernel), List.mem_of_getElem? (i := 1620) (by decide +kernel)⟩
theorem lw_p162 : lw_okq (⟨"PackTracerModel", "bitsIn", "(I)J"⟩, 45) := ⟨⟨by decide +kernel, by decide +kernel⟩, List.mem_of_getElem? (i := 1141) (by decide +kernel), List.mem_of_getElem? (i := 1631) (by decide +kernel), List.mem_of_getElem? (i := 1632) (by decide +kernel)⟩
theorem lw_p163 : lw_okq (⟨"PackTracerModel", "manyAt", "(I)I"⟩, 45) := ⟨⟨by decide +kernel, by decide +kernel⟩, List.mem_of_getElem? (i := 1141) (by decide +kernel), List.mem_of_getElem? (i := 1659) (by decide +kernel), List.mem_of_getElem? (i := 1660) (by decide +kernel)⟩
theorem lw_p164 : lw_okq (⟨"PackTracerModel", "lates", "()I"⟩, 45) := ⟨⟨by decide +kernel, by decide +kernel⟩, List.mem_of_getElem? (i := 1141) (by decide +kernel), List.mem_of_getElem? (i := 1671) (by decide +kernel), List.mem_of_getElem? (i := 1672) (by decide +kernel)⟩
def lw_privs_11 : List (MethodName × Nat) := [(⟨"PackTracerModel", "meets", "()V"⟩, 45), (⟨"PackTracerModel", "adds", "(I)V"⟩, 45), (⟨"PackTracerModel", "bitsIn", "(I)J"⟩, 45), (⟨"PackTracerModel", "manyAt", "(I)I"⟩, 45), (⟨"PackTracerModel", "lates", "()I"⟩, 45)]
theorem lw_r11 : ∀ q ∈ lw_privs_11, lw_okq q := List.forall_mem_cons.mpr ⟨lw_p160, List.forall_mem_cons.mpr ⟨lw_p161, List.forall_mem_cons.mpr ⟨lw_p162, List.forall_mem_cons.mpr ⟨lw_p163, List.forall_mem_cons.mpr ⟨lw_p164, fun _ h => absurd h List.not_mem_nil⟩⟩⟩⟩⟩
def lw_privs : List (MethodName × Nat) := lw_privs_1 ++ (lw_privs_2 ++ (lw_privs_3 ++ (lw_privs_4 ++ (lw_privs_5 ++ (lw_privs_6 ++ (lw_privs_7 ++ (lw_privs_8 ++ (lw_privs_9 ++ (lw_privs_10 ++ (lw_privs_11))))))))))
def lw_tbl : List Cond := k2_sels lw_privs ++ tables_1
theorem lw_privs_ok : ∀ q ∈ lw_privs, lw_okq q := by
  show ∀ q ∈ lw_privs_1 ++ (lw_privs_2 ++ (lw_privs_3 ++ (lw_privs_4 ++ (lw_privs_5 ++ (lw_privs_6 ++ (lw_privs_7 ++ (lw_privs_8 ++ (lw_privs_9 ++ (lw_privs_10 ++ (lw_privs_11)))))))))), lw_okq q
  exact List.forall_mem_append.mpr ⟨lw_r1, List.forall_mem_append.mpr ⟨lw_r2, List.forall_mem_append.mpr ⟨lw_r3, List.forall_mem_append.mpr ⟨lw_r4, List.forall_mem_append.mpr ⟨lw_r5, List.forall_mem_append.mpr ⟨lw_r6, List.forall_mem_append.mpr ⟨lw_r7, List.forall_mem_append.mpr ⟨lw_r8, List.forall_mem_append.mpr ⟨lw_r9, List.forall_mem_append.mpr ⟨lw_r10, lw_r11⟩⟩⟩⟩⟩⟩⟩⟩⟩⟩
end
section
def RX0 : String := "PackTracer$Blame"
def TX0 : u_T := fun k => match k with
  | 0 => ("PackTracer$Blame", "ahead", "LPackTracer$World;", true)
  | 1 => ("PackTracer$Blame", "less", "LPackTracer$World;", true)
  | 2 => ("PackTracer$Blame", "rest", "LPackTracer$World;", true)
  | 3 => ("PackTracer$Blame", "book", "LPackTracer$Book;", true)
  | 4 => ("PackTracer$Blame", "course", "LPackTracer$Course;", true)
  | 5 => ("PackTracer$Blame", "foundOne", "Z", false)
  | 6 => ("PackTracer$Blame", "foundTwo", "Z", false)
  | 7 => ("PackTracer$Blame", "one", "I", false)
  | 8 => ("PackTracer$Blame", "oneLeaves", "I", false)
  | 9 => ("PackTracer$Blame", "lesser", "I", false)
  | 10 => ("PackTracer$Blame", "greater", "I", false)
  | _ => ("PackTracer$Blame", "twoLeave", "I", false)
def tyX0 : Nat → FieldType := fun k => match k with
  | 0 => .object "PackTracer$World"
  | 1 => .object "PackTracer$World"
  | 2 => .object "PackTracer$World"
  | 3 => .object "PackTracer$Book"
  | 4 => .object "PackTracer$Course"
  | 5 => .boolean
  | 6 => .boolean
  | 7 => .int
  | 8 => .int
  | 9 => .int
  | 10 => .int
  | _ => .int
theorem nmX0 : ∀ a, a < 12 → ∀ b, b < 12 → a ≠ b → (TX0 a).2.1 ≠ (TX0 b).2.1 := by decide +kernel
theorem tyX0_ok : ∀ k, k < 12 → parseFieldDescriptor (TX0 k).2.2.1 = some (tyX0 k) := by decide +kernel
abbrev cX0_init : ByteArray := prog_2_method_1_code
def yX0_init : MethodName := ⟨RX0, "<init>", "(LPackTracer$Story;)V"⟩
abbrev cX0_forget : ByteArray := prog_2_method_2_code
def yX0_forget : MethodName := ⟨RX0, "forget", "()V"⟩
abbrev cX0_findOne : ByteArray := prog_2_method_3_code
def yX0_findOne : MethodName := ⟨RX0, "findOne", "()V"⟩
abbrev cX0_findTwo : ByteArray := prog_2_method_4_code
def yX0_findTwo : MethodName := ⟨RX0, "findTwo", "()V"⟩
abbrev cX0_tryPairsWith : ByteArray := prog_2_method_5_code
def yX0_tryPairsWith : MethodName := ⟨RX0, "tryPairsWith", "(II)V"⟩
abbrev cX0_propose : ByteArray := prog_2_method_6_code
def yX0_propose : MethodName := ⟨RX0, "propose", "(III)V"⟩
abbrev cX0_refusedBehind : ByteArray := prog_2_method_7_code
def yX0_refusedBehind : MethodName := ⟨RX0, "refusedBehind", "(III)I"⟩
abbrev cX0_refusalAt : ByteArray := prog_2_method_8_code
def yX0_refusalAt : MethodName := ⟨RX0, "refusalAt", "(ILPackTracer$World;)I"⟩
def RX1 : String := "PackTracer$Book"
def TX1 : u_T := fun k => match k with
  | 0 => ("PackTracer$Book", "names", "[I", true)
  | 1 => ("PackTracer$Book", "ways", "[I", true)
  | 2 => ("PackTracer$Book", "hour", "[I", true)
  | 3 => ("PackTracer$Book", "act", "[I", true)
  | 4 => ("PackTracer$Book", "first", "[I", true)
  | 5 => ("PackTracer$Book", "second", "[I", true)
  | 6 => ("PackTracer$Book", "kind", "[I", true)
  | 7 => ("PackTracer$Book", "places", "I", false)
  | 8 => ("PackTracer$Book", "roads", "I", false)
  | 9 => ("PackTracer$Book", "size", "I", false)
  | 10 => ("PackTracer$Book", "unitsFit", "I", false)
  | 11 => ("PackTracer$Book", "cartonsFit", "I", false)
  | _ => ("PackTracer$Book", "fitsTold", "Z", false)
def tyX1 : Nat → FieldType := fun k => match k with
  | 0 => .array .int
  | 1 => .array .int
  | 2 => .array .int
  | 3 => .array .int
  | 4 => .array .int
  | 5 => .array .int
  | 6 => .array .int
  | 7 => .int
  | 8 => .int
  | 9 => .int
  | 10 => .int
  | 11 => .int
  | _ => .boolean
theorem nmX1 : ∀ a, a < 13 → ∀ b, b < 13 → a ≠ b → (TX1 a).2.1 ≠ (TX1 b).2.1 := by decide +kernel
theorem tyX1_ok : ∀ k, k < 13 → parseFieldDescriptor (TX1 k).2.2.1 = some (tyX1 k) := by decide +kernel
abbrev cX1_init : ByteArray := prog_3_method_1_code
def yX1_init : MethodName := ⟨RX1, "<init>", "()V"⟩
abbrev cX1_clear : ByteArray := prog_3_method_2_code
def yX1_clear : MethodName := ⟨RX1, "clear", "()V"⟩
abbrev cX1_become : ByteArray := prog_3_method_3_code
def yX1_become : MethodName := ⟨RX1, "become", "(LPackTracer$Book;)V"⟩
abbrev cX1_hasPlace : ByteArray := prog_3_method_4_code
def yX1_hasPlace : MethodName := ⟨RX1, "hasPlace", "(I)Z"⟩
abbrev cX1_hasMessage : ByteArray := prog_3_method_5_code
def yX1_hasMessage : MethodName := ⟨RX1, "hasMessage", "(I)Z"⟩
abbrev cX1_placeNamed : ByteArray := prog_3_method_6_code
def yX1_placeNamed : MethodName := ⟨RX1, "placeNamed", "(I)I"⟩
abbrev cX1_addPlace : ByteArray := prog_3_method_7_code
def yX1_addPlace : MethodName := ⟨RX1, "addPlace", "(I)V"⟩
abbrev cX1_addRoad : ByteArray := prog_3_method_8_code
def yX1_addRoad : MethodName := ⟨RX1, "addRoad", "(III)V"⟩
abbrev cX1_addMessage : ByteArray := prog_3_method_9_code
def yX1_addMessage : MethodName := ⟨RX1, "addMessage", "(IIIII)V"⟩
abbrev cX1_way : ByteArray := prog_3_method_10_code
def yX1_way : MethodName := ⟨RX1, "way", "(II)I"⟩
abbrev cX1_shorten : ByteArray := prog_3_method_11_code
def yX1_shorten : MethodName := ⟨RX1, "shorten", "(III)V"⟩
abbrev cX1_joinRoads : ByteArray := prog_3_method_12_code
def yX1_joinRoads : MethodName := ⟨RX1, "joinRoads", "()V"⟩
abbrev cX1_isLate : ByteArray := prog_3_method_13_code
def yX1_isLate : MethodName := ⟨RX1, "isLate", "(I)Z"⟩
abbrev cX1_lateOnes : ByteArray := prog_3_method_14_code
def yX1_lateOnes : MethodName := ⟨RX1, "lateOnes", "()I"⟩
abbrev cX1_latestHour : ByteArray := prog_3_method_15_code
def yX1_latestHour : MethodName := ⟨RX1, "latestHour", "()I"⟩
def RX2 : String := "PackTracer$Course"
def TX2 : u_T := fun k => match k with
  | 0 => ("PackTracer$Course", "hour", "[I", true)
  | 1 => ("PackTracer$Course", "turn", "[I", true)
  | _ => ("PackTracer$Course", "size", "I", false)
def tyX2 : Nat → FieldType := fun k => match k with
  | 0 => .array .int
  | 1 => .array .int
  | _ => .int
theorem nmX2 : ∀ a, a < 3 → ∀ b, b < 3 → a ≠ b → (TX2 a).2.1 ≠ (TX2 b).2.1 := by decide +kernel
theorem tyX2_ok : ∀ k, k < 3 → parseFieldDescriptor (TX2 k).2.2.1 = some (tyX2 k) := by decide +kernel
abbrev cX2_init : ByteArray := prog_4_method_1_code
def yX2_init : MethodName := ⟨RX2, "<init>", "()V"⟩
abbrev cX2_takeHours : ByteArray := prog_4_method_2_code
def yX2_takeHours : MethodName := ⟨RX2, "takeHours", "(LPackTracer$Book;)V"⟩
abbrev cX2_arrange : ByteArray := prog_4_method_3_code
def yX2_arrange : MethodName := ⟨RX2, "arrange", "()V"⟩
abbrev cX2_spotOf : ByteArray := prog_4_method_4_code
def yX2_spotOf : MethodName := ⟨RX2, "spotOf", "(I)I"⟩
abbrev cX2_hourAt : ByteArray := prog_4_method_5_code
def yX2_hourAt : MethodName := ⟨RX2, "hourAt", "(I)I"⟩
def RX3 : String := "PackTracer$Guess"
def TX3 : u_T := fun k => match k with
  | 0 => ("PackTracer$Guess", "world", "LPackTracer$World;", true)
  | 1 => ("PackTracer$Guess", "other", "LPackTracer$Course;", true)
  | 2 => ("PackTracer$Guess", "story", "LPackTracer$Story;", true)
  | 3 => ("PackTracer$Guess", "book", "LPackTracer$Book;", true)
  | 4 => ("PackTracer$Guess", "windowFirst", "I", false)
  | 5 => ("PackTracer$Guess", "windowLast", "I", false)
  | _ => ("PackTracer$Guess", "windowHours", "I", false)
def tyX3 : Nat → FieldType := fun k => match k with
  | 0 => .object "PackTracer$World"
  | 1 => .object "PackTracer$Course"
  | 2 => .object "PackTracer$Story"
  | 3 => .object "PackTracer$Book"
  | 4 => .int
  | 5 => .int
  | _ => .int
theorem nmX3 : ∀ a, a < 7 → ∀ b, b < 7 → a ≠ b → (TX3 a).2.1 ≠ (TX3 b).2.1 := by decide +kernel
theorem tyX3_ok : ∀ k, k < 7 → parseFieldDescriptor (TX3 k).2.2.1 = some (tyX3 k) := by decide +kernel
abbrev cX3_init : ByteArray := prog_5_method_1_code
def yX3_init : MethodName := ⟨RX3, "<init>", "(LPackTracer$Story;)V"⟩
abbrev cX3_placeWithout : ByteArray := prog_5_method_2_code
def yX3_placeWithout : MethodName := ⟨RX3, "placeWithout", "(II)I"⟩
abbrev cX3_lastVerdictWithout : ByteArray := prog_5_method_3_code
def yX3_lastVerdictWithout : MethodName := ⟨RX3, "lastVerdictWithout", "(II)I"⟩
abbrev cX3_deciding : ByteArray := prog_5_method_4_code
def yX3_deciding : MethodName := ⟨RX3, "deciding", "(I)J"⟩
abbrev cX3_outcomeAt : ByteArray := prog_5_method_5_code
def yX3_outcomeAt : MethodName := ⟨RX3, "outcomeAt", "(III)I"⟩
abbrev cX3_outcomeSwapped : ByteArray := prog_5_method_6_code
def yX3_outcomeSwapped : MethodName := ⟨RX3, "outcomeSwapped", "(III)I"⟩
abbrev cX3_outcome : ByteArray := prog_5_method_7_code
def yX3_outcome : MethodName := ⟨RX3, "outcome", "(I)I"⟩
abbrev cX3_openWindow : ByteArray := prog_5_method_8_code
def yX3_openWindow : MethodName := ⟨RX3, "openWindow", "(I)V"⟩
abbrev cX3_isAheadOf : ByteArray := prog_5_method_9_code
def yX3_isAheadOf : MethodName := ⟨RX3, "isAheadOf", "(III)Z"⟩
def RX4 : String := "PackTracer$Reader"
def TX4 : u_T := fun k => match k with
  | 0 => ("PackTracer$Reader", "tokens", "LPackTracer$Tokens;", true)
  | 1 => ("PackTracer$Reader", "book", "LPackTracer$Book;", true)
  | 2 => ("PackTracer$Reader", "at", "I", false)
  | 3 => ("PackTracer$Reader", "kind", "I", false)
  | 4 => ("PackTracer$Reader", "value", "I", false)
  | 5 => ("PackTracer$Reader", "fault", "I", false)
  | 6 => ("PackTracer$Reader", "faultAt", "I", false)
  | _ => ("PackTracer$Reader", "lines", "I", false)
def tyX4 : Nat → FieldType := fun k => match k with
  | 0 => .object "PackTracer$Tokens"
  | 1 => .object "PackTracer$Book"
  | 2 => .int
  | 3 => .int
  | 4 => .int
  | 5 => .int
  | 6 => .int
  | _ => .int
theorem nmX4 : ∀ a, a < 8 → ∀ b, b < 8 → a ≠ b → (TX4 a).2.1 ≠ (TX4 b).2.1 := by decide +kernel
theorem tyX4_ok : ∀ k, k < 8 → parseFieldDescriptor (TX4 k).2.2.1 = some (tyX4 k) := by decide +kernel
abbrev cX4_init : ByteArray := prog_6_method_1_code
def yX4_init : MethodName := ⟨RX4, "<init>", "(LPackTracer$Tape;LPackTracer$Book;)V"⟩
abbrev cX4_read : ByteArray := prog_6_method_2_code
def yX4_read : MethodName := ⟨RX4, "read", "(IZ)Z"⟩
abbrev cX4_goTo : ByteArray := prog_6_method_3_code
def yX4_goTo : MethodName := ⟨RX4, "goTo", "(I)V"⟩
abbrev cX4_fail : ByteArray := prog_6_method_4_code
def yX4_fail : MethodName := ⟨RX4, "fail", "(I)V"⟩
abbrev cX4_readLine : ByteArray := prog_6_method_5_code
def yX4_readLine : MethodName := ⟨RX4, "readLine", "()V"⟩
abbrev cX4_readPlace : ByteArray := prog_6_method_6_code
def yX4_readPlace : MethodName := ⟨RX4, "readPlace", "()V"⟩
abbrev cX4_readRoad : ByteArray := prog_6_method_7_code
def yX4_readRoad : MethodName := ⟨RX4, "readRoad", "()V"⟩
abbrev cX4_readFits : ByteArray := prog_6_method_8_code
def yX4_readFits : MethodName := ⟨RX4, "readFits", "()V"⟩
abbrev cX4_readMessage : ByteArray := prog_6_method_9_code
def yX4_readMessage : MethodName := ⟨RX4, "readMessage", "()V"⟩
abbrev cX4_takeAct : ByteArray := prog_6_method_10_code
def yX4_takeAct : MethodName := ⟨RX4, "takeAct", "()I"⟩
abbrev cX4_takeSecond : ByteArray := prog_6_method_11_code
def yX4_takeSecond : MethodName := ⟨RX4, "takeSecond", "(I)I"⟩
abbrev cX4_takeNumber : ByteArray := prog_6_method_12_code
def yX4_takeNumber : MethodName := ⟨RX4, "takeNumber", "(II)I"⟩
abbrev cX4_takePlace : ByteArray := prog_6_method_13_code
def yX4_takePlace : MethodName := ⟨RX4, "takePlace", "(I)I"⟩
abbrev cX4_take : ByteArray := prog_6_method_14_code
def yX4_take : MethodName := ⟨RX4, "take", "(II)I"⟩
def RX5 : String := "PackTracer$Story"
def TX5 : u_T := fun k => match k with
  | 0 => ("PackTracer$Story", "course", "LPackTracer$Course;", true)
  | 1 => ("PackTracer$Story", "world", "LPackTracer$World;", true)
  | 2 => ("PackTracer$Story", "before", "LPackTracer$World;", true)
  | 3 => ("PackTracer$Story", "why", "[I", true)
  | _ => ("PackTracer$Story", "book", "LPackTracer$Book;", true)
def tyX5 : Nat → FieldType := fun k => match k with
  | 0 => .object "PackTracer$Course"
  | 1 => .object "PackTracer$World"
  | 2 => .object "PackTracer$World"
  | 3 => .array .int
  | _ => .object "PackTracer$Book"
theorem nmX5 : ∀ a, a < 5 → ∀ b, b < 5 → a ≠ b → (TX5 a).2.1 ≠ (TX5 b).2.1 := by decide +kernel
theorem tyX5_ok : ∀ k, k < 5 → parseFieldDescriptor (TX5 k).2.2.1 = some (tyX5 k) := by decide +kernel
abbrev cX5_init : ByteArray := prog_7_method_1_code
def yX5_init : MethodName := ⟨RX5, "<init>", "(LPackTracer$Book;)V"⟩
abbrev cX5_settle : ByteArray := prog_7_method_2_code
def yX5_settle : MethodName := ⟨RX5, "settle", "()V"⟩
abbrev cX5_step : ByteArray := prog_7_method_3_code
def yX5_step : MethodName := ⟨RX5, "step", "(I)I"⟩
abbrev cX5_goTo : ByteArray := prog_7_method_4_code
def yX5_goTo : MethodName := ⟨RX5, "goTo", "(I)I"⟩
abbrev cX5_worldBy : ByteArray := prog_7_method_5_code
def yX5_worldBy : MethodName := ⟨RX5, "worldBy", "(I)LPackTracer$World;"⟩
abbrev cX5_worldOfFirst : ByteArray := prog_7_method_6_code
def yX5_worldOfFirst : MethodName := ⟨RX5, "worldOfFirst", "(I)LPackTracer$World;"⟩
abbrev cX5_thingsChangedBy : ByteArray := prog_7_method_7_code
def yX5_thingsChangedBy : MethodName := ⟨RX5, "thingsChangedBy", "(I)I"⟩
abbrev cX5_verdicts : ByteArray := prog_7_method_8_code
def yX5_verdicts : MethodName := ⟨RX5, "verdicts", "(I)I"⟩
abbrev cX5_trailEntry : ByteArray := prog_7_method_9_code
def yX5_trailEntry : MethodName := ⟨RX5, "trailEntry", "(IIZ)I"⟩
abbrev cX5_hoursAt : ByteArray := prog_7_method_10_code
def yX5_hoursAt : MethodName := ⟨RX5, "hoursAt", "(II)I"⟩
abbrev cX5_passages : ByteArray := prog_7_method_11_code
def yX5_passages : MethodName := ⟨RX5, "passages", "(II)I"⟩
abbrev cX5_hoursOnWays : ByteArray := prog_7_method_12_code
def yX5_hoursOnWays : MethodName := ⟨RX5, "hoursOnWays", "(I)I"⟩
abbrev cX5_busiest : ByteArray := prog_7_method_13_code
def yX5_busiest : MethodName := ⟨RX5, "busiest", "(IZ)I"⟩
abbrev cX5_allMet : ByteArray := prog_7_method_14_code
def yX5_allMet : MethodName := ⟨RX5, "allMet", "(II)J"⟩
abbrev cX5_allHeld : ByteArray := prog_7_method_15_code
def yX5_allHeld : MethodName := ⟨RX5, "allHeld", "(III)J"⟩
abbrev cX5_mostHeld : ByteArray := prog_7_method_16_code
def yX5_mostHeld : MethodName := ⟨RX5, "mostHeld", "(I)I"⟩
abbrev cX5_heldSince : ByteArray := prog_7_method_17_code
def yX5_heldSince : MethodName := ⟨RX5, "heldSince", "(II)I"⟩
abbrev cX5_clashOf : ByteArray := prog_7_method_18_code
def yX5_clashOf : MethodName := ⟨RX5, "clashOf", "(II)I"⟩
def RX6 : String := "PackTracer$Tape"
def TX6 : u_T := fun k => match k with
  | 0 => ("PackTracer$Tape", "bytes", "[B", true)
  | _ => ("PackTracer$Tape", "size", "I", false)
def tyX6 : Nat → FieldType := fun k => match k with
  | 0 => .array .byte
  | _ => .int
theorem nmX6 : ∀ a, a < 2 → ∀ b, b < 2 → a ≠ b → (TX6 a).2.1 ≠ (TX6 b).2.1 := by decide +kernel
theorem tyX6_ok : ∀ k, k < 2 → parseFieldDescriptor (TX6 k).2.2.1 = some (tyX6 k) := by decide +kernel
abbrev cX6_init : ByteArray := prog_8_method_1_code
def yX6_init : MethodName := ⟨RX6, "<init>", "()V"⟩
abbrev cX6_hasRoomFor : ByteArray := prog_8_method_2_code
def yX6_hasRoomFor : MethodName := ⟨RX6, "hasRoomFor", "(I)Z"⟩
abbrev cX6_append : ByteArray := prog_8_method_3_code
def yX6_append : MethodName := ⟨RX6, "append", "(I)V"⟩
def RX7 : String := "PackTracer$Tokens"
def TX7 : u_T := fun k => match k with
  | 0 => ("PackTracer$Tokens", "kinds", "[I", true)
  | 1 => ("PackTracer$Tokens", "starts", "[I", true)
  | 2 => ("PackTracer$Tokens", "values", "[I", true)
  | 3 => ("PackTracer$Tokens", "tape", "LPackTracer$Tape;", true)
  | 4 => ("PackTracer$Tokens", "size", "I", false)
  | 5 => ("PackTracer$Tokens", "end", "I", false)
  | 6 => ("PackTracer$Tokens", "at", "I", false)
  | _ => ("PackTracer$Tokens", "value", "I", false)
def tyX7 : Nat → FieldType := fun k => match k with
  | 0 => .array .int
  | 1 => .array .int
  | 2 => .array .int
  | 3 => .object "PackTracer$Tape"
  | 4 => .int
  | 5 => .int
  | 6 => .int
  | _ => .int
theorem nmX7 : ∀ a, a < 8 → ∀ b, b < 8 → a ≠ b → (TX7 a).2.1 ≠ (TX7 b).2.1 := by decide +kernel
theorem tyX7_ok : ∀ k, k < 8 → parseFieldDescriptor (TX7 k).2.2.1 = some (tyX7 k) := by decide +kernel
abbrev cX7_init : ByteArray := prog_9_method_1_code
def yX7_init : MethodName := ⟨RX7, "<init>", "(LPackTracer$Tape;)V"⟩
abbrev cX7_cut : ByteArray := prog_9_method_2_code
def yX7_cut : MethodName := ⟨RX7, "cut", "(I)V"⟩
abbrev cX7_add : ByteArray := prog_9_method_3_code
def yX7_add : MethodName := ⟨RX7, "add", "(II)V"⟩
abbrev cX7_skipBlanks : ByteArray := prog_9_method_4_code
def yX7_skipBlanks : MethodName := ⟨RX7, "skipBlanks", "()V"⟩
abbrev cX7_passToken : ByteArray := prog_9_method_5_code
def yX7_passToken : MethodName := ⟨RX7, "passToken", "()I"⟩
abbrev cX7_passWord : ByteArray := prog_9_method_6_code
def yX7_passWord : MethodName := ⟨RX7, "passWord", "()I"⟩
abbrev cX7_passDigits : ByteArray := prog_9_method_7_code
def yX7_passDigits : MethodName := ⟨RX7, "passDigits", "()V"⟩
abbrev cX7_isLetter : ByteArray := prog_9_method_8_code
def yX7_isLetter : MethodName := ⟨RX7, "isLetter", "()Z"⟩
abbrev cX7_isDigit : ByteArray := prog_9_method_9_code
def yX7_isDigit : MethodName := ⟨RX7, "isDigit", "()Z"⟩
abbrev cX7_kindOfWord : ByteArray := prog_9_method_10_code
def yX7_kindOfWord : MethodName := ⟨RX7, "kindOfWord", "()I"⟩
def RX8 : String := "PackTracer$World"
def TX8 : u_T := fun k => match k with
  | 0 => ("PackTracer$World", "kind", "[I", true)
  | 1 => ("PackTracer$World", "in", "[I", true)
  | 2 => ("PackTracer$World", "place", "[I", true)
  | 3 => ("PackTracer$World", "last", "[I", true)
  | 4 => ("PackTracer$World", "seen", "[I", true)
  | _ => ("PackTracer$World", "marks", "[I", true)
def tyX8 : Nat → FieldType := fun k => match k with
  | 0 => .array .int
  | 1 => .array .int
  | 2 => .array .int
  | 3 => .array .int
  | 4 => .array .int
  | _ => .array .int
theorem nmX8 : ∀ a, a < 6 → ∀ b, b < 6 → a ≠ b → (TX8 a).2.1 ≠ (TX8 b).2.1 := by decide +kernel
theorem tyX8_ok : ∀ k, k < 6 → parseFieldDescriptor (TX8 k).2.2.1 = some (tyX8 k) := by decide +kernel
abbrev cX8_init : ByteArray := prog_10_method_1_code
def yX8_init : MethodName := ⟨RX8, "<init>", "()V"⟩
abbrev cX8_clear : ByteArray := prog_10_method_2_code
def yX8_clear : MethodName := ⟨RX8, "clear", "()V"⟩
abbrev cX8_become : ByteArray := prog_10_method_3_code
def yX8_become : MethodName := ⟨RX8, "become", "(LPackTracer$World;)V"⟩
abbrev cX8_has : ByteArray := prog_10_method_4_code
def yX8_has : MethodName := ⟨RX8, "has", "(II)Z"⟩
abbrev cX8_mark : ByteArray := prog_10_method_5_code
def yX8_mark : MethodName := ⟨RX8, "mark", "(II)V"⟩
abbrev cX8_unmark : ByteArray := prog_10_method_6_code
def yX8_unmark : MethodName := ⟨RX8, "unmark", "(II)V"⟩
abbrev cX8_isMade : ByteArray := prog_10_method_7_code
def yX8_isMade : MethodName := ⟨RX8, "isMade", "(I)Z"⟩
abbrev cX8_topmost : ByteArray := prog_10_method_8_code
def yX8_topmost : MethodName := ⟨RX8, "topmost", "(I)I"⟩
abbrev cX8_isIn : ByteArray := prog_10_method_9_code
def yX8_isIn : MethodName := ⟨RX8, "isIn", "(II)Z"⟩
abbrev cX8_whereIs : ByteArray := prog_10_method_10_code
def yX8_whereIs : MethodName := ⟨RX8, "whereIs", "(I)I"⟩
abbrev cX8_knownAt : ByteArray := prog_10_method_11_code
def yX8_knownAt : MethodName := ⟨RX8, "knownAt", "(I)I"⟩
abbrev cX8_look : ByteArray := prog_10_method_12_code
def yX8_look : MethodName := ⟨RX8, "look", "(LPackTracer$Book;II)I"⟩
abbrev cX8_objection : ByteArray := prog_10_method_13_code
def yX8_objection : MethodName := ⟨RX8, "objection", "(LPackTracer$Book;II)I"⟩
abbrev cX8_objectionToPack : ByteArray := prog_10_method_14_code
def yX8_objectionToPack : MethodName := ⟨RX8, "objectionToPack", "(LPackTracer$Book;II)I"⟩
abbrev cX8_isTooSoon : ByteArray := prog_10_method_15_code
def yX8_isTooSoon : MethodName := ⟨RX8, "isTooSoon", "(LPackTracer$Book;III)Z"⟩
abbrev cX8_isQuarantinedWithin : ByteArray := prog_10_method_16_code
def yX8_isQuarantinedWithin : MethodName := ⟨RX8, "isQuarantinedWithin", "(I)Z"⟩
abbrev cX8_carryOut : ByteArray := prog_10_method_17_code
def yX8_carryOut : MethodName := ⟨RX8, "carryOut", "(LPackTracer$Book;II)V"⟩
abbrev cX8_stand : ByteArray := prog_10_method_18_code
def yX8_stand : MethodName := ⟨RX8, "stand", "(III)V"⟩
abbrev cX8_openAround : ByteArray := prog_10_method_19_code
def yX8_openAround : MethodName := ⟨RX8, "openAround", "(I)V"⟩
abbrev cX8_looseWith : ByteArray := prog_10_method_20_code
def yX8_looseWith : MethodName := ⟨RX8, "looseWith", "(I)I"⟩
abbrev cX8_endWithAllIn : ByteArray := prog_10_method_21_code
def yX8_endWithAllIn : MethodName := ⟨RX8, "endWithAllIn", "(I)V"⟩
abbrev cX8_heldAtOnce : ByteArray := prog_10_method_22_code
def yX8_heldAtOnce : MethodName := ⟨RX8, "heldAtOnce", "(I)I"⟩
abbrev cX8_contents : ByteArray := prog_10_method_23_code
def yX8_contents : MethodName := ⟨RX8, "contents", "(I)J"⟩
abbrev cX8_allAt : ByteArray := prog_10_method_24_code
def yX8_allAt : MethodName := ⟨RX8, "allAt", "(I)J"⟩
abbrev cX8_allKnownBy : ByteArray := prog_10_method_25_code
def yX8_allKnownBy : MethodName := ⟨RX8, "allKnownBy", "(I)J"⟩
abbrev cX8_withCompany : ByteArray := prog_10_method_26_code
def yX8_withCompany : MethodName := ⟨RX8, "withCompany", "(J)J"⟩
abbrev cX8_clumpsAt : ByteArray := prog_10_method_27_code
def yX8_clumpsAt : MethodName := ⟨RX8, "clumpsAt", "(I)I"⟩
abbrev cX8_tellOf : ByteArray := prog_10_method_28_code
def yX8_tellOf : MethodName := ⟨RX8, "tellOf", "(II)I"⟩
abbrev cX8_tally : ByteArray := prog_10_method_29_code
def yX8_tally : MethodName := ⟨RX8, "tally", "(I)I"⟩
abbrev cX8_isSo : ByteArray := prog_10_method_30_code
def yX8_isSo : MethodName := ⟨RX8, "isSo", "(II)Z"⟩
def RX9 : String := "PackTracer"
def TX9 : u_T := fun k => match k with
  | 0 => ("PackTracer", "tape", "LPackTracer$Tape;", true)
  | 1 => ("PackTracer", "book", "LPackTracer$Book;", true)
  | 2 => ("PackTracer", "draft", "LPackTracer$Book;", true)
  | 3 => ("PackTracer", "reader", "LPackTracer$Reader;", true)
  | 4 => ("PackTracer", "story", "LPackTracer$Story;", true)
  | 5 => ("PackTracer", "guess", "LPackTracer$Guess;", true)
  | _ => ("PackTracer", "blame", "LPackTracer$Blame;", true)
def tyX9 : Nat → FieldType := fun k => match k with
  | 0 => .object "PackTracer$Tape"
  | 1 => .object "PackTracer$Book"
  | 2 => .object "PackTracer$Book"
  | 3 => .object "PackTracer$Reader"
  | 4 => .object "PackTracer$Story"
  | 5 => .object "PackTracer$Guess"
  | _ => .object "PackTracer$Blame"
theorem nmX9 : ∀ a, a < 7 → ∀ b, b < 7 → a ≠ b → (TX9 a).2.1 ≠ (TX9 b).2.1 := by decide +kernel
theorem tyX9_ok : ∀ k, k < 7 → parseFieldDescriptor (TX9 k).2.2.1 = some (tyX9 k) := by decide +kernel
abbrev cX9_init : ByteArray := prog_1_method_1_code
def yX9_init : MethodName := ⟨RX9, "<init>", "()V"⟩
abbrev cX9_feed : ByteArray := prog_1_method_2_code
def yX9_feed : MethodName := ⟨RX9, "feed", "(IIIII)I"⟩
abbrev cX9_text : ByteArray := prog_1_method_3_code
def yX9_text : MethodName := ⟨RX9, "text", "(I)I"⟩
abbrev cX9_tell : ByteArray := prog_1_method_4_code
def yX9_tell : MethodName := ⟨RX9, "tell", "(I)I"⟩
abbrev cX9_close : ByteArray := prog_1_method_5_code
def yX9_close : MethodName := ⟨RX9, "close", "(Z)I"⟩
abbrev cX9_fault : ByteArray := prog_1_method_6_code
def yX9_fault : MethodName := ⟨RX9, "fault", "(I)I"⟩
abbrev cX9_hours : ByteArray := prog_1_method_7_code
def yX9_hours : MethodName := ⟨RX9, "hours", "(II)I"⟩
abbrev cX9_message : ByteArray := prog_1_method_8_code
def yX9_message : MethodName := ⟨RX9, "message", "(II)I"⟩
abbrev cX9_thing : ByteArray := prog_1_method_9_code
def yX9_thing : MethodName := ⟨RX9, "thing", "(III)I"⟩
abbrev cX9_inside : ByteArray := prog_1_method_10_code
def yX9_inside : MethodName := ⟨RX9, "inside", "(III)I"⟩
abbrev cX9_there : ByteArray := prog_1_method_11_code
def yX9_there : MethodName := ⟨RX9, "there", "(III)I"⟩
abbrev cX9_many : ByteArray := prog_1_method_12_code
def yX9_many : MethodName := ⟨RX9, "many", "(II)I"⟩
abbrev cX9_trail : ByteArray := prog_1_method_13_code
def yX9_trail : MethodName := ⟨RX9, "trail", "(III)I"⟩
abbrev cX9_known : ByteArray := prog_1_method_14_code
def yX9_known : MethodName := ⟨RX9, "known", "(II)I"⟩
abbrev cX9_changed : ByteArray := prog_1_method_15_code
def yX9_changed : MethodName := ⟨RX9, "changed", "(I)I"⟩
abbrev cX9_without : ByteArray := prog_1_method_16_code
def yX9_without : MethodName := ⟨RX9, "without", "(II)I"⟩
abbrev cX9_refused : ByteArray := prog_1_method_17_code
def yX9_refused : MethodName := ⟨RX9, "refused", "(I)I"⟩
abbrev cX9_blamed : ByteArray := prog_1_method_18_code
def yX9_blamed : MethodName := ⟨RX9, "blamed", "(I)I"⟩
abbrev cX9_twoBlamed : ByteArray := prog_1_method_19_code
def yX9_twoBlamed : MethodName := ⟨RX9, "twoBlamed", "(I)I"⟩
abbrev cX9_met : ByteArray := prog_1_method_20_code
def yX9_met : MethodName := ⟨RX9, "met", "(III)I"⟩
abbrev cX9_wereIn : ByteArray := prog_1_method_21_code
def yX9_wereIn : MethodName := ⟨RX9, "wereIn", "(IIII)I"⟩
abbrev cX9_most : ByteArray := prog_1_method_22_code
def yX9_most : MethodName := ⟨RX9, "most", "(I)I"⟩
abbrev cX9_still : ByteArray := prog_1_method_23_code
def yX9_still : MethodName := ⟨RX9, "still", "(II)I"⟩
abbrev cX9_components : ByteArray := prog_1_method_24_code
def yX9_components : MethodName := ⟨RX9, "components", "(II)I"⟩
abbrev cX9_dwelt : ByteArray := prog_1_method_25_code
def yX9_dwelt : MethodName := ⟨RX9, "dwelt", "(II)I"⟩
abbrev cX9_flow : ByteArray := prog_1_method_26_code
def yX9_flow : MethodName := ⟨RX9, "flow", "(II)I"⟩
abbrev cX9_cause : ByteArray := prog_1_method_27_code
def yX9_cause : MethodName := ⟨RX9, "cause", "(I)I"⟩
abbrev cX9_needs : ByteArray := prog_1_method_28_code
def yX9_needs : MethodName := ⟨RX9, "needs", "(II)I"⟩
abbrev cX9_ifAt : ByteArray := prog_1_method_29_code
def yX9_ifAt : MethodName := ⟨RX9, "ifAt", "(III)I"⟩
abbrev cX9_window : ByteArray := prog_1_method_30_code
def yX9_window : MethodName := ⟨RX9, "window", "(II)I"⟩
abbrev cX9_lost : ByteArray := prog_1_method_31_code
def yX9_lost : MethodName := ⟨RX9, "lost", "(III)I"⟩
abbrev cX9_ifSwapped : ByteArray := prog_1_method_32_code
def yX9_ifSwapped : MethodName := ⟨RX9, "ifSwapped", "(III)I"⟩
abbrev cX9_busy : ByteArray := prog_1_method_33_code
def yX9_busy : MethodName := ⟨RX9, "busy", "(II)I"⟩
abbrev cX9_travelled : ByteArray := prog_1_method_34_code
def yX9_travelled : MethodName := ⟨RX9, "travelled", "(I)I"⟩
abbrev cX9_clash : ByteArray := prog_1_method_35_code
def yX9_clash : MethodName := ⟨RX9, "clash", "(III)I"⟩
abbrev cX9_soonest : ByteArray := prog_1_method_36_code
def yX9_soonest : MethodName := ⟨RX9, "soonest", "(III)I"⟩
abbrev cX9_count : ByteArray := prog_1_method_37_code
def yX9_count : MethodName := ⟨RX9, "count", "(I)I"⟩
abbrev cX9_isThing : ByteArray := prog_1_method_38_code
def yX9_isThing : MethodName := ⟨RX9, "isThing", "(I)Z"⟩
abbrev cX9_isHour : ByteArray := prog_1_method_39_code
def yX9_isHour : MethodName := ⟨RX9, "isHour", "(I)Z"⟩
abbrev cX9_isPlaceOrSold : ByteArray := prog_1_method_40_code
def yX9_isPlaceOrSold : MethodName := ⟨RX9, "isPlaceOrSold", "(I)Z"⟩
abbrev cX9_isWhereabouts : ByteArray := prog_1_method_41_code
def yX9_isWhereabouts : MethodName := ⟨RX9, "isWhereabouts", "(I)Z"⟩
abbrev cX9_pick : ByteArray := prog_1_method_42_code
def yX9_pick : MethodName := ⟨RX9, "pick", "(JI)I"⟩
def RX10 : String := "PackTracerModel"
def TX10 : u_T := fun k => match k with
  | 0 => ("PackTracerModel", "thrown", "I", false)
  | 1 => ("PackTracerModel", "tape", "[I", true)
  | 2 => ("PackTracerModel", "taped", "I", false)
  | 3 => ("PackTracerModel", "world", "[I", true)
  | 4 => ("PackTracerModel", "fresh", "[I", true)
  | 5 => ("PackTracerModel", "name", "[I", true)
  | 6 => ("PackTracerModel", "nameNow", "[I", true)
  | 7 => ("PackTracerModel", "size", "I", false)
  | 8 => ("PackTracerModel", "at", "I", false)
  | 9 => ("PackTracerModel", "place", "I", false)
  | 10 => ("PackTracerModel", "sort", "I", false)
  | 11 => ("PackTracerModel", "value", "I", false)
  | 12 => ("PackTracerModel", "word", "I", false)
  | 13 => ("PackTracerModel", "fault", "I", false)
  | 14 => ("PackTracerModel", "faultPlace", "I", false)
  | 15 => ("PackTracerModel", "lastFault", "I", false)
  | 16 => ("PackTracerModel", "lastPlace", "I", false)
  | 17 => ("PackTracerModel", "hasFits", "Z", false)
  | 18 => ("PackTracerModel", "hadFits", "Z", false)
  | 19 => ("PackTracerModel", "lines", "I", false)
  | 20 => ("PackTracerModel", "ways", "[I", true)
  | 21 => ("PackTracerModel", "made", "[Z", true)
  | 22 => ("PackTracerModel", "kind", "[I", true)
  | 23 => ("PackTracerModel", "inside", "[I", true)
  | 24 => ("PackTracerModel", "spot", "[I", true)
  | 25 => ("PackTracerModel", "last", "[I", true)
  | 26 => ("PackTracerModel", "seen", "[I", true)
  | 27 => ("PackTracerModel", "open", "[Z", true)
  | 28 => ("PackTracerModel", "held", "[Z", true)
  | 29 => ("PackTracerModel", "sold", "[Z", true)
  | 30 => ("PackTracerModel", "ended", "[Z", true)
  | 31 => ("PackTracerModel", "isIn", "[Z", true)
  | 32 => ("PackTracerModel", "hourOf", "[I", true)
  | 33 => ("PackTracerModel", "order", "[I", true)
  | 34 => ("PackTracerModel", "ordered", "I", false)
  | 35 => ("PackTracerModel", "why", "[I", true)
  | 36 => ("PackTracerModel", "goes", "[Z", true)
  | 37 => ("PackTracerModel", "trailPlace", "[I", true)
  | 38 => ("PackTracerModel", "trailHour", "[I", true)
  | 39 => ("PackTracerModel", "trailed", "I", false)
  | 40 => ("PackTracerModel", "wereAt", "[I", true)
  | 41 => ("PackTracerModel", "blameOne", "I", false)
  | 42 => ("PackTracerModel", "blameTwo", "I", false)
  | 43 => ("PackTracerModel", "blameLeast", "I", false)
  | _ => ("PackTracerModel", "met", "[Z", true)
def tyX10 : Nat → FieldType := fun k => match k with
  | 0 => .int
  | 1 => .array .int
  | 2 => .int
  | 3 => .array .int
  | 4 => .array .int
  | 5 => .array .int
  | 6 => .array .int
  | 7 => .int
  | 8 => .int
  | 9 => .int
  | 10 => .int
  | 11 => .int
  | 12 => .int
  | 13 => .int
  | 14 => .int
  | 15 => .int
  | 16 => .int
  | 17 => .boolean
  | 18 => .boolean
  | 19 => .int
  | 20 => .array .int
  | 21 => .array .boolean
  | 22 => .array .int
  | 23 => .array .int
  | 24 => .array .int
  | 25 => .array .int
  | 26 => .array .int
  | 27 => .array .boolean
  | 28 => .array .boolean
  | 29 => .array .boolean
  | 30 => .array .boolean
  | 31 => .array .boolean
  | 32 => .array .int
  | 33 => .array .int
  | 34 => .int
  | 35 => .array .int
  | 36 => .array .boolean
  | 37 => .array .int
  | 38 => .array .int
  | 39 => .int
  | 40 => .array .int
  | 41 => .int
  | 42 => .int
  | 43 => .int
  | _ => .array .boolean
theorem nmX10 : ∀ a, a < 45 → ∀ b, b < 45 → a ≠ b → (TX10 a).2.1 ≠ (TX10 b).2.1 := by decide +kernel
theorem tyX10_ok : ∀ k, k < 45 → parseFieldDescriptor (TX10 k).2.2.1 = some (tyX10 k) := by decide +kernel
abbrev cX10_init : ByteArray := prog_12_method_1_code
def yX10_init : MethodName := ⟨RX10, "<init>", "()V"⟩
abbrev cX10_feed : ByteArray := prog_12_method_3_code
def yX10_feed : MethodName := ⟨RX10, "feed", "(IIIII)I"⟩
abbrev cX10_here : ByteArray := prog_12_method_4_code
def yX10_here : MethodName := ⟨RX10, "here", "()I"⟩
abbrev cX10_isSmall : ByteArray := prog_12_method_5_code
def yX10_isSmall : MethodName := ⟨RX10, "isSmall", "(I)Z"⟩
abbrev cX10_isDigit : ByteArray := prog_12_method_6_code
def yX10_isDigit : MethodName := ⟨RX10, "isDigit", "(I)Z"⟩
abbrev cX10_token : ByteArray := prog_12_method_7_code
def yX10_token : MethodName := ⟨RX10, "token", "()V"⟩
abbrev cX10_wordHere : ByteArray := prog_12_method_8_code
def yX10_wordHere : MethodName := ⟨RX10, "wordHere", "()I"⟩
abbrev cX10_wrong : ByteArray := prog_12_method_9_code
def yX10_wrong : MethodName := ⟨RX10, "wrong", "(I)V"⟩
abbrev cX10_goOn : ByteArray := prog_12_method_10_code
def yX10_goOn : MethodName := ⟨RX10, "goOn", "()V"⟩
abbrev cX10_number : ByteArray := prog_12_method_11_code
def yX10_number : MethodName := ⟨RX10, "number", "(II)I"⟩
abbrev cX10_placeHere : ByteArray := prog_12_method_12_code
def yX10_placeHere : MethodName := ⟨RX10, "placeHere", "()I"⟩
abbrev cX10_readPlace : ByteArray := prog_12_method_13_code
def yX10_readPlace : MethodName := ⟨RX10, "readPlace", "()I"⟩
abbrev cX10_readNew : ByteArray := prog_12_method_14_code
def yX10_readNew : MethodName := ⟨RX10, "readNew", "()V"⟩
abbrev cX10_readRoad : ByteArray := prog_12_method_15_code
def yX10_readRoad : MethodName := ⟨RX10, "readRoad", "()V"⟩
abbrev cX10_readFits : ByteArray := prog_12_method_16_code
def yX10_readFits : MethodName := ⟨RX10, "readFits", "()V"⟩
abbrev cX10_kindHere : ByteArray := prog_12_method_17_code
def yX10_kindHere : MethodName := ⟨RX10, "kindHere", "()I"⟩
abbrev cX10_readMessage : ByteArray := prog_12_method_18_code
def yX10_readMessage : MethodName := ⟨RX10, "readMessage", "()V"⟩
abbrev cX10_readLine : ByteArray := prog_12_method_19_code
def yX10_readLine : MethodName := ⟨RX10, "readLine", "(Z)V"⟩
abbrev cX10_freshText : ByteArray := prog_12_method_20_code
def yX10_freshText : MethodName := ⟨RX10, "freshText", "()V"⟩
abbrev cX10_reads : ByteArray := prog_12_method_21_code
def yX10_reads : MethodName := ⟨RX10, "reads", "(IZ)I"⟩
abbrev cX10_becomes : ByteArray := prog_12_method_22_code
def yX10_becomes : MethodName := ⟨RX10, "becomes", "()V"⟩
abbrev cX10_text : ByteArray := prog_12_method_23_code
def yX10_text : MethodName := ⟨RX10, "text", "(I)I"⟩
abbrev cX10_tell : ByteArray := prog_12_method_24_code
def yX10_tell : MethodName := ⟨RX10, "tell", "(I)I"⟩
abbrev cX10_fault : ByteArray := prog_12_method_25_code
def yX10_fault : MethodName := ⟨RX10, "fault", "(I)I"⟩
abbrev cX10_laysWays : ByteArray := prog_12_method_26_code
def yX10_laysWays : MethodName := ⟨RX10, "laysWays", "()V"⟩
abbrev cX10_hours : ByteArray := prog_12_method_27_code
def yX10_hours : MethodName := ⟨RX10, "hours", "(II)I"⟩
abbrev cX10_messages : ByteArray := prog_12_method_28_code
def yX10_messages : MethodName := ⟨RX10, "messages", "()I"⟩
abbrev cX10_told : ByteArray := prog_12_method_29_code
def yX10_told : MethodName := ⟨RX10, "told", "(II)I"⟩
abbrev cX10_takesAll : ByteArray := prog_12_method_30_code
def yX10_takesAll : MethodName := ⟨RX10, "takesAll", "()V"⟩
abbrev cX10_sorts : ByteArray := prog_12_method_31_code
def yX10_sorts : MethodName := ⟨RX10, "sorts", "()V"⟩
abbrev cX10_clears : ByteArray := prog_12_method_32_code
def yX10_clears : MethodName := ⟨RX10, "clears", "()V"⟩
abbrev cX10_topOf : ByteArray := prog_12_method_33_code
def yX10_topOf : MethodName := ⟨RX10, "topOf", "(I)I"⟩
abbrev cX10_isWithin : ByteArray := prog_12_method_34_code
def yX10_isWithin : MethodName := ⟨RX10, "isWithin", "(II)Z"⟩
abbrev cX10_isHeld : ByteArray := prog_12_method_35_code
def yX10_isHeld : MethodName := ⟨RX10, "isHeld", "(I)Z"⟩
abbrev cX10_manyIn : ByteArray := prog_12_method_36_code
def yX10_manyIn : MethodName := ⟨RX10, "manyIn", "(I)I"⟩
abbrev cX10_isSoon : ByteArray := prog_12_method_37_code
def yX10_isSoon : MethodName := ⟨RX10, "isSoon", "(III)Z"⟩
abbrev cX10_isOneOf : ByteArray := prog_12_method_38_code
def yX10_isOneOf : MethodName := ⟨RX10, "isOneOf", "(IIII)Z"⟩
abbrev cX10_reason : ByteArray := prog_12_method_39_code
def yX10_reason : MethodName := ⟨RX10, "reason", "(I)I"⟩
abbrev cX10_looks : ByteArray := prog_12_method_40_code
def yX10_looks : MethodName := ⟨RX10, "looks", "(I)V"⟩
abbrev cX10_lies : ByteArray := prog_12_method_41_code
def yX10_lies : MethodName := ⟨RX10, "lies", "(III)V"⟩
abbrev cX10_takes : ByteArray := prog_12_method_42_code
def yX10_takes : MethodName := ⟨RX10, "takes", "(IIIII)V"⟩
abbrev cX10_comesOut : ByteArray := prog_12_method_43_code
def yX10_comesOut : MethodName := ⟨RX10, "comesOut", "(III)V"⟩
abbrev cX10_scans : ByteArray := prog_12_method_44_code
def yX10_scans : MethodName := ⟨RX10, "scans", "(III)V"⟩
abbrev cX10_ends : ByteArray := prog_12_method_45_code
def yX10_ends : MethodName := ⟨RX10, "ends", "(I)V"⟩
abbrev cX10_runs : ByteArray := prog_12_method_46_code
def yX10_runs : MethodName := ⟨RX10, "runs", "(I)V"⟩
abbrev cX10_runsAll : ByteArray := prog_12_method_47_code
def yX10_runsAll : MethodName := ⟨RX10, "runsAll", "()V"⟩
abbrev cX10_runsTo : ByteArray := prog_12_method_48_code
def yX10_runsTo : MethodName := ⟨RX10, "runsTo", "(I)V"⟩
abbrev cX10_whereIs : ByteArray := prog_12_method_49_code
def yX10_whereIs : MethodName := ⟨RX10, "whereIs", "(I)I"⟩
abbrev cX10_message : ByteArray := prog_12_method_50_code
def yX10_message : MethodName := ⟨RX10, "message", "(II)I"⟩
abbrev cX10_orderOf : ByteArray := prog_12_method_51_code
def yX10_orderOf : MethodName := ⟨RX10, "orderOf", "(I)I"⟩
abbrev cX10_isLate : ByteArray := prog_12_method_52_code
def yX10_isLate : MethodName := ⟨RX10, "isLate", "(I)Z"⟩
abbrev cX10_isThing : ByteArray := prog_12_method_53_code
def yX10_isThing : MethodName := ⟨RX10, "isThing", "(I)Z"⟩
abbrev cX10_isHour : ByteArray := prog_12_method_54_code
def yX10_isHour : MethodName := ⟨RX10, "isHour", "(I)Z"⟩
abbrev cX10_allIn : ByteArray := prog_12_method_55_code
def yX10_allIn : MethodName := ⟨RX10, "allIn", "(I)I"⟩
abbrev cX10_thing : ByteArray := prog_12_method_56_code
def yX10_thing : MethodName := ⟨RX10, "thing", "(III)I"⟩
abbrev cX10_inside : ByteArray := prog_12_method_57_code
def yX10_inside : MethodName := ⟨RX10, "inside", "(III)I"⟩
abbrev cX10_isPlace : ByteArray := prog_12_method_58_code
def yX10_isPlace : MethodName := ⟨RX10, "isPlace", "(I)Z"⟩
abbrev cX10_there : ByteArray := prog_12_method_59_code
def yX10_there : MethodName := ⟨RX10, "there", "(III)I"⟩
abbrev cX10_isSo : ByteArray := prog_12_method_60_code
def yX10_isSo : MethodName := ⟨RX10, "isSo", "(II)Z"⟩
abbrev cX10_many : ByteArray := prog_12_method_61_code
def yX10_many : MethodName := ⟨RX10, "many", "(II)I"⟩
abbrev cX10_laysTrail : ByteArray := prog_12_method_62_code
def yX10_laysTrail : MethodName := ⟨RX10, "laysTrail", "(I)V"⟩
abbrev cX10_trail : ByteArray := prog_12_method_63_code
def yX10_trail : MethodName := ⟨RX10, "trail", "(III)I"⟩
abbrev cX10_latest : ByteArray := prog_12_method_64_code
def yX10_latest : MethodName := ⟨RX10, "latest", "()I"⟩
abbrev cX10_dwelt : ByteArray := prog_12_method_65_code
def yX10_dwelt : MethodName := ⟨RX10, "dwelt", "(II)I"⟩
abbrev cX10_flow : ByteArray := prog_12_method_66_code
def yX10_flow : MethodName := ⟨RX10, "flow", "(II)I"⟩
abbrev cX10_runsFirst : ByteArray := prog_12_method_67_code
def yX10_runsFirst : MethodName := ⟨RX10, "runsFirst", "(I)V"⟩
abbrev cX10_known : ByteArray := prog_12_method_68_code
def yX10_known : MethodName := ⟨RX10, "known", "(II)I"⟩
abbrev cX10_changed : ByteArray := prog_12_method_69_code
def yX10_changed : MethodName := ⟨RX10, "changed", "(I)I"⟩
abbrev cX10_runsWithout : ByteArray := prog_12_method_70_code
def yX10_runsWithout : MethodName := ⟨RX10, "runsWithout", "(II)V"⟩
abbrev cX10_without : ByteArray := prog_12_method_71_code
def yX10_without : MethodName := ⟨RX10, "without", "(II)I"⟩
abbrev cX10_refusedNow : ByteArray := prog_12_method_72_code
def yX10_refusedNow : MethodName := ⟨RX10, "refusedNow", "()I"⟩
abbrev cX10_refused : ByteArray := prog_12_method_73_code
def yX10_refused : MethodName := ⟨RX10, "refused", "(I)I"⟩
abbrev cX10_blames : ByteArray := prog_12_method_74_code
def yX10_blames : MethodName := ⟨RX10, "blames", "(Z)V"⟩
abbrev cX10_blamed : ByteArray := prog_12_method_75_code
def yX10_blamed : MethodName := ⟨RX10, "blamed", "(I)I"⟩
abbrev cX10_twoBlamed : ByteArray := prog_12_method_76_code
def yX10_twoBlamed : MethodName := ⟨RX10, "twoBlamed", "(I)I"⟩
abbrev cX10_isRefused : ByteArray := prog_12_method_77_code
def yX10_isRefused : MethodName := ⟨RX10, "isRefused", "(I)Z"⟩
abbrev cX10_cause : ByteArray := prog_12_method_78_code
def yX10_cause : MethodName := ⟨RX10, "cause", "(I)I"⟩
abbrev cX10_needs : ByteArray := prog_12_method_79_code
def yX10_needs : MethodName := ⟨RX10, "needs", "(II)I"⟩
abbrev cX10_runsAt : ByteArray := prog_12_method_80_code
def yX10_runsAt : MethodName := ⟨RX10, "runsAt", "(II)V"⟩
abbrev cX10_ifAt : ByteArray := prog_12_method_81_code
def yX10_ifAt : MethodName := ⟨RX10, "ifAt", "(III)I"⟩
abbrev cX10_window : ByteArray := prog_12_method_82_code
def yX10_window : MethodName := ⟨RX10, "window", "(II)I"⟩
abbrev cX10_meets : ByteArray := prog_12_method_83_code
def yX10_meets : MethodName := ⟨RX10, "meets", "()V"⟩
abbrev cX10_pick : ByteArray := prog_12_method_84_code
def yX10_pick : MethodName := ⟨RX10, "pick", "([ZI)I"⟩
abbrev cX10_met : ByteArray := prog_12_method_85_code
def yX10_met : MethodName := ⟨RX10, "met", "(III)I"⟩
abbrev cX10_adds : ByteArray := prog_12_method_86_code
def yX10_adds : MethodName := ⟨RX10, "adds", "(I)V"⟩
abbrev cX10_wereIn : ByteArray := prog_12_method_87_code
def yX10_wereIn : MethodName := ⟨RX10, "wereIn", "(IIII)I"⟩
abbrev cX10_most : ByteArray := prog_12_method_88_code
def yX10_most : MethodName := ⟨RX10, "most", "(I)I"⟩
abbrev cX10_bitsIn : ByteArray := prog_12_method_89_code
def yX10_bitsIn : MethodName := ⟨RX10, "bitsIn", "(I)J"⟩
abbrev cX10_still : ByteArray := prog_12_method_90_code
def yX10_still : MethodName := ⟨RX10, "still", "(II)I"⟩
abbrev cX10_components : ByteArray := prog_12_method_91_code
def yX10_components : MethodName := ⟨RX10, "components", "(II)I"⟩
abbrev cX10_clash : ByteArray := prog_12_method_92_code
def yX10_clash : MethodName := ⟨RX10, "clash", "(III)I"⟩
abbrev cX10_soonest : ByteArray := prog_12_method_93_code
def yX10_soonest : MethodName := ⟨RX10, "soonest", "(III)I"⟩
abbrev cX10_lost : ByteArray := prog_12_method_94_code
def yX10_lost : MethodName := ⟨RX10, "lost", "(III)I"⟩
abbrev cX10_ifSwapped : ByteArray := prog_12_method_95_code
def yX10_ifSwapped : MethodName := ⟨RX10, "ifSwapped", "(III)I"⟩
abbrev cX10_manyAt : ByteArray := prog_12_method_96_code
def yX10_manyAt : MethodName := ⟨RX10, "manyAt", "(I)I"⟩
abbrev cX10_busy : ByteArray := prog_12_method_97_code
def yX10_busy : MethodName := ⟨RX10, "busy", "(II)I"⟩
abbrev cX10_travelled : ByteArray := prog_12_method_98_code
def yX10_travelled : MethodName := ⟨RX10, "travelled", "(I)I"⟩
abbrev cX10_count : ByteArray := prog_12_method_99_code
def yX10_count : MethodName := ⟨RX10, "count", "(I)I"⟩
abbrev cX10_lates : ByteArray := prog_12_method_100_code
def yX10_lates : MethodName := ⟨RX10, "lates", "()I"⟩
def RJx145de : String := "java/io/Serializable"
def TJx145de : u_T := fun k => match k with
  | _ => ("", "", "", false)
def tyJx145de : Nat → FieldType := fun k => match k with
  | _ => .int
theorem nmJx145de : ∀ a, a < 0 → ∀ b, b < 0 → a ≠ b → (TJx145de a).2.1 ≠ (TJx145de b).2.1 := by decide +kernel
theorem tyJx145de_ok : ∀ k, k < 0 → parseFieldDescriptor (TJx145de k).2.2.1 = some (tyJx145de k) := by decide +kernel
def RJx9f9b0 : String := "java/lang/CharSequence"
def TJx9f9b0 : u_T := fun k => match k with
  | _ => ("", "", "", false)
def tyJx9f9b0 : Nat → FieldType := fun k => match k with
  | _ => .int
theorem nmJx9f9b0 : ∀ a, a < 0 → ∀ b, b < 0 → a ≠ b → (TJx9f9b0 a).2.1 ≠ (TJx9f9b0 b).2.1 := by decide +kernel
theorem tyJx9f9b0_ok : ∀ k, k < 0 → parseFieldDescriptor (TJx9f9b0 k).2.2.1 = some (tyJx9f9b0 k) := by decide +kernel
def RJxb160c : String := "java/lang/Comparable"
def TJxb160c : u_T := fun k => match k with
  | _ => ("", "", "", false)
def tyJxb160c : Nat → FieldType := fun k => match k with
  | _ => .int
theorem nmJxb160c : ∀ a, a < 0 → ∀ b, b < 0 → a ≠ b → (TJxb160c a).2.1 ≠ (TJxb160c b).2.1 := by decide +kernel
theorem tyJxb160c_ok : ∀ k, k < 0 → parseFieldDescriptor (TJxb160c k).2.2.1 = some (tyJxb160c k) := by decide +kernel
def RJ13 : String := "java/lang/Long"
def TJ13 : u_T := fun k => match k with
  | _ => ("", "", "", false)
def tyJ13 : Nat → FieldType := fun k => match k with
  | _ => .int
theorem nmJ13 : ∀ a, a < 0 → ∀ b, b < 0 → a ≠ b → (TJ13 a).2.1 ≠ (TJ13 b).2.1 := by decide +kernel
theorem tyJ13_ok : ∀ k, k < 0 → parseFieldDescriptor (TJ13 k).2.2.1 = some (tyJ13 k) := by decide +kernel
abbrev cJ13_bitCount_95d88 : ByteArray := prog_18_method_50_code
def yJ13_bitCount_95d88 : MethodName := ⟨RJ13, "bitCount", "(J)I"⟩
def RJ9 : String := "java/lang/Math"
def TJ9 : u_T := fun k => match k with
  | _ => ("", "", "", false)
def tyJ9 : Nat → FieldType := fun k => match k with
  | _ => .int
theorem nmJ9 : ∀ a, a < 0 → ∀ b, b < 0 → a ≠ b → (TJ9 a).2.1 ≠ (TJ9 b).2.1 := by decide +kernel
theorem tyJ9_ok : ∀ k, k < 0 → parseFieldDescriptor (TJ9 k).2.2.1 = some (tyJ9 k) := by decide +kernel
abbrev cJ9_max_7cf53 : ByteArray := prog_19_method_65_code
def yJ9_max_7cf53 : MethodName := ⟨RJ9, "max", "(II)I"⟩
abbrev cJ9_min_7cf53 : ByteArray := prog_19_method_69_code
def yJ9_min_7cf53 : MethodName := ⟨RJ9, "min", "(II)I"⟩
def RJ0 : String := "java/lang/String"
def TJ0 : u_T := fun k => match k with
  | _ => ("", "", "", false)
def tyJ0 : Nat → FieldType := fun k => match k with
  | _ => .int
theorem nmJ0 : ∀ a, a < 0 → ∀ b, b < 0 → a ≠ b → (TJ0 a).2.1 ≠ (TJ0 b).2.1 := by decide +kernel
theorem tyJ0_ok : ∀ k, k < 0 → parseFieldDescriptor (TJ0 k).2.2.1 = some (tyJ0 k) := by decide +kernel
abbrev cJ0_length_8abf5 : ByteArray := prog_21_method_54_code
def yJ0_length_8abf5 : MethodName := ⟨RJ0, "length", "()I"⟩
abbrev cJ0_charAt_5068e : ByteArray := prog_21_method_56_code
def yJ0_charAt_5068e : MethodName := ⟨RJ0, "charAt", "(I)C"⟩
abbrev cJ0_coder_7d493 : ByteArray := prog_21_method_152_code
def yJ0_coder_7d493 : MethodName := ⟨RJ0, "coder", "()B"⟩
abbrev cJ0_isLatin1_aae02 : ByteArray := prog_21_method_154_code
def yJ0_isLatin1_aae02 : MethodName := ⟨RJ0, "isLatin1", "()Z"⟩
abbrev cJ0_checkIndex_df160 : ByteArray := prog_21_method_155_code
def yJ0_checkIndex_df160 : MethodName := ⟨RJ0, "checkIndex", "(II)V"⟩
def RJ1 : String := "java/lang/StringLatin1"
def TJ1 : u_T := fun k => match k with
  | _ => ("", "", "", false)
def tyJ1 : Nat → FieldType := fun k => match k with
  | _ => .int
theorem nmJ1 : ∀ a, a < 0 → ∀ b, b < 0 → a ≠ b → (TJ1 a).2.1 ≠ (TJ1 b).2.1 := by decide +kernel
theorem tyJ1_ok : ∀ k, k < 0 → parseFieldDescriptor (TJ1 k).2.2.1 = some (tyJ1 k) := by decide +kernel
abbrev cJ1_charAt_3b067 : ByteArray := prog_22_method_2_code
def yJ1_charAt_3b067 : MethodName := ⟨RJ1, "charAt", "([BI)C"⟩
def RJ2 : String := "java/lang/StringUTF16"
def TJ2 : u_T := fun k => match k with
  | _ => ("", "", "", false)
def tyJ2 : Nat → FieldType := fun k => match k with
  | _ => .int
theorem nmJ2 : ∀ a, a < 0 → ∀ b, b < 0 → a ≠ b → (TJ2 a).2.1 ≠ (TJ2 b).2.1 := by decide +kernel
theorem tyJ2_ok : ∀ k, k < 0 → parseFieldDescriptor (TJ2 k).2.2.1 = some (tyJ2 k) := by decide +kernel
abbrev cJ2_getChar_3b067 : ByteArray := prog_23_method_5_code
def yJ2_getChar_3b067 : MethodName := ⟨RJ2, "getChar", "([BI)C"⟩
abbrev cJ2_length_9d52b : ByteArray := prog_23_method_6_code
def yJ2_length_9d52b : MethodName := ⟨RJ2, "length", "([B)I"⟩
abbrev cJ2_charAt_3b067 : ByteArray := prog_23_method_83_code
def yJ2_charAt_3b067 : MethodName := ⟨RJ2, "charAt", "([BI)C"⟩
abbrev cJ2_checkIndex_2214a : ByteArray := prog_23_method_91_code
def yJ2_checkIndex_2214a : MethodName := ⟨RJ2, "checkIndex", "(I[B)V"⟩
def RJ10 : String := "java/lang/System"
def TJ10 : u_T := fun k => match k with
  | _ => ("", "", "", false)
def tyJ10 : Nat → FieldType := fun k => match k with
  | _ => .int
theorem nmJ10 : ∀ a, a < 0 → ∀ b, b < 0 → a ≠ b → (TJ10 a).2.1 ≠ (TJ10 b).2.1 := by decide +kernel
theorem tyJ10_ok : ∀ k, k < 0 → parseFieldDescriptor (TJ10 k).2.2.1 = some (tyJ10 k) := by decide +kernel
def RJxfd54e : String := "java/lang/constant/Constable"
def TJxfd54e : u_T := fun k => match k with
  | _ => ("", "", "", false)
def tyJxfd54e : Nat → FieldType := fun k => match k with
  | _ => .int
theorem nmJxfd54e : ∀ a, a < 0 → ∀ b, b < 0 → a ≠ b → (TJxfd54e a).2.1 ≠ (TJxfd54e b).2.1 := by decide +kernel
theorem tyJxfd54e_ok : ∀ k, k < 0 → parseFieldDescriptor (TJxfd54e k).2.2.1 = some (tyJxfd54e k) := by decide +kernel
def RJx3cf43 : String := "java/lang/constant/ConstantDesc"
def TJx3cf43 : u_T := fun k => match k with
  | _ => ("", "", "", false)
def tyJx3cf43 : Nat → FieldType := fun k => match k with
  | _ => .int
theorem nmJx3cf43 : ∀ a, a < 0 → ∀ b, b < 0 → a ≠ b → (TJx3cf43 a).2.1 ≠ (TJx3cf43 b).2.1 := by decide +kernel
theorem tyJx3cf43_ok : ∀ k, k < 0 → parseFieldDescriptor (TJx3cf43 k).2.2.1 = some (tyJx3cf43 k) := by decide +kernel
def RJ7 : String := "java/util/Arrays"
def TJ7 : u_T := fun k => match k with
  | _ => ("", "", "", false)
def tyJ7 : Nat → FieldType := fun k => match k with
  | _ => .int
theorem nmJ7 : ∀ a, a < 0 → ∀ b, b < 0 → a ≠ b → (TJ7 a).2.1 ≠ (TJ7 b).2.1 := by decide +kernel
theorem tyJ7_ok : ∀ k, k < 0 → parseFieldDescriptor (TJ7 k).2.2.1 = some (tyJ7 k) := by decide +kernel
abbrev cJ7_fill_53178 : ByteArray := prog_28_method_103_code
def yJ7_fill_53178 : MethodName := ⟨RJ7, "fill", "([II)V"⟩
def RJ3 : String := "jdk/internal/util/Preconditions"
def TJ3 : u_T := fun k => match k with
  | _ => ("", "", "", false)
def tyJ3 : Nat → FieldType := fun k => match k with
  | _ => .int
theorem nmJ3 : ∀ a, a < 0 → ∀ b, b < 0 → a ≠ b → (TJ3 a).2.1 ≠ (TJ3 b).2.1 := by decide +kernel
theorem tyJ3_ok : ∀ k, k < 0 → parseFieldDescriptor (TJ3 k).2.2.1 = some (tyJ3 k) := by decide +kernel
abbrev cJ3_checkIndex_8e157 : ByteArray := prog_30_method_11_code
def yJ3_checkIndex_8e157 : MethodName := ⟨RJ3, "checkIndex", "(IILjava/util/function/BiFunction;)I"⟩
def RL : String := "PackTracerLaw"
abbrev cL_message : ByteArray := method_3_code
def yL_message : MethodName := ⟨RL, "message", "(LPackTracer;II[J)I"⟩
abbrev cL_law : ByteArray := code
def yL_law : MethodName := ⟨RL, "law", "([I)Z"⟩
abbrev vwCl : List vw_C := [(RX0, TX0, 12), (RX1, TX1, 13), (RX2, TX2, 3), (RX3, TX3, 7), (RX4, TX4, 8), (RX5, TX5, 5), (RX6, TX6, 2), (RX7, TX7, 8), (RX8, TX8, 6), (RX9, TX9, 7), (RX10, TX10, 45)]
end
section
/-! THE MINI MACHINE: the bytecode of class and reference run over a heap of cells by number. A run of it that ends is a walk of the machine itself (part 12). -/
/-- a cell: an array of small ints (0 int, 1 boolean, 2 byte), or an object (the number of its class, its fields); a reference is a cell's number -/
abbrev mzC : Type := (Nat × List Int32) ⊕ (Nat × List Value)
abbrev mzH : Type := List mzC
abbrev mzL : Type := List (Nat × Value)
/-- pc, instruction, two numbers (a block, a field, a callee ..), a list of numbers -/
abbrev mzO : Type := Nat × Instr × Nat × Nat × List Nat
abbrev mzB : Type := List (List mzO)
abbrev mzR : Type := Option (Option Value × mzH)
/-- a way to go on: locals, stack, heap, cells left, slots left -/
abbrev mzK : Type := mzL → List Value → mzH → Nat → Nat → mzR
def mzNth {α : Type} : List α → Nat → Option α
  | [], _ => none
  | a :: _, 0 => some a
  | _ :: l, n + 1 => mzNth l n
theorem mzNth_eq {α : Type} : ∀ (l : List α) (n : Nat), mzNth l n = l[n]?
  | [], n => by simp [mzNth]
  | a :: l, 0 => by simp [mzNth]
  | a :: l, n + 1 => by simp [mzNth, mzNth_eq l n]
def mzPc : List mzO → Nat
  | [] => 0
  | q :: _ => q.1
def mzBlk (bl : mzB) (x : Nat) : List mzO := (mzNth bl x).getD []
end
section
/-! TABLES of the mini machine, by program (wip/gen.py) -/
def zB_0 : mzB := [[(0, .aload_n 0, 0, 0, []), (1, .invokespecial 3, 0, 0, [0]), (4, .aload_n 0, 0, 0, []), (5, .new 9, 8, 6, [0]), (8, .dup, 0, 0, []), (9, .invokespecial 11, 82, 8, [1, 6, 240]), (12, .putfield 12, 0, 0, [2]), (15, .aload_n 0, 0, 0, []), (16, .new 9, 8, 6, [0]), (19, .dup, 0, 0, []), (20, .invokespecial 11, 82, 8, [1, 6, 240]), (23, .putfield 18, 0, 1, [2]), (26, .aload_n 0, 0, 0, []), (27, .new 9, 8, 6, [0]), (30, .dup, 0, 0, []), (31, .invokespecial 11, 82, 8, [1, 6, 240]), (34, .putfield 21, 0, 2, [2]), (37, .aload_n 0, 0, 0, []), (38, .aload_n 1, 0, 0, []), (39, .getfield 24, 5, 4, [0]), (42, .putfield 30, 0, 3, [2]), (45, .aload_n 0, 0, 0, []), (46, .aload_n 1, 0, 0, []), (47, .getfield 31, 5, 0, [0]), (50, .putfield 35, 0, 4, [2]), (53, .return_, 0, 0, [])]]
def zB_1 : mzB := [[(0, .aload_n 0, 0, 0, []), (1, .iconst 0, 0, 0, []), (2, .putfield 36, 0, 5, [1]), (5, .aload_n 0, 0, 0, []), (6, .iconst 0, 0, 0, []), (7, .putfield 40, 0, 6, [1]), (10, .return_, 0, 0, [])]]
def zB_2 : mzB := [[(0, .aload_n 0, 0, 0, []), (1, .getfield 36, 0, 5, [0]), (4, .ifCond .eq 4, 1, 0, []), (7, .return_, 0, 0, [])], [(8, .aload_n 0, 0, 0, []), (9, .iconst 1, 0, 0, []), (10, .putfield 36, 0, 5, [1]), (13, .aload_n 0, 0, 0, []), (14, .bipush 60, 0, 0, []), (16, .putfield 43, 0, 8, [0]), (19, .aload_n 0, 0, 0, []), (20, .getfield 12, 0, 0, [0]), (23, .invokevirtual 47, 83, 8, [1, 0, 0]), (26, .iconst 0, 0, 0, []), (27, .istore_n 1, 0, 0, []), (28, .iconst 0, 0, 0, []), (29, .istore_n 2, 0, 0, []), (30, .nop, 2, 0, [])], [(30, .iload_n 2, 0, 0, []), (31, .aload_n 0, 0, 0, []), (32, .getfield 35, 0, 4, [0]), (35, .getfield 50, 2, 2, [0]), (38, .if_icmp .ge 91, 5, 0, []), (41, .aload_n 0, 0, 0, []), (42, .getfield 21, 0, 2, [0]), (45, .aload_n 0, 0, 0, []), (46, .getfield 12, 0, 0, [0]), (49, .invokevirtual 55, 84, 8, [2, 0, 0]), (52, .aload_n 0, 0, 0, []), (53, .getfield 35, 0, 4, [0]), (56, .getfield 59, 2, 1, [0]), (59, .iload_n 2, 0, 0, []), (60, .iaload, 0, 0, []), (61, .istore_n 3, 0, 0, []), (62, .aload_n 0, 0, 0, []), (63, .iload_n 2, 0, 0, []), (64, .iload_n 1, 0, 0, []), (65, .aload_n 0, 0, 0, []), (66, .getfield 43, 0, 8, [0]), (69, .invokevirtual 63, 6, 0, [4, 0, 0]), (72, .istore 4, 0, 0, []), (74, .iload 4, 0, 0, []), (76, .aload_n 0, 0, 0, []), (77, .getfield 43, 0, 8, [0]), (80, .if_icmp .lt 20, 3, 0, []), (83, .iload 4, 0, 0, []), (85, .aload_n 0, 0, 0, []), (86, .getfield 43, 0, 8, [0]), (89, .if_icmp .ne 22, 4, 0, []), (92, .iload_n 3, 0, 0, []), (93, .aload_n 0, 0, 0, []), (94, .getfield 67, 0, 7, [0]), (97, .if_icmp .ge 14, 4, 0, []), (100, .nop, 3, 0, [])], [(100, .aload_n 0, 0, 0, []), (101, .iload_n 3, 0, 0, []), (102, .putfield 67, 0, 7, [0]), (105, .aload_n 0, 0, 0, []), (106, .iload 4, 0, 0, []), (108, .putfield 43, 0, 8, [0]), (111, .nop, 4, 0, [])], [(111, .iload_n 1, 0, 0, []), (112, .aload_n 0, 0, 0, []), (113, .iload_n 2, 0, 0, []), (114, .aload_n 0, 0, 0, []), (115, .getfield 12, 0, 0, [0]), (118, .invokevirtual 70, 7, 0, [3, 0, 0]), (121, .iadd, 0, 0, []), (122, .istore_n 1, 0, 0, []), (123, .iinc 2 1, 0, 0, []), (126, .goto (-96), 2, 0, [])], [(129, .return_, 0, 0, [])]]
def zB_3 : mzB := [[(0, .aload_n 0, 0, 0, []), (1, .getfield 40, 0, 6, [0]), (4, .ifCond .eq 4, 1, 0, []), (7, .return_, 0, 0, [])], [(8, .aload_n 0, 0, 0, []), (9, .iconst 1, 0, 0, []), (10, .putfield 40, 0, 6, [1]), (13, .aload_n 0, 0, 0, []), (14, .bipush 60, 0, 0, []), (16, .putfield 74, 0, 11, [0]), (19, .aload_n 0, 0, 0, []), (20, .getfield 12, 0, 0, [0]), (23, .invokevirtual 47, 83, 8, [1, 0, 0]), (26, .iconst 0, 0, 0, []), (27, .istore_n 1, 0, 0, []), (28, .iconst 0, 0, 0, []), (29, .istore_n 2, 0, 0, []), (30, .nop, 2, 0, [])], [(30, .iload_n 2, 0, 0, []), (31, .aload_n 0, 0, 0, []), (32, .getfield 35, 0, 4, [0]), (35, .getfield 50, 2, 2, [0]), (38, .if_icmp .ge 27, 3, 0, []), (41, .aload_n 0, 0, 0, []), (42, .iload_n 2, 0, 0, []), (43, .iload_n 1, 0, 0, []), (44, .invokevirtual 77, 4, 0, [3, 0, 0]), (47, .iload_n 1, 0, 0, []), (48, .aload_n 0, 0, 0, []), (49, .iload_n 2, 0, 0, []), (50, .aload_n 0, 0, 0, []), (51, .getfield 12, 0, 0, [0]), (54, .invokevirtual 70, 7, 0, [3, 0, 0]), (57, .iadd, 0, 0, []), (58, .istore_n 1, 0, 0, []), (59, .iinc 2 1, 0, 0, []), (62, .goto (-32), 2, 0, [])], [(65, .return_, 0, 0, [])]]
def zB_4 : mzB := [[(0, .aload_n 0, 0, 0, []), (1, .getfield 18, 0, 1, [0]), (4, .aload_n 0, 0, 0, []), (5, .getfield 12, 0, 0, [0]), (8, .invokevirtual 55, 84, 8, [2, 0, 0]), (11, .iload_n 2, 0, 0, []), (12, .istore_n 3, 0, 0, []), (13, .iload_n 1, 0, 0, []), (14, .iconst 1, 0, 0, []), (15, .iadd, 0, 0, []), (16, .istore 4, 0, 0, []), (18, .nop, 1, 0, [])], [(18, .iload 4, 0, 0, []), (20, .aload_n 0, 0, 0, []), (21, .getfield 35, 0, 4, [0]), (24, .getfield 50, 2, 2, [0]), (27, .if_icmp .ge 96, 2, 0, []), (30, .aload_n 0, 0, 0, []), (31, .getfield 21, 0, 2, [0]), (34, .aload_n 0, 0, 0, []), (35, .getfield 18, 0, 1, [0]), (38, .invokevirtual 55, 84, 8, [2, 0, 0]), (41, .aload_n 0, 0, 0, []), (42, .iload 4, 0, 0, []), (44, .iload_n 3, 0, 0, []), (45, .aload_n 0, 0, 0, []), (46, .getfield 74, 0, 11, [0]), (49, .invokevirtual 63, 6, 0, [4, 0, 0]), (52, .istore 5, 0, 0, []), (54, .aload_n 0, 0, 0, []), (55, .aload_n 0, 0, 0, []), (56, .getfield 35, 0, 4, [0]), (59, .getfield 59, 2, 1, [0]), (62, .iload_n 1, 0, 0, []), (63, .iaload, 0, 0, []), (64, .aload_n 0, 0, 0, []), (65, .getfield 35, 0, 4, [0]), (68, .getfield 59, 2, 1, [0]), (71, .iload 4, 0, 0, []), (73, .iaload, 0, 0, []), (74, .invokestatic 81, 0, 0, [2]), (77, .aload_n 0, 0, 0, []), (78, .getfield 35, 0, 4, [0]), (81, .getfield 59, 2, 1, [0]), (84, .iload_n 1, 0, 0, []), (85, .iaload, 0, 0, []), (86, .aload_n 0, 0, 0, []), (87, .getfield 35, 0, 4, [0]), (90, .getfield 59, 2, 1, [0]), (93, .iload 4, 0, 0, []), (95, .iaload, 0, 0, []), (96, .invokestatic 87, 0, 0, [1]), (99, .iload 5, 0, 0, []), (101, .invokevirtual 90, 5, 0, [4, 0, 0]), (104, .iload_n 3, 0, 0, []), (105, .aload_n 0, 0, 0, []), (106, .iload 4, 0, 0, []), (108, .aload_n 0, 0, 0, []), (109, .getfield 18, 0, 1, [0]), (112, .invokevirtual 70, 7, 0, [3, 0, 0]), (115, .iadd, 0, 0, []), (116, .istore_n 3, 0, 0, []), (117, .iinc 4 1, 0, 0, []), (120, .goto (-102), 1, 0, [])], [(123, .return_, 0, 0, [])]]
def zB_5 : mzB := [[(0, .iload_n 1, 0, 0, []), (1, .aload_n 0, 0, 0, []), (2, .getfield 94, 0, 9, [0]), (5, .if_icmp .lt 19, 1, 0, []), (8, .iload_n 1, 0, 0, []), (9, .aload_n 0, 0, 0, []), (10, .getfield 94, 0, 9, [0]), (13, .if_icmp .ne 15, 2, 0, []), (16, .iload_n 2, 0, 0, []), (17, .aload_n 0, 0, 0, []), (18, .getfield 97, 0, 10, [0]), (21, .if_icmp .ge 7, 2, 0, []), (24, .nop, 1, 0, [])], [(24, .iconst 1, 0, 0, []), (25, .goto 4, 3, 0, [])], [(28, .iconst 0, 0, 0, []), (29, .nop, 3, 0, [])], [(29, .istore 4, 0, 0, []), (31, .iload_n 3, 0, 0, []), (32, .aload_n 0, 0, 0, []), (33, .getfield 74, 0, 11, [0]), (36, .if_icmp .lt 16, 4, 0, []), (39, .iload_n 3, 0, 0, []), (40, .aload_n 0, 0, 0, []), (41, .getfield 74, 0, 11, [0]), (44, .if_icmp .ne 23, 5, 0, []), (47, .iload 4, 0, 0, []), (49, .ifCond .eq 18, 5, 0, []), (52, .nop, 4, 0, [])], [(52, .aload_n 0, 0, 0, []), (53, .iload_n 1, 0, 0, []), (54, .putfield 94, 0, 9, [0]), (57, .aload_n 0, 0, 0, []), (58, .iload_n 2, 0, 0, []), (59, .putfield 97, 0, 10, [0]), (62, .aload_n 0, 0, 0, []), (63, .iload_n 3, 0, 0, []), (64, .putfield 74, 0, 11, [0]), (67, .nop, 5, 0, [])], [(67, .return_, 0, 0, [])]]
def zB_6 : mzB := [[(0, .iload_n 2, 0, 0, []), (1, .istore 4, 0, 0, []), (3, .iload_n 1, 0, 0, []), (4, .iconst 1, 0, 0, []), (5, .iadd, 0, 0, []), (6, .istore 5, 0, 0, []), (8, .nop, 1, 0, [])], [(8, .iload 5, 0, 0, []), (10, .aload_n 0, 0, 0, []), (11, .getfield 35, 0, 4, [0]), (14, .getfield 50, 2, 2, [0]), (17, .if_icmp .ge 58, 4, 0, []), (20, .iload 4, 0, 0, []), (22, .iload_n 3, 0, 0, []), (23, .if_icmp .gt 52, 4, 0, []), (26, .iload 4, 0, 0, []), (28, .aload_n 0, 0, 0, []), (29, .getfield 21, 0, 2, [0]), (32, .aload_n 0, 0, 0, []), (33, .getfield 30, 0, 3, [0]), (36, .aload_n 0, 0, 0, []), (37, .getfield 35, 0, 4, [0]), (40, .getfield 59, 2, 1, [0]), (43, .iload 5, 0, 0, []), (45, .iaload, 0, 0, []), (46, .aload_n 0, 0, 0, []), (47, .getfield 35, 0, 4, [0]), (50, .iload 5, 0, 0, []), (52, .invokevirtual 100, 27, 2, [2, 0, 0]), (55, .invokevirtual 104, 93, 8, [4, 0, 0]), (58, .ifCond .eq 7, 2, 0, []), (61, .iconst 1, 0, 0, []), (62, .goto 4, 3, 0, [])], [(65, .iconst 0, 0, 0, []), (66, .nop, 3, 0, [])], [(66, .iadd, 0, 0, []), (67, .istore 4, 0, 0, []), (69, .iinc 5 1, 0, 0, []), (72, .goto (-64), 1, 0, [])], [(75, .iload 4, 0, 0, []), (77, .ireturn, 0, 0, [])]]
def zB_7 : mzB := [[(0, .aload_n 2, 0, 0, []), (1, .aload_n 0, 0, 0, []), (2, .getfield 30, 0, 3, [0]), (5, .aload_n 0, 0, 0, []), (6, .getfield 35, 0, 4, [0]), (9, .getfield 59, 2, 1, [0]), (12, .iload_n 1, 0, 0, []), (13, .iaload, 0, 0, []), (14, .aload_n 0, 0, 0, []), (15, .getfield 35, 0, 4, [0]), (18, .iload_n 1, 0, 0, []), (19, .invokevirtual 100, 27, 2, [2, 0, 0]), (22, .invokevirtual 104, 93, 8, [4, 0, 0]), (25, .ifCond .eq 7, 1, 0, []), (28, .iconst 1, 0, 0, []), (29, .goto 4, 2, 0, [])], [(32, .iconst 0, 0, 0, []), (33, .nop, 2, 0, [])], [(33, .ireturn, 0, 0, [])]]
def zB_8 : mzB := [[(0, .aload_n 0, 0, 0, []), (1, .invokespecial 3, 0, 0, [0]), (4, .aload_n 0, 0, 0, []), (5, .bipush 8, 0, 0, []), (7, .newarray .int, 0, 0, [0]), (9, .putfield 9, 1, 0, [2]), (12, .aload_n 0, 0, 0, []), (13, .bipush 64, 0, 0, []), (15, .newarray .int, 0, 0, [0]), (17, .putfield 15, 1, 1, [2]), (20, .aload_n 0, 0, 0, []), (21, .bipush 60, 0, 0, []), (23, .newarray .int, 0, 0, [0]), (25, .putfield 18, 1, 2, [2]), (28, .aload_n 0, 0, 0, []), (29, .bipush 60, 0, 0, []), (31, .newarray .int, 0, 0, [0]), (33, .putfield 21, 1, 3, [2]), (36, .aload_n 0, 0, 0, []), (37, .bipush 60, 0, 0, []), (39, .newarray .int, 0, 0, [0]), (41, .putfield 24, 1, 4, [2]), (44, .aload_n 0, 0, 0, []), (45, .bipush 60, 0, 0, []), (47, .newarray .int, 0, 0, [0]), (49, .putfield 27, 1, 5, [2]), (52, .aload_n 0, 0, 0, []), (53, .bipush 60, 0, 0, []), (55, .newarray .int, 0, 0, [0]), (57, .putfield 30, 1, 6, [2]), (60, .aload_n 0, 0, 0, []), (61, .bipush 10, 0, 0, []), (63, .putfield 33, 1, 10, [0]), (66, .aload_n 0, 0, 0, []), (67, .bipush 10, 0, 0, []), (69, .putfield 37, 1, 11, [0]), (72, .return_, 0, 0, [])]]
def zB_9 : mzB := [[(0, .aload_n 0, 0, 0, []), (1, .iconst 0, 0, 0, []), (2, .putfield 40, 1, 7, [0]), (5, .aload_n 0, 0, 0, []), (6, .iconst 0, 0, 0, []), (7, .putfield 43, 1, 8, [0]), (10, .aload_n 0, 0, 0, []), (11, .iconst 0, 0, 0, []), (12, .putfield 46, 1, 9, [0]), (15, .aload_n 0, 0, 0, []), (16, .bipush 10, 0, 0, []), (18, .putfield 33, 1, 10, [0]), (21, .aload_n 0, 0, 0, []), (22, .bipush 10, 0, 0, []), (24, .putfield 37, 1, 11, [0]), (27, .aload_n 0, 0, 0, []), (28, .iconst 0, 0, 0, []), (29, .putfield 49, 1, 12, [1]), (32, .aload_n 0, 0, 0, []), (33, .getfield 15, 1, 1, [0]), (36, .bipush (-2), 0, 0, []), (38, .invokestatic 53, 254, 12, [2, 0, 0]), (41, .return_, 0, 0, [])]]
def zB_10 : mzB := [[(0, .aload_n 1, 0, 0, []), (1, .getfield 9, 1, 0, [0]), (4, .iconst 0, 0, 0, []), (5, .aload_n 0, 0, 0, []), (6, .getfield 9, 1, 0, [0]), (9, .iconst 0, 0, 0, []), (10, .bipush 8, 0, 0, []), (12, .invokestatic 59, 0, 0, [0]), (15, .aload_n 1, 0, 0, []), (16, .getfield 15, 1, 1, [0]), (19, .iconst 0, 0, 0, []), (20, .aload_n 0, 0, 0, []), (21, .getfield 15, 1, 1, [0]), (24, .iconst 0, 0, 0, []), (25, .bipush 64, 0, 0, []), (27, .invokestatic 59, 0, 0, [0]), (30, .aload_n 1, 0, 0, []), (31, .getfield 18, 1, 2, [0]), (34, .iconst 0, 0, 0, []), (35, .aload_n 0, 0, 0, []), (36, .getfield 18, 1, 2, [0]), (39, .iconst 0, 0, 0, []), (40, .bipush 60, 0, 0, []), (42, .invokestatic 59, 0, 0, [0]), (45, .aload_n 1, 0, 0, []), (46, .getfield 21, 1, 3, [0]), (49, .iconst 0, 0, 0, []), (50, .aload_n 0, 0, 0, []), (51, .getfield 21, 1, 3, [0]), (54, .iconst 0, 0, 0, []), (55, .bipush 60, 0, 0, []), (57, .invokestatic 59, 0, 0, [0]), (60, .aload_n 1, 0, 0, []), (61, .getfield 24, 1, 4, [0]), (64, .iconst 0, 0, 0, []), (65, .aload_n 0, 0, 0, []), (66, .getfield 24, 1, 4, [0]), (69, .iconst 0, 0, 0, []), (70, .bipush 60, 0, 0, []), (72, .invokestatic 59, 0, 0, [0]), (75, .aload_n 1, 0, 0, []), (76, .getfield 27, 1, 5, [0]), (79, .iconst 0, 0, 0, []), (80, .aload_n 0, 0, 0, []), (81, .getfield 27, 1, 5, [0]), (84, .iconst 0, 0, 0, []), (85, .bipush 60, 0, 0, []), (87, .invokestatic 59, 0, 0, [0]), (90, .aload_n 1, 0, 0, []), (91, .getfield 30, 1, 6, [0]), (94, .iconst 0, 0, 0, []), (95, .aload_n 0, 0, 0, []), (96, .getfield 30, 1, 6, [0]), (99, .iconst 0, 0, 0, []), (100, .bipush 60, 0, 0, []), (102, .invokestatic 59, 0, 0, [0]), (105, .aload_n 0, 0, 0, []), (106, .aload_n 1, 0, 0, []), (107, .getfield 40, 1, 7, [0]), (110, .putfield 40, 1, 7, [0]), (113, .aload_n 0, 0, 0, []), (114, .aload_n 1, 0, 0, []), (115, .getfield 43, 1, 8, [0]), (118, .putfield 43, 1, 8, [0]), (121, .aload_n 0, 0, 0, []), (122, .aload_n 1, 0, 0, []), (123, .getfield 46, 1, 9, [0]), (126, .putfield 46, 1, 9, [0]), (129, .aload_n 0, 0, 0, []), (130, .aload_n 1, 0, 0, []), (131, .getfield 33, 1, 10, [0]), (134, .putfield 33, 1, 10, [0]), (137, .aload_n 0, 0, 0, []), (138, .aload_n 1, 0, 0, []), (139, .getfield 37, 1, 11, [0]), (142, .putfield 37, 1, 11, [0]), (145, .aload_n 0, 0, 0, []), (146, .aload_n 1, 0, 0, []), (147, .getfield 49, 1, 12, [0]), (150, .putfield 49, 1, 12, [1]), (153, .return_, 0, 0, [])]]
def zB_11 : mzB := [[(0, .iload_n 1, 0, 0, []), (1, .ifCond .lt 15, 1, 0, []), (4, .iload_n 1, 0, 0, []), (5, .aload_n 0, 0, 0, []), (6, .getfield 40, 1, 7, [0]), (9, .if_icmp .ge 7, 1, 0, []), (12, .iconst 1, 0, 0, []), (13, .goto 4, 2, 0, [])], [(16, .iconst 0, 0, 0, []), (17, .nop, 2, 0, [])], [(17, .ireturn, 1, 0, [])]]
def zB_12 : mzB := [[(0, .iload_n 1, 0, 0, []), (1, .ifCond .lt 15, 1, 0, []), (4, .iload_n 1, 0, 0, []), (5, .aload_n 0, 0, 0, []), (6, .getfield 46, 1, 9, [0]), (9, .if_icmp .ge 7, 1, 0, []), (12, .iconst 1, 0, 0, []), (13, .goto 4, 2, 0, [])], [(16, .iconst 0, 0, 0, []), (17, .nop, 2, 0, [])], [(17, .ireturn, 1, 0, [])]]
def zB_13 : mzB := [[(0, .iconst 0, 0, 0, []), (1, .istore_n 2, 0, 0, []), (2, .nop, 1, 0, [])], [(2, .iload_n 2, 0, 0, []), (3, .aload_n 0, 0, 0, []), (4, .getfield 40, 1, 7, [0]), (7, .if_icmp .ge 21, 3, 0, []), (10, .aload_n 0, 0, 0, []), (11, .getfield 9, 1, 0, [0]), (14, .iload_n 2, 0, 0, []), (15, .iaload, 0, 0, []), (16, .iload_n 1, 0, 0, []), (17, .if_icmp .ne 5, 2, 0, []), (20, .iload_n 2, 0, 0, []), (21, .ireturn, 0, 0, [])], [(22, .iinc 2 1, 0, 0, []), (25, .goto (-23), 1, 0, [])], [(28, .bipush (-2), 0, 0, []), (30, .ireturn, 0, 0, [])]]
def zB_14 : mzB := [[(0, .aload_n 0, 0, 0, []), (1, .getfield 40, 1, 7, [0]), (4, .bipush 8, 0, 0, []), (6, .if_icmp .ge 41, 1, 0, []), (9, .aload_n 0, 0, 0, []), (10, .getfield 9, 1, 0, [0]), (13, .aload_n 0, 0, 0, []), (14, .getfield 40, 1, 7, [0]), (17, .iload_n 1, 0, 0, []), (18, .iastore, 0, 0, []), (19, .aload_n 0, 0, 0, []), (20, .getfield 15, 1, 1, [0]), (23, .aload_n 0, 0, 0, []), (24, .getfield 40, 1, 7, [0]), (27, .bipush 8, 0, 0, []), (29, .imul, 0, 0, []), (30, .aload_n 0, 0, 0, []), (31, .getfield 40, 1, 7, [0]), (34, .iadd, 0, 0, []), (35, .iconst 0, 0, 0, []), (36, .iastore, 0, 0, []), (37, .aload_n 0, 0, 0, []), (38, .dup, 0, 0, []), (39, .getfield 40, 1, 7, [0]), (42, .iconst 1, 0, 0, []), (43, .iadd, 0, 0, []), (44, .putfield 40, 1, 7, [0]), (47, .nop, 1, 0, [])], [(47, .return_, 0, 0, [])]]
def zB_15 : mzB := [[(0, .aload_n 0, 0, 0, []), (1, .iload_n 1, 0, 0, []), (2, .iload_n 2, 0, 0, []), (3, .iload_n 3, 0, 0, []), (4, .invokevirtual 65, 18, 1, [4, 0, 0]), (7, .aload_n 0, 0, 0, []), (8, .iload_n 2, 0, 0, []), (9, .iload_n 1, 0, 0, []), (10, .iload_n 3, 0, 0, []), (11, .invokevirtual 65, 18, 1, [4, 0, 0]), (14, .aload_n 0, 0, 0, []), (15, .dup, 0, 0, []), (16, .getfield 43, 1, 8, [0]), (19, .iconst 1, 0, 0, []), (20, .iadd, 0, 0, []), (21, .putfield 43, 1, 8, [0]), (24, .return_, 0, 0, [])]]
def zB_16 : mzB := [[(0, .aload_n 0, 0, 0, []), (1, .getfield 46, 1, 9, [0]), (4, .bipush 60, 0, 0, []), (6, .if_icmp .ge 65, 1, 0, []), (9, .aload_n 0, 0, 0, []), (10, .getfield 18, 1, 2, [0]), (13, .aload_n 0, 0, 0, []), (14, .getfield 46, 1, 9, [0]), (17, .iload_n 1, 0, 0, []), (18, .iastore, 0, 0, []), (19, .aload_n 0, 0, 0, []), (20, .getfield 21, 1, 3, [0]), (23, .aload_n 0, 0, 0, []), (24, .getfield 46, 1, 9, [0]), (27, .iload_n 2, 0, 0, []), (28, .iastore, 0, 0, []), (29, .aload_n 0, 0, 0, []), (30, .getfield 24, 1, 4, [0]), (33, .aload_n 0, 0, 0, []), (34, .getfield 46, 1, 9, [0]), (37, .iload_n 3, 0, 0, []), (38, .iastore, 0, 0, []), (39, .aload_n 0, 0, 0, []), (40, .getfield 27, 1, 5, [0]), (43, .aload_n 0, 0, 0, []), (44, .getfield 46, 1, 9, [0]), (47, .iload 4, 0, 0, []), (49, .iastore, 0, 0, []), (50, .aload_n 0, 0, 0, []), (51, .getfield 30, 1, 6, [0]), (54, .aload_n 0, 0, 0, []), (55, .getfield 46, 1, 9, [0]), (58, .iload 5, 0, 0, []), (60, .iastore, 0, 0, []), (61, .aload_n 0, 0, 0, []), (62, .dup, 0, 0, []), (63, .getfield 46, 1, 9, [0]), (66, .iconst 1, 0, 0, []), (67, .iadd, 0, 0, []), (68, .putfield 46, 1, 9, [0]), (71, .nop, 1, 0, [])], [(71, .return_, 0, 0, [])]]
def zB_17 : mzB := [[(0, .iload_n 1, 0, 0, []), (1, .ifCond .lt 27, 1, 0, []), (4, .iload_n 1, 0, 0, []), (5, .aload_n 0, 0, 0, []), (6, .getfield 40, 1, 7, [0]), (9, .if_icmp .ge 19, 1, 0, []), (12, .iload_n 2, 0, 0, []), (13, .ifCond .lt 15, 1, 0, []), (16, .iload_n 2, 0, 0, []), (17, .aload_n 0, 0, 0, []), (18, .getfield 40, 1, 7, [0]), (21, .if_icmp .ge 7, 1, 0, []), (24, .iconst 1, 0, 0, []), (25, .goto 4, 2, 0, [])], [(28, .iconst 0, 0, 0, []), (29, .nop, 2, 0, [])], [(29, .istore_n 3, 0, 0, []), (30, .iload_n 3, 0, 0, []), (31, .ifCond .eq 17, 3, 0, []), (34, .aload_n 0, 0, 0, []), (35, .getfield 15, 1, 1, [0]), (38, .iload_n 1, 0, 0, []), (39, .bipush 8, 0, 0, []), (41, .imul, 0, 0, []), (42, .iload_n 2, 0, 0, []), (43, .iadd, 0, 0, []), (44, .iaload, 0, 0, []), (45, .goto 5, 4, 0, [])], [(48, .bipush (-2), 0, 0, []), (50, .nop, 4, 0, [])], [(50, .ireturn, 0, 0, [])]]
def zB_18 : mzB := [[(0, .aload_n 0, 0, 0, []), (1, .iload_n 1, 0, 0, []), (2, .iload_n 2, 0, 0, []), (3, .invokevirtual 69, 17, 1, [3, 0, 0]), (6, .istore 4, 0, 0, []), (8, .aload_n 0, 0, 0, []), (9, .iload_n 1, 0, 0, []), (10, .invokevirtual 73, 11, 1, [2, 0, 0]), (13, .ifCond .eq 36, 2, 0, []), (16, .aload_n 0, 0, 0, []), (17, .iload_n 2, 0, 0, []), (18, .invokevirtual 73, 11, 1, [2, 0, 0]), (21, .ifCond .eq 28, 2, 0, []), (24, .iload 4, 0, 0, []), (26, .bipush (-2), 0, 0, []), (28, .if_icmp .eq 9, 1, 0, []), (31, .iload_n 3, 0, 0, []), (32, .iload 4, 0, 0, []), (34, .if_icmp .ge 15, 2, 0, []), (37, .nop, 1, 0, [])], [(37, .aload_n 0, 0, 0, []), (38, .getfield 15, 1, 1, [0]), (41, .iload_n 1, 0, 0, []), (42, .bipush 8, 0, 0, []), (44, .imul, 0, 0, []), (45, .iload_n 2, 0, 0, []), (46, .iadd, 0, 0, []), (47, .iload_n 3, 0, 0, []), (48, .iastore, 0, 0, []), (49, .nop, 2, 0, [])], [(49, .return_, 0, 0, [])]]
def zB_19 : mzB := [[(0, .iconst 0, 0, 0, []), (1, .istore_n 1, 0, 0, []), (2, .nop, 1, 0, [])], [(2, .iload_n 1, 0, 0, []), (3, .aload_n 0, 0, 0, []), (4, .getfield 40, 1, 7, [0]), (7, .if_icmp .ge 82, 7, 0, []), (10, .iconst 0, 0, 0, []), (11, .istore_n 2, 0, 0, []), (12, .nop, 2, 0, [])], [(12, .iload_n 2, 0, 0, []), (13, .aload_n 0, 0, 0, []), (14, .getfield 40, 1, 7, [0]), (17, .if_icmp .ge 66, 6, 0, []), (20, .iconst 0, 0, 0, []), (21, .istore_n 3, 0, 0, []), (22, .nop, 3, 0, [])], [(22, .iload_n 3, 0, 0, []), (23, .aload_n 0, 0, 0, []), (24, .getfield 40, 1, 7, [0]), (27, .if_icmp .ge 50, 5, 0, []), (30, .aload_n 0, 0, 0, []), (31, .iload_n 2, 0, 0, []), (32, .iload_n 1, 0, 0, []), (33, .invokevirtual 69, 17, 1, [3, 0, 0]), (36, .bipush (-2), 0, 0, []), (38, .if_icmp .eq 33, 4, 0, []), (41, .aload_n 0, 0, 0, []), (42, .iload_n 1, 0, 0, []), (43, .iload_n 3, 0, 0, []), (44, .invokevirtual 69, 17, 1, [3, 0, 0]), (47, .bipush (-2), 0, 0, []), (49, .if_icmp .eq 22, 4, 0, []), (52, .aload_n 0, 0, 0, []), (53, .iload_n 2, 0, 0, []), (54, .iload_n 3, 0, 0, []), (55, .aload_n 0, 0, 0, []), (56, .iload_n 2, 0, 0, []), (57, .iload_n 1, 0, 0, []), (58, .invokevirtual 69, 17, 1, [3, 0, 0]), (61, .aload_n 0, 0, 0, []), (62, .iload_n 1, 0, 0, []), (63, .iload_n 3, 0, 0, []), (64, .invokevirtual 69, 17, 1, [3, 0, 0]), (67, .iadd, 0, 0, []), (68, .invokevirtual 65, 18, 1, [4, 0, 0]), (71, .nop, 4, 0, [])], [(71, .iinc 3 1, 0, 0, []), (74, .goto (-52), 3, 0, [])], [(77, .iinc 2 1, 0, 0, []), (80, .goto (-68), 2, 0, [])], [(83, .iinc 1 1, 0, 0, []), (86, .goto (-84), 1, 0, [])], [(89, .return_, 0, 0, [])]]
def zB_20 : mzB := [[(0, .iconst 0, 0, 0, []), (1, .istore_n 2, 0, 0, []), (2, .nop, 1, 0, [])], [(2, .iload_n 2, 0, 0, []), (3, .iload_n 1, 0, 0, []), (4, .if_icmp .ge 34, 3, 0, []), (7, .iload_n 2, 0, 0, []), (8, .aload_n 0, 0, 0, []), (9, .getfield 46, 1, 9, [0]), (12, .if_icmp .ge 26, 3, 0, []), (15, .aload_n 0, 0, 0, []), (16, .getfield 18, 1, 2, [0]), (19, .iload_n 2, 0, 0, []), (20, .iaload, 0, 0, []), (21, .aload_n 0, 0, 0, []), (22, .getfield 18, 1, 2, [0]), (25, .iload_n 1, 0, 0, []), (26, .iaload, 0, 0, []), (27, .if_icmp .le 5, 2, 0, []), (30, .iconst 1, 0, 0, []), (31, .ireturn, 1, 0, [])], [(32, .iinc 2 1, 0, 0, []), (35, .goto (-33), 1, 0, [])], [(38, .iconst 0, 0, 0, []), (39, .ireturn, 1, 0, [])]]
def zB_21 : mzB := [[(0, .iconst 0, 0, 0, []), (1, .istore_n 1, 0, 0, []), (2, .iconst 0, 0, 0, []), (3, .istore_n 2, 0, 0, []), (4, .nop, 1, 0, [])], [(4, .iload_n 2, 0, 0, []), (5, .aload_n 0, 0, 0, []), (6, .getfield 46, 1, 9, [0]), (9, .if_icmp .ge 25, 4, 0, []), (12, .iload_n 1, 0, 0, []), (13, .aload_n 0, 0, 0, []), (14, .iload_n 2, 0, 0, []), (15, .invokevirtual 77, 20, 1, [2, 0, 0]), (18, .ifCond .eq 7, 2, 0, []), (21, .iconst 1, 0, 0, []), (22, .goto 4, 3, 0, [])], [(25, .iconst 0, 0, 0, []), (26, .nop, 3, 0, [])], [(26, .iadd, 0, 0, []), (27, .istore_n 1, 0, 0, []), (28, .iinc 2 1, 0, 0, []), (31, .goto (-27), 1, 0, [])], [(34, .iload_n 1, 0, 0, []), (35, .ireturn, 0, 0, [])]]
def zB_22 : mzB := [[(0, .iconst 0, 0, 0, []), (1, .istore_n 1, 0, 0, []), (2, .iconst 0, 0, 0, []), (3, .istore_n 2, 0, 0, []), (4, .nop, 1, 0, [])], [(4, .iload_n 2, 0, 0, []), (5, .aload_n 0, 0, 0, []), (6, .getfield 46, 1, 9, [0]), (9, .if_icmp .ge 20, 2, 0, []), (12, .iload_n 1, 0, 0, []), (13, .aload_n 0, 0, 0, []), (14, .getfield 18, 1, 2, [0]), (17, .iload_n 2, 0, 0, []), (18, .iaload, 0, 0, []), (19, .invokestatic 80, 0, 0, [1]), (22, .istore_n 1, 0, 0, []), (23, .iinc 2 1, 0, 0, []), (26, .goto (-22), 1, 0, [])], [(29, .iload_n 1, 0, 0, []), (30, .ireturn, 0, 0, [])]]
def zB_23 : mzB := [[(0, .aload_n 0, 0, 0, []), (1, .invokespecial 3, 0, 0, [0]), (4, .aload_n 0, 0, 0, []), (5, .bipush 60, 0, 0, []), (7, .newarray .int, 0, 0, [0]), (9, .putfield 9, 2, 0, [2]), (12, .aload_n 0, 0, 0, []), (13, .bipush 60, 0, 0, []), (15, .newarray .int, 0, 0, [0]), (17, .putfield 15, 2, 1, [2]), (20, .return_, 0, 0, [])]]
def zB_24 : mzB := [[(0, .aload_n 0, 0, 0, []), (1, .aload_n 1, 0, 0, []), (2, .getfield 18, 1, 9, [0]), (5, .putfield 24, 2, 2, [0]), (8, .aload_n 1, 0, 0, []), (9, .getfield 25, 1, 2, [0]), (12, .iconst 0, 0, 0, []), (13, .aload_n 0, 0, 0, []), (14, .getfield 9, 2, 0, [0]), (17, .iconst 0, 0, 0, []), (18, .bipush 60, 0, 0, []), (20, .invokestatic 26, 0, 0, [0]), (23, .return_, 0, 0, [])]]
def zB_25 : mzB := [[(0, .iconst 0, 0, 0, []), (1, .istore_n 1, 0, 0, []), (2, .nop, 1, 0, [])], [(2, .iload_n 1, 0, 0, []), (3, .aload_n 0, 0, 0, []), (4, .getfield 24, 2, 2, [0]), (7, .if_icmp .ge 64, 4, 0, []), (10, .iload_n 1, 0, 0, []), (11, .istore_n 2, 0, 0, []), (12, .nop, 2, 0, [])], [(12, .iload_n 2, 0, 0, []), (13, .ifCond .le 45, 3, 0, []), (16, .aload_n 0, 0, 0, []), (17, .getfield 9, 2, 0, [0]), (20, .aload_n 0, 0, 0, []), (21, .getfield 15, 2, 1, [0]), (24, .iload_n 2, 0, 0, []), (25, .iconst 1, 0, 0, []), (26, .isub, 0, 0, []), (27, .iaload, 0, 0, []), (28, .iaload, 0, 0, []), (29, .aload_n 0, 0, 0, []), (30, .getfield 9, 2, 0, [0]), (33, .iload_n 1, 0, 0, []), (34, .iaload, 0, 0, []), (35, .if_icmp .le 23, 3, 0, []), (38, .aload_n 0, 0, 0, []), (39, .getfield 15, 2, 1, [0]), (42, .iload_n 2, 0, 0, []), (43, .aload_n 0, 0, 0, []), (44, .getfield 15, 2, 1, [0]), (47, .iload_n 2, 0, 0, []), (48, .iconst 1, 0, 0, []), (49, .isub, 0, 0, []), (50, .iaload, 0, 0, []), (51, .iastore, 0, 0, []), (52, .iinc 2 (-1), 0, 0, []), (55, .goto (-43), 2, 0, [])], [(58, .aload_n 0, 0, 0, []), (59, .getfield 15, 2, 1, [0]), (62, .iload_n 2, 0, 0, []), (63, .iload_n 1, 0, 0, []), (64, .iastore, 0, 0, []), (65, .iinc 1 1, 0, 0, []), (68, .goto (-66), 1, 0, [])], [(71, .return_, 0, 0, [])]]
def zB_26 : mzB := [[(0, .iconst 0, 0, 0, []), (1, .istore_n 2, 0, 0, []), (2, .nop, 1, 0, [])], [(2, .iload_n 2, 0, 0, []), (3, .aload_n 0, 0, 0, []), (4, .getfield 24, 2, 2, [0]), (7, .if_icmp .ge 21, 3, 0, []), (10, .aload_n 0, 0, 0, []), (11, .getfield 15, 2, 1, [0]), (14, .iload_n 2, 0, 0, []), (15, .iaload, 0, 0, []), (16, .iload_n 1, 0, 0, []), (17, .if_icmp .ne 5, 2, 0, []), (20, .iload_n 2, 0, 0, []), (21, .ireturn, 0, 0, [])], [(22, .iinc 2 1, 0, 0, []), (25, .goto (-23), 1, 0, [])], [(28, .iconst (-1), 0, 0, []), (29, .ireturn, 0, 0, [])]]
def zB_27 : mzB := [[(0, .aload_n 0, 0, 0, []), (1, .getfield 9, 2, 0, [0]), (4, .aload_n 0, 0, 0, []), (5, .getfield 15, 2, 1, [0]), (8, .iload_n 1, 0, 0, []), (9, .iaload, 0, 0, []), (10, .iaload, 0, 0, []), (11, .ireturn, 0, 0, [])]]
def zB_28 : mzB := [[(0, .aload_n 0, 0, 0, []), (1, .invokespecial 3, 0, 0, [0]), (4, .aload_n 0, 0, 0, []), (5, .new 9, 8, 6, [0]), (8, .dup, 0, 0, []), (9, .invokespecial 11, 82, 8, [1, 6, 240]), (12, .putfield 12, 3, 0, [2]), (15, .aload_n 0, 0, 0, []), (16, .new 18, 2, 3, [0]), (19, .dup, 0, 0, []), (20, .invokespecial 20, 23, 2, [1, 2, 120]), (23, .putfield 21, 3, 1, [2]), (26, .aload_n 0, 0, 0, []), (27, .aload_n 1, 0, 0, []), (28, .putfield 25, 3, 2, [2]), (31, .aload_n 0, 0, 0, []), (32, .aload_n 1, 0, 0, []), (33, .getfield 29, 5, 4, [0]), (36, .putfield 35, 3, 3, [2]), (39, .return_, 0, 0, [])]]
def zB_29 : mzB := [[(0, .aload_n 0, 0, 0, []), (1, .iload_n 1, 0, 0, []), (2, .aload_n 0, 0, 0, []), (3, .getfield 25, 3, 2, [0]), (6, .getfield 36, 5, 0, [0]), (9, .getfield 39, 2, 2, [0]), (12, .iconst 1, 0, 0, []), (13, .isub, 0, 0, []), (14, .invokevirtual 43, 30, 3, [3, 0, 0]), (17, .pop, 0, 0, []), (18, .aload_n 0, 0, 0, []), (19, .getfield 12, 3, 0, [0]), (22, .iload_n 2, 0, 0, []), (23, .invokevirtual 47, 91, 8, [2, 0, 0]), (26, .ireturn, 0, 0, [])]]
def zB_30 : mzB := [[(0, .aload_n 0, 0, 0, []), (1, .getfield 12, 3, 0, [0]), (4, .invokevirtual 51, 83, 8, [1, 0, 0]), (7, .iconst 0, 0, 0, []), (8, .istore_n 3, 0, 0, []), (9, .iconst 0, 0, 0, []), (10, .istore 4, 0, 0, []), (12, .nop, 1, 0, [])], [(12, .iload 4, 0, 0, []), (14, .iload_n 2, 0, 0, []), (15, .if_icmp .gt 69, 3, 0, []), (18, .iload 4, 0, 0, []), (20, .aload_n 0, 0, 0, []), (21, .getfield 25, 3, 2, [0]), (24, .getfield 36, 5, 0, [0]), (27, .getfield 39, 2, 2, [0]), (30, .if_icmp .ge 54, 3, 0, []), (33, .aload_n 0, 0, 0, []), (34, .getfield 25, 3, 2, [0]), (37, .getfield 36, 5, 0, [0]), (40, .getfield 54, 2, 1, [0]), (43, .iload 4, 0, 0, []), (45, .iaload, 0, 0, []), (46, .istore 5, 0, 0, []), (48, .iload 5, 0, 0, []), (50, .iload_n 1, 0, 0, []), (51, .if_icmp .eq 27, 2, 0, []), (54, .aload_n 0, 0, 0, []), (55, .getfield 12, 3, 0, [0]), (58, .aload_n 0, 0, 0, []), (59, .getfield 35, 3, 3, [0]), (62, .iload 5, 0, 0, []), (64, .aload_n 0, 0, 0, []), (65, .getfield 35, 3, 3, [0]), (68, .getfield 58, 1, 2, [0]), (71, .iload 5, 0, 0, []), (73, .iaload, 0, 0, []), (74, .invokevirtual 63, 93, 8, [4, 0, 0]), (77, .istore_n 3, 0, 0, []), (78, .nop, 2, 0, [])], [(78, .iinc 4 1, 0, 0, []), (81, .goto (-69), 1, 0, [])], [(84, .iload_n 3, 0, 0, []), (85, .ireturn, 0, 0, [])]]
def zB_31 : mzB := [[(0, .lconst 0, 0, 0, []), (1, .lstore_n 2, 0, 0, []), (2, .aload_n 0, 0, 0, []), (3, .getfield 25, 3, 2, [0]), (6, .getfield 36, 5, 0, [0]), (9, .iload_n 1, 0, 0, []), (10, .invokevirtual 67, 26, 2, [2, 0, 0]), (13, .istore 4, 0, 0, []), (15, .iconst 0, 0, 0, []), (16, .istore 5, 0, 0, []), (18, .nop, 1, 0, [])], [(18, .iload 5, 0, 0, []), (20, .iload 4, 0, 0, []), (22, .if_icmp .ge 71, 7, 0, []), (25, .aload_n 0, 0, 0, []), (26, .getfield 25, 3, 2, [0]), (29, .getfield 36, 5, 0, [0]), (32, .getfield 54, 2, 1, [0]), (35, .iload 5, 0, 0, []), (37, .iaload, 0, 0, []), (38, .istore 6, 0, 0, []), (40, .aload_n 0, 0, 0, []), (41, .iload 6, 0, 0, []), (43, .iload 4, 0, 0, []), (45, .invokevirtual 43, 30, 3, [3, 0, 0]), (48, .ifCond .ne 7, 2, 0, []), (51, .iconst 1, 0, 0, []), (52, .goto 4, 3, 0, [])], [(55, .iconst 0, 0, 0, []), (56, .nop, 3, 0, [])], [(56, .istore 7, 0, 0, []), (58, .iload 7, 0, 0, []), (60, .aload_n 0, 0, 0, []), (61, .getfield 25, 3, 2, [0]), (64, .getfield 70, 5, 3, [0]), (67, .iload_n 1, 0, 0, []), (68, .iaload, 0, 0, []), (69, .ifCond .ne 7, 4, 0, []), (72, .iconst 1, 0, 0, []), (73, .goto 4, 5, 0, [])], [(76, .iconst 0, 0, 0, []), (77, .nop, 5, 0, [])], [(77, .if_icmp .eq 10, 6, 0, []), (80, .lload_n 2, 0, 0, []), (81, .lconst 1, 0, 0, []), (82, .iload 6, 0, 0, []), (84, .lshl, 0, 0, []), (85, .lor, 0, 0, []), (86, .lstore_n 2, 0, 0, []), (87, .nop, 6, 0, [])], [(87, .iinc 5 1, 0, 0, []), (90, .goto (-72), 1, 0, [])], [(93, .lload_n 2, 0, 0, []), (94, .lreturn, 0, 0, [])]]
def zB_32 : mzB := [[(0, .aload_n 0, 0, 0, []), (1, .getfield 21, 3, 1, [0]), (4, .aload_n 0, 0, 0, []), (5, .getfield 35, 3, 3, [0]), (8, .invokevirtual 73, 24, 2, [2, 0, 0]), (11, .aload_n 0, 0, 0, []), (12, .getfield 21, 3, 1, [0]), (15, .getfield 77, 2, 0, [0]), (18, .iload_n 1, 0, 0, []), (19, .iload_n 2, 0, 0, []), (20, .iastore, 0, 0, []), (21, .aload_n 0, 0, 0, []), (22, .iload_n 3, 0, 0, []), (23, .invokevirtual 78, 34, 3, [2, 0, 0]), (26, .ireturn, 0, 0, [])]]
def zB_33 : mzB := [[(0, .aload_n 0, 0, 0, []), (1, .getfield 21, 3, 1, [0]), (4, .aload_n 0, 0, 0, []), (5, .getfield 35, 3, 3, [0]), (8, .invokevirtual 73, 24, 2, [2, 0, 0]), (11, .aload_n 0, 0, 0, []), (12, .getfield 21, 3, 1, [0]), (15, .getfield 77, 2, 0, [0]), (18, .iload_n 1, 0, 0, []), (19, .aload_n 0, 0, 0, []), (20, .getfield 35, 3, 3, [0]), (23, .getfield 58, 1, 2, [0]), (26, .iload_n 2, 0, 0, []), (27, .iaload, 0, 0, []), (28, .iastore, 0, 0, []), (29, .aload_n 0, 0, 0, []), (30, .getfield 21, 3, 1, [0]), (33, .getfield 77, 2, 0, [0]), (36, .iload_n 2, 0, 0, []), (37, .aload_n 0, 0, 0, []), (38, .getfield 35, 3, 3, [0]), (41, .getfield 58, 1, 2, [0]), (44, .iload_n 1, 0, 0, []), (45, .iaload, 0, 0, []), (46, .iastore, 0, 0, []), (47, .aload_n 0, 0, 0, []), (48, .iload_n 3, 0, 0, []), (49, .invokevirtual 78, 34, 3, [2, 0, 0]), (52, .ireturn, 0, 0, [])]]
def zB_34 : mzB := [[(0, .aload_n 0, 0, 0, []), (1, .getfield 21, 3, 1, [0]), (4, .invokevirtual 81, 25, 2, [1, 0, 0]), (7, .aload_n 0, 0, 0, []), (8, .getfield 12, 3, 0, [0]), (11, .invokevirtual 51, 83, 8, [1, 0, 0]), (14, .iconst 0, 0, 0, []), (15, .istore_n 2, 0, 0, []), (16, .iconst 0, 0, 0, []), (17, .istore_n 3, 0, 0, []), (18, .nop, 1, 0, [])], [(18, .iload_n 3, 0, 0, []), (19, .aload_n 0, 0, 0, []), (20, .getfield 21, 3, 1, [0]), (23, .getfield 39, 2, 2, [0]), (26, .if_icmp .ge 48, 4, 0, []), (29, .iload_n 2, 0, 0, []), (30, .aload_n 0, 0, 0, []), (31, .getfield 12, 3, 0, [0]), (34, .aload_n 0, 0, 0, []), (35, .getfield 35, 3, 3, [0]), (38, .aload_n 0, 0, 0, []), (39, .getfield 21, 3, 1, [0]), (42, .getfield 54, 2, 1, [0]), (45, .iload_n 3, 0, 0, []), (46, .iaload, 0, 0, []), (47, .aload_n 0, 0, 0, []), (48, .getfield 21, 3, 1, [0]), (51, .iload_n 3, 0, 0, []), (52, .invokevirtual 84, 27, 2, [2, 0, 0]), (55, .invokevirtual 63, 93, 8, [4, 0, 0]), (58, .ifCond .eq 7, 2, 0, []), (61, .iconst 1, 0, 0, []), (62, .goto 4, 3, 0, [])], [(65, .iconst 0, 0, 0, []), (66, .nop, 3, 0, [])], [(66, .iadd, 0, 0, []), (67, .istore_n 2, 0, 0, []), (68, .iinc 3 1, 0, 0, []), (71, .goto (-53), 1, 0, [])], [(74, .iload_n 1, 0, 0, []), (75, .ifCond .ge 7, 5, 0, []), (78, .iload_n 2, 0, 0, []), (79, .goto 11, 6, 0, [])], [(82, .aload_n 0, 0, 0, []), (83, .getfield 12, 3, 0, [0]), (86, .iload_n 1, 0, 0, []), (87, .invokevirtual 47, 91, 8, [2, 0, 0]), (90, .nop, 6, 0, [])], [(90, .ireturn, 0, 0, [])]]
def zB_35 : mzB := [[(0, .aload_n 0, 0, 0, []), (1, .bipush (-2), 0, 0, []), (3, .putfield 87, 3, 4, [0]), (6, .aload_n 0, 0, 0, []), (7, .bipush (-2), 0, 0, []), (9, .putfield 90, 3, 5, [0]), (12, .aload_n 0, 0, 0, []), (13, .iconst 0, 0, 0, []), (14, .putfield 93, 3, 6, [0]), (17, .aload_n 0, 0, 0, []), (18, .getfield 12, 3, 0, [0]), (21, .invokevirtual 51, 83, 8, [1, 0, 0]), (24, .iconst 0, 0, 0, []), (25, .istore_n 2, 0, 0, []), (26, .aload_n 0, 0, 0, []), (27, .getfield 12, 3, 0, [0]), (30, .aload_n 0, 0, 0, []), (31, .getfield 35, 3, 3, [0]), (34, .iload_n 1, 0, 0, []), (35, .iconst 0, 0, 0, []), (36, .invokevirtual 96, 94, 8, [4, 0, 0]), (39, .ifCond .ne 7, 1, 0, []), (42, .iconst 1, 0, 0, []), (43, .goto 4, 2, 0, [])], [(46, .iconst 0, 0, 0, []), (47, .nop, 2, 0, [])], [(47, .istore_n 3, 0, 0, []), (48, .aload_n 0, 0, 0, []), (49, .getfield 35, 3, 3, [0]), (52, .getfield 99, 1, 3, [0]), (55, .iload_n 1, 0, 0, []), (56, .iaload, 0, 0, []), (57, .iconst 5, 0, 0, []), (58, .if_icmp .eq 17, 3, 0, []), (61, .aload_n 0, 0, 0, []), (62, .getfield 35, 3, 3, [0]), (65, .getfield 99, 1, 3, [0]), (68, .iload_n 1, 0, 0, []), (69, .iaload, 0, 0, []), (70, .bipush 6, 0, 0, []), (72, .if_icmp .ne 7, 4, 0, []), (75, .nop, 3, 0, [])], [(75, .iconst 1, 0, 0, []), (76, .goto 4, 5, 0, [])], [(79, .iconst 0, 0, 0, []), (80, .nop, 5, 0, [])], [(80, .istore 4, 0, 0, []), (82, .iconst 0, 0, 0, []), (83, .istore 5, 0, 0, []), (85, .nop, 6, 0, [])], [(85, .iload 5, 0, 0, []), (87, .sipush 999, 0, 0, []), (90, .if_icmp .gt 161, 17, 0, []), (93, .iload_n 2, 0, 0, []), (94, .istore 6, 0, 0, []), (96, .nop, 7, 0, [])], [(96, .iload_n 2, 0, 0, []), (97, .aload_n 0, 0, 0, []), (98, .getfield 25, 3, 2, [0]), (101, .getfield 36, 5, 0, [0]), (104, .getfield 39, 2, 2, [0]), (107, .if_icmp .ge 64, 9, 0, []), (110, .aload_n 0, 0, 0, []), (111, .iload_n 2, 0, 0, []), (112, .iload_n 1, 0, 0, []), (113, .iload 5, 0, 0, []), (115, .invokevirtual 102, 36, 3, [4, 0, 0]), (118, .ifCond .eq 53, 9, 0, []), (121, .aload_n 0, 0, 0, []), (122, .getfield 25, 3, 2, [0]), (125, .getfield 36, 5, 0, [0]), (128, .getfield 54, 2, 1, [0]), (131, .iload_n 2, 0, 0, []), (132, .iaload, 0, 0, []), (133, .istore 7, 0, 0, []), (135, .iload 7, 0, 0, []), (137, .iload_n 1, 0, 0, []), (138, .if_icmp .eq 27, 8, 0, []), (141, .aload_n 0, 0, 0, []), (142, .getfield 12, 3, 0, [0]), (145, .aload_n 0, 0, 0, []), (146, .getfield 35, 3, 3, [0]), (149, .iload 7, 0, 0, []), (151, .aload_n 0, 0, 0, []), (152, .getfield 35, 3, 3, [0]), (155, .getfield 58, 1, 2, [0]), (158, .iload 7, 0, 0, []), (160, .iaload, 0, 0, []), (161, .invokevirtual 63, 93, 8, [4, 0, 0]), (164, .pop, 0, 0, []), (165, .nop, 8, 0, [])], [(165, .iinc 2 1, 0, 0, []), (168, .goto (-72), 7, 0, [])], [(171, .iload_n 2, 0, 0, []), (172, .iload 6, 0, 0, []), (174, .if_icmp .ne 8, 10, 0, []), (177, .iload 4, 0, 0, []), (179, .ifCond .eq 26, 13, 0, []), (182, .nop, 10, 0, [])], [(182, .aload_n 0, 0, 0, []), (183, .getfield 12, 3, 0, [0]), (186, .aload_n 0, 0, 0, []), (187, .getfield 35, 3, 3, [0]), (190, .iload_n 1, 0, 0, []), (191, .iload 5, 0, 0, []), (193, .invokevirtual 96, 94, 8, [4, 0, 0]), (196, .ifCond .ne 7, 11, 0, []), (199, .iconst 1, 0, 0, []), (200, .goto 4, 12, 0, [])], [(203, .iconst 0, 0, 0, []), (204, .nop, 12, 0, [])], [(204, .istore_n 3, 0, 0, []), (205, .nop, 13, 0, [])], [(205, .iload_n 3, 0, 0, []), (206, .ifCond .eq 39, 16, 0, []), (209, .aload_n 0, 0, 0, []), (210, .aload_n 0, 0, 0, []), (211, .getfield 93, 3, 6, [0]), (214, .ifCond .ne 8, 14, 0, []), (217, .iload 5, 0, 0, []), (219, .goto 7, 15, 0, [])], [(222, .aload_n 0, 0, 0, []), (223, .getfield 87, 3, 4, [0]), (226, .nop, 15, 0, [])], [(226, .putfield 87, 3, 4, [0]), (229, .aload_n 0, 0, 0, []), (230, .iload 5, 0, 0, []), (232, .putfield 90, 3, 5, [0]), (235, .aload_n 0, 0, 0, []), (236, .dup, 0, 0, []), (237, .getfield 93, 3, 6, [0]), (240, .iconst 1, 0, 0, []), (241, .iadd, 0, 0, []), (242, .putfield 93, 3, 6, [0]), (245, .nop, 16, 0, [])], [(245, .iinc 5 1, 0, 0, []), (248, .goto (-163), 6, 0, [])], [(251, .return_, 0, 0, [])]]
def zB_36 : mzB := [[(0, .aload_n 0, 0, 0, []), (1, .getfield 25, 3, 2, [0]), (4, .getfield 36, 5, 0, [0]), (7, .getfield 54, 2, 1, [0]), (10, .iload_n 1, 0, 0, []), (11, .iaload, 0, 0, []), (12, .istore 4, 0, 0, []), (14, .aload_n 0, 0, 0, []), (15, .getfield 35, 3, 3, [0]), (18, .getfield 58, 1, 2, [0]), (21, .iload 4, 0, 0, []), (23, .iaload, 0, 0, []), (24, .istore 5, 0, 0, []), (26, .iload 4, 0, 0, []), (28, .iload_n 2, 0, 0, []), (29, .if_icmp .eq 21, 1, 0, []), (32, .iload 5, 0, 0, []), (34, .iload_n 3, 0, 0, []), (35, .if_icmp .lt 15, 1, 0, []), (38, .iload 5, 0, 0, []), (40, .iload_n 3, 0, 0, []), (41, .if_icmp .ne 13, 2, 0, []), (44, .iload 4, 0, 0, []), (46, .iload_n 2, 0, 0, []), (47, .if_icmp .ge 7, 2, 0, []), (50, .nop, 1, 0, [])], [(50, .iconst 1, 0, 0, []), (51, .goto 4, 3, 0, [])], [(54, .iconst 0, 0, 0, []), (55, .nop, 3, 0, [])], [(55, .ireturn, 1, 0, [])]]
def zB_37 : mzB := [[(0, .aload_n 0, 0, 0, []), (1, .invokespecial 3, 0, 0, [0]), (4, .aload_n 0, 0, 0, []), (5, .iconst (-1), 0, 0, []), (6, .putfield 9, 4, 6, [0]), (9, .aload_n 0, 0, 0, []), (10, .new 15, 7, 8, [0]), (13, .dup, 0, 0, []), (14, .aload_n 1, 0, 0, []), (15, .invokespecial 17, 72, 7, [2, 3, 2703]), (18, .putfield 20, 4, 0, [2]), (21, .aload_n 0, 0, 0, []), (22, .aload_n 2, 0, 0, []), (23, .putfield 24, 4, 1, [2]), (26, .return_, 0, 0, [])]]
def zB_38 : mzB := [[(0, .aload_n 0, 0, 0, []), (1, .getfield 20, 4, 0, [0]), (4, .iload_n 1, 0, 0, []), (5, .invokevirtual 28, 73, 7, [2, 0, 0]), (8, .aload_n 0, 0, 0, []), (9, .iconst 0, 0, 0, []), (10, .putfield 32, 4, 5, [0]), (13, .aload_n 0, 0, 0, []), (14, .iconst (-1), 0, 0, []), (15, .putfield 9, 4, 6, [0]), (18, .aload_n 0, 0, 0, []), (19, .iconst 0, 0, 0, []), (20, .putfield 35, 4, 7, [0]), (23, .aload_n 0, 0, 0, []), (24, .iconst 0, 0, 0, []), (25, .invokevirtual 38, 39, 4, [2, 0, 0]), (28, .nop, 1, 0, [])], [(28, .aload_n 0, 0, 0, []), (29, .getfield 35, 4, 7, [0]), (32, .sipush 900, 0, 0, []), (35, .if_icmp .ge 53, 3, 0, []), (38, .aload_n 0, 0, 0, []), (39, .getfield 32, 4, 5, [0]), (42, .ifCond .ne 46, 3, 0, []), (45, .aload_n 0, 0, 0, []), (46, .getfield 41, 4, 3, [0]), (49, .bipush 21, 0, 0, []), (51, .if_icmp .eq 37, 3, 0, []), (54, .iload_n 2, 0, 0, []), (55, .ifCond .eq 16, 2, 0, []), (58, .aload_n 0, 0, 0, []), (59, .getfield 41, 4, 3, [0]), (62, .iconst 3, 0, 0, []), (63, .if_icmp .eq 8, 2, 0, []), (66, .aload_n 0, 0, 0, []), (67, .iconst 1, 0, 0, []), (68, .invokevirtual 44, 40, 4, [2, 0, 0]), (71, .nop, 2, 0, [])], [(71, .aload_n 0, 0, 0, []), (72, .invokevirtual 47, 41, 4, [1, 0, 0]), (75, .aload_n 0, 0, 0, []), (76, .dup, 0, 0, []), (77, .getfield 35, 4, 7, [0]), (80, .iconst 1, 0, 0, []), (81, .iadd, 0, 0, []), (82, .putfield 35, 4, 7, [0]), (85, .goto (-57), 1, 0, [])], [(88, .aload_n 0, 0, 0, []), (89, .getfield 32, 4, 5, [0]), (92, .ifCond .ne 7, 4, 0, []), (95, .iconst 1, 0, 0, []), (96, .goto 4, 5, 0, [])], [(99, .iconst 0, 0, 0, []), (100, .nop, 5, 0, [])], [(100, .ireturn, 1, 0, [])]]
def zB_39 : mzB := [[(0, .iload_n 1, 0, 0, []), (1, .aload_n 0, 0, 0, []), (2, .getfield 20, 4, 0, [0]), (5, .getfield 50, 7, 4, [0]), (8, .if_icmp .ge 34, 1, 0, []), (11, .aload_n 0, 0, 0, []), (12, .iload_n 1, 0, 0, []), (13, .putfield 53, 4, 2, [0]), (16, .aload_n 0, 0, 0, []), (17, .aload_n 0, 0, 0, []), (18, .getfield 20, 4, 0, [0]), (21, .getfield 56, 7, 0, [0]), (24, .iload_n 1, 0, 0, []), (25, .iaload, 0, 0, []), (26, .putfield 41, 4, 3, [0]), (29, .aload_n 0, 0, 0, []), (30, .aload_n 0, 0, 0, []), (31, .getfield 20, 4, 0, [0]), (34, .getfield 60, 7, 2, [0]), (37, .iload_n 1, 0, 0, []), (38, .iaload, 0, 0, []), (39, .putfield 63, 4, 4, [0]), (42, .nop, 1, 0, [])], [(42, .return_, 0, 0, [])]]
def zB_40 : mzB := [[(0, .aload_n 0, 0, 0, []), (1, .getfield 32, 4, 5, [0]), (4, .ifCond .ne 24, 1, 0, []), (7, .aload_n 0, 0, 0, []), (8, .iload_n 1, 0, 0, []), (9, .putfield 32, 4, 5, [0]), (12, .aload_n 0, 0, 0, []), (13, .aload_n 0, 0, 0, []), (14, .getfield 20, 4, 0, [0]), (17, .getfield 66, 7, 1, [0]), (20, .aload_n 0, 0, 0, []), (21, .getfield 53, 4, 2, [0]), (24, .iaload, 0, 0, []), (25, .putfield 9, 4, 6, [0]), (28, .nop, 1, 0, [])], [(28, .return_, 0, 0, [])]]
def zB_41 : mzB := [[(0, .aload_n 0, 0, 0, []), (1, .getfield 41, 4, 3, [0]), (4, .tableswitch 60 0 3 #[32, 39, 46, 53], 5, 0, [1, 2, 3, 4])], [(36, .aload_n 0, 0, 0, []), (37, .invokevirtual 69, 42, 4, [1, 0, 0]), (40, .goto 29, 6, 0, [])], [(43, .aload_n 0, 0, 0, []), (44, .invokevirtual 72, 43, 4, [1, 0, 0]), (47, .goto 22, 6, 0, [])], [(50, .aload_n 0, 0, 0, []), (51, .invokevirtual 75, 44, 4, [1, 0, 0]), (54, .goto 15, 6, 0, [])], [(57, .aload_n 0, 0, 0, []), (58, .invokevirtual 78, 45, 4, [1, 0, 0]), (61, .goto 8, 6, 0, [])], [(64, .aload_n 0, 0, 0, []), (65, .iconst 1, 0, 0, []), (66, .invokevirtual 44, 40, 4, [2, 0, 0]), (69, .nop, 6, 0, [])], [(69, .aload_n 0, 0, 0, []), (70, .bipush 20, 0, 0, []), (72, .bipush 20, 0, 0, []), (74, .invokevirtual 81, 50, 4, [3, 0, 0]), (77, .pop, 0, 0, []), (78, .return_, 0, 0, [])]]
def zB_42 : mzB := [[(0, .aload_n 0, 0, 0, []), (1, .getfield 24, 4, 1, [0]), (4, .getfield 85, 1, 7, [0]), (7, .bipush 8, 0, 0, []), (9, .if_icmp .ne 8, 1, 0, []), (12, .aload_n 0, 0, 0, []), (13, .iconst 2, 0, 0, []), (14, .invokevirtual 44, 40, 4, [2, 0, 0]), (17, .nop, 1, 0, [])], [(17, .aload_n 0, 0, 0, []), (18, .iconst 0, 0, 0, []), (19, .iconst 0, 0, 0, []), (20, .invokevirtual 81, 50, 4, [3, 0, 0]), (23, .pop, 0, 0, []), (24, .aload_n 0, 0, 0, []), (25, .getfield 63, 4, 4, [0]), (28, .istore_n 1, 0, 0, []), (29, .aload_n 0, 0, 0, []), (30, .getfield 41, 4, 3, [0]), (33, .bipush 18, 0, 0, []), (35, .if_icmp .ne 21, 2, 0, []), (38, .aload_n 0, 0, 0, []), (39, .getfield 24, 4, 1, [0]), (42, .iload_n 1, 0, 0, []), (43, .invokevirtual 90, 13, 1, [2, 0, 0]), (46, .bipush (-2), 0, 0, []), (48, .if_icmp .eq 8, 2, 0, []), (51, .aload_n 0, 0, 0, []), (52, .iconst 3, 0, 0, []), (53, .invokevirtual 44, 40, 4, [2, 0, 0]), (56, .nop, 2, 0, [])], [(56, .aload_n 0, 0, 0, []), (57, .bipush 18, 0, 0, []), (59, .bipush 18, 0, 0, []), (61, .invokevirtual 81, 50, 4, [3, 0, 0]), (64, .pop, 0, 0, []), (65, .aload_n 0, 0, 0, []), (66, .getfield 32, 4, 5, [0]), (69, .ifCond .ne 11, 3, 0, []), (72, .aload_n 0, 0, 0, []), (73, .getfield 24, 4, 1, [0]), (76, .iload_n 1, 0, 0, []), (77, .invokevirtual 94, 14, 1, [2, 0, 0]), (80, .nop, 3, 0, [])], [(80, .return_, 0, 0, [])]]
def zB_43 : mzB := [[(0, .aload_n 0, 0, 0, []), (1, .getfield 24, 4, 1, [0]), (4, .getfield 97, 1, 8, [0]), (7, .bipush 12, 0, 0, []), (9, .if_icmp .ne 8, 1, 0, []), (12, .aload_n 0, 0, 0, []), (13, .iconst 2, 0, 0, []), (14, .invokevirtual 44, 40, 4, [2, 0, 0]), (17, .nop, 1, 0, [])], [(17, .aload_n 0, 0, 0, []), (18, .iconst 1, 0, 0, []), (19, .iconst 1, 0, 0, []), (20, .invokevirtual 81, 50, 4, [3, 0, 0]), (23, .pop, 0, 0, []), (24, .aload_n 0, 0, 0, []), (25, .iconst (-1), 0, 0, []), (26, .invokevirtual 100, 49, 4, [2, 0, 0]), (29, .istore_n 1, 0, 0, []), (30, .aload_n 0, 0, 0, []), (31, .iload_n 1, 0, 0, []), (32, .invokevirtual 100, 49, 4, [2, 0, 0]), (35, .istore_n 2, 0, 0, []), (36, .aload_n 0, 0, 0, []), (37, .iconst 1, 0, 0, []), (38, .bipush 99, 0, 0, []), (40, .invokevirtual 103, 48, 4, [3, 0, 0]), (43, .istore_n 3, 0, 0, []), (44, .aload_n 0, 0, 0, []), (45, .getfield 32, 4, 5, [0]), (48, .ifCond .ne 13, 2, 0, []), (51, .aload_n 0, 0, 0, []), (52, .getfield 24, 4, 1, [0]), (55, .iload_n 1, 0, 0, []), (56, .iload_n 2, 0, 0, []), (57, .iload_n 3, 0, 0, []), (58, .invokevirtual 106, 15, 1, [4, 0, 0]), (61, .nop, 2, 0, [])], [(61, .return_, 0, 0, [])]]
def zB_44 : mzB := [[(0, .aload_n 0, 0, 0, []), (1, .getfield 24, 4, 1, [0]), (4, .getfield 110, 1, 12, [0]), (7, .ifCond .eq 8, 1, 0, []), (10, .aload_n 0, 0, 0, []), (11, .iconst 3, 0, 0, []), (12, .invokevirtual 44, 40, 4, [2, 0, 0]), (15, .nop, 1, 0, [])], [(15, .aload_n 0, 0, 0, []), (16, .iconst 2, 0, 0, []), (17, .iconst 2, 0, 0, []), (18, .invokevirtual 81, 50, 4, [3, 0, 0]), (21, .pop, 0, 0, []), (22, .aload_n 0, 0, 0, []), (23, .iconst 1, 0, 0, []), (24, .bipush 20, 0, 0, []), (26, .invokevirtual 103, 48, 4, [3, 0, 0]), (29, .istore_n 1, 0, 0, []), (30, .aload_n 0, 0, 0, []), (31, .iconst 1, 0, 0, []), (32, .bipush 20, 0, 0, []), (34, .invokevirtual 103, 48, 4, [3, 0, 0]), (37, .istore_n 2, 0, 0, []), (38, .aload_n 0, 0, 0, []), (39, .getfield 32, 4, 5, [0]), (42, .ifCond .ne 27, 2, 0, []), (45, .aload_n 0, 0, 0, []), (46, .getfield 24, 4, 1, [0]), (49, .iload_n 1, 0, 0, []), (50, .putfield 114, 1, 10, [0]), (53, .aload_n 0, 0, 0, []), (54, .getfield 24, 4, 1, [0]), (57, .iload_n 2, 0, 0, []), (58, .putfield 117, 1, 11, [0]), (61, .aload_n 0, 0, 0, []), (62, .getfield 24, 4, 1, [0]), (65, .iconst 1, 0, 0, []), (66, .putfield 110, 1, 12, [1]), (69, .nop, 2, 0, [])], [(69, .return_, 0, 0, [])]]
def zB_45 : mzB := [[(0, .aload_n 0, 0, 0, []), (1, .getfield 24, 4, 1, [0]), (4, .getfield 120, 1, 9, [0]), (7, .bipush 60, 0, 0, []), (9, .if_icmp .ne 8, 1, 0, []), (12, .aload_n 0, 0, 0, []), (13, .iconst 2, 0, 0, []), (14, .invokevirtual 44, 40, 4, [2, 0, 0]), (17, .nop, 1, 0, [])], [(17, .aload_n 0, 0, 0, []), (18, .iconst 3, 0, 0, []), (19, .iconst 3, 0, 0, []), (20, .invokevirtual 81, 50, 4, [3, 0, 0]), (23, .pop, 0, 0, []), (24, .aload_n 0, 0, 0, []), (25, .iconst 0, 0, 0, []), (26, .sipush 999, 0, 0, []), (29, .invokevirtual 103, 48, 4, [3, 0, 0]), (32, .istore_n 1, 0, 0, []), (33, .aload_n 0, 0, 0, []), (34, .invokevirtual 121, 46, 4, [1, 0, 0]), (37, .istore_n 2, 0, 0, []), (38, .aload_n 0, 0, 0, []), (39, .iconst 0, 0, 0, []), (40, .bipush 39, 0, 0, []), (42, .invokevirtual 103, 48, 4, [3, 0, 0]), (45, .istore_n 3, 0, 0, []), (46, .iconst 0, 0, 0, []), (47, .istore 4, 0, 0, []), (49, .iload_n 2, 0, 0, []), (50, .ifCond .ne 16, 2, 0, []), (53, .iconst 0, 0, 0, []), (54, .aload_n 0, 0, 0, []), (55, .iconst 5, 0, 0, []), (56, .bipush 7, 0, 0, []), (58, .invokevirtual 81, 50, 4, [3, 0, 0]), (61, .iadd, 0, 0, []), (62, .iconst 5, 0, 0, []), (63, .isub, 0, 0, []), (64, .istore 4, 0, 0, []), (66, .nop, 2, 0, [])], [(66, .aload_n 0, 0, 0, []), (67, .iload_n 2, 0, 0, []), (68, .invokevirtual 125, 47, 4, [2, 0, 0]), (71, .istore 5, 0, 0, []), (73, .aload_n 0, 0, 0, []), (74, .getfield 32, 4, 5, [0]), (77, .ifCond .ne 17, 3, 0, []), (80, .aload_n 0, 0, 0, []), (81, .getfield 24, 4, 1, [0]), (84, .iload_n 1, 0, 0, []), (85, .iload_n 2, 0, 0, []), (86, .iload_n 3, 0, 0, []), (87, .iload 5, 0, 0, []), (89, .iload 4, 0, 0, []), (91, .invokevirtual 128, 16, 1, [6, 0, 0]), (94, .nop, 3, 0, [])], [(94, .return_, 0, 0, [])]]
def zB_46 : mzB := [[(0, .aload_n 0, 0, 0, []), (1, .getfield 41, 4, 3, [0]), (4, .iconst 4, 0, 0, []), (5, .if_icmp .ne 12, 1, 0, []), (8, .aload_n 0, 0, 0, []), (9, .iconst 4, 0, 0, []), (10, .iconst 4, 0, 0, []), (11, .invokevirtual 81, 50, 4, [3, 0, 0]), (14, .pop, 0, 0, []), (15, .iconst 0, 0, 0, []), (16, .ireturn, 0, 0, [])], [(17, .iconst 1, 0, 0, []), (18, .aload_n 0, 0, 0, []), (19, .bipush 8, 0, 0, []), (21, .bipush 17, 0, 0, []), (23, .invokevirtual 81, 50, 4, [3, 0, 0]), (26, .iadd, 0, 0, []), (27, .bipush 8, 0, 0, []), (29, .isub, 0, 0, []), (30, .ireturn, 0, 0, [])]]
def zB_47 : mzB := [[(0, .iload_n 1, 0, 0, []), (1, .tableswitch 65 0 8 #[59, 51, 65, 65, 65, 59, 59, 65, 59], 3, 0, [2, 1, 3, 3, 3, 2, 2, 3, 2])], [(52, .aload_n 0, 0, 0, []), (53, .iconst 0, 0, 0, []), (54, .bipush 39, 0, 0, []), (56, .invokevirtual 103, 48, 4, [3, 0, 0]), (59, .ireturn, 0, 0, [])], [(60, .aload_n 0, 0, 0, []), (61, .iconst (-1), 0, 0, []), (62, .invokevirtual 100, 49, 4, [2, 0, 0]), (65, .ireturn, 0, 0, [])], [(66, .bipush (-2), 0, 0, []), (68, .ireturn, 0, 0, [])]]
def zB_48 : mzB := [[(0, .aload_n 0, 0, 0, []), (1, .getfield 63, 4, 4, [0]), (4, .istore_n 3, 0, 0, []), (5, .aload_n 0, 0, 0, []), (6, .getfield 41, 4, 3, [0]), (9, .bipush 19, 0, 0, []), (11, .if_icmp .ne 18, 2, 0, []), (14, .iload_n 3, 0, 0, []), (15, .iload_n 1, 0, 0, []), (16, .if_icmp .lt 8, 1, 0, []), (19, .iload_n 3, 0, 0, []), (20, .iload_n 2, 0, 0, []), (21, .if_icmp .le 8, 2, 0, []), (24, .nop, 1, 0, [])], [(24, .aload_n 0, 0, 0, []), (25, .iconst 2, 0, 0, []), (26, .invokevirtual 44, 40, 4, [2, 0, 0]), (29, .nop, 2, 0, [])], [(29, .aload_n 0, 0, 0, []), (30, .bipush 19, 0, 0, []), (32, .bipush 19, 0, 0, []), (34, .invokevirtual 81, 50, 4, [3, 0, 0]), (37, .pop, 0, 0, []), (38, .iload_n 3, 0, 0, []), (39, .ireturn, 0, 0, [])]]
def zB_49 : mzB := [[(0, .aload_n 0, 0, 0, []), (1, .getfield 41, 4, 3, [0]), (4, .bipush 18, 0, 0, []), (6, .if_icmp .ne 17, 1, 0, []), (9, .aload_n 0, 0, 0, []), (10, .getfield 24, 4, 1, [0]), (13, .aload_n 0, 0, 0, []), (14, .getfield 63, 4, 4, [0]), (17, .invokevirtual 90, 13, 1, [2, 0, 0]), (20, .goto 5, 2, 0, [])], [(23, .bipush (-2), 0, 0, []), (25, .nop, 2, 0, [])], [(25, .istore_n 2, 0, 0, []), (26, .iload_n 2, 0, 0, []), (27, .bipush (-2), 0, 0, []), (29, .if_icmp .ne 11, 3, 0, []), (32, .aload_n 0, 0, 0, []), (33, .iconst 1, 0, 0, []), (34, .invokevirtual 44, 40, 4, [2, 0, 0]), (37, .goto 13, 4, 0, [])], [(40, .iload_n 2, 0, 0, []), (41, .iload_n 1, 0, 0, []), (42, .if_icmp .ne 8, 4, 0, []), (45, .aload_n 0, 0, 0, []), (46, .iconst 3, 0, 0, []), (47, .invokevirtual 44, 40, 4, [2, 0, 0]), (50, .nop, 4, 0, [])], [(50, .aload_n 0, 0, 0, []), (51, .bipush 18, 0, 0, []), (53, .bipush 18, 0, 0, []), (55, .invokevirtual 81, 50, 4, [3, 0, 0]), (58, .pop, 0, 0, []), (59, .iload_n 2, 0, 0, []), (60, .ireturn, 0, 0, [])]]
def zB_50 : mzB := [[(0, .aload_n 0, 0, 0, []), (1, .getfield 41, 4, 3, [0]), (4, .istore_n 3, 0, 0, []), (5, .iload_n 3, 0, 0, []), (6, .iload_n 1, 0, 0, []), (7, .if_icmp .lt 8, 1, 0, []), (10, .iload_n 3, 0, 0, []), (11, .iload_n 2, 0, 0, []), (12, .if_icmp .le 8, 2, 0, []), (15, .nop, 1, 0, [])], [(15, .aload_n 0, 0, 0, []), (16, .iconst 1, 0, 0, []), (17, .invokevirtual 44, 40, 4, [2, 0, 0]), (20, .nop, 2, 0, [])], [(20, .aload_n 0, 0, 0, []), (21, .getfield 32, 4, 5, [0]), (24, .ifCond .eq 5, 3, 0, []), (27, .iload_n 1, 0, 0, []), (28, .ireturn, 0, 0, [])], [(29, .aload_n 0, 0, 0, []), (30, .aload_n 0, 0, 0, []), (31, .getfield 53, 4, 2, [0]), (34, .iconst 1, 0, 0, []), (35, .iadd, 0, 0, []), (36, .invokevirtual 38, 39, 4, [2, 0, 0]), (39, .iload_n 3, 0, 0, []), (40, .ireturn, 0, 0, [])]]
def zB_51 : mzB := [[(0, .aload_n 0, 0, 0, []), (1, .invokespecial 3, 0, 0, [0]), (4, .aload_n 0, 0, 0, []), (5, .new 9, 2, 3, [0]), (8, .dup, 0, 0, []), (9, .invokespecial 11, 23, 2, [1, 2, 120]), (12, .putfield 12, 5, 0, [2]), (15, .aload_n 0, 0, 0, []), (16, .new 18, 8, 6, [0]), (19, .dup, 0, 0, []), (20, .invokespecial 20, 82, 8, [1, 6, 240]), (23, .putfield 21, 5, 1, [2]), (26, .aload_n 0, 0, 0, []), (27, .new 18, 8, 6, [0]), (30, .dup, 0, 0, []), (31, .invokespecial 20, 82, 8, [1, 6, 240]), (34, .putfield 25, 5, 2, [2]), (37, .aload_n 0, 0, 0, []), (38, .bipush 60, 0, 0, []), (40, .newarray .int, 0, 0, [0]), (42, .putfield 28, 5, 3, [2]), (45, .aload_n 0, 0, 0, []), (46, .aload_n 1, 0, 0, []), (47, .putfield 32, 5, 4, [2]), (50, .return_, 0, 0, [])]]
def zB_52 : mzB := [[(0, .aload_n 0, 0, 0, []), (1, .getfield 12, 5, 0, [0]), (4, .aload_n 0, 0, 0, []), (5, .getfield 32, 5, 4, [0]), (8, .invokevirtual 36, 24, 2, [2, 0, 0]), (11, .aload_n 0, 0, 0, []), (12, .getfield 12, 5, 0, [0]), (15, .invokevirtual 40, 25, 2, [1, 0, 0]), (18, .aload_n 0, 0, 0, []), (19, .getfield 21, 5, 1, [0]), (22, .invokevirtual 43, 83, 8, [1, 0, 0]), (25, .iconst 0, 0, 0, []), (26, .istore_n 1, 0, 0, []), (27, .nop, 1, 0, [])], [(27, .iload_n 1, 0, 0, []), (28, .aload_n 0, 0, 0, []), (29, .getfield 12, 5, 0, [0]), (32, .getfield 46, 2, 2, [0]), (35, .if_icmp .ge 28, 2, 0, []), (38, .aload_n 0, 0, 0, []), (39, .getfield 28, 5, 3, [0]), (42, .aload_n 0, 0, 0, []), (43, .getfield 12, 5, 0, [0]), (46, .getfield 50, 2, 1, [0]), (49, .iload_n 1, 0, 0, []), (50, .iaload, 0, 0, []), (51, .aload_n 0, 0, 0, []), (52, .iload_n 1, 0, 0, []), (53, .invokevirtual 53, 53, 5, [2, 0, 0]), (56, .iastore, 0, 0, []), (57, .iinc 1 1, 0, 0, []), (60, .goto (-33), 1, 0, [])], [(63, .return_, 0, 0, [])]]
def zB_53 : mzB := [[(0, .aload_n 0, 0, 0, []), (1, .getfield 21, 5, 1, [0]), (4, .aload_n 0, 0, 0, []), (5, .getfield 32, 5, 4, [0]), (8, .aload_n 0, 0, 0, []), (9, .getfield 12, 5, 0, [0]), (12, .getfield 50, 2, 1, [0]), (15, .iload_n 1, 0, 0, []), (16, .iaload, 0, 0, []), (17, .aload_n 0, 0, 0, []), (18, .getfield 12, 5, 0, [0]), (21, .iload_n 1, 0, 0, []), (22, .invokevirtual 57, 27, 2, [2, 0, 0]), (25, .invokevirtual 60, 93, 8, [4, 0, 0]), (28, .ireturn, 0, 0, [])]]
def zB_54 : mzB := [[(0, .aload_n 0, 0, 0, []), (1, .getfield 21, 5, 1, [0]), (4, .invokevirtual 43, 83, 8, [1, 0, 0]), (7, .iconst 0, 0, 0, []), (8, .istore_n 2, 0, 0, []), (9, .nop, 1, 0, [])], [(9, .iload_n 2, 0, 0, []), (10, .aload_n 0, 0, 0, []), (11, .getfield 12, 5, 0, [0]), (14, .getfield 46, 2, 2, [0]), (17, .if_icmp .ge 50, 2, 0, []), (20, .aload_n 0, 0, 0, []), (21, .getfield 12, 5, 0, [0]), (24, .iload_n 2, 0, 0, []), (25, .invokevirtual 57, 27, 2, [2, 0, 0]), (28, .iload_n 1, 0, 0, []), (29, .if_icmp .gt 38, 2, 0, []), (32, .aload_n 0, 0, 0, []), (33, .getfield 21, 5, 1, [0]), (36, .aload_n 0, 0, 0, []), (37, .getfield 32, 5, 4, [0]), (40, .aload_n 0, 0, 0, []), (41, .getfield 12, 5, 0, [0]), (44, .getfield 50, 2, 1, [0]), (47, .iload_n 2, 0, 0, []), (48, .iaload, 0, 0, []), (49, .aload_n 0, 0, 0, []), (50, .getfield 12, 5, 0, [0]), (53, .iload_n 2, 0, 0, []), (54, .invokevirtual 57, 27, 2, [2, 0, 0]), (57, .invokevirtual 60, 93, 8, [4, 0, 0]), (60, .pop, 0, 0, []), (61, .iinc 2 1, 0, 0, []), (64, .goto (-55), 1, 0, [])], [(67, .iload_n 2, 0, 0, []), (68, .ireturn, 0, 0, [])]]
def zB_55 : mzB := [[(0, .aload_n 0, 0, 0, []), (1, .iload_n 1, 0, 0, []), (2, .invokevirtual 64, 54, 5, [2, 0, 0]), (5, .pop, 0, 0, []), (6, .aload_n 0, 0, 0, []), (7, .getfield 21, 5, 1, [0]), (10, .areturn, 0, 0, [])]]
def zB_56 : mzB := [[(0, .aload_n 0, 0, 0, []), (1, .getfield 21, 5, 1, [0]), (4, .invokevirtual 43, 83, 8, [1, 0, 0]), (7, .iconst 0, 0, 0, []), (8, .istore_n 2, 0, 0, []), (9, .nop, 1, 0, [])], [(9, .iload_n 2, 0, 0, []), (10, .aload_n 0, 0, 0, []), (11, .getfield 12, 5, 0, [0]), (14, .getfield 46, 2, 2, [0]), (17, .if_icmp .ge 28, 3, 0, []), (20, .aload_n 0, 0, 0, []), (21, .getfield 12, 5, 0, [0]), (24, .getfield 50, 2, 1, [0]), (27, .iload_n 2, 0, 0, []), (28, .iaload, 0, 0, []), (29, .iload_n 1, 0, 0, []), (30, .if_icmp .ge 9, 2, 0, []), (33, .aload_n 0, 0, 0, []), (34, .iload_n 2, 0, 0, []), (35, .invokevirtual 53, 53, 5, [2, 0, 0]), (38, .pop, 0, 0, []), (39, .nop, 2, 0, [])], [(39, .iinc 2 1, 0, 0, []), (42, .goto (-33), 1, 0, [])], [(45, .aload_n 0, 0, 0, []), (46, .getfield 21, 5, 1, [0]), (49, .areturn, 0, 0, [])]]
def zB_57 : mzB := [[(0, .aload_n 0, 0, 0, []), (1, .getfield 25, 5, 2, [0]), (4, .aload_n 0, 0, 0, []), (5, .iload_n 1, 0, 0, []), (6, .invokevirtual 67, 56, 5, [2, 0, 0]), (9, .invokevirtual 71, 84, 8, [2, 0, 0]), (12, .aload_n 0, 0, 0, []), (13, .iload_n 1, 0, 0, []), (14, .iconst 1, 0, 0, []), (15, .iadd, 0, 0, []), (16, .invokevirtual 67, 56, 5, [2, 0, 0]), (19, .pop, 0, 0, []), (20, .iconst 0, 0, 0, []), (21, .istore_n 2, 0, 0, []), (22, .iconst 0, 0, 0, []), (23, .istore_n 3, 0, 0, []), (24, .nop, 1, 0, [])], [(24, .iload_n 3, 0, 0, []), (25, .bipush 40, 0, 0, []), (27, .if_icmp .ge 36, 4, 0, []), (30, .iload_n 2, 0, 0, []), (31, .aload_n 0, 0, 0, []), (32, .getfield 25, 5, 2, [0]), (35, .iload_n 3, 0, 0, []), (36, .invokevirtual 75, 91, 8, [2, 0, 0]), (39, .aload_n 0, 0, 0, []), (40, .getfield 21, 5, 1, [0]), (43, .iload_n 3, 0, 0, []), (44, .invokevirtual 75, 91, 8, [2, 0, 0]), (47, .if_icmp .eq 7, 2, 0, []), (50, .iconst 1, 0, 0, []), (51, .goto 4, 3, 0, [])], [(54, .iconst 0, 0, 0, []), (55, .nop, 3, 0, [])], [(55, .iadd, 0, 0, []), (56, .istore_n 2, 0, 0, []), (57, .iinc 3 1, 0, 0, []), (60, .goto (-36), 1, 0, [])], [(63, .iload_n 2, 0, 0, []), (64, .ireturn, 0, 0, [])]]
def zB_58 : mzB := [[(0, .iconst 0, 0, 0, []), (1, .istore_n 2, 0, 0, []), (2, .iconst 0, 0, 0, []), (3, .istore_n 3, 0, 0, []), (4, .nop, 1, 0, [])], [(4, .iload_n 3, 0, 0, []), (5, .aload_n 0, 0, 0, []), (6, .getfield 12, 5, 0, [0]), (9, .getfield 46, 2, 2, [0]), (12, .if_icmp .ge 41, 5, 0, []), (15, .iload_n 2, 0, 0, []), (16, .iload_n 1, 0, 0, []), (17, .aload_n 0, 0, 0, []), (18, .getfield 28, 5, 3, [0]), (21, .iload_n 3, 0, 0, []), (22, .iaload, 0, 0, []), (23, .if_icmp .eq 17, 2, 0, []), (26, .iload_n 1, 0, 0, []), (27, .iconst (-1), 0, 0, []), (28, .if_icmp .ne 16, 3, 0, []), (31, .aload_n 0, 0, 0, []), (32, .getfield 28, 5, 3, [0]), (35, .iload_n 3, 0, 0, []), (36, .iaload, 0, 0, []), (37, .ifCond .eq 7, 3, 0, []), (40, .nop, 2, 0, [])], [(40, .iconst 1, 0, 0, []), (41, .goto 4, 4, 0, [])], [(44, .iconst 0, 0, 0, []), (45, .nop, 4, 0, [])], [(45, .iadd, 0, 0, []), (46, .istore_n 2, 0, 0, []), (47, .iinc 3 1, 0, 0, []), (50, .goto (-46), 1, 0, [])], [(53, .iload_n 2, 0, 0, []), (54, .ireturn, 0, 0, [])]]
def zB_59 : mzB := [[(0, .aload_n 0, 0, 0, []), (1, .getfield 21, 5, 1, [0]), (4, .invokevirtual 43, 83, 8, [1, 0, 0]), (7, .bipush (-2), 0, 0, []), (9, .istore 4, 0, 0, []), (11, .iconst 0, 0, 0, []), (12, .istore 5, 0, 0, []), (14, .iconst 0, 0, 0, []), (15, .istore 6, 0, 0, []), (17, .nop, 1, 0, [])], [(17, .iload 6, 0, 0, []), (19, .aload_n 0, 0, 0, []), (20, .getfield 12, 5, 0, [0]), (23, .getfield 46, 2, 2, [0]), (26, .if_icmp .ge 67, 6, 0, []), (29, .aload_n 0, 0, 0, []), (30, .iload 6, 0, 0, []), (32, .invokevirtual 53, 53, 5, [2, 0, 0]), (35, .pop, 0, 0, []), (36, .aload_n 0, 0, 0, []), (37, .getfield 21, 5, 1, [0]), (40, .iload_n 1, 0, 0, []), (41, .invokevirtual 75, 91, 8, [2, 0, 0]), (44, .iload 4, 0, 0, []), (46, .if_icmp .eq 41, 5, 0, []), (49, .aload_n 0, 0, 0, []), (50, .getfield 21, 5, 1, [0]), (53, .iload_n 1, 0, 0, []), (54, .invokevirtual 75, 91, 8, [2, 0, 0]), (57, .istore 4, 0, 0, []), (59, .iload 5, 0, 0, []), (61, .iload_n 2, 0, 0, []), (62, .if_icmp .ne 22, 4, 0, []), (65, .iload_n 3, 0, 0, []), (66, .ifCond .eq 8, 2, 0, []), (69, .iload 4, 0, 0, []), (71, .goto 12, 3, 0, [])], [(74, .aload_n 0, 0, 0, []), (75, .getfield 12, 5, 0, [0]), (78, .iload 6, 0, 0, []), (80, .invokevirtual 57, 27, 2, [2, 0, 0]), (83, .nop, 3, 0, [])], [(83, .ireturn, 0, 0, [])], [(84, .iinc 5 1, 0, 0, []), (87, .nop, 5, 0, [])], [(87, .iinc 6 1, 0, 0, []), (90, .goto (-73), 1, 0, [])], [(93, .bipush (-2), 0, 0, []), (95, .ireturn, 0, 0, [])]]
def zB_60 : mzB := [[(0, .aload_n 0, 0, 0, []), (1, .getfield 21, 5, 1, [0]), (4, .invokevirtual 43, 83, 8, [1, 0, 0]), (7, .bipush (-2), 0, 0, []), (9, .istore_n 3, 0, 0, []), (10, .iconst 0, 0, 0, []), (11, .istore 4, 0, 0, []), (13, .iconst 0, 0, 0, []), (14, .istore 5, 0, 0, []), (16, .iconst 0, 0, 0, []), (17, .istore 6, 0, 0, []), (19, .nop, 1, 0, [])], [(19, .iload 6, 0, 0, []), (21, .aload_n 0, 0, 0, []), (22, .getfield 12, 5, 0, [0]), (25, .getfield 46, 2, 2, [0]), (28, .if_icmp .ge 74, 5, 0, []), (31, .aload_n 0, 0, 0, []), (32, .iload 6, 0, 0, []), (34, .invokevirtual 53, 53, 5, [2, 0, 0]), (37, .pop, 0, 0, []), (38, .aload_n 0, 0, 0, []), (39, .getfield 21, 5, 1, [0]), (42, .iload_n 1, 0, 0, []), (43, .invokevirtual 75, 91, 8, [2, 0, 0]), (46, .iload_n 3, 0, 0, []), (47, .if_icmp .eq 49, 4, 0, []), (50, .iload 5, 0, 0, []), (52, .iload_n 3, 0, 0, []), (53, .iload_n 2, 0, 0, []), (54, .if_icmp .ne 18, 2, 0, []), (57, .aload_n 0, 0, 0, []), (58, .getfield 12, 5, 0, [0]), (61, .iload 6, 0, 0, []), (63, .invokevirtual 57, 27, 2, [2, 0, 0]), (66, .iload 4, 0, 0, []), (68, .isub, 0, 0, []), (69, .goto 4, 3, 0, [])], [(72, .iconst 0, 0, 0, []), (73, .nop, 3, 0, [])], [(73, .iadd, 0, 0, []), (74, .istore 5, 0, 0, []), (76, .aload_n 0, 0, 0, []), (77, .getfield 21, 5, 1, [0]), (80, .iload_n 1, 0, 0, []), (81, .invokevirtual 75, 91, 8, [2, 0, 0]), (84, .istore_n 3, 0, 0, []), (85, .aload_n 0, 0, 0, []), (86, .getfield 12, 5, 0, [0]), (89, .iload 6, 0, 0, []), (91, .invokevirtual 57, 27, 2, [2, 0, 0]), (94, .istore 4, 0, 0, []), (96, .nop, 4, 0, [])], [(96, .iinc 6 1, 0, 0, []), (99, .goto (-80), 1, 0, [])], [(102, .iload_n 3, 0, 0, []), (103, .iload_n 2, 0, 0, []), (104, .if_icmp .ne 19, 6, 0, []), (107, .iload 5, 0, 0, []), (109, .aload_n 0, 0, 0, []), (110, .getfield 32, 5, 4, [0]), (113, .invokevirtual 78, 22, 1, [1, 0, 0]), (116, .iadd, 0, 0, []), (117, .iload 4, 0, 0, []), (119, .isub, 0, 0, []), (120, .goto 5, 7, 0, [])], [(123, .iload 5, 0, 0, []), (125, .nop, 7, 0, [])], [(125, .ireturn, 0, 0, [])]]
def zB_61 : mzB := [[(0, .aload_n 0, 0, 0, []), (1, .getfield 21, 5, 1, [0]), (4, .invokevirtual 43, 83, 8, [1, 0, 0]), (7, .iconst 0, 0, 0, []), (8, .istore_n 3, 0, 0, []), (9, .iconst 0, 0, 0, []), (10, .istore 4, 0, 0, []), (12, .nop, 1, 0, [])], [(12, .iload 4, 0, 0, []), (14, .aload_n 0, 0, 0, []), (15, .getfield 12, 5, 0, [0]), (18, .getfield 46, 2, 2, [0]), (21, .if_icmp .ge 43, 2, 0, []), (24, .aload_n 0, 0, 0, []), (25, .getfield 21, 5, 1, [0]), (28, .iload_n 1, 0, 0, []), (29, .invokevirtual 84, 105, 8, [2, 0, 0]), (32, .lstore 5, 0, 0, []), (34, .aload_n 0, 0, 0, []), (35, .iload 4, 0, 0, []), (37, .invokevirtual 53, 53, 5, [2, 0, 0]), (40, .pop, 0, 0, []), (41, .iload_n 3, 0, 0, []), (42, .lload 5, 0, 0, []), (44, .aload_n 0, 0, 0, []), (45, .getfield 21, 5, 1, [0]), (48, .iload_n 2, 0, 0, []), (49, .invokevirtual 84, 105, 8, [2, 0, 0]), (52, .land, 0, 0, []), (53, .invokestatic 88, 253, 11, [1, 0, 0]), (56, .iadd, 0, 0, []), (57, .istore_n 3, 0, 0, []), (58, .iinc 4 1, 0, 0, []), (61, .goto (-49), 1, 0, [])], [(64, .iload_n 3, 0, 0, []), (65, .ireturn, 0, 0, [])]]
def zB_62 : mzB := [[(0, .aload_n 0, 0, 0, []), (1, .getfield 21, 5, 1, [0]), (4, .invokevirtual 43, 83, 8, [1, 0, 0]), (7, .bipush (-2), 0, 0, []), (9, .istore_n 2, 0, 0, []), (10, .iconst 0, 0, 0, []), (11, .istore_n 3, 0, 0, []), (12, .iconst 0, 0, 0, []), (13, .istore 4, 0, 0, []), (15, .nop, 1, 0, [])], [(15, .iload 4, 0, 0, []), (17, .aload_n 0, 0, 0, []), (18, .getfield 12, 5, 0, [0]), (21, .getfield 46, 2, 2, [0]), (24, .if_icmp .ge 51, 3, 0, []), (27, .aload_n 0, 0, 0, []), (28, .iload 4, 0, 0, []), (30, .invokevirtual 53, 53, 5, [2, 0, 0]), (33, .pop, 0, 0, []), (34, .aload_n 0, 0, 0, []), (35, .getfield 21, 5, 1, [0]), (38, .iload_n 1, 0, 0, []), (39, .invokevirtual 75, 91, 8, [2, 0, 0]), (42, .istore 5, 0, 0, []), (44, .iload 5, 0, 0, []), (46, .ifCond .lt 23, 2, 0, []), (49, .iload_n 3, 0, 0, []), (50, .iconst 0, 0, 0, []), (51, .aload_n 0, 0, 0, []), (52, .getfield 32, 5, 4, [0]), (55, .iload_n 2, 0, 0, []), (56, .iload 5, 0, 0, []), (58, .invokevirtual 94, 17, 1, [3, 0, 0]), (61, .invokestatic 98, 0, 0, [1]), (64, .iadd, 0, 0, []), (65, .istore_n 3, 0, 0, []), (66, .iload 5, 0, 0, []), (68, .istore_n 2, 0, 0, []), (69, .nop, 2, 0, [])], [(69, .iinc 4 1, 0, 0, []), (72, .goto (-57), 1, 0, [])], [(75, .aload_n 0, 0, 0, []), (76, .getfield 21, 5, 1, [0]), (79, .iload_n 1, 0, 0, []), (80, .invokevirtual 103, 88, 8, [2, 0, 0]), (83, .ifCond .eq 7, 4, 0, []), (86, .iload_n 3, 0, 0, []), (87, .goto 5, 5, 0, [])], [(90, .bipush (-2), 0, 0, []), (92, .nop, 5, 0, [])], [(92, .ireturn, 0, 0, [])]]
def zB_63 : mzB := [[(0, .aload_n 0, 0, 0, []), (1, .getfield 21, 5, 1, [0]), (4, .invokevirtual 43, 83, 8, [1, 0, 0]), (7, .iconst (-1), 0, 0, []), (8, .istore_n 3, 0, 0, []), (9, .bipush (-2), 0, 0, []), (11, .istore 4, 0, 0, []), (13, .iconst 0, 0, 0, []), (14, .istore 5, 0, 0, []), (16, .nop, 1, 0, [])], [(16, .iload 5, 0, 0, []), (18, .aload_n 0, 0, 0, []), (19, .getfield 12, 5, 0, [0]), (22, .getfield 46, 2, 2, [0]), (25, .if_icmp .ge 49, 3, 0, []), (28, .aload_n 0, 0, 0, []), (29, .iload 5, 0, 0, []), (31, .invokevirtual 53, 53, 5, [2, 0, 0]), (34, .pop, 0, 0, []), (35, .aload_n 0, 0, 0, []), (36, .getfield 21, 5, 1, [0]), (39, .iload_n 1, 0, 0, []), (40, .invokevirtual 84, 105, 8, [2, 0, 0]), (43, .invokestatic 88, 253, 11, [1, 0, 0]), (46, .istore 6, 0, 0, []), (48, .iload 6, 0, 0, []), (50, .iload_n 3, 0, 0, []), (51, .if_icmp .le 17, 2, 0, []), (54, .iload 6, 0, 0, []), (56, .istore_n 3, 0, 0, []), (57, .aload_n 0, 0, 0, []), (58, .getfield 12, 5, 0, [0]), (61, .iload 5, 0, 0, []), (63, .invokevirtual 57, 27, 2, [2, 0, 0]), (66, .istore 4, 0, 0, []), (68, .nop, 2, 0, [])], [(68, .iinc 5 1, 0, 0, []), (71, .goto (-55), 1, 0, [])], [(74, .iload_n 2, 0, 0, []), (75, .ifCond .eq 11, 4, 0, []), (78, .iconst 0, 0, 0, []), (79, .iload_n 3, 0, 0, []), (80, .invokestatic 98, 0, 0, [1]), (83, .goto 5, 5, 0, [])], [(86, .iload 4, 0, 0, []), (88, .nop, 5, 0, [])], [(88, .ireturn, 0, 0, [])]]
def zB_64 : mzB := [[(0, .aload_n 0, 0, 0, []), (1, .iload_n 2, 0, 0, []), (2, .invokevirtual 64, 54, 5, [2, 0, 0]), (5, .istore_n 3, 0, 0, []), (6, .aload_n 0, 0, 0, []), (7, .getfield 21, 5, 1, [0]), (10, .iload_n 1, 0, 0, []), (11, .invokevirtual 103, 88, 8, [2, 0, 0]), (14, .ifCond .eq 15, 1, 0, []), (17, .aload_n 0, 0, 0, []), (18, .getfield 21, 5, 1, [0]), (21, .iload_n 1, 0, 0, []), (22, .iconst 4, 0, 0, []), (23, .invokevirtual 107, 85, 8, [3, 0, 0]), (26, .ifCond .eq 5, 2, 0, []), (29, .nop, 1, 0, [])], [(29, .lconst 0, 0, 0, []), (30, .lreturn, 0, 0, [])], [(31, .aload_n 0, 0, 0, []), (32, .getfield 21, 5, 1, [0]), (35, .lconst 1, 0, 0, []), (36, .iload_n 1, 0, 0, []), (37, .lshl, 0, 0, []), (38, .invokevirtual 111, 107, 8, [2, 0, 0]), (41, .lstore 4, 0, 0, []), (43, .iload_n 3, 0, 0, []), (44, .istore 6, 0, 0, []), (46, .nop, 3, 0, [])], [(46, .iload 6, 0, 0, []), (48, .aload_n 0, 0, 0, []), (49, .getfield 12, 5, 0, [0]), (52, .getfield 46, 2, 2, [0]), (55, .if_icmp .ge 27, 4, 0, []), (58, .aload_n 0, 0, 0, []), (59, .iload 6, 0, 0, []), (61, .invokevirtual 53, 53, 5, [2, 0, 0]), (64, .pop, 0, 0, []), (65, .aload_n 0, 0, 0, []), (66, .getfield 21, 5, 1, [0]), (69, .lload 4, 0, 0, []), (71, .invokevirtual 111, 107, 8, [2, 0, 0]), (74, .lstore 4, 0, 0, []), (76, .iinc 6 1, 0, 0, []), (79, .goto (-33), 3, 0, [])], [(82, .lload 4, 0, 0, []), (84, .lreturn, 0, 0, [])]]
def zB_65 : mzB := [[(0, .aload_n 0, 0, 0, []), (1, .iload_n 2, 0, 0, []), (2, .invokevirtual 64, 54, 5, [2, 0, 0]), (5, .istore 4, 0, 0, []), (7, .aload_n 0, 0, 0, []), (8, .getfield 21, 5, 1, [0]), (11, .iload_n 1, 0, 0, []), (12, .invokevirtual 115, 104, 8, [2, 0, 0]), (15, .lstore 5, 0, 0, []), (17, .iload 4, 0, 0, []), (19, .istore 7, 0, 0, []), (21, .nop, 1, 0, [])], [(21, .iload 7, 0, 0, []), (23, .aload_n 0, 0, 0, []), (24, .getfield 12, 5, 0, [0]), (27, .getfield 46, 2, 2, [0]), (30, .if_icmp .ge 42, 2, 0, []), (33, .aload_n 0, 0, 0, []), (34, .getfield 12, 5, 0, [0]), (37, .iload 7, 0, 0, []), (39, .invokevirtual 57, 27, 2, [2, 0, 0]), (42, .iload_n 3, 0, 0, []), (43, .if_icmp .gt 29, 2, 0, []), (46, .aload_n 0, 0, 0, []), (47, .iload 7, 0, 0, []), (49, .invokevirtual 53, 53, 5, [2, 0, 0]), (52, .pop, 0, 0, []), (53, .lload 5, 0, 0, []), (55, .aload_n 0, 0, 0, []), (56, .getfield 21, 5, 1, [0]), (59, .iload_n 1, 0, 0, []), (60, .invokevirtual 115, 104, 8, [2, 0, 0]), (63, .lor, 0, 0, []), (64, .lstore 5, 0, 0, []), (66, .iinc 7 1, 0, 0, []), (69, .goto (-48), 1, 0, [])], [(72, .lload 5, 0, 0, []), (74, .lreturn, 0, 0, [])]]
def zB_66 : mzB := [[(0, .aload_n 0, 0, 0, []), (1, .getfield 21, 5, 1, [0]), (4, .invokevirtual 43, 83, 8, [1, 0, 0]), (7, .iconst 0, 0, 0, []), (8, .istore_n 2, 0, 0, []), (9, .iconst 0, 0, 0, []), (10, .istore_n 3, 0, 0, []), (11, .nop, 1, 0, [])], [(11, .iload_n 3, 0, 0, []), (12, .aload_n 0, 0, 0, []), (13, .getfield 12, 5, 0, [0]), (16, .getfield 46, 2, 2, [0]), (19, .if_icmp .ge 31, 2, 0, []), (22, .aload_n 0, 0, 0, []), (23, .iload_n 3, 0, 0, []), (24, .invokevirtual 53, 53, 5, [2, 0, 0]), (27, .pop, 0, 0, []), (28, .iload_n 2, 0, 0, []), (29, .aload_n 0, 0, 0, []), (30, .getfield 21, 5, 1, [0]), (33, .iload_n 1, 0, 0, []), (34, .invokevirtual 115, 104, 8, [2, 0, 0]), (37, .invokestatic 88, 253, 11, [1, 0, 0]), (40, .invokestatic 98, 0, 0, [1]), (43, .istore_n 2, 0, 0, []), (44, .iinc 3 1, 0, 0, []), (47, .goto (-36), 1, 0, [])], [(50, .aload_n 0, 0, 0, []), (51, .getfield 21, 5, 1, [0]), (54, .iload_n 1, 0, 0, []), (55, .invokevirtual 103, 88, 8, [2, 0, 0]), (58, .ifCond .eq 7, 3, 0, []), (61, .iload_n 2, 0, 0, []), (62, .goto 5, 4, 0, [])], [(65, .bipush (-2), 0, 0, []), (67, .nop, 4, 0, [])], [(67, .ireturn, 0, 0, [])]]
def zB_67 : mzB := [[(0, .aload_n 0, 0, 0, []), (1, .getfield 21, 5, 1, [0]), (4, .invokevirtual 43, 83, 8, [1, 0, 0]), (7, .bipush (-2), 0, 0, []), (9, .istore_n 3, 0, 0, []), (10, .iconst 0, 0, 0, []), (11, .istore 4, 0, 0, []), (13, .nop, 1, 0, [])], [(13, .iload 4, 0, 0, []), (15, .aload_n 0, 0, 0, []), (16, .getfield 12, 5, 0, [0]), (19, .getfield 46, 2, 2, [0]), (22, .if_icmp .ge 86, 4, 0, []), (25, .aload_n 0, 0, 0, []), (26, .getfield 12, 5, 0, [0]), (29, .iload 4, 0, 0, []), (31, .invokevirtual 57, 27, 2, [2, 0, 0]), (34, .iload_n 2, 0, 0, []), (35, .if_icmp .gt 73, 4, 0, []), (38, .aload_n 0, 0, 0, []), (39, .getfield 21, 5, 1, [0]), (42, .iload_n 1, 0, 0, []), (43, .invokevirtual 115, 104, 8, [2, 0, 0]), (46, .lstore 5, 0, 0, []), (48, .aload_n 0, 0, 0, []), (49, .getfield 21, 5, 1, [0]), (52, .iload_n 1, 0, 0, []), (53, .invokevirtual 103, 88, 8, [2, 0, 0]), (56, .istore 7, 0, 0, []), (58, .aload_n 0, 0, 0, []), (59, .iload 4, 0, 0, []), (61, .invokevirtual 53, 53, 5, [2, 0, 0]), (64, .pop, 0, 0, []), (65, .aload_n 0, 0, 0, []), (66, .getfield 21, 5, 1, [0]), (69, .iload_n 1, 0, 0, []), (70, .invokevirtual 115, 104, 8, [2, 0, 0]), (73, .lload 5, 0, 0, []), (75, .lcmp, 0, 0, []), (76, .ifCond .ne 16, 2, 0, []), (79, .aload_n 0, 0, 0, []), (80, .getfield 21, 5, 1, [0]), (83, .iload_n 1, 0, 0, []), (84, .invokevirtual 103, 88, 8, [2, 0, 0]), (87, .iload 7, 0, 0, []), (89, .if_icmp .eq 13, 3, 0, []), (92, .nop, 2, 0, [])], [(92, .aload_n 0, 0, 0, []), (93, .getfield 12, 5, 0, [0]), (96, .iload 4, 0, 0, []), (98, .invokevirtual 57, 27, 2, [2, 0, 0]), (101, .istore_n 3, 0, 0, []), (102, .nop, 3, 0, [])], [(102, .iinc 4 1, 0, 0, []), (105, .goto (-92), 1, 0, [])], [(108, .aload_n 0, 0, 0, []), (109, .getfield 21, 5, 1, [0]), (112, .iload_n 1, 0, 0, []), (113, .iconst 4, 0, 0, []), (114, .invokevirtual 107, 85, 8, [3, 0, 0]), (117, .ifCond .eq 8, 5, 0, []), (120, .bipush (-4), 0, 0, []), (122, .goto 4, 6, 0, [])], [(125, .iload_n 3, 0, 0, []), (126, .nop, 6, 0, [])], [(126, .ireturn, 0, 0, [])]]
def zB_68 : mzB := [[(0, .iconst 0, 0, 0, []), (1, .istore_n 3, 0, 0, []), (2, .iconst 0, 0, 0, []), (3, .istore 4, 0, 0, []), (5, .nop, 1, 0, [])], [(5, .iload 4, 0, 0, []), (7, .aload_n 0, 0, 0, []), (8, .getfield 12, 5, 0, [0]), (11, .getfield 46, 2, 2, [0]), (14, .if_icmp .ge 97, 7, 0, []), (17, .aload_n 0, 0, 0, []), (18, .getfield 12, 5, 0, [0]), (21, .getfield 50, 2, 1, [0]), (24, .iload 4, 0, 0, []), (26, .iaload, 0, 0, []), (27, .istore 5, 0, 0, []), (29, .aload_n 0, 0, 0, []), (30, .getfield 28, 5, 3, [0]), (33, .iload 5, 0, 0, []), (35, .iaload, 0, 0, []), (36, .bipush 6, 0, 0, []), (38, .if_icmp .eq 15, 2, 0, []), (41, .aload_n 0, 0, 0, []), (42, .getfield 28, 5, 3, [0]), (45, .iload 5, 0, 0, []), (47, .iaload, 0, 0, []), (48, .bipush 10, 0, 0, []), (50, .if_icmp .ne 7, 3, 0, []), (53, .nop, 2, 0, [])], [(53, .iconst 1, 0, 0, []), (54, .goto 4, 4, 0, [])], [(57, .iconst 0, 0, 0, []), (58, .nop, 4, 0, [])], [(58, .istore 6, 0, 0, []), (60, .aload_n 0, 0, 0, []), (61, .getfield 32, 5, 4, [0]), (64, .getfield 118, 1, 3, [0]), (67, .iload 5, 0, 0, []), (69, .iaload, 0, 0, []), (70, .bipush 6, 0, 0, []), (72, .if_icmp .ne 33, 6, 0, []), (75, .aload_n 0, 0, 0, []), (76, .getfield 32, 5, 4, [0]), (79, .getfield 121, 1, 4, [0]), (82, .iload 5, 0, 0, []), (84, .iaload, 0, 0, []), (85, .iload_n 1, 0, 0, []), (86, .if_icmp .ne 19, 6, 0, []), (89, .iload 6, 0, 0, []), (91, .ifCond .eq 14, 6, 0, []), (94, .iload_n 3, 0, 0, []), (95, .iload_n 2, 0, 0, []), (96, .if_icmp .ne 6, 5, 0, []), (99, .iload 5, 0, 0, []), (101, .ireturn, 0, 0, [])], [(102, .iinc 3 1, 0, 0, []), (105, .nop, 6, 0, [])], [(105, .iinc 4 1, 0, 0, []), (108, .goto (-103), 1, 0, [])], [(111, .bipush (-2), 0, 0, []), (113, .ireturn, 0, 0, [])]]
def zB_69 : mzB := [[(0, .aload_n 0, 0, 0, []), (1, .invokespecial 3, 0, 0, [0]), (4, .aload_n 0, 0, 0, []), (5, .sipush 900, 0, 0, []), (8, .newarray .byte, 2, 0, [0]), (10, .putfield 9, 6, 0, [2]), (13, .return_, 0, 0, [])]]
def zB_70 : mzB := [[(0, .aload_n 0, 0, 0, []), (1, .getfield 15, 6, 1, [0]), (4, .iload_n 1, 0, 0, []), (5, .iadd, 0, 0, []), (6, .sipush 900, 0, 0, []), (9, .if_icmp .gt 7, 1, 0, []), (12, .iconst 1, 0, 0, []), (13, .goto 4, 2, 0, [])], [(16, .iconst 0, 0, 0, []), (17, .nop, 2, 0, [])], [(17, .ireturn, 1, 0, [])]]
def zB_71 : mzB := [[(0, .bipush 24, 0, 0, []), (2, .istore_n 2, 0, 0, []), (3, .nop, 1, 0, [])], [(3, .iload_n 2, 0, 0, []), (4, .ifCond .lt 42, 2, 0, []), (7, .aload_n 0, 0, 0, []), (8, .getfield 15, 6, 1, [0]), (11, .sipush 900, 0, 0, []), (14, .if_icmp .ge 32, 2, 0, []), (17, .aload_n 0, 0, 0, []), (18, .getfield 9, 6, 0, [0]), (21, .aload_n 0, 0, 0, []), (22, .getfield 15, 6, 1, [0]), (25, .iload_n 1, 0, 0, []), (26, .iload_n 2, 0, 0, []), (27, .iushr, 0, 0, []), (28, .i2b, 0, 0, []), (29, .bastore, 0, 0, []), (30, .aload_n 0, 0, 0, []), (31, .dup, 0, 0, []), (32, .getfield 15, 6, 1, [0]), (35, .iconst 1, 0, 0, []), (36, .iadd, 0, 0, []), (37, .putfield 15, 6, 1, [0]), (40, .iinc 2 (-8), 0, 0, []), (43, .goto (-40), 1, 0, [])], [(46, .return_, 0, 0, [])]]
def zB_72 : mzB := [[(0, .aload_n 0, 0, 0, []), (1, .invokespecial 3, 0, 0, [0]), (4, .aload_n 0, 0, 0, []), (5, .sipush 901, 0, 0, []), (8, .newarray .int, 0, 0, [0]), (10, .putfield 9, 7, 0, [2]), (13, .aload_n 0, 0, 0, []), (14, .sipush 901, 0, 0, []), (17, .newarray .int, 0, 0, [0]), (19, .putfield 15, 7, 1, [2]), (22, .aload_n 0, 0, 0, []), (23, .sipush 901, 0, 0, []), (26, .newarray .int, 0, 0, [0]), (28, .putfield 18, 7, 2, [2]), (31, .aload_n 0, 0, 0, []), (32, .aload_n 1, 0, 0, []), (33, .putfield 21, 7, 3, [2]), (36, .return_, 0, 0, [])]]
def zB_73 : mzB := [[(0, .aload_n 0, 0, 0, []), (1, .iconst 0, 0, 0, []), (2, .iload_n 1, 0, 0, []), (3, .aload_n 0, 0, 0, []), (4, .getfield 21, 7, 3, [0]), (7, .getfield 25, 6, 1, [0]), (10, .invokestatic 31, 0, 0, [2]), (13, .invokestatic 37, 0, 0, [1]), (16, .putfield 40, 7, 5, [0]), (19, .aload_n 0, 0, 0, []), (20, .iconst 0, 0, 0, []), (21, .putfield 43, 7, 6, [0]), (24, .aload_n 0, 0, 0, []), (25, .iconst 0, 0, 0, []), (26, .putfield 46, 7, 4, [0]), (29, .aload_n 0, 0, 0, []), (30, .invokevirtual 47, 75, 7, [1, 0, 0]), (33, .iconst 0, 0, 0, []), (34, .istore_n 2, 0, 0, []), (35, .nop, 1, 0, [])], [(35, .iload_n 2, 0, 0, []), (36, .sipush 900, 0, 0, []), (39, .if_icmp .ge 47, 2, 0, []), (42, .aload_n 0, 0, 0, []), (43, .getfield 43, 7, 6, [0]), (46, .aload_n 0, 0, 0, []), (47, .getfield 40, 7, 5, [0]), (50, .if_icmp .ge 36, 2, 0, []), (53, .aload_n 0, 0, 0, []), (54, .getfield 43, 7, 6, [0]), (57, .istore_n 3, 0, 0, []), (58, .aload_n 0, 0, 0, []), (59, .iconst 0, 0, 0, []), (60, .putfield 50, 7, 7, [0]), (63, .aload_n 0, 0, 0, []), (64, .invokevirtual 53, 76, 7, [1, 0, 0]), (67, .istore 4, 0, 0, []), (69, .aload_n 0, 0, 0, []), (70, .iload 4, 0, 0, []), (72, .iload_n 3, 0, 0, []), (73, .invokevirtual 57, 74, 7, [3, 0, 0]), (76, .aload_n 0, 0, 0, []), (77, .invokevirtual 47, 75, 7, [1, 0, 0]), (80, .iinc 2 1, 0, 0, []), (83, .goto (-48), 1, 0, [])], [(86, .aload_n 0, 0, 0, []), (87, .iconst 0, 0, 0, []), (88, .putfield 50, 7, 7, [0]), (91, .aload_n 0, 0, 0, []), (92, .bipush 21, 0, 0, []), (94, .aload_n 0, 0, 0, []), (95, .getfield 40, 7, 5, [0]), (98, .invokevirtual 57, 74, 7, [3, 0, 0]), (101, .return_, 0, 0, [])]]
def zB_74 : mzB := [[(0, .aload_n 0, 0, 0, []), (1, .getfield 46, 7, 4, [0]), (4, .aload_n 0, 0, 0, []), (5, .getfield 9, 7, 0, [0]), (8, .arraylength, 0, 0, []), (9, .if_icmp .ge 46, 1, 0, []), (12, .aload_n 0, 0, 0, []), (13, .getfield 9, 7, 0, [0]), (16, .aload_n 0, 0, 0, []), (17, .getfield 46, 7, 4, [0]), (20, .iload_n 1, 0, 0, []), (21, .iastore, 0, 0, []), (22, .aload_n 0, 0, 0, []), (23, .getfield 15, 7, 1, [0]), (26, .aload_n 0, 0, 0, []), (27, .getfield 46, 7, 4, [0]), (30, .iload_n 2, 0, 0, []), (31, .iastore, 0, 0, []), (32, .aload_n 0, 0, 0, []), (33, .getfield 18, 7, 2, [0]), (36, .aload_n 0, 0, 0, []), (37, .getfield 46, 7, 4, [0]), (40, .aload_n 0, 0, 0, []), (41, .getfield 50, 7, 7, [0]), (44, .iastore, 0, 0, []), (45, .aload_n 0, 0, 0, []), (46, .dup, 0, 0, []), (47, .getfield 46, 7, 4, [0]), (50, .iconst 1, 0, 0, []), (51, .iadd, 0, 0, []), (52, .putfield 46, 7, 4, [0]), (55, .nop, 1, 0, [])], [(55, .return_, 0, 0, [])]]
def zB_75 : mzB := [[(0, .aload_n 0, 0, 0, []), (1, .getfield 43, 7, 6, [0]), (4, .aload_n 0, 0, 0, []), (5, .getfield 40, 7, 5, [0]), (8, .if_icmp .ge 50, 2, 0, []), (11, .aload_n 0, 0, 0, []), (12, .getfield 21, 7, 3, [0]), (15, .getfield 61, 6, 0, [0]), (18, .aload_n 0, 0, 0, []), (19, .getfield 43, 7, 6, [0]), (22, .baload, 0, 0, []), (23, .bipush 10, 0, 0, []), (25, .if_icmp .eq 20, 1, 0, []), (28, .aload_n 0, 0, 0, []), (29, .getfield 21, 7, 3, [0]), (32, .getfield 61, 6, 0, [0]), (35, .aload_n 0, 0, 0, []), (36, .getfield 43, 7, 6, [0]), (39, .baload, 0, 0, []), (40, .bipush 32, 0, 0, []), (42, .if_icmp .ne 16, 2, 0, []), (45, .nop, 1, 0, [])], [(45, .aload_n 0, 0, 0, []), (46, .dup, 0, 0, []), (47, .getfield 43, 7, 6, [0]), (50, .iconst 1, 0, 0, []), (51, .iadd, 0, 0, []), (52, .putfield 43, 7, 6, [0]), (55, .goto (-55), 0, 0, [])], [(58, .return_, 0, 0, [])]]
def zB_76 : mzB := [[(0, .aload_n 0, 0, 0, []), (1, .invokevirtual 65, 79, 7, [1, 0, 0]), (4, .ifCond .eq 8, 1, 0, []), (7, .aload_n 0, 0, 0, []), (8, .invokevirtual 69, 77, 7, [1, 0, 0]), (11, .ireturn, 0, 0, [])], [(12, .aload_n 0, 0, 0, []), (13, .invokevirtual 72, 80, 7, [1, 0, 0]), (16, .ifCond .eq 10, 2, 0, []), (19, .aload_n 0, 0, 0, []), (20, .invokevirtual 75, 78, 7, [1, 0, 0]), (23, .bipush 19, 0, 0, []), (25, .ireturn, 0, 0, [])], [(26, .aload_n 0, 0, 0, []), (27, .dup, 0, 0, []), (28, .getfield 43, 7, 6, [0]), (31, .iconst 1, 0, 0, []), (32, .iadd, 0, 0, []), (33, .putfield 43, 7, 6, [0]), (36, .aload_n 0, 0, 0, []), (37, .getfield 21, 7, 3, [0]), (40, .getfield 61, 6, 0, [0]), (43, .aload_n 0, 0, 0, []), (44, .getfield 43, 7, 6, [0]), (47, .iconst 1, 0, 0, []), (48, .isub, 0, 0, []), (49, .baload, 0, 0, []), (50, .bipush 59, 0, 0, []), (52, .if_icmp .ne 8, 3, 0, []), (55, .bipush 20, 0, 0, []), (57, .goto 5, 4, 0, [])], [(60, .bipush 22, 0, 0, []), (62, .nop, 4, 0, [])], [(62, .ireturn, 0, 0, [])]]
def zB_77 : mzB := [[(0, .aload_n 0, 0, 0, []), (1, .getfield 43, 7, 6, [0]), (4, .istore_n 1, 0, 0, []), (5, .nop, 1, 0, [])], [(5, .aload_n 0, 0, 0, []), (6, .getfield 43, 7, 6, [0]), (9, .aload_n 0, 0, 0, []), (10, .getfield 40, 7, 5, [0]), (13, .if_icmp .ge 51, 2, 0, []), (16, .aload_n 0, 0, 0, []), (17, .invokevirtual 65, 79, 7, [1, 0, 0]), (20, .ifCond .eq 44, 2, 0, []), (23, .aload_n 0, 0, 0, []), (24, .aload_n 0, 0, 0, []), (25, .getfield 50, 7, 7, [0]), (28, .iconst 5, 0, 0, []), (29, .ishl, 0, 0, []), (30, .aload_n 0, 0, 0, []), (31, .getfield 21, 7, 3, [0]), (34, .getfield 61, 6, 0, [0]), (37, .aload_n 0, 0, 0, []), (38, .getfield 43, 7, 6, [0]), (41, .baload, 0, 0, []), (42, .iadd, 0, 0, []), (43, .bipush 97, 0, 0, []), (45, .isub, 0, 0, []), (46, .iconst 1, 0, 0, []), (47, .iadd, 0, 0, []), (48, .putfield 50, 7, 7, [0]), (51, .aload_n 0, 0, 0, []), (52, .dup, 0, 0, []), (53, .getfield 43, 7, 6, [0]), (56, .iconst 1, 0, 0, []), (57, .iadd, 0, 0, []), (58, .putfield 43, 7, 6, [0]), (61, .goto (-56), 1, 0, [])], [(64, .aload_n 0, 0, 0, []), (65, .getfield 43, 7, 6, [0]), (68, .iload_n 1, 0, 0, []), (69, .isub, 0, 0, []), (70, .bipush 6, 0, 0, []), (72, .if_icmp .le 8, 3, 0, []), (75, .bipush 22, 0, 0, []), (77, .goto 7, 4, 0, [])], [(80, .aload_n 0, 0, 0, []), (81, .invokevirtual 78, 81, 7, [1, 0, 0]), (84, .nop, 4, 0, [])], [(84, .ireturn, 0, 0, [])]]
def zB_78 : mzB := [[(0, .aload_n 0, 0, 0, []), (1, .getfield 43, 7, 6, [0]), (4, .aload_n 0, 0, 0, []), (5, .getfield 40, 7, 5, [0]), (8, .if_icmp .ge 55, 1, 0, []), (11, .aload_n 0, 0, 0, []), (12, .invokevirtual 72, 80, 7, [1, 0, 0]), (15, .ifCond .eq 48, 1, 0, []), (18, .aload_n 0, 0, 0, []), (19, .aload_n 0, 0, 0, []), (20, .getfield 50, 7, 7, [0]), (23, .bipush 10, 0, 0, []), (25, .imul, 0, 0, []), (26, .aload_n 0, 0, 0, []), (27, .getfield 21, 7, 3, [0]), (30, .getfield 61, 6, 0, [0]), (33, .aload_n 0, 0, 0, []), (34, .getfield 43, 7, 6, [0]), (37, .baload, 0, 0, []), (38, .iadd, 0, 0, []), (39, .bipush 48, 0, 0, []), (41, .isub, 0, 0, []), (42, .ldc 81, 100000, 0, [0]), (44, .invokestatic 31, 0, 0, [2]), (47, .putfield 50, 7, 7, [0]), (50, .aload_n 0, 0, 0, []), (51, .dup, 0, 0, []), (52, .getfield 43, 7, 6, [0]), (55, .iconst 1, 0, 0, []), (56, .iadd, 0, 0, []), (57, .putfield 43, 7, 6, [0]), (60, .goto (-60), 0, 0, [])], [(63, .return_, 0, 0, [])]]
def zB_79 : mzB := [[(0, .aload_n 0, 0, 0, []), (1, .getfield 21, 7, 3, [0]), (4, .getfield 61, 6, 0, [0]), (7, .aload_n 0, 0, 0, []), (8, .getfield 43, 7, 6, [0]), (11, .baload, 0, 0, []), (12, .bipush 97, 0, 0, []), (14, .if_icmp .lt 24, 1, 0, []), (17, .aload_n 0, 0, 0, []), (18, .getfield 21, 7, 3, [0]), (21, .getfield 61, 6, 0, [0]), (24, .aload_n 0, 0, 0, []), (25, .getfield 43, 7, 6, [0]), (28, .baload, 0, 0, []), (29, .bipush 122, 0, 0, []), (31, .if_icmp .gt 7, 1, 0, []), (34, .iconst 1, 0, 0, []), (35, .goto 4, 2, 0, [])], [(38, .iconst 0, 0, 0, []), (39, .nop, 2, 0, [])], [(39, .ireturn, 1, 0, [])]]
def zB_80 : mzB := [[(0, .aload_n 0, 0, 0, []), (1, .getfield 21, 7, 3, [0]), (4, .getfield 61, 6, 0, [0]), (7, .aload_n 0, 0, 0, []), (8, .getfield 43, 7, 6, [0]), (11, .baload, 0, 0, []), (12, .bipush 48, 0, 0, []), (14, .if_icmp .lt 24, 1, 0, []), (17, .aload_n 0, 0, 0, []), (18, .getfield 21, 7, 3, [0]), (21, .getfield 61, 6, 0, [0]), (24, .aload_n 0, 0, 0, []), (25, .getfield 43, 7, 6, [0]), (28, .baload, 0, 0, []), (29, .bipush 57, 0, 0, []), (31, .if_icmp .gt 7, 1, 0, []), (34, .iconst 1, 0, 0, []), (35, .goto 4, 2, 0, [])], [(38, .iconst 0, 0, 0, []), (39, .nop, 2, 0, [])], [(39, .ireturn, 1, 0, [])]]
def zB_81 : mzB := [[(0, .iconst 0, 0, 0, []), (1, .istore_n 1, 0, 0, []), (2, .iconst 0, 0, 0, []), (3, .istore_n 2, 0, 0, []), (4, .iconst 0, 0, 0, []), (5, .istore_n 3, 0, 0, []), (6, .nop, 1, 0, [])], [(6, .iload_n 3, 0, 0, []), (7, .ldc 82, 0, 84, [0, 0]), (12, .if_icmp .ge 54, 5, 0, []), (15, .ldc 82, 0, 89, [0, 3, 0]), (21, .istore 4, 0, 0, []), (23, .iload 4, 0, 0, []), (25, .bipush 32, 0, 0, []), (27, .if_icmp .eq 18, 2, 0, []), (30, .iload_n 2, 0, 0, []), (31, .iconst 5, 0, 0, []), (32, .ishl, 0, 0, []), (33, .iload 4, 0, 0, []), (35, .iadd, 0, 0, []), (36, .bipush 97, 0, 0, []), (38, .isub, 0, 0, []), (39, .iconst 1, 0, 0, []), (40, .iadd, 0, 0, []), (41, .istore_n 2, 0, 0, []), (42, .goto 18, 4, 0, [])], [(45, .iload_n 2, 0, 0, []), (46, .aload_n 0, 0, 0, []), (47, .getfield 50, 7, 7, [0]), (50, .if_icmp .ne 5, 3, 0, []), (53, .iload_n 1, 0, 0, []), (54, .ireturn, 0, 0, [])], [(55, .iinc 1 1, 0, 0, []), (58, .iconst 0, 0, 0, []), (59, .istore_n 2, 0, 0, []), (60, .nop, 4, 0, [])], [(60, .iinc 3 1, 0, 0, []), (63, .goto (-57), 1, 0, [])], [(66, .bipush 18, 0, 0, []), (68, .ireturn, 0, 0, [])]]
def zB_82 : mzB := [[(0, .aload_n 0, 0, 0, []), (1, .invokespecial 3, 0, 0, [0]), (4, .aload_n 0, 0, 0, []), (5, .bipush 40, 0, 0, []), (7, .newarray .int, 0, 0, [0]), (9, .putfield 9, 8, 0, [2]), (12, .aload_n 0, 0, 0, []), (13, .bipush 40, 0, 0, []), (15, .newarray .int, 0, 0, [0]), (17, .putfield 15, 8, 1, [2]), (20, .aload_n 0, 0, 0, []), (21, .bipush 40, 0, 0, []), (23, .newarray .int, 0, 0, [0]), (25, .putfield 18, 8, 2, [2]), (28, .aload_n 0, 0, 0, []), (29, .bipush 40, 0, 0, []), (31, .newarray .int, 0, 0, [0]), (33, .putfield 21, 8, 3, [2]), (36, .aload_n 0, 0, 0, []), (37, .bipush 40, 0, 0, []), (39, .newarray .int, 0, 0, [0]), (41, .putfield 24, 8, 4, [2]), (44, .aload_n 0, 0, 0, []), (45, .bipush 40, 0, 0, []), (47, .newarray .int, 0, 0, [0]), (49, .putfield 27, 8, 5, [2]), (52, .return_, 0, 0, [])]]
def zB_83 : mzB := [[(0, .aload_n 0, 0, 0, []), (1, .getfield 9, 8, 0, [0]), (4, .iconst (-1), 0, 0, []), (5, .invokestatic 30, 254, 12, [2, 0, 0]), (8, .aload_n 0, 0, 0, []), (9, .getfield 15, 8, 1, [0]), (12, .bipush (-5), 0, 0, []), (14, .invokestatic 30, 254, 12, [2, 0, 0]), (17, .aload_n 0, 0, 0, []), (18, .getfield 18, 8, 2, [0]), (21, .iconst (-1), 0, 0, []), (22, .invokestatic 30, 254, 12, [2, 0, 0]), (25, .aload_n 0, 0, 0, []), (26, .getfield 21, 8, 3, [0]), (29, .iconst 0, 0, 0, []), (30, .invokestatic 30, 254, 12, [2, 0, 0]), (33, .aload_n 0, 0, 0, []), (34, .getfield 24, 8, 4, [0]), (37, .bipush (-5), 0, 0, []), (39, .invokestatic 30, 254, 12, [2, 0, 0]), (42, .aload_n 0, 0, 0, []), (43, .getfield 27, 8, 5, [0]), (46, .iconst 0, 0, 0, []), (47, .invokestatic 30, 254, 12, [2, 0, 0]), (50, .return_, 0, 0, [])]]
def zB_84 : mzB := [[(0, .aload_n 1, 0, 0, []), (1, .getfield 9, 8, 0, [0]), (4, .iconst 0, 0, 0, []), (5, .aload_n 0, 0, 0, []), (6, .getfield 9, 8, 0, [0]), (9, .iconst 0, 0, 0, []), (10, .bipush 40, 0, 0, []), (12, .invokestatic 36, 0, 0, [0]), (15, .aload_n 1, 0, 0, []), (16, .getfield 15, 8, 1, [0]), (19, .iconst 0, 0, 0, []), (20, .aload_n 0, 0, 0, []), (21, .getfield 15, 8, 1, [0]), (24, .iconst 0, 0, 0, []), (25, .bipush 40, 0, 0, []), (27, .invokestatic 36, 0, 0, [0]), (30, .aload_n 1, 0, 0, []), (31, .getfield 18, 8, 2, [0]), (34, .iconst 0, 0, 0, []), (35, .aload_n 0, 0, 0, []), (36, .getfield 18, 8, 2, [0]), (39, .iconst 0, 0, 0, []), (40, .bipush 40, 0, 0, []), (42, .invokestatic 36, 0, 0, [0]), (45, .aload_n 1, 0, 0, []), (46, .getfield 21, 8, 3, [0]), (49, .iconst 0, 0, 0, []), (50, .aload_n 0, 0, 0, []), (51, .getfield 21, 8, 3, [0]), (54, .iconst 0, 0, 0, []), (55, .bipush 40, 0, 0, []), (57, .invokestatic 36, 0, 0, [0]), (60, .aload_n 1, 0, 0, []), (61, .getfield 24, 8, 4, [0]), (64, .iconst 0, 0, 0, []), (65, .aload_n 0, 0, 0, []), (66, .getfield 24, 8, 4, [0]), (69, .iconst 0, 0, 0, []), (70, .bipush 40, 0, 0, []), (72, .invokestatic 36, 0, 0, [0]), (75, .aload_n 1, 0, 0, []), (76, .getfield 27, 8, 5, [0]), (79, .iconst 0, 0, 0, []), (80, .aload_n 0, 0, 0, []), (81, .getfield 27, 8, 5, [0]), (84, .iconst 0, 0, 0, []), (85, .bipush 40, 0, 0, []), (87, .invokestatic 36, 0, 0, [0]), (90, .return_, 0, 0, [])]]
def zB_85 : mzB := [[(0, .aload_n 0, 0, 0, []), (1, .getfield 27, 8, 5, [0]), (4, .iload_n 1, 0, 0, []), (5, .iaload, 0, 0, []), (6, .iload_n 2, 0, 0, []), (7, .iand, 0, 0, []), (8, .ifCond .eq 7, 1, 0, []), (11, .iconst 1, 0, 0, []), (12, .goto 4, 2, 0, [])], [(15, .iconst 0, 0, 0, []), (16, .nop, 2, 0, [])], [(16, .ireturn, 1, 0, [])]]
def zB_86 : mzB := [[(0, .aload_n 0, 0, 0, []), (1, .getfield 27, 8, 5, [0]), (4, .iload_n 1, 0, 0, []), (5, .dup2, 0, 0, []), (6, .iaload, 0, 0, []), (7, .iload_n 2, 0, 0, []), (8, .ior, 0, 0, []), (9, .iastore, 0, 0, []), (10, .return_, 0, 0, [])]]
def zB_87 : mzB := [[(0, .aload_n 0, 0, 0, []), (1, .getfield 27, 8, 5, [0]), (4, .iload_n 1, 0, 0, []), (5, .dup2, 0, 0, []), (6, .iaload, 0, 0, []), (7, .iload_n 2, 0, 0, []), (8, .iconst (-1), 0, 0, []), (9, .ixor, 0, 0, []), (10, .iand, 0, 0, []), (11, .iastore, 0, 0, []), (12, .return_, 0, 0, [])]]
def zB_88 : mzB := [[(0, .aload_n 0, 0, 0, []), (1, .getfield 9, 8, 0, [0]), (4, .iload_n 1, 0, 0, []), (5, .iaload, 0, 0, []), (6, .iconst (-1), 0, 0, []), (7, .if_icmp .eq 7, 1, 0, []), (10, .iconst 1, 0, 0, []), (11, .goto 4, 2, 0, [])], [(14, .iconst 0, 0, 0, []), (15, .nop, 2, 0, [])], [(15, .ireturn, 1, 0, [])]]
def zB_89 : mzB := [[(0, .iload_n 1, 0, 0, []), (1, .istore_n 2, 0, 0, []), (2, .iconst 0, 0, 0, []), (3, .istore_n 3, 0, 0, []), (4, .nop, 1, 0, [])], [(4, .iload_n 3, 0, 0, []), (5, .iconst 2, 0, 0, []), (6, .if_icmp .ge 25, 2, 0, []), (9, .aload_n 0, 0, 0, []), (10, .getfield 15, 8, 1, [0]), (13, .iload_n 2, 0, 0, []), (14, .iaload, 0, 0, []), (15, .ifCond .lt 16, 2, 0, []), (18, .aload_n 0, 0, 0, []), (19, .getfield 15, 8, 1, [0]), (22, .iload_n 2, 0, 0, []), (23, .iaload, 0, 0, []), (24, .istore_n 2, 0, 0, []), (25, .iinc 3 1, 0, 0, []), (28, .goto (-24), 1, 0, [])], [(31, .iload_n 2, 0, 0, []), (32, .ireturn, 0, 0, [])]]
def zB_90 : mzB := [[(0, .aload_n 0, 0, 0, []), (1, .getfield 15, 8, 1, [0]), (4, .iload_n 1, 0, 0, []), (5, .iaload, 0, 0, []), (6, .istore_n 3, 0, 0, []), (7, .iconst 0, 0, 0, []), (8, .istore 4, 0, 0, []), (10, .nop, 1, 0, [])], [(10, .iload 4, 0, 0, []), (12, .iconst 2, 0, 0, []), (13, .if_icmp .ge 27, 3, 0, []), (16, .iload_n 3, 0, 0, []), (17, .ifCond .lt 23, 3, 0, []), (20, .iload_n 3, 0, 0, []), (21, .iload_n 2, 0, 0, []), (22, .if_icmp .ne 5, 2, 0, []), (25, .iconst 1, 0, 0, []), (26, .ireturn, 1, 0, [])], [(27, .aload_n 0, 0, 0, []), (28, .getfield 15, 8, 1, [0]), (31, .iload_n 3, 0, 0, []), (32, .iaload, 0, 0, []), (33, .istore_n 3, 0, 0, []), (34, .iinc 4 1, 0, 0, []), (37, .goto (-27), 1, 0, [])], [(40, .iconst 0, 0, 0, []), (41, .ireturn, 1, 0, [])]]
def zB_91 : mzB := [[(0, .aload_n 0, 0, 0, []), (1, .iload_n 1, 0, 0, []), (2, .invokevirtual 42, 88, 8, [2, 0, 0]), (5, .ifCond .ne 6, 1, 0, []), (8, .bipush (-2), 0, 0, []), (10, .ireturn, 0, 0, [])], [(11, .aload_n 0, 0, 0, []), (12, .iload_n 1, 0, 0, []), (13, .iconst 4, 0, 0, []), (14, .invokevirtual 46, 85, 8, [3, 0, 0]), (17, .ifCond .eq 6, 2, 0, []), (20, .bipush (-4), 0, 0, []), (22, .ireturn, 0, 0, [])], [(23, .aload_n 0, 0, 0, []), (24, .iload_n 1, 0, 0, []), (25, .invokevirtual 50, 89, 8, [2, 0, 0]), (28, .istore_n 2, 0, 0, []), (29, .aload_n 0, 0, 0, []), (30, .iload_n 2, 0, 0, []), (31, .iconst 2, 0, 0, []), (32, .invokevirtual 46, 85, 8, [3, 0, 0]), (35, .ifCond .eq 8, 3, 0, []), (38, .bipush (-3), 0, 0, []), (40, .goto 9, 4, 0, [])], [(43, .aload_n 0, 0, 0, []), (44, .getfield 18, 8, 2, [0]), (47, .iload_n 2, 0, 0, []), (48, .iaload, 0, 0, []), (49, .nop, 4, 0, [])], [(49, .ireturn, 0, 0, [])]]
def zB_92 : mzB := [[(0, .aload_n 0, 0, 0, []), (1, .getfield 21, 8, 3, [0]), (4, .aload_n 0, 0, 0, []), (5, .iload_n 1, 0, 0, []), (6, .invokevirtual 50, 89, 8, [2, 0, 0]), (9, .iaload, 0, 0, []), (10, .ireturn, 0, 0, [])]]
def zB_93 : mzB := [[(0, .aload_n 0, 0, 0, []), (1, .aload_n 1, 0, 0, []), (2, .iload_n 2, 0, 0, []), (3, .iload_n 3, 0, 0, []), (4, .invokevirtual 54, 94, 8, [4, 0, 0]), (7, .istore 4, 0, 0, []), (9, .aload_n 1, 0, 0, []), (10, .getfield 58, 1, 4, [0]), (13, .iload_n 2, 0, 0, []), (14, .iaload, 0, 0, []), (15, .istore 5, 0, 0, []), (17, .aload_n 1, 0, 0, []), (18, .getfield 63, 1, 3, [0]), (21, .iload_n 2, 0, 0, []), (22, .iaload, 0, 0, []), (23, .istore 6, 0, 0, []), (25, .iload 4, 0, 0, []), (27, .ifCond .ne 13, 1, 0, []), (30, .aload_n 0, 0, 0, []), (31, .aload_n 1, 0, 0, []), (32, .iload_n 2, 0, 0, []), (33, .iload_n 3, 0, 0, []), (34, .invokevirtual 66, 98, 8, [4, 0, 0]), (37, .goto 58, 4, 0, [])], [(40, .iload 6, 0, 0, []), (42, .ifCond .ne 24, 2, 0, []), (45, .aload_n 0, 0, 0, []), (46, .iload 5, 0, 0, []), (48, .iconst 4, 0, 0, []), (49, .invokevirtual 46, 85, 8, [3, 0, 0]), (52, .ifCond .ne 14, 2, 0, []), (55, .aload_n 0, 0, 0, []), (56, .iload 5, 0, 0, []), (58, .bipush 8, 0, 0, []), (60, .invokevirtual 70, 86, 8, [3, 0, 0]), (63, .goto 32, 4, 0, [])], [(66, .iload 6, 0, 0, []), (68, .bipush 6, 0, 0, []), (70, .if_icmp .ne 25, 4, 0, []), (73, .iload 4, 0, 0, []), (75, .bipush 6, 0, 0, []), (77, .if_icmp .eq 10, 3, 0, []), (80, .iload 4, 0, 0, []), (82, .bipush 10, 0, 0, []), (84, .if_icmp .ne 11, 4, 0, []), (87, .nop, 3, 0, [])], [(87, .aload_n 0, 0, 0, []), (88, .iload 5, 0, 0, []), (90, .bipush 8, 0, 0, []), (92, .invokevirtual 70, 86, 8, [3, 0, 0]), (95, .nop, 4, 0, [])], [(95, .iload 4, 0, 0, []), (97, .ireturn, 0, 0, [])]]
def zB_94 : mzB := [[(0, .aload_n 1, 0, 0, []), (1, .getfield 63, 1, 3, [0]), (4, .iload_n 2, 0, 0, []), (5, .iaload, 0, 0, []), (6, .istore 4, 0, 0, []), (8, .aload_n 1, 0, 0, []), (9, .getfield 58, 1, 4, [0]), (12, .iload_n 2, 0, 0, []), (13, .iaload, 0, 0, []), (14, .istore 5, 0, 0, []), (16, .iload 4, 0, 0, []), (18, .ifCond .ne 18, 3, 0, []), (21, .aload_n 0, 0, 0, []), (22, .iload 5, 0, 0, []), (24, .invokevirtual 42, 88, 8, [2, 0, 0]), (27, .ifCond .eq 7, 1, 0, []), (30, .iconst 1, 0, 0, []), (31, .goto 4, 2, 0, [])], [(34, .iconst 0, 0, 0, []), (35, .nop, 2, 0, [])], [(35, .ireturn, 0, 0, [])], [(36, .iload 4, 0, 0, []), (38, .iconst 1, 0, 0, []), (39, .if_icmp .ne 12, 4, 0, []), (42, .aload_n 1, 0, 0, []), (43, .getfield 74, 1, 5, [0]), (46, .iload_n 2, 0, 0, []), (47, .iaload, 0, 0, []), (48, .goto 5, 5, 0, [])], [(51, .iload 5, 0, 0, []), (53, .nop, 5, 0, [])], [(53, .istore 6, 0, 0, []), (55, .aload_n 0, 0, 0, []), (56, .iload 5, 0, 0, []), (58, .invokevirtual 42, 88, 8, [2, 0, 0]), (61, .ifCond .eq 12, 6, 0, []), (64, .aload_n 0, 0, 0, []), (65, .iload 6, 0, 0, []), (67, .invokevirtual 42, 88, 8, [2, 0, 0]), (70, .ifCond .ne 5, 7, 0, []), (73, .nop, 6, 0, [])], [(73, .iconst 2, 0, 0, []), (74, .ireturn, 0, 0, [])], [(75, .aload_n 0, 0, 0, []), (76, .iload 5, 0, 0, []), (78, .iconst 4, 0, 0, []), (79, .invokevirtual 46, 85, 8, [3, 0, 0]), (82, .ifCond .ne 13, 8, 0, []), (85, .aload_n 0, 0, 0, []), (86, .iload 6, 0, 0, []), (88, .iconst 4, 0, 0, []), (89, .invokevirtual 46, 85, 8, [3, 0, 0]), (92, .ifCond .eq 5, 9, 0, []), (95, .nop, 8, 0, [])], [(95, .iconst 3, 0, 0, []), (96, .ireturn, 0, 0, [])], [(97, .aload_n 0, 0, 0, []), (98, .iload 5, 0, 0, []), (100, .invokevirtual 50, 89, 8, [2, 0, 0]), (103, .istore 7, 0, 0, []), (105, .aload_n 0, 0, 0, []), (106, .iload 7, 0, 0, []), (108, .iconst 2, 0, 0, []), (109, .invokevirtual 46, 85, 8, [3, 0, 0]), (112, .istore 8, 0, 0, []), (114, .iload 4, 0, 0, []), (116, .tableswitch 343 1 10 #[56, 89, 115, 152, 179, 228, 262, 303, 343, 325], 47, 0, [10, 13, 17, 22, 26, 31, 35, 40, 47, 44])], [(172, .aload_n 0, 0, 0, []), (173, .aload_n 1, 0, 0, []), (174, .iload 5, 0, 0, []), (176, .iload 6, 0, 0, []), (178, .invokevirtual 77, 95, 8, [4, 0, 0]), (181, .istore 9, 0, 0, []), (183, .iload 9, 0, 0, []), (185, .ifCond .ne 17, 11, 0, []), (188, .aload_n 0, 0, 0, []), (189, .iload 5, 0, 0, []), (191, .invokevirtual 80, 97, 8, [2, 0, 0]), (194, .ifCond .eq 8, 11, 0, []), (197, .bipush 11, 0, 0, []), (199, .goto 5, 12, 0, [])], [(202, .iload 9, 0, 0, []), (204, .nop, 12, 0, [])], [(204, .ireturn, 0, 0, [])], [(205, .aload_n 0, 0, 0, []), (206, .getfield 15, 8, 1, [0]), (209, .iload 5, 0, 0, []), (211, .iaload, 0, 0, []), (212, .ifCond .ge 7, 14, 0, []), (215, .iconst 5, 0, 0, []), (216, .goto 14, 16, 0, [])], [(219, .iload 8, 0, 0, []), (221, .ifCond .eq 8, 15, 0, []), (224, .bipush 6, 0, 0, []), (226, .goto 4, 16, 0, [])], [(229, .iconst 0, 0, 0, []), (230, .nop, 16, 0, [])], [(230, .ireturn, 0, 0, [])], [(231, .iload 8, 0, 0, []), (233, .ifCond .eq 8, 18, 0, []), (236, .bipush 6, 0, 0, []), (238, .goto 29, 21, 0, [])], [(241, .aload_n 0, 0, 0, []), (242, .iload 5, 0, 0, []), (244, .iconst 1, 0, 0, []), (245, .invokevirtual 46, 85, 8, [3, 0, 0]), (248, .ifCond .ne 13, 19, 0, []), (251, .aload_n 0, 0, 0, []), (252, .getfield 9, 8, 0, [0]), (255, .iload 5, 0, 0, []), (257, .iaload, 0, 0, []), (258, .ifCond .ne 8, 20, 0, []), (261, .nop, 19, 0, [])], [(261, .bipush 8, 0, 0, []), (263, .goto 4, 21, 0, [])], [(266, .iconst 0, 0, 0, []), (267, .nop, 21, 0, [])], [(267, .ireturn, 0, 0, [])], [(268, .iload 8, 0, 0, []), (270, .ifCond .eq 8, 23, 0, []), (273, .bipush 6, 0, 0, []), (275, .goto 19, 25, 0, [])], [(278, .aload_n 0, 0, 0, []), (279, .iload 5, 0, 0, []), (281, .iconst 1, 0, 0, []), (282, .invokevirtual 46, 85, 8, [3, 0, 0]), (285, .ifCond .eq 7, 24, 0, []), (288, .iconst 0, 0, 0, []), (289, .goto 5, 25, 0, [])], [(292, .bipush 8, 0, 0, []), (294, .nop, 25, 0, [])], [(294, .ireturn, 0, 0, [])], [(295, .iload 8, 0, 0, []), (297, .ifCond .eq 8, 27, 0, []), (300, .bipush 6, 0, 0, []), (302, .goto 41, 30, 0, [])], [(305, .aload_n 0, 0, 0, []), (306, .getfield 15, 8, 1, [0]), (309, .iload 5, 0, 0, []), (311, .iaload, 0, 0, []), (312, .ifCond .lt 8, 28, 0, []), (315, .bipush 9, 0, 0, []), (317, .goto 26, 30, 0, [])], [(320, .aload_n 0, 0, 0, []), (321, .aload_n 1, 0, 0, []), (322, .iload 7, 0, 0, []), (324, .aload_n 1, 0, 0, []), (325, .getfield 74, 1, 5, [0]), (328, .iload_n 2, 0, 0, []), (329, .iaload, 0, 0, []), (330, .iload_n 3, 0, 0, []), (331, .invokevirtual 83, 96, 8, [5, 0, 0]), (334, .ifCond .eq 8, 29, 0, []), (337, .bipush 10, 0, 0, []), (339, .goto 4, 30, 0, [])], [(342, .iconst 0, 0, 0, []), (343, .nop, 30, 0, [])], [(343, .ireturn, 0, 0, [])], [(344, .iload 8, 0, 0, []), (346, .ifCond .eq 8, 32, 0, []), (349, .bipush 6, 0, 0, []), (351, .goto 26, 34, 0, [])], [(354, .aload_n 0, 0, 0, []), (355, .aload_n 1, 0, 0, []), (356, .iload 7, 0, 0, []), (358, .aload_n 1, 0, 0, []), (359, .getfield 74, 1, 5, [0]), (362, .iload_n 2, 0, 0, []), (363, .iaload, 0, 0, []), (364, .iload_n 3, 0, 0, []), (365, .invokevirtual 83, 96, 8, [5, 0, 0]), (368, .ifCond .eq 8, 33, 0, []), (371, .bipush 10, 0, 0, []), (373, .goto 4, 34, 0, [])], [(376, .iconst 0, 0, 0, []), (377, .nop, 34, 0, [])], [(377, .ireturn, 0, 0, [])], [(378, .iload 8, 0, 0, []), (380, .ifCond .eq 8, 36, 0, []), (383, .bipush 6, 0, 0, []), (385, .goto 33, 39, 0, [])], [(388, .aload_n 0, 0, 0, []), (389, .getfield 15, 8, 1, [0]), (392, .iload 5, 0, 0, []), (394, .iaload, 0, 0, []), (395, .ifCond .lt 8, 37, 0, []), (398, .bipush 9, 0, 0, []), (400, .goto 18, 39, 0, [])], [(403, .aload_n 0, 0, 0, []), (404, .iload 5, 0, 0, []), (406, .invokevirtual 80, 97, 8, [2, 0, 0]), (409, .ifCond .eq 8, 38, 0, []), (412, .bipush 11, 0, 0, []), (414, .goto 4, 39, 0, [])], [(417, .iconst 0, 0, 0, []), (418, .nop, 39, 0, [])], [(418, .ireturn, 0, 0, [])], [(419, .aload_n 0, 0, 0, []), (420, .getfield 15, 8, 1, [0]), (423, .iload 5, 0, 0, []), (425, .iaload, 0, 0, []), (426, .ifCond .ge 8, 41, 0, []), (429, .iload 8, 0, 0, []), (431, .ifCond .ne 8, 42, 0, []), (434, .nop, 41, 0, [])], [(434, .bipush 6, 0, 0, []), (436, .goto 4, 43, 0, [])], [(439, .iconst 0, 0, 0, []), (440, .nop, 43, 0, [])], [(440, .ireturn, 0, 0, [])], [(441, .aload_n 0, 0, 0, []), (442, .iload 5, 0, 0, []), (444, .bipush 8, 0, 0, []), (446, .invokevirtual 46, 85, 8, [3, 0, 0]), (449, .ifCond .eq 7, 45, 0, []), (452, .iconst 0, 0, 0, []), (453, .goto 5, 46, 0, [])], [(456, .bipush 12, 0, 0, []), (458, .nop, 46, 0, [])], [(458, .ireturn, 0, 0, [])], [(459, .iconst 0, 0, 0, []), (460, .ireturn, 0, 0, [])]]
def zB_95 : mzB := [[(0, .aload_n 0, 0, 0, []), (1, .iload_n 2, 0, 0, []), (2, .invokevirtual 50, 89, 8, [2, 0, 0]), (5, .istore 4, 0, 0, []), (7, .aload_n 0, 0, 0, []), (8, .iload_n 3, 0, 0, []), (9, .invokevirtual 50, 89, 8, [2, 0, 0]), (12, .istore 5, 0, 0, []), (14, .aload_n 0, 0, 0, []), (15, .getfield 9, 8, 0, [0]), (18, .iload_n 3, 0, 0, []), (19, .iaload, 0, 0, []), (20, .aload_n 0, 0, 0, []), (21, .getfield 9, 8, 0, [0]), (24, .iload_n 2, 0, 0, []), (25, .iaload, 0, 0, []), (26, .iconst 1, 0, 0, []), (27, .iadd, 0, 0, []), (28, .if_icmp .eq 5, 1, 0, []), (31, .iconst 4, 0, 0, []), (32, .ireturn, 0, 0, [])], [(33, .aload_n 0, 0, 0, []), (34, .getfield 15, 8, 1, [0]), (37, .iload_n 2, 0, 0, []), (38, .iaload, 0, 0, []), (39, .ifCond .lt 5, 2, 0, []), (42, .iconst 5, 0, 0, []), (43, .ireturn, 0, 0, [])], [(44, .aload_n 0, 0, 0, []), (45, .iload 4, 0, 0, []), (47, .iconst 2, 0, 0, []), (48, .invokevirtual 46, 85, 8, [3, 0, 0]), (51, .ifCond .ne 13, 3, 0, []), (54, .aload_n 0, 0, 0, []), (55, .iload 5, 0, 0, []), (57, .iconst 2, 0, 0, []), (58, .invokevirtual 46, 85, 8, [3, 0, 0]), (61, .ifCond .eq 6, 4, 0, []), (64, .nop, 3, 0, [])], [(64, .bipush 6, 0, 0, []), (66, .ireturn, 0, 0, [])], [(67, .aload_n 0, 0, 0, []), (68, .getfield 9, 8, 0, [0]), (71, .iload_n 3, 0, 0, []), (72, .iaload, 0, 0, []), (73, .iconst 1, 0, 0, []), (74, .if_icmp .ne 10, 5, 0, []), (77, .aload_n 1, 0, 0, []), (78, .getfield 87, 1, 10, [0]), (81, .goto 7, 6, 0, [])], [(84, .aload_n 1, 0, 0, []), (85, .getfield 91, 1, 11, [0]), (88, .nop, 6, 0, [])], [(88, .istore 6, 0, 0, []), (90, .aload_n 0, 0, 0, []), (91, .getfield 18, 8, 2, [0]), (94, .iload 4, 0, 0, []), (96, .iaload, 0, 0, []), (97, .aload_n 0, 0, 0, []), (98, .getfield 18, 8, 2, [0]), (101, .iload 5, 0, 0, []), (103, .iaload, 0, 0, []), (104, .if_icmp .ne 13, 7, 0, []), (107, .aload_n 0, 0, 0, []), (108, .iload_n 3, 0, 0, []), (109, .invokevirtual 94, 103, 8, [2, 0, 0]), (112, .iload 6, 0, 0, []), (114, .if_icmp .lt 8, 8, 0, []), (117, .nop, 7, 0, [])], [(117, .bipush 7, 0, 0, []), (119, .goto 4, 9, 0, [])], [(122, .iconst 0, 0, 0, []), (123, .nop, 9, 0, [])], [(123, .ireturn, 0, 0, [])]]
def zB_96 : mzB := [[(0, .aload_n 0, 0, 0, []), (1, .getfield 18, 8, 2, [0]), (4, .iload_n 2, 0, 0, []), (5, .iaload, 0, 0, []), (6, .iload_n 3, 0, 0, []), (7, .if_icmp .ne 5, 1, 0, []), (10, .iconst 0, 0, 0, []), (11, .ireturn, 1, 0, [])], [(12, .aload_n 1, 0, 0, []), (13, .aload_n 0, 0, 0, []), (14, .getfield 18, 8, 2, [0]), (17, .iload_n 2, 0, 0, []), (18, .iaload, 0, 0, []), (19, .iload_n 3, 0, 0, []), (20, .invokevirtual 97, 17, 1, [3, 0, 0]), (23, .istore 5, 0, 0, []), (25, .iload 5, 0, 0, []), (27, .bipush (-2), 0, 0, []), (29, .if_icmp .eq 17, 2, 0, []), (32, .iload 4, 0, 0, []), (34, .aload_n 0, 0, 0, []), (35, .getfield 21, 8, 3, [0]), (38, .iload_n 2, 0, 0, []), (39, .iaload, 0, 0, []), (40, .isub, 0, 0, []), (41, .iload 5, 0, 0, []), (43, .if_icmp .ge 7, 3, 0, []), (46, .nop, 2, 0, [])], [(46, .iconst 1, 0, 0, []), (47, .goto 4, 4, 0, [])], [(50, .iconst 0, 0, 0, []), (51, .nop, 4, 0, [])], [(51, .ireturn, 1, 0, [])]]
def zB_97 : mzB := [[(0, .iconst 0, 0, 0, []), (1, .istore_n 2, 0, 0, []), (2, .nop, 1, 0, [])], [(2, .iload_n 2, 0, 0, []), (3, .bipush 40, 0, 0, []), (5, .if_icmp .ge 35, 4, 0, []), (8, .aload_n 0, 0, 0, []), (9, .iload_n 2, 0, 0, []), (10, .bipush 8, 0, 0, []), (12, .invokevirtual 46, 85, 8, [3, 0, 0]), (15, .ifCond .eq 19, 3, 0, []), (18, .iload_n 2, 0, 0, []), (19, .iload_n 1, 0, 0, []), (20, .if_icmp .eq 12, 2, 0, []), (23, .aload_n 0, 0, 0, []), (24, .iload_n 2, 0, 0, []), (25, .iload_n 1, 0, 0, []), (26, .invokevirtual 101, 90, 8, [3, 0, 0]), (29, .ifCond .eq 5, 3, 0, []), (32, .nop, 2, 0, [])], [(32, .iconst 1, 0, 0, []), (33, .ireturn, 1, 0, [])], [(34, .iinc 2 1, 0, 0, []), (37, .goto (-35), 1, 0, [])], [(40, .iconst 0, 0, 0, []), (41, .ireturn, 1, 0, [])]]
def zB_98 : mzB := [[(0, .aload_n 1, 0, 0, []), (1, .getfield 58, 1, 4, [0]), (4, .iload_n 2, 0, 0, []), (5, .iaload, 0, 0, []), (6, .istore 4, 0, 0, []), (8, .aload_n 1, 0, 0, []), (9, .getfield 74, 1, 5, [0]), (12, .iload_n 2, 0, 0, []), (13, .iaload, 0, 0, []), (14, .istore 5, 0, 0, []), (16, .aload_n 0, 0, 0, []), (17, .iload 4, 0, 0, []), (19, .invokevirtual 50, 89, 8, [2, 0, 0]), (22, .istore 6, 0, 0, []), (24, .aload_n 1, 0, 0, []), (25, .getfield 63, 1, 3, [0]), (28, .iload_n 2, 0, 0, []), (29, .iaload, 0, 0, []), (30, .tableswitch 231 0 9 #[54, 79, 91, 114, 124, 134, 146, 187, 197, 216], 13, 0, [1, 2, 3, 4, 5, 6, 7, 10, 11, 12])], [(84, .aload_n 0, 0, 0, []), (85, .getfield 9, 8, 0, [0]), (88, .iload 4, 0, 0, []), (90, .aload_n 1, 0, 0, []), (91, .getfield 104, 1, 6, [0]), (94, .iload_n 2, 0, 0, []), (95, .iaload, 0, 0, []), (96, .iastore, 0, 0, []), (97, .aload_n 0, 0, 0, []), (98, .iload 4, 0, 0, []), (100, .iload 5, 0, 0, []), (102, .iload_n 3, 0, 0, []), (103, .invokevirtual 105, 99, 8, [4, 0, 0]), (106, .goto 163, 14, 0, [])], [(109, .aload_n 0, 0, 0, []), (110, .getfield 15, 8, 1, [0]), (113, .iload 4, 0, 0, []), (115, .iload 5, 0, 0, []), (117, .iastore, 0, 0, []), (118, .goto 151, 14, 0, [])], [(121, .aload_n 0, 0, 0, []), (122, .iload 4, 0, 0, []), (124, .invokevirtual 109, 100, 8, [2, 0, 0]), (127, .aload_n 0, 0, 0, []), (128, .iload 4, 0, 0, []), (130, .aload_n 0, 0, 0, []), (131, .getfield 18, 8, 2, [0]), (134, .iload 6, 0, 0, []), (136, .iaload, 0, 0, []), (137, .iload_n 3, 0, 0, []), (138, .invokevirtual 105, 99, 8, [4, 0, 0]), (141, .goto 128, 14, 0, [])], [(144, .aload_n 0, 0, 0, []), (145, .iload 4, 0, 0, []), (147, .iconst 1, 0, 0, []), (148, .invokevirtual 70, 86, 8, [3, 0, 0]), (151, .goto 118, 14, 0, [])], [(154, .aload_n 0, 0, 0, []), (155, .iload 4, 0, 0, []), (157, .iconst 1, 0, 0, []), (158, .invokevirtual 113, 87, 8, [3, 0, 0]), (161, .goto 108, 14, 0, [])], [(164, .aload_n 0, 0, 0, []), (165, .iload 4, 0, 0, []), (167, .iload 5, 0, 0, []), (169, .iload_n 3, 0, 0, []), (170, .invokevirtual 105, 99, 8, [4, 0, 0]), (173, .goto 96, 14, 0, [])], [(176, .aload_n 0, 0, 0, []), (177, .getfield 24, 8, 4, [0]), (180, .iload 4, 0, 0, []), (182, .iload_n 3, 0, 0, []), (183, .iastore, 0, 0, []), (184, .aload_n 0, 0, 0, []), (185, .aload_n 0, 0, 0, []), (186, .getfield 18, 8, 2, [0]), (189, .iload 6, 0, 0, []), (191, .iaload, 0, 0, []), (192, .iload 5, 0, 0, []), (194, .if_icmp .ne 8, 8, 0, []), (197, .iload 6, 0, 0, []), (199, .goto 9, 9, 0, [])], [(202, .aload_n 0, 0, 0, []), (203, .iload 4, 0, 0, []), (205, .invokevirtual 116, 101, 8, [2, 0, 0]), (208, .nop, 9, 0, [])], [(208, .iload 5, 0, 0, []), (210, .iload_n 3, 0, 0, []), (211, .invokevirtual 105, 99, 8, [4, 0, 0]), (214, .goto 55, 14, 0, [])], [(217, .aload_n 0, 0, 0, []), (218, .iload 4, 0, 0, []), (220, .iconst 2, 0, 0, []), (221, .invokevirtual 70, 86, 8, [3, 0, 0]), (224, .goto 45, 14, 0, [])], [(227, .aload_n 0, 0, 0, []), (228, .iload 4, 0, 0, []), (230, .iconst 2, 0, 0, []), (231, .invokevirtual 113, 87, 8, [3, 0, 0]), (234, .aload_n 0, 0, 0, []), (235, .iload 4, 0, 0, []), (237, .iload 5, 0, 0, []), (239, .iload_n 3, 0, 0, []), (240, .invokevirtual 105, 99, 8, [4, 0, 0]), (243, .goto 26, 14, 0, [])], [(246, .aload_n 0, 0, 0, []), (247, .iload 4, 0, 0, []), (249, .invokevirtual 109, 100, 8, [2, 0, 0]), (252, .aload_n 0, 0, 0, []), (253, .iload 4, 0, 0, []), (255, .invokevirtual 119, 102, 8, [2, 0, 0]), (258, .goto 11, 14, 0, [])], [(261, .aload_n 0, 0, 0, []), (262, .iload 4, 0, 0, []), (264, .bipush 8, 0, 0, []), (266, .invokevirtual 113, 87, 8, [3, 0, 0]), (269, .nop, 14, 0, [])], [(269, .return_, 0, 0, [])]]
def zB_99 : mzB := [[(0, .aload_n 0, 0, 0, []), (1, .getfield 15, 8, 1, [0]), (4, .iload_n 1, 0, 0, []), (5, .bipush (-5), 0, 0, []), (7, .iastore, 0, 0, []), (8, .aload_n 0, 0, 0, []), (9, .getfield 18, 8, 2, [0]), (12, .iload_n 1, 0, 0, []), (13, .iload_n 2, 0, 0, []), (14, .iastore, 0, 0, []), (15, .aload_n 0, 0, 0, []), (16, .getfield 21, 8, 3, [0]), (19, .iload_n 1, 0, 0, []), (20, .iload_n 3, 0, 0, []), (21, .iastore, 0, 0, []), (22, .return_, 0, 0, [])]]
def zB_100 : mzB := [[(0, .aload_n 0, 0, 0, []), (1, .getfield 15, 8, 1, [0]), (4, .iload_n 1, 0, 0, []), (5, .iaload, 0, 0, []), (6, .ifCond .lt 14, 1, 0, []), (9, .aload_n 0, 0, 0, []), (10, .aload_n 0, 0, 0, []), (11, .getfield 15, 8, 1, [0]), (14, .iload_n 1, 0, 0, []), (15, .iaload, 0, 0, []), (16, .iconst 1, 0, 0, []), (17, .invokevirtual 70, 86, 8, [3, 0, 0]), (20, .nop, 1, 0, [])], [(20, .return_, 0, 0, [])]]
def zB_101 : mzB := [[(0, .iload_n 1, 0, 0, []), (1, .istore_n 2, 0, 0, []), (2, .iconst 0, 0, 0, []), (3, .istore_n 3, 0, 0, []), (4, .nop, 1, 0, [])], [(4, .iload_n 3, 0, 0, []), (5, .iconst 2, 0, 0, []), (6, .if_icmp .ge 41, 3, 0, []), (9, .aload_n 0, 0, 0, []), (10, .getfield 15, 8, 1, [0]), (13, .iload_n 2, 0, 0, []), (14, .iaload, 0, 0, []), (15, .ifCond .lt 32, 3, 0, []), (18, .aload_n 0, 0, 0, []), (19, .aload_n 0, 0, 0, []), (20, .getfield 15, 8, 1, [0]), (23, .iload_n 2, 0, 0, []), (24, .iaload, 0, 0, []), (25, .iconst 1, 0, 0, []), (26, .invokevirtual 46, 85, 8, [3, 0, 0]), (29, .ifCond .eq 5, 2, 0, []), (32, .iload_n 2, 0, 0, []), (33, .ireturn, 0, 0, [])], [(34, .aload_n 0, 0, 0, []), (35, .getfield 15, 8, 1, [0]), (38, .iload_n 2, 0, 0, []), (39, .iaload, 0, 0, []), (40, .istore_n 2, 0, 0, []), (41, .iinc 3 1, 0, 0, []), (44, .goto (-40), 1, 0, [])], [(47, .iload_n 2, 0, 0, []), (48, .ireturn, 0, 0, [])]]
def zB_102 : mzB := [[(0, .iconst 0, 0, 0, []), (1, .istore_n 2, 0, 0, []), (2, .nop, 1, 0, [])], [(2, .iload_n 2, 0, 0, []), (3, .bipush 40, 0, 0, []), (5, .if_icmp .ge 29, 4, 0, []), (8, .iload_n 2, 0, 0, []), (9, .iload_n 1, 0, 0, []), (10, .if_icmp .eq 12, 2, 0, []), (13, .aload_n 0, 0, 0, []), (14, .iload_n 2, 0, 0, []), (15, .iload_n 1, 0, 0, []), (16, .invokevirtual 101, 90, 8, [3, 0, 0]), (19, .ifCond .eq 9, 3, 0, []), (22, .nop, 2, 0, [])], [(22, .aload_n 0, 0, 0, []), (23, .iload_n 2, 0, 0, []), (24, .iconst 4, 0, 0, []), (25, .invokevirtual 70, 86, 8, [3, 0, 0]), (28, .nop, 3, 0, [])], [(28, .iinc 2 1, 0, 0, []), (31, .goto (-29), 1, 0, [])], [(34, .iconst 0, 0, 0, []), (35, .istore_n 2, 0, 0, []), (36, .nop, 5, 0, [])], [(36, .iload_n 2, 0, 0, []), (37, .bipush 40, 0, 0, []), (39, .if_icmp .ge 33, 7, 0, []), (42, .aload_n 0, 0, 0, []), (43, .iload_n 2, 0, 0, []), (44, .iconst 4, 0, 0, []), (45, .invokevirtual 46, 85, 8, [3, 0, 0]), (48, .ifCond .eq 18, 6, 0, []), (51, .aload_n 0, 0, 0, []), (52, .getfield 15, 8, 1, [0]), (55, .iload_n 2, 0, 0, []), (56, .bipush (-5), 0, 0, []), (58, .iastore, 0, 0, []), (59, .aload_n 0, 0, 0, []), (60, .iload_n 2, 0, 0, []), (61, .bipush 8, 0, 0, []), (63, .invokevirtual 113, 87, 8, [3, 0, 0]), (66, .nop, 6, 0, [])], [(66, .iinc 2 1, 0, 0, []), (69, .goto (-33), 5, 0, [])], [(72, .return_, 0, 0, [])]]
def zB_103 : mzB := [[(0, .iconst 0, 0, 0, []), (1, .istore_n 2, 0, 0, []), (2, .iconst 0, 0, 0, []), (3, .istore_n 3, 0, 0, []), (4, .nop, 1, 0, [])], [(4, .iload_n 3, 0, 0, []), (5, .bipush 40, 0, 0, []), (7, .if_icmp .ge 27, 4, 0, []), (10, .iload_n 2, 0, 0, []), (11, .aload_n 0, 0, 0, []), (12, .getfield 15, 8, 1, [0]), (15, .iload_n 3, 0, 0, []), (16, .iaload, 0, 0, []), (17, .iload_n 1, 0, 0, []), (18, .if_icmp .ne 7, 2, 0, []), (21, .iconst 1, 0, 0, []), (22, .goto 4, 3, 0, [])], [(25, .iconst 0, 0, 0, []), (26, .nop, 3, 0, [])], [(26, .iadd, 0, 0, []), (27, .istore_n 2, 0, 0, []), (28, .iinc 3 1, 0, 0, []), (31, .goto (-27), 1, 0, [])], [(34, .iload_n 2, 0, 0, []), (35, .ireturn, 0, 0, [])]]
def zB_104 : mzB := [[(0, .lconst 0, 0, 0, []), (1, .lstore_n 2, 0, 0, []), (2, .iconst 0, 0, 0, []), (3, .istore 4, 0, 0, []), (5, .nop, 1, 0, [])], [(5, .iload 4, 0, 0, []), (7, .bipush 40, 0, 0, []), (9, .if_icmp .ge 26, 3, 0, []), (12, .aload_n 0, 0, 0, []), (13, .iload 4, 0, 0, []), (15, .iload_n 1, 0, 0, []), (16, .invokevirtual 101, 90, 8, [3, 0, 0]), (19, .ifCond .eq 10, 2, 0, []), (22, .lload_n 2, 0, 0, []), (23, .lconst 1, 0, 0, []), (24, .iload 4, 0, 0, []), (26, .lshl, 0, 0, []), (27, .lor, 0, 0, []), (28, .lstore_n 2, 0, 0, []), (29, .nop, 2, 0, [])], [(29, .iinc 4 1, 0, 0, []), (32, .goto (-27), 1, 0, [])], [(35, .lload_n 2, 0, 0, []), (36, .lreturn, 0, 0, [])]]
def zB_105 : mzB := [[(0, .lconst 0, 0, 0, []), (1, .lstore_n 2, 0, 0, []), (2, .iconst 0, 0, 0, []), (3, .istore 4, 0, 0, []), (5, .nop, 1, 0, [])], [(5, .iload 4, 0, 0, []), (7, .bipush 40, 0, 0, []), (9, .if_icmp .ge 26, 3, 0, []), (12, .aload_n 0, 0, 0, []), (13, .iload 4, 0, 0, []), (15, .invokevirtual 122, 91, 8, [2, 0, 0]), (18, .iload_n 1, 0, 0, []), (19, .if_icmp .ne 10, 2, 0, []), (22, .lload_n 2, 0, 0, []), (23, .lconst 1, 0, 0, []), (24, .iload 4, 0, 0, []), (26, .lshl, 0, 0, []), (27, .lor, 0, 0, []), (28, .lstore_n 2, 0, 0, []), (29, .nop, 2, 0, [])], [(29, .iinc 4 1, 0, 0, []), (32, .goto (-27), 1, 0, [])], [(35, .lload_n 2, 0, 0, []), (36, .lreturn, 0, 0, [])]]
def zB_106 : mzB := [[(0, .lconst 0, 0, 0, []), (1, .lstore_n 2, 0, 0, []), (2, .iconst 0, 0, 0, []), (3, .istore 4, 0, 0, []), (5, .nop, 1, 0, [])], [(5, .iload 4, 0, 0, []), (7, .bipush 40, 0, 0, []), (9, .if_icmp .ge 35, 3, 0, []), (12, .aload_n 0, 0, 0, []), (13, .iload 4, 0, 0, []), (15, .invokevirtual 122, 91, 8, [2, 0, 0]), (18, .ifCond .lt 20, 2, 0, []), (21, .aload_n 0, 0, 0, []), (22, .iload 4, 0, 0, []), (24, .invokevirtual 125, 92, 8, [2, 0, 0]), (27, .iload_n 1, 0, 0, []), (28, .if_icmp .gt 10, 2, 0, []), (31, .lload_n 2, 0, 0, []), (32, .lconst 1, 0, 0, []), (33, .iload 4, 0, 0, []), (35, .lshl, 0, 0, []), (36, .lor, 0, 0, []), (37, .lstore_n 2, 0, 0, []), (38, .nop, 2, 0, [])], [(38, .iinc 4 1, 0, 0, []), (41, .goto (-36), 1, 0, [])], [(44, .lload_n 2, 0, 0, []), (45, .lreturn, 0, 0, [])]]
def zB_107 : mzB := [[(0, .lconst 0, 0, 0, []), (1, .lstore_n 3, 0, 0, []), (2, .iconst 0, 0, 0, []), (3, .istore 5, 0, 0, []), (5, .nop, 1, 0, [])], [(5, .iload 5, 0, 0, []), (7, .bipush 40, 0, 0, []), (9, .if_icmp .ge 41, 3, 0, []), (12, .lload_n 1, 0, 0, []), (13, .iload 5, 0, 0, []), (15, .lushr, 0, 0, []), (16, .lconst 1, 0, 0, []), (17, .land, 0, 0, []), (18, .lconst 0, 0, 0, []), (19, .lcmp, 0, 0, []), (20, .ifCond .eq 24, 2, 0, []), (23, .aload_n 0, 0, 0, []), (24, .iload 5, 0, 0, []), (26, .iconst 4, 0, 0, []), (27, .invokevirtual 46, 85, 8, [3, 0, 0]), (30, .ifCond .ne 14, 2, 0, []), (33, .lload_n 3, 0, 0, []), (34, .lconst 1, 0, 0, []), (35, .aload_n 0, 0, 0, []), (36, .iload 5, 0, 0, []), (38, .invokevirtual 50, 89, 8, [2, 0, 0]), (41, .lshl, 0, 0, []), (42, .lor, 0, 0, []), (43, .lstore_n 3, 0, 0, []), (44, .nop, 2, 0, [])], [(44, .iinc 5 1, 0, 0, []), (47, .goto (-42), 1, 0, [])], [(50, .lload_n 1, 0, 0, []), (51, .lstore 5, 0, 0, []), (53, .iconst 0, 0, 0, []), (54, .istore 7, 0, 0, []), (56, .nop, 4, 0, [])], [(56, .iload 7, 0, 0, []), (58, .bipush 40, 0, 0, []), (60, .if_icmp .ge 33, 6, 0, []), (63, .lload_n 3, 0, 0, []), (64, .aload_n 0, 0, 0, []), (65, .iload 7, 0, 0, []), (67, .invokevirtual 50, 89, 8, [2, 0, 0]), (70, .lushr, 0, 0, []), (71, .lconst 1, 0, 0, []), (72, .land, 0, 0, []), (73, .lconst 0, 0, 0, []), (74, .lcmp, 0, 0, []), (75, .ifCond .eq 12, 5, 0, []), (78, .lload 5, 0, 0, []), (80, .lconst 1, 0, 0, []), (81, .iload 7, 0, 0, []), (83, .lshl, 0, 0, []), (84, .lor, 0, 0, []), (85, .lstore 5, 0, 0, []), (87, .nop, 5, 0, [])], [(87, .iinc 7 1, 0, 0, []), (90, .goto (-34), 4, 0, [])], [(93, .lload 5, 0, 0, []), (95, .lreturn, 0, 0, [])]]
def zB_108 : mzB := [[(0, .iconst 0, 0, 0, []), (1, .istore_n 2, 0, 0, []), (2, .iconst 0, 0, 0, []), (3, .istore_n 3, 0, 0, []), (4, .nop, 1, 0, [])], [(4, .iload_n 3, 0, 0, []), (5, .bipush 40, 0, 0, []), (7, .if_icmp .ge 44, 4, 0, []), (10, .aload_n 0, 0, 0, []), (11, .iload_n 3, 0, 0, []), (12, .invokevirtual 122, 91, 8, [2, 0, 0]), (15, .iload_n 1, 0, 0, []), (16, .if_icmp .ne 29, 3, 0, []), (19, .aload_n 0, 0, 0, []), (20, .getfield 15, 8, 1, [0]), (23, .iload_n 3, 0, 0, []), (24, .iaload, 0, 0, []), (25, .ifCond .lt 17, 2, 0, []), (28, .aload_n 0, 0, 0, []), (29, .aload_n 0, 0, 0, []), (30, .getfield 15, 8, 1, [0]), (33, .iload_n 3, 0, 0, []), (34, .iaload, 0, 0, []), (35, .iconst 1, 0, 0, []), (36, .invokevirtual 46, 85, 8, [3, 0, 0]), (39, .ifCond .eq 6, 3, 0, []), (42, .nop, 2, 0, [])], [(42, .iinc 2 1, 0, 0, []), (45, .nop, 3, 0, [])], [(45, .iinc 3 1, 0, 0, []), (48, .goto (-44), 1, 0, [])], [(51, .iload_n 2, 0, 0, []), (52, .ireturn, 0, 0, [])]]
def zB_109 : mzB := [[(0, .aload_n 0, 0, 0, []), (1, .iload_n 1, 0, 0, []), (2, .invokevirtual 122, 91, 8, [2, 0, 0]), (5, .istore_n 3, 0, 0, []), (6, .iload_n 3, 0, 0, []), (7, .bipush (-2), 0, 0, []), (9, .if_icmp .eq 9, 1, 0, []), (12, .iload_n 3, 0, 0, []), (13, .bipush (-4), 0, 0, []), (15, .if_icmp .ne 5, 2, 0, []), (18, .nop, 1, 0, [])], [(18, .iload_n 3, 0, 0, []), (19, .ireturn, 0, 0, [])], [(20, .iload_n 2, 0, 0, []), (21, .tableswitch 123 0 8 #[51, 58, 65, 71, 73, 88, 104, 111, 117], 16, 0, [3, 4, 5, 6, 7, 10, 13, 14, 15])], [(72, .aload_n 0, 0, 0, []), (73, .getfield 9, 8, 0, [0]), (76, .iload_n 1, 0, 0, []), (77, .iaload, 0, 0, []), (78, .ireturn, 0, 0, [])], [(79, .aload_n 0, 0, 0, []), (80, .getfield 15, 8, 1, [0]), (83, .iload_n 1, 0, 0, []), (84, .iaload, 0, 0, []), (85, .ireturn, 0, 0, [])], [(86, .aload_n 0, 0, 0, []), (87, .iload_n 1, 0, 0, []), (88, .invokevirtual 50, 89, 8, [2, 0, 0]), (91, .ireturn, 0, 0, [])], [(92, .iload_n 3, 0, 0, []), (93, .ireturn, 0, 0, [])], [(94, .aload_n 0, 0, 0, []), (95, .iload_n 1, 0, 0, []), (96, .iconst 1, 0, 0, []), (97, .invokevirtual 46, 85, 8, [3, 0, 0]), (100, .ifCond .eq 7, 8, 0, []), (103, .iconst 1, 0, 0, []), (104, .goto 4, 9, 0, [])], [(107, .iconst 0, 0, 0, []), (108, .nop, 9, 0, [])], [(108, .ireturn, 0, 0, [])], [(109, .aload_n 0, 0, 0, []), (110, .iload_n 1, 0, 0, []), (111, .bipush 8, 0, 0, []), (113, .invokevirtual 46, 85, 8, [3, 0, 0]), (116, .ifCond .eq 7, 11, 0, []), (119, .iconst 1, 0, 0, []), (120, .goto 4, 12, 0, [])], [(123, .iconst 0, 0, 0, []), (124, .nop, 12, 0, [])], [(124, .ireturn, 0, 0, [])], [(125, .aload_n 0, 0, 0, []), (126, .getfield 24, 8, 4, [0]), (129, .iload_n 1, 0, 0, []), (130, .iaload, 0, 0, []), (131, .ireturn, 0, 0, [])], [(132, .aload_n 0, 0, 0, []), (133, .iload_n 1, 0, 0, []), (134, .invokevirtual 125, 92, 8, [2, 0, 0]), (137, .ireturn, 0, 0, [])], [(138, .aload_n 0, 0, 0, []), (139, .iload_n 1, 0, 0, []), (140, .invokevirtual 94, 103, 8, [2, 0, 0]), (143, .ireturn, 0, 0, [])], [(144, .aload_n 0, 0, 0, []), (145, .iload_n 1, 0, 0, []), (146, .invokevirtual 128, 104, 8, [2, 0, 0]), (149, .invokestatic 132, 253, 11, [1, 0, 0]), (152, .ireturn, 0, 0, [])]]
def zB_110 : mzB := [[(0, .iconst 0, 0, 0, []), (1, .istore_n 2, 0, 0, []), (2, .iconst 0, 0, 0, []), (3, .istore_n 3, 0, 0, []), (4, .nop, 1, 0, [])], [(4, .iload_n 3, 0, 0, []), (5, .bipush 40, 0, 0, []), (7, .if_icmp .ge 26, 4, 0, []), (10, .iload_n 2, 0, 0, []), (11, .aload_n 0, 0, 0, []), (12, .iload_n 3, 0, 0, []), (13, .iload_n 1, 0, 0, []), (14, .invokevirtual 138, 111, 8, [3, 0, 0]), (17, .ifCond .eq 7, 2, 0, []), (20, .iconst 1, 0, 0, []), (21, .goto 4, 3, 0, [])], [(24, .iconst 0, 0, 0, []), (25, .nop, 3, 0, [])], [(25, .iadd, 0, 0, []), (26, .istore_n 2, 0, 0, []), (27, .iinc 3 1, 0, 0, []), (30, .goto (-26), 1, 0, [])], [(33, .iload_n 2, 0, 0, []), (34, .ireturn, 0, 0, [])]]
def zB_111 : mzB := [[(0, .iload_n 2, 0, 0, []), (1, .tableswitch 104 0 4 #[35, 41, 57, 64, 72], 10, 0, [1, 2, 5, 6, 7])], [(36, .aload_n 0, 0, 0, []), (37, .iload_n 1, 0, 0, []), (38, .invokevirtual 42, 88, 8, [2, 0, 0]), (41, .ireturn, 1, 0, [])], [(42, .aload_n 0, 0, 0, []), (43, .iload_n 1, 0, 0, []), (44, .invokevirtual 122, 91, 8, [2, 0, 0]), (47, .bipush (-3), 0, 0, []), (49, .if_icmp .ne 7, 3, 0, []), (52, .iconst 1, 0, 0, []), (53, .goto 4, 4, 0, [])], [(56, .iconst 0, 0, 0, []), (57, .nop, 4, 0, [])], [(57, .ireturn, 1, 0, [])], [(58, .aload_n 0, 0, 0, []), (59, .iload_n 1, 0, 0, []), (60, .iconst 4, 0, 0, []), (61, .invokevirtual 46, 85, 8, [3, 0, 0]), (64, .ireturn, 1, 0, [])], [(65, .aload_n 0, 0, 0, []), (66, .iload_n 1, 0, 0, []), (67, .bipush 8, 0, 0, []), (69, .invokevirtual 46, 85, 8, [3, 0, 0]), (72, .ireturn, 1, 0, [])], [(73, .aload_n 0, 0, 0, []), (74, .iload_n 1, 0, 0, []), (75, .invokevirtual 42, 88, 8, [2, 0, 0]), (78, .ifCond .eq 25, 8, 0, []), (81, .aload_n 0, 0, 0, []), (82, .getfield 15, 8, 1, [0]), (85, .iload_n 1, 0, 0, []), (86, .iaload, 0, 0, []), (87, .ifCond .ge 16, 8, 0, []), (90, .aload_n 0, 0, 0, []), (91, .iload_n 1, 0, 0, []), (92, .iconst 4, 0, 0, []), (93, .invokevirtual 46, 85, 8, [3, 0, 0]), (96, .ifCond .ne 7, 8, 0, []), (99, .iconst 1, 0, 0, []), (100, .goto 4, 9, 0, [])], [(103, .iconst 0, 0, 0, []), (104, .nop, 9, 0, [])], [(104, .ireturn, 1, 0, [])], [(105, .aload_n 0, 0, 0, []), (106, .iload_n 1, 0, 0, []), (107, .iconst 1, 0, 0, []), (108, .invokevirtual 46, 85, 8, [3, 0, 0]), (111, .ireturn, 1, 0, [])]]
def zB_112 : mzB := [[(0, .aload_n 0, 0, 0, []), (1, .invokespecial 1, 0, 0, [0]), (4, .aload_n 0, 0, 0, []), (5, .new 7, 6, 2, [0]), (8, .dup, 0, 0, []), (9, .invokespecial 9, 69, 6, [1, 1, 900]), (12, .putfield 10, 9, 0, [2]), (15, .aload_n 0, 0, 0, []), (16, .new 16, 1, 13, [0]), (19, .dup, 0, 0, []), (20, .invokespecial 18, 8, 1, [1, 7, 372]), (23, .putfield 19, 9, 1, [2]), (26, .aload_n 0, 0, 0, []), (27, .new 16, 1, 13, [0]), (30, .dup, 0, 0, []), (31, .invokespecial 18, 8, 1, [1, 7, 372]), (34, .putfield 23, 9, 2, [2]), (37, .aload_n 0, 0, 0, []), (38, .new 26, 4, 8, [0]), (41, .dup, 0, 0, []), (42, .aload_n 0, 0, 0, []), (43, .getfield 10, 9, 0, [0]), (46, .aload_n 0, 0, 0, []), (47, .getfield 23, 9, 2, [0]), (50, .invokespecial 28, 37, 4, [3, 4, 2711]), (53, .putfield 31, 9, 3, [2]), (56, .aload_n 0, 0, 0, []), (57, .new 35, 5, 5, [0]), (60, .dup, 0, 0, []), (61, .aload_n 0, 0, 0, []), (62, .getfield 19, 9, 1, [0]), (65, .invokespecial 37, 51, 5, [2, 18, 675]), (68, .putfield 40, 9, 4, [2]), (71, .aload_n 0, 0, 0, []), (72, .new 44, 3, 7, [0]), (75, .dup, 0, 0, []), (76, .aload_n 0, 0, 0, []), (77, .getfield 40, 9, 4, [0]), (80, .invokespecial 46, 28, 3, [2, 10, 369]), (83, .putfield 49, 9, 5, [2]), (86, .aload_n 0, 0, 0, []), (87, .new 53, 0, 12, [0]), (90, .dup, 0, 0, []), (91, .aload_n 0, 0, 0, []), (92, .getfield 40, 9, 4, [0]), (95, .invokespecial 55, 0, 0, [2, 21, 738]), (98, .putfield 56, 9, 6, [2]), (101, .return_, 0, 0, [])]]
def zB_113 : mzB := [[(0, .aload_n 0, 0, 0, []), (1, .getfield 10, 9, 0, [0]), (4, .bipush 20, 0, 0, []), (6, .invokevirtual 60, 70, 6, [2, 0, 0]), (9, .ifCond .ne 5, 1, 0, []), (12, .iconst (-1), 0, 0, []), (13, .ireturn, 0, 0, [])], [(14, .aload_n 0, 0, 0, []), (15, .getfield 10, 9, 0, [0]), (18, .iload_n 1, 0, 0, []), (19, .invokevirtual 64, 71, 6, [2, 0, 0]), (22, .aload_n 0, 0, 0, []), (23, .getfield 10, 9, 0, [0]), (26, .iload_n 2, 0, 0, []), (27, .invokevirtual 64, 71, 6, [2, 0, 0]), (30, .aload_n 0, 0, 0, []), (31, .getfield 10, 9, 0, [0]), (34, .iload_n 3, 0, 0, []), (35, .invokevirtual 64, 71, 6, [2, 0, 0]), (38, .aload_n 0, 0, 0, []), (39, .getfield 10, 9, 0, [0]), (42, .iload 4, 0, 0, []), (44, .invokevirtual 64, 71, 6, [2, 0, 0]), (47, .aload_n 0, 0, 0, []), (48, .getfield 10, 9, 0, [0]), (51, .iload 5, 0, 0, []), (53, .invokevirtual 64, 71, 6, [2, 0, 0]), (56, .aload_n 0, 0, 0, []), (57, .getfield 10, 9, 0, [0]), (60, .getfield 68, 6, 1, [0]), (63, .ireturn, 0, 0, [])]]
def zB_114 : mzB := [[(0, .iload_n 1, 0, 0, []), (1, .ifCond .lt 14, 1, 0, []), (4, .iload_n 1, 0, 0, []), (5, .aload_n 0, 0, 0, []), (6, .getfield 10, 9, 0, [0]), (9, .getfield 68, 6, 1, [0]), (12, .if_icmp .le 6, 2, 0, []), (15, .nop, 1, 0, [])], [(15, .bipush (-2), 0, 0, []), (17, .ireturn, 0, 0, [])], [(18, .aload_n 0, 0, 0, []), (19, .getfield 23, 9, 2, [0]), (22, .invokevirtual 72, 9, 1, [1, 0, 0]), (25, .aload_n 0, 0, 0, []), (26, .getfield 31, 9, 3, [0]), (29, .iload_n 1, 0, 0, []), (30, .iconst 0, 0, 0, []), (31, .invokevirtual 75, 38, 4, [3, 0, 0]), (34, .istore_n 2, 0, 0, []), (35, .aload_n 0, 0, 0, []), (36, .iload_n 2, 0, 0, []), (37, .invokevirtual 79, 116, 9, [2, 0, 0]), (40, .ireturn, 0, 0, [])]]
def zB_115 : mzB := [[(0, .iload_n 1, 0, 0, []), (1, .ifCond .lt 14, 1, 0, []), (4, .iload_n 1, 0, 0, []), (5, .aload_n 0, 0, 0, []), (6, .getfield 10, 9, 0, [0]), (9, .getfield 68, 6, 1, [0]), (12, .if_icmp .le 6, 2, 0, []), (15, .nop, 1, 0, [])], [(15, .bipush (-2), 0, 0, []), (17, .ireturn, 0, 0, [])], [(18, .aload_n 0, 0, 0, []), (19, .getfield 23, 9, 2, [0]), (22, .aload_n 0, 0, 0, []), (23, .getfield 19, 9, 1, [0]), (26, .invokevirtual 83, 10, 1, [2, 0, 0]), (29, .aload_n 0, 0, 0, []), (30, .getfield 31, 9, 3, [0]), (33, .iload_n 1, 0, 0, []), (34, .iconst 1, 0, 0, []), (35, .invokevirtual 75, 38, 4, [3, 0, 0]), (38, .istore_n 2, 0, 0, []), (39, .aload_n 0, 0, 0, []), (40, .iload_n 2, 0, 0, []), (41, .invokevirtual 79, 116, 9, [2, 0, 0]), (44, .ireturn, 0, 0, [])]]
def zB_116 : mzB := [[(0, .aload_n 0, 0, 0, []), (1, .getfield 10, 9, 0, [0]), (4, .iconst 0, 0, 0, []), (5, .putfield 68, 6, 1, [0]), (8, .iload_n 1, 0, 0, []), (9, .ifCond .ne 5, 1, 0, []), (12, .iconst (-1), 0, 0, []), (13, .ireturn, 0, 0, [])], [(14, .aload_n 0, 0, 0, []), (15, .getfield 23, 9, 2, [0]), (18, .invokevirtual 86, 19, 1, [1, 0, 0]), (21, .aload_n 0, 0, 0, []), (22, .getfield 19, 9, 1, [0]), (25, .aload_n 0, 0, 0, []), (26, .getfield 23, 9, 2, [0]), (29, .invokevirtual 83, 10, 1, [2, 0, 0]), (32, .aload_n 0, 0, 0, []), (33, .getfield 40, 9, 4, [0]), (36, .invokevirtual 89, 52, 5, [1, 0, 0]), (39, .aload_n 0, 0, 0, []), (40, .getfield 56, 9, 6, [0]), (43, .invokevirtual 92, 1, 0, [1, 0, 0]), (46, .aload_n 0, 0, 0, []), (47, .getfield 31, 9, 3, [0]), (50, .getfield 95, 4, 7, [0]), (53, .ireturn, 0, 0, [])]]
def zB_117 : mzB := [[(0, .iload_n 1, 0, 0, []), (1, .ifCond .ne 11, 1, 0, []), (4, .aload_n 0, 0, 0, []), (5, .getfield 31, 9, 3, [0]), (8, .getfield 98, 4, 5, [0]), (11, .ireturn, 0, 0, [])], [(12, .iload_n 1, 0, 0, []), (13, .iconst 1, 0, 0, []), (14, .if_icmp .ne 13, 2, 0, []), (17, .aload_n 0, 0, 0, []), (18, .getfield 31, 9, 3, [0]), (21, .getfield 101, 4, 6, [0]), (24, .goto 4, 3, 0, [])], [(27, .iconst (-1), 0, 0, []), (28, .nop, 3, 0, [])], [(28, .ireturn, 0, 0, [])]]
def zB_118 : mzB := [[(0, .aload_n 0, 0, 0, []), (1, .getfield 19, 9, 1, [0]), (4, .iload_n 1, 0, 0, []), (5, .invokevirtual 104, 11, 1, [2, 0, 0]), (8, .ifCond .eq 14, 1, 0, []), (11, .aload_n 0, 0, 0, []), (12, .getfield 19, 9, 1, [0]), (15, .iload_n 2, 0, 0, []), (16, .invokevirtual 104, 11, 1, [2, 0, 0]), (19, .ifCond .ne 5, 2, 0, []), (22, .nop, 1, 0, [])], [(22, .iconst (-1), 0, 0, []), (23, .ireturn, 0, 0, [])], [(24, .aload_n 0, 0, 0, []), (25, .getfield 19, 9, 1, [0]), (28, .iload_n 1, 0, 0, []), (29, .iload_n 2, 0, 0, []), (30, .invokevirtual 107, 17, 1, [3, 0, 0]), (33, .ireturn, 0, 0, [])]]
def zB_119 : mzB := [[(0, .aload_n 0, 0, 0, []), (1, .getfield 19, 9, 1, [0]), (4, .iload_n 1, 0, 0, []), (5, .invokevirtual 111, 12, 1, [2, 0, 0]), (8, .ifCond .ne 13, 1, 0, []), (11, .new 114, 0, 0, []), (14, .dup, 0, 0, []), (15, .ldc 116, 0, 0, []), (17, .invokespecial 118, 0, 0, []), (20, .athrow, 0, 0, [])], [(21, .iload_n 2, 0, 0, []), (22, .tableswitch 121 0 6 #[42, 52, 62, 72, 82, 92, 104], 11, 0, [2, 3, 4, 5, 6, 7, 8])], [(64, .aload_n 0, 0, 0, []), (65, .getfield 19, 9, 1, [0]), (68, .getfield 121, 1, 2, [0]), (71, .iload_n 1, 0, 0, []), (72, .iaload, 0, 0, []), (73, .ireturn, 0, 0, [])], [(74, .aload_n 0, 0, 0, []), (75, .getfield 19, 9, 1, [0]), (78, .getfield 125, 1, 3, [0]), (81, .iload_n 1, 0, 0, []), (82, .iaload, 0, 0, []), (83, .ireturn, 0, 0, [])], [(84, .aload_n 0, 0, 0, []), (85, .getfield 19, 9, 1, [0]), (88, .getfield 128, 1, 4, [0]), (91, .iload_n 1, 0, 0, []), (92, .iaload, 0, 0, []), (93, .ireturn, 0, 0, [])], [(94, .aload_n 0, 0, 0, []), (95, .getfield 19, 9, 1, [0]), (98, .getfield 131, 1, 5, [0]), (101, .iload_n 1, 0, 0, []), (102, .iaload, 0, 0, []), (103, .ireturn, 0, 0, [])], [(104, .aload_n 0, 0, 0, []), (105, .getfield 40, 9, 4, [0]), (108, .getfield 134, 5, 3, [0]), (111, .iload_n 1, 0, 0, []), (112, .iaload, 0, 0, []), (113, .ireturn, 0, 0, [])], [(114, .aload_n 0, 0, 0, []), (115, .getfield 40, 9, 4, [0]), (118, .getfield 137, 5, 0, [0]), (121, .iload_n 1, 0, 0, []), (122, .invokevirtual 141, 26, 2, [2, 0, 0]), (125, .ireturn, 0, 0, [])], [(126, .aload_n 0, 0, 0, []), (127, .getfield 19, 9, 1, [0]), (130, .iload_n 1, 0, 0, []), (131, .invokevirtual 147, 20, 1, [2, 0, 0]), (134, .ifCond .eq 7, 9, 0, []), (137, .iconst 1, 0, 0, []), (138, .goto 4, 10, 0, [])], [(141, .iconst 0, 0, 0, []), (142, .nop, 10, 0, [])], [(142, .ireturn, 0, 0, [])], [(143, .new 150, 0, 0, []), (146, .dup, 0, 0, []), (147, .ldc 152, 0, 0, []), (149, .invokespecial 154, 0, 0, []), (152, .athrow, 0, 0, [])]]
def zB_120 : mzB := [[(0, .iload_n 1, 0, 0, []), (1, .invokestatic 155, 149, 9, [1, 0, 0]), (4, .ifCond .eq 20, 1, 0, []), (7, .iload_n 2, 0, 0, []), (8, .invokestatic 158, 150, 9, [1, 0, 0]), (11, .ifCond .eq 13, 1, 0, []), (14, .iload_n 3, 0, 0, []), (15, .ifCond .lt 9, 1, 0, []), (18, .iload_n 3, 0, 0, []), (19, .bipush 9, 0, 0, []), (21, .if_icmp .le 5, 2, 0, []), (24, .nop, 1, 0, [])], [(24, .iconst (-1), 0, 0, []), (25, .ireturn, 0, 0, [])], [(26, .aload_n 0, 0, 0, []), (27, .getfield 40, 9, 4, [0]), (30, .iload_n 2, 0, 0, []), (31, .invokevirtual 161, 55, 5, [2, 0, 0]), (34, .iload_n 1, 0, 0, []), (35, .iload_n 3, 0, 0, []), (36, .invokevirtual 165, 109, 8, [3, 0, 0]), (39, .ireturn, 0, 0, [])]]
def zB_121 : mzB := [[(0, .iload_n 1, 0, 0, []), (1, .invokestatic 155, 149, 9, [1, 0, 0]), (4, .ifCond .eq 14, 1, 0, []), (7, .iload_n 2, 0, 0, []), (8, .invokestatic 158, 150, 9, [1, 0, 0]), (11, .ifCond .eq 7, 1, 0, []), (14, .iload_n 3, 0, 0, []), (15, .ifCond .ge 5, 2, 0, []), (18, .nop, 1, 0, [])], [(18, .iconst (-1), 0, 0, []), (19, .ireturn, 0, 0, [])], [(20, .aload_n 0, 0, 0, []), (21, .getfield 40, 9, 4, [0]), (24, .iload_n 2, 0, 0, []), (25, .invokevirtual 161, 55, 5, [2, 0, 0]), (28, .iload_n 1, 0, 0, []), (29, .invokevirtual 170, 104, 8, [2, 0, 0]), (32, .iload_n 3, 0, 0, []), (33, .invokestatic 174, 153, 9, [2, 0, 0]), (36, .ireturn, 0, 0, [])]]
def zB_122 : mzB := [[(0, .aload_n 0, 0, 0, []), (1, .iload_n 1, 0, 0, []), (2, .invokevirtual 178, 152, 9, [2, 0, 0]), (5, .ifCond .eq 14, 1, 0, []), (8, .iload_n 2, 0, 0, []), (9, .invokestatic 158, 150, 9, [1, 0, 0]), (12, .ifCond .eq 7, 1, 0, []), (15, .iload_n 3, 0, 0, []), (16, .ifCond .ge 5, 2, 0, []), (19, .nop, 1, 0, [])], [(19, .iconst (-1), 0, 0, []), (20, .ireturn, 0, 0, [])], [(21, .aload_n 0, 0, 0, []), (22, .getfield 40, 9, 4, [0]), (25, .iload_n 2, 0, 0, []), (26, .invokevirtual 161, 55, 5, [2, 0, 0]), (29, .iload_n 1, 0, 0, []), (30, .invokevirtual 181, 105, 8, [2, 0, 0]), (33, .iload_n 3, 0, 0, []), (34, .invokestatic 174, 153, 9, [2, 0, 0]), (37, .ireturn, 0, 0, [])]]
def zB_123 : mzB := [[(0, .iload_n 1, 0, 0, []), (1, .invokestatic 158, 150, 9, [1, 0, 0]), (4, .ifCond .eq 12, 1, 0, []), (7, .iload_n 2, 0, 0, []), (8, .ifCond .lt 8, 1, 0, []), (11, .iload_n 2, 0, 0, []), (12, .iconst 5, 0, 0, []), (13, .if_icmp .le 5, 2, 0, []), (16, .nop, 1, 0, [])], [(16, .iconst (-1), 0, 0, []), (17, .ireturn, 0, 0, [])], [(18, .aload_n 0, 0, 0, []), (19, .getfield 40, 9, 4, [0]), (22, .iload_n 1, 0, 0, []), (23, .invokevirtual 161, 55, 5, [2, 0, 0]), (26, .iload_n 2, 0, 0, []), (27, .invokevirtual 184, 110, 8, [2, 0, 0]), (30, .ireturn, 0, 0, [])]]
def zB_124 : mzB := [[(0, .iload_n 1, 0, 0, []), (1, .invokestatic 155, 149, 9, [1, 0, 0]), (4, .ifCond .eq 16, 1, 0, []), (7, .iload_n 2, 0, 0, []), (8, .ifCond .lt 12, 1, 0, []), (11, .iload_n 3, 0, 0, []), (12, .ifCond .lt 8, 1, 0, []), (15, .iload_n 3, 0, 0, []), (16, .iconst 1, 0, 0, []), (17, .if_icmp .le 6, 2, 0, []), (20, .nop, 1, 0, [])], [(20, .bipush (-10), 0, 0, []), (22, .ireturn, 0, 0, [])], [(23, .aload_n 0, 0, 0, []), (24, .getfield 40, 9, 4, [0]), (27, .iload_n 1, 0, 0, []), (28, .iload_n 2, 0, 0, []), (29, .iload_n 3, 0, 0, []), (30, .ifCond .ne 7, 3, 0, []), (33, .iconst 1, 0, 0, []), (34, .goto 4, 4, 0, [])], [(37, .iconst 0, 0, 0, []), (38, .nop, 4, 0, [])], [(38, .invokevirtual 187, 59, 5, [4, 0, 0]), (41, .ireturn, 0, 0, [])]]
def zB_125 : mzB := [[(0, .iload_n 1, 0, 0, []), (1, .ifCond .lt 21, 1, 0, []), (4, .iload_n 1, 0, 0, []), (5, .aload_n 0, 0, 0, []), (6, .getfield 19, 9, 1, [0]), (9, .getfield 191, 1, 9, [0]), (12, .if_icmp .gt 10, 1, 0, []), (15, .iload_n 2, 0, 0, []), (16, .invokestatic 155, 149, 9, [1, 0, 0]), (19, .ifCond .ne 5, 2, 0, []), (22, .nop, 1, 0, [])], [(22, .iconst (-1), 0, 0, []), (23, .ireturn, 0, 0, [])], [(24, .aload_n 0, 0, 0, []), (25, .getfield 40, 9, 4, [0]), (28, .iload_n 1, 0, 0, []), (29, .invokevirtual 192, 56, 5, [2, 0, 0]), (32, .iload_n 2, 0, 0, []), (33, .invokevirtual 195, 91, 8, [2, 0, 0]), (36, .ireturn, 0, 0, [])]]
def zB_126 : mzB := [[(0, .aload_n 0, 0, 0, []), (1, .getfield 19, 9, 1, [0]), (4, .iload_n 1, 0, 0, []), (5, .invokevirtual 111, 12, 1, [2, 0, 0]), (8, .ifCond .ne 5, 1, 0, []), (11, .iconst (-1), 0, 0, []), (12, .ireturn, 0, 0, [])], [(13, .aload_n 0, 0, 0, []), (14, .getfield 40, 9, 4, [0]), (17, .iload_n 1, 0, 0, []), (18, .invokevirtual 198, 57, 5, [2, 0, 0]), (21, .ireturn, 0, 0, [])]]
def zB_127 : mzB := [[(0, .aload_n 0, 0, 0, []), (1, .getfield 19, 9, 1, [0]), (4, .iload_n 1, 0, 0, []), (5, .invokevirtual 111, 12, 1, [2, 0, 0]), (8, .ifCond .eq 10, 1, 0, []), (11, .iload_n 2, 0, 0, []), (12, .invokestatic 155, 149, 9, [1, 0, 0]), (15, .ifCond .ne 5, 2, 0, []), (18, .nop, 1, 0, [])], [(18, .iconst (-1), 0, 0, []), (19, .ireturn, 0, 0, [])], [(20, .aload_n 0, 0, 0, []), (21, .getfield 49, 9, 5, [0]), (24, .iload_n 1, 0, 0, []), (25, .iload_n 2, 0, 0, []), (26, .invokevirtual 201, 29, 3, [3, 0, 0]), (29, .ireturn, 0, 0, [])]]
def zB_128 : mzB := [[(0, .iload_n 1, 0, 0, []), (1, .iconst (-1), 0, 0, []), (2, .if_icmp .lt 9, 1, 0, []), (5, .iload_n 1, 0, 0, []), (6, .bipush 12, 0, 0, []), (8, .if_icmp .le 6, 2, 0, []), (11, .nop, 1, 0, [])], [(11, .bipush (-2), 0, 0, []), (13, .ireturn, 0, 0, [])], [(14, .aload_n 0, 0, 0, []), (15, .getfield 40, 9, 4, [0]), (18, .iload_n 1, 0, 0, []), (19, .invokevirtual 204, 58, 5, [2, 0, 0]), (22, .ireturn, 0, 0, [])]]
def zB_129 : mzB := [[(0, .iload_n 1, 0, 0, []), (1, .ifCond .lt 8, 1, 0, []), (4, .iload_n 1, 0, 0, []), (5, .iconst 1, 0, 0, []), (6, .if_icmp .le 5, 2, 0, []), (9, .nop, 1, 0, [])], [(9, .iconst (-1), 0, 0, []), (10, .ireturn, 0, 0, [])], [(11, .aload_n 0, 0, 0, []), (12, .getfield 19, 9, 1, [0]), (15, .getfield 191, 1, 9, [0]), (18, .ifCond .ne 6, 3, 0, []), (21, .bipush (-2), 0, 0, []), (23, .ireturn, 0, 0, [])], [(24, .aload_n 0, 0, 0, []), (25, .getfield 56, 9, 6, [0]), (28, .invokevirtual 207, 2, 0, [1, 0, 0]), (31, .iload_n 1, 0, 0, []), (32, .ifCond .ne 13, 4, 0, []), (35, .aload_n 0, 0, 0, []), (36, .getfield 56, 9, 6, [0]), (39, .getfield 210, 0, 7, [0]), (42, .goto 10, 5, 0, [])], [(45, .aload_n 0, 0, 0, []), (46, .getfield 56, 9, 6, [0]), (49, .getfield 213, 0, 8, [0]), (52, .nop, 5, 0, [])], [(52, .ireturn, 0, 0, [])]]
def zB_130 : mzB := [[(0, .iload_n 1, 0, 0, []), (1, .ifCond .lt 8, 1, 0, []), (4, .iload_n 1, 0, 0, []), (5, .iconst 2, 0, 0, []), (6, .if_icmp .le 5, 2, 0, []), (9, .nop, 1, 0, [])], [(9, .iconst (-1), 0, 0, []), (10, .ireturn, 0, 0, [])], [(11, .aload_n 0, 0, 0, []), (12, .getfield 19, 9, 1, [0]), (15, .getfield 191, 1, 9, [0]), (18, .iconst 2, 0, 0, []), (19, .if_icmp .ge 6, 3, 0, []), (22, .bipush (-2), 0, 0, []), (24, .ireturn, 0, 0, [])], [(25, .aload_n 0, 0, 0, []), (26, .getfield 56, 9, 6, [0]), (29, .invokevirtual 216, 3, 0, [1, 0, 0]), (32, .iload_n 1, 0, 0, []), (33, .iconst 2, 0, 0, []), (34, .if_icmp .ne 11, 4, 0, []), (37, .aload_n 0, 0, 0, []), (38, .getfield 56, 9, 6, [0]), (41, .getfield 219, 0, 11, [0]), (44, .ireturn, 0, 0, [])], [(45, .iload_n 1, 0, 0, []), (46, .ifCond .ne 13, 5, 0, []), (49, .aload_n 0, 0, 0, []), (50, .getfield 56, 9, 6, [0]), (53, .getfield 222, 0, 9, [0]), (56, .goto 10, 6, 0, [])], [(59, .aload_n 0, 0, 0, []), (60, .getfield 56, 9, 6, [0]), (63, .getfield 225, 0, 10, [0]), (66, .nop, 6, 0, [])], [(66, .ireturn, 0, 0, [])]]
def zB_131 : mzB := [[(0, .iload_n 1, 0, 0, []), (1, .invokestatic 155, 149, 9, [1, 0, 0]), (4, .ifCond .eq 14, 1, 0, []), (7, .iload_n 2, 0, 0, []), (8, .invokestatic 158, 150, 9, [1, 0, 0]), (11, .ifCond .eq 7, 1, 0, []), (14, .iload_n 3, 0, 0, []), (15, .ifCond .ge 5, 2, 0, []), (18, .nop, 1, 0, [])], [(18, .iconst (-1), 0, 0, []), (19, .ireturn, 0, 0, [])], [(20, .aload_n 0, 0, 0, []), (21, .getfield 40, 9, 4, [0]), (24, .iload_n 1, 0, 0, []), (25, .iload_n 2, 0, 0, []), (26, .invokevirtual 228, 64, 5, [3, 0, 0]), (29, .iload_n 3, 0, 0, []), (30, .invokestatic 174, 153, 9, [2, 0, 0]), (33, .ireturn, 0, 0, [])]]
def zB_132 : mzB := [[(0, .iload_n 1, 0, 0, []), (1, .invokestatic 155, 149, 9, [1, 0, 0]), (4, .ifCond .eq 27, 1, 0, []), (7, .iload_n 2, 0, 0, []), (8, .invokestatic 158, 150, 9, [1, 0, 0]), (11, .ifCond .eq 20, 1, 0, []), (14, .iload_n 3, 0, 0, []), (15, .invokestatic 158, 150, 9, [1, 0, 0]), (18, .ifCond .eq 13, 1, 0, []), (21, .iload_n 3, 0, 0, []), (22, .iload_n 2, 0, 0, []), (23, .if_icmp .lt 8, 1, 0, []), (26, .iload 4, 0, 0, []), (28, .ifCond .ge 5, 2, 0, []), (31, .nop, 1, 0, [])], [(31, .iconst (-1), 0, 0, []), (32, .ireturn, 0, 0, [])], [(33, .aload_n 0, 0, 0, []), (34, .getfield 40, 9, 4, [0]), (37, .iload_n 1, 0, 0, []), (38, .iload_n 2, 0, 0, []), (39, .iload_n 3, 0, 0, []), (40, .invokevirtual 232, 65, 5, [4, 0, 0]), (43, .iload 4, 0, 0, []), (45, .invokestatic 174, 153, 9, [2, 0, 0]), (48, .ireturn, 0, 0, [])]]
def zB_133 : mzB := [[(0, .iload_n 1, 0, 0, []), (1, .invokestatic 155, 149, 9, [1, 0, 0]), (4, .ifCond .eq 14, 1, 0, []), (7, .aload_n 0, 0, 0, []), (8, .getfield 40, 9, 4, [0]), (11, .iload_n 1, 0, 0, []), (12, .invokevirtual 236, 66, 5, [2, 0, 0]), (15, .goto 4, 2, 0, [])], [(18, .iconst (-1), 0, 0, []), (19, .nop, 2, 0, [])], [(19, .ireturn, 0, 0, [])]]
def zB_134 : mzB := [[(0, .iload_n 1, 0, 0, []), (1, .invokestatic 155, 149, 9, [1, 0, 0]), (4, .ifCond .eq 10, 1, 0, []), (7, .iload_n 2, 0, 0, []), (8, .invokestatic 158, 150, 9, [1, 0, 0]), (11, .ifCond .ne 5, 2, 0, []), (14, .nop, 1, 0, [])], [(14, .iconst (-1), 0, 0, []), (15, .ireturn, 0, 0, [])], [(16, .aload_n 0, 0, 0, []), (17, .getfield 40, 9, 4, [0]), (20, .iload_n 1, 0, 0, []), (21, .iload_n 2, 0, 0, []), (22, .invokevirtual 239, 67, 5, [3, 0, 0]), (25, .ireturn, 0, 0, [])]]
def zB_135 : mzB := [[(0, .aload_n 0, 0, 0, []), (1, .getfield 19, 9, 1, [0]), (4, .iload_n 1, 0, 0, []), (5, .invokevirtual 104, 11, 1, [2, 0, 0]), (8, .ifCond .eq 10, 1, 0, []), (11, .iload_n 2, 0, 0, []), (12, .invokestatic 158, 150, 9, [1, 0, 0]), (15, .ifCond .ne 5, 2, 0, []), (18, .nop, 1, 0, [])], [(18, .iconst (-1), 0, 0, []), (19, .ireturn, 0, 0, [])], [(20, .aload_n 0, 0, 0, []), (21, .getfield 40, 9, 4, [0]), (24, .iload_n 2, 0, 0, []), (25, .invokevirtual 161, 55, 5, [2, 0, 0]), (28, .iload_n 1, 0, 0, []), (29, .invokevirtual 242, 108, 8, [2, 0, 0]), (32, .ireturn, 0, 0, [])]]
def zB_136 : mzB := [[(0, .iload_n 1, 0, 0, []), (1, .invokestatic 155, 149, 9, [1, 0, 0]), (4, .ifCond .eq 11, 1, 0, []), (7, .aload_n 0, 0, 0, []), (8, .iload_n 2, 0, 0, []), (9, .invokevirtual 245, 151, 9, [2, 0, 0]), (12, .ifCond .ne 5, 2, 0, []), (15, .nop, 1, 0, [])], [(15, .iconst (-1), 0, 0, []), (16, .ireturn, 0, 0, [])], [(17, .aload_n 0, 0, 0, []), (18, .getfield 40, 9, 4, [0]), (21, .iload_n 1, 0, 0, []), (22, .iload_n 2, 0, 0, []), (23, .invokevirtual 248, 60, 5, [3, 0, 0]), (26, .ireturn, 0, 0, [])]]
def zB_137 : mzB := [[(0, .aload_n 0, 0, 0, []), (1, .iload_n 1, 0, 0, []), (2, .invokevirtual 245, 151, 9, [2, 0, 0]), (5, .ifCond .eq 16, 1, 0, []), (8, .aload_n 0, 0, 0, []), (9, .iload_n 2, 0, 0, []), (10, .invokevirtual 178, 152, 9, [2, 0, 0]), (13, .ifCond .eq 8, 1, 0, []), (16, .iload_n 1, 0, 0, []), (17, .iload_n 2, 0, 0, []), (18, .if_icmp .ne 5, 2, 0, []), (21, .nop, 1, 0, [])], [(21, .iconst (-1), 0, 0, []), (22, .ireturn, 0, 0, [])], [(23, .aload_n 0, 0, 0, []), (24, .getfield 40, 9, 4, [0]), (27, .iload_n 1, 0, 0, []), (28, .iload_n 2, 0, 0, []), (29, .invokevirtual 251, 61, 5, [3, 0, 0]), (32, .ireturn, 0, 0, [])]]
def zB_138 : mzB := [[(0, .aload_n 0, 0, 0, []), (1, .getfield 19, 9, 1, [0]), (4, .iload_n 1, 0, 0, []), (5, .invokevirtual 111, 12, 1, [2, 0, 0]), (8, .ifCond .ne 5, 1, 0, []), (11, .iconst (-1), 0, 0, []), (12, .ireturn, 0, 0, [])], [(13, .aload_n 0, 0, 0, []), (14, .getfield 40, 9, 4, [0]), (17, .getfield 134, 5, 3, [0]), (20, .iload_n 1, 0, 0, []), (21, .iaload, 0, 0, []), (22, .ifCond .ne 6, 2, 0, []), (25, .bipush (-3), 0, 0, []), (27, .ireturn, 0, 0, [])], [(28, .aload_n 0, 0, 0, []), (29, .getfield 49, 9, 5, [0]), (32, .iload_n 1, 0, 0, []), (33, .invokevirtual 254, 31, 3, [2, 0, 0]), (36, .iconst 0, 0, 0, []), (37, .invokestatic 174, 153, 9, [2, 0, 0]), (40, .ireturn, 0, 0, [])]]
def zB_139 : mzB := [[(0, .aload_n 0, 0, 0, []), (1, .getfield 19, 9, 1, [0]), (4, .iload_n 1, 0, 0, []), (5, .invokevirtual 111, 12, 1, [2, 0, 0]), (8, .ifCond .eq 7, 1, 0, []), (11, .iload_n 2, 0, 0, []), (12, .ifCond .ge 5, 2, 0, []), (15, .nop, 1, 0, [])], [(15, .iconst (-1), 0, 0, []), (16, .ireturn, 0, 0, [])], [(17, .aload_n 0, 0, 0, []), (18, .getfield 40, 9, 4, [0]), (21, .getfield 134, 5, 3, [0]), (24, .iload_n 1, 0, 0, []), (25, .iaload, 0, 0, []), (26, .ifCond .eq 6, 3, 0, []), (29, .bipush (-3), 0, 0, []), (31, .ireturn, 0, 0, [])], [(32, .aload_n 0, 0, 0, []), (33, .getfield 49, 9, 5, [0]), (36, .iload_n 1, 0, 0, []), (37, .invokevirtual 254, 31, 3, [2, 0, 0]), (40, .iload_n 2, 0, 0, []), (41, .invokestatic 174, 153, 9, [2, 0, 0]), (44, .ireturn, 0, 0, [])]]
def zB_140 : mzB := [[(0, .aload_n 0, 0, 0, []), (1, .getfield 19, 9, 1, [0]), (4, .iload_n 1, 0, 0, []), (5, .invokevirtual 111, 12, 1, [2, 0, 0]), (8, .ifCond .eq 21, 1, 0, []), (11, .iload_n 2, 0, 0, []), (12, .invokestatic 158, 150, 9, [1, 0, 0]), (15, .ifCond .eq 14, 1, 0, []), (18, .iload_n 3, 0, 0, []), (19, .iconst (-1), 0, 0, []), (20, .if_icmp .lt 9, 1, 0, []), (23, .iload_n 3, 0, 0, []), (24, .bipush 40, 0, 0, []), (26, .if_icmp .lt 7, 2, 0, []), (29, .nop, 1, 0, [])], [(29, .sipush (-1000), 0, 0, []), (32, .ireturn, 0, 0, [])], [(33, .aload_n 0, 0, 0, []), (34, .getfield 49, 9, 5, [0]), (37, .iload_n 1, 0, 0, []), (38, .iload_n 2, 0, 0, []), (39, .iload_n 3, 0, 0, []), (40, .invokevirtual 257, 32, 3, [4, 0, 0]), (43, .ireturn, 0, 0, [])]]
def zB_141 : mzB := [[(0, .aload_n 0, 0, 0, []), (1, .getfield 19, 9, 1, [0]), (4, .iload_n 1, 0, 0, []), (5, .invokevirtual 111, 12, 1, [2, 0, 0]), (8, .ifCond .eq 12, 1, 0, []), (11, .iload_n 2, 0, 0, []), (12, .ifCond .lt 8, 1, 0, []), (15, .iload_n 2, 0, 0, []), (16, .iconst 2, 0, 0, []), (17, .if_icmp .le 5, 2, 0, []), (20, .nop, 1, 0, [])], [(20, .iconst (-1), 0, 0, []), (21, .ireturn, 0, 0, [])], [(22, .aload_n 0, 0, 0, []), (23, .getfield 49, 9, 5, [0]), (26, .iload_n 1, 0, 0, []), (27, .invokevirtual 261, 35, 3, [2, 0, 0]), (30, .iload_n 2, 0, 0, []), (31, .iconst 2, 0, 0, []), (32, .if_icmp .ne 11, 3, 0, []), (35, .aload_n 0, 0, 0, []), (36, .getfield 49, 9, 5, [0]), (39, .getfield 264, 3, 6, [0]), (42, .ireturn, 0, 0, [])], [(43, .iload_n 2, 0, 0, []), (44, .ifCond .ne 13, 4, 0, []), (47, .aload_n 0, 0, 0, []), (48, .getfield 49, 9, 5, [0]), (51, .getfield 267, 3, 4, [0]), (54, .goto 10, 5, 0, [])], [(57, .aload_n 0, 0, 0, []), (58, .getfield 49, 9, 5, [0]), (61, .getfield 270, 3, 5, [0]), (64, .nop, 5, 0, [])], [(64, .ireturn, 0, 0, [])]]
def zB_142 : mzB := [[(0, .iload_n 1, 0, 0, []), (1, .invokestatic 158, 150, 9, [1, 0, 0]), (4, .ifCond .eq 14, 1, 0, []), (7, .iload_n 2, 0, 0, []), (8, .invokestatic 158, 150, 9, [1, 0, 0]), (11, .ifCond .eq 7, 1, 0, []), (14, .iload_n 3, 0, 0, []), (15, .ifCond .ge 5, 2, 0, []), (18, .nop, 1, 0, [])], [(18, .iconst (-1), 0, 0, []), (19, .ireturn, 0, 0, [])], [(20, .aload_n 0, 0, 0, []), (21, .getfield 40, 9, 4, [0]), (24, .iload_n 1, 0, 0, []), (25, .invokevirtual 161, 55, 5, [2, 0, 0]), (28, .iload_n 1, 0, 0, []), (29, .iload_n 2, 0, 0, []), (30, .isub, 0, 0, []), (31, .invokevirtual 273, 106, 8, [2, 0, 0]), (34, .iload_n 3, 0, 0, []), (35, .invokestatic 174, 153, 9, [2, 0, 0]), (38, .ireturn, 0, 0, [])]]
def zB_143 : mzB := [[(0, .aload_n 0, 0, 0, []), (1, .getfield 19, 9, 1, [0]), (4, .iload_n 1, 0, 0, []), (5, .invokevirtual 111, 12, 1, [2, 0, 0]), (8, .ifCond .eq 30, 1, 0, []), (11, .aload_n 0, 0, 0, []), (12, .getfield 19, 9, 1, [0]), (15, .iload_n 2, 0, 0, []), (16, .invokevirtual 111, 12, 1, [2, 0, 0]), (19, .ifCond .eq 19, 1, 0, []), (22, .iload_n 1, 0, 0, []), (23, .iload_n 2, 0, 0, []), (24, .if_icmp .eq 14, 1, 0, []), (27, .iload_n 3, 0, 0, []), (28, .iconst (-1), 0, 0, []), (29, .if_icmp .lt 9, 1, 0, []), (32, .iload_n 3, 0, 0, []), (33, .bipush 40, 0, 0, []), (35, .if_icmp .lt 7, 2, 0, []), (38, .nop, 1, 0, [])], [(38, .sipush (-1000), 0, 0, []), (41, .ireturn, 0, 0, [])], [(42, .aload_n 0, 0, 0, []), (43, .getfield 49, 9, 5, [0]), (46, .iload_n 1, 0, 0, []), (47, .iload_n 2, 0, 0, []), (48, .iload_n 3, 0, 0, []), (49, .invokevirtual 276, 33, 3, [4, 0, 0]), (52, .ireturn, 0, 0, [])]]
def zB_144 : mzB := [[(0, .aload_n 0, 0, 0, []), (1, .iload_n 1, 0, 0, []), (2, .invokevirtual 178, 152, 9, [2, 0, 0]), (5, .ifCond .eq 12, 1, 0, []), (8, .iload_n 2, 0, 0, []), (9, .ifCond .lt 8, 1, 0, []), (12, .iload_n 2, 0, 0, []), (13, .iconst 1, 0, 0, []), (14, .if_icmp .le 5, 2, 0, []), (17, .nop, 1, 0, [])], [(17, .iconst (-1), 0, 0, []), (18, .ireturn, 0, 0, [])], [(19, .aload_n 0, 0, 0, []), (20, .getfield 40, 9, 4, [0]), (23, .iload_n 1, 0, 0, []), (24, .iload_n 2, 0, 0, []), (25, .ifCond .ne 7, 3, 0, []), (28, .iconst 1, 0, 0, []), (29, .goto 4, 4, 0, [])], [(32, .iconst 0, 0, 0, []), (33, .nop, 4, 0, [])], [(33, .invokevirtual 279, 63, 5, [3, 0, 0]), (36, .ireturn, 0, 0, [])]]
def zB_145 : mzB := [[(0, .iload_n 1, 0, 0, []), (1, .invokestatic 155, 149, 9, [1, 0, 0]), (4, .ifCond .eq 14, 1, 0, []), (7, .aload_n 0, 0, 0, []), (8, .getfield 40, 9, 4, [0]), (11, .iload_n 1, 0, 0, []), (12, .invokevirtual 283, 62, 5, [2, 0, 0]), (15, .goto 4, 2, 0, [])], [(18, .iconst (-1), 0, 0, []), (19, .nop, 2, 0, [])], [(19, .ireturn, 0, 0, [])]]
def zB_146 : mzB := [[(0, .iload_n 1, 0, 0, []), (1, .invokestatic 155, 149, 9, [1, 0, 0]), (4, .ifCond .eq 16, 1, 0, []), (7, .iload_n 2, 0, 0, []), (8, .ifCond .lt 12, 1, 0, []), (11, .iload_n 3, 0, 0, []), (12, .ifCond .lt 8, 1, 0, []), (15, .iload_n 3, 0, 0, []), (16, .iconst 2, 0, 0, []), (17, .if_icmp .le 5, 2, 0, []), (20, .nop, 1, 0, [])], [(20, .iconst (-1), 0, 0, []), (21, .ireturn, 0, 0, [])], [(22, .aload_n 0, 0, 0, []), (23, .getfield 40, 9, 4, [0]), (26, .iload_n 1, 0, 0, []), (27, .iload_n 2, 0, 0, []), (28, .invokevirtual 286, 68, 5, [3, 0, 0]), (31, .istore 4, 0, 0, []), (33, .iload 4, 0, 0, []), (35, .bipush (-2), 0, 0, []), (37, .if_icmp .eq 8, 3, 0, []), (40, .iload_n 3, 0, 0, []), (41, .iconst 2, 0, 0, []), (42, .if_icmp .ne 6, 4, 0, []), (45, .nop, 3, 0, [])], [(45, .iload 4, 0, 0, []), (47, .ireturn, 0, 0, [])], [(48, .iload_n 3, 0, 0, []), (49, .ifCond .ne 16, 5, 0, []), (52, .aload_n 0, 0, 0, []), (53, .getfield 19, 9, 1, [0]), (56, .getfield 131, 1, 5, [0]), (59, .iload 4, 0, 0, []), (61, .iaload, 0, 0, []), (62, .goto 13, 6, 0, [])], [(65, .aload_n 0, 0, 0, []), (66, .getfield 19, 9, 1, [0]), (69, .getfield 121, 1, 2, [0]), (72, .iload 4, 0, 0, []), (74, .iaload, 0, 0, []), (75, .nop, 6, 0, [])], [(75, .ireturn, 0, 0, [])]]
def zB_147 : mzB := [[(0, .iload_n 1, 0, 0, []), (1, .invokestatic 155, 149, 9, [1, 0, 0]), (4, .ifCond .eq 21, 1, 0, []), (7, .iload_n 2, 0, 0, []), (8, .invokestatic 158, 150, 9, [1, 0, 0]), (11, .ifCond .eq 14, 1, 0, []), (14, .aload_n 0, 0, 0, []), (15, .getfield 19, 9, 1, [0]), (18, .iload_n 3, 0, 0, []), (19, .invokevirtual 104, 11, 1, [2, 0, 0]), (22, .ifCond .ne 5, 2, 0, []), (25, .nop, 1, 0, [])], [(25, .iconst (-1), 0, 0, []), (26, .ireturn, 0, 0, [])], [(27, .aload_n 0, 0, 0, []), (28, .getfield 40, 9, 4, [0]), (31, .iload_n 2, 0, 0, []), (32, .invokevirtual 161, 55, 5, [2, 0, 0]), (35, .astore 4, 0, 0, []), (37, .aload 4, 0, 0, []), (39, .iload_n 1, 0, 0, []), (40, .invokevirtual 195, 91, 8, [2, 0, 0]), (43, .istore 5, 0, 0, []), (45, .iload 5, 0, 0, []), (47, .ifCond .lt 9, 3, 0, []), (50, .iload 5, 0, 0, []), (52, .iload_n 3, 0, 0, []), (53, .if_icmp .ne 15, 6, 0, []), (56, .nop, 3, 0, [])], [(56, .iload 5, 0, 0, []), (58, .ifCond .ge 8, 4, 0, []), (61, .iload 5, 0, 0, []), (63, .goto 4, 5, 0, [])], [(66, .iload_n 2, 0, 0, []), (67, .nop, 5, 0, [])], [(67, .ireturn, 0, 0, [])], [(68, .aload_n 0, 0, 0, []), (69, .getfield 19, 9, 1, [0]), (72, .iload 5, 0, 0, []), (74, .iload_n 3, 0, 0, []), (75, .invokevirtual 107, 17, 1, [3, 0, 0]), (78, .istore 6, 0, 0, []), (80, .iload 6, 0, 0, []), (82, .bipush (-2), 0, 0, []), (84, .if_icmp .ne 8, 7, 0, []), (87, .bipush (-2), 0, 0, []), (89, .goto 16, 8, 0, [])], [(92, .iload_n 2, 0, 0, []), (93, .aload 4, 0, 0, []), (95, .iload_n 1, 0, 0, []), (96, .invokevirtual 289, 92, 8, [2, 0, 0]), (99, .iload 6, 0, 0, []), (101, .iadd, 0, 0, []), (102, .invokestatic 292, 0, 0, [1]), (105, .nop, 8, 0, [])], [(105, .ireturn, 0, 0, [])]]
def zB_148 : mzB := [[(0, .iload_n 1, 0, 0, []), (1, .tableswitch 99 0 6 #[43, 51, 59, 67, 75, 83, 91], 8, 0, [1, 2, 3, 4, 5, 6, 7])], [(44, .aload_n 0, 0, 0, []), (45, .getfield 19, 9, 1, [0]), (48, .getfield 297, 1, 7, [0]), (51, .ireturn, 0, 0, [])], [(52, .aload_n 0, 0, 0, []), (53, .getfield 19, 9, 1, [0]), (56, .getfield 300, 1, 8, [0]), (59, .ireturn, 0, 0, [])], [(60, .aload_n 0, 0, 0, []), (61, .getfield 19, 9, 1, [0]), (64, .getfield 191, 1, 9, [0]), (67, .ireturn, 0, 0, [])], [(68, .aload_n 0, 0, 0, []), (69, .getfield 19, 9, 1, [0]), (72, .invokevirtual 303, 21, 1, [1, 0, 0]), (75, .ireturn, 0, 0, [])], [(76, .aload_n 0, 0, 0, []), (77, .getfield 19, 9, 1, [0]), (80, .getfield 307, 1, 10, [0]), (83, .ireturn, 0, 0, [])], [(84, .aload_n 0, 0, 0, []), (85, .getfield 19, 9, 1, [0]), (88, .getfield 310, 1, 11, [0]), (91, .ireturn, 0, 0, [])], [(92, .aload_n 0, 0, 0, []), (93, .getfield 10, 9, 0, [0]), (96, .getfield 68, 6, 1, [0]), (99, .ireturn, 0, 0, [])], [(100, .iconst (-1), 0, 0, []), (101, .ireturn, 0, 0, [])]]
def zB_149 : mzB := [[(0, .iload_n 0, 0, 0, []), (1, .ifCond .lt 13, 1, 0, []), (4, .iload_n 0, 0, 0, []), (5, .bipush 40, 0, 0, []), (7, .if_icmp .ge 7, 1, 0, []), (10, .iconst 1, 0, 0, []), (11, .goto 4, 2, 0, [])], [(14, .iconst 0, 0, 0, []), (15, .nop, 2, 0, [])], [(15, .ireturn, 1, 0, [])]]
def zB_150 : mzB := [[(0, .iload_n 0, 0, 0, []), (1, .ifCond .lt 14, 1, 0, []), (4, .iload_n 0, 0, 0, []), (5, .sipush 999, 0, 0, []), (8, .if_icmp .gt 7, 1, 0, []), (11, .iconst 1, 0, 0, []), (12, .goto 4, 2, 0, [])], [(15, .iconst 0, 0, 0, []), (16, .nop, 2, 0, [])], [(16, .ireturn, 1, 0, [])]]
def zB_151 : mzB := [[(0, .iload_n 1, 0, 0, []), (1, .bipush (-3), 0, 0, []), (3, .if_icmp .eq 14, 1, 0, []), (6, .aload_n 0, 0, 0, []), (7, .getfield 19, 9, 1, [0]), (10, .iload_n 1, 0, 0, []), (11, .invokevirtual 104, 11, 1, [2, 0, 0]), (14, .ifCond .eq 7, 2, 0, []), (17, .nop, 1, 0, [])], [(17, .iconst 1, 0, 0, []), (18, .goto 4, 3, 0, [])], [(21, .iconst 0, 0, 0, []), (22, .nop, 3, 0, [])], [(22, .ireturn, 1, 0, [])]]
def zB_152 : mzB := [[(0, .iload_n 1, 0, 0, []), (1, .bipush (-4), 0, 0, []), (3, .if_icmp .eq 11, 1, 0, []), (6, .aload_n 0, 0, 0, []), (7, .iload_n 1, 0, 0, []), (8, .invokevirtual 245, 151, 9, [2, 0, 0]), (11, .ifCond .eq 7, 2, 0, []), (14, .nop, 1, 0, [])], [(14, .iconst 1, 0, 0, []), (15, .goto 4, 3, 0, [])], [(18, .iconst 0, 0, 0, []), (19, .nop, 3, 0, [])], [(19, .ireturn, 1, 0, [])]]
def zB_153 : mzB := [[(0, .iconst 0, 0, 0, []), (1, .istore_n 3, 0, 0, []), (2, .iconst 0, 0, 0, []), (3, .istore 4, 0, 0, []), (5, .nop, 1, 0, [])], [(5, .iload 4, 0, 0, []), (7, .bipush 64, 0, 0, []), (9, .if_icmp .ge 31, 4, 0, []), (12, .lload_n 0, 0, 0, []), (13, .iload 4, 0, 0, []), (15, .lushr, 0, 0, []), (16, .lconst 1, 0, 0, []), (17, .land, 0, 0, []), (18, .lconst 0, 0, 0, []), (19, .lcmp, 0, 0, []), (20, .ifCond .eq 14, 3, 0, []), (23, .iload_n 3, 0, 0, []), (24, .iload_n 2, 0, 0, []), (25, .if_icmp .ne 6, 2, 0, []), (28, .iload 4, 0, 0, []), (30, .ireturn, 0, 0, [])], [(31, .iinc 3 1, 0, 0, []), (34, .nop, 3, 0, [])], [(34, .iinc 4 1, 0, 0, []), (37, .goto (-32), 1, 0, [])], [(40, .bipush (-2), 0, 0, []), (42, .ireturn, 0, 0, [])]]
def zB_154 : mzB := [[(0, .aload_n 0, 0, 0, []), (1, .invokespecial 1, 0, 0, [0]), (4, .aload_n 0, 0, 0, []), (5, .sipush 900, 0, 0, []), (8, .newarray .int, 0, 0, [0]), (10, .putfield 7, 10, 1, [2]), (13, .aload_n 0, 0, 0, []), (14, .sipush 369, 0, 0, []), (17, .newarray .int, 0, 0, [0]), (19, .putfield 13, 10, 3, [2]), (22, .aload_n 0, 0, 0, []), (23, .sipush 369, 0, 0, []), (26, .newarray .int, 0, 0, [0]), (28, .putfield 16, 10, 4, [2]), (31, .aload_n 0, 0, 0, []), (32, .bipush 8, 0, 0, []), (34, .newarray .int, 0, 0, [0]), (36, .putfield 19, 10, 5, [2]), (39, .aload_n 0, 0, 0, []), (40, .bipush 8, 0, 0, []), (42, .newarray .int, 0, 0, [0]), (44, .putfield 22, 10, 6, [2]), (47, .aload_n 0, 0, 0, []), (48, .iconst (-1), 0, 0, []), (49, .putfield 25, 10, 16, [0]), (52, .aload_n 0, 0, 0, []), (53, .bipush 64, 0, 0, []), (55, .newarray .int, 0, 0, [0]), (57, .putfield 29, 10, 20, [2]), (60, .aload_n 0, 0, 0, []), (61, .bipush 40, 0, 0, []), (63, .newarray .boolean, 1, 0, [0]), (65, .putfield 32, 10, 21, [2]), (68, .aload_n 0, 0, 0, []), (69, .bipush 40, 0, 0, []), (71, .newarray .int, 0, 0, [0]), (73, .putfield 36, 10, 22, [2]), (76, .aload_n 0, 0, 0, []), (77, .bipush 40, 0, 0, []), (79, .newarray .int, 0, 0, [0]), (81, .putfield 39, 10, 23, [2]), (84, .aload_n 0, 0, 0, []), (85, .bipush 40, 0, 0, []), (87, .newarray .int, 0, 0, [0]), (89, .putfield 42, 10, 24, [2]), (92, .aload_n 0, 0, 0, []), (93, .bipush 40, 0, 0, []), (95, .newarray .int, 0, 0, [0]), (97, .putfield 45, 10, 25, [2]), (100, .aload_n 0, 0, 0, []), (101, .bipush 40, 0, 0, []), (103, .newarray .int, 0, 0, [0]), (105, .putfield 48, 10, 26, [2]), (108, .aload_n 0, 0, 0, []), (109, .bipush 40, 0, 0, []), (111, .newarray .boolean, 1, 0, [0]), (113, .putfield 51, 10, 27, [2]), (116, .aload_n 0, 0, 0, []), (117, .bipush 40, 0, 0, []), (119, .newarray .boolean, 1, 0, [0]), (121, .putfield 54, 10, 28, [2]), (124, .aload_n 0, 0, 0, []), (125, .bipush 40, 0, 0, []), (127, .newarray .boolean, 1, 0, [0]), (129, .putfield 57, 10, 29, [2]), (132, .aload_n 0, 0, 0, []), (133, .bipush 40, 0, 0, []), (135, .newarray .boolean, 1, 0, [0]), (137, .putfield 60, 10, 30, [2]), (140, .aload_n 0, 0, 0, []), (141, .bipush 60, 0, 0, []), (143, .newarray .boolean, 1, 0, [0]), (145, .putfield 63, 10, 31, [2]), (148, .aload_n 0, 0, 0, []), (149, .bipush 60, 0, 0, []), (151, .newarray .int, 0, 0, [0]), (153, .putfield 66, 10, 32, [2]), (156, .aload_n 0, 0, 0, []), (157, .bipush 60, 0, 0, []), (159, .newarray .int, 0, 0, [0]), (161, .putfield 69, 10, 33, [2]), (164, .aload_n 0, 0, 0, []), (165, .bipush 60, 0, 0, []), (167, .newarray .int, 0, 0, [0]), (169, .putfield 72, 10, 35, [2]), (172, .aload_n 0, 0, 0, []), (173, .bipush 40, 0, 0, []), (175, .newarray .boolean, 1, 0, [0]), (177, .putfield 75, 10, 36, [2]), (180, .aload_n 0, 0, 0, []), (181, .bipush 61, 0, 0, []), (183, .newarray .int, 0, 0, [0]), (185, .putfield 78, 10, 37, [2]), (188, .aload_n 0, 0, 0, []), (189, .bipush 61, 0, 0, []), (191, .newarray .int, 0, 0, [0]), (193, .putfield 81, 10, 38, [2]), (196, .aload_n 0, 0, 0, []), (197, .bipush 40, 0, 0, []), (199, .newarray .int, 0, 0, [0]), (201, .putfield 84, 10, 40, [2]), (204, .aload_n 0, 0, 0, []), (205, .bipush 40, 0, 0, []), (207, .newarray .boolean, 1, 0, [0]), (209, .putfield 87, 10, 44, [2]), (212, .aload_n 0, 0, 0, []), (213, .invokevirtual 90, 172, 10, [1, 0, 0]), (216, .aload_n 0, 0, 0, []), (217, .invokevirtual 93, 174, 10, [1, 0, 0]), (220, .return_, 0, 0, [])]]
def zB_155 : mzB := [[(0, .aload_n 0, 0, 0, []), (1, .iconst 0, 0, 0, []), (2, .putfield 96, 10, 0, [0]), (5, .aload_n 0, 0, 0, []), (6, .getfield 99, 10, 2, [0]), (9, .sipush 880, 0, 0, []), (12, .if_icmp .le 5, 1, 0, []), (15, .iconst (-1), 0, 0, []), (16, .ireturn, 0, 0, [])], [(17, .iconst 0, 0, 0, []), (18, .istore 6, 0, 0, []), (20, .nop, 2, 0, [])], [(20, .iload 6, 0, 0, []), (22, .bipush 20, 0, 0, []), (24, .if_icmp .ge 86, 8, 0, []), (27, .iload 6, 0, 0, []), (29, .iconst 4, 0, 0, []), (30, .if_icmp .ge 7, 3, 0, []), (33, .iload_n 1, 0, 0, []), (34, .goto 39, 7, 0, [])], [(37, .iload 6, 0, 0, []), (39, .bipush 8, 0, 0, []), (41, .if_icmp .ge 7, 4, 0, []), (44, .iload_n 2, 0, 0, []), (45, .goto 28, 7, 0, [])], [(48, .iload 6, 0, 0, []), (50, .bipush 12, 0, 0, []), (52, .if_icmp .ge 7, 5, 0, []), (55, .iload_n 3, 0, 0, []), (56, .goto 17, 7, 0, [])], [(59, .iload 6, 0, 0, []), (61, .bipush 16, 0, 0, []), (63, .if_icmp .ge 8, 6, 0, []), (66, .iload 4, 0, 0, []), (68, .goto 5, 7, 0, [])], [(71, .iload 5, 0, 0, []), (73, .nop, 7, 0, [])], [(73, .istore 7, 0, 0, []), (75, .aload_n 0, 0, 0, []), (76, .getfield 7, 10, 1, [0]), (79, .aload_n 0, 0, 0, []), (80, .getfield 99, 10, 2, [0]), (83, .iload 6, 0, 0, []), (85, .iadd, 0, 0, []), (86, .iload 7, 0, 0, []), (88, .bipush 24, 0, 0, []), (90, .bipush 8, 0, 0, []), (92, .iload 6, 0, 0, []), (94, .iconst 4, 0, 0, []), (95, .irem, 0, 0, []), (96, .imul, 0, 0, []), (97, .isub, 0, 0, []), (98, .ishr, 0, 0, []), (99, .sipush 255, 0, 0, []), (102, .iand, 0, 0, []), (103, .iastore, 0, 0, []), (104, .iinc 6 1, 0, 0, []), (107, .goto (-87), 2, 0, [])], [(110, .aload_n 0, 0, 0, []), (111, .dup, 0, 0, []), (112, .getfield 99, 10, 2, [0]), (115, .bipush 20, 0, 0, []), (117, .iadd, 0, 0, []), (118, .putfield 99, 10, 2, [0]), (121, .aload_n 0, 0, 0, []), (122, .getfield 99, 10, 2, [0]), (125, .ireturn, 0, 0, [])]]
def zB_156 : mzB := [[(0, .aload_n 0, 0, 0, []), (1, .getfield 102, 10, 8, [0]), (4, .aload_n 0, 0, 0, []), (5, .getfield 105, 10, 7, [0]), (8, .if_icmp .ge 15, 1, 0, []), (11, .aload_n 0, 0, 0, []), (12, .getfield 7, 10, 1, [0]), (15, .aload_n 0, 0, 0, []), (16, .getfield 102, 10, 8, [0]), (19, .iaload, 0, 0, []), (20, .goto 4, 2, 0, [])], [(23, .iconst (-1), 0, 0, []), (24, .nop, 2, 0, [])], [(24, .ireturn, 0, 0, [])]]
def zB_157 : mzB := [[(0, .iload_n 0, 0, 0, []), (1, .bipush 97, 0, 0, []), (3, .if_icmp .lt 13, 1, 0, []), (6, .iload_n 0, 0, 0, []), (7, .bipush 122, 0, 0, []), (9, .if_icmp .gt 7, 1, 0, []), (12, .iconst 1, 0, 0, []), (13, .goto 4, 2, 0, [])], [(16, .iconst 0, 0, 0, []), (17, .nop, 2, 0, [])], [(17, .ireturn, 1, 0, [])]]
def zB_158 : mzB := [[(0, .iload_n 0, 0, 0, []), (1, .bipush 48, 0, 0, []), (3, .if_icmp .lt 13, 1, 0, []), (6, .iload_n 0, 0, 0, []), (7, .bipush 57, 0, 0, []), (9, .if_icmp .gt 7, 1, 0, []), (12, .iconst 1, 0, 0, []), (13, .goto 4, 2, 0, [])], [(16, .iconst 0, 0, 0, []), (17, .nop, 2, 0, [])], [(17, .ireturn, 1, 0, [])]]
def zB_159 : mzB := [[(0, .aload_n 0, 0, 0, []), (1, .invokevirtual 108, 156, 10, [1, 0, 0]), (4, .bipush 10, 0, 0, []), (6, .if_icmp .eq 12, 1, 0, []), (9, .aload_n 0, 0, 0, []), (10, .invokevirtual 108, 156, 10, [1, 0, 0]), (13, .bipush 32, 0, 0, []), (15, .if_icmp .ne 16, 2, 0, []), (18, .nop, 1, 0, [])], [(18, .aload_n 0, 0, 0, []), (19, .dup, 0, 0, []), (20, .getfield 102, 10, 8, [0]), (23, .iconst 1, 0, 0, []), (24, .iadd, 0, 0, []), (25, .putfield 102, 10, 8, [0]), (28, .goto (-28), 0, 0, [])], [(31, .aload_n 0, 0, 0, []), (32, .aload_n 0, 0, 0, []), (33, .getfield 102, 10, 8, [0]), (36, .putfield 112, 10, 9, [0]), (39, .aload_n 0, 0, 0, []), (40, .invokevirtual 108, 156, 10, [1, 0, 0]), (43, .istore_n 1, 0, 0, []), (44, .iload_n 1, 0, 0, []), (45, .iconst (-1), 0, 0, []), (46, .if_icmp .ne 11, 3, 0, []), (49, .aload_n 0, 0, 0, []), (50, .iconst 3, 0, 0, []), (51, .putfield 115, 10, 10, [0]), (54, .goto 207, 16, 0, [])], [(57, .iload_n 1, 0, 0, []), (58, .invokestatic 118, 157, 10, [1, 0, 0]), (61, .ifCond .eq 99, 9, 0, []), (64, .aload_n 0, 0, 0, []), (65, .iconst 0, 0, 0, []), (66, .putfield 122, 10, 12, [0]), (69, .nop, 4, 0, [])], [(69, .aload_n 0, 0, 0, []), (70, .invokevirtual 108, 156, 10, [1, 0, 0]), (73, .invokestatic 118, 157, 10, [1, 0, 0]), (76, .ifCond .eq 50, 6, 0, []), (79, .aload_n 0, 0, 0, []), (80, .getfield 102, 10, 8, [0]), (83, .aload_n 0, 0, 0, []), (84, .getfield 112, 10, 9, [0]), (87, .isub, 0, 0, []), (88, .bipush 6, 0, 0, []), (90, .if_icmp .ge 23, 5, 0, []), (93, .aload_n 0, 0, 0, []), (94, .aload_n 0, 0, 0, []), (95, .getfield 122, 10, 12, [0]), (98, .iconst 5, 0, 0, []), (99, .ishl, 0, 0, []), (100, .aload_n 0, 0, 0, []), (101, .invokevirtual 108, 156, 10, [1, 0, 0]), (104, .bipush 97, 0, 0, []), (106, .isub, 0, 0, []), (107, .iconst 1, 0, 0, []), (108, .iadd, 0, 0, []), (109, .ior, 0, 0, []), (110, .putfield 122, 10, 12, [0]), (113, .nop, 5, 0, [])], [(113, .aload_n 0, 0, 0, []), (114, .dup, 0, 0, []), (115, .getfield 102, 10, 8, [0]), (118, .iconst 1, 0, 0, []), (119, .iadd, 0, 0, []), (120, .putfield 102, 10, 8, [0]), (123, .goto (-54), 4, 0, [])], [(126, .aload_n 0, 0, 0, []), (127, .aload_n 0, 0, 0, []), (128, .getfield 102, 10, 8, [0]), (131, .aload_n 0, 0, 0, []), (132, .getfield 112, 10, 9, [0]), (135, .isub, 0, 0, []), (136, .bipush 6, 0, 0, []), (138, .if_icmp .gt 7, 7, 0, []), (141, .iconst 0, 0, 0, []), (142, .goto 4, 8, 0, [])], [(145, .iconst 4, 0, 0, []), (146, .nop, 8, 0, [])], [(146, .putfield 115, 10, 10, [0]), (149, .aload_n 0, 0, 0, []), (150, .aload_n 0, 0, 0, []), (151, .invokevirtual 125, 160, 10, [1, 0, 0]), (154, .putfield 128, 10, 11, [0]), (157, .goto 104, 16, 0, [])], [(160, .iload_n 1, 0, 0, []), (161, .invokestatic 131, 158, 10, [1, 0, 0]), (164, .ifCond .eq 72, 13, 0, []), (167, .aload_n 0, 0, 0, []), (168, .iconst 1, 0, 0, []), (169, .putfield 115, 10, 10, [0]), (172, .aload_n 0, 0, 0, []), (173, .iconst 0, 0, 0, []), (174, .putfield 128, 10, 11, [0]), (177, .nop, 10, 0, [])], [(177, .aload_n 0, 0, 0, []), (178, .invokevirtual 108, 156, 10, [1, 0, 0]), (181, .invokestatic 131, 158, 10, [1, 0, 0]), (184, .ifCond .eq 77, 16, 0, []), (187, .aload_n 0, 0, 0, []), (188, .aload_n 0, 0, 0, []), (189, .getfield 128, 10, 11, [0]), (192, .sipush 9999, 0, 0, []), (195, .if_icmp .le 10, 11, 0, []), (198, .aload_n 0, 0, 0, []), (199, .getfield 128, 10, 11, [0]), (202, .goto 18, 12, 0, [])], [(205, .bipush 10, 0, 0, []), (207, .aload_n 0, 0, 0, []), (208, .getfield 128, 10, 11, [0]), (211, .imul, 0, 0, []), (212, .aload_n 0, 0, 0, []), (213, .invokevirtual 108, 156, 10, [1, 0, 0]), (216, .iadd, 0, 0, []), (217, .bipush 48, 0, 0, []), (219, .isub, 0, 0, []), (220, .nop, 12, 0, [])], [(220, .putfield 128, 10, 11, [0]), (223, .aload_n 0, 0, 0, []), (224, .dup, 0, 0, []), (225, .getfield 102, 10, 8, [0]), (228, .iconst 1, 0, 0, []), (229, .iadd, 0, 0, []), (230, .putfield 102, 10, 8, [0]), (233, .goto (-56), 10, 0, [])], [(236, .aload_n 0, 0, 0, []), (237, .iload_n 1, 0, 0, []), (238, .bipush 59, 0, 0, []), (240, .if_icmp .ne 7, 14, 0, []), (243, .iconst 2, 0, 0, []), (244, .goto 4, 15, 0, [])], [(247, .iconst 4, 0, 0, []), (248, .nop, 15, 0, [])], [(248, .putfield 115, 10, 10, [0]), (251, .aload_n 0, 0, 0, []), (252, .dup, 0, 0, []), (253, .getfield 102, 10, 8, [0]), (256, .iconst 1, 0, 0, []), (257, .iadd, 0, 0, []), (258, .putfield 102, 10, 8, [0]), (261, .nop, 16, 0, [])], [(261, .return_, 0, 0, [])]]
def zB_160 : mzB := [[(0, .iconst 0, 0, 0, []), (1, .istore_n 1, 0, 0, []), (2, .iconst 0, 0, 0, []), (3, .istore_n 2, 0, 0, []), (4, .nop, 1, 0, [])], [(4, .iload_n 2, 0, 0, []), (5, .ldc 134, 1, 136, [0, 0]), (10, .if_icmp .ge 113, 6, 0, []), (13, .iconst 0, 0, 0, []), (14, .istore_n 3, 0, 0, []), (15, .nop, 2, 0, [])], [(15, .ldc 134, 1, 141, [0, 2, 0, 3]), (23, .bipush 32, 0, 0, []), (25, .if_icmp .eq 44, 3, 0, []), (28, .aload_n 0, 0, 0, []), (29, .getfield 112, 10, 9, [0]), (32, .iload_n 3, 0, 0, []), (33, .iadd, 0, 0, []), (34, .aload_n 0, 0, 0, []), (35, .getfield 102, 10, 8, [0]), (38, .if_icmp .ge 31, 3, 0, []), (41, .aload_n 0, 0, 0, []), (42, .getfield 7, 10, 1, [0]), (45, .aload_n 0, 0, 0, []), (46, .getfield 112, 10, 9, [0]), (49, .iload_n 3, 0, 0, []), (50, .iadd, 0, 0, []), (51, .iaload, 0, 0, []), (52, .ldc 134, 1, 141, [0, 2, 0, 3]), (60, .if_icmp .ne 9, 3, 0, []), (63, .iinc 3 1, 0, 0, []), (66, .goto (-51), 2, 0, [])], [(69, .ldc 134, 1, 141, [0, 2, 0, 3]), (77, .bipush 32, 0, 0, []), (79, .if_icmp .ne 18, 4, 0, []), (82, .aload_n 0, 0, 0, []), (83, .getfield 112, 10, 9, [0]), (86, .iload_n 3, 0, 0, []), (87, .iadd, 0, 0, []), (88, .aload_n 0, 0, 0, []), (89, .getfield 102, 10, 8, [0]), (92, .if_icmp .ne 5, 4, 0, []), (95, .iload_n 1, 0, 0, []), (96, .ireturn, 0, 0, [])], [(97, .ldc 134, 1, 141, [0, 2, 0]), (103, .bipush 32, 0, 0, []), (105, .if_icmp .eq 9, 5, 0, []), (108, .iinc 2 1, 0, 0, []), (111, .goto (-14), 4, 0, [])], [(114, .iinc 2 1, 0, 0, []), (117, .iinc 1 1, 0, 0, []), (120, .goto (-116), 1, 0, [])], [(123, .iconst (-1), 0, 0, []), (124, .ireturn, 0, 0, [])]]
def zB_161 : mzB := [[(0, .aload_n 0, 0, 0, []), (1, .getfield 145, 10, 13, [0]), (4, .ifCond .eq 4, 1, 0, []), (7, .return_, 0, 0, [])], [(8, .aload_n 0, 0, 0, []), (9, .iload_n 1, 0, 0, []), (10, .putfield 145, 10, 13, [0]), (13, .aload_n 0, 0, 0, []), (14, .aload_n 0, 0, 0, []), (15, .getfield 112, 10, 9, [0]), (18, .putfield 148, 10, 14, [0]), (21, .return_, 0, 0, [])]]
def zB_162 : mzB := [[(0, .aload_n 0, 0, 0, []), (1, .getfield 145, 10, 13, [0]), (4, .ifCond .ne 7, 1, 0, []), (7, .aload_n 0, 0, 0, []), (8, .invokevirtual 151, 159, 10, [1, 0, 0]), (11, .nop, 1, 0, [])], [(11, .return_, 0, 0, [])]]
def zB_163 : mzB := [[(0, .aload_n 0, 0, 0, []), (1, .getfield 145, 10, 13, [0]), (4, .ifCond .eq 5, 1, 0, []), (7, .iload_n 1, 0, 0, []), (8, .ireturn, 0, 0, [])], [(9, .aload_n 0, 0, 0, []), (10, .getfield 115, 10, 10, [0]), (13, .iconst 1, 0, 0, []), (14, .if_icmp .eq 11, 2, 0, []), (17, .aload_n 0, 0, 0, []), (18, .iconst 1, 0, 0, []), (19, .invokevirtual 154, 161, 10, [2, 0, 0]), (22, .goto 24, 4, 0, [])], [(25, .aload_n 0, 0, 0, []), (26, .getfield 128, 10, 11, [0]), (29, .iload_n 1, 0, 0, []), (30, .if_icmp .lt 11, 3, 0, []), (33, .aload_n 0, 0, 0, []), (34, .getfield 128, 10, 11, [0]), (37, .iload_n 2, 0, 0, []), (38, .if_icmp .le 8, 4, 0, []), (41, .nop, 3, 0, [])], [(41, .aload_n 0, 0, 0, []), (42, .iconst 2, 0, 0, []), (43, .invokevirtual 154, 161, 10, [2, 0, 0]), (46, .nop, 4, 0, [])], [(46, .aload_n 0, 0, 0, []), (47, .getfield 145, 10, 13, [0]), (50, .ifCond .ne 10, 5, 0, []), (53, .aload_n 0, 0, 0, []), (54, .getfield 128, 10, 11, [0]), (57, .goto 4, 6, 0, [])], [(60, .iload_n 1, 0, 0, []), (61, .nop, 6, 0, [])], [(61, .istore_n 3, 0, 0, []), (62, .aload_n 0, 0, 0, []), (63, .invokevirtual 158, 162, 10, [1, 0, 0]), (66, .iload_n 3, 0, 0, []), (67, .ireturn, 0, 0, [])]]
def zB_164 : mzB := [[(0, .aload_n 0, 0, 0, []), (1, .getfield 145, 10, 13, [0]), (4, .ifCond .ne 18, 1, 0, []), (7, .aload_n 0, 0, 0, []), (8, .getfield 115, 10, 10, [0]), (11, .ifCond .ne 11, 1, 0, []), (14, .aload_n 0, 0, 0, []), (15, .getfield 128, 10, 11, [0]), (18, .iconst (-1), 0, 0, []), (19, .if_icmp .eq 5, 2, 0, []), (22, .nop, 1, 0, [])], [(22, .iconst (-1), 0, 0, []), (23, .ireturn, 0, 0, [])], [(24, .iconst 0, 0, 0, []), (25, .istore_n 1, 0, 0, []), (26, .nop, 3, 0, [])], [(26, .iload_n 1, 0, 0, []), (27, .aload_n 0, 0, 0, []), (28, .getfield 16, 10, 4, [0]), (31, .iconst 0, 0, 0, []), (32, .iaload, 0, 0, []), (33, .if_icmp .ge 24, 5, 0, []), (36, .aload_n 0, 0, 0, []), (37, .getfield 19, 10, 5, [0]), (40, .iload_n 1, 0, 0, []), (41, .iaload, 0, 0, []), (42, .aload_n 0, 0, 0, []), (43, .getfield 122, 10, 12, [0]), (46, .if_icmp .ne 5, 4, 0, []), (49, .iload_n 1, 0, 0, []), (50, .ireturn, 0, 0, [])], [(51, .iinc 1 1, 0, 0, []), (54, .goto (-28), 3, 0, [])], [(57, .iconst (-1), 0, 0, []), (58, .ireturn, 0, 0, [])]]
def zB_165 : mzB := [[(0, .aload_n 0, 0, 0, []), (1, .invokevirtual 161, 164, 10, [1, 0, 0]), (4, .istore_n 1, 0, 0, []), (5, .iload_n 1, 0, 0, []), (6, .iconst (-1), 0, 0, []), (7, .if_icmp .ne 8, 1, 0, []), (10, .aload_n 0, 0, 0, []), (11, .iconst 1, 0, 0, []), (12, .invokevirtual 154, 161, 10, [2, 0, 0]), (15, .nop, 1, 0, [])], [(15, .aload_n 0, 0, 0, []), (16, .invokevirtual 158, 162, 10, [1, 0, 0]), (19, .iload_n 1, 0, 0, []), (20, .ireturn, 0, 0, [])]]
def zB_166 : mzB := [[(0, .aload_n 0, 0, 0, []), (1, .getfield 16, 10, 4, [0]), (4, .iconst 0, 0, 0, []), (5, .iaload, 0, 0, []), (6, .bipush 8, 0, 0, []), (8, .if_icmp .ne 8, 1, 0, []), (11, .aload_n 0, 0, 0, []), (12, .iconst 2, 0, 0, []), (13, .invokevirtual 154, 161, 10, [2, 0, 0]), (16, .nop, 1, 0, [])], [(16, .aload_n 0, 0, 0, []), (17, .invokevirtual 158, 162, 10, [1, 0, 0]), (20, .aload_n 0, 0, 0, []), (21, .getfield 145, 10, 13, [0]), (24, .ifCond .ne 23, 3, 0, []), (27, .aload_n 0, 0, 0, []), (28, .getfield 115, 10, 10, [0]), (31, .ifCond .ne 11, 2, 0, []), (34, .aload_n 0, 0, 0, []), (35, .getfield 128, 10, 11, [0]), (38, .iconst (-1), 0, 0, []), (39, .if_icmp .eq 8, 3, 0, []), (42, .nop, 2, 0, [])], [(42, .aload_n 0, 0, 0, []), (43, .iconst 1, 0, 0, []), (44, .invokevirtual 154, 161, 10, [2, 0, 0]), (47, .nop, 3, 0, [])], [(47, .aload_n 0, 0, 0, []), (48, .invokevirtual 161, 164, 10, [1, 0, 0]), (51, .iconst (-1), 0, 0, []), (52, .if_icmp .eq 8, 4, 0, []), (55, .aload_n 0, 0, 0, []), (56, .iconst 3, 0, 0, []), (57, .invokevirtual 154, 161, 10, [2, 0, 0]), (60, .nop, 4, 0, [])], [(60, .aload_n 0, 0, 0, []), (61, .getfield 122, 10, 12, [0]), (64, .istore_n 1, 0, 0, []), (65, .aload_n 0, 0, 0, []), (66, .invokevirtual 158, 162, 10, [1, 0, 0]), (69, .aload_n 0, 0, 0, []), (70, .getfield 145, 10, 13, [0]), (73, .ifCond .eq 4, 5, 0, []), (76, .return_, 0, 0, [])], [(77, .aload_n 0, 0, 0, []), (78, .getfield 19, 10, 5, [0]), (81, .aload_n 0, 0, 0, []), (82, .getfield 16, 10, 4, [0]), (85, .iconst 0, 0, 0, []), (86, .iaload, 0, 0, []), (87, .iload_n 1, 0, 0, []), (88, .iastore, 0, 0, []), (89, .aload_n 0, 0, 0, []), (90, .getfield 16, 10, 4, [0]), (93, .iconst 0, 0, 0, []), (94, .dup2, 0, 0, []), (95, .iaload, 0, 0, []), (96, .iconst 1, 0, 0, []), (97, .iadd, 0, 0, []), (98, .iastore, 0, 0, []), (99, .return_, 0, 0, [])]]
def zB_167 : mzB := [[(0, .aload_n 0, 0, 0, []), (1, .getfield 16, 10, 4, [0]), (4, .iconst 1, 0, 0, []), (5, .iaload, 0, 0, []), (6, .bipush 12, 0, 0, []), (8, .if_icmp .ne 8, 1, 0, []), (11, .aload_n 0, 0, 0, []), (12, .iconst 2, 0, 0, []), (13, .invokevirtual 154, 161, 10, [2, 0, 0]), (16, .nop, 1, 0, [])], [(16, .aload_n 0, 0, 0, []), (17, .invokevirtual 158, 162, 10, [1, 0, 0]), (20, .aload_n 0, 0, 0, []), (21, .invokevirtual 164, 165, 10, [1, 0, 0]), (24, .istore_n 1, 0, 0, []), (25, .aload_n 0, 0, 0, []), (26, .getfield 145, 10, 13, [0]), (29, .ifCond .ne 16, 2, 0, []), (32, .aload_n 0, 0, 0, []), (33, .invokevirtual 161, 164, 10, [1, 0, 0]), (36, .iload_n 1, 0, 0, []), (37, .if_icmp .ne 8, 2, 0, []), (40, .aload_n 0, 0, 0, []), (41, .iconst 3, 0, 0, []), (42, .invokevirtual 154, 161, 10, [2, 0, 0]), (45, .nop, 2, 0, [])], [(45, .aload_n 0, 0, 0, []), (46, .invokevirtual 164, 165, 10, [1, 0, 0]), (49, .istore_n 2, 0, 0, []), (50, .aload_n 0, 0, 0, []), (51, .iconst 1, 0, 0, []), (52, .bipush 99, 0, 0, []), (54, .invokevirtual 167, 163, 10, [3, 0, 0]), (57, .istore_n 3, 0, 0, []), (58, .aload_n 0, 0, 0, []), (59, .getfield 145, 10, 13, [0]), (62, .ifCond .eq 4, 3, 0, []), (65, .return_, 0, 0, [])], [(66, .aload_n 0, 0, 0, []), (67, .getfield 16, 10, 4, [0]), (70, .iconst 1, 0, 0, []), (71, .dup2, 0, 0, []), (72, .iaload, 0, 0, []), (73, .iconst 1, 0, 0, []), (74, .iadd, 0, 0, []), (75, .iastore, 0, 0, []), (76, .iload_n 3, 0, 0, []), (77, .aload_n 0, 0, 0, []), (78, .getfield 16, 10, 4, [0]), (81, .iconst 5, 0, 0, []), (82, .bipush 8, 0, 0, []), (84, .iload_n 1, 0, 0, []), (85, .imul, 0, 0, []), (86, .iadd, 0, 0, []), (87, .iload_n 2, 0, 0, []), (88, .iadd, 0, 0, []), (89, .iaload, 0, 0, []), (90, .if_icmp .lt 4, 4, 0, []), (93, .return_, 0, 0, [])], [(94, .aload_n 0, 0, 0, []), (95, .getfield 16, 10, 4, [0]), (98, .iconst 5, 0, 0, []), (99, .bipush 8, 0, 0, []), (101, .iload_n 1, 0, 0, []), (102, .imul, 0, 0, []), (103, .iadd, 0, 0, []), (104, .iload_n 2, 0, 0, []), (105, .iadd, 0, 0, []), (106, .iload_n 3, 0, 0, []), (107, .iastore, 0, 0, []), (108, .aload_n 0, 0, 0, []), (109, .getfield 16, 10, 4, [0]), (112, .iconst 5, 0, 0, []), (113, .bipush 8, 0, 0, []), (115, .iload_n 2, 0, 0, []), (116, .imul, 0, 0, []), (117, .iadd, 0, 0, []), (118, .iload_n 1, 0, 0, []), (119, .iadd, 0, 0, []), (120, .iload_n 3, 0, 0, []), (121, .iastore, 0, 0, []), (122, .return_, 0, 0, [])]]
def zB_168 : mzB := [[(0, .aload_n 0, 0, 0, []), (1, .getfield 171, 10, 17, [0]), (4, .ifCond .eq 8, 1, 0, []), (7, .aload_n 0, 0, 0, []), (8, .iconst 3, 0, 0, []), (9, .invokevirtual 154, 161, 10, [2, 0, 0]), (12, .nop, 1, 0, [])], [(12, .aload_n 0, 0, 0, []), (13, .iconst 1, 0, 0, []), (14, .putfield 171, 10, 17, [1]), (17, .aload_n 0, 0, 0, []), (18, .invokevirtual 158, 162, 10, [1, 0, 0]), (21, .aload_n 0, 0, 0, []), (22, .iconst 1, 0, 0, []), (23, .bipush 20, 0, 0, []), (25, .invokevirtual 167, 163, 10, [3, 0, 0]), (28, .istore_n 1, 0, 0, []), (29, .aload_n 0, 0, 0, []), (30, .iconst 1, 0, 0, []), (31, .bipush 20, 0, 0, []), (33, .invokevirtual 167, 163, 10, [3, 0, 0]), (36, .istore_n 2, 0, 0, []), (37, .aload_n 0, 0, 0, []), (38, .getfield 16, 10, 4, [0]), (41, .iconst 3, 0, 0, []), (42, .iload_n 1, 0, 0, []), (43, .iastore, 0, 0, []), (44, .aload_n 0, 0, 0, []), (45, .getfield 16, 10, 4, [0]), (48, .iconst 4, 0, 0, []), (49, .iload_n 2, 0, 0, []), (50, .iastore, 0, 0, []), (51, .return_, 0, 0, [])]]
def zB_169 : mzB := [[(0, .aload_n 0, 0, 0, []), (1, .getfield 145, 10, 13, [0]), (4, .ifCond .ne 32, 1, 0, []), (7, .aload_n 0, 0, 0, []), (8, .getfield 115, 10, 10, [0]), (11, .ifCond .ne 25, 1, 0, []), (14, .aload_n 0, 0, 0, []), (15, .getfield 128, 10, 11, [0]), (18, .bipush 15, 0, 0, []), (20, .if_icmp .lt 16, 1, 0, []), (23, .aload_n 0, 0, 0, []), (24, .getfield 128, 10, 11, [0]), (27, .bipush 17, 0, 0, []), (29, .if_icmp .gt 7, 1, 0, []), (32, .iconst 1, 0, 0, []), (33, .goto 4, 2, 0, [])], [(36, .iconst 0, 0, 0, []), (37, .nop, 2, 0, [])], [(37, .istore_n 1, 0, 0, []), (38, .iload_n 1, 0, 0, []), (39, .ifCond .ne 8, 3, 0, []), (42, .aload_n 0, 0, 0, []), (43, .iconst 1, 0, 0, []), (44, .invokevirtual 154, 161, 10, [2, 0, 0]), (47, .nop, 3, 0, [])], [(47, .iload_n 1, 0, 0, []), (48, .ifCond .eq 13, 4, 0, []), (51, .aload_n 0, 0, 0, []), (52, .getfield 128, 10, 11, [0]), (55, .bipush 15, 0, 0, []), (57, .isub, 0, 0, []), (58, .goto 4, 5, 0, [])], [(61, .iconst 0, 0, 0, []), (62, .nop, 5, 0, [])], [(62, .istore_n 2, 0, 0, []), (63, .aload_n 0, 0, 0, []), (64, .invokevirtual 158, 162, 10, [1, 0, 0]), (67, .iload_n 2, 0, 0, []), (68, .ireturn, 0, 0, [])]]
def zB_170 : mzB := [[(0, .aload_n 0, 0, 0, []), (1, .getfield 16, 10, 4, [0]), (4, .iconst 2, 0, 0, []), (5, .iaload, 0, 0, []), (6, .bipush 60, 0, 0, []), (8, .if_icmp .ne 8, 1, 0, []), (11, .aload_n 0, 0, 0, []), (12, .iconst 2, 0, 0, []), (13, .invokevirtual 154, 161, 10, [2, 0, 0]), (16, .nop, 1, 0, [])], [(16, .aload_n 0, 0, 0, []), (17, .invokevirtual 158, 162, 10, [1, 0, 0]), (20, .bipush 69, 0, 0, []), (22, .iconst 5, 0, 0, []), (23, .aload_n 0, 0, 0, []), (24, .getfield 16, 10, 4, [0]), (27, .iconst 2, 0, 0, []), (28, .iaload, 0, 0, []), (29, .imul, 0, 0, []), (30, .iadd, 0, 0, []), (31, .istore_n 1, 0, 0, []), (32, .aload_n 0, 0, 0, []), (33, .iconst 0, 0, 0, []), (34, .sipush 999, 0, 0, []), (37, .invokevirtual 167, 163, 10, [3, 0, 0]), (40, .istore_n 2, 0, 0, []), (41, .aload_n 0, 0, 0, []), (42, .getfield 145, 10, 13, [0]), (45, .ifCond .ne 30, 2, 0, []), (48, .aload_n 0, 0, 0, []), (49, .getfield 115, 10, 10, [0]), (52, .ifCond .ne 23, 2, 0, []), (55, .aload_n 0, 0, 0, []), (56, .getfield 128, 10, 11, [0]), (59, .ifCond .lt 16, 2, 0, []), (62, .aload_n 0, 0, 0, []), (63, .getfield 128, 10, 11, [0]), (66, .bipush 10, 0, 0, []), (68, .if_icmp .gt 7, 2, 0, []), (71, .iconst 1, 0, 0, []), (72, .goto 4, 3, 0, [])], [(75, .iconst 0, 0, 0, []), (76, .nop, 3, 0, [])], [(76, .istore_n 3, 0, 0, []), (77, .iload_n 3, 0, 0, []), (78, .ifCond .ne 8, 4, 0, []), (81, .aload_n 0, 0, 0, []), (82, .iconst 1, 0, 0, []), (83, .invokevirtual 154, 161, 10, [2, 0, 0]), (86, .nop, 4, 0, [])], [(86, .aload_n 0, 0, 0, []), (87, .getfield 128, 10, 11, [0]), (90, .istore 4, 0, 0, []), (92, .aload_n 0, 0, 0, []), (93, .invokevirtual 158, 162, 10, [1, 0, 0]), (96, .aload_n 0, 0, 0, []), (97, .iconst 0, 0, 0, []), (98, .bipush 39, 0, 0, []), (100, .invokevirtual 167, 163, 10, [3, 0, 0]), (103, .istore 5, 0, 0, []), (105, .bipush (-2), 0, 0, []), (107, .istore 6, 0, 0, []), (109, .iconst (-1), 0, 0, []), (110, .istore 7, 0, 0, []), (112, .aload_n 0, 0, 0, []), (113, .getfield 145, 10, 13, [0]), (116, .ifCond .ne 14, 5, 0, []), (119, .iload 4, 0, 0, []), (121, .ifCond .ne 9, 5, 0, []), (124, .aload_n 0, 0, 0, []), (125, .invokevirtual 175, 169, 10, [1, 0, 0]), (128, .istore 7, 0, 0, []), (130, .nop, 5, 0, [])], [(130, .aload_n 0, 0, 0, []), (131, .getfield 145, 10, 13, [0]), (134, .ifCond .ne 21, 6, 0, []), (137, .iload 4, 0, 0, []), (139, .iconst 1, 0, 0, []), (140, .if_icmp .ne 15, 6, 0, []), (143, .aload_n 0, 0, 0, []), (144, .iconst 0, 0, 0, []), (145, .bipush 39, 0, 0, []), (147, .invokevirtual 167, 163, 10, [3, 0, 0]), (150, .istore 6, 0, 0, []), (152, .goto 41, 8, 0, [])], [(155, .aload_n 0, 0, 0, []), (156, .getfield 145, 10, 13, [0]), (159, .ifCond .ne 34, 8, 0, []), (162, .iload 4, 0, 0, []), (164, .ifCond .eq 23, 7, 0, []), (167, .iload 4, 0, 0, []), (169, .iconst 5, 0, 0, []), (170, .if_icmp .eq 17, 7, 0, []), (173, .iload 4, 0, 0, []), (175, .bipush 6, 0, 0, []), (177, .if_icmp .eq 10, 7, 0, []), (180, .iload 4, 0, 0, []), (182, .bipush 8, 0, 0, []), (184, .if_icmp .ne 9, 8, 0, []), (187, .nop, 7, 0, [])], [(187, .aload_n 0, 0, 0, []), (188, .invokevirtual 164, 165, 10, [1, 0, 0]), (191, .istore 6, 0, 0, []), (193, .nop, 8, 0, [])], [(193, .aload_n 0, 0, 0, []), (194, .getfield 145, 10, 13, [0]), (197, .ifCond .eq 4, 9, 0, []), (200, .return_, 0, 0, [])], [(201, .aload_n 0, 0, 0, []), (202, .getfield 16, 10, 4, [0]), (205, .iload_n 1, 0, 0, []), (206, .iload_n 2, 0, 0, []), (207, .iastore, 0, 0, []), (208, .aload_n 0, 0, 0, []), (209, .getfield 16, 10, 4, [0]), (212, .iload_n 1, 0, 0, []), (213, .iconst 1, 0, 0, []), (214, .iadd, 0, 0, []), (215, .iload 4, 0, 0, []), (217, .iastore, 0, 0, []), (218, .aload_n 0, 0, 0, []), (219, .getfield 16, 10, 4, [0]), (222, .iload_n 1, 0, 0, []), (223, .iconst 2, 0, 0, []), (224, .iadd, 0, 0, []), (225, .iload 5, 0, 0, []), (227, .iastore, 0, 0, []), (228, .aload_n 0, 0, 0, []), (229, .getfield 16, 10, 4, [0]), (232, .iload_n 1, 0, 0, []), (233, .iconst 3, 0, 0, []), (234, .iadd, 0, 0, []), (235, .iload 6, 0, 0, []), (237, .iastore, 0, 0, []), (238, .aload_n 0, 0, 0, []), (239, .getfield 16, 10, 4, [0]), (242, .iload_n 1, 0, 0, []), (243, .iconst 4, 0, 0, []), (244, .iadd, 0, 0, []), (245, .iload 7, 0, 0, []), (247, .iastore, 0, 0, []), (248, .aload_n 0, 0, 0, []), (249, .getfield 16, 10, 4, [0]), (252, .iconst 2, 0, 0, []), (253, .dup2, 0, 0, []), (254, .iaload, 0, 0, []), (255, .iconst 1, 0, 0, []), (256, .iadd, 0, 0, []), (257, .iastore, 0, 0, []), (258, .return_, 0, 0, [])]]
def zB_171 : mzB := [[(0, .aload_n 0, 0, 0, []), (1, .getfield 145, 10, 13, [0]), (4, .ifCond .ne 17, 1, 0, []), (7, .aload_n 0, 0, 0, []), (8, .getfield 115, 10, 10, [0]), (11, .ifCond .ne 10, 1, 0, []), (14, .aload_n 0, 0, 0, []), (15, .getfield 128, 10, 11, [0]), (18, .goto 4, 2, 0, [])], [(21, .iconst (-1), 0, 0, []), (22, .nop, 2, 0, [])], [(22, .istore_n 2, 0, 0, []), (23, .iload_n 2, 0, 0, []), (24, .bipush 14, 0, 0, []), (26, .if_icmp .ne 10, 3, 0, []), (29, .aload_n 0, 0, 0, []), (30, .invokevirtual 178, 170, 10, [1, 0, 0]), (33, .goto 59, 7, 0, [])], [(36, .iload_n 2, 0, 0, []), (37, .bipush 11, 0, 0, []), (39, .if_icmp .ne 14, 4, 0, []), (42, .iload_n 1, 0, 0, []), (43, .ifCond .ne 10, 4, 0, []), (46, .aload_n 0, 0, 0, []), (47, .invokevirtual 181, 166, 10, [1, 0, 0]), (50, .goto 42, 7, 0, [])], [(53, .iload_n 2, 0, 0, []), (54, .bipush 12, 0, 0, []), (56, .if_icmp .ne 14, 5, 0, []), (59, .iload_n 1, 0, 0, []), (60, .ifCond .ne 10, 5, 0, []), (63, .aload_n 0, 0, 0, []), (64, .invokevirtual 184, 167, 10, [1, 0, 0]), (67, .goto 25, 7, 0, [])], [(70, .iload_n 2, 0, 0, []), (71, .bipush 13, 0, 0, []), (73, .if_icmp .ne 14, 6, 0, []), (76, .iload_n 1, 0, 0, []), (77, .ifCond .ne 10, 6, 0, []), (80, .aload_n 0, 0, 0, []), (81, .invokevirtual 187, 168, 10, [1, 0, 0]), (84, .goto 8, 7, 0, [])], [(87, .aload_n 0, 0, 0, []), (88, .iconst 1, 0, 0, []), (89, .invokevirtual 154, 161, 10, [2, 0, 0]), (92, .nop, 7, 0, [])], [(92, .aload_n 0, 0, 0, []), (93, .getfield 145, 10, 13, [0]), (96, .ifCond .ne 16, 8, 0, []), (99, .aload_n 0, 0, 0, []), (100, .getfield 115, 10, 10, [0]), (103, .iconst 2, 0, 0, []), (104, .if_icmp .eq 8, 8, 0, []), (107, .aload_n 0, 0, 0, []), (108, .iconst 1, 0, 0, []), (109, .invokevirtual 154, 161, 10, [2, 0, 0]), (112, .nop, 8, 0, [])], [(112, .aload_n 0, 0, 0, []), (113, .invokevirtual 158, 162, 10, [1, 0, 0]), (116, .aload_n 0, 0, 0, []), (117, .dup, 0, 0, []), (118, .getfield 190, 10, 19, [0]), (121, .iconst 1, 0, 0, []), (122, .iadd, 0, 0, []), (123, .putfield 190, 10, 19, [0]), (126, .return_, 0, 0, [])]]
def zB_172 : mzB := [[(0, .iconst 0, 0, 0, []), (1, .istore_n 1, 0, 0, []), (2, .nop, 1, 0, [])], [(2, .iload_n 1, 0, 0, []), (3, .sipush 369, 0, 0, []), (6, .if_icmp .ge 16, 2, 0, []), (9, .aload_n 0, 0, 0, []), (10, .getfield 16, 10, 4, [0]), (13, .iload_n 1, 0, 0, []), (14, .iconst 0, 0, 0, []), (15, .iastore, 0, 0, []), (16, .iinc 1 1, 0, 0, []), (19, .goto (-17), 1, 0, [])], [(22, .iconst 0, 0, 0, []), (23, .istore_n 1, 0, 0, []), (24, .nop, 3, 0, [])], [(24, .iload_n 1, 0, 0, []), (25, .bipush 64, 0, 0, []), (27, .if_icmp .ge 30, 6, 0, []), (30, .aload_n 0, 0, 0, []), (31, .getfield 16, 10, 4, [0]), (34, .iconst 5, 0, 0, []), (35, .iload_n 1, 0, 0, []), (36, .iadd, 0, 0, []), (37, .iload_n 1, 0, 0, []), (38, .bipush 9, 0, 0, []), (40, .irem, 0, 0, []), (41, .ifCond .ne 7, 4, 0, []), (44, .iconst 0, 0, 0, []), (45, .goto 5, 5, 0, [])], [(48, .ldc 193, 100000, 0, [0]), (50, .nop, 5, 0, [])], [(50, .iastore, 0, 0, []), (51, .iinc 1 1, 0, 0, []), (54, .goto (-30), 3, 0, [])], [(57, .aload_n 0, 0, 0, []), (58, .getfield 16, 10, 4, [0]), (61, .iconst 3, 0, 0, []), (62, .bipush 10, 0, 0, []), (64, .iastore, 0, 0, []), (65, .aload_n 0, 0, 0, []), (66, .getfield 16, 10, 4, [0]), (69, .iconst 4, 0, 0, []), (70, .bipush 10, 0, 0, []), (72, .iastore, 0, 0, []), (73, .aload_n 0, 0, 0, []), (74, .iconst 0, 0, 0, []), (75, .putfield 171, 10, 17, [1]), (78, .return_, 0, 0, [])]]
def zB_173 : mzB := [[(0, .aload_n 0, 0, 0, []), (1, .iload_n 1, 0, 0, []), (2, .putfield 105, 10, 7, [0]), (5, .aload_n 0, 0, 0, []), (6, .iconst 0, 0, 0, []), (7, .putfield 102, 10, 8, [0]), (10, .aload_n 0, 0, 0, []), (11, .iconst 0, 0, 0, []), (12, .putfield 145, 10, 13, [0]), (15, .aload_n 0, 0, 0, []), (16, .iconst 0, 0, 0, []), (17, .putfield 190, 10, 19, [0]), (20, .aload_n 0, 0, 0, []), (21, .invokevirtual 151, 159, 10, [1, 0, 0]), (24, .nop, 1, 0, [])], [(24, .aload_n 0, 0, 0, []), (25, .getfield 145, 10, 13, [0]), (28, .ifCond .ne 19, 2, 0, []), (31, .aload_n 0, 0, 0, []), (32, .getfield 115, 10, 10, [0]), (35, .iconst 3, 0, 0, []), (36, .if_icmp .eq 11, 2, 0, []), (39, .aload_n 0, 0, 0, []), (40, .iload_n 2, 0, 0, []), (41, .invokevirtual 194, 171, 10, [2, 0, 0]), (44, .goto (-20), 1, 0, [])], [(47, .aload_n 0, 0, 0, []), (48, .iconst 0, 0, 0, []), (49, .putfield 99, 10, 2, [0]), (52, .aload_n 0, 0, 0, []), (53, .aload_n 0, 0, 0, []), (54, .getfield 145, 10, 13, [0]), (57, .putfield 198, 10, 15, [0]), (60, .aload_n 0, 0, 0, []), (61, .aload_n 0, 0, 0, []), (62, .getfield 145, 10, 13, [0]), (65, .ifCond .ne 7, 3, 0, []), (68, .iconst (-1), 0, 0, []), (69, .goto 7, 4, 0, [])], [(72, .aload_n 0, 0, 0, []), (73, .getfield 148, 10, 14, [0]), (76, .nop, 4, 0, [])], [(76, .putfield 25, 10, 16, [0]), (79, .aload_n 0, 0, 0, []), (80, .getfield 145, 10, 13, [0]), (83, .ifCond .eq 5, 5, 0, []), (86, .iconst (-1), 0, 0, []), (87, .ireturn, 0, 0, [])], [(88, .aload_n 0, 0, 0, []), (89, .invokevirtual 93, 174, 10, [1, 0, 0]), (92, .aload_n 0, 0, 0, []), (93, .getfield 190, 10, 19, [0]), (96, .ireturn, 0, 0, [])]]
def zB_174 : mzB := [[(0, .iconst 0, 0, 0, []), (1, .istore_n 1, 0, 0, []), (2, .nop, 1, 0, [])], [(2, .iload_n 1, 0, 0, []), (3, .sipush 369, 0, 0, []), (6, .if_icmp .ge 21, 2, 0, []), (9, .aload_n 0, 0, 0, []), (10, .getfield 13, 10, 3, [0]), (13, .iload_n 1, 0, 0, []), (14, .aload_n 0, 0, 0, []), (15, .getfield 16, 10, 4, [0]), (18, .iload_n 1, 0, 0, []), (19, .iaload, 0, 0, []), (20, .iastore, 0, 0, []), (21, .iinc 1 1, 0, 0, []), (24, .goto (-22), 1, 0, [])], [(27, .iconst 0, 0, 0, []), (28, .istore_n 1, 0, 0, []), (29, .nop, 3, 0, [])], [(29, .iload_n 1, 0, 0, []), (30, .bipush 8, 0, 0, []), (32, .if_icmp .ge 21, 4, 0, []), (35, .aload_n 0, 0, 0, []), (36, .getfield 22, 10, 6, [0]), (39, .iload_n 1, 0, 0, []), (40, .aload_n 0, 0, 0, []), (41, .getfield 19, 10, 5, [0]), (44, .iload_n 1, 0, 0, []), (45, .iaload, 0, 0, []), (46, .iastore, 0, 0, []), (47, .iinc 1 1, 0, 0, []), (50, .goto (-21), 3, 0, [])], [(53, .aload_n 0, 0, 0, []), (54, .aload_n 0, 0, 0, []), (55, .getfield 171, 10, 17, [0]), (58, .putfield 201, 10, 18, [1]), (61, .aload_n 0, 0, 0, []), (62, .invokevirtual 204, 178, 10, [1, 0, 0]), (65, .return_, 0, 0, [])]]
def zB_175 : mzB := [[(0, .aload_n 0, 0, 0, []), (1, .iconst 0, 0, 0, []), (2, .putfield 96, 10, 0, [0]), (5, .iload_n 1, 0, 0, []), (6, .ifCond .lt 11, 1, 0, []), (9, .iload_n 1, 0, 0, []), (10, .aload_n 0, 0, 0, []), (11, .getfield 99, 10, 2, [0]), (14, .if_icmp .le 6, 2, 0, []), (17, .nop, 1, 0, [])], [(17, .bipush (-2), 0, 0, []), (19, .ireturn, 0, 0, [])], [(20, .aload_n 0, 0, 0, []), (21, .invokevirtual 90, 172, 10, [1, 0, 0]), (24, .aload_n 0, 0, 0, []), (25, .iload_n 1, 0, 0, []), (26, .iconst 0, 0, 0, []), (27, .invokevirtual 207, 173, 10, [3, 0, 0]), (30, .ireturn, 0, 0, [])]]
def zB_176 : mzB := [[(0, .aload_n 0, 0, 0, []), (1, .iconst 0, 0, 0, []), (2, .putfield 96, 10, 0, [0]), (5, .iload_n 1, 0, 0, []), (6, .ifCond .lt 11, 1, 0, []), (9, .iload_n 1, 0, 0, []), (10, .aload_n 0, 0, 0, []), (11, .getfield 99, 10, 2, [0]), (14, .if_icmp .le 6, 2, 0, []), (17, .nop, 1, 0, [])], [(17, .bipush (-2), 0, 0, []), (19, .ireturn, 0, 0, [])], [(20, .iconst 0, 0, 0, []), (21, .istore_n 2, 0, 0, []), (22, .nop, 3, 0, [])], [(22, .iload_n 2, 0, 0, []), (23, .sipush 369, 0, 0, []), (26, .if_icmp .ge 21, 4, 0, []), (29, .aload_n 0, 0, 0, []), (30, .getfield 16, 10, 4, [0]), (33, .iload_n 2, 0, 0, []), (34, .aload_n 0, 0, 0, []), (35, .getfield 13, 10, 3, [0]), (38, .iload_n 2, 0, 0, []), (39, .iaload, 0, 0, []), (40, .iastore, 0, 0, []), (41, .iinc 2 1, 0, 0, []), (44, .goto (-22), 3, 0, [])], [(47, .iconst 0, 0, 0, []), (48, .istore_n 2, 0, 0, []), (49, .nop, 5, 0, [])], [(49, .iload_n 2, 0, 0, []), (50, .bipush 8, 0, 0, []), (52, .if_icmp .ge 21, 6, 0, []), (55, .aload_n 0, 0, 0, []), (56, .getfield 19, 10, 5, [0]), (59, .iload_n 2, 0, 0, []), (60, .aload_n 0, 0, 0, []), (61, .getfield 22, 10, 6, [0]), (64, .iload_n 2, 0, 0, []), (65, .iaload, 0, 0, []), (66, .iastore, 0, 0, []), (67, .iinc 2 1, 0, 0, []), (70, .goto (-21), 5, 0, [])], [(73, .aload_n 0, 0, 0, []), (74, .aload_n 0, 0, 0, []), (75, .getfield 201, 10, 18, [0]), (78, .putfield 171, 10, 17, [1]), (81, .aload_n 0, 0, 0, []), (82, .iload_n 1, 0, 0, []), (83, .iconst 1, 0, 0, []), (84, .invokevirtual 207, 173, 10, [3, 0, 0]), (87, .ireturn, 0, 0, [])]]
def zB_177 : mzB := [[(0, .aload_n 0, 0, 0, []), (1, .iconst 0, 0, 0, []), (2, .putfield 96, 10, 0, [0]), (5, .iload_n 1, 0, 0, []), (6, .ifCond .ne 10, 1, 0, []), (9, .aload_n 0, 0, 0, []), (10, .getfield 198, 10, 15, [0]), (13, .goto 16, 3, 0, [])], [(16, .iload_n 1, 0, 0, []), (17, .iconst 1, 0, 0, []), (18, .if_icmp .ne 10, 2, 0, []), (21, .aload_n 0, 0, 0, []), (22, .getfield 25, 10, 16, [0]), (25, .goto 4, 3, 0, [])], [(28, .iconst (-1), 0, 0, []), (29, .nop, 3, 0, [])], [(29, .ireturn, 0, 0, [])]]
def zB_178 : mzB := [[(0, .iconst 0, 0, 0, []), (1, .istore_n 1, 0, 0, []), (2, .nop, 1, 0, [])], [(2, .iload_n 1, 0, 0, []), (3, .bipush 64, 0, 0, []), (5, .if_icmp .ge 23, 2, 0, []), (8, .aload_n 0, 0, 0, []), (9, .getfield 29, 10, 20, [0]), (12, .iload_n 1, 0, 0, []), (13, .aload_n 0, 0, 0, []), (14, .getfield 13, 10, 3, [0]), (17, .iconst 5, 0, 0, []), (18, .iload_n 1, 0, 0, []), (19, .iadd, 0, 0, []), (20, .iaload, 0, 0, []), (21, .iastore, 0, 0, []), (22, .iinc 1 1, 0, 0, []), (25, .goto (-23), 1, 0, [])], [(28, .iconst 0, 0, 0, []), (29, .istore_n 1, 0, 0, []), (30, .nop, 3, 0, [])], [(30, .iload_n 1, 0, 0, []), (31, .bipush 8, 0, 0, []), (33, .if_icmp .ge 91, 9, 0, []), (36, .iconst 0, 0, 0, []), (37, .istore_n 2, 0, 0, []), (38, .nop, 4, 0, [])], [(38, .iload_n 2, 0, 0, []), (39, .bipush 8, 0, 0, []), (41, .if_icmp .ge 77, 8, 0, []), (44, .iconst 0, 0, 0, []), (45, .istore_n 3, 0, 0, []), (46, .nop, 5, 0, [])], [(46, .iload_n 3, 0, 0, []), (47, .bipush 8, 0, 0, []), (49, .if_icmp .ge 63, 7, 0, []), (52, .aload_n 0, 0, 0, []), (53, .getfield 29, 10, 20, [0]), (56, .bipush 8, 0, 0, []), (58, .iload_n 2, 0, 0, []), (59, .imul, 0, 0, []), (60, .iload_n 1, 0, 0, []), (61, .iadd, 0, 0, []), (62, .iaload, 0, 0, []), (63, .aload_n 0, 0, 0, []), (64, .getfield 29, 10, 20, [0]), (67, .bipush 8, 0, 0, []), (69, .iload_n 1, 0, 0, []), (70, .imul, 0, 0, []), (71, .iload_n 3, 0, 0, []), (72, .iadd, 0, 0, []), (73, .iaload, 0, 0, []), (74, .iadd, 0, 0, []), (75, .istore 4, 0, 0, []), (77, .iload 4, 0, 0, []), (79, .aload_n 0, 0, 0, []), (80, .getfield 29, 10, 20, [0]), (83, .bipush 8, 0, 0, []), (85, .iload_n 2, 0, 0, []), (86, .imul, 0, 0, []), (87, .iload_n 3, 0, 0, []), (88, .iadd, 0, 0, []), (89, .iaload, 0, 0, []), (90, .if_icmp .ge 16, 6, 0, []), (93, .aload_n 0, 0, 0, []), (94, .getfield 29, 10, 20, [0]), (97, .bipush 8, 0, 0, []), (99, .iload_n 2, 0, 0, []), (100, .imul, 0, 0, []), (101, .iload_n 3, 0, 0, []), (102, .iadd, 0, 0, []), (103, .iload 4, 0, 0, []), (105, .iastore, 0, 0, []), (106, .nop, 6, 0, [])], [(106, .iinc 3 1, 0, 0, []), (109, .goto (-63), 5, 0, [])], [(112, .iinc 2 1, 0, 0, []), (115, .goto (-77), 4, 0, [])], [(118, .iinc 1 1, 0, 0, []), (121, .goto (-91), 3, 0, [])], [(124, .return_, 0, 0, [])]]
def zB_179 : mzB := [[(0, .aload_n 0, 0, 0, []), (1, .iconst 0, 0, 0, []), (2, .putfield 96, 10, 0, [0]), (5, .aload_n 0, 0, 0, []), (6, .iload_n 1, 0, 0, []), (7, .invokevirtual 211, 210, 10, [2, 0, 0]), (10, .ifCond .eq 11, 1, 0, []), (13, .aload_n 0, 0, 0, []), (14, .iload_n 2, 0, 0, []), (15, .invokevirtual 211, 210, 10, [2, 0, 0]), (18, .ifCond .ne 5, 2, 0, []), (21, .nop, 1, 0, [])], [(21, .iconst (-1), 0, 0, []), (22, .ireturn, 0, 0, [])], [(23, .aload_n 0, 0, 0, []), (24, .getfield 29, 10, 20, [0]), (27, .bipush 8, 0, 0, []), (29, .iload_n 1, 0, 0, []), (30, .imul, 0, 0, []), (31, .iload_n 2, 0, 0, []), (32, .iadd, 0, 0, []), (33, .iaload, 0, 0, []), (34, .ldc 193, 100000, 0, [0]), (36, .if_icmp .lt 8, 3, 0, []), (39, .bipush (-2), 0, 0, []), (41, .goto 14, 4, 0, [])], [(44, .aload_n 0, 0, 0, []), (45, .getfield 29, 10, 20, [0]), (48, .bipush 8, 0, 0, []), (50, .iload_n 1, 0, 0, []), (51, .imul, 0, 0, []), (52, .iload_n 2, 0, 0, []), (53, .iadd, 0, 0, []), (54, .iaload, 0, 0, []), (55, .nop, 4, 0, [])], [(55, .ireturn, 0, 0, [])]]
def zB_180 : mzB := [[(0, .aload_n 0, 0, 0, []), (1, .getfield 13, 10, 3, [0]), (4, .iconst 2, 0, 0, []), (5, .iaload, 0, 0, []), (6, .ireturn, 0, 0, [])]]
def zB_181 : mzB := [[(0, .aload_n 0, 0, 0, []), (1, .getfield 13, 10, 3, [0]), (4, .bipush 69, 0, 0, []), (6, .iconst 5, 0, 0, []), (7, .iload_n 1, 0, 0, []), (8, .imul, 0, 0, []), (9, .iadd, 0, 0, []), (10, .iload_n 2, 0, 0, []), (11, .iadd, 0, 0, []), (12, .iaload, 0, 0, []), (13, .ireturn, 0, 0, [])]]
def zB_182 : mzB := [[(0, .iconst 0, 0, 0, []), (1, .istore_n 1, 0, 0, []), (2, .nop, 1, 0, [])], [(2, .iload_n 1, 0, 0, []), (3, .aload_n 0, 0, 0, []), (4, .invokevirtual 214, 180, 10, [1, 0, 0]), (7, .if_icmp .ge 28, 2, 0, []), (10, .aload_n 0, 0, 0, []), (11, .getfield 63, 10, 31, [0]), (14, .iload_n 1, 0, 0, []), (15, .iconst 1, 0, 0, []), (16, .bastore, 0, 0, []), (17, .aload_n 0, 0, 0, []), (18, .getfield 66, 10, 32, [0]), (21, .iload_n 1, 0, 0, []), (22, .aload_n 0, 0, 0, []), (23, .iload_n 1, 0, 0, []), (24, .iconst 0, 0, 0, []), (25, .invokevirtual 217, 181, 10, [3, 0, 0]), (28, .iastore, 0, 0, []), (29, .iinc 1 1, 0, 0, []), (32, .goto (-30), 1, 0, [])], [(35, .return_, 0, 0, [])]]
def zB_183 : mzB := [[(0, .aload_n 0, 0, 0, []), (1, .iconst 0, 0, 0, []), (2, .putfield 220, 10, 34, [0]), (5, .iconst 0, 0, 0, []), (6, .istore_n 1, 0, 0, []), (7, .nop, 1, 0, [])], [(7, .iload_n 1, 0, 0, []), (8, .aload_n 0, 0, 0, []), (9, .invokevirtual 214, 180, 10, [1, 0, 0]), (12, .if_icmp .ge 89, 6, 0, []), (15, .aload_n 0, 0, 0, []), (16, .getfield 63, 10, 31, [0]), (19, .iload_n 1, 0, 0, []), (20, .baload, 0, 0, []), (21, .ifCond .ne 6, 2, 0, []), (24, .goto 71, 5, 0, [])], [(27, .aload_n 0, 0, 0, []), (28, .getfield 220, 10, 34, [0]), (31, .istore_n 2, 0, 0, []), (32, .nop, 3, 0, [])], [(32, .iload_n 2, 0, 0, []), (33, .ifCond .le 45, 4, 0, []), (36, .aload_n 0, 0, 0, []), (37, .getfield 66, 10, 32, [0]), (40, .aload_n 0, 0, 0, []), (41, .getfield 69, 10, 33, [0]), (44, .iload_n 2, 0, 0, []), (45, .iconst 1, 0, 0, []), (46, .isub, 0, 0, []), (47, .iaload, 0, 0, []), (48, .iaload, 0, 0, []), (49, .aload_n 0, 0, 0, []), (50, .getfield 66, 10, 32, [0]), (53, .iload_n 1, 0, 0, []), (54, .iaload, 0, 0, []), (55, .if_icmp .le 23, 4, 0, []), (58, .aload_n 0, 0, 0, []), (59, .getfield 69, 10, 33, [0]), (62, .iload_n 2, 0, 0, []), (63, .aload_n 0, 0, 0, []), (64, .getfield 69, 10, 33, [0]), (67, .iload_n 2, 0, 0, []), (68, .iconst 1, 0, 0, []), (69, .isub, 0, 0, []), (70, .iaload, 0, 0, []), (71, .iastore, 0, 0, []), (72, .iinc 2 (-1), 0, 0, []), (75, .goto (-43), 3, 0, [])], [(78, .aload_n 0, 0, 0, []), (79, .getfield 69, 10, 33, [0]), (82, .iload_n 2, 0, 0, []), (83, .iload_n 1, 0, 0, []), (84, .iastore, 0, 0, []), (85, .aload_n 0, 0, 0, []), (86, .dup, 0, 0, []), (87, .getfield 220, 10, 34, [0]), (90, .iconst 1, 0, 0, []), (91, .iadd, 0, 0, []), (92, .putfield 220, 10, 34, [0]), (95, .nop, 5, 0, [])], [(95, .iinc 1 1, 0, 0, []), (98, .goto (-91), 1, 0, [])], [(101, .return_, 0, 0, [])]]
def zB_184 : mzB := [[(0, .iconst 0, 0, 0, []), (1, .istore_n 1, 0, 0, []), (2, .nop, 1, 0, [])], [(2, .iload_n 1, 0, 0, []), (3, .bipush 40, 0, 0, []), (5, .if_icmp .ge 60, 2, 0, []), (8, .aload_n 0, 0, 0, []), (9, .getfield 32, 10, 21, [0]), (12, .iload_n 1, 0, 0, []), (13, .iconst 0, 0, 0, []), (14, .bastore, 0, 0, []), (15, .aload_n 0, 0, 0, []), (16, .getfield 39, 10, 23, [0]), (19, .iload_n 1, 0, 0, []), (20, .bipush (-5), 0, 0, []), (22, .iastore, 0, 0, []), (23, .aload_n 0, 0, 0, []), (24, .getfield 48, 10, 26, [0]), (27, .iload_n 1, 0, 0, []), (28, .bipush (-5), 0, 0, []), (30, .iastore, 0, 0, []), (31, .aload_n 0, 0, 0, []), (32, .getfield 51, 10, 27, [0]), (35, .iload_n 1, 0, 0, []), (36, .iconst 0, 0, 0, []), (37, .bastore, 0, 0, []), (38, .aload_n 0, 0, 0, []), (39, .getfield 54, 10, 28, [0]), (42, .iload_n 1, 0, 0, []), (43, .iconst 0, 0, 0, []), (44, .bastore, 0, 0, []), (45, .aload_n 0, 0, 0, []), (46, .getfield 57, 10, 29, [0]), (49, .iload_n 1, 0, 0, []), (50, .iconst 0, 0, 0, []), (51, .bastore, 0, 0, []), (52, .aload_n 0, 0, 0, []), (53, .getfield 60, 10, 30, [0]), (56, .iload_n 1, 0, 0, []), (57, .iconst 0, 0, 0, []), (58, .bastore, 0, 0, []), (59, .iinc 1 1, 0, 0, []), (62, .goto (-60), 1, 0, [])], [(65, .aload_n 0, 0, 0, []), (66, .invokevirtual 223, 183, 10, [1, 0, 0]), (69, .return_, 0, 0, [])]]
def zB_185 : mzB := [[(0, .iload_n 1, 0, 0, []), (1, .istore_n 2, 0, 0, []), (2, .nop, 1, 0, [])], [(2, .aload_n 0, 0, 0, []), (3, .getfield 39, 10, 23, [0]), (6, .iload_n 2, 0, 0, []), (7, .iaload, 0, 0, []), (8, .bipush (-5), 0, 0, []), (10, .if_icmp .eq 13, 2, 0, []), (13, .aload_n 0, 0, 0, []), (14, .getfield 39, 10, 23, [0]), (17, .iload_n 2, 0, 0, []), (18, .iaload, 0, 0, []), (19, .istore_n 2, 0, 0, []), (20, .goto (-18), 1, 0, [])], [(23, .iload_n 2, 0, 0, []), (24, .ireturn, 0, 0, [])]]
def zB_186 : mzB := [[(0, .aload_n 0, 0, 0, []), (1, .getfield 39, 10, 23, [0]), (4, .iload_n 1, 0, 0, []), (5, .iaload, 0, 0, []), (6, .istore_n 3, 0, 0, []), (7, .nop, 1, 0, [])], [(7, .iload_n 3, 0, 0, []), (8, .bipush (-5), 0, 0, []), (10, .if_icmp .eq 18, 2, 0, []), (13, .iload_n 3, 0, 0, []), (14, .iload_n 2, 0, 0, []), (15, .if_icmp .eq 13, 2, 0, []), (18, .aload_n 0, 0, 0, []), (19, .getfield 39, 10, 23, [0]), (22, .iload_n 3, 0, 0, []), (23, .iaload, 0, 0, []), (24, .istore_n 3, 0, 0, []), (25, .goto (-18), 1, 0, [])], [(28, .iload_n 3, 0, 0, []), (29, .iload_n 2, 0, 0, []), (30, .if_icmp .ne 7, 3, 0, []), (33, .iconst 1, 0, 0, []), (34, .goto 4, 4, 0, [])], [(37, .iconst 0, 0, 0, []), (38, .nop, 4, 0, [])], [(38, .ireturn, 1, 0, [])]]
def zB_187 : mzB := [[(0, .iconst 0, 0, 0, []), (1, .istore_n 2, 0, 0, []), (2, .nop, 1, 0, [])], [(2, .iload_n 2, 0, 0, []), (3, .bipush 40, 0, 0, []), (5, .if_icmp .ge 34, 4, 0, []), (8, .aload_n 0, 0, 0, []), (9, .getfield 54, 10, 28, [0]), (12, .iload_n 2, 0, 0, []), (13, .baload, 0, 0, []), (14, .ifCond .eq 19, 3, 0, []), (17, .iload_n 2, 0, 0, []), (18, .iload_n 1, 0, 0, []), (19, .if_icmp .eq 12, 2, 0, []), (22, .aload_n 0, 0, 0, []), (23, .iload_n 2, 0, 0, []), (24, .iload_n 1, 0, 0, []), (25, .invokevirtual 226, 186, 10, [3, 0, 0]), (28, .ifCond .eq 5, 3, 0, []), (31, .nop, 2, 0, [])], [(31, .iconst 1, 0, 0, []), (32, .ireturn, 1, 0, [])], [(33, .iinc 2 1, 0, 0, []), (36, .goto (-34), 1, 0, [])], [(39, .iconst 0, 0, 0, []), (40, .ireturn, 1, 0, [])]]
def zB_188 : mzB := [[(0, .iconst 0, 0, 0, []), (1, .istore_n 2, 0, 0, []), (2, .iconst 0, 0, 0, []), (3, .istore_n 3, 0, 0, []), (4, .nop, 1, 0, [])], [(4, .iload_n 3, 0, 0, []), (5, .bipush 40, 0, 0, []), (7, .if_icmp .ge 27, 4, 0, []), (10, .iload_n 2, 0, 0, []), (11, .aload_n 0, 0, 0, []), (12, .getfield 39, 10, 23, [0]), (15, .iload_n 3, 0, 0, []), (16, .iaload, 0, 0, []), (17, .iload_n 1, 0, 0, []), (18, .if_icmp .ne 7, 2, 0, []), (21, .iconst 1, 0, 0, []), (22, .goto 4, 3, 0, [])], [(25, .iconst 0, 0, 0, []), (26, .nop, 3, 0, [])], [(26, .iadd, 0, 0, []), (27, .istore_n 2, 0, 0, []), (28, .iinc 3 1, 0, 0, []), (31, .goto (-27), 1, 0, [])], [(34, .iload_n 2, 0, 0, []), (35, .ireturn, 0, 0, [])]]
def zB_189 : mzB := [[(0, .aload_n 0, 0, 0, []), (1, .iload_n 1, 0, 0, []), (2, .invokevirtual 230, 185, 10, [2, 0, 0]), (5, .istore 4, 0, 0, []), (7, .aload_n 0, 0, 0, []), (8, .getfield 42, 10, 24, [0]), (11, .iload 4, 0, 0, []), (13, .iaload, 0, 0, []), (14, .iload_n 2, 0, 0, []), (15, .if_icmp .eq 36, 1, 0, []), (18, .iload_n 3, 0, 0, []), (19, .aload_n 0, 0, 0, []), (20, .getfield 45, 10, 25, [0]), (23, .iload 4, 0, 0, []), (25, .iaload, 0, 0, []), (26, .isub, 0, 0, []), (27, .aload_n 0, 0, 0, []), (28, .getfield 29, 10, 20, [0]), (31, .bipush 8, 0, 0, []), (33, .aload_n 0, 0, 0, []), (34, .getfield 42, 10, 24, [0]), (37, .iload 4, 0, 0, []), (39, .iaload, 0, 0, []), (40, .imul, 0, 0, []), (41, .iload_n 2, 0, 0, []), (42, .iadd, 0, 0, []), (43, .iaload, 0, 0, []), (44, .if_icmp .ge 7, 1, 0, []), (47, .iconst 1, 0, 0, []), (48, .goto 4, 2, 0, [])], [(51, .iconst 0, 0, 0, []), (52, .nop, 2, 0, [])], [(52, .ireturn, 1, 0, [])]]
def zB_190 : mzB := [[(0, .iload_n 1, 0, 0, []), (1, .iload_n 2, 0, 0, []), (2, .if_icmp .eq 14, 1, 0, []), (5, .iload_n 1, 0, 0, []), (6, .iload_n 3, 0, 0, []), (7, .if_icmp .eq 9, 1, 0, []), (10, .iload_n 1, 0, 0, []), (11, .iload 4, 0, 0, []), (13, .if_icmp .ne 7, 2, 0, []), (16, .nop, 1, 0, [])], [(16, .iconst 1, 0, 0, []), (17, .goto 4, 3, 0, [])], [(20, .iconst 0, 0, 0, []), (21, .nop, 3, 0, [])], [(21, .ireturn, 1, 0, [])]]
def zB_191 : mzB := [[(0, .aload_n 0, 0, 0, []), (1, .iload_n 1, 0, 0, []), (2, .iconst 1, 0, 0, []), (3, .invokevirtual 217, 181, 10, [3, 0, 0]), (6, .istore_n 2, 0, 0, []), (7, .aload_n 0, 0, 0, []), (8, .iload_n 1, 0, 0, []), (9, .iconst 2, 0, 0, []), (10, .invokevirtual 217, 181, 10, [3, 0, 0]), (13, .istore_n 3, 0, 0, []), (14, .aload_n 0, 0, 0, []), (15, .iload_n 1, 0, 0, []), (16, .iconst 3, 0, 0, []), (17, .invokevirtual 217, 181, 10, [3, 0, 0]), (20, .istore 4, 0, 0, []), (22, .iload_n 2, 0, 0, []), (23, .iconst 1, 0, 0, []), (24, .if_icmp .ne 7, 1, 0, []), (27, .iconst 1, 0, 0, []), (28, .goto 4, 2, 0, [])], [(31, .iconst 0, 0, 0, []), (32, .nop, 2, 0, [])], [(32, .istore 5, 0, 0, []), (34, .iload_n 2, 0, 0, []), (35, .ifCond .ne 18, 5, 0, []), (38, .aload_n 0, 0, 0, []), (39, .getfield 32, 10, 21, [0]), (42, .iload_n 3, 0, 0, []), (43, .baload, 0, 0, []), (44, .ifCond .eq 7, 3, 0, []), (47, .iconst 1, 0, 0, []), (48, .goto 4, 4, 0, [])], [(51, .iconst 0, 0, 0, []), (52, .nop, 4, 0, [])], [(52, .ireturn, 0, 0, [])], [(53, .aload_n 0, 0, 0, []), (54, .getfield 32, 10, 21, [0]), (57, .iload_n 3, 0, 0, []), (58, .baload, 0, 0, []), (59, .ifCond .eq 18, 6, 0, []), (62, .iload 5, 0, 0, []), (64, .ifCond .eq 15, 7, 0, []), (67, .aload_n 0, 0, 0, []), (68, .getfield 32, 10, 21, [0]), (71, .iload 4, 0, 0, []), (73, .baload, 0, 0, []), (74, .ifCond .ne 5, 7, 0, []), (77, .nop, 6, 0, [])], [(77, .iconst 2, 0, 0, []), (78, .ireturn, 0, 0, [])], [(79, .aload_n 0, 0, 0, []), (80, .getfield 60, 10, 30, [0]), (83, .iload_n 3, 0, 0, []), (84, .baload, 0, 0, []), (85, .ifCond .ne 18, 8, 0, []), (88, .iload 5, 0, 0, []), (90, .ifCond .eq 15, 9, 0, []), (93, .aload_n 0, 0, 0, []), (94, .getfield 60, 10, 30, [0]), (97, .iload 4, 0, 0, []), (99, .baload, 0, 0, []), (100, .ifCond .eq 5, 9, 0, []), (103, .nop, 8, 0, [])], [(103, .iconst 3, 0, 0, []), (104, .ireturn, 0, 0, [])], [(105, .iload 5, 0, 0, []), (107, .ifCond .eq 23, 10, 0, []), (110, .aload_n 0, 0, 0, []), (111, .getfield 36, 10, 22, [0]), (114, .iload 4, 0, 0, []), (116, .iaload, 0, 0, []), (117, .aload_n 0, 0, 0, []), (118, .getfield 36, 10, 22, [0]), (121, .iload_n 3, 0, 0, []), (122, .iaload, 0, 0, []), (123, .iconst 1, 0, 0, []), (124, .iadd, 0, 0, []), (125, .if_icmp .eq 5, 10, 0, []), (128, .iconst 4, 0, 0, []), (129, .ireturn, 0, 0, [])], [(130, .iload 5, 0, 0, []), (132, .ifCond .eq 14, 11, 0, []), (135, .aload_n 0, 0, 0, []), (136, .getfield 39, 10, 23, [0]), (139, .iload_n 3, 0, 0, []), (140, .iaload, 0, 0, []), (141, .bipush (-5), 0, 0, []), (143, .if_icmp .ne 19, 12, 0, []), (146, .nop, 11, 0, [])], [(146, .iload_n 2, 0, 0, []), (147, .iconst 2, 0, 0, []), (148, .if_icmp .ne 16, 13, 0, []), (151, .aload_n 0, 0, 0, []), (152, .getfield 39, 10, 23, [0]), (155, .iload_n 3, 0, 0, []), (156, .iaload, 0, 0, []), (157, .bipush (-5), 0, 0, []), (159, .if_icmp .ne 5, 13, 0, []), (162, .nop, 12, 0, [])], [(162, .iconst 5, 0, 0, []), (163, .ireturn, 0, 0, [])], [(164, .iload_n 2, 0, 0, []), (165, .iconst 1, 0, 0, []), (166, .if_icmp .lt 13, 14, 0, []), (169, .iload_n 2, 0, 0, []), (170, .bipush 7, 0, 0, []), (172, .if_icmp .gt 7, 14, 0, []), (175, .iconst 1, 0, 0, []), (176, .goto 4, 15, 0, [])], [(179, .iconst 0, 0, 0, []), (180, .nop, 15, 0, [])], [(180, .istore 6, 0, 0, []), (182, .iload 6, 0, 0, []), (184, .ifCond .eq 16, 16, 0, []), (187, .aload_n 0, 0, 0, []), (188, .getfield 57, 10, 29, [0]), (191, .aload_n 0, 0, 0, []), (192, .iload_n 3, 0, 0, []), (193, .invokevirtual 230, 185, 10, [2, 0, 0]), (196, .baload, 0, 0, []), (197, .ifCond .ne 22, 17, 0, []), (200, .nop, 16, 0, [])], [(200, .iload 5, 0, 0, []), (202, .ifCond .eq 20, 18, 0, []), (205, .aload_n 0, 0, 0, []), (206, .getfield 57, 10, 29, [0]), (209, .aload_n 0, 0, 0, []), (210, .iload 4, 0, 0, []), (212, .invokevirtual 230, 185, 10, [2, 0, 0]), (215, .baload, 0, 0, []), (216, .ifCond .eq 6, 18, 0, []), (219, .nop, 17, 0, [])], [(219, .bipush 6, 0, 0, []), (221, .ireturn, 0, 0, [])], [(222, .iload_n 2, 0, 0, []), (223, .bipush 8, 0, 0, []), (225, .if_icmp .ne 26, 20, 0, []), (228, .aload_n 0, 0, 0, []), (229, .getfield 39, 10, 23, [0]), (232, .iload_n 3, 0, 0, []), (233, .iaload, 0, 0, []), (234, .bipush (-5), 0, 0, []), (236, .if_icmp .ne 12, 19, 0, []), (239, .aload_n 0, 0, 0, []), (240, .getfield 57, 10, 29, [0]), (243, .iload_n 3, 0, 0, []), (244, .baload, 0, 0, []), (245, .ifCond .ne 6, 20, 0, []), (248, .nop, 19, 0, [])], [(248, .bipush 6, 0, 0, []), (250, .ireturn, 0, 0, [])], [(251, .iload 5, 0, 0, []), (253, .ifCond .eq 51, 22, 0, []), (256, .aload_n 0, 0, 0, []), (257, .getfield 42, 10, 24, [0]), (260, .iload_n 3, 0, 0, []), (261, .iaload, 0, 0, []), (262, .aload_n 0, 0, 0, []), (263, .getfield 42, 10, 24, [0]), (266, .aload_n 0, 0, 0, []), (267, .iload 4, 0, 0, []), (269, .invokevirtual 230, 185, 10, [2, 0, 0]), (272, .iaload, 0, 0, []), (273, .if_icmp .ne 28, 21, 0, []), (276, .aload_n 0, 0, 0, []), (277, .iload 4, 0, 0, []), (279, .invokevirtual 234, 188, 10, [2, 0, 0]), (282, .aload_n 0, 0, 0, []), (283, .getfield 13, 10, 3, [0]), (286, .iconst 3, 0, 0, []), (287, .aload_n 0, 0, 0, []), (288, .getfield 36, 10, 22, [0]), (291, .iload 4, 0, 0, []), (293, .iaload, 0, 0, []), (294, .iadd, 0, 0, []), (295, .iconst 1, 0, 0, []), (296, .isub, 0, 0, []), (297, .iaload, 0, 0, []), (298, .if_icmp .lt 6, 22, 0, []), (301, .nop, 21, 0, [])], [(301, .bipush 7, 0, 0, []), (303, .ireturn, 0, 0, [])], [(304, .iload_n 2, 0, 0, []), (305, .iconst 3, 0, 0, []), (306, .if_icmp .ne 21, 23, 0, []), (309, .aload_n 0, 0, 0, []), (310, .getfield 51, 10, 27, [0]), (313, .iload_n 3, 0, 0, []), (314, .baload, 0, 0, []), (315, .ifCond .ne 26, 24, 0, []), (318, .aload_n 0, 0, 0, []), (319, .getfield 36, 10, 22, [0]), (322, .iload_n 3, 0, 0, []), (323, .iaload, 0, 0, []), (324, .ifCond .eq 17, 24, 0, []), (327, .nop, 23, 0, [])], [(327, .iload_n 2, 0, 0, []), (328, .iconst 4, 0, 0, []), (329, .if_icmp .ne 15, 25, 0, []), (332, .aload_n 0, 0, 0, []), (333, .getfield 51, 10, 27, [0]), (336, .iload_n 3, 0, 0, []), (337, .baload, 0, 0, []), (338, .ifCond .ne 6, 25, 0, []), (341, .nop, 24, 0, [])], [(341, .bipush 8, 0, 0, []), (343, .ireturn, 0, 0, [])], [(344, .aload_n 0, 0, 0, []), (345, .iload_n 2, 0, 0, []), (346, .iconst 5, 0, 0, []), (347, .bipush 7, 0, 0, []), (349, .bipush 8, 0, 0, []), (351, .invokevirtual 237, 190, 10, [5, 0, 0]), (354, .ifCond .eq 17, 26, 0, []), (357, .aload_n 0, 0, 0, []), (358, .getfield 39, 10, 23, [0]), (361, .iload_n 3, 0, 0, []), (362, .iaload, 0, 0, []), (363, .bipush (-5), 0, 0, []), (365, .if_icmp .eq 6, 26, 0, []), (368, .bipush 9, 0, 0, []), (370, .ireturn, 0, 0, [])], [(371, .iload_n 2, 0, 0, []), (372, .iconst 5, 0, 0, []), (373, .if_icmp .eq 9, 27, 0, []), (376, .iload_n 2, 0, 0, []), (377, .bipush 6, 0, 0, []), (379, .if_icmp .ne 22, 28, 0, []), (382, .nop, 27, 0, [])], [(382, .aload_n 0, 0, 0, []), (383, .iload_n 3, 0, 0, []), (384, .iload 4, 0, 0, []), (386, .aload_n 0, 0, 0, []), (387, .getfield 66, 10, 32, [0]), (390, .iload_n 1, 0, 0, []), (391, .iaload, 0, 0, []), (392, .invokevirtual 241, 189, 10, [4, 0, 0]), (395, .ifCond .eq 6, 28, 0, []), (398, .bipush 10, 0, 0, []), (400, .ireturn, 0, 0, [])], [(401, .iload 5, 0, 0, []), (403, .ifCond .ne 9, 29, 0, []), (406, .iload_n 2, 0, 0, []), (407, .bipush 7, 0, 0, []), (409, .if_icmp .ne 14, 30, 0, []), (412, .nop, 29, 0, [])], [(412, .aload_n 0, 0, 0, []), (413, .iload_n 3, 0, 0, []), (414, .invokevirtual 245, 187, 10, [2, 0, 0]), (417, .ifCond .eq 6, 30, 0, []), (420, .bipush 11, 0, 0, []), (422, .ireturn, 0, 0, [])], [(423, .iload_n 2, 0, 0, []), (424, .bipush 10, 0, 0, []), (426, .if_icmp .ne 17, 31, 0, []), (429, .aload_n 0, 0, 0, []), (430, .getfield 54, 10, 28, [0]), (433, .iload_n 3, 0, 0, []), (434, .baload, 0, 0, []), (435, .ifCond .ne 8, 31, 0, []), (438, .bipush 12, 0, 0, []), (440, .goto 4, 32, 0, [])], [(443, .iconst 0, 0, 0, []), (444, .nop, 32, 0, [])], [(444, .ireturn, 0, 0, [])]]
def zB_192 : mzB := [[(0, .aload_n 0, 0, 0, []), (1, .getfield 72, 10, 35, [0]), (4, .iload_n 1, 0, 0, []), (5, .aload_n 0, 0, 0, []), (6, .iload_n 1, 0, 0, []), (7, .invokevirtual 248, 191, 10, [2, 0, 0]), (10, .iastore, 0, 0, []), (11, .aload_n 0, 0, 0, []), (12, .iload_n 1, 0, 0, []), (13, .iconst 1, 0, 0, []), (14, .invokevirtual 217, 181, 10, [3, 0, 0]), (17, .istore_n 2, 0, 0, []), (18, .aload_n 0, 0, 0, []), (19, .iload_n 1, 0, 0, []), (20, .iconst 2, 0, 0, []), (21, .invokevirtual 217, 181, 10, [3, 0, 0]), (24, .istore_n 3, 0, 0, []), (25, .aload_n 0, 0, 0, []), (26, .getfield 72, 10, 35, [0]), (29, .iload_n 1, 0, 0, []), (30, .iaload, 0, 0, []), (31, .ifCond .ne 30, 1, 0, []), (34, .aload_n 0, 0, 0, []), (35, .iload_n 2, 0, 0, []), (36, .iload_n 3, 0, 0, []), (37, .aload_n 0, 0, 0, []), (38, .iload_n 1, 0, 0, []), (39, .iconst 3, 0, 0, []), (40, .invokevirtual 217, 181, 10, [3, 0, 0]), (43, .aload_n 0, 0, 0, []), (44, .getfield 66, 10, 32, [0]), (47, .iload_n 1, 0, 0, []), (48, .iaload, 0, 0, []), (49, .aload_n 0, 0, 0, []), (50, .iload_n 1, 0, 0, []), (51, .iconst 4, 0, 0, []), (52, .invokevirtual 217, 181, 10, [3, 0, 0]), (55, .invokevirtual 251, 194, 10, [6, 0, 0]), (58, .goto 51, 4, 0, [])], [(61, .iload_n 2, 0, 0, []), (62, .ifCond .ne 12, 2, 0, []), (65, .aload_n 0, 0, 0, []), (66, .getfield 60, 10, 30, [0]), (69, .iload_n 3, 0, 0, []), (70, .baload, 0, 0, []), (71, .ifCond .eq 31, 3, 0, []), (74, .nop, 2, 0, [])], [(74, .iload_n 2, 0, 0, []), (75, .bipush 6, 0, 0, []), (77, .if_icmp .ne 32, 4, 0, []), (80, .aload_n 0, 0, 0, []), (81, .getfield 72, 10, 35, [0]), (84, .iload_n 1, 0, 0, []), (85, .iaload, 0, 0, []), (86, .bipush 6, 0, 0, []), (88, .if_icmp .eq 14, 3, 0, []), (91, .aload_n 0, 0, 0, []), (92, .getfield 72, 10, 35, [0]), (95, .iload_n 1, 0, 0, []), (96, .iaload, 0, 0, []), (97, .bipush 10, 0, 0, []), (99, .if_icmp .ne 10, 4, 0, []), (102, .nop, 3, 0, [])], [(102, .aload_n 0, 0, 0, []), (103, .getfield 54, 10, 28, [0]), (106, .iload_n 3, 0, 0, []), (107, .iconst 1, 0, 0, []), (108, .bastore, 0, 0, []), (109, .nop, 4, 0, [])], [(109, .return_, 0, 0, [])]]
def zB_193 : mzB := [[(0, .aload_n 0, 0, 0, []), (1, .getfield 42, 10, 24, [0]), (4, .iload_n 1, 0, 0, []), (5, .iload_n 2, 0, 0, []), (6, .iastore, 0, 0, []), (7, .aload_n 0, 0, 0, []), (8, .getfield 45, 10, 25, [0]), (11, .iload_n 1, 0, 0, []), (12, .iload_n 3, 0, 0, []), (13, .iastore, 0, 0, []), (14, .return_, 0, 0, [])]]
def zB_194 : mzB := [[(0, .iload_n 1, 0, 0, []), (1, .tableswitch 189 0 9 #[55, 81, 91, 111, 121, 131, 142, 153, 163, 181], 11, 0, [1, 2, 3, 4, 5, 6, 7, 8, 9, 10])], [(56, .aload_n 0, 0, 0, []), (57, .getfield 32, 10, 21, [0]), (60, .iload_n 2, 0, 0, []), (61, .iconst 1, 0, 0, []), (62, .bastore, 0, 0, []), (63, .aload_n 0, 0, 0, []), (64, .getfield 36, 10, 22, [0]), (67, .iload_n 2, 0, 0, []), (68, .iload 5, 0, 0, []), (70, .iastore, 0, 0, []), (71, .aload_n 0, 0, 0, []), (72, .iload_n 2, 0, 0, []), (73, .iload_n 3, 0, 0, []), (74, .iload 4, 0, 0, []), (76, .invokevirtual 255, 193, 10, [4, 0, 0]), (79, .goto 118, 12, 0, [])], [(82, .aload_n 0, 0, 0, []), (83, .getfield 39, 10, 23, [0]), (86, .iload_n 2, 0, 0, []), (87, .iload_n 3, 0, 0, []), (88, .iastore, 0, 0, []), (89, .goto 108, 12, 0, [])], [(92, .aload_n 0, 0, 0, []), (93, .iload_n 2, 0, 0, []), (94, .aload_n 0, 0, 0, []), (95, .getfield 42, 10, 24, [0]), (98, .aload_n 0, 0, 0, []), (99, .iload_n 2, 0, 0, []), (100, .invokevirtual 230, 185, 10, [2, 0, 0]), (103, .iaload, 0, 0, []), (104, .iload 4, 0, 0, []), (106, .invokevirtual 259, 195, 10, [4, 0, 0]), (109, .goto 88, 12, 0, [])], [(112, .aload_n 0, 0, 0, []), (113, .getfield 51, 10, 27, [0]), (116, .iload_n 2, 0, 0, []), (117, .iconst 1, 0, 0, []), (118, .bastore, 0, 0, []), (119, .goto 78, 12, 0, [])], [(122, .aload_n 0, 0, 0, []), (123, .getfield 51, 10, 27, [0]), (126, .iload_n 2, 0, 0, []), (127, .iconst 0, 0, 0, []), (128, .bastore, 0, 0, []), (129, .goto 68, 12, 0, [])], [(132, .aload_n 0, 0, 0, []), (133, .iload_n 2, 0, 0, []), (134, .iload_n 3, 0, 0, []), (135, .iload 4, 0, 0, []), (137, .invokevirtual 255, 193, 10, [4, 0, 0]), (140, .goto 57, 12, 0, [])], [(143, .aload_n 0, 0, 0, []), (144, .iload_n 2, 0, 0, []), (145, .iload_n 3, 0, 0, []), (146, .iload 4, 0, 0, []), (148, .invokevirtual 262, 196, 10, [4, 0, 0]), (151, .goto 46, 12, 0, [])], [(154, .aload_n 0, 0, 0, []), (155, .getfield 57, 10, 29, [0]), (158, .iload_n 2, 0, 0, []), (159, .iconst 1, 0, 0, []), (160, .bastore, 0, 0, []), (161, .goto 36, 12, 0, [])], [(164, .aload_n 0, 0, 0, []), (165, .getfield 57, 10, 29, [0]), (168, .iload_n 2, 0, 0, []), (169, .iconst 0, 0, 0, []), (170, .bastore, 0, 0, []), (171, .aload_n 0, 0, 0, []), (172, .iload_n 2, 0, 0, []), (173, .iload_n 3, 0, 0, []), (174, .iload 4, 0, 0, []), (176, .invokevirtual 255, 193, 10, [4, 0, 0]), (179, .goto 18, 12, 0, [])], [(182, .aload_n 0, 0, 0, []), (183, .iload_n 2, 0, 0, []), (184, .invokevirtual 265, 197, 10, [2, 0, 0]), (187, .goto 10, 12, 0, [])], [(190, .aload_n 0, 0, 0, []), (191, .getfield 54, 10, 28, [0]), (194, .iload_n 2, 0, 0, []), (195, .iconst 0, 0, 0, []), (196, .bastore, 0, 0, []), (197, .nop, 12, 0, [])], [(197, .return_, 0, 0, [])]]
def zB_195 : mzB := [[(0, .aload_n 0, 0, 0, []), (1, .getfield 51, 10, 27, [0]), (4, .aload_n 0, 0, 0, []), (5, .getfield 39, 10, 23, [0]), (8, .iload_n 1, 0, 0, []), (9, .iaload, 0, 0, []), (10, .iconst 1, 0, 0, []), (11, .bastore, 0, 0, []), (12, .aload_n 0, 0, 0, []), (13, .getfield 39, 10, 23, [0]), (16, .iload_n 1, 0, 0, []), (17, .bipush (-5), 0, 0, []), (19, .iastore, 0, 0, []), (20, .aload_n 0, 0, 0, []), (21, .iload_n 1, 0, 0, []), (22, .iload_n 2, 0, 0, []), (23, .iload_n 3, 0, 0, []), (24, .invokevirtual 255, 193, 10, [4, 0, 0]), (27, .return_, 0, 0, [])]]
def zB_196 : mzB := [[(0, .aload_n 0, 0, 0, []), (1, .getfield 48, 10, 26, [0]), (4, .iload_n 1, 0, 0, []), (5, .iload_n 3, 0, 0, []), (6, .iastore, 0, 0, []), (7, .aload_n 0, 0, 0, []), (8, .iload_n 1, 0, 0, []), (9, .invokevirtual 230, 185, 10, [2, 0, 0]), (12, .istore 4, 0, 0, []), (14, .aload_n 0, 0, 0, []), (15, .getfield 42, 10, 24, [0]), (18, .iload 4, 0, 0, []), (20, .iaload, 0, 0, []), (21, .iload_n 2, 0, 0, []), (22, .if_icmp .ne 12, 1, 0, []), (25, .aload_n 0, 0, 0, []), (26, .getfield 45, 10, 25, [0]), (29, .iload 4, 0, 0, []), (31, .iload_n 3, 0, 0, []), (32, .iastore, 0, 0, []), (33, .return_, 0, 0, [])], [(34, .iload_n 1, 0, 0, []), (35, .istore 5, 0, 0, []), (37, .nop, 2, 0, [])], [(37, .aload_n 0, 0, 0, []), (38, .getfield 39, 10, 23, [0]), (41, .iload 5, 0, 0, []), (43, .iaload, 0, 0, []), (44, .bipush (-5), 0, 0, []), (46, .if_icmp .eq 30, 3, 0, []), (49, .aload_n 0, 0, 0, []), (50, .getfield 51, 10, 27, [0]), (53, .aload_n 0, 0, 0, []), (54, .getfield 39, 10, 23, [0]), (57, .iload 5, 0, 0, []), (59, .iaload, 0, 0, []), (60, .baload, 0, 0, []), (61, .ifCond .ne 15, 3, 0, []), (64, .aload_n 0, 0, 0, []), (65, .getfield 39, 10, 23, [0]), (68, .iload 5, 0, 0, []), (70, .iaload, 0, 0, []), (71, .istore 5, 0, 0, []), (73, .goto (-36), 2, 0, [])], [(76, .aload_n 0, 0, 0, []), (77, .getfield 39, 10, 23, [0]), (80, .iload 5, 0, 0, []), (82, .iaload, 0, 0, []), (83, .bipush (-5), 0, 0, []), (85, .if_icmp .eq 14, 4, 0, []), (88, .aload_n 0, 0, 0, []), (89, .iload 5, 0, 0, []), (91, .iload_n 2, 0, 0, []), (92, .iload_n 3, 0, 0, []), (93, .invokevirtual 259, 195, 10, [4, 0, 0]), (96, .goto 11, 5, 0, [])], [(99, .aload_n 0, 0, 0, []), (100, .iload 4, 0, 0, []), (102, .iload_n 2, 0, 0, []), (103, .iload_n 3, 0, 0, []), (104, .invokevirtual 255, 193, 10, [4, 0, 0]), (107, .nop, 5, 0, [])], [(107, .return_, 0, 0, [])]]
def zB_197 : mzB := [[(0, .iconst 0, 0, 0, []), (1, .istore_n 2, 0, 0, []), (2, .nop, 1, 0, [])], [(2, .iload_n 2, 0, 0, []), (3, .bipush 40, 0, 0, []), (5, .if_icmp .ge 34, 5, 0, []), (8, .aload_n 0, 0, 0, []), (9, .getfield 75, 10, 36, [0]), (12, .iload_n 2, 0, 0, []), (13, .iload_n 2, 0, 0, []), (14, .iload_n 1, 0, 0, []), (15, .if_icmp .eq 12, 2, 0, []), (18, .aload_n 0, 0, 0, []), (19, .iload_n 2, 0, 0, []), (20, .iload_n 1, 0, 0, []), (21, .invokevirtual 226, 186, 10, [3, 0, 0]), (24, .ifCond .eq 7, 3, 0, []), (27, .nop, 2, 0, [])], [(27, .iconst 1, 0, 0, []), (28, .goto 4, 4, 0, [])], [(31, .iconst 0, 0, 0, []), (32, .nop, 4, 0, [])], [(32, .bastore, 0, 0, []), (33, .iinc 2 1, 0, 0, []), (36, .goto (-34), 1, 0, [])], [(39, .aload_n 0, 0, 0, []), (40, .getfield 39, 10, 23, [0]), (43, .iload_n 1, 0, 0, []), (44, .iaload, 0, 0, []), (45, .bipush (-5), 0, 0, []), (47, .if_icmp .eq 15, 6, 0, []), (50, .aload_n 0, 0, 0, []), (51, .getfield 51, 10, 27, [0]), (54, .aload_n 0, 0, 0, []), (55, .getfield 39, 10, 23, [0]), (58, .iload_n 1, 0, 0, []), (59, .iaload, 0, 0, []), (60, .iconst 1, 0, 0, []), (61, .bastore, 0, 0, []), (62, .nop, 6, 0, [])], [(62, .iconst 0, 0, 0, []), (63, .istore_n 2, 0, 0, []), (64, .nop, 7, 0, [])], [(64, .iload_n 2, 0, 0, []), (65, .bipush 40, 0, 0, []), (67, .if_icmp .ge 57, 10, 0, []), (70, .aload_n 0, 0, 0, []), (71, .getfield 75, 10, 36, [0]), (74, .iload_n 2, 0, 0, []), (75, .baload, 0, 0, []), (76, .ifCond .ne 6, 8, 0, []), (79, .goto 39, 9, 0, [])], [(82, .aload_n 0, 0, 0, []), (83, .getfield 60, 10, 30, [0]), (86, .iload_n 2, 0, 0, []), (87, .iconst 1, 0, 0, []), (88, .bastore, 0, 0, []), (89, .aload_n 0, 0, 0, []), (90, .getfield 39, 10, 23, [0]), (93, .iload_n 2, 0, 0, []), (94, .bipush (-5), 0, 0, []), (96, .iastore, 0, 0, []), (97, .aload_n 0, 0, 0, []), (98, .getfield 51, 10, 27, [0]), (101, .iload_n 2, 0, 0, []), (102, .iconst 0, 0, 0, []), (103, .bastore, 0, 0, []), (104, .aload_n 0, 0, 0, []), (105, .getfield 54, 10, 28, [0]), (108, .iload_n 2, 0, 0, []), (109, .iconst 0, 0, 0, []), (110, .bastore, 0, 0, []), (111, .aload_n 0, 0, 0, []), (112, .getfield 57, 10, 29, [0]), (115, .iload_n 2, 0, 0, []), (116, .iconst 0, 0, 0, []), (117, .bastore, 0, 0, []), (118, .nop, 9, 0, [])], [(118, .iinc 2 1, 0, 0, []), (121, .goto (-57), 7, 0, [])], [(124, .return_, 0, 0, [])]]
def zB_198 : mzB := [[(0, .aload_n 0, 0, 0, []), (1, .invokevirtual 268, 184, 10, [1, 0, 0]), (4, .iconst 0, 0, 0, []), (5, .istore_n 2, 0, 0, []), (6, .nop, 1, 0, [])], [(6, .iload_n 2, 0, 0, []), (7, .aload_n 0, 0, 0, []), (8, .getfield 220, 10, 34, [0]), (11, .if_icmp .ge 34, 2, 0, []), (14, .aload_n 0, 0, 0, []), (15, .getfield 66, 10, 32, [0]), (18, .aload_n 0, 0, 0, []), (19, .getfield 69, 10, 33, [0]), (22, .iload_n 2, 0, 0, []), (23, .iaload, 0, 0, []), (24, .iaload, 0, 0, []), (25, .iload_n 1, 0, 0, []), (26, .if_icmp .gt 19, 2, 0, []), (29, .aload_n 0, 0, 0, []), (30, .aload_n 0, 0, 0, []), (31, .getfield 69, 10, 33, [0]), (34, .iload_n 2, 0, 0, []), (35, .iaload, 0, 0, []), (36, .invokevirtual 271, 192, 10, [2, 0, 0]), (39, .iinc 2 1, 0, 0, []), (42, .goto (-36), 1, 0, [])], [(45, .return_, 0, 0, [])]]
def zB_199 : mzB := [[(0, .aload_n 0, 0, 0, []), (1, .invokevirtual 274, 182, 10, [1, 0, 0]), (4, .aload_n 0, 0, 0, []), (5, .sipush 999, 0, 0, []), (8, .invokevirtual 277, 198, 10, [2, 0, 0]), (11, .return_, 0, 0, [])]]
def zB_200 : mzB := [[(0, .aload_n 0, 0, 0, []), (1, .invokevirtual 274, 182, 10, [1, 0, 0]), (4, .aload_n 0, 0, 0, []), (5, .iload_n 1, 0, 0, []), (6, .invokevirtual 277, 198, 10, [2, 0, 0]), (9, .return_, 0, 0, [])]]
def zB_201 : mzB := [[(0, .aload_n 0, 0, 0, []), (1, .getfield 32, 10, 21, [0]), (4, .iload_n 1, 0, 0, []), (5, .baload, 0, 0, []), (6, .ifCond .ne 6, 1, 0, []), (9, .bipush (-2), 0, 0, []), (11, .ireturn, 0, 0, [])], [(12, .aload_n 0, 0, 0, []), (13, .getfield 60, 10, 30, [0]), (16, .iload_n 1, 0, 0, []), (17, .baload, 0, 0, []), (18, .ifCond .eq 6, 2, 0, []), (21, .bipush (-4), 0, 0, []), (23, .ireturn, 0, 0, [])], [(24, .aload_n 0, 0, 0, []), (25, .iload_n 1, 0, 0, []), (26, .invokevirtual 230, 185, 10, [2, 0, 0]), (29, .istore_n 2, 0, 0, []), (30, .aload_n 0, 0, 0, []), (31, .getfield 57, 10, 29, [0]), (34, .iload_n 2, 0, 0, []), (35, .baload, 0, 0, []), (36, .ifCond .eq 8, 3, 0, []), (39, .bipush (-3), 0, 0, []), (41, .goto 9, 4, 0, [])], [(44, .aload_n 0, 0, 0, []), (45, .getfield 42, 10, 24, [0]), (48, .iload_n 2, 0, 0, []), (49, .iaload, 0, 0, []), (50, .nop, 4, 0, [])], [(50, .ireturn, 0, 0, [])]]
def zB_202 : mzB := [[(0, .aload_n 0, 0, 0, []), (1, .iconst 0, 0, 0, []), (2, .putfield 96, 10, 0, [0]), (5, .iload_n 1, 0, 0, []), (6, .ifCond .lt 11, 1, 0, []), (9, .iload_n 1, 0, 0, []), (10, .aload_n 0, 0, 0, []), (11, .invokevirtual 214, 180, 10, [1, 0, 0]), (14, .if_icmp .lt 10, 2, 0, []), (17, .nop, 1, 0, [])], [(17, .aload_n 0, 0, 0, []), (18, .iconst 1, 0, 0, []), (19, .putfield 96, 10, 0, [0]), (22, .iconst 0, 0, 0, []), (23, .ireturn, 0, 0, [])], [(24, .aload_n 0, 0, 0, []), (25, .invokevirtual 280, 199, 10, [1, 0, 0]), (28, .iload_n 2, 0, 0, []), (29, .tableswitch 77 0 6 #[43, 43, 43, 43, 50, 57, 63], 9, 0, [3, 3, 3, 3, 4, 5, 6])], [(72, .aload_n 0, 0, 0, []), (73, .iload_n 1, 0, 0, []), (74, .iload_n 2, 0, 0, []), (75, .invokevirtual 217, 181, 10, [3, 0, 0]), (78, .ireturn, 0, 0, [])], [(79, .aload_n 0, 0, 0, []), (80, .getfield 72, 10, 35, [0]), (83, .iload_n 1, 0, 0, []), (84, .iaload, 0, 0, []), (85, .ireturn, 0, 0, [])], [(86, .aload_n 0, 0, 0, []), (87, .iload_n 1, 0, 0, []), (88, .invokevirtual 283, 203, 10, [2, 0, 0]), (91, .ireturn, 0, 0, [])], [(92, .aload_n 0, 0, 0, []), (93, .iload_n 1, 0, 0, []), (94, .invokevirtual 286, 204, 10, [2, 0, 0]), (97, .ifCond .eq 7, 7, 0, []), (100, .iconst 1, 0, 0, []), (101, .goto 4, 8, 0, [])], [(104, .iconst 0, 0, 0, []), (105, .nop, 8, 0, [])], [(105, .ireturn, 0, 0, [])], [(106, .aload_n 0, 0, 0, []), (107, .iconst 2, 0, 0, []), (108, .putfield 96, 10, 0, [0]), (111, .iconst 0, 0, 0, []), (112, .ireturn, 0, 0, [])]]
def zB_203 : mzB := [[(0, .iconst 0, 0, 0, []), (1, .istore_n 2, 0, 0, []), (2, .nop, 1, 0, [])], [(2, .aload_n 0, 0, 0, []), (3, .getfield 69, 10, 33, [0]), (6, .iload_n 2, 0, 0, []), (7, .iaload, 0, 0, []), (8, .iload_n 1, 0, 0, []), (9, .if_icmp .eq 9, 2, 0, []), (12, .iinc 2 1, 0, 0, []), (15, .goto (-13), 1, 0, [])], [(18, .iload_n 2, 0, 0, []), (19, .ireturn, 0, 0, [])]]
def zB_204 : mzB := [[(0, .iconst 0, 0, 0, []), (1, .istore_n 2, 0, 0, []), (2, .nop, 1, 0, [])], [(2, .iload_n 2, 0, 0, []), (3, .iload_n 1, 0, 0, []), (4, .if_icmp .ge 26, 3, 0, []), (7, .aload_n 0, 0, 0, []), (8, .iload_n 2, 0, 0, []), (9, .iconst 0, 0, 0, []), (10, .invokevirtual 217, 181, 10, [3, 0, 0]), (13, .aload_n 0, 0, 0, []), (14, .iload_n 1, 0, 0, []), (15, .iconst 0, 0, 0, []), (16, .invokevirtual 217, 181, 10, [3, 0, 0]), (19, .if_icmp .le 5, 2, 0, []), (22, .iconst 1, 0, 0, []), (23, .ireturn, 1, 0, [])], [(24, .iinc 2 1, 0, 0, []), (27, .goto (-25), 1, 0, [])], [(30, .iconst 0, 0, 0, []), (31, .ireturn, 1, 0, [])]]
def zB_205 : mzB := [[(0, .iload_n 0, 0, 0, []), (1, .ifCond .lt 13, 1, 0, []), (4, .iload_n 0, 0, 0, []), (5, .bipush 40, 0, 0, []), (7, .if_icmp .ge 7, 1, 0, []), (10, .iconst 1, 0, 0, []), (11, .goto 4, 2, 0, [])], [(14, .iconst 0, 0, 0, []), (15, .nop, 2, 0, [])], [(15, .ireturn, 1, 0, [])]]
def zB_206 : mzB := [[(0, .iload_n 0, 0, 0, []), (1, .ifCond .lt 14, 1, 0, []), (4, .iload_n 0, 0, 0, []), (5, .sipush 999, 0, 0, []), (8, .if_icmp .gt 7, 1, 0, []), (11, .iconst 1, 0, 0, []), (12, .goto 4, 2, 0, [])], [(15, .iconst 0, 0, 0, []), (16, .nop, 2, 0, [])], [(16, .ireturn, 1, 0, [])]]
def zB_207 : mzB := [[(0, .iconst 0, 0, 0, []), (1, .istore_n 2, 0, 0, []), (2, .iconst 0, 0, 0, []), (3, .istore_n 3, 0, 0, []), (4, .nop, 1, 0, [])], [(4, .iload_n 3, 0, 0, []), (5, .bipush 40, 0, 0, []), (7, .if_icmp .ge 26, 4, 0, []), (10, .iload_n 2, 0, 0, []), (11, .aload_n 0, 0, 0, []), (12, .iload_n 3, 0, 0, []), (13, .iload_n 1, 0, 0, []), (14, .invokevirtual 226, 186, 10, [3, 0, 0]), (17, .ifCond .eq 7, 2, 0, []), (20, .iconst 1, 0, 0, []), (21, .goto 4, 3, 0, [])], [(24, .iconst 0, 0, 0, []), (25, .nop, 3, 0, [])], [(25, .iadd, 0, 0, []), (26, .istore_n 2, 0, 0, []), (27, .iinc 3 1, 0, 0, []), (30, .goto (-26), 1, 0, [])], [(33, .iload_n 2, 0, 0, []), (34, .ireturn, 0, 0, [])]]
def zB_208 : mzB := [[(0, .aload_n 0, 0, 0, []), (1, .iconst 0, 0, 0, []), (2, .putfield 96, 10, 0, [0]), (5, .iload_n 1, 0, 0, []), (6, .invokestatic 289, 205, 10, [1, 0, 0]), (9, .ifCond .eq 20, 1, 0, []), (12, .iload_n 2, 0, 0, []), (13, .invokestatic 292, 206, 10, [1, 0, 0]), (16, .ifCond .eq 13, 1, 0, []), (19, .iload_n 3, 0, 0, []), (20, .ifCond .lt 9, 1, 0, []), (23, .iload_n 3, 0, 0, []), (24, .bipush 9, 0, 0, []), (26, .if_icmp .le 5, 2, 0, []), (29, .nop, 1, 0, [])], [(29, .iconst (-1), 0, 0, []), (30, .ireturn, 0, 0, [])], [(31, .aload_n 0, 0, 0, []), (32, .iload_n 2, 0, 0, []), (33, .invokevirtual 295, 200, 10, [2, 0, 0]), (36, .aload_n 0, 0, 0, []), (37, .getfield 32, 10, 21, [0]), (40, .iload_n 1, 0, 0, []), (41, .baload, 0, 0, []), (42, .ifCond .ne 6, 3, 0, []), (45, .bipush (-2), 0, 0, []), (47, .ireturn, 0, 0, [])], [(48, .aload_n 0, 0, 0, []), (49, .getfield 60, 10, 30, [0]), (52, .iload_n 1, 0, 0, []), (53, .baload, 0, 0, []), (54, .ifCond .eq 6, 4, 0, []), (57, .bipush (-4), 0, 0, []), (59, .ireturn, 0, 0, [])], [(60, .iload_n 3, 0, 0, []), (61, .tableswitch 131 0 8 #[51, 58, 65, 71, 77, 92, 107, 114, 125], 18, 0, [5, 6, 7, 8, 9, 12, 15, 16, 17])], [(112, .aload_n 0, 0, 0, []), (113, .getfield 36, 10, 22, [0]), (116, .iload_n 1, 0, 0, []), (117, .iaload, 0, 0, []), (118, .ireturn, 0, 0, [])], [(119, .aload_n 0, 0, 0, []), (120, .getfield 39, 10, 23, [0]), (123, .iload_n 1, 0, 0, []), (124, .iaload, 0, 0, []), (125, .ireturn, 0, 0, [])], [(126, .aload_n 0, 0, 0, []), (127, .iload_n 1, 0, 0, []), (128, .invokevirtual 230, 185, 10, [2, 0, 0]), (131, .ireturn, 0, 0, [])], [(132, .aload_n 0, 0, 0, []), (133, .iload_n 1, 0, 0, []), (134, .invokevirtual 298, 201, 10, [2, 0, 0]), (137, .ireturn, 0, 0, [])], [(138, .aload_n 0, 0, 0, []), (139, .getfield 51, 10, 27, [0]), (142, .iload_n 1, 0, 0, []), (143, .baload, 0, 0, []), (144, .ifCond .eq 7, 10, 0, []), (147, .iconst 1, 0, 0, []), (148, .goto 4, 11, 0, [])], [(151, .iconst 0, 0, 0, []), (152, .nop, 11, 0, [])], [(152, .ireturn, 0, 0, [])], [(153, .aload_n 0, 0, 0, []), (154, .getfield 54, 10, 28, [0]), (157, .iload_n 1, 0, 0, []), (158, .baload, 0, 0, []), (159, .ifCond .eq 7, 13, 0, []), (162, .iconst 1, 0, 0, []), (163, .goto 4, 14, 0, [])], [(166, .iconst 0, 0, 0, []), (167, .nop, 14, 0, [])], [(167, .ireturn, 0, 0, [])], [(168, .aload_n 0, 0, 0, []), (169, .getfield 48, 10, 26, [0]), (172, .iload_n 1, 0, 0, []), (173, .iaload, 0, 0, []), (174, .ireturn, 0, 0, [])], [(175, .aload_n 0, 0, 0, []), (176, .getfield 45, 10, 25, [0]), (179, .aload_n 0, 0, 0, []), (180, .iload_n 1, 0, 0, []), (181, .invokevirtual 230, 185, 10, [2, 0, 0]), (184, .iaload, 0, 0, []), (185, .ireturn, 0, 0, [])], [(186, .aload_n 0, 0, 0, []), (187, .iload_n 1, 0, 0, []), (188, .invokevirtual 234, 188, 10, [2, 0, 0]), (191, .ireturn, 0, 0, [])], [(192, .aload_n 0, 0, 0, []), (193, .iload_n 1, 0, 0, []), (194, .invokevirtual 301, 207, 10, [2, 0, 0]), (197, .ireturn, 0, 0, [])]]
def zB_209 : mzB := [[(0, .aload_n 0, 0, 0, []), (1, .iconst 0, 0, 0, []), (2, .putfield 96, 10, 0, [0]), (5, .iload_n 1, 0, 0, []), (6, .invokestatic 289, 205, 10, [1, 0, 0]), (9, .ifCond .eq 14, 1, 0, []), (12, .iload_n 2, 0, 0, []), (13, .invokestatic 292, 206, 10, [1, 0, 0]), (16, .ifCond .eq 7, 1, 0, []), (19, .iload_n 3, 0, 0, []), (20, .ifCond .ge 5, 2, 0, []), (23, .nop, 1, 0, [])], [(23, .iconst (-1), 0, 0, []), (24, .ireturn, 0, 0, [])], [(25, .aload_n 0, 0, 0, []), (26, .iload_n 2, 0, 0, []), (27, .invokevirtual 295, 200, 10, [2, 0, 0]), (30, .iload_n 3, 0, 0, []), (31, .istore 4, 0, 0, []), (33, .iconst 0, 0, 0, []), (34, .istore 5, 0, 0, []), (36, .nop, 3, 0, [])], [(36, .iload 5, 0, 0, []), (38, .bipush 40, 0, 0, []), (40, .if_icmp .ge 33, 7, 0, []), (43, .aload_n 0, 0, 0, []), (44, .iload 5, 0, 0, []), (46, .iload_n 1, 0, 0, []), (47, .invokevirtual 226, 186, 10, [3, 0, 0]), (50, .ifCond .ne 6, 4, 0, []), (53, .goto 14, 6, 0, [])], [(56, .iload 4, 0, 0, []), (58, .ifCond .ne 6, 5, 0, []), (61, .iload 5, 0, 0, []), (63, .ireturn, 0, 0, [])], [(64, .iinc 4 (-1), 0, 0, []), (67, .nop, 6, 0, [])], [(67, .iinc 5 1, 0, 0, []), (70, .goto (-34), 3, 0, [])], [(73, .bipush (-2), 0, 0, []), (75, .ireturn, 0, 0, [])]]
def zB_210 : mzB := [[(0, .iload_n 1, 0, 0, []), (1, .ifCond .lt 17, 1, 0, []), (4, .iload_n 1, 0, 0, []), (5, .aload_n 0, 0, 0, []), (6, .getfield 13, 10, 3, [0]), (9, .iconst 0, 0, 0, []), (10, .iaload, 0, 0, []), (11, .if_icmp .ge 7, 1, 0, []), (14, .iconst 1, 0, 0, []), (15, .goto 4, 2, 0, [])], [(18, .iconst 0, 0, 0, []), (19, .nop, 2, 0, [])], [(19, .ireturn, 1, 0, [])]]
def zB_211 : mzB := [[(0, .aload_n 0, 0, 0, []), (1, .iconst 0, 0, 0, []), (2, .putfield 96, 10, 0, [0]), (5, .aload_n 0, 0, 0, []), (6, .iload_n 1, 0, 0, []), (7, .invokevirtual 211, 210, 10, [2, 0, 0]), (10, .ifCond .ne 15, 1, 0, []), (13, .iload_n 1, 0, 0, []), (14, .bipush (-3), 0, 0, []), (16, .if_icmp .eq 9, 1, 0, []), (19, .iload_n 1, 0, 0, []), (20, .bipush (-4), 0, 0, []), (22, .if_icmp .ne 14, 2, 0, []), (25, .nop, 1, 0, [])], [(25, .iload_n 2, 0, 0, []), (26, .invokestatic 292, 206, 10, [1, 0, 0]), (29, .ifCond .eq 7, 2, 0, []), (32, .iload_n 3, 0, 0, []), (33, .ifCond .ge 5, 3, 0, []), (36, .nop, 2, 0, [])], [(36, .iconst (-1), 0, 0, []), (37, .ireturn, 0, 0, [])], [(38, .aload_n 0, 0, 0, []), (39, .iload_n 2, 0, 0, []), (40, .invokevirtual 295, 200, 10, [2, 0, 0]), (43, .iload_n 3, 0, 0, []), (44, .istore 4, 0, 0, []), (46, .iconst 0, 0, 0, []), (47, .istore 5, 0, 0, []), (49, .nop, 4, 0, [])], [(49, .iload 5, 0, 0, []), (51, .bipush 40, 0, 0, []), (53, .if_icmp .ge 33, 8, 0, []), (56, .aload_n 0, 0, 0, []), (57, .iload 5, 0, 0, []), (59, .invokevirtual 298, 201, 10, [2, 0, 0]), (62, .iload_n 1, 0, 0, []), (63, .if_icmp .eq 6, 5, 0, []), (66, .goto 14, 7, 0, [])], [(69, .iload 4, 0, 0, []), (71, .ifCond .ne 6, 6, 0, []), (74, .iload 5, 0, 0, []), (76, .ireturn, 0, 0, [])], [(77, .iinc 4 (-1), 0, 0, []), (80, .nop, 7, 0, [])], [(80, .iinc 5 1, 0, 0, []), (83, .goto (-34), 4, 0, [])], [(86, .bipush (-2), 0, 0, []), (88, .ireturn, 0, 0, [])]]
def zB_212 : mzB := [[(0, .iload_n 2, 0, 0, []), (1, .tableswitch 107 0 4 #[35, 42, 58, 65, 72], 10, 0, [1, 2, 5, 6, 7])], [(36, .aload_n 0, 0, 0, []), (37, .getfield 32, 10, 21, [0]), (40, .iload_n 1, 0, 0, []), (41, .baload, 0, 0, []), (42, .ireturn, 1, 0, [])], [(43, .aload_n 0, 0, 0, []), (44, .iload_n 1, 0, 0, []), (45, .invokevirtual 298, 201, 10, [2, 0, 0]), (48, .bipush (-3), 0, 0, []), (50, .if_icmp .ne 7, 3, 0, []), (53, .iconst 1, 0, 0, []), (54, .goto 4, 4, 0, [])], [(57, .iconst 0, 0, 0, []), (58, .nop, 4, 0, [])], [(58, .ireturn, 1, 0, [])], [(59, .aload_n 0, 0, 0, []), (60, .getfield 60, 10, 30, [0]), (63, .iload_n 1, 0, 0, []), (64, .baload, 0, 0, []), (65, .ireturn, 1, 0, [])], [(66, .aload_n 0, 0, 0, []), (67, .getfield 54, 10, 28, [0]), (70, .iload_n 1, 0, 0, []), (71, .baload, 0, 0, []), (72, .ireturn, 1, 0, [])], [(73, .aload_n 0, 0, 0, []), (74, .getfield 32, 10, 21, [0]), (77, .iload_n 1, 0, 0, []), (78, .baload, 0, 0, []), (79, .ifCond .eq 27, 8, 0, []), (82, .aload_n 0, 0, 0, []), (83, .getfield 60, 10, 30, [0]), (86, .iload_n 1, 0, 0, []), (87, .baload, 0, 0, []), (88, .ifCond .ne 18, 8, 0, []), (91, .aload_n 0, 0, 0, []), (92, .getfield 39, 10, 23, [0]), (95, .iload_n 1, 0, 0, []), (96, .iaload, 0, 0, []), (97, .bipush (-5), 0, 0, []), (99, .if_icmp .ne 7, 8, 0, []), (102, .iconst 1, 0, 0, []), (103, .goto 4, 9, 0, [])], [(106, .iconst 0, 0, 0, []), (107, .nop, 9, 0, [])], [(107, .ireturn, 1, 0, [])], [(108, .aload_n 0, 0, 0, []), (109, .getfield 51, 10, 27, [0]), (112, .iload_n 1, 0, 0, []), (113, .baload, 0, 0, []), (114, .ireturn, 1, 0, [])]]
def zB_213 : mzB := [[(0, .aload_n 0, 0, 0, []), (1, .iconst 0, 0, 0, []), (2, .putfield 96, 10, 0, [0]), (5, .iload_n 1, 0, 0, []), (6, .invokestatic 292, 206, 10, [1, 0, 0]), (9, .ifCond .eq 12, 1, 0, []), (12, .iload_n 2, 0, 0, []), (13, .ifCond .lt 8, 1, 0, []), (16, .iload_n 2, 0, 0, []), (17, .iconst 5, 0, 0, []), (18, .if_icmp .le 5, 2, 0, []), (21, .nop, 1, 0, [])], [(21, .iconst (-1), 0, 0, []), (22, .ireturn, 0, 0, [])], [(23, .aload_n 0, 0, 0, []), (24, .iload_n 1, 0, 0, []), (25, .invokevirtual 295, 200, 10, [2, 0, 0]), (28, .iconst 0, 0, 0, []), (29, .istore_n 3, 0, 0, []), (30, .iconst 0, 0, 0, []), (31, .istore 4, 0, 0, []), (33, .nop, 3, 0, [])], [(33, .iload 4, 0, 0, []), (35, .bipush 40, 0, 0, []), (37, .if_icmp .ge 27, 6, 0, []), (40, .iload_n 3, 0, 0, []), (41, .aload_n 0, 0, 0, []), (42, .iload 4, 0, 0, []), (44, .iload_n 2, 0, 0, []), (45, .invokevirtual 304, 212, 10, [3, 0, 0]), (48, .ifCond .eq 7, 4, 0, []), (51, .iconst 1, 0, 0, []), (52, .goto 4, 5, 0, [])], [(55, .iconst 0, 0, 0, []), (56, .nop, 5, 0, [])], [(56, .iadd, 0, 0, []), (57, .istore_n 3, 0, 0, []), (58, .iinc 4 1, 0, 0, []), (61, .goto (-28), 3, 0, [])], [(64, .iload_n 3, 0, 0, []), (65, .ireturn, 0, 0, [])]]
def zB_214 : mzB := [[(0, .aload_n 0, 0, 0, []), (1, .invokevirtual 274, 182, 10, [1, 0, 0]), (4, .aload_n 0, 0, 0, []), (5, .invokevirtual 268, 184, 10, [1, 0, 0]), (8, .aload_n 0, 0, 0, []), (9, .iconst 0, 0, 0, []), (10, .putfield 307, 10, 39, [0]), (13, .bipush (-2), 0, 0, []), (15, .istore_n 2, 0, 0, []), (16, .iconst 0, 0, 0, []), (17, .istore_n 3, 0, 0, []), (18, .nop, 1, 0, [])], [(18, .iload_n 3, 0, 0, []), (19, .aload_n 0, 0, 0, []), (20, .getfield 220, 10, 34, [0]), (23, .if_icmp .ge 79, 4, 0, []), (26, .aload_n 0, 0, 0, []), (27, .aload_n 0, 0, 0, []), (28, .getfield 69, 10, 33, [0]), (31, .iload_n 3, 0, 0, []), (32, .iaload, 0, 0, []), (33, .invokevirtual 271, 192, 10, [2, 0, 0]), (36, .aload_n 0, 0, 0, []), (37, .iload_n 1, 0, 0, []), (38, .invokevirtual 298, 201, 10, [2, 0, 0]), (41, .istore 4, 0, 0, []), (43, .iload 4, 0, 0, []), (45, .iload_n 2, 0, 0, []), (46, .if_icmp .ne 6, 2, 0, []), (49, .goto 47, 3, 0, [])], [(52, .aload_n 0, 0, 0, []), (53, .getfield 78, 10, 37, [0]), (56, .aload_n 0, 0, 0, []), (57, .getfield 307, 10, 39, [0]), (60, .iload 4, 0, 0, []), (62, .iastore, 0, 0, []), (63, .aload_n 0, 0, 0, []), (64, .getfield 81, 10, 38, [0]), (67, .aload_n 0, 0, 0, []), (68, .getfield 307, 10, 39, [0]), (71, .aload_n 0, 0, 0, []), (72, .getfield 66, 10, 32, [0]), (75, .aload_n 0, 0, 0, []), (76, .getfield 69, 10, 33, [0]), (79, .iload_n 3, 0, 0, []), (80, .iaload, 0, 0, []), (81, .iaload, 0, 0, []), (82, .iastore, 0, 0, []), (83, .aload_n 0, 0, 0, []), (84, .dup, 0, 0, []), (85, .getfield 307, 10, 39, [0]), (88, .iconst 1, 0, 0, []), (89, .iadd, 0, 0, []), (90, .putfield 307, 10, 39, [0]), (93, .iload 4, 0, 0, []), (95, .istore_n 2, 0, 0, []), (96, .nop, 3, 0, [])], [(96, .iinc 3 1, 0, 0, []), (99, .goto (-81), 1, 0, [])], [(102, .return_, 0, 0, [])]]
def zB_215 : mzB := [[(0, .aload_n 0, 0, 0, []), (1, .iconst 0, 0, 0, []), (2, .putfield 96, 10, 0, [0]), (5, .iload_n 1, 0, 0, []), (6, .invokestatic 289, 205, 10, [1, 0, 0]), (9, .ifCond .eq 16, 1, 0, []), (12, .iload_n 2, 0, 0, []), (13, .ifCond .lt 12, 1, 0, []), (16, .iload_n 3, 0, 0, []), (17, .ifCond .lt 8, 1, 0, []), (20, .iload_n 3, 0, 0, []), (21, .iconst 1, 0, 0, []), (22, .if_icmp .le 6, 2, 0, []), (25, .nop, 1, 0, [])], [(25, .bipush (-10), 0, 0, []), (27, .ireturn, 0, 0, [])], [(28, .aload_n 0, 0, 0, []), (29, .iload_n 1, 0, 0, []), (30, .invokevirtual 310, 214, 10, [2, 0, 0]), (33, .iload_n 2, 0, 0, []), (34, .aload_n 0, 0, 0, []), (35, .getfield 307, 10, 39, [0]), (38, .if_icmp .ge 25, 4, 0, []), (41, .iload_n 3, 0, 0, []), (42, .ifCond .ne 12, 3, 0, []), (45, .aload_n 0, 0, 0, []), (46, .getfield 78, 10, 37, [0]), (49, .iload_n 2, 0, 0, []), (50, .iaload, 0, 0, []), (51, .goto 14, 5, 0, [])], [(54, .aload_n 0, 0, 0, []), (55, .getfield 81, 10, 38, [0]), (58, .iload_n 2, 0, 0, []), (59, .iaload, 0, 0, []), (60, .goto 5, 5, 0, [])], [(63, .bipush (-2), 0, 0, []), (65, .nop, 5, 0, [])], [(65, .ireturn, 0, 0, [])]]
def zB_216 : mzB := [[(0, .iconst 0, 0, 0, []), (1, .istore_n 1, 0, 0, []), (2, .iconst 0, 0, 0, []), (3, .istore_n 2, 0, 0, []), (4, .nop, 1, 0, [])], [(4, .iload_n 2, 0, 0, []), (5, .aload_n 0, 0, 0, []), (6, .invokevirtual 214, 180, 10, [1, 0, 0]), (9, .if_icmp .ge 30, 4, 0, []), (12, .aload_n 0, 0, 0, []), (13, .iload_n 2, 0, 0, []), (14, .iconst 0, 0, 0, []), (15, .invokevirtual 217, 181, 10, [3, 0, 0]), (18, .iload_n 1, 0, 0, []), (19, .if_icmp .le 12, 2, 0, []), (22, .aload_n 0, 0, 0, []), (23, .iload_n 2, 0, 0, []), (24, .iconst 0, 0, 0, []), (25, .invokevirtual 217, 181, 10, [3, 0, 0]), (28, .goto 4, 3, 0, [])], [(31, .iload_n 1, 0, 0, []), (32, .nop, 3, 0, [])], [(32, .istore_n 1, 0, 0, []), (33, .iinc 2 1, 0, 0, []), (36, .goto (-32), 1, 0, [])], [(39, .iload_n 1, 0, 0, []), (40, .ireturn, 0, 0, [])]]
def zB_217 : mzB := [[(0, .aload_n 0, 0, 0, []), (1, .iconst 0, 0, 0, []), (2, .putfield 96, 10, 0, [0]), (5, .iload_n 1, 0, 0, []), (6, .invokestatic 289, 205, 10, [1, 0, 0]), (9, .ifCond .eq 17, 1, 0, []), (12, .aload_n 0, 0, 0, []), (13, .iload_n 2, 0, 0, []), (14, .invokevirtual 211, 210, 10, [2, 0, 0]), (17, .ifCond .ne 11, 2, 0, []), (20, .iload_n 2, 0, 0, []), (21, .bipush (-3), 0, 0, []), (23, .if_icmp .eq 5, 2, 0, []), (26, .nop, 1, 0, [])], [(26, .iconst (-1), 0, 0, []), (27, .ireturn, 0, 0, [])], [(28, .aload_n 0, 0, 0, []), (29, .iload_n 1, 0, 0, []), (30, .invokevirtual 310, 214, 10, [2, 0, 0]), (33, .iconst 0, 0, 0, []), (34, .istore_n 3, 0, 0, []), (35, .iconst 0, 0, 0, []), (36, .istore 4, 0, 0, []), (38, .nop, 3, 0, [])], [(38, .iload 4, 0, 0, []), (40, .aload_n 0, 0, 0, []), (41, .getfield 307, 10, 39, [0]), (44, .if_icmp .ge 58, 7, 0, []), (47, .aload_n 0, 0, 0, []), (48, .getfield 78, 10, 37, [0]), (51, .iload 4, 0, 0, []), (53, .iaload, 0, 0, []), (54, .iload_n 2, 0, 0, []), (55, .if_icmp .ne 41, 6, 0, []), (58, .iload_n 3, 0, 0, []), (59, .iload 4, 0, 0, []), (61, .iconst 1, 0, 0, []), (62, .iadd, 0, 0, []), (63, .aload_n 0, 0, 0, []), (64, .getfield 307, 10, 39, [0]), (67, .if_icmp .ge 15, 4, 0, []), (70, .aload_n 0, 0, 0, []), (71, .getfield 81, 10, 38, [0]), (74, .iload 4, 0, 0, []), (76, .iconst 1, 0, 0, []), (77, .iadd, 0, 0, []), (78, .iaload, 0, 0, []), (79, .goto 7, 5, 0, [])], [(82, .aload_n 0, 0, 0, []), (83, .invokevirtual 313, 216, 10, [1, 0, 0]), (86, .nop, 5, 0, [])], [(86, .aload_n 0, 0, 0, []), (87, .getfield 81, 10, 38, [0]), (90, .iload 4, 0, 0, []), (92, .iaload, 0, 0, []), (93, .isub, 0, 0, []), (94, .iadd, 0, 0, []), (95, .istore_n 3, 0, 0, []), (96, .nop, 6, 0, [])], [(96, .iinc 4 1, 0, 0, []), (99, .goto (-61), 3, 0, [])], [(102, .iload_n 3, 0, 0, []), (103, .ireturn, 0, 0, [])]]
def zB_218 : mzB := [[(0, .aload_n 0, 0, 0, []), (1, .iconst 0, 0, 0, []), (2, .putfield 96, 10, 0, [0]), (5, .aload_n 0, 0, 0, []), (6, .iload_n 1, 0, 0, []), (7, .invokevirtual 211, 210, 10, [2, 0, 0]), (10, .ifCond .ne 9, 1, 0, []), (13, .iload_n 1, 0, 0, []), (14, .bipush (-3), 0, 0, []), (16, .if_icmp .ne 32, 3, 0, []), (19, .nop, 1, 0, [])], [(19, .aload_n 0, 0, 0, []), (20, .iload_n 2, 0, 0, []), (21, .invokevirtual 211, 210, 10, [2, 0, 0]), (24, .ifCond .ne 15, 2, 0, []), (27, .iload_n 2, 0, 0, []), (28, .bipush (-3), 0, 0, []), (30, .if_icmp .eq 9, 2, 0, []), (33, .iload_n 2, 0, 0, []), (34, .bipush (-4), 0, 0, []), (36, .if_icmp .ne 12, 3, 0, []), (39, .nop, 2, 0, [])], [(39, .iload_n 1, 0, 0, []), (40, .iload_n 2, 0, 0, []), (41, .if_icmp .eq 7, 3, 0, []), (44, .iconst 1, 0, 0, []), (45, .goto 4, 4, 0, [])], [(48, .iconst 0, 0, 0, []), (49, .nop, 4, 0, [])], [(49, .istore_n 3, 0, 0, []), (50, .iload_n 3, 0, 0, []), (51, .ifCond .ne 5, 5, 0, []), (54, .iconst (-1), 0, 0, []), (55, .ireturn, 0, 0, [])], [(56, .iconst 0, 0, 0, []), (57, .istore 4, 0, 0, []), (59, .iconst 0, 0, 0, []), (60, .istore 5, 0, 0, []), (62, .nop, 6, 0, [])], [(62, .iload 5, 0, 0, []), (64, .bipush 40, 0, 0, []), (66, .if_icmp .ge 69, 11, 0, []), (69, .aload_n 0, 0, 0, []), (70, .iload 5, 0, 0, []), (72, .invokevirtual 310, 214, 10, [2, 0, 0]), (75, .iconst 0, 0, 0, []), (76, .istore 6, 0, 0, []), (78, .nop, 7, 0, [])], [(78, .iload 6, 0, 0, []), (80, .iconst 1, 0, 0, []), (81, .iadd, 0, 0, []), (82, .aload_n 0, 0, 0, []), (83, .getfield 307, 10, 39, [0]), (86, .if_icmp .ge 43, 10, 0, []), (89, .iload 4, 0, 0, []), (91, .aload_n 0, 0, 0, []), (92, .getfield 78, 10, 37, [0]), (95, .iload 6, 0, 0, []), (97, .iaload, 0, 0, []), (98, .iload_n 1, 0, 0, []), (99, .if_icmp .ne 20, 8, 0, []), (102, .aload_n 0, 0, 0, []), (103, .getfield 78, 10, 37, [0]), (106, .iload 6, 0, 0, []), (108, .iconst 1, 0, 0, []), (109, .iadd, 0, 0, []), (110, .iaload, 0, 0, []), (111, .iload_n 2, 0, 0, []), (112, .if_icmp .ne 7, 8, 0, []), (115, .iconst 1, 0, 0, []), (116, .goto 4, 9, 0, [])], [(119, .iconst 0, 0, 0, []), (120, .nop, 9, 0, [])], [(120, .iadd, 0, 0, []), (121, .istore 4, 0, 0, []), (123, .iinc 6 1, 0, 0, []), (126, .goto (-48), 7, 0, [])], [(129, .iinc 5 1, 0, 0, []), (132, .goto (-70), 6, 0, [])], [(135, .iload 4, 0, 0, []), (137, .ireturn, 0, 0, [])]]
def zB_219 : mzB := [[(0, .aload_n 0, 0, 0, []), (1, .invokevirtual 274, 182, 10, [1, 0, 0]), (4, .iload_n 1, 0, 0, []), (5, .istore_n 2, 0, 0, []), (6, .nop, 1, 0, [])], [(6, .iload_n 2, 0, 0, []), (7, .aload_n 0, 0, 0, []), (8, .invokevirtual 214, 180, 10, [1, 0, 0]), (11, .if_icmp .ge 16, 2, 0, []), (14, .aload_n 0, 0, 0, []), (15, .getfield 63, 10, 31, [0]), (18, .iload_n 2, 0, 0, []), (19, .iconst 0, 0, 0, []), (20, .bastore, 0, 0, []), (21, .iinc 2 1, 0, 0, []), (24, .goto (-18), 1, 0, [])], [(27, .aload_n 0, 0, 0, []), (28, .sipush 999, 0, 0, []), (31, .invokevirtual 277, 198, 10, [2, 0, 0]), (34, .return_, 0, 0, [])]]
def zB_220 : mzB := [[(0, .aload_n 0, 0, 0, []), (1, .iconst 0, 0, 0, []), (2, .putfield 96, 10, 0, [0]), (5, .iload_n 1, 0, 0, []), (6, .ifCond .lt 18, 1, 0, []), (9, .iload_n 1, 0, 0, []), (10, .aload_n 0, 0, 0, []), (11, .invokevirtual 214, 180, 10, [1, 0, 0]), (14, .if_icmp .gt 10, 1, 0, []), (17, .iload_n 2, 0, 0, []), (18, .invokestatic 289, 205, 10, [1, 0, 0]), (21, .ifCond .ne 5, 2, 0, []), (24, .nop, 1, 0, [])], [(24, .iconst (-1), 0, 0, []), (25, .ireturn, 0, 0, [])], [(26, .aload_n 0, 0, 0, []), (27, .iload_n 1, 0, 0, []), (28, .invokevirtual 316, 219, 10, [2, 0, 0]), (31, .aload_n 0, 0, 0, []), (32, .iload_n 2, 0, 0, []), (33, .invokevirtual 298, 201, 10, [2, 0, 0]), (36, .ireturn, 0, 0, [])]]
def zB_221 : mzB := [[(0, .aload_n 0, 0, 0, []), (1, .iconst 0, 0, 0, []), (2, .putfield 96, 10, 0, [0]), (5, .iload_n 1, 0, 0, []), (6, .ifCond .lt 11, 1, 0, []), (9, .iload_n 1, 0, 0, []), (10, .aload_n 0, 0, 0, []), (11, .invokevirtual 214, 180, 10, [1, 0, 0]), (14, .if_icmp .lt 5, 2, 0, []), (17, .nop, 1, 0, [])], [(17, .iconst (-1), 0, 0, []), (18, .ireturn, 0, 0, [])], [(19, .aload_n 0, 0, 0, []), (20, .iload_n 1, 0, 0, []), (21, .invokevirtual 316, 219, 10, [2, 0, 0]), (24, .iconst 0, 0, 0, []), (25, .istore_n 2, 0, 0, []), (26, .nop, 3, 0, [])], [(26, .iload_n 2, 0, 0, []), (27, .bipush 40, 0, 0, []), (29, .if_icmp .ge 20, 4, 0, []), (32, .aload_n 0, 0, 0, []), (33, .getfield 84, 10, 40, [0]), (36, .iload_n 2, 0, 0, []), (37, .aload_n 0, 0, 0, []), (38, .iload_n 2, 0, 0, []), (39, .invokevirtual 298, 201, 10, [2, 0, 0]), (42, .iastore, 0, 0, []), (43, .iinc 2 1, 0, 0, []), (46, .goto (-20), 3, 0, [])], [(49, .aload_n 0, 0, 0, []), (50, .iload_n 1, 0, 0, []), (51, .iconst 1, 0, 0, []), (52, .iadd, 0, 0, []), (53, .invokevirtual 316, 219, 10, [2, 0, 0]), (56, .iconst 0, 0, 0, []), (57, .istore_n 2, 0, 0, []), (58, .iconst 0, 0, 0, []), (59, .istore_n 3, 0, 0, []), (60, .nop, 5, 0, [])], [(60, .iload_n 3, 0, 0, []), (61, .bipush 40, 0, 0, []), (63, .if_icmp .ge 31, 8, 0, []), (66, .iload_n 2, 0, 0, []), (67, .aload_n 0, 0, 0, []), (68, .iload_n 3, 0, 0, []), (69, .invokevirtual 298, 201, 10, [2, 0, 0]), (72, .aload_n 0, 0, 0, []), (73, .getfield 84, 10, 40, [0]), (76, .iload_n 3, 0, 0, []), (77, .iaload, 0, 0, []), (78, .if_icmp .ne 7, 6, 0, []), (81, .iconst 0, 0, 0, []), (82, .goto 4, 7, 0, [])], [(85, .iconst 1, 0, 0, []), (86, .nop, 7, 0, [])], [(86, .iadd, 0, 0, []), (87, .istore_n 2, 0, 0, []), (88, .iinc 3 1, 0, 0, []), (91, .goto (-31), 5, 0, [])], [(94, .iload_n 2, 0, 0, []), (95, .ireturn, 0, 0, [])]]
def zB_222 : mzB := [[(0, .aload_n 0, 0, 0, []), (1, .invokevirtual 274, 182, 10, [1, 0, 0]), (4, .iload_n 1, 0, 0, []), (5, .iconst (-1), 0, 0, []), (6, .if_icmp .eq 10, 1, 0, []), (9, .aload_n 0, 0, 0, []), (10, .getfield 63, 10, 31, [0]), (13, .iload_n 1, 0, 0, []), (14, .iconst 0, 0, 0, []), (15, .bastore, 0, 0, []), (16, .nop, 1, 0, [])], [(16, .iload_n 2, 0, 0, []), (17, .iconst (-1), 0, 0, []), (18, .if_icmp .eq 10, 2, 0, []), (21, .aload_n 0, 0, 0, []), (22, .getfield 63, 10, 31, [0]), (25, .iload_n 2, 0, 0, []), (26, .iconst 0, 0, 0, []), (27, .bastore, 0, 0, []), (28, .nop, 2, 0, [])], [(28, .aload_n 0, 0, 0, []), (29, .sipush 999, 0, 0, []), (32, .invokevirtual 277, 198, 10, [2, 0, 0]), (35, .return_, 0, 0, [])]]
def zB_223 : mzB := [[(0, .aload_n 0, 0, 0, []), (1, .iconst 0, 0, 0, []), (2, .putfield 96, 10, 0, [0]), (5, .iload_n 1, 0, 0, []), (6, .ifCond .lt 18, 1, 0, []), (9, .iload_n 1, 0, 0, []), (10, .aload_n 0, 0, 0, []), (11, .invokevirtual 214, 180, 10, [1, 0, 0]), (14, .if_icmp .ge 10, 1, 0, []), (17, .iload_n 2, 0, 0, []), (18, .invokestatic 289, 205, 10, [1, 0, 0]), (21, .ifCond .ne 5, 2, 0, []), (24, .nop, 1, 0, [])], [(24, .iconst (-1), 0, 0, []), (25, .ireturn, 0, 0, [])], [(26, .aload_n 0, 0, 0, []), (27, .iload_n 1, 0, 0, []), (28, .iconst (-1), 0, 0, []), (29, .invokevirtual 319, 222, 10, [3, 0, 0]), (32, .aload_n 0, 0, 0, []), (33, .iload_n 2, 0, 0, []), (34, .invokevirtual 298, 201, 10, [2, 0, 0]), (37, .ireturn, 0, 0, [])]]
def zB_224 : mzB := [[(0, .iconst 0, 0, 0, []), (1, .istore_n 1, 0, 0, []), (2, .iconst 0, 0, 0, []), (3, .istore_n 2, 0, 0, []), (4, .nop, 1, 0, [])], [(4, .iload_n 2, 0, 0, []), (5, .aload_n 0, 0, 0, []), (6, .getfield 220, 10, 34, [0]), (9, .if_icmp .ge 31, 4, 0, []), (12, .iload_n 1, 0, 0, []), (13, .aload_n 0, 0, 0, []), (14, .getfield 72, 10, 35, [0]), (17, .aload_n 0, 0, 0, []), (18, .getfield 69, 10, 33, [0]), (21, .iload_n 2, 0, 0, []), (22, .iaload, 0, 0, []), (23, .iaload, 0, 0, []), (24, .ifCond .ne 7, 2, 0, []), (27, .iconst 0, 0, 0, []), (28, .goto 4, 3, 0, [])], [(31, .iconst 1, 0, 0, []), (32, .nop, 3, 0, [])], [(32, .iadd, 0, 0, []), (33, .istore_n 1, 0, 0, []), (34, .iinc 2 1, 0, 0, []), (37, .goto (-33), 1, 0, [])], [(40, .iload_n 1, 0, 0, []), (41, .ireturn, 0, 0, [])]]
def zB_225 : mzB := [[(0, .aload_n 0, 0, 0, []), (1, .iconst 0, 0, 0, []), (2, .putfield 96, 10, 0, [0]), (5, .iload_n 1, 0, 0, []), (6, .iconst (-1), 0, 0, []), (7, .if_icmp .lt 9, 1, 0, []), (10, .iload_n 1, 0, 0, []), (11, .bipush 12, 0, 0, []), (13, .if_icmp .le 6, 2, 0, []), (16, .nop, 1, 0, [])], [(16, .bipush (-2), 0, 0, []), (18, .ireturn, 0, 0, [])], [(19, .aload_n 0, 0, 0, []), (20, .invokevirtual 280, 199, 10, [1, 0, 0]), (23, .iload_n 1, 0, 0, []), (24, .iconst (-1), 0, 0, []), (25, .if_icmp .ne 8, 3, 0, []), (28, .aload_n 0, 0, 0, []), (29, .invokevirtual 323, 224, 10, [1, 0, 0]), (32, .ireturn, 0, 0, [])], [(33, .iconst 0, 0, 0, []), (34, .istore_n 2, 0, 0, []), (35, .iconst 0, 0, 0, []), (36, .istore_n 3, 0, 0, []), (37, .nop, 4, 0, [])], [(37, .iload_n 3, 0, 0, []), (38, .aload_n 0, 0, 0, []), (39, .invokevirtual 214, 180, 10, [1, 0, 0]), (42, .if_icmp .ge 27, 7, 0, []), (45, .iload_n 2, 0, 0, []), (46, .aload_n 0, 0, 0, []), (47, .getfield 72, 10, 35, [0]), (50, .iload_n 3, 0, 0, []), (51, .iaload, 0, 0, []), (52, .iload_n 1, 0, 0, []), (53, .if_icmp .ne 7, 5, 0, []), (56, .iconst 1, 0, 0, []), (57, .goto 4, 6, 0, [])], [(60, .iconst 0, 0, 0, []), (61, .nop, 6, 0, [])], [(61, .iadd, 0, 0, []), (62, .istore_n 2, 0, 0, []), (63, .iinc 3 1, 0, 0, []), (66, .goto (-29), 4, 0, [])], [(69, .iload_n 2, 0, 0, []), (70, .ireturn, 0, 0, [])]]
def zB_226 : mzB := [[(0, .aload_n 0, 0, 0, []), (1, .iconst (-1), 0, 0, []), (2, .putfield 326, 10, 41, [0]), (5, .iconst 0, 0, 0, []), (6, .istore_n 2, 0, 0, []), (7, .nop, 1, 0, [])], [(7, .iload_n 2, 0, 0, []), (8, .aload_n 0, 0, 0, []), (9, .invokevirtual 214, 180, 10, [1, 0, 0]), (12, .if_icmp .ge 93, 10, 0, []), (15, .iload_n 2, 0, 0, []), (16, .iconst 1, 0, 0, []), (17, .iadd, 0, 0, []), (18, .istore_n 3, 0, 0, []), (19, .nop, 2, 0, [])], [(19, .iload_n 3, 0, 0, []), (20, .iload_n 1, 0, 0, []), (21, .ifCond .eq 10, 3, 0, []), (24, .aload_n 0, 0, 0, []), (25, .invokevirtual 214, 180, 10, [1, 0, 0]), (28, .goto 6, 4, 0, [])], [(31, .iload_n 2, 0, 0, []), (32, .iconst 2, 0, 0, []), (33, .iadd, 0, 0, []), (34, .nop, 4, 0, [])], [(34, .if_icmp .ge 65, 9, 0, []), (37, .aload_n 0, 0, 0, []), (38, .iload_n 2, 0, 0, []), (39, .iload_n 1, 0, 0, []), (40, .ifCond .eq 7, 5, 0, []), (43, .iload_n 3, 0, 0, []), (44, .goto 4, 6, 0, [])], [(47, .iconst (-1), 0, 0, []), (48, .nop, 6, 0, [])], [(48, .invokevirtual 319, 222, 10, [3, 0, 0]), (51, .aload_n 0, 0, 0, []), (52, .invokevirtual 323, 224, 10, [1, 0, 0]), (55, .istore 4, 0, 0, []), (57, .aload_n 0, 0, 0, []), (58, .getfield 326, 10, 41, [0]), (61, .iconst (-1), 0, 0, []), (62, .if_icmp .eq 15, 7, 0, []), (65, .iload 4, 0, 0, []), (67, .aload_n 0, 0, 0, []), (68, .getfield 329, 10, 43, [0]), (71, .if_icmp .lt 6, 7, 0, []), (74, .goto 19, 8, 0, [])], [(77, .aload_n 0, 0, 0, []), (78, .iload_n 2, 0, 0, []), (79, .putfield 326, 10, 41, [0]), (82, .aload_n 0, 0, 0, []), (83, .iload_n 3, 0, 0, []), (84, .putfield 332, 10, 42, [0]), (87, .aload_n 0, 0, 0, []), (88, .iload 4, 0, 0, []), (90, .putfield 329, 10, 43, [0]), (93, .nop, 8, 0, [])], [(93, .iinc 3 1, 0, 0, []), (96, .goto (-77), 2, 0, [])], [(99, .iinc 2 1, 0, 0, []), (102, .goto (-95), 1, 0, [])], [(105, .return_, 0, 0, [])]]
def zB_227 : mzB := [[(0, .aload_n 0, 0, 0, []), (1, .iconst 0, 0, 0, []), (2, .putfield 96, 10, 0, [0]), (5, .iload_n 1, 0, 0, []), (6, .ifCond .lt 8, 1, 0, []), (9, .iload_n 1, 0, 0, []), (10, .iconst 1, 0, 0, []), (11, .if_icmp .le 5, 2, 0, []), (14, .nop, 1, 0, [])], [(14, .iconst (-1), 0, 0, []), (15, .ireturn, 0, 0, [])], [(16, .aload_n 0, 0, 0, []), (17, .iconst 0, 0, 0, []), (18, .invokevirtual 335, 226, 10, [2, 0, 0]), (21, .aload_n 0, 0, 0, []), (22, .getfield 326, 10, 41, [0]), (25, .iconst (-1), 0, 0, []), (26, .if_icmp .ne 8, 3, 0, []), (29, .bipush (-2), 0, 0, []), (31, .goto 18, 5, 0, [])], [(34, .iload_n 1, 0, 0, []), (35, .ifCond .ne 10, 4, 0, []), (38, .aload_n 0, 0, 0, []), (39, .getfield 326, 10, 41, [0]), (42, .goto 7, 5, 0, [])], [(45, .aload_n 0, 0, 0, []), (46, .getfield 329, 10, 43, [0]), (49, .nop, 5, 0, [])], [(49, .ireturn, 0, 0, [])]]
def zB_228 : mzB := [[(0, .aload_n 0, 0, 0, []), (1, .iconst 0, 0, 0, []), (2, .putfield 96, 10, 0, [0]), (5, .iload_n 1, 0, 0, []), (6, .ifCond .lt 8, 1, 0, []), (9, .iload_n 1, 0, 0, []), (10, .iconst 2, 0, 0, []), (11, .if_icmp .le 5, 2, 0, []), (14, .nop, 1, 0, [])], [(14, .iconst (-1), 0, 0, []), (15, .ireturn, 0, 0, [])], [(16, .aload_n 0, 0, 0, []), (17, .iconst 1, 0, 0, []), (18, .invokevirtual 335, 226, 10, [2, 0, 0]), (21, .aload_n 0, 0, 0, []), (22, .getfield 326, 10, 41, [0]), (25, .iconst (-1), 0, 0, []), (26, .if_icmp .ne 8, 3, 0, []), (29, .bipush (-2), 0, 0, []), (31, .goto 30, 6, 0, [])], [(34, .iload_n 1, 0, 0, []), (35, .ifCond .ne 10, 4, 0, []), (38, .aload_n 0, 0, 0, []), (39, .getfield 326, 10, 41, [0]), (42, .goto 19, 6, 0, [])], [(45, .iload_n 1, 0, 0, []), (46, .iconst 1, 0, 0, []), (47, .if_icmp .ne 10, 5, 0, []), (50, .aload_n 0, 0, 0, []), (51, .getfield 332, 10, 42, [0]), (54, .goto 7, 6, 0, [])], [(57, .aload_n 0, 0, 0, []), (58, .getfield 329, 10, 43, [0]), (61, .nop, 6, 0, [])], [(61, .ireturn, 0, 0, [])]]
def zB_229 : mzB := [[(0, .aload_n 0, 0, 0, []), (1, .invokevirtual 280, 199, 10, [1, 0, 0]), (4, .aload_n 0, 0, 0, []), (5, .getfield 72, 10, 35, [0]), (8, .iload_n 1, 0, 0, []), (9, .iaload, 0, 0, []), (10, .ifCond .eq 7, 1, 0, []), (13, .iconst 1, 0, 0, []), (14, .goto 4, 2, 0, [])], [(17, .iconst 0, 0, 0, []), (18, .nop, 2, 0, [])], [(18, .ireturn, 1, 0, [])]]
def zB_230 : mzB := [[(0, .aload_n 0, 0, 0, []), (1, .iconst 0, 0, 0, []), (2, .putfield 96, 10, 0, [0]), (5, .iload_n 1, 0, 0, []), (6, .ifCond .lt 11, 1, 0, []), (9, .iload_n 1, 0, 0, []), (10, .aload_n 0, 0, 0, []), (11, .invokevirtual 214, 180, 10, [1, 0, 0]), (14, .if_icmp .lt 5, 2, 0, []), (17, .nop, 1, 0, [])], [(17, .iconst (-1), 0, 0, []), (18, .ireturn, 0, 0, [])], [(19, .aload_n 0, 0, 0, []), (20, .iload_n 1, 0, 0, []), (21, .invokevirtual 338, 229, 10, [2, 0, 0]), (24, .ifCond .ne 6, 3, 0, []), (27, .bipush (-3), 0, 0, []), (29, .ireturn, 0, 0, [])], [(30, .iconst 0, 0, 0, []), (31, .istore_n 2, 0, 0, []), (32, .nop, 4, 0, [])], [(32, .iload_n 2, 0, 0, []), (33, .aload_n 0, 0, 0, []), (34, .invokevirtual 214, 180, 10, [1, 0, 0]), (37, .if_icmp .ge 34, 7, 0, []), (40, .iload_n 2, 0, 0, []), (41, .iload_n 1, 0, 0, []), (42, .if_icmp .ne 6, 5, 0, []), (45, .goto 20, 6, 0, [])], [(48, .aload_n 0, 0, 0, []), (49, .iload_n 2, 0, 0, []), (50, .iconst (-1), 0, 0, []), (51, .invokevirtual 319, 222, 10, [3, 0, 0]), (54, .aload_n 0, 0, 0, []), (55, .getfield 72, 10, 35, [0]), (58, .iload_n 1, 0, 0, []), (59, .iaload, 0, 0, []), (60, .ifCond .ne 5, 6, 0, []), (63, .iload_n 2, 0, 0, []), (64, .ireturn, 0, 0, [])], [(65, .iinc 2 1, 0, 0, []), (68, .goto (-36), 4, 0, [])], [(71, .bipush (-2), 0, 0, []), (73, .ireturn, 0, 0, [])]]
def zB_231 : mzB := [[(0, .aload_n 0, 0, 0, []), (1, .iconst 0, 0, 0, []), (2, .putfield 96, 10, 0, [0]), (5, .iload_n 1, 0, 0, []), (6, .ifCond .lt 15, 1, 0, []), (9, .iload_n 1, 0, 0, []), (10, .aload_n 0, 0, 0, []), (11, .invokevirtual 214, 180, 10, [1, 0, 0]), (14, .if_icmp .ge 7, 1, 0, []), (17, .iload_n 2, 0, 0, []), (18, .ifCond .ge 5, 2, 0, []), (21, .nop, 1, 0, [])], [(21, .iconst (-1), 0, 0, []), (22, .ireturn, 0, 0, [])], [(23, .aload_n 0, 0, 0, []), (24, .iload_n 1, 0, 0, []), (25, .invokevirtual 338, 229, 10, [2, 0, 0]), (28, .ifCond .eq 6, 3, 0, []), (31, .bipush (-3), 0, 0, []), (33, .ireturn, 0, 0, [])], [(34, .iload_n 2, 0, 0, []), (35, .istore_n 3, 0, 0, []), (36, .iconst 0, 0, 0, []), (37, .istore 4, 0, 0, []), (39, .nop, 4, 0, [])], [(39, .iload 4, 0, 0, []), (41, .aload_n 0, 0, 0, []), (42, .invokevirtual 214, 180, 10, [1, 0, 0]), (45, .if_icmp .ge 47, 9, 0, []), (48, .iload 4, 0, 0, []), (50, .iload_n 1, 0, 0, []), (51, .if_icmp .ne 6, 5, 0, []), (54, .goto 32, 8, 0, [])], [(57, .aload_n 0, 0, 0, []), (58, .iload 4, 0, 0, []), (60, .iconst (-1), 0, 0, []), (61, .invokevirtual 319, 222, 10, [3, 0, 0]), (64, .aload_n 0, 0, 0, []), (65, .getfield 72, 10, 35, [0]), (68, .iload_n 1, 0, 0, []), (69, .iaload, 0, 0, []), (70, .ifCond .ne 6, 6, 0, []), (73, .goto 13, 8, 0, [])], [(76, .iload_n 3, 0, 0, []), (77, .ifCond .ne 6, 7, 0, []), (80, .iload 4, 0, 0, []), (82, .ireturn, 0, 0, [])], [(83, .iinc 3 (-1), 0, 0, []), (86, .nop, 8, 0, [])], [(86, .iinc 4 1, 0, 0, []), (89, .goto (-50), 4, 0, [])], [(92, .bipush (-2), 0, 0, []), (94, .ireturn, 0, 0, [])]]
def zB_232 : mzB := [[(0, .aload_n 0, 0, 0, []), (1, .invokevirtual 274, 182, 10, [1, 0, 0]), (4, .aload_n 0, 0, 0, []), (5, .getfield 66, 10, 32, [0]), (8, .iload_n 1, 0, 0, []), (9, .iload_n 2, 0, 0, []), (10, .iastore, 0, 0, []), (11, .aload_n 0, 0, 0, []), (12, .sipush 999, 0, 0, []), (15, .invokevirtual 277, 198, 10, [2, 0, 0]), (18, .return_, 0, 0, [])]]
def zB_233 : mzB := [[(0, .aload_n 0, 0, 0, []), (1, .iconst 0, 0, 0, []), (2, .putfield 96, 10, 0, [0]), (5, .iload_n 1, 0, 0, []), (6, .ifCond .lt 30, 1, 0, []), (9, .iload_n 1, 0, 0, []), (10, .aload_n 0, 0, 0, []), (11, .invokevirtual 214, 180, 10, [1, 0, 0]), (14, .if_icmp .ge 22, 1, 0, []), (17, .iload_n 2, 0, 0, []), (18, .invokestatic 292, 206, 10, [1, 0, 0]), (21, .ifCond .eq 15, 1, 0, []), (24, .iload_n 3, 0, 0, []), (25, .iconst (-1), 0, 0, []), (26, .if_icmp .eq 14, 2, 0, []), (29, .iload_n 3, 0, 0, []), (30, .invokestatic 289, 205, 10, [1, 0, 0]), (33, .ifCond .ne 7, 2, 0, []), (36, .nop, 1, 0, [])], [(36, .sipush (-1000), 0, 0, []), (39, .ireturn, 0, 0, [])], [(40, .aload_n 0, 0, 0, []), (41, .iload_n 1, 0, 0, []), (42, .iload_n 2, 0, 0, []), (43, .invokevirtual 341, 232, 10, [3, 0, 0]), (46, .iload_n 3, 0, 0, []), (47, .iconst (-1), 0, 0, []), (48, .if_icmp .ne 10, 3, 0, []), (51, .aload_n 0, 0, 0, []), (52, .invokevirtual 323, 224, 10, [1, 0, 0]), (55, .goto 8, 4, 0, [])], [(58, .aload_n 0, 0, 0, []), (59, .iload_n 3, 0, 0, []), (60, .invokevirtual 298, 201, 10, [2, 0, 0]), (63, .nop, 4, 0, [])], [(63, .ireturn, 0, 0, [])]]
def zB_234 : mzB := [[(0, .aload_n 0, 0, 0, []), (1, .iconst 0, 0, 0, []), (2, .putfield 96, 10, 0, [0]), (5, .iload_n 1, 0, 0, []), (6, .ifCond .lt 20, 1, 0, []), (9, .iload_n 1, 0, 0, []), (10, .aload_n 0, 0, 0, []), (11, .invokevirtual 214, 180, 10, [1, 0, 0]), (14, .if_icmp .ge 12, 1, 0, []), (17, .iload_n 2, 0, 0, []), (18, .ifCond .lt 8, 1, 0, []), (21, .iload_n 2, 0, 0, []), (22, .iconst 2, 0, 0, []), (23, .if_icmp .le 5, 2, 0, []), (26, .nop, 1, 0, [])], [(26, .iconst (-1), 0, 0, []), (27, .ireturn, 0, 0, [])], [(28, .bipush (-2), 0, 0, []), (30, .istore_n 3, 0, 0, []), (31, .bipush (-2), 0, 0, []), (33, .istore 4, 0, 0, []), (35, .iconst 0, 0, 0, []), (36, .istore 5, 0, 0, []), (38, .iconst 0, 0, 0, []), (39, .istore 6, 0, 0, []), (41, .nop, 3, 0, [])], [(41, .iload 6, 0, 0, []), (43, .sipush 999, 0, 0, []), (46, .if_icmp .gt 47, 8, 0, []), (49, .aload_n 0, 0, 0, []), (50, .iload_n 1, 0, 0, []), (51, .iload 6, 0, 0, []), (53, .invokevirtual 341, 232, 10, [3, 0, 0]), (56, .aload_n 0, 0, 0, []), (57, .getfield 72, 10, 35, [0]), (60, .iload_n 1, 0, 0, []), (61, .iaload, 0, 0, []), (62, .ifCond .eq 6, 4, 0, []), (65, .goto 22, 7, 0, [])], [(68, .iload 5, 0, 0, []), (70, .ifCond .ne 8, 5, 0, []), (73, .iload 6, 0, 0, []), (75, .goto 4, 6, 0, [])], [(78, .iload_n 3, 0, 0, []), (79, .nop, 6, 0, [])], [(79, .istore_n 3, 0, 0, []), (80, .iload 6, 0, 0, []), (82, .istore 4, 0, 0, []), (84, .iinc 5 1, 0, 0, []), (87, .nop, 7, 0, [])], [(87, .iinc 6 1, 0, 0, []), (90, .goto (-49), 3, 0, [])], [(93, .iload_n 2, 0, 0, []), (94, .ifCond .ne 7, 9, 0, []), (97, .iload_n 3, 0, 0, []), (98, .goto 15, 11, 0, [])], [(101, .iload_n 2, 0, 0, []), (102, .iconst 1, 0, 0, []), (103, .if_icmp .ne 8, 10, 0, []), (106, .iload 4, 0, 0, []), (108, .goto 5, 11, 0, [])], [(111, .iload 5, 0, 0, []), (113, .nop, 11, 0, [])], [(113, .ireturn, 0, 0, [])]]
def zB_235 : mzB := [[(0, .iconst 0, 0, 0, []), (1, .istore_n 1, 0, 0, []), (2, .nop, 1, 0, [])], [(2, .iload_n 1, 0, 0, []), (3, .bipush 40, 0, 0, []), (5, .if_icmp .ge 16, 2, 0, []), (8, .aload_n 0, 0, 0, []), (9, .getfield 75, 10, 36, [0]), (12, .iload_n 1, 0, 0, []), (13, .iconst 0, 0, 0, []), (14, .bastore, 0, 0, []), (15, .iinc 1 1, 0, 0, []), (18, .goto (-16), 1, 0, [])], [(21, .iconst 0, 0, 0, []), (22, .istore_n 1, 0, 0, []), (23, .nop, 3, 0, [])], [(23, .iload_n 1, 0, 0, []), (24, .bipush 40, 0, 0, []), (26, .if_icmp .ge 47, 5, 0, []), (29, .aload_n 0, 0, 0, []), (30, .getfield 87, 10, 44, [0]), (33, .iload_n 1, 0, 0, []), (34, .baload, 0, 0, []), (35, .ifCond .eq 32, 4, 0, []), (38, .aload_n 0, 0, 0, []), (39, .getfield 32, 10, 21, [0]), (42, .iload_n 1, 0, 0, []), (43, .baload, 0, 0, []), (44, .ifCond .eq 23, 4, 0, []), (47, .aload_n 0, 0, 0, []), (48, .getfield 60, 10, 30, [0]), (51, .iload_n 1, 0, 0, []), (52, .baload, 0, 0, []), (53, .ifCond .ne 14, 4, 0, []), (56, .aload_n 0, 0, 0, []), (57, .getfield 75, 10, 36, [0]), (60, .aload_n 0, 0, 0, []), (61, .iload_n 1, 0, 0, []), (62, .invokevirtual 230, 185, 10, [2, 0, 0]), (65, .iconst 1, 0, 0, []), (66, .bastore, 0, 0, []), (67, .nop, 4, 0, [])], [(67, .iinc 1 1, 0, 0, []), (70, .goto (-47), 3, 0, [])], [(73, .iconst 0, 0, 0, []), (74, .istore_n 1, 0, 0, []), (75, .nop, 6, 0, [])], [(75, .iload_n 1, 0, 0, []), (76, .bipush 40, 0, 0, []), (78, .if_icmp .ge 47, 8, 0, []), (81, .aload_n 0, 0, 0, []), (82, .getfield 32, 10, 21, [0]), (85, .iload_n 1, 0, 0, []), (86, .baload, 0, 0, []), (87, .ifCond .eq 32, 7, 0, []), (90, .aload_n 0, 0, 0, []), (91, .getfield 60, 10, 30, [0]), (94, .iload_n 1, 0, 0, []), (95, .baload, 0, 0, []), (96, .ifCond .ne 23, 7, 0, []), (99, .aload_n 0, 0, 0, []), (100, .getfield 75, 10, 36, [0]), (103, .aload_n 0, 0, 0, []), (104, .iload_n 1, 0, 0, []), (105, .invokevirtual 230, 185, 10, [2, 0, 0]), (108, .baload, 0, 0, []), (109, .ifCond .eq 10, 7, 0, []), (112, .aload_n 0, 0, 0, []), (113, .getfield 87, 10, 44, [0]), (116, .iload_n 1, 0, 0, []), (117, .iconst 1, 0, 0, []), (118, .bastore, 0, 0, []), (119, .nop, 7, 0, [])], [(119, .iinc 1 1, 0, 0, []), (122, .goto (-47), 6, 0, [])], [(125, .return_, 0, 0, [])]]
def zB_236 : mzB := [[(0, .iload_n 1, 0, 0, []), (1, .istore_n 2, 0, 0, []), (2, .iconst 0, 0, 0, []), (3, .istore_n 3, 0, 0, []), (4, .nop, 1, 0, [])], [(4, .iload_n 3, 0, 0, []), (5, .bipush 40, 0, 0, []), (7, .if_icmp .ge 27, 5, 0, []), (10, .aload_n 0, 0, 0, []), (11, .iload_n 3, 0, 0, []), (12, .baload, 0, 0, []), (13, .ifCond .ne 6, 2, 0, []), (16, .goto 12, 4, 0, [])], [(19, .iload_n 2, 0, 0, []), (20, .ifCond .ne 5, 3, 0, []), (23, .iload_n 3, 0, 0, []), (24, .ireturn, 0, 0, [])], [(25, .iinc 2 (-1), 0, 0, []), (28, .nop, 4, 0, [])], [(28, .iinc 3 1, 0, 0, []), (31, .goto (-27), 1, 0, [])], [(34, .bipush (-2), 0, 0, []), (36, .ireturn, 0, 0, [])]]
def zB_237 : mzB := [[(0, .aload_n 0, 0, 0, []), (1, .iconst 0, 0, 0, []), (2, .putfield 96, 10, 0, [0]), (5, .iload_n 1, 0, 0, []), (6, .invokestatic 289, 205, 10, [1, 0, 0]), (9, .ifCond .eq 14, 1, 0, []), (12, .iload_n 2, 0, 0, []), (13, .invokestatic 292, 206, 10, [1, 0, 0]), (16, .ifCond .eq 7, 1, 0, []), (19, .iload_n 3, 0, 0, []), (20, .ifCond .ge 5, 2, 0, []), (23, .nop, 1, 0, [])], [(23, .iconst (-1), 0, 0, []), (24, .ireturn, 0, 0, [])], [(25, .aload_n 0, 0, 0, []), (26, .iload_n 2, 0, 0, []), (27, .invokevirtual 295, 200, 10, [2, 0, 0]), (30, .aload_n 0, 0, 0, []), (31, .getfield 32, 10, 21, [0]), (34, .iload_n 1, 0, 0, []), (35, .baload, 0, 0, []), (36, .ifCond .eq 12, 3, 0, []), (39, .aload_n 0, 0, 0, []), (40, .getfield 60, 10, 30, [0]), (43, .iload_n 1, 0, 0, []), (44, .baload, 0, 0, []), (45, .ifCond .eq 6, 4, 0, []), (48, .nop, 3, 0, [])], [(48, .bipush (-2), 0, 0, []), (50, .ireturn, 0, 0, [])], [(51, .iconst 0, 0, 0, []), (52, .istore 4, 0, 0, []), (54, .nop, 5, 0, [])], [(54, .iload 4, 0, 0, []), (56, .bipush 40, 0, 0, []), (58, .if_icmp .ge 27, 8, 0, []), (61, .aload_n 0, 0, 0, []), (62, .getfield 87, 10, 44, [0]), (65, .iload 4, 0, 0, []), (67, .iload 4, 0, 0, []), (69, .iload_n 1, 0, 0, []), (70, .if_icmp .ne 7, 6, 0, []), (73, .iconst 1, 0, 0, []), (74, .goto 4, 7, 0, [])], [(77, .iconst 0, 0, 0, []), (78, .nop, 7, 0, [])], [(78, .bastore, 0, 0, []), (79, .iinc 4 1, 0, 0, []), (82, .goto (-28), 5, 0, [])], [(85, .aload_n 0, 0, 0, []), (86, .invokevirtual 344, 235, 10, [1, 0, 0]), (89, .iconst 0, 0, 0, []), (90, .istore 4, 0, 0, []), (92, .nop, 9, 0, [])], [(92, .iload 4, 0, 0, []), (94, .aload_n 0, 0, 0, []), (95, .getfield 220, 10, 34, [0]), (98, .if_icmp .ge 43, 12, 0, []), (101, .aload_n 0, 0, 0, []), (102, .getfield 66, 10, 32, [0]), (105, .aload_n 0, 0, 0, []), (106, .getfield 69, 10, 33, [0]), (109, .iload 4, 0, 0, []), (111, .iaload, 0, 0, []), (112, .iaload, 0, 0, []), (113, .iload_n 2, 0, 0, []), (114, .if_icmp .gt 6, 10, 0, []), (117, .goto 18, 11, 0, [])], [(120, .aload_n 0, 0, 0, []), (121, .aload_n 0, 0, 0, []), (122, .getfield 69, 10, 33, [0]), (125, .iload 4, 0, 0, []), (127, .iaload, 0, 0, []), (128, .invokevirtual 271, 192, 10, [2, 0, 0]), (131, .aload_n 0, 0, 0, []), (132, .invokevirtual 344, 235, 10, [1, 0, 0]), (135, .nop, 11, 0, [])], [(135, .iinc 4 1, 0, 0, []), (138, .goto (-46), 9, 0, [])], [(141, .aload_n 0, 0, 0, []), (142, .getfield 87, 10, 44, [0]), (145, .iload_n 3, 0, 0, []), (146, .invokestatic 347, 236, 10, [2, 0, 0]), (149, .ireturn, 0, 0, [])]]
def zB_238 : mzB := [[(0, .iconst 0, 0, 0, []), (1, .istore_n 2, 0, 0, []), (2, .nop, 1, 0, [])], [(2, .iload_n 2, 0, 0, []), (3, .bipush 40, 0, 0, []), (5, .if_icmp .ge 38, 5, 0, []), (8, .aload_n 0, 0, 0, []), (9, .getfield 87, 10, 44, [0]), (12, .iload_n 2, 0, 0, []), (13, .aload_n 0, 0, 0, []), (14, .getfield 87, 10, 44, [0]), (17, .iload_n 2, 0, 0, []), (18, .baload, 0, 0, []), (19, .ifCond .ne 12, 2, 0, []), (22, .aload_n 0, 0, 0, []), (23, .iload_n 2, 0, 0, []), (24, .iload_n 1, 0, 0, []), (25, .invokevirtual 226, 186, 10, [3, 0, 0]), (28, .ifCond .eq 7, 3, 0, []), (31, .nop, 2, 0, [])], [(31, .iconst 1, 0, 0, []), (32, .goto 4, 4, 0, [])], [(35, .iconst 0, 0, 0, []), (36, .nop, 4, 0, [])], [(36, .bastore, 0, 0, []), (37, .iinc 2 1, 0, 0, []), (40, .goto (-38), 1, 0, [])], [(43, .return_, 0, 0, [])]]
def zB_239 : mzB := [[(0, .aload_n 0, 0, 0, []), (1, .iconst 0, 0, 0, []), (2, .putfield 96, 10, 0, [0]), (5, .iload_n 1, 0, 0, []), (6, .invokestatic 289, 205, 10, [1, 0, 0]), (9, .ifCond .eq 27, 1, 0, []), (12, .iload_n 2, 0, 0, []), (13, .invokestatic 292, 206, 10, [1, 0, 0]), (16, .ifCond .eq 20, 1, 0, []), (19, .iload_n 3, 0, 0, []), (20, .invokestatic 292, 206, 10, [1, 0, 0]), (23, .ifCond .eq 13, 1, 0, []), (26, .iload_n 3, 0, 0, []), (27, .iload_n 2, 0, 0, []), (28, .if_icmp .lt 8, 1, 0, []), (31, .iload 4, 0, 0, []), (33, .ifCond .ge 5, 2, 0, []), (36, .nop, 1, 0, [])], [(36, .iconst (-1), 0, 0, []), (37, .ireturn, 0, 0, [])], [(38, .aload_n 0, 0, 0, []), (39, .iload_n 2, 0, 0, []), (40, .invokevirtual 295, 200, 10, [2, 0, 0]), (43, .iconst 0, 0, 0, []), (44, .istore 5, 0, 0, []), (46, .nop, 3, 0, [])], [(46, .iload 5, 0, 0, []), (48, .bipush 40, 0, 0, []), (50, .if_icmp .ge 17, 4, 0, []), (53, .aload_n 0, 0, 0, []), (54, .getfield 87, 10, 44, [0]), (57, .iload 5, 0, 0, []), (59, .iconst 0, 0, 0, []), (60, .bastore, 0, 0, []), (61, .iinc 5 1, 0, 0, []), (64, .goto (-18), 3, 0, [])], [(67, .aload_n 0, 0, 0, []), (68, .iload_n 1, 0, 0, []), (69, .invokevirtual 351, 238, 10, [2, 0, 0]), (72, .iconst 0, 0, 0, []), (73, .istore 5, 0, 0, []), (75, .nop, 5, 0, [])], [(75, .iload 5, 0, 0, []), (77, .aload_n 0, 0, 0, []), (78, .getfield 220, 10, 34, [0]), (81, .if_icmp .ge 54, 8, 0, []), (84, .aload_n 0, 0, 0, []), (85, .getfield 66, 10, 32, [0]), (88, .aload_n 0, 0, 0, []), (89, .getfield 69, 10, 33, [0]), (92, .iload 5, 0, 0, []), (94, .iaload, 0, 0, []), (95, .iaload, 0, 0, []), (96, .istore 6, 0, 0, []), (98, .iload 6, 0, 0, []), (100, .iload_n 2, 0, 0, []), (101, .if_icmp .le 28, 7, 0, []), (104, .iload 6, 0, 0, []), (106, .iload_n 3, 0, 0, []), (107, .if_icmp .le 6, 6, 0, []), (110, .goto 19, 7, 0, [])], [(113, .aload_n 0, 0, 0, []), (114, .aload_n 0, 0, 0, []), (115, .getfield 69, 10, 33, [0]), (118, .iload 5, 0, 0, []), (120, .iaload, 0, 0, []), (121, .invokevirtual 271, 192, 10, [2, 0, 0]), (124, .aload_n 0, 0, 0, []), (125, .iload_n 1, 0, 0, []), (126, .invokevirtual 351, 238, 10, [2, 0, 0]), (129, .nop, 7, 0, [])], [(129, .iinc 5 1, 0, 0, []), (132, .goto (-57), 5, 0, [])], [(135, .aload_n 0, 0, 0, []), (136, .getfield 87, 10, 44, [0]), (139, .iload 4, 0, 0, []), (141, .invokestatic 347, 236, 10, [2, 0, 0]), (144, .ireturn, 0, 0, [])]]
def zB_240 : mzB := [[(0, .aload_n 0, 0, 0, []), (1, .iconst 0, 0, 0, []), (2, .putfield 96, 10, 0, [0]), (5, .iload_n 1, 0, 0, []), (6, .invokestatic 289, 205, 10, [1, 0, 0]), (9, .ifCond .ne 5, 1, 0, []), (12, .iconst (-1), 0, 0, []), (13, .ireturn, 0, 0, [])], [(14, .aload_n 0, 0, 0, []), (15, .invokevirtual 274, 182, 10, [1, 0, 0]), (18, .aload_n 0, 0, 0, []), (19, .invokevirtual 268, 184, 10, [1, 0, 0]), (22, .iconst 0, 0, 0, []), (23, .istore_n 2, 0, 0, []), (24, .iconst 0, 0, 0, []), (25, .istore_n 3, 0, 0, []), (26, .nop, 2, 0, [])], [(26, .iload_n 3, 0, 0, []), (27, .aload_n 0, 0, 0, []), (28, .getfield 220, 10, 34, [0]), (31, .if_icmp .ge 38, 5, 0, []), (34, .aload_n 0, 0, 0, []), (35, .aload_n 0, 0, 0, []), (36, .getfield 69, 10, 33, [0]), (39, .iload_n 3, 0, 0, []), (40, .iaload, 0, 0, []), (41, .invokevirtual 271, 192, 10, [2, 0, 0]), (44, .aload_n 0, 0, 0, []), (45, .iload_n 1, 0, 0, []), (46, .invokevirtual 301, 207, 10, [2, 0, 0]), (49, .iload_n 2, 0, 0, []), (50, .if_icmp .le 11, 3, 0, []), (53, .aload_n 0, 0, 0, []), (54, .iload_n 1, 0, 0, []), (55, .invokevirtual 301, 207, 10, [2, 0, 0]), (58, .goto 4, 4, 0, [])], [(61, .iload_n 2, 0, 0, []), (62, .nop, 4, 0, [])], [(62, .istore_n 2, 0, 0, []), (63, .iinc 3 1, 0, 0, []), (66, .goto (-40), 2, 0, [])], [(69, .aload_n 0, 0, 0, []), (70, .getfield 32, 10, 21, [0]), (73, .iload_n 1, 0, 0, []), (74, .baload, 0, 0, []), (75, .ifCond .eq 7, 6, 0, []), (78, .iload_n 2, 0, 0, []), (79, .goto 5, 7, 0, [])], [(82, .bipush (-2), 0, 0, []), (84, .nop, 7, 0, [])], [(84, .ireturn, 0, 0, [])]]
def zB_241 : mzB := [[(0, .lconst 0, 0, 0, []), (1, .lstore_n 2, 0, 0, []), (2, .iconst 0, 0, 0, []), (3, .istore 4, 0, 0, []), (5, .nop, 1, 0, [])], [(5, .iload 4, 0, 0, []), (7, .bipush 40, 0, 0, []), (9, .if_icmp .ge 26, 3, 0, []), (12, .aload_n 0, 0, 0, []), (13, .iload 4, 0, 0, []), (15, .iload_n 1, 0, 0, []), (16, .invokevirtual 226, 186, 10, [3, 0, 0]), (19, .ifCond .eq 10, 2, 0, []), (22, .lload_n 2, 0, 0, []), (23, .lconst 1, 0, 0, []), (24, .iload 4, 0, 0, []), (26, .lshl, 0, 0, []), (27, .lor, 0, 0, []), (28, .lstore_n 2, 0, 0, []), (29, .nop, 2, 0, [])], [(29, .iinc 4 1, 0, 0, []), (32, .goto (-27), 1, 0, [])], [(35, .lload_n 2, 0, 0, []), (36, .lreturn, 0, 0, [])]]
def zB_242 : mzB := [[(0, .aload_n 0, 0, 0, []), (1, .iconst 0, 0, 0, []), (2, .putfield 96, 10, 0, [0]), (5, .iload_n 1, 0, 0, []), (6, .invokestatic 289, 205, 10, [1, 0, 0]), (9, .ifCond .eq 10, 1, 0, []), (12, .iload_n 2, 0, 0, []), (13, .invokestatic 292, 206, 10, [1, 0, 0]), (16, .ifCond .ne 5, 2, 0, []), (19, .nop, 1, 0, [])], [(19, .iconst (-1), 0, 0, []), (20, .ireturn, 0, 0, [])], [(21, .aload_n 0, 0, 0, []), (22, .invokevirtual 274, 182, 10, [1, 0, 0]), (25, .aload_n 0, 0, 0, []), (26, .invokevirtual 268, 184, 10, [1, 0, 0]), (29, .bipush (-2), 0, 0, []), (31, .istore_n 3, 0, 0, []), (32, .iconst 0, 0, 0, []), (33, .istore 4, 0, 0, []), (35, .nop, 3, 0, [])], [(35, .iload 4, 0, 0, []), (37, .aload_n 0, 0, 0, []), (38, .getfield 220, 10, 34, [0]), (41, .if_icmp .ge 89, 6, 0, []), (44, .aload_n 0, 0, 0, []), (45, .getfield 66, 10, 32, [0]), (48, .aload_n 0, 0, 0, []), (49, .getfield 69, 10, 33, [0]), (52, .iload 4, 0, 0, []), (54, .iaload, 0, 0, []), (55, .iaload, 0, 0, []), (56, .iload_n 2, 0, 0, []), (57, .if_icmp .gt 73, 6, 0, []), (60, .aload_n 0, 0, 0, []), (61, .getfield 32, 10, 21, [0]), (64, .iload_n 1, 0, 0, []), (65, .baload, 0, 0, []), (66, .istore 5, 0, 0, []), (68, .aload_n 0, 0, 0, []), (69, .iload_n 1, 0, 0, []), (70, .invokevirtual 354, 241, 10, [2, 0, 0]), (73, .lstore 6, 0, 0, []), (75, .aload_n 0, 0, 0, []), (76, .aload_n 0, 0, 0, []), (77, .getfield 69, 10, 33, [0]), (80, .iload 4, 0, 0, []), (82, .iaload, 0, 0, []), (83, .invokevirtual 271, 192, 10, [2, 0, 0]), (86, .aload_n 0, 0, 0, []), (87, .getfield 32, 10, 21, [0]), (90, .iload_n 1, 0, 0, []), (91, .baload, 0, 0, []), (92, .ifCond .eq 32, 5, 0, []), (95, .iload 5, 0, 0, []), (97, .ifCond .eq 14, 4, 0, []), (100, .aload_n 0, 0, 0, []), (101, .iload_n 1, 0, 0, []), (102, .invokevirtual 354, 241, 10, [2, 0, 0]), (105, .lload 6, 0, 0, []), (107, .lcmp, 0, 0, []), (108, .ifCond .eq 16, 5, 0, []), (111, .nop, 4, 0, [])], [(111, .aload_n 0, 0, 0, []), (112, .getfield 66, 10, 32, [0]), (115, .aload_n 0, 0, 0, []), (116, .getfield 69, 10, 33, [0]), (119, .iload 4, 0, 0, []), (121, .iaload, 0, 0, []), (122, .iaload, 0, 0, []), (123, .istore_n 3, 0, 0, []), (124, .nop, 5, 0, [])], [(124, .iinc 4 1, 0, 0, []), (127, .goto (-92), 3, 0, [])], [(130, .aload_n 0, 0, 0, []), (131, .getfield 32, 10, 21, [0]), (134, .iload_n 1, 0, 0, []), (135, .baload, 0, 0, []), (136, .ifCond .ne 8, 7, 0, []), (139, .bipush (-2), 0, 0, []), (141, .goto 18, 9, 0, [])], [(144, .aload_n 0, 0, 0, []), (145, .getfield 60, 10, 30, [0]), (148, .iload_n 1, 0, 0, []), (149, .baload, 0, 0, []), (150, .ifCond .eq 8, 8, 0, []), (153, .bipush (-4), 0, 0, []), (155, .goto 4, 9, 0, [])], [(158, .iload_n 3, 0, 0, []), (159, .nop, 9, 0, [])], [(159, .ireturn, 0, 0, [])]]
def zB_243 : mzB := [[(0, .aload_n 0, 0, 0, []), (1, .iconst 0, 0, 0, []), (2, .putfield 96, 10, 0, [0]), (5, .aload_n 0, 0, 0, []), (6, .iload_n 1, 0, 0, []), (7, .invokevirtual 211, 210, 10, [2, 0, 0]), (10, .ifCond .eq 10, 1, 0, []), (13, .iload_n 2, 0, 0, []), (14, .invokestatic 292, 206, 10, [1, 0, 0]), (17, .ifCond .ne 5, 2, 0, []), (20, .nop, 1, 0, [])], [(20, .iconst (-1), 0, 0, []), (21, .ireturn, 0, 0, [])], [(22, .aload_n 0, 0, 0, []), (23, .iload_n 2, 0, 0, []), (24, .invokevirtual 295, 200, 10, [2, 0, 0]), (27, .iconst 0, 0, 0, []), (28, .istore_n 3, 0, 0, []), (29, .iconst 0, 0, 0, []), (30, .istore 4, 0, 0, []), (32, .nop, 3, 0, [])], [(32, .iload 4, 0, 0, []), (34, .bipush 40, 0, 0, []), (36, .if_icmp .ge 66, 9, 0, []), (39, .aload_n 0, 0, 0, []), (40, .getfield 39, 10, 23, [0]), (43, .iload 4, 0, 0, []), (45, .iaload, 0, 0, []), (46, .bipush (-5), 0, 0, []), (48, .if_icmp .eq 18, 4, 0, []), (51, .aload_n 0, 0, 0, []), (52, .getfield 51, 10, 27, [0]), (55, .aload_n 0, 0, 0, []), (56, .getfield 39, 10, 23, [0]), (59, .iload 4, 0, 0, []), (61, .iaload, 0, 0, []), (62, .baload, 0, 0, []), (63, .ifCond .eq 7, 5, 0, []), (66, .nop, 4, 0, [])], [(66, .iconst 1, 0, 0, []), (67, .goto 4, 6, 0, [])], [(70, .iconst 0, 0, 0, []), (71, .nop, 6, 0, [])], [(71, .istore 5, 0, 0, []), (73, .iload_n 3, 0, 0, []), (74, .aload_n 0, 0, 0, []), (75, .iload 4, 0, 0, []), (77, .invokevirtual 298, 201, 10, [2, 0, 0]), (80, .iload_n 1, 0, 0, []), (81, .if_icmp .ne 12, 7, 0, []), (84, .iload 5, 0, 0, []), (86, .ifCond .eq 7, 7, 0, []), (89, .iconst 1, 0, 0, []), (90, .goto 4, 8, 0, [])], [(93, .iconst 0, 0, 0, []), (94, .nop, 8, 0, [])], [(94, .iadd, 0, 0, []), (95, .istore_n 3, 0, 0, []), (96, .iinc 4 1, 0, 0, []), (99, .goto (-67), 3, 0, [])], [(102, .iload_n 3, 0, 0, []), (103, .ireturn, 0, 0, [])]]
def zB_244 : mzB := [[(0, .aload_n 0, 0, 0, []), (1, .iconst 0, 0, 0, []), (2, .putfield 96, 10, 0, [0]), (5, .iload_n 1, 0, 0, []), (6, .invokestatic 289, 205, 10, [1, 0, 0]), (9, .ifCond .eq 16, 1, 0, []), (12, .iload_n 2, 0, 0, []), (13, .ifCond .lt 12, 1, 0, []), (16, .iload_n 3, 0, 0, []), (17, .ifCond .lt 8, 1, 0, []), (20, .iload_n 3, 0, 0, []), (21, .iconst 2, 0, 0, []), (22, .if_icmp .le 5, 2, 0, []), (25, .nop, 1, 0, [])], [(25, .iconst (-1), 0, 0, []), (26, .ireturn, 0, 0, [])], [(27, .aload_n 0, 0, 0, []), (28, .invokevirtual 280, 199, 10, [1, 0, 0]), (31, .iload_n 2, 0, 0, []), (32, .istore 4, 0, 0, []), (34, .iconst 0, 0, 0, []), (35, .istore 5, 0, 0, []), (37, .nop, 3, 0, [])], [(37, .iload 5, 0, 0, []), (39, .aload_n 0, 0, 0, []), (40, .getfield 220, 10, 34, [0]), (43, .if_icmp .ge 108, 10, 0, []), (46, .aload_n 0, 0, 0, []), (47, .getfield 69, 10, 33, [0]), (50, .iload 5, 0, 0, []), (52, .iaload, 0, 0, []), (53, .istore 6, 0, 0, []), (55, .aload_n 0, 0, 0, []), (56, .iload 6, 0, 0, []), (58, .iconst 1, 0, 0, []), (59, .invokevirtual 217, 181, 10, [3, 0, 0]), (62, .bipush 6, 0, 0, []), (64, .if_icmp .ne 81, 9, 0, []), (67, .aload_n 0, 0, 0, []), (68, .iload 6, 0, 0, []), (70, .iconst 2, 0, 0, []), (71, .invokevirtual 217, 181, 10, [3, 0, 0]), (74, .iload_n 1, 0, 0, []), (75, .if_icmp .ne 70, 9, 0, []), (78, .aload_n 0, 0, 0, []), (79, .getfield 72, 10, 35, [0]), (82, .iload 6, 0, 0, []), (84, .iaload, 0, 0, []), (85, .bipush 6, 0, 0, []), (87, .if_icmp .eq 18, 4, 0, []), (90, .aload_n 0, 0, 0, []), (91, .getfield 72, 10, 35, [0]), (94, .iload 6, 0, 0, []), (96, .iaload, 0, 0, []), (97, .bipush 10, 0, 0, []), (99, .if_icmp .eq 6, 4, 0, []), (102, .goto 43, 9, 0, [])], [(105, .iload 4, 0, 0, []), (107, .ifCond .ne 35, 8, 0, []), (110, .iload_n 3, 0, 0, []), (111, .ifCond .ne 13, 5, 0, []), (114, .aload_n 0, 0, 0, []), (115, .iload 6, 0, 0, []), (117, .iconst 3, 0, 0, []), (118, .invokevirtual 217, 181, 10, [3, 0, 0]), (121, .goto 20, 7, 0, [])], [(124, .iload_n 3, 0, 0, []), (125, .iconst 1, 0, 0, []), (126, .if_icmp .ne 13, 6, 0, []), (129, .aload_n 0, 0, 0, []), (130, .iload 6, 0, 0, []), (132, .iconst 0, 0, 0, []), (133, .invokevirtual 217, 181, 10, [3, 0, 0]), (136, .goto 5, 7, 0, [])], [(139, .iload 6, 0, 0, []), (141, .nop, 7, 0, [])], [(141, .ireturn, 0, 0, [])], [(142, .iinc 4 (-1), 0, 0, []), (145, .nop, 9, 0, [])], [(145, .iinc 5 1, 0, 0, []), (148, .goto (-111), 3, 0, [])], [(151, .bipush (-2), 0, 0, []), (153, .ireturn, 0, 0, [])]]
def zB_245 : mzB := [[(0, .aload_n 0, 0, 0, []), (1, .iconst 0, 0, 0, []), (2, .putfield 96, 10, 0, [0]), (5, .iload_n 1, 0, 0, []), (6, .invokestatic 289, 205, 10, [1, 0, 0]), (9, .ifCond .eq 18, 1, 0, []), (12, .iload_n 2, 0, 0, []), (13, .invokestatic 292, 206, 10, [1, 0, 0]), (16, .ifCond .eq 11, 1, 0, []), (19, .aload_n 0, 0, 0, []), (20, .iload_n 3, 0, 0, []), (21, .invokevirtual 211, 210, 10, [2, 0, 0]), (24, .ifCond .ne 5, 2, 0, []), (27, .nop, 1, 0, [])], [(27, .iconst (-1), 0, 0, []), (28, .ireturn, 0, 0, [])], [(29, .aload_n 0, 0, 0, []), (30, .iload_n 2, 0, 0, []), (31, .invokevirtual 295, 200, 10, [2, 0, 0]), (34, .aload_n 0, 0, 0, []), (35, .iload_n 1, 0, 0, []), (36, .invokevirtual 298, 201, 10, [2, 0, 0]), (39, .istore 4, 0, 0, []), (41, .iload 4, 0, 0, []), (43, .ifCond .lt 9, 3, 0, []), (46, .iload 4, 0, 0, []), (48, .iload_n 3, 0, 0, []), (49, .if_icmp .ne 15, 6, 0, []), (52, .nop, 3, 0, [])], [(52, .iload 4, 0, 0, []), (54, .ifCond .ge 8, 4, 0, []), (57, .iload 4, 0, 0, []), (59, .goto 4, 5, 0, [])], [(62, .iload_n 2, 0, 0, []), (63, .nop, 5, 0, [])], [(63, .ireturn, 0, 0, [])], [(64, .aload_n 0, 0, 0, []), (65, .getfield 29, 10, 20, [0]), (68, .bipush 8, 0, 0, []), (70, .iload 4, 0, 0, []), (72, .imul, 0, 0, []), (73, .iload_n 3, 0, 0, []), (74, .iadd, 0, 0, []), (75, .iaload, 0, 0, []), (76, .istore 5, 0, 0, []), (78, .iload 5, 0, 0, []), (80, .ldc 193, 100000, 0, [0]), (82, .if_icmp .lt 6, 7, 0, []), (85, .bipush (-2), 0, 0, []), (87, .ireturn, 0, 0, [])], [(88, .aload_n 0, 0, 0, []), (89, .getfield 45, 10, 25, [0]), (92, .aload_n 0, 0, 0, []), (93, .iload_n 1, 0, 0, []), (94, .invokevirtual 230, 185, 10, [2, 0, 0]), (97, .iaload, 0, 0, []), (98, .iload 5, 0, 0, []), (100, .iadd, 0, 0, []), (101, .istore 6, 0, 0, []), (103, .iload 6, 0, 0, []), (105, .iload_n 2, 0, 0, []), (106, .if_icmp .le 8, 8, 0, []), (109, .iload 6, 0, 0, []), (111, .goto 4, 9, 0, [])], [(114, .iload_n 2, 0, 0, []), (115, .nop, 9, 0, [])], [(115, .ireturn, 0, 0, [])]]
def zB_246 : mzB := [[(0, .aload_n 0, 0, 0, []), (1, .iconst 0, 0, 0, []), (2, .putfield 96, 10, 0, [0]), (5, .iload_n 1, 0, 0, []), (6, .invokestatic 292, 206, 10, [1, 0, 0]), (9, .ifCond .eq 14, 1, 0, []), (12, .iload_n 2, 0, 0, []), (13, .invokestatic 292, 206, 10, [1, 0, 0]), (16, .ifCond .eq 7, 1, 0, []), (19, .iload_n 3, 0, 0, []), (20, .ifCond .ge 5, 2, 0, []), (23, .nop, 1, 0, [])], [(23, .iconst (-1), 0, 0, []), (24, .ireturn, 0, 0, [])], [(25, .aload_n 0, 0, 0, []), (26, .iload_n 1, 0, 0, []), (27, .invokevirtual 295, 200, 10, [2, 0, 0]), (30, .iload_n 3, 0, 0, []), (31, .istore 4, 0, 0, []), (33, .iconst 0, 0, 0, []), (34, .istore 5, 0, 0, []), (36, .nop, 3, 0, [])], [(36, .iload 5, 0, 0, []), (38, .bipush 40, 0, 0, []), (40, .if_icmp .ge 49, 7, 0, []), (43, .aload_n 0, 0, 0, []), (44, .iload 5, 0, 0, []), (46, .invokevirtual 298, 201, 10, [2, 0, 0]), (49, .ifCond .lt 34, 6, 0, []), (52, .iload_n 1, 0, 0, []), (53, .aload_n 0, 0, 0, []), (54, .getfield 45, 10, 25, [0]), (57, .aload_n 0, 0, 0, []), (58, .iload 5, 0, 0, []), (60, .invokevirtual 230, 185, 10, [2, 0, 0]), (63, .iaload, 0, 0, []), (64, .isub, 0, 0, []), (65, .iload_n 2, 0, 0, []), (66, .if_icmp .ge 6, 4, 0, []), (69, .goto 14, 6, 0, [])], [(72, .iload 4, 0, 0, []), (74, .ifCond .ne 6, 5, 0, []), (77, .iload 5, 0, 0, []), (79, .ireturn, 0, 0, [])], [(80, .iinc 4 (-1), 0, 0, []), (83, .nop, 6, 0, [])], [(83, .iinc 5 1, 0, 0, []), (86, .goto (-50), 3, 0, [])], [(89, .bipush (-2), 0, 0, []), (91, .ireturn, 0, 0, [])]]
def zB_247 : mzB := [[(0, .aload_n 0, 0, 0, []), (1, .iconst 0, 0, 0, []), (2, .putfield 96, 10, 0, [0]), (5, .iload_n 1, 0, 0, []), (6, .ifCond .lt 44, 2, 0, []), (9, .iload_n 1, 0, 0, []), (10, .aload_n 0, 0, 0, []), (11, .invokevirtual 214, 180, 10, [1, 0, 0]), (14, .if_icmp .ge 36, 2, 0, []), (17, .iload_n 2, 0, 0, []), (18, .ifCond .lt 32, 2, 0, []), (21, .iload_n 2, 0, 0, []), (22, .aload_n 0, 0, 0, []), (23, .invokevirtual 214, 180, 10, [1, 0, 0]), (26, .if_icmp .ge 24, 2, 0, []), (29, .iload_n 2, 0, 0, []), (30, .iload_n 1, 0, 0, []), (31, .if_icmp .eq 19, 2, 0, []), (34, .iload_n 3, 0, 0, []), (35, .iconst (-1), 0, 0, []), (36, .if_icmp .eq 10, 1, 0, []), (39, .iload_n 3, 0, 0, []), (40, .invokestatic 289, 205, 10, [1, 0, 0]), (43, .ifCond .eq 7, 2, 0, []), (46, .nop, 1, 0, [])], [(46, .iconst 1, 0, 0, []), (47, .goto 4, 3, 0, [])], [(50, .iconst 0, 0, 0, []), (51, .nop, 3, 0, [])], [(51, .istore 4, 0, 0, []), (53, .iload 4, 0, 0, []), (55, .ifCond .ne 7, 4, 0, []), (58, .sipush (-1000), 0, 0, []), (61, .ireturn, 0, 0, [])], [(62, .aload_n 0, 0, 0, []), (63, .invokevirtual 274, 182, 10, [1, 0, 0]), (66, .aload_n 0, 0, 0, []), (67, .getfield 66, 10, 32, [0]), (70, .iload_n 1, 0, 0, []), (71, .aload_n 0, 0, 0, []), (72, .iload_n 2, 0, 0, []), (73, .iconst 0, 0, 0, []), (74, .invokevirtual 217, 181, 10, [3, 0, 0]), (77, .iastore, 0, 0, []), (78, .aload_n 0, 0, 0, []), (79, .getfield 66, 10, 32, [0]), (82, .iload_n 2, 0, 0, []), (83, .aload_n 0, 0, 0, []), (84, .iload_n 1, 0, 0, []), (85, .iconst 0, 0, 0, []), (86, .invokevirtual 217, 181, 10, [3, 0, 0]), (89, .iastore, 0, 0, []), (90, .aload_n 0, 0, 0, []), (91, .sipush 999, 0, 0, []), (94, .invokevirtual 277, 198, 10, [2, 0, 0]), (97, .iload_n 3, 0, 0, []), (98, .iconst (-1), 0, 0, []), (99, .if_icmp .ne 10, 5, 0, []), (102, .aload_n 0, 0, 0, []), (103, .invokevirtual 323, 224, 10, [1, 0, 0]), (106, .goto 8, 6, 0, [])], [(109, .aload_n 0, 0, 0, []), (110, .iload_n 3, 0, 0, []), (111, .invokevirtual 298, 201, 10, [2, 0, 0]), (114, .nop, 6, 0, [])], [(114, .ireturn, 0, 0, [])]]
def zB_248 : mzB := [[(0, .iconst 0, 0, 0, []), (1, .istore_n 2, 0, 0, []), (2, .iconst 0, 0, 0, []), (3, .istore_n 3, 0, 0, []), (4, .nop, 1, 0, [])], [(4, .iload_n 3, 0, 0, []), (5, .bipush 40, 0, 0, []), (7, .if_icmp .ge 26, 4, 0, []), (10, .iload_n 2, 0, 0, []), (11, .aload_n 0, 0, 0, []), (12, .iload_n 3, 0, 0, []), (13, .invokevirtual 298, 201, 10, [2, 0, 0]), (16, .iload_n 1, 0, 0, []), (17, .if_icmp .ne 7, 2, 0, []), (20, .iconst 1, 0, 0, []), (21, .goto 4, 3, 0, [])], [(24, .iconst 0, 0, 0, []), (25, .nop, 3, 0, [])], [(25, .iadd, 0, 0, []), (26, .istore_n 2, 0, 0, []), (27, .iinc 3 1, 0, 0, []), (30, .goto (-26), 1, 0, [])], [(33, .iload_n 2, 0, 0, []), (34, .ireturn, 0, 0, [])]]
def zB_249 : mzB := [[(0, .aload_n 0, 0, 0, []), (1, .iconst 0, 0, 0, []), (2, .putfield 96, 10, 0, [0]), (5, .aload_n 0, 0, 0, []), (6, .iload_n 1, 0, 0, []), (7, .invokevirtual 211, 210, 10, [2, 0, 0]), (10, .ifCond .ne 15, 1, 0, []), (13, .iload_n 1, 0, 0, []), (14, .bipush (-3), 0, 0, []), (16, .if_icmp .eq 9, 1, 0, []), (19, .iload_n 1, 0, 0, []), (20, .bipush (-4), 0, 0, []), (22, .if_icmp .ne 12, 2, 0, []), (25, .nop, 1, 0, [])], [(25, .iload_n 2, 0, 0, []), (26, .ifCond .lt 8, 2, 0, []), (29, .iload_n 2, 0, 0, []), (30, .iconst 1, 0, 0, []), (31, .if_icmp .le 5, 3, 0, []), (34, .nop, 2, 0, [])], [(34, .iconst (-1), 0, 0, []), (35, .ireturn, 0, 0, [])], [(36, .aload_n 0, 0, 0, []), (37, .invokevirtual 274, 182, 10, [1, 0, 0]), (40, .aload_n 0, 0, 0, []), (41, .invokevirtual 268, 184, 10, [1, 0, 0]), (44, .iconst (-1), 0, 0, []), (45, .istore_n 3, 0, 0, []), (46, .bipush (-2), 0, 0, []), (48, .istore 4, 0, 0, []), (50, .iconst 0, 0, 0, []), (51, .istore 5, 0, 0, []), (53, .nop, 4, 0, [])], [(53, .iload 5, 0, 0, []), (55, .aload_n 0, 0, 0, []), (56, .getfield 220, 10, 34, [0]), (59, .if_icmp .ge 53, 7, 0, []), (62, .aload_n 0, 0, 0, []), (63, .aload_n 0, 0, 0, []), (64, .getfield 69, 10, 33, [0]), (67, .iload 5, 0, 0, []), (69, .iaload, 0, 0, []), (70, .invokevirtual 271, 192, 10, [2, 0, 0]), (73, .aload_n 0, 0, 0, []), (74, .iload_n 1, 0, 0, []), (75, .invokevirtual 358, 248, 10, [2, 0, 0]), (78, .istore 6, 0, 0, []), (80, .iload 6, 0, 0, []), (82, .iload_n 3, 0, 0, []), (83, .if_icmp .gt 6, 5, 0, []), (86, .goto 20, 6, 0, [])], [(89, .iload 6, 0, 0, []), (91, .istore_n 3, 0, 0, []), (92, .aload_n 0, 0, 0, []), (93, .getfield 66, 10, 32, [0]), (96, .aload_n 0, 0, 0, []), (97, .getfield 69, 10, 33, [0]), (100, .iload 5, 0, 0, []), (102, .iaload, 0, 0, []), (103, .iaload, 0, 0, []), (104, .istore 4, 0, 0, []), (106, .nop, 6, 0, [])], [(106, .iinc 5 1, 0, 0, []), (109, .goto (-56), 4, 0, [])], [(112, .iload_n 2, 0, 0, []), (113, .iconst 1, 0, 0, []), (114, .if_icmp .ne 8, 8, 0, []), (117, .iload 4, 0, 0, []), (119, .goto 13, 10, 0, [])], [(122, .iload_n 3, 0, 0, []), (123, .iconst (-1), 0, 0, []), (124, .if_icmp .ne 7, 9, 0, []), (127, .iconst 0, 0, 0, []), (128, .goto 4, 10, 0, [])], [(131, .iload_n 3, 0, 0, []), (132, .nop, 10, 0, [])], [(132, .ireturn, 0, 0, [])]]
def zB_250 : mzB := [[(0, .aload_n 0, 0, 0, []), (1, .iconst 0, 0, 0, []), (2, .putfield 96, 10, 0, [0]), (5, .iload_n 1, 0, 0, []), (6, .invokestatic 289, 205, 10, [1, 0, 0]), (9, .ifCond .ne 5, 1, 0, []), (12, .iconst (-1), 0, 0, []), (13, .ireturn, 0, 0, [])], [(14, .aload_n 0, 0, 0, []), (15, .iload_n 1, 0, 0, []), (16, .invokevirtual 310, 214, 10, [2, 0, 0]), (19, .iconst 0, 0, 0, []), (20, .istore_n 2, 0, 0, []), (21, .iconst (-1), 0, 0, []), (22, .istore_n 3, 0, 0, []), (23, .iconst 0, 0, 0, []), (24, .istore 4, 0, 0, []), (26, .nop, 2, 0, [])], [(26, .iload 4, 0, 0, []), (28, .aload_n 0, 0, 0, []), (29, .getfield 307, 10, 39, [0]), (32, .if_icmp .ge 66, 6, 0, []), (35, .aload_n 0, 0, 0, []), (36, .getfield 78, 10, 37, [0]), (39, .iload 4, 0, 0, []), (41, .iaload, 0, 0, []), (42, .istore 5, 0, 0, []), (44, .iload 5, 0, 0, []), (46, .ifCond .ge 6, 3, 0, []), (49, .goto 43, 5, 0, [])], [(52, .iload_n 3, 0, 0, []), (53, .iconst (-1), 0, 0, []), (54, .if_icmp .eq 35, 4, 0, []), (57, .aload_n 0, 0, 0, []), (58, .getfield 29, 10, 20, [0]), (61, .bipush 8, 0, 0, []), (63, .iload_n 3, 0, 0, []), (64, .imul, 0, 0, []), (65, .iload 5, 0, 0, []), (67, .iadd, 0, 0, []), (68, .iaload, 0, 0, []), (69, .ldc 193, 100000, 0, [0]), (71, .if_icmp .ge 18, 4, 0, []), (74, .iload_n 2, 0, 0, []), (75, .aload_n 0, 0, 0, []), (76, .getfield 29, 10, 20, [0]), (79, .bipush 8, 0, 0, []), (81, .iload_n 3, 0, 0, []), (82, .imul, 0, 0, []), (83, .iload 5, 0, 0, []), (85, .iadd, 0, 0, []), (86, .iaload, 0, 0, []), (87, .iadd, 0, 0, []), (88, .istore_n 2, 0, 0, []), (89, .nop, 4, 0, [])], [(89, .iload 5, 0, 0, []), (91, .istore_n 3, 0, 0, []), (92, .nop, 5, 0, [])], [(92, .iinc 4 1, 0, 0, []), (95, .goto (-69), 2, 0, [])], [(98, .aload_n 0, 0, 0, []), (99, .getfield 307, 10, 39, [0]), (102, .ifCond .ne 8, 7, 0, []), (105, .bipush (-2), 0, 0, []), (107, .goto 4, 8, 0, [])], [(110, .iload_n 2, 0, 0, []), (111, .nop, 8, 0, [])], [(111, .ireturn, 0, 0, [])]]
def zB_251 : mzB := [[(0, .aload_n 0, 0, 0, []), (1, .iconst 0, 0, 0, []), (2, .putfield 96, 10, 0, [0]), (5, .iload_n 1, 0, 0, []), (6, .tableswitch 85 0 6 #[42, 49, 56, 61, 66, 73, 80], 8, 0, [1, 2, 3, 4, 5, 6, 7])], [(48, .aload_n 0, 0, 0, []), (49, .getfield 13, 10, 3, [0]), (52, .iconst 0, 0, 0, []), (53, .iaload, 0, 0, []), (54, .ireturn, 0, 0, [])], [(55, .aload_n 0, 0, 0, []), (56, .getfield 13, 10, 3, [0]), (59, .iconst 1, 0, 0, []), (60, .iaload, 0, 0, []), (61, .ireturn, 0, 0, [])], [(62, .aload_n 0, 0, 0, []), (63, .invokevirtual 214, 180, 10, [1, 0, 0]), (66, .ireturn, 0, 0, [])], [(67, .aload_n 0, 0, 0, []), (68, .invokevirtual 361, 252, 10, [1, 0, 0]), (71, .ireturn, 0, 0, [])], [(72, .aload_n 0, 0, 0, []), (73, .getfield 13, 10, 3, [0]), (76, .iconst 3, 0, 0, []), (77, .iaload, 0, 0, []), (78, .ireturn, 0, 0, [])], [(79, .aload_n 0, 0, 0, []), (80, .getfield 13, 10, 3, [0]), (83, .iconst 4, 0, 0, []), (84, .iaload, 0, 0, []), (85, .ireturn, 0, 0, [])], [(86, .aload_n 0, 0, 0, []), (87, .getfield 99, 10, 2, [0]), (90, .ireturn, 0, 0, [])], [(91, .iconst (-1), 0, 0, []), (92, .ireturn, 0, 0, [])]]
def zB_252 : mzB := [[(0, .iconst 0, 0, 0, []), (1, .istore_n 1, 0, 0, []), (2, .iconst 0, 0, 0, []), (3, .istore_n 2, 0, 0, []), (4, .nop, 1, 0, [])], [(4, .iload_n 2, 0, 0, []), (5, .aload_n 0, 0, 0, []), (6, .invokevirtual 214, 180, 10, [1, 0, 0]), (9, .if_icmp .ge 25, 4, 0, []), (12, .iload_n 1, 0, 0, []), (13, .aload_n 0, 0, 0, []), (14, .iload_n 2, 0, 0, []), (15, .invokevirtual 286, 204, 10, [2, 0, 0]), (18, .ifCond .eq 7, 2, 0, []), (21, .iconst 1, 0, 0, []), (22, .goto 4, 3, 0, [])], [(25, .iconst 0, 0, 0, []), (26, .nop, 3, 0, [])], [(26, .iadd, 0, 0, []), (27, .istore_n 1, 0, 0, []), (28, .iinc 2 1, 0, 0, []), (31, .goto (-27), 1, 0, [])], [(34, .iload_n 1, 0, 0, []), (35, .ireturn, 0, 0, [])]]
def zB_253 : mzB := [[(0, .lload_n 0, 0, 0, []), (1, .lload_n 0, 0, 0, []), (2, .iconst 1, 0, 0, []), (3, .lushr, 0, 0, []), (4, .ldc2_w 314, 6148914691236517205, 0, [0]), (7, .land, 0, 0, []), (8, .lsub, 0, 0, []), (9, .lstore_n 0, 0, 0, []), (10, .lload_n 0, 0, 0, []), (11, .ldc2_w 316, 3689348814741910323, 0, [0]), (14, .land, 0, 0, []), (15, .lload_n 0, 0, 0, []), (16, .iconst 2, 0, 0, []), (17, .lushr, 0, 0, []), (18, .ldc2_w 316, 3689348814741910323, 0, [0]), (21, .land, 0, 0, []), (22, .ladd, 0, 0, []), (23, .lstore_n 0, 0, 0, []), (24, .lload_n 0, 0, 0, []), (25, .lload_n 0, 0, 0, []), (26, .iconst 4, 0, 0, []), (27, .lushr, 0, 0, []), (28, .ladd, 0, 0, []), (29, .ldc2_w 318, 1085102592571150095, 0, [0]), (32, .land, 0, 0, []), (33, .lstore_n 0, 0, 0, []), (34, .lload_n 0, 0, 0, []), (35, .lload_n 0, 0, 0, []), (36, .bipush 8, 0, 0, []), (38, .lushr, 0, 0, []), (39, .ladd, 0, 0, []), (40, .lstore_n 0, 0, 0, []), (41, .lload_n 0, 0, 0, []), (42, .lload_n 0, 0, 0, []), (43, .bipush 16, 0, 0, []), (45, .lushr, 0, 0, []), (46, .ladd, 0, 0, []), (47, .lstore_n 0, 0, 0, []), (48, .lload_n 0, 0, 0, []), (49, .lload_n 0, 0, 0, []), (50, .bipush 32, 0, 0, []), (52, .lushr, 0, 0, []), (53, .ladd, 0, 0, []), (54, .lstore_n 0, 0, 0, []), (55, .lload_n 0, 0, 0, []), (56, .l2i, 0, 0, []), (57, .bipush 127, 0, 0, []), (59, .iand, 0, 0, []), (60, .ireturn, 0, 0, [])]]
def zB_254 : mzB := [[(0, .iconst 0, 0, 0, []), (1, .istore_n 2, 0, 0, []), (2, .aload_n 0, 0, 0, []), (3, .arraylength, 0, 0, []), (4, .istore_n 3, 0, 0, []), (5, .nop, 1, 0, [])], [(5, .iload_n 2, 0, 0, []), (6, .iload_n 3, 0, 0, []), (7, .if_icmp .ge 13, 2, 0, []), (10, .aload_n 0, 0, 0, []), (11, .iload_n 2, 0, 0, []), (12, .iload_n 1, 0, 0, []), (13, .iastore, 0, 0, []), (14, .iinc 2 1, 0, 0, []), (17, .goto (-12), 1, 0, [])], [(20, .return_, 0, 0, [])]]
def zBt : Lean.RArray mzB := (.branch 127 (.branch 63 (.branch 31 (.branch 15 (.branch 7 (.branch 3 (.branch 1 (.leaf zB_0) (.branch 2 (.leaf zB_1) (.leaf zB_2))) (.branch 5 (.branch 4 (.leaf zB_3) (.leaf zB_4)) (.branch 6 (.leaf zB_5) (.leaf zB_6)))) (.branch 11 (.branch 9 (.branch 8 (.leaf zB_7) (.leaf zB_8)) (.branch 10 (.leaf zB_9) (.leaf zB_10))) (.branch 13 (.branch 12 (.leaf zB_11) (.leaf zB_12)) (.branch 14 (.leaf zB_13) (.leaf zB_14))))) (.branch 23 (.branch 19 (.branch 17 (.branch 16 (.leaf zB_15) (.leaf zB_16)) (.branch 18 (.leaf zB_17) (.leaf zB_18))) (.branch 21 (.branch 20 (.leaf zB_19) (.leaf zB_20)) (.branch 22 (.leaf zB_21) (.leaf zB_22)))) (.branch 27 (.branch 25 (.branch 24 (.leaf zB_23) (.leaf zB_24)) (.branch 26 (.leaf zB_25) (.leaf zB_26))) (.branch 29 (.branch 28 (.leaf zB_27) (.leaf zB_28)) (.branch 30 (.leaf zB_29) (.leaf zB_30)))))) (.branch 47 (.branch 39 (.branch 35 (.branch 33 (.branch 32 (.leaf zB_31) (.leaf zB_32)) (.branch 34 (.leaf zB_33) (.leaf zB_34))) (.branch 37 (.branch 36 (.leaf zB_35) (.leaf zB_36)) (.branch 38 (.leaf zB_37) (.leaf zB_38)))) (.branch 43 (.branch 41 (.branch 40 (.leaf zB_39) (.leaf zB_40)) (.branch 42 (.leaf zB_41) (.leaf zB_42))) (.branch 45 (.branch 44 (.leaf zB_43) (.leaf zB_44)) (.branch 46 (.leaf zB_45) (.leaf zB_46))))) (.branch 55 (.branch 51 (.branch 49 (.branch 48 (.leaf zB_47) (.leaf zB_48)) (.branch 50 (.leaf zB_49) (.leaf zB_50))) (.branch 53 (.branch 52 (.leaf zB_51) (.leaf zB_52)) (.branch 54 (.leaf zB_53) (.leaf zB_54)))) (.branch 59 (.branch 57 (.branch 56 (.leaf zB_55) (.leaf zB_56)) (.branch 58 (.leaf zB_57) (.leaf zB_58))) (.branch 61 (.branch 60 (.leaf zB_59) (.leaf zB_60)) (.branch 62 (.leaf zB_61) (.leaf zB_62))))))) (.branch 95 (.branch 79 (.branch 71 (.branch 67 (.branch 65 (.branch 64 (.leaf zB_63) (.leaf zB_64)) (.branch 66 (.leaf zB_65) (.leaf zB_66))) (.branch 69 (.branch 68 (.leaf zB_67) (.leaf zB_68)) (.branch 70 (.leaf zB_69) (.leaf zB_70)))) (.branch 75 (.branch 73 (.branch 72 (.leaf zB_71) (.leaf zB_72)) (.branch 74 (.leaf zB_73) (.leaf zB_74))) (.branch 77 (.branch 76 (.leaf zB_75) (.leaf zB_76)) (.branch 78 (.leaf zB_77) (.leaf zB_78))))) (.branch 87 (.branch 83 (.branch 81 (.branch 80 (.leaf zB_79) (.leaf zB_80)) (.branch 82 (.leaf zB_81) (.leaf zB_82))) (.branch 85 (.branch 84 (.leaf zB_83) (.leaf zB_84)) (.branch 86 (.leaf zB_85) (.leaf zB_86)))) (.branch 91 (.branch 89 (.branch 88 (.leaf zB_87) (.leaf zB_88)) (.branch 90 (.leaf zB_89) (.leaf zB_90))) (.branch 93 (.branch 92 (.leaf zB_91) (.leaf zB_92)) (.branch 94 (.leaf zB_93) (.leaf zB_94)))))) (.branch 111 (.branch 103 (.branch 99 (.branch 97 (.branch 96 (.leaf zB_95) (.leaf zB_96)) (.branch 98 (.leaf zB_97) (.leaf zB_98))) (.branch 101 (.branch 100 (.leaf zB_99) (.leaf zB_100)) (.branch 102 (.leaf zB_101) (.leaf zB_102)))) (.branch 107 (.branch 105 (.branch 104 (.leaf zB_103) (.leaf zB_104)) (.branch 106 (.leaf zB_105) (.leaf zB_106))) (.branch 109 (.branch 108 (.leaf zB_107) (.leaf zB_108)) (.branch 110 (.leaf zB_109) (.leaf zB_110))))) (.branch 119 (.branch 115 (.branch 113 (.branch 112 (.leaf zB_111) (.leaf zB_112)) (.branch 114 (.leaf zB_113) (.leaf zB_114))) (.branch 117 (.branch 116 (.leaf zB_115) (.leaf zB_116)) (.branch 118 (.leaf zB_117) (.leaf zB_118)))) (.branch 123 (.branch 121 (.branch 120 (.leaf zB_119) (.leaf zB_120)) (.branch 122 (.leaf zB_121) (.leaf zB_122))) (.branch 125 (.branch 124 (.leaf zB_123) (.leaf zB_124)) (.branch 126 (.leaf zB_125) (.leaf zB_126)))))))) (.branch 191 (.branch 159 (.branch 143 (.branch 135 (.branch 131 (.branch 129 (.branch 128 (.leaf zB_127) (.leaf zB_128)) (.branch 130 (.leaf zB_129) (.leaf zB_130))) (.branch 133 (.branch 132 (.leaf zB_131) (.leaf zB_132)) (.branch 134 (.leaf zB_133) (.leaf zB_134)))) (.branch 139 (.branch 137 (.branch 136 (.leaf zB_135) (.leaf zB_136)) (.branch 138 (.leaf zB_137) (.leaf zB_138))) (.branch 141 (.branch 140 (.leaf zB_139) (.leaf zB_140)) (.branch 142 (.leaf zB_141) (.leaf zB_142))))) (.branch 151 (.branch 147 (.branch 145 (.branch 144 (.leaf zB_143) (.leaf zB_144)) (.branch 146 (.leaf zB_145) (.leaf zB_146))) (.branch 149 (.branch 148 (.leaf zB_147) (.leaf zB_148)) (.branch 150 (.leaf zB_149) (.leaf zB_150)))) (.branch 155 (.branch 153 (.branch 152 (.leaf zB_151) (.leaf zB_152)) (.branch 154 (.leaf zB_153) (.leaf zB_154))) (.branch 157 (.branch 156 (.leaf zB_155) (.leaf zB_156)) (.branch 158 (.leaf zB_157) (.leaf zB_158)))))) (.branch 175 (.branch 167 (.branch 163 (.branch 161 (.branch 160 (.leaf zB_159) (.leaf zB_160)) (.branch 162 (.leaf zB_161) (.leaf zB_162))) (.branch 165 (.branch 164 (.leaf zB_163) (.leaf zB_164)) (.branch 166 (.leaf zB_165) (.leaf zB_166)))) (.branch 171 (.branch 169 (.branch 168 (.leaf zB_167) (.leaf zB_168)) (.branch 170 (.leaf zB_169) (.leaf zB_170))) (.branch 173 (.branch 172 (.leaf zB_171) (.leaf zB_172)) (.branch 174 (.leaf zB_173) (.leaf zB_174))))) (.branch 183 (.branch 179 (.branch 177 (.branch 176 (.leaf zB_175) (.leaf zB_176)) (.branch 178 (.leaf zB_177) (.leaf zB_178))) (.branch 181 (.branch 180 (.leaf zB_179) (.leaf zB_180)) (.branch 182 (.leaf zB_181) (.leaf zB_182)))) (.branch 187 (.branch 185 (.branch 184 (.leaf zB_183) (.leaf zB_184)) (.branch 186 (.leaf zB_185) (.leaf zB_186))) (.branch 189 (.branch 188 (.leaf zB_187) (.leaf zB_188)) (.branch 190 (.leaf zB_189) (.leaf zB_190))))))) (.branch 223 (.branch 207 (.branch 199 (.branch 195 (.branch 193 (.branch 192 (.leaf zB_191) (.leaf zB_192)) (.branch 194 (.leaf zB_193) (.leaf zB_194))) (.branch 197 (.branch 196 (.leaf zB_195) (.leaf zB_196)) (.branch 198 (.leaf zB_197) (.leaf zB_198)))) (.branch 203 (.branch 201 (.branch 200 (.leaf zB_199) (.leaf zB_200)) (.branch 202 (.leaf zB_201) (.leaf zB_202))) (.branch 205 (.branch 204 (.leaf zB_203) (.leaf zB_204)) (.branch 206 (.leaf zB_205) (.leaf zB_206))))) (.branch 215 (.branch 211 (.branch 209 (.branch 208 (.leaf zB_207) (.leaf zB_208)) (.branch 210 (.leaf zB_209) (.leaf zB_210))) (.branch 213 (.branch 212 (.leaf zB_211) (.leaf zB_212)) (.branch 214 (.leaf zB_213) (.leaf zB_214)))) (.branch 219 (.branch 217 (.branch 216 (.leaf zB_215) (.leaf zB_216)) (.branch 218 (.leaf zB_217) (.leaf zB_218))) (.branch 221 (.branch 220 (.leaf zB_219) (.leaf zB_220)) (.branch 222 (.leaf zB_221) (.leaf zB_222)))))) (.branch 239 (.branch 231 (.branch 227 (.branch 225 (.branch 224 (.leaf zB_223) (.leaf zB_224)) (.branch 226 (.leaf zB_225) (.leaf zB_226))) (.branch 229 (.branch 228 (.leaf zB_227) (.leaf zB_228)) (.branch 230 (.leaf zB_229) (.leaf zB_230)))) (.branch 235 (.branch 233 (.branch 232 (.leaf zB_231) (.leaf zB_232)) (.branch 234 (.leaf zB_233) (.leaf zB_234))) (.branch 237 (.branch 236 (.leaf zB_235) (.leaf zB_236)) (.branch 238 (.leaf zB_237) (.leaf zB_238))))) (.branch 247 (.branch 243 (.branch 241 (.branch 240 (.leaf zB_239) (.leaf zB_240)) (.branch 242 (.leaf zB_241) (.leaf zB_242))) (.branch 245 (.branch 244 (.leaf zB_243) (.leaf zB_244)) (.branch 246 (.leaf zB_245) (.leaf zB_246)))) (.branch 251 (.branch 249 (.branch 248 (.leaf zB_247) (.leaf zB_248)) (.branch 250 (.leaf zB_249) (.leaf zB_250))) (.branch 253 (.branch 252 (.leaf zB_251) (.leaf zB_252)) (.branch 254 (.leaf zB_253) (.leaf zB_254)))))))))
def zB (j : Nat) : mzB := zBt.get j
def zNt : Lean.RArray Nat := (.branch 127 (.branch 63 (.branch 31 (.branch 15 (.branch 7 (.branch 3 (.branch 1 (.leaf 2) (.branch 2 (.leaf 1) (.leaf 5))) (.branch 5 (.branch 4 (.leaf 3) (.leaf 6)) (.branch 6 (.leaf 5) (.leaf 6)))) (.branch 11 (.branch 9 (.branch 8 (.leaf 3) (.leaf 1)) (.branch 10 (.leaf 1) (.leaf 2))) (.branch 13 (.branch 12 (.leaf 2) (.leaf 2)) (.branch 14 (.leaf 3) (.leaf 2))))) (.branch 23 (.branch 19 (.branch 17 (.branch 16 (.leaf 4) (.leaf 6)) (.branch 18 (.leaf 4) (.leaf 5))) (.branch 21 (.branch 20 (.leaf 4) (.leaf 3)) (.branch 22 (.leaf 3) (.leaf 3)))) (.branch 27 (.branch 25 (.branch 24 (.leaf 1) (.leaf 2)) (.branch 26 (.leaf 3) (.leaf 3))) (.branch 29 (.branch 28 (.leaf 2) (.leaf 2)) (.branch 30 (.leaf 3) (.leaf 6)))))) (.branch 47 (.branch 39 (.branch 35 (.branch 33 (.branch 32 (.leaf 8) (.leaf 4)) (.branch 34 (.leaf 4) (.leaf 4))) (.branch 37 (.branch 36 (.leaf 8) (.leaf 6)) (.branch 38 (.leaf 3) (.leaf 3)))) (.branch 43 (.branch 41 (.branch 40 (.leaf 2) (.leaf 2)) (.branch 42 (.leaf 1) (.leaf 2))) (.branch 45 (.branch 44 (.leaf 4) (.leaf 3)) (.branch 46 (.leaf 6) (.leaf 1))))) (.branch 55 (.branch 51 (.branch 49 (.branch 48 (.leaf 2) (.leaf 4)) (.branch 50 (.leaf 3) (.leaf 4))) (.branch 53 (.branch 52 (.leaf 2) (.leaf 2)) (.branch 54 (.leaf 2) (.leaf 3)))) (.branch 59 (.branch 57 (.branch 56 (.leaf 2) (.leaf 3)) (.branch 58 (.leaf 4) (.leaf 4))) (.branch 61 (.branch 60 (.leaf 7) (.leaf 7)) (.branch 62 (.leaf 7) (.leaf 6))))))) (.branch 95 (.branch 79 (.branch 71 (.branch 67 (.branch 65 (.branch 64 (.leaf 7) (.leaf 7)) (.branch 66 (.leaf 8) (.leaf 4))) (.branch 69 (.branch 68 (.leaf 8) (.leaf 7)) (.branch 70 (.leaf 1) (.leaf 2)))) (.branch 75 (.branch 73 (.branch 72 (.leaf 3) (.leaf 2)) (.branch 74 (.leaf 5) (.leaf 3))) (.branch 77 (.branch 76 (.leaf 1) (.leaf 1)) (.branch 78 (.leaf 2) (.leaf 1))))) (.branch 87 (.branch 83 (.branch 81 (.branch 80 (.leaf 1) (.leaf 1)) (.branch 82 (.leaf 5) (.leaf 1))) (.branch 85 (.branch 84 (.leaf 1) (.leaf 2)) (.branch 86 (.leaf 3) (.leaf 3)))) (.branch 91 (.branch 89 (.branch 88 (.leaf 3) (.leaf 2)) (.branch 90 (.leaf 4) (.leaf 5))) (.branch 93 (.branch 92 (.leaf 3) (.leaf 2)) (.branch 94 (.leaf 7) (.leaf 10)))))) (.branch 111 (.branch 103 (.branch 99 (.branch 97 (.branch 96 (.leaf 7) (.leaf 6)) (.branch 98 (.leaf 3) (.leaf 7))) (.branch 101 (.branch 100 (.leaf 4) (.leaf 2)) (.branch 102 (.leaf 4) (.leaf 3)))) (.branch 107 (.branch 105 (.branch 104 (.leaf 4) (.leaf 5)) (.branch 106 (.leaf 5) (.leaf 5))) (.branch 109 (.branch 108 (.leaf 8) (.leaf 4)) (.branch 110 (.leaf 4) (.leaf 4))))) (.branch 119 (.branch 115 (.branch 113 (.branch 112 (.leaf 3) (.leaf 1)) (.branch 114 (.leaf 6) (.leaf 3))) (.branch 117 (.branch 116 (.leaf 3) (.leaf 2)) (.branch 118 (.leaf 2) (.leaf 3)))) (.branch 123 (.branch 121 (.branch 120 (.leaf 3) (.leaf 4)) (.branch 122 (.leaf 4) (.leaf 4))) (.branch 125 (.branch 124 (.leaf 3) (.leaf 4)) (.branch 126 (.leaf 3) (.leaf 2)))))))) (.branch 191 (.branch 159 (.branch 143 (.branch 135 (.branch 131 (.branch 129 (.branch 128 (.leaf 3) (.leaf 2)) (.branch 130 (.leaf 2) (.leaf 2))) (.branch 133 (.branch 132 (.leaf 4) (.leaf 5)) (.branch 134 (.leaf 2) (.leaf 3)))) (.branch 139 (.branch 137 (.branch 136 (.leaf 3) (.leaf 3)) (.branch 138 (.leaf 3) (.leaf 2))) (.branch 141 (.branch 140 (.leaf 3) (.leaf 4)) (.branch 142 (.leaf 3) (.leaf 4))))) (.branch 151 (.branch 147 (.branch 145 (.branch 144 (.leaf 4) (.leaf 3)) (.branch 146 (.leaf 2) (.leaf 5))) (.branch 149 (.branch 148 (.leaf 7) (.leaf 2)) (.branch 150 (.leaf 1) (.leaf 1)))) (.branch 155 (.branch 153 (.branch 152 (.leaf 2) (.leaf 2)) (.branch 154 (.leaf 5) (.leaf 1))) (.branch 157 (.branch 156 (.leaf 8) (.leaf 1)) (.branch 158 (.leaf 1) (.leaf 1)))))) (.branch 175 (.branch 167 (.branch 163 (.branch 161 (.branch 160 (.leaf 2) (.leaf 4)) (.branch 162 (.leaf 2) (.leaf 1))) (.branch 165 (.branch 164 (.leaf 4) (.leaf 2)) (.branch 166 (.leaf 2) (.leaf 2)))) (.branch 171 (.branch 169 (.branch 168 (.leaf 4) (.leaf 3)) (.branch 170 (.leaf 3) (.leaf 8))) (.branch 173 (.branch 172 (.leaf 3) (.leaf 2)) (.branch 174 (.leaf 3) (.leaf 2))))) (.branch 183 (.branch 179 (.branch 177 (.branch 176 (.leaf 2) (.leaf 3)) (.branch 178 (.leaf 2) (.leaf 5))) (.branch 181 (.branch 180 (.leaf 3) (.leaf 1)) (.branch 182 (.leaf 3) (.leaf 2)))) (.branch 187 (.branch 185 (.branch 184 (.leaf 3) (.leaf 2)) (.branch 186 (.leaf 3) (.leaf 4))) (.branch 189 (.branch 188 (.leaf 3) (.leaf 4)) (.branch 190 (.leaf 5) (.leaf 5))))))) (.branch 223 (.branch 207 (.branch 199 (.branch 195 (.branch 193 (.branch 192 (.leaf 7) (.leaf 4)) (.branch 194 (.leaf 4) (.leaf 6))) (.branch 197 (.branch 196 (.leaf 4) (.leaf 6)) (.branch 198 (.leaf 3) (.leaf 3)))) (.branch 203 (.branch 201 (.branch 200 (.leaf 1) (.leaf 2)) (.branch 202 (.leaf 3) (.leaf 3))) (.branch 205 (.branch 204 (.leaf 3) (.leaf 3)) (.branch 206 (.leaf 1) (.leaf 1))))) (.branch 215 (.branch 211 (.branch 209 (.branch 208 (.leaf 4) (.leaf 4)) (.branch 210 (.leaf 6) (.leaf 2))) (.branch 213 (.branch 212 (.leaf 6) (.leaf 3)) (.branch 214 (.leaf 5) (.leaf 5)))) (.branch 219 (.branch 217 (.branch 216 (.leaf 4) (.leaf 3)) (.branch 218 (.leaf 5) (.leaf 7))) (.branch 221 (.branch 220 (.leaf 3) (.leaf 3)) (.branch 222 (.leaf 4) (.leaf 3)))))) (.branch 239 (.branch 231 (.branch 227 (.branch 225 (.branch 224 (.leaf 3) (.leaf 3)) (.branch 226 (.leaf 4) (.leaf 5))) (.branch 229 (.branch 228 (.leaf 2) (.leaf 2)) (.branch 230 (.leaf 2) (.leaf 3)))) (.branch 235 (.branch 233 (.branch 232 (.leaf 5) (.leaf 3)) (.branch 234 (.leaf 4) (.leaf 7))) (.branch 237 (.branch 236 (.leaf 2) (.leaf 4)) (.branch 238 (.leaf 5) (.leaf 3))))) (.branch 247 (.branch 243 (.branch 241 (.branch 240 (.leaf 7) (.leaf 4)) (.branch 242 (.leaf 5) (.leaf 8))) (.branch 245 (.branch 244 (.leaf 6) (.leaf 7)) (.branch 246 (.leaf 7) (.leaf 6)))) (.branch 251 (.branch 249 (.branch 248 (.leaf 5) (.leaf 4)) (.branch 250 (.leaf 7) (.leaf 6))) (.branch 253 (.branch 252 (.leaf 2) (.leaf 3)) (.branch 254 (.leaf 2) (.leaf 4)))))))))
def zN (j : Nat) : Nat := zNt.get j
/-- a method: name, code, locals, answer, its arguments with the receiver; frames, locals, cells, slots of its room; the number of its class -/
abbrev zMt : Type := MethodName × ByteArray × Nat × Option FieldType × Nat × Nat × Nat × Nat × Nat × Nat
def zM_0 : zMt := (yX0_init, cX0_init, 2, none, 2, 2, 40, 21, 738, 0)
def zM_1 : zMt := (yX0_forget, cX0_forget, 1, none, 1, 0, 0, 0, 0, 0)
def zM_2 : zMt := (yX0_findOne, cX0_findOne, 5, none, 1, 5, 129, 0, 0, 0)
def zM_3 : zMt := (yX0_findTwo, cX0_findTwo, 3, none, 1, 6, 154, 0, 0, 0)
def zM_4 : zMt := (yX0_tryPairsWith, cX0_tryPairsWith, 6, none, 3, 5, 129, 0, 0, 0)
def zM_5 : zMt := (yX0_propose, cX0_propose, 5, none, 4, 0, 0, 0, 0, 0)
def zM_6 : zMt := (yX0_refusedBehind, cX0_refusedBehind, 6, (some .int), 4, 4, 104, 0, 0, 0)
def zM_7 : zMt := (yX0_refusalAt, cX0_refusalAt, 3, (some .int), 3, 4, 104, 0, 0, 0)
def zM_8 : zMt := (yX1_init, cX1_init, 1, none, 1, 1, 20, 7, 372, 1)
def zM_9 : zMt := (yX1_clear, cX1_clear, 1, none, 1, 1, 23, 0, 0, 1)
def zM_10 : zMt := (yX1_become, cX1_become, 2, none, 2, 1, 26, 0, 0, 1)
def zM_11 : zMt := (yX1_hasPlace, cX1_hasPlace, 2, (some .boolean), 2, 0, 0, 0, 0, 1)
def zM_12 : zMt := (yX1_hasMessage, cX1_hasMessage, 2, (some .boolean), 2, 0, 0, 0, 0, 1)
def zM_13 : zMt := (yX1_placeNamed, cX1_placeNamed, 3, (some .int), 2, 0, 0, 0, 0, 1)
def zM_14 : zMt := (yX1_addPlace, cX1_addPlace, 2, none, 2, 0, 0, 0, 0, 1)
def zM_15 : zMt := (yX1_addRoad, cX1_addRoad, 4, none, 4, 2, 47, 0, 0, 1)
def zM_16 : zMt := (yX1_addMessage, cX1_addMessage, 6, none, 6, 0, 0, 0, 0, 1)
def zM_17 : zMt := (yX1_way, cX1_way, 4, (some .int), 3, 0, 0, 0, 0, 1)
def zM_18 : zMt := (yX1_shorten, cX1_shorten, 5, none, 4, 1, 23, 0, 0, 1)
def zM_19 : zMt := (yX1_joinRoads, cX1_joinRoads, 4, none, 1, 2, 47, 0, 0, 1)
def zM_20 : zMt := (yX1_isLate, cX1_isLate, 3, (some .boolean), 2, 0, 0, 0, 0, 1)
def zM_21 : zMt := (yX1_lateOnes, cX1_lateOnes, 3, (some .int), 1, 1, 22, 0, 0, 1)
def zM_22 : zMt := (yX1_latestHour, cX1_latestHour, 3, (some .int), 1, 1, 21, 0, 0, 1)
def zM_23 : zMt := (yX2_init, cX2_init, 1, none, 1, 1, 20, 2, 120, 2)
def zM_24 : zMt := (yX2_takeHours, cX2_takeHours, 2, none, 2, 1, 26, 0, 0, 2)
def zM_25 : zMt := (yX2_arrange, cX2_arrange, 3, none, 1, 0, 0, 0, 0, 2)
def zM_26 : zMt := (yX2_spotOf, cX2_spotOf, 3, (some .int), 2, 0, 0, 0, 0, 2)
def zM_27 : zMt := (yX2_hourAt, cX2_hourAt, 2, (some .int), 2, 0, 0, 0, 0, 2)
def zM_28 : zMt := (yX3_init, cX3_init, 2, none, 2, 2, 40, 10, 369, 3)
def zM_29 : zMt := (yX3_placeWithout, cX3_placeWithout, 3, (some .int), 3, 5, 129, 0, 0, 3)
def zM_30 : zMt := (yX3_lastVerdictWithout, cX3_lastVerdictWithout, 6, (some .int), 3, 4, 104, 0, 0, 3)
def zM_31 : zMt := (yX3_deciding, cX3_deciding, 8, (some .long), 2, 5, 129, 0, 0, 3)
def zM_32 : zMt := (yX3_outcomeAt, cX3_outcomeAt, 4, (some .int), 4, 5, 127, 0, 0, 3)
def zM_33 : zMt := (yX3_outcomeSwapped, cX3_outcomeSwapped, 4, (some .int), 4, 5, 127, 0, 0, 3)
def zM_34 : zMt := (yX3_outcome, cX3_outcome, 4, (some .int), 2, 4, 104, 0, 0, 3)
def zM_35 : zMt := (yX3_openWindow, cX3_openWindow, 8, none, 2, 4, 104, 0, 0, 3)
def zM_36 : zMt := (yX3_isAheadOf, cX3_isAheadOf, 6, (some .boolean), 4, 0, 0, 0, 0, 3)
def zM_37 : zMt := (yX4_init, cX4_init, 3, none, 3, 2, 41, 4, 2711, 4)
def zM_38 : zMt := (yX4_read, cX4_read, 3, (some .boolean), 3, 8, 174, 0, 0, 4)
def zM_39 : zMt := (yX4_goTo, cX4_goTo, 2, none, 2, 0, 0, 0, 0, 4)
def zM_40 : zMt := (yX4_fail, cX4_fail, 2, none, 2, 0, 0, 0, 0, 4)
def zM_41 : zMt := (yX4_readLine, cX4_readLine, 1, none, 1, 5, 113, 0, 0, 4)
def zM_42 : zMt := (yX4_readPlace, cX4_readPlace, 2, none, 1, 2, 44, 0, 0, 4)
def zM_43 : zMt := (yX4_readRoad, cX4_readRoad, 4, none, 1, 3, 70, 0, 0, 4)
def zM_44 : zMt := (yX4_readFits, cX4_readFits, 3, none, 1, 3, 67, 0, 0, 4)
def zM_45 : zMt := (yX4_readMessage, cX4_readMessage, 6, none, 1, 4, 88, 0, 0, 4)
def zM_46 : zMt := (yX4_takeAct, cX4_takeAct, 1, (some .int), 1, 2, 44, 0, 0, 4)
def zM_47 : zMt := (yX4_takeSecond, cX4_takeSecond, 2, (some .int), 2, 3, 67, 0, 0, 4)
def zM_48 : zMt := (yX4_takeNumber, cX4_takeNumber, 4, (some .int), 3, 2, 44, 0, 0, 4)
def zM_49 : zMt := (yX4_takePlace, cX4_takePlace, 3, (some .int), 2, 2, 44, 0, 0, 4)
def zM_50 : zMt := (yX4_take, cX4_take, 4, (some .int), 3, 1, 21, 0, 0, 4)
def zM_51 : zMt := (yX5_init, cX5_init, 2, none, 2, 2, 40, 18, 675, 5)
def zM_52 : zMt := (yX5_settle, cX5_settle, 2, none, 1, 5, 125, 0, 0, 5)
def zM_53 : zMt := (yX5_step, cX5_step, 2, (some .int), 2, 4, 104, 0, 0, 5)
def zM_54 : zMt := (yX5_goTo, cX5_goTo, 3, (some .int), 2, 4, 104, 0, 0, 5)
def zM_55 : zMt := (yX5_worldBy, cX5_worldBy, 2, (some (.object "PackTracer$World")), 2, 5, 126, 0, 0, 5)
def zM_56 : zMt := (yX5_worldOfFirst, cX5_worldOfFirst, 3, (some (.object "PackTracer$World")), 2, 5, 125, 0, 0, 5)
def zM_57 : zMt := (yX5_thingsChangedBy, cX5_thingsChangedBy, 4, (some .int), 2, 6, 147, 0, 0, 5)
def zM_58 : zMt := (yX5_verdicts, cX5_verdicts, 4, (some .int), 2, 0, 0, 0, 0, 5)
def zM_59 : zMt := (yX5_trailEntry, cX5_trailEntry, 7, (some .int), 4, 5, 125, 0, 0, 5)
def zM_60 : zMt := (yX5_hoursAt, cX5_hoursAt, 7, (some .int), 3, 5, 125, 0, 0, 5)
def zM_61 : zMt := (yX5_passages, cX5_passages, 7, (some .int), 3, 5, 125, 0, 0, 5)
def zM_62 : zMt := (yX5_hoursOnWays, cX5_hoursOnWays, 6, (some .int), 2, 5, 125, 0, 0, 5)
def zM_63 : zMt := (yX5_busiest, cX5_busiest, 7, (some .int), 3, 5, 125, 0, 0, 5)
def zM_64 : zMt := (yX5_allMet, cX5_allMet, 7, (some .long), 3, 5, 126, 0, 0, 5)
def zM_65 : zMt := (yX5_allHeld, cX5_allHeld, 8, (some .long), 4, 5, 126, 0, 0, 5)
def zM_66 : zMt := (yX5_mostHeld, cX5_mostHeld, 4, (some .int), 2, 5, 125, 0, 0, 5)
def zM_67 : zMt := (yX5_heldSince, cX5_heldSince, 8, (some .int), 3, 5, 125, 0, 0, 5)
def zM_68 : zMt := (yX5_clashOf, cX5_clashOf, 7, (some .int), 3, 0, 0, 0, 0, 5)
def zM_69 : zMt := (yX6_init, cX6_init, 1, none, 1, 1, 20, 1, 900, 6)
def zM_70 : zMt := (yX6_hasRoomFor, cX6_hasRoomFor, 2, (some .boolean), 2, 0, 0, 0, 0, 6)
def zM_71 : zMt := (yX6_append, cX6_append, 3, none, 2, 0, 0, 0, 0, 6)
def zM_72 : zMt := (yX7_init, cX7_init, 2, none, 2, 1, 20, 3, 2703, 7)
def zM_73 : zMt := (yX7_cut, cX7_cut, 5, none, 2, 7, 150, 0, 0, 7)
def zM_74 : zMt := (yX7_add, cX7_add, 3, none, 3, 0, 0, 0, 0, 7)
def zM_75 : zMt := (yX7_skipBlanks, cX7_skipBlanks, 1, none, 1, 0, 0, 0, 0, 7)
def zM_76 : zMt := (yX7_passToken, cX7_passToken, 1, (some .int), 1, 6, 130, 0, 0, 7)
def zM_77 : zMt := (yX7_passWord, cX7_passWord, 2, (some .int), 1, 5, 109, 0, 0, 7)
def zM_78 : zMt := (yX7_passDigits, cX7_passDigits, 1, none, 1, 1, 21, 0, 0, 7)
def zM_79 : zMt := (yX7_isLetter, cX7_isLetter, 1, (some .boolean), 1, 0, 0, 0, 0, 7)
def zM_80 : zMt := (yX7_isDigit, cX7_isDigit, 1, (some .boolean), 1, 0, 0, 0, 0, 7)
def zM_81 : zMt := (yX7_kindOfWord, cX7_kindOfWord, 5, (some .int), 1, 4, 85, 0, 0, 7)
def zM_82 : zMt := (yX8_init, cX8_init, 1, none, 1, 1, 20, 6, 240, 8)
def zM_83 : zMt := (yX8_clear, cX8_clear, 1, none, 1, 1, 23, 0, 0, 8)
def zM_84 : zMt := (yX8_become, cX8_become, 2, none, 2, 1, 26, 0, 0, 8)
def zM_85 : zMt := (yX8_has, cX8_has, 3, (some .boolean), 3, 0, 0, 0, 0, 8)
def zM_86 : zMt := (yX8_mark, cX8_mark, 3, none, 3, 0, 0, 0, 0, 8)
def zM_87 : zMt := (yX8_unmark, cX8_unmark, 3, none, 3, 0, 0, 0, 0, 8)
def zM_88 : zMt := (yX8_isMade, cX8_isMade, 2, (some .boolean), 2, 0, 0, 0, 0, 8)
def zM_89 : zMt := (yX8_topmost, cX8_topmost, 4, (some .int), 2, 0, 0, 0, 0, 8)
def zM_90 : zMt := (yX8_isIn, cX8_isIn, 5, (some .boolean), 3, 0, 0, 0, 0, 8)
def zM_91 : zMt := (yX8_whereIs, cX8_whereIs, 3, (some .int), 2, 1, 23, 0, 0, 8)
def zM_92 : zMt := (yX8_knownAt, cX8_knownAt, 2, (some .int), 2, 1, 23, 0, 0, 8)
def zM_93 : zMt := (yX8_look, cX8_look, 7, (some .int), 4, 3, 78, 0, 0, 8)
def zM_94 : zMt := (yX8_objection, cX8_objection, 10, (some .int), 4, 2, 49, 0, 0, 8)
def zM_95 : zMt := (yX8_objectionToPack, cX8_objectionToPack, 7, (some .int), 4, 1, 23, 0, 0, 8)
def zM_96 : zMt := (yX8_isTooSoon, cX8_isTooSoon, 6, (some .boolean), 5, 1, 23, 0, 0, 8)
def zM_97 : zMt := (yX8_isQuarantinedWithin, cX8_isQuarantinedWithin, 3, (some .boolean), 2, 1, 24, 0, 0, 8)
def zM_98 : zMt := (yX8_carryOut, cX8_carryOut, 7, none, 4, 2, 46, 0, 0, 8)
def zM_99 : zMt := (yX8_stand, cX8_stand, 4, none, 4, 0, 0, 0, 0, 8)
def zM_100 : zMt := (yX8_openAround, cX8_openAround, 2, none, 2, 1, 22, 0, 0, 8)
def zM_101 : zMt := (yX8_looseWith, cX8_looseWith, 4, (some .int), 2, 1, 22, 0, 0, 8)
def zM_102 : zMt := (yX8_endWithAllIn, cX8_endWithAllIn, 3, none, 2, 1, 24, 0, 0, 8)
def zM_103 : zMt := (yX8_heldAtOnce, cX8_heldAtOnce, 4, (some .int), 2, 0, 0, 0, 0, 8)
def zM_104 : zMt := (yX8_contents, cX8_contents, 5, (some .long), 2, 1, 24, 0, 0, 8)
def zM_105 : zMt := (yX8_allAt, cX8_allAt, 5, (some .long), 2, 2, 45, 0, 0, 8)
def zM_106 : zMt := (yX8_allKnownBy, cX8_allKnownBy, 5, (some .long), 2, 2, 45, 0, 0, 8)
def zM_107 : zMt := (yX8_withCompany, cX8_withCompany, 8, (some .long), 2, 1, 23, 0, 0, 8)
def zM_108 : zMt := (yX8_clumpsAt, cX8_clumpsAt, 4, (some .int), 2, 2, 45, 0, 0, 8)
def zM_109 : zMt := (yX8_tellOf, cX8_tellOf, 4, (some .int), 3, 2, 48, 0, 0, 8)
def zM_110 : zMt := (yX8_tally, cX8_tally, 4, (some .int), 2, 3, 67, 0, 0, 8)
def zM_111 : zMt := (yX8_isSo, cX8_isSo, 3, (some .boolean), 3, 2, 45, 0, 0, 8)
def zM_112 : zMt := (yX9_init, cX9_init, 1, none, 1, 3, 63, 75, 6197, 9)
def zM_113 : zMt := (yX9_feed, cX9_feed, 6, (some .int), 6, 1, 22, 0, 0, 9)
def zM_114 : zMt := (yX9_text, cX9_text, 3, (some .int), 2, 9, 196, 0, 0, 9)
def zM_115 : zMt := (yX9_tell, cX9_tell, 3, (some .int), 2, 9, 196, 0, 0, 9)
def zM_116 : zMt := (yX9_close, cX9_close, 2, (some .int), 2, 6, 146, 0, 0, 9)
def zM_117 : zMt := (yX9_fault, cX9_fault, 2, (some .int), 2, 0, 0, 0, 0, 9)
def zM_118 : zMt := (yX9_hours, cX9_hours, 3, (some .int), 3, 1, 23, 0, 0, 9)
def zM_119 : zMt := (yX9_message, cX9_message, 3, (some .int), 3, 1, 22, 0, 0, 9)
def zM_120 : zMt := (yX9_thing, cX9_thing, 4, (some .int), 4, 6, 147, 0, 0, 9)
def zM_121 : zMt := (yX9_inside, cX9_inside, 4, (some .int), 4, 6, 147, 0, 0, 9)
def zM_122 : zMt := (yX9_there, cX9_there, 4, (some .int), 4, 6, 147, 0, 0, 9)
def zM_123 : zMt := (yX9_many, cX9_many, 3, (some .int), 3, 6, 147, 0, 0, 9)
def zM_124 : zMt := (yX9_trail, cX9_trail, 4, (some .int), 4, 6, 151, 0, 0, 9)
def zM_125 : zMt := (yX9_known, cX9_known, 3, (some .int), 3, 6, 147, 0, 0, 9)
def zM_126 : zMt := (yX9_changed, cX9_changed, 2, (some .int), 2, 7, 170, 0, 0, 9)
def zM_127 : zMt := (yX9_without, cX9_without, 3, (some .int), 3, 6, 151, 0, 0, 9)
def zM_128 : zMt := (yX9_refused, cX9_refused, 2, (some .int), 2, 1, 23, 0, 0, 9)
def zM_129 : zMt := (yX9_blamed, cX9_blamed, 2, (some .int), 2, 6, 153, 0, 0, 9)
def zM_130 : zMt := (yX9_twoBlamed, cX9_twoBlamed, 2, (some .int), 2, 7, 176, 0, 0, 9)
def zM_131 : zMt := (yX9_met, cX9_met, 4, (some .int), 4, 6, 152, 0, 0, 9)
def zM_132 : zMt := (yX9_wereIn, cX9_wereIn, 5, (some .int), 5, 6, 153, 0, 0, 9)
def zM_133 : zMt := (yX9_most, cX9_most, 2, (some .int), 2, 6, 148, 0, 0, 9)
def zM_134 : zMt := (yX9_still, cX9_still, 3, (some .int), 3, 6, 152, 0, 0, 9)
def zM_135 : zMt := (yX9_components, cX9_components, 3, (some .int), 3, 6, 147, 0, 0, 9)
def zM_136 : zMt := (yX9_dwelt, cX9_dwelt, 3, (some .int), 3, 6, 151, 0, 0, 9)
def zM_137 : zMt := (yX9_flow, cX9_flow, 3, (some .int), 3, 6, 151, 0, 0, 9)
def zM_138 : zMt := (yX9_cause, cX9_cause, 2, (some .int), 2, 6, 156, 0, 0, 9)
def zM_139 : zMt := (yX9_needs, cX9_needs, 3, (some .int), 3, 6, 156, 0, 0, 9)
def zM_140 : zMt := (yX9_ifAt, cX9_ifAt, 4, (some .int), 4, 6, 150, 0, 0, 9)
def zM_141 : zMt := (yX9_window, cX9_window, 3, (some .int), 3, 5, 131, 0, 0, 9)
def zM_142 : zMt := (yX9_lost, cX9_lost, 4, (some .int), 4, 6, 147, 0, 0, 9)
def zM_143 : zMt := (yX9_ifSwapped, cX9_ifSwapped, 4, (some .int), 4, 6, 150, 0, 0, 9)
def zM_144 : zMt := (yX9_busy, cX9_busy, 3, (some .int), 3, 6, 151, 0, 0, 9)
def zM_145 : zMt := (yX9_travelled, cX9_travelled, 2, (some .int), 2, 6, 150, 0, 0, 9)
def zM_146 : zMt := (yX9_clash, cX9_clash, 5, (some .int), 4, 1, 26, 0, 0, 9)
def zM_147 : zMt := (yX9_soonest, cX9_soonest, 7, (some .int), 4, 6, 147, 0, 0, 9)
def zM_148 : zMt := (yX9_count, cX9_count, 2, (some .int), 2, 2, 44, 0, 0, 9)
def zM_149 : zMt := (yX9_isThing, cX9_isThing, 1, (some .boolean), 1, 0, 0, 0, 0, 9)
def zM_150 : zMt := (yX9_isHour, cX9_isHour, 1, (some .boolean), 1, 0, 0, 0, 0, 9)
def zM_151 : zMt := (yX9_isPlaceOrSold, cX9_isPlaceOrSold, 2, (some .boolean), 2, 1, 21, 0, 0, 9)
def zM_152 : zMt := (yX9_isWhereabouts, cX9_isWhereabouts, 2, (some .boolean), 2, 2, 42, 0, 0, 9)
def zM_153 : zMt := (yX9_pick, cX9_pick, 5, (some .int), 2, 0, 0, 0, 0, 9)
def zM_154 : zMt := (yX10_init, cX10_init, 1, none, 1, 2, 45, 25, 2600, 10)
def zM_155 : zMt := (yX10_feed, cX10_feed, 8, (some .int), 6, 0, 0, 0, 0, 10)
def zM_156 : zMt := (yX10_here, cX10_here, 1, (some .int), 1, 0, 0, 0, 0, 10)
def zM_157 : zMt := (yX10_isSmall, cX10_isSmall, 1, (some .boolean), 1, 0, 0, 0, 0, 10)
def zM_158 : zMt := (yX10_isDigit, cX10_isDigit, 1, (some .boolean), 1, 0, 0, 0, 0, 10)
def zM_159 : zMt := (yX10_token, cX10_token, 2, none, 1, 5, 108, 0, 0, 10)
def zM_160 : zMt := (yX10_wordHere, cX10_wordHere, 4, (some .int), 1, 4, 85, 0, 0, 10)
def zM_161 : zMt := (yX10_wrong, cX10_wrong, 2, none, 2, 0, 0, 0, 0, 10)
def zM_162 : zMt := (yX10_goOn, cX10_goOn, 1, none, 1, 6, 129, 0, 0, 10)
def zM_163 : zMt := (yX10_number, cX10_number, 4, (some .int), 3, 7, 149, 0, 0, 10)
def zM_164 : zMt := (yX10_placeHere, cX10_placeHere, 2, (some .int), 1, 0, 0, 0, 0, 10)
def zM_165 : zMt := (yX10_readPlace, cX10_readPlace, 2, (some .int), 1, 7, 149, 0, 0, 10)
def zM_166 : zMt := (yX10_readNew, cX10_readNew, 2, none, 1, 7, 149, 0, 0, 10)
def zM_167 : zMt := (yX10_readRoad, cX10_readRoad, 4, none, 1, 8, 172, 0, 0, 10)
def zM_168 : zMt := (yX10_readFits, cX10_readFits, 3, none, 1, 8, 172, 0, 0, 10)
def zM_169 : zMt := (yX10_kindHere, cX10_kindHere, 3, (some .int), 1, 7, 149, 0, 0, 10)
def zM_170 : zMt := (yX10_readMessage, cX10_readMessage, 8, none, 1, 8, 172, 0, 0, 10)
def zM_171 : zMt := (yX10_readLine, cX10_readLine, 3, none, 2, 9, 199, 0, 0, 10)
def zM_172 : zMt := (yX10_freshText, cX10_freshText, 2, none, 1, 0, 0, 0, 0, 10)
def zM_173 : zMt := (yX10_reads, cX10_reads, 3, (some .int), 3, 10, 221, 0, 0, 10)
def zM_174 : zMt := (yX10_becomes, cX10_becomes, 2, none, 1, 1, 24, 0, 0, 10)
def zM_175 : zMt := (yX10_text, cX10_text, 2, (some .int), 2, 11, 243, 0, 0, 10)
def zM_176 : zMt := (yX10_tell, cX10_tell, 3, (some .int), 2, 11, 243, 0, 0, 10)
def zM_177 : zMt := (yX10_fault, cX10_fault, 2, (some .int), 2, 0, 0, 0, 0, 10)
def zM_178 : zMt := (yX10_laysWays, cX10_laysWays, 5, none, 1, 0, 0, 0, 0, 10)
def zM_179 : zMt := (yX10_hours, cX10_hours, 3, (some .int), 3, 1, 21, 0, 0, 10)
def zM_180 : zMt := (yX10_messages, cX10_messages, 1, (some .int), 1, 0, 0, 0, 0, 10)
def zM_181 : zMt := (yX10_told, cX10_told, 3, (some .int), 3, 0, 0, 0, 0, 10)
def zM_182 : zMt := (yX10_takesAll, cX10_takesAll, 2, none, 1, 1, 22, 0, 0, 10)
def zM_183 : zMt := (yX10_sorts, cX10_sorts, 3, none, 1, 1, 20, 0, 0, 10)
def zM_184 : zMt := (yX10_clears, cX10_clears, 2, none, 1, 2, 42, 0, 0, 10)
def zM_185 : zMt := (yX10_topOf, cX10_topOf, 3, (some .int), 2, 0, 0, 0, 0, 10)
def zM_186 : zMt := (yX10_isWithin, cX10_isWithin, 4, (some .boolean), 3, 0, 0, 0, 0, 10)
def zM_187 : zMt := (yX10_isHeld, cX10_isHeld, 3, (some .boolean), 2, 1, 23, 0, 0, 10)
def zM_188 : zMt := (yX10_manyIn, cX10_manyIn, 4, (some .int), 2, 0, 0, 0, 0, 10)
def zM_189 : zMt := (yX10_isSoon, cX10_isSoon, 5, (some .boolean), 4, 1, 22, 0, 0, 10)
def zM_190 : zMt := (yX10_isOneOf, cX10_isOneOf, 5, (some .boolean), 5, 0, 0, 0, 0, 10)
def zM_191 : zMt := (yX10_reason, cX10_reason, 7, (some .int), 2, 2, 46, 0, 0, 10)
def zM_192 : zMt := (yX10_looks, cX10_looks, 4, none, 2, 4, 96, 0, 0, 10)
def zM_193 : zMt := (yX10_lies, cX10_lies, 4, none, 4, 0, 0, 0, 0, 10)
def zM_194 : zMt := (yX10_takes, cX10_takes, 6, none, 6, 3, 71, 0, 0, 10)
def zM_195 : zMt := (yX10_comesOut, cX10_comesOut, 4, none, 4, 1, 23, 0, 0, 10)
def zM_196 : zMt := (yX10_scans, cX10_scans, 6, none, 4, 2, 46, 0, 0, 10)
def zM_197 : zMt := (yX10_ends, cX10_ends, 3, none, 2, 1, 23, 0, 0, 10)
def zM_198 : zMt := (yX10_runs, cX10_runs, 3, none, 2, 5, 119, 0, 0, 10)
def zM_199 : zMt := (yX10_runsAll, cX10_runsAll, 1, none, 1, 6, 141, 0, 0, 10)
def zM_200 : zMt := (yX10_runsTo, cX10_runsTo, 2, none, 2, 6, 141, 0, 0, 10)
def zM_201 : zMt := (yX10_whereIs, cX10_whereIs, 3, (some .int), 2, 1, 22, 0, 0, 10)
def zM_202 : zMt := (yX10_message, cX10_message, 3, (some .int), 3, 7, 161, 0, 0, 10)
def zM_203 : zMt := (yX10_orderOf, cX10_orderOf, 3, (some .int), 2, 0, 0, 0, 0, 10)
def zM_204 : zMt := (yX10_isLate, cX10_isLate, 3, (some .boolean), 2, 1, 22, 0, 0, 10)
def zM_205 : zMt := (yX10_isThing, cX10_isThing, 1, (some .boolean), 1, 0, 0, 0, 0, 10)
def zM_206 : zMt := (yX10_isHour, cX10_isHour, 1, (some .boolean), 1, 0, 0, 0, 0, 10)
def zM_207 : zMt := (yX10_allIn, cX10_allIn, 4, (some .int), 2, 1, 23, 0, 0, 10)
def zM_208 : zMt := (yX10_thing, cX10_thing, 4, (some .int), 4, 7, 162, 0, 0, 10)
def zM_209 : zMt := (yX10_inside, cX10_inside, 6, (some .int), 4, 7, 162, 0, 0, 10)
def zM_210 : zMt := (yX10_isPlace, cX10_isPlace, 2, (some .boolean), 2, 0, 0, 0, 0, 10)
def zM_211 : zMt := (yX10_there, cX10_there, 6, (some .int), 4, 7, 162, 0, 0, 10)
def zM_212 : zMt := (yX10_isSo, cX10_isSo, 3, (some .boolean), 3, 2, 44, 0, 0, 10)
def zM_213 : zMt := (yX10_many, cX10_many, 5, (some .int), 3, 7, 162, 0, 0, 10)
def zM_214 : zMt := (yX10_laysTrail, cX10_laysTrail, 5, none, 2, 5, 119, 0, 0, 10)
def zM_215 : zMt := (yX10_trail, cX10_trail, 4, (some .int), 4, 6, 143, 0, 0, 10)
def zM_216 : zMt := (yX10_latest, cX10_latest, 3, (some .int), 1, 1, 22, 0, 0, 10)
def zM_217 : zMt := (yX10_dwelt, cX10_dwelt, 5, (some .int), 3, 6, 143, 0, 0, 10)
def zM_218 : zMt := (yX10_flow, cX10_flow, 7, (some .int), 3, 6, 143, 0, 0, 10)
def zM_219 : zMt := (yX10_runsFirst, cX10_runsFirst, 3, none, 2, 6, 141, 0, 0, 10)
def zM_220 : zMt := (yX10_known, cX10_known, 3, (some .int), 3, 7, 163, 0, 0, 10)
def zM_221 : zMt := (yX10_changed, cX10_changed, 4, (some .int), 2, 7, 163, 0, 0, 10)
def zM_222 : zMt := (yX10_runsWithout, cX10_runsWithout, 3, none, 3, 6, 141, 0, 0, 10)
def zM_223 : zMt := (yX10_without, cX10_without, 3, (some .int), 3, 7, 163, 0, 0, 10)
def zM_224 : zMt := (yX10_refusedNow, cX10_refusedNow, 3, (some .int), 1, 0, 0, 0, 0, 10)
def zM_225 : zMt := (yX10_refused, cX10_refused, 4, (some .int), 2, 7, 161, 0, 0, 10)
def zM_226 : zMt := (yX10_blames, cX10_blames, 5, none, 2, 7, 163, 0, 0, 10)
def zM_227 : zMt := (yX10_blamed, cX10_blamed, 2, (some .int), 2, 8, 187, 0, 0, 10)
def zM_228 : zMt := (yX10_twoBlamed, cX10_twoBlamed, 2, (some .int), 2, 8, 187, 0, 0, 10)
def zM_229 : zMt := (yX10_isRefused, cX10_isRefused, 2, (some .boolean), 2, 7, 161, 0, 0, 10)
def zM_230 : zMt := (yX10_cause, cX10_cause, 3, (some .int), 2, 8, 182, 0, 0, 10)
def zM_231 : zMt := (yX10_needs, cX10_needs, 5, (some .int), 3, 8, 182, 0, 0, 10)
def zM_232 : zMt := (yX10_runsAt, cX10_runsAt, 3, none, 3, 6, 141, 0, 0, 10)
def zM_233 : zMt := (yX10_ifAt, cX10_ifAt, 4, (some .int), 4, 7, 163, 0, 0, 10)
def zM_234 : zMt := (yX10_window, cX10_window, 7, (some .int), 3, 7, 163, 0, 0, 10)
def zM_235 : zMt := (yX10_meets, cX10_meets, 2, none, 1, 1, 22, 0, 0, 10)
def zM_236 : zMt := (yX10_pick, cX10_pick, 4, (some .int), 2, 0, 0, 0, 0, 10)
def zM_237 : zMt := (yX10_met, cX10_met, 5, (some .int), 4, 7, 162, 0, 0, 10)
def zM_238 : zMt := (yX10_adds, cX10_adds, 3, none, 2, 1, 23, 0, 0, 10)
def zM_239 : zMt := (yX10_wereIn, cX10_wereIn, 7, (some .int), 5, 7, 162, 0, 0, 10)
def zM_240 : zMt := (yX10_most, cX10_most, 4, (some .int), 2, 5, 119, 0, 0, 10)
def zM_241 : zMt := (yX10_bitsIn, cX10_bitsIn, 5, (some .long), 2, 1, 23, 0, 0, 10)
def zM_242 : zMt := (yX10_still, cX10_still, 8, (some .int), 3, 5, 119, 0, 0, 10)
def zM_243 : zMt := (yX10_components, cX10_components, 6, (some .int), 3, 7, 162, 0, 0, 10)
def zM_244 : zMt := (yX10_clash, cX10_clash, 7, (some .int), 4, 7, 161, 0, 0, 10)
def zM_245 : zMt := (yX10_soonest, cX10_soonest, 7, (some .int), 4, 7, 162, 0, 0, 10)
def zM_246 : zMt := (yX10_lost, cX10_lost, 6, (some .int), 4, 7, 162, 0, 0, 10)
def zM_247 : zMt := (yX10_ifSwapped, cX10_ifSwapped, 5, (some .int), 4, 6, 141, 0, 0, 10)
def zM_248 : zMt := (yX10_manyAt, cX10_manyAt, 4, (some .int), 2, 2, 44, 0, 0, 10)
def zM_249 : zMt := (yX10_busy, cX10_busy, 7, (some .int), 3, 5, 119, 0, 0, 10)
def zM_250 : zMt := (yX10_travelled, cX10_travelled, 6, (some .int), 2, 6, 143, 0, 0, 10)
def zM_251 : zMt := (yX10_count, cX10_count, 2, (some .int), 2, 3, 66, 0, 0, 10)
def zM_252 : zMt := (yX10_lates, cX10_lates, 3, (some .int), 1, 2, 44, 0, 0, 10)
def zM_253 : zMt := (yJ13_bitCount_95d88, cJ13_bitCount_95d88, 2, (some .int), 1, 0, 0, 0, 0, 11)
def zM_254 : zMt := (yJ7_fill_53178, cJ7_fill_53178, 4, none, 2, 0, 0, 0, 0, 12)
def zMr : Lean.RArray zMt := (.branch 127 (.branch 63 (.branch 31 (.branch 15 (.branch 7 (.branch 3 (.branch 1 (.leaf zM_0) (.branch 2 (.leaf zM_1) (.leaf zM_2))) (.branch 5 (.branch 4 (.leaf zM_3) (.leaf zM_4)) (.branch 6 (.leaf zM_5) (.leaf zM_6)))) (.branch 11 (.branch 9 (.branch 8 (.leaf zM_7) (.leaf zM_8)) (.branch 10 (.leaf zM_9) (.leaf zM_10))) (.branch 13 (.branch 12 (.leaf zM_11) (.leaf zM_12)) (.branch 14 (.leaf zM_13) (.leaf zM_14))))) (.branch 23 (.branch 19 (.branch 17 (.branch 16 (.leaf zM_15) (.leaf zM_16)) (.branch 18 (.leaf zM_17) (.leaf zM_18))) (.branch 21 (.branch 20 (.leaf zM_19) (.leaf zM_20)) (.branch 22 (.leaf zM_21) (.leaf zM_22)))) (.branch 27 (.branch 25 (.branch 24 (.leaf zM_23) (.leaf zM_24)) (.branch 26 (.leaf zM_25) (.leaf zM_26))) (.branch 29 (.branch 28 (.leaf zM_27) (.leaf zM_28)) (.branch 30 (.leaf zM_29) (.leaf zM_30)))))) (.branch 47 (.branch 39 (.branch 35 (.branch 33 (.branch 32 (.leaf zM_31) (.leaf zM_32)) (.branch 34 (.leaf zM_33) (.leaf zM_34))) (.branch 37 (.branch 36 (.leaf zM_35) (.leaf zM_36)) (.branch 38 (.leaf zM_37) (.leaf zM_38)))) (.branch 43 (.branch 41 (.branch 40 (.leaf zM_39) (.leaf zM_40)) (.branch 42 (.leaf zM_41) (.leaf zM_42))) (.branch 45 (.branch 44 (.leaf zM_43) (.leaf zM_44)) (.branch 46 (.leaf zM_45) (.leaf zM_46))))) (.branch 55 (.branch 51 (.branch 49 (.branch 48 (.leaf zM_47) (.leaf zM_48)) (.branch 50 (.leaf zM_49) (.leaf zM_50))) (.branch 53 (.branch 52 (.leaf zM_51) (.leaf zM_52)) (.branch 54 (.leaf zM_53) (.leaf zM_54)))) (.branch 59 (.branch 57 (.branch 56 (.leaf zM_55) (.leaf zM_56)) (.branch 58 (.leaf zM_57) (.leaf zM_58))) (.branch 61 (.branch 60 (.leaf zM_59) (.leaf zM_60)) (.branch 62 (.leaf zM_61) (.leaf zM_62))))))) (.branch 95 (.branch 79 (.branch 71 (.branch 67 (.branch 65 (.branch 64 (.leaf zM_63) (.leaf zM_64)) (.branch 66 (.leaf zM_65) (.leaf zM_66))) (.branch 69 (.branch 68 (.leaf zM_67) (.leaf zM_68)) (.branch 70 (.leaf zM_69) (.leaf zM_70)))) (.branch 75 (.branch 73 (.branch 72 (.leaf zM_71) (.leaf zM_72)) (.branch 74 (.leaf zM_73) (.leaf zM_74))) (.branch 77 (.branch 76 (.leaf zM_75) (.leaf zM_76)) (.branch 78 (.leaf zM_77) (.leaf zM_78))))) (.branch 87 (.branch 83 (.branch 81 (.branch 80 (.leaf zM_79) (.leaf zM_80)) (.branch 82 (.leaf zM_81) (.leaf zM_82))) (.branch 85 (.branch 84 (.leaf zM_83) (.leaf zM_84)) (.branch 86 (.leaf zM_85) (.leaf zM_86)))) (.branch 91 (.branch 89 (.branch 88 (.leaf zM_87) (.leaf zM_88)) (.branch 90 (.leaf zM_89) (.leaf zM_90))) (.branch 93 (.branch 92 (.leaf zM_91) (.leaf zM_92)) (.branch 94 (.leaf zM_93) (.leaf zM_94)))))) (.branch 111 (.branch 103 (.branch 99 (.branch 97 (.branch 96 (.leaf zM_95) (.leaf zM_96)) (.branch 98 (.leaf zM_97) (.leaf zM_98))) (.branch 101 (.branch 100 (.leaf zM_99) (.leaf zM_100)) (.branch 102 (.leaf zM_101) (.leaf zM_102)))) (.branch 107 (.branch 105 (.branch 104 (.leaf zM_103) (.leaf zM_104)) (.branch 106 (.leaf zM_105) (.leaf zM_106))) (.branch 109 (.branch 108 (.leaf zM_107) (.leaf zM_108)) (.branch 110 (.leaf zM_109) (.leaf zM_110))))) (.branch 119 (.branch 115 (.branch 113 (.branch 112 (.leaf zM_111) (.leaf zM_112)) (.branch 114 (.leaf zM_113) (.leaf zM_114))) (.branch 117 (.branch 116 (.leaf zM_115) (.leaf zM_116)) (.branch 118 (.leaf zM_117) (.leaf zM_118)))) (.branch 123 (.branch 121 (.branch 120 (.leaf zM_119) (.leaf zM_120)) (.branch 122 (.leaf zM_121) (.leaf zM_122))) (.branch 125 (.branch 124 (.leaf zM_123) (.leaf zM_124)) (.branch 126 (.leaf zM_125) (.leaf zM_126)))))))) (.branch 191 (.branch 159 (.branch 143 (.branch 135 (.branch 131 (.branch 129 (.branch 128 (.leaf zM_127) (.leaf zM_128)) (.branch 130 (.leaf zM_129) (.leaf zM_130))) (.branch 133 (.branch 132 (.leaf zM_131) (.leaf zM_132)) (.branch 134 (.leaf zM_133) (.leaf zM_134)))) (.branch 139 (.branch 137 (.branch 136 (.leaf zM_135) (.leaf zM_136)) (.branch 138 (.leaf zM_137) (.leaf zM_138))) (.branch 141 (.branch 140 (.leaf zM_139) (.leaf zM_140)) (.branch 142 (.leaf zM_141) (.leaf zM_142))))) (.branch 151 (.branch 147 (.branch 145 (.branch 144 (.leaf zM_143) (.leaf zM_144)) (.branch 146 (.leaf zM_145) (.leaf zM_146))) (.branch 149 (.branch 148 (.leaf zM_147) (.leaf zM_148)) (.branch 150 (.leaf zM_149) (.leaf zM_150)))) (.branch 155 (.branch 153 (.branch 152 (.leaf zM_151) (.leaf zM_152)) (.branch 154 (.leaf zM_153) (.leaf zM_154))) (.branch 157 (.branch 156 (.leaf zM_155) (.leaf zM_156)) (.branch 158 (.leaf zM_157) (.leaf zM_158)))))) (.branch 175 (.branch 167 (.branch 163 (.branch 161 (.branch 160 (.leaf zM_159) (.leaf zM_160)) (.branch 162 (.leaf zM_161) (.leaf zM_162))) (.branch 165 (.branch 164 (.leaf zM_163) (.leaf zM_164)) (.branch 166 (.leaf zM_165) (.leaf zM_166)))) (.branch 171 (.branch 169 (.branch 168 (.leaf zM_167) (.leaf zM_168)) (.branch 170 (.leaf zM_169) (.leaf zM_170))) (.branch 173 (.branch 172 (.leaf zM_171) (.leaf zM_172)) (.branch 174 (.leaf zM_173) (.leaf zM_174))))) (.branch 183 (.branch 179 (.branch 177 (.branch 176 (.leaf zM_175) (.leaf zM_176)) (.branch 178 (.leaf zM_177) (.leaf zM_178))) (.branch 181 (.branch 180 (.leaf zM_179) (.leaf zM_180)) (.branch 182 (.leaf zM_181) (.leaf zM_182)))) (.branch 187 (.branch 185 (.branch 184 (.leaf zM_183) (.leaf zM_184)) (.branch 186 (.leaf zM_185) (.leaf zM_186))) (.branch 189 (.branch 188 (.leaf zM_187) (.leaf zM_188)) (.branch 190 (.leaf zM_189) (.leaf zM_190))))))) (.branch 223 (.branch 207 (.branch 199 (.branch 195 (.branch 193 (.branch 192 (.leaf zM_191) (.leaf zM_192)) (.branch 194 (.leaf zM_193) (.leaf zM_194))) (.branch 197 (.branch 196 (.leaf zM_195) (.leaf zM_196)) (.branch 198 (.leaf zM_197) (.leaf zM_198)))) (.branch 203 (.branch 201 (.branch 200 (.leaf zM_199) (.leaf zM_200)) (.branch 202 (.leaf zM_201) (.leaf zM_202))) (.branch 205 (.branch 204 (.leaf zM_203) (.leaf zM_204)) (.branch 206 (.leaf zM_205) (.leaf zM_206))))) (.branch 215 (.branch 211 (.branch 209 (.branch 208 (.leaf zM_207) (.leaf zM_208)) (.branch 210 (.leaf zM_209) (.leaf zM_210))) (.branch 213 (.branch 212 (.leaf zM_211) (.leaf zM_212)) (.branch 214 (.leaf zM_213) (.leaf zM_214)))) (.branch 219 (.branch 217 (.branch 216 (.leaf zM_215) (.leaf zM_216)) (.branch 218 (.leaf zM_217) (.leaf zM_218))) (.branch 221 (.branch 220 (.leaf zM_219) (.leaf zM_220)) (.branch 222 (.leaf zM_221) (.leaf zM_222)))))) (.branch 239 (.branch 231 (.branch 227 (.branch 225 (.branch 224 (.leaf zM_223) (.leaf zM_224)) (.branch 226 (.leaf zM_225) (.leaf zM_226))) (.branch 229 (.branch 228 (.leaf zM_227) (.leaf zM_228)) (.branch 230 (.leaf zM_229) (.leaf zM_230)))) (.branch 235 (.branch 233 (.branch 232 (.leaf zM_231) (.leaf zM_232)) (.branch 234 (.leaf zM_233) (.leaf zM_234))) (.branch 237 (.branch 236 (.leaf zM_235) (.leaf zM_236)) (.branch 238 (.leaf zM_237) (.leaf zM_238))))) (.branch 247 (.branch 243 (.branch 241 (.branch 240 (.leaf zM_239) (.leaf zM_240)) (.branch 242 (.leaf zM_241) (.leaf zM_242))) (.branch 245 (.branch 244 (.leaf zM_243) (.leaf zM_244)) (.branch 246 (.leaf zM_245) (.leaf zM_246)))) (.branch 251 (.branch 249 (.branch 248 (.leaf zM_247) (.leaf zM_248)) (.branch 250 (.leaf zM_249) (.leaf zM_250))) (.branch 253 (.branch 252 (.leaf zM_251) (.leaf zM_252)) (.branch 254 (.leaf zM_253) (.leaf zM_254)))))))))
def zM (j : Nat) : zMt := zMr.get j
def zDt : Lean.RArray (List Value) := (.branch 5 (.branch 2 (.branch 1 (.leaf [.null, .null, .null, .null, .null, .int 0, .int 0, .int 0, .int 0, .int 0, .int 0, .int 0]) (.leaf [.null, .null, .null, .null, .null, .null, .null, .int 0, .int 0, .int 0, .int 0, .int 0, .int 0])) (.branch 3 (.leaf [.null, .null, .int 0]) (.branch 4 (.leaf [.null, .null, .null, .null, .int 0, .int 0, .int 0]) (.leaf [.null, .null, .int 0, .int 0, .int 0, .int 0, .int 0, .int 0])))) (.branch 8 (.branch 6 (.leaf [.null, .null, .null, .null, .null]) (.branch 7 (.leaf [.null, .int 0]) (.leaf [.null, .null, .null, .null, .int 0, .int 0, .int 0, .int 0]))) (.branch 9 (.leaf [.null, .null, .null, .null, .null, .null]) (.branch 10 (.leaf [.null, .null, .null, .null, .null, .null, .null]) (.leaf [.int 0, .null, .int 0, .null, .null, .null, .null, .int 0, .int 0, .int 0, .int 0, .int 0, .int 0, .int 0, .int 0, .int 0, .int 0, .int 0, .int 0, .int 0, .null, .null, .null, .null, .null, .null, .null, .null, .null, .null, .null, .null, .null, .null, .int 0, .null, .null, .null, .null, .int 0, .null, .int 0, .int 0, .int 0, .null])))))
def zD (c : Nat) : List Value := zDt.get c
def zcnt : Lean.RArray String := (.branch 6 (.branch 3 (.branch 1 (.leaf RX0) (.branch 2 (.leaf RX1) (.leaf RX2))) (.branch 4 (.leaf RX3) (.branch 5 (.leaf RX4) (.leaf RX5)))) (.branch 9 (.branch 7 (.leaf RX6) (.branch 8 (.leaf RX7) (.leaf RX8))) (.branch 11 (.branch 10 (.leaf RX9) (.leaf RX10)) (.branch 12 (.leaf RJ13) (.leaf RJ7)))))
def zcn (c : Nat) : String := zcnt.get c
def zLF : List (Nat × Nat × Nat × Nat) := [(9, 10, 9, 0), (9, 19, 9, 1), (9, 23, 9, 2), (9, 31, 9, 3), (9, 40, 9, 4), (9, 49, 9, 5), (9, 56, 9, 6), (0, 12, 0, 0), (0, 18, 0, 1), (0, 21, 0, 2), (0, 30, 0, 3), (0, 35, 0, 4), (0, 36, 0, 5), (0, 40, 0, 6), (0, 43, 0, 8), (0, 67, 0, 7), (0, 74, 0, 11), (0, 94, 0, 9), (0, 97, 0, 10), (1, 9, 1, 0), (1, 15, 1, 1), (1, 18, 1, 2), (1, 21, 1, 3), (1, 24, 1, 4), (1, 27, 1, 5), (1, 30, 1, 6), (1, 33, 1, 10), (1, 37, 1, 11), (1, 40, 1, 7), (1, 43, 1, 8), (1, 46, 1, 9), (1, 49, 1, 12), (2, 9, 2, 0), (2, 15, 2, 1), (2, 24, 2, 2), (3, 12, 3, 0), (3, 21, 3, 1), (3, 25, 3, 2), (3, 35, 3, 3), (3, 87, 3, 4), (3, 90, 3, 5), (3, 93, 3, 6), (4, 9, 4, 6), (4, 20, 4, 0), (4, 24, 4, 1), (4, 32, 4, 5), (4, 35, 4, 7), (4, 41, 4, 3), (4, 53, 4, 2), (4, 63, 4, 4), (5, 12, 5, 0), (5, 21, 5, 1), (5, 25, 5, 2), (5, 28, 5, 3), (5, 32, 5, 4), (6, 9, 6, 0), (6, 15, 6, 1), (7, 9, 7, 0), (7, 15, 7, 1), (7, 18, 7, 2), (7, 21, 7, 3), (7, 40, 7, 5), (7, 43, 7, 6), (7, 46, 7, 4), (7, 50, 7, 7), (8, 9, 8, 0), (8, 15, 8, 1), (8, 18, 8, 2), (8, 21, 8, 3), (8, 24, 8, 4), (8, 27, 8, 5), (10, 7, 10, 1), (10, 13, 10, 3), (10, 16, 10, 4), (10, 19, 10, 5), (10, 22, 10, 6), (10, 25, 10, 16), (10, 29, 10, 20), (10, 32, 10, 21), (10, 36, 10, 22), (10, 39, 10, 23), (10, 42, 10, 24), (10, 45, 10, 25), (10, 48, 10, 26), (10, 51, 10, 27), (10, 54, 10, 28), (10, 57, 10, 29), (10, 60, 10, 30), (10, 63, 10, 31), (10, 66, 10, 32), (10, 69, 10, 33), (10, 72, 10, 35), (10, 75, 10, 36), (10, 78, 10, 37), (10, 81, 10, 38), (10, 84, 10, 40), (10, 87, 10, 44), (10, 96, 10, 0), (10, 99, 10, 2), (10, 102, 10, 8), (10, 105, 10, 7), (10, 112, 10, 9), (10, 115, 10, 10), (10, 122, 10, 12), (10, 128, 10, 11), (10, 145, 10, 13), (10, 148, 10, 14), (10, 171, 10, 17), (10, 190, 10, 19), (10, 198, 10, 15), (10, 201, 10, 18), (10, 220, 10, 34), (10, 307, 10, 39), (10, 326, 10, 41), (10, 329, 10, 43), (10, 332, 10, 42)]
def zLFn : List (Nat × Nat × Nat × Nat) := [(9, 68, 6, 1), (9, 95, 4, 7), (9, 98, 4, 5), (9, 101, 4, 6), (9, 121, 1, 2), (9, 125, 1, 3), (9, 128, 1, 4), (9, 131, 1, 5), (9, 134, 5, 3), (9, 137, 5, 0), (9, 191, 1, 9), (9, 210, 0, 7), (9, 213, 0, 8), (9, 219, 0, 11), (9, 222, 0, 9), (9, 225, 0, 10), (9, 264, 3, 6), (9, 267, 3, 4), (9, 270, 3, 5), (9, 297, 1, 7), (9, 300, 1, 8), (9, 307, 1, 10), (9, 310, 1, 11), (0, 24, 5, 4), (0, 31, 5, 0), (0, 50, 2, 2), (0, 59, 2, 1), (2, 18, 1, 9), (2, 25, 1, 2), (3, 29, 5, 4), (3, 36, 5, 0), (3, 39, 2, 2), (3, 54, 2, 1), (3, 58, 1, 2), (3, 70, 5, 3), (3, 77, 2, 0), (3, 99, 1, 3), (4, 50, 7, 4), (4, 56, 7, 0), (4, 60, 7, 2), (4, 66, 7, 1), (4, 85, 1, 7), (4, 97, 1, 8), (4, 110, 1, 12), (4, 114, 1, 10), (4, 117, 1, 11), (4, 120, 1, 9), (5, 46, 2, 2), (5, 50, 2, 1), (5, 118, 1, 3), (5, 121, 1, 4), (7, 25, 6, 1), (7, 61, 6, 0), (8, 58, 1, 4), (8, 63, 1, 3), (8, 74, 1, 5), (8, 87, 1, 10), (8, 91, 1, 11), (8, 104, 1, 6)]
def zLM : List (Nat × Nat × Nat × Nat) := [(0, 63, 6, 0), (0, 70, 7, 0), (0, 77, 4, 0), (0, 90, 5, 0), (1, 53, 254, 1), (1, 65, 18, 0), (1, 69, 17, 0), (1, 73, 11, 0), (1, 77, 20, 0), (3, 102, 36, 0), (3, 43, 30, 0), (3, 78, 34, 0), (4, 100, 49, 0), (4, 103, 48, 0), (4, 121, 46, 0), (4, 125, 47, 0), (4, 38, 39, 0), (4, 44, 40, 0), (4, 47, 41, 0), (4, 69, 42, 0), (4, 72, 43, 0), (4, 75, 44, 0), (4, 78, 45, 0), (4, 81, 50, 0), (5, 53, 53, 0), (5, 64, 54, 0), (5, 67, 56, 0), (5, 88, 253, 1), (7, 47, 75, 0), (7, 53, 76, 0), (7, 57, 74, 0), (7, 65, 79, 0), (7, 69, 77, 0), (7, 72, 80, 0), (7, 75, 78, 0), (7, 78, 81, 0), (8, 101, 90, 0), (8, 105, 99, 0), (8, 109, 100, 0), (8, 113, 87, 0), (8, 116, 101, 0), (8, 119, 102, 0), (8, 122, 91, 0), (8, 125, 92, 0), (8, 128, 104, 0), (8, 132, 253, 1), (8, 138, 111, 0), (8, 30, 254, 1), (8, 42, 88, 0), (8, 46, 85, 0), (8, 50, 89, 0), (8, 54, 94, 0), (8, 66, 98, 0), (8, 70, 86, 0), (8, 77, 95, 0), (8, 80, 97, 0), (8, 83, 96, 0), (8, 94, 103, 0), (9, 155, 149, 1), (9, 158, 150, 1), (9, 174, 153, 1), (9, 178, 152, 0), (9, 245, 151, 0), (9, 79, 116, 0), (10, 108, 156, 0), (10, 118, 157, 1), (10, 125, 160, 0), (10, 131, 158, 1), (10, 151, 159, 0), (10, 154, 161, 0), (10, 158, 162, 0), (10, 161, 164, 0), (10, 164, 165, 0), (10, 167, 163, 0), (10, 175, 169, 0), (10, 178, 170, 0), (10, 181, 166, 0), (10, 184, 167, 0), (10, 187, 168, 0), (10, 194, 171, 0), (10, 204, 178, 0), (10, 207, 173, 0), (10, 211, 210, 0), (10, 214, 180, 0), (10, 217, 181, 0), (10, 223, 183, 0), (10, 226, 186, 0), (10, 230, 185, 0), (10, 234, 188, 0), (10, 237, 190, 0), (10, 241, 189, 0), (10, 245, 187, 0), (10, 248, 191, 0), (10, 251, 194, 0), (10, 255, 193, 0), (10, 259, 195, 0), (10, 262, 196, 0), (10, 265, 197, 0), (10, 268, 184, 0), (10, 271, 192, 0), (10, 274, 182, 0), (10, 277, 198, 0), (10, 280, 199, 0), (10, 283, 203, 0), (10, 286, 204, 0), (10, 289, 205, 1), (10, 292, 206, 1), (10, 295, 200, 0), (10, 298, 201, 0), (10, 301, 207, 0), (10, 304, 212, 0), (10, 310, 214, 0), (10, 313, 216, 0), (10, 316, 219, 0), (10, 319, 222, 0), (10, 323, 224, 0), (10, 335, 226, 0), (10, 338, 229, 0), (10, 341, 232, 0), (10, 344, 235, 0), (10, 347, 236, 1), (10, 351, 238, 0), (10, 354, 241, 0), (10, 358, 248, 0), (10, 361, 252, 0), (10, 90, 172, 0), (10, 93, 174, 0)]
def zLMn : List (Nat × Nat × Nat × Nat) := [(0, 100, 27, 0), (0, 104, 93, 0), (0, 11, 82, 2), (0, 47, 83, 0), (0, 55, 84, 0), (3, 11, 82, 2), (3, 20, 23, 2), (3, 47, 91, 0), (3, 51, 83, 0), (3, 63, 93, 0), (3, 67, 26, 0), (3, 73, 24, 0), (3, 81, 25, 0), (3, 84, 27, 0), (3, 96, 94, 0), (4, 106, 15, 0), (4, 128, 16, 0), (4, 17, 72, 2), (4, 28, 73, 0), (4, 90, 13, 0), (4, 94, 14, 0), (5, 103, 88, 0), (5, 107, 85, 0), (5, 11, 23, 2), (5, 111, 107, 0), (5, 115, 104, 0), (5, 20, 82, 2), (5, 36, 24, 0), (5, 40, 25, 0), (5, 43, 83, 0), (5, 57, 27, 0), (5, 60, 93, 0), (5, 71, 84, 0), (5, 75, 91, 0), (5, 78, 22, 0), (5, 84, 105, 0), (5, 94, 17, 0), (8, 97, 17, 0), (9, 104, 11, 0), (9, 107, 17, 0), (9, 111, 12, 0), (9, 141, 26, 0), (9, 147, 20, 0), (9, 161, 55, 0), (9, 165, 109, 0), (9, 170, 104, 0), (9, 18, 8, 2), (9, 181, 105, 0), (9, 184, 110, 0), (9, 187, 59, 0), (9, 192, 56, 0), (9, 195, 91, 0), (9, 198, 57, 0), (9, 201, 29, 0), (9, 204, 58, 0), (9, 207, 2, 0), (9, 216, 3, 0), (9, 228, 64, 0), (9, 232, 65, 0), (9, 236, 66, 0), (9, 239, 67, 0), (9, 242, 108, 0), (9, 248, 60, 0), (9, 251, 61, 0), (9, 254, 31, 0), (9, 257, 32, 0), (9, 261, 35, 0), (9, 273, 106, 0), (9, 276, 33, 0), (9, 279, 63, 0), (9, 28, 37, 2), (9, 283, 62, 0), (9, 286, 68, 0), (9, 289, 92, 0), (9, 303, 21, 0), (9, 37, 51, 2), (9, 46, 28, 2), (9, 55, 0, 2), (9, 60, 70, 0), (9, 64, 71, 0), (9, 72, 9, 0), (9, 75, 38, 0), (9, 83, 10, 0), (9, 86, 19, 0), (9, 89, 52, 0), (9, 9, 69, 2), (9, 92, 1, 0)]
def zLa : List (Nat × Nat) := [(1, 59), (2, 26), (8, 36)]
def zLo : List (Nat × Nat) := [(0, 3), (1, 3), (2, 3), (3, 3), (4, 3), (5, 3), (6, 3), (7, 3), (8, 3), (9, 1), (10, 1)]
def zLx : List (Nat × Nat) := [(0, 87), (1, 80), (5, 98), (7, 37), (9, 292)]
def zLn : List (Nat × Nat) := [(0, 81), (7, 31)]
def zLw : List (Nat × Nat × Nat) := [(9, 7, 6), (9, 16, 1), (9, 26, 4), (9, 35, 5), (9, 44, 3), (9, 53, 0), (0, 9, 8), (3, 9, 8), (3, 18, 2), (4, 15, 7), (5, 9, 2), (5, 18, 8)]
def zLi : List (Nat × Nat × Nat) := [(7, 81, 100000), (10, 193, 100000)]
def zLl : List (Nat × Nat × Nat) := [(11, 314, 6148914691236517205), (11, 316, 3689348814741910323), (11, 318, 1085102592571150095)]
def zLt : List (Nat × Nat × Nat × Nat × Nat) := [(7, 82, 0, 84, 0), (7, 82, 0, 89, 1), (10, 134, 1, 136, 0), (10, 134, 1, 141, 1)]
def sTx : List String := ["place road fits at make unit carton pallet pack out open seal move scan sell back end free ", "make pack out open seal move scan sell back end free place road fits at unit carton pallet "]
def sBy : List (List Int32) := [[112, 108, 97, 99, 101, 32, 114, 111, 97, 100, 32, 102, 105, 116, 115, 32, 97, 116, 32, 109, 97, 107, 101, 32, 117, 110, 105, 116, 32, 99, 97, 114, 116, 111, 110, 32, 112, 97, 108, 108, 101, 116, 32, 112, 97, 99, 107, 32, 111, 117, 116, 32, 111, 112, 101, 110, 32, 115, 101, 97, 108, 32, 109, 111, 118, 101, 32, 115, 99, 97, 110, 32, 115, 101, 108, 108, 32, 98, 97, 99, 107, 32, 101, 110, 100, 32, 102, 114, 101, 101, 32], [109, 97, 107, 101, 32, 112, 97, 99, 107, 32, 111, 117, 116, 32, 111, 112, 101, 110, 32, 115, 101, 97, 108, 32, 109, 111, 118, 101, 32, 115, 99, 97, 110, 32, 115, 101, 108, 108, 32, 98, 97, 99, 107, 32, 101, 110, 100, 32, 102, 114, 101, 101, 32, 112, 108, 97, 99, 101, 32, 114, 111, 97, 100, 32, 102, 105, 116, 115, 32, 97, 116, 32, 117, 110, 105, 116, 32, 99, 97, 114, 116, 111, 110, 32, 112, 97, 108, 108, 101, 116, 32]]
def sLn : List Nat := [91, 91]
end
section
/-! WHAT THE TABLES' WORDS SAY of the mini machine's tables, by program (wip/gen.py) -/
def zgd (w : Cond) : Bool := (w.onTables && w.keeps) || (match w with | .arrayClass _ => true | _ => false)
def znd (w : Cond) : Bool := match w with | .fieldLinkNest _ _ _ _ _ _ => true | .methodLinkNest _ _ _ _ => true | _ => false
def zBG : List Cond := lw_tbl.filter zgd
def zNS : List Cond := lw_tbl.filter znd
theorem zT {w : Cond} (i : Nat) (h : tables_1[i]? = some w) (g : zgd w = true) : w ∈ zBG := List.mem_filter.mpr ⟨List.mem_append_right _ (List.mem_of_getElem? h), g⟩
theorem zS {w : Cond} (i : Nat) (h : (k2_sels lw_privs)[i]? = some w) (g : zgd w = true) : w ∈ zBG := List.mem_filter.mpr ⟨List.mem_append_left _ (List.mem_of_getElem? h), g⟩
theorem zE {w : Cond} (i : Nat) (h : tables_1[i]? = some w) (g : znd w = true) : w ∈ zNS := List.mem_filter.mpr ⟨List.mem_append_right _ (List.mem_of_getElem? h), g⟩
def zFp (r : Nat × Nat × Nat × Nat) : Prop := ∃ (C : String) (T : u_T) (N : Nat), vwCl[r.2.2.1]? = some (C, T, N) ∧ r.2.2.2 < N ∧ (T r.2.2.2).1 = C ∧ Cond.fieldLink (zcn r.1) r.2.1 C (T r.2.2.2).2.1 (T r.2.2.2).2.2.1 ∈ zBG
def zFn (r : Nat × Nat × Nat × Nat) : Prop := ∃ (C : String) (T : u_T) (N : Nat), vwCl[r.2.2.1]? = some (C, T, N) ∧ r.2.2.2 < N ∧ (T r.2.2.2).1 = C ∧ ∃ h : String, Cond.fieldLinkNest (zcn r.1) r.2.1 C (T r.2.2.2).2.1 (T r.2.2.2).2.2.1 h ∈ zNS
def zMp (r : Nat × Nat × Nat × Nat) : Prop := Cond.methodLink (zcn r.1) r.2.1 (zM r.2.2.1).1 ∈ zBG
def zMn (r : Nat × Nat × Nat × Nat) : Prop := ∃ h : String, Cond.methodLinkNest (zcn r.1) r.2.1 (zM r.2.2.1).1 h ∈ zNS
theorem zLF_ok_0 : ∀ r ∈ ([(9, 10, 9, 0), (9, 19, 9, 1), (9, 23, 9, 2), (9, 31, 9, 3), (9, 40, 9, 4), (9, 49, 9, 5), (9, 56, 9, 6), (0, 12, 0, 0), (0, 18, 0, 1), (0, 21, 0, 2), (0, 30, 0, 3), (0, 35, 0, 4), (0, 36, 0, 5), (0, 40, 0, 6), (0, 43, 0, 8), (0, 67, 0, 7), (0, 74, 0, 11), (0, 94, 0, 9), (0, 97, 0, 10), (1, 9, 1, 0)] : List _), zFp r := List.forall_mem_cons.mpr ⟨⟨_, _, _, rfl, by decide, rfl, zT 355 (by decide +kernel) rfl⟩, List.forall_mem_cons.mpr ⟨⟨_, _, _, rfl, by decide, rfl, zT 356 (by decide +kernel) rfl⟩, List.forall_mem_cons.mpr ⟨⟨_, _, _, rfl, by decide, rfl, zT 357 (by decide +kernel) rfl⟩, List.forall_mem_cons.mpr ⟨⟨_, _, _, rfl, by decide, rfl, zT 358 (by decide +kernel) rfl⟩, List.forall_mem_cons.mpr ⟨⟨_, _, _, rfl, by decide, rfl, zT 359 (by decide +kernel) rfl⟩, List.forall_mem_cons.mpr ⟨⟨_, _, _, rfl, by decide, rfl, zT 360 (by decide +kernel) rfl⟩, List.forall_mem_cons.mpr ⟨⟨_, _, _, rfl, by decide, rfl, zT 361 (by decide +kernel) rfl⟩, List.forall_mem_cons.mpr ⟨⟨_, _, _, rfl, by decide, rfl, zT 313 (by decide +kernel) rfl⟩, List.forall_mem_cons.mpr ⟨⟨_, _, _, rfl, by decide, rfl, zT 314 (by decide +kernel) rfl⟩, List.forall_mem_cons.mpr ⟨⟨_, _, _, rfl, by decide, rfl, zT 315 (by decide +kernel) rfl⟩, List.forall_mem_cons.mpr ⟨⟨_, _, _, rfl, by decide, rfl, zT 316 (by decide +kernel) rfl⟩, List.forall_mem_cons.mpr ⟨⟨_, _, _, rfl, by decide, rfl, zT 317 (by decide +kernel) rfl⟩, List.forall_mem_cons.mpr ⟨⟨_, _, _, rfl, by decide, rfl, zT 318 (by decide +kernel) rfl⟩, List.forall_mem_cons.mpr ⟨⟨_, _, _, rfl, by decide, rfl, zT 319 (by decide +kernel) rfl⟩, List.forall_mem_cons.mpr ⟨⟨_, _, _, rfl, by decide, rfl, zT 322 (by decide +kernel) rfl⟩, List.forall_mem_cons.mpr ⟨⟨_, _, _, rfl, by decide, rfl, zT 320 (by decide +kernel) rfl⟩, List.forall_mem_cons.mpr ⟨⟨_, _, _, rfl, by decide, rfl, zT 328 (by decide +kernel) rfl⟩, List.forall_mem_cons.mpr ⟨⟨_, _, _, rfl, by decide, rfl, zT 324 (by decide +kernel) rfl⟩, List.forall_mem_cons.mpr ⟨⟨_, _, _, rfl, by decide, rfl, zT 326 (by decide +kernel) rfl⟩, List.forall_mem_cons.mpr ⟨⟨_, _, _, rfl, by decide, rfl, zT 56 (by decide +kernel) rfl⟩, fun _ h => absurd h List.not_mem_nil⟩⟩⟩⟩⟩⟩⟩⟩⟩⟩⟩⟩⟩⟩⟩⟩⟩⟩⟩⟩
theorem zLF_ok_1 : ∀ r ∈ ([(1, 15, 1, 1), (1, 18, 1, 2), (1, 21, 1, 3), (1, 24, 1, 4), (1, 27, 1, 5), (1, 30, 1, 6), (1, 33, 1, 10), (1, 37, 1, 11), (1, 40, 1, 7), (1, 43, 1, 8), (1, 46, 1, 9), (1, 49, 1, 12), (2, 9, 2, 0), (2, 15, 2, 1), (2, 24, 2, 2), (3, 12, 3, 0), (3, 21, 3, 1), (3, 25, 3, 2), (3, 35, 3, 3), (3, 87, 3, 4)] : List _), zFp r := List.forall_mem_cons.mpr ⟨⟨_, _, _, rfl, by decide, rfl, zT 57 (by decide +kernel) rfl⟩, List.forall_mem_cons.mpr ⟨⟨_, _, _, rfl, by decide, rfl, zT 58 (by decide +kernel) rfl⟩, List.forall_mem_cons.mpr ⟨⟨_, _, _, rfl, by decide, rfl, zT 62 (by decide +kernel) rfl⟩, List.forall_mem_cons.mpr ⟨⟨_, _, _, rfl, by decide, rfl, zT 67 (by decide +kernel) rfl⟩, List.forall_mem_cons.mpr ⟨⟨_, _, _, rfl, by decide, rfl, zT 71 (by decide +kernel) rfl⟩, List.forall_mem_cons.mpr ⟨⟨_, _, _, rfl, by decide, rfl, zT 74 (by decide +kernel) rfl⟩, List.forall_mem_cons.mpr ⟨⟨_, _, _, rfl, by decide, rfl, zT 86 (by decide +kernel) rfl⟩, List.forall_mem_cons.mpr ⟨⟨_, _, _, rfl, by decide, rfl, zT 90 (by decide +kernel) rfl⟩, List.forall_mem_cons.mpr ⟨⟨_, _, _, rfl, by decide, rfl, zT 76 (by decide +kernel) rfl⟩, List.forall_mem_cons.mpr ⟨⟨_, _, _, rfl, by decide, rfl, zT 79 (by decide +kernel) rfl⟩, List.forall_mem_cons.mpr ⟨⟨_, _, _, rfl, by decide, rfl, zT 83 (by decide +kernel) rfl⟩, List.forall_mem_cons.mpr ⟨⟨_, _, _, rfl, by decide, rfl, zT 94 (by decide +kernel) rfl⟩, List.forall_mem_cons.mpr ⟨⟨_, _, _, rfl, by decide, rfl, zT 205 (by decide +kernel) rfl⟩, List.forall_mem_cons.mpr ⟨⟨_, _, _, rfl, by decide, rfl, zT 207 (by decide +kernel) rfl⟩, List.forall_mem_cons.mpr ⟨⟨_, _, _, rfl, by decide, rfl, zT 211 (by decide +kernel) rfl⟩, List.forall_mem_cons.mpr ⟨⟨_, _, _, rfl, by decide, rfl, zT 280 (by decide +kernel) rfl⟩, List.forall_mem_cons.mpr ⟨⟨_, _, _, rfl, by decide, rfl, zT 281 (by decide +kernel) rfl⟩, List.forall_mem_cons.mpr ⟨⟨_, _, _, rfl, by decide, rfl, zT 282 (by decide +kernel) rfl⟩, List.forall_mem_cons.mpr ⟨⟨_, _, _, rfl, by decide, rfl, zT 283 (by decide +kernel) rfl⟩, List.forall_mem_cons.mpr ⟨⟨_, _, _, rfl, by decide, rfl, zT 284 (by decide +kernel) rfl⟩, fun _ h => absurd h List.not_mem_nil⟩⟩⟩⟩⟩⟩⟩⟩⟩⟩⟩⟩⟩⟩⟩⟩⟩⟩⟩⟩
theorem zLF_ok_2 : ∀ r ∈ ([(3, 90, 3, 5), (3, 93, 3, 6), (4, 9, 4, 6), (4, 20, 4, 0), (4, 24, 4, 1), (4, 32, 4, 5), (4, 35, 4, 7), (4, 41, 4, 3), (4, 53, 4, 2), (4, 63, 4, 4), (5, 12, 5, 0), (5, 21, 5, 1), (5, 25, 5, 2), (5, 28, 5, 3), (5, 32, 5, 4), (6, 9, 6, 0), (6, 15, 6, 1), (7, 9, 7, 0), (7, 15, 7, 1), (7, 18, 7, 2)] : List _), zFp r := List.forall_mem_cons.mpr ⟨⟨_, _, _, rfl, by decide, rfl, zT 286 (by decide +kernel) rfl⟩, List.forall_mem_cons.mpr ⟨⟨_, _, _, rfl, by decide, rfl, zT 288 (by decide +kernel) rfl⟩, List.forall_mem_cons.mpr ⟨⟨_, _, _, rfl, by decide, rfl, zT 172 (by decide +kernel) rfl⟩, List.forall_mem_cons.mpr ⟨⟨_, _, _, rfl, by decide, rfl, zT 165 (by decide +kernel) rfl⟩, List.forall_mem_cons.mpr ⟨⟨_, _, _, rfl, by decide, rfl, zT 166 (by decide +kernel) rfl⟩, List.forall_mem_cons.mpr ⟨⟨_, _, _, rfl, by decide, rfl, zT 170 (by decide +kernel) rfl⟩, List.forall_mem_cons.mpr ⟨⟨_, _, _, rfl, by decide, rfl, zT 174 (by decide +kernel) rfl⟩, List.forall_mem_cons.mpr ⟨⟨_, _, _, rfl, by decide, rfl, zT 168 (by decide +kernel) rfl⟩, List.forall_mem_cons.mpr ⟨⟨_, _, _, rfl, by decide, rfl, zT 167 (by decide +kernel) rfl⟩, List.forall_mem_cons.mpr ⟨⟨_, _, _, rfl, by decide, rfl, zT 169 (by decide +kernel) rfl⟩, List.forall_mem_cons.mpr ⟨⟨_, _, _, rfl, by decide, rfl, zT 247 (by decide +kernel) rfl⟩, List.forall_mem_cons.mpr ⟨⟨_, _, _, rfl, by decide, rfl, zT 251 (by decide +kernel) rfl⟩, List.forall_mem_cons.mpr ⟨⟨_, _, _, rfl, by decide, rfl, zT 252 (by decide +kernel) rfl⟩, List.forall_mem_cons.mpr ⟨⟨_, _, _, rfl, by decide, rfl, zT 253 (by decide +kernel) rfl⟩, List.forall_mem_cons.mpr ⟨⟨_, _, _, rfl, by decide, rfl, zT 258 (by decide +kernel) rfl⟩, List.forall_mem_cons.mpr ⟨⟨_, _, _, rfl, by decide, rfl, zT 39 (by decide +kernel) rfl⟩, List.forall_mem_cons.mpr ⟨⟨_, _, _, rfl, by decide, rfl, zT 41 (by decide +kernel) rfl⟩, List.forall_mem_cons.mpr ⟨⟨_, _, _, rfl, by decide, rfl, zT 136 (by decide +kernel) rfl⟩, List.forall_mem_cons.mpr ⟨⟨_, _, _, rfl, by decide, rfl, zT 138 (by decide +kernel) rfl⟩, List.forall_mem_cons.mpr ⟨⟨_, _, _, rfl, by decide, rfl, zT 140 (by decide +kernel) rfl⟩, fun _ h => absurd h List.not_mem_nil⟩⟩⟩⟩⟩⟩⟩⟩⟩⟩⟩⟩⟩⟩⟩⟩⟩⟩⟩⟩
theorem zLF_ok_3 : ∀ r ∈ ([(7, 21, 7, 3), (7, 40, 7, 5), (7, 43, 7, 6), (7, 46, 7, 4), (7, 50, 7, 7), (8, 9, 8, 0), (8, 15, 8, 1), (8, 18, 8, 2), (8, 21, 8, 3), (8, 24, 8, 4), (8, 27, 8, 5), (10, 7, 10, 1), (10, 13, 10, 3), (10, 16, 10, 4), (10, 19, 10, 5), (10, 22, 10, 6), (10, 25, 10, 16), (10, 29, 10, 20), (10, 32, 10, 21), (10, 36, 10, 22)] : List _), zFp r := List.forall_mem_cons.mpr ⟨⟨_, _, _, rfl, by decide, rfl, zT 142 (by decide +kernel) rfl⟩, List.forall_mem_cons.mpr ⟨⟨_, _, _, rfl, by decide, rfl, zT 145 (by decide +kernel) rfl⟩, List.forall_mem_cons.mpr ⟨⟨_, _, _, rfl, by decide, rfl, zT 146 (by decide +kernel) rfl⟩, List.forall_mem_cons.mpr ⟨⟨_, _, _, rfl, by decide, rfl, zT 143 (by decide +kernel) rfl⟩, List.forall_mem_cons.mpr ⟨⟨_, _, _, rfl, by decide, rfl, zT 147 (by decide +kernel) rfl⟩, List.forall_mem_cons.mpr ⟨⟨_, _, _, rfl, by decide, rfl, zT 228 (by decide +kernel) rfl⟩, List.forall_mem_cons.mpr ⟨⟨_, _, _, rfl, by decide, rfl, zT 229 (by decide +kernel) rfl⟩, List.forall_mem_cons.mpr ⟨⟨_, _, _, rfl, by decide, rfl, zT 230 (by decide +kernel) rfl⟩, List.forall_mem_cons.mpr ⟨⟨_, _, _, rfl, by decide, rfl, zT 231 (by decide +kernel) rfl⟩, List.forall_mem_cons.mpr ⟨⟨_, _, _, rfl, by decide, rfl, zT 232 (by decide +kernel) rfl⟩, List.forall_mem_cons.mpr ⟨⟨_, _, _, rfl, by decide, rfl, zT 233 (by decide +kernel) rfl⟩, List.forall_mem_cons.mpr ⟨⟨_, _, _, rfl, by decide, rfl, zT 1160 (by decide +kernel) rfl⟩, List.forall_mem_cons.mpr ⟨⟨_, _, _, rfl, by decide, rfl, zT 1162 (by decide +kernel) rfl⟩, List.forall_mem_cons.mpr ⟨⟨_, _, _, rfl, by decide, rfl, zT 1163 (by decide +kernel) rfl⟩, List.forall_mem_cons.mpr ⟨⟨_, _, _, rfl, by decide, rfl, zT 1164 (by decide +kernel) rfl⟩, List.forall_mem_cons.mpr ⟨⟨_, _, _, rfl, by decide, rfl, zT 1165 (by decide +kernel) rfl⟩, List.forall_mem_cons.mpr ⟨⟨_, _, _, rfl, by decide, rfl, zT 1175 (by decide +kernel) rfl⟩, List.forall_mem_cons.mpr ⟨⟨_, _, _, rfl, by decide, rfl, zT 1179 (by decide +kernel) rfl⟩, List.forall_mem_cons.mpr ⟨⟨_, _, _, rfl, by decide, rfl, zT 1180 (by decide +kernel) rfl⟩, List.forall_mem_cons.mpr ⟨⟨_, _, _, rfl, by decide, rfl, zT 1181 (by decide +kernel) rfl⟩, fun _ h => absurd h List.not_mem_nil⟩⟩⟩⟩⟩⟩⟩⟩⟩⟩⟩⟩⟩⟩⟩⟩⟩⟩⟩⟩
theorem zLF_ok_4 : ∀ r ∈ ([(10, 39, 10, 23), (10, 42, 10, 24), (10, 45, 10, 25), (10, 48, 10, 26), (10, 51, 10, 27), (10, 54, 10, 28), (10, 57, 10, 29), (10, 60, 10, 30), (10, 63, 10, 31), (10, 66, 10, 32), (10, 69, 10, 33), (10, 72, 10, 35), (10, 75, 10, 36), (10, 78, 10, 37), (10, 81, 10, 38), (10, 84, 10, 40), (10, 87, 10, 44), (10, 96, 10, 0), (10, 99, 10, 2), (10, 102, 10, 8)] : List _), zFp r := List.forall_mem_cons.mpr ⟨⟨_, _, _, rfl, by decide, rfl, zT 1182 (by decide +kernel) rfl⟩, List.forall_mem_cons.mpr ⟨⟨_, _, _, rfl, by decide, rfl, zT 1183 (by decide +kernel) rfl⟩, List.forall_mem_cons.mpr ⟨⟨_, _, _, rfl, by decide, rfl, zT 1184 (by decide +kernel) rfl⟩, List.forall_mem_cons.mpr ⟨⟨_, _, _, rfl, by decide, rfl, zT 1185 (by decide +kernel) rfl⟩, List.forall_mem_cons.mpr ⟨⟨_, _, _, rfl, by decide, rfl, zT 1186 (by decide +kernel) rfl⟩, List.forall_mem_cons.mpr ⟨⟨_, _, _, rfl, by decide, rfl, zT 1187 (by decide +kernel) rfl⟩, List.forall_mem_cons.mpr ⟨⟨_, _, _, rfl, by decide, rfl, zT 1188 (by decide +kernel) rfl⟩, List.forall_mem_cons.mpr ⟨⟨_, _, _, rfl, by decide, rfl, zT 1189 (by decide +kernel) rfl⟩, List.forall_mem_cons.mpr ⟨⟨_, _, _, rfl, by decide, rfl, zT 1190 (by decide +kernel) rfl⟩, List.forall_mem_cons.mpr ⟨⟨_, _, _, rfl, by decide, rfl, zT 1191 (by decide +kernel) rfl⟩, List.forall_mem_cons.mpr ⟨⟨_, _, _, rfl, by decide, rfl, zT 1192 (by decide +kernel) rfl⟩, List.forall_mem_cons.mpr ⟨⟨_, _, _, rfl, by decide, rfl, zT 1194 (by decide +kernel) rfl⟩, List.forall_mem_cons.mpr ⟨⟨_, _, _, rfl, by decide, rfl, zT 1195 (by decide +kernel) rfl⟩, List.forall_mem_cons.mpr ⟨⟨_, _, _, rfl, by decide, rfl, zT 1196 (by decide +kernel) rfl⟩, List.forall_mem_cons.mpr ⟨⟨_, _, _, rfl, by decide, rfl, zT 1197 (by decide +kernel) rfl⟩, List.forall_mem_cons.mpr ⟨⟨_, _, _, rfl, by decide, rfl, zT 1199 (by decide +kernel) rfl⟩, List.forall_mem_cons.mpr ⟨⟨_, _, _, rfl, by decide, rfl, zT 1203 (by decide +kernel) rfl⟩, List.forall_mem_cons.mpr ⟨⟨_, _, _, rfl, by decide, rfl, zT 1159 (by decide +kernel) rfl⟩, List.forall_mem_cons.mpr ⟨⟨_, _, _, rfl, by decide, rfl, zT 1161 (by decide +kernel) rfl⟩, List.forall_mem_cons.mpr ⟨⟨_, _, _, rfl, by decide, rfl, zT 1167 (by decide +kernel) rfl⟩, fun _ h => absurd h List.not_mem_nil⟩⟩⟩⟩⟩⟩⟩⟩⟩⟩⟩⟩⟩⟩⟩⟩⟩⟩⟩⟩
theorem zLF_ok_5 : ∀ r ∈ ([(10, 105, 10, 7), (10, 112, 10, 9), (10, 115, 10, 10), (10, 122, 10, 12), (10, 128, 10, 11), (10, 145, 10, 13), (10, 148, 10, 14), (10, 171, 10, 17), (10, 190, 10, 19), (10, 198, 10, 15), (10, 201, 10, 18), (10, 220, 10, 34), (10, 307, 10, 39), (10, 326, 10, 41), (10, 329, 10, 43), (10, 332, 10, 42)] : List _), zFp r := List.forall_mem_cons.mpr ⟨⟨_, _, _, rfl, by decide, rfl, zT 1166 (by decide +kernel) rfl⟩, List.forall_mem_cons.mpr ⟨⟨_, _, _, rfl, by decide, rfl, zT 1168 (by decide +kernel) rfl⟩, List.forall_mem_cons.mpr ⟨⟨_, _, _, rfl, by decide, rfl, zT 1169 (by decide +kernel) rfl⟩, List.forall_mem_cons.mpr ⟨⟨_, _, _, rfl, by decide, rfl, zT 1171 (by decide +kernel) rfl⟩, List.forall_mem_cons.mpr ⟨⟨_, _, _, rfl, by decide, rfl, zT 1170 (by decide +kernel) rfl⟩, List.forall_mem_cons.mpr ⟨⟨_, _, _, rfl, by decide, rfl, zT 1172 (by decide +kernel) rfl⟩, List.forall_mem_cons.mpr ⟨⟨_, _, _, rfl, by decide, rfl, zT 1173 (by decide +kernel) rfl⟩, List.forall_mem_cons.mpr ⟨⟨_, _, _, rfl, by decide, rfl, zT 1176 (by decide +kernel) rfl⟩, List.forall_mem_cons.mpr ⟨⟨_, _, _, rfl, by decide, rfl, zT 1178 (by decide +kernel) rfl⟩, List.forall_mem_cons.mpr ⟨⟨_, _, _, rfl, by decide, rfl, zT 1174 (by decide +kernel) rfl⟩, List.forall_mem_cons.mpr ⟨⟨_, _, _, rfl, by decide, rfl, zT 1177 (by decide +kernel) rfl⟩, List.forall_mem_cons.mpr ⟨⟨_, _, _, rfl, by decide, rfl, zT 1193 (by decide +kernel) rfl⟩, List.forall_mem_cons.mpr ⟨⟨_, _, _, rfl, by decide, rfl, zT 1198 (by decide +kernel) rfl⟩, List.forall_mem_cons.mpr ⟨⟨_, _, _, rfl, by decide, rfl, zT 1200 (by decide +kernel) rfl⟩, List.forall_mem_cons.mpr ⟨⟨_, _, _, rfl, by decide, rfl, zT 1202 (by decide +kernel) rfl⟩, List.forall_mem_cons.mpr ⟨⟨_, _, _, rfl, by decide, rfl, zT 1201 (by decide +kernel) rfl⟩, fun _ h => absurd h List.not_mem_nil⟩⟩⟩⟩⟩⟩⟩⟩⟩⟩⟩⟩⟩⟩⟩⟩
theorem zLF_ok : ∀ r ∈ zLF, zFp r := by
  intro r h
  have e : zLF = [(9, 10, 9, 0), (9, 19, 9, 1), (9, 23, 9, 2), (9, 31, 9, 3), (9, 40, 9, 4), (9, 49, 9, 5), (9, 56, 9, 6), (0, 12, 0, 0), (0, 18, 0, 1), (0, 21, 0, 2), (0, 30, 0, 3), (0, 35, 0, 4), (0, 36, 0, 5), (0, 40, 0, 6), (0, 43, 0, 8), (0, 67, 0, 7), (0, 74, 0, 11), (0, 94, 0, 9), (0, 97, 0, 10), (1, 9, 1, 0)] ++ ([(1, 15, 1, 1), (1, 18, 1, 2), (1, 21, 1, 3), (1, 24, 1, 4), (1, 27, 1, 5), (1, 30, 1, 6), (1, 33, 1, 10), (1, 37, 1, 11), (1, 40, 1, 7), (1, 43, 1, 8), (1, 46, 1, 9), (1, 49, 1, 12), (2, 9, 2, 0), (2, 15, 2, 1), (2, 24, 2, 2), (3, 12, 3, 0), (3, 21, 3, 1), (3, 25, 3, 2), (3, 35, 3, 3), (3, 87, 3, 4)] ++ ([(3, 90, 3, 5), (3, 93, 3, 6), (4, 9, 4, 6), (4, 20, 4, 0), (4, 24, 4, 1), (4, 32, 4, 5), (4, 35, 4, 7), (4, 41, 4, 3), (4, 53, 4, 2), (4, 63, 4, 4), (5, 12, 5, 0), (5, 21, 5, 1), (5, 25, 5, 2), (5, 28, 5, 3), (5, 32, 5, 4), (6, 9, 6, 0), (6, 15, 6, 1), (7, 9, 7, 0), (7, 15, 7, 1), (7, 18, 7, 2)] ++ ([(7, 21, 7, 3), (7, 40, 7, 5), (7, 43, 7, 6), (7, 46, 7, 4), (7, 50, 7, 7), (8, 9, 8, 0), (8, 15, 8, 1), (8, 18, 8, 2), (8, 21, 8, 3), (8, 24, 8, 4), (8, 27, 8, 5), (10, 7, 10, 1), (10, 13, 10, 3), (10, 16, 10, 4), (10, 19, 10, 5), (10, 22, 10, 6), (10, 25, 10, 16), (10, 29, 10, 20), (10, 32, 10, 21), (10, 36, 10, 22)] ++ ([(10, 39, 10, 23), (10, 42, 10, 24), (10, 45, 10, 25), (10, 48, 10, 26), (10, 51, 10, 27), (10, 54, 10, 28), (10, 57, 10, 29), (10, 60, 10, 30), (10, 63, 10, 31), (10, 66, 10, 32), (10, 69, 10, 33), (10, 72, 10, 35), (10, 75, 10, 36), (10, 78, 10, 37), (10, 81, 10, 38), (10, 84, 10, 40), (10, 87, 10, 44), (10, 96, 10, 0), (10, 99, 10, 2), (10, 102, 10, 8)] ++ ([(10, 105, 10, 7), (10, 112, 10, 9), (10, 115, 10, 10), (10, 122, 10, 12), (10, 128, 10, 11), (10, 145, 10, 13), (10, 148, 10, 14), (10, 171, 10, 17), (10, 190, 10, 19), (10, 198, 10, 15), (10, 201, 10, 18), (10, 220, 10, 34), (10, 307, 10, 39), (10, 326, 10, 41), (10, 329, 10, 43), (10, 332, 10, 42)]))))) := rfl
  rw [e] at h
  simp only [List.mem_append] at h
  rcases h with h | h | h | h | h | h
  · exact zLF_ok_0 r h
  · exact zLF_ok_1 r h
  · exact zLF_ok_2 r h
  · exact zLF_ok_3 r h
  · exact zLF_ok_4 r h
  · exact zLF_ok_5 r h
theorem zLFn_ok_0 : ∀ r ∈ ([(9, 68, 6, 1), (9, 95, 4, 7), (9, 98, 4, 5), (9, 101, 4, 6), (9, 121, 1, 2), (9, 125, 1, 3), (9, 128, 1, 4), (9, 131, 1, 5), (9, 134, 5, 3), (9, 137, 5, 0), (9, 191, 1, 9), (9, 210, 0, 7), (9, 213, 0, 8), (9, 219, 0, 11), (9, 222, 0, 9), (9, 225, 0, 10), (9, 264, 3, 6), (9, 267, 3, 4), (9, 270, 3, 5), (9, 297, 1, 7)] : List _), zFn r := List.forall_mem_cons.mpr ⟨⟨_, _, _, rfl, by decide, rfl, "PackTracer", zE 43 (by decide +kernel) rfl⟩, List.forall_mem_cons.mpr ⟨⟨_, _, _, rfl, by decide, rfl, "PackTracer", zE 175 (by decide +kernel) rfl⟩, List.forall_mem_cons.mpr ⟨⟨_, _, _, rfl, by decide, rfl, "PackTracer", zE 171 (by decide +kernel) rfl⟩, List.forall_mem_cons.mpr ⟨⟨_, _, _, rfl, by decide, rfl, "PackTracer", zE 173 (by decide +kernel) rfl⟩, List.forall_mem_cons.mpr ⟨⟨_, _, _, rfl, by decide, rfl, "PackTracer", zE 61 (by decide +kernel) rfl⟩, List.forall_mem_cons.mpr ⟨⟨_, _, _, rfl, by decide, rfl, "PackTracer", zE 64 (by decide +kernel) rfl⟩, List.forall_mem_cons.mpr ⟨⟨_, _, _, rfl, by decide, rfl, "PackTracer", zE 68 (by decide +kernel) rfl⟩, List.forall_mem_cons.mpr ⟨⟨_, _, _, rfl, by decide, rfl, "PackTracer", zE 72 (by decide +kernel) rfl⟩, List.forall_mem_cons.mpr ⟨⟨_, _, _, rfl, by decide, rfl, "PackTracer", zE 255 (by decide +kernel) rfl⟩, List.forall_mem_cons.mpr ⟨⟨_, _, _, rfl, by decide, rfl, "PackTracer", zE 250 (by decide +kernel) rfl⟩, List.forall_mem_cons.mpr ⟨⟨_, _, _, rfl, by decide, rfl, "PackTracer", zE 85 (by decide +kernel) rfl⟩, List.forall_mem_cons.mpr ⟨⟨_, _, _, rfl, by decide, rfl, "PackTracer", zE 321 (by decide +kernel) rfl⟩, List.forall_mem_cons.mpr ⟨⟨_, _, _, rfl, by decide, rfl, "PackTracer", zE 323 (by decide +kernel) rfl⟩, List.forall_mem_cons.mpr ⟨⟨_, _, _, rfl, by decide, rfl, "PackTracer", zE 329 (by decide +kernel) rfl⟩, List.forall_mem_cons.mpr ⟨⟨_, _, _, rfl, by decide, rfl, "PackTracer", zE 325 (by decide +kernel) rfl⟩, List.forall_mem_cons.mpr ⟨⟨_, _, _, rfl, by decide, rfl, "PackTracer", zE 327 (by decide +kernel) rfl⟩, List.forall_mem_cons.mpr ⟨⟨_, _, _, rfl, by decide, rfl, "PackTracer", zE 289 (by decide +kernel) rfl⟩, List.forall_mem_cons.mpr ⟨⟨_, _, _, rfl, by decide, rfl, "PackTracer", zE 285 (by decide +kernel) rfl⟩, List.forall_mem_cons.mpr ⟨⟨_, _, _, rfl, by decide, rfl, "PackTracer", zE 287 (by decide +kernel) rfl⟩, List.forall_mem_cons.mpr ⟨⟨_, _, _, rfl, by decide, rfl, "PackTracer", zE 78 (by decide +kernel) rfl⟩, fun _ h => absurd h List.not_mem_nil⟩⟩⟩⟩⟩⟩⟩⟩⟩⟩⟩⟩⟩⟩⟩⟩⟩⟩⟩⟩
theorem zLFn_ok_1 : ∀ r ∈ ([(9, 300, 1, 8), (9, 307, 1, 10), (9, 310, 1, 11), (0, 24, 5, 4), (0, 31, 5, 0), (0, 50, 2, 2), (0, 59, 2, 1), (2, 18, 1, 9), (2, 25, 1, 2), (3, 29, 5, 4), (3, 36, 5, 0), (3, 39, 2, 2), (3, 54, 2, 1), (3, 58, 1, 2), (3, 70, 5, 3), (3, 77, 2, 0), (3, 99, 1, 3), (4, 50, 7, 4), (4, 56, 7, 0), (4, 60, 7, 2)] : List _), zFn r := List.forall_mem_cons.mpr ⟨⟨_, _, _, rfl, by decide, rfl, "PackTracer", zE 81 (by decide +kernel) rfl⟩, List.forall_mem_cons.mpr ⟨⟨_, _, _, rfl, by decide, rfl, "PackTracer", zE 89 (by decide +kernel) rfl⟩, List.forall_mem_cons.mpr ⟨⟨_, _, _, rfl, by decide, rfl, "PackTracer", zE 93 (by decide +kernel) rfl⟩, List.forall_mem_cons.mpr ⟨⟨_, _, _, rfl, by decide, rfl, "PackTracer", zE 257 (by decide +kernel) rfl⟩, List.forall_mem_cons.mpr ⟨⟨_, _, _, rfl, by decide, rfl, "PackTracer", zE 248 (by decide +kernel) rfl⟩, List.forall_mem_cons.mpr ⟨⟨_, _, _, rfl, by decide, rfl, "PackTracer", zE 214 (by decide +kernel) rfl⟩, List.forall_mem_cons.mpr ⟨⟨_, _, _, rfl, by decide, rfl, "PackTracer", zE 210 (by decide +kernel) rfl⟩, List.forall_mem_cons.mpr ⟨⟨_, _, _, rfl, by decide, rfl, "PackTracer", zE 82 (by decide +kernel) rfl⟩, List.forall_mem_cons.mpr ⟨⟨_, _, _, rfl, by decide, rfl, "PackTracer", zE 59 (by decide +kernel) rfl⟩, List.forall_mem_cons.mpr ⟨⟨_, _, _, rfl, by decide, rfl, "PackTracer", zE 256 (by decide +kernel) rfl⟩, List.forall_mem_cons.mpr ⟨⟨_, _, _, rfl, by decide, rfl, "PackTracer", zE 249 (by decide +kernel) rfl⟩, List.forall_mem_cons.mpr ⟨⟨_, _, _, rfl, by decide, rfl, "PackTracer", zE 212 (by decide +kernel) rfl⟩, List.forall_mem_cons.mpr ⟨⟨_, _, _, rfl, by decide, rfl, "PackTracer", zE 209 (by decide +kernel) rfl⟩, List.forall_mem_cons.mpr ⟨⟨_, _, _, rfl, by decide, rfl, "PackTracer", zE 60 (by decide +kernel) rfl⟩, List.forall_mem_cons.mpr ⟨⟨_, _, _, rfl, by decide, rfl, "PackTracer", zE 254 (by decide +kernel) rfl⟩, List.forall_mem_cons.mpr ⟨⟨_, _, _, rfl, by decide, rfl, "PackTracer", zE 206 (by decide +kernel) rfl⟩, List.forall_mem_cons.mpr ⟨⟨_, _, _, rfl, by decide, rfl, "PackTracer", zE 63 (by decide +kernel) rfl⟩, List.forall_mem_cons.mpr ⟨⟨_, _, _, rfl, by decide, rfl, "PackTracer", zE 144 (by decide +kernel) rfl⟩, List.forall_mem_cons.mpr ⟨⟨_, _, _, rfl, by decide, rfl, "PackTracer", zE 137 (by decide +kernel) rfl⟩, List.forall_mem_cons.mpr ⟨⟨_, _, _, rfl, by decide, rfl, "PackTracer", zE 141 (by decide +kernel) rfl⟩, fun _ h => absurd h List.not_mem_nil⟩⟩⟩⟩⟩⟩⟩⟩⟩⟩⟩⟩⟩⟩⟩⟩⟩⟩⟩⟩
theorem zLFn_ok_2 : ∀ r ∈ ([(4, 66, 7, 1), (4, 85, 1, 7), (4, 97, 1, 8), (4, 110, 1, 12), (4, 114, 1, 10), (4, 117, 1, 11), (4, 120, 1, 9), (5, 46, 2, 2), (5, 50, 2, 1), (5, 118, 1, 3), (5, 121, 1, 4), (7, 25, 6, 1), (7, 61, 6, 0), (8, 58, 1, 4), (8, 63, 1, 3), (8, 74, 1, 5), (8, 87, 1, 10), (8, 91, 1, 11), (8, 104, 1, 6)] : List _), zFn r := List.forall_mem_cons.mpr ⟨⟨_, _, _, rfl, by decide, rfl, "PackTracer", zE 139 (by decide +kernel) rfl⟩, List.forall_mem_cons.mpr ⟨⟨_, _, _, rfl, by decide, rfl, "PackTracer", zE 77 (by decide +kernel) rfl⟩, List.forall_mem_cons.mpr ⟨⟨_, _, _, rfl, by decide, rfl, "PackTracer", zE 80 (by decide +kernel) rfl⟩, List.forall_mem_cons.mpr ⟨⟨_, _, _, rfl, by decide, rfl, "PackTracer", zE 95 (by decide +kernel) rfl⟩, List.forall_mem_cons.mpr ⟨⟨_, _, _, rfl, by decide, rfl, "PackTracer", zE 87 (by decide +kernel) rfl⟩, List.forall_mem_cons.mpr ⟨⟨_, _, _, rfl, by decide, rfl, "PackTracer", zE 91 (by decide +kernel) rfl⟩, List.forall_mem_cons.mpr ⟨⟨_, _, _, rfl, by decide, rfl, "PackTracer", zE 84 (by decide +kernel) rfl⟩, List.forall_mem_cons.mpr ⟨⟨_, _, _, rfl, by decide, rfl, "PackTracer", zE 213 (by decide +kernel) rfl⟩, List.forall_mem_cons.mpr ⟨⟨_, _, _, rfl, by decide, rfl, "PackTracer", zE 208 (by decide +kernel) rfl⟩, List.forall_mem_cons.mpr ⟨⟨_, _, _, rfl, by decide, rfl, "PackTracer", zE 66 (by decide +kernel) rfl⟩, List.forall_mem_cons.mpr ⟨⟨_, _, _, rfl, by decide, rfl, "PackTracer", zE 70 (by decide +kernel) rfl⟩, List.forall_mem_cons.mpr ⟨⟨_, _, _, rfl, by decide, rfl, "PackTracer", zE 42 (by decide +kernel) rfl⟩, List.forall_mem_cons.mpr ⟨⟨_, _, _, rfl, by decide, rfl, "PackTracer", zE 40 (by decide +kernel) rfl⟩, List.forall_mem_cons.mpr ⟨⟨_, _, _, rfl, by decide, rfl, "PackTracer", zE 69 (by decide +kernel) rfl⟩, List.forall_mem_cons.mpr ⟨⟨_, _, _, rfl, by decide, rfl, "PackTracer", zE 65 (by decide +kernel) rfl⟩, List.forall_mem_cons.mpr ⟨⟨_, _, _, rfl, by decide, rfl, "PackTracer", zE 73 (by decide +kernel) rfl⟩, List.forall_mem_cons.mpr ⟨⟨_, _, _, rfl, by decide, rfl, "PackTracer", zE 88 (by decide +kernel) rfl⟩, List.forall_mem_cons.mpr ⟨⟨_, _, _, rfl, by decide, rfl, "PackTracer", zE 92 (by decide +kernel) rfl⟩, List.forall_mem_cons.mpr ⟨⟨_, _, _, rfl, by decide, rfl, "PackTracer", zE 75 (by decide +kernel) rfl⟩, fun _ h => absurd h List.not_mem_nil⟩⟩⟩⟩⟩⟩⟩⟩⟩⟩⟩⟩⟩⟩⟩⟩⟩⟩⟩
theorem zLFn_ok : ∀ r ∈ zLFn, zFn r := by
  intro r h
  have e : zLFn = [(9, 68, 6, 1), (9, 95, 4, 7), (9, 98, 4, 5), (9, 101, 4, 6), (9, 121, 1, 2), (9, 125, 1, 3), (9, 128, 1, 4), (9, 131, 1, 5), (9, 134, 5, 3), (9, 137, 5, 0), (9, 191, 1, 9), (9, 210, 0, 7), (9, 213, 0, 8), (9, 219, 0, 11), (9, 222, 0, 9), (9, 225, 0, 10), (9, 264, 3, 6), (9, 267, 3, 4), (9, 270, 3, 5), (9, 297, 1, 7)] ++ ([(9, 300, 1, 8), (9, 307, 1, 10), (9, 310, 1, 11), (0, 24, 5, 4), (0, 31, 5, 0), (0, 50, 2, 2), (0, 59, 2, 1), (2, 18, 1, 9), (2, 25, 1, 2), (3, 29, 5, 4), (3, 36, 5, 0), (3, 39, 2, 2), (3, 54, 2, 1), (3, 58, 1, 2), (3, 70, 5, 3), (3, 77, 2, 0), (3, 99, 1, 3), (4, 50, 7, 4), (4, 56, 7, 0), (4, 60, 7, 2)] ++ ([(4, 66, 7, 1), (4, 85, 1, 7), (4, 97, 1, 8), (4, 110, 1, 12), (4, 114, 1, 10), (4, 117, 1, 11), (4, 120, 1, 9), (5, 46, 2, 2), (5, 50, 2, 1), (5, 118, 1, 3), (5, 121, 1, 4), (7, 25, 6, 1), (7, 61, 6, 0), (8, 58, 1, 4), (8, 63, 1, 3), (8, 74, 1, 5), (8, 87, 1, 10), (8, 91, 1, 11), (8, 104, 1, 6)])) := rfl
  rw [e] at h
  simp only [List.mem_append] at h
  rcases h with h | h | h
  · exact zLFn_ok_0 r h
  · exact zLFn_ok_1 r h
  · exact zLFn_ok_2 r h
theorem zLM_ok_0 : ∀ r ∈ ([(0, 63, 6, 0), (0, 70, 7, 0), (0, 77, 4, 0), (0, 90, 5, 0), (1, 53, 254, 1), (1, 65, 18, 0), (1, 69, 17, 0), (1, 73, 11, 0), (1, 77, 20, 0), (3, 102, 36, 0), (3, 43, 30, 0), (3, 78, 34, 0), (4, 100, 49, 0), (4, 103, 48, 0), (4, 121, 46, 0), (4, 125, 47, 0), (4, 38, 39, 0), (4, 44, 40, 0), (4, 47, 41, 0), (4, 69, 42, 0)] : List _), zMp r := List.forall_mem_cons.mpr ⟨zT 845 (by decide +kernel) rfl, List.forall_mem_cons.mpr ⟨zT 851 (by decide +kernel) rfl, List.forall_mem_cons.mpr ⟨zT 863 (by decide +kernel) rfl, List.forall_mem_cons.mpr ⟨zT 869 (by decide +kernel) rfl, List.forall_mem_cons.mpr ⟨zT 397 (by decide +kernel) rfl, List.forall_mem_cons.mpr ⟨zT 540 (by decide +kernel) rfl, List.forall_mem_cons.mpr ⟨zT 544 (by decide +kernel) rfl, List.forall_mem_cons.mpr ⟨zT 548 (by decide +kernel) rfl, List.forall_mem_cons.mpr ⟨zT 1043 (by decide +kernel) rfl, List.forall_mem_cons.mpr ⟨zT 984 (by decide +kernel) rfl, List.forall_mem_cons.mpr ⟨zT 820 (by decide +kernel) rfl, List.forall_mem_cons.mpr ⟨zT 969 (by decide +kernel) rfl, List.forall_mem_cons.mpr ⟨zT 528 (by decide +kernel) rfl, List.forall_mem_cons.mpr ⟨zT 532 (by decide +kernel) rfl, List.forall_mem_cons.mpr ⟨zT 560 (by decide +kernel) rfl, List.forall_mem_cons.mpr ⟨zT 564 (by decide +kernel) rfl, List.forall_mem_cons.mpr ⟨zT 496 (by decide +kernel) rfl, List.forall_mem_cons.mpr ⟨zT 500 (by decide +kernel) rfl, List.forall_mem_cons.mpr ⟨zT 504 (by decide +kernel) rfl, List.forall_mem_cons.mpr ⟨zT 508 (by decide +kernel) rfl, fun _ h => absurd h List.not_mem_nil⟩⟩⟩⟩⟩⟩⟩⟩⟩⟩⟩⟩⟩⟩⟩⟩⟩⟩⟩⟩
theorem zLM_ok_1 : ∀ r ∈ ([(4, 72, 43, 0), (4, 75, 44, 0), (4, 78, 45, 0), (4, 81, 50, 0), (5, 53, 53, 0), (5, 64, 54, 0), (5, 67, 56, 0), (5, 88, 253, 1), (7, 47, 75, 0), (7, 53, 76, 0), (7, 57, 74, 0), (7, 65, 79, 0), (7, 69, 77, 0), (7, 72, 80, 0), (7, 75, 78, 0), (7, 78, 81, 0), (8, 101, 90, 0), (8, 105, 99, 0), (8, 109, 100, 0), (8, 113, 87, 0)] : List _), zMp r := List.forall_mem_cons.mpr ⟨zT 524 (by decide +kernel) rfl, List.forall_mem_cons.mpr ⟨zT 552 (by decide +kernel) rfl, List.forall_mem_cons.mpr ⟨zT 556 (by decide +kernel) rfl, List.forall_mem_cons.mpr ⟨zT 512 (by decide +kernel) rfl, List.forall_mem_cons.mpr ⟨zT 605 (by decide +kernel) rfl, List.forall_mem_cons.mpr ⟨zT 714 (by decide +kernel) rfl, List.forall_mem_cons.mpr ⟨zT 806 (by decide +kernel) rfl, List.forall_mem_cons.mpr ⟨zT 904 (by decide +kernel) rfl, List.forall_mem_cons.mpr ⟨zT 414 (by decide +kernel) rfl, List.forall_mem_cons.mpr ⟨zT 418 (by decide +kernel) rfl, List.forall_mem_cons.mpr ⟨zT 492 (by decide +kernel) rfl, List.forall_mem_cons.mpr ⟨zT 422 (by decide +kernel) rfl, List.forall_mem_cons.mpr ⟨zT 426 (by decide +kernel) rfl, List.forall_mem_cons.mpr ⟨zT 483 (by decide +kernel) rfl, List.forall_mem_cons.mpr ⟨zT 487 (by decide +kernel) rfl, List.forall_mem_cons.mpr ⟨zT 430 (by decide +kernel) rfl, List.forall_mem_cons.mpr ⟨zT 645 (by decide +kernel) rfl, List.forall_mem_cons.mpr ⟨zT 658 (by decide +kernel) rfl, List.forall_mem_cons.mpr ⟨zT 662 (by decide +kernel) rfl, List.forall_mem_cons.mpr ⟨zT 670 (by decide +kernel) rfl, fun _ h => absurd h List.not_mem_nil⟩⟩⟩⟩⟩⟩⟩⟩⟩⟩⟩⟩⟩⟩⟩⟩⟩⟩⟩⟩
theorem zLM_ok_2 : ∀ r ∈ ([(8, 116, 101, 0), (8, 119, 102, 0), (8, 122, 91, 0), (8, 125, 92, 0), (8, 128, 104, 0), (8, 132, 253, 1), (8, 138, 111, 0), (8, 30, 254, 1), (8, 42, 88, 0), (8, 46, 85, 0), (8, 50, 89, 0), (8, 54, 94, 0), (8, 66, 98, 0), (8, 70, 86, 0), (8, 77, 95, 0), (8, 80, 97, 0), (8, 83, 96, 0), (8, 94, 103, 0), (9, 155, 149, 1), (9, 158, 150, 1)] : List _), zMp r := List.forall_mem_cons.mpr ⟨zT 674 (by decide +kernel) rfl, List.forall_mem_cons.mpr ⟨zT 678 (by decide +kernel) rfl, List.forall_mem_cons.mpr ⟨zT 722 (by decide +kernel) rfl, List.forall_mem_cons.mpr ⟨zT 726 (by decide +kernel) rfl, List.forall_mem_cons.mpr ⟨zT 730 (by decide +kernel) rfl, List.forall_mem_cons.mpr ⟨zT 734 (by decide +kernel) rfl, List.forall_mem_cons.mpr ⟨zT 772 (by decide +kernel) rfl, List.forall_mem_cons.mpr ⟨zT 604 (by decide +kernel) rfl, List.forall_mem_cons.mpr ⟨zT 621 (by decide +kernel) rfl, List.forall_mem_cons.mpr ⟨zT 625 (by decide +kernel) rfl, List.forall_mem_cons.mpr ⟨zT 629 (by decide +kernel) rfl, List.forall_mem_cons.mpr ⟨zT 617 (by decide +kernel) rfl, List.forall_mem_cons.mpr ⟨zT 654 (by decide +kernel) rfl, List.forall_mem_cons.mpr ⟨zT 666 (by decide +kernel) rfl, List.forall_mem_cons.mpr ⟨zT 633 (by decide +kernel) rfl, List.forall_mem_cons.mpr ⟨zT 641 (by decide +kernel) rfl, List.forall_mem_cons.mpr ⟨zT 649 (by decide +kernel) rfl, List.forall_mem_cons.mpr ⟨zT 637 (by decide +kernel) rfl, List.forall_mem_cons.mpr ⟨zT 704 (by decide +kernel) rfl, List.forall_mem_cons.mpr ⟨zT 707 (by decide +kernel) rfl, fun _ h => absurd h List.not_mem_nil⟩⟩⟩⟩⟩⟩⟩⟩⟩⟩⟩⟩⟩⟩⟩⟩⟩⟩⟩⟩
theorem zLM_ok_3 : ∀ r ∈ ([(9, 174, 153, 1), (9, 178, 152, 0), (9, 245, 151, 0), (9, 79, 116, 0), (10, 108, 156, 0), (10, 118, 157, 1), (10, 125, 160, 0), (10, 131, 158, 1), (10, 151, 159, 0), (10, 154, 161, 0), (10, 158, 162, 0), (10, 161, 164, 0), (10, 164, 165, 0), (10, 167, 163, 0), (10, 175, 169, 0), (10, 178, 170, 0), (10, 181, 166, 0), (10, 184, 167, 0), (10, 187, 168, 0), (10, 194, 171, 0)] : List _), zMp r := List.forall_mem_cons.mpr ⟨zT 745 (by decide +kernel) rfl, List.forall_mem_cons.mpr ⟨zT 752 (by decide +kernel) rfl, List.forall_mem_cons.mpr ⟨zT 756 (by decide +kernel) rfl, List.forall_mem_cons.mpr ⟨zT 572 (by decide +kernel) rfl, List.forall_mem_cons.mpr ⟨zT 1312 (by decide +kernel) rfl, List.forall_mem_cons.mpr ⟨zT 1316 (by decide +kernel) rfl, List.forall_mem_cons.mpr ⟨zT 1319 (by decide +kernel) rfl, List.forall_mem_cons.mpr ⟨zT 1326 (by decide +kernel) rfl, List.forall_mem_cons.mpr ⟨zT 1308 (by decide +kernel) rfl, List.forall_mem_cons.mpr ⟨zT 1337 (by decide +kernel) rfl, List.forall_mem_cons.mpr ⟨zT 1341 (by decide +kernel) rfl, List.forall_mem_cons.mpr ⟨zT 1357 (by decide +kernel) rfl, List.forall_mem_cons.mpr ⟨zT 1353 (by decide +kernel) rfl, List.forall_mem_cons.mpr ⟨zT 1345 (by decide +kernel) rfl, List.forall_mem_cons.mpr ⟨zT 1349 (by decide +kernel) rfl, List.forall_mem_cons.mpr ⟨zT 1333 (by decide +kernel) rfl, List.forall_mem_cons.mpr ⟨zT 1361 (by decide +kernel) rfl, List.forall_mem_cons.mpr ⟨zT 1365 (by decide +kernel) rfl, List.forall_mem_cons.mpr ⟨zT 1369 (by decide +kernel) rfl, List.forall_mem_cons.mpr ⟨zT 1329 (by decide +kernel) rfl, fun _ h => absurd h List.not_mem_nil⟩⟩⟩⟩⟩⟩⟩⟩⟩⟩⟩⟩⟩⟩⟩⟩⟩⟩⟩⟩
theorem zLM_ok_4 : ∀ r ∈ ([(10, 204, 178, 0), (10, 207, 173, 0), (10, 211, 210, 0), (10, 214, 180, 0), (10, 217, 181, 0), (10, 223, 183, 0), (10, 226, 186, 0), (10, 230, 185, 0), (10, 234, 188, 0), (10, 237, 190, 0), (10, 241, 189, 0), (10, 245, 187, 0), (10, 248, 191, 0), (10, 251, 194, 0), (10, 255, 193, 0), (10, 259, 195, 0), (10, 262, 196, 0), (10, 265, 197, 0), (10, 268, 184, 0), (10, 271, 192, 0)] : List _), zMp r := List.forall_mem_cons.mpr ⟨zT 1155 (by decide +kernel) rfl, List.forall_mem_cons.mpr ⟨zT 1304 (by decide +kernel) rfl, List.forall_mem_cons.mpr ⟨zT 1385 (by decide +kernel) rfl, List.forall_mem_cons.mpr ⟨zT 1393 (by decide +kernel) rfl, List.forall_mem_cons.mpr ⟨zT 1405 (by decide +kernel) rfl, List.forall_mem_cons.mpr ⟨zT 1417 (by decide +kernel) rfl, List.forall_mem_cons.mpr ⟨zT 1449 (by decide +kernel) rfl, List.forall_mem_cons.mpr ⟨zT 1429 (by decide +kernel) rfl, List.forall_mem_cons.mpr ⟨zT 1433 (by decide +kernel) rfl, List.forall_mem_cons.mpr ⟨zT 1437 (by decide +kernel) rfl, List.forall_mem_cons.mpr ⟨zT 1441 (by decide +kernel) rfl, List.forall_mem_cons.mpr ⟨zT 1445 (by decide +kernel) rfl, List.forall_mem_cons.mpr ⟨zT 1425 (by decide +kernel) rfl, List.forall_mem_cons.mpr ⟨zT 1453 (by decide +kernel) rfl, List.forall_mem_cons.mpr ⟨zT 1457 (by decide +kernel) rfl, List.forall_mem_cons.mpr ⟨zT 1461 (by decide +kernel) rfl, List.forall_mem_cons.mpr ⟨zT 1465 (by decide +kernel) rfl, List.forall_mem_cons.mpr ⟨zT 1469 (by decide +kernel) rfl, List.forall_mem_cons.mpr ⟨zT 1413 (by decide +kernel) rfl, List.forall_mem_cons.mpr ⟨zT 1421 (by decide +kernel) rfl, fun _ h => absurd h List.not_mem_nil⟩⟩⟩⟩⟩⟩⟩⟩⟩⟩⟩⟩⟩⟩⟩⟩⟩⟩⟩⟩
theorem zLM_ok_5 : ∀ r ∈ ([(10, 274, 182, 0), (10, 277, 198, 0), (10, 280, 199, 0), (10, 283, 203, 0), (10, 286, 204, 0), (10, 289, 205, 1), (10, 292, 206, 1), (10, 295, 200, 0), (10, 298, 201, 0), (10, 301, 207, 0), (10, 304, 212, 0), (10, 310, 214, 0), (10, 313, 216, 0), (10, 316, 219, 0), (10, 319, 222, 0), (10, 323, 224, 0), (10, 335, 226, 0), (10, 338, 229, 0), (10, 341, 232, 0), (10, 344, 235, 0)] : List _), zMp r := List.forall_mem_cons.mpr ⟨zT 1401 (by decide +kernel) rfl, List.forall_mem_cons.mpr ⟨zT 1409 (by decide +kernel) rfl, List.forall_mem_cons.mpr ⟨zT 1397 (by decide +kernel) rfl, List.forall_mem_cons.mpr ⟨zT 1473 (by decide +kernel) rfl, List.forall_mem_cons.mpr ⟨zT 1477 (by decide +kernel) rfl, List.forall_mem_cons.mpr ⟨zT 1485 (by decide +kernel) rfl, List.forall_mem_cons.mpr ⟨zT 1488 (by decide +kernel) rfl, List.forall_mem_cons.mpr ⟨zT 1491 (by decide +kernel) rfl, List.forall_mem_cons.mpr ⟨zT 1495 (by decide +kernel) rfl, List.forall_mem_cons.mpr ⟨zT 1499 (by decide +kernel) rfl, List.forall_mem_cons.mpr ⟨zT 1515 (by decide +kernel) rfl, List.forall_mem_cons.mpr ⟨zT 1523 (by decide +kernel) rfl, List.forall_mem_cons.mpr ⟨zT 1531 (by decide +kernel) rfl, List.forall_mem_cons.mpr ⟨zT 1543 (by decide +kernel) rfl, List.forall_mem_cons.mpr ⟨zT 1555 (by decide +kernel) rfl, List.forall_mem_cons.mpr ⟨zT 1563 (by decide +kernel) rfl, List.forall_mem_cons.mpr ⟨zT 1571 (by decide +kernel) rfl, List.forall_mem_cons.mpr ⟨zT 1583 (by decide +kernel) rfl, List.forall_mem_cons.mpr ⟨zT 1595 (by decide +kernel) rfl, List.forall_mem_cons.mpr ⟨zT 1607 (by decide +kernel) rfl, fun _ h => absurd h List.not_mem_nil⟩⟩⟩⟩⟩⟩⟩⟩⟩⟩⟩⟩⟩⟩⟩⟩⟩⟩⟩⟩
theorem zLM_ok_6 : ∀ r ∈ ([(10, 347, 236, 1), (10, 351, 238, 0), (10, 354, 241, 0), (10, 358, 248, 0), (10, 361, 252, 0), (10, 90, 172, 0), (10, 93, 174, 0)] : List _), zMp r := List.forall_mem_cons.mpr ⟨zT 1611 (by decide +kernel) rfl, List.forall_mem_cons.mpr ⟨zT 1618 (by decide +kernel) rfl, List.forall_mem_cons.mpr ⟨zT 1630 (by decide +kernel) rfl, List.forall_mem_cons.mpr ⟨zT 1658 (by decide +kernel) rfl, List.forall_mem_cons.mpr ⟨zT 1670 (by decide +kernel) rfl, List.forall_mem_cons.mpr ⟨zT 1146 (by decide +kernel) rfl, List.forall_mem_cons.mpr ⟨zT 1151 (by decide +kernel) rfl, fun _ h => absurd h List.not_mem_nil⟩⟩⟩⟩⟩⟩⟩
theorem zLM_ok : ∀ r ∈ zLM, zMp r := by
  intro r h
  have e : zLM = [(0, 63, 6, 0), (0, 70, 7, 0), (0, 77, 4, 0), (0, 90, 5, 0), (1, 53, 254, 1), (1, 65, 18, 0), (1, 69, 17, 0), (1, 73, 11, 0), (1, 77, 20, 0), (3, 102, 36, 0), (3, 43, 30, 0), (3, 78, 34, 0), (4, 100, 49, 0), (4, 103, 48, 0), (4, 121, 46, 0), (4, 125, 47, 0), (4, 38, 39, 0), (4, 44, 40, 0), (4, 47, 41, 0), (4, 69, 42, 0)] ++ ([(4, 72, 43, 0), (4, 75, 44, 0), (4, 78, 45, 0), (4, 81, 50, 0), (5, 53, 53, 0), (5, 64, 54, 0), (5, 67, 56, 0), (5, 88, 253, 1), (7, 47, 75, 0), (7, 53, 76, 0), (7, 57, 74, 0), (7, 65, 79, 0), (7, 69, 77, 0), (7, 72, 80, 0), (7, 75, 78, 0), (7, 78, 81, 0), (8, 101, 90, 0), (8, 105, 99, 0), (8, 109, 100, 0), (8, 113, 87, 0)] ++ ([(8, 116, 101, 0), (8, 119, 102, 0), (8, 122, 91, 0), (8, 125, 92, 0), (8, 128, 104, 0), (8, 132, 253, 1), (8, 138, 111, 0), (8, 30, 254, 1), (8, 42, 88, 0), (8, 46, 85, 0), (8, 50, 89, 0), (8, 54, 94, 0), (8, 66, 98, 0), (8, 70, 86, 0), (8, 77, 95, 0), (8, 80, 97, 0), (8, 83, 96, 0), (8, 94, 103, 0), (9, 155, 149, 1), (9, 158, 150, 1)] ++ ([(9, 174, 153, 1), (9, 178, 152, 0), (9, 245, 151, 0), (9, 79, 116, 0), (10, 108, 156, 0), (10, 118, 157, 1), (10, 125, 160, 0), (10, 131, 158, 1), (10, 151, 159, 0), (10, 154, 161, 0), (10, 158, 162, 0), (10, 161, 164, 0), (10, 164, 165, 0), (10, 167, 163, 0), (10, 175, 169, 0), (10, 178, 170, 0), (10, 181, 166, 0), (10, 184, 167, 0), (10, 187, 168, 0), (10, 194, 171, 0)] ++ ([(10, 204, 178, 0), (10, 207, 173, 0), (10, 211, 210, 0), (10, 214, 180, 0), (10, 217, 181, 0), (10, 223, 183, 0), (10, 226, 186, 0), (10, 230, 185, 0), (10, 234, 188, 0), (10, 237, 190, 0), (10, 241, 189, 0), (10, 245, 187, 0), (10, 248, 191, 0), (10, 251, 194, 0), (10, 255, 193, 0), (10, 259, 195, 0), (10, 262, 196, 0), (10, 265, 197, 0), (10, 268, 184, 0), (10, 271, 192, 0)] ++ ([(10, 274, 182, 0), (10, 277, 198, 0), (10, 280, 199, 0), (10, 283, 203, 0), (10, 286, 204, 0), (10, 289, 205, 1), (10, 292, 206, 1), (10, 295, 200, 0), (10, 298, 201, 0), (10, 301, 207, 0), (10, 304, 212, 0), (10, 310, 214, 0), (10, 313, 216, 0), (10, 316, 219, 0), (10, 319, 222, 0), (10, 323, 224, 0), (10, 335, 226, 0), (10, 338, 229, 0), (10, 341, 232, 0), (10, 344, 235, 0)] ++ ([(10, 347, 236, 1), (10, 351, 238, 0), (10, 354, 241, 0), (10, 358, 248, 0), (10, 361, 252, 0), (10, 90, 172, 0), (10, 93, 174, 0)])))))) := rfl
  rw [e] at h
  simp only [List.mem_append] at h
  rcases h with h | h | h | h | h | h | h
  · exact zLM_ok_0 r h
  · exact zLM_ok_1 r h
  · exact zLM_ok_2 r h
  · exact zLM_ok_3 r h
  · exact zLM_ok_4 r h
  · exact zLM_ok_5 r h
  · exact zLM_ok_6 r h
theorem zLMn_ok_0 : ∀ r ∈ ([(0, 100, 27, 0), (0, 104, 93, 0), (0, 11, 82, 2), (0, 47, 83, 0), (0, 55, 84, 0), (3, 11, 82, 2), (3, 20, 23, 2), (3, 47, 91, 0), (3, 51, 83, 0), (3, 63, 93, 0), (3, 67, 26, 0), (3, 73, 24, 0), (3, 81, 25, 0), (3, 84, 27, 0), (3, 96, 94, 0), (4, 106, 15, 0), (4, 128, 16, 0), (4, 17, 72, 2), (4, 28, 73, 0), (4, 90, 13, 0)] : List _), zMn r := List.forall_mem_cons.mpr ⟨⟨"PackTracer", zE 849 (by decide +kernel) rfl⟩, List.forall_mem_cons.mpr ⟨⟨"PackTracer", zE 850 (by decide +kernel) rfl⟩, List.forall_mem_cons.mpr ⟨⟨"PackTracer", zE 312 (by decide +kernel) rfl⟩, List.forall_mem_cons.mpr ⟨⟨"PackTracer", zE 843 (by decide +kernel) rfl⟩, List.forall_mem_cons.mpr ⟨⟨"PackTracer", zE 844 (by decide +kernel) rfl⟩, List.forall_mem_cons.mpr ⟨⟨"PackTracer", zE 277 (by decide +kernel) rfl⟩, List.forall_mem_cons.mpr ⟨⟨"PackTracer", zE 279 (by decide +kernel) rfl⟩, List.forall_mem_cons.mpr ⟨⟨"PackTracer", zE 826 (by decide +kernel) rfl⟩, List.forall_mem_cons.mpr ⟨⟨"PackTracer", zE 824 (by decide +kernel) rfl⟩, List.forall_mem_cons.mpr ⟨⟨"PackTracer", zE 825 (by decide +kernel) rfl⟩, List.forall_mem_cons.mpr ⟨⟨"PackTracer", zE 952 (by decide +kernel) rfl⟩, List.forall_mem_cons.mpr ⟨⟨"PackTracer", zE 968 (by decide +kernel) rfl⟩, List.forall_mem_cons.mpr ⟨⟨"PackTracer", zE 973 (by decide +kernel) rfl⟩, List.forall_mem_cons.mpr ⟨⟨"PackTracer", zE 974 (by decide +kernel) rfl⟩, List.forall_mem_cons.mpr ⟨⟨"PackTracer", zE 983 (by decide +kernel) rfl⟩, List.forall_mem_cons.mpr ⟨⟨"PackTracer", zE 536 (by decide +kernel) rfl⟩, List.forall_mem_cons.mpr ⟨⟨"PackTracer", zE 568 (by decide +kernel) rfl⟩, List.forall_mem_cons.mpr ⟨⟨"PackTracer", zE 132 (by decide +kernel) rfl⟩, List.forall_mem_cons.mpr ⟨⟨"PackTracer", zE 404 (by decide +kernel) rfl⟩, List.forall_mem_cons.mpr ⟨⟨"PackTracer", zE 516 (by decide +kernel) rfl⟩, fun _ h => absurd h List.not_mem_nil⟩⟩⟩⟩⟩⟩⟩⟩⟩⟩⟩⟩⟩⟩⟩⟩⟩⟩⟩⟩
theorem zLMn_ok_1 : ∀ r ∈ ([(4, 94, 14, 0), (5, 103, 88, 0), (5, 107, 85, 0), (5, 11, 23, 2), (5, 111, 107, 0), (5, 115, 104, 0), (5, 20, 82, 2), (5, 36, 24, 0), (5, 40, 25, 0), (5, 43, 83, 0), (5, 57, 27, 0), (5, 60, 93, 0), (5, 71, 84, 0), (5, 75, 91, 0), (5, 78, 22, 0), (5, 84, 105, 0), (5, 94, 17, 0), (8, 97, 17, 0), (9, 104, 11, 0), (9, 107, 17, 0)] : List _), zMn r := List.forall_mem_cons.mpr ⟨⟨"PackTracer", zE 520 (by decide +kernel) rfl⟩, List.forall_mem_cons.mpr ⟨⟨"PackTracer", zE 881 (by decide +kernel) rfl⟩, List.forall_mem_cons.mpr ⟨⟨"PackTracer", zE 882 (by decide +kernel) rfl⟩, List.forall_mem_cons.mpr ⟨⟨"PackTracer", zE 201 (by decide +kernel) rfl⟩, List.forall_mem_cons.mpr ⟨⟨"PackTracer", zE 883 (by decide +kernel) rfl⟩, List.forall_mem_cons.mpr ⟨⟨"PackTracer", zE 895 (by decide +kernel) rfl⟩, List.forall_mem_cons.mpr ⟨⟨"PackTracer", zE 224 (by decide +kernel) rfl⟩, List.forall_mem_cons.mpr ⟨⟨"PackTracer", zE 591 (by decide +kernel) rfl⟩, List.forall_mem_cons.mpr ⟨⟨"PackTracer", zE 596 (by decide +kernel) rfl⟩, List.forall_mem_cons.mpr ⟨⟨"PackTracer", zE 600 (by decide +kernel) rfl⟩, List.forall_mem_cons.mpr ⟨⟨"PackTracer", zE 609 (by decide +kernel) rfl⟩, List.forall_mem_cons.mpr ⟨⟨"PackTracer", zE 613 (by decide +kernel) rfl⟩, List.forall_mem_cons.mpr ⟨⟨"PackTracer", zE 807 (by decide +kernel) rfl⟩, List.forall_mem_cons.mpr ⟨⟨"PackTracer", zE 784 (by decide +kernel) rfl⟩, List.forall_mem_cons.mpr ⟨⟨"PackTracer", zE 930 (by decide +kernel) rfl⟩, List.forall_mem_cons.mpr ⟨⟨"PackTracer", zE 943 (by decide +kernel) rfl⟩, List.forall_mem_cons.mpr ⟨⟨"PackTracer", zE 1020 (by decide +kernel) rfl⟩, List.forall_mem_cons.mpr ⟨⟨"PackTracer", zE 653 (by decide +kernel) rfl⟩, List.forall_mem_cons.mpr ⟨⟨"PackTracer", zE 698 (by decide +kernel) rfl⟩, List.forall_mem_cons.mpr ⟨⟨"PackTracer", zE 699 (by decide +kernel) rfl⟩, fun _ h => absurd h List.not_mem_nil⟩⟩⟩⟩⟩⟩⟩⟩⟩⟩⟩⟩⟩⟩⟩⟩⟩⟩⟩⟩
theorem zLMn_ok_2 : ∀ r ∈ ([(9, 111, 12, 0), (9, 141, 26, 0), (9, 147, 20, 0), (9, 161, 55, 0), (9, 165, 109, 0), (9, 170, 104, 0), (9, 18, 8, 2), (9, 181, 105, 0), (9, 184, 110, 0), (9, 187, 59, 0), (9, 192, 56, 0), (9, 195, 91, 0), (9, 198, 57, 0), (9, 201, 29, 0), (9, 204, 58, 0), (9, 207, 2, 0), (9, 216, 3, 0), (9, 228, 64, 0), (9, 232, 65, 0), (9, 236, 66, 0)] : List _), zMn r := List.forall_mem_cons.mpr ⟨⟨"PackTracer", zE 798 (by decide +kernel) rfl⟩, List.forall_mem_cons.mpr ⟨⟨"PackTracer", zE 1122 (by decide +kernel) rfl⟩, List.forall_mem_cons.mpr ⟨⟨"PackTracer", zE 1123 (by decide +kernel) rfl⟩, List.forall_mem_cons.mpr ⟨⟨"PackTracer", zE 710 (by decide +kernel) rfl⟩, List.forall_mem_cons.mpr ⟨⟨"PackTracer", zE 718 (by decide +kernel) rfl⟩, List.forall_mem_cons.mpr ⟨⟨"PackTracer", zE 744 (by decide +kernel) rfl⟩, List.forall_mem_cons.mpr ⟨⟨"PackTracer", zE 52 (by decide +kernel) rfl⟩, List.forall_mem_cons.mpr ⟨⟨"PackTracer", zE 760 (by decide +kernel) rfl⟩, List.forall_mem_cons.mpr ⟨⟨"PackTracer", zE 768 (by decide +kernel) rfl⟩, List.forall_mem_cons.mpr ⟨⟨"PackTracer", zE 780 (by decide +kernel) rfl⟩, List.forall_mem_cons.mpr ⟨⟨"PackTracer", zE 789 (by decide +kernel) rfl⟩, List.forall_mem_cons.mpr ⟨⟨"PackTracer", zE 793 (by decide +kernel) rfl⟩, List.forall_mem_cons.mpr ⟨⟨"PackTracer", zE 802 (by decide +kernel) rfl⟩, List.forall_mem_cons.mpr ⟨⟨"PackTracer", zE 816 (by decide +kernel) rfl⟩, List.forall_mem_cons.mpr ⟨⟨"PackTracer", zE 831 (by decide +kernel) rfl⟩, List.forall_mem_cons.mpr ⟨⟨"PackTracer", zE 839 (by decide +kernel) rfl⟩, List.forall_mem_cons.mpr ⟨⟨"PackTracer", zE 859 (by decide +kernel) rfl⟩, List.forall_mem_cons.mpr ⟨⟨"PackTracer", zE 877 (by decide +kernel) rfl⟩, List.forall_mem_cons.mpr ⟨⟨"PackTracer", zE 891 (by decide +kernel) rfl⟩, List.forall_mem_cons.mpr ⟨⟨"PackTracer", zE 900 (by decide +kernel) rfl⟩, fun _ h => absurd h List.not_mem_nil⟩⟩⟩⟩⟩⟩⟩⟩⟩⟩⟩⟩⟩⟩⟩⟩⟩⟩⟩⟩
theorem zLMn_ok_3 : ∀ r ∈ ([(9, 239, 67, 0), (9, 242, 108, 0), (9, 248, 60, 0), (9, 251, 61, 0), (9, 254, 31, 0), (9, 257, 32, 0), (9, 261, 35, 0), (9, 273, 106, 0), (9, 276, 33, 0), (9, 279, 63, 0), (9, 28, 37, 2), (9, 283, 62, 0), (9, 286, 68, 0), (9, 289, 92, 0), (9, 303, 21, 0), (9, 37, 51, 2), (9, 46, 28, 2), (9, 55, 0, 2), (9, 60, 70, 0), (9, 64, 71, 0)] : List _), zMn r := List.forall_mem_cons.mpr ⟨⟨"PackTracer", zE 910 (by decide +kernel) rfl⟩, List.forall_mem_cons.mpr ⟨⟨"PackTracer", zE 918 (by decide +kernel) rfl⟩, List.forall_mem_cons.mpr ⟨⟨"PackTracer", zE 926 (by decide +kernel) rfl⟩, List.forall_mem_cons.mpr ⟨⟨"PackTracer", zE 939 (by decide +kernel) rfl⟩, List.forall_mem_cons.mpr ⟨⟨"PackTracer", zE 948 (by decide +kernel) rfl⟩, List.forall_mem_cons.mpr ⟨⟨"PackTracer", zE 964 (by decide +kernel) rfl⟩, List.forall_mem_cons.mpr ⟨⟨"PackTracer", zE 979 (by decide +kernel) rfl⟩, List.forall_mem_cons.mpr ⟨⟨"PackTracer", zE 992 (by decide +kernel) rfl⟩, List.forall_mem_cons.mpr ⟨⟨"PackTracer", zE 1000 (by decide +kernel) rfl⟩, List.forall_mem_cons.mpr ⟨⟨"PackTracer", zE 1008 (by decide +kernel) rfl⟩, List.forall_mem_cons.mpr ⟨⟨"PackTracer", zE 126 (by decide +kernel) rfl⟩, List.forall_mem_cons.mpr ⟨⟨"PackTracer", zE 1016 (by decide +kernel) rfl⟩, List.forall_mem_cons.mpr ⟨⟨"PackTracer", zE 1025 (by decide +kernel) rfl⟩, List.forall_mem_cons.mpr ⟨⟨"PackTracer", zE 1033 (by decide +kernel) rfl⟩, List.forall_mem_cons.mpr ⟨⟨"PackTracer", zE 1039 (by decide +kernel) rfl⟩, List.forall_mem_cons.mpr ⟨⟨"PackTracer", zE 195 (by decide +kernel) rfl⟩, List.forall_mem_cons.mpr ⟨⟨"PackTracer", zE 272 (by decide +kernel) rfl⟩, List.forall_mem_cons.mpr ⟨⟨"PackTracer", zE 307 (by decide +kernel) rfl⟩, List.forall_mem_cons.mpr ⟨⟨"PackTracer", zE 381 (by decide +kernel) rfl⟩, List.forall_mem_cons.mpr ⟨⟨"PackTracer", zE 385 (by decide +kernel) rfl⟩, fun _ h => absurd h List.not_mem_nil⟩⟩⟩⟩⟩⟩⟩⟩⟩⟩⟩⟩⟩⟩⟩⟩⟩⟩⟩⟩
theorem zLMn_ok_4 : ∀ r ∈ ([(9, 72, 9, 0), (9, 75, 38, 0), (9, 83, 10, 0), (9, 86, 19, 0), (9, 89, 52, 0), (9, 9, 69, 2), (9, 92, 1, 0)] : List _), zMn r := List.forall_mem_cons.mpr ⟨⟨"PackTracer", zE 393 (by decide +kernel) rfl⟩, List.forall_mem_cons.mpr ⟨⟨"PackTracer", zE 400 (by decide +kernel) rfl⟩, List.forall_mem_cons.mpr ⟨⟨"PackTracer", zE 580 (by decide +kernel) rfl⟩, List.forall_mem_cons.mpr ⟨⟨"PackTracer", zE 576 (by decide +kernel) rfl⟩, List.forall_mem_cons.mpr ⟨⟨"PackTracer", zE 587 (by decide +kernel) rfl⟩, List.forall_mem_cons.mpr ⟨⟨"PackTracer", zE 35 (by decide +kernel) rfl⟩, List.forall_mem_cons.mpr ⟨⟨"PackTracer", zE 682 (by decide +kernel) rfl⟩, fun _ h => absurd h List.not_mem_nil⟩⟩⟩⟩⟩⟩⟩
theorem zLMn_ok : ∀ r ∈ zLMn, zMn r := by
  intro r h
  have e : zLMn = [(0, 100, 27, 0), (0, 104, 93, 0), (0, 11, 82, 2), (0, 47, 83, 0), (0, 55, 84, 0), (3, 11, 82, 2), (3, 20, 23, 2), (3, 47, 91, 0), (3, 51, 83, 0), (3, 63, 93, 0), (3, 67, 26, 0), (3, 73, 24, 0), (3, 81, 25, 0), (3, 84, 27, 0), (3, 96, 94, 0), (4, 106, 15, 0), (4, 128, 16, 0), (4, 17, 72, 2), (4, 28, 73, 0), (4, 90, 13, 0)] ++ ([(4, 94, 14, 0), (5, 103, 88, 0), (5, 107, 85, 0), (5, 11, 23, 2), (5, 111, 107, 0), (5, 115, 104, 0), (5, 20, 82, 2), (5, 36, 24, 0), (5, 40, 25, 0), (5, 43, 83, 0), (5, 57, 27, 0), (5, 60, 93, 0), (5, 71, 84, 0), (5, 75, 91, 0), (5, 78, 22, 0), (5, 84, 105, 0), (5, 94, 17, 0), (8, 97, 17, 0), (9, 104, 11, 0), (9, 107, 17, 0)] ++ ([(9, 111, 12, 0), (9, 141, 26, 0), (9, 147, 20, 0), (9, 161, 55, 0), (9, 165, 109, 0), (9, 170, 104, 0), (9, 18, 8, 2), (9, 181, 105, 0), (9, 184, 110, 0), (9, 187, 59, 0), (9, 192, 56, 0), (9, 195, 91, 0), (9, 198, 57, 0), (9, 201, 29, 0), (9, 204, 58, 0), (9, 207, 2, 0), (9, 216, 3, 0), (9, 228, 64, 0), (9, 232, 65, 0), (9, 236, 66, 0)] ++ ([(9, 239, 67, 0), (9, 242, 108, 0), (9, 248, 60, 0), (9, 251, 61, 0), (9, 254, 31, 0), (9, 257, 32, 0), (9, 261, 35, 0), (9, 273, 106, 0), (9, 276, 33, 0), (9, 279, 63, 0), (9, 28, 37, 2), (9, 283, 62, 0), (9, 286, 68, 0), (9, 289, 92, 0), (9, 303, 21, 0), (9, 37, 51, 2), (9, 46, 28, 2), (9, 55, 0, 2), (9, 60, 70, 0), (9, 64, 71, 0)] ++ ([(9, 72, 9, 0), (9, 75, 38, 0), (9, 83, 10, 0), (9, 86, 19, 0), (9, 89, 52, 0), (9, 9, 69, 2), (9, 92, 1, 0)])))) := rfl
  rw [e] at h
  simp only [List.mem_append] at h
  rcases h with h | h | h | h | h
  · exact zLMn_ok_0 r h
  · exact zLMn_ok_1 r h
  · exact zLMn_ok_2 r h
  · exact zLMn_ok_3 r h
  · exact zLMn_ok_4 r h
def zAp (r : Nat × Nat) : Prop := Cond.methodLink (zcn r.1) r.2 arraycopyName ∈ zBG
def zOp (r : Nat × Nat) : Prop := Cond.methodLink (zcn r.1) r.2 objectInit ∈ zBG
def zXp (r : Nat × Nat) : Prop := Cond.methodLink (zcn r.1) r.2 Lib.Math.max.name ∈ zBG
def zNp (r : Nat × Nat) : Prop := Cond.methodLink (zcn r.1) r.2 Lib.Math.min.name ∈ zBG
theorem zLx_ok_0 : ∀ r ∈ ([(0, 87), (1, 80), (5, 98), (7, 37), (9, 292)] : List _), zXp r := List.forall_mem_cons.mpr ⟨zT 868 (by decide +kernel) rfl, List.forall_mem_cons.mpr ⟨zT 934 (by decide +kernel) rfl, List.forall_mem_cons.mpr ⟨zT 905 (by decide +kernel) rfl, List.forall_mem_cons.mpr ⟨zT 411 (by decide +kernel) rfl, List.forall_mem_cons.mpr ⟨zT 1034 (by decide +kernel) rfl, fun _ h => absurd h List.not_mem_nil⟩⟩⟩⟩⟩
theorem zLx_ok : ∀ r ∈ zLx, zXp r := zLx_ok_0
theorem zLn_ok_0 : ∀ r ∈ ([(0, 81), (7, 31)] : List _), zNp r := List.forall_mem_cons.mpr ⟨zT 867 (by decide +kernel) rfl, List.forall_mem_cons.mpr ⟨zT 408 (by decide +kernel) rfl, fun _ h => absurd h List.not_mem_nil⟩⟩
theorem zLn_ok : ∀ r ∈ zLn, zNp r := zLn_ok_0
theorem zLa_ok_0 : ∀ r ∈ ([(1, 59), (2, 26), (8, 36)] : List _), zAp r := List.forall_mem_cons.mpr ⟨zT 584 (by decide +kernel) rfl, List.forall_mem_cons.mpr ⟨zT 595 (by decide +kernel) rfl, List.forall_mem_cons.mpr ⟨zT 811 (by decide +kernel) rfl, fun _ h => absurd h List.not_mem_nil⟩⟩⟩
theorem zLa_ok : ∀ r ∈ zLa, zAp r := zLa_ok_0
theorem zLo_ok_0 : ∀ r ∈ ([(0, 3), (1, 3), (2, 3), (3, 3), (4, 3), (5, 3), (6, 3), (7, 3), (8, 3), (9, 1), (10, 1)] : List _), zOp r := List.forall_mem_cons.mpr ⟨zT 310 (by decide +kernel) rfl, List.forall_mem_cons.mpr ⟨zT 55 (by decide +kernel) rfl, List.forall_mem_cons.mpr ⟨zT 204 (by decide +kernel) rfl, List.forall_mem_cons.mpr ⟨zT 275 (by decide +kernel) rfl, List.forall_mem_cons.mpr ⟨zT 129 (by decide +kernel) rfl, List.forall_mem_cons.mpr ⟨zT 198 (by decide +kernel) rfl, List.forall_mem_cons.mpr ⟨zT 38 (by decide +kernel) rfl, List.forall_mem_cons.mpr ⟨zT 135 (by decide +kernel) rfl, List.forall_mem_cons.mpr ⟨zT 227 (by decide +kernel) rfl, List.forall_mem_cons.mpr ⟨zT 30 (by decide +kernel) rfl, List.forall_mem_cons.mpr ⟨zT 1145 (by decide +kernel) rfl, fun _ h => absurd h List.not_mem_nil⟩⟩⟩⟩⟩⟩⟩⟩⟩⟩⟩
theorem zLo_ok : ∀ r ∈ zLo, zOp r := zLo_ok_0
def zWp (r : Nat × Nat × Nat) : Prop := ∃ (C : String) (T : u_T) (N : Nat), vwCl[r.2.2]? = some (C, T, N) ∧ Cond.classLink (zcn r.1) r.2.1 C ∈ zBG
theorem zLw_ok_0 : ∀ r ∈ ([(9, 7, 6), (9, 16, 1), (9, 26, 4), (9, 35, 5), (9, 44, 3), (9, 53, 0), (0, 9, 8), (3, 9, 8), (3, 18, 2), (4, 15, 7), (5, 9, 2), (5, 18, 8)] : List _), zWp r := List.forall_mem_cons.mpr ⟨⟨_, _, _, rfl, zT 33 (by decide +kernel) rfl⟩, List.forall_mem_cons.mpr ⟨⟨_, _, _, rfl, zT 50 (by decide +kernel) rfl⟩, List.forall_mem_cons.mpr ⟨⟨_, _, _, rfl, zT 124 (by decide +kernel) rfl⟩, List.forall_mem_cons.mpr ⟨⟨_, _, _, rfl, zT 193 (by decide +kernel) rfl⟩, List.forall_mem_cons.mpr ⟨⟨_, _, _, rfl, zT 270 (by decide +kernel) rfl⟩, List.forall_mem_cons.mpr ⟨⟨_, _, _, rfl, zT 305 (by decide +kernel) rfl⟩, List.forall_mem_cons.mpr ⟨⟨_, _, _, rfl, zT 311 (by decide +kernel) rfl⟩, List.forall_mem_cons.mpr ⟨⟨_, _, _, rfl, zT 276 (by decide +kernel) rfl⟩, List.forall_mem_cons.mpr ⟨⟨_, _, _, rfl, zT 278 (by decide +kernel) rfl⟩, List.forall_mem_cons.mpr ⟨⟨_, _, _, rfl, zT 130 (by decide +kernel) rfl⟩, List.forall_mem_cons.mpr ⟨⟨_, _, _, rfl, zT 199 (by decide +kernel) rfl⟩, List.forall_mem_cons.mpr ⟨⟨_, _, _, rfl, zT 222 (by decide +kernel) rfl⟩, fun _ h => absurd h List.not_mem_nil⟩⟩⟩⟩⟩⟩⟩⟩⟩⟩⟩⟩
theorem zLw_ok : ∀ r ∈ zLw, zWp r := zLw_ok_0
def zIp (r : Nat × Nat × Nat) : Prop := Cond.constant (zcn r.1) r.2.1 (Int32.ofNat r.2.2) ∈ zBG
def zJp (r : Nat × Nat × Nat) : Prop := Cond.constantLong (zcn r.1) r.2.1 (Int64.ofNat r.2.2) ∈ zBG
theorem zLi_ok_0 : ∀ r ∈ ([(7, 81, 100000), (10, 193, 100000)] : List _), zIp r := List.forall_mem_cons.mpr ⟨zT 491 (by decide +kernel) rfl, List.forall_mem_cons.mpr ⟨zT 1150 (by decide +kernel) rfl, fun _ h => absurd h List.not_mem_nil⟩⟩
theorem zLi_ok : ∀ r ∈ zLi, zIp r := zLi_ok_0
theorem zLl_ok_0 : ∀ r ∈ ([(11, 314, 6148914691236517205), (11, 316, 3689348814741910323), (11, 318, 1085102592571150095)] : List _), zJp r := List.forall_mem_cons.mpr ⟨zT 737 (by decide +kernel) rfl, List.forall_mem_cons.mpr ⟨zT 738 (by decide +kernel) rfl, List.forall_mem_cons.mpr ⟨zT 739 (by decide +kernel) rfl, fun _ h => absurd h List.not_mem_nil⟩⟩⟩
theorem zLl_ok : ∀ r ∈ zLl, zJp r := zLl_ok_0
/-- String constants: how length and charAt are called of them -/
def zTp (r : Nat × Nat × Nat × Nat × Nat) : Prop := r.2.2.1 < 2 ∧ r.2.2.2.2 < 2 ∧ Cond.methodLink (zcn r.1) r.2.2.2.1 (if r.2.2.2.2 = 0 then yJ0_length_8abf5 else yJ0_charAt_5068e) ∈ zBG
theorem zLt_ok_0 : ∀ r ∈ ([(7, 82, 0, 84, 0), (7, 82, 0, 89, 1), (10, 134, 1, 136, 0), (10, 134, 1, 141, 1)] : List _), zTp r := List.forall_mem_cons.mpr ⟨⟨by decide, by decide, zT 435 (by decide +kernel) rfl⟩, List.forall_mem_cons.mpr ⟨⟨by decide, by decide, zT 445 (by decide +kernel) rfl⟩, List.forall_mem_cons.mpr ⟨⟨by decide, by decide, zT 1324 (by decide +kernel) rfl⟩, List.forall_mem_cons.mpr ⟨⟨by decide, by decide, zT 1325 (by decide +kernel) rfl⟩, fun _ h => absurd h List.not_mem_nil⟩⟩⟩⟩
theorem zLt_ok : ∀ r ∈ zLt, zTp r := zLt_ok_0
/-- a class: its fields as the tables lay them, their types by the default values, it can be made -/
def zCp (c : Nat) : Prop := ∃ (C : String) (T : u_T) (N : Nat) (ty : Nat → FieldType), vwCl[c]? = some (C, T, N) ∧ (∀ w ∈ u_ws C T N, w ∈ zBG) ∧ (∀ k, k < N → parseFieldDescriptor (T k).2.2.1 = some (ty k)) ∧ (∀ a, a < N → ∀ b, b < N → a ≠ b → (T a).2.1 ≠ (T b).2.1) ∧ Cond.instantiable C N ∈ zBG ∧ Cond.initialized C ∈ zBG ∧ zcn c = C ∧ (zD c).length = N ∧ ∀ k, k < N → defaultValue (ty k) = vp_V (zD c) k
theorem zC_0 : zCp 0 := ⟨_, _, _, tyX0, rfl, (show ∀ w ∈ ([u_lay RX0 TX0 0, u_lay RX0 TX0 1, u_lay RX0 TX0 2, u_lay RX0 TX0 3, u_lay RX0 TX0 4, u_lay RX0 TX0 5, u_lay RX0 TX0 6, u_lay RX0 TX0 7, u_lay RX0 TX0 8, u_lay RX0 TX0 9, u_lay RX0 TX0 10, u_lay RX0 TX0 11] : List Cond), w ∈ zBG from List.forall_mem_cons.mpr ⟨zT 330 (by decide +kernel) (by decide +kernel), List.forall_mem_cons.mpr ⟨zT 332 (by decide +kernel) (by decide +kernel), List.forall_mem_cons.mpr ⟨zT 334 (by decide +kernel) (by decide +kernel), List.forall_mem_cons.mpr ⟨zT 336 (by decide +kernel) (by decide +kernel), List.forall_mem_cons.mpr ⟨zT 338 (by decide +kernel) (by decide +kernel), List.forall_mem_cons.mpr ⟨zT 340 (by decide +kernel) (by decide +kernel), List.forall_mem_cons.mpr ⟨zT 342 (by decide +kernel) (by decide +kernel), List.forall_mem_cons.mpr ⟨zT 344 (by decide +kernel) (by decide +kernel), List.forall_mem_cons.mpr ⟨zT 346 (by decide +kernel) (by decide +kernel), List.forall_mem_cons.mpr ⟨zT 348 (by decide +kernel) (by decide +kernel), List.forall_mem_cons.mpr ⟨zT 350 (by decide +kernel) (by decide +kernel), List.forall_mem_cons.mpr ⟨zT 352 (by decide +kernel) (by decide +kernel), fun _ h => absurd h List.not_mem_nil⟩⟩⟩⟩⟩⟩⟩⟩⟩⟩⟩⟩), tyX0_ok, nmX0, zT 306 (by decide +kernel) rfl, zT 10 (by decide +kernel) rfl, rfl, rfl, by decide +kernel⟩
theorem zC_1 : zCp 1 := ⟨_, _, _, tyX1, rfl, (show ∀ w ∈ ([u_lay RX1 TX1 0, u_lay RX1 TX1 1, u_lay RX1 TX1 2, u_lay RX1 TX1 3, u_lay RX1 TX1 4, u_lay RX1 TX1 5, u_lay RX1 TX1 6, u_lay RX1 TX1 7, u_lay RX1 TX1 8, u_lay RX1 TX1 9, u_lay RX1 TX1 10, u_lay RX1 TX1 11, u_lay RX1 TX1 12] : List Cond), w ∈ zBG from List.forall_mem_cons.mpr ⟨zT 96 (by decide +kernel) (by decide +kernel), List.forall_mem_cons.mpr ⟨zT 98 (by decide +kernel) (by decide +kernel), List.forall_mem_cons.mpr ⟨zT 100 (by decide +kernel) (by decide +kernel), List.forall_mem_cons.mpr ⟨zT 102 (by decide +kernel) (by decide +kernel), List.forall_mem_cons.mpr ⟨zT 104 (by decide +kernel) (by decide +kernel), List.forall_mem_cons.mpr ⟨zT 106 (by decide +kernel) (by decide +kernel), List.forall_mem_cons.mpr ⟨zT 108 (by decide +kernel) (by decide +kernel), List.forall_mem_cons.mpr ⟨zT 110 (by decide +kernel) (by decide +kernel), List.forall_mem_cons.mpr ⟨zT 112 (by decide +kernel) (by decide +kernel), List.forall_mem_cons.mpr ⟨zT 114 (by decide +kernel) (by decide +kernel), List.forall_mem_cons.mpr ⟨zT 116 (by decide +kernel) (by decide +kernel), List.forall_mem_cons.mpr ⟨zT 118 (by decide +kernel) (by decide +kernel), List.forall_mem_cons.mpr ⟨zT 120 (by decide +kernel) (by decide +kernel), fun _ h => absurd h List.not_mem_nil⟩⟩⟩⟩⟩⟩⟩⟩⟩⟩⟩⟩⟩), tyX1_ok, nmX1, zT 51 (by decide +kernel) rfl, zT 3 (by decide +kernel) rfl, rfl, rfl, by decide +kernel⟩
theorem zC_2 : zCp 2 := ⟨_, _, _, tyX2, rfl, (show ∀ w ∈ ([u_lay RX2 TX2 0, u_lay RX2 TX2 1, u_lay RX2 TX2 2] : List Cond), w ∈ zBG from List.forall_mem_cons.mpr ⟨zT 215 (by decide +kernel) (by decide +kernel), List.forall_mem_cons.mpr ⟨zT 217 (by decide +kernel) (by decide +kernel), List.forall_mem_cons.mpr ⟨zT 219 (by decide +kernel) (by decide +kernel), fun _ h => absurd h List.not_mem_nil⟩⟩⟩), tyX2_ok, nmX2, zT 200 (by decide +kernel) rfl, zT 7 (by decide +kernel) rfl, rfl, rfl, by decide +kernel⟩
theorem zC_3 : zCp 3 := ⟨_, _, _, tyX3, rfl, (show ∀ w ∈ ([u_lay RX3 TX3 0, u_lay RX3 TX3 1, u_lay RX3 TX3 2, u_lay RX3 TX3 3, u_lay RX3 TX3 4, u_lay RX3 TX3 5, u_lay RX3 TX3 6] : List Cond), w ∈ zBG from List.forall_mem_cons.mpr ⟨zT 290 (by decide +kernel) (by decide +kernel), List.forall_mem_cons.mpr ⟨zT 292 (by decide +kernel) (by decide +kernel), List.forall_mem_cons.mpr ⟨zT 294 (by decide +kernel) (by decide +kernel), List.forall_mem_cons.mpr ⟨zT 296 (by decide +kernel) (by decide +kernel), List.forall_mem_cons.mpr ⟨zT 298 (by decide +kernel) (by decide +kernel), List.forall_mem_cons.mpr ⟨zT 300 (by decide +kernel) (by decide +kernel), List.forall_mem_cons.mpr ⟨zT 302 (by decide +kernel) (by decide +kernel), fun _ h => absurd h List.not_mem_nil⟩⟩⟩⟩⟩⟩⟩), tyX3_ok, nmX3, zT 271 (by decide +kernel) rfl, zT 9 (by decide +kernel) rfl, rfl, rfl, by decide +kernel⟩
theorem zC_4 : zCp 4 := ⟨_, _, _, tyX4, rfl, (show ∀ w ∈ ([u_lay RX4 TX4 0, u_lay RX4 TX4 1, u_lay RX4 TX4 2, u_lay RX4 TX4 3, u_lay RX4 TX4 4, u_lay RX4 TX4 5, u_lay RX4 TX4 6, u_lay RX4 TX4 7] : List Cond), w ∈ zBG from List.forall_mem_cons.mpr ⟨zT 176 (by decide +kernel) (by decide +kernel), List.forall_mem_cons.mpr ⟨zT 178 (by decide +kernel) (by decide +kernel), List.forall_mem_cons.mpr ⟨zT 180 (by decide +kernel) (by decide +kernel), List.forall_mem_cons.mpr ⟨zT 182 (by decide +kernel) (by decide +kernel), List.forall_mem_cons.mpr ⟨zT 184 (by decide +kernel) (by decide +kernel), List.forall_mem_cons.mpr ⟨zT 186 (by decide +kernel) (by decide +kernel), List.forall_mem_cons.mpr ⟨zT 188 (by decide +kernel) (by decide +kernel), List.forall_mem_cons.mpr ⟨zT 190 (by decide +kernel) (by decide +kernel), fun _ h => absurd h List.not_mem_nil⟩⟩⟩⟩⟩⟩⟩⟩), tyX4_ok, nmX4, zT 125 (by decide +kernel) rfl, zT 4 (by decide +kernel) rfl, rfl, rfl, by decide +kernel⟩
theorem zC_5 : zCp 5 := ⟨_, _, _, tyX5, rfl, (show ∀ w ∈ ([u_lay RX5 TX5 0, u_lay RX5 TX5 1, u_lay RX5 TX5 2, u_lay RX5 TX5 3, u_lay RX5 TX5 4] : List Cond), w ∈ zBG from List.forall_mem_cons.mpr ⟨zT 259 (by decide +kernel) (by decide +kernel), List.forall_mem_cons.mpr ⟨zT 261 (by decide +kernel) (by decide +kernel), List.forall_mem_cons.mpr ⟨zT 263 (by decide +kernel) (by decide +kernel), List.forall_mem_cons.mpr ⟨zT 265 (by decide +kernel) (by decide +kernel), List.forall_mem_cons.mpr ⟨zT 267 (by decide +kernel) (by decide +kernel), fun _ h => absurd h List.not_mem_nil⟩⟩⟩⟩⟩), tyX5_ok, nmX5, zT 194 (by decide +kernel) rfl, zT 6 (by decide +kernel) rfl, rfl, rfl, by decide +kernel⟩
theorem zC_6 : zCp 6 := ⟨_, _, _, tyX6, rfl, (show ∀ w ∈ ([u_lay RX6 TX6 0, u_lay RX6 TX6 1] : List Cond), w ∈ zBG from List.forall_mem_cons.mpr ⟨zT 44 (by decide +kernel) (by decide +kernel), List.forall_mem_cons.mpr ⟨zT 46 (by decide +kernel) (by decide +kernel), fun _ h => absurd h List.not_mem_nil⟩⟩), tyX6_ok, nmX6, zT 34 (by decide +kernel) rfl, zT 2 (by decide +kernel) rfl, rfl, rfl, by decide +kernel⟩
theorem zC_7 : zCp 7 := ⟨_, _, _, tyX7, rfl, (show ∀ w ∈ ([u_lay RX7 TX7 0, u_lay RX7 TX7 1, u_lay RX7 TX7 2, u_lay RX7 TX7 3, u_lay RX7 TX7 4, u_lay RX7 TX7 5, u_lay RX7 TX7 6, u_lay RX7 TX7 7] : List Cond), w ∈ zBG from List.forall_mem_cons.mpr ⟨zT 148 (by decide +kernel) (by decide +kernel), List.forall_mem_cons.mpr ⟨zT 150 (by decide +kernel) (by decide +kernel), List.forall_mem_cons.mpr ⟨zT 152 (by decide +kernel) (by decide +kernel), List.forall_mem_cons.mpr ⟨zT 154 (by decide +kernel) (by decide +kernel), List.forall_mem_cons.mpr ⟨zT 156 (by decide +kernel) (by decide +kernel), List.forall_mem_cons.mpr ⟨zT 158 (by decide +kernel) (by decide +kernel), List.forall_mem_cons.mpr ⟨zT 160 (by decide +kernel) (by decide +kernel), List.forall_mem_cons.mpr ⟨zT 162 (by decide +kernel) (by decide +kernel), fun _ h => absurd h List.not_mem_nil⟩⟩⟩⟩⟩⟩⟩⟩), tyX7_ok, nmX7, zT 131 (by decide +kernel) rfl, zT 5 (by decide +kernel) rfl, rfl, rfl, by decide +kernel⟩
theorem zC_8 : zCp 8 := ⟨_, _, _, tyX8, rfl, (show ∀ w ∈ ([u_lay RX8 TX8 0, u_lay RX8 TX8 1, u_lay RX8 TX8 2, u_lay RX8 TX8 3, u_lay RX8 TX8 4, u_lay RX8 TX8 5] : List Cond), w ∈ zBG from List.forall_mem_cons.mpr ⟨zT 234 (by decide +kernel) (by decide +kernel), List.forall_mem_cons.mpr ⟨zT 236 (by decide +kernel) (by decide +kernel), List.forall_mem_cons.mpr ⟨zT 238 (by decide +kernel) (by decide +kernel), List.forall_mem_cons.mpr ⟨zT 240 (by decide +kernel) (by decide +kernel), List.forall_mem_cons.mpr ⟨zT 242 (by decide +kernel) (by decide +kernel), List.forall_mem_cons.mpr ⟨zT 244 (by decide +kernel) (by decide +kernel), fun _ h => absurd h List.not_mem_nil⟩⟩⟩⟩⟩⟩), tyX8_ok, nmX8, zT 223 (by decide +kernel) rfl, zT 8 (by decide +kernel) rfl, rfl, rfl, by decide +kernel⟩
theorem zC_9 : zCp 9 := ⟨_, _, _, tyX9, rfl, (show ∀ w ∈ ([u_lay RX9 TX9 0, u_lay RX9 TX9 1, u_lay RX9 TX9 2, u_lay RX9 TX9 3, u_lay RX9 TX9 4, u_lay RX9 TX9 5, u_lay RX9 TX9 6] : List Cond), w ∈ zBG from List.forall_mem_cons.mpr ⟨zT 362 (by decide +kernel) (by decide +kernel), List.forall_mem_cons.mpr ⟨zT 364 (by decide +kernel) (by decide +kernel), List.forall_mem_cons.mpr ⟨zT 366 (by decide +kernel) (by decide +kernel), List.forall_mem_cons.mpr ⟨zT 368 (by decide +kernel) (by decide +kernel), List.forall_mem_cons.mpr ⟨zT 370 (by decide +kernel) (by decide +kernel), List.forall_mem_cons.mpr ⟨zT 372 (by decide +kernel) (by decide +kernel), List.forall_mem_cons.mpr ⟨zT 374 (by decide +kernel) (by decide +kernel), fun _ h => absurd h List.not_mem_nil⟩⟩⟩⟩⟩⟩⟩), tyX9_ok, nmX9, zT 26 (by decide +kernel) rfl, zT 1 (by decide +kernel) rfl, rfl, rfl, by decide +kernel⟩
theorem zC_10 : zCp 10 := ⟨_, _, _, tyX10, rfl, (show ∀ w ∈ ([u_lay RX10 TX10 0, u_lay RX10 TX10 1, u_lay RX10 TX10 2, u_lay RX10 TX10 3, u_lay RX10 TX10 4, u_lay RX10 TX10 5, u_lay RX10 TX10 6, u_lay RX10 TX10 7, u_lay RX10 TX10 8, u_lay RX10 TX10 9, u_lay RX10 TX10 10, u_lay RX10 TX10 11, u_lay RX10 TX10 12, u_lay RX10 TX10 13, u_lay RX10 TX10 14, u_lay RX10 TX10 15, u_lay RX10 TX10 16, u_lay RX10 TX10 17, u_lay RX10 TX10 18, u_lay RX10 TX10 19, u_lay RX10 TX10 20, u_lay RX10 TX10 21, u_lay RX10 TX10 22, u_lay RX10 TX10 23, u_lay RX10 TX10 24, u_lay RX10 TX10 25, u_lay RX10 TX10 26, u_lay RX10 TX10 27, u_lay RX10 TX10 28, u_lay RX10 TX10 29, u_lay RX10 TX10 30, u_lay RX10 TX10 31, u_lay RX10 TX10 32, u_lay RX10 TX10 33, u_lay RX10 TX10 34, u_lay RX10 TX10 35, u_lay RX10 TX10 36, u_lay RX10 TX10 37, u_lay RX10 TX10 38, u_lay RX10 TX10 39, u_lay RX10 TX10 40, u_lay RX10 TX10 41, u_lay RX10 TX10 42, u_lay RX10 TX10 43, u_lay RX10 TX10 44] : List Cond), w ∈ zBG from List.forall_mem_cons.mpr ⟨zT 1204 (by decide +kernel) (by decide +kernel), List.forall_mem_cons.mpr ⟨zT 1206 (by decide +kernel) (by decide +kernel), List.forall_mem_cons.mpr ⟨zT 1208 (by decide +kernel) (by decide +kernel), List.forall_mem_cons.mpr ⟨zT 1210 (by decide +kernel) (by decide +kernel), List.forall_mem_cons.mpr ⟨zT 1212 (by decide +kernel) (by decide +kernel), List.forall_mem_cons.mpr ⟨zT 1214 (by decide +kernel) (by decide +kernel), List.forall_mem_cons.mpr ⟨zT 1216 (by decide +kernel) (by decide +kernel), List.forall_mem_cons.mpr ⟨zT 1218 (by decide +kernel) (by decide +kernel), List.forall_mem_cons.mpr ⟨zT 1220 (by decide +kernel) (by decide +kernel), List.forall_mem_cons.mpr ⟨zT 1222 (by decide +kernel) (by decide +kernel), List.forall_mem_cons.mpr ⟨zT 1224 (by decide +kernel) (by decide +kernel), List.forall_mem_cons.mpr ⟨zT 1226 (by decide +kernel) (by decide +kernel), List.forall_mem_cons.mpr ⟨zT 1228 (by decide +kernel) (by decide +kernel), List.forall_mem_cons.mpr ⟨zT 1230 (by decide +kernel) (by decide +kernel), List.forall_mem_cons.mpr ⟨zT 1232 (by decide +kernel) (by decide +kernel), List.forall_mem_cons.mpr ⟨zT 1234 (by decide +kernel) (by decide +kernel), List.forall_mem_cons.mpr ⟨zT 1236 (by decide +kernel) (by decide +kernel), List.forall_mem_cons.mpr ⟨zT 1238 (by decide +kernel) (by decide +kernel), List.forall_mem_cons.mpr ⟨zT 1240 (by decide +kernel) (by decide +kernel), List.forall_mem_cons.mpr ⟨zT 1242 (by decide +kernel) (by decide +kernel), List.forall_mem_cons.mpr ⟨zT 1244 (by decide +kernel) (by decide +kernel), List.forall_mem_cons.mpr ⟨zT 1246 (by decide +kernel) (by decide +kernel), List.forall_mem_cons.mpr ⟨zT 1248 (by decide +kernel) (by decide +kernel), List.forall_mem_cons.mpr ⟨zT 1250 (by decide +kernel) (by decide +kernel), List.forall_mem_cons.mpr ⟨zT 1252 (by decide +kernel) (by decide +kernel), List.forall_mem_cons.mpr ⟨zT 1254 (by decide +kernel) (by decide +kernel), List.forall_mem_cons.mpr ⟨zT 1256 (by decide +kernel) (by decide +kernel), List.forall_mem_cons.mpr ⟨zT 1258 (by decide +kernel) (by decide +kernel), List.forall_mem_cons.mpr ⟨zT 1260 (by decide +kernel) (by decide +kernel), List.forall_mem_cons.mpr ⟨zT 1262 (by decide +kernel) (by decide +kernel), List.forall_mem_cons.mpr ⟨zT 1264 (by decide +kernel) (by decide +kernel), List.forall_mem_cons.mpr ⟨zT 1266 (by decide +kernel) (by decide +kernel), List.forall_mem_cons.mpr ⟨zT 1268 (by decide +kernel) (by decide +kernel), List.forall_mem_cons.mpr ⟨zT 1270 (by decide +kernel) (by decide +kernel), List.forall_mem_cons.mpr ⟨zT 1272 (by decide +kernel) (by decide +kernel), List.forall_mem_cons.mpr ⟨zT 1274 (by decide +kernel) (by decide +kernel), List.forall_mem_cons.mpr ⟨zT 1276 (by decide +kernel) (by decide +kernel), List.forall_mem_cons.mpr ⟨zT 1278 (by decide +kernel) (by decide +kernel), List.forall_mem_cons.mpr ⟨zT 1280 (by decide +kernel) (by decide +kernel), List.forall_mem_cons.mpr ⟨zT 1282 (by decide +kernel) (by decide +kernel), List.forall_mem_cons.mpr ⟨zT 1284 (by decide +kernel) (by decide +kernel), List.forall_mem_cons.mpr ⟨zT 1286 (by decide +kernel) (by decide +kernel), List.forall_mem_cons.mpr ⟨zT 1288 (by decide +kernel) (by decide +kernel), List.forall_mem_cons.mpr ⟨zT 1290 (by decide +kernel) (by decide +kernel), List.forall_mem_cons.mpr ⟨zT 1292 (by decide +kernel) (by decide +kernel), fun _ h => absurd h List.not_mem_nil⟩⟩⟩⟩⟩⟩⟩⟩⟩⟩⟩⟩⟩⟩⟩⟩⟩⟩⟩⟩⟩⟩⟩⟩⟩⟩⟩⟩⟩⟩⟩⟩⟩⟩⟩⟩⟩⟩⟩⟩⟩⟩⟩⟩⟩), tyX10_ok, nmX10, zT 1141 (by decide +kernel) rfl, zT 11 (by decide +kernel) rfl, rfl, rfl, by decide +kernel⟩
/-- a method: its name, its words, how it is called (0 virtual, 1 static, 2 a constructor) -/
def zMf (j : Nat) : Prop := plainName (zM j).1.cls = true ∧ ((zM j).1.cls ≠ "java/lang/invoke/MethodHandle" ∧ (zM j).1.cls ≠ "java/lang/invoke/VarHandle") ∧ (zM j).1.cls = zcn (zM j).2.2.2.2.2.2.2.2.2 ∧ zN j = (zM j).2.2.1 ∧ Cond.code (zM j).1 (zM j).2.1 (zM j).2.2.1 (zM j).2.2.2.1 ∈ zBG ∧ Cond.initialized (zM j).1.cls ∈ zBG
def zMv (j : Nat) : Prop := (parseMethodDescriptor (zM j).1.desc).map (fun d => d.parameters.length) = some ((zM j).2.2.2.2.1 - 1) ∧ 0 < (zM j).2.2.2.2.1 ∧ Cond.instanceMethod (zM j).1 ∈ zBG ∧ Cond.selects (zM j).1.cls (zM j).1 (zM j).1 ∈ zBG
def zMs (j : Nat) : Prop := (parseMethodDescriptor (zM j).1.desc).map (fun d => d.parameters.length) = some (zM j).2.2.2.2.1 ∧ Cond.static (zM j).1 ∈ zBG
def zMi (j : Nat) : Prop := (parseMethodDescriptor (zM j).1.desc).map (fun d => d.parameters.length) = some ((zM j).2.2.2.2.1 - 1) ∧ 0 < (zM j).2.2.2.2.1 ∧ Cond.instanceMethod (zM j).1 ∈ zBG ∧ (zM j).1.name = "<init>" ∧ (zM j).2.2.2.1 = none
theorem zMf_0 : zMf 0 := ⟨by decide +kernel, ⟨by decide +kernel, by decide +kernel⟩, rfl, rfl, zT 309 (by decide +kernel) rfl, zT 10 (by decide +kernel) rfl⟩
theorem zMk_0 : zMi 0 := ⟨by decide +kernel, by decide, zT 308 (by decide +kernel) rfl, rfl, rfl⟩
theorem zMf_1 : zMf 1 := ⟨by decide +kernel, ⟨by decide +kernel, by decide +kernel⟩, rfl, rfl, zT 685 (by decide +kernel) rfl, zT 10 (by decide +kernel) rfl⟩
theorem zMk_1 : zMv 1 := ⟨by decide +kernel, by decide, zT 684 (by decide +kernel) rfl, zS 58 (by decide +kernel) rfl⟩
theorem zMf_2 : zMf 2 := ⟨by decide +kernel, ⟨by decide +kernel, by decide +kernel⟩, rfl, rfl, zT 842 (by decide +kernel) rfl, zT 10 (by decide +kernel) rfl⟩
theorem zMk_2 : zMv 2 := ⟨by decide +kernel, by decide, zT 841 (by decide +kernel) rfl, zS 78 (by decide +kernel) rfl⟩
theorem zMf_3 : zMf 3 := ⟨by decide +kernel, ⟨by decide +kernel, by decide +kernel⟩, rfl, rfl, zT 862 (by decide +kernel) rfl, zT 10 (by decide +kernel) rfl⟩
theorem zMk_3 : zMv 3 := ⟨by decide +kernel, by decide, zT 861 (by decide +kernel) rfl, zS 81 (by decide +kernel) rfl⟩
theorem zMf_4 : zMf 4 := ⟨by decide +kernel, ⟨by decide +kernel, by decide +kernel⟩, rfl, rfl, zT 866 (by decide +kernel) rfl, zT 10 (by decide +kernel) rfl⟩
theorem zMk_4 : zMv 4 := ⟨by decide +kernel, by decide, zT 865 (by decide +kernel) rfl, zS 82 (by decide +kernel) rfl⟩
theorem zMf_5 : zMf 5 := ⟨by decide +kernel, ⟨by decide +kernel, by decide +kernel⟩, rfl, rfl, zT 872 (by decide +kernel) rfl, zT 10 (by decide +kernel) rfl⟩
theorem zMk_5 : zMv 5 := ⟨by decide +kernel, by decide, zT 871 (by decide +kernel) rfl, zS 83 (by decide +kernel) rfl⟩
theorem zMf_6 : zMf 6 := ⟨by decide +kernel, ⟨by decide +kernel, by decide +kernel⟩, rfl, rfl, zT 848 (by decide +kernel) rfl, zT 10 (by decide +kernel) rfl⟩
theorem zMk_6 : zMv 6 := ⟨by decide +kernel, by decide, zT 847 (by decide +kernel) rfl, zS 79 (by decide +kernel) rfl⟩
theorem zMf_7 : zMf 7 := ⟨by decide +kernel, ⟨by decide +kernel, by decide +kernel⟩, rfl, rfl, zT 854 (by decide +kernel) rfl, zT 10 (by decide +kernel) rfl⟩
theorem zMk_7 : zMv 7 := ⟨by decide +kernel, by decide, zT 853 (by decide +kernel) rfl, zS 80 (by decide +kernel) rfl⟩
theorem zMf_8 : zMf 8 := ⟨by decide +kernel, ⟨by decide +kernel, by decide +kernel⟩, rfl, rfl, zT 54 (by decide +kernel) rfl, zT 3 (by decide +kernel) rfl⟩
theorem zMk_8 : zMi 8 := ⟨by decide +kernel, by decide, zT 53 (by decide +kernel) rfl, rfl, rfl⟩
theorem zMf_9 : zMf 9 := ⟨by decide +kernel, ⟨by decide +kernel, by decide +kernel⟩, rfl, rfl, zT 396 (by decide +kernel) rfl, zT 3 (by decide +kernel) rfl⟩
theorem zMk_9 : zMv 9 := ⟨by decide +kernel, by decide, zT 395 (by decide +kernel) rfl, zS 2 (by decide +kernel) rfl⟩
theorem zMf_10 : zMf 10 := ⟨by decide +kernel, ⟨by decide +kernel, by decide +kernel⟩, rfl, rfl, zT 583 (by decide +kernel) rfl, zT 3 (by decide +kernel) rfl⟩
theorem zMk_10 : zMv 10 := ⟨by decide +kernel, by decide, zT 582 (by decide +kernel) rfl, zS 34 (by decide +kernel) rfl⟩
theorem zMf_11 : zMf 11 := ⟨by decide +kernel, ⟨by decide +kernel, by decide +kernel⟩, rfl, rfl, zT 551 (by decide +kernel) rfl, zT 3 (by decide +kernel) rfl⟩
theorem zMk_11 : zMv 11 := ⟨by decide +kernel, by decide, zT 550 (by decide +kernel) rfl, zS 26 (by decide +kernel) rfl⟩
theorem zMf_12 : zMf 12 := ⟨by decide +kernel, ⟨by decide +kernel, by decide +kernel⟩, rfl, rfl, zT 801 (by decide +kernel) rfl, zT 3 (by decide +kernel) rfl⟩
theorem zMk_12 : zMv 12 := ⟨by decide +kernel, by decide, zT 800 (by decide +kernel) rfl, zS 72 (by decide +kernel) rfl⟩
theorem zMf_13 : zMf 13 := ⟨by decide +kernel, ⟨by decide +kernel, by decide +kernel⟩, rfl, rfl, zT 519 (by decide +kernel) rfl, zT 3 (by decide +kernel) rfl⟩
theorem zMk_13 : zMv 13 := ⟨by decide +kernel, by decide, zT 518 (by decide +kernel) rfl, zS 18 (by decide +kernel) rfl⟩
theorem zMf_14 : zMf 14 := ⟨by decide +kernel, ⟨by decide +kernel, by decide +kernel⟩, rfl, rfl, zT 523 (by decide +kernel) rfl, zT 3 (by decide +kernel) rfl⟩
theorem zMk_14 : zMv 14 := ⟨by decide +kernel, by decide, zT 522 (by decide +kernel) rfl, zS 19 (by decide +kernel) rfl⟩
theorem zMf_15 : zMf 15 := ⟨by decide +kernel, ⟨by decide +kernel, by decide +kernel⟩, rfl, rfl, zT 539 (by decide +kernel) rfl, zT 3 (by decide +kernel) rfl⟩
theorem zMk_15 : zMv 15 := ⟨by decide +kernel, by decide, zT 538 (by decide +kernel) rfl, zS 23 (by decide +kernel) rfl⟩
theorem zMf_16 : zMf 16 := ⟨by decide +kernel, ⟨by decide +kernel, by decide +kernel⟩, rfl, rfl, zT 571 (by decide +kernel) rfl, zT 3 (by decide +kernel) rfl⟩
theorem zMk_16 : zMv 16 := ⟨by decide +kernel, by decide, zT 570 (by decide +kernel) rfl, zS 31 (by decide +kernel) rfl⟩
theorem zMf_17 : zMf 17 := ⟨by decide +kernel, ⟨by decide +kernel, by decide +kernel⟩, rfl, rfl, zT 547 (by decide +kernel) rfl, zT 3 (by decide +kernel) rfl⟩
theorem zMk_17 : zMv 17 := ⟨by decide +kernel, by decide, zT 546 (by decide +kernel) rfl, zS 25 (by decide +kernel) rfl⟩
theorem zMf_18 : zMf 18 := ⟨by decide +kernel, ⟨by decide +kernel, by decide +kernel⟩, rfl, rfl, zT 543 (by decide +kernel) rfl, zT 3 (by decide +kernel) rfl⟩
theorem zMk_18 : zMv 18 := ⟨by decide +kernel, by decide, zT 542 (by decide +kernel) rfl, zS 24 (by decide +kernel) rfl⟩
theorem zMf_19 : zMf 19 := ⟨by decide +kernel, ⟨by decide +kernel, by decide +kernel⟩, rfl, rfl, zT 579 (by decide +kernel) rfl, zT 3 (by decide +kernel) rfl⟩
theorem zMk_19 : zMv 19 := ⟨by decide +kernel, by decide, zT 578 (by decide +kernel) rfl, zS 33 (by decide +kernel) rfl⟩
theorem zMf_20 : zMf 20 := ⟨by decide +kernel, ⟨by decide +kernel, by decide +kernel⟩, rfl, rfl, zT 1046 (by decide +kernel) rfl, zT 3 (by decide +kernel) rfl⟩
theorem zMk_20 : zMv 20 := ⟨by decide +kernel, by decide, zT 1045 (by decide +kernel) rfl, zS 105 (by decide +kernel) rfl⟩
theorem zMf_21 : zMf 21 := ⟨by decide +kernel, ⟨by decide +kernel, by decide +kernel⟩, rfl, rfl, zT 1042 (by decide +kernel) rfl, zT 3 (by decide +kernel) rfl⟩
theorem zMk_21 : zMv 21 := ⟨by decide +kernel, by decide, zT 1041 (by decide +kernel) rfl, zS 104 (by decide +kernel) rfl⟩
theorem zMf_22 : zMf 22 := ⟨by decide +kernel, ⟨by decide +kernel, by decide +kernel⟩, rfl, rfl, zT 933 (by decide +kernel) rfl, zT 3 (by decide +kernel) rfl⟩
theorem zMk_22 : zMv 22 := ⟨by decide +kernel, by decide, zT 932 (by decide +kernel) rfl, zS 91 (by decide +kernel) rfl⟩
theorem zMf_23 : zMf 23 := ⟨by decide +kernel, ⟨by decide +kernel, by decide +kernel⟩, rfl, rfl, zT 203 (by decide +kernel) rfl, zT 7 (by decide +kernel) rfl⟩
theorem zMk_23 : zMi 23 := ⟨by decide +kernel, by decide, zT 202 (by decide +kernel) rfl, rfl, rfl⟩
theorem zMf_24 : zMf 24 := ⟨by decide +kernel, ⟨by decide +kernel, by decide +kernel⟩, rfl, rfl, zT 594 (by decide +kernel) rfl, zT 7 (by decide +kernel) rfl⟩
theorem zMk_24 : zMv 24 := ⟨by decide +kernel, by decide, zT 593 (by decide +kernel) rfl, zS 36 (by decide +kernel) rfl⟩
theorem zMf_25 : zMf 25 := ⟨by decide +kernel, ⟨by decide +kernel, by decide +kernel⟩, rfl, rfl, zT 599 (by decide +kernel) rfl, zT 7 (by decide +kernel) rfl⟩
theorem zMk_25 : zMv 25 := ⟨by decide +kernel, by decide, zT 598 (by decide +kernel) rfl, zS 37 (by decide +kernel) rfl⟩
theorem zMf_26 : zMf 26 := ⟨by decide +kernel, ⟨by decide +kernel, by decide +kernel⟩, rfl, rfl, zT 955 (by decide +kernel) rfl, zT 7 (by decide +kernel) rfl⟩
theorem zMk_26 : zMv 26 := ⟨by decide +kernel, by decide, zT 954 (by decide +kernel) rfl, zS 94 (by decide +kernel) rfl⟩
theorem zMf_27 : zMf 27 := ⟨by decide +kernel, ⟨by decide +kernel, by decide +kernel⟩, rfl, rfl, zT 612 (by decide +kernel) rfl, zT 7 (by decide +kernel) rfl⟩
theorem zMk_27 : zMv 27 := ⟨by decide +kernel, by decide, zT 611 (by decide +kernel) rfl, zS 40 (by decide +kernel) rfl⟩
theorem zMf_28 : zMf 28 := ⟨by decide +kernel, ⟨by decide +kernel, by decide +kernel⟩, rfl, rfl, zT 274 (by decide +kernel) rfl, zT 9 (by decide +kernel) rfl⟩
theorem zMk_28 : zMi 28 := ⟨by decide +kernel, by decide, zT 273 (by decide +kernel) rfl, rfl, rfl⟩
theorem zMf_29 : zMf 29 := ⟨by decide +kernel, ⟨by decide +kernel, by decide +kernel⟩, rfl, rfl, zT 819 (by decide +kernel) rfl, zT 9 (by decide +kernel) rfl⟩
theorem zMk_29 : zMv 29 := ⟨by decide +kernel, by decide, zT 818 (by decide +kernel) rfl, zS 75 (by decide +kernel) rfl⟩
theorem zMf_30 : zMf 30 := ⟨by decide +kernel, ⟨by decide +kernel, by decide +kernel⟩, rfl, rfl, zT 823 (by decide +kernel) rfl, zT 9 (by decide +kernel) rfl⟩
theorem zMk_30 : zMv 30 := ⟨by decide +kernel, by decide, zT 822 (by decide +kernel) rfl, zS 76 (by decide +kernel) rfl⟩
theorem zMf_31 : zMf 31 := ⟨by decide +kernel, ⟨by decide +kernel, by decide +kernel⟩, rfl, rfl, zT 951 (by decide +kernel) rfl, zT 9 (by decide +kernel) rfl⟩
theorem zMk_31 : zMv 31 := ⟨by decide +kernel, by decide, zT 950 (by decide +kernel) rfl, zS 93 (by decide +kernel) rfl⟩
theorem zMf_32 : zMf 32 := ⟨by decide +kernel, ⟨by decide +kernel, by decide +kernel⟩, rfl, rfl, zT 967 (by decide +kernel) rfl, zT 9 (by decide +kernel) rfl⟩
theorem zMk_32 : zMv 32 := ⟨by decide +kernel, by decide, zT 966 (by decide +kernel) rfl, zS 95 (by decide +kernel) rfl⟩
theorem zMf_33 : zMf 33 := ⟨by decide +kernel, ⟨by decide +kernel, by decide +kernel⟩, rfl, rfl, zT 1003 (by decide +kernel) rfl, zT 9 (by decide +kernel) rfl⟩
theorem zMk_33 : zMv 33 := ⟨by decide +kernel, by decide, zT 1002 (by decide +kernel) rfl, zS 100 (by decide +kernel) rfl⟩
theorem zMf_34 : zMf 34 := ⟨by decide +kernel, ⟨by decide +kernel, by decide +kernel⟩, rfl, rfl, zT 972 (by decide +kernel) rfl, zT 9 (by decide +kernel) rfl⟩
theorem zMk_34 : zMv 34 := ⟨by decide +kernel, by decide, zT 971 (by decide +kernel) rfl, zS 96 (by decide +kernel) rfl⟩
theorem zMf_35 : zMf 35 := ⟨by decide +kernel, ⟨by decide +kernel, by decide +kernel⟩, rfl, rfl, zT 982 (by decide +kernel) rfl, zT 9 (by decide +kernel) rfl⟩
theorem zMk_35 : zMv 35 := ⟨by decide +kernel, by decide, zT 981 (by decide +kernel) rfl, zS 97 (by decide +kernel) rfl⟩
theorem zMf_36 : zMf 36 := ⟨by decide +kernel, ⟨by decide +kernel, by decide +kernel⟩, rfl, rfl, zT 987 (by decide +kernel) rfl, zT 9 (by decide +kernel) rfl⟩
theorem zMk_36 : zMv 36 := ⟨by decide +kernel, by decide, zT 986 (by decide +kernel) rfl, zS 98 (by decide +kernel) rfl⟩
theorem zMf_37 : zMf 37 := ⟨by decide +kernel, ⟨by decide +kernel, by decide +kernel⟩, rfl, rfl, zT 128 (by decide +kernel) rfl, zT 4 (by decide +kernel) rfl⟩
theorem zMk_37 : zMi 37 := ⟨by decide +kernel, by decide, zT 127 (by decide +kernel) rfl, rfl, rfl⟩
theorem zMf_38 : zMf 38 := ⟨by decide +kernel, ⟨by decide +kernel, by decide +kernel⟩, rfl, rfl, zT 403 (by decide +kernel) rfl, zT 4 (by decide +kernel) rfl⟩
theorem zMk_38 : zMv 38 := ⟨by decide +kernel, by decide, zT 402 (by decide +kernel) rfl, zS 3 (by decide +kernel) rfl⟩
theorem zMf_39 : zMf 39 := ⟨by decide +kernel, ⟨by decide +kernel, by decide +kernel⟩, rfl, rfl, zT 499 (by decide +kernel) rfl, zT 4 (by decide +kernel) rfl⟩
theorem zMk_39 : zMv 39 := ⟨by decide +kernel, by decide, zT 498 (by decide +kernel) rfl, zS 13 (by decide +kernel) rfl⟩
theorem zMf_40 : zMf 40 := ⟨by decide +kernel, ⟨by decide +kernel, by decide +kernel⟩, rfl, rfl, zT 503 (by decide +kernel) rfl, zT 4 (by decide +kernel) rfl⟩
theorem zMk_40 : zMv 40 := ⟨by decide +kernel, by decide, zT 502 (by decide +kernel) rfl, zS 14 (by decide +kernel) rfl⟩
theorem zMf_41 : zMf 41 := ⟨by decide +kernel, ⟨by decide +kernel, by decide +kernel⟩, rfl, rfl, zT 507 (by decide +kernel) rfl, zT 4 (by decide +kernel) rfl⟩
theorem zMk_41 : zMv 41 := ⟨by decide +kernel, by decide, zT 506 (by decide +kernel) rfl, zS 15 (by decide +kernel) rfl⟩
theorem zMf_42 : zMf 42 := ⟨by decide +kernel, ⟨by decide +kernel, by decide +kernel⟩, rfl, rfl, zT 511 (by decide +kernel) rfl, zT 4 (by decide +kernel) rfl⟩
theorem zMk_42 : zMv 42 := ⟨by decide +kernel, by decide, zT 510 (by decide +kernel) rfl, zS 16 (by decide +kernel) rfl⟩
theorem zMf_43 : zMf 43 := ⟨by decide +kernel, ⟨by decide +kernel, by decide +kernel⟩, rfl, rfl, zT 527 (by decide +kernel) rfl, zT 4 (by decide +kernel) rfl⟩
theorem zMk_43 : zMv 43 := ⟨by decide +kernel, by decide, zT 526 (by decide +kernel) rfl, zS 20 (by decide +kernel) rfl⟩
theorem zMf_44 : zMf 44 := ⟨by decide +kernel, ⟨by decide +kernel, by decide +kernel⟩, rfl, rfl, zT 555 (by decide +kernel) rfl, zT 4 (by decide +kernel) rfl⟩
theorem zMk_44 : zMv 44 := ⟨by decide +kernel, by decide, zT 554 (by decide +kernel) rfl, zS 27 (by decide +kernel) rfl⟩
theorem zMf_45 : zMf 45 := ⟨by decide +kernel, ⟨by decide +kernel, by decide +kernel⟩, rfl, rfl, zT 559 (by decide +kernel) rfl, zT 4 (by decide +kernel) rfl⟩
theorem zMk_45 : zMv 45 := ⟨by decide +kernel, by decide, zT 558 (by decide +kernel) rfl, zS 28 (by decide +kernel) rfl⟩
theorem zMf_46 : zMf 46 := ⟨by decide +kernel, ⟨by decide +kernel, by decide +kernel⟩, rfl, rfl, zT 563 (by decide +kernel) rfl, zT 4 (by decide +kernel) rfl⟩
theorem zMk_46 : zMv 46 := ⟨by decide +kernel, by decide, zT 562 (by decide +kernel) rfl, zS 29 (by decide +kernel) rfl⟩
theorem zMf_47 : zMf 47 := ⟨by decide +kernel, ⟨by decide +kernel, by decide +kernel⟩, rfl, rfl, zT 567 (by decide +kernel) rfl, zT 4 (by decide +kernel) rfl⟩
theorem zMk_47 : zMv 47 := ⟨by decide +kernel, by decide, zT 566 (by decide +kernel) rfl, zS 30 (by decide +kernel) rfl⟩
theorem zMf_48 : zMf 48 := ⟨by decide +kernel, ⟨by decide +kernel, by decide +kernel⟩, rfl, rfl, zT 535 (by decide +kernel) rfl, zT 4 (by decide +kernel) rfl⟩
theorem zMk_48 : zMv 48 := ⟨by decide +kernel, by decide, zT 534 (by decide +kernel) rfl, zS 22 (by decide +kernel) rfl⟩
theorem zMf_49 : zMf 49 := ⟨by decide +kernel, ⟨by decide +kernel, by decide +kernel⟩, rfl, rfl, zT 531 (by decide +kernel) rfl, zT 4 (by decide +kernel) rfl⟩
theorem zMk_49 : zMv 49 := ⟨by decide +kernel, by decide, zT 530 (by decide +kernel) rfl, zS 21 (by decide +kernel) rfl⟩
theorem zMf_50 : zMf 50 := ⟨by decide +kernel, ⟨by decide +kernel, by decide +kernel⟩, rfl, rfl, zT 515 (by decide +kernel) rfl, zT 4 (by decide +kernel) rfl⟩
theorem zMk_50 : zMv 50 := ⟨by decide +kernel, by decide, zT 514 (by decide +kernel) rfl, zS 17 (by decide +kernel) rfl⟩
theorem zMf_51 : zMf 51 := ⟨by decide +kernel, ⟨by decide +kernel, by decide +kernel⟩, rfl, rfl, zT 197 (by decide +kernel) rfl, zT 6 (by decide +kernel) rfl⟩
theorem zMk_51 : zMi 51 := ⟨by decide +kernel, by decide, zT 196 (by decide +kernel) rfl, rfl, rfl⟩
theorem zMf_52 : zMf 52 := ⟨by decide +kernel, ⟨by decide +kernel, by decide +kernel⟩, rfl, rfl, zT 590 (by decide +kernel) rfl, zT 6 (by decide +kernel) rfl⟩
theorem zMk_52 : zMv 52 := ⟨by decide +kernel, by decide, zT 589 (by decide +kernel) rfl, zS 35 (by decide +kernel) rfl⟩
theorem zMf_53 : zMf 53 := ⟨by decide +kernel, ⟨by decide +kernel, by decide +kernel⟩, rfl, rfl, zT 608 (by decide +kernel) rfl, zT 6 (by decide +kernel) rfl⟩
theorem zMk_53 : zMv 53 := ⟨by decide +kernel, by decide, zT 607 (by decide +kernel) rfl, zS 39 (by decide +kernel) rfl⟩
theorem zMf_54 : zMf 54 := ⟨by decide +kernel, ⟨by decide +kernel, by decide +kernel⟩, rfl, rfl, zT 717 (by decide +kernel) rfl, zT 6 (by decide +kernel) rfl⟩
theorem zMk_54 : zMv 54 := ⟨by decide +kernel, by decide, zT 716 (by decide +kernel) rfl, zS 60 (by decide +kernel) rfl⟩
theorem zMf_55 : zMf 55 := ⟨by decide +kernel, ⟨by decide +kernel, by decide +kernel⟩, rfl, rfl, zT 713 (by decide +kernel) rfl, zT 6 (by decide +kernel) rfl⟩
theorem zMk_55 : zMv 55 := ⟨by decide +kernel, by decide, zT 712 (by decide +kernel) rfl, zS 59 (by decide +kernel) rfl⟩
theorem zMf_56 : zMf 56 := ⟨by decide +kernel, ⟨by decide +kernel, by decide +kernel⟩, rfl, rfl, zT 792 (by decide +kernel) rfl, zT 6 (by decide +kernel) rfl⟩
theorem zMk_56 : zMv 56 := ⟨by decide +kernel, by decide, zT 791 (by decide +kernel) rfl, zS 71 (by decide +kernel) rfl⟩
theorem zMf_57 : zMf 57 := ⟨by decide +kernel, ⟨by decide +kernel, by decide +kernel⟩, rfl, rfl, zT 805 (by decide +kernel) rfl, zT 6 (by decide +kernel) rfl⟩
theorem zMk_57 : zMv 57 := ⟨by decide +kernel, by decide, zT 804 (by decide +kernel) rfl, zS 73 (by decide +kernel) rfl⟩
theorem zMf_58 : zMf 58 := ⟨by decide +kernel, ⟨by decide +kernel, by decide +kernel⟩, rfl, rfl, zT 834 (by decide +kernel) rfl, zT 6 (by decide +kernel) rfl⟩
theorem zMk_58 : zMv 58 := ⟨by decide +kernel, by decide, zT 833 (by decide +kernel) rfl, zS 77 (by decide +kernel) rfl⟩
theorem zMf_59 : zMf 59 := ⟨by decide +kernel, ⟨by decide +kernel, by decide +kernel⟩, rfl, rfl, zT 783 (by decide +kernel) rfl, zT 6 (by decide +kernel) rfl⟩
theorem zMk_59 : zMv 59 := ⟨by decide +kernel, by decide, zT 782 (by decide +kernel) rfl, zS 70 (by decide +kernel) rfl⟩
theorem zMf_60 : zMf 60 := ⟨by decide +kernel, ⟨by decide +kernel, by decide +kernel⟩, rfl, rfl, zT 929 (by decide +kernel) rfl, zT 6 (by decide +kernel) rfl⟩
theorem zMk_60 : zMv 60 := ⟨by decide +kernel, by decide, zT 928 (by decide +kernel) rfl, zS 90 (by decide +kernel) rfl⟩
theorem zMf_61 : zMf 61 := ⟨by decide +kernel, ⟨by decide +kernel, by decide +kernel⟩, rfl, rfl, zT 942 (by decide +kernel) rfl, zT 6 (by decide +kernel) rfl⟩
theorem zMk_61 : zMv 61 := ⟨by decide +kernel, by decide, zT 941 (by decide +kernel) rfl, zS 92 (by decide +kernel) rfl⟩
theorem zMf_62 : zMf 62 := ⟨by decide +kernel, ⟨by decide +kernel, by decide +kernel⟩, rfl, rfl, zT 1019 (by decide +kernel) rfl, zT 6 (by decide +kernel) rfl⟩
theorem zMk_62 : zMv 62 := ⟨by decide +kernel, by decide, zT 1018 (by decide +kernel) rfl, zS 102 (by decide +kernel) rfl⟩
theorem zMf_63 : zMf 63 := ⟨by decide +kernel, ⟨by decide +kernel, by decide +kernel⟩, rfl, rfl, zT 1011 (by decide +kernel) rfl, zT 6 (by decide +kernel) rfl⟩
theorem zMk_63 : zMv 63 := ⟨by decide +kernel, by decide, zT 1010 (by decide +kernel) rfl, zS 101 (by decide +kernel) rfl⟩
theorem zMf_64 : zMf 64 := ⟨by decide +kernel, ⟨by decide +kernel, by decide +kernel⟩, rfl, rfl, zT 880 (by decide +kernel) rfl, zT 6 (by decide +kernel) rfl⟩
theorem zMk_64 : zMv 64 := ⟨by decide +kernel, by decide, zT 879 (by decide +kernel) rfl, zS 84 (by decide +kernel) rfl⟩
theorem zMf_65 : zMf 65 := ⟨by decide +kernel, ⟨by decide +kernel, by decide +kernel⟩, rfl, rfl, zT 894 (by decide +kernel) rfl, zT 6 (by decide +kernel) rfl⟩
theorem zMk_65 : zMv 65 := ⟨by decide +kernel, by decide, zT 893 (by decide +kernel) rfl, zS 86 (by decide +kernel) rfl⟩
theorem zMf_66 : zMf 66 := ⟨by decide +kernel, ⟨by decide +kernel, by decide +kernel⟩, rfl, rfl, zT 903 (by decide +kernel) rfl, zT 6 (by decide +kernel) rfl⟩
theorem zMk_66 : zMv 66 := ⟨by decide +kernel, by decide, zT 902 (by decide +kernel) rfl, zS 87 (by decide +kernel) rfl⟩
theorem zMf_67 : zMf 67 := ⟨by decide +kernel, ⟨by decide +kernel, by decide +kernel⟩, rfl, rfl, zT 913 (by decide +kernel) rfl, zT 6 (by decide +kernel) rfl⟩
theorem zMk_67 : zMv 67 := ⟨by decide +kernel, by decide, zT 912 (by decide +kernel) rfl, zS 88 (by decide +kernel) rfl⟩
theorem zMf_68 : zMf 68 := ⟨by decide +kernel, ⟨by decide +kernel, by decide +kernel⟩, rfl, rfl, zT 1028 (by decide +kernel) rfl, zT 6 (by decide +kernel) rfl⟩
theorem zMk_68 : zMv 68 := ⟨by decide +kernel, by decide, zT 1027 (by decide +kernel) rfl, zS 103 (by decide +kernel) rfl⟩
theorem zMf_69 : zMf 69 := ⟨by decide +kernel, ⟨by decide +kernel, by decide +kernel⟩, rfl, rfl, zT 37 (by decide +kernel) rfl, zT 2 (by decide +kernel) rfl⟩
theorem zMk_69 : zMi 69 := ⟨by decide +kernel, by decide, zT 36 (by decide +kernel) rfl, rfl, rfl⟩
theorem zMf_70 : zMf 70 := ⟨by decide +kernel, ⟨by decide +kernel, by decide +kernel⟩, rfl, rfl, zT 384 (by decide +kernel) rfl, zT 2 (by decide +kernel) rfl⟩
theorem zMk_70 : zMv 70 := ⟨by decide +kernel, by decide, zT 383 (by decide +kernel) rfl, zS 0 (by decide +kernel) rfl⟩
theorem zMf_71 : zMf 71 := ⟨by decide +kernel, ⟨by decide +kernel, by decide +kernel⟩, rfl, rfl, zT 388 (by decide +kernel) rfl, zT 2 (by decide +kernel) rfl⟩
theorem zMk_71 : zMv 71 := ⟨by decide +kernel, by decide, zT 387 (by decide +kernel) rfl, zS 1 (by decide +kernel) rfl⟩
theorem zMf_72 : zMf 72 := ⟨by decide +kernel, ⟨by decide +kernel, by decide +kernel⟩, rfl, rfl, zT 134 (by decide +kernel) rfl, zT 5 (by decide +kernel) rfl⟩
theorem zMk_72 : zMi 72 := ⟨by decide +kernel, by decide, zT 133 (by decide +kernel) rfl, rfl, rfl⟩
theorem zMf_73 : zMf 73 := ⟨by decide +kernel, ⟨by decide +kernel, by decide +kernel⟩, rfl, rfl, zT 407 (by decide +kernel) rfl, zT 5 (by decide +kernel) rfl⟩
theorem zMk_73 : zMv 73 := ⟨by decide +kernel, by decide, zT 406 (by decide +kernel) rfl, zS 4 (by decide +kernel) rfl⟩
theorem zMf_74 : zMf 74 := ⟨by decide +kernel, ⟨by decide +kernel, by decide +kernel⟩, rfl, rfl, zT 495 (by decide +kernel) rfl, zT 5 (by decide +kernel) rfl⟩
theorem zMk_74 : zMv 74 := ⟨by decide +kernel, by decide, zT 494 (by decide +kernel) rfl, zS 12 (by decide +kernel) rfl⟩
theorem zMf_75 : zMf 75 := ⟨by decide +kernel, ⟨by decide +kernel, by decide +kernel⟩, rfl, rfl, zT 417 (by decide +kernel) rfl, zT 5 (by decide +kernel) rfl⟩
theorem zMk_75 : zMv 75 := ⟨by decide +kernel, by decide, zT 416 (by decide +kernel) rfl, zS 5 (by decide +kernel) rfl⟩
theorem zMf_76 : zMf 76 := ⟨by decide +kernel, ⟨by decide +kernel, by decide +kernel⟩, rfl, rfl, zT 421 (by decide +kernel) rfl, zT 5 (by decide +kernel) rfl⟩
theorem zMk_76 : zMv 76 := ⟨by decide +kernel, by decide, zT 420 (by decide +kernel) rfl, zS 6 (by decide +kernel) rfl⟩
theorem zMf_77 : zMf 77 := ⟨by decide +kernel, ⟨by decide +kernel, by decide +kernel⟩, rfl, rfl, zT 429 (by decide +kernel) rfl, zT 5 (by decide +kernel) rfl⟩
theorem zMk_77 : zMv 77 := ⟨by decide +kernel, by decide, zT 428 (by decide +kernel) rfl, zS 8 (by decide +kernel) rfl⟩
theorem zMf_78 : zMf 78 := ⟨by decide +kernel, ⟨by decide +kernel, by decide +kernel⟩, rfl, rfl, zT 490 (by decide +kernel) rfl, zT 5 (by decide +kernel) rfl⟩
theorem zMk_78 : zMv 78 := ⟨by decide +kernel, by decide, zT 489 (by decide +kernel) rfl, zS 11 (by decide +kernel) rfl⟩
theorem zMf_79 : zMf 79 := ⟨by decide +kernel, ⟨by decide +kernel, by decide +kernel⟩, rfl, rfl, zT 425 (by decide +kernel) rfl, zT 5 (by decide +kernel) rfl⟩
theorem zMk_79 : zMv 79 := ⟨by decide +kernel, by decide, zT 424 (by decide +kernel) rfl, zS 7 (by decide +kernel) rfl⟩
theorem zMf_80 : zMf 80 := ⟨by decide +kernel, ⟨by decide +kernel, by decide +kernel⟩, rfl, rfl, zT 486 (by decide +kernel) rfl, zT 5 (by decide +kernel) rfl⟩
theorem zMk_80 : zMv 80 := ⟨by decide +kernel, by decide, zT 485 (by decide +kernel) rfl, zS 10 (by decide +kernel) rfl⟩
theorem zMf_81 : zMf 81 := ⟨by decide +kernel, ⟨by decide +kernel, by decide +kernel⟩, rfl, rfl, zT 433 (by decide +kernel) rfl, zT 5 (by decide +kernel) rfl⟩
theorem zMk_81 : zMv 81 := ⟨by decide +kernel, by decide, zT 432 (by decide +kernel) rfl, zS 9 (by decide +kernel) rfl⟩
theorem zMf_82 : zMf 82 := ⟨by decide +kernel, ⟨by decide +kernel, by decide +kernel⟩, rfl, rfl, zT 226 (by decide +kernel) rfl, zT 8 (by decide +kernel) rfl⟩
theorem zMk_82 : zMi 82 := ⟨by decide +kernel, by decide, zT 225 (by decide +kernel) rfl, rfl, rfl⟩
theorem zMf_83 : zMf 83 := ⟨by decide +kernel, ⟨by decide +kernel, by decide +kernel⟩, rfl, rfl, zT 603 (by decide +kernel) rfl, zT 8 (by decide +kernel) rfl⟩
theorem zMk_83 : zMv 83 := ⟨by decide +kernel, by decide, zT 602 (by decide +kernel) rfl, zS 38 (by decide +kernel) rfl⟩
theorem zMf_84 : zMf 84 := ⟨by decide +kernel, ⟨by decide +kernel, by decide +kernel⟩, rfl, rfl, zT 810 (by decide +kernel) rfl, zT 8 (by decide +kernel) rfl⟩
theorem zMk_84 : zMv 84 := ⟨by decide +kernel, by decide, zT 809 (by decide +kernel) rfl, zS 74 (by decide +kernel) rfl⟩
theorem zMf_85 : zMf 85 := ⟨by decide +kernel, ⟨by decide +kernel, by decide +kernel⟩, rfl, rfl, zT 628 (by decide +kernel) rfl, zT 8 (by decide +kernel) rfl⟩
theorem zMk_85 : zMv 85 := ⟨by decide +kernel, by decide, zT 627 (by decide +kernel) rfl, zS 44 (by decide +kernel) rfl⟩
theorem zMf_86 : zMf 86 := ⟨by decide +kernel, ⟨by decide +kernel, by decide +kernel⟩, rfl, rfl, zT 669 (by decide +kernel) rfl, zT 8 (by decide +kernel) rfl⟩
theorem zMk_86 : zMv 86 := ⟨by decide +kernel, by decide, zT 668 (by decide +kernel) rfl, zS 54 (by decide +kernel) rfl⟩
theorem zMf_87 : zMf 87 := ⟨by decide +kernel, ⟨by decide +kernel, by decide +kernel⟩, rfl, rfl, zT 673 (by decide +kernel) rfl, zT 8 (by decide +kernel) rfl⟩
theorem zMk_87 : zMv 87 := ⟨by decide +kernel, by decide, zT 672 (by decide +kernel) rfl, zS 55 (by decide +kernel) rfl⟩
theorem zMf_88 : zMf 88 := ⟨by decide +kernel, ⟨by decide +kernel, by decide +kernel⟩, rfl, rfl, zT 624 (by decide +kernel) rfl, zT 8 (by decide +kernel) rfl⟩
theorem zMk_88 : zMv 88 := ⟨by decide +kernel, by decide, zT 623 (by decide +kernel) rfl, zS 43 (by decide +kernel) rfl⟩
theorem zMf_89 : zMf 89 := ⟨by decide +kernel, ⟨by decide +kernel, by decide +kernel⟩, rfl, rfl, zT 632 (by decide +kernel) rfl, zT 8 (by decide +kernel) rfl⟩
theorem zMk_89 : zMv 89 := ⟨by decide +kernel, by decide, zT 631 (by decide +kernel) rfl, zS 45 (by decide +kernel) rfl⟩
theorem zMf_90 : zMf 90 := ⟨by decide +kernel, ⟨by decide +kernel, by decide +kernel⟩, rfl, rfl, zT 648 (by decide +kernel) rfl, zT 8 (by decide +kernel) rfl⟩
theorem zMk_90 : zMv 90 := ⟨by decide +kernel, by decide, zT 647 (by decide +kernel) rfl, zS 49 (by decide +kernel) rfl⟩
theorem zMf_91 : zMf 91 := ⟨by decide +kernel, ⟨by decide +kernel, by decide +kernel⟩, rfl, rfl, zT 725 (by decide +kernel) rfl, zT 8 (by decide +kernel) rfl⟩
theorem zMk_91 : zMv 91 := ⟨by decide +kernel, by decide, zT 724 (by decide +kernel) rfl, zS 62 (by decide +kernel) rfl⟩
theorem zMf_92 : zMf 92 := ⟨by decide +kernel, ⟨by decide +kernel, by decide +kernel⟩, rfl, rfl, zT 729 (by decide +kernel) rfl, zT 8 (by decide +kernel) rfl⟩
theorem zMk_92 : zMv 92 := ⟨by decide +kernel, by decide, zT 728 (by decide +kernel) rfl, zS 63 (by decide +kernel) rfl⟩
theorem zMf_93 : zMf 93 := ⟨by decide +kernel, ⟨by decide +kernel, by decide +kernel⟩, rfl, rfl, zT 616 (by decide +kernel) rfl, zT 8 (by decide +kernel) rfl⟩
theorem zMk_93 : zMv 93 := ⟨by decide +kernel, by decide, zT 615 (by decide +kernel) rfl, zS 41 (by decide +kernel) rfl⟩
theorem zMf_94 : zMf 94 := ⟨by decide +kernel, ⟨by decide +kernel, by decide +kernel⟩, rfl, rfl, zT 620 (by decide +kernel) rfl, zT 8 (by decide +kernel) rfl⟩
theorem zMk_94 : zMv 94 := ⟨by decide +kernel, by decide, zT 619 (by decide +kernel) rfl, zS 42 (by decide +kernel) rfl⟩
theorem zMf_95 : zMf 95 := ⟨by decide +kernel, ⟨by decide +kernel, by decide +kernel⟩, rfl, rfl, zT 636 (by decide +kernel) rfl, zT 8 (by decide +kernel) rfl⟩
theorem zMk_95 : zMv 95 := ⟨by decide +kernel, by decide, zT 635 (by decide +kernel) rfl, zS 46 (by decide +kernel) rfl⟩
theorem zMf_96 : zMf 96 := ⟨by decide +kernel, ⟨by decide +kernel, by decide +kernel⟩, rfl, rfl, zT 652 (by decide +kernel) rfl, zT 8 (by decide +kernel) rfl⟩
theorem zMk_96 : zMv 96 := ⟨by decide +kernel, by decide, zT 651 (by decide +kernel) rfl, zS 50 (by decide +kernel) rfl⟩
theorem zMf_97 : zMf 97 := ⟨by decide +kernel, ⟨by decide +kernel, by decide +kernel⟩, rfl, rfl, zT 644 (by decide +kernel) rfl, zT 8 (by decide +kernel) rfl⟩
theorem zMk_97 : zMv 97 := ⟨by decide +kernel, by decide, zT 643 (by decide +kernel) rfl, zS 48 (by decide +kernel) rfl⟩
theorem zMf_98 : zMf 98 := ⟨by decide +kernel, ⟨by decide +kernel, by decide +kernel⟩, rfl, rfl, zT 657 (by decide +kernel) rfl, zT 8 (by decide +kernel) rfl⟩
theorem zMk_98 : zMv 98 := ⟨by decide +kernel, by decide, zT 656 (by decide +kernel) rfl, zS 51 (by decide +kernel) rfl⟩
theorem zMf_99 : zMf 99 := ⟨by decide +kernel, ⟨by decide +kernel, by decide +kernel⟩, rfl, rfl, zT 661 (by decide +kernel) rfl, zT 8 (by decide +kernel) rfl⟩
theorem zMk_99 : zMv 99 := ⟨by decide +kernel, by decide, zT 660 (by decide +kernel) rfl, zS 52 (by decide +kernel) rfl⟩
theorem zMf_100 : zMf 100 := ⟨by decide +kernel, ⟨by decide +kernel, by decide +kernel⟩, rfl, rfl, zT 665 (by decide +kernel) rfl, zT 8 (by decide +kernel) rfl⟩
theorem zMk_100 : zMv 100 := ⟨by decide +kernel, by decide, zT 664 (by decide +kernel) rfl, zS 53 (by decide +kernel) rfl⟩
theorem zMf_101 : zMf 101 := ⟨by decide +kernel, ⟨by decide +kernel, by decide +kernel⟩, rfl, rfl, zT 677 (by decide +kernel) rfl, zT 8 (by decide +kernel) rfl⟩
theorem zMk_101 : zMv 101 := ⟨by decide +kernel, by decide, zT 676 (by decide +kernel) rfl, zS 56 (by decide +kernel) rfl⟩
theorem zMf_102 : zMf 102 := ⟨by decide +kernel, ⟨by decide +kernel, by decide +kernel⟩, rfl, rfl, zT 681 (by decide +kernel) rfl, zT 8 (by decide +kernel) rfl⟩
theorem zMk_102 : zMv 102 := ⟨by decide +kernel, by decide, zT 680 (by decide +kernel) rfl, zS 57 (by decide +kernel) rfl⟩
theorem zMf_103 : zMf 103 := ⟨by decide +kernel, ⟨by decide +kernel, by decide +kernel⟩, rfl, rfl, zT 640 (by decide +kernel) rfl, zT 8 (by decide +kernel) rfl⟩
theorem zMk_103 : zMv 103 := ⟨by decide +kernel, by decide, zT 639 (by decide +kernel) rfl, zS 47 (by decide +kernel) rfl⟩
theorem zMf_104 : zMf 104 := ⟨by decide +kernel, ⟨by decide +kernel, by decide +kernel⟩, rfl, rfl, zT 733 (by decide +kernel) rfl, zT 8 (by decide +kernel) rfl⟩
theorem zMk_104 : zMv 104 := ⟨by decide +kernel, by decide, zT 732 (by decide +kernel) rfl, zS 64 (by decide +kernel) rfl⟩
theorem zMf_105 : zMf 105 := ⟨by decide +kernel, ⟨by decide +kernel, by decide +kernel⟩, rfl, rfl, zT 763 (by decide +kernel) rfl, zT 8 (by decide +kernel) rfl⟩
theorem zMk_105 : zMv 105 := ⟨by decide +kernel, by decide, zT 762 (by decide +kernel) rfl, zS 67 (by decide +kernel) rfl⟩
theorem zMf_106 : zMf 106 := ⟨by decide +kernel, ⟨by decide +kernel, by decide +kernel⟩, rfl, rfl, zT 995 (by decide +kernel) rfl, zT 8 (by decide +kernel) rfl⟩
theorem zMk_106 : zMv 106 := ⟨by decide +kernel, by decide, zT 994 (by decide +kernel) rfl, zS 99 (by decide +kernel) rfl⟩
theorem zMf_107 : zMf 107 := ⟨by decide +kernel, ⟨by decide +kernel, by decide +kernel⟩, rfl, rfl, zT 886 (by decide +kernel) rfl, zT 8 (by decide +kernel) rfl⟩
theorem zMk_107 : zMv 107 := ⟨by decide +kernel, by decide, zT 885 (by decide +kernel) rfl, zS 85 (by decide +kernel) rfl⟩
theorem zMf_108 : zMf 108 := ⟨by decide +kernel, ⟨by decide +kernel, by decide +kernel⟩, rfl, rfl, zT 921 (by decide +kernel) rfl, zT 8 (by decide +kernel) rfl⟩
theorem zMk_108 : zMv 108 := ⟨by decide +kernel, by decide, zT 920 (by decide +kernel) rfl, zS 89 (by decide +kernel) rfl⟩
theorem zMf_109 : zMf 109 := ⟨by decide +kernel, ⟨by decide +kernel, by decide +kernel⟩, rfl, rfl, zT 721 (by decide +kernel) rfl, zT 8 (by decide +kernel) rfl⟩
theorem zMk_109 : zMv 109 := ⟨by decide +kernel, by decide, zT 720 (by decide +kernel) rfl, zS 61 (by decide +kernel) rfl⟩
theorem zMf_110 : zMf 110 := ⟨by decide +kernel, ⟨by decide +kernel, by decide +kernel⟩, rfl, rfl, zT 771 (by decide +kernel) rfl, zT 8 (by decide +kernel) rfl⟩
theorem zMk_110 : zMv 110 := ⟨by decide +kernel, by decide, zT 770 (by decide +kernel) rfl, zS 68 (by decide +kernel) rfl⟩
theorem zMf_111 : zMf 111 := ⟨by decide +kernel, ⟨by decide +kernel, by decide +kernel⟩, rfl, rfl, zT 775 (by decide +kernel) rfl, zT 8 (by decide +kernel) rfl⟩
theorem zMk_111 : zMv 111 := ⟨by decide +kernel, by decide, zT 774 (by decide +kernel) rfl, zS 69 (by decide +kernel) rfl⟩
theorem zMf_112 : zMf 112 := ⟨by decide +kernel, ⟨by decide +kernel, by decide +kernel⟩, rfl, rfl, zT 29 (by decide +kernel) rfl, zT 1 (by decide +kernel) rfl⟩
theorem zMk_112 : zMi 112 := ⟨by decide +kernel, by decide, zT 28 (by decide +kernel) rfl, rfl, rfl⟩
theorem zMf_113 : zMf 113 := ⟨by decide +kernel, ⟨by decide +kernel, by decide +kernel⟩, rfl, rfl, zT 380 (by decide +kernel) rfl, zT 1 (by decide +kernel) rfl⟩
theorem zMk_113 : zMv 113 := ⟨by decide +kernel, by decide, zT 378 (by decide +kernel) rfl, zT 379 (by decide +kernel) rfl⟩
theorem zMf_114 : zMf 114 := ⟨by decide +kernel, ⟨by decide +kernel, by decide +kernel⟩, rfl, rfl, zT 392 (by decide +kernel) rfl, zT 1 (by decide +kernel) rfl⟩
theorem zMk_114 : zMv 114 := ⟨by decide +kernel, by decide, zT 390 (by decide +kernel) rfl, zT 391 (by decide +kernel) rfl⟩
theorem zMf_115 : zMf 115 := ⟨by decide +kernel, ⟨by decide +kernel, by decide +kernel⟩, rfl, rfl, zT 689 (by decide +kernel) rfl, zT 1 (by decide +kernel) rfl⟩
theorem zMk_115 : zMv 115 := ⟨by decide +kernel, by decide, zT 687 (by decide +kernel) rfl, zT 688 (by decide +kernel) rfl⟩
theorem zMf_116 : zMf 116 := ⟨by decide +kernel, ⟨by decide +kernel, by decide +kernel⟩, rfl, rfl, zT 575 (by decide +kernel) rfl, zT 1 (by decide +kernel) rfl⟩
theorem zMk_116 : zMv 116 := ⟨by decide +kernel, by decide, zT 574 (by decide +kernel) rfl, zS 32 (by decide +kernel) rfl⟩
theorem zMf_117 : zMf 117 := ⟨by decide +kernel, ⟨by decide +kernel, by decide +kernel⟩, rfl, rfl, zT 693 (by decide +kernel) rfl, zT 1 (by decide +kernel) rfl⟩
theorem zMk_117 : zMv 117 := ⟨by decide +kernel, by decide, zT 691 (by decide +kernel) rfl, zT 692 (by decide +kernel) rfl⟩
theorem zMf_118 : zMf 118 := ⟨by decide +kernel, ⟨by decide +kernel, by decide +kernel⟩, rfl, rfl, zT 697 (by decide +kernel) rfl, zT 1 (by decide +kernel) rfl⟩
theorem zMk_118 : zMv 118 := ⟨by decide +kernel, by decide, zT 695 (by decide +kernel) rfl, zT 696 (by decide +kernel) rfl⟩
theorem zMf_119 : zMf 119 := ⟨by decide +kernel, ⟨by decide +kernel, by decide +kernel⟩, rfl, rfl, zT 1055 (by decide +kernel) rfl, zT 1 (by decide +kernel) rfl⟩
theorem zMk_119 : zMv 119 := ⟨by decide +kernel, by decide, zT 1053 (by decide +kernel) rfl, zT 1054 (by decide +kernel) rfl⟩
theorem zMf_120 : zMf 120 := ⟨by decide +kernel, ⟨by decide +kernel, by decide +kernel⟩, rfl, rfl, zT 703 (by decide +kernel) rfl, zT 1 (by decide +kernel) rfl⟩
theorem zMk_120 : zMv 120 := ⟨by decide +kernel, by decide, zT 701 (by decide +kernel) rfl, zT 702 (by decide +kernel) rfl⟩
theorem zMf_121 : zMf 121 := ⟨by decide +kernel, ⟨by decide +kernel, by decide +kernel⟩, rfl, rfl, zT 743 (by decide +kernel) rfl, zT 1 (by decide +kernel) rfl⟩
theorem zMk_121 : zMv 121 := ⟨by decide +kernel, by decide, zT 741 (by decide +kernel) rfl, zT 742 (by decide +kernel) rfl⟩
theorem zMf_122 : zMf 122 := ⟨by decide +kernel, ⟨by decide +kernel, by decide +kernel⟩, rfl, rfl, zT 751 (by decide +kernel) rfl, zT 1 (by decide +kernel) rfl⟩
theorem zMk_122 : zMv 122 := ⟨by decide +kernel, by decide, zT 749 (by decide +kernel) rfl, zT 750 (by decide +kernel) rfl⟩
theorem zMf_123 : zMf 123 := ⟨by decide +kernel, ⟨by decide +kernel, by decide +kernel⟩, rfl, rfl, zT 767 (by decide +kernel) rfl, zT 1 (by decide +kernel) rfl⟩
theorem zMk_123 : zMv 123 := ⟨by decide +kernel, by decide, zT 765 (by decide +kernel) rfl, zT 766 (by decide +kernel) rfl⟩
theorem zMf_124 : zMf 124 := ⟨by decide +kernel, ⟨by decide +kernel, by decide +kernel⟩, rfl, rfl, zT 779 (by decide +kernel) rfl, zT 1 (by decide +kernel) rfl⟩
theorem zMk_124 : zMv 124 := ⟨by decide +kernel, by decide, zT 777 (by decide +kernel) rfl, zT 778 (by decide +kernel) rfl⟩
theorem zMf_125 : zMf 125 := ⟨by decide +kernel, ⟨by decide +kernel, by decide +kernel⟩, rfl, rfl, zT 788 (by decide +kernel) rfl, zT 1 (by decide +kernel) rfl⟩
theorem zMk_125 : zMv 125 := ⟨by decide +kernel, by decide, zT 786 (by decide +kernel) rfl, zT 787 (by decide +kernel) rfl⟩
theorem zMf_126 : zMf 126 := ⟨by decide +kernel, ⟨by decide +kernel, by decide +kernel⟩, rfl, rfl, zT 797 (by decide +kernel) rfl, zT 1 (by decide +kernel) rfl⟩
theorem zMk_126 : zMv 126 := ⟨by decide +kernel, by decide, zT 795 (by decide +kernel) rfl, zT 796 (by decide +kernel) rfl⟩
theorem zMf_127 : zMf 127 := ⟨by decide +kernel, ⟨by decide +kernel, by decide +kernel⟩, rfl, rfl, zT 815 (by decide +kernel) rfl, zT 1 (by decide +kernel) rfl⟩
theorem zMk_127 : zMv 127 := ⟨by decide +kernel, by decide, zT 813 (by decide +kernel) rfl, zT 814 (by decide +kernel) rfl⟩
theorem zMf_128 : zMf 128 := ⟨by decide +kernel, ⟨by decide +kernel, by decide +kernel⟩, rfl, rfl, zT 830 (by decide +kernel) rfl, zT 1 (by decide +kernel) rfl⟩
theorem zMk_128 : zMv 128 := ⟨by decide +kernel, by decide, zT 828 (by decide +kernel) rfl, zT 829 (by decide +kernel) rfl⟩
theorem zMf_129 : zMf 129 := ⟨by decide +kernel, ⟨by decide +kernel, by decide +kernel⟩, rfl, rfl, zT 838 (by decide +kernel) rfl, zT 1 (by decide +kernel) rfl⟩
theorem zMk_129 : zMv 129 := ⟨by decide +kernel, by decide, zT 836 (by decide +kernel) rfl, zT 837 (by decide +kernel) rfl⟩
theorem zMf_130 : zMf 130 := ⟨by decide +kernel, ⟨by decide +kernel, by decide +kernel⟩, rfl, rfl, zT 858 (by decide +kernel) rfl, zT 1 (by decide +kernel) rfl⟩
theorem zMk_130 : zMv 130 := ⟨by decide +kernel, by decide, zT 856 (by decide +kernel) rfl, zT 857 (by decide +kernel) rfl⟩
theorem zMf_131 : zMf 131 := ⟨by decide +kernel, ⟨by decide +kernel, by decide +kernel⟩, rfl, rfl, zT 876 (by decide +kernel) rfl, zT 1 (by decide +kernel) rfl⟩
theorem zMk_131 : zMv 131 := ⟨by decide +kernel, by decide, zT 874 (by decide +kernel) rfl, zT 875 (by decide +kernel) rfl⟩
theorem zMf_132 : zMf 132 := ⟨by decide +kernel, ⟨by decide +kernel, by decide +kernel⟩, rfl, rfl, zT 890 (by decide +kernel) rfl, zT 1 (by decide +kernel) rfl⟩
theorem zMk_132 : zMv 132 := ⟨by decide +kernel, by decide, zT 888 (by decide +kernel) rfl, zT 889 (by decide +kernel) rfl⟩
theorem zMf_133 : zMf 133 := ⟨by decide +kernel, ⟨by decide +kernel, by decide +kernel⟩, rfl, rfl, zT 899 (by decide +kernel) rfl, zT 1 (by decide +kernel) rfl⟩
theorem zMk_133 : zMv 133 := ⟨by decide +kernel, by decide, zT 897 (by decide +kernel) rfl, zT 898 (by decide +kernel) rfl⟩
theorem zMf_134 : zMf 134 := ⟨by decide +kernel, ⟨by decide +kernel, by decide +kernel⟩, rfl, rfl, zT 909 (by decide +kernel) rfl, zT 1 (by decide +kernel) rfl⟩
theorem zMk_134 : zMv 134 := ⟨by decide +kernel, by decide, zT 907 (by decide +kernel) rfl, zT 908 (by decide +kernel) rfl⟩
theorem zMf_135 : zMf 135 := ⟨by decide +kernel, ⟨by decide +kernel, by decide +kernel⟩, rfl, rfl, zT 917 (by decide +kernel) rfl, zT 1 (by decide +kernel) rfl⟩
theorem zMk_135 : zMv 135 := ⟨by decide +kernel, by decide, zT 915 (by decide +kernel) rfl, zT 916 (by decide +kernel) rfl⟩
theorem zMf_136 : zMf 136 := ⟨by decide +kernel, ⟨by decide +kernel, by decide +kernel⟩, rfl, rfl, zT 925 (by decide +kernel) rfl, zT 1 (by decide +kernel) rfl⟩
theorem zMk_136 : zMv 136 := ⟨by decide +kernel, by decide, zT 923 (by decide +kernel) rfl, zT 924 (by decide +kernel) rfl⟩
theorem zMf_137 : zMf 137 := ⟨by decide +kernel, ⟨by decide +kernel, by decide +kernel⟩, rfl, rfl, zT 938 (by decide +kernel) rfl, zT 1 (by decide +kernel) rfl⟩
theorem zMk_137 : zMv 137 := ⟨by decide +kernel, by decide, zT 936 (by decide +kernel) rfl, zT 937 (by decide +kernel) rfl⟩
theorem zMf_138 : zMf 138 := ⟨by decide +kernel, ⟨by decide +kernel, by decide +kernel⟩, rfl, rfl, zT 947 (by decide +kernel) rfl, zT 1 (by decide +kernel) rfl⟩
theorem zMk_138 : zMv 138 := ⟨by decide +kernel, by decide, zT 945 (by decide +kernel) rfl, zT 946 (by decide +kernel) rfl⟩
theorem zMf_139 : zMf 139 := ⟨by decide +kernel, ⟨by decide +kernel, by decide +kernel⟩, rfl, rfl, zT 959 (by decide +kernel) rfl, zT 1 (by decide +kernel) rfl⟩
theorem zMk_139 : zMv 139 := ⟨by decide +kernel, by decide, zT 957 (by decide +kernel) rfl, zT 958 (by decide +kernel) rfl⟩
theorem zMf_140 : zMf 140 := ⟨by decide +kernel, ⟨by decide +kernel, by decide +kernel⟩, rfl, rfl, zT 963 (by decide +kernel) rfl, zT 1 (by decide +kernel) rfl⟩
theorem zMk_140 : zMv 140 := ⟨by decide +kernel, by decide, zT 961 (by decide +kernel) rfl, zT 962 (by decide +kernel) rfl⟩
theorem zMf_141 : zMf 141 := ⟨by decide +kernel, ⟨by decide +kernel, by decide +kernel⟩, rfl, rfl, zT 978 (by decide +kernel) rfl, zT 1 (by decide +kernel) rfl⟩
theorem zMk_141 : zMv 141 := ⟨by decide +kernel, by decide, zT 976 (by decide +kernel) rfl, zT 977 (by decide +kernel) rfl⟩
theorem zMf_142 : zMf 142 := ⟨by decide +kernel, ⟨by decide +kernel, by decide +kernel⟩, rfl, rfl, zT 991 (by decide +kernel) rfl, zT 1 (by decide +kernel) rfl⟩
theorem zMk_142 : zMv 142 := ⟨by decide +kernel, by decide, zT 989 (by decide +kernel) rfl, zT 990 (by decide +kernel) rfl⟩
theorem zMf_143 : zMf 143 := ⟨by decide +kernel, ⟨by decide +kernel, by decide +kernel⟩, rfl, rfl, zT 999 (by decide +kernel) rfl, zT 1 (by decide +kernel) rfl⟩
theorem zMk_143 : zMv 143 := ⟨by decide +kernel, by decide, zT 997 (by decide +kernel) rfl, zT 998 (by decide +kernel) rfl⟩
theorem zMf_144 : zMf 144 := ⟨by decide +kernel, ⟨by decide +kernel, by decide +kernel⟩, rfl, rfl, zT 1007 (by decide +kernel) rfl, zT 1 (by decide +kernel) rfl⟩
theorem zMk_144 : zMv 144 := ⟨by decide +kernel, by decide, zT 1005 (by decide +kernel) rfl, zT 1006 (by decide +kernel) rfl⟩
theorem zMf_145 : zMf 145 := ⟨by decide +kernel, ⟨by decide +kernel, by decide +kernel⟩, rfl, rfl, zT 1015 (by decide +kernel) rfl, zT 1 (by decide +kernel) rfl⟩
theorem zMk_145 : zMv 145 := ⟨by decide +kernel, by decide, zT 1013 (by decide +kernel) rfl, zT 1014 (by decide +kernel) rfl⟩
theorem zMf_146 : zMf 146 := ⟨by decide +kernel, ⟨by decide +kernel, by decide +kernel⟩, rfl, rfl, zT 1024 (by decide +kernel) rfl, zT 1 (by decide +kernel) rfl⟩
theorem zMk_146 : zMv 146 := ⟨by decide +kernel, by decide, zT 1022 (by decide +kernel) rfl, zT 1023 (by decide +kernel) rfl⟩
theorem zMf_147 : zMf 147 := ⟨by decide +kernel, ⟨by decide +kernel, by decide +kernel⟩, rfl, rfl, zT 1032 (by decide +kernel) rfl, zT 1 (by decide +kernel) rfl⟩
theorem zMk_147 : zMv 147 := ⟨by decide +kernel, by decide, zT 1030 (by decide +kernel) rfl, zT 1031 (by decide +kernel) rfl⟩
theorem zMf_148 : zMf 148 := ⟨by decide +kernel, ⟨by decide +kernel, by decide +kernel⟩, rfl, rfl, zT 1038 (by decide +kernel) rfl, zT 1 (by decide +kernel) rfl⟩
theorem zMk_148 : zMv 148 := ⟨by decide +kernel, by decide, zT 1036 (by decide +kernel) rfl, zT 1037 (by decide +kernel) rfl⟩
theorem zMf_149 : zMf 149 := ⟨by decide +kernel, ⟨by decide +kernel, by decide +kernel⟩, rfl, rfl, zT 706 (by decide +kernel) rfl, zT 1 (by decide +kernel) rfl⟩
theorem zMk_149 : zMs 149 := ⟨by decide +kernel, zT 705 (by decide +kernel) rfl⟩
theorem zMf_150 : zMf 150 := ⟨by decide +kernel, ⟨by decide +kernel, by decide +kernel⟩, rfl, rfl, zT 709 (by decide +kernel) rfl, zT 1 (by decide +kernel) rfl⟩
theorem zMk_150 : zMs 150 := ⟨by decide +kernel, zT 708 (by decide +kernel) rfl⟩
theorem zMf_151 : zMf 151 := ⟨by decide +kernel, ⟨by decide +kernel, by decide +kernel⟩, rfl, rfl, zT 759 (by decide +kernel) rfl, zT 1 (by decide +kernel) rfl⟩
theorem zMk_151 : zMv 151 := ⟨by decide +kernel, by decide, zT 758 (by decide +kernel) rfl, zS 66 (by decide +kernel) rfl⟩
theorem zMf_152 : zMf 152 := ⟨by decide +kernel, ⟨by decide +kernel, by decide +kernel⟩, rfl, rfl, zT 755 (by decide +kernel) rfl, zT 1 (by decide +kernel) rfl⟩
theorem zMk_152 : zMv 152 := ⟨by decide +kernel, by decide, zT 754 (by decide +kernel) rfl, zS 65 (by decide +kernel) rfl⟩
theorem zMf_153 : zMf 153 := ⟨by decide +kernel, ⟨by decide +kernel, by decide +kernel⟩, rfl, rfl, zT 747 (by decide +kernel) rfl, zT 1 (by decide +kernel) rfl⟩
theorem zMk_153 : zMs 153 := ⟨by decide +kernel, zT 746 (by decide +kernel) rfl⟩
theorem zMf_154 : zMf 154 := ⟨by decide +kernel, ⟨by decide +kernel, by decide +kernel⟩, rfl, rfl, zT 1144 (by decide +kernel) rfl, zT 11 (by decide +kernel) rfl⟩
theorem zMk_154 : zMi 154 := ⟨by decide +kernel, by decide, zT 1143 (by decide +kernel) rfl, rfl, rfl⟩
theorem zMf_155 : zMf 155 := ⟨by decide +kernel, ⟨by decide +kernel, by decide +kernel⟩, rfl, rfl, zT 1299 (by decide +kernel) rfl, zT 11 (by decide +kernel) rfl⟩
theorem zMk_155 : zMv 155 := ⟨by decide +kernel, by decide, zT 1297 (by decide +kernel) rfl, zT 1298 (by decide +kernel) rfl⟩
theorem zMf_156 : zMf 156 := ⟨by decide +kernel, ⟨by decide +kernel, by decide +kernel⟩, rfl, rfl, zT 1315 (by decide +kernel) rfl, zT 11 (by decide +kernel) rfl⟩
theorem zMk_156 : zMv 156 := ⟨by decide +kernel, by decide, zT 1314 (by decide +kernel) rfl, zS 112 (by decide +kernel) rfl⟩
theorem zMf_157 : zMf 157 := ⟨by decide +kernel, ⟨by decide +kernel, by decide +kernel⟩, rfl, rfl, zT 1318 (by decide +kernel) rfl, zT 11 (by decide +kernel) rfl⟩
theorem zMk_157 : zMs 157 := ⟨by decide +kernel, zT 1317 (by decide +kernel) rfl⟩
theorem zMf_158 : zMf 158 := ⟨by decide +kernel, ⟨by decide +kernel, by decide +kernel⟩, rfl, rfl, zT 1328 (by decide +kernel) rfl, zT 11 (by decide +kernel) rfl⟩
theorem zMk_158 : zMs 158 := ⟨by decide +kernel, zT 1327 (by decide +kernel) rfl⟩
theorem zMf_159 : zMf 159 := ⟨by decide +kernel, ⟨by decide +kernel, by decide +kernel⟩, rfl, rfl, zT 1311 (by decide +kernel) rfl, zT 11 (by decide +kernel) rfl⟩
theorem zMk_159 : zMv 159 := ⟨by decide +kernel, by decide, zT 1310 (by decide +kernel) rfl, zS 111 (by decide +kernel) rfl⟩
theorem zMf_160 : zMf 160 := ⟨by decide +kernel, ⟨by decide +kernel, by decide +kernel⟩, rfl, rfl, zT 1322 (by decide +kernel) rfl, zT 11 (by decide +kernel) rfl⟩
theorem zMk_160 : zMv 160 := ⟨by decide +kernel, by decide, zT 1321 (by decide +kernel) rfl, zS 113 (by decide +kernel) rfl⟩
theorem zMf_161 : zMf 161 := ⟨by decide +kernel, ⟨by decide +kernel, by decide +kernel⟩, rfl, rfl, zT 1340 (by decide +kernel) rfl, zT 11 (by decide +kernel) rfl⟩
theorem zMk_161 : zMv 161 := ⟨by decide +kernel, by decide, zT 1339 (by decide +kernel) rfl, zS 116 (by decide +kernel) rfl⟩
theorem zMf_162 : zMf 162 := ⟨by decide +kernel, ⟨by decide +kernel, by decide +kernel⟩, rfl, rfl, zT 1344 (by decide +kernel) rfl, zT 11 (by decide +kernel) rfl⟩
theorem zMk_162 : zMv 162 := ⟨by decide +kernel, by decide, zT 1343 (by decide +kernel) rfl, zS 117 (by decide +kernel) rfl⟩
theorem zMf_163 : zMf 163 := ⟨by decide +kernel, ⟨by decide +kernel, by decide +kernel⟩, rfl, rfl, zT 1348 (by decide +kernel) rfl, zT 11 (by decide +kernel) rfl⟩
theorem zMk_163 : zMv 163 := ⟨by decide +kernel, by decide, zT 1347 (by decide +kernel) rfl, zS 118 (by decide +kernel) rfl⟩
theorem zMf_164 : zMf 164 := ⟨by decide +kernel, ⟨by decide +kernel, by decide +kernel⟩, rfl, rfl, zT 1360 (by decide +kernel) rfl, zT 11 (by decide +kernel) rfl⟩
theorem zMk_164 : zMv 164 := ⟨by decide +kernel, by decide, zT 1359 (by decide +kernel) rfl, zS 121 (by decide +kernel) rfl⟩
theorem zMf_165 : zMf 165 := ⟨by decide +kernel, ⟨by decide +kernel, by decide +kernel⟩, rfl, rfl, zT 1356 (by decide +kernel) rfl, zT 11 (by decide +kernel) rfl⟩
theorem zMk_165 : zMv 165 := ⟨by decide +kernel, by decide, zT 1355 (by decide +kernel) rfl, zS 120 (by decide +kernel) rfl⟩
theorem zMf_166 : zMf 166 := ⟨by decide +kernel, ⟨by decide +kernel, by decide +kernel⟩, rfl, rfl, zT 1364 (by decide +kernel) rfl, zT 11 (by decide +kernel) rfl⟩
theorem zMk_166 : zMv 166 := ⟨by decide +kernel, by decide, zT 1363 (by decide +kernel) rfl, zS 122 (by decide +kernel) rfl⟩
theorem zMf_167 : zMf 167 := ⟨by decide +kernel, ⟨by decide +kernel, by decide +kernel⟩, rfl, rfl, zT 1368 (by decide +kernel) rfl, zT 11 (by decide +kernel) rfl⟩
theorem zMk_167 : zMv 167 := ⟨by decide +kernel, by decide, zT 1367 (by decide +kernel) rfl, zS 123 (by decide +kernel) rfl⟩
theorem zMf_168 : zMf 168 := ⟨by decide +kernel, ⟨by decide +kernel, by decide +kernel⟩, rfl, rfl, zT 1372 (by decide +kernel) rfl, zT 11 (by decide +kernel) rfl⟩
theorem zMk_168 : zMv 168 := ⟨by decide +kernel, by decide, zT 1371 (by decide +kernel) rfl, zS 124 (by decide +kernel) rfl⟩
theorem zMf_169 : zMf 169 := ⟨by decide +kernel, ⟨by decide +kernel, by decide +kernel⟩, rfl, rfl, zT 1352 (by decide +kernel) rfl, zT 11 (by decide +kernel) rfl⟩
theorem zMk_169 : zMv 169 := ⟨by decide +kernel, by decide, zT 1351 (by decide +kernel) rfl, zS 119 (by decide +kernel) rfl⟩
theorem zMf_170 : zMf 170 := ⟨by decide +kernel, ⟨by decide +kernel, by decide +kernel⟩, rfl, rfl, zT 1336 (by decide +kernel) rfl, zT 11 (by decide +kernel) rfl⟩
theorem zMk_170 : zMv 170 := ⟨by decide +kernel, by decide, zT 1335 (by decide +kernel) rfl, zS 115 (by decide +kernel) rfl⟩
theorem zMf_171 : zMf 171 := ⟨by decide +kernel, ⟨by decide +kernel, by decide +kernel⟩, rfl, rfl, zT 1332 (by decide +kernel) rfl, zT 11 (by decide +kernel) rfl⟩
theorem zMk_171 : zMv 171 := ⟨by decide +kernel, by decide, zT 1331 (by decide +kernel) rfl, zS 114 (by decide +kernel) rfl⟩
theorem zMf_172 : zMf 172 := ⟨by decide +kernel, ⟨by decide +kernel, by decide +kernel⟩, rfl, rfl, zT 1149 (by decide +kernel) rfl, zT 11 (by decide +kernel) rfl⟩
theorem zMk_172 : zMv 172 := ⟨by decide +kernel, by decide, zT 1148 (by decide +kernel) rfl, zS 107 (by decide +kernel) rfl⟩
theorem zMf_173 : zMf 173 := ⟨by decide +kernel, ⟨by decide +kernel, by decide +kernel⟩, rfl, rfl, zT 1307 (by decide +kernel) rfl, zT 11 (by decide +kernel) rfl⟩
theorem zMk_173 : zMv 173 := ⟨by decide +kernel, by decide, zT 1306 (by decide +kernel) rfl, zS 110 (by decide +kernel) rfl⟩
theorem zMf_174 : zMf 174 := ⟨by decide +kernel, ⟨by decide +kernel, by decide +kernel⟩, rfl, rfl, zT 1154 (by decide +kernel) rfl, zT 11 (by decide +kernel) rfl⟩
theorem zMk_174 : zMv 174 := ⟨by decide +kernel, by decide, zT 1153 (by decide +kernel) rfl, zS 108 (by decide +kernel) rfl⟩
theorem zMf_175 : zMf 175 := ⟨by decide +kernel, ⟨by decide +kernel, by decide +kernel⟩, rfl, rfl, zT 1303 (by decide +kernel) rfl, zT 11 (by decide +kernel) rfl⟩
theorem zMk_175 : zMv 175 := ⟨by decide +kernel, by decide, zT 1301 (by decide +kernel) rfl, zT 1302 (by decide +kernel) rfl⟩
theorem zMf_176 : zMf 176 := ⟨by decide +kernel, ⟨by decide +kernel, by decide +kernel⟩, rfl, rfl, zT 1376 (by decide +kernel) rfl, zT 11 (by decide +kernel) rfl⟩
theorem zMk_176 : zMv 176 := ⟨by decide +kernel, by decide, zT 1374 (by decide +kernel) rfl, zT 1375 (by decide +kernel) rfl⟩
theorem zMf_177 : zMf 177 := ⟨by decide +kernel, ⟨by decide +kernel, by decide +kernel⟩, rfl, rfl, zT 1380 (by decide +kernel) rfl, zT 11 (by decide +kernel) rfl⟩
theorem zMk_177 : zMv 177 := ⟨by decide +kernel, by decide, zT 1378 (by decide +kernel) rfl, zT 1379 (by decide +kernel) rfl⟩
theorem zMf_178 : zMf 178 := ⟨by decide +kernel, ⟨by decide +kernel, by decide +kernel⟩, rfl, rfl, zT 1158 (by decide +kernel) rfl, zT 11 (by decide +kernel) rfl⟩
theorem zMk_178 : zMv 178 := ⟨by decide +kernel, by decide, zT 1157 (by decide +kernel) rfl, zS 109 (by decide +kernel) rfl⟩
theorem zMf_179 : zMf 179 := ⟨by decide +kernel, ⟨by decide +kernel, by decide +kernel⟩, rfl, rfl, zT 1384 (by decide +kernel) rfl, zT 11 (by decide +kernel) rfl⟩
theorem zMk_179 : zMv 179 := ⟨by decide +kernel, by decide, zT 1382 (by decide +kernel) rfl, zT 1383 (by decide +kernel) rfl⟩
theorem zMf_180 : zMf 180 := ⟨by decide +kernel, ⟨by decide +kernel, by decide +kernel⟩, rfl, rfl, zT 1396 (by decide +kernel) rfl, zT 11 (by decide +kernel) rfl⟩
theorem zMk_180 : zMv 180 := ⟨by decide +kernel, by decide, zT 1395 (by decide +kernel) rfl, zS 126 (by decide +kernel) rfl⟩
theorem zMf_181 : zMf 181 := ⟨by decide +kernel, ⟨by decide +kernel, by decide +kernel⟩, rfl, rfl, zT 1408 (by decide +kernel) rfl, zT 11 (by decide +kernel) rfl⟩
theorem zMk_181 : zMv 181 := ⟨by decide +kernel, by decide, zT 1407 (by decide +kernel) rfl, zS 129 (by decide +kernel) rfl⟩
theorem zMf_182 : zMf 182 := ⟨by decide +kernel, ⟨by decide +kernel, by decide +kernel⟩, rfl, rfl, zT 1404 (by decide +kernel) rfl, zT 11 (by decide +kernel) rfl⟩
theorem zMk_182 : zMv 182 := ⟨by decide +kernel, by decide, zT 1403 (by decide +kernel) rfl, zS 128 (by decide +kernel) rfl⟩
theorem zMf_183 : zMf 183 := ⟨by decide +kernel, ⟨by decide +kernel, by decide +kernel⟩, rfl, rfl, zT 1420 (by decide +kernel) rfl, zT 11 (by decide +kernel) rfl⟩
theorem zMk_183 : zMv 183 := ⟨by decide +kernel, by decide, zT 1419 (by decide +kernel) rfl, zS 132 (by decide +kernel) rfl⟩
theorem zMf_184 : zMf 184 := ⟨by decide +kernel, ⟨by decide +kernel, by decide +kernel⟩, rfl, rfl, zT 1416 (by decide +kernel) rfl, zT 11 (by decide +kernel) rfl⟩
theorem zMk_184 : zMv 184 := ⟨by decide +kernel, by decide, zT 1415 (by decide +kernel) rfl, zS 131 (by decide +kernel) rfl⟩
theorem zMf_185 : zMf 185 := ⟨by decide +kernel, ⟨by decide +kernel, by decide +kernel⟩, rfl, rfl, zT 1432 (by decide +kernel) rfl, zT 11 (by decide +kernel) rfl⟩
theorem zMk_185 : zMv 185 := ⟨by decide +kernel, by decide, zT 1431 (by decide +kernel) rfl, zS 135 (by decide +kernel) rfl⟩
theorem zMf_186 : zMf 186 := ⟨by decide +kernel, ⟨by decide +kernel, by decide +kernel⟩, rfl, rfl, zT 1452 (by decide +kernel) rfl, zT 11 (by decide +kernel) rfl⟩
theorem zMk_186 : zMv 186 := ⟨by decide +kernel, by decide, zT 1451 (by decide +kernel) rfl, zS 140 (by decide +kernel) rfl⟩
theorem zMf_187 : zMf 187 := ⟨by decide +kernel, ⟨by decide +kernel, by decide +kernel⟩, rfl, rfl, zT 1448 (by decide +kernel) rfl, zT 11 (by decide +kernel) rfl⟩
theorem zMk_187 : zMv 187 := ⟨by decide +kernel, by decide, zT 1447 (by decide +kernel) rfl, zS 139 (by decide +kernel) rfl⟩
theorem zMf_188 : zMf 188 := ⟨by decide +kernel, ⟨by decide +kernel, by decide +kernel⟩, rfl, rfl, zT 1436 (by decide +kernel) rfl, zT 11 (by decide +kernel) rfl⟩
theorem zMk_188 : zMv 188 := ⟨by decide +kernel, by decide, zT 1435 (by decide +kernel) rfl, zS 136 (by decide +kernel) rfl⟩
theorem zMf_189 : zMf 189 := ⟨by decide +kernel, ⟨by decide +kernel, by decide +kernel⟩, rfl, rfl, zT 1444 (by decide +kernel) rfl, zT 11 (by decide +kernel) rfl⟩
theorem zMk_189 : zMv 189 := ⟨by decide +kernel, by decide, zT 1443 (by decide +kernel) rfl, zS 138 (by decide +kernel) rfl⟩
theorem zMf_190 : zMf 190 := ⟨by decide +kernel, ⟨by decide +kernel, by decide +kernel⟩, rfl, rfl, zT 1440 (by decide +kernel) rfl, zT 11 (by decide +kernel) rfl⟩
theorem zMk_190 : zMv 190 := ⟨by decide +kernel, by decide, zT 1439 (by decide +kernel) rfl, zS 137 (by decide +kernel) rfl⟩
theorem zMf_191 : zMf 191 := ⟨by decide +kernel, ⟨by decide +kernel, by decide +kernel⟩, rfl, rfl, zT 1428 (by decide +kernel) rfl, zT 11 (by decide +kernel) rfl⟩
theorem zMk_191 : zMv 191 := ⟨by decide +kernel, by decide, zT 1427 (by decide +kernel) rfl, zS 134 (by decide +kernel) rfl⟩
theorem zMf_192 : zMf 192 := ⟨by decide +kernel, ⟨by decide +kernel, by decide +kernel⟩, rfl, rfl, zT 1424 (by decide +kernel) rfl, zT 11 (by decide +kernel) rfl⟩
theorem zMk_192 : zMv 192 := ⟨by decide +kernel, by decide, zT 1423 (by decide +kernel) rfl, zS 133 (by decide +kernel) rfl⟩
theorem zMf_193 : zMf 193 := ⟨by decide +kernel, ⟨by decide +kernel, by decide +kernel⟩, rfl, rfl, zT 1460 (by decide +kernel) rfl, zT 11 (by decide +kernel) rfl⟩
theorem zMk_193 : zMv 193 := ⟨by decide +kernel, by decide, zT 1459 (by decide +kernel) rfl, zS 142 (by decide +kernel) rfl⟩
theorem zMf_194 : zMf 194 := ⟨by decide +kernel, ⟨by decide +kernel, by decide +kernel⟩, rfl, rfl, zT 1456 (by decide +kernel) rfl, zT 11 (by decide +kernel) rfl⟩
theorem zMk_194 : zMv 194 := ⟨by decide +kernel, by decide, zT 1455 (by decide +kernel) rfl, zS 141 (by decide +kernel) rfl⟩
theorem zMf_195 : zMf 195 := ⟨by decide +kernel, ⟨by decide +kernel, by decide +kernel⟩, rfl, rfl, zT 1464 (by decide +kernel) rfl, zT 11 (by decide +kernel) rfl⟩
theorem zMk_195 : zMv 195 := ⟨by decide +kernel, by decide, zT 1463 (by decide +kernel) rfl, zS 143 (by decide +kernel) rfl⟩
theorem zMf_196 : zMf 196 := ⟨by decide +kernel, ⟨by decide +kernel, by decide +kernel⟩, rfl, rfl, zT 1468 (by decide +kernel) rfl, zT 11 (by decide +kernel) rfl⟩
theorem zMk_196 : zMv 196 := ⟨by decide +kernel, by decide, zT 1467 (by decide +kernel) rfl, zS 144 (by decide +kernel) rfl⟩
theorem zMf_197 : zMf 197 := ⟨by decide +kernel, ⟨by decide +kernel, by decide +kernel⟩, rfl, rfl, zT 1472 (by decide +kernel) rfl, zT 11 (by decide +kernel) rfl⟩
theorem zMk_197 : zMv 197 := ⟨by decide +kernel, by decide, zT 1471 (by decide +kernel) rfl, zS 145 (by decide +kernel) rfl⟩
theorem zMf_198 : zMf 198 := ⟨by decide +kernel, ⟨by decide +kernel, by decide +kernel⟩, rfl, rfl, zT 1412 (by decide +kernel) rfl, zT 11 (by decide +kernel) rfl⟩
theorem zMk_198 : zMv 198 := ⟨by decide +kernel, by decide, zT 1411 (by decide +kernel) rfl, zS 130 (by decide +kernel) rfl⟩
theorem zMf_199 : zMf 199 := ⟨by decide +kernel, ⟨by decide +kernel, by decide +kernel⟩, rfl, rfl, zT 1400 (by decide +kernel) rfl, zT 11 (by decide +kernel) rfl⟩
theorem zMk_199 : zMv 199 := ⟨by decide +kernel, by decide, zT 1399 (by decide +kernel) rfl, zS 127 (by decide +kernel) rfl⟩
theorem zMf_200 : zMf 200 := ⟨by decide +kernel, ⟨by decide +kernel, by decide +kernel⟩, rfl, rfl, zT 1494 (by decide +kernel) rfl, zT 11 (by decide +kernel) rfl⟩
theorem zMk_200 : zMv 200 := ⟨by decide +kernel, by decide, zT 1493 (by decide +kernel) rfl, zS 148 (by decide +kernel) rfl⟩
theorem zMf_201 : zMf 201 := ⟨by decide +kernel, ⟨by decide +kernel, by decide +kernel⟩, rfl, rfl, zT 1498 (by decide +kernel) rfl, zT 11 (by decide +kernel) rfl⟩
theorem zMk_201 : zMv 201 := ⟨by decide +kernel, by decide, zT 1497 (by decide +kernel) rfl, zS 149 (by decide +kernel) rfl⟩
theorem zMf_202 : zMf 202 := ⟨by decide +kernel, ⟨by decide +kernel, by decide +kernel⟩, rfl, rfl, zT 1392 (by decide +kernel) rfl, zT 11 (by decide +kernel) rfl⟩
theorem zMk_202 : zMv 202 := ⟨by decide +kernel, by decide, zT 1390 (by decide +kernel) rfl, zT 1391 (by decide +kernel) rfl⟩
theorem zMf_203 : zMf 203 := ⟨by decide +kernel, ⟨by decide +kernel, by decide +kernel⟩, rfl, rfl, zT 1476 (by decide +kernel) rfl, zT 11 (by decide +kernel) rfl⟩
theorem zMk_203 : zMv 203 := ⟨by decide +kernel, by decide, zT 1475 (by decide +kernel) rfl, zS 146 (by decide +kernel) rfl⟩
theorem zMf_204 : zMf 204 := ⟨by decide +kernel, ⟨by decide +kernel, by decide +kernel⟩, rfl, rfl, zT 1480 (by decide +kernel) rfl, zT 11 (by decide +kernel) rfl⟩
theorem zMk_204 : zMv 204 := ⟨by decide +kernel, by decide, zT 1479 (by decide +kernel) rfl, zS 147 (by decide +kernel) rfl⟩
theorem zMf_205 : zMf 205 := ⟨by decide +kernel, ⟨by decide +kernel, by decide +kernel⟩, rfl, rfl, zT 1487 (by decide +kernel) rfl, zT 11 (by decide +kernel) rfl⟩
theorem zMk_205 : zMs 205 := ⟨by decide +kernel, zT 1486 (by decide +kernel) rfl⟩
theorem zMf_206 : zMf 206 := ⟨by decide +kernel, ⟨by decide +kernel, by decide +kernel⟩, rfl, rfl, zT 1490 (by decide +kernel) rfl, zT 11 (by decide +kernel) rfl⟩
theorem zMk_206 : zMs 206 := ⟨by decide +kernel, zT 1489 (by decide +kernel) rfl⟩
theorem zMf_207 : zMf 207 := ⟨by decide +kernel, ⟨by decide +kernel, by decide +kernel⟩, rfl, rfl, zT 1502 (by decide +kernel) rfl, zT 11 (by decide +kernel) rfl⟩
theorem zMk_207 : zMv 207 := ⟨by decide +kernel, by decide, zT 1501 (by decide +kernel) rfl, zS 150 (by decide +kernel) rfl⟩
theorem zMf_208 : zMf 208 := ⟨by decide +kernel, ⟨by decide +kernel, by decide +kernel⟩, rfl, rfl, zT 1484 (by decide +kernel) rfl, zT 11 (by decide +kernel) rfl⟩
theorem zMk_208 : zMv 208 := ⟨by decide +kernel, by decide, zT 1482 (by decide +kernel) rfl, zT 1483 (by decide +kernel) rfl⟩
theorem zMf_209 : zMf 209 := ⟨by decide +kernel, ⟨by decide +kernel, by decide +kernel⟩, rfl, rfl, zT 1506 (by decide +kernel) rfl, zT 11 (by decide +kernel) rfl⟩
theorem zMk_209 : zMv 209 := ⟨by decide +kernel, by decide, zT 1504 (by decide +kernel) rfl, zT 1505 (by decide +kernel) rfl⟩
theorem zMf_210 : zMf 210 := ⟨by decide +kernel, ⟨by decide +kernel, by decide +kernel⟩, rfl, rfl, zT 1388 (by decide +kernel) rfl, zT 11 (by decide +kernel) rfl⟩
theorem zMk_210 : zMv 210 := ⟨by decide +kernel, by decide, zT 1387 (by decide +kernel) rfl, zS 125 (by decide +kernel) rfl⟩
theorem zMf_211 : zMf 211 := ⟨by decide +kernel, ⟨by decide +kernel, by decide +kernel⟩, rfl, rfl, zT 1510 (by decide +kernel) rfl, zT 11 (by decide +kernel) rfl⟩
theorem zMk_211 : zMv 211 := ⟨by decide +kernel, by decide, zT 1508 (by decide +kernel) rfl, zT 1509 (by decide +kernel) rfl⟩
theorem zMf_212 : zMf 212 := ⟨by decide +kernel, ⟨by decide +kernel, by decide +kernel⟩, rfl, rfl, zT 1518 (by decide +kernel) rfl, zT 11 (by decide +kernel) rfl⟩
theorem zMk_212 : zMv 212 := ⟨by decide +kernel, by decide, zT 1517 (by decide +kernel) rfl, zS 151 (by decide +kernel) rfl⟩
theorem zMf_213 : zMf 213 := ⟨by decide +kernel, ⟨by decide +kernel, by decide +kernel⟩, rfl, rfl, zT 1514 (by decide +kernel) rfl, zT 11 (by decide +kernel) rfl⟩
theorem zMk_213 : zMv 213 := ⟨by decide +kernel, by decide, zT 1512 (by decide +kernel) rfl, zT 1513 (by decide +kernel) rfl⟩
theorem zMf_214 : zMf 214 := ⟨by decide +kernel, ⟨by decide +kernel, by decide +kernel⟩, rfl, rfl, zT 1526 (by decide +kernel) rfl, zT 11 (by decide +kernel) rfl⟩
theorem zMk_214 : zMv 214 := ⟨by decide +kernel, by decide, zT 1525 (by decide +kernel) rfl, zS 152 (by decide +kernel) rfl⟩
theorem zMf_215 : zMf 215 := ⟨by decide +kernel, ⟨by decide +kernel, by decide +kernel⟩, rfl, rfl, zT 1522 (by decide +kernel) rfl, zT 11 (by decide +kernel) rfl⟩
theorem zMk_215 : zMv 215 := ⟨by decide +kernel, by decide, zT 1520 (by decide +kernel) rfl, zT 1521 (by decide +kernel) rfl⟩
theorem zMf_216 : zMf 216 := ⟨by decide +kernel, ⟨by decide +kernel, by decide +kernel⟩, rfl, rfl, zT 1534 (by decide +kernel) rfl, zT 11 (by decide +kernel) rfl⟩
theorem zMk_216 : zMv 216 := ⟨by decide +kernel, by decide, zT 1533 (by decide +kernel) rfl, zS 153 (by decide +kernel) rfl⟩
theorem zMf_217 : zMf 217 := ⟨by decide +kernel, ⟨by decide +kernel, by decide +kernel⟩, rfl, rfl, zT 1530 (by decide +kernel) rfl, zT 11 (by decide +kernel) rfl⟩
theorem zMk_217 : zMv 217 := ⟨by decide +kernel, by decide, zT 1528 (by decide +kernel) rfl, zT 1529 (by decide +kernel) rfl⟩
theorem zMf_218 : zMf 218 := ⟨by decide +kernel, ⟨by decide +kernel, by decide +kernel⟩, rfl, rfl, zT 1538 (by decide +kernel) rfl, zT 11 (by decide +kernel) rfl⟩
theorem zMk_218 : zMv 218 := ⟨by decide +kernel, by decide, zT 1536 (by decide +kernel) rfl, zT 1537 (by decide +kernel) rfl⟩
theorem zMf_219 : zMf 219 := ⟨by decide +kernel, ⟨by decide +kernel, by decide +kernel⟩, rfl, rfl, zT 1546 (by decide +kernel) rfl, zT 11 (by decide +kernel) rfl⟩
theorem zMk_219 : zMv 219 := ⟨by decide +kernel, by decide, zT 1545 (by decide +kernel) rfl, zS 154 (by decide +kernel) rfl⟩
theorem zMf_220 : zMf 220 := ⟨by decide +kernel, ⟨by decide +kernel, by decide +kernel⟩, rfl, rfl, zT 1542 (by decide +kernel) rfl, zT 11 (by decide +kernel) rfl⟩
theorem zMk_220 : zMv 220 := ⟨by decide +kernel, by decide, zT 1540 (by decide +kernel) rfl, zT 1541 (by decide +kernel) rfl⟩
theorem zMf_221 : zMf 221 := ⟨by decide +kernel, ⟨by decide +kernel, by decide +kernel⟩, rfl, rfl, zT 1550 (by decide +kernel) rfl, zT 11 (by decide +kernel) rfl⟩
theorem zMk_221 : zMv 221 := ⟨by decide +kernel, by decide, zT 1548 (by decide +kernel) rfl, zT 1549 (by decide +kernel) rfl⟩
theorem zMf_222 : zMf 222 := ⟨by decide +kernel, ⟨by decide +kernel, by decide +kernel⟩, rfl, rfl, zT 1558 (by decide +kernel) rfl, zT 11 (by decide +kernel) rfl⟩
theorem zMk_222 : zMv 222 := ⟨by decide +kernel, by decide, zT 1557 (by decide +kernel) rfl, zS 155 (by decide +kernel) rfl⟩
theorem zMf_223 : zMf 223 := ⟨by decide +kernel, ⟨by decide +kernel, by decide +kernel⟩, rfl, rfl, zT 1554 (by decide +kernel) rfl, zT 11 (by decide +kernel) rfl⟩
theorem zMk_223 : zMv 223 := ⟨by decide +kernel, by decide, zT 1552 (by decide +kernel) rfl, zT 1553 (by decide +kernel) rfl⟩
theorem zMf_224 : zMf 224 := ⟨by decide +kernel, ⟨by decide +kernel, by decide +kernel⟩, rfl, rfl, zT 1566 (by decide +kernel) rfl, zT 11 (by decide +kernel) rfl⟩
theorem zMk_224 : zMv 224 := ⟨by decide +kernel, by decide, zT 1565 (by decide +kernel) rfl, zS 156 (by decide +kernel) rfl⟩
theorem zMf_225 : zMf 225 := ⟨by decide +kernel, ⟨by decide +kernel, by decide +kernel⟩, rfl, rfl, zT 1562 (by decide +kernel) rfl, zT 11 (by decide +kernel) rfl⟩
theorem zMk_225 : zMv 225 := ⟨by decide +kernel, by decide, zT 1560 (by decide +kernel) rfl, zT 1561 (by decide +kernel) rfl⟩
theorem zMf_226 : zMf 226 := ⟨by decide +kernel, ⟨by decide +kernel, by decide +kernel⟩, rfl, rfl, zT 1574 (by decide +kernel) rfl, zT 11 (by decide +kernel) rfl⟩
theorem zMk_226 : zMv 226 := ⟨by decide +kernel, by decide, zT 1573 (by decide +kernel) rfl, zS 157 (by decide +kernel) rfl⟩
theorem zMf_227 : zMf 227 := ⟨by decide +kernel, ⟨by decide +kernel, by decide +kernel⟩, rfl, rfl, zT 1570 (by decide +kernel) rfl, zT 11 (by decide +kernel) rfl⟩
theorem zMk_227 : zMv 227 := ⟨by decide +kernel, by decide, zT 1568 (by decide +kernel) rfl, zT 1569 (by decide +kernel) rfl⟩
theorem zMf_228 : zMf 228 := ⟨by decide +kernel, ⟨by decide +kernel, by decide +kernel⟩, rfl, rfl, zT 1578 (by decide +kernel) rfl, zT 11 (by decide +kernel) rfl⟩
theorem zMk_228 : zMv 228 := ⟨by decide +kernel, by decide, zT 1576 (by decide +kernel) rfl, zT 1577 (by decide +kernel) rfl⟩
theorem zMf_229 : zMf 229 := ⟨by decide +kernel, ⟨by decide +kernel, by decide +kernel⟩, rfl, rfl, zT 1586 (by decide +kernel) rfl, zT 11 (by decide +kernel) rfl⟩
theorem zMk_229 : zMv 229 := ⟨by decide +kernel, by decide, zT 1585 (by decide +kernel) rfl, zS 158 (by decide +kernel) rfl⟩
theorem zMf_230 : zMf 230 := ⟨by decide +kernel, ⟨by decide +kernel, by decide +kernel⟩, rfl, rfl, zT 1582 (by decide +kernel) rfl, zT 11 (by decide +kernel) rfl⟩
theorem zMk_230 : zMv 230 := ⟨by decide +kernel, by decide, zT 1580 (by decide +kernel) rfl, zT 1581 (by decide +kernel) rfl⟩
theorem zMf_231 : zMf 231 := ⟨by decide +kernel, ⟨by decide +kernel, by decide +kernel⟩, rfl, rfl, zT 1590 (by decide +kernel) rfl, zT 11 (by decide +kernel) rfl⟩
theorem zMk_231 : zMv 231 := ⟨by decide +kernel, by decide, zT 1588 (by decide +kernel) rfl, zT 1589 (by decide +kernel) rfl⟩
theorem zMf_232 : zMf 232 := ⟨by decide +kernel, ⟨by decide +kernel, by decide +kernel⟩, rfl, rfl, zT 1598 (by decide +kernel) rfl, zT 11 (by decide +kernel) rfl⟩
theorem zMk_232 : zMv 232 := ⟨by decide +kernel, by decide, zT 1597 (by decide +kernel) rfl, zS 159 (by decide +kernel) rfl⟩
theorem zMf_233 : zMf 233 := ⟨by decide +kernel, ⟨by decide +kernel, by decide +kernel⟩, rfl, rfl, zT 1594 (by decide +kernel) rfl, zT 11 (by decide +kernel) rfl⟩
theorem zMk_233 : zMv 233 := ⟨by decide +kernel, by decide, zT 1592 (by decide +kernel) rfl, zT 1593 (by decide +kernel) rfl⟩
theorem zMf_234 : zMf 234 := ⟨by decide +kernel, ⟨by decide +kernel, by decide +kernel⟩, rfl, rfl, zT 1602 (by decide +kernel) rfl, zT 11 (by decide +kernel) rfl⟩
theorem zMk_234 : zMv 234 := ⟨by decide +kernel, by decide, zT 1600 (by decide +kernel) rfl, zT 1601 (by decide +kernel) rfl⟩
theorem zMf_235 : zMf 235 := ⟨by decide +kernel, ⟨by decide +kernel, by decide +kernel⟩, rfl, rfl, zT 1610 (by decide +kernel) rfl, zT 11 (by decide +kernel) rfl⟩
theorem zMk_235 : zMv 235 := ⟨by decide +kernel, by decide, zT 1609 (by decide +kernel) rfl, zS 160 (by decide +kernel) rfl⟩
theorem zMf_236 : zMf 236 := ⟨by decide +kernel, ⟨by decide +kernel, by decide +kernel⟩, rfl, rfl, zT 1613 (by decide +kernel) rfl, zT 11 (by decide +kernel) rfl⟩
theorem zMk_236 : zMs 236 := ⟨by decide +kernel, zT 1612 (by decide +kernel) rfl⟩
theorem zMf_237 : zMf 237 := ⟨by decide +kernel, ⟨by decide +kernel, by decide +kernel⟩, rfl, rfl, zT 1606 (by decide +kernel) rfl, zT 11 (by decide +kernel) rfl⟩
theorem zMk_237 : zMv 237 := ⟨by decide +kernel, by decide, zT 1604 (by decide +kernel) rfl, zT 1605 (by decide +kernel) rfl⟩
theorem zMf_238 : zMf 238 := ⟨by decide +kernel, ⟨by decide +kernel, by decide +kernel⟩, rfl, rfl, zT 1621 (by decide +kernel) rfl, zT 11 (by decide +kernel) rfl⟩
theorem zMk_238 : zMv 238 := ⟨by decide +kernel, by decide, zT 1620 (by decide +kernel) rfl, zS 161 (by decide +kernel) rfl⟩
theorem zMf_239 : zMf 239 := ⟨by decide +kernel, ⟨by decide +kernel, by decide +kernel⟩, rfl, rfl, zT 1617 (by decide +kernel) rfl, zT 11 (by decide +kernel) rfl⟩
theorem zMk_239 : zMv 239 := ⟨by decide +kernel, by decide, zT 1615 (by decide +kernel) rfl, zT 1616 (by decide +kernel) rfl⟩
theorem zMf_240 : zMf 240 := ⟨by decide +kernel, ⟨by decide +kernel, by decide +kernel⟩, rfl, rfl, zT 1625 (by decide +kernel) rfl, zT 11 (by decide +kernel) rfl⟩
theorem zMk_240 : zMv 240 := ⟨by decide +kernel, by decide, zT 1623 (by decide +kernel) rfl, zT 1624 (by decide +kernel) rfl⟩
theorem zMf_241 : zMf 241 := ⟨by decide +kernel, ⟨by decide +kernel, by decide +kernel⟩, rfl, rfl, zT 1633 (by decide +kernel) rfl, zT 11 (by decide +kernel) rfl⟩
theorem zMk_241 : zMv 241 := ⟨by decide +kernel, by decide, zT 1632 (by decide +kernel) rfl, zS 162 (by decide +kernel) rfl⟩
theorem zMf_242 : zMf 242 := ⟨by decide +kernel, ⟨by decide +kernel, by decide +kernel⟩, rfl, rfl, zT 1629 (by decide +kernel) rfl, zT 11 (by decide +kernel) rfl⟩
theorem zMk_242 : zMv 242 := ⟨by decide +kernel, by decide, zT 1627 (by decide +kernel) rfl, zT 1628 (by decide +kernel) rfl⟩
theorem zMf_243 : zMf 243 := ⟨by decide +kernel, ⟨by decide +kernel, by decide +kernel⟩, rfl, rfl, zT 1637 (by decide +kernel) rfl, zT 11 (by decide +kernel) rfl⟩
theorem zMk_243 : zMv 243 := ⟨by decide +kernel, by decide, zT 1635 (by decide +kernel) rfl, zT 1636 (by decide +kernel) rfl⟩
theorem zMf_244 : zMf 244 := ⟨by decide +kernel, ⟨by decide +kernel, by decide +kernel⟩, rfl, rfl, zT 1641 (by decide +kernel) rfl, zT 11 (by decide +kernel) rfl⟩
theorem zMk_244 : zMv 244 := ⟨by decide +kernel, by decide, zT 1639 (by decide +kernel) rfl, zT 1640 (by decide +kernel) rfl⟩
theorem zMf_245 : zMf 245 := ⟨by decide +kernel, ⟨by decide +kernel, by decide +kernel⟩, rfl, rfl, zT 1645 (by decide +kernel) rfl, zT 11 (by decide +kernel) rfl⟩
theorem zMk_245 : zMv 245 := ⟨by decide +kernel, by decide, zT 1643 (by decide +kernel) rfl, zT 1644 (by decide +kernel) rfl⟩
theorem zMf_246 : zMf 246 := ⟨by decide +kernel, ⟨by decide +kernel, by decide +kernel⟩, rfl, rfl, zT 1649 (by decide +kernel) rfl, zT 11 (by decide +kernel) rfl⟩
theorem zMk_246 : zMv 246 := ⟨by decide +kernel, by decide, zT 1647 (by decide +kernel) rfl, zT 1648 (by decide +kernel) rfl⟩
theorem zMf_247 : zMf 247 := ⟨by decide +kernel, ⟨by decide +kernel, by decide +kernel⟩, rfl, rfl, zT 1653 (by decide +kernel) rfl, zT 11 (by decide +kernel) rfl⟩
theorem zMk_247 : zMv 247 := ⟨by decide +kernel, by decide, zT 1651 (by decide +kernel) rfl, zT 1652 (by decide +kernel) rfl⟩
theorem zMf_248 : zMf 248 := ⟨by decide +kernel, ⟨by decide +kernel, by decide +kernel⟩, rfl, rfl, zT 1661 (by decide +kernel) rfl, zT 11 (by decide +kernel) rfl⟩
theorem zMk_248 : zMv 248 := ⟨by decide +kernel, by decide, zT 1660 (by decide +kernel) rfl, zS 163 (by decide +kernel) rfl⟩
theorem zMf_249 : zMf 249 := ⟨by decide +kernel, ⟨by decide +kernel, by decide +kernel⟩, rfl, rfl, zT 1657 (by decide +kernel) rfl, zT 11 (by decide +kernel) rfl⟩
theorem zMk_249 : zMv 249 := ⟨by decide +kernel, by decide, zT 1655 (by decide +kernel) rfl, zT 1656 (by decide +kernel) rfl⟩
theorem zMf_250 : zMf 250 := ⟨by decide +kernel, ⟨by decide +kernel, by decide +kernel⟩, rfl, rfl, zT 1665 (by decide +kernel) rfl, zT 11 (by decide +kernel) rfl⟩
theorem zMk_250 : zMv 250 := ⟨by decide +kernel, by decide, zT 1663 (by decide +kernel) rfl, zT 1664 (by decide +kernel) rfl⟩
theorem zMf_251 : zMf 251 := ⟨by decide +kernel, ⟨by decide +kernel, by decide +kernel⟩, rfl, rfl, zT 1669 (by decide +kernel) rfl, zT 11 (by decide +kernel) rfl⟩
theorem zMk_251 : zMv 251 := ⟨by decide +kernel, by decide, zT 1667 (by decide +kernel) rfl, zT 1668 (by decide +kernel) rfl⟩
theorem zMf_252 : zMf 252 := ⟨by decide +kernel, ⟨by decide +kernel, by decide +kernel⟩, rfl, rfl, zT 1673 (by decide +kernel) rfl, zT 11 (by decide +kernel) rfl⟩
theorem zMk_252 : zMv 252 := ⟨by decide +kernel, by decide, zT 1672 (by decide +kernel) rfl, zS 164 (by decide +kernel) rfl⟩
theorem zMf_253 : zMf 253 := ⟨by decide +kernel, ⟨by decide +kernel, by decide +kernel⟩, rfl, rfl, zT 736 (by decide +kernel) rfl, zT 24 (by decide +kernel) rfl⟩
theorem zMk_253 : zMs 253 := ⟨by decide +kernel, zT 735 (by decide +kernel) rfl⟩
theorem zMf_254 : zMf 254 := ⟨by decide +kernel, ⟨by decide +kernel, by decide +kernel⟩, rfl, rfl, zT 399 (by decide +kernel) rfl, zT 12 (by decide +kernel) rfl⟩
theorem zMk_254 : zMs 254 := ⟨by decide +kernel, zT 398 (by decide +kernel) rfl⟩
theorem z_sp {P : Nat → Prop} (a b c : Nat) (h1 : ∀ j, a ≤ j → j < b → P j) (h2 : ∀ j, b ≤ j → j < c → P j) : ∀ j, a ≤ j → j < c → P j := fun j h3 h4 => if h : j < b then h1 j h3 h else h2 j (Nat.le_of_not_lt h) h4
theorem z_lf {P : Nat → Prop} (a : Nat) (h : P a) : ∀ j, a ≤ j → j < a + 1 → P j := fun j h1 h2 => (Nat.le_antisymm h1 (Nat.le_of_lt_succ h2)) ▸ h
theorem zMf_ok : ∀ j, j < 255 → zMf j := fun j h => (show ∀ j, 0 ≤ j → j < 255 → zMf j from (z_sp 0 127 255 (z_sp 0 63 127 (z_sp 0 31 63 (z_sp 0 15 31 (z_sp 0 7 15 (z_sp 0 3 7 (z_sp 0 1 3 (z_lf 0 zMf_0) (z_sp 1 2 3 (z_lf 1 zMf_1) (z_lf 2 zMf_2))) (z_sp 3 5 7 (z_sp 3 4 5 (z_lf 3 zMf_3) (z_lf 4 zMf_4)) (z_sp 5 6 7 (z_lf 5 zMf_5) (z_lf 6 zMf_6)))) (z_sp 7 11 15 (z_sp 7 9 11 (z_sp 7 8 9 (z_lf 7 zMf_7) (z_lf 8 zMf_8)) (z_sp 9 10 11 (z_lf 9 zMf_9) (z_lf 10 zMf_10))) (z_sp 11 13 15 (z_sp 11 12 13 (z_lf 11 zMf_11) (z_lf 12 zMf_12)) (z_sp 13 14 15 (z_lf 13 zMf_13) (z_lf 14 zMf_14))))) (z_sp 15 23 31 (z_sp 15 19 23 (z_sp 15 17 19 (z_sp 15 16 17 (z_lf 15 zMf_15) (z_lf 16 zMf_16)) (z_sp 17 18 19 (z_lf 17 zMf_17) (z_lf 18 zMf_18))) (z_sp 19 21 23 (z_sp 19 20 21 (z_lf 19 zMf_19) (z_lf 20 zMf_20)) (z_sp 21 22 23 (z_lf 21 zMf_21) (z_lf 22 zMf_22)))) (z_sp 23 27 31 (z_sp 23 25 27 (z_sp 23 24 25 (z_lf 23 zMf_23) (z_lf 24 zMf_24)) (z_sp 25 26 27 (z_lf 25 zMf_25) (z_lf 26 zMf_26))) (z_sp 27 29 31 (z_sp 27 28 29 (z_lf 27 zMf_27) (z_lf 28 zMf_28)) (z_sp 29 30 31 (z_lf 29 zMf_29) (z_lf 30 zMf_30)))))) (z_sp 31 47 63 (z_sp 31 39 47 (z_sp 31 35 39 (z_sp 31 33 35 (z_sp 31 32 33 (z_lf 31 zMf_31) (z_lf 32 zMf_32)) (z_sp 33 34 35 (z_lf 33 zMf_33) (z_lf 34 zMf_34))) (z_sp 35 37 39 (z_sp 35 36 37 (z_lf 35 zMf_35) (z_lf 36 zMf_36)) (z_sp 37 38 39 (z_lf 37 zMf_37) (z_lf 38 zMf_38)))) (z_sp 39 43 47 (z_sp 39 41 43 (z_sp 39 40 41 (z_lf 39 zMf_39) (z_lf 40 zMf_40)) (z_sp 41 42 43 (z_lf 41 zMf_41) (z_lf 42 zMf_42))) (z_sp 43 45 47 (z_sp 43 44 45 (z_lf 43 zMf_43) (z_lf 44 zMf_44)) (z_sp 45 46 47 (z_lf 45 zMf_45) (z_lf 46 zMf_46))))) (z_sp 47 55 63 (z_sp 47 51 55 (z_sp 47 49 51 (z_sp 47 48 49 (z_lf 47 zMf_47) (z_lf 48 zMf_48)) (z_sp 49 50 51 (z_lf 49 zMf_49) (z_lf 50 zMf_50))) (z_sp 51 53 55 (z_sp 51 52 53 (z_lf 51 zMf_51) (z_lf 52 zMf_52)) (z_sp 53 54 55 (z_lf 53 zMf_53) (z_lf 54 zMf_54)))) (z_sp 55 59 63 (z_sp 55 57 59 (z_sp 55 56 57 (z_lf 55 zMf_55) (z_lf 56 zMf_56)) (z_sp 57 58 59 (z_lf 57 zMf_57) (z_lf 58 zMf_58))) (z_sp 59 61 63 (z_sp 59 60 61 (z_lf 59 zMf_59) (z_lf 60 zMf_60)) (z_sp 61 62 63 (z_lf 61 zMf_61) (z_lf 62 zMf_62))))))) (z_sp 63 95 127 (z_sp 63 79 95 (z_sp 63 71 79 (z_sp 63 67 71 (z_sp 63 65 67 (z_sp 63 64 65 (z_lf 63 zMf_63) (z_lf 64 zMf_64)) (z_sp 65 66 67 (z_lf 65 zMf_65) (z_lf 66 zMf_66))) (z_sp 67 69 71 (z_sp 67 68 69 (z_lf 67 zMf_67) (z_lf 68 zMf_68)) (z_sp 69 70 71 (z_lf 69 zMf_69) (z_lf 70 zMf_70)))) (z_sp 71 75 79 (z_sp 71 73 75 (z_sp 71 72 73 (z_lf 71 zMf_71) (z_lf 72 zMf_72)) (z_sp 73 74 75 (z_lf 73 zMf_73) (z_lf 74 zMf_74))) (z_sp 75 77 79 (z_sp 75 76 77 (z_lf 75 zMf_75) (z_lf 76 zMf_76)) (z_sp 77 78 79 (z_lf 77 zMf_77) (z_lf 78 zMf_78))))) (z_sp 79 87 95 (z_sp 79 83 87 (z_sp 79 81 83 (z_sp 79 80 81 (z_lf 79 zMf_79) (z_lf 80 zMf_80)) (z_sp 81 82 83 (z_lf 81 zMf_81) (z_lf 82 zMf_82))) (z_sp 83 85 87 (z_sp 83 84 85 (z_lf 83 zMf_83) (z_lf 84 zMf_84)) (z_sp 85 86 87 (z_lf 85 zMf_85) (z_lf 86 zMf_86)))) (z_sp 87 91 95 (z_sp 87 89 91 (z_sp 87 88 89 (z_lf 87 zMf_87) (z_lf 88 zMf_88)) (z_sp 89 90 91 (z_lf 89 zMf_89) (z_lf 90 zMf_90))) (z_sp 91 93 95 (z_sp 91 92 93 (z_lf 91 zMf_91) (z_lf 92 zMf_92)) (z_sp 93 94 95 (z_lf 93 zMf_93) (z_lf 94 zMf_94)))))) (z_sp 95 111 127 (z_sp 95 103 111 (z_sp 95 99 103 (z_sp 95 97 99 (z_sp 95 96 97 (z_lf 95 zMf_95) (z_lf 96 zMf_96)) (z_sp 97 98 99 (z_lf 97 zMf_97) (z_lf 98 zMf_98))) (z_sp 99 101 103 (z_sp 99 100 101 (z_lf 99 zMf_99) (z_lf 100 zMf_100)) (z_sp 101 102 103 (z_lf 101 zMf_101) (z_lf 102 zMf_102)))) (z_sp 103 107 111 (z_sp 103 105 107 (z_sp 103 104 105 (z_lf 103 zMf_103) (z_lf 104 zMf_104)) (z_sp 105 106 107 (z_lf 105 zMf_105) (z_lf 106 zMf_106))) (z_sp 107 109 111 (z_sp 107 108 109 (z_lf 107 zMf_107) (z_lf 108 zMf_108)) (z_sp 109 110 111 (z_lf 109 zMf_109) (z_lf 110 zMf_110))))) (z_sp 111 119 127 (z_sp 111 115 119 (z_sp 111 113 115 (z_sp 111 112 113 (z_lf 111 zMf_111) (z_lf 112 zMf_112)) (z_sp 113 114 115 (z_lf 113 zMf_113) (z_lf 114 zMf_114))) (z_sp 115 117 119 (z_sp 115 116 117 (z_lf 115 zMf_115) (z_lf 116 zMf_116)) (z_sp 117 118 119 (z_lf 117 zMf_117) (z_lf 118 zMf_118)))) (z_sp 119 123 127 (z_sp 119 121 123 (z_sp 119 120 121 (z_lf 119 zMf_119) (z_lf 120 zMf_120)) (z_sp 121 122 123 (z_lf 121 zMf_121) (z_lf 122 zMf_122))) (z_sp 123 125 127 (z_sp 123 124 125 (z_lf 123 zMf_123) (z_lf 124 zMf_124)) (z_sp 125 126 127 (z_lf 125 zMf_125) (z_lf 126 zMf_126)))))))) (z_sp 127 191 255 (z_sp 127 159 191 (z_sp 127 143 159 (z_sp 127 135 143 (z_sp 127 131 135 (z_sp 127 129 131 (z_sp 127 128 129 (z_lf 127 zMf_127) (z_lf 128 zMf_128)) (z_sp 129 130 131 (z_lf 129 zMf_129) (z_lf 130 zMf_130))) (z_sp 131 133 135 (z_sp 131 132 133 (z_lf 131 zMf_131) (z_lf 132 zMf_132)) (z_sp 133 134 135 (z_lf 133 zMf_133) (z_lf 134 zMf_134)))) (z_sp 135 139 143 (z_sp 135 137 139 (z_sp 135 136 137 (z_lf 135 zMf_135) (z_lf 136 zMf_136)) (z_sp 137 138 139 (z_lf 137 zMf_137) (z_lf 138 zMf_138))) (z_sp 139 141 143 (z_sp 139 140 141 (z_lf 139 zMf_139) (z_lf 140 zMf_140)) (z_sp 141 142 143 (z_lf 141 zMf_141) (z_lf 142 zMf_142))))) (z_sp 143 151 159 (z_sp 143 147 151 (z_sp 143 145 147 (z_sp 143 144 145 (z_lf 143 zMf_143) (z_lf 144 zMf_144)) (z_sp 145 146 147 (z_lf 145 zMf_145) (z_lf 146 zMf_146))) (z_sp 147 149 151 (z_sp 147 148 149 (z_lf 147 zMf_147) (z_lf 148 zMf_148)) (z_sp 149 150 151 (z_lf 149 zMf_149) (z_lf 150 zMf_150)))) (z_sp 151 155 159 (z_sp 151 153 155 (z_sp 151 152 153 (z_lf 151 zMf_151) (z_lf 152 zMf_152)) (z_sp 153 154 155 (z_lf 153 zMf_153) (z_lf 154 zMf_154))) (z_sp 155 157 159 (z_sp 155 156 157 (z_lf 155 zMf_155) (z_lf 156 zMf_156)) (z_sp 157 158 159 (z_lf 157 zMf_157) (z_lf 158 zMf_158)))))) (z_sp 159 175 191 (z_sp 159 167 175 (z_sp 159 163 167 (z_sp 159 161 163 (z_sp 159 160 161 (z_lf 159 zMf_159) (z_lf 160 zMf_160)) (z_sp 161 162 163 (z_lf 161 zMf_161) (z_lf 162 zMf_162))) (z_sp 163 165 167 (z_sp 163 164 165 (z_lf 163 zMf_163) (z_lf 164 zMf_164)) (z_sp 165 166 167 (z_lf 165 zMf_165) (z_lf 166 zMf_166)))) (z_sp 167 171 175 (z_sp 167 169 171 (z_sp 167 168 169 (z_lf 167 zMf_167) (z_lf 168 zMf_168)) (z_sp 169 170 171 (z_lf 169 zMf_169) (z_lf 170 zMf_170))) (z_sp 171 173 175 (z_sp 171 172 173 (z_lf 171 zMf_171) (z_lf 172 zMf_172)) (z_sp 173 174 175 (z_lf 173 zMf_173) (z_lf 174 zMf_174))))) (z_sp 175 183 191 (z_sp 175 179 183 (z_sp 175 177 179 (z_sp 175 176 177 (z_lf 175 zMf_175) (z_lf 176 zMf_176)) (z_sp 177 178 179 (z_lf 177 zMf_177) (z_lf 178 zMf_178))) (z_sp 179 181 183 (z_sp 179 180 181 (z_lf 179 zMf_179) (z_lf 180 zMf_180)) (z_sp 181 182 183 (z_lf 181 zMf_181) (z_lf 182 zMf_182)))) (z_sp 183 187 191 (z_sp 183 185 187 (z_sp 183 184 185 (z_lf 183 zMf_183) (z_lf 184 zMf_184)) (z_sp 185 186 187 (z_lf 185 zMf_185) (z_lf 186 zMf_186))) (z_sp 187 189 191 (z_sp 187 188 189 (z_lf 187 zMf_187) (z_lf 188 zMf_188)) (z_sp 189 190 191 (z_lf 189 zMf_189) (z_lf 190 zMf_190))))))) (z_sp 191 223 255 (z_sp 191 207 223 (z_sp 191 199 207 (z_sp 191 195 199 (z_sp 191 193 195 (z_sp 191 192 193 (z_lf 191 zMf_191) (z_lf 192 zMf_192)) (z_sp 193 194 195 (z_lf 193 zMf_193) (z_lf 194 zMf_194))) (z_sp 195 197 199 (z_sp 195 196 197 (z_lf 195 zMf_195) (z_lf 196 zMf_196)) (z_sp 197 198 199 (z_lf 197 zMf_197) (z_lf 198 zMf_198)))) (z_sp 199 203 207 (z_sp 199 201 203 (z_sp 199 200 201 (z_lf 199 zMf_199) (z_lf 200 zMf_200)) (z_sp 201 202 203 (z_lf 201 zMf_201) (z_lf 202 zMf_202))) (z_sp 203 205 207 (z_sp 203 204 205 (z_lf 203 zMf_203) (z_lf 204 zMf_204)) (z_sp 205 206 207 (z_lf 205 zMf_205) (z_lf 206 zMf_206))))) (z_sp 207 215 223 (z_sp 207 211 215 (z_sp 207 209 211 (z_sp 207 208 209 (z_lf 207 zMf_207) (z_lf 208 zMf_208)) (z_sp 209 210 211 (z_lf 209 zMf_209) (z_lf 210 zMf_210))) (z_sp 211 213 215 (z_sp 211 212 213 (z_lf 211 zMf_211) (z_lf 212 zMf_212)) (z_sp 213 214 215 (z_lf 213 zMf_213) (z_lf 214 zMf_214)))) (z_sp 215 219 223 (z_sp 215 217 219 (z_sp 215 216 217 (z_lf 215 zMf_215) (z_lf 216 zMf_216)) (z_sp 217 218 219 (z_lf 217 zMf_217) (z_lf 218 zMf_218))) (z_sp 219 221 223 (z_sp 219 220 221 (z_lf 219 zMf_219) (z_lf 220 zMf_220)) (z_sp 221 222 223 (z_lf 221 zMf_221) (z_lf 222 zMf_222)))))) (z_sp 223 239 255 (z_sp 223 231 239 (z_sp 223 227 231 (z_sp 223 225 227 (z_sp 223 224 225 (z_lf 223 zMf_223) (z_lf 224 zMf_224)) (z_sp 225 226 227 (z_lf 225 zMf_225) (z_lf 226 zMf_226))) (z_sp 227 229 231 (z_sp 227 228 229 (z_lf 227 zMf_227) (z_lf 228 zMf_228)) (z_sp 229 230 231 (z_lf 229 zMf_229) (z_lf 230 zMf_230)))) (z_sp 231 235 239 (z_sp 231 233 235 (z_sp 231 232 233 (z_lf 231 zMf_231) (z_lf 232 zMf_232)) (z_sp 233 234 235 (z_lf 233 zMf_233) (z_lf 234 zMf_234))) (z_sp 235 237 239 (z_sp 235 236 237 (z_lf 235 zMf_235) (z_lf 236 zMf_236)) (z_sp 237 238 239 (z_lf 237 zMf_237) (z_lf 238 zMf_238))))) (z_sp 239 247 255 (z_sp 239 243 247 (z_sp 239 241 243 (z_sp 239 240 241 (z_lf 239 zMf_239) (z_lf 240 zMf_240)) (z_sp 241 242 243 (z_lf 241 zMf_241) (z_lf 242 zMf_242))) (z_sp 243 245 247 (z_sp 243 244 245 (z_lf 243 zMf_243) (z_lf 244 zMf_244)) (z_sp 245 246 247 (z_lf 245 zMf_245) (z_lf 246 zMf_246)))) (z_sp 247 251 255 (z_sp 247 249 251 (z_sp 247 248 249 (z_lf 247 zMf_247) (z_lf 248 zMf_248)) (z_sp 249 250 251 (z_lf 249 zMf_249) (z_lf 250 zMf_250))) (z_sp 251 253 255 (z_sp 251 252 253 (z_lf 251 zMf_251) (z_lf 252 zMf_252)) (z_sp 253 254 255 (z_lf 253 zMf_253) (z_lf 254 zMf_254)))))))))) j (Nat.zero_le j) h
theorem zC_ok : ∀ j, j < 11 → zCp j := fun j h => (show ∀ j, 0 ≤ j → j < 11 → zCp j from (z_sp 0 5 11 (z_sp 0 2 5 (z_sp 0 1 2 (z_lf 0 zC_0) (z_lf 1 zC_1)) (z_sp 2 3 5 (z_lf 2 zC_2) (z_sp 3 4 5 (z_lf 3 zC_3) (z_lf 4 zC_4)))) (z_sp 5 8 11 (z_sp 5 6 8 (z_lf 5 zC_5) (z_sp 6 7 8 (z_lf 6 zC_6) (z_lf 7 zC_7))) (z_sp 8 9 11 (z_lf 8 zC_8) (z_sp 9 10 11 (z_lf 9 zC_9) (z_lf 10 zC_10)))))) j (Nat.zero_le j) h
def zKv : List Nat := [1, 2, 3, 4, 5, 6, 7, 9, 10, 11, 12, 13, 14, 15, 16, 17, 18, 19, 20, 21, 22, 24, 25, 26, 27, 29, 30, 31, 32, 33, 34, 35, 36, 38, 39, 40, 41, 42, 43, 44, 45, 46, 47, 48, 49, 50, 52, 53, 54, 55, 56, 57, 58, 59, 60, 61, 62, 63, 64, 65, 66, 67, 68, 70, 71, 73, 74, 75, 76, 77, 78, 79, 80, 81, 83, 84, 85, 86, 87, 88, 89, 90, 91, 92, 93, 94, 95, 96, 97, 98, 99, 100, 101, 102, 103, 104, 105, 106, 107, 108, 109, 110, 111, 113, 114, 115, 116, 117, 118, 119, 120, 121, 122, 123, 124, 125, 126, 127, 128, 129, 130, 131, 132, 133, 134, 135, 136, 137, 138, 139, 140, 141, 142, 143, 144, 145, 146, 147, 148, 151, 152, 155, 156, 159, 160, 161, 162, 163, 164, 165, 166, 167, 168, 169, 170, 171, 172, 173, 174, 175, 176, 177, 178, 179, 180, 181, 182, 183, 184, 185, 186, 187, 188, 189, 190, 191, 192, 193, 194, 195, 196, 197, 198, 199, 200, 201, 202, 203, 204, 207, 208, 209, 210, 211, 212, 213, 214, 215, 216, 217, 218, 219, 220, 221, 222, 223, 224, 225, 226, 227, 228, 229, 230, 231, 232, 233, 234, 235, 237, 238, 239, 240, 241, 242, 243, 244, 245, 246, 247, 248, 249, 250, 251, 252]
theorem zKv_0 : ∀ r ∈ ([1, 2, 3, 4, 5, 6, 7, 9, 10, 11, 12, 13, 14, 15, 16, 17, 18, 19, 20, 21, 22, 24, 25, 26, 27, 29, 30, 31, 32, 33, 34, 35, 36, 38, 39, 40, 41, 42, 43, 44] : List Nat), zMv r := List.forall_mem_cons.mpr ⟨zMk_1, List.forall_mem_cons.mpr ⟨zMk_2, List.forall_mem_cons.mpr ⟨zMk_3, List.forall_mem_cons.mpr ⟨zMk_4, List.forall_mem_cons.mpr ⟨zMk_5, List.forall_mem_cons.mpr ⟨zMk_6, List.forall_mem_cons.mpr ⟨zMk_7, List.forall_mem_cons.mpr ⟨zMk_9, List.forall_mem_cons.mpr ⟨zMk_10, List.forall_mem_cons.mpr ⟨zMk_11, List.forall_mem_cons.mpr ⟨zMk_12, List.forall_mem_cons.mpr ⟨zMk_13, List.forall_mem_cons.mpr ⟨zMk_14, List.forall_mem_cons.mpr ⟨zMk_15, List.forall_mem_cons.mpr ⟨zMk_16, List.forall_mem_cons.mpr ⟨zMk_17, List.forall_mem_cons.mpr ⟨zMk_18, List.forall_mem_cons.mpr ⟨zMk_19, List.forall_mem_cons.mpr ⟨zMk_20, List.forall_mem_cons.mpr ⟨zMk_21, List.forall_mem_cons.mpr ⟨zMk_22, List.forall_mem_cons.mpr ⟨zMk_24, List.forall_mem_cons.mpr ⟨zMk_25, List.forall_mem_cons.mpr ⟨zMk_26, List.forall_mem_cons.mpr ⟨zMk_27, List.forall_mem_cons.mpr ⟨zMk_29, List.forall_mem_cons.mpr ⟨zMk_30, List.forall_mem_cons.mpr ⟨zMk_31, List.forall_mem_cons.mpr ⟨zMk_32, List.forall_mem_cons.mpr ⟨zMk_33, List.forall_mem_cons.mpr ⟨zMk_34, List.forall_mem_cons.mpr ⟨zMk_35, List.forall_mem_cons.mpr ⟨zMk_36, List.forall_mem_cons.mpr ⟨zMk_38, List.forall_mem_cons.mpr ⟨zMk_39, List.forall_mem_cons.mpr ⟨zMk_40, List.forall_mem_cons.mpr ⟨zMk_41, List.forall_mem_cons.mpr ⟨zMk_42, List.forall_mem_cons.mpr ⟨zMk_43, List.forall_mem_cons.mpr ⟨zMk_44, fun _ h => absurd h List.not_mem_nil⟩⟩⟩⟩⟩⟩⟩⟩⟩⟩⟩⟩⟩⟩⟩⟩⟩⟩⟩⟩⟩⟩⟩⟩⟩⟩⟩⟩⟩⟩⟩⟩⟩⟩⟩⟩⟩⟩⟩⟩
theorem zKv_1 : ∀ r ∈ ([45, 46, 47, 48, 49, 50, 52, 53, 54, 55, 56, 57, 58, 59, 60, 61, 62, 63, 64, 65, 66, 67, 68, 70, 71, 73, 74, 75, 76, 77, 78, 79, 80, 81, 83, 84, 85, 86, 87, 88] : List Nat), zMv r := List.forall_mem_cons.mpr ⟨zMk_45, List.forall_mem_cons.mpr ⟨zMk_46, List.forall_mem_cons.mpr ⟨zMk_47, List.forall_mem_cons.mpr ⟨zMk_48, List.forall_mem_cons.mpr ⟨zMk_49, List.forall_mem_cons.mpr ⟨zMk_50, List.forall_mem_cons.mpr ⟨zMk_52, List.forall_mem_cons.mpr ⟨zMk_53, List.forall_mem_cons.mpr ⟨zMk_54, List.forall_mem_cons.mpr ⟨zMk_55, List.forall_mem_cons.mpr ⟨zMk_56, List.forall_mem_cons.mpr ⟨zMk_57, List.forall_mem_cons.mpr ⟨zMk_58, List.forall_mem_cons.mpr ⟨zMk_59, List.forall_mem_cons.mpr ⟨zMk_60, List.forall_mem_cons.mpr ⟨zMk_61, List.forall_mem_cons.mpr ⟨zMk_62, List.forall_mem_cons.mpr ⟨zMk_63, List.forall_mem_cons.mpr ⟨zMk_64, List.forall_mem_cons.mpr ⟨zMk_65, List.forall_mem_cons.mpr ⟨zMk_66, List.forall_mem_cons.mpr ⟨zMk_67, List.forall_mem_cons.mpr ⟨zMk_68, List.forall_mem_cons.mpr ⟨zMk_70, List.forall_mem_cons.mpr ⟨zMk_71, List.forall_mem_cons.mpr ⟨zMk_73, List.forall_mem_cons.mpr ⟨zMk_74, List.forall_mem_cons.mpr ⟨zMk_75, List.forall_mem_cons.mpr ⟨zMk_76, List.forall_mem_cons.mpr ⟨zMk_77, List.forall_mem_cons.mpr ⟨zMk_78, List.forall_mem_cons.mpr ⟨zMk_79, List.forall_mem_cons.mpr ⟨zMk_80, List.forall_mem_cons.mpr ⟨zMk_81, List.forall_mem_cons.mpr ⟨zMk_83, List.forall_mem_cons.mpr ⟨zMk_84, List.forall_mem_cons.mpr ⟨zMk_85, List.forall_mem_cons.mpr ⟨zMk_86, List.forall_mem_cons.mpr ⟨zMk_87, List.forall_mem_cons.mpr ⟨zMk_88, fun _ h => absurd h List.not_mem_nil⟩⟩⟩⟩⟩⟩⟩⟩⟩⟩⟩⟩⟩⟩⟩⟩⟩⟩⟩⟩⟩⟩⟩⟩⟩⟩⟩⟩⟩⟩⟩⟩⟩⟩⟩⟩⟩⟩⟩⟩
theorem zKv_2 : ∀ r ∈ ([89, 90, 91, 92, 93, 94, 95, 96, 97, 98, 99, 100, 101, 102, 103, 104, 105, 106, 107, 108, 109, 110, 111, 113, 114, 115, 116, 117, 118, 119, 120, 121, 122, 123, 124, 125, 126, 127, 128, 129] : List Nat), zMv r := List.forall_mem_cons.mpr ⟨zMk_89, List.forall_mem_cons.mpr ⟨zMk_90, List.forall_mem_cons.mpr ⟨zMk_91, List.forall_mem_cons.mpr ⟨zMk_92, List.forall_mem_cons.mpr ⟨zMk_93, List.forall_mem_cons.mpr ⟨zMk_94, List.forall_mem_cons.mpr ⟨zMk_95, List.forall_mem_cons.mpr ⟨zMk_96, List.forall_mem_cons.mpr ⟨zMk_97, List.forall_mem_cons.mpr ⟨zMk_98, List.forall_mem_cons.mpr ⟨zMk_99, List.forall_mem_cons.mpr ⟨zMk_100, List.forall_mem_cons.mpr ⟨zMk_101, List.forall_mem_cons.mpr ⟨zMk_102, List.forall_mem_cons.mpr ⟨zMk_103, List.forall_mem_cons.mpr ⟨zMk_104, List.forall_mem_cons.mpr ⟨zMk_105, List.forall_mem_cons.mpr ⟨zMk_106, List.forall_mem_cons.mpr ⟨zMk_107, List.forall_mem_cons.mpr ⟨zMk_108, List.forall_mem_cons.mpr ⟨zMk_109, List.forall_mem_cons.mpr ⟨zMk_110, List.forall_mem_cons.mpr ⟨zMk_111, List.forall_mem_cons.mpr ⟨zMk_113, List.forall_mem_cons.mpr ⟨zMk_114, List.forall_mem_cons.mpr ⟨zMk_115, List.forall_mem_cons.mpr ⟨zMk_116, List.forall_mem_cons.mpr ⟨zMk_117, List.forall_mem_cons.mpr ⟨zMk_118, List.forall_mem_cons.mpr ⟨zMk_119, List.forall_mem_cons.mpr ⟨zMk_120, List.forall_mem_cons.mpr ⟨zMk_121, List.forall_mem_cons.mpr ⟨zMk_122, List.forall_mem_cons.mpr ⟨zMk_123, List.forall_mem_cons.mpr ⟨zMk_124, List.forall_mem_cons.mpr ⟨zMk_125, List.forall_mem_cons.mpr ⟨zMk_126, List.forall_mem_cons.mpr ⟨zMk_127, List.forall_mem_cons.mpr ⟨zMk_128, List.forall_mem_cons.mpr ⟨zMk_129, fun _ h => absurd h List.not_mem_nil⟩⟩⟩⟩⟩⟩⟩⟩⟩⟩⟩⟩⟩⟩⟩⟩⟩⟩⟩⟩⟩⟩⟩⟩⟩⟩⟩⟩⟩⟩⟩⟩⟩⟩⟩⟩⟩⟩⟩⟩
theorem zKv_3 : ∀ r ∈ ([130, 131, 132, 133, 134, 135, 136, 137, 138, 139, 140, 141, 142, 143, 144, 145, 146, 147, 148, 151, 152, 155, 156, 159, 160, 161, 162, 163, 164, 165, 166, 167, 168, 169, 170, 171, 172, 173, 174, 175] : List Nat), zMv r := List.forall_mem_cons.mpr ⟨zMk_130, List.forall_mem_cons.mpr ⟨zMk_131, List.forall_mem_cons.mpr ⟨zMk_132, List.forall_mem_cons.mpr ⟨zMk_133, List.forall_mem_cons.mpr ⟨zMk_134, List.forall_mem_cons.mpr ⟨zMk_135, List.forall_mem_cons.mpr ⟨zMk_136, List.forall_mem_cons.mpr ⟨zMk_137, List.forall_mem_cons.mpr ⟨zMk_138, List.forall_mem_cons.mpr ⟨zMk_139, List.forall_mem_cons.mpr ⟨zMk_140, List.forall_mem_cons.mpr ⟨zMk_141, List.forall_mem_cons.mpr ⟨zMk_142, List.forall_mem_cons.mpr ⟨zMk_143, List.forall_mem_cons.mpr ⟨zMk_144, List.forall_mem_cons.mpr ⟨zMk_145, List.forall_mem_cons.mpr ⟨zMk_146, List.forall_mem_cons.mpr ⟨zMk_147, List.forall_mem_cons.mpr ⟨zMk_148, List.forall_mem_cons.mpr ⟨zMk_151, List.forall_mem_cons.mpr ⟨zMk_152, List.forall_mem_cons.mpr ⟨zMk_155, List.forall_mem_cons.mpr ⟨zMk_156, List.forall_mem_cons.mpr ⟨zMk_159, List.forall_mem_cons.mpr ⟨zMk_160, List.forall_mem_cons.mpr ⟨zMk_161, List.forall_mem_cons.mpr ⟨zMk_162, List.forall_mem_cons.mpr ⟨zMk_163, List.forall_mem_cons.mpr ⟨zMk_164, List.forall_mem_cons.mpr ⟨zMk_165, List.forall_mem_cons.mpr ⟨zMk_166, List.forall_mem_cons.mpr ⟨zMk_167, List.forall_mem_cons.mpr ⟨zMk_168, List.forall_mem_cons.mpr ⟨zMk_169, List.forall_mem_cons.mpr ⟨zMk_170, List.forall_mem_cons.mpr ⟨zMk_171, List.forall_mem_cons.mpr ⟨zMk_172, List.forall_mem_cons.mpr ⟨zMk_173, List.forall_mem_cons.mpr ⟨zMk_174, List.forall_mem_cons.mpr ⟨zMk_175, fun _ h => absurd h List.not_mem_nil⟩⟩⟩⟩⟩⟩⟩⟩⟩⟩⟩⟩⟩⟩⟩⟩⟩⟩⟩⟩⟩⟩⟩⟩⟩⟩⟩⟩⟩⟩⟩⟩⟩⟩⟩⟩⟩⟩⟩⟩
theorem zKv_4 : ∀ r ∈ ([176, 177, 178, 179, 180, 181, 182, 183, 184, 185, 186, 187, 188, 189, 190, 191, 192, 193, 194, 195, 196, 197, 198, 199, 200, 201, 202, 203, 204, 207, 208, 209, 210, 211, 212, 213, 214, 215, 216, 217] : List Nat), zMv r := List.forall_mem_cons.mpr ⟨zMk_176, List.forall_mem_cons.mpr ⟨zMk_177, List.forall_mem_cons.mpr ⟨zMk_178, List.forall_mem_cons.mpr ⟨zMk_179, List.forall_mem_cons.mpr ⟨zMk_180, List.forall_mem_cons.mpr ⟨zMk_181, List.forall_mem_cons.mpr ⟨zMk_182, List.forall_mem_cons.mpr ⟨zMk_183, List.forall_mem_cons.mpr ⟨zMk_184, List.forall_mem_cons.mpr ⟨zMk_185, List.forall_mem_cons.mpr ⟨zMk_186, List.forall_mem_cons.mpr ⟨zMk_187, List.forall_mem_cons.mpr ⟨zMk_188, List.forall_mem_cons.mpr ⟨zMk_189, List.forall_mem_cons.mpr ⟨zMk_190, List.forall_mem_cons.mpr ⟨zMk_191, List.forall_mem_cons.mpr ⟨zMk_192, List.forall_mem_cons.mpr ⟨zMk_193, List.forall_mem_cons.mpr ⟨zMk_194, List.forall_mem_cons.mpr ⟨zMk_195, List.forall_mem_cons.mpr ⟨zMk_196, List.forall_mem_cons.mpr ⟨zMk_197, List.forall_mem_cons.mpr ⟨zMk_198, List.forall_mem_cons.mpr ⟨zMk_199, List.forall_mem_cons.mpr ⟨zMk_200, List.forall_mem_cons.mpr ⟨zMk_201, List.forall_mem_cons.mpr ⟨zMk_202, List.forall_mem_cons.mpr ⟨zMk_203, List.forall_mem_cons.mpr ⟨zMk_204, List.forall_mem_cons.mpr ⟨zMk_207, List.forall_mem_cons.mpr ⟨zMk_208, List.forall_mem_cons.mpr ⟨zMk_209, List.forall_mem_cons.mpr ⟨zMk_210, List.forall_mem_cons.mpr ⟨zMk_211, List.forall_mem_cons.mpr ⟨zMk_212, List.forall_mem_cons.mpr ⟨zMk_213, List.forall_mem_cons.mpr ⟨zMk_214, List.forall_mem_cons.mpr ⟨zMk_215, List.forall_mem_cons.mpr ⟨zMk_216, List.forall_mem_cons.mpr ⟨zMk_217, fun _ h => absurd h List.not_mem_nil⟩⟩⟩⟩⟩⟩⟩⟩⟩⟩⟩⟩⟩⟩⟩⟩⟩⟩⟩⟩⟩⟩⟩⟩⟩⟩⟩⟩⟩⟩⟩⟩⟩⟩⟩⟩⟩⟩⟩⟩
theorem zKv_5 : ∀ r ∈ ([218, 219, 220, 221, 222, 223, 224, 225, 226, 227, 228, 229, 230, 231, 232, 233, 234, 235, 237, 238, 239, 240, 241, 242, 243, 244, 245, 246, 247, 248, 249, 250, 251, 252] : List Nat), zMv r := List.forall_mem_cons.mpr ⟨zMk_218, List.forall_mem_cons.mpr ⟨zMk_219, List.forall_mem_cons.mpr ⟨zMk_220, List.forall_mem_cons.mpr ⟨zMk_221, List.forall_mem_cons.mpr ⟨zMk_222, List.forall_mem_cons.mpr ⟨zMk_223, List.forall_mem_cons.mpr ⟨zMk_224, List.forall_mem_cons.mpr ⟨zMk_225, List.forall_mem_cons.mpr ⟨zMk_226, List.forall_mem_cons.mpr ⟨zMk_227, List.forall_mem_cons.mpr ⟨zMk_228, List.forall_mem_cons.mpr ⟨zMk_229, List.forall_mem_cons.mpr ⟨zMk_230, List.forall_mem_cons.mpr ⟨zMk_231, List.forall_mem_cons.mpr ⟨zMk_232, List.forall_mem_cons.mpr ⟨zMk_233, List.forall_mem_cons.mpr ⟨zMk_234, List.forall_mem_cons.mpr ⟨zMk_235, List.forall_mem_cons.mpr ⟨zMk_237, List.forall_mem_cons.mpr ⟨zMk_238, List.forall_mem_cons.mpr ⟨zMk_239, List.forall_mem_cons.mpr ⟨zMk_240, List.forall_mem_cons.mpr ⟨zMk_241, List.forall_mem_cons.mpr ⟨zMk_242, List.forall_mem_cons.mpr ⟨zMk_243, List.forall_mem_cons.mpr ⟨zMk_244, List.forall_mem_cons.mpr ⟨zMk_245, List.forall_mem_cons.mpr ⟨zMk_246, List.forall_mem_cons.mpr ⟨zMk_247, List.forall_mem_cons.mpr ⟨zMk_248, List.forall_mem_cons.mpr ⟨zMk_249, List.forall_mem_cons.mpr ⟨zMk_250, List.forall_mem_cons.mpr ⟨zMk_251, List.forall_mem_cons.mpr ⟨zMk_252, fun _ h => absurd h List.not_mem_nil⟩⟩⟩⟩⟩⟩⟩⟩⟩⟩⟩⟩⟩⟩⟩⟩⟩⟩⟩⟩⟩⟩⟩⟩⟩⟩⟩⟩⟩⟩⟩⟩⟩⟩
theorem zKv_ok : ∀ r ∈ zKv, zMv r := by
  intro r h
  have e : zKv = [1, 2, 3, 4, 5, 6, 7, 9, 10, 11, 12, 13, 14, 15, 16, 17, 18, 19, 20, 21, 22, 24, 25, 26, 27, 29, 30, 31, 32, 33, 34, 35, 36, 38, 39, 40, 41, 42, 43, 44] ++ ([45, 46, 47, 48, 49, 50, 52, 53, 54, 55, 56, 57, 58, 59, 60, 61, 62, 63, 64, 65, 66, 67, 68, 70, 71, 73, 74, 75, 76, 77, 78, 79, 80, 81, 83, 84, 85, 86, 87, 88] ++ ([89, 90, 91, 92, 93, 94, 95, 96, 97, 98, 99, 100, 101, 102, 103, 104, 105, 106, 107, 108, 109, 110, 111, 113, 114, 115, 116, 117, 118, 119, 120, 121, 122, 123, 124, 125, 126, 127, 128, 129] ++ ([130, 131, 132, 133, 134, 135, 136, 137, 138, 139, 140, 141, 142, 143, 144, 145, 146, 147, 148, 151, 152, 155, 156, 159, 160, 161, 162, 163, 164, 165, 166, 167, 168, 169, 170, 171, 172, 173, 174, 175] ++ ([176, 177, 178, 179, 180, 181, 182, 183, 184, 185, 186, 187, 188, 189, 190, 191, 192, 193, 194, 195, 196, 197, 198, 199, 200, 201, 202, 203, 204, 207, 208, 209, 210, 211, 212, 213, 214, 215, 216, 217] ++ ([218, 219, 220, 221, 222, 223, 224, 225, 226, 227, 228, 229, 230, 231, 232, 233, 234, 235, 237, 238, 239, 240, 241, 242, 243, 244, 245, 246, 247, 248, 249, 250, 251, 252]))))) := rfl
  rw [e] at h
  simp only [List.mem_append] at h
  rcases h with h | h | h | h | h | h
  · exact zKv_0 r h
  · exact zKv_1 r h
  · exact zKv_2 r h
  · exact zKv_3 r h
  · exact zKv_4 r h
  · exact zKv_5 r h
def zKs : List Nat := [149, 150, 153, 157, 158, 205, 206, 236, 253, 254]
theorem zKs_0 : ∀ r ∈ ([149, 150, 153, 157, 158, 205, 206, 236, 253, 254] : List Nat), zMs r := List.forall_mem_cons.mpr ⟨zMk_149, List.forall_mem_cons.mpr ⟨zMk_150, List.forall_mem_cons.mpr ⟨zMk_153, List.forall_mem_cons.mpr ⟨zMk_157, List.forall_mem_cons.mpr ⟨zMk_158, List.forall_mem_cons.mpr ⟨zMk_205, List.forall_mem_cons.mpr ⟨zMk_206, List.forall_mem_cons.mpr ⟨zMk_236, List.forall_mem_cons.mpr ⟨zMk_253, List.forall_mem_cons.mpr ⟨zMk_254, fun _ h => absurd h List.not_mem_nil⟩⟩⟩⟩⟩⟩⟩⟩⟩⟩
theorem zKs_ok : ∀ r ∈ zKs, zMs r := zKs_0
def zKi : List Nat := [0, 8, 23, 28, 37, 51, 69, 72, 82, 112, 154]
theorem zKi_0 : ∀ r ∈ ([0, 8, 23, 28, 37, 51, 69, 72, 82, 112, 154] : List Nat), zMi r := List.forall_mem_cons.mpr ⟨zMk_0, List.forall_mem_cons.mpr ⟨zMk_8, List.forall_mem_cons.mpr ⟨zMk_23, List.forall_mem_cons.mpr ⟨zMk_28, List.forall_mem_cons.mpr ⟨zMk_37, List.forall_mem_cons.mpr ⟨zMk_51, List.forall_mem_cons.mpr ⟨zMk_69, List.forall_mem_cons.mpr ⟨zMk_72, List.forall_mem_cons.mpr ⟨zMk_82, List.forall_mem_cons.mpr ⟨zMk_112, List.forall_mem_cons.mpr ⟨zMk_154, fun _ h => absurd h List.not_mem_nil⟩⟩⟩⟩⟩⟩⟩⟩⟩⟩⟩
theorem zKi_ok : ∀ r ∈ zKi, zMi r := zKi_0
theorem zAI : Cond.arrayClass .int ∈ zBG ∧ Cond.arrayClass .boolean ∈ zBG ∧ Cond.arrayClass .byte ∈ zBG := ⟨zT 123 (by decide +kernel) rfl, zT 1295 (by decide +kernel) rfl, zT 49 (by decide +kernel) rfl⟩
theorem zAC : Cond.native arraycopyName ∈ zBG ∧ Cond.static arraycopyName ∈ zBG ∧ Cond.initialized "java/lang/System" ∈ zBG := ⟨zT 586 (by decide +kernel) rfl, zT 585 (by decide +kernel) rfl, zT 18 (by decide +kernel) rfl⟩
theorem zMM : (Cond.static Lib.Math.max.name ∈ zBG ∧ Cond.code Lib.Math.max.name Lib.Math.max.code 2 (some .int) ∈ zBG) ∧ (Cond.static Lib.Math.min.name ∈ zBG ∧ Cond.code Lib.Math.min.name Lib.Math.min.code 2 (some .int) ∈ zBG) ∧ Cond.initialized "java/lang/Math" ∈ zBG := ⟨⟨zT 412 (by decide +kernel) rfl, zT 413 (by decide +kernel) rfl⟩, ⟨zT 409 (by decide +kernel) rfl, zT 410 (by decide +kernel) rfl⟩, zT 13 (by decide +kernel) rfl⟩
theorem zOB : Cond.instanceMethod objectInit ∈ zBG ∧ Cond.code objectInit ⟨#[0xb1]⟩ 1 none ∈ zBG := ⟨zT 31 (by decide +kernel) rfl, zT 32 (by decide +kernel) rfl⟩
end
section
/-! WHEN A METHOD'S BLOCKS ARE ITS CODE: a check that the kernel runs -/
def zfr (j : Nat) : Nat := (zM j).2.2.2.2.2.1
def zlo (j : Nat) : Nat := (zM j).2.2.2.2.2.2.1
def zmc (j : Nat) : Nat := (zM j).2.2.2.2.2.2.2.1
def zms (j : Nat) : Nat := (zM j).2.2.2.2.2.2.2.2.1
def zO (j : Nat) : Nat := (zM j).2.2.2.2.2.2.2.2.2
def zna (j : Nat) : Nat := (zM j).2.2.2.2.1
def zDec (j pc : Nat) (i : Instr) (n : Nat) : Bool := match decode (zM j).2.1 pc with
  | .ok (a, b) => decide (a = i) && Nat.beq b n
  | _ => false
def zDecA (j pc : Nat) (i : Instr) : Bool := match decode (zM j).2.1 pc with
  | .ok (a, _) => decide (a = i)
  | _ => false
def zNx (pc n : Nat) (r : List mzO) : Bool := Nat.beq (mzPc r) (pc + n)
def zTo (pc : Nat) (off : Int) (bl : mzB) (x : Nat) : Bool := decide ((pc : Int) + off = ((mzPc (mzBlk bl x) : Nat) : Int))
def zSw (pc : Nat) (bl : mzB) : List Int → List Nat → Bool
  | [], [] => true
  | o :: os, x :: xs => zTo pc o bl x && zSw pc bl os xs
  | _, _ => false
def zPt (j x y t : Nat) (nest : Bool) : Bool := match vwCl[x]? with
  | some (_, T, _) => (match parseFieldDescriptor (T y).2.2.1, t with
      | some .int, 0 => true
      | some .boolean, 1 => true
      | some (.object _), 2 => true
      | some (.array _), 2 => true
      | _, _ => false) && (decide ((T y).2.2.2 = false) || (!nest && (decide ((T y).1 = zcn (zO j)) && decide ((zM j).1.name = "<init>"))))
  | none => false
def zCl (j x na mc ms : Nat) : Bool := Nat.blt x 255 && (Nat.beq na (zna x) && (Nat.beq mc (zmc x) && (Nat.beq ms (zms x) && (Nat.ble (zfr x + 1) (zfr j) && Nat.ble (8 + ((zM x).2.2.1 + 11) + zlo x) (zlo j)))))
def zRoom (j a b : Nat) : Bool := Nat.ble a (zfr j) && Nat.ble b (zlo j)
/-- how long the plain ones are -/
def zLn1 (i : Instr) : Nat := match i with
  | .iconst _ | .lconst _ | .iload_n _ | .lload_n _ | .aload_n _ | .istore_n _ | .lstore_n _ | .astore_n _ | .iadd | .isub | .imul | .irem | .iand | .ior | .ixor | .ishl | .ishr | .iushr | .ladd | .lsub | .land | .lor | .lshl | .lushr | .lcmp | .i2l | .i2b | .l2i | .dup | .dup2 | .pop | .iaload | .baload | .iastore | .bastore | .arraylength => 1
  | .bipush _ | .iload _ | .lload _ | .aload _ | .istore _ | .lstore _ | .astore _ => 2
  | .sipush _ | .iinc _ _ => 3
  | _ => 0
def zAt (a : ArrayType) (x : Nat) : Bool := match a, x with
  | .int, 0 => true
  | .boolean, 1 => true
  | .byte, 2 => true
  | _, _ => false
def zRi (t : Option FieldType) (x : Nat) : Bool := match t, x with
  | some .int, 0 => true
  | some .boolean, 1 => true
  | _, _ => false
def zRl (t : Option FieldType) : Bool := match t with
  | some .long => true
  | _ => false
def zRa (t : Option FieldType) : Bool := match t with
  | some (.object _) => true
  | _ => false
def zRv (t : Option FieldType) : Bool := match t with
  | none => true
  | _ => false
def zf4 (a : Nat) : Fin 4 := Fin.ofNat 4 a
def zOkS (j : Nat) (bl : mzB) (pc : Nat) (i : Instr) (x y : Nat) (ts : List Nat) (r : List mzO) : Bool := match i with
  | .nop => Nat.beq (mzPc (mzBlk bl x)) pc
  | .ldc k => (match ts with
    | [_] => zDec j pc i 2 && (zNx pc 2 r && decide ((zO j, k, x) ∈ zLi))
    | [_, _] => zDec j pc i 2 && (zDec j (pc + 2) (.invokevirtual y) 3 && (zNx pc 5 r && (decide ((zO j, k, x, y, 0) ∈ zLt) && zRoom j 2 40)))
    | [_, a, _] => zDec j pc i 2 && (zDec j (pc + 2) (.iload_n (zf4 a)) 1 && (zDec j (pc + 3) (.invokevirtual y) 3 && (zNx pc 6 r && (decide ((zO j, k, x, y, 1) ∈ zLt) && zRoom j 4 85))))
    | [_, a, _, b] => zDec j pc i 2 && (zDec j (pc + 2) (.iload_n (zf4 a)) 1 && (zDec j (pc + 3) (.iload_n (zf4 b)) 1 && (zDec j (pc + 4) .iadd 1 && (zDec j (pc + 5) (.invokevirtual y) 3 && (zNx pc 8 r && (decide ((zO j, k, x, y, 1) ∈ zLt) && zRoom j 4 85))))))
    | _ => true)
  | .ldc2_w k => (match ts with | [_] => zDec j pc i 3 && (zNx pc 3 r && decide ((zO j, k, x) ∈ zLl)) | _ => true)
  | .goto o => zDec j pc i 3 && zTo pc o bl x
  | .ifCond _ o => zDec j pc i 3 && (zNx pc 3 r && zTo pc o bl x)
  | .if_icmp _ o => zDec j pc i 3 && (zNx pc 3 r && zTo pc o bl x)
  | .tableswitch d _ _ os => zDecA j pc i && (zTo pc d bl x && zSw pc bl os.toList ts)
  | .getfield k => (match ts with | [_] => zDec j pc i 3 && (zNx pc 3 r && (decide ((zO j, k, x, y) ∈ zLF) || decide ((zO j, k, x, y) ∈ zLFn))) | _ => true)
  | .putfield k => (match ts with | [t] => zDec j pc i 3 && (zNx pc 3 r && ((decide ((zO j, k, x, y) ∈ zLF) && zPt j x y t false) || (decide ((zO j, k, x, y) ∈ zLFn) && zPt j x y t true))) | _ => true)
  | .newarray a => (match ts with | [_] => zDec j pc i 2 && (zNx pc 2 r && zAt a x) | _ => true)
  | .new k => (match ts with | [_] => zDec j pc i 3 && (zNx pc 3 r && (decide ((zO j, k, x) ∈ zLw) && Nat.blt x 11)) | _ => true)
  | .invokevirtual k => (match ts with | [na, mc, ms] => zDec j pc i 3 && (zNx pc 3 r && ((decide ((zO j, k, x, 0) ∈ zLM) || decide ((zO j, k, x, 0) ∈ zLMn)) && (zCl j x na mc ms && (decide (x ∈ zKv) && (Nat.beq y (zO x) && Nat.blt y 11))))) | _ => true)
  | .invokestatic k => (match ts with
    | [na, mc, ms] => zDec j pc i 3 && (zNx pc 3 r && ((decide ((zO j, k, x, 1) ∈ zLM) || decide ((zO j, k, x, 1) ∈ zLMn)) && (zCl j x na mc ms && decide (x ∈ zKs))))
    | [0] => zDec j pc i 3 && (zNx pc 3 r && (decide ((zO j, k) ∈ zLa) && zRoom j 1 26))
    | [1] => zDec j pc i 3 && (zNx pc 3 r && (decide ((zO j, k) ∈ zLx) && zRoom j 1 21))
    | [_] => zDec j pc i 3 && (zNx pc 3 r && (decide ((zO j, k) ∈ zLn) && zRoom j 1 21))
    | _ => true)
  | .invokespecial k => (match ts with
    | [na, mc, ms] => zDec j pc i 3 && (zNx pc 3 r && ((decide ((zO j, k, x, 2) ∈ zLM) || decide ((zO j, k, x, 2) ∈ zLMn)) && (zCl j x na mc ms && decide (x ∈ zKi))))
    | [_] => zDec j pc i 3 && (zNx pc 3 r && (decide ((zO j, k) ∈ zLo) && zRoom j 1 20))
    | _ => true)
  | .ireturn => zDec j pc i 1 && zRi (zM j).2.2.2.1 x
  | .lreturn => zDec j pc i 1 && zRl (zM j).2.2.2.1
  | .areturn => zDec j pc i 1 && zRa (zM j).2.2.2.1
  | .return_ => zDec j pc i 1 && zRv (zM j).2.2.2.1
  | _ => true
def zOk1 (j : Nat) (bl : mzB) (pc : Nat) (i : Instr) (x y : Nat) (ts : List Nat) (r : List mzO) : Bool := match zLn1 i with
  | 0 => zOkS j bl pc i x y ts r
  | n + 1 => zDec j pc i (n + 1) && zNx pc (n + 1) r
def zOkL (j : Nat) (bl : mzB) : List mzO → Bool
  | [] => true
  | (pc, i, x, y, ts) :: r => zOk1 j bl pc i x y ts r && zOkL j bl r
def zOkM (j : Nat) : Bool := Nat.beq (mzPc (mzBlk (zB j) 0)) 0 && (zB j).all (zOkL j (zB j))
theorem zDec_at {j pc : Nat} {i : Instr} {n : Nat} (h : zDec j pc i n = true) : decode (zM j).2.1 pc = .ok (i, n) := by
  unfold zDec at h
  split at h
  · rename_i a b e
    simp only [Bool.and_eq_true, decide_eq_true_eq] at h
    rw [e, h.1, Nat.eq_of_beq_eq_true h.2]
  · cases h
theorem zDecA_at {j pc : Nat} {i : Instr} (h : zDecA j pc i = true) : ∃ n, decode (zM j).2.1 pc = .ok (i, n) := by
  unfold zDecA at h
  split at h
  · rename_i a b e
    simp only [decide_eq_true_eq] at h
    exact ⟨b, by rw [e, h]⟩
  · cases h
theorem zNx_at {pc n : Nat} {r : List mzO} (h : zNx pc n r = true) : mzPc r = pc + n := Nat.eq_of_beq_eq_true h
theorem zTo_at {pc : Nat} {o : Int} {bl : mzB} {x : Nat} (h : zTo pc o bl x = true) : (pc : Int) + o = ((mzPc (mzBlk bl x) : Nat) : Int) := of_decide_eq_true h
theorem zSw_at {pc : Nat} {bl : mzB} : ∀ {os : List Int} {xs : List Nat} {k b : Nat}, zSw pc bl os xs = true → xs[k]? = some b → ∃ o, os[k]? = some o ∧ (pc : Int) + o = ((mzPc (mzBlk bl b) : Nat) : Int)
  | [], [], k, b, _, h => by simp at h
  | o :: os, x :: xs, 0, b, h, hb => by
    simp only [zSw, Bool.and_eq_true] at h
    simp only [List.getElem?_cons_zero, Option.some.injEq] at hb
    subst hb
    exact ⟨o, rfl, zTo_at h.1⟩
  | o :: os, x :: xs, k + 1, b, h, hb => by
    simp only [zSw, Bool.and_eq_true] at h
    simp only [List.getElem?_cons_succ] at hb ⊢
    exact zSw_at h.2 hb
  | [], _ :: _, k, b, h, _ => by simp [zSw] at h
  | _ :: _, [], k, b, h, _ => by simp [zSw] at h
theorem zOkL_blk {j : Nat} (h : zOkM j = true) (x : Nat) : zOkL j (zB j) (mzBlk (zB j) x) = true := by
  unfold zOkM at h
  simp only [Bool.and_eq_true, List.all_eq_true] at h
  unfold mzBlk
  rw [mzNth_eq]
  cases e : (zB j)[x]? with
  | none => rfl
  | some b => exact h.2 b (List.mem_of_getElem? e)
end
section
theorem zok_0 : (List.range' 0 16).all zOkM = true := by decide +kernel
theorem zok_16 : (List.range' 16 16).all zOkM = true := by decide +kernel
theorem zok_32 : (List.range' 32 16).all zOkM = true := by decide +kernel
theorem zok_48 : (List.range' 48 16).all zOkM = true := by decide +kernel
theorem zok_64 : (List.range' 64 16).all zOkM = true := by decide +kernel
theorem zok_80 : (List.range' 80 16).all zOkM = true := by decide +kernel
theorem zok_96 : (List.range' 96 16).all zOkM = true := by decide +kernel
theorem zok_112 : (List.range' 112 16).all zOkM = true := by decide +kernel
theorem zok_128 : (List.range' 128 16).all zOkM = true := by decide +kernel
theorem zok_144 : (List.range' 144 16).all zOkM = true := by decide +kernel
theorem zok_160 : (List.range' 160 16).all zOkM = true := by decide +kernel
theorem zok_176 : (List.range' 176 16).all zOkM = true := by decide +kernel
theorem zok_192 : (List.range' 192 16).all zOkM = true := by decide +kernel
theorem zok_208 : (List.range' 208 16).all zOkM = true := by decide +kernel
theorem zok_224 : (List.range' 224 16).all zOkM = true := by decide +kernel
theorem zok_240 : (List.range' 240 15).all zOkM = true := by decide +kernel
theorem zok : ∀ j, j < 255 → zOkM j = true := by
  intro j hj
  if h : j < 16 then exact List.all_eq_true.mp zok_0 j (List.mem_range'_1.mpr ⟨by omega, by omega⟩) else
  if h : j < 32 then exact List.all_eq_true.mp zok_16 j (List.mem_range'_1.mpr ⟨by omega, by omega⟩) else
  if h : j < 48 then exact List.all_eq_true.mp zok_32 j (List.mem_range'_1.mpr ⟨by omega, by omega⟩) else
  if h : j < 64 then exact List.all_eq_true.mp zok_48 j (List.mem_range'_1.mpr ⟨by omega, by omega⟩) else
  if h : j < 80 then exact List.all_eq_true.mp zok_64 j (List.mem_range'_1.mpr ⟨by omega, by omega⟩) else
  if h : j < 96 then exact List.all_eq_true.mp zok_80 j (List.mem_range'_1.mpr ⟨by omega, by omega⟩) else
  if h : j < 112 then exact List.all_eq_true.mp zok_96 j (List.mem_range'_1.mpr ⟨by omega, by omega⟩) else
  if h : j < 128 then exact List.all_eq_true.mp zok_112 j (List.mem_range'_1.mpr ⟨by omega, by omega⟩) else
  if h : j < 144 then exact List.all_eq_true.mp zok_128 j (List.mem_range'_1.mpr ⟨by omega, by omega⟩) else
  if h : j < 160 then exact List.all_eq_true.mp zok_144 j (List.mem_range'_1.mpr ⟨by omega, by omega⟩) else
  if h : j < 176 then exact List.all_eq_true.mp zok_160 j (List.mem_range'_1.mpr ⟨by omega, by omega⟩) else
  if h : j < 192 then exact List.all_eq_true.mp zok_176 j (List.mem_range'_1.mpr ⟨by omega, by omega⟩) else
  if h : j < 208 then exact List.all_eq_true.mp zok_192 j (List.mem_range'_1.mpr ⟨by omega, by omega⟩) else
  if h : j < 224 then exact List.all_eq_true.mp zok_208 j (List.mem_range'_1.mpr ⟨by omega, by omega⟩) else
  if h : j < 240 then exact List.all_eq_true.mp zok_224 j (List.mem_range'_1.mpr ⟨by omega, by omega⟩) else
  if h : j < 255 then exact List.all_eq_true.mp zok_240 j (List.mem_range'_1.mpr ⟨by omega, by omega⟩) else
  omega
end
section
/-- a place of a list, by the recursor itself: the kernel walks it in few steps -/
noncomputable def mzNq {α : Type} (l : List α) : Nat → Option α := List.rec (motive := fun _ => Nat → Option α) (fun _ => none) (fun a _ ih n => Nat.rec (motive := fun _ => Option α) (some a) (fun m _ => ih m) n) l
theorem mzNq_eq {α : Type} : ∀ (l : List α) (n : Nat), mzNq l n = l[n]?
  | [], n => by rw [List.getElem?_nil]; rfl
  | a :: l, 0 => rfl
  | a :: l, n + 1 => by rw [List.getElem?_cons_succ, ← mzNq_eq l n]; rfl
def mzSet {α : Type} : List α → Nat → α → List α
  | [], _, _ => []
  | _ :: l, 0, b => b :: l
  | a :: l, n + 1, b => a :: mzSet l n b
theorem mzSet_eq {α : Type} : ∀ (l : List α) (n : Nat) (b : α), mzSet l n b = l.set n b
  | [], n, b => by simp [mzSet]
  | a :: l, 0, b => by simp [mzSet]
  | a :: l, n + 1, b => by simp [mzSet, mzSet_eq l n b]
/-- a place set, the list laid out anew before the way on -/
noncomputable def mzSetK {α β : Type} (l : List α) (n : Nat) (b : α) (k : List α → β) : β := List.rec (motive := fun _ => Nat → (List α → β) → β) (fun _ k => k []) (fun a l ih n k => Nat.rec (motive := fun _ => β) (k (b :: l)) (fun m _ => ih m (fun x => k (a :: x))) n) l n k
theorem mzSetK_eq {α β : Type} : ∀ (l : List α) (n : Nat) (b : α) (k : List α → β), mzSetK l n b k = k (l.set n b)
  | [], n, b, k => rfl
  | a :: l, 0, b, k => rfl
  | a :: l, n + 1, b, k => mzSetK_eq l n b (fun x => k (a :: x))
noncomputable def mzGet (i : Nat) (l : mzL) : Option Value := List.rec (motive := fun _ => Option Value) none (fun q _ ih => Bool.rec (motive := fun _ => Option Value) ih (some q.2) (Nat.beq q.1 i)) l
theorem mzGet_cons (i k : Nat) (v : Value) (r : mzL) : mzGet i ((k, v) :: r) = bif Nat.beq k i then some v else mzGet i r := by
  show Bool.rec (motive := fun _ => Option Value) (mzGet i r) (some v) (Nat.beq k i) = _
  cases Nat.beq k i <;> rfl
theorem mzGet_mem : ∀ {i : Nat} {l : mzL} {v : Value}, mzGet i l = some v → (i, v) ∈ l
  | i, [], v, h => by cases h
  | i, (k, w) :: r, v, h => by
    rw [mzGet_cons] at h
    cases e : Nat.beq k i with
    | true =>
      rw [e] at h
      have hk : k = i := Nat.eq_of_beq_eq_true e
      simp only [cond_true, Option.some.injEq] at h
      subst hk; subst h
      exact List.mem_cons_self
    | false =>
      rw [e] at h
      simp only [cond_false] at h
      exact List.mem_cons_of_mem _ (mzGet_mem h)
noncomputable def mzFl1 (i : Nat) (l : mzL) : mzL := List.rec (motive := fun _ => mzL) [] (fun q _ ih => Bool.rec (motive := fun _ => mzL) (q :: ih) ih (Nat.beq q.1 i || (Nat.beq (q.1 + 1) i && Nat.beq q.2.category 2))) l
theorem mzFl1_cons (i k : Nat) (v : Value) (r : mzL) : mzFl1 i ((k, v) :: r) = bif Nat.beq k i || (Nat.beq (k + 1) i && Nat.beq v.category 2) then mzFl1 i r else (k, v) :: mzFl1 i r := by
  show Bool.rec (motive := fun _ => mzL) ((k, v) :: mzFl1 i r) (mzFl1 i r) (Nat.beq k i || (Nat.beq (k + 1) i && Nat.beq v.category 2)) = _
  cases (Nat.beq k i || (Nat.beq (k + 1) i && Nat.beq v.category 2)) <;> rfl
def mzFl2 (i : Nat) : mzL → mzL
  | [] => []
  | (k, v) :: r => bif Nat.beq k i || (Nat.beq k (i + 1) || (Nat.beq (k + 1) i && Nat.beq v.category 2)) then mzFl2 i r else (k, v) :: mzFl2 i r
theorem z_beq (a b : Nat) : Nat.beq a b = (a == b) := by rw [Bool.eq_iff_iff, beq_iff_eq]; exact ⟨Nat.eq_of_beq_eq_true, fun h => h ▸ Nat.beq_refl a⟩
theorem mzFl1_eq (i : Nat) : ∀ l : mzL, mzFl1 i l = l.filter (fun q => !(q.1 == i) && !(q.1 + 1 == i && q.2.category == 2))
  | [] => rfl
  | (k, v) :: r => by
    rw [mzFl1_cons, List.filter_cons, mzFl1_eq i r, z_beq, z_beq, z_beq]
    cases (k == i) <;> cases (k + 1 == i) <;> cases (v.category == 2) <;> rfl
theorem mzFl2_eq (i : Nat) : ∀ l : mzL, mzFl2 i l = l.filter (fun q => !(q.1 == i) && (!(q.1 == i + 1) && !(q.1 + 1 == i && q.2.category == 2)))
  | [] => rfl
  | (k, v) :: r => by
    unfold mzFl2
    rw [List.filter_cons, mzFl2_eq i r, z_beq, z_beq, z_beq, z_beq]
    cases (k == i) <;> cases (k == i + 1) <;> cases (k + 1 == i) <;> cases (v.category == 2) <;> rfl
noncomputable def mzSt1 (i : Nat) (v : Value) (lv : mzL) : mzL := (i, v) :: mzFl1 i lv
def mzSt2 (i : Nat) (v : Value) (lv : mzL) : mzL := (i, v) :: mzFl2 i lv
/-- an int's place on the line from 0 on: comparisons by numbers -/
def mzN (a : Int32) : Nat := a.toUInt32.toBitVec.toNat
def mzZ (a : Int32) : Nat := Nat.mod (Nat.add (mzN a) 2147483648) 4294967296
theorem mzZ_eq (a : Int32) : (mzZ a : Int) = a.toInt + 2147483648 := by
  have h : mzN a = a.toBitVec.toNat := rfl
  have h2 : a.toInt = a.toBitVec.toInt := rfl
  have h3 := a.toBitVec.isLt
  have e : mzZ a = (mzN a + 2147483648) % 4294967296 := rfl
  rw [e, h, h2, BitVec.toInt_eq_toNat_cond]
  split <;> omega
def mzLt (a b : Int32) : Bool := Nat.blt (mzZ a) (mzZ b)
def mzEq (a b : Int32) : Bool := Nat.beq (mzZ a) (mzZ b)
theorem mzLt_eq (a b : Int32) : mzLt a b = decide (a < b) := by
  have h1 := mzZ_eq a
  have h2 := mzZ_eq b
  rw [Bool.eq_iff_iff]
  unfold mzLt
  rw [Nat.blt_eq, decide_eq_true_eq, Int32.lt_iff_toInt_lt]
  omega
theorem mzEq_eq (a b : Int32) : mzEq a b = decide (a = b) := by
  have h1 := mzZ_eq a
  have h2 := mzZ_eq b
  rw [Bool.eq_iff_iff]
  unfold mzEq
  rw [decide_eq_true_eq, ← Int32.toInt_inj]
  exact ⟨fun h => by have := Nat.eq_of_beq_eq_true h; omega, fun h => by rw [show mzZ a = mzZ b by omega]; exact Nat.beq_refl _⟩
def mzWd (st : List Value) : Nat := (st.map fun v => v.category).sum
def mzNo : mzK := fun _ _ _ _ _ => none
def mzPush (v : Value) (k : mzK) : mzK := fun lv st H c s => k lv (v :: st) H c s
noncomputable def mzIld (i : Nat) (k : mzK) : mzK := fun lv st H c s => match mzGet i lv with
  | some (.int v) => k lv (.int v :: st) H c s
  | _ => none
noncomputable def mzLld (i : Nat) (k : mzK) : mzK := fun lv st H c s => match mzGet i lv with
  | some (.long v) => k lv (.long v :: st) H c s
  | _ => none
noncomputable def mzAld (i : Nat) (k : mzK) : mzK := fun lv st H c s => match mzGet i lv with
  | some (.ref v) => k lv (.ref v :: st) H c s
  | _ => none
noncomputable def mzIst (n i : Nat) (k : mzK) : mzK := fun lv st H c s => match st with
  | .int v :: r => bif Nat.blt i n then k (mzSt1 i (.int v) lv) r H c s else none
  | _ => none
noncomputable def mzAst (n i : Nat) (k : mzK) : mzK := fun lv st H c s => match st with
  | .ref v :: r => bif Nat.blt i n then k (mzSt1 i (.ref v) lv) r H c s else none
  | _ => none
noncomputable def mzLst (n i : Nat) (k : mzK) : mzK := fun lv st H c s => match st with
  | .long v :: r => bif Nat.blt (i + 1) n then k (mzSt2 i (.long v) lv) r H c s else none
  | _ => none
noncomputable def mzInc (n i : Nat) (d : Int) (k : mzK) : mzK := fun lv st H c s => match mzGet i lv with
  | some (.int v) => bif Nat.blt i n then k (mzSt1 i (.int (v + Int32.ofInt d)) lv) st H c s else none
  | _ => none
def mzI2 (g : Int32 → Int32 → Int32) (k : mzK) : mzK := fun lv st H c s => match st with
  | .int b :: .int a :: r => k lv (.int (g a b) :: r) H c s
  | _ => none
def mzRem (k : mzK) : mzK := fun lv st H c s => match st with
  | .int b :: .int a :: r => bif decide (b = 0) then none else k lv (.int (a - a / b * b) :: r) H c s
  | _ => none
def mzL2 (g : Int64 → Int64 → Int64) (k : mzK) : mzK := fun lv st H c s => match st with
  | .long b :: .long a :: r => k lv (.long (g a b) :: r) H c s
  | _ => none
def mzLsh (g : Int64 → Int32 → Int64) (k : mzK) : mzK := fun lv st H c s => match st with
  | .int b :: .long a :: r => k lv (.long (g a b) :: r) H c s
  | _ => none
def mzLcmp (k : mzK) : mzK := fun lv st H c s => match st with
  | .long b :: .long a :: r => k lv (.int (lg_cmp a b) :: r) H c s
  | _ => none
def mzI1 (g : Int32 → Value) (k : mzK) : mzK := fun lv st H c s => match st with
  | .int a :: r => k lv (g a :: r) H c s
  | _ => none
def mzL1 (g : Int64 → Value) (k : mzK) : mzK := fun lv st H c s => match st with
  | .long a :: r => k lv (g a :: r) H c s
  | _ => none
def mzDup (k : mzK) : mzK := fun lv st H c s => match st with
  | a :: r => bif Nat.beq a.category 1 then k lv (a :: a :: r) H c s else none
  | _ => none
def mzDup2 (k : mzK) : mzK := fun lv st H c s => match st with
  | a :: b :: r => bif Nat.beq a.category 1 && Nat.beq b.category 1 then k lv (a :: b :: a :: b :: r) H c s else none
  | _ => none
def mzPop (k : mzK) : mzK := fun lv st H c s => match st with
  | a :: r => bif Nat.beq a.category 1 then k lv r H c s else none
  | _ => none
def mzCnd (q : ClassFile.Cond) (a b : Int32) : Bool := match q with
  | .eq => mzEq a b
  | .ne => !mzEq a b
  | .lt => mzLt a b
  | .ge => !mzLt a b
  | .gt => mzLt b a
  | .le => !mzLt b a
theorem mzCnd_eq (q : ClassFile.Cond) (a b : Int32) : mzCnd q a b = (match q with
  | .eq => decide (a = b)
  | .ne => !decide (a = b)
  | .lt => decide (a < b)
  | .ge => decide (b ≤ a)
  | .gt => decide (b < a)
  | .le => decide (a ≤ b)) := by
  cases q
  · exact mzEq_eq a b
  · show (!mzEq a b) = _; rw [mzEq_eq]
  · exact mzLt_eq a b
  · show (!mzLt a b) = _; rw [mzLt_eq, ← decide_not]; exact decide_eq_decide.mpr Int32.not_lt
  · exact mzLt_eq b a
  · show (!mzLt b a) = _; rw [mzLt_eq, ← decide_not]; exact decide_eq_decide.mpr Int32.not_lt
def mzIf (q : ClassFile.Cond) (kt kf : mzK) : mzK := fun lv st H c s => match st with
  | .int a :: r => bif mzCnd q a 0 then kt lv r H c s else kf lv r H c s
  | _ => none
def mzIf2 (q : ClassFile.Cond) (kt kf : mzK) : mzK := fun lv st H c s => match st with
  | .int b :: .int a :: r => bif mzCnd q a b then kt lv r H c s else kf lv r H c s
  | _ => none
noncomputable def mzSw (lo hi : Int) (ts : List Nat) (kd : mzK) (kt : Nat → mzK) : mzK := fun lv st H c s => match st with
  | .int a :: r => bif decide (a.toInt < lo) || decide (hi < a.toInt) then kd lv r H c s else match mzNq ts (a.toInt - lo).toNat with
    | some b => kt b lv r H c s
    | none => none
  | _ => none
noncomputable def mzGf (ci f : Nat) (k : mzK) : mzK := fun lv st H c s => match st with
  | .ref a :: r => (match mzNq H a with
    | some (.inr (d, fs)) => bif Nat.beq d ci then (match mzNq fs f with
      | some v => k lv (v :: r) H c s
      | none => none) else none
    | _ => none)
  | _ => none
/-- may the value stand in a field: 0 an int, 1 a boolean, else a reference -/
def mzFit (t : Nat) (v : Value) : Bool := match t, v with
  | 0, .int _ => true
  | 1, .int b => decide (b = 0) || decide (b = 1)
  | 2, .ref _ => true
  | _, _ => false
noncomputable def mzPf (ci f t : Nat) (k : mzK) : mzK := fun lv st H c s => match st with
  | v :: .ref a :: r => (match mzNq H a with
    | some (.inr (d, fs)) => bif Nat.beq d ci && (Nat.blt f fs.length && mzFit t v) then mzSetK fs f v (fun gs => mzSetK H a (.inr (d, gs)) (fun G => k lv r G c s)) else none
    | _ => none)
  | _ => none
noncomputable def mzIx (l : List Int32) (i : Int32) : Option Int32 := bif Nat.blt (mzN i) 2147483648 then mzNq l (mzN i) else none
theorem mzN_eq {i : Int32} (h : Nat.blt (mzN i) 2147483648 = true) : ¬ i < 0 ∧ mzN i = i.toNatClampNeg := by
  have h1 := Nat.blt_eq.mp h
  have h2 := mzZ_eq i
  have e : mzZ i = (mzN i + 2147483648) % 4294967296 := rfl
  have e2 : i.toNatClampNeg = i.toInt.toNat := rfl
  rw [Int32.lt_iff_toInt_lt, Int32.toInt_zero, e2]
  omega
theorem mzN_ge {i : Int32} (h : 0 ≤ i.toInt) : Nat.blt (mzN i) 2147483648 = true ∧ mzN i = i.toNatClampNeg := by
  have h2 := mzZ_eq i
  have h3 : mzN i < 4294967296 := i.toUInt32.toBitVec.isLt
  have e : mzZ i = (mzN i + 2147483648) % 4294967296 := rfl
  have e2 : i.toNatClampNeg = i.toInt.toNat := rfl
  have h4 := Int32.toInt_lt i
  rw [Nat.blt_eq, e2]
  omega
noncomputable def mzAl (b : Bool) (k : mzK) : mzK := fun lv st H c s => match st with
  | .int i :: .ref a :: r => (match mzNq H a with
    | some (.inl (d, l)) => bif Bool.xor b (Nat.beq d 0) then (match mzIx l i with
      | some v => k lv (.int v :: r) H c s
      | none => none) else none
    | _ => none)
  | _ => none
def mzTy (d : Nat) : FieldType := match d with
  | 0 => .int
  | 1 => .boolean
  | _ => .byte
noncomputable def mzAs (b : Bool) (k : mzK) : mzK := fun lv st H c s => match st with
  | .int x :: .int i :: .ref a :: r => (match mzNq H a with
    | some (.inl (d, l)) => bif Bool.xor b (Nat.beq d 0) then (match mzIx l i with
      | some _ => mzSetK l (mzN i) (vp_nar (mzTy d) x) (fun m => mzSetK H a (.inl (d, m)) (fun G => k lv r G c s))
      | none => none) else none
    | _ => none)
  | _ => none
noncomputable def mzLen (k : mzK) : mzK := fun lv st H c s => match st with
  | .ref a :: r => (match mzNq H a with
    | some (.inl (_, l)) => k lv (.int (Int32.ofNat l.length) :: r) H c s
    | _ => none)
  | _ => none
def mzNewa (d : Nat) (k : mzK) : mzK := fun lv st H c s => match st with
  | .int n :: r => bif decide (n < 0) then none else bif Nat.ble 1 c && (Nat.ble n.toNatClampNeg s && Nat.ble n.toNatClampNeg 65536) then k lv (.ref H.length :: r) (H ++ [.inl (d, List.replicate n.toNatClampNeg 0)]) (c - 1) (s - n.toNatClampNeg) else none
  | _ => none
def mzNew (ci : Nat) (fs : List Value) (k : mzK) : mzK := fun lv st H c s => bif Nat.ble 1 c && Nat.ble fs.length s then k lv (.ref H.length :: st) (H ++ [.inr (ci, fs)]) (c - 1) (s - fs.length) else none
noncomputable def mzRcv (na ci : Nat) (st : List Value) (H : mzH) : Bool := match mzNq st (na - 1) with
  | some (.ref a) => (match mzNq H a with
    | some (.inr (d, _)) => Nat.beq d ci
    | _ => false)
  | _ => false
def mzInv (g : List Value → mzH → Bool) (nl : Nat) (callee : mzK) (na mc ms : Nat) (k : mzK) : mzK := fun lv st H c s =>
  bif g st H && (Nat.ble na st.length && (Nat.ble (mzWd (st.drop na)) 8 && (Nat.ble mc c && (Nat.ble ms s && Nat.ble (mzWd (st.take na)) nl)))) then
    (match callee (lv_args 0 (st.take na).reverse) [] H mc ms with
    | some (o, H1) => k lv (o.toList ++ st.drop na) H1 (c - mc) (s - ms)
    | none => none) else none
def mzCpy (f g : List Int32) (sp dp n : Nat) : List Int32 := g.take dp ++ ((f.drop sp).take n ++ g.drop (dp + n))
noncomputable def mzAcp (k : mzK) : mzK := fun lv st H c s => match st with
  | .int n :: .int dp :: .ref a :: .int sp :: .ref a0 :: r => (match mzNq H a0, mzNq H a with
    | some (.inl (0, f)), some (.inl (0, g)) => bif decide (sp < 0) || (decide (dp < 0) || decide (n < 0)) then none else
        bif Nat.ble (sp.toNatClampNeg + n.toNatClampNeg) f.length && (Nat.ble (dp.toNatClampNeg + n.toNatClampNeg) g.length && Nat.ble (mzWd r) 8) then mzSetK H a (.inl (0, mzCpy f g sp.toNatClampNeg dp.toNatClampNeg n.toNatClampNeg)) (fun G => k lv r G c s) else none
    | _, _ => none)
  | _ => none
def mzMm (g : Int32 → Int32 → Int32) (k : mzK) : mzK := fun lv st H c s => match st with
  | .int b :: .int a :: r => bif Nat.ble (mzWd r) 8 then k lv (.int (g a b) :: r) H c s else none
  | _ => none
def mzObi (k : mzK) : mzK := fun lv st H c s => match st with
  | .ref _ :: r => bif Nat.ble (mzWd r) 8 then k lv r H c s else none
  | _ => none
def mzIret (b : Nat) : mzK := fun _ st H _ _ => match st with
  | [.int v] => (match b with
    | 0 => some (some (.int v), H)
    | _ => bif decide (v = 0) || decide (v = 1) then some (some (.int v), H) else none)
  | _ => none
def mzLret : mzK := fun _ st H _ _ => match st with
  | [.long v] => some (some (.long v), H)
  | _ => none
def mzAret : mzK := fun _ st H _ _ => match st with
  | [.ref v] => some (some (.ref v), H)
  | _ => none
def mzVret : mzK := fun _ st H _ _ => match st with
  | [] => some (none, H)
  | _ => none
/-- a String constant's length; its char at the number that one local holds, two together -/
def mzSln (x : Nat) (k : mzK) : mzK := fun lv st H c s => bif Nat.ble (mzWd st) 8 then k lv (.int (Int32.ofNat (sLn.getD x 0)) :: st) H c s else none
noncomputable def mzSc1 (x a : Nat) (k : mzK) : mzK := fun lv st H c s => match mzGet ((zf4 a : Fin 4) : Nat) lv with
  | some (.int i) => (match mzIx (sBy.getD x []) i with
    | some v => bif Nat.ble (mzWd st) 8 then k lv (.int v :: st) H c s else none
    | none => none)
  | _ => none
noncomputable def mzSc2 (x a b : Nat) (k : mzK) : mzK := fun lv st H c s => match mzGet ((zf4 a : Fin 4) : Nat) lv with
  | some (.int i) => (match mzGet ((zf4 b : Fin 4) : Nat) lv with
    | some (.int j) => (match mzIx (sBy.getD x []) (i + j) with
      | some v => bif Nat.ble (mzWd st) 8 then k lv (.int v :: st) H c s else none
      | none => none)
    | _ => none)
  | _ => none
/-- a handler: how an instruction goes on. Each is closed, so that a step costs the kernel little -/
abbrev mzHd : Type := (Nat → mzB → List mzO → mzK) → Nat → mzB → Nat → Nat → List Nat → List mzO → mzK
def mhNo : mzHd := fun _ _ _ _ _ _ _ => mzNo
noncomputable def mh_nop : mzHd := fun ih nL bl x y ts r => ih nL bl (mzBlk bl x)
noncomputable def mh_iconst (n : Int) : mzHd := fun ih nL bl x y ts r => mzPush (.int (Int32.ofInt n)) (ih nL bl r)
noncomputable def mh_bipush (n : Int) : mzHd := fun ih nL bl x y ts r => mzPush (.int (Int8.ofInt n).toInt32) (ih nL bl r)
noncomputable def mh_sipush (n : Int) : mzHd := fun ih nL bl x y ts r => mzPush (.int (Int16.ofInt n).toInt32) (ih nL bl r)
noncomputable def mh_lconst (n : Fin 2) : mzHd := fun ih nL bl x y ts r => mzPush (.long (Int64.ofNat (n : Nat))) (ih nL bl r)
noncomputable def mh_ldc : mzHd := fun ih nL bl x y ts r => (match ts with | [_] => mzPush (.int (Int32.ofNat x)) (ih nL bl r) | [_, _] => mzSln x (ih nL bl r) | [_, a, _] => mzSc1 x a (ih nL bl r) | [_, a, _, b] => mzSc2 x a b (ih nL bl r) | _ => mzNo)
noncomputable def mh_ldc2_w : mzHd := fun ih nL bl x y ts r => (match ts with | [_] => mzPush (.long (Int64.ofNat x)) (ih nL bl r) | _ => mzNo)
noncomputable def mh_iload (k : Nat) : mzHd := fun ih nL bl x y ts r => mzIld k (ih nL bl r)
noncomputable def mh_iload_n (k : Fin 4) : mzHd := fun ih nL bl x y ts r => mzIld (k : Nat) (ih nL bl r)
noncomputable def mh_lload (k : Nat) : mzHd := fun ih nL bl x y ts r => mzLld k (ih nL bl r)
noncomputable def mh_lload_n (k : Fin 4) : mzHd := fun ih nL bl x y ts r => mzLld (k : Nat) (ih nL bl r)
noncomputable def mh_aload (k : Nat) : mzHd := fun ih nL bl x y ts r => mzAld k (ih nL bl r)
noncomputable def mh_aload_n (k : Fin 4) : mzHd := fun ih nL bl x y ts r => mzAld (k : Nat) (ih nL bl r)
noncomputable def mh_istore (k : Nat) : mzHd := fun ih nL bl x y ts r => mzIst nL k (ih nL bl r)
noncomputable def mh_istore_n (k : Fin 4) : mzHd := fun ih nL bl x y ts r => mzIst nL (k : Nat) (ih nL bl r)
noncomputable def mh_lstore (k : Nat) : mzHd := fun ih nL bl x y ts r => mzLst nL k (ih nL bl r)
noncomputable def mh_lstore_n (k : Fin 4) : mzHd := fun ih nL bl x y ts r => mzLst nL (k : Nat) (ih nL bl r)
noncomputable def mh_astore (k : Nat) : mzHd := fun ih nL bl x y ts r => mzAst nL k (ih nL bl r)
noncomputable def mh_astore_n (k : Fin 4) : mzHd := fun ih nL bl x y ts r => mzAst nL (k : Nat) (ih nL bl r)
noncomputable def mh_iinc (k : Nat) (d : Int) : mzHd := fun ih nL bl x y ts r => mzInc nL k d (ih nL bl r)
noncomputable def mh_iadd : mzHd := fun ih nL bl x y ts r => mzI2 (fun a b => a + b) (ih nL bl r)
noncomputable def mh_isub : mzHd := fun ih nL bl x y ts r => mzI2 (fun a b => a - b) (ih nL bl r)
noncomputable def mh_imul : mzHd := fun ih nL bl x y ts r => mzI2 (fun a b => a * b) (ih nL bl r)
noncomputable def mh_irem : mzHd := fun ih nL bl x y ts r => mzRem (ih nL bl r)
noncomputable def mh_iand : mzHd := fun ih nL bl x y ts r => mzI2 (fun a b => a &&& b) (ih nL bl r)
noncomputable def mh_ior : mzHd := fun ih nL bl x y ts r => mzI2 (fun a b => a ||| b) (ih nL bl r)
noncomputable def mh_ixor : mzHd := fun ih nL bl x y ts r => mzI2 (fun a b => a ^^^ b) (ih nL bl r)
noncomputable def mh_ishl : mzHd := fun ih nL bl x y ts r => mzI2 (fun a b => a <<< (b &&& 31)) (ih nL bl r)
noncomputable def mh_ishr : mzHd := fun ih nL bl x y ts r => mzI2 (fun a b => a >>> (b &&& 31)) (ih nL bl r)
noncomputable def mh_iushr : mzHd := fun ih nL bl x y ts r => mzI2 (fun a b => (a.toUInt32 >>> (b.toUInt32 &&& Int32.toUInt32 31)).toInt32) (ih nL bl r)
noncomputable def mh_ladd : mzHd := fun ih nL bl x y ts r => mzL2 (fun a b => a + b) (ih nL bl r)
noncomputable def mh_lsub : mzHd := fun ih nL bl x y ts r => mzL2 (fun a b => a - b) (ih nL bl r)
noncomputable def mh_land : mzHd := fun ih nL bl x y ts r => mzL2 (fun a b => a &&& b) (ih nL bl r)
noncomputable def mh_lor : mzHd := fun ih nL bl x y ts r => mzL2 (fun a b => a ||| b) (ih nL bl r)
noncomputable def mh_lshl : mzHd := fun ih nL bl x y ts r => mzLsh (fun a b => a <<< (b.toInt64 &&& 63)) (ih nL bl r)
noncomputable def mh_lushr : mzHd := fun ih nL bl x y ts r => mzLsh (fun a b => (a.toUInt64 >>> (b.toInt64.toUInt64 &&& Int64.toUInt64 63)).toInt64) (ih nL bl r)
noncomputable def mh_lcmp : mzHd := fun ih nL bl x y ts r => mzLcmp (ih nL bl r)
noncomputable def mh_i2l : mzHd := fun ih nL bl x y ts r => mzI1 (fun a => .long a.toInt64) (ih nL bl r)
noncomputable def mh_i2b : mzHd := fun ih nL bl x y ts r => mzI1 (fun a => .int a.toInt8.toInt32) (ih nL bl r)
noncomputable def mh_l2i : mzHd := fun ih nL bl x y ts r => mzL1 (fun a => .int a.toInt32) (ih nL bl r)
noncomputable def mh_dup : mzHd := fun ih nL bl x y ts r => mzDup (ih nL bl r)
noncomputable def mh_dup2 : mzHd := fun ih nL bl x y ts r => mzDup2 (ih nL bl r)
noncomputable def mh_pop : mzHd := fun ih nL bl x y ts r => mzPop (ih nL bl r)
noncomputable def mh_goto : mzHd := fun ih nL bl x y ts r => ih nL bl (mzBlk bl x)
noncomputable def mh_ifCond (q : ClassFile.Cond) : mzHd := fun ih nL bl x y ts r => mzIf q (ih nL bl (mzBlk bl x)) (ih nL bl r)
noncomputable def mh_if_icmp (q : ClassFile.Cond) : mzHd := fun ih nL bl x y ts r => mzIf2 q (ih nL bl (mzBlk bl x)) (ih nL bl r)
noncomputable def mh_tableswitch (lo : Int) (hi : Int) : mzHd := fun ih nL bl x y ts r => mzSw lo hi ts (ih nL bl (mzBlk bl x)) (fun b => ih nL bl (mzBlk bl b))
noncomputable def mh_getfield : mzHd := fun ih nL bl x y ts r => (match ts with | [_] => mzGf x y (ih nL bl r) | _ => mzNo)
noncomputable def mh_putfield : mzHd := fun ih nL bl x y ts r => (match ts with | [t] => mzPf x y t (ih nL bl r) | _ => mzNo)
noncomputable def mh_iaload : mzHd := fun ih nL bl x y ts r => mzAl false (ih nL bl r)
noncomputable def mh_baload : mzHd := fun ih nL bl x y ts r => mzAl true (ih nL bl r)
noncomputable def mh_iastore : mzHd := fun ih nL bl x y ts r => mzAs false (ih nL bl r)
noncomputable def mh_bastore : mzHd := fun ih nL bl x y ts r => mzAs true (ih nL bl r)
noncomputable def mh_arraylength : mzHd := fun ih nL bl x y ts r => mzLen (ih nL bl r)
noncomputable def mh_newarray : mzHd := fun ih nL bl x y ts r => (match ts with | [_] => mzNewa x (ih nL bl r) | _ => mzNo)
noncomputable def mh_new : mzHd := fun ih nL bl x y ts r => (match ts with | [_] => mzNew x (zD x) (ih nL bl r) | _ => mzNo)
noncomputable def mh_invokevirtual : mzHd := fun ih nL bl x y ts r => (match ts with | [na, mc, ms] => mzInv (mzRcv na y) (zN x) (ih (zN x) (zB x) (mzBlk (zB x) 0)) na mc ms (ih nL bl r) | _ => mzNo)
noncomputable def mh_invokestatic : mzHd := fun ih nL bl x y ts r => (match ts with | [na, mc, ms] => mzInv (fun _ _ => true) (zN x) (ih (zN x) (zB x) (mzBlk (zB x) 0)) na mc ms (ih nL bl r) | [0] => mzAcp (ih nL bl r) | [1] => mzMm (fun a b => if a < b then b else a) (ih nL bl r) | [_] => mzMm (fun a b => if b < a then b else a) (ih nL bl r) | _ => mzNo)
noncomputable def mh_invokespecial : mzHd := fun ih nL bl x y ts r => (match ts with | [na, mc, ms] => mzInv (mzRcv na y) (zN x) (ih (zN x) (zB x) (mzBlk (zB x) 0)) na mc ms (ih nL bl r) | [_] => mzObi (ih nL bl r) | _ => mzNo)
noncomputable def mh_ireturn : mzHd := fun ih nL bl x y ts r => mzIret x
noncomputable def mh_lreturn : mzHd := fun ih nL bl x y ts r => mzLret
noncomputable def mh_areturn : mzHd := fun ih nL bl x y ts r => mzAret
noncomputable def mh_return_ : mzHd := fun ih nL bl x y ts r => mzVret
noncomputable def mzSem (i : Instr) : mzHd := @Instr.rec (fun _ => mzHd)
  mhNo
  mhNo
  mhNo
  (fun k => (mh_aload k))
  (fun k => (mh_aload_n k))
  (fun _ => mhNo)
  mh_areturn
  mh_arraylength
  (fun k => (mh_astore k))
  (fun k => (mh_astore_n k))
  mhNo
  mh_baload
  mh_bastore
  (fun n => (mh_bipush n))
  mhNo
  mhNo
  (fun _ => mhNo)
  mhNo
  mhNo
  mhNo
  mhNo
  mhNo
  mhNo
  (fun _ => mhNo)
  (fun _ => mhNo)
  mhNo
  (fun _ => mhNo)
  (fun _ => mhNo)
  mhNo
  mhNo
  mhNo
  mhNo
  (fun _ => mhNo)
  (fun _ => mhNo)
  mhNo
  mh_dup
  mhNo
  mhNo
  mh_dup2
  mhNo
  mhNo
  mhNo
  mhNo
  mhNo
  mhNo
  mhNo
  mhNo
  (fun _ => mhNo)
  (fun _ => mhNo)
  mhNo
  (fun _ => mhNo)
  (fun _ => mhNo)
  mhNo
  mhNo
  mhNo
  mhNo
  (fun _ => mhNo)
  (fun _ => mhNo)
  mhNo
  (fun _ => mh_getfield)
  (fun _ => mhNo)
  (fun _ => mh_goto)
  (fun _ => mhNo)
  mh_i2b
  mhNo
  mhNo
  mhNo
  mh_i2l
  mhNo
  mh_iadd
  mh_iaload
  mh_iand
  mh_iastore
  (fun n => (mh_iconst n))
  mhNo
  (fun _ _ => mhNo)
  (fun q _ => (mh_if_icmp q))
  (fun q _ => (mh_ifCond q))
  (fun _ => mhNo)
  (fun _ => mhNo)
  (fun k d => (mh_iinc k d))
  (fun k => (mh_iload k))
  (fun k => (mh_iload_n k))
  mh_imul
  mhNo
  (fun _ => mhNo)
  (fun _ => mhNo)
  (fun _ _ => mhNo)
  (fun _ => mh_invokespecial)
  (fun _ => mh_invokestatic)
  (fun _ => mh_invokevirtual)
  mh_ior
  mh_irem
  mh_ireturn
  mh_ishl
  mh_ishr
  (fun k => (mh_istore k))
  (fun k => (mh_istore_n k))
  mh_isub
  mh_iushr
  mh_ixor
  (fun _ => mhNo)
  (fun _ => mhNo)
  mhNo
  mhNo
  mh_l2i
  mh_ladd
  mhNo
  mh_land
  mhNo
  mh_lcmp
  (fun n => (mh_lconst n))
  (fun _ => mh_ldc)
  (fun _ => mhNo)
  (fun _ => mh_ldc2_w)
  mhNo
  (fun k => (mh_lload k))
  (fun k => (mh_lload_n k))
  mhNo
  mhNo
  (fun _ _ => mhNo)
  mh_lor
  mhNo
  mh_lreturn
  mh_lshl
  mhNo
  (fun k => (mh_lstore k))
  (fun k => (mh_lstore_n k))
  mh_lsub
  mh_lushr
  mhNo
  mhNo
  mhNo
  (fun _ _ => mhNo)
  (fun _ => mh_new)
  (fun _ => mh_newarray)
  mh_nop
  mh_pop
  mhNo
  (fun _ => mh_putfield)
  (fun _ => mhNo)
  (fun _ => mhNo)
  mh_return_
  mhNo
  mhNo
  (fun n => (mh_sipush n))
  mhNo
  (fun _ lo hi _ => (mh_tableswitch lo hi))
  i
noncomputable def mzStp (ih : Nat → mzB → List mzO → mzK) (nL : Nat) (bl : mzB) (ops : List mzO) : mzK :=
  match ops with
  | [] => mzNo
  | (_, i, x, y, ts) :: r => mzSem i ih nL bl x y ts r
/-- a run: fuel, the method's locals, its blocks, what is left of the block -/
noncomputable def zEx (f : Nat) : Nat → mzB → List mzO → mzK :=
  Nat.rec (fun _ _ _ => mzNo) (fun _ ih => mzStp ih) f
end
section
/-! WHAT AN INSTRUCTION OF THE MINI MACHINE HAS FOUND, IF ITS RUN ENDS -/
section
variable {k kt kf : mzK} {lv : mzL} {st : List Value} {H : mzH} {c s : Nat} {q : Option Value × mzH}
theorem mzIld_i {i : Nat} (h : mzIld i k lv st H c s = some q) : ∃ v, mzGet i lv = some (.int v) ∧ k lv (.int v :: st) H c s = some q := by
  unfold mzIld at h; split at h
  · rename_i v e; exact ⟨v, e, h⟩
  · cases h
theorem mzLld_i {i : Nat} (h : mzLld i k lv st H c s = some q) : ∃ v, mzGet i lv = some (.long v) ∧ k lv (.long v :: st) H c s = some q := by
  unfold mzLld at h; split at h
  · rename_i v e; exact ⟨v, e, h⟩
  · cases h
theorem mzAld_i {i : Nat} (h : mzAld i k lv st H c s = some q) : ∃ v, mzGet i lv = some (.ref v) ∧ k lv (.ref v :: st) H c s = some q := by
  unfold mzAld at h; split at h
  · rename_i v e; exact ⟨v, e, h⟩
  · cases h
theorem z_bif {a : Bool} {α : Type} {x : Option α} {y : α} (h : (bif a then x else none) = some y) : a = true ∧ x = some y := by
  cases a with
  | true => exact ⟨rfl, h⟩
  | false => cases h
theorem z_bif2 {a : Bool} {α : Type} {x : Option α} {y : α} (h : (bif a then none else x) = some y) : a = false ∧ x = some y := by
  cases a with
  | true => cases h
  | false => exact ⟨rfl, h⟩
theorem mzIst_i {n i : Nat} (h : mzIst n i k lv st H c s = some q) : ∃ v r, st = .int v :: r ∧ i < n ∧ k (mzSt1 i (.int v) lv) r H c s = some q := by
  unfold mzIst at h; split at h
  · rename_i v r; obtain ⟨h1, h2⟩ := z_bif h; exact ⟨v, r, rfl, Nat.blt_eq.mp h1, h2⟩
  · cases h
theorem mzAst_i {n i : Nat} (h : mzAst n i k lv st H c s = some q) : ∃ v r, st = .ref v :: r ∧ i < n ∧ k (mzSt1 i (.ref v) lv) r H c s = some q := by
  unfold mzAst at h; split at h
  · rename_i v r; obtain ⟨h1, h2⟩ := z_bif h; exact ⟨v, r, rfl, Nat.blt_eq.mp h1, h2⟩
  · cases h
theorem mzLst_i {n i : Nat} (h : mzLst n i k lv st H c s = some q) : ∃ v r, st = .long v :: r ∧ i + 1 < n ∧ k (mzSt2 i (.long v) lv) r H c s = some q := by
  unfold mzLst at h; split at h
  · rename_i v r; obtain ⟨h1, h2⟩ := z_bif h; exact ⟨v, r, rfl, Nat.blt_eq.mp h1, h2⟩
  · cases h
theorem mzInc_i {n i : Nat} {d : Int} (h : mzInc n i d k lv st H c s = some q) : ∃ v, mzGet i lv = some (.int v) ∧ i < n ∧ k (mzSt1 i (.int (v + Int32.ofInt d)) lv) st H c s = some q := by
  unfold mzInc at h; split at h
  · rename_i v e; obtain ⟨h1, h2⟩ := z_bif h; exact ⟨v, e, Nat.blt_eq.mp h1, h2⟩
  · cases h
theorem mzI2_i {g : Int32 → Int32 → Int32} (h : mzI2 g k lv st H c s = some q) : ∃ a b r, st = .int b :: .int a :: r ∧ k lv (.int (g a b) :: r) H c s = some q := by
  unfold mzI2 at h; split at h
  · rename_i b a r; exact ⟨a, b, r, rfl, h⟩
  · cases h
theorem mzRem_i (h : mzRem k lv st H c s = some q) : ∃ a b r, st = .int b :: .int a :: r ∧ ¬ b = 0 ∧ k lv (.int (a - a / b * b) :: r) H c s = some q := by
  unfold mzRem at h; split at h
  · rename_i b a r; obtain ⟨h1, h2⟩ := z_bif2 h; exact ⟨a, b, r, rfl, of_decide_eq_false h1, h2⟩
  · cases h
theorem mzL2_i {g : Int64 → Int64 → Int64} (h : mzL2 g k lv st H c s = some q) : ∃ a b r, st = .long b :: .long a :: r ∧ k lv (.long (g a b) :: r) H c s = some q := by
  unfold mzL2 at h; split at h
  · rename_i b a r; exact ⟨a, b, r, rfl, h⟩
  · cases h
theorem mzLsh_i {g : Int64 → Int32 → Int64} (h : mzLsh g k lv st H c s = some q) : ∃ a b r, st = .int b :: .long a :: r ∧ k lv (.long (g a b) :: r) H c s = some q := by
  unfold mzLsh at h; split at h
  · rename_i b a r; exact ⟨a, b, r, rfl, h⟩
  · cases h
theorem mzLcmp_i (h : mzLcmp k lv st H c s = some q) : ∃ a b r, st = .long b :: .long a :: r ∧ k lv (.int (lg_cmp a b) :: r) H c s = some q := by
  unfold mzLcmp at h; split at h
  · rename_i b a r; exact ⟨a, b, r, rfl, h⟩
  · cases h
theorem mzI1_i {g : Int32 → Value} (h : mzI1 g k lv st H c s = some q) : ∃ a r, st = .int a :: r ∧ k lv (g a :: r) H c s = some q := by
  unfold mzI1 at h; split at h
  · rename_i a r; exact ⟨a, r, rfl, h⟩
  · cases h
theorem mzL1_i {g : Int64 → Value} (h : mzL1 g k lv st H c s = some q) : ∃ a r, st = .long a :: r ∧ k lv (g a :: r) H c s = some q := by
  unfold mzL1 at h; split at h
  · rename_i a r; exact ⟨a, r, rfl, h⟩
  · cases h
theorem mzDup_i (h : mzDup k lv st H c s = some q) : ∃ a r, st = a :: r ∧ a.category = 1 ∧ k lv (a :: a :: r) H c s = some q := by
  unfold mzDup at h; split at h
  · rename_i a r; obtain ⟨h1, h2⟩ := z_bif h; exact ⟨a, r, rfl, Nat.eq_of_beq_eq_true h1, h2⟩
  · cases h
theorem mzPop_i (h : mzPop k lv st H c s = some q) : ∃ a r, st = a :: r ∧ a.category = 1 ∧ k lv r H c s = some q := by
  unfold mzPop at h; split at h
  · rename_i a r; obtain ⟨h1, h2⟩ := z_bif h; exact ⟨a, r, rfl, Nat.eq_of_beq_eq_true h1, h2⟩
  · cases h
theorem mzDup2_i (h : mzDup2 k lv st H c s = some q) : ∃ a b r, st = a :: b :: r ∧ a.category = 1 ∧ b.category = 1 ∧ k lv (a :: b :: a :: b :: r) H c s = some q := by
  unfold mzDup2 at h; split at h
  · rename_i a b r; obtain ⟨h1, h2⟩ := z_bif h; simp only [Bool.and_eq_true] at h1; exact ⟨a, b, r, rfl, Nat.eq_of_beq_eq_true h1.1, Nat.eq_of_beq_eq_true h1.2, h2⟩
  · cases h
theorem z_cond {a : Bool} {x y : mzR} (h : (bif a then x else y) = some q) : (a = true ∧ x = some q) ∨ (a = false ∧ y = some q) := by
  cases a with
  | true => exact Or.inl ⟨rfl, h⟩
  | false => exact Or.inr ⟨rfl, h⟩
theorem mzIf_i {o : ClassFile.Cond} (h : mzIf o kt kf lv st H c s = some q) : ∃ a r, st = .int a :: r ∧ ((mzCnd o a 0 = true → kt lv r H c s = some q) ∧ (mzCnd o a 0 = false → kf lv r H c s = some q)) := by
  unfold mzIf at h; split at h
  · rename_i a r; refine ⟨a, r, rfl, ?_⟩
    rcases z_cond h with ⟨h1, h2⟩ | ⟨h1, h2⟩ <;> rw [h1]
    · exact ⟨fun _ => h2, (fun h => by cases h)⟩
    · exact ⟨(fun h => by cases h), fun _ => h2⟩
  · cases h
theorem mzIf2_i {o : ClassFile.Cond} (h : mzIf2 o kt kf lv st H c s = some q) : ∃ a b r, st = .int b :: .int a :: r ∧ ((mzCnd o a b = true → kt lv r H c s = some q) ∧ (mzCnd o a b = false → kf lv r H c s = some q)) := by
  unfold mzIf2 at h; split at h
  · rename_i b a r; refine ⟨a, b, r, rfl, ?_⟩
    rcases z_cond h with ⟨h1, h2⟩ | ⟨h1, h2⟩ <;> rw [h1]
    · exact ⟨fun _ => h2, (fun h => by cases h)⟩
    · exact ⟨(fun h => by cases h), fun _ => h2⟩
  · cases h
theorem mzSw_i {lo hi : Int} {ts : List Nat} {kd : mzK} {kq : Nat → mzK} (h : mzSw lo hi ts kd kq lv st H c s = some q) : ∃ a r, st = .int a :: r ∧ (((a.toInt < lo ∨ hi < a.toInt) ∧ kd lv r H c s = some q) ∨ (¬ a.toInt < lo ∧ ¬ hi < a.toInt ∧ ∃ b, ts[(a.toInt - lo).toNat]? = some b ∧ kq b lv r H c s = some q)) := by
  unfold mzSw at h; split at h
  · rename_i a r; refine ⟨a, r, rfl, ?_⟩
    rcases z_cond h with ⟨h1, h2⟩ | ⟨h1, h2⟩
    · simp only [Bool.or_eq_true, decide_eq_true_eq] at h1
      exact Or.inl ⟨h1, h2⟩
    · simp only [Bool.or_eq_false_iff, decide_eq_false_iff_not] at h1
      split at h2
      · rename_i b e; rw [mzNq_eq] at e; exact Or.inr ⟨h1.1, h1.2, b, e, h2⟩
      · cases h2
  · cases h
theorem mzGf_i {ci f : Nat} (h : mzGf ci f k lv st H c s = some q) : ∃ a r fs v, st = .ref a :: r ∧ H[a]? = some (.inr (ci, fs)) ∧ fs[f]? = some v ∧ k lv (v :: r) H c s = some q := by
  unfold mzGf at h; split at h
  · rename_i a r; split at h
    · rename_i d fs e; obtain ⟨h1, h2⟩ := z_bif h
      split at h2
      · rename_i v e2
        have hd := Nat.eq_of_beq_eq_true h1
        subst hd
        rw [mzNq_eq] at e e2
        exact ⟨a, r, fs, v, rfl, e, e2, h2⟩
      · cases h2
    · cases h
  · cases h
theorem mzPf_i {ci f t : Nat} (h : mzPf ci f t k lv st H c s = some q) : ∃ a r fs v, st = v :: .ref a :: r ∧ H[a]? = some (.inr (ci, fs)) ∧ f < fs.length ∧ mzFit t v = true ∧ k lv r (H.set a (.inr (ci, fs.set f v))) c s = some q := by
  unfold mzPf at h; split at h
  · rename_i v a r; split at h
    · rename_i d fs e; obtain ⟨h1, h2⟩ := z_bif h
      simp only [Bool.and_eq_true] at h1
      have hd := Nat.eq_of_beq_eq_true h1.1
      subst hd
      rw [mzNq_eq] at e
      rw [mzSetK_eq, mzSetK_eq] at h2
      exact ⟨a, r, fs, v, rfl, e, Nat.blt_eq.mp h1.2.1, h1.2.2, h2⟩
    · cases h
  · cases h
theorem mzIx_i {l : List Int32} {i v : Int32} (h : mzIx l i = some v) : vp_in i l.length ∧ v = l.getD i.toNatClampNeg 0 ∧ mzN i = i.toNatClampNeg := by
  unfold mzIx at h
  obtain ⟨h1, h2⟩ := z_bif h
  obtain ⟨h3, h4⟩ := mzN_eq h1
  rw [mzNq_eq, h4] at h2
  have hl := (List.getElem?_eq_some_iff.mp h2).1
  refine ⟨fun hh => ?_, ?_, h4⟩
  · rcases hh with hh | hh
    · exact h3 hh
    · omega
  · rw [List.getD_eq_getElem?_getD, h2]; rfl
theorem mzAl_i {b : Bool} (h : mzAl b k lv st H c s = some q) : ∃ i a r d l, st = .int i :: .ref a :: r ∧ H[a]? = some (.inl (d, l)) ∧ Bool.xor b (Nat.beq d 0) = true ∧ vp_in i l.length ∧ k lv (.int (l.getD i.toNatClampNeg 0) :: r) H c s = some q := by
  unfold mzAl at h; split at h
  · rename_i i a r; split at h
    · rename_i d l e; obtain ⟨h1, h2⟩ := z_bif h
      split at h2
      · rename_i v e2
        obtain ⟨h3, h4, -⟩ := mzIx_i e2
        subst h4
        rw [mzNq_eq] at e
        exact ⟨i, a, r, d, l, rfl, e, h1, h3, h2⟩
      · cases h2
    · cases h
  · cases h
theorem mzAs_i {b : Bool} (h : mzAs b k lv st H c s = some q) : ∃ x i a r d l, st = .int x :: .int i :: .ref a :: r ∧ H[a]? = some (.inl (d, l)) ∧ Bool.xor b (Nat.beq d 0) = true ∧ vp_in i l.length ∧ k lv r (H.set a (.inl (d, l.set i.toNatClampNeg (vp_nar (mzTy d) x)))) c s = some q := by
  unfold mzAs at h; split at h
  · rename_i x i a r; split at h
    · rename_i d l e; obtain ⟨h1, h2⟩ := z_bif h
      split at h2
      · rename_i v e2
        obtain ⟨h3, -, h4⟩ := mzIx_i e2
        rw [mzNq_eq] at e
        rw [mzSetK_eq, mzSetK_eq, h4] at h2
        exact ⟨x, i, a, r, d, l, rfl, e, h1, h3, h2⟩
      · cases h2
    · cases h
  · cases h
theorem mzLen_i (h : mzLen k lv st H c s = some q) : ∃ a r d l, st = .ref a :: r ∧ H[a]? = some (.inl (d, l)) ∧ k lv (.int (Int32.ofNat l.length) :: r) H c s = some q := by
  unfold mzLen at h; split at h
  · rename_i a r; split at h
    · rename_i d l e; rw [mzNq_eq] at e; exact ⟨a, r, d, l, rfl, e, h⟩
    · cases h
  · cases h
theorem mzNewa_i {d : Nat} (h : mzNewa d k lv st H c s = some q) : ∃ n r, st = .int n :: r ∧ ¬ n < 0 ∧ 1 ≤ c ∧ n.toNatClampNeg ≤ s ∧ n.toNatClampNeg ≤ 65536 ∧ k lv (.ref H.length :: r) (H ++ [.inl (d, List.replicate n.toNatClampNeg 0)]) (c - 1) (s - n.toNatClampNeg) = some q := by
  unfold mzNewa at h; split at h
  · rename_i n r; obtain ⟨h1, h2⟩ := z_bif2 h
    obtain ⟨h3, h4⟩ := z_bif h2
    simp only [Bool.and_eq_true] at h3
    exact ⟨n, r, rfl, of_decide_eq_false h1, Nat.le_of_ble_eq_true h3.1, Nat.le_of_ble_eq_true h3.2.1, Nat.le_of_ble_eq_true h3.2.2, h4⟩
  · cases h
theorem mzNew_i {ci : Nat} {fs : List Value} (h : mzNew ci fs k lv st H c s = some q) : 1 ≤ c ∧ fs.length ≤ s ∧ k lv (.ref H.length :: st) (H ++ [.inr (ci, fs)]) (c - 1) (s - fs.length) = some q := by
  unfold mzNew at h
  obtain ⟨h3, h4⟩ := z_bif h
  simp only [Bool.and_eq_true] at h3
  exact ⟨Nat.le_of_ble_eq_true h3.1, Nat.le_of_ble_eq_true h3.2, h4⟩
theorem mzInv_i {g : List Value → mzH → Bool} {nl : Nat} {ca : mzK} {na mc ms : Nat} (h : mzInv g nl ca na mc ms k lv st H c s = some q) : g st H = true ∧ na ≤ st.length ∧ mzWd (st.drop na) ≤ 8 ∧ mc ≤ c ∧ ms ≤ s ∧ mzWd (st.take na) ≤ nl ∧ ∃ o H1, ca (lv_args 0 (st.take na).reverse) [] H mc ms = some (o, H1) ∧ k lv (o.toList ++ st.drop na) H1 (c - mc) (s - ms) = some q := by
  unfold mzInv at h
  obtain ⟨h1, h2⟩ := z_bif h
  simp only [Bool.and_eq_true] at h1
  obtain ⟨a1, a2, a3, a4, a5, a6⟩ := h1
  refine ⟨a1, Nat.le_of_ble_eq_true a2, Nat.le_of_ble_eq_true a3, Nat.le_of_ble_eq_true a4, Nat.le_of_ble_eq_true a5, Nat.le_of_ble_eq_true a6, ?_⟩
  split at h2
  · rename_i o H1 e; exact ⟨o, H1, e, h2⟩
  · cases h2
theorem mzRcv_i {na ci : Nat} (h : mzRcv na ci st H = true) : ∃ a fs, st[na - 1]? = some (.ref a) ∧ H[a]? = some (.inr (ci, fs)) := by
  unfold mzRcv at h; split at h
  · rename_i a e; split at h
    · rename_i d fs e2
      have hd := Nat.eq_of_beq_eq_true h
      subst hd
      rw [mzNq_eq] at e e2
      exact ⟨a, fs, e, e2⟩
    · cases h
  · cases h
theorem mzAcp_i (h : mzAcp k lv st H c s = some q) : ∃ n dp a sp a0 r f g, st = .int n :: .int dp :: .ref a :: .int sp :: .ref a0 :: r ∧ H[a0]? = some (.inl (0, f)) ∧ H[a]? = some (.inl (0, g)) ∧ ¬ sp < 0 ∧ ¬ dp < 0 ∧ ¬ n < 0 ∧ sp.toNatClampNeg + n.toNatClampNeg ≤ f.length ∧ dp.toNatClampNeg + n.toNatClampNeg ≤ g.length ∧ mzWd r ≤ 8 ∧ k lv r (H.set a (.inl (0, mzCpy f g sp.toNatClampNeg dp.toNatClampNeg n.toNatClampNeg))) c s = some q := by
  unfold mzAcp at h; split at h
  · rename_i n dp a sp a0 r; split at h
    · rename_i f g e1 e2
      obtain ⟨h1, h2⟩ := z_bif2 h
      obtain ⟨h3, h4⟩ := z_bif h2
      simp only [Bool.or_eq_false_iff, decide_eq_false_iff_not] at h1
      simp only [Bool.and_eq_true] at h3
      rw [mzNq_eq] at e1 e2
      rw [mzSetK_eq] at h4
      exact ⟨n, dp, a, sp, a0, r, f, g, rfl, e1, e2, h1.1, h1.2.1, h1.2.2, Nat.le_of_ble_eq_true h3.1, Nat.le_of_ble_eq_true h3.2.1, Nat.le_of_ble_eq_true h3.2.2, h4⟩
    · cases h
  · cases h
theorem mzMm_i {g : Int32 → Int32 → Int32} (h : mzMm g k lv st H c s = some q) : ∃ a b r, st = .int b :: .int a :: r ∧ mzWd r ≤ 8 ∧ k lv (.int (g a b) :: r) H c s = some q := by
  unfold mzMm at h; split at h
  · rename_i b a r; obtain ⟨h1, h2⟩ := z_bif h; exact ⟨a, b, r, rfl, Nat.le_of_ble_eq_true h1, h2⟩
  · cases h
theorem mzObi_i (h : mzObi k lv st H c s = some q) : ∃ a r, st = .ref a :: r ∧ mzWd r ≤ 8 ∧ k lv r H c s = some q := by
  unfold mzObi at h; split at h
  · rename_i a r; obtain ⟨h1, h2⟩ := z_bif h; exact ⟨a, r, rfl, Nat.le_of_ble_eq_true h1, h2⟩
  · cases h
theorem mzIret_i {b : Nat} (h : mzIret b lv st H c s = some q) : ∃ v, st = [.int v] ∧ q = (some (.int v), H) ∧ (b = 0 ∨ v = 0 ∨ v = 1) := by
  unfold mzIret at h; split at h
  · rename_i v; split at h
    · exact ⟨v, rfl, (Option.some.inj h).symm, Or.inl rfl⟩
    · obtain ⟨h1, h2⟩ := z_bif h
      simp only [Bool.or_eq_true, decide_eq_true_eq] at h1
      exact ⟨v, rfl, (Option.some.inj h2).symm, Or.inr h1⟩
  · cases h
theorem mzLret_i (h : mzLret lv st H c s = some q) : ∃ v, st = [.long v] ∧ q = (some (.long v), H) := by
  unfold mzLret at h; split at h
  · rename_i v; exact ⟨v, rfl, (Option.some.inj h).symm⟩
  · cases h
theorem mzAret_i (h : mzAret lv st H c s = some q) : ∃ v, st = [.ref v] ∧ q = (some (.ref v), H) := by
  unfold mzAret at h; split at h
  · rename_i v; exact ⟨v, rfl, (Option.some.inj h).symm⟩
  · cases h
theorem mzVret_i (h : mzVret lv st H c s = some q) : st = [] ∧ q = (none, H) := by
  unfold mzVret at h; split at h
  · exact ⟨rfl, (Option.some.inj h).symm⟩
  · cases h
theorem mzSln_i {x : Nat} (h : mzSln x k lv st H c s = some q) : mzWd st ≤ 8 ∧ k lv (.int (Int32.ofNat (sLn.getD x 0)) :: st) H c s = some q := by
  unfold mzSln at h
  obtain ⟨h1, h2⟩ := z_bif h
  exact ⟨Nat.le_of_ble_eq_true h1, h2⟩
theorem mzIx_j {l : List Int32} {i v : Int32} (h : mzIx l i = some v) : ¬ i < 0 ∧ l[i.toNatClampNeg]? = some v := by
  unfold mzIx at h
  cases e : Nat.blt (mzN i) 2147483648 with
  | false => rw [e] at h; cases h
  | true =>
    rw [e] at h
    obtain ⟨h1, h2⟩ := mzN_eq e
    rw [cond_true, mzNq_eq, h2] at h
    exact ⟨h1, h⟩
theorem mzSc1_i {x a : Nat} (h : mzSc1 x a k lv st H c s = some q) : ∃ i v, mzGet ((zf4 a : Fin 4) : Nat) lv = some (.int i) ∧ ¬ i < 0 ∧ (sBy.getD x [])[i.toNatClampNeg]? = some v ∧ mzWd st ≤ 8 ∧ k lv (.int v :: st) H c s = some q := by
  unfold mzSc1 at h
  split at h
  · rename_i i hi
    split at h
    · rename_i v hv
      obtain ⟨h1, h2⟩ := z_bif h
      exact ⟨i, v, hi, (mzIx_j hv).1, (mzIx_j hv).2, Nat.le_of_ble_eq_true h1, h2⟩
    · cases h
  · cases h
theorem mzSc2_i {x a b : Nat} (h : mzSc2 x a b k lv st H c s = some q) : ∃ i j v, mzGet ((zf4 a : Fin 4) : Nat) lv = some (.int i) ∧ mzGet ((zf4 b : Fin 4) : Nat) lv = some (.int j) ∧ ¬ i + j < 0 ∧ (sBy.getD x [])[(i + j).toNatClampNeg]? = some v ∧ mzWd st ≤ 8 ∧ k lv (.int v :: st) H c s = some q := by
  unfold mzSc2 at h
  split at h
  · rename_i i hi
    split at h
    · rename_i j hj
      split at h
      · rename_i v hv
        obtain ⟨h1, h2⟩ := z_bif h
        exact ⟨i, j, v, hi, hj, (mzIx_j hv).1, (mzIx_j hv).2, Nat.le_of_ble_eq_true h1, h2⟩
      · cases h
    · cases h
  · cases h
end
end
section
/-! STRING CONSTANTS: String.length and String.charAt of the two texts of words, over the machine (by program, wip/str.py) -/
theorem s_gd {w : Cond} (h : zgd w = true) : (w.onTables && w.keeps) = true ∨ ∃ ty, w = .arrayClass ty := by
  unfold zgd at h
  rcases (Bool.or_eq_true _ _).mp h with h | h
  · exact Or.inl h
  · split at h
    · exact Or.inr ⟨_, rfl⟩
    · cases h
def sJw (y : MethodName) (cc : ByteArray) (n : Nat) (rt : Option FieldType) : List Cond := .code y cc n rt :: zBG
theorem sJw_in {Ts : List Cond} (h : ∀ w ∈ zBG, w ∈ Ts) {y : MethodName} {cc : ByteArray} {n : Nat} {rt : Option FieldType} (hc : Cond.code y cc n rt ∈ zBG) : GoodIn Ts (sJw y cc n rt) := by
  intro w hw
  rcases List.mem_cons.mp hw with e | e
  · subst e
    exact ⟨h _ hc, s_gd (List.mem_filter.mp hc).2⟩
  · exact ⟨h _ e, s_gd (List.mem_filter.mp e).2⟩
theorem sJw_own {y : MethodName} {cc : ByteArray} {n : Nat} {rt : Option FieldType} : ∀ w ∈ zBG, w ∈ sJw y cc n rt := fun _ h => List.mem_cons_of_mem _ h
def sRm (f lo : Nat) : Room := { frames := f, cells := 0, slots := 0, locals := lo }
def sNo : Nat → Prop := fun _ => False
/-- a text: its cell a, its bytes' cell t; what the JDK's statics hold -/
def sS (a t n : Nat) (f : Nat → Int32) (A : Nat → Prop) (U : State) (H : Heap) : Prop := va_O "java/lang/String" a A U H ∧ va_OF "java/lang/String" "coder" "B" (.int 0) a A U H ∧ va_OF "java/lang/String" "value" "[B" (.ref t) a A U H ∧ va_T .byte t n (fun j => .int (f j)) A U H ∧ va_Z "java/lang/String" "COMPACT_STRINGS" "Z" (.int 1) A U H ∧ ∃ q : Nat, va_Z "jdk/internal/util/Preconditions" "SIOOBE_FORMATTER" "Ljava/util/function/BiFunction;" (.ref q) A U H
theorem sS.moved {a t n : Nat} {f : Nat → Int32} {A : Nat → Prop} {u U : State} {H : Heap} (hvm : u.vm.Alike U.vm) (h : sS a t n f A u H) : sS a t n f A U H :=
  ⟨h.1.moved hvm, h.2.1.moved hvm, h.2.2.1.moved hvm, h.2.2.2.1.moved hvm, h.2.2.2.2.1.moved hvm, h.2.2.2.2.2.imp (fun _ z => z.moved hvm)⟩
theorem sS.kept {a t n : Nat} {f : Nat → Int32} {A : Nat → Prop} {U : State} {H H1 : Heap} (h : sS a t n f A U H) (hq : ∀ a : Nat, a < H.size → ¬ A a → H1[a]? = H[a]?) : sS a t n f A U H1 :=
  ⟨h.1.kept hq, h.2.1.kept hq, h.2.2.1.kept hq, h.2.2.2.1.kept hq, h.2.2.2.2.1.kept hq, h.2.2.2.2.2.imp (fun _ z => z.kept hq)⟩
theorem sS.narrow {a t n : Nat} {f : Nat → Int32} {A B : Nat → Prop} {U : State} {H : Heap} (h : sS a t n f A U H) (hAB : ∀ q, B q → A q) : sS a t n f B U H :=
  ⟨h.1.narrow hAB, h.2.1.narrow hAB, h.2.2.1.narrow hAB, h.2.2.2.1.narrow hAB, h.2.2.2.2.1.narrow hAB, h.2.2.2.2.2.imp (fun _ z => z.narrow hAB)⟩
theorem sS.no {a t n : Nat} {f : Nat → Int32} {A : Nat → Prop} {U : State} {H : Heap} (h : sS a t n f A U H) : sS a t n f sNo U H := h.narrow (fun _ z => z.elim)
theorem sS.at {a t n : Nat} {f : Nat → Int32} {A : Nat → Prop} {s U : State} {H : Heap} {locs : List Loc} (h : sS a t n f A s s.heap) (hZ : va_S A s.heap H locs) (hU : U.heap = H) (hW : s.WarmedH U.vm) : sS a t n f sNo U U.heap := by
  rw [hU]
  exact ((h.kept hZ.2.1).moved hW.alike).no
def sPc (av : List Value) (a t n : Nat) (f : Nat → Int32) : Array Value → State → Prop := va_Pc av (fun U => sS a t n f sNo U U.heap)
theorem sPc_blind {av : List Value} {a t n : Nat} {f : Nat → Int32} : FrameBlind (sPc av a t n f) := by
  intro x U g mk q
  exact ⟨q.1, q.2.moved (u := U) (U := U.calling g mk x) (Vm.Alike.refl U.vm)⟩
def sQi (v : Int32) : Array Value → State → Outcome → State → Prop := va_Qi (fun r (_ : Unit) => r = v) (fun _ _ => True) sNo
def sQv : Array Value → State → Outcome → State → Prop := va_Qv (fun (_ : Unit) => True) (fun _ _ => True) sNo
theorem sk_coder : Cond.code yJ0_coder_7d493 cJ0_coder_7d493 1 (some .byte) ∈ zBG ∧ Cond.initialized yJ0_coder_7d493.cls ∈ zBG := ⟨zT 442 (by decide +kernel) rfl, zT 14 (by decide +kernel) rfl⟩
abbrev sw_coder : List Cond := sJw yJ0_coder_7d493 cJ0_coder_7d493 1 (some .byte)
theorem sk_len : Cond.code yJ0_length_8abf5 cJ0_length_8abf5 1 (some .int) ∈ zBG ∧ Cond.initialized yJ0_length_8abf5.cls ∈ zBG := ⟨zT 438 (by decide +kernel) rfl, zT 14 (by decide +kernel) rfl⟩
abbrev sw_len : List Cond := sJw yJ0_length_8abf5 cJ0_length_8abf5 1 (some .int)
theorem sk_lat : Cond.code yJ0_isLatin1_aae02 cJ0_isLatin1_aae02 1 (some .boolean) ∈ zBG ∧ Cond.initialized yJ0_isLatin1_aae02.cls ∈ zBG := ⟨zT 452 (by decide +kernel) rfl, zT 14 (by decide +kernel) rfl⟩
abbrev sw_lat : List Cond := sJw yJ0_isLatin1_aae02 cJ0_isLatin1_aae02 1 (some .boolean)
theorem sk_pchk : Cond.code yJ3_checkIndex_8e157 cJ3_checkIndex_8e157 3 (some .int) ∈ zBG ∧ Cond.initialized yJ3_checkIndex_8e157.cls ∈ zBG := ⟨zT 463 (by decide +kernel) rfl, zT 16 (by decide +kernel) rfl⟩
abbrev sw_pchk : List Cond := sJw yJ3_checkIndex_8e157 cJ3_checkIndex_8e157 3 (some .int)
theorem sk_chk : Cond.code yJ0_checkIndex_df160 cJ0_checkIndex_df160 2 none ∈ zBG ∧ Cond.initialized yJ0_checkIndex_df160.cls ∈ zBG := ⟨zT 458 (by decide +kernel) rfl, zT 14 (by decide +kernel) rfl⟩
abbrev sw_chk : List Cond := sJw yJ0_checkIndex_df160 cJ0_checkIndex_df160 2 none
theorem sk_l1 : Cond.code yJ1_charAt_3b067 cJ1_charAt_3b067 2 (some .char) ∈ zBG ∧ Cond.initialized yJ1_charAt_3b067.cls ∈ zBG := ⟨zT 455 (by decide +kernel) rfl, zT 15 (by decide +kernel) rfl⟩
abbrev sw_l1 : List Cond := sJw yJ1_charAt_3b067 cJ1_charAt_3b067 2 (some .char)
theorem sk_chr : Cond.code yJ0_charAt_5068e cJ0_charAt_5068e 2 (some .char) ∈ zBG ∧ Cond.initialized yJ0_charAt_5068e.cls ∈ zBG := ⟨zT 448 (by decide +kernel) rfl, zT 14 (by decide +kernel) rfl⟩
abbrev sw_chr : List Cond := sJw yJ0_charAt_5068e cJ0_charAt_5068e 2 (some .char)
theorem si_coder : Cond.instanceMethod yJ0_coder_7d493 ∈ zBG ∧ Cond.selects "java/lang/String" yJ0_coder_7d493 yJ0_coder_7d493 ∈ zBG := ⟨zT 440 (by decide +kernel) rfl, zT 441 (by decide +kernel) rfl⟩
theorem si_lat : Cond.instanceMethod yJ0_isLatin1_aae02 ∈ zBG ∧ Cond.selects "java/lang/String" yJ0_isLatin1_aae02 yJ0_isLatin1_aae02 ∈ zBG := ⟨zT 450 (by decide +kernel) rfl, zT 451 (by decide +kernel) rfl⟩
theorem si_len : Cond.instanceMethod yJ0_length_8abf5 ∈ zBG ∧ Cond.selects "java/lang/String" yJ0_length_8abf5 yJ0_length_8abf5 ∈ zBG := ⟨zT 436 (by decide +kernel) rfl, zT 437 (by decide +kernel) rfl⟩
theorem si_chr : Cond.instanceMethod yJ0_charAt_5068e ∈ zBG ∧ Cond.selects "java/lang/String" yJ0_charAt_5068e yJ0_charAt_5068e ∈ zBG := ⟨zT 446 (by decide +kernel) rfl, zT 447 (by decide +kernel) rfl⟩
theorem st_pchk : Cond.static yJ3_checkIndex_8e157 ∈ zBG := zT 462 (by decide +kernel) rfl
theorem st_chk : Cond.static yJ0_checkIndex_df160 ∈ zBG := zT 457 (by decide +kernel) rfl
theorem st_l1 : Cond.static yJ1_charAt_3b067 ∈ zBG := zT 454 (by decide +kernel) rfl
theorem sl_len_coder : Cond.methodLink "java/lang/String" 335 yJ0_coder_7d493 ∈ zBG := zT 439 (by decide +kernel) rfl
theorem sl_chr_lat : Cond.methodLink "java/lang/String" 492 yJ0_isLatin1_aae02 ∈ zBG := zT 449 (by decide +kernel) rfl
theorem sl_chr_l1 : Cond.methodLink "java/lang/String" 495 yJ1_charAt_3b067 ∈ zBG := zT 453 (by decide +kernel) rfl
theorem sl_l1_chk : Cond.methodLink "java/lang/StringLatin1" 9 yJ0_checkIndex_df160 ∈ zBG := zT 456 (by decide +kernel) rfl
theorem sl_chk_pchk : Cond.methodLink "java/lang/String" 1059 yJ3_checkIndex_8e157 ∈ zBG := zT 461 (by decide +kernel) rfl
theorem sf_cs : Cond.fieldLink "java/lang/String" 38 "java/lang/String" "COMPACT_STRINGS" "Z" ∈ zBG := zT 443 (by decide +kernel) rfl
theorem sf_cd : Cond.fieldLink "java/lang/String" 15 "java/lang/String" "coder" "B" ∈ zBG := zT 1692 (by decide +kernel) rfl
theorem sf_vl : Cond.fieldLink "java/lang/String" 9 "java/lang/String" "value" "[B" ∈ zBG := zT 1691 (by decide +kernel) rfl
theorem sf_fm : Cond.fieldLink "java/lang/String" 1053 "jdk/internal/util/Preconditions" "SIOOBE_FORMATTER" "Ljava/util/function/BiFunction;" ∈ zBG := zT 459 (by decide +kernel) rfl
theorem sd_coder_0 : decode cJ0_coder_7d493 0 = .ok (.getstatic 38, 3) := by decide +kernel
theorem sd_coder_3 : decode cJ0_coder_7d493 3 = .ok (.ifCond .eq 10, 3) := by decide +kernel
theorem sd_coder_6 : decode cJ0_coder_7d493 6 = .ok (.aload_n 0, 1) := by decide +kernel
theorem sd_coder_7 : decode cJ0_coder_7d493 7 = .ok (.getfield 15, 3) := by decide +kernel
theorem sd_coder_10 : decode cJ0_coder_7d493 10 = .ok (.goto 4, 3) := by decide +kernel
theorem sd_coder_14 : decode cJ0_coder_7d493 14 = .ok (.ireturn, 1) := by decide +kernel
theorem sd_lat_0 : decode cJ0_isLatin1_aae02 0 = .ok (.getstatic 38, 3) := by decide +kernel
theorem sd_lat_3 : decode cJ0_isLatin1_aae02 3 = .ok (.ifCond .eq 14, 3) := by decide +kernel
theorem sd_lat_6 : decode cJ0_isLatin1_aae02 6 = .ok (.aload_n 0, 1) := by decide +kernel
theorem sd_lat_7 : decode cJ0_isLatin1_aae02 7 = .ok (.getfield 15, 3) := by decide +kernel
theorem sd_lat_10 : decode cJ0_isLatin1_aae02 10 = .ok (.ifCond .ne 7, 3) := by decide +kernel
theorem sd_lat_13 : decode cJ0_isLatin1_aae02 13 = .ok (.iconst 1, 1) := by decide +kernel
theorem sd_lat_14 : decode cJ0_isLatin1_aae02 14 = .ok (.goto 4, 3) := by decide +kernel
theorem sd_lat_18 : decode cJ0_isLatin1_aae02 18 = .ok (.ireturn, 1) := by decide +kernel
theorem sd_pchk_0 : decode cJ3_checkIndex_8e157 0 = .ok (.iload_n 0, 1) := by decide +kernel
theorem sd_pchk_1 : decode cJ3_checkIndex_8e157 1 = .ok (.ifCond .lt 8, 3) := by decide +kernel
theorem sd_pchk_4 : decode cJ3_checkIndex_8e157 4 = .ok (.iload_n 0, 1) := by decide +kernel
theorem sd_pchk_5 : decode cJ3_checkIndex_8e157 5 = .ok (.iload_n 1, 1) := by decide +kernel
theorem sd_pchk_6 : decode cJ3_checkIndex_8e157 6 = .ok (.if_icmp .lt 10, 3) := by decide +kernel
theorem sd_pchk_16 : decode cJ3_checkIndex_8e157 16 = .ok (.iload_n 0, 1) := by decide +kernel
theorem sd_pchk_17 : decode cJ3_checkIndex_8e157 17 = .ok (.ireturn, 1) := by decide +kernel
theorem sd_len_0 : decode cJ0_length_8abf5 0 = .ok (.aload_n 0, 1) := by decide +kernel
theorem sd_len_1 : decode cJ0_length_8abf5 1 = .ok (.getfield 9, 3) := by decide +kernel
theorem sd_len_4 : decode cJ0_length_8abf5 4 = .ok (.arraylength, 1) := by decide +kernel
theorem sd_len_5 : decode cJ0_length_8abf5 5 = .ok (.aload_n 0, 1) := by decide +kernel
theorem sd_len_6 : decode cJ0_length_8abf5 6 = .ok (.invokevirtual 335, 3) := by decide +kernel
theorem sd_len_9 : decode cJ0_length_8abf5 9 = .ok (.ishr, 1) := by decide +kernel
theorem sd_len_10 : decode cJ0_length_8abf5 10 = .ok (.ireturn, 1) := by decide +kernel
theorem sd_chk_0 : decode cJ0_checkIndex_df160 0 = .ok (.iload_n 0, 1) := by decide +kernel
theorem sd_chk_1 : decode cJ0_checkIndex_df160 1 = .ok (.iload_n 1, 1) := by decide +kernel
theorem sd_chk_2 : decode cJ0_checkIndex_df160 2 = .ok (.getstatic 1053, 3) := by decide +kernel
theorem sd_chk_5 : decode cJ0_checkIndex_df160 5 = .ok (.invokestatic 1059, 3) := by decide +kernel
theorem sd_chk_8 : decode cJ0_checkIndex_df160 8 = .ok (.pop, 1) := by decide +kernel
theorem sd_chk_9 : decode cJ0_checkIndex_df160 9 = .ok (.return_, 1) := by decide +kernel
theorem sd_l1_0 : decode cJ1_charAt_3b067 0 = .ok (.iload_n 1, 1) := by decide +kernel
theorem sd_l1_1 : decode cJ1_charAt_3b067 1 = .ok (.aload_n 0, 1) := by decide +kernel
theorem sd_l1_2 : decode cJ1_charAt_3b067 2 = .ok (.arraylength, 1) := by decide +kernel
theorem sd_l1_3 : decode cJ1_charAt_3b067 3 = .ok (.invokestatic 9, 3) := by decide +kernel
theorem sd_l1_6 : decode cJ1_charAt_3b067 6 = .ok (.aload_n 0, 1) := by decide +kernel
theorem sd_l1_7 : decode cJ1_charAt_3b067 7 = .ok (.iload_n 1, 1) := by decide +kernel
theorem sd_l1_8 : decode cJ1_charAt_3b067 8 = .ok (.baload, 1) := by decide +kernel
theorem sd_l1_9 : decode cJ1_charAt_3b067 9 = .ok (.sipush 255, 3) := by decide +kernel
theorem sd_l1_12 : decode cJ1_charAt_3b067 12 = .ok (.iand, 1) := by decide +kernel
theorem sd_l1_13 : decode cJ1_charAt_3b067 13 = .ok (.i2c, 1) := by decide +kernel
theorem sd_l1_14 : decode cJ1_charAt_3b067 14 = .ok (.ireturn, 1) := by decide +kernel
theorem sd_chr_0 : decode cJ0_charAt_5068e 0 = .ok (.aload_n 0, 1) := by decide +kernel
theorem sd_chr_1 : decode cJ0_charAt_5068e 1 = .ok (.invokevirtual 492, 3) := by decide +kernel
theorem sd_chr_4 : decode cJ0_charAt_5068e 4 = .ok (.ifCond .eq 12, 3) := by decide +kernel
theorem sd_chr_7 : decode cJ0_charAt_5068e 7 = .ok (.aload_n 0, 1) := by decide +kernel
theorem sd_chr_8 : decode cJ0_charAt_5068e 8 = .ok (.getfield 9, 3) := by decide +kernel
theorem sd_chr_11 : decode cJ0_charAt_5068e 11 = .ok (.iload_n 1, 1) := by decide +kernel
theorem sd_chr_12 : decode cJ0_charAt_5068e 12 = .ok (.invokestatic 495, 3) := by decide +kernel
theorem sd_chr_15 : decode cJ0_charAt_5068e 15 = .ok (.ireturn, 1) := by decide +kernel
theorem c_coder (l : Launch) (a t n : Nat) (f : Nat → Int32) : Met l yJ0_coder_7d493 sw_coder (sRm 0 0) (sPc [.ref a] a t n f) (sQi 0) 0 0 sNo := by
  refine Met.ofW (cc := cJ0_coder_7d493) (maxL := 1) (ret := (some .byte)) (by decide +kernel) rfl ?_
  intro p e s m args below meth c s₁ B hml hv
  obtain ⟨rfl, hS⟩ := hv
  have hx := B.exec
  have hb := B.bytes
  have hr := B.returns
  have hlk := B.notSynchronized
  have hts : ∀ w ∈ sw_coder, w.before ([.ref a] : List Value).toArray s = true := atoms_spec (ws := sw_coder) B.pre
  have hown : s.vm.findClass "java/lang/String" = some m.cls := findClass_of_methodNamed B.named
  have hl := lv_entry ([.ref a] : List Value) (n := 1) (Nat.le_of_ble_eq_true rfl)
  rw [lg_entry_eq]
  refine va_gets hx hb hS.2.2.2.2.1 va_S.rf hown (hts _ (sJw_own _ sf_cs)) (fun _ h => h) sd_coder_0 ?_
  refine lv_if_eq hx hb (tgt := 13) sd_coder_3 (by decide) (fun h => absurd h (by decide)) (fun _ => ?_)
  refine lv_aload_n hx hb sd_coder_6 rfl (lv_at hl 0 rfl) ?_
  refine vk_getf hx hb hS.2.1 va_S.rf hown (hts _ (sJw_own _ sf_cd)) (fun _ h => h) sd_coder_7 ?_
  refine lv_goto hx hb (tgt := 14) sd_coder_10 (by decide) ?_
  exact W.zret hx hb hr rfl (fun t ht _ => ⟨⟨0, (), rfl, rfl, trivial⟩, va_S.rf.F ht⟩) (fun _ h => absurd h List.not_mem_nil) sd_coder_14 hlk
theorem c_lat (l : Launch) (a t n : Nat) (f : Nat → Int32) : Met l yJ0_isLatin1_aae02 sw_lat (sRm 0 0) (sPc [.ref a] a t n f) (sQi 1) 0 0 sNo := by
  refine Met.ofW (cc := cJ0_isLatin1_aae02) (maxL := 1) (ret := (some .boolean)) (by decide +kernel) rfl ?_
  intro p e s m args below meth c s₁ B hml hv
  obtain ⟨rfl, hS⟩ := hv
  have hx := B.exec
  have hb := B.bytes
  have hr := B.returns
  have hlk := B.notSynchronized
  have hts : ∀ w ∈ sw_lat, w.before ([.ref a] : List Value).toArray s = true := atoms_spec (ws := sw_lat) B.pre
  have hown : s.vm.findClass "java/lang/String" = some m.cls := findClass_of_methodNamed B.named
  have hl := lv_entry ([.ref a] : List Value) (n := 1) (Nat.le_of_ble_eq_true rfl)
  rw [lg_entry_eq]
  refine va_gets hx hb hS.2.2.2.2.1 va_S.rf hown (hts _ (sJw_own _ sf_cs)) (fun _ h => h) sd_lat_0 ?_
  refine lv_if_eq hx hb (tgt := 17) sd_lat_3 (by decide) (fun h => absurd h (by decide)) (fun _ => ?_)
  refine lv_aload_n hx hb sd_lat_6 rfl (lv_at hl 0 rfl) ?_
  refine vk_getf hx hb hS.2.1 va_S.rf hown (hts _ (sJw_own _ sf_cd)) (fun _ h => h) sd_lat_7 ?_
  refine lv_if_ne hx hb (tgt := 17) sd_lat_10 (by decide) (fun h => absurd rfl h) (fun _ => ?_)
  refine lv_iconst hx hb (v := 1) sd_lat_13 rfl ?_
  refine lv_goto hx hb (tgt := 18) sd_lat_14 (by decide) ?_
  exact W.zret hx hb hr rfl (fun t ht _ => ⟨⟨1, (), rfl, rfl, trivial⟩, va_S.rf.F ht⟩) (fun _ h => absurd h List.not_mem_nil) sd_lat_18 hlk
theorem c_pchk (l : Launch) (a t n : Nat) (f : Nat → Int32) (i k : Int32) (q : Nat) (h0 : ¬ i < 0) (h1 : i < k) : Met l yJ3_checkIndex_8e157 sw_pchk (sRm 0 0) (sPc [.int i, .int k, .ref q] a t n f) (sQi i) 0 0 sNo := by
  refine Met.ofW (cc := cJ3_checkIndex_8e157) (maxL := 3) (ret := (some .int)) (by decide +kernel) rfl ?_
  intro p e s m args below meth c s₁ B hml hv
  obtain ⟨rfl, hS⟩ := hv
  have hx := B.exec
  have hb := B.bytes
  have hr := B.returns
  have hlk := B.notSynchronized
  have hts : ∀ w ∈ sw_pchk, w.before ([.int i, .int k, .ref q] : List Value).toArray s = true := atoms_spec (ws := sw_pchk) B.pre
  have hown : s.vm.findClass "jdk/internal/util/Preconditions" = some m.cls := findClass_of_methodNamed B.named
  have hl := lv_entry ([.int i, .int k, .ref q] : List Value) (n := 3) (Nat.le_of_ble_eq_true rfl)
  rw [lg_entry_eq]
  refine lv_iload_n hx hb sd_pchk_0 rfl (lv_at hl 0 rfl) ?_
  refine lv_if_lt hx hb (tgt := 9) sd_pchk_1 (by decide) (fun h => absurd h h0) (fun _ => ?_)
  refine lv_iload_n hx hb sd_pchk_4 rfl (lv_at hl 0 rfl) ?_
  refine lv_iload_n hx hb sd_pchk_5 rfl (lv_at hl 1 rfl) ?_
  refine lv_icmp_lt hx hb (tgt := 16) sd_pchk_6 (by decide) (fun _ => ?_) (fun h => absurd h1 h)
  refine lv_iload_n hx hb sd_pchk_16 rfl (lv_at hl 0 rfl) ?_
  exact W.iret hx hb hr (fun t ht _ => ⟨⟨i, (), rfl, rfl, trivial⟩, va_S.rf.F ht⟩) (fun _ h => absurd h List.not_mem_nil) sd_pchk_17 hlk
theorem s_recv {a : Nat} {A : Nat → Prop} {s : State} {H : Heap} {locs : List Loc} (hE : va_O "java/lang/String" a A s s.heap) (hS : va_S A s.heap H locs) : ∃ cell : Cell, H[a]? = some cell ∧ cell.vm.isStatics = false ∧ s.vm.findClass "java/lang/String" = some cell.cls := by
  obtain ⟨cell, h1, h2, h3, -⟩ := hE.kept hS.2.1
  exact ⟨cell, h1, h2, h3⟩
theorem c_len (l : Launch) (a t n : Nat) (f : Nat → Int32) (hn : Int32.ofNat n >>> ((0 : Int32) &&& 31) = Int32.ofNat n) : Met l yJ0_length_8abf5 sw_len (sRm 1 20) (sPc [.ref a] a t n f) (sQi (Int32.ofNat n)) 0 0 sNo := by
  refine Met.ofW (cc := cJ0_length_8abf5) (maxL := 1) (ret := (some .int)) (by decide +kernel) rfl ?_
  intro p e s m args below meth c s₁ B hml hv
  obtain ⟨rfl, hS⟩ := hv
  have hx := B.exec
  have hb := B.bytes
  have hr := B.returns
  have hlk := B.notSynchronized
  have hts : ∀ w ∈ sw_len, w.before ([.ref a] : List Value).toArray s = true := atoms_spec (ws := sw_len) B.pre
  have hown : s.vm.findClass "java/lang/String" = some m.cls := findClass_of_methodNamed B.named
  have hl := lv_entry ([.ref a] : List Value) (n := 1) (Nat.le_of_ble_eq_true rfl)
  rw [lg_entry_eq]
  have hZ : va_S sNo s.heap s.heap [] := va_S.rf
  refine lv_aload_n hx hb sd_len_0 rfl (lv_at hl 0 rfl) ?_
  refine vk_getf hx hb hS.2.2.1 va_S.rf hown (hts _ (sJw_own _ sf_vl)) (fun _ h => h) sd_len_1 ?_
  refine va_tlen hx hb hS.2.2.2.1 va_S.rf rfl sd_len_4 ?_
  refine lv_aload_n hx hb sd_len_5 rfl (lv_at hl 0 rfl) ?_
  refine va_calli (va_runV (As := []) (rest := [.int (Int32.ofNat n)]) (b := a) (C := "java/lang/String") ⟨hx, hb, hml, hown, hts⟩ (c_coder l a t n f) ⟨callB_of 0 hts (sJw_in sJw_own sk_coder.1) rfl rfl rfl (hts _ (sJw_own _ sk_coder.2)) (hts _ (sJw_own _ sl_len_coder)) ⟨by decide +kernel, by decide +kernel, by decide +kernel⟩ ⟨by decide, by decide⟩, (hts _ (sJw_own _ si_coder.1)), (hts _ (sJw_own _ si_coder.2))⟩ ⟨sPc_blind, s_recv hS.1 hZ, (fun U hU hW => ⟨rfl, hS.at hZ hU hW⟩)⟩ rfl rfl hl.1 rfl (lv_room (Nat.le_of_ble_eq_true rfl)) sd_len_6 ⟨by decide, by decide⟩) hZ (fun _ _ z => z.elim) (fun _ z => z.elim) (fun r u t2 H1 locs1 ht _ hp _ _ _ hZ1 => ?_)
  subst hp
  refine lv_ishr hx hb sd_len_9 ?_
  rw [hn]
  exact W.iret hx hb hr (fun t ht _ => ⟨⟨_, (), rfl, rfl, trivial⟩, hZ1.F ht⟩) (fun q h => hZ1.2.2 q h) sd_len_10 hlk
theorem c_chk (l : Launch) (a t n : Nat) (f : Nat → Int32) (i k : Int32) (h0 : ¬ i < 0) (h1 : i < k) : Met l yJ0_checkIndex_df160 sw_chk (sRm 1 22) (sPc [.int i, .int k] a t n f) sQv 0 0 sNo := by
  refine Met.ofW (cc := cJ0_checkIndex_df160) (maxL := 2) (ret := none) (by decide +kernel) rfl ?_
  intro p e s m args below meth c s₁ B hml hv
  obtain ⟨rfl, hS⟩ := hv
  have hx := B.exec
  have hb := B.bytes
  have hr := B.returns
  have hlk := B.notSynchronized
  have hts : ∀ w ∈ sw_chk, w.before ([.int i, .int k] : List Value).toArray s = true := atoms_spec (ws := sw_chk) B.pre
  have hown : s.vm.findClass "java/lang/String" = some m.cls := findClass_of_methodNamed B.named
  have hl := lv_entry ([.int i, .int k] : List Value) (n := 2) (Nat.le_of_ble_eq_true rfl)
  rw [lg_entry_eq]
  have hZ : va_S sNo s.heap s.heap [] := va_S.rf
  obtain ⟨q, hq⟩ := hS.2.2.2.2.2
  refine lv_iload_n hx hb sd_chk_0 rfl (lv_at hl 0 rfl) ?_
  refine lv_iload_n hx hb sd_chk_1 rfl (lv_at hl 1 rfl) ?_
  refine va_gets hx hb hq va_S.rf hown (hts _ (sJw_own _ sf_fm)) (fun _ h => h) sd_chk_2 ?_
  refine va_calli (va_runS (As := [.int i, .int k, .ref q]) (rest := []) ⟨hx, hb, hml, hown, hts⟩ (c_pchk l a t n f i k q h0 h1) ⟨callB_of 3 hts (sJw_in sJw_own sk_pchk.1) rfl rfl rfl (hts _ (sJw_own _ sk_pchk.2)) (hts _ (sJw_own _ sl_chk_pchk)) ⟨by decide +kernel, by decide +kernel, by decide +kernel⟩ ⟨by decide, by decide⟩, (hts _ (sJw_own _ st_pchk))⟩ ⟨sPc_blind, (fun U hU hW => ⟨rfl, hS.at hZ hU hW⟩)⟩ rfl rfl hl.1 rfl (lv_room (Nat.le_of_ble_eq_true rfl)) sd_chk_5 ⟨by decide, by decide⟩) hZ (fun _ _ z => z.elim) (fun _ z => z.elim) (fun r u t2 H1 locs1 ht _ hp _ _ _ hZ1 => ?_)
  refine lv_pop hx hb sd_chk_8 rfl ?_
  exact W.vret hx hb hr (fun t ht _ => ⟨⟨(), rfl, trivial, trivial⟩, hZ1.F ht⟩) (fun q h => hZ1.2.2 q h) sd_chk_9 hlk
theorem c_l1 (l : Launch) (a t n : Nat) (f : Nat → Int32) (i : Int32) (v : Int32) (h0 : ¬ i < 0) (h1 : i < Int32.ofNat n) (hi : vp_in i n) (hv : ((f i.toNatClampNeg &&& 255).toUInt32 % 65536).toInt32 = v) (hc : narrow .char (.int v) = .int v) : Met l yJ1_charAt_3b067 sw_l1 (sRm 2 43) (sPc [.ref t, .int i] a t n f) (sQi v) 0 0 sNo := by
  refine Met.ofW (cc := cJ1_charAt_3b067) (maxL := 2) (ret := (some .char)) (by decide +kernel) rfl ?_
  intro p e s m args below meth c s₁ B hml hv
  obtain ⟨rfl, hS⟩ := hv
  have hx := B.exec
  have hb := B.bytes
  have hr := B.returns
  have hlk := B.notSynchronized
  have hts : ∀ w ∈ sw_l1, w.before ([.ref t, .int i] : List Value).toArray s = true := atoms_spec (ws := sw_l1) B.pre
  have hown : s.vm.findClass "java/lang/StringLatin1" = some m.cls := findClass_of_methodNamed B.named
  have hl := lv_entry ([.ref t, .int i] : List Value) (n := 2) (Nat.le_of_ble_eq_true rfl)
  rw [lg_entry_eq]
  have hZ : va_S sNo s.heap s.heap [] := va_S.rf
  refine lv_iload_n hx hb sd_l1_0 rfl (lv_at hl 1 rfl) ?_
  refine lv_aload_n hx hb sd_l1_1 rfl (lv_at hl 0 rfl) ?_
  refine va_tlen hx hb hS.2.2.2.1 va_S.rf rfl sd_l1_2 ?_
  refine va_callv (va_runS (As := [.int i, .int (Int32.ofNat n)]) (rest := []) ⟨hx, hb, hml, hown, hts⟩ (c_chk l a t n f i (Int32.ofNat n) h0 h1) ⟨callB_of 2 hts (sJw_in sJw_own sk_chk.1) rfl rfl rfl (hts _ (sJw_own _ sk_chk.2)) (hts _ (sJw_own _ sl_l1_chk)) ⟨by decide +kernel, by decide +kernel, by decide +kernel⟩ ⟨by decide, by decide⟩, (hts _ (sJw_own _ st_chk))⟩ ⟨sPc_blind, (fun U hU hW => ⟨rfl, hS.at hZ hU hW⟩)⟩ rfl rfl hl.1 rfl (lv_room (Nat.le_of_ble_eq_true rfl)) sd_l1_3 ⟨by decide, by decide⟩) hZ (fun _ _ z => z.elim) (fun _ z => z.elim) (fun u t2 H1 locs1 ht _ hp _ _ _ hZ1 => ?_)
  refine lv_aload_n hx hb sd_l1_6 rfl (lv_at hl 0 rfl) ?_
  refine lv_iload_n hx hb sd_l1_7 rfl (lv_at hl 1 rfl) ?_
  refine va_tb hx hb hS.2.2.2.1 hZ1 hi rfl sd_l1_8 ?_
  refine lv_sipush hx hb (v := 255) sd_l1_9 (by decide +kernel) ?_
  refine lv_iand hx hb sd_l1_12 ?_
  refine lv_i2c hx hb sd_l1_13 hv ?_
  exact W.zret hx hb hr hc (fun t ht _ => ⟨⟨_, (), rfl, rfl, trivial⟩, hZ1.F ht⟩) (fun q h => hZ1.2.2 q h) sd_l1_14 hlk
theorem c_chr (l : Launch) (a t n : Nat) (f : Nat → Int32) (i : Int32) (v : Int32) (h0 : ¬ i < 0) (h1 : i < Int32.ofNat n) (hi : vp_in i n) (hv : ((f i.toNatClampNeg &&& 255).toUInt32 % 65536).toInt32 = v) (hc : narrow .char (.int v) = .int v) : Met l yJ0_charAt_5068e sw_chr (sRm 3 64) (sPc [.ref a, .int i] a t n f) (sQi v) 0 0 sNo := by
  refine Met.ofW (cc := cJ0_charAt_5068e) (maxL := 2) (ret := (some .char)) (by decide +kernel) rfl ?_
  intro p e s m args below meth c s₁ B hml hv
  obtain ⟨rfl, hS⟩ := hv
  have hx := B.exec
  have hb := B.bytes
  have hr := B.returns
  have hlk := B.notSynchronized
  have hts : ∀ w ∈ sw_chr, w.before ([.ref a, .int i] : List Value).toArray s = true := atoms_spec (ws := sw_chr) B.pre
  have hown : s.vm.findClass "java/lang/String" = some m.cls := findClass_of_methodNamed B.named
  have hl := lv_entry ([.ref a, .int i] : List Value) (n := 2) (Nat.le_of_ble_eq_true rfl)
  rw [lg_entry_eq]
  have hZ : va_S sNo s.heap s.heap [] := va_S.rf
  refine lv_aload_n hx hb sd_chr_0 rfl (lv_at hl 0 rfl) ?_
  refine va_calli (va_runV (As := []) (rest := []) (b := a) (C := "java/lang/String") ⟨hx, hb, hml, hown, hts⟩ (c_lat l a t n f) ⟨callB_of 0 hts (sJw_in sJw_own sk_lat.1) rfl rfl rfl (hts _ (sJw_own _ sk_lat.2)) (hts _ (sJw_own _ sl_chr_lat)) ⟨by decide +kernel, by decide +kernel, by decide +kernel⟩ ⟨by decide, by decide⟩, (hts _ (sJw_own _ si_lat.1)), (hts _ (sJw_own _ si_lat.2))⟩ ⟨sPc_blind, s_recv hS.1 hZ, (fun U hU hW => ⟨rfl, hS.at hZ hU hW⟩)⟩ rfl rfl hl.1 rfl (lv_room (Nat.le_of_ble_eq_true rfl)) sd_chr_1 ⟨by decide, by decide⟩) hZ (fun _ _ z => z.elim) (fun _ z => z.elim) (fun r u t2 H1 locs1 ht _ hp _ _ _ hZ => ?_)
  subst hp
  refine lv_if_eq hx hb (tgt := 16) sd_chr_4 (by decide) (fun h => absurd h (by decide)) (fun _ => ?_)
  refine lv_aload_n hx hb sd_chr_7 rfl (lv_at hl 0 rfl) ?_
  refine vk_getf hx hb hS.2.2.1 hZ hown (hts _ (sJw_own _ sf_vl)) (fun _ h => h) sd_chr_8 ?_
  refine lv_iload_n hx hb sd_chr_11 rfl (lv_at hl 1 rfl) ?_
  refine va_calli (va_runS (As := [.ref t, .int i]) (rest := []) ⟨hx, hb, hml, hown, hts⟩ (c_l1 l a t n f i v h0 h1 hi hv hc) ⟨callB_of 2 hts (sJw_in sJw_own sk_l1.1) rfl rfl rfl (hts _ (sJw_own _ sk_l1.2)) (hts _ (sJw_own _ sl_chr_l1)) ⟨by decide +kernel, by decide +kernel, by decide +kernel⟩ ⟨by decide, by decide⟩, (hts _ (sJw_own _ st_l1))⟩ ⟨sPc_blind, (fun U hU hW => ⟨rfl, hS.at hZ hU hW⟩)⟩ rfl rfl hl.1 rfl (lv_room (Nat.le_of_ble_eq_true rfl)) sd_chr_12 ⟨by decide, by decide⟩) hZ (fun _ _ z => z.elim) (fun _ z => z.elim) (fun r u t2 H1 locs1 ht _ hp _ _ _ hZ1 => ?_)
  subst hp
  exact W.zret hx hb hr hc (fun t ht _ => ⟨⟨_, (), rfl, rfl, trivial⟩, hZ1.F ht⟩) (fun q h => hZ1.2.2 q h) sd_chr_15 hlk
/-- the two texts -/
def zSt (adK adV : Nat → Nat) (A : Nat → Prop) (U : State) : Prop := (∀ x, x < 2 → sS (adK x) (adV x) (sLn.getD x 0) (fun j => (sBy.getD x []).getD j 0) A U U.heap) ∧ ∀ r ∈ zLt, ∃ tx, vk_R (zcn r.1) r.2.1 tx (adK r.2.2.1) U
def zStr (A : Nat → Prop) (U : State) : Prop := ∃ adK adV : Nat → Nat, zSt adK adV A U
theorem zStr.same {A : Nat → Prop} {s U : State} (hh : U.heap = s.heap) (hv : U.vm = s.vm) (h : zStr A s) : zStr A U := by
  obtain ⟨k, v, h1, h2⟩ := h
  refine ⟨k, v, fun x hx => ?_, fun r hr => (h2 r hr).imp (fun _ z => z.same hv)⟩
  rw [hh]
  exact (h1 x hx).moved (by rw [hv]; exact Vm.Alike.refl _)
theorem zStr.go {A0 A1 : Nat → Prop} {s U : State} {H : Heap} {locs : List Loc} (h : zStr A0 s) (hS : va_S A0 s.heap H locs) (hA : ∀ q, A1 q → A0 q) (hU : U.heap = H) (hW : s.WarmedH U.vm) : zStr A1 U := by
  obtain ⟨k, v, h1, h2⟩ := h
  refine ⟨k, v, fun x hx => ?_, fun r hr => (h2 r hr).imp (fun _ z => z.warm hW)⟩
  rw [hU]
  exact (((h1 x hx).kept hS.2.1).moved hW.alike).narrow hA
theorem s_chars : ∀ x, x < 2 → (sLn.getD x 0 = (sBy.getD x []).length ∧ Int32.ofNat (sLn.getD x 0) >>> ((0 : Int32) &&& 31) = Int32.ofNat (sLn.getD x 0) ∧ sLn.getD x 0 < 1000 ∧ ∀ b ∈ sBy.getD x [], (((b &&& 255).toUInt32 % 65536).toInt32 = b ∧ narrow .char (.int b) = .int b)) := by decide +kernel
theorem s_in {i : Int32} {n : Nat} (h0 : ¬ i < 0) (h1 : i.toNatClampNeg < n) (hn : n < 1000) : i < Int32.ofNat n ∧ vp_in i n := by
  have e : i.toNatClampNeg = i.toInt.toNat := rfl
  have h2 : (Int32.ofNat n).toInt = n := Int32.toInt_ofNat_of_lt (by omega)
  have h3 : ¬ i.toInt < 0 := fun h => h0 (by rw [Int32.lt_iff_toInt_lt, Int32.toInt_zero]; exact h)
  exact ⟨by rw [Int32.lt_iff_toInt_lt, h2]; omega, fun h => h.elim h0 (fun h => by omega)⟩
end
section
/-! THE MINI MACHINE'S STATE AGAINST THE MACHINE'S: values by the cells' addresses -/
def zad (ws : va_W) : List Nat := ws.map Prod.fst
theorem zad_at {ws : va_W} {k a : Nat} (h : (zad ws)[k]? = some a) : ∃ e, ws[k]? = some (a, e) := by
  unfold zad at h
  rw [List.getElem?_map] at h
  cases e : ws[k]? with
  | none => rw [e] at h; cases h
  | some q =>
    rw [e] at h
    obtain ⟨b, x⟩ := q
    simp only [Option.map_some, Option.some.injEq] at h
    exact ⟨x, by rw [h]⟩
theorem zad_of {ws : va_W} {k a : Nat} {e : va_E} (h : ws[k]? = some (a, e)) : (zad ws)[k]? = some a := by
  unfold zad
  rw [List.getElem?_map, h]
  rfl
theorem zad_set {ws : va_W} {k a : Nat} {e e' : va_E} (h : ws[k]? = some (a, e)) : zad (ws.set k (a, e')) = zad ws := by
  unfold zad
  apply List.ext_getElem?
  intro i
  simp only [List.getElem?_map, List.getElem?_set]
  by_cases hi : k = i
  · subst hi
    obtain ⟨hl, he⟩ := List.getElem?_eq_some_iff.mp h
    simp [hl, he]
  · simp [hi]
def zrV (ad : List Nat) (v w : Value) : Prop := match v with
  | .ref k => ∃ a, ad[k]? = some a ∧ w = .ref a
  | v => w = v
def zrL (ad : List Nat) : List Value → List Value → Prop
  | [], w => w = []
  | v :: vs, w => ∃ x xs, w = x :: xs ∧ zrV ad v x ∧ zrL ad vs xs
def zrM (ad : List Nat) : mzL → mzL → Prop
  | [], w => w = []
  | q :: vs, w => ∃ x xs, w = (q.1, x) :: xs ∧ zrV ad q.2 x ∧ zrM ad vs xs
def zrO (ad : List Nat) (v w : Option Value) : Prop := match v with
  | none => w = none
  | some v => ∃ x, w = some x ∧ zrV ad v x
def zrC (ad : List Nat) (tys : List (ClassId × FieldType)) (c : mzC) (e : va_E) : Prop := match c with
  | .inl (d, l) => ∃ cA : ClassId, (cA, mzTy d) ∈ tys ∧ e = .inl (cA, l.length, .inl (fun k => l.getD k 0))
  | .inr (ci, fs) => ∃ fs', e = .inr (ci, fs') ∧ zrL ad fs fs'
def zrH (tys : List (ClassId × FieldType)) (H : mzH) (ws : va_W) : Prop := ws.length = H.length ∧ ∀ (k : Nat) (c : mzC), H[k]? = some c → ∃ (a : Nat) (e : va_E), ws[k]? = some (a, e) ∧ zrC (zad ws) tys c e
theorem zrV_cat {ad : List Nat} {v w : Value} (h : zrV ad v w) : w.category = v.category := by
  cases v with
  | ref k =>
    obtain ⟨a, -, rfl⟩ := h
    rfl
  | _ =>
    have e : w = _ := h
    rw [e]
theorem zpre_at {ad ad' : List Nat} (h : ad <+: ad') {k a : Nat} (hk : ad[k]? = some a) : ad'[k]? = some a := by
  obtain ⟨t, rfl⟩ := h
  rw [List.getElem?_append_left (List.getElem?_eq_some_iff.mp hk).1]
  exact hk
theorem zrV_mono {ad ad' : List Nat} (h : ad <+: ad') {v w : Value} (hv : zrV ad v w) : zrV ad' v w := by
  cases v with
  | ref k =>
    obtain ⟨a, h1, h2⟩ := hv
    exact ⟨a, zpre_at h h1, h2⟩
  | _ => exact hv
theorem zrL_mono {ad ad' : List Nat} (h : ad <+: ad') : ∀ {v w : List Value}, zrL ad v w → zrL ad' v w
  | [], _, hv => hv
  | _ :: _, _, ⟨x, xs, e, h1, h2⟩ => ⟨x, xs, e, zrV_mono h h1, zrL_mono h h2⟩
theorem zrM_mono {ad ad' : List Nat} (h : ad <+: ad') : ∀ {v w : mzL}, zrM ad v w → zrM ad' v w
  | [], _, hv => hv
  | _ :: _, _, ⟨x, xs, e, h1, h2⟩ => ⟨x, xs, e, zrV_mono h h1, zrM_mono h h2⟩
theorem zrC_mono {ad ad' : List Nat} {tys tys' : List (ClassId × FieldType)} (h : ad <+: ad') (ht : ∀ q ∈ tys, q ∈ tys') {c : mzC} {e : va_E} (hc : zrC ad tys c e) : zrC ad' tys' c e := by
  cases c with
  | inl x =>
    obtain ⟨cA, h1, h2⟩ := hc
    exact ⟨cA, ht _ h1, h2⟩
  | inr x =>
    obtain ⟨fs, h1, h2⟩ := hc
    exact ⟨fs, h1, zrL_mono h h2⟩
theorem zrL_len {ad : List Nat} : ∀ {v w : List Value}, zrL ad v w → w.length = v.length
  | [], _, h => by rw [show _ = [] from h]
  | _ :: _, _, ⟨x, xs, e, _, h2⟩ => by rw [e]; simp [zrL_len h2]
theorem zrL_at {ad : List Nat} : ∀ {v w : List Value} {k : Nat} {a : Value}, zrL ad v w → v[k]? = some a → ∃ b, w[k]? = some b ∧ zrV ad a b
  | [], _, k, a, _, hk => by simp at hk
  | v :: vs, _, 0, a, ⟨x, xs, e, h1, h2⟩, hk => by
    simp only [List.getElem?_cons_zero, Option.some.injEq] at hk
    subst hk; subst e
    exact ⟨x, rfl, h1⟩
  | v :: vs, _, k + 1, a, ⟨x, xs, e, h1, h2⟩, hk => by
    simp only [List.getElem?_cons_succ] at hk
    subst e
    simp only [List.getElem?_cons_succ]
    exact zrL_at h2 hk
theorem zrL_set {ad : List Nat} : ∀ {v w : List Value} {k : Nat} {a b : Value}, zrL ad v w → zrV ad a b → zrL ad (v.set k a) (w.set k b)
  | [], _, k, a, b, h, _ => by rw [show _ = [] from h]; simp [zrL]
  | v :: vs, _, 0, a, b, ⟨x, xs, e, h1, h2⟩, hk => by
    subst e
    exact ⟨b, xs, rfl, hk, h2⟩
  | v :: vs, _, k + 1, a, b, ⟨x, xs, e, h1, h2⟩, hk => by
    subst e
    exact ⟨x, xs.set k b, rfl, h1, zrL_set h2 hk⟩
theorem zrL_take {ad : List Nat} : ∀ {v w : List Value} (n : Nat), zrL ad v w → zrL ad (v.take n) (w.take n)
  | _, _, 0, _ => by simp [zrL]
  | [], _, n + 1, h => by rw [show _ = [] from h]; simp [zrL]
  | v :: vs, _, n + 1, ⟨x, xs, e, h1, h2⟩ => by
    subst e
    exact ⟨x, xs.take n, rfl, h1, zrL_take n h2⟩
theorem zrL_drop {ad : List Nat} : ∀ {v w : List Value} (n : Nat), zrL ad v w → zrL ad (v.drop n) (w.drop n)
  | _, _, 0, h => by simpa using h
  | [], _, n + 1, h => by rw [show _ = [] from h]; simp [zrL]
  | v :: vs, _, n + 1, ⟨x, xs, e, h1, h2⟩ => by
    subst e
    simpa using zrL_drop n h2
theorem zrL_app {ad : List Nat} : ∀ {v w v2 w2 : List Value}, zrL ad v w → zrL ad v2 w2 → zrL ad (v ++ v2) (w ++ w2)
  | [], _, _, _, h, h2 => by rw [show _ = [] from h]; simpa using h2
  | v :: vs, _, _, _, ⟨x, xs, e, h1, h2⟩, h3 => by
    subst e
    exact ⟨x, xs ++ _, rfl, h1, zrL_app h2 h3⟩
theorem zrL_rev {ad : List Nat} : ∀ {v w : List Value}, zrL ad v w → zrL ad v.reverse w.reverse
  | [], _, h => by rw [show _ = [] from h]; simp [zrL]
  | v :: vs, _, ⟨x, xs, e, h1, h2⟩ => by
    subst e
    rw [List.reverse_cons, List.reverse_cons]
    exact zrL_app (zrL_rev h2) ⟨x, [], rfl, h1, rfl⟩
theorem zrL_cats {ad : List Nat} : ∀ {v w : List Value}, zrL ad v w → (w.map fun v => v.category).sum = mzWd v
  | [], _, h => by rw [show _ = [] from h]; rfl
  | v :: vs, _, ⟨x, xs, e, h1, h2⟩ => by
    subst e
    have := zrL_cats h2
    simp only [List.map_cons, List.sum_cons, mzWd] at this ⊢
    rw [this, zrV_cat h1]
theorem zrM_mem {ad : List Nat} {i : Nat} {v : Value} : ∀ {l l' : mzL}, zrM ad l l' → (i, v) ∈ l → ∃ w, zrV ad v w ∧ (i, w) ∈ l'
  | [], _, _, h => by cases h
  | q :: l, _, ⟨x, xs, e, h1, h2⟩, h => by
    subst e
    rcases List.mem_cons.mp h with h | h
    · subst h
      exact ⟨x, h1, List.mem_cons_self⟩
    · obtain ⟨w, a, b⟩ := zrM_mem h2 h
      exact ⟨w, a, List.mem_cons_of_mem _ b⟩
theorem zrM_filter {ad : List Nat} (p : Nat × Value → Bool) (hp : ∀ (k : Nat) (v w : Value), w.category = v.category → p (k, v) = p (k, w)) : ∀ {l l' : mzL}, zrM ad l l' → zrM ad (l.filter p) (l'.filter p)
  | [], _, h => by rw [show _ = [] from h]; simp [zrM]
  | q :: l, _, ⟨x, xs, e, h1, h2⟩ => by
    subst e
    have e1 : p q = p (q.1, x) := hp q.1 q.2 x (zrV_cat h1)
    have h3 := zrM_filter p hp h2
    simp only [List.filter_cons, ← e1]
    split
    · exact ⟨x, _, rfl, h1, h3⟩
    · exact h3
theorem zrM_args {ad : List Nat} : ∀ {vs ws : List Value} (i : Nat), zrL ad vs ws → zrM ad (lv_args i vs) (lv_args i ws)
  | [], _, i, h => by rw [show _ = [] from h]; simp [lv_args, zrM]
  | v :: vs, _, i, ⟨x, xs, e, h1, h2⟩ => by
    subst e
    simp only [lv_args, zrV_cat h1]
    exact ⟨x, _, rfl, h1, zrM_args _ h2⟩
theorem zsl_len (vs : List Value) : (lg_sl vs).length = (vs.map fun v => v.category).sum := by
  induction vs with
  | nil => rfl
  | cons v vs ih =>
    have e : lg_sl (v :: vs) = (if v.category = 2 then [.val v, .second] else [.val v]) ++ lg_sl vs := rfl
    rw [e, List.length_append, ih, List.map_cons, List.sum_cons]
    cases v <;> rfl
theorem zrH_get {tys : List (ClassId × FieldType)} {H : mzH} {ws : va_W} (h : zrH tys H ws) {k a : Nat} {c : mzC} (hk : H[k]? = some c) (ha : (zad ws)[k]? = some a) : ∃ e, ws[k]? = some (a, e) ∧ zrC (zad ws) tys c e := by
  obtain ⟨b, e, h1, h2⟩ := h.2 k c hk
  have h3 := zad_of h1
  rw [ha] at h3
  cases h3
  exact ⟨e, h1, h2⟩
theorem zrH_set {tys : List (ClassId × FieldType)} {H : mzH} {ws : va_W} (h : zrH tys H ws) {k a : Nat} {e0 e : va_E} {c : mzC} (hk : ws[k]? = some (a, e0)) (hc : zrC (zad ws) tys c e) : zrH tys (H.set k c) (ws.set k (a, e)) := by
  refine ⟨by simp [h.1], fun i d hi => ?_⟩
  rw [zad_set hk]
  have hl := (List.getElem?_eq_some_iff.mp hk).1
  by_cases hik : k = i
  · subst hik
    rw [List.getElem?_set_self (by rw [← h.1]; exact hl)] at hi
    cases hi
    exact ⟨a, e, by rw [List.getElem?_set_self hl], hc⟩
  · rw [List.getElem?_set_ne hik] at hi
    obtain ⟨b, e2, h1, h2⟩ := h.2 i d hi
    exact ⟨b, e2, by rw [List.getElem?_set_ne hik]; exact h1, h2⟩
theorem zad_push (ws : va_W) (q : Nat) (e : va_E) : zad (ws ++ [(q, e)]) = zad ws ++ [q] := by simp [zad]
theorem zrH_push {tys tys' : List (ClassId × FieldType)} {H : mzH} {ws : va_W} (h : zrH tys H ws) (ht : ∀ q ∈ tys, q ∈ tys') {q : Nat} {e : va_E} {c : mzC} (hc : zrC (zad ws ++ [q]) tys' c e) : zrH tys' (H ++ [c]) (ws ++ [(q, e)]) := by
  refine ⟨by simp [h.1], fun i d hi => ?_⟩
  rw [zad_push]
  by_cases hl : i < H.length
  · rw [List.getElem?_append_left hl] at hi
    obtain ⟨b, e2, h1, h2⟩ := h.2 i d hi
    exact ⟨b, e2, by rw [List.getElem?_append_left (by rw [h.1]; exact hl)]; exact h1, zrC_mono (List.prefix_append _ _) ht h2⟩
  · rw [List.getElem?_append_right (by omega)] at hi
    have hz : i - H.length < 1 := (List.getElem?_eq_some_iff.mp hi).1
    have hi0 : i = H.length := by omega
    subst hi0
    rw [Nat.sub_self] at hi
    cases hi
    exact ⟨q, e, by rw [← h.1, List.getElem?_append_right (Nat.le_refl _), Nat.sub_self]; rfl, hc⟩
theorem zad_len {tys : List (ClassId × FieldType)} {H : mzH} {ws : va_W} (h : zrH tys H ws) (q : Nat) (e : va_E) : (zad (ws ++ [(q, e)]))[H.length]? = some q := by
  rw [zad_push, ← h.1, List.getElem?_append_right (by simp [zad])]
  simp [zad]
/-- lists and the kit's functions -/
theorem z_upd {l : List Int32} {i : Nat} (x : Int32) (h : i < l.length) : (fun k => (l.set i x).getD k 0) = upd (fun k => l.getD k 0) i x := by
  funext k
  simp only [upd, List.getD_eq_getElem?_getD, List.getElem?_set]
  by_cases hk : k = i
  · subst hk
    simp [h]
  · simp [hk, Ne.symm hk]
theorem z_cpy {f g : List Int32} {sp dp n : Nat} (h1 : sp + n ≤ f.length) (h2 : dp + n ≤ g.length) : (fun k => (mzCpy f g sp dp n).getD k 0) = va_cpy (fun k => f.getD k 0) (fun k => g.getD k 0) sp dp n := by
  funext k
  simp only [va_cpy, mzCpy, List.getD_eq_getElem?_getD]
  have e1 : (g.take dp).length = dp := by rw [List.length_take]; omega
  have e2 : ((f.drop sp).take n).length = n := by rw [List.length_take, List.length_drop]; omega
  by_cases c1 : k < dp
  · rw [List.getElem?_append_left (by rw [e1]; exact c1), List.getElem?_take_of_lt c1, if_neg (by omega)]
  · rw [List.getElem?_append_right (by omega), e1]
    by_cases c2 : k < dp + n
    · rw [List.getElem?_append_left (by omega), List.getElem?_take_of_lt (by omega), List.getElem?_drop, if_pos ⟨by omega, c2⟩]
    · rw [List.getElem?_append_right (by omega), e2, List.getElem?_drop, if_neg (by omega)]
      congr 2
      omega
theorem z_cpyl {f g : List Int32} {sp dp n : Nat} (h1 : sp + n ≤ f.length) (h2 : dp + n ≤ g.length) : (mzCpy f g sp dp n).length = g.length := by
  simp only [mzCpy, List.length_append, List.length_take, List.length_drop]
  omega
theorem zrM_st1 {ad : List Nat} {i : Nat} {v w : Value} {l l' : mzL} (h : zrM ad l l') (hv : zrV ad v w) : zrM ad (mzSt1 i v l) ((i, w) :: l'.filter (fun q => !(q.1 == i) && !(q.1 + 1 == i && q.2.category == 2))) := by
  unfold mzSt1
  rw [mzFl1_eq]
  exact ⟨w, _, rfl, hv, zrM_filter _ (fun a v w h => by simp only [h]) h⟩
theorem zrM_st2 {ad : List Nat} {i : Nat} {v w : Value} {l l' : mzL} (h : zrM ad l l') (hv : zrV ad v w) : zrM ad (mzSt2 i v l) ((i, w) :: l'.filter (fun q => !(q.1 == i) && (!(q.1 == i + 1) && !(q.1 + 1 == i && q.2.category == 2)))) := by
  unfold mzSt2
  rw [mzFl2_eq]
  exact ⟨w, _, rfl, hv, zrM_filter _ (fun a v w h => by simp only [h]) h⟩
end
section
/-! A RUN OF THE MINI MACHINE THAT ENDS IS A WALK OF THE MACHINE -/
def zws (j : Nat) : List Cond := .code (zM j).1 (zM j).2.1 (zM j).2.2.1 (zM j).2.2.2.1 :: zBG
theorem zgd_ok {w : Cond} (h : zgd w = true) : (w.onTables && w.keeps) = true ∨ ∃ ty, w = .arrayClass ty := by
  unfold zgd at h
  rcases (Bool.or_eq_true _ _).mp h with h | h
  · exact Or.inl h
  · split at h
    · exact Or.inr ⟨_, rfl⟩
    · cases h
theorem zBG_in {Ts : List Cond} (h : ∀ w ∈ zBG, w ∈ Ts) : GoodIn Ts zBG := fun w hw => ⟨h w hw, zgd_ok (List.mem_filter.mp hw).2⟩
theorem zws_in {Ts : List Cond} (h : ∀ w ∈ zBG, w ∈ Ts) {j : Nat} (hj : j < 255) : GoodIn Ts (zws j) := by
  intro w hw
  rcases List.mem_cons.mp hw with e | e
  · subst e
    exact zBG_in h _ (zMf_ok j hj).2.2.2.2.1
  · exact zBG_in h _ e
theorem zws_own (j : Nat) : ∀ w ∈ zBG, w ∈ zws j := fun w h => List.mem_cons_of_mem _ h
def zRm (j : Nat) : Room := { frames := zfr j, cells := zmc j, slots := zms j, locals := zlo j }
def zNest (s : State) : Prop := ∀ w ∈ zNS, va_Nw w s
theorem zNest.warm {s U : State} (hW : s.WarmedH U.vm) (h : zNest s) : zNest U := by
  intro w hw
  have h1 := h w hw
  have h2 := (List.mem_filter.mp hw).2
  unfold znd at h2
  split at h2
  · exact va_Nw.warmF hW h1
  · exact va_Nw.warmM hW h1
  · cases h2
theorem zNest.same {s U : State} (hv : s.vm = U.vm) (h : zNest s) : zNest U := by
  intro w hw
  have h1 := h w hw
  have h2 := (List.mem_filter.mp hw).2
  unfold znd at h2
  split at h2
  · exact va_Nw.same rfl hv h1
  · exact va_Nw.same rfl hv h1
  · cases h2
def zPre (D : va_G) (ws0 : va_W) (tys0 : List (ClassId × FieldType)) (sz : Nat) (av : List Value) : Array Value → State → Prop :=
  va_Pc av (fun U => U.heap.size = sz ∧ va_P D vwCl ws0 U.heap ∧ va_K D vwCl tys0 U ∧ va_D (fun _ => True) ws0 ∧ zNest U ∧ zStr (va_A ws0 sz) U)
def zQ (D : va_G) (ws0 : va_W) (sz : Nat) (res : Option Value × mzH) : Array Value → State → Outcome → State → Prop := fun _ st oc t =>
  (∃ (r : Option Value) (ws : va_W) (tys : List (ClassId × FieldType)), oc = .returned r ∧ zrO (zad ws) res.1 r ∧ zrH tys res.2 ws ∧ zad ws0 <+: zad ws ∧ va_P D vwCl ws t.heap ∧ va_K D vwCl tys t ∧ va_D (va_A ws0 sz) ws) ∧ va_F (va_A ws0 sz) st t
/-- a method's contract at one run of the mini machine -/
def zMet (l : Launch) (D : va_G) (j : Nat) (as : List Value) (Hm : mzH) (res : Option Value × mzH) : Prop :=
  ∀ (ws0 : va_W) (tys0 : List (ClassId × FieldType)) (sz : Nat) (av : List Value), zrL (zad ws0) as av → zrH tys0 Hm ws0 → Met l (zM j).1 (zws j) (zRm j) (zPre D ws0 tys0 sz av) (zQ D ws0 sz res) (zmc j) (zms j) (va_A ws0 sz)
theorem zPre_blind {D : va_G} {ws0 : va_W} {tys0 : List (ClassId × FieldType)} {sz : Nat} {av : List Value} : FrameBlind (zPre D ws0 tys0 sz av) := by
  intro a U g mk q
  obtain ⟨q0, q1, qP, qK, qD, qN, qZ⟩ := q
  exact ⟨q0, q1, qP, va_K.moved (u := U) (U := U.calling g mk a) (Vm.Alike.refl U.vm) qK, qD, zNest.same (s := U) (U := U.calling g mk a) rfl qN, qZ.same (U := U.calling g mk a) rfl rfl⟩
/-- what holds in a method's frame -/
def zCtx (p : Program) (s : State) (m : MethodId) (args : Array Value) (meth : Method) (c : Code) (j : Nat) : Prop :=
  p.tables.exec = Jvm.exec ∧ c.code = (zM j).2.1 ∧ meth.sig.returnType = (zM j).2.2.2.1 ∧ meth.locks = false ∧ c.maxLocals = (zM j).2.2.1 ∧ s.vm.findClass (zM j).1.cls = some m.cls ∧ meth.name = (zM j).1.name ∧ (∀ w ∈ zws j, w.before args s = true) ∧ zNest s
def zInv (D : va_G) (A : Nat → Prop) (U : State) (Hm : mzH) (ws : va_W) (tys : List (ClassId × FieldType)) (H : Heap) (locs : List Loc) : Prop :=
  zrH tys Hm ws ∧ va_P D vwCl ws H ∧ va_K D vwCl tys U ∧ va_D A ws ∧ va_S A U.heap H locs
def zStmt (l : Launch) (D : va_G) (f : Nat) : Prop :=
  ∀ (p : Program) (e : Env) (s : State) (m : MethodId) (args : Array Value) (below : List Frame) (meth : Method) (c : Code) (j : Nat) (_ : j < 255) (_ : zCtx p s m args meth c j) (ws0 : va_W) (_ : zStr (va_A ws0 s.heap.size) s) (ops : List mzO) (_ : zOkL j (zB j) ops = true)
    (lv : mzL) (st : List Value) (Hm : mzH) (bc bs : Nat) (res : Option Value × mzH) (_ : zEx f (zN j) (zB j) ops lv st Hm bc bs = some res)
    (ws : va_W) (tys : List (ClassId × FieldType)) (lv' : mzL) (st' : List Value) (H : Heap) (locs : List Loc) (ls : Array Slot) (cells slots : Nat)
    (_ : zrM (zad ws) lv lv') (_ : zrL (zad ws) st st') (_ : zad ws0 <+: zad ws) (_ : zInv D (va_A ws0 s.heap.size) s Hm ws tys H locs) (_ : lv_has ls (zN j) lv') (_ : cells + bc ≤ zmc j) (_ : slots + bs ≤ zms j),
    W p l e (zRm j) s m args below meth c H locs cells slots (MQ below (zQ D ws0 s.heap.size res) args s (zmc j) (zms j) (va_A ws0 s.heap.size)) (F0 m (mzPc ops) ls st')
theorem z_call {p : Program} {l : Launch} {e : Env} {R : Room} {s : State} {m : MethodId} {args : Array Value} {below : List Frame} {meth : Method} {c : Code} {H : Heap} {locs : List Loc} {cells slots : Nat} {Q : State → Prop} {mc ms pc : Nat} {ls : Array Slot} {st0 rest : List Value} {Qa : State → Outcome → State → Prop} {free : Addr → Prop} {A0 : Nat → Prop} {H0 : Heap}
    (hr : va_Run p l e R s m args below meth c H locs cells slots mc ms (F0 m pc ls st0) rest Qa free) (hS : va_S A0 H0 H locs) (hf : ∀ q, free q → A0 q)
    (hq : ∀ (st t : State) (v : Option Value), st.heap = H → Qa st (.returned v) t → H.size ≤ t.heap.size ∧ ∀ q : Nat, q < H.size → ¬ A0 q → t.heap[q]? = H[q]?)
    (kk : ∀ (v : Option Value) (st t : State) (H1 : Heap) (locs1 : List Loc), t.heap = H1 → s.vm.Alike t.vm → st.heap = H → Qa st (.returned v) t → va_S A0 H0 H1 locs1 → W p l e R s m args below meth c H1 locs1 (cells + mc) (slots + ms) Q (F0 m (pc + 3) ls (v.toList ++ rest))) :
    W p l e R s m args below meth c H locs cells slots Q (F0 m pc ls st0) := by
  intro T hT X
  obtain ⟨v, st₀, t, T', L, h0, X', hL, e1, e2, hqa, st⟩ := hr T hT X
  obtain ⟨hz, hk⟩ := hq st₀ t v h0 hqa
  obtain ⟨t2, a1, b1⟩ := kk v st₀ t T'.heap (locs ++ L) e1.symm (by rw [← e2]; exact X'.warmed.alike) h0 hqa ⟨Nat.le_trans hS.1 (by rw [e1]; exact hz), fun q h1 h2 => by rw [e1, hk q (Nat.lt_of_lt_of_le h1 hS.1) h2]; exact hS.2.1 q h1 h2, fun q hq => by
      rcases List.mem_append.mp hq with h | h
      · exact hS.2.2 q h
      · exact hf _ (hL q h)⟩ T' rfl X'
  exact ⟨t2, st t2 a1, b1⟩
theorem z_sub {A0 : Nat → Prop} {ws : va_W} {H0 H : Heap} {locs : List Loc} (hD : va_D A0 ws) (hS : va_S A0 H0 H locs) (hA : ∀ q, H0.size ≤ q → A0 q) : ∀ q, va_A ws H.size q → A0 q := by
  intro q h
  rcases h with ⟨k, e, h⟩ | h
  · exact hD.2 k (q, e) h
  · exact hA q (Nat.le_trans hS.1 h)
theorem zAge {ws0 : va_W} {n : Nat} : ∀ q, n ≤ q → va_A ws0 n q := fun _ h => Or.inr h
/-- the way on behind any call of a method with a contract by the mini machine -/
theorem z_calls {p : Program} {l : Launch} {e : Env} {R : Room} {s : State} {m : MethodId} {args : Array Value} {below : List Frame} {meth : Method} {c : Code} {H : Heap} {locs : List Loc} {cells slots : Nat} {Q : State → Prop} {mc ms pc : Nat} {ls : Array Slot} {st0 rest : List Value} {a : Array Value} {D : va_G} {ws0 ws : va_W} {res : Option Value × mzH} {Hm : mzH} {tys : List (ClassId × FieldType)}
    (hI : zInv D (va_A ws0 s.heap.size) s Hm ws tys H locs) (hr : va_Run p l e R s m args below meth c H locs cells slots mc ms (F0 m pc ls st0) rest (zQ D ws H.size res a) (va_A ws H.size))
    (kk : ∀ (v : Option Value) (ws1 : va_W) (tys1 : List (ClassId × FieldType)) (H1 : Heap) (locs1 : List Loc), zrO (zad ws1) res.1 v → zad ws <+: zad ws1 → zInv D (va_A ws0 s.heap.size) s res.2 ws1 tys1 H1 locs1 → W p l e R s m args below meth c H1 locs1 (cells + mc) (slots + ms) Q (F0 m (pc + 3) ls (v.toList ++ rest))) :
    W p l e R s m args below meth c H locs cells slots Q (F0 m pc ls st0) := by
  obtain ⟨hH, hP, hK, hDd, hS⟩ := hI
  have hsub := z_sub hDd hS zAge
  refine z_call hr hS hsub (fun st t v h0 hq => ?_) (fun v st t H1 locs1 ht hvm h0 hq hS1 => ?_)
  · obtain ⟨-, h1, h2⟩ := hq
    rw [h0] at h1 h2
    exact ⟨h1, fun q a1 a2 => h2 q a1 (fun z => a2 (hsub q z))⟩
  · obtain ⟨⟨r, ws1, tys1, e1, hO, hH1, hpre, hP1, hK1, hD1⟩, -⟩ := hq
    cases e1
    rw [ht] at hP1
    exact kk v ws1 tys1 H1 locs1 hO hpre ⟨hH1, hP1, va_K.moved hvm.symm hK1, hD1.weaken (fun k q _ h => hsub _ h), hS1⟩
set_option maxHeartbeats 4000000 in
theorem z_met_of {l : Launch} {D : va_G} {f : Nat} (hok : ∀ j, j < 255 → zOkM j = true) (hS : zStmt l D f) {j : Nat} (hj : j < 255) {as : List Value} {Hm : mzH} {res : Option Value × mzH} (hw : mzWd as ≤ zN j)
    (hex : zEx f (zN j) (zB j) (mzBlk (zB j) 0) (lv_args 0 as) [] Hm (zmc j) (zms j) = some res) : zMet l D j as Hm res := by
  intro ws0 tys0 sz av hL hH
  obtain ⟨hpl, -, hcn, hnl, -, -⟩ := zMf_ok j hj
  refine Met.ofW (cc := (zM j).2.1) (maxL := (zM j).2.2.1) (ret := (zM j).2.2.2.1) hpl rfl ?_
  intro p e s m args below meth c s₁ B hml hv
  obtain ⟨rfl, hsz, hP, hK, hD0, hN, hZt⟩ := hv
  subst hsz
  have C : zCtx p s m av.toArray meth c j := ⟨B.exec, B.bytes, B.returns, B.notSynchronized, hml, findClass_of_methodNamed B.named, (name_of_methodNamed B.named B.method).1, atoms_spec (ws := zws j) B.pre, hN⟩
  have hl := lv_entry av (n := zN j) (by rw [zsl_len, zrL_cats hL]; exact hw)
  rw [lg_entry_eq, ← hnl]
  have h0 : mzPc (mzBlk (zB j) 0) = 0 := by
    have h := hok j hj
    unfold zOkM at h
    simp only [Bool.and_eq_true] at h
    exact Nat.eq_of_beq_eq_true h.1
  have h1 := hS p e s m av.toArray below meth c j hj C ws0 hZt _ (zOkL_blk (hok j hj) 0) _ _ _ _ _ _ hex ws0 tys0 (lv_args 0 av) [] s.heap [] _ 0 0 (zrM_args 0 hL) rfl (List.prefix_refl _) ⟨hH, hP, hK, hD0.self, va_S.rf⟩ hl (by omega) (by omega)
  rw [h0] at h1
  exact h1
theorem zIn {Ts : List Cond} {args : Array Value} {s : State} {j : Nat} (h : ∀ w ∈ zws j, w.before args s = true) {w : Cond} (hw : w ∈ zBG) : w.before args s = true := h w (zws_own j w hw)
theorem z_tys {tys : List (ClassId × FieldType)} {q : ClassId × FieldType} (h : q ∈ tys) : ∃ t0 : Nat, tys[t0]? = some q := List.getElem?_of_mem h

theorem z_clt {x : Nat} {q : vw_C} (h : vwCl[x]? = some q) : x < 11 := (List.getElem?_eq_some_iff.mp h).1
theorem zCl_at {j x na mc ms : Nat} (h : zCl j x na mc ms = true) : x < 255 ∧ na = zna x ∧ mc = zmc x ∧ ms = zms x ∧ zfr x + 1 ≤ zfr j ∧ 8 + ((zM x).2.2.1 + 11) + zlo x ≤ zlo j := by
  unfold zCl at h
  simp only [Bool.and_eq_true] at h
  obtain ⟨a1, a2, a3, a4, a5, a6⟩ := h
  exact ⟨Nat.blt_eq.mp a1, Nat.eq_of_beq_eq_true a2, Nat.eq_of_beq_eq_true a3, Nat.eq_of_beq_eq_true a4, Nat.le_of_ble_eq_true a5, Nat.le_of_ble_eq_true a6⟩
theorem zRoom_at {j a b : Nat} (h : zRoom j a b = true) : a ≤ zfr j ∧ b ≤ zlo j := by
  unfold zRoom at h
  rw [Bool.and_eq_true] at h
  exact ⟨Nat.le_of_ble_eq_true h.1, Nat.le_of_ble_eq_true h.2⟩
theorem z_pp (ws : va_W) (q : Nat) (e : va_E) : zad ws <+: zad (ws ++ [(q, e)]) := by rw [zad_push]; exact List.prefix_append _ _
theorem z_repl (cA : ClassId) (n : Nat) : (Sum.inl (cA, n, Sum.inl (fun _ => 0)) : va_E) = .inl (cA, (List.replicate n (0 : Int32)).length, .inl (fun k => (List.replicate n (0 : Int32)).getD k 0)) := by
  rw [List.length_replicate]
  congr 3
  congr 1
  funext k
  simp only [List.getD_eq_getElem?_getD, List.getElem?_replicate]
  split <;> rfl
theorem z_opt {ad : List Nat} {v w : Option Value} (h : zrO ad v w) : zrL ad v.toList w.toList := by
  cases v with
  | none =>
    have e : w = none := h
    subst e
    rfl
  | some v =>
    obtain ⟨x, rfl, h⟩ := h
    exact ⟨x, [], rfl, h, rfl⟩
theorem z_wdr (st : List Value) : mzWd st.reverse = mzWd st := by
  unfold mzWd
  rw [List.map_reverse, List.sum_reverse]
theorem z_split {st : List Value} {n a : Nat} (h : st[n - 1]? = some (.ref a)) (h0 : 0 < n) (hn : n ≤ st.length) : ∃ As : List Value, ((st.take n).reverse = .ref a :: As ∧ As.length = n - 1) ∧ st = As.reverse ++ .ref a :: st.drop n := by
  obtain ⟨m, rfl⟩ : ∃ m, n = m + 1 := ⟨n - 1, by omega⟩
  have e : st.take (m + 1) = st.take m ++ [.ref a] := by
    rw [List.take_add_one, show st[m]? = some (.ref a) from h]
    rfl
  refine ⟨(st.take m).reverse, ⟨by rw [e, List.reverse_append]; rfl, by rw [List.length_reverse, List.length_take]; omega⟩, ?_⟩
  rw [List.reverse_reverse]
  have e2 := List.take_append_drop (m + 1) st
  rw [e, List.append_assoc] at e2
  exact e2.symm
theorem z_dflt {ad : List Nat} : ∀ c, c < 11 → zrL ad (zD c) (zD c) := by
  intro c hc
  have h : ∀ c, c < 11 → ∀ v ∈ zD c, v = .null ∨ v = .int 0 := by decide +kernel
  have h2 : ∀ l : List Value, (∀ v ∈ l, v = .null ∨ v = .int 0) → zrL ad l l := by
    intro l
    induction l with
    | nil => intro _; rfl
    | cons v l ih =>
      intro hv
      refine ⟨v, l, rfl, ?_, ih fun w hw => hv w (List.mem_cons_of_mem _ hw)⟩
      rcases hv v List.mem_cons_self with e | e <;> subst e <;> rfl
  exact h2 _ (h c hc)
theorem zPt_at {j x y t : Nat} {b : Bool} {Cn : String} {T : u_T} {N : Nat} (h1 : vwCl[x]? = some (Cn, T, N)) (h : zPt j x y t b = true) {v v' : Value} {ad : List Nat} (hf : mzFit t v = true) (hv : zrV ad v v') :
    ∃ ty, parseFieldDescriptor (T y).2.2.1 = some ty ∧ narrow ty v' = v' ∧ fits ty v' = true ∧ ((T y).2.2.2 = false ∨ (b = false ∧ (T y).2.2.2 = true ∧ (T y).1 = zcn (zO j) ∧ (zM j).1.name = "<init>")) := by
  unfold zPt at h
  rw [h1] at h
  simp only [Bool.and_eq_true, Bool.or_eq_true, decide_eq_true_eq, Bool.not_eq_true'] at h
  obtain ⟨ha, hb⟩ := h
  have hb2 : (T y).2.2.2 = false ∨ (b = false ∧ (T y).2.2.2 = true ∧ (T y).1 = zcn (zO j) ∧ (zM j).1.name = "<init>") := by
    rcases hb with hb | hb
    · exact Or.inl hb
    · cases e : (T y).2.2.2 with
      | false => exact Or.inl rfl
      | true => exact Or.inr ⟨hb.1, rfl, hb.2.1, hb.2.2⟩
  split at ha
  · rename_i e
    cases v <;> first | (simp [mzFit] at hf; done) | (have e2 : v' = _ := hv; subst e2; exact ⟨.int, e, rfl, rfl, hb2⟩)
  · rename_i e
    cases v with
    | int z =>
      have e2 : v' = _ := hv
      subst e2
      simp only [mzFit, Bool.or_eq_true, decide_eq_true_eq] at hf
      rcases hf with hf | hf <;> subst hf <;> exact ⟨.boolean, e, by decide, by decide, hb2⟩
    | _ => simp [mzFit] at hf
  · rename_i e
    cases v with
    | ref z =>
      obtain ⟨a, -, rfl⟩ := hv
      exact ⟨_, e, rfl, rfl, hb2⟩
    | _ => simp [mzFit] at hf
  · rename_i e
    cases v with
    | ref z =>
      obtain ⟨a, -, rfl⟩ := hv
      exact ⟨_, e, rfl, rfl, hb2⟩
    | _ => simp [mzFit] at hf
  · cases ha

set_option maxHeartbeats 40000000 in
set_option maxRecDepth 100000 in
theorem z_snd (l : Launch) (D : va_G) (hok : ∀ j, j < 255 → zOkM j = true) : ∀ f : Nat, zStmt l D f := by
  intro f
  induction f with
  | zero =>
    intro p e s m args below meth c j hj C ws0 hZt ops hokl lv st Hm bc bs res hex
    exact absurd (show (none : mzR) = some res from hex) (by simp)
  | succ f ih =>
    intro p e s m args below meth c j hj C ws0 hZt ops hokl lv st Hm bc bs res hex ws tys lv' st' H locs ls cells slots hM hL hp hI hl hc hs
    obtain ⟨hx, hb, hr, hlocks, hml, hown, hnm, hts, hN⟩ := id C
    obtain ⟨-, -, hcn, hnl, -, -⟩ := zMf_ok j hj
    have hown' : s.vm.findClass (zcn (zO j)) = some m.cls := hcn ▸ hown
    have hml' : c.maxLocals = zN j := hml.trans hnl.symm
    cases ops with
    | nil => exact absurd (show (none : mzR) = some res from hex) (by simp)
    | cons op r =>
      obtain ⟨pc, i, x, y, ts⟩ := op
      obtain ⟨hok1, hokr⟩ := (Bool.and_eq_true_iff (x := zOk1 j (zB j) pc i x y ts r) (y := zOkL j (zB j) r)).mp hokl
      show W p l e (zRm j) s m args below meth c H locs cells slots _ (F0 m pc ls st')
      cases i with
      | iconst n =>
        have hk := (Bool.and_eq_true_iff (x := zDec j pc (.iconst n) 1) (y := zNx pc 1 r)).mp hok1
        have hex2 : zEx f (zN j) (zB j) r lv (.int (Int32.ofInt n) :: st) Hm bc bs = some res := hex
        refine lv_iconst hx hb (zDec_at hk.1) rfl ?_
        rw [← zNx_at hk.2]
        exact ih p e s m args below meth c j hj C ws0 hZt r hokr _ _ _ _ _ _ hex2 ws tys _ _ H locs _ cells slots hM ⟨_, _, rfl, rfl, hL⟩ hp hI hl hc hs
      | bipush n =>
        have hk := (Bool.and_eq_true_iff (x := zDec j pc (.bipush n) 2) (y := zNx pc 2 r)).mp hok1
        have hex2 : zEx f (zN j) (zB j) r lv (.int (Int8.ofInt n).toInt32 :: st) Hm bc bs = some res := hex
        refine lv_bipush hx hb (zDec_at hk.1) rfl ?_
        rw [← zNx_at hk.2]
        exact ih p e s m args below meth c j hj C ws0 hZt r hokr _ _ _ _ _ _ hex2 ws tys _ _ H locs _ cells slots hM ⟨_, _, rfl, rfl, hL⟩ hp hI hl hc hs
      | sipush n =>
        have hk := (Bool.and_eq_true_iff (x := zDec j pc (.sipush n) 3) (y := zNx pc 3 r)).mp hok1
        have hex2 : zEx f (zN j) (zB j) r lv (.int (Int16.ofInt n).toInt32 :: st) Hm bc bs = some res := hex
        refine lv_sipush hx hb (zDec_at hk.1) rfl ?_
        rw [← zNx_at hk.2]
        exact ih p e s m args below meth c j hj C ws0 hZt r hokr _ _ _ _ _ _ hex2 ws tys _ _ H locs _ cells slots hM ⟨_, _, rfl, rfl, hL⟩ hp hI hl hc hs
      | lconst n =>
        have hk := (Bool.and_eq_true_iff (x := zDec j pc (.lconst n) 1) (y := zNx pc 1 r)).mp hok1
        have hex2 : zEx f (zN j) (zB j) r lv (.long (Int64.ofNat (n : Nat)) :: st) Hm bc bs = some res := hex
        refine lv_lconst hx hb (zDec_at hk.1) rfl ?_
        rw [← zNx_at hk.2]
        exact ih p e s m args below meth c j hj C ws0 hZt r hokr _ _ _ _ _ _ hex2 ws tys _ _ H locs _ cells slots hM ⟨_, _, rfl, rfl, hL⟩ hp hI hl hc hs
      | iload k =>
        have hk := (Bool.and_eq_true_iff (x := zDec j pc (.iload k) 2) (y := zNx pc 2 r)).mp hok1
        obtain ⟨v, hg, hex2⟩ := mzIld_i (i := k) (k := zEx f (zN j) (zB j) r) hex
        obtain ⟨w, rfl, hm⟩ := zrM_mem hM (mzGet_mem hg)
        refine lv_iload hx hb (zDec_at hk.1) (hl.2.2 _ hm) ?_
        rw [← zNx_at hk.2]
        exact ih p e s m args below meth c j hj C ws0 hZt r hokr _ _ _ _ _ _ hex2 ws tys _ _ H locs _ cells slots hM ⟨_, _, rfl, rfl, hL⟩ hp hI hl hc hs
      | iload_n k =>
        have hk := (Bool.and_eq_true_iff (x := zDec j pc (.iload_n k) 1) (y := zNx pc 1 r)).mp hok1
        obtain ⟨v, hg, hex2⟩ := mzIld_i (i := (k : Nat)) (k := zEx f (zN j) (zB j) r) hex
        obtain ⟨w, rfl, hm⟩ := zrM_mem hM (mzGet_mem hg)
        refine lv_iload_n hx hb (zDec_at hk.1) rfl (hl.2.2 _ hm) ?_
        rw [← zNx_at hk.2]
        exact ih p e s m args below meth c j hj C ws0 hZt r hokr _ _ _ _ _ _ hex2 ws tys _ _ H locs _ cells slots hM ⟨_, _, rfl, rfl, hL⟩ hp hI hl hc hs
      | lload k =>
        have hk := (Bool.and_eq_true_iff (x := zDec j pc (.lload k) 2) (y := zNx pc 2 r)).mp hok1
        obtain ⟨v, hg, hex2⟩ := mzLld_i (i := k) (k := zEx f (zN j) (zB j) r) hex
        obtain ⟨w, rfl, hm⟩ := zrM_mem hM (mzGet_mem hg)
        refine lv_lload hx hb (zDec_at hk.1) (hl.2.2 _ hm) ?_
        rw [← zNx_at hk.2]
        exact ih p e s m args below meth c j hj C ws0 hZt r hokr _ _ _ _ _ _ hex2 ws tys _ _ H locs _ cells slots hM ⟨_, _, rfl, rfl, hL⟩ hp hI hl hc hs
      | lload_n k =>
        have hk := (Bool.and_eq_true_iff (x := zDec j pc (.lload_n k) 1) (y := zNx pc 1 r)).mp hok1
        obtain ⟨v, hg, hex2⟩ := mzLld_i (i := (k : Nat)) (k := zEx f (zN j) (zB j) r) hex
        obtain ⟨w, rfl, hm⟩ := zrM_mem hM (mzGet_mem hg)
        refine lv_lload_n hx hb (zDec_at hk.1) rfl (hl.2.2 _ hm) ?_
        rw [← zNx_at hk.2]
        exact ih p e s m args below meth c j hj C ws0 hZt r hokr _ _ _ _ _ _ hex2 ws tys _ _ H locs _ cells slots hM ⟨_, _, rfl, rfl, hL⟩ hp hI hl hc hs
      | aload k =>
        have hk := (Bool.and_eq_true_iff (x := zDec j pc (.aload k) 2) (y := zNx pc 2 r)).mp hok1
        obtain ⟨v, hg, hex2⟩ := mzAld_i (i := k) (k := zEx f (zN j) (zB j) r) hex
        obtain ⟨w, ⟨a, ha, rfl⟩, hm⟩ := zrM_mem hM (mzGet_mem hg)
        refine lv_aload hx hb (zDec_at hk.1) (hl.2.2 _ hm) ?_
        rw [← zNx_at hk.2]
        exact ih p e s m args below meth c j hj C ws0 hZt r hokr _ _ _ _ _ _ hex2 ws tys _ _ H locs _ cells slots hM ⟨_, _, rfl, ⟨a, ha, rfl⟩, hL⟩ hp hI hl hc hs
      | aload_n k =>
        have hk := (Bool.and_eq_true_iff (x := zDec j pc (.aload_n k) 1) (y := zNx pc 1 r)).mp hok1
        obtain ⟨v, hg, hex2⟩ := mzAld_i (i := (k : Nat)) (k := zEx f (zN j) (zB j) r) hex
        obtain ⟨w, ⟨a, ha, rfl⟩, hm⟩ := zrM_mem hM (mzGet_mem hg)
        refine lv_aload_n hx hb (zDec_at hk.1) rfl (hl.2.2 _ hm) ?_
        rw [← zNx_at hk.2]
        exact ih p e s m args below meth c j hj C ws0 hZt r hokr _ _ _ _ _ _ hex2 ws tys _ _ H locs _ cells slots hM ⟨_, _, rfl, ⟨a, ha, rfl⟩, hL⟩ hp hI hl hc hs
      | istore k =>
        have hk := (Bool.and_eq_true_iff (x := zDec j pc (.istore k) 2) (y := zNx pc 2 r)).mp hok1
        obtain ⟨v, r', rfl, hn1, hex2⟩ := mzIst_i (n := zN j) (i := k) (k := zEx f (zN j) (zB j) r) hex
        obtain ⟨_, _, rfl, rfl, hL⟩ := hL
        refine lv_istore hx hb (zDec_at hk.1) hl hn1 rfl (fun ls hl => ?_)
        rw [← zNx_at hk.2]
        exact ih p e s m args below meth c j hj C ws0 hZt r hokr _ _ _ _ _ _ hex2 ws tys _ _ H locs _ cells slots (zrM_st1 hM rfl) hL hp hI hl hc hs
      | istore_n k =>
        have hk := (Bool.and_eq_true_iff (x := zDec j pc (.istore_n k) 1) (y := zNx pc 1 r)).mp hok1
        obtain ⟨v, r', rfl, hn1, hex2⟩ := mzIst_i (n := zN j) (i := (k : Nat)) (k := zEx f (zN j) (zB j) r) hex
        obtain ⟨_, _, rfl, rfl, hL⟩ := hL
        refine lv_istore_n hx hb (zDec_at hk.1) rfl hl hn1 rfl (fun ls hl => ?_)
        rw [← zNx_at hk.2]
        exact ih p e s m args below meth c j hj C ws0 hZt r hokr _ _ _ _ _ _ hex2 ws tys _ _ H locs _ cells slots (zrM_st1 hM rfl) hL hp hI hl hc hs
      | astore k =>
        have hk := (Bool.and_eq_true_iff (x := zDec j pc (.astore k) 2) (y := zNx pc 2 r)).mp hok1
        obtain ⟨v, r', rfl, hn1, hex2⟩ := mzAst_i (n := zN j) (i := k) (k := zEx f (zN j) (zB j) r) hex
        obtain ⟨_, _, rfl, ⟨a, ha, rfl⟩, hL⟩ := hL
        refine lv_astore hx hb (zDec_at hk.1) hl hn1 rfl (fun ls hl => ?_)
        rw [← zNx_at hk.2]
        exact ih p e s m args below meth c j hj C ws0 hZt r hokr _ _ _ _ _ _ hex2 ws tys _ _ H locs _ cells slots (zrM_st1 hM ⟨a, ha, rfl⟩) hL hp hI hl hc hs
      | astore_n k =>
        have hk := (Bool.and_eq_true_iff (x := zDec j pc (.astore_n k) 1) (y := zNx pc 1 r)).mp hok1
        obtain ⟨v, r', rfl, hn1, hex2⟩ := mzAst_i (n := zN j) (i := (k : Nat)) (k := zEx f (zN j) (zB j) r) hex
        obtain ⟨_, _, rfl, ⟨a, ha, rfl⟩, hL⟩ := hL
        refine lv_astore_n hx hb (zDec_at hk.1) rfl hl hn1 rfl (fun ls hl => ?_)
        rw [← zNx_at hk.2]
        exact ih p e s m args below meth c j hj C ws0 hZt r hokr _ _ _ _ _ _ hex2 ws tys _ _ H locs _ cells slots (zrM_st1 hM ⟨a, ha, rfl⟩) hL hp hI hl hc hs
      | lstore k =>
        have hk := (Bool.and_eq_true_iff (x := zDec j pc (.lstore k) 2) (y := zNx pc 2 r)).mp hok1
        obtain ⟨v, r', rfl, hn1, hex2⟩ := mzLst_i (n := zN j) (i := k) (k := zEx f (zN j) (zB j) r) hex
        obtain ⟨_, _, rfl, rfl, hL⟩ := hL
        refine lv_lstore hx hb (zDec_at hk.1) hl hn1 rfl (fun ls hl => ?_)
        rw [← zNx_at hk.2]
        exact ih p e s m args below meth c j hj C ws0 hZt r hokr _ _ _ _ _ _ hex2 ws tys _ _ H locs _ cells slots (zrM_st2 hM rfl) hL hp hI hl hc hs
      | lstore_n k =>
        have hk := (Bool.and_eq_true_iff (x := zDec j pc (.lstore_n k) 1) (y := zNx pc 1 r)).mp hok1
        obtain ⟨v, r', rfl, hn1, hex2⟩ := mzLst_i (n := zN j) (i := (k : Nat)) (k := zEx f (zN j) (zB j) r) hex
        obtain ⟨_, _, rfl, rfl, hL⟩ := hL
        refine lv_lstore_n hx hb (zDec_at hk.1) rfl hl hn1 rfl (fun ls hl => ?_)
        rw [← zNx_at hk.2]
        exact ih p e s m args below meth c j hj C ws0 hZt r hokr _ _ _ _ _ _ hex2 ws tys _ _ H locs _ cells slots (zrM_st2 hM rfl) hL hp hI hl hc hs
      | iinc k d =>
        have hk := (Bool.and_eq_true_iff (x := zDec j pc (.iinc k d) 3) (y := zNx pc 3 r)).mp hok1
        obtain ⟨v, hg, hn1, hex2⟩ := mzInc_i (n := zN j) (i := k) (d := d) (k := zEx f (zN j) (zB j) r) hex
        obtain ⟨w, rfl, hm⟩ := zrM_mem hM (mzGet_mem hg)
        obtain ⟨q, hq⟩ := List.getElem?_of_mem hm
        refine lv_iinc hx hb (zDec_at hk.1) hl hq rfl hn1 rfl (fun ls hl => ?_)
        rw [← zNx_at hk.2]
        exact ih p e s m args below meth c j hj C ws0 hZt r hokr _ _ _ _ _ _ hex2 ws tys _ _ H locs _ cells slots (zrM_st1 hM rfl) hL hp hI hl hc hs
      | iadd =>
        have hk := (Bool.and_eq_true_iff (x := zDec j pc (.iadd) 1) (y := zNx pc 1 r)).mp hok1
        obtain ⟨a, b, r', rfl, hex2⟩ := mzI2_i (k := zEx f (zN j) (zB j) r) hex
        obtain ⟨_, _, rfl, rfl, _, _, rfl, rfl, hL⟩ := hL
        refine lv_iadd hx hb (zDec_at hk.1) ?_
        rw [← zNx_at hk.2]
        exact ih p e s m args below meth c j hj C ws0 hZt r hokr _ _ _ _ _ _ hex2 ws tys _ _ H locs _ cells slots hM ⟨_, _, rfl, rfl, hL⟩ hp hI hl hc hs
      | isub =>
        have hk := (Bool.and_eq_true_iff (x := zDec j pc (.isub) 1) (y := zNx pc 1 r)).mp hok1
        obtain ⟨a, b, r', rfl, hex2⟩ := mzI2_i (k := zEx f (zN j) (zB j) r) hex
        obtain ⟨_, _, rfl, rfl, _, _, rfl, rfl, hL⟩ := hL
        refine lv_isub hx hb (zDec_at hk.1) ?_
        rw [← zNx_at hk.2]
        exact ih p e s m args below meth c j hj C ws0 hZt r hokr _ _ _ _ _ _ hex2 ws tys _ _ H locs _ cells slots hM ⟨_, _, rfl, rfl, hL⟩ hp hI hl hc hs
      | imul =>
        have hk := (Bool.and_eq_true_iff (x := zDec j pc (.imul) 1) (y := zNx pc 1 r)).mp hok1
        obtain ⟨a, b, r', rfl, hex2⟩ := mzI2_i (k := zEx f (zN j) (zB j) r) hex
        obtain ⟨_, _, rfl, rfl, _, _, rfl, rfl, hL⟩ := hL
        refine lv_imul hx hb (zDec_at hk.1) ?_
        rw [← zNx_at hk.2]
        exact ih p e s m args below meth c j hj C ws0 hZt r hokr _ _ _ _ _ _ hex2 ws tys _ _ H locs _ cells slots hM ⟨_, _, rfl, rfl, hL⟩ hp hI hl hc hs
      | iand =>
        have hk := (Bool.and_eq_true_iff (x := zDec j pc (.iand) 1) (y := zNx pc 1 r)).mp hok1
        obtain ⟨a, b, r', rfl, hex2⟩ := mzI2_i (k := zEx f (zN j) (zB j) r) hex
        obtain ⟨_, _, rfl, rfl, _, _, rfl, rfl, hL⟩ := hL
        refine lv_iand hx hb (zDec_at hk.1) ?_
        rw [← zNx_at hk.2]
        exact ih p e s m args below meth c j hj C ws0 hZt r hokr _ _ _ _ _ _ hex2 ws tys _ _ H locs _ cells slots hM ⟨_, _, rfl, rfl, hL⟩ hp hI hl hc hs
      | ior =>
        have hk := (Bool.and_eq_true_iff (x := zDec j pc (.ior) 1) (y := zNx pc 1 r)).mp hok1
        obtain ⟨a, b, r', rfl, hex2⟩ := mzI2_i (k := zEx f (zN j) (zB j) r) hex
        obtain ⟨_, _, rfl, rfl, _, _, rfl, rfl, hL⟩ := hL
        refine lv_ior hx hb (zDec_at hk.1) ?_
        rw [← zNx_at hk.2]
        exact ih p e s m args below meth c j hj C ws0 hZt r hokr _ _ _ _ _ _ hex2 ws tys _ _ H locs _ cells slots hM ⟨_, _, rfl, rfl, hL⟩ hp hI hl hc hs
      | ixor =>
        have hk := (Bool.and_eq_true_iff (x := zDec j pc (.ixor) 1) (y := zNx pc 1 r)).mp hok1
        obtain ⟨a, b, r', rfl, hex2⟩ := mzI2_i (k := zEx f (zN j) (zB j) r) hex
        obtain ⟨_, _, rfl, rfl, _, _, rfl, rfl, hL⟩ := hL
        refine lv_ixor hx hb (zDec_at hk.1) ?_
        rw [← zNx_at hk.2]
        exact ih p e s m args below meth c j hj C ws0 hZt r hokr _ _ _ _ _ _ hex2 ws tys _ _ H locs _ cells slots hM ⟨_, _, rfl, rfl, hL⟩ hp hI hl hc hs
      | ishl =>
        have hk := (Bool.and_eq_true_iff (x := zDec j pc (.ishl) 1) (y := zNx pc 1 r)).mp hok1
        obtain ⟨a, b, r', rfl, hex2⟩ := mzI2_i (k := zEx f (zN j) (zB j) r) hex
        obtain ⟨_, _, rfl, rfl, _, _, rfl, rfl, hL⟩ := hL
        refine lv_ishl hx hb (zDec_at hk.1) ?_
        rw [← zNx_at hk.2]
        exact ih p e s m args below meth c j hj C ws0 hZt r hokr _ _ _ _ _ _ hex2 ws tys _ _ H locs _ cells slots hM ⟨_, _, rfl, rfl, hL⟩ hp hI hl hc hs
      | ishr =>
        have hk := (Bool.and_eq_true_iff (x := zDec j pc (.ishr) 1) (y := zNx pc 1 r)).mp hok1
        obtain ⟨a, b, r', rfl, hex2⟩ := mzI2_i (k := zEx f (zN j) (zB j) r) hex
        obtain ⟨_, _, rfl, rfl, _, _, rfl, rfl, hL⟩ := hL
        refine lv_ishr hx hb (zDec_at hk.1) ?_
        rw [← zNx_at hk.2]
        exact ih p e s m args below meth c j hj C ws0 hZt r hokr _ _ _ _ _ _ hex2 ws tys _ _ H locs _ cells slots hM ⟨_, _, rfl, rfl, hL⟩ hp hI hl hc hs
      | iushr =>
        have hk := (Bool.and_eq_true_iff (x := zDec j pc (.iushr) 1) (y := zNx pc 1 r)).mp hok1
        obtain ⟨a, b, r', rfl, hex2⟩ := mzI2_i (k := zEx f (zN j) (zB j) r) hex
        obtain ⟨_, _, rfl, rfl, _, _, rfl, rfl, hL⟩ := hL
        refine lv_iushr hx hb (zDec_at hk.1) rfl ?_
        rw [← zNx_at hk.2]
        exact ih p e s m args below meth c j hj C ws0 hZt r hokr _ _ _ _ _ _ hex2 ws tys _ _ H locs _ cells slots hM ⟨_, _, rfl, rfl, hL⟩ hp hI hl hc hs
      | irem =>
        have hk := (Bool.and_eq_true_iff (x := zDec j pc (.irem) 1) (y := zNx pc 1 r)).mp hok1
        obtain ⟨a, b, r', rfl, hne, hex2⟩ := mzRem_i (k := zEx f (zN j) (zB j) r) hex
        obtain ⟨_, _, rfl, rfl, _, _, rfl, rfl, hL⟩ := hL
        refine lv_irem hx hb (zDec_at hk.1) hne ?_
        rw [← zNx_at hk.2]
        exact ih p e s m args below meth c j hj C ws0 hZt r hokr _ _ _ _ _ _ hex2 ws tys _ _ H locs _ cells slots hM ⟨_, _, rfl, rfl, hL⟩ hp hI hl hc hs
      | ladd =>
        have hk := (Bool.and_eq_true_iff (x := zDec j pc (.ladd) 1) (y := zNx pc 1 r)).mp hok1
        obtain ⟨a, b, r', rfl, hex2⟩ := mzL2_i (k := zEx f (zN j) (zB j) r) hex
        obtain ⟨_, _, rfl, rfl, _, _, rfl, rfl, hL⟩ := hL
        refine lv_ladd hx hb (zDec_at hk.1) ?_
        rw [← zNx_at hk.2]
        exact ih p e s m args below meth c j hj C ws0 hZt r hokr _ _ _ _ _ _ hex2 ws tys _ _ H locs _ cells slots hM ⟨_, _, rfl, rfl, hL⟩ hp hI hl hc hs
      | lsub =>
        have hk := (Bool.and_eq_true_iff (x := zDec j pc (.lsub) 1) (y := zNx pc 1 r)).mp hok1
        obtain ⟨a, b, r', rfl, hex2⟩ := mzL2_i (k := zEx f (zN j) (zB j) r) hex
        obtain ⟨_, _, rfl, rfl, _, _, rfl, rfl, hL⟩ := hL
        refine lv_lsub hx hb (zDec_at hk.1) ?_
        rw [← zNx_at hk.2]
        exact ih p e s m args below meth c j hj C ws0 hZt r hokr _ _ _ _ _ _ hex2 ws tys _ _ H locs _ cells slots hM ⟨_, _, rfl, rfl, hL⟩ hp hI hl hc hs
      | land =>
        have hk := (Bool.and_eq_true_iff (x := zDec j pc (.land) 1) (y := zNx pc 1 r)).mp hok1
        obtain ⟨a, b, r', rfl, hex2⟩ := mzL2_i (k := zEx f (zN j) (zB j) r) hex
        obtain ⟨_, _, rfl, rfl, _, _, rfl, rfl, hL⟩ := hL
        refine lv_land hx hb (zDec_at hk.1) ?_
        rw [← zNx_at hk.2]
        exact ih p e s m args below meth c j hj C ws0 hZt r hokr _ _ _ _ _ _ hex2 ws tys _ _ H locs _ cells slots hM ⟨_, _, rfl, rfl, hL⟩ hp hI hl hc hs
      | lor =>
        have hk := (Bool.and_eq_true_iff (x := zDec j pc (.lor) 1) (y := zNx pc 1 r)).mp hok1
        obtain ⟨a, b, r', rfl, hex2⟩ := mzL2_i (k := zEx f (zN j) (zB j) r) hex
        obtain ⟨_, _, rfl, rfl, _, _, rfl, rfl, hL⟩ := hL
        refine lv_lor hx hb (zDec_at hk.1) ?_
        rw [← zNx_at hk.2]
        exact ih p e s m args below meth c j hj C ws0 hZt r hokr _ _ _ _ _ _ hex2 ws tys _ _ H locs _ cells slots hM ⟨_, _, rfl, rfl, hL⟩ hp hI hl hc hs
      | lshl =>
        have hk := (Bool.and_eq_true_iff (x := zDec j pc (.lshl) 1) (y := zNx pc 1 r)).mp hok1
        obtain ⟨a, b, r', rfl, hex2⟩ := mzLsh_i (k := zEx f (zN j) (zB j) r) hex
        obtain ⟨_, _, rfl, rfl, _, _, rfl, rfl, hL⟩ := hL
        refine lv_lshl hx hb (zDec_at hk.1) rfl ?_
        rw [← zNx_at hk.2]
        exact ih p e s m args below meth c j hj C ws0 hZt r hokr _ _ _ _ _ _ hex2 ws tys _ _ H locs _ cells slots hM ⟨_, _, rfl, rfl, hL⟩ hp hI hl hc hs
      | lushr =>
        have hk := (Bool.and_eq_true_iff (x := zDec j pc (.lushr) 1) (y := zNx pc 1 r)).mp hok1
        obtain ⟨a, b, r', rfl, hex2⟩ := mzLsh_i (k := zEx f (zN j) (zB j) r) hex
        obtain ⟨_, _, rfl, rfl, _, _, rfl, rfl, hL⟩ := hL
        refine lv_lushr hx hb (zDec_at hk.1) rfl ?_
        rw [← zNx_at hk.2]
        exact ih p e s m args below meth c j hj C ws0 hZt r hokr _ _ _ _ _ _ hex2 ws tys _ _ H locs _ cells slots hM ⟨_, _, rfl, rfl, hL⟩ hp hI hl hc hs
      | lcmp =>
        have hk := (Bool.and_eq_true_iff (x := zDec j pc (.lcmp) 1) (y := zNx pc 1 r)).mp hok1
        obtain ⟨a, b, r', rfl, hex2⟩ := mzLcmp_i (k := zEx f (zN j) (zB j) r) hex
        obtain ⟨_, _, rfl, rfl, _, _, rfl, rfl, hL⟩ := hL
        refine W.lcmp hx hb (zDec_at hk.1) ?_
        rw [← zNx_at hk.2]
        exact ih p e s m args below meth c j hj C ws0 hZt r hokr _ _ _ _ _ _ hex2 ws tys _ _ H locs _ cells slots hM ⟨_, _, rfl, rfl, hL⟩ hp hI hl hc hs
      | i2l =>
        have hk := (Bool.and_eq_true_iff (x := zDec j pc (.i2l) 1) (y := zNx pc 1 r)).mp hok1
        obtain ⟨a, r', rfl, hex2⟩ := mzI1_i (k := zEx f (zN j) (zB j) r) hex
        obtain ⟨_, _, rfl, rfl, hL⟩ := hL
        refine lv_i2l hx hb (zDec_at hk.1) rfl ?_
        rw [← zNx_at hk.2]
        exact ih p e s m args below meth c j hj C ws0 hZt r hokr _ _ _ _ _ _ hex2 ws tys _ _ H locs _ cells slots hM ⟨_, _, rfl, rfl, hL⟩ hp hI hl hc hs
      | i2b =>
        have hk := (Bool.and_eq_true_iff (x := zDec j pc (.i2b) 1) (y := zNx pc 1 r)).mp hok1
        obtain ⟨a, r', rfl, hex2⟩ := mzI1_i (k := zEx f (zN j) (zB j) r) hex
        obtain ⟨_, _, rfl, rfl, hL⟩ := hL
        refine lv_i2b hx hb (zDec_at hk.1) rfl ?_
        rw [← zNx_at hk.2]
        exact ih p e s m args below meth c j hj C ws0 hZt r hokr _ _ _ _ _ _ hex2 ws tys _ _ H locs _ cells slots hM ⟨_, _, rfl, rfl, hL⟩ hp hI hl hc hs
      | l2i =>
        have hk := (Bool.and_eq_true_iff (x := zDec j pc (.l2i) 1) (y := zNx pc 1 r)).mp hok1
        obtain ⟨a, r', rfl, hex2⟩ := mzL1_i (k := zEx f (zN j) (zB j) r) hex
        obtain ⟨_, _, rfl, rfl, hL⟩ := hL
        refine lv_l2i hx hb (zDec_at hk.1) rfl ?_
        rw [← zNx_at hk.2]
        exact ih p e s m args below meth c j hj C ws0 hZt r hokr _ _ _ _ _ _ hex2 ws tys _ _ H locs _ cells slots hM ⟨_, _, rfl, rfl, hL⟩ hp hI hl hc hs
      | dup =>
        have hk := (Bool.and_eq_true_iff (x := zDec j pc (.dup) 1) (y := zNx pc 1 r)).mp hok1
        obtain ⟨a, r', rfl, hca, hex2⟩ := mzDup_i (k := zEx f (zN j) (zB j) r) hex
        obtain ⟨_, _, rfl, h1, hL⟩ := hL
        refine lv_dup hx hb (zDec_at hk.1) ((zrV_cat h1).trans hca) ?_
        rw [← zNx_at hk.2]
        exact ih p e s m args below meth c j hj C ws0 hZt r hokr _ _ _ _ _ _ hex2 ws tys _ _ H locs _ cells slots hM ⟨_, _, rfl, h1, _, _, rfl, h1, hL⟩ hp hI hl hc hs
      | dup2 =>
        have hk := (Bool.and_eq_true_iff (x := zDec j pc (.dup2) 1) (y := zNx pc 1 r)).mp hok1
        obtain ⟨a, b, r', rfl, hca, hcb, hex2⟩ := mzDup2_i (k := zEx f (zN j) (zB j) r) hex
        obtain ⟨_, _, rfl, h1, _, _, rfl, h2, hL⟩ := hL
        refine lv_dup2_11 hx hb (zDec_at hk.1) ((zrV_cat h1).trans hca) ((zrV_cat h2).trans hcb) ?_
        rw [← zNx_at hk.2]
        exact ih p e s m args below meth c j hj C ws0 hZt r hokr _ _ _ _ _ _ hex2 ws tys _ _ H locs _ cells slots hM ⟨_, _, rfl, h1, _, _, rfl, h2, _, _, rfl, h1, _, _, rfl, h2, hL⟩ hp hI hl hc hs
      | pop =>
        have hk := (Bool.and_eq_true_iff (x := zDec j pc (.pop) 1) (y := zNx pc 1 r)).mp hok1
        obtain ⟨a, r', rfl, hca, hex2⟩ := mzPop_i (k := zEx f (zN j) (zB j) r) hex
        obtain ⟨_, _, rfl, h1, hL⟩ := hL
        refine lv_pop hx hb (zDec_at hk.1) ((zrV_cat h1).trans hca) ?_
        rw [← zNx_at hk.2]
        exact ih p e s m args below meth c j hj C ws0 hZt r hokr _ _ _ _ _ _ hex2 ws tys _ _ H locs _ cells slots hM hL hp hI hl hc hs
      | nop =>
        have hk : mzPc (mzBlk (zB j) x) = pc := Nat.eq_of_beq_eq_true hok1
        have hex2 : zEx f (zN j) (zB j) (mzBlk (zB j) x) lv st Hm bc bs = some res := hex
        rw [← hk]
        exact ih p e s m args below meth c j hj C ws0 hZt _ (zOkL_blk (hok j hj) x) _ _ _ _ _ _ hex2 ws tys _ _ H locs _ cells slots hM hL hp hI hl hc hs
      | goto d =>
        have hk := (Bool.and_eq_true_iff (x := zDec j pc (.goto d) 3) (y := zTo pc d (zB j) x)).mp hok1
        have hex2 : zEx f (zN j) (zB j) (mzBlk (zB j) x) lv st Hm bc bs = some res := hex
        refine lv_goto hx hb (zDec_at hk.1) (zTo_at hk.2) ?_
        exact ih p e s m args below meth c j hj C ws0 hZt _ (zOkL_blk (hok j hj) x) _ _ _ _ _ _ hex2 ws tys _ _ H locs _ cells slots hM hL hp hI hl hc hs
      | if_icmp o d =>
        have hk := (Bool.and_eq_true_iff (x := zDec j pc (.if_icmp o d) 3) (y := zNx pc 3 r && zTo pc d (zB j) x)).mp hok1
        rw [Bool.and_eq_true] at hk
        obtain ⟨a, b, r', rfl, hex2⟩ := mzIf2_i (kt := zEx f (zN j) (zB j) (mzBlk (zB j) x)) (kf := zEx f (zN j) (zB j) r) hex
        obtain ⟨_, _, rfl, rfl, _, _, rfl, rfl, hL⟩ := hL
        cases o with
        | eq =>
          refine lv_icmp_eq hx hb (zDec_at hk.1) (zTo_at hk.2.2) (fun h9 => ?_) (fun h9 => ?_)
          · exact ih p e s m args below meth c j hj C ws0 hZt _ (zOkL_blk (hok j hj) x) _ _ _ _ _ _ (hex2.1 (by rw [mzCnd_eq]; simp [h9])) ws tys _ _ H locs _ cells slots hM hL hp hI hl hc hs
          · rw [← zNx_at hk.2.1]
            exact ih p e s m args below meth c j hj C ws0 hZt r hokr _ _ _ _ _ _ (hex2.2 (by rw [mzCnd_eq]; simp [h9])) ws tys _ _ H locs _ cells slots hM hL hp hI hl hc hs
        | ne =>
          refine lv_icmp_ne hx hb (zDec_at hk.1) (zTo_at hk.2.2) (fun h9 => ?_) (fun h9 => ?_)
          · exact ih p e s m args below meth c j hj C ws0 hZt _ (zOkL_blk (hok j hj) x) _ _ _ _ _ _ (hex2.1 (by rw [mzCnd_eq]; simp [h9])) ws tys _ _ H locs _ cells slots hM hL hp hI hl hc hs
          · rw [← zNx_at hk.2.1]
            exact ih p e s m args below meth c j hj C ws0 hZt r hokr _ _ _ _ _ _ (hex2.2 (by rw [mzCnd_eq]; simp [h9])) ws tys _ _ H locs _ cells slots hM hL hp hI hl hc hs
        | lt =>
          refine lv_icmp_lt hx hb (zDec_at hk.1) (zTo_at hk.2.2) (fun h9 => ?_) (fun h9 => ?_)
          · exact ih p e s m args below meth c j hj C ws0 hZt _ (zOkL_blk (hok j hj) x) _ _ _ _ _ _ (hex2.1 (by rw [mzCnd_eq]; simp [h9])) ws tys _ _ H locs _ cells slots hM hL hp hI hl hc hs
          · rw [← zNx_at hk.2.1]
            exact ih p e s m args below meth c j hj C ws0 hZt r hokr _ _ _ _ _ _ (hex2.2 (by rw [mzCnd_eq]; simp [h9])) ws tys _ _ H locs _ cells slots hM hL hp hI hl hc hs
        | ge =>
          refine lv_icmp_ge hx hb (zDec_at hk.1) (zTo_at hk.2.2) (fun h9 => ?_) (fun h9 => ?_)
          · exact ih p e s m args below meth c j hj C ws0 hZt _ (zOkL_blk (hok j hj) x) _ _ _ _ _ _ (hex2.1 (by rw [mzCnd_eq]; simp [h9])) ws tys _ _ H locs _ cells slots hM hL hp hI hl hc hs
          · rw [← zNx_at hk.2.1]
            exact ih p e s m args below meth c j hj C ws0 hZt r hokr _ _ _ _ _ _ (hex2.2 (by rw [mzCnd_eq]; simp [h9])) ws tys _ _ H locs _ cells slots hM hL hp hI hl hc hs
        | gt =>
          refine lv_icmp_gt hx hb (zDec_at hk.1) (zTo_at hk.2.2) (fun h9 => ?_) (fun h9 => ?_)
          · exact ih p e s m args below meth c j hj C ws0 hZt _ (zOkL_blk (hok j hj) x) _ _ _ _ _ _ (hex2.1 (by rw [mzCnd_eq]; simp [h9])) ws tys _ _ H locs _ cells slots hM hL hp hI hl hc hs
          · rw [← zNx_at hk.2.1]
            exact ih p e s m args below meth c j hj C ws0 hZt r hokr _ _ _ _ _ _ (hex2.2 (by rw [mzCnd_eq]; simp [h9])) ws tys _ _ H locs _ cells slots hM hL hp hI hl hc hs
        | le =>
          refine lv_icmp_le hx hb (zDec_at hk.1) (zTo_at hk.2.2) (fun h9 => ?_) (fun h9 => ?_)
          · exact ih p e s m args below meth c j hj C ws0 hZt _ (zOkL_blk (hok j hj) x) _ _ _ _ _ _ (hex2.1 (by rw [mzCnd_eq]; simp [h9])) ws tys _ _ H locs _ cells slots hM hL hp hI hl hc hs
          · rw [← zNx_at hk.2.1]
            exact ih p e s m args below meth c j hj C ws0 hZt r hokr _ _ _ _ _ _ (hex2.2 (by rw [mzCnd_eq]; simp [h9])) ws tys _ _ H locs _ cells slots hM hL hp hI hl hc hs
      | ifCond o d =>
        have hk := (Bool.and_eq_true_iff (x := zDec j pc (.ifCond o d) 3) (y := zNx pc 3 r && zTo pc d (zB j) x)).mp hok1
        rw [Bool.and_eq_true] at hk
        obtain ⟨a, r', rfl, hex2⟩ := mzIf_i (kt := zEx f (zN j) (zB j) (mzBlk (zB j) x)) (kf := zEx f (zN j) (zB j) r) hex
        obtain ⟨_, _, rfl, rfl, hL⟩ := hL
        cases o with
        | eq =>
          refine lv_if_eq hx hb (zDec_at hk.1) (zTo_at hk.2.2) (fun h9 => ?_) (fun h9 => ?_)
          · exact ih p e s m args below meth c j hj C ws0 hZt _ (zOkL_blk (hok j hj) x) _ _ _ _ _ _ (hex2.1 (by rw [mzCnd_eq]; simp [h9])) ws tys _ _ H locs _ cells slots hM hL hp hI hl hc hs
          · rw [← zNx_at hk.2.1]
            exact ih p e s m args below meth c j hj C ws0 hZt r hokr _ _ _ _ _ _ (hex2.2 (by rw [mzCnd_eq]; simp [h9])) ws tys _ _ H locs _ cells slots hM hL hp hI hl hc hs
        | ne =>
          refine lv_if_ne hx hb (zDec_at hk.1) (zTo_at hk.2.2) (fun h9 => ?_) (fun h9 => ?_)
          · exact ih p e s m args below meth c j hj C ws0 hZt _ (zOkL_blk (hok j hj) x) _ _ _ _ _ _ (hex2.1 (by rw [mzCnd_eq]; simp [h9])) ws tys _ _ H locs _ cells slots hM hL hp hI hl hc hs
          · rw [← zNx_at hk.2.1]
            exact ih p e s m args below meth c j hj C ws0 hZt r hokr _ _ _ _ _ _ (hex2.2 (by rw [mzCnd_eq]; simp [h9])) ws tys _ _ H locs _ cells slots hM hL hp hI hl hc hs
        | lt =>
          refine lv_if_lt hx hb (zDec_at hk.1) (zTo_at hk.2.2) (fun h9 => ?_) (fun h9 => ?_)
          · exact ih p e s m args below meth c j hj C ws0 hZt _ (zOkL_blk (hok j hj) x) _ _ _ _ _ _ (hex2.1 (by rw [mzCnd_eq]; simp [h9])) ws tys _ _ H locs _ cells slots hM hL hp hI hl hc hs
          · rw [← zNx_at hk.2.1]
            exact ih p e s m args below meth c j hj C ws0 hZt r hokr _ _ _ _ _ _ (hex2.2 (by rw [mzCnd_eq]; simp [h9])) ws tys _ _ H locs _ cells slots hM hL hp hI hl hc hs
        | ge =>
          refine lv_if_ge hx hb (zDec_at hk.1) (zTo_at hk.2.2) (fun h9 => ?_) (fun h9 => ?_)
          · exact ih p e s m args below meth c j hj C ws0 hZt _ (zOkL_blk (hok j hj) x) _ _ _ _ _ _ (hex2.1 (by rw [mzCnd_eq]; simp [h9])) ws tys _ _ H locs _ cells slots hM hL hp hI hl hc hs
          · rw [← zNx_at hk.2.1]
            exact ih p e s m args below meth c j hj C ws0 hZt r hokr _ _ _ _ _ _ (hex2.2 (by rw [mzCnd_eq]; simp [h9])) ws tys _ _ H locs _ cells slots hM hL hp hI hl hc hs
        | gt =>
          refine lv_if_gt hx hb (zDec_at hk.1) (zTo_at hk.2.2) (fun h9 => ?_) (fun h9 => ?_)
          · exact ih p e s m args below meth c j hj C ws0 hZt _ (zOkL_blk (hok j hj) x) _ _ _ _ _ _ (hex2.1 (by rw [mzCnd_eq]; simp [h9])) ws tys _ _ H locs _ cells slots hM hL hp hI hl hc hs
          · rw [← zNx_at hk.2.1]
            exact ih p e s m args below meth c j hj C ws0 hZt r hokr _ _ _ _ _ _ (hex2.2 (by rw [mzCnd_eq]; simp [h9])) ws tys _ _ H locs _ cells slots hM hL hp hI hl hc hs
        | le =>
          refine lv_if_le hx hb (zDec_at hk.1) (zTo_at hk.2.2) (fun h9 => ?_) (fun h9 => ?_)
          · exact ih p e s m args below meth c j hj C ws0 hZt _ (zOkL_blk (hok j hj) x) _ _ _ _ _ _ (hex2.1 (by rw [mzCnd_eq]; simp [h9])) ws tys _ _ H locs _ cells slots hM hL hp hI hl hc hs
          · rw [← zNx_at hk.2.1]
            exact ih p e s m args below meth c j hj C ws0 hZt r hokr _ _ _ _ _ _ (hex2.2 (by rw [mzCnd_eq]; simp [h9])) ws tys _ _ H locs _ cells slots hM hL hp hI hl hc hs
      | tableswitch d lo hi os =>
        have hk := (Bool.and_eq_true_iff (x := zDecA j pc (.tableswitch d lo hi os)) (y := zTo pc d (zB j) x && zSw pc (zB j) os.toList ts)).mp hok1
        rw [Bool.and_eq_true] at hk
        obtain ⟨n, hd⟩ := zDecA_at hk.1
        obtain ⟨a, r', rfl, hex2⟩ := mzSw_i (kd := zEx f (zN j) (zB j) (mzBlk (zB j) x)) (kq := fun b => zEx f (zN j) (zB j) (mzBlk (zB j) b)) hex
        obtain ⟨_, _, rfl, rfl, hL⟩ := hL
        rcases hex2 with ⟨h1, hex2⟩ | ⟨h1, h2, b, h3, hex2⟩
        · refine lv_tableOut hx hb hd h1 (zTo_at hk.2.1) ?_
          exact ih p e s m args below meth c j hj C ws0 hZt _ (zOkL_blk (hok j hj) x) _ _ _ _ _ _ hex2 ws tys _ _ H locs _ cells slots hM hL hp hI hl hc hs
        · obtain ⟨off, h4, h5⟩ := zSw_at hk.2.2 h3
          refine lv_tableIn hx hb hd h1 h2 (by rw [← Array.getElem?_toList]; exact h4) h5 ?_
          exact ih p e s m args below meth c j hj C ws0 hZt _ (zOkL_blk (hok j hj) b) _ _ _ _ _ _ hex2 ws tys _ _ H locs _ cells slots hM hL hp hI hl hc hs
      | ldc k =>
        match ts, hok1, hex with
        | [t0], hok1, hex =>
          have hk := (Bool.and_eq_true_iff (x := zDec j pc (.ldc k) 2) (y := zNx pc 2 r && decide ((zO j, k, x) ∈ zLi))).mp hok1
          rw [Bool.and_eq_true, decide_eq_true_eq] at hk
          have hex2 : zEx f (zN j) (zB j) r lv (.int (Int32.ofNat x) :: st) Hm bc bs = some res := hex
          refine lv_ldc hx hb hown' (zIn (Ts := []) hts (zLi_ok _ hk.2.2)) (zDec_at hk.1) ?_
          rw [← zNx_at hk.2.1]
          exact ih p e s m args below meth c j hj C ws0 hZt r hokr _ _ _ _ _ _ hex2 ws tys _ _ H locs _ cells slots hM ⟨_, _, rfl, rfl, hL⟩ hp hI hl hc hs
        | [t0, t1], hok1, hex =>
          have hk := (Bool.and_eq_true_iff (x := zDec j pc (.ldc k) 2) (y := zDec j (pc + 2) (.invokevirtual y) 3 && (zNx pc 5 r && (decide ((zO j, k, x, y, 0) ∈ zLt) && zRoom j 2 40)))).mp hok1
          rw [Bool.and_eq_true, Bool.and_eq_true, Bool.and_eq_true, decide_eq_true_eq] at hk
          obtain ⟨hd0, hd1, hn, hlt, hrm⟩ := hk
          obtain ⟨hwd, hex2⟩ := mzSln_i (k := zEx f (zN j) (zB j) r) hex
          obtain ⟨hH, hP, hK, hDd, hS⟩ := id hI
          obtain ⟨adK, adV, hst, hrf⟩ := id hZt
          obtain ⟨tx, hR⟩ := hrf _ hlt
          obtain ⟨hx2, -, hlk⟩ := zLt_ok _ hlt
          have hT := hst x hx2
          have hroom : (st'.map fun v => v.category).sum ≤ 8 := by rw [zrL_cats hL]; exact hwd
          refine va_ldcS hx hb hown' hR (zDec_at hd0) ?_
          refine va_calli (va_runV (As := []) (rest := st') (b := adK x) (C := "java/lang/String") ⟨hx, hb, hml', hown', hts⟩ (c_len l (adK x) (adV x) (sLn.getD x 0) (fun j => (sBy.getD x []).getD j 0) (s_chars x hx2).2.1) ⟨callB_of 0 hts (sJw_in (zws_own j) sk_len.1) rfl rfl rfl (zIn (Ts := []) hts sk_len.2) (zIn (Ts := []) hts hlk) ⟨by decide +kernel, by decide +kernel, by decide +kernel⟩ ⟨(zRoom_at hrm).1, (zRoom_at hrm).2⟩, zIn (Ts := []) hts si_len.1, zIn (Ts := []) hts si_len.2⟩ ⟨sPc_blind, s_recv hT.1 hS, (fun U hU hW => ⟨rfl, hT.at hS hU hW⟩)⟩ rfl rfl hl.1 rfl (lv_room hroom) (zDec_at hd1) ⟨by show cells + 0 ≤ zmc j; omega, by show slots + 0 ≤ zms j; omega⟩) hS (fun _ _ z => z.elim) (fun _ z => z.elim) (fun v u t2 H1 locs1 ht hvm hp2 _ hsz hkp hS1 => ?_)
          subst hp2
          have hPk : ∀ q : Nat, q < H.size → H1[q]? = H[q]? := fun q h => hkp q h (fun z => z)
          rw [show pc + 2 + 3 = mzPc r from (zNx_at hn).symm]
          exact ih p e s m args below meth c j hj C ws0 hZt r hokr _ _ _ _ _ _ hex2 ws tys _ _ H1 locs1 _ _ _ hM ⟨_, _, rfl, rfl, hL⟩ hp ⟨hH, fun k2 q2 h2 => (hP k2 q2 h2).kept (hPk _ (hP k2 q2 h2).lt), hK, hDd, hS1⟩ hl (by omega) (by omega)
        | [t0, a, t1], hok1, hex =>
          have hk := (Bool.and_eq_true_iff (x := zDec j pc (.ldc k) 2) (y := zDec j (pc + 2) (.iload_n (zf4 a)) 1 && (zDec j (pc + 3) (.invokevirtual y) 3 && (zNx pc 6 r && (decide ((zO j, k, x, y, 1) ∈ zLt) && zRoom j 4 85))))).mp hok1
          rw [Bool.and_eq_true, Bool.and_eq_true, Bool.and_eq_true, Bool.and_eq_true, decide_eq_true_eq] at hk
          obtain ⟨hd0, hd1, hd2, hn, hlt, hrm⟩ := hk
          obtain ⟨i, v0, hg, hi0, hi1, hwd, hex2⟩ := mzSc1_i (k := zEx f (zN j) (zB j) r) hex
          obtain ⟨_, hv', hmem⟩ := zrM_mem hM (mzGet_mem hg)
          have hv'' : _ = Value.int i := hv'
          subst hv''
          obtain ⟨hH, hP, hK, hDd, hS⟩ := id hI
          obtain ⟨adK, adV, hst, hrf⟩ := id hZt
          obtain ⟨tx, hR⟩ := hrf _ hlt
          obtain ⟨hx2, -, hlk⟩ := zLt_ok _ hlt
          have hT := hst x hx2
          have hroom : (st'.map fun v => v.category).sum ≤ 8 := by rw [zrL_cats hL]; exact hwd
          obtain ⟨hq0, hq1, hq2, hq3⟩ := s_chars x hx2
          have hlen : (i).toNatClampNeg < sLn.getD x 0 := by rw [hq0]; exact (List.getElem?_eq_some_iff.mp hi1).1
          have hch := hq3 v0 (List.mem_of_getElem? hi1)
          have hget : (sBy.getD x []).getD (i).toNatClampNeg 0 = v0 := by rw [List.getD_eq_getElem?_getD, hi1]; rfl
          have hin := s_in hi0 hlen hq2
          refine va_ldcS hx hb hown' hR (zDec_at hd0) ?_
          refine lv_iload_n hx hb (zDec_at hd1) rfl (hl.2.2 _ hmem) ?_
          refine va_calli (va_runV (As := [.int i]) (rest := st') (b := adK x) (C := "java/lang/String") ⟨hx, hb, hml', hown', hts⟩ (c_chr l (adK x) (adV x) (sLn.getD x 0) (fun j => (sBy.getD x []).getD j 0) i v0 hi0 hin.1 hin.2 (by rw [hget]; exact hch.1) hch.2) ⟨callB_of 1 hts (sJw_in (zws_own j) sk_chr.1) rfl rfl rfl (zIn (Ts := []) hts sk_chr.2) (zIn (Ts := []) hts hlk) ⟨by decide +kernel, by decide +kernel, by decide +kernel⟩ ⟨(zRoom_at hrm).1, (zRoom_at hrm).2⟩, zIn (Ts := []) hts si_chr.1, zIn (Ts := []) hts si_chr.2⟩ ⟨sPc_blind, s_recv hT.1 hS, (fun U hU hW => ⟨rfl, hT.at hS hU hW⟩)⟩ rfl rfl hl.1 rfl (lv_room hroom) (zDec_at hd2) ⟨by show cells + 0 ≤ zmc j; omega, by show slots + 0 ≤ zms j; omega⟩) hS (fun _ _ z => z.elim) (fun _ z => z.elim) (fun v u t2 H1 locs1 ht hvm hp2 _ hsz hkp hS1 => ?_)
          subst hp2
          have hPk : ∀ q : Nat, q < H.size → H1[q]? = H[q]? := fun q h => hkp q h (fun z => z)
          rw [show pc + 2 + 1 + 3 = mzPc r from (zNx_at hn).symm]
          exact ih p e s m args below meth c j hj C ws0 hZt r hokr _ _ _ _ _ _ hex2 ws tys _ _ H1 locs1 _ _ _ hM ⟨_, _, rfl, rfl, hL⟩ hp ⟨hH, fun k2 q2 h2 => (hP k2 q2 h2).kept (hPk _ (hP k2 q2 h2).lt), hK, hDd, hS1⟩ hl (by omega) (by omega)
        | [t0, a, t1, b], hok1, hex =>
          have hk := (Bool.and_eq_true_iff (x := zDec j pc (.ldc k) 2) (y := zDec j (pc + 2) (.iload_n (zf4 a)) 1 && (zDec j (pc + 3) (.iload_n (zf4 b)) 1 && (zDec j (pc + 4) .iadd 1 && (zDec j (pc + 5) (.invokevirtual y) 3 && (zNx pc 8 r && (decide ((zO j, k, x, y, 1) ∈ zLt) && zRoom j 4 85))))))).mp hok1
          rw [Bool.and_eq_true, Bool.and_eq_true, Bool.and_eq_true, Bool.and_eq_true, Bool.and_eq_true, Bool.and_eq_true, decide_eq_true_eq] at hk
          obtain ⟨hd0, hd1, hd2, hd3, hd4, hn, hlt, hrm⟩ := hk
          obtain ⟨i1, i2, v0, hg, hg2, hi0, hi1, hwd, hex2⟩ := mzSc2_i (k := zEx f (zN j) (zB j) r) hex
          obtain ⟨_, hv', hmem⟩ := zrM_mem hM (mzGet_mem hg)
          have hv'' : _ = Value.int i1 := hv'
          subst hv''
          obtain ⟨_, hv', hmem2⟩ := zrM_mem hM (mzGet_mem hg2)
          have hv'' : _ = Value.int i2 := hv'
          subst hv''
          obtain ⟨hH, hP, hK, hDd, hS⟩ := id hI
          obtain ⟨adK, adV, hst, hrf⟩ := id hZt
          obtain ⟨tx, hR⟩ := hrf _ hlt
          obtain ⟨hx2, -, hlk⟩ := zLt_ok _ hlt
          have hT := hst x hx2
          have hroom : (st'.map fun v => v.category).sum ≤ 8 := by rw [zrL_cats hL]; exact hwd
          obtain ⟨hq0, hq1, hq2, hq3⟩ := s_chars x hx2
          have hlen : ((i1 + i2)).toNatClampNeg < sLn.getD x 0 := by rw [hq0]; exact (List.getElem?_eq_some_iff.mp hi1).1
          have hch := hq3 v0 (List.mem_of_getElem? hi1)
          have hget : (sBy.getD x []).getD ((i1 + i2)).toNatClampNeg 0 = v0 := by rw [List.getD_eq_getElem?_getD, hi1]; rfl
          have hin := s_in hi0 hlen hq2
          refine va_ldcS hx hb hown' hR (zDec_at hd0) ?_
          refine lv_iload_n hx hb (zDec_at hd1) rfl (hl.2.2 _ hmem) ?_
          refine lv_iload_n hx hb (zDec_at hd2) rfl (hl.2.2 _ hmem2) ?_
          refine lv_iadd hx hb (zDec_at hd3) ?_
          refine va_calli (va_runV (As := [.int (i1 + i2)]) (rest := st') (b := adK x) (C := "java/lang/String") ⟨hx, hb, hml', hown', hts⟩ (c_chr l (adK x) (adV x) (sLn.getD x 0) (fun j => (sBy.getD x []).getD j 0) (i1 + i2) v0 hi0 hin.1 hin.2 (by rw [hget]; exact hch.1) hch.2) ⟨callB_of 1 hts (sJw_in (zws_own j) sk_chr.1) rfl rfl rfl (zIn (Ts := []) hts sk_chr.2) (zIn (Ts := []) hts hlk) ⟨by decide +kernel, by decide +kernel, by decide +kernel⟩ ⟨(zRoom_at hrm).1, (zRoom_at hrm).2⟩, zIn (Ts := []) hts si_chr.1, zIn (Ts := []) hts si_chr.2⟩ ⟨sPc_blind, s_recv hT.1 hS, (fun U hU hW => ⟨rfl, hT.at hS hU hW⟩)⟩ rfl rfl hl.1 rfl (lv_room hroom) (zDec_at hd4) ⟨by show cells + 0 ≤ zmc j; omega, by show slots + 0 ≤ zms j; omega⟩) hS (fun _ _ z => z.elim) (fun _ z => z.elim) (fun v u t2 H1 locs1 ht hvm hp2 _ hsz hkp hS1 => ?_)
          subst hp2
          have hPk : ∀ q : Nat, q < H.size → H1[q]? = H[q]? := fun q h => hkp q h (fun z => z)
          rw [show pc + 2 + 1 + 1 + 1 + 3 = mzPc r from (zNx_at hn).symm]
          exact ih p e s m args below meth c j hj C ws0 hZt r hokr _ _ _ _ _ _ hex2 ws tys _ _ H1 locs1 _ _ _ hM ⟨_, _, rfl, rfl, hL⟩ hp ⟨hH, fun k2 q2 h2 => (hP k2 q2 h2).kept (hPk _ (hP k2 q2 h2).lt), hK, hDd, hS1⟩ hl (by omega) (by omega)
        | [], _, hex => exact absurd (show (none : mzR) = some res from hex) (by simp)
        | _ :: _ :: _ :: _ :: _ :: _, _, hex => exact absurd (show (none : mzR) = some res from hex) (by simp)
      | ldc2_w k =>
        match ts, hok1, hex with
        | [t0], hok1, hex =>
          have hk := (Bool.and_eq_true_iff (x := zDec j pc (.ldc2_w k) 3) (y := zNx pc 3 r && decide ((zO j, k, x) ∈ zLl))).mp hok1
          rw [Bool.and_eq_true, decide_eq_true_eq] at hk
          have hex2 : zEx f (zN j) (zB j) r lv (.long (Int64.ofNat x) :: st) Hm bc bs = some res := hex
          refine lv_ldc2 hx hb hown' (zIn (Ts := []) hts (zLl_ok _ hk.2.2)) (zDec_at hk.1) ?_
          rw [← zNx_at hk.2.1]
          exact ih p e s m args below meth c j hj C ws0 hZt r hokr _ _ _ _ _ _ hex2 ws tys _ _ H locs _ cells slots hM ⟨_, _, rfl, rfl, hL⟩ hp hI hl hc hs
        | [], _, hex => exact absurd (show (none : mzR) = some res from hex) (by simp)
        | _ :: _ :: _, _, hex => exact absurd (show (none : mzR) = some res from hex) (by simp)
      | getfield k =>
        match ts, hok1, hex with
        | [t0], hok1, hex =>
          have hk := (Bool.and_eq_true_iff (x := zDec j pc (.getfield k) 3) (y := zNx pc 3 r && (decide ((zO j, k, x, y) ∈ zLF) || decide ((zO j, k, x, y) ∈ zLFn)))).mp hok1
          rw [Bool.and_eq_true, Bool.or_eq_true, decide_eq_true_eq, decide_eq_true_eq] at hk
          obtain ⟨a, r', fs, v, rfl, hHa, hfv, hex2⟩ := mzGf_i (k := zEx f (zN j) (zB j) r) hex
          obtain ⟨_, _, rfl, ⟨a', ha, rfl⟩, hL⟩ := hL
          obtain ⟨hH, hP, hK, hDd, hS⟩ := id hI
          obtain ⟨_, hwa, fs', rfl, hfs⟩ := zrH_get hH hHa ha
          obtain ⟨v', hv', hvv⟩ := zrL_at hfs hfv
          rcases hk.2.2 with h9 | h9
          · obtain ⟨Cn, T, N, h1, h2, h3, h4⟩ := zLF_ok _ h9
            obtain ⟨Cn2, T2, N2, ty2, g1, g2, g3, g4, -⟩ := zC_ok x (z_clt h1)
            cases g1.symm.trans h1
            refine va_get (D := D) (C := Cn) (T := T) (N := N) hx hb hts (fun w hw => zws_own j w (g2 w hw)) hown' hK hP a hwa h1 y h2 (zIn (Ts := []) hts h4) (fun q hq => by rw [← h3]; exact hq) hv' (zDec_at hk.1) ?_
            rw [← zNx_at hk.2.1]
            exact ih p e s m args below meth c j hj C ws0 hZt r hokr _ _ _ _ _ _ hex2 ws tys _ _ H locs _ cells slots hM ⟨_, _, rfl, hvv, hL⟩ hp hI hl hc hs
          · obtain ⟨Cn, T, N, h1, h2, h3, hst, h4⟩ := zLFn_ok _ h9
            obtain ⟨Cn2, T2, N2, ty2, g1, g2, g3, g4, -⟩ := zC_ok x (z_clt h1)
            cases g1.symm.trans h1
            refine va_getN (D := D) (C := Cn) (T := T) (N := N) hx hb hts (fun w hw => zws_own j w (g2 w hw)) hown' hK hP a hwa h1 y h2 (va_Nw.use rfl (hN _ h4)) (fun q hq => by rw [← h3]; exact hq) hv' (zDec_at hk.1) ?_
            rw [← zNx_at hk.2.1]
            exact ih p e s m args below meth c j hj C ws0 hZt r hokr _ _ _ _ _ _ hex2 ws tys _ _ H locs _ cells slots hM ⟨_, _, rfl, hvv, hL⟩ hp hI hl hc hs
        | [], _, hex => exact absurd (show (none : mzR) = some res from hex) (by simp)
        | _ :: _ :: _, _, hex => exact absurd (show (none : mzR) = some res from hex) (by simp)
      | putfield k =>
        match ts, hok1, hex with
        | [t0], hok1, hex =>
          have hk := (Bool.and_eq_true_iff (x := zDec j pc (.putfield k) 3) (y := zNx pc 3 r && ((decide ((zO j, k, x, y) ∈ zLF) && zPt j x y t0 false) || (decide ((zO j, k, x, y) ∈ zLFn) && zPt j x y t0 true)))).mp hok1
          rw [Bool.and_eq_true, Bool.or_eq_true, Bool.and_eq_true, Bool.and_eq_true, decide_eq_true_eq, decide_eq_true_eq] at hk
          obtain ⟨a, r', fs, v, rfl, hHa, hfl, hft, hex2⟩ := mzPf_i (k := zEx f (zN j) (zB j) r) hex
          obtain ⟨v', _, rfl, hvv, _, _, rfl, ⟨a', ha, rfl⟩, hL⟩ := hL
          obtain ⟨hH, hP, hK, hDd, hS⟩ := id hI
          obtain ⟨_, hwa, fs', rfl, hfs⟩ := zrH_get hH hHa ha
          have hfl' : y < fs'.length := by rw [zrL_len hfs]; exact hfl
          rcases hk.2.2 with ⟨h9, hpt⟩ | ⟨h9, hpt⟩
          · obtain ⟨Cn, T, N, h1, h2, h3, h4⟩ := zLF_ok _ h9
            obtain ⟨Cn2, T2, N2, ty2, g1, g2, g3, g4, -⟩ := zC_ok x (z_clt h1)
            cases g1.symm.trans h1
            obtain ⟨ty, p1, p2, p3, p4⟩ := zPt_at h1 hpt hft hvv
            rcases p4 with p4 | ⟨-, p4, p5, p6⟩
            · refine va_put (D := D) (C := Cn) (T := T) (N := N) hx hb hts (fun w hw => zws_own j w (g2 w hw)) ty2 g3 g4 hown' hK hP hDd hS a hwa h1 y h2 (zIn (Ts := []) hts h4) (fun q hq => by rw [← h3]; exact hq) p4 p1 p2 p3 hfl' (zDec_at hk.1) (fun H1 locs1 hP hDd hS => ?_)
              rw [← zNx_at hk.2.1]
              exact ih p e s m args below meth c j hj C ws0 hZt r hokr _ _ _ _ _ _ hex2 (ws.set a (a', .inr (x, fs'.set y v'))) tys _ _ H1 locs1 _ cells slots (by rw [zad_set hwa]; exact hM) (by rw [zad_set hwa]; exact hL) (by rw [zad_set hwa]; exact hp) ⟨zrH_set hH hwa ⟨_, rfl, zrL_set hfs hvv⟩, hP, hK, hDd, hS⟩ hl hc hs
            · refine va_putF (D := D) (C := Cn) (T := T) (N := N) hx hb hts (fun w hw => zws_own j w (g2 w hw)) ty2 g3 g4 hown' hK hP hDd hS a hwa h1 y h2 (zIn (Ts := []) hts h4) (fun q hq => by rw [← h3]; exact hq) p4 (hnm.trans p6) p5 p1 p2 p3 hfl' (zDec_at hk.1) (fun H1 locs1 hP hDd hS => ?_)
              rw [← zNx_at hk.2.1]
              exact ih p e s m args below meth c j hj C ws0 hZt r hokr _ _ _ _ _ _ hex2 (ws.set a (a', .inr (x, fs'.set y v'))) tys _ _ H1 locs1 _ cells slots (by rw [zad_set hwa]; exact hM) (by rw [zad_set hwa]; exact hL) (by rw [zad_set hwa]; exact hp) ⟨zrH_set hH hwa ⟨_, rfl, zrL_set hfs hvv⟩, hP, hK, hDd, hS⟩ hl hc hs
          · obtain ⟨Cn, T, N, h1, h2, h3, hst, h4⟩ := zLFn_ok _ h9
            obtain ⟨Cn2, T2, N2, ty2, g1, g2, g3, g4, -⟩ := zC_ok x (z_clt h1)
            cases g1.symm.trans h1
            obtain ⟨ty, p1, p2, p3, p4⟩ := zPt_at h1 hpt hft hvv
            rcases p4 with p4 | ⟨p4, -⟩
            · refine va_putN (D := D) (C := Cn) (T := T) (N := N) hx hb hts (fun w hw => zws_own j w (g2 w hw)) ty2 g3 g4 hown' hK hP hDd hS a hwa h1 y h2 (va_Nw.use rfl (hN _ h4)) (fun q hq => by rw [← h3]; exact hq) p4 p1 p2 p3 hfl' (zDec_at hk.1) (fun H1 locs1 hP hDd hS => ?_)
              rw [← zNx_at hk.2.1]
              exact ih p e s m args below meth c j hj C ws0 hZt r hokr _ _ _ _ _ _ hex2 (ws.set a (a', .inr (x, fs'.set y v'))) tys _ _ H1 locs1 _ cells slots (by rw [zad_set hwa]; exact hM) (by rw [zad_set hwa]; exact hL) (by rw [zad_set hwa]; exact hp) ⟨zrH_set hH hwa ⟨_, rfl, zrL_set hfs hvv⟩, hP, hK, hDd, hS⟩ hl hc hs
            · cases p4
        | [], _, hex => exact absurd (show (none : mzR) = some res from hex) (by simp)
        | _ :: _ :: _, _, hex => exact absurd (show (none : mzR) = some res from hex) (by simp)
      | iaload =>
        have hk := (Bool.and_eq_true_iff (x := zDec j pc (.iaload) 1) (y := zNx pc 1 r)).mp hok1
        obtain ⟨i, a, r', d, l0, rfl, hHa, hbx, hin, hex2⟩ := mzAl_i (b := false) (k := zEx f (zN j) (zB j) r) hex
        obtain ⟨_, _, rfl, rfl, _, _, rfl, ⟨a', ha, rfl⟩, hL⟩ := hL
        obtain ⟨hH, hP, hK, hDd, hS⟩ := id hI
        obtain ⟨_, hwa, cA, hty, rfl⟩ := zrH_get hH hHa ha
        obtain ⟨t0, ht0⟩ := z_tys hty
        match d, hbx, ht0 with
        | 0, hbx, ht0 =>
          refine va_iald hx hb hK hP a t0 hwa ht0 hin (zDec_at hk.1) ?_
          rw [← zNx_at hk.2]
          exact ih p e s m args below meth c j hj C ws0 hZt r hokr _ _ _ _ _ _ hex2 ws tys _ _ H locs _ cells slots hM ⟨_, _, rfl, rfl, hL⟩ hp hI hl hc hs
        | _ + 1, hbx, ht0 => cases hbx
      | baload =>
        have hk := (Bool.and_eq_true_iff (x := zDec j pc (.baload) 1) (y := zNx pc 1 r)).mp hok1
        obtain ⟨i, a, r', d, l0, rfl, hHa, hbx, hin, hex2⟩ := mzAl_i (b := true) (k := zEx f (zN j) (zB j) r) hex
        obtain ⟨_, _, rfl, rfl, _, _, rfl, ⟨a', ha, rfl⟩, hL⟩ := hL
        obtain ⟨hH, hP, hK, hDd, hS⟩ := id hI
        obtain ⟨_, hwa, cA, hty, rfl⟩ := zrH_get hH hHa ha
        obtain ⟨t0, ht0⟩ := z_tys hty
        match d, hbx, ht0 with
        | 0, hbx, ht0 => cases hbx
        | 1, hbx, ht0 =>
          refine va_zald hx hb hK hP a t0 hwa ht0 hin (zDec_at hk.1) ?_
          rw [← zNx_at hk.2]
          exact ih p e s m args below meth c j hj C ws0 hZt r hokr _ _ _ _ _ _ hex2 ws tys _ _ H locs _ cells slots hM ⟨_, _, rfl, rfl, hL⟩ hp hI hl hc hs
        | _ + 2, hbx, ht0 =>
          refine va_bald hx hb hK hP a t0 hwa ht0 hin (zDec_at hk.1) ?_
          rw [← zNx_at hk.2]
          exact ih p e s m args below meth c j hj C ws0 hZt r hokr _ _ _ _ _ _ hex2 ws tys _ _ H locs _ cells slots hM ⟨_, _, rfl, rfl, hL⟩ hp hI hl hc hs
      | iastore =>
        have hk := (Bool.and_eq_true_iff (x := zDec j pc (.iastore) 1) (y := zNx pc 1 r)).mp hok1
        obtain ⟨v, i, a, r', d, l0, rfl, hHa, hbx, hin, hex2⟩ := mzAs_i (b := false) (k := zEx f (zN j) (zB j) r) hex
        obtain ⟨_, _, rfl, rfl, _, _, rfl, rfl, _, _, rfl, ⟨a', ha, rfl⟩, hL⟩ := hL
        obtain ⟨hH, hP, hK, hDd, hS⟩ := id hI
        obtain ⟨_, hwa, cA, hty, rfl⟩ := zrH_get hH hHa ha
        obtain ⟨t0, ht0⟩ := z_tys hty
        have hlt : i.toNatClampNeg < l0.length := Nat.not_le.mp fun q => hin (Or.inr q)
        match d, hbx, ht0, hty, hex2 with
        | 0, hbx, ht0, hty, hex2 =>
          refine va_iast hx hb hK hP hDd hS a t0 hwa ht0 hin (zDec_at hk.1) (fun H1 locs1 hP hDd hS => ?_)
          rw [← zNx_at hk.2]
          exact ih p e s m args below meth c j hj C ws0 hZt r hokr _ _ _ _ _ _ hex2 (ws.set a (a', .inl (cA, l0.length, .inl (upd (fun k => l0.getD k 0) i.toNatClampNeg (v))))) tys _ _ H1 locs1 _ cells slots (by rw [zad_set hwa]; exact hM) (by rw [zad_set hwa]; exact hL) (by rw [zad_set hwa]; exact hp) ⟨zrH_set hH hwa ⟨cA, hty, by rw [← z_upd _ hlt, List.length_set]; rfl⟩, hP, hK, hDd, hS⟩ hl hc hs
        | _ + 1, hbx, ht0, hty, hex2 => cases hbx
      | bastore =>
        have hk := (Bool.and_eq_true_iff (x := zDec j pc (.bastore) 1) (y := zNx pc 1 r)).mp hok1
        obtain ⟨v, i, a, r', d, l0, rfl, hHa, hbx, hin, hex2⟩ := mzAs_i (b := true) (k := zEx f (zN j) (zB j) r) hex
        obtain ⟨_, _, rfl, rfl, _, _, rfl, rfl, _, _, rfl, ⟨a', ha, rfl⟩, hL⟩ := hL
        obtain ⟨hH, hP, hK, hDd, hS⟩ := id hI
        obtain ⟨_, hwa, cA, hty, rfl⟩ := zrH_get hH hHa ha
        obtain ⟨t0, ht0⟩ := z_tys hty
        have hlt : i.toNatClampNeg < l0.length := Nat.not_le.mp fun q => hin (Or.inr q)
        match d, hbx, ht0, hty, hex2 with
        | 0, hbx, ht0, hty, hex2 => cases hbx
        | 1, hbx, ht0, hty, hex2 =>
          refine va_zast hx hb hK hP hDd hS a t0 hwa ht0 hin (zDec_at hk.1) (fun H1 locs1 hP hDd hS => ?_)
          rw [← zNx_at hk.2]
          exact ih p e s m args below meth c j hj C ws0 hZt r hokr _ _ _ _ _ _ hex2 (ws.set a (a', .inl (cA, l0.length, .inl (upd (fun k => l0.getD k 0) i.toNatClampNeg (vp_nar .boolean v))))) tys _ _ H1 locs1 _ cells slots (by rw [zad_set hwa]; exact hM) (by rw [zad_set hwa]; exact hL) (by rw [zad_set hwa]; exact hp) ⟨zrH_set hH hwa ⟨cA, hty, by rw [← z_upd _ hlt, List.length_set]; rfl⟩, hP, hK, hDd, hS⟩ hl hc hs
        | _ + 2, hbx, ht0, hty, hex2 =>
          refine va_bast hx hb hK hP hDd hS a t0 hwa ht0 hin (zDec_at hk.1) (fun H1 locs1 hP hDd hS => ?_)
          rw [← zNx_at hk.2]
          exact ih p e s m args below meth c j hj C ws0 hZt r hokr _ _ _ _ _ _ hex2 (ws.set a (a', .inl (cA, l0.length, .inl (upd (fun k => l0.getD k 0) i.toNatClampNeg (vp_nar .byte v))))) tys _ _ H1 locs1 _ cells slots (by rw [zad_set hwa]; exact hM) (by rw [zad_set hwa]; exact hL) (by rw [zad_set hwa]; exact hp) ⟨zrH_set hH hwa ⟨cA, hty, by rw [← z_upd _ hlt, List.length_set]; rfl⟩, hP, hK, hDd, hS⟩ hl hc hs
      | arraylength =>
        have hk := (Bool.and_eq_true_iff (x := zDec j pc (.arraylength) 1) (y := zNx pc 1 r)).mp hok1
        obtain ⟨a, r', d, l0, rfl, hHa, hex2⟩ := mzLen_i (k := zEx f (zN j) (zB j) r) hex
        obtain ⟨_, _, rfl, ⟨a', ha, rfl⟩, hL⟩ := hL
        obtain ⟨hH, hP, hK, hDd, hS⟩ := id hI
        obtain ⟨_, hwa, cA, hty, rfl⟩ := zrH_get hH hHa ha
        obtain ⟨t0, ht0⟩ := z_tys hty
        refine va_alen hx hb hK hP a t0 hwa ht0 rfl (zDec_at hk.1) ?_
        rw [← zNx_at hk.2]
        exact ih p e s m args below meth c j hj C ws0 hZt r hokr _ _ _ _ _ _ hex2 ws tys _ _ H locs _ cells slots hM ⟨_, _, rfl, rfl, hL⟩ hp hI hl hc hs
      | newarray aty =>
        match ts, hok1, hex with
        | [t0], hok1, hex =>
          have hk := (Bool.and_eq_true_iff (x := zDec j pc (.newarray aty) 2) (y := zNx pc 2 r && zAt aty x)).mp hok1
          rw [Bool.and_eq_true] at hk
          obtain ⟨n, r', rfl, hn, h1, h2, h3, hex2⟩ := mzNewa_i (k := zEx f (zN j) (zB j) r) hex
          obtain ⟨_, _, rfl, rfl, hL⟩ := hL
          obtain ⟨hH, hP, hK, hDd, hS⟩ := id hI
          obtain ⟨hk1, hk2, hk3⟩ := hk
          have hk : zDec j pc (.newarray aty) 2 = true ∧ zNx pc 2 r = true ∧ True := ⟨hk1, hk2, trivial⟩
          unfold zAt at hk3
          split at hk3
          · refine va_newa (atype := .int) (ty := .int) (N' := n.toNatClampNeg) (a0 := (n.toNatClampNeg, .inl (fun _ => 0))) hx hb (zIn (Ts := []) hts zAI.1) rfl hK hP hDd hS zAge (fun _ => rfl) hn (rfl) (by show n.toNatClampNeg * _ ≤ _; simp only [componentBytes]; omega) (by show cells + 1 ≤ zmc j; omega) (by show slots + n.toNatClampNeg ≤ zms j; omega) (zDec_at hk.1) (fun q cA H1 hK hP hDd hS => ?_)
            rw [← zNx_at hk.2.1]
            exact ih p e s m args below meth c j hj C ws0 hZt r hokr _ _ _ _ _ _ hex2 _ (tys ++ [(cA, .int)]) _ _ H1 locs _ _ _ (zrM_mono (z_pp _ _ _) hM) ⟨_, _, rfl, ⟨q, zad_len hH _ _, rfl⟩, zrL_mono (z_pp _ _ _) hL⟩ (hp.trans (z_pp _ _ _)) ⟨zrH_push hH (fun q hq => List.mem_append_left _ hq) ⟨cA, List.mem_append_right _ List.mem_cons_self, z_repl _ _⟩, hP, hK, hDd, hS⟩ hl (by omega) (by omega)
          · refine va_newa (atype := .boolean) (ty := .boolean) (N' := n.toNatClampNeg) (a0 := (n.toNatClampNeg, .inl (fun _ => 0))) hx hb (zIn (Ts := []) hts zAI.2.1) rfl hK hP hDd hS zAge (fun _ => rfl) hn (rfl) (by show n.toNatClampNeg * _ ≤ _; simp only [componentBytes]; omega) (by show cells + 1 ≤ zmc j; omega) (by show slots + n.toNatClampNeg ≤ zms j; omega) (zDec_at hk.1) (fun q cA H1 hK hP hDd hS => ?_)
            rw [← zNx_at hk.2.1]
            exact ih p e s m args below meth c j hj C ws0 hZt r hokr _ _ _ _ _ _ hex2 _ (tys ++ [(cA, .boolean)]) _ _ H1 locs _ _ _ (zrM_mono (z_pp _ _ _) hM) ⟨_, _, rfl, ⟨q, zad_len hH _ _, rfl⟩, zrL_mono (z_pp _ _ _) hL⟩ (hp.trans (z_pp _ _ _)) ⟨zrH_push hH (fun q hq => List.mem_append_left _ hq) ⟨cA, List.mem_append_right _ List.mem_cons_self, z_repl _ _⟩, hP, hK, hDd, hS⟩ hl (by omega) (by omega)
          · refine va_newa (atype := .byte) (ty := .byte) (N' := n.toNatClampNeg) (a0 := (n.toNatClampNeg, .inl (fun _ => 0))) hx hb (zIn (Ts := []) hts zAI.2.2) rfl hK hP hDd hS zAge (fun _ => rfl) hn (rfl) (by show n.toNatClampNeg * _ ≤ _; simp only [componentBytes]; omega) (by show cells + 1 ≤ zmc j; omega) (by show slots + n.toNatClampNeg ≤ zms j; omega) (zDec_at hk.1) (fun q cA H1 hK hP hDd hS => ?_)
            rw [← zNx_at hk.2.1]
            exact ih p e s m args below meth c j hj C ws0 hZt r hokr _ _ _ _ _ _ hex2 _ (tys ++ [(cA, .byte)]) _ _ H1 locs _ _ _ (zrM_mono (z_pp _ _ _) hM) ⟨_, _, rfl, ⟨q, zad_len hH _ _, rfl⟩, zrL_mono (z_pp _ _ _) hL⟩ (hp.trans (z_pp _ _ _)) ⟨zrH_push hH (fun q hq => List.mem_append_left _ hq) ⟨cA, List.mem_append_right _ List.mem_cons_self, z_repl _ _⟩, hP, hK, hDd, hS⟩ hl (by omega) (by omega)
          · cases hk3
        | [], _, hex => exact absurd (show (none : mzR) = some res from hex) (by simp)
        | _ :: _ :: _, _, hex => exact absurd (show (none : mzR) = some res from hex) (by simp)
      | new k =>
        match ts, hok1, hex with
        | [t0], hok1, hex =>
          have hk := (Bool.and_eq_true_iff (x := zDec j pc (.new k) 3) (y := zNx pc 3 r && (decide ((zO j, k, x) ∈ zLw) && Nat.blt x 11))).mp hok1
          rw [Bool.and_eq_true, Bool.and_eq_true, decide_eq_true_eq] at hk
          obtain ⟨h1, h2, hex2⟩ := mzNew_i (k := zEx f (zN j) (zB j) r) hex
          obtain ⟨hH, hP, hK, hDd, hS⟩ := id hI
          obtain ⟨Cn, T, N, q1, q2⟩ := zLw_ok _ hk.2.2.1
          obtain ⟨Cn2, T2, N2, ty2, g1, g2, g3, g4, g5, g6, g7, g8, g9⟩ := zC_ok x (Nat.blt_eq.mp hk.2.2.2)
          cases g1.symm.trans q1
          refine va_new (ci := x) (fs := zD x) (C := Cn) (T := T) (N := N) hx hb hts (fun w hw => zws_own j w (g2 w hw)) ty2 g3 hown' (zIn (Ts := []) hts q2) (zIn (Ts := []) hts g5) (zIn (Ts := []) hts g6) hK hP hDd hS zAge q1 g9 (by show cells + 1 ≤ zmc j; omega) (by show slots + N ≤ zms j; omega) (zDec_at hk.1) (fun q H1 hP hDd hS => ?_)
          rw [← zNx_at hk.2.1]
          exact ih p e s m args below meth c j hj C ws0 hZt r hokr _ _ _ _ _ _ hex2 _ tys _ _ H1 locs _ _ _ (zrM_mono (z_pp _ _ _) hM) ⟨_, _, rfl, ⟨q, zad_len hH _ _, rfl⟩, zrL_mono (z_pp _ _ _) hL⟩ (hp.trans (z_pp _ _ _)) ⟨zrH_push hH (fun q hq => hq) ⟨_, rfl, z_dflt x (Nat.blt_eq.mp hk.2.2.2)⟩, hP, hK, hDd, hS⟩ hl (by omega) (by omega)
        | [], _, hex => exact absurd (show (none : mzR) = some res from hex) (by simp)
        | _ :: _ :: _, _, hex => exact absurd (show (none : mzR) = some res from hex) (by simp)
      | invokevirtual k =>
        match ts, hok1, hex with
        | [na, mc, ms], hok1, hex =>
          have hk := (Bool.and_eq_true_iff (x := zDec j pc (.invokevirtual k) 3) (y := zNx pc 3 r && ((decide ((zO j, k, x, 0) ∈ zLM) || decide ((zO j, k, x, 0) ∈ zLMn)) && (zCl j x na mc ms && (decide (x ∈ zKv) && (Nat.beq y (zO x) && Nat.blt y 11)))))).mp hok1
          rw [Bool.and_eq_true, Bool.and_eq_true, Bool.and_eq_true, Bool.or_eq_true, decide_eq_true_eq, decide_eq_true_eq] at hk
          obtain ⟨hd, hn, hlk, hcl, hkd⟩ := hk
          obtain ⟨hx1, hna, hmc, hms, hfr, hlo⟩ := zCl_at hcl
          obtain ⟨hg, hln, hwd, hmc', hms', hwa, o, H1m, hcall, hex2⟩ := mzInv_i (g := mzRcv na y) (nl := zN x) (ca := zEx f (zN x) (zB x) (mzBlk (zB x) 0)) (k := zEx f (zN j) (zB j) r) hex
          subst hna; subst hmc; subst hms
          have hlen' := zrL_len hL
          have hav : zrL (zad ws) (st.take (zna x)).reverse (st'.take (zna x)).reverse := zrL_rev (zrL_take _ hL)
          have hrs : zrL (zad ws) (st.drop (zna x)) (st'.drop (zna x)) := zrL_drop _ hL
          have hroom : ((st'.drop (zna x)).map fun v => v.category).sum ≤ 8 := by rw [zrL_cats hrs]; exact hwd
          obtain ⟨hH, hP, hK, hDd, hS⟩ := id hI
          obtain ⟨hpl, hnd, hcn, hnl, hcd, hin⟩ := zMf_ok x hx1
          have hMet := z_met_of (l := l) (D := D) hok ih hx1 (as := (st.take (zna x)).reverse) (Hm := Hm) (res := (o, H1m)) (by rw [z_wdr]; exact hwa) hcall ws tys H.size _ hav hH
          rw [Bool.and_eq_true, Bool.and_eq_true, decide_eq_true_eq] at hkd
          obtain ⟨hd1, hna0, him, hsel⟩ := zKv_ok x hkd.1
          have hy : y = zO x := Nat.eq_of_beq_eq_true hkd.2.1
          obtain ⟨a, fs, hsa, hHa⟩ := mzRcv_i hg
          obtain ⟨w, hw1, a', ha, rfl⟩ := zrL_at hL hsa
          obtain ⟨_, hwb, fs', rfl, hfs⟩ := zrH_get hH hHa ha
          obtain ⟨Cn, T, N, ty2, g1, -, -, -, -, -, g7, -⟩ := zC_ok y (Nat.blt_eq.mp hkd.2.2)
          obtain ⟨As, hAs, hst⟩ := z_split hw1 hna0 (by rw [hlen']; exact hln)
          have hCn : Cn = (zM x).1.cls := by rw [hcn, ← g7, hy]; rfl
          rw [hAs.1] at hMet
          rcases hlk with h9 | h9
          · refine z_calls hI (va_runV (As := As) (rest := st'.drop (zna x)) (b := a') (C := (zM x).1.cls) ⟨hx, hb, hml', hown', hts⟩ hMet ⟨callB_of (zna x - 1) hts (zws_in (zws_own j) hx1) rfl rfl rfl (zIn (Ts := []) hts hin) (zIn (Ts := []) hts (zLM_ok _ h9)) ⟨hnd.1, hnd.2, hd1⟩ ⟨hfr, hlo⟩, zIn (Ts := []) hts him, zIn (Ts := []) hts hsel⟩ ⟨zPre_blind, hCn ▸ va_recv hK hP g1 hwb, (fun U hU hW => ⟨rfl, by rw [hU], by rw [hU]; exact hP, va_K.moved hW.alike hK, hDd.weaken (fun _ _ _ _ => trivial), hN.warm hW, hZt.go hS (z_sub hDd hS zAge) hU hW⟩)⟩ rfl hAs.2 hl.1 hst (lv_room hroom) (zDec_at hd) ⟨by show cells + zmc x ≤ zmc j; omega, by show slots + zms x ≤ zms j; omega⟩) (fun v ws1 tys1 H1 locs1 hO hpre hI1 => ?_)
            rw [← zNx_at hn]
            exact ih p e s m args below meth c j hj C ws0 hZt r hokr _ _ _ _ _ _ hex2 ws1 tys1 _ _ H1 locs1 _ _ _ (zrM_mono hpre hM) (zrL_app (z_opt hO) (zrL_mono hpre hrs)) (hp.trans hpre) hI1 hl (by omega) (by omega)
          · obtain ⟨hst0, h4⟩ := zLMn_ok _ h9
            refine z_calls hI (va_runVN (As := As) (rest := st'.drop (zna x)) (b := a') (C := (zM x).1.cls) ⟨hx, hb, hml', hown', hts⟩ hMet ⟨va_cnB (zna x - 1) hts (zws_in (zws_own j) hx1) rfl rfl rfl (hN _ h4) (zIn (Ts := []) hts hin) ⟨hnd.1, hnd.2, hd1⟩ ⟨hfr, hlo⟩, zIn (Ts := []) hts him, zIn (Ts := []) hts hsel⟩ ⟨zPre_blind, hCn ▸ va_recv hK hP g1 hwb, (fun U hU hW => ⟨rfl, by rw [hU], by rw [hU]; exact hP, va_K.moved hW.alike hK, hDd.weaken (fun _ _ _ _ => trivial), hN.warm hW, hZt.go hS (z_sub hDd hS zAge) hU hW⟩)⟩ rfl hAs.2 hl.1 hst (lv_room hroom) (zDec_at hd) ⟨by show cells + zmc x ≤ zmc j; omega, by show slots + zms x ≤ zms j; omega⟩) (fun v ws1 tys1 H1 locs1 hO hpre hI1 => ?_)
            rw [← zNx_at hn]
            exact ih p e s m args below meth c j hj C ws0 hZt r hokr _ _ _ _ _ _ hex2 ws1 tys1 _ _ H1 locs1 _ _ _ (zrM_mono hpre hM) (zrL_app (z_opt hO) (zrL_mono hpre hrs)) (hp.trans hpre) hI1 hl (by omega) (by omega)
        | [_], _, hex => exact absurd (show (none : mzR) = some res from hex) (by simp)
        | [], _, hex => exact absurd (show (none : mzR) = some res from hex) (by simp)
        | [_, _], _, hex => exact absurd (show (none : mzR) = some res from hex) (by simp)
        | _ :: _ :: _ :: _ :: _, _, hex => exact absurd (show (none : mzR) = some res from hex) (by simp)
      | invokestatic k =>
        match ts, hok1, hex with
        | [na, mc, ms], hok1, hex =>
          have hk := (Bool.and_eq_true_iff (x := zDec j pc (.invokestatic k) 3) (y := zNx pc 3 r && ((decide ((zO j, k, x, 1) ∈ zLM) || decide ((zO j, k, x, 1) ∈ zLMn)) && (zCl j x na mc ms && decide (x ∈ zKs))))).mp hok1
          rw [Bool.and_eq_true, Bool.and_eq_true, Bool.and_eq_true, Bool.or_eq_true, decide_eq_true_eq, decide_eq_true_eq] at hk
          obtain ⟨hd, hn, hlk, hcl, hkd⟩ := hk
          obtain ⟨hx1, hna, hmc, hms, hfr, hlo⟩ := zCl_at hcl
          obtain ⟨hg, hln, hwd, hmc', hms', hwa, o, H1m, hcall, hex2⟩ := mzInv_i (g := fun _ _ => true) (nl := zN x) (ca := zEx f (zN x) (zB x) (mzBlk (zB x) 0)) (k := zEx f (zN j) (zB j) r) hex
          subst hna; subst hmc; subst hms
          have hlen' := zrL_len hL
          have hav : zrL (zad ws) (st.take (zna x)).reverse (st'.take (zna x)).reverse := zrL_rev (zrL_take _ hL)
          have hrs : zrL (zad ws) (st.drop (zna x)) (st'.drop (zna x)) := zrL_drop _ hL
          have hroom : ((st'.drop (zna x)).map fun v => v.category).sum ≤ 8 := by rw [zrL_cats hrs]; exact hwd
          obtain ⟨hH, hP, hK, hDd, hS⟩ := id hI
          obtain ⟨hpl, hnd, hcn, hnl, hcd, hin⟩ := zMf_ok x hx1
          have hMet := z_met_of (l := l) (D := D) hok ih hx1 (as := (st.take (zna x)).reverse) (Hm := Hm) (res := (o, H1m)) (by rw [z_wdr]; exact hwa) hcall ws tys H.size _ hav hH
          rw [decide_eq_true_eq] at hkd
          obtain ⟨hd1, hstt⟩ := zKs_ok x hkd
          have hst : st' = ((st'.take (zna x)).reverse).reverse ++ st'.drop (zna x) := by rw [List.reverse_reverse, List.take_append_drop]
          have hnA : ((st'.take (zna x)).reverse).length = zna x := by rw [List.length_reverse, List.length_take]; omega
          rcases hlk with h9 | h9
          · refine z_calls hI (va_runS (As := (st'.take (zna x)).reverse) (rest := st'.drop (zna x)) ⟨hx, hb, hml', hown', hts⟩ hMet ⟨callB_of (zna x) hts (zws_in (zws_own j) hx1) rfl rfl rfl (zIn (Ts := []) hts hin) (zIn (Ts := []) hts (zLM_ok _ h9)) ⟨hnd.1, hnd.2, hd1⟩ ⟨hfr, hlo⟩, zIn (Ts := []) hts hstt⟩ ⟨zPre_blind, (fun U hU hW => ⟨rfl, by rw [hU], by rw [hU]; exact hP, va_K.moved hW.alike hK, hDd.weaken (fun _ _ _ _ => trivial), hN.warm hW, hZt.go hS (z_sub hDd hS zAge) hU hW⟩)⟩ rfl hnA hl.1 hst (lv_room hroom) (zDec_at hd) ⟨by show cells + zmc x ≤ zmc j; omega, by show slots + zms x ≤ zms j; omega⟩) (fun v ws1 tys1 H1 locs1 hO hpre hI1 => ?_)
            rw [← zNx_at hn]
            exact ih p e s m args below meth c j hj C ws0 hZt r hokr _ _ _ _ _ _ hex2 ws1 tys1 _ _ H1 locs1 _ _ _ (zrM_mono hpre hM) (zrL_app (z_opt hO) (zrL_mono hpre hrs)) (hp.trans hpre) hI1 hl (by omega) (by omega)
          · obtain ⟨hst0, h4⟩ := zLMn_ok _ h9
            refine z_calls hI (va_runSN (As := (st'.take (zna x)).reverse) (rest := st'.drop (zna x)) ⟨hx, hb, hml', hown', hts⟩ hMet ⟨va_cnB (zna x) hts (zws_in (zws_own j) hx1) rfl rfl rfl (hN _ h4) (zIn (Ts := []) hts hin) ⟨hnd.1, hnd.2, hd1⟩ ⟨hfr, hlo⟩, zIn (Ts := []) hts hstt, trivial⟩ ⟨zPre_blind, (fun U hU hW => ⟨rfl, by rw [hU], by rw [hU]; exact hP, va_K.moved hW.alike hK, hDd.weaken (fun _ _ _ _ => trivial), hN.warm hW, hZt.go hS (z_sub hDd hS zAge) hU hW⟩)⟩ rfl hnA hl.1 hst (lv_room hroom) (zDec_at hd) ⟨by show cells + zmc x ≤ zmc j; omega, by show slots + zms x ≤ zms j; omega⟩) (fun v ws1 tys1 H1 locs1 hO hpre hI1 => ?_)
            rw [← zNx_at hn]
            exact ih p e s m args below meth c j hj C ws0 hZt r hokr _ _ _ _ _ _ hex2 ws1 tys1 _ _ H1 locs1 _ _ _ (zrM_mono hpre hM) (zrL_app (z_opt hO) (zrL_mono hpre hrs)) (hp.trans hpre) hI1 hl (by omega) (by omega)
        | [0], hok1, hex =>
          have hk := (Bool.and_eq_true_iff (x := zDec j pc (.invokestatic k) 3) (y := zNx pc 3 r && (decide ((zO j, k) ∈ zLa) && zRoom j 1 26))).mp hok1
          rw [Bool.and_eq_true, Bool.and_eq_true, decide_eq_true_eq] at hk
          obtain ⟨n, dp, a, sp, a0, r', fl, gl, rfl, hH0, hHa, h1, h2, h3, h4, h5, hwd, hex2⟩ := mzAcp_i (k := zEx f (zN j) (zB j) r) hex
          obtain ⟨_, _, rfl, rfl, _, _, rfl, rfl, _, _, rfl, ⟨a', ha, rfl⟩, _, _, rfl, rfl, _, _, rfl, ⟨a0', ha0, rfl⟩, hL⟩ := hL
          obtain ⟨hH, hP, hK, hDd, hS⟩ := id hI
          obtain ⟨_, hw0, cA0, hty0, rfl⟩ := zrH_get hH hH0 ha0
          obtain ⟨_, hw1, cA1, hty1, rfl⟩ := zrH_get hH hHa ha
          obtain ⟨t0, ht0⟩ := z_tys hty0
          obtain ⟨t1, ht1⟩ := z_tys hty1
          have hrm := zRoom_at hk.2.2.2
          refine va_copyi hx hb (by rw [hml', hl.1]) hown' (zIn (Ts := []) hts (zLa_ok _ hk.2.2.1)) (zIn (Ts := []) hts zAC.1) (zIn (Ts := []) hts zAC.2.1) (zIn (Ts := []) hts zAC.2.2) hK hP hDd hS a0 a t0 t1 hw0 hw1 ht0 ht1 rfl h1 h2 h3 h4 h5 (fun _ _ => rfl) hrm.1 (by rw [zrL_cats hL]; have := hrm.2; show _ + (nativeFrameWords _ _ 5 + 11) ≤ zlo j; have e7 : nativeFrameWords "java/lang/System" "arraycopy" 5 = 7 := (by decide +kernel); omega) (zDec_at hk.1) (fun H1 locs1 hP hDd hS => ?_)
          rw [← zNx_at hk.2.1]
          exact ih p e s m args below meth c j hj C ws0 hZt r hokr _ _ _ _ _ _ hex2 _ tys _ _ H1 locs1 _ cells slots (by rw [zad_set hw1]; exact hM) (by rw [zad_set hw1]; exact hL) (by rw [zad_set hw1]; exact hp) ⟨zrH_set hH hw1 ⟨cA1, hty1, by rw [← z_cpy h4 h5, ← z_cpyl h4 h5]⟩, hP, hK, hDd, hS⟩ hl hc hs
        | [1], hok1, hex =>
          have hk := (Bool.and_eq_true_iff (x := zDec j pc (.invokestatic k) 3) (y := zNx pc 3 r && (decide ((zO j, k) ∈ zLx) && zRoom j 1 21))).mp hok1
          rw [Bool.and_eq_true, Bool.and_eq_true, decide_eq_true_eq] at hk
          obtain ⟨a, b, r', rfl, hwd, hex2⟩ := mzMm_i (k := zEx f (zN j) (zB j) r) hex
          obtain ⟨_, _, rfl, rfl, _, _, rfl, rfl, hL⟩ := hL
          have hrm := zRoom_at hk.2.2.2
          refine va_mmax hx hb (by rw [hml', hl.1]) hown' (zIn (Ts := []) hts (zLx_ok _ hk.2.2.1)) (zIn (Ts := []) hts zMM.1.1) (zIn (Ts := []) hts zMM.2.2) (zIn (Ts := []) hts zMM.1.2) hrm.1 (by rw [zrL_cats hL]; have := hrm.2; show _ ≤ zlo j; omega) (by show cells ≤ zmc j; omega) (by show slots ≤ zms j; omega) (zDec_at hk.1) ?_
          rw [← zNx_at hk.2.1]
          exact ih p e s m args below meth c j hj C ws0 hZt r hokr _ _ _ _ _ _ hex2 ws tys _ _ H locs _ cells slots hM ⟨_, _, rfl, rfl, hL⟩ hp hI hl hc hs
        | [_ + 2], hok1, hex =>
          have hk := (Bool.and_eq_true_iff (x := zDec j pc (.invokestatic k) 3) (y := zNx pc 3 r && (decide ((zO j, k) ∈ zLn) && zRoom j 1 21))).mp hok1
          rw [Bool.and_eq_true, Bool.and_eq_true, decide_eq_true_eq] at hk
          obtain ⟨a, b, r', rfl, hwd, hex2⟩ := mzMm_i (k := zEx f (zN j) (zB j) r) hex
          obtain ⟨_, _, rfl, rfl, _, _, rfl, rfl, hL⟩ := hL
          have hrm := zRoom_at hk.2.2.2
          refine va_mmin hx hb (by rw [hml', hl.1]) hown' (zIn (Ts := []) hts (zLn_ok _ hk.2.2.1)) (zIn (Ts := []) hts zMM.2.1.1) (zIn (Ts := []) hts zMM.2.2) (zIn (Ts := []) hts zMM.2.1.2) hrm.1 (by rw [zrL_cats hL]; have := hrm.2; show _ ≤ zlo j; omega) (by show cells ≤ zmc j; omega) (by show slots ≤ zms j; omega) (zDec_at hk.1) ?_
          rw [← zNx_at hk.2.1]
          exact ih p e s m args below meth c j hj C ws0 hZt r hokr _ _ _ _ _ _ hex2 ws tys _ _ H locs _ cells slots hM ⟨_, _, rfl, rfl, hL⟩ hp hI hl hc hs
        | [], _, hex => exact absurd (show (none : mzR) = some res from hex) (by simp)
        | [_, _], _, hex => exact absurd (show (none : mzR) = some res from hex) (by simp)
        | _ :: _ :: _ :: _ :: _, _, hex => exact absurd (show (none : mzR) = some res from hex) (by simp)
      | invokespecial k =>
        match ts, hok1, hex with
        | [na, mc, ms], hok1, hex =>
          have hk := (Bool.and_eq_true_iff (x := zDec j pc (.invokespecial k) 3) (y := zNx pc 3 r && ((decide ((zO j, k, x, 2) ∈ zLM) || decide ((zO j, k, x, 2) ∈ zLMn)) && (zCl j x na mc ms && decide (x ∈ zKi))))).mp hok1
          rw [Bool.and_eq_true, Bool.and_eq_true, Bool.and_eq_true, Bool.or_eq_true, decide_eq_true_eq, decide_eq_true_eq] at hk
          obtain ⟨hd, hn, hlk, hcl, hkd⟩ := hk
          obtain ⟨hx1, hna, hmc, hms, hfr, hlo⟩ := zCl_at hcl
          obtain ⟨hg, hln, hwd, hmc', hms', hwa, o, H1m, hcall, hex2⟩ := mzInv_i (g := mzRcv na y) (nl := zN x) (ca := zEx f (zN x) (zB x) (mzBlk (zB x) 0)) (k := zEx f (zN j) (zB j) r) hex
          subst hna; subst hmc; subst hms
          have hlen' := zrL_len hL
          have hav : zrL (zad ws) (st.take (zna x)).reverse (st'.take (zna x)).reverse := zrL_rev (zrL_take _ hL)
          have hrs : zrL (zad ws) (st.drop (zna x)) (st'.drop (zna x)) := zrL_drop _ hL
          have hroom : ((st'.drop (zna x)).map fun v => v.category).sum ≤ 8 := by rw [zrL_cats hrs]; exact hwd
          obtain ⟨hH, hP, hK, hDd, hS⟩ := id hI
          obtain ⟨hpl, hnd, hcn, hnl, hcd, hin⟩ := zMf_ok x hx1
          have hMet := z_met_of (l := l) (D := D) hok ih hx1 (as := (st.take (zna x)).reverse) (Hm := Hm) (res := (o, H1m)) (by rw [z_wdr]; exact hwa) hcall ws tys H.size _ hav hH
          rw [decide_eq_true_eq] at hkd
          obtain ⟨hd1, hna0, him, hnm1, hrt⟩ := zKi_ok x hkd
          obtain ⟨a, fs, hsa, hHa⟩ := mzRcv_i hg
          obtain ⟨w, hw1, a', ha, rfl⟩ := zrL_at hL hsa
          obtain ⟨As, hAs, hst⟩ := z_split hw1 hna0 (by rw [hlen']; exact hln)
          rw [hAs.1] at hMet
          have hwx : zws x = Cond.code (zM x).1 (zM x).2.1 (zM x).2.2.1 none :: zBG := by unfold zws; rw [hrt]
          rcases hlk with h9 | h9
          · refine z_calls hI (va_runI (As := As) (rest := st'.drop (zna x)) (b := a') (bytes := (zM x).2.1) (maxL := (zM x).2.2.1) ⟨hx, hb, hml', hown', hts⟩ hMet ⟨callB_of (zna x - 1) hts (zws_in (zws_own j) hx1) hwx rfl rfl (zIn (Ts := []) hts hin) (zIn (Ts := []) hts (zLM_ok _ h9)) ⟨hnd.1, hnd.2, hd1⟩ ⟨hfr, hlo⟩, hnm1, zIn (Ts := []) hts him⟩ ⟨zPre_blind, (fun U hU hW => ⟨rfl, by rw [hU], by rw [hU]; exact hP, va_K.moved hW.alike hK, hDd.weaken (fun _ _ _ _ => trivial), hN.warm hW, hZt.go hS (z_sub hDd hS zAge) hU hW⟩)⟩ rfl hAs.2 hl.1 hst (lv_room hroom) (zDec_at hd) ⟨by show cells + zmc x ≤ zmc j; omega, by show slots + zms x ≤ zms j; omega⟩) (fun v ws1 tys1 H1 locs1 hO hpre hI1 => ?_)
            rw [← zNx_at hn]
            exact ih p e s m args below meth c j hj C ws0 hZt r hokr _ _ _ _ _ _ hex2 ws1 tys1 _ _ H1 locs1 _ _ _ (zrM_mono hpre hM) (zrL_app (z_opt hO) (zrL_mono hpre hrs)) (hp.trans hpre) hI1 hl (by omega) (by omega)
          · obtain ⟨hst0, h4⟩ := zLMn_ok _ h9
            refine z_calls hI (va_runIN (As := As) (rest := st'.drop (zna x)) (b := a') (bytes := (zM x).2.1) (maxL := (zM x).2.2.1) ⟨hx, hb, hml', hown', hts⟩ hMet ⟨va_cnB (zna x - 1) hts (zws_in (zws_own j) hx1) hwx rfl rfl (hN _ h4) (zIn (Ts := []) hts hin) ⟨hnd.1, hnd.2, hd1⟩ ⟨hfr, hlo⟩, hnm1, zIn (Ts := []) hts him⟩ ⟨zPre_blind, (fun U hU hW => ⟨rfl, by rw [hU], by rw [hU]; exact hP, va_K.moved hW.alike hK, hDd.weaken (fun _ _ _ _ => trivial), hN.warm hW, hZt.go hS (z_sub hDd hS zAge) hU hW⟩)⟩ rfl hAs.2 hl.1 hst (lv_room hroom) (zDec_at hd) ⟨by show cells + zmc x ≤ zmc j; omega, by show slots + zms x ≤ zms j; omega⟩) (fun v ws1 tys1 H1 locs1 hO hpre hI1 => ?_)
            rw [← zNx_at hn]
            exact ih p e s m args below meth c j hj C ws0 hZt r hokr _ _ _ _ _ _ hex2 ws1 tys1 _ _ H1 locs1 _ _ _ (zrM_mono hpre hM) (zrL_app (z_opt hO) (zrL_mono hpre hrs)) (hp.trans hpre) hI1 hl (by omega) (by omega)
        | [_], hok1, hex =>
          have hk := (Bool.and_eq_true_iff (x := zDec j pc (.invokespecial k) 3) (y := zNx pc 3 r && (decide ((zO j, k) ∈ zLo) && zRoom j 1 20))).mp hok1
          rw [Bool.and_eq_true, Bool.and_eq_true, decide_eq_true_eq] at hk
          obtain ⟨a, r', rfl, hwd, hex2⟩ := mzObi_i (k := zEx f (zN j) (zB j) r) hex
          obtain ⟨_, _, rfl, ⟨a', ha, rfl⟩, hL⟩ := hL
          have hrm := zRoom_at hk.2.2.2
          refine W.objInit hx hb hown' (zIn (Ts := []) hts (zLo_ok _ hk.2.2.1)) (zIn (Ts := []) hts zOB.1) (zIn (Ts := []) hts zOB.2) rfl (by rw [hml']; exact hl.1) rfl (zDec_at hk.1) hrm.1 (by rw [zrL_cats hL]; have := hrm.2; show 2 * 0 + _ + 12 ≤ zlo j; omega) ?_
          refine W.eq (g2 := F0 m (pc + 3) ls _) rfl ?_
          rw [← zNx_at hk.2.1]
          exact ih p e s m args below meth c j hj C ws0 hZt r hokr _ _ _ _ _ _ hex2 ws tys _ _ H locs _ cells slots hM hL hp hI hl hc hs
        | [], _, hex => exact absurd (show (none : mzR) = some res from hex) (by simp)
        | [_, _], _, hex => exact absurd (show (none : mzR) = some res from hex) (by simp)
        | _ :: _ :: _ :: _ :: _, _, hex => exact absurd (show (none : mzR) = some res from hex) (by simp)
      | ireturn =>
        have hk := (Bool.and_eq_true_iff (x := zDec j pc .ireturn 1) (y := zRi (zM j).2.2.2.1 x)).mp hok1
        obtain ⟨v, rfl, rfl, hv⟩ := mzIret_i (lv := lv) (c := bc) (s := bs) hex
        obtain ⟨_, _, rfl, rfl, hL⟩ := hL
        have hL : _ = [] := hL
        subst hL
        obtain ⟨hH, hP, hK, hDd, hS⟩ := id hI
        refine W.widen (k := zmc j) (n := zms j) (by omega) (by omega) ?_
        obtain ⟨hk1, hk2⟩ := hk
        unfold zRi at hk2
        split at hk2
        · skip
          exact W.iret (v := v) hx hb (hr.trans (by assumption)) (fun t ht hW => ⟨⟨some (.int v), ws, tys, rfl, ⟨_, rfl, rfl⟩, hH, hp, by rw [ht]; exact hP, va_K.moved hW.alike hK, hDd⟩, hS.F ht⟩) hS.2.2 (zDec_at hk1)
        · skip
          exact W.zret (v := v) (ty := .boolean) hx hb (hr.trans (by assumption)) (by rcases hv with h | h | h <;> first | (cases h; done) | (subst h; decide)) (fun t ht hW => ⟨⟨some (.int v), ws, tys, rfl, ⟨_, rfl, rfl⟩, hH, hp, by rw [ht]; exact hP, va_K.moved hW.alike hK, hDd⟩, hS.F ht⟩) hS.2.2 (zDec_at hk1)
        · cases hk2
      | lreturn =>
        have hk := (Bool.and_eq_true_iff (x := zDec j pc .lreturn 1) (y := zRl (zM j).2.2.2.1)).mp hok1
        obtain ⟨v, rfl, rfl⟩ := mzLret_i (lv := lv) (c := bc) (s := bs) hex
        obtain ⟨_, _, rfl, rfl, hL⟩ := hL
        have hL : _ = [] := hL
        subst hL
        obtain ⟨hH, hP, hK, hDd, hS⟩ := id hI
        refine W.widen (k := zmc j) (n := zms j) (by omega) (by omega) ?_
        obtain ⟨hk1, hk2⟩ := hk
        unfold zRl at hk2
        split at hk2
        · rename_i e9
          exact W.lret (v := v) hx hb (hr.trans (by assumption)) (fun t ht hW => ⟨⟨some (.long v), ws, tys, rfl, ⟨_, rfl, rfl⟩, hH, hp, by rw [ht]; exact hP, va_K.moved hW.alike hK, hDd⟩, hS.F ht⟩) hS.2.2 (zDec_at hk1)
        · cases hk2
      | areturn =>
        have hk := (Bool.and_eq_true_iff (x := zDec j pc .areturn 1) (y := zRa (zM j).2.2.2.1)).mp hok1
        obtain ⟨v, rfl, rfl⟩ := mzAret_i (lv := lv) (c := bc) (s := bs) hex
        obtain ⟨_, _, rfl, ⟨a', ha, rfl⟩, hL⟩ := hL
        have hL : _ = [] := hL
        subst hL
        obtain ⟨hH, hP, hK, hDd, hS⟩ := id hI
        refine W.widen (k := zmc j) (n := zms j) (by omega) (by omega) ?_
        obtain ⟨hk1, hk2⟩ := hk
        unfold zRa at hk2
        split at hk2
        · rename_i nn e9
          exact W.aret (v := .ref a') hx hb (hr.trans (by assumption)) (Or.inl ⟨_, rfl⟩) (Or.inr ⟨_, rfl⟩) (fun t ht hW => ⟨⟨some (.ref a'), ws, tys, rfl, ⟨_, rfl, a', ha, rfl⟩, hH, hp, by rw [ht]; exact hP, va_K.moved hW.alike hK, hDd⟩, hS.F ht⟩) hS.2.2 (zDec_at hk1)
        · cases hk2
      | return_ =>
        have hk := (Bool.and_eq_true_iff (x := zDec j pc .return_ 1) (y := zRv (zM j).2.2.2.1)).mp hok1
        obtain ⟨rfl, rfl⟩ := mzVret_i (lv := lv) (c := bc) (s := bs) hex
        have hL : _ = [] := hL
        subst hL
        obtain ⟨hH, hP, hK, hDd, hS⟩ := id hI
        refine W.widen (k := zmc j) (n := zms j) (by omega) (by omega) ?_
        obtain ⟨hk1, hk2⟩ := hk
        unfold zRv at hk2
        split at hk2
        · rename_i e9
          exact W.vret hx hb (hr.trans (by assumption)) (fun t ht hW => ⟨⟨none, ws, tys, rfl, rfl, hH, hp, by rw [ht]; exact hP, va_K.moved hW.alike hK, hDd⟩, hS.F ht⟩) hS.2.2 (zDec_at hk1)
        · cases hk2
      | _ => exact absurd (show (none : mzR) = some res from hex) (by simp)
end
