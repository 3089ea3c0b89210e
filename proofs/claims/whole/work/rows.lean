section
-- names and tables: out of the printed texts of this claim (SKELETON, NAMES), by wip/whole/mk01.py
-- ===== PART A: goes FIRST, ahead of the names: the tables' words, and 'selects' of the private methods out of them =====
/-- a private method of a class that the tables say can be made, by its rows of tables_1 -/
def lw_okq (q : MethodName × Nat) : Prop := (q.1.cls ≠ "java/lang/invoke/MethodHandle" ∧ q.1.cls ≠ "java/lang/invoke/VarHandle") ∧ Cond.instantiable q.1.cls q.2 ∈ tables_1 ∧ Cond.privateMethod q.1 ∈ tables_1 ∧ Cond.instanceMethod q.1 ∈ tables_1
theorem lw_p0 : lw_okq (⟨"FurrowTalk", "refuse", "(I)I"⟩, 12) := ⟨⟨by decide +kernel, by decide +kernel⟩, List.mem_of_getElem? (i := 16) (by decide +kernel), List.mem_of_getElem? (i := 308) (by decide +kernel), List.mem_of_getElem? (i := 309) (by decide +kernel)⟩
theorem lw_p1 : lw_okq (⟨"FurrowTalk", "isFurrow", "(I)Z"⟩, 12) := ⟨⟨by decide +kernel, by decide +kernel⟩, List.mem_of_getElem? (i := 16) (by decide +kernel), List.mem_of_getElem? (i := 330) (by decide +kernel), List.mem_of_getElem? (i := 331) (by decide +kernel)⟩
theorem lw_p2 : lw_okq (⟨"FurrowTalk$Law", "push", "(I)V"⟩, 4) := ⟨⟨by decide +kernel, by decide +kernel⟩, List.mem_of_getElem? (i := 104) (by decide +kernel), List.mem_of_getElem? (i := 358) (by decide +kernel), List.mem_of_getElem? (i := 359) (by decide +kernel)⟩
theorem lw_p3 : lw_okq (⟨"FurrowTalk$Law", "pop", "()I"⟩, 4) := ⟨⟨by decide +kernel, by decide +kernel⟩, List.mem_of_getElem? (i := 104) (by decide +kernel), List.mem_of_getElem? (i := 362) (by decide +kernel), List.mem_of_getElem? (i := 363) (by decide +kernel)⟩
theorem lw_p4 : lw_okq (⟨"FurrowTalk$Furrow", "isAlike", "(LFurrowTalk$Furrow;)Z"⟩, 7) := ⟨⟨by decide +kernel, by decide +kernel⟩, List.mem_of_getElem? (i := 37) (by decide +kernel), List.mem_of_getElem? (i := 391) (by decide +kernel), List.mem_of_getElem? (i := 392) (by decide +kernel)⟩
theorem lw_p5 : lw_okq (⟨"FurrowTalk$TextReader", "readJoined", "(II)Z"⟩, 5) := ⟨⟨by decide +kernel, by decide +kernel⟩, List.mem_of_getElem? (i := 183) (by decide +kernel), List.mem_of_getElem? (i := 456) (by decide +kernel), List.mem_of_getElem? (i := 457) (by decide +kernel)⟩
theorem lw_p6 : lw_okq (⟨"FurrowTalk$TextReader", "readSingle", "(I)Z"⟩, 5) := ⟨⟨by decide +kernel, by decide +kernel⟩, List.mem_of_getElem? (i := 183) (by decide +kernel), List.mem_of_getElem? (i := 460) (by decide +kernel), List.mem_of_getElem? (i := 461) (by decide +kernel)⟩
theorem lw_p7 : lw_okq (⟨"FurrowTalk$TextReader", "signHere", "()I"⟩, 5) := ⟨⟨by decide +kernel, by decide +kernel⟩, List.mem_of_getElem? (i := 183) (by decide +kernel), List.mem_of_getElem? (i := 464) (by decide +kernel), List.mem_of_getElem? (i := 465) (by decide +kernel)⟩
theorem lw_p8 : lw_okq (⟨"FurrowTalk$TextReader", "readNumber", "()V"⟩, 5) := ⟨⟨by decide +kernel, by decide +kernel⟩, List.mem_of_getElem? (i := 183) (by decide +kernel), List.mem_of_getElem? (i := 471) (by decide +kernel), List.mem_of_getElem? (i := 472) (by decide +kernel)⟩
theorem lw_p9 : lw_okq (⟨"FurrowTalk$TextReader", "readName", "(I)Z"⟩, 5) := ⟨⟨by decide +kernel, by decide +kernel⟩, List.mem_of_getElem? (i := 183) (by decide +kernel), List.mem_of_getElem? (i := 479) (by decide +kernel), List.mem_of_getElem? (i := 480) (by decide +kernel)⟩
theorem lw_p10 : lw_okq (⟨"FurrowTalk$TextReader", "readNegated", "(I)Z"⟩, 5) := ⟨⟨by decide +kernel, by decide +kernel⟩, List.mem_of_getElem? (i := 183) (by decide +kernel), List.mem_of_getElem? (i := 485) (by decide +kernel), List.mem_of_getElem? (i := 486) (by decide +kernel)⟩
theorem lw_p11 : lw_okq (⟨"FurrowTalk$TextReader", "readBracketed", "(I)Z"⟩, 5) := ⟨⟨by decide +kernel, by decide +kernel⟩, List.mem_of_getElem? (i := 183) (by decide +kernel), List.mem_of_getElem? (i := 489) (by decide +kernel), List.mem_of_getElem? (i := 490) (by decide +kernel)⟩
theorem lw_p12 : lw_okq (⟨"FurrowTalk$Field", "nextDraw", "()I"⟩, 5) := ⟨⟨by decide +kernel, by decide +kernel⟩, List.mem_of_getElem? (i := 30) (by decide +kernel), List.mem_of_getElem? (i := 554) (by decide +kernel), List.mem_of_getElem? (i := 555) (by decide +kernel)⟩
theorem lw_p13 : lw_okq (⟨"FurrowTalk$Chains", "bestAhead", "(LFurrowTalk$Field;I)I"⟩, 1) := ⟨⟨by decide +kernel, by decide +kernel⟩, List.mem_of_getElem? (i := 154) (by decide +kernel), List.mem_of_getElem? (i := 614) (by decide +kernel), List.mem_of_getElem? (i := 615) (by decide +kernel)⟩
theorem lw_p14 : lw_okq (⟨"FurrowTalk$Scale", "cheapestUnsettled", "()I"⟩, 3) := ⟨⟨by decide +kernel, by decide +kernel⟩, List.mem_of_getElem? (i := 164) (by decide +kernel), List.mem_of_getElem? (i := 631) (by decide +kernel), List.mem_of_getElem? (i := 632) (by decide +kernel)⟩
theorem lw_p15 : lw_okq (⟨"FurrowTalk$Scale", "reachFrom", "(I)V"⟩, 3) := ⟨⟨by decide +kernel, by decide +kernel⟩, List.mem_of_getElem? (i := 164) (by decide +kernel), List.mem_of_getElem? (i := 635) (by decide +kernel), List.mem_of_getElem? (i := 636) (by decide +kernel)⟩
def lw_privs_1 : List (MethodName × Nat) := [(⟨"FurrowTalk", "refuse", "(I)I"⟩, 12), (⟨"FurrowTalk", "isFurrow", "(I)Z"⟩, 12), (⟨"FurrowTalk$Law", "push", "(I)V"⟩, 4), (⟨"FurrowTalk$Law", "pop", "()I"⟩, 4), (⟨"FurrowTalk$Furrow", "isAlike", "(LFurrowTalk$Furrow;)Z"⟩, 7), (⟨"FurrowTalk$TextReader", "readJoined", "(II)Z"⟩, 5), (⟨"FurrowTalk$TextReader", "readSingle", "(I)Z"⟩, 5), (⟨"FurrowTalk$TextReader", "signHere", "()I"⟩, 5), (⟨"FurrowTalk$TextReader", "readNumber", "()V"⟩, 5), (⟨"FurrowTalk$TextReader", "readName", "(I)Z"⟩, 5), (⟨"FurrowTalk$TextReader", "readNegated", "(I)Z"⟩, 5), (⟨"FurrowTalk$TextReader", "readBracketed", "(I)Z"⟩, 5), (⟨"FurrowTalk$Field", "nextDraw", "()I"⟩, 5), (⟨"FurrowTalk$Chains", "bestAhead", "(LFurrowTalk$Field;I)I"⟩, 1), (⟨"FurrowTalk$Scale", "cheapestUnsettled", "()I"⟩, 3), (⟨"FurrowTalk$Scale", "reachFrom", "(I)V"⟩, 3)]
theorem lw_r1 : ∀ q ∈ lw_privs_1, lw_okq q := List.forall_mem_cons.mpr ⟨lw_p0, List.forall_mem_cons.mpr ⟨lw_p1, List.forall_mem_cons.mpr ⟨lw_p2, List.forall_mem_cons.mpr ⟨lw_p3, List.forall_mem_cons.mpr ⟨lw_p4, List.forall_mem_cons.mpr ⟨lw_p5, List.forall_mem_cons.mpr ⟨lw_p6, List.forall_mem_cons.mpr ⟨lw_p7, List.forall_mem_cons.mpr ⟨lw_p8, List.forall_mem_cons.mpr ⟨lw_p9, List.forall_mem_cons.mpr ⟨lw_p10, List.forall_mem_cons.mpr ⟨lw_p11, List.forall_mem_cons.mpr ⟨lw_p12, List.forall_mem_cons.mpr ⟨lw_p13, List.forall_mem_cons.mpr ⟨lw_p14, List.forall_mem_cons.mpr ⟨lw_p15, fun _ h => absurd h List.not_mem_nil⟩⟩⟩⟩⟩⟩⟩⟩⟩⟩⟩⟩⟩⟩⟩⟩
theorem lw_p16 : lw_okq (⟨"FurrowTalk", "firstReplyLine", "(LFurrowTalk$Furrow;)I"⟩, 12) := ⟨⟨by decide +kernel, by decide +kernel⟩, List.mem_of_getElem? (i := 16) (by decide +kernel), List.mem_of_getElem? (i := 643) (by decide +kernel), List.mem_of_getElem? (i := 644) (by decide +kernel)⟩
theorem lw_p17 : lw_okq (⟨"FurrowTalk", "linesThatEcho", "(LFurrowTalk$Furrow;)I"⟩, 12) := ⟨⟨by decide +kernel, by decide +kernel⟩, List.mem_of_getElem? (i := 16) (by decide +kernel), List.mem_of_getElem? (i := 655) (by decide +kernel), List.mem_of_getElem? (i := 656) (by decide +kernel)⟩
theorem lw_p18 : lw_okq (⟨"FurrowTalk$Speaker", "says", "(II)I"⟩, 6) := ⟨⟨by decide +kernel, by decide +kernel⟩, List.mem_of_getElem? (i := 209) (by decide +kernel), List.mem_of_getElem? (i := 688) (by decide +kernel), List.mem_of_getElem? (i := 689) (by decide +kernel)⟩
theorem lw_p19 : lw_okq (⟨"FurrowTalk$Speaker", "begin", "(I)V"⟩, 6) := ⟨⟨by decide +kernel, by decide +kernel⟩, List.mem_of_getElem? (i := 209) (by decide +kernel), List.mem_of_getElem? (i := 692) (by decide +kernel), List.mem_of_getElem? (i := 693) (by decide +kernel)⟩
theorem lw_p20 : lw_okq (⟨"FurrowTalk$Speaker", "asks", "(II)I"⟩, 6) := ⟨⟨by decide +kernel, by decide +kernel⟩, List.mem_of_getElem? (i := 209) (by decide +kernel), List.mem_of_getElem? (i := 696) (by decide +kernel), List.mem_of_getElem? (i := 697) (by decide +kernel)⟩
theorem lw_p21 : lw_okq (⟨"FurrowTalk$Speaker", "hums", "(II)I"⟩, 6) := ⟨⟨by decide +kernel, by decide +kernel⟩, List.mem_of_getElem? (i := 209) (by decide +kernel), List.mem_of_getElem? (i := 700) (by decide +kernel), List.mem_of_getElem? (i := 701) (by decide +kernel)⟩
theorem lw_p22 : lw_okq (⟨"FurrowTalk$Speaker", "parts", "(II)I"⟩, 6) := ⟨⟨by decide +kernel, by decide +kernel⟩, List.mem_of_getElem? (i := 209) (by decide +kernel), List.mem_of_getElem? (i := 704) (by decide +kernel), List.mem_of_getElem? (i := 705) (by decide +kernel)⟩
theorem lw_p23 : lw_okq (⟨"FurrowTalkModel", "error", "(I)I"⟩, 21) := ⟨⟨by decide +kernel, by decide +kernel⟩, List.mem_of_getElem? (i := 777) (by decide +kernel), List.mem_of_getElem? (i := 861) (by decide +kernel), List.mem_of_getElem? (i := 862) (by decide +kernel)⟩
theorem lw_p24 : lw_okq (⟨"FurrowTalkModel", "comes", "(IIII)I"⟩, 21) := ⟨⟨by decide +kernel, by decide +kernel⟩, List.mem_of_getElem? (i := 777) (by decide +kernel), List.mem_of_getElem? (i := 867) (by decide +kernel), List.mem_of_getElem? (i := 868) (by decide +kernel)⟩
theorem lw_p25 : lw_okq (⟨"FurrowTalkModel", "lets", "(III)V"⟩, 21) := ⟨⟨by decide +kernel, by decide +kernel⟩, List.mem_of_getElem? (i := 777) (by decide +kernel), List.mem_of_getElem? (i := 871) (by decide +kernel), List.mem_of_getElem? (i := 872) (by decide +kernel)⟩
theorem lw_p26 : lw_okq (⟨"FurrowTalkModel", "isFurrow", "(I)Z"⟩, 21) := ⟨⟨by decide +kernel, by decide +kernel⟩, List.mem_of_getElem? (i := 777) (by decide +kernel), List.mem_of_getElem? (i := 879) (by decide +kernel), List.mem_of_getElem? (i := 880) (by decide +kernel)⟩
theorem lw_p27 : lw_okq (⟨"FurrowTalkModel", "of", "(II)I"⟩, 21) := ⟨⟨by decide +kernel, by decide +kernel⟩, List.mem_of_getElem? (i := 777) (by decide +kernel), List.mem_of_getElem? (i := 883) (by decide +kernel), List.mem_of_getElem? (i := 884) (by decide +kernel)⟩
theorem lw_p28 : lw_okq (⟨"FurrowTalkModel", "depthOf", "(I)I"⟩, 21) := ⟨⟨by decide +kernel, by decide +kernel⟩, List.mem_of_getElem? (i := 777) (by decide +kernel), List.mem_of_getElem? (i := 887) (by decide +kernel), List.mem_of_getElem? (i := 888) (by decide +kernel)⟩
theorem lw_p29 : lw_okq (⟨"FurrowTalkModel", "senseOf", "(I)I"⟩, 21) := ⟨⟨by decide +kernel, by decide +kernel⟩, List.mem_of_getElem? (i := 777) (by decide +kernel), List.mem_of_getElem? (i := 891) (by decide +kernel), List.mem_of_getElem? (i := 892) (by decide +kernel)⟩
theorem lw_p30 : lw_okq (⟨"FurrowTalkModel", "gives", "(IIII)I"⟩, 21) := ⟨⟨by decide +kernel, by decide +kernel⟩, List.mem_of_getElem? (i := 777) (by decide +kernel), List.mem_of_getElem? (i := 895) (by decide +kernel), List.mem_of_getElem? (i := 896) (by decide +kernel)⟩
theorem lw_p31 : lw_okq (⟨"FurrowTalkModel", "works", "(I)I"⟩, 21) := ⟨⟨by decide +kernel, by decide +kernel⟩, List.mem_of_getElem? (i := 777) (by decide +kernel), List.mem_of_getElem? (i := 899) (by decide +kernel), List.mem_of_getElem? (i := 900) (by decide +kernel)⟩
def lw_privs_2 : List (MethodName × Nat) := [(⟨"FurrowTalk", "firstReplyLine", "(LFurrowTalk$Furrow;)I"⟩, 12), (⟨"FurrowTalk", "linesThatEcho", "(LFurrowTalk$Furrow;)I"⟩, 12), (⟨"FurrowTalk$Speaker", "says", "(II)I"⟩, 6), (⟨"FurrowTalk$Speaker", "begin", "(I)V"⟩, 6), (⟨"FurrowTalk$Speaker", "asks", "(II)I"⟩, 6), (⟨"FurrowTalk$Speaker", "hums", "(II)I"⟩, 6), (⟨"FurrowTalk$Speaker", "parts", "(II)I"⟩, 6), (⟨"FurrowTalkModel", "error", "(I)I"⟩, 21), (⟨"FurrowTalkModel", "comes", "(IIII)I"⟩, 21), (⟨"FurrowTalkModel", "lets", "(III)V"⟩, 21), (⟨"FurrowTalkModel", "isFurrow", "(I)Z"⟩, 21), (⟨"FurrowTalkModel", "of", "(II)I"⟩, 21), (⟨"FurrowTalkModel", "depthOf", "(I)I"⟩, 21), (⟨"FurrowTalkModel", "senseOf", "(I)I"⟩, 21), (⟨"FurrowTalkModel", "gives", "(IIII)I"⟩, 21), (⟨"FurrowTalkModel", "works", "(I)I"⟩, 21)]
theorem lw_r2 : ∀ q ∈ lw_privs_2, lw_okq q := List.forall_mem_cons.mpr ⟨lw_p16, List.forall_mem_cons.mpr ⟨lw_p17, List.forall_mem_cons.mpr ⟨lw_p18, List.forall_mem_cons.mpr ⟨lw_p19, List.forall_mem_cons.mpr ⟨lw_p20, List.forall_mem_cons.mpr ⟨lw_p21, List.forall_mem_cons.mpr ⟨lw_p22, List.forall_mem_cons.mpr ⟨lw_p23, List.forall_mem_cons.mpr ⟨lw_p24, List.forall_mem_cons.mpr ⟨lw_p25, List.forall_mem_cons.mpr ⟨lw_p26, List.forall_mem_cons.mpr ⟨lw_p27, List.forall_mem_cons.mpr ⟨lw_p28, List.forall_mem_cons.mpr ⟨lw_p29, List.forall_mem_cons.mpr ⟨lw_p30, List.forall_mem_cons.mpr ⟨lw_p31, fun _ h => absurd h List.not_mem_nil⟩⟩⟩⟩⟩⟩⟩⟩⟩⟩⟩⟩⟩⟩⟩⟩
theorem lw_p32 : lw_okq (⟨"FurrowTalkModel", "isHeard", "(I)Z"⟩, 21) := ⟨⟨by decide +kernel, by decide +kernel⟩, List.mem_of_getElem? (i := 777) (by decide +kernel), List.mem_of_getElem? (i := 909) (by decide +kernel), List.mem_of_getElem? (i := 910) (by decide +kernel)⟩
theorem lw_p33 : lw_okq (⟨"FurrowTalkModel", "behind", "(I)I"⟩, 21) := ⟨⟨by decide +kernel, by decide +kernel⟩, List.mem_of_getElem? (i := 777) (by decide +kernel), List.mem_of_getElem? (i := 913) (by decide +kernel), List.mem_of_getElem? (i := 914) (by decide +kernel)⟩
theorem lw_p34 : lw_okq (⟨"FurrowTalkModel", "isSeen", "(I)Z"⟩, 21) := ⟨⟨by decide +kernel, by decide +kernel⟩, List.mem_of_getElem? (i := 777) (by decide +kernel), List.mem_of_getElem? (i := 917) (by decide +kernel), List.mem_of_getElem? (i := 918) (by decide +kernel)⟩
theorem lw_p35 : lw_okq (⟨"FurrowTalkModel", "doesAnswer", "(II)Z"⟩, 21) := ⟨⟨by decide +kernel, by decide +kernel⟩, List.mem_of_getElem? (i := 777) (by decide +kernel), List.mem_of_getElem? (i := 921) (by decide +kernel), List.mem_of_getElem? (i := 922) (by decide +kernel)⟩
theorem lw_p36 : lw_okq (⟨"FurrowTalkModel", "becomes", "(II)I"⟩, 21) := ⟨⟨by decide +kernel, by decide +kernel⟩, List.mem_of_getElem? (i := 777) (by decide +kernel), List.mem_of_getElem? (i := 929) (by decide +kernel), List.mem_of_getElem? (i := 930) (by decide +kernel)⟩
theorem lw_p37 : lw_okq (⟨"FurrowTalkModel", "any", "()V"⟩, 21) := ⟨⟨by decide +kernel, by decide +kernel⟩, List.mem_of_getElem? (i := 777) (by decide +kernel), List.mem_of_getElem? (i := 963) (by decide +kernel), List.mem_of_getElem? (i := 964) (by decide +kernel)⟩
theorem lw_p38 : lw_okq (⟨"FurrowTalkModel", "all", "()V"⟩, 21) := ⟨⟨by decide +kernel, by decide +kernel⟩, List.mem_of_getElem? (i := 777) (by decide +kernel), List.mem_of_getElem? (i := 967) (by decide +kernel), List.mem_of_getElem? (i := 968) (by decide +kernel)⟩
theorem lw_p39 : lw_okq (⟨"FurrowTalkModel", "compares", "()V"⟩, 21) := ⟨⟨by decide +kernel, by decide +kernel⟩, List.mem_of_getElem? (i := 777) (by decide +kernel), List.mem_of_getElem? (i := 971) (by decide +kernel), List.mem_of_getElem? (i := 972) (by decide +kernel)⟩
theorem lw_p40 : lw_okq (⟨"FurrowTalkModel", "sum", "()V"⟩, 21) := ⟨⟨by decide +kernel, by decide +kernel⟩, List.mem_of_getElem? (i := 777) (by decide +kernel), List.mem_of_getElem? (i := 975) (by decide +kernel), List.mem_of_getElem? (i := 976) (by decide +kernel)⟩
theorem lw_p41 : lw_okq (⟨"FurrowTalkModel", "times", "()V"⟩, 21) := ⟨⟨by decide +kernel, by decide +kernel⟩, List.mem_of_getElem? (i := 777) (by decide +kernel), List.mem_of_getElem? (i := 979) (by decide +kernel), List.mem_of_getElem? (i := 980) (by decide +kernel)⟩
theorem lw_p42 : lw_okq (⟨"FurrowTalkModel", "one", "()V"⟩, 21) := ⟨⟨by decide +kernel, by decide +kernel⟩, List.mem_of_getElem? (i := 777) (by decide +kernel), List.mem_of_getElem? (i := 983) (by decide +kernel), List.mem_of_getElem? (i := 984) (by decide +kernel)⟩
theorem lw_p43 : lw_okq (⟨"FurrowTalkModel", "look", "()I"⟩, 21) := ⟨⟨by decide +kernel, by decide +kernel⟩, List.mem_of_getElem? (i := 777) (by decide +kernel), List.mem_of_getElem? (i := 987) (by decide +kernel), List.mem_of_getElem? (i := 988) (by decide +kernel)⟩
theorem lw_p44 : lw_okq (⟨"FurrowTalkModel", "nameOf", "(I)I"⟩, 21) := ⟨⟨by decide +kernel, by decide +kernel⟩, List.mem_of_getElem? (i := 777) (by decide +kernel), List.mem_of_getElem? (i := 991) (by decide +kernel), List.mem_of_getElem? (i := 992) (by decide +kernel)⟩
theorem lw_p45 : lw_okq (⟨"FurrowTalkModel", "step", "(II)V"⟩, 21) := ⟨⟨by decide +kernel, by decide +kernel⟩, List.mem_of_getElem? (i := 777) (by decide +kernel), List.mem_of_getElem? (i := 995) (by decide +kernel), List.mem_of_getElem? (i := 996) (by decide +kernel)⟩
theorem lw_p46 : lw_okq (⟨"FurrowTalkModel", "opens", "(I)V"⟩, 21) := ⟨⟨by decide +kernel, by decide +kernel⟩, List.mem_of_getElem? (i := 777) (by decide +kernel), List.mem_of_getElem? (i := 999) (by decide +kernel), List.mem_of_getElem? (i := 1000) (by decide +kernel)⟩
theorem lw_p47 : lw_okq (⟨"FurrowTalkModel", "number", "()V"⟩, 21) := ⟨⟨by decide +kernel, by decide +kernel⟩, List.mem_of_getElem? (i := 777) (by decide +kernel), List.mem_of_getElem? (i := 1003) (by decide +kernel), List.mem_of_getElem? (i := 1004) (by decide +kernel)⟩
def lw_privs_3 : List (MethodName × Nat) := [(⟨"FurrowTalkModel", "isHeard", "(I)Z"⟩, 21), (⟨"FurrowTalkModel", "behind", "(I)I"⟩, 21), (⟨"FurrowTalkModel", "isSeen", "(I)Z"⟩, 21), (⟨"FurrowTalkModel", "doesAnswer", "(II)Z"⟩, 21), (⟨"FurrowTalkModel", "becomes", "(II)I"⟩, 21), (⟨"FurrowTalkModel", "any", "()V"⟩, 21), (⟨"FurrowTalkModel", "all", "()V"⟩, 21), (⟨"FurrowTalkModel", "compares", "()V"⟩, 21), (⟨"FurrowTalkModel", "sum", "()V"⟩, 21), (⟨"FurrowTalkModel", "times", "()V"⟩, 21), (⟨"FurrowTalkModel", "one", "()V"⟩, 21), (⟨"FurrowTalkModel", "look", "()I"⟩, 21), (⟨"FurrowTalkModel", "nameOf", "(I)I"⟩, 21), (⟨"FurrowTalkModel", "step", "(II)V"⟩, 21), (⟨"FurrowTalkModel", "opens", "(I)V"⟩, 21), (⟨"FurrowTalkModel", "number", "()V"⟩, 21)]
theorem lw_r3 : ∀ q ∈ lw_privs_3, lw_okq q := List.forall_mem_cons.mpr ⟨lw_p32, List.forall_mem_cons.mpr ⟨lw_p33, List.forall_mem_cons.mpr ⟨lw_p34, List.forall_mem_cons.mpr ⟨lw_p35, List.forall_mem_cons.mpr ⟨lw_p36, List.forall_mem_cons.mpr ⟨lw_p37, List.forall_mem_cons.mpr ⟨lw_p38, List.forall_mem_cons.mpr ⟨lw_p39, List.forall_mem_cons.mpr ⟨lw_p40, List.forall_mem_cons.mpr ⟨lw_p41, List.forall_mem_cons.mpr ⟨lw_p42, List.forall_mem_cons.mpr ⟨lw_p43, List.forall_mem_cons.mpr ⟨lw_p44, List.forall_mem_cons.mpr ⟨lw_p45, List.forall_mem_cons.mpr ⟨lw_p46, List.forall_mem_cons.mpr ⟨lw_p47, fun _ h => absurd h List.not_mem_nil⟩⟩⟩⟩⟩⟩⟩⟩⟩⟩⟩⟩⟩⟩⟩⟩
theorem lw_p48 : lw_okq (⟨"FurrowTalkModel", "goes", "()V"⟩, 21) := ⟨⟨by decide +kernel, by decide +kernel⟩, List.mem_of_getElem? (i := 777) (by decide +kernel), List.mem_of_getElem? (i := 1020) (by decide +kernel), List.mem_of_getElem? (i := 1021) (by decide +kernel)⟩
theorem lw_p49 : lw_okq (⟨"FurrowTalkModel", "seen", "()I"⟩, 21) := ⟨⟨by decide +kernel, by decide +kernel⟩, List.mem_of_getElem? (i := 777) (by decide +kernel), List.mem_of_getElem? (i := 1024) (by decide +kernel), List.mem_of_getElem? (i := 1025) (by decide +kernel)⟩
theorem lw_p50 : lw_okq (⟨"FurrowTalkModel", "draw", "()I"⟩, 21) := ⟨⟨by decide +kernel, by decide +kernel⟩, List.mem_of_getElem? (i := 777) (by decide +kernel), List.mem_of_getElem? (i := 1035) (by decide +kernel), List.mem_of_getElem? (i := 1036) (by decide +kernel)⟩
theorem lw_p51 : lw_okq (⟨"FurrowTalkModel", "longestTalk", "()I"⟩, 21) := ⟨⟨by decide +kernel, by decide +kernel⟩, List.mem_of_getElem? (i := 777) (by decide +kernel), List.mem_of_getElem? (i := 1048) (by decide +kernel), List.mem_of_getElem? (i := 1049) (by decide +kernel)⟩
theorem lw_p52 : lw_okq (⟨"FurrowTalkModel", "isAnswer", "(I)Z"⟩, 21) := ⟨⟨by decide +kernel, by decide +kernel⟩, List.mem_of_getElem? (i := 777) (by decide +kernel), List.mem_of_getElem? (i := 1052) (by decide +kernel), List.mem_of_getElem? (i := 1053) (by decide +kernel)⟩
theorem lw_p53 : lw_okq (⟨"FurrowTalkModel", "ahead", "(I)I"⟩, 21) := ⟨⟨by decide +kernel, by decide +kernel⟩, List.mem_of_getElem? (i := 777) (by decide +kernel), List.mem_of_getElem? (i := 1056) (by decide +kernel), List.mem_of_getElem? (i := 1057) (by decide +kernel)⟩
theorem lw_p54 : lw_okq (⟨"FurrowTalkModel", "answersSeen", "()I"⟩, 21) := ⟨⟨by decide +kernel, by decide +kernel⟩, List.mem_of_getElem? (i := 777) (by decide +kernel), List.mem_of_getElem? (i := 1060) (by decide +kernel), List.mem_of_getElem? (i := 1061) (by decide +kernel)⟩
theorem lw_p55 : lw_okq (⟨"FurrowTalkModel", "thinks", "()V"⟩, 21) := ⟨⟨by decide +kernel, by decide +kernel⟩, List.mem_of_getElem? (i := 777) (by decide +kernel), List.mem_of_getElem? (i := 1072) (by decide +kernel), List.mem_of_getElem? (i := 1073) (by decide +kernel)⟩
theorem lw_p56 : lw_okq (⟨"FurrowTalkModel", "putsBack", "()V"⟩, 21) := ⟨⟨by decide +kernel, by decide +kernel⟩, List.mem_of_getElem? (i := 777) (by decide +kernel), List.mem_of_getElem? (i := 1079) (by decide +kernel), List.mem_of_getElem? (i := 1080) (by decide +kernel)⟩
theorem lw_p57 : lw_okq (⟨"FurrowTalkModel", "isTalk", "(I)Z"⟩, 21) := ⟨⟨by decide +kernel, by decide +kernel⟩, List.mem_of_getElem? (i := 777) (by decide +kernel), List.mem_of_getElem? (i := 1087) (by decide +kernel), List.mem_of_getElem? (i := 1088) (by decide +kernel)⟩
theorem lw_p58 : lw_okq (⟨"FurrowTalkModel", "lastSeen", "()I"⟩, 21) := ⟨⟨by decide +kernel, by decide +kernel⟩, List.mem_of_getElem? (i := 777) (by decide +kernel), List.mem_of_getElem? (i := 1095) (by decide +kernel), List.mem_of_getElem? (i := 1096) (by decide +kernel)⟩
theorem lw_p59 : lw_okq (⟨"FurrowTalkModel", "findCosts", "(I)V"⟩, 21) := ⟨⟨by decide +kernel, by decide +kernel⟩, List.mem_of_getElem? (i := 777) (by decide +kernel), List.mem_of_getElem? (i := 1099) (by decide +kernel), List.mem_of_getElem? (i := 1100) (by decide +kernel)⟩
theorem lw_p60 : lw_okq (⟨"FurrowTalkModel", "stepCost", "(II)I"⟩, 21) := ⟨⟨by decide +kernel, by decide +kernel⟩, List.mem_of_getElem? (i := 777) (by decide +kernel), List.mem_of_getElem? (i := 1103) (by decide +kernel), List.mem_of_getElem? (i := 1104) (by decide +kernel)⟩
theorem lw_p61 : lw_okq (⟨"FurrowTalkModel", "notThere", "(I)I"⟩, 21) := ⟨⟨by decide +kernel, by decide +kernel⟩, List.mem_of_getElem? (i := 777) (by decide +kernel), List.mem_of_getElem? (i := 1115) (by decide +kernel), List.mem_of_getElem? (i := 1116) (by decide +kernel)⟩
theorem lw_p62 : lw_okq (⟨"FurrowTalkModel", "isSo", "(I)Z"⟩, 21) := ⟨⟨by decide +kernel, by decide +kernel⟩, List.mem_of_getElem? (i := 777) (by decide +kernel), List.mem_of_getElem? (i := 1123) (by decide +kernel), List.mem_of_getElem? (i := 1124) (by decide +kernel)⟩
theorem lw_p63 : lw_okq (⟨"FurrowTalkModel", "says", "(II)I"⟩, 21) := ⟨⟨by decide +kernel, by decide +kernel⟩, List.mem_of_getElem? (i := 777) (by decide +kernel), List.mem_of_getElem? (i := 1131) (by decide +kernel), List.mem_of_getElem? (i := 1132) (by decide +kernel)⟩
def lw_privs_4 : List (MethodName × Nat) := [(⟨"FurrowTalkModel", "goes", "()V"⟩, 21), (⟨"FurrowTalkModel", "seen", "()I"⟩, 21), (⟨"FurrowTalkModel", "draw", "()I"⟩, 21), (⟨"FurrowTalkModel", "longestTalk", "()I"⟩, 21), (⟨"FurrowTalkModel", "isAnswer", "(I)Z"⟩, 21), (⟨"FurrowTalkModel", "ahead", "(I)I"⟩, 21), (⟨"FurrowTalkModel", "answersSeen", "()I"⟩, 21), (⟨"FurrowTalkModel", "thinks", "()V"⟩, 21), (⟨"FurrowTalkModel", "putsBack", "()V"⟩, 21), (⟨"FurrowTalkModel", "isTalk", "(I)Z"⟩, 21), (⟨"FurrowTalkModel", "lastSeen", "()I"⟩, 21), (⟨"FurrowTalkModel", "findCosts", "(I)V"⟩, 21), (⟨"FurrowTalkModel", "stepCost", "(II)I"⟩, 21), (⟨"FurrowTalkModel", "notThere", "(I)I"⟩, 21), (⟨"FurrowTalkModel", "isSo", "(I)Z"⟩, 21), (⟨"FurrowTalkModel", "says", "(II)I"⟩, 21)]
theorem lw_r4 : ∀ q ∈ lw_privs_4, lw_okq q := List.forall_mem_cons.mpr ⟨lw_p48, List.forall_mem_cons.mpr ⟨lw_p49, List.forall_mem_cons.mpr ⟨lw_p50, List.forall_mem_cons.mpr ⟨lw_p51, List.forall_mem_cons.mpr ⟨lw_p52, List.forall_mem_cons.mpr ⟨lw_p53, List.forall_mem_cons.mpr ⟨lw_p54, List.forall_mem_cons.mpr ⟨lw_p55, List.forall_mem_cons.mpr ⟨lw_p56, List.forall_mem_cons.mpr ⟨lw_p57, List.forall_mem_cons.mpr ⟨lw_p58, List.forall_mem_cons.mpr ⟨lw_p59, List.forall_mem_cons.mpr ⟨lw_p60, List.forall_mem_cons.mpr ⟨lw_p61, List.forall_mem_cons.mpr ⟨lw_p62, List.forall_mem_cons.mpr ⟨lw_p63, fun _ h => absurd h List.not_mem_nil⟩⟩⟩⟩⟩⟩⟩⟩⟩⟩⟩⟩⟩⟩⟩⟩
theorem lw_p64 : lw_okq (⟨"FurrowTalkModel", "oathSays", "(II)I"⟩, 21) := ⟨⟨by decide +kernel, by decide +kernel⟩, List.mem_of_getElem? (i := 777) (by decide +kernel), List.mem_of_getElem? (i := 1135) (by decide +kernel), List.mem_of_getElem? (i := 1136) (by decide +kernel)⟩
theorem lw_p65 : lw_okq (⟨"FurrowTalkModel", "begins", "(I)V"⟩, 21) := ⟨⟨by decide +kernel, by decide +kernel⟩, List.mem_of_getElem? (i := 777) (by decide +kernel), List.mem_of_getElem? (i := 1139) (by decide +kernel), List.mem_of_getElem? (i := 1140) (by decide +kernel)⟩
theorem lw_p66 : lw_okq (⟨"FurrowTalkModel", "plainSays", "(II)I"⟩, 21) := ⟨⟨by decide +kernel, by decide +kernel⟩, List.mem_of_getElem? (i := 777) (by decide +kernel), List.mem_of_getElem? (i := 1143) (by decide +kernel), List.mem_of_getElem? (i := 1144) (by decide +kernel)⟩
theorem lw_p67 : lw_okq (⟨"FurrowTalkModel", "asks", "(II)I"⟩, 21) := ⟨⟨by decide +kernel, by decide +kernel⟩, List.mem_of_getElem? (i := 777) (by decide +kernel), List.mem_of_getElem? (i := 1147) (by decide +kernel), List.mem_of_getElem? (i := 1148) (by decide +kernel)⟩
theorem lw_p68 : lw_okq (⟨"FurrowTalkModel", "roundAsks", "(II)I"⟩, 21) := ⟨⟨by decide +kernel, by decide +kernel⟩, List.mem_of_getElem? (i := 777) (by decide +kernel), List.mem_of_getElem? (i := 1151) (by decide +kernel), List.mem_of_getElem? (i := 1152) (by decide +kernel)⟩
theorem lw_p69 : lw_okq (⟨"FurrowTalkModel", "plainAsks", "(II)I"⟩, 21) := ⟨⟨by decide +kernel, by decide +kernel⟩, List.mem_of_getElem? (i := 777) (by decide +kernel), List.mem_of_getElem? (i := 1155) (by decide +kernel), List.mem_of_getElem? (i := 1156) (by decide +kernel)⟩
theorem lw_p70 : lw_okq (⟨"FurrowTalkModel", "hums", "(II)I"⟩, 21) := ⟨⟨by decide +kernel, by decide +kernel⟩, List.mem_of_getElem? (i := 777) (by decide +kernel), List.mem_of_getElem? (i := 1159) (by decide +kernel), List.mem_of_getElem? (i := 1160) (by decide +kernel)⟩
theorem lw_p71 : lw_okq (⟨"FurrowTalkModel", "plainHums", "(II)I"⟩, 21) := ⟨⟨by decide +kernel, by decide +kernel⟩, List.mem_of_getElem? (i := 777) (by decide +kernel), List.mem_of_getElem? (i := 1163) (by decide +kernel), List.mem_of_getElem? (i := 1164) (by decide +kernel)⟩
theorem lw_p72 : lw_okq (⟨"FurrowTalkModel", "parts", "(II)I"⟩, 21) := ⟨⟨by decide +kernel, by decide +kernel⟩, List.mem_of_getElem? (i := 777) (by decide +kernel), List.mem_of_getElem? (i := 1167) (by decide +kernel), List.mem_of_getElem? (i := 1168) (by decide +kernel)⟩
theorem lw_p73 : lw_okq (⟨"FurrowTalkModel", "plainParts", "(II)I"⟩, 21) := ⟨⟨by decide +kernel, by decide +kernel⟩, List.mem_of_getElem? (i := 777) (by decide +kernel), List.mem_of_getElem? (i := 1171) (by decide +kernel), List.mem_of_getElem? (i := 1172) (by decide +kernel)⟩
theorem lw_p74 : lw_okq (⟨"FurrowTalkModel", "notMoved", "(IIIII)I"⟩, 21) := ⟨⟨by decide +kernel, by decide +kernel⟩, List.mem_of_getElem? (i := 777) (by decide +kernel), List.mem_of_getElem? (i := 1192) (by decide +kernel), List.mem_of_getElem? (i := 1193) (by decide +kernel)⟩
def lw_privs_5 : List (MethodName × Nat) := [(⟨"FurrowTalkModel", "oathSays", "(II)I"⟩, 21), (⟨"FurrowTalkModel", "begins", "(I)V"⟩, 21), (⟨"FurrowTalkModel", "plainSays", "(II)I"⟩, 21), (⟨"FurrowTalkModel", "asks", "(II)I"⟩, 21), (⟨"FurrowTalkModel", "roundAsks", "(II)I"⟩, 21), (⟨"FurrowTalkModel", "plainAsks", "(II)I"⟩, 21), (⟨"FurrowTalkModel", "hums", "(II)I"⟩, 21), (⟨"FurrowTalkModel", "plainHums", "(II)I"⟩, 21), (⟨"FurrowTalkModel", "parts", "(II)I"⟩, 21), (⟨"FurrowTalkModel", "plainParts", "(II)I"⟩, 21), (⟨"FurrowTalkModel", "notMoved", "(IIIII)I"⟩, 21)]
theorem lw_r5 : ∀ q ∈ lw_privs_5, lw_okq q := List.forall_mem_cons.mpr ⟨lw_p64, List.forall_mem_cons.mpr ⟨lw_p65, List.forall_mem_cons.mpr ⟨lw_p66, List.forall_mem_cons.mpr ⟨lw_p67, List.forall_mem_cons.mpr ⟨lw_p68, List.forall_mem_cons.mpr ⟨lw_p69, List.forall_mem_cons.mpr ⟨lw_p70, List.forall_mem_cons.mpr ⟨lw_p71, List.forall_mem_cons.mpr ⟨lw_p72, List.forall_mem_cons.mpr ⟨lw_p73, List.forall_mem_cons.mpr ⟨lw_p74, fun _ h => absurd h List.not_mem_nil⟩⟩⟩⟩⟩⟩⟩⟩⟩⟩⟩
def lw_privs : List (MethodName × Nat) := lw_privs_1 ++ (lw_privs_2 ++ (lw_privs_3 ++ (lw_privs_4 ++ (lw_privs_5))))
def lw_tbl : List Cond := k2_sels lw_privs ++ tables_1
theorem lw_privs_ok : ∀ q ∈ lw_privs, lw_okq q := by
  show ∀ q ∈ lw_privs_1 ++ (lw_privs_2 ++ (lw_privs_3 ++ (lw_privs_4 ++ (lw_privs_5)))), lw_okq q
  exact List.forall_mem_append.mpr ⟨lw_r1, List.forall_mem_append.mpr ⟨lw_r2, List.forall_mem_append.mpr ⟨lw_r3, List.forall_mem_append.mpr ⟨lw_r4, lw_r5⟩⟩⟩⟩

def RX0 : String := "FurrowTalk$Chains"
def TX0 : u_T := fun k => match k with
  | _ => ("FurrowTalk$Chains", "bestEndingAt", "[I", true)
def tyX0 : Nat → FieldType := fun k => match k with
  | _ => .array .int
abbrev wsX00 : List Cond := u_ws RX0 TX0 1
theorem nmX0 : ∀ a, a < 1 → ∀ b, b < 1 → a ≠ b → (TX0 a).2.1 ≠ (TX0 b).2.1 := by decide +kernel
theorem tyX0_ok : ∀ k, k < 1 → parseFieldDescriptor (TX0 k).2.2.1 = some (tyX0 k) := by decide +kernel
abbrev cX0_init : ByteArray := prog_2_method_1_code
def yX0_init : MethodName := ⟨RX0, "<init>", "()V"⟩
abbrev cX0_bestSet : ByteArray := prog_2_method_2_code
def yX0_bestSet : MethodName := ⟨RX0, "bestSet", "(LFurrowTalk$Field;)I"⟩
abbrev cX0_bestAhead : ByteArray := prog_2_method_3_code
def yX0_bestAhead : MethodName := ⟨RX0, "bestAhead", "(LFurrowTalk$Field;I)I"⟩
def RX1 : String := "FurrowTalk$Field"
def TX1 : u_T := fun k => match k with
  | 0 => ("FurrowTalk$Field", "furrows", "[LFurrowTalk$Furrow;", true)
  | 1 => ("FurrowTalk$Field", "size", "I", false)
  | 2 => ("FurrowTalk$Field", "year", "I", false)
  | 3 => ("FurrowTalk$Field", "patience", "I", false)
  | _ => ("FurrowTalk$Field", "z", "I", false)
def tyX1 : Nat → FieldType := fun k => match k with
  | 0 => .array (.object "FurrowTalk$Furrow")
  | 1 => .int
  | 2 => .int
  | 3 => .int
  | _ => .int
abbrev wsX10 : List Cond := u_ws RX1 TX1 5
theorem nmX1 : ∀ a, a < 5 → ∀ b, b < 5 → a ≠ b → (TX1 a).2.1 ≠ (TX1 b).2.1 := by decide +kernel
theorem tyX1_ok : ∀ k, k < 5 → parseFieldDescriptor (TX1 k).2.2.1 = some (tyX1 k) := by decide +kernel
abbrev cX1_init : ByteArray := prog_3_method_1_code
def yX1_init : MethodName := ⟨RX1, "<init>", "()V"⟩
abbrev cX1_add : ByteArray := prog_3_method_2_code
def yX1_add : MethodName := ⟨RX1, "add", "(III)I"⟩
abbrev cX1_echoes : ByteArray := prog_3_method_3_code
def yX1_echoes : MethodName := ⟨RX1, "echoes", "(II)Z"⟩
abbrev cX1_seenAhead : ByteArray := prog_3_method_4_code
def yX1_seenAhead : MethodName := ⟨RX1, "seenAhead", "(I)I"⟩
abbrev cX1_isHeard : ByteArray := prog_3_method_5_code
def yX1_isHeard : MethodName := ⟨RX1, "isHeard", "(I)Z"⟩
abbrev cX1_isAnswer : ByteArray := prog_3_method_6_code
def yX1_isAnswer : MethodName := ⟨RX1, "isAnswer", "(I)Z"⟩
abbrev cX1_seenCount : ByteArray := prog_3_method_7_code
def yX1_seenCount : MethodName := ⟨RX1, "seenCount", "()I"⟩
abbrev cX1_seenSet : ByteArray := prog_3_method_8_code
def yX1_seenSet : MethodName := ⟨RX1, "seenSet", "()I"⟩
abbrev cX1_answerCount : ByteArray := prog_3_method_9_code
def yX1_answerCount : MethodName := ⟨RX1, "answerCount", "()I"⟩
abbrev cX1_longestTalk : ByteArray := prog_3_method_10_code
def yX1_longestTalk : MethodName := ⟨RX1, "longestTalk", "()I"⟩
abbrev cX1_passYear : ByteArray := prog_3_method_11_code
def yX1_passYear : MethodName := ⟨RX1, "passYear", "()V"⟩
abbrev cX1_passYears : ByteArray := prog_3_method_12_code
def yX1_passYears : MethodName := ⟨RX1, "passYears", "(I)V"⟩
abbrev cX1_passYearByDraws : ByteArray := prog_3_method_13_code
def yX1_passYearByDraws : MethodName := ⟨RX1, "passYearByDraws", "()V"⟩
abbrev cX1_nextDraw : ByteArray := prog_3_method_14_code
def yX1_nextDraw : MethodName := ⟨RX1, "nextDraw", "()I"⟩
abbrev cX1_copyFrom : ByteArray := prog_3_method_15_code
def yX1_copyFrom : MethodName := ⟨RX1, "copyFrom", "(LFurrowTalk$Field;)V"⟩
def RX2 : String := "FurrowTalk$Furrow"
def TX2 : u_T := fun k => match k with
  | 0 => ("FurrowTalk$Furrow", "kind", "I", false)
  | 1 => ("FurrowTalk$Furrow", "m", "I", false)
  | 2 => ("FurrowTalk$Furrow", "length", "I", false)
  | 3 => ("FurrowTalk$Furrow", "crook", "I", false)
  | 4 => ("FurrowTalk$Furrow", "hand", "I", false)
  | 5 => ("FurrowTalk$Furrow", "age", "I", false)
  | _ => ("FurrowTalk$Furrow", "covered", "Z", false)
def tyX2 : Nat → FieldType := fun k => match k with
  | 0 => .int
  | 1 => .int
  | 2 => .int
  | 3 => .int
  | 4 => .int
  | 5 => .int
  | _ => .boolean
abbrev wsX20 : List Cond := u_ws RX2 TX2 7
theorem nmX2 : ∀ a, a < 7 → ∀ b, b < 7 → a ≠ b → (TX2 a).2.1 ≠ (TX2 b).2.1 := by decide +kernel
theorem tyX2_ok : ∀ k, k < 7 → parseFieldDescriptor (TX2 k).2.2.1 = some (tyX2 k) := by decide +kernel
abbrev cX2_init : ByteArray := prog_4_method_1_code
def yX2_init : MethodName := ⟨RX2, "<init>", "()V"⟩
abbrev cX2_setKindAndNumber : ByteArray := prog_4_method_2_code
def yX2_setKindAndNumber : MethodName := ⟨RX2, "setKindAndNumber", "(I)V"⟩
abbrev cX2_setLine : ByteArray := prog_4_method_3_code
def yX2_setLine : MethodName := ⟨RX2, "setLine", "(I)V"⟩
abbrev cX2_line : ByteArray := prog_4_method_4_code
def yX2_line : MethodName := ⟨RX2, "line", "()I"⟩
abbrev cX2_isOfKind : ByteArray := prog_4_method_5_code
def yX2_isOfKind : MethodName := ⟨RX2, "isOfKind", "(I)Z"⟩
abbrev cX2_echoes : ByteArray := prog_4_method_6_code
def yX2_echoes : MethodName := ⟨RX2, "echoes", "(LFurrowTalk$Furrow;)Z"⟩
abbrev cX2_isAlike : ByteArray := prog_4_method_7_code
def yX2_isAlike : MethodName := ⟨RX2, "isAlike", "(LFurrowTalk$Furrow;)Z"⟩
abbrev cX2_depth : ByteArray := prog_4_method_8_code
def yX2_depth : MethodName := ⟨RX2, "depth", "()I"⟩
abbrev cX2_goUnheard : ByteArray := prog_4_method_9_code
def yX2_goUnheard : MethodName := ⟨RX2, "goUnheard", "(I)V"⟩
abbrev cX2_copyFrom : ByteArray := prog_4_method_10_code
def yX2_copyFrom : MethodName := ⟨RX2, "copyFrom", "(LFurrowTalk$Furrow;)V"⟩
def RX3 : String := "FurrowTalk$Law"
def TX3 : u_T := fun k => match k with
  | 0 => ("FurrowTalk$Law", "parts", "[I", true)
  | 1 => ("FurrowTalk$Law", "size", "I", false)
  | 2 => ("FurrowTalk$Law", "stack", "[I", true)
  | _ => ("FurrowTalk$Law", "stackSize", "I", false)
def tyX3 : Nat → FieldType := fun k => match k with
  | 0 => .array .int
  | 1 => .int
  | 2 => .array .int
  | _ => .int
abbrev wsX30 : List Cond := u_ws RX3 TX3 4
theorem nmX3 : ∀ a, a < 4 → ∀ b, b < 4 → a ≠ b → (TX3 a).2.1 ≠ (TX3 b).2.1 := by decide +kernel
theorem tyX3_ok : ∀ k, k < 4 → parseFieldDescriptor (TX3 k).2.2.1 = some (tyX3 k) := by decide +kernel
abbrev cX3_init : ByteArray := prog_5_method_1_code
def yX3_init : MethodName := ⟨RX3, "<init>", "()V"⟩
abbrev cX3_isGiven : ByteArray := prog_5_method_2_code
def yX3_isGiven : MethodName := ⟨RX3, "isGiven", "()Z"⟩
abbrev cX3_clear : ByteArray := prog_5_method_3_code
def yX3_clear : MethodName := ⟨RX3, "clear", "()V"⟩
abbrev cX3_add : ByteArray := prog_5_method_4_code
def yX3_add : MethodName := ⟨RX3, "add", "(I)V"⟩
abbrev cX3_copyFrom : ByteArray := prog_5_method_5_code
def yX3_copyFrom : MethodName := ⟨RX3, "copyFrom", "(LFurrowTalk$Law;)V"⟩
abbrev cX3_workOut : ByteArray := prog_5_method_6_code
def yX3_workOut : MethodName := ⟨RX3, "workOut", "(III)I"⟩
abbrev cX3_push : ByteArray := prog_5_method_7_code
def yX3_push : MethodName := ⟨RX3, "push", "(I)V"⟩
abbrev cX3_pop : ByteArray := prog_5_method_8_code
def yX3_pop : MethodName := ⟨RX3, "pop", "()I"⟩
abbrev cX3_join : ByteArray := prog_5_method_9_code
def yX3_join : MethodName := ⟨RX3, "join", "(III)I"⟩
def RX4 : String := "FurrowTalk$Scale"
def TX4 : u_T := fun k => match k with
  | 0 => ("FurrowTalk$Scale", "stepCosts", "[I", true)
  | 1 => ("FurrowTalk$Scale", "costs", "[I", true)
  | _ => ("FurrowTalk$Scale", "settled", "[Z", true)
def tyX4 : Nat → FieldType := fun k => match k with
  | 0 => .array .int
  | 1 => .array .int
  | _ => .array .boolean
abbrev wsX40 : List Cond := u_ws RX4 TX4 3
theorem nmX4 : ∀ a, a < 3 → ∀ b, b < 3 → a ≠ b → (TX4 a).2.1 ≠ (TX4 b).2.1 := by decide +kernel
theorem tyX4_ok : ∀ k, k < 3 → parseFieldDescriptor (TX4 k).2.2.1 = some (tyX4 k) := by decide +kernel
abbrev cX4_init : ByteArray := prog_6_method_1_code
def yX4_init : MethodName := ⟨RX4, "<init>", "(I)V"⟩
abbrev cX4_measureTo : ByteArray := prog_6_method_2_code
def yX4_measureTo : MethodName := ⟨RX4, "measureTo", "(I)V"⟩
abbrev cX4_cheapestUnsettled : ByteArray := prog_6_method_3_code
def yX4_cheapestUnsettled : MethodName := ⟨RX4, "cheapestUnsettled", "()I"⟩
abbrev cX4_reachFrom : ByteArray := prog_6_method_4_code
def yX4_reachFrom : MethodName := ⟨RX4, "reachFrom", "(I)V"⟩
abbrev cX4_leastFirstStep : ByteArray := prog_6_method_5_code
def yX4_leastFirstStep : MethodName := ⟨RX4, "leastFirstStep", "(I)I"⟩
def RX5 : String := "FurrowTalk$Sheet"
def TX5 : u_T := fun k => match k with
  | 0 => ("FurrowTalk$Sheet", "numbers", "[I", true)
  | 1 => ("FurrowTalk$Sheet", "bits", "I", false)
  | _ => ("FurrowTalk$Sheet", "size", "I", false)
def tyX5 : Nat → FieldType := fun k => match k with
  | 0 => .array .int
  | 1 => .int
  | _ => .int
abbrev wsX50 : List Cond := u_ws RX5 TX5 3
theorem nmX5 : ∀ a, a < 3 → ∀ b, b < 3 → a ≠ b → (TX5 a).2.1 ≠ (TX5 b).2.1 := by decide +kernel
theorem tyX5_ok : ∀ k, k < 3 → parseFieldDescriptor (TX5 k).2.2.1 = some (tyX5 k) := by decide +kernel
abbrev cX5_init : ByteArray := prog_7_method_1_code
def yX5_init : MethodName := ⟨RX5, "<init>", "()V"⟩
abbrev cX5_isMissing : ByteArray := prog_7_method_2_code
def yX5_isMissing : MethodName := ⟨RX5, "isMissing", "()Z"⟩
abbrev cX5_lay : ByteArray := prog_7_method_3_code
def yX5_lay : MethodName := ⟨RX5, "lay", "(II)V"⟩
abbrev cX5_write : ByteArray := prog_7_method_4_code
def yX5_write : MethodName := ⟨RX5, "write", "(II)V"⟩
abbrev cX5_holds : ByteArray := prog_7_method_5_code
def yX5_holds : MethodName := ⟨RX5, "holds", "(II)Z"⟩
def RX6 : String := "FurrowTalk$Speaker"
def TX6 : u_T := fun k => match k with
  | 0 => ("FurrowTalk$Speaker", "trace", "[I", true)
  | 1 => ("FurrowTalk$Speaker", "traceSize", "I", false)
  | 2 => ("FurrowTalk$Speaker", "parted", "Z", false)
  | 3 => ("FurrowTalk$Speaker", "kind", "I", false)
  | 4 => ("FurrowTalk$Speaker", "k", "I", false)
  | _ => ("FurrowTalk$Speaker", "m", "I", false)
def tyX6 : Nat → FieldType := fun k => match k with
  | 0 => .array .int
  | 1 => .int
  | 2 => .boolean
  | 3 => .int
  | 4 => .int
  | _ => .int
abbrev wsX60 : List Cond := u_ws RX6 TX6 6
theorem nmX6 : ∀ a, a < 6 → ∀ b, b < 6 → a ≠ b → (TX6 a).2.1 ≠ (TX6 b).2.1 := by decide +kernel
theorem tyX6_ok : ∀ k, k < 6 → parseFieldDescriptor (TX6 k).2.2.1 = some (tyX6 k) := by decide +kernel
abbrev cX6_init : ByteArray := prog_8_method_1_code
def yX6_init : MethodName := ⟨RX6, "<init>", "()V"⟩
abbrev cX6_speak : ByteArray := prog_8_method_2_code
def yX6_speak : MethodName := ⟨RX6, "speak", "(LFurrowTalk$Furrow;III)I"⟩
abbrev cX6_begin : ByteArray := prog_8_method_3_code
def yX6_begin : MethodName := ⟨RX6, "begin", "(I)V"⟩
abbrev cX6_says : ByteArray := prog_8_method_4_code
def yX6_says : MethodName := ⟨RX6, "says", "(II)I"⟩
abbrev cX6_asks : ByteArray := prog_8_method_5_code
def yX6_asks : MethodName := ⟨RX6, "asks", "(II)I"⟩
abbrev cX6_hums : ByteArray := prog_8_method_6_code
def yX6_hums : MethodName := ⟨RX6, "hums", "(II)I"⟩
abbrev cX6_parts : ByteArray := prog_8_method_7_code
def yX6_parts : MethodName := ⟨RX6, "parts", "(II)I"⟩
def RX7 : String := "FurrowTalk$TextReader"
def TX7 : u_T := fun k => match k with
  | 0 => ("FurrowTalk$TextReader", "draft", "LFurrowTalk$Law;", true)
  | 1 => ("FurrowTalk$TextReader", "place", "I", false)
  | 2 => ("FurrowTalk$TextReader", "tape", "[B", false)
  | 3 => ("FurrowTalk$TextReader", "tapeSize", "I", false)
  | _ => ("FurrowTalk$TextReader", "use", "I", false)
def tyX7 : Nat → FieldType := fun k => match k with
  | 0 => .object "FurrowTalk$Law"
  | 1 => .int
  | 2 => .array .byte
  | 3 => .int
  | _ => .int
abbrev wsX70 : List Cond := u_ws RX7 TX7 5
theorem nmX7 : ∀ a, a < 5 → ∀ b, b < 5 → a ≠ b → (TX7 a).2.1 ≠ (TX7 b).2.1 := by decide +kernel
theorem tyX7_ok : ∀ k, k < 5 → parseFieldDescriptor (TX7 k).2.2.1 = some (tyX7 k) := by decide +kernel
abbrev cX7_init : ByteArray := prog_9_method_1_code
def yX7_init : MethodName := ⟨RX7, "<init>", "()V"⟩
abbrev cX7_read : ByteArray := prog_9_method_2_code
def yX7_read : MethodName := ⟨RX7, "read", "([BII)Z"⟩
abbrev cX7_signHere : ByteArray := prog_9_method_3_code
def yX7_signHere : MethodName := ⟨RX7, "signHere", "()I"⟩
abbrev cX7_readJoined : ByteArray := prog_9_method_4_code
def yX7_readJoined : MethodName := ⟨RX7, "readJoined", "(II)Z"⟩
abbrev cX7_readSingle : ByteArray := prog_9_method_5_code
def yX7_readSingle : MethodName := ⟨RX7, "readSingle", "(I)Z"⟩
abbrev cX7_readNegated : ByteArray := prog_9_method_6_code
def yX7_readNegated : MethodName := ⟨RX7, "readNegated", "(I)Z"⟩
abbrev cX7_readBracketed : ByteArray := prog_9_method_7_code
def yX7_readBracketed : MethodName := ⟨RX7, "readBracketed", "(I)Z"⟩
abbrev cX7_readNumber : ByteArray := prog_9_method_8_code
def yX7_readNumber : MethodName := ⟨RX7, "readNumber", "()V"⟩
abbrev cX7_readName : ByteArray := prog_9_method_9_code
def yX7_readName : MethodName := ⟨RX7, "readName", "(I)Z"⟩
abbrev cX7_isDigit : ByteArray := prog_9_method_10_code
def yX7_isDigit : MethodName := ⟨RX7, "isDigit", "(I)Z"⟩
abbrev cX7_levelOf : ByteArray := prog_9_method_11_code
def yX7_levelOf : MethodName := ⟨RX7, "levelOf", "(I)I"⟩
def RX8 : String := "FurrowTalk$World"
def TX8 : u_T := fun k => match k with
  | 0 => ("FurrowTalk$World", "field", "LFurrowTalk$Field;", true)
  | 1 => ("FurrowTalk$World", "laws", "[LFurrowTalk$Law;", true)
  | 2 => ("FurrowTalk$World", "tape", "[B", true)
  | 3 => ("FurrowTalk$World", "tapeSize", "I", false)
  | 4 => ("FurrowTalk$World", "waiting", "[I", true)
  | _ => ("FurrowTalk$World", "waitingSize", "I", false)
def tyX8 : Nat → FieldType := fun k => match k with
  | 0 => .object "FurrowTalk$Field"
  | 1 => .array (.object "FurrowTalk$Law")
  | 2 => .array .byte
  | 3 => .int
  | 4 => .array .int
  | _ => .int
abbrev wsX80 : List Cond := u_ws RX8 TX8 6
theorem nmX8 : ∀ a, a < 6 → ∀ b, b < 6 → a ≠ b → (TX8 a).2.1 ≠ (TX8 b).2.1 := by decide +kernel
theorem tyX8_ok : ∀ k, k < 6 → parseFieldDescriptor (TX8 k).2.2.1 = some (tyX8 k) := by decide +kernel
abbrev cX8_init : ByteArray := prog_10_method_1_code
def yX8_init : MethodName := ⟨RX8, "<init>", "()V"⟩
abbrev cX8_giveUse : ByteArray := prog_10_method_2_code
def yX8_giveUse : MethodName := ⟨RX8, "giveUse", "(IIII)I"⟩
abbrev cX8_senseOf : ByteArray := prog_10_method_3_code
def yX8_senseOf : MethodName := ⟨RX8, "senseOf", "(LFurrowTalk$Furrow;)I"⟩
abbrev cX8_copyFrom : ByteArray := prog_10_method_4_code
def yX8_copyFrom : MethodName := ⟨RX8, "copyFrom", "(LFurrowTalk$World;)V"⟩
def RX9 : String := "FurrowTalk"
def TX9 : u_T := fun k => match k with
  | 0 => ("FurrowTalk", "now", "LFurrowTalk$World;", true)
  | 1 => ("FurrowTalk", "kept", "LFurrowTalk$World;", true)
  | 2 => ("FurrowTalk", "images", "I", false)
  | 3 => ("FurrowTalk", "thought", "LFurrowTalk$Field;", true)
  | 4 => ("FurrowTalk", "candidate", "LFurrowTalk$Furrow;", true)
  | 5 => ("FurrowTalk", "chains", "LFurrowTalk$Chains;", true)
  | 6 => ("FurrowTalk", "longScale", "LFurrowTalk$Scale;", true)
  | 7 => ("FurrowTalk", "crookScale", "LFurrowTalk$Scale;", true)
  | 8 => ("FurrowTalk", "reader", "LFurrowTalk$TextReader;", true)
  | 9 => ("FurrowTalk", "speaker", "LFurrowTalk$Speaker;", true)
  | 10 => ("FurrowTalk", "sheets", "[LFurrowTalk$Sheet;", true)
  | _ => ("FurrowTalk", "errorsTold", "[I", true)
def tyX9 : Nat → FieldType := fun k => match k with
  | 0 => .object "FurrowTalk$World"
  | 1 => .object "FurrowTalk$World"
  | 2 => .int
  | 3 => .object "FurrowTalk$Field"
  | 4 => .object "FurrowTalk$Furrow"
  | 5 => .object "FurrowTalk$Chains"
  | 6 => .object "FurrowTalk$Scale"
  | 7 => .object "FurrowTalk$Scale"
  | 8 => .object "FurrowTalk$TextReader"
  | 9 => .object "FurrowTalk$Speaker"
  | 10 => .array (.object "FurrowTalk$Sheet")
  | _ => .array .int
abbrev wsX90 : List Cond := u_ws RX9 TX9 12
theorem nmX9 : ∀ a, a < 12 → ∀ b, b < 12 → a ≠ b → (TX9 a).2.1 ≠ (TX9 b).2.1 := by decide +kernel
theorem tyX9_ok : ∀ k, k < 12 → parseFieldDescriptor (TX9 k).2.2.1 = some (tyX9 k) := by decide +kernel
abbrev cX9_init : ByteArray := prog_1_method_1_code
def yX9_init : MethodName := ⟨RX9, "<init>", "()V"⟩
abbrev cX9_plough : ByteArray := prog_1_method_2_code
def yX9_plough : MethodName := ⟨RX9, "plough", "(III)I"⟩
abbrev cX9_furrowIs : ByteArray := prog_1_method_3_code
def yX9_furrowIs : MethodName := ⟨RX9, "furrowIs", "(II)I"⟩
abbrev cX9_become : ByteArray := prog_1_method_4_code
def yX9_become : MethodName := ⟨RX9, "become", "(II)I"⟩
abbrev cX9_as : ByteArray := prog_1_method_5_code
def yX9_as : MethodName := ⟨RX9, "as", "(II)I"⟩
abbrev cX9_answers : ByteArray := prog_1_method_6_code
def yX9_answers : MethodName := ⟨RX9, "answers", "(II)I"⟩
abbrev cX9_cover : ByteArray := prog_1_method_7_code
def yX9_cover : MethodName := ⟨RX9, "cover", "(II)I"⟩
abbrev cX9_redraw : ByteArray := prog_1_method_8_code
def yX9_redraw : MethodName := ⟨RX9, "redraw", "(II)I"⟩
abbrev cX9_patience : ByteArray := prog_1_method_9_code
def yX9_patience : MethodName := ⟨RX9, "patience", "(I)I"⟩
abbrev cX9_feed : ByteArray := prog_1_method_10_code
def yX9_feed : MethodName := ⟨RX9, "feed", "(JI)I"⟩
abbrev cX9_text : ByteArray := prog_1_method_11_code
def yX9_text : MethodName := ⟨RX9, "text", "(I)I"⟩
abbrev cX9_untell : ByteArray := prog_1_method_12_code
def yX9_untell : MethodName := ⟨RX9, "untell", "(I)I"⟩
abbrev cX9_law : ByteArray := prog_1_method_13_code
def yX9_law : MethodName := ⟨RX9, "law", "(IIII)I"⟩
abbrev cX9_years : ByteArray := prog_1_method_14_code
def yX9_years : MethodName := ⟨RX9, "years", "(I)I"⟩
abbrev cX9_loose : ByteArray := prog_1_method_15_code
def yX9_loose : MethodName := ⟨RX9, "loose", "(I)I"⟩
abbrev cX9_seed : ByteArray := prog_1_method_16_code
def yX9_seed : MethodName := ⟨RX9, "seed", "(I)I"⟩
abbrev cX9_talk : ByteArray := prog_1_method_17_code
def yX9_talk : MethodName := ⟨RX9, "talk", "(I)I"⟩
abbrev cX9_meaning : ByteArray := prog_1_method_18_code
def yX9_meaning : MethodName := ⟨RX9, "meaning", "(I)I"⟩
abbrev cX9_then : ByteArray := prog_1_method_19_code
def yX9_then : MethodName := ⟨RX9, "then", "(II)I"⟩
abbrev cX9_fewest : ByteArray := prog_1_method_20_code
def yX9_fewest : MethodName := ⟨RX9, "fewest", "(I)I"⟩
abbrev cX9_reply : ByteArray := prog_1_method_21_code
def yX9_reply : MethodName := ⟨RX9, "reply", "(II)I"⟩
abbrev cX9_odds : ByteArray := prog_1_method_22_code
def yX9_odds : MethodName := ⟨RX9, "odds", "(III)I"⟩
abbrev cX9_fits : ByteArray := prog_1_method_23_code
def yX9_fits : MethodName := ⟨RX9, "fits", "(I)I"⟩
abbrev cX9_voice : ByteArray := prog_1_method_24_code
def yX9_voice : MethodName := ⟨RX9, "voice", "(III)I"⟩
abbrev cX9_body : ByteArray := prog_1_method_25_code
def yX9_body : MethodName := ⟨RX9, "body", "(I)I"⟩
abbrev cX9_sheet : ByteArray := prog_1_method_26_code
def yX9_sheet : MethodName := ⟨RX9, "sheet", "(III)I"⟩
abbrev cX9_put : ByteArray := prog_1_method_27_code
def yX9_put : MethodName := ⟨RX9, "put", "(III)I"⟩
abbrev cX9_move : ByteArray := prog_1_method_28_code
def yX9_move : MethodName := ⟨RX9, "move", "(IIIII)I"⟩
abbrev cX9_lines : ByteArray := prog_1_method_29_code
def yX9_lines : MethodName := ⟨RX9, "lines", "(I)I"⟩
abbrev cX9_judge : ByteArray := prog_1_method_30_code
def yX9_judge : MethodName := ⟨RX9, "judge", "(I)I"⟩
abbrev cX9_image : ByteArray := prog_1_method_31_code
def yX9_image : MethodName := ⟨RX9, "image", "()I"⟩
abbrev cX9_restore : ByteArray := prog_1_method_32_code
def yX9_restore : MethodName := ⟨RX9, "restore", "()I"⟩
abbrev cX9_tell : ByteArray := prog_1_method_33_code
def yX9_tell : MethodName := ⟨RX9, "tell", "(I)I"⟩
abbrev cX9_check : ByteArray := prog_1_method_34_code
def yX9_check : MethodName := ⟨RX9, "check", "()I"⟩
abbrev cX9_count : ByteArray := prog_1_method_35_code
def yX9_count : MethodName := ⟨RX9, "count", "(I)I"⟩
abbrev cX9_told : ByteArray := prog_1_method_36_code
def yX9_told : MethodName := ⟨RX9, "told", "(I)I"⟩
abbrev cX9_refuse : ByteArray := prog_1_method_37_code
def yX9_refuse : MethodName := ⟨RX9, "refuse", "(I)I"⟩
abbrev cX9_isFurrow : ByteArray := prog_1_method_38_code
def yX9_isFurrow : MethodName := ⟨RX9, "isFurrow", "(I)Z"⟩
abbrev cX9_firstReplyLine : ByteArray := prog_1_method_39_code
def yX9_firstReplyLine : MethodName := ⟨RX9, "firstReplyLine", "(LFurrowTalk$Furrow;)I"⟩
abbrev cX9_linesThatEcho : ByteArray := prog_1_method_40_code
def yX9_linesThatEcho : MethodName := ⟨RX9, "linesThatEcho", "(LFurrowTalk$Furrow;)I"⟩
abbrev cX9_commonDivisor : ByteArray := prog_1_method_41_code
def yX9_commonDivisor : MethodName := ⟨RX9, "commonDivisor", "(I)I"⟩
abbrev cX9_tellsLengths : ByteArray := prog_1_method_42_code
def yX9_tellsLengths : MethodName := ⟨RX9, "tellsLengths", "(LFurrowTalk$Sheet;LFurrowTalk$Field;)Z"⟩
abbrev cX9_isKind : ByteArray := prog_1_method_43_code
def yX9_isKind : MethodName := ⟨RX9, "isKind", "(I)Z"⟩
abbrev cX9_isKindWithNumber : ByteArray := prog_1_method_44_code
def yX9_isKindWithNumber : MethodName := ⟨RX9, "isKindWithNumber", "(I)Z"⟩
abbrev cX9_isLine : ByteArray := prog_1_method_45_code
def yX9_isLine : MethodName := ⟨RX9, "isLine", "(I)Z"⟩
abbrev cX9_lineAt : ByteArray := prog_1_method_46_code
def yX9_lineAt : MethodName := ⟨RX9, "lineAt", "(I)I"⟩
abbrev cX9_isHand : ByteArray := prog_1_method_47_code
def yX9_isHand : MethodName := ⟨RX9, "isHand", "(I)Z"⟩
abbrev cX9_isUse : ByteArray := prog_1_method_48_code
def yX9_isUse : MethodName := ⟨RX9, "isUse", "(I)Z"⟩
abbrev cX9_isSheet : ByteArray := prog_1_method_49_code
def yX9_isSheet : MethodName := ⟨RX9, "isSheet", "(I)Z"⟩
abbrev cX9_asNumber : ByteArray := prog_1_method_50_code
def yX9_asNumber : MethodName := ⟨RX9, "asNumber", "(Z)I"⟩
abbrev cX9_hold : ByteArray := prog_1_method_51_code
def yX9_hold : MethodName := ⟨RX9, "hold", "(III)I"⟩
def RX10 : String := "FurrowTalkModel"
def TX10 : u_T := fun k => match k with
  | 0 => ("FurrowTalkModel", "row", "[I", true)
  | 1 => ("FurrowTalkModel", "kept", "[I", true)
  | 2 => ("FurrowTalkModel", "before", "[I", true)
  | 3 => ("FurrowTalkModel", "images", "I", false)
  | 4 => ("FurrowTalkModel", "errors", "[I", true)
  | 5 => ("FurrowTalkModel", "bitsOf", "[I", true)
  | 6 => ("FurrowTalkModel", "sizeOf", "[I", true)
  | 7 => ("FurrowTalkModel", "cells", "[I", true)
  | 8 => ("FurrowTalkModel", "act", "[I", true)
  | 9 => ("FurrowTalkModel", "with", "[I", true)
  | 10 => ("FurrowTalkModel", "facts", "[I", true)
  | 11 => ("FurrowTalkModel", "pile", "[I", true)
  | 12 => ("FurrowTalkModel", "laid", "I", false)
  | 13 => ("FurrowTalkModel", "here", "I", false)
  | 14 => ("FurrowTalkModel", "opened", "I", false)
  | 15 => ("FurrowTalkModel", "bad", "Z", false)
  | 16 => ("FurrowTalkModel", "using", "I", false)
  | 17 => ("FurrowTalkModel", "cost", "[I", true)
  | 18 => ("FurrowTalkModel", "trace", "[I", true)
  | 19 => ("FurrowTalkModel", "traced", "I", false)
  | _ => ("FurrowTalkModel", "isParted", "Z", false)
def tyX10 : Nat → FieldType := fun k => match k with
  | 0 => .array .int
  | 1 => .array .int
  | 2 => .array .int
  | 3 => .int
  | 4 => .array .int
  | 5 => .array .int
  | 6 => .array .int
  | 7 => .array .int
  | 8 => .array .int
  | 9 => .array .int
  | 10 => .array .int
  | 11 => .array .int
  | 12 => .int
  | 13 => .int
  | 14 => .int
  | 15 => .boolean
  | 16 => .int
  | 17 => .array .int
  | 18 => .array .int
  | 19 => .int
  | _ => .boolean
abbrev wsX100 : List Cond := u_ws RX10 TX10 21
theorem nmX10 : ∀ a, a < 21 → ∀ b, b < 21 → a ≠ b → (TX10 a).2.1 ≠ (TX10 b).2.1 := by decide +kernel
theorem tyX10_ok : ∀ k, k < 21 → parseFieldDescriptor (TX10 k).2.2.1 = some (tyX10 k) := by decide +kernel
abbrev cX10_init : ByteArray := prog_12_method_1_code
def yX10_init : MethodName := ⟨RX10, "<init>", "()V"⟩
abbrev cX10_error : ByteArray := prog_12_method_2_code
def yX10_error : MethodName := ⟨RX10, "error", "(I)I"⟩
abbrev cX10_in : ByteArray := prog_12_method_3_code
def yX10_in : MethodName := ⟨RX10, "in", "(III)Z"⟩
abbrev cX10_held : ByteArray := prog_12_method_4_code
def yX10_held : MethodName := ⟨RX10, "held", "(III)I"⟩
abbrev cX10_copyAll : ByteArray := prog_12_method_5_code
def yX10_copyAll : MethodName := ⟨RX10, "copyAll", "([I[I)V"⟩
abbrev cX10_thinks : ByteArray := prog_12_method_6_code
def yX10_thinks : MethodName := ⟨RX10, "thinks", "()V"⟩
abbrev cX10_putsBack : ByteArray := prog_12_method_7_code
def yX10_putsBack : MethodName := ⟨RX10, "putsBack", "()V"⟩
abbrev cX10_bits : ByteArray := prog_12_method_8_code
def yX10_bits : MethodName := ⟨RX10, "bits", "(I)I"⟩
abbrev cX10_isFurrow : ByteArray := prog_12_method_9_code
def yX10_isFurrow : MethodName := ⟨RX10, "isFurrow", "(I)Z"⟩
abbrev cX10_becomes : ByteArray := prog_12_method_10_code
def yX10_becomes : MethodName := ⟨RX10, "becomes", "(II)I"⟩
abbrev cX10_of : ByteArray := prog_12_method_11_code
def yX10_of : MethodName := ⟨RX10, "of", "(II)I"⟩
abbrev cX10_lets : ByteArray := prog_12_method_12_code
def yX10_lets : MethodName := ⟨RX10, "lets", "(III)V"⟩
abbrev cX10_doesAnswer : ByteArray := prog_12_method_13_code
def yX10_doesAnswer : MethodName := ⟨RX10, "doesAnswer", "(II)Z"⟩
abbrev cX10_depthOf : ByteArray := prog_12_method_14_code
def yX10_depthOf : MethodName := ⟨RX10, "depthOf", "(I)I"⟩
abbrev cX10_isSeen : ByteArray := prog_12_method_15_code
def yX10_isSeen : MethodName := ⟨RX10, "isSeen", "(I)Z"⟩
abbrev cX10_behind : ByteArray := prog_12_method_16_code
def yX10_behind : MethodName := ⟨RX10, "behind", "(I)I"⟩
abbrev cX10_ahead : ByteArray := prog_12_method_17_code
def yX10_ahead : MethodName := ⟨RX10, "ahead", "(I)I"⟩
abbrev cX10_isHeard : ByteArray := prog_12_method_18_code
def yX10_isHeard : MethodName := ⟨RX10, "isHeard", "(I)Z"⟩
abbrev cX10_isAnswer : ByteArray := prog_12_method_19_code
def yX10_isAnswer : MethodName := ⟨RX10, "isAnswer", "(I)Z"⟩
abbrev cX10_seen : ByteArray := prog_12_method_20_code
def yX10_seen : MethodName := ⟨RX10, "seen", "()I"⟩
abbrev cX10_senseOf : ByteArray := prog_12_method_21_code
def yX10_senseOf : MethodName := ⟨RX10, "senseOf", "(I)I"⟩
abbrev cX10_isKm : ByteArray := prog_12_method_22_code
def yX10_isKm : MethodName := ⟨RX10, "isKm", "(I)Z"⟩
abbrev cX10_isLine : ByteArray := prog_12_method_23_code
def yX10_isLine : MethodName := ⟨RX10, "isLine", "(I)Z"⟩
abbrev cX10_comes : ByteArray := prog_12_method_24_code
def yX10_comes : MethodName := ⟨RX10, "comes", "(IIII)I"⟩
abbrev cX10_plough : ByteArray := prog_12_method_25_code
def yX10_plough : MethodName := ⟨RX10, "plough", "(III)I"⟩
abbrev cX10_furrowIs : ByteArray := prog_12_method_26_code
def yX10_furrowIs : MethodName := ⟨RX10, "furrowIs", "(II)I"⟩
abbrev cX10_become : ByteArray := prog_12_method_27_code
def yX10_become : MethodName := ⟨RX10, "become", "(II)I"⟩
abbrev cX10_as : ByteArray := prog_12_method_28_code
def yX10_as : MethodName := ⟨RX10, "as", "(II)I"⟩
abbrev cX10_answers : ByteArray := prog_12_method_29_code
def yX10_answers : MethodName := ⟨RX10, "answers", "(II)I"⟩
abbrev cX10_cover : ByteArray := prog_12_method_30_code
def yX10_cover : MethodName := ⟨RX10, "cover", "(II)I"⟩
abbrev cX10_redraw : ByteArray := prog_12_method_31_code
def yX10_redraw : MethodName := ⟨RX10, "redraw", "(II)I"⟩
abbrev cX10_patience : ByteArray := prog_12_method_32_code
def yX10_patience : MethodName := ⟨RX10, "patience", "(I)I"⟩
abbrev cX10_feed : ByteArray := prog_12_method_33_code
def yX10_feed : MethodName := ⟨RX10, "feed", "(JI)I"⟩
abbrev cX10_look : ByteArray := prog_12_method_34_code
def yX10_look : MethodName := ⟨RX10, "look", "()I"⟩
abbrev cX10_step : ByteArray := prog_12_method_35_code
def yX10_step : MethodName := ⟨RX10, "step", "(II)V"⟩
abbrev cX10_nameOf : ByteArray := prog_12_method_36_code
def yX10_nameOf : MethodName := ⟨RX10, "nameOf", "(I)I"⟩
abbrev cX10_number : ByteArray := prog_12_method_37_code
def yX10_number : MethodName := ⟨RX10, "number", "()V"⟩
abbrev cX10_opens : ByteArray := prog_12_method_38_code
def yX10_opens : MethodName := ⟨RX10, "opens", "(I)V"⟩
abbrev cX10_one : ByteArray := prog_12_method_39_code
def yX10_one : MethodName := ⟨RX10, "one", "()V"⟩
abbrev cX10_times : ByteArray := prog_12_method_40_code
def yX10_times : MethodName := ⟨RX10, "times", "()V"⟩
abbrev cX10_sum : ByteArray := prog_12_method_41_code
def yX10_sum : MethodName := ⟨RX10, "sum", "()V"⟩
abbrev cX10_compares : ByteArray := prog_12_method_42_code
def yX10_compares : MethodName := ⟨RX10, "compares", "()V"⟩
abbrev cX10_all : ByteArray := prog_12_method_43_code
def yX10_all : MethodName := ⟨RX10, "all", "()V"⟩
abbrev cX10_any : ByteArray := prog_12_method_44_code
def yX10_any : MethodName := ⟨RX10, "any", "()V"⟩
abbrev cX10_text : ByteArray := prog_12_method_45_code
def yX10_text : MethodName := ⟨RX10, "text", "(I)I"⟩
abbrev cX10_untell : ByteArray := prog_12_method_46_code
def yX10_untell : MethodName := ⟨RX10, "untell", "(I)I"⟩
abbrev cX10_twoOf : ByteArray := prog_12_method_47_code
def yX10_twoOf : MethodName := ⟨RX10, "twoOf", "(III)I"⟩
abbrev cX10_works : ByteArray := prog_12_method_48_code
def yX10_works : MethodName := ⟨RX10, "works", "(I)I"⟩
abbrev cX10_gives : ByteArray := prog_12_method_49_code
def yX10_gives : MethodName := ⟨RX10, "gives", "(IIII)I"⟩
abbrev cX10_law : ByteArray := prog_12_method_50_code
def yX10_law : MethodName := ⟨RX10, "law", "(IIII)I"⟩
abbrev cX10_goes : ByteArray := prog_12_method_51_code
def yX10_goes : MethodName := ⟨RX10, "goes", "()V"⟩
abbrev cX10_years : ByteArray := prog_12_method_52_code
def yX10_years : MethodName := ⟨RX10, "years", "(I)I"⟩
abbrev cX10_draw : ByteArray := prog_12_method_53_code
def yX10_draw : MethodName := ⟨RX10, "draw", "()I"⟩
abbrev cX10_loose : ByteArray := prog_12_method_54_code
def yX10_loose : MethodName := ⟨RX10, "loose", "(I)I"⟩
abbrev cX10_seed : ByteArray := prog_12_method_55_code
def yX10_seed : MethodName := ⟨RX10, "seed", "(I)I"⟩
abbrev cX10_longestTalk : ByteArray := prog_12_method_56_code
def yX10_longestTalk : MethodName := ⟨RX10, "longestTalk", "()I"⟩
abbrev cX10_answersSeen : ByteArray := prog_12_method_57_code
def yX10_answersSeen : MethodName := ⟨RX10, "answersSeen", "()I"⟩
abbrev cX10_talk : ByteArray := prog_12_method_58_code
def yX10_talk : MethodName := ⟨RX10, "talk", "(I)I"⟩
abbrev cX10_meaning : ByteArray := prog_12_method_59_code
def yX10_meaning : MethodName := ⟨RX10, "meaning", "(I)I"⟩
abbrev cX10_then : ByteArray := prog_12_method_60_code
def yX10_then : MethodName := ⟨RX10, "then", "(II)I"⟩
abbrev cX10_isTalk : ByteArray := prog_12_method_61_code
def yX10_isTalk : MethodName := ⟨RX10, "isTalk", "(I)Z"⟩
abbrev cX10_fewest : ByteArray := prog_12_method_62_code
def yX10_fewest : MethodName := ⟨RX10, "fewest", "(I)I"⟩
abbrev cX10_stepCost : ByteArray := prog_12_method_63_code
def yX10_stepCost : MethodName := ⟨RX10, "stepCost", "(II)I"⟩
abbrev cX10_findCosts : ByteArray := prog_12_method_64_code
def yX10_findCosts : MethodName := ⟨RX10, "findCosts", "(I)V"⟩
abbrev cX10_lastSeen : ByteArray := prog_12_method_65_code
def yX10_lastSeen : MethodName := ⟨RX10, "lastSeen", "()I"⟩
abbrev cX10_reply : ByteArray := prog_12_method_66_code
def yX10_reply : MethodName := ⟨RX10, "reply", "(II)I"⟩
abbrev cX10_odds : ByteArray := prog_12_method_67_code
def yX10_odds : MethodName := ⟨RX10, "odds", "(III)I"⟩
abbrev cX10_isSo : ByteArray := prog_12_method_68_code
def yX10_isSo : MethodName := ⟨RX10, "isSo", "(I)Z"⟩
abbrev cX10_fits : ByteArray := prog_12_method_69_code
def yX10_fits : MethodName := ⟨RX10, "fits", "(I)I"⟩
abbrev cX10_begins : ByteArray := prog_12_method_70_code
def yX10_begins : MethodName := ⟨RX10, "begins", "(I)V"⟩
abbrev cX10_plainSays : ByteArray := prog_12_method_71_code
def yX10_plainSays : MethodName := ⟨RX10, "plainSays", "(II)I"⟩
abbrev cX10_oathSays : ByteArray := prog_12_method_72_code
def yX10_oathSays : MethodName := ⟨RX10, "oathSays", "(II)I"⟩
abbrev cX10_says : ByteArray := prog_12_method_73_code
def yX10_says : MethodName := ⟨RX10, "says", "(II)I"⟩
abbrev cX10_plainAsks : ByteArray := prog_12_method_74_code
def yX10_plainAsks : MethodName := ⟨RX10, "plainAsks", "(II)I"⟩
abbrev cX10_roundAsks : ByteArray := prog_12_method_75_code
def yX10_roundAsks : MethodName := ⟨RX10, "roundAsks", "(II)I"⟩
abbrev cX10_asks : ByteArray := prog_12_method_76_code
def yX10_asks : MethodName := ⟨RX10, "asks", "(II)I"⟩
abbrev cX10_plainHums : ByteArray := prog_12_method_77_code
def yX10_plainHums : MethodName := ⟨RX10, "plainHums", "(II)I"⟩
abbrev cX10_hums : ByteArray := prog_12_method_78_code
def yX10_hums : MethodName := ⟨RX10, "hums", "(II)I"⟩
abbrev cX10_plainParts : ByteArray := prog_12_method_79_code
def yX10_plainParts : MethodName := ⟨RX10, "plainParts", "(II)I"⟩
abbrev cX10_parts : ByteArray := prog_12_method_80_code
def yX10_parts : MethodName := ⟨RX10, "parts", "(II)I"⟩
abbrev cX10_voice : ByteArray := prog_12_method_81_code
def yX10_voice : MethodName := ⟨RX10, "voice", "(III)I"⟩
abbrev cX10_body : ByteArray := prog_12_method_82_code
def yX10_body : MethodName := ⟨RX10, "body", "(I)I"⟩
abbrev cX10_isSheet : ByteArray := prog_12_method_83_code
def yX10_isSheet : MethodName := ⟨RX10, "isSheet", "(I)Z"⟩
abbrev cX10_sheet : ByteArray := prog_12_method_84_code
def yX10_sheet : MethodName := ⟨RX10, "sheet", "(III)I"⟩
abbrev cX10_notThere : ByteArray := prog_12_method_85_code
def yX10_notThere : MethodName := ⟨RX10, "notThere", "(I)I"⟩
abbrev cX10_put : ByteArray := prog_12_method_86_code
def yX10_put : MethodName := ⟨RX10, "put", "(III)I"⟩
abbrev cX10_notMoved : ByteArray := prog_12_method_87_code
def yX10_notMoved : MethodName := ⟨RX10, "notMoved", "(IIIII)I"⟩
abbrev cX10_move : ByteArray := prog_12_method_88_code
def yX10_move : MethodName := ⟨RX10, "move", "(IIIII)I"⟩
abbrev cX10_lines : ByteArray := prog_12_method_89_code
def yX10_lines : MethodName := ⟨RX10, "lines", "(I)I"⟩
abbrev cX10_judge : ByteArray := prog_12_method_90_code
def yX10_judge : MethodName := ⟨RX10, "judge", "(I)I"⟩
abbrev cX10_image : ByteArray := prog_12_method_91_code
def yX10_image : MethodName := ⟨RX10, "image", "()I"⟩
abbrev cX10_restore : ByteArray := prog_12_method_92_code
def yX10_restore : MethodName := ⟨RX10, "restore", "()I"⟩
abbrev cX10_tell : ByteArray := prog_12_method_93_code
def yX10_tell : MethodName := ⟨RX10, "tell", "(I)I"⟩
abbrev cX10_check : ByteArray := prog_12_method_94_code
def yX10_check : MethodName := ⟨RX10, "check", "()I"⟩
abbrev cX10_count : ByteArray := prog_12_method_95_code
def yX10_count : MethodName := ⟨RX10, "count", "(I)I"⟩
abbrev cX10_told : ByteArray := prog_12_method_96_code
def yX10_told : MethodName := ⟨RX10, "told", "(I)I"⟩
def RJ6 : String := "java/lang/Integer"
def TJ6 : u_T := fun k => match k with
  | _ => ("", "", "", false)
def tyJ6 : Nat → FieldType := fun k => match k with
  | _ => .int
abbrev wsJ60 : List Cond := u_ws RJ6 TJ6 0
theorem nmJ6 : ∀ a, a < 0 → ∀ b, b < 0 → a ≠ b → (TJ6 a).2.1 ≠ (TJ6 b).2.1 := by decide +kernel
theorem tyJ6_ok : ∀ k, k < 0 → parseFieldDescriptor (TJ6 k).2.2.1 = some (tyJ6 k) := by decide +kernel
abbrev cJ6_bitCount_0f7a4 : ByteArray := prog_13_method_49_code
def yJ6_bitCount_0f7a4 : MethodName := ⟨RJ6, "bitCount", "(I)I"⟩
def RJ9 : String := "java/lang/Math"
def TJ9 : u_T := fun k => match k with
  | _ => ("", "", "", false)
def tyJ9 : Nat → FieldType := fun k => match k with
  | _ => .int
abbrev wsJ90 : List Cond := u_ws RJ9 TJ9 0
theorem nmJ9 : ∀ a, a < 0 → ∀ b, b < 0 → a ≠ b → (TJ9 a).2.1 ≠ (TJ9 b).2.1 := by decide +kernel
theorem tyJ9_ok : ∀ k, k < 0 → parseFieldDescriptor (TJ9 k).2.2.1 = some (tyJ9 k) := by decide +kernel
abbrev cJ9_abs_0f7a4 : ByteArray := prog_14_method_59_code
def yJ9_abs_0f7a4 : MethodName := ⟨RJ9, "abs", "(I)I"⟩
abbrev cJ9_max_7cf53 : ByteArray := prog_14_method_65_code
def yJ9_max_7cf53 : MethodName := ⟨RJ9, "max", "(II)I"⟩
abbrev cJ9_min_7cf53 : ByteArray := prog_14_method_69_code
def yJ9_min_7cf53 : MethodName := ⟨RJ9, "min", "(II)I"⟩
def RJ10 : String := "java/lang/System"
def TJ10 : u_T := fun k => match k with
  | _ => ("", "", "", false)
def tyJ10 : Nat → FieldType := fun k => match k with
  | _ => .int
abbrev wsJ100 : List Cond := u_ws RJ10 TJ10 0
theorem nmJ10 : ∀ a, a < 0 → ∀ b, b < 0 → a ≠ b → (TJ10 a).2.1 ≠ (TJ10 b).2.1 := by decide +kernel
theorem tyJ10_ok : ∀ k, k < 0 → parseFieldDescriptor (TJ10 k).2.2.1 = some (tyJ10 k) := by decide +kernel
def RL : String := "FurrowTalkLaw"
abbrev cL_law : ByteArray := code
def yL_law : MethodName := ⟨RL, "law", "([I)Z"⟩
abbrev vwCl : List vw_C := [(RX0, TX0, 1), (RX1, TX1, 5), (RX2, TX2, 7), (RX3, TX3, 4), (RX4, TX4, 3), (RX5, TX5, 3), (RX6, TX6, 6), (RX7, TX7, 5), (RX8, TX8, 6), (RX9, TX9, 12), (RX10, TX10, 21)]
def wA_0 : List Cond := [(Jvm.Cond.selects "FurrowTalk" ({ cls := "FurrowTalk", name := "refuse", desc := "(I)I" } : Jvm.MethodName) ({ cls := "FurrowTalk", name := "refuse", desc := "(I)I" } : Jvm.MethodName)), (Jvm.Cond.selects "FurrowTalk" ({ cls := "FurrowTalk", name := "isFurrow", desc := "(I)Z" } : Jvm.MethodName) ({ cls := "FurrowTalk", name := "isFurrow", desc := "(I)Z" } : Jvm.MethodName)), (Jvm.Cond.selects "FurrowTalk$Law" ({ cls := "FurrowTalk$Law", name := "push", desc := "(I)V" } : Jvm.MethodName) ({ cls := "FurrowTalk$Law", name := "push", desc := "(I)V" } : Jvm.MethodName)), (Jvm.Cond.selects "FurrowTalk$Law" ({ cls := "FurrowTalk$Law", name := "pop", desc := "()I" } : Jvm.MethodName) ({ cls := "FurrowTalk$Law", name := "pop", desc := "()I" } : Jvm.MethodName)), (Jvm.Cond.selects "FurrowTalk$Furrow" ({ cls := "FurrowTalk$Furrow", name := "isAlike", desc := "(LFurrowTalk$Furrow;)Z" } : Jvm.MethodName) ({ cls := "FurrowTalk$Furrow", name := "isAlike", desc := "(LFurrowTalk$Furrow;)Z" } : Jvm.MethodName)), (Jvm.Cond.selects "FurrowTalk$TextReader" ({ cls := "FurrowTalk$TextReader", name := "readJoined", desc := "(II)Z" } : Jvm.MethodName) ({ cls := "FurrowTalk$TextReader", name := "readJoined", desc := "(II)Z" } : Jvm.MethodName)), (Jvm.Cond.selects "FurrowTalk$TextReader" ({ cls := "FurrowTalk$TextReader", name := "readSingle", desc := "(I)Z" } : Jvm.MethodName) ({ cls := "FurrowTalk$TextReader", name := "readSingle", desc := "(I)Z" } : Jvm.MethodName)), (Jvm.Cond.selects "FurrowTalk$TextReader" ({ cls := "FurrowTalk$TextReader", name := "signHere", desc := "()I" } : Jvm.MethodName) ({ cls := "FurrowTalk$TextReader", name := "signHere", desc := "()I" } : Jvm.MethodName)), (Jvm.Cond.selects "FurrowTalk$TextReader" ({ cls := "FurrowTalk$TextReader", name := "readNumber", desc := "()V" } : Jvm.MethodName) ({ cls := "FurrowTalk$TextReader", name := "readNumber", desc := "()V" } : Jvm.MethodName)), (Jvm.Cond.selects "FurrowTalk$TextReader" ({ cls := "FurrowTalk$TextReader", name := "readName", desc := "(I)Z" } : Jvm.MethodName) ({ cls := "FurrowTalk$TextReader", name := "readName", desc := "(I)Z" } : Jvm.MethodName)), (Jvm.Cond.selects "FurrowTalk$TextReader" ({ cls := "FurrowTalk$TextReader", name := "readNegated", desc := "(I)Z" } : Jvm.MethodName) ({ cls := "FurrowTalk$TextReader", name := "readNegated", desc := "(I)Z" } : Jvm.MethodName)), (Jvm.Cond.selects "FurrowTalk$TextReader" ({ cls := "FurrowTalk$TextReader", name := "readBracketed", desc := "(I)Z" } : Jvm.MethodName) ({ cls := "FurrowTalk$TextReader", name := "readBracketed", desc := "(I)Z" } : Jvm.MethodName)), (Jvm.Cond.selects "FurrowTalk$Field" ({ cls := "FurrowTalk$Field", name := "nextDraw", desc := "()I" } : Jvm.MethodName) ({ cls := "FurrowTalk$Field", name := "nextDraw", desc := "()I" } : Jvm.MethodName)), (Jvm.Cond.selects "FurrowTalk$Chains" ({ cls := "FurrowTalk$Chains", name := "bestAhead", desc := "(LFurrowTalk$Field;I)I" } : Jvm.MethodName) ({ cls := "FurrowTalk$Chains", name := "bestAhead", desc := "(LFurrowTalk$Field;I)I" } : Jvm.MethodName)), (Jvm.Cond.selects "FurrowTalk$Scale" ({ cls := "FurrowTalk$Scale", name := "cheapestUnsettled", desc := "()I" } : Jvm.MethodName) ({ cls := "FurrowTalk$Scale", name := "cheapestUnsettled", desc := "()I" } : Jvm.MethodName)), (Jvm.Cond.selects "FurrowTalk$Scale" ({ cls := "FurrowTalk$Scale", name := "reachFrom", desc := "(I)V" } : Jvm.MethodName) ({ cls := "FurrowTalk$Scale", name := "reachFrom", desc := "(I)V" } : Jvm.MethodName)), (Jvm.Cond.selects "FurrowTalk" ({ cls := "FurrowTalk", name := "firstReplyLine", desc := "(LFurrowTalk$Furrow;)I" } : Jvm.MethodName) ({ cls := "FurrowTalk", name := "firstReplyLine", desc := "(LFurrowTalk$Furrow;)I" } : Jvm.MethodName)), (Jvm.Cond.selects "FurrowTalk" ({ cls := "FurrowTalk", name := "linesThatEcho", desc := "(LFurrowTalk$Furrow;)I" } : Jvm.MethodName) ({ cls := "FurrowTalk", name := "linesThatEcho", desc := "(LFurrowTalk$Furrow;)I" } : Jvm.MethodName)), (Jvm.Cond.selects "FurrowTalk$Speaker" ({ cls := "FurrowTalk$Speaker", name := "says", desc := "(II)I" } : Jvm.MethodName) ({ cls := "FurrowTalk$Speaker", name := "says", desc := "(II)I" } : Jvm.MethodName)), (Jvm.Cond.selects "FurrowTalk$Speaker" ({ cls := "FurrowTalk$Speaker", name := "begin", desc := "(I)V" } : Jvm.MethodName) ({ cls := "FurrowTalk$Speaker", name := "begin", desc := "(I)V" } : Jvm.MethodName)), (Jvm.Cond.selects "FurrowTalk$Speaker" ({ cls := "FurrowTalk$Speaker", name := "asks", desc := "(II)I" } : Jvm.MethodName) ({ cls := "FurrowTalk$Speaker", name := "asks", desc := "(II)I" } : Jvm.MethodName)), (Jvm.Cond.selects "FurrowTalk$Speaker" ({ cls := "FurrowTalk$Speaker", name := "hums", desc := "(II)I" } : Jvm.MethodName) ({ cls := "FurrowTalk$Speaker", name := "hums", desc := "(II)I" } : Jvm.MethodName)), (Jvm.Cond.selects "FurrowTalk$Speaker" ({ cls := "FurrowTalk$Speaker", name := "parts", desc := "(II)I" } : Jvm.MethodName) ({ cls := "FurrowTalk$Speaker", name := "parts", desc := "(II)I" } : Jvm.MethodName)), (Jvm.Cond.selects "FurrowTalkModel" ({ cls := "FurrowTalkModel", name := "error", desc := "(I)I" } : Jvm.MethodName) ({ cls := "FurrowTalkModel", name := "error", desc := "(I)I" } : Jvm.MethodName)), (Jvm.Cond.selects "FurrowTalkModel" ({ cls := "FurrowTalkModel", name := "comes", desc := "(IIII)I" } : Jvm.MethodName) ({ cls := "FurrowTalkModel", name := "comes", desc := "(IIII)I" } : Jvm.MethodName)), (Jvm.Cond.selects "FurrowTalkModel" ({ cls := "FurrowTalkModel", name := "lets", desc := "(III)V" } : Jvm.MethodName) ({ cls := "FurrowTalkModel", name := "lets", desc := "(III)V" } : Jvm.MethodName)), (Jvm.Cond.selects "FurrowTalkModel" ({ cls := "FurrowTalkModel", name := "isFurrow", desc := "(I)Z" } : Jvm.MethodName) ({ cls := "FurrowTalkModel", name := "isFurrow", desc := "(I)Z" } : Jvm.MethodName)), (Jvm.Cond.selects "FurrowTalkModel" ({ cls := "FurrowTalkModel", name := "of", desc := "(II)I" } : Jvm.MethodName) ({ cls := "FurrowTalkModel", name := "of", desc := "(II)I" } : Jvm.MethodName)), (Jvm.Cond.selects "FurrowTalkModel" ({ cls := "FurrowTalkModel", name := "depthOf", desc := "(I)I" } : Jvm.MethodName) ({ cls := "FurrowTalkModel", name := "depthOf", desc := "(I)I" } : Jvm.MethodName)), (Jvm.Cond.selects "FurrowTalkModel" ({ cls := "FurrowTalkModel", name := "senseOf", desc := "(I)I" } : Jvm.MethodName) ({ cls := "FurrowTalkModel", name := "senseOf", desc := "(I)I" } : Jvm.MethodName)), (Jvm.Cond.selects "FurrowTalkModel" ({ cls := "FurrowTalkModel", name := "gives", desc := "(IIII)I" } : Jvm.MethodName) ({ cls := "FurrowTalkModel", name := "gives", desc := "(IIII)I" } : Jvm.MethodName)), (Jvm.Cond.selects "FurrowTalkModel" ({ cls := "FurrowTalkModel", name := "works", desc := "(I)I" } : Jvm.MethodName) ({ cls := "FurrowTalkModel", name := "works", desc := "(I)I" } : Jvm.MethodName)), (Jvm.Cond.selects "FurrowTalkModel" ({ cls := "FurrowTalkModel", name := "isHeard", desc := "(I)Z" } : Jvm.MethodName) ({ cls := "FurrowTalkModel", name := "isHeard", desc := "(I)Z" } : Jvm.MethodName)), (Jvm.Cond.selects "FurrowTalkModel" ({ cls := "FurrowTalkModel", name := "behind", desc := "(I)I" } : Jvm.MethodName) ({ cls := "FurrowTalkModel", name := "behind", desc := "(I)I" } : Jvm.MethodName)), (Jvm.Cond.selects "FurrowTalkModel" ({ cls := "FurrowTalkModel", name := "isSeen", desc := "(I)Z" } : Jvm.MethodName) ({ cls := "FurrowTalkModel", name := "isSeen", desc := "(I)Z" } : Jvm.MethodName)), (Jvm.Cond.selects "FurrowTalkModel" ({ cls := "FurrowTalkModel", name := "doesAnswer", desc := "(II)Z" } : Jvm.MethodName) ({ cls := "FurrowTalkModel", name := "doesAnswer", desc := "(II)Z" } : Jvm.MethodName)), (Jvm.Cond.selects "FurrowTalkModel" ({ cls := "FurrowTalkModel", name := "becomes", desc := "(II)I" } : Jvm.MethodName) ({ cls := "FurrowTalkModel", name := "becomes", desc := "(II)I" } : Jvm.MethodName)), (Jvm.Cond.selects "FurrowTalkModel" ({ cls := "FurrowTalkModel", name := "any", desc := "()V" } : Jvm.MethodName) ({ cls := "FurrowTalkModel", name := "any", desc := "()V" } : Jvm.MethodName)), (Jvm.Cond.selects "FurrowTalkModel" ({ cls := "FurrowTalkModel", name := "all", desc := "()V" } : Jvm.MethodName) ({ cls := "FurrowTalkModel", name := "all", desc := "()V" } : Jvm.MethodName)), (Jvm.Cond.selects "FurrowTalkModel" ({ cls := "FurrowTalkModel", name := "compares", desc := "()V" } : Jvm.MethodName) ({ cls := "FurrowTalkModel", name := "compares", desc := "()V" } : Jvm.MethodName)), (Jvm.Cond.selects "FurrowTalkModel" ({ cls := "FurrowTalkModel", name := "sum", desc := "()V" } : Jvm.MethodName) ({ cls := "FurrowTalkModel", name := "sum", desc := "()V" } : Jvm.MethodName)), (Jvm.Cond.selects "FurrowTalkModel" ({ cls := "FurrowTalkModel", name := "times", desc := "()V" } : Jvm.MethodName) ({ cls := "FurrowTalkModel", name := "times", desc := "()V" } : Jvm.MethodName)), (Jvm.Cond.selects "FurrowTalkModel" ({ cls := "FurrowTalkModel", name := "one", desc := "()V" } : Jvm.MethodName) ({ cls := "FurrowTalkModel", name := "one", desc := "()V" } : Jvm.MethodName)), (Jvm.Cond.selects "FurrowTalkModel" ({ cls := "FurrowTalkModel", name := "look", desc := "()I" } : Jvm.MethodName) ({ cls := "FurrowTalkModel", name := "look", desc := "()I" } : Jvm.MethodName)), (Jvm.Cond.selects "FurrowTalkModel" ({ cls := "FurrowTalkModel", name := "nameOf", desc := "(I)I" } : Jvm.MethodName) ({ cls := "FurrowTalkModel", name := "nameOf", desc := "(I)I" } : Jvm.MethodName)), (Jvm.Cond.selects "FurrowTalkModel" ({ cls := "FurrowTalkModel", name := "step", desc := "(II)V" } : Jvm.MethodName) ({ cls := "FurrowTalkModel", name := "step", desc := "(II)V" } : Jvm.MethodName)), (Jvm.Cond.selects "FurrowTalkModel" ({ cls := "FurrowTalkModel", name := "opens", desc := "(I)V" } : Jvm.MethodName) ({ cls := "FurrowTalkModel", name := "opens", desc := "(I)V" } : Jvm.MethodName)), (Jvm.Cond.selects "FurrowTalkModel" ({ cls := "FurrowTalkModel", name := "number", desc := "()V" } : Jvm.MethodName) ({ cls := "FurrowTalkModel", name := "number", desc := "()V" } : Jvm.MethodName)), (Jvm.Cond.selects "FurrowTalkModel" ({ cls := "FurrowTalkModel", name := "goes", desc := "()V" } : Jvm.MethodName) ({ cls := "FurrowTalkModel", name := "goes", desc := "()V" } : Jvm.MethodName)), (Jvm.Cond.selects "FurrowTalkModel" ({ cls := "FurrowTalkModel", name := "seen", desc := "()I" } : Jvm.MethodName) ({ cls := "FurrowTalkModel", name := "seen", desc := "()I" } : Jvm.MethodName)), (Jvm.Cond.selects "FurrowTalkModel" ({ cls := "FurrowTalkModel", name := "draw", desc := "()I" } : Jvm.MethodName) ({ cls := "FurrowTalkModel", name := "draw", desc := "()I" } : Jvm.MethodName)), (Jvm.Cond.selects "FurrowTalkModel" ({ cls := "FurrowTalkModel", name := "longestTalk", desc := "()I" } : Jvm.MethodName) ({ cls := "FurrowTalkModel", name := "longestTalk", desc := "()I" } : Jvm.MethodName)), (Jvm.Cond.selects "FurrowTalkModel" ({ cls := "FurrowTalkModel", name := "isAnswer", desc := "(I)Z" } : Jvm.MethodName) ({ cls := "FurrowTalkModel", name := "isAnswer", desc := "(I)Z" } : Jvm.MethodName)), (Jvm.Cond.selects "FurrowTalkModel" ({ cls := "FurrowTalkModel", name := "ahead", desc := "(I)I" } : Jvm.MethodName) ({ cls := "FurrowTalkModel", name := "ahead", desc := "(I)I" } : Jvm.MethodName)), (Jvm.Cond.selects "FurrowTalkModel" ({ cls := "FurrowTalkModel", name := "answersSeen", desc := "()I" } : Jvm.MethodName) ({ cls := "FurrowTalkModel", name := "answersSeen", desc := "()I" } : Jvm.MethodName)), (Jvm.Cond.selects "FurrowTalkModel" ({ cls := "FurrowTalkModel", name := "thinks", desc := "()V" } : Jvm.MethodName) ({ cls := "FurrowTalkModel", name := "thinks", desc := "()V" } : Jvm.MethodName)), (Jvm.Cond.selects "FurrowTalkModel" ({ cls := "FurrowTalkModel", name := "putsBack", desc := "()V" } : Jvm.MethodName) ({ cls := "FurrowTalkModel", name := "putsBack", desc := "()V" } : Jvm.MethodName)), (Jvm.Cond.selects "FurrowTalkModel" ({ cls := "FurrowTalkModel", name := "isTalk", desc := "(I)Z" } : Jvm.MethodName) ({ cls := "FurrowTalkModel", name := "isTalk", desc := "(I)Z" } : Jvm.MethodName)), (Jvm.Cond.selects "FurrowTalkModel" ({ cls := "FurrowTalkModel", name := "lastSeen", desc := "()I" } : Jvm.MethodName) ({ cls := "FurrowTalkModel", name := "lastSeen", desc := "()I" } : Jvm.MethodName)), (Jvm.Cond.selects "FurrowTalkModel" ({ cls := "FurrowTalkModel", name := "findCosts", desc := "(I)V" } : Jvm.MethodName) ({ cls := "FurrowTalkModel", name := "findCosts", desc := "(I)V" } : Jvm.MethodName)), (Jvm.Cond.selects "FurrowTalkModel" ({ cls := "FurrowTalkModel", name := "stepCost", desc := "(II)I" } : Jvm.MethodName) ({ cls := "FurrowTalkModel", name := "stepCost", desc := "(II)I" } : Jvm.MethodName)), (Jvm.Cond.selects "FurrowTalkModel" ({ cls := "FurrowTalkModel", name := "notThere", desc := "(I)I" } : Jvm.MethodName) ({ cls := "FurrowTalkModel", name := "notThere", desc := "(I)I" } : Jvm.MethodName)), (Jvm.Cond.selects "FurrowTalkModel" ({ cls := "FurrowTalkModel", name := "isSo", desc := "(I)Z" } : Jvm.MethodName) ({ cls := "FurrowTalkModel", name := "isSo", desc := "(I)Z" } : Jvm.MethodName)), (Jvm.Cond.selects "FurrowTalkModel" ({ cls := "FurrowTalkModel", name := "says", desc := "(II)I" } : Jvm.MethodName) ({ cls := "FurrowTalkModel", name := "says", desc := "(II)I" } : Jvm.MethodName)), (Jvm.Cond.selects "FurrowTalkModel" ({ cls := "FurrowTalkModel", name := "oathSays", desc := "(II)I" } : Jvm.MethodName) ({ cls := "FurrowTalkModel", name := "oathSays", desc := "(II)I" } : Jvm.MethodName)), (Jvm.Cond.selects "FurrowTalkModel" ({ cls := "FurrowTalkModel", name := "begins", desc := "(I)V" } : Jvm.MethodName) ({ cls := "FurrowTalkModel", name := "begins", desc := "(I)V" } : Jvm.MethodName)), (Jvm.Cond.selects "FurrowTalkModel" ({ cls := "FurrowTalkModel", name := "plainSays", desc := "(II)I" } : Jvm.MethodName) ({ cls := "FurrowTalkModel", name := "plainSays", desc := "(II)I" } : Jvm.MethodName)), (Jvm.Cond.selects "FurrowTalkModel" ({ cls := "FurrowTalkModel", name := "asks", desc := "(II)I" } : Jvm.MethodName) ({ cls := "FurrowTalkModel", name := "asks", desc := "(II)I" } : Jvm.MethodName)), (Jvm.Cond.selects "FurrowTalkModel" ({ cls := "FurrowTalkModel", name := "roundAsks", desc := "(II)I" } : Jvm.MethodName) ({ cls := "FurrowTalkModel", name := "roundAsks", desc := "(II)I" } : Jvm.MethodName)), (Jvm.Cond.selects "FurrowTalkModel" ({ cls := "FurrowTalkModel", name := "plainAsks", desc := "(II)I" } : Jvm.MethodName) ({ cls := "FurrowTalkModel", name := "plainAsks", desc := "(II)I" } : Jvm.MethodName)), (Jvm.Cond.selects "FurrowTalkModel" ({ cls := "FurrowTalkModel", name := "hums", desc := "(II)I" } : Jvm.MethodName) ({ cls := "FurrowTalkModel", name := "hums", desc := "(II)I" } : Jvm.MethodName)), (Jvm.Cond.selects "FurrowTalkModel" ({ cls := "FurrowTalkModel", name := "plainHums", desc := "(II)I" } : Jvm.MethodName) ({ cls := "FurrowTalkModel", name := "plainHums", desc := "(II)I" } : Jvm.MethodName)), (Jvm.Cond.selects "FurrowTalkModel" ({ cls := "FurrowTalkModel", name := "parts", desc := "(II)I" } : Jvm.MethodName) ({ cls := "FurrowTalkModel", name := "parts", desc := "(II)I" } : Jvm.MethodName)), (Jvm.Cond.selects "FurrowTalkModel" ({ cls := "FurrowTalkModel", name := "plainParts", desc := "(II)I" } : Jvm.MethodName) ({ cls := "FurrowTalkModel", name := "plainParts", desc := "(II)I" } : Jvm.MethodName)), (Jvm.Cond.selects "FurrowTalkModel" ({ cls := "FurrowTalkModel", name := "notMoved", desc := "(IIIII)I" } : Jvm.MethodName) ({ cls := "FurrowTalkModel", name := "notMoved", desc := "(IIIII)I" } : Jvm.MethodName)), (Jvm.Cond.initialized "FurrowTalkLaw"), (Jvm.Cond.initialized "FurrowTalk"), (Jvm.Cond.initialized "FurrowTalk$World"), (Jvm.Cond.initialized "FurrowTalk$Field"), (Jvm.Cond.initialized "FurrowTalk$Furrow"), (Jvm.Cond.initialized "FurrowTalk$Law"), (Jvm.Cond.initialized "FurrowTalk$Chains"), (Jvm.Cond.initialized "FurrowTalk$Scale"), (Jvm.Cond.initialized "FurrowTalk$TextReader"), (Jvm.Cond.initialized "FurrowTalk$Speaker"), (Jvm.Cond.initialized "FurrowTalk$Sheet"), (Jvm.Cond.initialized "FurrowTalkModel"), (Jvm.Cond.initialized "java/lang/Math"), (Jvm.Cond.initialized "java/lang/System"), (Jvm.Cond.initialized "java/lang/Integer"), (Jvm.Cond.classLink "FurrowTalkLaw" (7 : Nat) "FurrowTalk"), (Jvm.Cond.instantiable "FurrowTalk" (12 : Nat)), (Jvm.Cond.methodLink "FurrowTalkLaw" (9 : Nat) ({ cls := "FurrowTalk", name := "<init>", desc := "()V" } : Jvm.MethodName)), (Jvm.Cond.instanceMethod ({ cls := "FurrowTalk", name := "<init>", desc := "()V" } : Jvm.MethodName)), (Jvm.Cond.code ({ cls := "FurrowTalk", name := "<init>", desc := "()V" } : Jvm.MethodName) prog_1_method_1_code (2 : Nat) (Option.none : Option Jvm.ClassFile.FieldType)), (Jvm.Cond.methodLink "FurrowTalk" (3 : Nat) ({ cls := "java/lang/Object", name := "<init>", desc := "()V" } : Jvm.MethodName)), (Jvm.Cond.instanceMethod ({ cls := "java/lang/Object", name := "<init>", desc := "()V" } : Jvm.MethodName)), (Jvm.Cond.code ({ cls := "java/lang/Object", name := "<init>", desc := "()V" } : Jvm.MethodName) object_method_1_code (1 : Nat) (Option.none : Option Jvm.ClassFile.FieldType)), (Jvm.Cond.classLink "FurrowTalk" (9 : Nat) "FurrowTalk$World"), (Jvm.Cond.instantiable "FurrowTalk$World" (6 : Nat))]
set_option maxRecDepth 20000 in
theorem wA_in_0 : GoodIn lw_tbl wA_0 := by
  intro w hw
  have h := List.all_eq_true.mp (show wA_0.all goodWord = true by decide +kernel) w hw
  have e : wA_0 = ([0, 1, 2, 3, 4, 5, 6, 7, 8, 9, 10, 11, 12, 13, 14, 15, 16, 17, 18, 19, 20, 21, 22, 23, 24, 25, 26, 27, 28, 29, 30, 31, 32, 33, 34, 35, 36, 37, 38, 39, 40, 41, 42, 43, 44, 45, 46, 47, 48, 49, 50, 51, 52, 53, 54, 55, 56, 57, 58, 59, 60, 61, 62, 63, 64, 65, 66, 67, 68, 69, 70, 71, 72, 73, 74, 75, 76, 77, 78, 79, 80, 81, 82, 83, 84, 85, 86, 87, 88, 89, 90, 91, 92, 93, 94, 95, 96, 97, 98, 99] : List Nat).filterMap (fun i => lw_tbl[i]?) := by decide +kernel
  rw [e] at hw
  obtain ⟨i, -, hi⟩ := List.mem_filterMap.mp hw
  exact ⟨List.mem_of_getElem? hi, good_of_word h⟩
def wA_1 : List Cond := [(Jvm.Cond.methodLink "FurrowTalk" (11 : Nat) ({ cls := "FurrowTalk$World", name := "<init>", desc := "()V" } : Jvm.MethodName)), (Jvm.Cond.instanceMethod ({ cls := "FurrowTalk$World", name := "<init>", desc := "()V" } : Jvm.MethodName)), (Jvm.Cond.code ({ cls := "FurrowTalk$World", name := "<init>", desc := "()V" } : Jvm.MethodName) prog_10_method_1_code (2 : Nat) (Option.none : Option Jvm.ClassFile.FieldType)), (Jvm.Cond.methodLink "FurrowTalk$World" (3 : Nat) ({ cls := "java/lang/Object", name := "<init>", desc := "()V" } : Jvm.MethodName)), (Jvm.Cond.classLink "FurrowTalk$World" (9 : Nat) "FurrowTalk$Field"), (Jvm.Cond.instantiable "FurrowTalk$Field" (5 : Nat)), (Jvm.Cond.methodLink "FurrowTalk$World" (11 : Nat) ({ cls := "FurrowTalk$Field", name := "<init>", desc := "()V" } : Jvm.MethodName)), (Jvm.Cond.instanceMethod ({ cls := "FurrowTalk$Field", name := "<init>", desc := "()V" } : Jvm.MethodName)), (Jvm.Cond.code ({ cls := "FurrowTalk$Field", name := "<init>", desc := "()V" } : Jvm.MethodName) prog_3_method_1_code (2 : Nat) (Option.none : Option Jvm.ClassFile.FieldType)), (Jvm.Cond.methodLink "FurrowTalk$Field" (3 : Nat) ({ cls := "java/lang/Object", name := "<init>", desc := "()V" } : Jvm.MethodName)), (Jvm.Cond.classLink "FurrowTalk$Field" (9 : Nat) "FurrowTalk$Furrow"), (Jvm.Cond.instantiable "FurrowTalk$Furrow" (7 : Nat)), (Jvm.Cond.instanceMethod ({ cls := "FurrowTalk$Furrow", name := "<init>", desc := "()V" } : Jvm.MethodName)), (Jvm.Cond.code ({ cls := "FurrowTalk$Furrow", name := "<init>", desc := "()V" } : Jvm.MethodName) prog_4_method_1_code (1 : Nat) (Option.none : Option Jvm.ClassFile.FieldType)), (Jvm.Cond.methodLink "FurrowTalk$Furrow" (3 : Nat) ({ cls := "java/lang/Object", name := "<init>", desc := "()V" } : Jvm.MethodName)), (Jvm.Cond.fieldLink "FurrowTalk$Furrow" (15 : Nat) "FurrowTalk$Furrow" "kind" "I"), (Jvm.Cond.fieldLink "FurrowTalk$Speaker" (23 : Nat) "FurrowTalk$Furrow" "kind" "I"), (Jvm.Cond.fieldLink "FurrowTalk" (111 : Nat) "FurrowTalk$Furrow" "kind" "I"), (Jvm.Cond.fieldLink "FurrowTalk$Furrow" (18 : Nat) "FurrowTalk$Furrow" "m" "I"), (Jvm.Cond.fieldLink "FurrowTalk$Speaker" (32 : Nat) "FurrowTalk$Furrow" "m" "I"), (Jvm.Cond.fieldLink "FurrowTalk" (114 : Nat) "FurrowTalk$Furrow" "m" "I"), (Jvm.Cond.fieldLink "FurrowTalk$Furrow" (9 : Nat) "FurrowTalk$Furrow" "length" "I"), (Jvm.Cond.fieldLink "FurrowTalk$World" (44 : Nat) "FurrowTalk$Furrow" "length" "I"), (Jvm.Cond.fieldLink "FurrowTalk" (117 : Nat) "FurrowTalk$Furrow" "length" "I"), (Jvm.Cond.fieldLink "FurrowTalk$World" (50 : Nat) "FurrowTalk$Furrow" "crook" "I"), (Jvm.Cond.fieldLink "FurrowTalk$Furrow" (21 : Nat) "FurrowTalk$Furrow" "crook" "I"), (Jvm.Cond.fieldLink "FurrowTalk" (120 : Nat) "FurrowTalk$Furrow" "crook" "I"), (Jvm.Cond.fieldLink "FurrowTalk$Field" (35 : Nat) "FurrowTalk$Furrow" "hand" "I"), (Jvm.Cond.fieldLink "FurrowTalk" (123 : Nat) "FurrowTalk$Furrow" "hand" "I"), (Jvm.Cond.fieldLink "FurrowTalk$Furrow" (36 : Nat) "FurrowTalk$Furrow" "hand" "I"), (Jvm.Cond.fieldLink "FurrowTalk$Field" (38 : Nat) "FurrowTalk$Furrow" "age" "I"), (Jvm.Cond.fieldLink "FurrowTalk" (126 : Nat) "FurrowTalk$Furrow" "age" "I"), (Jvm.Cond.fieldLink "FurrowTalk$Furrow" (39 : Nat) "FurrowTalk$Furrow" "age" "I"), (Jvm.Cond.fieldLink "FurrowTalk$Chains" (25 : Nat) "FurrowTalk$Furrow" "covered" "Z"), (Jvm.Cond.fieldLink "FurrowTalk$Field" (41 : Nat) "FurrowTalk$Furrow" "covered" "Z"), (Jvm.Cond.fieldLink "FurrowTalk" (129 : Nat) "FurrowTalk$Furrow" "covered" "Z"), (Jvm.Cond.fieldLink "FurrowTalk$Furrow" (48 : Nat) "FurrowTalk$Furrow" "covered" "Z"), (Jvm.Cond.lays "FurrowTalk$Furrow" "FurrowTalk$Furrow" "kind" "I"), (Jvm.Cond.lays "FurrowTalk$Furrow" "FurrowTalk$Furrow" "m" "I"), (Jvm.Cond.lays "FurrowTalk$Furrow" "FurrowTalk$Furrow" "length" "I"), (Jvm.Cond.lays "FurrowTalk$Furrow" "FurrowTalk$Furrow" "crook" "I"), (Jvm.Cond.lays "FurrowTalk$Furrow" "FurrowTalk$Furrow" "hand" "I"), (Jvm.Cond.lays "FurrowTalk$Furrow" "FurrowTalk$Furrow" "age" "I"), (Jvm.Cond.lays "FurrowTalk$Furrow" "FurrowTalk$Furrow" "covered" "Z"), (Jvm.Cond.fieldLink "FurrowTalk$Field" (11 : Nat) "FurrowTalk$Field" "furrows" "[LFurrowTalk$Furrow;"), (Jvm.Cond.fieldLink "FurrowTalk$Chains" (21 : Nat) "FurrowTalk$Field" "furrows" "[LFurrowTalk$Furrow;"), (Jvm.Cond.fieldLink "FurrowTalk" (107 : Nat) "FurrowTalk$Field" "furrows" "[LFurrowTalk$Furrow;"), (Jvm.Cond.fieldLink "FurrowTalk$Field" (25 : Nat) "FurrowTalk$Field" "size" "I"), (Jvm.Cond.fieldLink "FurrowTalk$Chains" (15 : Nat) "FurrowTalk$Field" "size" "I"), (Jvm.Cond.fieldLink "FurrowTalk" (95 : Nat) "FurrowTalk$Field" "size" "I"), (Jvm.Cond.fieldLink "FurrowTalk$Field" (78 : Nat) "FurrowTalk$Field" "year" "I"), (Jvm.Cond.fieldLink "FurrowTalk" (213 : Nat) "FurrowTalk$Field" "year" "I"), (Jvm.Cond.fieldLink "FurrowTalk$Field" (17 : Nat) "FurrowTalk$Field" "patience" "I"), (Jvm.Cond.fieldLink "FurrowTalk" (168 : Nat) "FurrowTalk$Field" "patience" "I"), (Jvm.Cond.fieldLink "FurrowTalk$Field" (21 : Nat) "FurrowTalk$Field" "z" "I"), (Jvm.Cond.fieldLink "FurrowTalk" (226 : Nat) "FurrowTalk$Field" "z" "I"), (Jvm.Cond.laysFinal "FurrowTalk$Field" "FurrowTalk$Field" "furrows" "[LFurrowTalk$Furrow;"), (Jvm.Cond.lays "FurrowTalk$Field" "FurrowTalk$Field" "size" "I"), (Jvm.Cond.lays "FurrowTalk$Field" "FurrowTalk$Field" "year" "I"), (Jvm.Cond.lays "FurrowTalk$Field" "FurrowTalk$Field" "patience" "I"), (Jvm.Cond.lays "FurrowTalk$Field" "FurrowTalk$Field" "z" "I"), (Jvm.Cond.classLink "FurrowTalk$World" (18 : Nat) "FurrowTalk$Law"), (Jvm.Cond.instantiable "FurrowTalk$Law" (4 : Nat)), (Jvm.Cond.instanceMethod ({ cls := "FurrowTalk$Law", name := "<init>", desc := "()V" } : Jvm.MethodName)), (Jvm.Cond.code ({ cls := "FurrowTalk$Law", name := "<init>", desc := "()V" } : Jvm.MethodName) prog_5_method_1_code (1 : Nat) (Option.none : Option Jvm.ClassFile.FieldType)), (Jvm.Cond.methodLink "FurrowTalk$Law" (3 : Nat) ({ cls := "java/lang/Object", name := "<init>", desc := "()V" } : Jvm.MethodName)), (Jvm.Cond.fieldLink "FurrowTalk$Law" (9 : Nat) "FurrowTalk$Law" "parts" "[I"), (Jvm.Cond.fieldLink "FurrowTalk$Law" (18 : Nat) "FurrowTalk$Law" "size" "I"), (Jvm.Cond.fieldLink "FurrowTalk$Law" (15 : Nat) "FurrowTalk$Law" "stack" "[I"), (Jvm.Cond.fieldLink "FurrowTalk$Law" (28 : Nat) "FurrowTalk$Law" "stackSize" "I"), (Jvm.Cond.laysFinal "FurrowTalk$Law" "FurrowTalk$Law" "parts" "[I"), (Jvm.Cond.lays "FurrowTalk$Law" "FurrowTalk$Law" "size" "I"), (Jvm.Cond.laysFinal "FurrowTalk$Law" "FurrowTalk$Law" "stack" "[I"), (Jvm.Cond.lays "FurrowTalk$Law" "FurrowTalk$Law" "stackSize" "I"), (Jvm.Cond.arrayClass Jvm.ClassFile.FieldType.byte), (Jvm.Cond.arrayClass Jvm.ClassFile.FieldType.int), (Jvm.Cond.fieldLink "FurrowTalk$World" (12 : Nat) "FurrowTalk$World" "field" "LFurrowTalk$Field;"), (Jvm.Cond.fieldLink "FurrowTalk" (92 : Nat) "FurrowTalk$World" "field" "LFurrowTalk$Field;"), (Jvm.Cond.fieldLink "FurrowTalk$World" (20 : Nat) "FurrowTalk$World" "laws" "[LFurrowTalk$Law;"), (Jvm.Cond.fieldLink "FurrowTalk" (188 : Nat) "FurrowTalk$World" "laws" "[LFurrowTalk$Law;"), (Jvm.Cond.fieldLink "FurrowTalk$World" (24 : Nat) "FurrowTalk$World" "tape" "[B"), (Jvm.Cond.fieldLink "FurrowTalk" (174 : Nat) "FurrowTalk$World" "tape" "[B"), (Jvm.Cond.fieldLink "FurrowTalk$World" (68 : Nat) "FurrowTalk$World" "tapeSize" "I"), (Jvm.Cond.fieldLink "FurrowTalk" (171 : Nat) "FurrowTalk$World" "tapeSize" "I"), (Jvm.Cond.fieldLink "FurrowTalk$World" (28 : Nat) "FurrowTalk$World" "waiting" "[I"), (Jvm.Cond.fieldLink "FurrowTalk" (340 : Nat) "FurrowTalk$World" "waiting" "[I"), (Jvm.Cond.fieldLink "FurrowTalk$World" (77 : Nat) "FurrowTalk$World" "waitingSize" "I"), (Jvm.Cond.fieldLink "FurrowTalk" (337 : Nat) "FurrowTalk$World" "waitingSize" "I"), (Jvm.Cond.laysFinal "FurrowTalk$World" "FurrowTalk$World" "field" "LFurrowTalk$Field;"), (Jvm.Cond.laysFinal "FurrowTalk$World" "FurrowTalk$World" "laws" "[LFurrowTalk$Law;"), (Jvm.Cond.laysFinal "FurrowTalk$World" "FurrowTalk$World" "tape" "[B"), (Jvm.Cond.lays "FurrowTalk$World" "FurrowTalk$World" "tapeSize" "I"), (Jvm.Cond.laysFinal "FurrowTalk$World" "FurrowTalk$World" "waiting" "[I"), (Jvm.Cond.lays "FurrowTalk$World" "FurrowTalk$World" "waitingSize" "I"), (Jvm.Cond.classLink "FurrowTalk" (19 : Nat) "FurrowTalk$Field"), (Jvm.Cond.methodLink "FurrowTalk" (21 : Nat) ({ cls := "FurrowTalk$Field", name := "<init>", desc := "()V" } : Jvm.MethodName)), (Jvm.Cond.classLink "FurrowTalk" (26 : Nat) "FurrowTalk$Furrow"), (Jvm.Cond.classLink "FurrowTalk" (33 : Nat) "FurrowTalk$Chains"), (Jvm.Cond.instantiable "FurrowTalk$Chains" (1 : Nat)), (Jvm.Cond.instanceMethod ({ cls := "FurrowTalk$Chains", name := "<init>", desc := "()V" } : Jvm.MethodName))]
set_option maxRecDepth 20000 in
theorem wA_in_1 : GoodIn lw_tbl wA_1 := by
  intro w hw
  have h := List.all_eq_true.mp (show wA_1.all goodWord = true by decide +kernel) w hw
  have e : wA_1 = ([100, 101, 102, 103, 104, 105, 106, 107, 108, 109, 110, 112, 114, 115, 116, 117, 118, 119, 120, 121, 122, 123, 124, 125, 126, 127, 128, 129, 130, 131, 132, 133, 134, 135, 136, 137, 138, 139, 141, 143, 145, 147, 149, 151, 154, 155, 156, 157, 158, 159, 160, 161, 162, 163, 164, 165, 166, 168, 170, 172, 174, 177, 179, 181, 182, 183, 184, 185, 186, 187, 188, 190, 192, 194, 197, 198, 199, 200, 201, 202, 203, 204, 205, 206, 207, 208, 209, 210, 211, 213, 215, 217, 219, 221, 224, 225, 226, 228, 229, 231] : List Nat).filterMap (fun i => lw_tbl[i]?) := by decide +kernel
  rw [e] at hw
  obtain ⟨i, -, hi⟩ := List.mem_filterMap.mp hw
  exact ⟨List.mem_of_getElem? hi, good_of_word h⟩
def wA_2 : List Cond := [(Jvm.Cond.code ({ cls := "FurrowTalk$Chains", name := "<init>", desc := "()V" } : Jvm.MethodName) prog_2_method_1_code (1 : Nat) (Option.none : Option Jvm.ClassFile.FieldType)), (Jvm.Cond.methodLink "FurrowTalk$Chains" (3 : Nat) ({ cls := "java/lang/Object", name := "<init>", desc := "()V" } : Jvm.MethodName)), (Jvm.Cond.fieldLink "FurrowTalk$Chains" (9 : Nat) "FurrowTalk$Chains" "bestEndingAt" "[I"), (Jvm.Cond.laysFinal "FurrowTalk$Chains" "FurrowTalk$Chains" "bestEndingAt" "[I"), (Jvm.Cond.classLink "FurrowTalk" (40 : Nat) "FurrowTalk$Scale"), (Jvm.Cond.instantiable "FurrowTalk$Scale" (3 : Nat)), (Jvm.Cond.methodLink "FurrowTalk" (42 : Nat) ({ cls := "FurrowTalk$Scale", name := "<init>", desc := "(I)V" } : Jvm.MethodName)), (Jvm.Cond.instanceMethod ({ cls := "FurrowTalk$Scale", name := "<init>", desc := "(I)V" } : Jvm.MethodName)), (Jvm.Cond.code ({ cls := "FurrowTalk$Scale", name := "<init>", desc := "(I)V" } : Jvm.MethodName) prog_6_method_1_code (2 : Nat) (Option.none : Option Jvm.ClassFile.FieldType)), (Jvm.Cond.methodLink "FurrowTalk$Scale" (1 : Nat) ({ cls := "java/lang/Object", name := "<init>", desc := "()V" } : Jvm.MethodName)), (Jvm.Cond.fieldLink "FurrowTalk$Scale" (7 : Nat) "FurrowTalk$Scale" "stepCosts" "[I"), (Jvm.Cond.fieldLink "FurrowTalk" (256 : Nat) "FurrowTalk$Scale" "stepCosts" "[I"), (Jvm.Cond.fieldLink "FurrowTalk$Scale" (13 : Nat) "FurrowTalk$Scale" "costs" "[I"), (Jvm.Cond.fieldLink "FurrowTalk" (262 : Nat) "FurrowTalk$Scale" "costs" "[I"), (Jvm.Cond.fieldLink "FurrowTalk$Scale" (16 : Nat) "FurrowTalk$Scale" "settled" "[Z"), (Jvm.Cond.laysFinal "FurrowTalk$Scale" "FurrowTalk$Scale" "stepCosts" "[I"), (Jvm.Cond.laysFinal "FurrowTalk$Scale" "FurrowTalk$Scale" "costs" "[I"), (Jvm.Cond.laysFinal "FurrowTalk$Scale" "FurrowTalk$Scale" "settled" "[Z"), (Jvm.Cond.arrayClass Jvm.ClassFile.FieldType.boolean), (Jvm.Cond.classLink "FurrowTalk" (52 : Nat) "FurrowTalk$TextReader"), (Jvm.Cond.instantiable "FurrowTalk$TextReader" (5 : Nat)), (Jvm.Cond.instanceMethod ({ cls := "FurrowTalk$TextReader", name := "<init>", desc := "()V" } : Jvm.MethodName)), (Jvm.Cond.code ({ cls := "FurrowTalk$TextReader", name := "<init>", desc := "()V" } : Jvm.MethodName) prog_9_method_1_code (1 : Nat) (Option.none : Option Jvm.ClassFile.FieldType)), (Jvm.Cond.methodLink "FurrowTalk$TextReader" (3 : Nat) ({ cls := "java/lang/Object", name := "<init>", desc := "()V" } : Jvm.MethodName)), (Jvm.Cond.classLink "FurrowTalk$TextReader" (9 : Nat) "FurrowTalk$Law"), (Jvm.Cond.fieldLink "FurrowTalk$TextReader" (12 : Nat) "FurrowTalk$TextReader" "draft" "LFurrowTalk$Law;"), (Jvm.Cond.fieldLink "FurrowTalk" (192 : Nat) "FurrowTalk$TextReader" "draft" "LFurrowTalk$Law;"), (Jvm.Cond.fieldLink "FurrowTalk$TextReader" (29 : Nat) "FurrowTalk$TextReader" "place" "I"), (Jvm.Cond.fieldLink "FurrowTalk" (185 : Nat) "FurrowTalk$TextReader" "place" "I"), (Jvm.Cond.fieldLink "FurrowTalk$TextReader" (18 : Nat) "FurrowTalk$TextReader" "tape" "[B"), (Jvm.Cond.fieldLink "FurrowTalk$TextReader" (22 : Nat) "FurrowTalk$TextReader" "tapeSize" "I"), (Jvm.Cond.fieldLink "FurrowTalk$TextReader" (26 : Nat) "FurrowTalk$TextReader" "use" "I"), (Jvm.Cond.laysFinal "FurrowTalk$TextReader" "FurrowTalk$TextReader" "draft" "LFurrowTalk$Law;"), (Jvm.Cond.lays "FurrowTalk$TextReader" "FurrowTalk$TextReader" "place" "I"), (Jvm.Cond.lays "FurrowTalk$TextReader" "FurrowTalk$TextReader" "tape" "[B"), (Jvm.Cond.lays "FurrowTalk$TextReader" "FurrowTalk$TextReader" "tapeSize" "I"), (Jvm.Cond.lays "FurrowTalk$TextReader" "FurrowTalk$TextReader" "use" "I"), (Jvm.Cond.classLink "FurrowTalk" (59 : Nat) "FurrowTalk$Speaker"), (Jvm.Cond.instantiable "FurrowTalk$Speaker" (6 : Nat)), (Jvm.Cond.instanceMethod ({ cls := "FurrowTalk$Speaker", name := "<init>", desc := "()V" } : Jvm.MethodName)), (Jvm.Cond.code ({ cls := "FurrowTalk$Speaker", name := "<init>", desc := "()V" } : Jvm.MethodName) prog_8_method_1_code (1 : Nat) (Option.none : Option Jvm.ClassFile.FieldType)), (Jvm.Cond.methodLink "FurrowTalk$Speaker" (3 : Nat) ({ cls := "java/lang/Object", name := "<init>", desc := "()V" } : Jvm.MethodName)), (Jvm.Cond.fieldLink "FurrowTalk$Speaker" (9 : Nat) "FurrowTalk$Speaker" "trace" "[I"), (Jvm.Cond.fieldLink "FurrowTalk" (299 : Nat) "FurrowTalk$Speaker" "trace" "[I"), (Jvm.Cond.fieldLink "FurrowTalk$Speaker" (19 : Nat) "FurrowTalk$Speaker" "traceSize" "I"), (Jvm.Cond.fieldLink "FurrowTalk" (296 : Nat) "FurrowTalk$Speaker" "traceSize" "I"), (Jvm.Cond.fieldLink "FurrowTalk$Speaker" (15 : Nat) "FurrowTalk$Speaker" "parted" "Z"), (Jvm.Cond.fieldLink "FurrowTalk" (292 : Nat) "FurrowTalk$Speaker" "parted" "Z"), (Jvm.Cond.fieldLink "FurrowTalk$Speaker" (28 : Nat) "FurrowTalk$Speaker" "kind" "I"), (Jvm.Cond.fieldLink "FurrowTalk$Speaker" (29 : Nat) "FurrowTalk$Speaker" "k" "I"), (Jvm.Cond.fieldLink "FurrowTalk$Speaker" (35 : Nat) "FurrowTalk$Speaker" "m" "I"), (Jvm.Cond.laysFinal "FurrowTalk$Speaker" "FurrowTalk$Speaker" "trace" "[I"), (Jvm.Cond.lays "FurrowTalk$Speaker" "FurrowTalk$Speaker" "traceSize" "I"), (Jvm.Cond.lays "FurrowTalk$Speaker" "FurrowTalk$Speaker" "parted" "Z"), (Jvm.Cond.lays "FurrowTalk$Speaker" "FurrowTalk$Speaker" "kind" "I"), (Jvm.Cond.lays "FurrowTalk$Speaker" "FurrowTalk$Speaker" "k" "I"), (Jvm.Cond.lays "FurrowTalk$Speaker" "FurrowTalk$Speaker" "m" "I"), (Jvm.Cond.classLink "FurrowTalk" (66 : Nat) "FurrowTalk$Sheet"), (Jvm.Cond.instantiable "FurrowTalk$Sheet" (3 : Nat)), (Jvm.Cond.instanceMethod ({ cls := "FurrowTalk$Sheet", name := "<init>", desc := "()V" } : Jvm.MethodName)), (Jvm.Cond.code ({ cls := "FurrowTalk$Sheet", name := "<init>", desc := "()V" } : Jvm.MethodName) prog_7_method_1_code (1 : Nat) (Option.none : Option Jvm.ClassFile.FieldType)), (Jvm.Cond.methodLink "FurrowTalk$Sheet" (3 : Nat) ({ cls := "java/lang/Object", name := "<init>", desc := "()V" } : Jvm.MethodName)), (Jvm.Cond.fieldLink "FurrowTalk$Sheet" (9 : Nat) "FurrowTalk$Sheet" "numbers" "[I"), (Jvm.Cond.fieldLink "FurrowTalk" (316 : Nat) "FurrowTalk$Sheet" "numbers" "[I"), (Jvm.Cond.fieldLink "FurrowTalk$Sheet" (15 : Nat) "FurrowTalk$Sheet" "bits" "I"), (Jvm.Cond.fieldLink "FurrowTalk" (310 : Nat) "FurrowTalk$Sheet" "bits" "I"), (Jvm.Cond.fieldLink "FurrowTalk$Sheet" (19 : Nat) "FurrowTalk$Sheet" "size" "I"), (Jvm.Cond.fieldLink "FurrowTalk" (306 : Nat) "FurrowTalk$Sheet" "size" "I"), (Jvm.Cond.laysFinal "FurrowTalk$Sheet" "FurrowTalk$Sheet" "numbers" "[I"), (Jvm.Cond.lays "FurrowTalk$Sheet" "FurrowTalk$Sheet" "bits" "I"), (Jvm.Cond.lays "FurrowTalk$Sheet" "FurrowTalk$Sheet" "size" "I"), (Jvm.Cond.fieldLink "FurrowTalk" (12 : Nat) "FurrowTalk" "now" "LFurrowTalk$World;"), (Jvm.Cond.fieldLink "FurrowTalk" (16 : Nat) "FurrowTalk" "kept" "LFurrowTalk$World;"), (Jvm.Cond.fieldLink "FurrowTalk" (334 : Nat) "FurrowTalk" "images" "I"), (Jvm.Cond.fieldLink "FurrowTalk" (22 : Nat) "FurrowTalk" "thought" "LFurrowTalk$Field;"), (Jvm.Cond.fieldLink "FurrowTalk" (29 : Nat) "FurrowTalk" "candidate" "LFurrowTalk$Furrow;"), (Jvm.Cond.fieldLink "FurrowTalk" (36 : Nat) "FurrowTalk" "chains" "LFurrowTalk$Chains;"), (Jvm.Cond.fieldLink "FurrowTalk" (45 : Nat) "FurrowTalk" "longScale" "LFurrowTalk$Scale;"), (Jvm.Cond.fieldLink "FurrowTalk" (49 : Nat) "FurrowTalk" "crookScale" "LFurrowTalk$Scale;"), (Jvm.Cond.fieldLink "FurrowTalk" (55 : Nat) "FurrowTalk" "reader" "LFurrowTalk$TextReader;"), (Jvm.Cond.fieldLink "FurrowTalk" (62 : Nat) "FurrowTalk" "speaker" "LFurrowTalk$Speaker;"), (Jvm.Cond.fieldLink "FurrowTalk" (68 : Nat) "FurrowTalk" "sheets" "[LFurrowTalk$Sheet;"), (Jvm.Cond.fieldLink "FurrowTalk" (72 : Nat) "FurrowTalk" "errorsTold" "[I"), (Jvm.Cond.laysFinal "FurrowTalk" "FurrowTalk" "now" "LFurrowTalk$World;"), (Jvm.Cond.laysFinal "FurrowTalk" "FurrowTalk" "kept" "LFurrowTalk$World;"), (Jvm.Cond.lays "FurrowTalk" "FurrowTalk" "images" "I"), (Jvm.Cond.laysFinal "FurrowTalk" "FurrowTalk" "thought" "LFurrowTalk$Field;"), (Jvm.Cond.laysFinal "FurrowTalk" "FurrowTalk" "candidate" "LFurrowTalk$Furrow;"), (Jvm.Cond.laysFinal "FurrowTalk" "FurrowTalk" "chains" "LFurrowTalk$Chains;"), (Jvm.Cond.laysFinal "FurrowTalk" "FurrowTalk" "longScale" "LFurrowTalk$Scale;"), (Jvm.Cond.laysFinal "FurrowTalk" "FurrowTalk" "crookScale" "LFurrowTalk$Scale;"), (Jvm.Cond.laysFinal "FurrowTalk" "FurrowTalk" "reader" "LFurrowTalk$TextReader;"), (Jvm.Cond.laysFinal "FurrowTalk" "FurrowTalk" "speaker" "LFurrowTalk$Speaker;"), (Jvm.Cond.laysFinal "FurrowTalk" "FurrowTalk" "sheets" "[LFurrowTalk$Sheet;"), (Jvm.Cond.laysFinal "FurrowTalk" "FurrowTalk" "errorsTold" "[I"), (Jvm.Cond.methodLink "FurrowTalkLaw" (13 : Nat) ({ cls := "FurrowTalk", name := "plough", desc := "(III)I" } : Jvm.MethodName)), (Jvm.Cond.instanceMethod ({ cls := "FurrowTalk", name := "plough", desc := "(III)I" } : Jvm.MethodName)), (Jvm.Cond.selects "FurrowTalk" ({ cls := "FurrowTalk", name := "plough", desc := "(III)I" } : Jvm.MethodName) ({ cls := "FurrowTalk", name := "plough", desc := "(III)I" } : Jvm.MethodName)), (Jvm.Cond.code ({ cls := "FurrowTalk", name := "plough", desc := "(III)I" } : Jvm.MethodName) prog_1_method_2_code (4 : Nat) (Option.some Jvm.ClassFile.FieldType.int)), (Jvm.Cond.methodLink "FurrowTalk" (77 : Nat) ({ cls := "FurrowTalk", name := "isKindWithNumber", desc := "(I)Z" } : Jvm.MethodName))]
set_option maxRecDepth 20000 in
theorem wA_in_2 : GoodIn lw_tbl wA_2 := by
  intro w hw
  have h := List.all_eq_true.mp (show wA_2.all goodWord = true by decide +kernel) w hw
  have e : wA_2 = ([232, 233, 234, 235, 238, 239, 240, 241, 242, 243, 244, 245, 246, 247, 248, 249, 251, 253, 256, 257, 258, 260, 261, 262, 263, 265, 266, 267, 268, 269, 270, 271, 272, 274, 276, 278, 280, 283, 284, 286, 287, 288, 289, 290, 291, 292, 293, 294, 295, 296, 297, 298, 300, 302, 304, 306, 308, 311, 313, 315, 316, 317, 318, 319, 320, 321, 322, 323, 324, 326, 328, 331, 332, 333, 334, 335, 336, 337, 338, 339, 340, 341, 342, 343, 345, 347, 349, 351, 353, 355, 357, 359, 361, 363, 365, 368, 369, 370, 371, 372] : List Nat).filterMap (fun i => lw_tbl[i]?) := by decide +kernel
  rw [e] at hw
  obtain ⟨i, -, hi⟩ := List.mem_filterMap.mp hw
  exact ⟨List.mem_of_getElem? hi, good_of_word h⟩
def wA_3 : List Cond := [(Jvm.Cond.static ({ cls := "FurrowTalk", name := "isKindWithNumber", desc := "(I)Z" } : Jvm.MethodName)), (Jvm.Cond.code ({ cls := "FurrowTalk", name := "isKindWithNumber", desc := "(I)Z" } : Jvm.MethodName) prog_1_method_44_code (1 : Nat) (Option.some Jvm.ClassFile.FieldType.boolean)), (Jvm.Cond.methodLink "FurrowTalk" (81 : Nat) ({ cls := "FurrowTalk", name := "isLine", desc := "(I)Z" } : Jvm.MethodName)), (Jvm.Cond.static ({ cls := "FurrowTalk", name := "isLine", desc := "(I)Z" } : Jvm.MethodName)), (Jvm.Cond.code ({ cls := "FurrowTalk", name := "isLine", desc := "(I)Z" } : Jvm.MethodName) prog_1_method_45_code (1 : Nat) (Option.some Jvm.ClassFile.FieldType.boolean)), (Jvm.Cond.methodLink "FurrowTalk" (84 : Nat) ({ cls := "FurrowTalk", name := "isHand", desc := "(I)Z" } : Jvm.MethodName)), (Jvm.Cond.static ({ cls := "FurrowTalk", name := "isHand", desc := "(I)Z" } : Jvm.MethodName)), (Jvm.Cond.code ({ cls := "FurrowTalk", name := "isHand", desc := "(I)Z" } : Jvm.MethodName) prog_1_method_47_code (1 : Nat) (Option.some Jvm.ClassFile.FieldType.boolean)), (Jvm.Cond.constant "FurrowTalk" (87 : Nat) (-1000000001 : Int32)), (Jvm.Cond.methodLink "FurrowTalk" (88 : Nat) ({ cls := "FurrowTalk", name := "refuse", desc := "(I)I" } : Jvm.MethodName)), (Jvm.Cond.instanceMethod ({ cls := "FurrowTalk", name := "refuse", desc := "(I)I" } : Jvm.MethodName)), (Jvm.Cond.code ({ cls := "FurrowTalk", name := "refuse", desc := "(I)I" } : Jvm.MethodName) prog_1_method_37_code (3 : Nat) (Option.some Jvm.ClassFile.FieldType.int)), (Jvm.Cond.constant "FurrowTalk" (343 : Nat) (-1000000000 : Int32)), (Jvm.Cond.constant "FurrowTalk" (99 : Nat) (-1000000004 : Int32)), (Jvm.Cond.methodLink "FurrowTalk" (100 : Nat) ({ cls := "FurrowTalk$Field", name := "add", desc := "(III)I" } : Jvm.MethodName)), (Jvm.Cond.instanceMethod ({ cls := "FurrowTalk$Field", name := "add", desc := "(III)I" } : Jvm.MethodName)), (Jvm.Cond.selects "FurrowTalk$Field" ({ cls := "FurrowTalk$Field", name := "add", desc := "(III)I" } : Jvm.MethodName) ({ cls := "FurrowTalk$Field", name := "add", desc := "(III)I" } : Jvm.MethodName)), (Jvm.Cond.code ({ cls := "FurrowTalk$Field", name := "add", desc := "(III)I" } : Jvm.MethodName) prog_3_method_2_code (5 : Nat) (Option.some Jvm.ClassFile.FieldType.int)), (Jvm.Cond.methodLink "FurrowTalk$Field" (28 : Nat) ({ cls := "FurrowTalk$Furrow", name := "setKindAndNumber", desc := "(I)V" } : Jvm.MethodName)), (Jvm.Cond.instanceMethod ({ cls := "FurrowTalk$Furrow", name := "setKindAndNumber", desc := "(I)V" } : Jvm.MethodName)), (Jvm.Cond.selects "FurrowTalk$Furrow" ({ cls := "FurrowTalk$Furrow", name := "setKindAndNumber", desc := "(I)V" } : Jvm.MethodName) ({ cls := "FurrowTalk$Furrow", name := "setKindAndNumber", desc := "(I)V" } : Jvm.MethodName)), (Jvm.Cond.code ({ cls := "FurrowTalk$Furrow", name := "setKindAndNumber", desc := "(I)V" } : Jvm.MethodName) prog_4_method_2_code (2 : Nat) (Option.none : Option Jvm.ClassFile.FieldType)), (Jvm.Cond.methodLink "FurrowTalk$Field" (32 : Nat) ({ cls := "FurrowTalk$Furrow", name := "setLine", desc := "(I)V" } : Jvm.MethodName)), (Jvm.Cond.instanceMethod ({ cls := "FurrowTalk$Furrow", name := "setLine", desc := "(I)V" } : Jvm.MethodName)), (Jvm.Cond.selects "FurrowTalk$Furrow" ({ cls := "FurrowTalk$Furrow", name := "setLine", desc := "(I)V" } : Jvm.MethodName) ({ cls := "FurrowTalk$Furrow", name := "setLine", desc := "(I)V" } : Jvm.MethodName)), (Jvm.Cond.code ({ cls := "FurrowTalk$Furrow", name := "setLine", desc := "(I)V" } : Jvm.MethodName) prog_4_method_3_code (2 : Nat) (Option.none : Option Jvm.ClassFile.FieldType)), (Jvm.Cond.methodLink "FurrowTalkLaw" (18 : Nat) ({ cls := "FurrowTalk", name := "furrowIs", desc := "(II)I" } : Jvm.MethodName)), (Jvm.Cond.instanceMethod ({ cls := "FurrowTalk", name := "furrowIs", desc := "(II)I" } : Jvm.MethodName)), (Jvm.Cond.selects "FurrowTalk" ({ cls := "FurrowTalk", name := "furrowIs", desc := "(II)I" } : Jvm.MethodName) ({ cls := "FurrowTalk", name := "furrowIs", desc := "(II)I" } : Jvm.MethodName)), (Jvm.Cond.code ({ cls := "FurrowTalk", name := "furrowIs", desc := "(II)I" } : Jvm.MethodName) prog_1_method_3_code (4 : Nat) (Option.some Jvm.ClassFile.FieldType.int)), (Jvm.Cond.methodLink "FurrowTalk" (104 : Nat) ({ cls := "FurrowTalk", name := "isFurrow", desc := "(I)Z" } : Jvm.MethodName)), (Jvm.Cond.instanceMethod ({ cls := "FurrowTalk", name := "isFurrow", desc := "(I)Z" } : Jvm.MethodName)), (Jvm.Cond.code ({ cls := "FurrowTalk", name := "isFurrow", desc := "(I)Z" } : Jvm.MethodName) prog_1_method_38_code (2 : Nat) (Option.some Jvm.ClassFile.FieldType.boolean)), (Jvm.Cond.methodLink "FurrowTalk" (133 : Nat) ({ cls := "FurrowTalk", name := "asNumber", desc := "(Z)I" } : Jvm.MethodName)), (Jvm.Cond.static ({ cls := "FurrowTalk", name := "asNumber", desc := "(Z)I" } : Jvm.MethodName)), (Jvm.Cond.code ({ cls := "FurrowTalk", name := "asNumber", desc := "(Z)I" } : Jvm.MethodName) prog_1_method_50_code (1 : Nat) (Option.some Jvm.ClassFile.FieldType.int)), (Jvm.Cond.methodLink "FurrowTalk" (137 : Nat) ({ cls := "FurrowTalk$Furrow", name := "depth", desc := "()I" } : Jvm.MethodName)), (Jvm.Cond.instanceMethod ({ cls := "FurrowTalk$Furrow", name := "depth", desc := "()I" } : Jvm.MethodName)), (Jvm.Cond.selects "FurrowTalk$Furrow" ({ cls := "FurrowTalk$Furrow", name := "depth", desc := "()I" } : Jvm.MethodName) ({ cls := "FurrowTalk$Furrow", name := "depth", desc := "()I" } : Jvm.MethodName)), (Jvm.Cond.code ({ cls := "FurrowTalk$Furrow", name := "depth", desc := "()I" } : Jvm.MethodName) prog_4_method_8_code (1 : Nat) (Option.some Jvm.ClassFile.FieldType.int)), (Jvm.Cond.methodLink "FurrowTalk" (141 : Nat) ({ cls := "FurrowTalk$World", name := "senseOf", desc := "(LFurrowTalk$Furrow;)I" } : Jvm.MethodName)), (Jvm.Cond.instanceMethod ({ cls := "FurrowTalk$World", name := "senseOf", desc := "(LFurrowTalk$Furrow;)I" } : Jvm.MethodName)), (Jvm.Cond.selects "FurrowTalk$World" ({ cls := "FurrowTalk$World", name := "senseOf", desc := "(LFurrowTalk$Furrow;)I" } : Jvm.MethodName) ({ cls := "FurrowTalk$World", name := "senseOf", desc := "(LFurrowTalk$Furrow;)I" } : Jvm.MethodName)), (Jvm.Cond.code ({ cls := "FurrowTalk$World", name := "senseOf", desc := "(LFurrowTalk$Furrow;)I" } : Jvm.MethodName) prog_10_method_3_code (2 : Nat) (Option.some Jvm.ClassFile.FieldType.int)), (Jvm.Cond.methodLink "FurrowTalk$World" (53 : Nat) ({ cls := "FurrowTalk$Furrow", name := "depth", desc := "()I" } : Jvm.MethodName)), (Jvm.Cond.methodLink "FurrowTalk$World" (57 : Nat) ({ cls := "FurrowTalk$World", name := "giveUse", desc := "(IIII)I" } : Jvm.MethodName)), (Jvm.Cond.instanceMethod ({ cls := "FurrowTalk$World", name := "giveUse", desc := "(IIII)I" } : Jvm.MethodName)), (Jvm.Cond.selects "FurrowTalk$World" ({ cls := "FurrowTalk$World", name := "giveUse", desc := "(IIII)I" } : Jvm.MethodName) ({ cls := "FurrowTalk$World", name := "giveUse", desc := "(IIII)I" } : Jvm.MethodName)), (Jvm.Cond.code ({ cls := "FurrowTalk$World", name := "giveUse", desc := "(IIII)I" } : Jvm.MethodName) prog_10_method_2_code (6 : Nat) (Option.some Jvm.ClassFile.FieldType.int)), (Jvm.Cond.methodLink "FurrowTalk$World" (33 : Nat) ({ cls := "FurrowTalk$Law", name := "isGiven", desc := "()Z" } : Jvm.MethodName)), (Jvm.Cond.instanceMethod ({ cls := "FurrowTalk$Law", name := "isGiven", desc := "()Z" } : Jvm.MethodName)), (Jvm.Cond.selects "FurrowTalk$Law" ({ cls := "FurrowTalk$Law", name := "isGiven", desc := "()Z" } : Jvm.MethodName) ({ cls := "FurrowTalk$Law", name := "isGiven", desc := "()Z" } : Jvm.MethodName)), (Jvm.Cond.code ({ cls := "FurrowTalk$Law", name := "isGiven", desc := "()Z" } : Jvm.MethodName) prog_5_method_2_code (1 : Nat) (Option.some Jvm.ClassFile.FieldType.boolean)), (Jvm.Cond.methodLink "FurrowTalk$World" (37 : Nat) ({ cls := "FurrowTalk$Law", name := "workOut", desc := "(III)I" } : Jvm.MethodName)), (Jvm.Cond.instanceMethod ({ cls := "FurrowTalk$Law", name := "workOut", desc := "(III)I" } : Jvm.MethodName)), (Jvm.Cond.selects "FurrowTalk$Law" ({ cls := "FurrowTalk$Law", name := "workOut", desc := "(III)I" } : Jvm.MethodName) ({ cls := "FurrowTalk$Law", name := "workOut", desc := "(III)I" } : Jvm.MethodName)), (Jvm.Cond.code ({ cls := "FurrowTalk$Law", name := "workOut", desc := "(III)I" } : Jvm.MethodName) prog_5_method_6_code (7 : Nat) (Option.some Jvm.ClassFile.FieldType.int)), (Jvm.Cond.methodLink "FurrowTalk$Law" (31 : Nat) ({ cls := "FurrowTalk$Law", name := "push", desc := "(I)V" } : Jvm.MethodName)), (Jvm.Cond.instanceMethod ({ cls := "FurrowTalk$Law", name := "push", desc := "(I)V" } : Jvm.MethodName)), (Jvm.Cond.code ({ cls := "FurrowTalk$Law", name := "push", desc := "(I)V" } : Jvm.MethodName) prog_5_method_7_code (2 : Nat) (Option.none : Option Jvm.ClassFile.FieldType)), (Jvm.Cond.methodLink "FurrowTalk$Law" (35 : Nat) ({ cls := "FurrowTalk$Law", name := "pop", desc := "()I" } : Jvm.MethodName)), (Jvm.Cond.instanceMethod ({ cls := "FurrowTalk$Law", name := "pop", desc := "()I" } : Jvm.MethodName)), (Jvm.Cond.code ({ cls := "FurrowTalk$Law", name := "pop", desc := "()I" } : Jvm.MethodName) prog_5_method_8_code (1 : Nat) (Option.some Jvm.ClassFile.FieldType.int)), (Jvm.Cond.methodLink "FurrowTalk$Law" (43 : Nat) ({ cls := "FurrowTalk$Law", name := "join", desc := "(III)I" } : Jvm.MethodName)), (Jvm.Cond.static ({ cls := "FurrowTalk$Law", name := "join", desc := "(III)I" } : Jvm.MethodName)), (Jvm.Cond.code ({ cls := "FurrowTalk$Law", name := "join", desc := "(III)I" } : Jvm.MethodName) prog_5_method_9_code (3 : Nat) (Option.some Jvm.ClassFile.FieldType.int)), (Jvm.Cond.static ({ cls := "FurrowTalk", name := "hold", desc := "(III)I" } : Jvm.MethodName)), (Jvm.Cond.code ({ cls := "FurrowTalk", name := "hold", desc := "(III)I" } : Jvm.MethodName) prog_1_method_51_code (3 : Nat) (Option.some Jvm.ClassFile.FieldType.int)), (Jvm.Cond.methodLink "FurrowTalk" (325 : Nat) ({ cls := "java/lang/Math", name := "min", desc := "(II)I" } : Jvm.MethodName)), (Jvm.Cond.static ({ cls := "java/lang/Math", name := "min", desc := "(II)I" } : Jvm.MethodName)), (Jvm.Cond.code ({ cls := "java/lang/Math", name := "min", desc := "(II)I" } : Jvm.MethodName) prog_14_method_69_code (2 : Nat) (Option.some Jvm.ClassFile.FieldType.int)), (Jvm.Cond.methodLink "FurrowTalk" (353 : Nat) ({ cls := "java/lang/Math", name := "max", desc := "(II)I" } : Jvm.MethodName)), (Jvm.Cond.static ({ cls := "java/lang/Math", name := "max", desc := "(II)I" } : Jvm.MethodName)), (Jvm.Cond.code ({ cls := "java/lang/Math", name := "max", desc := "(II)I" } : Jvm.MethodName) prog_14_method_65_code (2 : Nat) (Option.some Jvm.ClassFile.FieldType.int)), (Jvm.Cond.methodLink "FurrowTalk" (145 : Nat) ({ cls := "FurrowTalk$Field", name := "isHeard", desc := "(I)Z" } : Jvm.MethodName)), (Jvm.Cond.instanceMethod ({ cls := "FurrowTalk$Field", name := "isHeard", desc := "(I)Z" } : Jvm.MethodName)), (Jvm.Cond.selects "FurrowTalk$Field" ({ cls := "FurrowTalk$Field", name := "isHeard", desc := "(I)Z" } : Jvm.MethodName) ({ cls := "FurrowTalk$Field", name := "isHeard", desc := "(I)Z" } : Jvm.MethodName)), (Jvm.Cond.code ({ cls := "FurrowTalk$Field", name := "isHeard", desc := "(I)Z" } : Jvm.MethodName) prog_3_method_5_code (3 : Nat) (Option.some Jvm.ClassFile.FieldType.boolean)), (Jvm.Cond.methodLink "FurrowTalk$Field" (49 : Nat) ({ cls := "FurrowTalk$Field", name := "echoes", desc := "(II)Z" } : Jvm.MethodName)), (Jvm.Cond.instanceMethod ({ cls := "FurrowTalk$Field", name := "echoes", desc := "(II)Z" } : Jvm.MethodName)), (Jvm.Cond.selects "FurrowTalk$Field" ({ cls := "FurrowTalk$Field", name := "echoes", desc := "(II)Z" } : Jvm.MethodName) ({ cls := "FurrowTalk$Field", name := "echoes", desc := "(II)Z" } : Jvm.MethodName)), (Jvm.Cond.code ({ cls := "FurrowTalk$Field", name := "echoes", desc := "(II)Z" } : Jvm.MethodName) prog_3_method_3_code (3 : Nat) (Option.some Jvm.ClassFile.FieldType.boolean)), (Jvm.Cond.methodLink "FurrowTalk$Field" (45 : Nat) ({ cls := "FurrowTalk$Furrow", name := "echoes", desc := "(LFurrowTalk$Furrow;)Z" } : Jvm.MethodName)), (Jvm.Cond.instanceMethod ({ cls := "FurrowTalk$Furrow", name := "echoes", desc := "(LFurrowTalk$Furrow;)Z" } : Jvm.MethodName)), (Jvm.Cond.selects "FurrowTalk$Furrow" ({ cls := "FurrowTalk$Furrow", name := "echoes", desc := "(LFurrowTalk$Furrow;)Z" } : Jvm.MethodName) ({ cls := "FurrowTalk$Furrow", name := "echoes", desc := "(LFurrowTalk$Furrow;)Z" } : Jvm.MethodName)), (Jvm.Cond.code ({ cls := "FurrowTalk$Furrow", name := "echoes", desc := "(LFurrowTalk$Furrow;)Z" } : Jvm.MethodName) prog_4_method_6_code (2 : Nat) (Option.some Jvm.ClassFile.FieldType.boolean)), (Jvm.Cond.methodLink "FurrowTalk$Furrow" (32 : Nat) ({ cls := "FurrowTalk$Furrow", name := "isAlike", desc := "(LFurrowTalk$Furrow;)Z" } : Jvm.MethodName)), (Jvm.Cond.instanceMethod ({ cls := "FurrowTalk$Furrow", name := "isAlike", desc := "(LFurrowTalk$Furrow;)Z" } : Jvm.MethodName)), (Jvm.Cond.code ({ cls := "FurrowTalk$Furrow", name := "isAlike", desc := "(LFurrowTalk$Furrow;)Z" } : Jvm.MethodName) prog_4_method_7_code (2 : Nat) (Option.some Jvm.ClassFile.FieldType.boolean)), (Jvm.Cond.methodLink "FurrowTalkLaw" (23 : Nat) ({ cls := "FurrowTalk", name := "become", desc := "(II)I" } : Jvm.MethodName)), (Jvm.Cond.instanceMethod ({ cls := "FurrowTalk", name := "become", desc := "(II)I" } : Jvm.MethodName)), (Jvm.Cond.selects "FurrowTalk" ({ cls := "FurrowTalk", name := "become", desc := "(II)I" } : Jvm.MethodName) ({ cls := "FurrowTalk", name := "become", desc := "(II)I" } : Jvm.MethodName)), (Jvm.Cond.code ({ cls := "FurrowTalk", name := "become", desc := "(II)I" } : Jvm.MethodName) prog_1_method_4_code (5 : Nat) (Option.some Jvm.ClassFile.FieldType.int)), (Jvm.Cond.methodLink "FurrowTalk" (148 : Nat) ({ cls := "FurrowTalk$Furrow", name := "setKindAndNumber", desc := "(I)V" } : Jvm.MethodName)), (Jvm.Cond.methodLink "FurrowTalkLaw" (27 : Nat) ({ cls := "FurrowTalk", name := "as", desc := "(II)I" } : Jvm.MethodName)), (Jvm.Cond.instanceMethod ({ cls := "FurrowTalk", name := "as", desc := "(II)I" } : Jvm.MethodName)), (Jvm.Cond.selects "FurrowTalk" ({ cls := "FurrowTalk", name := "as", desc := "(II)I" } : Jvm.MethodName) ({ cls := "FurrowTalk", name := "as", desc := "(II)I" } : Jvm.MethodName)), (Jvm.Cond.code ({ cls := "FurrowTalk", name := "as", desc := "(II)I" } : Jvm.MethodName) prog_1_method_5_code (4 : Nat) (Option.some Jvm.ClassFile.FieldType.int)), (Jvm.Cond.methodLink "FurrowTalk" (151 : Nat) ({ cls := "FurrowTalk", name := "isKind", desc := "(I)Z" } : Jvm.MethodName)), (Jvm.Cond.static ({ cls := "FurrowTalk", name := "isKind", desc := "(I)Z" } : Jvm.MethodName))]
set_option maxRecDepth 20000 in
theorem wA_in_3 : GoodIn lw_tbl wA_3 := by
  intro w hw
  have h := List.all_eq_true.mp (show wA_3.all goodWord = true by decide +kernel) w hw
  have e : wA_3 = ([373, 374, 375, 376, 377, 378, 379, 380, 381, 382, 384, 385, 386, 387, 388, 389, 390, 391, 392, 393, 394, 395, 396, 397, 398, 399, 400, 401, 402, 403, 404, 406, 407, 408, 409, 410, 411, 412, 413, 414, 415, 416, 417, 418, 419, 420, 421, 422, 423, 424, 425, 426, 427, 428, 429, 430, 431, 432, 434, 435, 436, 438, 439, 441, 442, 443, 445, 446, 447, 448, 449, 450, 451, 452, 453, 454, 455, 456, 457, 458, 459, 460, 461, 462, 463, 464, 465, 467, 468, 469, 470, 471, 472, 473, 474, 475, 476, 477, 478, 479] : List Nat).filterMap (fun i => lw_tbl[i]?) := by decide +kernel
  rw [e] at hw
  obtain ⟨i, -, hi⟩ := List.mem_filterMap.mp hw
  exact ⟨List.mem_of_getElem? hi, good_of_word h⟩
def wA_4 : List Cond := [(Jvm.Cond.code ({ cls := "FurrowTalk", name := "isKind", desc := "(I)Z" } : Jvm.MethodName) prog_1_method_43_code (1 : Nat) (Option.some Jvm.ClassFile.FieldType.boolean)), (Jvm.Cond.methodLink "FurrowTalk" (154 : Nat) ({ cls := "FurrowTalk$Furrow", name := "isOfKind", desc := "(I)Z" } : Jvm.MethodName)), (Jvm.Cond.instanceMethod ({ cls := "FurrowTalk$Furrow", name := "isOfKind", desc := "(I)Z" } : Jvm.MethodName)), (Jvm.Cond.selects "FurrowTalk$Furrow" ({ cls := "FurrowTalk$Furrow", name := "isOfKind", desc := "(I)Z" } : Jvm.MethodName) ({ cls := "FurrowTalk$Furrow", name := "isOfKind", desc := "(I)Z" } : Jvm.MethodName)), (Jvm.Cond.code ({ cls := "FurrowTalk$Furrow", name := "isOfKind", desc := "(I)Z" } : Jvm.MethodName) prog_4_method_5_code (4 : Nat) (Option.some Jvm.ClassFile.FieldType.boolean)), (Jvm.Cond.constant "FurrowTalk" (157 : Nat) (-1000000005 : Int32)), (Jvm.Cond.methodLink "FurrowTalkLaw" (31 : Nat) ({ cls := "FurrowTalk", name := "answers", desc := "(II)I" } : Jvm.MethodName)), (Jvm.Cond.instanceMethod ({ cls := "FurrowTalk", name := "answers", desc := "(II)I" } : Jvm.MethodName)), (Jvm.Cond.selects "FurrowTalk" ({ cls := "FurrowTalk", name := "answers", desc := "(II)I" } : Jvm.MethodName) ({ cls := "FurrowTalk", name := "answers", desc := "(II)I" } : Jvm.MethodName)), (Jvm.Cond.code ({ cls := "FurrowTalk", name := "answers", desc := "(II)I" } : Jvm.MethodName) prog_1_method_6_code (3 : Nat) (Option.some Jvm.ClassFile.FieldType.int)), (Jvm.Cond.methodLink "FurrowTalk" (158 : Nat) ({ cls := "FurrowTalk$Field", name := "echoes", desc := "(II)Z" } : Jvm.MethodName)), (Jvm.Cond.methodLink "FurrowTalkLaw" (35 : Nat) ({ cls := "FurrowTalk", name := "cover", desc := "(II)I" } : Jvm.MethodName)), (Jvm.Cond.instanceMethod ({ cls := "FurrowTalk", name := "cover", desc := "(II)I" } : Jvm.MethodName)), (Jvm.Cond.selects "FurrowTalk" ({ cls := "FurrowTalk", name := "cover", desc := "(II)I" } : Jvm.MethodName) ({ cls := "FurrowTalk", name := "cover", desc := "(II)I" } : Jvm.MethodName)), (Jvm.Cond.code ({ cls := "FurrowTalk", name := "cover", desc := "(II)I" } : Jvm.MethodName) prog_1_method_7_code (5 : Nat) (Option.some Jvm.ClassFile.FieldType.int)), (Jvm.Cond.methodLink "FurrowTalkLaw" (39 : Nat) ({ cls := "FurrowTalk", name := "redraw", desc := "(II)I" } : Jvm.MethodName)), (Jvm.Cond.instanceMethod ({ cls := "FurrowTalk", name := "redraw", desc := "(II)I" } : Jvm.MethodName)), (Jvm.Cond.selects "FurrowTalk" ({ cls := "FurrowTalk", name := "redraw", desc := "(II)I" } : Jvm.MethodName) ({ cls := "FurrowTalk", name := "redraw", desc := "(II)I" } : Jvm.MethodName)), (Jvm.Cond.code ({ cls := "FurrowTalk", name := "redraw", desc := "(II)I" } : Jvm.MethodName) prog_1_method_8_code (5 : Nat) (Option.some Jvm.ClassFile.FieldType.int)), (Jvm.Cond.methodLink "FurrowTalk" (162 : Nat) ({ cls := "FurrowTalk$Furrow", name := "line", desc := "()I" } : Jvm.MethodName)), (Jvm.Cond.instanceMethod ({ cls := "FurrowTalk$Furrow", name := "line", desc := "()I" } : Jvm.MethodName)), (Jvm.Cond.selects "FurrowTalk$Furrow" ({ cls := "FurrowTalk$Furrow", name := "line", desc := "()I" } : Jvm.MethodName) ({ cls := "FurrowTalk$Furrow", name := "line", desc := "()I" } : Jvm.MethodName)), (Jvm.Cond.code ({ cls := "FurrowTalk$Furrow", name := "line", desc := "()I" } : Jvm.MethodName) prog_4_method_4_code (1 : Nat) (Option.some Jvm.ClassFile.FieldType.int)), (Jvm.Cond.methodLink "FurrowTalk" (165 : Nat) ({ cls := "FurrowTalk$Furrow", name := "setLine", desc := "(I)V" } : Jvm.MethodName)), (Jvm.Cond.methodLink "FurrowTalkLaw" (43 : Nat) ({ cls := "FurrowTalk", name := "patience", desc := "(I)I" } : Jvm.MethodName)), (Jvm.Cond.instanceMethod ({ cls := "FurrowTalk", name := "patience", desc := "(I)I" } : Jvm.MethodName)), (Jvm.Cond.selects "FurrowTalk" ({ cls := "FurrowTalk", name := "patience", desc := "(I)I" } : Jvm.MethodName) ({ cls := "FurrowTalk", name := "patience", desc := "(I)I" } : Jvm.MethodName)), (Jvm.Cond.code ({ cls := "FurrowTalk", name := "patience", desc := "(I)I" } : Jvm.MethodName) prog_1_method_9_code (3 : Nat) (Option.some Jvm.ClassFile.FieldType.int)), (Jvm.Cond.methodLink "FurrowTalkLaw" (50 : Nat) ({ cls := "FurrowTalk", name := "feed", desc := "(JI)I" } : Jvm.MethodName)), (Jvm.Cond.instanceMethod ({ cls := "FurrowTalk", name := "feed", desc := "(JI)I" } : Jvm.MethodName)), (Jvm.Cond.selects "FurrowTalk" ({ cls := "FurrowTalk", name := "feed", desc := "(JI)I" } : Jvm.MethodName) ({ cls := "FurrowTalk", name := "feed", desc := "(JI)I" } : Jvm.MethodName)), (Jvm.Cond.code ({ cls := "FurrowTalk", name := "feed", desc := "(JI)I" } : Jvm.MethodName) prog_1_method_10_code (5 : Nat) (Option.some Jvm.ClassFile.FieldType.int)), (Jvm.Cond.methodLink "FurrowTalkLaw" (55 : Nat) ({ cls := "FurrowTalk", name := "text", desc := "(I)I" } : Jvm.MethodName)), (Jvm.Cond.instanceMethod ({ cls := "FurrowTalk", name := "text", desc := "(I)I" } : Jvm.MethodName)), (Jvm.Cond.selects "FurrowTalk" ({ cls := "FurrowTalk", name := "text", desc := "(I)I" } : Jvm.MethodName) ({ cls := "FurrowTalk", name := "text", desc := "(I)I" } : Jvm.MethodName)), (Jvm.Cond.code ({ cls := "FurrowTalk", name := "text", desc := "(I)I" } : Jvm.MethodName) prog_1_method_11_code (3 : Nat) (Option.some Jvm.ClassFile.FieldType.int)), (Jvm.Cond.methodLink "FurrowTalk" (178 : Nat) ({ cls := "FurrowTalk", name := "isUse", desc := "(I)Z" } : Jvm.MethodName)), (Jvm.Cond.static ({ cls := "FurrowTalk", name := "isUse", desc := "(I)Z" } : Jvm.MethodName)), (Jvm.Cond.code ({ cls := "FurrowTalk", name := "isUse", desc := "(I)Z" } : Jvm.MethodName) prog_1_method_48_code (1 : Nat) (Option.some Jvm.ClassFile.FieldType.boolean)), (Jvm.Cond.methodLink "FurrowTalk" (181 : Nat) ({ cls := "FurrowTalk$TextReader", name := "read", desc := "([BII)Z" } : Jvm.MethodName)), (Jvm.Cond.instanceMethod ({ cls := "FurrowTalk$TextReader", name := "read", desc := "([BII)Z" } : Jvm.MethodName)), (Jvm.Cond.selects "FurrowTalk$TextReader" ({ cls := "FurrowTalk$TextReader", name := "read", desc := "([BII)Z" } : Jvm.MethodName) ({ cls := "FurrowTalk$TextReader", name := "read", desc := "([BII)Z" } : Jvm.MethodName)), (Jvm.Cond.code ({ cls := "FurrowTalk$TextReader", name := "read", desc := "([BII)Z" } : Jvm.MethodName) prog_9_method_2_code (4 : Nat) (Option.some Jvm.ClassFile.FieldType.boolean)), (Jvm.Cond.methodLink "FurrowTalk$TextReader" (32 : Nat) ({ cls := "FurrowTalk$Law", name := "clear", desc := "()V" } : Jvm.MethodName)), (Jvm.Cond.instanceMethod ({ cls := "FurrowTalk$Law", name := "clear", desc := "()V" } : Jvm.MethodName)), (Jvm.Cond.selects "FurrowTalk$Law" ({ cls := "FurrowTalk$Law", name := "clear", desc := "()V" } : Jvm.MethodName) ({ cls := "FurrowTalk$Law", name := "clear", desc := "()V" } : Jvm.MethodName)), (Jvm.Cond.code ({ cls := "FurrowTalk$Law", name := "clear", desc := "()V" } : Jvm.MethodName) prog_5_method_3_code (1 : Nat) (Option.none : Option Jvm.ClassFile.FieldType)), (Jvm.Cond.methodLink "FurrowTalk$TextReader" (35 : Nat) ({ cls := "FurrowTalk$TextReader", name := "readJoined", desc := "(II)Z" } : Jvm.MethodName)), (Jvm.Cond.instanceMethod ({ cls := "FurrowTalk$TextReader", name := "readJoined", desc := "(II)Z" } : Jvm.MethodName)), (Jvm.Cond.code ({ cls := "FurrowTalk$TextReader", name := "readJoined", desc := "(II)Z" } : Jvm.MethodName) prog_9_method_4_code (6 : Nat) (Option.some Jvm.ClassFile.FieldType.boolean)), (Jvm.Cond.methodLink "FurrowTalk$TextReader" (39 : Nat) ({ cls := "FurrowTalk$TextReader", name := "readSingle", desc := "(I)Z" } : Jvm.MethodName)), (Jvm.Cond.instanceMethod ({ cls := "FurrowTalk$TextReader", name := "readSingle", desc := "(I)Z" } : Jvm.MethodName)), (Jvm.Cond.code ({ cls := "FurrowTalk$TextReader", name := "readSingle", desc := "(I)Z" } : Jvm.MethodName) prog_9_method_5_code (3 : Nat) (Option.some Jvm.ClassFile.FieldType.boolean)), (Jvm.Cond.methodLink "FurrowTalk$TextReader" (43 : Nat) ({ cls := "FurrowTalk$TextReader", name := "signHere", desc := "()I" } : Jvm.MethodName)), (Jvm.Cond.instanceMethod ({ cls := "FurrowTalk$TextReader", name := "signHere", desc := "()I" } : Jvm.MethodName)), (Jvm.Cond.code ({ cls := "FurrowTalk$TextReader", name := "signHere", desc := "()I" } : Jvm.MethodName) prog_9_method_3_code (1 : Nat) (Option.some Jvm.ClassFile.FieldType.int)), (Jvm.Cond.methodLink "FurrowTalk$TextReader" (55 : Nat) ({ cls := "FurrowTalk$TextReader", name := "isDigit", desc := "(I)Z" } : Jvm.MethodName)), (Jvm.Cond.static ({ cls := "FurrowTalk$TextReader", name := "isDigit", desc := "(I)Z" } : Jvm.MethodName)), (Jvm.Cond.code ({ cls := "FurrowTalk$TextReader", name := "isDigit", desc := "(I)Z" } : Jvm.MethodName) prog_9_method_10_code (1 : Nat) (Option.some Jvm.ClassFile.FieldType.boolean)), (Jvm.Cond.methodLink "FurrowTalk$TextReader" (58 : Nat) ({ cls := "FurrowTalk$TextReader", name := "readNumber", desc := "()V" } : Jvm.MethodName)), (Jvm.Cond.instanceMethod ({ cls := "FurrowTalk$TextReader", name := "readNumber", desc := "()V" } : Jvm.MethodName)), (Jvm.Cond.code ({ cls := "FurrowTalk$TextReader", name := "readNumber", desc := "()V" } : Jvm.MethodName) prog_9_method_8_code (3 : Nat) (Option.none : Option Jvm.ClassFile.FieldType)), (Jvm.Cond.methodLink "FurrowTalk$TextReader" (51 : Nat) ({ cls := "FurrowTalk$Law", name := "add", desc := "(I)V" } : Jvm.MethodName)), (Jvm.Cond.instanceMethod ({ cls := "FurrowTalk$Law", name := "add", desc := "(I)V" } : Jvm.MethodName)), (Jvm.Cond.selects "FurrowTalk$Law" ({ cls := "FurrowTalk$Law", name := "add", desc := "(I)V" } : Jvm.MethodName) ({ cls := "FurrowTalk$Law", name := "add", desc := "(I)V" } : Jvm.MethodName)), (Jvm.Cond.code ({ cls := "FurrowTalk$Law", name := "add", desc := "(I)V" } : Jvm.MethodName) prog_5_method_4_code (2 : Nat) (Option.none : Option Jvm.ClassFile.FieldType)), (Jvm.Cond.methodLink "FurrowTalk$TextReader" (61 : Nat) ({ cls := "FurrowTalk$TextReader", name := "readName", desc := "(I)Z" } : Jvm.MethodName)), (Jvm.Cond.instanceMethod ({ cls := "FurrowTalk$TextReader", name := "readName", desc := "(I)Z" } : Jvm.MethodName)), (Jvm.Cond.code ({ cls := "FurrowTalk$TextReader", name := "readName", desc := "(I)Z" } : Jvm.MethodName) prog_9_method_9_code (3 : Nat) (Option.some Jvm.ClassFile.FieldType.boolean)), (Jvm.Cond.fieldLink "FurrowTalk$TextReader" (70 : Nat) "FurrowTalk$TextReader" "NAMES" "[C"), (Jvm.Cond.methodLink "FurrowTalk$TextReader" (64 : Nat) ({ cls := "FurrowTalk$TextReader", name := "readNegated", desc := "(I)Z" } : Jvm.MethodName)), (Jvm.Cond.instanceMethod ({ cls := "FurrowTalk$TextReader", name := "readNegated", desc := "(I)Z" } : Jvm.MethodName)), (Jvm.Cond.code ({ cls := "FurrowTalk$TextReader", name := "readNegated", desc := "(I)Z" } : Jvm.MethodName) prog_9_method_6_code (2 : Nat) (Option.some Jvm.ClassFile.FieldType.boolean)), (Jvm.Cond.methodLink "FurrowTalk$TextReader" (67 : Nat) ({ cls := "FurrowTalk$TextReader", name := "readBracketed", desc := "(I)Z" } : Jvm.MethodName)), (Jvm.Cond.instanceMethod ({ cls := "FurrowTalk$TextReader", name := "readBracketed", desc := "(I)Z" } : Jvm.MethodName)), (Jvm.Cond.code ({ cls := "FurrowTalk$TextReader", name := "readBracketed", desc := "(I)Z" } : Jvm.MethodName) prog_9_method_7_code (2 : Nat) (Option.some Jvm.ClassFile.FieldType.boolean)), (Jvm.Cond.methodLink "FurrowTalk$TextReader" (47 : Nat) ({ cls := "FurrowTalk$TextReader", name := "levelOf", desc := "(I)I" } : Jvm.MethodName)), (Jvm.Cond.static ({ cls := "FurrowTalk$TextReader", name := "levelOf", desc := "(I)I" } : Jvm.MethodName)), (Jvm.Cond.code ({ cls := "FurrowTalk$TextReader", name := "levelOf", desc := "(I)I" } : Jvm.MethodName) prog_9_method_11_code (1 : Nat) (Option.some Jvm.ClassFile.FieldType.int)), (Jvm.Cond.methodLink "FurrowTalk" (196 : Nat) ({ cls := "FurrowTalk$Law", name := "copyFrom", desc := "(LFurrowTalk$Law;)V" } : Jvm.MethodName)), (Jvm.Cond.instanceMethod ({ cls := "FurrowTalk$Law", name := "copyFrom", desc := "(LFurrowTalk$Law;)V" } : Jvm.MethodName)), (Jvm.Cond.selects "FurrowTalk$Law" ({ cls := "FurrowTalk$Law", name := "copyFrom", desc := "(LFurrowTalk$Law;)V" } : Jvm.MethodName) ({ cls := "FurrowTalk$Law", name := "copyFrom", desc := "(LFurrowTalk$Law;)V" } : Jvm.MethodName)), (Jvm.Cond.code ({ cls := "FurrowTalk$Law", name := "copyFrom", desc := "(LFurrowTalk$Law;)V" } : Jvm.MethodName) prog_5_method_5_code (2 : Nat) (Option.none : Option Jvm.ClassFile.FieldType)), (Jvm.Cond.methodLink "FurrowTalk$Law" (22 : Nat) ({ cls := "java/lang/System", name := "arraycopy", desc := "(Ljava/lang/Object;ILjava/lang/Object;II)V" } : Jvm.MethodName)), (Jvm.Cond.static ({ cls := "java/lang/System", name := "arraycopy", desc := "(Ljava/lang/Object;ILjava/lang/Object;II)V" } : Jvm.MethodName)), (Jvm.Cond.native ({ cls := "java/lang/System", name := "arraycopy", desc := "(Ljava/lang/Object;ILjava/lang/Object;II)V" } : Jvm.MethodName)), (Jvm.Cond.methodLink "FurrowTalkLaw" (59 : Nat) ({ cls := "FurrowTalk", name := "untell", desc := "(I)I" } : Jvm.MethodName)), (Jvm.Cond.instanceMethod ({ cls := "FurrowTalk", name := "untell", desc := "(I)I" } : Jvm.MethodName)), (Jvm.Cond.selects "FurrowTalk" ({ cls := "FurrowTalk", name := "untell", desc := "(I)I" } : Jvm.MethodName) ({ cls := "FurrowTalk", name := "untell", desc := "(I)I" } : Jvm.MethodName)), (Jvm.Cond.code ({ cls := "FurrowTalk", name := "untell", desc := "(I)I" } : Jvm.MethodName) prog_1_method_12_code (3 : Nat) (Option.some Jvm.ClassFile.FieldType.int)), (Jvm.Cond.methodLink "FurrowTalk" (202 : Nat) ({ cls := "FurrowTalk$Law", name := "isGiven", desc := "()Z" } : Jvm.MethodName)), (Jvm.Cond.methodLink "FurrowTalk" (206 : Nat) ({ cls := "FurrowTalk$Law", name := "clear", desc := "()V" } : Jvm.MethodName)), (Jvm.Cond.methodLink "FurrowTalkLaw" (63 : Nat) ({ cls := "FurrowTalk", name := "law", desc := "(IIII)I" } : Jvm.MethodName)), (Jvm.Cond.instanceMethod ({ cls := "FurrowTalk", name := "law", desc := "(IIII)I" } : Jvm.MethodName)), (Jvm.Cond.selects "FurrowTalk" ({ cls := "FurrowTalk", name := "law", desc := "(IIII)I" } : Jvm.MethodName) ({ cls := "FurrowTalk", name := "law", desc := "(IIII)I" } : Jvm.MethodName)), (Jvm.Cond.code ({ cls := "FurrowTalk", name := "law", desc := "(IIII)I" } : Jvm.MethodName) prog_1_method_13_code (5 : Nat) (Option.some Jvm.ClassFile.FieldType.int)), (Jvm.Cond.methodLink "FurrowTalk" (209 : Nat) ({ cls := "FurrowTalk$World", name := "giveUse", desc := "(IIII)I" } : Jvm.MethodName)), (Jvm.Cond.methodLink "FurrowTalkLaw" (68 : Nat) ({ cls := "FurrowTalk", name := "years", desc := "(I)I" } : Jvm.MethodName)), (Jvm.Cond.instanceMethod ({ cls := "FurrowTalk", name := "years", desc := "(I)I" } : Jvm.MethodName)), (Jvm.Cond.selects "FurrowTalk" ({ cls := "FurrowTalk", name := "years", desc := "(I)I" } : Jvm.MethodName) ({ cls := "FurrowTalk", name := "years", desc := "(I)I" } : Jvm.MethodName))]
set_option maxRecDepth 20000 in
theorem wA_in_4 : GoodIn lw_tbl wA_4 := by
  intro w hw
  have h := List.all_eq_true.mp (show wA_4.all goodWord = true by decide +kernel) w hw
  have e : wA_4 = ([480, 481, 482, 483, 484, 488, 489, 490, 491, 492, 493, 494, 495, 496, 497, 498, 499, 500, 501, 502, 503, 504, 505, 506, 507, 508, 509, 510, 511, 512, 513, 514, 515, 516, 517, 518, 519, 520, 521, 522, 523, 524, 525, 526, 527, 528, 529, 530, 532, 533, 534, 536, 537, 538, 540, 541, 542, 543, 544, 545, 547, 548, 549, 550, 551, 552, 553, 555, 556, 557, 559, 561, 562, 563, 565, 566, 567, 568, 569, 570, 571, 572, 573, 574, 575, 576, 577, 578, 579, 580, 581, 582, 583, 584, 585, 586, 587, 588, 589, 590] : List Nat).filterMap (fun i => lw_tbl[i]?) := by decide +kernel
  rw [e] at hw
  obtain ⟨i, -, hi⟩ := List.mem_filterMap.mp hw
  exact ⟨List.mem_of_getElem? hi, good_of_word h⟩
def wA_5 : List Cond := [(Jvm.Cond.code ({ cls := "FurrowTalk", name := "years", desc := "(I)I" } : Jvm.MethodName) prog_1_method_14_code (2 : Nat) (Option.some Jvm.ClassFile.FieldType.int)), (Jvm.Cond.constant "FurrowTalk" (216 : Nat) (-1000000003 : Int32)), (Jvm.Cond.methodLink "FurrowTalk" (217 : Nat) ({ cls := "FurrowTalk$Field", name := "passYears", desc := "(I)V" } : Jvm.MethodName)), (Jvm.Cond.instanceMethod ({ cls := "FurrowTalk$Field", name := "passYears", desc := "(I)V" } : Jvm.MethodName)), (Jvm.Cond.selects "FurrowTalk$Field" ({ cls := "FurrowTalk$Field", name := "passYears", desc := "(I)V" } : Jvm.MethodName) ({ cls := "FurrowTalk$Field", name := "passYears", desc := "(I)V" } : Jvm.MethodName)), (Jvm.Cond.code ({ cls := "FurrowTalk$Field", name := "passYears", desc := "(I)V" } : Jvm.MethodName) prog_3_method_12_code (3 : Nat) (Option.none : Option Jvm.ClassFile.FieldType)), (Jvm.Cond.methodLink "FurrowTalk$Field" (81 : Nat) ({ cls := "FurrowTalk$Field", name := "passYear", desc := "()V" } : Jvm.MethodName)), (Jvm.Cond.instanceMethod ({ cls := "FurrowTalk$Field", name := "passYear", desc := "()V" } : Jvm.MethodName)), (Jvm.Cond.selects "FurrowTalk$Field" ({ cls := "FurrowTalk$Field", name := "passYear", desc := "()V" } : Jvm.MethodName) ({ cls := "FurrowTalk$Field", name := "passYear", desc := "()V" } : Jvm.MethodName)), (Jvm.Cond.code ({ cls := "FurrowTalk$Field", name := "passYear", desc := "()V" } : Jvm.MethodName) prog_3_method_11_code (3 : Nat) (Option.none : Option Jvm.ClassFile.FieldType)), (Jvm.Cond.methodLink "FurrowTalk$Field" (75 : Nat) ({ cls := "FurrowTalk$Furrow", name := "goUnheard", desc := "(I)V" } : Jvm.MethodName)), (Jvm.Cond.instanceMethod ({ cls := "FurrowTalk$Furrow", name := "goUnheard", desc := "(I)V" } : Jvm.MethodName)), (Jvm.Cond.selects "FurrowTalk$Furrow" ({ cls := "FurrowTalk$Furrow", name := "goUnheard", desc := "(I)V" } : Jvm.MethodName) ({ cls := "FurrowTalk$Furrow", name := "goUnheard", desc := "(I)V" } : Jvm.MethodName)), (Jvm.Cond.code ({ cls := "FurrowTalk$Furrow", name := "goUnheard", desc := "(I)V" } : Jvm.MethodName) prog_4_method_9_code (2 : Nat) (Option.none : Option Jvm.ClassFile.FieldType)), (Jvm.Cond.methodLink "FurrowTalk$Furrow" (42 : Nat) ({ cls := "java/lang/Math", name := "min", desc := "(II)I" } : Jvm.MethodName)), (Jvm.Cond.methodLink "FurrowTalk" (220 : Nat) ({ cls := "FurrowTalk$Field", name := "seenCount", desc := "()I" } : Jvm.MethodName)), (Jvm.Cond.instanceMethod ({ cls := "FurrowTalk$Field", name := "seenCount", desc := "()I" } : Jvm.MethodName)), (Jvm.Cond.selects "FurrowTalk$Field" ({ cls := "FurrowTalk$Field", name := "seenCount", desc := "()I" } : Jvm.MethodName) ({ cls := "FurrowTalk$Field", name := "seenCount", desc := "()I" } : Jvm.MethodName)), (Jvm.Cond.code ({ cls := "FurrowTalk$Field", name := "seenCount", desc := "()I" } : Jvm.MethodName) prog_3_method_7_code (1 : Nat) (Option.some Jvm.ClassFile.FieldType.int)), (Jvm.Cond.methodLink "FurrowTalk$Field" (56 : Nat) ({ cls := "FurrowTalk$Field", name := "seenSet", desc := "()I" } : Jvm.MethodName)), (Jvm.Cond.instanceMethod ({ cls := "FurrowTalk$Field", name := "seenSet", desc := "()I" } : Jvm.MethodName)), (Jvm.Cond.selects "FurrowTalk$Field" ({ cls := "FurrowTalk$Field", name := "seenSet", desc := "()I" } : Jvm.MethodName) ({ cls := "FurrowTalk$Field", name := "seenSet", desc := "()I" } : Jvm.MethodName)), (Jvm.Cond.code ({ cls := "FurrowTalk$Field", name := "seenSet", desc := "()I" } : Jvm.MethodName) prog_3_method_8_code (3 : Nat) (Option.some Jvm.ClassFile.FieldType.int)), (Jvm.Cond.methodLink "FurrowTalk$Field" (60 : Nat) ({ cls := "java/lang/Integer", name := "bitCount", desc := "(I)I" } : Jvm.MethodName)), (Jvm.Cond.static ({ cls := "java/lang/Integer", name := "bitCount", desc := "(I)I" } : Jvm.MethodName)), (Jvm.Cond.code ({ cls := "java/lang/Integer", name := "bitCount", desc := "(I)I" } : Jvm.MethodName) prog_13_method_49_code (1 : Nat) (Option.some Jvm.ClassFile.FieldType.int)), (Jvm.Cond.constant "java/lang/Integer" (265 : Nat) (1431655765 : Int32)), (Jvm.Cond.constant "java/lang/Integer" (266 : Nat) (858993459 : Int32)), (Jvm.Cond.constant "java/lang/Integer" (267 : Nat) (252645135 : Int32)), (Jvm.Cond.methodLink "FurrowTalkLaw" (72 : Nat) ({ cls := "FurrowTalk", name := "loose", desc := "(I)I" } : Jvm.MethodName)), (Jvm.Cond.instanceMethod ({ cls := "FurrowTalk", name := "loose", desc := "(I)I" } : Jvm.MethodName)), (Jvm.Cond.selects "FurrowTalk" ({ cls := "FurrowTalk", name := "loose", desc := "(I)I" } : Jvm.MethodName) ({ cls := "FurrowTalk", name := "loose", desc := "(I)I" } : Jvm.MethodName)), (Jvm.Cond.code ({ cls := "FurrowTalk", name := "loose", desc := "(I)I" } : Jvm.MethodName) prog_1_method_15_code (3 : Nat) (Option.some Jvm.ClassFile.FieldType.int)), (Jvm.Cond.methodLink "FurrowTalk" (223 : Nat) ({ cls := "FurrowTalk$Field", name := "passYearByDraws", desc := "()V" } : Jvm.MethodName)), (Jvm.Cond.instanceMethod ({ cls := "FurrowTalk$Field", name := "passYearByDraws", desc := "()V" } : Jvm.MethodName)), (Jvm.Cond.selects "FurrowTalk$Field" ({ cls := "FurrowTalk$Field", name := "passYearByDraws", desc := "()V" } : Jvm.MethodName) ({ cls := "FurrowTalk$Field", name := "passYearByDraws", desc := "()V" } : Jvm.MethodName)), (Jvm.Cond.code ({ cls := "FurrowTalk$Field", name := "passYearByDraws", desc := "()V" } : Jvm.MethodName) prog_3_method_13_code (4 : Nat) (Option.none : Option Jvm.ClassFile.FieldType)), (Jvm.Cond.methodLink "FurrowTalk$Field" (84 : Nat) ({ cls := "FurrowTalk$Field", name := "nextDraw", desc := "()I" } : Jvm.MethodName)), (Jvm.Cond.instanceMethod ({ cls := "FurrowTalk$Field", name := "nextDraw", desc := "()I" } : Jvm.MethodName)), (Jvm.Cond.code ({ cls := "FurrowTalk$Field", name := "nextDraw", desc := "()I" } : Jvm.MethodName) prog_3_method_14_code (1 : Nat) (Option.some Jvm.ClassFile.FieldType.int)), (Jvm.Cond.constant "FurrowTalk$Field" (94 : Nat) (1103515245 : Int32)), (Jvm.Cond.static ({ cls := "FurrowTalk", name := "lineAt", desc := "(I)I" } : Jvm.MethodName)), (Jvm.Cond.code ({ cls := "FurrowTalk", name := "lineAt", desc := "(I)I" } : Jvm.MethodName) prog_1_method_46_code (1 : Nat) (Option.some Jvm.ClassFile.FieldType.int)), (Jvm.Cond.methodLink "FurrowTalk$Field" (90 : Nat) ({ cls := "FurrowTalk$Field", name := "add", desc := "(III)I" } : Jvm.MethodName)), (Jvm.Cond.methodLink "FurrowTalkLaw" (76 : Nat) ({ cls := "FurrowTalk", name := "seed", desc := "(I)I" } : Jvm.MethodName)), (Jvm.Cond.instanceMethod ({ cls := "FurrowTalk", name := "seed", desc := "(I)I" } : Jvm.MethodName)), (Jvm.Cond.selects "FurrowTalk" ({ cls := "FurrowTalk", name := "seed", desc := "(I)I" } : Jvm.MethodName) ({ cls := "FurrowTalk", name := "seed", desc := "(I)I" } : Jvm.MethodName)), (Jvm.Cond.code ({ cls := "FurrowTalk", name := "seed", desc := "(I)I" } : Jvm.MethodName) prog_1_method_16_code (3 : Nat) (Option.some Jvm.ClassFile.FieldType.int)), (Jvm.Cond.methodLink "FurrowTalkLaw" (80 : Nat) ({ cls := "FurrowTalk", name := "talk", desc := "(I)I" } : Jvm.MethodName)), (Jvm.Cond.instanceMethod ({ cls := "FurrowTalk", name := "talk", desc := "(I)I" } : Jvm.MethodName)), (Jvm.Cond.selects "FurrowTalk" ({ cls := "FurrowTalk", name := "talk", desc := "(I)I" } : Jvm.MethodName) ({ cls := "FurrowTalk", name := "talk", desc := "(I)I" } : Jvm.MethodName)), (Jvm.Cond.code ({ cls := "FurrowTalk", name := "talk", desc := "(I)I" } : Jvm.MethodName) prog_1_method_17_code (2 : Nat) (Option.some Jvm.ClassFile.FieldType.int)), (Jvm.Cond.methodLink "FurrowTalk" (229 : Nat) ({ cls := "FurrowTalk$Field", name := "longestTalk", desc := "()I" } : Jvm.MethodName)), (Jvm.Cond.instanceMethod ({ cls := "FurrowTalk$Field", name := "longestTalk", desc := "()I" } : Jvm.MethodName)), (Jvm.Cond.selects "FurrowTalk$Field" ({ cls := "FurrowTalk$Field", name := "longestTalk", desc := "()I" } : Jvm.MethodName) ({ cls := "FurrowTalk$Field", name := "longestTalk", desc := "()I" } : Jvm.MethodName)), (Jvm.Cond.code ({ cls := "FurrowTalk$Field", name := "longestTalk", desc := "()I" } : Jvm.MethodName) prog_3_method_10_code (4 : Nat) (Option.some Jvm.ClassFile.FieldType.int)), (Jvm.Cond.methodLink "FurrowTalk$Field" (65 : Nat) ({ cls := "FurrowTalk$Field", name := "isAnswer", desc := "(I)Z" } : Jvm.MethodName)), (Jvm.Cond.instanceMethod ({ cls := "FurrowTalk$Field", name := "isAnswer", desc := "(I)Z" } : Jvm.MethodName)), (Jvm.Cond.selects "FurrowTalk$Field" ({ cls := "FurrowTalk$Field", name := "isAnswer", desc := "(I)Z" } : Jvm.MethodName) ({ cls := "FurrowTalk$Field", name := "isAnswer", desc := "(I)Z" } : Jvm.MethodName)), (Jvm.Cond.code ({ cls := "FurrowTalk$Field", name := "isAnswer", desc := "(I)Z" } : Jvm.MethodName) prog_3_method_6_code (3 : Nat) (Option.some Jvm.ClassFile.FieldType.boolean)), (Jvm.Cond.methodLink "FurrowTalk$Field" (52 : Nat) ({ cls := "FurrowTalk$Field", name := "seenAhead", desc := "(I)I" } : Jvm.MethodName)), (Jvm.Cond.instanceMethod ({ cls := "FurrowTalk$Field", name := "seenAhead", desc := "(I)I" } : Jvm.MethodName)), (Jvm.Cond.selects "FurrowTalk$Field" ({ cls := "FurrowTalk$Field", name := "seenAhead", desc := "(I)I" } : Jvm.MethodName) ({ cls := "FurrowTalk$Field", name := "seenAhead", desc := "(I)I" } : Jvm.MethodName)), (Jvm.Cond.code ({ cls := "FurrowTalk$Field", name := "seenAhead", desc := "(I)I" } : Jvm.MethodName) prog_3_method_4_code (3 : Nat) (Option.some Jvm.ClassFile.FieldType.int)), (Jvm.Cond.methodLink "FurrowTalk$Field" (69 : Nat) ({ cls := "java/lang/Math", name := "max", desc := "(II)I" } : Jvm.MethodName)), (Jvm.Cond.methodLink "FurrowTalk" (232 : Nat) ({ cls := "FurrowTalk$Field", name := "answerCount", desc := "()I" } : Jvm.MethodName)), (Jvm.Cond.instanceMethod ({ cls := "FurrowTalk$Field", name := "answerCount", desc := "()I" } : Jvm.MethodName)), (Jvm.Cond.selects "FurrowTalk$Field" ({ cls := "FurrowTalk$Field", name := "answerCount", desc := "()I" } : Jvm.MethodName) ({ cls := "FurrowTalk$Field", name := "answerCount", desc := "()I" } : Jvm.MethodName)), (Jvm.Cond.code ({ cls := "FurrowTalk$Field", name := "answerCount", desc := "()I" } : Jvm.MethodName) prog_3_method_9_code (3 : Nat) (Option.some Jvm.ClassFile.FieldType.int)), (Jvm.Cond.methodLink "FurrowTalkLaw" (84 : Nat) ({ cls := "FurrowTalk", name := "meaning", desc := "(I)I" } : Jvm.MethodName)), (Jvm.Cond.instanceMethod ({ cls := "FurrowTalk", name := "meaning", desc := "(I)I" } : Jvm.MethodName)), (Jvm.Cond.selects "FurrowTalk" ({ cls := "FurrowTalk", name := "meaning", desc := "(I)I" } : Jvm.MethodName) ({ cls := "FurrowTalk", name := "meaning", desc := "(I)I" } : Jvm.MethodName)), (Jvm.Cond.code ({ cls := "FurrowTalk", name := "meaning", desc := "(I)I" } : Jvm.MethodName) prog_1_method_18_code (5 : Nat) (Option.some Jvm.ClassFile.FieldType.int)), (Jvm.Cond.methodLink "FurrowTalk" (235 : Nat) ({ cls := "FurrowTalk$Field", name := "isAnswer", desc := "(I)Z" } : Jvm.MethodName)), (Jvm.Cond.methodLink "FurrowTalkLaw" (88 : Nat) ({ cls := "FurrowTalk", name := "then", desc := "(II)I" } : Jvm.MethodName)), (Jvm.Cond.instanceMethod ({ cls := "FurrowTalk", name := "then", desc := "(II)I" } : Jvm.MethodName)), (Jvm.Cond.selects "FurrowTalk" ({ cls := "FurrowTalk", name := "then", desc := "(II)I" } : Jvm.MethodName) ({ cls := "FurrowTalk", name := "then", desc := "(II)I" } : Jvm.MethodName)), (Jvm.Cond.code ({ cls := "FurrowTalk", name := "then", desc := "(II)I" } : Jvm.MethodName) prog_1_method_19_code (3 : Nat) (Option.some Jvm.ClassFile.FieldType.int)), (Jvm.Cond.methodLink "FurrowTalk" (238 : Nat) ({ cls := "FurrowTalk$Field", name := "copyFrom", desc := "(LFurrowTalk$Field;)V" } : Jvm.MethodName)), (Jvm.Cond.instanceMethod ({ cls := "FurrowTalk$Field", name := "copyFrom", desc := "(LFurrowTalk$Field;)V" } : Jvm.MethodName)), (Jvm.Cond.selects "FurrowTalk$Field" ({ cls := "FurrowTalk$Field", name := "copyFrom", desc := "(LFurrowTalk$Field;)V" } : Jvm.MethodName) ({ cls := "FurrowTalk$Field", name := "copyFrom", desc := "(LFurrowTalk$Field;)V" } : Jvm.MethodName)), (Jvm.Cond.code ({ cls := "FurrowTalk$Field", name := "copyFrom", desc := "(LFurrowTalk$Field;)V" } : Jvm.MethodName) prog_3_method_15_code (3 : Nat) (Option.none : Option Jvm.ClassFile.FieldType)), (Jvm.Cond.methodLink "FurrowTalk$Field" (95 : Nat) ({ cls := "FurrowTalk$Furrow", name := "copyFrom", desc := "(LFurrowTalk$Furrow;)V" } : Jvm.MethodName)), (Jvm.Cond.instanceMethod ({ cls := "FurrowTalk$Furrow", name := "copyFrom", desc := "(LFurrowTalk$Furrow;)V" } : Jvm.MethodName)), (Jvm.Cond.selects "FurrowTalk$Furrow" ({ cls := "FurrowTalk$Furrow", name := "copyFrom", desc := "(LFurrowTalk$Furrow;)V" } : Jvm.MethodName) ({ cls := "FurrowTalk$Furrow", name := "copyFrom", desc := "(LFurrowTalk$Furrow;)V" } : Jvm.MethodName)), (Jvm.Cond.code ({ cls := "FurrowTalk$Furrow", name := "copyFrom", desc := "(LFurrowTalk$Furrow;)V" } : Jvm.MethodName) prog_4_method_10_code (2 : Nat) (Option.none : Option Jvm.ClassFile.FieldType)), (Jvm.Cond.methodLink "FurrowTalk" (241 : Nat) ({ cls := "FurrowTalk$Field", name := "seenSet", desc := "()I" } : Jvm.MethodName)), (Jvm.Cond.methodLink "FurrowTalkLaw" (92 : Nat) ({ cls := "FurrowTalk", name := "fewest", desc := "(I)I" } : Jvm.MethodName)), (Jvm.Cond.instanceMethod ({ cls := "FurrowTalk", name := "fewest", desc := "(I)I" } : Jvm.MethodName)), (Jvm.Cond.selects "FurrowTalk" ({ cls := "FurrowTalk", name := "fewest", desc := "(I)I" } : Jvm.MethodName) ({ cls := "FurrowTalk", name := "fewest", desc := "(I)I" } : Jvm.MethodName)), (Jvm.Cond.code ({ cls := "FurrowTalk", name := "fewest", desc := "(I)I" } : Jvm.MethodName) prog_1_method_20_code (3 : Nat) (Option.some Jvm.ClassFile.FieldType.int)), (Jvm.Cond.methodLink "FurrowTalk" (244 : Nat) ({ cls := "FurrowTalk$Chains", name := "bestSet", desc := "(LFurrowTalk$Field;)I" } : Jvm.MethodName)), (Jvm.Cond.instanceMethod ({ cls := "FurrowTalk$Chains", name := "bestSet", desc := "(LFurrowTalk$Field;)I" } : Jvm.MethodName)), (Jvm.Cond.selects "FurrowTalk$Chains" ({ cls := "FurrowTalk$Chains", name := "bestSet", desc := "(LFurrowTalk$Field;)I" } : Jvm.MethodName) ({ cls := "FurrowTalk$Chains", name := "bestSet", desc := "(LFurrowTalk$Field;)I" } : Jvm.MethodName)), (Jvm.Cond.code ({ cls := "FurrowTalk$Chains", name := "bestSet", desc := "(LFurrowTalk$Field;)I" } : Jvm.MethodName) prog_2_method_2_code (4 : Nat) (Option.some Jvm.ClassFile.FieldType.int)), (Jvm.Cond.methodLink "FurrowTalk$Chains" (31 : Nat) ({ cls := "FurrowTalk$Chains", name := "bestAhead", desc := "(LFurrowTalk$Field;I)I" } : Jvm.MethodName)), (Jvm.Cond.instanceMethod ({ cls := "FurrowTalk$Chains", name := "bestAhead", desc := "(LFurrowTalk$Field;I)I" } : Jvm.MethodName)), (Jvm.Cond.code ({ cls := "FurrowTalk$Chains", name := "bestAhead", desc := "(LFurrowTalk$Field;I)I" } : Jvm.MethodName) prog_2_method_3_code (5 : Nat) (Option.some Jvm.ClassFile.FieldType.int)), (Jvm.Cond.methodLink "FurrowTalk$Chains" (41 : Nat) ({ cls := "FurrowTalk$Field", name := "echoes", desc := "(II)Z" } : Jvm.MethodName)), (Jvm.Cond.methodLink "FurrowTalk$Chains" (35 : Nat) ({ cls := "java/lang/Math", name := "max", desc := "(II)I" } : Jvm.MethodName))]
set_option maxRecDepth 20000 in
theorem wA_in_5 : GoodIn lw_tbl wA_5 := by
  intro w hw
  have h := List.all_eq_true.mp (show wA_5.all goodWord = true by decide +kernel) w hw
  have e : wA_5 = ([591, 592, 593, 594, 595, 596, 597, 598, 599, 600, 601, 602, 603, 604, 605, 606, 607, 608, 609, 610, 611, 612, 613, 614, 615, 616, 617, 618, 619, 620, 621, 622, 623, 624, 625, 626, 627, 628, 630, 631, 632, 634, 635, 636, 637, 638, 639, 640, 641, 642, 643, 644, 645, 646, 647, 648, 649, 650, 651, 652, 653, 654, 655, 656, 657, 658, 659, 660, 661, 662, 663, 664, 665, 666, 667, 668, 669, 670, 671, 672, 673, 674, 675, 676, 677, 678, 679, 680, 681, 682, 683, 684, 685, 686, 687, 688, 690, 691, 692, 693] : List Nat).filterMap (fun i => lw_tbl[i]?) := by decide +kernel
  rw [e] at hw
  obtain ⟨i, -, hi⟩ := List.mem_filterMap.mp hw
  exact ⟨List.mem_of_getElem? hi, good_of_word h⟩
def wA_6 : List Cond := [(Jvm.Cond.methodLink "FurrowTalk" (248 : Nat) ({ cls := "java/lang/Integer", name := "bitCount", desc := "(I)I" } : Jvm.MethodName)), (Jvm.Cond.methodLink "FurrowTalkLaw" (96 : Nat) ({ cls := "FurrowTalk", name := "reply", desc := "(II)I" } : Jvm.MethodName)), (Jvm.Cond.instanceMethod ({ cls := "FurrowTalk", name := "reply", desc := "(II)I" } : Jvm.MethodName)), (Jvm.Cond.selects "FurrowTalk" ({ cls := "FurrowTalk", name := "reply", desc := "(II)I" } : Jvm.MethodName) ({ cls := "FurrowTalk", name := "reply", desc := "(II)I" } : Jvm.MethodName)), (Jvm.Cond.code ({ cls := "FurrowTalk", name := "reply", desc := "(II)I" } : Jvm.MethodName) prog_1_method_21_code (5 : Nat) (Option.some Jvm.ClassFile.FieldType.int)), (Jvm.Cond.methodLink "FurrowTalk" (253 : Nat) ({ cls := "FurrowTalk$Field", name := "seenAhead", desc := "(I)I" } : Jvm.MethodName)), (Jvm.Cond.methodLink "FurrowTalk" (259 : Nat) ({ cls := "FurrowTalk$Scale", name := "measureTo", desc := "(I)V" } : Jvm.MethodName)), (Jvm.Cond.instanceMethod ({ cls := "FurrowTalk$Scale", name := "measureTo", desc := "(I)V" } : Jvm.MethodName)), (Jvm.Cond.selects "FurrowTalk$Scale" ({ cls := "FurrowTalk$Scale", name := "measureTo", desc := "(I)V" } : Jvm.MethodName) ({ cls := "FurrowTalk$Scale", name := "measureTo", desc := "(I)V" } : Jvm.MethodName)), (Jvm.Cond.code ({ cls := "FurrowTalk$Scale", name := "measureTo", desc := "(I)V" } : Jvm.MethodName) prog_6_method_2_code (4 : Nat) (Option.none : Option Jvm.ClassFile.FieldType)), (Jvm.Cond.constant "FurrowTalk$Scale" (22 : Nat) (2147483647 : Int32)), (Jvm.Cond.methodLink "FurrowTalk$Scale" (23 : Nat) ({ cls := "FurrowTalk$Scale", name := "cheapestUnsettled", desc := "()I" } : Jvm.MethodName)), (Jvm.Cond.instanceMethod ({ cls := "FurrowTalk$Scale", name := "cheapestUnsettled", desc := "()I" } : Jvm.MethodName)), (Jvm.Cond.code ({ cls := "FurrowTalk$Scale", name := "cheapestUnsettled", desc := "()I" } : Jvm.MethodName) prog_6_method_3_code (3 : Nat) (Option.some Jvm.ClassFile.FieldType.int)), (Jvm.Cond.methodLink "FurrowTalk$Scale" (27 : Nat) ({ cls := "FurrowTalk$Scale", name := "reachFrom", desc := "(I)V" } : Jvm.MethodName)), (Jvm.Cond.instanceMethod ({ cls := "FurrowTalk$Scale", name := "reachFrom", desc := "(I)V" } : Jvm.MethodName)), (Jvm.Cond.code ({ cls := "FurrowTalk$Scale", name := "reachFrom", desc := "(I)V" } : Jvm.MethodName) prog_6_method_4_code (3 : Nat) (Option.none : Option Jvm.ClassFile.FieldType)), (Jvm.Cond.methodLink "FurrowTalk$Scale" (31 : Nat) ({ cls := "java/lang/Math", name := "abs", desc := "(I)I" } : Jvm.MethodName)), (Jvm.Cond.static ({ cls := "java/lang/Math", name := "abs", desc := "(I)I" } : Jvm.MethodName)), (Jvm.Cond.code ({ cls := "java/lang/Math", name := "abs", desc := "(I)I" } : Jvm.MethodName) prog_14_method_59_code (1 : Nat) (Option.some Jvm.ClassFile.FieldType.int)), (Jvm.Cond.methodLink "FurrowTalk$Scale" (37 : Nat) ({ cls := "java/lang/Math", name := "min", desc := "(II)I" } : Jvm.MethodName)), (Jvm.Cond.methodLink "FurrowTalk" (265 : Nat) ({ cls := "FurrowTalk", name := "firstReplyLine", desc := "(LFurrowTalk$Furrow;)I" } : Jvm.MethodName)), (Jvm.Cond.instanceMethod ({ cls := "FurrowTalk", name := "firstReplyLine", desc := "(LFurrowTalk$Furrow;)I" } : Jvm.MethodName)), (Jvm.Cond.code ({ cls := "FurrowTalk", name := "firstReplyLine", desc := "(LFurrowTalk$Furrow;)I" } : Jvm.MethodName) prog_1_method_39_code (6 : Nat) (Option.some Jvm.ClassFile.FieldType.int)), (Jvm.Cond.methodLink "FurrowTalk" (344 : Nat) ({ cls := "FurrowTalk$Scale", name := "leastFirstStep", desc := "(I)I" } : Jvm.MethodName)), (Jvm.Cond.instanceMethod ({ cls := "FurrowTalk$Scale", name := "leastFirstStep", desc := "(I)I" } : Jvm.MethodName)), (Jvm.Cond.selects "FurrowTalk$Scale" ({ cls := "FurrowTalk$Scale", name := "leastFirstStep", desc := "(I)I" } : Jvm.MethodName) ({ cls := "FurrowTalk$Scale", name := "leastFirstStep", desc := "(I)I" } : Jvm.MethodName)), (Jvm.Cond.code ({ cls := "FurrowTalk$Scale", name := "leastFirstStep", desc := "(I)I" } : Jvm.MethodName) prog_6_method_5_code (3 : Nat) (Option.some Jvm.ClassFile.FieldType.int)), (Jvm.Cond.methodLink "FurrowTalkLaw" (100 : Nat) ({ cls := "FurrowTalk", name := "odds", desc := "(III)I" } : Jvm.MethodName)), (Jvm.Cond.instanceMethod ({ cls := "FurrowTalk", name := "odds", desc := "(III)I" } : Jvm.MethodName)), (Jvm.Cond.selects "FurrowTalk" ({ cls := "FurrowTalk", name := "odds", desc := "(III)I" } : Jvm.MethodName) ({ cls := "FurrowTalk", name := "odds", desc := "(III)I" } : Jvm.MethodName)), (Jvm.Cond.code ({ cls := "FurrowTalk", name := "odds", desc := "(III)I" } : Jvm.MethodName) prog_1_method_22_code (7 : Nat) (Option.some Jvm.ClassFile.FieldType.int)), (Jvm.Cond.methodLink "FurrowTalk" (268 : Nat) ({ cls := "FurrowTalk", name := "linesThatEcho", desc := "(LFurrowTalk$Furrow;)I" } : Jvm.MethodName)), (Jvm.Cond.instanceMethod ({ cls := "FurrowTalk", name := "linesThatEcho", desc := "(LFurrowTalk$Furrow;)I" } : Jvm.MethodName)), (Jvm.Cond.code ({ cls := "FurrowTalk", name := "linesThatEcho", desc := "(LFurrowTalk$Furrow;)I" } : Jvm.MethodName) prog_1_method_40_code (4 : Nat) (Option.some Jvm.ClassFile.FieldType.int)), (Jvm.Cond.methodLink "FurrowTalk" (347 : Nat) ({ cls := "FurrowTalk", name := "lineAt", desc := "(I)I" } : Jvm.MethodName)), (Jvm.Cond.methodLink "FurrowTalk" (350 : Nat) ({ cls := "FurrowTalk$Furrow", name := "echoes", desc := "(LFurrowTalk$Furrow;)Z" } : Jvm.MethodName)), (Jvm.Cond.methodLink "FurrowTalk" (271 : Nat) ({ cls := "FurrowTalk", name := "commonDivisor", desc := "(I)I" } : Jvm.MethodName)), (Jvm.Cond.static ({ cls := "FurrowTalk", name := "commonDivisor", desc := "(I)I" } : Jvm.MethodName)), (Jvm.Cond.code ({ cls := "FurrowTalk", name := "commonDivisor", desc := "(I)I" } : Jvm.MethodName) prog_1_method_41_code (2 : Nat) (Option.some Jvm.ClassFile.FieldType.int)), (Jvm.Cond.methodLink "FurrowTalkLaw" (104 : Nat) ({ cls := "FurrowTalk", name := "fits", desc := "(I)I" } : Jvm.MethodName)), (Jvm.Cond.instanceMethod ({ cls := "FurrowTalk", name := "fits", desc := "(I)I" } : Jvm.MethodName)), (Jvm.Cond.selects "FurrowTalk" ({ cls := "FurrowTalk", name := "fits", desc := "(I)I" } : Jvm.MethodName) ({ cls := "FurrowTalk", name := "fits", desc := "(I)I" } : Jvm.MethodName)), (Jvm.Cond.code ({ cls := "FurrowTalk", name := "fits", desc := "(I)I" } : Jvm.MethodName) prog_1_method_23_code (4 : Nat) (Option.some Jvm.ClassFile.FieldType.int)), (Jvm.Cond.methodLink "FurrowTalk" (274 : Nat) ({ cls := "FurrowTalk", name := "isSheet", desc := "(I)Z" } : Jvm.MethodName)), (Jvm.Cond.static ({ cls := "FurrowTalk", name := "isSheet", desc := "(I)Z" } : Jvm.MethodName)), (Jvm.Cond.code ({ cls := "FurrowTalk", name := "isSheet", desc := "(I)Z" } : Jvm.MethodName) prog_1_method_49_code (1 : Nat) (Option.some Jvm.ClassFile.FieldType.boolean)), (Jvm.Cond.methodLink "FurrowTalk" (277 : Nat) ({ cls := "FurrowTalk$Sheet", name := "isMissing", desc := "()Z" } : Jvm.MethodName)), (Jvm.Cond.instanceMethod ({ cls := "FurrowTalk$Sheet", name := "isMissing", desc := "()Z" } : Jvm.MethodName)), (Jvm.Cond.selects "FurrowTalk$Sheet" ({ cls := "FurrowTalk$Sheet", name := "isMissing", desc := "()Z" } : Jvm.MethodName) ({ cls := "FurrowTalk$Sheet", name := "isMissing", desc := "()Z" } : Jvm.MethodName)), (Jvm.Cond.code ({ cls := "FurrowTalk$Sheet", name := "isMissing", desc := "()Z" } : Jvm.MethodName) prog_7_method_2_code (1 : Nat) (Option.some Jvm.ClassFile.FieldType.boolean)), (Jvm.Cond.constant "FurrowTalk" (280 : Nat) (-1000000002 : Int32)), (Jvm.Cond.methodLink "FurrowTalk" (281 : Nat) ({ cls := "FurrowTalk", name := "tellsLengths", desc := "(LFurrowTalk$Sheet;LFurrowTalk$Field;)Z" } : Jvm.MethodName)), (Jvm.Cond.static ({ cls := "FurrowTalk", name := "tellsLengths", desc := "(LFurrowTalk$Sheet;LFurrowTalk$Field;)Z" } : Jvm.MethodName)), (Jvm.Cond.code ({ cls := "FurrowTalk", name := "tellsLengths", desc := "(LFurrowTalk$Sheet;LFurrowTalk$Field;)Z" } : Jvm.MethodName) prog_1_method_42_code (5 : Nat) (Option.some Jvm.ClassFile.FieldType.boolean)), (Jvm.Cond.methodLink "FurrowTalk" (285 : Nat) ({ cls := "FurrowTalk$Field", name := "passYear", desc := "()V" } : Jvm.MethodName)), (Jvm.Cond.methodLink "FurrowTalkLaw" (108 : Nat) ({ cls := "FurrowTalk", name := "voice", desc := "(III)I" } : Jvm.MethodName)), (Jvm.Cond.instanceMethod ({ cls := "FurrowTalk", name := "voice", desc := "(III)I" } : Jvm.MethodName)), (Jvm.Cond.selects "FurrowTalk" ({ cls := "FurrowTalk", name := "voice", desc := "(III)I" } : Jvm.MethodName) ({ cls := "FurrowTalk", name := "voice", desc := "(III)I" } : Jvm.MethodName)), (Jvm.Cond.code ({ cls := "FurrowTalk", name := "voice", desc := "(III)I" } : Jvm.MethodName) prog_1_method_24_code (5 : Nat) (Option.some Jvm.ClassFile.FieldType.int)), (Jvm.Cond.methodLink "FurrowTalk" (288 : Nat) ({ cls := "FurrowTalk$Speaker", name := "speak", desc := "(LFurrowTalk$Furrow;III)I" } : Jvm.MethodName)), (Jvm.Cond.instanceMethod ({ cls := "FurrowTalk$Speaker", name := "speak", desc := "(LFurrowTalk$Furrow;III)I" } : Jvm.MethodName)), (Jvm.Cond.selects "FurrowTalk$Speaker" ({ cls := "FurrowTalk$Speaker", name := "speak", desc := "(LFurrowTalk$Furrow;III)I" } : Jvm.MethodName) ({ cls := "FurrowTalk$Speaker", name := "speak", desc := "(LFurrowTalk$Furrow;III)I" } : Jvm.MethodName)), (Jvm.Cond.code ({ cls := "FurrowTalk$Speaker", name := "speak", desc := "(LFurrowTalk$Furrow;III)I" } : Jvm.MethodName) prog_8_method_2_code (5 : Nat) (Option.some Jvm.ClassFile.FieldType.int)), (Jvm.Cond.methodLink "FurrowTalk$Speaker" (36 : Nat) ({ cls := "FurrowTalk$Speaker", name := "says", desc := "(II)I" } : Jvm.MethodName)), (Jvm.Cond.instanceMethod ({ cls := "FurrowTalk$Speaker", name := "says", desc := "(II)I" } : Jvm.MethodName)), (Jvm.Cond.code ({ cls := "FurrowTalk$Speaker", name := "says", desc := "(II)I" } : Jvm.MethodName) prog_8_method_4_code (3 : Nat) (Option.some Jvm.ClassFile.FieldType.int)), (Jvm.Cond.methodLink "FurrowTalk$Speaker" (49 : Nat) ({ cls := "FurrowTalk$Speaker", name := "begin", desc := "(I)V" } : Jvm.MethodName)), (Jvm.Cond.instanceMethod ({ cls := "FurrowTalk$Speaker", name := "begin", desc := "(I)V" } : Jvm.MethodName)), (Jvm.Cond.code ({ cls := "FurrowTalk$Speaker", name := "begin", desc := "(I)V" } : Jvm.MethodName) prog_8_method_3_code (2 : Nat) (Option.none : Option Jvm.ClassFile.FieldType)), (Jvm.Cond.methodLink "FurrowTalk$Speaker" (40 : Nat) ({ cls := "FurrowTalk$Speaker", name := "asks", desc := "(II)I" } : Jvm.MethodName)), (Jvm.Cond.instanceMethod ({ cls := "FurrowTalk$Speaker", name := "asks", desc := "(II)I" } : Jvm.MethodName)), (Jvm.Cond.code ({ cls := "FurrowTalk$Speaker", name := "asks", desc := "(II)I" } : Jvm.MethodName) prog_8_method_5_code (3 : Nat) (Option.some Jvm.ClassFile.FieldType.int)), (Jvm.Cond.methodLink "FurrowTalk$Speaker" (43 : Nat) ({ cls := "FurrowTalk$Speaker", name := "hums", desc := "(II)I" } : Jvm.MethodName)), (Jvm.Cond.instanceMethod ({ cls := "FurrowTalk$Speaker", name := "hums", desc := "(II)I" } : Jvm.MethodName)), (Jvm.Cond.code ({ cls := "FurrowTalk$Speaker", name := "hums", desc := "(II)I" } : Jvm.MethodName) prog_8_method_6_code (3 : Nat) (Option.some Jvm.ClassFile.FieldType.int)), (Jvm.Cond.methodLink "FurrowTalk$Speaker" (46 : Nat) ({ cls := "FurrowTalk$Speaker", name := "parts", desc := "(II)I" } : Jvm.MethodName)), (Jvm.Cond.instanceMethod ({ cls := "FurrowTalk$Speaker", name := "parts", desc := "(II)I" } : Jvm.MethodName)), (Jvm.Cond.code ({ cls := "FurrowTalk$Speaker", name := "parts", desc := "(II)I" } : Jvm.MethodName) prog_8_method_7_code (4 : Nat) (Option.some Jvm.ClassFile.FieldType.int)), (Jvm.Cond.constant "FurrowTalk" (295 : Nat) (-1000000006 : Int32)), (Jvm.Cond.methodLink "FurrowTalkLaw" (112 : Nat) ({ cls := "FurrowTalk", name := "body", desc := "(I)I" } : Jvm.MethodName)), (Jvm.Cond.instanceMethod ({ cls := "FurrowTalk", name := "body", desc := "(I)I" } : Jvm.MethodName)), (Jvm.Cond.selects "FurrowTalk" ({ cls := "FurrowTalk", name := "body", desc := "(I)I" } : Jvm.MethodName) ({ cls := "FurrowTalk", name := "body", desc := "(I)I" } : Jvm.MethodName)), (Jvm.Cond.code ({ cls := "FurrowTalk", name := "body", desc := "(I)I" } : Jvm.MethodName) prog_1_method_25_code (2 : Nat) (Option.some Jvm.ClassFile.FieldType.int)), (Jvm.Cond.methodLink "FurrowTalkLaw" (116 : Nat) ({ cls := "FurrowTalk", name := "sheet", desc := "(III)I" } : Jvm.MethodName)), (Jvm.Cond.instanceMethod ({ cls := "FurrowTalk", name := "sheet", desc := "(III)I" } : Jvm.MethodName)), (Jvm.Cond.selects "FurrowTalk" ({ cls := "FurrowTalk", name := "sheet", desc := "(III)I" } : Jvm.MethodName) ({ cls := "FurrowTalk", name := "sheet", desc := "(III)I" } : Jvm.MethodName)), (Jvm.Cond.code ({ cls := "FurrowTalk", name := "sheet", desc := "(III)I" } : Jvm.MethodName) prog_1_method_26_code (4 : Nat) (Option.some Jvm.ClassFile.FieldType.int)), (Jvm.Cond.methodLink "FurrowTalk" (302 : Nat) ({ cls := "FurrowTalk$Sheet", name := "lay", desc := "(II)V" } : Jvm.MethodName)), (Jvm.Cond.instanceMethod ({ cls := "FurrowTalk$Sheet", name := "lay", desc := "(II)V" } : Jvm.MethodName)), (Jvm.Cond.selects "FurrowTalk$Sheet" ({ cls := "FurrowTalk$Sheet", name := "lay", desc := "(II)V" } : Jvm.MethodName) ({ cls := "FurrowTalk$Sheet", name := "lay", desc := "(II)V" } : Jvm.MethodName)), (Jvm.Cond.code ({ cls := "FurrowTalk$Sheet", name := "lay", desc := "(II)V" } : Jvm.MethodName) prog_7_method_3_code (4 : Nat) (Option.none : Option Jvm.ClassFile.FieldType)), (Jvm.Cond.methodLink "FurrowTalkLaw" (120 : Nat) ({ cls := "FurrowTalk", name := "put", desc := "(III)I" } : Jvm.MethodName)), (Jvm.Cond.instanceMethod ({ cls := "FurrowTalk", name := "put", desc := "(III)I" } : Jvm.MethodName)), (Jvm.Cond.selects "FurrowTalk" ({ cls := "FurrowTalk", name := "put", desc := "(III)I" } : Jvm.MethodName) ({ cls := "FurrowTalk", name := "put", desc := "(III)I" } : Jvm.MethodName)), (Jvm.Cond.code ({ cls := "FurrowTalk", name := "put", desc := "(III)I" } : Jvm.MethodName) prog_1_method_27_code (5 : Nat) (Option.some Jvm.ClassFile.FieldType.int)), (Jvm.Cond.methodLink "FurrowTalk" (307 : Nat) ({ cls := "FurrowTalk$Sheet", name := "write", desc := "(II)V" } : Jvm.MethodName)), (Jvm.Cond.instanceMethod ({ cls := "FurrowTalk$Sheet", name := "write", desc := "(II)V" } : Jvm.MethodName)), (Jvm.Cond.selects "FurrowTalk$Sheet" ({ cls := "FurrowTalk$Sheet", name := "write", desc := "(II)V" } : Jvm.MethodName) ({ cls := "FurrowTalk$Sheet", name := "write", desc := "(II)V" } : Jvm.MethodName)), (Jvm.Cond.code ({ cls := "FurrowTalk$Sheet", name := "write", desc := "(II)V" } : Jvm.MethodName) prog_7_method_4_code (3 : Nat) (Option.none : Option Jvm.ClassFile.FieldType))]
set_option maxRecDepth 20000 in
theorem wA_in_6 : GoodIn lw_tbl wA_6 := by
  intro w hw
  have h := List.all_eq_true.mp (show wA_6.all goodWord = true by decide +kernel) w hw
  have e : wA_6 = ([694, 695, 696, 697, 698, 699, 700, 701, 702, 703, 704, 705, 707, 708, 709, 711, 712, 713, 714, 715, 716, 717, 719, 720, 721, 722, 723, 724, 725, 726, 727, 728, 729, 731, 732, 733, 734, 735, 736, 737, 738, 739, 740, 741, 742, 743, 744, 745, 746, 747, 748, 749, 750, 751, 752, 753, 754, 755, 756, 757, 758, 759, 760, 761, 762, 764, 765, 766, 768, 769, 770, 772, 773, 774, 776, 777, 778, 780, 781, 782, 783, 784, 785, 786, 787, 788, 789, 790, 791, 792, 793, 794, 795, 796, 797, 798, 799, 800, 801, 802] : List Nat).filterMap (fun i => lw_tbl[i]?) := by decide +kernel
  rw [e] at hw
  obtain ⟨i, -, hi⟩ := List.mem_filterMap.mp hw
  exact ⟨List.mem_of_getElem? hi, good_of_word h⟩
def wA_7 : List Cond := [(Jvm.Cond.methodLink "FurrowTalkLaw" (124 : Nat) ({ cls := "FurrowTalk", name := "move", desc := "(IIIII)I" } : Jvm.MethodName)), (Jvm.Cond.instanceMethod ({ cls := "FurrowTalk", name := "move", desc := "(IIIII)I" } : Jvm.MethodName)), (Jvm.Cond.selects "FurrowTalk" ({ cls := "FurrowTalk", name := "move", desc := "(IIIII)I" } : Jvm.MethodName) ({ cls := "FurrowTalk", name := "move", desc := "(IIIII)I" } : Jvm.MethodName)), (Jvm.Cond.code ({ cls := "FurrowTalk", name := "move", desc := "(IIIII)I" } : Jvm.MethodName) prog_1_method_28_code (8 : Nat) (Option.some Jvm.ClassFile.FieldType.int)), (Jvm.Cond.methodLink "FurrowTalk" (313 : Nat) ({ cls := "FurrowTalk$Sheet", name := "holds", desc := "(II)Z" } : Jvm.MethodName)), (Jvm.Cond.instanceMethod ({ cls := "FurrowTalk$Sheet", name := "holds", desc := "(II)Z" } : Jvm.MethodName)), (Jvm.Cond.selects "FurrowTalk$Sheet" ({ cls := "FurrowTalk$Sheet", name := "holds", desc := "(II)Z" } : Jvm.MethodName) ({ cls := "FurrowTalk$Sheet", name := "holds", desc := "(II)Z" } : Jvm.MethodName)), (Jvm.Cond.code ({ cls := "FurrowTalk$Sheet", name := "holds", desc := "(II)Z" } : Jvm.MethodName) prog_7_method_5_code (3 : Nat) (Option.some Jvm.ClassFile.FieldType.boolean)), (Jvm.Cond.methodLink "FurrowTalk" (319 : Nat) ({ cls := "java/lang/System", name := "arraycopy", desc := "(Ljava/lang/Object;ILjava/lang/Object;II)V" } : Jvm.MethodName)), (Jvm.Cond.methodLink "FurrowTalkLaw" (129 : Nat) ({ cls := "FurrowTalk", name := "lines", desc := "(I)I" } : Jvm.MethodName)), (Jvm.Cond.instanceMethod ({ cls := "FurrowTalk", name := "lines", desc := "(I)I" } : Jvm.MethodName)), (Jvm.Cond.selects "FurrowTalk" ({ cls := "FurrowTalk", name := "lines", desc := "(I)I" } : Jvm.MethodName) ({ cls := "FurrowTalk", name := "lines", desc := "(I)I" } : Jvm.MethodName)), (Jvm.Cond.code ({ cls := "FurrowTalk", name := "lines", desc := "(I)I" } : Jvm.MethodName) prog_1_method_29_code (5 : Nat) (Option.some Jvm.ClassFile.FieldType.int)), (Jvm.Cond.methodLink "FurrowTalkLaw" (133 : Nat) ({ cls := "FurrowTalk", name := "judge", desc := "(I)I" } : Jvm.MethodName)), (Jvm.Cond.instanceMethod ({ cls := "FurrowTalk", name := "judge", desc := "(I)I" } : Jvm.MethodName)), (Jvm.Cond.selects "FurrowTalk" ({ cls := "FurrowTalk", name := "judge", desc := "(I)I" } : Jvm.MethodName) ({ cls := "FurrowTalk", name := "judge", desc := "(I)I" } : Jvm.MethodName)), (Jvm.Cond.code ({ cls := "FurrowTalk", name := "judge", desc := "(I)I" } : Jvm.MethodName) prog_1_method_30_code (5 : Nat) (Option.some Jvm.ClassFile.FieldType.int)), (Jvm.Cond.methodLink "FurrowTalkLaw" (137 : Nat) ({ cls := "FurrowTalk", name := "image", desc := "()I" } : Jvm.MethodName)), (Jvm.Cond.instanceMethod ({ cls := "FurrowTalk", name := "image", desc := "()I" } : Jvm.MethodName)), (Jvm.Cond.selects "FurrowTalk" ({ cls := "FurrowTalk", name := "image", desc := "()I" } : Jvm.MethodName) ({ cls := "FurrowTalk", name := "image", desc := "()I" } : Jvm.MethodName)), (Jvm.Cond.code ({ cls := "FurrowTalk", name := "image", desc := "()I" } : Jvm.MethodName) prog_1_method_31_code (1 : Nat) (Option.some Jvm.ClassFile.FieldType.int)), (Jvm.Cond.methodLink "FurrowTalk" (331 : Nat) ({ cls := "FurrowTalk$World", name := "copyFrom", desc := "(LFurrowTalk$World;)V" } : Jvm.MethodName)), (Jvm.Cond.instanceMethod ({ cls := "FurrowTalk$World", name := "copyFrom", desc := "(LFurrowTalk$World;)V" } : Jvm.MethodName)), (Jvm.Cond.selects "FurrowTalk$World" ({ cls := "FurrowTalk$World", name := "copyFrom", desc := "(LFurrowTalk$World;)V" } : Jvm.MethodName) ({ cls := "FurrowTalk$World", name := "copyFrom", desc := "(LFurrowTalk$World;)V" } : Jvm.MethodName)), (Jvm.Cond.code ({ cls := "FurrowTalk$World", name := "copyFrom", desc := "(LFurrowTalk$World;)V" } : Jvm.MethodName) prog_10_method_4_code (3 : Nat) (Option.none : Option Jvm.ClassFile.FieldType)), (Jvm.Cond.methodLink "FurrowTalk$World" (61 : Nat) ({ cls := "FurrowTalk$Field", name := "copyFrom", desc := "(LFurrowTalk$Field;)V" } : Jvm.MethodName)), (Jvm.Cond.methodLink "FurrowTalk$World" (65 : Nat) ({ cls := "FurrowTalk$Law", name := "copyFrom", desc := "(LFurrowTalk$Law;)V" } : Jvm.MethodName)), (Jvm.Cond.methodLink "FurrowTalk$World" (71 : Nat) ({ cls := "java/lang/System", name := "arraycopy", desc := "(Ljava/lang/Object;ILjava/lang/Object;II)V" } : Jvm.MethodName)), (Jvm.Cond.methodLink "FurrowTalkLaw" (142 : Nat) ({ cls := "FurrowTalk", name := "restore", desc := "()I" } : Jvm.MethodName)), (Jvm.Cond.instanceMethod ({ cls := "FurrowTalk", name := "restore", desc := "()I" } : Jvm.MethodName)), (Jvm.Cond.selects "FurrowTalk" ({ cls := "FurrowTalk", name := "restore", desc := "()I" } : Jvm.MethodName) ({ cls := "FurrowTalk", name := "restore", desc := "()I" } : Jvm.MethodName)), (Jvm.Cond.code ({ cls := "FurrowTalk", name := "restore", desc := "()I" } : Jvm.MethodName) prog_1_method_32_code (1 : Nat) (Option.some Jvm.ClassFile.FieldType.int)), (Jvm.Cond.methodLink "FurrowTalkLaw" (146 : Nat) ({ cls := "FurrowTalk", name := "tell", desc := "(I)I" } : Jvm.MethodName)), (Jvm.Cond.instanceMethod ({ cls := "FurrowTalk", name := "tell", desc := "(I)I" } : Jvm.MethodName)), (Jvm.Cond.selects "FurrowTalk" ({ cls := "FurrowTalk", name := "tell", desc := "(I)I" } : Jvm.MethodName) ({ cls := "FurrowTalk", name := "tell", desc := "(I)I" } : Jvm.MethodName)), (Jvm.Cond.code ({ cls := "FurrowTalk", name := "tell", desc := "(I)I" } : Jvm.MethodName) prog_1_method_33_code (2 : Nat) (Option.some Jvm.ClassFile.FieldType.int)), (Jvm.Cond.methodLink "FurrowTalkLaw" (150 : Nat) ({ cls := "FurrowTalk", name := "check", desc := "()I" } : Jvm.MethodName)), (Jvm.Cond.instanceMethod ({ cls := "FurrowTalk", name := "check", desc := "()I" } : Jvm.MethodName)), (Jvm.Cond.selects "FurrowTalk" ({ cls := "FurrowTalk", name := "check", desc := "()I" } : Jvm.MethodName) ({ cls := "FurrowTalk", name := "check", desc := "()I" } : Jvm.MethodName)), (Jvm.Cond.code ({ cls := "FurrowTalk", name := "check", desc := "()I" } : Jvm.MethodName) prog_1_method_34_code (3 : Nat) (Option.some Jvm.ClassFile.FieldType.int)), (Jvm.Cond.methodLink "FurrowTalkLaw" (154 : Nat) ({ cls := "FurrowTalk", name := "count", desc := "(I)I" } : Jvm.MethodName)), (Jvm.Cond.instanceMethod ({ cls := "FurrowTalk", name := "count", desc := "(I)I" } : Jvm.MethodName)), (Jvm.Cond.selects "FurrowTalk" ({ cls := "FurrowTalk", name := "count", desc := "(I)I" } : Jvm.MethodName) ({ cls := "FurrowTalk", name := "count", desc := "(I)I" } : Jvm.MethodName)), (Jvm.Cond.code ({ cls := "FurrowTalk", name := "count", desc := "(I)I" } : Jvm.MethodName) prog_1_method_35_code (2 : Nat) (Option.some Jvm.ClassFile.FieldType.int)), (Jvm.Cond.methodLink "FurrowTalkLaw" (158 : Nat) ({ cls := "FurrowTalk", name := "told", desc := "(I)I" } : Jvm.MethodName)), (Jvm.Cond.instanceMethod ({ cls := "FurrowTalk", name := "told", desc := "(I)I" } : Jvm.MethodName)), (Jvm.Cond.selects "FurrowTalk" ({ cls := "FurrowTalk", name := "told", desc := "(I)I" } : Jvm.MethodName) ({ cls := "FurrowTalk", name := "told", desc := "(I)I" } : Jvm.MethodName)), (Jvm.Cond.code ({ cls := "FurrowTalk", name := "told", desc := "(I)I" } : Jvm.MethodName) prog_1_method_36_code (2 : Nat) (Option.some Jvm.ClassFile.FieldType.int)), (Jvm.Cond.classLink "FurrowTalkLaw" (10 : Nat) "FurrowTalkModel"), (Jvm.Cond.instantiable "FurrowTalkModel" (21 : Nat)), (Jvm.Cond.methodLink "FurrowTalkLaw" (12 : Nat) ({ cls := "FurrowTalkModel", name := "<init>", desc := "()V" } : Jvm.MethodName)), (Jvm.Cond.instanceMethod ({ cls := "FurrowTalkModel", name := "<init>", desc := "()V" } : Jvm.MethodName)), (Jvm.Cond.code ({ cls := "FurrowTalkModel", name := "<init>", desc := "()V" } : Jvm.MethodName) prog_12_method_1_code (1 : Nat) (Option.none : Option Jvm.ClassFile.FieldType)), (Jvm.Cond.methodLink "FurrowTalkModel" (3 : Nat) ({ cls := "java/lang/Object", name := "<init>", desc := "()V" } : Jvm.MethodName)), (Jvm.Cond.fieldLink "FurrowTalkModel" (9 : Nat) "FurrowTalkModel" "row" "[I"), (Jvm.Cond.fieldLink "FurrowTalkModel" (13 : Nat) "FurrowTalkModel" "kept" "[I"), (Jvm.Cond.fieldLink "FurrowTalkModel" (16 : Nat) "FurrowTalkModel" "before" "[I"), (Jvm.Cond.fieldLink "FurrowTalkModel" (275 : Nat) "FurrowTalkModel" "images" "I"), (Jvm.Cond.fieldLink "FurrowTalkModel" (19 : Nat) "FurrowTalkModel" "errors" "[I"), (Jvm.Cond.fieldLink "FurrowTalkModel" (22 : Nat) "FurrowTalkModel" "bitsOf" "[I"), (Jvm.Cond.fieldLink "FurrowTalkModel" (25 : Nat) "FurrowTalkModel" "sizeOf" "[I"), (Jvm.Cond.fieldLink "FurrowTalkModel" (28 : Nat) "FurrowTalkModel" "cells" "[I"), (Jvm.Cond.fieldLink "FurrowTalkModel" (31 : Nat) "FurrowTalkModel" "act" "[I"), (Jvm.Cond.fieldLink "FurrowTalkModel" (34 : Nat) "FurrowTalkModel" "with" "[I"), (Jvm.Cond.fieldLink "FurrowTalkModel" (37 : Nat) "FurrowTalkModel" "facts" "[I"), (Jvm.Cond.fieldLink "FurrowTalkModel" (40 : Nat) "FurrowTalkModel" "pile" "[I"), (Jvm.Cond.fieldLink "FurrowTalkModel" (121 : Nat) "FurrowTalkModel" "laid" "I"), (Jvm.Cond.fieldLink "FurrowTalkModel" (117 : Nat) "FurrowTalkModel" "here" "I"), (Jvm.Cond.fieldLink "FurrowTalkModel" (139 : Nat) "FurrowTalkModel" "opened" "I"), (Jvm.Cond.fieldLink "FurrowTalkModel" (131 : Nat) "FurrowTalkModel" "bad" "Z"), (Jvm.Cond.fieldLink "FurrowTalkModel" (124 : Nat) "FurrowTalkModel" "using" "I"), (Jvm.Cond.fieldLink "FurrowTalkModel" (43 : Nat) "FurrowTalkModel" "cost" "[I"), (Jvm.Cond.fieldLink "FurrowTalkModel" (46 : Nat) "FurrowTalkModel" "trace" "[I"), (Jvm.Cond.fieldLink "FurrowTalkModel" (228 : Nat) "FurrowTalkModel" "traced" "I"), (Jvm.Cond.fieldLink "FurrowTalkModel" (255 : Nat) "FurrowTalkModel" "isParted" "Z"), (Jvm.Cond.laysFinal "FurrowTalkModel" "FurrowTalkModel" "row" "[I"), (Jvm.Cond.laysFinal "FurrowTalkModel" "FurrowTalkModel" "kept" "[I"), (Jvm.Cond.laysFinal "FurrowTalkModel" "FurrowTalkModel" "before" "[I"), (Jvm.Cond.lays "FurrowTalkModel" "FurrowTalkModel" "images" "I"), (Jvm.Cond.laysFinal "FurrowTalkModel" "FurrowTalkModel" "errors" "[I"), (Jvm.Cond.laysFinal "FurrowTalkModel" "FurrowTalkModel" "bitsOf" "[I"), (Jvm.Cond.laysFinal "FurrowTalkModel" "FurrowTalkModel" "sizeOf" "[I"), (Jvm.Cond.laysFinal "FurrowTalkModel" "FurrowTalkModel" "cells" "[I"), (Jvm.Cond.laysFinal "FurrowTalkModel" "FurrowTalkModel" "act" "[I"), (Jvm.Cond.laysFinal "FurrowTalkModel" "FurrowTalkModel" "with" "[I"), (Jvm.Cond.laysFinal "FurrowTalkModel" "FurrowTalkModel" "facts" "[I"), (Jvm.Cond.laysFinal "FurrowTalkModel" "FurrowTalkModel" "pile" "[I"), (Jvm.Cond.lays "FurrowTalkModel" "FurrowTalkModel" "laid" "I"), (Jvm.Cond.lays "FurrowTalkModel" "FurrowTalkModel" "here" "I"), (Jvm.Cond.lays "FurrowTalkModel" "FurrowTalkModel" "opened" "I"), (Jvm.Cond.lays "FurrowTalkModel" "FurrowTalkModel" "bad" "Z"), (Jvm.Cond.lays "FurrowTalkModel" "FurrowTalkModel" "using" "I"), (Jvm.Cond.laysFinal "FurrowTalkModel" "FurrowTalkModel" "cost" "[I"), (Jvm.Cond.laysFinal "FurrowTalkModel" "FurrowTalkModel" "trace" "[I"), (Jvm.Cond.lays "FurrowTalkModel" "FurrowTalkModel" "traced" "I"), (Jvm.Cond.lays "FurrowTalkModel" "FurrowTalkModel" "isParted" "Z"), (Jvm.Cond.methodLink "FurrowTalkLaw" (17 : Nat) ({ cls := "FurrowTalkModel", name := "plough", desc := "(III)I" } : Jvm.MethodName)), (Jvm.Cond.instanceMethod ({ cls := "FurrowTalkModel", name := "plough", desc := "(III)I" } : Jvm.MethodName)), (Jvm.Cond.selects "FurrowTalkModel" ({ cls := "FurrowTalkModel", name := "plough", desc := "(III)I" } : Jvm.MethodName) ({ cls := "FurrowTalkModel", name := "plough", desc := "(III)I" } : Jvm.MethodName)), (Jvm.Cond.code ({ cls := "FurrowTalkModel", name := "plough", desc := "(III)I" } : Jvm.MethodName) prog_12_method_25_code (4 : Nat) (Option.some Jvm.ClassFile.FieldType.int))]
set_option maxRecDepth 20000 in
theorem wA_in_7 : GoodIn lw_tbl wA_7 := by
  intro w hw
  have h := List.all_eq_true.mp (show wA_7.all goodWord = true by decide +kernel) w hw
  have e : wA_7 = ([803, 804, 805, 806, 807, 808, 809, 810, 811, 812, 813, 814, 815, 816, 817, 818, 819, 820, 821, 822, 823, 824, 825, 826, 827, 828, 829, 830, 831, 832, 833, 834, 835, 836, 837, 838, 839, 840, 841, 842, 843, 844, 845, 846, 847, 848, 849, 850, 851, 852, 853, 854, 855, 856, 857, 858, 859, 860, 861, 862, 863, 864, 865, 866, 867, 868, 869, 870, 871, 872, 873, 874, 875, 876, 877, 878, 880, 882, 884, 886, 888, 890, 892, 894, 896, 898, 900, 902, 904, 906, 908, 910, 912, 914, 916, 918, 921, 922, 923, 924] : List Nat).filterMap (fun i => lw_tbl[i]?) := by decide +kernel
  rw [e] at hw
  obtain ⟨i, -, hi⟩ := List.mem_filterMap.mp hw
  exact ⟨List.mem_of_getElem? hi, good_of_word h⟩
def wA_8 : List Cond := [(Jvm.Cond.methodLink "FurrowTalkModel" (88 : Nat) ({ cls := "FurrowTalkModel", name := "isKm", desc := "(I)Z" } : Jvm.MethodName)), (Jvm.Cond.static ({ cls := "FurrowTalkModel", name := "isKm", desc := "(I)Z" } : Jvm.MethodName)), (Jvm.Cond.code ({ cls := "FurrowTalkModel", name := "isKm", desc := "(I)Z" } : Jvm.MethodName) prog_12_method_22_code (1 : Nat) (Option.some Jvm.ClassFile.FieldType.boolean)), (Jvm.Cond.methodLink "FurrowTalkModel" (54 : Nat) ({ cls := "FurrowTalkModel", name := "in", desc := "(III)Z" } : Jvm.MethodName)), (Jvm.Cond.static ({ cls := "FurrowTalkModel", name := "in", desc := "(III)Z" } : Jvm.MethodName)), (Jvm.Cond.code ({ cls := "FurrowTalkModel", name := "in", desc := "(III)Z" } : Jvm.MethodName) prog_12_method_3_code (3 : Nat) (Option.some Jvm.ClassFile.FieldType.boolean)), (Jvm.Cond.methodLink "FurrowTalkModel" (91 : Nat) ({ cls := "FurrowTalkModel", name := "isLine", desc := "(I)Z" } : Jvm.MethodName)), (Jvm.Cond.static ({ cls := "FurrowTalkModel", name := "isLine", desc := "(I)Z" } : Jvm.MethodName)), (Jvm.Cond.code ({ cls := "FurrowTalkModel", name := "isLine", desc := "(I)Z" } : Jvm.MethodName) prog_12_method_23_code (1 : Nat) (Option.some Jvm.ClassFile.FieldType.boolean)), (Jvm.Cond.constant "FurrowTalkModel" (94 : Nat) (-1000000001 : Int32)), (Jvm.Cond.methodLink "FurrowTalkModel" (95 : Nat) ({ cls := "FurrowTalkModel", name := "error", desc := "(I)I" } : Jvm.MethodName)), (Jvm.Cond.instanceMethod ({ cls := "FurrowTalkModel", name := "error", desc := "(I)I" } : Jvm.MethodName)), (Jvm.Cond.code ({ cls := "FurrowTalkModel", name := "error", desc := "(I)I" } : Jvm.MethodName) prog_12_method_2_code (2 : Nat) (Option.some Jvm.ClassFile.FieldType.int)), (Jvm.Cond.constant "FurrowTalkModel" (49 : Nat) (-1000000000 : Int32)), (Jvm.Cond.constant "FurrowTalkModel" (98 : Nat) (-1000000004 : Int32)), (Jvm.Cond.methodLink "FurrowTalkModel" (99 : Nat) ({ cls := "FurrowTalkModel", name := "comes", desc := "(IIII)I" } : Jvm.MethodName)), (Jvm.Cond.instanceMethod ({ cls := "FurrowTalkModel", name := "comes", desc := "(IIII)I" } : Jvm.MethodName)), (Jvm.Cond.code ({ cls := "FurrowTalkModel", name := "comes", desc := "(IIII)I" } : Jvm.MethodName) prog_12_method_24_code (6 : Nat) (Option.some Jvm.ClassFile.FieldType.int)), (Jvm.Cond.methodLink "FurrowTalkModel" (84 : Nat) ({ cls := "FurrowTalkModel", name := "lets", desc := "(III)V" } : Jvm.MethodName)), (Jvm.Cond.instanceMethod ({ cls := "FurrowTalkModel", name := "lets", desc := "(III)V" } : Jvm.MethodName)), (Jvm.Cond.code ({ cls := "FurrowTalkModel", name := "lets", desc := "(III)V" } : Jvm.MethodName) prog_12_method_12_code (4 : Nat) (Option.none : Option Jvm.ClassFile.FieldType)), (Jvm.Cond.methodLink "FurrowTalkLaw" (22 : Nat) ({ cls := "FurrowTalkModel", name := "furrowIs", desc := "(II)I" } : Jvm.MethodName)), (Jvm.Cond.instanceMethod ({ cls := "FurrowTalkModel", name := "furrowIs", desc := "(II)I" } : Jvm.MethodName)), (Jvm.Cond.selects "FurrowTalkModel" ({ cls := "FurrowTalkModel", name := "furrowIs", desc := "(II)I" } : Jvm.MethodName) ({ cls := "FurrowTalkModel", name := "furrowIs", desc := "(II)I" } : Jvm.MethodName)), (Jvm.Cond.code ({ cls := "FurrowTalkModel", name := "furrowIs", desc := "(II)I" } : Jvm.MethodName) prog_12_method_26_code (3 : Nat) (Option.some Jvm.ClassFile.FieldType.int)), (Jvm.Cond.methodLink "FurrowTalkModel" (102 : Nat) ({ cls := "FurrowTalkModel", name := "isFurrow", desc := "(I)Z" } : Jvm.MethodName)), (Jvm.Cond.instanceMethod ({ cls := "FurrowTalkModel", name := "isFurrow", desc := "(I)Z" } : Jvm.MethodName)), (Jvm.Cond.code ({ cls := "FurrowTalkModel", name := "isFurrow", desc := "(I)Z" } : Jvm.MethodName) prog_12_method_9_code (2 : Nat) (Option.some Jvm.ClassFile.FieldType.boolean)), (Jvm.Cond.methodLink "FurrowTalkModel" (58 : Nat) ({ cls := "FurrowTalkModel", name := "of", desc := "(II)I" } : Jvm.MethodName)), (Jvm.Cond.instanceMethod ({ cls := "FurrowTalkModel", name := "of", desc := "(II)I" } : Jvm.MethodName)), (Jvm.Cond.code ({ cls := "FurrowTalkModel", name := "of", desc := "(II)I" } : Jvm.MethodName) prog_12_method_11_code (3 : Nat) (Option.some Jvm.ClassFile.FieldType.int)), (Jvm.Cond.methodLink "FurrowTalkModel" (77 : Nat) ({ cls := "FurrowTalkModel", name := "depthOf", desc := "(I)I" } : Jvm.MethodName)), (Jvm.Cond.instanceMethod ({ cls := "FurrowTalkModel", name := "depthOf", desc := "(I)I" } : Jvm.MethodName)), (Jvm.Cond.code ({ cls := "FurrowTalkModel", name := "depthOf", desc := "(I)I" } : Jvm.MethodName) prog_12_method_14_code (3 : Nat) (Option.some Jvm.ClassFile.FieldType.int)), (Jvm.Cond.methodLink "FurrowTalkModel" (105 : Nat) ({ cls := "FurrowTalkModel", name := "senseOf", desc := "(I)I" } : Jvm.MethodName)), (Jvm.Cond.instanceMethod ({ cls := "FurrowTalkModel", name := "senseOf", desc := "(I)I" } : Jvm.MethodName)), (Jvm.Cond.code ({ cls := "FurrowTalkModel", name := "senseOf", desc := "(I)I" } : Jvm.MethodName) prog_12_method_21_code (2 : Nat) (Option.some Jvm.ClassFile.FieldType.int)), (Jvm.Cond.methodLink "FurrowTalkModel" (80 : Nat) ({ cls := "FurrowTalkModel", name := "gives", desc := "(IIII)I" } : Jvm.MethodName)), (Jvm.Cond.instanceMethod ({ cls := "FurrowTalkModel", name := "gives", desc := "(IIII)I" } : Jvm.MethodName)), (Jvm.Cond.code ({ cls := "FurrowTalkModel", name := "gives", desc := "(IIII)I" } : Jvm.MethodName) prog_12_method_49_code (7 : Nat) (Option.some Jvm.ClassFile.FieldType.int)), (Jvm.Cond.methodLink "FurrowTalkModel" (174 : Nat) ({ cls := "FurrowTalkModel", name := "works", desc := "(I)I" } : Jvm.MethodName)), (Jvm.Cond.instanceMethod ({ cls := "FurrowTalkModel", name := "works", desc := "(I)I" } : Jvm.MethodName)), (Jvm.Cond.code ({ cls := "FurrowTalkModel", name := "works", desc := "(I)I" } : Jvm.MethodName) prog_12_method_48_code (5 : Nat) (Option.some Jvm.ClassFile.FieldType.int)), (Jvm.Cond.methodLink "FurrowTalkModel" (170 : Nat) ({ cls := "FurrowTalkModel", name := "twoOf", desc := "(III)I" } : Jvm.MethodName)), (Jvm.Cond.static ({ cls := "FurrowTalkModel", name := "twoOf", desc := "(III)I" } : Jvm.MethodName)), (Jvm.Cond.code ({ cls := "FurrowTalkModel", name := "twoOf", desc := "(III)I" } : Jvm.MethodName) prog_12_method_47_code (3 : Nat) (Option.some Jvm.ClassFile.FieldType.int)), (Jvm.Cond.methodLink "FurrowTalkModel" (177 : Nat) ({ cls := "FurrowTalkModel", name := "held", desc := "(III)I" } : Jvm.MethodName)), (Jvm.Cond.static ({ cls := "FurrowTalkModel", name := "held", desc := "(III)I" } : Jvm.MethodName)), (Jvm.Cond.code ({ cls := "FurrowTalkModel", name := "held", desc := "(III)I" } : Jvm.MethodName) prog_12_method_4_code (3 : Nat) (Option.some Jvm.ClassFile.FieldType.int)), (Jvm.Cond.methodLink "FurrowTalkModel" (108 : Nat) ({ cls := "FurrowTalkModel", name := "isHeard", desc := "(I)Z" } : Jvm.MethodName)), (Jvm.Cond.instanceMethod ({ cls := "FurrowTalkModel", name := "isHeard", desc := "(I)Z" } : Jvm.MethodName)), (Jvm.Cond.code ({ cls := "FurrowTalkModel", name := "isHeard", desc := "(I)Z" } : Jvm.MethodName) prog_12_method_18_code (3 : Nat) (Option.some Jvm.ClassFile.FieldType.boolean)), (Jvm.Cond.methodLink "FurrowTalkModel" (66 : Nat) ({ cls := "FurrowTalkModel", name := "behind", desc := "(I)I" } : Jvm.MethodName)), (Jvm.Cond.instanceMethod ({ cls := "FurrowTalkModel", name := "behind", desc := "(I)I" } : Jvm.MethodName)), (Jvm.Cond.code ({ cls := "FurrowTalkModel", name := "behind", desc := "(I)I" } : Jvm.MethodName) prog_12_method_16_code (3 : Nat) (Option.some Jvm.ClassFile.FieldType.int)), (Jvm.Cond.methodLink "FurrowTalkModel" (62 : Nat) ({ cls := "FurrowTalkModel", name := "isSeen", desc := "(I)Z" } : Jvm.MethodName)), (Jvm.Cond.instanceMethod ({ cls := "FurrowTalkModel", name := "isSeen", desc := "(I)Z" } : Jvm.MethodName)), (Jvm.Cond.code ({ cls := "FurrowTalkModel", name := "isSeen", desc := "(I)Z" } : Jvm.MethodName) prog_12_method_15_code (2 : Nat) (Option.some Jvm.ClassFile.FieldType.boolean)), (Jvm.Cond.methodLink "FurrowTalkModel" (70 : Nat) ({ cls := "FurrowTalkModel", name := "doesAnswer", desc := "(II)Z" } : Jvm.MethodName)), (Jvm.Cond.instanceMethod ({ cls := "FurrowTalkModel", name := "doesAnswer", desc := "(II)Z" } : Jvm.MethodName)), (Jvm.Cond.code ({ cls := "FurrowTalkModel", name := "doesAnswer", desc := "(II)Z" } : Jvm.MethodName) prog_12_method_13_code (6 : Nat) (Option.some Jvm.ClassFile.FieldType.boolean)), (Jvm.Cond.methodLink "FurrowTalkLaw" (26 : Nat) ({ cls := "FurrowTalkModel", name := "become", desc := "(II)I" } : Jvm.MethodName)), (Jvm.Cond.instanceMethod ({ cls := "FurrowTalkModel", name := "become", desc := "(II)I" } : Jvm.MethodName)), (Jvm.Cond.selects "FurrowTalkModel" ({ cls := "FurrowTalkModel", name := "become", desc := "(II)I" } : Jvm.MethodName) ({ cls := "FurrowTalkModel", name := "become", desc := "(II)I" } : Jvm.MethodName)), (Jvm.Cond.code ({ cls := "FurrowTalkModel", name := "become", desc := "(II)I" } : Jvm.MethodName) prog_12_method_27_code (3 : Nat) (Option.some Jvm.ClassFile.FieldType.int)), (Jvm.Cond.methodLink "FurrowTalkModel" (111 : Nat) ({ cls := "FurrowTalkModel", name := "becomes", desc := "(II)I" } : Jvm.MethodName)), (Jvm.Cond.instanceMethod ({ cls := "FurrowTalkModel", name := "becomes", desc := "(II)I" } : Jvm.MethodName)), (Jvm.Cond.code ({ cls := "FurrowTalkModel", name := "becomes", desc := "(II)I" } : Jvm.MethodName) prog_12_method_10_code (4 : Nat) (Option.some Jvm.ClassFile.FieldType.int)), (Jvm.Cond.methodLink "FurrowTalkLaw" (30 : Nat) ({ cls := "FurrowTalkModel", name := "as", desc := "(II)I" } : Jvm.MethodName)), (Jvm.Cond.instanceMethod ({ cls := "FurrowTalkModel", name := "as", desc := "(II)I" } : Jvm.MethodName)), (Jvm.Cond.selects "FurrowTalkModel" ({ cls := "FurrowTalkModel", name := "as", desc := "(II)I" } : Jvm.MethodName) ({ cls := "FurrowTalkModel", name := "as", desc := "(II)I" } : Jvm.MethodName)), (Jvm.Cond.code ({ cls := "FurrowTalkModel", name := "as", desc := "(II)I" } : Jvm.MethodName) prog_12_method_28_code (5 : Nat) (Option.some Jvm.ClassFile.FieldType.int)), (Jvm.Cond.constant "FurrowTalkModel" (114 : Nat) (-1000000005 : Int32)), (Jvm.Cond.methodLink "FurrowTalkLaw" (34 : Nat) ({ cls := "FurrowTalkModel", name := "answers", desc := "(II)I" } : Jvm.MethodName)), (Jvm.Cond.instanceMethod ({ cls := "FurrowTalkModel", name := "answers", desc := "(II)I" } : Jvm.MethodName)), (Jvm.Cond.selects "FurrowTalkModel" ({ cls := "FurrowTalkModel", name := "answers", desc := "(II)I" } : Jvm.MethodName) ({ cls := "FurrowTalkModel", name := "answers", desc := "(II)I" } : Jvm.MethodName)), (Jvm.Cond.code ({ cls := "FurrowTalkModel", name := "answers", desc := "(II)I" } : Jvm.MethodName) prog_12_method_29_code (3 : Nat) (Option.some Jvm.ClassFile.FieldType.int)), (Jvm.Cond.methodLink "FurrowTalkLaw" (38 : Nat) ({ cls := "FurrowTalkModel", name := "cover", desc := "(II)I" } : Jvm.MethodName)), (Jvm.Cond.instanceMethod ({ cls := "FurrowTalkModel", name := "cover", desc := "(II)I" } : Jvm.MethodName)), (Jvm.Cond.selects "FurrowTalkModel" ({ cls := "FurrowTalkModel", name := "cover", desc := "(II)I" } : Jvm.MethodName) ({ cls := "FurrowTalkModel", name := "cover", desc := "(II)I" } : Jvm.MethodName)), (Jvm.Cond.code ({ cls := "FurrowTalkModel", name := "cover", desc := "(II)I" } : Jvm.MethodName) prog_12_method_30_code (3 : Nat) (Option.some Jvm.ClassFile.FieldType.int)), (Jvm.Cond.methodLink "FurrowTalkLaw" (42 : Nat) ({ cls := "FurrowTalkModel", name := "redraw", desc := "(II)I" } : Jvm.MethodName)), (Jvm.Cond.instanceMethod ({ cls := "FurrowTalkModel", name := "redraw", desc := "(II)I" } : Jvm.MethodName)), (Jvm.Cond.selects "FurrowTalkModel" ({ cls := "FurrowTalkModel", name := "redraw", desc := "(II)I" } : Jvm.MethodName) ({ cls := "FurrowTalkModel", name := "redraw", desc := "(II)I" } : Jvm.MethodName)), (Jvm.Cond.code ({ cls := "FurrowTalkModel", name := "redraw", desc := "(II)I" } : Jvm.MethodName) prog_12_method_31_code (4 : Nat) (Option.some Jvm.ClassFile.FieldType.int)), (Jvm.Cond.methodLink "FurrowTalkLaw" (47 : Nat) ({ cls := "FurrowTalkModel", name := "patience", desc := "(I)I" } : Jvm.MethodName)), (Jvm.Cond.instanceMethod ({ cls := "FurrowTalkModel", name := "patience", desc := "(I)I" } : Jvm.MethodName)), (Jvm.Cond.selects "FurrowTalkModel" ({ cls := "FurrowTalkModel", name := "patience", desc := "(I)I" } : Jvm.MethodName) ({ cls := "FurrowTalkModel", name := "patience", desc := "(I)I" } : Jvm.MethodName)), (Jvm.Cond.code ({ cls := "FurrowTalkModel", name := "patience", desc := "(I)I" } : Jvm.MethodName) prog_12_method_32_code (2 : Nat) (Option.some Jvm.ClassFile.FieldType.int)), (Jvm.Cond.methodLink "FurrowTalkLaw" (54 : Nat) ({ cls := "FurrowTalkModel", name := "feed", desc := "(JI)I" } : Jvm.MethodName)), (Jvm.Cond.instanceMethod ({ cls := "FurrowTalkModel", name := "feed", desc := "(JI)I" } : Jvm.MethodName)), (Jvm.Cond.selects "FurrowTalkModel" ({ cls := "FurrowTalkModel", name := "feed", desc := "(JI)I" } : Jvm.MethodName) ({ cls := "FurrowTalkModel", name := "feed", desc := "(JI)I" } : Jvm.MethodName)), (Jvm.Cond.code ({ cls := "FurrowTalkModel", name := "feed", desc := "(JI)I" } : Jvm.MethodName) prog_12_method_33_code (5 : Nat) (Option.some Jvm.ClassFile.FieldType.int)), (Jvm.Cond.constantLong "FurrowTalkModel" (115 : Nat) (255 : Int64)), (Jvm.Cond.methodLink "FurrowTalkLaw" (58 : Nat) ({ cls := "FurrowTalkModel", name := "text", desc := "(I)I" } : Jvm.MethodName)), (Jvm.Cond.instanceMethod ({ cls := "FurrowTalkModel", name := "text", desc := "(I)I" } : Jvm.MethodName)), (Jvm.Cond.selects "FurrowTalkModel" ({ cls := "FurrowTalkModel", name := "text", desc := "(I)I" } : Jvm.MethodName) ({ cls := "FurrowTalkModel", name := "text", desc := "(I)I" } : Jvm.MethodName)), (Jvm.Cond.code ({ cls := "FurrowTalkModel", name := "text", desc := "(I)I" } : Jvm.MethodName) prog_12_method_45_code (4 : Nat) (Option.some Jvm.ClassFile.FieldType.int)), (Jvm.Cond.methodLink "FurrowTalkModel" (145 : Nat) ({ cls := "FurrowTalkModel", name := "any", desc := "()V" } : Jvm.MethodName)), (Jvm.Cond.instanceMethod ({ cls := "FurrowTalkModel", name := "any", desc := "()V" } : Jvm.MethodName))]
set_option maxRecDepth 20000 in
theorem wA_in_8 : GoodIn lw_tbl wA_8 := by
  intro w hw
  have h := List.all_eq_true.mp (show wA_8.all goodWord = true by decide +kernel) w hw
  have e : wA_8 = ([925, 926, 927, 928, 929, 930, 931, 932, 933, 934, 935, 937, 938, 939, 940, 941, 943, 944, 945, 947, 948, 949, 950, 951, 952, 953, 955, 956, 957, 959, 960, 961, 963, 964, 965, 967, 968, 969, 971, 972, 973, 975, 976, 977, 978, 979, 980, 981, 982, 983, 985, 986, 987, 989, 990, 991, 993, 994, 995, 997, 998, 999, 1000, 1001, 1002, 1003, 1005, 1006, 1007, 1008, 1009, 1010, 1011, 1012, 1013, 1014, 1015, 1016, 1017, 1018, 1019, 1020, 1021, 1022, 1023, 1024, 1025, 1026, 1027, 1028, 1029, 1030, 1031, 1032, 1033, 1034, 1035, 1036, 1037, 1039] : List Nat).filterMap (fun i => lw_tbl[i]?) := by decide +kernel
  rw [e] at hw
  obtain ⟨i, -, hi⟩ := List.mem_filterMap.mp hw
  exact ⟨List.mem_of_getElem? hi, good_of_word h⟩
def wA_9 : List Cond := [(Jvm.Cond.code ({ cls := "FurrowTalkModel", name := "any", desc := "()V" } : Jvm.MethodName) prog_12_method_44_code (1 : Nat) (Option.none : Option Jvm.ClassFile.FieldType)), (Jvm.Cond.methodLink "FurrowTalkModel" (167 : Nat) ({ cls := "FurrowTalkModel", name := "all", desc := "()V" } : Jvm.MethodName)), (Jvm.Cond.instanceMethod ({ cls := "FurrowTalkModel", name := "all", desc := "()V" } : Jvm.MethodName)), (Jvm.Cond.code ({ cls := "FurrowTalkModel", name := "all", desc := "()V" } : Jvm.MethodName) prog_12_method_43_code (1 : Nat) (Option.none : Option Jvm.ClassFile.FieldType)), (Jvm.Cond.methodLink "FurrowTalkModel" (164 : Nat) ({ cls := "FurrowTalkModel", name := "compares", desc := "()V" } : Jvm.MethodName)), (Jvm.Cond.instanceMethod ({ cls := "FurrowTalkModel", name := "compares", desc := "()V" } : Jvm.MethodName)), (Jvm.Cond.code ({ cls := "FurrowTalkModel", name := "compares", desc := "()V" } : Jvm.MethodName) prog_12_method_42_code (2 : Nat) (Option.none : Option Jvm.ClassFile.FieldType)), (Jvm.Cond.methodLink "FurrowTalkModel" (161 : Nat) ({ cls := "FurrowTalkModel", name := "sum", desc := "()V" } : Jvm.MethodName)), (Jvm.Cond.instanceMethod ({ cls := "FurrowTalkModel", name := "sum", desc := "()V" } : Jvm.MethodName)), (Jvm.Cond.code ({ cls := "FurrowTalkModel", name := "sum", desc := "()V" } : Jvm.MethodName) prog_12_method_41_code (2 : Nat) (Option.none : Option Jvm.ClassFile.FieldType)), (Jvm.Cond.methodLink "FurrowTalkModel" (158 : Nat) ({ cls := "FurrowTalkModel", name := "times", desc := "()V" } : Jvm.MethodName)), (Jvm.Cond.instanceMethod ({ cls := "FurrowTalkModel", name := "times", desc := "()V" } : Jvm.MethodName)), (Jvm.Cond.code ({ cls := "FurrowTalkModel", name := "times", desc := "()V" } : Jvm.MethodName) prog_12_method_40_code (2 : Nat) (Option.none : Option Jvm.ClassFile.FieldType)), (Jvm.Cond.methodLink "FurrowTalkModel" (142 : Nat) ({ cls := "FurrowTalkModel", name := "one", desc := "()V" } : Jvm.MethodName)), (Jvm.Cond.instanceMethod ({ cls := "FurrowTalkModel", name := "one", desc := "()V" } : Jvm.MethodName)), (Jvm.Cond.code ({ cls := "FurrowTalkModel", name := "one", desc := "()V" } : Jvm.MethodName) prog_12_method_39_code (3 : Nat) (Option.none : Option Jvm.ClassFile.FieldType)), (Jvm.Cond.methodLink "FurrowTalkModel" (127 : Nat) ({ cls := "FurrowTalkModel", name := "look", desc := "()I" } : Jvm.MethodName)), (Jvm.Cond.instanceMethod ({ cls := "FurrowTalkModel", name := "look", desc := "()I" } : Jvm.MethodName)), (Jvm.Cond.code ({ cls := "FurrowTalkModel", name := "look", desc := "()I" } : Jvm.MethodName) prog_12_method_34_code (1 : Nat) (Option.some Jvm.ClassFile.FieldType.int)), (Jvm.Cond.methodLink "FurrowTalkModel" (148 : Nat) ({ cls := "FurrowTalkModel", name := "nameOf", desc := "(I)I" } : Jvm.MethodName)), (Jvm.Cond.instanceMethod ({ cls := "FurrowTalkModel", name := "nameOf", desc := "(I)I" } : Jvm.MethodName)), (Jvm.Cond.code ({ cls := "FurrowTalkModel", name := "nameOf", desc := "(I)I" } : Jvm.MethodName) prog_12_method_36_code (2 : Nat) (Option.some Jvm.ClassFile.FieldType.int)), (Jvm.Cond.methodLink "FurrowTalkModel" (135 : Nat) ({ cls := "FurrowTalkModel", name := "step", desc := "(II)V" } : Jvm.MethodName)), (Jvm.Cond.instanceMethod ({ cls := "FurrowTalkModel", name := "step", desc := "(II)V" } : Jvm.MethodName)), (Jvm.Cond.code ({ cls := "FurrowTalkModel", name := "step", desc := "(II)V" } : Jvm.MethodName) prog_12_method_35_code (3 : Nat) (Option.none : Option Jvm.ClassFile.FieldType)), (Jvm.Cond.methodLink "FurrowTalkModel" (151 : Nat) ({ cls := "FurrowTalkModel", name := "opens", desc := "(I)V" } : Jvm.MethodName)), (Jvm.Cond.instanceMethod ({ cls := "FurrowTalkModel", name := "opens", desc := "(I)V" } : Jvm.MethodName)), (Jvm.Cond.code ({ cls := "FurrowTalkModel", name := "opens", desc := "(I)V" } : Jvm.MethodName) prog_12_method_38_code (2 : Nat) (Option.none : Option Jvm.ClassFile.FieldType)), (Jvm.Cond.methodLink "FurrowTalkModel" (155 : Nat) ({ cls := "FurrowTalkModel", name := "number", desc := "()V" } : Jvm.MethodName)), (Jvm.Cond.instanceMethod ({ cls := "FurrowTalkModel", name := "number", desc := "()V" } : Jvm.MethodName)), (Jvm.Cond.code ({ cls := "FurrowTalkModel", name := "number", desc := "()V" } : Jvm.MethodName) prog_12_method_37_code (3 : Nat) (Option.none : Option Jvm.ClassFile.FieldType)), (Jvm.Cond.methodLink "FurrowTalkLaw" (62 : Nat) ({ cls := "FurrowTalkModel", name := "untell", desc := "(I)I" } : Jvm.MethodName)), (Jvm.Cond.instanceMethod ({ cls := "FurrowTalkModel", name := "untell", desc := "(I)I" } : Jvm.MethodName)), (Jvm.Cond.selects "FurrowTalkModel" ({ cls := "FurrowTalkModel", name := "untell", desc := "(I)I" } : Jvm.MethodName) ({ cls := "FurrowTalkModel", name := "untell", desc := "(I)I" } : Jvm.MethodName)), (Jvm.Cond.code ({ cls := "FurrowTalkModel", name := "untell", desc := "(I)I" } : Jvm.MethodName) prog_12_method_46_code (2 : Nat) (Option.some Jvm.ClassFile.FieldType.int)), (Jvm.Cond.methodLink "FurrowTalkLaw" (67 : Nat) ({ cls := "FurrowTalkModel", name := "law", desc := "(IIII)I" } : Jvm.MethodName)), (Jvm.Cond.instanceMethod ({ cls := "FurrowTalkModel", name := "law", desc := "(IIII)I" } : Jvm.MethodName)), (Jvm.Cond.selects "FurrowTalkModel" ({ cls := "FurrowTalkModel", name := "law", desc := "(IIII)I" } : Jvm.MethodName) ({ cls := "FurrowTalkModel", name := "law", desc := "(IIII)I" } : Jvm.MethodName)), (Jvm.Cond.code ({ cls := "FurrowTalkModel", name := "law", desc := "(IIII)I" } : Jvm.MethodName) prog_12_method_50_code (5 : Nat) (Option.some Jvm.ClassFile.FieldType.int)), (Jvm.Cond.methodLink "FurrowTalkLaw" (71 : Nat) ({ cls := "FurrowTalkModel", name := "years", desc := "(I)I" } : Jvm.MethodName)), (Jvm.Cond.instanceMethod ({ cls := "FurrowTalkModel", name := "years", desc := "(I)I" } : Jvm.MethodName)), (Jvm.Cond.selects "FurrowTalkModel" ({ cls := "FurrowTalkModel", name := "years", desc := "(I)I" } : Jvm.MethodName) ({ cls := "FurrowTalkModel", name := "years", desc := "(I)I" } : Jvm.MethodName)), (Jvm.Cond.code ({ cls := "FurrowTalkModel", name := "years", desc := "(I)I" } : Jvm.MethodName) prog_12_method_52_code (3 : Nat) (Option.some Jvm.ClassFile.FieldType.int)), (Jvm.Cond.constant "FurrowTalkModel" (180 : Nat) (-1000000003 : Int32)), (Jvm.Cond.methodLink "FurrowTalkModel" (181 : Nat) ({ cls := "FurrowTalkModel", name := "goes", desc := "()V" } : Jvm.MethodName)), (Jvm.Cond.instanceMethod ({ cls := "FurrowTalkModel", name := "goes", desc := "()V" } : Jvm.MethodName)), (Jvm.Cond.code ({ cls := "FurrowTalkModel", name := "goes", desc := "()V" } : Jvm.MethodName) prog_12_method_51_code (3 : Nat) (Option.none : Option Jvm.ClassFile.FieldType)), (Jvm.Cond.methodLink "FurrowTalkModel" (184 : Nat) ({ cls := "FurrowTalkModel", name := "seen", desc := "()I" } : Jvm.MethodName)), (Jvm.Cond.instanceMethod ({ cls := "FurrowTalkModel", name := "seen", desc := "()I" } : Jvm.MethodName)), (Jvm.Cond.code ({ cls := "FurrowTalkModel", name := "seen", desc := "()I" } : Jvm.MethodName) prog_12_method_20_code (3 : Nat) (Option.some Jvm.ClassFile.FieldType.int)), (Jvm.Cond.methodLink "FurrowTalkModel" (187 : Nat) ({ cls := "FurrowTalkModel", name := "bits", desc := "(I)I" } : Jvm.MethodName)), (Jvm.Cond.static ({ cls := "FurrowTalkModel", name := "bits", desc := "(I)I" } : Jvm.MethodName)), (Jvm.Cond.code ({ cls := "FurrowTalkModel", name := "bits", desc := "(I)I" } : Jvm.MethodName) prog_12_method_8_code (3 : Nat) (Option.some Jvm.ClassFile.FieldType.int)), (Jvm.Cond.methodLink "FurrowTalkLaw" (75 : Nat) ({ cls := "FurrowTalkModel", name := "loose", desc := "(I)I" } : Jvm.MethodName)), (Jvm.Cond.instanceMethod ({ cls := "FurrowTalkModel", name := "loose", desc := "(I)I" } : Jvm.MethodName)), (Jvm.Cond.selects "FurrowTalkModel" ({ cls := "FurrowTalkModel", name := "loose", desc := "(I)I" } : Jvm.MethodName) ({ cls := "FurrowTalkModel", name := "loose", desc := "(I)I" } : Jvm.MethodName)), (Jvm.Cond.code ({ cls := "FurrowTalkModel", name := "loose", desc := "(I)I" } : Jvm.MethodName) prog_12_method_54_code (6 : Nat) (Option.some Jvm.ClassFile.FieldType.int)), (Jvm.Cond.methodLink "FurrowTalkModel" (191 : Nat) ({ cls := "FurrowTalkModel", name := "draw", desc := "()I" } : Jvm.MethodName)), (Jvm.Cond.instanceMethod ({ cls := "FurrowTalkModel", name := "draw", desc := "()I" } : Jvm.MethodName)), (Jvm.Cond.code ({ cls := "FurrowTalkModel", name := "draw", desc := "()I" } : Jvm.MethodName) prog_12_method_53_code (1 : Nat) (Option.some Jvm.ClassFile.FieldType.int)), (Jvm.Cond.constant "FurrowTalkModel" (190 : Nat) (1103515245 : Int32)), (Jvm.Cond.methodLink "FurrowTalkLaw" (79 : Nat) ({ cls := "FurrowTalkModel", name := "seed", desc := "(I)I" } : Jvm.MethodName)), (Jvm.Cond.instanceMethod ({ cls := "FurrowTalkModel", name := "seed", desc := "(I)I" } : Jvm.MethodName)), (Jvm.Cond.selects "FurrowTalkModel" ({ cls := "FurrowTalkModel", name := "seed", desc := "(I)I" } : Jvm.MethodName) ({ cls := "FurrowTalkModel", name := "seed", desc := "(I)I" } : Jvm.MethodName)), (Jvm.Cond.code ({ cls := "FurrowTalkModel", name := "seed", desc := "(I)I" } : Jvm.MethodName) prog_12_method_55_code (2 : Nat) (Option.some Jvm.ClassFile.FieldType.int)), (Jvm.Cond.methodLink "FurrowTalkLaw" (83 : Nat) ({ cls := "FurrowTalkModel", name := "talk", desc := "(I)I" } : Jvm.MethodName)), (Jvm.Cond.instanceMethod ({ cls := "FurrowTalkModel", name := "talk", desc := "(I)I" } : Jvm.MethodName)), (Jvm.Cond.selects "FurrowTalkModel" ({ cls := "FurrowTalkModel", name := "talk", desc := "(I)I" } : Jvm.MethodName) ({ cls := "FurrowTalkModel", name := "talk", desc := "(I)I" } : Jvm.MethodName)), (Jvm.Cond.code ({ cls := "FurrowTalkModel", name := "talk", desc := "(I)I" } : Jvm.MethodName) prog_12_method_58_code (2 : Nat) (Option.some Jvm.ClassFile.FieldType.int)), (Jvm.Cond.methodLink "FurrowTalkModel" (197 : Nat) ({ cls := "FurrowTalkModel", name := "longestTalk", desc := "()I" } : Jvm.MethodName)), (Jvm.Cond.instanceMethod ({ cls := "FurrowTalkModel", name := "longestTalk", desc := "()I" } : Jvm.MethodName)), (Jvm.Cond.code ({ cls := "FurrowTalkModel", name := "longestTalk", desc := "()I" } : Jvm.MethodName) prog_12_method_56_code (4 : Nat) (Option.some Jvm.ClassFile.FieldType.int)), (Jvm.Cond.methodLink "FurrowTalkModel" (194 : Nat) ({ cls := "FurrowTalkModel", name := "isAnswer", desc := "(I)Z" } : Jvm.MethodName)), (Jvm.Cond.instanceMethod ({ cls := "FurrowTalkModel", name := "isAnswer", desc := "(I)Z" } : Jvm.MethodName)), (Jvm.Cond.code ({ cls := "FurrowTalkModel", name := "isAnswer", desc := "(I)Z" } : Jvm.MethodName) prog_12_method_19_code (3 : Nat) (Option.some Jvm.ClassFile.FieldType.boolean)), (Jvm.Cond.methodLink "FurrowTalkModel" (74 : Nat) ({ cls := "FurrowTalkModel", name := "ahead", desc := "(I)I" } : Jvm.MethodName)), (Jvm.Cond.instanceMethod ({ cls := "FurrowTalkModel", name := "ahead", desc := "(I)I" } : Jvm.MethodName)), (Jvm.Cond.code ({ cls := "FurrowTalkModel", name := "ahead", desc := "(I)I" } : Jvm.MethodName) prog_12_method_17_code (3 : Nat) (Option.some Jvm.ClassFile.FieldType.int)), (Jvm.Cond.methodLink "FurrowTalkModel" (200 : Nat) ({ cls := "FurrowTalkModel", name := "answersSeen", desc := "()I" } : Jvm.MethodName)), (Jvm.Cond.instanceMethod ({ cls := "FurrowTalkModel", name := "answersSeen", desc := "()I" } : Jvm.MethodName)), (Jvm.Cond.code ({ cls := "FurrowTalkModel", name := "answersSeen", desc := "()I" } : Jvm.MethodName) prog_12_method_57_code (3 : Nat) (Option.some Jvm.ClassFile.FieldType.int)), (Jvm.Cond.methodLink "FurrowTalkLaw" (87 : Nat) ({ cls := "FurrowTalkModel", name := "meaning", desc := "(I)I" } : Jvm.MethodName)), (Jvm.Cond.instanceMethod ({ cls := "FurrowTalkModel", name := "meaning", desc := "(I)I" } : Jvm.MethodName)), (Jvm.Cond.selects "FurrowTalkModel" ({ cls := "FurrowTalkModel", name := "meaning", desc := "(I)I" } : Jvm.MethodName) ({ cls := "FurrowTalkModel", name := "meaning", desc := "(I)I" } : Jvm.MethodName)), (Jvm.Cond.code ({ cls := "FurrowTalkModel", name := "meaning", desc := "(I)I" } : Jvm.MethodName) prog_12_method_59_code (5 : Nat) (Option.some Jvm.ClassFile.FieldType.int)), (Jvm.Cond.methodLink "FurrowTalkLaw" (91 : Nat) ({ cls := "FurrowTalkModel", name := "then", desc := "(II)I" } : Jvm.MethodName)), (Jvm.Cond.instanceMethod ({ cls := "FurrowTalkModel", name := "then", desc := "(II)I" } : Jvm.MethodName)), (Jvm.Cond.selects "FurrowTalkModel" ({ cls := "FurrowTalkModel", name := "then", desc := "(II)I" } : Jvm.MethodName) ({ cls := "FurrowTalkModel", name := "then", desc := "(II)I" } : Jvm.MethodName)), (Jvm.Cond.code ({ cls := "FurrowTalkModel", name := "then", desc := "(II)I" } : Jvm.MethodName) prog_12_method_60_code (4 : Nat) (Option.some Jvm.ClassFile.FieldType.int)), (Jvm.Cond.methodLink "FurrowTalkModel" (203 : Nat) ({ cls := "FurrowTalkModel", name := "thinks", desc := "()V" } : Jvm.MethodName)), (Jvm.Cond.instanceMethod ({ cls := "FurrowTalkModel", name := "thinks", desc := "()V" } : Jvm.MethodName)), (Jvm.Cond.code ({ cls := "FurrowTalkModel", name := "thinks", desc := "()V" } : Jvm.MethodName) prog_12_method_6_code (1 : Nat) (Option.none : Option Jvm.ClassFile.FieldType)), (Jvm.Cond.methodLink "FurrowTalkModel" (50 : Nat) ({ cls := "FurrowTalkModel", name := "copyAll", desc := "([I[I)V" } : Jvm.MethodName)), (Jvm.Cond.static ({ cls := "FurrowTalkModel", name := "copyAll", desc := "([I[I)V" } : Jvm.MethodName)), (Jvm.Cond.code ({ cls := "FurrowTalkModel", name := "copyAll", desc := "([I[I)V" } : Jvm.MethodName) prog_12_method_5_code (3 : Nat) (Option.none : Option Jvm.ClassFile.FieldType)), (Jvm.Cond.methodLink "FurrowTalkModel" (206 : Nat) ({ cls := "FurrowTalkModel", name := "putsBack", desc := "()V" } : Jvm.MethodName)), (Jvm.Cond.instanceMethod ({ cls := "FurrowTalkModel", name := "putsBack", desc := "()V" } : Jvm.MethodName)), (Jvm.Cond.code ({ cls := "FurrowTalkModel", name := "putsBack", desc := "()V" } : Jvm.MethodName) prog_12_method_7_code (1 : Nat) (Option.none : Option Jvm.ClassFile.FieldType)), (Jvm.Cond.methodLink "FurrowTalkLaw" (95 : Nat) ({ cls := "FurrowTalkModel", name := "fewest", desc := "(I)I" } : Jvm.MethodName)), (Jvm.Cond.instanceMethod ({ cls := "FurrowTalkModel", name := "fewest", desc := "(I)I" } : Jvm.MethodName))]
set_option maxRecDepth 20000 in
theorem wA_in_9 : GoodIn lw_tbl wA_9 := by
  intro w hw
  have h := List.all_eq_true.mp (show wA_9.all goodWord = true by decide +kernel) w hw
  have e : wA_9 = ([1040, 1041, 1043, 1044, 1045, 1047, 1048, 1049, 1051, 1052, 1053, 1055, 1056, 1057, 1059, 1060, 1061, 1063, 1064, 1065, 1067, 1068, 1069, 1071, 1072, 1073, 1075, 1076, 1077, 1079, 1080, 1081, 1082, 1083, 1084, 1085, 1086, 1087, 1088, 1089, 1090, 1091, 1092, 1093, 1094, 1096, 1097, 1098, 1100, 1101, 1102, 1103, 1104, 1105, 1106, 1107, 1108, 1109, 1111, 1112, 1113, 1114, 1115, 1116, 1117, 1118, 1119, 1120, 1121, 1122, 1124, 1125, 1126, 1128, 1129, 1130, 1132, 1133, 1134, 1136, 1137, 1138, 1139, 1140, 1141, 1142, 1143, 1144, 1145, 1146, 1148, 1149, 1150, 1151, 1152, 1153, 1155, 1156, 1157, 1158] : List Nat).filterMap (fun i => lw_tbl[i]?) := by decide +kernel
  rw [e] at hw
  obtain ⟨i, -, hi⟩ := List.mem_filterMap.mp hw
  exact ⟨List.mem_of_getElem? hi, good_of_word h⟩
def wA_10 : List Cond := [(Jvm.Cond.selects "FurrowTalkModel" ({ cls := "FurrowTalkModel", name := "fewest", desc := "(I)I" } : Jvm.MethodName) ({ cls := "FurrowTalkModel", name := "fewest", desc := "(I)I" } : Jvm.MethodName)), (Jvm.Cond.code ({ cls := "FurrowTalkModel", name := "fewest", desc := "(I)I" } : Jvm.MethodName) prog_12_method_62_code (5 : Nat) (Option.some Jvm.ClassFile.FieldType.int)), (Jvm.Cond.methodLink "FurrowTalkModel" (209 : Nat) ({ cls := "FurrowTalkModel", name := "isTalk", desc := "(I)Z" } : Jvm.MethodName)), (Jvm.Cond.instanceMethod ({ cls := "FurrowTalkModel", name := "isTalk", desc := "(I)Z" } : Jvm.MethodName)), (Jvm.Cond.code ({ cls := "FurrowTalkModel", name := "isTalk", desc := "(I)Z" } : Jvm.MethodName) prog_12_method_61_code (5 : Nat) (Option.some Jvm.ClassFile.FieldType.boolean)), (Jvm.Cond.methodLink "FurrowTalkLaw" (99 : Nat) ({ cls := "FurrowTalkModel", name := "reply", desc := "(II)I" } : Jvm.MethodName)), (Jvm.Cond.instanceMethod ({ cls := "FurrowTalkModel", name := "reply", desc := "(II)I" } : Jvm.MethodName)), (Jvm.Cond.selects "FurrowTalkModel" ({ cls := "FurrowTalkModel", name := "reply", desc := "(II)I" } : Jvm.MethodName) ({ cls := "FurrowTalkModel", name := "reply", desc := "(II)I" } : Jvm.MethodName)), (Jvm.Cond.code ({ cls := "FurrowTalkModel", name := "reply", desc := "(II)I" } : Jvm.MethodName) prog_12_method_66_code (7 : Nat) (Option.some Jvm.ClassFile.FieldType.int)), (Jvm.Cond.methodLink "FurrowTalkModel" (215 : Nat) ({ cls := "FurrowTalkModel", name := "lastSeen", desc := "()I" } : Jvm.MethodName)), (Jvm.Cond.instanceMethod ({ cls := "FurrowTalkModel", name := "lastSeen", desc := "()I" } : Jvm.MethodName)), (Jvm.Cond.code ({ cls := "FurrowTalkModel", name := "lastSeen", desc := "()I" } : Jvm.MethodName) prog_12_method_65_code (1 : Nat) (Option.some Jvm.ClassFile.FieldType.int)), (Jvm.Cond.methodLink "FurrowTalkModel" (218 : Nat) ({ cls := "FurrowTalkModel", name := "findCosts", desc := "(I)V" } : Jvm.MethodName)), (Jvm.Cond.instanceMethod ({ cls := "FurrowTalkModel", name := "findCosts", desc := "(I)V" } : Jvm.MethodName)), (Jvm.Cond.code ({ cls := "FurrowTalkModel", name := "findCosts", desc := "(I)V" } : Jvm.MethodName) prog_12_method_64_code (6 : Nat) (Option.none : Option Jvm.ClassFile.FieldType)), (Jvm.Cond.methodLink "FurrowTalkModel" (212 : Nat) ({ cls := "FurrowTalkModel", name := "stepCost", desc := "(II)I" } : Jvm.MethodName)), (Jvm.Cond.instanceMethod ({ cls := "FurrowTalkModel", name := "stepCost", desc := "(II)I" } : Jvm.MethodName)), (Jvm.Cond.code ({ cls := "FurrowTalkModel", name := "stepCost", desc := "(II)I" } : Jvm.MethodName) prog_12_method_63_code (6 : Nat) (Option.some Jvm.ClassFile.FieldType.int)), (Jvm.Cond.methodLink "FurrowTalkLaw" (103 : Nat) ({ cls := "FurrowTalkModel", name := "odds", desc := "(III)I" } : Jvm.MethodName)), (Jvm.Cond.instanceMethod ({ cls := "FurrowTalkModel", name := "odds", desc := "(III)I" } : Jvm.MethodName)), (Jvm.Cond.selects "FurrowTalkModel" ({ cls := "FurrowTalkModel", name := "odds", desc := "(III)I" } : Jvm.MethodName) ({ cls := "FurrowTalkModel", name := "odds", desc := "(III)I" } : Jvm.MethodName)), (Jvm.Cond.code ({ cls := "FurrowTalkModel", name := "odds", desc := "(III)I" } : Jvm.MethodName) prog_12_method_67_code (8 : Nat) (Option.some Jvm.ClassFile.FieldType.int)), (Jvm.Cond.methodLink "FurrowTalkLaw" (107 : Nat) ({ cls := "FurrowTalkModel", name := "fits", desc := "(I)I" } : Jvm.MethodName)), (Jvm.Cond.instanceMethod ({ cls := "FurrowTalkModel", name := "fits", desc := "(I)I" } : Jvm.MethodName)), (Jvm.Cond.selects "FurrowTalkModel" ({ cls := "FurrowTalkModel", name := "fits", desc := "(I)I" } : Jvm.MethodName) ({ cls := "FurrowTalkModel", name := "fits", desc := "(I)I" } : Jvm.MethodName)), (Jvm.Cond.code ({ cls := "FurrowTalkModel", name := "fits", desc := "(I)I" } : Jvm.MethodName) prog_12_method_69_code (4 : Nat) (Option.some Jvm.ClassFile.FieldType.int)), (Jvm.Cond.methodLink "FurrowTalkModel" (221 : Nat) ({ cls := "FurrowTalkModel", name := "notThere", desc := "(I)I" } : Jvm.MethodName)), (Jvm.Cond.instanceMethod ({ cls := "FurrowTalkModel", name := "notThere", desc := "(I)I" } : Jvm.MethodName)), (Jvm.Cond.code ({ cls := "FurrowTalkModel", name := "notThere", desc := "(I)I" } : Jvm.MethodName) prog_12_method_85_code (2 : Nat) (Option.some Jvm.ClassFile.FieldType.int)), (Jvm.Cond.methodLink "FurrowTalkModel" (268 : Nat) ({ cls := "FurrowTalkModel", name := "isSheet", desc := "(I)Z" } : Jvm.MethodName)), (Jvm.Cond.static ({ cls := "FurrowTalkModel", name := "isSheet", desc := "(I)Z" } : Jvm.MethodName)), (Jvm.Cond.code ({ cls := "FurrowTalkModel", name := "isSheet", desc := "(I)Z" } : Jvm.MethodName) prog_12_method_83_code (1 : Nat) (Option.some Jvm.ClassFile.FieldType.boolean)), (Jvm.Cond.constant "FurrowTalkModel" (227 : Nat) (-1000000002 : Int32)), (Jvm.Cond.methodLink "FurrowTalkModel" (224 : Nat) ({ cls := "FurrowTalkModel", name := "isSo", desc := "(I)Z" } : Jvm.MethodName)), (Jvm.Cond.instanceMethod ({ cls := "FurrowTalkModel", name := "isSo", desc := "(I)Z" } : Jvm.MethodName)), (Jvm.Cond.code ({ cls := "FurrowTalkModel", name := "isSo", desc := "(I)Z" } : Jvm.MethodName) prog_12_method_68_code (5 : Nat) (Option.some Jvm.ClassFile.FieldType.boolean)), (Jvm.Cond.methodLink "FurrowTalkLaw" (111 : Nat) ({ cls := "FurrowTalkModel", name := "voice", desc := "(III)I" } : Jvm.MethodName)), (Jvm.Cond.instanceMethod ({ cls := "FurrowTalkModel", name := "voice", desc := "(III)I" } : Jvm.MethodName)), (Jvm.Cond.selects "FurrowTalkModel" ({ cls := "FurrowTalkModel", name := "voice", desc := "(III)I" } : Jvm.MethodName) ({ cls := "FurrowTalkModel", name := "voice", desc := "(III)I" } : Jvm.MethodName)), (Jvm.Cond.code ({ cls := "FurrowTalkModel", name := "voice", desc := "(III)I" } : Jvm.MethodName) prog_12_method_81_code (5 : Nat) (Option.some Jvm.ClassFile.FieldType.int)), (Jvm.Cond.methodLink "FurrowTalkModel" (240 : Nat) ({ cls := "FurrowTalkModel", name := "says", desc := "(II)I" } : Jvm.MethodName)), (Jvm.Cond.instanceMethod ({ cls := "FurrowTalkModel", name := "says", desc := "(II)I" } : Jvm.MethodName)), (Jvm.Cond.code ({ cls := "FurrowTalkModel", name := "says", desc := "(II)I" } : Jvm.MethodName) prog_12_method_73_code (3 : Nat) (Option.some Jvm.ClassFile.FieldType.int)), (Jvm.Cond.methodLink "FurrowTalkModel" (237 : Nat) ({ cls := "FurrowTalkModel", name := "oathSays", desc := "(II)I" } : Jvm.MethodName)), (Jvm.Cond.instanceMethod ({ cls := "FurrowTalkModel", name := "oathSays", desc := "(II)I" } : Jvm.MethodName)), (Jvm.Cond.code ({ cls := "FurrowTalkModel", name := "oathSays", desc := "(II)I" } : Jvm.MethodName) prog_12_method_72_code (3 : Nat) (Option.some Jvm.ClassFile.FieldType.int)), (Jvm.Cond.methodLink "FurrowTalkModel" (231 : Nat) ({ cls := "FurrowTalkModel", name := "begins", desc := "(I)V" } : Jvm.MethodName)), (Jvm.Cond.instanceMethod ({ cls := "FurrowTalkModel", name := "begins", desc := "(I)V" } : Jvm.MethodName)), (Jvm.Cond.code ({ cls := "FurrowTalkModel", name := "begins", desc := "(I)V" } : Jvm.MethodName) prog_12_method_70_code (2 : Nat) (Option.none : Option Jvm.ClassFile.FieldType)), (Jvm.Cond.methodLink "FurrowTalkModel" (234 : Nat) ({ cls := "FurrowTalkModel", name := "plainSays", desc := "(II)I" } : Jvm.MethodName)), (Jvm.Cond.instanceMethod ({ cls := "FurrowTalkModel", name := "plainSays", desc := "(II)I" } : Jvm.MethodName)), (Jvm.Cond.code ({ cls := "FurrowTalkModel", name := "plainSays", desc := "(II)I" } : Jvm.MethodName) prog_12_method_71_code (3 : Nat) (Option.some Jvm.ClassFile.FieldType.int)), (Jvm.Cond.methodLink "FurrowTalkModel" (249 : Nat) ({ cls := "FurrowTalkModel", name := "asks", desc := "(II)I" } : Jvm.MethodName)), (Jvm.Cond.instanceMethod ({ cls := "FurrowTalkModel", name := "asks", desc := "(II)I" } : Jvm.MethodName)), (Jvm.Cond.code ({ cls := "FurrowTalkModel", name := "asks", desc := "(II)I" } : Jvm.MethodName) prog_12_method_76_code (3 : Nat) (Option.some Jvm.ClassFile.FieldType.int)), (Jvm.Cond.methodLink "FurrowTalkModel" (246 : Nat) ({ cls := "FurrowTalkModel", name := "roundAsks", desc := "(II)I" } : Jvm.MethodName)), (Jvm.Cond.instanceMethod ({ cls := "FurrowTalkModel", name := "roundAsks", desc := "(II)I" } : Jvm.MethodName)), (Jvm.Cond.code ({ cls := "FurrowTalkModel", name := "roundAsks", desc := "(II)I" } : Jvm.MethodName) prog_12_method_75_code (3 : Nat) (Option.some Jvm.ClassFile.FieldType.int)), (Jvm.Cond.methodLink "FurrowTalkModel" (243 : Nat) ({ cls := "FurrowTalkModel", name := "plainAsks", desc := "(II)I" } : Jvm.MethodName)), (Jvm.Cond.instanceMethod ({ cls := "FurrowTalkModel", name := "plainAsks", desc := "(II)I" } : Jvm.MethodName)), (Jvm.Cond.code ({ cls := "FurrowTalkModel", name := "plainAsks", desc := "(II)I" } : Jvm.MethodName) prog_12_method_74_code (3 : Nat) (Option.some Jvm.ClassFile.FieldType.int)), (Jvm.Cond.methodLink "FurrowTalkModel" (261 : Nat) ({ cls := "FurrowTalkModel", name := "hums", desc := "(II)I" } : Jvm.MethodName)), (Jvm.Cond.instanceMethod ({ cls := "FurrowTalkModel", name := "hums", desc := "(II)I" } : Jvm.MethodName)), (Jvm.Cond.code ({ cls := "FurrowTalkModel", name := "hums", desc := "(II)I" } : Jvm.MethodName) prog_12_method_78_code (3 : Nat) (Option.some Jvm.ClassFile.FieldType.int)), (Jvm.Cond.methodLink "FurrowTalkModel" (252 : Nat) ({ cls := "FurrowTalkModel", name := "plainHums", desc := "(II)I" } : Jvm.MethodName)), (Jvm.Cond.instanceMethod ({ cls := "FurrowTalkModel", name := "plainHums", desc := "(II)I" } : Jvm.MethodName)), (Jvm.Cond.code ({ cls := "FurrowTalkModel", name := "plainHums", desc := "(II)I" } : Jvm.MethodName) prog_12_method_77_code (3 : Nat) (Option.some Jvm.ClassFile.FieldType.int)), (Jvm.Cond.methodLink "FurrowTalkModel" (264 : Nat) ({ cls := "FurrowTalkModel", name := "parts", desc := "(II)I" } : Jvm.MethodName)), (Jvm.Cond.instanceMethod ({ cls := "FurrowTalkModel", name := "parts", desc := "(II)I" } : Jvm.MethodName)), (Jvm.Cond.code ({ cls := "FurrowTalkModel", name := "parts", desc := "(II)I" } : Jvm.MethodName) prog_12_method_80_code (4 : Nat) (Option.some Jvm.ClassFile.FieldType.int)), (Jvm.Cond.methodLink "FurrowTalkModel" (258 : Nat) ({ cls := "FurrowTalkModel", name := "plainParts", desc := "(II)I" } : Jvm.MethodName)), (Jvm.Cond.instanceMethod ({ cls := "FurrowTalkModel", name := "plainParts", desc := "(II)I" } : Jvm.MethodName)), (Jvm.Cond.code ({ cls := "FurrowTalkModel", name := "plainParts", desc := "(II)I" } : Jvm.MethodName) prog_12_method_79_code (4 : Nat) (Option.some Jvm.ClassFile.FieldType.int)), (Jvm.Cond.constant "FurrowTalkModel" (267 : Nat) (-1000000006 : Int32)), (Jvm.Cond.methodLink "FurrowTalkLaw" (115 : Nat) ({ cls := "FurrowTalkModel", name := "body", desc := "(I)I" } : Jvm.MethodName)), (Jvm.Cond.instanceMethod ({ cls := "FurrowTalkModel", name := "body", desc := "(I)I" } : Jvm.MethodName)), (Jvm.Cond.selects "FurrowTalkModel" ({ cls := "FurrowTalkModel", name := "body", desc := "(I)I" } : Jvm.MethodName) ({ cls := "FurrowTalkModel", name := "body", desc := "(I)I" } : Jvm.MethodName)), (Jvm.Cond.code ({ cls := "FurrowTalkModel", name := "body", desc := "(I)I" } : Jvm.MethodName) prog_12_method_82_code (2 : Nat) (Option.some Jvm.ClassFile.FieldType.int)), (Jvm.Cond.methodLink "FurrowTalkLaw" (119 : Nat) ({ cls := "FurrowTalkModel", name := "sheet", desc := "(III)I" } : Jvm.MethodName)), (Jvm.Cond.instanceMethod ({ cls := "FurrowTalkModel", name := "sheet", desc := "(III)I" } : Jvm.MethodName)), (Jvm.Cond.selects "FurrowTalkModel" ({ cls := "FurrowTalkModel", name := "sheet", desc := "(III)I" } : Jvm.MethodName) ({ cls := "FurrowTalkModel", name := "sheet", desc := "(III)I" } : Jvm.MethodName)), (Jvm.Cond.code ({ cls := "FurrowTalkModel", name := "sheet", desc := "(III)I" } : Jvm.MethodName) prog_12_method_84_code (5 : Nat) (Option.some Jvm.ClassFile.FieldType.int)), (Jvm.Cond.methodLink "FurrowTalkLaw" (123 : Nat) ({ cls := "FurrowTalkModel", name := "put", desc := "(III)I" } : Jvm.MethodName)), (Jvm.Cond.instanceMethod ({ cls := "FurrowTalkModel", name := "put", desc := "(III)I" } : Jvm.MethodName)), (Jvm.Cond.selects "FurrowTalkModel" ({ cls := "FurrowTalkModel", name := "put", desc := "(III)I" } : Jvm.MethodName) ({ cls := "FurrowTalkModel", name := "put", desc := "(III)I" } : Jvm.MethodName)), (Jvm.Cond.code ({ cls := "FurrowTalkModel", name := "put", desc := "(III)I" } : Jvm.MethodName) prog_12_method_86_code (5 : Nat) (Option.some Jvm.ClassFile.FieldType.int)), (Jvm.Cond.methodLink "FurrowTalkLaw" (128 : Nat) ({ cls := "FurrowTalkModel", name := "move", desc := "(IIIII)I" } : Jvm.MethodName)), (Jvm.Cond.instanceMethod ({ cls := "FurrowTalkModel", name := "move", desc := "(IIIII)I" } : Jvm.MethodName)), (Jvm.Cond.selects "FurrowTalkModel" ({ cls := "FurrowTalkModel", name := "move", desc := "(IIIII)I" } : Jvm.MethodName) ({ cls := "FurrowTalkModel", name := "move", desc := "(IIIII)I" } : Jvm.MethodName)), (Jvm.Cond.code ({ cls := "FurrowTalkModel", name := "move", desc := "(IIIII)I" } : Jvm.MethodName) prog_12_method_88_code (9 : Nat) (Option.some Jvm.ClassFile.FieldType.int)), (Jvm.Cond.methodLink "FurrowTalkModel" (271 : Nat) ({ cls := "FurrowTalkModel", name := "notMoved", desc := "(IIIII)I" } : Jvm.MethodName)), (Jvm.Cond.instanceMethod ({ cls := "FurrowTalkModel", name := "notMoved", desc := "(IIIII)I" } : Jvm.MethodName)), (Jvm.Cond.code ({ cls := "FurrowTalkModel", name := "notMoved", desc := "(IIIII)I" } : Jvm.MethodName) prog_12_method_87_code (7 : Nat) (Option.some Jvm.ClassFile.FieldType.int)), (Jvm.Cond.methodLink "FurrowTalkLaw" (132 : Nat) ({ cls := "FurrowTalkModel", name := "lines", desc := "(I)I" } : Jvm.MethodName)), (Jvm.Cond.instanceMethod ({ cls := "FurrowTalkModel", name := "lines", desc := "(I)I" } : Jvm.MethodName)), (Jvm.Cond.selects "FurrowTalkModel" ({ cls := "FurrowTalkModel", name := "lines", desc := "(I)I" } : Jvm.MethodName) ({ cls := "FurrowTalkModel", name := "lines", desc := "(I)I" } : Jvm.MethodName)), (Jvm.Cond.code ({ cls := "FurrowTalkModel", name := "lines", desc := "(I)I" } : Jvm.MethodName) prog_12_method_89_code (4 : Nat) (Option.some Jvm.ClassFile.FieldType.int)), (Jvm.Cond.methodLink "FurrowTalkLaw" (136 : Nat) ({ cls := "FurrowTalkModel", name := "judge", desc := "(I)I" } : Jvm.MethodName)), (Jvm.Cond.instanceMethod ({ cls := "FurrowTalkModel", name := "judge", desc := "(I)I" } : Jvm.MethodName)), (Jvm.Cond.selects "FurrowTalkModel" ({ cls := "FurrowTalkModel", name := "judge", desc := "(I)I" } : Jvm.MethodName) ({ cls := "FurrowTalkModel", name := "judge", desc := "(I)I" } : Jvm.MethodName))]
set_option maxRecDepth 20000 in
theorem wA_in_10 : GoodIn lw_tbl wA_10 := by
  intro w hw
  have h := List.all_eq_true.mp (show wA_10.all goodWord = true by decide +kernel) w hw
  have e : wA_10 = ([1159, 1160, 1161, 1163, 1164, 1165, 1166, 1167, 1168, 1169, 1171, 1172, 1173, 1175, 1176, 1177, 1179, 1180, 1181, 1182, 1183, 1184, 1185, 1186, 1187, 1188, 1189, 1191, 1192, 1193, 1194, 1195, 1196, 1197, 1199, 1200, 1201, 1202, 1203, 1204, 1205, 1207, 1208, 1209, 1211, 1212, 1213, 1215, 1216, 1217, 1219, 1220, 1221, 1223, 1224, 1225, 1227, 1228, 1229, 1231, 1232, 1233, 1235, 1236, 1237, 1239, 1240, 1241, 1243, 1244, 1245, 1247, 1248, 1249, 1250, 1251, 1252, 1253, 1254, 1255, 1256, 1257, 1258, 1259, 1260, 1261, 1262, 1263, 1264, 1265, 1266, 1268, 1269, 1270, 1271, 1272, 1273, 1274, 1275, 1276] : List Nat).filterMap (fun i => lw_tbl[i]?) := by decide +kernel
  rw [e] at hw
  obtain ⟨i, -, hi⟩ := List.mem_filterMap.mp hw
  exact ⟨List.mem_of_getElem? hi, good_of_word h⟩
def wA_11 : List Cond := [(Jvm.Cond.code ({ cls := "FurrowTalkModel", name := "judge", desc := "(I)I" } : Jvm.MethodName) prog_12_method_90_code (4 : Nat) (Option.some Jvm.ClassFile.FieldType.int)), (Jvm.Cond.methodLink "FurrowTalkLaw" (141 : Nat) ({ cls := "FurrowTalkModel", name := "image", desc := "()I" } : Jvm.MethodName)), (Jvm.Cond.instanceMethod ({ cls := "FurrowTalkModel", name := "image", desc := "()I" } : Jvm.MethodName)), (Jvm.Cond.selects "FurrowTalkModel" ({ cls := "FurrowTalkModel", name := "image", desc := "()I" } : Jvm.MethodName) ({ cls := "FurrowTalkModel", name := "image", desc := "()I" } : Jvm.MethodName)), (Jvm.Cond.code ({ cls := "FurrowTalkModel", name := "image", desc := "()I" } : Jvm.MethodName) prog_12_method_91_code (1 : Nat) (Option.some Jvm.ClassFile.FieldType.int)), (Jvm.Cond.methodLink "FurrowTalkLaw" (145 : Nat) ({ cls := "FurrowTalkModel", name := "restore", desc := "()I" } : Jvm.MethodName)), (Jvm.Cond.instanceMethod ({ cls := "FurrowTalkModel", name := "restore", desc := "()I" } : Jvm.MethodName)), (Jvm.Cond.selects "FurrowTalkModel" ({ cls := "FurrowTalkModel", name := "restore", desc := "()I" } : Jvm.MethodName) ({ cls := "FurrowTalkModel", name := "restore", desc := "()I" } : Jvm.MethodName)), (Jvm.Cond.code ({ cls := "FurrowTalkModel", name := "restore", desc := "()I" } : Jvm.MethodName) prog_12_method_92_code (1 : Nat) (Option.some Jvm.ClassFile.FieldType.int)), (Jvm.Cond.methodLink "FurrowTalkLaw" (149 : Nat) ({ cls := "FurrowTalkModel", name := "tell", desc := "(I)I" } : Jvm.MethodName)), (Jvm.Cond.instanceMethod ({ cls := "FurrowTalkModel", name := "tell", desc := "(I)I" } : Jvm.MethodName)), (Jvm.Cond.selects "FurrowTalkModel" ({ cls := "FurrowTalkModel", name := "tell", desc := "(I)I" } : Jvm.MethodName) ({ cls := "FurrowTalkModel", name := "tell", desc := "(I)I" } : Jvm.MethodName)), (Jvm.Cond.code ({ cls := "FurrowTalkModel", name := "tell", desc := "(I)I" } : Jvm.MethodName) prog_12_method_93_code (2 : Nat) (Option.some Jvm.ClassFile.FieldType.int)), (Jvm.Cond.methodLink "FurrowTalkLaw" (153 : Nat) ({ cls := "FurrowTalkModel", name := "check", desc := "()I" } : Jvm.MethodName)), (Jvm.Cond.instanceMethod ({ cls := "FurrowTalkModel", name := "check", desc := "()I" } : Jvm.MethodName)), (Jvm.Cond.selects "FurrowTalkModel" ({ cls := "FurrowTalkModel", name := "check", desc := "()I" } : Jvm.MethodName) ({ cls := "FurrowTalkModel", name := "check", desc := "()I" } : Jvm.MethodName)), (Jvm.Cond.code ({ cls := "FurrowTalkModel", name := "check", desc := "()I" } : Jvm.MethodName) prog_12_method_94_code (3 : Nat) (Option.some Jvm.ClassFile.FieldType.int)), (Jvm.Cond.methodLink "FurrowTalkLaw" (157 : Nat) ({ cls := "FurrowTalkModel", name := "count", desc := "(I)I" } : Jvm.MethodName)), (Jvm.Cond.instanceMethod ({ cls := "FurrowTalkModel", name := "count", desc := "(I)I" } : Jvm.MethodName)), (Jvm.Cond.selects "FurrowTalkModel" ({ cls := "FurrowTalkModel", name := "count", desc := "(I)I" } : Jvm.MethodName) ({ cls := "FurrowTalkModel", name := "count", desc := "(I)I" } : Jvm.MethodName)), (Jvm.Cond.code ({ cls := "FurrowTalkModel", name := "count", desc := "(I)I" } : Jvm.MethodName) prog_12_method_95_code (2 : Nat) (Option.some Jvm.ClassFile.FieldType.int)), (Jvm.Cond.methodLink "FurrowTalkLaw" (161 : Nat) ({ cls := "FurrowTalkModel", name := "told", desc := "(I)I" } : Jvm.MethodName)), (Jvm.Cond.instanceMethod ({ cls := "FurrowTalkModel", name := "told", desc := "(I)I" } : Jvm.MethodName)), (Jvm.Cond.selects "FurrowTalkModel" ({ cls := "FurrowTalkModel", name := "told", desc := "(I)I" } : Jvm.MethodName) ({ cls := "FurrowTalkModel", name := "told", desc := "(I)I" } : Jvm.MethodName)), (Jvm.Cond.code ({ cls := "FurrowTalkModel", name := "told", desc := "(I)I" } : Jvm.MethodName) prog_12_method_96_code (2 : Nat) (Option.some Jvm.ClassFile.FieldType.int)), (Jvm.Cond.constantLong "FurrowTalkLaw" (48 : Nat) (4294967295 : Int64)), (Jvm.Cond.arrayClass Jvm.ClassFile.FieldType.char)]
set_option maxRecDepth 20000 in
theorem wA_in_11 : GoodIn lw_tbl wA_11 := by
  intro w hw
  have h := List.all_eq_true.mp (show wA_11.all goodWord = true by decide +kernel) w hw
  have e : wA_11 = ([1277, 1278, 1279, 1280, 1281, 1282, 1283, 1284, 1285, 1286, 1287, 1288, 1289, 1290, 1291, 1292, 1293, 1294, 1295, 1296, 1297, 1298, 1299, 1300, 1301, 1302, 1303] : List Nat).filterMap (fun i => lw_tbl[i]?) := by decide +kernel
  rw [e] at hw
  obtain ⟨i, -, hi⟩ := List.mem_filterMap.mp hw
  exact ⟨List.mem_of_getElem? hi, good_of_word h⟩
def wA : List Cond := wA_0 ++ (wA_1 ++ (wA_2 ++ (wA_3 ++ (wA_4 ++ (wA_5 ++ (wA_6 ++ (wA_7 ++ (wA_8 ++ (wA_9 ++ (wA_10 ++ (wA_11)))))))))))
theorem goodIn_ap {big a b : List Cond} (ha : GoodIn big a) (hb : GoodIn big b) : GoodIn big (a ++ b) := fun w h => (List.mem_append.mp h).elim (ha w) (hb w)
theorem wA_in : GoodIn lw_tbl wA := goodIn_ap wA_in_0 (goodIn_ap wA_in_1 (goodIn_ap wA_in_2 (goodIn_ap wA_in_3 (goodIn_ap wA_in_4 (goodIn_ap wA_in_5 (goodIn_ap wA_in_6 (goodIn_ap wA_in_7 (goodIn_ap wA_in_8 (goodIn_ap wA_in_9 (goodIn_ap wA_in_10 (wA_in_11)))))))))))
end
section
-- decode rows: out of the printed text of this claim (NAMES), by wip/whole/mk02.py
theorem dX0_init_0 : decode cX0_init 0 = .ok (.aload_n 0, 1) := by decide +kernel
theorem dX0_init_1 : decode cX0_init 1 = .ok (.invokespecial 3, 3) := by decide +kernel
theorem dX0_init_4 : decode cX0_init 4 = .ok (.aload_n 0, 1) := by decide +kernel
theorem dX0_init_5 : decode cX0_init 5 = .ok (.bipush 12, 2) := by decide +kernel
theorem dX0_init_7 : decode cX0_init 7 = .ok (.newarray .int, 2) := by decide +kernel
theorem dX0_init_9 : decode cX0_init 9 = .ok (.putfield 9, 3) := by decide +kernel
theorem dX0_init_12 : decode cX0_init 12 = .ok (.return_, 1) := by decide +kernel
theorem dX0_bestSet_0 : decode cX0_bestSet 0 = .ok (.iconst 0, 1) := by decide +kernel
theorem dX0_bestSet_1 : decode cX0_bestSet 1 = .ok (.istore_n 2, 1) := by decide +kernel
theorem dX0_bestSet_2 : decode cX0_bestSet 2 = .ok (.iconst 0, 1) := by decide +kernel
theorem dX0_bestSet_3 : decode cX0_bestSet 3 = .ok (.istore_n 3, 1) := by decide +kernel
theorem dX0_bestSet_4 : decode cX0_bestSet 4 = .ok (.iload_n 3, 1) := by decide +kernel
theorem dX0_bestSet_5 : decode cX0_bestSet 5 = .ok (.aload_n 1, 1) := by decide +kernel
theorem dX0_bestSet_6 : decode cX0_bestSet 6 = .ok (.getfield 15, 3) := by decide +kernel
theorem dX0_bestSet_9 : decode cX0_bestSet 9 = .ok (.if_icmp .ge 52, 3) := by decide +kernel
theorem dX0_bestSet_12 : decode cX0_bestSet 12 = .ok (.aload_n 1, 1) := by decide +kernel
theorem dX0_bestSet_13 : decode cX0_bestSet 13 = .ok (.getfield 21, 3) := by decide +kernel
theorem dX0_bestSet_16 : decode cX0_bestSet 16 = .ok (.iload_n 3, 1) := by decide +kernel
theorem dX0_bestSet_17 : decode cX0_bestSet 17 = .ok (.aaload, 1) := by decide +kernel
theorem dX0_bestSet_18 : decode cX0_bestSet 18 = .ok (.getfield 25, 3) := by decide +kernel
theorem dX0_bestSet_21 : decode cX0_bestSet 21 = .ok (.ifCond .ne 34, 3) := by decide +kernel
theorem dX0_bestSet_24 : decode cX0_bestSet 24 = .ok (.aload_n 0, 1) := by decide +kernel
theorem dX0_bestSet_25 : decode cX0_bestSet 25 = .ok (.getfield 9, 3) := by decide +kernel
theorem dX0_bestSet_28 : decode cX0_bestSet 28 = .ok (.iload_n 3, 1) := by decide +kernel
theorem dX0_bestSet_29 : decode cX0_bestSet 29 = .ok (.aload_n 0, 1) := by decide +kernel
theorem dX0_bestSet_30 : decode cX0_bestSet 30 = .ok (.aload_n 1, 1) := by decide +kernel
theorem dX0_bestSet_31 : decode cX0_bestSet 31 = .ok (.iload_n 3, 1) := by decide +kernel
theorem dX0_bestSet_32 : decode cX0_bestSet 32 = .ok (.invokevirtual 31, 3) := by decide +kernel
theorem dX0_bestSet_35 : decode cX0_bestSet 35 = .ok (.sipush 4096, 3) := by decide +kernel
theorem dX0_bestSet_38 : decode cX0_bestSet 38 = .ok (.iadd, 1) := by decide +kernel
theorem dX0_bestSet_39 : decode cX0_bestSet 39 = .ok (.iconst 1, 1) := by decide +kernel
theorem dX0_bestSet_40 : decode cX0_bestSet 40 = .ok (.iload_n 3, 1) := by decide +kernel
theorem dX0_bestSet_41 : decode cX0_bestSet 41 = .ok (.ishl, 1) := by decide +kernel
theorem dX0_bestSet_42 : decode cX0_bestSet 42 = .ok (.iadd, 1) := by decide +kernel
theorem dX0_bestSet_43 : decode cX0_bestSet 43 = .ok (.iastore, 1) := by decide +kernel
theorem dX0_bestSet_44 : decode cX0_bestSet 44 = .ok (.iload_n 2, 1) := by decide +kernel
theorem dX0_bestSet_45 : decode cX0_bestSet 45 = .ok (.aload_n 0, 1) := by decide +kernel
theorem dX0_bestSet_46 : decode cX0_bestSet 46 = .ok (.getfield 9, 3) := by decide +kernel
theorem dX0_bestSet_49 : decode cX0_bestSet 49 = .ok (.iload_n 3, 1) := by decide +kernel
theorem dX0_bestSet_50 : decode cX0_bestSet 50 = .ok (.iaload, 1) := by decide +kernel
theorem dX0_bestSet_51 : decode cX0_bestSet 51 = .ok (.invokestatic 35, 3) := by decide +kernel
theorem dX0_bestSet_54 : decode cX0_bestSet 54 = .ok (.istore_n 2, 1) := by decide +kernel
theorem dX0_bestSet_55 : decode cX0_bestSet 55 = .ok (.iinc 3 1, 3) := by decide +kernel
theorem dX0_bestSet_58 : decode cX0_bestSet 58 = .ok (.goto (-54), 3) := by decide +kernel
theorem dX0_bestSet_61 : decode cX0_bestSet 61 = .ok (.iload_n 2, 1) := by decide +kernel
theorem dX0_bestSet_62 : decode cX0_bestSet 62 = .ok (.sipush 4095, 3) := by decide +kernel
theorem dX0_bestSet_65 : decode cX0_bestSet 65 = .ok (.iand, 1) := by decide +kernel
theorem dX0_bestSet_66 : decode cX0_bestSet 66 = .ok (.ireturn, 1) := by decide +kernel
theorem dX0_bestAhead_0 : decode cX0_bestAhead 0 = .ok (.iconst 0, 1) := by decide +kernel
theorem dX0_bestAhead_1 : decode cX0_bestAhead 1 = .ok (.istore_n 3, 1) := by decide +kernel
theorem dX0_bestAhead_2 : decode cX0_bestAhead 2 = .ok (.iconst 0, 1) := by decide +kernel
theorem dX0_bestAhead_3 : decode cX0_bestAhead 3 = .ok (.istore 4, 2) := by decide +kernel
theorem dX0_bestAhead_5 : decode cX0_bestAhead 5 = .ok (.iload 4, 2) := by decide +kernel
theorem dX0_bestAhead_7 : decode cX0_bestAhead 7 = .ok (.iload_n 2, 1) := by decide +kernel
theorem dX0_bestAhead_8 : decode cX0_bestAhead 8 = .ok (.if_icmp .ge 44, 3) := by decide +kernel
theorem dX0_bestAhead_11 : decode cX0_bestAhead 11 = .ok (.aload_n 1, 1) := by decide +kernel
theorem dX0_bestAhead_12 : decode cX0_bestAhead 12 = .ok (.getfield 21, 3) := by decide +kernel
theorem dX0_bestAhead_15 : decode cX0_bestAhead 15 = .ok (.iload 4, 2) := by decide +kernel
theorem dX0_bestAhead_17 : decode cX0_bestAhead 17 = .ok (.aaload, 1) := by decide +kernel
theorem dX0_bestAhead_18 : decode cX0_bestAhead 18 = .ok (.getfield 25, 3) := by decide +kernel
theorem dX0_bestAhead_21 : decode cX0_bestAhead 21 = .ok (.ifCond .ne 25, 3) := by decide +kernel
theorem dX0_bestAhead_24 : decode cX0_bestAhead 24 = .ok (.aload_n 1, 1) := by decide +kernel
theorem dX0_bestAhead_25 : decode cX0_bestAhead 25 = .ok (.iload_n 2, 1) := by decide +kernel
theorem dX0_bestAhead_26 : decode cX0_bestAhead 26 = .ok (.iload 4, 2) := by decide +kernel
theorem dX0_bestAhead_28 : decode cX0_bestAhead 28 = .ok (.invokevirtual 41, 3) := by decide +kernel
theorem dX0_bestAhead_31 : decode cX0_bestAhead 31 = .ok (.ifCond .eq 15, 3) := by decide +kernel
theorem dX0_bestAhead_34 : decode cX0_bestAhead 34 = .ok (.iload_n 3, 1) := by decide +kernel
theorem dX0_bestAhead_35 : decode cX0_bestAhead 35 = .ok (.aload_n 0, 1) := by decide +kernel
theorem dX0_bestAhead_36 : decode cX0_bestAhead 36 = .ok (.getfield 9, 3) := by decide +kernel
theorem dX0_bestAhead_39 : decode cX0_bestAhead 39 = .ok (.iload 4, 2) := by decide +kernel
theorem dX0_bestAhead_41 : decode cX0_bestAhead 41 = .ok (.iaload, 1) := by decide +kernel
theorem dX0_bestAhead_42 : decode cX0_bestAhead 42 = .ok (.invokestatic 35, 3) := by decide +kernel
theorem dX0_bestAhead_45 : decode cX0_bestAhead 45 = .ok (.istore_n 3, 1) := by decide +kernel
theorem dX0_bestAhead_46 : decode cX0_bestAhead 46 = .ok (.iinc 4 1, 3) := by decide +kernel
theorem dX0_bestAhead_49 : decode cX0_bestAhead 49 = .ok (.goto (-44), 3) := by decide +kernel
theorem dX0_bestAhead_52 : decode cX0_bestAhead 52 = .ok (.iload_n 3, 1) := by decide +kernel
theorem dX0_bestAhead_53 : decode cX0_bestAhead 53 = .ok (.ireturn, 1) := by decide +kernel
theorem dX1_init_0 : decode cX1_init 0 = .ok (.aload_n 0, 1) := by decide +kernel
theorem dX1_init_1 : decode cX1_init 1 = .ok (.invokespecial 3, 3) := by decide +kernel
theorem dX1_init_4 : decode cX1_init 4 = .ok (.aload_n 0, 1) := by decide +kernel
theorem dX1_init_5 : decode cX1_init 5 = .ok (.bipush 12, 2) := by decide +kernel
theorem dX1_init_7 : decode cX1_init 7 = .ok (.anewarray 9, 3) := by decide +kernel
theorem dX1_init_10 : decode cX1_init 10 = .ok (.putfield 11, 3) := by decide +kernel
theorem dX1_init_13 : decode cX1_init 13 = .ok (.aload_n 0, 1) := by decide +kernel
theorem dX1_init_14 : decode cX1_init 14 = .ok (.iconst 5, 1) := by decide +kernel
theorem dX1_init_15 : decode cX1_init 15 = .ok (.putfield 17, 3) := by decide +kernel
theorem dX1_init_18 : decode cX1_init 18 = .ok (.aload_n 0, 1) := by decide +kernel
theorem dX1_init_19 : decode cX1_init 19 = .ok (.iconst 1, 1) := by decide +kernel
theorem dX1_init_20 : decode cX1_init 20 = .ok (.putfield 21, 3) := by decide +kernel
theorem dX1_init_23 : decode cX1_init 23 = .ok (.iconst 0, 1) := by decide +kernel
theorem dX1_init_24 : decode cX1_init 24 = .ok (.istore_n 1, 1) := by decide +kernel
theorem dX1_init_25 : decode cX1_init 25 = .ok (.iload_n 1, 1) := by decide +kernel
theorem dX1_init_26 : decode cX1_init 26 = .ok (.bipush 12, 2) := by decide +kernel
theorem dX1_init_28 : decode cX1_init 28 = .ok (.if_icmp .ge 22, 3) := by decide +kernel
theorem dX1_init_31 : decode cX1_init 31 = .ok (.aload_n 0, 1) := by decide +kernel
theorem dX1_init_32 : decode cX1_init 32 = .ok (.getfield 11, 3) := by decide +kernel
theorem dX1_init_35 : decode cX1_init 35 = .ok (.iload_n 1, 1) := by decide +kernel
theorem dX1_init_36 : decode cX1_init 36 = .ok (.new 9, 3) := by decide +kernel
theorem dX1_init_39 : decode cX1_init 39 = .ok (.dup, 1) := by decide +kernel
theorem dX1_init_40 : decode cX1_init 40 = .ok (.invokespecial 24, 3) := by decide +kernel
theorem dX1_init_43 : decode cX1_init 43 = .ok (.aastore, 1) := by decide +kernel
theorem dX1_init_44 : decode cX1_init 44 = .ok (.iinc 1 1, 3) := by decide +kernel
theorem dX1_init_47 : decode cX1_init 47 = .ok (.goto (-22), 3) := by decide +kernel
theorem dX1_init_50 : decode cX1_init 50 = .ok (.return_, 1) := by decide +kernel
theorem dX1_add_0 : decode cX1_add 0 = .ok (.aload_n 0, 1) := by decide +kernel
theorem dX1_add_1 : decode cX1_add 1 = .ok (.getfield 11, 3) := by decide +kernel
theorem dX1_add_4 : decode cX1_add 4 = .ok (.aload_n 0, 1) := by decide +kernel
theorem dX1_add_5 : decode cX1_add 5 = .ok (.getfield 25, 3) := by decide +kernel
theorem dX1_add_8 : decode cX1_add 8 = .ok (.aaload, 1) := by decide +kernel
theorem dX1_add_9 : decode cX1_add 9 = .ok (.astore 4, 2) := by decide +kernel
theorem dX1_add_11 : decode cX1_add 11 = .ok (.aload 4, 2) := by decide +kernel
theorem dX1_add_13 : decode cX1_add 13 = .ok (.iload_n 1, 1) := by decide +kernel
theorem dX1_add_14 : decode cX1_add 14 = .ok (.invokevirtual 28, 3) := by decide +kernel
theorem dX1_add_17 : decode cX1_add 17 = .ok (.aload 4, 2) := by decide +kernel
theorem dX1_add_19 : decode cX1_add 19 = .ok (.iload_n 2, 1) := by decide +kernel
theorem dX1_add_20 : decode cX1_add 20 = .ok (.invokevirtual 32, 3) := by decide +kernel
theorem dX1_add_23 : decode cX1_add 23 = .ok (.aload 4, 2) := by decide +kernel
theorem dX1_add_25 : decode cX1_add 25 = .ok (.iload_n 3, 1) := by decide +kernel
theorem dX1_add_26 : decode cX1_add 26 = .ok (.putfield 35, 3) := by decide +kernel
theorem dX1_add_29 : decode cX1_add 29 = .ok (.aload 4, 2) := by decide +kernel
theorem dX1_add_31 : decode cX1_add 31 = .ok (.iconst 0, 1) := by decide +kernel
theorem dX1_add_32 : decode cX1_add 32 = .ok (.putfield 38, 3) := by decide +kernel
theorem dX1_add_35 : decode cX1_add 35 = .ok (.aload 4, 2) := by decide +kernel
theorem dX1_add_37 : decode cX1_add 37 = .ok (.iconst 0, 1) := by decide +kernel
theorem dX1_add_38 : decode cX1_add 38 = .ok (.putfield 41, 3) := by decide +kernel
theorem dX1_add_41 : decode cX1_add 41 = .ok (.aload_n 0, 1) := by decide +kernel
theorem dX1_add_42 : decode cX1_add 42 = .ok (.dup, 1) := by decide +kernel
theorem dX1_add_43 : decode cX1_add 43 = .ok (.getfield 25, 3) := by decide +kernel
theorem dX1_add_46 : decode cX1_add 46 = .ok (.iconst 1, 1) := by decide +kernel
theorem dX1_add_47 : decode cX1_add 47 = .ok (.iadd, 1) := by decide +kernel
theorem dX1_add_48 : decode cX1_add 48 = .ok (.putfield 25, 3) := by decide +kernel
theorem dX1_add_51 : decode cX1_add 51 = .ok (.aload_n 0, 1) := by decide +kernel
theorem dX1_add_52 : decode cX1_add 52 = .ok (.getfield 25, 3) := by decide +kernel
theorem dX1_add_55 : decode cX1_add 55 = .ok (.iconst 1, 1) := by decide +kernel
theorem dX1_add_56 : decode cX1_add 56 = .ok (.isub, 1) := by decide +kernel
theorem dX1_add_57 : decode cX1_add 57 = .ok (.ireturn, 1) := by decide +kernel
theorem dX1_echoes_0 : decode cX1_echoes 0 = .ok (.aload_n 0, 1) := by decide +kernel
theorem dX1_echoes_1 : decode cX1_echoes 1 = .ok (.getfield 11, 3) := by decide +kernel
theorem dX1_echoes_4 : decode cX1_echoes 4 = .ok (.iload_n 1, 1) := by decide +kernel
theorem dX1_echoes_5 : decode cX1_echoes 5 = .ok (.aaload, 1) := by decide +kernel
theorem dX1_echoes_6 : decode cX1_echoes 6 = .ok (.aload_n 0, 1) := by decide +kernel
theorem dX1_echoes_7 : decode cX1_echoes 7 = .ok (.getfield 11, 3) := by decide +kernel
theorem dX1_echoes_10 : decode cX1_echoes 10 = .ok (.iload_n 2, 1) := by decide +kernel
theorem dX1_echoes_11 : decode cX1_echoes 11 = .ok (.aaload, 1) := by decide +kernel
theorem dX1_echoes_12 : decode cX1_echoes 12 = .ok (.invokevirtual 45, 3) := by decide +kernel
theorem dX1_echoes_15 : decode cX1_echoes 15 = .ok (.ireturn, 1) := by decide +kernel
theorem dX1_seenAhead_0 : decode cX1_seenAhead 0 = .ok (.iload_n 1, 1) := by decide +kernel
theorem dX1_seenAhead_1 : decode cX1_seenAhead 1 = .ok (.iconst 1, 1) := by decide +kernel
theorem dX1_seenAhead_2 : decode cX1_seenAhead 2 = .ok (.isub, 1) := by decide +kernel
theorem dX1_seenAhead_3 : decode cX1_seenAhead 3 = .ok (.istore_n 2, 1) := by decide +kernel
theorem dX1_seenAhead_4 : decode cX1_seenAhead 4 = .ok (.iload_n 2, 1) := by decide +kernel
theorem dX1_seenAhead_5 : decode cX1_seenAhead 5 = .ok (.ifCond .lt 21, 3) := by decide +kernel
theorem dX1_seenAhead_8 : decode cX1_seenAhead 8 = .ok (.aload_n 0, 1) := by decide +kernel
theorem dX1_seenAhead_9 : decode cX1_seenAhead 9 = .ok (.getfield 11, 3) := by decide +kernel
theorem dX1_seenAhead_12 : decode cX1_seenAhead 12 = .ok (.iload_n 2, 1) := by decide +kernel
theorem dX1_seenAhead_13 : decode cX1_seenAhead 13 = .ok (.aaload, 1) := by decide +kernel
theorem dX1_seenAhead_14 : decode cX1_seenAhead 14 = .ok (.getfield 41, 3) := by decide +kernel
theorem dX1_seenAhead_17 : decode cX1_seenAhead 17 = .ok (.ifCond .eq 9, 3) := by decide +kernel
theorem dX1_seenAhead_20 : decode cX1_seenAhead 20 = .ok (.iinc 2 (-1), 3) := by decide +kernel
theorem dX1_seenAhead_23 : decode cX1_seenAhead 23 = .ok (.goto (-19), 3) := by decide +kernel
theorem dX1_seenAhead_26 : decode cX1_seenAhead 26 = .ok (.iload_n 2, 1) := by decide +kernel
theorem dX1_seenAhead_27 : decode cX1_seenAhead 27 = .ok (.ireturn, 1) := by decide +kernel
theorem dX1_isHeard_0 : decode cX1_isHeard 0 = .ok (.iload_n 1, 1) := by decide +kernel
theorem dX1_isHeard_1 : decode cX1_isHeard 1 = .ok (.iconst 1, 1) := by decide +kernel
theorem dX1_isHeard_2 : decode cX1_isHeard 2 = .ok (.iadd, 1) := by decide +kernel
theorem dX1_isHeard_3 : decode cX1_isHeard 3 = .ok (.istore_n 2, 1) := by decide +kernel
theorem dX1_isHeard_4 : decode cX1_isHeard 4 = .ok (.iload_n 2, 1) := by decide +kernel
theorem dX1_isHeard_5 : decode cX1_isHeard 5 = .ok (.aload_n 0, 1) := by decide +kernel
theorem dX1_isHeard_6 : decode cX1_isHeard 6 = .ok (.getfield 25, 3) := by decide +kernel
theorem dX1_isHeard_9 : decode cX1_isHeard 9 = .ok (.if_icmp .ge 21, 3) := by decide +kernel
theorem dX1_isHeard_12 : decode cX1_isHeard 12 = .ok (.aload_n 0, 1) := by decide +kernel
theorem dX1_isHeard_13 : decode cX1_isHeard 13 = .ok (.getfield 11, 3) := by decide +kernel
theorem dX1_isHeard_16 : decode cX1_isHeard 16 = .ok (.iload_n 2, 1) := by decide +kernel
theorem dX1_isHeard_17 : decode cX1_isHeard 17 = .ok (.aaload, 1) := by decide +kernel
theorem dX1_isHeard_18 : decode cX1_isHeard 18 = .ok (.getfield 41, 3) := by decide +kernel
theorem dX1_isHeard_21 : decode cX1_isHeard 21 = .ok (.ifCond .eq 9, 3) := by decide +kernel
theorem dX1_isHeard_24 : decode cX1_isHeard 24 = .ok (.iinc 2 1, 3) := by decide +kernel
theorem dX1_isHeard_27 : decode cX1_isHeard 27 = .ok (.goto (-23), 3) := by decide +kernel
theorem dX1_isHeard_30 : decode cX1_isHeard 30 = .ok (.iload_n 2, 1) := by decide +kernel
theorem dX1_isHeard_31 : decode cX1_isHeard 31 = .ok (.aload_n 0, 1) := by decide +kernel
theorem dX1_isHeard_32 : decode cX1_isHeard 32 = .ok (.getfield 25, 3) := by decide +kernel
theorem dX1_isHeard_35 : decode cX1_isHeard 35 = .ok (.if_icmp .ge 16, 3) := by decide +kernel
theorem dX1_isHeard_38 : decode cX1_isHeard 38 = .ok (.aload_n 0, 1) := by decide +kernel
theorem dX1_isHeard_39 : decode cX1_isHeard 39 = .ok (.iload_n 2, 1) := by decide +kernel
theorem dX1_isHeard_40 : decode cX1_isHeard 40 = .ok (.iload_n 1, 1) := by decide +kernel
theorem dX1_isHeard_41 : decode cX1_isHeard 41 = .ok (.invokevirtual 49, 3) := by decide +kernel
theorem dX1_isHeard_44 : decode cX1_isHeard 44 = .ok (.ifCond .eq 7, 3) := by decide +kernel
theorem dX1_isHeard_47 : decode cX1_isHeard 47 = .ok (.iconst 1, 1) := by decide +kernel
theorem dX1_isHeard_48 : decode cX1_isHeard 48 = .ok (.goto 4, 3) := by decide +kernel
theorem dX1_isHeard_51 : decode cX1_isHeard 51 = .ok (.iconst 0, 1) := by decide +kernel
theorem dX1_isHeard_52 : decode cX1_isHeard 52 = .ok (.ireturn, 1) := by decide +kernel
theorem dX1_isAnswer_0 : decode cX1_isAnswer 0 = .ok (.aload_n 0, 1) := by decide +kernel
theorem dX1_isAnswer_1 : decode cX1_isAnswer 1 = .ok (.getfield 11, 3) := by decide +kernel
theorem dX1_isAnswer_4 : decode cX1_isAnswer 4 = .ok (.iload_n 1, 1) := by decide +kernel
theorem dX1_isAnswer_5 : decode cX1_isAnswer 5 = .ok (.aaload, 1) := by decide +kernel
theorem dX1_isAnswer_6 : decode cX1_isAnswer 6 = .ok (.getfield 41, 3) := by decide +kernel
theorem dX1_isAnswer_9 : decode cX1_isAnswer 9 = .ok (.ifCond .eq 5, 3) := by decide +kernel
theorem dX1_isAnswer_12 : decode cX1_isAnswer 12 = .ok (.iconst 0, 1) := by decide +kernel
theorem dX1_isAnswer_13 : decode cX1_isAnswer 13 = .ok (.ireturn, 1) := by decide +kernel
theorem dX1_isAnswer_14 : decode cX1_isAnswer 14 = .ok (.aload_n 0, 1) := by decide +kernel
theorem dX1_isAnswer_15 : decode cX1_isAnswer 15 = .ok (.iload_n 1, 1) := by decide +kernel
theorem dX1_isAnswer_16 : decode cX1_isAnswer 16 = .ok (.invokevirtual 52, 3) := by decide +kernel
theorem dX1_isAnswer_19 : decode cX1_isAnswer 19 = .ok (.istore_n 2, 1) := by decide +kernel
theorem dX1_isAnswer_20 : decode cX1_isAnswer 20 = .ok (.iload_n 2, 1) := by decide +kernel
theorem dX1_isAnswer_21 : decode cX1_isAnswer 21 = .ok (.ifCond .lt 16, 3) := by decide +kernel
theorem dX1_isAnswer_24 : decode cX1_isAnswer 24 = .ok (.aload_n 0, 1) := by decide +kernel
theorem dX1_isAnswer_25 : decode cX1_isAnswer 25 = .ok (.iload_n 1, 1) := by decide +kernel
theorem dX1_isAnswer_26 : decode cX1_isAnswer 26 = .ok (.iload_n 2, 1) := by decide +kernel
theorem dX1_isAnswer_27 : decode cX1_isAnswer 27 = .ok (.invokevirtual 49, 3) := by decide +kernel
theorem dX1_isAnswer_30 : decode cX1_isAnswer 30 = .ok (.ifCond .eq 7, 3) := by decide +kernel
theorem dX1_isAnswer_33 : decode cX1_isAnswer 33 = .ok (.iconst 1, 1) := by decide +kernel
theorem dX1_isAnswer_34 : decode cX1_isAnswer 34 = .ok (.goto 4, 3) := by decide +kernel
theorem dX1_isAnswer_37 : decode cX1_isAnswer 37 = .ok (.iconst 0, 1) := by decide +kernel
theorem dX1_isAnswer_38 : decode cX1_isAnswer 38 = .ok (.ireturn, 1) := by decide +kernel
theorem dX1_seenCount_0 : decode cX1_seenCount 0 = .ok (.aload_n 0, 1) := by decide +kernel
theorem dX1_seenCount_1 : decode cX1_seenCount 1 = .ok (.invokevirtual 56, 3) := by decide +kernel
theorem dX1_seenCount_4 : decode cX1_seenCount 4 = .ok (.invokestatic 60, 3) := by decide +kernel
theorem dX1_seenCount_7 : decode cX1_seenCount 7 = .ok (.ireturn, 1) := by decide +kernel
theorem dX1_seenSet_0 : decode cX1_seenSet 0 = .ok (.iconst 0, 1) := by decide +kernel
theorem dX1_seenSet_1 : decode cX1_seenSet 1 = .ok (.istore_n 1, 1) := by decide +kernel
theorem dX1_seenSet_2 : decode cX1_seenSet 2 = .ok (.iconst 0, 1) := by decide +kernel
theorem dX1_seenSet_3 : decode cX1_seenSet 3 = .ok (.istore_n 2, 1) := by decide +kernel
theorem dX1_seenSet_4 : decode cX1_seenSet 4 = .ok (.iload_n 2, 1) := by decide +kernel
theorem dX1_seenSet_5 : decode cX1_seenSet 5 = .ok (.aload_n 0, 1) := by decide +kernel
theorem dX1_seenSet_6 : decode cX1_seenSet 6 = .ok (.getfield 25, 3) := by decide +kernel
theorem dX1_seenSet_9 : decode cX1_seenSet 9 = .ok (.if_icmp .ge 27, 3) := by decide +kernel
theorem dX1_seenSet_12 : decode cX1_seenSet 12 = .ok (.aload_n 0, 1) := by decide +kernel
theorem dX1_seenSet_13 : decode cX1_seenSet 13 = .ok (.getfield 11, 3) := by decide +kernel
theorem dX1_seenSet_16 : decode cX1_seenSet 16 = .ok (.iload_n 2, 1) := by decide +kernel
theorem dX1_seenSet_17 : decode cX1_seenSet 17 = .ok (.aaload, 1) := by decide +kernel
theorem dX1_seenSet_18 : decode cX1_seenSet 18 = .ok (.getfield 41, 3) := by decide +kernel
theorem dX1_seenSet_21 : decode cX1_seenSet 21 = .ok (.ifCond .ne 9, 3) := by decide +kernel
theorem dX1_seenSet_24 : decode cX1_seenSet 24 = .ok (.iload_n 1, 1) := by decide +kernel
theorem dX1_seenSet_25 : decode cX1_seenSet 25 = .ok (.iconst 1, 1) := by decide +kernel
theorem dX1_seenSet_26 : decode cX1_seenSet 26 = .ok (.iload_n 2, 1) := by decide +kernel
theorem dX1_seenSet_27 : decode cX1_seenSet 27 = .ok (.ishl, 1) := by decide +kernel
theorem dX1_seenSet_28 : decode cX1_seenSet 28 = .ok (.ior, 1) := by decide +kernel
theorem dX1_seenSet_29 : decode cX1_seenSet 29 = .ok (.istore_n 1, 1) := by decide +kernel
theorem dX1_seenSet_30 : decode cX1_seenSet 30 = .ok (.iinc 2 1, 3) := by decide +kernel
theorem dX1_seenSet_33 : decode cX1_seenSet 33 = .ok (.goto (-29), 3) := by decide +kernel
theorem dX1_seenSet_36 : decode cX1_seenSet 36 = .ok (.iload_n 1, 1) := by decide +kernel
theorem dX1_seenSet_37 : decode cX1_seenSet 37 = .ok (.ireturn, 1) := by decide +kernel
theorem dX1_answerCount_0 : decode cX1_answerCount 0 = .ok (.iconst 0, 1) := by decide +kernel
theorem dX1_answerCount_1 : decode cX1_answerCount 1 = .ok (.istore_n 1, 1) := by decide +kernel
theorem dX1_answerCount_2 : decode cX1_answerCount 2 = .ok (.iconst 0, 1) := by decide +kernel
theorem dX1_answerCount_3 : decode cX1_answerCount 3 = .ok (.istore_n 2, 1) := by decide +kernel
theorem dX1_answerCount_4 : decode cX1_answerCount 4 = .ok (.iload_n 2, 1) := by decide +kernel
theorem dX1_answerCount_5 : decode cX1_answerCount 5 = .ok (.aload_n 0, 1) := by decide +kernel
theorem dX1_answerCount_6 : decode cX1_answerCount 6 = .ok (.getfield 25, 3) := by decide +kernel
theorem dX1_answerCount_9 : decode cX1_answerCount 9 = .ok (.if_icmp .ge 20, 3) := by decide +kernel
theorem dX1_answerCount_12 : decode cX1_answerCount 12 = .ok (.aload_n 0, 1) := by decide +kernel
theorem dX1_answerCount_13 : decode cX1_answerCount 13 = .ok (.iload_n 2, 1) := by decide +kernel
theorem dX1_answerCount_14 : decode cX1_answerCount 14 = .ok (.invokevirtual 65, 3) := by decide +kernel
theorem dX1_answerCount_17 : decode cX1_answerCount 17 = .ok (.ifCond .eq 6, 3) := by decide +kernel
theorem dX1_answerCount_20 : decode cX1_answerCount 20 = .ok (.iinc 1 1, 3) := by decide +kernel
theorem dX1_answerCount_23 : decode cX1_answerCount 23 = .ok (.iinc 2 1, 3) := by decide +kernel
theorem dX1_answerCount_26 : decode cX1_answerCount 26 = .ok (.goto (-22), 3) := by decide +kernel
theorem dX1_answerCount_29 : decode cX1_answerCount 29 = .ok (.iload_n 1, 1) := by decide +kernel
theorem dX1_answerCount_30 : decode cX1_answerCount 30 = .ok (.ireturn, 1) := by decide +kernel
theorem dX1_longestTalk_0 : decode cX1_longestTalk 0 = .ok (.iconst 0, 1) := by decide +kernel
theorem dX1_longestTalk_1 : decode cX1_longestTalk 1 = .ok (.istore_n 1, 1) := by decide +kernel
theorem dX1_longestTalk_2 : decode cX1_longestTalk 2 = .ok (.iconst 0, 1) := by decide +kernel
theorem dX1_longestTalk_3 : decode cX1_longestTalk 3 = .ok (.istore_n 2, 1) := by decide +kernel
theorem dX1_longestTalk_4 : decode cX1_longestTalk 4 = .ok (.iconst 0, 1) := by decide +kernel
theorem dX1_longestTalk_5 : decode cX1_longestTalk 5 = .ok (.istore_n 3, 1) := by decide +kernel
theorem dX1_longestTalk_6 : decode cX1_longestTalk 6 = .ok (.iload_n 3, 1) := by decide +kernel
theorem dX1_longestTalk_7 : decode cX1_longestTalk 7 = .ok (.aload_n 0, 1) := by decide +kernel
theorem dX1_longestTalk_8 : decode cX1_longestTalk 8 = .ok (.getfield 25, 3) := by decide +kernel
theorem dX1_longestTalk_11 : decode cX1_longestTalk 11 = .ok (.if_icmp .ge 43, 3) := by decide +kernel
theorem dX1_longestTalk_14 : decode cX1_longestTalk 14 = .ok (.aload_n 0, 1) := by decide +kernel
theorem dX1_longestTalk_15 : decode cX1_longestTalk 15 = .ok (.getfield 11, 3) := by decide +kernel
theorem dX1_longestTalk_18 : decode cX1_longestTalk 18 = .ok (.iload_n 3, 1) := by decide +kernel
theorem dX1_longestTalk_19 : decode cX1_longestTalk 19 = .ok (.aaload, 1) := by decide +kernel
theorem dX1_longestTalk_20 : decode cX1_longestTalk 20 = .ok (.getfield 41, 3) := by decide +kernel
theorem dX1_longestTalk_23 : decode cX1_longestTalk 23 = .ok (.ifCond .ne 25, 3) := by decide +kernel
theorem dX1_longestTalk_26 : decode cX1_longestTalk 26 = .ok (.aload_n 0, 1) := by decide +kernel
theorem dX1_longestTalk_27 : decode cX1_longestTalk 27 = .ok (.iload_n 3, 1) := by decide +kernel
theorem dX1_longestTalk_28 : decode cX1_longestTalk 28 = .ok (.invokevirtual 65, 3) := by decide +kernel
theorem dX1_longestTalk_31 : decode cX1_longestTalk 31 = .ok (.ifCond .eq 9, 3) := by decide +kernel
theorem dX1_longestTalk_34 : decode cX1_longestTalk 34 = .ok (.iload_n 2, 1) := by decide +kernel
theorem dX1_longestTalk_35 : decode cX1_longestTalk 35 = .ok (.iconst 1, 1) := by decide +kernel
theorem dX1_longestTalk_36 : decode cX1_longestTalk 36 = .ok (.iadd, 1) := by decide +kernel
theorem dX1_longestTalk_37 : decode cX1_longestTalk 37 = .ok (.goto 4, 3) := by decide +kernel
theorem dX1_longestTalk_40 : decode cX1_longestTalk 40 = .ok (.iconst 1, 1) := by decide +kernel
theorem dX1_longestTalk_41 : decode cX1_longestTalk 41 = .ok (.istore_n 2, 1) := by decide +kernel
theorem dX1_longestTalk_42 : decode cX1_longestTalk 42 = .ok (.iload_n 1, 1) := by decide +kernel
theorem dX1_longestTalk_43 : decode cX1_longestTalk 43 = .ok (.iload_n 2, 1) := by decide +kernel
theorem dX1_longestTalk_44 : decode cX1_longestTalk 44 = .ok (.invokestatic 69, 3) := by decide +kernel
theorem dX1_longestTalk_47 : decode cX1_longestTalk 47 = .ok (.istore_n 1, 1) := by decide +kernel
theorem dX1_longestTalk_48 : decode cX1_longestTalk 48 = .ok (.iinc 3 1, 3) := by decide +kernel
theorem dX1_longestTalk_51 : decode cX1_longestTalk 51 = .ok (.goto (-45), 3) := by decide +kernel
theorem dX1_longestTalk_54 : decode cX1_longestTalk 54 = .ok (.iload_n 1, 1) := by decide +kernel
theorem dX1_longestTalk_55 : decode cX1_longestTalk 55 = .ok (.ireturn, 1) := by decide +kernel
theorem dX1_passYear_0 : decode cX1_passYear 0 = .ok (.iconst (-1), 1) := by decide +kernel
theorem dX1_passYear_1 : decode cX1_passYear 1 = .ok (.istore_n 1, 1) := by decide +kernel
theorem dX1_passYear_2 : decode cX1_passYear 2 = .ok (.aload_n 0, 1) := by decide +kernel
theorem dX1_passYear_3 : decode cX1_passYear 3 = .ok (.getfield 25, 3) := by decide +kernel
theorem dX1_passYear_6 : decode cX1_passYear 6 = .ok (.iconst 1, 1) := by decide +kernel
theorem dX1_passYear_7 : decode cX1_passYear 7 = .ok (.isub, 1) := by decide +kernel
theorem dX1_passYear_8 : decode cX1_passYear 8 = .ok (.istore_n 2, 1) := by decide +kernel
theorem dX1_passYear_9 : decode cX1_passYear 9 = .ok (.iload_n 2, 1) := by decide +kernel
theorem dX1_passYear_10 : decode cX1_passYear 10 = .ok (.ifCond .lt 49, 3) := by decide +kernel
theorem dX1_passYear_13 : decode cX1_passYear 13 = .ok (.aload_n 0, 1) := by decide +kernel
theorem dX1_passYear_14 : decode cX1_passYear 14 = .ok (.getfield 11, 3) := by decide +kernel
theorem dX1_passYear_17 : decode cX1_passYear 17 = .ok (.iload_n 2, 1) := by decide +kernel
theorem dX1_passYear_18 : decode cX1_passYear 18 = .ok (.aaload, 1) := by decide +kernel
theorem dX1_passYear_19 : decode cX1_passYear 19 = .ok (.getfield 41, 3) := by decide +kernel
theorem dX1_passYear_22 : decode cX1_passYear 22 = .ok (.ifCond .ne 31, 3) := by decide +kernel
theorem dX1_passYear_25 : decode cX1_passYear 25 = .ok (.iload_n 1, 1) := by decide +kernel
theorem dX1_passYear_26 : decode cX1_passYear 26 = .ok (.ifCond .lt 12, 3) := by decide +kernel
theorem dX1_passYear_29 : decode cX1_passYear 29 = .ok (.aload_n 0, 1) := by decide +kernel
theorem dX1_passYear_30 : decode cX1_passYear 30 = .ok (.iload_n 1, 1) := by decide +kernel
theorem dX1_passYear_31 : decode cX1_passYear 31 = .ok (.iload_n 2, 1) := by decide +kernel
theorem dX1_passYear_32 : decode cX1_passYear 32 = .ok (.invokevirtual 49, 3) := by decide +kernel
theorem dX1_passYear_35 : decode cX1_passYear 35 = .ok (.ifCond .ne 16, 3) := by decide +kernel
theorem dX1_passYear_38 : decode cX1_passYear 38 = .ok (.aload_n 0, 1) := by decide +kernel
theorem dX1_passYear_39 : decode cX1_passYear 39 = .ok (.getfield 11, 3) := by decide +kernel
theorem dX1_passYear_42 : decode cX1_passYear 42 = .ok (.iload_n 2, 1) := by decide +kernel
theorem dX1_passYear_43 : decode cX1_passYear 43 = .ok (.aaload, 1) := by decide +kernel
theorem dX1_passYear_44 : decode cX1_passYear 44 = .ok (.aload_n 0, 1) := by decide +kernel
theorem dX1_passYear_45 : decode cX1_passYear 45 = .ok (.getfield 17, 3) := by decide +kernel
theorem dX1_passYear_48 : decode cX1_passYear 48 = .ok (.invokevirtual 75, 3) := by decide +kernel
theorem dX1_passYear_51 : decode cX1_passYear 51 = .ok (.iload_n 2, 1) := by decide +kernel
theorem dX1_passYear_52 : decode cX1_passYear 52 = .ok (.istore_n 1, 1) := by decide +kernel
theorem dX1_passYear_53 : decode cX1_passYear 53 = .ok (.iinc 2 (-1), 3) := by decide +kernel
theorem dX1_passYear_56 : decode cX1_passYear 56 = .ok (.goto (-47), 3) := by decide +kernel
theorem dX1_passYear_59 : decode cX1_passYear 59 = .ok (.aload_n 0, 1) := by decide +kernel
theorem dX1_passYear_60 : decode cX1_passYear 60 = .ok (.dup, 1) := by decide +kernel
theorem dX1_passYear_61 : decode cX1_passYear 61 = .ok (.getfield 78, 3) := by decide +kernel
theorem dX1_passYear_64 : decode cX1_passYear 64 = .ok (.iconst 1, 1) := by decide +kernel
theorem dX1_passYear_65 : decode cX1_passYear 65 = .ok (.iadd, 1) := by decide +kernel
theorem dX1_passYear_66 : decode cX1_passYear 66 = .ok (.putfield 78, 3) := by decide +kernel
theorem dX1_passYear_69 : decode cX1_passYear 69 = .ok (.return_, 1) := by decide +kernel
theorem dX1_passYears_0 : decode cX1_passYears 0 = .ok (.iconst 0, 1) := by decide +kernel
theorem dX1_passYears_1 : decode cX1_passYears 1 = .ok (.istore_n 2, 1) := by decide +kernel
theorem dX1_passYears_2 : decode cX1_passYears 2 = .ok (.iload_n 2, 1) := by decide +kernel
theorem dX1_passYears_3 : decode cX1_passYears 3 = .ok (.iload_n 1, 1) := by decide +kernel
theorem dX1_passYears_4 : decode cX1_passYears 4 = .ok (.if_icmp .ge 13, 3) := by decide +kernel
theorem dX1_passYears_7 : decode cX1_passYears 7 = .ok (.aload_n 0, 1) := by decide +kernel
theorem dX1_passYears_8 : decode cX1_passYears 8 = .ok (.invokevirtual 81, 3) := by decide +kernel
theorem dX1_passYears_11 : decode cX1_passYears 11 = .ok (.iinc 2 1, 3) := by decide +kernel
theorem dX1_passYears_14 : decode cX1_passYears 14 = .ok (.goto (-12), 3) := by decide +kernel
theorem dX1_passYears_17 : decode cX1_passYears 17 = .ok (.return_, 1) := by decide +kernel
theorem dX1_passYearByDraws_0 : decode cX1_passYearByDraws 0 = .ok (.aload_n 0, 1) := by decide +kernel
theorem dX1_passYearByDraws_1 : decode cX1_passYearByDraws 1 = .ok (.getfield 25, 3) := by decide +kernel
theorem dX1_passYearByDraws_4 : decode cX1_passYearByDraws 4 = .ok (.bipush 12, 2) := by decide +kernel
theorem dX1_passYearByDraws_6 : decode cX1_passYearByDraws 6 = .ok (.if_icmp .ge 41, 3) := by decide +kernel
theorem dX1_passYearByDraws_9 : decode cX1_passYearByDraws 9 = .ok (.aload_n 0, 1) := by decide +kernel
theorem dX1_passYearByDraws_10 : decode cX1_passYearByDraws 10 = .ok (.invokevirtual 84, 3) := by decide +kernel
theorem dX1_passYearByDraws_13 : decode cX1_passYearByDraws 13 = .ok (.bipush 7, 2) := by decide +kernel
theorem dX1_passYearByDraws_15 : decode cX1_passYearByDraws 15 = .ok (.irem, 1) := by decide +kernel
theorem dX1_passYearByDraws_16 : decode cX1_passYearByDraws 16 = .ok (.istore_n 1, 1) := by decide +kernel
theorem dX1_passYearByDraws_17 : decode cX1_passYearByDraws 17 = .ok (.aload_n 0, 1) := by decide +kernel
theorem dX1_passYearByDraws_18 : decode cX1_passYearByDraws 18 = .ok (.invokevirtual 84, 3) := by decide +kernel
theorem dX1_passYearByDraws_21 : decode cX1_passYearByDraws 21 = .ok (.bipush 72, 2) := by decide +kernel
theorem dX1_passYearByDraws_23 : decode cX1_passYearByDraws 23 = .ok (.irem, 1) := by decide +kernel
theorem dX1_passYearByDraws_24 : decode cX1_passYearByDraws 24 = .ok (.invokestatic 87, 3) := by decide +kernel
theorem dX1_passYearByDraws_27 : decode cX1_passYearByDraws 27 = .ok (.istore_n 2, 1) := by decide +kernel
theorem dX1_passYearByDraws_28 : decode cX1_passYearByDraws 28 = .ok (.aload_n 0, 1) := by decide +kernel
theorem dX1_passYearByDraws_29 : decode cX1_passYearByDraws 29 = .ok (.invokevirtual 84, 3) := by decide +kernel
theorem dX1_passYearByDraws_32 : decode cX1_passYearByDraws 32 = .ok (.bipush 6, 2) := by decide +kernel
theorem dX1_passYearByDraws_34 : decode cX1_passYearByDraws 34 = .ok (.irem, 1) := by decide +kernel
theorem dX1_passYearByDraws_35 : decode cX1_passYearByDraws 35 = .ok (.istore_n 3, 1) := by decide +kernel
theorem dX1_passYearByDraws_36 : decode cX1_passYearByDraws 36 = .ok (.aload_n 0, 1) := by decide +kernel
theorem dX1_passYearByDraws_37 : decode cX1_passYearByDraws 37 = .ok (.bipush 10, 2) := by decide +kernel
theorem dX1_passYearByDraws_39 : decode cX1_passYearByDraws 39 = .ok (.iload_n 1, 1) := by decide +kernel
theorem dX1_passYearByDraws_40 : decode cX1_passYearByDraws 40 = .ok (.imul, 1) := by decide +kernel
theorem dX1_passYearByDraws_41 : decode cX1_passYearByDraws 41 = .ok (.iload_n 2, 1) := by decide +kernel
theorem dX1_passYearByDraws_42 : decode cX1_passYearByDraws 42 = .ok (.iload_n 3, 1) := by decide +kernel
theorem dX1_passYearByDraws_43 : decode cX1_passYearByDraws 43 = .ok (.invokevirtual 90, 3) := by decide +kernel
theorem dX1_passYearByDraws_46 : decode cX1_passYearByDraws 46 = .ok (.pop, 1) := by decide +kernel
theorem dX1_passYearByDraws_47 : decode cX1_passYearByDraws 47 = .ok (.aload_n 0, 1) := by decide +kernel
theorem dX1_passYearByDraws_48 : decode cX1_passYearByDraws 48 = .ok (.invokevirtual 81, 3) := by decide +kernel
theorem dX1_passYearByDraws_51 : decode cX1_passYearByDraws 51 = .ok (.return_, 1) := by decide +kernel
theorem dX1_nextDraw_0 : decode cX1_nextDraw 0 = .ok (.aload_n 0, 1) := by decide +kernel
theorem dX1_nextDraw_1 : decode cX1_nextDraw 1 = .ok (.aload_n 0, 1) := by decide +kernel
theorem dX1_nextDraw_2 : decode cX1_nextDraw 2 = .ok (.getfield 21, 3) := by decide +kernel
theorem dX1_nextDraw_5 : decode cX1_nextDraw 5 = .ok (.ldc 94, 2) := by decide +kernel
theorem dX1_nextDraw_7 : decode cX1_nextDraw 7 = .ok (.imul, 1) := by decide +kernel
theorem dX1_nextDraw_8 : decode cX1_nextDraw 8 = .ok (.sipush 12345, 3) := by decide +kernel
theorem dX1_nextDraw_11 : decode cX1_nextDraw 11 = .ok (.iadd, 1) := by decide +kernel
theorem dX1_nextDraw_12 : decode cX1_nextDraw 12 = .ok (.putfield 21, 3) := by decide +kernel
theorem dX1_nextDraw_15 : decode cX1_nextDraw 15 = .ok (.aload_n 0, 1) := by decide +kernel
theorem dX1_nextDraw_16 : decode cX1_nextDraw 16 = .ok (.getfield 21, 3) := by decide +kernel
theorem dX1_nextDraw_19 : decode cX1_nextDraw 19 = .ok (.bipush 8, 2) := by decide +kernel
theorem dX1_nextDraw_21 : decode cX1_nextDraw 21 = .ok (.iushr, 1) := by decide +kernel
theorem dX1_nextDraw_22 : decode cX1_nextDraw 22 = .ok (.ireturn, 1) := by decide +kernel
theorem dX1_copyFrom_0 : decode cX1_copyFrom 0 = .ok (.iconst 0, 1) := by decide +kernel
theorem dX1_copyFrom_1 : decode cX1_copyFrom 1 = .ok (.istore_n 2, 1) := by decide +kernel
theorem dX1_copyFrom_2 : decode cX1_copyFrom 2 = .ok (.iload_n 2, 1) := by decide +kernel
theorem dX1_copyFrom_3 : decode cX1_copyFrom 3 = .ok (.aload_n 1, 1) := by decide +kernel
theorem dX1_copyFrom_4 : decode cX1_copyFrom 4 = .ok (.getfield 25, 3) := by decide +kernel
theorem dX1_copyFrom_7 : decode cX1_copyFrom 7 = .ok (.if_icmp .ge 24, 3) := by decide +kernel
theorem dX1_copyFrom_10 : decode cX1_copyFrom 10 = .ok (.aload_n 0, 1) := by decide +kernel
theorem dX1_copyFrom_11 : decode cX1_copyFrom 11 = .ok (.getfield 11, 3) := by decide +kernel
theorem dX1_copyFrom_14 : decode cX1_copyFrom 14 = .ok (.iload_n 2, 1) := by decide +kernel
theorem dX1_copyFrom_15 : decode cX1_copyFrom 15 = .ok (.aaload, 1) := by decide +kernel
theorem dX1_copyFrom_16 : decode cX1_copyFrom 16 = .ok (.aload_n 1, 1) := by decide +kernel
theorem dX1_copyFrom_17 : decode cX1_copyFrom 17 = .ok (.getfield 11, 3) := by decide +kernel
theorem dX1_copyFrom_20 : decode cX1_copyFrom 20 = .ok (.iload_n 2, 1) := by decide +kernel
theorem dX1_copyFrom_21 : decode cX1_copyFrom 21 = .ok (.aaload, 1) := by decide +kernel
theorem dX1_copyFrom_22 : decode cX1_copyFrom 22 = .ok (.invokevirtual 95, 3) := by decide +kernel
theorem dX1_copyFrom_25 : decode cX1_copyFrom 25 = .ok (.iinc 2 1, 3) := by decide +kernel
theorem dX1_copyFrom_28 : decode cX1_copyFrom 28 = .ok (.goto (-26), 3) := by decide +kernel
theorem dX1_copyFrom_31 : decode cX1_copyFrom 31 = .ok (.aload_n 0, 1) := by decide +kernel
theorem dX1_copyFrom_32 : decode cX1_copyFrom 32 = .ok (.aload_n 1, 1) := by decide +kernel
theorem dX1_copyFrom_33 : decode cX1_copyFrom 33 = .ok (.getfield 25, 3) := by decide +kernel
theorem dX1_copyFrom_36 : decode cX1_copyFrom 36 = .ok (.putfield 25, 3) := by decide +kernel
theorem dX1_copyFrom_39 : decode cX1_copyFrom 39 = .ok (.aload_n 0, 1) := by decide +kernel
theorem dX1_copyFrom_40 : decode cX1_copyFrom 40 = .ok (.aload_n 1, 1) := by decide +kernel
theorem dX1_copyFrom_41 : decode cX1_copyFrom 41 = .ok (.getfield 78, 3) := by decide +kernel
theorem dX1_copyFrom_44 : decode cX1_copyFrom 44 = .ok (.putfield 78, 3) := by decide +kernel
theorem dX1_copyFrom_47 : decode cX1_copyFrom 47 = .ok (.aload_n 0, 1) := by decide +kernel
theorem dX1_copyFrom_48 : decode cX1_copyFrom 48 = .ok (.aload_n 1, 1) := by decide +kernel
theorem dX1_copyFrom_49 : decode cX1_copyFrom 49 = .ok (.getfield 17, 3) := by decide +kernel
theorem dX1_copyFrom_52 : decode cX1_copyFrom 52 = .ok (.putfield 17, 3) := by decide +kernel
theorem dX1_copyFrom_55 : decode cX1_copyFrom 55 = .ok (.aload_n 0, 1) := by decide +kernel
theorem dX1_copyFrom_56 : decode cX1_copyFrom 56 = .ok (.aload_n 1, 1) := by decide +kernel
theorem dX1_copyFrom_57 : decode cX1_copyFrom 57 = .ok (.getfield 21, 3) := by decide +kernel
theorem dX1_copyFrom_60 : decode cX1_copyFrom 60 = .ok (.putfield 21, 3) := by decide +kernel
theorem dX1_copyFrom_63 : decode cX1_copyFrom 63 = .ok (.return_, 1) := by decide +kernel
theorem dX2_init_0 : decode cX2_init 0 = .ok (.aload_n 0, 1) := by decide +kernel
theorem dX2_init_1 : decode cX2_init 1 = .ok (.invokespecial 3, 3) := by decide +kernel
theorem dX2_init_4 : decode cX2_init 4 = .ok (.aload_n 0, 1) := by decide +kernel
theorem dX2_init_5 : decode cX2_init 5 = .ok (.iconst 1, 1) := by decide +kernel
theorem dX2_init_6 : decode cX2_init 6 = .ok (.putfield 9, 3) := by decide +kernel
theorem dX2_init_9 : decode cX2_init 9 = .ok (.return_, 1) := by decide +kernel
theorem dX2_setKindAndNumber_0 : decode cX2_setKindAndNumber 0 = .ok (.aload_n 0, 1) := by decide +kernel
theorem dX2_setKindAndNumber_1 : decode cX2_setKindAndNumber 1 = .ok (.iload_n 1, 1) := by decide +kernel
theorem dX2_setKindAndNumber_2 : decode cX2_setKindAndNumber 2 = .ok (.bipush 10, 2) := by decide +kernel
theorem dX2_setKindAndNumber_4 : decode cX2_setKindAndNumber 4 = .ok (.idiv, 1) := by decide +kernel
theorem dX2_setKindAndNumber_5 : decode cX2_setKindAndNumber 5 = .ok (.putfield 15, 3) := by decide +kernel
theorem dX2_setKindAndNumber_8 : decode cX2_setKindAndNumber 8 = .ok (.aload_n 0, 1) := by decide +kernel
theorem dX2_setKindAndNumber_9 : decode cX2_setKindAndNumber 9 = .ok (.iload_n 1, 1) := by decide +kernel
theorem dX2_setKindAndNumber_10 : decode cX2_setKindAndNumber 10 = .ok (.bipush 10, 2) := by decide +kernel
theorem dX2_setKindAndNumber_12 : decode cX2_setKindAndNumber 12 = .ok (.irem, 1) := by decide +kernel
theorem dX2_setKindAndNumber_13 : decode cX2_setKindAndNumber 13 = .ok (.putfield 18, 3) := by decide +kernel
theorem dX2_setKindAndNumber_16 : decode cX2_setKindAndNumber 16 = .ok (.return_, 1) := by decide +kernel
theorem dX2_setLine_0 : decode cX2_setLine 0 = .ok (.aload_n 0, 1) := by decide +kernel
theorem dX2_setLine_1 : decode cX2_setLine 1 = .ok (.iload_n 1, 1) := by decide +kernel
theorem dX2_setLine_2 : decode cX2_setLine 2 = .ok (.bipush 10, 2) := by decide +kernel
theorem dX2_setLine_4 : decode cX2_setLine 4 = .ok (.idiv, 1) := by decide +kernel
theorem dX2_setLine_5 : decode cX2_setLine 5 = .ok (.putfield 9, 3) := by decide +kernel
theorem dX2_setLine_8 : decode cX2_setLine 8 = .ok (.aload_n 0, 1) := by decide +kernel
theorem dX2_setLine_9 : decode cX2_setLine 9 = .ok (.iload_n 1, 1) := by decide +kernel
theorem dX2_setLine_10 : decode cX2_setLine 10 = .ok (.bipush 10, 2) := by decide +kernel
theorem dX2_setLine_12 : decode cX2_setLine 12 = .ok (.irem, 1) := by decide +kernel
theorem dX2_setLine_13 : decode cX2_setLine 13 = .ok (.putfield 21, 3) := by decide +kernel
theorem dX2_setLine_16 : decode cX2_setLine 16 = .ok (.return_, 1) := by decide +kernel
theorem dX2_line_0 : decode cX2_line 0 = .ok (.bipush 10, 2) := by decide +kernel
theorem dX2_line_2 : decode cX2_line 2 = .ok (.aload_n 0, 1) := by decide +kernel
theorem dX2_line_3 : decode cX2_line 3 = .ok (.getfield 9, 3) := by decide +kernel
theorem dX2_line_6 : decode cX2_line 6 = .ok (.imul, 1) := by decide +kernel
theorem dX2_line_7 : decode cX2_line 7 = .ok (.aload_n 0, 1) := by decide +kernel
theorem dX2_line_8 : decode cX2_line 8 = .ok (.getfield 21, 3) := by decide +kernel
theorem dX2_line_11 : decode cX2_line 11 = .ok (.iadd, 1) := by decide +kernel
theorem dX2_line_12 : decode cX2_line 12 = .ok (.ireturn, 1) := by decide +kernel
theorem dX2_isOfKind_0 : decode cX2_isOfKind 0 = .ok (.aload_n 0, 1) := by decide +kernel
theorem dX2_isOfKind_1 : decode cX2_isOfKind 1 = .ok (.getfield 15, 3) := by decide +kernel
theorem dX2_isOfKind_4 : decode cX2_isOfKind 4 = .ok (.istore_n 2, 1) := by decide +kernel
theorem dX2_isOfKind_5 : decode cX2_isOfKind 5 = .ok (.iconst 0, 1) := by decide +kernel
theorem dX2_isOfKind_6 : decode cX2_isOfKind 6 = .ok (.istore_n 3, 1) := by decide +kernel
theorem dX2_isOfKind_7 : decode cX2_isOfKind 7 = .ok (.iload_n 3, 1) := by decide +kernel
theorem dX2_isOfKind_8 : decode cX2_isOfKind 8 = .ok (.bipush 7, 2) := by decide +kernel
theorem dX2_isOfKind_10 : decode cX2_isOfKind 10 = .ok (.if_icmp .ge 29, 3) := by decide +kernel
theorem dX2_isOfKind_13 : decode cX2_isOfKind 13 = .ok (.iload_n 2, 1) := by decide +kernel
theorem dX2_isOfKind_14 : decode cX2_isOfKind 14 = .ok (.invokestatic 24, 3) := by decide +kernel
theorem dX2_isOfKind_17 : decode cX2_isOfKind 17 = .ok (.ifCond .eq 22, 3) := by decide +kernel
theorem dX2_isOfKind_20 : decode cX2_isOfKind 20 = .ok (.iload_n 2, 1) := by decide +kernel
theorem dX2_isOfKind_21 : decode cX2_isOfKind 21 = .ok (.iload_n 1, 1) := by decide +kernel
theorem dX2_isOfKind_22 : decode cX2_isOfKind 22 = .ok (.if_icmp .ne 5, 3) := by decide +kernel
theorem dX2_isOfKind_25 : decode cX2_isOfKind 25 = .ok (.iconst 1, 1) := by decide +kernel
theorem dX2_isOfKind_26 : decode cX2_isOfKind 26 = .ok (.ireturn, 1) := by decide +kernel
theorem dX2_isOfKind_27 : decode cX2_isOfKind 27 = .ok (.getstatic 28, 3) := by decide +kernel
theorem dX2_isOfKind_30 : decode cX2_isOfKind 30 = .ok (.iload_n 2, 1) := by decide +kernel
theorem dX2_isOfKind_31 : decode cX2_isOfKind 31 = .ok (.iaload, 1) := by decide +kernel
theorem dX2_isOfKind_32 : decode cX2_isOfKind 32 = .ok (.istore_n 2, 1) := by decide +kernel
theorem dX2_isOfKind_33 : decode cX2_isOfKind 33 = .ok (.iinc 3 1, 3) := by decide +kernel
theorem dX2_isOfKind_36 : decode cX2_isOfKind 36 = .ok (.goto (-29), 3) := by decide +kernel
theorem dX2_isOfKind_39 : decode cX2_isOfKind 39 = .ok (.iconst 0, 1) := by decide +kernel
theorem dX2_isOfKind_40 : decode cX2_isOfKind 40 = .ok (.ireturn, 1) := by decide +kernel
theorem dX2_echoes_0 : decode cX2_echoes 0 = .ok (.aload_n 0, 1) := by decide +kernel
theorem dX2_echoes_1 : decode cX2_echoes 1 = .ok (.getfield 15, 3) := by decide +kernel
theorem dX2_echoes_4 : decode cX2_echoes 4 = .ok (.tableswitch 179 1 6 #[40, 57, 74, 109, 137, 154], 40) := by decide +kernel
theorem dX2_echoes_44 : decode cX2_echoes 44 = .ok (.aload_n 0, 1) := by decide +kernel
theorem dX2_echoes_45 : decode cX2_echoes 45 = .ok (.getfield 9, 3) := by decide +kernel
theorem dX2_echoes_48 : decode cX2_echoes 48 = .ok (.aload_n 1, 1) := by decide +kernel
theorem dX2_echoes_49 : decode cX2_echoes 49 = .ok (.getfield 9, 3) := by decide +kernel
theorem dX2_echoes_52 : decode cX2_echoes 52 = .ok (.if_icmp .ne 7, 3) := by decide +kernel
theorem dX2_echoes_55 : decode cX2_echoes 55 = .ok (.iconst 1, 1) := by decide +kernel
theorem dX2_echoes_56 : decode cX2_echoes 56 = .ok (.goto 4, 3) := by decide +kernel
theorem dX2_echoes_59 : decode cX2_echoes 59 = .ok (.iconst 0, 1) := by decide +kernel
theorem dX2_echoes_60 : decode cX2_echoes 60 = .ok (.ireturn, 1) := by decide +kernel
theorem dX2_echoes_61 : decode cX2_echoes 61 = .ok (.aload_n 0, 1) := by decide +kernel
theorem dX2_echoes_62 : decode cX2_echoes 62 = .ok (.getfield 21, 3) := by decide +kernel
theorem dX2_echoes_65 : decode cX2_echoes 65 = .ok (.aload_n 1, 1) := by decide +kernel
theorem dX2_echoes_66 : decode cX2_echoes 66 = .ok (.getfield 21, 3) := by decide +kernel
theorem dX2_echoes_69 : decode cX2_echoes 69 = .ok (.if_icmp .lt 7, 3) := by decide +kernel
theorem dX2_echoes_72 : decode cX2_echoes 72 = .ok (.iconst 1, 1) := by decide +kernel
theorem dX2_echoes_73 : decode cX2_echoes 73 = .ok (.goto 4, 3) := by decide +kernel
theorem dX2_echoes_76 : decode cX2_echoes 76 = .ok (.iconst 0, 1) := by decide +kernel
theorem dX2_echoes_77 : decode cX2_echoes 77 = .ok (.ireturn, 1) := by decide +kernel
theorem dX2_echoes_78 : decode cX2_echoes 78 = .ok (.aload_n 0, 1) := by decide +kernel
theorem dX2_echoes_79 : decode cX2_echoes 79 = .ok (.aload_n 1, 1) := by decide +kernel
theorem dX2_echoes_80 : decode cX2_echoes 80 = .ok (.invokevirtual 32, 3) := by decide +kernel
theorem dX2_echoes_83 : decode cX2_echoes 83 = .ok (.ifCond .ne 24, 3) := by decide +kernel
theorem dX2_echoes_86 : decode cX2_echoes 86 = .ok (.aload_n 0, 1) := by decide +kernel
theorem dX2_echoes_87 : decode cX2_echoes 87 = .ok (.getfield 9, 3) := by decide +kernel
theorem dX2_echoes_90 : decode cX2_echoes 90 = .ok (.aload_n 0, 1) := by decide +kernel
theorem dX2_echoes_91 : decode cX2_echoes 91 = .ok (.getfield 21, 3) := by decide +kernel
theorem dX2_echoes_94 : decode cX2_echoes 94 = .ok (.iadd, 1) := by decide +kernel
theorem dX2_echoes_95 : decode cX2_echoes 95 = .ok (.aload_n 1, 1) := by decide +kernel
theorem dX2_echoes_96 : decode cX2_echoes 96 = .ok (.getfield 9, 3) := by decide +kernel
theorem dX2_echoes_99 : decode cX2_echoes 99 = .ok (.aload_n 1, 1) := by decide +kernel
theorem dX2_echoes_100 : decode cX2_echoes 100 = .ok (.getfield 21, 3) := by decide +kernel
theorem dX2_echoes_103 : decode cX2_echoes 103 = .ok (.iadd, 1) := by decide +kernel
theorem dX2_echoes_104 : decode cX2_echoes 104 = .ok (.if_icmp .ne 7, 3) := by decide +kernel
theorem dX2_echoes_107 : decode cX2_echoes 107 = .ok (.iconst 1, 1) := by decide +kernel
theorem dX2_echoes_108 : decode cX2_echoes 108 = .ok (.goto 4, 3) := by decide +kernel
theorem dX2_echoes_111 : decode cX2_echoes 111 = .ok (.iconst 0, 1) := by decide +kernel
theorem dX2_echoes_112 : decode cX2_echoes 112 = .ok (.ireturn, 1) := by decide +kernel
theorem dX2_echoes_113 : decode cX2_echoes 113 = .ok (.aload_n 0, 1) := by decide +kernel
theorem dX2_echoes_114 : decode cX2_echoes 114 = .ok (.getfield 9, 3) := by decide +kernel
theorem dX2_echoes_117 : decode cX2_echoes 117 = .ok (.aload_n 1, 1) := by decide +kernel
theorem dX2_echoes_118 : decode cX2_echoes 118 = .ok (.getfield 9, 3) := by decide +kernel
theorem dX2_echoes_121 : decode cX2_echoes 121 = .ok (.if_icmp .ne 18, 3) := by decide +kernel
theorem dX2_echoes_124 : decode cX2_echoes 124 = .ok (.aload_n 0, 1) := by decide +kernel
theorem dX2_echoes_125 : decode cX2_echoes 125 = .ok (.getfield 21, 3) := by decide +kernel
theorem dX2_echoes_128 : decode cX2_echoes 128 = .ok (.aload_n 1, 1) := by decide +kernel
theorem dX2_echoes_129 : decode cX2_echoes 129 = .ok (.getfield 21, 3) := by decide +kernel
theorem dX2_echoes_132 : decode cX2_echoes 132 = .ok (.if_icmp .ne 7, 3) := by decide +kernel
theorem dX2_echoes_135 : decode cX2_echoes 135 = .ok (.iconst 1, 1) := by decide +kernel
theorem dX2_echoes_136 : decode cX2_echoes 136 = .ok (.goto 4, 3) := by decide +kernel
theorem dX2_echoes_139 : decode cX2_echoes 139 = .ok (.iconst 0, 1) := by decide +kernel
theorem dX2_echoes_140 : decode cX2_echoes 140 = .ok (.ireturn, 1) := by decide +kernel
theorem dX2_echoes_141 : decode cX2_echoes 141 = .ok (.aload_n 0, 1) := by decide +kernel
theorem dX2_echoes_142 : decode cX2_echoes 142 = .ok (.getfield 21, 3) := by decide +kernel
theorem dX2_echoes_145 : decode cX2_echoes 145 = .ok (.aload_n 1, 1) := by decide +kernel
theorem dX2_echoes_146 : decode cX2_echoes 146 = .ok (.getfield 21, 3) := by decide +kernel
theorem dX2_echoes_149 : decode cX2_echoes 149 = .ok (.if_icmp .ge 7, 3) := by decide +kernel
theorem dX2_echoes_152 : decode cX2_echoes 152 = .ok (.iconst 1, 1) := by decide +kernel
theorem dX2_echoes_153 : decode cX2_echoes 153 = .ok (.goto 4, 3) := by decide +kernel
theorem dX2_echoes_156 : decode cX2_echoes 156 = .ok (.iconst 0, 1) := by decide +kernel
theorem dX2_echoes_157 : decode cX2_echoes 157 = .ok (.ireturn, 1) := by decide +kernel
theorem dX2_echoes_158 : decode cX2_echoes 158 = .ok (.aload_n 0, 1) := by decide +kernel
theorem dX2_echoes_159 : decode cX2_echoes 159 = .ok (.aload_n 1, 1) := by decide +kernel
theorem dX2_echoes_160 : decode cX2_echoes 160 = .ok (.invokevirtual 32, 3) := by decide +kernel
theorem dX2_echoes_163 : decode cX2_echoes 163 = .ok (.ifCond .ne 14, 3) := by decide +kernel
theorem dX2_echoes_166 : decode cX2_echoes 166 = .ok (.aload_n 0, 1) := by decide +kernel
theorem dX2_echoes_167 : decode cX2_echoes 167 = .ok (.getfield 36, 3) := by decide +kernel
theorem dX2_echoes_170 : decode cX2_echoes 170 = .ok (.aload_n 1, 1) := by decide +kernel
theorem dX2_echoes_171 : decode cX2_echoes 171 = .ok (.getfield 36, 3) := by decide +kernel
theorem dX2_echoes_174 : decode cX2_echoes 174 = .ok (.if_icmp .ne 7, 3) := by decide +kernel
theorem dX2_echoes_177 : decode cX2_echoes 177 = .ok (.iconst 1, 1) := by decide +kernel
theorem dX2_echoes_178 : decode cX2_echoes 178 = .ok (.goto 4, 3) := by decide +kernel
theorem dX2_echoes_181 : decode cX2_echoes 181 = .ok (.iconst 0, 1) := by decide +kernel
theorem dX2_echoes_182 : decode cX2_echoes 182 = .ok (.ireturn, 1) := by decide +kernel
theorem dX2_echoes_183 : decode cX2_echoes 183 = .ok (.aload_n 0, 1) := by decide +kernel
theorem dX2_echoes_184 : decode cX2_echoes 184 = .ok (.aload_n 1, 1) := by decide +kernel
theorem dX2_echoes_185 : decode cX2_echoes 185 = .ok (.invokevirtual 32, 3) := by decide +kernel
theorem dX2_echoes_188 : decode cX2_echoes 188 = .ok (.ireturn, 1) := by decide +kernel
theorem dX2_isAlike_0 : decode cX2_isAlike 0 = .ok (.aload_n 0, 1) := by decide +kernel
theorem dX2_isAlike_1 : decode cX2_isAlike 1 = .ok (.getfield 9, 3) := by decide +kernel
theorem dX2_isAlike_4 : decode cX2_isAlike 4 = .ok (.aload_n 1, 1) := by decide +kernel
theorem dX2_isAlike_5 : decode cX2_isAlike 5 = .ok (.getfield 9, 3) := by decide +kernel
theorem dX2_isAlike_8 : decode cX2_isAlike 8 = .ok (.if_icmp .eq 14, 3) := by decide +kernel
theorem dX2_isAlike_11 : decode cX2_isAlike 11 = .ok (.aload_n 0, 1) := by decide +kernel
theorem dX2_isAlike_12 : decode cX2_isAlike 12 = .ok (.getfield 21, 3) := by decide +kernel
theorem dX2_isAlike_15 : decode cX2_isAlike 15 = .ok (.aload_n 1, 1) := by decide +kernel
theorem dX2_isAlike_16 : decode cX2_isAlike 16 = .ok (.getfield 21, 3) := by decide +kernel
theorem dX2_isAlike_19 : decode cX2_isAlike 19 = .ok (.if_icmp .ne 7, 3) := by decide +kernel
theorem dX2_isAlike_22 : decode cX2_isAlike 22 = .ok (.iconst 1, 1) := by decide +kernel
theorem dX2_isAlike_23 : decode cX2_isAlike 23 = .ok (.goto 4, 3) := by decide +kernel
theorem dX2_isAlike_26 : decode cX2_isAlike 26 = .ok (.iconst 0, 1) := by decide +kernel
theorem dX2_isAlike_27 : decode cX2_isAlike 27 = .ok (.ireturn, 1) := by decide +kernel
theorem dX2_depth_0 : decode cX2_depth 0 = .ok (.aload_n 0, 1) := by decide +kernel
theorem dX2_depth_1 : decode cX2_depth 1 = .ok (.getfield 15, 3) := by decide +kernel
theorem dX2_depth_4 : decode cX2_depth 4 = .ok (.tableswitch 85 1 6 #[40, 47, 85, 54, 66, 75], 40) := by decide +kernel
theorem dX2_depth_44 : decode cX2_depth 44 = .ok (.aload_n 0, 1) := by decide +kernel
theorem dX2_depth_45 : decode cX2_depth 45 = .ok (.getfield 18, 3) := by decide +kernel
theorem dX2_depth_48 : decode cX2_depth 48 = .ok (.iconst 2, 1) := by decide +kernel
theorem dX2_depth_49 : decode cX2_depth 49 = .ok (.iadd, 1) := by decide +kernel
theorem dX2_depth_50 : decode cX2_depth 50 = .ok (.ireturn, 1) := by decide +kernel
theorem dX2_depth_51 : decode cX2_depth 51 = .ok (.iconst 2, 1) := by decide +kernel
theorem dX2_depth_52 : decode cX2_depth 52 = .ok (.aload_n 0, 1) := by decide +kernel
theorem dX2_depth_53 : decode cX2_depth 53 = .ok (.getfield 18, 3) := by decide +kernel
theorem dX2_depth_56 : decode cX2_depth 56 = .ok (.imul, 1) := by decide +kernel
theorem dX2_depth_57 : decode cX2_depth 57 = .ok (.ireturn, 1) := by decide +kernel
theorem dX2_depth_58 : decode cX2_depth 58 = .ok (.aload_n 0, 1) := by decide +kernel
theorem dX2_depth_59 : decode cX2_depth 59 = .ok (.getfield 18, 3) := by decide +kernel
theorem dX2_depth_62 : decode cX2_depth 62 = .ok (.iconst 2, 1) := by decide +kernel
theorem dX2_depth_63 : decode cX2_depth 63 = .ok (.iadd, 1) := by decide +kernel
theorem dX2_depth_64 : decode cX2_depth 64 = .ok (.aload_n 0, 1) := by decide +kernel
theorem dX2_depth_65 : decode cX2_depth 65 = .ok (.getfield 21, 3) := by decide +kernel
theorem dX2_depth_68 : decode cX2_depth 68 = .ok (.iadd, 1) := by decide +kernel
theorem dX2_depth_69 : decode cX2_depth 69 = .ok (.ireturn, 1) := by decide +kernel
theorem dX2_depth_70 : decode cX2_depth 70 = .ok (.iconst 2, 1) := by decide +kernel
theorem dX2_depth_71 : decode cX2_depth 71 = .ok (.aload_n 0, 1) := by decide +kernel
theorem dX2_depth_72 : decode cX2_depth 72 = .ok (.getfield 18, 3) := by decide +kernel
theorem dX2_depth_75 : decode cX2_depth 75 = .ok (.imul, 1) := by decide +kernel
theorem dX2_depth_76 : decode cX2_depth 76 = .ok (.iconst 1, 1) := by decide +kernel
theorem dX2_depth_77 : decode cX2_depth 77 = .ok (.isub, 1) := by decide +kernel
theorem dX2_depth_78 : decode cX2_depth 78 = .ok (.ireturn, 1) := by decide +kernel
theorem dX2_depth_79 : decode cX2_depth 79 = .ok (.aload_n 0, 1) := by decide +kernel
theorem dX2_depth_80 : decode cX2_depth 80 = .ok (.getfield 18, 3) := by decide +kernel
theorem dX2_depth_83 : decode cX2_depth 83 = .ok (.aload_n 0, 1) := by decide +kernel
theorem dX2_depth_84 : decode cX2_depth 84 = .ok (.getfield 9, 3) := by decide +kernel
theorem dX2_depth_87 : decode cX2_depth 87 = .ok (.iadd, 1) := by decide +kernel
theorem dX2_depth_88 : decode cX2_depth 88 = .ok (.ireturn, 1) := by decide +kernel
theorem dX2_depth_89 : decode cX2_depth 89 = .ok (.aload_n 0, 1) := by decide +kernel
theorem dX2_depth_90 : decode cX2_depth 90 = .ok (.getfield 18, 3) := by decide +kernel
theorem dX2_depth_93 : decode cX2_depth 93 = .ok (.ireturn, 1) := by decide +kernel
theorem dX2_goUnheard_0 : decode cX2_goUnheard 0 = .ok (.aload_n 0, 1) := by decide +kernel
theorem dX2_goUnheard_1 : decode cX2_goUnheard 1 = .ok (.bipush 99, 2) := by decide +kernel
theorem dX2_goUnheard_3 : decode cX2_goUnheard 3 = .ok (.aload_n 0, 1) := by decide +kernel
theorem dX2_goUnheard_4 : decode cX2_goUnheard 4 = .ok (.getfield 39, 3) := by decide +kernel
theorem dX2_goUnheard_7 : decode cX2_goUnheard 7 = .ok (.iconst 1, 1) := by decide +kernel
theorem dX2_goUnheard_8 : decode cX2_goUnheard 8 = .ok (.iadd, 1) := by decide +kernel
theorem dX2_goUnheard_9 : decode cX2_goUnheard 9 = .ok (.invokestatic 42, 3) := by decide +kernel
theorem dX2_goUnheard_12 : decode cX2_goUnheard 12 = .ok (.putfield 39, 3) := by decide +kernel
theorem dX2_goUnheard_15 : decode cX2_goUnheard 15 = .ok (.aload_n 0, 1) := by decide +kernel
theorem dX2_goUnheard_16 : decode cX2_goUnheard 16 = .ok (.getfield 39, 3) := by decide +kernel
theorem dX2_goUnheard_19 : decode cX2_goUnheard 19 = .ok (.iload_n 1, 1) := by decide +kernel
theorem dX2_goUnheard_20 : decode cX2_goUnheard 20 = .ok (.if_icmp .lt 8, 3) := by decide +kernel
theorem dX2_goUnheard_23 : decode cX2_goUnheard 23 = .ok (.aload_n 0, 1) := by decide +kernel
theorem dX2_goUnheard_24 : decode cX2_goUnheard 24 = .ok (.iconst 1, 1) := by decide +kernel
theorem dX2_goUnheard_25 : decode cX2_goUnheard 25 = .ok (.putfield 48, 3) := by decide +kernel
theorem dX2_goUnheard_28 : decode cX2_goUnheard 28 = .ok (.return_, 1) := by decide +kernel
theorem dX2_copyFrom_0 : decode cX2_copyFrom 0 = .ok (.aload_n 0, 1) := by decide +kernel
theorem dX2_copyFrom_1 : decode cX2_copyFrom 1 = .ok (.aload_n 1, 1) := by decide +kernel
theorem dX2_copyFrom_2 : decode cX2_copyFrom 2 = .ok (.getfield 15, 3) := by decide +kernel
theorem dX2_copyFrom_5 : decode cX2_copyFrom 5 = .ok (.putfield 15, 3) := by decide +kernel
theorem dX2_copyFrom_8 : decode cX2_copyFrom 8 = .ok (.aload_n 0, 1) := by decide +kernel
theorem dX2_copyFrom_9 : decode cX2_copyFrom 9 = .ok (.aload_n 1, 1) := by decide +kernel
theorem dX2_copyFrom_10 : decode cX2_copyFrom 10 = .ok (.getfield 18, 3) := by decide +kernel
theorem dX2_copyFrom_13 : decode cX2_copyFrom 13 = .ok (.putfield 18, 3) := by decide +kernel
theorem dX2_copyFrom_16 : decode cX2_copyFrom 16 = .ok (.aload_n 0, 1) := by decide +kernel
theorem dX2_copyFrom_17 : decode cX2_copyFrom 17 = .ok (.aload_n 1, 1) := by decide +kernel
theorem dX2_copyFrom_18 : decode cX2_copyFrom 18 = .ok (.getfield 9, 3) := by decide +kernel
theorem dX2_copyFrom_21 : decode cX2_copyFrom 21 = .ok (.putfield 9, 3) := by decide +kernel
theorem dX2_copyFrom_24 : decode cX2_copyFrom 24 = .ok (.aload_n 0, 1) := by decide +kernel
theorem dX2_copyFrom_25 : decode cX2_copyFrom 25 = .ok (.aload_n 1, 1) := by decide +kernel
theorem dX2_copyFrom_26 : decode cX2_copyFrom 26 = .ok (.getfield 21, 3) := by decide +kernel
theorem dX2_copyFrom_29 : decode cX2_copyFrom 29 = .ok (.putfield 21, 3) := by decide +kernel
theorem dX2_copyFrom_32 : decode cX2_copyFrom 32 = .ok (.aload_n 0, 1) := by decide +kernel
theorem dX2_copyFrom_33 : decode cX2_copyFrom 33 = .ok (.aload_n 1, 1) := by decide +kernel
theorem dX2_copyFrom_34 : decode cX2_copyFrom 34 = .ok (.getfield 36, 3) := by decide +kernel
theorem dX2_copyFrom_37 : decode cX2_copyFrom 37 = .ok (.putfield 36, 3) := by decide +kernel
theorem dX2_copyFrom_40 : decode cX2_copyFrom 40 = .ok (.aload_n 0, 1) := by decide +kernel
theorem dX2_copyFrom_41 : decode cX2_copyFrom 41 = .ok (.aload_n 1, 1) := by decide +kernel
theorem dX2_copyFrom_42 : decode cX2_copyFrom 42 = .ok (.getfield 39, 3) := by decide +kernel
theorem dX2_copyFrom_45 : decode cX2_copyFrom 45 = .ok (.putfield 39, 3) := by decide +kernel
theorem dX2_copyFrom_48 : decode cX2_copyFrom 48 = .ok (.aload_n 0, 1) := by decide +kernel
theorem dX2_copyFrom_49 : decode cX2_copyFrom 49 = .ok (.aload_n 1, 1) := by decide +kernel
theorem dX2_copyFrom_50 : decode cX2_copyFrom 50 = .ok (.getfield 48, 3) := by decide +kernel
theorem dX2_copyFrom_53 : decode cX2_copyFrom 53 = .ok (.putfield 48, 3) := by decide +kernel
theorem dX2_copyFrom_56 : decode cX2_copyFrom 56 = .ok (.return_, 1) := by decide +kernel
theorem dX3_init_0 : decode cX3_init 0 = .ok (.aload_n 0, 1) := by decide +kernel
theorem dX3_init_1 : decode cX3_init 1 = .ok (.invokespecial 3, 3) := by decide +kernel
theorem dX3_init_4 : decode cX3_init 4 = .ok (.aload_n 0, 1) := by decide +kernel
theorem dX3_init_5 : decode cX3_init 5 = .ok (.bipush 60, 2) := by decide +kernel
theorem dX3_init_7 : decode cX3_init 7 = .ok (.newarray .int, 2) := by decide +kernel
theorem dX3_init_9 : decode cX3_init 9 = .ok (.putfield 9, 3) := by decide +kernel
theorem dX3_init_12 : decode cX3_init 12 = .ok (.aload_n 0, 1) := by decide +kernel
theorem dX3_init_13 : decode cX3_init 13 = .ok (.bipush 60, 2) := by decide +kernel
theorem dX3_init_15 : decode cX3_init 15 = .ok (.newarray .int, 2) := by decide +kernel
theorem dX3_init_17 : decode cX3_init 17 = .ok (.putfield 15, 3) := by decide +kernel
theorem dX3_init_20 : decode cX3_init 20 = .ok (.return_, 1) := by decide +kernel
theorem dX3_isGiven_0 : decode cX3_isGiven 0 = .ok (.aload_n 0, 1) := by decide +kernel
theorem dX3_isGiven_1 : decode cX3_isGiven 1 = .ok (.getfield 18, 3) := by decide +kernel
theorem dX3_isGiven_4 : decode cX3_isGiven 4 = .ok (.ifCond .le 7, 3) := by decide +kernel
theorem dX3_isGiven_7 : decode cX3_isGiven 7 = .ok (.iconst 1, 1) := by decide +kernel
theorem dX3_isGiven_8 : decode cX3_isGiven 8 = .ok (.goto 4, 3) := by decide +kernel
theorem dX3_isGiven_11 : decode cX3_isGiven 11 = .ok (.iconst 0, 1) := by decide +kernel
theorem dX3_isGiven_12 : decode cX3_isGiven 12 = .ok (.ireturn, 1) := by decide +kernel
theorem dX3_clear_0 : decode cX3_clear 0 = .ok (.aload_n 0, 1) := by decide +kernel
theorem dX3_clear_1 : decode cX3_clear 1 = .ok (.iconst 0, 1) := by decide +kernel
theorem dX3_clear_2 : decode cX3_clear 2 = .ok (.putfield 18, 3) := by decide +kernel
theorem dX3_clear_5 : decode cX3_clear 5 = .ok (.return_, 1) := by decide +kernel
theorem dX3_add_0 : decode cX3_add 0 = .ok (.aload_n 0, 1) := by decide +kernel
theorem dX3_add_1 : decode cX3_add 1 = .ok (.getfield 18, 3) := by decide +kernel
theorem dX3_add_4 : decode cX3_add 4 = .ok (.aload_n 0, 1) := by decide +kernel
theorem dX3_add_5 : decode cX3_add 5 = .ok (.getfield 9, 3) := by decide +kernel
theorem dX3_add_8 : decode cX3_add 8 = .ok (.arraylength, 1) := by decide +kernel
theorem dX3_add_9 : decode cX3_add 9 = .ok (.if_icmp .ge 23, 3) := by decide +kernel
theorem dX3_add_12 : decode cX3_add 12 = .ok (.aload_n 0, 1) := by decide +kernel
theorem dX3_add_13 : decode cX3_add 13 = .ok (.getfield 9, 3) := by decide +kernel
theorem dX3_add_16 : decode cX3_add 16 = .ok (.aload_n 0, 1) := by decide +kernel
theorem dX3_add_17 : decode cX3_add 17 = .ok (.getfield 18, 3) := by decide +kernel
theorem dX3_add_20 : decode cX3_add 20 = .ok (.iload_n 1, 1) := by decide +kernel
theorem dX3_add_21 : decode cX3_add 21 = .ok (.iastore, 1) := by decide +kernel
theorem dX3_add_22 : decode cX3_add 22 = .ok (.aload_n 0, 1) := by decide +kernel
theorem dX3_add_23 : decode cX3_add 23 = .ok (.dup, 1) := by decide +kernel
theorem dX3_add_24 : decode cX3_add 24 = .ok (.getfield 18, 3) := by decide +kernel
theorem dX3_add_27 : decode cX3_add 27 = .ok (.iconst 1, 1) := by decide +kernel
theorem dX3_add_28 : decode cX3_add 28 = .ok (.iadd, 1) := by decide +kernel
theorem dX3_add_29 : decode cX3_add 29 = .ok (.putfield 18, 3) := by decide +kernel
theorem dX3_add_32 : decode cX3_add 32 = .ok (.return_, 1) := by decide +kernel
theorem dX3_copyFrom_0 : decode cX3_copyFrom 0 = .ok (.aload_n 1, 1) := by decide +kernel
theorem dX3_copyFrom_1 : decode cX3_copyFrom 1 = .ok (.getfield 9, 3) := by decide +kernel
theorem dX3_copyFrom_4 : decode cX3_copyFrom 4 = .ok (.iconst 0, 1) := by decide +kernel
theorem dX3_copyFrom_5 : decode cX3_copyFrom 5 = .ok (.aload_n 0, 1) := by decide +kernel
theorem dX3_copyFrom_6 : decode cX3_copyFrom 6 = .ok (.getfield 9, 3) := by decide +kernel
theorem dX3_copyFrom_9 : decode cX3_copyFrom 9 = .ok (.iconst 0, 1) := by decide +kernel
theorem dX3_copyFrom_10 : decode cX3_copyFrom 10 = .ok (.aload_n 1, 1) := by decide +kernel
theorem dX3_copyFrom_11 : decode cX3_copyFrom 11 = .ok (.getfield 18, 3) := by decide +kernel
theorem dX3_copyFrom_14 : decode cX3_copyFrom 14 = .ok (.invokestatic 22, 3) := by decide +kernel
theorem dX3_copyFrom_17 : decode cX3_copyFrom 17 = .ok (.aload_n 0, 1) := by decide +kernel
theorem dX3_copyFrom_18 : decode cX3_copyFrom 18 = .ok (.aload_n 1, 1) := by decide +kernel
theorem dX3_copyFrom_19 : decode cX3_copyFrom 19 = .ok (.getfield 18, 3) := by decide +kernel
theorem dX3_copyFrom_22 : decode cX3_copyFrom 22 = .ok (.putfield 18, 3) := by decide +kernel
theorem dX3_copyFrom_25 : decode cX3_copyFrom 25 = .ok (.return_, 1) := by decide +kernel
theorem dX3_workOut_0 : decode cX3_workOut 0 = .ok (.aload_n 0, 1) := by decide +kernel
theorem dX3_workOut_1 : decode cX3_workOut 1 = .ok (.iconst 0, 1) := by decide +kernel
theorem dX3_workOut_2 : decode cX3_workOut 2 = .ok (.putfield 28, 3) := by decide +kernel
theorem dX3_workOut_5 : decode cX3_workOut 5 = .ok (.iconst 0, 1) := by decide +kernel
theorem dX3_workOut_6 : decode cX3_workOut 6 = .ok (.istore 4, 2) := by decide +kernel
theorem dX3_workOut_8 : decode cX3_workOut 8 = .ok (.iload 4, 2) := by decide +kernel
theorem dX3_workOut_10 : decode cX3_workOut 10 = .ok (.aload_n 0, 1) := by decide +kernel
theorem dX3_workOut_11 : decode cX3_workOut 11 = .ok (.getfield 18, 3) := by decide +kernel
theorem dX3_workOut_14 : decode cX3_workOut 14 = .ok (.if_icmp .ge 119, 3) := by decide +kernel
theorem dX3_workOut_17 : decode cX3_workOut 17 = .ok (.aload_n 0, 1) := by decide +kernel
theorem dX3_workOut_18 : decode cX3_workOut 18 = .ok (.getfield 9, 3) := by decide +kernel
theorem dX3_workOut_21 : decode cX3_workOut 21 = .ok (.iload 4, 2) := by decide +kernel
theorem dX3_workOut_23 : decode cX3_workOut 23 = .ok (.iaload, 1) := by decide +kernel
theorem dX3_workOut_24 : decode cX3_workOut 24 = .ok (.istore 5, 2) := by decide +kernel
theorem dX3_workOut_26 : decode cX3_workOut 26 = .ok (.iload 5, 2) := by decide +kernel
theorem dX3_workOut_28 : decode cX3_workOut 28 = .ok (.ifCond .lt 12, 3) := by decide +kernel
theorem dX3_workOut_31 : decode cX3_workOut 31 = .ok (.aload_n 0, 1) := by decide +kernel
theorem dX3_workOut_32 : decode cX3_workOut 32 = .ok (.iload 5, 2) := by decide +kernel
theorem dX3_workOut_34 : decode cX3_workOut 34 = .ok (.invokevirtual 31, 3) := by decide +kernel
theorem dX3_workOut_37 : decode cX3_workOut 37 = .ok (.goto 90, 3) := by decide +kernel
theorem dX3_workOut_40 : decode cX3_workOut 40 = .ok (.iload 5, 2) := by decide +kernel
theorem dX3_workOut_42 : decode cX3_workOut 42 = .ok (.bipush (-3), 2) := by decide +kernel
theorem dX3_workOut_44 : decode cX3_workOut 44 = .ok (.if_icmp .lt 32, 3) := by decide +kernel
theorem dX3_workOut_47 : decode cX3_workOut 47 = .ok (.aload_n 0, 1) := by decide +kernel
theorem dX3_workOut_48 : decode cX3_workOut 48 = .ok (.iload 5, 2) := by decide +kernel
theorem dX3_workOut_50 : decode cX3_workOut 50 = .ok (.iconst (-1), 1) := by decide +kernel
theorem dX3_workOut_51 : decode cX3_workOut 51 = .ok (.if_icmp .ne 7, 3) := by decide +kernel
theorem dX3_workOut_54 : decode cX3_workOut 54 = .ok (.iload_n 1, 1) := by decide +kernel
theorem dX3_workOut_55 : decode cX3_workOut 55 = .ok (.goto 15, 3) := by decide +kernel
theorem dX3_workOut_58 : decode cX3_workOut 58 = .ok (.iload 5, 2) := by decide +kernel
theorem dX3_workOut_60 : decode cX3_workOut 60 = .ok (.bipush (-3), 2) := by decide +kernel
theorem dX3_workOut_62 : decode cX3_workOut 62 = .ok (.if_icmp .ne 7, 3) := by decide +kernel
theorem dX3_workOut_65 : decode cX3_workOut 65 = .ok (.iload_n 3, 1) := by decide +kernel
theorem dX3_workOut_66 : decode cX3_workOut 66 = .ok (.goto 4, 3) := by decide +kernel
theorem dX3_workOut_69 : decode cX3_workOut 69 = .ok (.iload_n 2, 1) := by decide +kernel
theorem dX3_workOut_70 : decode cX3_workOut 70 = .ok (.invokevirtual 31, 3) := by decide +kernel
theorem dX3_workOut_73 : decode cX3_workOut 73 = .ok (.goto 54, 3) := by decide +kernel
theorem dX3_workOut_76 : decode cX3_workOut 76 = .ok (.iload 5, 2) := by decide +kernel
theorem dX3_workOut_78 : decode cX3_workOut 78 = .ok (.bipush (-33), 2) := by decide +kernel
theorem dX3_workOut_80 : decode cX3_workOut 80 = .ok (.if_icmp .ne 25, 3) := by decide +kernel
theorem dX3_workOut_83 : decode cX3_workOut 83 = .ok (.aload_n 0, 1) := by decide +kernel
theorem dX3_workOut_84 : decode cX3_workOut 84 = .ok (.aload_n 0, 1) := by decide +kernel
theorem dX3_workOut_85 : decode cX3_workOut 85 = .ok (.invokevirtual 35, 3) := by decide +kernel
theorem dX3_workOut_88 : decode cX3_workOut 88 = .ok (.ifCond .ne 7, 3) := by decide +kernel
theorem dX3_workOut_91 : decode cX3_workOut 91 = .ok (.iconst 1, 1) := by decide +kernel
theorem dX3_workOut_92 : decode cX3_workOut 92 = .ok (.goto 4, 3) := by decide +kernel
theorem dX3_workOut_95 : decode cX3_workOut 95 = .ok (.iconst 0, 1) := by decide +kernel
theorem dX3_workOut_96 : decode cX3_workOut 96 = .ok (.invokestatic 39, 3) := by decide +kernel
theorem dX3_workOut_99 : decode cX3_workOut 99 = .ok (.invokevirtual 31, 3) := by decide +kernel
theorem dX3_workOut_102 : decode cX3_workOut 102 = .ok (.goto 25, 3) := by decide +kernel
theorem dX3_workOut_105 : decode cX3_workOut 105 = .ok (.aload_n 0, 1) := by decide +kernel
theorem dX3_workOut_106 : decode cX3_workOut 106 = .ok (.invokevirtual 35, 3) := by decide +kernel
theorem dX3_workOut_109 : decode cX3_workOut 109 = .ok (.istore 6, 2) := by decide +kernel
theorem dX3_workOut_111 : decode cX3_workOut 111 = .ok (.aload_n 0, 1) := by decide +kernel
theorem dX3_workOut_112 : decode cX3_workOut 112 = .ok (.iload 5, 2) := by decide +kernel
theorem dX3_workOut_114 : decode cX3_workOut 114 = .ok (.ineg, 1) := by decide +kernel
theorem dX3_workOut_115 : decode cX3_workOut 115 = .ok (.aload_n 0, 1) := by decide +kernel
theorem dX3_workOut_116 : decode cX3_workOut 116 = .ok (.invokevirtual 35, 3) := by decide +kernel
theorem dX3_workOut_119 : decode cX3_workOut 119 = .ok (.iload 6, 2) := by decide +kernel
theorem dX3_workOut_121 : decode cX3_workOut 121 = .ok (.invokestatic 43, 3) := by decide +kernel
theorem dX3_workOut_124 : decode cX3_workOut 124 = .ok (.invokevirtual 31, 3) := by decide +kernel
theorem dX3_workOut_127 : decode cX3_workOut 127 = .ok (.iinc 4 1, 3) := by decide +kernel
theorem dX3_workOut_130 : decode cX3_workOut 130 = .ok (.goto (-122), 3) := by decide +kernel
theorem dX3_workOut_133 : decode cX3_workOut 133 = .ok (.aload_n 0, 1) := by decide +kernel
theorem dX3_workOut_134 : decode cX3_workOut 134 = .ok (.invokevirtual 35, 3) := by decide +kernel
theorem dX3_workOut_137 : decode cX3_workOut 137 = .ok (.ireturn, 1) := by decide +kernel
theorem dX3_push_0 : decode cX3_push 0 = .ok (.aload_n 0, 1) := by decide +kernel
theorem dX3_push_1 : decode cX3_push 1 = .ok (.getfield 28, 3) := by decide +kernel
theorem dX3_push_4 : decode cX3_push 4 = .ok (.aload_n 0, 1) := by decide +kernel
theorem dX3_push_5 : decode cX3_push 5 = .ok (.getfield 15, 3) := by decide +kernel
theorem dX3_push_8 : decode cX3_push 8 = .ok (.arraylength, 1) := by decide +kernel
theorem dX3_push_9 : decode cX3_push 9 = .ok (.if_icmp .ge 23, 3) := by decide +kernel
theorem dX3_push_12 : decode cX3_push 12 = .ok (.aload_n 0, 1) := by decide +kernel
theorem dX3_push_13 : decode cX3_push 13 = .ok (.getfield 15, 3) := by decide +kernel
theorem dX3_push_16 : decode cX3_push 16 = .ok (.aload_n 0, 1) := by decide +kernel
theorem dX3_push_17 : decode cX3_push 17 = .ok (.getfield 28, 3) := by decide +kernel
theorem dX3_push_20 : decode cX3_push 20 = .ok (.iload_n 1, 1) := by decide +kernel
theorem dX3_push_21 : decode cX3_push 21 = .ok (.iastore, 1) := by decide +kernel
theorem dX3_push_22 : decode cX3_push 22 = .ok (.aload_n 0, 1) := by decide +kernel
theorem dX3_push_23 : decode cX3_push 23 = .ok (.dup, 1) := by decide +kernel
theorem dX3_push_24 : decode cX3_push 24 = .ok (.getfield 28, 3) := by decide +kernel
theorem dX3_push_27 : decode cX3_push 27 = .ok (.iconst 1, 1) := by decide +kernel
theorem dX3_push_28 : decode cX3_push 28 = .ok (.iadd, 1) := by decide +kernel
theorem dX3_push_29 : decode cX3_push 29 = .ok (.putfield 28, 3) := by decide +kernel
theorem dX3_push_32 : decode cX3_push 32 = .ok (.return_, 1) := by decide +kernel
theorem dX3_pop_0 : decode cX3_pop 0 = .ok (.aload_n 0, 1) := by decide +kernel
theorem dX3_pop_1 : decode cX3_pop 1 = .ok (.getfield 28, 3) := by decide +kernel
theorem dX3_pop_4 : decode cX3_pop 4 = .ok (.ifCond .ne 5, 3) := by decide +kernel
theorem dX3_pop_7 : decode cX3_pop 7 = .ok (.iconst 0, 1) := by decide +kernel
theorem dX3_pop_8 : decode cX3_pop 8 = .ok (.ireturn, 1) := by decide +kernel
theorem dX3_pop_9 : decode cX3_pop 9 = .ok (.aload_n 0, 1) := by decide +kernel
theorem dX3_pop_10 : decode cX3_pop 10 = .ok (.dup, 1) := by decide +kernel
theorem dX3_pop_11 : decode cX3_pop 11 = .ok (.getfield 28, 3) := by decide +kernel
theorem dX3_pop_14 : decode cX3_pop 14 = .ok (.iconst 1, 1) := by decide +kernel
theorem dX3_pop_15 : decode cX3_pop 15 = .ok (.isub, 1) := by decide +kernel
theorem dX3_pop_16 : decode cX3_pop 16 = .ok (.putfield 28, 3) := by decide +kernel
theorem dX3_pop_19 : decode cX3_pop 19 = .ok (.aload_n 0, 1) := by decide +kernel
theorem dX3_pop_20 : decode cX3_pop 20 = .ok (.getfield 15, 3) := by decide +kernel
theorem dX3_pop_23 : decode cX3_pop 23 = .ok (.aload_n 0, 1) := by decide +kernel
theorem dX3_pop_24 : decode cX3_pop 24 = .ok (.getfield 28, 3) := by decide +kernel
theorem dX3_pop_27 : decode cX3_pop 27 = .ok (.iaload, 1) := by decide +kernel
theorem dX3_pop_28 : decode cX3_pop 28 = .ok (.ireturn, 1) := by decide +kernel
theorem dX3_join_0 : decode cX3_join 0 = .ok (.iload_n 0, 1) := by decide +kernel
theorem dX3_join_1 : decode cX3_join 1 = .ok (.lookupswitch 203 #[(37, 191), (38, 108), (42, 175), (43, 167), (45, 171), (47, 179), (60, 125), (61, 139), (62, 153), (124, 91)], 91) := by decide +kernel
theorem dX3_join_92 : decode cX3_join 92 = .ok (.iload_n 1, 1) := by decide +kernel
theorem dX3_join_93 : decode cX3_join 93 = .ok (.ifCond .ne 7, 3) := by decide +kernel
theorem dX3_join_96 : decode cX3_join 96 = .ok (.iload_n 2, 1) := by decide +kernel
theorem dX3_join_97 : decode cX3_join 97 = .ok (.ifCond .eq 7, 3) := by decide +kernel
theorem dX3_join_100 : decode cX3_join 100 = .ok (.iconst 1, 1) := by decide +kernel
theorem dX3_join_101 : decode cX3_join 101 = .ok (.goto 4, 3) := by decide +kernel
theorem dX3_join_104 : decode cX3_join 104 = .ok (.iconst 0, 1) := by decide +kernel
theorem dX3_join_105 : decode cX3_join 105 = .ok (.invokestatic 39, 3) := by decide +kernel
theorem dX3_join_108 : decode cX3_join 108 = .ok (.ireturn, 1) := by decide +kernel
theorem dX3_join_109 : decode cX3_join 109 = .ok (.iload_n 1, 1) := by decide +kernel
theorem dX3_join_110 : decode cX3_join 110 = .ok (.ifCond .eq 11, 3) := by decide +kernel
theorem dX3_join_113 : decode cX3_join 113 = .ok (.iload_n 2, 1) := by decide +kernel
theorem dX3_join_114 : decode cX3_join 114 = .ok (.ifCond .eq 7, 3) := by decide +kernel
theorem dX3_join_117 : decode cX3_join 117 = .ok (.iconst 1, 1) := by decide +kernel
theorem dX3_join_118 : decode cX3_join 118 = .ok (.goto 4, 3) := by decide +kernel
theorem dX3_join_121 : decode cX3_join 121 = .ok (.iconst 0, 1) := by decide +kernel
theorem dX3_join_122 : decode cX3_join 122 = .ok (.invokestatic 39, 3) := by decide +kernel
theorem dX3_join_125 : decode cX3_join 125 = .ok (.ireturn, 1) := by decide +kernel
theorem dX3_join_126 : decode cX3_join 126 = .ok (.iload_n 1, 1) := by decide +kernel
theorem dX3_join_127 : decode cX3_join 127 = .ok (.iload_n 2, 1) := by decide +kernel
theorem dX3_join_128 : decode cX3_join 128 = .ok (.if_icmp .ge 7, 3) := by decide +kernel
theorem dX3_join_131 : decode cX3_join 131 = .ok (.iconst 1, 1) := by decide +kernel
theorem dX3_join_132 : decode cX3_join 132 = .ok (.goto 4, 3) := by decide +kernel
theorem dX3_join_135 : decode cX3_join 135 = .ok (.iconst 0, 1) := by decide +kernel
theorem dX3_join_136 : decode cX3_join 136 = .ok (.invokestatic 39, 3) := by decide +kernel
theorem dX3_join_139 : decode cX3_join 139 = .ok (.ireturn, 1) := by decide +kernel
theorem dX3_join_140 : decode cX3_join 140 = .ok (.iload_n 1, 1) := by decide +kernel
theorem dX3_join_141 : decode cX3_join 141 = .ok (.iload_n 2, 1) := by decide +kernel
theorem dX3_join_142 : decode cX3_join 142 = .ok (.if_icmp .ne 7, 3) := by decide +kernel
theorem dX3_join_145 : decode cX3_join 145 = .ok (.iconst 1, 1) := by decide +kernel
theorem dX3_join_146 : decode cX3_join 146 = .ok (.goto 4, 3) := by decide +kernel
theorem dX3_join_149 : decode cX3_join 149 = .ok (.iconst 0, 1) := by decide +kernel
theorem dX3_join_150 : decode cX3_join 150 = .ok (.invokestatic 39, 3) := by decide +kernel
theorem dX3_join_153 : decode cX3_join 153 = .ok (.ireturn, 1) := by decide +kernel
theorem dX3_join_154 : decode cX3_join 154 = .ok (.iload_n 1, 1) := by decide +kernel
theorem dX3_join_155 : decode cX3_join 155 = .ok (.iload_n 2, 1) := by decide +kernel
theorem dX3_join_156 : decode cX3_join 156 = .ok (.if_icmp .le 7, 3) := by decide +kernel
theorem dX3_join_159 : decode cX3_join 159 = .ok (.iconst 1, 1) := by decide +kernel
theorem dX3_join_160 : decode cX3_join 160 = .ok (.goto 4, 3) := by decide +kernel
theorem dX3_join_163 : decode cX3_join 163 = .ok (.iconst 0, 1) := by decide +kernel
theorem dX3_join_164 : decode cX3_join 164 = .ok (.invokestatic 39, 3) := by decide +kernel
theorem dX3_join_167 : decode cX3_join 167 = .ok (.ireturn, 1) := by decide +kernel
theorem dX3_join_168 : decode cX3_join 168 = .ok (.iload_n 1, 1) := by decide +kernel
theorem dX3_join_169 : decode cX3_join 169 = .ok (.iload_n 2, 1) := by decide +kernel
theorem dX3_join_170 : decode cX3_join 170 = .ok (.iadd, 1) := by decide +kernel
theorem dX3_join_171 : decode cX3_join 171 = .ok (.ireturn, 1) := by decide +kernel
theorem dX3_join_172 : decode cX3_join 172 = .ok (.iload_n 1, 1) := by decide +kernel
theorem dX3_join_173 : decode cX3_join 173 = .ok (.iload_n 2, 1) := by decide +kernel
theorem dX3_join_174 : decode cX3_join 174 = .ok (.isub, 1) := by decide +kernel
theorem dX3_join_175 : decode cX3_join 175 = .ok (.ireturn, 1) := by decide +kernel
theorem dX3_join_176 : decode cX3_join 176 = .ok (.iload_n 1, 1) := by decide +kernel
theorem dX3_join_177 : decode cX3_join 177 = .ok (.iload_n 2, 1) := by decide +kernel
theorem dX3_join_178 : decode cX3_join 178 = .ok (.imul, 1) := by decide +kernel
theorem dX3_join_179 : decode cX3_join 179 = .ok (.ireturn, 1) := by decide +kernel
theorem dX3_join_180 : decode cX3_join 180 = .ok (.iload_n 2, 1) := by decide +kernel
theorem dX3_join_181 : decode cX3_join 181 = .ok (.ifCond .ne 7, 3) := by decide +kernel
theorem dX3_join_184 : decode cX3_join 184 = .ok (.iconst 0, 1) := by decide +kernel
theorem dX3_join_185 : decode cX3_join 185 = .ok (.goto 6, 3) := by decide +kernel
theorem dX3_join_188 : decode cX3_join 188 = .ok (.iload_n 1, 1) := by decide +kernel
theorem dX3_join_189 : decode cX3_join 189 = .ok (.iload_n 2, 1) := by decide +kernel
theorem dX3_join_190 : decode cX3_join 190 = .ok (.idiv, 1) := by decide +kernel
theorem dX3_join_191 : decode cX3_join 191 = .ok (.ireturn, 1) := by decide +kernel
theorem dX3_join_192 : decode cX3_join 192 = .ok (.iload_n 2, 1) := by decide +kernel
theorem dX3_join_193 : decode cX3_join 193 = .ok (.ifCond .ne 7, 3) := by decide +kernel
theorem dX3_join_196 : decode cX3_join 196 = .ok (.iconst 0, 1) := by decide +kernel
theorem dX3_join_197 : decode cX3_join 197 = .ok (.goto 6, 3) := by decide +kernel
theorem dX3_join_200 : decode cX3_join 200 = .ok (.iload_n 1, 1) := by decide +kernel
theorem dX3_join_201 : decode cX3_join 201 = .ok (.iload_n 2, 1) := by decide +kernel
theorem dX3_join_202 : decode cX3_join 202 = .ok (.irem, 1) := by decide +kernel
theorem dX3_join_203 : decode cX3_join 203 = .ok (.ireturn, 1) := by decide +kernel
theorem dX3_join_204 : decode cX3_join 204 = .ok (.iconst 0, 1) := by decide +kernel
theorem dX3_join_205 : decode cX3_join 205 = .ok (.ireturn, 1) := by decide +kernel
theorem dX4_init_0 : decode cX4_init 0 = .ok (.aload_n 0, 1) := by decide +kernel
theorem dX4_init_1 : decode cX4_init 1 = .ok (.invokespecial 1, 3) := by decide +kernel
theorem dX4_init_4 : decode cX4_init 4 = .ok (.aload_n 0, 1) := by decide +kernel
theorem dX4_init_5 : decode cX4_init 5 = .ok (.iload_n 1, 1) := by decide +kernel
theorem dX4_init_6 : decode cX4_init 6 = .ok (.newarray .int, 2) := by decide +kernel
theorem dX4_init_8 : decode cX4_init 8 = .ok (.putfield 7, 3) := by decide +kernel
theorem dX4_init_11 : decode cX4_init 11 = .ok (.aload_n 0, 1) := by decide +kernel
theorem dX4_init_12 : decode cX4_init 12 = .ok (.iload_n 1, 1) := by decide +kernel
theorem dX4_init_13 : decode cX4_init 13 = .ok (.newarray .int, 2) := by decide +kernel
theorem dX4_init_15 : decode cX4_init 15 = .ok (.putfield 13, 3) := by decide +kernel
theorem dX4_init_18 : decode cX4_init 18 = .ok (.aload_n 0, 1) := by decide +kernel
theorem dX4_init_19 : decode cX4_init 19 = .ok (.iload_n 1, 1) := by decide +kernel
theorem dX4_init_20 : decode cX4_init 20 = .ok (.newarray .boolean, 2) := by decide +kernel
theorem dX4_init_22 : decode cX4_init 22 = .ok (.putfield 16, 3) := by decide +kernel
theorem dX4_init_25 : decode cX4_init 25 = .ok (.return_, 1) := by decide +kernel
theorem dX4_measureTo_0 : decode cX4_measureTo 0 = .ok (.iconst 0, 1) := by decide +kernel
theorem dX4_measureTo_1 : decode cX4_measureTo 1 = .ok (.istore_n 2, 1) := by decide +kernel
theorem dX4_measureTo_2 : decode cX4_measureTo 2 = .ok (.iload_n 2, 1) := by decide +kernel
theorem dX4_measureTo_3 : decode cX4_measureTo 3 = .ok (.aload_n 0, 1) := by decide +kernel
theorem dX4_measureTo_4 : decode cX4_measureTo 4 = .ok (.getfield 13, 3) := by decide +kernel
theorem dX4_measureTo_7 : decode cX4_measureTo 7 = .ok (.arraylength, 1) := by decide +kernel
theorem dX4_measureTo_8 : decode cX4_measureTo 8 = .ok (.if_icmp .ge 33, 3) := by decide +kernel
theorem dX4_measureTo_11 : decode cX4_measureTo 11 = .ok (.aload_n 0, 1) := by decide +kernel
theorem dX4_measureTo_12 : decode cX4_measureTo 12 = .ok (.getfield 13, 3) := by decide +kernel
theorem dX4_measureTo_15 : decode cX4_measureTo 15 = .ok (.iload_n 2, 1) := by decide +kernel
theorem dX4_measureTo_16 : decode cX4_measureTo 16 = .ok (.iload_n 2, 1) := by decide +kernel
theorem dX4_measureTo_17 : decode cX4_measureTo 17 = .ok (.iload_n 1, 1) := by decide +kernel
theorem dX4_measureTo_18 : decode cX4_measureTo 18 = .ok (.if_icmp .ne 7, 3) := by decide +kernel
theorem dX4_measureTo_21 : decode cX4_measureTo 21 = .ok (.iconst 0, 1) := by decide +kernel
theorem dX4_measureTo_22 : decode cX4_measureTo 22 = .ok (.goto 5, 3) := by decide +kernel
theorem dX4_measureTo_25 : decode cX4_measureTo 25 = .ok (.ldc 22, 2) := by decide +kernel
theorem dX4_measureTo_27 : decode cX4_measureTo 27 = .ok (.iastore, 1) := by decide +kernel
theorem dX4_measureTo_28 : decode cX4_measureTo 28 = .ok (.aload_n 0, 1) := by decide +kernel
theorem dX4_measureTo_29 : decode cX4_measureTo 29 = .ok (.getfield 16, 3) := by decide +kernel
theorem dX4_measureTo_32 : decode cX4_measureTo 32 = .ok (.iload_n 2, 1) := by decide +kernel
theorem dX4_measureTo_33 : decode cX4_measureTo 33 = .ok (.iconst 0, 1) := by decide +kernel
theorem dX4_measureTo_34 : decode cX4_measureTo 34 = .ok (.bastore, 1) := by decide +kernel
theorem dX4_measureTo_35 : decode cX4_measureTo 35 = .ok (.iinc 2 1, 3) := by decide +kernel
theorem dX4_measureTo_38 : decode cX4_measureTo 38 = .ok (.goto (-36), 3) := by decide +kernel
theorem dX4_measureTo_41 : decode cX4_measureTo 41 = .ok (.iconst 0, 1) := by decide +kernel
theorem dX4_measureTo_42 : decode cX4_measureTo 42 = .ok (.istore_n 2, 1) := by decide +kernel
theorem dX4_measureTo_43 : decode cX4_measureTo 43 = .ok (.iload_n 2, 1) := by decide +kernel
theorem dX4_measureTo_44 : decode cX4_measureTo 44 = .ok (.aload_n 0, 1) := by decide +kernel
theorem dX4_measureTo_45 : decode cX4_measureTo 45 = .ok (.getfield 13, 3) := by decide +kernel
theorem dX4_measureTo_48 : decode cX4_measureTo 48 = .ok (.arraylength, 1) := by decide +kernel
theorem dX4_measureTo_49 : decode cX4_measureTo 49 = .ok (.if_icmp .ge 30, 3) := by decide +kernel
theorem dX4_measureTo_52 : decode cX4_measureTo 52 = .ok (.aload_n 0, 1) := by decide +kernel
theorem dX4_measureTo_53 : decode cX4_measureTo 53 = .ok (.invokevirtual 23, 3) := by decide +kernel
theorem dX4_measureTo_56 : decode cX4_measureTo 56 = .ok (.istore_n 3, 1) := by decide +kernel
theorem dX4_measureTo_57 : decode cX4_measureTo 57 = .ok (.iload_n 3, 1) := by decide +kernel
theorem dX4_measureTo_58 : decode cX4_measureTo 58 = .ok (.ifCond .lt 15, 3) := by decide +kernel
theorem dX4_measureTo_61 : decode cX4_measureTo 61 = .ok (.aload_n 0, 1) := by decide +kernel
theorem dX4_measureTo_62 : decode cX4_measureTo 62 = .ok (.getfield 16, 3) := by decide +kernel
theorem dX4_measureTo_65 : decode cX4_measureTo 65 = .ok (.iload_n 3, 1) := by decide +kernel
theorem dX4_measureTo_66 : decode cX4_measureTo 66 = .ok (.iconst 1, 1) := by decide +kernel
theorem dX4_measureTo_67 : decode cX4_measureTo 67 = .ok (.bastore, 1) := by decide +kernel
theorem dX4_measureTo_68 : decode cX4_measureTo 68 = .ok (.aload_n 0, 1) := by decide +kernel
theorem dX4_measureTo_69 : decode cX4_measureTo 69 = .ok (.iload_n 3, 1) := by decide +kernel
theorem dX4_measureTo_70 : decode cX4_measureTo 70 = .ok (.invokevirtual 27, 3) := by decide +kernel
theorem dX4_measureTo_73 : decode cX4_measureTo 73 = .ok (.iinc 2 1, 3) := by decide +kernel
theorem dX4_measureTo_76 : decode cX4_measureTo 76 = .ok (.goto (-33), 3) := by decide +kernel
theorem dX4_measureTo_79 : decode cX4_measureTo 79 = .ok (.return_, 1) := by decide +kernel
theorem dX4_cheapestUnsettled_0 : decode cX4_cheapestUnsettled 0 = .ok (.iconst (-1), 1) := by decide +kernel
theorem dX4_cheapestUnsettled_1 : decode cX4_cheapestUnsettled 1 = .ok (.istore_n 1, 1) := by decide +kernel
theorem dX4_cheapestUnsettled_2 : decode cX4_cheapestUnsettled 2 = .ok (.iconst 0, 1) := by decide +kernel
theorem dX4_cheapestUnsettled_3 : decode cX4_cheapestUnsettled 3 = .ok (.istore_n 2, 1) := by decide +kernel
theorem dX4_cheapestUnsettled_4 : decode cX4_cheapestUnsettled 4 = .ok (.iload_n 2, 1) := by decide +kernel
theorem dX4_cheapestUnsettled_5 : decode cX4_cheapestUnsettled 5 = .ok (.aload_n 0, 1) := by decide +kernel
theorem dX4_cheapestUnsettled_6 : decode cX4_cheapestUnsettled 6 = .ok (.getfield 13, 3) := by decide +kernel
theorem dX4_cheapestUnsettled_9 : decode cX4_cheapestUnsettled 9 = .ok (.arraylength, 1) := by decide +kernel
theorem dX4_cheapestUnsettled_10 : decode cX4_cheapestUnsettled 10 = .ok (.if_icmp .ge 39, 3) := by decide +kernel
theorem dX4_cheapestUnsettled_13 : decode cX4_cheapestUnsettled 13 = .ok (.aload_n 0, 1) := by decide +kernel
theorem dX4_cheapestUnsettled_14 : decode cX4_cheapestUnsettled 14 = .ok (.getfield 16, 3) := by decide +kernel
theorem dX4_cheapestUnsettled_17 : decode cX4_cheapestUnsettled 17 = .ok (.iload_n 2, 1) := by decide +kernel
theorem dX4_cheapestUnsettled_18 : decode cX4_cheapestUnsettled 18 = .ok (.baload, 1) := by decide +kernel
theorem dX4_cheapestUnsettled_19 : decode cX4_cheapestUnsettled 19 = .ok (.ifCond .ne 24, 3) := by decide +kernel
theorem dX4_cheapestUnsettled_22 : decode cX4_cheapestUnsettled 22 = .ok (.iload_n 1, 1) := by decide +kernel
theorem dX4_cheapestUnsettled_23 : decode cX4_cheapestUnsettled 23 = .ok (.ifCond .lt 18, 3) := by decide +kernel
theorem dX4_cheapestUnsettled_26 : decode cX4_cheapestUnsettled 26 = .ok (.aload_n 0, 1) := by decide +kernel
theorem dX4_cheapestUnsettled_27 : decode cX4_cheapestUnsettled 27 = .ok (.getfield 13, 3) := by decide +kernel
theorem dX4_cheapestUnsettled_30 : decode cX4_cheapestUnsettled 30 = .ok (.iload_n 2, 1) := by decide +kernel
theorem dX4_cheapestUnsettled_31 : decode cX4_cheapestUnsettled 31 = .ok (.iaload, 1) := by decide +kernel
theorem dX4_cheapestUnsettled_32 : decode cX4_cheapestUnsettled 32 = .ok (.aload_n 0, 1) := by decide +kernel
theorem dX4_cheapestUnsettled_33 : decode cX4_cheapestUnsettled 33 = .ok (.getfield 13, 3) := by decide +kernel
theorem dX4_cheapestUnsettled_36 : decode cX4_cheapestUnsettled 36 = .ok (.iload_n 1, 1) := by decide +kernel
theorem dX4_cheapestUnsettled_37 : decode cX4_cheapestUnsettled 37 = .ok (.iaload, 1) := by decide +kernel
theorem dX4_cheapestUnsettled_38 : decode cX4_cheapestUnsettled 38 = .ok (.if_icmp .ge 5, 3) := by decide +kernel
theorem dX4_cheapestUnsettled_41 : decode cX4_cheapestUnsettled 41 = .ok (.iload_n 2, 1) := by decide +kernel
theorem dX4_cheapestUnsettled_42 : decode cX4_cheapestUnsettled 42 = .ok (.istore_n 1, 1) := by decide +kernel
theorem dX4_cheapestUnsettled_43 : decode cX4_cheapestUnsettled 43 = .ok (.iinc 2 1, 3) := by decide +kernel
theorem dX4_cheapestUnsettled_46 : decode cX4_cheapestUnsettled 46 = .ok (.goto (-42), 3) := by decide +kernel
theorem dX4_cheapestUnsettled_49 : decode cX4_cheapestUnsettled 49 = .ok (.iload_n 1, 1) := by decide +kernel
theorem dX4_cheapestUnsettled_50 : decode cX4_cheapestUnsettled 50 = .ok (.ireturn, 1) := by decide +kernel
theorem dX4_reachFrom_0 : decode cX4_reachFrom 0 = .ok (.iconst 0, 1) := by decide +kernel
theorem dX4_reachFrom_1 : decode cX4_reachFrom 1 = .ok (.istore_n 2, 1) := by decide +kernel
theorem dX4_reachFrom_2 : decode cX4_reachFrom 2 = .ok (.iload_n 2, 1) := by decide +kernel
theorem dX4_reachFrom_3 : decode cX4_reachFrom 3 = .ok (.aload_n 0, 1) := by decide +kernel
theorem dX4_reachFrom_4 : decode cX4_reachFrom 4 = .ok (.getfield 13, 3) := by decide +kernel
theorem dX4_reachFrom_7 : decode cX4_reachFrom 7 = .ok (.arraylength, 1) := by decide +kernel
theorem dX4_reachFrom_8 : decode cX4_reachFrom 8 = .ok (.if_icmp .ge 51, 3) := by decide +kernel
theorem dX4_reachFrom_11 : decode cX4_reachFrom 11 = .ok (.aload_n 0, 1) := by decide +kernel
theorem dX4_reachFrom_12 : decode cX4_reachFrom 12 = .ok (.getfield 16, 3) := by decide +kernel
theorem dX4_reachFrom_15 : decode cX4_reachFrom 15 = .ok (.iload_n 2, 1) := by decide +kernel
theorem dX4_reachFrom_16 : decode cX4_reachFrom 16 = .ok (.baload, 1) := by decide +kernel
theorem dX4_reachFrom_17 : decode cX4_reachFrom 17 = .ok (.ifCond .ne 36, 3) := by decide +kernel
theorem dX4_reachFrom_20 : decode cX4_reachFrom 20 = .ok (.aload_n 0, 1) := by decide +kernel
theorem dX4_reachFrom_21 : decode cX4_reachFrom 21 = .ok (.getfield 13, 3) := by decide +kernel
theorem dX4_reachFrom_24 : decode cX4_reachFrom 24 = .ok (.iload_n 2, 1) := by decide +kernel
theorem dX4_reachFrom_25 : decode cX4_reachFrom 25 = .ok (.aload_n 0, 1) := by decide +kernel
theorem dX4_reachFrom_26 : decode cX4_reachFrom 26 = .ok (.getfield 13, 3) := by decide +kernel
theorem dX4_reachFrom_29 : decode cX4_reachFrom 29 = .ok (.iload_n 2, 1) := by decide +kernel
theorem dX4_reachFrom_30 : decode cX4_reachFrom 30 = .ok (.iaload, 1) := by decide +kernel
theorem dX4_reachFrom_31 : decode cX4_reachFrom 31 = .ok (.aload_n 0, 1) := by decide +kernel
theorem dX4_reachFrom_32 : decode cX4_reachFrom 32 = .ok (.getfield 13, 3) := by decide +kernel
theorem dX4_reachFrom_35 : decode cX4_reachFrom 35 = .ok (.iload_n 1, 1) := by decide +kernel
theorem dX4_reachFrom_36 : decode cX4_reachFrom 36 = .ok (.iaload, 1) := by decide +kernel
theorem dX4_reachFrom_37 : decode cX4_reachFrom 37 = .ok (.aload_n 0, 1) := by decide +kernel
theorem dX4_reachFrom_38 : decode cX4_reachFrom 38 = .ok (.getfield 7, 3) := by decide +kernel
theorem dX4_reachFrom_41 : decode cX4_reachFrom 41 = .ok (.iload_n 2, 1) := by decide +kernel
theorem dX4_reachFrom_42 : decode cX4_reachFrom 42 = .ok (.iload_n 1, 1) := by decide +kernel
theorem dX4_reachFrom_43 : decode cX4_reachFrom 43 = .ok (.isub, 1) := by decide +kernel
theorem dX4_reachFrom_44 : decode cX4_reachFrom 44 = .ok (.invokestatic 31, 3) := by decide +kernel
theorem dX4_reachFrom_47 : decode cX4_reachFrom 47 = .ok (.iaload, 1) := by decide +kernel
theorem dX4_reachFrom_48 : decode cX4_reachFrom 48 = .ok (.iadd, 1) := by decide +kernel
theorem dX4_reachFrom_49 : decode cX4_reachFrom 49 = .ok (.invokestatic 37, 3) := by decide +kernel
theorem dX4_reachFrom_52 : decode cX4_reachFrom 52 = .ok (.iastore, 1) := by decide +kernel
theorem dX4_reachFrom_53 : decode cX4_reachFrom 53 = .ok (.iinc 2 1, 3) := by decide +kernel
theorem dX4_reachFrom_56 : decode cX4_reachFrom 56 = .ok (.goto (-54), 3) := by decide +kernel
theorem dX4_reachFrom_59 : decode cX4_reachFrom 59 = .ok (.return_, 1) := by decide +kernel
theorem dX4_leastFirstStep_0 : decode cX4_leastFirstStep 0 = .ok (.iconst 0, 1) := by decide +kernel
theorem dX4_leastFirstStep_1 : decode cX4_leastFirstStep 1 = .ok (.istore_n 2, 1) := by decide +kernel
theorem dX4_leastFirstStep_2 : decode cX4_leastFirstStep 2 = .ok (.iload_n 2, 1) := by decide +kernel
theorem dX4_leastFirstStep_3 : decode cX4_leastFirstStep 3 = .ok (.aload_n 0, 1) := by decide +kernel
theorem dX4_leastFirstStep_4 : decode cX4_leastFirstStep 4 = .ok (.getfield 13, 3) := by decide +kernel
theorem dX4_leastFirstStep_7 : decode cX4_leastFirstStep 7 = .ok (.arraylength, 1) := by decide +kernel
theorem dX4_leastFirstStep_8 : decode cX4_leastFirstStep 8 = .ok (.if_icmp .ge 43, 3) := by decide +kernel
theorem dX4_leastFirstStep_11 : decode cX4_leastFirstStep 11 = .ok (.iload_n 2, 1) := by decide +kernel
theorem dX4_leastFirstStep_12 : decode cX4_leastFirstStep 12 = .ok (.iload_n 1, 1) := by decide +kernel
theorem dX4_leastFirstStep_13 : decode cX4_leastFirstStep 13 = .ok (.if_icmp .eq 32, 3) := by decide +kernel
theorem dX4_leastFirstStep_16 : decode cX4_leastFirstStep 16 = .ok (.aload_n 0, 1) := by decide +kernel
theorem dX4_leastFirstStep_17 : decode cX4_leastFirstStep 17 = .ok (.getfield 13, 3) := by decide +kernel
theorem dX4_leastFirstStep_20 : decode cX4_leastFirstStep 20 = .ok (.iload_n 2, 1) := by decide +kernel
theorem dX4_leastFirstStep_21 : decode cX4_leastFirstStep 21 = .ok (.iaload, 1) := by decide +kernel
theorem dX4_leastFirstStep_22 : decode cX4_leastFirstStep 22 = .ok (.aload_n 0, 1) := by decide +kernel
theorem dX4_leastFirstStep_23 : decode cX4_leastFirstStep 23 = .ok (.getfield 7, 3) := by decide +kernel
theorem dX4_leastFirstStep_26 : decode cX4_leastFirstStep 26 = .ok (.iload_n 2, 1) := by decide +kernel
theorem dX4_leastFirstStep_27 : decode cX4_leastFirstStep 27 = .ok (.iload_n 1, 1) := by decide +kernel
theorem dX4_leastFirstStep_28 : decode cX4_leastFirstStep 28 = .ok (.isub, 1) := by decide +kernel
theorem dX4_leastFirstStep_29 : decode cX4_leastFirstStep 29 = .ok (.invokestatic 31, 3) := by decide +kernel
theorem dX4_leastFirstStep_32 : decode cX4_leastFirstStep 32 = .ok (.iaload, 1) := by decide +kernel
theorem dX4_leastFirstStep_33 : decode cX4_leastFirstStep 33 = .ok (.iadd, 1) := by decide +kernel
theorem dX4_leastFirstStep_34 : decode cX4_leastFirstStep 34 = .ok (.aload_n 0, 1) := by decide +kernel
theorem dX4_leastFirstStep_35 : decode cX4_leastFirstStep 35 = .ok (.getfield 13, 3) := by decide +kernel
theorem dX4_leastFirstStep_38 : decode cX4_leastFirstStep 38 = .ok (.iload_n 1, 1) := by decide +kernel
theorem dX4_leastFirstStep_39 : decode cX4_leastFirstStep 39 = .ok (.iaload, 1) := by decide +kernel
theorem dX4_leastFirstStep_40 : decode cX4_leastFirstStep 40 = .ok (.if_icmp .ne 5, 3) := by decide +kernel
theorem dX4_leastFirstStep_43 : decode cX4_leastFirstStep 43 = .ok (.iload_n 2, 1) := by decide +kernel
theorem dX4_leastFirstStep_44 : decode cX4_leastFirstStep 44 = .ok (.ireturn, 1) := by decide +kernel
theorem dX4_leastFirstStep_45 : decode cX4_leastFirstStep 45 = .ok (.iinc 2 1, 3) := by decide +kernel
theorem dX4_leastFirstStep_48 : decode cX4_leastFirstStep 48 = .ok (.goto (-46), 3) := by decide +kernel
theorem dX4_leastFirstStep_51 : decode cX4_leastFirstStep 51 = .ok (.iconst (-1), 1) := by decide +kernel
theorem dX4_leastFirstStep_52 : decode cX4_leastFirstStep 52 = .ok (.ireturn, 1) := by decide +kernel
theorem dX5_init_0 : decode cX5_init 0 = .ok (.aload_n 0, 1) := by decide +kernel
theorem dX5_init_1 : decode cX5_init 1 = .ok (.invokespecial 3, 3) := by decide +kernel
theorem dX5_init_4 : decode cX5_init 4 = .ok (.aload_n 0, 1) := by decide +kernel
theorem dX5_init_5 : decode cX5_init 5 = .ok (.bipush 24, 2) := by decide +kernel
theorem dX5_init_7 : decode cX5_init 7 = .ok (.newarray .int, 2) := by decide +kernel
theorem dX5_init_9 : decode cX5_init 9 = .ok (.putfield 9, 3) := by decide +kernel
theorem dX5_init_12 : decode cX5_init 12 = .ok (.return_, 1) := by decide +kernel
theorem dX5_isMissing_0 : decode cX5_isMissing 0 = .ok (.aload_n 0, 1) := by decide +kernel
theorem dX5_isMissing_1 : decode cX5_isMissing 1 = .ok (.getfield 15, 3) := by decide +kernel
theorem dX5_isMissing_4 : decode cX5_isMissing 4 = .ok (.ifCond .ne 7, 3) := by decide +kernel
theorem dX5_isMissing_7 : decode cX5_isMissing 7 = .ok (.iconst 1, 1) := by decide +kernel
theorem dX5_isMissing_8 : decode cX5_isMissing 8 = .ok (.goto 4, 3) := by decide +kernel
theorem dX5_isMissing_11 : decode cX5_isMissing 11 = .ok (.iconst 0, 1) := by decide +kernel
theorem dX5_isMissing_12 : decode cX5_isMissing 12 = .ok (.ireturn, 1) := by decide +kernel
theorem dX5_lay_0 : decode cX5_lay 0 = .ok (.aload_n 0, 1) := by decide +kernel
theorem dX5_lay_1 : decode cX5_lay 1 = .ok (.iload_n 1, 1) := by decide +kernel
theorem dX5_lay_2 : decode cX5_lay 2 = .ok (.putfield 15, 3) := by decide +kernel
theorem dX5_lay_5 : decode cX5_lay 5 = .ok (.aload_n 0, 1) := by decide +kernel
theorem dX5_lay_6 : decode cX5_lay 6 = .ok (.iload_n 2, 1) := by decide +kernel
theorem dX5_lay_7 : decode cX5_lay 7 = .ok (.putfield 19, 3) := by decide +kernel
theorem dX5_lay_10 : decode cX5_lay 10 = .ok (.iconst 0, 1) := by decide +kernel
theorem dX5_lay_11 : decode cX5_lay 11 = .ok (.istore_n 3, 1) := by decide +kernel
theorem dX5_lay_12 : decode cX5_lay 12 = .ok (.iload_n 3, 1) := by decide +kernel
theorem dX5_lay_13 : decode cX5_lay 13 = .ok (.bipush 24, 2) := by decide +kernel
theorem dX5_lay_15 : decode cX5_lay 15 = .ok (.if_icmp .ge 16, 3) := by decide +kernel
theorem dX5_lay_18 : decode cX5_lay 18 = .ok (.aload_n 0, 1) := by decide +kernel
theorem dX5_lay_19 : decode cX5_lay 19 = .ok (.getfield 9, 3) := by decide +kernel
theorem dX5_lay_22 : decode cX5_lay 22 = .ok (.iload_n 3, 1) := by decide +kernel
theorem dX5_lay_23 : decode cX5_lay 23 = .ok (.iconst 0, 1) := by decide +kernel
theorem dX5_lay_24 : decode cX5_lay 24 = .ok (.iastore, 1) := by decide +kernel
theorem dX5_lay_25 : decode cX5_lay 25 = .ok (.iinc 3 1, 3) := by decide +kernel
theorem dX5_lay_28 : decode cX5_lay 28 = .ok (.goto (-16), 3) := by decide +kernel
theorem dX5_lay_31 : decode cX5_lay 31 = .ok (.return_, 1) := by decide +kernel
theorem dX5_write_0 : decode cX5_write 0 = .ok (.aload_n 0, 1) := by decide +kernel
theorem dX5_write_1 : decode cX5_write 1 = .ok (.getfield 9, 3) := by decide +kernel
theorem dX5_write_4 : decode cX5_write 4 = .ok (.iload_n 1, 1) := by decide +kernel
theorem dX5_write_5 : decode cX5_write 5 = .ok (.aload_n 0, 1) := by decide +kernel
theorem dX5_write_6 : decode cX5_write 6 = .ok (.getfield 15, 3) := by decide +kernel
theorem dX5_write_9 : decode cX5_write 9 = .ok (.bipush 8, 2) := by decide +kernel
theorem dX5_write_11 : decode cX5_write 11 = .ok (.if_icmp .ne 8, 3) := by decide +kernel
theorem dX5_write_14 : decode cX5_write 14 = .ok (.iload_n 2, 1) := by decide +kernel
theorem dX5_write_15 : decode cX5_write 15 = .ok (.i2b, 1) := by decide +kernel
theorem dX5_write_16 : decode cX5_write 16 = .ok (.goto 18, 3) := by decide +kernel
theorem dX5_write_19 : decode cX5_write 19 = .ok (.aload_n 0, 1) := by decide +kernel
theorem dX5_write_20 : decode cX5_write 20 = .ok (.getfield 15, 3) := by decide +kernel
theorem dX5_write_23 : decode cX5_write 23 = .ok (.bipush 16, 2) := by decide +kernel
theorem dX5_write_25 : decode cX5_write 25 = .ok (.if_icmp .ne 8, 3) := by decide +kernel
theorem dX5_write_28 : decode cX5_write 28 = .ok (.iload_n 2, 1) := by decide +kernel
theorem dX5_write_29 : decode cX5_write 29 = .ok (.i2s, 1) := by decide +kernel
theorem dX5_write_30 : decode cX5_write 30 = .ok (.goto 4, 3) := by decide +kernel
theorem dX5_write_33 : decode cX5_write 33 = .ok (.iload_n 2, 1) := by decide +kernel
theorem dX5_write_34 : decode cX5_write 34 = .ok (.iastore, 1) := by decide +kernel
theorem dX5_write_35 : decode cX5_write 35 = .ok (.return_, 1) := by decide +kernel
theorem dX5_holds_0 : decode cX5_holds 0 = .ok (.iload_n 1, 1) := by decide +kernel
theorem dX5_holds_1 : decode cX5_holds 1 = .ok (.ifCond .lt 29, 3) := by decide +kernel
theorem dX5_holds_4 : decode cX5_holds 4 = .ok (.iload_n 2, 1) := by decide +kernel
theorem dX5_holds_5 : decode cX5_holds 5 = .ok (.ifCond .lt 25, 3) := by decide +kernel
theorem dX5_holds_8 : decode cX5_holds 8 = .ok (.iload_n 2, 1) := by decide +kernel
theorem dX5_holds_9 : decode cX5_holds 9 = .ok (.aload_n 0, 1) := by decide +kernel
theorem dX5_holds_10 : decode cX5_holds 10 = .ok (.getfield 19, 3) := by decide +kernel
theorem dX5_holds_13 : decode cX5_holds 13 = .ok (.if_icmp .gt 17, 3) := by decide +kernel
theorem dX5_holds_16 : decode cX5_holds 16 = .ok (.iload_n 1, 1) := by decide +kernel
theorem dX5_holds_17 : decode cX5_holds 17 = .ok (.aload_n 0, 1) := by decide +kernel
theorem dX5_holds_18 : decode cX5_holds 18 = .ok (.getfield 19, 3) := by decide +kernel
theorem dX5_holds_21 : decode cX5_holds 21 = .ok (.iload_n 2, 1) := by decide +kernel
theorem dX5_holds_22 : decode cX5_holds 22 = .ok (.isub, 1) := by decide +kernel
theorem dX5_holds_23 : decode cX5_holds 23 = .ok (.if_icmp .gt 7, 3) := by decide +kernel
theorem dX5_holds_26 : decode cX5_holds 26 = .ok (.iconst 1, 1) := by decide +kernel
theorem dX5_holds_27 : decode cX5_holds 27 = .ok (.goto 4, 3) := by decide +kernel
theorem dX5_holds_30 : decode cX5_holds 30 = .ok (.iconst 0, 1) := by decide +kernel
theorem dX5_holds_31 : decode cX5_holds 31 = .ok (.ireturn, 1) := by decide +kernel
theorem dX6_init_0 : decode cX6_init 0 = .ok (.aload_n 0, 1) := by decide +kernel
theorem dX6_init_1 : decode cX6_init 1 = .ok (.invokespecial 3, 3) := by decide +kernel
theorem dX6_init_4 : decode cX6_init 4 = .ok (.aload_n 0, 1) := by decide +kernel
theorem dX6_init_5 : decode cX6_init 5 = .ok (.bipush 30, 2) := by decide +kernel
theorem dX6_init_7 : decode cX6_init 7 = .ok (.newarray .int, 2) := by decide +kernel
theorem dX6_init_9 : decode cX6_init 9 = .ok (.putfield 9, 3) := by decide +kernel
theorem dX6_init_12 : decode cX6_init 12 = .ok (.return_, 1) := by decide +kernel
theorem dX6_speak_0 : decode cX6_speak 0 = .ok (.aload_n 0, 1) := by decide +kernel
theorem dX6_speak_1 : decode cX6_speak 1 = .ok (.iconst 0, 1) := by decide +kernel
theorem dX6_speak_2 : decode cX6_speak 2 = .ok (.putfield 15, 3) := by decide +kernel
theorem dX6_speak_5 : decode cX6_speak 5 = .ok (.aload_n 0, 1) := by decide +kernel
theorem dX6_speak_6 : decode cX6_speak 6 = .ok (.iconst 0, 1) := by decide +kernel
theorem dX6_speak_7 : decode cX6_speak 7 = .ok (.putfield 19, 3) := by decide +kernel
theorem dX6_speak_10 : decode cX6_speak 10 = .ok (.aload_n 0, 1) := by decide +kernel
theorem dX6_speak_11 : decode cX6_speak 11 = .ok (.aload_n 1, 1) := by decide +kernel
theorem dX6_speak_12 : decode cX6_speak 12 = .ok (.getfield 23, 3) := by decide +kernel
theorem dX6_speak_15 : decode cX6_speak 15 = .ok (.putfield 28, 3) := by decide +kernel
theorem dX6_speak_18 : decode cX6_speak 18 = .ok (.aload_n 0, 1) := by decide +kernel
theorem dX6_speak_19 : decode cX6_speak 19 = .ok (.iload_n 2, 1) := by decide +kernel
theorem dX6_speak_20 : decode cX6_speak 20 = .ok (.putfield 29, 3) := by decide +kernel
theorem dX6_speak_23 : decode cX6_speak 23 = .ok (.aload_n 0, 1) := by decide +kernel
theorem dX6_speak_24 : decode cX6_speak 24 = .ok (.aload_n 1, 1) := by decide +kernel
theorem dX6_speak_25 : decode cX6_speak 25 = .ok (.getfield 32, 3) := by decide +kernel
theorem dX6_speak_28 : decode cX6_speak 28 = .ok (.putfield 35, 3) := by decide +kernel
theorem dX6_speak_31 : decode cX6_speak 31 = .ok (.iload_n 3, 1) := by decide +kernel
theorem dX6_speak_32 : decode cX6_speak 32 = .ok (.tableswitch 61 0 2 #[28, 39, 50], 28) := by decide +kernel
theorem dX6_speak_60 : decode cX6_speak 60 = .ok (.aload_n 0, 1) := by decide +kernel
theorem dX6_speak_61 : decode cX6_speak 61 = .ok (.aload_n 0, 1) := by decide +kernel
theorem dX6_speak_62 : decode cX6_speak 62 = .ok (.getfield 28, 3) := by decide +kernel
theorem dX6_speak_65 : decode cX6_speak 65 = .ok (.iload 4, 2) := by decide +kernel
theorem dX6_speak_67 : decode cX6_speak 67 = .ok (.invokevirtual 36, 3) := by decide +kernel
theorem dX6_speak_70 : decode cX6_speak 70 = .ok (.ireturn, 1) := by decide +kernel
theorem dX6_speak_71 : decode cX6_speak 71 = .ok (.aload_n 0, 1) := by decide +kernel
theorem dX6_speak_72 : decode cX6_speak 72 = .ok (.aload_n 0, 1) := by decide +kernel
theorem dX6_speak_73 : decode cX6_speak 73 = .ok (.getfield 28, 3) := by decide +kernel
theorem dX6_speak_76 : decode cX6_speak 76 = .ok (.iload 4, 2) := by decide +kernel
theorem dX6_speak_78 : decode cX6_speak 78 = .ok (.invokevirtual 40, 3) := by decide +kernel
theorem dX6_speak_81 : decode cX6_speak 81 = .ok (.ireturn, 1) := by decide +kernel
theorem dX6_speak_82 : decode cX6_speak 82 = .ok (.aload_n 0, 1) := by decide +kernel
theorem dX6_speak_83 : decode cX6_speak 83 = .ok (.aload_n 0, 1) := by decide +kernel
theorem dX6_speak_84 : decode cX6_speak 84 = .ok (.getfield 28, 3) := by decide +kernel
theorem dX6_speak_87 : decode cX6_speak 87 = .ok (.iload 4, 2) := by decide +kernel
theorem dX6_speak_89 : decode cX6_speak 89 = .ok (.invokevirtual 43, 3) := by decide +kernel
theorem dX6_speak_92 : decode cX6_speak 92 = .ok (.ireturn, 1) := by decide +kernel
theorem dX6_speak_93 : decode cX6_speak 93 = .ok (.aload_n 0, 1) := by decide +kernel
theorem dX6_speak_94 : decode cX6_speak 94 = .ok (.aload_n 0, 1) := by decide +kernel
theorem dX6_speak_95 : decode cX6_speak 95 = .ok (.getfield 28, 3) := by decide +kernel
theorem dX6_speak_98 : decode cX6_speak 98 = .ok (.iload 4, 2) := by decide +kernel
theorem dX6_speak_100 : decode cX6_speak 100 = .ok (.invokevirtual 46, 3) := by decide +kernel
theorem dX6_speak_103 : decode cX6_speak 103 = .ok (.ireturn, 1) := by decide +kernel
theorem dX6_begin_0 : decode cX6_begin 0 = .ok (.aload_n 0, 1) := by decide +kernel
theorem dX6_begin_1 : decode cX6_begin 1 = .ok (.getfield 19, 3) := by decide +kernel
theorem dX6_begin_4 : decode cX6_begin 4 = .ok (.bipush 30, 2) := by decide +kernel
theorem dX6_begin_6 : decode cX6_begin 6 = .ok (.if_icmp .ge 23, 3) := by decide +kernel
theorem dX6_begin_9 : decode cX6_begin 9 = .ok (.aload_n 0, 1) := by decide +kernel
theorem dX6_begin_10 : decode cX6_begin 10 = .ok (.getfield 9, 3) := by decide +kernel
theorem dX6_begin_13 : decode cX6_begin 13 = .ok (.aload_n 0, 1) := by decide +kernel
theorem dX6_begin_14 : decode cX6_begin 14 = .ok (.getfield 19, 3) := by decide +kernel
theorem dX6_begin_17 : decode cX6_begin 17 = .ok (.iload_n 1, 1) := by decide +kernel
theorem dX6_begin_18 : decode cX6_begin 18 = .ok (.iastore, 1) := by decide +kernel
theorem dX6_begin_19 : decode cX6_begin 19 = .ok (.aload_n 0, 1) := by decide +kernel
theorem dX6_begin_20 : decode cX6_begin 20 = .ok (.dup, 1) := by decide +kernel
theorem dX6_begin_21 : decode cX6_begin 21 = .ok (.getfield 19, 3) := by decide +kernel
theorem dX6_begin_24 : decode cX6_begin 24 = .ok (.iconst 1, 1) := by decide +kernel
theorem dX6_begin_25 : decode cX6_begin 25 = .ok (.iadd, 1) := by decide +kernel
theorem dX6_begin_26 : decode cX6_begin 26 = .ok (.putfield 19, 3) := by decide +kernel
theorem dX6_begin_29 : decode cX6_begin 29 = .ok (.return_, 1) := by decide +kernel
theorem dX6_says_0 : decode cX6_says 0 = .ok (.iload_n 1, 1) := by decide +kernel
theorem dX6_says_1 : decode cX6_says 1 = .ok (.lookupswitch 74 #[(1, 35), (4, 50), (6, 65)], 35) := by decide +kernel
theorem dX6_says_36 : decode cX6_says 36 = .ok (.aload_n 0, 1) := by decide +kernel
theorem dX6_says_37 : decode cX6_says 37 = .ok (.bipush 20, 2) := by decide +kernel
theorem dX6_says_39 : decode cX6_says 39 = .ok (.invokevirtual 49, 3) := by decide +kernel
theorem dX6_says_42 : decode cX6_says 42 = .ok (.aload_n 0, 1) := by decide +kernel
theorem dX6_says_43 : decode cX6_says 43 = .ok (.iconst 0, 1) := by decide +kernel
theorem dX6_says_44 : decode cX6_says 44 = .ok (.iload_n 2, 1) := by decide +kernel
theorem dX6_says_45 : decode cX6_says 45 = .ok (.invokevirtual 36, 3) := by decide +kernel
theorem dX6_says_48 : decode cX6_says 48 = .ok (.iconst 4, 1) := by decide +kernel
theorem dX6_says_49 : decode cX6_says 49 = .ok (.isub, 1) := by decide +kernel
theorem dX6_says_50 : decode cX6_says 50 = .ok (.ireturn, 1) := by decide +kernel
theorem dX6_says_51 : decode cX6_says 51 = .ok (.aload_n 0, 1) := by decide +kernel
theorem dX6_says_52 : decode cX6_says 52 = .ok (.bipush 50, 2) := by decide +kernel
theorem dX6_says_54 : decode cX6_says 54 = .ok (.invokevirtual 49, 3) := by decide +kernel
theorem dX6_says_57 : decode cX6_says 57 = .ok (.aload_n 0, 1) := by decide +kernel
theorem dX6_says_58 : decode cX6_says 58 = .ok (.iconst 1, 1) := by decide +kernel
theorem dX6_says_59 : decode cX6_says 59 = .ok (.iload_n 2, 1) := by decide +kernel
theorem dX6_says_60 : decode cX6_says 60 = .ok (.invokevirtual 36, 3) := by decide +kernel
theorem dX6_says_63 : decode cX6_says 63 = .ok (.iconst 3, 1) := by decide +kernel
theorem dX6_says_64 : decode cX6_says 64 = .ok (.imul, 1) := by decide +kernel
theorem dX6_says_65 : decode cX6_says 65 = .ok (.ireturn, 1) := by decide +kernel
theorem dX6_says_66 : decode cX6_says 66 = .ok (.aload_n 0, 1) := by decide +kernel
theorem dX6_says_67 : decode cX6_says 67 = .ok (.bipush 70, 2) := by decide +kernel
theorem dX6_says_69 : decode cX6_says 69 = .ok (.invokevirtual 49, 3) := by decide +kernel
theorem dX6_says_72 : decode cX6_says 72 = .ok (.bipush 9, 2) := by decide +kernel
theorem dX6_says_74 : decode cX6_says 74 = .ok (.ireturn, 1) := by decide +kernel
theorem dX6_says_75 : decode cX6_says 75 = .ok (.aload_n 0, 1) := by decide +kernel
theorem dX6_says_76 : decode cX6_says 76 = .ok (.bipush 10, 2) := by decide +kernel
theorem dX6_says_78 : decode cX6_says 78 = .ok (.invokevirtual 49, 3) := by decide +kernel
theorem dX6_says_81 : decode cX6_says 81 = .ok (.iload_n 2, 1) := by decide +kernel
theorem dX6_says_82 : decode cX6_says 82 = .ok (.aload_n 0, 1) := by decide +kernel
theorem dX6_says_83 : decode cX6_says 83 = .ok (.getfield 29, 3) := by decide +kernel
theorem dX6_says_86 : decode cX6_says 86 = .ok (.iadd, 1) := by decide +kernel
theorem dX6_says_87 : decode cX6_says 87 = .ok (.ireturn, 1) := by decide +kernel
theorem dX6_asks_0 : decode cX6_asks 0 = .ok (.iload_n 1, 1) := by decide +kernel
theorem dX6_asks_1 : decode cX6_asks 1 = .ok (.tableswitch 83 2 6 #[35, 83, 83, 50, 65], 35) := by decide +kernel
theorem dX6_asks_36 : decode cX6_asks 36 = .ok (.aload_n 0, 1) := by decide +kernel
theorem dX6_asks_37 : decode cX6_asks 37 = .ok (.bipush 30, 2) := by decide +kernel
theorem dX6_asks_39 : decode cX6_asks 39 = .ok (.invokevirtual 49, 3) := by decide +kernel
theorem dX6_asks_42 : decode cX6_asks 42 = .ok (.iconst 0, 1) := by decide +kernel
theorem dX6_asks_43 : decode cX6_asks 43 = .ok (.aload_n 0, 1) := by decide +kernel
theorem dX6_asks_44 : decode cX6_asks 44 = .ok (.iconst 0, 1) := by decide +kernel
theorem dX6_asks_45 : decode cX6_asks 45 = .ok (.iload_n 2, 1) := by decide +kernel
theorem dX6_asks_46 : decode cX6_asks 46 = .ok (.invokevirtual 40, 3) := by decide +kernel
theorem dX6_asks_49 : decode cX6_asks 49 = .ok (.isub, 1) := by decide +kernel
theorem dX6_asks_50 : decode cX6_asks 50 = .ok (.ireturn, 1) := by decide +kernel
theorem dX6_asks_51 : decode cX6_asks 51 = .ok (.aload_n 0, 1) := by decide +kernel
theorem dX6_asks_52 : decode cX6_asks 52 = .ok (.bipush 60, 2) := by decide +kernel
theorem dX6_asks_54 : decode cX6_asks 54 = .ok (.invokevirtual 49, 3) := by decide +kernel
theorem dX6_asks_57 : decode cX6_asks 57 = .ok (.aload_n 0, 1) := by decide +kernel
theorem dX6_asks_58 : decode cX6_asks 58 = .ok (.iconst 2, 1) := by decide +kernel
theorem dX6_asks_59 : decode cX6_asks 59 = .ok (.iload_n 2, 1) := by decide +kernel
theorem dX6_asks_60 : decode cX6_asks 60 = .ok (.iconst 1, 1) := by decide +kernel
theorem dX6_asks_61 : decode cX6_asks 61 = .ok (.iadd, 1) := by decide +kernel
theorem dX6_asks_62 : decode cX6_asks 62 = .ok (.invokevirtual 40, 3) := by decide +kernel
theorem dX6_asks_65 : decode cX6_asks 65 = .ok (.ireturn, 1) := by decide +kernel
theorem dX6_asks_66 : decode cX6_asks 66 = .ok (.aload_n 0, 1) := by decide +kernel
theorem dX6_asks_67 : decode cX6_asks 67 = .ok (.bipush 71, 2) := by decide +kernel
theorem dX6_asks_69 : decode cX6_asks 69 = .ok (.invokevirtual 49, 3) := by decide +kernel
theorem dX6_asks_72 : decode cX6_asks 72 = .ok (.aload_n 0, 1) := by decide +kernel
theorem dX6_asks_73 : decode cX6_asks 73 = .ok (.iconst 0, 1) := by decide +kernel
theorem dX6_asks_74 : decode cX6_asks 74 = .ok (.iload_n 2, 1) := by decide +kernel
theorem dX6_asks_75 : decode cX6_asks 75 = .ok (.invokevirtual 40, 3) := by decide +kernel
theorem dX6_asks_78 : decode cX6_asks 78 = .ok (.aload_n 0, 1) := by decide +kernel
theorem dX6_asks_79 : decode cX6_asks 79 = .ok (.getfield 35, 3) := by decide +kernel
theorem dX6_asks_82 : decode cX6_asks 82 = .ok (.iadd, 1) := by decide +kernel
theorem dX6_asks_83 : decode cX6_asks 83 = .ok (.ireturn, 1) := by decide +kernel
theorem dX6_asks_84 : decode cX6_asks 84 = .ok (.aload_n 0, 1) := by decide +kernel
theorem dX6_asks_85 : decode cX6_asks 85 = .ok (.bipush 11, 2) := by decide +kernel
theorem dX6_asks_87 : decode cX6_asks 87 = .ok (.invokevirtual 49, 3) := by decide +kernel
theorem dX6_asks_90 : decode cX6_asks 90 = .ok (.aload_n 0, 1) := by decide +kernel
theorem dX6_asks_91 : decode cX6_asks 91 = .ok (.aload_n 0, 1) := by decide +kernel
theorem dX6_asks_92 : decode cX6_asks 92 = .ok (.getfield 28, 3) := by decide +kernel
theorem dX6_asks_95 : decode cX6_asks 95 = .ok (.iload_n 2, 1) := by decide +kernel
theorem dX6_asks_96 : decode cX6_asks 96 = .ok (.invokevirtual 36, 3) := by decide +kernel
theorem dX6_asks_99 : decode cX6_asks 99 = .ok (.iconst 2, 1) := by decide +kernel
theorem dX6_asks_100 : decode cX6_asks 100 = .ok (.imul, 1) := by decide +kernel
theorem dX6_asks_101 : decode cX6_asks 101 = .ok (.ireturn, 1) := by decide +kernel
theorem dX6_hums_0 : decode cX6_hums 0 = .ok (.iload_n 1, 1) := by decide +kernel
theorem dX6_hums_1 : decode cX6_hums 1 = .ok (.lookupswitch 60 #[(3, 27), (4, 42)], 27) := by decide +kernel
theorem dX6_hums_28 : decode cX6_hums 28 = .ok (.aload_n 0, 1) := by decide +kernel
theorem dX6_hums_29 : decode cX6_hums 29 = .ok (.bipush 40, 2) := by decide +kernel
theorem dX6_hums_31 : decode cX6_hums 31 = .ok (.invokevirtual 49, 3) := by decide +kernel
theorem dX6_hums_34 : decode cX6_hums 34 = .ok (.aload_n 0, 1) := by decide +kernel
theorem dX6_hums_35 : decode cX6_hums 35 = .ok (.iconst 0, 1) := by decide +kernel
theorem dX6_hums_36 : decode cX6_hums 36 = .ok (.iload_n 2, 1) := by decide +kernel
theorem dX6_hums_37 : decode cX6_hums 37 = .ok (.iconst 2, 1) := by decide +kernel
theorem dX6_hums_38 : decode cX6_hums 38 = .ok (.idiv, 1) := by decide +kernel
theorem dX6_hums_39 : decode cX6_hums 39 = .ok (.invokevirtual 43, 3) := by decide +kernel
theorem dX6_hums_42 : decode cX6_hums 42 = .ok (.ireturn, 1) := by decide +kernel
theorem dX6_hums_43 : decode cX6_hums 43 = .ok (.aload_n 0, 1) := by decide +kernel
theorem dX6_hums_44 : decode cX6_hums 44 = .ok (.bipush 51, 2) := by decide +kernel
theorem dX6_hums_46 : decode cX6_hums 46 = .ok (.invokevirtual 49, 3) := by decide +kernel
theorem dX6_hums_49 : decode cX6_hums 49 = .ok (.aload_n 0, 1) := by decide +kernel
theorem dX6_hums_50 : decode cX6_hums 50 = .ok (.iconst 1, 1) := by decide +kernel
theorem dX6_hums_51 : decode cX6_hums 51 = .ok (.iload_n 2, 1) := by decide +kernel
theorem dX6_hums_52 : decode cX6_hums 52 = .ok (.invokevirtual 43, 3) := by decide +kernel
theorem dX6_hums_55 : decode cX6_hums 55 = .ok (.aload_n 0, 1) := by decide +kernel
theorem dX6_hums_56 : decode cX6_hums 56 = .ok (.getfield 29, 3) := by decide +kernel
theorem dX6_hums_59 : decode cX6_hums 59 = .ok (.ixor, 1) := by decide +kernel
theorem dX6_hums_60 : decode cX6_hums 60 = .ok (.ireturn, 1) := by decide +kernel
theorem dX6_hums_61 : decode cX6_hums 61 = .ok (.aload_n 0, 1) := by decide +kernel
theorem dX6_hums_62 : decode cX6_hums 62 = .ok (.bipush 12, 2) := by decide +kernel
theorem dX6_hums_64 : decode cX6_hums 64 = .ok (.invokevirtual 49, 3) := by decide +kernel
theorem dX6_hums_67 : decode cX6_hums 67 = .ok (.aload_n 0, 1) := by decide +kernel
theorem dX6_hums_68 : decode cX6_hums 68 = .ok (.aload_n 0, 1) := by decide +kernel
theorem dX6_hums_69 : decode cX6_hums 69 = .ok (.getfield 28, 3) := by decide +kernel
theorem dX6_hums_72 : decode cX6_hums 72 = .ok (.iload_n 2, 1) := by decide +kernel
theorem dX6_hums_73 : decode cX6_hums 73 = .ok (.invokevirtual 40, 3) := by decide +kernel
theorem dX6_hums_76 : decode cX6_hums 76 = .ok (.aload_n 0, 1) := by decide +kernel
theorem dX6_hums_77 : decode cX6_hums 77 = .ok (.getfield 35, 3) := by decide +kernel
theorem dX6_hums_80 : decode cX6_hums 80 = .ok (.isub, 1) := by decide +kernel
theorem dX6_hums_81 : decode cX6_hums 81 = .ok (.ireturn, 1) := by decide +kernel
theorem dX6_parts_0 : decode cX6_parts 0 = .ok (.iload_n 1, 1) := by decide +kernel
theorem dX6_parts_1 : decode cX6_parts 1 = .ok (.lookupswitch 63 #[(1, 27), (4, 27)], 27) := by decide +kernel
theorem dX6_parts_28 : decode cX6_parts 28 = .ok (.aload_n 0, 1) := by decide +kernel
theorem dX6_parts_29 : decode cX6_parts 29 = .ok (.bipush 21, 2) := by decide +kernel
theorem dX6_parts_31 : decode cX6_parts 31 = .ok (.invokevirtual 49, 3) := by decide +kernel
theorem dX6_parts_34 : decode cX6_parts 34 = .ok (.aload_n 0, 1) := by decide +kernel
theorem dX6_parts_35 : decode cX6_parts 35 = .ok (.iconst 0, 1) := by decide +kernel
theorem dX6_parts_36 : decode cX6_parts 36 = .ok (.iload_n 2, 1) := by decide +kernel
theorem dX6_parts_37 : decode cX6_parts 37 = .ok (.invokevirtual 46, 3) := by decide +kernel
theorem dX6_parts_40 : decode cX6_parts 40 = .ok (.istore_n 3, 1) := by decide +kernel
theorem dX6_parts_41 : decode cX6_parts 41 = .ok (.aload_n 0, 1) := by decide +kernel
theorem dX6_parts_42 : decode cX6_parts 42 = .ok (.getfield 15, 3) := by decide +kernel
theorem dX6_parts_45 : decode cX6_parts 45 = .ok (.ifCond .eq 7, 3) := by decide +kernel
theorem dX6_parts_48 : decode cX6_parts 48 = .ok (.iconst 0, 1) := by decide +kernel
theorem dX6_parts_49 : decode cX6_parts 49 = .ok (.goto 14, 3) := by decide +kernel
theorem dX6_parts_52 : decode cX6_parts 52 = .ok (.iload_n 3, 1) := by decide +kernel
theorem dX6_parts_53 : decode cX6_parts 53 = .ok (.aload_n 0, 1) := by decide +kernel
theorem dX6_parts_54 : decode cX6_parts 54 = .ok (.aload_n 0, 1) := by decide +kernel
theorem dX6_parts_55 : decode cX6_parts 55 = .ok (.getfield 28, 3) := by decide +kernel
theorem dX6_parts_58 : decode cX6_parts 58 = .ok (.iconst 1, 1) := by decide +kernel
theorem dX6_parts_59 : decode cX6_parts 59 = .ok (.invokevirtual 40, 3) := by decide +kernel
theorem dX6_parts_62 : decode cX6_parts 62 = .ok (.iadd, 1) := by decide +kernel
theorem dX6_parts_63 : decode cX6_parts 63 = .ok (.ireturn, 1) := by decide +kernel
theorem dX6_parts_64 : decode cX6_parts 64 = .ok (.aload_n 0, 1) := by decide +kernel
theorem dX6_parts_65 : decode cX6_parts 65 = .ok (.bipush 13, 2) := by decide +kernel
theorem dX6_parts_67 : decode cX6_parts 67 = .ok (.invokevirtual 49, 3) := by decide +kernel
theorem dX6_parts_70 : decode cX6_parts 70 = .ok (.aload_n 0, 1) := by decide +kernel
theorem dX6_parts_71 : decode cX6_parts 71 = .ok (.getfield 35, 3) := by decide +kernel
theorem dX6_parts_74 : decode cX6_parts 74 = .ok (.aload_n 0, 1) := by decide +kernel
theorem dX6_parts_75 : decode cX6_parts 75 = .ok (.getfield 29, 3) := by decide +kernel
theorem dX6_parts_78 : decode cX6_parts 78 = .ok (.if_icmp .ne 10, 3) := by decide +kernel
theorem dX6_parts_81 : decode cX6_parts 81 = .ok (.aload_n 0, 1) := by decide +kernel
theorem dX6_parts_82 : decode cX6_parts 82 = .ok (.iconst 1, 1) := by decide +kernel
theorem dX6_parts_83 : decode cX6_parts 83 = .ok (.putfield 15, 3) := by decide +kernel
theorem dX6_parts_86 : decode cX6_parts 86 = .ok (.iconst 0, 1) := by decide +kernel
theorem dX6_parts_87 : decode cX6_parts 87 = .ok (.ireturn, 1) := by decide +kernel
theorem dX6_parts_88 : decode cX6_parts 88 = .ok (.iload_n 2, 1) := by decide +kernel
theorem dX6_parts_89 : decode cX6_parts 89 = .ok (.aload_n 0, 1) := by decide +kernel
theorem dX6_parts_90 : decode cX6_parts 90 = .ok (.getfield 35, 3) := by decide +kernel
theorem dX6_parts_93 : decode cX6_parts 93 = .ok (.aload_n 0, 1) := by decide +kernel
theorem dX6_parts_94 : decode cX6_parts 94 = .ok (.getfield 29, 3) := by decide +kernel
theorem dX6_parts_97 : decode cX6_parts 97 = .ok (.isub, 1) := by decide +kernel
theorem dX6_parts_98 : decode cX6_parts 98 = .ok (.idiv, 1) := by decide +kernel
theorem dX6_parts_99 : decode cX6_parts 99 = .ok (.ireturn, 1) := by decide +kernel
theorem dX7_init_0 : decode cX7_init 0 = .ok (.aload_n 0, 1) := by decide +kernel
theorem dX7_init_1 : decode cX7_init 1 = .ok (.invokespecial 3, 3) := by decide +kernel
theorem dX7_init_4 : decode cX7_init 4 = .ok (.aload_n 0, 1) := by decide +kernel
theorem dX7_init_5 : decode cX7_init 5 = .ok (.new 9, 3) := by decide +kernel
theorem dX7_init_8 : decode cX7_init 8 = .ok (.dup, 1) := by decide +kernel
theorem dX7_init_9 : decode cX7_init 9 = .ok (.invokespecial 11, 3) := by decide +kernel
theorem dX7_init_12 : decode cX7_init 12 = .ok (.putfield 12, 3) := by decide +kernel
theorem dX7_init_15 : decode cX7_init 15 = .ok (.aload_n 0, 1) := by decide +kernel
theorem dX7_init_16 : decode cX7_init 16 = .ok (.iconst 0, 1) := by decide +kernel
theorem dX7_init_17 : decode cX7_init 17 = .ok (.newarray .byte, 2) := by decide +kernel
theorem dX7_init_19 : decode cX7_init 19 = .ok (.putfield 18, 3) := by decide +kernel
theorem dX7_init_22 : decode cX7_init 22 = .ok (.return_, 1) := by decide +kernel
theorem dX7_read_0 : decode cX7_read 0 = .ok (.aload_n 0, 1) := by decide +kernel
theorem dX7_read_1 : decode cX7_read 1 = .ok (.aload_n 1, 1) := by decide +kernel
theorem dX7_read_2 : decode cX7_read 2 = .ok (.putfield 18, 3) := by decide +kernel
theorem dX7_read_5 : decode cX7_read 5 = .ok (.aload_n 0, 1) := by decide +kernel
theorem dX7_read_6 : decode cX7_read 6 = .ok (.iload_n 2, 1) := by decide +kernel
theorem dX7_read_7 : decode cX7_read 7 = .ok (.putfield 22, 3) := by decide +kernel
theorem dX7_read_10 : decode cX7_read 10 = .ok (.aload_n 0, 1) := by decide +kernel
theorem dX7_read_11 : decode cX7_read 11 = .ok (.iload_n 3, 1) := by decide +kernel
theorem dX7_read_12 : decode cX7_read 12 = .ok (.putfield 26, 3) := by decide +kernel
theorem dX7_read_15 : decode cX7_read 15 = .ok (.aload_n 0, 1) := by decide +kernel
theorem dX7_read_16 : decode cX7_read 16 = .ok (.iconst 0, 1) := by decide +kernel
theorem dX7_read_17 : decode cX7_read 17 = .ok (.putfield 29, 3) := by decide +kernel
theorem dX7_read_20 : decode cX7_read 20 = .ok (.aload_n 0, 1) := by decide +kernel
theorem dX7_read_21 : decode cX7_read 21 = .ok (.getfield 12, 3) := by decide +kernel
theorem dX7_read_24 : decode cX7_read 24 = .ok (.invokevirtual 32, 3) := by decide +kernel
theorem dX7_read_27 : decode cX7_read 27 = .ok (.aload_n 0, 1) := by decide +kernel
theorem dX7_read_28 : decode cX7_read 28 = .ok (.iconst 0, 1) := by decide +kernel
theorem dX7_read_29 : decode cX7_read 29 = .ok (.iconst 0, 1) := by decide +kernel
theorem dX7_read_30 : decode cX7_read 30 = .ok (.invokevirtual 35, 3) := by decide +kernel
theorem dX7_read_33 : decode cX7_read 33 = .ok (.ifCond .eq 18, 3) := by decide +kernel
theorem dX7_read_36 : decode cX7_read 36 = .ok (.aload_n 0, 1) := by decide +kernel
theorem dX7_read_37 : decode cX7_read 37 = .ok (.getfield 29, 3) := by decide +kernel
theorem dX7_read_40 : decode cX7_read 40 = .ok (.aload_n 0, 1) := by decide +kernel
theorem dX7_read_41 : decode cX7_read 41 = .ok (.getfield 22, 3) := by decide +kernel
theorem dX7_read_44 : decode cX7_read 44 = .ok (.if_icmp .ne 7, 3) := by decide +kernel
theorem dX7_read_47 : decode cX7_read 47 = .ok (.iconst 1, 1) := by decide +kernel
theorem dX7_read_48 : decode cX7_read 48 = .ok (.goto 4, 3) := by decide +kernel
theorem dX7_read_51 : decode cX7_read 51 = .ok (.iconst 0, 1) := by decide +kernel
theorem dX7_read_52 : decode cX7_read 52 = .ok (.ireturn, 1) := by decide +kernel
theorem dX7_signHere_0 : decode cX7_signHere 0 = .ok (.aload_n 0, 1) := by decide +kernel
theorem dX7_signHere_1 : decode cX7_signHere 1 = .ok (.getfield 29, 3) := by decide +kernel
theorem dX7_signHere_4 : decode cX7_signHere 4 = .ok (.aload_n 0, 1) := by decide +kernel
theorem dX7_signHere_5 : decode cX7_signHere 5 = .ok (.getfield 22, 3) := by decide +kernel
theorem dX7_signHere_8 : decode cX7_signHere 8 = .ok (.if_icmp .ge 27, 3) := by decide +kernel
theorem dX7_signHere_11 : decode cX7_signHere 11 = .ok (.aload_n 0, 1) := by decide +kernel
theorem dX7_signHere_12 : decode cX7_signHere 12 = .ok (.getfield 29, 3) := by decide +kernel
theorem dX7_signHere_15 : decode cX7_signHere 15 = .ok (.aload_n 0, 1) := by decide +kernel
theorem dX7_signHere_16 : decode cX7_signHere 16 = .ok (.getfield 18, 3) := by decide +kernel
theorem dX7_signHere_19 : decode cX7_signHere 19 = .ok (.arraylength, 1) := by decide +kernel
theorem dX7_signHere_20 : decode cX7_signHere 20 = .ok (.if_icmp .ge 15, 3) := by decide +kernel
theorem dX7_signHere_23 : decode cX7_signHere 23 = .ok (.aload_n 0, 1) := by decide +kernel
theorem dX7_signHere_24 : decode cX7_signHere 24 = .ok (.getfield 18, 3) := by decide +kernel
theorem dX7_signHere_27 : decode cX7_signHere 27 = .ok (.aload_n 0, 1) := by decide +kernel
theorem dX7_signHere_28 : decode cX7_signHere 28 = .ok (.getfield 29, 3) := by decide +kernel
theorem dX7_signHere_31 : decode cX7_signHere 31 = .ok (.baload, 1) := by decide +kernel
theorem dX7_signHere_32 : decode cX7_signHere 32 = .ok (.goto 4, 3) := by decide +kernel
theorem dX7_signHere_35 : decode cX7_signHere 35 = .ok (.iconst 0, 1) := by decide +kernel
theorem dX7_signHere_36 : decode cX7_signHere 36 = .ok (.ireturn, 1) := by decide +kernel
theorem dX7_readJoined_0 : decode cX7_readJoined 0 = .ok (.iload_n 1, 1) := by decide +kernel
theorem dX7_readJoined_1 : decode cX7_readJoined 1 = .ok (.iconst 4, 1) := by decide +kernel
theorem dX7_readJoined_2 : decode cX7_readJoined 2 = .ok (.if_icmp .le 9, 3) := by decide +kernel
theorem dX7_readJoined_5 : decode cX7_readJoined 5 = .ok (.aload_n 0, 1) := by decide +kernel
theorem dX7_readJoined_6 : decode cX7_readJoined 6 = .ok (.iload_n 2, 1) := by decide +kernel
theorem dX7_readJoined_7 : decode cX7_readJoined 7 = .ok (.invokevirtual 39, 3) := by decide +kernel
theorem dX7_readJoined_10 : decode cX7_readJoined 10 = .ok (.ireturn, 1) := by decide +kernel
theorem dX7_readJoined_11 : decode cX7_readJoined 11 = .ok (.aload_n 0, 1) := by decide +kernel
theorem dX7_readJoined_12 : decode cX7_readJoined 12 = .ok (.iload_n 1, 1) := by decide +kernel
theorem dX7_readJoined_13 : decode cX7_readJoined 13 = .ok (.iconst 1, 1) := by decide +kernel
theorem dX7_readJoined_14 : decode cX7_readJoined 14 = .ok (.iadd, 1) := by decide +kernel
theorem dX7_readJoined_15 : decode cX7_readJoined 15 = .ok (.iload_n 2, 1) := by decide +kernel
theorem dX7_readJoined_16 : decode cX7_readJoined 16 = .ok (.invokevirtual 35, 3) := by decide +kernel
theorem dX7_readJoined_19 : decode cX7_readJoined 19 = .ok (.ifCond .ne 5, 3) := by decide +kernel
theorem dX7_readJoined_22 : decode cX7_readJoined 22 = .ok (.iconst 0, 1) := by decide +kernel
theorem dX7_readJoined_23 : decode cX7_readJoined 23 = .ok (.ireturn, 1) := by decide +kernel
theorem dX7_readJoined_24 : decode cX7_readJoined 24 = .ok (.iload_n 1, 1) := by decide +kernel
theorem dX7_readJoined_25 : decode cX7_readJoined 25 = .ok (.iconst 2, 1) := by decide +kernel
theorem dX7_readJoined_26 : decode cX7_readJoined 26 = .ok (.if_icmp .ne 7, 3) := by decide +kernel
theorem dX7_readJoined_29 : decode cX7_readJoined 29 = .ok (.iconst 1, 1) := by decide +kernel
theorem dX7_readJoined_30 : decode cX7_readJoined 30 = .ok (.goto 5, 3) := by decide +kernel
theorem dX7_readJoined_33 : decode cX7_readJoined 33 = .ok (.bipush 60, 2) := by decide +kernel
theorem dX7_readJoined_35 : decode cX7_readJoined 35 = .ok (.istore_n 3, 1) := by decide +kernel
theorem dX7_readJoined_36 : decode cX7_readJoined 36 = .ok (.iconst 0, 1) := by decide +kernel
theorem dX7_readJoined_37 : decode cX7_readJoined 37 = .ok (.istore 4, 2) := by decide +kernel
theorem dX7_readJoined_39 : decode cX7_readJoined 39 = .ok (.iload 4, 2) := by decide +kernel
theorem dX7_readJoined_41 : decode cX7_readJoined 41 = .ok (.iload_n 3, 1) := by decide +kernel
theorem dX7_readJoined_42 : decode cX7_readJoined 42 = .ok (.if_icmp .ge 59, 3) := by decide +kernel
theorem dX7_readJoined_45 : decode cX7_readJoined 45 = .ok (.aload_n 0, 1) := by decide +kernel
theorem dX7_readJoined_46 : decode cX7_readJoined 46 = .ok (.invokevirtual 43, 3) := by decide +kernel
theorem dX7_readJoined_49 : decode cX7_readJoined 49 = .ok (.invokestatic 47, 3) := by decide +kernel
theorem dX7_readJoined_52 : decode cX7_readJoined 52 = .ok (.iload_n 1, 1) := by decide +kernel
theorem dX7_readJoined_53 : decode cX7_readJoined 53 = .ok (.if_icmp .ne 48, 3) := by decide +kernel
theorem dX7_readJoined_56 : decode cX7_readJoined 56 = .ok (.aload_n 0, 1) := by decide +kernel
theorem dX7_readJoined_57 : decode cX7_readJoined 57 = .ok (.invokevirtual 43, 3) := by decide +kernel
theorem dX7_readJoined_60 : decode cX7_readJoined 60 = .ok (.istore 5, 2) := by decide +kernel
theorem dX7_readJoined_62 : decode cX7_readJoined 62 = .ok (.aload_n 0, 1) := by decide +kernel
theorem dX7_readJoined_63 : decode cX7_readJoined 63 = .ok (.dup, 1) := by decide +kernel
theorem dX7_readJoined_64 : decode cX7_readJoined 64 = .ok (.getfield 29, 3) := by decide +kernel
theorem dX7_readJoined_67 : decode cX7_readJoined 67 = .ok (.iconst 1, 1) := by decide +kernel
theorem dX7_readJoined_68 : decode cX7_readJoined 68 = .ok (.iadd, 1) := by decide +kernel
theorem dX7_readJoined_69 : decode cX7_readJoined 69 = .ok (.putfield 29, 3) := by decide +kernel
theorem dX7_readJoined_72 : decode cX7_readJoined 72 = .ok (.aload_n 0, 1) := by decide +kernel
theorem dX7_readJoined_73 : decode cX7_readJoined 73 = .ok (.iload_n 1, 1) := by decide +kernel
theorem dX7_readJoined_74 : decode cX7_readJoined 74 = .ok (.iconst 1, 1) := by decide +kernel
theorem dX7_readJoined_75 : decode cX7_readJoined 75 = .ok (.iadd, 1) := by decide +kernel
theorem dX7_readJoined_76 : decode cX7_readJoined 76 = .ok (.iload_n 2, 1) := by decide +kernel
theorem dX7_readJoined_77 : decode cX7_readJoined 77 = .ok (.invokevirtual 35, 3) := by decide +kernel
theorem dX7_readJoined_80 : decode cX7_readJoined 80 = .ok (.ifCond .ne 5, 3) := by decide +kernel
theorem dX7_readJoined_83 : decode cX7_readJoined 83 = .ok (.iconst 0, 1) := by decide +kernel
theorem dX7_readJoined_84 : decode cX7_readJoined 84 = .ok (.ireturn, 1) := by decide +kernel
theorem dX7_readJoined_85 : decode cX7_readJoined 85 = .ok (.aload_n 0, 1) := by decide +kernel
theorem dX7_readJoined_86 : decode cX7_readJoined 86 = .ok (.getfield 12, 3) := by decide +kernel
theorem dX7_readJoined_89 : decode cX7_readJoined 89 = .ok (.iload 5, 2) := by decide +kernel
theorem dX7_readJoined_91 : decode cX7_readJoined 91 = .ok (.ineg, 1) := by decide +kernel
theorem dX7_readJoined_92 : decode cX7_readJoined 92 = .ok (.invokevirtual 51, 3) := by decide +kernel
theorem dX7_readJoined_95 : decode cX7_readJoined 95 = .ok (.iinc 4 1, 3) := by decide +kernel
theorem dX7_readJoined_98 : decode cX7_readJoined 98 = .ok (.goto (-59), 3) := by decide +kernel
theorem dX7_readJoined_101 : decode cX7_readJoined 101 = .ok (.iconst 1, 1) := by decide +kernel
theorem dX7_readJoined_102 : decode cX7_readJoined 102 = .ok (.ireturn, 1) := by decide +kernel
theorem dX7_readSingle_0 : decode cX7_readSingle 0 = .ok (.aload_n 0, 1) := by decide +kernel
theorem dX7_readSingle_1 : decode cX7_readSingle 1 = .ok (.invokevirtual 43, 3) := by decide +kernel
theorem dX7_readSingle_4 : decode cX7_readSingle 4 = .ok (.istore_n 2, 1) := by decide +kernel
theorem dX7_readSingle_5 : decode cX7_readSingle 5 = .ok (.iload_n 2, 1) := by decide +kernel
theorem dX7_readSingle_6 : decode cX7_readSingle 6 = .ok (.invokestatic 55, 3) := by decide +kernel
theorem dX7_readSingle_9 : decode cX7_readSingle 9 = .ok (.ifCond .eq 9, 3) := by decide +kernel
theorem dX7_readSingle_12 : decode cX7_readSingle 12 = .ok (.aload_n 0, 1) := by decide +kernel
theorem dX7_readSingle_13 : decode cX7_readSingle 13 = .ok (.invokevirtual 58, 3) := by decide +kernel
theorem dX7_readSingle_16 : decode cX7_readSingle 16 = .ok (.iconst 1, 1) := by decide +kernel
theorem dX7_readSingle_17 : decode cX7_readSingle 17 = .ok (.ireturn, 1) := by decide +kernel
theorem dX7_readSingle_18 : decode cX7_readSingle 18 = .ok (.iload_n 2, 1) := by decide +kernel
theorem dX7_readSingle_19 : decode cX7_readSingle 19 = .ok (.bipush 33, 2) := by decide +kernel
theorem dX7_readSingle_21 : decode cX7_readSingle 21 = .ok (.if_icmp .eq 15, 3) := by decide +kernel
theorem dX7_readSingle_24 : decode cX7_readSingle 24 = .ok (.iload_n 2, 1) := by decide +kernel
theorem dX7_readSingle_25 : decode cX7_readSingle 25 = .ok (.bipush 40, 2) := by decide +kernel
theorem dX7_readSingle_27 : decode cX7_readSingle 27 = .ok (.if_icmp .eq 9, 3) := by decide +kernel
theorem dX7_readSingle_30 : decode cX7_readSingle 30 = .ok (.aload_n 0, 1) := by decide +kernel
theorem dX7_readSingle_31 : decode cX7_readSingle 31 = .ok (.iload_n 2, 1) := by decide +kernel
theorem dX7_readSingle_32 : decode cX7_readSingle 32 = .ok (.invokevirtual 61, 3) := by decide +kernel
theorem dX7_readSingle_35 : decode cX7_readSingle 35 = .ok (.ireturn, 1) := by decide +kernel
theorem dX7_readSingle_36 : decode cX7_readSingle 36 = .ok (.iload_n 1, 1) := by decide +kernel
theorem dX7_readSingle_37 : decode cX7_readSingle 37 = .ok (.iconst 5, 1) := by decide +kernel
theorem dX7_readSingle_38 : decode cX7_readSingle 38 = .ok (.if_icmp .lt 5, 3) := by decide +kernel
theorem dX7_readSingle_41 : decode cX7_readSingle 41 = .ok (.iconst 0, 1) := by decide +kernel
theorem dX7_readSingle_42 : decode cX7_readSingle 42 = .ok (.ireturn, 1) := by decide +kernel
theorem dX7_readSingle_43 : decode cX7_readSingle 43 = .ok (.aload_n 0, 1) := by decide +kernel
theorem dX7_readSingle_44 : decode cX7_readSingle 44 = .ok (.dup, 1) := by decide +kernel
theorem dX7_readSingle_45 : decode cX7_readSingle 45 = .ok (.getfield 29, 3) := by decide +kernel
theorem dX7_readSingle_48 : decode cX7_readSingle 48 = .ok (.iconst 1, 1) := by decide +kernel
theorem dX7_readSingle_49 : decode cX7_readSingle 49 = .ok (.iadd, 1) := by decide +kernel
theorem dX7_readSingle_50 : decode cX7_readSingle 50 = .ok (.putfield 29, 3) := by decide +kernel
theorem dX7_readSingle_53 : decode cX7_readSingle 53 = .ok (.iload_n 2, 1) := by decide +kernel
theorem dX7_readSingle_54 : decode cX7_readSingle 54 = .ok (.bipush 33, 2) := by decide +kernel
theorem dX7_readSingle_56 : decode cX7_readSingle 56 = .ok (.if_icmp .ne 13, 3) := by decide +kernel
theorem dX7_readSingle_59 : decode cX7_readSingle 59 = .ok (.aload_n 0, 1) := by decide +kernel
theorem dX7_readSingle_60 : decode cX7_readSingle 60 = .ok (.iload_n 1, 1) := by decide +kernel
theorem dX7_readSingle_61 : decode cX7_readSingle 61 = .ok (.iconst 1, 1) := by decide +kernel
theorem dX7_readSingle_62 : decode cX7_readSingle 62 = .ok (.iadd, 1) := by decide +kernel
theorem dX7_readSingle_63 : decode cX7_readSingle 63 = .ok (.invokevirtual 64, 3) := by decide +kernel
theorem dX7_readSingle_66 : decode cX7_readSingle 66 = .ok (.goto 10, 3) := by decide +kernel
theorem dX7_readSingle_69 : decode cX7_readSingle 69 = .ok (.aload_n 0, 1) := by decide +kernel
theorem dX7_readSingle_70 : decode cX7_readSingle 70 = .ok (.iload_n 1, 1) := by decide +kernel
theorem dX7_readSingle_71 : decode cX7_readSingle 71 = .ok (.iconst 1, 1) := by decide +kernel
theorem dX7_readSingle_72 : decode cX7_readSingle 72 = .ok (.iadd, 1) := by decide +kernel
theorem dX7_readSingle_73 : decode cX7_readSingle 73 = .ok (.invokevirtual 67, 3) := by decide +kernel
theorem dX7_readSingle_76 : decode cX7_readSingle 76 = .ok (.ireturn, 1) := by decide +kernel
theorem dX7_readNegated_0 : decode cX7_readNegated 0 = .ok (.aload_n 0, 1) := by decide +kernel
theorem dX7_readNegated_1 : decode cX7_readNegated 1 = .ok (.iload_n 1, 1) := by decide +kernel
theorem dX7_readNegated_2 : decode cX7_readNegated 2 = .ok (.invokevirtual 39, 3) := by decide +kernel
theorem dX7_readNegated_5 : decode cX7_readNegated 5 = .ok (.ifCond .ne 5, 3) := by decide +kernel
theorem dX7_readNegated_8 : decode cX7_readNegated 8 = .ok (.iconst 0, 1) := by decide +kernel
theorem dX7_readNegated_9 : decode cX7_readNegated 9 = .ok (.ireturn, 1) := by decide +kernel
theorem dX7_readNegated_10 : decode cX7_readNegated 10 = .ok (.aload_n 0, 1) := by decide +kernel
theorem dX7_readNegated_11 : decode cX7_readNegated 11 = .ok (.getfield 12, 3) := by decide +kernel
theorem dX7_readNegated_14 : decode cX7_readNegated 14 = .ok (.bipush (-33), 2) := by decide +kernel
theorem dX7_readNegated_16 : decode cX7_readNegated 16 = .ok (.invokevirtual 51, 3) := by decide +kernel
theorem dX7_readNegated_19 : decode cX7_readNegated 19 = .ok (.iconst 1, 1) := by decide +kernel
theorem dX7_readNegated_20 : decode cX7_readNegated 20 = .ok (.ireturn, 1) := by decide +kernel
theorem dX7_readBracketed_0 : decode cX7_readBracketed 0 = .ok (.aload_n 0, 1) := by decide +kernel
theorem dX7_readBracketed_1 : decode cX7_readBracketed 1 = .ok (.iconst 0, 1) := by decide +kernel
theorem dX7_readBracketed_2 : decode cX7_readBracketed 2 = .ok (.iload_n 1, 1) := by decide +kernel
theorem dX7_readBracketed_3 : decode cX7_readBracketed 3 = .ok (.invokevirtual 35, 3) := by decide +kernel
theorem dX7_readBracketed_6 : decode cX7_readBracketed 6 = .ok (.ifCond .eq 12, 3) := by decide +kernel
theorem dX7_readBracketed_9 : decode cX7_readBracketed 9 = .ok (.aload_n 0, 1) := by decide +kernel
theorem dX7_readBracketed_10 : decode cX7_readBracketed 10 = .ok (.invokevirtual 43, 3) := by decide +kernel
theorem dX7_readBracketed_13 : decode cX7_readBracketed 13 = .ok (.bipush 41, 2) := by decide +kernel
theorem dX7_readBracketed_15 : decode cX7_readBracketed 15 = .ok (.if_icmp .eq 5, 3) := by decide +kernel
theorem dX7_readBracketed_18 : decode cX7_readBracketed 18 = .ok (.iconst 0, 1) := by decide +kernel
theorem dX7_readBracketed_19 : decode cX7_readBracketed 19 = .ok (.ireturn, 1) := by decide +kernel
theorem dX7_readBracketed_20 : decode cX7_readBracketed 20 = .ok (.aload_n 0, 1) := by decide +kernel
theorem dX7_readBracketed_21 : decode cX7_readBracketed 21 = .ok (.dup, 1) := by decide +kernel
theorem dX7_readBracketed_22 : decode cX7_readBracketed 22 = .ok (.getfield 29, 3) := by decide +kernel
theorem dX7_readBracketed_25 : decode cX7_readBracketed 25 = .ok (.iconst 1, 1) := by decide +kernel
theorem dX7_readBracketed_26 : decode cX7_readBracketed 26 = .ok (.iadd, 1) := by decide +kernel
theorem dX7_readBracketed_27 : decode cX7_readBracketed 27 = .ok (.putfield 29, 3) := by decide +kernel
theorem dX7_readBracketed_30 : decode cX7_readBracketed 30 = .ok (.iconst 1, 1) := by decide +kernel
theorem dX7_readBracketed_31 : decode cX7_readBracketed 31 = .ok (.ireturn, 1) := by decide +kernel
theorem dX7_readNumber_0 : decode cX7_readNumber 0 = .ok (.iconst 0, 1) := by decide +kernel
theorem dX7_readNumber_1 : decode cX7_readNumber 1 = .ok (.istore_n 1, 1) := by decide +kernel
theorem dX7_readNumber_2 : decode cX7_readNumber 2 = .ok (.iconst 0, 1) := by decide +kernel
theorem dX7_readNumber_3 : decode cX7_readNumber 3 = .ok (.istore_n 2, 1) := by decide +kernel
theorem dX7_readNumber_4 : decode cX7_readNumber 4 = .ok (.iload_n 2, 1) := by decide +kernel
theorem dX7_readNumber_5 : decode cX7_readNumber 5 = .ok (.iconst 4, 1) := by decide +kernel
theorem dX7_readNumber_6 : decode cX7_readNumber 6 = .ok (.if_icmp .ge 42, 3) := by decide +kernel
theorem dX7_readNumber_9 : decode cX7_readNumber 9 = .ok (.aload_n 0, 1) := by decide +kernel
theorem dX7_readNumber_10 : decode cX7_readNumber 10 = .ok (.invokevirtual 43, 3) := by decide +kernel
theorem dX7_readNumber_13 : decode cX7_readNumber 13 = .ok (.invokestatic 55, 3) := by decide +kernel
theorem dX7_readNumber_16 : decode cX7_readNumber 16 = .ok (.ifCond .eq 32, 3) := by decide +kernel
theorem dX7_readNumber_19 : decode cX7_readNumber 19 = .ok (.bipush 10, 2) := by decide +kernel
theorem dX7_readNumber_21 : decode cX7_readNumber 21 = .ok (.iload_n 1, 1) := by decide +kernel
theorem dX7_readNumber_22 : decode cX7_readNumber 22 = .ok (.imul, 1) := by decide +kernel
theorem dX7_readNumber_23 : decode cX7_readNumber 23 = .ok (.aload_n 0, 1) := by decide +kernel
theorem dX7_readNumber_24 : decode cX7_readNumber 24 = .ok (.invokevirtual 43, 3) := by decide +kernel
theorem dX7_readNumber_27 : decode cX7_readNumber 27 = .ok (.iadd, 1) := by decide +kernel
theorem dX7_readNumber_28 : decode cX7_readNumber 28 = .ok (.bipush 48, 2) := by decide +kernel
theorem dX7_readNumber_30 : decode cX7_readNumber 30 = .ok (.isub, 1) := by decide +kernel
theorem dX7_readNumber_31 : decode cX7_readNumber 31 = .ok (.istore_n 1, 1) := by decide +kernel
theorem dX7_readNumber_32 : decode cX7_readNumber 32 = .ok (.aload_n 0, 1) := by decide +kernel
theorem dX7_readNumber_33 : decode cX7_readNumber 33 = .ok (.dup, 1) := by decide +kernel
theorem dX7_readNumber_34 : decode cX7_readNumber 34 = .ok (.getfield 29, 3) := by decide +kernel
theorem dX7_readNumber_37 : decode cX7_readNumber 37 = .ok (.iconst 1, 1) := by decide +kernel
theorem dX7_readNumber_38 : decode cX7_readNumber 38 = .ok (.iadd, 1) := by decide +kernel
theorem dX7_readNumber_39 : decode cX7_readNumber 39 = .ok (.putfield 29, 3) := by decide +kernel
theorem dX7_readNumber_42 : decode cX7_readNumber 42 = .ok (.iinc 2 1, 3) := by decide +kernel
theorem dX7_readNumber_45 : decode cX7_readNumber 45 = .ok (.goto (-41), 3) := by decide +kernel
theorem dX7_readNumber_48 : decode cX7_readNumber 48 = .ok (.aload_n 0, 1) := by decide +kernel
theorem dX7_readNumber_49 : decode cX7_readNumber 49 = .ok (.getfield 12, 3) := by decide +kernel
theorem dX7_readNumber_52 : decode cX7_readNumber 52 = .ok (.iload_n 1, 1) := by decide +kernel
theorem dX7_readNumber_53 : decode cX7_readNumber 53 = .ok (.invokevirtual 51, 3) := by decide +kernel
theorem dX7_readNumber_56 : decode cX7_readNumber 56 = .ok (.return_, 1) := by decide +kernel
theorem dX7_readName_0 : decode cX7_readName 0 = .ok (.iconst 0, 1) := by decide +kernel
theorem dX7_readName_1 : decode cX7_readName 1 = .ok (.istore_n 2, 1) := by decide +kernel
theorem dX7_readName_2 : decode cX7_readName 2 = .ok (.iload_n 2, 1) := by decide +kernel
theorem dX7_readName_3 : decode cX7_readName 3 = .ok (.iconst 3, 1) := by decide +kernel
theorem dX7_readName_4 : decode cX7_readName 4 = .ok (.if_icmp .ge 47, 3) := by decide +kernel
theorem dX7_readName_7 : decode cX7_readName 7 = .ok (.getstatic 70, 3) := by decide +kernel
theorem dX7_readName_10 : decode cX7_readName 10 = .ok (.iconst 3, 1) := by decide +kernel
theorem dX7_readName_11 : decode cX7_readName 11 = .ok (.aload_n 0, 1) := by decide +kernel
theorem dX7_readName_12 : decode cX7_readName 12 = .ok (.getfield 26, 3) := by decide +kernel
theorem dX7_readName_15 : decode cX7_readName 15 = .ok (.imul, 1) := by decide +kernel
theorem dX7_readName_16 : decode cX7_readName 16 = .ok (.iload_n 2, 1) := by decide +kernel
theorem dX7_readName_17 : decode cX7_readName 17 = .ok (.iadd, 1) := by decide +kernel
theorem dX7_readName_18 : decode cX7_readName 18 = .ok (.caload, 1) := by decide +kernel
theorem dX7_readName_19 : decode cX7_readName 19 = .ok (.iload_n 1, 1) := by decide +kernel
theorem dX7_readName_20 : decode cX7_readName 20 = .ok (.if_icmp .ne 25, 3) := by decide +kernel
theorem dX7_readName_23 : decode cX7_readName 23 = .ok (.aload_n 0, 1) := by decide +kernel
theorem dX7_readName_24 : decode cX7_readName 24 = .ok (.getfield 12, 3) := by decide +kernel
theorem dX7_readName_27 : decode cX7_readName 27 = .ok (.iconst (-1), 1) := by decide +kernel
theorem dX7_readName_28 : decode cX7_readName 28 = .ok (.iload_n 2, 1) := by decide +kernel
theorem dX7_readName_29 : decode cX7_readName 29 = .ok (.isub, 1) := by decide +kernel
theorem dX7_readName_30 : decode cX7_readName 30 = .ok (.invokevirtual 51, 3) := by decide +kernel
theorem dX7_readName_33 : decode cX7_readName 33 = .ok (.aload_n 0, 1) := by decide +kernel
theorem dX7_readName_34 : decode cX7_readName 34 = .ok (.dup, 1) := by decide +kernel
theorem dX7_readName_35 : decode cX7_readName 35 = .ok (.getfield 29, 3) := by decide +kernel
theorem dX7_readName_38 : decode cX7_readName 38 = .ok (.iconst 1, 1) := by decide +kernel
theorem dX7_readName_39 : decode cX7_readName 39 = .ok (.iadd, 1) := by decide +kernel
theorem dX7_readName_40 : decode cX7_readName 40 = .ok (.putfield 29, 3) := by decide +kernel
theorem dX7_readName_43 : decode cX7_readName 43 = .ok (.iconst 1, 1) := by decide +kernel
theorem dX7_readName_44 : decode cX7_readName 44 = .ok (.ireturn, 1) := by decide +kernel
theorem dX7_readName_45 : decode cX7_readName 45 = .ok (.iinc 2 1, 3) := by decide +kernel
theorem dX7_readName_48 : decode cX7_readName 48 = .ok (.goto (-46), 3) := by decide +kernel
theorem dX7_readName_51 : decode cX7_readName 51 = .ok (.iconst 0, 1) := by decide +kernel
theorem dX7_readName_52 : decode cX7_readName 52 = .ok (.ireturn, 1) := by decide +kernel
theorem dX7_isDigit_0 : decode cX7_isDigit 0 = .ok (.iload_n 0, 1) := by decide +kernel
theorem dX7_isDigit_1 : decode cX7_isDigit 1 = .ok (.bipush 48, 2) := by decide +kernel
theorem dX7_isDigit_3 : decode cX7_isDigit 3 = .ok (.if_icmp .lt 13, 3) := by decide +kernel
theorem dX7_isDigit_6 : decode cX7_isDigit 6 = .ok (.iload_n 0, 1) := by decide +kernel
theorem dX7_isDigit_7 : decode cX7_isDigit 7 = .ok (.bipush 57, 2) := by decide +kernel
theorem dX7_isDigit_9 : decode cX7_isDigit 9 = .ok (.if_icmp .gt 7, 3) := by decide +kernel
theorem dX7_isDigit_12 : decode cX7_isDigit 12 = .ok (.iconst 1, 1) := by decide +kernel
theorem dX7_isDigit_13 : decode cX7_isDigit 13 = .ok (.goto 4, 3) := by decide +kernel
theorem dX7_isDigit_16 : decode cX7_isDigit 16 = .ok (.iconst 0, 1) := by decide +kernel
theorem dX7_isDigit_17 : decode cX7_isDigit 17 = .ok (.ireturn, 1) := by decide +kernel
theorem dX7_levelOf_0 : decode cX7_levelOf 0 = .ok (.iload_n 0, 1) := by decide +kernel
theorem dX7_levelOf_1 : decode cX7_levelOf 1 = .ok (.lookupswitch 101 #[(37, 99), (38, 93), (42, 99), (43, 97), (45, 97), (47, 99), (60, 95), (61, 95), (62, 95), (124, 91)], 91) := by decide +kernel
theorem dX7_levelOf_92 : decode cX7_levelOf 92 = .ok (.iconst 0, 1) := by decide +kernel
theorem dX7_levelOf_93 : decode cX7_levelOf 93 = .ok (.ireturn, 1) := by decide +kernel
theorem dX7_levelOf_94 : decode cX7_levelOf 94 = .ok (.iconst 1, 1) := by decide +kernel
theorem dX7_levelOf_95 : decode cX7_levelOf 95 = .ok (.ireturn, 1) := by decide +kernel
theorem dX7_levelOf_96 : decode cX7_levelOf 96 = .ok (.iconst 2, 1) := by decide +kernel
theorem dX7_levelOf_97 : decode cX7_levelOf 97 = .ok (.ireturn, 1) := by decide +kernel
theorem dX7_levelOf_98 : decode cX7_levelOf 98 = .ok (.iconst 3, 1) := by decide +kernel
theorem dX7_levelOf_99 : decode cX7_levelOf 99 = .ok (.ireturn, 1) := by decide +kernel
theorem dX7_levelOf_100 : decode cX7_levelOf 100 = .ok (.iconst 4, 1) := by decide +kernel
theorem dX7_levelOf_101 : decode cX7_levelOf 101 = .ok (.ireturn, 1) := by decide +kernel
theorem dX7_levelOf_102 : decode cX7_levelOf 102 = .ok (.iconst (-1), 1) := by decide +kernel
theorem dX7_levelOf_103 : decode cX7_levelOf 103 = .ok (.ireturn, 1) := by decide +kernel
theorem dX8_init_0 : decode cX8_init 0 = .ok (.aload_n 0, 1) := by decide +kernel
theorem dX8_init_1 : decode cX8_init 1 = .ok (.invokespecial 3, 3) := by decide +kernel
theorem dX8_init_4 : decode cX8_init 4 = .ok (.aload_n 0, 1) := by decide +kernel
theorem dX8_init_5 : decode cX8_init 5 = .ok (.new 9, 3) := by decide +kernel
theorem dX8_init_8 : decode cX8_init 8 = .ok (.dup, 1) := by decide +kernel
theorem dX8_init_9 : decode cX8_init 9 = .ok (.invokespecial 11, 3) := by decide +kernel
theorem dX8_init_12 : decode cX8_init 12 = .ok (.putfield 12, 3) := by decide +kernel
theorem dX8_init_15 : decode cX8_init 15 = .ok (.aload_n 0, 1) := by decide +kernel
theorem dX8_init_16 : decode cX8_init 16 = .ok (.iconst 2, 1) := by decide +kernel
theorem dX8_init_17 : decode cX8_init 17 = .ok (.anewarray 18, 3) := by decide +kernel
theorem dX8_init_20 : decode cX8_init 20 = .ok (.putfield 20, 3) := by decide +kernel
theorem dX8_init_23 : decode cX8_init 23 = .ok (.aload_n 0, 1) := by decide +kernel
theorem dX8_init_24 : decode cX8_init 24 = .ok (.bipush 60, 2) := by decide +kernel
theorem dX8_init_26 : decode cX8_init 26 = .ok (.newarray .byte, 2) := by decide +kernel
theorem dX8_init_28 : decode cX8_init 28 = .ok (.putfield 24, 3) := by decide +kernel
theorem dX8_init_31 : decode cX8_init 31 = .ok (.aload_n 0, 1) := by decide +kernel
theorem dX8_init_32 : decode cX8_init 32 = .ok (.bipush 24, 2) := by decide +kernel
theorem dX8_init_34 : decode cX8_init 34 = .ok (.newarray .int, 2) := by decide +kernel
theorem dX8_init_36 : decode cX8_init 36 = .ok (.putfield 28, 3) := by decide +kernel
theorem dX8_init_39 : decode cX8_init 39 = .ok (.iconst 0, 1) := by decide +kernel
theorem dX8_init_40 : decode cX8_init 40 = .ok (.istore_n 1, 1) := by decide +kernel
theorem dX8_init_41 : decode cX8_init 41 = .ok (.iload_n 1, 1) := by decide +kernel
theorem dX8_init_42 : decode cX8_init 42 = .ok (.iconst 2, 1) := by decide +kernel
theorem dX8_init_43 : decode cX8_init 43 = .ok (.if_icmp .ge 22, 3) := by decide +kernel
theorem dX8_init_46 : decode cX8_init 46 = .ok (.aload_n 0, 1) := by decide +kernel
theorem dX8_init_47 : decode cX8_init 47 = .ok (.getfield 20, 3) := by decide +kernel
theorem dX8_init_50 : decode cX8_init 50 = .ok (.iload_n 1, 1) := by decide +kernel
theorem dX8_init_51 : decode cX8_init 51 = .ok (.new 18, 3) := by decide +kernel
theorem dX8_init_54 : decode cX8_init 54 = .ok (.dup, 1) := by decide +kernel
theorem dX8_init_55 : decode cX8_init 55 = .ok (.invokespecial 32, 3) := by decide +kernel
theorem dX8_init_58 : decode cX8_init 58 = .ok (.aastore, 1) := by decide +kernel
theorem dX8_init_59 : decode cX8_init 59 = .ok (.iinc 1 1, 3) := by decide +kernel
theorem dX8_init_62 : decode cX8_init 62 = .ok (.goto (-21), 3) := by decide +kernel
theorem dX8_init_65 : decode cX8_init 65 = .ok (.return_, 1) := by decide +kernel
theorem dX8_giveUse_0 : decode cX8_giveUse 0 = .ok (.aload_n 0, 1) := by decide +kernel
theorem dX8_giveUse_1 : decode cX8_giveUse 1 = .ok (.getfield 20, 3) := by decide +kernel
theorem dX8_giveUse_4 : decode cX8_giveUse 4 = .ok (.iload_n 1, 1) := by decide +kernel
theorem dX8_giveUse_5 : decode cX8_giveUse 5 = .ok (.aaload, 1) := by decide +kernel
theorem dX8_giveUse_6 : decode cX8_giveUse 6 = .ok (.astore 5, 2) := by decide +kernel
theorem dX8_giveUse_8 : decode cX8_giveUse 8 = .ok (.iload_n 1, 1) := by decide +kernel
theorem dX8_giveUse_9 : decode cX8_giveUse 9 = .ok (.ifCond .ne 33, 3) := by decide +kernel
theorem dX8_giveUse_12 : decode cX8_giveUse 12 = .ok (.aload 5, 2) := by decide +kernel
theorem dX8_giveUse_14 : decode cX8_giveUse 14 = .ok (.invokevirtual 33, 3) := by decide +kernel
theorem dX8_giveUse_17 : decode cX8_giveUse 17 = .ok (.ifCond .eq 15, 3) := by decide +kernel
theorem dX8_giveUse_20 : decode cX8_giveUse 20 = .ok (.aload 5, 2) := by decide +kernel
theorem dX8_giveUse_22 : decode cX8_giveUse 22 = .ok (.iload_n 2, 1) := by decide +kernel
theorem dX8_giveUse_23 : decode cX8_giveUse 23 = .ok (.iload_n 3, 1) := by decide +kernel
theorem dX8_giveUse_24 : decode cX8_giveUse 24 = .ok (.iload 4, 2) := by decide +kernel
theorem dX8_giveUse_26 : decode cX8_giveUse 26 = .ok (.invokevirtual 37, 3) := by decide +kernel
theorem dX8_giveUse_29 : decode cX8_giveUse 29 = .ok (.goto 6, 3) := by decide +kernel
theorem dX8_giveUse_32 : decode cX8_giveUse 32 = .ok (.iload_n 2, 1) := by decide +kernel
theorem dX8_giveUse_33 : decode cX8_giveUse 33 = .ok (.iload_n 3, 1) := by decide +kernel
theorem dX8_giveUse_34 : decode cX8_giveUse 34 = .ok (.iadd, 1) := by decide +kernel
theorem dX8_giveUse_35 : decode cX8_giveUse 35 = .ok (.iconst 1, 1) := by decide +kernel
theorem dX8_giveUse_36 : decode cX8_giveUse 36 = .ok (.bipush 99, 2) := by decide +kernel
theorem dX8_giveUse_38 : decode cX8_giveUse 38 = .ok (.invokestatic 41, 3) := by decide +kernel
theorem dX8_giveUse_41 : decode cX8_giveUse 41 = .ok (.ireturn, 1) := by decide +kernel
theorem dX8_giveUse_42 : decode cX8_giveUse 42 = .ok (.aload 5, 2) := by decide +kernel
theorem dX8_giveUse_44 : decode cX8_giveUse 44 = .ok (.invokevirtual 33, 3) := by decide +kernel
theorem dX8_giveUse_47 : decode cX8_giveUse 47 = .ok (.ifCond .eq 15, 3) := by decide +kernel
theorem dX8_giveUse_50 : decode cX8_giveUse 50 = .ok (.aload 5, 2) := by decide +kernel
theorem dX8_giveUse_52 : decode cX8_giveUse 52 = .ok (.iload_n 2, 1) := by decide +kernel
theorem dX8_giveUse_53 : decode cX8_giveUse 53 = .ok (.iload_n 3, 1) := by decide +kernel
theorem dX8_giveUse_54 : decode cX8_giveUse 54 = .ok (.iload 4, 2) := by decide +kernel
theorem dX8_giveUse_56 : decode cX8_giveUse 56 = .ok (.invokevirtual 37, 3) := by decide +kernel
theorem dX8_giveUse_59 : decode cX8_giveUse 59 = .ok (.goto 6, 3) := by decide +kernel
theorem dX8_giveUse_62 : decode cX8_giveUse 62 = .ok (.iload_n 2, 1) := by decide +kernel
theorem dX8_giveUse_63 : decode cX8_giveUse 63 = .ok (.iload_n 3, 1) := by decide +kernel
theorem dX8_giveUse_64 : decode cX8_giveUse 64 = .ok (.imul, 1) := by decide +kernel
theorem dX8_giveUse_65 : decode cX8_giveUse 65 = .ok (.bipush (-99), 2) := by decide +kernel
theorem dX8_giveUse_67 : decode cX8_giveUse 67 = .ok (.bipush 99, 2) := by decide +kernel
theorem dX8_giveUse_69 : decode cX8_giveUse 69 = .ok (.invokestatic 41, 3) := by decide +kernel
theorem dX8_giveUse_72 : decode cX8_giveUse 72 = .ok (.ireturn, 1) := by decide +kernel
theorem dX8_senseOf_0 : decode cX8_senseOf 0 = .ok (.aload_n 0, 1) := by decide +kernel
theorem dX8_senseOf_1 : decode cX8_senseOf 1 = .ok (.iconst 1, 1) := by decide +kernel
theorem dX8_senseOf_2 : decode cX8_senseOf 2 = .ok (.aload_n 1, 1) := by decide +kernel
theorem dX8_senseOf_3 : decode cX8_senseOf 3 = .ok (.getfield 44, 3) := by decide +kernel
theorem dX8_senseOf_6 : decode cX8_senseOf 6 = .ok (.aload_n 1, 1) := by decide +kernel
theorem dX8_senseOf_7 : decode cX8_senseOf 7 = .ok (.getfield 50, 3) := by decide +kernel
theorem dX8_senseOf_10 : decode cX8_senseOf 10 = .ok (.aload_n 1, 1) := by decide +kernel
theorem dX8_senseOf_11 : decode cX8_senseOf 11 = .ok (.invokevirtual 53, 3) := by decide +kernel
theorem dX8_senseOf_14 : decode cX8_senseOf 14 = .ok (.invokevirtual 57, 3) := by decide +kernel
theorem dX8_senseOf_17 : decode cX8_senseOf 17 = .ok (.ireturn, 1) := by decide +kernel
theorem dX8_copyFrom_0 : decode cX8_copyFrom 0 = .ok (.aload_n 0, 1) := by decide +kernel
theorem dX8_copyFrom_1 : decode cX8_copyFrom 1 = .ok (.getfield 12, 3) := by decide +kernel
theorem dX8_copyFrom_4 : decode cX8_copyFrom 4 = .ok (.aload_n 1, 1) := by decide +kernel
theorem dX8_copyFrom_5 : decode cX8_copyFrom 5 = .ok (.getfield 12, 3) := by decide +kernel
theorem dX8_copyFrom_8 : decode cX8_copyFrom 8 = .ok (.invokevirtual 61, 3) := by decide +kernel
theorem dX8_copyFrom_11 : decode cX8_copyFrom 11 = .ok (.iconst 0, 1) := by decide +kernel
theorem dX8_copyFrom_12 : decode cX8_copyFrom 12 = .ok (.istore_n 2, 1) := by decide +kernel
theorem dX8_copyFrom_13 : decode cX8_copyFrom 13 = .ok (.iload_n 2, 1) := by decide +kernel
theorem dX8_copyFrom_14 : decode cX8_copyFrom 14 = .ok (.iconst 2, 1) := by decide +kernel
theorem dX8_copyFrom_15 : decode cX8_copyFrom 15 = .ok (.if_icmp .ge 24, 3) := by decide +kernel
theorem dX8_copyFrom_18 : decode cX8_copyFrom 18 = .ok (.aload_n 0, 1) := by decide +kernel
theorem dX8_copyFrom_19 : decode cX8_copyFrom 19 = .ok (.getfield 20, 3) := by decide +kernel
theorem dX8_copyFrom_22 : decode cX8_copyFrom 22 = .ok (.iload_n 2, 1) := by decide +kernel
theorem dX8_copyFrom_23 : decode cX8_copyFrom 23 = .ok (.aaload, 1) := by decide +kernel
theorem dX8_copyFrom_24 : decode cX8_copyFrom 24 = .ok (.aload_n 1, 1) := by decide +kernel
theorem dX8_copyFrom_25 : decode cX8_copyFrom 25 = .ok (.getfield 20, 3) := by decide +kernel
theorem dX8_copyFrom_28 : decode cX8_copyFrom 28 = .ok (.iload_n 2, 1) := by decide +kernel
theorem dX8_copyFrom_29 : decode cX8_copyFrom 29 = .ok (.aaload, 1) := by decide +kernel
theorem dX8_copyFrom_30 : decode cX8_copyFrom 30 = .ok (.invokevirtual 65, 3) := by decide +kernel
theorem dX8_copyFrom_33 : decode cX8_copyFrom 33 = .ok (.iinc 2 1, 3) := by decide +kernel
theorem dX8_copyFrom_36 : decode cX8_copyFrom 36 = .ok (.goto (-23), 3) := by decide +kernel
theorem dX8_copyFrom_39 : decode cX8_copyFrom 39 = .ok (.aload_n 1, 1) := by decide +kernel
theorem dX8_copyFrom_40 : decode cX8_copyFrom 40 = .ok (.getfield 24, 3) := by decide +kernel
theorem dX8_copyFrom_43 : decode cX8_copyFrom 43 = .ok (.iconst 0, 1) := by decide +kernel
theorem dX8_copyFrom_44 : decode cX8_copyFrom 44 = .ok (.aload_n 0, 1) := by decide +kernel
theorem dX8_copyFrom_45 : decode cX8_copyFrom 45 = .ok (.getfield 24, 3) := by decide +kernel
theorem dX8_copyFrom_48 : decode cX8_copyFrom 48 = .ok (.iconst 0, 1) := by decide +kernel
theorem dX8_copyFrom_49 : decode cX8_copyFrom 49 = .ok (.aload_n 1, 1) := by decide +kernel
theorem dX8_copyFrom_50 : decode cX8_copyFrom 50 = .ok (.getfield 68, 3) := by decide +kernel
theorem dX8_copyFrom_53 : decode cX8_copyFrom 53 = .ok (.invokestatic 71, 3) := by decide +kernel
theorem dX8_copyFrom_56 : decode cX8_copyFrom 56 = .ok (.aload_n 0, 1) := by decide +kernel
theorem dX8_copyFrom_57 : decode cX8_copyFrom 57 = .ok (.aload_n 1, 1) := by decide +kernel
theorem dX8_copyFrom_58 : decode cX8_copyFrom 58 = .ok (.getfield 68, 3) := by decide +kernel
theorem dX8_copyFrom_61 : decode cX8_copyFrom 61 = .ok (.putfield 68, 3) := by decide +kernel
theorem dX8_copyFrom_64 : decode cX8_copyFrom 64 = .ok (.aload_n 1, 1) := by decide +kernel
theorem dX8_copyFrom_65 : decode cX8_copyFrom 65 = .ok (.getfield 28, 3) := by decide +kernel
theorem dX8_copyFrom_68 : decode cX8_copyFrom 68 = .ok (.iconst 0, 1) := by decide +kernel
theorem dX8_copyFrom_69 : decode cX8_copyFrom 69 = .ok (.aload_n 0, 1) := by decide +kernel
theorem dX8_copyFrom_70 : decode cX8_copyFrom 70 = .ok (.getfield 28, 3) := by decide +kernel
theorem dX8_copyFrom_73 : decode cX8_copyFrom 73 = .ok (.iconst 0, 1) := by decide +kernel
theorem dX8_copyFrom_74 : decode cX8_copyFrom 74 = .ok (.aload_n 1, 1) := by decide +kernel
theorem dX8_copyFrom_75 : decode cX8_copyFrom 75 = .ok (.getfield 77, 3) := by decide +kernel
theorem dX8_copyFrom_78 : decode cX8_copyFrom 78 = .ok (.invokestatic 71, 3) := by decide +kernel
theorem dX8_copyFrom_81 : decode cX8_copyFrom 81 = .ok (.aload_n 0, 1) := by decide +kernel
theorem dX8_copyFrom_82 : decode cX8_copyFrom 82 = .ok (.aload_n 1, 1) := by decide +kernel
theorem dX8_copyFrom_83 : decode cX8_copyFrom 83 = .ok (.getfield 77, 3) := by decide +kernel
theorem dX8_copyFrom_86 : decode cX8_copyFrom 86 = .ok (.putfield 77, 3) := by decide +kernel
theorem dX8_copyFrom_89 : decode cX8_copyFrom 89 = .ok (.return_, 1) := by decide +kernel
theorem dX9_init_0 : decode cX9_init 0 = .ok (.aload_n 0, 1) := by decide +kernel
theorem dX9_init_1 : decode cX9_init 1 = .ok (.invokespecial 3, 3) := by decide +kernel
theorem dX9_init_4 : decode cX9_init 4 = .ok (.aload_n 0, 1) := by decide +kernel
theorem dX9_init_5 : decode cX9_init 5 = .ok (.new 9, 3) := by decide +kernel
theorem dX9_init_8 : decode cX9_init 8 = .ok (.dup, 1) := by decide +kernel
theorem dX9_init_9 : decode cX9_init 9 = .ok (.invokespecial 11, 3) := by decide +kernel
theorem dX9_init_12 : decode cX9_init 12 = .ok (.putfield 12, 3) := by decide +kernel
theorem dX9_init_15 : decode cX9_init 15 = .ok (.aload_n 0, 1) := by decide +kernel
theorem dX9_init_16 : decode cX9_init 16 = .ok (.new 9, 3) := by decide +kernel
theorem dX9_init_19 : decode cX9_init 19 = .ok (.dup, 1) := by decide +kernel
theorem dX9_init_20 : decode cX9_init 20 = .ok (.invokespecial 11, 3) := by decide +kernel
theorem dX9_init_23 : decode cX9_init 23 = .ok (.putfield 16, 3) := by decide +kernel
theorem dX9_init_26 : decode cX9_init 26 = .ok (.aload_n 0, 1) := by decide +kernel
theorem dX9_init_27 : decode cX9_init 27 = .ok (.new 19, 3) := by decide +kernel
theorem dX9_init_30 : decode cX9_init 30 = .ok (.dup, 1) := by decide +kernel
theorem dX9_init_31 : decode cX9_init 31 = .ok (.invokespecial 21, 3) := by decide +kernel
theorem dX9_init_34 : decode cX9_init 34 = .ok (.putfield 22, 3) := by decide +kernel
theorem dX9_init_37 : decode cX9_init 37 = .ok (.aload_n 0, 1) := by decide +kernel
theorem dX9_init_38 : decode cX9_init 38 = .ok (.new 26, 3) := by decide +kernel
theorem dX9_init_41 : decode cX9_init 41 = .ok (.dup, 1) := by decide +kernel
theorem dX9_init_42 : decode cX9_init 42 = .ok (.invokespecial 28, 3) := by decide +kernel
theorem dX9_init_45 : decode cX9_init 45 = .ok (.putfield 29, 3) := by decide +kernel
theorem dX9_init_48 : decode cX9_init 48 = .ok (.aload_n 0, 1) := by decide +kernel
theorem dX9_init_49 : decode cX9_init 49 = .ok (.new 33, 3) := by decide +kernel
theorem dX9_init_52 : decode cX9_init 52 = .ok (.dup, 1) := by decide +kernel
theorem dX9_init_53 : decode cX9_init 53 = .ok (.invokespecial 35, 3) := by decide +kernel
theorem dX9_init_56 : decode cX9_init 56 = .ok (.putfield 36, 3) := by decide +kernel
theorem dX9_init_59 : decode cX9_init 59 = .ok (.aload_n 0, 1) := by decide +kernel
theorem dX9_init_60 : decode cX9_init 60 = .ok (.new 40, 3) := by decide +kernel
theorem dX9_init_63 : decode cX9_init 63 = .ok (.dup, 1) := by decide +kernel
theorem dX9_init_64 : decode cX9_init 64 = .ok (.bipush 12, 2) := by decide +kernel
theorem dX9_init_66 : decode cX9_init 66 = .ok (.invokespecial 42, 3) := by decide +kernel
theorem dX9_init_69 : decode cX9_init 69 = .ok (.putfield 45, 3) := by decide +kernel
theorem dX9_init_72 : decode cX9_init 72 = .ok (.aload_n 0, 1) := by decide +kernel
theorem dX9_init_73 : decode cX9_init 73 = .ok (.new 40, 3) := by decide +kernel
theorem dX9_init_76 : decode cX9_init 76 = .ok (.dup, 1) := by decide +kernel
theorem dX9_init_77 : decode cX9_init 77 = .ok (.bipush 6, 2) := by decide +kernel
theorem dX9_init_79 : decode cX9_init 79 = .ok (.invokespecial 42, 3) := by decide +kernel
theorem dX9_init_82 : decode cX9_init 82 = .ok (.putfield 49, 3) := by decide +kernel
theorem dX9_init_85 : decode cX9_init 85 = .ok (.aload_n 0, 1) := by decide +kernel
theorem dX9_init_86 : decode cX9_init 86 = .ok (.new 52, 3) := by decide +kernel
theorem dX9_init_89 : decode cX9_init 89 = .ok (.dup, 1) := by decide +kernel
theorem dX9_init_90 : decode cX9_init 90 = .ok (.invokespecial 54, 3) := by decide +kernel
theorem dX9_init_93 : decode cX9_init 93 = .ok (.putfield 55, 3) := by decide +kernel
theorem dX9_init_96 : decode cX9_init 96 = .ok (.aload_n 0, 1) := by decide +kernel
theorem dX9_init_97 : decode cX9_init 97 = .ok (.new 59, 3) := by decide +kernel
theorem dX9_init_100 : decode cX9_init 100 = .ok (.dup, 1) := by decide +kernel
theorem dX9_init_101 : decode cX9_init 101 = .ok (.invokespecial 61, 3) := by decide +kernel
theorem dX9_init_104 : decode cX9_init 104 = .ok (.putfield 62, 3) := by decide +kernel
theorem dX9_init_107 : decode cX9_init 107 = .ok (.aload_n 0, 1) := by decide +kernel
theorem dX9_init_108 : decode cX9_init 108 = .ok (.iconst 4, 1) := by decide +kernel
theorem dX9_init_109 : decode cX9_init 109 = .ok (.anewarray 66, 3) := by decide +kernel
theorem dX9_init_112 : decode cX9_init 112 = .ok (.putfield 68, 3) := by decide +kernel
theorem dX9_init_115 : decode cX9_init 115 = .ok (.aload_n 0, 1) := by decide +kernel
theorem dX9_init_116 : decode cX9_init 116 = .ok (.bipush 7, 2) := by decide +kernel
theorem dX9_init_118 : decode cX9_init 118 = .ok (.newarray .int, 2) := by decide +kernel
theorem dX9_init_120 : decode cX9_init 120 = .ok (.putfield 72, 3) := by decide +kernel
theorem dX9_init_123 : decode cX9_init 123 = .ok (.iconst 0, 1) := by decide +kernel
theorem dX9_init_124 : decode cX9_init 124 = .ok (.istore_n 1, 1) := by decide +kernel
theorem dX9_init_125 : decode cX9_init 125 = .ok (.iload_n 1, 1) := by decide +kernel
theorem dX9_init_126 : decode cX9_init 126 = .ok (.iconst 4, 1) := by decide +kernel
theorem dX9_init_127 : decode cX9_init 127 = .ok (.if_icmp .ge 22, 3) := by decide +kernel
theorem dX9_init_130 : decode cX9_init 130 = .ok (.aload_n 0, 1) := by decide +kernel
theorem dX9_init_131 : decode cX9_init 131 = .ok (.getfield 68, 3) := by decide +kernel
theorem dX9_init_134 : decode cX9_init 134 = .ok (.iload_n 1, 1) := by decide +kernel
theorem dX9_init_135 : decode cX9_init 135 = .ok (.new 66, 3) := by decide +kernel
theorem dX9_init_138 : decode cX9_init 138 = .ok (.dup, 1) := by decide +kernel
theorem dX9_init_139 : decode cX9_init 139 = .ok (.invokespecial 76, 3) := by decide +kernel
theorem dX9_init_142 : decode cX9_init 142 = .ok (.aastore, 1) := by decide +kernel
theorem dX9_init_143 : decode cX9_init 143 = .ok (.iinc 1 1, 3) := by decide +kernel
theorem dX9_init_146 : decode cX9_init 146 = .ok (.goto (-21), 3) := by decide +kernel
theorem dX9_init_149 : decode cX9_init 149 = .ok (.return_, 1) := by decide +kernel
theorem dX9_plough_0 : decode cX9_plough 0 = .ok (.iload_n 1, 1) := by decide +kernel
theorem dX9_plough_1 : decode cX9_plough 1 = .ok (.invokestatic 77, 3) := by decide +kernel
theorem dX9_plough_4 : decode cX9_plough 4 = .ok (.ifCond .eq 17, 3) := by decide +kernel
theorem dX9_plough_7 : decode cX9_plough 7 = .ok (.iload_n 2, 1) := by decide +kernel
theorem dX9_plough_8 : decode cX9_plough 8 = .ok (.invokestatic 81, 3) := by decide +kernel
theorem dX9_plough_11 : decode cX9_plough 11 = .ok (.ifCond .eq 10, 3) := by decide +kernel
theorem dX9_plough_14 : decode cX9_plough 14 = .ok (.iload_n 3, 1) := by decide +kernel
theorem dX9_plough_15 : decode cX9_plough 15 = .ok (.invokestatic 84, 3) := by decide +kernel
theorem dX9_plough_18 : decode cX9_plough 18 = .ok (.ifCond .ne 10, 3) := by decide +kernel
theorem dX9_plough_21 : decode cX9_plough 21 = .ok (.aload_n 0, 1) := by decide +kernel
theorem dX9_plough_22 : decode cX9_plough 22 = .ok (.ldc 87, 2) := by decide +kernel
theorem dX9_plough_24 : decode cX9_plough 24 = .ok (.invokevirtual 88, 3) := by decide +kernel
theorem dX9_plough_27 : decode cX9_plough 27 = .ok (.ireturn, 1) := by decide +kernel
theorem dX9_plough_28 : decode cX9_plough 28 = .ok (.aload_n 0, 1) := by decide +kernel
theorem dX9_plough_29 : decode cX9_plough 29 = .ok (.getfield 12, 3) := by decide +kernel
theorem dX9_plough_32 : decode cX9_plough 32 = .ok (.getfield 92, 3) := by decide +kernel
theorem dX9_plough_35 : decode cX9_plough 35 = .ok (.getfield 95, 3) := by decide +kernel
theorem dX9_plough_38 : decode cX9_plough 38 = .ok (.bipush 12, 2) := by decide +kernel
theorem dX9_plough_40 : decode cX9_plough 40 = .ok (.if_icmp .lt 10, 3) := by decide +kernel
theorem dX9_plough_43 : decode cX9_plough 43 = .ok (.aload_n 0, 1) := by decide +kernel
theorem dX9_plough_44 : decode cX9_plough 44 = .ok (.ldc 99, 2) := by decide +kernel
theorem dX9_plough_46 : decode cX9_plough 46 = .ok (.invokevirtual 88, 3) := by decide +kernel
theorem dX9_plough_49 : decode cX9_plough 49 = .ok (.ireturn, 1) := by decide +kernel
theorem dX9_plough_50 : decode cX9_plough 50 = .ok (.aload_n 0, 1) := by decide +kernel
theorem dX9_plough_51 : decode cX9_plough 51 = .ok (.getfield 12, 3) := by decide +kernel
theorem dX9_plough_54 : decode cX9_plough 54 = .ok (.getfield 92, 3) := by decide +kernel
theorem dX9_plough_57 : decode cX9_plough 57 = .ok (.iload_n 1, 1) := by decide +kernel
theorem dX9_plough_58 : decode cX9_plough 58 = .ok (.iload_n 2, 1) := by decide +kernel
theorem dX9_plough_59 : decode cX9_plough 59 = .ok (.iload_n 3, 1) := by decide +kernel
theorem dX9_plough_60 : decode cX9_plough 60 = .ok (.invokevirtual 100, 3) := by decide +kernel
theorem dX9_plough_63 : decode cX9_plough 63 = .ok (.ireturn, 1) := by decide +kernel
theorem dX9_furrowIs_0 : decode cX9_furrowIs 0 = .ok (.aload_n 0, 1) := by decide +kernel
theorem dX9_furrowIs_1 : decode cX9_furrowIs 1 = .ok (.iload_n 1, 1) := by decide +kernel
theorem dX9_furrowIs_2 : decode cX9_furrowIs 2 = .ok (.invokevirtual 104, 3) := by decide +kernel
theorem dX9_furrowIs_5 : decode cX9_furrowIs 5 = .ok (.ifCond .ne 10, 3) := by decide +kernel
theorem dX9_furrowIs_8 : decode cX9_furrowIs 8 = .ok (.aload_n 0, 1) := by decide +kernel
theorem dX9_furrowIs_9 : decode cX9_furrowIs 9 = .ok (.ldc 87, 2) := by decide +kernel
theorem dX9_furrowIs_11 : decode cX9_furrowIs 11 = .ok (.invokevirtual 88, 3) := by decide +kernel
theorem dX9_furrowIs_14 : decode cX9_furrowIs 14 = .ok (.ireturn, 1) := by decide +kernel
theorem dX9_furrowIs_15 : decode cX9_furrowIs 15 = .ok (.aload_n 0, 1) := by decide +kernel
theorem dX9_furrowIs_16 : decode cX9_furrowIs 16 = .ok (.getfield 12, 3) := by decide +kernel
theorem dX9_furrowIs_19 : decode cX9_furrowIs 19 = .ok (.getfield 92, 3) := by decide +kernel
theorem dX9_furrowIs_22 : decode cX9_furrowIs 22 = .ok (.getfield 107, 3) := by decide +kernel
theorem dX9_furrowIs_25 : decode cX9_furrowIs 25 = .ok (.iload_n 1, 1) := by decide +kernel
theorem dX9_furrowIs_26 : decode cX9_furrowIs 26 = .ok (.aaload, 1) := by decide +kernel
theorem dX9_furrowIs_27 : decode cX9_furrowIs 27 = .ok (.astore_n 3, 1) := by decide +kernel
theorem dX9_furrowIs_28 : decode cX9_furrowIs 28 = .ok (.iload_n 2, 1) := by decide +kernel
theorem dX9_furrowIs_29 : decode cX9_furrowIs 29 = .ok (.tableswitch 122 0 9 #[55, 60, 65, 70, 75, 80, 85, 93, 98, 107], 55) := by decide +kernel
theorem dX9_furrowIs_84 : decode cX9_furrowIs 84 = .ok (.aload_n 3, 1) := by decide +kernel
theorem dX9_furrowIs_85 : decode cX9_furrowIs 85 = .ok (.getfield 111, 3) := by decide +kernel
theorem dX9_furrowIs_88 : decode cX9_furrowIs 88 = .ok (.ireturn, 1) := by decide +kernel
theorem dX9_furrowIs_89 : decode cX9_furrowIs 89 = .ok (.aload_n 3, 1) := by decide +kernel
theorem dX9_furrowIs_90 : decode cX9_furrowIs 90 = .ok (.getfield 114, 3) := by decide +kernel
theorem dX9_furrowIs_93 : decode cX9_furrowIs 93 = .ok (.ireturn, 1) := by decide +kernel
theorem dX9_furrowIs_94 : decode cX9_furrowIs 94 = .ok (.aload_n 3, 1) := by decide +kernel
theorem dX9_furrowIs_95 : decode cX9_furrowIs 95 = .ok (.getfield 117, 3) := by decide +kernel
theorem dX9_furrowIs_98 : decode cX9_furrowIs 98 = .ok (.ireturn, 1) := by decide +kernel
theorem dX9_furrowIs_99 : decode cX9_furrowIs 99 = .ok (.aload_n 3, 1) := by decide +kernel
theorem dX9_furrowIs_100 : decode cX9_furrowIs 100 = .ok (.getfield 120, 3) := by decide +kernel
theorem dX9_furrowIs_103 : decode cX9_furrowIs 103 = .ok (.ireturn, 1) := by decide +kernel
theorem dX9_furrowIs_104 : decode cX9_furrowIs 104 = .ok (.aload_n 3, 1) := by decide +kernel
theorem dX9_furrowIs_105 : decode cX9_furrowIs 105 = .ok (.getfield 123, 3) := by decide +kernel
theorem dX9_furrowIs_108 : decode cX9_furrowIs 108 = .ok (.ireturn, 1) := by decide +kernel
theorem dX9_furrowIs_109 : decode cX9_furrowIs 109 = .ok (.aload_n 3, 1) := by decide +kernel
theorem dX9_furrowIs_110 : decode cX9_furrowIs 110 = .ok (.getfield 126, 3) := by decide +kernel
theorem dX9_furrowIs_113 : decode cX9_furrowIs 113 = .ok (.ireturn, 1) := by decide +kernel
theorem dX9_furrowIs_114 : decode cX9_furrowIs 114 = .ok (.aload_n 3, 1) := by decide +kernel
theorem dX9_furrowIs_115 : decode cX9_furrowIs 115 = .ok (.getfield 129, 3) := by decide +kernel
theorem dX9_furrowIs_118 : decode cX9_furrowIs 118 = .ok (.invokestatic 133, 3) := by decide +kernel
theorem dX9_furrowIs_121 : decode cX9_furrowIs 121 = .ok (.ireturn, 1) := by decide +kernel
theorem dX9_furrowIs_122 : decode cX9_furrowIs 122 = .ok (.aload_n 3, 1) := by decide +kernel
theorem dX9_furrowIs_123 : decode cX9_furrowIs 123 = .ok (.invokevirtual 137, 3) := by decide +kernel
theorem dX9_furrowIs_126 : decode cX9_furrowIs 126 = .ok (.ireturn, 1) := by decide +kernel
theorem dX9_furrowIs_127 : decode cX9_furrowIs 127 = .ok (.aload_n 0, 1) := by decide +kernel
theorem dX9_furrowIs_128 : decode cX9_furrowIs 128 = .ok (.getfield 12, 3) := by decide +kernel
theorem dX9_furrowIs_131 : decode cX9_furrowIs 131 = .ok (.aload_n 3, 1) := by decide +kernel
theorem dX9_furrowIs_132 : decode cX9_furrowIs 132 = .ok (.invokevirtual 141, 3) := by decide +kernel
theorem dX9_furrowIs_135 : decode cX9_furrowIs 135 = .ok (.ireturn, 1) := by decide +kernel
theorem dX9_furrowIs_136 : decode cX9_furrowIs 136 = .ok (.aload_n 0, 1) := by decide +kernel
theorem dX9_furrowIs_137 : decode cX9_furrowIs 137 = .ok (.getfield 12, 3) := by decide +kernel
theorem dX9_furrowIs_140 : decode cX9_furrowIs 140 = .ok (.getfield 92, 3) := by decide +kernel
theorem dX9_furrowIs_143 : decode cX9_furrowIs 143 = .ok (.iload_n 1, 1) := by decide +kernel
theorem dX9_furrowIs_144 : decode cX9_furrowIs 144 = .ok (.invokevirtual 145, 3) := by decide +kernel
theorem dX9_furrowIs_147 : decode cX9_furrowIs 147 = .ok (.invokestatic 133, 3) := by decide +kernel
theorem dX9_furrowIs_150 : decode cX9_furrowIs 150 = .ok (.ireturn, 1) := by decide +kernel
theorem dX9_furrowIs_151 : decode cX9_furrowIs 151 = .ok (.aload_n 0, 1) := by decide +kernel
theorem dX9_furrowIs_152 : decode cX9_furrowIs 152 = .ok (.ldc 87, 2) := by decide +kernel
theorem dX9_furrowIs_154 : decode cX9_furrowIs 154 = .ok (.invokevirtual 88, 3) := by decide +kernel
theorem dX9_furrowIs_157 : decode cX9_furrowIs 157 = .ok (.ireturn, 1) := by decide +kernel
theorem dX9_become_0 : decode cX9_become 0 = .ok (.aload_n 0, 1) := by decide +kernel
theorem dX9_become_1 : decode cX9_become 1 = .ok (.iload_n 1, 1) := by decide +kernel
theorem dX9_become_2 : decode cX9_become 2 = .ok (.invokevirtual 104, 3) := by decide +kernel
theorem dX9_become_5 : decode cX9_become 5 = .ok (.ifCond .eq 10, 3) := by decide +kernel
theorem dX9_become_8 : decode cX9_become 8 = .ok (.iload_n 2, 1) := by decide +kernel
theorem dX9_become_9 : decode cX9_become 9 = .ok (.invokestatic 77, 3) := by decide +kernel
theorem dX9_become_12 : decode cX9_become 12 = .ok (.ifCond .ne 10, 3) := by decide +kernel
theorem dX9_become_15 : decode cX9_become 15 = .ok (.aload_n 0, 1) := by decide +kernel
theorem dX9_become_16 : decode cX9_become 16 = .ok (.ldc 87, 2) := by decide +kernel
theorem dX9_become_18 : decode cX9_become 18 = .ok (.invokevirtual 88, 3) := by decide +kernel
theorem dX9_become_21 : decode cX9_become 21 = .ok (.ireturn, 1) := by decide +kernel
theorem dX9_become_22 : decode cX9_become 22 = .ok (.aload_n 0, 1) := by decide +kernel
theorem dX9_become_23 : decode cX9_become 23 = .ok (.getfield 12, 3) := by decide +kernel
theorem dX9_become_26 : decode cX9_become 26 = .ok (.getfield 92, 3) := by decide +kernel
theorem dX9_become_29 : decode cX9_become 29 = .ok (.getfield 107, 3) := by decide +kernel
theorem dX9_become_32 : decode cX9_become 32 = .ok (.iload_n 1, 1) := by decide +kernel
theorem dX9_become_33 : decode cX9_become 33 = .ok (.aaload, 1) := by decide +kernel
theorem dX9_become_34 : decode cX9_become 34 = .ok (.astore_n 3, 1) := by decide +kernel
theorem dX9_become_35 : decode cX9_become 35 = .ok (.aload_n 3, 1) := by decide +kernel
theorem dX9_become_36 : decode cX9_become 36 = .ok (.getfield 111, 3) := by decide +kernel
theorem dX9_become_39 : decode cX9_become 39 = .ok (.istore 4, 2) := by decide +kernel
theorem dX9_become_41 : decode cX9_become 41 = .ok (.aload_n 3, 1) := by decide +kernel
theorem dX9_become_42 : decode cX9_become 42 = .ok (.iload_n 2, 1) := by decide +kernel
theorem dX9_become_43 : decode cX9_become 43 = .ok (.invokevirtual 148, 3) := by decide +kernel
theorem dX9_become_46 : decode cX9_become 46 = .ok (.iload 4, 2) := by decide +kernel
theorem dX9_become_48 : decode cX9_become 48 = .ok (.ireturn, 1) := by decide +kernel
theorem dX9_as_0 : decode cX9_as 0 = .ok (.aload_n 0, 1) := by decide +kernel
theorem dX9_as_1 : decode cX9_as 1 = .ok (.iload_n 1, 1) := by decide +kernel
theorem dX9_as_2 : decode cX9_as 2 = .ok (.invokevirtual 104, 3) := by decide +kernel
theorem dX9_as_5 : decode cX9_as 5 = .ok (.ifCond .eq 10, 3) := by decide +kernel
theorem dX9_as_8 : decode cX9_as 8 = .ok (.iload_n 2, 1) := by decide +kernel
theorem dX9_as_9 : decode cX9_as 9 = .ok (.invokestatic 151, 3) := by decide +kernel
theorem dX9_as_12 : decode cX9_as 12 = .ok (.ifCond .ne 10, 3) := by decide +kernel
theorem dX9_as_15 : decode cX9_as 15 = .ok (.aload_n 0, 1) := by decide +kernel
theorem dX9_as_16 : decode cX9_as 16 = .ok (.ldc 87, 2) := by decide +kernel
theorem dX9_as_18 : decode cX9_as 18 = .ok (.invokevirtual 88, 3) := by decide +kernel
theorem dX9_as_21 : decode cX9_as 21 = .ok (.ireturn, 1) := by decide +kernel
theorem dX9_as_22 : decode cX9_as 22 = .ok (.aload_n 0, 1) := by decide +kernel
theorem dX9_as_23 : decode cX9_as 23 = .ok (.getfield 12, 3) := by decide +kernel
theorem dX9_as_26 : decode cX9_as 26 = .ok (.getfield 92, 3) := by decide +kernel
theorem dX9_as_29 : decode cX9_as 29 = .ok (.getfield 107, 3) := by decide +kernel
theorem dX9_as_32 : decode cX9_as 32 = .ok (.iload_n 1, 1) := by decide +kernel
theorem dX9_as_33 : decode cX9_as 33 = .ok (.aaload, 1) := by decide +kernel
theorem dX9_as_34 : decode cX9_as 34 = .ok (.astore_n 3, 1) := by decide +kernel
theorem dX9_as_35 : decode cX9_as 35 = .ok (.aload_n 3, 1) := by decide +kernel
theorem dX9_as_36 : decode cX9_as 36 = .ok (.iload_n 2, 1) := by decide +kernel
theorem dX9_as_37 : decode cX9_as 37 = .ok (.invokevirtual 154, 3) := by decide +kernel
theorem dX9_as_40 : decode cX9_as 40 = .ok (.ifCond .eq 10, 3) := by decide +kernel
theorem dX9_as_43 : decode cX9_as 43 = .ok (.aload_n 3, 1) := by decide +kernel
theorem dX9_as_44 : decode cX9_as 44 = .ok (.getfield 114, 3) := by decide +kernel
theorem dX9_as_47 : decode cX9_as 47 = .ok (.goto 9, 3) := by decide +kernel
theorem dX9_as_50 : decode cX9_as 50 = .ok (.aload_n 0, 1) := by decide +kernel
theorem dX9_as_51 : decode cX9_as 51 = .ok (.ldc 157, 2) := by decide +kernel
theorem dX9_as_53 : decode cX9_as 53 = .ok (.invokevirtual 88, 3) := by decide +kernel
theorem dX9_as_56 : decode cX9_as 56 = .ok (.ireturn, 1) := by decide +kernel
theorem dX9_answers_0 : decode cX9_answers 0 = .ok (.aload_n 0, 1) := by decide +kernel
theorem dX9_answers_1 : decode cX9_answers 1 = .ok (.iload_n 1, 1) := by decide +kernel
theorem dX9_answers_2 : decode cX9_answers 2 = .ok (.invokevirtual 104, 3) := by decide +kernel
theorem dX9_answers_5 : decode cX9_answers 5 = .ok (.ifCond .eq 16, 3) := by decide +kernel
theorem dX9_answers_8 : decode cX9_answers 8 = .ok (.aload_n 0, 1) := by decide +kernel
theorem dX9_answers_9 : decode cX9_answers 9 = .ok (.iload_n 2, 1) := by decide +kernel
theorem dX9_answers_10 : decode cX9_answers 10 = .ok (.invokevirtual 104, 3) := by decide +kernel
theorem dX9_answers_13 : decode cX9_answers 13 = .ok (.ifCond .eq 8, 3) := by decide +kernel
theorem dX9_answers_16 : decode cX9_answers 16 = .ok (.iload_n 1, 1) := by decide +kernel
theorem dX9_answers_17 : decode cX9_answers 17 = .ok (.iload_n 2, 1) := by decide +kernel
theorem dX9_answers_18 : decode cX9_answers 18 = .ok (.if_icmp .ne 10, 3) := by decide +kernel
theorem dX9_answers_21 : decode cX9_answers 21 = .ok (.aload_n 0, 1) := by decide +kernel
theorem dX9_answers_22 : decode cX9_answers 22 = .ok (.ldc 87, 2) := by decide +kernel
theorem dX9_answers_24 : decode cX9_answers 24 = .ok (.invokevirtual 88, 3) := by decide +kernel
theorem dX9_answers_27 : decode cX9_answers 27 = .ok (.ireturn, 1) := by decide +kernel
theorem dX9_answers_28 : decode cX9_answers 28 = .ok (.aload_n 0, 1) := by decide +kernel
theorem dX9_answers_29 : decode cX9_answers 29 = .ok (.getfield 12, 3) := by decide +kernel
theorem dX9_answers_32 : decode cX9_answers 32 = .ok (.getfield 92, 3) := by decide +kernel
theorem dX9_answers_35 : decode cX9_answers 35 = .ok (.iload_n 1, 1) := by decide +kernel
theorem dX9_answers_36 : decode cX9_answers 36 = .ok (.iload_n 2, 1) := by decide +kernel
theorem dX9_answers_37 : decode cX9_answers 37 = .ok (.invokevirtual 158, 3) := by decide +kernel
theorem dX9_answers_40 : decode cX9_answers 40 = .ok (.invokestatic 133, 3) := by decide +kernel
theorem dX9_answers_43 : decode cX9_answers 43 = .ok (.ireturn, 1) := by decide +kernel
theorem dX9_cover_0 : decode cX9_cover 0 = .ok (.aload_n 0, 1) := by decide +kernel
theorem dX9_cover_1 : decode cX9_cover 1 = .ok (.iload_n 1, 1) := by decide +kernel
theorem dX9_cover_2 : decode cX9_cover 2 = .ok (.invokevirtual 104, 3) := by decide +kernel
theorem dX9_cover_5 : decode cX9_cover 5 = .ok (.ifCond .eq 12, 3) := by decide +kernel
theorem dX9_cover_8 : decode cX9_cover 8 = .ok (.iload_n 2, 1) := by decide +kernel
theorem dX9_cover_9 : decode cX9_cover 9 = .ok (.ifCond .lt 8, 3) := by decide +kernel
theorem dX9_cover_12 : decode cX9_cover 12 = .ok (.iload_n 2, 1) := by decide +kernel
theorem dX9_cover_13 : decode cX9_cover 13 = .ok (.iconst 1, 1) := by decide +kernel
theorem dX9_cover_14 : decode cX9_cover 14 = .ok (.if_icmp .le 10, 3) := by decide +kernel
theorem dX9_cover_17 : decode cX9_cover 17 = .ok (.aload_n 0, 1) := by decide +kernel
theorem dX9_cover_18 : decode cX9_cover 18 = .ok (.ldc 87, 2) := by decide +kernel
theorem dX9_cover_20 : decode cX9_cover 20 = .ok (.invokevirtual 88, 3) := by decide +kernel
theorem dX9_cover_23 : decode cX9_cover 23 = .ok (.ireturn, 1) := by decide +kernel
theorem dX9_cover_24 : decode cX9_cover 24 = .ok (.aload_n 0, 1) := by decide +kernel
theorem dX9_cover_25 : decode cX9_cover 25 = .ok (.getfield 12, 3) := by decide +kernel
theorem dX9_cover_28 : decode cX9_cover 28 = .ok (.getfield 92, 3) := by decide +kernel
theorem dX9_cover_31 : decode cX9_cover 31 = .ok (.getfield 107, 3) := by decide +kernel
theorem dX9_cover_34 : decode cX9_cover 34 = .ok (.iload_n 1, 1) := by decide +kernel
theorem dX9_cover_35 : decode cX9_cover 35 = .ok (.aaload, 1) := by decide +kernel
theorem dX9_cover_36 : decode cX9_cover 36 = .ok (.astore_n 3, 1) := by decide +kernel
theorem dX9_cover_37 : decode cX9_cover 37 = .ok (.aload_n 3, 1) := by decide +kernel
theorem dX9_cover_38 : decode cX9_cover 38 = .ok (.getfield 129, 3) := by decide +kernel
theorem dX9_cover_41 : decode cX9_cover 41 = .ok (.invokestatic 133, 3) := by decide +kernel
theorem dX9_cover_44 : decode cX9_cover 44 = .ok (.istore 4, 2) := by decide +kernel
theorem dX9_cover_46 : decode cX9_cover 46 = .ok (.aload_n 3, 1) := by decide +kernel
theorem dX9_cover_47 : decode cX9_cover 47 = .ok (.iload_n 2, 1) := by decide +kernel
theorem dX9_cover_48 : decode cX9_cover 48 = .ok (.iconst 1, 1) := by decide +kernel
theorem dX9_cover_49 : decode cX9_cover 49 = .ok (.if_icmp .ne 7, 3) := by decide +kernel
theorem dX9_cover_52 : decode cX9_cover 52 = .ok (.iconst 1, 1) := by decide +kernel
theorem dX9_cover_53 : decode cX9_cover 53 = .ok (.goto 4, 3) := by decide +kernel
theorem dX9_cover_56 : decode cX9_cover 56 = .ok (.iconst 0, 1) := by decide +kernel
theorem dX9_cover_57 : decode cX9_cover 57 = .ok (.putfield 129, 3) := by decide +kernel
theorem dX9_cover_60 : decode cX9_cover 60 = .ok (.iload 4, 2) := by decide +kernel
theorem dX9_cover_62 : decode cX9_cover 62 = .ok (.ireturn, 1) := by decide +kernel
theorem dX9_redraw_0 : decode cX9_redraw 0 = .ok (.aload_n 0, 1) := by decide +kernel
theorem dX9_redraw_1 : decode cX9_redraw 1 = .ok (.iload_n 1, 1) := by decide +kernel
theorem dX9_redraw_2 : decode cX9_redraw 2 = .ok (.invokevirtual 104, 3) := by decide +kernel
theorem dX9_redraw_5 : decode cX9_redraw 5 = .ok (.ifCond .eq 10, 3) := by decide +kernel
theorem dX9_redraw_8 : decode cX9_redraw 8 = .ok (.iload_n 2, 1) := by decide +kernel
theorem dX9_redraw_9 : decode cX9_redraw 9 = .ok (.invokestatic 81, 3) := by decide +kernel
theorem dX9_redraw_12 : decode cX9_redraw 12 = .ok (.ifCond .ne 10, 3) := by decide +kernel
theorem dX9_redraw_15 : decode cX9_redraw 15 = .ok (.aload_n 0, 1) := by decide +kernel
theorem dX9_redraw_16 : decode cX9_redraw 16 = .ok (.ldc 87, 2) := by decide +kernel
theorem dX9_redraw_18 : decode cX9_redraw 18 = .ok (.invokevirtual 88, 3) := by decide +kernel
theorem dX9_redraw_21 : decode cX9_redraw 21 = .ok (.ireturn, 1) := by decide +kernel
theorem dX9_redraw_22 : decode cX9_redraw 22 = .ok (.aload_n 0, 1) := by decide +kernel
theorem dX9_redraw_23 : decode cX9_redraw 23 = .ok (.getfield 12, 3) := by decide +kernel
theorem dX9_redraw_26 : decode cX9_redraw 26 = .ok (.getfield 92, 3) := by decide +kernel
theorem dX9_redraw_29 : decode cX9_redraw 29 = .ok (.getfield 107, 3) := by decide +kernel
theorem dX9_redraw_32 : decode cX9_redraw 32 = .ok (.iload_n 1, 1) := by decide +kernel
theorem dX9_redraw_33 : decode cX9_redraw 33 = .ok (.aaload, 1) := by decide +kernel
theorem dX9_redraw_34 : decode cX9_redraw 34 = .ok (.astore_n 3, 1) := by decide +kernel
theorem dX9_redraw_35 : decode cX9_redraw 35 = .ok (.aload_n 3, 1) := by decide +kernel
theorem dX9_redraw_36 : decode cX9_redraw 36 = .ok (.invokevirtual 162, 3) := by decide +kernel
theorem dX9_redraw_39 : decode cX9_redraw 39 = .ok (.istore 4, 2) := by decide +kernel
theorem dX9_redraw_41 : decode cX9_redraw 41 = .ok (.aload_n 3, 1) := by decide +kernel
theorem dX9_redraw_42 : decode cX9_redraw 42 = .ok (.iload_n 2, 1) := by decide +kernel
theorem dX9_redraw_43 : decode cX9_redraw 43 = .ok (.invokevirtual 165, 3) := by decide +kernel
theorem dX9_redraw_46 : decode cX9_redraw 46 = .ok (.iload 4, 2) := by decide +kernel
theorem dX9_redraw_48 : decode cX9_redraw 48 = .ok (.ireturn, 1) := by decide +kernel
theorem dX9_patience_0 : decode cX9_patience 0 = .ok (.iload_n 1, 1) := by decide +kernel
theorem dX9_patience_1 : decode cX9_patience 1 = .ok (.iconst 1, 1) := by decide +kernel
theorem dX9_patience_2 : decode cX9_patience 2 = .ok (.if_icmp .lt 9, 3) := by decide +kernel
theorem dX9_patience_5 : decode cX9_patience 5 = .ok (.iload_n 1, 1) := by decide +kernel
theorem dX9_patience_6 : decode cX9_patience 6 = .ok (.bipush 20, 2) := by decide +kernel
theorem dX9_patience_8 : decode cX9_patience 8 = .ok (.if_icmp .le 10, 3) := by decide +kernel
theorem dX9_patience_11 : decode cX9_patience 11 = .ok (.aload_n 0, 1) := by decide +kernel
theorem dX9_patience_12 : decode cX9_patience 12 = .ok (.ldc 87, 2) := by decide +kernel
theorem dX9_patience_14 : decode cX9_patience 14 = .ok (.invokevirtual 88, 3) := by decide +kernel
theorem dX9_patience_17 : decode cX9_patience 17 = .ok (.ireturn, 1) := by decide +kernel
theorem dX9_patience_18 : decode cX9_patience 18 = .ok (.aload_n 0, 1) := by decide +kernel
theorem dX9_patience_19 : decode cX9_patience 19 = .ok (.getfield 12, 3) := by decide +kernel
theorem dX9_patience_22 : decode cX9_patience 22 = .ok (.getfield 92, 3) := by decide +kernel
theorem dX9_patience_25 : decode cX9_patience 25 = .ok (.getfield 168, 3) := by decide +kernel
theorem dX9_patience_28 : decode cX9_patience 28 = .ok (.istore_n 2, 1) := by decide +kernel
theorem dX9_patience_29 : decode cX9_patience 29 = .ok (.aload_n 0, 1) := by decide +kernel
theorem dX9_patience_30 : decode cX9_patience 30 = .ok (.getfield 12, 3) := by decide +kernel
theorem dX9_patience_33 : decode cX9_patience 33 = .ok (.getfield 92, 3) := by decide +kernel
theorem dX9_patience_36 : decode cX9_patience 36 = .ok (.iload_n 1, 1) := by decide +kernel
theorem dX9_patience_37 : decode cX9_patience 37 = .ok (.putfield 168, 3) := by decide +kernel
theorem dX9_patience_40 : decode cX9_patience 40 = .ok (.iload_n 2, 1) := by decide +kernel
theorem dX9_patience_41 : decode cX9_patience 41 = .ok (.ireturn, 1) := by decide +kernel
theorem dX9_feed_0 : decode cX9_feed 0 = .ok (.iload_n 3, 1) := by decide +kernel
theorem dX9_feed_1 : decode cX9_feed 1 = .ok (.iconst 1, 1) := by decide +kernel
theorem dX9_feed_2 : decode cX9_feed 2 = .ok (.if_icmp .lt 9, 3) := by decide +kernel
theorem dX9_feed_5 : decode cX9_feed 5 = .ok (.iload_n 3, 1) := by decide +kernel
theorem dX9_feed_6 : decode cX9_feed 6 = .ok (.bipush 8, 2) := by decide +kernel
theorem dX9_feed_8 : decode cX9_feed 8 = .ok (.if_icmp .le 10, 3) := by decide +kernel
theorem dX9_feed_11 : decode cX9_feed 11 = .ok (.aload_n 0, 1) := by decide +kernel
theorem dX9_feed_12 : decode cX9_feed 12 = .ok (.ldc 87, 2) := by decide +kernel
theorem dX9_feed_14 : decode cX9_feed 14 = .ok (.invokevirtual 88, 3) := by decide +kernel
theorem dX9_feed_17 : decode cX9_feed 17 = .ok (.ireturn, 1) := by decide +kernel
theorem dX9_feed_18 : decode cX9_feed 18 = .ok (.aload_n 0, 1) := by decide +kernel
theorem dX9_feed_19 : decode cX9_feed 19 = .ok (.getfield 12, 3) := by decide +kernel
theorem dX9_feed_22 : decode cX9_feed 22 = .ok (.getfield 171, 3) := by decide +kernel
theorem dX9_feed_25 : decode cX9_feed 25 = .ok (.iload_n 3, 1) := by decide +kernel
theorem dX9_feed_26 : decode cX9_feed 26 = .ok (.iadd, 1) := by decide +kernel
theorem dX9_feed_27 : decode cX9_feed 27 = .ok (.bipush 60, 2) := by decide +kernel
theorem dX9_feed_29 : decode cX9_feed 29 = .ok (.if_icmp .le 10, 3) := by decide +kernel
theorem dX9_feed_32 : decode cX9_feed 32 = .ok (.aload_n 0, 1) := by decide +kernel
theorem dX9_feed_33 : decode cX9_feed 33 = .ok (.ldc 99, 2) := by decide +kernel
theorem dX9_feed_35 : decode cX9_feed 35 = .ok (.invokevirtual 88, 3) := by decide +kernel
theorem dX9_feed_38 : decode cX9_feed 38 = .ok (.ireturn, 1) := by decide +kernel
theorem dX9_feed_39 : decode cX9_feed 39 = .ok (.iconst 0, 1) := by decide +kernel
theorem dX9_feed_40 : decode cX9_feed 40 = .ok (.istore 4, 2) := by decide +kernel
theorem dX9_feed_42 : decode cX9_feed 42 = .ok (.iload 4, 2) := by decide +kernel
theorem dX9_feed_44 : decode cX9_feed 44 = .ok (.iload_n 3, 1) := by decide +kernel
theorem dX9_feed_45 : decode cX9_feed 45 = .ok (.if_icmp .ge 36, 3) := by decide +kernel
theorem dX9_feed_48 : decode cX9_feed 48 = .ok (.aload_n 0, 1) := by decide +kernel
theorem dX9_feed_49 : decode cX9_feed 49 = .ok (.getfield 12, 3) := by decide +kernel
theorem dX9_feed_52 : decode cX9_feed 52 = .ok (.getfield 174, 3) := by decide +kernel
theorem dX9_feed_55 : decode cX9_feed 55 = .ok (.aload_n 0, 1) := by decide +kernel
theorem dX9_feed_56 : decode cX9_feed 56 = .ok (.getfield 12, 3) := by decide +kernel
theorem dX9_feed_59 : decode cX9_feed 59 = .ok (.getfield 171, 3) := by decide +kernel
theorem dX9_feed_62 : decode cX9_feed 62 = .ok (.iload 4, 2) := by decide +kernel
theorem dX9_feed_64 : decode cX9_feed 64 = .ok (.iadd, 1) := by decide +kernel
theorem dX9_feed_65 : decode cX9_feed 65 = .ok (.lload_n 1, 1) := by decide +kernel
theorem dX9_feed_66 : decode cX9_feed 66 = .ok (.bipush 8, 2) := by decide +kernel
theorem dX9_feed_68 : decode cX9_feed 68 = .ok (.iload 4, 2) := by decide +kernel
theorem dX9_feed_70 : decode cX9_feed 70 = .ok (.imul, 1) := by decide +kernel
theorem dX9_feed_71 : decode cX9_feed 71 = .ok (.lushr, 1) := by decide +kernel
theorem dX9_feed_72 : decode cX9_feed 72 = .ok (.l2i, 1) := by decide +kernel
theorem dX9_feed_73 : decode cX9_feed 73 = .ok (.i2b, 1) := by decide +kernel
theorem dX9_feed_74 : decode cX9_feed 74 = .ok (.bastore, 1) := by decide +kernel
theorem dX9_feed_75 : decode cX9_feed 75 = .ok (.iinc 4 1, 3) := by decide +kernel
theorem dX9_feed_78 : decode cX9_feed 78 = .ok (.goto (-36), 3) := by decide +kernel
theorem dX9_feed_81 : decode cX9_feed 81 = .ok (.aload_n 0, 1) := by decide +kernel
theorem dX9_feed_82 : decode cX9_feed 82 = .ok (.getfield 12, 3) := by decide +kernel
theorem dX9_feed_85 : decode cX9_feed 85 = .ok (.dup, 1) := by decide +kernel
theorem dX9_feed_86 : decode cX9_feed 86 = .ok (.getfield 171, 3) := by decide +kernel
theorem dX9_feed_89 : decode cX9_feed 89 = .ok (.iload_n 3, 1) := by decide +kernel
theorem dX9_feed_90 : decode cX9_feed 90 = .ok (.iadd, 1) := by decide +kernel
theorem dX9_feed_91 : decode cX9_feed 91 = .ok (.putfield 171, 3) := by decide +kernel
theorem dX9_feed_94 : decode cX9_feed 94 = .ok (.aload_n 0, 1) := by decide +kernel
theorem dX9_feed_95 : decode cX9_feed 95 = .ok (.getfield 12, 3) := by decide +kernel
theorem dX9_feed_98 : decode cX9_feed 98 = .ok (.getfield 171, 3) := by decide +kernel
theorem dX9_feed_101 : decode cX9_feed 101 = .ok (.ireturn, 1) := by decide +kernel
theorem dX9_text_0 : decode cX9_text 0 = .ok (.iload_n 1, 1) := by decide +kernel
theorem dX9_text_1 : decode cX9_text 1 = .ok (.invokestatic 178, 3) := by decide +kernel
theorem dX9_text_4 : decode cX9_text 4 = .ok (.ifCond .ne 10, 3) := by decide +kernel
theorem dX9_text_7 : decode cX9_text 7 = .ok (.aload_n 0, 1) := by decide +kernel
theorem dX9_text_8 : decode cX9_text 8 = .ok (.ldc 87, 2) := by decide +kernel
theorem dX9_text_10 : decode cX9_text 10 = .ok (.invokevirtual 88, 3) := by decide +kernel
theorem dX9_text_13 : decode cX9_text 13 = .ok (.ireturn, 1) := by decide +kernel
theorem dX9_text_14 : decode cX9_text 14 = .ok (.aload_n 0, 1) := by decide +kernel
theorem dX9_text_15 : decode cX9_text 15 = .ok (.getfield 55, 3) := by decide +kernel
theorem dX9_text_18 : decode cX9_text 18 = .ok (.aload_n 0, 1) := by decide +kernel
theorem dX9_text_19 : decode cX9_text 19 = .ok (.getfield 12, 3) := by decide +kernel
theorem dX9_text_22 : decode cX9_text 22 = .ok (.getfield 174, 3) := by decide +kernel
theorem dX9_text_25 : decode cX9_text 25 = .ok (.aload_n 0, 1) := by decide +kernel
theorem dX9_text_26 : decode cX9_text 26 = .ok (.getfield 12, 3) := by decide +kernel
theorem dX9_text_29 : decode cX9_text 29 = .ok (.getfield 171, 3) := by decide +kernel
theorem dX9_text_32 : decode cX9_text 32 = .ok (.iload_n 1, 1) := by decide +kernel
theorem dX9_text_33 : decode cX9_text 33 = .ok (.invokevirtual 181, 3) := by decide +kernel
theorem dX9_text_36 : decode cX9_text 36 = .ok (.istore_n 2, 1) := by decide +kernel
theorem dX9_text_37 : decode cX9_text 37 = .ok (.aload_n 0, 1) := by decide +kernel
theorem dX9_text_38 : decode cX9_text 38 = .ok (.getfield 12, 3) := by decide +kernel
theorem dX9_text_41 : decode cX9_text 41 = .ok (.iconst 0, 1) := by decide +kernel
theorem dX9_text_42 : decode cX9_text 42 = .ok (.putfield 171, 3) := by decide +kernel
theorem dX9_text_45 : decode cX9_text 45 = .ok (.iload_n 2, 1) := by decide +kernel
theorem dX9_text_46 : decode cX9_text 46 = .ok (.ifCond .ne 14, 3) := by decide +kernel
theorem dX9_text_49 : decode cX9_text 49 = .ok (.bipush (-10), 2) := by decide +kernel
theorem dX9_text_51 : decode cX9_text 51 = .ok (.aload_n 0, 1) := by decide +kernel
theorem dX9_text_52 : decode cX9_text 52 = .ok (.getfield 55, 3) := by decide +kernel
theorem dX9_text_55 : decode cX9_text 55 = .ok (.getfield 185, 3) := by decide +kernel
theorem dX9_text_58 : decode cX9_text 58 = .ok (.isub, 1) := by decide +kernel
theorem dX9_text_59 : decode cX9_text 59 = .ok (.ireturn, 1) := by decide +kernel
theorem dX9_text_60 : decode cX9_text 60 = .ok (.aload_n 0, 1) := by decide +kernel
theorem dX9_text_61 : decode cX9_text 61 = .ok (.getfield 12, 3) := by decide +kernel
theorem dX9_text_64 : decode cX9_text 64 = .ok (.getfield 188, 3) := by decide +kernel
theorem dX9_text_67 : decode cX9_text 67 = .ok (.iload_n 1, 1) := by decide +kernel
theorem dX9_text_68 : decode cX9_text 68 = .ok (.aaload, 1) := by decide +kernel
theorem dX9_text_69 : decode cX9_text 69 = .ok (.aload_n 0, 1) := by decide +kernel
theorem dX9_text_70 : decode cX9_text 70 = .ok (.getfield 55, 3) := by decide +kernel
theorem dX9_text_73 : decode cX9_text 73 = .ok (.getfield 192, 3) := by decide +kernel
theorem dX9_text_76 : decode cX9_text 76 = .ok (.invokevirtual 196, 3) := by decide +kernel
theorem dX9_text_79 : decode cX9_text 79 = .ok (.iconst 1, 1) := by decide +kernel
theorem dX9_text_80 : decode cX9_text 80 = .ok (.ireturn, 1) := by decide +kernel
theorem dX9_untell_0 : decode cX9_untell 0 = .ok (.iload_n 1, 1) := by decide +kernel
theorem dX9_untell_1 : decode cX9_untell 1 = .ok (.invokestatic 178, 3) := by decide +kernel
theorem dX9_untell_4 : decode cX9_untell 4 = .ok (.ifCond .ne 10, 3) := by decide +kernel
theorem dX9_untell_7 : decode cX9_untell 7 = .ok (.aload_n 0, 1) := by decide +kernel
theorem dX9_untell_8 : decode cX9_untell 8 = .ok (.ldc 87, 2) := by decide +kernel
theorem dX9_untell_10 : decode cX9_untell 10 = .ok (.invokevirtual 88, 3) := by decide +kernel
theorem dX9_untell_13 : decode cX9_untell 13 = .ok (.ireturn, 1) := by decide +kernel
theorem dX9_untell_14 : decode cX9_untell 14 = .ok (.aload_n 0, 1) := by decide +kernel
theorem dX9_untell_15 : decode cX9_untell 15 = .ok (.getfield 12, 3) := by decide +kernel
theorem dX9_untell_18 : decode cX9_untell 18 = .ok (.getfield 188, 3) := by decide +kernel
theorem dX9_untell_21 : decode cX9_untell 21 = .ok (.iload_n 1, 1) := by decide +kernel
theorem dX9_untell_22 : decode cX9_untell 22 = .ok (.aaload, 1) := by decide +kernel
theorem dX9_untell_23 : decode cX9_untell 23 = .ok (.invokevirtual 202, 3) := by decide +kernel
theorem dX9_untell_26 : decode cX9_untell 26 = .ok (.invokestatic 133, 3) := by decide +kernel
theorem dX9_untell_29 : decode cX9_untell 29 = .ok (.istore_n 2, 1) := by decide +kernel
theorem dX9_untell_30 : decode cX9_untell 30 = .ok (.aload_n 0, 1) := by decide +kernel
theorem dX9_untell_31 : decode cX9_untell 31 = .ok (.getfield 12, 3) := by decide +kernel
theorem dX9_untell_34 : decode cX9_untell 34 = .ok (.getfield 188, 3) := by decide +kernel
theorem dX9_untell_37 : decode cX9_untell 37 = .ok (.iload_n 1, 1) := by decide +kernel
theorem dX9_untell_38 : decode cX9_untell 38 = .ok (.aaload, 1) := by decide +kernel
theorem dX9_untell_39 : decode cX9_untell 39 = .ok (.invokevirtual 206, 3) := by decide +kernel
theorem dX9_untell_42 : decode cX9_untell 42 = .ok (.iload_n 2, 1) := by decide +kernel
theorem dX9_untell_43 : decode cX9_untell 43 = .ok (.ireturn, 1) := by decide +kernel
theorem dX9_law_0 : decode cX9_law 0 = .ok (.iload_n 1, 1) := by decide +kernel
theorem dX9_law_1 : decode cX9_law 1 = .ok (.invokestatic 178, 3) := by decide +kernel
theorem dX9_law_4 : decode cX9_law 4 = .ok (.ifCond .ne 10, 3) := by decide +kernel
theorem dX9_law_7 : decode cX9_law 7 = .ok (.aload_n 0, 1) := by decide +kernel
theorem dX9_law_8 : decode cX9_law 8 = .ok (.ldc 87, 2) := by decide +kernel
theorem dX9_law_10 : decode cX9_law 10 = .ok (.invokevirtual 88, 3) := by decide +kernel
theorem dX9_law_13 : decode cX9_law 13 = .ok (.ireturn, 1) := by decide +kernel
theorem dX9_law_14 : decode cX9_law 14 = .ok (.aload_n 0, 1) := by decide +kernel
theorem dX9_law_15 : decode cX9_law 15 = .ok (.getfield 12, 3) := by decide +kernel
theorem dX9_law_18 : decode cX9_law 18 = .ok (.iload_n 1, 1) := by decide +kernel
theorem dX9_law_19 : decode cX9_law 19 = .ok (.iload_n 2, 1) := by decide +kernel
theorem dX9_law_20 : decode cX9_law 20 = .ok (.iload_n 3, 1) := by decide +kernel
theorem dX9_law_21 : decode cX9_law 21 = .ok (.iload 4, 2) := by decide +kernel
theorem dX9_law_23 : decode cX9_law 23 = .ok (.invokevirtual 209, 3) := by decide +kernel
theorem dX9_law_26 : decode cX9_law 26 = .ok (.ireturn, 1) := by decide +kernel
theorem dX9_years_0 : decode cX9_years 0 = .ok (.iload_n 1, 1) := by decide +kernel
theorem dX9_years_1 : decode cX9_years 1 = .ok (.iconst 1, 1) := by decide +kernel
theorem dX9_years_2 : decode cX9_years 2 = .ok (.if_icmp .lt 9, 3) := by decide +kernel
theorem dX9_years_5 : decode cX9_years 5 = .ok (.iload_n 1, 1) := by decide +kernel
theorem dX9_years_6 : decode cX9_years 6 = .ok (.bipush 60, 2) := by decide +kernel
theorem dX9_years_8 : decode cX9_years 8 = .ok (.if_icmp .le 10, 3) := by decide +kernel
theorem dX9_years_11 : decode cX9_years 11 = .ok (.aload_n 0, 1) := by decide +kernel
theorem dX9_years_12 : decode cX9_years 12 = .ok (.ldc 87, 2) := by decide +kernel
theorem dX9_years_14 : decode cX9_years 14 = .ok (.invokevirtual 88, 3) := by decide +kernel
theorem dX9_years_17 : decode cX9_years 17 = .ok (.ireturn, 1) := by decide +kernel
theorem dX9_years_18 : decode cX9_years 18 = .ok (.aload_n 0, 1) := by decide +kernel
theorem dX9_years_19 : decode cX9_years 19 = .ok (.getfield 12, 3) := by decide +kernel
theorem dX9_years_22 : decode cX9_years 22 = .ok (.getfield 92, 3) := by decide +kernel
theorem dX9_years_25 : decode cX9_years 25 = .ok (.getfield 213, 3) := by decide +kernel
theorem dX9_years_28 : decode cX9_years 28 = .ok (.iload_n 1, 1) := by decide +kernel
theorem dX9_years_29 : decode cX9_years 29 = .ok (.iadd, 1) := by decide +kernel
theorem dX9_years_30 : decode cX9_years 30 = .ok (.sipush 9999, 3) := by decide +kernel
theorem dX9_years_33 : decode cX9_years 33 = .ok (.if_icmp .le 10, 3) := by decide +kernel
theorem dX9_years_36 : decode cX9_years 36 = .ok (.aload_n 0, 1) := by decide +kernel
theorem dX9_years_37 : decode cX9_years 37 = .ok (.ldc 216, 2) := by decide +kernel
theorem dX9_years_39 : decode cX9_years 39 = .ok (.invokevirtual 88, 3) := by decide +kernel
theorem dX9_years_42 : decode cX9_years 42 = .ok (.ireturn, 1) := by decide +kernel
theorem dX9_years_43 : decode cX9_years 43 = .ok (.aload_n 0, 1) := by decide +kernel
theorem dX9_years_44 : decode cX9_years 44 = .ok (.getfield 12, 3) := by decide +kernel
theorem dX9_years_47 : decode cX9_years 47 = .ok (.getfield 92, 3) := by decide +kernel
theorem dX9_years_50 : decode cX9_years 50 = .ok (.iload_n 1, 1) := by decide +kernel
theorem dX9_years_51 : decode cX9_years 51 = .ok (.invokevirtual 217, 3) := by decide +kernel
theorem dX9_years_54 : decode cX9_years 54 = .ok (.aload_n 0, 1) := by decide +kernel
theorem dX9_years_55 : decode cX9_years 55 = .ok (.getfield 12, 3) := by decide +kernel
theorem dX9_years_58 : decode cX9_years 58 = .ok (.getfield 92, 3) := by decide +kernel
theorem dX9_years_61 : decode cX9_years 61 = .ok (.invokevirtual 220, 3) := by decide +kernel
theorem dX9_years_64 : decode cX9_years 64 = .ok (.ireturn, 1) := by decide +kernel
theorem dX9_loose_0 : decode cX9_loose 0 = .ok (.iload_n 1, 1) := by decide +kernel
theorem dX9_loose_1 : decode cX9_loose 1 = .ok (.iconst 1, 1) := by decide +kernel
theorem dX9_loose_2 : decode cX9_loose 2 = .ok (.if_icmp .lt 9, 3) := by decide +kernel
theorem dX9_loose_5 : decode cX9_loose 5 = .ok (.iload_n 1, 1) := by decide +kernel
theorem dX9_loose_6 : decode cX9_loose 6 = .ok (.bipush 20, 2) := by decide +kernel
theorem dX9_loose_8 : decode cX9_loose 8 = .ok (.if_icmp .le 10, 3) := by decide +kernel
theorem dX9_loose_11 : decode cX9_loose 11 = .ok (.aload_n 0, 1) := by decide +kernel
theorem dX9_loose_12 : decode cX9_loose 12 = .ok (.ldc 87, 2) := by decide +kernel
theorem dX9_loose_14 : decode cX9_loose 14 = .ok (.invokevirtual 88, 3) := by decide +kernel
theorem dX9_loose_17 : decode cX9_loose 17 = .ok (.ireturn, 1) := by decide +kernel
theorem dX9_loose_18 : decode cX9_loose 18 = .ok (.aload_n 0, 1) := by decide +kernel
theorem dX9_loose_19 : decode cX9_loose 19 = .ok (.getfield 12, 3) := by decide +kernel
theorem dX9_loose_22 : decode cX9_loose 22 = .ok (.getfield 92, 3) := by decide +kernel
theorem dX9_loose_25 : decode cX9_loose 25 = .ok (.getfield 213, 3) := by decide +kernel
theorem dX9_loose_28 : decode cX9_loose 28 = .ok (.iload_n 1, 1) := by decide +kernel
theorem dX9_loose_29 : decode cX9_loose 29 = .ok (.iadd, 1) := by decide +kernel
theorem dX9_loose_30 : decode cX9_loose 30 = .ok (.sipush 9999, 3) := by decide +kernel
theorem dX9_loose_33 : decode cX9_loose 33 = .ok (.if_icmp .le 10, 3) := by decide +kernel
theorem dX9_loose_36 : decode cX9_loose 36 = .ok (.aload_n 0, 1) := by decide +kernel
theorem dX9_loose_37 : decode cX9_loose 37 = .ok (.ldc 216, 2) := by decide +kernel
theorem dX9_loose_39 : decode cX9_loose 39 = .ok (.invokevirtual 88, 3) := by decide +kernel
theorem dX9_loose_42 : decode cX9_loose 42 = .ok (.ireturn, 1) := by decide +kernel
theorem dX9_loose_43 : decode cX9_loose 43 = .ok (.iconst 0, 1) := by decide +kernel
theorem dX9_loose_44 : decode cX9_loose 44 = .ok (.istore_n 2, 1) := by decide +kernel
theorem dX9_loose_45 : decode cX9_loose 45 = .ok (.iload_n 2, 1) := by decide +kernel
theorem dX9_loose_46 : decode cX9_loose 46 = .ok (.iload_n 1, 1) := by decide +kernel
theorem dX9_loose_47 : decode cX9_loose 47 = .ok (.if_icmp .ge 19, 3) := by decide +kernel
theorem dX9_loose_50 : decode cX9_loose 50 = .ok (.aload_n 0, 1) := by decide +kernel
theorem dX9_loose_51 : decode cX9_loose 51 = .ok (.getfield 12, 3) := by decide +kernel
theorem dX9_loose_54 : decode cX9_loose 54 = .ok (.getfield 92, 3) := by decide +kernel
theorem dX9_loose_57 : decode cX9_loose 57 = .ok (.invokevirtual 223, 3) := by decide +kernel
theorem dX9_loose_60 : decode cX9_loose 60 = .ok (.iinc 2 1, 3) := by decide +kernel
theorem dX9_loose_63 : decode cX9_loose 63 = .ok (.goto (-18), 3) := by decide +kernel
theorem dX9_loose_66 : decode cX9_loose 66 = .ok (.aload_n 0, 1) := by decide +kernel
theorem dX9_loose_67 : decode cX9_loose 67 = .ok (.getfield 12, 3) := by decide +kernel
theorem dX9_loose_70 : decode cX9_loose 70 = .ok (.getfield 92, 3) := by decide +kernel
theorem dX9_loose_73 : decode cX9_loose 73 = .ok (.invokevirtual 220, 3) := by decide +kernel
theorem dX9_loose_76 : decode cX9_loose 76 = .ok (.ireturn, 1) := by decide +kernel
theorem dX9_seed_0 : decode cX9_seed 0 = .ok (.aload_n 0, 1) := by decide +kernel
theorem dX9_seed_1 : decode cX9_seed 1 = .ok (.getfield 12, 3) := by decide +kernel
theorem dX9_seed_4 : decode cX9_seed 4 = .ok (.getfield 92, 3) := by decide +kernel
theorem dX9_seed_7 : decode cX9_seed 7 = .ok (.getfield 226, 3) := by decide +kernel
theorem dX9_seed_10 : decode cX9_seed 10 = .ok (.istore_n 2, 1) := by decide +kernel
theorem dX9_seed_11 : decode cX9_seed 11 = .ok (.aload_n 0, 1) := by decide +kernel
theorem dX9_seed_12 : decode cX9_seed 12 = .ok (.getfield 12, 3) := by decide +kernel
theorem dX9_seed_15 : decode cX9_seed 15 = .ok (.getfield 92, 3) := by decide +kernel
theorem dX9_seed_18 : decode cX9_seed 18 = .ok (.iload_n 1, 1) := by decide +kernel
theorem dX9_seed_19 : decode cX9_seed 19 = .ok (.putfield 226, 3) := by decide +kernel
theorem dX9_seed_22 : decode cX9_seed 22 = .ok (.iload_n 2, 1) := by decide +kernel
theorem dX9_seed_23 : decode cX9_seed 23 = .ok (.ireturn, 1) := by decide +kernel
theorem dX9_talk_0 : decode cX9_talk 0 = .ok (.iload_n 1, 1) := by decide +kernel
theorem dX9_talk_1 : decode cX9_talk 1 = .ok (.tableswitch 60 0 2 #[27, 38, 49], 27) := by decide +kernel
theorem dX9_talk_28 : decode cX9_talk 28 = .ok (.aload_n 0, 1) := by decide +kernel
theorem dX9_talk_29 : decode cX9_talk 29 = .ok (.getfield 12, 3) := by decide +kernel
theorem dX9_talk_32 : decode cX9_talk 32 = .ok (.getfield 92, 3) := by decide +kernel
theorem dX9_talk_35 : decode cX9_talk 35 = .ok (.invokevirtual 229, 3) := by decide +kernel
theorem dX9_talk_38 : decode cX9_talk 38 = .ok (.ireturn, 1) := by decide +kernel
theorem dX9_talk_39 : decode cX9_talk 39 = .ok (.aload_n 0, 1) := by decide +kernel
theorem dX9_talk_40 : decode cX9_talk 40 = .ok (.getfield 12, 3) := by decide +kernel
theorem dX9_talk_43 : decode cX9_talk 43 = .ok (.getfield 92, 3) := by decide +kernel
theorem dX9_talk_46 : decode cX9_talk 46 = .ok (.invokevirtual 232, 3) := by decide +kernel
theorem dX9_talk_49 : decode cX9_talk 49 = .ok (.ireturn, 1) := by decide +kernel
theorem dX9_talk_50 : decode cX9_talk 50 = .ok (.aload_n 0, 1) := by decide +kernel
theorem dX9_talk_51 : decode cX9_talk 51 = .ok (.getfield 12, 3) := by decide +kernel
theorem dX9_talk_54 : decode cX9_talk 54 = .ok (.getfield 92, 3) := by decide +kernel
theorem dX9_talk_57 : decode cX9_talk 57 = .ok (.invokevirtual 220, 3) := by decide +kernel
theorem dX9_talk_60 : decode cX9_talk 60 = .ok (.ireturn, 1) := by decide +kernel
theorem dX9_talk_61 : decode cX9_talk 61 = .ok (.aload_n 0, 1) := by decide +kernel
theorem dX9_talk_62 : decode cX9_talk 62 = .ok (.ldc 87, 2) := by decide +kernel
theorem dX9_talk_64 : decode cX9_talk 64 = .ok (.invokevirtual 88, 3) := by decide +kernel
theorem dX9_talk_67 : decode cX9_talk 67 = .ok (.ireturn, 1) := by decide +kernel
theorem dX9_meaning_0 : decode cX9_meaning 0 = .ok (.iload_n 1, 1) := by decide +kernel
theorem dX9_meaning_1 : decode cX9_meaning 1 = .ok (.iconst (-1), 1) := by decide +kernel
theorem dX9_meaning_2 : decode cX9_meaning 2 = .ok (.if_icmp .eq 17, 3) := by decide +kernel
theorem dX9_meaning_5 : decode cX9_meaning 5 = .ok (.iload_n 1, 1) := by decide +kernel
theorem dX9_meaning_6 : decode cX9_meaning 6 = .ok (.invokestatic 84, 3) := by decide +kernel
theorem dX9_meaning_9 : decode cX9_meaning 9 = .ok (.ifCond .ne 10, 3) := by decide +kernel
theorem dX9_meaning_12 : decode cX9_meaning 12 = .ok (.aload_n 0, 1) := by decide +kernel
theorem dX9_meaning_13 : decode cX9_meaning 13 = .ok (.ldc 87, 2) := by decide +kernel
theorem dX9_meaning_15 : decode cX9_meaning 15 = .ok (.invokevirtual 88, 3) := by decide +kernel
theorem dX9_meaning_18 : decode cX9_meaning 18 = .ok (.ireturn, 1) := by decide +kernel
theorem dX9_meaning_19 : decode cX9_meaning 19 = .ok (.iconst 0, 1) := by decide +kernel
theorem dX9_meaning_20 : decode cX9_meaning 20 = .ok (.istore_n 2, 1) := by decide +kernel
theorem dX9_meaning_21 : decode cX9_meaning 21 = .ok (.iconst 0, 1) := by decide +kernel
theorem dX9_meaning_22 : decode cX9_meaning 22 = .ok (.istore_n 3, 1) := by decide +kernel
theorem dX9_meaning_23 : decode cX9_meaning 23 = .ok (.iload_n 3, 1) := by decide +kernel
theorem dX9_meaning_24 : decode cX9_meaning 24 = .ok (.aload_n 0, 1) := by decide +kernel
theorem dX9_meaning_25 : decode cX9_meaning 25 = .ok (.getfield 12, 3) := by decide +kernel
theorem dX9_meaning_28 : decode cX9_meaning 28 = .ok (.getfield 92, 3) := by decide +kernel
theorem dX9_meaning_31 : decode cX9_meaning 31 = .ok (.getfield 95, 3) := by decide +kernel
theorem dX9_meaning_34 : decode cX9_meaning 34 = .ok (.if_icmp .ge 63, 3) := by decide +kernel
theorem dX9_meaning_37 : decode cX9_meaning 37 = .ok (.aload_n 0, 1) := by decide +kernel
theorem dX9_meaning_38 : decode cX9_meaning 38 = .ok (.getfield 12, 3) := by decide +kernel
theorem dX9_meaning_41 : decode cX9_meaning 41 = .ok (.getfield 92, 3) := by decide +kernel
theorem dX9_meaning_44 : decode cX9_meaning 44 = .ok (.getfield 107, 3) := by decide +kernel
theorem dX9_meaning_47 : decode cX9_meaning 47 = .ok (.iload_n 3, 1) := by decide +kernel
theorem dX9_meaning_48 : decode cX9_meaning 48 = .ok (.aaload, 1) := by decide +kernel
theorem dX9_meaning_49 : decode cX9_meaning 49 = .ok (.astore 4, 2) := by decide +kernel
theorem dX9_meaning_51 : decode cX9_meaning 51 = .ok (.iload_n 1, 1) := by decide +kernel
theorem dX9_meaning_52 : decode cX9_meaning 52 = .ok (.iconst (-1), 1) := by decide +kernel
theorem dX9_meaning_53 : decode cX9_meaning 53 = .ok (.if_icmp .eq 12, 3) := by decide +kernel
theorem dX9_meaning_56 : decode cX9_meaning 56 = .ok (.aload 4, 2) := by decide +kernel
theorem dX9_meaning_58 : decode cX9_meaning 58 = .ok (.getfield 123, 3) := by decide +kernel
theorem dX9_meaning_61 : decode cX9_meaning 61 = .ok (.iload_n 1, 1) := by decide +kernel
theorem dX9_meaning_62 : decode cX9_meaning 62 = .ok (.if_icmp .ne 29, 3) := by decide +kernel
theorem dX9_meaning_65 : decode cX9_meaning 65 = .ok (.aload_n 0, 1) := by decide +kernel
theorem dX9_meaning_66 : decode cX9_meaning 66 = .ok (.getfield 12, 3) := by decide +kernel
theorem dX9_meaning_69 : decode cX9_meaning 69 = .ok (.getfield 92, 3) := by decide +kernel
theorem dX9_meaning_72 : decode cX9_meaning 72 = .ok (.iload_n 3, 1) := by decide +kernel
theorem dX9_meaning_73 : decode cX9_meaning 73 = .ok (.invokevirtual 235, 3) := by decide +kernel
theorem dX9_meaning_76 : decode cX9_meaning 76 = .ok (.ifCond .eq 15, 3) := by decide +kernel
theorem dX9_meaning_79 : decode cX9_meaning 79 = .ok (.iload_n 2, 1) := by decide +kernel
theorem dX9_meaning_80 : decode cX9_meaning 80 = .ok (.aload_n 0, 1) := by decide +kernel
theorem dX9_meaning_81 : decode cX9_meaning 81 = .ok (.getfield 12, 3) := by decide +kernel
theorem dX9_meaning_84 : decode cX9_meaning 84 = .ok (.aload 4, 2) := by decide +kernel
theorem dX9_meaning_86 : decode cX9_meaning 86 = .ok (.invokevirtual 141, 3) := by decide +kernel
theorem dX9_meaning_89 : decode cX9_meaning 89 = .ok (.iadd, 1) := by decide +kernel
theorem dX9_meaning_90 : decode cX9_meaning 90 = .ok (.istore_n 2, 1) := by decide +kernel
theorem dX9_meaning_91 : decode cX9_meaning 91 = .ok (.iinc 3 1, 3) := by decide +kernel
theorem dX9_meaning_94 : decode cX9_meaning 94 = .ok (.goto (-71), 3) := by decide +kernel
theorem dX9_meaning_97 : decode cX9_meaning 97 = .ok (.iload_n 2, 1) := by decide +kernel
theorem dX9_meaning_98 : decode cX9_meaning 98 = .ok (.ireturn, 1) := by decide +kernel
theorem dX9_then_0 : decode cX9_then 0 = .ok (.iload_n 1, 1) := by decide +kernel
theorem dX9_then_1 : decode cX9_then 1 = .ok (.ifCond .lt 18, 3) := by decide +kernel
theorem dX9_then_4 : decode cX9_then 4 = .ok (.iload_n 1, 1) := by decide +kernel
theorem dX9_then_5 : decode cX9_then 5 = .ok (.bipush 60, 2) := by decide +kernel
theorem dX9_then_7 : decode cX9_then 7 = .ok (.if_icmp .gt 12, 3) := by decide +kernel
theorem dX9_then_10 : decode cX9_then 10 = .ok (.iload_n 2, 1) := by decide +kernel
theorem dX9_then_11 : decode cX9_then 11 = .ok (.ifCond .lt 8, 3) := by decide +kernel
theorem dX9_then_14 : decode cX9_then 14 = .ok (.iload_n 2, 1) := by decide +kernel
theorem dX9_then_15 : decode cX9_then 15 = .ok (.iconst 1, 1) := by decide +kernel
theorem dX9_then_16 : decode cX9_then 16 = .ok (.if_icmp .le 10, 3) := by decide +kernel
theorem dX9_then_19 : decode cX9_then 19 = .ok (.aload_n 0, 1) := by decide +kernel
theorem dX9_then_20 : decode cX9_then 20 = .ok (.ldc 87, 2) := by decide +kernel
theorem dX9_then_22 : decode cX9_then 22 = .ok (.invokevirtual 88, 3) := by decide +kernel
theorem dX9_then_25 : decode cX9_then 25 = .ok (.ireturn, 1) := by decide +kernel
theorem dX9_then_26 : decode cX9_then 26 = .ok (.aload_n 0, 1) := by decide +kernel
theorem dX9_then_27 : decode cX9_then 27 = .ok (.getfield 22, 3) := by decide +kernel
theorem dX9_then_30 : decode cX9_then 30 = .ok (.aload_n 0, 1) := by decide +kernel
theorem dX9_then_31 : decode cX9_then 31 = .ok (.getfield 12, 3) := by decide +kernel
theorem dX9_then_34 : decode cX9_then 34 = .ok (.getfield 92, 3) := by decide +kernel
theorem dX9_then_37 : decode cX9_then 37 = .ok (.invokevirtual 238, 3) := by decide +kernel
theorem dX9_then_40 : decode cX9_then 40 = .ok (.aload_n 0, 1) := by decide +kernel
theorem dX9_then_41 : decode cX9_then 41 = .ok (.getfield 22, 3) := by decide +kernel
theorem dX9_then_44 : decode cX9_then 44 = .ok (.iload_n 1, 1) := by decide +kernel
theorem dX9_then_45 : decode cX9_then 45 = .ok (.invokevirtual 217, 3) := by decide +kernel
theorem dX9_then_48 : decode cX9_then 48 = .ok (.iload_n 2, 1) := by decide +kernel
theorem dX9_then_49 : decode cX9_then 49 = .ok (.ifCond .ne 13, 3) := by decide +kernel
theorem dX9_then_52 : decode cX9_then 52 = .ok (.aload_n 0, 1) := by decide +kernel
theorem dX9_then_53 : decode cX9_then 53 = .ok (.getfield 22, 3) := by decide +kernel
theorem dX9_then_56 : decode cX9_then 56 = .ok (.invokevirtual 220, 3) := by decide +kernel
theorem dX9_then_59 : decode cX9_then 59 = .ok (.goto 10, 3) := by decide +kernel
theorem dX9_then_62 : decode cX9_then 62 = .ok (.aload_n 0, 1) := by decide +kernel
theorem dX9_then_63 : decode cX9_then 63 = .ok (.getfield 22, 3) := by decide +kernel
theorem dX9_then_66 : decode cX9_then 66 = .ok (.invokevirtual 241, 3) := by decide +kernel
theorem dX9_then_69 : decode cX9_then 69 = .ok (.ireturn, 1) := by decide +kernel
theorem dX9_fewest_0 : decode cX9_fewest 0 = .ok (.iload_n 1, 1) := by decide +kernel
theorem dX9_fewest_1 : decode cX9_fewest 1 = .ok (.ifCond .lt 8, 3) := by decide +kernel
theorem dX9_fewest_4 : decode cX9_fewest 4 = .ok (.iload_n 1, 1) := by decide +kernel
theorem dX9_fewest_5 : decode cX9_fewest 5 = .ok (.iconst 1, 1) := by decide +kernel
theorem dX9_fewest_6 : decode cX9_fewest 6 = .ok (.if_icmp .le 10, 3) := by decide +kernel
theorem dX9_fewest_9 : decode cX9_fewest 9 = .ok (.aload_n 0, 1) := by decide +kernel
theorem dX9_fewest_10 : decode cX9_fewest 10 = .ok (.ldc 87, 2) := by decide +kernel
theorem dX9_fewest_12 : decode cX9_fewest 12 = .ok (.invokevirtual 88, 3) := by decide +kernel
theorem dX9_fewest_15 : decode cX9_fewest 15 = .ok (.ireturn, 1) := by decide +kernel
theorem dX9_fewest_16 : decode cX9_fewest 16 = .ok (.aload_n 0, 1) := by decide +kernel
theorem dX9_fewest_17 : decode cX9_fewest 17 = .ok (.getfield 12, 3) := by decide +kernel
theorem dX9_fewest_20 : decode cX9_fewest 20 = .ok (.getfield 92, 3) := by decide +kernel
theorem dX9_fewest_23 : decode cX9_fewest 23 = .ok (.invokevirtual 241, 3) := by decide +kernel
theorem dX9_fewest_26 : decode cX9_fewest 26 = .ok (.aload_n 0, 1) := by decide +kernel
theorem dX9_fewest_27 : decode cX9_fewest 27 = .ok (.getfield 36, 3) := by decide +kernel
theorem dX9_fewest_30 : decode cX9_fewest 30 = .ok (.aload_n 0, 1) := by decide +kernel
theorem dX9_fewest_31 : decode cX9_fewest 31 = .ok (.getfield 12, 3) := by decide +kernel
theorem dX9_fewest_34 : decode cX9_fewest 34 = .ok (.getfield 92, 3) := by decide +kernel
theorem dX9_fewest_37 : decode cX9_fewest 37 = .ok (.invokevirtual 244, 3) := by decide +kernel
theorem dX9_fewest_40 : decode cX9_fewest 40 = .ok (.iconst (-1), 1) := by decide +kernel
theorem dX9_fewest_41 : decode cX9_fewest 41 = .ok (.ixor, 1) := by decide +kernel
theorem dX9_fewest_42 : decode cX9_fewest 42 = .ok (.iand, 1) := by decide +kernel
theorem dX9_fewest_43 : decode cX9_fewest 43 = .ok (.istore_n 2, 1) := by decide +kernel
theorem dX9_fewest_44 : decode cX9_fewest 44 = .ok (.iload_n 1, 1) := by decide +kernel
theorem dX9_fewest_45 : decode cX9_fewest 45 = .ok (.ifCond .ne 10, 3) := by decide +kernel
theorem dX9_fewest_48 : decode cX9_fewest 48 = .ok (.iload_n 2, 1) := by decide +kernel
theorem dX9_fewest_49 : decode cX9_fewest 49 = .ok (.invokestatic 248, 3) := by decide +kernel
theorem dX9_fewest_52 : decode cX9_fewest 52 = .ok (.goto 4, 3) := by decide +kernel
theorem dX9_fewest_55 : decode cX9_fewest 55 = .ok (.iload_n 2, 1) := by decide +kernel
theorem dX9_fewest_56 : decode cX9_fewest 56 = .ok (.ireturn, 1) := by decide +kernel
theorem dX9_reply_0 : decode cX9_reply 0 = .ok (.iload_n 1, 1) := by decide +kernel
theorem dX9_reply_1 : decode cX9_reply 1 = .ok (.invokestatic 81, 3) := by decide +kernel
theorem dX9_reply_4 : decode cX9_reply 4 = .ok (.ifCond .eq 12, 3) := by decide +kernel
theorem dX9_reply_7 : decode cX9_reply 7 = .ok (.iload_n 2, 1) := by decide +kernel
theorem dX9_reply_8 : decode cX9_reply 8 = .ok (.ifCond .lt 8, 3) := by decide +kernel
theorem dX9_reply_11 : decode cX9_reply 11 = .ok (.iload_n 2, 1) := by decide +kernel
theorem dX9_reply_12 : decode cX9_reply 12 = .ok (.iconst 1, 1) := by decide +kernel
theorem dX9_reply_13 : decode cX9_reply 13 = .ok (.if_icmp .le 10, 3) := by decide +kernel
theorem dX9_reply_16 : decode cX9_reply 16 = .ok (.aload_n 0, 1) := by decide +kernel
theorem dX9_reply_17 : decode cX9_reply 17 = .ok (.ldc 87, 2) := by decide +kernel
theorem dX9_reply_19 : decode cX9_reply 19 = .ok (.invokevirtual 88, 3) := by decide +kernel
theorem dX9_reply_22 : decode cX9_reply 22 = .ok (.ireturn, 1) := by decide +kernel
theorem dX9_reply_23 : decode cX9_reply 23 = .ok (.aload_n 0, 1) := by decide +kernel
theorem dX9_reply_24 : decode cX9_reply 24 = .ok (.getfield 12, 3) := by decide +kernel
theorem dX9_reply_27 : decode cX9_reply 27 = .ok (.getfield 92, 3) := by decide +kernel
theorem dX9_reply_30 : decode cX9_reply 30 = .ok (.aload_n 0, 1) := by decide +kernel
theorem dX9_reply_31 : decode cX9_reply 31 = .ok (.getfield 12, 3) := by decide +kernel
theorem dX9_reply_34 : decode cX9_reply 34 = .ok (.getfield 92, 3) := by decide +kernel
theorem dX9_reply_37 : decode cX9_reply 37 = .ok (.getfield 95, 3) := by decide +kernel
theorem dX9_reply_40 : decode cX9_reply 40 = .ok (.invokevirtual 253, 3) := by decide +kernel
theorem dX9_reply_43 : decode cX9_reply 43 = .ok (.istore_n 3, 1) := by decide +kernel
theorem dX9_reply_44 : decode cX9_reply 44 = .ok (.iload_n 3, 1) := by decide +kernel
theorem dX9_reply_45 : decode cX9_reply 45 = .ok (.ifCond .ge 10, 3) := by decide +kernel
theorem dX9_reply_48 : decode cX9_reply 48 = .ok (.aload_n 0, 1) := by decide +kernel
theorem dX9_reply_49 : decode cX9_reply 49 = .ok (.ldc 216, 2) := by decide +kernel
theorem dX9_reply_51 : decode cX9_reply 51 = .ok (.invokevirtual 88, 3) := by decide +kernel
theorem dX9_reply_54 : decode cX9_reply 54 = .ok (.ireturn, 1) := by decide +kernel
theorem dX9_reply_55 : decode cX9_reply 55 = .ok (.iconst 1, 1) := by decide +kernel
theorem dX9_reply_56 : decode cX9_reply 56 = .ok (.istore 4, 2) := by decide +kernel
theorem dX9_reply_58 : decode cX9_reply 58 = .ok (.iload 4, 2) := by decide +kernel
theorem dX9_reply_60 : decode cX9_reply 60 = .ok (.bipush 12, 2) := by decide +kernel
theorem dX9_reply_62 : decode cX9_reply 62 = .ok (.if_icmp .ge 40, 3) := by decide +kernel
theorem dX9_reply_65 : decode cX9_reply 65 = .ok (.aload_n 0, 1) := by decide +kernel
theorem dX9_reply_66 : decode cX9_reply 66 = .ok (.getfield 45, 3) := by decide +kernel
theorem dX9_reply_69 : decode cX9_reply 69 = .ok (.getfield 256, 3) := by decide +kernel
theorem dX9_reply_72 : decode cX9_reply 72 = .ok (.iload 4, 2) := by decide +kernel
theorem dX9_reply_74 : decode cX9_reply 74 = .ok (.aload_n 0, 1) := by decide +kernel
theorem dX9_reply_75 : decode cX9_reply 75 = .ok (.getfield 12, 3) := by decide +kernel
theorem dX9_reply_78 : decode cX9_reply 78 = .ok (.iconst 0, 1) := by decide +kernel
theorem dX9_reply_79 : decode cX9_reply 79 = .ok (.iload 4, 2) := by decide +kernel
theorem dX9_reply_81 : decode cX9_reply 81 = .ok (.iconst 0, 1) := by decide +kernel
theorem dX9_reply_82 : decode cX9_reply 82 = .ok (.aload_n 0, 1) := by decide +kernel
theorem dX9_reply_83 : decode cX9_reply 83 = .ok (.getfield 12, 3) := by decide +kernel
theorem dX9_reply_86 : decode cX9_reply 86 = .ok (.getfield 92, 3) := by decide +kernel
theorem dX9_reply_89 : decode cX9_reply 89 = .ok (.getfield 168, 3) := by decide +kernel
theorem dX9_reply_92 : decode cX9_reply 92 = .ok (.invokevirtual 209, 3) := by decide +kernel
theorem dX9_reply_95 : decode cX9_reply 95 = .ok (.iastore, 1) := by decide +kernel
theorem dX9_reply_96 : decode cX9_reply 96 = .ok (.iinc 4 1, 3) := by decide +kernel
theorem dX9_reply_99 : decode cX9_reply 99 = .ok (.goto (-41), 3) := by decide +kernel
theorem dX9_reply_102 : decode cX9_reply 102 = .ok (.iconst 1, 1) := by decide +kernel
theorem dX9_reply_103 : decode cX9_reply 103 = .ok (.istore 4, 2) := by decide +kernel
theorem dX9_reply_105 : decode cX9_reply 105 = .ok (.iload 4, 2) := by decide +kernel
theorem dX9_reply_107 : decode cX9_reply 107 = .ok (.bipush 6, 2) := by decide +kernel
theorem dX9_reply_109 : decode cX9_reply 109 = .ok (.if_icmp .ge 40, 3) := by decide +kernel
theorem dX9_reply_112 : decode cX9_reply 112 = .ok (.aload_n 0, 1) := by decide +kernel
theorem dX9_reply_113 : decode cX9_reply 113 = .ok (.getfield 49, 3) := by decide +kernel
theorem dX9_reply_116 : decode cX9_reply 116 = .ok (.getfield 256, 3) := by decide +kernel
theorem dX9_reply_119 : decode cX9_reply 119 = .ok (.iload 4, 2) := by decide +kernel
theorem dX9_reply_121 : decode cX9_reply 121 = .ok (.aload_n 0, 1) := by decide +kernel
theorem dX9_reply_122 : decode cX9_reply 122 = .ok (.getfield 12, 3) := by decide +kernel
theorem dX9_reply_125 : decode cX9_reply 125 = .ok (.iconst 0, 1) := by decide +kernel
theorem dX9_reply_126 : decode cX9_reply 126 = .ok (.iconst 0, 1) := by decide +kernel
theorem dX9_reply_127 : decode cX9_reply 127 = .ok (.iload 4, 2) := by decide +kernel
theorem dX9_reply_129 : decode cX9_reply 129 = .ok (.aload_n 0, 1) := by decide +kernel
theorem dX9_reply_130 : decode cX9_reply 130 = .ok (.getfield 12, 3) := by decide +kernel
theorem dX9_reply_133 : decode cX9_reply 133 = .ok (.getfield 92, 3) := by decide +kernel
theorem dX9_reply_136 : decode cX9_reply 136 = .ok (.getfield 168, 3) := by decide +kernel
theorem dX9_reply_139 : decode cX9_reply 139 = .ok (.invokevirtual 209, 3) := by decide +kernel
theorem dX9_reply_142 : decode cX9_reply 142 = .ok (.iastore, 1) := by decide +kernel
theorem dX9_reply_143 : decode cX9_reply 143 = .ok (.iinc 4 1, 3) := by decide +kernel
theorem dX9_reply_146 : decode cX9_reply 146 = .ok (.goto (-41), 3) := by decide +kernel
theorem dX9_reply_149 : decode cX9_reply 149 = .ok (.aload_n 0, 1) := by decide +kernel
theorem dX9_reply_150 : decode cX9_reply 150 = .ok (.getfield 45, 3) := by decide +kernel
theorem dX9_reply_153 : decode cX9_reply 153 = .ok (.iload_n 1, 1) := by decide +kernel
theorem dX9_reply_154 : decode cX9_reply 154 = .ok (.bipush 10, 2) := by decide +kernel
theorem dX9_reply_156 : decode cX9_reply 156 = .ok (.idiv, 1) := by decide +kernel
theorem dX9_reply_157 : decode cX9_reply 157 = .ok (.iconst 1, 1) := by decide +kernel
theorem dX9_reply_158 : decode cX9_reply 158 = .ok (.isub, 1) := by decide +kernel
theorem dX9_reply_159 : decode cX9_reply 159 = .ok (.invokevirtual 259, 3) := by decide +kernel
theorem dX9_reply_162 : decode cX9_reply 162 = .ok (.aload_n 0, 1) := by decide +kernel
theorem dX9_reply_163 : decode cX9_reply 163 = .ok (.getfield 49, 3) := by decide +kernel
theorem dX9_reply_166 : decode cX9_reply 166 = .ok (.iload_n 1, 1) := by decide +kernel
theorem dX9_reply_167 : decode cX9_reply 167 = .ok (.bipush 10, 2) := by decide +kernel
theorem dX9_reply_169 : decode cX9_reply 169 = .ok (.irem, 1) := by decide +kernel
theorem dX9_reply_170 : decode cX9_reply 170 = .ok (.invokevirtual 259, 3) := by decide +kernel
theorem dX9_reply_173 : decode cX9_reply 173 = .ok (.aload_n 0, 1) := by decide +kernel
theorem dX9_reply_174 : decode cX9_reply 174 = .ok (.getfield 12, 3) := by decide +kernel
theorem dX9_reply_177 : decode cX9_reply 177 = .ok (.getfield 92, 3) := by decide +kernel
theorem dX9_reply_180 : decode cX9_reply 180 = .ok (.getfield 107, 3) := by decide +kernel
theorem dX9_reply_183 : decode cX9_reply 183 = .ok (.iload_n 3, 1) := by decide +kernel
theorem dX9_reply_184 : decode cX9_reply 184 = .ok (.aaload, 1) := by decide +kernel
theorem dX9_reply_185 : decode cX9_reply 185 = .ok (.astore 4, 2) := by decide +kernel
theorem dX9_reply_187 : decode cX9_reply 187 = .ok (.iload_n 2, 1) := by decide +kernel
theorem dX9_reply_188 : decode cX9_reply 188 = .ok (.ifCond .ne 33, 3) := by decide +kernel
theorem dX9_reply_191 : decode cX9_reply 191 = .ok (.aload_n 0, 1) := by decide +kernel
theorem dX9_reply_192 : decode cX9_reply 192 = .ok (.getfield 45, 3) := by decide +kernel
theorem dX9_reply_195 : decode cX9_reply 195 = .ok (.getfield 262, 3) := by decide +kernel
theorem dX9_reply_198 : decode cX9_reply 198 = .ok (.aload 4, 2) := by decide +kernel
theorem dX9_reply_200 : decode cX9_reply 200 = .ok (.getfield 117, 3) := by decide +kernel
theorem dX9_reply_203 : decode cX9_reply 203 = .ok (.iconst 1, 1) := by decide +kernel
theorem dX9_reply_204 : decode cX9_reply 204 = .ok (.isub, 1) := by decide +kernel
theorem dX9_reply_205 : decode cX9_reply 205 = .ok (.iaload, 1) := by decide +kernel
theorem dX9_reply_206 : decode cX9_reply 206 = .ok (.aload_n 0, 1) := by decide +kernel
theorem dX9_reply_207 : decode cX9_reply 207 = .ok (.getfield 49, 3) := by decide +kernel
theorem dX9_reply_210 : decode cX9_reply 210 = .ok (.getfield 262, 3) := by decide +kernel
theorem dX9_reply_213 : decode cX9_reply 213 = .ok (.aload 4, 2) := by decide +kernel
theorem dX9_reply_215 : decode cX9_reply 215 = .ok (.getfield 120, 3) := by decide +kernel
theorem dX9_reply_218 : decode cX9_reply 218 = .ok (.iaload, 1) := by decide +kernel
theorem dX9_reply_219 : decode cX9_reply 219 = .ok (.iadd, 1) := by decide +kernel
theorem dX9_reply_220 : decode cX9_reply 220 = .ok (.ireturn, 1) := by decide +kernel
theorem dX9_reply_221 : decode cX9_reply 221 = .ok (.aload_n 0, 1) := by decide +kernel
theorem dX9_reply_222 : decode cX9_reply 222 = .ok (.aload 4, 2) := by decide +kernel
theorem dX9_reply_224 : decode cX9_reply 224 = .ok (.invokevirtual 265, 3) := by decide +kernel
theorem dX9_reply_227 : decode cX9_reply 227 = .ok (.ireturn, 1) := by decide +kernel
theorem dX9_odds_0 : decode cX9_odds 0 = .ok (.iload_n 1, 1) := by decide +kernel
theorem dX9_odds_1 : decode cX9_odds 1 = .ok (.invokestatic 77, 3) := by decide +kernel
theorem dX9_odds_4 : decode cX9_odds 4 = .ok (.ifCond .eq 19, 3) := by decide +kernel
theorem dX9_odds_7 : decode cX9_odds 7 = .ok (.iload_n 2, 1) := by decide +kernel
theorem dX9_odds_8 : decode cX9_odds 8 = .ok (.invokestatic 84, 3) := by decide +kernel
theorem dX9_odds_11 : decode cX9_odds 11 = .ok (.ifCond .eq 12, 3) := by decide +kernel
theorem dX9_odds_14 : decode cX9_odds 14 = .ok (.iload_n 3, 1) := by decide +kernel
theorem dX9_odds_15 : decode cX9_odds 15 = .ok (.ifCond .lt 8, 3) := by decide +kernel
theorem dX9_odds_18 : decode cX9_odds 18 = .ok (.iload_n 3, 1) := by decide +kernel
theorem dX9_odds_19 : decode cX9_odds 19 = .ok (.iconst 1, 1) := by decide +kernel
theorem dX9_odds_20 : decode cX9_odds 20 = .ok (.if_icmp .le 10, 3) := by decide +kernel
theorem dX9_odds_23 : decode cX9_odds 23 = .ok (.aload_n 0, 1) := by decide +kernel
theorem dX9_odds_24 : decode cX9_odds 24 = .ok (.ldc 87, 2) := by decide +kernel
theorem dX9_odds_26 : decode cX9_odds 26 = .ok (.invokevirtual 88, 3) := by decide +kernel
theorem dX9_odds_29 : decode cX9_odds 29 = .ok (.ireturn, 1) := by decide +kernel
theorem dX9_odds_30 : decode cX9_odds 30 = .ok (.aload_n 0, 1) := by decide +kernel
theorem dX9_odds_31 : decode cX9_odds 31 = .ok (.getfield 12, 3) := by decide +kernel
theorem dX9_odds_34 : decode cX9_odds 34 = .ok (.getfield 92, 3) := by decide +kernel
theorem dX9_odds_37 : decode cX9_odds 37 = .ok (.aload_n 0, 1) := by decide +kernel
theorem dX9_odds_38 : decode cX9_odds 38 = .ok (.getfield 12, 3) := by decide +kernel
theorem dX9_odds_41 : decode cX9_odds 41 = .ok (.getfield 92, 3) := by decide +kernel
theorem dX9_odds_44 : decode cX9_odds 44 = .ok (.getfield 95, 3) := by decide +kernel
theorem dX9_odds_47 : decode cX9_odds 47 = .ok (.invokevirtual 253, 3) := by decide +kernel
theorem dX9_odds_50 : decode cX9_odds 50 = .ok (.istore 4, 2) := by decide +kernel
theorem dX9_odds_52 : decode cX9_odds 52 = .ok (.iload 4, 2) := by decide +kernel
theorem dX9_odds_54 : decode cX9_odds 54 = .ok (.ifCond .lt 18, 3) := by decide +kernel
theorem dX9_odds_57 : decode cX9_odds 57 = .ok (.aload_n 0, 1) := by decide +kernel
theorem dX9_odds_58 : decode cX9_odds 58 = .ok (.getfield 12, 3) := by decide +kernel
theorem dX9_odds_61 : decode cX9_odds 61 = .ok (.getfield 92, 3) := by decide +kernel
theorem dX9_odds_64 : decode cX9_odds 64 = .ok (.getfield 95, 3) := by decide +kernel
theorem dX9_odds_67 : decode cX9_odds 67 = .ok (.bipush 12, 2) := by decide +kernel
theorem dX9_odds_69 : decode cX9_odds 69 = .ok (.if_icmp .lt 10, 3) := by decide +kernel
theorem dX9_odds_72 : decode cX9_odds 72 = .ok (.aload_n 0, 1) := by decide +kernel
theorem dX9_odds_73 : decode cX9_odds 73 = .ok (.ldc 216, 2) := by decide +kernel
theorem dX9_odds_75 : decode cX9_odds 75 = .ok (.invokevirtual 88, 3) := by decide +kernel
theorem dX9_odds_78 : decode cX9_odds 78 = .ok (.ireturn, 1) := by decide +kernel
theorem dX9_odds_79 : decode cX9_odds 79 = .ok (.aload_n 0, 1) := by decide +kernel
theorem dX9_odds_80 : decode cX9_odds 80 = .ok (.getfield 29, 3) := by decide +kernel
theorem dX9_odds_83 : decode cX9_odds 83 = .ok (.iload_n 1, 1) := by decide +kernel
theorem dX9_odds_84 : decode cX9_odds 84 = .ok (.invokevirtual 148, 3) := by decide +kernel
theorem dX9_odds_87 : decode cX9_odds 87 = .ok (.aload_n 0, 1) := by decide +kernel
theorem dX9_odds_88 : decode cX9_odds 88 = .ok (.getfield 29, 3) := by decide +kernel
theorem dX9_odds_91 : decode cX9_odds 91 = .ok (.iload_n 2, 1) := by decide +kernel
theorem dX9_odds_92 : decode cX9_odds 92 = .ok (.putfield 123, 3) := by decide +kernel
theorem dX9_odds_95 : decode cX9_odds 95 = .ok (.aload_n 0, 1) := by decide +kernel
theorem dX9_odds_96 : decode cX9_odds 96 = .ok (.aload_n 0, 1) := by decide +kernel
theorem dX9_odds_97 : decode cX9_odds 97 = .ok (.getfield 12, 3) := by decide +kernel
theorem dX9_odds_100 : decode cX9_odds 100 = .ok (.getfield 92, 3) := by decide +kernel
theorem dX9_odds_103 : decode cX9_odds 103 = .ok (.getfield 107, 3) := by decide +kernel
theorem dX9_odds_106 : decode cX9_odds 106 = .ok (.iload 4, 2) := by decide +kernel
theorem dX9_odds_108 : decode cX9_odds 108 = .ok (.aaload, 1) := by decide +kernel
theorem dX9_odds_109 : decode cX9_odds 109 = .ok (.invokevirtual 268, 3) := by decide +kernel
theorem dX9_odds_112 : decode cX9_odds 112 = .ok (.istore 5, 2) := by decide +kernel
theorem dX9_odds_114 : decode cX9_odds 114 = .ok (.iload 5, 2) := by decide +kernel
theorem dX9_odds_116 : decode cX9_odds 116 = .ok (.invokestatic 271, 3) := by decide +kernel
theorem dX9_odds_119 : decode cX9_odds 119 = .ok (.istore 6, 2) := by decide +kernel
theorem dX9_odds_121 : decode cX9_odds 121 = .ok (.iload_n 3, 1) := by decide +kernel
theorem dX9_odds_122 : decode cX9_odds 122 = .ok (.ifCond .ne 11, 3) := by decide +kernel
theorem dX9_odds_125 : decode cX9_odds 125 = .ok (.iload 5, 2) := by decide +kernel
theorem dX9_odds_127 : decode cX9_odds 127 = .ok (.iload 6, 2) := by decide +kernel
theorem dX9_odds_129 : decode cX9_odds 129 = .ok (.idiv, 1) := by decide +kernel
theorem dX9_odds_130 : decode cX9_odds 130 = .ok (.goto 8, 3) := by decide +kernel
theorem dX9_odds_133 : decode cX9_odds 133 = .ok (.bipush 72, 2) := by decide +kernel
theorem dX9_odds_135 : decode cX9_odds 135 = .ok (.iload 6, 2) := by decide +kernel
theorem dX9_odds_137 : decode cX9_odds 137 = .ok (.idiv, 1) := by decide +kernel
theorem dX9_odds_138 : decode cX9_odds 138 = .ok (.ireturn, 1) := by decide +kernel
theorem dX9_fits_0 : decode cX9_fits 0 = .ok (.iload_n 1, 1) := by decide +kernel
theorem dX9_fits_1 : decode cX9_fits 1 = .ok (.invokestatic 274, 3) := by decide +kernel
theorem dX9_fits_4 : decode cX9_fits 4 = .ok (.ifCond .ne 10, 3) := by decide +kernel
theorem dX9_fits_7 : decode cX9_fits 7 = .ok (.aload_n 0, 1) := by decide +kernel
theorem dX9_fits_8 : decode cX9_fits 8 = .ok (.ldc 87, 2) := by decide +kernel
theorem dX9_fits_10 : decode cX9_fits 10 = .ok (.invokevirtual 88, 3) := by decide +kernel
theorem dX9_fits_13 : decode cX9_fits 13 = .ok (.ireturn, 1) := by decide +kernel
theorem dX9_fits_14 : decode cX9_fits 14 = .ok (.aload_n 0, 1) := by decide +kernel
theorem dX9_fits_15 : decode cX9_fits 15 = .ok (.getfield 68, 3) := by decide +kernel
theorem dX9_fits_18 : decode cX9_fits 18 = .ok (.iload_n 1, 1) := by decide +kernel
theorem dX9_fits_19 : decode cX9_fits 19 = .ok (.aaload, 1) := by decide +kernel
theorem dX9_fits_20 : decode cX9_fits 20 = .ok (.astore_n 2, 1) := by decide +kernel
theorem dX9_fits_21 : decode cX9_fits 21 = .ok (.aload_n 2, 1) := by decide +kernel
theorem dX9_fits_22 : decode cX9_fits 22 = .ok (.invokevirtual 277, 3) := by decide +kernel
theorem dX9_fits_25 : decode cX9_fits 25 = .ok (.ifCond .eq 11, 3) := by decide +kernel
theorem dX9_fits_28 : decode cX9_fits 28 = .ok (.aload_n 0, 1) := by decide +kernel
theorem dX9_fits_29 : decode cX9_fits 29 = .ok (.ldc_w 280, 3) := by decide +kernel
theorem dX9_fits_32 : decode cX9_fits 32 = .ok (.invokevirtual 88, 3) := by decide +kernel
theorem dX9_fits_35 : decode cX9_fits 35 = .ok (.ireturn, 1) := by decide +kernel
theorem dX9_fits_36 : decode cX9_fits 36 = .ok (.aload_n 0, 1) := by decide +kernel
theorem dX9_fits_37 : decode cX9_fits 37 = .ok (.getfield 22, 3) := by decide +kernel
theorem dX9_fits_40 : decode cX9_fits 40 = .ok (.aload_n 0, 1) := by decide +kernel
theorem dX9_fits_41 : decode cX9_fits 41 = .ok (.getfield 12, 3) := by decide +kernel
theorem dX9_fits_44 : decode cX9_fits 44 = .ok (.getfield 92, 3) := by decide +kernel
theorem dX9_fits_47 : decode cX9_fits 47 = .ok (.invokevirtual 238, 3) := by decide +kernel
theorem dX9_fits_50 : decode cX9_fits 50 = .ok (.iconst 0, 1) := by decide +kernel
theorem dX9_fits_51 : decode cX9_fits 51 = .ok (.istore_n 3, 1) := by decide +kernel
theorem dX9_fits_52 : decode cX9_fits 52 = .ok (.iload_n 3, 1) := by decide +kernel
theorem dX9_fits_53 : decode cX9_fits 53 = .ok (.bipush 60, 2) := by decide +kernel
theorem dX9_fits_55 : decode cX9_fits 55 = .ok (.if_icmp .gt 29, 3) := by decide +kernel
theorem dX9_fits_58 : decode cX9_fits 58 = .ok (.aload_n 2, 1) := by decide +kernel
theorem dX9_fits_59 : decode cX9_fits 59 = .ok (.aload_n 0, 1) := by decide +kernel
theorem dX9_fits_60 : decode cX9_fits 60 = .ok (.getfield 22, 3) := by decide +kernel
theorem dX9_fits_63 : decode cX9_fits 63 = .ok (.invokestatic 281, 3) := by decide +kernel
theorem dX9_fits_66 : decode cX9_fits 66 = .ok (.ifCond .eq 5, 3) := by decide +kernel
theorem dX9_fits_69 : decode cX9_fits 69 = .ok (.iload_n 3, 1) := by decide +kernel
theorem dX9_fits_70 : decode cX9_fits 70 = .ok (.ireturn, 1) := by decide +kernel
theorem dX9_fits_71 : decode cX9_fits 71 = .ok (.aload_n 0, 1) := by decide +kernel
theorem dX9_fits_72 : decode cX9_fits 72 = .ok (.getfield 22, 3) := by decide +kernel
theorem dX9_fits_75 : decode cX9_fits 75 = .ok (.invokevirtual 285, 3) := by decide +kernel
theorem dX9_fits_78 : decode cX9_fits 78 = .ok (.iinc 3 1, 3) := by decide +kernel
theorem dX9_fits_81 : decode cX9_fits 81 = .ok (.goto (-29), 3) := by decide +kernel
theorem dX9_fits_84 : decode cX9_fits 84 = .ok (.aload_n 0, 1) := by decide +kernel
theorem dX9_fits_85 : decode cX9_fits 85 = .ok (.ldc_w 280, 3) := by decide +kernel
theorem dX9_fits_88 : decode cX9_fits 88 = .ok (.invokevirtual 88, 3) := by decide +kernel
theorem dX9_fits_91 : decode cX9_fits 91 = .ok (.ireturn, 1) := by decide +kernel
theorem dX9_voice_0 : decode cX9_voice 0 = .ok (.aload_n 0, 1) := by decide +kernel
theorem dX9_voice_1 : decode cX9_voice 1 = .ok (.iload_n 1, 1) := by decide +kernel
theorem dX9_voice_2 : decode cX9_voice 2 = .ok (.invokevirtual 104, 3) := by decide +kernel
theorem dX9_voice_5 : decode cX9_voice 5 = .ok (.ifCond .eq 12, 3) := by decide +kernel
theorem dX9_voice_8 : decode cX9_voice 8 = .ok (.iload_n 2, 1) := by decide +kernel
theorem dX9_voice_9 : decode cX9_voice 9 = .ok (.ifCond .lt 8, 3) := by decide +kernel
theorem dX9_voice_12 : decode cX9_voice 12 = .ok (.iload_n 2, 1) := by decide +kernel
theorem dX9_voice_13 : decode cX9_voice 13 = .ok (.iconst 4, 1) := by decide +kernel
theorem dX9_voice_14 : decode cX9_voice 14 = .ok (.if_icmp .lt 10, 3) := by decide +kernel
theorem dX9_voice_17 : decode cX9_voice 17 = .ok (.aload_n 0, 1) := by decide +kernel
theorem dX9_voice_18 : decode cX9_voice 18 = .ok (.ldc 87, 2) := by decide +kernel
theorem dX9_voice_20 : decode cX9_voice 20 = .ok (.invokevirtual 88, 3) := by decide +kernel
theorem dX9_voice_23 : decode cX9_voice 23 = .ok (.ireturn, 1) := by decide +kernel
theorem dX9_voice_24 : decode cX9_voice 24 = .ok (.aload_n 0, 1) := by decide +kernel
theorem dX9_voice_25 : decode cX9_voice 25 = .ok (.getfield 62, 3) := by decide +kernel
theorem dX9_voice_28 : decode cX9_voice 28 = .ok (.aload_n 0, 1) := by decide +kernel
theorem dX9_voice_29 : decode cX9_voice 29 = .ok (.getfield 12, 3) := by decide +kernel
theorem dX9_voice_32 : decode cX9_voice 32 = .ok (.getfield 92, 3) := by decide +kernel
theorem dX9_voice_35 : decode cX9_voice 35 = .ok (.getfield 107, 3) := by decide +kernel
theorem dX9_voice_38 : decode cX9_voice 38 = .ok (.iload_n 1, 1) := by decide +kernel
theorem dX9_voice_39 : decode cX9_voice 39 = .ok (.aaload, 1) := by decide +kernel
theorem dX9_voice_40 : decode cX9_voice 40 = .ok (.iload_n 1, 1) := by decide +kernel
theorem dX9_voice_41 : decode cX9_voice 41 = .ok (.iload_n 2, 1) := by decide +kernel
theorem dX9_voice_42 : decode cX9_voice 42 = .ok (.iload_n 3, 1) := by decide +kernel
theorem dX9_voice_43 : decode cX9_voice 43 = .ok (.invokevirtual 288, 3) := by decide +kernel
theorem dX9_voice_46 : decode cX9_voice 46 = .ok (.istore 4, 2) := by decide +kernel
theorem dX9_voice_48 : decode cX9_voice 48 = .ok (.aload_n 0, 1) := by decide +kernel
theorem dX9_voice_49 : decode cX9_voice 49 = .ok (.getfield 62, 3) := by decide +kernel
theorem dX9_voice_52 : decode cX9_voice 52 = .ok (.getfield 292, 3) := by decide +kernel
theorem dX9_voice_55 : decode cX9_voice 55 = .ok (.ifCond .eq 13, 3) := by decide +kernel
theorem dX9_voice_58 : decode cX9_voice 58 = .ok (.aload_n 0, 1) := by decide +kernel
theorem dX9_voice_59 : decode cX9_voice 59 = .ok (.ldc_w 295, 3) := by decide +kernel
theorem dX9_voice_62 : decode cX9_voice 62 = .ok (.invokevirtual 88, 3) := by decide +kernel
theorem dX9_voice_65 : decode cX9_voice 65 = .ok (.goto 5, 3) := by decide +kernel
theorem dX9_voice_68 : decode cX9_voice 68 = .ok (.iload 4, 2) := by decide +kernel
theorem dX9_voice_70 : decode cX9_voice 70 = .ok (.ireturn, 1) := by decide +kernel
theorem dX9_body_0 : decode cX9_body 0 = .ok (.iload_n 1, 1) := by decide +kernel
theorem dX9_body_1 : decode cX9_body 1 = .ok (.ifCond .lt 26, 3) := by decide +kernel
theorem dX9_body_4 : decode cX9_body 4 = .ok (.iload_n 1, 1) := by decide +kernel
theorem dX9_body_5 : decode cX9_body 5 = .ok (.aload_n 0, 1) := by decide +kernel
theorem dX9_body_6 : decode cX9_body 6 = .ok (.getfield 62, 3) := by decide +kernel
theorem dX9_body_9 : decode cX9_body 9 = .ok (.getfield 296, 3) := by decide +kernel
theorem dX9_body_12 : decode cX9_body 12 = .ok (.if_icmp .ge 15, 3) := by decide +kernel
theorem dX9_body_15 : decode cX9_body 15 = .ok (.aload_n 0, 1) := by decide +kernel
theorem dX9_body_16 : decode cX9_body 16 = .ok (.getfield 62, 3) := by decide +kernel
theorem dX9_body_19 : decode cX9_body 19 = .ok (.getfield 299, 3) := by decide +kernel
theorem dX9_body_22 : decode cX9_body 22 = .ok (.iload_n 1, 1) := by decide +kernel
theorem dX9_body_23 : decode cX9_body 23 = .ok (.iaload, 1) := by decide +kernel
theorem dX9_body_24 : decode cX9_body 24 = .ok (.goto 10, 3) := by decide +kernel
theorem dX9_body_27 : decode cX9_body 27 = .ok (.aload_n 0, 1) := by decide +kernel
theorem dX9_body_28 : decode cX9_body 28 = .ok (.ldc_w 280, 3) := by decide +kernel
theorem dX9_body_31 : decode cX9_body 31 = .ok (.invokevirtual 88, 3) := by decide +kernel
theorem dX9_body_34 : decode cX9_body 34 = .ok (.ireturn, 1) := by decide +kernel
theorem dX9_sheet_0 : decode cX9_sheet 0 = .ok (.iload_n 1, 1) := by decide +kernel
theorem dX9_sheet_1 : decode cX9_sheet 1 = .ok (.invokestatic 274, 3) := by decide +kernel
theorem dX9_sheet_4 : decode cX9_sheet 4 = .ok (.ifCond .eq 25, 3) := by decide +kernel
theorem dX9_sheet_7 : decode cX9_sheet 7 = .ok (.iload_n 2, 1) := by decide +kernel
theorem dX9_sheet_8 : decode cX9_sheet 8 = .ok (.ifCond .eq 28, 3) := by decide +kernel
theorem dX9_sheet_11 : decode cX9_sheet 11 = .ok (.iload_n 2, 1) := by decide +kernel
theorem dX9_sheet_12 : decode cX9_sheet 12 = .ok (.bipush 8, 2) := by decide +kernel
theorem dX9_sheet_14 : decode cX9_sheet 14 = .ok (.if_icmp .eq 22, 3) := by decide +kernel
theorem dX9_sheet_17 : decode cX9_sheet 17 = .ok (.iload_n 2, 1) := by decide +kernel
theorem dX9_sheet_18 : decode cX9_sheet 18 = .ok (.bipush 16, 2) := by decide +kernel
theorem dX9_sheet_20 : decode cX9_sheet 20 = .ok (.if_icmp .eq 16, 3) := by decide +kernel
theorem dX9_sheet_23 : decode cX9_sheet 23 = .ok (.iload_n 2, 1) := by decide +kernel
theorem dX9_sheet_24 : decode cX9_sheet 24 = .ok (.bipush 32, 2) := by decide +kernel
theorem dX9_sheet_26 : decode cX9_sheet 26 = .ok (.if_icmp .eq 10, 3) := by decide +kernel
theorem dX9_sheet_29 : decode cX9_sheet 29 = .ok (.aload_n 0, 1) := by decide +kernel
theorem dX9_sheet_30 : decode cX9_sheet 30 = .ok (.ldc 87, 2) := by decide +kernel
theorem dX9_sheet_32 : decode cX9_sheet 32 = .ok (.invokevirtual 88, 3) := by decide +kernel
theorem dX9_sheet_35 : decode cX9_sheet 35 = .ok (.ireturn, 1) := by decide +kernel
theorem dX9_sheet_36 : decode cX9_sheet 36 = .ok (.iload_n 2, 1) := by decide +kernel
theorem dX9_sheet_37 : decode cX9_sheet 37 = .ok (.ifCond .ne 16, 3) := by decide +kernel
theorem dX9_sheet_40 : decode cX9_sheet 40 = .ok (.aload_n 0, 1) := by decide +kernel
theorem dX9_sheet_41 : decode cX9_sheet 41 = .ok (.getfield 68, 3) := by decide +kernel
theorem dX9_sheet_44 : decode cX9_sheet 44 = .ok (.iload_n 1, 1) := by decide +kernel
theorem dX9_sheet_45 : decode cX9_sheet 45 = .ok (.aaload, 1) := by decide +kernel
theorem dX9_sheet_46 : decode cX9_sheet 46 = .ok (.iconst 0, 1) := by decide +kernel
theorem dX9_sheet_47 : decode cX9_sheet 47 = .ok (.iconst 0, 1) := by decide +kernel
theorem dX9_sheet_48 : decode cX9_sheet 48 = .ok (.invokevirtual 302, 3) := by decide +kernel
theorem dX9_sheet_51 : decode cX9_sheet 51 = .ok (.iconst 1, 1) := by decide +kernel
theorem dX9_sheet_52 : decode cX9_sheet 52 = .ok (.ireturn, 1) := by decide +kernel
theorem dX9_sheet_53 : decode cX9_sheet 53 = .ok (.iload_n 3, 1) := by decide +kernel
theorem dX9_sheet_54 : decode cX9_sheet 54 = .ok (.ifCond .ge 10, 3) := by decide +kernel
theorem dX9_sheet_57 : decode cX9_sheet 57 = .ok (.aload_n 0, 1) := by decide +kernel
theorem dX9_sheet_58 : decode cX9_sheet 58 = .ok (.ldc 216, 2) := by decide +kernel
theorem dX9_sheet_60 : decode cX9_sheet 60 = .ok (.invokevirtual 88, 3) := by decide +kernel
theorem dX9_sheet_63 : decode cX9_sheet 63 = .ok (.ireturn, 1) := by decide +kernel
theorem dX9_sheet_64 : decode cX9_sheet 64 = .ok (.iload_n 3, 1) := by decide +kernel
theorem dX9_sheet_65 : decode cX9_sheet 65 = .ok (.bipush 24, 2) := by decide +kernel
theorem dX9_sheet_67 : decode cX9_sheet 67 = .ok (.if_icmp .le 10, 3) := by decide +kernel
theorem dX9_sheet_70 : decode cX9_sheet 70 = .ok (.aload_n 0, 1) := by decide +kernel
theorem dX9_sheet_71 : decode cX9_sheet 71 = .ok (.ldc 87, 2) := by decide +kernel
theorem dX9_sheet_73 : decode cX9_sheet 73 = .ok (.invokevirtual 88, 3) := by decide +kernel
theorem dX9_sheet_76 : decode cX9_sheet 76 = .ok (.ireturn, 1) := by decide +kernel
theorem dX9_sheet_77 : decode cX9_sheet 77 = .ok (.aload_n 0, 1) := by decide +kernel
theorem dX9_sheet_78 : decode cX9_sheet 78 = .ok (.getfield 68, 3) := by decide +kernel
theorem dX9_sheet_81 : decode cX9_sheet 81 = .ok (.iload_n 1, 1) := by decide +kernel
theorem dX9_sheet_82 : decode cX9_sheet 82 = .ok (.aaload, 1) := by decide +kernel
theorem dX9_sheet_83 : decode cX9_sheet 83 = .ok (.iload_n 2, 1) := by decide +kernel
theorem dX9_sheet_84 : decode cX9_sheet 84 = .ok (.iload_n 3, 1) := by decide +kernel
theorem dX9_sheet_85 : decode cX9_sheet 85 = .ok (.invokevirtual 302, 3) := by decide +kernel
theorem dX9_sheet_88 : decode cX9_sheet 88 = .ok (.iconst 1, 1) := by decide +kernel
theorem dX9_sheet_89 : decode cX9_sheet 89 = .ok (.ireturn, 1) := by decide +kernel
theorem dX9_put_0 : decode cX9_put 0 = .ok (.iload_n 1, 1) := by decide +kernel
theorem dX9_put_1 : decode cX9_put 1 = .ok (.invokestatic 274, 3) := by decide +kernel
theorem dX9_put_4 : decode cX9_put 4 = .ok (.ifCond .ne 10, 3) := by decide +kernel
theorem dX9_put_7 : decode cX9_put 7 = .ok (.aload_n 0, 1) := by decide +kernel
theorem dX9_put_8 : decode cX9_put 8 = .ok (.ldc 87, 2) := by decide +kernel
theorem dX9_put_10 : decode cX9_put 10 = .ok (.invokevirtual 88, 3) := by decide +kernel
theorem dX9_put_13 : decode cX9_put 13 = .ok (.ireturn, 1) := by decide +kernel
theorem dX9_put_14 : decode cX9_put 14 = .ok (.aload_n 0, 1) := by decide +kernel
theorem dX9_put_15 : decode cX9_put 15 = .ok (.getfield 68, 3) := by decide +kernel
theorem dX9_put_18 : decode cX9_put 18 = .ok (.iload_n 1, 1) := by decide +kernel
theorem dX9_put_19 : decode cX9_put 19 = .ok (.aaload, 1) := by decide +kernel
theorem dX9_put_20 : decode cX9_put 20 = .ok (.astore 4, 2) := by decide +kernel
theorem dX9_put_22 : decode cX9_put 22 = .ok (.aload 4, 2) := by decide +kernel
theorem dX9_put_24 : decode cX9_put 24 = .ok (.invokevirtual 277, 3) := by decide +kernel
theorem dX9_put_27 : decode cX9_put 27 = .ok (.ifCond .eq 11, 3) := by decide +kernel
theorem dX9_put_30 : decode cX9_put 30 = .ok (.aload_n 0, 1) := by decide +kernel
theorem dX9_put_31 : decode cX9_put 31 = .ok (.ldc_w 280, 3) := by decide +kernel
theorem dX9_put_34 : decode cX9_put 34 = .ok (.invokevirtual 88, 3) := by decide +kernel
theorem dX9_put_37 : decode cX9_put 37 = .ok (.ireturn, 1) := by decide +kernel
theorem dX9_put_38 : decode cX9_put 38 = .ok (.iload_n 2, 1) := by decide +kernel
theorem dX9_put_39 : decode cX9_put 39 = .ok (.ifCond .lt 12, 3) := by decide +kernel
theorem dX9_put_42 : decode cX9_put 42 = .ok (.iload_n 2, 1) := by decide +kernel
theorem dX9_put_43 : decode cX9_put 43 = .ok (.aload 4, 2) := by decide +kernel
theorem dX9_put_45 : decode cX9_put 45 = .ok (.getfield 306, 3) := by decide +kernel
theorem dX9_put_48 : decode cX9_put 48 = .ok (.if_icmp .lt 10, 3) := by decide +kernel
theorem dX9_put_51 : decode cX9_put 51 = .ok (.aload_n 0, 1) := by decide +kernel
theorem dX9_put_52 : decode cX9_put 52 = .ok (.ldc 87, 2) := by decide +kernel
theorem dX9_put_54 : decode cX9_put 54 = .ok (.invokevirtual 88, 3) := by decide +kernel
theorem dX9_put_57 : decode cX9_put 57 = .ok (.ireturn, 1) := by decide +kernel
theorem dX9_put_58 : decode cX9_put 58 = .ok (.aload 4, 2) := by decide +kernel
theorem dX9_put_60 : decode cX9_put 60 = .ok (.iload_n 2, 1) := by decide +kernel
theorem dX9_put_61 : decode cX9_put 61 = .ok (.iload_n 3, 1) := by decide +kernel
theorem dX9_put_62 : decode cX9_put 62 = .ok (.invokevirtual 307, 3) := by decide +kernel
theorem dX9_put_65 : decode cX9_put 65 = .ok (.iconst 1, 1) := by decide +kernel
theorem dX9_put_66 : decode cX9_put 66 = .ok (.ireturn, 1) := by decide +kernel
theorem dX9_move_0 : decode cX9_move 0 = .ok (.iload_n 1, 1) := by decide +kernel
theorem dX9_move_1 : decode cX9_move 1 = .ok (.invokestatic 274, 3) := by decide +kernel
theorem dX9_move_4 : decode cX9_move 4 = .ok (.ifCond .eq 10, 3) := by decide +kernel
theorem dX9_move_7 : decode cX9_move 7 = .ok (.iload_n 3, 1) := by decide +kernel
theorem dX9_move_8 : decode cX9_move 8 = .ok (.invokestatic 274, 3) := by decide +kernel
theorem dX9_move_11 : decode cX9_move 11 = .ok (.ifCond .ne 10, 3) := by decide +kernel
theorem dX9_move_14 : decode cX9_move 14 = .ok (.aload_n 0, 1) := by decide +kernel
theorem dX9_move_15 : decode cX9_move 15 = .ok (.ldc 87, 2) := by decide +kernel
theorem dX9_move_17 : decode cX9_move 17 = .ok (.invokevirtual 88, 3) := by decide +kernel
theorem dX9_move_20 : decode cX9_move 20 = .ok (.ireturn, 1) := by decide +kernel
theorem dX9_move_21 : decode cX9_move 21 = .ok (.aload_n 0, 1) := by decide +kernel
theorem dX9_move_22 : decode cX9_move 22 = .ok (.getfield 68, 3) := by decide +kernel
theorem dX9_move_25 : decode cX9_move 25 = .ok (.iload_n 1, 1) := by decide +kernel
theorem dX9_move_26 : decode cX9_move 26 = .ok (.aaload, 1) := by decide +kernel
theorem dX9_move_27 : decode cX9_move 27 = .ok (.astore 6, 2) := by decide +kernel
theorem dX9_move_29 : decode cX9_move 29 = .ok (.aload_n 0, 1) := by decide +kernel
theorem dX9_move_30 : decode cX9_move 30 = .ok (.getfield 68, 3) := by decide +kernel
theorem dX9_move_33 : decode cX9_move 33 = .ok (.iload_n 3, 1) := by decide +kernel
theorem dX9_move_34 : decode cX9_move 34 = .ok (.aaload, 1) := by decide +kernel
theorem dX9_move_35 : decode cX9_move 35 = .ok (.astore 7, 2) := by decide +kernel
theorem dX9_move_37 : decode cX9_move 37 = .ok (.aload 6, 2) := by decide +kernel
theorem dX9_move_39 : decode cX9_move 39 = .ok (.invokevirtual 277, 3) := by decide +kernel
theorem dX9_move_42 : decode cX9_move 42 = .ok (.ifCond .ne 11, 3) := by decide +kernel
theorem dX9_move_45 : decode cX9_move 45 = .ok (.aload 7, 2) := by decide +kernel
theorem dX9_move_47 : decode cX9_move 47 = .ok (.invokevirtual 277, 3) := by decide +kernel
theorem dX9_move_50 : decode cX9_move 50 = .ok (.ifCond .eq 11, 3) := by decide +kernel
theorem dX9_move_53 : decode cX9_move 53 = .ok (.aload_n 0, 1) := by decide +kernel
theorem dX9_move_54 : decode cX9_move 54 = .ok (.ldc_w 280, 3) := by decide +kernel
theorem dX9_move_57 : decode cX9_move 57 = .ok (.invokevirtual 88, 3) := by decide +kernel
theorem dX9_move_60 : decode cX9_move 60 = .ok (.ireturn, 1) := by decide +kernel
theorem dX9_move_61 : decode cX9_move 61 = .ok (.aload 6, 2) := by decide +kernel
theorem dX9_move_63 : decode cX9_move 63 = .ok (.getfield 310, 3) := by decide +kernel
theorem dX9_move_66 : decode cX9_move 66 = .ok (.aload 7, 2) := by decide +kernel
theorem dX9_move_68 : decode cX9_move 68 = .ok (.getfield 310, 3) := by decide +kernel
theorem dX9_move_71 : decode cX9_move 71 = .ok (.if_icmp .eq 10, 3) := by decide +kernel
theorem dX9_move_74 : decode cX9_move 74 = .ok (.aload_n 0, 1) := by decide +kernel
theorem dX9_move_75 : decode cX9_move 75 = .ok (.ldc 157, 2) := by decide +kernel
theorem dX9_move_77 : decode cX9_move 77 = .ok (.invokevirtual 88, 3) := by decide +kernel
theorem dX9_move_80 : decode cX9_move 80 = .ok (.ireturn, 1) := by decide +kernel
theorem dX9_move_81 : decode cX9_move 81 = .ok (.aload 6, 2) := by decide +kernel
theorem dX9_move_83 : decode cX9_move 83 = .ok (.iload_n 2, 1) := by decide +kernel
theorem dX9_move_84 : decode cX9_move 84 = .ok (.iload 5, 2) := by decide +kernel
theorem dX9_move_86 : decode cX9_move 86 = .ok (.invokevirtual 313, 3) := by decide +kernel
theorem dX9_move_89 : decode cX9_move 89 = .ok (.ifCond .eq 15, 3) := by decide +kernel
theorem dX9_move_92 : decode cX9_move 92 = .ok (.aload 7, 2) := by decide +kernel
theorem dX9_move_94 : decode cX9_move 94 = .ok (.iload 4, 2) := by decide +kernel
theorem dX9_move_96 : decode cX9_move 96 = .ok (.iload 5, 2) := by decide +kernel
theorem dX9_move_98 : decode cX9_move 98 = .ok (.invokevirtual 313, 3) := by decide +kernel
theorem dX9_move_101 : decode cX9_move 101 = .ok (.ifCond .ne 10, 3) := by decide +kernel
theorem dX9_move_104 : decode cX9_move 104 = .ok (.aload_n 0, 1) := by decide +kernel
theorem dX9_move_105 : decode cX9_move 105 = .ok (.ldc 87, 2) := by decide +kernel
theorem dX9_move_107 : decode cX9_move 107 = .ok (.invokevirtual 88, 3) := by decide +kernel
theorem dX9_move_110 : decode cX9_move 110 = .ok (.ireturn, 1) := by decide +kernel
theorem dX9_move_111 : decode cX9_move 111 = .ok (.aload 6, 2) := by decide +kernel
theorem dX9_move_113 : decode cX9_move 113 = .ok (.getfield 316, 3) := by decide +kernel
theorem dX9_move_116 : decode cX9_move 116 = .ok (.iload_n 2, 1) := by decide +kernel
theorem dX9_move_117 : decode cX9_move 117 = .ok (.aload 7, 2) := by decide +kernel
theorem dX9_move_119 : decode cX9_move 119 = .ok (.getfield 316, 3) := by decide +kernel
theorem dX9_move_122 : decode cX9_move 122 = .ok (.iload 4, 2) := by decide +kernel
theorem dX9_move_124 : decode cX9_move 124 = .ok (.iload 5, 2) := by decide +kernel
theorem dX9_move_126 : decode cX9_move 126 = .ok (.invokestatic 319, 3) := by decide +kernel
theorem dX9_move_129 : decode cX9_move 129 = .ok (.iload 5, 2) := by decide +kernel
theorem dX9_move_131 : decode cX9_move 131 = .ok (.ireturn, 1) := by decide +kernel
theorem dX9_lines_0 : decode cX9_lines 0 = .ok (.iload_n 1, 1) := by decide +kernel
theorem dX9_lines_1 : decode cX9_lines 1 = .ok (.invokestatic 274, 3) := by decide +kernel
theorem dX9_lines_4 : decode cX9_lines 4 = .ok (.ifCond .ne 10, 3) := by decide +kernel
theorem dX9_lines_7 : decode cX9_lines 7 = .ok (.aload_n 0, 1) := by decide +kernel
theorem dX9_lines_8 : decode cX9_lines 8 = .ok (.ldc 87, 2) := by decide +kernel
theorem dX9_lines_10 : decode cX9_lines 10 = .ok (.invokevirtual 88, 3) := by decide +kernel
theorem dX9_lines_13 : decode cX9_lines 13 = .ok (.ireturn, 1) := by decide +kernel
theorem dX9_lines_14 : decode cX9_lines 14 = .ok (.aload_n 0, 1) := by decide +kernel
theorem dX9_lines_15 : decode cX9_lines 15 = .ok (.getfield 68, 3) := by decide +kernel
theorem dX9_lines_18 : decode cX9_lines 18 = .ok (.iload_n 1, 1) := by decide +kernel
theorem dX9_lines_19 : decode cX9_lines 19 = .ok (.aaload, 1) := by decide +kernel
theorem dX9_lines_20 : decode cX9_lines 20 = .ok (.astore_n 2, 1) := by decide +kernel
theorem dX9_lines_21 : decode cX9_lines 21 = .ok (.aload_n 2, 1) := by decide +kernel
theorem dX9_lines_22 : decode cX9_lines 22 = .ok (.invokevirtual 277, 3) := by decide +kernel
theorem dX9_lines_25 : decode cX9_lines 25 = .ok (.ifCond .eq 11, 3) := by decide +kernel
theorem dX9_lines_28 : decode cX9_lines 28 = .ok (.aload_n 0, 1) := by decide +kernel
theorem dX9_lines_29 : decode cX9_lines 29 = .ok (.ldc_w 280, 3) := by decide +kernel
theorem dX9_lines_32 : decode cX9_lines 32 = .ok (.invokevirtual 88, 3) := by decide +kernel
theorem dX9_lines_35 : decode cX9_lines 35 = .ok (.ireturn, 1) := by decide +kernel
theorem dX9_lines_36 : decode cX9_lines 36 = .ok (.aload_n 2, 1) := by decide +kernel
theorem dX9_lines_37 : decode cX9_lines 37 = .ok (.getfield 306, 3) := by decide +kernel
theorem dX9_lines_40 : decode cX9_lines 40 = .ok (.aload_n 0, 1) := by decide +kernel
theorem dX9_lines_41 : decode cX9_lines 41 = .ok (.getfield 12, 3) := by decide +kernel
theorem dX9_lines_44 : decode cX9_lines 44 = .ok (.getfield 92, 3) := by decide +kernel
theorem dX9_lines_47 : decode cX9_lines 47 = .ok (.getfield 95, 3) := by decide +kernel
theorem dX9_lines_50 : decode cX9_lines 50 = .ok (.invokestatic 325, 3) := by decide +kernel
theorem dX9_lines_53 : decode cX9_lines 53 = .ok (.istore_n 3, 1) := by decide +kernel
theorem dX9_lines_54 : decode cX9_lines 54 = .ok (.iconst 0, 1) := by decide +kernel
theorem dX9_lines_55 : decode cX9_lines 55 = .ok (.istore 4, 2) := by decide +kernel
theorem dX9_lines_57 : decode cX9_lines 57 = .ok (.iload 4, 2) := by decide +kernel
theorem dX9_lines_59 : decode cX9_lines 59 = .ok (.iload_n 3, 1) := by decide +kernel
theorem dX9_lines_60 : decode cX9_lines 60 = .ok (.if_icmp .ge 45, 3) := by decide +kernel
theorem dX9_lines_63 : decode cX9_lines 63 = .ok (.aload_n 2, 1) := by decide +kernel
theorem dX9_lines_64 : decode cX9_lines 64 = .ok (.getfield 316, 3) := by decide +kernel
theorem dX9_lines_67 : decode cX9_lines 67 = .ok (.iload 4, 2) := by decide +kernel
theorem dX9_lines_69 : decode cX9_lines 69 = .ok (.iaload, 1) := by decide +kernel
theorem dX9_lines_70 : decode cX9_lines 70 = .ok (.invokestatic 81, 3) := by decide +kernel
theorem dX9_lines_73 : decode cX9_lines 73 = .ok (.ifCond .eq 32, 3) := by decide +kernel
theorem dX9_lines_76 : decode cX9_lines 76 = .ok (.aload_n 0, 1) := by decide +kernel
theorem dX9_lines_77 : decode cX9_lines 77 = .ok (.getfield 12, 3) := by decide +kernel
theorem dX9_lines_80 : decode cX9_lines 80 = .ok (.getfield 92, 3) := by decide +kernel
theorem dX9_lines_83 : decode cX9_lines 83 = .ok (.getfield 107, 3) := by decide +kernel
theorem dX9_lines_86 : decode cX9_lines 86 = .ok (.iload 4, 2) := by decide +kernel
theorem dX9_lines_88 : decode cX9_lines 88 = .ok (.aaload, 1) := by decide +kernel
theorem dX9_lines_89 : decode cX9_lines 89 = .ok (.aload_n 2, 1) := by decide +kernel
theorem dX9_lines_90 : decode cX9_lines 90 = .ok (.getfield 316, 3) := by decide +kernel
theorem dX9_lines_93 : decode cX9_lines 93 = .ok (.iload 4, 2) := by decide +kernel
theorem dX9_lines_95 : decode cX9_lines 95 = .ok (.iaload, 1) := by decide +kernel
theorem dX9_lines_96 : decode cX9_lines 96 = .ok (.invokevirtual 165, 3) := by decide +kernel
theorem dX9_lines_99 : decode cX9_lines 99 = .ok (.iinc 4 1, 3) := by decide +kernel
theorem dX9_lines_102 : decode cX9_lines 102 = .ok (.goto (-45), 3) := by decide +kernel
theorem dX9_lines_105 : decode cX9_lines 105 = .ok (.iload 4, 2) := by decide +kernel
theorem dX9_lines_107 : decode cX9_lines 107 = .ok (.ireturn, 1) := by decide +kernel
theorem dX9_judge_0 : decode cX9_judge 0 = .ok (.iload_n 1, 1) := by decide +kernel
theorem dX9_judge_1 : decode cX9_judge 1 = .ok (.invokestatic 274, 3) := by decide +kernel
theorem dX9_judge_4 : decode cX9_judge 4 = .ok (.ifCond .ne 10, 3) := by decide +kernel
theorem dX9_judge_7 : decode cX9_judge 7 = .ok (.aload_n 0, 1) := by decide +kernel
theorem dX9_judge_8 : decode cX9_judge 8 = .ok (.ldc 87, 2) := by decide +kernel
theorem dX9_judge_10 : decode cX9_judge 10 = .ok (.invokevirtual 88, 3) := by decide +kernel
theorem dX9_judge_13 : decode cX9_judge 13 = .ok (.ireturn, 1) := by decide +kernel
theorem dX9_judge_14 : decode cX9_judge 14 = .ok (.aload_n 0, 1) := by decide +kernel
theorem dX9_judge_15 : decode cX9_judge 15 = .ok (.getfield 68, 3) := by decide +kernel
theorem dX9_judge_18 : decode cX9_judge 18 = .ok (.iload_n 1, 1) := by decide +kernel
theorem dX9_judge_19 : decode cX9_judge 19 = .ok (.aaload, 1) := by decide +kernel
theorem dX9_judge_20 : decode cX9_judge 20 = .ok (.astore_n 2, 1) := by decide +kernel
theorem dX9_judge_21 : decode cX9_judge 21 = .ok (.aload_n 2, 1) := by decide +kernel
theorem dX9_judge_22 : decode cX9_judge 22 = .ok (.invokevirtual 277, 3) := by decide +kernel
theorem dX9_judge_25 : decode cX9_judge 25 = .ok (.ifCond .eq 11, 3) := by decide +kernel
theorem dX9_judge_28 : decode cX9_judge 28 = .ok (.aload_n 0, 1) := by decide +kernel
theorem dX9_judge_29 : decode cX9_judge 29 = .ok (.ldc_w 280, 3) := by decide +kernel
theorem dX9_judge_32 : decode cX9_judge 32 = .ok (.invokevirtual 88, 3) := by decide +kernel
theorem dX9_judge_35 : decode cX9_judge 35 = .ok (.ireturn, 1) := by decide +kernel
theorem dX9_judge_36 : decode cX9_judge 36 = .ok (.aload_n 2, 1) := by decide +kernel
theorem dX9_judge_37 : decode cX9_judge 37 = .ok (.getfield 306, 3) := by decide +kernel
theorem dX9_judge_40 : decode cX9_judge 40 = .ok (.aload_n 0, 1) := by decide +kernel
theorem dX9_judge_41 : decode cX9_judge 41 = .ok (.getfield 12, 3) := by decide +kernel
theorem dX9_judge_44 : decode cX9_judge 44 = .ok (.getfield 92, 3) := by decide +kernel
theorem dX9_judge_47 : decode cX9_judge 47 = .ok (.getfield 95, 3) := by decide +kernel
theorem dX9_judge_50 : decode cX9_judge 50 = .ok (.invokestatic 325, 3) := by decide +kernel
theorem dX9_judge_53 : decode cX9_judge 53 = .ok (.istore_n 3, 1) := by decide +kernel
theorem dX9_judge_54 : decode cX9_judge 54 = .ok (.iconst 0, 1) := by decide +kernel
theorem dX9_judge_55 : decode cX9_judge 55 = .ok (.istore 4, 2) := by decide +kernel
theorem dX9_judge_57 : decode cX9_judge 57 = .ok (.iload 4, 2) := by decide +kernel
theorem dX9_judge_59 : decode cX9_judge 59 = .ok (.iload_n 3, 1) := by decide +kernel
theorem dX9_judge_60 : decode cX9_judge 60 = .ok (.if_icmp .ge 39, 3) := by decide +kernel
theorem dX9_judge_63 : decode cX9_judge 63 = .ok (.aload_n 2, 1) := by decide +kernel
theorem dX9_judge_64 : decode cX9_judge 64 = .ok (.getfield 316, 3) := by decide +kernel
theorem dX9_judge_67 : decode cX9_judge 67 = .ok (.iload 4, 2) := by decide +kernel
theorem dX9_judge_69 : decode cX9_judge 69 = .ok (.iaload, 1) := by decide +kernel
theorem dX9_judge_70 : decode cX9_judge 70 = .ok (.aload_n 0, 1) := by decide +kernel
theorem dX9_judge_71 : decode cX9_judge 71 = .ok (.getfield 12, 3) := by decide +kernel
theorem dX9_judge_74 : decode cX9_judge 74 = .ok (.aload_n 0, 1) := by decide +kernel
theorem dX9_judge_75 : decode cX9_judge 75 = .ok (.getfield 12, 3) := by decide +kernel
theorem dX9_judge_78 : decode cX9_judge 78 = .ok (.getfield 92, 3) := by decide +kernel
theorem dX9_judge_81 : decode cX9_judge 81 = .ok (.getfield 107, 3) := by decide +kernel
theorem dX9_judge_84 : decode cX9_judge 84 = .ok (.iload 4, 2) := by decide +kernel
theorem dX9_judge_86 : decode cX9_judge 86 = .ok (.aaload, 1) := by decide +kernel
theorem dX9_judge_87 : decode cX9_judge 87 = .ok (.invokevirtual 141, 3) := by decide +kernel
theorem dX9_judge_90 : decode cX9_judge 90 = .ok (.if_icmp .ne 9, 3) := by decide +kernel
theorem dX9_judge_93 : decode cX9_judge 93 = .ok (.iinc 4 1, 3) := by decide +kernel
theorem dX9_judge_96 : decode cX9_judge 96 = .ok (.goto (-39), 3) := by decide +kernel
theorem dX9_judge_99 : decode cX9_judge 99 = .ok (.iload 4, 2) := by decide +kernel
theorem dX9_judge_101 : decode cX9_judge 101 = .ok (.ireturn, 1) := by decide +kernel
theorem dX9_image_0 : decode cX9_image 0 = .ok (.aload_n 0, 1) := by decide +kernel
theorem dX9_image_1 : decode cX9_image 1 = .ok (.getfield 16, 3) := by decide +kernel
theorem dX9_image_4 : decode cX9_image 4 = .ok (.aload_n 0, 1) := by decide +kernel
theorem dX9_image_5 : decode cX9_image 5 = .ok (.getfield 12, 3) := by decide +kernel
theorem dX9_image_8 : decode cX9_image 8 = .ok (.invokevirtual 331, 3) := by decide +kernel
theorem dX9_image_11 : decode cX9_image 11 = .ok (.aload_n 0, 1) := by decide +kernel
theorem dX9_image_12 : decode cX9_image 12 = .ok (.dup, 1) := by decide +kernel
theorem dX9_image_13 : decode cX9_image 13 = .ok (.getfield 334, 3) := by decide +kernel
theorem dX9_image_16 : decode cX9_image 16 = .ok (.iconst 1, 1) := by decide +kernel
theorem dX9_image_17 : decode cX9_image 17 = .ok (.iadd, 1) := by decide +kernel
theorem dX9_image_18 : decode cX9_image 18 = .ok (.putfield 334, 3) := by decide +kernel
theorem dX9_image_21 : decode cX9_image 21 = .ok (.aload_n 0, 1) := by decide +kernel
theorem dX9_image_22 : decode cX9_image 22 = .ok (.getfield 334, 3) := by decide +kernel
theorem dX9_image_25 : decode cX9_image 25 = .ok (.ireturn, 1) := by decide +kernel
theorem dX9_restore_0 : decode cX9_restore 0 = .ok (.aload_n 0, 1) := by decide +kernel
theorem dX9_restore_1 : decode cX9_restore 1 = .ok (.getfield 334, 3) := by decide +kernel
theorem dX9_restore_4 : decode cX9_restore 4 = .ok (.ifCond .ne 11, 3) := by decide +kernel
theorem dX9_restore_7 : decode cX9_restore 7 = .ok (.aload_n 0, 1) := by decide +kernel
theorem dX9_restore_8 : decode cX9_restore 8 = .ok (.ldc_w 280, 3) := by decide +kernel
theorem dX9_restore_11 : decode cX9_restore 11 = .ok (.invokevirtual 88, 3) := by decide +kernel
theorem dX9_restore_14 : decode cX9_restore 14 = .ok (.ireturn, 1) := by decide +kernel
theorem dX9_restore_15 : decode cX9_restore 15 = .ok (.aload_n 0, 1) := by decide +kernel
theorem dX9_restore_16 : decode cX9_restore 16 = .ok (.getfield 12, 3) := by decide +kernel
theorem dX9_restore_19 : decode cX9_restore 19 = .ok (.aload_n 0, 1) := by decide +kernel
theorem dX9_restore_20 : decode cX9_restore 20 = .ok (.getfield 16, 3) := by decide +kernel
theorem dX9_restore_23 : decode cX9_restore 23 = .ok (.invokevirtual 331, 3) := by decide +kernel
theorem dX9_restore_26 : decode cX9_restore 26 = .ok (.aload_n 0, 1) := by decide +kernel
theorem dX9_restore_27 : decode cX9_restore 27 = .ok (.getfield 12, 3) := by decide +kernel
theorem dX9_restore_30 : decode cX9_restore 30 = .ok (.getfield 92, 3) := by decide +kernel
theorem dX9_restore_33 : decode cX9_restore 33 = .ok (.getfield 213, 3) := by decide +kernel
theorem dX9_restore_36 : decode cX9_restore 36 = .ok (.ireturn, 1) := by decide +kernel
theorem dX9_tell_0 : decode cX9_tell 0 = .ok (.aload_n 0, 1) := by decide +kernel
theorem dX9_tell_1 : decode cX9_tell 1 = .ok (.getfield 12, 3) := by decide +kernel
theorem dX9_tell_4 : decode cX9_tell 4 = .ok (.getfield 337, 3) := by decide +kernel
theorem dX9_tell_7 : decode cX9_tell 7 = .ok (.bipush 24, 2) := by decide +kernel
theorem dX9_tell_9 : decode cX9_tell 9 = .ok (.if_icmp .lt 10, 3) := by decide +kernel
theorem dX9_tell_12 : decode cX9_tell 12 = .ok (.aload_n 0, 1) := by decide +kernel
theorem dX9_tell_13 : decode cX9_tell 13 = .ok (.ldc 99, 2) := by decide +kernel
theorem dX9_tell_15 : decode cX9_tell 15 = .ok (.invokevirtual 88, 3) := by decide +kernel
theorem dX9_tell_18 : decode cX9_tell 18 = .ok (.ireturn, 1) := by decide +kernel
theorem dX9_tell_19 : decode cX9_tell 19 = .ok (.aload_n 0, 1) := by decide +kernel
theorem dX9_tell_20 : decode cX9_tell 20 = .ok (.getfield 12, 3) := by decide +kernel
theorem dX9_tell_23 : decode cX9_tell 23 = .ok (.getfield 340, 3) := by decide +kernel
theorem dX9_tell_26 : decode cX9_tell 26 = .ok (.aload_n 0, 1) := by decide +kernel
theorem dX9_tell_27 : decode cX9_tell 27 = .ok (.getfield 12, 3) := by decide +kernel
theorem dX9_tell_30 : decode cX9_tell 30 = .ok (.getfield 337, 3) := by decide +kernel
theorem dX9_tell_33 : decode cX9_tell 33 = .ok (.iload_n 1, 1) := by decide +kernel
theorem dX9_tell_34 : decode cX9_tell 34 = .ok (.iastore, 1) := by decide +kernel
theorem dX9_tell_35 : decode cX9_tell 35 = .ok (.aload_n 0, 1) := by decide +kernel
theorem dX9_tell_36 : decode cX9_tell 36 = .ok (.getfield 12, 3) := by decide +kernel
theorem dX9_tell_39 : decode cX9_tell 39 = .ok (.dup, 1) := by decide +kernel
theorem dX9_tell_40 : decode cX9_tell 40 = .ok (.getfield 337, 3) := by decide +kernel
theorem dX9_tell_43 : decode cX9_tell 43 = .ok (.iconst 1, 1) := by decide +kernel
theorem dX9_tell_44 : decode cX9_tell 44 = .ok (.iadd, 1) := by decide +kernel
theorem dX9_tell_45 : decode cX9_tell 45 = .ok (.putfield 337, 3) := by decide +kernel
theorem dX9_tell_48 : decode cX9_tell 48 = .ok (.aload_n 0, 1) := by decide +kernel
theorem dX9_tell_49 : decode cX9_tell 49 = .ok (.getfield 12, 3) := by decide +kernel
theorem dX9_tell_52 : decode cX9_tell 52 = .ok (.getfield 337, 3) := by decide +kernel
theorem dX9_tell_55 : decode cX9_tell 55 = .ok (.ireturn, 1) := by decide +kernel
theorem dX9_check_0 : decode cX9_check 0 = .ok (.aload_n 0, 1) := by decide +kernel
theorem dX9_check_1 : decode cX9_check 1 = .ok (.getfield 12, 3) := by decide +kernel
theorem dX9_check_4 : decode cX9_check 4 = .ok (.getfield 337, 3) := by decide +kernel
theorem dX9_check_7 : decode cX9_check 7 = .ok (.istore_n 1, 1) := by decide +kernel
theorem dX9_check_8 : decode cX9_check 8 = .ok (.aload_n 0, 1) := by decide +kernel
theorem dX9_check_9 : decode cX9_check 9 = .ok (.getfield 12, 3) := by decide +kernel
theorem dX9_check_12 : decode cX9_check 12 = .ok (.iconst 0, 1) := by decide +kernel
theorem dX9_check_13 : decode cX9_check 13 = .ok (.putfield 337, 3) := by decide +kernel
theorem dX9_check_16 : decode cX9_check 16 = .ok (.iconst 0, 1) := by decide +kernel
theorem dX9_check_17 : decode cX9_check 17 = .ok (.istore_n 2, 1) := by decide +kernel
theorem dX9_check_18 : decode cX9_check 18 = .ok (.iload_n 2, 1) := by decide +kernel
theorem dX9_check_19 : decode cX9_check 19 = .ok (.iload_n 1, 1) := by decide +kernel
theorem dX9_check_20 : decode cX9_check 20 = .ok (.if_icmp .ge 54, 3) := by decide +kernel
theorem dX9_check_23 : decode cX9_check 23 = .ok (.iload_n 2, 1) := by decide +kernel
theorem dX9_check_24 : decode cX9_check 24 = .ok (.aload_n 0, 1) := by decide +kernel
theorem dX9_check_25 : decode cX9_check 25 = .ok (.getfield 12, 3) := by decide +kernel
theorem dX9_check_28 : decode cX9_check 28 = .ok (.getfield 92, 3) := by decide +kernel
theorem dX9_check_31 : decode cX9_check 31 = .ok (.getfield 95, 3) := by decide +kernel
theorem dX9_check_34 : decode cX9_check 34 = .ok (.if_icmp .ge 30, 3) := by decide +kernel
theorem dX9_check_37 : decode cX9_check 37 = .ok (.aload_n 0, 1) := by decide +kernel
theorem dX9_check_38 : decode cX9_check 38 = .ok (.getfield 12, 3) := by decide +kernel
theorem dX9_check_41 : decode cX9_check 41 = .ok (.getfield 340, 3) := by decide +kernel
theorem dX9_check_44 : decode cX9_check 44 = .ok (.iload_n 2, 1) := by decide +kernel
theorem dX9_check_45 : decode cX9_check 45 = .ok (.iaload, 1) := by decide +kernel
theorem dX9_check_46 : decode cX9_check 46 = .ok (.aload_n 0, 1) := by decide +kernel
theorem dX9_check_47 : decode cX9_check 47 = .ok (.getfield 12, 3) := by decide +kernel
theorem dX9_check_50 : decode cX9_check 50 = .ok (.getfield 92, 3) := by decide +kernel
theorem dX9_check_53 : decode cX9_check 53 = .ok (.getfield 107, 3) := by decide +kernel
theorem dX9_check_56 : decode cX9_check 56 = .ok (.iload_n 2, 1) := by decide +kernel
theorem dX9_check_57 : decode cX9_check 57 = .ok (.aaload, 1) := by decide +kernel
theorem dX9_check_58 : decode cX9_check 58 = .ok (.getfield 126, 3) := by decide +kernel
theorem dX9_check_61 : decode cX9_check 61 = .ok (.if_icmp .eq 7, 3) := by decide +kernel
theorem dX9_check_64 : decode cX9_check 64 = .ok (.iconst 1, 1) := by decide +kernel
theorem dX9_check_65 : decode cX9_check 65 = .ok (.iload_n 2, 1) := by decide +kernel
theorem dX9_check_66 : decode cX9_check 66 = .ok (.iadd, 1) := by decide +kernel
theorem dX9_check_67 : decode cX9_check 67 = .ok (.ireturn, 1) := by decide +kernel
theorem dX9_check_68 : decode cX9_check 68 = .ok (.iinc 2 1, 3) := by decide +kernel
theorem dX9_check_71 : decode cX9_check 71 = .ok (.goto (-53), 3) := by decide +kernel
theorem dX9_check_74 : decode cX9_check 74 = .ok (.iconst 0, 1) := by decide +kernel
theorem dX9_check_75 : decode cX9_check 75 = .ok (.ireturn, 1) := by decide +kernel
theorem dX9_count_0 : decode cX9_count 0 = .ok (.iload_n 1, 1) := by decide +kernel
theorem dX9_count_1 : decode cX9_count 1 = .ok (.tableswitch 126 0 7 #[47, 58, 69, 80, 91, 99, 107, 115], 47) := by decide +kernel
theorem dX9_count_48 : decode cX9_count 48 = .ok (.aload_n 0, 1) := by decide +kernel
theorem dX9_count_49 : decode cX9_count 49 = .ok (.getfield 12, 3) := by decide +kernel
theorem dX9_count_52 : decode cX9_count 52 = .ok (.getfield 92, 3) := by decide +kernel
theorem dX9_count_55 : decode cX9_count 55 = .ok (.getfield 95, 3) := by decide +kernel
theorem dX9_count_58 : decode cX9_count 58 = .ok (.ireturn, 1) := by decide +kernel
theorem dX9_count_59 : decode cX9_count 59 = .ok (.aload_n 0, 1) := by decide +kernel
theorem dX9_count_60 : decode cX9_count 60 = .ok (.getfield 12, 3) := by decide +kernel
theorem dX9_count_63 : decode cX9_count 63 = .ok (.getfield 92, 3) := by decide +kernel
theorem dX9_count_66 : decode cX9_count 66 = .ok (.invokevirtual 220, 3) := by decide +kernel
theorem dX9_count_69 : decode cX9_count 69 = .ok (.ireturn, 1) := by decide +kernel
theorem dX9_count_70 : decode cX9_count 70 = .ok (.aload_n 0, 1) := by decide +kernel
theorem dX9_count_71 : decode cX9_count 71 = .ok (.getfield 12, 3) := by decide +kernel
theorem dX9_count_74 : decode cX9_count 74 = .ok (.getfield 92, 3) := by decide +kernel
theorem dX9_count_77 : decode cX9_count 77 = .ok (.getfield 213, 3) := by decide +kernel
theorem dX9_count_80 : decode cX9_count 80 = .ok (.ireturn, 1) := by decide +kernel
theorem dX9_count_81 : decode cX9_count 81 = .ok (.aload_n 0, 1) := by decide +kernel
theorem dX9_count_82 : decode cX9_count 82 = .ok (.getfield 12, 3) := by decide +kernel
theorem dX9_count_85 : decode cX9_count 85 = .ok (.getfield 92, 3) := by decide +kernel
theorem dX9_count_88 : decode cX9_count 88 = .ok (.getfield 168, 3) := by decide +kernel
theorem dX9_count_91 : decode cX9_count 91 = .ok (.ireturn, 1) := by decide +kernel
theorem dX9_count_92 : decode cX9_count 92 = .ok (.aload_n 0, 1) := by decide +kernel
theorem dX9_count_93 : decode cX9_count 93 = .ok (.getfield 12, 3) := by decide +kernel
theorem dX9_count_96 : decode cX9_count 96 = .ok (.getfield 171, 3) := by decide +kernel
theorem dX9_count_99 : decode cX9_count 99 = .ok (.ireturn, 1) := by decide +kernel
theorem dX9_count_100 : decode cX9_count 100 = .ok (.aload_n 0, 1) := by decide +kernel
theorem dX9_count_101 : decode cX9_count 101 = .ok (.getfield 12, 3) := by decide +kernel
theorem dX9_count_104 : decode cX9_count 104 = .ok (.getfield 337, 3) := by decide +kernel
theorem dX9_count_107 : decode cX9_count 107 = .ok (.ireturn, 1) := by decide +kernel
theorem dX9_count_108 : decode cX9_count 108 = .ok (.aload_n 0, 1) := by decide +kernel
theorem dX9_count_109 : decode cX9_count 109 = .ok (.getfield 62, 3) := by decide +kernel
theorem dX9_count_112 : decode cX9_count 112 = .ok (.getfield 296, 3) := by decide +kernel
theorem dX9_count_115 : decode cX9_count 115 = .ok (.ireturn, 1) := by decide +kernel
theorem dX9_count_116 : decode cX9_count 116 = .ok (.aload_n 0, 1) := by decide +kernel
theorem dX9_count_117 : decode cX9_count 117 = .ok (.getfield 12, 3) := by decide +kernel
theorem dX9_count_120 : decode cX9_count 120 = .ok (.getfield 92, 3) := by decide +kernel
theorem dX9_count_123 : decode cX9_count 123 = .ok (.getfield 226, 3) := by decide +kernel
theorem dX9_count_126 : decode cX9_count 126 = .ok (.ireturn, 1) := by decide +kernel
theorem dX9_count_127 : decode cX9_count 127 = .ok (.aload_n 0, 1) := by decide +kernel
theorem dX9_count_128 : decode cX9_count 128 = .ok (.ldc 87, 2) := by decide +kernel
theorem dX9_count_130 : decode cX9_count 130 = .ok (.invokevirtual 88, 3) := by decide +kernel
theorem dX9_count_133 : decode cX9_count 133 = .ok (.ireturn, 1) := by decide +kernel
theorem dX9_told_0 : decode cX9_told 0 = .ok (.iload_n 1, 1) := by decide +kernel
theorem dX9_told_1 : decode cX9_told 1 = .ok (.iconst 1, 1) := by decide +kernel
theorem dX9_told_2 : decode cX9_told 2 = .ok (.if_icmp .lt 9, 3) := by decide +kernel
theorem dX9_told_5 : decode cX9_told 5 = .ok (.iload_n 1, 1) := by decide +kernel
theorem dX9_told_6 : decode cX9_told 6 = .ok (.bipush 6, 2) := by decide +kernel
theorem dX9_told_8 : decode cX9_told 8 = .ok (.if_icmp .le 10, 3) := by decide +kernel
theorem dX9_told_11 : decode cX9_told 11 = .ok (.aload_n 0, 1) := by decide +kernel
theorem dX9_told_12 : decode cX9_told 12 = .ok (.ldc 87, 2) := by decide +kernel
theorem dX9_told_14 : decode cX9_told 14 = .ok (.invokevirtual 88, 3) := by decide +kernel
theorem dX9_told_17 : decode cX9_told 17 = .ok (.ireturn, 1) := by decide +kernel
theorem dX9_told_18 : decode cX9_told 18 = .ok (.aload_n 0, 1) := by decide +kernel
theorem dX9_told_19 : decode cX9_told 19 = .ok (.getfield 72, 3) := by decide +kernel
theorem dX9_told_22 : decode cX9_told 22 = .ok (.iload_n 1, 1) := by decide +kernel
theorem dX9_told_23 : decode cX9_told 23 = .ok (.iaload, 1) := by decide +kernel
theorem dX9_told_24 : decode cX9_told 24 = .ok (.ireturn, 1) := by decide +kernel
theorem dX9_refuse_0 : decode cX9_refuse 0 = .ok (.ldc_w 343, 3) := by decide +kernel
theorem dX9_refuse_3 : decode cX9_refuse 3 = .ok (.iload_n 1, 1) := by decide +kernel
theorem dX9_refuse_4 : decode cX9_refuse 4 = .ok (.isub, 1) := by decide +kernel
theorem dX9_refuse_5 : decode cX9_refuse 5 = .ok (.istore_n 2, 1) := by decide +kernel
theorem dX9_refuse_6 : decode cX9_refuse 6 = .ok (.iload_n 2, 1) := by decide +kernel
theorem dX9_refuse_7 : decode cX9_refuse 7 = .ok (.iconst 1, 1) := by decide +kernel
theorem dX9_refuse_8 : decode cX9_refuse 8 = .ok (.if_icmp .lt 19, 3) := by decide +kernel
theorem dX9_refuse_11 : decode cX9_refuse 11 = .ok (.iload_n 2, 1) := by decide +kernel
theorem dX9_refuse_12 : decode cX9_refuse 12 = .ok (.bipush 6, 2) := by decide +kernel
theorem dX9_refuse_14 : decode cX9_refuse 14 = .ok (.if_icmp .gt 13, 3) := by decide +kernel
theorem dX9_refuse_17 : decode cX9_refuse 17 = .ok (.aload_n 0, 1) := by decide +kernel
theorem dX9_refuse_18 : decode cX9_refuse 18 = .ok (.getfield 72, 3) := by decide +kernel
theorem dX9_refuse_21 : decode cX9_refuse 21 = .ok (.iload_n 2, 1) := by decide +kernel
theorem dX9_refuse_22 : decode cX9_refuse 22 = .ok (.dup2, 1) := by decide +kernel
theorem dX9_refuse_23 : decode cX9_refuse 23 = .ok (.iaload, 1) := by decide +kernel
theorem dX9_refuse_24 : decode cX9_refuse 24 = .ok (.iconst 1, 1) := by decide +kernel
theorem dX9_refuse_25 : decode cX9_refuse 25 = .ok (.iadd, 1) := by decide +kernel
theorem dX9_refuse_26 : decode cX9_refuse 26 = .ok (.iastore, 1) := by decide +kernel
theorem dX9_refuse_27 : decode cX9_refuse 27 = .ok (.iload_n 1, 1) := by decide +kernel
theorem dX9_refuse_28 : decode cX9_refuse 28 = .ok (.ireturn, 1) := by decide +kernel
theorem dX9_isFurrow_0 : decode cX9_isFurrow 0 = .ok (.iload_n 1, 1) := by decide +kernel
theorem dX9_isFurrow_1 : decode cX9_isFurrow 1 = .ok (.ifCond .lt 21, 3) := by decide +kernel
theorem dX9_isFurrow_4 : decode cX9_isFurrow 4 = .ok (.iload_n 1, 1) := by decide +kernel
theorem dX9_isFurrow_5 : decode cX9_isFurrow 5 = .ok (.aload_n 0, 1) := by decide +kernel
theorem dX9_isFurrow_6 : decode cX9_isFurrow 6 = .ok (.getfield 12, 3) := by decide +kernel
theorem dX9_isFurrow_9 : decode cX9_isFurrow 9 = .ok (.getfield 92, 3) := by decide +kernel
theorem dX9_isFurrow_12 : decode cX9_isFurrow 12 = .ok (.getfield 95, 3) := by decide +kernel
theorem dX9_isFurrow_15 : decode cX9_isFurrow 15 = .ok (.if_icmp .ge 7, 3) := by decide +kernel
theorem dX9_isFurrow_18 : decode cX9_isFurrow 18 = .ok (.iconst 1, 1) := by decide +kernel
theorem dX9_isFurrow_19 : decode cX9_isFurrow 19 = .ok (.goto 4, 3) := by decide +kernel
theorem dX9_isFurrow_22 : decode cX9_isFurrow 22 = .ok (.iconst 0, 1) := by decide +kernel
theorem dX9_isFurrow_23 : decode cX9_isFurrow 23 = .ok (.ireturn, 1) := by decide +kernel
theorem dX9_firstReplyLine_0 : decode cX9_firstReplyLine 0 = .ok (.aload_n 0, 1) := by decide +kernel
theorem dX9_firstReplyLine_1 : decode cX9_firstReplyLine 1 = .ok (.getfield 45, 3) := by decide +kernel
theorem dX9_firstReplyLine_4 : decode cX9_firstReplyLine 4 = .ok (.aload_n 1, 1) := by decide +kernel
theorem dX9_firstReplyLine_5 : decode cX9_firstReplyLine 5 = .ok (.getfield 117, 3) := by decide +kernel
theorem dX9_firstReplyLine_8 : decode cX9_firstReplyLine 8 = .ok (.iconst 1, 1) := by decide +kernel
theorem dX9_firstReplyLine_9 : decode cX9_firstReplyLine 9 = .ok (.isub, 1) := by decide +kernel
theorem dX9_firstReplyLine_10 : decode cX9_firstReplyLine 10 = .ok (.invokevirtual 344, 3) := by decide +kernel
theorem dX9_firstReplyLine_13 : decode cX9_firstReplyLine 13 = .ok (.istore_n 2, 1) := by decide +kernel
theorem dX9_firstReplyLine_14 : decode cX9_firstReplyLine 14 = .ok (.aload_n 0, 1) := by decide +kernel
theorem dX9_firstReplyLine_15 : decode cX9_firstReplyLine 15 = .ok (.getfield 49, 3) := by decide +kernel
theorem dX9_firstReplyLine_18 : decode cX9_firstReplyLine 18 = .ok (.aload_n 1, 1) := by decide +kernel
theorem dX9_firstReplyLine_19 : decode cX9_firstReplyLine 19 = .ok (.getfield 120, 3) := by decide +kernel
theorem dX9_firstReplyLine_22 : decode cX9_firstReplyLine 22 = .ok (.invokevirtual 344, 3) := by decide +kernel
theorem dX9_firstReplyLine_25 : decode cX9_firstReplyLine 25 = .ok (.istore_n 3, 1) := by decide +kernel
theorem dX9_firstReplyLine_26 : decode cX9_firstReplyLine 26 = .ok (.bipush 10, 2) := by decide +kernel
theorem dX9_firstReplyLine_28 : decode cX9_firstReplyLine 28 = .ok (.iload_n 2, 1) := by decide +kernel
theorem dX9_firstReplyLine_29 : decode cX9_firstReplyLine 29 = .ok (.iconst 1, 1) := by decide +kernel
theorem dX9_firstReplyLine_30 : decode cX9_firstReplyLine 30 = .ok (.iadd, 1) := by decide +kernel
theorem dX9_firstReplyLine_31 : decode cX9_firstReplyLine 31 = .ok (.imul, 1) := by decide +kernel
theorem dX9_firstReplyLine_32 : decode cX9_firstReplyLine 32 = .ok (.aload_n 1, 1) := by decide +kernel
theorem dX9_firstReplyLine_33 : decode cX9_firstReplyLine 33 = .ok (.getfield 120, 3) := by decide +kernel
theorem dX9_firstReplyLine_36 : decode cX9_firstReplyLine 36 = .ok (.iadd, 1) := by decide +kernel
theorem dX9_firstReplyLine_37 : decode cX9_firstReplyLine 37 = .ok (.istore 4, 2) := by decide +kernel
theorem dX9_firstReplyLine_39 : decode cX9_firstReplyLine 39 = .ok (.bipush 10, 2) := by decide +kernel
theorem dX9_firstReplyLine_41 : decode cX9_firstReplyLine 41 = .ok (.aload_n 1, 1) := by decide +kernel
theorem dX9_firstReplyLine_42 : decode cX9_firstReplyLine 42 = .ok (.getfield 117, 3) := by decide +kernel
theorem dX9_firstReplyLine_45 : decode cX9_firstReplyLine 45 = .ok (.imul, 1) := by decide +kernel
theorem dX9_firstReplyLine_46 : decode cX9_firstReplyLine 46 = .ok (.iload_n 3, 1) := by decide +kernel
theorem dX9_firstReplyLine_47 : decode cX9_firstReplyLine 47 = .ok (.iadd, 1) := by decide +kernel
theorem dX9_firstReplyLine_48 : decode cX9_firstReplyLine 48 = .ok (.istore 5, 2) := by decide +kernel
theorem dX9_firstReplyLine_50 : decode cX9_firstReplyLine 50 = .ok (.iload_n 2, 1) := by decide +kernel
theorem dX9_firstReplyLine_51 : decode cX9_firstReplyLine 51 = .ok (.ifCond .ge 14, 3) := by decide +kernel
theorem dX9_firstReplyLine_54 : decode cX9_firstReplyLine 54 = .ok (.iload_n 3, 1) := by decide +kernel
theorem dX9_firstReplyLine_55 : decode cX9_firstReplyLine 55 = .ok (.ifCond .ge 7, 3) := by decide +kernel
theorem dX9_firstReplyLine_58 : decode cX9_firstReplyLine 58 = .ok (.iconst (-1), 1) := by decide +kernel
theorem dX9_firstReplyLine_59 : decode cX9_firstReplyLine 59 = .ok (.goto 5, 3) := by decide +kernel
theorem dX9_firstReplyLine_62 : decode cX9_firstReplyLine 62 = .ok (.iload 5, 2) := by decide +kernel
theorem dX9_firstReplyLine_64 : decode cX9_firstReplyLine 64 = .ok (.ireturn, 1) := by decide +kernel
theorem dX9_firstReplyLine_65 : decode cX9_firstReplyLine 65 = .ok (.iload_n 3, 1) := by decide +kernel
theorem dX9_firstReplyLine_66 : decode cX9_firstReplyLine 66 = .ok (.ifCond .ge 8, 3) := by decide +kernel
theorem dX9_firstReplyLine_69 : decode cX9_firstReplyLine 69 = .ok (.iload 4, 2) := by decide +kernel
theorem dX9_firstReplyLine_71 : decode cX9_firstReplyLine 71 = .ok (.goto 10, 3) := by decide +kernel
theorem dX9_firstReplyLine_74 : decode cX9_firstReplyLine 74 = .ok (.iload 4, 2) := by decide +kernel
theorem dX9_firstReplyLine_76 : decode cX9_firstReplyLine 76 = .ok (.iload 5, 2) := by decide +kernel
theorem dX9_firstReplyLine_78 : decode cX9_firstReplyLine 78 = .ok (.invokestatic 325, 3) := by decide +kernel
theorem dX9_firstReplyLine_81 : decode cX9_firstReplyLine 81 = .ok (.ireturn, 1) := by decide +kernel
theorem dX9_linesThatEcho_0 : decode cX9_linesThatEcho 0 = .ok (.iconst 0, 1) := by decide +kernel
theorem dX9_linesThatEcho_1 : decode cX9_linesThatEcho 1 = .ok (.istore_n 2, 1) := by decide +kernel
theorem dX9_linesThatEcho_2 : decode cX9_linesThatEcho 2 = .ok (.iconst 0, 1) := by decide +kernel
theorem dX9_linesThatEcho_3 : decode cX9_linesThatEcho 3 = .ok (.istore_n 3, 1) := by decide +kernel
theorem dX9_linesThatEcho_4 : decode cX9_linesThatEcho 4 = .ok (.iload_n 3, 1) := by decide +kernel
theorem dX9_linesThatEcho_5 : decode cX9_linesThatEcho 5 = .ok (.bipush 72, 2) := by decide +kernel
theorem dX9_linesThatEcho_7 : decode cX9_linesThatEcho 7 = .ok (.if_icmp .ge 34, 3) := by decide +kernel
theorem dX9_linesThatEcho_10 : decode cX9_linesThatEcho 10 = .ok (.aload_n 0, 1) := by decide +kernel
theorem dX9_linesThatEcho_11 : decode cX9_linesThatEcho 11 = .ok (.getfield 29, 3) := by decide +kernel
theorem dX9_linesThatEcho_14 : decode cX9_linesThatEcho 14 = .ok (.iload_n 3, 1) := by decide +kernel
theorem dX9_linesThatEcho_15 : decode cX9_linesThatEcho 15 = .ok (.invokestatic 347, 3) := by decide +kernel
theorem dX9_linesThatEcho_18 : decode cX9_linesThatEcho 18 = .ok (.invokevirtual 165, 3) := by decide +kernel
theorem dX9_linesThatEcho_21 : decode cX9_linesThatEcho 21 = .ok (.aload_n 0, 1) := by decide +kernel
theorem dX9_linesThatEcho_22 : decode cX9_linesThatEcho 22 = .ok (.getfield 29, 3) := by decide +kernel
theorem dX9_linesThatEcho_25 : decode cX9_linesThatEcho 25 = .ok (.aload_n 1, 1) := by decide +kernel
theorem dX9_linesThatEcho_26 : decode cX9_linesThatEcho 26 = .ok (.invokevirtual 350, 3) := by decide +kernel
theorem dX9_linesThatEcho_29 : decode cX9_linesThatEcho 29 = .ok (.ifCond .eq 6, 3) := by decide +kernel
theorem dX9_linesThatEcho_32 : decode cX9_linesThatEcho 32 = .ok (.iinc 2 1, 3) := by decide +kernel
theorem dX9_linesThatEcho_35 : decode cX9_linesThatEcho 35 = .ok (.iinc 3 1, 3) := by decide +kernel
theorem dX9_linesThatEcho_38 : decode cX9_linesThatEcho 38 = .ok (.goto (-34), 3) := by decide +kernel
theorem dX9_linesThatEcho_41 : decode cX9_linesThatEcho 41 = .ok (.iload_n 2, 1) := by decide +kernel
theorem dX9_linesThatEcho_42 : decode cX9_linesThatEcho 42 = .ok (.ireturn, 1) := by decide +kernel
theorem dX9_commonDivisor_0 : decode cX9_commonDivisor 0 = .ok (.bipush 72, 2) := by decide +kernel
theorem dX9_commonDivisor_2 : decode cX9_commonDivisor 2 = .ok (.istore_n 1, 1) := by decide +kernel
theorem dX9_commonDivisor_3 : decode cX9_commonDivisor 3 = .ok (.iload_n 1, 1) := by decide +kernel
theorem dX9_commonDivisor_4 : decode cX9_commonDivisor 4 = .ok (.iconst 1, 1) := by decide +kernel
theorem dX9_commonDivisor_5 : decode cX9_commonDivisor 5 = .ok (.if_icmp .le 22, 3) := by decide +kernel
theorem dX9_commonDivisor_8 : decode cX9_commonDivisor 8 = .ok (.iload_n 0, 1) := by decide +kernel
theorem dX9_commonDivisor_9 : decode cX9_commonDivisor 9 = .ok (.iload_n 1, 1) := by decide +kernel
theorem dX9_commonDivisor_10 : decode cX9_commonDivisor 10 = .ok (.irem, 1) := by decide +kernel
theorem dX9_commonDivisor_11 : decode cX9_commonDivisor 11 = .ok (.ifCond .ne 10, 3) := by decide +kernel
theorem dX9_commonDivisor_14 : decode cX9_commonDivisor 14 = .ok (.bipush 72, 2) := by decide +kernel
theorem dX9_commonDivisor_16 : decode cX9_commonDivisor 16 = .ok (.iload_n 1, 1) := by decide +kernel
theorem dX9_commonDivisor_17 : decode cX9_commonDivisor 17 = .ok (.irem, 1) := by decide +kernel
theorem dX9_commonDivisor_18 : decode cX9_commonDivisor 18 = .ok (.ifCond .eq 9, 3) := by decide +kernel
theorem dX9_commonDivisor_21 : decode cX9_commonDivisor 21 = .ok (.iinc 1 (-1), 3) := by decide +kernel
theorem dX9_commonDivisor_24 : decode cX9_commonDivisor 24 = .ok (.goto (-21), 3) := by decide +kernel
theorem dX9_commonDivisor_27 : decode cX9_commonDivisor 27 = .ok (.iload_n 1, 1) := by decide +kernel
theorem dX9_commonDivisor_28 : decode cX9_commonDivisor 28 = .ok (.ireturn, 1) := by decide +kernel
theorem dX9_tellsLengths_0 : decode cX9_tellsLengths 0 = .ok (.iconst 0, 1) := by decide +kernel
theorem dX9_tellsLengths_1 : decode cX9_tellsLengths 1 = .ok (.istore_n 2, 1) := by decide +kernel
theorem dX9_tellsLengths_2 : decode cX9_tellsLengths 2 = .ok (.iconst 0, 1) := by decide +kernel
theorem dX9_tellsLengths_3 : decode cX9_tellsLengths 3 = .ok (.istore_n 3, 1) := by decide +kernel
theorem dX9_tellsLengths_4 : decode cX9_tellsLengths 4 = .ok (.iload_n 3, 1) := by decide +kernel
theorem dX9_tellsLengths_5 : decode cX9_tellsLengths 5 = .ok (.aload_n 1, 1) := by decide +kernel
theorem dX9_tellsLengths_6 : decode cX9_tellsLengths 6 = .ok (.getfield 95, 3) := by decide +kernel
theorem dX9_tellsLengths_9 : decode cX9_tellsLengths 9 = .ok (.if_icmp .ge 52, 3) := by decide +kernel
theorem dX9_tellsLengths_12 : decode cX9_tellsLengths 12 = .ok (.aload_n 1, 1) := by decide +kernel
theorem dX9_tellsLengths_13 : decode cX9_tellsLengths 13 = .ok (.getfield 107, 3) := by decide +kernel
theorem dX9_tellsLengths_16 : decode cX9_tellsLengths 16 = .ok (.iload_n 3, 1) := by decide +kernel
theorem dX9_tellsLengths_17 : decode cX9_tellsLengths 17 = .ok (.aaload, 1) := by decide +kernel
theorem dX9_tellsLengths_18 : decode cX9_tellsLengths 18 = .ok (.astore 4, 2) := by decide +kernel
theorem dX9_tellsLengths_20 : decode cX9_tellsLengths 20 = .ok (.aload 4, 2) := by decide +kernel
theorem dX9_tellsLengths_22 : decode cX9_tellsLengths 22 = .ok (.getfield 129, 3) := by decide +kernel
theorem dX9_tellsLengths_25 : decode cX9_tellsLengths 25 = .ok (.ifCond .ne 30, 3) := by decide +kernel
theorem dX9_tellsLengths_28 : decode cX9_tellsLengths 28 = .ok (.iload_n 2, 1) := by decide +kernel
theorem dX9_tellsLengths_29 : decode cX9_tellsLengths 29 = .ok (.aload_n 0, 1) := by decide +kernel
theorem dX9_tellsLengths_30 : decode cX9_tellsLengths 30 = .ok (.getfield 306, 3) := by decide +kernel
theorem dX9_tellsLengths_33 : decode cX9_tellsLengths 33 = .ok (.if_icmp .ge 17, 3) := by decide +kernel
theorem dX9_tellsLengths_36 : decode cX9_tellsLengths 36 = .ok (.aload_n 0, 1) := by decide +kernel
theorem dX9_tellsLengths_37 : decode cX9_tellsLengths 37 = .ok (.getfield 316, 3) := by decide +kernel
theorem dX9_tellsLengths_40 : decode cX9_tellsLengths 40 = .ok (.iload_n 2, 1) := by decide +kernel
theorem dX9_tellsLengths_41 : decode cX9_tellsLengths 41 = .ok (.iaload, 1) := by decide +kernel
theorem dX9_tellsLengths_42 : decode cX9_tellsLengths 42 = .ok (.aload 4, 2) := by decide +kernel
theorem dX9_tellsLengths_44 : decode cX9_tellsLengths 44 = .ok (.getfield 117, 3) := by decide +kernel
theorem dX9_tellsLengths_47 : decode cX9_tellsLengths 47 = .ok (.if_icmp .eq 5, 3) := by decide +kernel
theorem dX9_tellsLengths_50 : decode cX9_tellsLengths 50 = .ok (.iconst 0, 1) := by decide +kernel
theorem dX9_tellsLengths_51 : decode cX9_tellsLengths 51 = .ok (.ireturn, 1) := by decide +kernel
theorem dX9_tellsLengths_52 : decode cX9_tellsLengths 52 = .ok (.iinc 2 1, 3) := by decide +kernel
theorem dX9_tellsLengths_55 : decode cX9_tellsLengths 55 = .ok (.iinc 3 1, 3) := by decide +kernel
theorem dX9_tellsLengths_58 : decode cX9_tellsLengths 58 = .ok (.goto (-54), 3) := by decide +kernel
theorem dX9_tellsLengths_61 : decode cX9_tellsLengths 61 = .ok (.iload_n 2, 1) := by decide +kernel
theorem dX9_tellsLengths_62 : decode cX9_tellsLengths 62 = .ok (.aload_n 0, 1) := by decide +kernel
theorem dX9_tellsLengths_63 : decode cX9_tellsLengths 63 = .ok (.getfield 306, 3) := by decide +kernel
theorem dX9_tellsLengths_66 : decode cX9_tellsLengths 66 = .ok (.if_icmp .ne 7, 3) := by decide +kernel
theorem dX9_tellsLengths_69 : decode cX9_tellsLengths 69 = .ok (.iconst 1, 1) := by decide +kernel
theorem dX9_tellsLengths_70 : decode cX9_tellsLengths 70 = .ok (.goto 4, 3) := by decide +kernel
theorem dX9_tellsLengths_73 : decode cX9_tellsLengths 73 = .ok (.iconst 0, 1) := by decide +kernel
theorem dX9_tellsLengths_74 : decode cX9_tellsLengths 74 = .ok (.ireturn, 1) := by decide +kernel
theorem dX9_isKind_0 : decode cX9_isKind 0 = .ok (.iload_n 0, 1) := by decide +kernel
theorem dX9_isKind_1 : decode cX9_isKind 1 = .ok (.ifCond .lt 13, 3) := by decide +kernel
theorem dX9_isKind_4 : decode cX9_isKind 4 = .ok (.iload_n 0, 1) := by decide +kernel
theorem dX9_isKind_5 : decode cX9_isKind 5 = .ok (.bipush 7, 2) := by decide +kernel
theorem dX9_isKind_7 : decode cX9_isKind 7 = .ok (.if_icmp .ge 7, 3) := by decide +kernel
theorem dX9_isKind_10 : decode cX9_isKind 10 = .ok (.iconst 1, 1) := by decide +kernel
theorem dX9_isKind_11 : decode cX9_isKind 11 = .ok (.goto 4, 3) := by decide +kernel
theorem dX9_isKind_14 : decode cX9_isKind 14 = .ok (.iconst 0, 1) := by decide +kernel
theorem dX9_isKind_15 : decode cX9_isKind 15 = .ok (.ireturn, 1) := by decide +kernel
theorem dX9_isKindWithNumber_0 : decode cX9_isKindWithNumber 0 = .ok (.iload_n 0, 1) := by decide +kernel
theorem dX9_isKindWithNumber_1 : decode cX9_isKindWithNumber 1 = .ok (.ifCond .lt 13, 3) := by decide +kernel
theorem dX9_isKindWithNumber_4 : decode cX9_isKindWithNumber 4 = .ok (.iload_n 0, 1) := by decide +kernel
theorem dX9_isKindWithNumber_5 : decode cX9_isKindWithNumber 5 = .ok (.bipush 70, 2) := by decide +kernel
theorem dX9_isKindWithNumber_7 : decode cX9_isKindWithNumber 7 = .ok (.if_icmp .ge 7, 3) := by decide +kernel
theorem dX9_isKindWithNumber_10 : decode cX9_isKindWithNumber 10 = .ok (.iconst 1, 1) := by decide +kernel
theorem dX9_isKindWithNumber_11 : decode cX9_isKindWithNumber 11 = .ok (.goto 4, 3) := by decide +kernel
theorem dX9_isKindWithNumber_14 : decode cX9_isKindWithNumber 14 = .ok (.iconst 0, 1) := by decide +kernel
theorem dX9_isKindWithNumber_15 : decode cX9_isKindWithNumber 15 = .ok (.ireturn, 1) := by decide +kernel
theorem dX9_isLine_0 : decode cX9_isLine 0 = .ok (.iload_n 0, 1) := by decide +kernel
theorem dX9_isLine_1 : decode cX9_isLine 1 = .ok (.bipush 10, 2) := by decide +kernel
theorem dX9_isLine_3 : decode cX9_isLine 3 = .ok (.if_icmp .lt 25, 3) := by decide +kernel
theorem dX9_isLine_6 : decode cX9_isLine 6 = .ok (.iload_n 0, 1) := by decide +kernel
theorem dX9_isLine_7 : decode cX9_isLine 7 = .ok (.bipush 10, 2) := by decide +kernel
theorem dX9_isLine_9 : decode cX9_isLine 9 = .ok (.idiv, 1) := by decide +kernel
theorem dX9_isLine_10 : decode cX9_isLine 10 = .ok (.bipush 12, 2) := by decide +kernel
theorem dX9_isLine_12 : decode cX9_isLine 12 = .ok (.if_icmp .gt 16, 3) := by decide +kernel
theorem dX9_isLine_15 : decode cX9_isLine 15 = .ok (.iload_n 0, 1) := by decide +kernel
theorem dX9_isLine_16 : decode cX9_isLine 16 = .ok (.bipush 10, 2) := by decide +kernel
theorem dX9_isLine_18 : decode cX9_isLine 18 = .ok (.irem, 1) := by decide +kernel
theorem dX9_isLine_19 : decode cX9_isLine 19 = .ok (.bipush 6, 2) := by decide +kernel
theorem dX9_isLine_21 : decode cX9_isLine 21 = .ok (.if_icmp .ge 7, 3) := by decide +kernel
theorem dX9_isLine_24 : decode cX9_isLine 24 = .ok (.iconst 1, 1) := by decide +kernel
theorem dX9_isLine_25 : decode cX9_isLine 25 = .ok (.goto 4, 3) := by decide +kernel
theorem dX9_isLine_28 : decode cX9_isLine 28 = .ok (.iconst 0, 1) := by decide +kernel
theorem dX9_isLine_29 : decode cX9_isLine 29 = .ok (.ireturn, 1) := by decide +kernel
theorem dX9_lineAt_0 : decode cX9_lineAt 0 = .ok (.bipush 10, 2) := by decide +kernel
theorem dX9_lineAt_2 : decode cX9_lineAt 2 = .ok (.iconst 1, 1) := by decide +kernel
theorem dX9_lineAt_3 : decode cX9_lineAt 3 = .ok (.iload_n 0, 1) := by decide +kernel
theorem dX9_lineAt_4 : decode cX9_lineAt 4 = .ok (.bipush 6, 2) := by decide +kernel
theorem dX9_lineAt_6 : decode cX9_lineAt 6 = .ok (.idiv, 1) := by decide +kernel
theorem dX9_lineAt_7 : decode cX9_lineAt 7 = .ok (.iadd, 1) := by decide +kernel
theorem dX9_lineAt_8 : decode cX9_lineAt 8 = .ok (.imul, 1) := by decide +kernel
theorem dX9_lineAt_9 : decode cX9_lineAt 9 = .ok (.iload_n 0, 1) := by decide +kernel
theorem dX9_lineAt_10 : decode cX9_lineAt 10 = .ok (.bipush 6, 2) := by decide +kernel
theorem dX9_lineAt_12 : decode cX9_lineAt 12 = .ok (.irem, 1) := by decide +kernel
theorem dX9_lineAt_13 : decode cX9_lineAt 13 = .ok (.iadd, 1) := by decide +kernel
theorem dX9_lineAt_14 : decode cX9_lineAt 14 = .ok (.ireturn, 1) := by decide +kernel
theorem dX9_isHand_0 : decode cX9_isHand 0 = .ok (.iload_n 0, 1) := by decide +kernel
theorem dX9_isHand_1 : decode cX9_isHand 1 = .ok (.ifCond .lt 13, 3) := by decide +kernel
theorem dX9_isHand_4 : decode cX9_isHand 4 = .ok (.iload_n 0, 1) := by decide +kernel
theorem dX9_isHand_5 : decode cX9_isHand 5 = .ok (.bipush 6, 2) := by decide +kernel
theorem dX9_isHand_7 : decode cX9_isHand 7 = .ok (.if_icmp .ge 7, 3) := by decide +kernel
theorem dX9_isHand_10 : decode cX9_isHand 10 = .ok (.iconst 1, 1) := by decide +kernel
theorem dX9_isHand_11 : decode cX9_isHand 11 = .ok (.goto 4, 3) := by decide +kernel
theorem dX9_isHand_14 : decode cX9_isHand 14 = .ok (.iconst 0, 1) := by decide +kernel
theorem dX9_isHand_15 : decode cX9_isHand 15 = .ok (.ireturn, 1) := by decide +kernel
theorem dX9_isUse_0 : decode cX9_isUse 0 = .ok (.iload_n 0, 1) := by decide +kernel
theorem dX9_isUse_1 : decode cX9_isUse 1 = .ok (.ifCond .lt 12, 3) := by decide +kernel
theorem dX9_isUse_4 : decode cX9_isUse 4 = .ok (.iload_n 0, 1) := by decide +kernel
theorem dX9_isUse_5 : decode cX9_isUse 5 = .ok (.iconst 2, 1) := by decide +kernel
theorem dX9_isUse_6 : decode cX9_isUse 6 = .ok (.if_icmp .ge 7, 3) := by decide +kernel
theorem dX9_isUse_9 : decode cX9_isUse 9 = .ok (.iconst 1, 1) := by decide +kernel
theorem dX9_isUse_10 : decode cX9_isUse 10 = .ok (.goto 4, 3) := by decide +kernel
theorem dX9_isUse_13 : decode cX9_isUse 13 = .ok (.iconst 0, 1) := by decide +kernel
theorem dX9_isUse_14 : decode cX9_isUse 14 = .ok (.ireturn, 1) := by decide +kernel
theorem dX9_isSheet_0 : decode cX9_isSheet 0 = .ok (.iload_n 0, 1) := by decide +kernel
theorem dX9_isSheet_1 : decode cX9_isSheet 1 = .ok (.ifCond .lt 12, 3) := by decide +kernel
theorem dX9_isSheet_4 : decode cX9_isSheet 4 = .ok (.iload_n 0, 1) := by decide +kernel
theorem dX9_isSheet_5 : decode cX9_isSheet 5 = .ok (.iconst 4, 1) := by decide +kernel
theorem dX9_isSheet_6 : decode cX9_isSheet 6 = .ok (.if_icmp .ge 7, 3) := by decide +kernel
theorem dX9_isSheet_9 : decode cX9_isSheet 9 = .ok (.iconst 1, 1) := by decide +kernel
theorem dX9_isSheet_10 : decode cX9_isSheet 10 = .ok (.goto 4, 3) := by decide +kernel
theorem dX9_isSheet_13 : decode cX9_isSheet 13 = .ok (.iconst 0, 1) := by decide +kernel
theorem dX9_isSheet_14 : decode cX9_isSheet 14 = .ok (.ireturn, 1) := by decide +kernel
theorem dX9_asNumber_0 : decode cX9_asNumber 0 = .ok (.iload_n 0, 1) := by decide +kernel
theorem dX9_asNumber_1 : decode cX9_asNumber 1 = .ok (.ifCond .eq 7, 3) := by decide +kernel
theorem dX9_asNumber_4 : decode cX9_asNumber 4 = .ok (.iconst 1, 1) := by decide +kernel
theorem dX9_asNumber_5 : decode cX9_asNumber 5 = .ok (.goto 4, 3) := by decide +kernel
theorem dX9_asNumber_8 : decode cX9_asNumber 8 = .ok (.iconst 0, 1) := by decide +kernel
theorem dX9_asNumber_9 : decode cX9_asNumber 9 = .ok (.ireturn, 1) := by decide +kernel
theorem dX9_hold_0 : decode cX9_hold 0 = .ok (.iload_n 1, 1) := by decide +kernel
theorem dX9_hold_1 : decode cX9_hold 1 = .ok (.iload_n 2, 1) := by decide +kernel
theorem dX9_hold_2 : decode cX9_hold 2 = .ok (.iload_n 0, 1) := by decide +kernel
theorem dX9_hold_3 : decode cX9_hold 3 = .ok (.invokestatic 325, 3) := by decide +kernel
theorem dX9_hold_6 : decode cX9_hold 6 = .ok (.invokestatic 353, 3) := by decide +kernel
theorem dX9_hold_9 : decode cX9_hold 9 = .ok (.ireturn, 1) := by decide +kernel
theorem dJ6_bitCount_0f7a4_0 : decode cJ6_bitCount_0f7a4 0 = .ok (.iload_n 0, 1) := by decide +kernel
theorem dJ6_bitCount_0f7a4_1 : decode cJ6_bitCount_0f7a4 1 = .ok (.iload_n 0, 1) := by decide +kernel
theorem dJ6_bitCount_0f7a4_2 : decode cJ6_bitCount_0f7a4 2 = .ok (.iconst 1, 1) := by decide +kernel
theorem dJ6_bitCount_0f7a4_3 : decode cJ6_bitCount_0f7a4 3 = .ok (.iushr, 1) := by decide +kernel
theorem dJ6_bitCount_0f7a4_4 : decode cJ6_bitCount_0f7a4 4 = .ok (.ldc_w 265, 3) := by decide +kernel
theorem dJ6_bitCount_0f7a4_7 : decode cJ6_bitCount_0f7a4 7 = .ok (.iand, 1) := by decide +kernel
theorem dJ6_bitCount_0f7a4_8 : decode cJ6_bitCount_0f7a4 8 = .ok (.isub, 1) := by decide +kernel
theorem dJ6_bitCount_0f7a4_9 : decode cJ6_bitCount_0f7a4 9 = .ok (.istore_n 0, 1) := by decide +kernel
theorem dJ6_bitCount_0f7a4_10 : decode cJ6_bitCount_0f7a4 10 = .ok (.iload_n 0, 1) := by decide +kernel
theorem dJ6_bitCount_0f7a4_11 : decode cJ6_bitCount_0f7a4 11 = .ok (.ldc_w 266, 3) := by decide +kernel
theorem dJ6_bitCount_0f7a4_14 : decode cJ6_bitCount_0f7a4 14 = .ok (.iand, 1) := by decide +kernel
theorem dJ6_bitCount_0f7a4_15 : decode cJ6_bitCount_0f7a4 15 = .ok (.iload_n 0, 1) := by decide +kernel
theorem dJ6_bitCount_0f7a4_16 : decode cJ6_bitCount_0f7a4 16 = .ok (.iconst 2, 1) := by decide +kernel
theorem dJ6_bitCount_0f7a4_17 : decode cJ6_bitCount_0f7a4 17 = .ok (.iushr, 1) := by decide +kernel
theorem dJ6_bitCount_0f7a4_18 : decode cJ6_bitCount_0f7a4 18 = .ok (.ldc_w 266, 3) := by decide +kernel
theorem dJ6_bitCount_0f7a4_21 : decode cJ6_bitCount_0f7a4 21 = .ok (.iand, 1) := by decide +kernel
theorem dJ6_bitCount_0f7a4_22 : decode cJ6_bitCount_0f7a4 22 = .ok (.iadd, 1) := by decide +kernel
theorem dJ6_bitCount_0f7a4_23 : decode cJ6_bitCount_0f7a4 23 = .ok (.istore_n 0, 1) := by decide +kernel
theorem dJ6_bitCount_0f7a4_24 : decode cJ6_bitCount_0f7a4 24 = .ok (.iload_n 0, 1) := by decide +kernel
theorem dJ6_bitCount_0f7a4_25 : decode cJ6_bitCount_0f7a4 25 = .ok (.iload_n 0, 1) := by decide +kernel
theorem dJ6_bitCount_0f7a4_26 : decode cJ6_bitCount_0f7a4 26 = .ok (.iconst 4, 1) := by decide +kernel
theorem dJ6_bitCount_0f7a4_27 : decode cJ6_bitCount_0f7a4 27 = .ok (.iushr, 1) := by decide +kernel
theorem dJ6_bitCount_0f7a4_28 : decode cJ6_bitCount_0f7a4 28 = .ok (.iadd, 1) := by decide +kernel
theorem dJ6_bitCount_0f7a4_29 : decode cJ6_bitCount_0f7a4 29 = .ok (.ldc_w 267, 3) := by decide +kernel
theorem dJ6_bitCount_0f7a4_32 : decode cJ6_bitCount_0f7a4 32 = .ok (.iand, 1) := by decide +kernel
theorem dJ6_bitCount_0f7a4_33 : decode cJ6_bitCount_0f7a4 33 = .ok (.istore_n 0, 1) := by decide +kernel
theorem dJ6_bitCount_0f7a4_34 : decode cJ6_bitCount_0f7a4 34 = .ok (.iload_n 0, 1) := by decide +kernel
theorem dJ6_bitCount_0f7a4_35 : decode cJ6_bitCount_0f7a4 35 = .ok (.iload_n 0, 1) := by decide +kernel
theorem dJ6_bitCount_0f7a4_36 : decode cJ6_bitCount_0f7a4 36 = .ok (.bipush 8, 2) := by decide +kernel
theorem dJ6_bitCount_0f7a4_38 : decode cJ6_bitCount_0f7a4 38 = .ok (.iushr, 1) := by decide +kernel
theorem dJ6_bitCount_0f7a4_39 : decode cJ6_bitCount_0f7a4 39 = .ok (.iadd, 1) := by decide +kernel
theorem dJ6_bitCount_0f7a4_40 : decode cJ6_bitCount_0f7a4 40 = .ok (.istore_n 0, 1) := by decide +kernel
theorem dJ6_bitCount_0f7a4_41 : decode cJ6_bitCount_0f7a4 41 = .ok (.iload_n 0, 1) := by decide +kernel
theorem dJ6_bitCount_0f7a4_42 : decode cJ6_bitCount_0f7a4 42 = .ok (.iload_n 0, 1) := by decide +kernel
theorem dJ6_bitCount_0f7a4_43 : decode cJ6_bitCount_0f7a4 43 = .ok (.bipush 16, 2) := by decide +kernel
theorem dJ6_bitCount_0f7a4_45 : decode cJ6_bitCount_0f7a4 45 = .ok (.iushr, 1) := by decide +kernel
theorem dJ6_bitCount_0f7a4_46 : decode cJ6_bitCount_0f7a4 46 = .ok (.iadd, 1) := by decide +kernel
theorem dJ6_bitCount_0f7a4_47 : decode cJ6_bitCount_0f7a4 47 = .ok (.istore_n 0, 1) := by decide +kernel
theorem dJ6_bitCount_0f7a4_48 : decode cJ6_bitCount_0f7a4 48 = .ok (.iload_n 0, 1) := by decide +kernel
theorem dJ6_bitCount_0f7a4_49 : decode cJ6_bitCount_0f7a4 49 = .ok (.bipush 63, 2) := by decide +kernel
theorem dJ6_bitCount_0f7a4_51 : decode cJ6_bitCount_0f7a4 51 = .ok (.iand, 1) := by decide +kernel
theorem dJ6_bitCount_0f7a4_52 : decode cJ6_bitCount_0f7a4 52 = .ok (.ireturn, 1) := by decide +kernel
end
section
-- decode rows: out of the printed text of this claim (NAMES), by wip/whole/mk02.py
theorem dX10_init_0 : decode cX10_init 0 = .ok (.aload_n 0, 1) := by decide +kernel
theorem dX10_init_1 : decode cX10_init 1 = .ok (.invokespecial 3, 3) := by decide +kernel
theorem dX10_init_4 : decode cX10_init 4 = .ok (.aload_n 0, 1) := by decide +kernel
theorem dX10_init_5 : decode cX10_init 5 = .ok (.sipush 416, 3) := by decide +kernel
theorem dX10_init_8 : decode cX10_init 8 = .ok (.newarray .int, 2) := by decide +kernel
theorem dX10_init_10 : decode cX10_init 10 = .ok (.putfield 9, 3) := by decide +kernel
theorem dX10_init_13 : decode cX10_init 13 = .ok (.aload_n 0, 1) := by decide +kernel
theorem dX10_init_14 : decode cX10_init 14 = .ok (.sipush 416, 3) := by decide +kernel
theorem dX10_init_17 : decode cX10_init 17 = .ok (.newarray .int, 2) := by decide +kernel
theorem dX10_init_19 : decode cX10_init 19 = .ok (.putfield 13, 3) := by decide +kernel
theorem dX10_init_22 : decode cX10_init 22 = .ok (.aload_n 0, 1) := by decide +kernel
theorem dX10_init_23 : decode cX10_init 23 = .ok (.sipush 416, 3) := by decide +kernel
theorem dX10_init_26 : decode cX10_init 26 = .ok (.newarray .int, 2) := by decide +kernel
theorem dX10_init_28 : decode cX10_init 28 = .ok (.putfield 16, 3) := by decide +kernel
theorem dX10_init_31 : decode cX10_init 31 = .ok (.aload_n 0, 1) := by decide +kernel
theorem dX10_init_32 : decode cX10_init 32 = .ok (.bipush 7, 2) := by decide +kernel
theorem dX10_init_34 : decode cX10_init 34 = .ok (.newarray .int, 2) := by decide +kernel
theorem dX10_init_36 : decode cX10_init 36 = .ok (.putfield 19, 3) := by decide +kernel
theorem dX10_init_39 : decode cX10_init 39 = .ok (.aload_n 0, 1) := by decide +kernel
theorem dX10_init_40 : decode cX10_init 40 = .ok (.iconst 4, 1) := by decide +kernel
theorem dX10_init_41 : decode cX10_init 41 = .ok (.newarray .int, 2) := by decide +kernel
theorem dX10_init_43 : decode cX10_init 43 = .ok (.putfield 22, 3) := by decide +kernel
theorem dX10_init_46 : decode cX10_init 46 = .ok (.aload_n 0, 1) := by decide +kernel
theorem dX10_init_47 : decode cX10_init 47 = .ok (.iconst 4, 1) := by decide +kernel
theorem dX10_init_48 : decode cX10_init 48 = .ok (.newarray .int, 2) := by decide +kernel
theorem dX10_init_50 : decode cX10_init 50 = .ok (.putfield 25, 3) := by decide +kernel
theorem dX10_init_53 : decode cX10_init 53 = .ok (.aload_n 0, 1) := by decide +kernel
theorem dX10_init_54 : decode cX10_init 54 = .ok (.bipush 96, 2) := by decide +kernel
theorem dX10_init_56 : decode cX10_init 56 = .ok (.newarray .int, 2) := by decide +kernel
theorem dX10_init_58 : decode cX10_init 58 = .ok (.putfield 28, 3) := by decide +kernel
theorem dX10_init_61 : decode cX10_init 61 = .ok (.aload_n 0, 1) := by decide +kernel
theorem dX10_init_62 : decode cX10_init 62 = .ok (.bipush 60, 2) := by decide +kernel
theorem dX10_init_64 : decode cX10_init 64 = .ok (.newarray .int, 2) := by decide +kernel
theorem dX10_init_66 : decode cX10_init 66 = .ok (.putfield 31, 3) := by decide +kernel
theorem dX10_init_69 : decode cX10_init 69 = .ok (.aload_n 0, 1) := by decide +kernel
theorem dX10_init_70 : decode cX10_init 70 = .ok (.bipush 60, 2) := by decide +kernel
theorem dX10_init_72 : decode cX10_init 72 = .ok (.newarray .int, 2) := by decide +kernel
theorem dX10_init_74 : decode cX10_init 74 = .ok (.putfield 34, 3) := by decide +kernel
theorem dX10_init_77 : decode cX10_init 77 = .ok (.aload_n 0, 1) := by decide +kernel
theorem dX10_init_78 : decode cX10_init 78 = .ok (.iconst 3, 1) := by decide +kernel
theorem dX10_init_79 : decode cX10_init 79 = .ok (.newarray .int, 2) := by decide +kernel
theorem dX10_init_81 : decode cX10_init 81 = .ok (.putfield 37, 3) := by decide +kernel
theorem dX10_init_84 : decode cX10_init 84 = .ok (.aload_n 0, 1) := by decide +kernel
theorem dX10_init_85 : decode cX10_init 85 = .ok (.bipush 60, 2) := by decide +kernel
theorem dX10_init_87 : decode cX10_init 87 = .ok (.newarray .int, 2) := by decide +kernel
theorem dX10_init_89 : decode cX10_init 89 = .ok (.putfield 40, 3) := by decide +kernel
theorem dX10_init_92 : decode cX10_init 92 = .ok (.aload_n 0, 1) := by decide +kernel
theorem dX10_init_93 : decode cX10_init 93 = .ok (.bipush 72, 2) := by decide +kernel
theorem dX10_init_95 : decode cX10_init 95 = .ok (.newarray .int, 2) := by decide +kernel
theorem dX10_init_97 : decode cX10_init 97 = .ok (.putfield 43, 3) := by decide +kernel
theorem dX10_init_100 : decode cX10_init 100 = .ok (.aload_n 0, 1) := by decide +kernel
theorem dX10_init_101 : decode cX10_init 101 = .ok (.bipush 30, 2) := by decide +kernel
theorem dX10_init_103 : decode cX10_init 103 = .ok (.newarray .int, 2) := by decide +kernel
theorem dX10_init_105 : decode cX10_init 105 = .ok (.putfield 46, 3) := by decide +kernel
theorem dX10_init_108 : decode cX10_init 108 = .ok (.aload_n 0, 1) := by decide +kernel
theorem dX10_init_109 : decode cX10_init 109 = .ok (.getfield 9, 3) := by decide +kernel
theorem dX10_init_112 : decode cX10_init 112 = .ok (.iconst 1, 1) := by decide +kernel
theorem dX10_init_113 : decode cX10_init 113 = .ok (.iconst 1, 1) := by decide +kernel
theorem dX10_init_114 : decode cX10_init 114 = .ok (.iastore, 1) := by decide +kernel
theorem dX10_init_115 : decode cX10_init 115 = .ok (.aload_n 0, 1) := by decide +kernel
theorem dX10_init_116 : decode cX10_init 116 = .ok (.getfield 9, 3) := by decide +kernel
theorem dX10_init_119 : decode cX10_init 119 = .ok (.iconst 3, 1) := by decide +kernel
theorem dX10_init_120 : decode cX10_init 120 = .ok (.iconst 5, 1) := by decide +kernel
theorem dX10_init_121 : decode cX10_init 121 = .ok (.iastore, 1) := by decide +kernel
theorem dX10_init_122 : decode cX10_init 122 = .ok (.return_, 1) := by decide +kernel
theorem dX10_error_0 : decode cX10_error 0 = .ok (.aload_n 0, 1) := by decide +kernel
theorem dX10_error_1 : decode cX10_error 1 = .ok (.getfield 19, 3) := by decide +kernel
theorem dX10_error_4 : decode cX10_error 4 = .ok (.ldc 49, 2) := by decide +kernel
theorem dX10_error_6 : decode cX10_error 6 = .ok (.iload_n 1, 1) := by decide +kernel
theorem dX10_error_7 : decode cX10_error 7 = .ok (.isub, 1) := by decide +kernel
theorem dX10_error_8 : decode cX10_error 8 = .ok (.dup2, 1) := by decide +kernel
theorem dX10_error_9 : decode cX10_error 9 = .ok (.iaload, 1) := by decide +kernel
theorem dX10_error_10 : decode cX10_error 10 = .ok (.iconst 1, 1) := by decide +kernel
theorem dX10_error_11 : decode cX10_error 11 = .ok (.iadd, 1) := by decide +kernel
theorem dX10_error_12 : decode cX10_error 12 = .ok (.iastore, 1) := by decide +kernel
theorem dX10_error_13 : decode cX10_error 13 = .ok (.iload_n 1, 1) := by decide +kernel
theorem dX10_error_14 : decode cX10_error 14 = .ok (.ireturn, 1) := by decide +kernel
theorem dX10_in_0 : decode cX10_in 0 = .ok (.iload_n 0, 1) := by decide +kernel
theorem dX10_in_1 : decode cX10_in 1 = .ok (.iload_n 1, 1) := by decide +kernel
theorem dX10_in_2 : decode cX10_in 2 = .ok (.if_icmp .lt 12, 3) := by decide +kernel
theorem dX10_in_5 : decode cX10_in 5 = .ok (.iload_n 0, 1) := by decide +kernel
theorem dX10_in_6 : decode cX10_in 6 = .ok (.iload_n 2, 1) := by decide +kernel
theorem dX10_in_7 : decode cX10_in 7 = .ok (.if_icmp .gt 7, 3) := by decide +kernel
theorem dX10_in_10 : decode cX10_in 10 = .ok (.iconst 1, 1) := by decide +kernel
theorem dX10_in_11 : decode cX10_in 11 = .ok (.goto 4, 3) := by decide +kernel
theorem dX10_in_14 : decode cX10_in 14 = .ok (.iconst 0, 1) := by decide +kernel
theorem dX10_in_15 : decode cX10_in 15 = .ok (.ireturn, 1) := by decide +kernel
theorem dX10_held_0 : decode cX10_held 0 = .ok (.iload_n 0, 1) := by decide +kernel
theorem dX10_held_1 : decode cX10_held 1 = .ok (.iload_n 1, 1) := by decide +kernel
theorem dX10_held_2 : decode cX10_held 2 = .ok (.if_icmp .ge 7, 3) := by decide +kernel
theorem dX10_held_5 : decode cX10_held 5 = .ok (.iload_n 1, 1) := by decide +kernel
theorem dX10_held_6 : decode cX10_held 6 = .ok (.goto 13, 3) := by decide +kernel
theorem dX10_held_9 : decode cX10_held 9 = .ok (.iload_n 0, 1) := by decide +kernel
theorem dX10_held_10 : decode cX10_held 10 = .ok (.iload_n 2, 1) := by decide +kernel
theorem dX10_held_11 : decode cX10_held 11 = .ok (.if_icmp .le 7, 3) := by decide +kernel
theorem dX10_held_14 : decode cX10_held 14 = .ok (.iload_n 2, 1) := by decide +kernel
theorem dX10_held_15 : decode cX10_held 15 = .ok (.goto 4, 3) := by decide +kernel
theorem dX10_held_18 : decode cX10_held 18 = .ok (.iload_n 0, 1) := by decide +kernel
theorem dX10_held_19 : decode cX10_held 19 = .ok (.ireturn, 1) := by decide +kernel
theorem dX10_copyAll_0 : decode cX10_copyAll 0 = .ok (.iconst 0, 1) := by decide +kernel
theorem dX10_copyAll_1 : decode cX10_copyAll 1 = .ok (.istore_n 2, 1) := by decide +kernel
theorem dX10_copyAll_2 : decode cX10_copyAll 2 = .ok (.iload_n 2, 1) := by decide +kernel
theorem dX10_copyAll_3 : decode cX10_copyAll 3 = .ok (.sipush 416, 3) := by decide +kernel
theorem dX10_copyAll_6 : decode cX10_copyAll 6 = .ok (.if_icmp .ge 15, 3) := by decide +kernel
theorem dX10_copyAll_9 : decode cX10_copyAll 9 = .ok (.aload_n 1, 1) := by decide +kernel
theorem dX10_copyAll_10 : decode cX10_copyAll 10 = .ok (.iload_n 2, 1) := by decide +kernel
theorem dX10_copyAll_11 : decode cX10_copyAll 11 = .ok (.aload_n 0, 1) := by decide +kernel
theorem dX10_copyAll_12 : decode cX10_copyAll 12 = .ok (.iload_n 2, 1) := by decide +kernel
theorem dX10_copyAll_13 : decode cX10_copyAll 13 = .ok (.iaload, 1) := by decide +kernel
theorem dX10_copyAll_14 : decode cX10_copyAll 14 = .ok (.iastore, 1) := by decide +kernel
theorem dX10_copyAll_15 : decode cX10_copyAll 15 = .ok (.iinc 2 1, 3) := by decide +kernel
theorem dX10_copyAll_18 : decode cX10_copyAll 18 = .ok (.goto (-16), 3) := by decide +kernel
theorem dX10_copyAll_21 : decode cX10_copyAll 21 = .ok (.return_, 1) := by decide +kernel
theorem dX10_thinks_0 : decode cX10_thinks 0 = .ok (.aload_n 0, 1) := by decide +kernel
theorem dX10_thinks_1 : decode cX10_thinks 1 = .ok (.getfield 9, 3) := by decide +kernel
theorem dX10_thinks_4 : decode cX10_thinks 4 = .ok (.aload_n 0, 1) := by decide +kernel
theorem dX10_thinks_5 : decode cX10_thinks 5 = .ok (.getfield 16, 3) := by decide +kernel
theorem dX10_thinks_8 : decode cX10_thinks 8 = .ok (.invokestatic 50, 3) := by decide +kernel
theorem dX10_thinks_11 : decode cX10_thinks 11 = .ok (.return_, 1) := by decide +kernel
theorem dX10_putsBack_0 : decode cX10_putsBack 0 = .ok (.aload_n 0, 1) := by decide +kernel
theorem dX10_putsBack_1 : decode cX10_putsBack 1 = .ok (.getfield 16, 3) := by decide +kernel
theorem dX10_putsBack_4 : decode cX10_putsBack 4 = .ok (.aload_n 0, 1) := by decide +kernel
theorem dX10_putsBack_5 : decode cX10_putsBack 5 = .ok (.getfield 9, 3) := by decide +kernel
theorem dX10_putsBack_8 : decode cX10_putsBack 8 = .ok (.invokestatic 50, 3) := by decide +kernel
theorem dX10_putsBack_11 : decode cX10_putsBack 11 = .ok (.return_, 1) := by decide +kernel
theorem dX10_bits_0 : decode cX10_bits 0 = .ok (.iconst 0, 1) := by decide +kernel
theorem dX10_bits_1 : decode cX10_bits 1 = .ok (.istore_n 1, 1) := by decide +kernel
theorem dX10_bits_2 : decode cX10_bits 2 = .ok (.iload_n 0, 1) := by decide +kernel
theorem dX10_bits_3 : decode cX10_bits 3 = .ok (.istore_n 2, 1) := by decide +kernel
theorem dX10_bits_4 : decode cX10_bits 4 = .ok (.iload_n 2, 1) := by decide +kernel
theorem dX10_bits_5 : decode cX10_bits 5 = .ok (.ifCond .eq 15, 3) := by decide +kernel
theorem dX10_bits_8 : decode cX10_bits 8 = .ok (.iinc 1 1, 3) := by decide +kernel
theorem dX10_bits_11 : decode cX10_bits 11 = .ok (.iload_n 2, 1) := by decide +kernel
theorem dX10_bits_12 : decode cX10_bits 12 = .ok (.iload_n 2, 1) := by decide +kernel
theorem dX10_bits_13 : decode cX10_bits 13 = .ok (.iconst 1, 1) := by decide +kernel
theorem dX10_bits_14 : decode cX10_bits 14 = .ok (.isub, 1) := by decide +kernel
theorem dX10_bits_15 : decode cX10_bits 15 = .ok (.iand, 1) := by decide +kernel
theorem dX10_bits_16 : decode cX10_bits 16 = .ok (.istore_n 2, 1) := by decide +kernel
theorem dX10_bits_17 : decode cX10_bits 17 = .ok (.goto (-13), 3) := by decide +kernel
theorem dX10_bits_20 : decode cX10_bits 20 = .ok (.iload_n 1, 1) := by decide +kernel
theorem dX10_bits_21 : decode cX10_bits 21 = .ok (.ireturn, 1) := by decide +kernel
theorem dX10_isFurrow_0 : decode cX10_isFurrow 0 = .ok (.iload_n 1, 1) := by decide +kernel
theorem dX10_isFurrow_1 : decode cX10_isFurrow 1 = .ok (.iconst 0, 1) := by decide +kernel
theorem dX10_isFurrow_2 : decode cX10_isFurrow 2 = .ok (.aload_n 0, 1) := by decide +kernel
theorem dX10_isFurrow_3 : decode cX10_isFurrow 3 = .ok (.getfield 9, 3) := by decide +kernel
theorem dX10_isFurrow_6 : decode cX10_isFurrow 6 = .ok (.iconst 2, 1) := by decide +kernel
theorem dX10_isFurrow_7 : decode cX10_isFurrow 7 = .ok (.iaload, 1) := by decide +kernel
theorem dX10_isFurrow_8 : decode cX10_isFurrow 8 = .ok (.iconst 1, 1) := by decide +kernel
theorem dX10_isFurrow_9 : decode cX10_isFurrow 9 = .ok (.isub, 1) := by decide +kernel
theorem dX10_isFurrow_10 : decode cX10_isFurrow 10 = .ok (.invokestatic 54, 3) := by decide +kernel
theorem dX10_isFurrow_13 : decode cX10_isFurrow 13 = .ok (.ireturn, 1) := by decide +kernel
theorem dX10_becomes_0 : decode cX10_becomes 0 = .ok (.aload_n 0, 1) := by decide +kernel
theorem dX10_becomes_1 : decode cX10_becomes 1 = .ok (.getfield 9, 3) := by decide +kernel
theorem dX10_becomes_4 : decode cX10_becomes 4 = .ok (.iload_n 1, 1) := by decide +kernel
theorem dX10_becomes_5 : decode cX10_becomes 5 = .ok (.iaload, 1) := by decide +kernel
theorem dX10_becomes_6 : decode cX10_becomes 6 = .ok (.istore_n 3, 1) := by decide +kernel
theorem dX10_becomes_7 : decode cX10_becomes 7 = .ok (.aload_n 0, 1) := by decide +kernel
theorem dX10_becomes_8 : decode cX10_becomes 8 = .ok (.getfield 9, 3) := by decide +kernel
theorem dX10_becomes_11 : decode cX10_becomes 11 = .ok (.iload_n 1, 1) := by decide +kernel
theorem dX10_becomes_12 : decode cX10_becomes 12 = .ok (.iload_n 2, 1) := by decide +kernel
theorem dX10_becomes_13 : decode cX10_becomes 13 = .ok (.iastore, 1) := by decide +kernel
theorem dX10_becomes_14 : decode cX10_becomes 14 = .ok (.iload_n 3, 1) := by decide +kernel
theorem dX10_becomes_15 : decode cX10_becomes 15 = .ok (.ireturn, 1) := by decide +kernel
theorem dX10_of_0 : decode cX10_of 0 = .ok (.aload_n 0, 1) := by decide +kernel
theorem dX10_of_1 : decode cX10_of 1 = .ok (.getfield 9, 3) := by decide +kernel
theorem dX10_of_4 : decode cX10_of 4 = .ok (.bipush 6, 2) := by decide +kernel
theorem dX10_of_6 : decode cX10_of 6 = .ok (.bipush 7, 2) := by decide +kernel
theorem dX10_of_8 : decode cX10_of 8 = .ok (.iload_n 1, 1) := by decide +kernel
theorem dX10_of_9 : decode cX10_of 9 = .ok (.imul, 1) := by decide +kernel
theorem dX10_of_10 : decode cX10_of 10 = .ok (.iadd, 1) := by decide +kernel
theorem dX10_of_11 : decode cX10_of 11 = .ok (.iload_n 2, 1) := by decide +kernel
theorem dX10_of_12 : decode cX10_of 12 = .ok (.iadd, 1) := by decide +kernel
theorem dX10_of_13 : decode cX10_of 13 = .ok (.iaload, 1) := by decide +kernel
theorem dX10_of_14 : decode cX10_of 14 = .ok (.ireturn, 1) := by decide +kernel
theorem dX10_lets_0 : decode cX10_lets 0 = .ok (.aload_n 0, 1) := by decide +kernel
theorem dX10_lets_1 : decode cX10_lets 1 = .ok (.getfield 9, 3) := by decide +kernel
theorem dX10_lets_4 : decode cX10_lets 4 = .ok (.bipush 6, 2) := by decide +kernel
theorem dX10_lets_6 : decode cX10_lets 6 = .ok (.bipush 7, 2) := by decide +kernel
theorem dX10_lets_8 : decode cX10_lets 8 = .ok (.iload_n 1, 1) := by decide +kernel
theorem dX10_lets_9 : decode cX10_lets 9 = .ok (.imul, 1) := by decide +kernel
theorem dX10_lets_10 : decode cX10_lets 10 = .ok (.iadd, 1) := by decide +kernel
theorem dX10_lets_11 : decode cX10_lets 11 = .ok (.iload_n 2, 1) := by decide +kernel
theorem dX10_lets_12 : decode cX10_lets 12 = .ok (.iadd, 1) := by decide +kernel
theorem dX10_lets_13 : decode cX10_lets 13 = .ok (.iload_n 3, 1) := by decide +kernel
theorem dX10_lets_14 : decode cX10_lets 14 = .ok (.iastore, 1) := by decide +kernel
theorem dX10_lets_15 : decode cX10_lets 15 = .ok (.return_, 1) := by decide +kernel
theorem dX10_doesAnswer_0 : decode cX10_doesAnswer 0 = .ok (.aload_n 0, 1) := by decide +kernel
theorem dX10_doesAnswer_1 : decode cX10_doesAnswer 1 = .ok (.iload_n 1, 1) := by decide +kernel
theorem dX10_doesAnswer_2 : decode cX10_doesAnswer 2 = .ok (.iconst 2, 1) := by decide +kernel
theorem dX10_doesAnswer_3 : decode cX10_doesAnswer 3 = .ok (.invokevirtual 58, 3) := by decide +kernel
theorem dX10_doesAnswer_6 : decode cX10_doesAnswer 6 = .ok (.aload_n 0, 1) := by decide +kernel
theorem dX10_doesAnswer_7 : decode cX10_doesAnswer 7 = .ok (.iload_n 2, 1) := by decide +kernel
theorem dX10_doesAnswer_8 : decode cX10_doesAnswer 8 = .ok (.iconst 2, 1) := by decide +kernel
theorem dX10_doesAnswer_9 : decode cX10_doesAnswer 9 = .ok (.invokevirtual 58, 3) := by decide +kernel
theorem dX10_doesAnswer_12 : decode cX10_doesAnswer 12 = .ok (.if_icmp .ne 7, 3) := by decide +kernel
theorem dX10_doesAnswer_15 : decode cX10_doesAnswer 15 = .ok (.iconst 1, 1) := by decide +kernel
theorem dX10_doesAnswer_16 : decode cX10_doesAnswer 16 = .ok (.goto 4, 3) := by decide +kernel
theorem dX10_doesAnswer_19 : decode cX10_doesAnswer 19 = .ok (.iconst 0, 1) := by decide +kernel
theorem dX10_doesAnswer_20 : decode cX10_doesAnswer 20 = .ok (.istore_n 3, 1) := by decide +kernel
theorem dX10_doesAnswer_21 : decode cX10_doesAnswer 21 = .ok (.aload_n 0, 1) := by decide +kernel
theorem dX10_doesAnswer_22 : decode cX10_doesAnswer 22 = .ok (.iload_n 1, 1) := by decide +kernel
theorem dX10_doesAnswer_23 : decode cX10_doesAnswer 23 = .ok (.iconst 3, 1) := by decide +kernel
theorem dX10_doesAnswer_24 : decode cX10_doesAnswer 24 = .ok (.invokevirtual 58, 3) := by decide +kernel
theorem dX10_doesAnswer_27 : decode cX10_doesAnswer 27 = .ok (.aload_n 0, 1) := by decide +kernel
theorem dX10_doesAnswer_28 : decode cX10_doesAnswer 28 = .ok (.iload_n 2, 1) := by decide +kernel
theorem dX10_doesAnswer_29 : decode cX10_doesAnswer 29 = .ok (.iconst 3, 1) := by decide +kernel
theorem dX10_doesAnswer_30 : decode cX10_doesAnswer 30 = .ok (.invokevirtual 58, 3) := by decide +kernel
theorem dX10_doesAnswer_33 : decode cX10_doesAnswer 33 = .ok (.if_icmp .ne 7, 3) := by decide +kernel
theorem dX10_doesAnswer_36 : decode cX10_doesAnswer 36 = .ok (.iconst 1, 1) := by decide +kernel
theorem dX10_doesAnswer_37 : decode cX10_doesAnswer 37 = .ok (.goto 4, 3) := by decide +kernel
theorem dX10_doesAnswer_40 : decode cX10_doesAnswer 40 = .ok (.iconst 0, 1) := by decide +kernel
theorem dX10_doesAnswer_41 : decode cX10_doesAnswer 41 = .ok (.istore 4, 2) := by decide +kernel
theorem dX10_doesAnswer_43 : decode cX10_doesAnswer 43 = .ok (.aload_n 0, 1) := by decide +kernel
theorem dX10_doesAnswer_44 : decode cX10_doesAnswer 44 = .ok (.iload_n 1, 1) := by decide +kernel
theorem dX10_doesAnswer_45 : decode cX10_doesAnswer 45 = .ok (.iconst 3, 1) := by decide +kernel
theorem dX10_doesAnswer_46 : decode cX10_doesAnswer 46 = .ok (.invokevirtual 58, 3) := by decide +kernel
theorem dX10_doesAnswer_49 : decode cX10_doesAnswer 49 = .ok (.aload_n 0, 1) := by decide +kernel
theorem dX10_doesAnswer_50 : decode cX10_doesAnswer 50 = .ok (.iload_n 2, 1) := by decide +kernel
theorem dX10_doesAnswer_51 : decode cX10_doesAnswer 51 = .ok (.iconst 3, 1) := by decide +kernel
theorem dX10_doesAnswer_52 : decode cX10_doesAnswer 52 = .ok (.invokevirtual 58, 3) := by decide +kernel
theorem dX10_doesAnswer_55 : decode cX10_doesAnswer 55 = .ok (.if_icmp .lt 7, 3) := by decide +kernel
theorem dX10_doesAnswer_58 : decode cX10_doesAnswer 58 = .ok (.iconst 1, 1) := by decide +kernel
theorem dX10_doesAnswer_59 : decode cX10_doesAnswer 59 = .ok (.goto 4, 3) := by decide +kernel
theorem dX10_doesAnswer_62 : decode cX10_doesAnswer 62 = .ok (.iconst 0, 1) := by decide +kernel
theorem dX10_doesAnswer_63 : decode cX10_doesAnswer 63 = .ok (.istore 5, 2) := by decide +kernel
theorem dX10_doesAnswer_65 : decode cX10_doesAnswer 65 = .ok (.aload_n 0, 1) := by decide +kernel
theorem dX10_doesAnswer_66 : decode cX10_doesAnswer 66 = .ok (.iload_n 1, 1) := by decide +kernel
theorem dX10_doesAnswer_67 : decode cX10_doesAnswer 67 = .ok (.iconst 0, 1) := by decide +kernel
theorem dX10_doesAnswer_68 : decode cX10_doesAnswer 68 = .ok (.invokevirtual 58, 3) := by decide +kernel
theorem dX10_doesAnswer_71 : decode cX10_doesAnswer 71 = .ok (.tableswitch 142 1 6 #[37, 39, 42, 86, 101, 112], 37) := by decide +kernel
theorem dX10_doesAnswer_108 : decode cX10_doesAnswer 108 = .ok (.iload_n 3, 1) := by decide +kernel
theorem dX10_doesAnswer_109 : decode cX10_doesAnswer 109 = .ok (.ireturn, 1) := by decide +kernel
theorem dX10_doesAnswer_110 : decode cX10_doesAnswer 110 = .ok (.iload 5, 2) := by decide +kernel
theorem dX10_doesAnswer_112 : decode cX10_doesAnswer 112 = .ok (.ireturn, 1) := by decide +kernel
theorem dX10_doesAnswer_113 : decode cX10_doesAnswer 113 = .ok (.iload_n 3, 1) := by decide +kernel
theorem dX10_doesAnswer_114 : decode cX10_doesAnswer 114 = .ok (.ifCond .ne 37, 3) := by decide +kernel
theorem dX10_doesAnswer_117 : decode cX10_doesAnswer 117 = .ok (.iload 4, 2) := by decide +kernel
theorem dX10_doesAnswer_119 : decode cX10_doesAnswer 119 = .ok (.ifCond .ne 32, 3) := by decide +kernel
theorem dX10_doesAnswer_122 : decode cX10_doesAnswer 122 = .ok (.aload_n 0, 1) := by decide +kernel
theorem dX10_doesAnswer_123 : decode cX10_doesAnswer 123 = .ok (.iload_n 1, 1) := by decide +kernel
theorem dX10_doesAnswer_124 : decode cX10_doesAnswer 124 = .ok (.iconst 2, 1) := by decide +kernel
theorem dX10_doesAnswer_125 : decode cX10_doesAnswer 125 = .ok (.invokevirtual 58, 3) := by decide +kernel
theorem dX10_doesAnswer_128 : decode cX10_doesAnswer 128 = .ok (.aload_n 0, 1) := by decide +kernel
theorem dX10_doesAnswer_129 : decode cX10_doesAnswer 129 = .ok (.iload_n 1, 1) := by decide +kernel
theorem dX10_doesAnswer_130 : decode cX10_doesAnswer 130 = .ok (.iconst 3, 1) := by decide +kernel
theorem dX10_doesAnswer_131 : decode cX10_doesAnswer 131 = .ok (.invokevirtual 58, 3) := by decide +kernel
theorem dX10_doesAnswer_134 : decode cX10_doesAnswer 134 = .ok (.iadd, 1) := by decide +kernel
theorem dX10_doesAnswer_135 : decode cX10_doesAnswer 135 = .ok (.aload_n 0, 1) := by decide +kernel
theorem dX10_doesAnswer_136 : decode cX10_doesAnswer 136 = .ok (.iload_n 2, 1) := by decide +kernel
theorem dX10_doesAnswer_137 : decode cX10_doesAnswer 137 = .ok (.iconst 2, 1) := by decide +kernel
theorem dX10_doesAnswer_138 : decode cX10_doesAnswer 138 = .ok (.invokevirtual 58, 3) := by decide +kernel
theorem dX10_doesAnswer_141 : decode cX10_doesAnswer 141 = .ok (.aload_n 0, 1) := by decide +kernel
theorem dX10_doesAnswer_142 : decode cX10_doesAnswer 142 = .ok (.iload_n 2, 1) := by decide +kernel
theorem dX10_doesAnswer_143 : decode cX10_doesAnswer 143 = .ok (.iconst 3, 1) := by decide +kernel
theorem dX10_doesAnswer_144 : decode cX10_doesAnswer 144 = .ok (.invokevirtual 58, 3) := by decide +kernel
theorem dX10_doesAnswer_147 : decode cX10_doesAnswer 147 = .ok (.iadd, 1) := by decide +kernel
theorem dX10_doesAnswer_148 : decode cX10_doesAnswer 148 = .ok (.if_icmp .ne 7, 3) := by decide +kernel
theorem dX10_doesAnswer_151 : decode cX10_doesAnswer 151 = .ok (.iconst 1, 1) := by decide +kernel
theorem dX10_doesAnswer_152 : decode cX10_doesAnswer 152 = .ok (.goto 4, 3) := by decide +kernel
theorem dX10_doesAnswer_155 : decode cX10_doesAnswer 155 = .ok (.iconst 0, 1) := by decide +kernel
theorem dX10_doesAnswer_156 : decode cX10_doesAnswer 156 = .ok (.ireturn, 1) := by decide +kernel
theorem dX10_doesAnswer_157 : decode cX10_doesAnswer 157 = .ok (.iload_n 3, 1) := by decide +kernel
theorem dX10_doesAnswer_158 : decode cX10_doesAnswer 158 = .ok (.ifCond .eq 12, 3) := by decide +kernel
theorem dX10_doesAnswer_161 : decode cX10_doesAnswer 161 = .ok (.iload 4, 2) := by decide +kernel
theorem dX10_doesAnswer_163 : decode cX10_doesAnswer 163 = .ok (.ifCond .eq 7, 3) := by decide +kernel
theorem dX10_doesAnswer_166 : decode cX10_doesAnswer 166 = .ok (.iconst 1, 1) := by decide +kernel
theorem dX10_doesAnswer_167 : decode cX10_doesAnswer 167 = .ok (.goto 4, 3) := by decide +kernel
theorem dX10_doesAnswer_170 : decode cX10_doesAnswer 170 = .ok (.iconst 0, 1) := by decide +kernel
theorem dX10_doesAnswer_171 : decode cX10_doesAnswer 171 = .ok (.ireturn, 1) := by decide +kernel
theorem dX10_doesAnswer_172 : decode cX10_doesAnswer 172 = .ok (.iload 5, 2) := by decide +kernel
theorem dX10_doesAnswer_174 : decode cX10_doesAnswer 174 = .ok (.ifCond .ne 7, 3) := by decide +kernel
theorem dX10_doesAnswer_177 : decode cX10_doesAnswer 177 = .ok (.iconst 1, 1) := by decide +kernel
theorem dX10_doesAnswer_178 : decode cX10_doesAnswer 178 = .ok (.goto 4, 3) := by decide +kernel
theorem dX10_doesAnswer_181 : decode cX10_doesAnswer 181 = .ok (.iconst 0, 1) := by decide +kernel
theorem dX10_doesAnswer_182 : decode cX10_doesAnswer 182 = .ok (.ireturn, 1) := by decide +kernel
theorem dX10_doesAnswer_183 : decode cX10_doesAnswer 183 = .ok (.iload_n 3, 1) := by decide +kernel
theorem dX10_doesAnswer_184 : decode cX10_doesAnswer 184 = .ok (.ifCond .ne 23, 3) := by decide +kernel
theorem dX10_doesAnswer_187 : decode cX10_doesAnswer 187 = .ok (.iload 4, 2) := by decide +kernel
theorem dX10_doesAnswer_189 : decode cX10_doesAnswer 189 = .ok (.ifCond .ne 18, 3) := by decide +kernel
theorem dX10_doesAnswer_192 : decode cX10_doesAnswer 192 = .ok (.aload_n 0, 1) := by decide +kernel
theorem dX10_doesAnswer_193 : decode cX10_doesAnswer 193 = .ok (.iload_n 1, 1) := by decide +kernel
theorem dX10_doesAnswer_194 : decode cX10_doesAnswer 194 = .ok (.iconst 4, 1) := by decide +kernel
theorem dX10_doesAnswer_195 : decode cX10_doesAnswer 195 = .ok (.invokevirtual 58, 3) := by decide +kernel
theorem dX10_doesAnswer_198 : decode cX10_doesAnswer 198 = .ok (.aload_n 0, 1) := by decide +kernel
theorem dX10_doesAnswer_199 : decode cX10_doesAnswer 199 = .ok (.iload_n 2, 1) := by decide +kernel
theorem dX10_doesAnswer_200 : decode cX10_doesAnswer 200 = .ok (.iconst 4, 1) := by decide +kernel
theorem dX10_doesAnswer_201 : decode cX10_doesAnswer 201 = .ok (.invokevirtual 58, 3) := by decide +kernel
theorem dX10_doesAnswer_204 : decode cX10_doesAnswer 204 = .ok (.if_icmp .ne 7, 3) := by decide +kernel
theorem dX10_doesAnswer_207 : decode cX10_doesAnswer 207 = .ok (.iconst 1, 1) := by decide +kernel
theorem dX10_doesAnswer_208 : decode cX10_doesAnswer 208 = .ok (.goto 4, 3) := by decide +kernel
theorem dX10_doesAnswer_211 : decode cX10_doesAnswer 211 = .ok (.iconst 0, 1) := by decide +kernel
theorem dX10_doesAnswer_212 : decode cX10_doesAnswer 212 = .ok (.ireturn, 1) := by decide +kernel
theorem dX10_doesAnswer_213 : decode cX10_doesAnswer 213 = .ok (.iload_n 3, 1) := by decide +kernel
theorem dX10_doesAnswer_214 : decode cX10_doesAnswer 214 = .ok (.ifCond .ne 8, 3) := by decide +kernel
theorem dX10_doesAnswer_217 : decode cX10_doesAnswer 217 = .ok (.iload 4, 2) := by decide +kernel
theorem dX10_doesAnswer_219 : decode cX10_doesAnswer 219 = .ok (.ifCond .eq 7, 3) := by decide +kernel
theorem dX10_doesAnswer_222 : decode cX10_doesAnswer 222 = .ok (.iconst 1, 1) := by decide +kernel
theorem dX10_doesAnswer_223 : decode cX10_doesAnswer 223 = .ok (.goto 4, 3) := by decide +kernel
theorem dX10_doesAnswer_226 : decode cX10_doesAnswer 226 = .ok (.iconst 0, 1) := by decide +kernel
theorem dX10_doesAnswer_227 : decode cX10_doesAnswer 227 = .ok (.ireturn, 1) := by decide +kernel
theorem dX10_depthOf_0 : decode cX10_depthOf 0 = .ok (.aload_n 0, 1) := by decide +kernel
theorem dX10_depthOf_1 : decode cX10_depthOf 1 = .ok (.iload_n 1, 1) := by decide +kernel
theorem dX10_depthOf_2 : decode cX10_depthOf 2 = .ok (.iconst 1, 1) := by decide +kernel
theorem dX10_depthOf_3 : decode cX10_depthOf 3 = .ok (.invokevirtual 58, 3) := by decide +kernel
theorem dX10_depthOf_6 : decode cX10_depthOf 6 = .ok (.istore_n 2, 1) := by decide +kernel
theorem dX10_depthOf_7 : decode cX10_depthOf 7 = .ok (.aload_n 0, 1) := by decide +kernel
theorem dX10_depthOf_8 : decode cX10_depthOf 8 = .ok (.iload_n 1, 1) := by decide +kernel
theorem dX10_depthOf_9 : decode cX10_depthOf 9 = .ok (.iconst 0, 1) := by decide +kernel
theorem dX10_depthOf_10 : decode cX10_depthOf 10 = .ok (.invokevirtual 58, 3) := by decide +kernel
theorem dX10_depthOf_13 : decode cX10_depthOf 13 = .ok (.tableswitch 73 1 6 #[39, 43, 73, 47, 58, 64], 39) := by decide +kernel
theorem dX10_depthOf_52 : decode cX10_depthOf 52 = .ok (.iload_n 2, 1) := by decide +kernel
theorem dX10_depthOf_53 : decode cX10_depthOf 53 = .ok (.iconst 2, 1) := by decide +kernel
theorem dX10_depthOf_54 : decode cX10_depthOf 54 = .ok (.iadd, 1) := by decide +kernel
theorem dX10_depthOf_55 : decode cX10_depthOf 55 = .ok (.ireturn, 1) := by decide +kernel
theorem dX10_depthOf_56 : decode cX10_depthOf 56 = .ok (.iconst 2, 1) := by decide +kernel
theorem dX10_depthOf_57 : decode cX10_depthOf 57 = .ok (.iload_n 2, 1) := by decide +kernel
theorem dX10_depthOf_58 : decode cX10_depthOf 58 = .ok (.imul, 1) := by decide +kernel
theorem dX10_depthOf_59 : decode cX10_depthOf 59 = .ok (.ireturn, 1) := by decide +kernel
theorem dX10_depthOf_60 : decode cX10_depthOf 60 = .ok (.iload_n 2, 1) := by decide +kernel
theorem dX10_depthOf_61 : decode cX10_depthOf 61 = .ok (.iconst 2, 1) := by decide +kernel
theorem dX10_depthOf_62 : decode cX10_depthOf 62 = .ok (.iadd, 1) := by decide +kernel
theorem dX10_depthOf_63 : decode cX10_depthOf 63 = .ok (.aload_n 0, 1) := by decide +kernel
theorem dX10_depthOf_64 : decode cX10_depthOf 64 = .ok (.iload_n 1, 1) := by decide +kernel
theorem dX10_depthOf_65 : decode cX10_depthOf 65 = .ok (.iconst 3, 1) := by decide +kernel
theorem dX10_depthOf_66 : decode cX10_depthOf 66 = .ok (.invokevirtual 58, 3) := by decide +kernel
theorem dX10_depthOf_69 : decode cX10_depthOf 69 = .ok (.iadd, 1) := by decide +kernel
theorem dX10_depthOf_70 : decode cX10_depthOf 70 = .ok (.ireturn, 1) := by decide +kernel
theorem dX10_depthOf_71 : decode cX10_depthOf 71 = .ok (.iconst 2, 1) := by decide +kernel
theorem dX10_depthOf_72 : decode cX10_depthOf 72 = .ok (.iload_n 2, 1) := by decide +kernel
theorem dX10_depthOf_73 : decode cX10_depthOf 73 = .ok (.imul, 1) := by decide +kernel
theorem dX10_depthOf_74 : decode cX10_depthOf 74 = .ok (.iconst 1, 1) := by decide +kernel
theorem dX10_depthOf_75 : decode cX10_depthOf 75 = .ok (.isub, 1) := by decide +kernel
theorem dX10_depthOf_76 : decode cX10_depthOf 76 = .ok (.ireturn, 1) := by decide +kernel
theorem dX10_depthOf_77 : decode cX10_depthOf 77 = .ok (.iload_n 2, 1) := by decide +kernel
theorem dX10_depthOf_78 : decode cX10_depthOf 78 = .ok (.aload_n 0, 1) := by decide +kernel
theorem dX10_depthOf_79 : decode cX10_depthOf 79 = .ok (.iload_n 1, 1) := by decide +kernel
theorem dX10_depthOf_80 : decode cX10_depthOf 80 = .ok (.iconst 2, 1) := by decide +kernel
theorem dX10_depthOf_81 : decode cX10_depthOf 81 = .ok (.invokevirtual 58, 3) := by decide +kernel
theorem dX10_depthOf_84 : decode cX10_depthOf 84 = .ok (.iadd, 1) := by decide +kernel
theorem dX10_depthOf_85 : decode cX10_depthOf 85 = .ok (.ireturn, 1) := by decide +kernel
theorem dX10_depthOf_86 : decode cX10_depthOf 86 = .ok (.iload_n 2, 1) := by decide +kernel
theorem dX10_depthOf_87 : decode cX10_depthOf 87 = .ok (.ireturn, 1) := by decide +kernel
theorem dX10_isSeen_0 : decode cX10_isSeen 0 = .ok (.aload_n 0, 1) := by decide +kernel
theorem dX10_isSeen_1 : decode cX10_isSeen 1 = .ok (.iload_n 1, 1) := by decide +kernel
theorem dX10_isSeen_2 : decode cX10_isSeen 2 = .ok (.bipush 6, 2) := by decide +kernel
theorem dX10_isSeen_4 : decode cX10_isSeen 4 = .ok (.invokevirtual 58, 3) := by decide +kernel
theorem dX10_isSeen_7 : decode cX10_isSeen 7 = .ok (.ifCond .ne 7, 3) := by decide +kernel
theorem dX10_isSeen_10 : decode cX10_isSeen 10 = .ok (.iconst 1, 1) := by decide +kernel
theorem dX10_isSeen_11 : decode cX10_isSeen 11 = .ok (.goto 4, 3) := by decide +kernel
theorem dX10_isSeen_14 : decode cX10_isSeen 14 = .ok (.iconst 0, 1) := by decide +kernel
theorem dX10_isSeen_15 : decode cX10_isSeen 15 = .ok (.ireturn, 1) := by decide +kernel
theorem dX10_behind_0 : decode cX10_behind 0 = .ok (.iload_n 1, 1) := by decide +kernel
theorem dX10_behind_1 : decode cX10_behind 1 = .ok (.iconst 1, 1) := by decide +kernel
theorem dX10_behind_2 : decode cX10_behind 2 = .ok (.iadd, 1) := by decide +kernel
theorem dX10_behind_3 : decode cX10_behind 3 = .ok (.istore_n 2, 1) := by decide +kernel
theorem dX10_behind_4 : decode cX10_behind 4 = .ok (.iload_n 2, 1) := by decide +kernel
theorem dX10_behind_5 : decode cX10_behind 5 = .ok (.aload_n 0, 1) := by decide +kernel
theorem dX10_behind_6 : decode cX10_behind 6 = .ok (.getfield 9, 3) := by decide +kernel
theorem dX10_behind_9 : decode cX10_behind 9 = .ok (.iconst 2, 1) := by decide +kernel
theorem dX10_behind_10 : decode cX10_behind 10 = .ok (.iaload, 1) := by decide +kernel
theorem dX10_behind_11 : decode cX10_behind 11 = .ok (.if_icmp .ge 19, 3) := by decide +kernel
theorem dX10_behind_14 : decode cX10_behind 14 = .ok (.aload_n 0, 1) := by decide +kernel
theorem dX10_behind_15 : decode cX10_behind 15 = .ok (.iload_n 2, 1) := by decide +kernel
theorem dX10_behind_16 : decode cX10_behind 16 = .ok (.invokevirtual 62, 3) := by decide +kernel
theorem dX10_behind_19 : decode cX10_behind 19 = .ok (.ifCond .eq 5, 3) := by decide +kernel
theorem dX10_behind_22 : decode cX10_behind 22 = .ok (.iload_n 2, 1) := by decide +kernel
theorem dX10_behind_23 : decode cX10_behind 23 = .ok (.ireturn, 1) := by decide +kernel
theorem dX10_behind_24 : decode cX10_behind 24 = .ok (.iinc 2 1, 3) := by decide +kernel
theorem dX10_behind_27 : decode cX10_behind 27 = .ok (.goto (-23), 3) := by decide +kernel
theorem dX10_behind_30 : decode cX10_behind 30 = .ok (.iconst (-1), 1) := by decide +kernel
theorem dX10_behind_31 : decode cX10_behind 31 = .ok (.ireturn, 1) := by decide +kernel
theorem dX10_ahead_0 : decode cX10_ahead 0 = .ok (.iload_n 1, 1) := by decide +kernel
theorem dX10_ahead_1 : decode cX10_ahead 1 = .ok (.iconst 1, 1) := by decide +kernel
theorem dX10_ahead_2 : decode cX10_ahead 2 = .ok (.isub, 1) := by decide +kernel
theorem dX10_ahead_3 : decode cX10_ahead 3 = .ok (.istore_n 2, 1) := by decide +kernel
theorem dX10_ahead_4 : decode cX10_ahead 4 = .ok (.iload_n 2, 1) := by decide +kernel
theorem dX10_ahead_5 : decode cX10_ahead 5 = .ok (.ifCond .lt 19, 3) := by decide +kernel
theorem dX10_ahead_8 : decode cX10_ahead 8 = .ok (.aload_n 0, 1) := by decide +kernel
theorem dX10_ahead_9 : decode cX10_ahead 9 = .ok (.iload_n 2, 1) := by decide +kernel
theorem dX10_ahead_10 : decode cX10_ahead 10 = .ok (.invokevirtual 62, 3) := by decide +kernel
theorem dX10_ahead_13 : decode cX10_ahead 13 = .ok (.ifCond .eq 5, 3) := by decide +kernel
theorem dX10_ahead_16 : decode cX10_ahead 16 = .ok (.iload_n 2, 1) := by decide +kernel
theorem dX10_ahead_17 : decode cX10_ahead 17 = .ok (.ireturn, 1) := by decide +kernel
theorem dX10_ahead_18 : decode cX10_ahead 18 = .ok (.iinc 2 (-1), 3) := by decide +kernel
theorem dX10_ahead_21 : decode cX10_ahead 21 = .ok (.goto (-17), 3) := by decide +kernel
theorem dX10_ahead_24 : decode cX10_ahead 24 = .ok (.iconst (-1), 1) := by decide +kernel
theorem dX10_ahead_25 : decode cX10_ahead 25 = .ok (.ireturn, 1) := by decide +kernel
theorem dX10_isHeard_0 : decode cX10_isHeard 0 = .ok (.aload_n 0, 1) := by decide +kernel
theorem dX10_isHeard_1 : decode cX10_isHeard 1 = .ok (.iload_n 1, 1) := by decide +kernel
theorem dX10_isHeard_2 : decode cX10_isHeard 2 = .ok (.invokevirtual 66, 3) := by decide +kernel
theorem dX10_isHeard_5 : decode cX10_isHeard 5 = .ok (.istore_n 2, 1) := by decide +kernel
theorem dX10_isHeard_6 : decode cX10_isHeard 6 = .ok (.iload_n 2, 1) := by decide +kernel
theorem dX10_isHeard_7 : decode cX10_isHeard 7 = .ok (.ifCond .lt 16, 3) := by decide +kernel
theorem dX10_isHeard_10 : decode cX10_isHeard 10 = .ok (.aload_n 0, 1) := by decide +kernel
theorem dX10_isHeard_11 : decode cX10_isHeard 11 = .ok (.iload_n 2, 1) := by decide +kernel
theorem dX10_isHeard_12 : decode cX10_isHeard 12 = .ok (.iload_n 1, 1) := by decide +kernel
theorem dX10_isHeard_13 : decode cX10_isHeard 13 = .ok (.invokevirtual 70, 3) := by decide +kernel
theorem dX10_isHeard_16 : decode cX10_isHeard 16 = .ok (.ifCond .eq 7, 3) := by decide +kernel
theorem dX10_isHeard_19 : decode cX10_isHeard 19 = .ok (.iconst 1, 1) := by decide +kernel
theorem dX10_isHeard_20 : decode cX10_isHeard 20 = .ok (.goto 4, 3) := by decide +kernel
theorem dX10_isHeard_23 : decode cX10_isHeard 23 = .ok (.iconst 0, 1) := by decide +kernel
theorem dX10_isHeard_24 : decode cX10_isHeard 24 = .ok (.ireturn, 1) := by decide +kernel
theorem dX10_isAnswer_0 : decode cX10_isAnswer 0 = .ok (.aload_n 0, 1) := by decide +kernel
theorem dX10_isAnswer_1 : decode cX10_isAnswer 1 = .ok (.iload_n 1, 1) := by decide +kernel
theorem dX10_isAnswer_2 : decode cX10_isAnswer 2 = .ok (.invokevirtual 74, 3) := by decide +kernel
theorem dX10_isAnswer_5 : decode cX10_isAnswer 5 = .ok (.istore_n 2, 1) := by decide +kernel
theorem dX10_isAnswer_6 : decode cX10_isAnswer 6 = .ok (.aload_n 0, 1) := by decide +kernel
theorem dX10_isAnswer_7 : decode cX10_isAnswer 7 = .ok (.iload_n 1, 1) := by decide +kernel
theorem dX10_isAnswer_8 : decode cX10_isAnswer 8 = .ok (.invokevirtual 62, 3) := by decide +kernel
theorem dX10_isAnswer_11 : decode cX10_isAnswer 11 = .ok (.ifCond .eq 20, 3) := by decide +kernel
theorem dX10_isAnswer_14 : decode cX10_isAnswer 14 = .ok (.iload_n 2, 1) := by decide +kernel
theorem dX10_isAnswer_15 : decode cX10_isAnswer 15 = .ok (.ifCond .lt 16, 3) := by decide +kernel
theorem dX10_isAnswer_18 : decode cX10_isAnswer 18 = .ok (.aload_n 0, 1) := by decide +kernel
theorem dX10_isAnswer_19 : decode cX10_isAnswer 19 = .ok (.iload_n 1, 1) := by decide +kernel
theorem dX10_isAnswer_20 : decode cX10_isAnswer 20 = .ok (.iload_n 2, 1) := by decide +kernel
theorem dX10_isAnswer_21 : decode cX10_isAnswer 21 = .ok (.invokevirtual 70, 3) := by decide +kernel
theorem dX10_isAnswer_24 : decode cX10_isAnswer 24 = .ok (.ifCond .eq 7, 3) := by decide +kernel
theorem dX10_isAnswer_27 : decode cX10_isAnswer 27 = .ok (.iconst 1, 1) := by decide +kernel
theorem dX10_isAnswer_28 : decode cX10_isAnswer 28 = .ok (.goto 4, 3) := by decide +kernel
theorem dX10_isAnswer_31 : decode cX10_isAnswer 31 = .ok (.iconst 0, 1) := by decide +kernel
theorem dX10_isAnswer_32 : decode cX10_isAnswer 32 = .ok (.ireturn, 1) := by decide +kernel
theorem dX10_seen_0 : decode cX10_seen 0 = .ok (.iconst 0, 1) := by decide +kernel
theorem dX10_seen_1 : decode cX10_seen 1 = .ok (.istore_n 1, 1) := by decide +kernel
theorem dX10_seen_2 : decode cX10_seen 2 = .ok (.iconst 0, 1) := by decide +kernel
theorem dX10_seen_3 : decode cX10_seen 3 = .ok (.istore_n 2, 1) := by decide +kernel
theorem dX10_seen_4 : decode cX10_seen 4 = .ok (.iload_n 2, 1) := by decide +kernel
theorem dX10_seen_5 : decode cX10_seen 5 = .ok (.aload_n 0, 1) := by decide +kernel
theorem dX10_seen_6 : decode cX10_seen 6 = .ok (.getfield 9, 3) := by decide +kernel
theorem dX10_seen_9 : decode cX10_seen 9 = .ok (.iconst 2, 1) := by decide +kernel
theorem dX10_seen_10 : decode cX10_seen 10 = .ok (.iaload, 1) := by decide +kernel
theorem dX10_seen_11 : decode cX10_seen 11 = .ok (.if_icmp .ge 27, 3) := by decide +kernel
theorem dX10_seen_14 : decode cX10_seen 14 = .ok (.iload_n 1, 1) := by decide +kernel
theorem dX10_seen_15 : decode cX10_seen 15 = .ok (.aload_n 0, 1) := by decide +kernel
theorem dX10_seen_16 : decode cX10_seen 16 = .ok (.iload_n 2, 1) := by decide +kernel
theorem dX10_seen_17 : decode cX10_seen 17 = .ok (.invokevirtual 62, 3) := by decide +kernel
theorem dX10_seen_20 : decode cX10_seen 20 = .ok (.ifCond .eq 9, 3) := by decide +kernel
theorem dX10_seen_23 : decode cX10_seen 23 = .ok (.iconst 1, 1) := by decide +kernel
theorem dX10_seen_24 : decode cX10_seen 24 = .ok (.iload_n 2, 1) := by decide +kernel
theorem dX10_seen_25 : decode cX10_seen 25 = .ok (.ishl, 1) := by decide +kernel
theorem dX10_seen_26 : decode cX10_seen 26 = .ok (.goto 4, 3) := by decide +kernel
theorem dX10_seen_29 : decode cX10_seen 29 = .ok (.iconst 0, 1) := by decide +kernel
theorem dX10_seen_30 : decode cX10_seen 30 = .ok (.ior, 1) := by decide +kernel
theorem dX10_seen_31 : decode cX10_seen 31 = .ok (.istore_n 1, 1) := by decide +kernel
theorem dX10_seen_32 : decode cX10_seen 32 = .ok (.iinc 2 1, 3) := by decide +kernel
theorem dX10_seen_35 : decode cX10_seen 35 = .ok (.goto (-31), 3) := by decide +kernel
theorem dX10_seen_38 : decode cX10_seen 38 = .ok (.iload_n 1, 1) := by decide +kernel
theorem dX10_seen_39 : decode cX10_seen 39 = .ok (.ireturn, 1) := by decide +kernel
theorem dX10_senseOf_0 : decode cX10_senseOf 0 = .ok (.aload_n 0, 1) := by decide +kernel
theorem dX10_senseOf_1 : decode cX10_senseOf 1 = .ok (.iconst 1, 1) := by decide +kernel
theorem dX10_senseOf_2 : decode cX10_senseOf 2 = .ok (.aload_n 0, 1) := by decide +kernel
theorem dX10_senseOf_3 : decode cX10_senseOf 3 = .ok (.iload_n 1, 1) := by decide +kernel
theorem dX10_senseOf_4 : decode cX10_senseOf 4 = .ok (.iconst 2, 1) := by decide +kernel
theorem dX10_senseOf_5 : decode cX10_senseOf 5 = .ok (.invokevirtual 58, 3) := by decide +kernel
theorem dX10_senseOf_8 : decode cX10_senseOf 8 = .ok (.aload_n 0, 1) := by decide +kernel
theorem dX10_senseOf_9 : decode cX10_senseOf 9 = .ok (.iload_n 1, 1) := by decide +kernel
theorem dX10_senseOf_10 : decode cX10_senseOf 10 = .ok (.iconst 3, 1) := by decide +kernel
theorem dX10_senseOf_11 : decode cX10_senseOf 11 = .ok (.invokevirtual 58, 3) := by decide +kernel
theorem dX10_senseOf_14 : decode cX10_senseOf 14 = .ok (.aload_n 0, 1) := by decide +kernel
theorem dX10_senseOf_15 : decode cX10_senseOf 15 = .ok (.iload_n 1, 1) := by decide +kernel
theorem dX10_senseOf_16 : decode cX10_senseOf 16 = .ok (.invokevirtual 77, 3) := by decide +kernel
theorem dX10_senseOf_19 : decode cX10_senseOf 19 = .ok (.invokevirtual 80, 3) := by decide +kernel
theorem dX10_senseOf_22 : decode cX10_senseOf 22 = .ok (.ireturn, 1) := by decide +kernel
theorem dX10_isKm_0 : decode cX10_isKm 0 = .ok (.iload_n 0, 1) := by decide +kernel
theorem dX10_isKm_1 : decode cX10_isKm 1 = .ok (.iconst 0, 1) := by decide +kernel
theorem dX10_isKm_2 : decode cX10_isKm 2 = .ok (.bipush 69, 2) := by decide +kernel
theorem dX10_isKm_4 : decode cX10_isKm 4 = .ok (.invokestatic 54, 3) := by decide +kernel
theorem dX10_isKm_7 : decode cX10_isKm 7 = .ok (.ireturn, 1) := by decide +kernel
theorem dX10_isLine_0 : decode cX10_isLine 0 = .ok (.iload_n 0, 1) := by decide +kernel
theorem dX10_isLine_1 : decode cX10_isLine 1 = .ok (.bipush 10, 2) := by decide +kernel
theorem dX10_isLine_3 : decode cX10_isLine 3 = .ok (.bipush 125, 2) := by decide +kernel
theorem dX10_isLine_5 : decode cX10_isLine 5 = .ok (.invokestatic 54, 3) := by decide +kernel
theorem dX10_isLine_8 : decode cX10_isLine 8 = .ok (.ifCond .eq 15, 3) := by decide +kernel
theorem dX10_isLine_11 : decode cX10_isLine 11 = .ok (.iload_n 0, 1) := by decide +kernel
theorem dX10_isLine_12 : decode cX10_isLine 12 = .ok (.bipush 10, 2) := by decide +kernel
theorem dX10_isLine_14 : decode cX10_isLine 14 = .ok (.irem, 1) := by decide +kernel
theorem dX10_isLine_15 : decode cX10_isLine 15 = .ok (.iconst 5, 1) := by decide +kernel
theorem dX10_isLine_16 : decode cX10_isLine 16 = .ok (.if_icmp .gt 7, 3) := by decide +kernel
theorem dX10_isLine_19 : decode cX10_isLine 19 = .ok (.iconst 1, 1) := by decide +kernel
theorem dX10_isLine_20 : decode cX10_isLine 20 = .ok (.goto 4, 3) := by decide +kernel
theorem dX10_isLine_23 : decode cX10_isLine 23 = .ok (.iconst 0, 1) := by decide +kernel
theorem dX10_isLine_24 : decode cX10_isLine 24 = .ok (.ireturn, 1) := by decide +kernel
theorem dX10_comes_0 : decode cX10_comes 0 = .ok (.aload_n 0, 1) := by decide +kernel
theorem dX10_comes_1 : decode cX10_comes 1 = .ok (.getfield 9, 3) := by decide +kernel
theorem dX10_comes_4 : decode cX10_comes 4 = .ok (.iconst 2, 1) := by decide +kernel
theorem dX10_comes_5 : decode cX10_comes 5 = .ok (.iaload, 1) := by decide +kernel
theorem dX10_comes_6 : decode cX10_comes 6 = .ok (.istore 5, 2) := by decide +kernel
theorem dX10_comes_8 : decode cX10_comes 8 = .ok (.aload_n 0, 1) := by decide +kernel
theorem dX10_comes_9 : decode cX10_comes 9 = .ok (.getfield 9, 3) := by decide +kernel
theorem dX10_comes_12 : decode cX10_comes 12 = .ok (.iconst 2, 1) := by decide +kernel
theorem dX10_comes_13 : decode cX10_comes 13 = .ok (.dup2, 1) := by decide +kernel
theorem dX10_comes_14 : decode cX10_comes 14 = .ok (.iaload, 1) := by decide +kernel
theorem dX10_comes_15 : decode cX10_comes 15 = .ok (.iconst 1, 1) := by decide +kernel
theorem dX10_comes_16 : decode cX10_comes 16 = .ok (.iadd, 1) := by decide +kernel
theorem dX10_comes_17 : decode cX10_comes 17 = .ok (.iastore, 1) := by decide +kernel
theorem dX10_comes_18 : decode cX10_comes 18 = .ok (.aload_n 0, 1) := by decide +kernel
theorem dX10_comes_19 : decode cX10_comes 19 = .ok (.iload 5, 2) := by decide +kernel
theorem dX10_comes_21 : decode cX10_comes 21 = .ok (.iconst 0, 1) := by decide +kernel
theorem dX10_comes_22 : decode cX10_comes 22 = .ok (.iload_n 1, 1) := by decide +kernel
theorem dX10_comes_23 : decode cX10_comes 23 = .ok (.bipush 10, 2) := by decide +kernel
theorem dX10_comes_25 : decode cX10_comes 25 = .ok (.idiv, 1) := by decide +kernel
theorem dX10_comes_26 : decode cX10_comes 26 = .ok (.invokevirtual 84, 3) := by decide +kernel
theorem dX10_comes_29 : decode cX10_comes 29 = .ok (.aload_n 0, 1) := by decide +kernel
theorem dX10_comes_30 : decode cX10_comes 30 = .ok (.iload 5, 2) := by decide +kernel
theorem dX10_comes_32 : decode cX10_comes 32 = .ok (.iconst 1, 1) := by decide +kernel
theorem dX10_comes_33 : decode cX10_comes 33 = .ok (.iload_n 1, 1) := by decide +kernel
theorem dX10_comes_34 : decode cX10_comes 34 = .ok (.bipush 10, 2) := by decide +kernel
theorem dX10_comes_36 : decode cX10_comes 36 = .ok (.irem, 1) := by decide +kernel
theorem dX10_comes_37 : decode cX10_comes 37 = .ok (.invokevirtual 84, 3) := by decide +kernel
theorem dX10_comes_40 : decode cX10_comes 40 = .ok (.aload_n 0, 1) := by decide +kernel
theorem dX10_comes_41 : decode cX10_comes 41 = .ok (.iload 5, 2) := by decide +kernel
theorem dX10_comes_43 : decode cX10_comes 43 = .ok (.iconst 2, 1) := by decide +kernel
theorem dX10_comes_44 : decode cX10_comes 44 = .ok (.iload_n 2, 1) := by decide +kernel
theorem dX10_comes_45 : decode cX10_comes 45 = .ok (.invokevirtual 84, 3) := by decide +kernel
theorem dX10_comes_48 : decode cX10_comes 48 = .ok (.aload_n 0, 1) := by decide +kernel
theorem dX10_comes_49 : decode cX10_comes 49 = .ok (.iload 5, 2) := by decide +kernel
theorem dX10_comes_51 : decode cX10_comes 51 = .ok (.iconst 3, 1) := by decide +kernel
theorem dX10_comes_52 : decode cX10_comes 52 = .ok (.iload_n 3, 1) := by decide +kernel
theorem dX10_comes_53 : decode cX10_comes 53 = .ok (.invokevirtual 84, 3) := by decide +kernel
theorem dX10_comes_56 : decode cX10_comes 56 = .ok (.aload_n 0, 1) := by decide +kernel
theorem dX10_comes_57 : decode cX10_comes 57 = .ok (.iload 5, 2) := by decide +kernel
theorem dX10_comes_59 : decode cX10_comes 59 = .ok (.iconst 4, 1) := by decide +kernel
theorem dX10_comes_60 : decode cX10_comes 60 = .ok (.iload 4, 2) := by decide +kernel
theorem dX10_comes_62 : decode cX10_comes 62 = .ok (.invokevirtual 84, 3) := by decide +kernel
theorem dX10_comes_65 : decode cX10_comes 65 = .ok (.aload_n 0, 1) := by decide +kernel
theorem dX10_comes_66 : decode cX10_comes 66 = .ok (.iload 5, 2) := by decide +kernel
theorem dX10_comes_68 : decode cX10_comes 68 = .ok (.iconst 5, 1) := by decide +kernel
theorem dX10_comes_69 : decode cX10_comes 69 = .ok (.iconst 0, 1) := by decide +kernel
theorem dX10_comes_70 : decode cX10_comes 70 = .ok (.invokevirtual 84, 3) := by decide +kernel
theorem dX10_comes_73 : decode cX10_comes 73 = .ok (.aload_n 0, 1) := by decide +kernel
theorem dX10_comes_74 : decode cX10_comes 74 = .ok (.iload 5, 2) := by decide +kernel
theorem dX10_comes_76 : decode cX10_comes 76 = .ok (.bipush 6, 2) := by decide +kernel
theorem dX10_comes_78 : decode cX10_comes 78 = .ok (.iconst 0, 1) := by decide +kernel
theorem dX10_comes_79 : decode cX10_comes 79 = .ok (.invokevirtual 84, 3) := by decide +kernel
theorem dX10_comes_82 : decode cX10_comes 82 = .ok (.iload 5, 2) := by decide +kernel
theorem dX10_comes_84 : decode cX10_comes 84 = .ok (.ireturn, 1) := by decide +kernel
theorem dX10_plough_0 : decode cX10_plough 0 = .ok (.iload_n 1, 1) := by decide +kernel
theorem dX10_plough_1 : decode cX10_plough 1 = .ok (.invokestatic 88, 3) := by decide +kernel
theorem dX10_plough_4 : decode cX10_plough 4 = .ok (.ifCond .eq 19, 3) := by decide +kernel
theorem dX10_plough_7 : decode cX10_plough 7 = .ok (.iload_n 2, 1) := by decide +kernel
theorem dX10_plough_8 : decode cX10_plough 8 = .ok (.invokestatic 91, 3) := by decide +kernel
theorem dX10_plough_11 : decode cX10_plough 11 = .ok (.ifCond .eq 12, 3) := by decide +kernel
theorem dX10_plough_14 : decode cX10_plough 14 = .ok (.iload_n 3, 1) := by decide +kernel
theorem dX10_plough_15 : decode cX10_plough 15 = .ok (.iconst 0, 1) := by decide +kernel
theorem dX10_plough_16 : decode cX10_plough 16 = .ok (.iconst 5, 1) := by decide +kernel
theorem dX10_plough_17 : decode cX10_plough 17 = .ok (.invokestatic 54, 3) := by decide +kernel
theorem dX10_plough_20 : decode cX10_plough 20 = .ok (.ifCond .ne 10, 3) := by decide +kernel
theorem dX10_plough_23 : decode cX10_plough 23 = .ok (.aload_n 0, 1) := by decide +kernel
theorem dX10_plough_24 : decode cX10_plough 24 = .ok (.ldc 94, 2) := by decide +kernel
theorem dX10_plough_26 : decode cX10_plough 26 = .ok (.invokevirtual 95, 3) := by decide +kernel
theorem dX10_plough_29 : decode cX10_plough 29 = .ok (.ireturn, 1) := by decide +kernel
theorem dX10_plough_30 : decode cX10_plough 30 = .ok (.aload_n 0, 1) := by decide +kernel
theorem dX10_plough_31 : decode cX10_plough 31 = .ok (.getfield 9, 3) := by decide +kernel
theorem dX10_plough_34 : decode cX10_plough 34 = .ok (.iconst 2, 1) := by decide +kernel
theorem dX10_plough_35 : decode cX10_plough 35 = .ok (.iaload, 1) := by decide +kernel
theorem dX10_plough_36 : decode cX10_plough 36 = .ok (.bipush 12, 2) := by decide +kernel
theorem dX10_plough_38 : decode cX10_plough 38 = .ok (.if_icmp .ne 12, 3) := by decide +kernel
theorem dX10_plough_41 : decode cX10_plough 41 = .ok (.aload_n 0, 1) := by decide +kernel
theorem dX10_plough_42 : decode cX10_plough 42 = .ok (.ldc 98, 2) := by decide +kernel
theorem dX10_plough_44 : decode cX10_plough 44 = .ok (.invokevirtual 95, 3) := by decide +kernel
theorem dX10_plough_47 : decode cX10_plough 47 = .ok (.goto 17, 3) := by decide +kernel
theorem dX10_plough_50 : decode cX10_plough 50 = .ok (.aload_n 0, 1) := by decide +kernel
theorem dX10_plough_51 : decode cX10_plough 51 = .ok (.iload_n 1, 1) := by decide +kernel
theorem dX10_plough_52 : decode cX10_plough 52 = .ok (.iload_n 2, 1) := by decide +kernel
theorem dX10_plough_53 : decode cX10_plough 53 = .ok (.bipush 10, 2) := by decide +kernel
theorem dX10_plough_55 : decode cX10_plough 55 = .ok (.idiv, 1) := by decide +kernel
theorem dX10_plough_56 : decode cX10_plough 56 = .ok (.iload_n 2, 1) := by decide +kernel
theorem dX10_plough_57 : decode cX10_plough 57 = .ok (.bipush 10, 2) := by decide +kernel
theorem dX10_plough_59 : decode cX10_plough 59 = .ok (.irem, 1) := by decide +kernel
theorem dX10_plough_60 : decode cX10_plough 60 = .ok (.iload_n 3, 1) := by decide +kernel
theorem dX10_plough_61 : decode cX10_plough 61 = .ok (.invokevirtual 99, 3) := by decide +kernel
theorem dX10_plough_64 : decode cX10_plough 64 = .ok (.ireturn, 1) := by decide +kernel
theorem dX10_furrowIs_0 : decode cX10_furrowIs 0 = .ok (.aload_n 0, 1) := by decide +kernel
theorem dX10_furrowIs_1 : decode cX10_furrowIs 1 = .ok (.iload_n 1, 1) := by decide +kernel
theorem dX10_furrowIs_2 : decode cX10_furrowIs 2 = .ok (.invokevirtual 102, 3) := by decide +kernel
theorem dX10_furrowIs_5 : decode cX10_furrowIs 5 = .ok (.ifCond .eq 13, 3) := by decide +kernel
theorem dX10_furrowIs_8 : decode cX10_furrowIs 8 = .ok (.iload_n 2, 1) := by decide +kernel
theorem dX10_furrowIs_9 : decode cX10_furrowIs 9 = .ok (.iconst 0, 1) := by decide +kernel
theorem dX10_furrowIs_10 : decode cX10_furrowIs 10 = .ok (.bipush 9, 2) := by decide +kernel
theorem dX10_furrowIs_12 : decode cX10_furrowIs 12 = .ok (.invokestatic 54, 3) := by decide +kernel
theorem dX10_furrowIs_15 : decode cX10_furrowIs 15 = .ok (.ifCond .ne 10, 3) := by decide +kernel
theorem dX10_furrowIs_18 : decode cX10_furrowIs 18 = .ok (.aload_n 0, 1) := by decide +kernel
theorem dX10_furrowIs_19 : decode cX10_furrowIs 19 = .ok (.ldc 94, 2) := by decide +kernel
theorem dX10_furrowIs_21 : decode cX10_furrowIs 21 = .ok (.invokevirtual 95, 3) := by decide +kernel
theorem dX10_furrowIs_24 : decode cX10_furrowIs 24 = .ok (.ireturn, 1) := by decide +kernel
theorem dX10_furrowIs_25 : decode cX10_furrowIs 25 = .ok (.iload_n 2, 1) := by decide +kernel
theorem dX10_furrowIs_26 : decode cX10_furrowIs 26 = .ok (.bipush 7, 2) := by decide +kernel
theorem dX10_furrowIs_28 : decode cX10_furrowIs 28 = .ok (.if_icmp .ge 10, 3) := by decide +kernel
theorem dX10_furrowIs_31 : decode cX10_furrowIs 31 = .ok (.aload_n 0, 1) := by decide +kernel
theorem dX10_furrowIs_32 : decode cX10_furrowIs 32 = .ok (.iload_n 1, 1) := by decide +kernel
theorem dX10_furrowIs_33 : decode cX10_furrowIs 33 = .ok (.iload_n 2, 1) := by decide +kernel
theorem dX10_furrowIs_34 : decode cX10_furrowIs 34 = .ok (.invokevirtual 58, 3) := by decide +kernel
theorem dX10_furrowIs_37 : decode cX10_furrowIs 37 = .ok (.ireturn, 1) := by decide +kernel
theorem dX10_furrowIs_38 : decode cX10_furrowIs 38 = .ok (.iload_n 2, 1) := by decide +kernel
theorem dX10_furrowIs_39 : decode cX10_furrowIs 39 = .ok (.bipush 7, 2) := by decide +kernel
theorem dX10_furrowIs_41 : decode cX10_furrowIs 41 = .ok (.if_icmp .ne 11, 3) := by decide +kernel
theorem dX10_furrowIs_44 : decode cX10_furrowIs 44 = .ok (.aload_n 0, 1) := by decide +kernel
theorem dX10_furrowIs_45 : decode cX10_furrowIs 45 = .ok (.iload_n 1, 1) := by decide +kernel
theorem dX10_furrowIs_46 : decode cX10_furrowIs 46 = .ok (.invokevirtual 77, 3) := by decide +kernel
theorem dX10_furrowIs_49 : decode cX10_furrowIs 49 = .ok (.goto 30, 3) := by decide +kernel
theorem dX10_furrowIs_52 : decode cX10_furrowIs 52 = .ok (.iload_n 2, 1) := by decide +kernel
theorem dX10_furrowIs_53 : decode cX10_furrowIs 53 = .ok (.bipush 8, 2) := by decide +kernel
theorem dX10_furrowIs_55 : decode cX10_furrowIs 55 = .ok (.if_icmp .ne 11, 3) := by decide +kernel
theorem dX10_furrowIs_58 : decode cX10_furrowIs 58 = .ok (.aload_n 0, 1) := by decide +kernel
theorem dX10_furrowIs_59 : decode cX10_furrowIs 59 = .ok (.iload_n 1, 1) := by decide +kernel
theorem dX10_furrowIs_60 : decode cX10_furrowIs 60 = .ok (.invokevirtual 105, 3) := by decide +kernel
theorem dX10_furrowIs_63 : decode cX10_furrowIs 63 = .ok (.goto 16, 3) := by decide +kernel
theorem dX10_furrowIs_66 : decode cX10_furrowIs 66 = .ok (.aload_n 0, 1) := by decide +kernel
theorem dX10_furrowIs_67 : decode cX10_furrowIs 67 = .ok (.iload_n 1, 1) := by decide +kernel
theorem dX10_furrowIs_68 : decode cX10_furrowIs 68 = .ok (.invokevirtual 108, 3) := by decide +kernel
theorem dX10_furrowIs_71 : decode cX10_furrowIs 71 = .ok (.ifCond .eq 7, 3) := by decide +kernel
theorem dX10_furrowIs_74 : decode cX10_furrowIs 74 = .ok (.iconst 1, 1) := by decide +kernel
theorem dX10_furrowIs_75 : decode cX10_furrowIs 75 = .ok (.goto 4, 3) := by decide +kernel
theorem dX10_furrowIs_78 : decode cX10_furrowIs 78 = .ok (.iconst 0, 1) := by decide +kernel
theorem dX10_furrowIs_79 : decode cX10_furrowIs 79 = .ok (.ireturn, 1) := by decide +kernel
theorem dX10_become_0 : decode cX10_become 0 = .ok (.aload_n 0, 1) := by decide +kernel
theorem dX10_become_1 : decode cX10_become 1 = .ok (.iload_n 1, 1) := by decide +kernel
theorem dX10_become_2 : decode cX10_become 2 = .ok (.invokevirtual 102, 3) := by decide +kernel
theorem dX10_become_5 : decode cX10_become 5 = .ok (.ifCond .eq 10, 3) := by decide +kernel
theorem dX10_become_8 : decode cX10_become 8 = .ok (.iload_n 2, 1) := by decide +kernel
theorem dX10_become_9 : decode cX10_become 9 = .ok (.invokestatic 88, 3) := by decide +kernel
theorem dX10_become_12 : decode cX10_become 12 = .ok (.ifCond .ne 10, 3) := by decide +kernel
theorem dX10_become_15 : decode cX10_become 15 = .ok (.aload_n 0, 1) := by decide +kernel
theorem dX10_become_16 : decode cX10_become 16 = .ok (.ldc 94, 2) := by decide +kernel
theorem dX10_become_18 : decode cX10_become 18 = .ok (.invokevirtual 95, 3) := by decide +kernel
theorem dX10_become_21 : decode cX10_become 21 = .ok (.ireturn, 1) := by decide +kernel
theorem dX10_become_22 : decode cX10_become 22 = .ok (.aload_n 0, 1) := by decide +kernel
theorem dX10_become_23 : decode cX10_become 23 = .ok (.iload_n 1, 1) := by decide +kernel
theorem dX10_become_24 : decode cX10_become 24 = .ok (.iconst 1, 1) := by decide +kernel
theorem dX10_become_25 : decode cX10_become 25 = .ok (.iload_n 2, 1) := by decide +kernel
theorem dX10_become_26 : decode cX10_become 26 = .ok (.bipush 10, 2) := by decide +kernel
theorem dX10_become_28 : decode cX10_become 28 = .ok (.irem, 1) := by decide +kernel
theorem dX10_become_29 : decode cX10_become 29 = .ok (.invokevirtual 84, 3) := by decide +kernel
theorem dX10_become_32 : decode cX10_become 32 = .ok (.aload_n 0, 1) := by decide +kernel
theorem dX10_become_33 : decode cX10_become 33 = .ok (.bipush 6, 2) := by decide +kernel
theorem dX10_become_35 : decode cX10_become 35 = .ok (.bipush 7, 2) := by decide +kernel
theorem dX10_become_37 : decode cX10_become 37 = .ok (.iload_n 1, 1) := by decide +kernel
theorem dX10_become_38 : decode cX10_become 38 = .ok (.imul, 1) := by decide +kernel
theorem dX10_become_39 : decode cX10_become 39 = .ok (.iadd, 1) := by decide +kernel
theorem dX10_become_40 : decode cX10_become 40 = .ok (.iload_n 2, 1) := by decide +kernel
theorem dX10_become_41 : decode cX10_become 41 = .ok (.bipush 10, 2) := by decide +kernel
theorem dX10_become_43 : decode cX10_become 43 = .ok (.idiv, 1) := by decide +kernel
theorem dX10_become_44 : decode cX10_become 44 = .ok (.invokevirtual 111, 3) := by decide +kernel
theorem dX10_become_47 : decode cX10_become 47 = .ok (.ireturn, 1) := by decide +kernel
theorem dX10_as_0 : decode cX10_as 0 = .ok (.aload_n 0, 1) := by decide +kernel
theorem dX10_as_1 : decode cX10_as 1 = .ok (.iload_n 1, 1) := by decide +kernel
theorem dX10_as_2 : decode cX10_as 2 = .ok (.invokevirtual 102, 3) := by decide +kernel
theorem dX10_as_5 : decode cX10_as 5 = .ok (.ifCond .eq 13, 3) := by decide +kernel
theorem dX10_as_8 : decode cX10_as 8 = .ok (.iload_n 2, 1) := by decide +kernel
theorem dX10_as_9 : decode cX10_as 9 = .ok (.iconst 0, 1) := by decide +kernel
theorem dX10_as_10 : decode cX10_as 10 = .ok (.bipush 6, 2) := by decide +kernel
theorem dX10_as_12 : decode cX10_as 12 = .ok (.invokestatic 54, 3) := by decide +kernel
theorem dX10_as_15 : decode cX10_as 15 = .ok (.ifCond .ne 10, 3) := by decide +kernel
theorem dX10_as_18 : decode cX10_as 18 = .ok (.aload_n 0, 1) := by decide +kernel
theorem dX10_as_19 : decode cX10_as 19 = .ok (.ldc 94, 2) := by decide +kernel
theorem dX10_as_21 : decode cX10_as 21 = .ok (.invokevirtual 95, 3) := by decide +kernel
theorem dX10_as_24 : decode cX10_as 24 = .ok (.ireturn, 1) := by decide +kernel
theorem dX10_as_25 : decode cX10_as 25 = .ok (.aload_n 0, 1) := by decide +kernel
theorem dX10_as_26 : decode cX10_as 26 = .ok (.iload_n 1, 1) := by decide +kernel
theorem dX10_as_27 : decode cX10_as 27 = .ok (.iconst 0, 1) := by decide +kernel
theorem dX10_as_28 : decode cX10_as 28 = .ok (.invokevirtual 58, 3) := by decide +kernel
theorem dX10_as_31 : decode cX10_as 31 = .ok (.istore_n 3, 1) := by decide +kernel
theorem dX10_as_32 : decode cX10_as 32 = .ok (.iload_n 2, 1) := by decide +kernel
theorem dX10_as_33 : decode cX10_as 33 = .ok (.ifCond .eq 28, 3) := by decide +kernel
theorem dX10_as_36 : decode cX10_as 36 = .ok (.iload_n 2, 1) := by decide +kernel
theorem dX10_as_37 : decode cX10_as 37 = .ok (.iload_n 3, 1) := by decide +kernel
theorem dX10_as_38 : decode cX10_as 38 = .ok (.if_icmp .eq 23, 3) := by decide +kernel
theorem dX10_as_41 : decode cX10_as 41 = .ok (.iload_n 2, 1) := by decide +kernel
theorem dX10_as_42 : decode cX10_as 42 = .ok (.iconst 1, 1) := by decide +kernel
theorem dX10_as_43 : decode cX10_as 43 = .ok (.if_icmp .ne 8, 3) := by decide +kernel
theorem dX10_as_46 : decode cX10_as 46 = .ok (.iload_n 3, 1) := by decide +kernel
theorem dX10_as_47 : decode cX10_as 47 = .ok (.iconst 4, 1) := by decide +kernel
theorem dX10_as_48 : decode cX10_as 48 = .ok (.if_icmp .eq 13, 3) := by decide +kernel
theorem dX10_as_51 : decode cX10_as 51 = .ok (.iload_n 2, 1) := by decide +kernel
theorem dX10_as_52 : decode cX10_as 52 = .ok (.iconst 2, 1) := by decide +kernel
theorem dX10_as_53 : decode cX10_as 53 = .ok (.if_icmp .ne 12, 3) := by decide +kernel
theorem dX10_as_56 : decode cX10_as 56 = .ok (.iload_n 3, 1) := by decide +kernel
theorem dX10_as_57 : decode cX10_as 57 = .ok (.iconst 5, 1) := by decide +kernel
theorem dX10_as_58 : decode cX10_as 58 = .ok (.if_icmp .ne 7, 3) := by decide +kernel
theorem dX10_as_61 : decode cX10_as 61 = .ok (.iconst 1, 1) := by decide +kernel
theorem dX10_as_62 : decode cX10_as 62 = .ok (.goto 4, 3) := by decide +kernel
theorem dX10_as_65 : decode cX10_as 65 = .ok (.iconst 0, 1) := by decide +kernel
theorem dX10_as_66 : decode cX10_as 66 = .ok (.istore 4, 2) := by decide +kernel
theorem dX10_as_68 : decode cX10_as 68 = .ok (.iload 4, 2) := by decide +kernel
theorem dX10_as_70 : decode cX10_as 70 = .ok (.ifCond .eq 12, 3) := by decide +kernel
theorem dX10_as_73 : decode cX10_as 73 = .ok (.aload_n 0, 1) := by decide +kernel
theorem dX10_as_74 : decode cX10_as 74 = .ok (.iload_n 1, 1) := by decide +kernel
theorem dX10_as_75 : decode cX10_as 75 = .ok (.iconst 1, 1) := by decide +kernel
theorem dX10_as_76 : decode cX10_as 76 = .ok (.invokevirtual 58, 3) := by decide +kernel
theorem dX10_as_79 : decode cX10_as 79 = .ok (.goto 9, 3) := by decide +kernel
theorem dX10_as_82 : decode cX10_as 82 = .ok (.aload_n 0, 1) := by decide +kernel
theorem dX10_as_83 : decode cX10_as 83 = .ok (.ldc 114, 2) := by decide +kernel
theorem dX10_as_85 : decode cX10_as 85 = .ok (.invokevirtual 95, 3) := by decide +kernel
theorem dX10_as_88 : decode cX10_as 88 = .ok (.ireturn, 1) := by decide +kernel
theorem dX10_answers_0 : decode cX10_answers 0 = .ok (.aload_n 0, 1) := by decide +kernel
theorem dX10_answers_1 : decode cX10_answers 1 = .ok (.iload_n 1, 1) := by decide +kernel
theorem dX10_answers_2 : decode cX10_answers 2 = .ok (.invokevirtual 102, 3) := by decide +kernel
theorem dX10_answers_5 : decode cX10_answers 5 = .ok (.ifCond .eq 16, 3) := by decide +kernel
theorem dX10_answers_8 : decode cX10_answers 8 = .ok (.aload_n 0, 1) := by decide +kernel
theorem dX10_answers_9 : decode cX10_answers 9 = .ok (.iload_n 2, 1) := by decide +kernel
theorem dX10_answers_10 : decode cX10_answers 10 = .ok (.invokevirtual 102, 3) := by decide +kernel
theorem dX10_answers_13 : decode cX10_answers 13 = .ok (.ifCond .eq 8, 3) := by decide +kernel
theorem dX10_answers_16 : decode cX10_answers 16 = .ok (.iload_n 1, 1) := by decide +kernel
theorem dX10_answers_17 : decode cX10_answers 17 = .ok (.iload_n 2, 1) := by decide +kernel
theorem dX10_answers_18 : decode cX10_answers 18 = .ok (.if_icmp .ne 10, 3) := by decide +kernel
theorem dX10_answers_21 : decode cX10_answers 21 = .ok (.aload_n 0, 1) := by decide +kernel
theorem dX10_answers_22 : decode cX10_answers 22 = .ok (.ldc 94, 2) := by decide +kernel
theorem dX10_answers_24 : decode cX10_answers 24 = .ok (.invokevirtual 95, 3) := by decide +kernel
theorem dX10_answers_27 : decode cX10_answers 27 = .ok (.ireturn, 1) := by decide +kernel
theorem dX10_answers_28 : decode cX10_answers 28 = .ok (.aload_n 0, 1) := by decide +kernel
theorem dX10_answers_29 : decode cX10_answers 29 = .ok (.iload_n 1, 1) := by decide +kernel
theorem dX10_answers_30 : decode cX10_answers 30 = .ok (.iload_n 2, 1) := by decide +kernel
theorem dX10_answers_31 : decode cX10_answers 31 = .ok (.invokevirtual 70, 3) := by decide +kernel
theorem dX10_answers_34 : decode cX10_answers 34 = .ok (.ifCond .eq 7, 3) := by decide +kernel
theorem dX10_answers_37 : decode cX10_answers 37 = .ok (.iconst 1, 1) := by decide +kernel
theorem dX10_answers_38 : decode cX10_answers 38 = .ok (.goto 4, 3) := by decide +kernel
theorem dX10_answers_41 : decode cX10_answers 41 = .ok (.iconst 0, 1) := by decide +kernel
theorem dX10_answers_42 : decode cX10_answers 42 = .ok (.ireturn, 1) := by decide +kernel
theorem dX10_cover_0 : decode cX10_cover 0 = .ok (.aload_n 0, 1) := by decide +kernel
theorem dX10_cover_1 : decode cX10_cover 1 = .ok (.iload_n 1, 1) := by decide +kernel
theorem dX10_cover_2 : decode cX10_cover 2 = .ok (.invokevirtual 102, 3) := by decide +kernel
theorem dX10_cover_5 : decode cX10_cover 5 = .ok (.ifCond .eq 30, 3) := by decide +kernel
theorem dX10_cover_8 : decode cX10_cover 8 = .ok (.iload_n 2, 1) := by decide +kernel
theorem dX10_cover_9 : decode cX10_cover 9 = .ok (.iconst 0, 1) := by decide +kernel
theorem dX10_cover_10 : decode cX10_cover 10 = .ok (.iconst 1, 1) := by decide +kernel
theorem dX10_cover_11 : decode cX10_cover 11 = .ok (.invokestatic 54, 3) := by decide +kernel
theorem dX10_cover_14 : decode cX10_cover 14 = .ok (.ifCond .eq 21, 3) := by decide +kernel
theorem dX10_cover_17 : decode cX10_cover 17 = .ok (.aload_n 0, 1) := by decide +kernel
theorem dX10_cover_18 : decode cX10_cover 18 = .ok (.bipush 6, 2) := by decide +kernel
theorem dX10_cover_20 : decode cX10_cover 20 = .ok (.bipush 7, 2) := by decide +kernel
theorem dX10_cover_22 : decode cX10_cover 22 = .ok (.iload_n 1, 1) := by decide +kernel
theorem dX10_cover_23 : decode cX10_cover 23 = .ok (.imul, 1) := by decide +kernel
theorem dX10_cover_24 : decode cX10_cover 24 = .ok (.iadd, 1) := by decide +kernel
theorem dX10_cover_25 : decode cX10_cover 25 = .ok (.bipush 6, 2) := by decide +kernel
theorem dX10_cover_27 : decode cX10_cover 27 = .ok (.iadd, 1) := by decide +kernel
theorem dX10_cover_28 : decode cX10_cover 28 = .ok (.iload_n 2, 1) := by decide +kernel
theorem dX10_cover_29 : decode cX10_cover 29 = .ok (.invokevirtual 111, 3) := by decide +kernel
theorem dX10_cover_32 : decode cX10_cover 32 = .ok (.goto 9, 3) := by decide +kernel
theorem dX10_cover_35 : decode cX10_cover 35 = .ok (.aload_n 0, 1) := by decide +kernel
theorem dX10_cover_36 : decode cX10_cover 36 = .ok (.ldc 94, 2) := by decide +kernel
theorem dX10_cover_38 : decode cX10_cover 38 = .ok (.invokevirtual 95, 3) := by decide +kernel
theorem dX10_cover_41 : decode cX10_cover 41 = .ok (.ireturn, 1) := by decide +kernel
theorem dX10_redraw_0 : decode cX10_redraw 0 = .ok (.aload_n 0, 1) := by decide +kernel
theorem dX10_redraw_1 : decode cX10_redraw 1 = .ok (.iload_n 1, 1) := by decide +kernel
theorem dX10_redraw_2 : decode cX10_redraw 2 = .ok (.invokevirtual 102, 3) := by decide +kernel
theorem dX10_redraw_5 : decode cX10_redraw 5 = .ok (.ifCond .eq 10, 3) := by decide +kernel
theorem dX10_redraw_8 : decode cX10_redraw 8 = .ok (.iload_n 2, 1) := by decide +kernel
theorem dX10_redraw_9 : decode cX10_redraw 9 = .ok (.invokestatic 91, 3) := by decide +kernel
theorem dX10_redraw_12 : decode cX10_redraw 12 = .ok (.ifCond .ne 10, 3) := by decide +kernel
theorem dX10_redraw_15 : decode cX10_redraw 15 = .ok (.aload_n 0, 1) := by decide +kernel
theorem dX10_redraw_16 : decode cX10_redraw 16 = .ok (.ldc 94, 2) := by decide +kernel
theorem dX10_redraw_18 : decode cX10_redraw 18 = .ok (.invokevirtual 95, 3) := by decide +kernel
theorem dX10_redraw_21 : decode cX10_redraw 21 = .ok (.ireturn, 1) := by decide +kernel
theorem dX10_redraw_22 : decode cX10_redraw 22 = .ok (.bipush 10, 2) := by decide +kernel
theorem dX10_redraw_24 : decode cX10_redraw 24 = .ok (.aload_n 0, 1) := by decide +kernel
theorem dX10_redraw_25 : decode cX10_redraw 25 = .ok (.iload_n 1, 1) := by decide +kernel
theorem dX10_redraw_26 : decode cX10_redraw 26 = .ok (.iconst 2, 1) := by decide +kernel
theorem dX10_redraw_27 : decode cX10_redraw 27 = .ok (.invokevirtual 58, 3) := by decide +kernel
theorem dX10_redraw_30 : decode cX10_redraw 30 = .ok (.imul, 1) := by decide +kernel
theorem dX10_redraw_31 : decode cX10_redraw 31 = .ok (.aload_n 0, 1) := by decide +kernel
theorem dX10_redraw_32 : decode cX10_redraw 32 = .ok (.iload_n 1, 1) := by decide +kernel
theorem dX10_redraw_33 : decode cX10_redraw 33 = .ok (.iconst 3, 1) := by decide +kernel
theorem dX10_redraw_34 : decode cX10_redraw 34 = .ok (.invokevirtual 58, 3) := by decide +kernel
theorem dX10_redraw_37 : decode cX10_redraw 37 = .ok (.iadd, 1) := by decide +kernel
theorem dX10_redraw_38 : decode cX10_redraw 38 = .ok (.istore_n 3, 1) := by decide +kernel
theorem dX10_redraw_39 : decode cX10_redraw 39 = .ok (.aload_n 0, 1) := by decide +kernel
theorem dX10_redraw_40 : decode cX10_redraw 40 = .ok (.iload_n 1, 1) := by decide +kernel
theorem dX10_redraw_41 : decode cX10_redraw 41 = .ok (.iconst 2, 1) := by decide +kernel
theorem dX10_redraw_42 : decode cX10_redraw 42 = .ok (.iload_n 2, 1) := by decide +kernel
theorem dX10_redraw_43 : decode cX10_redraw 43 = .ok (.bipush 10, 2) := by decide +kernel
theorem dX10_redraw_45 : decode cX10_redraw 45 = .ok (.idiv, 1) := by decide +kernel
theorem dX10_redraw_46 : decode cX10_redraw 46 = .ok (.invokevirtual 84, 3) := by decide +kernel
theorem dX10_redraw_49 : decode cX10_redraw 49 = .ok (.aload_n 0, 1) := by decide +kernel
theorem dX10_redraw_50 : decode cX10_redraw 50 = .ok (.iload_n 1, 1) := by decide +kernel
theorem dX10_redraw_51 : decode cX10_redraw 51 = .ok (.iconst 3, 1) := by decide +kernel
theorem dX10_redraw_52 : decode cX10_redraw 52 = .ok (.iload_n 2, 1) := by decide +kernel
theorem dX10_redraw_53 : decode cX10_redraw 53 = .ok (.bipush 10, 2) := by decide +kernel
theorem dX10_redraw_55 : decode cX10_redraw 55 = .ok (.irem, 1) := by decide +kernel
theorem dX10_redraw_56 : decode cX10_redraw 56 = .ok (.invokevirtual 84, 3) := by decide +kernel
theorem dX10_redraw_59 : decode cX10_redraw 59 = .ok (.iload_n 3, 1) := by decide +kernel
theorem dX10_redraw_60 : decode cX10_redraw 60 = .ok (.ireturn, 1) := by decide +kernel
theorem dX10_patience_0 : decode cX10_patience 0 = .ok (.iload_n 1, 1) := by decide +kernel
theorem dX10_patience_1 : decode cX10_patience 1 = .ok (.iconst 1, 1) := by decide +kernel
theorem dX10_patience_2 : decode cX10_patience 2 = .ok (.bipush 20, 2) := by decide +kernel
theorem dX10_patience_4 : decode cX10_patience 4 = .ok (.invokestatic 54, 3) := by decide +kernel
theorem dX10_patience_7 : decode cX10_patience 7 = .ok (.ifCond .eq 12, 3) := by decide +kernel
theorem dX10_patience_10 : decode cX10_patience 10 = .ok (.aload_n 0, 1) := by decide +kernel
theorem dX10_patience_11 : decode cX10_patience 11 = .ok (.iconst 3, 1) := by decide +kernel
theorem dX10_patience_12 : decode cX10_patience 12 = .ok (.iload_n 1, 1) := by decide +kernel
theorem dX10_patience_13 : decode cX10_patience 13 = .ok (.invokevirtual 111, 3) := by decide +kernel
theorem dX10_patience_16 : decode cX10_patience 16 = .ok (.goto 9, 3) := by decide +kernel
theorem dX10_patience_19 : decode cX10_patience 19 = .ok (.aload_n 0, 1) := by decide +kernel
theorem dX10_patience_20 : decode cX10_patience 20 = .ok (.ldc 94, 2) := by decide +kernel
theorem dX10_patience_22 : decode cX10_patience 22 = .ok (.invokevirtual 95, 3) := by decide +kernel
theorem dX10_patience_25 : decode cX10_patience 25 = .ok (.ireturn, 1) := by decide +kernel
theorem dX10_feed_0 : decode cX10_feed 0 = .ok (.iload_n 3, 1) := by decide +kernel
theorem dX10_feed_1 : decode cX10_feed 1 = .ok (.iconst 1, 1) := by decide +kernel
theorem dX10_feed_2 : decode cX10_feed 2 = .ok (.bipush 8, 2) := by decide +kernel
theorem dX10_feed_4 : decode cX10_feed 4 = .ok (.invokestatic 54, 3) := by decide +kernel
theorem dX10_feed_7 : decode cX10_feed 7 = .ok (.ifCond .ne 10, 3) := by decide +kernel
theorem dX10_feed_10 : decode cX10_feed 10 = .ok (.aload_n 0, 1) := by decide +kernel
theorem dX10_feed_11 : decode cX10_feed 11 = .ok (.ldc 94, 2) := by decide +kernel
theorem dX10_feed_13 : decode cX10_feed 13 = .ok (.invokevirtual 95, 3) := by decide +kernel
theorem dX10_feed_16 : decode cX10_feed 16 = .ok (.ireturn, 1) := by decide +kernel
theorem dX10_feed_17 : decode cX10_feed 17 = .ok (.aload_n 0, 1) := by decide +kernel
theorem dX10_feed_18 : decode cX10_feed 18 = .ok (.getfield 9, 3) := by decide +kernel
theorem dX10_feed_21 : decode cX10_feed 21 = .ok (.iconst 4, 1) := by decide +kernel
theorem dX10_feed_22 : decode cX10_feed 22 = .ok (.iaload, 1) := by decide +kernel
theorem dX10_feed_23 : decode cX10_feed 23 = .ok (.iload_n 3, 1) := by decide +kernel
theorem dX10_feed_24 : decode cX10_feed 24 = .ok (.iadd, 1) := by decide +kernel
theorem dX10_feed_25 : decode cX10_feed 25 = .ok (.bipush 60, 2) := by decide +kernel
theorem dX10_feed_27 : decode cX10_feed 27 = .ok (.if_icmp .le 10, 3) := by decide +kernel
theorem dX10_feed_30 : decode cX10_feed 30 = .ok (.aload_n 0, 1) := by decide +kernel
theorem dX10_feed_31 : decode cX10_feed 31 = .ok (.ldc 98, 2) := by decide +kernel
theorem dX10_feed_33 : decode cX10_feed 33 = .ok (.invokevirtual 95, 3) := by decide +kernel
theorem dX10_feed_36 : decode cX10_feed 36 = .ok (.ireturn, 1) := by decide +kernel
theorem dX10_feed_37 : decode cX10_feed 37 = .ok (.iconst 0, 1) := by decide +kernel
theorem dX10_feed_38 : decode cX10_feed 38 = .ok (.istore 4, 2) := by decide +kernel
theorem dX10_feed_40 : decode cX10_feed 40 = .ok (.iload 4, 2) := by decide +kernel
theorem dX10_feed_42 : decode cX10_feed 42 = .ok (.iload_n 3, 1) := by decide +kernel
theorem dX10_feed_43 : decode cX10_feed 43 = .ok (.if_icmp .ge 45, 3) := by decide +kernel
theorem dX10_feed_46 : decode cX10_feed 46 = .ok (.aload_n 0, 1) := by decide +kernel
theorem dX10_feed_47 : decode cX10_feed 47 = .ok (.getfield 9, 3) := by decide +kernel
theorem dX10_feed_50 : decode cX10_feed 50 = .ok (.bipush 90, 2) := by decide +kernel
theorem dX10_feed_52 : decode cX10_feed 52 = .ok (.aload_n 0, 1) := by decide +kernel
theorem dX10_feed_53 : decode cX10_feed 53 = .ok (.getfield 9, 3) := by decide +kernel
theorem dX10_feed_56 : decode cX10_feed 56 = .ok (.iconst 4, 1) := by decide +kernel
theorem dX10_feed_57 : decode cX10_feed 57 = .ok (.iaload, 1) := by decide +kernel
theorem dX10_feed_58 : decode cX10_feed 58 = .ok (.iadd, 1) := by decide +kernel
theorem dX10_feed_59 : decode cX10_feed 59 = .ok (.lload_n 1, 1) := by decide +kernel
theorem dX10_feed_60 : decode cX10_feed 60 = .ok (.bipush 8, 2) := by decide +kernel
theorem dX10_feed_62 : decode cX10_feed 62 = .ok (.iload 4, 2) := by decide +kernel
theorem dX10_feed_64 : decode cX10_feed 64 = .ok (.imul, 1) := by decide +kernel
theorem dX10_feed_65 : decode cX10_feed 65 = .ok (.lshr, 1) := by decide +kernel
theorem dX10_feed_66 : decode cX10_feed 66 = .ok (.ldc2_w 115, 3) := by decide +kernel
theorem dX10_feed_69 : decode cX10_feed 69 = .ok (.land, 1) := by decide +kernel
theorem dX10_feed_70 : decode cX10_feed 70 = .ok (.l2i, 1) := by decide +kernel
theorem dX10_feed_71 : decode cX10_feed 71 = .ok (.iastore, 1) := by decide +kernel
theorem dX10_feed_72 : decode cX10_feed 72 = .ok (.aload_n 0, 1) := by decide +kernel
theorem dX10_feed_73 : decode cX10_feed 73 = .ok (.getfield 9, 3) := by decide +kernel
theorem dX10_feed_76 : decode cX10_feed 76 = .ok (.iconst 4, 1) := by decide +kernel
theorem dX10_feed_77 : decode cX10_feed 77 = .ok (.dup2, 1) := by decide +kernel
theorem dX10_feed_78 : decode cX10_feed 78 = .ok (.iaload, 1) := by decide +kernel
theorem dX10_feed_79 : decode cX10_feed 79 = .ok (.iconst 1, 1) := by decide +kernel
theorem dX10_feed_80 : decode cX10_feed 80 = .ok (.iadd, 1) := by decide +kernel
theorem dX10_feed_81 : decode cX10_feed 81 = .ok (.iastore, 1) := by decide +kernel
theorem dX10_feed_82 : decode cX10_feed 82 = .ok (.iinc 4 1, 3) := by decide +kernel
theorem dX10_feed_85 : decode cX10_feed 85 = .ok (.goto (-45), 3) := by decide +kernel
theorem dX10_feed_88 : decode cX10_feed 88 = .ok (.aload_n 0, 1) := by decide +kernel
theorem dX10_feed_89 : decode cX10_feed 89 = .ok (.getfield 9, 3) := by decide +kernel
theorem dX10_feed_92 : decode cX10_feed 92 = .ok (.iconst 4, 1) := by decide +kernel
theorem dX10_feed_93 : decode cX10_feed 93 = .ok (.iaload, 1) := by decide +kernel
theorem dX10_feed_94 : decode cX10_feed 94 = .ok (.ireturn, 1) := by decide +kernel
theorem dX10_look_0 : decode cX10_look 0 = .ok (.aload_n 0, 1) := by decide +kernel
theorem dX10_look_1 : decode cX10_look 1 = .ok (.getfield 117, 3) := by decide +kernel
theorem dX10_look_4 : decode cX10_look 4 = .ok (.aload_n 0, 1) := by decide +kernel
theorem dX10_look_5 : decode cX10_look 5 = .ok (.getfield 9, 3) := by decide +kernel
theorem dX10_look_8 : decode cX10_look 8 = .ok (.iconst 4, 1) := by decide +kernel
theorem dX10_look_9 : decode cX10_look 9 = .ok (.iaload, 1) := by decide +kernel
theorem dX10_look_10 : decode cX10_look 10 = .ok (.if_icmp .ge 18, 3) := by decide +kernel
theorem dX10_look_13 : decode cX10_look 13 = .ok (.aload_n 0, 1) := by decide +kernel
theorem dX10_look_14 : decode cX10_look 14 = .ok (.getfield 9, 3) := by decide +kernel
theorem dX10_look_17 : decode cX10_look 17 = .ok (.bipush 90, 2) := by decide +kernel
theorem dX10_look_19 : decode cX10_look 19 = .ok (.aload_n 0, 1) := by decide +kernel
theorem dX10_look_20 : decode cX10_look 20 = .ok (.getfield 117, 3) := by decide +kernel
theorem dX10_look_23 : decode cX10_look 23 = .ok (.iadd, 1) := by decide +kernel
theorem dX10_look_24 : decode cX10_look 24 = .ok (.iaload, 1) := by decide +kernel
theorem dX10_look_25 : decode cX10_look 25 = .ok (.goto 4, 3) := by decide +kernel
theorem dX10_look_28 : decode cX10_look 28 = .ok (.iconst (-1), 1) := by decide +kernel
theorem dX10_look_29 : decode cX10_look 29 = .ok (.ireturn, 1) := by decide +kernel
theorem dX10_step_0 : decode cX10_step 0 = .ok (.aload_n 0, 1) := by decide +kernel
theorem dX10_step_1 : decode cX10_step 1 = .ok (.getfield 121, 3) := by decide +kernel
theorem dX10_step_4 : decode cX10_step 4 = .ok (.aload_n 0, 1) := by decide +kernel
theorem dX10_step_5 : decode cX10_step 5 = .ok (.getfield 31, 3) := by decide +kernel
theorem dX10_step_8 : decode cX10_step 8 = .ok (.arraylength, 1) := by decide +kernel
theorem dX10_step_9 : decode cX10_step 9 = .ok (.if_icmp .ge 33, 3) := by decide +kernel
theorem dX10_step_12 : decode cX10_step 12 = .ok (.aload_n 0, 1) := by decide +kernel
theorem dX10_step_13 : decode cX10_step 13 = .ok (.getfield 31, 3) := by decide +kernel
theorem dX10_step_16 : decode cX10_step 16 = .ok (.aload_n 0, 1) := by decide +kernel
theorem dX10_step_17 : decode cX10_step 17 = .ok (.getfield 121, 3) := by decide +kernel
theorem dX10_step_20 : decode cX10_step 20 = .ok (.iload_n 1, 1) := by decide +kernel
theorem dX10_step_21 : decode cX10_step 21 = .ok (.iastore, 1) := by decide +kernel
theorem dX10_step_22 : decode cX10_step 22 = .ok (.aload_n 0, 1) := by decide +kernel
theorem dX10_step_23 : decode cX10_step 23 = .ok (.getfield 34, 3) := by decide +kernel
theorem dX10_step_26 : decode cX10_step 26 = .ok (.aload_n 0, 1) := by decide +kernel
theorem dX10_step_27 : decode cX10_step 27 = .ok (.getfield 121, 3) := by decide +kernel
theorem dX10_step_30 : decode cX10_step 30 = .ok (.iload_n 2, 1) := by decide +kernel
theorem dX10_step_31 : decode cX10_step 31 = .ok (.iastore, 1) := by decide +kernel
theorem dX10_step_32 : decode cX10_step 32 = .ok (.aload_n 0, 1) := by decide +kernel
theorem dX10_step_33 : decode cX10_step 33 = .ok (.dup, 1) := by decide +kernel
theorem dX10_step_34 : decode cX10_step 34 = .ok (.getfield 121, 3) := by decide +kernel
theorem dX10_step_37 : decode cX10_step 37 = .ok (.iconst 1, 1) := by decide +kernel
theorem dX10_step_38 : decode cX10_step 38 = .ok (.iadd, 1) := by decide +kernel
theorem dX10_step_39 : decode cX10_step 39 = .ok (.putfield 121, 3) := by decide +kernel
theorem dX10_step_42 : decode cX10_step 42 = .ok (.return_, 1) := by decide +kernel
theorem dX10_nameOf_0 : decode cX10_nameOf 0 = .ok (.iload_n 1, 1) := by decide +kernel
theorem dX10_nameOf_1 : decode cX10_nameOf 1 = .ok (.tableswitch 130 97 108 #[63, 63, 96, 96, 130, 130, 130, 130, 130, 130, 63, 96], 63) := by decide +kernel
theorem dX10_nameOf_64 : decode cX10_nameOf 64 = .ok (.aload_n 0, 1) := by decide +kernel
theorem dX10_nameOf_65 : decode cX10_nameOf 65 = .ok (.getfield 124, 3) := by decide +kernel
theorem dX10_nameOf_68 : decode cX10_nameOf 68 = .ok (.ifCond .eq 7, 3) := by decide +kernel
theorem dX10_nameOf_71 : decode cX10_nameOf 71 = .ok (.iconst (-1), 1) := by decide +kernel
theorem dX10_nameOf_72 : decode cX10_nameOf 72 = .ok (.goto 24, 3) := by decide +kernel
theorem dX10_nameOf_75 : decode cX10_nameOf 75 = .ok (.iload_n 1, 1) := by decide +kernel
theorem dX10_nameOf_76 : decode cX10_nameOf 76 = .ok (.bipush 97, 2) := by decide +kernel
theorem dX10_nameOf_78 : decode cX10_nameOf 78 = .ok (.if_icmp .ne 7, 3) := by decide +kernel
theorem dX10_nameOf_81 : decode cX10_nameOf 81 = .ok (.iconst 0, 1) := by decide +kernel
theorem dX10_nameOf_82 : decode cX10_nameOf 82 = .ok (.goto 14, 3) := by decide +kernel
theorem dX10_nameOf_85 : decode cX10_nameOf 85 = .ok (.iload_n 1, 1) := by decide +kernel
theorem dX10_nameOf_86 : decode cX10_nameOf 86 = .ok (.bipush 98, 2) := by decide +kernel
theorem dX10_nameOf_88 : decode cX10_nameOf 88 = .ok (.if_icmp .ne 7, 3) := by decide +kernel
theorem dX10_nameOf_91 : decode cX10_nameOf 91 = .ok (.iconst 1, 1) := by decide +kernel
theorem dX10_nameOf_92 : decode cX10_nameOf 92 = .ok (.goto 4, 3) := by decide +kernel
theorem dX10_nameOf_95 : decode cX10_nameOf 95 = .ok (.iconst 2, 1) := by decide +kernel
theorem dX10_nameOf_96 : decode cX10_nameOf 96 = .ok (.ireturn, 1) := by decide +kernel
theorem dX10_nameOf_97 : decode cX10_nameOf 97 = .ok (.aload_n 0, 1) := by decide +kernel
theorem dX10_nameOf_98 : decode cX10_nameOf 98 = .ok (.getfield 124, 3) := by decide +kernel
theorem dX10_nameOf_101 : decode cX10_nameOf 101 = .ok (.iconst 1, 1) := by decide +kernel
theorem dX10_nameOf_102 : decode cX10_nameOf 102 = .ok (.if_icmp .eq 7, 3) := by decide +kernel
theorem dX10_nameOf_105 : decode cX10_nameOf 105 = .ok (.iconst (-1), 1) := by decide +kernel
theorem dX10_nameOf_106 : decode cX10_nameOf 106 = .ok (.goto 24, 3) := by decide +kernel
theorem dX10_nameOf_109 : decode cX10_nameOf 109 = .ok (.iload_n 1, 1) := by decide +kernel
theorem dX10_nameOf_110 : decode cX10_nameOf 110 = .ok (.bipush 108, 2) := by decide +kernel
theorem dX10_nameOf_112 : decode cX10_nameOf 112 = .ok (.if_icmp .ne 7, 3) := by decide +kernel
theorem dX10_nameOf_115 : decode cX10_nameOf 115 = .ok (.iconst 0, 1) := by decide +kernel
theorem dX10_nameOf_116 : decode cX10_nameOf 116 = .ok (.goto 14, 3) := by decide +kernel
theorem dX10_nameOf_119 : decode cX10_nameOf 119 = .ok (.iload_n 1, 1) := by decide +kernel
theorem dX10_nameOf_120 : decode cX10_nameOf 120 = .ok (.bipush 99, 2) := by decide +kernel
theorem dX10_nameOf_122 : decode cX10_nameOf 122 = .ok (.if_icmp .ne 7, 3) := by decide +kernel
theorem dX10_nameOf_125 : decode cX10_nameOf 125 = .ok (.iconst 1, 1) := by decide +kernel
theorem dX10_nameOf_126 : decode cX10_nameOf 126 = .ok (.goto 4, 3) := by decide +kernel
theorem dX10_nameOf_129 : decode cX10_nameOf 129 = .ok (.iconst 2, 1) := by decide +kernel
theorem dX10_nameOf_130 : decode cX10_nameOf 130 = .ok (.ireturn, 1) := by decide +kernel
theorem dX10_nameOf_131 : decode cX10_nameOf 131 = .ok (.iconst (-1), 1) := by decide +kernel
theorem dX10_nameOf_132 : decode cX10_nameOf 132 = .ok (.ireturn, 1) := by decide +kernel
theorem dX10_number_0 : decode cX10_number 0 = .ok (.iconst 0, 1) := by decide +kernel
theorem dX10_number_1 : decode cX10_number 1 = .ok (.istore_n 1, 1) := by decide +kernel
theorem dX10_number_2 : decode cX10_number 2 = .ok (.iconst 0, 1) := by decide +kernel
theorem dX10_number_3 : decode cX10_number 3 = .ok (.istore_n 2, 1) := by decide +kernel
theorem dX10_number_4 : decode cX10_number 4 = .ok (.iload_n 2, 1) := by decide +kernel
theorem dX10_number_5 : decode cX10_number 5 = .ok (.iconst 4, 1) := by decide +kernel
theorem dX10_number_6 : decode cX10_number 6 = .ok (.if_icmp .ge 46, 3) := by decide +kernel
theorem dX10_number_9 : decode cX10_number 9 = .ok (.aload_n 0, 1) := by decide +kernel
theorem dX10_number_10 : decode cX10_number 10 = .ok (.invokevirtual 127, 3) := by decide +kernel
theorem dX10_number_13 : decode cX10_number 13 = .ok (.bipush 48, 2) := by decide +kernel
theorem dX10_number_15 : decode cX10_number 15 = .ok (.bipush 57, 2) := by decide +kernel
theorem dX10_number_17 : decode cX10_number 17 = .ok (.invokestatic 54, 3) := by decide +kernel
theorem dX10_number_20 : decode cX10_number 20 = .ok (.ifCond .eq 32, 3) := by decide +kernel
theorem dX10_number_23 : decode cX10_number 23 = .ok (.bipush 10, 2) := by decide +kernel
theorem dX10_number_25 : decode cX10_number 25 = .ok (.iload_n 1, 1) := by decide +kernel
theorem dX10_number_26 : decode cX10_number 26 = .ok (.imul, 1) := by decide +kernel
theorem dX10_number_27 : decode cX10_number 27 = .ok (.aload_n 0, 1) := by decide +kernel
theorem dX10_number_28 : decode cX10_number 28 = .ok (.invokevirtual 127, 3) := by decide +kernel
theorem dX10_number_31 : decode cX10_number 31 = .ok (.iadd, 1) := by decide +kernel
theorem dX10_number_32 : decode cX10_number 32 = .ok (.bipush 48, 2) := by decide +kernel
theorem dX10_number_34 : decode cX10_number 34 = .ok (.isub, 1) := by decide +kernel
theorem dX10_number_35 : decode cX10_number 35 = .ok (.istore_n 1, 1) := by decide +kernel
theorem dX10_number_36 : decode cX10_number 36 = .ok (.aload_n 0, 1) := by decide +kernel
theorem dX10_number_37 : decode cX10_number 37 = .ok (.dup, 1) := by decide +kernel
theorem dX10_number_38 : decode cX10_number 38 = .ok (.getfield 117, 3) := by decide +kernel
theorem dX10_number_41 : decode cX10_number 41 = .ok (.iconst 1, 1) := by decide +kernel
theorem dX10_number_42 : decode cX10_number 42 = .ok (.iadd, 1) := by decide +kernel
theorem dX10_number_43 : decode cX10_number 43 = .ok (.putfield 117, 3) := by decide +kernel
theorem dX10_number_46 : decode cX10_number 46 = .ok (.iinc 2 1, 3) := by decide +kernel
theorem dX10_number_49 : decode cX10_number 49 = .ok (.goto (-45), 3) := by decide +kernel
theorem dX10_number_52 : decode cX10_number 52 = .ok (.aload_n 0, 1) := by decide +kernel
theorem dX10_number_53 : decode cX10_number 53 = .ok (.iload_n 2, 1) := by decide +kernel
theorem dX10_number_54 : decode cX10_number 54 = .ok (.ifCond .ne 7, 3) := by decide +kernel
theorem dX10_number_57 : decode cX10_number 57 = .ok (.iconst 1, 1) := by decide +kernel
theorem dX10_number_58 : decode cX10_number 58 = .ok (.goto 4, 3) := by decide +kernel
theorem dX10_number_61 : decode cX10_number 61 = .ok (.iconst 0, 1) := by decide +kernel
theorem dX10_number_62 : decode cX10_number 62 = .ok (.putfield 131, 3) := by decide +kernel
theorem dX10_number_65 : decode cX10_number 65 = .ok (.aload_n 0, 1) := by decide +kernel
theorem dX10_number_66 : decode cX10_number 66 = .ok (.iconst 1, 1) := by decide +kernel
theorem dX10_number_67 : decode cX10_number 67 = .ok (.iload_n 1, 1) := by decide +kernel
theorem dX10_number_68 : decode cX10_number 68 = .ok (.invokevirtual 135, 3) := by decide +kernel
theorem dX10_number_71 : decode cX10_number 71 = .ok (.return_, 1) := by decide +kernel
theorem dX10_opens_0 : decode cX10_opens 0 = .ok (.aload_n 0, 1) := by decide +kernel
theorem dX10_opens_1 : decode cX10_opens 1 = .ok (.getfield 139, 3) := by decide +kernel
theorem dX10_opens_4 : decode cX10_opens 4 = .ok (.iconst 5, 1) := by decide +kernel
theorem dX10_opens_5 : decode cX10_opens 5 = .ok (.if_icmp .ne 9, 3) := by decide +kernel
theorem dX10_opens_8 : decode cX10_opens 8 = .ok (.aload_n 0, 1) := by decide +kernel
theorem dX10_opens_9 : decode cX10_opens 9 = .ok (.iconst 1, 1) := by decide +kernel
theorem dX10_opens_10 : decode cX10_opens 10 = .ok (.putfield 131, 3) := by decide +kernel
theorem dX10_opens_13 : decode cX10_opens 13 = .ok (.return_, 1) := by decide +kernel
theorem dX10_opens_14 : decode cX10_opens 14 = .ok (.aload_n 0, 1) := by decide +kernel
theorem dX10_opens_15 : decode cX10_opens 15 = .ok (.dup, 1) := by decide +kernel
theorem dX10_opens_16 : decode cX10_opens 16 = .ok (.getfield 139, 3) := by decide +kernel
theorem dX10_opens_19 : decode cX10_opens 19 = .ok (.iconst 1, 1) := by decide +kernel
theorem dX10_opens_20 : decode cX10_opens 20 = .ok (.iadd, 1) := by decide +kernel
theorem dX10_opens_21 : decode cX10_opens 21 = .ok (.putfield 139, 3) := by decide +kernel
theorem dX10_opens_24 : decode cX10_opens 24 = .ok (.aload_n 0, 1) := by decide +kernel
theorem dX10_opens_25 : decode cX10_opens 25 = .ok (.dup, 1) := by decide +kernel
theorem dX10_opens_26 : decode cX10_opens 26 = .ok (.getfield 117, 3) := by decide +kernel
theorem dX10_opens_29 : decode cX10_opens 29 = .ok (.iconst 1, 1) := by decide +kernel
theorem dX10_opens_30 : decode cX10_opens 30 = .ok (.iadd, 1) := by decide +kernel
theorem dX10_opens_31 : decode cX10_opens 31 = .ok (.putfield 117, 3) := by decide +kernel
theorem dX10_opens_34 : decode cX10_opens 34 = .ok (.iload_n 1, 1) := by decide +kernel
theorem dX10_opens_35 : decode cX10_opens 35 = .ok (.bipush 33, 2) := by decide +kernel
theorem dX10_opens_37 : decode cX10_opens 37 = .ok (.if_icmp .ne 16, 3) := by decide +kernel
theorem dX10_opens_40 : decode cX10_opens 40 = .ok (.aload_n 0, 1) := by decide +kernel
theorem dX10_opens_41 : decode cX10_opens 41 = .ok (.invokevirtual 142, 3) := by decide +kernel
theorem dX10_opens_44 : decode cX10_opens 44 = .ok (.aload_n 0, 1) := by decide +kernel
theorem dX10_opens_45 : decode cX10_opens 45 = .ok (.iconst 3, 1) := by decide +kernel
theorem dX10_opens_46 : decode cX10_opens 46 = .ok (.iconst 0, 1) := by decide +kernel
theorem dX10_opens_47 : decode cX10_opens 47 = .ok (.invokevirtual 135, 3) := by decide +kernel
theorem dX10_opens_50 : decode cX10_opens 50 = .ok (.goto 53, 3) := by decide +kernel
theorem dX10_opens_53 : decode cX10_opens 53 = .ok (.aload_n 0, 1) := by decide +kernel
theorem dX10_opens_54 : decode cX10_opens 54 = .ok (.invokevirtual 145, 3) := by decide +kernel
theorem dX10_opens_57 : decode cX10_opens 57 = .ok (.aload_n 0, 1) := by decide +kernel
theorem dX10_opens_58 : decode cX10_opens 58 = .ok (.aload_n 0, 1) := by decide +kernel
theorem dX10_opens_59 : decode cX10_opens 59 = .ok (.getfield 131, 3) := by decide +kernel
theorem dX10_opens_62 : decode cX10_opens 62 = .ok (.ifCond .ne 12, 3) := by decide +kernel
theorem dX10_opens_65 : decode cX10_opens 65 = .ok (.aload_n 0, 1) := by decide +kernel
theorem dX10_opens_66 : decode cX10_opens 66 = .ok (.invokevirtual 127, 3) := by decide +kernel
theorem dX10_opens_69 : decode cX10_opens 69 = .ok (.bipush 41, 2) := by decide +kernel
theorem dX10_opens_71 : decode cX10_opens 71 = .ok (.if_icmp .eq 7, 3) := by decide +kernel
theorem dX10_opens_74 : decode cX10_opens 74 = .ok (.iconst 1, 1) := by decide +kernel
theorem dX10_opens_75 : decode cX10_opens 75 = .ok (.goto 4, 3) := by decide +kernel
theorem dX10_opens_78 : decode cX10_opens 78 = .ok (.iconst 0, 1) := by decide +kernel
theorem dX10_opens_79 : decode cX10_opens 79 = .ok (.putfield 131, 3) := by decide +kernel
theorem dX10_opens_82 : decode cX10_opens 82 = .ok (.aload_n 0, 1) := by decide +kernel
theorem dX10_opens_83 : decode cX10_opens 83 = .ok (.dup, 1) := by decide +kernel
theorem dX10_opens_84 : decode cX10_opens 84 = .ok (.getfield 117, 3) := by decide +kernel
theorem dX10_opens_87 : decode cX10_opens 87 = .ok (.aload_n 0, 1) := by decide +kernel
theorem dX10_opens_88 : decode cX10_opens 88 = .ok (.getfield 131, 3) := by decide +kernel
theorem dX10_opens_91 : decode cX10_opens 91 = .ok (.ifCond .eq 7, 3) := by decide +kernel
theorem dX10_opens_94 : decode cX10_opens 94 = .ok (.iconst 0, 1) := by decide +kernel
theorem dX10_opens_95 : decode cX10_opens 95 = .ok (.goto 4, 3) := by decide +kernel
theorem dX10_opens_98 : decode cX10_opens 98 = .ok (.iconst 1, 1) := by decide +kernel
theorem dX10_opens_99 : decode cX10_opens 99 = .ok (.iadd, 1) := by decide +kernel
theorem dX10_opens_100 : decode cX10_opens 100 = .ok (.putfield 117, 3) := by decide +kernel
theorem dX10_opens_103 : decode cX10_opens 103 = .ok (.aload_n 0, 1) := by decide +kernel
theorem dX10_opens_104 : decode cX10_opens 104 = .ok (.dup, 1) := by decide +kernel
theorem dX10_opens_105 : decode cX10_opens 105 = .ok (.getfield 139, 3) := by decide +kernel
theorem dX10_opens_108 : decode cX10_opens 108 = .ok (.iconst 1, 1) := by decide +kernel
theorem dX10_opens_109 : decode cX10_opens 109 = .ok (.isub, 1) := by decide +kernel
theorem dX10_opens_110 : decode cX10_opens 110 = .ok (.putfield 139, 3) := by decide +kernel
theorem dX10_opens_113 : decode cX10_opens 113 = .ok (.return_, 1) := by decide +kernel
theorem dX10_one_0 : decode cX10_one 0 = .ok (.aload_n 0, 1) := by decide +kernel
theorem dX10_one_1 : decode cX10_one 1 = .ok (.invokevirtual 127, 3) := by decide +kernel
theorem dX10_one_4 : decode cX10_one 4 = .ok (.istore_n 1, 1) := by decide +kernel
theorem dX10_one_5 : decode cX10_one 5 = .ok (.aload_n 0, 1) := by decide +kernel
theorem dX10_one_6 : decode cX10_one 6 = .ok (.iload_n 1, 1) := by decide +kernel
theorem dX10_one_7 : decode cX10_one 7 = .ok (.invokevirtual 148, 3) := by decide +kernel
theorem dX10_one_10 : decode cX10_one 10 = .ok (.istore_n 2, 1) := by decide +kernel
theorem dX10_one_11 : decode cX10_one 11 = .ok (.iload_n 2, 1) := by decide +kernel
theorem dX10_one_12 : decode cX10_one 12 = .ok (.ifCond .lt 22, 3) := by decide +kernel
theorem dX10_one_15 : decode cX10_one 15 = .ok (.aload_n 0, 1) := by decide +kernel
theorem dX10_one_16 : decode cX10_one 16 = .ok (.dup, 1) := by decide +kernel
theorem dX10_one_17 : decode cX10_one 17 = .ok (.getfield 117, 3) := by decide +kernel
theorem dX10_one_20 : decode cX10_one 20 = .ok (.iconst 1, 1) := by decide +kernel
theorem dX10_one_21 : decode cX10_one 21 = .ok (.iadd, 1) := by decide +kernel
theorem dX10_one_22 : decode cX10_one 22 = .ok (.putfield 117, 3) := by decide +kernel
theorem dX10_one_25 : decode cX10_one 25 = .ok (.aload_n 0, 1) := by decide +kernel
theorem dX10_one_26 : decode cX10_one 26 = .ok (.iconst 2, 1) := by decide +kernel
theorem dX10_one_27 : decode cX10_one 27 = .ok (.iload_n 2, 1) := by decide +kernel
theorem dX10_one_28 : decode cX10_one 28 = .ok (.invokevirtual 135, 3) := by decide +kernel
theorem dX10_one_31 : decode cX10_one 31 = .ok (.goto 27, 3) := by decide +kernel
theorem dX10_one_34 : decode cX10_one 34 = .ok (.iload_n 1, 1) := by decide +kernel
theorem dX10_one_35 : decode cX10_one 35 = .ok (.bipush 33, 2) := by decide +kernel
theorem dX10_one_37 : decode cX10_one 37 = .ok (.if_icmp .eq 9, 3) := by decide +kernel
theorem dX10_one_40 : decode cX10_one 40 = .ok (.iload_n 1, 1) := by decide +kernel
theorem dX10_one_41 : decode cX10_one 41 = .ok (.bipush 40, 2) := by decide +kernel
theorem dX10_one_43 : decode cX10_one 43 = .ok (.if_icmp .ne 11, 3) := by decide +kernel
theorem dX10_one_46 : decode cX10_one 46 = .ok (.aload_n 0, 1) := by decide +kernel
theorem dX10_one_47 : decode cX10_one 47 = .ok (.iload_n 1, 1) := by decide +kernel
theorem dX10_one_48 : decode cX10_one 48 = .ok (.invokevirtual 151, 3) := by decide +kernel
theorem dX10_one_51 : decode cX10_one 51 = .ok (.goto 7, 3) := by decide +kernel
theorem dX10_one_54 : decode cX10_one 54 = .ok (.aload_n 0, 1) := by decide +kernel
theorem dX10_one_55 : decode cX10_one 55 = .ok (.invokevirtual 155, 3) := by decide +kernel
theorem dX10_one_58 : decode cX10_one 58 = .ok (.return_, 1) := by decide +kernel
theorem dX10_times_0 : decode cX10_times 0 = .ok (.aload_n 0, 1) := by decide +kernel
theorem dX10_times_1 : decode cX10_times 1 = .ok (.invokevirtual 142, 3) := by decide +kernel
theorem dX10_times_4 : decode cX10_times 4 = .ok (.aload_n 0, 1) := by decide +kernel
theorem dX10_times_5 : decode cX10_times 5 = .ok (.getfield 131, 3) := by decide +kernel
theorem dX10_times_8 : decode cX10_times 8 = .ok (.ifCond .ne 58, 3) := by decide +kernel
theorem dX10_times_11 : decode cX10_times 11 = .ok (.aload_n 0, 1) := by decide +kernel
theorem dX10_times_12 : decode cX10_times 12 = .ok (.invokevirtual 127, 3) := by decide +kernel
theorem dX10_times_15 : decode cX10_times 15 = .ok (.bipush 42, 2) := by decide +kernel
theorem dX10_times_17 : decode cX10_times 17 = .ok (.if_icmp .eq 21, 3) := by decide +kernel
theorem dX10_times_20 : decode cX10_times 20 = .ok (.aload_n 0, 1) := by decide +kernel
theorem dX10_times_21 : decode cX10_times 21 = .ok (.invokevirtual 127, 3) := by decide +kernel
theorem dX10_times_24 : decode cX10_times 24 = .ok (.bipush 47, 2) := by decide +kernel
theorem dX10_times_26 : decode cX10_times 26 = .ok (.if_icmp .eq 12, 3) := by decide +kernel
theorem dX10_times_29 : decode cX10_times 29 = .ok (.aload_n 0, 1) := by decide +kernel
theorem dX10_times_30 : decode cX10_times 30 = .ok (.invokevirtual 127, 3) := by decide +kernel
theorem dX10_times_33 : decode cX10_times 33 = .ok (.bipush 37, 2) := by decide +kernel
theorem dX10_times_35 : decode cX10_times 35 = .ok (.if_icmp .ne 31, 3) := by decide +kernel
theorem dX10_times_38 : decode cX10_times 38 = .ok (.aload_n 0, 1) := by decide +kernel
theorem dX10_times_39 : decode cX10_times 39 = .ok (.invokevirtual 127, 3) := by decide +kernel
theorem dX10_times_42 : decode cX10_times 42 = .ok (.istore_n 1, 1) := by decide +kernel
theorem dX10_times_43 : decode cX10_times 43 = .ok (.aload_n 0, 1) := by decide +kernel
theorem dX10_times_44 : decode cX10_times 44 = .ok (.dup, 1) := by decide +kernel
theorem dX10_times_45 : decode cX10_times 45 = .ok (.getfield 117, 3) := by decide +kernel
theorem dX10_times_48 : decode cX10_times 48 = .ok (.iconst 1, 1) := by decide +kernel
theorem dX10_times_49 : decode cX10_times 49 = .ok (.iadd, 1) := by decide +kernel
theorem dX10_times_50 : decode cX10_times 50 = .ok (.putfield 117, 3) := by decide +kernel
theorem dX10_times_53 : decode cX10_times 53 = .ok (.aload_n 0, 1) := by decide +kernel
theorem dX10_times_54 : decode cX10_times 54 = .ok (.invokevirtual 142, 3) := by decide +kernel
theorem dX10_times_57 : decode cX10_times 57 = .ok (.aload_n 0, 1) := by decide +kernel
theorem dX10_times_58 : decode cX10_times 58 = .ok (.iload_n 1, 1) := by decide +kernel
theorem dX10_times_59 : decode cX10_times 59 = .ok (.iconst 0, 1) := by decide +kernel
theorem dX10_times_60 : decode cX10_times 60 = .ok (.invokevirtual 135, 3) := by decide +kernel
theorem dX10_times_63 : decode cX10_times 63 = .ok (.goto (-59), 3) := by decide +kernel
theorem dX10_times_66 : decode cX10_times 66 = .ok (.return_, 1) := by decide +kernel
theorem dX10_sum_0 : decode cX10_sum 0 = .ok (.aload_n 0, 1) := by decide +kernel
theorem dX10_sum_1 : decode cX10_sum 1 = .ok (.invokevirtual 158, 3) := by decide +kernel
theorem dX10_sum_4 : decode cX10_sum 4 = .ok (.aload_n 0, 1) := by decide +kernel
theorem dX10_sum_5 : decode cX10_sum 5 = .ok (.getfield 131, 3) := by decide +kernel
theorem dX10_sum_8 : decode cX10_sum 8 = .ok (.ifCond .ne 49, 3) := by decide +kernel
theorem dX10_sum_11 : decode cX10_sum 11 = .ok (.aload_n 0, 1) := by decide +kernel
theorem dX10_sum_12 : decode cX10_sum 12 = .ok (.invokevirtual 127, 3) := by decide +kernel
theorem dX10_sum_15 : decode cX10_sum 15 = .ok (.bipush 43, 2) := by decide +kernel
theorem dX10_sum_17 : decode cX10_sum 17 = .ok (.if_icmp .eq 12, 3) := by decide +kernel
theorem dX10_sum_20 : decode cX10_sum 20 = .ok (.aload_n 0, 1) := by decide +kernel
theorem dX10_sum_21 : decode cX10_sum 21 = .ok (.invokevirtual 127, 3) := by decide +kernel
theorem dX10_sum_24 : decode cX10_sum 24 = .ok (.bipush 45, 2) := by decide +kernel
theorem dX10_sum_26 : decode cX10_sum 26 = .ok (.if_icmp .ne 31, 3) := by decide +kernel
theorem dX10_sum_29 : decode cX10_sum 29 = .ok (.aload_n 0, 1) := by decide +kernel
theorem dX10_sum_30 : decode cX10_sum 30 = .ok (.invokevirtual 127, 3) := by decide +kernel
theorem dX10_sum_33 : decode cX10_sum 33 = .ok (.istore_n 1, 1) := by decide +kernel
theorem dX10_sum_34 : decode cX10_sum 34 = .ok (.aload_n 0, 1) := by decide +kernel
theorem dX10_sum_35 : decode cX10_sum 35 = .ok (.dup, 1) := by decide +kernel
theorem dX10_sum_36 : decode cX10_sum 36 = .ok (.getfield 117, 3) := by decide +kernel
theorem dX10_sum_39 : decode cX10_sum 39 = .ok (.iconst 1, 1) := by decide +kernel
theorem dX10_sum_40 : decode cX10_sum 40 = .ok (.iadd, 1) := by decide +kernel
theorem dX10_sum_41 : decode cX10_sum 41 = .ok (.putfield 117, 3) := by decide +kernel
theorem dX10_sum_44 : decode cX10_sum 44 = .ok (.aload_n 0, 1) := by decide +kernel
theorem dX10_sum_45 : decode cX10_sum 45 = .ok (.invokevirtual 158, 3) := by decide +kernel
theorem dX10_sum_48 : decode cX10_sum 48 = .ok (.aload_n 0, 1) := by decide +kernel
theorem dX10_sum_49 : decode cX10_sum 49 = .ok (.iload_n 1, 1) := by decide +kernel
theorem dX10_sum_50 : decode cX10_sum 50 = .ok (.iconst 0, 1) := by decide +kernel
theorem dX10_sum_51 : decode cX10_sum 51 = .ok (.invokevirtual 135, 3) := by decide +kernel
theorem dX10_sum_54 : decode cX10_sum 54 = .ok (.goto (-50), 3) := by decide +kernel
theorem dX10_sum_57 : decode cX10_sum 57 = .ok (.return_, 1) := by decide +kernel
theorem dX10_compares_0 : decode cX10_compares 0 = .ok (.aload_n 0, 1) := by decide +kernel
theorem dX10_compares_1 : decode cX10_compares 1 = .ok (.invokevirtual 161, 3) := by decide +kernel
theorem dX10_compares_4 : decode cX10_compares 4 = .ok (.aload_n 0, 1) := by decide +kernel
theorem dX10_compares_5 : decode cX10_compares 5 = .ok (.invokevirtual 127, 3) := by decide +kernel
theorem dX10_compares_8 : decode cX10_compares 8 = .ok (.istore_n 1, 1) := by decide +kernel
theorem dX10_compares_9 : decode cX10_compares 9 = .ok (.aload_n 0, 1) := by decide +kernel
theorem dX10_compares_10 : decode cX10_compares 10 = .ok (.getfield 131, 3) := by decide +kernel
theorem dX10_compares_13 : decode cX10_compares 13 = .ok (.ifCond .ne 41, 3) := by decide +kernel
theorem dX10_compares_16 : decode cX10_compares 16 = .ok (.iload_n 1, 1) := by decide +kernel
theorem dX10_compares_17 : decode cX10_compares 17 = .ok (.bipush 60, 2) := by decide +kernel
theorem dX10_compares_19 : decode cX10_compares 19 = .ok (.if_icmp .eq 15, 3) := by decide +kernel
theorem dX10_compares_22 : decode cX10_compares 22 = .ok (.iload_n 1, 1) := by decide +kernel
theorem dX10_compares_23 : decode cX10_compares 23 = .ok (.bipush 61, 2) := by decide +kernel
theorem dX10_compares_25 : decode cX10_compares 25 = .ok (.if_icmp .eq 9, 3) := by decide +kernel
theorem dX10_compares_28 : decode cX10_compares 28 = .ok (.iload_n 1, 1) := by decide +kernel
theorem dX10_compares_29 : decode cX10_compares 29 = .ok (.bipush 62, 2) := by decide +kernel
theorem dX10_compares_31 : decode cX10_compares 31 = .ok (.if_icmp .ne 23, 3) := by decide +kernel
theorem dX10_compares_34 : decode cX10_compares 34 = .ok (.aload_n 0, 1) := by decide +kernel
theorem dX10_compares_35 : decode cX10_compares 35 = .ok (.dup, 1) := by decide +kernel
theorem dX10_compares_36 : decode cX10_compares 36 = .ok (.getfield 117, 3) := by decide +kernel
theorem dX10_compares_39 : decode cX10_compares 39 = .ok (.iconst 1, 1) := by decide +kernel
theorem dX10_compares_40 : decode cX10_compares 40 = .ok (.iadd, 1) := by decide +kernel
theorem dX10_compares_41 : decode cX10_compares 41 = .ok (.putfield 117, 3) := by decide +kernel
theorem dX10_compares_44 : decode cX10_compares 44 = .ok (.aload_n 0, 1) := by decide +kernel
theorem dX10_compares_45 : decode cX10_compares 45 = .ok (.invokevirtual 161, 3) := by decide +kernel
theorem dX10_compares_48 : decode cX10_compares 48 = .ok (.aload_n 0, 1) := by decide +kernel
theorem dX10_compares_49 : decode cX10_compares 49 = .ok (.iload_n 1, 1) := by decide +kernel
theorem dX10_compares_50 : decode cX10_compares 50 = .ok (.iconst 0, 1) := by decide +kernel
theorem dX10_compares_51 : decode cX10_compares 51 = .ok (.invokevirtual 135, 3) := by decide +kernel
theorem dX10_compares_54 : decode cX10_compares 54 = .ok (.return_, 1) := by decide +kernel
theorem dX10_all_0 : decode cX10_all 0 = .ok (.aload_n 0, 1) := by decide +kernel
theorem dX10_all_1 : decode cX10_all 1 = .ok (.invokevirtual 164, 3) := by decide +kernel
theorem dX10_all_4 : decode cX10_all 4 = .ok (.aload_n 0, 1) := by decide +kernel
theorem dX10_all_5 : decode cX10_all 5 = .ok (.getfield 131, 3) := by decide +kernel
theorem dX10_all_8 : decode cX10_all 8 = .ok (.ifCond .ne 36, 3) := by decide +kernel
theorem dX10_all_11 : decode cX10_all 11 = .ok (.aload_n 0, 1) := by decide +kernel
theorem dX10_all_12 : decode cX10_all 12 = .ok (.invokevirtual 127, 3) := by decide +kernel
theorem dX10_all_15 : decode cX10_all 15 = .ok (.bipush 38, 2) := by decide +kernel
theorem dX10_all_17 : decode cX10_all 17 = .ok (.if_icmp .ne 27, 3) := by decide +kernel
theorem dX10_all_20 : decode cX10_all 20 = .ok (.aload_n 0, 1) := by decide +kernel
theorem dX10_all_21 : decode cX10_all 21 = .ok (.dup, 1) := by decide +kernel
theorem dX10_all_22 : decode cX10_all 22 = .ok (.getfield 117, 3) := by decide +kernel
theorem dX10_all_25 : decode cX10_all 25 = .ok (.iconst 1, 1) := by decide +kernel
theorem dX10_all_26 : decode cX10_all 26 = .ok (.iadd, 1) := by decide +kernel
theorem dX10_all_27 : decode cX10_all 27 = .ok (.putfield 117, 3) := by decide +kernel
theorem dX10_all_30 : decode cX10_all 30 = .ok (.aload_n 0, 1) := by decide +kernel
theorem dX10_all_31 : decode cX10_all 31 = .ok (.invokevirtual 164, 3) := by decide +kernel
theorem dX10_all_34 : decode cX10_all 34 = .ok (.aload_n 0, 1) := by decide +kernel
theorem dX10_all_35 : decode cX10_all 35 = .ok (.bipush 38, 2) := by decide +kernel
theorem dX10_all_37 : decode cX10_all 37 = .ok (.iconst 0, 1) := by decide +kernel
theorem dX10_all_38 : decode cX10_all 38 = .ok (.invokevirtual 135, 3) := by decide +kernel
theorem dX10_all_41 : decode cX10_all 41 = .ok (.goto (-37), 3) := by decide +kernel
theorem dX10_all_44 : decode cX10_all 44 = .ok (.return_, 1) := by decide +kernel
theorem dX10_any_0 : decode cX10_any 0 = .ok (.aload_n 0, 1) := by decide +kernel
theorem dX10_any_1 : decode cX10_any 1 = .ok (.invokevirtual 167, 3) := by decide +kernel
theorem dX10_any_4 : decode cX10_any 4 = .ok (.aload_n 0, 1) := by decide +kernel
theorem dX10_any_5 : decode cX10_any 5 = .ok (.getfield 131, 3) := by decide +kernel
theorem dX10_any_8 : decode cX10_any 8 = .ok (.ifCond .ne 36, 3) := by decide +kernel
theorem dX10_any_11 : decode cX10_any 11 = .ok (.aload_n 0, 1) := by decide +kernel
theorem dX10_any_12 : decode cX10_any 12 = .ok (.invokevirtual 127, 3) := by decide +kernel
theorem dX10_any_15 : decode cX10_any 15 = .ok (.bipush 124, 2) := by decide +kernel
theorem dX10_any_17 : decode cX10_any 17 = .ok (.if_icmp .ne 27, 3) := by decide +kernel
theorem dX10_any_20 : decode cX10_any 20 = .ok (.aload_n 0, 1) := by decide +kernel
theorem dX10_any_21 : decode cX10_any 21 = .ok (.dup, 1) := by decide +kernel
theorem dX10_any_22 : decode cX10_any 22 = .ok (.getfield 117, 3) := by decide +kernel
theorem dX10_any_25 : decode cX10_any 25 = .ok (.iconst 1, 1) := by decide +kernel
theorem dX10_any_26 : decode cX10_any 26 = .ok (.iadd, 1) := by decide +kernel
theorem dX10_any_27 : decode cX10_any 27 = .ok (.putfield 117, 3) := by decide +kernel
theorem dX10_any_30 : decode cX10_any 30 = .ok (.aload_n 0, 1) := by decide +kernel
theorem dX10_any_31 : decode cX10_any 31 = .ok (.invokevirtual 167, 3) := by decide +kernel
theorem dX10_any_34 : decode cX10_any 34 = .ok (.aload_n 0, 1) := by decide +kernel
theorem dX10_any_35 : decode cX10_any 35 = .ok (.bipush 124, 2) := by decide +kernel
theorem dX10_any_37 : decode cX10_any 37 = .ok (.iconst 0, 1) := by decide +kernel
theorem dX10_any_38 : decode cX10_any 38 = .ok (.invokevirtual 135, 3) := by decide +kernel
theorem dX10_any_41 : decode cX10_any 41 = .ok (.goto (-37), 3) := by decide +kernel
theorem dX10_any_44 : decode cX10_any 44 = .ok (.return_, 1) := by decide +kernel
theorem dX10_text_0 : decode cX10_text 0 = .ok (.iload_n 1, 1) := by decide +kernel
theorem dX10_text_1 : decode cX10_text 1 = .ok (.iconst 0, 1) := by decide +kernel
theorem dX10_text_2 : decode cX10_text 2 = .ok (.iconst 1, 1) := by decide +kernel
theorem dX10_text_3 : decode cX10_text 3 = .ok (.invokestatic 54, 3) := by decide +kernel
theorem dX10_text_6 : decode cX10_text 6 = .ok (.ifCond .ne 10, 3) := by decide +kernel
theorem dX10_text_9 : decode cX10_text 9 = .ok (.aload_n 0, 1) := by decide +kernel
theorem dX10_text_10 : decode cX10_text 10 = .ok (.ldc 94, 2) := by decide +kernel
theorem dX10_text_12 : decode cX10_text 12 = .ok (.invokevirtual 95, 3) := by decide +kernel
theorem dX10_text_15 : decode cX10_text 15 = .ok (.ireturn, 1) := by decide +kernel
theorem dX10_text_16 : decode cX10_text 16 = .ok (.aload_n 0, 1) := by decide +kernel
theorem dX10_text_17 : decode cX10_text 17 = .ok (.iload_n 1, 1) := by decide +kernel
theorem dX10_text_18 : decode cX10_text 18 = .ok (.putfield 124, 3) := by decide +kernel
theorem dX10_text_21 : decode cX10_text 21 = .ok (.aload_n 0, 1) := by decide +kernel
theorem dX10_text_22 : decode cX10_text 22 = .ok (.iconst 0, 1) := by decide +kernel
theorem dX10_text_23 : decode cX10_text 23 = .ok (.putfield 121, 3) := by decide +kernel
theorem dX10_text_26 : decode cX10_text 26 = .ok (.aload_n 0, 1) := by decide +kernel
theorem dX10_text_27 : decode cX10_text 27 = .ok (.iconst 0, 1) := by decide +kernel
theorem dX10_text_28 : decode cX10_text 28 = .ok (.putfield 117, 3) := by decide +kernel
theorem dX10_text_31 : decode cX10_text 31 = .ok (.aload_n 0, 1) := by decide +kernel
theorem dX10_text_32 : decode cX10_text 32 = .ok (.iconst 0, 1) := by decide +kernel
theorem dX10_text_33 : decode cX10_text 33 = .ok (.putfield 139, 3) := by decide +kernel
theorem dX10_text_36 : decode cX10_text 36 = .ok (.aload_n 0, 1) := by decide +kernel
theorem dX10_text_37 : decode cX10_text 37 = .ok (.iconst 0, 1) := by decide +kernel
theorem dX10_text_38 : decode cX10_text 38 = .ok (.putfield 131, 3) := by decide +kernel
theorem dX10_text_41 : decode cX10_text 41 = .ok (.aload_n 0, 1) := by decide +kernel
theorem dX10_text_42 : decode cX10_text 42 = .ok (.invokevirtual 145, 3) := by decide +kernel
theorem dX10_text_45 : decode cX10_text 45 = .ok (.aload_n 0, 1) := by decide +kernel
theorem dX10_text_46 : decode cX10_text 46 = .ok (.aload_n 0, 1) := by decide +kernel
theorem dX10_text_47 : decode cX10_text 47 = .ok (.getfield 131, 3) := by decide +kernel
theorem dX10_text_50 : decode cX10_text 50 = .ok (.ifCond .ne 16, 3) := by decide +kernel
theorem dX10_text_53 : decode cX10_text 53 = .ok (.aload_n 0, 1) := by decide +kernel
theorem dX10_text_54 : decode cX10_text 54 = .ok (.getfield 117, 3) := by decide +kernel
theorem dX10_text_57 : decode cX10_text 57 = .ok (.aload_n 0, 1) := by decide +kernel
theorem dX10_text_58 : decode cX10_text 58 = .ok (.getfield 9, 3) := by decide +kernel
theorem dX10_text_61 : decode cX10_text 61 = .ok (.iconst 4, 1) := by decide +kernel
theorem dX10_text_62 : decode cX10_text 62 = .ok (.iaload, 1) := by decide +kernel
theorem dX10_text_63 : decode cX10_text 63 = .ok (.if_icmp .ge 7, 3) := by decide +kernel
theorem dX10_text_66 : decode cX10_text 66 = .ok (.iconst 1, 1) := by decide +kernel
theorem dX10_text_67 : decode cX10_text 67 = .ok (.goto 4, 3) := by decide +kernel
theorem dX10_text_70 : decode cX10_text 70 = .ok (.iconst 0, 1) := by decide +kernel
theorem dX10_text_71 : decode cX10_text 71 = .ok (.putfield 131, 3) := by decide +kernel
theorem dX10_text_74 : decode cX10_text 74 = .ok (.aload_n 0, 1) := by decide +kernel
theorem dX10_text_75 : decode cX10_text 75 = .ok (.getfield 9, 3) := by decide +kernel
theorem dX10_text_78 : decode cX10_text 78 = .ok (.iconst 4, 1) := by decide +kernel
theorem dX10_text_79 : decode cX10_text 79 = .ok (.iconst 0, 1) := by decide +kernel
theorem dX10_text_80 : decode cX10_text 80 = .ok (.iastore, 1) := by decide +kernel
theorem dX10_text_81 : decode cX10_text 81 = .ok (.aload_n 0, 1) := by decide +kernel
theorem dX10_text_82 : decode cX10_text 82 = .ok (.getfield 131, 3) := by decide +kernel
theorem dX10_text_85 : decode cX10_text 85 = .ok (.ifCond .eq 11, 3) := by decide +kernel
theorem dX10_text_88 : decode cX10_text 88 = .ok (.bipush (-10), 2) := by decide +kernel
theorem dX10_text_90 : decode cX10_text 90 = .ok (.aload_n 0, 1) := by decide +kernel
theorem dX10_text_91 : decode cX10_text 91 = .ok (.getfield 117, 3) := by decide +kernel
theorem dX10_text_94 : decode cX10_text 94 = .ok (.isub, 1) := by decide +kernel
theorem dX10_text_95 : decode cX10_text 95 = .ok (.ireturn, 1) := by decide +kernel
theorem dX10_text_96 : decode cX10_text 96 = .ok (.sipush 174, 3) := by decide +kernel
theorem dX10_text_99 : decode cX10_text 99 = .ok (.bipush 121, 2) := by decide +kernel
theorem dX10_text_101 : decode cX10_text 101 = .ok (.iload_n 1, 1) := by decide +kernel
theorem dX10_text_102 : decode cX10_text 102 = .ok (.imul, 1) := by decide +kernel
theorem dX10_text_103 : decode cX10_text 103 = .ok (.iadd, 1) := by decide +kernel
theorem dX10_text_104 : decode cX10_text 104 = .ok (.istore_n 2, 1) := by decide +kernel
theorem dX10_text_105 : decode cX10_text 105 = .ok (.aload_n 0, 1) := by decide +kernel
theorem dX10_text_106 : decode cX10_text 106 = .ok (.getfield 9, 3) := by decide +kernel
theorem dX10_text_109 : decode cX10_text 109 = .ok (.iload_n 2, 1) := by decide +kernel
theorem dX10_text_110 : decode cX10_text 110 = .ok (.aload_n 0, 1) := by decide +kernel
theorem dX10_text_111 : decode cX10_text 111 = .ok (.getfield 121, 3) := by decide +kernel
theorem dX10_text_114 : decode cX10_text 114 = .ok (.iastore, 1) := by decide +kernel
theorem dX10_text_115 : decode cX10_text 115 = .ok (.iconst 0, 1) := by decide +kernel
theorem dX10_text_116 : decode cX10_text 116 = .ok (.istore_n 3, 1) := by decide +kernel
theorem dX10_text_117 : decode cX10_text 117 = .ok (.iload_n 3, 1) := by decide +kernel
theorem dX10_text_118 : decode cX10_text 118 = .ok (.aload_n 0, 1) := by decide +kernel
theorem dX10_text_119 : decode cX10_text 119 = .ok (.getfield 121, 3) := by decide +kernel
theorem dX10_text_122 : decode cX10_text 122 = .ok (.if_icmp .ge 42, 3) := by decide +kernel
theorem dX10_text_125 : decode cX10_text 125 = .ok (.aload_n 0, 1) := by decide +kernel
theorem dX10_text_126 : decode cX10_text 126 = .ok (.getfield 9, 3) := by decide +kernel
theorem dX10_text_129 : decode cX10_text 129 = .ok (.iload_n 2, 1) := by decide +kernel
theorem dX10_text_130 : decode cX10_text 130 = .ok (.iconst 1, 1) := by decide +kernel
theorem dX10_text_131 : decode cX10_text 131 = .ok (.iadd, 1) := by decide +kernel
theorem dX10_text_132 : decode cX10_text 132 = .ok (.iload_n 3, 1) := by decide +kernel
theorem dX10_text_133 : decode cX10_text 133 = .ok (.iadd, 1) := by decide +kernel
theorem dX10_text_134 : decode cX10_text 134 = .ok (.aload_n 0, 1) := by decide +kernel
theorem dX10_text_135 : decode cX10_text 135 = .ok (.getfield 31, 3) := by decide +kernel
theorem dX10_text_138 : decode cX10_text 138 = .ok (.iload_n 3, 1) := by decide +kernel
theorem dX10_text_139 : decode cX10_text 139 = .ok (.iaload, 1) := by decide +kernel
theorem dX10_text_140 : decode cX10_text 140 = .ok (.iastore, 1) := by decide +kernel
theorem dX10_text_141 : decode cX10_text 141 = .ok (.aload_n 0, 1) := by decide +kernel
theorem dX10_text_142 : decode cX10_text 142 = .ok (.getfield 9, 3) := by decide +kernel
theorem dX10_text_145 : decode cX10_text 145 = .ok (.iload_n 2, 1) := by decide +kernel
theorem dX10_text_146 : decode cX10_text 146 = .ok (.bipush 61, 2) := by decide +kernel
theorem dX10_text_148 : decode cX10_text 148 = .ok (.iadd, 1) := by decide +kernel
theorem dX10_text_149 : decode cX10_text 149 = .ok (.iload_n 3, 1) := by decide +kernel
theorem dX10_text_150 : decode cX10_text 150 = .ok (.iadd, 1) := by decide +kernel
theorem dX10_text_151 : decode cX10_text 151 = .ok (.aload_n 0, 1) := by decide +kernel
theorem dX10_text_152 : decode cX10_text 152 = .ok (.getfield 34, 3) := by decide +kernel
theorem dX10_text_155 : decode cX10_text 155 = .ok (.iload_n 3, 1) := by decide +kernel
theorem dX10_text_156 : decode cX10_text 156 = .ok (.iaload, 1) := by decide +kernel
theorem dX10_text_157 : decode cX10_text 157 = .ok (.iastore, 1) := by decide +kernel
theorem dX10_text_158 : decode cX10_text 158 = .ok (.iinc 3 1, 3) := by decide +kernel
theorem dX10_text_161 : decode cX10_text 161 = .ok (.goto (-44), 3) := by decide +kernel
theorem dX10_text_164 : decode cX10_text 164 = .ok (.iconst 1, 1) := by decide +kernel
theorem dX10_text_165 : decode cX10_text 165 = .ok (.ireturn, 1) := by decide +kernel
theorem dX10_untell_0 : decode cX10_untell 0 = .ok (.iload_n 1, 1) := by decide +kernel
theorem dX10_untell_1 : decode cX10_untell 1 = .ok (.iconst 0, 1) := by decide +kernel
theorem dX10_untell_2 : decode cX10_untell 2 = .ok (.iconst 1, 1) := by decide +kernel
theorem dX10_untell_3 : decode cX10_untell 3 = .ok (.invokestatic 54, 3) := by decide +kernel
theorem dX10_untell_6 : decode cX10_untell 6 = .ok (.ifCond .ne 10, 3) := by decide +kernel
theorem dX10_untell_9 : decode cX10_untell 9 = .ok (.aload_n 0, 1) := by decide +kernel
theorem dX10_untell_10 : decode cX10_untell 10 = .ok (.ldc 94, 2) := by decide +kernel
theorem dX10_untell_12 : decode cX10_untell 12 = .ok (.invokevirtual 95, 3) := by decide +kernel
theorem dX10_untell_15 : decode cX10_untell 15 = .ok (.ireturn, 1) := by decide +kernel
theorem dX10_untell_16 : decode cX10_untell 16 = .ok (.aload_n 0, 1) := by decide +kernel
theorem dX10_untell_17 : decode cX10_untell 17 = .ok (.sipush 174, 3) := by decide +kernel
theorem dX10_untell_20 : decode cX10_untell 20 = .ok (.bipush 121, 2) := by decide +kernel
theorem dX10_untell_22 : decode cX10_untell 22 = .ok (.iload_n 1, 1) := by decide +kernel
theorem dX10_untell_23 : decode cX10_untell 23 = .ok (.imul, 1) := by decide +kernel
theorem dX10_untell_24 : decode cX10_untell 24 = .ok (.iadd, 1) := by decide +kernel
theorem dX10_untell_25 : decode cX10_untell 25 = .ok (.iconst 0, 1) := by decide +kernel
theorem dX10_untell_26 : decode cX10_untell 26 = .ok (.invokevirtual 111, 3) := by decide +kernel
theorem dX10_untell_29 : decode cX10_untell 29 = .ok (.ifCond .le 7, 3) := by decide +kernel
theorem dX10_untell_32 : decode cX10_untell 32 = .ok (.iconst 1, 1) := by decide +kernel
theorem dX10_untell_33 : decode cX10_untell 33 = .ok (.goto 4, 3) := by decide +kernel
theorem dX10_untell_36 : decode cX10_untell 36 = .ok (.iconst 0, 1) := by decide +kernel
theorem dX10_untell_37 : decode cX10_untell 37 = .ok (.ireturn, 1) := by decide +kernel
theorem dX10_twoOf_0 : decode cX10_twoOf 0 = .ok (.iload_n 0, 1) := by decide +kernel
theorem dX10_twoOf_1 : decode cX10_twoOf 1 = .ok (.tableswitch 202 37 62 #[143, 188, 202, 202, 202, 127, 119, 202, 123, 202, 131, 202, 202, 202, 202, 202, 202, 202, 202, 202, 202, 202, 202, 155, 166, 177], 119) := by decide +kernel
theorem dX10_twoOf_120 : decode cX10_twoOf 120 = .ok (.iload_n 1, 1) := by decide +kernel
theorem dX10_twoOf_121 : decode cX10_twoOf 121 = .ok (.iload_n 2, 1) := by decide +kernel
theorem dX10_twoOf_122 : decode cX10_twoOf 122 = .ok (.iadd, 1) := by decide +kernel
theorem dX10_twoOf_123 : decode cX10_twoOf 123 = .ok (.ireturn, 1) := by decide +kernel
theorem dX10_twoOf_124 : decode cX10_twoOf 124 = .ok (.iload_n 1, 1) := by decide +kernel
theorem dX10_twoOf_125 : decode cX10_twoOf 125 = .ok (.iload_n 2, 1) := by decide +kernel
theorem dX10_twoOf_126 : decode cX10_twoOf 126 = .ok (.isub, 1) := by decide +kernel
theorem dX10_twoOf_127 : decode cX10_twoOf 127 = .ok (.ireturn, 1) := by decide +kernel
theorem dX10_twoOf_128 : decode cX10_twoOf 128 = .ok (.iload_n 1, 1) := by decide +kernel
theorem dX10_twoOf_129 : decode cX10_twoOf 129 = .ok (.iload_n 2, 1) := by decide +kernel
theorem dX10_twoOf_130 : decode cX10_twoOf 130 = .ok (.imul, 1) := by decide +kernel
theorem dX10_twoOf_131 : decode cX10_twoOf 131 = .ok (.ireturn, 1) := by decide +kernel
theorem dX10_twoOf_132 : decode cX10_twoOf 132 = .ok (.iload_n 2, 1) := by decide +kernel
theorem dX10_twoOf_133 : decode cX10_twoOf 133 = .ok (.ifCond .ne 7, 3) := by decide +kernel
theorem dX10_twoOf_136 : decode cX10_twoOf 136 = .ok (.iconst 0, 1) := by decide +kernel
theorem dX10_twoOf_137 : decode cX10_twoOf 137 = .ok (.goto 6, 3) := by decide +kernel
theorem dX10_twoOf_140 : decode cX10_twoOf 140 = .ok (.iload_n 1, 1) := by decide +kernel
theorem dX10_twoOf_141 : decode cX10_twoOf 141 = .ok (.iload_n 2, 1) := by decide +kernel
theorem dX10_twoOf_142 : decode cX10_twoOf 142 = .ok (.idiv, 1) := by decide +kernel
theorem dX10_twoOf_143 : decode cX10_twoOf 143 = .ok (.ireturn, 1) := by decide +kernel
theorem dX10_twoOf_144 : decode cX10_twoOf 144 = .ok (.iload_n 2, 1) := by decide +kernel
theorem dX10_twoOf_145 : decode cX10_twoOf 145 = .ok (.ifCond .ne 7, 3) := by decide +kernel
theorem dX10_twoOf_148 : decode cX10_twoOf 148 = .ok (.iconst 0, 1) := by decide +kernel
theorem dX10_twoOf_149 : decode cX10_twoOf 149 = .ok (.goto 6, 3) := by decide +kernel
theorem dX10_twoOf_152 : decode cX10_twoOf 152 = .ok (.iload_n 1, 1) := by decide +kernel
theorem dX10_twoOf_153 : decode cX10_twoOf 153 = .ok (.iload_n 2, 1) := by decide +kernel
theorem dX10_twoOf_154 : decode cX10_twoOf 154 = .ok (.irem, 1) := by decide +kernel
theorem dX10_twoOf_155 : decode cX10_twoOf 155 = .ok (.ireturn, 1) := by decide +kernel
theorem dX10_twoOf_156 : decode cX10_twoOf 156 = .ok (.iload_n 1, 1) := by decide +kernel
theorem dX10_twoOf_157 : decode cX10_twoOf 157 = .ok (.iload_n 2, 1) := by decide +kernel
theorem dX10_twoOf_158 : decode cX10_twoOf 158 = .ok (.if_icmp .ge 7, 3) := by decide +kernel
theorem dX10_twoOf_161 : decode cX10_twoOf 161 = .ok (.iconst 1, 1) := by decide +kernel
theorem dX10_twoOf_162 : decode cX10_twoOf 162 = .ok (.goto 4, 3) := by decide +kernel
theorem dX10_twoOf_165 : decode cX10_twoOf 165 = .ok (.iconst 0, 1) := by decide +kernel
theorem dX10_twoOf_166 : decode cX10_twoOf 166 = .ok (.ireturn, 1) := by decide +kernel
theorem dX10_twoOf_167 : decode cX10_twoOf 167 = .ok (.iload_n 1, 1) := by decide +kernel
theorem dX10_twoOf_168 : decode cX10_twoOf 168 = .ok (.iload_n 2, 1) := by decide +kernel
theorem dX10_twoOf_169 : decode cX10_twoOf 169 = .ok (.if_icmp .ne 7, 3) := by decide +kernel
theorem dX10_twoOf_172 : decode cX10_twoOf 172 = .ok (.iconst 1, 1) := by decide +kernel
theorem dX10_twoOf_173 : decode cX10_twoOf 173 = .ok (.goto 4, 3) := by decide +kernel
theorem dX10_twoOf_176 : decode cX10_twoOf 176 = .ok (.iconst 0, 1) := by decide +kernel
theorem dX10_twoOf_177 : decode cX10_twoOf 177 = .ok (.ireturn, 1) := by decide +kernel
theorem dX10_twoOf_178 : decode cX10_twoOf 178 = .ok (.iload_n 1, 1) := by decide +kernel
theorem dX10_twoOf_179 : decode cX10_twoOf 179 = .ok (.iload_n 2, 1) := by decide +kernel
theorem dX10_twoOf_180 : decode cX10_twoOf 180 = .ok (.if_icmp .le 7, 3) := by decide +kernel
theorem dX10_twoOf_183 : decode cX10_twoOf 183 = .ok (.iconst 1, 1) := by decide +kernel
theorem dX10_twoOf_184 : decode cX10_twoOf 184 = .ok (.goto 4, 3) := by decide +kernel
theorem dX10_twoOf_187 : decode cX10_twoOf 187 = .ok (.iconst 0, 1) := by decide +kernel
theorem dX10_twoOf_188 : decode cX10_twoOf 188 = .ok (.ireturn, 1) := by decide +kernel
theorem dX10_twoOf_189 : decode cX10_twoOf 189 = .ok (.iload_n 1, 1) := by decide +kernel
theorem dX10_twoOf_190 : decode cX10_twoOf 190 = .ok (.ifCond .eq 11, 3) := by decide +kernel
theorem dX10_twoOf_193 : decode cX10_twoOf 193 = .ok (.iload_n 2, 1) := by decide +kernel
theorem dX10_twoOf_194 : decode cX10_twoOf 194 = .ok (.ifCond .eq 7, 3) := by decide +kernel
theorem dX10_twoOf_197 : decode cX10_twoOf 197 = .ok (.iconst 1, 1) := by decide +kernel
theorem dX10_twoOf_198 : decode cX10_twoOf 198 = .ok (.goto 4, 3) := by decide +kernel
theorem dX10_twoOf_201 : decode cX10_twoOf 201 = .ok (.iconst 0, 1) := by decide +kernel
theorem dX10_twoOf_202 : decode cX10_twoOf 202 = .ok (.ireturn, 1) := by decide +kernel
theorem dX10_twoOf_203 : decode cX10_twoOf 203 = .ok (.iload_n 1, 1) := by decide +kernel
theorem dX10_twoOf_204 : decode cX10_twoOf 204 = .ok (.ifCond .ne 7, 3) := by decide +kernel
theorem dX10_twoOf_207 : decode cX10_twoOf 207 = .ok (.iload_n 2, 1) := by decide +kernel
theorem dX10_twoOf_208 : decode cX10_twoOf 208 = .ok (.ifCond .eq 7, 3) := by decide +kernel
theorem dX10_twoOf_211 : decode cX10_twoOf 211 = .ok (.iconst 1, 1) := by decide +kernel
theorem dX10_twoOf_212 : decode cX10_twoOf 212 = .ok (.goto 4, 3) := by decide +kernel
theorem dX10_twoOf_215 : decode cX10_twoOf 215 = .ok (.iconst 0, 1) := by decide +kernel
theorem dX10_twoOf_216 : decode cX10_twoOf 216 = .ok (.ireturn, 1) := by decide +kernel
theorem dX10_works_0 : decode cX10_works 0 = .ok (.iconst 0, 1) := by decide +kernel
theorem dX10_works_1 : decode cX10_works 1 = .ok (.istore_n 2, 1) := by decide +kernel
theorem dX10_works_2 : decode cX10_works 2 = .ok (.iconst 0, 1) := by decide +kernel
theorem dX10_works_3 : decode cX10_works 3 = .ok (.istore_n 3, 1) := by decide +kernel
theorem dX10_works_4 : decode cX10_works 4 = .ok (.iload_n 3, 1) := by decide +kernel
theorem dX10_works_5 : decode cX10_works 5 = .ok (.aload_n 0, 1) := by decide +kernel
theorem dX10_works_6 : decode cX10_works 6 = .ok (.getfield 9, 3) := by decide +kernel
theorem dX10_works_9 : decode cX10_works 9 = .ok (.iload_n 1, 1) := by decide +kernel
theorem dX10_works_10 : decode cX10_works 10 = .ok (.iaload, 1) := by decide +kernel
theorem dX10_works_11 : decode cX10_works 11 = .ok (.if_icmp .ge 144, 3) := by decide +kernel
theorem dX10_works_14 : decode cX10_works 14 = .ok (.aload_n 0, 1) := by decide +kernel
theorem dX10_works_15 : decode cX10_works 15 = .ok (.getfield 9, 3) := by decide +kernel
theorem dX10_works_18 : decode cX10_works 18 = .ok (.iload_n 1, 1) := by decide +kernel
theorem dX10_works_19 : decode cX10_works 19 = .ok (.iconst 1, 1) := by decide +kernel
theorem dX10_works_20 : decode cX10_works 20 = .ok (.iadd, 1) := by decide +kernel
theorem dX10_works_21 : decode cX10_works 21 = .ok (.iload_n 3, 1) := by decide +kernel
theorem dX10_works_22 : decode cX10_works 22 = .ok (.iadd, 1) := by decide +kernel
theorem dX10_works_23 : decode cX10_works 23 = .ok (.iaload, 1) := by decide +kernel
theorem dX10_works_24 : decode cX10_works 24 = .ok (.istore 4, 2) := by decide +kernel
theorem dX10_works_26 : decode cX10_works 26 = .ok (.iload 4, 2) := by decide +kernel
theorem dX10_works_28 : decode cX10_works 28 = .ok (.iconst 1, 1) := by decide +kernel
theorem dX10_works_29 : decode cX10_works 29 = .ok (.if_icmp .eq 9, 3) := by decide +kernel
theorem dX10_works_32 : decode cX10_works 32 = .ok (.iload 4, 2) := by decide +kernel
theorem dX10_works_34 : decode cX10_works 34 = .ok (.iconst 2, 1) := by decide +kernel
theorem dX10_works_35 : decode cX10_works 35 = .ok (.if_icmp .ne 51, 3) := by decide +kernel
theorem dX10_works_38 : decode cX10_works 38 = .ok (.aload_n 0, 1) := by decide +kernel
theorem dX10_works_39 : decode cX10_works 39 = .ok (.getfield 40, 3) := by decide +kernel
theorem dX10_works_42 : decode cX10_works 42 = .ok (.iload_n 2, 1) := by decide +kernel
theorem dX10_works_43 : decode cX10_works 43 = .ok (.iload 4, 2) := by decide +kernel
theorem dX10_works_45 : decode cX10_works 45 = .ok (.iconst 1, 1) := by decide +kernel
theorem dX10_works_46 : decode cX10_works 46 = .ok (.if_icmp .ne 17, 3) := by decide +kernel
theorem dX10_works_49 : decode cX10_works 49 = .ok (.aload_n 0, 1) := by decide +kernel
theorem dX10_works_50 : decode cX10_works 50 = .ok (.getfield 9, 3) := by decide +kernel
theorem dX10_works_53 : decode cX10_works 53 = .ok (.iload_n 1, 1) := by decide +kernel
theorem dX10_works_54 : decode cX10_works 54 = .ok (.bipush 61, 2) := by decide +kernel
theorem dX10_works_56 : decode cX10_works 56 = .ok (.iadd, 1) := by decide +kernel
theorem dX10_works_57 : decode cX10_works 57 = .ok (.iload_n 3, 1) := by decide +kernel
theorem dX10_works_58 : decode cX10_works 58 = .ok (.iadd, 1) := by decide +kernel
theorem dX10_works_59 : decode cX10_works 59 = .ok (.iaload, 1) := by decide +kernel
theorem dX10_works_60 : decode cX10_works 60 = .ok (.goto 19, 3) := by decide +kernel
theorem dX10_works_63 : decode cX10_works 63 = .ok (.aload_n 0, 1) := by decide +kernel
theorem dX10_works_64 : decode cX10_works 64 = .ok (.getfield 37, 3) := by decide +kernel
theorem dX10_works_67 : decode cX10_works 67 = .ok (.aload_n 0, 1) := by decide +kernel
theorem dX10_works_68 : decode cX10_works 68 = .ok (.getfield 9, 3) := by decide +kernel
theorem dX10_works_71 : decode cX10_works 71 = .ok (.iload_n 1, 1) := by decide +kernel
theorem dX10_works_72 : decode cX10_works 72 = .ok (.bipush 61, 2) := by decide +kernel
theorem dX10_works_74 : decode cX10_works 74 = .ok (.iadd, 1) := by decide +kernel
theorem dX10_works_75 : decode cX10_works 75 = .ok (.iload_n 3, 1) := by decide +kernel
theorem dX10_works_76 : decode cX10_works 76 = .ok (.iadd, 1) := by decide +kernel
theorem dX10_works_77 : decode cX10_works 77 = .ok (.iaload, 1) := by decide +kernel
theorem dX10_works_78 : decode cX10_works 78 = .ok (.iaload, 1) := by decide +kernel
theorem dX10_works_79 : decode cX10_works 79 = .ok (.iastore, 1) := by decide +kernel
theorem dX10_works_80 : decode cX10_works 80 = .ok (.iinc 2 1, 3) := by decide +kernel
theorem dX10_works_83 : decode cX10_works 83 = .ok (.goto 66, 3) := by decide +kernel
theorem dX10_works_86 : decode cX10_works 86 = .ok (.iload 4, 2) := by decide +kernel
theorem dX10_works_88 : decode cX10_works 88 = .ok (.iconst 3, 1) := by decide +kernel
theorem dX10_works_89 : decode cX10_works 89 = .ok (.if_icmp .ne 30, 3) := by decide +kernel
theorem dX10_works_92 : decode cX10_works 92 = .ok (.aload_n 0, 1) := by decide +kernel
theorem dX10_works_93 : decode cX10_works 93 = .ok (.getfield 40, 3) := by decide +kernel
theorem dX10_works_96 : decode cX10_works 96 = .ok (.iload_n 2, 1) := by decide +kernel
theorem dX10_works_97 : decode cX10_works 97 = .ok (.iconst 1, 1) := by decide +kernel
theorem dX10_works_98 : decode cX10_works 98 = .ok (.isub, 1) := by decide +kernel
theorem dX10_works_99 : decode cX10_works 99 = .ok (.aload_n 0, 1) := by decide +kernel
theorem dX10_works_100 : decode cX10_works 100 = .ok (.getfield 40, 3) := by decide +kernel
theorem dX10_works_103 : decode cX10_works 103 = .ok (.iload_n 2, 1) := by decide +kernel
theorem dX10_works_104 : decode cX10_works 104 = .ok (.iconst 1, 1) := by decide +kernel
theorem dX10_works_105 : decode cX10_works 105 = .ok (.isub, 1) := by decide +kernel
theorem dX10_works_106 : decode cX10_works 106 = .ok (.iaload, 1) := by decide +kernel
theorem dX10_works_107 : decode cX10_works 107 = .ok (.ifCond .ne 7, 3) := by decide +kernel
theorem dX10_works_110 : decode cX10_works 110 = .ok (.iconst 1, 1) := by decide +kernel
theorem dX10_works_111 : decode cX10_works 111 = .ok (.goto 4, 3) := by decide +kernel
theorem dX10_works_114 : decode cX10_works 114 = .ok (.iconst 0, 1) := by decide +kernel
theorem dX10_works_115 : decode cX10_works 115 = .ok (.iastore, 1) := by decide +kernel
theorem dX10_works_116 : decode cX10_works 116 = .ok (.goto 33, 3) := by decide +kernel
theorem dX10_works_119 : decode cX10_works 119 = .ok (.iinc 2 (-1), 3) := by decide +kernel
theorem dX10_works_122 : decode cX10_works 122 = .ok (.aload_n 0, 1) := by decide +kernel
theorem dX10_works_123 : decode cX10_works 123 = .ok (.getfield 40, 3) := by decide +kernel
theorem dX10_works_126 : decode cX10_works 126 = .ok (.iload_n 2, 1) := by decide +kernel
theorem dX10_works_127 : decode cX10_works 127 = .ok (.iconst 1, 1) := by decide +kernel
theorem dX10_works_128 : decode cX10_works 128 = .ok (.isub, 1) := by decide +kernel
theorem dX10_works_129 : decode cX10_works 129 = .ok (.iload 4, 2) := by decide +kernel
theorem dX10_works_131 : decode cX10_works 131 = .ok (.aload_n 0, 1) := by decide +kernel
theorem dX10_works_132 : decode cX10_works 132 = .ok (.getfield 40, 3) := by decide +kernel
theorem dX10_works_135 : decode cX10_works 135 = .ok (.iload_n 2, 1) := by decide +kernel
theorem dX10_works_136 : decode cX10_works 136 = .ok (.iconst 1, 1) := by decide +kernel
theorem dX10_works_137 : decode cX10_works 137 = .ok (.isub, 1) := by decide +kernel
theorem dX10_works_138 : decode cX10_works 138 = .ok (.iaload, 1) := by decide +kernel
theorem dX10_works_139 : decode cX10_works 139 = .ok (.aload_n 0, 1) := by decide +kernel
theorem dX10_works_140 : decode cX10_works 140 = .ok (.getfield 40, 3) := by decide +kernel
theorem dX10_works_143 : decode cX10_works 143 = .ok (.iload_n 2, 1) := by decide +kernel
theorem dX10_works_144 : decode cX10_works 144 = .ok (.iaload, 1) := by decide +kernel
theorem dX10_works_145 : decode cX10_works 145 = .ok (.invokestatic 170, 3) := by decide +kernel
theorem dX10_works_148 : decode cX10_works 148 = .ok (.iastore, 1) := by decide +kernel
theorem dX10_works_149 : decode cX10_works 149 = .ok (.iinc 3 1, 3) := by decide +kernel
theorem dX10_works_152 : decode cX10_works 152 = .ok (.goto (-148), 3) := by decide +kernel
theorem dX10_works_155 : decode cX10_works 155 = .ok (.aload_n 0, 1) := by decide +kernel
theorem dX10_works_156 : decode cX10_works 156 = .ok (.getfield 40, 3) := by decide +kernel
theorem dX10_works_159 : decode cX10_works 159 = .ok (.iconst 0, 1) := by decide +kernel
theorem dX10_works_160 : decode cX10_works 160 = .ok (.iaload, 1) := by decide +kernel
theorem dX10_works_161 : decode cX10_works 161 = .ok (.ireturn, 1) := by decide +kernel
theorem dX10_gives_0 : decode cX10_gives 0 = .ok (.sipush 174, 3) := by decide +kernel
theorem dX10_gives_3 : decode cX10_gives 3 = .ok (.bipush 121, 2) := by decide +kernel
theorem dX10_gives_5 : decode cX10_gives 5 = .ok (.iload_n 1, 1) := by decide +kernel
theorem dX10_gives_6 : decode cX10_gives 6 = .ok (.imul, 1) := by decide +kernel
theorem dX10_gives_7 : decode cX10_gives 7 = .ok (.iadd, 1) := by decide +kernel
theorem dX10_gives_8 : decode cX10_gives 8 = .ok (.istore 5, 2) := by decide +kernel
theorem dX10_gives_10 : decode cX10_gives 10 = .ok (.aload_n 0, 1) := by decide +kernel
theorem dX10_gives_11 : decode cX10_gives 11 = .ok (.getfield 37, 3) := by decide +kernel
theorem dX10_gives_14 : decode cX10_gives 14 = .ok (.iconst 0, 1) := by decide +kernel
theorem dX10_gives_15 : decode cX10_gives 15 = .ok (.iload_n 2, 1) := by decide +kernel
theorem dX10_gives_16 : decode cX10_gives 16 = .ok (.iastore, 1) := by decide +kernel
theorem dX10_gives_17 : decode cX10_gives 17 = .ok (.aload_n 0, 1) := by decide +kernel
theorem dX10_gives_18 : decode cX10_gives 18 = .ok (.getfield 37, 3) := by decide +kernel
theorem dX10_gives_21 : decode cX10_gives 21 = .ok (.iconst 1, 1) := by decide +kernel
theorem dX10_gives_22 : decode cX10_gives 22 = .ok (.iload_n 3, 1) := by decide +kernel
theorem dX10_gives_23 : decode cX10_gives 23 = .ok (.iastore, 1) := by decide +kernel
theorem dX10_gives_24 : decode cX10_gives 24 = .ok (.aload_n 0, 1) := by decide +kernel
theorem dX10_gives_25 : decode cX10_gives 25 = .ok (.getfield 37, 3) := by decide +kernel
theorem dX10_gives_28 : decode cX10_gives 28 = .ok (.iconst 2, 1) := by decide +kernel
theorem dX10_gives_29 : decode cX10_gives 29 = .ok (.iload 4, 2) := by decide +kernel
theorem dX10_gives_31 : decode cX10_gives 31 = .ok (.iastore, 1) := by decide +kernel
theorem dX10_gives_32 : decode cX10_gives 32 = .ok (.aload_n 0, 1) := by decide +kernel
theorem dX10_gives_33 : decode cX10_gives 33 = .ok (.getfield 9, 3) := by decide +kernel
theorem dX10_gives_36 : decode cX10_gives 36 = .ok (.iload 5, 2) := by decide +kernel
theorem dX10_gives_38 : decode cX10_gives 38 = .ok (.iaload, 1) := by decide +kernel
theorem dX10_gives_39 : decode cX10_gives 39 = .ok (.ifCond .le 12, 3) := by decide +kernel
theorem dX10_gives_42 : decode cX10_gives 42 = .ok (.aload_n 0, 1) := by decide +kernel
theorem dX10_gives_43 : decode cX10_gives 43 = .ok (.iload 5, 2) := by decide +kernel
theorem dX10_gives_45 : decode cX10_gives 45 = .ok (.invokevirtual 174, 3) := by decide +kernel
theorem dX10_gives_48 : decode cX10_gives 48 = .ok (.goto 16, 3) := by decide +kernel
theorem dX10_gives_51 : decode cX10_gives 51 = .ok (.iload_n 1, 1) := by decide +kernel
theorem dX10_gives_52 : decode cX10_gives 52 = .ok (.ifCond .ne 9, 3) := by decide +kernel
theorem dX10_gives_55 : decode cX10_gives 55 = .ok (.iload_n 2, 1) := by decide +kernel
theorem dX10_gives_56 : decode cX10_gives 56 = .ok (.iload_n 3, 1) := by decide +kernel
theorem dX10_gives_57 : decode cX10_gives 57 = .ok (.iadd, 1) := by decide +kernel
theorem dX10_gives_58 : decode cX10_gives 58 = .ok (.goto 6, 3) := by decide +kernel
theorem dX10_gives_61 : decode cX10_gives 61 = .ok (.iload_n 2, 1) := by decide +kernel
theorem dX10_gives_62 : decode cX10_gives 62 = .ok (.iload_n 3, 1) := by decide +kernel
theorem dX10_gives_63 : decode cX10_gives 63 = .ok (.imul, 1) := by decide +kernel
theorem dX10_gives_64 : decode cX10_gives 64 = .ok (.istore 6, 2) := by decide +kernel
theorem dX10_gives_66 : decode cX10_gives 66 = .ok (.iload_n 1, 1) := by decide +kernel
theorem dX10_gives_67 : decode cX10_gives 67 = .ok (.ifCond .ne 14, 3) := by decide +kernel
theorem dX10_gives_70 : decode cX10_gives 70 = .ok (.iload 6, 2) := by decide +kernel
theorem dX10_gives_72 : decode cX10_gives 72 = .ok (.iconst 1, 1) := by decide +kernel
theorem dX10_gives_73 : decode cX10_gives 73 = .ok (.bipush 99, 2) := by decide +kernel
theorem dX10_gives_75 : decode cX10_gives 75 = .ok (.invokestatic 177, 3) := by decide +kernel
theorem dX10_gives_78 : decode cX10_gives 78 = .ok (.goto 12, 3) := by decide +kernel
theorem dX10_gives_81 : decode cX10_gives 81 = .ok (.iload 6, 2) := by decide +kernel
theorem dX10_gives_83 : decode cX10_gives 83 = .ok (.bipush (-99), 2) := by decide +kernel
theorem dX10_gives_85 : decode cX10_gives 85 = .ok (.bipush 99, 2) := by decide +kernel
theorem dX10_gives_87 : decode cX10_gives 87 = .ok (.invokestatic 177, 3) := by decide +kernel
theorem dX10_gives_90 : decode cX10_gives 90 = .ok (.ireturn, 1) := by decide +kernel
theorem dX10_law_0 : decode cX10_law 0 = .ok (.iload_n 1, 1) := by decide +kernel
theorem dX10_law_1 : decode cX10_law 1 = .ok (.iconst 0, 1) := by decide +kernel
theorem dX10_law_2 : decode cX10_law 2 = .ok (.iconst 1, 1) := by decide +kernel
theorem dX10_law_3 : decode cX10_law 3 = .ok (.invokestatic 54, 3) := by decide +kernel
theorem dX10_law_6 : decode cX10_law 6 = .ok (.ifCond .eq 15, 3) := by decide +kernel
theorem dX10_law_9 : decode cX10_law 9 = .ok (.aload_n 0, 1) := by decide +kernel
theorem dX10_law_10 : decode cX10_law 10 = .ok (.iload_n 1, 1) := by decide +kernel
theorem dX10_law_11 : decode cX10_law 11 = .ok (.iload_n 2, 1) := by decide +kernel
theorem dX10_law_12 : decode cX10_law 12 = .ok (.iload_n 3, 1) := by decide +kernel
theorem dX10_law_13 : decode cX10_law 13 = .ok (.iload 4, 2) := by decide +kernel
theorem dX10_law_15 : decode cX10_law 15 = .ok (.invokevirtual 80, 3) := by decide +kernel
theorem dX10_law_18 : decode cX10_law 18 = .ok (.goto 9, 3) := by decide +kernel
theorem dX10_law_21 : decode cX10_law 21 = .ok (.aload_n 0, 1) := by decide +kernel
theorem dX10_law_22 : decode cX10_law 22 = .ok (.ldc 94, 2) := by decide +kernel
theorem dX10_law_24 : decode cX10_law 24 = .ok (.invokevirtual 95, 3) := by decide +kernel
theorem dX10_law_27 : decode cX10_law 27 = .ok (.ireturn, 1) := by decide +kernel
theorem dX10_goes_0 : decode cX10_goes 0 = .ok (.iconst 0, 1) := by decide +kernel
theorem dX10_goes_1 : decode cX10_goes 1 = .ok (.istore_n 1, 1) := by decide +kernel
theorem dX10_goes_2 : decode cX10_goes 2 = .ok (.iconst 0, 1) := by decide +kernel
theorem dX10_goes_3 : decode cX10_goes 3 = .ok (.istore_n 2, 1) := by decide +kernel
theorem dX10_goes_4 : decode cX10_goes 4 = .ok (.iload_n 2, 1) := by decide +kernel
theorem dX10_goes_5 : decode cX10_goes 5 = .ok (.aload_n 0, 1) := by decide +kernel
theorem dX10_goes_6 : decode cX10_goes 6 = .ok (.getfield 9, 3) := by decide +kernel
theorem dX10_goes_9 : decode cX10_goes 9 = .ok (.iconst 2, 1) := by decide +kernel
theorem dX10_goes_10 : decode cX10_goes 10 = .ok (.iaload, 1) := by decide +kernel
theorem dX10_goes_11 : decode cX10_goes 11 = .ok (.if_icmp .ge 27, 3) := by decide +kernel
theorem dX10_goes_14 : decode cX10_goes 14 = .ok (.iload_n 1, 1) := by decide +kernel
theorem dX10_goes_15 : decode cX10_goes 15 = .ok (.aload_n 0, 1) := by decide +kernel
theorem dX10_goes_16 : decode cX10_goes 16 = .ok (.iload_n 2, 1) := by decide +kernel
theorem dX10_goes_17 : decode cX10_goes 17 = .ok (.invokevirtual 108, 3) := by decide +kernel
theorem dX10_goes_20 : decode cX10_goes 20 = .ok (.ifCond .eq 9, 3) := by decide +kernel
theorem dX10_goes_23 : decode cX10_goes 23 = .ok (.iconst 1, 1) := by decide +kernel
theorem dX10_goes_24 : decode cX10_goes 24 = .ok (.iload_n 2, 1) := by decide +kernel
theorem dX10_goes_25 : decode cX10_goes 25 = .ok (.ishl, 1) := by decide +kernel
theorem dX10_goes_26 : decode cX10_goes 26 = .ok (.goto 4, 3) := by decide +kernel
theorem dX10_goes_29 : decode cX10_goes 29 = .ok (.iconst 0, 1) := by decide +kernel
theorem dX10_goes_30 : decode cX10_goes 30 = .ok (.ior, 1) := by decide +kernel
theorem dX10_goes_31 : decode cX10_goes 31 = .ok (.istore_n 1, 1) := by decide +kernel
theorem dX10_goes_32 : decode cX10_goes 32 = .ok (.iinc 2 1, 3) := by decide +kernel
theorem dX10_goes_35 : decode cX10_goes 35 = .ok (.goto (-31), 3) := by decide +kernel
theorem dX10_goes_38 : decode cX10_goes 38 = .ok (.iconst 0, 1) := by decide +kernel
theorem dX10_goes_39 : decode cX10_goes 39 = .ok (.istore_n 2, 1) := by decide +kernel
theorem dX10_goes_40 : decode cX10_goes 40 = .ok (.iload_n 2, 1) := by decide +kernel
theorem dX10_goes_41 : decode cX10_goes 41 = .ok (.aload_n 0, 1) := by decide +kernel
theorem dX10_goes_42 : decode cX10_goes 42 = .ok (.getfield 9, 3) := by decide +kernel
theorem dX10_goes_45 : decode cX10_goes 45 = .ok (.iconst 2, 1) := by decide +kernel
theorem dX10_goes_46 : decode cX10_goes 46 = .ok (.iaload, 1) := by decide +kernel
theorem dX10_goes_47 : decode cX10_goes 47 = .ok (.if_icmp .ge 72, 3) := by decide +kernel
theorem dX10_goes_50 : decode cX10_goes 50 = .ok (.aload_n 0, 1) := by decide +kernel
theorem dX10_goes_51 : decode cX10_goes 51 = .ok (.iload_n 2, 1) := by decide +kernel
theorem dX10_goes_52 : decode cX10_goes 52 = .ok (.invokevirtual 62, 3) := by decide +kernel
theorem dX10_goes_55 : decode cX10_goes 55 = .ok (.ifCond .eq 58, 3) := by decide +kernel
theorem dX10_goes_58 : decode cX10_goes 58 = .ok (.iload_n 1, 1) := by decide +kernel
theorem dX10_goes_59 : decode cX10_goes 59 = .ok (.iload_n 2, 1) := by decide +kernel
theorem dX10_goes_60 : decode cX10_goes 60 = .ok (.ishr, 1) := by decide +kernel
theorem dX10_goes_61 : decode cX10_goes 61 = .ok (.iconst 1, 1) := by decide +kernel
theorem dX10_goes_62 : decode cX10_goes 62 = .ok (.iand, 1) := by decide +kernel
theorem dX10_goes_63 : decode cX10_goes 63 = .ok (.ifCond .ne 50, 3) := by decide +kernel
theorem dX10_goes_66 : decode cX10_goes 66 = .ok (.aload_n 0, 1) := by decide +kernel
theorem dX10_goes_67 : decode cX10_goes 67 = .ok (.iload_n 2, 1) := by decide +kernel
theorem dX10_goes_68 : decode cX10_goes 68 = .ok (.iconst 5, 1) := by decide +kernel
theorem dX10_goes_69 : decode cX10_goes 69 = .ok (.aload_n 0, 1) := by decide +kernel
theorem dX10_goes_70 : decode cX10_goes 70 = .ok (.iload_n 2, 1) := by decide +kernel
theorem dX10_goes_71 : decode cX10_goes 71 = .ok (.iconst 5, 1) := by decide +kernel
theorem dX10_goes_72 : decode cX10_goes 72 = .ok (.invokevirtual 58, 3) := by decide +kernel
theorem dX10_goes_75 : decode cX10_goes 75 = .ok (.iconst 1, 1) := by decide +kernel
theorem dX10_goes_76 : decode cX10_goes 76 = .ok (.iadd, 1) := by decide +kernel
theorem dX10_goes_77 : decode cX10_goes 77 = .ok (.iconst 0, 1) := by decide +kernel
theorem dX10_goes_78 : decode cX10_goes 78 = .ok (.bipush 99, 2) := by decide +kernel
theorem dX10_goes_80 : decode cX10_goes 80 = .ok (.invokestatic 177, 3) := by decide +kernel
theorem dX10_goes_83 : decode cX10_goes 83 = .ok (.invokevirtual 84, 3) := by decide +kernel
theorem dX10_goes_86 : decode cX10_goes 86 = .ok (.aload_n 0, 1) := by decide +kernel
theorem dX10_goes_87 : decode cX10_goes 87 = .ok (.iload_n 2, 1) := by decide +kernel
theorem dX10_goes_88 : decode cX10_goes 88 = .ok (.bipush 6, 2) := by decide +kernel
theorem dX10_goes_90 : decode cX10_goes 90 = .ok (.aload_n 0, 1) := by decide +kernel
theorem dX10_goes_91 : decode cX10_goes 91 = .ok (.iload_n 2, 1) := by decide +kernel
theorem dX10_goes_92 : decode cX10_goes 92 = .ok (.iconst 5, 1) := by decide +kernel
theorem dX10_goes_93 : decode cX10_goes 93 = .ok (.invokevirtual 58, 3) := by decide +kernel
theorem dX10_goes_96 : decode cX10_goes 96 = .ok (.aload_n 0, 1) := by decide +kernel
theorem dX10_goes_97 : decode cX10_goes 97 = .ok (.getfield 9, 3) := by decide +kernel
theorem dX10_goes_100 : decode cX10_goes 100 = .ok (.iconst 3, 1) := by decide +kernel
theorem dX10_goes_101 : decode cX10_goes 101 = .ok (.iaload, 1) := by decide +kernel
theorem dX10_goes_102 : decode cX10_goes 102 = .ok (.if_icmp .lt 7, 3) := by decide +kernel
theorem dX10_goes_105 : decode cX10_goes 105 = .ok (.iconst 1, 1) := by decide +kernel
theorem dX10_goes_106 : decode cX10_goes 106 = .ok (.goto 4, 3) := by decide +kernel
theorem dX10_goes_109 : decode cX10_goes 109 = .ok (.iconst 0, 1) := by decide +kernel
theorem dX10_goes_110 : decode cX10_goes 110 = .ok (.invokevirtual 84, 3) := by decide +kernel
theorem dX10_goes_113 : decode cX10_goes 113 = .ok (.iinc 2 1, 3) := by decide +kernel
theorem dX10_goes_116 : decode cX10_goes 116 = .ok (.goto (-76), 3) := by decide +kernel
theorem dX10_goes_119 : decode cX10_goes 119 = .ok (.aload_n 0, 1) := by decide +kernel
theorem dX10_goes_120 : decode cX10_goes 120 = .ok (.getfield 9, 3) := by decide +kernel
theorem dX10_goes_123 : decode cX10_goes 123 = .ok (.iconst 0, 1) := by decide +kernel
theorem dX10_goes_124 : decode cX10_goes 124 = .ok (.dup2, 1) := by decide +kernel
theorem dX10_goes_125 : decode cX10_goes 125 = .ok (.iaload, 1) := by decide +kernel
theorem dX10_goes_126 : decode cX10_goes 126 = .ok (.iconst 1, 1) := by decide +kernel
theorem dX10_goes_127 : decode cX10_goes 127 = .ok (.iadd, 1) := by decide +kernel
theorem dX10_goes_128 : decode cX10_goes 128 = .ok (.iastore, 1) := by decide +kernel
theorem dX10_goes_129 : decode cX10_goes 129 = .ok (.return_, 1) := by decide +kernel
theorem dX10_years_0 : decode cX10_years 0 = .ok (.iload_n 1, 1) := by decide +kernel
theorem dX10_years_1 : decode cX10_years 1 = .ok (.iconst 1, 1) := by decide +kernel
theorem dX10_years_2 : decode cX10_years 2 = .ok (.bipush 60, 2) := by decide +kernel
theorem dX10_years_4 : decode cX10_years 4 = .ok (.invokestatic 54, 3) := by decide +kernel
theorem dX10_years_7 : decode cX10_years 7 = .ok (.ifCond .ne 10, 3) := by decide +kernel
theorem dX10_years_10 : decode cX10_years 10 = .ok (.aload_n 0, 1) := by decide +kernel
theorem dX10_years_11 : decode cX10_years 11 = .ok (.ldc 94, 2) := by decide +kernel
theorem dX10_years_13 : decode cX10_years 13 = .ok (.invokevirtual 95, 3) := by decide +kernel
theorem dX10_years_16 : decode cX10_years 16 = .ok (.ireturn, 1) := by decide +kernel
theorem dX10_years_17 : decode cX10_years 17 = .ok (.aload_n 0, 1) := by decide +kernel
theorem dX10_years_18 : decode cX10_years 18 = .ok (.getfield 9, 3) := by decide +kernel
theorem dX10_years_21 : decode cX10_years 21 = .ok (.iconst 0, 1) := by decide +kernel
theorem dX10_years_22 : decode cX10_years 22 = .ok (.iaload, 1) := by decide +kernel
theorem dX10_years_23 : decode cX10_years 23 = .ok (.iload_n 1, 1) := by decide +kernel
theorem dX10_years_24 : decode cX10_years 24 = .ok (.iadd, 1) := by decide +kernel
theorem dX10_years_25 : decode cX10_years 25 = .ok (.sipush 9999, 3) := by decide +kernel
theorem dX10_years_28 : decode cX10_years 28 = .ok (.if_icmp .le 10, 3) := by decide +kernel
theorem dX10_years_31 : decode cX10_years 31 = .ok (.aload_n 0, 1) := by decide +kernel
theorem dX10_years_32 : decode cX10_years 32 = .ok (.ldc 180, 2) := by decide +kernel
theorem dX10_years_34 : decode cX10_years 34 = .ok (.invokevirtual 95, 3) := by decide +kernel
theorem dX10_years_37 : decode cX10_years 37 = .ok (.ireturn, 1) := by decide +kernel
theorem dX10_years_38 : decode cX10_years 38 = .ok (.iconst 0, 1) := by decide +kernel
theorem dX10_years_39 : decode cX10_years 39 = .ok (.istore_n 2, 1) := by decide +kernel
theorem dX10_years_40 : decode cX10_years 40 = .ok (.iload_n 2, 1) := by decide +kernel
theorem dX10_years_41 : decode cX10_years 41 = .ok (.iload_n 1, 1) := by decide +kernel
theorem dX10_years_42 : decode cX10_years 42 = .ok (.if_icmp .ge 13, 3) := by decide +kernel
theorem dX10_years_45 : decode cX10_years 45 = .ok (.aload_n 0, 1) := by decide +kernel
theorem dX10_years_46 : decode cX10_years 46 = .ok (.invokevirtual 181, 3) := by decide +kernel
theorem dX10_years_49 : decode cX10_years 49 = .ok (.iinc 2 1, 3) := by decide +kernel
theorem dX10_years_52 : decode cX10_years 52 = .ok (.goto (-12), 3) := by decide +kernel
theorem dX10_years_55 : decode cX10_years 55 = .ok (.aload_n 0, 1) := by decide +kernel
theorem dX10_years_56 : decode cX10_years 56 = .ok (.invokevirtual 184, 3) := by decide +kernel
theorem dX10_years_59 : decode cX10_years 59 = .ok (.invokestatic 187, 3) := by decide +kernel
theorem dX10_years_62 : decode cX10_years 62 = .ok (.ireturn, 1) := by decide +kernel
theorem dX10_draw_0 : decode cX10_draw 0 = .ok (.aload_n 0, 1) := by decide +kernel
theorem dX10_draw_1 : decode cX10_draw 1 = .ok (.getfield 9, 3) := by decide +kernel
theorem dX10_draw_4 : decode cX10_draw 4 = .ok (.iconst 1, 1) := by decide +kernel
theorem dX10_draw_5 : decode cX10_draw 5 = .ok (.aload_n 0, 1) := by decide +kernel
theorem dX10_draw_6 : decode cX10_draw 6 = .ok (.getfield 9, 3) := by decide +kernel
theorem dX10_draw_9 : decode cX10_draw 9 = .ok (.iconst 1, 1) := by decide +kernel
theorem dX10_draw_10 : decode cX10_draw 10 = .ok (.iaload, 1) := by decide +kernel
theorem dX10_draw_11 : decode cX10_draw 11 = .ok (.ldc 190, 2) := by decide +kernel
theorem dX10_draw_13 : decode cX10_draw 13 = .ok (.imul, 1) := by decide +kernel
theorem dX10_draw_14 : decode cX10_draw 14 = .ok (.sipush 12345, 3) := by decide +kernel
theorem dX10_draw_17 : decode cX10_draw 17 = .ok (.iadd, 1) := by decide +kernel
theorem dX10_draw_18 : decode cX10_draw 18 = .ok (.iastore, 1) := by decide +kernel
theorem dX10_draw_19 : decode cX10_draw 19 = .ok (.aload_n 0, 1) := by decide +kernel
theorem dX10_draw_20 : decode cX10_draw 20 = .ok (.getfield 9, 3) := by decide +kernel
theorem dX10_draw_23 : decode cX10_draw 23 = .ok (.iconst 1, 1) := by decide +kernel
theorem dX10_draw_24 : decode cX10_draw 24 = .ok (.iaload, 1) := by decide +kernel
theorem dX10_draw_25 : decode cX10_draw 25 = .ok (.bipush 8, 2) := by decide +kernel
theorem dX10_draw_27 : decode cX10_draw 27 = .ok (.iushr, 1) := by decide +kernel
theorem dX10_draw_28 : decode cX10_draw 28 = .ok (.ireturn, 1) := by decide +kernel
theorem dX10_loose_0 : decode cX10_loose 0 = .ok (.iload_n 1, 1) := by decide +kernel
theorem dX10_loose_1 : decode cX10_loose 1 = .ok (.iconst 1, 1) := by decide +kernel
theorem dX10_loose_2 : decode cX10_loose 2 = .ok (.bipush 20, 2) := by decide +kernel
theorem dX10_loose_4 : decode cX10_loose 4 = .ok (.invokestatic 54, 3) := by decide +kernel
theorem dX10_loose_7 : decode cX10_loose 7 = .ok (.ifCond .ne 10, 3) := by decide +kernel
theorem dX10_loose_10 : decode cX10_loose 10 = .ok (.aload_n 0, 1) := by decide +kernel
theorem dX10_loose_11 : decode cX10_loose 11 = .ok (.ldc 94, 2) := by decide +kernel
theorem dX10_loose_13 : decode cX10_loose 13 = .ok (.invokevirtual 95, 3) := by decide +kernel
theorem dX10_loose_16 : decode cX10_loose 16 = .ok (.ireturn, 1) := by decide +kernel
theorem dX10_loose_17 : decode cX10_loose 17 = .ok (.aload_n 0, 1) := by decide +kernel
theorem dX10_loose_18 : decode cX10_loose 18 = .ok (.getfield 9, 3) := by decide +kernel
theorem dX10_loose_21 : decode cX10_loose 21 = .ok (.iconst 0, 1) := by decide +kernel
theorem dX10_loose_22 : decode cX10_loose 22 = .ok (.iaload, 1) := by decide +kernel
theorem dX10_loose_23 : decode cX10_loose 23 = .ok (.iload_n 1, 1) := by decide +kernel
theorem dX10_loose_24 : decode cX10_loose 24 = .ok (.iadd, 1) := by decide +kernel
theorem dX10_loose_25 : decode cX10_loose 25 = .ok (.sipush 9999, 3) := by decide +kernel
theorem dX10_loose_28 : decode cX10_loose 28 = .ok (.if_icmp .le 10, 3) := by decide +kernel
theorem dX10_loose_31 : decode cX10_loose 31 = .ok (.aload_n 0, 1) := by decide +kernel
theorem dX10_loose_32 : decode cX10_loose 32 = .ok (.ldc 180, 2) := by decide +kernel
theorem dX10_loose_34 : decode cX10_loose 34 = .ok (.invokevirtual 95, 3) := by decide +kernel
theorem dX10_loose_37 : decode cX10_loose 37 = .ok (.ireturn, 1) := by decide +kernel
theorem dX10_loose_38 : decode cX10_loose 38 = .ok (.iconst 0, 1) := by decide +kernel
theorem dX10_loose_39 : decode cX10_loose 39 = .ok (.istore_n 2, 1) := by decide +kernel
theorem dX10_loose_40 : decode cX10_loose 40 = .ok (.iload_n 2, 1) := by decide +kernel
theorem dX10_loose_41 : decode cX10_loose 41 = .ok (.iload_n 1, 1) := by decide +kernel
theorem dX10_loose_42 : decode cX10_loose 42 = .ok (.if_icmp .ge 70, 3) := by decide +kernel
theorem dX10_loose_45 : decode cX10_loose 45 = .ok (.aload_n 0, 1) := by decide +kernel
theorem dX10_loose_46 : decode cX10_loose 46 = .ok (.getfield 9, 3) := by decide +kernel
theorem dX10_loose_49 : decode cX10_loose 49 = .ok (.iconst 2, 1) := by decide +kernel
theorem dX10_loose_50 : decode cX10_loose 50 = .ok (.iaload, 1) := by decide +kernel
theorem dX10_loose_51 : decode cX10_loose 51 = .ok (.bipush 12, 2) := by decide +kernel
theorem dX10_loose_53 : decode cX10_loose 53 = .ok (.if_icmp .ge 49, 3) := by decide +kernel
theorem dX10_loose_56 : decode cX10_loose 56 = .ok (.aload_n 0, 1) := by decide +kernel
theorem dX10_loose_57 : decode cX10_loose 57 = .ok (.invokevirtual 191, 3) := by decide +kernel
theorem dX10_loose_60 : decode cX10_loose 60 = .ok (.bipush 7, 2) := by decide +kernel
theorem dX10_loose_62 : decode cX10_loose 62 = .ok (.irem, 1) := by decide +kernel
theorem dX10_loose_63 : decode cX10_loose 63 = .ok (.istore_n 3, 1) := by decide +kernel
theorem dX10_loose_64 : decode cX10_loose 64 = .ok (.aload_n 0, 1) := by decide +kernel
theorem dX10_loose_65 : decode cX10_loose 65 = .ok (.invokevirtual 191, 3) := by decide +kernel
theorem dX10_loose_68 : decode cX10_loose 68 = .ok (.bipush 72, 2) := by decide +kernel
theorem dX10_loose_70 : decode cX10_loose 70 = .ok (.irem, 1) := by decide +kernel
theorem dX10_loose_71 : decode cX10_loose 71 = .ok (.istore 4, 2) := by decide +kernel
theorem dX10_loose_73 : decode cX10_loose 73 = .ok (.aload_n 0, 1) := by decide +kernel
theorem dX10_loose_74 : decode cX10_loose 74 = .ok (.bipush 10, 2) := by decide +kernel
theorem dX10_loose_76 : decode cX10_loose 76 = .ok (.iload_n 3, 1) := by decide +kernel
theorem dX10_loose_77 : decode cX10_loose 77 = .ok (.imul, 1) := by decide +kernel
theorem dX10_loose_78 : decode cX10_loose 78 = .ok (.iconst 1, 1) := by decide +kernel
theorem dX10_loose_79 : decode cX10_loose 79 = .ok (.iload 4, 2) := by decide +kernel
theorem dX10_loose_81 : decode cX10_loose 81 = .ok (.bipush 6, 2) := by decide +kernel
theorem dX10_loose_83 : decode cX10_loose 83 = .ok (.idiv, 1) := by decide +kernel
theorem dX10_loose_84 : decode cX10_loose 84 = .ok (.iadd, 1) := by decide +kernel
theorem dX10_loose_85 : decode cX10_loose 85 = .ok (.iload 4, 2) := by decide +kernel
theorem dX10_loose_87 : decode cX10_loose 87 = .ok (.bipush 6, 2) := by decide +kernel
theorem dX10_loose_89 : decode cX10_loose 89 = .ok (.irem, 1) := by decide +kernel
theorem dX10_loose_90 : decode cX10_loose 90 = .ok (.aload_n 0, 1) := by decide +kernel
theorem dX10_loose_91 : decode cX10_loose 91 = .ok (.invokevirtual 191, 3) := by decide +kernel
theorem dX10_loose_94 : decode cX10_loose 94 = .ok (.bipush 6, 2) := by decide +kernel
theorem dX10_loose_96 : decode cX10_loose 96 = .ok (.irem, 1) := by decide +kernel
theorem dX10_loose_97 : decode cX10_loose 97 = .ok (.invokevirtual 99, 3) := by decide +kernel
theorem dX10_loose_100 : decode cX10_loose 100 = .ok (.istore 5, 2) := by decide +kernel
theorem dX10_loose_102 : decode cX10_loose 102 = .ok (.aload_n 0, 1) := by decide +kernel
theorem dX10_loose_103 : decode cX10_loose 103 = .ok (.invokevirtual 181, 3) := by decide +kernel
theorem dX10_loose_106 : decode cX10_loose 106 = .ok (.iinc 2 1, 3) := by decide +kernel
theorem dX10_loose_109 : decode cX10_loose 109 = .ok (.goto (-69), 3) := by decide +kernel
theorem dX10_loose_112 : decode cX10_loose 112 = .ok (.aload_n 0, 1) := by decide +kernel
theorem dX10_loose_113 : decode cX10_loose 113 = .ok (.invokevirtual 184, 3) := by decide +kernel
theorem dX10_loose_116 : decode cX10_loose 116 = .ok (.invokestatic 187, 3) := by decide +kernel
theorem dX10_loose_119 : decode cX10_loose 119 = .ok (.ireturn, 1) := by decide +kernel
theorem dX10_seed_0 : decode cX10_seed 0 = .ok (.aload_n 0, 1) := by decide +kernel
theorem dX10_seed_1 : decode cX10_seed 1 = .ok (.iconst 1, 1) := by decide +kernel
theorem dX10_seed_2 : decode cX10_seed 2 = .ok (.iload_n 1, 1) := by decide +kernel
theorem dX10_seed_3 : decode cX10_seed 3 = .ok (.invokevirtual 111, 3) := by decide +kernel
theorem dX10_seed_6 : decode cX10_seed 6 = .ok (.ireturn, 1) := by decide +kernel
theorem dX10_longestTalk_0 : decode cX10_longestTalk 0 = .ok (.iconst 0, 1) := by decide +kernel
theorem dX10_longestTalk_1 : decode cX10_longestTalk 1 = .ok (.istore_n 1, 1) := by decide +kernel
theorem dX10_longestTalk_2 : decode cX10_longestTalk 2 = .ok (.iconst 0, 1) := by decide +kernel
theorem dX10_longestTalk_3 : decode cX10_longestTalk 3 = .ok (.istore_n 2, 1) := by decide +kernel
theorem dX10_longestTalk_4 : decode cX10_longestTalk 4 = .ok (.iconst 0, 1) := by decide +kernel
theorem dX10_longestTalk_5 : decode cX10_longestTalk 5 = .ok (.istore_n 3, 1) := by decide +kernel
theorem dX10_longestTalk_6 : decode cX10_longestTalk 6 = .ok (.iload_n 3, 1) := by decide +kernel
theorem dX10_longestTalk_7 : decode cX10_longestTalk 7 = .ok (.aload_n 0, 1) := by decide +kernel
theorem dX10_longestTalk_8 : decode cX10_longestTalk 8 = .ok (.getfield 9, 3) := by decide +kernel
theorem dX10_longestTalk_11 : decode cX10_longestTalk 11 = .ok (.iconst 2, 1) := by decide +kernel
theorem dX10_longestTalk_12 : decode cX10_longestTalk 12 = .ok (.iaload, 1) := by decide +kernel
theorem dX10_longestTalk_13 : decode cX10_longestTalk 13 = .ok (.if_icmp .ge 44, 3) := by decide +kernel
theorem dX10_longestTalk_16 : decode cX10_longestTalk 16 = .ok (.aload_n 0, 1) := by decide +kernel
theorem dX10_longestTalk_17 : decode cX10_longestTalk 17 = .ok (.iload_n 3, 1) := by decide +kernel
theorem dX10_longestTalk_18 : decode cX10_longestTalk 18 = .ok (.invokevirtual 62, 3) := by decide +kernel
theorem dX10_longestTalk_21 : decode cX10_longestTalk 21 = .ok (.ifCond .eq 30, 3) := by decide +kernel
theorem dX10_longestTalk_24 : decode cX10_longestTalk 24 = .ok (.aload_n 0, 1) := by decide +kernel
theorem dX10_longestTalk_25 : decode cX10_longestTalk 25 = .ok (.iload_n 3, 1) := by decide +kernel
theorem dX10_longestTalk_26 : decode cX10_longestTalk 26 = .ok (.invokevirtual 194, 3) := by decide +kernel
theorem dX10_longestTalk_29 : decode cX10_longestTalk 29 = .ok (.ifCond .eq 9, 3) := by decide +kernel
theorem dX10_longestTalk_32 : decode cX10_longestTalk 32 = .ok (.iload_n 2, 1) := by decide +kernel
theorem dX10_longestTalk_33 : decode cX10_longestTalk 33 = .ok (.iconst 1, 1) := by decide +kernel
theorem dX10_longestTalk_34 : decode cX10_longestTalk 34 = .ok (.iadd, 1) := by decide +kernel
theorem dX10_longestTalk_35 : decode cX10_longestTalk 35 = .ok (.goto 4, 3) := by decide +kernel
theorem dX10_longestTalk_38 : decode cX10_longestTalk 38 = .ok (.iconst 1, 1) := by decide +kernel
theorem dX10_longestTalk_39 : decode cX10_longestTalk 39 = .ok (.istore_n 2, 1) := by decide +kernel
theorem dX10_longestTalk_40 : decode cX10_longestTalk 40 = .ok (.iload_n 2, 1) := by decide +kernel
theorem dX10_longestTalk_41 : decode cX10_longestTalk 41 = .ok (.iload_n 1, 1) := by decide +kernel
theorem dX10_longestTalk_42 : decode cX10_longestTalk 42 = .ok (.if_icmp .le 7, 3) := by decide +kernel
theorem dX10_longestTalk_45 : decode cX10_longestTalk 45 = .ok (.iload_n 2, 1) := by decide +kernel
theorem dX10_longestTalk_46 : decode cX10_longestTalk 46 = .ok (.goto 4, 3) := by decide +kernel
theorem dX10_longestTalk_49 : decode cX10_longestTalk 49 = .ok (.iload_n 1, 1) := by decide +kernel
theorem dX10_longestTalk_50 : decode cX10_longestTalk 50 = .ok (.istore_n 1, 1) := by decide +kernel
theorem dX10_longestTalk_51 : decode cX10_longestTalk 51 = .ok (.iinc 3 1, 3) := by decide +kernel
theorem dX10_longestTalk_54 : decode cX10_longestTalk 54 = .ok (.goto (-48), 3) := by decide +kernel
theorem dX10_longestTalk_57 : decode cX10_longestTalk 57 = .ok (.iload_n 1, 1) := by decide +kernel
theorem dX10_longestTalk_58 : decode cX10_longestTalk 58 = .ok (.ireturn, 1) := by decide +kernel
theorem dX10_answersSeen_0 : decode cX10_answersSeen 0 = .ok (.iconst 0, 1) := by decide +kernel
theorem dX10_answersSeen_1 : decode cX10_answersSeen 1 = .ok (.istore_n 1, 1) := by decide +kernel
theorem dX10_answersSeen_2 : decode cX10_answersSeen 2 = .ok (.iconst 0, 1) := by decide +kernel
theorem dX10_answersSeen_3 : decode cX10_answersSeen 3 = .ok (.istore_n 2, 1) := by decide +kernel
theorem dX10_answersSeen_4 : decode cX10_answersSeen 4 = .ok (.iload_n 2, 1) := by decide +kernel
theorem dX10_answersSeen_5 : decode cX10_answersSeen 5 = .ok (.aload_n 0, 1) := by decide +kernel
theorem dX10_answersSeen_6 : decode cX10_answersSeen 6 = .ok (.getfield 9, 3) := by decide +kernel
theorem dX10_answersSeen_9 : decode cX10_answersSeen 9 = .ok (.iconst 2, 1) := by decide +kernel
theorem dX10_answersSeen_10 : decode cX10_answersSeen 10 = .ok (.iaload, 1) := by decide +kernel
theorem dX10_answersSeen_11 : decode cX10_answersSeen 11 = .ok (.if_icmp .ge 25, 3) := by decide +kernel
theorem dX10_answersSeen_14 : decode cX10_answersSeen 14 = .ok (.iload_n 1, 1) := by decide +kernel
theorem dX10_answersSeen_15 : decode cX10_answersSeen 15 = .ok (.aload_n 0, 1) := by decide +kernel
theorem dX10_answersSeen_16 : decode cX10_answersSeen 16 = .ok (.iload_n 2, 1) := by decide +kernel
theorem dX10_answersSeen_17 : decode cX10_answersSeen 17 = .ok (.invokevirtual 194, 3) := by decide +kernel
theorem dX10_answersSeen_20 : decode cX10_answersSeen 20 = .ok (.ifCond .eq 7, 3) := by decide +kernel
theorem dX10_answersSeen_23 : decode cX10_answersSeen 23 = .ok (.iconst 1, 1) := by decide +kernel
theorem dX10_answersSeen_24 : decode cX10_answersSeen 24 = .ok (.goto 4, 3) := by decide +kernel
theorem dX10_answersSeen_27 : decode cX10_answersSeen 27 = .ok (.iconst 0, 1) := by decide +kernel
theorem dX10_answersSeen_28 : decode cX10_answersSeen 28 = .ok (.iadd, 1) := by decide +kernel
theorem dX10_answersSeen_29 : decode cX10_answersSeen 29 = .ok (.istore_n 1, 1) := by decide +kernel
theorem dX10_answersSeen_30 : decode cX10_answersSeen 30 = .ok (.iinc 2 1, 3) := by decide +kernel
theorem dX10_answersSeen_33 : decode cX10_answersSeen 33 = .ok (.goto (-29), 3) := by decide +kernel
theorem dX10_answersSeen_36 : decode cX10_answersSeen 36 = .ok (.iload_n 1, 1) := by decide +kernel
theorem dX10_answersSeen_37 : decode cX10_answersSeen 37 = .ok (.ireturn, 1) := by decide +kernel
theorem dX10_talk_0 : decode cX10_talk 0 = .ok (.iload_n 1, 1) := by decide +kernel
theorem dX10_talk_1 : decode cX10_talk 1 = .ok (.tableswitch 45 0 2 #[27, 32, 37], 27) := by decide +kernel
theorem dX10_talk_28 : decode cX10_talk 28 = .ok (.aload_n 0, 1) := by decide +kernel
theorem dX10_talk_29 : decode cX10_talk 29 = .ok (.invokevirtual 197, 3) := by decide +kernel
theorem dX10_talk_32 : decode cX10_talk 32 = .ok (.ireturn, 1) := by decide +kernel
theorem dX10_talk_33 : decode cX10_talk 33 = .ok (.aload_n 0, 1) := by decide +kernel
theorem dX10_talk_34 : decode cX10_talk 34 = .ok (.invokevirtual 200, 3) := by decide +kernel
theorem dX10_talk_37 : decode cX10_talk 37 = .ok (.ireturn, 1) := by decide +kernel
theorem dX10_talk_38 : decode cX10_talk 38 = .ok (.aload_n 0, 1) := by decide +kernel
theorem dX10_talk_39 : decode cX10_talk 39 = .ok (.invokevirtual 184, 3) := by decide +kernel
theorem dX10_talk_42 : decode cX10_talk 42 = .ok (.invokestatic 187, 3) := by decide +kernel
theorem dX10_talk_45 : decode cX10_talk 45 = .ok (.ireturn, 1) := by decide +kernel
theorem dX10_talk_46 : decode cX10_talk 46 = .ok (.aload_n 0, 1) := by decide +kernel
theorem dX10_talk_47 : decode cX10_talk 47 = .ok (.ldc 94, 2) := by decide +kernel
theorem dX10_talk_49 : decode cX10_talk 49 = .ok (.invokevirtual 95, 3) := by decide +kernel
theorem dX10_talk_52 : decode cX10_talk 52 = .ok (.ireturn, 1) := by decide +kernel
theorem dX10_meaning_0 : decode cX10_meaning 0 = .ok (.iload_n 1, 1) := by decide +kernel
theorem dX10_meaning_1 : decode cX10_meaning 1 = .ok (.iconst (-1), 1) := by decide +kernel
theorem dX10_meaning_2 : decode cX10_meaning 2 = .ok (.iconst 5, 1) := by decide +kernel
theorem dX10_meaning_3 : decode cX10_meaning 3 = .ok (.invokestatic 54, 3) := by decide +kernel
theorem dX10_meaning_6 : decode cX10_meaning 6 = .ok (.ifCond .ne 10, 3) := by decide +kernel
theorem dX10_meaning_9 : decode cX10_meaning 9 = .ok (.aload_n 0, 1) := by decide +kernel
theorem dX10_meaning_10 : decode cX10_meaning 10 = .ok (.ldc 94, 2) := by decide +kernel
theorem dX10_meaning_12 : decode cX10_meaning 12 = .ok (.invokevirtual 95, 3) := by decide +kernel
theorem dX10_meaning_15 : decode cX10_meaning 15 = .ok (.ireturn, 1) := by decide +kernel
theorem dX10_meaning_16 : decode cX10_meaning 16 = .ok (.iconst 0, 1) := by decide +kernel
theorem dX10_meaning_17 : decode cX10_meaning 17 = .ok (.istore_n 2, 1) := by decide +kernel
theorem dX10_meaning_18 : decode cX10_meaning 18 = .ok (.iconst 0, 1) := by decide +kernel
theorem dX10_meaning_19 : decode cX10_meaning 19 = .ok (.istore_n 3, 1) := by decide +kernel
theorem dX10_meaning_20 : decode cX10_meaning 20 = .ok (.iload_n 3, 1) := by decide +kernel
theorem dX10_meaning_21 : decode cX10_meaning 21 = .ok (.aload_n 0, 1) := by decide +kernel
theorem dX10_meaning_22 : decode cX10_meaning 22 = .ok (.getfield 9, 3) := by decide +kernel
theorem dX10_meaning_25 : decode cX10_meaning 25 = .ok (.iconst 2, 1) := by decide +kernel
theorem dX10_meaning_26 : decode cX10_meaning 26 = .ok (.iaload, 1) := by decide +kernel
theorem dX10_meaning_27 : decode cX10_meaning 27 = .ok (.if_icmp .ge 55, 3) := by decide +kernel
theorem dX10_meaning_30 : decode cX10_meaning 30 = .ok (.aload_n 0, 1) := by decide +kernel
theorem dX10_meaning_31 : decode cX10_meaning 31 = .ok (.iload_n 3, 1) := by decide +kernel
theorem dX10_meaning_32 : decode cX10_meaning 32 = .ok (.invokevirtual 194, 3) := by decide +kernel
theorem dX10_meaning_35 : decode cX10_meaning 35 = .ok (.ifCond .eq 21, 3) := by decide +kernel
theorem dX10_meaning_38 : decode cX10_meaning 38 = .ok (.iload_n 1, 1) := by decide +kernel
theorem dX10_meaning_39 : decode cX10_meaning 39 = .ok (.ifCond .lt 13, 3) := by decide +kernel
theorem dX10_meaning_42 : decode cX10_meaning 42 = .ok (.aload_n 0, 1) := by decide +kernel
theorem dX10_meaning_43 : decode cX10_meaning 43 = .ok (.iload_n 3, 1) := by decide +kernel
theorem dX10_meaning_44 : decode cX10_meaning 44 = .ok (.iconst 4, 1) := by decide +kernel
theorem dX10_meaning_45 : decode cX10_meaning 45 = .ok (.invokevirtual 58, 3) := by decide +kernel
theorem dX10_meaning_48 : decode cX10_meaning 48 = .ok (.iload_n 1, 1) := by decide +kernel
theorem dX10_meaning_49 : decode cX10_meaning 49 = .ok (.if_icmp .ne 7, 3) := by decide +kernel
theorem dX10_meaning_52 : decode cX10_meaning 52 = .ok (.iconst 1, 1) := by decide +kernel
theorem dX10_meaning_53 : decode cX10_meaning 53 = .ok (.goto 4, 3) := by decide +kernel
theorem dX10_meaning_56 : decode cX10_meaning 56 = .ok (.iconst 0, 1) := by decide +kernel
theorem dX10_meaning_57 : decode cX10_meaning 57 = .ok (.istore 4, 2) := by decide +kernel
theorem dX10_meaning_59 : decode cX10_meaning 59 = .ok (.iload_n 2, 1) := by decide +kernel
theorem dX10_meaning_60 : decode cX10_meaning 60 = .ok (.iload 4, 2) := by decide +kernel
theorem dX10_meaning_62 : decode cX10_meaning 62 = .ok (.ifCond .eq 11, 3) := by decide +kernel
theorem dX10_meaning_65 : decode cX10_meaning 65 = .ok (.aload_n 0, 1) := by decide +kernel
theorem dX10_meaning_66 : decode cX10_meaning 66 = .ok (.iload_n 3, 1) := by decide +kernel
theorem dX10_meaning_67 : decode cX10_meaning 67 = .ok (.invokevirtual 105, 3) := by decide +kernel
theorem dX10_meaning_70 : decode cX10_meaning 70 = .ok (.goto 4, 3) := by decide +kernel
theorem dX10_meaning_73 : decode cX10_meaning 73 = .ok (.iconst 0, 1) := by decide +kernel
theorem dX10_meaning_74 : decode cX10_meaning 74 = .ok (.iadd, 1) := by decide +kernel
theorem dX10_meaning_75 : decode cX10_meaning 75 = .ok (.istore_n 2, 1) := by decide +kernel
theorem dX10_meaning_76 : decode cX10_meaning 76 = .ok (.iinc 3 1, 3) := by decide +kernel
theorem dX10_meaning_79 : decode cX10_meaning 79 = .ok (.goto (-59), 3) := by decide +kernel
theorem dX10_meaning_82 : decode cX10_meaning 82 = .ok (.iload_n 2, 1) := by decide +kernel
theorem dX10_meaning_83 : decode cX10_meaning 83 = .ok (.ireturn, 1) := by decide +kernel
theorem dX10_then_0 : decode cX10_then 0 = .ok (.iload_n 1, 1) := by decide +kernel
theorem dX10_then_1 : decode cX10_then 1 = .ok (.iconst 0, 1) := by decide +kernel
theorem dX10_then_2 : decode cX10_then 2 = .ok (.bipush 60, 2) := by decide +kernel
theorem dX10_then_4 : decode cX10_then 4 = .ok (.invokestatic 54, 3) := by decide +kernel
theorem dX10_then_7 : decode cX10_then 7 = .ok (.ifCond .eq 12, 3) := by decide +kernel
theorem dX10_then_10 : decode cX10_then 10 = .ok (.iload_n 2, 1) := by decide +kernel
theorem dX10_then_11 : decode cX10_then 11 = .ok (.iconst 0, 1) := by decide +kernel
theorem dX10_then_12 : decode cX10_then 12 = .ok (.iconst 1, 1) := by decide +kernel
theorem dX10_then_13 : decode cX10_then 13 = .ok (.invokestatic 54, 3) := by decide +kernel
theorem dX10_then_16 : decode cX10_then 16 = .ok (.ifCond .ne 10, 3) := by decide +kernel
theorem dX10_then_19 : decode cX10_then 19 = .ok (.aload_n 0, 1) := by decide +kernel
theorem dX10_then_20 : decode cX10_then 20 = .ok (.ldc 94, 2) := by decide +kernel
theorem dX10_then_22 : decode cX10_then 22 = .ok (.invokevirtual 95, 3) := by decide +kernel
theorem dX10_then_25 : decode cX10_then 25 = .ok (.ireturn, 1) := by decide +kernel
theorem dX10_then_26 : decode cX10_then 26 = .ok (.aload_n 0, 1) := by decide +kernel
theorem dX10_then_27 : decode cX10_then 27 = .ok (.invokevirtual 203, 3) := by decide +kernel
theorem dX10_then_30 : decode cX10_then 30 = .ok (.iconst 0, 1) := by decide +kernel
theorem dX10_then_31 : decode cX10_then 31 = .ok (.istore_n 3, 1) := by decide +kernel
theorem dX10_then_32 : decode cX10_then 32 = .ok (.iload_n 3, 1) := by decide +kernel
theorem dX10_then_33 : decode cX10_then 33 = .ok (.iload_n 1, 1) := by decide +kernel
theorem dX10_then_34 : decode cX10_then 34 = .ok (.if_icmp .ge 13, 3) := by decide +kernel
theorem dX10_then_37 : decode cX10_then 37 = .ok (.aload_n 0, 1) := by decide +kernel
theorem dX10_then_38 : decode cX10_then 38 = .ok (.invokevirtual 181, 3) := by decide +kernel
theorem dX10_then_41 : decode cX10_then 41 = .ok (.iinc 3 1, 3) := by decide +kernel
theorem dX10_then_44 : decode cX10_then 44 = .ok (.goto (-12), 3) := by decide +kernel
theorem dX10_then_47 : decode cX10_then 47 = .ok (.aload_n 0, 1) := by decide +kernel
theorem dX10_then_48 : decode cX10_then 48 = .ok (.invokevirtual 184, 3) := by decide +kernel
theorem dX10_then_51 : decode cX10_then 51 = .ok (.istore_n 3, 1) := by decide +kernel
theorem dX10_then_52 : decode cX10_then 52 = .ok (.aload_n 0, 1) := by decide +kernel
theorem dX10_then_53 : decode cX10_then 53 = .ok (.invokevirtual 206, 3) := by decide +kernel
theorem dX10_then_56 : decode cX10_then 56 = .ok (.iload_n 2, 1) := by decide +kernel
theorem dX10_then_57 : decode cX10_then 57 = .ok (.ifCond .ne 10, 3) := by decide +kernel
theorem dX10_then_60 : decode cX10_then 60 = .ok (.iload_n 3, 1) := by decide +kernel
theorem dX10_then_61 : decode cX10_then 61 = .ok (.invokestatic 187, 3) := by decide +kernel
theorem dX10_then_64 : decode cX10_then 64 = .ok (.goto 4, 3) := by decide +kernel
theorem dX10_then_67 : decode cX10_then 67 = .ok (.iload_n 3, 1) := by decide +kernel
theorem dX10_then_68 : decode cX10_then 68 = .ok (.ireturn, 1) := by decide +kernel
theorem dX10_isTalk_0 : decode cX10_isTalk 0 = .ok (.iconst (-1), 1) := by decide +kernel
theorem dX10_isTalk_1 : decode cX10_isTalk 1 = .ok (.istore_n 2, 1) := by decide +kernel
theorem dX10_isTalk_2 : decode cX10_isTalk 2 = .ok (.iconst 1, 1) := by decide +kernel
theorem dX10_isTalk_3 : decode cX10_isTalk 3 = .ok (.istore_n 3, 1) := by decide +kernel
theorem dX10_isTalk_4 : decode cX10_isTalk 4 = .ok (.iconst 0, 1) := by decide +kernel
theorem dX10_isTalk_5 : decode cX10_isTalk 5 = .ok (.istore 4, 2) := by decide +kernel
theorem dX10_isTalk_7 : decode cX10_isTalk 7 = .ok (.iload 4, 2) := by decide +kernel
theorem dX10_isTalk_9 : decode cX10_isTalk 9 = .ok (.aload_n 0, 1) := by decide +kernel
theorem dX10_isTalk_10 : decode cX10_isTalk 10 = .ok (.getfield 9, 3) := by decide +kernel
theorem dX10_isTalk_13 : decode cX10_isTalk 13 = .ok (.iconst 2, 1) := by decide +kernel
theorem dX10_isTalk_14 : decode cX10_isTalk 14 = .ok (.iaload, 1) := by decide +kernel
theorem dX10_isTalk_15 : decode cX10_isTalk 15 = .ok (.if_icmp .ge 46, 3) := by decide +kernel
theorem dX10_isTalk_18 : decode cX10_isTalk 18 = .ok (.iload_n 3, 1) := by decide +kernel
theorem dX10_isTalk_19 : decode cX10_isTalk 19 = .ok (.ifCond .eq 42, 3) := by decide +kernel
theorem dX10_isTalk_22 : decode cX10_isTalk 22 = .ok (.iload_n 1, 1) := by decide +kernel
theorem dX10_isTalk_23 : decode cX10_isTalk 23 = .ok (.iload 4, 2) := by decide +kernel
theorem dX10_isTalk_25 : decode cX10_isTalk 25 = .ok (.ishr, 1) := by decide +kernel
theorem dX10_isTalk_26 : decode cX10_isTalk 26 = .ok (.iconst 1, 1) := by decide +kernel
theorem dX10_isTalk_27 : decode cX10_isTalk 27 = .ok (.iand, 1) := by decide +kernel
theorem dX10_isTalk_28 : decode cX10_isTalk 28 = .ok (.iconst 1, 1) := by decide +kernel
theorem dX10_isTalk_29 : decode cX10_isTalk 29 = .ok (.if_icmp .ne 26, 3) := by decide +kernel
theorem dX10_isTalk_32 : decode cX10_isTalk 32 = .ok (.iload_n 2, 1) := by decide +kernel
theorem dX10_isTalk_33 : decode cX10_isTalk 33 = .ok (.ifCond .lt 13, 3) := by decide +kernel
theorem dX10_isTalk_36 : decode cX10_isTalk 36 = .ok (.aload_n 0, 1) := by decide +kernel
theorem dX10_isTalk_37 : decode cX10_isTalk 37 = .ok (.iload 4, 2) := by decide +kernel
theorem dX10_isTalk_39 : decode cX10_isTalk 39 = .ok (.iload_n 2, 1) := by decide +kernel
theorem dX10_isTalk_40 : decode cX10_isTalk 40 = .ok (.invokevirtual 70, 3) := by decide +kernel
theorem dX10_isTalk_43 : decode cX10_isTalk 43 = .ok (.ifCond .eq 7, 3) := by decide +kernel
theorem dX10_isTalk_46 : decode cX10_isTalk 46 = .ok (.iconst 1, 1) := by decide +kernel
theorem dX10_isTalk_47 : decode cX10_isTalk 47 = .ok (.goto 4, 3) := by decide +kernel
theorem dX10_isTalk_50 : decode cX10_isTalk 50 = .ok (.iconst 0, 1) := by decide +kernel
theorem dX10_isTalk_51 : decode cX10_isTalk 51 = .ok (.istore_n 3, 1) := by decide +kernel
theorem dX10_isTalk_52 : decode cX10_isTalk 52 = .ok (.iload 4, 2) := by decide +kernel
theorem dX10_isTalk_54 : decode cX10_isTalk 54 = .ok (.istore_n 2, 1) := by decide +kernel
theorem dX10_isTalk_55 : decode cX10_isTalk 55 = .ok (.iinc 4 1, 3) := by decide +kernel
theorem dX10_isTalk_58 : decode cX10_isTalk 58 = .ok (.goto (-51), 3) := by decide +kernel
theorem dX10_isTalk_61 : decode cX10_isTalk 61 = .ok (.iload_n 3, 1) := by decide +kernel
theorem dX10_isTalk_62 : decode cX10_isTalk 62 = .ok (.ireturn, 1) := by decide +kernel
theorem dX10_fewest_0 : decode cX10_fewest 0 = .ok (.iload_n 1, 1) := by decide +kernel
theorem dX10_fewest_1 : decode cX10_fewest 1 = .ok (.iconst 0, 1) := by decide +kernel
theorem dX10_fewest_2 : decode cX10_fewest 2 = .ok (.iconst 1, 1) := by decide +kernel
theorem dX10_fewest_3 : decode cX10_fewest 3 = .ok (.invokestatic 54, 3) := by decide +kernel
theorem dX10_fewest_6 : decode cX10_fewest 6 = .ok (.ifCond .ne 10, 3) := by decide +kernel
theorem dX10_fewest_9 : decode cX10_fewest 9 = .ok (.aload_n 0, 1) := by decide +kernel
theorem dX10_fewest_10 : decode cX10_fewest 10 = .ok (.ldc 94, 2) := by decide +kernel
theorem dX10_fewest_12 : decode cX10_fewest 12 = .ok (.invokevirtual 95, 3) := by decide +kernel
theorem dX10_fewest_15 : decode cX10_fewest 15 = .ok (.ireturn, 1) := by decide +kernel
theorem dX10_fewest_16 : decode cX10_fewest 16 = .ok (.aload_n 0, 1) := by decide +kernel
theorem dX10_fewest_17 : decode cX10_fewest 17 = .ok (.invokevirtual 184, 3) := by decide +kernel
theorem dX10_fewest_20 : decode cX10_fewest 20 = .ok (.istore_n 2, 1) := by decide +kernel
theorem dX10_fewest_21 : decode cX10_fewest 21 = .ok (.iload_n 2, 1) := by decide +kernel
theorem dX10_fewest_22 : decode cX10_fewest 22 = .ok (.istore_n 3, 1) := by decide +kernel
theorem dX10_fewest_23 : decode cX10_fewest 23 = .ok (.iload_n 2, 1) := by decide +kernel
theorem dX10_fewest_24 : decode cX10_fewest 24 = .ok (.istore 4, 2) := by decide +kernel
theorem dX10_fewest_26 : decode cX10_fewest 26 = .ok (.iload 4, 2) := by decide +kernel
theorem dX10_fewest_28 : decode cX10_fewest 28 = .ok (.ifCond .lt 50, 3) := by decide +kernel
theorem dX10_fewest_31 : decode cX10_fewest 31 = .ok (.iload 4, 2) := by decide +kernel
theorem dX10_fewest_33 : decode cX10_fewest 33 = .ok (.iload_n 2, 1) := by decide +kernel
theorem dX10_fewest_34 : decode cX10_fewest 34 = .ok (.iconst (-1), 1) := by decide +kernel
theorem dX10_fewest_35 : decode cX10_fewest 35 = .ok (.ixor, 1) := by decide +kernel
theorem dX10_fewest_36 : decode cX10_fewest 36 = .ok (.iand, 1) := by decide +kernel
theorem dX10_fewest_37 : decode cX10_fewest 37 = .ok (.ifCond .ne 35, 3) := by decide +kernel
theorem dX10_fewest_40 : decode cX10_fewest 40 = .ok (.iload 4, 2) := by decide +kernel
theorem dX10_fewest_42 : decode cX10_fewest 42 = .ok (.invokestatic 187, 3) := by decide +kernel
theorem dX10_fewest_45 : decode cX10_fewest 45 = .ok (.iload_n 3, 1) := by decide +kernel
theorem dX10_fewest_46 : decode cX10_fewest 46 = .ok (.invokestatic 187, 3) := by decide +kernel
theorem dX10_fewest_49 : decode cX10_fewest 49 = .ok (.if_icmp .gt 23, 3) := by decide +kernel
theorem dX10_fewest_52 : decode cX10_fewest 52 = .ok (.aload_n 0, 1) := by decide +kernel
theorem dX10_fewest_53 : decode cX10_fewest 53 = .ok (.iload_n 2, 1) := by decide +kernel
theorem dX10_fewest_54 : decode cX10_fewest 54 = .ok (.iload 4, 2) := by decide +kernel
theorem dX10_fewest_56 : decode cX10_fewest 56 = .ok (.iconst (-1), 1) := by decide +kernel
theorem dX10_fewest_57 : decode cX10_fewest 57 = .ok (.ixor, 1) := by decide +kernel
theorem dX10_fewest_58 : decode cX10_fewest 58 = .ok (.iand, 1) := by decide +kernel
theorem dX10_fewest_59 : decode cX10_fewest 59 = .ok (.invokevirtual 209, 3) := by decide +kernel
theorem dX10_fewest_62 : decode cX10_fewest 62 = .ok (.ifCond .eq 8, 3) := by decide +kernel
theorem dX10_fewest_65 : decode cX10_fewest 65 = .ok (.iload 4, 2) := by decide +kernel
theorem dX10_fewest_67 : decode cX10_fewest 67 = .ok (.goto 4, 3) := by decide +kernel
theorem dX10_fewest_70 : decode cX10_fewest 70 = .ok (.iload_n 3, 1) := by decide +kernel
theorem dX10_fewest_71 : decode cX10_fewest 71 = .ok (.istore_n 3, 1) := by decide +kernel
theorem dX10_fewest_72 : decode cX10_fewest 72 = .ok (.iinc 4 (-1), 3) := by decide +kernel
theorem dX10_fewest_75 : decode cX10_fewest 75 = .ok (.goto (-49), 3) := by decide +kernel
theorem dX10_fewest_78 : decode cX10_fewest 78 = .ok (.iload_n 1, 1) := by decide +kernel
theorem dX10_fewest_79 : decode cX10_fewest 79 = .ok (.ifCond .ne 10, 3) := by decide +kernel
theorem dX10_fewest_82 : decode cX10_fewest 82 = .ok (.iload_n 3, 1) := by decide +kernel
theorem dX10_fewest_83 : decode cX10_fewest 83 = .ok (.invokestatic 187, 3) := by decide +kernel
theorem dX10_fewest_86 : decode cX10_fewest 86 = .ok (.goto 4, 3) := by decide +kernel
theorem dX10_fewest_89 : decode cX10_fewest 89 = .ok (.iload_n 3, 1) := by decide +kernel
theorem dX10_fewest_90 : decode cX10_fewest 90 = .ok (.ireturn, 1) := by decide +kernel
theorem dX10_stepCost_0 : decode cX10_stepCost 0 = .ok (.iload_n 1, 1) := by decide +kernel
theorem dX10_stepCost_1 : decode cX10_stepCost 1 = .ok (.bipush 6, 2) := by decide +kernel
theorem dX10_stepCost_3 : decode cX10_stepCost 3 = .ok (.idiv, 1) := by decide +kernel
theorem dX10_stepCost_4 : decode cX10_stepCost 4 = .ok (.iload_n 2, 1) := by decide +kernel
theorem dX10_stepCost_5 : decode cX10_stepCost 5 = .ok (.bipush 6, 2) := by decide +kernel
theorem dX10_stepCost_7 : decode cX10_stepCost 7 = .ok (.idiv, 1) := by decide +kernel
theorem dX10_stepCost_8 : decode cX10_stepCost 8 = .ok (.isub, 1) := by decide +kernel
theorem dX10_stepCost_9 : decode cX10_stepCost 9 = .ok (.istore_n 3, 1) := by decide +kernel
theorem dX10_stepCost_10 : decode cX10_stepCost 10 = .ok (.iload_n 1, 1) := by decide +kernel
theorem dX10_stepCost_11 : decode cX10_stepCost 11 = .ok (.bipush 6, 2) := by decide +kernel
theorem dX10_stepCost_13 : decode cX10_stepCost 13 = .ok (.irem, 1) := by decide +kernel
theorem dX10_stepCost_14 : decode cX10_stepCost 14 = .ok (.iload_n 2, 1) := by decide +kernel
theorem dX10_stepCost_15 : decode cX10_stepCost 15 = .ok (.bipush 6, 2) := by decide +kernel
theorem dX10_stepCost_17 : decode cX10_stepCost 17 = .ok (.irem, 1) := by decide +kernel
theorem dX10_stepCost_18 : decode cX10_stepCost 18 = .ok (.isub, 1) := by decide +kernel
theorem dX10_stepCost_19 : decode cX10_stepCost 19 = .ok (.istore 4, 2) := by decide +kernel
theorem dX10_stepCost_21 : decode cX10_stepCost 21 = .ok (.iload_n 3, 1) := by decide +kernel
theorem dX10_stepCost_22 : decode cX10_stepCost 22 = .ok (.ifCond .ne 7, 3) := by decide +kernel
theorem dX10_stepCost_25 : decode cX10_stepCost 25 = .ok (.iconst 1, 1) := by decide +kernel
theorem dX10_stepCost_26 : decode cX10_stepCost 26 = .ok (.goto 4, 3) := by decide +kernel
theorem dX10_stepCost_29 : decode cX10_stepCost 29 = .ok (.iconst 0, 1) := by decide +kernel
theorem dX10_stepCost_30 : decode cX10_stepCost 30 = .ok (.iload 4, 2) := by decide +kernel
theorem dX10_stepCost_32 : decode cX10_stepCost 32 = .ok (.ifCond .ne 7, 3) := by decide +kernel
theorem dX10_stepCost_35 : decode cX10_stepCost 35 = .ok (.iconst 1, 1) := by decide +kernel
theorem dX10_stepCost_36 : decode cX10_stepCost 36 = .ok (.goto 4, 3) := by decide +kernel
theorem dX10_stepCost_39 : decode cX10_stepCost 39 = .ok (.iconst 0, 1) := by decide +kernel
theorem dX10_stepCost_40 : decode cX10_stepCost 40 = .ok (.if_icmp .eq 7, 3) := by decide +kernel
theorem dX10_stepCost_43 : decode cX10_stepCost 43 = .ok (.iconst 1, 1) := by decide +kernel
theorem dX10_stepCost_44 : decode cX10_stepCost 44 = .ok (.goto 4, 3) := by decide +kernel
theorem dX10_stepCost_47 : decode cX10_stepCost 47 = .ok (.iconst 0, 1) := by decide +kernel
theorem dX10_stepCost_48 : decode cX10_stepCost 48 = .ok (.istore 5, 2) := by decide +kernel
theorem dX10_stepCost_50 : decode cX10_stepCost 50 = .ok (.iload 5, 2) := by decide +kernel
theorem dX10_stepCost_52 : decode cX10_stepCost 52 = .ok (.ifCond .eq 40, 3) := by decide +kernel
theorem dX10_stepCost_55 : decode cX10_stepCost 55 = .ok (.aload_n 0, 1) := by decide +kernel
theorem dX10_stepCost_56 : decode cX10_stepCost 56 = .ok (.iconst 0, 1) := by decide +kernel
theorem dX10_stepCost_57 : decode cX10_stepCost 57 = .ok (.iload_n 3, 1) := by decide +kernel
theorem dX10_stepCost_58 : decode cX10_stepCost 58 = .ok (.ifCond .ge 8, 3) := by decide +kernel
theorem dX10_stepCost_61 : decode cX10_stepCost 61 = .ok (.iload_n 3, 1) := by decide +kernel
theorem dX10_stepCost_62 : decode cX10_stepCost 62 = .ok (.ineg, 1) := by decide +kernel
theorem dX10_stepCost_63 : decode cX10_stepCost 63 = .ok (.goto 4, 3) := by decide +kernel
theorem dX10_stepCost_66 : decode cX10_stepCost 66 = .ok (.iload_n 3, 1) := by decide +kernel
theorem dX10_stepCost_67 : decode cX10_stepCost 67 = .ok (.iload 4, 2) := by decide +kernel
theorem dX10_stepCost_69 : decode cX10_stepCost 69 = .ok (.ifCond .ge 9, 3) := by decide +kernel
theorem dX10_stepCost_72 : decode cX10_stepCost 72 = .ok (.iload 4, 2) := by decide +kernel
theorem dX10_stepCost_74 : decode cX10_stepCost 74 = .ok (.ineg, 1) := by decide +kernel
theorem dX10_stepCost_75 : decode cX10_stepCost 75 = .ok (.goto 5, 3) := by decide +kernel
theorem dX10_stepCost_78 : decode cX10_stepCost 78 = .ok (.iload 4, 2) := by decide +kernel
theorem dX10_stepCost_80 : decode cX10_stepCost 80 = .ok (.aload_n 0, 1) := by decide +kernel
theorem dX10_stepCost_81 : decode cX10_stepCost 81 = .ok (.getfield 9, 3) := by decide +kernel
theorem dX10_stepCost_84 : decode cX10_stepCost 84 = .ok (.iconst 3, 1) := by decide +kernel
theorem dX10_stepCost_85 : decode cX10_stepCost 85 = .ok (.iaload, 1) := by decide +kernel
theorem dX10_stepCost_86 : decode cX10_stepCost 86 = .ok (.invokevirtual 80, 3) := by decide +kernel
theorem dX10_stepCost_89 : decode cX10_stepCost 89 = .ok (.goto 4, 3) := by decide +kernel
theorem dX10_stepCost_92 : decode cX10_stepCost 92 = .ok (.iconst (-1), 1) := by decide +kernel
theorem dX10_stepCost_93 : decode cX10_stepCost 93 = .ok (.ireturn, 1) := by decide +kernel
theorem dX10_findCosts_0 : decode cX10_findCosts 0 = .ok (.iconst 0, 1) := by decide +kernel
theorem dX10_findCosts_1 : decode cX10_findCosts 1 = .ok (.istore_n 2, 1) := by decide +kernel
theorem dX10_findCosts_2 : decode cX10_findCosts 2 = .ok (.iload_n 2, 1) := by decide +kernel
theorem dX10_findCosts_3 : decode cX10_findCosts 3 = .ok (.bipush 72, 2) := by decide +kernel
theorem dX10_findCosts_5 : decode cX10_findCosts 5 = .ok (.if_icmp .ge 27, 3) := by decide +kernel
theorem dX10_findCosts_8 : decode cX10_findCosts 8 = .ok (.aload_n 0, 1) := by decide +kernel
theorem dX10_findCosts_9 : decode cX10_findCosts 9 = .ok (.getfield 43, 3) := by decide +kernel
theorem dX10_findCosts_12 : decode cX10_findCosts 12 = .ok (.iload_n 2, 1) := by decide +kernel
theorem dX10_findCosts_13 : decode cX10_findCosts 13 = .ok (.iload_n 2, 1) := by decide +kernel
theorem dX10_findCosts_14 : decode cX10_findCosts 14 = .ok (.iload_n 1, 1) := by decide +kernel
theorem dX10_findCosts_15 : decode cX10_findCosts 15 = .ok (.if_icmp .ne 7, 3) := by decide +kernel
theorem dX10_findCosts_18 : decode cX10_findCosts 18 = .ok (.iconst 0, 1) := by decide +kernel
theorem dX10_findCosts_19 : decode cX10_findCosts 19 = .ok (.goto 6, 3) := by decide +kernel
theorem dX10_findCosts_22 : decode cX10_findCosts 22 = .ok (.sipush 9999, 3) := by decide +kernel
theorem dX10_findCosts_25 : decode cX10_findCosts 25 = .ok (.iastore, 1) := by decide +kernel
theorem dX10_findCosts_26 : decode cX10_findCosts 26 = .ok (.iinc 2 1, 3) := by decide +kernel
theorem dX10_findCosts_29 : decode cX10_findCosts 29 = .ok (.goto (-27), 3) := by decide +kernel
theorem dX10_findCosts_32 : decode cX10_findCosts 32 = .ok (.iconst 1, 1) := by decide +kernel
theorem dX10_findCosts_33 : decode cX10_findCosts 33 = .ok (.istore_n 2, 1) := by decide +kernel
theorem dX10_findCosts_34 : decode cX10_findCosts 34 = .ok (.iload_n 2, 1) := by decide +kernel
theorem dX10_findCosts_35 : decode cX10_findCosts 35 = .ok (.ifCond .eq 109, 3) := by decide +kernel
theorem dX10_findCosts_38 : decode cX10_findCosts 38 = .ok (.iconst 0, 1) := by decide +kernel
theorem dX10_findCosts_39 : decode cX10_findCosts 39 = .ok (.istore_n 2, 1) := by decide +kernel
theorem dX10_findCosts_40 : decode cX10_findCosts 40 = .ok (.iconst 0, 1) := by decide +kernel
theorem dX10_findCosts_41 : decode cX10_findCosts 41 = .ok (.istore_n 3, 1) := by decide +kernel
theorem dX10_findCosts_42 : decode cX10_findCosts 42 = .ok (.iload_n 3, 1) := by decide +kernel
theorem dX10_findCosts_43 : decode cX10_findCosts 43 = .ok (.bipush 72, 2) := by decide +kernel
theorem dX10_findCosts_45 : decode cX10_findCosts 45 = .ok (.if_icmp .ge 96, 3) := by decide +kernel
theorem dX10_findCosts_48 : decode cX10_findCosts 48 = .ok (.iconst 0, 1) := by decide +kernel
theorem dX10_findCosts_49 : decode cX10_findCosts 49 = .ok (.istore 4, 2) := by decide +kernel
theorem dX10_findCosts_51 : decode cX10_findCosts 51 = .ok (.iload 4, 2) := by decide +kernel
theorem dX10_findCosts_53 : decode cX10_findCosts 53 = .ok (.bipush 72, 2) := by decide +kernel
theorem dX10_findCosts_55 : decode cX10_findCosts 55 = .ok (.if_icmp .ge 80, 3) := by decide +kernel
theorem dX10_findCosts_58 : decode cX10_findCosts 58 = .ok (.aload_n 0, 1) := by decide +kernel
theorem dX10_findCosts_59 : decode cX10_findCosts 59 = .ok (.getfield 43, 3) := by decide +kernel
theorem dX10_findCosts_62 : decode cX10_findCosts 62 = .ok (.iload 4, 2) := by decide +kernel
theorem dX10_findCosts_64 : decode cX10_findCosts 64 = .ok (.iaload, 1) := by decide +kernel
theorem dX10_findCosts_65 : decode cX10_findCosts 65 = .ok (.aload_n 0, 1) := by decide +kernel
theorem dX10_findCosts_66 : decode cX10_findCosts 66 = .ok (.getfield 43, 3) := by decide +kernel
theorem dX10_findCosts_69 : decode cX10_findCosts 69 = .ok (.iload_n 3, 1) := by decide +kernel
theorem dX10_findCosts_70 : decode cX10_findCosts 70 = .ok (.iaload, 1) := by decide +kernel
theorem dX10_findCosts_71 : decode cX10_findCosts 71 = .ok (.if_icmp .ge 13, 3) := by decide +kernel
theorem dX10_findCosts_74 : decode cX10_findCosts 74 = .ok (.aload_n 0, 1) := by decide +kernel
theorem dX10_findCosts_75 : decode cX10_findCosts 75 = .ok (.iload_n 3, 1) := by decide +kernel
theorem dX10_findCosts_76 : decode cX10_findCosts 76 = .ok (.iload 4, 2) := by decide +kernel
theorem dX10_findCosts_78 : decode cX10_findCosts 78 = .ok (.invokevirtual 212, 3) := by decide +kernel
theorem dX10_findCosts_81 : decode cX10_findCosts 81 = .ok (.goto 4, 3) := by decide +kernel
theorem dX10_findCosts_84 : decode cX10_findCosts 84 = .ok (.iconst (-1), 1) := by decide +kernel
theorem dX10_findCosts_85 : decode cX10_findCosts 85 = .ok (.istore 5, 2) := by decide +kernel
theorem dX10_findCosts_87 : decode cX10_findCosts 87 = .ok (.iload 5, 2) := by decide +kernel
theorem dX10_findCosts_89 : decode cX10_findCosts 89 = .ok (.ifCond .le 40, 3) := by decide +kernel
theorem dX10_findCosts_92 : decode cX10_findCosts 92 = .ok (.aload_n 0, 1) := by decide +kernel
theorem dX10_findCosts_93 : decode cX10_findCosts 93 = .ok (.getfield 43, 3) := by decide +kernel
theorem dX10_findCosts_96 : decode cX10_findCosts 96 = .ok (.iload 4, 2) := by decide +kernel
theorem dX10_findCosts_98 : decode cX10_findCosts 98 = .ok (.iaload, 1) := by decide +kernel
theorem dX10_findCosts_99 : decode cX10_findCosts 99 = .ok (.iload 5, 2) := by decide +kernel
theorem dX10_findCosts_101 : decode cX10_findCosts 101 = .ok (.iadd, 1) := by decide +kernel
theorem dX10_findCosts_102 : decode cX10_findCosts 102 = .ok (.aload_n 0, 1) := by decide +kernel
theorem dX10_findCosts_103 : decode cX10_findCosts 103 = .ok (.getfield 43, 3) := by decide +kernel
theorem dX10_findCosts_106 : decode cX10_findCosts 106 = .ok (.iload_n 3, 1) := by decide +kernel
theorem dX10_findCosts_107 : decode cX10_findCosts 107 = .ok (.iaload, 1) := by decide +kernel
theorem dX10_findCosts_108 : decode cX10_findCosts 108 = .ok (.if_icmp .ge 21, 3) := by decide +kernel
theorem dX10_findCosts_111 : decode cX10_findCosts 111 = .ok (.aload_n 0, 1) := by decide +kernel
theorem dX10_findCosts_112 : decode cX10_findCosts 112 = .ok (.getfield 43, 3) := by decide +kernel
theorem dX10_findCosts_115 : decode cX10_findCosts 115 = .ok (.iload_n 3, 1) := by decide +kernel
theorem dX10_findCosts_116 : decode cX10_findCosts 116 = .ok (.aload_n 0, 1) := by decide +kernel
theorem dX10_findCosts_117 : decode cX10_findCosts 117 = .ok (.getfield 43, 3) := by decide +kernel
theorem dX10_findCosts_120 : decode cX10_findCosts 120 = .ok (.iload 4, 2) := by decide +kernel
theorem dX10_findCosts_122 : decode cX10_findCosts 122 = .ok (.iaload, 1) := by decide +kernel
theorem dX10_findCosts_123 : decode cX10_findCosts 123 = .ok (.iload 5, 2) := by decide +kernel
theorem dX10_findCosts_125 : decode cX10_findCosts 125 = .ok (.iadd, 1) := by decide +kernel
theorem dX10_findCosts_126 : decode cX10_findCosts 126 = .ok (.iastore, 1) := by decide +kernel
theorem dX10_findCosts_127 : decode cX10_findCosts 127 = .ok (.iconst 1, 1) := by decide +kernel
theorem dX10_findCosts_128 : decode cX10_findCosts 128 = .ok (.istore_n 2, 1) := by decide +kernel
theorem dX10_findCosts_129 : decode cX10_findCosts 129 = .ok (.iinc 4 1, 3) := by decide +kernel
theorem dX10_findCosts_132 : decode cX10_findCosts 132 = .ok (.goto (-81), 3) := by decide +kernel
theorem dX10_findCosts_135 : decode cX10_findCosts 135 = .ok (.iinc 3 1, 3) := by decide +kernel
theorem dX10_findCosts_138 : decode cX10_findCosts 138 = .ok (.goto (-96), 3) := by decide +kernel
theorem dX10_findCosts_141 : decode cX10_findCosts 141 = .ok (.goto (-107), 3) := by decide +kernel
theorem dX10_findCosts_144 : decode cX10_findCosts 144 = .ok (.return_, 1) := by decide +kernel
theorem dX10_lastSeen_0 : decode cX10_lastSeen 0 = .ok (.aload_n 0, 1) := by decide +kernel
theorem dX10_lastSeen_1 : decode cX10_lastSeen 1 = .ok (.aload_n 0, 1) := by decide +kernel
theorem dX10_lastSeen_2 : decode cX10_lastSeen 2 = .ok (.getfield 9, 3) := by decide +kernel
theorem dX10_lastSeen_5 : decode cX10_lastSeen 5 = .ok (.iconst 2, 1) := by decide +kernel
theorem dX10_lastSeen_6 : decode cX10_lastSeen 6 = .ok (.iaload, 1) := by decide +kernel
theorem dX10_lastSeen_7 : decode cX10_lastSeen 7 = .ok (.invokevirtual 74, 3) := by decide +kernel
theorem dX10_lastSeen_10 : decode cX10_lastSeen 10 = .ok (.ireturn, 1) := by decide +kernel
theorem dX10_reply_0 : decode cX10_reply 0 = .ok (.iload_n 1, 1) := by decide +kernel
theorem dX10_reply_1 : decode cX10_reply 1 = .ok (.invokestatic 91, 3) := by decide +kernel
theorem dX10_reply_4 : decode cX10_reply 4 = .ok (.ifCond .eq 12, 3) := by decide +kernel
theorem dX10_reply_7 : decode cX10_reply 7 = .ok (.iload_n 2, 1) := by decide +kernel
theorem dX10_reply_8 : decode cX10_reply 8 = .ok (.iconst 0, 1) := by decide +kernel
theorem dX10_reply_9 : decode cX10_reply 9 = .ok (.iconst 1, 1) := by decide +kernel
theorem dX10_reply_10 : decode cX10_reply 10 = .ok (.invokestatic 54, 3) := by decide +kernel
theorem dX10_reply_13 : decode cX10_reply 13 = .ok (.ifCond .ne 10, 3) := by decide +kernel
theorem dX10_reply_16 : decode cX10_reply 16 = .ok (.aload_n 0, 1) := by decide +kernel
theorem dX10_reply_17 : decode cX10_reply 17 = .ok (.ldc 94, 2) := by decide +kernel
theorem dX10_reply_19 : decode cX10_reply 19 = .ok (.invokevirtual 95, 3) := by decide +kernel
theorem dX10_reply_22 : decode cX10_reply 22 = .ok (.ireturn, 1) := by decide +kernel
theorem dX10_reply_23 : decode cX10_reply 23 = .ok (.aload_n 0, 1) := by decide +kernel
theorem dX10_reply_24 : decode cX10_reply 24 = .ok (.invokevirtual 215, 3) := by decide +kernel
theorem dX10_reply_27 : decode cX10_reply 27 = .ok (.istore_n 3, 1) := by decide +kernel
theorem dX10_reply_28 : decode cX10_reply 28 = .ok (.iload_n 3, 1) := by decide +kernel
theorem dX10_reply_29 : decode cX10_reply 29 = .ok (.ifCond .ge 10, 3) := by decide +kernel
theorem dX10_reply_32 : decode cX10_reply 32 = .ok (.aload_n 0, 1) := by decide +kernel
theorem dX10_reply_33 : decode cX10_reply 33 = .ok (.ldc 180, 2) := by decide +kernel
theorem dX10_reply_35 : decode cX10_reply 35 = .ok (.invokevirtual 95, 3) := by decide +kernel
theorem dX10_reply_38 : decode cX10_reply 38 = .ok (.ireturn, 1) := by decide +kernel
theorem dX10_reply_39 : decode cX10_reply 39 = .ok (.bipush 6, 2) := by decide +kernel
theorem dX10_reply_41 : decode cX10_reply 41 = .ok (.aload_n 0, 1) := by decide +kernel
theorem dX10_reply_42 : decode cX10_reply 42 = .ok (.iload_n 3, 1) := by decide +kernel
theorem dX10_reply_43 : decode cX10_reply 43 = .ok (.iconst 2, 1) := by decide +kernel
theorem dX10_reply_44 : decode cX10_reply 44 = .ok (.invokevirtual 58, 3) := by decide +kernel
theorem dX10_reply_47 : decode cX10_reply 47 = .ok (.iconst 1, 1) := by decide +kernel
theorem dX10_reply_48 : decode cX10_reply 48 = .ok (.isub, 1) := by decide +kernel
theorem dX10_reply_49 : decode cX10_reply 49 = .ok (.imul, 1) := by decide +kernel
theorem dX10_reply_50 : decode cX10_reply 50 = .ok (.aload_n 0, 1) := by decide +kernel
theorem dX10_reply_51 : decode cX10_reply 51 = .ok (.iload_n 3, 1) := by decide +kernel
theorem dX10_reply_52 : decode cX10_reply 52 = .ok (.iconst 3, 1) := by decide +kernel
theorem dX10_reply_53 : decode cX10_reply 53 = .ok (.invokevirtual 58, 3) := by decide +kernel
theorem dX10_reply_56 : decode cX10_reply 56 = .ok (.iadd, 1) := by decide +kernel
theorem dX10_reply_57 : decode cX10_reply 57 = .ok (.istore 4, 2) := by decide +kernel
theorem dX10_reply_59 : decode cX10_reply 59 = .ok (.aload_n 0, 1) := by decide +kernel
theorem dX10_reply_60 : decode cX10_reply 60 = .ok (.bipush 6, 2) := by decide +kernel
theorem dX10_reply_62 : decode cX10_reply 62 = .ok (.iload_n 1, 1) := by decide +kernel
theorem dX10_reply_63 : decode cX10_reply 63 = .ok (.bipush 10, 2) := by decide +kernel
theorem dX10_reply_65 : decode cX10_reply 65 = .ok (.idiv, 1) := by decide +kernel
theorem dX10_reply_66 : decode cX10_reply 66 = .ok (.iconst 1, 1) := by decide +kernel
theorem dX10_reply_67 : decode cX10_reply 67 = .ok (.isub, 1) := by decide +kernel
theorem dX10_reply_68 : decode cX10_reply 68 = .ok (.imul, 1) := by decide +kernel
theorem dX10_reply_69 : decode cX10_reply 69 = .ok (.iload_n 1, 1) := by decide +kernel
theorem dX10_reply_70 : decode cX10_reply 70 = .ok (.bipush 10, 2) := by decide +kernel
theorem dX10_reply_72 : decode cX10_reply 72 = .ok (.irem, 1) := by decide +kernel
theorem dX10_reply_73 : decode cX10_reply 73 = .ok (.iadd, 1) := by decide +kernel
theorem dX10_reply_74 : decode cX10_reply 74 = .ok (.invokevirtual 218, 3) := by decide +kernel
theorem dX10_reply_77 : decode cX10_reply 77 = .ok (.iload_n 2, 1) := by decide +kernel
theorem dX10_reply_78 : decode cX10_reply 78 = .ok (.ifCond .ne 11, 3) := by decide +kernel
theorem dX10_reply_81 : decode cX10_reply 81 = .ok (.aload_n 0, 1) := by decide +kernel
theorem dX10_reply_82 : decode cX10_reply 82 = .ok (.getfield 43, 3) := by decide +kernel
theorem dX10_reply_85 : decode cX10_reply 85 = .ok (.iload 4, 2) := by decide +kernel
theorem dX10_reply_87 : decode cX10_reply 87 = .ok (.iaload, 1) := by decide +kernel
theorem dX10_reply_88 : decode cX10_reply 88 = .ok (.ireturn, 1) := by decide +kernel
theorem dX10_reply_89 : decode cX10_reply 89 = .ok (.iconst 0, 1) := by decide +kernel
theorem dX10_reply_90 : decode cX10_reply 90 = .ok (.istore 5, 2) := by decide +kernel
theorem dX10_reply_92 : decode cX10_reply 92 = .ok (.iload 5, 2) := by decide +kernel
theorem dX10_reply_94 : decode cX10_reply 94 = .ok (.bipush 72, 2) := by decide +kernel
theorem dX10_reply_96 : decode cX10_reply 96 = .ok (.if_icmp .ge 71, 3) := by decide +kernel
theorem dX10_reply_99 : decode cX10_reply 99 = .ok (.aload_n 0, 1) := by decide +kernel
theorem dX10_reply_100 : decode cX10_reply 100 = .ok (.getfield 43, 3) := by decide +kernel
theorem dX10_reply_103 : decode cX10_reply 103 = .ok (.iload 4, 2) := by decide +kernel
theorem dX10_reply_105 : decode cX10_reply 105 = .ok (.iaload, 1) := by decide +kernel
theorem dX10_reply_106 : decode cX10_reply 106 = .ok (.ifCond .le 61, 3) := by decide +kernel
theorem dX10_reply_109 : decode cX10_reply 109 = .ok (.aload_n 0, 1) := by decide +kernel
theorem dX10_reply_110 : decode cX10_reply 110 = .ok (.iload 4, 2) := by decide +kernel
theorem dX10_reply_112 : decode cX10_reply 112 = .ok (.iload 5, 2) := by decide +kernel
theorem dX10_reply_114 : decode cX10_reply 114 = .ok (.invokevirtual 212, 3) := by decide +kernel
theorem dX10_reply_117 : decode cX10_reply 117 = .ok (.istore 6, 2) := by decide +kernel
theorem dX10_reply_119 : decode cX10_reply 119 = .ok (.iload 6, 2) := by decide +kernel
theorem dX10_reply_121 : decode cX10_reply 121 = .ok (.ifCond .le 40, 3) := by decide +kernel
theorem dX10_reply_124 : decode cX10_reply 124 = .ok (.aload_n 0, 1) := by decide +kernel
theorem dX10_reply_125 : decode cX10_reply 125 = .ok (.getfield 43, 3) := by decide +kernel
theorem dX10_reply_128 : decode cX10_reply 128 = .ok (.iload 5, 2) := by decide +kernel
theorem dX10_reply_130 : decode cX10_reply 130 = .ok (.iaload, 1) := by decide +kernel
theorem dX10_reply_131 : decode cX10_reply 131 = .ok (.iload 6, 2) := by decide +kernel
theorem dX10_reply_133 : decode cX10_reply 133 = .ok (.iadd, 1) := by decide +kernel
theorem dX10_reply_134 : decode cX10_reply 134 = .ok (.aload_n 0, 1) := by decide +kernel
theorem dX10_reply_135 : decode cX10_reply 135 = .ok (.getfield 43, 3) := by decide +kernel
theorem dX10_reply_138 : decode cX10_reply 138 = .ok (.iload 4, 2) := by decide +kernel
theorem dX10_reply_140 : decode cX10_reply 140 = .ok (.iaload, 1) := by decide +kernel
theorem dX10_reply_141 : decode cX10_reply 141 = .ok (.if_icmp .ne 20, 3) := by decide +kernel
theorem dX10_reply_144 : decode cX10_reply 144 = .ok (.bipush 10, 2) := by decide +kernel
theorem dX10_reply_146 : decode cX10_reply 146 = .ok (.iconst 1, 1) := by decide +kernel
theorem dX10_reply_147 : decode cX10_reply 147 = .ok (.iload 5, 2) := by decide +kernel
theorem dX10_reply_149 : decode cX10_reply 149 = .ok (.bipush 6, 2) := by decide +kernel
theorem dX10_reply_151 : decode cX10_reply 151 = .ok (.idiv, 1) := by decide +kernel
theorem dX10_reply_152 : decode cX10_reply 152 = .ok (.iadd, 1) := by decide +kernel
theorem dX10_reply_153 : decode cX10_reply 153 = .ok (.imul, 1) := by decide +kernel
theorem dX10_reply_154 : decode cX10_reply 154 = .ok (.iload 5, 2) := by decide +kernel
theorem dX10_reply_156 : decode cX10_reply 156 = .ok (.bipush 6, 2) := by decide +kernel
theorem dX10_reply_158 : decode cX10_reply 158 = .ok (.irem, 1) := by decide +kernel
theorem dX10_reply_159 : decode cX10_reply 159 = .ok (.iadd, 1) := by decide +kernel
theorem dX10_reply_160 : decode cX10_reply 160 = .ok (.ireturn, 1) := by decide +kernel
theorem dX10_reply_161 : decode cX10_reply 161 = .ok (.iinc 5 1, 3) := by decide +kernel
theorem dX10_reply_164 : decode cX10_reply 164 = .ok (.goto (-72), 3) := by decide +kernel
theorem dX10_reply_167 : decode cX10_reply 167 = .ok (.iconst (-1), 1) := by decide +kernel
theorem dX10_reply_168 : decode cX10_reply 168 = .ok (.ireturn, 1) := by decide +kernel
theorem dX10_odds_0 : decode cX10_odds 0 = .ok (.iload_n 1, 1) := by decide +kernel
theorem dX10_odds_1 : decode cX10_odds 1 = .ok (.invokestatic 88, 3) := by decide +kernel
theorem dX10_odds_4 : decode cX10_odds 4 = .ok (.ifCond .eq 21, 3) := by decide +kernel
theorem dX10_odds_7 : decode cX10_odds 7 = .ok (.iload_n 2, 1) := by decide +kernel
theorem dX10_odds_8 : decode cX10_odds 8 = .ok (.iconst 0, 1) := by decide +kernel
theorem dX10_odds_9 : decode cX10_odds 9 = .ok (.iconst 5, 1) := by decide +kernel
theorem dX10_odds_10 : decode cX10_odds 10 = .ok (.invokestatic 54, 3) := by decide +kernel
theorem dX10_odds_13 : decode cX10_odds 13 = .ok (.ifCond .eq 12, 3) := by decide +kernel
theorem dX10_odds_16 : decode cX10_odds 16 = .ok (.iload_n 3, 1) := by decide +kernel
theorem dX10_odds_17 : decode cX10_odds 17 = .ok (.iconst 0, 1) := by decide +kernel
theorem dX10_odds_18 : decode cX10_odds 18 = .ok (.iconst 1, 1) := by decide +kernel
theorem dX10_odds_19 : decode cX10_odds 19 = .ok (.invokestatic 54, 3) := by decide +kernel
theorem dX10_odds_22 : decode cX10_odds 22 = .ok (.ifCond .ne 10, 3) := by decide +kernel
theorem dX10_odds_25 : decode cX10_odds 25 = .ok (.aload_n 0, 1) := by decide +kernel
theorem dX10_odds_26 : decode cX10_odds 26 = .ok (.ldc 94, 2) := by decide +kernel
theorem dX10_odds_28 : decode cX10_odds 28 = .ok (.invokevirtual 95, 3) := by decide +kernel
theorem dX10_odds_31 : decode cX10_odds 31 = .ok (.ireturn, 1) := by decide +kernel
theorem dX10_odds_32 : decode cX10_odds 32 = .ok (.aload_n 0, 1) := by decide +kernel
theorem dX10_odds_33 : decode cX10_odds 33 = .ok (.invokevirtual 215, 3) := by decide +kernel
theorem dX10_odds_36 : decode cX10_odds 36 = .ok (.istore 4, 2) := by decide +kernel
theorem dX10_odds_38 : decode cX10_odds 38 = .ok (.iload 4, 2) := by decide +kernel
theorem dX10_odds_40 : decode cX10_odds 40 = .ok (.ifCond .lt 14, 3) := by decide +kernel
theorem dX10_odds_43 : decode cX10_odds 43 = .ok (.aload_n 0, 1) := by decide +kernel
theorem dX10_odds_44 : decode cX10_odds 44 = .ok (.getfield 9, 3) := by decide +kernel
theorem dX10_odds_47 : decode cX10_odds 47 = .ok (.iconst 2, 1) := by decide +kernel
theorem dX10_odds_48 : decode cX10_odds 48 = .ok (.iaload, 1) := by decide +kernel
theorem dX10_odds_49 : decode cX10_odds 49 = .ok (.bipush 12, 2) := by decide +kernel
theorem dX10_odds_51 : decode cX10_odds 51 = .ok (.if_icmp .ne 10, 3) := by decide +kernel
theorem dX10_odds_54 : decode cX10_odds 54 = .ok (.aload_n 0, 1) := by decide +kernel
theorem dX10_odds_55 : decode cX10_odds 55 = .ok (.ldc 180, 2) := by decide +kernel
theorem dX10_odds_57 : decode cX10_odds 57 = .ok (.invokevirtual 95, 3) := by decide +kernel
theorem dX10_odds_60 : decode cX10_odds 60 = .ok (.ireturn, 1) := by decide +kernel
theorem dX10_odds_61 : decode cX10_odds 61 = .ok (.iconst 0, 1) := by decide +kernel
theorem dX10_odds_62 : decode cX10_odds 62 = .ok (.istore 5, 2) := by decide +kernel
theorem dX10_odds_64 : decode cX10_odds 64 = .ok (.iconst 0, 1) := by decide +kernel
theorem dX10_odds_65 : decode cX10_odds 65 = .ok (.istore 6, 2) := by decide +kernel
theorem dX10_odds_67 : decode cX10_odds 67 = .ok (.iload 6, 2) := by decide +kernel
theorem dX10_odds_69 : decode cX10_odds 69 = .ok (.bipush 72, 2) := by decide +kernel
theorem dX10_odds_71 : decode cX10_odds 71 = .ok (.if_icmp .ge 60, 3) := by decide +kernel
theorem dX10_odds_74 : decode cX10_odds 74 = .ok (.aload_n 0, 1) := by decide +kernel
theorem dX10_odds_75 : decode cX10_odds 75 = .ok (.iload_n 1, 1) := by decide +kernel
theorem dX10_odds_76 : decode cX10_odds 76 = .ok (.iconst 1, 1) := by decide +kernel
theorem dX10_odds_77 : decode cX10_odds 77 = .ok (.iload 6, 2) := by decide +kernel
theorem dX10_odds_79 : decode cX10_odds 79 = .ok (.bipush 6, 2) := by decide +kernel
theorem dX10_odds_81 : decode cX10_odds 81 = .ok (.idiv, 1) := by decide +kernel
theorem dX10_odds_82 : decode cX10_odds 82 = .ok (.iadd, 1) := by decide +kernel
theorem dX10_odds_83 : decode cX10_odds 83 = .ok (.iload 6, 2) := by decide +kernel
theorem dX10_odds_85 : decode cX10_odds 85 = .ok (.bipush 6, 2) := by decide +kernel
theorem dX10_odds_87 : decode cX10_odds 87 = .ok (.irem, 1) := by decide +kernel
theorem dX10_odds_88 : decode cX10_odds 88 = .ok (.iload_n 2, 1) := by decide +kernel
theorem dX10_odds_89 : decode cX10_odds 89 = .ok (.invokevirtual 99, 3) := by decide +kernel
theorem dX10_odds_92 : decode cX10_odds 92 = .ok (.istore 7, 2) := by decide +kernel
theorem dX10_odds_94 : decode cX10_odds 94 = .ok (.iload 5, 2) := by decide +kernel
theorem dX10_odds_96 : decode cX10_odds 96 = .ok (.aload_n 0, 1) := by decide +kernel
theorem dX10_odds_97 : decode cX10_odds 97 = .ok (.iload 7, 2) := by decide +kernel
theorem dX10_odds_99 : decode cX10_odds 99 = .ok (.iload 4, 2) := by decide +kernel
theorem dX10_odds_101 : decode cX10_odds 101 = .ok (.invokevirtual 70, 3) := by decide +kernel
theorem dX10_odds_104 : decode cX10_odds 104 = .ok (.ifCond .eq 7, 3) := by decide +kernel
theorem dX10_odds_107 : decode cX10_odds 107 = .ok (.iconst 1, 1) := by decide +kernel
theorem dX10_odds_108 : decode cX10_odds 108 = .ok (.goto 4, 3) := by decide +kernel
theorem dX10_odds_111 : decode cX10_odds 111 = .ok (.iconst 0, 1) := by decide +kernel
theorem dX10_odds_112 : decode cX10_odds 112 = .ok (.iadd, 1) := by decide +kernel
theorem dX10_odds_113 : decode cX10_odds 113 = .ok (.istore 5, 2) := by decide +kernel
theorem dX10_odds_115 : decode cX10_odds 115 = .ok (.aload_n 0, 1) := by decide +kernel
theorem dX10_odds_116 : decode cX10_odds 116 = .ok (.getfield 9, 3) := by decide +kernel
theorem dX10_odds_119 : decode cX10_odds 119 = .ok (.iconst 2, 1) := by decide +kernel
theorem dX10_odds_120 : decode cX10_odds 120 = .ok (.dup2, 1) := by decide +kernel
theorem dX10_odds_121 : decode cX10_odds 121 = .ok (.iaload, 1) := by decide +kernel
theorem dX10_odds_122 : decode cX10_odds 122 = .ok (.iconst 1, 1) := by decide +kernel
theorem dX10_odds_123 : decode cX10_odds 123 = .ok (.isub, 1) := by decide +kernel
theorem dX10_odds_124 : decode cX10_odds 124 = .ok (.iastore, 1) := by decide +kernel
theorem dX10_odds_125 : decode cX10_odds 125 = .ok (.iinc 6 1, 3) := by decide +kernel
theorem dX10_odds_128 : decode cX10_odds 128 = .ok (.goto (-61), 3) := by decide +kernel
theorem dX10_odds_131 : decode cX10_odds 131 = .ok (.bipush 72, 2) := by decide +kernel
theorem dX10_odds_133 : decode cX10_odds 133 = .ok (.istore 6, 2) := by decide +kernel
theorem dX10_odds_135 : decode cX10_odds 135 = .ok (.bipush 72, 2) := by decide +kernel
theorem dX10_odds_137 : decode cX10_odds 137 = .ok (.istore 7, 2) := by decide +kernel
theorem dX10_odds_139 : decode cX10_odds 139 = .ok (.iload 7, 2) := by decide +kernel
theorem dX10_odds_141 : decode cX10_odds 141 = .ok (.iconst 1, 1) := by decide +kernel
theorem dX10_odds_142 : decode cX10_odds 142 = .ok (.if_icmp .le 39, 3) := by decide +kernel
theorem dX10_odds_145 : decode cX10_odds 145 = .ok (.iload 5, 2) := by decide +kernel
theorem dX10_odds_147 : decode cX10_odds 147 = .ok (.iload 7, 2) := by decide +kernel
theorem dX10_odds_149 : decode cX10_odds 149 = .ok (.irem, 1) := by decide +kernel
theorem dX10_odds_150 : decode cX10_odds 150 = .ok (.ifCond .ne 25, 3) := by decide +kernel
theorem dX10_odds_153 : decode cX10_odds 153 = .ok (.iload 6, 2) := by decide +kernel
theorem dX10_odds_155 : decode cX10_odds 155 = .ok (.iload 7, 2) := by decide +kernel
theorem dX10_odds_157 : decode cX10_odds 157 = .ok (.irem, 1) := by decide +kernel
theorem dX10_odds_158 : decode cX10_odds 158 = .ok (.ifCond .ne 17, 3) := by decide +kernel
theorem dX10_odds_161 : decode cX10_odds 161 = .ok (.iload 5, 2) := by decide +kernel
theorem dX10_odds_163 : decode cX10_odds 163 = .ok (.iload 7, 2) := by decide +kernel
theorem dX10_odds_165 : decode cX10_odds 165 = .ok (.idiv, 1) := by decide +kernel
theorem dX10_odds_166 : decode cX10_odds 166 = .ok (.istore 5, 2) := by decide +kernel
theorem dX10_odds_168 : decode cX10_odds 168 = .ok (.iload 6, 2) := by decide +kernel
theorem dX10_odds_170 : decode cX10_odds 170 = .ok (.iload 7, 2) := by decide +kernel
theorem dX10_odds_172 : decode cX10_odds 172 = .ok (.idiv, 1) := by decide +kernel
theorem dX10_odds_173 : decode cX10_odds 173 = .ok (.istore 6, 2) := by decide +kernel
theorem dX10_odds_175 : decode cX10_odds 175 = .ok (.iinc 7 (-1), 3) := by decide +kernel
theorem dX10_odds_178 : decode cX10_odds 178 = .ok (.goto (-39), 3) := by decide +kernel
theorem dX10_odds_181 : decode cX10_odds 181 = .ok (.iload_n 3, 1) := by decide +kernel
theorem dX10_odds_182 : decode cX10_odds 182 = .ok (.ifCond .ne 8, 3) := by decide +kernel
theorem dX10_odds_185 : decode cX10_odds 185 = .ok (.iload 5, 2) := by decide +kernel
theorem dX10_odds_187 : decode cX10_odds 187 = .ok (.goto 5, 3) := by decide +kernel
theorem dX10_odds_190 : decode cX10_odds 190 = .ok (.iload 6, 2) := by decide +kernel
theorem dX10_odds_192 : decode cX10_odds 192 = .ok (.ireturn, 1) := by decide +kernel
theorem dX10_isSo_0 : decode cX10_isSo 0 = .ok (.iconst 0, 1) := by decide +kernel
theorem dX10_isSo_1 : decode cX10_isSo 1 = .ok (.istore_n 2, 1) := by decide +kernel
theorem dX10_isSo_2 : decode cX10_isSo 2 = .ok (.iconst 1, 1) := by decide +kernel
theorem dX10_isSo_3 : decode cX10_isSo 3 = .ok (.istore_n 3, 1) := by decide +kernel
theorem dX10_isSo_4 : decode cX10_isSo 4 = .ok (.iconst 0, 1) := by decide +kernel
theorem dX10_isSo_5 : decode cX10_isSo 5 = .ok (.istore 4, 2) := by decide +kernel
theorem dX10_isSo_7 : decode cX10_isSo 7 = .ok (.iload 4, 2) := by decide +kernel
theorem dX10_isSo_9 : decode cX10_isSo 9 = .ok (.aload_n 0, 1) := by decide +kernel
theorem dX10_isSo_10 : decode cX10_isSo 10 = .ok (.getfield 9, 3) := by decide +kernel
theorem dX10_isSo_13 : decode cX10_isSo 13 = .ok (.iconst 2, 1) := by decide +kernel
theorem dX10_isSo_14 : decode cX10_isSo 14 = .ok (.iaload, 1) := by decide +kernel
theorem dX10_isSo_15 : decode cX10_isSo 15 = .ok (.if_icmp .ge 62, 3) := by decide +kernel
theorem dX10_isSo_18 : decode cX10_isSo 18 = .ok (.aload_n 0, 1) := by decide +kernel
theorem dX10_isSo_19 : decode cX10_isSo 19 = .ok (.iload 4, 2) := by decide +kernel
theorem dX10_isSo_21 : decode cX10_isSo 21 = .ok (.invokevirtual 62, 3) := by decide +kernel
theorem dX10_isSo_24 : decode cX10_isSo 24 = .ok (.ifCond .eq 47, 3) := by decide +kernel
theorem dX10_isSo_27 : decode cX10_isSo 27 = .ok (.iload_n 3, 1) := by decide +kernel
theorem dX10_isSo_28 : decode cX10_isSo 28 = .ok (.ifCond .eq 38, 3) := by decide +kernel
theorem dX10_isSo_31 : decode cX10_isSo 31 = .ok (.iload_n 2, 1) := by decide +kernel
theorem dX10_isSo_32 : decode cX10_isSo 32 = .ok (.aload_n 0, 1) := by decide +kernel
theorem dX10_isSo_33 : decode cX10_isSo 33 = .ok (.getfield 25, 3) := by decide +kernel
theorem dX10_isSo_36 : decode cX10_isSo 36 = .ok (.iload_n 1, 1) := by decide +kernel
theorem dX10_isSo_37 : decode cX10_isSo 37 = .ok (.iaload, 1) := by decide +kernel
theorem dX10_isSo_38 : decode cX10_isSo 38 = .ok (.if_icmp .ge 28, 3) := by decide +kernel
theorem dX10_isSo_41 : decode cX10_isSo 41 = .ok (.aload_n 0, 1) := by decide +kernel
theorem dX10_isSo_42 : decode cX10_isSo 42 = .ok (.getfield 28, 3) := by decide +kernel
theorem dX10_isSo_45 : decode cX10_isSo 45 = .ok (.bipush 24, 2) := by decide +kernel
theorem dX10_isSo_47 : decode cX10_isSo 47 = .ok (.iload_n 1, 1) := by decide +kernel
theorem dX10_isSo_48 : decode cX10_isSo 48 = .ok (.imul, 1) := by decide +kernel
theorem dX10_isSo_49 : decode cX10_isSo 49 = .ok (.iload_n 2, 1) := by decide +kernel
theorem dX10_isSo_50 : decode cX10_isSo 50 = .ok (.iadd, 1) := by decide +kernel
theorem dX10_isSo_51 : decode cX10_isSo 51 = .ok (.iaload, 1) := by decide +kernel
theorem dX10_isSo_52 : decode cX10_isSo 52 = .ok (.aload_n 0, 1) := by decide +kernel
theorem dX10_isSo_53 : decode cX10_isSo 53 = .ok (.iload 4, 2) := by decide +kernel
theorem dX10_isSo_55 : decode cX10_isSo 55 = .ok (.iconst 2, 1) := by decide +kernel
theorem dX10_isSo_56 : decode cX10_isSo 56 = .ok (.invokevirtual 58, 3) := by decide +kernel
theorem dX10_isSo_59 : decode cX10_isSo 59 = .ok (.if_icmp .ne 7, 3) := by decide +kernel
theorem dX10_isSo_62 : decode cX10_isSo 62 = .ok (.iconst 1, 1) := by decide +kernel
theorem dX10_isSo_63 : decode cX10_isSo 63 = .ok (.goto 4, 3) := by decide +kernel
theorem dX10_isSo_66 : decode cX10_isSo 66 = .ok (.iconst 0, 1) := by decide +kernel
theorem dX10_isSo_67 : decode cX10_isSo 67 = .ok (.istore_n 3, 1) := by decide +kernel
theorem dX10_isSo_68 : decode cX10_isSo 68 = .ok (.iinc 2 1, 3) := by decide +kernel
theorem dX10_isSo_71 : decode cX10_isSo 71 = .ok (.iinc 4 1, 3) := by decide +kernel
theorem dX10_isSo_74 : decode cX10_isSo 74 = .ok (.goto (-67), 3) := by decide +kernel
theorem dX10_isSo_77 : decode cX10_isSo 77 = .ok (.iload_n 3, 1) := by decide +kernel
theorem dX10_isSo_78 : decode cX10_isSo 78 = .ok (.ifCond .eq 17, 3) := by decide +kernel
theorem dX10_isSo_81 : decode cX10_isSo 81 = .ok (.iload_n 2, 1) := by decide +kernel
theorem dX10_isSo_82 : decode cX10_isSo 82 = .ok (.aload_n 0, 1) := by decide +kernel
theorem dX10_isSo_83 : decode cX10_isSo 83 = .ok (.getfield 25, 3) := by decide +kernel
theorem dX10_isSo_86 : decode cX10_isSo 86 = .ok (.iload_n 1, 1) := by decide +kernel
theorem dX10_isSo_87 : decode cX10_isSo 87 = .ok (.iaload, 1) := by decide +kernel
theorem dX10_isSo_88 : decode cX10_isSo 88 = .ok (.if_icmp .ne 7, 3) := by decide +kernel
theorem dX10_isSo_91 : decode cX10_isSo 91 = .ok (.iconst 1, 1) := by decide +kernel
theorem dX10_isSo_92 : decode cX10_isSo 92 = .ok (.goto 4, 3) := by decide +kernel
theorem dX10_isSo_95 : decode cX10_isSo 95 = .ok (.iconst 0, 1) := by decide +kernel
theorem dX10_isSo_96 : decode cX10_isSo 96 = .ok (.ireturn, 1) := by decide +kernel
theorem dX10_fits_0 : decode cX10_fits 0 = .ok (.aload_n 0, 1) := by decide +kernel
theorem dX10_fits_1 : decode cX10_fits 1 = .ok (.iload_n 1, 1) := by decide +kernel
theorem dX10_fits_2 : decode cX10_fits 2 = .ok (.invokevirtual 221, 3) := by decide +kernel
theorem dX10_fits_5 : decode cX10_fits 5 = .ok (.istore_n 2, 1) := by decide +kernel
theorem dX10_fits_6 : decode cX10_fits 6 = .ok (.iload_n 2, 1) := by decide +kernel
theorem dX10_fits_7 : decode cX10_fits 7 = .ok (.ifCond .eq 9, 3) := by decide +kernel
theorem dX10_fits_10 : decode cX10_fits 10 = .ok (.aload_n 0, 1) := by decide +kernel
theorem dX10_fits_11 : decode cX10_fits 11 = .ok (.iload_n 2, 1) := by decide +kernel
theorem dX10_fits_12 : decode cX10_fits 12 = .ok (.invokevirtual 95, 3) := by decide +kernel
theorem dX10_fits_15 : decode cX10_fits 15 = .ok (.ireturn, 1) := by decide +kernel
theorem dX10_fits_16 : decode cX10_fits 16 = .ok (.aload_n 0, 1) := by decide +kernel
theorem dX10_fits_17 : decode cX10_fits 17 = .ok (.invokevirtual 203, 3) := by decide +kernel
theorem dX10_fits_20 : decode cX10_fits 20 = .ok (.iconst 0, 1) := by decide +kernel
theorem dX10_fits_21 : decode cX10_fits 21 = .ok (.istore_n 3, 1) := by decide +kernel
theorem dX10_fits_22 : decode cX10_fits 22 = .ok (.iload_n 3, 1) := by decide +kernel
theorem dX10_fits_23 : decode cX10_fits 23 = .ok (.bipush 60, 2) := by decide +kernel
theorem dX10_fits_25 : decode cX10_fits 25 = .ok (.if_icmp .gt 21, 3) := by decide +kernel
theorem dX10_fits_28 : decode cX10_fits 28 = .ok (.aload_n 0, 1) := by decide +kernel
theorem dX10_fits_29 : decode cX10_fits 29 = .ok (.iload_n 1, 1) := by decide +kernel
theorem dX10_fits_30 : decode cX10_fits 30 = .ok (.invokevirtual 224, 3) := by decide +kernel
theorem dX10_fits_33 : decode cX10_fits 33 = .ok (.ifCond .ne 13, 3) := by decide +kernel
theorem dX10_fits_36 : decode cX10_fits 36 = .ok (.aload_n 0, 1) := by decide +kernel
theorem dX10_fits_37 : decode cX10_fits 37 = .ok (.invokevirtual 181, 3) := by decide +kernel
theorem dX10_fits_40 : decode cX10_fits 40 = .ok (.iinc 3 1, 3) := by decide +kernel
theorem dX10_fits_43 : decode cX10_fits 43 = .ok (.goto (-21), 3) := by decide +kernel
theorem dX10_fits_46 : decode cX10_fits 46 = .ok (.aload_n 0, 1) := by decide +kernel
theorem dX10_fits_47 : decode cX10_fits 47 = .ok (.invokevirtual 206, 3) := by decide +kernel
theorem dX10_fits_50 : decode cX10_fits 50 = .ok (.iload_n 3, 1) := by decide +kernel
theorem dX10_fits_51 : decode cX10_fits 51 = .ok (.bipush 60, 2) := by decide +kernel
theorem dX10_fits_53 : decode cX10_fits 53 = .ok (.if_icmp .le 12, 3) := by decide +kernel
theorem dX10_fits_56 : decode cX10_fits 56 = .ok (.aload_n 0, 1) := by decide +kernel
theorem dX10_fits_57 : decode cX10_fits 57 = .ok (.ldc 227, 2) := by decide +kernel
theorem dX10_fits_59 : decode cX10_fits 59 = .ok (.invokevirtual 95, 3) := by decide +kernel
theorem dX10_fits_62 : decode cX10_fits 62 = .ok (.goto 4, 3) := by decide +kernel
theorem dX10_fits_65 : decode cX10_fits 65 = .ok (.iload_n 3, 1) := by decide +kernel
theorem dX10_fits_66 : decode cX10_fits 66 = .ok (.ireturn, 1) := by decide +kernel
theorem dX10_begins_0 : decode cX10_begins 0 = .ok (.aload_n 0, 1) := by decide +kernel
theorem dX10_begins_1 : decode cX10_begins 1 = .ok (.getfield 228, 3) := by decide +kernel
theorem dX10_begins_4 : decode cX10_begins 4 = .ok (.bipush 30, 2) := by decide +kernel
theorem dX10_begins_6 : decode cX10_begins 6 = .ok (.if_icmp .ge 23, 3) := by decide +kernel
theorem dX10_begins_9 : decode cX10_begins 9 = .ok (.aload_n 0, 1) := by decide +kernel
theorem dX10_begins_10 : decode cX10_begins 10 = .ok (.getfield 46, 3) := by decide +kernel
theorem dX10_begins_13 : decode cX10_begins 13 = .ok (.aload_n 0, 1) := by decide +kernel
theorem dX10_begins_14 : decode cX10_begins 14 = .ok (.getfield 228, 3) := by decide +kernel
theorem dX10_begins_17 : decode cX10_begins 17 = .ok (.iload_n 1, 1) := by decide +kernel
theorem dX10_begins_18 : decode cX10_begins 18 = .ok (.iastore, 1) := by decide +kernel
theorem dX10_begins_19 : decode cX10_begins 19 = .ok (.aload_n 0, 1) := by decide +kernel
theorem dX10_begins_20 : decode cX10_begins 20 = .ok (.dup, 1) := by decide +kernel
theorem dX10_begins_21 : decode cX10_begins 21 = .ok (.getfield 228, 3) := by decide +kernel
theorem dX10_begins_24 : decode cX10_begins 24 = .ok (.iconst 1, 1) := by decide +kernel
theorem dX10_begins_25 : decode cX10_begins 25 = .ok (.iadd, 1) := by decide +kernel
theorem dX10_begins_26 : decode cX10_begins 26 = .ok (.putfield 228, 3) := by decide +kernel
theorem dX10_begins_29 : decode cX10_begins 29 = .ok (.return_, 1) := by decide +kernel
theorem dX10_plainSays_0 : decode cX10_plainSays 0 = .ok (.aload_n 0, 1) := by decide +kernel
theorem dX10_plainSays_1 : decode cX10_plainSays 1 = .ok (.bipush 10, 2) := by decide +kernel
theorem dX10_plainSays_3 : decode cX10_plainSays 3 = .ok (.invokevirtual 231, 3) := by decide +kernel
theorem dX10_plainSays_6 : decode cX10_plainSays 6 = .ok (.iload_n 2, 1) := by decide +kernel
theorem dX10_plainSays_7 : decode cX10_plainSays 7 = .ok (.iload_n 1, 1) := by decide +kernel
theorem dX10_plainSays_8 : decode cX10_plainSays 8 = .ok (.iadd, 1) := by decide +kernel
theorem dX10_plainSays_9 : decode cX10_plainSays 9 = .ok (.ireturn, 1) := by decide +kernel
theorem dX10_oathSays_0 : decode cX10_oathSays 0 = .ok (.aload_n 0, 1) := by decide +kernel
theorem dX10_oathSays_1 : decode cX10_oathSays 1 = .ok (.bipush 20, 2) := by decide +kernel
theorem dX10_oathSays_3 : decode cX10_oathSays 3 = .ok (.invokevirtual 231, 3) := by decide +kernel
theorem dX10_oathSays_6 : decode cX10_oathSays 6 = .ok (.aload_n 0, 1) := by decide +kernel
theorem dX10_oathSays_7 : decode cX10_oathSays 7 = .ok (.iload_n 1, 1) := by decide +kernel
theorem dX10_oathSays_8 : decode cX10_oathSays 8 = .ok (.iload_n 2, 1) := by decide +kernel
theorem dX10_oathSays_9 : decode cX10_oathSays 9 = .ok (.invokevirtual 234, 3) := by decide +kernel
theorem dX10_oathSays_12 : decode cX10_oathSays 12 = .ok (.iconst 4, 1) := by decide +kernel
theorem dX10_oathSays_13 : decode cX10_oathSays 13 = .ok (.isub, 1) := by decide +kernel
theorem dX10_oathSays_14 : decode cX10_oathSays 14 = .ok (.ireturn, 1) := by decide +kernel
theorem dX10_says_0 : decode cX10_says 0 = .ok (.aload_n 0, 1) := by decide +kernel
theorem dX10_says_1 : decode cX10_says 1 = .ok (.iload_n 1, 1) := by decide +kernel
theorem dX10_says_2 : decode cX10_says 2 = .ok (.iconst 0, 1) := by decide +kernel
theorem dX10_says_3 : decode cX10_says 3 = .ok (.invokevirtual 58, 3) := by decide +kernel
theorem dX10_says_6 : decode cX10_says 6 = .ok (.lookupswitch 65 #[(1, 34), (4, 41), (6, 56)], 34) := by decide +kernel
theorem dX10_says_40 : decode cX10_says 40 = .ok (.aload_n 0, 1) := by decide +kernel
theorem dX10_says_41 : decode cX10_says 41 = .ok (.iload_n 1, 1) := by decide +kernel
theorem dX10_says_42 : decode cX10_says 42 = .ok (.iload_n 2, 1) := by decide +kernel
theorem dX10_says_43 : decode cX10_says 43 = .ok (.invokevirtual 237, 3) := by decide +kernel
theorem dX10_says_46 : decode cX10_says 46 = .ok (.ireturn, 1) := by decide +kernel
theorem dX10_says_47 : decode cX10_says 47 = .ok (.aload_n 0, 1) := by decide +kernel
theorem dX10_says_48 : decode cX10_says 48 = .ok (.bipush 50, 2) := by decide +kernel
theorem dX10_says_50 : decode cX10_says 50 = .ok (.invokevirtual 231, 3) := by decide +kernel
theorem dX10_says_53 : decode cX10_says 53 = .ok (.aload_n 0, 1) := by decide +kernel
theorem dX10_says_54 : decode cX10_says 54 = .ok (.iload_n 1, 1) := by decide +kernel
theorem dX10_says_55 : decode cX10_says 55 = .ok (.iload_n 2, 1) := by decide +kernel
theorem dX10_says_56 : decode cX10_says 56 = .ok (.invokevirtual 237, 3) := by decide +kernel
theorem dX10_says_59 : decode cX10_says 59 = .ok (.iconst 3, 1) := by decide +kernel
theorem dX10_says_60 : decode cX10_says 60 = .ok (.imul, 1) := by decide +kernel
theorem dX10_says_61 : decode cX10_says 61 = .ok (.ireturn, 1) := by decide +kernel
theorem dX10_says_62 : decode cX10_says 62 = .ok (.aload_n 0, 1) := by decide +kernel
theorem dX10_says_63 : decode cX10_says 63 = .ok (.bipush 70, 2) := by decide +kernel
theorem dX10_says_65 : decode cX10_says 65 = .ok (.invokevirtual 231, 3) := by decide +kernel
theorem dX10_says_68 : decode cX10_says 68 = .ok (.bipush 9, 2) := by decide +kernel
theorem dX10_says_70 : decode cX10_says 70 = .ok (.ireturn, 1) := by decide +kernel
theorem dX10_says_71 : decode cX10_says 71 = .ok (.aload_n 0, 1) := by decide +kernel
theorem dX10_says_72 : decode cX10_says 72 = .ok (.iload_n 1, 1) := by decide +kernel
theorem dX10_says_73 : decode cX10_says 73 = .ok (.iload_n 2, 1) := by decide +kernel
theorem dX10_says_74 : decode cX10_says 74 = .ok (.invokevirtual 234, 3) := by decide +kernel
theorem dX10_says_77 : decode cX10_says 77 = .ok (.ireturn, 1) := by decide +kernel
theorem dX10_plainAsks_0 : decode cX10_plainAsks 0 = .ok (.aload_n 0, 1) := by decide +kernel
theorem dX10_plainAsks_1 : decode cX10_plainAsks 1 = .ok (.bipush 11, 2) := by decide +kernel
theorem dX10_plainAsks_3 : decode cX10_plainAsks 3 = .ok (.invokevirtual 231, 3) := by decide +kernel
theorem dX10_plainAsks_6 : decode cX10_plainAsks 6 = .ok (.aload_n 0, 1) := by decide +kernel
theorem dX10_plainAsks_7 : decode cX10_plainAsks 7 = .ok (.iload_n 1, 1) := by decide +kernel
theorem dX10_plainAsks_8 : decode cX10_plainAsks 8 = .ok (.iload_n 2, 1) := by decide +kernel
theorem dX10_plainAsks_9 : decode cX10_plainAsks 9 = .ok (.invokevirtual 240, 3) := by decide +kernel
theorem dX10_plainAsks_12 : decode cX10_plainAsks 12 = .ok (.iconst 2, 1) := by decide +kernel
theorem dX10_plainAsks_13 : decode cX10_plainAsks 13 = .ok (.imul, 1) := by decide +kernel
theorem dX10_plainAsks_14 : decode cX10_plainAsks 14 = .ok (.ireturn, 1) := by decide +kernel
theorem dX10_roundAsks_0 : decode cX10_roundAsks 0 = .ok (.aload_n 0, 1) := by decide +kernel
theorem dX10_roundAsks_1 : decode cX10_roundAsks 1 = .ok (.bipush 30, 2) := by decide +kernel
theorem dX10_roundAsks_3 : decode cX10_roundAsks 3 = .ok (.invokevirtual 231, 3) := by decide +kernel
theorem dX10_roundAsks_6 : decode cX10_roundAsks 6 = .ok (.aload_n 0, 1) := by decide +kernel
theorem dX10_roundAsks_7 : decode cX10_roundAsks 7 = .ok (.iload_n 1, 1) := by decide +kernel
theorem dX10_roundAsks_8 : decode cX10_roundAsks 8 = .ok (.iload_n 2, 1) := by decide +kernel
theorem dX10_roundAsks_9 : decode cX10_roundAsks 9 = .ok (.invokevirtual 243, 3) := by decide +kernel
theorem dX10_roundAsks_12 : decode cX10_roundAsks 12 = .ok (.ineg, 1) := by decide +kernel
theorem dX10_roundAsks_13 : decode cX10_roundAsks 13 = .ok (.ireturn, 1) := by decide +kernel
theorem dX10_asks_0 : decode cX10_asks 0 = .ok (.aload_n 0, 1) := by decide +kernel
theorem dX10_asks_1 : decode cX10_asks 1 = .ok (.iload_n 1, 1) := by decide +kernel
theorem dX10_asks_2 : decode cX10_asks 2 = .ok (.iconst 0, 1) := by decide +kernel
theorem dX10_asks_3 : decode cX10_asks 3 = .ok (.invokevirtual 58, 3) := by decide +kernel
theorem dX10_asks_6 : decode cX10_asks 6 = .ok (.tableswitch 76 2 6 #[34, 76, 76, 41, 56], 34) := by decide +kernel
theorem dX10_asks_40 : decode cX10_asks 40 = .ok (.aload_n 0, 1) := by decide +kernel
theorem dX10_asks_41 : decode cX10_asks 41 = .ok (.iload_n 1, 1) := by decide +kernel
theorem dX10_asks_42 : decode cX10_asks 42 = .ok (.iload_n 2, 1) := by decide +kernel
theorem dX10_asks_43 : decode cX10_asks 43 = .ok (.invokevirtual 246, 3) := by decide +kernel
theorem dX10_asks_46 : decode cX10_asks 46 = .ok (.ireturn, 1) := by decide +kernel
theorem dX10_asks_47 : decode cX10_asks 47 = .ok (.aload_n 0, 1) := by decide +kernel
theorem dX10_asks_48 : decode cX10_asks 48 = .ok (.bipush 60, 2) := by decide +kernel
theorem dX10_asks_50 : decode cX10_asks 50 = .ok (.invokevirtual 231, 3) := by decide +kernel
theorem dX10_asks_53 : decode cX10_asks 53 = .ok (.aload_n 0, 1) := by decide +kernel
theorem dX10_asks_54 : decode cX10_asks 54 = .ok (.iload_n 1, 1) := by decide +kernel
theorem dX10_asks_55 : decode cX10_asks 55 = .ok (.iload_n 2, 1) := by decide +kernel
theorem dX10_asks_56 : decode cX10_asks 56 = .ok (.iconst 1, 1) := by decide +kernel
theorem dX10_asks_57 : decode cX10_asks 57 = .ok (.iadd, 1) := by decide +kernel
theorem dX10_asks_58 : decode cX10_asks 58 = .ok (.invokevirtual 246, 3) := by decide +kernel
theorem dX10_asks_61 : decode cX10_asks 61 = .ok (.ireturn, 1) := by decide +kernel
theorem dX10_asks_62 : decode cX10_asks 62 = .ok (.aload_n 0, 1) := by decide +kernel
theorem dX10_asks_63 : decode cX10_asks 63 = .ok (.bipush 71, 2) := by decide +kernel
theorem dX10_asks_65 : decode cX10_asks 65 = .ok (.invokevirtual 231, 3) := by decide +kernel
theorem dX10_asks_68 : decode cX10_asks 68 = .ok (.aload_n 0, 1) := by decide +kernel
theorem dX10_asks_69 : decode cX10_asks 69 = .ok (.iload_n 1, 1) := by decide +kernel
theorem dX10_asks_70 : decode cX10_asks 70 = .ok (.iload_n 2, 1) := by decide +kernel
theorem dX10_asks_71 : decode cX10_asks 71 = .ok (.invokevirtual 243, 3) := by decide +kernel
theorem dX10_asks_74 : decode cX10_asks 74 = .ok (.aload_n 0, 1) := by decide +kernel
theorem dX10_asks_75 : decode cX10_asks 75 = .ok (.iload_n 1, 1) := by decide +kernel
theorem dX10_asks_76 : decode cX10_asks 76 = .ok (.iconst 1, 1) := by decide +kernel
theorem dX10_asks_77 : decode cX10_asks 77 = .ok (.invokevirtual 58, 3) := by decide +kernel
theorem dX10_asks_80 : decode cX10_asks 80 = .ok (.iadd, 1) := by decide +kernel
theorem dX10_asks_81 : decode cX10_asks 81 = .ok (.ireturn, 1) := by decide +kernel
theorem dX10_asks_82 : decode cX10_asks 82 = .ok (.aload_n 0, 1) := by decide +kernel
theorem dX10_asks_83 : decode cX10_asks 83 = .ok (.iload_n 1, 1) := by decide +kernel
theorem dX10_asks_84 : decode cX10_asks 84 = .ok (.iload_n 2, 1) := by decide +kernel
theorem dX10_asks_85 : decode cX10_asks 85 = .ok (.invokevirtual 243, 3) := by decide +kernel
theorem dX10_asks_88 : decode cX10_asks 88 = .ok (.ireturn, 1) := by decide +kernel
theorem dX10_plainHums_0 : decode cX10_plainHums 0 = .ok (.aload_n 0, 1) := by decide +kernel
theorem dX10_plainHums_1 : decode cX10_plainHums 1 = .ok (.bipush 12, 2) := by decide +kernel
theorem dX10_plainHums_3 : decode cX10_plainHums 3 = .ok (.invokevirtual 231, 3) := by decide +kernel
theorem dX10_plainHums_6 : decode cX10_plainHums 6 = .ok (.aload_n 0, 1) := by decide +kernel
theorem dX10_plainHums_7 : decode cX10_plainHums 7 = .ok (.iload_n 1, 1) := by decide +kernel
theorem dX10_plainHums_8 : decode cX10_plainHums 8 = .ok (.iload_n 2, 1) := by decide +kernel
theorem dX10_plainHums_9 : decode cX10_plainHums 9 = .ok (.invokevirtual 249, 3) := by decide +kernel
theorem dX10_plainHums_12 : decode cX10_plainHums 12 = .ok (.aload_n 0, 1) := by decide +kernel
theorem dX10_plainHums_13 : decode cX10_plainHums 13 = .ok (.iload_n 1, 1) := by decide +kernel
theorem dX10_plainHums_14 : decode cX10_plainHums 14 = .ok (.iconst 1, 1) := by decide +kernel
theorem dX10_plainHums_15 : decode cX10_plainHums 15 = .ok (.invokevirtual 58, 3) := by decide +kernel
theorem dX10_plainHums_18 : decode cX10_plainHums 18 = .ok (.isub, 1) := by decide +kernel
theorem dX10_plainHums_19 : decode cX10_plainHums 19 = .ok (.ireturn, 1) := by decide +kernel
theorem dX10_hums_0 : decode cX10_hums 0 = .ok (.aload_n 0, 1) := by decide +kernel
theorem dX10_hums_1 : decode cX10_hums 1 = .ok (.iload_n 1, 1) := by decide +kernel
theorem dX10_hums_2 : decode cX10_hums 2 = .ok (.iconst 0, 1) := by decide +kernel
theorem dX10_hums_3 : decode cX10_hums 3 = .ok (.invokevirtual 58, 3) := by decide +kernel
theorem dX10_hums_6 : decode cX10_hums 6 = .ok (.lookupswitch 56 #[(3, 26), (4, 41)], 26) := by decide +kernel
theorem dX10_hums_32 : decode cX10_hums 32 = .ok (.aload_n 0, 1) := by decide +kernel
theorem dX10_hums_33 : decode cX10_hums 33 = .ok (.bipush 40, 2) := by decide +kernel
theorem dX10_hums_35 : decode cX10_hums 35 = .ok (.invokevirtual 231, 3) := by decide +kernel
theorem dX10_hums_38 : decode cX10_hums 38 = .ok (.aload_n 0, 1) := by decide +kernel
theorem dX10_hums_39 : decode cX10_hums 39 = .ok (.iload_n 1, 1) := by decide +kernel
theorem dX10_hums_40 : decode cX10_hums 40 = .ok (.iload_n 2, 1) := by decide +kernel
theorem dX10_hums_41 : decode cX10_hums 41 = .ok (.iconst 2, 1) := by decide +kernel
theorem dX10_hums_42 : decode cX10_hums 42 = .ok (.idiv, 1) := by decide +kernel
theorem dX10_hums_43 : decode cX10_hums 43 = .ok (.invokevirtual 252, 3) := by decide +kernel
theorem dX10_hums_46 : decode cX10_hums 46 = .ok (.ireturn, 1) := by decide +kernel
theorem dX10_hums_47 : decode cX10_hums 47 = .ok (.aload_n 0, 1) := by decide +kernel
theorem dX10_hums_48 : decode cX10_hums 48 = .ok (.bipush 51, 2) := by decide +kernel
theorem dX10_hums_50 : decode cX10_hums 50 = .ok (.invokevirtual 231, 3) := by decide +kernel
theorem dX10_hums_53 : decode cX10_hums 53 = .ok (.aload_n 0, 1) := by decide +kernel
theorem dX10_hums_54 : decode cX10_hums 54 = .ok (.iload_n 1, 1) := by decide +kernel
theorem dX10_hums_55 : decode cX10_hums 55 = .ok (.iload_n 2, 1) := by decide +kernel
theorem dX10_hums_56 : decode cX10_hums 56 = .ok (.invokevirtual 252, 3) := by decide +kernel
theorem dX10_hums_59 : decode cX10_hums 59 = .ok (.iload_n 1, 1) := by decide +kernel
theorem dX10_hums_60 : decode cX10_hums 60 = .ok (.ixor, 1) := by decide +kernel
theorem dX10_hums_61 : decode cX10_hums 61 = .ok (.ireturn, 1) := by decide +kernel
theorem dX10_hums_62 : decode cX10_hums 62 = .ok (.aload_n 0, 1) := by decide +kernel
theorem dX10_hums_63 : decode cX10_hums 63 = .ok (.iload_n 1, 1) := by decide +kernel
theorem dX10_hums_64 : decode cX10_hums 64 = .ok (.iload_n 2, 1) := by decide +kernel
theorem dX10_hums_65 : decode cX10_hums 65 = .ok (.invokevirtual 252, 3) := by decide +kernel
theorem dX10_hums_68 : decode cX10_hums 68 = .ok (.ireturn, 1) := by decide +kernel
theorem dX10_plainParts_0 : decode cX10_plainParts 0 = .ok (.aload_n 0, 1) := by decide +kernel
theorem dX10_plainParts_1 : decode cX10_plainParts 1 = .ok (.bipush 13, 2) := by decide +kernel
theorem dX10_plainParts_3 : decode cX10_plainParts 3 = .ok (.invokevirtual 231, 3) := by decide +kernel
theorem dX10_plainParts_6 : decode cX10_plainParts 6 = .ok (.aload_n 0, 1) := by decide +kernel
theorem dX10_plainParts_7 : decode cX10_plainParts 7 = .ok (.iload_n 1, 1) := by decide +kernel
theorem dX10_plainParts_8 : decode cX10_plainParts 8 = .ok (.iconst 1, 1) := by decide +kernel
theorem dX10_plainParts_9 : decode cX10_plainParts 9 = .ok (.invokevirtual 58, 3) := by decide +kernel
theorem dX10_plainParts_12 : decode cX10_plainParts 12 = .ok (.iload_n 1, 1) := by decide +kernel
theorem dX10_plainParts_13 : decode cX10_plainParts 13 = .ok (.isub, 1) := by decide +kernel
theorem dX10_plainParts_14 : decode cX10_plainParts 14 = .ok (.istore_n 3, 1) := by decide +kernel
theorem dX10_plainParts_15 : decode cX10_plainParts 15 = .ok (.aload_n 0, 1) := by decide +kernel
theorem dX10_plainParts_16 : decode cX10_plainParts 16 = .ok (.iload_n 3, 1) := by decide +kernel
theorem dX10_plainParts_17 : decode cX10_plainParts 17 = .ok (.ifCond .ne 7, 3) := by decide +kernel
theorem dX10_plainParts_20 : decode cX10_plainParts 20 = .ok (.iconst 1, 1) := by decide +kernel
theorem dX10_plainParts_21 : decode cX10_plainParts 21 = .ok (.goto 4, 3) := by decide +kernel
theorem dX10_plainParts_24 : decode cX10_plainParts 24 = .ok (.iconst 0, 1) := by decide +kernel
theorem dX10_plainParts_25 : decode cX10_plainParts 25 = .ok (.putfield 255, 3) := by decide +kernel
theorem dX10_plainParts_28 : decode cX10_plainParts 28 = .ok (.aload_n 0, 1) := by decide +kernel
theorem dX10_plainParts_29 : decode cX10_plainParts 29 = .ok (.getfield 255, 3) := by decide +kernel
theorem dX10_plainParts_32 : decode cX10_plainParts 32 = .ok (.ifCond .eq 7, 3) := by decide +kernel
theorem dX10_plainParts_35 : decode cX10_plainParts 35 = .ok (.iconst 0, 1) := by decide +kernel
theorem dX10_plainParts_36 : decode cX10_plainParts 36 = .ok (.goto 6, 3) := by decide +kernel
theorem dX10_plainParts_39 : decode cX10_plainParts 39 = .ok (.iload_n 2, 1) := by decide +kernel
theorem dX10_plainParts_40 : decode cX10_plainParts 40 = .ok (.iload_n 3, 1) := by decide +kernel
theorem dX10_plainParts_41 : decode cX10_plainParts 41 = .ok (.idiv, 1) := by decide +kernel
theorem dX10_plainParts_42 : decode cX10_plainParts 42 = .ok (.ireturn, 1) := by decide +kernel
theorem dX10_parts_0 : decode cX10_parts 0 = .ok (.aload_n 0, 1) := by decide +kernel
theorem dX10_parts_1 : decode cX10_parts 1 = .ok (.iload_n 1, 1) := by decide +kernel
theorem dX10_parts_2 : decode cX10_parts 2 = .ok (.iconst 0, 1) := by decide +kernel
theorem dX10_parts_3 : decode cX10_parts 3 = .ok (.invokevirtual 58, 3) := by decide +kernel
theorem dX10_parts_6 : decode cX10_parts 6 = .ok (.iconst 1, 1) := by decide +kernel
theorem dX10_parts_7 : decode cX10_parts 7 = .ok (.if_icmp .eq 13, 3) := by decide +kernel
theorem dX10_parts_10 : decode cX10_parts 10 = .ok (.aload_n 0, 1) := by decide +kernel
theorem dX10_parts_11 : decode cX10_parts 11 = .ok (.iload_n 1, 1) := by decide +kernel
theorem dX10_parts_12 : decode cX10_parts 12 = .ok (.iconst 0, 1) := by decide +kernel
theorem dX10_parts_13 : decode cX10_parts 13 = .ok (.invokevirtual 58, 3) := by decide +kernel
theorem dX10_parts_16 : decode cX10_parts 16 = .ok (.iconst 4, 1) := by decide +kernel
theorem dX10_parts_17 : decode cX10_parts 17 = .ok (.if_icmp .ne 36, 3) := by decide +kernel
theorem dX10_parts_20 : decode cX10_parts 20 = .ok (.aload_n 0, 1) := by decide +kernel
theorem dX10_parts_21 : decode cX10_parts 21 = .ok (.bipush 21, 2) := by decide +kernel
theorem dX10_parts_23 : decode cX10_parts 23 = .ok (.invokevirtual 231, 3) := by decide +kernel
theorem dX10_parts_26 : decode cX10_parts 26 = .ok (.aload_n 0, 1) := by decide +kernel
theorem dX10_parts_27 : decode cX10_parts 27 = .ok (.iload_n 1, 1) := by decide +kernel
theorem dX10_parts_28 : decode cX10_parts 28 = .ok (.iload_n 2, 1) := by decide +kernel
theorem dX10_parts_29 : decode cX10_parts 29 = .ok (.invokevirtual 258, 3) := by decide +kernel
theorem dX10_parts_32 : decode cX10_parts 32 = .ok (.istore_n 3, 1) := by decide +kernel
theorem dX10_parts_33 : decode cX10_parts 33 = .ok (.aload_n 0, 1) := by decide +kernel
theorem dX10_parts_34 : decode cX10_parts 34 = .ok (.getfield 255, 3) := by decide +kernel
theorem dX10_parts_37 : decode cX10_parts 37 = .ok (.ifCond .eq 7, 3) := by decide +kernel
theorem dX10_parts_40 : decode cX10_parts 40 = .ok (.iconst 0, 1) := by decide +kernel
theorem dX10_parts_41 : decode cX10_parts 41 = .ok (.goto 11, 3) := by decide +kernel
theorem dX10_parts_44 : decode cX10_parts 44 = .ok (.iload_n 3, 1) := by decide +kernel
theorem dX10_parts_45 : decode cX10_parts 45 = .ok (.aload_n 0, 1) := by decide +kernel
theorem dX10_parts_46 : decode cX10_parts 46 = .ok (.iload_n 1, 1) := by decide +kernel
theorem dX10_parts_47 : decode cX10_parts 47 = .ok (.iconst 1, 1) := by decide +kernel
theorem dX10_parts_48 : decode cX10_parts 48 = .ok (.invokevirtual 249, 3) := by decide +kernel
theorem dX10_parts_51 : decode cX10_parts 51 = .ok (.iadd, 1) := by decide +kernel
theorem dX10_parts_52 : decode cX10_parts 52 = .ok (.ireturn, 1) := by decide +kernel
theorem dX10_parts_53 : decode cX10_parts 53 = .ok (.aload_n 0, 1) := by decide +kernel
theorem dX10_parts_54 : decode cX10_parts 54 = .ok (.iload_n 1, 1) := by decide +kernel
theorem dX10_parts_55 : decode cX10_parts 55 = .ok (.iload_n 2, 1) := by decide +kernel
theorem dX10_parts_56 : decode cX10_parts 56 = .ok (.invokevirtual 258, 3) := by decide +kernel
theorem dX10_parts_59 : decode cX10_parts 59 = .ok (.ireturn, 1) := by decide +kernel
theorem dX10_voice_0 : decode cX10_voice 0 = .ok (.aload_n 0, 1) := by decide +kernel
theorem dX10_voice_1 : decode cX10_voice 1 = .ok (.iload_n 1, 1) := by decide +kernel
theorem dX10_voice_2 : decode cX10_voice 2 = .ok (.invokevirtual 102, 3) := by decide +kernel
theorem dX10_voice_5 : decode cX10_voice 5 = .ok (.ifCond .eq 12, 3) := by decide +kernel
theorem dX10_voice_8 : decode cX10_voice 8 = .ok (.iload_n 2, 1) := by decide +kernel
theorem dX10_voice_9 : decode cX10_voice 9 = .ok (.iconst 0, 1) := by decide +kernel
theorem dX10_voice_10 : decode cX10_voice 10 = .ok (.iconst 3, 1) := by decide +kernel
theorem dX10_voice_11 : decode cX10_voice 11 = .ok (.invokestatic 54, 3) := by decide +kernel
theorem dX10_voice_14 : decode cX10_voice 14 = .ok (.ifCond .ne 10, 3) := by decide +kernel
theorem dX10_voice_17 : decode cX10_voice 17 = .ok (.aload_n 0, 1) := by decide +kernel
theorem dX10_voice_18 : decode cX10_voice 18 = .ok (.ldc 94, 2) := by decide +kernel
theorem dX10_voice_20 : decode cX10_voice 20 = .ok (.invokevirtual 95, 3) := by decide +kernel
theorem dX10_voice_23 : decode cX10_voice 23 = .ok (.ireturn, 1) := by decide +kernel
theorem dX10_voice_24 : decode cX10_voice 24 = .ok (.aload_n 0, 1) := by decide +kernel
theorem dX10_voice_25 : decode cX10_voice 25 = .ok (.iconst 0, 1) := by decide +kernel
theorem dX10_voice_26 : decode cX10_voice 26 = .ok (.putfield 228, 3) := by decide +kernel
theorem dX10_voice_29 : decode cX10_voice 29 = .ok (.aload_n 0, 1) := by decide +kernel
theorem dX10_voice_30 : decode cX10_voice 30 = .ok (.iconst 0, 1) := by decide +kernel
theorem dX10_voice_31 : decode cX10_voice 31 = .ok (.putfield 255, 3) := by decide +kernel
theorem dX10_voice_34 : decode cX10_voice 34 = .ok (.iload_n 2, 1) := by decide +kernel
theorem dX10_voice_35 : decode cX10_voice 35 = .ok (.ifCond .ne 12, 3) := by decide +kernel
theorem dX10_voice_38 : decode cX10_voice 38 = .ok (.aload_n 0, 1) := by decide +kernel
theorem dX10_voice_39 : decode cX10_voice 39 = .ok (.iload_n 1, 1) := by decide +kernel
theorem dX10_voice_40 : decode cX10_voice 40 = .ok (.iload_n 3, 1) := by decide +kernel
theorem dX10_voice_41 : decode cX10_voice 41 = .ok (.invokevirtual 240, 3) := by decide +kernel
theorem dX10_voice_44 : decode cX10_voice 44 = .ok (.goto 37, 3) := by decide +kernel
theorem dX10_voice_47 : decode cX10_voice 47 = .ok (.iload_n 2, 1) := by decide +kernel
theorem dX10_voice_48 : decode cX10_voice 48 = .ok (.iconst 1, 1) := by decide +kernel
theorem dX10_voice_49 : decode cX10_voice 49 = .ok (.if_icmp .ne 12, 3) := by decide +kernel
theorem dX10_voice_52 : decode cX10_voice 52 = .ok (.aload_n 0, 1) := by decide +kernel
theorem dX10_voice_53 : decode cX10_voice 53 = .ok (.iload_n 1, 1) := by decide +kernel
theorem dX10_voice_54 : decode cX10_voice 54 = .ok (.iload_n 3, 1) := by decide +kernel
theorem dX10_voice_55 : decode cX10_voice 55 = .ok (.invokevirtual 249, 3) := by decide +kernel
theorem dX10_voice_58 : decode cX10_voice 58 = .ok (.goto 23, 3) := by decide +kernel
theorem dX10_voice_61 : decode cX10_voice 61 = .ok (.iload_n 2, 1) := by decide +kernel
theorem dX10_voice_62 : decode cX10_voice 62 = .ok (.iconst 2, 1) := by decide +kernel
theorem dX10_voice_63 : decode cX10_voice 63 = .ok (.if_icmp .ne 12, 3) := by decide +kernel
theorem dX10_voice_66 : decode cX10_voice 66 = .ok (.aload_n 0, 1) := by decide +kernel
theorem dX10_voice_67 : decode cX10_voice 67 = .ok (.iload_n 1, 1) := by decide +kernel
theorem dX10_voice_68 : decode cX10_voice 68 = .ok (.iload_n 3, 1) := by decide +kernel
theorem dX10_voice_69 : decode cX10_voice 69 = .ok (.invokevirtual 261, 3) := by decide +kernel
theorem dX10_voice_72 : decode cX10_voice 72 = .ok (.goto 9, 3) := by decide +kernel
theorem dX10_voice_75 : decode cX10_voice 75 = .ok (.aload_n 0, 1) := by decide +kernel
theorem dX10_voice_76 : decode cX10_voice 76 = .ok (.iload_n 1, 1) := by decide +kernel
theorem dX10_voice_77 : decode cX10_voice 77 = .ok (.iload_n 3, 1) := by decide +kernel
theorem dX10_voice_78 : decode cX10_voice 78 = .ok (.invokevirtual 264, 3) := by decide +kernel
theorem dX10_voice_81 : decode cX10_voice 81 = .ok (.istore 4, 2) := by decide +kernel
theorem dX10_voice_83 : decode cX10_voice 83 = .ok (.aload_n 0, 1) := by decide +kernel
theorem dX10_voice_84 : decode cX10_voice 84 = .ok (.getfield 255, 3) := by decide +kernel
theorem dX10_voice_87 : decode cX10_voice 87 = .ok (.ifCond .eq 13, 3) := by decide +kernel
theorem dX10_voice_90 : decode cX10_voice 90 = .ok (.aload_n 0, 1) := by decide +kernel
theorem dX10_voice_91 : decode cX10_voice 91 = .ok (.ldc_w 267, 3) := by decide +kernel
theorem dX10_voice_94 : decode cX10_voice 94 = .ok (.invokevirtual 95, 3) := by decide +kernel
theorem dX10_voice_97 : decode cX10_voice 97 = .ok (.goto 5, 3) := by decide +kernel
theorem dX10_voice_100 : decode cX10_voice 100 = .ok (.iload 4, 2) := by decide +kernel
theorem dX10_voice_102 : decode cX10_voice 102 = .ok (.ireturn, 1) := by decide +kernel
theorem dX10_body_0 : decode cX10_body 0 = .ok (.iload_n 1, 1) := by decide +kernel
theorem dX10_body_1 : decode cX10_body 1 = .ok (.iconst 0, 1) := by decide +kernel
theorem dX10_body_2 : decode cX10_body 2 = .ok (.aload_n 0, 1) := by decide +kernel
theorem dX10_body_3 : decode cX10_body 3 = .ok (.getfield 228, 3) := by decide +kernel
theorem dX10_body_6 : decode cX10_body 6 = .ok (.iconst 1, 1) := by decide +kernel
theorem dX10_body_7 : decode cX10_body 7 = .ok (.isub, 1) := by decide +kernel
theorem dX10_body_8 : decode cX10_body 8 = .ok (.invokestatic 54, 3) := by decide +kernel
theorem dX10_body_11 : decode cX10_body 11 = .ok (.ifCond .eq 12, 3) := by decide +kernel
theorem dX10_body_14 : decode cX10_body 14 = .ok (.aload_n 0, 1) := by decide +kernel
theorem dX10_body_15 : decode cX10_body 15 = .ok (.getfield 46, 3) := by decide +kernel
theorem dX10_body_18 : decode cX10_body 18 = .ok (.iload_n 1, 1) := by decide +kernel
theorem dX10_body_19 : decode cX10_body 19 = .ok (.iaload, 1) := by decide +kernel
theorem dX10_body_20 : decode cX10_body 20 = .ok (.goto 9, 3) := by decide +kernel
theorem dX10_body_23 : decode cX10_body 23 = .ok (.aload_n 0, 1) := by decide +kernel
theorem dX10_body_24 : decode cX10_body 24 = .ok (.ldc 227, 2) := by decide +kernel
theorem dX10_body_26 : decode cX10_body 26 = .ok (.invokevirtual 95, 3) := by decide +kernel
theorem dX10_body_29 : decode cX10_body 29 = .ok (.ireturn, 1) := by decide +kernel
theorem dX10_isSheet_0 : decode cX10_isSheet 0 = .ok (.iload_n 0, 1) := by decide +kernel
theorem dX10_isSheet_1 : decode cX10_isSheet 1 = .ok (.iconst 0, 1) := by decide +kernel
theorem dX10_isSheet_2 : decode cX10_isSheet 2 = .ok (.iconst 3, 1) := by decide +kernel
theorem dX10_isSheet_3 : decode cX10_isSheet 3 = .ok (.invokestatic 54, 3) := by decide +kernel
theorem dX10_isSheet_6 : decode cX10_isSheet 6 = .ok (.ireturn, 1) := by decide +kernel
theorem dX10_sheet_0 : decode cX10_sheet 0 = .ok (.iload_n 1, 1) := by decide +kernel
theorem dX10_sheet_1 : decode cX10_sheet 1 = .ok (.invokestatic 268, 3) := by decide +kernel
theorem dX10_sheet_4 : decode cX10_sheet 4 = .ok (.ifCond .eq 25, 3) := by decide +kernel
theorem dX10_sheet_7 : decode cX10_sheet 7 = .ok (.iload_n 2, 1) := by decide +kernel
theorem dX10_sheet_8 : decode cX10_sheet 8 = .ok (.ifCond .eq 28, 3) := by decide +kernel
theorem dX10_sheet_11 : decode cX10_sheet 11 = .ok (.iload_n 2, 1) := by decide +kernel
theorem dX10_sheet_12 : decode cX10_sheet 12 = .ok (.bipush 8, 2) := by decide +kernel
theorem dX10_sheet_14 : decode cX10_sheet 14 = .ok (.if_icmp .eq 22, 3) := by decide +kernel
theorem dX10_sheet_17 : decode cX10_sheet 17 = .ok (.iload_n 2, 1) := by decide +kernel
theorem dX10_sheet_18 : decode cX10_sheet 18 = .ok (.bipush 16, 2) := by decide +kernel
theorem dX10_sheet_20 : decode cX10_sheet 20 = .ok (.if_icmp .eq 16, 3) := by decide +kernel
theorem dX10_sheet_23 : decode cX10_sheet 23 = .ok (.iload_n 2, 1) := by decide +kernel
theorem dX10_sheet_24 : decode cX10_sheet 24 = .ok (.bipush 32, 2) := by decide +kernel
theorem dX10_sheet_26 : decode cX10_sheet 26 = .ok (.if_icmp .eq 10, 3) := by decide +kernel
theorem dX10_sheet_29 : decode cX10_sheet 29 = .ok (.aload_n 0, 1) := by decide +kernel
theorem dX10_sheet_30 : decode cX10_sheet 30 = .ok (.ldc 94, 2) := by decide +kernel
theorem dX10_sheet_32 : decode cX10_sheet 32 = .ok (.invokevirtual 95, 3) := by decide +kernel
theorem dX10_sheet_35 : decode cX10_sheet 35 = .ok (.ireturn, 1) := by decide +kernel
theorem dX10_sheet_36 : decode cX10_sheet 36 = .ok (.iload_n 2, 1) := by decide +kernel
theorem dX10_sheet_37 : decode cX10_sheet 37 = .ok (.ifCond .le 14, 3) := by decide +kernel
theorem dX10_sheet_40 : decode cX10_sheet 40 = .ok (.iload_n 3, 1) := by decide +kernel
theorem dX10_sheet_41 : decode cX10_sheet 41 = .ok (.ifCond .ge 10, 3) := by decide +kernel
theorem dX10_sheet_44 : decode cX10_sheet 44 = .ok (.aload_n 0, 1) := by decide +kernel
theorem dX10_sheet_45 : decode cX10_sheet 45 = .ok (.ldc 180, 2) := by decide +kernel
theorem dX10_sheet_47 : decode cX10_sheet 47 = .ok (.invokevirtual 95, 3) := by decide +kernel
theorem dX10_sheet_50 : decode cX10_sheet 50 = .ok (.ireturn, 1) := by decide +kernel
theorem dX10_sheet_51 : decode cX10_sheet 51 = .ok (.iload_n 2, 1) := by decide +kernel
theorem dX10_sheet_52 : decode cX10_sheet 52 = .ok (.ifCond .le 16, 3) := by decide +kernel
theorem dX10_sheet_55 : decode cX10_sheet 55 = .ok (.iload_n 3, 1) := by decide +kernel
theorem dX10_sheet_56 : decode cX10_sheet 56 = .ok (.bipush 24, 2) := by decide +kernel
theorem dX10_sheet_58 : decode cX10_sheet 58 = .ok (.if_icmp .le 10, 3) := by decide +kernel
theorem dX10_sheet_61 : decode cX10_sheet 61 = .ok (.aload_n 0, 1) := by decide +kernel
theorem dX10_sheet_62 : decode cX10_sheet 62 = .ok (.ldc 94, 2) := by decide +kernel
theorem dX10_sheet_64 : decode cX10_sheet 64 = .ok (.invokevirtual 95, 3) := by decide +kernel
theorem dX10_sheet_67 : decode cX10_sheet 67 = .ok (.ireturn, 1) := by decide +kernel
theorem dX10_sheet_68 : decode cX10_sheet 68 = .ok (.aload_n 0, 1) := by decide +kernel
theorem dX10_sheet_69 : decode cX10_sheet 69 = .ok (.getfield 22, 3) := by decide +kernel
theorem dX10_sheet_72 : decode cX10_sheet 72 = .ok (.iload_n 1, 1) := by decide +kernel
theorem dX10_sheet_73 : decode cX10_sheet 73 = .ok (.iload_n 2, 1) := by decide +kernel
theorem dX10_sheet_74 : decode cX10_sheet 74 = .ok (.iastore, 1) := by decide +kernel
theorem dX10_sheet_75 : decode cX10_sheet 75 = .ok (.aload_n 0, 1) := by decide +kernel
theorem dX10_sheet_76 : decode cX10_sheet 76 = .ok (.getfield 25, 3) := by decide +kernel
theorem dX10_sheet_79 : decode cX10_sheet 79 = .ok (.iload_n 1, 1) := by decide +kernel
theorem dX10_sheet_80 : decode cX10_sheet 80 = .ok (.iload_n 2, 1) := by decide +kernel
theorem dX10_sheet_81 : decode cX10_sheet 81 = .ok (.ifCond .ne 7, 3) := by decide +kernel
theorem dX10_sheet_84 : decode cX10_sheet 84 = .ok (.iconst 0, 1) := by decide +kernel
theorem dX10_sheet_85 : decode cX10_sheet 85 = .ok (.goto 4, 3) := by decide +kernel
theorem dX10_sheet_88 : decode cX10_sheet 88 = .ok (.iload_n 3, 1) := by decide +kernel
theorem dX10_sheet_89 : decode cX10_sheet 89 = .ok (.iastore, 1) := by decide +kernel
theorem dX10_sheet_90 : decode cX10_sheet 90 = .ok (.iconst 0, 1) := by decide +kernel
theorem dX10_sheet_91 : decode cX10_sheet 91 = .ok (.istore 4, 2) := by decide +kernel
theorem dX10_sheet_93 : decode cX10_sheet 93 = .ok (.iload 4, 2) := by decide +kernel
theorem dX10_sheet_95 : decode cX10_sheet 95 = .ok (.bipush 24, 2) := by decide +kernel
theorem dX10_sheet_97 : decode cX10_sheet 97 = .ok (.if_icmp .ge 22, 3) := by decide +kernel
theorem dX10_sheet_100 : decode cX10_sheet 100 = .ok (.aload_n 0, 1) := by decide +kernel
theorem dX10_sheet_101 : decode cX10_sheet 101 = .ok (.getfield 28, 3) := by decide +kernel
theorem dX10_sheet_104 : decode cX10_sheet 104 = .ok (.bipush 24, 2) := by decide +kernel
theorem dX10_sheet_106 : decode cX10_sheet 106 = .ok (.iload_n 1, 1) := by decide +kernel
theorem dX10_sheet_107 : decode cX10_sheet 107 = .ok (.imul, 1) := by decide +kernel
theorem dX10_sheet_108 : decode cX10_sheet 108 = .ok (.iload 4, 2) := by decide +kernel
theorem dX10_sheet_110 : decode cX10_sheet 110 = .ok (.iadd, 1) := by decide +kernel
theorem dX10_sheet_111 : decode cX10_sheet 111 = .ok (.iconst 0, 1) := by decide +kernel
theorem dX10_sheet_112 : decode cX10_sheet 112 = .ok (.iastore, 1) := by decide +kernel
theorem dX10_sheet_113 : decode cX10_sheet 113 = .ok (.iinc 4 1, 3) := by decide +kernel
theorem dX10_sheet_116 : decode cX10_sheet 116 = .ok (.goto (-23), 3) := by decide +kernel
theorem dX10_sheet_119 : decode cX10_sheet 119 = .ok (.iconst 1, 1) := by decide +kernel
theorem dX10_sheet_120 : decode cX10_sheet 120 = .ok (.ireturn, 1) := by decide +kernel
theorem dX10_notThere_0 : decode cX10_notThere 0 = .ok (.iload_n 1, 1) := by decide +kernel
theorem dX10_notThere_1 : decode cX10_notThere 1 = .ok (.invokestatic 268, 3) := by decide +kernel
theorem dX10_notThere_4 : decode cX10_notThere 4 = .ok (.ifCond .ne 8, 3) := by decide +kernel
theorem dX10_notThere_7 : decode cX10_notThere 7 = .ok (.ldc 94, 2) := by decide +kernel
theorem dX10_notThere_9 : decode cX10_notThere 9 = .ok (.goto 18, 3) := by decide +kernel
theorem dX10_notThere_12 : decode cX10_notThere 12 = .ok (.aload_n 0, 1) := by decide +kernel
theorem dX10_notThere_13 : decode cX10_notThere 13 = .ok (.getfield 22, 3) := by decide +kernel
theorem dX10_notThere_16 : decode cX10_notThere 16 = .ok (.iload_n 1, 1) := by decide +kernel
theorem dX10_notThere_17 : decode cX10_notThere 17 = .ok (.iaload, 1) := by decide +kernel
theorem dX10_notThere_18 : decode cX10_notThere 18 = .ok (.ifCond .ne 8, 3) := by decide +kernel
theorem dX10_notThere_21 : decode cX10_notThere 21 = .ok (.ldc 227, 2) := by decide +kernel
theorem dX10_notThere_23 : decode cX10_notThere 23 = .ok (.goto 4, 3) := by decide +kernel
theorem dX10_notThere_26 : decode cX10_notThere 26 = .ok (.iconst 0, 1) := by decide +kernel
theorem dX10_notThere_27 : decode cX10_notThere 27 = .ok (.ireturn, 1) := by decide +kernel
theorem dX10_put_0 : decode cX10_put 0 = .ok (.aload_n 0, 1) := by decide +kernel
theorem dX10_put_1 : decode cX10_put 1 = .ok (.iload_n 1, 1) := by decide +kernel
theorem dX10_put_2 : decode cX10_put 2 = .ok (.invokevirtual 221, 3) := by decide +kernel
theorem dX10_put_5 : decode cX10_put 5 = .ok (.istore 4, 2) := by decide +kernel
theorem dX10_put_7 : decode cX10_put 7 = .ok (.iload 4, 2) := by decide +kernel
theorem dX10_put_9 : decode cX10_put 9 = .ok (.ifCond .ne 24, 3) := by decide +kernel
theorem dX10_put_12 : decode cX10_put 12 = .ok (.iload_n 2, 1) := by decide +kernel
theorem dX10_put_13 : decode cX10_put 13 = .ok (.iconst 0, 1) := by decide +kernel
theorem dX10_put_14 : decode cX10_put 14 = .ok (.aload_n 0, 1) := by decide +kernel
theorem dX10_put_15 : decode cX10_put 15 = .ok (.getfield 25, 3) := by decide +kernel
theorem dX10_put_18 : decode cX10_put 18 = .ok (.iload_n 1, 1) := by decide +kernel
theorem dX10_put_19 : decode cX10_put 19 = .ok (.iaload, 1) := by decide +kernel
theorem dX10_put_20 : decode cX10_put 20 = .ok (.iconst 1, 1) := by decide +kernel
theorem dX10_put_21 : decode cX10_put 21 = .ok (.isub, 1) := by decide +kernel
theorem dX10_put_22 : decode cX10_put 22 = .ok (.invokestatic 54, 3) := by decide +kernel
theorem dX10_put_25 : decode cX10_put 25 = .ok (.ifCond .ne 8, 3) := by decide +kernel
theorem dX10_put_28 : decode cX10_put 28 = .ok (.ldc 94, 2) := by decide +kernel
theorem dX10_put_30 : decode cX10_put 30 = .ok (.goto 5, 3) := by decide +kernel
theorem dX10_put_33 : decode cX10_put 33 = .ok (.iload 4, 2) := by decide +kernel
theorem dX10_put_35 : decode cX10_put 35 = .ok (.istore 4, 2) := by decide +kernel
theorem dX10_put_37 : decode cX10_put 37 = .ok (.iload 4, 2) := by decide +kernel
theorem dX10_put_39 : decode cX10_put 39 = .ok (.ifCond .eq 10, 3) := by decide +kernel
theorem dX10_put_42 : decode cX10_put 42 = .ok (.aload_n 0, 1) := by decide +kernel
theorem dX10_put_43 : decode cX10_put 43 = .ok (.iload 4, 2) := by decide +kernel
theorem dX10_put_45 : decode cX10_put 45 = .ok (.invokevirtual 95, 3) := by decide +kernel
theorem dX10_put_48 : decode cX10_put 48 = .ok (.ireturn, 1) := by decide +kernel
theorem dX10_put_49 : decode cX10_put 49 = .ok (.aload_n 0, 1) := by decide +kernel
theorem dX10_put_50 : decode cX10_put 50 = .ok (.getfield 28, 3) := by decide +kernel
theorem dX10_put_53 : decode cX10_put 53 = .ok (.bipush 24, 2) := by decide +kernel
theorem dX10_put_55 : decode cX10_put 55 = .ok (.iload_n 1, 1) := by decide +kernel
theorem dX10_put_56 : decode cX10_put 56 = .ok (.imul, 1) := by decide +kernel
theorem dX10_put_57 : decode cX10_put 57 = .ok (.iload_n 2, 1) := by decide +kernel
theorem dX10_put_58 : decode cX10_put 58 = .ok (.iadd, 1) := by decide +kernel
theorem dX10_put_59 : decode cX10_put 59 = .ok (.aload_n 0, 1) := by decide +kernel
theorem dX10_put_60 : decode cX10_put 60 = .ok (.getfield 22, 3) := by decide +kernel
theorem dX10_put_63 : decode cX10_put 63 = .ok (.iload_n 1, 1) := by decide +kernel
theorem dX10_put_64 : decode cX10_put 64 = .ok (.iaload, 1) := by decide +kernel
theorem dX10_put_65 : decode cX10_put 65 = .ok (.bipush 8, 2) := by decide +kernel
theorem dX10_put_67 : decode cX10_put 67 = .ok (.if_icmp .ne 8, 3) := by decide +kernel
theorem dX10_put_70 : decode cX10_put 70 = .ok (.iload_n 3, 1) := by decide +kernel
theorem dX10_put_71 : decode cX10_put 71 = .ok (.i2b, 1) := by decide +kernel
theorem dX10_put_72 : decode cX10_put 72 = .ok (.goto 20, 3) := by decide +kernel
theorem dX10_put_75 : decode cX10_put 75 = .ok (.aload_n 0, 1) := by decide +kernel
theorem dX10_put_76 : decode cX10_put 76 = .ok (.getfield 22, 3) := by decide +kernel
theorem dX10_put_79 : decode cX10_put 79 = .ok (.iload_n 1, 1) := by decide +kernel
theorem dX10_put_80 : decode cX10_put 80 = .ok (.iaload, 1) := by decide +kernel
theorem dX10_put_81 : decode cX10_put 81 = .ok (.bipush 16, 2) := by decide +kernel
theorem dX10_put_83 : decode cX10_put 83 = .ok (.if_icmp .ne 8, 3) := by decide +kernel
theorem dX10_put_86 : decode cX10_put 86 = .ok (.iload_n 3, 1) := by decide +kernel
theorem dX10_put_87 : decode cX10_put 87 = .ok (.i2s, 1) := by decide +kernel
theorem dX10_put_88 : decode cX10_put 88 = .ok (.goto 4, 3) := by decide +kernel
theorem dX10_put_91 : decode cX10_put 91 = .ok (.iload_n 3, 1) := by decide +kernel
theorem dX10_put_92 : decode cX10_put 92 = .ok (.iastore, 1) := by decide +kernel
theorem dX10_put_93 : decode cX10_put 93 = .ok (.iconst 1, 1) := by decide +kernel
theorem dX10_put_94 : decode cX10_put 94 = .ok (.ireturn, 1) := by decide +kernel
theorem dX10_notMoved_0 : decode cX10_notMoved 0 = .ok (.iload_n 1, 1) := by decide +kernel
theorem dX10_notMoved_1 : decode cX10_notMoved 1 = .ok (.invokestatic 268, 3) := by decide +kernel
theorem dX10_notMoved_4 : decode cX10_notMoved 4 = .ok (.ifCond .eq 10, 3) := by decide +kernel
theorem dX10_notMoved_7 : decode cX10_notMoved 7 = .ok (.iload_n 3, 1) := by decide +kernel
theorem dX10_notMoved_8 : decode cX10_notMoved 8 = .ok (.invokestatic 268, 3) := by decide +kernel
theorem dX10_notMoved_11 : decode cX10_notMoved 11 = .ok (.ifCond .ne 6, 3) := by decide +kernel
theorem dX10_notMoved_14 : decode cX10_notMoved 14 = .ok (.ldc 94, 2) := by decide +kernel
theorem dX10_notMoved_16 : decode cX10_notMoved 16 = .ok (.ireturn, 1) := by decide +kernel
theorem dX10_notMoved_17 : decode cX10_notMoved 17 = .ok (.aload_n 0, 1) := by decide +kernel
theorem dX10_notMoved_18 : decode cX10_notMoved 18 = .ok (.getfield 22, 3) := by decide +kernel
theorem dX10_notMoved_21 : decode cX10_notMoved 21 = .ok (.iload_n 1, 1) := by decide +kernel
theorem dX10_notMoved_22 : decode cX10_notMoved 22 = .ok (.iaload, 1) := by decide +kernel
theorem dX10_notMoved_23 : decode cX10_notMoved 23 = .ok (.ifCond .eq 12, 3) := by decide +kernel
theorem dX10_notMoved_26 : decode cX10_notMoved 26 = .ok (.aload_n 0, 1) := by decide +kernel
theorem dX10_notMoved_27 : decode cX10_notMoved 27 = .ok (.getfield 22, 3) := by decide +kernel
theorem dX10_notMoved_30 : decode cX10_notMoved 30 = .ok (.iload_n 3, 1) := by decide +kernel
theorem dX10_notMoved_31 : decode cX10_notMoved 31 = .ok (.iaload, 1) := by decide +kernel
theorem dX10_notMoved_32 : decode cX10_notMoved 32 = .ok (.ifCond .ne 6, 3) := by decide +kernel
theorem dX10_notMoved_35 : decode cX10_notMoved 35 = .ok (.ldc 227, 2) := by decide +kernel
theorem dX10_notMoved_37 : decode cX10_notMoved 37 = .ok (.ireturn, 1) := by decide +kernel
theorem dX10_notMoved_38 : decode cX10_notMoved 38 = .ok (.aload_n 0, 1) := by decide +kernel
theorem dX10_notMoved_39 : decode cX10_notMoved 39 = .ok (.getfield 22, 3) := by decide +kernel
theorem dX10_notMoved_42 : decode cX10_notMoved 42 = .ok (.iload_n 1, 1) := by decide +kernel
theorem dX10_notMoved_43 : decode cX10_notMoved 43 = .ok (.iaload, 1) := by decide +kernel
theorem dX10_notMoved_44 : decode cX10_notMoved 44 = .ok (.aload_n 0, 1) := by decide +kernel
theorem dX10_notMoved_45 : decode cX10_notMoved 45 = .ok (.getfield 22, 3) := by decide +kernel
theorem dX10_notMoved_48 : decode cX10_notMoved 48 = .ok (.iload_n 3, 1) := by decide +kernel
theorem dX10_notMoved_49 : decode cX10_notMoved 49 = .ok (.iaload, 1) := by decide +kernel
theorem dX10_notMoved_50 : decode cX10_notMoved 50 = .ok (.if_icmp .eq 6, 3) := by decide +kernel
theorem dX10_notMoved_53 : decode cX10_notMoved 53 = .ok (.ldc 114, 2) := by decide +kernel
theorem dX10_notMoved_55 : decode cX10_notMoved 55 = .ok (.ireturn, 1) := by decide +kernel
theorem dX10_notMoved_56 : decode cX10_notMoved 56 = .ok (.iload 5, 2) := by decide +kernel
theorem dX10_notMoved_58 : decode cX10_notMoved 58 = .ok (.ifCond .lt 43, 3) := by decide +kernel
theorem dX10_notMoved_61 : decode cX10_notMoved 61 = .ok (.iload_n 2, 1) := by decide +kernel
theorem dX10_notMoved_62 : decode cX10_notMoved 62 = .ok (.ifCond .lt 39, 3) := by decide +kernel
theorem dX10_notMoved_65 : decode cX10_notMoved 65 = .ok (.iload 4, 2) := by decide +kernel
theorem dX10_notMoved_67 : decode cX10_notMoved 67 = .ok (.ifCond .lt 34, 3) := by decide +kernel
theorem dX10_notMoved_70 : decode cX10_notMoved 70 = .ok (.iload 5, 2) := by decide +kernel
theorem dX10_notMoved_72 : decode cX10_notMoved 72 = .ok (.aload_n 0, 1) := by decide +kernel
theorem dX10_notMoved_73 : decode cX10_notMoved 73 = .ok (.getfield 25, 3) := by decide +kernel
theorem dX10_notMoved_76 : decode cX10_notMoved 76 = .ok (.iload_n 1, 1) := by decide +kernel
theorem dX10_notMoved_77 : decode cX10_notMoved 77 = .ok (.iaload, 1) := by decide +kernel
theorem dX10_notMoved_78 : decode cX10_notMoved 78 = .ok (.iload_n 2, 1) := by decide +kernel
theorem dX10_notMoved_79 : decode cX10_notMoved 79 = .ok (.isub, 1) := by decide +kernel
theorem dX10_notMoved_80 : decode cX10_notMoved 80 = .ok (.if_icmp .gt 21, 3) := by decide +kernel
theorem dX10_notMoved_83 : decode cX10_notMoved 83 = .ok (.iload 5, 2) := by decide +kernel
theorem dX10_notMoved_85 : decode cX10_notMoved 85 = .ok (.aload_n 0, 1) := by decide +kernel
theorem dX10_notMoved_86 : decode cX10_notMoved 86 = .ok (.getfield 25, 3) := by decide +kernel
theorem dX10_notMoved_89 : decode cX10_notMoved 89 = .ok (.iload_n 3, 1) := by decide +kernel
theorem dX10_notMoved_90 : decode cX10_notMoved 90 = .ok (.iaload, 1) := by decide +kernel
theorem dX10_notMoved_91 : decode cX10_notMoved 91 = .ok (.iload 4, 2) := by decide +kernel
theorem dX10_notMoved_93 : decode cX10_notMoved 93 = .ok (.isub, 1) := by decide +kernel
theorem dX10_notMoved_94 : decode cX10_notMoved 94 = .ok (.if_icmp .gt 7, 3) := by decide +kernel
theorem dX10_notMoved_97 : decode cX10_notMoved 97 = .ok (.iconst 1, 1) := by decide +kernel
theorem dX10_notMoved_98 : decode cX10_notMoved 98 = .ok (.goto 4, 3) := by decide +kernel
theorem dX10_notMoved_101 : decode cX10_notMoved 101 = .ok (.iconst 0, 1) := by decide +kernel
theorem dX10_notMoved_102 : decode cX10_notMoved 102 = .ok (.istore 6, 2) := by decide +kernel
theorem dX10_notMoved_104 : decode cX10_notMoved 104 = .ok (.iload 6, 2) := by decide +kernel
theorem dX10_notMoved_106 : decode cX10_notMoved 106 = .ok (.ifCond .eq 7, 3) := by decide +kernel
theorem dX10_notMoved_109 : decode cX10_notMoved 109 = .ok (.iconst 0, 1) := by decide +kernel
theorem dX10_notMoved_110 : decode cX10_notMoved 110 = .ok (.goto 5, 3) := by decide +kernel
theorem dX10_notMoved_113 : decode cX10_notMoved 113 = .ok (.ldc 94, 2) := by decide +kernel
theorem dX10_notMoved_115 : decode cX10_notMoved 115 = .ok (.ireturn, 1) := by decide +kernel
theorem dX10_move_0 : decode cX10_move 0 = .ok (.aload_n 0, 1) := by decide +kernel
theorem dX10_move_1 : decode cX10_move 1 = .ok (.iload_n 1, 1) := by decide +kernel
theorem dX10_move_2 : decode cX10_move 2 = .ok (.iload_n 2, 1) := by decide +kernel
theorem dX10_move_3 : decode cX10_move 3 = .ok (.iload_n 3, 1) := by decide +kernel
theorem dX10_move_4 : decode cX10_move 4 = .ok (.iload 4, 2) := by decide +kernel
theorem dX10_move_6 : decode cX10_move 6 = .ok (.iload 5, 2) := by decide +kernel
theorem dX10_move_8 : decode cX10_move 8 = .ok (.invokevirtual 271, 3) := by decide +kernel
theorem dX10_move_11 : decode cX10_move 11 = .ok (.istore 6, 2) := by decide +kernel
theorem dX10_move_13 : decode cX10_move 13 = .ok (.iload 6, 2) := by decide +kernel
theorem dX10_move_15 : decode cX10_move 15 = .ok (.ifCond .eq 10, 3) := by decide +kernel
theorem dX10_move_18 : decode cX10_move 18 = .ok (.aload_n 0, 1) := by decide +kernel
theorem dX10_move_19 : decode cX10_move 19 = .ok (.iload 6, 2) := by decide +kernel
theorem dX10_move_21 : decode cX10_move 21 = .ok (.invokevirtual 95, 3) := by decide +kernel
theorem dX10_move_24 : decode cX10_move 24 = .ok (.ireturn, 1) := by decide +kernel
theorem dX10_move_25 : decode cX10_move 25 = .ok (.iconst 0, 1) := by decide +kernel
theorem dX10_move_26 : decode cX10_move 26 = .ok (.istore 7, 2) := by decide +kernel
theorem dX10_move_28 : decode cX10_move 28 = .ok (.iload 7, 2) := by decide +kernel
theorem dX10_move_30 : decode cX10_move 30 = .ok (.iload 5, 2) := by decide +kernel
theorem dX10_move_32 : decode cX10_move 32 = .ok (.if_icmp .ge 58, 3) := by decide +kernel
theorem dX10_move_35 : decode cX10_move 35 = .ok (.iload_n 2, 1) := by decide +kernel
theorem dX10_move_36 : decode cX10_move 36 = .ok (.iload 4, 2) := by decide +kernel
theorem dX10_move_38 : decode cX10_move 38 = .ok (.if_icmp .ge 13, 3) := by decide +kernel
theorem dX10_move_41 : decode cX10_move 41 = .ok (.iload 5, 2) := by decide +kernel
theorem dX10_move_43 : decode cX10_move 43 = .ok (.iconst 1, 1) := by decide +kernel
theorem dX10_move_44 : decode cX10_move 44 = .ok (.isub, 1) := by decide +kernel
theorem dX10_move_45 : decode cX10_move 45 = .ok (.iload 7, 2) := by decide +kernel
theorem dX10_move_47 : decode cX10_move 47 = .ok (.isub, 1) := by decide +kernel
theorem dX10_move_48 : decode cX10_move 48 = .ok (.goto 5, 3) := by decide +kernel
theorem dX10_move_51 : decode cX10_move 51 = .ok (.iload 7, 2) := by decide +kernel
theorem dX10_move_53 : decode cX10_move 53 = .ok (.istore 8, 2) := by decide +kernel
theorem dX10_move_55 : decode cX10_move 55 = .ok (.aload_n 0, 1) := by decide +kernel
theorem dX10_move_56 : decode cX10_move 56 = .ok (.getfield 28, 3) := by decide +kernel
theorem dX10_move_59 : decode cX10_move 59 = .ok (.bipush 24, 2) := by decide +kernel
theorem dX10_move_61 : decode cX10_move 61 = .ok (.iload_n 3, 1) := by decide +kernel
theorem dX10_move_62 : decode cX10_move 62 = .ok (.imul, 1) := by decide +kernel
theorem dX10_move_63 : decode cX10_move 63 = .ok (.iload 4, 2) := by decide +kernel
theorem dX10_move_65 : decode cX10_move 65 = .ok (.iadd, 1) := by decide +kernel
theorem dX10_move_66 : decode cX10_move 66 = .ok (.iload 8, 2) := by decide +kernel
theorem dX10_move_68 : decode cX10_move 68 = .ok (.iadd, 1) := by decide +kernel
theorem dX10_move_69 : decode cX10_move 69 = .ok (.aload_n 0, 1) := by decide +kernel
theorem dX10_move_70 : decode cX10_move 70 = .ok (.getfield 28, 3) := by decide +kernel
theorem dX10_move_73 : decode cX10_move 73 = .ok (.bipush 24, 2) := by decide +kernel
theorem dX10_move_75 : decode cX10_move 75 = .ok (.iload_n 1, 1) := by decide +kernel
theorem dX10_move_76 : decode cX10_move 76 = .ok (.imul, 1) := by decide +kernel
theorem dX10_move_77 : decode cX10_move 77 = .ok (.iload_n 2, 1) := by decide +kernel
theorem dX10_move_78 : decode cX10_move 78 = .ok (.iadd, 1) := by decide +kernel
theorem dX10_move_79 : decode cX10_move 79 = .ok (.iload 8, 2) := by decide +kernel
theorem dX10_move_81 : decode cX10_move 81 = .ok (.iadd, 1) := by decide +kernel
theorem dX10_move_82 : decode cX10_move 82 = .ok (.iaload, 1) := by decide +kernel
theorem dX10_move_83 : decode cX10_move 83 = .ok (.iastore, 1) := by decide +kernel
theorem dX10_move_84 : decode cX10_move 84 = .ok (.iinc 7 1, 3) := by decide +kernel
theorem dX10_move_87 : decode cX10_move 87 = .ok (.goto (-59), 3) := by decide +kernel
theorem dX10_move_90 : decode cX10_move 90 = .ok (.iload 5, 2) := by decide +kernel
theorem dX10_move_92 : decode cX10_move 92 = .ok (.ireturn, 1) := by decide +kernel
theorem dX10_lines_0 : decode cX10_lines 0 = .ok (.aload_n 0, 1) := by decide +kernel
theorem dX10_lines_1 : decode cX10_lines 1 = .ok (.iload_n 1, 1) := by decide +kernel
theorem dX10_lines_2 : decode cX10_lines 2 = .ok (.invokevirtual 221, 3) := by decide +kernel
theorem dX10_lines_5 : decode cX10_lines 5 = .ok (.istore_n 2, 1) := by decide +kernel
theorem dX10_lines_6 : decode cX10_lines 6 = .ok (.iload_n 2, 1) := by decide +kernel
theorem dX10_lines_7 : decode cX10_lines 7 = .ok (.ifCond .eq 9, 3) := by decide +kernel
theorem dX10_lines_10 : decode cX10_lines 10 = .ok (.aload_n 0, 1) := by decide +kernel
theorem dX10_lines_11 : decode cX10_lines 11 = .ok (.iload_n 2, 1) := by decide +kernel
theorem dX10_lines_12 : decode cX10_lines 12 = .ok (.invokevirtual 95, 3) := by decide +kernel
theorem dX10_lines_15 : decode cX10_lines 15 = .ok (.ireturn, 1) := by decide +kernel
theorem dX10_lines_16 : decode cX10_lines 16 = .ok (.iconst 0, 1) := by decide +kernel
theorem dX10_lines_17 : decode cX10_lines 17 = .ok (.istore_n 3, 1) := by decide +kernel
theorem dX10_lines_18 : decode cX10_lines 18 = .ok (.iload_n 3, 1) := by decide +kernel
theorem dX10_lines_19 : decode cX10_lines 19 = .ok (.aload_n 0, 1) := by decide +kernel
theorem dX10_lines_20 : decode cX10_lines 20 = .ok (.getfield 25, 3) := by decide +kernel
theorem dX10_lines_23 : decode cX10_lines 23 = .ok (.iload_n 1, 1) := by decide +kernel
theorem dX10_lines_24 : decode cX10_lines 24 = .ok (.iaload, 1) := by decide +kernel
theorem dX10_lines_25 : decode cX10_lines 25 = .ok (.if_icmp .ge 76, 3) := by decide +kernel
theorem dX10_lines_28 : decode cX10_lines 28 = .ok (.iload_n 3, 1) := by decide +kernel
theorem dX10_lines_29 : decode cX10_lines 29 = .ok (.aload_n 0, 1) := by decide +kernel
theorem dX10_lines_30 : decode cX10_lines 30 = .ok (.getfield 9, 3) := by decide +kernel
theorem dX10_lines_33 : decode cX10_lines 33 = .ok (.iconst 2, 1) := by decide +kernel
theorem dX10_lines_34 : decode cX10_lines 34 = .ok (.iaload, 1) := by decide +kernel
theorem dX10_lines_35 : decode cX10_lines 35 = .ok (.if_icmp .ge 66, 3) := by decide +kernel
theorem dX10_lines_38 : decode cX10_lines 38 = .ok (.aload_n 0, 1) := by decide +kernel
theorem dX10_lines_39 : decode cX10_lines 39 = .ok (.getfield 28, 3) := by decide +kernel
theorem dX10_lines_42 : decode cX10_lines 42 = .ok (.bipush 24, 2) := by decide +kernel
theorem dX10_lines_44 : decode cX10_lines 44 = .ok (.iload_n 1, 1) := by decide +kernel
theorem dX10_lines_45 : decode cX10_lines 45 = .ok (.imul, 1) := by decide +kernel
theorem dX10_lines_46 : decode cX10_lines 46 = .ok (.iload_n 3, 1) := by decide +kernel
theorem dX10_lines_47 : decode cX10_lines 47 = .ok (.iadd, 1) := by decide +kernel
theorem dX10_lines_48 : decode cX10_lines 48 = .ok (.iaload, 1) := by decide +kernel
theorem dX10_lines_49 : decode cX10_lines 49 = .ok (.invokestatic 91, 3) := by decide +kernel
theorem dX10_lines_52 : decode cX10_lines 52 = .ok (.ifCond .eq 49, 3) := by decide +kernel
theorem dX10_lines_55 : decode cX10_lines 55 = .ok (.aload_n 0, 1) := by decide +kernel
theorem dX10_lines_56 : decode cX10_lines 56 = .ok (.iload_n 3, 1) := by decide +kernel
theorem dX10_lines_57 : decode cX10_lines 57 = .ok (.iconst 2, 1) := by decide +kernel
theorem dX10_lines_58 : decode cX10_lines 58 = .ok (.aload_n 0, 1) := by decide +kernel
theorem dX10_lines_59 : decode cX10_lines 59 = .ok (.getfield 28, 3) := by decide +kernel
theorem dX10_lines_62 : decode cX10_lines 62 = .ok (.bipush 24, 2) := by decide +kernel
theorem dX10_lines_64 : decode cX10_lines 64 = .ok (.iload_n 1, 1) := by decide +kernel
theorem dX10_lines_65 : decode cX10_lines 65 = .ok (.imul, 1) := by decide +kernel
theorem dX10_lines_66 : decode cX10_lines 66 = .ok (.iload_n 3, 1) := by decide +kernel
theorem dX10_lines_67 : decode cX10_lines 67 = .ok (.iadd, 1) := by decide +kernel
theorem dX10_lines_68 : decode cX10_lines 68 = .ok (.iaload, 1) := by decide +kernel
theorem dX10_lines_69 : decode cX10_lines 69 = .ok (.bipush 10, 2) := by decide +kernel
theorem dX10_lines_71 : decode cX10_lines 71 = .ok (.idiv, 1) := by decide +kernel
theorem dX10_lines_72 : decode cX10_lines 72 = .ok (.invokevirtual 84, 3) := by decide +kernel
theorem dX10_lines_75 : decode cX10_lines 75 = .ok (.aload_n 0, 1) := by decide +kernel
theorem dX10_lines_76 : decode cX10_lines 76 = .ok (.iload_n 3, 1) := by decide +kernel
theorem dX10_lines_77 : decode cX10_lines 77 = .ok (.iconst 3, 1) := by decide +kernel
theorem dX10_lines_78 : decode cX10_lines 78 = .ok (.aload_n 0, 1) := by decide +kernel
theorem dX10_lines_79 : decode cX10_lines 79 = .ok (.getfield 28, 3) := by decide +kernel
theorem dX10_lines_82 : decode cX10_lines 82 = .ok (.bipush 24, 2) := by decide +kernel
theorem dX10_lines_84 : decode cX10_lines 84 = .ok (.iload_n 1, 1) := by decide +kernel
theorem dX10_lines_85 : decode cX10_lines 85 = .ok (.imul, 1) := by decide +kernel
theorem dX10_lines_86 : decode cX10_lines 86 = .ok (.iload_n 3, 1) := by decide +kernel
theorem dX10_lines_87 : decode cX10_lines 87 = .ok (.iadd, 1) := by decide +kernel
theorem dX10_lines_88 : decode cX10_lines 88 = .ok (.iaload, 1) := by decide +kernel
theorem dX10_lines_89 : decode cX10_lines 89 = .ok (.bipush 10, 2) := by decide +kernel
theorem dX10_lines_91 : decode cX10_lines 91 = .ok (.irem, 1) := by decide +kernel
theorem dX10_lines_92 : decode cX10_lines 92 = .ok (.invokevirtual 84, 3) := by decide +kernel
theorem dX10_lines_95 : decode cX10_lines 95 = .ok (.iinc 3 1, 3) := by decide +kernel
theorem dX10_lines_98 : decode cX10_lines 98 = .ok (.goto (-80), 3) := by decide +kernel
theorem dX10_lines_101 : decode cX10_lines 101 = .ok (.iload_n 3, 1) := by decide +kernel
theorem dX10_lines_102 : decode cX10_lines 102 = .ok (.ireturn, 1) := by decide +kernel
theorem dX10_judge_0 : decode cX10_judge 0 = .ok (.aload_n 0, 1) := by decide +kernel
theorem dX10_judge_1 : decode cX10_judge 1 = .ok (.iload_n 1, 1) := by decide +kernel
theorem dX10_judge_2 : decode cX10_judge 2 = .ok (.invokevirtual 221, 3) := by decide +kernel
theorem dX10_judge_5 : decode cX10_judge 5 = .ok (.istore_n 2, 1) := by decide +kernel
theorem dX10_judge_6 : decode cX10_judge 6 = .ok (.iload_n 2, 1) := by decide +kernel
theorem dX10_judge_7 : decode cX10_judge 7 = .ok (.ifCond .eq 9, 3) := by decide +kernel
theorem dX10_judge_10 : decode cX10_judge 10 = .ok (.aload_n 0, 1) := by decide +kernel
theorem dX10_judge_11 : decode cX10_judge 11 = .ok (.iload_n 2, 1) := by decide +kernel
theorem dX10_judge_12 : decode cX10_judge 12 = .ok (.invokevirtual 95, 3) := by decide +kernel
theorem dX10_judge_15 : decode cX10_judge 15 = .ok (.ireturn, 1) := by decide +kernel
theorem dX10_judge_16 : decode cX10_judge 16 = .ok (.iconst 0, 1) := by decide +kernel
theorem dX10_judge_17 : decode cX10_judge 17 = .ok (.istore_n 3, 1) := by decide +kernel
theorem dX10_judge_18 : decode cX10_judge 18 = .ok (.iload_n 3, 1) := by decide +kernel
theorem dX10_judge_19 : decode cX10_judge 19 = .ok (.aload_n 0, 1) := by decide +kernel
theorem dX10_judge_20 : decode cX10_judge 20 = .ok (.getfield 25, 3) := by decide +kernel
theorem dX10_judge_23 : decode cX10_judge 23 = .ok (.iload_n 1, 1) := by decide +kernel
theorem dX10_judge_24 : decode cX10_judge 24 = .ok (.iaload, 1) := by decide +kernel
theorem dX10_judge_25 : decode cX10_judge 25 = .ok (.if_icmp .ge 38, 3) := by decide +kernel
theorem dX10_judge_28 : decode cX10_judge 28 = .ok (.iload_n 3, 1) := by decide +kernel
theorem dX10_judge_29 : decode cX10_judge 29 = .ok (.aload_n 0, 1) := by decide +kernel
theorem dX10_judge_30 : decode cX10_judge 30 = .ok (.getfield 9, 3) := by decide +kernel
theorem dX10_judge_33 : decode cX10_judge 33 = .ok (.iconst 2, 1) := by decide +kernel
theorem dX10_judge_34 : decode cX10_judge 34 = .ok (.iaload, 1) := by decide +kernel
theorem dX10_judge_35 : decode cX10_judge 35 = .ok (.if_icmp .ge 28, 3) := by decide +kernel
theorem dX10_judge_38 : decode cX10_judge 38 = .ok (.aload_n 0, 1) := by decide +kernel
theorem dX10_judge_39 : decode cX10_judge 39 = .ok (.getfield 28, 3) := by decide +kernel
theorem dX10_judge_42 : decode cX10_judge 42 = .ok (.bipush 24, 2) := by decide +kernel
theorem dX10_judge_44 : decode cX10_judge 44 = .ok (.iload_n 1, 1) := by decide +kernel
theorem dX10_judge_45 : decode cX10_judge 45 = .ok (.imul, 1) := by decide +kernel
theorem dX10_judge_46 : decode cX10_judge 46 = .ok (.iload_n 3, 1) := by decide +kernel
theorem dX10_judge_47 : decode cX10_judge 47 = .ok (.iadd, 1) := by decide +kernel
theorem dX10_judge_48 : decode cX10_judge 48 = .ok (.iaload, 1) := by decide +kernel
theorem dX10_judge_49 : decode cX10_judge 49 = .ok (.aload_n 0, 1) := by decide +kernel
theorem dX10_judge_50 : decode cX10_judge 50 = .ok (.iload_n 3, 1) := by decide +kernel
theorem dX10_judge_51 : decode cX10_judge 51 = .ok (.invokevirtual 105, 3) := by decide +kernel
theorem dX10_judge_54 : decode cX10_judge 54 = .ok (.if_icmp .ne 9, 3) := by decide +kernel
theorem dX10_judge_57 : decode cX10_judge 57 = .ok (.iinc 3 1, 3) := by decide +kernel
theorem dX10_judge_60 : decode cX10_judge 60 = .ok (.goto (-42), 3) := by decide +kernel
theorem dX10_judge_63 : decode cX10_judge 63 = .ok (.iload_n 3, 1) := by decide +kernel
theorem dX10_judge_64 : decode cX10_judge 64 = .ok (.ireturn, 1) := by decide +kernel
theorem dX10_image_0 : decode cX10_image 0 = .ok (.aload_n 0, 1) := by decide +kernel
theorem dX10_image_1 : decode cX10_image 1 = .ok (.getfield 9, 3) := by decide +kernel
theorem dX10_image_4 : decode cX10_image 4 = .ok (.aload_n 0, 1) := by decide +kernel
theorem dX10_image_5 : decode cX10_image 5 = .ok (.getfield 13, 3) := by decide +kernel
theorem dX10_image_8 : decode cX10_image 8 = .ok (.invokestatic 50, 3) := by decide +kernel
theorem dX10_image_11 : decode cX10_image 11 = .ok (.aload_n 0, 1) := by decide +kernel
theorem dX10_image_12 : decode cX10_image 12 = .ok (.dup, 1) := by decide +kernel
theorem dX10_image_13 : decode cX10_image 13 = .ok (.getfield 275, 3) := by decide +kernel
theorem dX10_image_16 : decode cX10_image 16 = .ok (.iconst 1, 1) := by decide +kernel
theorem dX10_image_17 : decode cX10_image 17 = .ok (.iadd, 1) := by decide +kernel
theorem dX10_image_18 : decode cX10_image 18 = .ok (.putfield 275, 3) := by decide +kernel
theorem dX10_image_21 : decode cX10_image 21 = .ok (.aload_n 0, 1) := by decide +kernel
theorem dX10_image_22 : decode cX10_image 22 = .ok (.getfield 275, 3) := by decide +kernel
theorem dX10_image_25 : decode cX10_image 25 = .ok (.ireturn, 1) := by decide +kernel
theorem dX10_restore_0 : decode cX10_restore 0 = .ok (.aload_n 0, 1) := by decide +kernel
theorem dX10_restore_1 : decode cX10_restore 1 = .ok (.getfield 275, 3) := by decide +kernel
theorem dX10_restore_4 : decode cX10_restore 4 = .ok (.ifCond .ne 10, 3) := by decide +kernel
theorem dX10_restore_7 : decode cX10_restore 7 = .ok (.aload_n 0, 1) := by decide +kernel
theorem dX10_restore_8 : decode cX10_restore 8 = .ok (.ldc 227, 2) := by decide +kernel
theorem dX10_restore_10 : decode cX10_restore 10 = .ok (.invokevirtual 95, 3) := by decide +kernel
theorem dX10_restore_13 : decode cX10_restore 13 = .ok (.ireturn, 1) := by decide +kernel
theorem dX10_restore_14 : decode cX10_restore 14 = .ok (.aload_n 0, 1) := by decide +kernel
theorem dX10_restore_15 : decode cX10_restore 15 = .ok (.getfield 13, 3) := by decide +kernel
theorem dX10_restore_18 : decode cX10_restore 18 = .ok (.aload_n 0, 1) := by decide +kernel
theorem dX10_restore_19 : decode cX10_restore 19 = .ok (.getfield 9, 3) := by decide +kernel
theorem dX10_restore_22 : decode cX10_restore 22 = .ok (.invokestatic 50, 3) := by decide +kernel
theorem dX10_restore_25 : decode cX10_restore 25 = .ok (.aload_n 0, 1) := by decide +kernel
theorem dX10_restore_26 : decode cX10_restore 26 = .ok (.getfield 9, 3) := by decide +kernel
theorem dX10_restore_29 : decode cX10_restore 29 = .ok (.iconst 0, 1) := by decide +kernel
theorem dX10_restore_30 : decode cX10_restore 30 = .ok (.iaload, 1) := by decide +kernel
theorem dX10_restore_31 : decode cX10_restore 31 = .ok (.ireturn, 1) := by decide +kernel
theorem dX10_tell_0 : decode cX10_tell 0 = .ok (.aload_n 0, 1) := by decide +kernel
theorem dX10_tell_1 : decode cX10_tell 1 = .ok (.getfield 9, 3) := by decide +kernel
theorem dX10_tell_4 : decode cX10_tell 4 = .ok (.iconst 5, 1) := by decide +kernel
theorem dX10_tell_5 : decode cX10_tell 5 = .ok (.iaload, 1) := by decide +kernel
theorem dX10_tell_6 : decode cX10_tell 6 = .ok (.bipush 24, 2) := by decide +kernel
theorem dX10_tell_8 : decode cX10_tell 8 = .ok (.if_icmp .ne 10, 3) := by decide +kernel
theorem dX10_tell_11 : decode cX10_tell 11 = .ok (.aload_n 0, 1) := by decide +kernel
theorem dX10_tell_12 : decode cX10_tell 12 = .ok (.ldc 98, 2) := by decide +kernel
theorem dX10_tell_14 : decode cX10_tell 14 = .ok (.invokevirtual 95, 3) := by decide +kernel
theorem dX10_tell_17 : decode cX10_tell 17 = .ok (.ireturn, 1) := by decide +kernel
theorem dX10_tell_18 : decode cX10_tell 18 = .ok (.aload_n 0, 1) := by decide +kernel
theorem dX10_tell_19 : decode cX10_tell 19 = .ok (.getfield 9, 3) := by decide +kernel
theorem dX10_tell_22 : decode cX10_tell 22 = .ok (.sipush 150, 3) := by decide +kernel
theorem dX10_tell_25 : decode cX10_tell 25 = .ok (.aload_n 0, 1) := by decide +kernel
theorem dX10_tell_26 : decode cX10_tell 26 = .ok (.getfield 9, 3) := by decide +kernel
theorem dX10_tell_29 : decode cX10_tell 29 = .ok (.iconst 5, 1) := by decide +kernel
theorem dX10_tell_30 : decode cX10_tell 30 = .ok (.iaload, 1) := by decide +kernel
theorem dX10_tell_31 : decode cX10_tell 31 = .ok (.iadd, 1) := by decide +kernel
theorem dX10_tell_32 : decode cX10_tell 32 = .ok (.iload_n 1, 1) := by decide +kernel
theorem dX10_tell_33 : decode cX10_tell 33 = .ok (.iastore, 1) := by decide +kernel
theorem dX10_tell_34 : decode cX10_tell 34 = .ok (.aload_n 0, 1) := by decide +kernel
theorem dX10_tell_35 : decode cX10_tell 35 = .ok (.getfield 9, 3) := by decide +kernel
theorem dX10_tell_38 : decode cX10_tell 38 = .ok (.iconst 5, 1) := by decide +kernel
theorem dX10_tell_39 : decode cX10_tell 39 = .ok (.dup2, 1) := by decide +kernel
theorem dX10_tell_40 : decode cX10_tell 40 = .ok (.iaload, 1) := by decide +kernel
theorem dX10_tell_41 : decode cX10_tell 41 = .ok (.iconst 1, 1) := by decide +kernel
theorem dX10_tell_42 : decode cX10_tell 42 = .ok (.iadd, 1) := by decide +kernel
theorem dX10_tell_43 : decode cX10_tell 43 = .ok (.iastore, 1) := by decide +kernel
theorem dX10_tell_44 : decode cX10_tell 44 = .ok (.aload_n 0, 1) := by decide +kernel
theorem dX10_tell_45 : decode cX10_tell 45 = .ok (.getfield 9, 3) := by decide +kernel
theorem dX10_tell_48 : decode cX10_tell 48 = .ok (.iconst 5, 1) := by decide +kernel
theorem dX10_tell_49 : decode cX10_tell 49 = .ok (.iaload, 1) := by decide +kernel
theorem dX10_tell_50 : decode cX10_tell 50 = .ok (.ireturn, 1) := by decide +kernel
theorem dX10_check_0 : decode cX10_check 0 = .ok (.aload_n 0, 1) := by decide +kernel
theorem dX10_check_1 : decode cX10_check 1 = .ok (.getfield 9, 3) := by decide +kernel
theorem dX10_check_4 : decode cX10_check 4 = .ok (.iconst 5, 1) := by decide +kernel
theorem dX10_check_5 : decode cX10_check 5 = .ok (.iaload, 1) := by decide +kernel
theorem dX10_check_6 : decode cX10_check 6 = .ok (.istore_n 1, 1) := by decide +kernel
theorem dX10_check_7 : decode cX10_check 7 = .ok (.aload_n 0, 1) := by decide +kernel
theorem dX10_check_8 : decode cX10_check 8 = .ok (.getfield 9, 3) := by decide +kernel
theorem dX10_check_11 : decode cX10_check 11 = .ok (.iconst 5, 1) := by decide +kernel
theorem dX10_check_12 : decode cX10_check 12 = .ok (.iconst 0, 1) := by decide +kernel
theorem dX10_check_13 : decode cX10_check 13 = .ok (.iastore, 1) := by decide +kernel
theorem dX10_check_14 : decode cX10_check 14 = .ok (.iconst 0, 1) := by decide +kernel
theorem dX10_check_15 : decode cX10_check 15 = .ok (.istore_n 2, 1) := by decide +kernel
theorem dX10_check_16 : decode cX10_check 16 = .ok (.iload_n 2, 1) := by decide +kernel
theorem dX10_check_17 : decode cX10_check 17 = .ok (.iload_n 1, 1) := by decide +kernel
theorem dX10_check_18 : decode cX10_check 18 = .ok (.if_icmp .ge 40, 3) := by decide +kernel
theorem dX10_check_21 : decode cX10_check 21 = .ok (.aload_n 0, 1) := by decide +kernel
theorem dX10_check_22 : decode cX10_check 22 = .ok (.iload_n 2, 1) := by decide +kernel
theorem dX10_check_23 : decode cX10_check 23 = .ok (.invokevirtual 102, 3) := by decide +kernel
theorem dX10_check_26 : decode cX10_check 26 = .ok (.ifCond .eq 22, 3) := by decide +kernel
theorem dX10_check_29 : decode cX10_check 29 = .ok (.aload_n 0, 1) := by decide +kernel
theorem dX10_check_30 : decode cX10_check 30 = .ok (.getfield 9, 3) := by decide +kernel
theorem dX10_check_33 : decode cX10_check 33 = .ok (.sipush 150, 3) := by decide +kernel
theorem dX10_check_36 : decode cX10_check 36 = .ok (.iload_n 2, 1) := by decide +kernel
theorem dX10_check_37 : decode cX10_check 37 = .ok (.iadd, 1) := by decide +kernel
theorem dX10_check_38 : decode cX10_check 38 = .ok (.iaload, 1) := by decide +kernel
theorem dX10_check_39 : decode cX10_check 39 = .ok (.aload_n 0, 1) := by decide +kernel
theorem dX10_check_40 : decode cX10_check 40 = .ok (.iload_n 2, 1) := by decide +kernel
theorem dX10_check_41 : decode cX10_check 41 = .ok (.iconst 5, 1) := by decide +kernel
theorem dX10_check_42 : decode cX10_check 42 = .ok (.invokevirtual 58, 3) := by decide +kernel
theorem dX10_check_45 : decode cX10_check 45 = .ok (.if_icmp .eq 7, 3) := by decide +kernel
theorem dX10_check_48 : decode cX10_check 48 = .ok (.iconst 1, 1) := by decide +kernel
theorem dX10_check_49 : decode cX10_check 49 = .ok (.iload_n 2, 1) := by decide +kernel
theorem dX10_check_50 : decode cX10_check 50 = .ok (.iadd, 1) := by decide +kernel
theorem dX10_check_51 : decode cX10_check 51 = .ok (.ireturn, 1) := by decide +kernel
theorem dX10_check_52 : decode cX10_check 52 = .ok (.iinc 2 1, 3) := by decide +kernel
theorem dX10_check_55 : decode cX10_check 55 = .ok (.goto (-39), 3) := by decide +kernel
theorem dX10_check_58 : decode cX10_check 58 = .ok (.iconst 0, 1) := by decide +kernel
theorem dX10_check_59 : decode cX10_check 59 = .ok (.ireturn, 1) := by decide +kernel
theorem dX10_count_0 : decode cX10_count 0 = .ok (.iload_n 1, 1) := by decide +kernel
theorem dX10_count_1 : decode cX10_count 1 = .ok (.tableswitch 102 0 7 #[47, 54, 62, 69, 76, 83, 90, 95], 47) := by decide +kernel
theorem dX10_count_48 : decode cX10_count 48 = .ok (.aload_n 0, 1) := by decide +kernel
theorem dX10_count_49 : decode cX10_count 49 = .ok (.getfield 9, 3) := by decide +kernel
theorem dX10_count_52 : decode cX10_count 52 = .ok (.iconst 2, 1) := by decide +kernel
theorem dX10_count_53 : decode cX10_count 53 = .ok (.iaload, 1) := by decide +kernel
theorem dX10_count_54 : decode cX10_count 54 = .ok (.ireturn, 1) := by decide +kernel
theorem dX10_count_55 : decode cX10_count 55 = .ok (.aload_n 0, 1) := by decide +kernel
theorem dX10_count_56 : decode cX10_count 56 = .ok (.invokevirtual 184, 3) := by decide +kernel
theorem dX10_count_59 : decode cX10_count 59 = .ok (.invokestatic 187, 3) := by decide +kernel
theorem dX10_count_62 : decode cX10_count 62 = .ok (.ireturn, 1) := by decide +kernel
theorem dX10_count_63 : decode cX10_count 63 = .ok (.aload_n 0, 1) := by decide +kernel
theorem dX10_count_64 : decode cX10_count 64 = .ok (.getfield 9, 3) := by decide +kernel
theorem dX10_count_67 : decode cX10_count 67 = .ok (.iconst 0, 1) := by decide +kernel
theorem dX10_count_68 : decode cX10_count 68 = .ok (.iaload, 1) := by decide +kernel
theorem dX10_count_69 : decode cX10_count 69 = .ok (.ireturn, 1) := by decide +kernel
theorem dX10_count_70 : decode cX10_count 70 = .ok (.aload_n 0, 1) := by decide +kernel
theorem dX10_count_71 : decode cX10_count 71 = .ok (.getfield 9, 3) := by decide +kernel
theorem dX10_count_74 : decode cX10_count 74 = .ok (.iconst 3, 1) := by decide +kernel
theorem dX10_count_75 : decode cX10_count 75 = .ok (.iaload, 1) := by decide +kernel
theorem dX10_count_76 : decode cX10_count 76 = .ok (.ireturn, 1) := by decide +kernel
theorem dX10_count_77 : decode cX10_count 77 = .ok (.aload_n 0, 1) := by decide +kernel
theorem dX10_count_78 : decode cX10_count 78 = .ok (.getfield 9, 3) := by decide +kernel
theorem dX10_count_81 : decode cX10_count 81 = .ok (.iconst 4, 1) := by decide +kernel
theorem dX10_count_82 : decode cX10_count 82 = .ok (.iaload, 1) := by decide +kernel
theorem dX10_count_83 : decode cX10_count 83 = .ok (.ireturn, 1) := by decide +kernel
theorem dX10_count_84 : decode cX10_count 84 = .ok (.aload_n 0, 1) := by decide +kernel
theorem dX10_count_85 : decode cX10_count 85 = .ok (.getfield 9, 3) := by decide +kernel
theorem dX10_count_88 : decode cX10_count 88 = .ok (.iconst 5, 1) := by decide +kernel
theorem dX10_count_89 : decode cX10_count 89 = .ok (.iaload, 1) := by decide +kernel
theorem dX10_count_90 : decode cX10_count 90 = .ok (.ireturn, 1) := by decide +kernel
theorem dX10_count_91 : decode cX10_count 91 = .ok (.aload_n 0, 1) := by decide +kernel
theorem dX10_count_92 : decode cX10_count 92 = .ok (.getfield 228, 3) := by decide +kernel
theorem dX10_count_95 : decode cX10_count 95 = .ok (.ireturn, 1) := by decide +kernel
theorem dX10_count_96 : decode cX10_count 96 = .ok (.aload_n 0, 1) := by decide +kernel
theorem dX10_count_97 : decode cX10_count 97 = .ok (.getfield 9, 3) := by decide +kernel
theorem dX10_count_100 : decode cX10_count 100 = .ok (.iconst 1, 1) := by decide +kernel
theorem dX10_count_101 : decode cX10_count 101 = .ok (.iaload, 1) := by decide +kernel
theorem dX10_count_102 : decode cX10_count 102 = .ok (.ireturn, 1) := by decide +kernel
theorem dX10_count_103 : decode cX10_count 103 = .ok (.aload_n 0, 1) := by decide +kernel
theorem dX10_count_104 : decode cX10_count 104 = .ok (.ldc 94, 2) := by decide +kernel
theorem dX10_count_106 : decode cX10_count 106 = .ok (.invokevirtual 95, 3) := by decide +kernel
theorem dX10_count_109 : decode cX10_count 109 = .ok (.ireturn, 1) := by decide +kernel
theorem dX10_told_0 : decode cX10_told 0 = .ok (.iload_n 1, 1) := by decide +kernel
theorem dX10_told_1 : decode cX10_told 1 = .ok (.iconst 1, 1) := by decide +kernel
theorem dX10_told_2 : decode cX10_told 2 = .ok (.bipush 6, 2) := by decide +kernel
theorem dX10_told_4 : decode cX10_told 4 = .ok (.invokestatic 54, 3) := by decide +kernel
theorem dX10_told_7 : decode cX10_told 7 = .ok (.ifCond .eq 12, 3) := by decide +kernel
theorem dX10_told_10 : decode cX10_told 10 = .ok (.aload_n 0, 1) := by decide +kernel
theorem dX10_told_11 : decode cX10_told 11 = .ok (.getfield 19, 3) := by decide +kernel
theorem dX10_told_14 : decode cX10_told 14 = .ok (.iload_n 1, 1) := by decide +kernel
theorem dX10_told_15 : decode cX10_told 15 = .ok (.iaload, 1) := by decide +kernel
theorem dX10_told_16 : decode cX10_told 16 = .ok (.goto 9, 3) := by decide +kernel
theorem dX10_told_19 : decode cX10_told 19 = .ok (.aload_n 0, 1) := by decide +kernel
theorem dX10_told_20 : decode cX10_told 20 = .ok (.ldc 94, 2) := by decide +kernel
theorem dX10_told_22 : decode cX10_told 22 = .ok (.invokevirtual 95, 3) := by decide +kernel
theorem dX10_told_25 : decode cX10_told 25 = .ok (.ireturn, 1) := by decide +kernel
end
section
-- THE FLAT MEMORY: all objects of class and reference stand under numbers 0 .. 104 (addresses: ga g), what they hold are ints M k j; KW is the goal at an instruction
abbrev Mem : Type := Nat → Nat → Int32
def mrow (M : Mem) (k : Nat) (f : Nat → Int32) : Mem := fun a => if a = k then f else M a
def mu (M : Mem) (k i : Nat) (x : Int32) : Mem := mrow M k (upd (M k) i x)
theorem mrow_s (M : Mem) (k : Nat) (f : Nat → Int32) : mrow M k f k = f := if_pos rfl
theorem mrow_n (M : Mem) {k a : Nat} (f : Nat → Int32) (h : a ≠ k) : mrow M k f a = M a := if_neg h
theorem mu_n (M : Mem) {k a : Nat} (i : Nat) (x : Int32) (h : a ≠ k) : mu M k i x a = M a := if_neg h
theorem mu_r (M : Mem) (k i : Nat) (x : Int32) : mu M k i x k = upd (M k) i x := if_pos rfl
theorem mu_s (M : Mem) (k i : Nat) (x : Int32) : mu M k i x k i = x := by rw [mu_r]; exact if_pos rfl
theorem mu_o (M : Mem) (k : Nat) {i j : Nat} (x : Int32) (h : j ≠ i) : mu M k i x k j = M k j := by rw [mu_r]; exact if_neg h
theorem mu_at (M : Mem) (k i : Nat) (x : Int32) (a j : Nat) : mu M k i x a j = if a = k ∧ j = i then x else M a j := by
  by_cases h : a = k
  · subst h
    rw [mu_r]
    by_cases h2 : j = i
    · simp [upd, h2]
    · simp [upd, h2]
  · rw [mu_n _ _ _ h]; simp [h]
abbrev GT : Type := va_G × (Nat → ClassId) × (Nat → Nat) × Nat
abbrev gD (g : GT) : va_G := g.1
abbrev gC (g : GT) : Nat → ClassId := g.2.1
abbrev ga (g : GT) : Nat → Nat := g.2.2.1
abbrev gl (g : GT) : Nat := g.2.2.2
abbrev gA (g : GT) : Nat → Prop := fun q => gl g ≤ q
abbrev rfs (h : Nat → Nat) : (Nat → Int32) ⊕ (Nat → Int64) ⊕ (Nat → UInt32) ⊕ (Nat → UInt64) ⊕ (Nat → Option Nat) := .inr (.inr (.inr (.inr (fun i => some (h i)))))
def mlen (k : Nat) : Nat := if k < 95 then 416 else if k < 96 then 7 else if k < 98 then 4 else if k < 99 then 96 else if k < 101 then 60 else if k < 102 then 3 else if k < 103 then 60 else if k < 104 then 72 else 30
def cE (g : GT) (k : Nat) (f : Nat → Int32) : va_E :=
  if k < 37 then .inr (2, [.int (f 0), .int (f 1), .int (f 2), .int (f 3), .int (f 4), .int (f 5), .int (f 6)])
  else if k < 40 then .inr (1, [.ref (ga g (k + 3)), .int (f 1), .int (f 2), .int (f 3), .int (f 4)])
  else if k < 43 then .inl (gC g 3, 12, rfs (fun i => ga g (12 * (k - 40) + i)))
  else if k < 45 then .inr (8, [.ref (ga g (k - 6)), .ref (ga g (k + 2)), .ref (ga g (k + 19)), .int (f 3), .ref (ga g (k + 22)), .int (f 5)])
  else if k < 47 then .inl (gC g 4, 2, rfs (fun i => ga g (2 * (k - 45) + 47 + i)))
  else if k < 52 then .inr (3, [.ref (ga g (k + 5)), .int (f 1), .ref (ga g (k + 10)), .int (f 3)])
  else if k < 62 then .inl (gC g 0, 60, .inl f)
  else if k < 64 then .inl (gC g 1, 60, .inl f)
  else if k < 65 then .inl (gC g 1, 0, .inl f)
  else if k < 67 then .inl (gC g 0, 24, .inl f)
  else if k < 68 then .inr (0, [.ref (ga g 68)])
  else if k < 69 then .inl (gC g 0, 12, .inl f)
  else if k < 71 then .inr (4, [.ref (ga g (k + 2)), .ref (ga g (k + 4)), .ref (ga g (k + 6))])
  else if k < 75 then .inl (gC g 0, (if k % 2 = 1 then 12 else 6), .inl f)
  else if k < 77 then .inl (gC g 2, (if k % 2 = 1 then 12 else 6), .inl f)
  else if k < 78 then .inr (7, [.ref (ga g 51), .int (f 1), .ref (ga g (f 2).toNatClampNeg), .int (f 3), .int (f 4)])
  else if k < 79 then .inr (6, [.ref (ga g 79), .int (f 1), .int (f 2), .int (f 3), .int (f 4), .int (f 5)])
  else if k < 80 then .inl (gC g 0, 30, .inl f)
  else if k < 81 then .inl (gC g 5, 4, rfs (fun i => ga g (81 + i)))
  else if k < 85 then .inr (5, [.ref (ga g (k + 4)), .int (f 1), .int (f 2)])
  else if k < 89 then .inl (gC g 0, 24, .inl f)
  else if k < 90 then .inl (gC g 0, 7, .inl f)
  else if k < 91 then .inr (9, [.ref (ga g 43), .ref (ga g 44), .int (f 2), .ref (ga g 39), .ref (ga g 36), .ref (ga g 67), .ref (ga g 69), .ref (ga g 70), .ref (ga g 77), .ref (ga g 78), .ref (ga g 80), .ref (ga g 89)])
  else if k < 92 then .inr (10, [.ref (ga g 92), .ref (ga g 93), .ref (ga g 94), .int (f 3), .ref (ga g 95), .ref (ga g 96), .ref (ga g 97), .ref (ga g 98), .ref (ga g 99), .ref (ga g 100), .ref (ga g 101), .ref (ga g 102), .int (f 12), .int (f 13), .int (f 14), .int (f 15), .int (f 16), .ref (ga g 103), .ref (ga g 104), .int (f 19), .int (f 20)])
  else .inl (gC g 0, mlen k, .inl f)
theorem ce_fu (g : GT) {k : Nat} (f : Nat → Int32) (h : k < 37) : cE g k f = .inr (2, [.int (f 0), .int (f 1), .int (f 2), .int (f 3), .int (f 4), .int (f 5), .int (f 6)]) := if_pos h
theorem ce_fld (g : GT) {i : Nat} (f : Nat → Int32) (h : i < 3) : cE g (37 + i) f = .inr (1, [.ref (ga g (40 + i)), .int (f 1), .int (f 2), .int (f 3), .int (f 4)]) := by
  rcases (show i = 0 ∨ i = 1 ∨ i = 2 by omega) with rfl | rfl | rfl <;> rfl
theorem ce_fa (g : GT) {i : Nat} (f : Nat → Int32) (h : i < 3) : cE g (40 + i) f = .inl (gC g 3, 12, rfs (fun j => ga g (12 * i + j))) := by
  rcases (show i = 0 ∨ i = 1 ∨ i = 2 by omega) with rfl | rfl | rfl <;> rfl
theorem ce_wld (g : GT) {i : Nat} (f : Nat → Int32) (h : i < 2) : cE g (43 + i) f = .inr (8, [.ref (ga g (37 + i)), .ref (ga g (45 + i)), .ref (ga g (62 + i)), .int (f 3), .ref (ga g (65 + i)), .int (f 5)]) := by
  rcases (show i = 0 ∨ i = 1 by omega) with rfl | rfl <;> rfl
theorem ce_la (g : GT) {i : Nat} (f : Nat → Int32) (h : i < 2) : cE g (45 + i) f = .inl (gC g 4, 2, rfs (fun j => ga g (47 + (2 * i + j)))) := by
  rcases (show i = 0 ∨ i = 1 by omega) with rfl | rfl
  · show _ = Sum.inl (gC g 4, 2, rfs (fun j => ga g (47 + (0 + j))))
    simp only [Nat.zero_add]; rfl
  · show Sum.inl (gC g 4, 2, rfs (fun j => ga g (49 + j))) = Sum.inl (gC g 4, 2, rfs (fun j => ga g (47 + (2 + j))))
    have e : ∀ j : Nat, 47 + (2 + j) = 49 + j := fun j => by omega
    simp only [e]
theorem ce_law (g : GT) {i : Nat} (f : Nat → Int32) (h : i < 5) : cE g (47 + i) f = .inr (3, [.ref (ga g (52 + i)), .int (f 1), .ref (ga g (57 + i)), .int (f 3)]) := by
  rcases (show i = 0 ∨ i = 1 ∨ i = 2 ∨ i = 3 ∨ i = 4 by omega) with rfl | rfl | rfl | rfl | rfl <;> rfl
theorem ce_lp (g : GT) {i : Nat} (h : i < 5) (f : Nat → Int32) : cE g (52 + i) f = .inl (gC g 0, 60, .inl f) := by
  rcases (show i = 0 ∨ i = 1 ∨ i = 2 ∨ i = 3 ∨ i = 4 by omega) with rfl | rfl | rfl | rfl | rfl <;> rfl
theorem ce_ls (g : GT) {i : Nat} (h : i < 5) (f : Nat → Int32) : cE g (57 + i) f = .inl (gC g 0, 60, .inl f) := by
  rcases (show i = 0 ∨ i = 1 ∨ i = 2 ∨ i = 3 ∨ i = 4 by omega) with rfl | rfl | rfl | rfl | rfl <;> rfl
theorem ce_tp (g : GT) {i : Nat} (h : i < 2) (f : Nat → Int32) : cE g (62 + i) f = .inl (gC g 1, 60, .inl f) := by
  rcases (show i = 0 ∨ i = 1 by omega) with rfl | rfl <;> rfl
theorem ce_wt (g : GT) {i : Nat} (h : i < 2) (f : Nat → Int32) : cE g (65 + i) f = .inl (gC g 0, 24, .inl f) := by
  rcases (show i = 0 ∨ i = 1 by omega) with rfl | rfl <;> rfl
def scl (t n : Nat) : Prop := (t = 0 ∧ n = 12) ∨ (t = 1 ∧ n = 6)
theorem ce_sc (g : GT) {t n : Nat} (f : Nat → Int32) (h : scl t n) : cE g (69 + t) f = .inr (4, [.ref (ga g (71 + t)), .ref (ga g (73 + t)), .ref (ga g (75 + t))]) := by
  rcases h with ⟨rfl, rfl⟩ | ⟨rfl, rfl⟩ <;> rfl
theorem ce_sst (g : GT) {t n : Nat} (h : scl t n) (f : Nat → Int32) : cE g (71 + t) f = .inl (gC g 0, n, .inl f) := by
  rcases h with ⟨rfl, rfl⟩ | ⟨rfl, rfl⟩ <;> rfl
theorem ce_sco (g : GT) {t n : Nat} (h : scl t n) (f : Nat → Int32) : cE g (73 + t) f = .inl (gC g 0, n, .inl f) := by
  rcases h with ⟨rfl, rfl⟩ | ⟨rfl, rfl⟩ <;> rfl
theorem ce_sse (g : GT) {t n : Nat} (h : scl t n) (f : Nat → Int32) : cE g (75 + t) f = .inl (gC g 2, n, .inl f) := by
  rcases h with ⟨rfl, rfl⟩ | ⟨rfl, rfl⟩ <;> rfl
theorem ce_sh (g : GT) {i : Nat} (f : Nat → Int32) (h : i < 4) : cE g (81 + i) f = .inr (5, [.ref (ga g (85 + i)), .int (f 1), .int (f 2)]) := by
  rcases (show i = 0 ∨ i = 1 ∨ i = 2 ∨ i = 3 by omega) with rfl | rfl | rfl | rfl <;> rfl
theorem ce_sn (g : GT) {i : Nat} (h : i < 4) (f : Nat → Int32) : cE g (85 + i) f = .inl (gC g 0, 24, .inl f) := by
  rcases (show i = 0 ∨ i = 1 ∨ i = 2 ∨ i = 3 by omega) with rfl | rfl | rfl | rfl <;> rfl
theorem ce_67 (g : GT) (f : Nat → Int32) : cE g 67 f = .inr (0, [.ref (ga g 68)]) := rfl
theorem ce_68 (g : GT) (f : Nat → Int32) : cE g 68 f = .inl (gC g 0, 12, .inl f) := rfl
theorem ce_77 (g : GT) (f : Nat → Int32) : cE g 77 f = .inr (7, [.ref (ga g 51), .int (f 1), .ref (ga g (f 2).toNatClampNeg), .int (f 3), .int (f 4)]) := rfl
theorem ce_78 (g : GT) (f : Nat → Int32) : cE g 78 f = .inr (6, [.ref (ga g 79), .int (f 1), .int (f 2), .int (f 3), .int (f 4), .int (f 5)]) := rfl
theorem ce_79 (g : GT) (f : Nat → Int32) : cE g 79 f = .inl (gC g 0, 30, .inl f) := rfl
theorem ce_80 (g : GT) (f : Nat → Int32) : cE g 80 f = .inl (gC g 5, 4, rfs (fun i => ga g (81 + i))) := rfl
theorem ce_89 (g : GT) (f : Nat → Int32) : cE g 89 f = .inl (gC g 0, 7, .inl f) := rfl
theorem ce_90 (g : GT) (f : Nat → Int32) : cE g 90 f = .inr (9, [.ref (ga g 43), .ref (ga g 44), .int (f 2), .ref (ga g 39), .ref (ga g 36), .ref (ga g 67), .ref (ga g 69), .ref (ga g 70), .ref (ga g 77), .ref (ga g 78), .ref (ga g 80), .ref (ga g 89)]) := rfl
theorem ce_91 (g : GT) (f : Nat → Int32) : cE g 91 f = .inr (10, [.ref (ga g 92), .ref (ga g 93), .ref (ga g 94), .int (f 3), .ref (ga g 95), .ref (ga g 96), .ref (ga g 97), .ref (ga g 98), .ref (ga g 99), .ref (ga g 100), .ref (ga g 101), .ref (ga g 102), .int (f 12), .int (f 13), .int (f 14), .int (f 15), .int (f 16), .ref (ga g 103), .ref (ga g 104), .int (f 19), .int (f 20)]) := rfl
theorem ce_92 (g : GT) (f : Nat → Int32) : cE g 92 f = .inl (gC g 0, 416, .inl f) := rfl
theorem ce_93 (g : GT) (f : Nat → Int32) : cE g 93 f = .inl (gC g 0, 416, .inl f) := rfl
theorem ce_94 (g : GT) (f : Nat → Int32) : cE g 94 f = .inl (gC g 0, 416, .inl f) := rfl
theorem ce_95 (g : GT) (f : Nat → Int32) : cE g 95 f = .inl (gC g 0, 7, .inl f) := rfl
theorem ce_96 (g : GT) (f : Nat → Int32) : cE g 96 f = .inl (gC g 0, 4, .inl f) := rfl
theorem ce_97 (g : GT) (f : Nat → Int32) : cE g 97 f = .inl (gC g 0, 4, .inl f) := rfl
theorem ce_98 (g : GT) (f : Nat → Int32) : cE g 98 f = .inl (gC g 0, 96, .inl f) := rfl
theorem ce_99 (g : GT) (f : Nat → Int32) : cE g 99 f = .inl (gC g 0, 60, .inl f) := rfl
theorem ce_100 (g : GT) (f : Nat → Int32) : cE g 100 f = .inl (gC g 0, 60, .inl f) := rfl
theorem ce_101 (g : GT) (f : Nat → Int32) : cE g 101 f = .inl (gC g 0, 3, .inl f) := rfl
theorem ce_102 (g : GT) (f : Nat → Int32) : cE g 102 f = .inl (gC g 0, 60, .inl f) := rfl
theorem ce_103 (g : GT) (f : Nat → Int32) : cE g 103 f = .inl (gC g 0, 72, .inl f) := rfl
theorem ce_104 (g : GT) (f : Nat → Int32) : cE g 104 f = .inl (gC g 0, 30, .inl f) := rfl
theorem ce_64 (g : GT) (f : Nat → Int32) : cE g 64 f = .inl (gC g 1, 0, .inl f) := rfl
def wl (g : GT) (M : Mem) : va_W := (List.range 105).map (fun k => (ga g k, cE g k (M k)))
theorem wl_get (g : GT) (M : Mem) {k : Nat} (hk : k < 105) : (wl g M)[k]? = some (ga g k, cE g k (M k)) := by
  simp [wl, hk]
theorem wl_set (g : GT) (M : Mem) {k : Nat} (hk : k < 105) {f : Nat → Int32} {e : va_E} (he : cE g k f = e) : (wl g M).set k (ga g k, e) = wl g (mrow M k f) := by
  apply List.ext_getElem?
  intro j
  rw [List.getElem?_set]
  by_cases hj : k = j
  · subst hj
    rw [if_pos rfl, wl_get g _ hk, mrow_s, he]
    simp [wl, hk]
  · rw [if_neg hj]
    simp only [wl, List.getElem?_map]
    by_cases h2 : j < 105
    · simp [h2, mrow_n M f (fun h => hj h.symm)]
    · simp [h2]
theorem wl_D {A : Nat → Prop} (g : GT) (M M' : Mem) (h : va_D A (wl g M)) : va_D A (wl g M') := by
  have key : ∀ (i : Nat) (q : Nat × va_E), (wl g M')[i]? = some q → ∃ q' : Nat × va_E, (wl g M)[i]? = some q' ∧ q'.1 = q.1 := by
    intro i q hq
    by_cases hi : i < 105
    · rw [wl_get g M' hi] at hq
      exact ⟨_, wl_get g M hi, by rw [← Option.some.inj hq]⟩
    · simp [wl, hi] at hq
  refine ⟨fun i j p q hp hq hpq => ?_, fun k q hq => ?_⟩
  · obtain ⟨p', h1, h2⟩ := key i p hp
    obtain ⟨q', h3, h4⟩ := key j q hq
    exact h.1 i j p' q' h1 h3 (by rw [h2, h4, hpq])
  · obtain ⟨q', h1, h2⟩ := key k q hq
    rw [← h2]; exact h.2 k q' h1
def tysG (g : GT) : List (ClassId × FieldType) := [(gC g 0, .int), (gC g 1, .byte), (gC g 2, .boolean), (gC g 3, .object "FurrowTalk$Furrow"), (gC g 4, .object "FurrowTalk$Law"), (gC g 5, .object "FurrowTalk$Sheet")]
def f105 : Nat → Value := fun j => .int (([-1, 0, 0, 0, 1, 2, 0] : List Int32).getD j 0)
def f106 : Nat → Value := fun j => .int (([97, 98, 107, 108, 99, 100] : List Int32).getD j 0)
def NW : List Cond := [(Jvm.Cond.methodLinkNest "FurrowTalk$Field" (24 : Nat) ({ cls := "FurrowTalk$Furrow", name := "<init>", desc := "()V" } : Jvm.MethodName) "FurrowTalk"), (Jvm.Cond.methodLinkNest "FurrowTalk$World" (32 : Nat) ({ cls := "FurrowTalk$Law", name := "<init>", desc := "()V" } : Jvm.MethodName) "FurrowTalk"), (Jvm.Cond.methodLinkNest "FurrowTalk" (28 : Nat) ({ cls := "FurrowTalk$Furrow", name := "<init>", desc := "()V" } : Jvm.MethodName) "FurrowTalk"), (Jvm.Cond.methodLinkNest "FurrowTalk" (35 : Nat) ({ cls := "FurrowTalk$Chains", name := "<init>", desc := "()V" } : Jvm.MethodName) "FurrowTalk"), (Jvm.Cond.methodLinkNest "FurrowTalk" (54 : Nat) ({ cls := "FurrowTalk$TextReader", name := "<init>", desc := "()V" } : Jvm.MethodName) "FurrowTalk"), (Jvm.Cond.methodLinkNest "FurrowTalk$TextReader" (11 : Nat) ({ cls := "FurrowTalk$Law", name := "<init>", desc := "()V" } : Jvm.MethodName) "FurrowTalk"), (Jvm.Cond.methodLinkNest "FurrowTalk" (61 : Nat) ({ cls := "FurrowTalk$Speaker", name := "<init>", desc := "()V" } : Jvm.MethodName) "FurrowTalk"), (Jvm.Cond.methodLinkNest "FurrowTalk" (76 : Nat) ({ cls := "FurrowTalk$Sheet", name := "<init>", desc := "()V" } : Jvm.MethodName) "FurrowTalk"), (Jvm.Cond.methodLinkNest "FurrowTalk$Law" (39 : Nat) ({ cls := "FurrowTalk", name := "asNumber", desc := "(Z)I" } : Jvm.MethodName) "FurrowTalk"), (Jvm.Cond.methodLinkNest "FurrowTalk$World" (41 : Nat) ({ cls := "FurrowTalk", name := "hold", desc := "(III)I" } : Jvm.MethodName) "FurrowTalk"), (Jvm.Cond.methodLinkNest "FurrowTalk$Furrow" (24 : Nat) ({ cls := "FurrowTalk", name := "isKind", desc := "(I)Z" } : Jvm.MethodName) "FurrowTalk"), (Jvm.Cond.fieldLinkNest "FurrowTalk$Furrow" (28 : Nat) "FurrowTalk" "KIND_ABOVE" "[I" "FurrowTalk"), (Jvm.Cond.methodLinkNest "FurrowTalk$Field" (87 : Nat) ({ cls := "FurrowTalk", name := "lineAt", desc := "(I)I" } : Jvm.MethodName) "FurrowTalk")]
theorem NW_warm {s U : State} (hW : s.WarmedH U.vm) (h : ∀ w ∈ NW, va_Nw w s) : ∀ w ∈ NW, va_Nw w U := by
  intro w hw
  have h0 := h w hw
  simp only [NW, List.mem_cons, List.not_mem_nil, or_false] at hw
  rcases hw with rfl | rfl | rfl | rfl | rfl | rfl | rfl | rfl | rfl | rfl | rfl | rfl | rfl <;> first | exact va_Nw.warmM hW h0 | exact va_Nw.warmF hW h0
theorem NW_same {s U : State} (hW : s.vm = U.vm) (h : ∀ w ∈ NW, va_Nw w s) : ∀ w ∈ NW, va_Nw w U := by
  intro w hw
  have h0 := h w hw
  simp only [NW, List.mem_cons, List.not_mem_nil, or_false] at hw
  rcases hw with rfl | rfl | rfl | rfl | rfl | rfl | rfl | rfl | rfl | rfl | rfl | rfl | rfl <;> exact va_Nw.same rfl hW h0
def SZ (g : GT) (U : State) (H : Heap) : Prop := va_Z "FurrowTalk" "KIND_ABOVE" "[I" (.ref (ga g 105)) (gA g) U H ∧ va_T .int (ga g 105) 7 f105 (gA g) U H ∧ va_Z "FurrowTalk$TextReader" "NAMES" "[C" (.ref (ga g 106)) (gA g) U H ∧ va_T .char (ga g 106) 6 f106 (gA g) U H
theorem SZ.moved {g : GT} {u U : State} {H : Heap} (hvm : u.vm.Alike U.vm) (h : SZ g u H) : SZ g U H := ⟨h.1.moved hvm, h.2.1.moved hvm, h.2.2.1.moved hvm, h.2.2.2.moved hvm⟩
theorem SZ.kept {g : GT} {U : State} {H H1 : Heap} (h : SZ g U H) (hq : ∀ a : Nat, a < H.size → ¬ gA g a → H1[a]? = H[a]?) : SZ g U H1 := ⟨h.1.kept hq, h.2.1.kept hq, h.2.2.1.kept hq, h.2.2.2.kept hq⟩
def Wd (g : GT) (M : Mem) (U : State) : Prop := va_P (gD g) vwCl (wl g M) U.heap ∧ va_K (gD g) vwCl (tysG g) U ∧ va_D (gA g) (wl g M) ∧ (∀ w ∈ NW, va_Nw w U) ∧ SZ g U U.heap
theorem Wd_blind {g : GT} {M : Mem} {av : List Value} : FrameBlind (va_Pc av (Wd g M)) := by
  intro a U gf mk q
  obtain ⟨q0, qP, qK, qD, qN, qS⟩ := q
  exact ⟨q0, qP, va_K.moved (u := U) (U := U.calling gf mk a) (Vm.Alike.refl U.vm) qK, qD, NW_same (s := U) (U := U.calling gf mk a) rfl qN, SZ.moved (u := U) (U := U.calling gf mk a) (Vm.Alike.refl U.vm) qS⟩
def rmD (d : Nat) : Room := { frames := d + 1, cells := 0, slots := 0, locals := 48 * d + 48 }
def kQI (g : GT) (post : Int32 → Mem → Prop) : Array Value → State → Outcome → State → Prop := fun _ st oc t => (∃ (r : Int32) (M : Mem), oc = .returned (some (.int r)) ∧ post r M ∧ va_P (gD g) vwCl (wl g M) t.heap) ∧ va_F (gA g) st t
def kQV (g : GT) (post : Mem → Prop) : Array Value → State → Outcome → State → Prop := fun _ st oc t => (∃ (M : Mem), oc = .returned none ∧ post M ∧ va_P (gD g) vwCl (wl g M) t.heap) ∧ va_F (gA g) st t
def CtrI (l : Launch) (g : GT) (y : MethodName) (cc : ByteArray) (nL : Nat) (ret : Option FieldType) (d : Nat) (av : List Value) (M : Mem) (post : Int32 → Mem → Prop) : Prop := Met l y (.code y cc nL ret :: wA) (rmD d) (va_Pc av (Wd g M)) (kQI g post) 0 0 (gA g)
def CtrV (l : Launch) (g : GT) (y : MethodName) (cc : ByteArray) (nL : Nat) (d : Nat) (av : List Value) (M : Mem) (post : Mem → Prop) : Prop := Met l y (.code y cc nL none :: wA) (rmD d) (va_Pc av (Wd g M)) (kQV g post) 0 0 (gA g)
def CtrE (l : Launch) (g : GT) (y : MethodName) (cc : ByteArray) (nL : Nat) (ret : Option FieldType) (d : Nat) (av : List Value) (M : Mem) (v : Int32) (M1 : Mem) : Prop := CtrI l g y cc nL ret d av M (fun r M' => r = v ∧ M' = M1)
def CtrU (l : Launch) (g : GT) (y : MethodName) (cc : ByteArray) (nL : Nat) (d : Nat) (av : List Value) (M : Mem) (M1 : Mem) : Prop := CtrV l g y cc nL d av M (fun M' => M' = M1)
def FLk (own : String) (idx ci j : Nat) (C : String) (T : u_T) (N : Nat) : Prop := vwCl[ci]? = some (C, T, N) ∧ (∀ w ∈ u_ws C T N, w ∈ wA) ∧ j < N ∧ Cond.fieldLink own idx (T j).1 (T j).2.1 (T j).2.2.1 ∈ wA
def PLk (C : String) (T : u_T) (N : Nat) (ty : Nat → FieldType) : Prop := (∀ k, k < N → parseFieldDescriptor (T k).2.2.1 = some (ty k)) ∧ (∀ a, a < N → ∀ b, b < N → a ≠ b → (T a).2.1 ≠ (T b).2.1)
/-- a method of the tables, of ret, with its code -/
def MLk (y : MethodName) (cc : ByteArray) (nL : Nat) (ret : Option FieldType) (n : Nat) : Prop := Cond.code y cc nL ret ∈ wA ∧ Cond.initialized y.cls ∈ wA ∧ y.cls ≠ "java/lang/invoke/MethodHandle" ∧ y.cls ≠ "java/lang/invoke/VarHandle" ∧ (parseMethodDescriptor y.desc).map (fun d => d.parameters.length) = some n
/-- .. that is called by invokevirtual -/
def VLk (y : MethodName) : Prop := Cond.instanceMethod y ∈ wA ∧ Cond.selects y.cls y y ∈ wA
theorem wA_good {y : MethodName} {cc : ByteArray} {nL : Nat} {ret : Option FieldType} (h : Cond.code y cc nL ret ∈ wA) : GoodIn wA (.code y cc nL ret :: wA) := by
  intro w hw
  rcases List.mem_cons.mp hw with rfl | hw
  · exact ⟨h, (wA_in _ h).2⟩
  · exact ⟨hw, (wA_in _ hw).2⟩
def b2i (b : Bool) : Int32 := if b then 1 else 0
theorem b2i_t : b2i true = 1 := rfl
theorem b2i_f : b2i false = 0 := rfl
theorem nar_b2i (b : Bool) : narrow .boolean (.int (b2i b)) = .int (b2i b) := by cases b <;> rfl
section KW
variable {p : Program} {l : Launch} {e : Env} {R : Room} {s : State} {m : MethodId} {args : Array Value} {below : List Frame} {meth : Method} {c : Code} {g : GT} {own : String} {cc : ByteArray} {nL : Nat} {rt : Option FieldType} {Q : State → Prop} {M : Mem} {pc : Nat} {lo : List (Nat × Value)} {st : List Value}
def Cx (p : Program) (R : Room) (s : State) (m : MethodId) (args : Array Value) (meth : Method) (c : Code) (g : GT) (own : String) (cc : ByteArray) (nL : Nat) (rt : Option FieldType) (d : Nat) : Prop :=
  p.tables.exec = Jvm.exec ∧ c.code = cc ∧ c.maxLocals = nL ∧ s.vm.findClass own = some m.cls ∧ (∀ w ∈ wA, w.before args s = true) ∧ va_K (gD g) vwCl (tysG g) s ∧ (∀ M : Mem, va_D (gA g) (wl g M)) ∧ (∀ w ∈ NW, va_Nw w s) ∧ SZ g s s.heap ∧ meth.locks = false ∧ meth.sig.returnType = rt ∧ R = rmD d
def KW (p : Program) (l : Launch) (e : Env) (R : Room) (s : State) (m : MethodId) (args : Array Value) (below : List Frame) (meth : Method) (c : Code) (g : GT) (nL : Nat) (Q : State → Prop) (M : Mem) (pc : Nat) (lo : List (Nat × Value)) (st : List Value) : Prop :=
  ∀ (H : Heap) (locs : List Loc) (ls : Array Slot), va_P (gD g) vwCl (wl g M) H → va_S (gA g) s.heap H locs → lv_has ls nL lo → W p l e R s m args below meth c H locs 0 0 Q (F0 m pc ls st)
variable {d : Nat}
theorem k_lo {lo' : List (Nat × Value)} (h : lo = lo') (k : KW p l e R s m args below meth c g nL Q M pc lo' st) : KW p l e R s m args below meth c g nL Q M pc lo st := h ▸ k
theorem k_st {st' : List Value} (h : st = st') (k : KW p l e R s m args below meth c g nL Q M pc lo st') : KW p l e R s m args below meth c g nL Q M pc lo st := h ▸ k
theorem k_mem {M' : Mem} (h : M = M') (k : KW p l e R s m args below meth c g nL Q M' pc lo st) : KW p l e R s m args below meth c g nL Q M pc lo st := h ▸ k
theorem k_all {lo' : List (Nat × Value)} {st' : List Value} {M' : Mem} (hM : M = M') (hl : lo = lo') (hs : st = st') (k : KW p l e R s m args below meth c g nL Q M' pc lo' st') : KW p l e R s m args below meth c g nL Q M pc lo st := hM ▸ hl ▸ hs ▸ k
theorem k_sub (lo' : List (Nat × Value)) (ks : List Nat) (h : lv_pick lo ks = lo') (k : KW p l e R s m args below meth c g nL Q M pc lo' st) : KW p l e R s m args below meth c g nL Q M pc lo st := fun H locs ls hP hS hl => k H locs ls hP hS (lv_sub hl ks h)
theorem k_top {x : Int32} (k : ∀ y : Int32, y = x → KW p l e R s m args below meth c g nL Q M pc lo (.int y :: st)) : KW p l e R s m args below meth c g nL Q M pc lo (.int x :: st) := k x rfl
theorem k_teq {x y : Int32} (h : x = y) (k : KW p l e R s m args below meth c g nL Q M pc lo (.int y :: st)) : KW p l e R s m args below meth c g nL Q M pc lo (.int x :: st) := h ▸ k
theorem k_iadd (C : Cx p R s m args meth c g own cc nL rt d) (q : Nat) {x y : Int32} (hd : decode cc pc = .ok (.iadd, 1)) (hq : pc + 1 = q) (k : KW p l e R s m args below meth c g nL Q M q lo (.int (x + y) :: st)) : KW p l e R s m args below meth c g nL Q M pc lo (.int y :: .int x :: st) := by
  subst hq
  exact fun H locs ls hP hS hl => lv_iadd C.1 C.2.1 hd (k H locs ls hP hS hl)
theorem k_isub (C : Cx p R s m args meth c g own cc nL rt d) (q : Nat) {x y : Int32} (hd : decode cc pc = .ok (.isub, 1)) (hq : pc + 1 = q) (k : KW p l e R s m args below meth c g nL Q M q lo (.int (x - y) :: st)) : KW p l e R s m args below meth c g nL Q M pc lo (.int y :: .int x :: st) := by
  subst hq
  exact fun H locs ls hP hS hl => lv_isub C.1 C.2.1 hd (k H locs ls hP hS hl)
theorem k_imul (C : Cx p R s m args meth c g own cc nL rt d) (q : Nat) {x y : Int32} (hd : decode cc pc = .ok (.imul, 1)) (hq : pc + 1 = q) (k : KW p l e R s m args below meth c g nL Q M q lo (.int (x * y) :: st)) : KW p l e R s m args below meth c g nL Q M pc lo (.int y :: .int x :: st) := by
  subst hq
  exact fun H locs ls hP hS hl => lv_imul C.1 C.2.1 hd (k H locs ls hP hS hl)
theorem k_iand (C : Cx p R s m args meth c g own cc nL rt d) (q : Nat) {x y : Int32} (hd : decode cc pc = .ok (.iand, 1)) (hq : pc + 1 = q) (k : KW p l e R s m args below meth c g nL Q M q lo (.int (x &&& y) :: st)) : KW p l e R s m args below meth c g nL Q M pc lo (.int y :: .int x :: st) := by
  subst hq
  exact fun H locs ls hP hS hl => lv_iand C.1 C.2.1 hd (k H locs ls hP hS hl)
theorem k_ior (C : Cx p R s m args meth c g own cc nL rt d) (q : Nat) {x y : Int32} (hd : decode cc pc = .ok (.ior, 1)) (hq : pc + 1 = q) (k : KW p l e R s m args below meth c g nL Q M q lo (.int (x ||| y) :: st)) : KW p l e R s m args below meth c g nL Q M pc lo (.int y :: .int x :: st) := by
  subst hq
  exact fun H locs ls hP hS hl => lv_ior C.1 C.2.1 hd (k H locs ls hP hS hl)
theorem k_ixor (C : Cx p R s m args meth c g own cc nL rt d) (q : Nat) {x y : Int32} (hd : decode cc pc = .ok (.ixor, 1)) (hq : pc + 1 = q) (k : KW p l e R s m args below meth c g nL Q M q lo (.int (x ^^^ y) :: st)) : KW p l e R s m args below meth c g nL Q M pc lo (.int y :: .int x :: st) := by
  subst hq
  exact fun H locs ls hP hS hl => lv_ixor C.1 C.2.1 hd (k H locs ls hP hS hl)
theorem k_ishl (C : Cx p R s m args meth c g own cc nL rt d) (q : Nat) {x y : Int32} (hd : decode cc pc = .ok (.ishl, 1)) (hq : pc + 1 = q) (k : KW p l e R s m args below meth c g nL Q M q lo (.int (x <<< (y &&& 31)) :: st)) : KW p l e R s m args below meth c g nL Q M pc lo (.int y :: .int x :: st) := by
  subst hq
  exact fun H locs ls hP hS hl => lv_ishl C.1 C.2.1 hd (k H locs ls hP hS hl)
theorem k_ishr (C : Cx p R s m args meth c g own cc nL rt d) (q : Nat) {x y : Int32} (hd : decode cc pc = .ok (.ishr, 1)) (hq : pc + 1 = q) (k : KW p l e R s m args below meth c g nL Q M q lo (.int (x >>> (y &&& 31)) :: st)) : KW p l e R s m args below meth c g nL Q M pc lo (.int y :: .int x :: st) := by
  subst hq
  exact fun H locs ls hP hS hl => lv_ishr C.1 C.2.1 hd (k H locs ls hP hS hl)
theorem k_iushr (C : Cx p R s m args meth c g own cc nL rt d) (q : Nat) {x y : Int32} (hd : decode cc pc = .ok (.iushr, 1)) (hq : pc + 1 = q) (k : KW p l e R s m args below meth c g nL Q M q lo (.int (x.toUInt32 >>> (y.toUInt32 &&& Int32.toUInt32 31)).toInt32 :: st)) : KW p l e R s m args below meth c g nL Q M pc lo (.int y :: .int x :: st) := by
  subst hq
  exact fun H locs ls hP hS hl => lv_iushr C.1 C.2.1 hd rfl (k H locs ls hP hS hl)
theorem k_idiv (C : Cx p R s m args meth c g own cc nL rt d) (q : Nat) {x y : Int32} (hne : ¬ y = 0) (hd : decode cc pc = .ok (.idiv, 1)) (hq : pc + 1 = q) (k : KW p l e R s m args below meth c g nL Q M q lo (.int (x / y) :: st)) : KW p l e R s m args below meth c g nL Q M pc lo (.int y :: .int x :: st) := by
  subst hq
  exact fun H locs ls hP hS hl => lv_idiv C.1 C.2.1 hd hne (k H locs ls hP hS hl)
theorem k_irem (C : Cx p R s m args meth c g own cc nL rt d) (q : Nat) {x y : Int32} (hne : ¬ y = 0) (hd : decode cc pc = .ok (.irem, 1)) (hq : pc + 1 = q) (k : KW p l e R s m args below meth c g nL Q M q lo (.int (x - x / y * y) :: st)) : KW p l e R s m args below meth c g nL Q M pc lo (.int y :: .int x :: st) := by
  subst hq
  exact fun H locs ls hP hS hl => lv_irem C.1 C.2.1 hd hne (k H locs ls hP hS hl)
theorem k_ineg (C : Cx p R s m args meth c g own cc nL rt d) (q : Nat) {x : Int32} (hd : decode cc pc = .ok (.ineg, 1)) (hq : pc + 1 = q) (k : KW p l e R s m args below meth c g nL Q M q lo (.int (-x) :: st)) : KW p l e R s m args below meth c g nL Q M pc lo (.int x :: st) := by
  subst hq
  exact fun H locs ls hP hS hl => lv_ineg C.1 C.2.1 hd (k H locs ls hP hS hl)
theorem k_i2b (C : Cx p R s m args meth c g own cc nL rt d) (q : Nat) {x : Int32} (hd : decode cc pc = .ok (.i2b, 1)) (hq : pc + 1 = q) (k : KW p l e R s m args below meth c g nL Q M q lo (.int x.toInt8.toInt32 :: st)) : KW p l e R s m args below meth c g nL Q M pc lo (.int x :: st) := by
  subst hq
  exact fun H locs ls hP hS hl => lv_i2b C.1 C.2.1 hd rfl (k H locs ls hP hS hl)
theorem k_i2s (C : Cx p R s m args meth c g own cc nL rt d) (q : Nat) {x : Int32} (hd : decode cc pc = .ok (.i2s, 1)) (hq : pc + 1 = q) (k : KW p l e R s m args below meth c g nL Q M q lo (.int x.toInt16.toInt32 :: st)) : KW p l e R s m args below meth c g nL Q M pc lo (.int x :: st) := by
  subst hq
  exact fun H locs ls hP hS hl => lv_i2s C.1 C.2.1 hd rfl (k H locs ls hP hS hl)
theorem k_l2i (C : Cx p R s m args meth c g own cc nL rt d) (q : Nat) {x : Int64} (hd : decode cc pc = .ok (.l2i, 1)) (hq : pc + 1 = q) (k : KW p l e R s m args below meth c g nL Q M q lo (.int x.toInt32 :: st)) : KW p l e R s m args below meth c g nL Q M pc lo (.long x :: st) := by
  subst hq
  exact fun H locs ls hP hS hl => lv_l2i C.1 C.2.1 hd rfl (k H locs ls hP hS hl)
theorem k_land (C : Cx p R s m args meth c g own cc nL rt d) (q : Nat) {x y : Int64} (hd : decode cc pc = .ok (.land, 1)) (hq : pc + 1 = q) (k : KW p l e R s m args below meth c g nL Q M q lo (.long (x &&& y) :: st)) : KW p l e R s m args below meth c g nL Q M pc lo (.long y :: .long x :: st) := by
  subst hq
  exact fun H locs ls hP hS hl => lv_land C.1 C.2.1 hd (k H locs ls hP hS hl)
theorem k_lushr (C : Cx p R s m args meth c g own cc nL rt d) (q : Nat) {x : Int64} {y : Int32} (hd : decode cc pc = .ok (.lushr, 1)) (hq : pc + 1 = q) (k : KW p l e R s m args below meth c g nL Q M q lo (.long (x.toUInt64 >>> (y.toInt64.toUInt64 &&& Int64.toUInt64 63)).toInt64 :: st)) : KW p l e R s m args below meth c g nL Q M pc lo (.int y :: .long x :: st) := by
  subst hq
  exact fun H locs ls hP hS hl => lv_lushr C.1 C.2.1 hd rfl (k H locs ls hP hS hl)
theorem k_lshr (C : Cx p R s m args meth c g own cc nL rt d) (q : Nat) {x : Int64} {y : Int32} (hd : decode cc pc = .ok (.lshr, 1)) (hq : pc + 1 = q) (k : KW p l e R s m args below meth c g nL Q M q lo (.long (x >>> (y.toInt64 &&& 63)) :: st)) : KW p l e R s m args below meth c g nL Q M pc lo (.int y :: .long x :: st) := by
  subst hq
  exact fun H locs ls hP hS hl => lv_lshr C.1 C.2.1 hd rfl (k H locs ls hP hS hl)
theorem k_iconst (C : Cx p R s m args meth c g own cc nL rt d) (q : Nat) {n : Int} {v : Int32} (hv : Int32.ofInt n = v) (hd : decode cc pc = .ok (.iconst n, 1)) (hq : pc + 1 = q) (k : KW p l e R s m args below meth c g nL Q M q lo (.int v :: st)) : KW p l e R s m args below meth c g nL Q M pc lo st := by
  subst hq
  exact fun H locs ls hP hS hl => lv_iconst C.1 C.2.1 hd hv (k H locs ls hP hS hl)
theorem k_bipush (C : Cx p R s m args meth c g own cc nL rt d) (q : Nat) {n : Int} {v : Int32} (hv : (Int8.ofInt n).toInt32 = v) (hd : decode cc pc = .ok (.bipush n, 2)) (hq : pc + 2 = q) (k : KW p l e R s m args below meth c g nL Q M q lo (.int v :: st)) : KW p l e R s m args below meth c g nL Q M pc lo st := by
  subst hq
  exact fun H locs ls hP hS hl => lv_bipush C.1 C.2.1 hd hv (k H locs ls hP hS hl)
theorem k_sipush (C : Cx p R s m args meth c g own cc nL rt d) (q : Nat) {n : Int} {v : Int32} (hv : (Int16.ofInt n).toInt32 = v) (hd : decode cc pc = .ok (.sipush n, 3)) (hq : pc + 3 = q) (k : KW p l e R s m args below meth c g nL Q M q lo (.int v :: st)) : KW p l e R s m args below meth c g nL Q M pc lo st := by
  subst hq
  exact fun H locs ls hP hS hl => lv_sipush C.1 C.2.1 hd hv (k H locs ls hP hS hl)
theorem k_ldc (C : Cx p R s m args meth c g own cc nL rt d) (q : Nat) {i : Nat} {v : Int32} (hw : Cond.constant own i v ∈ wA) (hd : decode cc pc = .ok (.ldc i, 2)) (hq : pc + 2 = q) (k : KW p l e R s m args below meth c g nL Q M q lo (.int v :: st)) : KW p l e R s m args below meth c g nL Q M pc lo st := by
  subst hq
  exact fun H locs ls hP hS hl => lv_ldc C.1 C.2.1 C.2.2.2.1 (C.2.2.2.2.1 _ hw) hd (k H locs ls hP hS hl)
theorem k_ldcw (C : Cx p R s m args meth c g own cc nL rt d) (q : Nat) {i : Nat} {v : Int32} (hw : Cond.constant own i v ∈ wA) (hd : decode cc pc = .ok (.ldc_w i, 3)) (hq : pc + 3 = q) (k : KW p l e R s m args below meth c g nL Q M q lo (.int v :: st)) : KW p l e R s m args below meth c g nL Q M pc lo st := by
  subst hq
  exact fun H locs ls hP hS hl => lv_ldcw C.1 C.2.1 C.2.2.2.1 (C.2.2.2.2.1 _ hw) hd (k H locs ls hP hS hl)
theorem k_ldc2 (C : Cx p R s m args meth c g own cc nL rt d) (q : Nat) {i : Nat} {v : Int64} (hw : Cond.constantLong own i v ∈ wA) (hd : decode cc pc = .ok (.ldc2_w i, 3)) (hq : pc + 3 = q) (k : KW p l e R s m args below meth c g nL Q M q lo (.long v :: st)) : KW p l e R s m args below meth c g nL Q M pc lo st := by
  subst hq
  exact fun H locs ls hP hS hl => lv_ldc2 C.1 C.2.1 C.2.2.2.1 (C.2.2.2.2.1 _ hw) hd (k H locs ls hP hS hl)
theorem k_dup (C : Cx p R s m args meth c g own cc nL rt d) (q : Nat) {va : Value} (hc : va.category = 1) (hd : decode cc pc = .ok (.dup, 1)) (hq : pc + 1 = q) (k : KW p l e R s m args below meth c g nL Q M q lo (va :: va :: st)) : KW p l e R s m args below meth c g nL Q M pc lo (va :: st) := by
  subst hq
  exact fun H locs ls hP hS hl => lv_dup C.1 C.2.1 hd hc (k H locs ls hP hS hl)
theorem k_dup2 (C : Cx p R s m args meth c g own cc nL rt d) (q : Nat) {va vb : Value} (hc : va.category = 1) (hc2 : vb.category = 1) (hd : decode cc pc = .ok (.dup2, 1)) (hq : pc + 1 = q) (k : KW p l e R s m args below meth c g nL Q M q lo (va :: vb :: va :: vb :: st)) : KW p l e R s m args below meth c g nL Q M pc lo (va :: vb :: st) := by
  subst hq
  exact fun H locs ls hP hS hl => lv_dup2_11 C.1 C.2.1 hd hc hc2 (k H locs ls hP hS hl)
theorem k_pop (C : Cx p R s m args meth c g own cc nL rt d) (q : Nat) {va : Value} (hc : va.category = 1) (hd : decode cc pc = .ok (.pop, 1)) (hq : pc + 1 = q) (k : KW p l e R s m args below meth c g nL Q M q lo st) : KW p l e R s m args below meth c g nL Q M pc lo (va :: st) := by
  subst hq
  exact fun H locs ls hP hS hl => lv_pop C.1 C.2.1 hd hc (k H locs ls hP hS hl)
theorem k_iload_n (C : Cx p R s m args meth c g own cc nL rt d) (q : Nat) {kn : Fin 4} {i : Nat} {x : Int32} (j : Nat) (hi : (kn : Nat) = i) (hlo : lo[j]? = some (i, .int x)) (hd : decode cc pc = .ok (.iload_n kn, 1)) (hq : pc + 1 = q) (k : KW p l e R s m args below meth c g nL Q M q lo (.int x :: st)) : KW p l e R s m args below meth c g nL Q M pc lo st := by
  subst hq
  exact fun H locs ls hP hS hl => lv_iload_n C.1 C.2.1 hd hi (lv_at hl j hlo) (k H locs ls hP hS hl)
theorem k_aload_n (C : Cx p R s m args meth c g own cc nL rt d) (q : Nat) {kn : Fin 4} {i : Nat} {x : Nat} (j : Nat) (hi : (kn : Nat) = i) (hlo : lo[j]? = some (i, .ref x)) (hd : decode cc pc = .ok (.aload_n kn, 1)) (hq : pc + 1 = q) (k : KW p l e R s m args below meth c g nL Q M q lo (.ref x :: st)) : KW p l e R s m args below meth c g nL Q M pc lo st := by
  subst hq
  exact fun H locs ls hP hS hl => lv_aload_n C.1 C.2.1 hd hi (lv_at hl j hlo) (k H locs ls hP hS hl)
theorem k_lload_n (C : Cx p R s m args meth c g own cc nL rt d) (q : Nat) {kn : Fin 4} {i : Nat} {x : Int64} (j : Nat) (hi : (kn : Nat) = i) (hlo : lo[j]? = some (i, .long x)) (hd : decode cc pc = .ok (.lload_n kn, 1)) (hq : pc + 1 = q) (k : KW p l e R s m args below meth c g nL Q M q lo (.long x :: st)) : KW p l e R s m args below meth c g nL Q M pc lo st := by
  subst hq
  exact fun H locs ls hP hS hl => lv_lload_n C.1 C.2.1 hd hi (lv_at hl j hlo) (k H locs ls hP hS hl)
theorem k_iload (C : Cx p R s m args meth c g own cc nL rt d) (q : Nat) {i : Nat} {x : Int32} (j : Nat) (hlo : lo[j]? = some (i, .int x)) (hd : decode cc pc = .ok (.iload i, 2)) (hq : pc + 2 = q) (k : KW p l e R s m args below meth c g nL Q M q lo (.int x :: st)) : KW p l e R s m args below meth c g nL Q M pc lo st := by
  subst hq
  exact fun H locs ls hP hS hl => lv_iload C.1 C.2.1 hd (lv_at hl j hlo) (k H locs ls hP hS hl)
theorem k_istore_n (C : Cx p R s m args meth c g own cc nL rt d) (q : Nat) {kn : Fin 4} {i : Nat} {x : Int32} (lo2 : List (Nat × Value)) (hi : (kn : Nat) = i) (hn : i < nL) (hlo : (i, Value.int x) :: lo.filter (fun q => !(q.1 == i) && !(q.1 + 1 == i && q.2.category == 2)) = lo2) (hd : decode cc pc = .ok (.istore_n kn, 1)) (hq : pc + 1 = q) (k : KW p l e R s m args below meth c g nL Q M q lo2 st) : KW p l e R s m args below meth c g nL Q M pc lo (.int x :: st) := by
  subst hq
  exact fun H locs ls hP hS hl => lv_istore_n C.1 C.2.1 hd hi hl hn hlo (fun ls2 hl2 => k H locs ls2 hP hS hl2)
theorem k_istore (C : Cx p R s m args meth c g own cc nL rt d) (q : Nat) {i : Nat} {x : Int32} (lo2 : List (Nat × Value)) (hn : i < nL) (hlo : (i, Value.int x) :: lo.filter (fun q => !(q.1 == i) && !(q.1 + 1 == i && q.2.category == 2)) = lo2) (hd : decode cc pc = .ok (.istore i, 2)) (hq : pc + 2 = q) (k : KW p l e R s m args below meth c g nL Q M q lo2 st) : KW p l e R s m args below meth c g nL Q M pc lo (.int x :: st) := by
  subst hq
  exact fun H locs ls hP hS hl => lv_istore C.1 C.2.1 hd hl hn hlo (fun ls2 hl2 => k H locs ls2 hP hS hl2)
theorem k_aload (C : Cx p R s m args meth c g own cc nL rt d) (q : Nat) {i : Nat} {x : Nat} (j : Nat) (hlo : lo[j]? = some (i, .ref x)) (hd : decode cc pc = .ok (.aload i, 2)) (hq : pc + 2 = q) (k : KW p l e R s m args below meth c g nL Q M q lo (.ref x :: st)) : KW p l e R s m args below meth c g nL Q M pc lo st := by
  subst hq
  exact fun H locs ls hP hS hl => lv_aload C.1 C.2.1 hd (lv_at hl j hlo) (k H locs ls hP hS hl)
theorem k_astore_n (C : Cx p R s m args meth c g own cc nL rt d) (q : Nat) {kn : Fin 4} {i : Nat} {x : Nat} (lo2 : List (Nat × Value)) (hi : (kn : Nat) = i) (hn : i < nL) (hlo : (i, Value.ref x) :: lo.filter (fun q => !(q.1 == i) && !(q.1 + 1 == i && q.2.category == 2)) = lo2) (hd : decode cc pc = .ok (.astore_n kn, 1)) (hq : pc + 1 = q) (k : KW p l e R s m args below meth c g nL Q M q lo2 st) : KW p l e R s m args below meth c g nL Q M pc lo (.ref x :: st) := by
  subst hq
  exact fun H locs ls hP hS hl => lv_astore_n C.1 C.2.1 hd hi hl hn hlo (fun ls2 hl2 => k H locs ls2 hP hS hl2)
theorem k_astore (C : Cx p R s m args meth c g own cc nL rt d) (q : Nat) {i : Nat} {x : Nat} (lo2 : List (Nat × Value)) (hn : i < nL) (hlo : (i, Value.ref x) :: lo.filter (fun q => !(q.1 == i) && !(q.1 + 1 == i && q.2.category == 2)) = lo2) (hd : decode cc pc = .ok (.astore i, 2)) (hq : pc + 2 = q) (k : KW p l e R s m args below meth c g nL Q M q lo2 st) : KW p l e R s m args below meth c g nL Q M pc lo (.ref x :: st) := by
  subst hq
  exact fun H locs ls hP hS hl => lv_astore C.1 C.2.1 hd hl hn hlo (fun ls2 hl2 => k H locs ls2 hP hS hl2)
theorem k_iinc (C : Cx p R s m args meth c g own cc nL rt d) (q : Nat) {i : Nat} {n : Int} {x : Int32} (v : Int32) (j : Nat) (lo2 : List (Nat × Value)) (hj : lo[j]? = some (i, .int x)) (hv : x + Int32.ofInt n = v) (hn : i < nL) (hlo : (i, Value.int v) :: lo.filter (fun q => !(q.1 == i) && !(q.1 + 1 == i && q.2.category == 2)) = lo2) (hd : decode cc pc = .ok (.iinc i n, 3)) (hq : pc + 3 = q) (k : KW p l e R s m args below meth c g nL Q M q lo2 st) : KW p l e R s m args below meth c g nL Q M pc lo st := by
  subst hq
  exact fun H locs ls hP hS hl => lv_iinc C.1 C.2.1 hd hl hj hv hn hlo (fun ls2 hl2 => k H locs ls2 hP hS hl2)
theorem k_if_eq (C : Cx p R s m args meth c g own cc nL rt d) (tgt q : Nat) {x : Int32} {off : Int} (hd : decode cc pc = .ok (.ifCond .eq off, 3)) (ht : (pc : Int) + off = (tgt : Int)) (hq : pc + 3 = q) (kt : x = 0 → KW p l e R s m args below meth c g nL Q M tgt lo st) (kf : ¬ (x = 0) → KW p l e R s m args below meth c g nL Q M q lo st) : KW p l e R s m args below meth c g nL Q M pc lo (.int x :: st) := by
  subst hq
  exact fun H locs ls hP hS hl => lv_if_eq C.1 C.2.1 hd ht (fun h => kt h H locs ls hP hS hl) (fun h => kf h H locs ls hP hS hl)
theorem k_icmp_eq (C : Cx p R s m args meth c g own cc nL rt d) (tgt q : Nat) {x y : Int32} {off : Int} (hd : decode cc pc = .ok (.if_icmp .eq off, 3)) (ht : (pc : Int) + off = (tgt : Int)) (hq : pc + 3 = q) (kt : x = y → KW p l e R s m args below meth c g nL Q M tgt lo st) (kf : ¬ (x = y) → KW p l e R s m args below meth c g nL Q M q lo st) : KW p l e R s m args below meth c g nL Q M pc lo (.int y :: .int x :: st) := by
  subst hq
  exact fun H locs ls hP hS hl => lv_icmp_eq C.1 C.2.1 hd ht (fun h => kt h H locs ls hP hS hl) (fun h => kf h H locs ls hP hS hl)
theorem k_if_ne (C : Cx p R s m args meth c g own cc nL rt d) (tgt q : Nat) {x : Int32} {off : Int} (hd : decode cc pc = .ok (.ifCond .ne off, 3)) (ht : (pc : Int) + off = (tgt : Int)) (hq : pc + 3 = q) (kt : ¬ x = 0 → KW p l e R s m args below meth c g nL Q M tgt lo st) (kf : x = 0 → KW p l e R s m args below meth c g nL Q M q lo st) : KW p l e R s m args below meth c g nL Q M pc lo (.int x :: st) := by
  subst hq
  exact fun H locs ls hP hS hl => lv_if_ne C.1 C.2.1 hd ht (fun h => kt h H locs ls hP hS hl) (fun h => kf h H locs ls hP hS hl)
theorem k_icmp_ne (C : Cx p R s m args meth c g own cc nL rt d) (tgt q : Nat) {x y : Int32} {off : Int} (hd : decode cc pc = .ok (.if_icmp .ne off, 3)) (ht : (pc : Int) + off = (tgt : Int)) (hq : pc + 3 = q) (kt : ¬ x = y → KW p l e R s m args below meth c g nL Q M tgt lo st) (kf : x = y → KW p l e R s m args below meth c g nL Q M q lo st) : KW p l e R s m args below meth c g nL Q M pc lo (.int y :: .int x :: st) := by
  subst hq
  exact fun H locs ls hP hS hl => lv_icmp_ne C.1 C.2.1 hd ht (fun h => kt h H locs ls hP hS hl) (fun h => kf h H locs ls hP hS hl)
theorem k_if_lt (C : Cx p R s m args meth c g own cc nL rt d) (tgt q : Nat) {x : Int32} {off : Int} (hd : decode cc pc = .ok (.ifCond .lt off, 3)) (ht : (pc : Int) + off = (tgt : Int)) (hq : pc + 3 = q) (kt : x < 0 → KW p l e R s m args below meth c g nL Q M tgt lo st) (kf : ¬ (x < 0) → KW p l e R s m args below meth c g nL Q M q lo st) : KW p l e R s m args below meth c g nL Q M pc lo (.int x :: st) := by
  subst hq
  exact fun H locs ls hP hS hl => lv_if_lt C.1 C.2.1 hd ht (fun h => kt h H locs ls hP hS hl) (fun h => kf h H locs ls hP hS hl)
theorem k_icmp_lt (C : Cx p R s m args meth c g own cc nL rt d) (tgt q : Nat) {x y : Int32} {off : Int} (hd : decode cc pc = .ok (.if_icmp .lt off, 3)) (ht : (pc : Int) + off = (tgt : Int)) (hq : pc + 3 = q) (kt : x < y → KW p l e R s m args below meth c g nL Q M tgt lo st) (kf : ¬ (x < y) → KW p l e R s m args below meth c g nL Q M q lo st) : KW p l e R s m args below meth c g nL Q M pc lo (.int y :: .int x :: st) := by
  subst hq
  exact fun H locs ls hP hS hl => lv_icmp_lt C.1 C.2.1 hd ht (fun h => kt h H locs ls hP hS hl) (fun h => kf h H locs ls hP hS hl)
theorem k_if_ge (C : Cx p R s m args meth c g own cc nL rt d) (tgt q : Nat) {x : Int32} {off : Int} (hd : decode cc pc = .ok (.ifCond .ge off, 3)) (ht : (pc : Int) + off = (tgt : Int)) (hq : pc + 3 = q) (kt : 0 ≤ x → KW p l e R s m args below meth c g nL Q M tgt lo st) (kf : ¬ (0 ≤ x) → KW p l e R s m args below meth c g nL Q M q lo st) : KW p l e R s m args below meth c g nL Q M pc lo (.int x :: st) := by
  subst hq
  exact fun H locs ls hP hS hl => lv_if_ge C.1 C.2.1 hd ht (fun h => kt h H locs ls hP hS hl) (fun h => kf h H locs ls hP hS hl)
theorem k_icmp_ge (C : Cx p R s m args meth c g own cc nL rt d) (tgt q : Nat) {x y : Int32} {off : Int} (hd : decode cc pc = .ok (.if_icmp .ge off, 3)) (ht : (pc : Int) + off = (tgt : Int)) (hq : pc + 3 = q) (kt : y ≤ x → KW p l e R s m args below meth c g nL Q M tgt lo st) (kf : ¬ (y ≤ x) → KW p l e R s m args below meth c g nL Q M q lo st) : KW p l e R s m args below meth c g nL Q M pc lo (.int y :: .int x :: st) := by
  subst hq
  exact fun H locs ls hP hS hl => lv_icmp_ge C.1 C.2.1 hd ht (fun h => kt h H locs ls hP hS hl) (fun h => kf h H locs ls hP hS hl)
theorem k_if_gt (C : Cx p R s m args meth c g own cc nL rt d) (tgt q : Nat) {x : Int32} {off : Int} (hd : decode cc pc = .ok (.ifCond .gt off, 3)) (ht : (pc : Int) + off = (tgt : Int)) (hq : pc + 3 = q) (kt : 0 < x → KW p l e R s m args below meth c g nL Q M tgt lo st) (kf : ¬ (0 < x) → KW p l e R s m args below meth c g nL Q M q lo st) : KW p l e R s m args below meth c g nL Q M pc lo (.int x :: st) := by
  subst hq
  exact fun H locs ls hP hS hl => lv_if_gt C.1 C.2.1 hd ht (fun h => kt h H locs ls hP hS hl) (fun h => kf h H locs ls hP hS hl)
theorem k_icmp_gt (C : Cx p R s m args meth c g own cc nL rt d) (tgt q : Nat) {x y : Int32} {off : Int} (hd : decode cc pc = .ok (.if_icmp .gt off, 3)) (ht : (pc : Int) + off = (tgt : Int)) (hq : pc + 3 = q) (kt : y < x → KW p l e R s m args below meth c g nL Q M tgt lo st) (kf : ¬ (y < x) → KW p l e R s m args below meth c g nL Q M q lo st) : KW p l e R s m args below meth c g nL Q M pc lo (.int y :: .int x :: st) := by
  subst hq
  exact fun H locs ls hP hS hl => lv_icmp_gt C.1 C.2.1 hd ht (fun h => kt h H locs ls hP hS hl) (fun h => kf h H locs ls hP hS hl)
theorem k_if_le (C : Cx p R s m args meth c g own cc nL rt d) (tgt q : Nat) {x : Int32} {off : Int} (hd : decode cc pc = .ok (.ifCond .le off, 3)) (ht : (pc : Int) + off = (tgt : Int)) (hq : pc + 3 = q) (kt : x ≤ 0 → KW p l e R s m args below meth c g nL Q M tgt lo st) (kf : ¬ (x ≤ 0) → KW p l e R s m args below meth c g nL Q M q lo st) : KW p l e R s m args below meth c g nL Q M pc lo (.int x :: st) := by
  subst hq
  exact fun H locs ls hP hS hl => lv_if_le C.1 C.2.1 hd ht (fun h => kt h H locs ls hP hS hl) (fun h => kf h H locs ls hP hS hl)
theorem k_icmp_le (C : Cx p R s m args meth c g own cc nL rt d) (tgt q : Nat) {x y : Int32} {off : Int} (hd : decode cc pc = .ok (.if_icmp .le off, 3)) (ht : (pc : Int) + off = (tgt : Int)) (hq : pc + 3 = q) (kt : x ≤ y → KW p l e R s m args below meth c g nL Q M tgt lo st) (kf : ¬ (x ≤ y) → KW p l e R s m args below meth c g nL Q M q lo st) : KW p l e R s m args below meth c g nL Q M pc lo (.int y :: .int x :: st) := by
  subst hq
  exact fun H locs ls hP hS hl => lv_icmp_le C.1 C.2.1 hd ht (fun h => kt h H locs ls hP hS hl) (fun h => kf h H locs ls hP hS hl)
theorem k_if_eqB (C : Cx p R s m args meth c g own cc nL rt d) (tgt q : Nat) {b : Bool} {off : Int} (hd : decode cc pc = .ok (.ifCond .eq off, 3)) (ht : (pc : Int) + off = (tgt : Int)) (hq : pc + 3 = q) (kt : b = false → KW p l e R s m args below meth c g nL Q M tgt lo st) (kf : b = true → KW p l e R s m args below meth c g nL Q M q lo st) : KW p l e R s m args below meth c g nL Q M pc lo (.int (b2i b) :: st) := by
  subst hq
  exact fun H locs ls hP hS hl => lv_if_eq C.1 C.2.1 hd ht (fun h => kt (by cases b; rfl; exact absurd h (by decide)) H locs ls hP hS hl) (fun h => kf (by cases b; exact absurd rfl h; rfl) H locs ls hP hS hl)
theorem k_if_neB (C : Cx p R s m args meth c g own cc nL rt d) (tgt q : Nat) {b : Bool} {off : Int} (hd : decode cc pc = .ok (.ifCond .ne off, 3)) (ht : (pc : Int) + off = (tgt : Int)) (hq : pc + 3 = q) (kt : b = true → KW p l e R s m args below meth c g nL Q M tgt lo st) (kf : b = false → KW p l e R s m args below meth c g nL Q M q lo st) : KW p l e R s m args below meth c g nL Q M pc lo (.int (b2i b) :: st) := by
  subst hq
  exact fun H locs ls hP hS hl => lv_if_ne C.1 C.2.1 hd ht (fun h => kt (by cases b; exact absurd rfl h; rfl) H locs ls hP hS hl) (fun h => kf (by cases b; rfl; exact absurd h (by decide)) H locs ls hP hS hl)
theorem k_goto (C : Cx p R s m args meth c g own cc nL rt d) (tgt : Nat) {off : Int} (hd : decode cc pc = .ok (.goto off, 3)) (ht : (pc : Int) + off = (tgt : Int)) (k : KW p l e R s m args below meth c g nL Q M tgt lo st) : KW p l e R s m args below meth c g nL Q M pc lo st := fun H locs ls hP hS hl => lv_goto C.1 C.2.1 hd ht (k H locs ls hP hS hl)
theorem k_tin (C : Cx p R s m args meth c g own cc nL rt d) (tgt : Nat) {dflt lw hi : Int} {offs : Array Int} {len : Nat} {x : Int32} {off : Int} (h1 : ¬ x.toInt < lw) (h2 : ¬ hi < x.toInt) (ho : offs[(x.toInt - lw).toNat]? = some off) (hd : decode cc pc = .ok (.tableswitch dflt lw hi offs, len)) (ht : (pc : Int) + off = (tgt : Int)) (k : KW p l e R s m args below meth c g nL Q M tgt lo st) : KW p l e R s m args below meth c g nL Q M pc lo (.int x :: st) := fun H locs ls hP hS hl => lv_tableIn C.1 C.2.1 hd h1 h2 ho ht (k H locs ls hP hS hl)
theorem k_tout (C : Cx p R s m args meth c g own cc nL rt d) (tgt : Nat) {dflt lw hi : Int} {offs : Array Int} {len : Nat} {x : Int32} (h1 : x.toInt < lw ∨ hi < x.toInt) (hd : decode cc pc = .ok (.tableswitch dflt lw hi offs, len)) (ht : (pc : Int) + dflt = (tgt : Int)) (k : KW p l e R s m args below meth c g nL Q M tgt lo st) : KW p l e R s m args below meth c g nL Q M pc lo (.int x :: st) := fun H locs ls hP hS hl => lv_tableOut C.1 C.2.1 hd h1 ht (k H locs ls hP hS hl)
theorem k_look (C : Cx p R s m args meth c g own cc nL rt d) (tgt : Nat) {dflt : Int} {ps : Array (Int × Int)} {len : Nat} {x : Int32} {off : Int} (hp : (ps.toList.zip (ps.toList.drop 1)).all (fun (a, next) => a.1 < next.1) = true) (ho : Op.lookupswitch.offset ps.toList dflt x.toInt = off) (hd : decode cc pc = .ok (.lookupswitch dflt ps, len)) (ht : (pc : Int) + off = (tgt : Int)) (k : KW p l e R s m args below meth c g nL Q M tgt lo st) : KW p l e R s m args below meth c g nL Q M pc lo (.int x :: st) := fun H locs ls hP hS hl => lv_lookup C.1 C.2.1 hd hp ho ht (k H locs ls hP hS hl)
theorem k_get (C : Cx p R s m args meth c g own cc nL rt d) (q : Nat) {idx ci j N : Nat} {C' : String} {T : u_T} (F : FLk own idx ci j C' T N) (k0 : Nat) (hk : k0 < 105) {fs : List Value} {v : Value} (he : cE g k0 (M k0) = .inr (ci, fs)) (hv : fs[j]? = some v) (hd : decode cc pc = .ok (.getfield idx, 3)) (hq : pc + 3 = q) (k : KW p l e R s m args below meth c g nL Q M q lo (v :: st)) : KW p l e R s m args below meth c g nL Q M pc lo (.ref (ga g k0) :: st) := by
  subst hq
  exact fun H locs ls hP hS hl => va_get C.1 C.2.1 C.2.2.2.2.1 F.2.1 C.2.2.2.1 C.2.2.2.2.2.1 hP k0 (by rw [wl_get g M hk, he]) F.1 j F.2.2.1 (C.2.2.2.2.1 _ F.2.2.2) (fun _ h => h) hv hd (k H locs ls hP hS hl)
theorem k_putr (C : Cx p R s m args meth c g own cc nL rt d) (q : Nat) {idx ci j N : Nat} {C' : String} {T : u_T} {ty : Nat → FieldType} (F : FLk own idx ci j C' T N) (PL : PLk C' T N ty) (k0 : Nat) (hk : k0 < 105) {fs : List Value} {v : Value} (f' : Nat → Int32) (he : cE g k0 (M k0) = .inr (ci, fs)) (he' : cE g k0 f' = .inr (ci, fs.set j v)) (hl0 : j < fs.length) (hfin : (T j).2.2.2 = false) (hn : narrow (ty j) v = v) (hfit : fits (ty j) v = true) (hd : decode cc pc = .ok (.putfield idx, 3)) (hq : pc + 3 = q) (k : KW p l e R s m args below meth c g nL Q (mrow M k0 f') q lo st) : KW p l e R s m args below meth c g nL Q M pc lo (v :: .ref (ga g k0) :: st) := by
  subst hq
  intro H locs ls hP hS hl
  refine va_put C.1 C.2.1 C.2.2.2.2.1 F.2.1 ty PL.1 PL.2 C.2.2.2.1 C.2.2.2.2.2.1 hP (C.2.2.2.2.2.2.1 M) hS k0 (by rw [wl_get g M hk, he]) F.1 j F.2.2.1 (C.2.2.2.2.1 _ F.2.2.2) (fun _ h => h) hfin (PL.1 j F.2.2.1) hn hfit hl0 hd (fun H1 locs1 hP1 _ hS1 => ?_)
  rw [wl_set g M hk he'] at hP1
  exact k H1 locs1 ls hP1 hS1 hl
theorem k_put (C : Cx p R s m args meth c g own cc nL rt d) (q : Nat) {idx ci j N : Nat} {C' : String} {T : u_T} {ty : Nat → FieldType} (F : FLk own idx ci j C' T N) (PL : PLk C' T N ty) (k0 : Nat) (hk : k0 < 105) {fs : List Value} {x : Int32} (he : cE g k0 (M k0) = .inr (ci, fs)) (he' : cE g k0 (upd (M k0) j x) = .inr (ci, fs.set j (.int x))) (hl0 : j < fs.length) (hfin : (T j).2.2.2 = false) (hn : narrow (ty j) (.int x) = .int x) (hfit : fits (ty j) (.int x) = true) (hd : decode cc pc = .ok (.putfield idx, 3)) (hq : pc + 3 = q) (k : KW p l e R s m args below meth c g nL Q (mu M k0 j x) q lo st) : KW p l e R s m args below meth c g nL Q M pc lo (.int x :: .ref (ga g k0) :: st) :=
  k_putr C q F PL k0 hk (upd (M k0) j x) he he' hl0 hfin hn hfit hd hq k
theorem k_iald (C : Cx p R s m args meth c g own cc nL rt d) (q : Nat) (k0 i : Nat) {n : Nat} {x : Int32} (hk : k0 < 105) (he : ∀ f, cE g k0 f = .inl (gC g 0, n, .inl f)) (hn : n < 2000) (hx : x = nI i) (hi : i < n) (hd : decode cc pc = .ok (.iaload, 1)) (hq : pc + 1 = q) (k : KW p l e R s m args below meth c g nL Q M q lo (.int (M k0 i) :: st)) : KW p l e R s m args below meth c g nL Q M pc lo (.int x :: .ref (ga g k0) :: st) := by
  subst hq; subst hx
  intro H locs ls hP hS hl
  refine va_iald C.1 C.2.1 C.2.2.2.2.2.1 hP k0 0 (by rw [wl_get g M hk, he]) rfl (vp_in_nI hi (by omega)) hd ?_
  rw [nI_clamp (by omega)]
  exact k H locs ls hP hS hl
theorem k_bald (C : Cx p R s m args meth c g own cc nL rt d) (q : Nat) (k0 i : Nat) {n : Nat} {x : Int32} (hk : k0 < 105) (he : ∀ f, cE g k0 f = .inl (gC g 1, n, .inl f)) (hn : n < 2000) (hx : x = nI i) (hi : i < n) (hd : decode cc pc = .ok (.baload, 1)) (hq : pc + 1 = q) (k : KW p l e R s m args below meth c g nL Q M q lo (.int (M k0 i) :: st)) : KW p l e R s m args below meth c g nL Q M pc lo (.int x :: .ref (ga g k0) :: st) := by
  subst hq; subst hx
  intro H locs ls hP hS hl
  refine va_bald C.1 C.2.1 C.2.2.2.2.2.1 hP k0 1 (by rw [wl_get g M hk, he]) rfl (vp_in_nI hi (by omega)) hd ?_
  rw [nI_clamp (by omega)]
  exact k H locs ls hP hS hl
theorem k_zald (C : Cx p R s m args meth c g own cc nL rt d) (q : Nat) (k0 i : Nat) {n : Nat} {x : Int32} (hk : k0 < 105) (he : ∀ f, cE g k0 f = .inl (gC g 2, n, .inl f)) (hn : n < 2000) (hx : x = nI i) (hi : i < n) (hd : decode cc pc = .ok (.baload, 1)) (hq : pc + 1 = q) (k : KW p l e R s m args below meth c g nL Q M q lo (.int (M k0 i) :: st)) : KW p l e R s m args below meth c g nL Q M pc lo (.int x :: .ref (ga g k0) :: st) := by
  subst hq; subst hx
  intro H locs ls hP hS hl
  refine va_zald C.1 C.2.1 C.2.2.2.2.2.1 hP k0 2 (by rw [wl_get g M hk, he]) rfl (vp_in_nI hi (by omega)) hd ?_
  rw [nI_clamp (by omega)]
  exact k H locs ls hP hS hl
theorem k_iast (C : Cx p R s m args meth c g own cc nL rt d) (q : Nat) (k0 i : Nat) {n : Nat} {x y : Int32} (hk : k0 < 105) (he : ∀ f, cE g k0 f = .inl (gC g 0, n, .inl f)) (hn : n < 2000) (hx : x = nI i) (hi : i < n) (hd : decode cc pc = .ok (.iastore, 1)) (hq : pc + 1 = q) (k : KW p l e R s m args below meth c g nL Q (mu M k0 i y) q lo st) : KW p l e R s m args below meth c g nL Q M pc lo (.int y :: .int x :: .ref (ga g k0) :: st) := by
  subst hq; subst hx
  intro H locs ls hP hS hl
  refine va_iast C.1 C.2.1 C.2.2.2.2.2.1 hP (C.2.2.2.2.2.2.1 M) hS k0 0 (by rw [wl_get g M hk, he]) rfl (vp_in_nI hi (by omega)) hd (fun H1 locs1 hP1 _ hS1 => ?_)
  rw [nI_clamp (by omega), wl_set g M hk (he _)] at hP1
  exact k H1 locs1 ls hP1 hS1 hl
theorem k_bast (C : Cx p R s m args meth c g own cc nL rt d) (q : Nat) (k0 i : Nat) {n : Nat} {x y : Int32} (hk : k0 < 105) (he : ∀ f, cE g k0 f = .inl (gC g 1, n, .inl f)) (hn : n < 2000) (hx : x = nI i) (hi : i < n) (hd : decode cc pc = .ok (.bastore, 1)) (hq : pc + 1 = q) (k : KW p l e R s m args below meth c g nL Q (mu M k0 i (vp_nar .byte y)) q lo st) : KW p l e R s m args below meth c g nL Q M pc lo (.int y :: .int x :: .ref (ga g k0) :: st) := by
  subst hq; subst hx
  intro H locs ls hP hS hl
  refine va_bast C.1 C.2.1 C.2.2.2.2.2.1 hP (C.2.2.2.2.2.2.1 M) hS k0 1 (by rw [wl_get g M hk, he]) rfl (vp_in_nI hi (by omega)) hd (fun H1 locs1 hP1 _ hS1 => ?_)
  rw [nI_clamp (by omega), wl_set g M hk (he _)] at hP1
  exact k H1 locs1 ls hP1 hS1 hl
theorem k_zast (C : Cx p R s m args meth c g own cc nL rt d) (q : Nat) (k0 i : Nat) {n : Nat} {x y : Int32} (hk : k0 < 105) (he : ∀ f, cE g k0 f = .inl (gC g 2, n, .inl f)) (hn : n < 2000) (hx : x = nI i) (hi : i < n) (hd : decode cc pc = .ok (.bastore, 1)) (hq : pc + 1 = q) (k : KW p l e R s m args below meth c g nL Q (mu M k0 i (vp_nar .boolean y)) q lo st) : KW p l e R s m args below meth c g nL Q M pc lo (.int y :: .int x :: .ref (ga g k0) :: st) := by
  subst hq; subst hx
  intro H locs ls hP hS hl
  refine va_zast C.1 C.2.1 C.2.2.2.2.2.1 hP (C.2.2.2.2.2.2.1 M) hS k0 2 (by rw [wl_get g M hk, he]) rfl (vp_in_nI hi (by omega)) hd (fun H1 locs1 hP1 _ hS1 => ?_)
  rw [nI_clamp (by omega), wl_set g M hk (he _)] at hP1
  exact k H1 locs1 ls hP1 hS1 hl
theorem k_aald (C : Cx p R s m args meth c g own cc nL rt d) (q : Nat) (k0 i t0 : Nat) {cA : ClassId} {C' : String} {n : Nat} {h : Nat → Nat} {x : Int32} (hk : k0 < 105) (he : cE g k0 (M k0) = .inl (cA, n, rfs (fun j => ga g (h j)))) (ht : (tysG g)[t0]? = some (cA, .object C')) (hn : n < 2000) (hx : x = nI i) (hi : i < n) (hd : decode cc pc = .ok (.aaload, 1)) (hq : pc + 1 = q) (k : KW p l e R s m args below meth c g nL Q M q lo (.ref (ga g (h i)) :: st)) : KW p l e R s m args below meth c g nL Q M pc lo (.int x :: .ref (ga g k0) :: st) := by
  subst hq; subst hx
  intro H locs ls hP hS hl
  refine va_aldq C.1 C.2.1 C.2.2.2.2.2.1 hP k0 t0 (by rw [wl_get g M hk, he]) ht (vp_in_nI hi (by omega)) hd ?_
  rw [nI_clamp (by omega)]
  exact k H locs ls hP hS hl
theorem k_alen (C : Cx p R s m args meth c g own cc nL rt d) (q : Nat) (k0 t0 : Nat) {cA : ClassId} {a : vp_A} {ty : FieldType} {v : Int32} (hk : k0 < 105) (he : cE g k0 (M k0) = .inl (cA, a)) (ht : (tysG g)[t0]? = some (cA, ty)) (hv : Int32.ofNat a.1 = v) (hd : decode cc pc = .ok (.arraylength, 1)) (hq : pc + 1 = q) (k : KW p l e R s m args below meth c g nL Q M q lo (.int v :: st)) : KW p l e R s m args below meth c g nL Q M pc lo (.ref (ga g k0) :: st) := by
  subst hq
  exact fun H locs ls hP hS hl => va_alen C.1 C.2.1 C.2.2.2.2.2.1 hP k0 t0 (by rw [wl_get g M hk, he]) ht hv hd (k H locs ls hP hS hl)
theorem k_kab (C : Cx p R s m args meth c g own cc nL rt d) (q : Nat) {idx : Nat} (hw : Cond.fieldLinkNest own idx "FurrowTalk" "KIND_ABOVE" "[I" "FurrowTalk" ∈ NW) (hd : decode cc pc = .ok (.getstatic idx, 3)) (hq : pc + 3 = q) (k : KW p l e R s m args below meth c g nL Q M q lo (.ref (ga g 105) :: st)) : KW p l e R s m args below meth c g nL Q M pc lo st := by
  subst hq
  exact fun H locs ls hP hS hl => va_getsN C.1 C.2.1 C.2.2.2.2.2.2.2.2.1.1 hS C.2.2.2.1 (va_Nw.use rfl (C.2.2.2.2.2.2.2.1 _ hw)) (fun _ h => h) hd (k H locs ls hP hS hl)
theorem k_nms (C : Cx p R s m args meth c g own cc nL rt d) (q : Nat) {idx : Nat} (hw : Cond.fieldLink own idx "FurrowTalk$TextReader" "NAMES" "[C" ∈ wA) (hd : decode cc pc = .ok (.getstatic idx, 3)) (hq : pc + 3 = q) (k : KW p l e R s m args below meth c g nL Q M q lo (.ref (ga g 106) :: st)) : KW p l e R s m args below meth c g nL Q M pc lo st := by
  subst hq
  exact fun H locs ls hP hS hl => va_gets C.1 C.2.1 C.2.2.2.2.2.2.2.2.1.2.2.1 hS C.2.2.2.1 (C.2.2.2.2.1 _ hw) (fun _ h => h) hd (k H locs ls hP hS hl)
theorem k_kabl (C : Cx p R s m args meth c g own cc nL rt d) (q : Nat) (i : Nat) {x v : Int32} (hx : x = nI i) (hi : i < 7) (hv : f105 i = .int v) (hd : decode cc pc = .ok (.iaload, 1)) (hq : pc + 1 = q) (k : KW p l e R s m args below meth c g nL Q M q lo (.int v :: st)) : KW p l e R s m args below meth c g nL Q M pc lo (.int x :: .ref (ga g 105) :: st) := by
  subst hq; subst hx
  exact fun H locs ls hP hS hl => va_ti C.1 C.2.1 C.2.2.2.2.2.2.2.2.1.2.1 hS (vp_in_nI hi (by decide)) (by rw [nI_clamp (by omega)]; exact hv) hd (k H locs ls hP hS hl)
theorem k_nmsl (C : Cx p R s m args meth c g own cc nL rt d) (q : Nat) (i : Nat) {x v : Int32} (hx : x = nI i) (hi : i < 6) (hv : f106 i = .int v) (hd : decode cc pc = .ok (.caload, 1)) (hq : pc + 1 = q) (k : KW p l e R s m args below meth c g nL Q M q lo (.int v :: st)) : KW p l e R s m args below meth c g nL Q M pc lo (.int x :: .ref (ga g 106) :: st) := by
  subst hq; subst hx
  exact fun H locs ls hP hS hl => va_tc C.1 C.2.1 C.2.2.2.2.2.2.2.2.1.2.2.2 hS (vp_in_nI hi (by decide)) (by rw [nI_clamp (by omega)]; exact hv) hd (k H locs ls hP hS hl)
theorem k_mmax (C : Cx p R s m args meth c g own cc nL rt d) (q : Nat) {idx : Nat} {x y : Int32} (hw : Cond.methodLink own idx Lib.Math.max.name ∈ wA ∧ Cond.static Lib.Math.max.name ∈ wA ∧ Cond.initialized "java/lang/Math" ∈ wA ∧ Cond.code Lib.Math.max.name Lib.Math.max.code 2 (some .int) ∈ wA) (hr : (st.map fun v => v.category).sum ≤ 8) (hd : decode cc pc = .ok (.invokestatic idx, 3)) (hq : pc + 3 = q) (k : KW p l e R s m args below meth c g nL Q M q lo (.int (if x < y then y else x) :: st)) : KW p l e R s m args below meth c g nL Q M pc lo (.int y :: .int x :: st) := by
  subst hq
  intro H locs ls hP hS hl
  have hR := C.2.2.2.2.2.2.2.2.2.2.2
  refine va_mmax C.1 C.2.1 (C.2.2.1.trans hl.1.symm) C.2.2.2.1 (C.2.2.2.2.1 _ hw.1) (C.2.2.2.2.1 _ hw.2.1) (C.2.2.2.2.1 _ hw.2.2.1) (C.2.2.2.2.1 _ hw.2.2.2) ?_ ?_ (by rw [hR]; exact Nat.le_refl 0) (by rw [hR]; exact Nat.le_refl 0) hd (k H locs ls hP hS hl)
  · rw [hR]; show 1 ≤ d + 1; omega
  · rw [hR]; show _ ≤ 48 * d + 48; omega
theorem k_mmin (C : Cx p R s m args meth c g own cc nL rt d) (q : Nat) {idx : Nat} {x y : Int32} (hw : Cond.methodLink own idx Lib.Math.min.name ∈ wA ∧ Cond.static Lib.Math.min.name ∈ wA ∧ Cond.initialized "java/lang/Math" ∈ wA ∧ Cond.code Lib.Math.min.name Lib.Math.min.code 2 (some .int) ∈ wA) (hr : (st.map fun v => v.category).sum ≤ 8) (hd : decode cc pc = .ok (.invokestatic idx, 3)) (hq : pc + 3 = q) (k : KW p l e R s m args below meth c g nL Q M q lo (.int (if y < x then y else x) :: st)) : KW p l e R s m args below meth c g nL Q M pc lo (.int y :: .int x :: st) := by
  subst hq
  intro H locs ls hP hS hl
  have hR := C.2.2.2.2.2.2.2.2.2.2.2
  refine va_mmin C.1 C.2.1 (C.2.2.1.trans hl.1.symm) C.2.2.2.1 (C.2.2.2.2.1 _ hw.1) (C.2.2.2.2.1 _ hw.2.1) (C.2.2.2.2.1 _ hw.2.2.1) (C.2.2.2.2.1 _ hw.2.2.2) ?_ ?_ (by rw [hR]; exact Nat.le_refl 0) (by rw [hR]; exact Nat.le_refl 0) hd (k H locs ls hP hS hl)
  · rw [hR]; show 1 ≤ d + 1; omega
  · rw [hR]; show _ ≤ 48 * d + 48; omega
theorem k_mabs (C : Cx p R s m args meth c g own cc nL rt d) (q : Nat) {idx : Nat} {x : Int32} (hw : Cond.methodLink own idx Lib.Math.abs.name ∈ wA ∧ Cond.static Lib.Math.abs.name ∈ wA ∧ Cond.initialized "java/lang/Math" ∈ wA ∧ Cond.code Lib.Math.abs.name Lib.Math.abs.code 1 (some .int) ∈ wA) (hr : (st.map fun v => v.category).sum ≤ 8) (hd : decode cc pc = .ok (.invokestatic idx, 3)) (hq : pc + 3 = q) (k : KW p l e R s m args below meth c g nL Q M q lo (.int (if 0 ≤ x then x else 0 - x) :: st)) : KW p l e R s m args below meth c g nL Q M pc lo (.int x :: st) := by
  subst hq
  intro H locs ls hP hS hl
  have hR := C.2.2.2.2.2.2.2.2.2.2.2
  refine va_mabs C.1 C.2.1 (C.2.2.1.trans hl.1.symm) C.2.2.2.1 (C.2.2.2.2.1 _ hw.1) (C.2.2.2.2.1 _ hw.2.1) (C.2.2.2.2.1 _ hw.2.2.1) (C.2.2.2.2.1 _ hw.2.2.2) ?_ ?_ (by rw [hR]; exact Nat.le_refl 0) (by rw [hR]; exact Nat.le_refl 0) hd (k H locs ls hP hS hl)
  · rw [hR]; show 1 ≤ d + 1; omega
  · rw [hR]; show _ ≤ 48 * d + 48; omega
theorem k_copy (C : Cx p R s m args meth c g own cc nL rt d) (q : Nat) {idx : Nat} (k0 k1 i0 i1 n t0 : Nat) {n0 n1 : Nat} {cA : ClassId} {ty : FieldType} {sp dp z : Int32} (hw : Cond.methodLink own idx arraycopyName ∈ wA ∧ Cond.native arraycopyName ∈ wA ∧ Cond.static arraycopyName ∈ wA ∧ Cond.initialized "java/lang/System" ∈ wA) (hk0 : k0 < 105) (hk1 : k1 < 105) (he0 : ∀ f, cE g k0 f = .inl (cA, n0, .inl f)) (he1 : ∀ f, cE g k1 f = .inl (cA, n1, .inl f)) (ht : (tysG g)[t0]? = some (cA, ty)) (hprim : refKind ty = false) (hsp : sp = nI i0) (hdp : dp = nI i1) (hz : z = nI n) (h0 : i0 + n ≤ n0) (h1 : i1 + n ≤ n1) (hb0 : n0 < 2000) (hb1 : n1 < 2000) (hfit : ∀ i, i < n → fits ty (.int (M k0 (i0 + i))) = true) (hr : (st.map fun v => v.category).sum ≤ 8) (hd : decode cc pc = .ok (.invokestatic idx, 3)) (hq : pc + 3 = q) (k : KW p l e R s m args below meth c g nL Q (mrow M k1 (va_cpy (M k0) (M k1) i0 i1 n)) (q) lo st) : KW p l e R s m args below meth c g nL Q M pc lo (.int z :: .int dp :: .ref (ga g k1) :: .int sp :: .ref (ga g k0) :: st) := by
  subst hq; subst hsp; subst hdp; subst hz
  intro H locs ls hP hS hl
  have hR := C.2.2.2.2.2.2.2.2.2.2.2
  have e0 : (nI i0).toNatClampNeg = i0 := nI_clamp (by omega)
  have e1 : (nI i1).toNatClampNeg = i1 := nI_clamp (by omega)
  have e2 : (nI n).toNatClampNeg = n := nI_clamp (by omega)
  refine va_copyi C.1 C.2.1 (C.2.2.1.trans hl.1.symm) C.2.2.2.1 (C.2.2.2.2.1 _ hw.1) (C.2.2.2.2.1 _ hw.2.1) (C.2.2.2.2.1 _ hw.2.2.1) (C.2.2.2.2.1 _ hw.2.2.2) C.2.2.2.2.2.1 hP (C.2.2.2.2.2.2.1 M) hS k0 k1 t0 t0 (by rw [wl_get g M hk0, he0]) (by rw [wl_get g M hk1, he1]) ht ht hprim (nI_pos (by omega)) (nI_pos (by omega)) (nI_pos (by omega)) (by rw [e0, e2]; exact h0) (by rw [e1, e2]; exact h1) (fun i hi => by rw [e0]; exact hfit i (by rw [e2] at hi; exact hi)) ?_ ?_ hd (fun H1 locs1 hP1 _ hS1 => ?_)
  · rw [hR]; show 1 ≤ d + 1; omega
  · rw [hR]
    have e5 : nativeFrameWords "java/lang/System" "arraycopy" 5 ≤ 24 := by decide +kernel
    show _ ≤ 48 * d + 48; omega
  · rw [e0, e1, e2, wl_set g M hk1 (he1 _)] at hP1
    exact k H1 locs1 ls hP1 hS1 hl
theorem Wd_of {H : Heap} {locs : List Loc} (C : Cx p R s m args meth c g own cc nL rt d) (hP : va_P (gD g) vwCl (wl g M) H) (hS : va_S (gA g) s.heap H locs) : ∀ U : State, U.heap = H → s.WarmedH U.vm → Wd g M U := by
  intro U hU hW
  refine ⟨by rw [hU]; exact hP, va_K.moved hW.alike C.2.2.2.2.2.1, C.2.2.2.2.2.2.1 M, NW_warm hW C.2.2.2.2.2.2.2.1, ?_⟩
  rw [hU]
  exact SZ.moved hW.alike (C.2.2.2.2.2.2.2.2.1.kept (fun a h1 h2 => hS.2.1 a h1 h2))
theorem rm_ok {d0 : Nat} (h : d0 < d) {n : Nat} (hn : n ≤ 21) : (rmD d0).frames + 1 ≤ (rmD d).frames ∧ 8 + (n + 11) + (rmD d0).locals ≤ (rmD d).locals := by
  refine ⟨?_, ?_⟩
  · show d0 + 1 + 1 ≤ d + 1; omega
  · show 8 + (n + 11) + (48 * d0 + 48) ≤ 48 * d + 48; omega
theorem k_callVI (C : Cx p R s m args meth c g own cc nL rt d) (q : Nat) {y : MethodName} {cc0 : ByteArray} {nL0 d0 n idx : Nat} {ret0 : Option FieldType} {As : List Value} {sti : List Value} {post : Int32 → Mem → Prop} (k0 : Nat) {ci : Nat} {fs : List Value} {qc : vw_C} (hk : k0 < 105) (he : cE g k0 (M k0) = .inr (ci, fs)) (hc : vwCl[ci]? = some qc) (hcn : qc.1 = y.cls) (hlink : Cond.methodLink own idx y ∈ wA) (hv0 : VLk y) (hM : CtrI l g y cc0 nL0 ret0 d0 (.ref (ga g k0) :: As) M post) (hm : MLk y cc0 nL0 ret0 n) (hd0 : d0 < d) (hnL : nL0 ≤ 21) (hA : As.length = n) (hsti : sti = As.reverse ++ .ref (ga g k0) :: st) (hr : (st.map fun v => v.category).sum ≤ 8) (hd : decode cc pc = .ok (.invokevirtual idx, 3)) (hq : pc + 3 = q) (k : ∀ (r : Int32) (M1 : Mem), post r M1 → KW p l e R s m args below meth c g nL Q M1 q lo (.int r :: st)) : KW p l e R s m args below meth c g nL Q M pc lo sti := by
  subst hq; subst hsti
  intro H locs ls hP hS hl
  have hR := C.2.2.2.2.2.2.2.2.2.2.2
  subst hR
  have hrun := va_runV (e := e) (locs := locs) (cells := 0) (slots := 0) (g := F0 m pc ls (As.reverse ++ .ref (ga g k0) :: st)) (C := y.cls) (b := ga g k0) (As := As) (rest := st) (below := below) (meth := meth) (H := H) (p := p) (c := c) ⟨C.1, C.2.1, C.2.2.1, C.2.2.2.1, C.2.2.2.2.1⟩ hM ⟨callB_of n C.2.2.2.2.1 (wA_good hm.1) rfl rfl rfl (C.2.2.2.2.1 _ hm.2.1) (C.2.2.2.2.1 _ hlink) ⟨hm.2.2.1, hm.2.2.2.1, hm.2.2.2.2⟩ (rm_ok hd0 hnL), C.2.2.2.2.1 _ hv0.1, C.2.2.2.2.1 _ hv0.2⟩ ⟨Wd_blind, by have h := va_recv C.2.2.2.2.2.1 hP (ci := ci) (q0 := k0) hc (by rw [wl_get g M hk, he]); rw [hcn] at h; exact h, fun U hU hW => ⟨rfl, Wd_of C hP hS U hU hW⟩⟩ rfl hA hl.1 rfl (lv_room hr) hd ⟨Nat.le_refl 0, Nat.le_refl 0⟩
  intro T hT X
  obtain ⟨v, st₀, t, T', L, h0, X', hL, e1, e2, ⟨⟨r, M1, hv, hp, hb⟩, hz, hk⟩, stp⟩ := hrun T hT X
  cases hv
  rw [h0] at hz hk
  obtain ⟨t2, a1, b1⟩ := k r M1 hp T'.heap (locs ++ L) ls (by rw [e1]; exact hb) ⟨Nat.le_trans hS.1 (by rw [e1]; exact hz), fun q h1 h2 => by rw [e1, hk q (Nat.lt_of_lt_of_le h1 hS.1) h2]; exact hS.2.1 q h1 h2, fun q hq => by
      rcases List.mem_append.mp hq with h | h
      · exact hS.2.2 q h
      · exact hL q h⟩ hl T' rfl X'
  exact ⟨t2, stp t2 a1, b1⟩
theorem k_callVV (C : Cx p R s m args meth c g own cc nL rt d) (q : Nat) {y : MethodName} {cc0 : ByteArray} {nL0 d0 n idx : Nat}  {As : List Value} {sti : List Value} {post : Mem → Prop} (k0 : Nat) {ci : Nat} {fs : List Value} {qc : vw_C} (hk : k0 < 105) (he : cE g k0 (M k0) = .inr (ci, fs)) (hc : vwCl[ci]? = some qc) (hcn : qc.1 = y.cls) (hlink : Cond.methodLink own idx y ∈ wA) (hv0 : VLk y) (hM : CtrV l g y cc0 nL0 d0 (.ref (ga g k0) :: As) M post) (hm : MLk y cc0 nL0 none n) (hd0 : d0 < d) (hnL : nL0 ≤ 21) (hA : As.length = n) (hsti : sti = As.reverse ++ .ref (ga g k0) :: st) (hr : (st.map fun v => v.category).sum ≤ 8) (hd : decode cc pc = .ok (.invokevirtual idx, 3)) (hq : pc + 3 = q) (k : ∀ (M1 : Mem), post M1 → KW p l e R s m args below meth c g nL Q M1 q lo st) : KW p l e R s m args below meth c g nL Q M pc lo sti := by
  subst hq; subst hsti
  intro H locs ls hP hS hl
  have hR := C.2.2.2.2.2.2.2.2.2.2.2
  subst hR
  have hrun := va_runV (e := e) (locs := locs) (cells := 0) (slots := 0) (g := F0 m pc ls (As.reverse ++ .ref (ga g k0) :: st)) (C := y.cls) (b := ga g k0) (As := As) (rest := st) (below := below) (meth := meth) (H := H) (p := p) (c := c) ⟨C.1, C.2.1, C.2.2.1, C.2.2.2.1, C.2.2.2.2.1⟩ hM ⟨callB_of n C.2.2.2.2.1 (wA_good hm.1) rfl rfl rfl (C.2.2.2.2.1 _ hm.2.1) (C.2.2.2.2.1 _ hlink) ⟨hm.2.2.1, hm.2.2.2.1, hm.2.2.2.2⟩ (rm_ok hd0 hnL), C.2.2.2.2.1 _ hv0.1, C.2.2.2.2.1 _ hv0.2⟩ ⟨Wd_blind, by have h := va_recv C.2.2.2.2.2.1 hP (ci := ci) (q0 := k0) hc (by rw [wl_get g M hk, he]); rw [hcn] at h; exact h, fun U hU hW => ⟨rfl, Wd_of C hP hS U hU hW⟩⟩ rfl hA hl.1 rfl (lv_room hr) hd ⟨Nat.le_refl 0, Nat.le_refl 0⟩
  intro T hT X
  obtain ⟨v, st₀, t, T', L, h0, X', hL, e1, e2, ⟨⟨M1, hv, hp, hb⟩, hz, hk⟩, stp⟩ := hrun T hT X
  cases hv
  rw [h0] at hz hk
  obtain ⟨t2, a1, b1⟩ := k M1 hp T'.heap (locs ++ L) ls (by rw [e1]; exact hb) ⟨Nat.le_trans hS.1 (by rw [e1]; exact hz), fun q h1 h2 => by rw [e1, hk q (Nat.lt_of_lt_of_le h1 hS.1) h2]; exact hS.2.1 q h1 h2, fun q hq => by
      rcases List.mem_append.mp hq with h | h
      · exact hS.2.2 q h
      · exact hL q h⟩ hl T' rfl X'
  exact ⟨t2, stp t2 a1, b1⟩
theorem k_callSI (C : Cx p R s m args meth c g own cc nL rt d) (q : Nat) {y : MethodName} {cc0 : ByteArray} {nL0 d0 n idx : Nat} {ret0 : Option FieldType} {As : List Value} {sti : List Value} {post : Int32 → Mem → Prop} (hlink : Cond.methodLink own idx y ∈ wA) (hs0 : Cond.static y ∈ wA) (hM : CtrI l g y cc0 nL0 ret0 d0 As M post) (hm : MLk y cc0 nL0 ret0 n) (hd0 : d0 < d) (hnL : nL0 ≤ 21) (hA : As.length = n) (hsti : sti = As.reverse ++ st) (hr : (st.map fun v => v.category).sum ≤ 8) (hd : decode cc pc = .ok (.invokestatic idx, 3)) (hq : pc + 3 = q) (k : ∀ (r : Int32) (M1 : Mem), post r M1 → KW p l e R s m args below meth c g nL Q M1 q lo (.int r :: st)) : KW p l e R s m args below meth c g nL Q M pc lo sti := by
  subst hq; subst hsti
  intro H locs ls hP hS hl
  have hR := C.2.2.2.2.2.2.2.2.2.2.2
  subst hR
  have hrun := va_runS (e := e) (locs := locs) (cells := 0) (slots := 0) (g := F0 m pc ls (As.reverse ++ st)) (As := As) (rest := st) (below := below) (meth := meth) (H := H) (p := p) (c := c) ⟨C.1, C.2.1, C.2.2.1, C.2.2.2.1, C.2.2.2.2.1⟩ hM ⟨callB_of n C.2.2.2.2.1 (wA_good hm.1) rfl rfl rfl (C.2.2.2.2.1 _ hm.2.1) (C.2.2.2.2.1 _ hlink) ⟨hm.2.2.1, hm.2.2.2.1, hm.2.2.2.2⟩ (rm_ok hd0 hnL), C.2.2.2.2.1 _ hs0⟩ ⟨Wd_blind, fun U hU hW => ⟨rfl, Wd_of C hP hS U hU hW⟩⟩ rfl hA hl.1 rfl (lv_room hr) hd ⟨Nat.le_refl 0, Nat.le_refl 0⟩
  intro T hT X
  obtain ⟨v, st₀, t, T', L, h0, X', hL, e1, e2, ⟨⟨r, M1, hv, hp, hb⟩, hz, hk⟩, stp⟩ := hrun T hT X
  cases hv
  rw [h0] at hz hk
  obtain ⟨t2, a1, b1⟩ := k r M1 hp T'.heap (locs ++ L) ls (by rw [e1]; exact hb) ⟨Nat.le_trans hS.1 (by rw [e1]; exact hz), fun q h1 h2 => by rw [e1, hk q (Nat.lt_of_lt_of_le h1 hS.1) h2]; exact hS.2.1 q h1 h2, fun q hq => by
      rcases List.mem_append.mp hq with h | h
      · exact hS.2.2 q h
      · exact hL q h⟩ hl T' rfl X'
  exact ⟨t2, stp t2 a1, b1⟩
theorem k_callSV (C : Cx p R s m args meth c g own cc nL rt d) (q : Nat) {y : MethodName} {cc0 : ByteArray} {nL0 d0 n idx : Nat}  {As : List Value} {sti : List Value} {post : Mem → Prop} (hlink : Cond.methodLink own idx y ∈ wA) (hs0 : Cond.static y ∈ wA) (hM : CtrV l g y cc0 nL0 d0 As M post) (hm : MLk y cc0 nL0 none n) (hd0 : d0 < d) (hnL : nL0 ≤ 21) (hA : As.length = n) (hsti : sti = As.reverse ++ st) (hr : (st.map fun v => v.category).sum ≤ 8) (hd : decode cc pc = .ok (.invokestatic idx, 3)) (hq : pc + 3 = q) (k : ∀ (M1 : Mem), post M1 → KW p l e R s m args below meth c g nL Q M1 q lo st) : KW p l e R s m args below meth c g nL Q M pc lo sti := by
  subst hq; subst hsti
  intro H locs ls hP hS hl
  have hR := C.2.2.2.2.2.2.2.2.2.2.2
  subst hR
  have hrun := va_runS (e := e) (locs := locs) (cells := 0) (slots := 0) (g := F0 m pc ls (As.reverse ++ st)) (As := As) (rest := st) (below := below) (meth := meth) (H := H) (p := p) (c := c) ⟨C.1, C.2.1, C.2.2.1, C.2.2.2.1, C.2.2.2.2.1⟩ hM ⟨callB_of n C.2.2.2.2.1 (wA_good hm.1) rfl rfl rfl (C.2.2.2.2.1 _ hm.2.1) (C.2.2.2.2.1 _ hlink) ⟨hm.2.2.1, hm.2.2.2.1, hm.2.2.2.2⟩ (rm_ok hd0 hnL), C.2.2.2.2.1 _ hs0⟩ ⟨Wd_blind, fun U hU hW => ⟨rfl, Wd_of C hP hS U hU hW⟩⟩ rfl hA hl.1 rfl (lv_room hr) hd ⟨Nat.le_refl 0, Nat.le_refl 0⟩
  intro T hT X
  obtain ⟨v, st₀, t, T', L, h0, X', hL, e1, e2, ⟨⟨M1, hv, hp, hb⟩, hz, hk⟩, stp⟩ := hrun T hT X
  cases hv
  rw [h0] at hz hk
  obtain ⟨t2, a1, b1⟩ := k M1 hp T'.heap (locs ++ L) ls (by rw [e1]; exact hb) ⟨Nat.le_trans hS.1 (by rw [e1]; exact hz), fun q h1 h2 => by rw [e1, hk q (Nat.lt_of_lt_of_le h1 hS.1) h2]; exact hS.2.1 q h1 h2, fun q hq => by
      rcases List.mem_append.mp hq with h | h
      · exact hS.2.2 q h
      · exact hL q h⟩ hl T' rfl X'
  exact ⟨t2, stp t2 a1, b1⟩
theorem k_callNI (C : Cx p R s m args meth c g own cc nL rt d) (q : Nat) {y : MethodName} {cc0 : ByteArray} {nL0 d0 n idx : Nat} {ret0 : Option FieldType} {As : List Value} {sti : List Value} {post : Int32 → Mem → Prop} {host : String} (hlink : Cond.methodLinkNest own idx y host ∈ NW) (hs0 : Cond.static y ∈ wA) (hM : CtrI l g y cc0 nL0 ret0 d0 As M post) (hm : MLk y cc0 nL0 ret0 n) (hd0 : d0 < d) (hnL : nL0 ≤ 21) (hA : As.length = n) (hsti : sti = As.reverse ++ st) (hr : (st.map fun v => v.category).sum ≤ 8) (hd : decode cc pc = .ok (.invokestatic idx, 3)) (hq : pc + 3 = q) (k : ∀ (r : Int32) (M1 : Mem), post r M1 → KW p l e R s m args below meth c g nL Q M1 q lo (.int r :: st)) : KW p l e R s m args below meth c g nL Q M pc lo sti := by
  subst hq; subst hsti
  intro H locs ls hP hS hl
  have hR := C.2.2.2.2.2.2.2.2.2.2.2
  subst hR
  have hrun := va_runSN (e := e) (locs := locs) (cells := 0) (slots := 0) (g := F0 m pc ls (As.reverse ++ st)) (As := As) (rest := st) (below := below) (meth := meth) (H := H) (p := p) (c := c) ⟨C.1, C.2.1, C.2.2.1, C.2.2.2.1, C.2.2.2.2.1⟩ hM ⟨va_cnB n C.2.2.2.2.1 (wA_good hm.1) rfl rfl rfl (C.2.2.2.2.2.2.2.1 _ hlink) (C.2.2.2.2.1 _ hm.2.1) ⟨hm.2.2.1, hm.2.2.2.1, hm.2.2.2.2⟩ (rm_ok hd0 hnL), C.2.2.2.2.1 _ hs0, trivial⟩ ⟨Wd_blind, fun U hU hW => ⟨rfl, Wd_of C hP hS U hU hW⟩⟩ rfl hA hl.1 rfl (lv_room hr) hd ⟨Nat.le_refl 0, Nat.le_refl 0⟩
  intro T hT X
  obtain ⟨v, st₀, t, T', L, h0, X', hL, e1, e2, ⟨⟨r, M1, hv, hp, hb⟩, hz, hk⟩, stp⟩ := hrun T hT X
  cases hv
  rw [h0] at hz hk
  obtain ⟨t2, a1, b1⟩ := k r M1 hp T'.heap (locs ++ L) ls (by rw [e1]; exact hb) ⟨Nat.le_trans hS.1 (by rw [e1]; exact hz), fun q h1 h2 => by rw [e1, hk q (Nat.lt_of_lt_of_le h1 hS.1) h2]; exact hS.2.1 q h1 h2, fun q hq => by
      rcases List.mem_append.mp hq with h | h
      · exact hS.2.2 q h
      · exact hL q h⟩ hl T' rfl X'
  exact ⟨t2, stp t2 a1, b1⟩
theorem k_callNV (C : Cx p R s m args meth c g own cc nL rt d) (q : Nat) {y : MethodName} {cc0 : ByteArray} {nL0 d0 n idx : Nat}  {As : List Value} {sti : List Value} {post : Mem → Prop} {host : String} (hlink : Cond.methodLinkNest own idx y host ∈ NW) (hs0 : Cond.static y ∈ wA) (hM : CtrV l g y cc0 nL0 d0 As M post) (hm : MLk y cc0 nL0 none n) (hd0 : d0 < d) (hnL : nL0 ≤ 21) (hA : As.length = n) (hsti : sti = As.reverse ++ st) (hr : (st.map fun v => v.category).sum ≤ 8) (hd : decode cc pc = .ok (.invokestatic idx, 3)) (hq : pc + 3 = q) (k : ∀ (M1 : Mem), post M1 → KW p l e R s m args below meth c g nL Q M1 q lo st) : KW p l e R s m args below meth c g nL Q M pc lo sti := by
  subst hq; subst hsti
  intro H locs ls hP hS hl
  have hR := C.2.2.2.2.2.2.2.2.2.2.2
  subst hR
  have hrun := va_runSN (e := e) (locs := locs) (cells := 0) (slots := 0) (g := F0 m pc ls (As.reverse ++ st)) (As := As) (rest := st) (below := below) (meth := meth) (H := H) (p := p) (c := c) ⟨C.1, C.2.1, C.2.2.1, C.2.2.2.1, C.2.2.2.2.1⟩ hM ⟨va_cnB n C.2.2.2.2.1 (wA_good hm.1) rfl rfl rfl (C.2.2.2.2.2.2.2.1 _ hlink) (C.2.2.2.2.1 _ hm.2.1) ⟨hm.2.2.1, hm.2.2.2.1, hm.2.2.2.2⟩ (rm_ok hd0 hnL), C.2.2.2.2.1 _ hs0, trivial⟩ ⟨Wd_blind, fun U hU hW => ⟨rfl, Wd_of C hP hS U hU hW⟩⟩ rfl hA hl.1 rfl (lv_room hr) hd ⟨Nat.le_refl 0, Nat.le_refl 0⟩
  intro T hT X
  obtain ⟨v, st₀, t, T', L, h0, X', hL, e1, e2, ⟨⟨M1, hv, hp, hb⟩, hz, hk⟩, stp⟩ := hrun T hT X
  cases hv
  rw [h0] at hz hk
  obtain ⟨t2, a1, b1⟩ := k M1 hp T'.heap (locs ++ L) ls (by rw [e1]; exact hb) ⟨Nat.le_trans hS.1 (by rw [e1]; exact hz), fun q h1 h2 => by rw [e1, hk q (Nat.lt_of_lt_of_le h1 hS.1) h2]; exact hS.2.1 q h1 h2, fun q hq => by
      rcases List.mem_append.mp hq with h | h
      · exact hS.2.2 q h
      · exact hL q h⟩ hl T' rfl X'
  exact ⟨t2, stp t2 a1, b1⟩
theorem k_ret {post : Int32 → Mem → Prop} {ty : FieldType} {v : Int32} (C : Cx p R s m args meth c g own cc nL (some ty) d) (hn : narrow ty (.int v) = .int v) (hd : decode cc pc = .ok (.ireturn, 1)) (hp : post v M) : KW p l e R s m args below meth c g nL (MQ below (kQI g post) args s 0 0 (gA g)) M pc lo [.int v] :=
  fun H locs ls hP hS hl => W.zret C.1 C.2.1 C.2.2.2.2.2.2.2.2.2.2.1 hn (fun t ht hW => ⟨⟨v, M, rfl, hp, by rw [ht]; exact hP⟩, hS.F ht⟩) hS.2.2 hd C.2.2.2.2.2.2.2.2.2.1
theorem k_vret {post : Mem → Prop} (C : Cx p R s m args meth c g own cc nL none d) (hd : decode cc pc = .ok (.return_, 1)) (hp : post M) : KW p l e R s m args below meth c g nL (MQ below (kQV g post) args s 0 0 (gA g)) M pc lo [] :=
  fun H locs ls hP hS hl => W.vret C.1 C.2.1 C.2.2.2.2.2.2.2.2.2.2.1 (fun t ht hW => ⟨⟨M, rfl, hp, by rw [ht]; exact hP⟩, hS.F ht⟩) hS.2.2 hd C.2.2.2.2.2.2.2.2.2.1
end KW
theorem ctrI_of {l : Launch} {g : GT} {y : MethodName} {cc : ByteArray} {nL d : Nat} {ret : Option FieldType} {av : List Value} {M : Mem} {post : Int32 → Mem → Prop} (hy : plainName y.cls = true) (hlen : (lg_sl av).length ≤ nL)
    (body : ∀ (p : Program) (e : Env) (R : Room) (s : State) (m : MethodId) (args : Array Value) (below : List Frame) (meth : Method) (c : Code), Cx p R s m args meth c g y.cls cc nL ret d → KW p l e R s m args below meth c g nL (MQ below (kQI g post) args s 0 0 (gA g)) M 0 (lv_args 0 av) []) : CtrI l g y cc nL ret d av M post := by
  refine Met.ofW (cc := cc) (maxL := nL) (ret := ret) hy rfl ?_
  intro p e s m args below meth c s₁ B hml hv
  obtain ⟨rfl, hP, hK, hD, hN, hZ⟩ := hv
  have hl := lv_entry av (n := nL) hlen
  rw [lg_entry_eq]
  exact body p e _ s m _ below meth c ⟨B.exec, B.bytes, hml, findClass_of_methodNamed B.named, fun w hw => atoms_spec (ws := .code y cc nL ret :: wA) B.pre w (List.mem_cons_of_mem _ hw), hK, fun M' => wl_D g M M' hD, hN, hZ, B.notSynchronized, B.returns, rfl⟩ s.heap [] _ hP va_S.rf hl
theorem ctrV_of {l : Launch} {g : GT} {y : MethodName} {cc : ByteArray} {nL d : Nat} {av : List Value} {M : Mem} {post : Mem → Prop} (hy : plainName y.cls = true) (hlen : (lg_sl av).length ≤ nL)
    (body : ∀ (p : Program) (e : Env) (R : Room) (s : State) (m : MethodId) (args : Array Value) (below : List Frame) (meth : Method) (c : Code), Cx p R s m args meth c g y.cls cc nL none d → KW p l e R s m args below meth c g nL (MQ below (kQV g post) args s 0 0 (gA g)) M 0 (lv_args 0 av) []) : CtrV l g y cc nL d av M post := by
  refine Met.ofW (cc := cc) (maxL := nL) (ret := none) hy rfl ?_
  intro p e s m args below meth c s₁ B hml hv
  obtain ⟨rfl, hP, hK, hD, hN, hZ⟩ := hv
  have hl := lv_entry av (n := nL) hlen
  rw [lg_entry_eq]
  exact body p e _ s m _ below meth c ⟨B.exec, B.bytes, hml, findClass_of_methodNamed B.named, fun w hw => atoms_spec (ws := .code y cc nL none :: wA) B.pre w (List.mem_cons_of_mem _ hw), hK, fun M' => wl_D g M M' hD, hN, hZ, B.notSynchronized, B.returns, rfl⟩ s.heap [] _ hP va_S.rf hl
end
