section
/-- a private method of a class that the tables say can be made, by its rows of tables_1 -/
def lw_okq (q : MethodName × Nat) : Prop := (q.1.cls ≠ "java/lang/invoke/MethodHandle" ∧ q.1.cls ≠ "java/lang/invoke/VarHandle") ∧ Cond.instantiable q.1.cls q.2 ∈ tables_1 ∧ Cond.privateMethod q.1 ∈ tables_1 ∧ Cond.instanceMethod q.1 ∈ tables_1
theorem lw_p0 : lw_okq (⟨"LoseLeague$TextReader", "readToken", "()Z"⟩, 7) := ⟨⟨by decide +kernel, by decide +kernel⟩, List.mem_of_getElem? (i := 24) (by decide +kernel), List.mem_of_getElem? (i := 235) (by decide +kernel), List.mem_of_getElem? (i := 236) (by decide +kernel)⟩
theorem lw_p1 : lw_okq (⟨"LoseLeague$TextReader", "takeName", "()Z"⟩, 7) := ⟨⟨by decide +kernel, by decide +kernel⟩, List.mem_of_getElem? (i := 24) (by decide +kernel), List.mem_of_getElem? (i := 246) (by decide +kernel), List.mem_of_getElem? (i := 247) (by decide +kernel)⟩
theorem lw_p2 : lw_okq (⟨"LoseLeague$TextReader", "takeNumber", "()Z"⟩, 7) := ⟨⟨by decide +kernel, by decide +kernel⟩, List.mem_of_getElem? (i := 24) (by decide +kernel), List.mem_of_getElem? (i := 253) (by decide +kernel), List.mem_of_getElem? (i := 254) (by decide +kernel)⟩
theorem lw_p3 : lw_okq (⟨"LoseLeague$TextReader", "refuse", "(I)Z"⟩, 7) := ⟨⟨by decide +kernel, by decide +kernel⟩, List.mem_of_getElem? (i := 24) (by decide +kernel), List.mem_of_getElem? (i := 257) (by decide +kernel), List.mem_of_getElem? (i := 258) (by decide +kernel)⟩
theorem lw_p4 : lw_okq (⟨"LoseLeague$TextReader", "readLine", "(LLoseLeague$League;)Z"⟩, 7) := ⟨⟨by decide +kernel, by decide +kernel⟩, List.mem_of_getElem? (i := 24) (by decide +kernel), List.mem_of_getElem? (i := 273) (by decide +kernel), List.mem_of_getElem? (i := 274) (by decide +kernel)⟩
theorem lw_p5 : lw_okq (⟨"LoseLeague$TextReader", "wordRead", "()I"⟩, 7) := ⟨⟨by decide +kernel, by decide +kernel⟩, List.mem_of_getElem? (i := 24) (by decide +kernel), List.mem_of_getElem? (i := 277) (by decide +kernel), List.mem_of_getElem? (i := 278) (by decide +kernel)⟩
theorem lw_p6 : lw_okq (⟨"LoseLeague$TextReader", "spells", "(Ljava/lang/String;)Z"⟩, 7) := ⟨⟨by decide +kernel, by decide +kernel⟩, List.mem_of_getElem? (i := 24) (by decide +kernel), List.mem_of_getElem? (i := 282) (by decide +kernel), List.mem_of_getElem? (i := 283) (by decide +kernel)⟩
theorem lw_p7 : lw_okq (⟨"LoseLeague$TextReader", "readGame", "(LLoseLeague$League;)Z"⟩, 7) := ⟨⟨by decide +kernel, by decide +kernel⟩, List.mem_of_getElem? (i := 24) (by decide +kernel), List.mem_of_getElem? (i := 338) (by decide +kernel), List.mem_of_getElem? (i := 339) (by decide +kernel)⟩
theorem lw_p8 : lw_okq (⟨"LoseLeague$TextReader", "readNumber", "(I)Z"⟩, 7) := ⟨⟨by decide +kernel, by decide +kernel⟩, List.mem_of_getElem? (i := 24) (by decide +kernel), List.mem_of_getElem? (i := 346) (by decide +kernel), List.mem_of_getElem? (i := 347) (by decide +kernel)⟩
theorem lw_p9 : lw_okq (⟨"LoseLeague$TextReader", "readSign", "()Z"⟩, 7) := ⟨⟨by decide +kernel, by decide +kernel⟩, List.mem_of_getElem? (i := 24) (by decide +kernel), List.mem_of_getElem? (i := 350) (by decide +kernel), List.mem_of_getElem? (i := 351) (by decide +kernel)⟩
theorem lw_p10 : lw_okq (⟨"LoseLeague$TextReader", "readTown", "(LLoseLeague$League;I)Z"⟩, 7) := ⟨⟨by decide +kernel, by decide +kernel⟩, List.mem_of_getElem? (i := 24) (by decide +kernel), List.mem_of_getElem? (i := 359) (by decide +kernel), List.mem_of_getElem? (i := 360) (by decide +kernel)⟩
theorem lw_p11 : lw_okq (⟨"LoseLeague$League", "playsWise", "(I)I"⟩, 9) := ⟨⟨by decide +kernel, by decide +kernel⟩, List.mem_of_getElem? (i := 71) (by decide +kernel), List.mem_of_getElem? (i := 409) (by decide +kernel), List.mem_of_getElem? (i := 410) (by decide +kernel)⟩
theorem lw_p12 : lw_okq (⟨"LoseLeague$League", "play", "(II)I"⟩, 9) := ⟨⟨by decide +kernel, by decide +kernel⟩, List.mem_of_getElem? (i := 71) (by decide +kernel), List.mem_of_getElem? (i := 475) (by decide +kernel), List.mem_of_getElem? (i := 476) (by decide +kernel)⟩
theorem lw_p13 : lw_okq (⟨"LoseLeague$League", "trainsNow", "(I)I"⟩, 9) := ⟨⟨by decide +kernel, by decide +kernel⟩, List.mem_of_getElem? (i := 71) (by decide +kernel), List.mem_of_getElem? (i := 483) (by decide +kernel), List.mem_of_getElem? (i := 484) (by decide +kernel)⟩
theorem lw_p14 : lw_okq (⟨"LoseLeague$League", "passWeek", "()V"⟩, 9) := ⟨⟨by decide +kernel, by decide +kernel⟩, List.mem_of_getElem? (i := 71) (by decide +kernel), List.mem_of_getElem? (i := 487) (by decide +kernel), List.mem_of_getElem? (i := 488) (by decide +kernel)⟩
theorem lw_p15 : lw_okq (⟨"LoseLeague$League", "closeYear", "()V"⟩, 9) := ⟨⟨by decide +kernel, by decide +kernel⟩, List.mem_of_getElem? (i := 71) (by decide +kernel), List.mem_of_getElem? (i := 491) (by decide +kernel), List.mem_of_getElem? (i := 492) (by decide +kernel)⟩
def lw_privs_1 : List (MethodName × Nat) := [(⟨"LoseLeague$TextReader", "readToken", "()Z"⟩, 7), (⟨"LoseLeague$TextReader", "takeName", "()Z"⟩, 7), (⟨"LoseLeague$TextReader", "takeNumber", "()Z"⟩, 7), (⟨"LoseLeague$TextReader", "refuse", "(I)Z"⟩, 7), (⟨"LoseLeague$TextReader", "readLine", "(LLoseLeague$League;)Z"⟩, 7), (⟨"LoseLeague$TextReader", "wordRead", "()I"⟩, 7), (⟨"LoseLeague$TextReader", "spells", "(Ljava/lang/String;)Z"⟩, 7), (⟨"LoseLeague$TextReader", "readGame", "(LLoseLeague$League;)Z"⟩, 7), (⟨"LoseLeague$TextReader", "readNumber", "(I)Z"⟩, 7), (⟨"LoseLeague$TextReader", "readSign", "()Z"⟩, 7), (⟨"LoseLeague$TextReader", "readTown", "(LLoseLeague$League;I)Z"⟩, 7), (⟨"LoseLeague$League", "playsWise", "(I)I"⟩, 9), (⟨"LoseLeague$League", "play", "(II)I"⟩, 9), (⟨"LoseLeague$League", "trainsNow", "(I)I"⟩, 9), (⟨"LoseLeague$League", "passWeek", "()V"⟩, 9), (⟨"LoseLeague$League", "closeYear", "()V"⟩, 9)]
theorem lw_r1 : ∀ q ∈ lw_privs_1, lw_okq q := List.forall_mem_cons.mpr ⟨lw_p0, List.forall_mem_cons.mpr ⟨lw_p1, List.forall_mem_cons.mpr ⟨lw_p2, List.forall_mem_cons.mpr ⟨lw_p3, List.forall_mem_cons.mpr ⟨lw_p4, List.forall_mem_cons.mpr ⟨lw_p5, List.forall_mem_cons.mpr ⟨lw_p6, List.forall_mem_cons.mpr ⟨lw_p7, List.forall_mem_cons.mpr ⟨lw_p8, List.forall_mem_cons.mpr ⟨lw_p9, List.forall_mem_cons.mpr ⟨lw_p10, List.forall_mem_cons.mpr ⟨lw_p11, List.forall_mem_cons.mpr ⟨lw_p12, List.forall_mem_cons.mpr ⟨lw_p13, List.forall_mem_cons.mpr ⟨lw_p14, List.forall_mem_cons.mpr ⟨lw_p15, fun _ h => absurd h List.not_mem_nil⟩⟩⟩⟩⟩⟩⟩⟩⟩⟩⟩⟩⟩⟩⟩⟩
theorem lw_p16 : lw_okq (⟨"LoseLeague", "findBestOrder", "()V"⟩, 13) := ⟨⟨by decide +kernel, by decide +kernel⟩, List.mem_of_getElem? (i := 16) (by decide +kernel), List.mem_of_getElem? (i := 520) (by decide +kernel), List.mem_of_getElem? (i := 521) (by decide +kernel)⟩
theorem lw_p17 : lw_okq (⟨"LoseLeague", "setRow", "(I)V"⟩, 13) := ⟨⟨by decide +kernel, by decide +kernel⟩, List.mem_of_getElem? (i := 16) (by decide +kernel), List.mem_of_getElem? (i := 531) (by decide +kernel), List.mem_of_getElem? (i := 532) (by decide +kernel)⟩
theorem lw_p18 : lw_okq (⟨"LoseLeague", "owedAsItIs", "(I)I"⟩, 13) := ⟨⟨by decide +kernel, by decide +kernel⟩, List.mem_of_getElem? (i := 16) (by decide +kernel), List.mem_of_getElem? (i := 552) (by decide +kernel), List.mem_of_getElem? (i := 553) (by decide +kernel)⟩
theorem lw_p19 : lw_okq (⟨"LoseLeague", "tryStrength", "(II)V"⟩, 13) := ⟨⟨by decide +kernel, by decide +kernel⟩, List.mem_of_getElem? (i := 16) (by decide +kernel), List.mem_of_getElem? (i := 576) (by decide +kernel), List.mem_of_getElem? (i := 577) (by decide +kernel)⟩
theorem lw_p20 : lw_okq (⟨"LoseLeague", "tryKind", "(II)V"⟩, 13) := ⟨⟨by decide +kernel, by decide +kernel⟩, List.mem_of_getElem? (i := 16) (by decide +kernel), List.mem_of_getElem? (i := 584) (by decide +kernel), List.mem_of_getElem? (i := 585) (by decide +kernel)⟩
theorem lw_p21 : lw_okq (⟨"LoseLeague", "losesInRain", "(III)Z"⟩, 13) := ⟨⟨by decide +kernel, by decide +kernel⟩, List.mem_of_getElem? (i := 16) (by decide +kernel), List.mem_of_getElem? (i := 593) (by decide +kernel), List.mem_of_getElem? (i := 594) (by decide +kernel)⟩
theorem lw_p22 : lw_okq (⟨"LoseLeague$Sights", "fitsWeek", "(II)Z"⟩, 3) := ⟨⟨by decide +kernel, by decide +kernel⟩, List.mem_of_getElem? (i := 118) (by decide +kernel), List.mem_of_getElem? (i := 643) (by decide +kernel), List.mem_of_getElem? (i := 644) (by decide +kernel)⟩
theorem lw_p23 : lw_okq (⟨"LoseLeague", "strengthsAsSeen", "(I)I"⟩, 13) := ⟨⟨by decide +kernel, by decide +kernel⟩, List.mem_of_getElem? (i := 16) (by decide +kernel), List.mem_of_getElem? (i := 651) (by decide +kernel), List.mem_of_getElem? (i := 652) (by decide +kernel)⟩
theorem lw_p24 : lw_okq (⟨"LoseLeague", "noteOutcomes", "(I)V"⟩, 13) := ⟨⟨by decide +kernel, by decide +kernel⟩, List.mem_of_getElem? (i := 16) (by decide +kernel), List.mem_of_getElem? (i := 659) (by decide +kernel), List.mem_of_getElem? (i := 660) (by decide +kernel)⟩
theorem lw_p25 : lw_okq (⟨"LoseLeague", "leftAtWorst", "(II)I"⟩, 13) := ⟨⟨by decide +kernel, by decide +kernel⟩, List.mem_of_getElem? (i := 16) (by decide +kernel), List.mem_of_getElem? (i := 663) (by decide +kernel), List.mem_of_getElem? (i := 664) (by decide +kernel)⟩
theorem lw_p26 : lw_okq (⟨"LoseLeagueModel", "step", "()V"⟩, 29) := ⟨⟨by decide +kernel, by decide +kernel⟩, List.mem_of_getElem? (i := 728) (by decide +kernel), List.mem_of_getElem? (i := 838) (by decide +kernel), List.mem_of_getElem? (i := 839) (by decide +kernel)⟩
theorem lw_p27 : lw_okq (⟨"LoseLeagueModel", "byteAt", "(I)I"⟩, 29) := ⟨⟨by decide +kernel, by decide +kernel⟩, List.mem_of_getElem? (i := 728) (by decide +kernel), List.mem_of_getElem? (i := 842) (by decide +kernel), List.mem_of_getElem? (i := 843) (by decide +kernel)⟩
theorem lw_p28 : lw_okq (⟨"LoseLeagueModel", "fails", "(I)V"⟩, 29) := ⟨⟨by decide +kernel, by decide +kernel⟩, List.mem_of_getElem? (i := 728) (by decide +kernel), List.mem_of_getElem? (i := 850) (by decide +kernel), List.mem_of_getElem? (i := 851) (by decide +kernel)⟩
theorem lw_p29 : lw_okq (⟨"LoseLeagueModel", "readLine", "()V"⟩, 29) := ⟨⟨by decide +kernel, by decide +kernel⟩, List.mem_of_getElem? (i := 728) (by decide +kernel), List.mem_of_getElem? (i := 854) (by decide +kernel), List.mem_of_getElem? (i := 855) (by decide +kernel)⟩
theorem lw_p30 : lw_okq (⟨"LoseLeagueModel", "nameHere", "()I"⟩, 29) := ⟨⟨by decide +kernel, by decide +kernel⟩, List.mem_of_getElem? (i := 728) (by decide +kernel), List.mem_of_getElem? (i := 858) (by decide +kernel), List.mem_of_getElem? (i := 859) (by decide +kernel)⟩
theorem lw_p31 : lw_okq (⟨"LoseLeagueModel", "readMore", "(I)V"⟩, 29) := ⟨⟨by decide +kernel, by decide +kernel⟩, List.mem_of_getElem? (i := 728) (by decide +kernel), List.mem_of_getElem? (i := 863) (by decide +kernel), List.mem_of_getElem? (i := 864) (by decide +kernel)⟩
def lw_privs_2 : List (MethodName × Nat) := [(⟨"LoseLeague", "findBestOrder", "()V"⟩, 13), (⟨"LoseLeague", "setRow", "(I)V"⟩, 13), (⟨"LoseLeague", "owedAsItIs", "(I)I"⟩, 13), (⟨"LoseLeague", "tryStrength", "(II)V"⟩, 13), (⟨"LoseLeague", "tryKind", "(II)V"⟩, 13), (⟨"LoseLeague", "losesInRain", "(III)Z"⟩, 13), (⟨"LoseLeague$Sights", "fitsWeek", "(II)Z"⟩, 3), (⟨"LoseLeague", "strengthsAsSeen", "(I)I"⟩, 13), (⟨"LoseLeague", "noteOutcomes", "(I)V"⟩, 13), (⟨"LoseLeague", "leftAtWorst", "(II)I"⟩, 13), (⟨"LoseLeagueModel", "step", "()V"⟩, 29), (⟨"LoseLeagueModel", "byteAt", "(I)I"⟩, 29), (⟨"LoseLeagueModel", "fails", "(I)V"⟩, 29), (⟨"LoseLeagueModel", "readLine", "()V"⟩, 29), (⟨"LoseLeagueModel", "nameHere", "()I"⟩, 29), (⟨"LoseLeagueModel", "readMore", "(I)V"⟩, 29)]
theorem lw_r2 : ∀ q ∈ lw_privs_2, lw_okq q := List.forall_mem_cons.mpr ⟨lw_p16, List.forall_mem_cons.mpr ⟨lw_p17, List.forall_mem_cons.mpr ⟨lw_p18, List.forall_mem_cons.mpr ⟨lw_p19, List.forall_mem_cons.mpr ⟨lw_p20, List.forall_mem_cons.mpr ⟨lw_p21, List.forall_mem_cons.mpr ⟨lw_p22, List.forall_mem_cons.mpr ⟨lw_p23, List.forall_mem_cons.mpr ⟨lw_p24, List.forall_mem_cons.mpr ⟨lw_p25, List.forall_mem_cons.mpr ⟨lw_p26, List.forall_mem_cons.mpr ⟨lw_p27, List.forall_mem_cons.mpr ⟨lw_p28, List.forall_mem_cons.mpr ⟨lw_p29, List.forall_mem_cons.mpr ⟨lw_p30, List.forall_mem_cons.mpr ⟨lw_p31, fun _ h => absurd h List.not_mem_nil⟩⟩⟩⟩⟩⟩⟩⟩⟩⟩⟩⟩⟩⟩⟩⟩
theorem lw_p32 : lw_okq (⟨"LoseLeagueModel", "number", "(II)I"⟩, 29) := ⟨⟨by decide +kernel, by decide +kernel⟩, List.mem_of_getElem? (i := 728) (by decide +kernel), List.mem_of_getElem? (i := 867) (by decide +kernel), List.mem_of_getElem? (i := 868) (by decide +kernel)⟩
theorem lw_p33 : lw_okq (⟨"LoseLeagueModel", "townHere", "()I"⟩, 29) := ⟨⟨by decide +kernel, by decide +kernel⟩, List.mem_of_getElem? (i := 728) (by decide +kernel), List.mem_of_getElem? (i := 871) (by decide +kernel), List.mem_of_getElem? (i := 872) (by decide +kernel)⟩
theorem lw_p34 : lw_okq (⟨"LoseLeagueModel", "placeOn", "(I)I"⟩, 29) := ⟨⟨by decide +kernel, by decide +kernel⟩, List.mem_of_getElem? (i := 728) (by decide +kernel), List.mem_of_getElem? (i := 883) (by decide +kernel), List.mem_of_getElem? (i := 884) (by decide +kernel)⟩
theorem lw_p35 : lw_okq (⟨"LoseLeagueModel", "losersOn", "(I)I"⟩, 29) := ⟨⟨by decide +kernel, by decide +kernel⟩, List.mem_of_getElem? (i := 728) (by decide +kernel), List.mem_of_getElem? (i := 887) (by decide +kernel), List.mem_of_getElem? (i := 888) (by decide +kernel)⟩
theorem lw_p36 : lw_okq (⟨"LoseLeagueModel", "owedOn", "(I)I"⟩, 29) := ⟨⟨by decide +kernel, by decide +kernel⟩, List.mem_of_getElem? (i := 728) (by decide +kernel), List.mem_of_getElem? (i := 891) (by decide +kernel), List.mem_of_getElem? (i := 892) (by decide +kernel)⟩
theorem lw_p37 : lw_okq (⟨"LoseLeagueModel", "isTown", "(I)Z"⟩, 29) := ⟨⟨by decide +kernel, by decide +kernel⟩, List.mem_of_getElem? (i := 728) (by decide +kernel), List.mem_of_getElem? (i := 899) (by decide +kernel), List.mem_of_getElem? (i := 900) (by decide +kernel)⟩
theorem lw_p38 : lw_okq (⟨"LoseLeagueModel", "playsOn", "(II)I"⟩, 29) := ⟨⟨by decide +kernel, by decide +kernel⟩, List.mem_of_getElem? (i := 728) (by decide +kernel), List.mem_of_getElem? (i := 903) (by decide +kernel), List.mem_of_getElem? (i := 904) (by decide +kernel)⟩
theorem lw_p39 : lw_okq (⟨"LoseLeagueModel", "isFixture", "(I)Z"⟩, 29) := ⟨⟨by decide +kernel, by decide +kernel⟩, List.mem_of_getElem? (i := 728) (by decide +kernel), List.mem_of_getElem? (i := 911) (by decide +kernel), List.mem_of_getElem? (i := 912) (by decide +kernel)⟩
theorem lw_p40 : lw_okq (⟨"LoseLeagueModel", "isPair", "(II)Z"⟩, 29) := ⟨⟨by decide +kernel, by decide +kernel⟩, List.mem_of_getElem? (i := 728) (by decide +kernel), List.mem_of_getElem? (i := 919) (by decide +kernel), List.mem_of_getElem? (i := 920) (by decide +kernel)⟩
theorem lw_p41 : lw_okq (⟨"LoseLeagueModel", "gameOn", "(III)I"⟩, 29) := ⟨⟨by decide +kernel, by decide +kernel⟩, List.mem_of_getElem? (i := 728) (by decide +kernel), List.mem_of_getElem? (i := 923) (by decide +kernel), List.mem_of_getElem? (i := 924) (by decide +kernel)⟩
theorem lw_p42 : lw_okq (⟨"LoseLeagueModel", "puts", "(ZII)I"⟩, 29) := ⟨⟨by decide +kernel, by decide +kernel⟩, List.mem_of_getElem? (i := 728) (by decide +kernel), List.mem_of_getElem? (i := 932) (by decide +kernel), List.mem_of_getElem? (i := 933) (by decide +kernel)⟩
theorem lw_p43 : lw_okq (⟨"LoseLeagueModel", "lendsOn", "(IIII)I"⟩, 29) := ⟨⟨by decide +kernel, by decide +kernel⟩, List.mem_of_getElem? (i := 728) (by decide +kernel), List.mem_of_getElem? (i := 941) (by decide +kernel), List.mem_of_getElem? (i := 942) (by decide +kernel)⟩
theorem lw_p44 : lw_okq (⟨"LoseLeagueModel", "books", "(II)I"⟩, 29) := ⟨⟨by decide +kernel, by decide +kernel⟩, List.mem_of_getElem? (i := 728) (by decide +kernel), List.mem_of_getElem? (i := 949) (by decide +kernel), List.mem_of_getElem? (i := 950) (by decide +kernel)⟩
theorem lw_p45 : lw_okq (⟨"LoseLeagueModel", "weekOn", "(IZ)V"⟩, 29) := ⟨⟨by decide +kernel, by decide +kernel⟩, List.mem_of_getElem? (i := 728) (by decide +kernel), List.mem_of_getElem? (i := 962) (by decide +kernel), List.mem_of_getElem? (i := 963) (by decide +kernel)⟩
theorem lw_p46 : lw_okq (⟨"LoseLeagueModel", "playedOn", "(III)V"⟩, 29) := ⟨⟨by decide +kernel, by decide +kernel⟩, List.mem_of_getElem? (i := 728) (by decide +kernel), List.mem_of_getElem? (i := 966) (by decide +kernel), List.mem_of_getElem? (i := 967) (by decide +kernel)⟩
theorem lw_p47 : lw_okq (⟨"LoseLeagueModel", "yearsEnd", "(I)V"⟩, 29) := ⟨⟨by decide +kernel, by decide +kernel⟩, List.mem_of_getElem? (i := 728) (by decide +kernel), List.mem_of_getElem? (i := 970) (by decide +kernel), List.mem_of_getElem? (i := 971) (by decide +kernel)⟩
def lw_privs_3 : List (MethodName × Nat) := [(⟨"LoseLeagueModel", "number", "(II)I"⟩, 29), (⟨"LoseLeagueModel", "townHere", "()I"⟩, 29), (⟨"LoseLeagueModel", "placeOn", "(I)I"⟩, 29), (⟨"LoseLeagueModel", "losersOn", "(I)I"⟩, 29), (⟨"LoseLeagueModel", "owedOn", "(I)I"⟩, 29), (⟨"LoseLeagueModel", "isTown", "(I)Z"⟩, 29), (⟨"LoseLeagueModel", "playsOn", "(II)I"⟩, 29), (⟨"LoseLeagueModel", "isFixture", "(I)Z"⟩, 29), (⟨"LoseLeagueModel", "isPair", "(II)Z"⟩, 29), (⟨"LoseLeagueModel", "gameOn", "(III)I"⟩, 29), (⟨"LoseLeagueModel", "puts", "(ZII)I"⟩, 29), (⟨"LoseLeagueModel", "lendsOn", "(IIII)I"⟩, 29), (⟨"LoseLeagueModel", "books", "(II)I"⟩, 29), (⟨"LoseLeagueModel", "weekOn", "(IZ)V"⟩, 29), (⟨"LoseLeagueModel", "playedOn", "(III)V"⟩, 29), (⟨"LoseLeagueModel", "yearsEnd", "(I)V"⟩, 29)]
theorem lw_r3 : ∀ q ∈ lw_privs_3, lw_okq q := List.forall_mem_cons.mpr ⟨lw_p32, List.forall_mem_cons.mpr ⟨lw_p33, List.forall_mem_cons.mpr ⟨lw_p34, List.forall_mem_cons.mpr ⟨lw_p35, List.forall_mem_cons.mpr ⟨lw_p36, List.forall_mem_cons.mpr ⟨lw_p37, List.forall_mem_cons.mpr ⟨lw_p38, List.forall_mem_cons.mpr ⟨lw_p39, List.forall_mem_cons.mpr ⟨lw_p40, List.forall_mem_cons.mpr ⟨lw_p41, List.forall_mem_cons.mpr ⟨lw_p42, List.forall_mem_cons.mpr ⟨lw_p43, List.forall_mem_cons.mpr ⟨lw_p44, List.forall_mem_cons.mpr ⟨lw_p45, List.forall_mem_cons.mpr ⟨lw_p46, List.forall_mem_cons.mpr ⟨lw_p47, fun _ h => absurd h List.not_mem_nil⟩⟩⟩⟩⟩⟩⟩⟩⟩⟩⟩⟩⟩⟩⟩⟩
theorem lw_p48 : lw_okq (⟨"LoseLeagueModel", "weeksGo", "(II)I"⟩, 29) := ⟨⟨by decide +kernel, by decide +kernel⟩, List.mem_of_getElem? (i := 728) (by decide +kernel), List.mem_of_getElem? (i := 979) (by decide +kernel), List.mem_of_getElem? (i := 980) (by decide +kernel)⟩
theorem lw_p49 : lw_okq (⟨"LoseLeagueModel", "copies", "(II)V"⟩, 29) := ⟨⟨by decide +kernel, by decide +kernel⟩, List.mem_of_getElem? (i := 728) (by decide +kernel), List.mem_of_getElem? (i := 983) (by decide +kernel), List.mem_of_getElem? (i := 984) (by decide +kernel)⟩
theorem lw_p50 : lw_okq (⟨"LoseLeagueModel", "firstLoss", "(III)I"⟩, 29) := ⟨⟨by decide +kernel, by decide +kernel⟩, List.mem_of_getElem? (i := 728) (by decide +kernel), List.mem_of_getElem? (i := 1000) (by decide +kernel), List.mem_of_getElem? (i := 1001) (by decide +kernel)⟩
theorem lw_p51 : lw_okq (⟨"LoseLeagueModel", "ordered", "(I)Z"⟩, 29) := ⟨⟨by decide +kernel, by decide +kernel⟩, List.mem_of_getElem? (i := 728) (by decide +kernel), List.mem_of_getElem? (i := 1011) (by decide +kernel), List.mem_of_getElem? (i := 1012) (by decide +kernel)⟩
theorem lw_p52 : lw_okq (⟨"LoseLeagueModel", "byRain", "(IIII)J"⟩, 29) := ⟨⟨by decide +kernel, by decide +kernel⟩, List.mem_of_getElem? (i := 728) (by decide +kernel), List.mem_of_getElem? (i := 1040) (by decide +kernel), List.mem_of_getElem? (i := 1041) (by decide +kernel)⟩
theorem lw_p53 : lw_okq (⟨"LoseLeagueModel", "numbersAt", "(II)I"⟩, 29) := ⟨⟨by decide +kernel, by decide +kernel⟩, List.mem_of_getElem? (i := 728) (by decide +kernel), List.mem_of_getElem? (i := 1064) (by decide +kernel), List.mem_of_getElem? (i := 1065) (by decide +kernel)⟩
theorem lw_p54 : lw_okq (⟨"LoseLeagueModel", "isAsSeen", "(I)Z"⟩, 29) := ⟨⟨by decide +kernel, by decide +kernel⟩, List.mem_of_getElem? (i := 728) (by decide +kernel), List.mem_of_getElem? (i := 1068) (by decide +kernel), List.mem_of_getElem? (i := 1069) (by decide +kernel)⟩
def lw_privs_4 : List (MethodName × Nat) := [(⟨"LoseLeagueModel", "weeksGo", "(II)I"⟩, 29), (⟨"LoseLeagueModel", "copies", "(II)V"⟩, 29), (⟨"LoseLeagueModel", "firstLoss", "(III)I"⟩, 29), (⟨"LoseLeagueModel", "ordered", "(I)Z"⟩, 29), (⟨"LoseLeagueModel", "byRain", "(IIII)J"⟩, 29), (⟨"LoseLeagueModel", "numbersAt", "(II)I"⟩, 29), (⟨"LoseLeagueModel", "isAsSeen", "(I)Z"⟩, 29)]
theorem lw_r4 : ∀ q ∈ lw_privs_4, lw_okq q := List.forall_mem_cons.mpr ⟨lw_p48, List.forall_mem_cons.mpr ⟨lw_p49, List.forall_mem_cons.mpr ⟨lw_p50, List.forall_mem_cons.mpr ⟨lw_p51, List.forall_mem_cons.mpr ⟨lw_p52, List.forall_mem_cons.mpr ⟨lw_p53, List.forall_mem_cons.mpr ⟨lw_p54, fun _ h => absurd h List.not_mem_nil⟩⟩⟩⟩⟩⟩⟩
def lw_privs : List (MethodName × Nat) := lw_privs_1 ++ (lw_privs_2 ++ (lw_privs_3 ++ (lw_privs_4)))
def lw_tbl : List Cond := k2_sels lw_privs ++ tables_1
theorem lw_privs_ok : ∀ q ∈ lw_privs, lw_okq q := by
  show ∀ q ∈ lw_privs_1 ++ (lw_privs_2 ++ (lw_privs_3 ++ (lw_privs_4))), lw_okq q
  exact List.forall_mem_append.mpr ⟨lw_r1, List.forall_mem_append.mpr ⟨lw_r2, List.forall_mem_append.mpr ⟨lw_r3, lw_r4⟩⟩⟩
def RX0 : String := "LoseLeague$Best"
def TX0 : u_T := fun k => match k with
  | 0 => ("LoseLeague$Best", "choice", "I", false)
  | _ => ("LoseLeague$Best", "least", "I", false)
def tyX0 : Nat → FieldType := fun k => match k with
  | 0 => .int
  | _ => .int
theorem nmX0 : ∀ a, a < 2 → ∀ b, b < 2 → a ≠ b → (TX0 a).2.1 ≠ (TX0 b).2.1 := by decide +kernel
theorem tyX0_ok : ∀ k, k < 2 → parseFieldDescriptor (TX0 k).2.2.1 = some (tyX0 k) := by decide +kernel
abbrev cX0_init : ByteArray := prog_2_method_1_code
def yX0_init : MethodName := ⟨RX0, "<init>", "()V"⟩
abbrev cX0_start : ByteArray := prog_2_method_2_code
def yX0_start : MethodName := ⟨RX0, "start", "(I)V"⟩
abbrev cX0_offer : ByteArray := prog_2_method_3_code
def yX0_offer : MethodName := ⟨RX0, "offer", "(II)V"⟩
abbrev cX0_answer : ByteArray := prog_2_method_4_code
def yX0_answer : MethodName := ⟨RX0, "answer", "(I)I"⟩
def RX1 : String := "LoseLeague$League"
def TX1 : u_T := fun k => match k with
  | 0 => ("LoseLeague$League", "kinds", "[I", true)
  | 1 => ("LoseLeague$League", "strengths", "[I", true)
  | 2 => ("LoseLeague$League", "losses", "[I", true)
  | 3 => ("LoseLeague$League", "owes", "[I", true)
  | 4 => ("LoseLeague$League", "firsts", "[I", true)
  | 5 => ("LoseLeague$League", "seconds", "[I", true)
  | 6 => ("LoseLeague$League", "towns", "I", false)
  | 7 => ("LoseLeague$League", "fixtures", "I", false)
  | _ => ("LoseLeague$League", "week", "I", false)
def tyX1 : Nat → FieldType := fun k => match k with
  | 0 => .array .int
  | 1 => .array .int
  | 2 => .array .int
  | 3 => .array .int
  | 4 => .array .int
  | 5 => .array .int
  | 6 => .int
  | 7 => .int
  | _ => .int
theorem nmX1 : ∀ a, a < 9 → ∀ b, b < 9 → a ≠ b → (TX1 a).2.1 ≠ (TX1 b).2.1 := by decide +kernel
theorem tyX1_ok : ∀ k, k < 9 → parseFieldDescriptor (TX1 k).2.2.1 = some (tyX1 k) := by decide +kernel
abbrev cX1_init : ByteArray := prog_3_method_1_code
def yX1_init : MethodName := ⟨RX1, "<init>", "()V"⟩
abbrev cX1_clear : ByteArray := prog_3_method_2_code
def yX1_clear : MethodName := ⟨RX1, "clear", "()V"⟩
abbrev cX1_become : ByteArray := prog_3_method_3_code
def yX1_become : MethodName := ⟨RX1, "become", "(LLoseLeague$League;)V"⟩
abbrev cX1_hasTown : ByteArray := prog_3_method_4_code
def yX1_hasTown : MethodName := ⟨RX1, "hasTown", "(I)Z"⟩
abbrev cX1_hasFixture : ByteArray := prog_3_method_5_code
def yX1_hasFixture : MethodName := ⟨RX1, "hasFixture", "(I)Z"⟩
abbrev cX1_hasPair : ByteArray := prog_3_method_6_code
def yX1_hasPair : MethodName := ⟨RX1, "hasPair", "(II)Z"⟩
abbrev cX1_isFullOfTowns : ByteArray := prog_3_method_7_code
def yX1_isFullOfTowns : MethodName := ⟨RX1, "isFullOfTowns", "()Z"⟩
abbrev cX1_isFullOfFixtures : ByteArray := prog_3_method_8_code
def yX1_isFullOfFixtures : MethodName := ⟨RX1, "isFullOfFixtures", "()Z"⟩
abbrev cX1_addTown : ByteArray := prog_3_method_9_code
def yX1_addTown : MethodName := ⟨RX1, "addTown", "(II)V"⟩
abbrev cX1_addFixture : ByteArray := prog_3_method_10_code
def yX1_addFixture : MethodName := ⟨RX1, "addFixture", "(II)I"⟩
abbrev cX1_addFixtureUnseen : ByteArray := prog_3_method_11_code
def yX1_addFixtureUnseen : MethodName := ⟨RX1, "addFixtureUnseen", "(II)I"⟩
abbrev cX1_lacksTown : ByteArray := prog_3_method_12_code
def yX1_lacksTown : MethodName := ⟨RX1, "lacksTown", "()Z"⟩
abbrev cX1_swapFixtures : ByteArray := prog_3_method_13_code
def yX1_swapFixtures : MethodName := ⟨RX1, "swapFixtures", "(II)V"⟩
abbrev cX1_moveStrength : ByteArray := prog_3_method_14_code
def yX1_moveStrength : MethodName := ⟨RX1, "moveStrength", "(III)I"⟩
abbrev cX1_playsNow : ByteArray := prog_3_method_15_code
def yX1_playsNow : MethodName := ⟨RX1, "playsNow", "(I)I"⟩
abbrev cX1_playsWise : ByteArray := prog_3_method_16_code
def yX1_playsWise : MethodName := ⟨RX1, "playsWise", "(I)I"⟩
abbrev cX1_trainsNow : ByteArray := prog_3_method_17_code
def yX1_trainsNow : MethodName := ⟨RX1, "trainsNow", "(I)I"⟩
abbrev cX1_weaker : ByteArray := prog_3_method_18_code
def yX1_weaker : MethodName := ⟨RX1, "weaker", "(II)I"⟩
abbrev cX1_play : ByteArray := prog_3_method_19_code
def yX1_play : MethodName := ⟨RX1, "play", "(II)I"⟩
abbrev cX1_fixtureNow : ByteArray := prog_3_method_20_code
def yX1_fixtureNow : MethodName := ⟨RX1, "fixtureNow", "()I"⟩
abbrev cX1_runWeek : ByteArray := prog_3_method_21_code
def yX1_runWeek : MethodName := ⟨RX1, "runWeek", "(Z)I"⟩
abbrev cX1_runWeekOf : ByteArray := prog_3_method_22_code
def yX1_runWeekOf : MethodName := ⟨RX1, "runWeekOf", "(II)I"⟩
abbrev cX1_passWeek : ByteArray := prog_3_method_23_code
def yX1_passWeek : MethodName := ⟨RX1, "passWeek", "()V"⟩
abbrev cX1_closeYear : ByteArray := prog_3_method_24_code
def yX1_closeYear : MethodName := ⟨RX1, "closeYear", "()V"⟩
abbrev cX1_runWeeks : ByteArray := prog_3_method_25_code
def yX1_runWeeks : MethodName := ⟨RX1, "runWeeks", "(I)I"⟩
abbrev cX1_owedBehind : ByteArray := prog_3_method_26_code
def yX1_owedBehind : MethodName := ⟨RX1, "owedBehind", "(I)I"⟩
abbrev cX1_firstLoss : ByteArray := prog_3_method_27_code
def yX1_firstLoss : MethodName := ⟨RX1, "firstLoss", "(II)I"⟩
abbrev cX1_owed : ByteArray := prog_3_method_28_code
def yX1_owed : MethodName := ⟨RX1, "owed", "()I"⟩
abbrev cX1_withLosses : ByteArray := prog_3_method_29_code
def yX1_withLosses : MethodName := ⟨RX1, "withLosses", "()I"⟩
abbrev cX1_sumOverTowns : ByteArray := prog_3_method_30_code
def yX1_sumOverTowns : MethodName := ⟨RX1, "sumOverTowns", "([I)I"⟩
def RX2 : String := "LoseLeague$Sheet"
def TX2 : u_T := fun k => match k with
  | 0 => ("LoseLeague$Sheet", "cells", "[I", true)
  | 1 => ("LoseLeague$Sheet", "lane", "I", false)
  | _ => ("LoseLeague$Sheet", "size", "I", false)
def tyX2 : Nat → FieldType := fun k => match k with
  | 0 => .array .int
  | 1 => .int
  | _ => .int
theorem nmX2 : ∀ a, a < 3 → ∀ b, b < 3 → a ≠ b → (TX2 a).2.1 ≠ (TX2 b).2.1 := by decide +kernel
theorem tyX2_ok : ∀ k, k < 3 → parseFieldDescriptor (TX2 k).2.2.1 = some (tyX2 k) := by decide +kernel
abbrev cX2_init : ByteArray := prog_4_method_1_code
def yX2_init : MethodName := ⟨RX2, "<init>", "()V"⟩
abbrev cX2_isThere : ByteArray := prog_4_method_2_code
def yX2_isThere : MethodName := ⟨RX2, "isThere", "()Z"⟩
abbrev cX2_hasCell : ByteArray := prog_4_method_3_code
def yX2_hasCell : MethodName := ⟨RX2, "hasCell", "(I)Z"⟩
abbrev cX2_renew : ByteArray := prog_4_method_4_code
def yX2_renew : MethodName := ⟨RX2, "renew", "(II)V"⟩
abbrev cX2_put : ByteArray := prog_4_method_5_code
def yX2_put : MethodName := ⟨RX2, "put", "(II)V"⟩
abbrev cX2_pairFault : ByteArray := prog_4_method_6_code
def yX2_pairFault : MethodName := ⟨RX2, "pairFault", "(II)I"⟩
def RX3 : String := "LoseLeague$Sights"
def TX3 : u_T := fun k => match k with
  | 0 => ("LoseLeague$Sights", "weeks", "[I", true)
  | 1 => ("LoseLeague$Sights", "losers", "[I", true)
  | _ => ("LoseLeague$Sights", "size", "I", false)
def tyX3 : Nat → FieldType := fun k => match k with
  | 0 => .array .int
  | 1 => .array .int
  | _ => .int
theorem nmX3 : ∀ a, a < 3 → ∀ b, b < 3 → a ≠ b → (TX3 a).2.1 ≠ (TX3 b).2.1 := by decide +kernel
theorem tyX3_ok : ∀ k, k < 3 → parseFieldDescriptor (TX3 k).2.2.1 = some (tyX3 k) := by decide +kernel
abbrev cX3_init : ByteArray := prog_5_method_1_code
def yX3_init : MethodName := ⟨RX3, "<init>", "()V"⟩
abbrev cX3_add : ByteArray := prog_5_method_2_code
def yX3_add : MethodName := ⟨RX3, "add", "(II)Z"⟩
abbrev cX3_fit : ByteArray := prog_5_method_3_code
def yX3_fit : MethodName := ⟨RX3, "fit", "(LLoseLeague$League;)Z"⟩
abbrev cX3_fitsWeek : ByteArray := prog_5_method_4_code
def yX3_fitsWeek : MethodName := ⟨RX3, "fitsWeek", "(II)Z"⟩
def RX4 : String := "LoseLeague$Tape"
def TX4 : u_T := fun k => match k with
  | 0 => ("LoseLeague$Tape", "bytes", "[B", true)
  | _ => ("LoseLeague$Tape", "length", "I", false)
def tyX4 : Nat → FieldType := fun k => match k with
  | 0 => .array .byte
  | _ => .int
theorem nmX4 : ∀ a, a < 2 → ∀ b, b < 2 → a ≠ b → (TX4 a).2.1 ≠ (TX4 b).2.1 := by decide +kernel
theorem tyX4_ok : ∀ k, k < 2 → parseFieldDescriptor (TX4 k).2.2.1 = some (tyX4 k) := by decide +kernel
abbrev cX4_init : ByteArray := prog_6_method_1_code
def yX4_init : MethodName := ⟨RX4, "<init>", "()V"⟩
abbrev cX4_append : ByteArray := prog_6_method_2_code
def yX4_append : MethodName := ⟨RX4, "append", "(I)Z"⟩
abbrev cX4_byteAt : ByteArray := prog_6_method_3_code
def yX4_byteAt : MethodName := ⟨RX4, "byteAt", "(I)I"⟩
def RX5 : String := "LoseLeague$TextReader"
def TX5 : u_T := fun k => match k with
  | 0 => ("LoseLeague$TextReader", "tape", "LLoseLeague$Tape;", true)
  | 1 => ("LoseLeague$TextReader", "position", "I", false)
  | 2 => ("LoseLeague$TextReader", "token", "I", false)
  | 3 => ("LoseLeague$TextReader", "start", "I", false)
  | 4 => ("LoseLeague$TextReader", "value", "I", false)
  | 5 => ("LoseLeague$TextReader", "fault", "I", false)
  | _ => ("LoseLeague$TextReader", "place", "I", false)
def tyX5 : Nat → FieldType := fun k => match k with
  | 0 => .object "LoseLeague$Tape"
  | 1 => .int
  | 2 => .int
  | 3 => .int
  | 4 => .int
  | 5 => .int
  | _ => .int
theorem nmX5 : ∀ a, a < 7 → ∀ b, b < 7 → a ≠ b → (TX5 a).2.1 ≠ (TX5 b).2.1 := by decide +kernel
theorem tyX5_ok : ∀ k, k < 7 → parseFieldDescriptor (TX5 k).2.2.1 = some (tyX5 k) := by decide +kernel
abbrev cX5_init : ByteArray := prog_7_method_1_code
def yX5_init : MethodName := ⟨RX5, "<init>", "()V"⟩
abbrev cX5_readAll : ByteArray := prog_7_method_2_code
def yX5_readAll : MethodName := ⟨RX5, "readAll", "(LLoseLeague$League;)I"⟩
abbrev cX5_readLine : ByteArray := prog_7_method_3_code
def yX5_readLine : MethodName := ⟨RX5, "readLine", "(LLoseLeague$League;)Z"⟩
abbrev cX5_readTown : ByteArray := prog_7_method_4_code
def yX5_readTown : MethodName := ⟨RX5, "readTown", "(LLoseLeague$League;I)Z"⟩
abbrev cX5_readGame : ByteArray := prog_7_method_5_code
def yX5_readGame : MethodName := ⟨RX5, "readGame", "(LLoseLeague$League;)Z"⟩
abbrev cX5_readNumber : ByteArray := prog_7_method_6_code
def yX5_readNumber : MethodName := ⟨RX5, "readNumber", "(I)Z"⟩
abbrev cX5_readSign : ByteArray := prog_7_method_7_code
def yX5_readSign : MethodName := ⟨RX5, "readSign", "()Z"⟩
abbrev cX5_readToken : ByteArray := prog_7_method_8_code
def yX5_readToken : MethodName := ⟨RX5, "readToken", "()Z"⟩
abbrev cX5_takeName : ByteArray := prog_7_method_9_code
def yX5_takeName : MethodName := ⟨RX5, "takeName", "()Z"⟩
abbrev cX5_takeNumber : ByteArray := prog_7_method_10_code
def yX5_takeNumber : MethodName := ⟨RX5, "takeNumber", "()Z"⟩
abbrev cX5_isLetter : ByteArray := prog_7_method_11_code
def yX5_isLetter : MethodName := ⟨RX5, "isLetter", "(I)Z"⟩
abbrev cX5_isFigure : ByteArray := prog_7_method_12_code
def yX5_isFigure : MethodName := ⟨RX5, "isFigure", "(I)Z"⟩
abbrev cX5_wordRead : ByteArray := prog_7_method_13_code
def yX5_wordRead : MethodName := ⟨RX5, "wordRead", "()I"⟩
abbrev cX5_spells : ByteArray := prog_7_method_14_code
def yX5_spells : MethodName := ⟨RX5, "spells", "(Ljava/lang/String;)Z"⟩
abbrev cX5_refuse : ByteArray := prog_7_method_15_code
def yX5_refuse : MethodName := ⟨RX5, "refuse", "(I)Z"⟩
def RX6 : String := "LoseLeague"
def TX6 : u_T := fun k => match k with
  | 0 => ("LoseLeague", "reader", "LLoseLeague$TextReader;", true)
  | 1 => ("LoseLeague", "tape", "LLoseLeague$Tape;", true)
  | 2 => ("LoseLeague", "league", "LLoseLeague$League;", true)
  | 3 => ("LoseLeague", "trial", "LLoseLeague$League;", true)
  | 4 => ("LoseLeague", "images", "[LLoseLeague$League;", true)
  | 5 => ("LoseLeague", "kept", "[Z", true)
  | 6 => ("LoseLeague", "sheets", "[LLoseLeague$Sheet;", true)
  | 7 => ("LoseLeague", "sights", "LLoseLeague$Sights;", true)
  | 8 => ("LoseLeague", "best", "LLoseLeague$Best;", true)
  | 9 => ("LoseLeague", "row", "[I", true)
  | 10 => ("LoseLeague", "outcomes", "[I", true)
  | 11 => ("LoseLeague", "tally", "[I", true)
  | _ => ("LoseLeague", "tornFault", "I", false)
def tyX6 : Nat → FieldType := fun k => match k with
  | 0 => .object "LoseLeague$TextReader"
  | 1 => .object "LoseLeague$Tape"
  | 2 => .object "LoseLeague$League"
  | 3 => .object "LoseLeague$League"
  | 4 => .array (.object "LoseLeague$League")
  | 5 => .array .boolean
  | 6 => .array (.object "LoseLeague$Sheet")
  | 7 => .object "LoseLeague$Sights"
  | 8 => .object "LoseLeague$Best"
  | 9 => .array .int
  | 10 => .array .int
  | 11 => .array .int
  | _ => .int
theorem nmX6 : ∀ a, a < 13 → ∀ b, b < 13 → a ≠ b → (TX6 a).2.1 ≠ (TX6 b).2.1 := by decide +kernel
theorem tyX6_ok : ∀ k, k < 13 → parseFieldDescriptor (TX6 k).2.2.1 = some (tyX6 k) := by decide +kernel
abbrev cX6_init : ByteArray := prog_1_method_1_code
def yX6_init : MethodName := ⟨RX6, "<init>", "()V"⟩
abbrev cX6_feed : ByteArray := prog_1_method_2_code
def yX6_feed : MethodName := ⟨RX6, "feed", "(I)I"⟩
abbrev cX6_end : ByteArray := prog_1_method_3_code
def yX6_end : MethodName := ⟨RX6, "end", "(I)I"⟩
abbrev cX6_text : ByteArray := prog_1_method_4_code
def yX6_text : MethodName := ⟨RX6, "text", "()I"⟩
abbrev cX6_fault : ByteArray := prog_1_method_5_code
def yX6_fault : MethodName := ⟨RX6, "fault", "()I"⟩
abbrev cX6_rule : ByteArray := prog_1_method_6_code
def yX6_rule : MethodName := ⟨RX6, "rule", "(I)I"⟩
abbrev cX6_town : ByteArray := prog_1_method_7_code
def yX6_town : MethodName := ⟨RX6, "town", "(II)I"⟩
abbrev cX6_fixture : ByteArray := prog_1_method_8_code
def yX6_fixture : MethodName := ⟨RX6, "fixture", "(II)I"⟩
abbrev cX6_game : ByteArray := prog_1_method_9_code
def yX6_game : MethodName := ⟨RX6, "game", "(II)I"⟩
abbrev cX6_alter : ByteArray := prog_1_method_10_code
def yX6_alter : MethodName := ⟨RX6, "alter", "(III)I"⟩
abbrev cX6_replace : ByteArray := prog_1_method_11_code
def yX6_replace : MethodName := ⟨RX6, "replace", "([IIII)I"⟩
abbrev cX6_lend : ByteArray := prog_1_method_12_code
def yX6_lend : MethodName := ⟨RX6, "lend", "(III)I"⟩
abbrev cX6_book : ByteArray := prog_1_method_13_code
def yX6_book : MethodName := ⟨RX6, "book", "(II)I"⟩
abbrev cX6_strike : ByteArray := prog_1_method_14_code
def yX6_strike : MethodName := ⟨RX6, "strike", "(I)I"⟩
abbrev cX6_weeks : ByteArray := prog_1_method_15_code
def yX6_weeks : MethodName := ⟨RX6, "weeks", "(I)I"⟩
abbrev cX6_runs : ByteArray := prog_1_method_16_code
def yX6_runs : MethodName := ⟨RX6, "runs", "(II)I"⟩
abbrev cX6_ahead : ByteArray := prog_1_method_17_code
def yX6_ahead : MethodName := ⟨RX6, "ahead", "(III)I"⟩
abbrev cX6_loser : ByteArray := prog_1_method_18_code
def yX6_loser : MethodName := ⟨RX6, "loser", "(I)I"⟩
abbrev cX6_loses : ByteArray := prog_1_method_19_code
def yX6_loses : MethodName := ⟨RX6, "loses", "(I)I"⟩
abbrev cX6_order : ByteArray := prog_1_method_20_code
def yX6_order : MethodName := ⟨RX6, "order", "(I)I"⟩
abbrev cX6_findBestOrder : ByteArray := prog_1_method_21_code
def yX6_findBestOrder : MethodName := ⟨RX6, "findBestOrder", "()V"⟩
abbrev cX6_setRow : ByteArray := prog_1_method_22_code
def yX6_setRow : MethodName := ⟨RX6, "setRow", "(I)V"⟩
abbrev cX6_nthBit : ByteArray := prog_1_method_23_code
def yX6_nthBit : MethodName := ⟨RX6, "nthBit", "(II)I"⟩
abbrev cX6_factorial : ByteArray := prog_1_method_24_code
def yX6_factorial : MethodName := ⟨RX6, "factorial", "(I)I"⟩
abbrev cX6_loan : ByteArray := prog_1_method_25_code
def yX6_loan : MethodName := ⟨RX6, "loan", "(II)I"⟩
abbrev cX6_swap : ByteArray := prog_1_method_26_code
def yX6_swap : MethodName := ⟨RX6, "swap", "(II)I"⟩
abbrev cX6_skip : ByteArray := prog_1_method_27_code
def yX6_skip : MethodName := ⟨RX6, "skip", "(II)I"⟩
abbrev cX6_owedAsItIs : ByteArray := prog_1_method_28_code
def yX6_owedAsItIs : MethodName := ⟨RX6, "owedAsItIs", "(I)I"⟩
abbrev cX6_most : ByteArray := prog_1_method_29_code
def yX6_most : MethodName := ⟨RX6, "most", "(II)I"⟩
abbrev cX6_kind : ByteArray := prog_1_method_30_code
def yX6_kind : MethodName := ⟨RX6, "kind", "(III)I"⟩
abbrev cX6_tryStrength : ByteArray := prog_1_method_31_code
def yX6_tryStrength : MethodName := ⟨RX6, "tryStrength", "(II)V"⟩
abbrev cX6_tryKind : ByteArray := prog_1_method_32_code
def yX6_tryKind : MethodName := ⟨RX6, "tryKind", "(II)V"⟩
abbrev cX6_luck : ByteArray := prog_1_method_33_code
def yX6_luck : MethodName := ⟨RX6, "luck", "(IIII)J"⟩
abbrev cX6_mean : ByteArray := prog_1_method_34_code
def yX6_mean : MethodName := ⟨RX6, "mean", "(III)J"⟩
abbrev cX6_losesInRain : ByteArray := prog_1_method_35_code
def yX6_losesInRain : MethodName := ⟨RX6, "losesInRain", "(III)Z"⟩
abbrev cX6_weight : ByteArray := prog_1_method_36_code
def yX6_weight : MethodName := ⟨RX6, "weight", "(III)J"⟩
abbrev cX6_power : ByteArray := prog_1_method_37_code
def yX6_power : MethodName := ⟨RX6, "power", "(II)J"⟩
abbrev cX6_lowest : ByteArray := prog_1_method_38_code
def yX6_lowest : MethodName := ⟨RX6, "lowest", "(JJI)J"⟩
abbrev cX6_commonDivisor : ByteArray := prog_1_method_39_code
def yX6_commonDivisor : MethodName := ⟨RX6, "commonDivisor", "(JJ)J"⟩
abbrev cX6_see : ByteArray := prog_1_method_40_code
def yX6_see : MethodName := ⟨RX6, "see", "(II)I"⟩
abbrev cX6_forget : ByteArray := prog_1_method_41_code
def yX6_forget : MethodName := ⟨RX6, "forget", "(I)I"⟩
abbrev cX6_kinds : ByteArray := prog_1_method_42_code
def yX6_kinds : MethodName := ⟨RX6, "kinds", "(I)I"⟩
abbrev cX6_strengths : ByteArray := prog_1_method_43_code
def yX6_strengths : MethodName := ⟨RX6, "strengths", "(I)I"⟩
abbrev cX6_strengthsAsSeen : ByteArray := prog_1_method_44_code
def yX6_strengthsAsSeen : MethodName := ⟨RX6, "strengthsAsSeen", "(I)I"⟩
abbrev cX6_ask : ByteArray := prog_1_method_45_code
def yX6_ask : MethodName := ⟨RX6, "ask", "(II)I"⟩
abbrev cX6_noteOutcomes : ByteArray := prog_1_method_46_code
def yX6_noteOutcomes : MethodName := ⟨RX6, "noteOutcomes", "(I)V"⟩
abbrev cX6_leftAtWorst : ByteArray := prog_1_method_47_code
def yX6_leftAtWorst : MethodName := ⟨RX6, "leftAtWorst", "(II)I"⟩
abbrev cX6_drift : ByteArray := prog_1_method_48_code
def yX6_drift : MethodName := ⟨RX6, "drift", "(III)I"⟩
abbrev cX6_keep : ByteArray := prog_1_method_49_code
def yX6_keep : MethodName := ⟨RX6, "keep", "(I)I"⟩
abbrev cX6_back : ByteArray := prog_1_method_50_code
def yX6_back : MethodName := ⟨RX6, "back", "(I)I"⟩
abbrev cX6_sheet : ByteArray := prog_1_method_51_code
def yX6_sheet : MethodName := ⟨RX6, "sheet", "(III)I"⟩
abbrev cX6_lay : ByteArray := prog_1_method_52_code
def yX6_lay : MethodName := ⟨RX6, "lay", "(III)I"⟩
abbrev cX6_read : ByteArray := prog_1_method_53_code
def yX6_read : MethodName := ⟨RX6, "read", "(IIII)I"⟩
abbrev cX6_torn : ByteArray := prog_1_method_54_code
def yX6_torn : MethodName := ⟨RX6, "torn", "()I"⟩
abbrev cX6_count : ByteArray := prog_1_method_55_code
def yX6_count : MethodName := ⟨RX6, "count", "(I)I"⟩
abbrev cX6_within : ByteArray := prog_1_method_56_code
def yX6_within : MethodName := ⟨RX6, "within", "(II)Z"⟩
def RX7 : String := "LoseLeagueModel"
def TX7 : u_T := fun k => match k with
  | 0 => ("LoseLeagueModel", "state", "[I", true)
  | 1 => ("LoseLeagueModel", "townMany", "I", false)
  | 2 => ("LoseLeagueModel", "readPage", "[I", true)
  | 3 => ("LoseLeagueModel", "readTowns", "I", false)
  | 4 => ("LoseLeagueModel", "topTown", "I", false)
  | 5 => ("LoseLeagueModel", "tape", "[I", true)
  | 6 => ("LoseLeagueModel", "taped", "I", false)
  | 7 => ("LoseLeagueModel", "fault", "I", false)
  | 8 => ("LoseLeagueModel", "broken", "I", false)
  | 9 => ("LoseLeagueModel", "brokenAt", "I", false)
  | 10 => ("LoseLeagueModel", "spot", "I", false)
  | 11 => ("LoseLeagueModel", "here", "I", false)
  | 12 => ("LoseLeagueModel", "token", "I", false)
  | 13 => ("LoseLeagueModel", "value", "I", false)
  | 14 => ("LoseLeagueModel", "ends", "[I", true)
  | 15 => ("LoseLeagueModel", "letters", "[I", true)
  | 16 => ("LoseLeagueModel", "loser", "I", false)
  | 17 => ("LoseLeagueModel", "lost", "I", false)
  | 18 => ("LoseLeagueModel", "draws", "I", false)
  | 19 => ("LoseLeagueModel", "skipped", "I", false)
  | 20 => ("LoseLeagueModel", "bestRow", "[I", true)
  | 21 => ("LoseLeagueModel", "seen", "[I", true)
  | 22 => ("LoseLeagueModel", "seenMany", "I", false)
  | 23 => ("LoseLeagueModel", "loserBy", "[I", true)
  | 24 => ("LoseLeagueModel", "isKept", "[Z", true)
  | 25 => ("LoseLeagueModel", "lanes", "[I", true)
  | 26 => ("LoseLeagueModel", "lengths", "[I", true)
  | 27 => ("LoseLeagueModel", "cells", "[I", true)
  | _ => ("LoseLeagueModel", "torn", "I", false)
def tyX7 : Nat → FieldType := fun k => match k with
  | 0 => .array .int
  | 1 => .int
  | 2 => .array .int
  | 3 => .int
  | 4 => .int
  | 5 => .array .int
  | 6 => .int
  | 7 => .int
  | 8 => .int
  | 9 => .int
  | 10 => .int
  | 11 => .int
  | 12 => .int
  | 13 => .int
  | 14 => .array .int
  | 15 => .array .int
  | 16 => .int
  | 17 => .int
  | 18 => .int
  | 19 => .int
  | 20 => .array .int
  | 21 => .array .int
  | 22 => .int
  | 23 => .array .int
  | 24 => .array .boolean
  | 25 => .array .int
  | 26 => .array .int
  | 27 => .array .int
  | _ => .int
theorem nmX7 : ∀ a, a < 29 → ∀ b, b < 29 → a ≠ b → (TX7 a).2.1 ≠ (TX7 b).2.1 := by decide +kernel
theorem tyX7_ok : ∀ k, k < 29 → parseFieldDescriptor (TX7 k).2.2.1 = some (tyX7 k) := by decide +kernel
abbrev cX7_init : ByteArray := prog_9_method_1_code
def yX7_init : MethodName := ⟨RX7, "<init>", "()V"⟩
abbrev cX7_in : ByteArray := prog_9_method_3_code
def yX7_in : MethodName := ⟨RX7, "in", "(JJJ)Z"⟩
abbrev cX7_feed : ByteArray := prog_9_method_4_code
def yX7_feed : MethodName := ⟨RX7, "feed", "(I)I"⟩
abbrev cX7_end : ByteArray := prog_9_method_5_code
def yX7_end : MethodName := ⟨RX7, "end", "(I)I"⟩
abbrev cX7_byteAt : ByteArray := prog_9_method_6_code
def yX7_byteAt : MethodName := ⟨RX7, "byteAt", "(I)I"⟩
abbrev cX7_fails : ByteArray := prog_9_method_7_code
def yX7_fails : MethodName := ⟨RX7, "fails", "(I)V"⟩
abbrev cX7_nameHere : ByteArray := prog_9_method_8_code
def yX7_nameHere : MethodName := ⟨RX7, "nameHere", "()I"⟩
abbrev cX7_step : ByteArray := prog_9_method_9_code
def yX7_step : MethodName := ⟨RX7, "step", "()V"⟩
abbrev cX7_number : ByteArray := prog_9_method_10_code
def yX7_number : MethodName := ⟨RX7, "number", "(II)I"⟩
abbrev cX7_townHere : ByteArray := prog_9_method_11_code
def yX7_townHere : MethodName := ⟨RX7, "townHere", "()I"⟩
abbrev cX7_readMore : ByteArray := prog_9_method_12_code
def yX7_readMore : MethodName := ⟨RX7, "readMore", "(I)V"⟩
abbrev cX7_readLine : ByteArray := prog_9_method_13_code
def yX7_readLine : MethodName := ⟨RX7, "readLine", "()V"⟩
abbrev cX7_text : ByteArray := prog_9_method_14_code
def yX7_text : MethodName := ⟨RX7, "text", "()I"⟩
abbrev cX7_fault : ByteArray := prog_9_method_15_code
def yX7_fault : MethodName := ⟨RX7, "fault", "()I"⟩
abbrev cX7_isTown : ByteArray := prog_9_method_16_code
def yX7_isTown : MethodName := ⟨RX7, "isTown", "(I)Z"⟩
abbrev cX7_isPair : ByteArray := prog_9_method_17_code
def yX7_isPair : MethodName := ⟨RX7, "isPair", "(II)Z"⟩
abbrev cX7_isFixture : ByteArray := prog_9_method_18_code
def yX7_isFixture : MethodName := ⟨RX7, "isFixture", "(I)Z"⟩
abbrev cX7_playsOn : ByteArray := prog_9_method_19_code
def yX7_playsOn : MethodName := ⟨RX7, "playsOn", "(II)I"⟩
abbrev cX7_gameOn : ByteArray := prog_9_method_20_code
def yX7_gameOn : MethodName := ⟨RX7, "gameOn", "(III)I"⟩
abbrev cX7_playedOn : ByteArray := prog_9_method_21_code
def yX7_playedOn : MethodName := ⟨RX7, "playedOn", "(III)V"⟩
abbrev cX7_placeOn : ByteArray := prog_9_method_22_code
def yX7_placeOn : MethodName := ⟨RX7, "placeOn", "(I)I"⟩
abbrev cX7_yearsEnd : ByteArray := prog_9_method_23_code
def yX7_yearsEnd : MethodName := ⟨RX7, "yearsEnd", "(I)V"⟩
abbrev cX7_weekOn : ByteArray := prog_9_method_24_code
def yX7_weekOn : MethodName := ⟨RX7, "weekOn", "(IZ)V"⟩
abbrev cX7_owedOn : ByteArray := prog_9_method_25_code
def yX7_owedOn : MethodName := ⟨RX7, "owedOn", "(I)I"⟩
abbrev cX7_losersOn : ByteArray := prog_9_method_26_code
def yX7_losersOn : MethodName := ⟨RX7, "losersOn", "(I)I"⟩
abbrev cX7_rule : ByteArray := prog_9_method_27_code
def yX7_rule : MethodName := ⟨RX7, "rule", "(I)I"⟩
abbrev cX7_town : ByteArray := prog_9_method_28_code
def yX7_town : MethodName := ⟨RX7, "town", "(II)I"⟩
abbrev cX7_fixture : ByteArray := prog_9_method_29_code
def yX7_fixture : MethodName := ⟨RX7, "fixture", "(II)I"⟩
abbrev cX7_game : ByteArray := prog_9_method_30_code
def yX7_game : MethodName := ⟨RX7, "game", "(II)I"⟩
abbrev cX7_puts : ByteArray := prog_9_method_31_code
def yX7_puts : MethodName := ⟨RX7, "puts", "(ZII)I"⟩
abbrev cX7_alter : ByteArray := prog_9_method_32_code
def yX7_alter : MethodName := ⟨RX7, "alter", "(III)I"⟩
abbrev cX7_lendsOn : ByteArray := prog_9_method_33_code
def yX7_lendsOn : MethodName := ⟨RX7, "lendsOn", "(IIII)I"⟩
abbrev cX7_lend : ByteArray := prog_9_method_34_code
def yX7_lend : MethodName := ⟨RX7, "lend", "(III)I"⟩
abbrev cX7_books : ByteArray := prog_9_method_35_code
def yX7_books : MethodName := ⟨RX7, "books", "(II)I"⟩
abbrev cX7_book : ByteArray := prog_9_method_36_code
def yX7_book : MethodName := ⟨RX7, "book", "(II)I"⟩
abbrev cX7_strike : ByteArray := prog_9_method_37_code
def yX7_strike : MethodName := ⟨RX7, "strike", "(I)I"⟩
abbrev cX7_weeks : ByteArray := prog_9_method_38_code
def yX7_weeks : MethodName := ⟨RX7, "weeks", "(I)I"⟩
abbrev cX7_copies : ByteArray := prog_9_method_39_code
def yX7_copies : MethodName := ⟨RX7, "copies", "(II)V"⟩
abbrev cX7_weeksGo : ByteArray := prog_9_method_40_code
def yX7_weeksGo : MethodName := ⟨RX7, "weeksGo", "(II)I"⟩
abbrev cX7_runs : ByteArray := prog_9_method_41_code
def yX7_runs : MethodName := ⟨RX7, "runs", "(II)I"⟩
abbrev cX7_ahead : ByteArray := prog_9_method_42_code
def yX7_ahead : MethodName := ⟨RX7, "ahead", "(III)I"⟩
abbrev cX7_loser : ByteArray := prog_9_method_43_code
def yX7_loser : MethodName := ⟨RX7, "loser", "(I)I"⟩
abbrev cX7_firstLoss : ByteArray := prog_9_method_44_code
def yX7_firstLoss : MethodName := ⟨RX7, "firstLoss", "(III)I"⟩
abbrev cX7_loses : ByteArray := prog_9_method_45_code
def yX7_loses : MethodName := ⟨RX7, "loses", "(I)I"⟩
abbrev cX7_ordered : ByteArray := prog_9_method_46_code
def yX7_ordered : MethodName := ⟨RX7, "ordered", "(I)Z"⟩
abbrev cX7_order : ByteArray := prog_9_method_47_code
def yX7_order : MethodName := ⟨RX7, "order", "(I)I"⟩
abbrev cX7_loan : ByteArray := prog_9_method_48_code
def yX7_loan : MethodName := ⟨RX7, "loan", "(II)I"⟩
abbrev cX7_swap : ByteArray := prog_9_method_49_code
def yX7_swap : MethodName := ⟨RX7, "swap", "(II)I"⟩
abbrev cX7_skip : ByteArray := prog_9_method_50_code
def yX7_skip : MethodName := ⟨RX7, "skip", "(II)I"⟩
abbrev cX7_most : ByteArray := prog_9_method_51_code
def yX7_most : MethodName := ⟨RX7, "most", "(II)I"⟩
abbrev cX7_kind : ByteArray := prog_9_method_52_code
def yX7_kind : MethodName := ⟨RX7, "kind", "(III)I"⟩
abbrev cX7_lowest : ByteArray := prog_9_method_53_code
def yX7_lowest : MethodName := ⟨RX7, "lowest", "(JJI)J"⟩
abbrev cX7_byRain : ByteArray := prog_9_method_54_code
def yX7_byRain : MethodName := ⟨RX7, "byRain", "(IIII)J"⟩
abbrev cX7_luck : ByteArray := prog_9_method_55_code
def yX7_luck : MethodName := ⟨RX7, "luck", "(IIII)J"⟩
abbrev cX7_mean : ByteArray := prog_9_method_56_code
def yX7_mean : MethodName := ⟨RX7, "mean", "(III)J"⟩
abbrev cX7_see : ByteArray := prog_9_method_57_code
def yX7_see : MethodName := ⟨RX7, "see", "(II)I"⟩
abbrev cX7_forget : ByteArray := prog_9_method_58_code
def yX7_forget : MethodName := ⟨RX7, "forget", "(I)I"⟩
abbrev cX7_isAsSeen : ByteArray := prog_9_method_59_code
def yX7_isAsSeen : MethodName := ⟨RX7, "isAsSeen", "(I)Z"⟩
abbrev cX7_numbersAt : ByteArray := prog_9_method_60_code
def yX7_numbersAt : MethodName := ⟨RX7, "numbersAt", "(II)I"⟩
abbrev cX7_kinds : ByteArray := prog_9_method_61_code
def yX7_kinds : MethodName := ⟨RX7, "kinds", "(I)I"⟩
abbrev cX7_strengths : ByteArray := prog_9_method_62_code
def yX7_strengths : MethodName := ⟨RX7, "strengths", "(I)I"⟩
abbrev cX7_ask : ByteArray := prog_9_method_63_code
def yX7_ask : MethodName := ⟨RX7, "ask", "(II)I"⟩
abbrev cX7_drift : ByteArray := prog_9_method_64_code
def yX7_drift : MethodName := ⟨RX7, "drift", "(III)I"⟩
abbrev cX7_keep : ByteArray := prog_9_method_65_code
def yX7_keep : MethodName := ⟨RX7, "keep", "(I)I"⟩
abbrev cX7_back : ByteArray := prog_9_method_66_code
def yX7_back : MethodName := ⟨RX7, "back", "(I)I"⟩
abbrev cX7_sheet : ByteArray := prog_9_method_67_code
def yX7_sheet : MethodName := ⟨RX7, "sheet", "(III)I"⟩
abbrev cX7_lay : ByteArray := prog_9_method_68_code
def yX7_lay : MethodName := ⟨RX7, "lay", "(III)I"⟩
abbrev cX7_read : ByteArray := prog_9_method_69_code
def yX7_read : MethodName := ⟨RX7, "read", "(IIII)I"⟩
abbrev cX7_torn : ByteArray := prog_9_method_70_code
def yX7_torn : MethodName := ⟨RX7, "torn", "()I"⟩
abbrev cX7_count : ByteArray := prog_9_method_71_code
def yX7_count : MethodName := ⟨RX7, "count", "(I)I"⟩
def RJ6 : String := "java/lang/Integer"
def TJ6 : u_T := fun k => match k with
  | _ => ("", "", "", false)
def tyJ6 : Nat → FieldType := fun k => match k with
  | _ => .int
theorem nmJ6 : ∀ a, a < 0 → ∀ b, b < 0 → a ≠ b → (TJ6 a).2.1 ≠ (TJ6 b).2.1 := by decide +kernel
theorem tyJ6_ok : ∀ k, k < 0 → parseFieldDescriptor (TJ6 k).2.2.1 = some (tyJ6 k) := by decide +kernel
abbrev cJ6_bitCount_0f7a4 : ByteArray := prog_10_method_49_code
def yJ6_bitCount_0f7a4 : MethodName := ⟨RJ6, "bitCount", "(I)I"⟩
def RJ9 : String := "java/lang/Math"
def TJ9 : u_T := fun k => match k with
  | _ => ("", "", "", false)
def tyJ9 : Nat → FieldType := fun k => match k with
  | _ => .int
theorem nmJ9 : ∀ a, a < 0 → ∀ b, b < 0 → a ≠ b → (TJ9 a).2.1 ≠ (TJ9 b).2.1 := by decide +kernel
theorem tyJ9_ok : ∀ k, k < 0 → parseFieldDescriptor (TJ9 k).2.2.1 = some (tyJ9 k) := by decide +kernel
abbrev cJ9_max_7cf53 : ByteArray := prog_11_method_65_code
def yJ9_max_7cf53 : MethodName := ⟨RJ9, "max", "(II)I"⟩
abbrev cJ9_max_f86c9 : ByteArray := prog_11_method_66_code
def yJ9_max_f86c9 : MethodName := ⟨RJ9, "max", "(JJ)J"⟩
abbrev cJ9_min_7cf53 : ByteArray := prog_11_method_69_code
def yJ9_min_7cf53 : MethodName := ⟨RJ9, "min", "(II)I"⟩
def RJ0 : String := "java/lang/String"
def TJ0 : u_T := fun k => match k with
  | _ => ("", "", "", false)
def tyJ0 : Nat → FieldType := fun k => match k with
  | _ => .int
theorem nmJ0 : ∀ a, a < 0 → ∀ b, b < 0 → a ≠ b → (TJ0 a).2.1 ≠ (TJ0 b).2.1 := by decide +kernel
theorem tyJ0_ok : ∀ k, k < 0 → parseFieldDescriptor (TJ0 k).2.2.1 = some (tyJ0 k) := by decide +kernel
abbrev cJ0_length_8abf5 : ByteArray := prog_12_method_54_code
def yJ0_length_8abf5 : MethodName := ⟨RJ0, "length", "()I"⟩
abbrev cJ0_charAt_5068e : ByteArray := prog_12_method_56_code
def yJ0_charAt_5068e : MethodName := ⟨RJ0, "charAt", "(I)C"⟩
abbrev cJ0_coder_7d493 : ByteArray := prog_12_method_152_code
def yJ0_coder_7d493 : MethodName := ⟨RJ0, "coder", "()B"⟩
abbrev cJ0_isLatin1_aae02 : ByteArray := prog_12_method_154_code
def yJ0_isLatin1_aae02 : MethodName := ⟨RJ0, "isLatin1", "()Z"⟩
abbrev cJ0_checkIndex_df160 : ByteArray := prog_12_method_155_code
def yJ0_checkIndex_df160 : MethodName := ⟨RJ0, "checkIndex", "(II)V"⟩
def RJ1 : String := "java/lang/StringLatin1"
def TJ1 : u_T := fun k => match k with
  | _ => ("", "", "", false)
def tyJ1 : Nat → FieldType := fun k => match k with
  | _ => .int
theorem nmJ1 : ∀ a, a < 0 → ∀ b, b < 0 → a ≠ b → (TJ1 a).2.1 ≠ (TJ1 b).2.1 := by decide +kernel
theorem tyJ1_ok : ∀ k, k < 0 → parseFieldDescriptor (TJ1 k).2.2.1 = some (tyJ1 k) := by decide +kernel
abbrev cJ1_charAt_3b067 : ByteArray := prog_13_method_2_code
def yJ1_charAt_3b067 : MethodName := ⟨RJ1, "charAt", "([BI)C"⟩
def RJ2 : String := "java/lang/StringUTF16"
def TJ2 : u_T := fun k => match k with
  | _ => ("", "", "", false)
def tyJ2 : Nat → FieldType := fun k => match k with
  | _ => .int
theorem nmJ2 : ∀ a, a < 0 → ∀ b, b < 0 → a ≠ b → (TJ2 a).2.1 ≠ (TJ2 b).2.1 := by decide +kernel
theorem tyJ2_ok : ∀ k, k < 0 → parseFieldDescriptor (TJ2 k).2.2.1 = some (tyJ2 k) := by decide +kernel
abbrev cJ2_getChar_3b067 : ByteArray := prog_14_method_5_code
def yJ2_getChar_3b067 : MethodName := ⟨RJ2, "getChar", "([BI)C"⟩
abbrev cJ2_length_9d52b : ByteArray := prog_14_method_6_code
def yJ2_length_9d52b : MethodName := ⟨RJ2, "length", "([B)I"⟩
abbrev cJ2_charAt_3b067 : ByteArray := prog_14_method_83_code
def yJ2_charAt_3b067 : MethodName := ⟨RJ2, "charAt", "([BI)C"⟩
abbrev cJ2_checkIndex_2214a : ByteArray := prog_14_method_91_code
def yJ2_checkIndex_2214a : MethodName := ⟨RJ2, "checkIndex", "(I[B)V"⟩
def RJ3 : String := "jdk/internal/util/Preconditions"
def TJ3 : u_T := fun k => match k with
  | _ => ("", "", "", false)
def tyJ3 : Nat → FieldType := fun k => match k with
  | _ => .int
theorem nmJ3 : ∀ a, a < 0 → ∀ b, b < 0 → a ≠ b → (TJ3 a).2.1 ≠ (TJ3 b).2.1 := by decide +kernel
theorem tyJ3_ok : ∀ k, k < 0 → parseFieldDescriptor (TJ3 k).2.2.1 = some (tyJ3 k) := by decide +kernel
abbrev cJ3_checkIndex_8e157 : ByteArray := prog_15_method_11_code
def yJ3_checkIndex_8e157 : MethodName := ⟨RJ3, "checkIndex", "(IILjava/util/function/BiFunction;)I"⟩
def RL : String := "LoseLeagueLaw"
abbrev cL_law : ByteArray := code
def yL_law : MethodName := ⟨RL, "law", "([I)Z"⟩
end
section
theorem dX0_init_0 : decode cX0_init 0 = .ok (.aload_n 0, 1) := by decide +kernel
theorem dX0_init_1 : decode cX0_init 1 = .ok (.invokespecial 3, 3) := by decide +kernel
theorem dX0_init_4 : decode cX0_init 4 = .ok (.return_, 1) := by decide +kernel
theorem dX0_start_0 : decode cX0_start 0 = .ok (.aload_n 0, 1) := by decide +kernel
theorem dX0_start_1 : decode cX0_start 1 = .ok (.bipush (-4), 2) := by decide +kernel
theorem dX0_start_3 : decode cX0_start 3 = .ok (.putfield 9, 3) := by decide +kernel
theorem dX0_start_6 : decode cX0_start 6 = .ok (.aload_n 0, 1) := by decide +kernel
theorem dX0_start_7 : decode cX0_start 7 = .ok (.iload_n 1, 1) := by decide +kernel
theorem dX0_start_8 : decode cX0_start 8 = .ok (.putfield 15, 3) := by decide +kernel
theorem dX0_start_11 : decode cX0_start 11 = .ok (.return_, 1) := by decide +kernel
theorem dX0_offer_0 : decode cX0_offer 0 = .ok (.iload_n 2, 1) := by decide +kernel
theorem dX0_offer_1 : decode cX0_offer 1 = .ok (.aload_n 0, 1) := by decide +kernel
theorem dX0_offer_2 : decode cX0_offer 2 = .ok (.getfield 15, 3) := by decide +kernel
theorem dX0_offer_5 : decode cX0_offer 5 = .ok (.if_icmp .ge 13, 3) := by decide +kernel
theorem dX0_offer_8 : decode cX0_offer 8 = .ok (.aload_n 0, 1) := by decide +kernel
theorem dX0_offer_9 : decode cX0_offer 9 = .ok (.iload_n 1, 1) := by decide +kernel
theorem dX0_offer_10 : decode cX0_offer 10 = .ok (.putfield 9, 3) := by decide +kernel
theorem dX0_offer_13 : decode cX0_offer 13 = .ok (.aload_n 0, 1) := by decide +kernel
theorem dX0_offer_14 : decode cX0_offer 14 = .ok (.iload_n 2, 1) := by decide +kernel
theorem dX0_offer_15 : decode cX0_offer 15 = .ok (.putfield 15, 3) := by decide +kernel
theorem dX0_offer_18 : decode cX0_offer 18 = .ok (.return_, 1) := by decide +kernel
theorem dX0_answer_0 : decode cX0_answer 0 = .ok (.aload_n 0, 1) := by decide +kernel
theorem dX0_answer_1 : decode cX0_answer 1 = .ok (.getfield 9, 3) := by decide +kernel
theorem dX0_answer_4 : decode cX0_answer 4 = .ok (.bipush (-4), 2) := by decide +kernel
theorem dX0_answer_6 : decode cX0_answer 6 = .ok (.if_icmp .ne 6, 3) := by decide +kernel
theorem dX0_answer_9 : decode cX0_answer 9 = .ok (.bipush (-4), 2) := by decide +kernel
theorem dX0_answer_11 : decode cX0_answer 11 = .ok (.ireturn, 1) := by decide +kernel
theorem dX0_answer_12 : decode cX0_answer 12 = .ok (.iload_n 1, 1) := by decide +kernel
theorem dX0_answer_13 : decode cX0_answer 13 = .ok (.ifCond .ne 10, 3) := by decide +kernel
theorem dX0_answer_16 : decode cX0_answer 16 = .ok (.aload_n 0, 1) := by decide +kernel
theorem dX0_answer_17 : decode cX0_answer 17 = .ok (.getfield 9, 3) := by decide +kernel
theorem dX0_answer_20 : decode cX0_answer 20 = .ok (.goto 7, 3) := by decide +kernel
theorem dX0_answer_23 : decode cX0_answer 23 = .ok (.aload_n 0, 1) := by decide +kernel
theorem dX0_answer_24 : decode cX0_answer 24 = .ok (.getfield 15, 3) := by decide +kernel
theorem dX0_answer_27 : decode cX0_answer 27 = .ok (.ireturn, 1) := by decide +kernel
theorem dX1_init_0 : decode cX1_init 0 = .ok (.aload_n 0, 1) := by decide +kernel
theorem dX1_init_1 : decode cX1_init 1 = .ok (.invokespecial 3, 3) := by decide +kernel
theorem dX1_init_4 : decode cX1_init 4 = .ok (.aload_n 0, 1) := by decide +kernel
theorem dX1_init_5 : decode cX1_init 5 = .ok (.iconst 5, 1) := by decide +kernel
theorem dX1_init_6 : decode cX1_init 6 = .ok (.newarray .int, 2) := by decide +kernel
theorem dX1_init_8 : decode cX1_init 8 = .ok (.putfield 9, 3) := by decide +kernel
theorem dX1_init_11 : decode cX1_init 11 = .ok (.aload_n 0, 1) := by decide +kernel
theorem dX1_init_12 : decode cX1_init 12 = .ok (.iconst 5, 1) := by decide +kernel
theorem dX1_init_13 : decode cX1_init 13 = .ok (.newarray .int, 2) := by decide +kernel
theorem dX1_init_15 : decode cX1_init 15 = .ok (.putfield 15, 3) := by decide +kernel
theorem dX1_init_18 : decode cX1_init 18 = .ok (.aload_n 0, 1) := by decide +kernel
theorem dX1_init_19 : decode cX1_init 19 = .ok (.iconst 5, 1) := by decide +kernel
theorem dX1_init_20 : decode cX1_init 20 = .ok (.newarray .int, 2) := by decide +kernel
theorem dX1_init_22 : decode cX1_init 22 = .ok (.putfield 18, 3) := by decide +kernel
theorem dX1_init_25 : decode cX1_init 25 = .ok (.aload_n 0, 1) := by decide +kernel
theorem dX1_init_26 : decode cX1_init 26 = .ok (.iconst 5, 1) := by decide +kernel
theorem dX1_init_27 : decode cX1_init 27 = .ok (.newarray .int, 2) := by decide +kernel
theorem dX1_init_29 : decode cX1_init 29 = .ok (.putfield 21, 3) := by decide +kernel
theorem dX1_init_32 : decode cX1_init 32 = .ok (.aload_n 0, 1) := by decide +kernel
theorem dX1_init_33 : decode cX1_init 33 = .ok (.bipush 10, 2) := by decide +kernel
theorem dX1_init_35 : decode cX1_init 35 = .ok (.newarray .int, 2) := by decide +kernel
theorem dX1_init_37 : decode cX1_init 37 = .ok (.putfield 24, 3) := by decide +kernel
theorem dX1_init_40 : decode cX1_init 40 = .ok (.aload_n 0, 1) := by decide +kernel
theorem dX1_init_41 : decode cX1_init 41 = .ok (.bipush 10, 2) := by decide +kernel
theorem dX1_init_43 : decode cX1_init 43 = .ok (.newarray .int, 2) := by decide +kernel
theorem dX1_init_45 : decode cX1_init 45 = .ok (.putfield 27, 3) := by decide +kernel
theorem dX1_init_48 : decode cX1_init 48 = .ok (.return_, 1) := by decide +kernel
theorem dX1_clear_0 : decode cX1_clear 0 = .ok (.aload_n 0, 1) := by decide +kernel
theorem dX1_clear_1 : decode cX1_clear 1 = .ok (.iconst 0, 1) := by decide +kernel
theorem dX1_clear_2 : decode cX1_clear 2 = .ok (.putfield 30, 3) := by decide +kernel
theorem dX1_clear_5 : decode cX1_clear 5 = .ok (.aload_n 0, 1) := by decide +kernel
theorem dX1_clear_6 : decode cX1_clear 6 = .ok (.iconst 0, 1) := by decide +kernel
theorem dX1_clear_7 : decode cX1_clear 7 = .ok (.putfield 34, 3) := by decide +kernel
theorem dX1_clear_10 : decode cX1_clear 10 = .ok (.aload_n 0, 1) := by decide +kernel
theorem dX1_clear_11 : decode cX1_clear 11 = .ok (.iconst 0, 1) := by decide +kernel
theorem dX1_clear_12 : decode cX1_clear 12 = .ok (.putfield 37, 3) := by decide +kernel
theorem dX1_clear_15 : decode cX1_clear 15 = .ok (.return_, 1) := by decide +kernel
theorem dX1_become_0 : decode cX1_become 0 = .ok (.aload_n 0, 1) := by decide +kernel
theorem dX1_become_1 : decode cX1_become 1 = .ok (.aload_n 1, 1) := by decide +kernel
theorem dX1_become_2 : decode cX1_become 2 = .ok (.getfield 30, 3) := by decide +kernel
theorem dX1_become_5 : decode cX1_become 5 = .ok (.putfield 30, 3) := by decide +kernel
theorem dX1_become_8 : decode cX1_become 8 = .ok (.aload_n 0, 1) := by decide +kernel
theorem dX1_become_9 : decode cX1_become 9 = .ok (.aload_n 1, 1) := by decide +kernel
theorem dX1_become_10 : decode cX1_become 10 = .ok (.getfield 34, 3) := by decide +kernel
theorem dX1_become_13 : decode cX1_become 13 = .ok (.putfield 34, 3) := by decide +kernel
theorem dX1_become_16 : decode cX1_become 16 = .ok (.aload_n 0, 1) := by decide +kernel
theorem dX1_become_17 : decode cX1_become 17 = .ok (.aload_n 1, 1) := by decide +kernel
theorem dX1_become_18 : decode cX1_become 18 = .ok (.getfield 37, 3) := by decide +kernel
theorem dX1_become_21 : decode cX1_become 21 = .ok (.putfield 37, 3) := by decide +kernel
theorem dX1_become_24 : decode cX1_become 24 = .ok (.iconst 0, 1) := by decide +kernel
theorem dX1_become_25 : decode cX1_become 25 = .ok (.istore_n 2, 1) := by decide +kernel
theorem dX1_become_26 : decode cX1_become 26 = .ok (.iload_n 2, 1) := by decide +kernel
theorem dX1_become_27 : decode cX1_become 27 = .ok (.aload_n 0, 1) := by decide +kernel
theorem dX1_become_28 : decode cX1_become 28 = .ok (.getfield 30, 3) := by decide +kernel
theorem dX1_become_31 : decode cX1_become 31 = .ok (.if_icmp .ge 57, 3) := by decide +kernel
theorem dX1_become_34 : decode cX1_become 34 = .ok (.aload_n 0, 1) := by decide +kernel
theorem dX1_become_35 : decode cX1_become 35 = .ok (.getfield 9, 3) := by decide +kernel
theorem dX1_become_38 : decode cX1_become 38 = .ok (.iload_n 2, 1) := by decide +kernel
theorem dX1_become_39 : decode cX1_become 39 = .ok (.aload_n 1, 1) := by decide +kernel
theorem dX1_become_40 : decode cX1_become 40 = .ok (.getfield 9, 3) := by decide +kernel
theorem dX1_become_43 : decode cX1_become 43 = .ok (.iload_n 2, 1) := by decide +kernel
theorem dX1_become_44 : decode cX1_become 44 = .ok (.iaload, 1) := by decide +kernel
theorem dX1_become_45 : decode cX1_become 45 = .ok (.iastore, 1) := by decide +kernel
theorem dX1_become_46 : decode cX1_become 46 = .ok (.aload_n 0, 1) := by decide +kernel
theorem dX1_become_47 : decode cX1_become 47 = .ok (.getfield 15, 3) := by decide +kernel
theorem dX1_become_50 : decode cX1_become 50 = .ok (.iload_n 2, 1) := by decide +kernel
theorem dX1_become_51 : decode cX1_become 51 = .ok (.aload_n 1, 1) := by decide +kernel
theorem dX1_become_52 : decode cX1_become 52 = .ok (.getfield 15, 3) := by decide +kernel
theorem dX1_become_55 : decode cX1_become 55 = .ok (.iload_n 2, 1) := by decide +kernel
theorem dX1_become_56 : decode cX1_become 56 = .ok (.iaload, 1) := by decide +kernel
theorem dX1_become_57 : decode cX1_become 57 = .ok (.iastore, 1) := by decide +kernel
theorem dX1_become_58 : decode cX1_become 58 = .ok (.aload_n 0, 1) := by decide +kernel
theorem dX1_become_59 : decode cX1_become 59 = .ok (.getfield 18, 3) := by decide +kernel
theorem dX1_become_62 : decode cX1_become 62 = .ok (.iload_n 2, 1) := by decide +kernel
theorem dX1_become_63 : decode cX1_become 63 = .ok (.aload_n 1, 1) := by decide +kernel
theorem dX1_become_64 : decode cX1_become 64 = .ok (.getfield 18, 3) := by decide +kernel
theorem dX1_become_67 : decode cX1_become 67 = .ok (.iload_n 2, 1) := by decide +kernel
theorem dX1_become_68 : decode cX1_become 68 = .ok (.iaload, 1) := by decide +kernel
theorem dX1_become_69 : decode cX1_become 69 = .ok (.iastore, 1) := by decide +kernel
theorem dX1_become_70 : decode cX1_become 70 = .ok (.aload_n 0, 1) := by decide +kernel
theorem dX1_become_71 : decode cX1_become 71 = .ok (.getfield 21, 3) := by decide +kernel
theorem dX1_become_74 : decode cX1_become 74 = .ok (.iload_n 2, 1) := by decide +kernel
theorem dX1_become_75 : decode cX1_become 75 = .ok (.aload_n 1, 1) := by decide +kernel
theorem dX1_become_76 : decode cX1_become 76 = .ok (.getfield 21, 3) := by decide +kernel
theorem dX1_become_79 : decode cX1_become 79 = .ok (.iload_n 2, 1) := by decide +kernel
theorem dX1_become_80 : decode cX1_become 80 = .ok (.iaload, 1) := by decide +kernel
theorem dX1_become_81 : decode cX1_become 81 = .ok (.iastore, 1) := by decide +kernel
theorem dX1_become_82 : decode cX1_become 82 = .ok (.iinc 2 1, 3) := by decide +kernel
theorem dX1_become_85 : decode cX1_become 85 = .ok (.goto (-59), 3) := by decide +kernel
theorem dX1_become_88 : decode cX1_become 88 = .ok (.iconst 0, 1) := by decide +kernel
theorem dX1_become_89 : decode cX1_become 89 = .ok (.istore_n 2, 1) := by decide +kernel
theorem dX1_become_90 : decode cX1_become 90 = .ok (.iload_n 2, 1) := by decide +kernel
theorem dX1_become_91 : decode cX1_become 91 = .ok (.aload_n 0, 1) := by decide +kernel
theorem dX1_become_92 : decode cX1_become 92 = .ok (.getfield 34, 3) := by decide +kernel
theorem dX1_become_95 : decode cX1_become 95 = .ok (.if_icmp .ge 33, 3) := by decide +kernel
theorem dX1_become_98 : decode cX1_become 98 = .ok (.aload_n 0, 1) := by decide +kernel
theorem dX1_become_99 : decode cX1_become 99 = .ok (.getfield 24, 3) := by decide +kernel
theorem dX1_become_102 : decode cX1_become 102 = .ok (.iload_n 2, 1) := by decide +kernel
theorem dX1_become_103 : decode cX1_become 103 = .ok (.aload_n 1, 1) := by decide +kernel
theorem dX1_become_104 : decode cX1_become 104 = .ok (.getfield 24, 3) := by decide +kernel
theorem dX1_become_107 : decode cX1_become 107 = .ok (.iload_n 2, 1) := by decide +kernel
theorem dX1_become_108 : decode cX1_become 108 = .ok (.iaload, 1) := by decide +kernel
theorem dX1_become_109 : decode cX1_become 109 = .ok (.iastore, 1) := by decide +kernel
theorem dX1_become_110 : decode cX1_become 110 = .ok (.aload_n 0, 1) := by decide +kernel
theorem dX1_become_111 : decode cX1_become 111 = .ok (.getfield 27, 3) := by decide +kernel
theorem dX1_become_114 : decode cX1_become 114 = .ok (.iload_n 2, 1) := by decide +kernel
theorem dX1_become_115 : decode cX1_become 115 = .ok (.aload_n 1, 1) := by decide +kernel
theorem dX1_become_116 : decode cX1_become 116 = .ok (.getfield 27, 3) := by decide +kernel
theorem dX1_become_119 : decode cX1_become 119 = .ok (.iload_n 2, 1) := by decide +kernel
theorem dX1_become_120 : decode cX1_become 120 = .ok (.iaload, 1) := by decide +kernel
theorem dX1_become_121 : decode cX1_become 121 = .ok (.iastore, 1) := by decide +kernel
theorem dX1_become_122 : decode cX1_become 122 = .ok (.iinc 2 1, 3) := by decide +kernel
theorem dX1_become_125 : decode cX1_become 125 = .ok (.goto (-35), 3) := by decide +kernel
theorem dX1_become_128 : decode cX1_become 128 = .ok (.return_, 1) := by decide +kernel
theorem dX1_hasTown_0 : decode cX1_hasTown 0 = .ok (.iload_n 1, 1) := by decide +kernel
theorem dX1_hasTown_1 : decode cX1_hasTown 1 = .ok (.ifCond .lt 15, 3) := by decide +kernel
theorem dX1_hasTown_4 : decode cX1_hasTown 4 = .ok (.iload_n 1, 1) := by decide +kernel
theorem dX1_hasTown_5 : decode cX1_hasTown 5 = .ok (.aload_n 0, 1) := by decide +kernel
theorem dX1_hasTown_6 : decode cX1_hasTown 6 = .ok (.getfield 30, 3) := by decide +kernel
theorem dX1_hasTown_9 : decode cX1_hasTown 9 = .ok (.if_icmp .ge 7, 3) := by decide +kernel
theorem dX1_hasTown_12 : decode cX1_hasTown 12 = .ok (.iconst 1, 1) := by decide +kernel
theorem dX1_hasTown_13 : decode cX1_hasTown 13 = .ok (.goto 4, 3) := by decide +kernel
theorem dX1_hasTown_16 : decode cX1_hasTown 16 = .ok (.iconst 0, 1) := by decide +kernel
theorem dX1_hasTown_17 : decode cX1_hasTown 17 = .ok (.ireturn, 1) := by decide +kernel
theorem dX1_hasFixture_0 : decode cX1_hasFixture 0 = .ok (.iload_n 1, 1) := by decide +kernel
theorem dX1_hasFixture_1 : decode cX1_hasFixture 1 = .ok (.ifCond .lt 15, 3) := by decide +kernel
theorem dX1_hasFixture_4 : decode cX1_hasFixture 4 = .ok (.iload_n 1, 1) := by decide +kernel
theorem dX1_hasFixture_5 : decode cX1_hasFixture 5 = .ok (.aload_n 0, 1) := by decide +kernel
theorem dX1_hasFixture_6 : decode cX1_hasFixture 6 = .ok (.getfield 34, 3) := by decide +kernel
theorem dX1_hasFixture_9 : decode cX1_hasFixture 9 = .ok (.if_icmp .ge 7, 3) := by decide +kernel
theorem dX1_hasFixture_12 : decode cX1_hasFixture 12 = .ok (.iconst 1, 1) := by decide +kernel
theorem dX1_hasFixture_13 : decode cX1_hasFixture 13 = .ok (.goto 4, 3) := by decide +kernel
theorem dX1_hasFixture_16 : decode cX1_hasFixture 16 = .ok (.iconst 0, 1) := by decide +kernel
theorem dX1_hasFixture_17 : decode cX1_hasFixture 17 = .ok (.ireturn, 1) := by decide +kernel
theorem dX1_hasPair_0 : decode cX1_hasPair 0 = .ok (.aload_n 0, 1) := by decide +kernel
theorem dX1_hasPair_1 : decode cX1_hasPair 1 = .ok (.iload_n 1, 1) := by decide +kernel
theorem dX1_hasPair_2 : decode cX1_hasPair 2 = .ok (.invokevirtual 40, 3) := by decide +kernel
theorem dX1_hasPair_5 : decode cX1_hasPair 5 = .ok (.ifCond .eq 20, 3) := by decide +kernel
theorem dX1_hasPair_8 : decode cX1_hasPair 8 = .ok (.aload_n 0, 1) := by decide +kernel
theorem dX1_hasPair_9 : decode cX1_hasPair 9 = .ok (.iload_n 2, 1) := by decide +kernel
theorem dX1_hasPair_10 : decode cX1_hasPair 10 = .ok (.invokevirtual 40, 3) := by decide +kernel
theorem dX1_hasPair_13 : decode cX1_hasPair 13 = .ok (.ifCond .eq 12, 3) := by decide +kernel
theorem dX1_hasPair_16 : decode cX1_hasPair 16 = .ok (.iload_n 1, 1) := by decide +kernel
theorem dX1_hasPair_17 : decode cX1_hasPair 17 = .ok (.iload_n 2, 1) := by decide +kernel
theorem dX1_hasPair_18 : decode cX1_hasPair 18 = .ok (.if_icmp .eq 7, 3) := by decide +kernel
theorem dX1_hasPair_21 : decode cX1_hasPair 21 = .ok (.iconst 1, 1) := by decide +kernel
theorem dX1_hasPair_22 : decode cX1_hasPair 22 = .ok (.goto 4, 3) := by decide +kernel
theorem dX1_hasPair_25 : decode cX1_hasPair 25 = .ok (.iconst 0, 1) := by decide +kernel
theorem dX1_hasPair_26 : decode cX1_hasPair 26 = .ok (.ireturn, 1) := by decide +kernel
theorem dX1_isFullOfTowns_0 : decode cX1_isFullOfTowns 0 = .ok (.aload_n 0, 1) := by decide +kernel
theorem dX1_isFullOfTowns_1 : decode cX1_isFullOfTowns 1 = .ok (.getfield 30, 3) := by decide +kernel
theorem dX1_isFullOfTowns_4 : decode cX1_isFullOfTowns 4 = .ok (.iconst 5, 1) := by decide +kernel
theorem dX1_isFullOfTowns_5 : decode cX1_isFullOfTowns 5 = .ok (.if_icmp .lt 7, 3) := by decide +kernel
theorem dX1_isFullOfTowns_8 : decode cX1_isFullOfTowns 8 = .ok (.iconst 1, 1) := by decide +kernel
theorem dX1_isFullOfTowns_9 : decode cX1_isFullOfTowns 9 = .ok (.goto 4, 3) := by decide +kernel
theorem dX1_isFullOfTowns_12 : decode cX1_isFullOfTowns 12 = .ok (.iconst 0, 1) := by decide +kernel
theorem dX1_isFullOfTowns_13 : decode cX1_isFullOfTowns 13 = .ok (.ireturn, 1) := by decide +kernel
theorem dX1_isFullOfFixtures_0 : decode cX1_isFullOfFixtures 0 = .ok (.aload_n 0, 1) := by decide +kernel
theorem dX1_isFullOfFixtures_1 : decode cX1_isFullOfFixtures 1 = .ok (.getfield 34, 3) := by decide +kernel
theorem dX1_isFullOfFixtures_4 : decode cX1_isFullOfFixtures 4 = .ok (.bipush 10, 2) := by decide +kernel
theorem dX1_isFullOfFixtures_6 : decode cX1_isFullOfFixtures 6 = .ok (.if_icmp .lt 7, 3) := by decide +kernel
theorem dX1_isFullOfFixtures_9 : decode cX1_isFullOfFixtures 9 = .ok (.iconst 1, 1) := by decide +kernel
theorem dX1_isFullOfFixtures_10 : decode cX1_isFullOfFixtures 10 = .ok (.goto 4, 3) := by decide +kernel
theorem dX1_isFullOfFixtures_13 : decode cX1_isFullOfFixtures 13 = .ok (.iconst 0, 1) := by decide +kernel
theorem dX1_isFullOfFixtures_14 : decode cX1_isFullOfFixtures 14 = .ok (.ireturn, 1) := by decide +kernel
theorem dX1_addTown_0 : decode cX1_addTown 0 = .ok (.aload_n 0, 1) := by decide +kernel
theorem dX1_addTown_1 : decode cX1_addTown 1 = .ok (.invokevirtual 44, 3) := by decide +kernel
theorem dX1_addTown_4 : decode cX1_addTown 4 = .ok (.ifCond .eq 4, 3) := by decide +kernel
theorem dX1_addTown_7 : decode cX1_addTown 7 = .ok (.return_, 1) := by decide +kernel
theorem dX1_addTown_8 : decode cX1_addTown 8 = .ok (.aload_n 0, 1) := by decide +kernel
theorem dX1_addTown_9 : decode cX1_addTown 9 = .ok (.getfield 9, 3) := by decide +kernel
theorem dX1_addTown_12 : decode cX1_addTown 12 = .ok (.aload_n 0, 1) := by decide +kernel
theorem dX1_addTown_13 : decode cX1_addTown 13 = .ok (.getfield 30, 3) := by decide +kernel
theorem dX1_addTown_16 : decode cX1_addTown 16 = .ok (.iload_n 1, 1) := by decide +kernel
theorem dX1_addTown_17 : decode cX1_addTown 17 = .ok (.iastore, 1) := by decide +kernel
theorem dX1_addTown_18 : decode cX1_addTown 18 = .ok (.aload_n 0, 1) := by decide +kernel
theorem dX1_addTown_19 : decode cX1_addTown 19 = .ok (.getfield 15, 3) := by decide +kernel
theorem dX1_addTown_22 : decode cX1_addTown 22 = .ok (.aload_n 0, 1) := by decide +kernel
theorem dX1_addTown_23 : decode cX1_addTown 23 = .ok (.getfield 30, 3) := by decide +kernel
theorem dX1_addTown_26 : decode cX1_addTown 26 = .ok (.iload_n 2, 1) := by decide +kernel
theorem dX1_addTown_27 : decode cX1_addTown 27 = .ok (.iastore, 1) := by decide +kernel
theorem dX1_addTown_28 : decode cX1_addTown 28 = .ok (.aload_n 0, 1) := by decide +kernel
theorem dX1_addTown_29 : decode cX1_addTown 29 = .ok (.getfield 18, 3) := by decide +kernel
theorem dX1_addTown_32 : decode cX1_addTown 32 = .ok (.aload_n 0, 1) := by decide +kernel
theorem dX1_addTown_33 : decode cX1_addTown 33 = .ok (.getfield 30, 3) := by decide +kernel
theorem dX1_addTown_36 : decode cX1_addTown 36 = .ok (.iconst 0, 1) := by decide +kernel
theorem dX1_addTown_37 : decode cX1_addTown 37 = .ok (.iastore, 1) := by decide +kernel
theorem dX1_addTown_38 : decode cX1_addTown 38 = .ok (.aload_n 0, 1) := by decide +kernel
theorem dX1_addTown_39 : decode cX1_addTown 39 = .ok (.getfield 21, 3) := by decide +kernel
theorem dX1_addTown_42 : decode cX1_addTown 42 = .ok (.aload_n 0, 1) := by decide +kernel
theorem dX1_addTown_43 : decode cX1_addTown 43 = .ok (.getfield 30, 3) := by decide +kernel
theorem dX1_addTown_46 : decode cX1_addTown 46 = .ok (.iconst 0, 1) := by decide +kernel
theorem dX1_addTown_47 : decode cX1_addTown 47 = .ok (.iastore, 1) := by decide +kernel
theorem dX1_addTown_48 : decode cX1_addTown 48 = .ok (.aload_n 0, 1) := by decide +kernel
theorem dX1_addTown_49 : decode cX1_addTown 49 = .ok (.dup, 1) := by decide +kernel
theorem dX1_addTown_50 : decode cX1_addTown 50 = .ok (.getfield 30, 3) := by decide +kernel
theorem dX1_addTown_53 : decode cX1_addTown 53 = .ok (.iconst 1, 1) := by decide +kernel
theorem dX1_addTown_54 : decode cX1_addTown 54 = .ok (.iadd, 1) := by decide +kernel
theorem dX1_addTown_55 : decode cX1_addTown 55 = .ok (.putfield 30, 3) := by decide +kernel
theorem dX1_addTown_58 : decode cX1_addTown 58 = .ok (.return_, 1) := by decide +kernel
theorem dX1_addFixture_0 : decode cX1_addFixture 0 = .ok (.aload_n 0, 1) := by decide +kernel
theorem dX1_addFixture_1 : decode cX1_addFixture 1 = .ok (.iload_n 1, 1) := by decide +kernel
theorem dX1_addFixture_2 : decode cX1_addFixture 2 = .ok (.iload_n 2, 1) := by decide +kernel
theorem dX1_addFixture_3 : decode cX1_addFixture 3 = .ok (.invokevirtual 48, 3) := by decide +kernel
theorem dX1_addFixture_6 : decode cX1_addFixture 6 = .ok (.ifCond .ne 5, 3) := by decide +kernel
theorem dX1_addFixture_9 : decode cX1_addFixture 9 = .ok (.iconst (-1), 1) := by decide +kernel
theorem dX1_addFixture_10 : decode cX1_addFixture 10 = .ok (.ireturn, 1) := by decide +kernel
theorem dX1_addFixture_11 : decode cX1_addFixture 11 = .ok (.aload_n 0, 1) := by decide +kernel
theorem dX1_addFixture_12 : decode cX1_addFixture 12 = .ok (.iload_n 1, 1) := by decide +kernel
theorem dX1_addFixture_13 : decode cX1_addFixture 13 = .ok (.iload_n 2, 1) := by decide +kernel
theorem dX1_addFixture_14 : decode cX1_addFixture 14 = .ok (.invokevirtual 52, 3) := by decide +kernel
theorem dX1_addFixture_17 : decode cX1_addFixture 17 = .ok (.ireturn, 1) := by decide +kernel
theorem dX1_addFixtureUnseen_0 : decode cX1_addFixtureUnseen 0 = .ok (.aload_n 0, 1) := by decide +kernel
theorem dX1_addFixtureUnseen_1 : decode cX1_addFixtureUnseen 1 = .ok (.invokevirtual 56, 3) := by decide +kernel
theorem dX1_addFixtureUnseen_4 : decode cX1_addFixtureUnseen 4 = .ok (.ifCond .eq 6, 3) := by decide +kernel
theorem dX1_addFixtureUnseen_7 : decode cX1_addFixtureUnseen 7 = .ok (.bipush (-3), 2) := by decide +kernel
theorem dX1_addFixtureUnseen_9 : decode cX1_addFixtureUnseen 9 = .ok (.ireturn, 1) := by decide +kernel
theorem dX1_addFixtureUnseen_10 : decode cX1_addFixtureUnseen 10 = .ok (.aload_n 0, 1) := by decide +kernel
theorem dX1_addFixtureUnseen_11 : decode cX1_addFixtureUnseen 11 = .ok (.getfield 24, 3) := by decide +kernel
theorem dX1_addFixtureUnseen_14 : decode cX1_addFixtureUnseen 14 = .ok (.aload_n 0, 1) := by decide +kernel
theorem dX1_addFixtureUnseen_15 : decode cX1_addFixtureUnseen 15 = .ok (.getfield 34, 3) := by decide +kernel
theorem dX1_addFixtureUnseen_18 : decode cX1_addFixtureUnseen 18 = .ok (.iload_n 1, 1) := by decide +kernel
theorem dX1_addFixtureUnseen_19 : decode cX1_addFixtureUnseen 19 = .ok (.iastore, 1) := by decide +kernel
theorem dX1_addFixtureUnseen_20 : decode cX1_addFixtureUnseen 20 = .ok (.aload_n 0, 1) := by decide +kernel
theorem dX1_addFixtureUnseen_21 : decode cX1_addFixtureUnseen 21 = .ok (.getfield 27, 3) := by decide +kernel
theorem dX1_addFixtureUnseen_24 : decode cX1_addFixtureUnseen 24 = .ok (.aload_n 0, 1) := by decide +kernel
theorem dX1_addFixtureUnseen_25 : decode cX1_addFixtureUnseen 25 = .ok (.getfield 34, 3) := by decide +kernel
theorem dX1_addFixtureUnseen_28 : decode cX1_addFixtureUnseen 28 = .ok (.iload_n 2, 1) := by decide +kernel
theorem dX1_addFixtureUnseen_29 : decode cX1_addFixtureUnseen 29 = .ok (.iastore, 1) := by decide +kernel
theorem dX1_addFixtureUnseen_30 : decode cX1_addFixtureUnseen 30 = .ok (.aload_n 0, 1) := by decide +kernel
theorem dX1_addFixtureUnseen_31 : decode cX1_addFixtureUnseen 31 = .ok (.dup, 1) := by decide +kernel
theorem dX1_addFixtureUnseen_32 : decode cX1_addFixtureUnseen 32 = .ok (.getfield 34, 3) := by decide +kernel
theorem dX1_addFixtureUnseen_35 : decode cX1_addFixtureUnseen 35 = .ok (.iconst 1, 1) := by decide +kernel
theorem dX1_addFixtureUnseen_36 : decode cX1_addFixtureUnseen 36 = .ok (.iadd, 1) := by decide +kernel
theorem dX1_addFixtureUnseen_37 : decode cX1_addFixtureUnseen 37 = .ok (.putfield 34, 3) := by decide +kernel
theorem dX1_addFixtureUnseen_40 : decode cX1_addFixtureUnseen 40 = .ok (.aload_n 0, 1) := by decide +kernel
theorem dX1_addFixtureUnseen_41 : decode cX1_addFixtureUnseen 41 = .ok (.getfield 34, 3) := by decide +kernel
theorem dX1_addFixtureUnseen_44 : decode cX1_addFixtureUnseen 44 = .ok (.ireturn, 1) := by decide +kernel
theorem dX1_lacksTown_0 : decode cX1_lacksTown 0 = .ok (.iconst 0, 1) := by decide +kernel
theorem dX1_lacksTown_1 : decode cX1_lacksTown 1 = .ok (.istore_n 1, 1) := by decide +kernel
theorem dX1_lacksTown_2 : decode cX1_lacksTown 2 = .ok (.iload_n 1, 1) := by decide +kernel
theorem dX1_lacksTown_3 : decode cX1_lacksTown 3 = .ok (.aload_n 0, 1) := by decide +kernel
theorem dX1_lacksTown_4 : decode cX1_lacksTown 4 = .ok (.getfield 34, 3) := by decide +kernel
theorem dX1_lacksTown_7 : decode cX1_lacksTown 7 = .ok (.if_icmp .ge 30, 3) := by decide +kernel
theorem dX1_lacksTown_10 : decode cX1_lacksTown 10 = .ok (.aload_n 0, 1) := by decide +kernel
theorem dX1_lacksTown_11 : decode cX1_lacksTown 11 = .ok (.aload_n 0, 1) := by decide +kernel
theorem dX1_lacksTown_12 : decode cX1_lacksTown 12 = .ok (.getfield 24, 3) := by decide +kernel
theorem dX1_lacksTown_15 : decode cX1_lacksTown 15 = .ok (.iload_n 1, 1) := by decide +kernel
theorem dX1_lacksTown_16 : decode cX1_lacksTown 16 = .ok (.iaload, 1) := by decide +kernel
theorem dX1_lacksTown_17 : decode cX1_lacksTown 17 = .ok (.aload_n 0, 1) := by decide +kernel
theorem dX1_lacksTown_18 : decode cX1_lacksTown 18 = .ok (.getfield 27, 3) := by decide +kernel
theorem dX1_lacksTown_21 : decode cX1_lacksTown 21 = .ok (.iload_n 1, 1) := by decide +kernel
theorem dX1_lacksTown_22 : decode cX1_lacksTown 22 = .ok (.iaload, 1) := by decide +kernel
theorem dX1_lacksTown_23 : decode cX1_lacksTown 23 = .ok (.invokevirtual 48, 3) := by decide +kernel
theorem dX1_lacksTown_26 : decode cX1_lacksTown 26 = .ok (.ifCond .ne 5, 3) := by decide +kernel
theorem dX1_lacksTown_29 : decode cX1_lacksTown 29 = .ok (.iconst 1, 1) := by decide +kernel
theorem dX1_lacksTown_30 : decode cX1_lacksTown 30 = .ok (.ireturn, 1) := by decide +kernel
theorem dX1_lacksTown_31 : decode cX1_lacksTown 31 = .ok (.iinc 1 1, 3) := by decide +kernel
theorem dX1_lacksTown_34 : decode cX1_lacksTown 34 = .ok (.goto (-32), 3) := by decide +kernel
theorem dX1_lacksTown_37 : decode cX1_lacksTown 37 = .ok (.iconst 0, 1) := by decide +kernel
theorem dX1_lacksTown_38 : decode cX1_lacksTown 38 = .ok (.ireturn, 1) := by decide +kernel
theorem dX1_swapFixtures_0 : decode cX1_swapFixtures 0 = .ok (.aload_n 0, 1) := by decide +kernel
theorem dX1_swapFixtures_1 : decode cX1_swapFixtures 1 = .ok (.getfield 24, 3) := by decide +kernel
theorem dX1_swapFixtures_4 : decode cX1_swapFixtures 4 = .ok (.iload_n 1, 1) := by decide +kernel
theorem dX1_swapFixtures_5 : decode cX1_swapFixtures 5 = .ok (.iaload, 1) := by decide +kernel
theorem dX1_swapFixtures_6 : decode cX1_swapFixtures 6 = .ok (.istore_n 3, 1) := by decide +kernel
theorem dX1_swapFixtures_7 : decode cX1_swapFixtures 7 = .ok (.aload_n 0, 1) := by decide +kernel
theorem dX1_swapFixtures_8 : decode cX1_swapFixtures 8 = .ok (.getfield 27, 3) := by decide +kernel
theorem dX1_swapFixtures_11 : decode cX1_swapFixtures 11 = .ok (.iload_n 1, 1) := by decide +kernel
theorem dX1_swapFixtures_12 : decode cX1_swapFixtures 12 = .ok (.iaload, 1) := by decide +kernel
theorem dX1_swapFixtures_13 : decode cX1_swapFixtures 13 = .ok (.istore 4, 2) := by decide +kernel
theorem dX1_swapFixtures_15 : decode cX1_swapFixtures 15 = .ok (.aload_n 0, 1) := by decide +kernel
theorem dX1_swapFixtures_16 : decode cX1_swapFixtures 16 = .ok (.getfield 24, 3) := by decide +kernel
theorem dX1_swapFixtures_19 : decode cX1_swapFixtures 19 = .ok (.iload_n 1, 1) := by decide +kernel
theorem dX1_swapFixtures_20 : decode cX1_swapFixtures 20 = .ok (.aload_n 0, 1) := by decide +kernel
theorem dX1_swapFixtures_21 : decode cX1_swapFixtures 21 = .ok (.getfield 24, 3) := by decide +kernel
theorem dX1_swapFixtures_24 : decode cX1_swapFixtures 24 = .ok (.iload_n 2, 1) := by decide +kernel
theorem dX1_swapFixtures_25 : decode cX1_swapFixtures 25 = .ok (.iaload, 1) := by decide +kernel
theorem dX1_swapFixtures_26 : decode cX1_swapFixtures 26 = .ok (.iastore, 1) := by decide +kernel
theorem dX1_swapFixtures_27 : decode cX1_swapFixtures 27 = .ok (.aload_n 0, 1) := by decide +kernel
theorem dX1_swapFixtures_28 : decode cX1_swapFixtures 28 = .ok (.getfield 27, 3) := by decide +kernel
theorem dX1_swapFixtures_31 : decode cX1_swapFixtures 31 = .ok (.iload_n 1, 1) := by decide +kernel
theorem dX1_swapFixtures_32 : decode cX1_swapFixtures 32 = .ok (.aload_n 0, 1) := by decide +kernel
theorem dX1_swapFixtures_33 : decode cX1_swapFixtures 33 = .ok (.getfield 27, 3) := by decide +kernel
theorem dX1_swapFixtures_36 : decode cX1_swapFixtures 36 = .ok (.iload_n 2, 1) := by decide +kernel
theorem dX1_swapFixtures_37 : decode cX1_swapFixtures 37 = .ok (.iaload, 1) := by decide +kernel
theorem dX1_swapFixtures_38 : decode cX1_swapFixtures 38 = .ok (.iastore, 1) := by decide +kernel
theorem dX1_swapFixtures_39 : decode cX1_swapFixtures 39 = .ok (.aload_n 0, 1) := by decide +kernel
theorem dX1_swapFixtures_40 : decode cX1_swapFixtures 40 = .ok (.getfield 24, 3) := by decide +kernel
theorem dX1_swapFixtures_43 : decode cX1_swapFixtures 43 = .ok (.iload_n 2, 1) := by decide +kernel
theorem dX1_swapFixtures_44 : decode cX1_swapFixtures 44 = .ok (.iload_n 3, 1) := by decide +kernel
theorem dX1_swapFixtures_45 : decode cX1_swapFixtures 45 = .ok (.iastore, 1) := by decide +kernel
theorem dX1_swapFixtures_46 : decode cX1_swapFixtures 46 = .ok (.aload_n 0, 1) := by decide +kernel
theorem dX1_swapFixtures_47 : decode cX1_swapFixtures 47 = .ok (.getfield 27, 3) := by decide +kernel
theorem dX1_swapFixtures_50 : decode cX1_swapFixtures 50 = .ok (.iload_n 2, 1) := by decide +kernel
theorem dX1_swapFixtures_51 : decode cX1_swapFixtures 51 = .ok (.iload 4, 2) := by decide +kernel
theorem dX1_swapFixtures_53 : decode cX1_swapFixtures 53 = .ok (.iastore, 1) := by decide +kernel
theorem dX1_swapFixtures_54 : decode cX1_swapFixtures 54 = .ok (.return_, 1) := by decide +kernel
theorem dX1_moveStrength_0 : decode cX1_moveStrength 0 = .ok (.aload_n 0, 1) := by decide +kernel
theorem dX1_moveStrength_1 : decode cX1_moveStrength 1 = .ok (.getfield 15, 3) := by decide +kernel
theorem dX1_moveStrength_4 : decode cX1_moveStrength 4 = .ok (.iload_n 1, 1) := by decide +kernel
theorem dX1_moveStrength_5 : decode cX1_moveStrength 5 = .ok (.iaload, 1) := by decide +kernel
theorem dX1_moveStrength_6 : decode cX1_moveStrength 6 = .ok (.iload_n 3, 1) := by decide +kernel
theorem dX1_moveStrength_7 : decode cX1_moveStrength 7 = .ok (.if_icmp .ge 6, 3) := by decide +kernel
theorem dX1_moveStrength_10 : decode cX1_moveStrength 10 = .ok (.bipush (-2), 2) := by decide +kernel
theorem dX1_moveStrength_12 : decode cX1_moveStrength 12 = .ok (.ireturn, 1) := by decide +kernel
theorem dX1_moveStrength_13 : decode cX1_moveStrength 13 = .ok (.aload_n 0, 1) := by decide +kernel
theorem dX1_moveStrength_14 : decode cX1_moveStrength 14 = .ok (.getfield 15, 3) := by decide +kernel
theorem dX1_moveStrength_17 : decode cX1_moveStrength 17 = .ok (.iload_n 2, 1) := by decide +kernel
theorem dX1_moveStrength_18 : decode cX1_moveStrength 18 = .ok (.iaload, 1) := by decide +kernel
theorem dX1_moveStrength_19 : decode cX1_moveStrength 19 = .ok (.iload_n 3, 1) := by decide +kernel
theorem dX1_moveStrength_20 : decode cX1_moveStrength 20 = .ok (.iadd, 1) := by decide +kernel
theorem dX1_moveStrength_21 : decode cX1_moveStrength 21 = .ok (.bipush 20, 2) := by decide +kernel
theorem dX1_moveStrength_23 : decode cX1_moveStrength 23 = .ok (.if_icmp .le 6, 3) := by decide +kernel
theorem dX1_moveStrength_26 : decode cX1_moveStrength 26 = .ok (.bipush (-3), 2) := by decide +kernel
theorem dX1_moveStrength_28 : decode cX1_moveStrength 28 = .ok (.ireturn, 1) := by decide +kernel
theorem dX1_moveStrength_29 : decode cX1_moveStrength 29 = .ok (.aload_n 0, 1) := by decide +kernel
theorem dX1_moveStrength_30 : decode cX1_moveStrength 30 = .ok (.getfield 15, 3) := by decide +kernel
theorem dX1_moveStrength_33 : decode cX1_moveStrength 33 = .ok (.iload_n 1, 1) := by decide +kernel
theorem dX1_moveStrength_34 : decode cX1_moveStrength 34 = .ok (.dup2, 1) := by decide +kernel
theorem dX1_moveStrength_35 : decode cX1_moveStrength 35 = .ok (.iaload, 1) := by decide +kernel
theorem dX1_moveStrength_36 : decode cX1_moveStrength 36 = .ok (.iload_n 3, 1) := by decide +kernel
theorem dX1_moveStrength_37 : decode cX1_moveStrength 37 = .ok (.isub, 1) := by decide +kernel
theorem dX1_moveStrength_38 : decode cX1_moveStrength 38 = .ok (.iastore, 1) := by decide +kernel
theorem dX1_moveStrength_39 : decode cX1_moveStrength 39 = .ok (.aload_n 0, 1) := by decide +kernel
theorem dX1_moveStrength_40 : decode cX1_moveStrength 40 = .ok (.getfield 15, 3) := by decide +kernel
theorem dX1_moveStrength_43 : decode cX1_moveStrength 43 = .ok (.iload_n 2, 1) := by decide +kernel
theorem dX1_moveStrength_44 : decode cX1_moveStrength 44 = .ok (.dup2, 1) := by decide +kernel
theorem dX1_moveStrength_45 : decode cX1_moveStrength 45 = .ok (.iaload, 1) := by decide +kernel
theorem dX1_moveStrength_46 : decode cX1_moveStrength 46 = .ok (.iload_n 3, 1) := by decide +kernel
theorem dX1_moveStrength_47 : decode cX1_moveStrength 47 = .ok (.iadd, 1) := by decide +kernel
theorem dX1_moveStrength_48 : decode cX1_moveStrength 48 = .ok (.iastore, 1) := by decide +kernel
theorem dX1_moveStrength_49 : decode cX1_moveStrength 49 = .ok (.aload_n 0, 1) := by decide +kernel
theorem dX1_moveStrength_50 : decode cX1_moveStrength 50 = .ok (.getfield 15, 3) := by decide +kernel
theorem dX1_moveStrength_53 : decode cX1_moveStrength 53 = .ok (.iload_n 1, 1) := by decide +kernel
theorem dX1_moveStrength_54 : decode cX1_moveStrength 54 = .ok (.iaload, 1) := by decide +kernel
theorem dX1_moveStrength_55 : decode cX1_moveStrength 55 = .ok (.ireturn, 1) := by decide +kernel
theorem dX1_playsNow_0 : decode cX1_playsNow 0 = .ok (.aload_n 0, 1) := by decide +kernel
theorem dX1_playsNow_1 : decode cX1_playsNow 1 = .ok (.getfield 9, 3) := by decide +kernel
theorem dX1_playsNow_4 : decode cX1_playsNow 4 = .ok (.iload_n 1, 1) := by decide +kernel
theorem dX1_playsNow_5 : decode cX1_playsNow 5 = .ok (.iaload, 1) := by decide +kernel
theorem dX1_playsNow_6 : decode cX1_playsNow 6 = .ok (.tableswitch 53 1 3 #[26, 35, 41], 26) := by decide +kernel
theorem dX1_playsNow_32 : decode cX1_playsNow 32 = .ok (.aload_n 0, 1) := by decide +kernel
theorem dX1_playsNow_33 : decode cX1_playsNow 33 = .ok (.getfield 15, 3) := by decide +kernel
theorem dX1_playsNow_36 : decode cX1_playsNow 36 = .ok (.iload_n 1, 1) := by decide +kernel
theorem dX1_playsNow_37 : decode cX1_playsNow 37 = .ok (.iaload, 1) := by decide +kernel
theorem dX1_playsNow_38 : decode cX1_playsNow 38 = .ok (.iconst 3, 1) := by decide +kernel
theorem dX1_playsNow_39 : decode cX1_playsNow 39 = .ok (.iadd, 1) := by decide +kernel
theorem dX1_playsNow_40 : decode cX1_playsNow 40 = .ok (.ireturn, 1) := by decide +kernel
theorem dX1_playsNow_41 : decode cX1_playsNow 41 = .ok (.aload_n 0, 1) := by decide +kernel
theorem dX1_playsNow_42 : decode cX1_playsNow 42 = .ok (.iload_n 1, 1) := by decide +kernel
theorem dX1_playsNow_43 : decode cX1_playsNow 43 = .ok (.invokevirtual 59, 3) := by decide +kernel
theorem dX1_playsNow_46 : decode cX1_playsNow 46 = .ok (.ireturn, 1) := by decide +kernel
theorem dX1_playsNow_47 : decode cX1_playsNow 47 = .ok (.iconst 0, 1) := by decide +kernel
theorem dX1_playsNow_48 : decode cX1_playsNow 48 = .ok (.aload_n 0, 1) := by decide +kernel
theorem dX1_playsNow_49 : decode cX1_playsNow 49 = .ok (.iload_n 1, 1) := by decide +kernel
theorem dX1_playsNow_50 : decode cX1_playsNow 50 = .ok (.invokevirtual 59, 3) := by decide +kernel
theorem dX1_playsNow_53 : decode cX1_playsNow 53 = .ok (.iconst 2, 1) := by decide +kernel
theorem dX1_playsNow_54 : decode cX1_playsNow 54 = .ok (.isub, 1) := by decide +kernel
theorem dX1_playsNow_55 : decode cX1_playsNow 55 = .ok (.invokestatic 63, 3) := by decide +kernel
theorem dX1_playsNow_58 : decode cX1_playsNow 58 = .ok (.ireturn, 1) := by decide +kernel
theorem dX1_playsNow_59 : decode cX1_playsNow 59 = .ok (.aload_n 0, 1) := by decide +kernel
theorem dX1_playsNow_60 : decode cX1_playsNow 60 = .ok (.getfield 15, 3) := by decide +kernel
theorem dX1_playsNow_63 : decode cX1_playsNow 63 = .ok (.iload_n 1, 1) := by decide +kernel
theorem dX1_playsNow_64 : decode cX1_playsNow 64 = .ok (.iaload, 1) := by decide +kernel
theorem dX1_playsNow_65 : decode cX1_playsNow 65 = .ok (.ireturn, 1) := by decide +kernel
theorem dX1_playsWise_0 : decode cX1_playsWise 0 = .ok (.aload_n 0, 1) := by decide +kernel
theorem dX1_playsWise_1 : decode cX1_playsWise 1 = .ok (.getfield 18, 3) := by decide +kernel
theorem dX1_playsWise_4 : decode cX1_playsWise 4 = .ok (.iload_n 1, 1) := by decide +kernel
theorem dX1_playsWise_5 : decode cX1_playsWise 5 = .ok (.iaload, 1) := by decide +kernel
theorem dX1_playsWise_6 : decode cX1_playsWise 6 = .ok (.ifCond .ne 14, 3) := by decide +kernel
theorem dX1_playsWise_9 : decode cX1_playsWise 9 = .ok (.aload_n 0, 1) := by decide +kernel
theorem dX1_playsWise_10 : decode cX1_playsWise 10 = .ok (.getfield 15, 3) := by decide +kernel
theorem dX1_playsWise_13 : decode cX1_playsWise 13 = .ok (.iload_n 1, 1) := by decide +kernel
theorem dX1_playsWise_14 : decode cX1_playsWise 14 = .ok (.iaload, 1) := by decide +kernel
theorem dX1_playsWise_15 : decode cX1_playsWise 15 = .ok (.iconst 2, 1) := by decide +kernel
theorem dX1_playsWise_16 : decode cX1_playsWise 16 = .ok (.idiv, 1) := by decide +kernel
theorem dX1_playsWise_17 : decode cX1_playsWise 17 = .ok (.goto 9, 3) := by decide +kernel
theorem dX1_playsWise_20 : decode cX1_playsWise 20 = .ok (.aload_n 0, 1) := by decide +kernel
theorem dX1_playsWise_21 : decode cX1_playsWise 21 = .ok (.getfield 15, 3) := by decide +kernel
theorem dX1_playsWise_24 : decode cX1_playsWise 24 = .ok (.iload_n 1, 1) := by decide +kernel
theorem dX1_playsWise_25 : decode cX1_playsWise 25 = .ok (.iaload, 1) := by decide +kernel
theorem dX1_playsWise_26 : decode cX1_playsWise 26 = .ok (.ireturn, 1) := by decide +kernel
theorem dX1_trainsNow_0 : decode cX1_trainsNow 0 = .ok (.aload_n 0, 1) := by decide +kernel
theorem dX1_trainsNow_1 : decode cX1_trainsNow 1 = .ok (.getfield 9, 3) := by decide +kernel
theorem dX1_trainsNow_4 : decode cX1_trainsNow 4 = .ok (.iload_n 1, 1) := by decide +kernel
theorem dX1_trainsNow_5 : decode cX1_trainsNow 5 = .ok (.iaload, 1) := by decide +kernel
theorem dX1_trainsNow_6 : decode cX1_trainsNow 6 = .ok (.lookupswitch 30 #[(1, 26), (3, 28)], 26) := by decide +kernel
theorem dX1_trainsNow_32 : decode cX1_trainsNow 32 = .ok (.iconst 2, 1) := by decide +kernel
theorem dX1_trainsNow_33 : decode cX1_trainsNow 33 = .ok (.ireturn, 1) := by decide +kernel
theorem dX1_trainsNow_34 : decode cX1_trainsNow 34 = .ok (.iconst 0, 1) := by decide +kernel
theorem dX1_trainsNow_35 : decode cX1_trainsNow 35 = .ok (.ireturn, 1) := by decide +kernel
theorem dX1_trainsNow_36 : decode cX1_trainsNow 36 = .ok (.iconst 1, 1) := by decide +kernel
theorem dX1_trainsNow_37 : decode cX1_trainsNow 37 = .ok (.ireturn, 1) := by decide +kernel
theorem dX1_weaker_0 : decode cX1_weaker 0 = .ok (.aload_n 0, 1) := by decide +kernel
theorem dX1_weaker_1 : decode cX1_weaker 1 = .ok (.iload_n 1, 1) := by decide +kernel
theorem dX1_weaker_2 : decode cX1_weaker 2 = .ok (.invokevirtual 68, 3) := by decide +kernel
theorem dX1_weaker_5 : decode cX1_weaker 5 = .ok (.aload_n 0, 1) := by decide +kernel
theorem dX1_weaker_6 : decode cX1_weaker 6 = .ok (.iload_n 2, 1) := by decide +kernel
theorem dX1_weaker_7 : decode cX1_weaker 7 = .ok (.invokevirtual 68, 3) := by decide +kernel
theorem dX1_weaker_10 : decode cX1_weaker 10 = .ok (.isub, 1) := by decide +kernel
theorem dX1_weaker_11 : decode cX1_weaker 11 = .ok (.istore_n 3, 1) := by decide +kernel
theorem dX1_weaker_12 : decode cX1_weaker 12 = .ok (.iload_n 3, 1) := by decide +kernel
theorem dX1_weaker_13 : decode cX1_weaker 13 = .ok (.ifCond .ne 6, 3) := by decide +kernel
theorem dX1_weaker_16 : decode cX1_weaker 16 = .ok (.bipush (-4), 2) := by decide +kernel
theorem dX1_weaker_18 : decode cX1_weaker 18 = .ok (.ireturn, 1) := by decide +kernel
theorem dX1_weaker_19 : decode cX1_weaker 19 = .ok (.iload_n 3, 1) := by decide +kernel
theorem dX1_weaker_20 : decode cX1_weaker 20 = .ok (.ifCond .ge 7, 3) := by decide +kernel
theorem dX1_weaker_23 : decode cX1_weaker 23 = .ok (.iload_n 1, 1) := by decide +kernel
theorem dX1_weaker_24 : decode cX1_weaker 24 = .ok (.goto 4, 3) := by decide +kernel
theorem dX1_weaker_27 : decode cX1_weaker 27 = .ok (.iload_n 2, 1) := by decide +kernel
theorem dX1_weaker_28 : decode cX1_weaker 28 = .ok (.ireturn, 1) := by decide +kernel
theorem dX1_play_0 : decode cX1_play 0 = .ok (.aload_n 0, 1) := by decide +kernel
theorem dX1_play_1 : decode cX1_play 1 = .ok (.iload_n 1, 1) := by decide +kernel
theorem dX1_play_2 : decode cX1_play 2 = .ok (.iload_n 2, 1) := by decide +kernel
theorem dX1_play_3 : decode cX1_play 3 = .ok (.invokevirtual 71, 3) := by decide +kernel
theorem dX1_play_6 : decode cX1_play 6 = .ok (.istore_n 3, 1) := by decide +kernel
theorem dX1_play_7 : decode cX1_play 7 = .ok (.iload_n 3, 1) := by decide +kernel
theorem dX1_play_8 : decode cX1_play 8 = .ok (.ifCond .lt 77, 3) := by decide +kernel
theorem dX1_play_11 : decode cX1_play 11 = .ok (.iload_n 3, 1) := by decide +kernel
theorem dX1_play_12 : decode cX1_play 12 = .ok (.iload_n 1, 1) := by decide +kernel
theorem dX1_play_13 : decode cX1_play 13 = .ok (.if_icmp .ne 7, 3) := by decide +kernel
theorem dX1_play_16 : decode cX1_play 16 = .ok (.iload_n 2, 1) := by decide +kernel
theorem dX1_play_17 : decode cX1_play 17 = .ok (.goto 4, 3) := by decide +kernel
theorem dX1_play_20 : decode cX1_play 20 = .ok (.iload_n 1, 1) := by decide +kernel
theorem dX1_play_21 : decode cX1_play 21 = .ok (.istore 4, 2) := by decide +kernel
theorem dX1_play_23 : decode cX1_play 23 = .ok (.aload_n 0, 1) := by decide +kernel
theorem dX1_play_24 : decode cX1_play 24 = .ok (.getfield 18, 3) := by decide +kernel
theorem dX1_play_27 : decode cX1_play 27 = .ok (.iload_n 3, 1) := by decide +kernel
theorem dX1_play_28 : decode cX1_play 28 = .ok (.bipush 99, 2) := by decide +kernel
theorem dX1_play_30 : decode cX1_play 30 = .ok (.aload_n 0, 1) := by decide +kernel
theorem dX1_play_31 : decode cX1_play 31 = .ok (.getfield 18, 3) := by decide +kernel
theorem dX1_play_34 : decode cX1_play 34 = .ok (.iload_n 3, 1) := by decide +kernel
theorem dX1_play_35 : decode cX1_play 35 = .ok (.iaload, 1) := by decide +kernel
theorem dX1_play_36 : decode cX1_play 36 = .ok (.iconst 1, 1) := by decide +kernel
theorem dX1_play_37 : decode cX1_play 37 = .ok (.iadd, 1) := by decide +kernel
theorem dX1_play_38 : decode cX1_play 38 = .ok (.invokestatic 74, 3) := by decide +kernel
theorem dX1_play_41 : decode cX1_play 41 = .ok (.iastore, 1) := by decide +kernel
theorem dX1_play_42 : decode cX1_play 42 = .ok (.aload_n 0, 1) := by decide +kernel
theorem dX1_play_43 : decode cX1_play 43 = .ok (.getfield 15, 3) := by decide +kernel
theorem dX1_play_46 : decode cX1_play 46 = .ok (.iload_n 3, 1) := by decide +kernel
theorem dX1_play_47 : decode cX1_play 47 = .ok (.bipush 20, 2) := by decide +kernel
theorem dX1_play_49 : decode cX1_play 49 = .ok (.aload_n 0, 1) := by decide +kernel
theorem dX1_play_50 : decode cX1_play 50 = .ok (.getfield 15, 3) := by decide +kernel
theorem dX1_play_53 : decode cX1_play 53 = .ok (.iload_n 3, 1) := by decide +kernel
theorem dX1_play_54 : decode cX1_play 54 = .ok (.iaload, 1) := by decide +kernel
theorem dX1_play_55 : decode cX1_play 55 = .ok (.aload_n 0, 1) := by decide +kernel
theorem dX1_play_56 : decode cX1_play 56 = .ok (.iload_n 3, 1) := by decide +kernel
theorem dX1_play_57 : decode cX1_play 57 = .ok (.invokevirtual 77, 3) := by decide +kernel
theorem dX1_play_60 : decode cX1_play 60 = .ok (.iadd, 1) := by decide +kernel
theorem dX1_play_61 : decode cX1_play 61 = .ok (.invokestatic 74, 3) := by decide +kernel
theorem dX1_play_64 : decode cX1_play 64 = .ok (.iastore, 1) := by decide +kernel
theorem dX1_play_65 : decode cX1_play 65 = .ok (.aload_n 0, 1) := by decide +kernel
theorem dX1_play_66 : decode cX1_play 66 = .ok (.getfield 15, 3) := by decide +kernel
theorem dX1_play_69 : decode cX1_play 69 = .ok (.iload 4, 2) := by decide +kernel
theorem dX1_play_71 : decode cX1_play 71 = .ok (.iconst 0, 1) := by decide +kernel
theorem dX1_play_72 : decode cX1_play 72 = .ok (.aload_n 0, 1) := by decide +kernel
theorem dX1_play_73 : decode cX1_play 73 = .ok (.getfield 15, 3) := by decide +kernel
theorem dX1_play_76 : decode cX1_play 76 = .ok (.iload 4, 2) := by decide +kernel
theorem dX1_play_78 : decode cX1_play 78 = .ok (.iaload, 1) := by decide +kernel
theorem dX1_play_79 : decode cX1_play 79 = .ok (.iconst 1, 1) := by decide +kernel
theorem dX1_play_80 : decode cX1_play 80 = .ok (.isub, 1) := by decide +kernel
theorem dX1_play_81 : decode cX1_play 81 = .ok (.invokestatic 63, 3) := by decide +kernel
theorem dX1_play_84 : decode cX1_play 84 = .ok (.iastore, 1) := by decide +kernel
theorem dX1_play_85 : decode cX1_play 85 = .ok (.iload_n 3, 1) := by decide +kernel
theorem dX1_play_86 : decode cX1_play 86 = .ok (.ireturn, 1) := by decide +kernel
theorem dX1_fixtureNow_0 : decode cX1_fixtureNow 0 = .ok (.aload_n 0, 1) := by decide +kernel
theorem dX1_fixtureNow_1 : decode cX1_fixtureNow 1 = .ok (.getfield 34, 3) := by decide +kernel
theorem dX1_fixtureNow_4 : decode cX1_fixtureNow 4 = .ok (.ifCond .le 15, 3) := by decide +kernel
theorem dX1_fixtureNow_7 : decode cX1_fixtureNow 7 = .ok (.aload_n 0, 1) := by decide +kernel
theorem dX1_fixtureNow_8 : decode cX1_fixtureNow 8 = .ok (.getfield 37, 3) := by decide +kernel
theorem dX1_fixtureNow_11 : decode cX1_fixtureNow 11 = .ok (.aload_n 0, 1) := by decide +kernel
theorem dX1_fixtureNow_12 : decode cX1_fixtureNow 12 = .ok (.getfield 34, 3) := by decide +kernel
theorem dX1_fixtureNow_15 : decode cX1_fixtureNow 15 = .ok (.irem, 1) := by decide +kernel
theorem dX1_fixtureNow_16 : decode cX1_fixtureNow 16 = .ok (.goto 5, 3) := by decide +kernel
theorem dX1_fixtureNow_19 : decode cX1_fixtureNow 19 = .ok (.bipush (-4), 2) := by decide +kernel
theorem dX1_fixtureNow_21 : decode cX1_fixtureNow 21 = .ok (.ireturn, 1) := by decide +kernel
theorem dX1_runWeek_0 : decode cX1_runWeek 0 = .ok (.aload_n 0, 1) := by decide +kernel
theorem dX1_runWeek_1 : decode cX1_runWeek 1 = .ok (.invokevirtual 80, 3) := by decide +kernel
theorem dX1_runWeek_4 : decode cX1_runWeek 4 = .ok (.istore_n 2, 1) := by decide +kernel
theorem dX1_runWeek_5 : decode cX1_runWeek 5 = .ok (.iload_n 2, 1) := by decide +kernel
theorem dX1_runWeek_6 : decode cX1_runWeek 6 = .ok (.ifCond .lt 7, 3) := by decide +kernel
theorem dX1_runWeek_9 : decode cX1_runWeek 9 = .ok (.iload_n 1, 1) := by decide +kernel
theorem dX1_runWeek_10 : decode cX1_runWeek 10 = .ok (.ifCond .eq 8, 3) := by decide +kernel
theorem dX1_runWeek_13 : decode cX1_runWeek 13 = .ok (.bipush (-4), 2) := by decide +kernel
theorem dX1_runWeek_15 : decode cX1_runWeek 15 = .ok (.goto 19, 3) := by decide +kernel
theorem dX1_runWeek_18 : decode cX1_runWeek 18 = .ok (.aload_n 0, 1) := by decide +kernel
theorem dX1_runWeek_19 : decode cX1_runWeek 19 = .ok (.aload_n 0, 1) := by decide +kernel
theorem dX1_runWeek_20 : decode cX1_runWeek 20 = .ok (.getfield 24, 3) := by decide +kernel
theorem dX1_runWeek_23 : decode cX1_runWeek 23 = .ok (.iload_n 2, 1) := by decide +kernel
theorem dX1_runWeek_24 : decode cX1_runWeek 24 = .ok (.iaload, 1) := by decide +kernel
theorem dX1_runWeek_25 : decode cX1_runWeek 25 = .ok (.aload_n 0, 1) := by decide +kernel
theorem dX1_runWeek_26 : decode cX1_runWeek 26 = .ok (.getfield 27, 3) := by decide +kernel
theorem dX1_runWeek_29 : decode cX1_runWeek 29 = .ok (.iload_n 2, 1) := by decide +kernel
theorem dX1_runWeek_30 : decode cX1_runWeek 30 = .ok (.iaload, 1) := by decide +kernel
theorem dX1_runWeek_31 : decode cX1_runWeek 31 = .ok (.invokevirtual 84, 3) := by decide +kernel
theorem dX1_runWeek_34 : decode cX1_runWeek 34 = .ok (.istore_n 3, 1) := by decide +kernel
theorem dX1_runWeek_35 : decode cX1_runWeek 35 = .ok (.aload_n 0, 1) := by decide +kernel
theorem dX1_runWeek_36 : decode cX1_runWeek 36 = .ok (.invokevirtual 87, 3) := by decide +kernel
theorem dX1_runWeek_39 : decode cX1_runWeek 39 = .ok (.iload_n 3, 1) := by decide +kernel
theorem dX1_runWeek_40 : decode cX1_runWeek 40 = .ok (.ireturn, 1) := by decide +kernel
theorem dX1_runWeekOf_0 : decode cX1_runWeekOf 0 = .ok (.aload_n 0, 1) := by decide +kernel
theorem dX1_runWeekOf_1 : decode cX1_runWeekOf 1 = .ok (.iload_n 1, 1) := by decide +kernel
theorem dX1_runWeekOf_2 : decode cX1_runWeekOf 2 = .ok (.iload_n 2, 1) := by decide +kernel
theorem dX1_runWeekOf_3 : decode cX1_runWeekOf 3 = .ok (.invokevirtual 84, 3) := by decide +kernel
theorem dX1_runWeekOf_6 : decode cX1_runWeekOf 6 = .ok (.istore_n 3, 1) := by decide +kernel
theorem dX1_runWeekOf_7 : decode cX1_runWeekOf 7 = .ok (.aload_n 0, 1) := by decide +kernel
theorem dX1_runWeekOf_8 : decode cX1_runWeekOf 8 = .ok (.invokevirtual 87, 3) := by decide +kernel
theorem dX1_runWeekOf_11 : decode cX1_runWeekOf 11 = .ok (.iload_n 3, 1) := by decide +kernel
theorem dX1_runWeekOf_12 : decode cX1_runWeekOf 12 = .ok (.ireturn, 1) := by decide +kernel
theorem dX1_passWeek_0 : decode cX1_passWeek 0 = .ok (.aload_n 0, 1) := by decide +kernel
theorem dX1_passWeek_1 : decode cX1_passWeek 1 = .ok (.getfield 34, 3) := by decide +kernel
theorem dX1_passWeek_4 : decode cX1_passWeek 4 = .ok (.ifCond .le 20, 3) := by decide +kernel
theorem dX1_passWeek_7 : decode cX1_passWeek 7 = .ok (.aload_n 0, 1) := by decide +kernel
theorem dX1_passWeek_8 : decode cX1_passWeek 8 = .ok (.invokevirtual 80, 3) := by decide +kernel
theorem dX1_passWeek_11 : decode cX1_passWeek 11 = .ok (.aload_n 0, 1) := by decide +kernel
theorem dX1_passWeek_12 : decode cX1_passWeek 12 = .ok (.getfield 34, 3) := by decide +kernel
theorem dX1_passWeek_15 : decode cX1_passWeek 15 = .ok (.iconst 1, 1) := by decide +kernel
theorem dX1_passWeek_16 : decode cX1_passWeek 16 = .ok (.isub, 1) := by decide +kernel
theorem dX1_passWeek_17 : decode cX1_passWeek 17 = .ok (.if_icmp .ne 7, 3) := by decide +kernel
theorem dX1_passWeek_20 : decode cX1_passWeek 20 = .ok (.aload_n 0, 1) := by decide +kernel
theorem dX1_passWeek_21 : decode cX1_passWeek 21 = .ok (.invokevirtual 90, 3) := by decide +kernel
theorem dX1_passWeek_24 : decode cX1_passWeek 24 = .ok (.aload_n 0, 1) := by decide +kernel
theorem dX1_passWeek_25 : decode cX1_passWeek 25 = .ok (.dup, 1) := by decide +kernel
theorem dX1_passWeek_26 : decode cX1_passWeek 26 = .ok (.getfield 37, 3) := by decide +kernel
theorem dX1_passWeek_29 : decode cX1_passWeek 29 = .ok (.iconst 1, 1) := by decide +kernel
theorem dX1_passWeek_30 : decode cX1_passWeek 30 = .ok (.iadd, 1) := by decide +kernel
theorem dX1_passWeek_31 : decode cX1_passWeek 31 = .ok (.putfield 37, 3) := by decide +kernel
theorem dX1_passWeek_34 : decode cX1_passWeek 34 = .ok (.return_, 1) := by decide +kernel
theorem dX1_closeYear_0 : decode cX1_closeYear 0 = .ok (.iconst 0, 1) := by decide +kernel
theorem dX1_closeYear_1 : decode cX1_closeYear 1 = .ok (.istore_n 1, 1) := by decide +kernel
theorem dX1_closeYear_2 : decode cX1_closeYear 2 = .ok (.iload_n 1, 1) := by decide +kernel
theorem dX1_closeYear_3 : decode cX1_closeYear 3 = .ok (.aload_n 0, 1) := by decide +kernel
theorem dX1_closeYear_4 : decode cX1_closeYear 4 = .ok (.getfield 30, 3) := by decide +kernel
theorem dX1_closeYear_7 : decode cX1_closeYear 7 = .ok (.if_icmp .ge 44, 3) := by decide +kernel
theorem dX1_closeYear_10 : decode cX1_closeYear 10 = .ok (.aload_n 0, 1) := by decide +kernel
theorem dX1_closeYear_11 : decode cX1_closeYear 11 = .ok (.getfield 18, 3) := by decide +kernel
theorem dX1_closeYear_14 : decode cX1_closeYear 14 = .ok (.iload_n 1, 1) := by decide +kernel
theorem dX1_closeYear_15 : decode cX1_closeYear 15 = .ok (.iaload, 1) := by decide +kernel
theorem dX1_closeYear_16 : decode cX1_closeYear 16 = .ok (.ifCond .ne 22, 3) := by decide +kernel
theorem dX1_closeYear_19 : decode cX1_closeYear 19 = .ok (.aload_n 0, 1) := by decide +kernel
theorem dX1_closeYear_20 : decode cX1_closeYear 20 = .ok (.getfield 21, 3) := by decide +kernel
theorem dX1_closeYear_23 : decode cX1_closeYear 23 = .ok (.iload_n 1, 1) := by decide +kernel
theorem dX1_closeYear_24 : decode cX1_closeYear 24 = .ok (.bipush 99, 2) := by decide +kernel
theorem dX1_closeYear_26 : decode cX1_closeYear 26 = .ok (.aload_n 0, 1) := by decide +kernel
theorem dX1_closeYear_27 : decode cX1_closeYear 27 = .ok (.getfield 21, 3) := by decide +kernel
theorem dX1_closeYear_30 : decode cX1_closeYear 30 = .ok (.iload_n 1, 1) := by decide +kernel
theorem dX1_closeYear_31 : decode cX1_closeYear 31 = .ok (.iaload, 1) := by decide +kernel
theorem dX1_closeYear_32 : decode cX1_closeYear 32 = .ok (.iconst 1, 1) := by decide +kernel
theorem dX1_closeYear_33 : decode cX1_closeYear 33 = .ok (.iadd, 1) := by decide +kernel
theorem dX1_closeYear_34 : decode cX1_closeYear 34 = .ok (.invokestatic 74, 3) := by decide +kernel
theorem dX1_closeYear_37 : decode cX1_closeYear 37 = .ok (.iastore, 1) := by decide +kernel
theorem dX1_closeYear_38 : decode cX1_closeYear 38 = .ok (.aload_n 0, 1) := by decide +kernel
theorem dX1_closeYear_39 : decode cX1_closeYear 39 = .ok (.getfield 18, 3) := by decide +kernel
theorem dX1_closeYear_42 : decode cX1_closeYear 42 = .ok (.iload_n 1, 1) := by decide +kernel
theorem dX1_closeYear_43 : decode cX1_closeYear 43 = .ok (.iconst 0, 1) := by decide +kernel
theorem dX1_closeYear_44 : decode cX1_closeYear 44 = .ok (.iastore, 1) := by decide +kernel
theorem dX1_closeYear_45 : decode cX1_closeYear 45 = .ok (.iinc 1 1, 3) := by decide +kernel
theorem dX1_closeYear_48 : decode cX1_closeYear 48 = .ok (.goto (-46), 3) := by decide +kernel
theorem dX1_closeYear_51 : decode cX1_closeYear 51 = .ok (.return_, 1) := by decide +kernel
theorem dX1_runWeeks_0 : decode cX1_runWeeks 0 = .ok (.iconst 0, 1) := by decide +kernel
theorem dX1_runWeeks_1 : decode cX1_runWeeks 1 = .ok (.istore_n 2, 1) := by decide +kernel
theorem dX1_runWeeks_2 : decode cX1_runWeeks 2 = .ok (.iconst 0, 1) := by decide +kernel
theorem dX1_runWeeks_3 : decode cX1_runWeeks 3 = .ok (.istore_n 3, 1) := by decide +kernel
theorem dX1_runWeeks_4 : decode cX1_runWeeks 4 = .ok (.iload_n 3, 1) := by decide +kernel
theorem dX1_runWeeks_5 : decode cX1_runWeeks 5 = .ok (.iload_n 1, 1) := by decide +kernel
theorem dX1_runWeeks_6 : decode cX1_runWeeks 6 = .ok (.if_icmp .ge 20, 3) := by decide +kernel
theorem dX1_runWeeks_9 : decode cX1_runWeeks 9 = .ok (.aload_n 0, 1) := by decide +kernel
theorem dX1_runWeeks_10 : decode cX1_runWeeks 10 = .ok (.iconst 0, 1) := by decide +kernel
theorem dX1_runWeeks_11 : decode cX1_runWeeks 11 = .ok (.invokevirtual 93, 3) := by decide +kernel
theorem dX1_runWeeks_14 : decode cX1_runWeeks 14 = .ok (.ifCond .lt 6, 3) := by decide +kernel
theorem dX1_runWeeks_17 : decode cX1_runWeeks 17 = .ok (.iinc 2 1, 3) := by decide +kernel
theorem dX1_runWeeks_20 : decode cX1_runWeeks 20 = .ok (.iinc 3 1, 3) := by decide +kernel
theorem dX1_runWeeks_23 : decode cX1_runWeeks 23 = .ok (.goto (-19), 3) := by decide +kernel
theorem dX1_runWeeks_26 : decode cX1_runWeeks 26 = .ok (.iload_n 2, 1) := by decide +kernel
theorem dX1_runWeeks_27 : decode cX1_runWeeks 27 = .ok (.ireturn, 1) := by decide +kernel
theorem dX1_owedBehind_0 : decode cX1_owedBehind 0 = .ok (.aload_n 0, 1) := by decide +kernel
theorem dX1_owedBehind_1 : decode cX1_owedBehind 1 = .ok (.iload_n 1, 1) := by decide +kernel
theorem dX1_owedBehind_2 : decode cX1_owedBehind 2 = .ok (.invokevirtual 97, 3) := by decide +kernel
theorem dX1_owedBehind_5 : decode cX1_owedBehind 5 = .ok (.pop, 1) := by decide +kernel
theorem dX1_owedBehind_6 : decode cX1_owedBehind 6 = .ok (.aload_n 0, 1) := by decide +kernel
theorem dX1_owedBehind_7 : decode cX1_owedBehind 7 = .ok (.invokevirtual 100, 3) := by decide +kernel
theorem dX1_owedBehind_10 : decode cX1_owedBehind 10 = .ok (.ireturn, 1) := by decide +kernel
theorem dX1_firstLoss_0 : decode cX1_firstLoss 0 = .ok (.iconst 0, 1) := by decide +kernel
theorem dX1_firstLoss_1 : decode cX1_firstLoss 1 = .ok (.istore_n 3, 1) := by decide +kernel
theorem dX1_firstLoss_2 : decode cX1_firstLoss 2 = .ok (.iload_n 3, 1) := by decide +kernel
theorem dX1_firstLoss_3 : decode cX1_firstLoss 3 = .ok (.iload_n 2, 1) := by decide +kernel
theorem dX1_firstLoss_4 : decode cX1_firstLoss 4 = .ok (.if_icmp .ge 20, 3) := by decide +kernel
theorem dX1_firstLoss_7 : decode cX1_firstLoss 7 = .ok (.aload_n 0, 1) := by decide +kernel
theorem dX1_firstLoss_8 : decode cX1_firstLoss 8 = .ok (.iconst 0, 1) := by decide +kernel
theorem dX1_firstLoss_9 : decode cX1_firstLoss 9 = .ok (.invokevirtual 93, 3) := by decide +kernel
theorem dX1_firstLoss_12 : decode cX1_firstLoss 12 = .ok (.iload_n 1, 1) := by decide +kernel
theorem dX1_firstLoss_13 : decode cX1_firstLoss 13 = .ok (.if_icmp .ne 5, 3) := by decide +kernel
theorem dX1_firstLoss_16 : decode cX1_firstLoss 16 = .ok (.iload_n 3, 1) := by decide +kernel
theorem dX1_firstLoss_17 : decode cX1_firstLoss 17 = .ok (.ireturn, 1) := by decide +kernel
theorem dX1_firstLoss_18 : decode cX1_firstLoss 18 = .ok (.iinc 3 1, 3) := by decide +kernel
theorem dX1_firstLoss_21 : decode cX1_firstLoss 21 = .ok (.goto (-19), 3) := by decide +kernel
theorem dX1_firstLoss_24 : decode cX1_firstLoss 24 = .ok (.bipush (-4), 2) := by decide +kernel
theorem dX1_firstLoss_26 : decode cX1_firstLoss 26 = .ok (.ireturn, 1) := by decide +kernel
theorem dX1_owed_0 : decode cX1_owed 0 = .ok (.aload_n 0, 1) := by decide +kernel
theorem dX1_owed_1 : decode cX1_owed 1 = .ok (.aload_n 0, 1) := by decide +kernel
theorem dX1_owed_2 : decode cX1_owed 2 = .ok (.getfield 21, 3) := by decide +kernel
theorem dX1_owed_5 : decode cX1_owed 5 = .ok (.invokevirtual 103, 3) := by decide +kernel
theorem dX1_owed_8 : decode cX1_owed 8 = .ok (.ireturn, 1) := by decide +kernel
theorem dX1_withLosses_0 : decode cX1_withLosses 0 = .ok (.iconst 0, 1) := by decide +kernel
theorem dX1_withLosses_1 : decode cX1_withLosses 1 = .ok (.istore_n 1, 1) := by decide +kernel
theorem dX1_withLosses_2 : decode cX1_withLosses 2 = .ok (.iconst 0, 1) := by decide +kernel
theorem dX1_withLosses_3 : decode cX1_withLosses 3 = .ok (.istore_n 2, 1) := by decide +kernel
theorem dX1_withLosses_4 : decode cX1_withLosses 4 = .ok (.iload_n 2, 1) := by decide +kernel
theorem dX1_withLosses_5 : decode cX1_withLosses 5 = .ok (.aload_n 0, 1) := by decide +kernel
theorem dX1_withLosses_6 : decode cX1_withLosses 6 = .ok (.getfield 30, 3) := by decide +kernel
theorem dX1_withLosses_9 : decode cX1_withLosses 9 = .ok (.if_icmp .ge 24, 3) := by decide +kernel
theorem dX1_withLosses_12 : decode cX1_withLosses 12 = .ok (.aload_n 0, 1) := by decide +kernel
theorem dX1_withLosses_13 : decode cX1_withLosses 13 = .ok (.getfield 18, 3) := by decide +kernel
theorem dX1_withLosses_16 : decode cX1_withLosses 16 = .ok (.iload_n 2, 1) := by decide +kernel
theorem dX1_withLosses_17 : decode cX1_withLosses 17 = .ok (.iaload, 1) := by decide +kernel
theorem dX1_withLosses_18 : decode cX1_withLosses 18 = .ok (.ifCond .le 9, 3) := by decide +kernel
theorem dX1_withLosses_21 : decode cX1_withLosses 21 = .ok (.iload_n 1, 1) := by decide +kernel
theorem dX1_withLosses_22 : decode cX1_withLosses 22 = .ok (.iconst 1, 1) := by decide +kernel
theorem dX1_withLosses_23 : decode cX1_withLosses 23 = .ok (.iload_n 2, 1) := by decide +kernel
theorem dX1_withLosses_24 : decode cX1_withLosses 24 = .ok (.ishl, 1) := by decide +kernel
theorem dX1_withLosses_25 : decode cX1_withLosses 25 = .ok (.ior, 1) := by decide +kernel
theorem dX1_withLosses_26 : decode cX1_withLosses 26 = .ok (.istore_n 1, 1) := by decide +kernel
theorem dX1_withLosses_27 : decode cX1_withLosses 27 = .ok (.iinc 2 1, 3) := by decide +kernel
theorem dX1_withLosses_30 : decode cX1_withLosses 30 = .ok (.goto (-26), 3) := by decide +kernel
theorem dX1_withLosses_33 : decode cX1_withLosses 33 = .ok (.iload_n 1, 1) := by decide +kernel
theorem dX1_withLosses_34 : decode cX1_withLosses 34 = .ok (.ireturn, 1) := by decide +kernel
theorem dX1_sumOverTowns_0 : decode cX1_sumOverTowns 0 = .ok (.iconst 0, 1) := by decide +kernel
theorem dX1_sumOverTowns_1 : decode cX1_sumOverTowns 1 = .ok (.istore_n 2, 1) := by decide +kernel
theorem dX1_sumOverTowns_2 : decode cX1_sumOverTowns 2 = .ok (.iconst 0, 1) := by decide +kernel
theorem dX1_sumOverTowns_3 : decode cX1_sumOverTowns 3 = .ok (.istore_n 3, 1) := by decide +kernel
theorem dX1_sumOverTowns_4 : decode cX1_sumOverTowns 4 = .ok (.iload_n 3, 1) := by decide +kernel
theorem dX1_sumOverTowns_5 : decode cX1_sumOverTowns 5 = .ok (.aload_n 0, 1) := by decide +kernel
theorem dX1_sumOverTowns_6 : decode cX1_sumOverTowns 6 = .ok (.getfield 30, 3) := by decide +kernel
theorem dX1_sumOverTowns_9 : decode cX1_sumOverTowns 9 = .ok (.if_icmp .ge 21, 3) := by decide +kernel
theorem dX1_sumOverTowns_12 : decode cX1_sumOverTowns 12 = .ok (.iload_n 3, 1) := by decide +kernel
theorem dX1_sumOverTowns_13 : decode cX1_sumOverTowns 13 = .ok (.aload_n 1, 1) := by decide +kernel
theorem dX1_sumOverTowns_14 : decode cX1_sumOverTowns 14 = .ok (.arraylength, 1) := by decide +kernel
theorem dX1_sumOverTowns_15 : decode cX1_sumOverTowns 15 = .ok (.if_icmp .ge 15, 3) := by decide +kernel
theorem dX1_sumOverTowns_18 : decode cX1_sumOverTowns 18 = .ok (.iload_n 2, 1) := by decide +kernel
theorem dX1_sumOverTowns_19 : decode cX1_sumOverTowns 19 = .ok (.aload_n 1, 1) := by decide +kernel
theorem dX1_sumOverTowns_20 : decode cX1_sumOverTowns 20 = .ok (.iload_n 3, 1) := by decide +kernel
theorem dX1_sumOverTowns_21 : decode cX1_sumOverTowns 21 = .ok (.iaload, 1) := by decide +kernel
theorem dX1_sumOverTowns_22 : decode cX1_sumOverTowns 22 = .ok (.iadd, 1) := by decide +kernel
theorem dX1_sumOverTowns_23 : decode cX1_sumOverTowns 23 = .ok (.istore_n 2, 1) := by decide +kernel
theorem dX1_sumOverTowns_24 : decode cX1_sumOverTowns 24 = .ok (.iinc 3 1, 3) := by decide +kernel
theorem dX1_sumOverTowns_27 : decode cX1_sumOverTowns 27 = .ok (.goto (-23), 3) := by decide +kernel
theorem dX1_sumOverTowns_30 : decode cX1_sumOverTowns 30 = .ok (.iload_n 2, 1) := by decide +kernel
theorem dX1_sumOverTowns_31 : decode cX1_sumOverTowns 31 = .ok (.ireturn, 1) := by decide +kernel
theorem dX2_init_0 : decode cX2_init 0 = .ok (.aload_n 0, 1) := by decide +kernel
theorem dX2_init_1 : decode cX2_init 1 = .ok (.invokespecial 3, 3) := by decide +kernel
theorem dX2_init_4 : decode cX2_init 4 = .ok (.aload_n 0, 1) := by decide +kernel
theorem dX2_init_5 : decode cX2_init 5 = .ok (.bipush 40, 2) := by decide +kernel
theorem dX2_init_7 : decode cX2_init 7 = .ok (.newarray .int, 2) := by decide +kernel
theorem dX2_init_9 : decode cX2_init 9 = .ok (.putfield 9, 3) := by decide +kernel
theorem dX2_init_12 : decode cX2_init 12 = .ok (.aload_n 0, 1) := by decide +kernel
theorem dX2_init_13 : decode cX2_init 13 = .ok (.iconst (-1), 1) := by decide +kernel
theorem dX2_init_14 : decode cX2_init 14 = .ok (.putfield 15, 3) := by decide +kernel
theorem dX2_init_17 : decode cX2_init 17 = .ok (.return_, 1) := by decide +kernel
theorem dX2_isThere_0 : decode cX2_isThere 0 = .ok (.aload_n 0, 1) := by decide +kernel
theorem dX2_isThere_1 : decode cX2_isThere 1 = .ok (.getfield 15, 3) := by decide +kernel
theorem dX2_isThere_4 : decode cX2_isThere 4 = .ok (.iconst (-1), 1) := by decide +kernel
theorem dX2_isThere_5 : decode cX2_isThere 5 = .ok (.if_icmp .eq 7, 3) := by decide +kernel
theorem dX2_isThere_8 : decode cX2_isThere 8 = .ok (.iconst 1, 1) := by decide +kernel
theorem dX2_isThere_9 : decode cX2_isThere 9 = .ok (.goto 4, 3) := by decide +kernel
theorem dX2_isThere_12 : decode cX2_isThere 12 = .ok (.iconst 0, 1) := by decide +kernel
theorem dX2_isThere_13 : decode cX2_isThere 13 = .ok (.ireturn, 1) := by decide +kernel
theorem dX2_hasCell_0 : decode cX2_hasCell 0 = .ok (.iload_n 1, 1) := by decide +kernel
theorem dX2_hasCell_1 : decode cX2_hasCell 1 = .ok (.ifCond .lt 15, 3) := by decide +kernel
theorem dX2_hasCell_4 : decode cX2_hasCell 4 = .ok (.iload_n 1, 1) := by decide +kernel
theorem dX2_hasCell_5 : decode cX2_hasCell 5 = .ok (.aload_n 0, 1) := by decide +kernel
theorem dX2_hasCell_6 : decode cX2_hasCell 6 = .ok (.getfield 15, 3) := by decide +kernel
theorem dX2_hasCell_9 : decode cX2_hasCell 9 = .ok (.if_icmp .ge 7, 3) := by decide +kernel
theorem dX2_hasCell_12 : decode cX2_hasCell 12 = .ok (.iconst 1, 1) := by decide +kernel
theorem dX2_hasCell_13 : decode cX2_hasCell 13 = .ok (.goto 4, 3) := by decide +kernel
theorem dX2_hasCell_16 : decode cX2_hasCell 16 = .ok (.iconst 0, 1) := by decide +kernel
theorem dX2_hasCell_17 : decode cX2_hasCell 17 = .ok (.ireturn, 1) := by decide +kernel
theorem dX2_renew_0 : decode cX2_renew 0 = .ok (.aload_n 0, 1) := by decide +kernel
theorem dX2_renew_1 : decode cX2_renew 1 = .ok (.iload_n 1, 1) := by decide +kernel
theorem dX2_renew_2 : decode cX2_renew 2 = .ok (.putfield 19, 3) := by decide +kernel
theorem dX2_renew_5 : decode cX2_renew 5 = .ok (.aload_n 0, 1) := by decide +kernel
theorem dX2_renew_6 : decode cX2_renew 6 = .ok (.iload_n 2, 1) := by decide +kernel
theorem dX2_renew_7 : decode cX2_renew 7 = .ok (.putfield 15, 3) := by decide +kernel
theorem dX2_renew_10 : decode cX2_renew 10 = .ok (.iconst 0, 1) := by decide +kernel
theorem dX2_renew_11 : decode cX2_renew 11 = .ok (.istore_n 3, 1) := by decide +kernel
theorem dX2_renew_12 : decode cX2_renew 12 = .ok (.iload_n 3, 1) := by decide +kernel
theorem dX2_renew_13 : decode cX2_renew 13 = .ok (.iload_n 2, 1) := by decide +kernel
theorem dX2_renew_14 : decode cX2_renew 14 = .ok (.if_icmp .ge 16, 3) := by decide +kernel
theorem dX2_renew_17 : decode cX2_renew 17 = .ok (.aload_n 0, 1) := by decide +kernel
theorem dX2_renew_18 : decode cX2_renew 18 = .ok (.getfield 9, 3) := by decide +kernel
theorem dX2_renew_21 : decode cX2_renew 21 = .ok (.iload_n 3, 1) := by decide +kernel
theorem dX2_renew_22 : decode cX2_renew 22 = .ok (.iconst 0, 1) := by decide +kernel
theorem dX2_renew_23 : decode cX2_renew 23 = .ok (.iastore, 1) := by decide +kernel
theorem dX2_renew_24 : decode cX2_renew 24 = .ok (.iinc 3 1, 3) := by decide +kernel
theorem dX2_renew_27 : decode cX2_renew 27 = .ok (.goto (-15), 3) := by decide +kernel
theorem dX2_renew_30 : decode cX2_renew 30 = .ok (.return_, 1) := by decide +kernel
theorem dX2_put_0 : decode cX2_put 0 = .ok (.aload_n 0, 1) := by decide +kernel
theorem dX2_put_1 : decode cX2_put 1 = .ok (.getfield 19, 3) := by decide +kernel
theorem dX2_put_4 : decode cX2_put 4 = .ok (.lookupswitch 50 #[(0, 28), (1, 39)], 28) := by decide +kernel
theorem dX2_put_32 : decode cX2_put 32 = .ok (.aload_n 0, 1) := by decide +kernel
theorem dX2_put_33 : decode cX2_put 33 = .ok (.getfield 9, 3) := by decide +kernel
theorem dX2_put_36 : decode cX2_put 36 = .ok (.iload_n 1, 1) := by decide +kernel
theorem dX2_put_37 : decode cX2_put 37 = .ok (.iload_n 2, 1) := by decide +kernel
theorem dX2_put_38 : decode cX2_put 38 = .ok (.i2b, 1) := by decide +kernel
theorem dX2_put_39 : decode cX2_put 39 = .ok (.iastore, 1) := by decide +kernel
theorem dX2_put_40 : decode cX2_put 40 = .ok (.goto 21, 3) := by decide +kernel
theorem dX2_put_43 : decode cX2_put 43 = .ok (.aload_n 0, 1) := by decide +kernel
theorem dX2_put_44 : decode cX2_put 44 = .ok (.getfield 9, 3) := by decide +kernel
theorem dX2_put_47 : decode cX2_put 47 = .ok (.iload_n 1, 1) := by decide +kernel
theorem dX2_put_48 : decode cX2_put 48 = .ok (.iload_n 2, 1) := by decide +kernel
theorem dX2_put_49 : decode cX2_put 49 = .ok (.i2s, 1) := by decide +kernel
theorem dX2_put_50 : decode cX2_put 50 = .ok (.iastore, 1) := by decide +kernel
theorem dX2_put_51 : decode cX2_put 51 = .ok (.goto 10, 3) := by decide +kernel
theorem dX2_put_54 : decode cX2_put 54 = .ok (.aload_n 0, 1) := by decide +kernel
theorem dX2_put_55 : decode cX2_put 55 = .ok (.getfield 9, 3) := by decide +kernel
theorem dX2_put_58 : decode cX2_put 58 = .ok (.iload_n 1, 1) := by decide +kernel
theorem dX2_put_59 : decode cX2_put 59 = .ok (.iload_n 2, 1) := by decide +kernel
theorem dX2_put_60 : decode cX2_put 60 = .ok (.iastore, 1) := by decide +kernel
theorem dX2_put_61 : decode cX2_put 61 = .ok (.return_, 1) := by decide +kernel
theorem dX2_pairFault_0 : decode cX2_pairFault 0 = .ok (.aload_n 0, 1) := by decide +kernel
theorem dX2_pairFault_1 : decode cX2_pairFault 1 = .ok (.invokevirtual 22, 3) := by decide +kernel
theorem dX2_pairFault_4 : decode cX2_pairFault 4 = .ok (.ifCond .ne 5, 3) := by decide +kernel
theorem dX2_pairFault_7 : decode cX2_pairFault 7 = .ok (.iconst 1, 1) := by decide +kernel
theorem dX2_pairFault_8 : decode cX2_pairFault 8 = .ok (.ireturn, 1) := by decide +kernel
theorem dX2_pairFault_9 : decode cX2_pairFault 9 = .ok (.iload_n 1, 1) := by decide +kernel
theorem dX2_pairFault_10 : decode cX2_pairFault 10 = .ok (.aload_n 0, 1) := by decide +kernel
theorem dX2_pairFault_11 : decode cX2_pairFault 11 = .ok (.getfield 19, 3) := by decide +kernel
theorem dX2_pairFault_14 : decode cX2_pairFault 14 = .ok (.if_icmp .eq 5, 3) := by decide +kernel
theorem dX2_pairFault_17 : decode cX2_pairFault 17 = .ok (.iconst 3, 1) := by decide +kernel
theorem dX2_pairFault_18 : decode cX2_pairFault 18 = .ok (.ireturn, 1) := by decide +kernel
theorem dX2_pairFault_19 : decode cX2_pairFault 19 = .ok (.aload_n 0, 1) := by decide +kernel
theorem dX2_pairFault_20 : decode cX2_pairFault 20 = .ok (.iload_n 2, 1) := by decide +kernel
theorem dX2_pairFault_21 : decode cX2_pairFault 21 = .ok (.invokevirtual 26, 3) := by decide +kernel
theorem dX2_pairFault_24 : decode cX2_pairFault 24 = .ok (.ifCond .eq 13, 3) := by decide +kernel
theorem dX2_pairFault_27 : decode cX2_pairFault 27 = .ok (.aload_n 0, 1) := by decide +kernel
theorem dX2_pairFault_28 : decode cX2_pairFault 28 = .ok (.iload_n 2, 1) := by decide +kernel
theorem dX2_pairFault_29 : decode cX2_pairFault 29 = .ok (.iconst 1, 1) := by decide +kernel
theorem dX2_pairFault_30 : decode cX2_pairFault 30 = .ok (.iadd, 1) := by decide +kernel
theorem dX2_pairFault_31 : decode cX2_pairFault 31 = .ok (.invokevirtual 26, 3) := by decide +kernel
theorem dX2_pairFault_34 : decode cX2_pairFault 34 = .ok (.ifCond .ne 5, 3) := by decide +kernel
theorem dX2_pairFault_37 : decode cX2_pairFault 37 = .ok (.iconst 2, 1) := by decide +kernel
theorem dX2_pairFault_38 : decode cX2_pairFault 38 = .ok (.ireturn, 1) := by decide +kernel
theorem dX2_pairFault_39 : decode cX2_pairFault 39 = .ok (.iconst 0, 1) := by decide +kernel
theorem dX2_pairFault_40 : decode cX2_pairFault 40 = .ok (.ireturn, 1) := by decide +kernel
theorem dX3_init_0 : decode cX3_init 0 = .ok (.aload_n 0, 1) := by decide +kernel
theorem dX3_init_1 : decode cX3_init 1 = .ok (.invokespecial 3, 3) := by decide +kernel
theorem dX3_init_4 : decode cX3_init 4 = .ok (.aload_n 0, 1) := by decide +kernel
theorem dX3_init_5 : decode cX3_init 5 = .ok (.bipush 6, 2) := by decide +kernel
theorem dX3_init_7 : decode cX3_init 7 = .ok (.newarray .int, 2) := by decide +kernel
theorem dX3_init_9 : decode cX3_init 9 = .ok (.putfield 11, 3) := by decide +kernel
theorem dX3_init_12 : decode cX3_init 12 = .ok (.aload_n 0, 1) := by decide +kernel
theorem dX3_init_13 : decode cX3_init 13 = .ok (.bipush 6, 2) := by decide +kernel
theorem dX3_init_15 : decode cX3_init 15 = .ok (.newarray .int, 2) := by decide +kernel
theorem dX3_init_17 : decode cX3_init 17 = .ok (.putfield 15, 3) := by decide +kernel
theorem dX3_init_20 : decode cX3_init 20 = .ok (.return_, 1) := by decide +kernel
theorem dX3_add_0 : decode cX3_add 0 = .ok (.aload_n 0, 1) := by decide +kernel
theorem dX3_add_1 : decode cX3_add 1 = .ok (.getfield 18, 3) := by decide +kernel
theorem dX3_add_4 : decode cX3_add 4 = .ok (.bipush 6, 2) := by decide +kernel
theorem dX3_add_6 : decode cX3_add 6 = .ok (.if_icmp .lt 5, 3) := by decide +kernel
theorem dX3_add_9 : decode cX3_add 9 = .ok (.iconst 0, 1) := by decide +kernel
theorem dX3_add_10 : decode cX3_add 10 = .ok (.ireturn, 1) := by decide +kernel
theorem dX3_add_11 : decode cX3_add 11 = .ok (.aload_n 0, 1) := by decide +kernel
theorem dX3_add_12 : decode cX3_add 12 = .ok (.getfield 11, 3) := by decide +kernel
theorem dX3_add_15 : decode cX3_add 15 = .ok (.aload_n 0, 1) := by decide +kernel
theorem dX3_add_16 : decode cX3_add 16 = .ok (.getfield 18, 3) := by decide +kernel
theorem dX3_add_19 : decode cX3_add 19 = .ok (.iload_n 1, 1) := by decide +kernel
theorem dX3_add_20 : decode cX3_add 20 = .ok (.iastore, 1) := by decide +kernel
theorem dX3_add_21 : decode cX3_add 21 = .ok (.aload_n 0, 1) := by decide +kernel
theorem dX3_add_22 : decode cX3_add 22 = .ok (.getfield 15, 3) := by decide +kernel
theorem dX3_add_25 : decode cX3_add 25 = .ok (.aload_n 0, 1) := by decide +kernel
theorem dX3_add_26 : decode cX3_add 26 = .ok (.getfield 18, 3) := by decide +kernel
theorem dX3_add_29 : decode cX3_add 29 = .ok (.iload_n 2, 1) := by decide +kernel
theorem dX3_add_30 : decode cX3_add 30 = .ok (.iastore, 1) := by decide +kernel
theorem dX3_add_31 : decode cX3_add 31 = .ok (.aload_n 0, 1) := by decide +kernel
theorem dX3_add_32 : decode cX3_add 32 = .ok (.dup, 1) := by decide +kernel
theorem dX3_add_33 : decode cX3_add 33 = .ok (.getfield 18, 3) := by decide +kernel
theorem dX3_add_36 : decode cX3_add 36 = .ok (.iconst 1, 1) := by decide +kernel
theorem dX3_add_37 : decode cX3_add 37 = .ok (.iadd, 1) := by decide +kernel
theorem dX3_add_38 : decode cX3_add 38 = .ok (.putfield 18, 3) := by decide +kernel
theorem dX3_add_41 : decode cX3_add 41 = .ok (.iconst 1, 1) := by decide +kernel
theorem dX3_add_42 : decode cX3_add 42 = .ok (.ireturn, 1) := by decide +kernel
theorem dX3_fit_0 : decode cX3_fit 0 = .ok (.iconst 0, 1) := by decide +kernel
theorem dX3_fit_1 : decode cX3_fit 1 = .ok (.istore_n 2, 1) := by decide +kernel
theorem dX3_fit_2 : decode cX3_fit 2 = .ok (.iload_n 2, 1) := by decide +kernel
theorem dX3_fit_3 : decode cX3_fit 3 = .ok (.bipush 21, 2) := by decide +kernel
theorem dX3_fit_5 : decode cX3_fit 5 = .ok (.if_icmp .ge 35, 3) := by decide +kernel
theorem dX3_fit_8 : decode cX3_fit 8 = .ok (.aload_n 1, 1) := by decide +kernel
theorem dX3_fit_9 : decode cX3_fit 9 = .ok (.iconst 0, 1) := by decide +kernel
theorem dX3_fit_10 : decode cX3_fit 10 = .ok (.invokevirtual 22, 3) := by decide +kernel
theorem dX3_fit_13 : decode cX3_fit 13 = .ok (.istore_n 3, 1) := by decide +kernel
theorem dX3_fit_14 : decode cX3_fit 14 = .ok (.aload_n 0, 1) := by decide +kernel
theorem dX3_fit_15 : decode cX3_fit 15 = .ok (.iload_n 2, 1) := by decide +kernel
theorem dX3_fit_16 : decode cX3_fit 16 = .ok (.iload_n 3, 1) := by decide +kernel
theorem dX3_fit_17 : decode cX3_fit 17 = .ok (.ifCond .ge 8, 3) := by decide +kernel
theorem dX3_fit_20 : decode cX3_fit 20 = .ok (.bipush 9, 2) := by decide +kernel
theorem dX3_fit_22 : decode cX3_fit 22 = .ok (.goto 4, 3) := by decide +kernel
theorem dX3_fit_25 : decode cX3_fit 25 = .ok (.iload_n 3, 1) := by decide +kernel
theorem dX3_fit_26 : decode cX3_fit 26 = .ok (.invokevirtual 28, 3) := by decide +kernel
theorem dX3_fit_29 : decode cX3_fit 29 = .ok (.ifCond .ne 5, 3) := by decide +kernel
theorem dX3_fit_32 : decode cX3_fit 32 = .ok (.iconst 0, 1) := by decide +kernel
theorem dX3_fit_33 : decode cX3_fit 33 = .ok (.ireturn, 1) := by decide +kernel
theorem dX3_fit_34 : decode cX3_fit 34 = .ok (.iinc 2 1, 3) := by decide +kernel
theorem dX3_fit_37 : decode cX3_fit 37 = .ok (.goto (-35), 3) := by decide +kernel
theorem dX3_fit_40 : decode cX3_fit 40 = .ok (.iconst 1, 1) := by decide +kernel
theorem dX3_fit_41 : decode cX3_fit 41 = .ok (.ireturn, 1) := by decide +kernel
theorem dX3_fitsWeek_0 : decode cX3_fitsWeek 0 = .ok (.iconst 0, 1) := by decide +kernel
theorem dX3_fitsWeek_1 : decode cX3_fitsWeek 1 = .ok (.istore_n 3, 1) := by decide +kernel
theorem dX3_fitsWeek_2 : decode cX3_fitsWeek 2 = .ok (.iload_n 3, 1) := by decide +kernel
theorem dX3_fitsWeek_3 : decode cX3_fitsWeek 3 = .ok (.aload_n 0, 1) := by decide +kernel
theorem dX3_fitsWeek_4 : decode cX3_fitsWeek 4 = .ok (.getfield 18, 3) := by decide +kernel
theorem dX3_fitsWeek_7 : decode cX3_fitsWeek 7 = .ok (.if_icmp .ge 31, 3) := by decide +kernel
theorem dX3_fitsWeek_10 : decode cX3_fitsWeek 10 = .ok (.aload_n 0, 1) := by decide +kernel
theorem dX3_fitsWeek_11 : decode cX3_fitsWeek 11 = .ok (.getfield 11, 3) := by decide +kernel
theorem dX3_fitsWeek_14 : decode cX3_fitsWeek 14 = .ok (.iload_n 3, 1) := by decide +kernel
theorem dX3_fitsWeek_15 : decode cX3_fitsWeek 15 = .ok (.iaload, 1) := by decide +kernel
theorem dX3_fitsWeek_16 : decode cX3_fitsWeek 16 = .ok (.iload_n 1, 1) := by decide +kernel
theorem dX3_fitsWeek_17 : decode cX3_fitsWeek 17 = .ok (.if_icmp .ne 15, 3) := by decide +kernel
theorem dX3_fitsWeek_20 : decode cX3_fitsWeek 20 = .ok (.aload_n 0, 1) := by decide +kernel
theorem dX3_fitsWeek_21 : decode cX3_fitsWeek 21 = .ok (.getfield 15, 3) := by decide +kernel
theorem dX3_fitsWeek_24 : decode cX3_fitsWeek 24 = .ok (.iload_n 3, 1) := by decide +kernel
theorem dX3_fitsWeek_25 : decode cX3_fitsWeek 25 = .ok (.iaload, 1) := by decide +kernel
theorem dX3_fitsWeek_26 : decode cX3_fitsWeek 26 = .ok (.iload_n 2, 1) := by decide +kernel
theorem dX3_fitsWeek_27 : decode cX3_fitsWeek 27 = .ok (.if_icmp .eq 5, 3) := by decide +kernel
theorem dX3_fitsWeek_30 : decode cX3_fitsWeek 30 = .ok (.iconst 0, 1) := by decide +kernel
theorem dX3_fitsWeek_31 : decode cX3_fitsWeek 31 = .ok (.ireturn, 1) := by decide +kernel
theorem dX3_fitsWeek_32 : decode cX3_fitsWeek 32 = .ok (.iinc 3 1, 3) := by decide +kernel
theorem dX3_fitsWeek_35 : decode cX3_fitsWeek 35 = .ok (.goto (-33), 3) := by decide +kernel
theorem dX3_fitsWeek_38 : decode cX3_fitsWeek 38 = .ok (.iconst 1, 1) := by decide +kernel
theorem dX3_fitsWeek_39 : decode cX3_fitsWeek 39 = .ok (.ireturn, 1) := by decide +kernel
theorem dX4_init_0 : decode cX4_init 0 = .ok (.aload_n 0, 1) := by decide +kernel
theorem dX4_init_1 : decode cX4_init 1 = .ok (.invokespecial 1, 3) := by decide +kernel
theorem dX4_init_4 : decode cX4_init 4 = .ok (.aload_n 0, 1) := by decide +kernel
theorem dX4_init_5 : decode cX4_init 5 = .ok (.sipush 160, 3) := by decide +kernel
theorem dX4_init_8 : decode cX4_init 8 = .ok (.newarray .byte, 2) := by decide +kernel
theorem dX4_init_10 : decode cX4_init 10 = .ok (.putfield 7, 3) := by decide +kernel
theorem dX4_init_13 : decode cX4_init 13 = .ok (.return_, 1) := by decide +kernel
theorem dX4_append_0 : decode cX4_append 0 = .ok (.aload_n 0, 1) := by decide +kernel
theorem dX4_append_1 : decode cX4_append 1 = .ok (.getfield 13, 3) := by decide +kernel
theorem dX4_append_4 : decode cX4_append 4 = .ok (.aload_n 0, 1) := by decide +kernel
theorem dX4_append_5 : decode cX4_append 5 = .ok (.getfield 7, 3) := by decide +kernel
theorem dX4_append_8 : decode cX4_append 8 = .ok (.arraylength, 1) := by decide +kernel
theorem dX4_append_9 : decode cX4_append 9 = .ok (.if_icmp .lt 5, 3) := by decide +kernel
theorem dX4_append_12 : decode cX4_append 12 = .ok (.iconst 0, 1) := by decide +kernel
theorem dX4_append_13 : decode cX4_append 13 = .ok (.ireturn, 1) := by decide +kernel
theorem dX4_append_14 : decode cX4_append 14 = .ok (.aload_n 0, 1) := by decide +kernel
theorem dX4_append_15 : decode cX4_append 15 = .ok (.getfield 7, 3) := by decide +kernel
theorem dX4_append_18 : decode cX4_append 18 = .ok (.aload_n 0, 1) := by decide +kernel
theorem dX4_append_19 : decode cX4_append 19 = .ok (.getfield 13, 3) := by decide +kernel
theorem dX4_append_22 : decode cX4_append 22 = .ok (.iload_n 1, 1) := by decide +kernel
theorem dX4_append_23 : decode cX4_append 23 = .ok (.i2b, 1) := by decide +kernel
theorem dX4_append_24 : decode cX4_append 24 = .ok (.bastore, 1) := by decide +kernel
theorem dX4_append_25 : decode cX4_append 25 = .ok (.aload_n 0, 1) := by decide +kernel
theorem dX4_append_26 : decode cX4_append 26 = .ok (.dup, 1) := by decide +kernel
theorem dX4_append_27 : decode cX4_append 27 = .ok (.getfield 13, 3) := by decide +kernel
theorem dX4_append_30 : decode cX4_append 30 = .ok (.iconst 1, 1) := by decide +kernel
theorem dX4_append_31 : decode cX4_append 31 = .ok (.iadd, 1) := by decide +kernel
theorem dX4_append_32 : decode cX4_append 32 = .ok (.putfield 13, 3) := by decide +kernel
theorem dX4_append_35 : decode cX4_append 35 = .ok (.iconst 1, 1) := by decide +kernel
theorem dX4_append_36 : decode cX4_append 36 = .ok (.ireturn, 1) := by decide +kernel
theorem dX4_byteAt_0 : decode cX4_byteAt 0 = .ok (.iload_n 1, 1) := by decide +kernel
theorem dX4_byteAt_1 : decode cX4_byteAt 1 = .ok (.ifCond .lt 20, 3) := by decide +kernel
theorem dX4_byteAt_4 : decode cX4_byteAt 4 = .ok (.iload_n 1, 1) := by decide +kernel
theorem dX4_byteAt_5 : decode cX4_byteAt 5 = .ok (.aload_n 0, 1) := by decide +kernel
theorem dX4_byteAt_6 : decode cX4_byteAt 6 = .ok (.getfield 13, 3) := by decide +kernel
theorem dX4_byteAt_9 : decode cX4_byteAt 9 = .ok (.if_icmp .ge 12, 3) := by decide +kernel
theorem dX4_byteAt_12 : decode cX4_byteAt 12 = .ok (.aload_n 0, 1) := by decide +kernel
theorem dX4_byteAt_13 : decode cX4_byteAt 13 = .ok (.getfield 7, 3) := by decide +kernel
theorem dX4_byteAt_16 : decode cX4_byteAt 16 = .ok (.iload_n 1, 1) := by decide +kernel
theorem dX4_byteAt_17 : decode cX4_byteAt 17 = .ok (.baload, 1) := by decide +kernel
theorem dX4_byteAt_18 : decode cX4_byteAt 18 = .ok (.goto 4, 3) := by decide +kernel
theorem dX4_byteAt_21 : decode cX4_byteAt 21 = .ok (.iconst 0, 1) := by decide +kernel
theorem dX4_byteAt_22 : decode cX4_byteAt 22 = .ok (.ireturn, 1) := by decide +kernel
theorem dX5_init_0 : decode cX5_init 0 = .ok (.aload_n 0, 1) := by decide +kernel
theorem dX5_init_1 : decode cX5_init 1 = .ok (.invokespecial 3, 3) := by decide +kernel
theorem dX5_init_4 : decode cX5_init 4 = .ok (.aload_n 0, 1) := by decide +kernel
theorem dX5_init_5 : decode cX5_init 5 = .ok (.new 9, 3) := by decide +kernel
theorem dX5_init_8 : decode cX5_init 8 = .ok (.dup, 1) := by decide +kernel
theorem dX5_init_9 : decode cX5_init 9 = .ok (.invokespecial 11, 3) := by decide +kernel
theorem dX5_init_12 : decode cX5_init 12 = .ok (.putfield 12, 3) := by decide +kernel
theorem dX5_init_15 : decode cX5_init 15 = .ok (.return_, 1) := by decide +kernel
theorem dX5_readAll_0 : decode cX5_readAll 0 = .ok (.aload_n 1, 1) := by decide +kernel
theorem dX5_readAll_1 : decode cX5_readAll 1 = .ok (.invokevirtual 18, 3) := by decide +kernel
theorem dX5_readAll_4 : decode cX5_readAll 4 = .ok (.aload_n 0, 1) := by decide +kernel
theorem dX5_readAll_5 : decode cX5_readAll 5 = .ok (.iconst 0, 1) := by decide +kernel
theorem dX5_readAll_6 : decode cX5_readAll 6 = .ok (.putfield 23, 3) := by decide +kernel
theorem dX5_readAll_9 : decode cX5_readAll 9 = .ok (.aload_n 0, 1) := by decide +kernel
theorem dX5_readAll_10 : decode cX5_readAll 10 = .ok (.iconst 0, 1) := by decide +kernel
theorem dX5_readAll_11 : decode cX5_readAll 11 = .ok (.putfield 27, 3) := by decide +kernel
theorem dX5_readAll_14 : decode cX5_readAll 14 = .ok (.aload_n 0, 1) := by decide +kernel
theorem dX5_readAll_15 : decode cX5_readAll 15 = .ok (.iconst 0, 1) := by decide +kernel
theorem dX5_readAll_16 : decode cX5_readAll 16 = .ok (.putfield 30, 3) := by decide +kernel
theorem dX5_readAll_19 : decode cX5_readAll 19 = .ok (.iconst 0, 1) := by decide +kernel
theorem dX5_readAll_20 : decode cX5_readAll 20 = .ok (.istore_n 2, 1) := by decide +kernel
theorem dX5_readAll_21 : decode cX5_readAll 21 = .ok (.iload_n 2, 1) := by decide +kernel
theorem dX5_readAll_22 : decode cX5_readAll 22 = .ok (.bipush 15, 2) := by decide +kernel
theorem dX5_readAll_24 : decode cX5_readAll 24 = .ok (.if_icmp .gt 51, 3) := by decide +kernel
theorem dX5_readAll_27 : decode cX5_readAll 27 = .ok (.aload_n 0, 1) := by decide +kernel
theorem dX5_readAll_28 : decode cX5_readAll 28 = .ok (.invokevirtual 33, 3) := by decide +kernel
theorem dX5_readAll_31 : decode cX5_readAll 31 = .ok (.ifCond .ne 5, 3) := by decide +kernel
theorem dX5_readAll_34 : decode cX5_readAll 34 = .ok (.iload_n 2, 1) := by decide +kernel
theorem dX5_readAll_35 : decode cX5_readAll 35 = .ok (.ireturn, 1) := by decide +kernel
theorem dX5_readAll_36 : decode cX5_readAll 36 = .ok (.aload_n 0, 1) := by decide +kernel
theorem dX5_readAll_37 : decode cX5_readAll 37 = .ok (.getfield 37, 3) := by decide +kernel
theorem dX5_readAll_40 : decode cX5_readAll 40 = .ok (.ifCond .ne 19, 3) := by decide +kernel
theorem dX5_readAll_43 : decode cX5_readAll 43 = .ok (.aload_n 1, 1) := by decide +kernel
theorem dX5_readAll_44 : decode cX5_readAll 44 = .ok (.invokevirtual 40, 3) := by decide +kernel
theorem dX5_readAll_47 : decode cX5_readAll 47 = .ok (.ifCond .eq 10, 3) := by decide +kernel
theorem dX5_readAll_50 : decode cX5_readAll 50 = .ok (.aload_n 0, 1) := by decide +kernel
theorem dX5_readAll_51 : decode cX5_readAll 51 = .ok (.bipush 6, 2) := by decide +kernel
theorem dX5_readAll_53 : decode cX5_readAll 53 = .ok (.invokevirtual 43, 3) := by decide +kernel
theorem dX5_readAll_56 : decode cX5_readAll 56 = .ok (.pop, 1) := by decide +kernel
theorem dX5_readAll_57 : decode cX5_readAll 57 = .ok (.iload_n 2, 1) := by decide +kernel
theorem dX5_readAll_58 : decode cX5_readAll 58 = .ok (.ireturn, 1) := by decide +kernel
theorem dX5_readAll_59 : decode cX5_readAll 59 = .ok (.aload_n 0, 1) := by decide +kernel
theorem dX5_readAll_60 : decode cX5_readAll 60 = .ok (.aload_n 1, 1) := by decide +kernel
theorem dX5_readAll_61 : decode cX5_readAll 61 = .ok (.invokevirtual 47, 3) := by decide +kernel
theorem dX5_readAll_64 : decode cX5_readAll 64 = .ok (.ifCond .ne 5, 3) := by decide +kernel
theorem dX5_readAll_67 : decode cX5_readAll 67 = .ok (.iload_n 2, 1) := by decide +kernel
theorem dX5_readAll_68 : decode cX5_readAll 68 = .ok (.ireturn, 1) := by decide +kernel
theorem dX5_readAll_69 : decode cX5_readAll 69 = .ok (.iinc 2 1, 3) := by decide +kernel
theorem dX5_readAll_72 : decode cX5_readAll 72 = .ok (.goto (-51), 3) := by decide +kernel
theorem dX5_readAll_75 : decode cX5_readAll 75 = .ok (.bipush 15, 2) := by decide +kernel
theorem dX5_readAll_77 : decode cX5_readAll 77 = .ok (.ireturn, 1) := by decide +kernel
theorem dX5_readLine_0 : decode cX5_readLine 0 = .ok (.aload_n 0, 1) := by decide +kernel
theorem dX5_readLine_1 : decode cX5_readLine 1 = .ok (.getfield 37, 3) := by decide +kernel
theorem dX5_readLine_4 : decode cX5_readLine 4 = .ok (.iconst 1, 1) := by decide +kernel
theorem dX5_readLine_5 : decode cX5_readLine 5 = .ok (.if_icmp .ne 10, 3) := by decide +kernel
theorem dX5_readLine_8 : decode cX5_readLine 8 = .ok (.aload_n 0, 1) := by decide +kernel
theorem dX5_readLine_9 : decode cX5_readLine 9 = .ok (.invokevirtual 51, 3) := by decide +kernel
theorem dX5_readLine_12 : decode cX5_readLine 12 = .ok (.goto 4, 3) := by decide +kernel
theorem dX5_readLine_15 : decode cX5_readLine 15 = .ok (.iconst (-1), 1) := by decide +kernel
theorem dX5_readLine_16 : decode cX5_readLine 16 = .ok (.istore_n 2, 1) := by decide +kernel
theorem dX5_readLine_17 : decode cX5_readLine 17 = .ok (.iload_n 2, 1) := by decide +kernel
theorem dX5_readLine_18 : decode cX5_readLine 18 = .ok (.iconst (-1), 1) := by decide +kernel
theorem dX5_readLine_19 : decode cX5_readLine 19 = .ok (.if_icmp .ne 9, 3) := by decide +kernel
theorem dX5_readLine_22 : decode cX5_readLine 22 = .ok (.aload_n 0, 1) := by decide +kernel
theorem dX5_readLine_23 : decode cX5_readLine 23 = .ok (.iconst 2, 1) := by decide +kernel
theorem dX5_readLine_24 : decode cX5_readLine 24 = .ok (.invokevirtual 43, 3) := by decide +kernel
theorem dX5_readLine_27 : decode cX5_readLine 27 = .ok (.ireturn, 1) := by decide +kernel
theorem dX5_readLine_28 : decode cX5_readLine 28 = .ok (.iload_n 2, 1) := by decide +kernel
theorem dX5_readLine_29 : decode cX5_readLine 29 = .ok (.iconst 4, 1) := by decide +kernel
theorem dX5_readLine_30 : decode cX5_readLine 30 = .ok (.if_icmp .ne 11, 3) := by decide +kernel
theorem dX5_readLine_33 : decode cX5_readLine 33 = .ok (.aload_n 0, 1) := by decide +kernel
theorem dX5_readLine_34 : decode cX5_readLine 34 = .ok (.aload_n 1, 1) := by decide +kernel
theorem dX5_readLine_35 : decode cX5_readLine 35 = .ok (.invokevirtual 55, 3) := by decide +kernel
theorem dX5_readLine_38 : decode cX5_readLine 38 = .ok (.goto 9, 3) := by decide +kernel
theorem dX5_readLine_41 : decode cX5_readLine 41 = .ok (.aload_n 0, 1) := by decide +kernel
theorem dX5_readLine_42 : decode cX5_readLine 42 = .ok (.aload_n 1, 1) := by decide +kernel
theorem dX5_readLine_43 : decode cX5_readLine 43 = .ok (.iload_n 2, 1) := by decide +kernel
theorem dX5_readLine_44 : decode cX5_readLine 44 = .ok (.invokevirtual 58, 3) := by decide +kernel
theorem dX5_readLine_47 : decode cX5_readLine 47 = .ok (.ireturn, 1) := by decide +kernel
theorem dX5_readTown_0 : decode cX5_readTown 0 = .ok (.aload_n 1, 1) := by decide +kernel
theorem dX5_readTown_1 : decode cX5_readTown 1 = .ok (.invokevirtual 62, 3) := by decide +kernel
theorem dX5_readTown_4 : decode cX5_readTown 4 = .ok (.ifCond .eq 9, 3) := by decide +kernel
theorem dX5_readTown_7 : decode cX5_readTown 7 = .ok (.aload_n 0, 1) := by decide +kernel
theorem dX5_readTown_8 : decode cX5_readTown 8 = .ok (.iconst 5, 1) := by decide +kernel
theorem dX5_readTown_9 : decode cX5_readTown 9 = .ok (.invokevirtual 43, 3) := by decide +kernel
theorem dX5_readTown_12 : decode cX5_readTown 12 = .ok (.ireturn, 1) := by decide +kernel
theorem dX5_readTown_13 : decode cX5_readTown 13 = .ok (.aload_n 0, 1) := by decide +kernel
theorem dX5_readTown_14 : decode cX5_readTown 14 = .ok (.bipush 20, 2) := by decide +kernel
theorem dX5_readTown_16 : decode cX5_readTown 16 = .ok (.invokevirtual 65, 3) := by decide +kernel
theorem dX5_readTown_19 : decode cX5_readTown 19 = .ok (.ifCond .ne 5, 3) := by decide +kernel
theorem dX5_readTown_22 : decode cX5_readTown 22 = .ok (.iconst 0, 1) := by decide +kernel
theorem dX5_readTown_23 : decode cX5_readTown 23 = .ok (.ireturn, 1) := by decide +kernel
theorem dX5_readTown_24 : decode cX5_readTown 24 = .ok (.aload_n 0, 1) := by decide +kernel
theorem dX5_readTown_25 : decode cX5_readTown 25 = .ok (.getfield 68, 3) := by decide +kernel
theorem dX5_readTown_28 : decode cX5_readTown 28 = .ok (.istore_n 3, 1) := by decide +kernel
theorem dX5_readTown_29 : decode cX5_readTown 29 = .ok (.aload_n 0, 1) := by decide +kernel
theorem dX5_readTown_30 : decode cX5_readTown 30 = .ok (.invokevirtual 71, 3) := by decide +kernel
theorem dX5_readTown_33 : decode cX5_readTown 33 = .ok (.ifCond .ne 5, 3) := by decide +kernel
theorem dX5_readTown_36 : decode cX5_readTown 36 = .ok (.iconst 0, 1) := by decide +kernel
theorem dX5_readTown_37 : decode cX5_readTown 37 = .ok (.ireturn, 1) := by decide +kernel
theorem dX5_readTown_38 : decode cX5_readTown 38 = .ok (.aload_n 1, 1) := by decide +kernel
theorem dX5_readTown_39 : decode cX5_readTown 39 = .ok (.iload_n 2, 1) := by decide +kernel
theorem dX5_readTown_40 : decode cX5_readTown 40 = .ok (.iload_n 3, 1) := by decide +kernel
theorem dX5_readTown_41 : decode cX5_readTown 41 = .ok (.invokevirtual 74, 3) := by decide +kernel
theorem dX5_readTown_44 : decode cX5_readTown 44 = .ok (.iconst 1, 1) := by decide +kernel
theorem dX5_readTown_45 : decode cX5_readTown 45 = .ok (.ireturn, 1) := by decide +kernel
theorem dX5_readGame_0 : decode cX5_readGame 0 = .ok (.aload_n 1, 1) := by decide +kernel
theorem dX5_readGame_1 : decode cX5_readGame 1 = .ok (.invokevirtual 78, 3) := by decide +kernel
theorem dX5_readGame_4 : decode cX5_readGame 4 = .ok (.ifCond .eq 9, 3) := by decide +kernel
theorem dX5_readGame_7 : decode cX5_readGame 7 = .ok (.aload_n 0, 1) := by decide +kernel
theorem dX5_readGame_8 : decode cX5_readGame 8 = .ok (.iconst 5, 1) := by decide +kernel
theorem dX5_readGame_9 : decode cX5_readGame 9 = .ok (.invokevirtual 43, 3) := by decide +kernel
theorem dX5_readGame_12 : decode cX5_readGame 12 = .ok (.ireturn, 1) := by decide +kernel
theorem dX5_readGame_13 : decode cX5_readGame 13 = .ok (.aload_n 0, 1) := by decide +kernel
theorem dX5_readGame_14 : decode cX5_readGame 14 = .ok (.iconst 4, 1) := by decide +kernel
theorem dX5_readGame_15 : decode cX5_readGame 15 = .ok (.invokevirtual 65, 3) := by decide +kernel
theorem dX5_readGame_18 : decode cX5_readGame 18 = .ok (.ifCond .ne 5, 3) := by decide +kernel
theorem dX5_readGame_21 : decode cX5_readGame 21 = .ok (.iconst 0, 1) := by decide +kernel
theorem dX5_readGame_22 : decode cX5_readGame 22 = .ok (.ireturn, 1) := by decide +kernel
theorem dX5_readGame_23 : decode cX5_readGame 23 = .ok (.aload_n 0, 1) := by decide +kernel
theorem dX5_readGame_24 : decode cX5_readGame 24 = .ok (.getfield 68, 3) := by decide +kernel
theorem dX5_readGame_27 : decode cX5_readGame 27 = .ok (.istore_n 2, 1) := by decide +kernel
theorem dX5_readGame_28 : decode cX5_readGame 28 = .ok (.aload_n 0, 1) := by decide +kernel
theorem dX5_readGame_29 : decode cX5_readGame 29 = .ok (.iconst 4, 1) := by decide +kernel
theorem dX5_readGame_30 : decode cX5_readGame 30 = .ok (.invokevirtual 65, 3) := by decide +kernel
theorem dX5_readGame_33 : decode cX5_readGame 33 = .ok (.ifCond .ne 5, 3) := by decide +kernel
theorem dX5_readGame_36 : decode cX5_readGame 36 = .ok (.iconst 0, 1) := by decide +kernel
theorem dX5_readGame_37 : decode cX5_readGame 37 = .ok (.ireturn, 1) := by decide +kernel
theorem dX5_readGame_38 : decode cX5_readGame 38 = .ok (.aload_n 0, 1) := by decide +kernel
theorem dX5_readGame_39 : decode cX5_readGame 39 = .ok (.getfield 68, 3) := by decide +kernel
theorem dX5_readGame_42 : decode cX5_readGame 42 = .ok (.istore_n 3, 1) := by decide +kernel
theorem dX5_readGame_43 : decode cX5_readGame 43 = .ok (.iload_n 2, 1) := by decide +kernel
theorem dX5_readGame_44 : decode cX5_readGame 44 = .ok (.iload_n 3, 1) := by decide +kernel
theorem dX5_readGame_45 : decode cX5_readGame 45 = .ok (.if_icmp .ne 9, 3) := by decide +kernel
theorem dX5_readGame_48 : decode cX5_readGame 48 = .ok (.aload_n 0, 1) := by decide +kernel
theorem dX5_readGame_49 : decode cX5_readGame 49 = .ok (.iconst 3, 1) := by decide +kernel
theorem dX5_readGame_50 : decode cX5_readGame 50 = .ok (.invokevirtual 43, 3) := by decide +kernel
theorem dX5_readGame_53 : decode cX5_readGame 53 = .ok (.ireturn, 1) := by decide +kernel
theorem dX5_readGame_54 : decode cX5_readGame 54 = .ok (.aload_n 0, 1) := by decide +kernel
theorem dX5_readGame_55 : decode cX5_readGame 55 = .ok (.invokevirtual 71, 3) := by decide +kernel
theorem dX5_readGame_58 : decode cX5_readGame 58 = .ok (.ifCond .ne 5, 3) := by decide +kernel
theorem dX5_readGame_61 : decode cX5_readGame 61 = .ok (.iconst 0, 1) := by decide +kernel
theorem dX5_readGame_62 : decode cX5_readGame 62 = .ok (.ireturn, 1) := by decide +kernel
theorem dX5_readGame_63 : decode cX5_readGame 63 = .ok (.aload_n 1, 1) := by decide +kernel
theorem dX5_readGame_64 : decode cX5_readGame 64 = .ok (.iload_n 2, 1) := by decide +kernel
theorem dX5_readGame_65 : decode cX5_readGame 65 = .ok (.iload_n 3, 1) := by decide +kernel
theorem dX5_readGame_66 : decode cX5_readGame 66 = .ok (.invokevirtual 81, 3) := by decide +kernel
theorem dX5_readGame_69 : decode cX5_readGame 69 = .ok (.pop, 1) := by decide +kernel
theorem dX5_readGame_70 : decode cX5_readGame 70 = .ok (.iconst 1, 1) := by decide +kernel
theorem dX5_readGame_71 : decode cX5_readGame 71 = .ok (.ireturn, 1) := by decide +kernel
theorem dX5_readNumber_0 : decode cX5_readNumber 0 = .ok (.aload_n 0, 1) := by decide +kernel
theorem dX5_readNumber_1 : decode cX5_readNumber 1 = .ok (.invokevirtual 33, 3) := by decide +kernel
theorem dX5_readNumber_4 : decode cX5_readNumber 4 = .ok (.ifCond .ne 5, 3) := by decide +kernel
theorem dX5_readNumber_7 : decode cX5_readNumber 7 = .ok (.iconst 0, 1) := by decide +kernel
theorem dX5_readNumber_8 : decode cX5_readNumber 8 = .ok (.ireturn, 1) := by decide +kernel
theorem dX5_readNumber_9 : decode cX5_readNumber 9 = .ok (.aload_n 0, 1) := by decide +kernel
theorem dX5_readNumber_10 : decode cX5_readNumber 10 = .ok (.getfield 37, 3) := by decide +kernel
theorem dX5_readNumber_13 : decode cX5_readNumber 13 = .ok (.iconst 2, 1) := by decide +kernel
theorem dX5_readNumber_14 : decode cX5_readNumber 14 = .ok (.if_icmp .eq 9, 3) := by decide +kernel
theorem dX5_readNumber_17 : decode cX5_readNumber 17 = .ok (.aload_n 0, 1) := by decide +kernel
theorem dX5_readNumber_18 : decode cX5_readNumber 18 = .ok (.iconst 2, 1) := by decide +kernel
theorem dX5_readNumber_19 : decode cX5_readNumber 19 = .ok (.invokevirtual 43, 3) := by decide +kernel
theorem dX5_readNumber_22 : decode cX5_readNumber 22 = .ok (.ireturn, 1) := by decide +kernel
theorem dX5_readNumber_23 : decode cX5_readNumber 23 = .ok (.aload_n 0, 1) := by decide +kernel
theorem dX5_readNumber_24 : decode cX5_readNumber 24 = .ok (.getfield 68, 3) := by decide +kernel
theorem dX5_readNumber_27 : decode cX5_readNumber 27 = .ok (.iload_n 1, 1) := by decide +kernel
theorem dX5_readNumber_28 : decode cX5_readNumber 28 = .ok (.if_icmp .le 11, 3) := by decide +kernel
theorem dX5_readNumber_31 : decode cX5_readNumber 31 = .ok (.aload_n 0, 1) := by decide +kernel
theorem dX5_readNumber_32 : decode cX5_readNumber 32 = .ok (.iconst 3, 1) := by decide +kernel
theorem dX5_readNumber_33 : decode cX5_readNumber 33 = .ok (.invokevirtual 43, 3) := by decide +kernel
theorem dX5_readNumber_36 : decode cX5_readNumber 36 = .ok (.ifCond .eq 7, 3) := by decide +kernel
theorem dX5_readNumber_39 : decode cX5_readNumber 39 = .ok (.iconst 1, 1) := by decide +kernel
theorem dX5_readNumber_40 : decode cX5_readNumber 40 = .ok (.goto 4, 3) := by decide +kernel
theorem dX5_readNumber_43 : decode cX5_readNumber 43 = .ok (.iconst 0, 1) := by decide +kernel
theorem dX5_readNumber_44 : decode cX5_readNumber 44 = .ok (.ireturn, 1) := by decide +kernel
theorem dX5_readSign_0 : decode cX5_readSign 0 = .ok (.aload_n 0, 1) := by decide +kernel
theorem dX5_readSign_1 : decode cX5_readSign 1 = .ok (.invokevirtual 33, 3) := by decide +kernel
theorem dX5_readSign_4 : decode cX5_readSign 4 = .ok (.ifCond .ne 5, 3) := by decide +kernel
theorem dX5_readSign_7 : decode cX5_readSign 7 = .ok (.iconst 0, 1) := by decide +kernel
theorem dX5_readSign_8 : decode cX5_readSign 8 = .ok (.ireturn, 1) := by decide +kernel
theorem dX5_readSign_9 : decode cX5_readSign 9 = .ok (.aload_n 0, 1) := by decide +kernel
theorem dX5_readSign_10 : decode cX5_readSign 10 = .ok (.getfield 37, 3) := by decide +kernel
theorem dX5_readSign_13 : decode cX5_readSign 13 = .ok (.iconst 3, 1) := by decide +kernel
theorem dX5_readSign_14 : decode cX5_readSign 14 = .ok (.if_icmp .eq 11, 3) := by decide +kernel
theorem dX5_readSign_17 : decode cX5_readSign 17 = .ok (.aload_n 0, 1) := by decide +kernel
theorem dX5_readSign_18 : decode cX5_readSign 18 = .ok (.iconst 2, 1) := by decide +kernel
theorem dX5_readSign_19 : decode cX5_readSign 19 = .ok (.invokevirtual 43, 3) := by decide +kernel
theorem dX5_readSign_22 : decode cX5_readSign 22 = .ok (.ifCond .eq 7, 3) := by decide +kernel
theorem dX5_readSign_25 : decode cX5_readSign 25 = .ok (.iconst 1, 1) := by decide +kernel
theorem dX5_readSign_26 : decode cX5_readSign 26 = .ok (.goto 4, 3) := by decide +kernel
theorem dX5_readSign_29 : decode cX5_readSign 29 = .ok (.iconst 0, 1) := by decide +kernel
theorem dX5_readSign_30 : decode cX5_readSign 30 = .ok (.ireturn, 1) := by decide +kernel
theorem dX5_readToken_0 : decode cX5_readToken 0 = .ok (.aload_n 0, 1) := by decide +kernel
theorem dX5_readToken_1 : decode cX5_readToken 1 = .ok (.getfield 23, 3) := by decide +kernel
theorem dX5_readToken_4 : decode cX5_readToken 4 = .ok (.aload_n 0, 1) := by decide +kernel
theorem dX5_readToken_5 : decode cX5_readToken 5 = .ok (.getfield 12, 3) := by decide +kernel
theorem dX5_readToken_8 : decode cX5_readToken 8 = .ok (.getfield 85, 3) := by decide +kernel
theorem dX5_readToken_11 : decode cX5_readToken 11 = .ok (.if_icmp .ge 32, 3) := by decide +kernel
theorem dX5_readToken_14 : decode cX5_readToken 14 = .ok (.aload_n 0, 1) := by decide +kernel
theorem dX5_readToken_15 : decode cX5_readToken 15 = .ok (.getfield 12, 3) := by decide +kernel
theorem dX5_readToken_18 : decode cX5_readToken 18 = .ok (.aload_n 0, 1) := by decide +kernel
theorem dX5_readToken_19 : decode cX5_readToken 19 = .ok (.getfield 23, 3) := by decide +kernel
theorem dX5_readToken_22 : decode cX5_readToken 22 = .ok (.invokevirtual 88, 3) := by decide +kernel
theorem dX5_readToken_25 : decode cX5_readToken 25 = .ok (.bipush 32, 2) := by decide +kernel
theorem dX5_readToken_27 : decode cX5_readToken 27 = .ok (.if_icmp .ne 16, 3) := by decide +kernel
theorem dX5_readToken_30 : decode cX5_readToken 30 = .ok (.aload_n 0, 1) := by decide +kernel
theorem dX5_readToken_31 : decode cX5_readToken 31 = .ok (.dup, 1) := by decide +kernel
theorem dX5_readToken_32 : decode cX5_readToken 32 = .ok (.getfield 23, 3) := by decide +kernel
theorem dX5_readToken_35 : decode cX5_readToken 35 = .ok (.iconst 1, 1) := by decide +kernel
theorem dX5_readToken_36 : decode cX5_readToken 36 = .ok (.iadd, 1) := by decide +kernel
theorem dX5_readToken_37 : decode cX5_readToken 37 = .ok (.putfield 23, 3) := by decide +kernel
theorem dX5_readToken_40 : decode cX5_readToken 40 = .ok (.goto (-40), 3) := by decide +kernel
theorem dX5_readToken_43 : decode cX5_readToken 43 = .ok (.aload_n 0, 1) := by decide +kernel
theorem dX5_readToken_44 : decode cX5_readToken 44 = .ok (.aload_n 0, 1) := by decide +kernel
theorem dX5_readToken_45 : decode cX5_readToken 45 = .ok (.getfield 23, 3) := by decide +kernel
theorem dX5_readToken_48 : decode cX5_readToken 48 = .ok (.putfield 92, 3) := by decide +kernel
theorem dX5_readToken_51 : decode cX5_readToken 51 = .ok (.aload_n 0, 1) := by decide +kernel
theorem dX5_readToken_52 : decode cX5_readToken 52 = .ok (.getfield 23, 3) := by decide +kernel
theorem dX5_readToken_55 : decode cX5_readToken 55 = .ok (.aload_n 0, 1) := by decide +kernel
theorem dX5_readToken_56 : decode cX5_readToken 56 = .ok (.getfield 12, 3) := by decide +kernel
theorem dX5_readToken_59 : decode cX5_readToken 59 = .ok (.getfield 85, 3) := by decide +kernel
theorem dX5_readToken_62 : decode cX5_readToken 62 = .ok (.if_icmp .lt 10, 3) := by decide +kernel
theorem dX5_readToken_65 : decode cX5_readToken 65 = .ok (.aload_n 0, 1) := by decide +kernel
theorem dX5_readToken_66 : decode cX5_readToken 66 = .ok (.iconst 0, 1) := by decide +kernel
theorem dX5_readToken_67 : decode cX5_readToken 67 = .ok (.putfield 37, 3) := by decide +kernel
theorem dX5_readToken_70 : decode cX5_readToken 70 = .ok (.iconst 1, 1) := by decide +kernel
theorem dX5_readToken_71 : decode cX5_readToken 71 = .ok (.ireturn, 1) := by decide +kernel
theorem dX5_readToken_72 : decode cX5_readToken 72 = .ok (.aload_n 0, 1) := by decide +kernel
theorem dX5_readToken_73 : decode cX5_readToken 73 = .ok (.getfield 12, 3) := by decide +kernel
theorem dX5_readToken_76 : decode cX5_readToken 76 = .ok (.aload_n 0, 1) := by decide +kernel
theorem dX5_readToken_77 : decode cX5_readToken 77 = .ok (.getfield 23, 3) := by decide +kernel
theorem dX5_readToken_80 : decode cX5_readToken 80 = .ok (.invokevirtual 88, 3) := by decide +kernel
theorem dX5_readToken_83 : decode cX5_readToken 83 = .ok (.istore_n 1, 1) := by decide +kernel
theorem dX5_readToken_84 : decode cX5_readToken 84 = .ok (.iload_n 1, 1) := by decide +kernel
theorem dX5_readToken_85 : decode cX5_readToken 85 = .ok (.invokestatic 95, 3) := by decide +kernel
theorem dX5_readToken_88 : decode cX5_readToken 88 = .ok (.ifCond .eq 8, 3) := by decide +kernel
theorem dX5_readToken_91 : decode cX5_readToken 91 = .ok (.aload_n 0, 1) := by decide +kernel
theorem dX5_readToken_92 : decode cX5_readToken 92 = .ok (.invokevirtual 98, 3) := by decide +kernel
theorem dX5_readToken_95 : decode cX5_readToken 95 = .ok (.ireturn, 1) := by decide +kernel
theorem dX5_readToken_96 : decode cX5_readToken 96 = .ok (.iload_n 1, 1) := by decide +kernel
theorem dX5_readToken_97 : decode cX5_readToken 97 = .ok (.invokestatic 101, 3) := by decide +kernel
theorem dX5_readToken_100 : decode cX5_readToken 100 = .ok (.ifCond .eq 8, 3) := by decide +kernel
theorem dX5_readToken_103 : decode cX5_readToken 103 = .ok (.aload_n 0, 1) := by decide +kernel
theorem dX5_readToken_104 : decode cX5_readToken 104 = .ok (.invokevirtual 104, 3) := by decide +kernel
theorem dX5_readToken_107 : decode cX5_readToken 107 = .ok (.ireturn, 1) := by decide +kernel
theorem dX5_readToken_108 : decode cX5_readToken 108 = .ok (.iload_n 1, 1) := by decide +kernel
theorem dX5_readToken_109 : decode cX5_readToken 109 = .ok (.bipush 59, 2) := by decide +kernel
theorem dX5_readToken_111 : decode cX5_readToken 111 = .ok (.if_icmp .eq 9, 3) := by decide +kernel
theorem dX5_readToken_114 : decode cX5_readToken 114 = .ok (.aload_n 0, 1) := by decide +kernel
theorem dX5_readToken_115 : decode cX5_readToken 115 = .ok (.iconst 1, 1) := by decide +kernel
theorem dX5_readToken_116 : decode cX5_readToken 116 = .ok (.invokevirtual 43, 3) := by decide +kernel
theorem dX5_readToken_119 : decode cX5_readToken 119 = .ok (.ireturn, 1) := by decide +kernel
theorem dX5_readToken_120 : decode cX5_readToken 120 = .ok (.aload_n 0, 1) := by decide +kernel
theorem dX5_readToken_121 : decode cX5_readToken 121 = .ok (.iconst 3, 1) := by decide +kernel
theorem dX5_readToken_122 : decode cX5_readToken 122 = .ok (.putfield 37, 3) := by decide +kernel
theorem dX5_readToken_125 : decode cX5_readToken 125 = .ok (.aload_n 0, 1) := by decide +kernel
theorem dX5_readToken_126 : decode cX5_readToken 126 = .ok (.dup, 1) := by decide +kernel
theorem dX5_readToken_127 : decode cX5_readToken 127 = .ok (.getfield 23, 3) := by decide +kernel
theorem dX5_readToken_130 : decode cX5_readToken 130 = .ok (.iconst 1, 1) := by decide +kernel
theorem dX5_readToken_131 : decode cX5_readToken 131 = .ok (.iadd, 1) := by decide +kernel
theorem dX5_readToken_132 : decode cX5_readToken 132 = .ok (.putfield 23, 3) := by decide +kernel
theorem dX5_readToken_135 : decode cX5_readToken 135 = .ok (.iconst 1, 1) := by decide +kernel
theorem dX5_readToken_136 : decode cX5_readToken 136 = .ok (.ireturn, 1) := by decide +kernel
theorem dX5_takeName_0 : decode cX5_takeName 0 = .ok (.aload_n 0, 1) := by decide +kernel
theorem dX5_takeName_1 : decode cX5_takeName 1 = .ok (.iconst 1, 1) := by decide +kernel
theorem dX5_takeName_2 : decode cX5_takeName 2 = .ok (.putfield 37, 3) := by decide +kernel
theorem dX5_takeName_5 : decode cX5_takeName 5 = .ok (.aload_n 0, 1) := by decide +kernel
theorem dX5_takeName_6 : decode cX5_takeName 6 = .ok (.getfield 23, 3) := by decide +kernel
theorem dX5_takeName_9 : decode cX5_takeName 9 = .ok (.aload_n 0, 1) := by decide +kernel
theorem dX5_takeName_10 : decode cX5_takeName 10 = .ok (.getfield 12, 3) := by decide +kernel
theorem dX5_takeName_13 : decode cX5_takeName 13 = .ok (.getfield 85, 3) := by decide +kernel
theorem dX5_takeName_16 : decode cX5_takeName 16 = .ok (.if_icmp .ge 33, 3) := by decide +kernel
theorem dX5_takeName_19 : decode cX5_takeName 19 = .ok (.aload_n 0, 1) := by decide +kernel
theorem dX5_takeName_20 : decode cX5_takeName 20 = .ok (.getfield 12, 3) := by decide +kernel
theorem dX5_takeName_23 : decode cX5_takeName 23 = .ok (.aload_n 0, 1) := by decide +kernel
theorem dX5_takeName_24 : decode cX5_takeName 24 = .ok (.getfield 23, 3) := by decide +kernel
theorem dX5_takeName_27 : decode cX5_takeName 27 = .ok (.invokevirtual 88, 3) := by decide +kernel
theorem dX5_takeName_30 : decode cX5_takeName 30 = .ok (.invokestatic 95, 3) := by decide +kernel
theorem dX5_takeName_33 : decode cX5_takeName 33 = .ok (.ifCond .eq 16, 3) := by decide +kernel
theorem dX5_takeName_36 : decode cX5_takeName 36 = .ok (.aload_n 0, 1) := by decide +kernel
theorem dX5_takeName_37 : decode cX5_takeName 37 = .ok (.dup, 1) := by decide +kernel
theorem dX5_takeName_38 : decode cX5_takeName 38 = .ok (.getfield 23, 3) := by decide +kernel
theorem dX5_takeName_41 : decode cX5_takeName 41 = .ok (.iconst 1, 1) := by decide +kernel
theorem dX5_takeName_42 : decode cX5_takeName 42 = .ok (.iadd, 1) := by decide +kernel
theorem dX5_takeName_43 : decode cX5_takeName 43 = .ok (.putfield 23, 3) := by decide +kernel
theorem dX5_takeName_46 : decode cX5_takeName 46 = .ok (.goto (-41), 3) := by decide +kernel
theorem dX5_takeName_49 : decode cX5_takeName 49 = .ok (.iconst 1, 1) := by decide +kernel
theorem dX5_takeName_50 : decode cX5_takeName 50 = .ok (.ireturn, 1) := by decide +kernel
theorem dX5_takeNumber_0 : decode cX5_takeNumber 0 = .ok (.aload_n 0, 1) := by decide +kernel
theorem dX5_takeNumber_1 : decode cX5_takeNumber 1 = .ok (.iconst 2, 1) := by decide +kernel
theorem dX5_takeNumber_2 : decode cX5_takeNumber 2 = .ok (.putfield 37, 3) := by decide +kernel
theorem dX5_takeNumber_5 : decode cX5_takeNumber 5 = .ok (.aload_n 0, 1) := by decide +kernel
theorem dX5_takeNumber_6 : decode cX5_takeNumber 6 = .ok (.iconst 0, 1) := by decide +kernel
theorem dX5_takeNumber_7 : decode cX5_takeNumber 7 = .ok (.putfield 68, 3) := by decide +kernel
theorem dX5_takeNumber_10 : decode cX5_takeNumber 10 = .ok (.aload_n 0, 1) := by decide +kernel
theorem dX5_takeNumber_11 : decode cX5_takeNumber 11 = .ok (.getfield 23, 3) := by decide +kernel
theorem dX5_takeNumber_14 : decode cX5_takeNumber 14 = .ok (.aload_n 0, 1) := by decide +kernel
theorem dX5_takeNumber_15 : decode cX5_takeNumber 15 = .ok (.getfield 12, 3) := by decide +kernel
theorem dX5_takeNumber_18 : decode cX5_takeNumber 18 = .ok (.getfield 85, 3) := by decide +kernel
theorem dX5_takeNumber_21 : decode cX5_takeNumber 21 = .ok (.if_icmp .ge 59, 3) := by decide +kernel
theorem dX5_takeNumber_24 : decode cX5_takeNumber 24 = .ok (.aload_n 0, 1) := by decide +kernel
theorem dX5_takeNumber_25 : decode cX5_takeNumber 25 = .ok (.getfield 12, 3) := by decide +kernel
theorem dX5_takeNumber_28 : decode cX5_takeNumber 28 = .ok (.aload_n 0, 1) := by decide +kernel
theorem dX5_takeNumber_29 : decode cX5_takeNumber 29 = .ok (.getfield 23, 3) := by decide +kernel
theorem dX5_takeNumber_32 : decode cX5_takeNumber 32 = .ok (.invokevirtual 88, 3) := by decide +kernel
theorem dX5_takeNumber_35 : decode cX5_takeNumber 35 = .ok (.invokestatic 101, 3) := by decide +kernel
theorem dX5_takeNumber_38 : decode cX5_takeNumber 38 = .ok (.ifCond .eq 42, 3) := by decide +kernel
theorem dX5_takeNumber_41 : decode cX5_takeNumber 41 = .ok (.aload_n 0, 1) := by decide +kernel
theorem dX5_takeNumber_42 : decode cX5_takeNumber 42 = .ok (.aload_n 0, 1) := by decide +kernel
theorem dX5_takeNumber_43 : decode cX5_takeNumber 43 = .ok (.getfield 68, 3) := by decide +kernel
theorem dX5_takeNumber_46 : decode cX5_takeNumber 46 = .ok (.bipush 10, 2) := by decide +kernel
theorem dX5_takeNumber_48 : decode cX5_takeNumber 48 = .ok (.imul, 1) := by decide +kernel
theorem dX5_takeNumber_49 : decode cX5_takeNumber 49 = .ok (.aload_n 0, 1) := by decide +kernel
theorem dX5_takeNumber_50 : decode cX5_takeNumber 50 = .ok (.getfield 12, 3) := by decide +kernel
theorem dX5_takeNumber_53 : decode cX5_takeNumber 53 = .ok (.aload_n 0, 1) := by decide +kernel
theorem dX5_takeNumber_54 : decode cX5_takeNumber 54 = .ok (.getfield 23, 3) := by decide +kernel
theorem dX5_takeNumber_57 : decode cX5_takeNumber 57 = .ok (.invokevirtual 88, 3) := by decide +kernel
theorem dX5_takeNumber_60 : decode cX5_takeNumber 60 = .ok (.iadd, 1) := by decide +kernel
theorem dX5_takeNumber_61 : decode cX5_takeNumber 61 = .ok (.bipush 48, 2) := by decide +kernel
theorem dX5_takeNumber_63 : decode cX5_takeNumber 63 = .ok (.isub, 1) := by decide +kernel
theorem dX5_takeNumber_64 : decode cX5_takeNumber 64 = .ok (.putfield 68, 3) := by decide +kernel
theorem dX5_takeNumber_67 : decode cX5_takeNumber 67 = .ok (.aload_n 0, 1) := by decide +kernel
theorem dX5_takeNumber_68 : decode cX5_takeNumber 68 = .ok (.dup, 1) := by decide +kernel
theorem dX5_takeNumber_69 : decode cX5_takeNumber 69 = .ok (.getfield 23, 3) := by decide +kernel
theorem dX5_takeNumber_72 : decode cX5_takeNumber 72 = .ok (.iconst 1, 1) := by decide +kernel
theorem dX5_takeNumber_73 : decode cX5_takeNumber 73 = .ok (.iadd, 1) := by decide +kernel
theorem dX5_takeNumber_74 : decode cX5_takeNumber 74 = .ok (.putfield 23, 3) := by decide +kernel
theorem dX5_takeNumber_77 : decode cX5_takeNumber 77 = .ok (.goto (-67), 3) := by decide +kernel
theorem dX5_takeNumber_80 : decode cX5_takeNumber 80 = .ok (.aload_n 0, 1) := by decide +kernel
theorem dX5_takeNumber_81 : decode cX5_takeNumber 81 = .ok (.getfield 23, 3) := by decide +kernel
theorem dX5_takeNumber_84 : decode cX5_takeNumber 84 = .ok (.aload_n 0, 1) := by decide +kernel
theorem dX5_takeNumber_85 : decode cX5_takeNumber 85 = .ok (.getfield 92, 3) := by decide +kernel
theorem dX5_takeNumber_88 : decode cX5_takeNumber 88 = .ok (.isub, 1) := by decide +kernel
theorem dX5_takeNumber_89 : decode cX5_takeNumber 89 = .ok (.iconst 2, 1) := by decide +kernel
theorem dX5_takeNumber_90 : decode cX5_takeNumber 90 = .ok (.if_icmp .le 11, 3) := by decide +kernel
theorem dX5_takeNumber_93 : decode cX5_takeNumber 93 = .ok (.aload_n 0, 1) := by decide +kernel
theorem dX5_takeNumber_94 : decode cX5_takeNumber 94 = .ok (.iconst 1, 1) := by decide +kernel
theorem dX5_takeNumber_95 : decode cX5_takeNumber 95 = .ok (.invokevirtual 43, 3) := by decide +kernel
theorem dX5_takeNumber_98 : decode cX5_takeNumber 98 = .ok (.ifCond .eq 7, 3) := by decide +kernel
theorem dX5_takeNumber_101 : decode cX5_takeNumber 101 = .ok (.iconst 1, 1) := by decide +kernel
theorem dX5_takeNumber_102 : decode cX5_takeNumber 102 = .ok (.goto 4, 3) := by decide +kernel
theorem dX5_takeNumber_105 : decode cX5_takeNumber 105 = .ok (.iconst 0, 1) := by decide +kernel
theorem dX5_takeNumber_106 : decode cX5_takeNumber 106 = .ok (.ireturn, 1) := by decide +kernel
theorem dX5_isLetter_0 : decode cX5_isLetter 0 = .ok (.iload_n 0, 1) := by decide +kernel
theorem dX5_isLetter_1 : decode cX5_isLetter 1 = .ok (.bipush 97, 2) := by decide +kernel
theorem dX5_isLetter_3 : decode cX5_isLetter 3 = .ok (.if_icmp .lt 13, 3) := by decide +kernel
theorem dX5_isLetter_6 : decode cX5_isLetter 6 = .ok (.iload_n 0, 1) := by decide +kernel
theorem dX5_isLetter_7 : decode cX5_isLetter 7 = .ok (.bipush 122, 2) := by decide +kernel
theorem dX5_isLetter_9 : decode cX5_isLetter 9 = .ok (.if_icmp .gt 7, 3) := by decide +kernel
theorem dX5_isLetter_12 : decode cX5_isLetter 12 = .ok (.iconst 1, 1) := by decide +kernel
theorem dX5_isLetter_13 : decode cX5_isLetter 13 = .ok (.goto 4, 3) := by decide +kernel
theorem dX5_isLetter_16 : decode cX5_isLetter 16 = .ok (.iconst 0, 1) := by decide +kernel
theorem dX5_isLetter_17 : decode cX5_isLetter 17 = .ok (.ireturn, 1) := by decide +kernel
theorem dX5_isFigure_0 : decode cX5_isFigure 0 = .ok (.iload_n 0, 1) := by decide +kernel
theorem dX5_isFigure_1 : decode cX5_isFigure 1 = .ok (.bipush 48, 2) := by decide +kernel
theorem dX5_isFigure_3 : decode cX5_isFigure 3 = .ok (.if_icmp .lt 13, 3) := by decide +kernel
theorem dX5_isFigure_6 : decode cX5_isFigure 6 = .ok (.iload_n 0, 1) := by decide +kernel
theorem dX5_isFigure_7 : decode cX5_isFigure 7 = .ok (.bipush 57, 2) := by decide +kernel
theorem dX5_isFigure_9 : decode cX5_isFigure 9 = .ok (.if_icmp .gt 7, 3) := by decide +kernel
theorem dX5_isFigure_12 : decode cX5_isFigure 12 = .ok (.iconst 1, 1) := by decide +kernel
theorem dX5_isFigure_13 : decode cX5_isFigure 13 = .ok (.goto 4, 3) := by decide +kernel
theorem dX5_isFigure_16 : decode cX5_isFigure 16 = .ok (.iconst 0, 1) := by decide +kernel
theorem dX5_isFigure_17 : decode cX5_isFigure 17 = .ok (.ireturn, 1) := by decide +kernel
theorem dX5_wordRead_0 : decode cX5_wordRead 0 = .ok (.aload_n 0, 1) := by decide +kernel
theorem dX5_wordRead_1 : decode cX5_wordRead 1 = .ok (.ldc 107, 2) := by decide +kernel
theorem dX5_wordRead_3 : decode cX5_wordRead 3 = .ok (.invokevirtual 109, 3) := by decide +kernel
theorem dX5_wordRead_6 : decode cX5_wordRead 6 = .ok (.ifCond .eq 5, 3) := by decide +kernel
theorem dX5_wordRead_9 : decode cX5_wordRead 9 = .ok (.iconst 0, 1) := by decide +kernel
theorem dX5_wordRead_10 : decode cX5_wordRead 10 = .ok (.ireturn, 1) := by decide +kernel
theorem dX5_wordRead_11 : decode cX5_wordRead 11 = .ok (.aload_n 0, 1) := by decide +kernel
theorem dX5_wordRead_12 : decode cX5_wordRead 12 = .ok (.ldc 113, 2) := by decide +kernel
theorem dX5_wordRead_14 : decode cX5_wordRead 14 = .ok (.invokevirtual 109, 3) := by decide +kernel
theorem dX5_wordRead_17 : decode cX5_wordRead 17 = .ok (.ifCond .eq 5, 3) := by decide +kernel
theorem dX5_wordRead_20 : decode cX5_wordRead 20 = .ok (.iconst 1, 1) := by decide +kernel
theorem dX5_wordRead_21 : decode cX5_wordRead 21 = .ok (.ireturn, 1) := by decide +kernel
theorem dX5_wordRead_22 : decode cX5_wordRead 22 = .ok (.aload_n 0, 1) := by decide +kernel
theorem dX5_wordRead_23 : decode cX5_wordRead 23 = .ok (.ldc 115, 2) := by decide +kernel
theorem dX5_wordRead_25 : decode cX5_wordRead 25 = .ok (.invokevirtual 109, 3) := by decide +kernel
theorem dX5_wordRead_28 : decode cX5_wordRead 28 = .ok (.ifCond .eq 5, 3) := by decide +kernel
theorem dX5_wordRead_31 : decode cX5_wordRead 31 = .ok (.iconst 2, 1) := by decide +kernel
theorem dX5_wordRead_32 : decode cX5_wordRead 32 = .ok (.ireturn, 1) := by decide +kernel
theorem dX5_wordRead_33 : decode cX5_wordRead 33 = .ok (.aload_n 0, 1) := by decide +kernel
theorem dX5_wordRead_34 : decode cX5_wordRead 34 = .ok (.ldc 117, 2) := by decide +kernel
theorem dX5_wordRead_36 : decode cX5_wordRead 36 = .ok (.invokevirtual 109, 3) := by decide +kernel
theorem dX5_wordRead_39 : decode cX5_wordRead 39 = .ok (.ifCond .eq 5, 3) := by decide +kernel
theorem dX5_wordRead_42 : decode cX5_wordRead 42 = .ok (.iconst 3, 1) := by decide +kernel
theorem dX5_wordRead_43 : decode cX5_wordRead 43 = .ok (.ireturn, 1) := by decide +kernel
theorem dX5_wordRead_44 : decode cX5_wordRead 44 = .ok (.aload_n 0, 1) := by decide +kernel
theorem dX5_wordRead_45 : decode cX5_wordRead 45 = .ok (.ldc 119, 2) := by decide +kernel
theorem dX5_wordRead_47 : decode cX5_wordRead 47 = .ok (.invokevirtual 109, 3) := by decide +kernel
theorem dX5_wordRead_50 : decode cX5_wordRead 50 = .ok (.ifCond .eq 7, 3) := by decide +kernel
theorem dX5_wordRead_53 : decode cX5_wordRead 53 = .ok (.iconst 4, 1) := by decide +kernel
theorem dX5_wordRead_54 : decode cX5_wordRead 54 = .ok (.goto 4, 3) := by decide +kernel
theorem dX5_wordRead_57 : decode cX5_wordRead 57 = .ok (.iconst (-1), 1) := by decide +kernel
theorem dX5_wordRead_58 : decode cX5_wordRead 58 = .ok (.ireturn, 1) := by decide +kernel
theorem dX5_spells_0 : decode cX5_spells 0 = .ok (.aload_n 0, 1) := by decide +kernel
theorem dX5_spells_1 : decode cX5_spells 1 = .ok (.getfield 23, 3) := by decide +kernel
theorem dX5_spells_4 : decode cX5_spells 4 = .ok (.aload_n 0, 1) := by decide +kernel
theorem dX5_spells_5 : decode cX5_spells 5 = .ok (.getfield 92, 3) := by decide +kernel
theorem dX5_spells_8 : decode cX5_spells 8 = .ok (.isub, 1) := by decide +kernel
theorem dX5_spells_9 : decode cX5_spells 9 = .ok (.aload_n 1, 1) := by decide +kernel
theorem dX5_spells_10 : decode cX5_spells 10 = .ok (.invokevirtual 121, 3) := by decide +kernel
theorem dX5_spells_13 : decode cX5_spells 13 = .ok (.if_icmp .eq 5, 3) := by decide +kernel
theorem dX5_spells_16 : decode cX5_spells 16 = .ok (.iconst 0, 1) := by decide +kernel
theorem dX5_spells_17 : decode cX5_spells 17 = .ok (.ireturn, 1) := by decide +kernel
theorem dX5_spells_18 : decode cX5_spells 18 = .ok (.iconst 0, 1) := by decide +kernel
theorem dX5_spells_19 : decode cX5_spells 19 = .ok (.istore_n 2, 1) := by decide +kernel
theorem dX5_spells_20 : decode cX5_spells 20 = .ok (.iload_n 2, 1) := by decide +kernel
theorem dX5_spells_21 : decode cX5_spells 21 = .ok (.aload_n 1, 1) := by decide +kernel
theorem dX5_spells_22 : decode cX5_spells 22 = .ok (.invokevirtual 121, 3) := by decide +kernel
theorem dX5_spells_25 : decode cX5_spells 25 = .ok (.if_icmp .ge 32, 3) := by decide +kernel
theorem dX5_spells_28 : decode cX5_spells 28 = .ok (.aload_n 0, 1) := by decide +kernel
theorem dX5_spells_29 : decode cX5_spells 29 = .ok (.getfield 12, 3) := by decide +kernel
theorem dX5_spells_32 : decode cX5_spells 32 = .ok (.aload_n 0, 1) := by decide +kernel
theorem dX5_spells_33 : decode cX5_spells 33 = .ok (.getfield 92, 3) := by decide +kernel
theorem dX5_spells_36 : decode cX5_spells 36 = .ok (.iload_n 2, 1) := by decide +kernel
theorem dX5_spells_37 : decode cX5_spells 37 = .ok (.iadd, 1) := by decide +kernel
theorem dX5_spells_38 : decode cX5_spells 38 = .ok (.invokevirtual 88, 3) := by decide +kernel
theorem dX5_spells_41 : decode cX5_spells 41 = .ok (.aload_n 1, 1) := by decide +kernel
theorem dX5_spells_42 : decode cX5_spells 42 = .ok (.iload_n 2, 1) := by decide +kernel
theorem dX5_spells_43 : decode cX5_spells 43 = .ok (.invokevirtual 125, 3) := by decide +kernel
theorem dX5_spells_46 : decode cX5_spells 46 = .ok (.if_icmp .eq 5, 3) := by decide +kernel
theorem dX5_spells_49 : decode cX5_spells 49 = .ok (.iconst 0, 1) := by decide +kernel
theorem dX5_spells_50 : decode cX5_spells 50 = .ok (.ireturn, 1) := by decide +kernel
theorem dX5_spells_51 : decode cX5_spells 51 = .ok (.iinc 2 1, 3) := by decide +kernel
theorem dX5_spells_54 : decode cX5_spells 54 = .ok (.goto (-34), 3) := by decide +kernel
theorem dX5_spells_57 : decode cX5_spells 57 = .ok (.iconst 1, 1) := by decide +kernel
theorem dX5_spells_58 : decode cX5_spells 58 = .ok (.ireturn, 1) := by decide +kernel
theorem dX5_refuse_0 : decode cX5_refuse 0 = .ok (.aload_n 0, 1) := by decide +kernel
theorem dX5_refuse_1 : decode cX5_refuse 1 = .ok (.iload_n 1, 1) := by decide +kernel
theorem dX5_refuse_2 : decode cX5_refuse 2 = .ok (.putfield 27, 3) := by decide +kernel
theorem dX5_refuse_5 : decode cX5_refuse 5 = .ok (.aload_n 0, 1) := by decide +kernel
theorem dX5_refuse_6 : decode cX5_refuse 6 = .ok (.aload_n 0, 1) := by decide +kernel
theorem dX5_refuse_7 : decode cX5_refuse 7 = .ok (.getfield 92, 3) := by decide +kernel
theorem dX5_refuse_10 : decode cX5_refuse 10 = .ok (.putfield 30, 3) := by decide +kernel
theorem dX5_refuse_13 : decode cX5_refuse 13 = .ok (.iconst 0, 1) := by decide +kernel
theorem dX5_refuse_14 : decode cX5_refuse 14 = .ok (.ireturn, 1) := by decide +kernel
theorem dJ6_bitCount_0f7a4_0 : decode cJ6_bitCount_0f7a4 0 = .ok (.iload_n 0, 1) := by decide +kernel
theorem dJ6_bitCount_0f7a4_1 : decode cJ6_bitCount_0f7a4 1 = .ok (.iload_n 0, 1) := by decide +kernel
theorem dJ6_bitCount_0f7a4_2 : decode cJ6_bitCount_0f7a4 2 = .ok (.iconst 1, 1) := by decide +kernel
theorem dJ6_bitCount_0f7a4_3 : decode cJ6_bitCount_0f7a4 3 = .ok (.iushr, 1) := by decide +kernel
theorem dJ6_bitCount_0f7a4_4 : decode cJ6_bitCount_0f7a4 4 = .ok (.ldc_w 265, 3) := by decide +kernel
theorem dJ6_bitCount_0f7a4_7 : decode cJ6_bitCount_0f7a4 7 = .ok (.iand, 1) := by decide +kernel
theorem dJ6_bitCount_0f7a4_8 : decode cJ6_bitCount_0f7a4 8 = .ok (.isub, 1) := by decide +kernel
theorem dJ6_bitCount_0f7a4_9 : decode cJ6_bitCount_0f7a4 9 = .ok (.istore_n 0, 1) := by decide +kernel
theorem dJ6_bitCount_0f7a4_10 : decode cJ6_bitCount_0f7a4 10 = .ok (.iload_n 0, 1) := by decide +kernel
theorem dJ6_bitCount_0f7a4_11 : decode cJ6_bitCount_0f7a4 11 = .ok (.ldc_w 266, 3) := by decide +kernel
theorem dJ6_bitCount_0f7a4_14 : decode cJ6_bitCount_0f7a4 14 = .ok (.iand, 1) := by decide +kernel
theorem dJ6_bitCount_0f7a4_15 : decode cJ6_bitCount_0f7a4 15 = .ok (.iload_n 0, 1) := by decide +kernel
theorem dJ6_bitCount_0f7a4_16 : decode cJ6_bitCount_0f7a4 16 = .ok (.iconst 2, 1) := by decide +kernel
theorem dJ6_bitCount_0f7a4_17 : decode cJ6_bitCount_0f7a4 17 = .ok (.iushr, 1) := by decide +kernel
theorem dJ6_bitCount_0f7a4_18 : decode cJ6_bitCount_0f7a4 18 = .ok (.ldc_w 266, 3) := by decide +kernel
theorem dJ6_bitCount_0f7a4_21 : decode cJ6_bitCount_0f7a4 21 = .ok (.iand, 1) := by decide +kernel
theorem dJ6_bitCount_0f7a4_22 : decode cJ6_bitCount_0f7a4 22 = .ok (.iadd, 1) := by decide +kernel
theorem dJ6_bitCount_0f7a4_23 : decode cJ6_bitCount_0f7a4 23 = .ok (.istore_n 0, 1) := by decide +kernel
theorem dJ6_bitCount_0f7a4_24 : decode cJ6_bitCount_0f7a4 24 = .ok (.iload_n 0, 1) := by decide +kernel
theorem dJ6_bitCount_0f7a4_25 : decode cJ6_bitCount_0f7a4 25 = .ok (.iload_n 0, 1) := by decide +kernel
theorem dJ6_bitCount_0f7a4_26 : decode cJ6_bitCount_0f7a4 26 = .ok (.iconst 4, 1) := by decide +kernel
theorem dJ6_bitCount_0f7a4_27 : decode cJ6_bitCount_0f7a4 27 = .ok (.iushr, 1) := by decide +kernel
theorem dJ6_bitCount_0f7a4_28 : decode cJ6_bitCount_0f7a4 28 = .ok (.iadd, 1) := by decide +kernel
theorem dJ6_bitCount_0f7a4_29 : decode cJ6_bitCount_0f7a4 29 = .ok (.ldc_w 267, 3) := by decide +kernel
theorem dJ6_bitCount_0f7a4_32 : decode cJ6_bitCount_0f7a4 32 = .ok (.iand, 1) := by decide +kernel
theorem dJ6_bitCount_0f7a4_33 : decode cJ6_bitCount_0f7a4 33 = .ok (.istore_n 0, 1) := by decide +kernel
theorem dJ6_bitCount_0f7a4_34 : decode cJ6_bitCount_0f7a4 34 = .ok (.iload_n 0, 1) := by decide +kernel
theorem dJ6_bitCount_0f7a4_35 : decode cJ6_bitCount_0f7a4 35 = .ok (.iload_n 0, 1) := by decide +kernel
theorem dJ6_bitCount_0f7a4_36 : decode cJ6_bitCount_0f7a4 36 = .ok (.bipush 8, 2) := by decide +kernel
theorem dJ6_bitCount_0f7a4_38 : decode cJ6_bitCount_0f7a4 38 = .ok (.iushr, 1) := by decide +kernel
theorem dJ6_bitCount_0f7a4_39 : decode cJ6_bitCount_0f7a4 39 = .ok (.iadd, 1) := by decide +kernel
theorem dJ6_bitCount_0f7a4_40 : decode cJ6_bitCount_0f7a4 40 = .ok (.istore_n 0, 1) := by decide +kernel
theorem dJ6_bitCount_0f7a4_41 : decode cJ6_bitCount_0f7a4 41 = .ok (.iload_n 0, 1) := by decide +kernel
theorem dJ6_bitCount_0f7a4_42 : decode cJ6_bitCount_0f7a4 42 = .ok (.iload_n 0, 1) := by decide +kernel
theorem dJ6_bitCount_0f7a4_43 : decode cJ6_bitCount_0f7a4 43 = .ok (.bipush 16, 2) := by decide +kernel
theorem dJ6_bitCount_0f7a4_45 : decode cJ6_bitCount_0f7a4 45 = .ok (.iushr, 1) := by decide +kernel
theorem dJ6_bitCount_0f7a4_46 : decode cJ6_bitCount_0f7a4 46 = .ok (.iadd, 1) := by decide +kernel
theorem dJ6_bitCount_0f7a4_47 : decode cJ6_bitCount_0f7a4 47 = .ok (.istore_n 0, 1) := by decide +kernel
theorem dJ6_bitCount_0f7a4_48 : decode cJ6_bitCount_0f7a4 48 = .ok (.iload_n 0, 1) := by decide +kernel
theorem dJ6_bitCount_0f7a4_49 : decode cJ6_bitCount_0f7a4 49 = .ok (.bipush 63, 2) := by decide +kernel
theorem dJ6_bitCount_0f7a4_51 : decode cJ6_bitCount_0f7a4 51 = .ok (.iand, 1) := by decide +kernel
theorem dJ6_bitCount_0f7a4_52 : decode cJ6_bitCount_0f7a4 52 = .ok (.ireturn, 1) := by decide +kernel
theorem dJ9_max_7cf53_0 : decode cJ9_max_7cf53 0 = .ok (.iload_n 0, 1) := by decide +kernel
theorem dJ9_max_7cf53_1 : decode cJ9_max_7cf53 1 = .ok (.iload_n 1, 1) := by decide +kernel
theorem dJ9_max_7cf53_2 : decode cJ9_max_7cf53 2 = .ok (.if_icmp .lt 7, 3) := by decide +kernel
theorem dJ9_max_7cf53_5 : decode cJ9_max_7cf53 5 = .ok (.iload_n 0, 1) := by decide +kernel
theorem dJ9_max_7cf53_6 : decode cJ9_max_7cf53 6 = .ok (.goto 4, 3) := by decide +kernel
theorem dJ9_max_7cf53_9 : decode cJ9_max_7cf53 9 = .ok (.iload_n 1, 1) := by decide +kernel
theorem dJ9_max_7cf53_10 : decode cJ9_max_7cf53 10 = .ok (.ireturn, 1) := by decide +kernel
theorem dJ9_max_f86c9_0 : decode cJ9_max_f86c9 0 = .ok (.lload_n 0, 1) := by decide +kernel
theorem dJ9_max_f86c9_1 : decode cJ9_max_f86c9 1 = .ok (.lload_n 2, 1) := by decide +kernel
theorem dJ9_max_f86c9_2 : decode cJ9_max_f86c9 2 = .ok (.lcmp, 1) := by decide +kernel
theorem dJ9_max_f86c9_3 : decode cJ9_max_f86c9 3 = .ok (.ifCond .lt 7, 3) := by decide +kernel
theorem dJ9_max_f86c9_6 : decode cJ9_max_f86c9 6 = .ok (.lload_n 0, 1) := by decide +kernel
theorem dJ9_max_f86c9_7 : decode cJ9_max_f86c9 7 = .ok (.goto 4, 3) := by decide +kernel
theorem dJ9_max_f86c9_10 : decode cJ9_max_f86c9 10 = .ok (.lload_n 2, 1) := by decide +kernel
theorem dJ9_max_f86c9_11 : decode cJ9_max_f86c9 11 = .ok (.lreturn, 1) := by decide +kernel
theorem dJ9_min_7cf53_0 : decode cJ9_min_7cf53 0 = .ok (.iload_n 0, 1) := by decide +kernel
theorem dJ9_min_7cf53_1 : decode cJ9_min_7cf53 1 = .ok (.iload_n 1, 1) := by decide +kernel
theorem dJ9_min_7cf53_2 : decode cJ9_min_7cf53 2 = .ok (.if_icmp .gt 7, 3) := by decide +kernel
theorem dJ9_min_7cf53_5 : decode cJ9_min_7cf53 5 = .ok (.iload_n 0, 1) := by decide +kernel
theorem dJ9_min_7cf53_6 : decode cJ9_min_7cf53 6 = .ok (.goto 4, 3) := by decide +kernel
theorem dJ9_min_7cf53_9 : decode cJ9_min_7cf53 9 = .ok (.iload_n 1, 1) := by decide +kernel
theorem dJ9_min_7cf53_10 : decode cJ9_min_7cf53 10 = .ok (.ireturn, 1) := by decide +kernel
theorem dJ0_length_8abf5_0 : decode cJ0_length_8abf5 0 = .ok (.aload_n 0, 1) := by decide +kernel
theorem dJ0_length_8abf5_1 : decode cJ0_length_8abf5 1 = .ok (.getfield 9, 3) := by decide +kernel
theorem dJ0_length_8abf5_4 : decode cJ0_length_8abf5 4 = .ok (.arraylength, 1) := by decide +kernel
theorem dJ0_length_8abf5_5 : decode cJ0_length_8abf5 5 = .ok (.aload_n 0, 1) := by decide +kernel
theorem dJ0_length_8abf5_6 : decode cJ0_length_8abf5 6 = .ok (.invokevirtual 335, 3) := by decide +kernel
theorem dJ0_length_8abf5_9 : decode cJ0_length_8abf5 9 = .ok (.ishr, 1) := by decide +kernel
theorem dJ0_length_8abf5_10 : decode cJ0_length_8abf5 10 = .ok (.ireturn, 1) := by decide +kernel
theorem dJ0_charAt_5068e_0 : decode cJ0_charAt_5068e 0 = .ok (.aload_n 0, 1) := by decide +kernel
theorem dJ0_charAt_5068e_1 : decode cJ0_charAt_5068e 1 = .ok (.invokevirtual 492, 3) := by decide +kernel
theorem dJ0_charAt_5068e_4 : decode cJ0_charAt_5068e 4 = .ok (.ifCond .eq 12, 3) := by decide +kernel
theorem dJ0_charAt_5068e_7 : decode cJ0_charAt_5068e 7 = .ok (.aload_n 0, 1) := by decide +kernel
theorem dJ0_charAt_5068e_8 : decode cJ0_charAt_5068e 8 = .ok (.getfield 9, 3) := by decide +kernel
theorem dJ0_charAt_5068e_11 : decode cJ0_charAt_5068e 11 = .ok (.iload_n 1, 1) := by decide +kernel
theorem dJ0_charAt_5068e_12 : decode cJ0_charAt_5068e 12 = .ok (.invokestatic 495, 3) := by decide +kernel
theorem dJ0_charAt_5068e_15 : decode cJ0_charAt_5068e 15 = .ok (.ireturn, 1) := by decide +kernel
theorem dJ0_charAt_5068e_16 : decode cJ0_charAt_5068e 16 = .ok (.aload_n 0, 1) := by decide +kernel
theorem dJ0_charAt_5068e_17 : decode cJ0_charAt_5068e 17 = .ok (.getfield 9, 3) := by decide +kernel
theorem dJ0_charAt_5068e_20 : decode cJ0_charAt_5068e 20 = .ok (.iload_n 1, 1) := by decide +kernel
theorem dJ0_charAt_5068e_21 : decode cJ0_charAt_5068e 21 = .ok (.invokestatic 498, 3) := by decide +kernel
theorem dJ0_charAt_5068e_24 : decode cJ0_charAt_5068e 24 = .ok (.ireturn, 1) := by decide +kernel
theorem dJ0_coder_7d493_0 : decode cJ0_coder_7d493 0 = .ok (.getstatic 38, 3) := by decide +kernel
theorem dJ0_coder_7d493_3 : decode cJ0_coder_7d493 3 = .ok (.ifCond .eq 10, 3) := by decide +kernel
theorem dJ0_coder_7d493_6 : decode cJ0_coder_7d493 6 = .ok (.aload_n 0, 1) := by decide +kernel
theorem dJ0_coder_7d493_7 : decode cJ0_coder_7d493 7 = .ok (.getfield 15, 3) := by decide +kernel
theorem dJ0_coder_7d493_10 : decode cJ0_coder_7d493 10 = .ok (.goto 4, 3) := by decide +kernel
theorem dJ0_coder_7d493_13 : decode cJ0_coder_7d493 13 = .ok (.iconst 1, 1) := by decide +kernel
theorem dJ0_coder_7d493_14 : decode cJ0_coder_7d493 14 = .ok (.ireturn, 1) := by decide +kernel
theorem dJ0_isLatin1_aae02_0 : decode cJ0_isLatin1_aae02 0 = .ok (.getstatic 38, 3) := by decide +kernel
theorem dJ0_isLatin1_aae02_3 : decode cJ0_isLatin1_aae02 3 = .ok (.ifCond .eq 14, 3) := by decide +kernel
theorem dJ0_isLatin1_aae02_6 : decode cJ0_isLatin1_aae02 6 = .ok (.aload_n 0, 1) := by decide +kernel
theorem dJ0_isLatin1_aae02_7 : decode cJ0_isLatin1_aae02 7 = .ok (.getfield 15, 3) := by decide +kernel
theorem dJ0_isLatin1_aae02_10 : decode cJ0_isLatin1_aae02 10 = .ok (.ifCond .ne 7, 3) := by decide +kernel
theorem dJ0_isLatin1_aae02_13 : decode cJ0_isLatin1_aae02 13 = .ok (.iconst 1, 1) := by decide +kernel
theorem dJ0_isLatin1_aae02_14 : decode cJ0_isLatin1_aae02 14 = .ok (.goto 4, 3) := by decide +kernel
theorem dJ0_isLatin1_aae02_17 : decode cJ0_isLatin1_aae02 17 = .ok (.iconst 0, 1) := by decide +kernel
theorem dJ0_isLatin1_aae02_18 : decode cJ0_isLatin1_aae02 18 = .ok (.ireturn, 1) := by decide +kernel
theorem dJ0_checkIndex_df160_0 : decode cJ0_checkIndex_df160 0 = .ok (.iload_n 0, 1) := by decide +kernel
theorem dJ0_checkIndex_df160_1 : decode cJ0_checkIndex_df160 1 = .ok (.iload_n 1, 1) := by decide +kernel
theorem dJ0_checkIndex_df160_2 : decode cJ0_checkIndex_df160 2 = .ok (.getstatic 1053, 3) := by decide +kernel
theorem dJ0_checkIndex_df160_5 : decode cJ0_checkIndex_df160 5 = .ok (.invokestatic 1059, 3) := by decide +kernel
theorem dJ0_checkIndex_df160_8 : decode cJ0_checkIndex_df160 8 = .ok (.pop, 1) := by decide +kernel
theorem dJ0_checkIndex_df160_9 : decode cJ0_checkIndex_df160 9 = .ok (.return_, 1) := by decide +kernel
theorem dJ1_charAt_3b067_0 : decode cJ1_charAt_3b067 0 = .ok (.iload_n 1, 1) := by decide +kernel
theorem dJ1_charAt_3b067_1 : decode cJ1_charAt_3b067 1 = .ok (.aload_n 0, 1) := by decide +kernel
theorem dJ1_charAt_3b067_2 : decode cJ1_charAt_3b067 2 = .ok (.arraylength, 1) := by decide +kernel
theorem dJ1_charAt_3b067_3 : decode cJ1_charAt_3b067 3 = .ok (.invokestatic 9, 3) := by decide +kernel
theorem dJ1_charAt_3b067_6 : decode cJ1_charAt_3b067 6 = .ok (.aload_n 0, 1) := by decide +kernel
theorem dJ1_charAt_3b067_7 : decode cJ1_charAt_3b067 7 = .ok (.iload_n 1, 1) := by decide +kernel
theorem dJ1_charAt_3b067_8 : decode cJ1_charAt_3b067 8 = .ok (.baload, 1) := by decide +kernel
theorem dJ1_charAt_3b067_9 : decode cJ1_charAt_3b067 9 = .ok (.sipush 255, 3) := by decide +kernel
theorem dJ1_charAt_3b067_12 : decode cJ1_charAt_3b067 12 = .ok (.iand, 1) := by decide +kernel
theorem dJ1_charAt_3b067_13 : decode cJ1_charAt_3b067 13 = .ok (.i2c, 1) := by decide +kernel
theorem dJ1_charAt_3b067_14 : decode cJ1_charAt_3b067 14 = .ok (.ireturn, 1) := by decide +kernel
theorem dJ2_getChar_3b067_0 : decode cJ2_getChar_3b067 0 = .ok (.getstatic 44, 3) := by decide +kernel
theorem dJ2_getChar_3b067_3 : decode cJ2_getChar_3b067 3 = .ok (.ifCond .ne 25, 3) := by decide +kernel
theorem dJ2_getChar_3b067_6 : decode cJ2_getChar_3b067 6 = .ok (.iload_n 1, 1) := by decide +kernel
theorem dJ2_getChar_3b067_7 : decode cJ2_getChar_3b067 7 = .ok (.ifCond .lt 11, 3) := by decide +kernel
theorem dJ2_getChar_3b067_10 : decode cJ2_getChar_3b067 10 = .ok (.iload_n 1, 1) := by decide +kernel
theorem dJ2_getChar_3b067_11 : decode cJ2_getChar_3b067 11 = .ok (.aload_n 0, 1) := by decide +kernel
theorem dJ2_getChar_3b067_12 : decode cJ2_getChar_3b067 12 = .ok (.invokestatic 48, 3) := by decide +kernel
theorem dJ2_getChar_3b067_15 : decode cJ2_getChar_3b067 15 = .ok (.if_icmp .lt 13, 3) := by decide +kernel
theorem dJ2_getChar_3b067_18 : decode cJ2_getChar_3b067 18 = .ok (.new 52, 3) := by decide +kernel
theorem dJ2_getChar_3b067_21 : decode cJ2_getChar_3b067 21 = .ok (.dup, 1) := by decide +kernel
theorem dJ2_getChar_3b067_22 : decode cJ2_getChar_3b067 22 = .ok (.ldc 54, 2) := by decide +kernel
theorem dJ2_getChar_3b067_24 : decode cJ2_getChar_3b067 24 = .ok (.invokespecial 56, 3) := by decide +kernel
theorem dJ2_getChar_3b067_27 : decode cJ2_getChar_3b067 27 = .ok (.athrow, 1) := by decide +kernel
theorem dJ2_getChar_3b067_28 : decode cJ2_getChar_3b067 28 = .ok (.iload_n 1, 1) := by decide +kernel
theorem dJ2_getChar_3b067_29 : decode cJ2_getChar_3b067 29 = .ok (.iconst 1, 1) := by decide +kernel
theorem dJ2_getChar_3b067_30 : decode cJ2_getChar_3b067 30 = .ok (.ishl, 1) := by decide +kernel
theorem dJ2_getChar_3b067_31 : decode cJ2_getChar_3b067 31 = .ok (.istore_n 1, 1) := by decide +kernel
theorem dJ2_getChar_3b067_32 : decode cJ2_getChar_3b067 32 = .ok (.aload_n 0, 1) := by decide +kernel
theorem dJ2_getChar_3b067_33 : decode cJ2_getChar_3b067 33 = .ok (.iload_n 1, 1) := by decide +kernel
theorem dJ2_getChar_3b067_34 : decode cJ2_getChar_3b067 34 = .ok (.iinc 1 1, 3) := by decide +kernel
theorem dJ2_getChar_3b067_37 : decode cJ2_getChar_3b067 37 = .ok (.baload, 1) := by decide +kernel
theorem dJ2_getChar_3b067_38 : decode cJ2_getChar_3b067 38 = .ok (.sipush 255, 3) := by decide +kernel
theorem dJ2_getChar_3b067_41 : decode cJ2_getChar_3b067 41 = .ok (.iand, 1) := by decide +kernel
theorem dJ2_getChar_3b067_42 : decode cJ2_getChar_3b067 42 = .ok (.getstatic 59, 3) := by decide +kernel
theorem dJ2_getChar_3b067_45 : decode cJ2_getChar_3b067 45 = .ok (.ishl, 1) := by decide +kernel
theorem dJ2_getChar_3b067_46 : decode cJ2_getChar_3b067 46 = .ok (.aload_n 0, 1) := by decide +kernel
theorem dJ2_getChar_3b067_47 : decode cJ2_getChar_3b067 47 = .ok (.iload_n 1, 1) := by decide +kernel
theorem dJ2_getChar_3b067_48 : decode cJ2_getChar_3b067 48 = .ok (.baload, 1) := by decide +kernel
theorem dJ2_getChar_3b067_49 : decode cJ2_getChar_3b067 49 = .ok (.sipush 255, 3) := by decide +kernel
theorem dJ2_getChar_3b067_52 : decode cJ2_getChar_3b067 52 = .ok (.iand, 1) := by decide +kernel
theorem dJ2_getChar_3b067_53 : decode cJ2_getChar_3b067 53 = .ok (.getstatic 63, 3) := by decide +kernel
theorem dJ2_getChar_3b067_56 : decode cJ2_getChar_3b067 56 = .ok (.ishl, 1) := by decide +kernel
theorem dJ2_getChar_3b067_57 : decode cJ2_getChar_3b067 57 = .ok (.ior, 1) := by decide +kernel
theorem dJ2_getChar_3b067_58 : decode cJ2_getChar_3b067 58 = .ok (.i2c, 1) := by decide +kernel
theorem dJ2_getChar_3b067_59 : decode cJ2_getChar_3b067 59 = .ok (.ireturn, 1) := by decide +kernel
theorem dJ2_length_9d52b_0 : decode cJ2_length_9d52b 0 = .ok (.aload_n 0, 1) := by decide +kernel
theorem dJ2_length_9d52b_1 : decode cJ2_length_9d52b 1 = .ok (.arraylength, 1) := by decide +kernel
theorem dJ2_length_9d52b_2 : decode cJ2_length_9d52b 2 = .ok (.iconst 1, 1) := by decide +kernel
theorem dJ2_length_9d52b_3 : decode cJ2_length_9d52b 3 = .ok (.ishr, 1) := by decide +kernel
theorem dJ2_length_9d52b_4 : decode cJ2_length_9d52b 4 = .ok (.ireturn, 1) := by decide +kernel
theorem dJ2_charAt_3b067_0 : decode cJ2_charAt_3b067 0 = .ok (.iload_n 1, 1) := by decide +kernel
theorem dJ2_charAt_3b067_1 : decode cJ2_charAt_3b067 1 = .ok (.aload_n 0, 1) := by decide +kernel
theorem dJ2_charAt_3b067_2 : decode cJ2_charAt_3b067 2 = .ok (.invokestatic 67, 3) := by decide +kernel
theorem dJ2_charAt_3b067_5 : decode cJ2_charAt_3b067 5 = .ok (.aload_n 0, 1) := by decide +kernel
theorem dJ2_charAt_3b067_6 : decode cJ2_charAt_3b067 6 = .ok (.iload_n 1, 1) := by decide +kernel
theorem dJ2_charAt_3b067_7 : decode cJ2_charAt_3b067 7 = .ok (.invokestatic 71, 3) := by decide +kernel
theorem dJ2_charAt_3b067_10 : decode cJ2_charAt_3b067 10 = .ok (.ireturn, 1) := by decide +kernel
theorem dJ2_checkIndex_2214a_0 : decode cJ2_checkIndex_2214a 0 = .ok (.iload_n 0, 1) := by decide +kernel
theorem dJ2_checkIndex_2214a_1 : decode cJ2_checkIndex_2214a 1 = .ok (.aload_n 1, 1) := by decide +kernel
theorem dJ2_checkIndex_2214a_2 : decode cJ2_checkIndex_2214a 2 = .ok (.invokestatic 48, 3) := by decide +kernel
theorem dJ2_checkIndex_2214a_5 : decode cJ2_checkIndex_2214a 5 = .ok (.invokestatic 414, 3) := by decide +kernel
theorem dJ2_checkIndex_2214a_8 : decode cJ2_checkIndex_2214a 8 = .ok (.return_, 1) := by decide +kernel
theorem dJ3_checkIndex_8e157_0 : decode cJ3_checkIndex_8e157 0 = .ok (.iload_n 0, 1) := by decide +kernel
theorem dJ3_checkIndex_8e157_1 : decode cJ3_checkIndex_8e157 1 = .ok (.ifCond .lt 8, 3) := by decide +kernel
theorem dJ3_checkIndex_8e157_4 : decode cJ3_checkIndex_8e157 4 = .ok (.iload_n 0, 1) := by decide +kernel
theorem dJ3_checkIndex_8e157_5 : decode cJ3_checkIndex_8e157 5 = .ok (.iload_n 1, 1) := by decide +kernel
theorem dJ3_checkIndex_8e157_6 : decode cJ3_checkIndex_8e157 6 = .ok (.if_icmp .lt 10, 3) := by decide +kernel
theorem dJ3_checkIndex_8e157_9 : decode cJ3_checkIndex_8e157 9 = .ok (.aload_n 2, 1) := by decide +kernel
theorem dJ3_checkIndex_8e157_10 : decode cJ3_checkIndex_8e157 10 = .ok (.iload_n 0, 1) := by decide +kernel
theorem dJ3_checkIndex_8e157_11 : decode cJ3_checkIndex_8e157 11 = .ok (.iload_n 1, 1) := by decide +kernel
theorem dJ3_checkIndex_8e157_12 : decode cJ3_checkIndex_8e157 12 = .ok (.invokestatic 95, 3) := by decide +kernel
theorem dJ3_checkIndex_8e157_15 : decode cJ3_checkIndex_8e157 15 = .ok (.athrow, 1) := by decide +kernel
theorem dJ3_checkIndex_8e157_16 : decode cJ3_checkIndex_8e157 16 = .ok (.iload_n 0, 1) := by decide +kernel
theorem dJ3_checkIndex_8e157_17 : decode cJ3_checkIndex_8e157 17 = .ok (.ireturn, 1) := by decide +kernel
end
section
theorem dX6_init_0 : decode cX6_init 0 = .ok (.aload_n 0, 1) := by decide +kernel
theorem dX6_init_1 : decode cX6_init 1 = .ok (.invokespecial 3, 3) := by decide +kernel
theorem dX6_init_4 : decode cX6_init 4 = .ok (.aload_n 0, 1) := by decide +kernel
theorem dX6_init_5 : decode cX6_init 5 = .ok (.new 9, 3) := by decide +kernel
theorem dX6_init_8 : decode cX6_init 8 = .ok (.dup, 1) := by decide +kernel
theorem dX6_init_9 : decode cX6_init 9 = .ok (.invokespecial 11, 3) := by decide +kernel
theorem dX6_init_12 : decode cX6_init 12 = .ok (.putfield 12, 3) := by decide +kernel
theorem dX6_init_15 : decode cX6_init 15 = .ok (.aload_n 0, 1) := by decide +kernel
theorem dX6_init_16 : decode cX6_init 16 = .ok (.aload_n 0, 1) := by decide +kernel
theorem dX6_init_17 : decode cX6_init 17 = .ok (.getfield 12, 3) := by decide +kernel
theorem dX6_init_20 : decode cX6_init 20 = .ok (.getfield 16, 3) := by decide +kernel
theorem dX6_init_23 : decode cX6_init 23 = .ok (.putfield 20, 3) := by decide +kernel
theorem dX6_init_26 : decode cX6_init 26 = .ok (.aload_n 0, 1) := by decide +kernel
theorem dX6_init_27 : decode cX6_init 27 = .ok (.new 21, 3) := by decide +kernel
theorem dX6_init_30 : decode cX6_init 30 = .ok (.dup, 1) := by decide +kernel
theorem dX6_init_31 : decode cX6_init 31 = .ok (.invokespecial 23, 3) := by decide +kernel
theorem dX6_init_34 : decode cX6_init 34 = .ok (.putfield 24, 3) := by decide +kernel
theorem dX6_init_37 : decode cX6_init 37 = .ok (.aload_n 0, 1) := by decide +kernel
theorem dX6_init_38 : decode cX6_init 38 = .ok (.new 21, 3) := by decide +kernel
theorem dX6_init_41 : decode cX6_init 41 = .ok (.dup, 1) := by decide +kernel
theorem dX6_init_42 : decode cX6_init 42 = .ok (.invokespecial 23, 3) := by decide +kernel
theorem dX6_init_45 : decode cX6_init 45 = .ok (.putfield 28, 3) := by decide +kernel
theorem dX6_init_48 : decode cX6_init 48 = .ok (.aload_n 0, 1) := by decide +kernel
theorem dX6_init_49 : decode cX6_init 49 = .ok (.iconst 2, 1) := by decide +kernel
theorem dX6_init_50 : decode cX6_init 50 = .ok (.anewarray 21, 3) := by decide +kernel
theorem dX6_init_53 : decode cX6_init 53 = .ok (.putfield 31, 3) := by decide +kernel
theorem dX6_init_56 : decode cX6_init 56 = .ok (.aload_n 0, 1) := by decide +kernel
theorem dX6_init_57 : decode cX6_init 57 = .ok (.iconst 2, 1) := by decide +kernel
theorem dX6_init_58 : decode cX6_init 58 = .ok (.newarray .boolean, 2) := by decide +kernel
theorem dX6_init_60 : decode cX6_init 60 = .ok (.putfield 35, 3) := by decide +kernel
theorem dX6_init_63 : decode cX6_init 63 = .ok (.aload_n 0, 1) := by decide +kernel
theorem dX6_init_64 : decode cX6_init 64 = .ok (.iconst 4, 1) := by decide +kernel
theorem dX6_init_65 : decode cX6_init 65 = .ok (.anewarray 39, 3) := by decide +kernel
theorem dX6_init_68 : decode cX6_init 68 = .ok (.putfield 41, 3) := by decide +kernel
theorem dX6_init_71 : decode cX6_init 71 = .ok (.aload_n 0, 1) := by decide +kernel
theorem dX6_init_72 : decode cX6_init 72 = .ok (.new 45, 3) := by decide +kernel
theorem dX6_init_75 : decode cX6_init 75 = .ok (.dup, 1) := by decide +kernel
theorem dX6_init_76 : decode cX6_init 76 = .ok (.invokespecial 47, 3) := by decide +kernel
theorem dX6_init_79 : decode cX6_init 79 = .ok (.putfield 48, 3) := by decide +kernel
theorem dX6_init_82 : decode cX6_init 82 = .ok (.aload_n 0, 1) := by decide +kernel
theorem dX6_init_83 : decode cX6_init 83 = .ok (.new 52, 3) := by decide +kernel
theorem dX6_init_86 : decode cX6_init 86 = .ok (.dup, 1) := by decide +kernel
theorem dX6_init_87 : decode cX6_init 87 = .ok (.invokespecial 54, 3) := by decide +kernel
theorem dX6_init_90 : decode cX6_init 90 = .ok (.putfield 55, 3) := by decide +kernel
theorem dX6_init_93 : decode cX6_init 93 = .ok (.aload_n 0, 1) := by decide +kernel
theorem dX6_init_94 : decode cX6_init 94 = .ok (.iconst 5, 1) := by decide +kernel
theorem dX6_init_95 : decode cX6_init 95 = .ok (.newarray .int, 2) := by decide +kernel
theorem dX6_init_97 : decode cX6_init 97 = .ok (.putfield 59, 3) := by decide +kernel
theorem dX6_init_100 : decode cX6_init 100 = .ok (.aload_n 0, 1) := by decide +kernel
theorem dX6_init_101 : decode cX6_init 101 = .ok (.sipush 441, 3) := by decide +kernel
theorem dX6_init_104 : decode cX6_init 104 = .ok (.newarray .int, 2) := by decide +kernel
theorem dX6_init_106 : decode cX6_init 106 = .ok (.putfield 63, 3) := by decide +kernel
theorem dX6_init_109 : decode cX6_init 109 = .ok (.aload_n 0, 1) := by decide +kernel
theorem dX6_init_110 : decode cX6_init 110 = .ok (.bipush 6, 2) := by decide +kernel
theorem dX6_init_112 : decode cX6_init 112 = .ok (.newarray .int, 2) := by decide +kernel
theorem dX6_init_114 : decode cX6_init 114 = .ok (.putfield 66, 3) := by decide +kernel
theorem dX6_init_117 : decode cX6_init 117 = .ok (.iconst 0, 1) := by decide +kernel
theorem dX6_init_118 : decode cX6_init 118 = .ok (.istore_n 1, 1) := by decide +kernel
theorem dX6_init_119 : decode cX6_init 119 = .ok (.iload_n 1, 1) := by decide +kernel
theorem dX6_init_120 : decode cX6_init 120 = .ok (.iconst 2, 1) := by decide +kernel
theorem dX6_init_121 : decode cX6_init 121 = .ok (.if_icmp .ge 22, 3) := by decide +kernel
theorem dX6_init_124 : decode cX6_init 124 = .ok (.aload_n 0, 1) := by decide +kernel
theorem dX6_init_125 : decode cX6_init 125 = .ok (.getfield 31, 3) := by decide +kernel
theorem dX6_init_128 : decode cX6_init 128 = .ok (.iload_n 1, 1) := by decide +kernel
theorem dX6_init_129 : decode cX6_init 129 = .ok (.new 21, 3) := by decide +kernel
theorem dX6_init_132 : decode cX6_init 132 = .ok (.dup, 1) := by decide +kernel
theorem dX6_init_133 : decode cX6_init 133 = .ok (.invokespecial 23, 3) := by decide +kernel
theorem dX6_init_136 : decode cX6_init 136 = .ok (.aastore, 1) := by decide +kernel
theorem dX6_init_137 : decode cX6_init 137 = .ok (.iinc 1 1, 3) := by decide +kernel
theorem dX6_init_140 : decode cX6_init 140 = .ok (.goto (-21), 3) := by decide +kernel
theorem dX6_init_143 : decode cX6_init 143 = .ok (.iconst 0, 1) := by decide +kernel
theorem dX6_init_144 : decode cX6_init 144 = .ok (.istore_n 1, 1) := by decide +kernel
theorem dX6_init_145 : decode cX6_init 145 = .ok (.iload_n 1, 1) := by decide +kernel
theorem dX6_init_146 : decode cX6_init 146 = .ok (.iconst 4, 1) := by decide +kernel
theorem dX6_init_147 : decode cX6_init 147 = .ok (.if_icmp .ge 22, 3) := by decide +kernel
theorem dX6_init_150 : decode cX6_init 150 = .ok (.aload_n 0, 1) := by decide +kernel
theorem dX6_init_151 : decode cX6_init 151 = .ok (.getfield 41, 3) := by decide +kernel
theorem dX6_init_154 : decode cX6_init 154 = .ok (.iload_n 1, 1) := by decide +kernel
theorem dX6_init_155 : decode cX6_init 155 = .ok (.new 39, 3) := by decide +kernel
theorem dX6_init_158 : decode cX6_init 158 = .ok (.dup, 1) := by decide +kernel
theorem dX6_init_159 : decode cX6_init 159 = .ok (.invokespecial 69, 3) := by decide +kernel
theorem dX6_init_162 : decode cX6_init 162 = .ok (.aastore, 1) := by decide +kernel
theorem dX6_init_163 : decode cX6_init 163 = .ok (.iinc 1 1, 3) := by decide +kernel
theorem dX6_init_166 : decode cX6_init 166 = .ok (.goto (-21), 3) := by decide +kernel
theorem dX6_init_169 : decode cX6_init 169 = .ok (.return_, 1) := by decide +kernel
theorem dX6_feed_0 : decode cX6_feed 0 = .ok (.iload_n 1, 1) := by decide +kernel
theorem dX6_feed_1 : decode cX6_feed 1 = .ok (.bipush 127, 2) := by decide +kernel
theorem dX6_feed_3 : decode cX6_feed 3 = .ok (.invokestatic 70, 3) := by decide +kernel
theorem dX6_feed_6 : decode cX6_feed 6 = .ok (.ifCond .ne 5, 3) := by decide +kernel
theorem dX6_feed_9 : decode cX6_feed 9 = .ok (.iconst (-1), 1) := by decide +kernel
theorem dX6_feed_10 : decode cX6_feed 10 = .ok (.ireturn, 1) := by decide +kernel
theorem dX6_feed_11 : decode cX6_feed 11 = .ok (.aload_n 0, 1) := by decide +kernel
theorem dX6_feed_12 : decode cX6_feed 12 = .ok (.getfield 20, 3) := by decide +kernel
theorem dX6_feed_15 : decode cX6_feed 15 = .ok (.iload_n 1, 1) := by decide +kernel
theorem dX6_feed_16 : decode cX6_feed 16 = .ok (.invokevirtual 74, 3) := by decide +kernel
theorem dX6_feed_19 : decode cX6_feed 19 = .ok (.ifCond .eq 13, 3) := by decide +kernel
theorem dX6_feed_22 : decode cX6_feed 22 = .ok (.aload_n 0, 1) := by decide +kernel
theorem dX6_feed_23 : decode cX6_feed 23 = .ok (.getfield 20, 3) := by decide +kernel
theorem dX6_feed_26 : decode cX6_feed 26 = .ok (.getfield 80, 3) := by decide +kernel
theorem dX6_feed_29 : decode cX6_feed 29 = .ok (.goto 5, 3) := by decide +kernel
theorem dX6_feed_32 : decode cX6_feed 32 = .ok (.bipush (-3), 2) := by decide +kernel
theorem dX6_feed_34 : decode cX6_feed 34 = .ok (.ireturn, 1) := by decide +kernel
theorem dX6_end_0 : decode cX6_end 0 = .ok (.iload_n 1, 1) := by decide +kernel
theorem dX6_end_1 : decode cX6_end 1 = .ok (.aload_n 0, 1) := by decide +kernel
theorem dX6_end_2 : decode cX6_end 2 = .ok (.getfield 20, 3) := by decide +kernel
theorem dX6_end_5 : decode cX6_end 5 = .ok (.getfield 80, 3) := by decide +kernel
theorem dX6_end_8 : decode cX6_end 8 = .ok (.invokestatic 70, 3) := by decide +kernel
theorem dX6_end_11 : decode cX6_end 11 = .ok (.ifCond .ne 5, 3) := by decide +kernel
theorem dX6_end_14 : decode cX6_end 14 = .ok (.iconst (-1), 1) := by decide +kernel
theorem dX6_end_15 : decode cX6_end 15 = .ok (.ireturn, 1) := by decide +kernel
theorem dX6_end_16 : decode cX6_end 16 = .ok (.aload_n 0, 1) := by decide +kernel
theorem dX6_end_17 : decode cX6_end 17 = .ok (.getfield 20, 3) := by decide +kernel
theorem dX6_end_20 : decode cX6_end 20 = .ok (.getfield 80, 3) := by decide +kernel
theorem dX6_end_23 : decode cX6_end 23 = .ok (.istore_n 2, 1) := by decide +kernel
theorem dX6_end_24 : decode cX6_end 24 = .ok (.aload_n 0, 1) := by decide +kernel
theorem dX6_end_25 : decode cX6_end 25 = .ok (.getfield 20, 3) := by decide +kernel
theorem dX6_end_28 : decode cX6_end 28 = .ok (.iload_n 1, 1) := by decide +kernel
theorem dX6_end_29 : decode cX6_end 29 = .ok (.putfield 80, 3) := by decide +kernel
theorem dX6_end_32 : decode cX6_end 32 = .ok (.iload_n 2, 1) := by decide +kernel
theorem dX6_end_33 : decode cX6_end 33 = .ok (.ireturn, 1) := by decide +kernel
theorem dX6_text_0 : decode cX6_text 0 = .ok (.aload_n 0, 1) := by decide +kernel
theorem dX6_text_1 : decode cX6_text 1 = .ok (.getfield 12, 3) := by decide +kernel
theorem dX6_text_4 : decode cX6_text 4 = .ok (.aload_n 0, 1) := by decide +kernel
theorem dX6_text_5 : decode cX6_text 5 = .ok (.getfield 28, 3) := by decide +kernel
theorem dX6_text_8 : decode cX6_text 8 = .ok (.invokevirtual 84, 3) := by decide +kernel
theorem dX6_text_11 : decode cX6_text 11 = .ok (.istore_n 1, 1) := by decide +kernel
theorem dX6_text_12 : decode cX6_text 12 = .ok (.aload_n 0, 1) := by decide +kernel
theorem dX6_text_13 : decode cX6_text 13 = .ok (.getfield 20, 3) := by decide +kernel
theorem dX6_text_16 : decode cX6_text 16 = .ok (.iconst 0, 1) := by decide +kernel
theorem dX6_text_17 : decode cX6_text 17 = .ok (.putfield 80, 3) := by decide +kernel
theorem dX6_text_20 : decode cX6_text 20 = .ok (.aload_n 0, 1) := by decide +kernel
theorem dX6_text_21 : decode cX6_text 21 = .ok (.getfield 12, 3) := by decide +kernel
theorem dX6_text_24 : decode cX6_text 24 = .ok (.getfield 88, 3) := by decide +kernel
theorem dX6_text_27 : decode cX6_text 27 = .ok (.ifCond .eq 14, 3) := by decide +kernel
theorem dX6_text_30 : decode cX6_text 30 = .ok (.bipush (-10), 2) := by decide +kernel
theorem dX6_text_32 : decode cX6_text 32 = .ok (.aload_n 0, 1) := by decide +kernel
theorem dX6_text_33 : decode cX6_text 33 = .ok (.getfield 12, 3) := by decide +kernel
theorem dX6_text_36 : decode cX6_text 36 = .ok (.getfield 91, 3) := by decide +kernel
theorem dX6_text_39 : decode cX6_text 39 = .ok (.isub, 1) := by decide +kernel
theorem dX6_text_40 : decode cX6_text 40 = .ok (.ireturn, 1) := by decide +kernel
theorem dX6_text_41 : decode cX6_text 41 = .ok (.aload_n 0, 1) := by decide +kernel
theorem dX6_text_42 : decode cX6_text 42 = .ok (.getfield 24, 3) := by decide +kernel
theorem dX6_text_45 : decode cX6_text 45 = .ok (.aload_n 0, 1) := by decide +kernel
theorem dX6_text_46 : decode cX6_text 46 = .ok (.getfield 28, 3) := by decide +kernel
theorem dX6_text_49 : decode cX6_text 49 = .ok (.invokevirtual 94, 3) := by decide +kernel
theorem dX6_text_52 : decode cX6_text 52 = .ok (.aload_n 0, 1) := by decide +kernel
theorem dX6_text_53 : decode cX6_text 53 = .ok (.getfield 48, 3) := by decide +kernel
theorem dX6_text_56 : decode cX6_text 56 = .ok (.iconst 0, 1) := by decide +kernel
theorem dX6_text_57 : decode cX6_text 57 = .ok (.putfield 98, 3) := by decide +kernel
theorem dX6_text_60 : decode cX6_text 60 = .ok (.iconst 0, 1) := by decide +kernel
theorem dX6_text_61 : decode cX6_text 61 = .ok (.istore_n 2, 1) := by decide +kernel
theorem dX6_text_62 : decode cX6_text 62 = .ok (.iload_n 2, 1) := by decide +kernel
theorem dX6_text_63 : decode cX6_text 63 = .ok (.iconst 2, 1) := by decide +kernel
theorem dX6_text_64 : decode cX6_text 64 = .ok (.if_icmp .ge 16, 3) := by decide +kernel
theorem dX6_text_67 : decode cX6_text 67 = .ok (.aload_n 0, 1) := by decide +kernel
theorem dX6_text_68 : decode cX6_text 68 = .ok (.getfield 35, 3) := by decide +kernel
theorem dX6_text_71 : decode cX6_text 71 = .ok (.iload_n 2, 1) := by decide +kernel
theorem dX6_text_72 : decode cX6_text 72 = .ok (.iconst 0, 1) := by decide +kernel
theorem dX6_text_73 : decode cX6_text 73 = .ok (.bastore, 1) := by decide +kernel
theorem dX6_text_74 : decode cX6_text 74 = .ok (.iinc 2 1, 3) := by decide +kernel
theorem dX6_text_77 : decode cX6_text 77 = .ok (.goto (-15), 3) := by decide +kernel
theorem dX6_text_80 : decode cX6_text 80 = .ok (.iload_n 1, 1) := by decide +kernel
theorem dX6_text_81 : decode cX6_text 81 = .ok (.ireturn, 1) := by decide +kernel
theorem dX6_fault_0 : decode cX6_fault 0 = .ok (.aload_n 0, 1) := by decide +kernel
theorem dX6_fault_1 : decode cX6_fault 1 = .ok (.getfield 12, 3) := by decide +kernel
theorem dX6_fault_4 : decode cX6_fault 4 = .ok (.getfield 88, 3) := by decide +kernel
theorem dX6_fault_7 : decode cX6_fault 7 = .ok (.ireturn, 1) := by decide +kernel
theorem dX6_rule_0 : decode cX6_rule 0 = .ok (.iload_n 1, 1) := by decide +kernel
theorem dX6_rule_1 : decode cX6_rule 1 = .ok (.tableswitch 87 0 5 #[39, 47, 55, 63, 71, 79], 39) := by decide +kernel
theorem dX6_rule_40 : decode cX6_rule 40 = .ok (.aload_n 0, 1) := by decide +kernel
theorem dX6_rule_41 : decode cX6_rule 41 = .ok (.getfield 24, 3) := by decide +kernel
theorem dX6_rule_44 : decode cX6_rule 44 = .ok (.getfield 101, 3) := by decide +kernel
theorem dX6_rule_47 : decode cX6_rule 47 = .ok (.ireturn, 1) := by decide +kernel
theorem dX6_rule_48 : decode cX6_rule 48 = .ok (.aload_n 0, 1) := by decide +kernel
theorem dX6_rule_49 : decode cX6_rule 49 = .ok (.getfield 24, 3) := by decide +kernel
theorem dX6_rule_52 : decode cX6_rule 52 = .ok (.getfield 104, 3) := by decide +kernel
theorem dX6_rule_55 : decode cX6_rule 55 = .ok (.ireturn, 1) := by decide +kernel
theorem dX6_rule_56 : decode cX6_rule 56 = .ok (.aload_n 0, 1) := by decide +kernel
theorem dX6_rule_57 : decode cX6_rule 57 = .ok (.getfield 24, 3) := by decide +kernel
theorem dX6_rule_60 : decode cX6_rule 60 = .ok (.getfield 107, 3) := by decide +kernel
theorem dX6_rule_63 : decode cX6_rule 63 = .ok (.ireturn, 1) := by decide +kernel
theorem dX6_rule_64 : decode cX6_rule 64 = .ok (.aload_n 0, 1) := by decide +kernel
theorem dX6_rule_65 : decode cX6_rule 65 = .ok (.getfield 24, 3) := by decide +kernel
theorem dX6_rule_68 : decode cX6_rule 68 = .ok (.invokevirtual 110, 3) := by decide +kernel
theorem dX6_rule_71 : decode cX6_rule 71 = .ok (.ireturn, 1) := by decide +kernel
theorem dX6_rule_72 : decode cX6_rule 72 = .ok (.aload_n 0, 1) := by decide +kernel
theorem dX6_rule_73 : decode cX6_rule 73 = .ok (.getfield 24, 3) := by decide +kernel
theorem dX6_rule_76 : decode cX6_rule 76 = .ok (.invokevirtual 114, 3) := by decide +kernel
theorem dX6_rule_79 : decode cX6_rule 79 = .ok (.ireturn, 1) := by decide +kernel
theorem dX6_rule_80 : decode cX6_rule 80 = .ok (.aload_n 0, 1) := by decide +kernel
theorem dX6_rule_81 : decode cX6_rule 81 = .ok (.getfield 24, 3) := by decide +kernel
theorem dX6_rule_84 : decode cX6_rule 84 = .ok (.invokevirtual 117, 3) := by decide +kernel
theorem dX6_rule_87 : decode cX6_rule 87 = .ok (.ireturn, 1) := by decide +kernel
theorem dX6_rule_88 : decode cX6_rule 88 = .ok (.iconst (-1), 1) := by decide +kernel
theorem dX6_rule_89 : decode cX6_rule 89 = .ok (.ireturn, 1) := by decide +kernel
theorem dX6_town_0 : decode cX6_town 0 = .ok (.aload_n 0, 1) := by decide +kernel
theorem dX6_town_1 : decode cX6_town 1 = .ok (.getfield 24, 3) := by decide +kernel
theorem dX6_town_4 : decode cX6_town 4 = .ok (.iload_n 1, 1) := by decide +kernel
theorem dX6_town_5 : decode cX6_town 5 = .ok (.invokevirtual 120, 3) := by decide +kernel
theorem dX6_town_8 : decode cX6_town 8 = .ok (.ifCond .ne 5, 3) := by decide +kernel
theorem dX6_town_11 : decode cX6_town 11 = .ok (.iconst (-1), 1) := by decide +kernel
theorem dX6_town_12 : decode cX6_town 12 = .ok (.ireturn, 1) := by decide +kernel
theorem dX6_town_13 : decode cX6_town 13 = .ok (.iload_n 2, 1) := by decide +kernel
theorem dX6_town_14 : decode cX6_town 14 = .ok (.tableswitch 83 0 4 #[34, 44, 54, 64, 74], 34) := by decide +kernel
theorem dX6_town_48 : decode cX6_town 48 = .ok (.aload_n 0, 1) := by decide +kernel
theorem dX6_town_49 : decode cX6_town 49 = .ok (.getfield 24, 3) := by decide +kernel
theorem dX6_town_52 : decode cX6_town 52 = .ok (.getfield 123, 3) := by decide +kernel
theorem dX6_town_55 : decode cX6_town 55 = .ok (.iload_n 1, 1) := by decide +kernel
theorem dX6_town_56 : decode cX6_town 56 = .ok (.iaload, 1) := by decide +kernel
theorem dX6_town_57 : decode cX6_town 57 = .ok (.ireturn, 1) := by decide +kernel
theorem dX6_town_58 : decode cX6_town 58 = .ok (.aload_n 0, 1) := by decide +kernel
theorem dX6_town_59 : decode cX6_town 59 = .ok (.getfield 24, 3) := by decide +kernel
theorem dX6_town_62 : decode cX6_town 62 = .ok (.getfield 126, 3) := by decide +kernel
theorem dX6_town_65 : decode cX6_town 65 = .ok (.iload_n 1, 1) := by decide +kernel
theorem dX6_town_66 : decode cX6_town 66 = .ok (.iaload, 1) := by decide +kernel
theorem dX6_town_67 : decode cX6_town 67 = .ok (.ireturn, 1) := by decide +kernel
theorem dX6_town_68 : decode cX6_town 68 = .ok (.aload_n 0, 1) := by decide +kernel
theorem dX6_town_69 : decode cX6_town 69 = .ok (.getfield 24, 3) := by decide +kernel
theorem dX6_town_72 : decode cX6_town 72 = .ok (.getfield 129, 3) := by decide +kernel
theorem dX6_town_75 : decode cX6_town 75 = .ok (.iload_n 1, 1) := by decide +kernel
theorem dX6_town_76 : decode cX6_town 76 = .ok (.iaload, 1) := by decide +kernel
theorem dX6_town_77 : decode cX6_town 77 = .ok (.ireturn, 1) := by decide +kernel
theorem dX6_town_78 : decode cX6_town 78 = .ok (.aload_n 0, 1) := by decide +kernel
theorem dX6_town_79 : decode cX6_town 79 = .ok (.getfield 24, 3) := by decide +kernel
theorem dX6_town_82 : decode cX6_town 82 = .ok (.getfield 132, 3) := by decide +kernel
theorem dX6_town_85 : decode cX6_town 85 = .ok (.iload_n 1, 1) := by decide +kernel
theorem dX6_town_86 : decode cX6_town 86 = .ok (.iaload, 1) := by decide +kernel
theorem dX6_town_87 : decode cX6_town 87 = .ok (.ireturn, 1) := by decide +kernel
theorem dX6_town_88 : decode cX6_town 88 = .ok (.aload_n 0, 1) := by decide +kernel
theorem dX6_town_89 : decode cX6_town 89 = .ok (.getfield 24, 3) := by decide +kernel
theorem dX6_town_92 : decode cX6_town 92 = .ok (.iload_n 1, 1) := by decide +kernel
theorem dX6_town_93 : decode cX6_town 93 = .ok (.invokevirtual 135, 3) := by decide +kernel
theorem dX6_town_96 : decode cX6_town 96 = .ok (.ireturn, 1) := by decide +kernel
theorem dX6_town_97 : decode cX6_town 97 = .ok (.iconst (-1), 1) := by decide +kernel
theorem dX6_town_98 : decode cX6_town 98 = .ok (.ireturn, 1) := by decide +kernel
theorem dX6_fixture_0 : decode cX6_fixture 0 = .ok (.aload_n 0, 1) := by decide +kernel
theorem dX6_fixture_1 : decode cX6_fixture 1 = .ok (.getfield 24, 3) := by decide +kernel
theorem dX6_fixture_4 : decode cX6_fixture 4 = .ok (.iload_n 1, 1) := by decide +kernel
theorem dX6_fixture_5 : decode cX6_fixture 5 = .ok (.invokevirtual 139, 3) := by decide +kernel
theorem dX6_fixture_8 : decode cX6_fixture 8 = .ok (.ifCond .eq 11, 3) := by decide +kernel
theorem dX6_fixture_11 : decode cX6_fixture 11 = .ok (.iload_n 2, 1) := by decide +kernel
theorem dX6_fixture_12 : decode cX6_fixture 12 = .ok (.iconst 1, 1) := by decide +kernel
theorem dX6_fixture_13 : decode cX6_fixture 13 = .ok (.invokestatic 70, 3) := by decide +kernel
theorem dX6_fixture_16 : decode cX6_fixture 16 = .ok (.ifCond .ne 5, 3) := by decide +kernel
theorem dX6_fixture_19 : decode cX6_fixture 19 = .ok (.iconst (-1), 1) := by decide +kernel
theorem dX6_fixture_20 : decode cX6_fixture 20 = .ok (.ireturn, 1) := by decide +kernel
theorem dX6_fixture_21 : decode cX6_fixture 21 = .ok (.iload_n 2, 1) := by decide +kernel
theorem dX6_fixture_22 : decode cX6_fixture 22 = .ok (.ifCond .ne 15, 3) := by decide +kernel
theorem dX6_fixture_25 : decode cX6_fixture 25 = .ok (.aload_n 0, 1) := by decide +kernel
theorem dX6_fixture_26 : decode cX6_fixture 26 = .ok (.getfield 24, 3) := by decide +kernel
theorem dX6_fixture_29 : decode cX6_fixture 29 = .ok (.getfield 142, 3) := by decide +kernel
theorem dX6_fixture_32 : decode cX6_fixture 32 = .ok (.iload_n 1, 1) := by decide +kernel
theorem dX6_fixture_33 : decode cX6_fixture 33 = .ok (.iaload, 1) := by decide +kernel
theorem dX6_fixture_34 : decode cX6_fixture 34 = .ok (.goto 12, 3) := by decide +kernel
theorem dX6_fixture_37 : decode cX6_fixture 37 = .ok (.aload_n 0, 1) := by decide +kernel
theorem dX6_fixture_38 : decode cX6_fixture 38 = .ok (.getfield 24, 3) := by decide +kernel
theorem dX6_fixture_41 : decode cX6_fixture 41 = .ok (.getfield 145, 3) := by decide +kernel
theorem dX6_fixture_44 : decode cX6_fixture 44 = .ok (.iload_n 1, 1) := by decide +kernel
theorem dX6_fixture_45 : decode cX6_fixture 45 = .ok (.iaload, 1) := by decide +kernel
theorem dX6_fixture_46 : decode cX6_fixture 46 = .ok (.ireturn, 1) := by decide +kernel
theorem dX6_game_0 : decode cX6_game 0 = .ok (.aload_n 0, 1) := by decide +kernel
theorem dX6_game_1 : decode cX6_game 1 = .ok (.getfield 24, 3) := by decide +kernel
theorem dX6_game_4 : decode cX6_game 4 = .ok (.iload_n 1, 1) := by decide +kernel
theorem dX6_game_5 : decode cX6_game 5 = .ok (.iload_n 2, 1) := by decide +kernel
theorem dX6_game_6 : decode cX6_game 6 = .ok (.invokevirtual 148, 3) := by decide +kernel
theorem dX6_game_9 : decode cX6_game 9 = .ok (.ifCond .eq 15, 3) := by decide +kernel
theorem dX6_game_12 : decode cX6_game 12 = .ok (.aload_n 0, 1) := by decide +kernel
theorem dX6_game_13 : decode cX6_game 13 = .ok (.getfield 24, 3) := by decide +kernel
theorem dX6_game_16 : decode cX6_game 16 = .ok (.iload_n 1, 1) := by decide +kernel
theorem dX6_game_17 : decode cX6_game 17 = .ok (.iload_n 2, 1) := by decide +kernel
theorem dX6_game_18 : decode cX6_game 18 = .ok (.invokevirtual 151, 3) := by decide +kernel
theorem dX6_game_21 : decode cX6_game 21 = .ok (.goto 4, 3) := by decide +kernel
theorem dX6_game_24 : decode cX6_game 24 = .ok (.iconst (-1), 1) := by decide +kernel
theorem dX6_game_25 : decode cX6_game 25 = .ok (.ireturn, 1) := by decide +kernel
theorem dX6_alter_0 : decode cX6_alter 0 = .ok (.aload_n 0, 1) := by decide +kernel
theorem dX6_alter_1 : decode cX6_alter 1 = .ok (.getfield 24, 3) := by decide +kernel
theorem dX6_alter_4 : decode cX6_alter 4 = .ok (.iload_n 1, 1) := by decide +kernel
theorem dX6_alter_5 : decode cX6_alter 5 = .ok (.invokevirtual 120, 3) := by decide +kernel
theorem dX6_alter_8 : decode cX6_alter 8 = .ok (.ifCond .ne 5, 3) := by decide +kernel
theorem dX6_alter_11 : decode cX6_alter 11 = .ok (.iconst (-1), 1) := by decide +kernel
theorem dX6_alter_12 : decode cX6_alter 12 = .ok (.ireturn, 1) := by decide +kernel
theorem dX6_alter_13 : decode cX6_alter 13 = .ok (.iload_n 2, 1) := by decide +kernel
theorem dX6_alter_14 : decode cX6_alter 14 = .ok (.tableswitch 89 0 3 #[30, 44, 59, 74], 30) := by decide +kernel
theorem dX6_alter_44 : decode cX6_alter 44 = .ok (.aload_n 0, 1) := by decide +kernel
theorem dX6_alter_45 : decode cX6_alter 45 = .ok (.getfield 24, 3) := by decide +kernel
theorem dX6_alter_48 : decode cX6_alter 48 = .ok (.getfield 123, 3) := by decide +kernel
theorem dX6_alter_51 : decode cX6_alter 51 = .ok (.iload_n 1, 1) := by decide +kernel
theorem dX6_alter_52 : decode cX6_alter 52 = .ok (.iload_n 3, 1) := by decide +kernel
theorem dX6_alter_53 : decode cX6_alter 53 = .ok (.iconst 3, 1) := by decide +kernel
theorem dX6_alter_54 : decode cX6_alter 54 = .ok (.invokestatic 155, 3) := by decide +kernel
theorem dX6_alter_57 : decode cX6_alter 57 = .ok (.ireturn, 1) := by decide +kernel
theorem dX6_alter_58 : decode cX6_alter 58 = .ok (.aload_n 0, 1) := by decide +kernel
theorem dX6_alter_59 : decode cX6_alter 59 = .ok (.getfield 24, 3) := by decide +kernel
theorem dX6_alter_62 : decode cX6_alter 62 = .ok (.getfield 126, 3) := by decide +kernel
theorem dX6_alter_65 : decode cX6_alter 65 = .ok (.iload_n 1, 1) := by decide +kernel
theorem dX6_alter_66 : decode cX6_alter 66 = .ok (.iload_n 3, 1) := by decide +kernel
theorem dX6_alter_67 : decode cX6_alter 67 = .ok (.bipush 20, 2) := by decide +kernel
theorem dX6_alter_69 : decode cX6_alter 69 = .ok (.invokestatic 155, 3) := by decide +kernel
theorem dX6_alter_72 : decode cX6_alter 72 = .ok (.ireturn, 1) := by decide +kernel
theorem dX6_alter_73 : decode cX6_alter 73 = .ok (.aload_n 0, 1) := by decide +kernel
theorem dX6_alter_74 : decode cX6_alter 74 = .ok (.getfield 24, 3) := by decide +kernel
theorem dX6_alter_77 : decode cX6_alter 77 = .ok (.getfield 129, 3) := by decide +kernel
theorem dX6_alter_80 : decode cX6_alter 80 = .ok (.iload_n 1, 1) := by decide +kernel
theorem dX6_alter_81 : decode cX6_alter 81 = .ok (.iload_n 3, 1) := by decide +kernel
theorem dX6_alter_82 : decode cX6_alter 82 = .ok (.bipush 99, 2) := by decide +kernel
theorem dX6_alter_84 : decode cX6_alter 84 = .ok (.invokestatic 155, 3) := by decide +kernel
theorem dX6_alter_87 : decode cX6_alter 87 = .ok (.ireturn, 1) := by decide +kernel
theorem dX6_alter_88 : decode cX6_alter 88 = .ok (.aload_n 0, 1) := by decide +kernel
theorem dX6_alter_89 : decode cX6_alter 89 = .ok (.getfield 24, 3) := by decide +kernel
theorem dX6_alter_92 : decode cX6_alter 92 = .ok (.getfield 132, 3) := by decide +kernel
theorem dX6_alter_95 : decode cX6_alter 95 = .ok (.iload_n 1, 1) := by decide +kernel
theorem dX6_alter_96 : decode cX6_alter 96 = .ok (.iload_n 3, 1) := by decide +kernel
theorem dX6_alter_97 : decode cX6_alter 97 = .ok (.bipush 99, 2) := by decide +kernel
theorem dX6_alter_99 : decode cX6_alter 99 = .ok (.invokestatic 155, 3) := by decide +kernel
theorem dX6_alter_102 : decode cX6_alter 102 = .ok (.ireturn, 1) := by decide +kernel
theorem dX6_alter_103 : decode cX6_alter 103 = .ok (.iconst (-1), 1) := by decide +kernel
theorem dX6_alter_104 : decode cX6_alter 104 = .ok (.ireturn, 1) := by decide +kernel
theorem dX6_replace_0 : decode cX6_replace 0 = .ok (.iload_n 2, 1) := by decide +kernel
theorem dX6_replace_1 : decode cX6_replace 1 = .ok (.iload_n 3, 1) := by decide +kernel
theorem dX6_replace_2 : decode cX6_replace 2 = .ok (.invokestatic 70, 3) := by decide +kernel
theorem dX6_replace_5 : decode cX6_replace 5 = .ok (.ifCond .eq 14, 3) := by decide +kernel
theorem dX6_replace_8 : decode cX6_replace 8 = .ok (.iload_n 1, 1) := by decide +kernel
theorem dX6_replace_9 : decode cX6_replace 9 = .ok (.aload_n 0, 1) := by decide +kernel
theorem dX6_replace_10 : decode cX6_replace 10 = .ok (.arraylength, 1) := by decide +kernel
theorem dX6_replace_11 : decode cX6_replace 11 = .ok (.iconst 1, 1) := by decide +kernel
theorem dX6_replace_12 : decode cX6_replace 12 = .ok (.isub, 1) := by decide +kernel
theorem dX6_replace_13 : decode cX6_replace 13 = .ok (.invokestatic 70, 3) := by decide +kernel
theorem dX6_replace_16 : decode cX6_replace 16 = .ok (.ifCond .ne 5, 3) := by decide +kernel
theorem dX6_replace_19 : decode cX6_replace 19 = .ok (.iconst (-1), 1) := by decide +kernel
theorem dX6_replace_20 : decode cX6_replace 20 = .ok (.ireturn, 1) := by decide +kernel
theorem dX6_replace_21 : decode cX6_replace 21 = .ok (.aload_n 0, 1) := by decide +kernel
theorem dX6_replace_22 : decode cX6_replace 22 = .ok (.iload_n 1, 1) := by decide +kernel
theorem dX6_replace_23 : decode cX6_replace 23 = .ok (.iaload, 1) := by decide +kernel
theorem dX6_replace_24 : decode cX6_replace 24 = .ok (.istore 4, 2) := by decide +kernel
theorem dX6_replace_26 : decode cX6_replace 26 = .ok (.aload_n 0, 1) := by decide +kernel
theorem dX6_replace_27 : decode cX6_replace 27 = .ok (.iload_n 1, 1) := by decide +kernel
theorem dX6_replace_28 : decode cX6_replace 28 = .ok (.iload_n 2, 1) := by decide +kernel
theorem dX6_replace_29 : decode cX6_replace 29 = .ok (.iastore, 1) := by decide +kernel
theorem dX6_replace_30 : decode cX6_replace 30 = .ok (.iload 4, 2) := by decide +kernel
theorem dX6_replace_32 : decode cX6_replace 32 = .ok (.ireturn, 1) := by decide +kernel
theorem dX6_lend_0 : decode cX6_lend 0 = .ok (.aload_n 0, 1) := by decide +kernel
theorem dX6_lend_1 : decode cX6_lend 1 = .ok (.getfield 24, 3) := by decide +kernel
theorem dX6_lend_4 : decode cX6_lend 4 = .ok (.iload_n 1, 1) := by decide +kernel
theorem dX6_lend_5 : decode cX6_lend 5 = .ok (.iload_n 2, 1) := by decide +kernel
theorem dX6_lend_6 : decode cX6_lend 6 = .ok (.invokevirtual 148, 3) := by decide +kernel
theorem dX6_lend_9 : decode cX6_lend 9 = .ok (.ifCond .eq 12, 3) := by decide +kernel
theorem dX6_lend_12 : decode cX6_lend 12 = .ok (.iload_n 3, 1) := by decide +kernel
theorem dX6_lend_13 : decode cX6_lend 13 = .ok (.bipush 20, 2) := by decide +kernel
theorem dX6_lend_15 : decode cX6_lend 15 = .ok (.invokestatic 70, 3) := by decide +kernel
theorem dX6_lend_18 : decode cX6_lend 18 = .ok (.ifCond .ne 5, 3) := by decide +kernel
theorem dX6_lend_21 : decode cX6_lend 21 = .ok (.iconst (-1), 1) := by decide +kernel
theorem dX6_lend_22 : decode cX6_lend 22 = .ok (.ireturn, 1) := by decide +kernel
theorem dX6_lend_23 : decode cX6_lend 23 = .ok (.aload_n 0, 1) := by decide +kernel
theorem dX6_lend_24 : decode cX6_lend 24 = .ok (.getfield 24, 3) := by decide +kernel
theorem dX6_lend_27 : decode cX6_lend 27 = .ok (.iload_n 1, 1) := by decide +kernel
theorem dX6_lend_28 : decode cX6_lend 28 = .ok (.iload_n 2, 1) := by decide +kernel
theorem dX6_lend_29 : decode cX6_lend 29 = .ok (.iload_n 3, 1) := by decide +kernel
theorem dX6_lend_30 : decode cX6_lend 30 = .ok (.invokevirtual 159, 3) := by decide +kernel
theorem dX6_lend_33 : decode cX6_lend 33 = .ok (.ireturn, 1) := by decide +kernel
theorem dX6_book_0 : decode cX6_book 0 = .ok (.aload_n 0, 1) := by decide +kernel
theorem dX6_book_1 : decode cX6_book 1 = .ok (.getfield 24, 3) := by decide +kernel
theorem dX6_book_4 : decode cX6_book 4 = .ok (.iload_n 1, 1) := by decide +kernel
theorem dX6_book_5 : decode cX6_book 5 = .ok (.iload_n 2, 1) := by decide +kernel
theorem dX6_book_6 : decode cX6_book 6 = .ok (.invokevirtual 163, 3) := by decide +kernel
theorem dX6_book_9 : decode cX6_book 9 = .ok (.ireturn, 1) := by decide +kernel
theorem dX6_strike_0 : decode cX6_strike 0 = .ok (.iload_n 1, 1) := by decide +kernel
theorem dX6_strike_1 : decode cX6_strike 1 = .ok (.aload_n 0, 1) := by decide +kernel
theorem dX6_strike_2 : decode cX6_strike 2 = .ok (.getfield 24, 3) := by decide +kernel
theorem dX6_strike_5 : decode cX6_strike 5 = .ok (.getfield 104, 3) := by decide +kernel
theorem dX6_strike_8 : decode cX6_strike 8 = .ok (.invokestatic 70, 3) := by decide +kernel
theorem dX6_strike_11 : decode cX6_strike 11 = .ok (.ifCond .ne 5, 3) := by decide +kernel
theorem dX6_strike_14 : decode cX6_strike 14 = .ok (.iconst (-1), 1) := by decide +kernel
theorem dX6_strike_15 : decode cX6_strike 15 = .ok (.ireturn, 1) := by decide +kernel
theorem dX6_strike_16 : decode cX6_strike 16 = .ok (.aload_n 0, 1) := by decide +kernel
theorem dX6_strike_17 : decode cX6_strike 17 = .ok (.getfield 24, 3) := by decide +kernel
theorem dX6_strike_20 : decode cX6_strike 20 = .ok (.getfield 104, 3) := by decide +kernel
theorem dX6_strike_23 : decode cX6_strike 23 = .ok (.istore_n 2, 1) := by decide +kernel
theorem dX6_strike_24 : decode cX6_strike 24 = .ok (.aload_n 0, 1) := by decide +kernel
theorem dX6_strike_25 : decode cX6_strike 25 = .ok (.getfield 24, 3) := by decide +kernel
theorem dX6_strike_28 : decode cX6_strike 28 = .ok (.iload_n 1, 1) := by decide +kernel
theorem dX6_strike_29 : decode cX6_strike 29 = .ok (.putfield 104, 3) := by decide +kernel
theorem dX6_strike_32 : decode cX6_strike 32 = .ok (.iload_n 2, 1) := by decide +kernel
theorem dX6_strike_33 : decode cX6_strike 33 = .ok (.ireturn, 1) := by decide +kernel
theorem dX6_weeks_0 : decode cX6_weeks 0 = .ok (.iload_n 1, 1) := by decide +kernel
theorem dX6_weeks_1 : decode cX6_weeks 1 = .ok (.bipush 30, 2) := by decide +kernel
theorem dX6_weeks_3 : decode cX6_weeks 3 = .ok (.invokestatic 70, 3) := by decide +kernel
theorem dX6_weeks_6 : decode cX6_weeks 6 = .ok (.ifCond .ne 5, 3) := by decide +kernel
theorem dX6_weeks_9 : decode cX6_weeks 9 = .ok (.iconst (-1), 1) := by decide +kernel
theorem dX6_weeks_10 : decode cX6_weeks 10 = .ok (.ireturn, 1) := by decide +kernel
theorem dX6_weeks_11 : decode cX6_weeks 11 = .ok (.aload_n 0, 1) := by decide +kernel
theorem dX6_weeks_12 : decode cX6_weeks 12 = .ok (.getfield 24, 3) := by decide +kernel
theorem dX6_weeks_15 : decode cX6_weeks 15 = .ok (.getfield 107, 3) := by decide +kernel
theorem dX6_weeks_18 : decode cX6_weeks 18 = .ok (.iload_n 1, 1) := by decide +kernel
theorem dX6_weeks_19 : decode cX6_weeks 19 = .ok (.iadd, 1) := by decide +kernel
theorem dX6_weeks_20 : decode cX6_weeks 20 = .ok (.sipush 1000, 3) := by decide +kernel
theorem dX6_weeks_23 : decode cX6_weeks 23 = .ok (.if_icmp .lt 8, 3) := by decide +kernel
theorem dX6_weeks_26 : decode cX6_weeks 26 = .ok (.bipush (-3), 2) := by decide +kernel
theorem dX6_weeks_28 : decode cX6_weeks 28 = .ok (.goto 11, 3) := by decide +kernel
theorem dX6_weeks_31 : decode cX6_weeks 31 = .ok (.aload_n 0, 1) := by decide +kernel
theorem dX6_weeks_32 : decode cX6_weeks 32 = .ok (.getfield 24, 3) := by decide +kernel
theorem dX6_weeks_35 : decode cX6_weeks 35 = .ok (.iload_n 1, 1) := by decide +kernel
theorem dX6_weeks_36 : decode cX6_weeks 36 = .ok (.invokevirtual 166, 3) := by decide +kernel
theorem dX6_weeks_39 : decode cX6_weeks 39 = .ok (.ireturn, 1) := by decide +kernel
theorem dX6_runs_0 : decode cX6_runs 0 = .ok (.iload_n 1, 1) := by decide +kernel
theorem dX6_runs_1 : decode cX6_runs 1 = .ok (.bipush 60, 2) := by decide +kernel
theorem dX6_runs_3 : decode cX6_runs 3 = .ok (.invokestatic 70, 3) := by decide +kernel
theorem dX6_runs_6 : decode cX6_runs 6 = .ok (.ifCond .eq 11, 3) := by decide +kernel
theorem dX6_runs_9 : decode cX6_runs 9 = .ok (.iload_n 2, 1) := by decide +kernel
theorem dX6_runs_10 : decode cX6_runs 10 = .ok (.iconst 3, 1) := by decide +kernel
theorem dX6_runs_11 : decode cX6_runs 11 = .ok (.invokestatic 70, 3) := by decide +kernel
theorem dX6_runs_14 : decode cX6_runs 14 = .ok (.ifCond .ne 5, 3) := by decide +kernel
theorem dX6_runs_17 : decode cX6_runs 17 = .ok (.iconst (-1), 1) := by decide +kernel
theorem dX6_runs_18 : decode cX6_runs 18 = .ok (.ireturn, 1) := by decide +kernel
theorem dX6_runs_19 : decode cX6_runs 19 = .ok (.aload_n 0, 1) := by decide +kernel
theorem dX6_runs_20 : decode cX6_runs 20 = .ok (.getfield 28, 3) := by decide +kernel
theorem dX6_runs_23 : decode cX6_runs 23 = .ok (.aload_n 0, 1) := by decide +kernel
theorem dX6_runs_24 : decode cX6_runs 24 = .ok (.getfield 24, 3) := by decide +kernel
theorem dX6_runs_27 : decode cX6_runs 27 = .ok (.invokevirtual 94, 3) := by decide +kernel
theorem dX6_runs_30 : decode cX6_runs 30 = .ok (.aload_n 0, 1) := by decide +kernel
theorem dX6_runs_31 : decode cX6_runs 31 = .ok (.getfield 28, 3) := by decide +kernel
theorem dX6_runs_34 : decode cX6_runs 34 = .ok (.iload_n 1, 1) := by decide +kernel
theorem dX6_runs_35 : decode cX6_runs 35 = .ok (.invokevirtual 166, 3) := by decide +kernel
theorem dX6_runs_38 : decode cX6_runs 38 = .ok (.istore_n 3, 1) := by decide +kernel
theorem dX6_runs_39 : decode cX6_runs 39 = .ok (.iload_n 2, 1) := by decide +kernel
theorem dX6_runs_40 : decode cX6_runs 40 = .ok (.tableswitch 56 0 2 #[28, 30, 48], 28) := by decide +kernel
theorem dX6_runs_68 : decode cX6_runs 68 = .ok (.iload_n 3, 1) := by decide +kernel
theorem dX6_runs_69 : decode cX6_runs 69 = .ok (.ireturn, 1) := by decide +kernel
theorem dX6_runs_70 : decode cX6_runs 70 = .ok (.aload_n 0, 1) := by decide +kernel
theorem dX6_runs_71 : decode cX6_runs 71 = .ok (.getfield 28, 3) := by decide +kernel
theorem dX6_runs_74 : decode cX6_runs 74 = .ok (.getfield 104, 3) := by decide +kernel
theorem dX6_runs_77 : decode cX6_runs 77 = .ok (.ifCond .ne 7, 3) := by decide +kernel
theorem dX6_runs_80 : decode cX6_runs 80 = .ok (.iconst 0, 1) := by decide +kernel
theorem dX6_runs_81 : decode cX6_runs 81 = .ok (.goto 6, 3) := by decide +kernel
theorem dX6_runs_84 : decode cX6_runs 84 = .ok (.iload_n 1, 1) := by decide +kernel
theorem dX6_runs_85 : decode cX6_runs 85 = .ok (.iload_n 3, 1) := by decide +kernel
theorem dX6_runs_86 : decode cX6_runs 86 = .ok (.isub, 1) := by decide +kernel
theorem dX6_runs_87 : decode cX6_runs 87 = .ok (.ireturn, 1) := by decide +kernel
theorem dX6_runs_88 : decode cX6_runs 88 = .ok (.aload_n 0, 1) := by decide +kernel
theorem dX6_runs_89 : decode cX6_runs 89 = .ok (.getfield 28, 3) := by decide +kernel
theorem dX6_runs_92 : decode cX6_runs 92 = .ok (.invokevirtual 117, 3) := by decide +kernel
theorem dX6_runs_95 : decode cX6_runs 95 = .ok (.ireturn, 1) := by decide +kernel
theorem dX6_runs_96 : decode cX6_runs 96 = .ok (.aload_n 0, 1) := by decide +kernel
theorem dX6_runs_97 : decode cX6_runs 97 = .ok (.getfield 28, 3) := by decide +kernel
theorem dX6_runs_100 : decode cX6_runs 100 = .ok (.invokevirtual 114, 3) := by decide +kernel
theorem dX6_runs_103 : decode cX6_runs 103 = .ok (.ireturn, 1) := by decide +kernel
theorem dX6_ahead_0 : decode cX6_ahead 0 = .ok (.aload_n 0, 1) := by decide +kernel
theorem dX6_ahead_1 : decode cX6_ahead 1 = .ok (.getfield 24, 3) := by decide +kernel
theorem dX6_ahead_4 : decode cX6_ahead 4 = .ok (.iload_n 1, 1) := by decide +kernel
theorem dX6_ahead_5 : decode cX6_ahead 5 = .ok (.invokevirtual 120, 3) := by decide +kernel
theorem dX6_ahead_8 : decode cX6_ahead 8 = .ok (.ifCond .eq 20, 3) := by decide +kernel
theorem dX6_ahead_11 : decode cX6_ahead 11 = .ok (.iload_n 2, 1) := by decide +kernel
theorem dX6_ahead_12 : decode cX6_ahead 12 = .ok (.bipush 60, 2) := by decide +kernel
theorem dX6_ahead_14 : decode cX6_ahead 14 = .ok (.invokestatic 70, 3) := by decide +kernel
theorem dX6_ahead_17 : decode cX6_ahead 17 = .ok (.ifCond .eq 11, 3) := by decide +kernel
theorem dX6_ahead_20 : decode cX6_ahead 20 = .ok (.iload_n 3, 1) := by decide +kernel
theorem dX6_ahead_21 : decode cX6_ahead 21 = .ok (.iconst 2, 1) := by decide +kernel
theorem dX6_ahead_22 : decode cX6_ahead 22 = .ok (.invokestatic 70, 3) := by decide +kernel
theorem dX6_ahead_25 : decode cX6_ahead 25 = .ok (.ifCond .ne 5, 3) := by decide +kernel
theorem dX6_ahead_28 : decode cX6_ahead 28 = .ok (.iconst (-1), 1) := by decide +kernel
theorem dX6_ahead_29 : decode cX6_ahead 29 = .ok (.ireturn, 1) := by decide +kernel
theorem dX6_ahead_30 : decode cX6_ahead 30 = .ok (.aload_n 0, 1) := by decide +kernel
theorem dX6_ahead_31 : decode cX6_ahead 31 = .ok (.getfield 28, 3) := by decide +kernel
theorem dX6_ahead_34 : decode cX6_ahead 34 = .ok (.aload_n 0, 1) := by decide +kernel
theorem dX6_ahead_35 : decode cX6_ahead 35 = .ok (.getfield 24, 3) := by decide +kernel
theorem dX6_ahead_38 : decode cX6_ahead 38 = .ok (.invokevirtual 94, 3) := by decide +kernel
theorem dX6_ahead_41 : decode cX6_ahead 41 = .ok (.aload_n 0, 1) := by decide +kernel
theorem dX6_ahead_42 : decode cX6_ahead 42 = .ok (.getfield 28, 3) := by decide +kernel
theorem dX6_ahead_45 : decode cX6_ahead 45 = .ok (.iload_n 2, 1) := by decide +kernel
theorem dX6_ahead_46 : decode cX6_ahead 46 = .ok (.invokevirtual 166, 3) := by decide +kernel
theorem dX6_ahead_49 : decode cX6_ahead 49 = .ok (.pop, 1) := by decide +kernel
theorem dX6_ahead_50 : decode cX6_ahead 50 = .ok (.iload_n 3, 1) := by decide +kernel
theorem dX6_ahead_51 : decode cX6_ahead 51 = .ok (.lookupswitch 45 #[(0, 25), (1, 35)], 25) := by decide +kernel
theorem dX6_ahead_76 : decode cX6_ahead 76 = .ok (.aload_n 0, 1) := by decide +kernel
theorem dX6_ahead_77 : decode cX6_ahead 77 = .ok (.getfield 28, 3) := by decide +kernel
theorem dX6_ahead_80 : decode cX6_ahead 80 = .ok (.getfield 126, 3) := by decide +kernel
theorem dX6_ahead_83 : decode cX6_ahead 83 = .ok (.iload_n 1, 1) := by decide +kernel
theorem dX6_ahead_84 : decode cX6_ahead 84 = .ok (.iaload, 1) := by decide +kernel
theorem dX6_ahead_85 : decode cX6_ahead 85 = .ok (.ireturn, 1) := by decide +kernel
theorem dX6_ahead_86 : decode cX6_ahead 86 = .ok (.aload_n 0, 1) := by decide +kernel
theorem dX6_ahead_87 : decode cX6_ahead 87 = .ok (.getfield 28, 3) := by decide +kernel
theorem dX6_ahead_90 : decode cX6_ahead 90 = .ok (.getfield 129, 3) := by decide +kernel
theorem dX6_ahead_93 : decode cX6_ahead 93 = .ok (.iload_n 1, 1) := by decide +kernel
theorem dX6_ahead_94 : decode cX6_ahead 94 = .ok (.iaload, 1) := by decide +kernel
theorem dX6_ahead_95 : decode cX6_ahead 95 = .ok (.ireturn, 1) := by decide +kernel
theorem dX6_ahead_96 : decode cX6_ahead 96 = .ok (.aload_n 0, 1) := by decide +kernel
theorem dX6_ahead_97 : decode cX6_ahead 97 = .ok (.getfield 28, 3) := by decide +kernel
theorem dX6_ahead_100 : decode cX6_ahead 100 = .ok (.getfield 132, 3) := by decide +kernel
theorem dX6_ahead_103 : decode cX6_ahead 103 = .ok (.iload_n 1, 1) := by decide +kernel
theorem dX6_ahead_104 : decode cX6_ahead 104 = .ok (.iaload, 1) := by decide +kernel
theorem dX6_ahead_105 : decode cX6_ahead 105 = .ok (.ireturn, 1) := by decide +kernel
theorem dX6_loser_0 : decode cX6_loser 0 = .ok (.iload_n 1, 1) := by decide +kernel
theorem dX6_loser_1 : decode cX6_loser 1 = .ok (.bipush 60, 2) := by decide +kernel
theorem dX6_loser_3 : decode cX6_loser 3 = .ok (.invokestatic 70, 3) := by decide +kernel
theorem dX6_loser_6 : decode cX6_loser 6 = .ok (.ifCond .ne 5, 3) := by decide +kernel
theorem dX6_loser_9 : decode cX6_loser 9 = .ok (.iconst (-1), 1) := by decide +kernel
theorem dX6_loser_10 : decode cX6_loser 10 = .ok (.ireturn, 1) := by decide +kernel
theorem dX6_loser_11 : decode cX6_loser 11 = .ok (.aload_n 0, 1) := by decide +kernel
theorem dX6_loser_12 : decode cX6_loser 12 = .ok (.getfield 28, 3) := by decide +kernel
theorem dX6_loser_15 : decode cX6_loser 15 = .ok (.aload_n 0, 1) := by decide +kernel
theorem dX6_loser_16 : decode cX6_loser 16 = .ok (.getfield 24, 3) := by decide +kernel
theorem dX6_loser_19 : decode cX6_loser 19 = .ok (.invokevirtual 94, 3) := by decide +kernel
theorem dX6_loser_22 : decode cX6_loser 22 = .ok (.aload_n 0, 1) := by decide +kernel
theorem dX6_loser_23 : decode cX6_loser 23 = .ok (.getfield 28, 3) := by decide +kernel
theorem dX6_loser_26 : decode cX6_loser 26 = .ok (.iload_n 1, 1) := by decide +kernel
theorem dX6_loser_27 : decode cX6_loser 27 = .ok (.invokevirtual 166, 3) := by decide +kernel
theorem dX6_loser_30 : decode cX6_loser 30 = .ok (.pop, 1) := by decide +kernel
theorem dX6_loser_31 : decode cX6_loser 31 = .ok (.aload_n 0, 1) := by decide +kernel
theorem dX6_loser_32 : decode cX6_loser 32 = .ok (.getfield 28, 3) := by decide +kernel
theorem dX6_loser_35 : decode cX6_loser 35 = .ok (.iconst 0, 1) := by decide +kernel
theorem dX6_loser_36 : decode cX6_loser 36 = .ok (.invokevirtual 169, 3) := by decide +kernel
theorem dX6_loser_39 : decode cX6_loser 39 = .ok (.ireturn, 1) := by decide +kernel
theorem dX6_loses_0 : decode cX6_loses 0 = .ok (.aload_n 0, 1) := by decide +kernel
theorem dX6_loses_1 : decode cX6_loses 1 = .ok (.getfield 24, 3) := by decide +kernel
theorem dX6_loses_4 : decode cX6_loses 4 = .ok (.iload_n 1, 1) := by decide +kernel
theorem dX6_loses_5 : decode cX6_loses 5 = .ok (.invokevirtual 120, 3) := by decide +kernel
theorem dX6_loses_8 : decode cX6_loses 8 = .ok (.ifCond .ne 5, 3) := by decide +kernel
theorem dX6_loses_11 : decode cX6_loses 11 = .ok (.iconst (-1), 1) := by decide +kernel
theorem dX6_loses_12 : decode cX6_loses 12 = .ok (.ireturn, 1) := by decide +kernel
theorem dX6_loses_13 : decode cX6_loses 13 = .ok (.aload_n 0, 1) := by decide +kernel
theorem dX6_loses_14 : decode cX6_loses 14 = .ok (.getfield 28, 3) := by decide +kernel
theorem dX6_loses_17 : decode cX6_loses 17 = .ok (.aload_n 0, 1) := by decide +kernel
theorem dX6_loses_18 : decode cX6_loses 18 = .ok (.getfield 24, 3) := by decide +kernel
theorem dX6_loses_21 : decode cX6_loses 21 = .ok (.invokevirtual 94, 3) := by decide +kernel
theorem dX6_loses_24 : decode cX6_loses 24 = .ok (.aload_n 0, 1) := by decide +kernel
theorem dX6_loses_25 : decode cX6_loses 25 = .ok (.getfield 28, 3) := by decide +kernel
theorem dX6_loses_28 : decode cX6_loses 28 = .ok (.iload_n 1, 1) := by decide +kernel
theorem dX6_loses_29 : decode cX6_loses 29 = .ok (.bipush 61, 2) := by decide +kernel
theorem dX6_loses_31 : decode cX6_loses 31 = .ok (.invokevirtual 173, 3) := by decide +kernel
theorem dX6_loses_34 : decode cX6_loses 34 = .ok (.ireturn, 1) := by decide +kernel
theorem dX6_order_0 : decode cX6_order 0 = .ok (.iload_n 1, 1) := by decide +kernel
theorem dX6_order_1 : decode cX6_order 1 = .ok (.ifCond .eq 16, 3) := by decide +kernel
theorem dX6_order_4 : decode cX6_order 4 = .ok (.iload_n 1, 1) := by decide +kernel
theorem dX6_order_5 : decode cX6_order 5 = .ok (.bipush 10, 2) := by decide +kernel
theorem dX6_order_7 : decode cX6_order 7 = .ok (.isub, 1) := by decide +kernel
theorem dX6_order_8 : decode cX6_order 8 = .ok (.iconst 4, 1) := by decide +kernel
theorem dX6_order_9 : decode cX6_order 9 = .ok (.invokestatic 70, 3) := by decide +kernel
theorem dX6_order_12 : decode cX6_order 12 = .ok (.ifCond .ne 5, 3) := by decide +kernel
theorem dX6_order_15 : decode cX6_order 15 = .ok (.iconst (-1), 1) := by decide +kernel
theorem dX6_order_16 : decode cX6_order 16 = .ok (.ireturn, 1) := by decide +kernel
theorem dX6_order_17 : decode cX6_order 17 = .ok (.aload_n 0, 1) := by decide +kernel
theorem dX6_order_18 : decode cX6_order 18 = .ok (.getfield 24, 3) := by decide +kernel
theorem dX6_order_21 : decode cX6_order 21 = .ok (.getfield 104, 3) := by decide +kernel
theorem dX6_order_24 : decode cX6_order 24 = .ok (.iconst 5, 1) := by decide +kernel
theorem dX6_order_25 : decode cX6_order 25 = .ok (.if_icmp .gt 13, 3) := by decide +kernel
theorem dX6_order_28 : decode cX6_order 28 = .ok (.aload_n 0, 1) := by decide +kernel
theorem dX6_order_29 : decode cX6_order 29 = .ok (.getfield 24, 3) := by decide +kernel
theorem dX6_order_32 : decode cX6_order 32 = .ok (.invokevirtual 110, 3) := by decide +kernel
theorem dX6_order_35 : decode cX6_order 35 = .ok (.ifCond .le 6, 3) := by decide +kernel
theorem dX6_order_38 : decode cX6_order 38 = .ok (.bipush (-2), 2) := by decide +kernel
theorem dX6_order_40 : decode cX6_order 40 = .ok (.ireturn, 1) := by decide +kernel
theorem dX6_order_41 : decode cX6_order 41 = .ok (.aload_n 0, 1) := by decide +kernel
theorem dX6_order_42 : decode cX6_order 42 = .ok (.invokevirtual 176, 3) := by decide +kernel
theorem dX6_order_45 : decode cX6_order 45 = .ok (.iload_n 1, 1) := by decide +kernel
theorem dX6_order_46 : decode cX6_order 46 = .ok (.ifCond .ne 11, 3) := by decide +kernel
theorem dX6_order_49 : decode cX6_order 49 = .ok (.aload_n 0, 1) := by decide +kernel
theorem dX6_order_50 : decode cX6_order 50 = .ok (.getfield 55, 3) := by decide +kernel
theorem dX6_order_53 : decode cX6_order 53 = .ok (.getfield 179, 3) := by decide +kernel
theorem dX6_order_56 : decode cX6_order 56 = .ok (.ireturn, 1) := by decide +kernel
theorem dX6_order_57 : decode cX6_order 57 = .ok (.iload_n 1, 1) := by decide +kernel
theorem dX6_order_58 : decode cX6_order 58 = .ok (.bipush 10, 2) := by decide +kernel
theorem dX6_order_60 : decode cX6_order 60 = .ok (.isub, 1) := by decide +kernel
theorem dX6_order_61 : decode cX6_order 61 = .ok (.istore_n 2, 1) := by decide +kernel
theorem dX6_order_62 : decode cX6_order 62 = .ok (.iload_n 2, 1) := by decide +kernel
theorem dX6_order_63 : decode cX6_order 63 = .ok (.aload_n 0, 1) := by decide +kernel
theorem dX6_order_64 : decode cX6_order 64 = .ok (.getfield 24, 3) := by decide +kernel
theorem dX6_order_67 : decode cX6_order 67 = .ok (.getfield 104, 3) := by decide +kernel
theorem dX6_order_70 : decode cX6_order 70 = .ok (.if_icmp .lt 6, 3) := by decide +kernel
theorem dX6_order_73 : decode cX6_order 73 = .ok (.bipush (-4), 2) := by decide +kernel
theorem dX6_order_75 : decode cX6_order 75 = .ok (.ireturn, 1) := by decide +kernel
theorem dX6_order_76 : decode cX6_order 76 = .ok (.aload_n 0, 1) := by decide +kernel
theorem dX6_order_77 : decode cX6_order 77 = .ok (.aload_n 0, 1) := by decide +kernel
theorem dX6_order_78 : decode cX6_order 78 = .ok (.getfield 55, 3) := by decide +kernel
theorem dX6_order_81 : decode cX6_order 81 = .ok (.getfield 182, 3) := by decide +kernel
theorem dX6_order_84 : decode cX6_order 84 = .ok (.invokevirtual 185, 3) := by decide +kernel
theorem dX6_order_87 : decode cX6_order 87 = .ok (.aload_n 0, 1) := by decide +kernel
theorem dX6_order_88 : decode cX6_order 88 = .ok (.getfield 59, 3) := by decide +kernel
theorem dX6_order_91 : decode cX6_order 91 = .ok (.iload_n 2, 1) := by decide +kernel
theorem dX6_order_92 : decode cX6_order 92 = .ok (.iaload, 1) := by decide +kernel
theorem dX6_order_93 : decode cX6_order 93 = .ok (.ireturn, 1) := by decide +kernel
theorem dX6_findBestOrder_0 : decode cX6_findBestOrder 0 = .ok (.aload_n 0, 1) := by decide +kernel
theorem dX6_findBestOrder_1 : decode cX6_findBestOrder 1 = .ok (.getfield 55, 3) := by decide +kernel
theorem dX6_findBestOrder_4 : decode cX6_findBestOrder 4 = .ok (.sipush 496, 3) := by decide +kernel
theorem dX6_findBestOrder_7 : decode cX6_findBestOrder 7 = .ok (.invokevirtual 189, 3) := by decide +kernel
theorem dX6_findBestOrder_10 : decode cX6_findBestOrder 10 = .ok (.aload_n 0, 1) := by decide +kernel
theorem dX6_findBestOrder_11 : decode cX6_findBestOrder 11 = .ok (.getfield 24, 3) := by decide +kernel
theorem dX6_findBestOrder_14 : decode cX6_findBestOrder 14 = .ok (.getfield 104, 3) := by decide +kernel
theorem dX6_findBestOrder_17 : decode cX6_findBestOrder 17 = .ok (.invokestatic 192, 3) := by decide +kernel
theorem dX6_findBestOrder_20 : decode cX6_findBestOrder 20 = .ok (.istore_n 1, 1) := by decide +kernel
theorem dX6_findBestOrder_21 : decode cX6_findBestOrder 21 = .ok (.iconst 0, 1) := by decide +kernel
theorem dX6_findBestOrder_22 : decode cX6_findBestOrder 22 = .ok (.istore_n 2, 1) := by decide +kernel
theorem dX6_findBestOrder_23 : decode cX6_findBestOrder 23 = .ok (.iload_n 2, 1) := by decide +kernel
theorem dX6_findBestOrder_24 : decode cX6_findBestOrder 24 = .ok (.iload_n 1, 1) := by decide +kernel
theorem dX6_findBestOrder_25 : decode cX6_findBestOrder 25 = .ok (.if_icmp .ge 112, 3) := by decide +kernel
theorem dX6_findBestOrder_28 : decode cX6_findBestOrder 28 = .ok (.aload_n 0, 1) := by decide +kernel
theorem dX6_findBestOrder_29 : decode cX6_findBestOrder 29 = .ok (.iload_n 2, 1) := by decide +kernel
theorem dX6_findBestOrder_30 : decode cX6_findBestOrder 30 = .ok (.invokevirtual 185, 3) := by decide +kernel
theorem dX6_findBestOrder_33 : decode cX6_findBestOrder 33 = .ok (.aload_n 0, 1) := by decide +kernel
theorem dX6_findBestOrder_34 : decode cX6_findBestOrder 34 = .ok (.getfield 28, 3) := by decide +kernel
theorem dX6_findBestOrder_37 : decode cX6_findBestOrder 37 = .ok (.aload_n 0, 1) := by decide +kernel
theorem dX6_findBestOrder_38 : decode cX6_findBestOrder 38 = .ok (.getfield 24, 3) := by decide +kernel
theorem dX6_findBestOrder_41 : decode cX6_findBestOrder 41 = .ok (.invokevirtual 94, 3) := by decide +kernel
theorem dX6_findBestOrder_44 : decode cX6_findBestOrder 44 = .ok (.iconst 0, 1) := by decide +kernel
theorem dX6_findBestOrder_45 : decode cX6_findBestOrder 45 = .ok (.istore_n 3, 1) := by decide +kernel
theorem dX6_findBestOrder_46 : decode cX6_findBestOrder 46 = .ok (.iload_n 3, 1) := by decide +kernel
theorem dX6_findBestOrder_47 : decode cX6_findBestOrder 47 = .ok (.aload_n 0, 1) := by decide +kernel
theorem dX6_findBestOrder_48 : decode cX6_findBestOrder 48 = .ok (.getfield 24, 3) := by decide +kernel
theorem dX6_findBestOrder_51 : decode cX6_findBestOrder 51 = .ok (.getfield 104, 3) := by decide +kernel
theorem dX6_findBestOrder_54 : decode cX6_findBestOrder 54 = .ok (.if_icmp .ge 55, 3) := by decide +kernel
theorem dX6_findBestOrder_57 : decode cX6_findBestOrder 57 = .ok (.aload_n 0, 1) := by decide +kernel
theorem dX6_findBestOrder_58 : decode cX6_findBestOrder 58 = .ok (.getfield 28, 3) := by decide +kernel
theorem dX6_findBestOrder_61 : decode cX6_findBestOrder 61 = .ok (.getfield 142, 3) := by decide +kernel
theorem dX6_findBestOrder_64 : decode cX6_findBestOrder 64 = .ok (.iload_n 3, 1) := by decide +kernel
theorem dX6_findBestOrder_65 : decode cX6_findBestOrder 65 = .ok (.aload_n 0, 1) := by decide +kernel
theorem dX6_findBestOrder_66 : decode cX6_findBestOrder 66 = .ok (.getfield 24, 3) := by decide +kernel
theorem dX6_findBestOrder_69 : decode cX6_findBestOrder 69 = .ok (.getfield 142, 3) := by decide +kernel
theorem dX6_findBestOrder_72 : decode cX6_findBestOrder 72 = .ok (.aload_n 0, 1) := by decide +kernel
theorem dX6_findBestOrder_73 : decode cX6_findBestOrder 73 = .ok (.getfield 59, 3) := by decide +kernel
theorem dX6_findBestOrder_76 : decode cX6_findBestOrder 76 = .ok (.iload_n 3, 1) := by decide +kernel
theorem dX6_findBestOrder_77 : decode cX6_findBestOrder 77 = .ok (.iaload, 1) := by decide +kernel
theorem dX6_findBestOrder_78 : decode cX6_findBestOrder 78 = .ok (.iaload, 1) := by decide +kernel
theorem dX6_findBestOrder_79 : decode cX6_findBestOrder 79 = .ok (.iastore, 1) := by decide +kernel
theorem dX6_findBestOrder_80 : decode cX6_findBestOrder 80 = .ok (.aload_n 0, 1) := by decide +kernel
theorem dX6_findBestOrder_81 : decode cX6_findBestOrder 81 = .ok (.getfield 28, 3) := by decide +kernel
theorem dX6_findBestOrder_84 : decode cX6_findBestOrder 84 = .ok (.getfield 145, 3) := by decide +kernel
theorem dX6_findBestOrder_87 : decode cX6_findBestOrder 87 = .ok (.iload_n 3, 1) := by decide +kernel
theorem dX6_findBestOrder_88 : decode cX6_findBestOrder 88 = .ok (.aload_n 0, 1) := by decide +kernel
theorem dX6_findBestOrder_89 : decode cX6_findBestOrder 89 = .ok (.getfield 24, 3) := by decide +kernel
theorem dX6_findBestOrder_92 : decode cX6_findBestOrder 92 = .ok (.getfield 145, 3) := by decide +kernel
theorem dX6_findBestOrder_95 : decode cX6_findBestOrder 95 = .ok (.aload_n 0, 1) := by decide +kernel
theorem dX6_findBestOrder_96 : decode cX6_findBestOrder 96 = .ok (.getfield 59, 3) := by decide +kernel
theorem dX6_findBestOrder_99 : decode cX6_findBestOrder 99 = .ok (.iload_n 3, 1) := by decide +kernel
theorem dX6_findBestOrder_100 : decode cX6_findBestOrder 100 = .ok (.iaload, 1) := by decide +kernel
theorem dX6_findBestOrder_101 : decode cX6_findBestOrder 101 = .ok (.iaload, 1) := by decide +kernel
theorem dX6_findBestOrder_102 : decode cX6_findBestOrder 102 = .ok (.iastore, 1) := by decide +kernel
theorem dX6_findBestOrder_103 : decode cX6_findBestOrder 103 = .ok (.iinc 3 1, 3) := by decide +kernel
theorem dX6_findBestOrder_106 : decode cX6_findBestOrder 106 = .ok (.goto (-60), 3) := by decide +kernel
theorem dX6_findBestOrder_109 : decode cX6_findBestOrder 109 = .ok (.aload_n 0, 1) := by decide +kernel
theorem dX6_findBestOrder_110 : decode cX6_findBestOrder 110 = .ok (.getfield 55, 3) := by decide +kernel
theorem dX6_findBestOrder_113 : decode cX6_findBestOrder 113 = .ok (.iload_n 2, 1) := by decide +kernel
theorem dX6_findBestOrder_114 : decode cX6_findBestOrder 114 = .ok (.aload_n 0, 1) := by decide +kernel
theorem dX6_findBestOrder_115 : decode cX6_findBestOrder 115 = .ok (.getfield 28, 3) := by decide +kernel
theorem dX6_findBestOrder_118 : decode cX6_findBestOrder 118 = .ok (.aload_n 0, 1) := by decide +kernel
theorem dX6_findBestOrder_119 : decode cX6_findBestOrder 119 = .ok (.getfield 24, 3) := by decide +kernel
theorem dX6_findBestOrder_122 : decode cX6_findBestOrder 122 = .ok (.getfield 104, 3) := by decide +kernel
theorem dX6_findBestOrder_125 : decode cX6_findBestOrder 125 = .ok (.invokevirtual 195, 3) := by decide +kernel
theorem dX6_findBestOrder_128 : decode cX6_findBestOrder 128 = .ok (.invokevirtual 198, 3) := by decide +kernel
theorem dX6_findBestOrder_131 : decode cX6_findBestOrder 131 = .ok (.iinc 2 1, 3) := by decide +kernel
theorem dX6_findBestOrder_134 : decode cX6_findBestOrder 134 = .ok (.goto (-111), 3) := by decide +kernel
theorem dX6_findBestOrder_137 : decode cX6_findBestOrder 137 = .ok (.return_, 1) := by decide +kernel
theorem dX6_setRow_0 : decode cX6_setRow 0 = .ok (.iconst 1, 1) := by decide +kernel
theorem dX6_setRow_1 : decode cX6_setRow 1 = .ok (.aload_n 0, 1) := by decide +kernel
theorem dX6_setRow_2 : decode cX6_setRow 2 = .ok (.getfield 24, 3) := by decide +kernel
theorem dX6_setRow_5 : decode cX6_setRow 5 = .ok (.getfield 104, 3) := by decide +kernel
theorem dX6_setRow_8 : decode cX6_setRow 8 = .ok (.ishl, 1) := by decide +kernel
theorem dX6_setRow_9 : decode cX6_setRow 9 = .ok (.iconst 1, 1) := by decide +kernel
theorem dX6_setRow_10 : decode cX6_setRow 10 = .ok (.isub, 1) := by decide +kernel
theorem dX6_setRow_11 : decode cX6_setRow 11 = .ok (.istore_n 2, 1) := by decide +kernel
theorem dX6_setRow_12 : decode cX6_setRow 12 = .ok (.iload_n 1, 1) := by decide +kernel
theorem dX6_setRow_13 : decode cX6_setRow 13 = .ok (.istore_n 3, 1) := by decide +kernel
theorem dX6_setRow_14 : decode cX6_setRow 14 = .ok (.iconst 0, 1) := by decide +kernel
theorem dX6_setRow_15 : decode cX6_setRow 15 = .ok (.istore 4, 2) := by decide +kernel
theorem dX6_setRow_17 : decode cX6_setRow 17 = .ok (.iload 4, 2) := by decide +kernel
theorem dX6_setRow_19 : decode cX6_setRow 19 = .ok (.aload_n 0, 1) := by decide +kernel
theorem dX6_setRow_20 : decode cX6_setRow 20 = .ok (.getfield 24, 3) := by decide +kernel
theorem dX6_setRow_23 : decode cX6_setRow 23 = .ok (.getfield 104, 3) := by decide +kernel
theorem dX6_setRow_26 : decode cX6_setRow 26 = .ok (.if_icmp .ge 59, 3) := by decide +kernel
theorem dX6_setRow_29 : decode cX6_setRow 29 = .ok (.aload_n 0, 1) := by decide +kernel
theorem dX6_setRow_30 : decode cX6_setRow 30 = .ok (.getfield 24, 3) := by decide +kernel
theorem dX6_setRow_33 : decode cX6_setRow 33 = .ok (.getfield 104, 3) := by decide +kernel
theorem dX6_setRow_36 : decode cX6_setRow 36 = .ok (.iconst 1, 1) := by decide +kernel
theorem dX6_setRow_37 : decode cX6_setRow 37 = .ok (.isub, 1) := by decide +kernel
theorem dX6_setRow_38 : decode cX6_setRow 38 = .ok (.iload 4, 2) := by decide +kernel
theorem dX6_setRow_40 : decode cX6_setRow 40 = .ok (.isub, 1) := by decide +kernel
theorem dX6_setRow_41 : decode cX6_setRow 41 = .ok (.invokestatic 192, 3) := by decide +kernel
theorem dX6_setRow_44 : decode cX6_setRow 44 = .ok (.istore 5, 2) := by decide +kernel
theorem dX6_setRow_46 : decode cX6_setRow 46 = .ok (.iload_n 2, 1) := by decide +kernel
theorem dX6_setRow_47 : decode cX6_setRow 47 = .ok (.iload_n 3, 1) := by decide +kernel
theorem dX6_setRow_48 : decode cX6_setRow 48 = .ok (.iload 5, 2) := by decide +kernel
theorem dX6_setRow_50 : decode cX6_setRow 50 = .ok (.idiv, 1) := by decide +kernel
theorem dX6_setRow_51 : decode cX6_setRow 51 = .ok (.invokestatic 202, 3) := by decide +kernel
theorem dX6_setRow_54 : decode cX6_setRow 54 = .ok (.istore 6, 2) := by decide +kernel
theorem dX6_setRow_56 : decode cX6_setRow 56 = .ok (.aload_n 0, 1) := by decide +kernel
theorem dX6_setRow_57 : decode cX6_setRow 57 = .ok (.getfield 59, 3) := by decide +kernel
theorem dX6_setRow_60 : decode cX6_setRow 60 = .ok (.iload 4, 2) := by decide +kernel
theorem dX6_setRow_62 : decode cX6_setRow 62 = .ok (.iload 6, 2) := by decide +kernel
theorem dX6_setRow_64 : decode cX6_setRow 64 = .ok (.iastore, 1) := by decide +kernel
theorem dX6_setRow_65 : decode cX6_setRow 65 = .ok (.iload_n 2, 1) := by decide +kernel
theorem dX6_setRow_66 : decode cX6_setRow 66 = .ok (.iconst 1, 1) := by decide +kernel
theorem dX6_setRow_67 : decode cX6_setRow 67 = .ok (.iload 6, 2) := by decide +kernel
theorem dX6_setRow_69 : decode cX6_setRow 69 = .ok (.ishl, 1) := by decide +kernel
theorem dX6_setRow_70 : decode cX6_setRow 70 = .ok (.iconst (-1), 1) := by decide +kernel
theorem dX6_setRow_71 : decode cX6_setRow 71 = .ok (.ixor, 1) := by decide +kernel
theorem dX6_setRow_72 : decode cX6_setRow 72 = .ok (.iand, 1) := by decide +kernel
theorem dX6_setRow_73 : decode cX6_setRow 73 = .ok (.istore_n 2, 1) := by decide +kernel
theorem dX6_setRow_74 : decode cX6_setRow 74 = .ok (.iload_n 3, 1) := by decide +kernel
theorem dX6_setRow_75 : decode cX6_setRow 75 = .ok (.iload 5, 2) := by decide +kernel
theorem dX6_setRow_77 : decode cX6_setRow 77 = .ok (.irem, 1) := by decide +kernel
theorem dX6_setRow_78 : decode cX6_setRow 78 = .ok (.istore_n 3, 1) := by decide +kernel
theorem dX6_setRow_79 : decode cX6_setRow 79 = .ok (.iinc 4 1, 3) := by decide +kernel
theorem dX6_setRow_82 : decode cX6_setRow 82 = .ok (.goto (-65), 3) := by decide +kernel
theorem dX6_setRow_85 : decode cX6_setRow 85 = .ok (.return_, 1) := by decide +kernel
theorem dX6_nthBit_0 : decode cX6_nthBit 0 = .ok (.iload_n 1, 1) := by decide +kernel
theorem dX6_nthBit_1 : decode cX6_nthBit 1 = .ok (.istore_n 2, 1) := by decide +kernel
theorem dX6_nthBit_2 : decode cX6_nthBit 2 = .ok (.iconst 0, 1) := by decide +kernel
theorem dX6_nthBit_3 : decode cX6_nthBit 3 = .ok (.istore_n 3, 1) := by decide +kernel
theorem dX6_nthBit_4 : decode cX6_nthBit 4 = .ok (.iload_n 3, 1) := by decide +kernel
theorem dX6_nthBit_5 : decode cX6_nthBit 5 = .ok (.iconst 5, 1) := by decide +kernel
theorem dX6_nthBit_6 : decode cX6_nthBit 6 = .ok (.if_icmp .ge 27, 3) := by decide +kernel
theorem dX6_nthBit_9 : decode cX6_nthBit 9 = .ok (.iload_n 0, 1) := by decide +kernel
theorem dX6_nthBit_10 : decode cX6_nthBit 10 = .ok (.iload_n 3, 1) := by decide +kernel
theorem dX6_nthBit_11 : decode cX6_nthBit 11 = .ok (.ishr, 1) := by decide +kernel
theorem dX6_nthBit_12 : decode cX6_nthBit 12 = .ok (.iconst 1, 1) := by decide +kernel
theorem dX6_nthBit_13 : decode cX6_nthBit 13 = .ok (.iand, 1) := by decide +kernel
theorem dX6_nthBit_14 : decode cX6_nthBit 14 = .ok (.iconst 1, 1) := by decide +kernel
theorem dX6_nthBit_15 : decode cX6_nthBit 15 = .ok (.if_icmp .ne 12, 3) := by decide +kernel
theorem dX6_nthBit_18 : decode cX6_nthBit 18 = .ok (.iload_n 2, 1) := by decide +kernel
theorem dX6_nthBit_19 : decode cX6_nthBit 19 = .ok (.ifCond .ne 5, 3) := by decide +kernel
theorem dX6_nthBit_22 : decode cX6_nthBit 22 = .ok (.iload_n 3, 1) := by decide +kernel
theorem dX6_nthBit_23 : decode cX6_nthBit 23 = .ok (.ireturn, 1) := by decide +kernel
theorem dX6_nthBit_24 : decode cX6_nthBit 24 = .ok (.iinc 2 (-1), 3) := by decide +kernel
theorem dX6_nthBit_27 : decode cX6_nthBit 27 = .ok (.iinc 3 1, 3) := by decide +kernel
theorem dX6_nthBit_30 : decode cX6_nthBit 30 = .ok (.goto (-26), 3) := by decide +kernel
theorem dX6_nthBit_33 : decode cX6_nthBit 33 = .ok (.iconst 0, 1) := by decide +kernel
theorem dX6_nthBit_34 : decode cX6_nthBit 34 = .ok (.ireturn, 1) := by decide +kernel
theorem dX6_factorial_0 : decode cX6_factorial 0 = .ok (.iconst 1, 1) := by decide +kernel
theorem dX6_factorial_1 : decode cX6_factorial 1 = .ok (.istore_n 1, 1) := by decide +kernel
theorem dX6_factorial_2 : decode cX6_factorial 2 = .ok (.iconst 2, 1) := by decide +kernel
theorem dX6_factorial_3 : decode cX6_factorial 3 = .ok (.istore_n 2, 1) := by decide +kernel
theorem dX6_factorial_4 : decode cX6_factorial 4 = .ok (.iload_n 2, 1) := by decide +kernel
theorem dX6_factorial_5 : decode cX6_factorial 5 = .ok (.iload_n 0, 1) := by decide +kernel
theorem dX6_factorial_6 : decode cX6_factorial 6 = .ok (.if_icmp .gt 18, 3) := by decide +kernel
theorem dX6_factorial_9 : decode cX6_factorial 9 = .ok (.iload_n 2, 1) := by decide +kernel
theorem dX6_factorial_10 : decode cX6_factorial 10 = .ok (.iconst 5, 1) := by decide +kernel
theorem dX6_factorial_11 : decode cX6_factorial 11 = .ok (.if_icmp .gt 13, 3) := by decide +kernel
theorem dX6_factorial_14 : decode cX6_factorial 14 = .ok (.iload_n 1, 1) := by decide +kernel
theorem dX6_factorial_15 : decode cX6_factorial 15 = .ok (.iload_n 2, 1) := by decide +kernel
theorem dX6_factorial_16 : decode cX6_factorial 16 = .ok (.imul, 1) := by decide +kernel
theorem dX6_factorial_17 : decode cX6_factorial 17 = .ok (.istore_n 1, 1) := by decide +kernel
theorem dX6_factorial_18 : decode cX6_factorial 18 = .ok (.iinc 2 1, 3) := by decide +kernel
theorem dX6_factorial_21 : decode cX6_factorial 21 = .ok (.goto (-17), 3) := by decide +kernel
theorem dX6_factorial_24 : decode cX6_factorial 24 = .ok (.iload_n 1, 1) := by decide +kernel
theorem dX6_factorial_25 : decode cX6_factorial 25 = .ok (.ireturn, 1) := by decide +kernel
theorem dX6_loan_0 : decode cX6_loan 0 = .ok (.iload_n 1, 1) := by decide +kernel
theorem dX6_loan_1 : decode cX6_loan 1 = .ok (.bipush 60, 2) := by decide +kernel
theorem dX6_loan_3 : decode cX6_loan 3 = .ok (.invokestatic 70, 3) := by decide +kernel
theorem dX6_loan_6 : decode cX6_loan 6 = .ok (.ifCond .eq 11, 3) := by decide +kernel
theorem dX6_loan_9 : decode cX6_loan 9 = .ok (.iload_n 2, 1) := by decide +kernel
theorem dX6_loan_10 : decode cX6_loan 10 = .ok (.iconst 1, 1) := by decide +kernel
theorem dX6_loan_11 : decode cX6_loan 11 = .ok (.invokestatic 70, 3) := by decide +kernel
theorem dX6_loan_14 : decode cX6_loan 14 = .ok (.ifCond .ne 5, 3) := by decide +kernel
theorem dX6_loan_17 : decode cX6_loan 17 = .ok (.iconst (-1), 1) := by decide +kernel
theorem dX6_loan_18 : decode cX6_loan 18 = .ok (.ireturn, 1) := by decide +kernel
theorem dX6_loan_19 : decode cX6_loan 19 = .ok (.aload_n 0, 1) := by decide +kernel
theorem dX6_loan_20 : decode cX6_loan 20 = .ok (.getfield 55, 3) := by decide +kernel
theorem dX6_loan_23 : decode cX6_loan 23 = .ok (.aload_n 0, 1) := by decide +kernel
theorem dX6_loan_24 : decode cX6_loan 24 = .ok (.iload_n 1, 1) := by decide +kernel
theorem dX6_loan_25 : decode cX6_loan 25 = .ok (.invokevirtual 205, 3) := by decide +kernel
theorem dX6_loan_28 : decode cX6_loan 28 = .ok (.invokevirtual 189, 3) := by decide +kernel
theorem dX6_loan_31 : decode cX6_loan 31 = .ok (.iconst 0, 1) := by decide +kernel
theorem dX6_loan_32 : decode cX6_loan 32 = .ok (.istore_n 3, 1) := by decide +kernel
theorem dX6_loan_33 : decode cX6_loan 33 = .ok (.iload_n 3, 1) := by decide +kernel
theorem dX6_loan_34 : decode cX6_loan 34 = .ok (.aload_n 0, 1) := by decide +kernel
theorem dX6_loan_35 : decode cX6_loan 35 = .ok (.getfield 24, 3) := by decide +kernel
theorem dX6_loan_38 : decode cX6_loan 38 = .ok (.getfield 101, 3) := by decide +kernel
theorem dX6_loan_41 : decode cX6_loan 41 = .ok (.if_icmp .ge 83, 3) := by decide +kernel
theorem dX6_loan_44 : decode cX6_loan 44 = .ok (.iconst 0, 1) := by decide +kernel
theorem dX6_loan_45 : decode cX6_loan 45 = .ok (.istore 4, 2) := by decide +kernel
theorem dX6_loan_47 : decode cX6_loan 47 = .ok (.iload 4, 2) := by decide +kernel
theorem dX6_loan_49 : decode cX6_loan 49 = .ok (.aload_n 0, 1) := by decide +kernel
theorem dX6_loan_50 : decode cX6_loan 50 = .ok (.getfield 24, 3) := by decide +kernel
theorem dX6_loan_53 : decode cX6_loan 53 = .ok (.getfield 101, 3) := by decide +kernel
theorem dX6_loan_56 : decode cX6_loan 56 = .ok (.if_icmp .ge 62, 3) := by decide +kernel
theorem dX6_loan_59 : decode cX6_loan 59 = .ok (.aload_n 0, 1) := by decide +kernel
theorem dX6_loan_60 : decode cX6_loan 60 = .ok (.getfield 28, 3) := by decide +kernel
theorem dX6_loan_63 : decode cX6_loan 63 = .ok (.aload_n 0, 1) := by decide +kernel
theorem dX6_loan_64 : decode cX6_loan 64 = .ok (.getfield 24, 3) := by decide +kernel
theorem dX6_loan_67 : decode cX6_loan 67 = .ok (.invokevirtual 94, 3) := by decide +kernel
theorem dX6_loan_70 : decode cX6_loan 70 = .ok (.iload_n 3, 1) := by decide +kernel
theorem dX6_loan_71 : decode cX6_loan 71 = .ok (.iload 4, 2) := by decide +kernel
theorem dX6_loan_73 : decode cX6_loan 73 = .ok (.if_icmp .eq 39, 3) := by decide +kernel
theorem dX6_loan_76 : decode cX6_loan 76 = .ok (.aload_n 0, 1) := by decide +kernel
theorem dX6_loan_77 : decode cX6_loan 77 = .ok (.getfield 28, 3) := by decide +kernel
theorem dX6_loan_80 : decode cX6_loan 80 = .ok (.iload_n 3, 1) := by decide +kernel
theorem dX6_loan_81 : decode cX6_loan 81 = .ok (.iload 4, 2) := by decide +kernel
theorem dX6_loan_83 : decode cX6_loan 83 = .ok (.iconst 1, 1) := by decide +kernel
theorem dX6_loan_84 : decode cX6_loan 84 = .ok (.invokevirtual 159, 3) := by decide +kernel
theorem dX6_loan_87 : decode cX6_loan 87 = .ok (.ifCond .lt 25, 3) := by decide +kernel
theorem dX6_loan_90 : decode cX6_loan 90 = .ok (.aload_n 0, 1) := by decide +kernel
theorem dX6_loan_91 : decode cX6_loan 91 = .ok (.getfield 55, 3) := by decide +kernel
theorem dX6_loan_94 : decode cX6_loan 94 = .ok (.bipush 10, 2) := by decide +kernel
theorem dX6_loan_96 : decode cX6_loan 96 = .ok (.iload_n 3, 1) := by decide +kernel
theorem dX6_loan_97 : decode cX6_loan 97 = .ok (.imul, 1) := by decide +kernel
theorem dX6_loan_98 : decode cX6_loan 98 = .ok (.iload 4, 2) := by decide +kernel
theorem dX6_loan_100 : decode cX6_loan 100 = .ok (.iadd, 1) := by decide +kernel
theorem dX6_loan_101 : decode cX6_loan 101 = .ok (.aload_n 0, 1) := by decide +kernel
theorem dX6_loan_102 : decode cX6_loan 102 = .ok (.getfield 28, 3) := by decide +kernel
theorem dX6_loan_105 : decode cX6_loan 105 = .ok (.iload_n 1, 1) := by decide +kernel
theorem dX6_loan_106 : decode cX6_loan 106 = .ok (.invokevirtual 195, 3) := by decide +kernel
theorem dX6_loan_109 : decode cX6_loan 109 = .ok (.invokevirtual 198, 3) := by decide +kernel
theorem dX6_loan_112 : decode cX6_loan 112 = .ok (.iinc 4 1, 3) := by decide +kernel
theorem dX6_loan_115 : decode cX6_loan 115 = .ok (.goto (-68), 3) := by decide +kernel
theorem dX6_loan_118 : decode cX6_loan 118 = .ok (.iinc 3 1, 3) := by decide +kernel
theorem dX6_loan_121 : decode cX6_loan 121 = .ok (.goto (-88), 3) := by decide +kernel
theorem dX6_loan_124 : decode cX6_loan 124 = .ok (.aload_n 0, 1) := by decide +kernel
theorem dX6_loan_125 : decode cX6_loan 125 = .ok (.getfield 55, 3) := by decide +kernel
theorem dX6_loan_128 : decode cX6_loan 128 = .ok (.iload_n 2, 1) := by decide +kernel
theorem dX6_loan_129 : decode cX6_loan 129 = .ok (.invokevirtual 208, 3) := by decide +kernel
theorem dX6_loan_132 : decode cX6_loan 132 = .ok (.ireturn, 1) := by decide +kernel
theorem dX6_swap_0 : decode cX6_swap 0 = .ok (.iload_n 1, 1) := by decide +kernel
theorem dX6_swap_1 : decode cX6_swap 1 = .ok (.bipush 60, 2) := by decide +kernel
theorem dX6_swap_3 : decode cX6_swap 3 = .ok (.invokestatic 70, 3) := by decide +kernel
theorem dX6_swap_6 : decode cX6_swap 6 = .ok (.ifCond .eq 11, 3) := by decide +kernel
theorem dX6_swap_9 : decode cX6_swap 9 = .ok (.iload_n 2, 1) := by decide +kernel
theorem dX6_swap_10 : decode cX6_swap 10 = .ok (.iconst 1, 1) := by decide +kernel
theorem dX6_swap_11 : decode cX6_swap 11 = .ok (.invokestatic 70, 3) := by decide +kernel
theorem dX6_swap_14 : decode cX6_swap 14 = .ok (.ifCond .ne 5, 3) := by decide +kernel
theorem dX6_swap_17 : decode cX6_swap 17 = .ok (.iconst (-1), 1) := by decide +kernel
theorem dX6_swap_18 : decode cX6_swap 18 = .ok (.ireturn, 1) := by decide +kernel
theorem dX6_swap_19 : decode cX6_swap 19 = .ok (.aload_n 0, 1) := by decide +kernel
theorem dX6_swap_20 : decode cX6_swap 20 = .ok (.getfield 55, 3) := by decide +kernel
theorem dX6_swap_23 : decode cX6_swap 23 = .ok (.aload_n 0, 1) := by decide +kernel
theorem dX6_swap_24 : decode cX6_swap 24 = .ok (.iload_n 1, 1) := by decide +kernel
theorem dX6_swap_25 : decode cX6_swap 25 = .ok (.invokevirtual 205, 3) := by decide +kernel
theorem dX6_swap_28 : decode cX6_swap 28 = .ok (.invokevirtual 189, 3) := by decide +kernel
theorem dX6_swap_31 : decode cX6_swap 31 = .ok (.iconst 0, 1) := by decide +kernel
theorem dX6_swap_32 : decode cX6_swap 32 = .ok (.istore_n 3, 1) := by decide +kernel
theorem dX6_swap_33 : decode cX6_swap 33 = .ok (.iload_n 3, 1) := by decide +kernel
theorem dX6_swap_34 : decode cX6_swap 34 = .ok (.aload_n 0, 1) := by decide +kernel
theorem dX6_swap_35 : decode cX6_swap 35 = .ok (.getfield 24, 3) := by decide +kernel
theorem dX6_swap_38 : decode cX6_swap 38 = .ok (.getfield 104, 3) := by decide +kernel
theorem dX6_swap_41 : decode cX6_swap 41 = .ok (.if_icmp .ge 75, 3) := by decide +kernel
theorem dX6_swap_44 : decode cX6_swap 44 = .ok (.iload_n 3, 1) := by decide +kernel
theorem dX6_swap_45 : decode cX6_swap 45 = .ok (.iconst 1, 1) := by decide +kernel
theorem dX6_swap_46 : decode cX6_swap 46 = .ok (.iadd, 1) := by decide +kernel
theorem dX6_swap_47 : decode cX6_swap 47 = .ok (.istore 4, 2) := by decide +kernel
theorem dX6_swap_49 : decode cX6_swap 49 = .ok (.iload 4, 2) := by decide +kernel
theorem dX6_swap_51 : decode cX6_swap 51 = .ok (.aload_n 0, 1) := by decide +kernel
theorem dX6_swap_52 : decode cX6_swap 52 = .ok (.getfield 24, 3) := by decide +kernel
theorem dX6_swap_55 : decode cX6_swap 55 = .ok (.getfield 104, 3) := by decide +kernel
theorem dX6_swap_58 : decode cX6_swap 58 = .ok (.if_icmp .ge 52, 3) := by decide +kernel
theorem dX6_swap_61 : decode cX6_swap 61 = .ok (.aload_n 0, 1) := by decide +kernel
theorem dX6_swap_62 : decode cX6_swap 62 = .ok (.getfield 28, 3) := by decide +kernel
theorem dX6_swap_65 : decode cX6_swap 65 = .ok (.aload_n 0, 1) := by decide +kernel
theorem dX6_swap_66 : decode cX6_swap 66 = .ok (.getfield 24, 3) := by decide +kernel
theorem dX6_swap_69 : decode cX6_swap 69 = .ok (.invokevirtual 94, 3) := by decide +kernel
theorem dX6_swap_72 : decode cX6_swap 72 = .ok (.aload_n 0, 1) := by decide +kernel
theorem dX6_swap_73 : decode cX6_swap 73 = .ok (.getfield 28, 3) := by decide +kernel
theorem dX6_swap_76 : decode cX6_swap 76 = .ok (.iload_n 3, 1) := by decide +kernel
theorem dX6_swap_77 : decode cX6_swap 77 = .ok (.iload 4, 2) := by decide +kernel
theorem dX6_swap_79 : decode cX6_swap 79 = .ok (.invokevirtual 211, 3) := by decide +kernel
theorem dX6_swap_82 : decode cX6_swap 82 = .ok (.aload_n 0, 1) := by decide +kernel
theorem dX6_swap_83 : decode cX6_swap 83 = .ok (.getfield 55, 3) := by decide +kernel
theorem dX6_swap_86 : decode cX6_swap 86 = .ok (.bipush 10, 2) := by decide +kernel
theorem dX6_swap_88 : decode cX6_swap 88 = .ok (.iload_n 3, 1) := by decide +kernel
theorem dX6_swap_89 : decode cX6_swap 89 = .ok (.imul, 1) := by decide +kernel
theorem dX6_swap_90 : decode cX6_swap 90 = .ok (.iload 4, 2) := by decide +kernel
theorem dX6_swap_92 : decode cX6_swap 92 = .ok (.iadd, 1) := by decide +kernel
theorem dX6_swap_93 : decode cX6_swap 93 = .ok (.aload_n 0, 1) := by decide +kernel
theorem dX6_swap_94 : decode cX6_swap 94 = .ok (.getfield 28, 3) := by decide +kernel
theorem dX6_swap_97 : decode cX6_swap 97 = .ok (.iload_n 1, 1) := by decide +kernel
theorem dX6_swap_98 : decode cX6_swap 98 = .ok (.invokevirtual 195, 3) := by decide +kernel
theorem dX6_swap_101 : decode cX6_swap 101 = .ok (.invokevirtual 198, 3) := by decide +kernel
theorem dX6_swap_104 : decode cX6_swap 104 = .ok (.iinc 4 1, 3) := by decide +kernel
theorem dX6_swap_107 : decode cX6_swap 107 = .ok (.goto (-58), 3) := by decide +kernel
theorem dX6_swap_110 : decode cX6_swap 110 = .ok (.iinc 3 1, 3) := by decide +kernel
theorem dX6_swap_113 : decode cX6_swap 113 = .ok (.goto (-80), 3) := by decide +kernel
theorem dX6_swap_116 : decode cX6_swap 116 = .ok (.aload_n 0, 1) := by decide +kernel
theorem dX6_swap_117 : decode cX6_swap 117 = .ok (.getfield 55, 3) := by decide +kernel
theorem dX6_swap_120 : decode cX6_swap 120 = .ok (.iload_n 2, 1) := by decide +kernel
theorem dX6_swap_121 : decode cX6_swap 121 = .ok (.invokevirtual 208, 3) := by decide +kernel
theorem dX6_swap_124 : decode cX6_swap 124 = .ok (.ireturn, 1) := by decide +kernel
theorem dX6_skip_0 : decode cX6_skip 0 = .ok (.iload_n 1, 1) := by decide +kernel
theorem dX6_skip_1 : decode cX6_skip 1 = .ok (.bipush 60, 2) := by decide +kernel
theorem dX6_skip_3 : decode cX6_skip 3 = .ok (.invokestatic 70, 3) := by decide +kernel
theorem dX6_skip_6 : decode cX6_skip 6 = .ok (.ifCond .eq 11, 3) := by decide +kernel
theorem dX6_skip_9 : decode cX6_skip 9 = .ok (.iload_n 2, 1) := by decide +kernel
theorem dX6_skip_10 : decode cX6_skip 10 = .ok (.iconst 1, 1) := by decide +kernel
theorem dX6_skip_11 : decode cX6_skip 11 = .ok (.invokestatic 70, 3) := by decide +kernel
theorem dX6_skip_14 : decode cX6_skip 14 = .ok (.ifCond .ne 5, 3) := by decide +kernel
theorem dX6_skip_17 : decode cX6_skip 17 = .ok (.iconst (-1), 1) := by decide +kernel
theorem dX6_skip_18 : decode cX6_skip 18 = .ok (.ireturn, 1) := by decide +kernel
theorem dX6_skip_19 : decode cX6_skip 19 = .ok (.aload_n 0, 1) := by decide +kernel
theorem dX6_skip_20 : decode cX6_skip 20 = .ok (.getfield 55, 3) := by decide +kernel
theorem dX6_skip_23 : decode cX6_skip 23 = .ok (.aload_n 0, 1) := by decide +kernel
theorem dX6_skip_24 : decode cX6_skip 24 = .ok (.iload_n 1, 1) := by decide +kernel
theorem dX6_skip_25 : decode cX6_skip 25 = .ok (.invokevirtual 205, 3) := by decide +kernel
theorem dX6_skip_28 : decode cX6_skip 28 = .ok (.invokevirtual 189, 3) := by decide +kernel
theorem dX6_skip_31 : decode cX6_skip 31 = .ok (.iconst 0, 1) := by decide +kernel
theorem dX6_skip_32 : decode cX6_skip 32 = .ok (.istore_n 3, 1) := by decide +kernel
theorem dX6_skip_33 : decode cX6_skip 33 = .ok (.iload_n 3, 1) := by decide +kernel
theorem dX6_skip_34 : decode cX6_skip 34 = .ok (.aload_n 0, 1) := by decide +kernel
theorem dX6_skip_35 : decode cX6_skip 35 = .ok (.getfield 24, 3) := by decide +kernel
theorem dX6_skip_38 : decode cX6_skip 38 = .ok (.getfield 104, 3) := by decide +kernel
theorem dX6_skip_41 : decode cX6_skip 41 = .ok (.if_icmp .ge 74, 3) := by decide +kernel
theorem dX6_skip_44 : decode cX6_skip 44 = .ok (.aload_n 0, 1) := by decide +kernel
theorem dX6_skip_45 : decode cX6_skip 45 = .ok (.getfield 28, 3) := by decide +kernel
theorem dX6_skip_48 : decode cX6_skip 48 = .ok (.aload_n 0, 1) := by decide +kernel
theorem dX6_skip_49 : decode cX6_skip 49 = .ok (.getfield 24, 3) := by decide +kernel
theorem dX6_skip_52 : decode cX6_skip 52 = .ok (.invokevirtual 94, 3) := by decide +kernel
theorem dX6_skip_55 : decode cX6_skip 55 = .ok (.iconst 0, 1) := by decide +kernel
theorem dX6_skip_56 : decode cX6_skip 56 = .ok (.istore 4, 2) := by decide +kernel
theorem dX6_skip_58 : decode cX6_skip 58 = .ok (.iload 4, 2) := by decide +kernel
theorem dX6_skip_60 : decode cX6_skip 60 = .ok (.iload_n 1, 1) := by decide +kernel
theorem dX6_skip_61 : decode cX6_skip 61 = .ok (.if_icmp .ge 33, 3) := by decide +kernel
theorem dX6_skip_64 : decode cX6_skip 64 = .ok (.aload_n 0, 1) := by decide +kernel
theorem dX6_skip_65 : decode cX6_skip 65 = .ok (.getfield 28, 3) := by decide +kernel
theorem dX6_skip_68 : decode cX6_skip 68 = .ok (.aload_n 0, 1) := by decide +kernel
theorem dX6_skip_69 : decode cX6_skip 69 = .ok (.getfield 28, 3) := by decide +kernel
theorem dX6_skip_72 : decode cX6_skip 72 = .ok (.invokevirtual 110, 3) := by decide +kernel
theorem dX6_skip_75 : decode cX6_skip 75 = .ok (.iload_n 3, 1) := by decide +kernel
theorem dX6_skip_76 : decode cX6_skip 76 = .ok (.if_icmp .ne 7, 3) := by decide +kernel
theorem dX6_skip_79 : decode cX6_skip 79 = .ok (.iconst 1, 1) := by decide +kernel
theorem dX6_skip_80 : decode cX6_skip 80 = .ok (.goto 4, 3) := by decide +kernel
theorem dX6_skip_83 : decode cX6_skip 83 = .ok (.iconst 0, 1) := by decide +kernel
theorem dX6_skip_84 : decode cX6_skip 84 = .ok (.invokevirtual 169, 3) := by decide +kernel
theorem dX6_skip_87 : decode cX6_skip 87 = .ok (.pop, 1) := by decide +kernel
theorem dX6_skip_88 : decode cX6_skip 88 = .ok (.iinc 4 1, 3) := by decide +kernel
theorem dX6_skip_91 : decode cX6_skip 91 = .ok (.goto (-33), 3) := by decide +kernel
theorem dX6_skip_94 : decode cX6_skip 94 = .ok (.aload_n 0, 1) := by decide +kernel
theorem dX6_skip_95 : decode cX6_skip 95 = .ok (.getfield 55, 3) := by decide +kernel
theorem dX6_skip_98 : decode cX6_skip 98 = .ok (.iload_n 3, 1) := by decide +kernel
theorem dX6_skip_99 : decode cX6_skip 99 = .ok (.aload_n 0, 1) := by decide +kernel
theorem dX6_skip_100 : decode cX6_skip 100 = .ok (.getfield 28, 3) := by decide +kernel
theorem dX6_skip_103 : decode cX6_skip 103 = .ok (.invokevirtual 117, 3) := by decide +kernel
theorem dX6_skip_106 : decode cX6_skip 106 = .ok (.invokevirtual 198, 3) := by decide +kernel
theorem dX6_skip_109 : decode cX6_skip 109 = .ok (.iinc 3 1, 3) := by decide +kernel
theorem dX6_skip_112 : decode cX6_skip 112 = .ok (.goto (-79), 3) := by decide +kernel
theorem dX6_skip_115 : decode cX6_skip 115 = .ok (.aload_n 0, 1) := by decide +kernel
theorem dX6_skip_116 : decode cX6_skip 116 = .ok (.getfield 55, 3) := by decide +kernel
theorem dX6_skip_119 : decode cX6_skip 119 = .ok (.iload_n 2, 1) := by decide +kernel
theorem dX6_skip_120 : decode cX6_skip 120 = .ok (.invokevirtual 208, 3) := by decide +kernel
theorem dX6_skip_123 : decode cX6_skip 123 = .ok (.ireturn, 1) := by decide +kernel
theorem dX6_owedAsItIs_0 : decode cX6_owedAsItIs 0 = .ok (.aload_n 0, 1) := by decide +kernel
theorem dX6_owedAsItIs_1 : decode cX6_owedAsItIs 1 = .ok (.getfield 28, 3) := by decide +kernel
theorem dX6_owedAsItIs_4 : decode cX6_owedAsItIs 4 = .ok (.aload_n 0, 1) := by decide +kernel
theorem dX6_owedAsItIs_5 : decode cX6_owedAsItIs 5 = .ok (.getfield 24, 3) := by decide +kernel
theorem dX6_owedAsItIs_8 : decode cX6_owedAsItIs 8 = .ok (.invokevirtual 94, 3) := by decide +kernel
theorem dX6_owedAsItIs_11 : decode cX6_owedAsItIs 11 = .ok (.aload_n 0, 1) := by decide +kernel
theorem dX6_owedAsItIs_12 : decode cX6_owedAsItIs 12 = .ok (.getfield 28, 3) := by decide +kernel
theorem dX6_owedAsItIs_15 : decode cX6_owedAsItIs 15 = .ok (.iload_n 1, 1) := by decide +kernel
theorem dX6_owedAsItIs_16 : decode cX6_owedAsItIs 16 = .ok (.invokevirtual 195, 3) := by decide +kernel
theorem dX6_owedAsItIs_19 : decode cX6_owedAsItIs 19 = .ok (.ireturn, 1) := by decide +kernel
theorem dX6_most_0 : decode cX6_most 0 = .ok (.aload_n 0, 1) := by decide +kernel
theorem dX6_most_1 : decode cX6_most 1 = .ok (.getfield 24, 3) := by decide +kernel
theorem dX6_most_4 : decode cX6_most 4 = .ok (.iload_n 1, 1) := by decide +kernel
theorem dX6_most_5 : decode cX6_most 5 = .ok (.invokevirtual 120, 3) := by decide +kernel
theorem dX6_most_8 : decode cX6_most 8 = .ok (.ifCond .eq 12, 3) := by decide +kernel
theorem dX6_most_11 : decode cX6_most 11 = .ok (.iload_n 2, 1) := by decide +kernel
theorem dX6_most_12 : decode cX6_most 12 = .ok (.bipush 60, 2) := by decide +kernel
theorem dX6_most_14 : decode cX6_most 14 = .ok (.invokestatic 70, 3) := by decide +kernel
theorem dX6_most_17 : decode cX6_most 17 = .ok (.ifCond .ne 5, 3) := by decide +kernel
theorem dX6_most_20 : decode cX6_most 20 = .ok (.iconst (-1), 1) := by decide +kernel
theorem dX6_most_21 : decode cX6_most 21 = .ok (.ireturn, 1) := by decide +kernel
theorem dX6_most_22 : decode cX6_most 22 = .ok (.bipush 20, 2) := by decide +kernel
theorem dX6_most_24 : decode cX6_most 24 = .ok (.istore_n 3, 1) := by decide +kernel
theorem dX6_most_25 : decode cX6_most 25 = .ok (.iload_n 3, 1) := by decide +kernel
theorem dX6_most_26 : decode cX6_most 26 = .ok (.ifCond .lt 31, 3) := by decide +kernel
theorem dX6_most_29 : decode cX6_most 29 = .ok (.aload_n 0, 1) := by decide +kernel
theorem dX6_most_30 : decode cX6_most 30 = .ok (.iload_n 1, 1) := by decide +kernel
theorem dX6_most_31 : decode cX6_most 31 = .ok (.iload_n 3, 1) := by decide +kernel
theorem dX6_most_32 : decode cX6_most 32 = .ok (.invokevirtual 214, 3) := by decide +kernel
theorem dX6_most_35 : decode cX6_most 35 = .ok (.aload_n 0, 1) := by decide +kernel
theorem dX6_most_36 : decode cX6_most 36 = .ok (.getfield 28, 3) := by decide +kernel
theorem dX6_most_39 : decode cX6_most 39 = .ok (.iload_n 1, 1) := by decide +kernel
theorem dX6_most_40 : decode cX6_most 40 = .ok (.iload_n 2, 1) := by decide +kernel
theorem dX6_most_41 : decode cX6_most 41 = .ok (.invokevirtual 173, 3) := by decide +kernel
theorem dX6_most_44 : decode cX6_most 44 = .ok (.bipush (-4), 2) := by decide +kernel
theorem dX6_most_46 : decode cX6_most 46 = .ok (.if_icmp .eq 5, 3) := by decide +kernel
theorem dX6_most_49 : decode cX6_most 49 = .ok (.iload_n 3, 1) := by decide +kernel
theorem dX6_most_50 : decode cX6_most 50 = .ok (.ireturn, 1) := by decide +kernel
theorem dX6_most_51 : decode cX6_most 51 = .ok (.iinc 3 (-1), 3) := by decide +kernel
theorem dX6_most_54 : decode cX6_most 54 = .ok (.goto (-29), 3) := by decide +kernel
theorem dX6_most_57 : decode cX6_most 57 = .ok (.bipush (-4), 2) := by decide +kernel
theorem dX6_most_59 : decode cX6_most 59 = .ok (.ireturn, 1) := by decide +kernel
theorem dX6_kind_0 : decode cX6_kind 0 = .ok (.aload_n 0, 1) := by decide +kernel
theorem dX6_kind_1 : decode cX6_kind 1 = .ok (.getfield 24, 3) := by decide +kernel
theorem dX6_kind_4 : decode cX6_kind 4 = .ok (.iload_n 1, 1) := by decide +kernel
theorem dX6_kind_5 : decode cX6_kind 5 = .ok (.invokevirtual 120, 3) := by decide +kernel
theorem dX6_kind_8 : decode cX6_kind 8 = .ok (.ifCond .eq 20, 3) := by decide +kernel
theorem dX6_kind_11 : decode cX6_kind 11 = .ok (.iload_n 2, 1) := by decide +kernel
theorem dX6_kind_12 : decode cX6_kind 12 = .ok (.bipush 60, 2) := by decide +kernel
theorem dX6_kind_14 : decode cX6_kind 14 = .ok (.invokestatic 70, 3) := by decide +kernel
theorem dX6_kind_17 : decode cX6_kind 17 = .ok (.ifCond .eq 11, 3) := by decide +kernel
theorem dX6_kind_20 : decode cX6_kind 20 = .ok (.iload_n 3, 1) := by decide +kernel
theorem dX6_kind_21 : decode cX6_kind 21 = .ok (.iconst 1, 1) := by decide +kernel
theorem dX6_kind_22 : decode cX6_kind 22 = .ok (.invokestatic 70, 3) := by decide +kernel
theorem dX6_kind_25 : decode cX6_kind 25 = .ok (.ifCond .ne 5, 3) := by decide +kernel
theorem dX6_kind_28 : decode cX6_kind 28 = .ok (.iconst (-1), 1) := by decide +kernel
theorem dX6_kind_29 : decode cX6_kind 29 = .ok (.ireturn, 1) := by decide +kernel
theorem dX6_kind_30 : decode cX6_kind 30 = .ok (.aload_n 0, 1) := by decide +kernel
theorem dX6_kind_31 : decode cX6_kind 31 = .ok (.getfield 55, 3) := by decide +kernel
theorem dX6_kind_34 : decode cX6_kind 34 = .ok (.sipush 496, 3) := by decide +kernel
theorem dX6_kind_37 : decode cX6_kind 37 = .ok (.invokevirtual 189, 3) := by decide +kernel
theorem dX6_kind_40 : decode cX6_kind 40 = .ok (.iconst 0, 1) := by decide +kernel
theorem dX6_kind_41 : decode cX6_kind 41 = .ok (.istore 4, 2) := by decide +kernel
theorem dX6_kind_43 : decode cX6_kind 43 = .ok (.iload 4, 2) := by decide +kernel
theorem dX6_kind_45 : decode cX6_kind 45 = .ok (.iconst 4, 1) := by decide +kernel
theorem dX6_kind_46 : decode cX6_kind 46 = .ok (.if_icmp .ge 33, 3) := by decide +kernel
theorem dX6_kind_49 : decode cX6_kind 49 = .ok (.aload_n 0, 1) := by decide +kernel
theorem dX6_kind_50 : decode cX6_kind 50 = .ok (.iload_n 1, 1) := by decide +kernel
theorem dX6_kind_51 : decode cX6_kind 51 = .ok (.iload 4, 2) := by decide +kernel
theorem dX6_kind_53 : decode cX6_kind 53 = .ok (.invokevirtual 217, 3) := by decide +kernel
theorem dX6_kind_56 : decode cX6_kind 56 = .ok (.aload_n 0, 1) := by decide +kernel
theorem dX6_kind_57 : decode cX6_kind 57 = .ok (.getfield 55, 3) := by decide +kernel
theorem dX6_kind_60 : decode cX6_kind 60 = .ok (.iload 4, 2) := by decide +kernel
theorem dX6_kind_62 : decode cX6_kind 62 = .ok (.aload_n 0, 1) := by decide +kernel
theorem dX6_kind_63 : decode cX6_kind 63 = .ok (.getfield 28, 3) := by decide +kernel
theorem dX6_kind_66 : decode cX6_kind 66 = .ok (.iload_n 2, 1) := by decide +kernel
theorem dX6_kind_67 : decode cX6_kind 67 = .ok (.invokevirtual 195, 3) := by decide +kernel
theorem dX6_kind_70 : decode cX6_kind 70 = .ok (.invokevirtual 198, 3) := by decide +kernel
theorem dX6_kind_73 : decode cX6_kind 73 = .ok (.iinc 4 1, 3) := by decide +kernel
theorem dX6_kind_76 : decode cX6_kind 76 = .ok (.goto (-33), 3) := by decide +kernel
theorem dX6_kind_79 : decode cX6_kind 79 = .ok (.aload_n 0, 1) := by decide +kernel
theorem dX6_kind_80 : decode cX6_kind 80 = .ok (.getfield 55, 3) := by decide +kernel
theorem dX6_kind_83 : decode cX6_kind 83 = .ok (.iload_n 3, 1) := by decide +kernel
theorem dX6_kind_84 : decode cX6_kind 84 = .ok (.invokevirtual 208, 3) := by decide +kernel
theorem dX6_kind_87 : decode cX6_kind 87 = .ok (.ireturn, 1) := by decide +kernel
theorem dX6_tryStrength_0 : decode cX6_tryStrength 0 = .ok (.aload_n 0, 1) := by decide +kernel
theorem dX6_tryStrength_1 : decode cX6_tryStrength 1 = .ok (.getfield 28, 3) := by decide +kernel
theorem dX6_tryStrength_4 : decode cX6_tryStrength 4 = .ok (.aload_n 0, 1) := by decide +kernel
theorem dX6_tryStrength_5 : decode cX6_tryStrength 5 = .ok (.getfield 24, 3) := by decide +kernel
theorem dX6_tryStrength_8 : decode cX6_tryStrength 8 = .ok (.invokevirtual 94, 3) := by decide +kernel
theorem dX6_tryStrength_11 : decode cX6_tryStrength 11 = .ok (.aload_n 0, 1) := by decide +kernel
theorem dX6_tryStrength_12 : decode cX6_tryStrength 12 = .ok (.getfield 28, 3) := by decide +kernel
theorem dX6_tryStrength_15 : decode cX6_tryStrength 15 = .ok (.getfield 126, 3) := by decide +kernel
theorem dX6_tryStrength_18 : decode cX6_tryStrength 18 = .ok (.iload_n 1, 1) := by decide +kernel
theorem dX6_tryStrength_19 : decode cX6_tryStrength 19 = .ok (.iload_n 2, 1) := by decide +kernel
theorem dX6_tryStrength_20 : decode cX6_tryStrength 20 = .ok (.iastore, 1) := by decide +kernel
theorem dX6_tryStrength_21 : decode cX6_tryStrength 21 = .ok (.return_, 1) := by decide +kernel
theorem dX6_tryKind_0 : decode cX6_tryKind 0 = .ok (.aload_n 0, 1) := by decide +kernel
theorem dX6_tryKind_1 : decode cX6_tryKind 1 = .ok (.getfield 28, 3) := by decide +kernel
theorem dX6_tryKind_4 : decode cX6_tryKind 4 = .ok (.aload_n 0, 1) := by decide +kernel
theorem dX6_tryKind_5 : decode cX6_tryKind 5 = .ok (.getfield 24, 3) := by decide +kernel
theorem dX6_tryKind_8 : decode cX6_tryKind 8 = .ok (.invokevirtual 94, 3) := by decide +kernel
theorem dX6_tryKind_11 : decode cX6_tryKind 11 = .ok (.aload_n 0, 1) := by decide +kernel
theorem dX6_tryKind_12 : decode cX6_tryKind 12 = .ok (.getfield 28, 3) := by decide +kernel
theorem dX6_tryKind_15 : decode cX6_tryKind 15 = .ok (.getfield 123, 3) := by decide +kernel
theorem dX6_tryKind_18 : decode cX6_tryKind 18 = .ok (.iload_n 1, 1) := by decide +kernel
theorem dX6_tryKind_19 : decode cX6_tryKind 19 = .ok (.iload_n 2, 1) := by decide +kernel
theorem dX6_tryKind_20 : decode cX6_tryKind 20 = .ok (.iastore, 1) := by decide +kernel
theorem dX6_tryKind_21 : decode cX6_tryKind 21 = .ok (.return_, 1) := by decide +kernel
theorem dX6_luck_0 : decode cX6_luck 0 = .ok (.iload_n 1, 1) := by decide +kernel
theorem dX6_luck_1 : decode cX6_luck 1 = .ok (.bipush 10, 2) := by decide +kernel
theorem dX6_luck_3 : decode cX6_luck 3 = .ok (.invokestatic 70, 3) := by decide +kernel
theorem dX6_luck_6 : decode cX6_luck 6 = .ok (.ifCond .eq 32, 3) := by decide +kernel
theorem dX6_luck_9 : decode cX6_luck 9 = .ok (.aload_n 0, 1) := by decide +kernel
theorem dX6_luck_10 : decode cX6_luck 10 = .ok (.getfield 24, 3) := by decide +kernel
theorem dX6_luck_13 : decode cX6_luck 13 = .ok (.iload_n 2, 1) := by decide +kernel
theorem dX6_luck_14 : decode cX6_luck 14 = .ok (.invokevirtual 120, 3) := by decide +kernel
theorem dX6_luck_17 : decode cX6_luck 17 = .ok (.ifCond .eq 21, 3) := by decide +kernel
theorem dX6_luck_20 : decode cX6_luck 20 = .ok (.iload_n 3, 1) := by decide +kernel
theorem dX6_luck_21 : decode cX6_luck 21 = .ok (.bipush 8, 2) := by decide +kernel
theorem dX6_luck_23 : decode cX6_luck 23 = .ok (.invokestatic 70, 3) := by decide +kernel
theorem dX6_luck_26 : decode cX6_luck 26 = .ok (.ifCond .eq 12, 3) := by decide +kernel
theorem dX6_luck_29 : decode cX6_luck 29 = .ok (.iload 4, 2) := by decide +kernel
theorem dX6_luck_31 : decode cX6_luck 31 = .ok (.iconst 1, 1) := by decide +kernel
theorem dX6_luck_32 : decode cX6_luck 32 = .ok (.invokestatic 70, 3) := by decide +kernel
theorem dX6_luck_35 : decode cX6_luck 35 = .ok (.ifCond .ne 7, 3) := by decide +kernel
theorem dX6_luck_38 : decode cX6_luck 38 = .ok (.ldc2_w 220, 3) := by decide +kernel
theorem dX6_luck_41 : decode cX6_luck 41 = .ok (.lreturn, 1) := by decide +kernel
theorem dX6_luck_42 : decode cX6_luck 42 = .ok (.lconst 0, 1) := by decide +kernel
theorem dX6_luck_43 : decode cX6_luck 43 = .ok (.lstore 5, 2) := by decide +kernel
theorem dX6_luck_45 : decode cX6_luck 45 = .ok (.iconst 0, 1) := by decide +kernel
theorem dX6_luck_46 : decode cX6_luck 46 = .ok (.istore 7, 2) := by decide +kernel
theorem dX6_luck_48 : decode cX6_luck 48 = .ok (.iload 7, 2) := by decide +kernel
theorem dX6_luck_50 : decode cX6_luck 50 = .ok (.iconst 1, 1) := by decide +kernel
theorem dX6_luck_51 : decode cX6_luck 51 = .ok (.iload_n 3, 1) := by decide +kernel
theorem dX6_luck_52 : decode cX6_luck 52 = .ok (.ishl, 1) := by decide +kernel
theorem dX6_luck_53 : decode cX6_luck 53 = .ok (.if_icmp .ge 32, 3) := by decide +kernel
theorem dX6_luck_56 : decode cX6_luck 56 = .ok (.aload_n 0, 1) := by decide +kernel
theorem dX6_luck_57 : decode cX6_luck 57 = .ok (.iload_n 2, 1) := by decide +kernel
theorem dX6_luck_58 : decode cX6_luck 58 = .ok (.iload_n 3, 1) := by decide +kernel
theorem dX6_luck_59 : decode cX6_luck 59 = .ok (.iload 7, 2) := by decide +kernel
theorem dX6_luck_61 : decode cX6_luck 61 = .ok (.invokevirtual 222, 3) := by decide +kernel
theorem dX6_luck_64 : decode cX6_luck 64 = .ok (.ifCond .eq 15, 3) := by decide +kernel
theorem dX6_luck_67 : decode cX6_luck 67 = .ok (.lload 5, 2) := by decide +kernel
theorem dX6_luck_69 : decode cX6_luck 69 = .ok (.iload_n 1, 1) := by decide +kernel
theorem dX6_luck_70 : decode cX6_luck 70 = .ok (.iload_n 3, 1) := by decide +kernel
theorem dX6_luck_71 : decode cX6_luck 71 = .ok (.iload 7, 2) := by decide +kernel
theorem dX6_luck_73 : decode cX6_luck 73 = .ok (.invokestatic 226, 3) := by decide +kernel
theorem dX6_luck_76 : decode cX6_luck 76 = .ok (.ladd, 1) := by decide +kernel
theorem dX6_luck_77 : decode cX6_luck 77 = .ok (.lstore 5, 2) := by decide +kernel
theorem dX6_luck_79 : decode cX6_luck 79 = .ok (.iinc 7 1, 3) := by decide +kernel
theorem dX6_luck_82 : decode cX6_luck 82 = .ok (.goto (-34), 3) := by decide +kernel
theorem dX6_luck_85 : decode cX6_luck 85 = .ok (.lload 5, 2) := by decide +kernel
theorem dX6_luck_87 : decode cX6_luck 87 = .ok (.bipush 10, 2) := by decide +kernel
theorem dX6_luck_89 : decode cX6_luck 89 = .ok (.iload_n 3, 1) := by decide +kernel
theorem dX6_luck_90 : decode cX6_luck 90 = .ok (.invokestatic 230, 3) := by decide +kernel
theorem dX6_luck_93 : decode cX6_luck 93 = .ok (.iload 4, 2) := by decide +kernel
theorem dX6_luck_95 : decode cX6_luck 95 = .ok (.invokestatic 234, 3) := by decide +kernel
theorem dX6_luck_98 : decode cX6_luck 98 = .ok (.lreturn, 1) := by decide +kernel
theorem dX6_mean_0 : decode cX6_mean 0 = .ok (.iload_n 1, 1) := by decide +kernel
theorem dX6_mean_1 : decode cX6_mean 1 = .ok (.bipush 10, 2) := by decide +kernel
theorem dX6_mean_3 : decode cX6_mean 3 = .ok (.invokestatic 70, 3) := by decide +kernel
theorem dX6_mean_6 : decode cX6_mean 6 = .ok (.ifCond .eq 20, 3) := by decide +kernel
theorem dX6_mean_9 : decode cX6_mean 9 = .ok (.iload_n 2, 1) := by decide +kernel
theorem dX6_mean_10 : decode cX6_mean 10 = .ok (.bipush 8, 2) := by decide +kernel
theorem dX6_mean_12 : decode cX6_mean 12 = .ok (.invokestatic 70, 3) := by decide +kernel
theorem dX6_mean_15 : decode cX6_mean 15 = .ok (.ifCond .eq 11, 3) := by decide +kernel
theorem dX6_mean_18 : decode cX6_mean 18 = .ok (.iload_n 3, 1) := by decide +kernel
theorem dX6_mean_19 : decode cX6_mean 19 = .ok (.iconst 1, 1) := by decide +kernel
theorem dX6_mean_20 : decode cX6_mean 20 = .ok (.invokestatic 70, 3) := by decide +kernel
theorem dX6_mean_23 : decode cX6_mean 23 = .ok (.ifCond .ne 7, 3) := by decide +kernel
theorem dX6_mean_26 : decode cX6_mean 26 = .ok (.ldc2_w 220, 3) := by decide +kernel
theorem dX6_mean_29 : decode cX6_mean 29 = .ok (.lreturn, 1) := by decide +kernel
theorem dX6_mean_30 : decode cX6_mean 30 = .ok (.lconst 0, 1) := by decide +kernel
theorem dX6_mean_31 : decode cX6_mean 31 = .ok (.lstore 4, 2) := by decide +kernel
theorem dX6_mean_33 : decode cX6_mean 33 = .ok (.iconst 0, 1) := by decide +kernel
theorem dX6_mean_34 : decode cX6_mean 34 = .ok (.istore 6, 2) := by decide +kernel
theorem dX6_mean_36 : decode cX6_mean 36 = .ok (.iload 6, 2) := by decide +kernel
theorem dX6_mean_38 : decode cX6_mean 38 = .ok (.iconst 1, 1) := by decide +kernel
theorem dX6_mean_39 : decode cX6_mean 39 = .ok (.iload_n 2, 1) := by decide +kernel
theorem dX6_mean_40 : decode cX6_mean 40 = .ok (.ishl, 1) := by decide +kernel
theorem dX6_mean_41 : decode cX6_mean 41 = .ok (.if_icmp .ge 40, 3) := by decide +kernel
theorem dX6_mean_44 : decode cX6_mean 44 = .ok (.aload_n 0, 1) := by decide +kernel
theorem dX6_mean_45 : decode cX6_mean 45 = .ok (.bipush (-4), 2) := by decide +kernel
theorem dX6_mean_47 : decode cX6_mean 47 = .ok (.iload_n 2, 1) := by decide +kernel
theorem dX6_mean_48 : decode cX6_mean 48 = .ok (.iload 6, 2) := by decide +kernel
theorem dX6_mean_50 : decode cX6_mean 50 = .ok (.invokevirtual 222, 3) := by decide +kernel
theorem dX6_mean_53 : decode cX6_mean 53 = .ok (.pop, 1) := by decide +kernel
theorem dX6_mean_54 : decode cX6_mean 54 = .ok (.lload 4, 2) := by decide +kernel
theorem dX6_mean_56 : decode cX6_mean 56 = .ok (.aload_n 0, 1) := by decide +kernel
theorem dX6_mean_57 : decode cX6_mean 57 = .ok (.getfield 28, 3) := by decide +kernel
theorem dX6_mean_60 : decode cX6_mean 60 = .ok (.invokevirtual 117, 3) := by decide +kernel
theorem dX6_mean_63 : decode cX6_mean 63 = .ok (.i2l, 1) := by decide +kernel
theorem dX6_mean_64 : decode cX6_mean 64 = .ok (.iload_n 1, 1) := by decide +kernel
theorem dX6_mean_65 : decode cX6_mean 65 = .ok (.iload_n 2, 1) := by decide +kernel
theorem dX6_mean_66 : decode cX6_mean 66 = .ok (.iload 6, 2) := by decide +kernel
theorem dX6_mean_68 : decode cX6_mean 68 = .ok (.invokestatic 226, 3) := by decide +kernel
theorem dX6_mean_71 : decode cX6_mean 71 = .ok (.lmul, 1) := by decide +kernel
theorem dX6_mean_72 : decode cX6_mean 72 = .ok (.ladd, 1) := by decide +kernel
theorem dX6_mean_73 : decode cX6_mean 73 = .ok (.lstore 4, 2) := by decide +kernel
theorem dX6_mean_75 : decode cX6_mean 75 = .ok (.iinc 6 1, 3) := by decide +kernel
theorem dX6_mean_78 : decode cX6_mean 78 = .ok (.goto (-42), 3) := by decide +kernel
theorem dX6_mean_81 : decode cX6_mean 81 = .ok (.lload 4, 2) := by decide +kernel
theorem dX6_mean_83 : decode cX6_mean 83 = .ok (.bipush 10, 2) := by decide +kernel
theorem dX6_mean_85 : decode cX6_mean 85 = .ok (.iload_n 2, 1) := by decide +kernel
theorem dX6_mean_86 : decode cX6_mean 86 = .ok (.invokestatic 230, 3) := by decide +kernel
theorem dX6_mean_89 : decode cX6_mean 89 = .ok (.iload_n 3, 1) := by decide +kernel
theorem dX6_mean_90 : decode cX6_mean 90 = .ok (.invokestatic 234, 3) := by decide +kernel
theorem dX6_mean_93 : decode cX6_mean 93 = .ok (.lreturn, 1) := by decide +kernel
theorem dX6_losesInRain_0 : decode cX6_losesInRain 0 = .ok (.aload_n 0, 1) := by decide +kernel
theorem dX6_losesInRain_1 : decode cX6_losesInRain 1 = .ok (.getfield 28, 3) := by decide +kernel
theorem dX6_losesInRain_4 : decode cX6_losesInRain 4 = .ok (.aload_n 0, 1) := by decide +kernel
theorem dX6_losesInRain_5 : decode cX6_losesInRain 5 = .ok (.getfield 24, 3) := by decide +kernel
theorem dX6_losesInRain_8 : decode cX6_losesInRain 8 = .ok (.invokevirtual 94, 3) := by decide +kernel
theorem dX6_losesInRain_11 : decode cX6_losesInRain 11 = .ok (.iconst 0, 1) := by decide +kernel
theorem dX6_losesInRain_12 : decode cX6_losesInRain 12 = .ok (.istore 4, 2) := by decide +kernel
theorem dX6_losesInRain_14 : decode cX6_losesInRain 14 = .ok (.iconst 0, 1) := by decide +kernel
theorem dX6_losesInRain_15 : decode cX6_losesInRain 15 = .ok (.istore 5, 2) := by decide +kernel
theorem dX6_losesInRain_17 : decode cX6_losesInRain 17 = .ok (.iload 5, 2) := by decide +kernel
theorem dX6_losesInRain_19 : decode cX6_losesInRain 19 = .ok (.iload_n 2, 1) := by decide +kernel
theorem dX6_losesInRain_20 : decode cX6_losesInRain 20 = .ok (.if_icmp .ge 47, 3) := by decide +kernel
theorem dX6_losesInRain_23 : decode cX6_losesInRain 23 = .ok (.aload_n 0, 1) := by decide +kernel
theorem dX6_losesInRain_24 : decode cX6_losesInRain 24 = .ok (.getfield 28, 3) := by decide +kernel
theorem dX6_losesInRain_27 : decode cX6_losesInRain 27 = .ok (.iload_n 3, 1) := by decide +kernel
theorem dX6_losesInRain_28 : decode cX6_losesInRain 28 = .ok (.iload 5, 2) := by decide +kernel
theorem dX6_losesInRain_30 : decode cX6_losesInRain 30 = .ok (.ishr, 1) := by decide +kernel
theorem dX6_losesInRain_31 : decode cX6_losesInRain 31 = .ok (.iconst 1, 1) := by decide +kernel
theorem dX6_losesInRain_32 : decode cX6_losesInRain 32 = .ok (.iand, 1) := by decide +kernel
theorem dX6_losesInRain_33 : decode cX6_losesInRain 33 = .ok (.iconst 1, 1) := by decide +kernel
theorem dX6_losesInRain_34 : decode cX6_losesInRain 34 = .ok (.if_icmp .ne 7, 3) := by decide +kernel
theorem dX6_losesInRain_37 : decode cX6_losesInRain 37 = .ok (.iconst 1, 1) := by decide +kernel
theorem dX6_losesInRain_38 : decode cX6_losesInRain 38 = .ok (.goto 4, 3) := by decide +kernel
theorem dX6_losesInRain_41 : decode cX6_losesInRain 41 = .ok (.iconst 0, 1) := by decide +kernel
theorem dX6_losesInRain_42 : decode cX6_losesInRain 42 = .ok (.invokevirtual 169, 3) := by decide +kernel
theorem dX6_losesInRain_45 : decode cX6_losesInRain 45 = .ok (.istore 6, 2) := by decide +kernel
theorem dX6_losesInRain_47 : decode cX6_losesInRain 47 = .ok (.iload 6, 2) := by decide +kernel
theorem dX6_losesInRain_49 : decode cX6_losesInRain 49 = .ok (.ifCond .lt 12, 3) := by decide +kernel
theorem dX6_losesInRain_52 : decode cX6_losesInRain 52 = .ok (.iload 6, 2) := by decide +kernel
theorem dX6_losesInRain_54 : decode cX6_losesInRain 54 = .ok (.iload_n 1, 1) := by decide +kernel
theorem dX6_losesInRain_55 : decode cX6_losesInRain 55 = .ok (.if_icmp .ne 6, 3) := by decide +kernel
theorem dX6_losesInRain_58 : decode cX6_losesInRain 58 = .ok (.iconst 1, 1) := by decide +kernel
theorem dX6_losesInRain_59 : decode cX6_losesInRain 59 = .ok (.istore 4, 2) := by decide +kernel
theorem dX6_losesInRain_61 : decode cX6_losesInRain 61 = .ok (.iinc 5 1, 3) := by decide +kernel
theorem dX6_losesInRain_64 : decode cX6_losesInRain 64 = .ok (.goto (-47), 3) := by decide +kernel
theorem dX6_losesInRain_67 : decode cX6_losesInRain 67 = .ok (.iload 4, 2) := by decide +kernel
theorem dX6_losesInRain_69 : decode cX6_losesInRain 69 = .ok (.ireturn, 1) := by decide +kernel
theorem dX6_weight_0 : decode cX6_weight 0 = .ok (.iload_n 2, 1) := by decide +kernel
theorem dX6_weight_1 : decode cX6_weight 1 = .ok (.invokestatic 238, 3) := by decide +kernel
theorem dX6_weight_4 : decode cX6_weight 4 = .ok (.istore_n 3, 1) := by decide +kernel
theorem dX6_weight_5 : decode cX6_weight 5 = .ok (.iload_n 0, 1) := by decide +kernel
theorem dX6_weight_6 : decode cX6_weight 6 = .ok (.iload_n 3, 1) := by decide +kernel
theorem dX6_weight_7 : decode cX6_weight 7 = .ok (.invokestatic 230, 3) := by decide +kernel
theorem dX6_weight_10 : decode cX6_weight 10 = .ok (.bipush 10, 2) := by decide +kernel
theorem dX6_weight_12 : decode cX6_weight 12 = .ok (.iload_n 0, 1) := by decide +kernel
theorem dX6_weight_13 : decode cX6_weight 13 = .ok (.isub, 1) := by decide +kernel
theorem dX6_weight_14 : decode cX6_weight 14 = .ok (.iload_n 1, 1) := by decide +kernel
theorem dX6_weight_15 : decode cX6_weight 15 = .ok (.iload_n 3, 1) := by decide +kernel
theorem dX6_weight_16 : decode cX6_weight 16 = .ok (.isub, 1) := by decide +kernel
theorem dX6_weight_17 : decode cX6_weight 17 = .ok (.invokestatic 230, 3) := by decide +kernel
theorem dX6_weight_20 : decode cX6_weight 20 = .ok (.lmul, 1) := by decide +kernel
theorem dX6_weight_21 : decode cX6_weight 21 = .ok (.lreturn, 1) := by decide +kernel
theorem dX6_power_0 : decode cX6_power 0 = .ok (.lconst 1, 1) := by decide +kernel
theorem dX6_power_1 : decode cX6_power 1 = .ok (.lstore_n 2, 1) := by decide +kernel
theorem dX6_power_2 : decode cX6_power 2 = .ok (.iconst 0, 1) := by decide +kernel
theorem dX6_power_3 : decode cX6_power 3 = .ok (.istore 4, 2) := by decide +kernel
theorem dX6_power_5 : decode cX6_power 5 = .ok (.iload 4, 2) := by decide +kernel
theorem dX6_power_7 : decode cX6_power 7 = .ok (.iload_n 1, 1) := by decide +kernel
theorem dX6_power_8 : decode cX6_power 8 = .ok (.if_icmp .ge 14, 3) := by decide +kernel
theorem dX6_power_11 : decode cX6_power 11 = .ok (.lload_n 2, 1) := by decide +kernel
theorem dX6_power_12 : decode cX6_power 12 = .ok (.iload_n 0, 1) := by decide +kernel
theorem dX6_power_13 : decode cX6_power 13 = .ok (.i2l, 1) := by decide +kernel
theorem dX6_power_14 : decode cX6_power 14 = .ok (.lmul, 1) := by decide +kernel
theorem dX6_power_15 : decode cX6_power 15 = .ok (.lstore_n 2, 1) := by decide +kernel
theorem dX6_power_16 : decode cX6_power 16 = .ok (.iinc 4 1, 3) := by decide +kernel
theorem dX6_power_19 : decode cX6_power 19 = .ok (.goto (-14), 3) := by decide +kernel
theorem dX6_power_22 : decode cX6_power 22 = .ok (.lload_n 2, 1) := by decide +kernel
theorem dX6_power_23 : decode cX6_power 23 = .ok (.lreturn, 1) := by decide +kernel
theorem dX6_lowest_0 : decode cX6_lowest 0 = .ok (.lload_n 0, 1) := by decide +kernel
theorem dX6_lowest_1 : decode cX6_lowest 1 = .ok (.lload_n 2, 1) := by decide +kernel
theorem dX6_lowest_2 : decode cX6_lowest 2 = .ok (.invokestatic 243, 3) := by decide +kernel
theorem dX6_lowest_5 : decode cX6_lowest 5 = .ok (.lstore 5, 2) := by decide +kernel
theorem dX6_lowest_7 : decode cX6_lowest 7 = .ok (.iload 4, 2) := by decide +kernel
theorem dX6_lowest_9 : decode cX6_lowest 9 = .ok (.ifCond .ne 7, 3) := by decide +kernel
theorem dX6_lowest_12 : decode cX6_lowest 12 = .ok (.lload_n 0, 1) := by decide +kernel
theorem dX6_lowest_13 : decode cX6_lowest 13 = .ok (.goto 4, 3) := by decide +kernel
theorem dX6_lowest_16 : decode cX6_lowest 16 = .ok (.lload_n 2, 1) := by decide +kernel
theorem dX6_lowest_17 : decode cX6_lowest 17 = .ok (.lload 5, 2) := by decide +kernel
theorem dX6_lowest_19 : decode cX6_lowest 19 = .ok (.ldiv, 1) := by decide +kernel
theorem dX6_lowest_20 : decode cX6_lowest 20 = .ok (.lreturn, 1) := by decide +kernel
theorem dX6_commonDivisor_0 : decode cX6_commonDivisor 0 = .ok (.lload_n 0, 1) := by decide +kernel
theorem dX6_commonDivisor_1 : decode cX6_commonDivisor 1 = .ok (.lstore 4, 2) := by decide +kernel
theorem dX6_commonDivisor_3 : decode cX6_commonDivisor 3 = .ok (.lload_n 2, 1) := by decide +kernel
theorem dX6_commonDivisor_4 : decode cX6_commonDivisor 4 = .ok (.lstore 6, 2) := by decide +kernel
theorem dX6_commonDivisor_6 : decode cX6_commonDivisor 6 = .ok (.iconst 0, 1) := by decide +kernel
theorem dX6_commonDivisor_7 : decode cX6_commonDivisor 7 = .ok (.istore 8, 2) := by decide +kernel
theorem dX6_commonDivisor_9 : decode cX6_commonDivisor 9 = .ok (.iload 8, 2) := by decide +kernel
theorem dX6_commonDivisor_11 : decode cX6_commonDivisor 11 = .ok (.bipush 100, 2) := by decide +kernel
theorem dX6_commonDivisor_13 : decode cX6_commonDivisor 13 = .ok (.if_icmp .ge 31, 3) := by decide +kernel
theorem dX6_commonDivisor_16 : decode cX6_commonDivisor 16 = .ok (.lload 6, 2) := by decide +kernel
theorem dX6_commonDivisor_18 : decode cX6_commonDivisor 18 = .ok (.lconst 0, 1) := by decide +kernel
theorem dX6_commonDivisor_19 : decode cX6_commonDivisor 19 = .ok (.lcmp, 1) := by decide +kernel
theorem dX6_commonDivisor_20 : decode cX6_commonDivisor 20 = .ok (.ifCond .eq 24, 3) := by decide +kernel
theorem dX6_commonDivisor_23 : decode cX6_commonDivisor 23 = .ok (.lload 4, 2) := by decide +kernel
theorem dX6_commonDivisor_25 : decode cX6_commonDivisor 25 = .ok (.lload 6, 2) := by decide +kernel
theorem dX6_commonDivisor_27 : decode cX6_commonDivisor 27 = .ok (.lrem, 1) := by decide +kernel
theorem dX6_commonDivisor_28 : decode cX6_commonDivisor 28 = .ok (.lstore 9, 2) := by decide +kernel
theorem dX6_commonDivisor_30 : decode cX6_commonDivisor 30 = .ok (.lload 6, 2) := by decide +kernel
theorem dX6_commonDivisor_32 : decode cX6_commonDivisor 32 = .ok (.lstore 4, 2) := by decide +kernel
theorem dX6_commonDivisor_34 : decode cX6_commonDivisor 34 = .ok (.lload 9, 2) := by decide +kernel
theorem dX6_commonDivisor_36 : decode cX6_commonDivisor 36 = .ok (.lstore 6, 2) := by decide +kernel
theorem dX6_commonDivisor_38 : decode cX6_commonDivisor 38 = .ok (.iinc 8 1, 3) := by decide +kernel
theorem dX6_commonDivisor_41 : decode cX6_commonDivisor 41 = .ok (.goto (-32), 3) := by decide +kernel
theorem dX6_commonDivisor_44 : decode cX6_commonDivisor 44 = .ok (.lconst 1, 1) := by decide +kernel
theorem dX6_commonDivisor_45 : decode cX6_commonDivisor 45 = .ok (.lload 4, 2) := by decide +kernel
theorem dX6_commonDivisor_47 : decode cX6_commonDivisor 47 = .ok (.invokestatic 247, 3) := by decide +kernel
theorem dX6_commonDivisor_50 : decode cX6_commonDivisor 50 = .ok (.lreturn, 1) := by decide +kernel
theorem dX6_see_0 : decode cX6_see 0 = .ok (.iload_n 1, 1) := by decide +kernel
theorem dX6_see_1 : decode cX6_see 1 = .ok (.bipush 20, 2) := by decide +kernel
theorem dX6_see_3 : decode cX6_see 3 = .ok (.invokestatic 70, 3) := by decide +kernel
theorem dX6_see_6 : decode cX6_see 6 = .ok (.ifCond .eq 20, 3) := by decide +kernel
theorem dX6_see_9 : decode cX6_see 9 = .ok (.iload_n 2, 1) := by decide +kernel
theorem dX6_see_10 : decode cX6_see 10 = .ok (.bipush 9, 2) := by decide +kernel
theorem dX6_see_12 : decode cX6_see 12 = .ok (.if_icmp .eq 16, 3) := by decide +kernel
theorem dX6_see_15 : decode cX6_see 15 = .ok (.aload_n 0, 1) := by decide +kernel
theorem dX6_see_16 : decode cX6_see 16 = .ok (.getfield 24, 3) := by decide +kernel
theorem dX6_see_19 : decode cX6_see 19 = .ok (.iload_n 2, 1) := by decide +kernel
theorem dX6_see_20 : decode cX6_see 20 = .ok (.invokevirtual 120, 3) := by decide +kernel
theorem dX6_see_23 : decode cX6_see 23 = .ok (.ifCond .ne 5, 3) := by decide +kernel
theorem dX6_see_26 : decode cX6_see 26 = .ok (.iconst (-1), 1) := by decide +kernel
theorem dX6_see_27 : decode cX6_see 27 = .ok (.ireturn, 1) := by decide +kernel
theorem dX6_see_28 : decode cX6_see 28 = .ok (.aload_n 0, 1) := by decide +kernel
theorem dX6_see_29 : decode cX6_see 29 = .ok (.getfield 48, 3) := by decide +kernel
theorem dX6_see_32 : decode cX6_see 32 = .ok (.iload_n 1, 1) := by decide +kernel
theorem dX6_see_33 : decode cX6_see 33 = .ok (.iload_n 2, 1) := by decide +kernel
theorem dX6_see_34 : decode cX6_see 34 = .ok (.invokevirtual 252, 3) := by decide +kernel
theorem dX6_see_37 : decode cX6_see 37 = .ok (.ifCond .eq 13, 3) := by decide +kernel
theorem dX6_see_40 : decode cX6_see 40 = .ok (.aload_n 0, 1) := by decide +kernel
theorem dX6_see_41 : decode cX6_see 41 = .ok (.getfield 48, 3) := by decide +kernel
theorem dX6_see_44 : decode cX6_see 44 = .ok (.getfield 98, 3) := by decide +kernel
theorem dX6_see_47 : decode cX6_see 47 = .ok (.goto 5, 3) := by decide +kernel
theorem dX6_see_50 : decode cX6_see 50 = .ok (.bipush (-3), 2) := by decide +kernel
theorem dX6_see_52 : decode cX6_see 52 = .ok (.ireturn, 1) := by decide +kernel
theorem dX6_forget_0 : decode cX6_forget 0 = .ok (.iload_n 1, 1) := by decide +kernel
theorem dX6_forget_1 : decode cX6_forget 1 = .ok (.aload_n 0, 1) := by decide +kernel
theorem dX6_forget_2 : decode cX6_forget 2 = .ok (.getfield 48, 3) := by decide +kernel
theorem dX6_forget_5 : decode cX6_forget 5 = .ok (.getfield 98, 3) := by decide +kernel
theorem dX6_forget_8 : decode cX6_forget 8 = .ok (.invokestatic 70, 3) := by decide +kernel
theorem dX6_forget_11 : decode cX6_forget 11 = .ok (.ifCond .ne 5, 3) := by decide +kernel
theorem dX6_forget_14 : decode cX6_forget 14 = .ok (.iconst (-1), 1) := by decide +kernel
theorem dX6_forget_15 : decode cX6_forget 15 = .ok (.ireturn, 1) := by decide +kernel
theorem dX6_forget_16 : decode cX6_forget 16 = .ok (.aload_n 0, 1) := by decide +kernel
theorem dX6_forget_17 : decode cX6_forget 17 = .ok (.getfield 48, 3) := by decide +kernel
theorem dX6_forget_20 : decode cX6_forget 20 = .ok (.getfield 98, 3) := by decide +kernel
theorem dX6_forget_23 : decode cX6_forget 23 = .ok (.istore_n 2, 1) := by decide +kernel
theorem dX6_forget_24 : decode cX6_forget 24 = .ok (.aload_n 0, 1) := by decide +kernel
theorem dX6_forget_25 : decode cX6_forget 25 = .ok (.getfield 48, 3) := by decide +kernel
theorem dX6_forget_28 : decode cX6_forget 28 = .ok (.iload_n 1, 1) := by decide +kernel
theorem dX6_forget_29 : decode cX6_forget 29 = .ok (.putfield 98, 3) := by decide +kernel
theorem dX6_forget_32 : decode cX6_forget 32 = .ok (.iload_n 2, 1) := by decide +kernel
theorem dX6_forget_33 : decode cX6_forget 33 = .ok (.ireturn, 1) := by decide +kernel
theorem dX6_kinds_0 : decode cX6_kinds 0 = .ok (.aload_n 0, 1) := by decide +kernel
theorem dX6_kinds_1 : decode cX6_kinds 1 = .ok (.getfield 24, 3) := by decide +kernel
theorem dX6_kinds_4 : decode cX6_kinds 4 = .ok (.iload_n 1, 1) := by decide +kernel
theorem dX6_kinds_5 : decode cX6_kinds 5 = .ok (.invokevirtual 120, 3) := by decide +kernel
theorem dX6_kinds_8 : decode cX6_kinds 8 = .ok (.ifCond .ne 5, 3) := by decide +kernel
theorem dX6_kinds_11 : decode cX6_kinds 11 = .ok (.iconst (-1), 1) := by decide +kernel
theorem dX6_kinds_12 : decode cX6_kinds 12 = .ok (.ireturn, 1) := by decide +kernel
theorem dX6_kinds_13 : decode cX6_kinds 13 = .ok (.iconst 0, 1) := by decide +kernel
theorem dX6_kinds_14 : decode cX6_kinds 14 = .ok (.istore_n 2, 1) := by decide +kernel
theorem dX6_kinds_15 : decode cX6_kinds 15 = .ok (.iconst 0, 1) := by decide +kernel
theorem dX6_kinds_16 : decode cX6_kinds 16 = .ok (.istore_n 3, 1) := by decide +kernel
theorem dX6_kinds_17 : decode cX6_kinds 17 = .ok (.iload_n 3, 1) := by decide +kernel
theorem dX6_kinds_18 : decode cX6_kinds 18 = .ok (.iconst 4, 1) := by decide +kernel
theorem dX6_kinds_19 : decode cX6_kinds 19 = .ok (.if_icmp .ge 35, 3) := by decide +kernel
theorem dX6_kinds_22 : decode cX6_kinds 22 = .ok (.aload_n 0, 1) := by decide +kernel
theorem dX6_kinds_23 : decode cX6_kinds 23 = .ok (.iload_n 1, 1) := by decide +kernel
theorem dX6_kinds_24 : decode cX6_kinds 24 = .ok (.iload_n 3, 1) := by decide +kernel
theorem dX6_kinds_25 : decode cX6_kinds 25 = .ok (.invokevirtual 217, 3) := by decide +kernel
theorem dX6_kinds_28 : decode cX6_kinds 28 = .ok (.aload_n 0, 1) := by decide +kernel
theorem dX6_kinds_29 : decode cX6_kinds 29 = .ok (.getfield 48, 3) := by decide +kernel
theorem dX6_kinds_32 : decode cX6_kinds 32 = .ok (.aload_n 0, 1) := by decide +kernel
theorem dX6_kinds_33 : decode cX6_kinds 33 = .ok (.getfield 28, 3) := by decide +kernel
theorem dX6_kinds_36 : decode cX6_kinds 36 = .ok (.invokevirtual 255, 3) := by decide +kernel
theorem dX6_kinds_39 : decode cX6_kinds 39 = .ok (.ifCond .eq 9, 3) := by decide +kernel
theorem dX6_kinds_42 : decode cX6_kinds 42 = .ok (.iload_n 2, 1) := by decide +kernel
theorem dX6_kinds_43 : decode cX6_kinds 43 = .ok (.iconst 1, 1) := by decide +kernel
theorem dX6_kinds_44 : decode cX6_kinds 44 = .ok (.iload_n 3, 1) := by decide +kernel
theorem dX6_kinds_45 : decode cX6_kinds 45 = .ok (.ishl, 1) := by decide +kernel
theorem dX6_kinds_46 : decode cX6_kinds 46 = .ok (.ior, 1) := by decide +kernel
theorem dX6_kinds_47 : decode cX6_kinds 47 = .ok (.istore_n 2, 1) := by decide +kernel
theorem dX6_kinds_48 : decode cX6_kinds 48 = .ok (.iinc 3 1, 3) := by decide +kernel
theorem dX6_kinds_51 : decode cX6_kinds 51 = .ok (.goto (-34), 3) := by decide +kernel
theorem dX6_kinds_54 : decode cX6_kinds 54 = .ok (.iload_n 2, 1) := by decide +kernel
theorem dX6_kinds_55 : decode cX6_kinds 55 = .ok (.ireturn, 1) := by decide +kernel
theorem dX6_strengths_0 : decode cX6_strengths 0 = .ok (.aload_n 0, 1) := by decide +kernel
theorem dX6_strengths_1 : decode cX6_strengths 1 = .ok (.getfield 24, 3) := by decide +kernel
theorem dX6_strengths_4 : decode cX6_strengths 4 = .ok (.iload_n 1, 1) := by decide +kernel
theorem dX6_strengths_5 : decode cX6_strengths 5 = .ok (.invokevirtual 120, 3) := by decide +kernel
theorem dX6_strengths_8 : decode cX6_strengths 8 = .ok (.ifCond .eq 11, 3) := by decide +kernel
theorem dX6_strengths_11 : decode cX6_strengths 11 = .ok (.aload_n 0, 1) := by decide +kernel
theorem dX6_strengths_12 : decode cX6_strengths 12 = .ok (.iload_n 1, 1) := by decide +kernel
theorem dX6_strengths_13 : decode cX6_strengths 13 = .ok (.invokevirtual 259, 3) := by decide +kernel
theorem dX6_strengths_16 : decode cX6_strengths 16 = .ok (.goto 4, 3) := by decide +kernel
theorem dX6_strengths_19 : decode cX6_strengths 19 = .ok (.iconst (-1), 1) := by decide +kernel
theorem dX6_strengths_20 : decode cX6_strengths 20 = .ok (.ireturn, 1) := by decide +kernel
theorem dX6_strengthsAsSeen_0 : decode cX6_strengthsAsSeen 0 = .ok (.iconst 0, 1) := by decide +kernel
theorem dX6_strengthsAsSeen_1 : decode cX6_strengthsAsSeen 1 = .ok (.istore_n 2, 1) := by decide +kernel
theorem dX6_strengthsAsSeen_2 : decode cX6_strengthsAsSeen 2 = .ok (.iconst 0, 1) := by decide +kernel
theorem dX6_strengthsAsSeen_3 : decode cX6_strengthsAsSeen 3 = .ok (.istore_n 3, 1) := by decide +kernel
theorem dX6_strengthsAsSeen_4 : decode cX6_strengthsAsSeen 4 = .ok (.iload_n 3, 1) := by decide +kernel
theorem dX6_strengthsAsSeen_5 : decode cX6_strengthsAsSeen 5 = .ok (.bipush 20, 2) := by decide +kernel
theorem dX6_strengthsAsSeen_7 : decode cX6_strengthsAsSeen 7 = .ok (.if_icmp .gt 35, 3) := by decide +kernel
theorem dX6_strengthsAsSeen_10 : decode cX6_strengthsAsSeen 10 = .ok (.aload_n 0, 1) := by decide +kernel
theorem dX6_strengthsAsSeen_11 : decode cX6_strengthsAsSeen 11 = .ok (.iload_n 1, 1) := by decide +kernel
theorem dX6_strengthsAsSeen_12 : decode cX6_strengthsAsSeen 12 = .ok (.iload_n 3, 1) := by decide +kernel
theorem dX6_strengthsAsSeen_13 : decode cX6_strengthsAsSeen 13 = .ok (.invokevirtual 214, 3) := by decide +kernel
theorem dX6_strengthsAsSeen_16 : decode cX6_strengthsAsSeen 16 = .ok (.aload_n 0, 1) := by decide +kernel
theorem dX6_strengthsAsSeen_17 : decode cX6_strengthsAsSeen 17 = .ok (.getfield 48, 3) := by decide +kernel
theorem dX6_strengthsAsSeen_20 : decode cX6_strengthsAsSeen 20 = .ok (.aload_n 0, 1) := by decide +kernel
theorem dX6_strengthsAsSeen_21 : decode cX6_strengthsAsSeen 21 = .ok (.getfield 28, 3) := by decide +kernel
theorem dX6_strengthsAsSeen_24 : decode cX6_strengthsAsSeen 24 = .ok (.invokevirtual 255, 3) := by decide +kernel
theorem dX6_strengthsAsSeen_27 : decode cX6_strengthsAsSeen 27 = .ok (.ifCond .eq 9, 3) := by decide +kernel
theorem dX6_strengthsAsSeen_30 : decode cX6_strengthsAsSeen 30 = .ok (.iload_n 2, 1) := by decide +kernel
theorem dX6_strengthsAsSeen_31 : decode cX6_strengthsAsSeen 31 = .ok (.iconst 1, 1) := by decide +kernel
theorem dX6_strengthsAsSeen_32 : decode cX6_strengthsAsSeen 32 = .ok (.iload_n 3, 1) := by decide +kernel
theorem dX6_strengthsAsSeen_33 : decode cX6_strengthsAsSeen 33 = .ok (.ishl, 1) := by decide +kernel
theorem dX6_strengthsAsSeen_34 : decode cX6_strengthsAsSeen 34 = .ok (.ior, 1) := by decide +kernel
theorem dX6_strengthsAsSeen_35 : decode cX6_strengthsAsSeen 35 = .ok (.istore_n 2, 1) := by decide +kernel
theorem dX6_strengthsAsSeen_36 : decode cX6_strengthsAsSeen 36 = .ok (.iinc 3 1, 3) := by decide +kernel
theorem dX6_strengthsAsSeen_39 : decode cX6_strengthsAsSeen 39 = .ok (.goto (-35), 3) := by decide +kernel
theorem dX6_strengthsAsSeen_42 : decode cX6_strengthsAsSeen 42 = .ok (.iload_n 2, 1) := by decide +kernel
theorem dX6_strengthsAsSeen_43 : decode cX6_strengthsAsSeen 43 = .ok (.ireturn, 1) := by decide +kernel
theorem dX6_ask_0 : decode cX6_ask 0 = .ok (.aload_n 0, 1) := by decide +kernel
theorem dX6_ask_1 : decode cX6_ask 1 = .ok (.getfield 24, 3) := by decide +kernel
theorem dX6_ask_4 : decode cX6_ask 4 = .ok (.iload_n 1, 1) := by decide +kernel
theorem dX6_ask_5 : decode cX6_ask 5 = .ok (.invokevirtual 120, 3) := by decide +kernel
theorem dX6_ask_8 : decode cX6_ask 8 = .ok (.ifCond .eq 11, 3) := by decide +kernel
theorem dX6_ask_11 : decode cX6_ask 11 = .ok (.iload_n 2, 1) := by decide +kernel
theorem dX6_ask_12 : decode cX6_ask 12 = .ok (.iconst 1, 1) := by decide +kernel
theorem dX6_ask_13 : decode cX6_ask 13 = .ok (.invokestatic 70, 3) := by decide +kernel
theorem dX6_ask_16 : decode cX6_ask 16 = .ok (.ifCond .ne 5, 3) := by decide +kernel
theorem dX6_ask_19 : decode cX6_ask 19 = .ok (.iconst (-1), 1) := by decide +kernel
theorem dX6_ask_20 : decode cX6_ask 20 = .ok (.ireturn, 1) := by decide +kernel
theorem dX6_ask_21 : decode cX6_ask 21 = .ok (.aload_n 0, 1) := by decide +kernel
theorem dX6_ask_22 : decode cX6_ask 22 = .ok (.iload_n 1, 1) := by decide +kernel
theorem dX6_ask_23 : decode cX6_ask 23 = .ok (.invokevirtual 259, 3) := by decide +kernel
theorem dX6_ask_26 : decode cX6_ask 26 = .ok (.istore_n 3, 1) := by decide +kernel
theorem dX6_ask_27 : decode cX6_ask 27 = .ok (.aload_n 0, 1) := by decide +kernel
theorem dX6_ask_28 : decode cX6_ask 28 = .ok (.iload_n 1, 1) := by decide +kernel
theorem dX6_ask_29 : decode cX6_ask 29 = .ok (.invokevirtual 262, 3) := by decide +kernel
theorem dX6_ask_32 : decode cX6_ask 32 = .ok (.aload_n 0, 1) := by decide +kernel
theorem dX6_ask_33 : decode cX6_ask 33 = .ok (.getfield 55, 3) := by decide +kernel
theorem dX6_ask_36 : decode cX6_ask 36 = .ok (.iload_n 3, 1) := by decide +kernel
theorem dX6_ask_37 : decode cX6_ask 37 = .ok (.invokestatic 238, 3) := by decide +kernel
theorem dX6_ask_40 : decode cX6_ask 40 = .ok (.invokevirtual 189, 3) := by decide +kernel
theorem dX6_ask_43 : decode cX6_ask 43 = .ok (.iconst 0, 1) := by decide +kernel
theorem dX6_ask_44 : decode cX6_ask 44 = .ok (.istore 4, 2) := by decide +kernel
theorem dX6_ask_46 : decode cX6_ask 46 = .ok (.iload 4, 2) := by decide +kernel
theorem dX6_ask_48 : decode cX6_ask 48 = .ok (.bipush 21, 2) := by decide +kernel
theorem dX6_ask_50 : decode cX6_ask 50 = .ok (.if_icmp .ge 25, 3) := by decide +kernel
theorem dX6_ask_53 : decode cX6_ask 53 = .ok (.aload_n 0, 1) := by decide +kernel
theorem dX6_ask_54 : decode cX6_ask 54 = .ok (.getfield 55, 3) := by decide +kernel
theorem dX6_ask_57 : decode cX6_ask 57 = .ok (.iload 4, 2) := by decide +kernel
theorem dX6_ask_59 : decode cX6_ask 59 = .ok (.aload_n 0, 1) := by decide +kernel
theorem dX6_ask_60 : decode cX6_ask 60 = .ok (.iload_n 3, 1) := by decide +kernel
theorem dX6_ask_61 : decode cX6_ask 61 = .ok (.iload 4, 2) := by decide +kernel
theorem dX6_ask_63 : decode cX6_ask 63 = .ok (.invokevirtual 265, 3) := by decide +kernel
theorem dX6_ask_66 : decode cX6_ask 66 = .ok (.invokevirtual 198, 3) := by decide +kernel
theorem dX6_ask_69 : decode cX6_ask 69 = .ok (.iinc 4 1, 3) := by decide +kernel
theorem dX6_ask_72 : decode cX6_ask 72 = .ok (.goto (-26), 3) := by decide +kernel
theorem dX6_ask_75 : decode cX6_ask 75 = .ok (.aload_n 0, 1) := by decide +kernel
theorem dX6_ask_76 : decode cX6_ask 76 = .ok (.getfield 55, 3) := by decide +kernel
theorem dX6_ask_79 : decode cX6_ask 79 = .ok (.iload_n 2, 1) := by decide +kernel
theorem dX6_ask_80 : decode cX6_ask 80 = .ok (.invokevirtual 208, 3) := by decide +kernel
theorem dX6_ask_83 : decode cX6_ask 83 = .ok (.ireturn, 1) := by decide +kernel
theorem dX6_noteOutcomes_0 : decode cX6_noteOutcomes 0 = .ok (.iconst 0, 1) := by decide +kernel
theorem dX6_noteOutcomes_1 : decode cX6_noteOutcomes 1 = .ok (.istore_n 2, 1) := by decide +kernel
theorem dX6_noteOutcomes_2 : decode cX6_noteOutcomes 2 = .ok (.iload_n 2, 1) := by decide +kernel
theorem dX6_noteOutcomes_3 : decode cX6_noteOutcomes 3 = .ok (.bipush 20, 2) := by decide +kernel
theorem dX6_noteOutcomes_5 : decode cX6_noteOutcomes 5 = .ok (.if_icmp .gt 48, 3) := by decide +kernel
theorem dX6_noteOutcomes_8 : decode cX6_noteOutcomes 8 = .ok (.aload_n 0, 1) := by decide +kernel
theorem dX6_noteOutcomes_9 : decode cX6_noteOutcomes 9 = .ok (.iload_n 1, 1) := by decide +kernel
theorem dX6_noteOutcomes_10 : decode cX6_noteOutcomes 10 = .ok (.iload_n 2, 1) := by decide +kernel
theorem dX6_noteOutcomes_11 : decode cX6_noteOutcomes 11 = .ok (.invokevirtual 214, 3) := by decide +kernel
theorem dX6_noteOutcomes_14 : decode cX6_noteOutcomes 14 = .ok (.iconst 0, 1) := by decide +kernel
theorem dX6_noteOutcomes_15 : decode cX6_noteOutcomes 15 = .ok (.istore_n 3, 1) := by decide +kernel
theorem dX6_noteOutcomes_16 : decode cX6_noteOutcomes 16 = .ok (.iload_n 3, 1) := by decide +kernel
theorem dX6_noteOutcomes_17 : decode cX6_noteOutcomes 17 = .ok (.bipush 21, 2) := by decide +kernel
theorem dX6_noteOutcomes_19 : decode cX6_noteOutcomes 19 = .ok (.if_icmp .ge 28, 3) := by decide +kernel
theorem dX6_noteOutcomes_22 : decode cX6_noteOutcomes 22 = .ok (.aload_n 0, 1) := by decide +kernel
theorem dX6_noteOutcomes_23 : decode cX6_noteOutcomes 23 = .ok (.getfield 63, 3) := by decide +kernel
theorem dX6_noteOutcomes_26 : decode cX6_noteOutcomes 26 = .ok (.iload_n 2, 1) := by decide +kernel
theorem dX6_noteOutcomes_27 : decode cX6_noteOutcomes 27 = .ok (.bipush 21, 2) := by decide +kernel
theorem dX6_noteOutcomes_29 : decode cX6_noteOutcomes 29 = .ok (.imul, 1) := by decide +kernel
theorem dX6_noteOutcomes_30 : decode cX6_noteOutcomes 30 = .ok (.iload_n 3, 1) := by decide +kernel
theorem dX6_noteOutcomes_31 : decode cX6_noteOutcomes 31 = .ok (.iadd, 1) := by decide +kernel
theorem dX6_noteOutcomes_32 : decode cX6_noteOutcomes 32 = .ok (.aload_n 0, 1) := by decide +kernel
theorem dX6_noteOutcomes_33 : decode cX6_noteOutcomes 33 = .ok (.getfield 28, 3) := by decide +kernel
theorem dX6_noteOutcomes_36 : decode cX6_noteOutcomes 36 = .ok (.iconst 0, 1) := by decide +kernel
theorem dX6_noteOutcomes_37 : decode cX6_noteOutcomes 37 = .ok (.invokevirtual 169, 3) := by decide +kernel
theorem dX6_noteOutcomes_40 : decode cX6_noteOutcomes 40 = .ok (.iastore, 1) := by decide +kernel
theorem dX6_noteOutcomes_41 : decode cX6_noteOutcomes 41 = .ok (.iinc 3 1, 3) := by decide +kernel
theorem dX6_noteOutcomes_44 : decode cX6_noteOutcomes 44 = .ok (.goto (-28), 3) := by decide +kernel
theorem dX6_noteOutcomes_47 : decode cX6_noteOutcomes 47 = .ok (.iinc 2 1, 3) := by decide +kernel
theorem dX6_noteOutcomes_50 : decode cX6_noteOutcomes 50 = .ok (.goto (-48), 3) := by decide +kernel
theorem dX6_noteOutcomes_53 : decode cX6_noteOutcomes 53 = .ok (.return_, 1) := by decide +kernel
theorem dX6_leftAtWorst_0 : decode cX6_leftAtWorst 0 = .ok (.iconst 0, 1) := by decide +kernel
theorem dX6_leftAtWorst_1 : decode cX6_leftAtWorst 1 = .ok (.istore_n 3, 1) := by decide +kernel
theorem dX6_leftAtWorst_2 : decode cX6_leftAtWorst 2 = .ok (.iload_n 3, 1) := by decide +kernel
theorem dX6_leftAtWorst_3 : decode cX6_leftAtWorst 3 = .ok (.iconst 5, 1) := by decide +kernel
theorem dX6_leftAtWorst_4 : decode cX6_leftAtWorst 4 = .ok (.if_icmp .gt 16, 3) := by decide +kernel
theorem dX6_leftAtWorst_7 : decode cX6_leftAtWorst 7 = .ok (.aload_n 0, 1) := by decide +kernel
theorem dX6_leftAtWorst_8 : decode cX6_leftAtWorst 8 = .ok (.getfield 66, 3) := by decide +kernel
theorem dX6_leftAtWorst_11 : decode cX6_leftAtWorst 11 = .ok (.iload_n 3, 1) := by decide +kernel
theorem dX6_leftAtWorst_12 : decode cX6_leftAtWorst 12 = .ok (.iconst 0, 1) := by decide +kernel
theorem dX6_leftAtWorst_13 : decode cX6_leftAtWorst 13 = .ok (.iastore, 1) := by decide +kernel
theorem dX6_leftAtWorst_14 : decode cX6_leftAtWorst 14 = .ok (.iinc 3 1, 3) := by decide +kernel
theorem dX6_leftAtWorst_17 : decode cX6_leftAtWorst 17 = .ok (.goto (-15), 3) := by decide +kernel
theorem dX6_leftAtWorst_20 : decode cX6_leftAtWorst 20 = .ok (.iconst 0, 1) := by decide +kernel
theorem dX6_leftAtWorst_21 : decode cX6_leftAtWorst 21 = .ok (.istore_n 3, 1) := by decide +kernel
theorem dX6_leftAtWorst_22 : decode cX6_leftAtWorst 22 = .ok (.iconst 0, 1) := by decide +kernel
theorem dX6_leftAtWorst_23 : decode cX6_leftAtWorst 23 = .ok (.istore 4, 2) := by decide +kernel
theorem dX6_leftAtWorst_25 : decode cX6_leftAtWorst 25 = .ok (.iload 4, 2) := by decide +kernel
theorem dX6_leftAtWorst_27 : decode cX6_leftAtWorst 27 = .ok (.bipush 20, 2) := by decide +kernel
theorem dX6_leftAtWorst_29 : decode cX6_leftAtWorst 29 = .ok (.if_icmp .gt 73, 3) := by decide +kernel
theorem dX6_leftAtWorst_32 : decode cX6_leftAtWorst 32 = .ok (.iload_n 1, 1) := by decide +kernel
theorem dX6_leftAtWorst_33 : decode cX6_leftAtWorst 33 = .ok (.iload 4, 2) := by decide +kernel
theorem dX6_leftAtWorst_35 : decode cX6_leftAtWorst 35 = .ok (.ishr, 1) := by decide +kernel
theorem dX6_leftAtWorst_36 : decode cX6_leftAtWorst 36 = .ok (.iconst 1, 1) := by decide +kernel
theorem dX6_leftAtWorst_37 : decode cX6_leftAtWorst 37 = .ok (.iand, 1) := by decide +kernel
theorem dX6_leftAtWorst_38 : decode cX6_leftAtWorst 38 = .ok (.iconst 1, 1) := by decide +kernel
theorem dX6_leftAtWorst_39 : decode cX6_leftAtWorst 39 = .ok (.if_icmp .ne 57, 3) := by decide +kernel
theorem dX6_leftAtWorst_42 : decode cX6_leftAtWorst 42 = .ok (.aload_n 0, 1) := by decide +kernel
theorem dX6_leftAtWorst_43 : decode cX6_leftAtWorst 43 = .ok (.getfield 63, 3) := by decide +kernel
theorem dX6_leftAtWorst_46 : decode cX6_leftAtWorst 46 = .ok (.iload 4, 2) := by decide +kernel
theorem dX6_leftAtWorst_48 : decode cX6_leftAtWorst 48 = .ok (.bipush 21, 2) := by decide +kernel
theorem dX6_leftAtWorst_50 : decode cX6_leftAtWorst 50 = .ok (.imul, 1) := by decide +kernel
theorem dX6_leftAtWorst_51 : decode cX6_leftAtWorst 51 = .ok (.iload_n 2, 1) := by decide +kernel
theorem dX6_leftAtWorst_52 : decode cX6_leftAtWorst 52 = .ok (.iadd, 1) := by decide +kernel
theorem dX6_leftAtWorst_53 : decode cX6_leftAtWorst 53 = .ok (.iaload, 1) := by decide +kernel
theorem dX6_leftAtWorst_54 : decode cX6_leftAtWorst 54 = .ok (.istore 5, 2) := by decide +kernel
theorem dX6_leftAtWorst_56 : decode cX6_leftAtWorst 56 = .ok (.iload 5, 2) := by decide +kernel
theorem dX6_leftAtWorst_58 : decode cX6_leftAtWorst 58 = .ok (.iconst 4, 1) := by decide +kernel
theorem dX6_leftAtWorst_59 : decode cX6_leftAtWorst 59 = .ok (.invokestatic 70, 3) := by decide +kernel
theorem dX6_leftAtWorst_62 : decode cX6_leftAtWorst 62 = .ok (.ifCond .eq 8, 3) := by decide +kernel
theorem dX6_leftAtWorst_65 : decode cX6_leftAtWorst 65 = .ok (.iload 5, 2) := by decide +kernel
theorem dX6_leftAtWorst_67 : decode cX6_leftAtWorst 67 = .ok (.goto 4, 3) := by decide +kernel
theorem dX6_leftAtWorst_70 : decode cX6_leftAtWorst 70 = .ok (.iconst 5, 1) := by decide +kernel
theorem dX6_leftAtWorst_71 : decode cX6_leftAtWorst 71 = .ok (.istore 6, 2) := by decide +kernel
theorem dX6_leftAtWorst_73 : decode cX6_leftAtWorst 73 = .ok (.aload_n 0, 1) := by decide +kernel
theorem dX6_leftAtWorst_74 : decode cX6_leftAtWorst 74 = .ok (.getfield 66, 3) := by decide +kernel
theorem dX6_leftAtWorst_77 : decode cX6_leftAtWorst 77 = .ok (.iload 6, 2) := by decide +kernel
theorem dX6_leftAtWorst_79 : decode cX6_leftAtWorst 79 = .ok (.dup2, 1) := by decide +kernel
theorem dX6_leftAtWorst_80 : decode cX6_leftAtWorst 80 = .ok (.iaload, 1) := by decide +kernel
theorem dX6_leftAtWorst_81 : decode cX6_leftAtWorst 81 = .ok (.iconst 1, 1) := by decide +kernel
theorem dX6_leftAtWorst_82 : decode cX6_leftAtWorst 82 = .ok (.iadd, 1) := by decide +kernel
theorem dX6_leftAtWorst_83 : decode cX6_leftAtWorst 83 = .ok (.iastore, 1) := by decide +kernel
theorem dX6_leftAtWorst_84 : decode cX6_leftAtWorst 84 = .ok (.iload_n 3, 1) := by decide +kernel
theorem dX6_leftAtWorst_85 : decode cX6_leftAtWorst 85 = .ok (.aload_n 0, 1) := by decide +kernel
theorem dX6_leftAtWorst_86 : decode cX6_leftAtWorst 86 = .ok (.getfield 66, 3) := by decide +kernel
theorem dX6_leftAtWorst_89 : decode cX6_leftAtWorst 89 = .ok (.iload 6, 2) := by decide +kernel
theorem dX6_leftAtWorst_91 : decode cX6_leftAtWorst 91 = .ok (.iaload, 1) := by decide +kernel
theorem dX6_leftAtWorst_92 : decode cX6_leftAtWorst 92 = .ok (.invokestatic 268, 3) := by decide +kernel
theorem dX6_leftAtWorst_95 : decode cX6_leftAtWorst 95 = .ok (.istore_n 3, 1) := by decide +kernel
theorem dX6_leftAtWorst_96 : decode cX6_leftAtWorst 96 = .ok (.iinc 4 1, 3) := by decide +kernel
theorem dX6_leftAtWorst_99 : decode cX6_leftAtWorst 99 = .ok (.goto (-74), 3) := by decide +kernel
theorem dX6_leftAtWorst_102 : decode cX6_leftAtWorst 102 = .ok (.iload_n 3, 1) := by decide +kernel
theorem dX6_leftAtWorst_103 : decode cX6_leftAtWorst 103 = .ok (.ireturn, 1) := by decide +kernel
theorem dX6_drift_0 : decode cX6_drift 0 = .ok (.iload_n 2, 1) := by decide +kernel
theorem dX6_drift_1 : decode cX6_drift 1 = .ok (.iconst 1, 1) := by decide +kernel
theorem dX6_drift_2 : decode cX6_drift 2 = .ok (.if_icmp .lt 17, 3) := by decide +kernel
theorem dX6_drift_5 : decode cX6_drift 5 = .ok (.iload_n 2, 1) := by decide +kernel
theorem dX6_drift_6 : decode cX6_drift 6 = .ok (.bipush 60, 2) := by decide +kernel
theorem dX6_drift_8 : decode cX6_drift 8 = .ok (.if_icmp .gt 11, 3) := by decide +kernel
theorem dX6_drift_11 : decode cX6_drift 11 = .ok (.iload_n 3, 1) := by decide +kernel
theorem dX6_drift_12 : decode cX6_drift 12 = .ok (.iconst 1, 1) := by decide +kernel
theorem dX6_drift_13 : decode cX6_drift 13 = .ok (.invokestatic 70, 3) := by decide +kernel
theorem dX6_drift_16 : decode cX6_drift 16 = .ok (.ifCond .ne 5, 3) := by decide +kernel
theorem dX6_drift_19 : decode cX6_drift 19 = .ok (.iconst (-1), 1) := by decide +kernel
theorem dX6_drift_20 : decode cX6_drift 20 = .ok (.ireturn, 1) := by decide +kernel
theorem dX6_drift_21 : decode cX6_drift 21 = .ok (.aload_n 0, 1) := by decide +kernel
theorem dX6_drift_22 : decode cX6_drift 22 = .ok (.getfield 24, 3) := by decide +kernel
theorem dX6_drift_25 : decode cX6_drift 25 = .ok (.getfield 101, 3) := by decide +kernel
theorem dX6_drift_28 : decode cX6_drift 28 = .ok (.istore 4, 2) := by decide +kernel
theorem dX6_drift_30 : decode cX6_drift 30 = .ok (.iload 4, 2) := by decide +kernel
theorem dX6_drift_32 : decode cX6_drift 32 = .ok (.iconst 2, 1) := by decide +kernel
theorem dX6_drift_33 : decode cX6_drift 33 = .ok (.if_icmp .ge 6, 3) := by decide +kernel
theorem dX6_drift_36 : decode cX6_drift 36 = .ok (.bipush (-2), 2) := by decide +kernel
theorem dX6_drift_38 : decode cX6_drift 38 = .ok (.ireturn, 1) := by decide +kernel
theorem dX6_drift_39 : decode cX6_drift 39 = .ok (.aload_n 0, 1) := by decide +kernel
theorem dX6_drift_40 : decode cX6_drift 40 = .ok (.getfield 28, 3) := by decide +kernel
theorem dX6_drift_43 : decode cX6_drift 43 = .ok (.aload_n 0, 1) := by decide +kernel
theorem dX6_drift_44 : decode cX6_drift 44 = .ok (.getfield 24, 3) := by decide +kernel
theorem dX6_drift_47 : decode cX6_drift 47 = .ok (.invokevirtual 94, 3) := by decide +kernel
theorem dX6_drift_50 : decode cX6_drift 50 = .ok (.iload_n 1, 1) := by decide +kernel
theorem dX6_drift_51 : decode cX6_drift 51 = .ok (.istore 5, 2) := by decide +kernel
theorem dX6_drift_53 : decode cX6_drift 53 = .ok (.iconst 0, 1) := by decide +kernel
theorem dX6_drift_54 : decode cX6_drift 54 = .ok (.istore 6, 2) := by decide +kernel
theorem dX6_drift_56 : decode cX6_drift 56 = .ok (.iconst 0, 1) := by decide +kernel
theorem dX6_drift_57 : decode cX6_drift 57 = .ok (.istore 7, 2) := by decide +kernel
theorem dX6_drift_59 : decode cX6_drift 59 = .ok (.iload 7, 2) := by decide +kernel
theorem dX6_drift_61 : decode cX6_drift 61 = .ok (.iload_n 2, 1) := by decide +kernel
theorem dX6_drift_62 : decode cX6_drift 62 = .ok (.if_icmp .ge 76, 3) := by decide +kernel
theorem dX6_drift_65 : decode cX6_drift 65 = .ok (.iload 5, 2) := by decide +kernel
theorem dX6_drift_67 : decode cX6_drift 67 = .ok (.ldc_w 270, 3) := by decide +kernel
theorem dX6_drift_70 : decode cX6_drift 70 = .ok (.imul, 1) := by decide +kernel
theorem dX6_drift_71 : decode cX6_drift 71 = .ok (.sipush 12345, 3) := by decide +kernel
theorem dX6_drift_74 : decode cX6_drift 74 = .ok (.iadd, 1) := by decide +kernel
theorem dX6_drift_75 : decode cX6_drift 75 = .ok (.istore 5, 2) := by decide +kernel
theorem dX6_drift_77 : decode cX6_drift 77 = .ok (.iload 5, 2) := by decide +kernel
theorem dX6_drift_79 : decode cX6_drift 79 = .ok (.bipush 16, 2) := by decide +kernel
theorem dX6_drift_81 : decode cX6_drift 81 = .ok (.iushr, 1) := by decide +kernel
theorem dX6_drift_82 : decode cX6_drift 82 = .ok (.sipush 32767, 3) := by decide +kernel
theorem dX6_drift_85 : decode cX6_drift 85 = .ok (.iand, 1) := by decide +kernel
theorem dX6_drift_86 : decode cX6_drift 86 = .ok (.istore 8, 2) := by decide +kernel
theorem dX6_drift_88 : decode cX6_drift 88 = .ok (.iload 8, 2) := by decide +kernel
theorem dX6_drift_90 : decode cX6_drift 90 = .ok (.iload 4, 2) := by decide +kernel
theorem dX6_drift_92 : decode cX6_drift 92 = .ok (.irem, 1) := by decide +kernel
theorem dX6_drift_93 : decode cX6_drift 93 = .ok (.istore 9, 2) := by decide +kernel
theorem dX6_drift_95 : decode cX6_drift 95 = .ok (.iload 9, 2) := by decide +kernel
theorem dX6_drift_97 : decode cX6_drift 97 = .ok (.iconst 1, 1) := by decide +kernel
theorem dX6_drift_98 : decode cX6_drift 98 = .ok (.iadd, 1) := by decide +kernel
theorem dX6_drift_99 : decode cX6_drift 99 = .ok (.iload 8, 2) := by decide +kernel
theorem dX6_drift_101 : decode cX6_drift 101 = .ok (.bipush 8, 2) := by decide +kernel
theorem dX6_drift_103 : decode cX6_drift 103 = .ok (.idiv, 1) := by decide +kernel
theorem dX6_drift_104 : decode cX6_drift 104 = .ok (.iload 4, 2) := by decide +kernel
theorem dX6_drift_106 : decode cX6_drift 106 = .ok (.iconst 1, 1) := by decide +kernel
theorem dX6_drift_107 : decode cX6_drift 107 = .ok (.isub, 1) := by decide +kernel
theorem dX6_drift_108 : decode cX6_drift 108 = .ok (.irem, 1) := by decide +kernel
theorem dX6_drift_109 : decode cX6_drift 109 = .ok (.iadd, 1) := by decide +kernel
theorem dX6_drift_110 : decode cX6_drift 110 = .ok (.iload 4, 2) := by decide +kernel
theorem dX6_drift_112 : decode cX6_drift 112 = .ok (.irem, 1) := by decide +kernel
theorem dX6_drift_113 : decode cX6_drift 113 = .ok (.istore 10, 2) := by decide +kernel
theorem dX6_drift_115 : decode cX6_drift 115 = .ok (.aload_n 0, 1) := by decide +kernel
theorem dX6_drift_116 : decode cX6_drift 116 = .ok (.getfield 28, 3) := by decide +kernel
theorem dX6_drift_119 : decode cX6_drift 119 = .ok (.iload 9, 2) := by decide +kernel
theorem dX6_drift_121 : decode cX6_drift 121 = .ok (.iload 10, 2) := by decide +kernel
theorem dX6_drift_123 : decode cX6_drift 123 = .ok (.invokevirtual 271, 3) := by decide +kernel
theorem dX6_drift_126 : decode cX6_drift 126 = .ok (.ifCond .lt 6, 3) := by decide +kernel
theorem dX6_drift_129 : decode cX6_drift 129 = .ok (.iinc 6 1, 3) := by decide +kernel
theorem dX6_drift_132 : decode cX6_drift 132 = .ok (.iinc 7 1, 3) := by decide +kernel
theorem dX6_drift_135 : decode cX6_drift 135 = .ok (.goto (-76), 3) := by decide +kernel
theorem dX6_drift_138 : decode cX6_drift 138 = .ok (.iload_n 3, 1) := by decide +kernel
theorem dX6_drift_139 : decode cX6_drift 139 = .ok (.ifCond .ne 13, 3) := by decide +kernel
theorem dX6_drift_142 : decode cX6_drift 142 = .ok (.aload_n 0, 1) := by decide +kernel
theorem dX6_drift_143 : decode cX6_drift 143 = .ok (.getfield 28, 3) := by decide +kernel
theorem dX6_drift_146 : decode cX6_drift 146 = .ok (.invokevirtual 117, 3) := by decide +kernel
theorem dX6_drift_149 : decode cX6_drift 149 = .ok (.goto 5, 3) := by decide +kernel
theorem dX6_drift_152 : decode cX6_drift 152 = .ok (.iload 6, 2) := by decide +kernel
theorem dX6_drift_154 : decode cX6_drift 154 = .ok (.ireturn, 1) := by decide +kernel
theorem dX6_keep_0 : decode cX6_keep 0 = .ok (.iload_n 1, 1) := by decide +kernel
theorem dX6_keep_1 : decode cX6_keep 1 = .ok (.iconst 1, 1) := by decide +kernel
theorem dX6_keep_2 : decode cX6_keep 2 = .ok (.invokestatic 70, 3) := by decide +kernel
theorem dX6_keep_5 : decode cX6_keep 5 = .ok (.ifCond .ne 5, 3) := by decide +kernel
theorem dX6_keep_8 : decode cX6_keep 8 = .ok (.iconst (-1), 1) := by decide +kernel
theorem dX6_keep_9 : decode cX6_keep 9 = .ok (.ireturn, 1) := by decide +kernel
theorem dX6_keep_10 : decode cX6_keep 10 = .ok (.aload_n 0, 1) := by decide +kernel
theorem dX6_keep_11 : decode cX6_keep 11 = .ok (.getfield 35, 3) := by decide +kernel
theorem dX6_keep_14 : decode cX6_keep 14 = .ok (.iload_n 1, 1) := by decide +kernel
theorem dX6_keep_15 : decode cX6_keep 15 = .ok (.baload, 1) := by decide +kernel
theorem dX6_keep_16 : decode cX6_keep 16 = .ok (.istore_n 2, 1) := by decide +kernel
theorem dX6_keep_17 : decode cX6_keep 17 = .ok (.aload_n 0, 1) := by decide +kernel
theorem dX6_keep_18 : decode cX6_keep 18 = .ok (.getfield 31, 3) := by decide +kernel
theorem dX6_keep_21 : decode cX6_keep 21 = .ok (.iload_n 1, 1) := by decide +kernel
theorem dX6_keep_22 : decode cX6_keep 22 = .ok (.aaload, 1) := by decide +kernel
theorem dX6_keep_23 : decode cX6_keep 23 = .ok (.aload_n 0, 1) := by decide +kernel
theorem dX6_keep_24 : decode cX6_keep 24 = .ok (.getfield 24, 3) := by decide +kernel
theorem dX6_keep_27 : decode cX6_keep 27 = .ok (.invokevirtual 94, 3) := by decide +kernel
theorem dX6_keep_30 : decode cX6_keep 30 = .ok (.aload_n 0, 1) := by decide +kernel
theorem dX6_keep_31 : decode cX6_keep 31 = .ok (.getfield 35, 3) := by decide +kernel
theorem dX6_keep_34 : decode cX6_keep 34 = .ok (.iload_n 1, 1) := by decide +kernel
theorem dX6_keep_35 : decode cX6_keep 35 = .ok (.iconst 1, 1) := by decide +kernel
theorem dX6_keep_36 : decode cX6_keep 36 = .ok (.bastore, 1) := by decide +kernel
theorem dX6_keep_37 : decode cX6_keep 37 = .ok (.iload_n 2, 1) := by decide +kernel
theorem dX6_keep_38 : decode cX6_keep 38 = .ok (.ifCond .eq 7, 3) := by decide +kernel
theorem dX6_keep_41 : decode cX6_keep 41 = .ok (.iconst 1, 1) := by decide +kernel
theorem dX6_keep_42 : decode cX6_keep 42 = .ok (.goto 4, 3) := by decide +kernel
theorem dX6_keep_45 : decode cX6_keep 45 = .ok (.iconst 0, 1) := by decide +kernel
theorem dX6_keep_46 : decode cX6_keep 46 = .ok (.ireturn, 1) := by decide +kernel
theorem dX6_back_0 : decode cX6_back 0 = .ok (.iload_n 1, 1) := by decide +kernel
theorem dX6_back_1 : decode cX6_back 1 = .ok (.iconst 1, 1) := by decide +kernel
theorem dX6_back_2 : decode cX6_back 2 = .ok (.invokestatic 70, 3) := by decide +kernel
theorem dX6_back_5 : decode cX6_back 5 = .ok (.ifCond .ne 5, 3) := by decide +kernel
theorem dX6_back_8 : decode cX6_back 8 = .ok (.iconst (-1), 1) := by decide +kernel
theorem dX6_back_9 : decode cX6_back 9 = .ok (.ireturn, 1) := by decide +kernel
theorem dX6_back_10 : decode cX6_back 10 = .ok (.aload_n 0, 1) := by decide +kernel
theorem dX6_back_11 : decode cX6_back 11 = .ok (.getfield 35, 3) := by decide +kernel
theorem dX6_back_14 : decode cX6_back 14 = .ok (.iload_n 1, 1) := by decide +kernel
theorem dX6_back_15 : decode cX6_back 15 = .ok (.baload, 1) := by decide +kernel
theorem dX6_back_16 : decode cX6_back 16 = .ok (.ifCond .ne 6, 3) := by decide +kernel
theorem dX6_back_19 : decode cX6_back 19 = .ok (.bipush (-2), 2) := by decide +kernel
theorem dX6_back_21 : decode cX6_back 21 = .ok (.ireturn, 1) := by decide +kernel
theorem dX6_back_22 : decode cX6_back 22 = .ok (.aload_n 0, 1) := by decide +kernel
theorem dX6_back_23 : decode cX6_back 23 = .ok (.getfield 24, 3) := by decide +kernel
theorem dX6_back_26 : decode cX6_back 26 = .ok (.aload_n 0, 1) := by decide +kernel
theorem dX6_back_27 : decode cX6_back 27 = .ok (.getfield 31, 3) := by decide +kernel
theorem dX6_back_30 : decode cX6_back 30 = .ok (.iload_n 1, 1) := by decide +kernel
theorem dX6_back_31 : decode cX6_back 31 = .ok (.aaload, 1) := by decide +kernel
theorem dX6_back_32 : decode cX6_back 32 = .ok (.invokevirtual 94, 3) := by decide +kernel
theorem dX6_back_35 : decode cX6_back 35 = .ok (.aload_n 0, 1) := by decide +kernel
theorem dX6_back_36 : decode cX6_back 36 = .ok (.getfield 24, 3) := by decide +kernel
theorem dX6_back_39 : decode cX6_back 39 = .ok (.getfield 107, 3) := by decide +kernel
theorem dX6_back_42 : decode cX6_back 42 = .ok (.ireturn, 1) := by decide +kernel
theorem dX6_sheet_0 : decode cX6_sheet 0 = .ok (.iload_n 1, 1) := by decide +kernel
theorem dX6_sheet_1 : decode cX6_sheet 1 = .ok (.iconst 3, 1) := by decide +kernel
theorem dX6_sheet_2 : decode cX6_sheet 2 = .ok (.invokestatic 70, 3) := by decide +kernel
theorem dX6_sheet_5 : decode cX6_sheet 5 = .ok (.ifCond .eq 17, 3) := by decide +kernel
theorem dX6_sheet_8 : decode cX6_sheet 8 = .ok (.iload_n 2, 1) := by decide +kernel
theorem dX6_sheet_9 : decode cX6_sheet 9 = .ok (.iconst 2, 1) := by decide +kernel
theorem dX6_sheet_10 : decode cX6_sheet 10 = .ok (.invokestatic 70, 3) := by decide +kernel
theorem dX6_sheet_13 : decode cX6_sheet 13 = .ok (.ifCond .eq 9, 3) := by decide +kernel
theorem dX6_sheet_16 : decode cX6_sheet 16 = .ok (.iload_n 3, 1) := by decide +kernel
theorem dX6_sheet_17 : decode cX6_sheet 17 = .ok (.bipush 40, 2) := by decide +kernel
theorem dX6_sheet_19 : decode cX6_sheet 19 = .ok (.if_icmp .le 5, 3) := by decide +kernel
theorem dX6_sheet_22 : decode cX6_sheet 22 = .ok (.iconst (-1), 1) := by decide +kernel
theorem dX6_sheet_23 : decode cX6_sheet 23 = .ok (.ireturn, 1) := by decide +kernel
theorem dX6_sheet_24 : decode cX6_sheet 24 = .ok (.iload_n 3, 1) := by decide +kernel
theorem dX6_sheet_25 : decode cX6_sheet 25 = .ok (.ifCond .ge 6, 3) := by decide +kernel
theorem dX6_sheet_28 : decode cX6_sheet 28 = .ok (.bipush (-14), 2) := by decide +kernel
theorem dX6_sheet_30 : decode cX6_sheet 30 = .ok (.ireturn, 1) := by decide +kernel
theorem dX6_sheet_31 : decode cX6_sheet 31 = .ok (.aload_n 0, 1) := by decide +kernel
theorem dX6_sheet_32 : decode cX6_sheet 32 = .ok (.getfield 41, 3) := by decide +kernel
theorem dX6_sheet_35 : decode cX6_sheet 35 = .ok (.iload_n 1, 1) := by decide +kernel
theorem dX6_sheet_36 : decode cX6_sheet 36 = .ok (.aaload, 1) := by decide +kernel
theorem dX6_sheet_37 : decode cX6_sheet 37 = .ok (.iload_n 2, 1) := by decide +kernel
theorem dX6_sheet_38 : decode cX6_sheet 38 = .ok (.iload_n 3, 1) := by decide +kernel
theorem dX6_sheet_39 : decode cX6_sheet 39 = .ok (.invokevirtual 274, 3) := by decide +kernel
theorem dX6_sheet_42 : decode cX6_sheet 42 = .ok (.iconst 1, 1) := by decide +kernel
theorem dX6_sheet_43 : decode cX6_sheet 43 = .ok (.ireturn, 1) := by decide +kernel
theorem dX6_lay_0 : decode cX6_lay 0 = .ok (.iload_n 1, 1) := by decide +kernel
theorem dX6_lay_1 : decode cX6_lay 1 = .ok (.iconst 3, 1) := by decide +kernel
theorem dX6_lay_2 : decode cX6_lay 2 = .ok (.invokestatic 70, 3) := by decide +kernel
theorem dX6_lay_5 : decode cX6_lay 5 = .ok (.ifCond .ne 5, 3) := by decide +kernel
theorem dX6_lay_8 : decode cX6_lay 8 = .ok (.iconst (-1), 1) := by decide +kernel
theorem dX6_lay_9 : decode cX6_lay 9 = .ok (.ireturn, 1) := by decide +kernel
theorem dX6_lay_10 : decode cX6_lay 10 = .ok (.aload_n 0, 1) := by decide +kernel
theorem dX6_lay_11 : decode cX6_lay 11 = .ok (.getfield 41, 3) := by decide +kernel
theorem dX6_lay_14 : decode cX6_lay 14 = .ok (.iload_n 1, 1) := by decide +kernel
theorem dX6_lay_15 : decode cX6_lay 15 = .ok (.aaload, 1) := by decide +kernel
theorem dX6_lay_16 : decode cX6_lay 16 = .ok (.astore 4, 2) := by decide +kernel
theorem dX6_lay_18 : decode cX6_lay 18 = .ok (.aload 4, 2) := by decide +kernel
theorem dX6_lay_20 : decode cX6_lay 20 = .ok (.invokevirtual 277, 3) := by decide +kernel
theorem dX6_lay_23 : decode cX6_lay 23 = .ok (.ifCond .ne 6, 3) := by decide +kernel
theorem dX6_lay_26 : decode cX6_lay 26 = .ok (.bipush (-11), 2) := by decide +kernel
theorem dX6_lay_28 : decode cX6_lay 28 = .ok (.ireturn, 1) := by decide +kernel
theorem dX6_lay_29 : decode cX6_lay 29 = .ok (.aload 4, 2) := by decide +kernel
theorem dX6_lay_31 : decode cX6_lay 31 = .ok (.iload_n 2, 1) := by decide +kernel
theorem dX6_lay_32 : decode cX6_lay 32 = .ok (.invokevirtual 281, 3) := by decide +kernel
theorem dX6_lay_35 : decode cX6_lay 35 = .ok (.ifCond .ne 6, 3) := by decide +kernel
theorem dX6_lay_38 : decode cX6_lay 38 = .ok (.bipush (-12), 2) := by decide +kernel
theorem dX6_lay_40 : decode cX6_lay 40 = .ok (.ireturn, 1) := by decide +kernel
theorem dX6_lay_41 : decode cX6_lay 41 = .ok (.aload 4, 2) := by decide +kernel
theorem dX6_lay_43 : decode cX6_lay 43 = .ok (.iload_n 2, 1) := by decide +kernel
theorem dX6_lay_44 : decode cX6_lay 44 = .ok (.iload_n 3, 1) := by decide +kernel
theorem dX6_lay_45 : decode cX6_lay 45 = .ok (.invokevirtual 284, 3) := by decide +kernel
theorem dX6_lay_48 : decode cX6_lay 48 = .ok (.iconst 1, 1) := by decide +kernel
theorem dX6_lay_49 : decode cX6_lay 49 = .ok (.ireturn, 1) := by decide +kernel
theorem dX6_read_0 : decode cX6_read 0 = .ok (.iload_n 1, 1) := by decide +kernel
theorem dX6_read_1 : decode cX6_read 1 = .ok (.iconst 3, 1) := by decide +kernel
theorem dX6_read_2 : decode cX6_read 2 = .ok (.invokestatic 70, 3) := by decide +kernel
theorem dX6_read_5 : decode cX6_read 5 = .ok (.ifCond .eq 21, 3) := by decide +kernel
theorem dX6_read_8 : decode cX6_read 8 = .ok (.iload_n 2, 1) := by decide +kernel
theorem dX6_read_9 : decode cX6_read 9 = .ok (.iconst 2, 1) := by decide +kernel
theorem dX6_read_10 : decode cX6_read 10 = .ok (.invokestatic 70, 3) := by decide +kernel
theorem dX6_read_13 : decode cX6_read 13 = .ok (.ifCond .eq 13, 3) := by decide +kernel
theorem dX6_read_16 : decode cX6_read 16 = .ok (.iload 4, 2) := by decide +kernel
theorem dX6_read_18 : decode cX6_read 18 = .ok (.bipush 20, 2) := by decide +kernel
theorem dX6_read_20 : decode cX6_read 20 = .ok (.invokestatic 70, 3) := by decide +kernel
theorem dX6_read_23 : decode cX6_read 23 = .ok (.ifCond .ne 5, 3) := by decide +kernel
theorem dX6_read_26 : decode cX6_read 26 = .ok (.iconst (-1), 1) := by decide +kernel
theorem dX6_read_27 : decode cX6_read 27 = .ok (.ireturn, 1) := by decide +kernel
theorem dX6_read_28 : decode cX6_read 28 = .ok (.aload_n 0, 1) := by decide +kernel
theorem dX6_read_29 : decode cX6_read 29 = .ok (.getfield 24, 3) := by decide +kernel
theorem dX6_read_32 : decode cX6_read 32 = .ok (.getfield 104, 3) := by decide +kernel
theorem dX6_read_35 : decode cX6_read 35 = .ok (.istore 5, 2) := by decide +kernel
theorem dX6_read_37 : decode cX6_read 37 = .ok (.iconst 0, 1) := by decide +kernel
theorem dX6_read_38 : decode cX6_read 38 = .ok (.istore 6, 2) := by decide +kernel
theorem dX6_read_40 : decode cX6_read 40 = .ok (.iload 6, 2) := by decide +kernel
theorem dX6_read_42 : decode cX6_read 42 = .ok (.iload 4, 2) := by decide +kernel
theorem dX6_read_44 : decode cX6_read 44 = .ok (.if_icmp .ge 96, 3) := by decide +kernel
theorem dX6_read_47 : decode cX6_read 47 = .ok (.iload_n 3, 1) := by decide +kernel
theorem dX6_read_48 : decode cX6_read 48 = .ok (.iconst 2, 1) := by decide +kernel
theorem dX6_read_49 : decode cX6_read 49 = .ok (.iload 6, 2) := by decide +kernel
theorem dX6_read_51 : decode cX6_read 51 = .ok (.imul, 1) := by decide +kernel
theorem dX6_read_52 : decode cX6_read 52 = .ok (.iadd, 1) := by decide +kernel
theorem dX6_read_53 : decode cX6_read 53 = .ok (.istore 7, 2) := by decide +kernel
theorem dX6_read_55 : decode cX6_read 55 = .ok (.aload_n 0, 1) := by decide +kernel
theorem dX6_read_56 : decode cX6_read 56 = .ok (.getfield 41, 3) := by decide +kernel
theorem dX6_read_59 : decode cX6_read 59 = .ok (.iload_n 1, 1) := by decide +kernel
theorem dX6_read_60 : decode cX6_read 60 = .ok (.aaload, 1) := by decide +kernel
theorem dX6_read_61 : decode cX6_read 61 = .ok (.iload_n 2, 1) := by decide +kernel
theorem dX6_read_62 : decode cX6_read 62 = .ok (.iload 7, 2) := by decide +kernel
theorem dX6_read_64 : decode cX6_read 64 = .ok (.invokevirtual 287, 3) := by decide +kernel
theorem dX6_read_67 : decode cX6_read 67 = .ok (.istore 8, 2) := by decide +kernel
theorem dX6_read_69 : decode cX6_read 69 = .ok (.iload 8, 2) := by decide +kernel
theorem dX6_read_71 : decode cX6_read 71 = .ok (.ifCond .eq 12, 3) := by decide +kernel
theorem dX6_read_74 : decode cX6_read 74 = .ok (.aload_n 0, 1) := by decide +kernel
theorem dX6_read_75 : decode cX6_read 75 = .ok (.iload 8, 2) := by decide +kernel
theorem dX6_read_77 : decode cX6_read 77 = .ok (.putfield 290, 3) := by decide +kernel
theorem dX6_read_80 : decode cX6_read 80 = .ok (.iload 6, 2) := by decide +kernel
theorem dX6_read_82 : decode cX6_read 82 = .ok (.ireturn, 1) := by decide +kernel
theorem dX6_read_83 : decode cX6_read 83 = .ok (.aload_n 0, 1) := by decide +kernel
theorem dX6_read_84 : decode cX6_read 84 = .ok (.getfield 24, 3) := by decide +kernel
theorem dX6_read_87 : decode cX6_read 87 = .ok (.aload_n 0, 1) := by decide +kernel
theorem dX6_read_88 : decode cX6_read 88 = .ok (.getfield 41, 3) := by decide +kernel
theorem dX6_read_91 : decode cX6_read 91 = .ok (.iload_n 1, 1) := by decide +kernel
theorem dX6_read_92 : decode cX6_read 92 = .ok (.aaload, 1) := by decide +kernel
theorem dX6_read_93 : decode cX6_read 93 = .ok (.getfield 293, 3) := by decide +kernel
theorem dX6_read_96 : decode cX6_read 96 = .ok (.iload 7, 2) := by decide +kernel
theorem dX6_read_98 : decode cX6_read 98 = .ok (.iaload, 1) := by decide +kernel
theorem dX6_read_99 : decode cX6_read 99 = .ok (.aload_n 0, 1) := by decide +kernel
theorem dX6_read_100 : decode cX6_read 100 = .ok (.getfield 41, 3) := by decide +kernel
theorem dX6_read_103 : decode cX6_read 103 = .ok (.iload_n 1, 1) := by decide +kernel
theorem dX6_read_104 : decode cX6_read 104 = .ok (.aaload, 1) := by decide +kernel
theorem dX6_read_105 : decode cX6_read 105 = .ok (.getfield 293, 3) := by decide +kernel
theorem dX6_read_108 : decode cX6_read 108 = .ok (.iload 7, 2) := by decide +kernel
theorem dX6_read_110 : decode cX6_read 110 = .ok (.iconst 1, 1) := by decide +kernel
theorem dX6_read_111 : decode cX6_read 111 = .ok (.iadd, 1) := by decide +kernel
theorem dX6_read_112 : decode cX6_read 112 = .ok (.iaload, 1) := by decide +kernel
theorem dX6_read_113 : decode cX6_read 113 = .ok (.invokevirtual 163, 3) := by decide +kernel
theorem dX6_read_116 : decode cX6_read 116 = .ok (.ifCond .ge 18, 3) := by decide +kernel
theorem dX6_read_119 : decode cX6_read 119 = .ok (.aload_n 0, 1) := by decide +kernel
theorem dX6_read_120 : decode cX6_read 120 = .ok (.getfield 24, 3) := by decide +kernel
theorem dX6_read_123 : decode cX6_read 123 = .ok (.iload 5, 2) := by decide +kernel
theorem dX6_read_125 : decode cX6_read 125 = .ok (.putfield 104, 3) := by decide +kernel
theorem dX6_read_128 : decode cX6_read 128 = .ok (.bipush (-20), 2) := by decide +kernel
theorem dX6_read_130 : decode cX6_read 130 = .ok (.iload 6, 2) := by decide +kernel
theorem dX6_read_132 : decode cX6_read 132 = .ok (.isub, 1) := by decide +kernel
theorem dX6_read_133 : decode cX6_read 133 = .ok (.ireturn, 1) := by decide +kernel
theorem dX6_read_134 : decode cX6_read 134 = .ok (.iinc 6 1, 3) := by decide +kernel
theorem dX6_read_137 : decode cX6_read 137 = .ok (.goto (-97), 3) := by decide +kernel
theorem dX6_read_140 : decode cX6_read 140 = .ok (.aload_n 0, 1) := by decide +kernel
theorem dX6_read_141 : decode cX6_read 141 = .ok (.iconst 0, 1) := by decide +kernel
theorem dX6_read_142 : decode cX6_read 142 = .ok (.putfield 290, 3) := by decide +kernel
theorem dX6_read_145 : decode cX6_read 145 = .ok (.iload 4, 2) := by decide +kernel
theorem dX6_read_147 : decode cX6_read 147 = .ok (.ireturn, 1) := by decide +kernel
theorem dX6_torn_0 : decode cX6_torn 0 = .ok (.aload_n 0, 1) := by decide +kernel
theorem dX6_torn_1 : decode cX6_torn 1 = .ok (.getfield 290, 3) := by decide +kernel
theorem dX6_torn_4 : decode cX6_torn 4 = .ok (.ireturn, 1) := by decide +kernel
theorem dX6_count_0 : decode cX6_count 0 = .ok (.iload_n 1, 1) := by decide +kernel
theorem dX6_count_1 : decode cX6_count 1 = .ok (.tableswitch 142 0 5 #[39, 47, 77, 85, 112, 127], 39) := by decide +kernel
theorem dX6_count_40 : decode cX6_count 40 = .ok (.aload_n 0, 1) := by decide +kernel
theorem dX6_count_41 : decode cX6_count 41 = .ok (.getfield 48, 3) := by decide +kernel
theorem dX6_count_44 : decode cX6_count 44 = .ok (.getfield 98, 3) := by decide +kernel
theorem dX6_count_47 : decode cX6_count 47 = .ok (.ireturn, 1) := by decide +kernel
theorem dX6_count_48 : decode cX6_count 48 = .ok (.aload_n 0, 1) := by decide +kernel
theorem dX6_count_49 : decode cX6_count 49 = .ok (.getfield 35, 3) := by decide +kernel
theorem dX6_count_52 : decode cX6_count 52 = .ok (.iconst 0, 1) := by decide +kernel
theorem dX6_count_53 : decode cX6_count 53 = .ok (.baload, 1) := by decide +kernel
theorem dX6_count_54 : decode cX6_count 54 = .ok (.ifCond .eq 7, 3) := by decide +kernel
theorem dX6_count_57 : decode cX6_count 57 = .ok (.iconst 1, 1) := by decide +kernel
theorem dX6_count_58 : decode cX6_count 58 = .ok (.goto 4, 3) := by decide +kernel
theorem dX6_count_61 : decode cX6_count 61 = .ok (.iconst 0, 1) := by decide +kernel
theorem dX6_count_62 : decode cX6_count 62 = .ok (.aload_n 0, 1) := by decide +kernel
theorem dX6_count_63 : decode cX6_count 63 = .ok (.getfield 35, 3) := by decide +kernel
theorem dX6_count_66 : decode cX6_count 66 = .ok (.iconst 1, 1) := by decide +kernel
theorem dX6_count_67 : decode cX6_count 67 = .ok (.baload, 1) := by decide +kernel
theorem dX6_count_68 : decode cX6_count 68 = .ok (.ifCond .eq 7, 3) := by decide +kernel
theorem dX6_count_71 : decode cX6_count 71 = .ok (.iconst 1, 1) := by decide +kernel
theorem dX6_count_72 : decode cX6_count 72 = .ok (.goto 4, 3) := by decide +kernel
theorem dX6_count_75 : decode cX6_count 75 = .ok (.iconst 0, 1) := by decide +kernel
theorem dX6_count_76 : decode cX6_count 76 = .ok (.iadd, 1) := by decide +kernel
theorem dX6_count_77 : decode cX6_count 77 = .ok (.ireturn, 1) := by decide +kernel
theorem dX6_count_78 : decode cX6_count 78 = .ok (.aload_n 0, 1) := by decide +kernel
theorem dX6_count_79 : decode cX6_count 79 = .ok (.getfield 20, 3) := by decide +kernel
theorem dX6_count_82 : decode cX6_count 82 = .ok (.getfield 80, 3) := by decide +kernel
theorem dX6_count_85 : decode cX6_count 85 = .ok (.ireturn, 1) := by decide +kernel
theorem dX6_count_86 : decode cX6_count 86 = .ok (.aload_n 0, 1) := by decide +kernel
theorem dX6_count_87 : decode cX6_count 87 = .ok (.getfield 41, 3) := by decide +kernel
theorem dX6_count_90 : decode cX6_count 90 = .ok (.iconst 0, 1) := by decide +kernel
theorem dX6_count_91 : decode cX6_count 91 = .ok (.aaload, 1) := by decide +kernel
theorem dX6_count_92 : decode cX6_count 92 = .ok (.invokevirtual 277, 3) := by decide +kernel
theorem dX6_count_95 : decode cX6_count 95 = .ok (.ifCond .eq 15, 3) := by decide +kernel
theorem dX6_count_98 : decode cX6_count 98 = .ok (.aload_n 0, 1) := by decide +kernel
theorem dX6_count_99 : decode cX6_count 99 = .ok (.getfield 41, 3) := by decide +kernel
theorem dX6_count_102 : decode cX6_count 102 = .ok (.iconst 0, 1) := by decide +kernel
theorem dX6_count_103 : decode cX6_count 103 = .ok (.aaload, 1) := by decide +kernel
theorem dX6_count_104 : decode cX6_count 104 = .ok (.getfield 296, 3) := by decide +kernel
theorem dX6_count_107 : decode cX6_count 107 = .ok (.goto 5, 3) := by decide +kernel
theorem dX6_count_110 : decode cX6_count 110 = .ok (.bipush (-4), 2) := by decide +kernel
theorem dX6_count_112 : decode cX6_count 112 = .ok (.ireturn, 1) := by decide +kernel
theorem dX6_count_113 : decode cX6_count 113 = .ok (.aload_n 0, 1) := by decide +kernel
theorem dX6_count_114 : decode cX6_count 114 = .ok (.getfield 24, 3) := by decide +kernel
theorem dX6_count_117 : decode cX6_count 117 = .ok (.aload_n 0, 1) := by decide +kernel
theorem dX6_count_118 : decode cX6_count 118 = .ok (.getfield 24, 3) := by decide +kernel
theorem dX6_count_121 : decode cX6_count 121 = .ok (.getfield 126, 3) := by decide +kernel
theorem dX6_count_124 : decode cX6_count 124 = .ok (.invokevirtual 297, 3) := by decide +kernel
theorem dX6_count_127 : decode cX6_count 127 = .ok (.ireturn, 1) := by decide +kernel
theorem dX6_count_128 : decode cX6_count 128 = .ok (.aload_n 0, 1) := by decide +kernel
theorem dX6_count_129 : decode cX6_count 129 = .ok (.getfield 24, 3) := by decide +kernel
theorem dX6_count_132 : decode cX6_count 132 = .ok (.aload_n 0, 1) := by decide +kernel
theorem dX6_count_133 : decode cX6_count 133 = .ok (.getfield 24, 3) := by decide +kernel
theorem dX6_count_136 : decode cX6_count 136 = .ok (.getfield 129, 3) := by decide +kernel
theorem dX6_count_139 : decode cX6_count 139 = .ok (.invokevirtual 297, 3) := by decide +kernel
theorem dX6_count_142 : decode cX6_count 142 = .ok (.ireturn, 1) := by decide +kernel
theorem dX6_count_143 : decode cX6_count 143 = .ok (.iconst (-1), 1) := by decide +kernel
theorem dX6_count_144 : decode cX6_count 144 = .ok (.ireturn, 1) := by decide +kernel
theorem dX6_within_0 : decode cX6_within 0 = .ok (.iload_n 0, 1) := by decide +kernel
theorem dX6_within_1 : decode cX6_within 1 = .ok (.ifCond .lt 12, 3) := by decide +kernel
theorem dX6_within_4 : decode cX6_within 4 = .ok (.iload_n 0, 1) := by decide +kernel
theorem dX6_within_5 : decode cX6_within 5 = .ok (.iload_n 1, 1) := by decide +kernel
theorem dX6_within_6 : decode cX6_within 6 = .ok (.if_icmp .gt 7, 3) := by decide +kernel
theorem dX6_within_9 : decode cX6_within 9 = .ok (.iconst 1, 1) := by decide +kernel
theorem dX6_within_10 : decode cX6_within 10 = .ok (.goto 4, 3) := by decide +kernel
theorem dX6_within_13 : decode cX6_within 13 = .ok (.iconst 0, 1) := by decide +kernel
theorem dX6_within_14 : decode cX6_within 14 = .ok (.ireturn, 1) := by decide +kernel
end
section
theorem dX7_init_0 : decode cX7_init 0 = .ok (.aload_n 0, 1) := by decide +kernel
theorem dX7_init_1 : decode cX7_init 1 = .ok (.invokespecial 1, 3) := by decide +kernel
theorem dX7_init_4 : decode cX7_init 4 = .ok (.aload_n 0, 1) := by decide +kernel
theorem dX7_init_5 : decode cX7_init 5 = .ok (.sipush 252, 3) := by decide +kernel
theorem dX7_init_8 : decode cX7_init 8 = .ok (.newarray .int, 2) := by decide +kernel
theorem dX7_init_10 : decode cX7_init 10 = .ok (.putfield 7, 3) := by decide +kernel
theorem dX7_init_13 : decode cX7_init 13 = .ok (.aload_n 0, 1) := by decide +kernel
theorem dX7_init_14 : decode cX7_init 14 = .ok (.bipush 42, 2) := by decide +kernel
theorem dX7_init_16 : decode cX7_init 16 = .ok (.newarray .int, 2) := by decide +kernel
theorem dX7_init_18 : decode cX7_init 18 = .ok (.putfield 13, 3) := by decide +kernel
theorem dX7_init_21 : decode cX7_init 21 = .ok (.aload_n 0, 1) := by decide +kernel
theorem dX7_init_22 : decode cX7_init 22 = .ok (.sipush 160, 3) := by decide +kernel
theorem dX7_init_25 : decode cX7_init 25 = .ok (.newarray .int, 2) := by decide +kernel
theorem dX7_init_27 : decode cX7_init 27 = .ok (.putfield 16, 3) := by decide +kernel
theorem dX7_init_30 : decode cX7_init 30 = .ok (.aload_n 0, 1) := by decide +kernel
theorem dX7_init_31 : decode cX7_init 31 = .ok (.bipush 6, 2) := by decide +kernel
theorem dX7_init_33 : decode cX7_init 33 = .ok (.newarray .int, 2) := by decide +kernel
theorem dX7_init_35 : decode cX7_init 35 = .ok (.dup, 1) := by decide +kernel
theorem dX7_init_36 : decode cX7_init 36 = .ok (.iconst 0, 1) := by decide +kernel
theorem dX7_init_37 : decode cX7_init 37 = .ok (.iconst 0, 1) := by decide +kernel
theorem dX7_init_38 : decode cX7_init 38 = .ok (.iastore, 1) := by decide +kernel
theorem dX7_init_39 : decode cX7_init 39 = .ok (.dup, 1) := by decide +kernel
theorem dX7_init_40 : decode cX7_init 40 = .ok (.iconst 1, 1) := by decide +kernel
theorem dX7_init_41 : decode cX7_init 41 = .ok (.iconst 5, 1) := by decide +kernel
theorem dX7_init_42 : decode cX7_init 42 = .ok (.iastore, 1) := by decide +kernel
theorem dX7_init_43 : decode cX7_init 43 = .ok (.dup, 1) := by decide +kernel
theorem dX7_init_44 : decode cX7_init 44 = .ok (.iconst 2, 1) := by decide +kernel
theorem dX7_init_45 : decode cX7_init 45 = .ok (.bipush 10, 2) := by decide +kernel
theorem dX7_init_47 : decode cX7_init 47 = .ok (.iastore, 1) := by decide +kernel
theorem dX7_init_48 : decode cX7_init 48 = .ok (.dup, 1) := by decide +kernel
theorem dX7_init_49 : decode cX7_init 49 = .ok (.iconst 3, 1) := by decide +kernel
theorem dX7_init_50 : decode cX7_init 50 = .ok (.bipush 14, 2) := by decide +kernel
theorem dX7_init_52 : decode cX7_init 52 = .ok (.iastore, 1) := by decide +kernel
theorem dX7_init_53 : decode cX7_init 53 = .ok (.dup, 1) := by decide +kernel
theorem dX7_init_54 : decode cX7_init 54 = .ok (.iconst 4, 1) := by decide +kernel
theorem dX7_init_55 : decode cX7_init 55 = .ok (.bipush 22, 2) := by decide +kernel
theorem dX7_init_57 : decode cX7_init 57 = .ok (.iastore, 1) := by decide +kernel
theorem dX7_init_58 : decode cX7_init 58 = .ok (.dup, 1) := by decide +kernel
theorem dX7_init_59 : decode cX7_init 59 = .ok (.iconst 5, 1) := by decide +kernel
theorem dX7_init_60 : decode cX7_init 60 = .ok (.bipush 26, 2) := by decide +kernel
theorem dX7_init_62 : decode cX7_init 62 = .ok (.iastore, 1) := by decide +kernel
theorem dX7_init_63 : decode cX7_init 63 = .ok (.putfield 19, 3) := by decide +kernel
theorem dX7_init_66 : decode cX7_init 66 = .ok (.aload_n 0, 1) := by decide +kernel
theorem dX7_init_67 : decode cX7_init 67 = .ok (.bipush 26, 2) := by decide +kernel
theorem dX7_init_69 : decode cX7_init 69 = .ok (.newarray .int, 2) := by decide +kernel
theorem dX7_init_71 : decode cX7_init 71 = .ok (.dup, 1) := by decide +kernel
theorem dX7_init_72 : decode cX7_init 72 = .ok (.iconst 0, 1) := by decide +kernel
theorem dX7_init_73 : decode cX7_init 73 = .ok (.bipush 112, 2) := by decide +kernel
theorem dX7_init_75 : decode cX7_init 75 = .ok (.iastore, 1) := by decide +kernel
theorem dX7_init_76 : decode cX7_init 76 = .ok (.dup, 1) := by decide +kernel
theorem dX7_init_77 : decode cX7_init 77 = .ok (.iconst 1, 1) := by decide +kernel
theorem dX7_init_78 : decode cX7_init 78 = .ok (.bipush 108, 2) := by decide +kernel
theorem dX7_init_80 : decode cX7_init 80 = .ok (.iastore, 1) := by decide +kernel
theorem dX7_init_81 : decode cX7_init 81 = .ok (.dup, 1) := by decide +kernel
theorem dX7_init_82 : decode cX7_init 82 = .ok (.iconst 2, 1) := by decide +kernel
theorem dX7_init_83 : decode cX7_init 83 = .ok (.bipush 97, 2) := by decide +kernel
theorem dX7_init_85 : decode cX7_init 85 = .ok (.iastore, 1) := by decide +kernel
theorem dX7_init_86 : decode cX7_init 86 = .ok (.dup, 1) := by decide +kernel
theorem dX7_init_87 : decode cX7_init 87 = .ok (.iconst 3, 1) := by decide +kernel
theorem dX7_init_88 : decode cX7_init 88 = .ok (.bipush 105, 2) := by decide +kernel
theorem dX7_init_90 : decode cX7_init 90 = .ok (.iastore, 1) := by decide +kernel
theorem dX7_init_91 : decode cX7_init 91 = .ok (.dup, 1) := by decide +kernel
theorem dX7_init_92 : decode cX7_init 92 = .ok (.iconst 4, 1) := by decide +kernel
theorem dX7_init_93 : decode cX7_init 93 = .ok (.bipush 110, 2) := by decide +kernel
theorem dX7_init_95 : decode cX7_init 95 = .ok (.iastore, 1) := by decide +kernel
theorem dX7_init_96 : decode cX7_init 96 = .ok (.dup, 1) := by decide +kernel
theorem dX7_init_97 : decode cX7_init 97 = .ok (.iconst 5, 1) := by decide +kernel
theorem dX7_init_98 : decode cX7_init 98 = .ok (.bipush 112, 2) := by decide +kernel
theorem dX7_init_100 : decode cX7_init 100 = .ok (.iastore, 1) := by decide +kernel
theorem dX7_init_101 : decode cX7_init 101 = .ok (.dup, 1) := by decide +kernel
theorem dX7_init_102 : decode cX7_init 102 = .ok (.bipush 6, 2) := by decide +kernel
theorem dX7_init_104 : decode cX7_init 104 = .ok (.bipush 114, 2) := by decide +kernel
theorem dX7_init_106 : decode cX7_init 106 = .ok (.iastore, 1) := by decide +kernel
theorem dX7_init_107 : decode cX7_init 107 = .ok (.dup, 1) := by decide +kernel
theorem dX7_init_108 : decode cX7_init 108 = .ok (.bipush 7, 2) := by decide +kernel
theorem dX7_init_110 : decode cX7_init 110 = .ok (.bipush 111, 2) := by decide +kernel
theorem dX7_init_112 : decode cX7_init 112 = .ok (.iastore, 1) := by decide +kernel
theorem dX7_init_113 : decode cX7_init 113 = .ok (.dup, 1) := by decide +kernel
theorem dX7_init_114 : decode cX7_init 114 = .ok (.bipush 8, 2) := by decide +kernel
theorem dX7_init_116 : decode cX7_init 116 = .ok (.bipush 117, 2) := by decide +kernel
theorem dX7_init_118 : decode cX7_init 118 = .ok (.iastore, 1) := by decide +kernel
theorem dX7_init_119 : decode cX7_init 119 = .ok (.dup, 1) := by decide +kernel
theorem dX7_init_120 : decode cX7_init 120 = .ok (.bipush 9, 2) := by decide +kernel
theorem dX7_init_122 : decode cX7_init 122 = .ok (.bipush 100, 2) := by decide +kernel
theorem dX7_init_124 : decode cX7_init 124 = .ok (.iastore, 1) := by decide +kernel
theorem dX7_init_125 : decode cX7_init 125 = .ok (.dup, 1) := by decide +kernel
theorem dX7_init_126 : decode cX7_init 126 = .ok (.bipush 10, 2) := by decide +kernel
theorem dX7_init_128 : decode cX7_init 128 = .ok (.bipush 119, 2) := by decide +kernel
theorem dX7_init_130 : decode cX7_init 130 = .ok (.iastore, 1) := by decide +kernel
theorem dX7_init_131 : decode cX7_init 131 = .ok (.dup, 1) := by decide +kernel
theorem dX7_init_132 : decode cX7_init 132 = .ok (.bipush 11, 2) := by decide +kernel
theorem dX7_init_134 : decode cX7_init 134 = .ok (.bipush 105, 2) := by decide +kernel
theorem dX7_init_136 : decode cX7_init 136 = .ok (.iastore, 1) := by decide +kernel
theorem dX7_init_137 : decode cX7_init 137 = .ok (.dup, 1) := by decide +kernel
theorem dX7_init_138 : decode cX7_init 138 = .ok (.bipush 12, 2) := by decide +kernel
theorem dX7_init_140 : decode cX7_init 140 = .ok (.bipush 115, 2) := by decide +kernel
theorem dX7_init_142 : decode cX7_init 142 = .ok (.iastore, 1) := by decide +kernel
theorem dX7_init_143 : decode cX7_init 143 = .ok (.dup, 1) := by decide +kernel
theorem dX7_init_144 : decode cX7_init 144 = .ok (.bipush 13, 2) := by decide +kernel
theorem dX7_init_146 : decode cX7_init 146 = .ok (.bipush 101, 2) := by decide +kernel
theorem dX7_init_148 : decode cX7_init 148 = .ok (.iastore, 1) := by decide +kernel
theorem dX7_init_149 : decode cX7_init 149 = .ok (.dup, 1) := by decide +kernel
theorem dX7_init_150 : decode cX7_init 150 = .ok (.bipush 14, 2) := by decide +kernel
theorem dX7_init_152 : decode cX7_init 152 = .ok (.bipush 99, 2) := by decide +kernel
theorem dX7_init_154 : decode cX7_init 154 = .ok (.iastore, 1) := by decide +kernel
theorem dX7_init_155 : decode cX7_init 155 = .ok (.dup, 1) := by decide +kernel
theorem dX7_init_156 : decode cX7_init 156 = .ok (.bipush 15, 2) := by decide +kernel
theorem dX7_init_158 : decode cX7_init 158 = .ok (.bipush 97, 2) := by decide +kernel
theorem dX7_init_160 : decode cX7_init 160 = .ok (.iastore, 1) := by decide +kernel
theorem dX7_init_161 : decode cX7_init 161 = .ok (.dup, 1) := by decide +kernel
theorem dX7_init_162 : decode cX7_init 162 = .ok (.bipush 16, 2) := by decide +kernel
theorem dX7_init_164 : decode cX7_init 164 = .ok (.bipush 114, 2) := by decide +kernel
theorem dX7_init_166 : decode cX7_init 166 = .ok (.iastore, 1) := by decide +kernel
theorem dX7_init_167 : decode cX7_init 167 = .ok (.dup, 1) := by decide +kernel
theorem dX7_init_168 : decode cX7_init 168 = .ok (.bipush 17, 2) := by decide +kernel
theorem dX7_init_170 : decode cX7_init 170 = .ok (.bipush 101, 2) := by decide +kernel
theorem dX7_init_172 : decode cX7_init 172 = .ok (.iastore, 1) := by decide +kernel
theorem dX7_init_173 : decode cX7_init 173 = .ok (.dup, 1) := by decide +kernel
theorem dX7_init_174 : decode cX7_init 174 = .ok (.bipush 18, 2) := by decide +kernel
theorem dX7_init_176 : decode cX7_init 176 = .ok (.bipush 108, 2) := by decide +kernel
theorem dX7_init_178 : decode cX7_init 178 = .ok (.iastore, 1) := by decide +kernel
theorem dX7_init_179 : decode cX7_init 179 = .ok (.dup, 1) := by decide +kernel
theorem dX7_init_180 : decode cX7_init 180 = .ok (.bipush 19, 2) := by decide +kernel
theorem dX7_init_182 : decode cX7_init 182 = .ok (.bipush 101, 2) := by decide +kernel
theorem dX7_init_184 : decode cX7_init 184 = .ok (.iastore, 1) := by decide +kernel
theorem dX7_init_185 : decode cX7_init 185 = .ok (.dup, 1) := by decide +kernel
theorem dX7_init_186 : decode cX7_init 186 = .ok (.bipush 20, 2) := by decide +kernel
theorem dX7_init_188 : decode cX7_init 188 = .ok (.bipush 115, 2) := by decide +kernel
theorem dX7_init_190 : decode cX7_init 190 = .ok (.iastore, 1) := by decide +kernel
theorem dX7_init_191 : decode cX7_init 191 = .ok (.dup, 1) := by decide +kernel
theorem dX7_init_192 : decode cX7_init 192 = .ok (.bipush 21, 2) := by decide +kernel
theorem dX7_init_194 : decode cX7_init 194 = .ok (.bipush 115, 2) := by decide +kernel
theorem dX7_init_196 : decode cX7_init 196 = .ok (.iastore, 1) := by decide +kernel
theorem dX7_init_197 : decode cX7_init 197 = .ok (.dup, 1) := by decide +kernel
theorem dX7_init_198 : decode cX7_init 198 = .ok (.bipush 22, 2) := by decide +kernel
theorem dX7_init_200 : decode cX7_init 200 = .ok (.bipush 103, 2) := by decide +kernel
theorem dX7_init_202 : decode cX7_init 202 = .ok (.iastore, 1) := by decide +kernel
theorem dX7_init_203 : decode cX7_init 203 = .ok (.dup, 1) := by decide +kernel
theorem dX7_init_204 : decode cX7_init 204 = .ok (.bipush 23, 2) := by decide +kernel
theorem dX7_init_206 : decode cX7_init 206 = .ok (.bipush 97, 2) := by decide +kernel
theorem dX7_init_208 : decode cX7_init 208 = .ok (.iastore, 1) := by decide +kernel
theorem dX7_init_209 : decode cX7_init 209 = .ok (.dup, 1) := by decide +kernel
theorem dX7_init_210 : decode cX7_init 210 = .ok (.bipush 24, 2) := by decide +kernel
theorem dX7_init_212 : decode cX7_init 212 = .ok (.bipush 109, 2) := by decide +kernel
theorem dX7_init_214 : decode cX7_init 214 = .ok (.iastore, 1) := by decide +kernel
theorem dX7_init_215 : decode cX7_init 215 = .ok (.dup, 1) := by decide +kernel
theorem dX7_init_216 : decode cX7_init 216 = .ok (.bipush 25, 2) := by decide +kernel
theorem dX7_init_218 : decode cX7_init 218 = .ok (.bipush 101, 2) := by decide +kernel
theorem dX7_init_220 : decode cX7_init 220 = .ok (.iastore, 1) := by decide +kernel
theorem dX7_init_221 : decode cX7_init 221 = .ok (.putfield 22, 3) := by decide +kernel
theorem dX7_init_224 : decode cX7_init 224 = .ok (.aload_n 0, 1) := by decide +kernel
theorem dX7_init_225 : decode cX7_init 225 = .ok (.bipush (-4), 2) := by decide +kernel
theorem dX7_init_227 : decode cX7_init 227 = .ok (.putfield 25, 3) := by decide +kernel
theorem dX7_init_230 : decode cX7_init 230 = .ok (.aload_n 0, 1) := by decide +kernel
theorem dX7_init_231 : decode cX7_init 231 = .ok (.iconst 5, 1) := by decide +kernel
theorem dX7_init_232 : decode cX7_init 232 = .ok (.newarray .int, 2) := by decide +kernel
theorem dX7_init_234 : decode cX7_init 234 = .ok (.putfield 29, 3) := by decide +kernel
theorem dX7_init_237 : decode cX7_init 237 = .ok (.aload_n 0, 1) := by decide +kernel
theorem dX7_init_238 : decode cX7_init 238 = .ok (.bipush 12, 2) := by decide +kernel
theorem dX7_init_240 : decode cX7_init 240 = .ok (.newarray .int, 2) := by decide +kernel
theorem dX7_init_242 : decode cX7_init 242 = .ok (.putfield 32, 3) := by decide +kernel
theorem dX7_init_245 : decode cX7_init 245 = .ok (.aload_n 0, 1) := by decide +kernel
theorem dX7_init_246 : decode cX7_init 246 = .ok (.sipush 441, 3) := by decide +kernel
theorem dX7_init_249 : decode cX7_init 249 = .ok (.newarray .int, 2) := by decide +kernel
theorem dX7_init_251 : decode cX7_init 251 = .ok (.putfield 35, 3) := by decide +kernel
theorem dX7_init_254 : decode cX7_init 254 = .ok (.aload_n 0, 1) := by decide +kernel
theorem dX7_init_255 : decode cX7_init 255 = .ok (.iconst 2, 1) := by decide +kernel
theorem dX7_init_256 : decode cX7_init 256 = .ok (.newarray .boolean, 2) := by decide +kernel
theorem dX7_init_258 : decode cX7_init 258 = .ok (.putfield 38, 3) := by decide +kernel
theorem dX7_init_261 : decode cX7_init 261 = .ok (.aload_n 0, 1) := by decide +kernel
theorem dX7_init_262 : decode cX7_init 262 = .ok (.iconst 4, 1) := by decide +kernel
theorem dX7_init_263 : decode cX7_init 263 = .ok (.newarray .int, 2) := by decide +kernel
theorem dX7_init_265 : decode cX7_init 265 = .ok (.dup, 1) := by decide +kernel
theorem dX7_init_266 : decode cX7_init 266 = .ok (.iconst 0, 1) := by decide +kernel
theorem dX7_init_267 : decode cX7_init 267 = .ok (.bipush (-4), 2) := by decide +kernel
theorem dX7_init_269 : decode cX7_init 269 = .ok (.iastore, 1) := by decide +kernel
theorem dX7_init_270 : decode cX7_init 270 = .ok (.dup, 1) := by decide +kernel
theorem dX7_init_271 : decode cX7_init 271 = .ok (.iconst 1, 1) := by decide +kernel
theorem dX7_init_272 : decode cX7_init 272 = .ok (.bipush (-4), 2) := by decide +kernel
theorem dX7_init_274 : decode cX7_init 274 = .ok (.iastore, 1) := by decide +kernel
theorem dX7_init_275 : decode cX7_init 275 = .ok (.dup, 1) := by decide +kernel
theorem dX7_init_276 : decode cX7_init 276 = .ok (.iconst 2, 1) := by decide +kernel
theorem dX7_init_277 : decode cX7_init 277 = .ok (.bipush (-4), 2) := by decide +kernel
theorem dX7_init_279 : decode cX7_init 279 = .ok (.iastore, 1) := by decide +kernel
theorem dX7_init_280 : decode cX7_init 280 = .ok (.dup, 1) := by decide +kernel
theorem dX7_init_281 : decode cX7_init 281 = .ok (.iconst 3, 1) := by decide +kernel
theorem dX7_init_282 : decode cX7_init 282 = .ok (.bipush (-4), 2) := by decide +kernel
theorem dX7_init_284 : decode cX7_init 284 = .ok (.iastore, 1) := by decide +kernel
theorem dX7_init_285 : decode cX7_init 285 = .ok (.putfield 42, 3) := by decide +kernel
theorem dX7_init_288 : decode cX7_init 288 = .ok (.aload_n 0, 1) := by decide +kernel
theorem dX7_init_289 : decode cX7_init 289 = .ok (.iconst 4, 1) := by decide +kernel
theorem dX7_init_290 : decode cX7_init 290 = .ok (.newarray .int, 2) := by decide +kernel
theorem dX7_init_292 : decode cX7_init 292 = .ok (.putfield 45, 3) := by decide +kernel
theorem dX7_init_295 : decode cX7_init 295 = .ok (.aload_n 0, 1) := by decide +kernel
theorem dX7_init_296 : decode cX7_init 296 = .ok (.sipush 160, 3) := by decide +kernel
theorem dX7_init_299 : decode cX7_init 299 = .ok (.newarray .int, 2) := by decide +kernel
theorem dX7_init_301 : decode cX7_init 301 = .ok (.putfield 48, 3) := by decide +kernel
theorem dX7_init_304 : decode cX7_init 304 = .ok (.return_, 1) := by decide +kernel
theorem dX7_in_0 : decode cX7_in 0 = .ok (.lload_n 0, 1) := by decide +kernel
theorem dX7_in_1 : decode cX7_in 1 = .ok (.lload_n 2, 1) := by decide +kernel
theorem dX7_in_2 : decode cX7_in 2 = .ok (.lcmp, 1) := by decide +kernel
theorem dX7_in_3 : decode cX7_in 3 = .ok (.ifCond .lt 14, 3) := by decide +kernel
theorem dX7_in_6 : decode cX7_in 6 = .ok (.lload_n 0, 1) := by decide +kernel
theorem dX7_in_7 : decode cX7_in 7 = .ok (.lload 4, 2) := by decide +kernel
theorem dX7_in_9 : decode cX7_in 9 = .ok (.lcmp, 1) := by decide +kernel
theorem dX7_in_10 : decode cX7_in 10 = .ok (.ifCond .gt 7, 3) := by decide +kernel
theorem dX7_in_13 : decode cX7_in 13 = .ok (.iconst 1, 1) := by decide +kernel
theorem dX7_in_14 : decode cX7_in 14 = .ok (.goto 4, 3) := by decide +kernel
theorem dX7_in_17 : decode cX7_in 17 = .ok (.iconst 0, 1) := by decide +kernel
theorem dX7_in_18 : decode cX7_in 18 = .ok (.ireturn, 1) := by decide +kernel
theorem dX7_feed_0 : decode cX7_feed 0 = .ok (.iload_n 1, 1) := by decide +kernel
theorem dX7_feed_1 : decode cX7_feed 1 = .ok (.i2l, 1) := by decide +kernel
theorem dX7_feed_2 : decode cX7_feed 2 = .ok (.lconst 0, 1) := by decide +kernel
theorem dX7_feed_3 : decode cX7_feed 3 = .ok (.ldc2_w 51, 3) := by decide +kernel
theorem dX7_feed_6 : decode cX7_feed 6 = .ok (.invokestatic 53, 3) := by decide +kernel
theorem dX7_feed_9 : decode cX7_feed 9 = .ok (.ifCond .ne 5, 3) := by decide +kernel
theorem dX7_feed_12 : decode cX7_feed 12 = .ok (.iconst (-1), 1) := by decide +kernel
theorem dX7_feed_13 : decode cX7_feed 13 = .ok (.ireturn, 1) := by decide +kernel
theorem dX7_feed_14 : decode cX7_feed 14 = .ok (.aload_n 0, 1) := by decide +kernel
theorem dX7_feed_15 : decode cX7_feed 15 = .ok (.getfield 57, 3) := by decide +kernel
theorem dX7_feed_18 : decode cX7_feed 18 = .ok (.sipush 160, 3) := by decide +kernel
theorem dX7_feed_21 : decode cX7_feed 21 = .ok (.if_icmp .ne 6, 3) := by decide +kernel
theorem dX7_feed_24 : decode cX7_feed 24 = .ok (.bipush (-3), 2) := by decide +kernel
theorem dX7_feed_26 : decode cX7_feed 26 = .ok (.ireturn, 1) := by decide +kernel
theorem dX7_feed_27 : decode cX7_feed 27 = .ok (.aload_n 0, 1) := by decide +kernel
theorem dX7_feed_28 : decode cX7_feed 28 = .ok (.getfield 16, 3) := by decide +kernel
theorem dX7_feed_31 : decode cX7_feed 31 = .ok (.aload_n 0, 1) := by decide +kernel
theorem dX7_feed_32 : decode cX7_feed 32 = .ok (.getfield 57, 3) := by decide +kernel
theorem dX7_feed_35 : decode cX7_feed 35 = .ok (.iload_n 1, 1) := by decide +kernel
theorem dX7_feed_36 : decode cX7_feed 36 = .ok (.iastore, 1) := by decide +kernel
theorem dX7_feed_37 : decode cX7_feed 37 = .ok (.aload_n 0, 1) := by decide +kernel
theorem dX7_feed_38 : decode cX7_feed 38 = .ok (.dup, 1) := by decide +kernel
theorem dX7_feed_39 : decode cX7_feed 39 = .ok (.getfield 57, 3) := by decide +kernel
theorem dX7_feed_42 : decode cX7_feed 42 = .ok (.iconst 1, 1) := by decide +kernel
theorem dX7_feed_43 : decode cX7_feed 43 = .ok (.iadd, 1) := by decide +kernel
theorem dX7_feed_44 : decode cX7_feed 44 = .ok (.putfield 57, 3) := by decide +kernel
theorem dX7_feed_47 : decode cX7_feed 47 = .ok (.aload_n 0, 1) := by decide +kernel
theorem dX7_feed_48 : decode cX7_feed 48 = .ok (.getfield 57, 3) := by decide +kernel
theorem dX7_feed_51 : decode cX7_feed 51 = .ok (.ireturn, 1) := by decide +kernel
theorem dX7_end_0 : decode cX7_end 0 = .ok (.iload_n 1, 1) := by decide +kernel
theorem dX7_end_1 : decode cX7_end 1 = .ok (.i2l, 1) := by decide +kernel
theorem dX7_end_2 : decode cX7_end 2 = .ok (.lconst 0, 1) := by decide +kernel
theorem dX7_end_3 : decode cX7_end 3 = .ok (.aload_n 0, 1) := by decide +kernel
theorem dX7_end_4 : decode cX7_end 4 = .ok (.getfield 57, 3) := by decide +kernel
theorem dX7_end_7 : decode cX7_end 7 = .ok (.i2l, 1) := by decide +kernel
theorem dX7_end_8 : decode cX7_end 8 = .ok (.invokestatic 53, 3) := by decide +kernel
theorem dX7_end_11 : decode cX7_end 11 = .ok (.ifCond .ne 5, 3) := by decide +kernel
theorem dX7_end_14 : decode cX7_end 14 = .ok (.iconst (-1), 1) := by decide +kernel
theorem dX7_end_15 : decode cX7_end 15 = .ok (.ireturn, 1) := by decide +kernel
theorem dX7_end_16 : decode cX7_end 16 = .ok (.aload_n 0, 1) := by decide +kernel
theorem dX7_end_17 : decode cX7_end 17 = .ok (.getfield 57, 3) := by decide +kernel
theorem dX7_end_20 : decode cX7_end 20 = .ok (.istore_n 2, 1) := by decide +kernel
theorem dX7_end_21 : decode cX7_end 21 = .ok (.aload_n 0, 1) := by decide +kernel
theorem dX7_end_22 : decode cX7_end 22 = .ok (.iload_n 1, 1) := by decide +kernel
theorem dX7_end_23 : decode cX7_end 23 = .ok (.putfield 57, 3) := by decide +kernel
theorem dX7_end_26 : decode cX7_end 26 = .ok (.iload_n 2, 1) := by decide +kernel
theorem dX7_end_27 : decode cX7_end 27 = .ok (.ireturn, 1) := by decide +kernel
theorem dX7_byteAt_0 : decode cX7_byteAt 0 = .ok (.iload_n 1, 1) := by decide +kernel
theorem dX7_byteAt_1 : decode cX7_byteAt 1 = .ok (.aload_n 0, 1) := by decide +kernel
theorem dX7_byteAt_2 : decode cX7_byteAt 2 = .ok (.getfield 57, 3) := by decide +kernel
theorem dX7_byteAt_5 : decode cX7_byteAt 5 = .ok (.if_icmp .ge 12, 3) := by decide +kernel
theorem dX7_byteAt_8 : decode cX7_byteAt 8 = .ok (.aload_n 0, 1) := by decide +kernel
theorem dX7_byteAt_9 : decode cX7_byteAt 9 = .ok (.getfield 16, 3) := by decide +kernel
theorem dX7_byteAt_12 : decode cX7_byteAt 12 = .ok (.iload_n 1, 1) := by decide +kernel
theorem dX7_byteAt_13 : decode cX7_byteAt 13 = .ok (.iaload, 1) := by decide +kernel
theorem dX7_byteAt_14 : decode cX7_byteAt 14 = .ok (.goto 5, 3) := by decide +kernel
theorem dX7_byteAt_17 : decode cX7_byteAt 17 = .ok (.bipush (-4), 2) := by decide +kernel
theorem dX7_byteAt_19 : decode cX7_byteAt 19 = .ok (.ireturn, 1) := by decide +kernel
theorem dX7_fails_0 : decode cX7_fails 0 = .ok (.aload_n 0, 1) := by decide +kernel
theorem dX7_fails_1 : decode cX7_fails 1 = .ok (.getfield 60, 3) := by decide +kernel
theorem dX7_fails_4 : decode cX7_fails 4 = .ok (.ifCond .ne 16, 3) := by decide +kernel
theorem dX7_fails_7 : decode cX7_fails 7 = .ok (.aload_n 0, 1) := by decide +kernel
theorem dX7_fails_8 : decode cX7_fails 8 = .ok (.iload_n 1, 1) := by decide +kernel
theorem dX7_fails_9 : decode cX7_fails 9 = .ok (.putfield 60, 3) := by decide +kernel
theorem dX7_fails_12 : decode cX7_fails 12 = .ok (.aload_n 0, 1) := by decide +kernel
theorem dX7_fails_13 : decode cX7_fails 13 = .ok (.aload_n 0, 1) := by decide +kernel
theorem dX7_fails_14 : decode cX7_fails 14 = .ok (.getfield 63, 3) := by decide +kernel
theorem dX7_fails_17 : decode cX7_fails 17 = .ok (.putfield 66, 3) := by decide +kernel
theorem dX7_fails_20 : decode cX7_fails 20 = .ok (.return_, 1) := by decide +kernel
theorem dX7_nameHere_0 : decode cX7_nameHere 0 = .ok (.iconst 0, 1) := by decide +kernel
theorem dX7_nameHere_1 : decode cX7_nameHere 1 = .ok (.istore_n 1, 1) := by decide +kernel
theorem dX7_nameHere_2 : decode cX7_nameHere 2 = .ok (.iload_n 1, 1) := by decide +kernel
theorem dX7_nameHere_3 : decode cX7_nameHere 3 = .ok (.iconst 5, 1) := by decide +kernel
theorem dX7_nameHere_4 : decode cX7_nameHere 4 = .ok (.if_icmp .ge 113, 3) := by decide +kernel
theorem dX7_nameHere_7 : decode cX7_nameHere 7 = .ok (.aload_n 0, 1) := by decide +kernel
theorem dX7_nameHere_8 : decode cX7_nameHere 8 = .ok (.getfield 69, 3) := by decide +kernel
theorem dX7_nameHere_11 : decode cX7_nameHere 11 = .ok (.iconst 1, 1) := by decide +kernel
theorem dX7_nameHere_12 : decode cX7_nameHere 12 = .ok (.if_icmp .ne 105, 3) := by decide +kernel
theorem dX7_nameHere_15 : decode cX7_nameHere 15 = .ok (.aload_n 0, 1) := by decide +kernel
theorem dX7_nameHere_16 : decode cX7_nameHere 16 = .ok (.getfield 72, 3) := by decide +kernel
theorem dX7_nameHere_19 : decode cX7_nameHere 19 = .ok (.aload_n 0, 1) := by decide +kernel
theorem dX7_nameHere_20 : decode cX7_nameHere 20 = .ok (.getfield 63, 3) := by decide +kernel
theorem dX7_nameHere_23 : decode cX7_nameHere 23 = .ok (.isub, 1) := by decide +kernel
theorem dX7_nameHere_24 : decode cX7_nameHere 24 = .ok (.aload_n 0, 1) := by decide +kernel
theorem dX7_nameHere_25 : decode cX7_nameHere 25 = .ok (.getfield 19, 3) := by decide +kernel
theorem dX7_nameHere_28 : decode cX7_nameHere 28 = .ok (.iload_n 1, 1) := by decide +kernel
theorem dX7_nameHere_29 : decode cX7_nameHere 29 = .ok (.iconst 1, 1) := by decide +kernel
theorem dX7_nameHere_30 : decode cX7_nameHere 30 = .ok (.iadd, 1) := by decide +kernel
theorem dX7_nameHere_31 : decode cX7_nameHere 31 = .ok (.iaload, 1) := by decide +kernel
theorem dX7_nameHere_32 : decode cX7_nameHere 32 = .ok (.aload_n 0, 1) := by decide +kernel
theorem dX7_nameHere_33 : decode cX7_nameHere 33 = .ok (.getfield 19, 3) := by decide +kernel
theorem dX7_nameHere_36 : decode cX7_nameHere 36 = .ok (.iload_n 1, 1) := by decide +kernel
theorem dX7_nameHere_37 : decode cX7_nameHere 37 = .ok (.iaload, 1) := by decide +kernel
theorem dX7_nameHere_38 : decode cX7_nameHere 38 = .ok (.isub, 1) := by decide +kernel
theorem dX7_nameHere_39 : decode cX7_nameHere 39 = .ok (.if_icmp .ne 7, 3) := by decide +kernel
theorem dX7_nameHere_42 : decode cX7_nameHere 42 = .ok (.iconst 1, 1) := by decide +kernel
theorem dX7_nameHere_43 : decode cX7_nameHere 43 = .ok (.goto 4, 3) := by decide +kernel
theorem dX7_nameHere_46 : decode cX7_nameHere 46 = .ok (.iconst 0, 1) := by decide +kernel
theorem dX7_nameHere_47 : decode cX7_nameHere 47 = .ok (.istore_n 2, 1) := by decide +kernel
theorem dX7_nameHere_48 : decode cX7_nameHere 48 = .ok (.iconst 0, 1) := by decide +kernel
theorem dX7_nameHere_49 : decode cX7_nameHere 49 = .ok (.istore_n 3, 1) := by decide +kernel
theorem dX7_nameHere_50 : decode cX7_nameHere 50 = .ok (.iload_n 2, 1) := by decide +kernel
theorem dX7_nameHere_51 : decode cX7_nameHere 51 = .ok (.ifCond .eq 54, 3) := by decide +kernel
theorem dX7_nameHere_54 : decode cX7_nameHere 54 = .ok (.iload_n 3, 1) := by decide +kernel
theorem dX7_nameHere_55 : decode cX7_nameHere 55 = .ok (.aload_n 0, 1) := by decide +kernel
theorem dX7_nameHere_56 : decode cX7_nameHere 56 = .ok (.getfield 72, 3) := by decide +kernel
theorem dX7_nameHere_59 : decode cX7_nameHere 59 = .ok (.aload_n 0, 1) := by decide +kernel
theorem dX7_nameHere_60 : decode cX7_nameHere 60 = .ok (.getfield 63, 3) := by decide +kernel
theorem dX7_nameHere_63 : decode cX7_nameHere 63 = .ok (.isub, 1) := by decide +kernel
theorem dX7_nameHere_64 : decode cX7_nameHere 64 = .ok (.if_icmp .ge 41, 3) := by decide +kernel
theorem dX7_nameHere_67 : decode cX7_nameHere 67 = .ok (.aload_n 0, 1) := by decide +kernel
theorem dX7_nameHere_68 : decode cX7_nameHere 68 = .ok (.aload_n 0, 1) := by decide +kernel
theorem dX7_nameHere_69 : decode cX7_nameHere 69 = .ok (.getfield 63, 3) := by decide +kernel
theorem dX7_nameHere_72 : decode cX7_nameHere 72 = .ok (.iload_n 3, 1) := by decide +kernel
theorem dX7_nameHere_73 : decode cX7_nameHere 73 = .ok (.iadd, 1) := by decide +kernel
theorem dX7_nameHere_74 : decode cX7_nameHere 74 = .ok (.invokevirtual 75, 3) := by decide +kernel
theorem dX7_nameHere_77 : decode cX7_nameHere 77 = .ok (.aload_n 0, 1) := by decide +kernel
theorem dX7_nameHere_78 : decode cX7_nameHere 78 = .ok (.getfield 22, 3) := by decide +kernel
theorem dX7_nameHere_81 : decode cX7_nameHere 81 = .ok (.aload_n 0, 1) := by decide +kernel
theorem dX7_nameHere_82 : decode cX7_nameHere 82 = .ok (.getfield 19, 3) := by decide +kernel
theorem dX7_nameHere_85 : decode cX7_nameHere 85 = .ok (.iload_n 1, 1) := by decide +kernel
theorem dX7_nameHere_86 : decode cX7_nameHere 86 = .ok (.iaload, 1) := by decide +kernel
theorem dX7_nameHere_87 : decode cX7_nameHere 87 = .ok (.iload_n 3, 1) := by decide +kernel
theorem dX7_nameHere_88 : decode cX7_nameHere 88 = .ok (.iadd, 1) := by decide +kernel
theorem dX7_nameHere_89 : decode cX7_nameHere 89 = .ok (.iaload, 1) := by decide +kernel
theorem dX7_nameHere_90 : decode cX7_nameHere 90 = .ok (.if_icmp .ne 7, 3) := by decide +kernel
theorem dX7_nameHere_93 : decode cX7_nameHere 93 = .ok (.iconst 1, 1) := by decide +kernel
theorem dX7_nameHere_94 : decode cX7_nameHere 94 = .ok (.goto 4, 3) := by decide +kernel
theorem dX7_nameHere_97 : decode cX7_nameHere 97 = .ok (.iconst 0, 1) := by decide +kernel
theorem dX7_nameHere_98 : decode cX7_nameHere 98 = .ok (.istore_n 2, 1) := by decide +kernel
theorem dX7_nameHere_99 : decode cX7_nameHere 99 = .ok (.iinc 3 1, 3) := by decide +kernel
theorem dX7_nameHere_102 : decode cX7_nameHere 102 = .ok (.goto (-52), 3) := by decide +kernel
theorem dX7_nameHere_105 : decode cX7_nameHere 105 = .ok (.iload_n 2, 1) := by decide +kernel
theorem dX7_nameHere_106 : decode cX7_nameHere 106 = .ok (.ifCond .eq 5, 3) := by decide +kernel
theorem dX7_nameHere_109 : decode cX7_nameHere 109 = .ok (.iload_n 1, 1) := by decide +kernel
theorem dX7_nameHere_110 : decode cX7_nameHere 110 = .ok (.ireturn, 1) := by decide +kernel
theorem dX7_nameHere_111 : decode cX7_nameHere 111 = .ok (.iinc 1 1, 3) := by decide +kernel
theorem dX7_nameHere_114 : decode cX7_nameHere 114 = .ok (.goto (-112), 3) := by decide +kernel
theorem dX7_nameHere_117 : decode cX7_nameHere 117 = .ok (.bipush (-4), 2) := by decide +kernel
theorem dX7_nameHere_119 : decode cX7_nameHere 119 = .ok (.ireturn, 1) := by decide +kernel
theorem dX7_step_0 : decode cX7_step 0 = .ok (.aload_n 0, 1) := by decide +kernel
theorem dX7_step_1 : decode cX7_step 1 = .ok (.getfield 60, 3) := by decide +kernel
theorem dX7_step_4 : decode cX7_step 4 = .ok (.ifCond .le 4, 3) := by decide +kernel
theorem dX7_step_7 : decode cX7_step 7 = .ok (.return_, 1) := by decide +kernel
theorem dX7_step_8 : decode cX7_step 8 = .ok (.aload_n 0, 1) := by decide +kernel
theorem dX7_step_9 : decode cX7_step 9 = .ok (.aload_n 0, 1) := by decide +kernel
theorem dX7_step_10 : decode cX7_step 10 = .ok (.getfield 72, 3) := by decide +kernel
theorem dX7_step_13 : decode cX7_step 13 = .ok (.invokevirtual 75, 3) := by decide +kernel
theorem dX7_step_16 : decode cX7_step 16 = .ok (.bipush 32, 2) := by decide +kernel
theorem dX7_step_18 : decode cX7_step 18 = .ok (.if_icmp .ne 16, 3) := by decide +kernel
theorem dX7_step_21 : decode cX7_step 21 = .ok (.aload_n 0, 1) := by decide +kernel
theorem dX7_step_22 : decode cX7_step 22 = .ok (.dup, 1) := by decide +kernel
theorem dX7_step_23 : decode cX7_step 23 = .ok (.getfield 72, 3) := by decide +kernel
theorem dX7_step_26 : decode cX7_step 26 = .ok (.iconst 1, 1) := by decide +kernel
theorem dX7_step_27 : decode cX7_step 27 = .ok (.iadd, 1) := by decide +kernel
theorem dX7_step_28 : decode cX7_step 28 = .ok (.putfield 72, 3) := by decide +kernel
theorem dX7_step_31 : decode cX7_step 31 = .ok (.goto (-23), 3) := by decide +kernel
theorem dX7_step_34 : decode cX7_step 34 = .ok (.aload_n 0, 1) := by decide +kernel
theorem dX7_step_35 : decode cX7_step 35 = .ok (.aload_n 0, 1) := by decide +kernel
theorem dX7_step_36 : decode cX7_step 36 = .ok (.getfield 72, 3) := by decide +kernel
theorem dX7_step_39 : decode cX7_step 39 = .ok (.putfield 63, 3) := by decide +kernel
theorem dX7_step_42 : decode cX7_step 42 = .ok (.aload_n 0, 1) := by decide +kernel
theorem dX7_step_43 : decode cX7_step 43 = .ok (.aload_n 0, 1) := by decide +kernel
theorem dX7_step_44 : decode cX7_step 44 = .ok (.getfield 72, 3) := by decide +kernel
theorem dX7_step_47 : decode cX7_step 47 = .ok (.invokevirtual 75, 3) := by decide +kernel
theorem dX7_step_50 : decode cX7_step 50 = .ok (.istore_n 1, 1) := by decide +kernel
theorem dX7_step_51 : decode cX7_step 51 = .ok (.aload_n 0, 1) := by decide +kernel
theorem dX7_step_52 : decode cX7_step 52 = .ok (.iconst 0, 1) := by decide +kernel
theorem dX7_step_53 : decode cX7_step 53 = .ok (.putfield 79, 3) := by decide +kernel
theorem dX7_step_56 : decode cX7_step 56 = .ok (.iload_n 1, 1) := by decide +kernel
theorem dX7_step_57 : decode cX7_step 57 = .ok (.bipush (-4), 2) := by decide +kernel
theorem dX7_step_59 : decode cX7_step 59 = .ok (.if_icmp .ne 11, 3) := by decide +kernel
theorem dX7_step_62 : decode cX7_step 62 = .ok (.aload_n 0, 1) := by decide +kernel
theorem dX7_step_63 : decode cX7_step 63 = .ok (.iconst 0, 1) := by decide +kernel
theorem dX7_step_64 : decode cX7_step 64 = .ok (.putfield 69, 3) := by decide +kernel
theorem dX7_step_67 : decode cX7_step 67 = .ok (.goto 202, 3) := by decide +kernel
theorem dX7_step_70 : decode cX7_step 70 = .ok (.iload_n 1, 1) := by decide +kernel
theorem dX7_step_71 : decode cX7_step 71 = .ok (.i2l, 1) := by decide +kernel
theorem dX7_step_72 : decode cX7_step 72 = .ok (.ldc2_w 82, 3) := by decide +kernel
theorem dX7_step_75 : decode cX7_step 75 = .ok (.ldc2_w 84, 3) := by decide +kernel
theorem dX7_step_78 : decode cX7_step 78 = .ok (.invokestatic 53, 3) := by decide +kernel
theorem dX7_step_81 : decode cX7_step 81 = .ok (.ifCond .eq 45, 3) := by decide +kernel
theorem dX7_step_84 : decode cX7_step 84 = .ok (.aload_n 0, 1) := by decide +kernel
theorem dX7_step_85 : decode cX7_step 85 = .ok (.aload_n 0, 1) := by decide +kernel
theorem dX7_step_86 : decode cX7_step 86 = .ok (.getfield 72, 3) := by decide +kernel
theorem dX7_step_89 : decode cX7_step 89 = .ok (.invokevirtual 75, 3) := by decide +kernel
theorem dX7_step_92 : decode cX7_step 92 = .ok (.i2l, 1) := by decide +kernel
theorem dX7_step_93 : decode cX7_step 93 = .ok (.ldc2_w 82, 3) := by decide +kernel
theorem dX7_step_96 : decode cX7_step 96 = .ok (.ldc2_w 84, 3) := by decide +kernel
theorem dX7_step_99 : decode cX7_step 99 = .ok (.invokestatic 53, 3) := by decide +kernel
theorem dX7_step_102 : decode cX7_step 102 = .ok (.ifCond .eq 16, 3) := by decide +kernel
theorem dX7_step_105 : decode cX7_step 105 = .ok (.aload_n 0, 1) := by decide +kernel
theorem dX7_step_106 : decode cX7_step 106 = .ok (.dup, 1) := by decide +kernel
theorem dX7_step_107 : decode cX7_step 107 = .ok (.getfield 72, 3) := by decide +kernel
theorem dX7_step_110 : decode cX7_step 110 = .ok (.iconst 1, 1) := by decide +kernel
theorem dX7_step_111 : decode cX7_step 111 = .ok (.iadd, 1) := by decide +kernel
theorem dX7_step_112 : decode cX7_step 112 = .ok (.putfield 72, 3) := by decide +kernel
theorem dX7_step_115 : decode cX7_step 115 = .ok (.goto (-31), 3) := by decide +kernel
theorem dX7_step_118 : decode cX7_step 118 = .ok (.aload_n 0, 1) := by decide +kernel
theorem dX7_step_119 : decode cX7_step 119 = .ok (.iconst 1, 1) := by decide +kernel
theorem dX7_step_120 : decode cX7_step 120 = .ok (.putfield 69, 3) := by decide +kernel
theorem dX7_step_123 : decode cX7_step 123 = .ok (.goto 146, 3) := by decide +kernel
theorem dX7_step_126 : decode cX7_step 126 = .ok (.iload_n 1, 1) := by decide +kernel
theorem dX7_step_127 : decode cX7_step 127 = .ok (.i2l, 1) := by decide +kernel
theorem dX7_step_128 : decode cX7_step 128 = .ok (.ldc2_w 86, 3) := by decide +kernel
theorem dX7_step_131 : decode cX7_step 131 = .ok (.ldc2_w 88, 3) := by decide +kernel
theorem dX7_step_134 : decode cX7_step 134 = .ok (.invokestatic 53, 3) := by decide +kernel
theorem dX7_step_137 : decode cX7_step 137 = .ok (.ifCond .eq 106, 3) := by decide +kernel
theorem dX7_step_140 : decode cX7_step 140 = .ok (.aload_n 0, 1) := by decide +kernel
theorem dX7_step_141 : decode cX7_step 141 = .ok (.aload_n 0, 1) := by decide +kernel
theorem dX7_step_142 : decode cX7_step 142 = .ok (.getfield 72, 3) := by decide +kernel
theorem dX7_step_145 : decode cX7_step 145 = .ok (.invokevirtual 75, 3) := by decide +kernel
theorem dX7_step_148 : decode cX7_step 148 = .ok (.i2l, 1) := by decide +kernel
theorem dX7_step_149 : decode cX7_step 149 = .ok (.ldc2_w 86, 3) := by decide +kernel
theorem dX7_step_152 : decode cX7_step 152 = .ok (.ldc2_w 88, 3) := by decide +kernel
theorem dX7_step_155 : decode cX7_step 155 = .ok (.invokestatic 53, 3) := by decide +kernel
theorem dX7_step_158 : decode cX7_step 158 = .ok (.ifCond .eq 59, 3) := by decide +kernel
theorem dX7_step_161 : decode cX7_step 161 = .ok (.aload_n 0, 1) := by decide +kernel
theorem dX7_step_162 : decode cX7_step 162 = .ok (.aload_n 0, 1) := by decide +kernel
theorem dX7_step_163 : decode cX7_step 163 = .ok (.getfield 72, 3) := by decide +kernel
theorem dX7_step_166 : decode cX7_step 166 = .ok (.aload_n 0, 1) := by decide +kernel
theorem dX7_step_167 : decode cX7_step 167 = .ok (.getfield 63, 3) := by decide +kernel
theorem dX7_step_170 : decode cX7_step 170 = .ok (.isub, 1) := by decide +kernel
theorem dX7_step_171 : decode cX7_step 171 = .ok (.iconst 2, 1) := by decide +kernel
theorem dX7_step_172 : decode cX7_step 172 = .ok (.if_icmp .ge 25, 3) := by decide +kernel
theorem dX7_step_175 : decode cX7_step 175 = .ok (.bipush 10, 2) := by decide +kernel
theorem dX7_step_177 : decode cX7_step 177 = .ok (.aload_n 0, 1) := by decide +kernel
theorem dX7_step_178 : decode cX7_step 178 = .ok (.getfield 79, 3) := by decide +kernel
theorem dX7_step_181 : decode cX7_step 181 = .ok (.imul, 1) := by decide +kernel
theorem dX7_step_182 : decode cX7_step 182 = .ok (.aload_n 0, 1) := by decide +kernel
theorem dX7_step_183 : decode cX7_step 183 = .ok (.aload_n 0, 1) := by decide +kernel
theorem dX7_step_184 : decode cX7_step 184 = .ok (.getfield 72, 3) := by decide +kernel
theorem dX7_step_187 : decode cX7_step 187 = .ok (.invokevirtual 75, 3) := by decide +kernel
theorem dX7_step_190 : decode cX7_step 190 = .ok (.iadd, 1) := by decide +kernel
theorem dX7_step_191 : decode cX7_step 191 = .ok (.bipush 48, 2) := by decide +kernel
theorem dX7_step_193 : decode cX7_step 193 = .ok (.isub, 1) := by decide +kernel
theorem dX7_step_194 : decode cX7_step 194 = .ok (.goto 7, 3) := by decide +kernel
theorem dX7_step_197 : decode cX7_step 197 = .ok (.aload_n 0, 1) := by decide +kernel
theorem dX7_step_198 : decode cX7_step 198 = .ok (.getfield 79, 3) := by decide +kernel
theorem dX7_step_201 : decode cX7_step 201 = .ok (.putfield 79, 3) := by decide +kernel
theorem dX7_step_204 : decode cX7_step 204 = .ok (.aload_n 0, 1) := by decide +kernel
theorem dX7_step_205 : decode cX7_step 205 = .ok (.dup, 1) := by decide +kernel
theorem dX7_step_206 : decode cX7_step 206 = .ok (.getfield 72, 3) := by decide +kernel
theorem dX7_step_209 : decode cX7_step 209 = .ok (.iconst 1, 1) := by decide +kernel
theorem dX7_step_210 : decode cX7_step 210 = .ok (.iadd, 1) := by decide +kernel
theorem dX7_step_211 : decode cX7_step 211 = .ok (.putfield 72, 3) := by decide +kernel
theorem dX7_step_214 : decode cX7_step 214 = .ok (.goto (-74), 3) := by decide +kernel
theorem dX7_step_217 : decode cX7_step 217 = .ok (.aload_n 0, 1) := by decide +kernel
theorem dX7_step_218 : decode cX7_step 218 = .ok (.iconst 2, 1) := by decide +kernel
theorem dX7_step_219 : decode cX7_step 219 = .ok (.putfield 69, 3) := by decide +kernel
theorem dX7_step_222 : decode cX7_step 222 = .ok (.aload_n 0, 1) := by decide +kernel
theorem dX7_step_223 : decode cX7_step 223 = .ok (.getfield 72, 3) := by decide +kernel
theorem dX7_step_226 : decode cX7_step 226 = .ok (.aload_n 0, 1) := by decide +kernel
theorem dX7_step_227 : decode cX7_step 227 = .ok (.getfield 63, 3) := by decide +kernel
theorem dX7_step_230 : decode cX7_step 230 = .ok (.isub, 1) := by decide +kernel
theorem dX7_step_231 : decode cX7_step 231 = .ok (.iconst 2, 1) := by decide +kernel
theorem dX7_step_232 : decode cX7_step 232 = .ok (.if_icmp .le 37, 3) := by decide +kernel
theorem dX7_step_235 : decode cX7_step 235 = .ok (.aload_n 0, 1) := by decide +kernel
theorem dX7_step_236 : decode cX7_step 236 = .ok (.iconst 1, 1) := by decide +kernel
theorem dX7_step_237 : decode cX7_step 237 = .ok (.invokevirtual 90, 3) := by decide +kernel
theorem dX7_step_240 : decode cX7_step 240 = .ok (.goto 29, 3) := by decide +kernel
theorem dX7_step_243 : decode cX7_step 243 = .ok (.aload_n 0, 1) := by decide +kernel
theorem dX7_step_244 : decode cX7_step 244 = .ok (.iconst 3, 1) := by decide +kernel
theorem dX7_step_245 : decode cX7_step 245 = .ok (.putfield 69, 3) := by decide +kernel
theorem dX7_step_248 : decode cX7_step 248 = .ok (.aload_n 0, 1) := by decide +kernel
theorem dX7_step_249 : decode cX7_step 249 = .ok (.dup, 1) := by decide +kernel
theorem dX7_step_250 : decode cX7_step 250 = .ok (.getfield 72, 3) := by decide +kernel
theorem dX7_step_253 : decode cX7_step 253 = .ok (.iconst 1, 1) := by decide +kernel
theorem dX7_step_254 : decode cX7_step 254 = .ok (.iadd, 1) := by decide +kernel
theorem dX7_step_255 : decode cX7_step 255 = .ok (.putfield 72, 3) := by decide +kernel
theorem dX7_step_258 : decode cX7_step 258 = .ok (.iload_n 1, 1) := by decide +kernel
theorem dX7_step_259 : decode cX7_step 259 = .ok (.bipush 59, 2) := by decide +kernel
theorem dX7_step_261 : decode cX7_step 261 = .ok (.if_icmp .eq 8, 3) := by decide +kernel
theorem dX7_step_264 : decode cX7_step 264 = .ok (.aload_n 0, 1) := by decide +kernel
theorem dX7_step_265 : decode cX7_step 265 = .ok (.iconst 1, 1) := by decide +kernel
theorem dX7_step_266 : decode cX7_step 266 = .ok (.invokevirtual 90, 3) := by decide +kernel
theorem dX7_step_269 : decode cX7_step 269 = .ok (.return_, 1) := by decide +kernel
theorem dX7_number_0 : decode cX7_number 0 = .ok (.aload_n 0, 1) := by decide +kernel
theorem dX7_number_1 : decode cX7_number 1 = .ok (.getfield 60, 3) := by decide +kernel
theorem dX7_number_4 : decode cX7_number 4 = .ok (.ifCond .ne 16, 3) := by decide +kernel
theorem dX7_number_7 : decode cX7_number 7 = .ok (.aload_n 0, 1) := by decide +kernel
theorem dX7_number_8 : decode cX7_number 8 = .ok (.getfield 69, 3) := by decide +kernel
theorem dX7_number_11 : decode cX7_number 11 = .ok (.iconst 2, 1) := by decide +kernel
theorem dX7_number_12 : decode cX7_number 12 = .ok (.if_icmp .eq 8, 3) := by decide +kernel
theorem dX7_number_15 : decode cX7_number 15 = .ok (.aload_n 0, 1) := by decide +kernel
theorem dX7_number_16 : decode cX7_number 16 = .ok (.iconst 2, 1) := by decide +kernel
theorem dX7_number_17 : decode cX7_number 17 = .ok (.invokevirtual 90, 3) := by decide +kernel
theorem dX7_number_20 : decode cX7_number 20 = .ok (.aload_n 0, 1) := by decide +kernel
theorem dX7_number_21 : decode cX7_number 21 = .ok (.getfield 60, 3) := by decide +kernel
theorem dX7_number_24 : decode cX7_number 24 = .ok (.ifCond .ne 23, 3) := by decide +kernel
theorem dX7_number_27 : decode cX7_number 27 = .ok (.aload_n 0, 1) := by decide +kernel
theorem dX7_number_28 : decode cX7_number 28 = .ok (.getfield 79, 3) := by decide +kernel
theorem dX7_number_31 : decode cX7_number 31 = .ok (.i2l, 1) := by decide +kernel
theorem dX7_number_32 : decode cX7_number 32 = .ok (.iload_n 1, 1) := by decide +kernel
theorem dX7_number_33 : decode cX7_number 33 = .ok (.i2l, 1) := by decide +kernel
theorem dX7_number_34 : decode cX7_number 34 = .ok (.iload_n 2, 1) := by decide +kernel
theorem dX7_number_35 : decode cX7_number 35 = .ok (.i2l, 1) := by decide +kernel
theorem dX7_number_36 : decode cX7_number 36 = .ok (.invokestatic 53, 3) := by decide +kernel
theorem dX7_number_39 : decode cX7_number 39 = .ok (.ifCond .ne 8, 3) := by decide +kernel
theorem dX7_number_42 : decode cX7_number 42 = .ok (.aload_n 0, 1) := by decide +kernel
theorem dX7_number_43 : decode cX7_number 43 = .ok (.iconst 3, 1) := by decide +kernel
theorem dX7_number_44 : decode cX7_number 44 = .ok (.invokevirtual 90, 3) := by decide +kernel
theorem dX7_number_47 : decode cX7_number 47 = .ok (.aload_n 0, 1) := by decide +kernel
theorem dX7_number_48 : decode cX7_number 48 = .ok (.getfield 60, 3) := by decide +kernel
theorem dX7_number_51 : decode cX7_number 51 = .ok (.ifCond .ne 10, 3) := by decide +kernel
theorem dX7_number_54 : decode cX7_number 54 = .ok (.aload_n 0, 1) := by decide +kernel
theorem dX7_number_55 : decode cX7_number 55 = .ok (.getfield 79, 3) := by decide +kernel
theorem dX7_number_58 : decode cX7_number 58 = .ok (.goto 4, 3) := by decide +kernel
theorem dX7_number_61 : decode cX7_number 61 = .ok (.iload_n 1, 1) := by decide +kernel
theorem dX7_number_62 : decode cX7_number 62 = .ok (.istore_n 3, 1) := by decide +kernel
theorem dX7_number_63 : decode cX7_number 63 = .ok (.aload_n 0, 1) := by decide +kernel
theorem dX7_number_64 : decode cX7_number 64 = .ok (.invokevirtual 94, 3) := by decide +kernel
theorem dX7_number_67 : decode cX7_number 67 = .ok (.iload_n 3, 1) := by decide +kernel
theorem dX7_number_68 : decode cX7_number 68 = .ok (.ireturn, 1) := by decide +kernel
theorem dX7_townHere_0 : decode cX7_townHere 0 = .ok (.aload_n 0, 1) := by decide +kernel
theorem dX7_townHere_1 : decode cX7_townHere 1 = .ok (.iconst 0, 1) := by decide +kernel
theorem dX7_townHere_2 : decode cX7_townHere 2 = .ok (.iconst 4, 1) := by decide +kernel
theorem dX7_townHere_3 : decode cX7_townHere 3 = .ok (.invokevirtual 97, 3) := by decide +kernel
theorem dX7_townHere_6 : decode cX7_townHere 6 = .ok (.istore_n 1, 1) := by decide +kernel
theorem dX7_townHere_7 : decode cX7_townHere 7 = .ok (.aload_n 0, 1) := by decide +kernel
theorem dX7_townHere_8 : decode cX7_townHere 8 = .ok (.iload_n 1, 1) := by decide +kernel
theorem dX7_townHere_9 : decode cX7_townHere 9 = .ok (.aload_n 0, 1) := by decide +kernel
theorem dX7_townHere_10 : decode cX7_townHere 10 = .ok (.getfield 101, 3) := by decide +kernel
theorem dX7_townHere_13 : decode cX7_townHere 13 = .ok (.if_icmp .le 7, 3) := by decide +kernel
theorem dX7_townHere_16 : decode cX7_townHere 16 = .ok (.iload_n 1, 1) := by decide +kernel
theorem dX7_townHere_17 : decode cX7_townHere 17 = .ok (.goto 7, 3) := by decide +kernel
theorem dX7_townHere_20 : decode cX7_townHere 20 = .ok (.aload_n 0, 1) := by decide +kernel
theorem dX7_townHere_21 : decode cX7_townHere 21 = .ok (.getfield 101, 3) := by decide +kernel
theorem dX7_townHere_24 : decode cX7_townHere 24 = .ok (.putfield 101, 3) := by decide +kernel
theorem dX7_townHere_27 : decode cX7_townHere 27 = .ok (.iload_n 1, 1) := by decide +kernel
theorem dX7_townHere_28 : decode cX7_townHere 28 = .ok (.ireturn, 1) := by decide +kernel
theorem dX7_readMore_0 : decode cX7_readMore 0 = .ok (.iload_n 1, 1) := by decide +kernel
theorem dX7_readMore_1 : decode cX7_readMore 1 = .ok (.iconst 3, 1) := by decide +kernel
theorem dX7_readMore_2 : decode cX7_readMore 2 = .ok (.if_icmp .gt 42, 3) := by decide +kernel
theorem dX7_readMore_5 : decode cX7_readMore 5 = .ok (.aload_n 0, 1) := by decide +kernel
theorem dX7_readMore_6 : decode cX7_readMore 6 = .ok (.getfield 13, 3) := by decide +kernel
theorem dX7_readMore_9 : decode cX7_readMore 9 = .ok (.aload_n 0, 1) := by decide +kernel
theorem dX7_readMore_10 : decode cX7_readMore 10 = .ok (.getfield 104, 3) := by decide +kernel
theorem dX7_readMore_13 : decode cX7_readMore 13 = .ok (.iload_n 1, 1) := by decide +kernel
theorem dX7_readMore_14 : decode cX7_readMore 14 = .ok (.iastore, 1) := by decide +kernel
theorem dX7_readMore_15 : decode cX7_readMore 15 = .ok (.aload_n 0, 1) := by decide +kernel
theorem dX7_readMore_16 : decode cX7_readMore 16 = .ok (.getfield 13, 3) := by decide +kernel
theorem dX7_readMore_19 : decode cX7_readMore 19 = .ok (.iconst 5, 1) := by decide +kernel
theorem dX7_readMore_20 : decode cX7_readMore 20 = .ok (.aload_n 0, 1) := by decide +kernel
theorem dX7_readMore_21 : decode cX7_readMore 21 = .ok (.getfield 104, 3) := by decide +kernel
theorem dX7_readMore_24 : decode cX7_readMore 24 = .ok (.iadd, 1) := by decide +kernel
theorem dX7_readMore_25 : decode cX7_readMore 25 = .ok (.aload_n 0, 1) := by decide +kernel
theorem dX7_readMore_26 : decode cX7_readMore 26 = .ok (.iconst 0, 1) := by decide +kernel
theorem dX7_readMore_27 : decode cX7_readMore 27 = .ok (.bipush 20, 2) := by decide +kernel
theorem dX7_readMore_29 : decode cX7_readMore 29 = .ok (.invokevirtual 97, 3) := by decide +kernel
theorem dX7_readMore_32 : decode cX7_readMore 32 = .ok (.iastore, 1) := by decide +kernel
theorem dX7_readMore_33 : decode cX7_readMore 33 = .ok (.aload_n 0, 1) := by decide +kernel
theorem dX7_readMore_34 : decode cX7_readMore 34 = .ok (.dup, 1) := by decide +kernel
theorem dX7_readMore_35 : decode cX7_readMore 35 = .ok (.getfield 104, 3) := by decide +kernel
theorem dX7_readMore_38 : decode cX7_readMore 38 = .ok (.iconst 1, 1) := by decide +kernel
theorem dX7_readMore_39 : decode cX7_readMore 39 = .ok (.iadd, 1) := by decide +kernel
theorem dX7_readMore_40 : decode cX7_readMore 40 = .ok (.putfield 104, 3) := by decide +kernel
theorem dX7_readMore_43 : decode cX7_readMore 43 = .ok (.return_, 1) := by decide +kernel
theorem dX7_readMore_44 : decode cX7_readMore 44 = .ok (.aload_n 0, 1) := by decide +kernel
theorem dX7_readMore_45 : decode cX7_readMore 45 = .ok (.getfield 13, 3) := by decide +kernel
theorem dX7_readMore_48 : decode cX7_readMore 48 = .ok (.bipush 40, 2) := by decide +kernel
theorem dX7_readMore_50 : decode cX7_readMore 50 = .ok (.iaload, 1) := by decide +kernel
theorem dX7_readMore_51 : decode cX7_readMore 51 = .ok (.istore_n 2, 1) := by decide +kernel
theorem dX7_readMore_52 : decode cX7_readMore 52 = .ok (.aload_n 0, 1) := by decide +kernel
theorem dX7_readMore_53 : decode cX7_readMore 53 = .ok (.invokevirtual 107, 3) := by decide +kernel
theorem dX7_readMore_56 : decode cX7_readMore 56 = .ok (.istore_n 3, 1) := by decide +kernel
theorem dX7_readMore_57 : decode cX7_readMore 57 = .ok (.aload_n 0, 1) := by decide +kernel
theorem dX7_readMore_58 : decode cX7_readMore 58 = .ok (.getfield 60, 3) := by decide +kernel
theorem dX7_readMore_61 : decode cX7_readMore 61 = .ok (.ifCond .ne 24, 3) := by decide +kernel
theorem dX7_readMore_64 : decode cX7_readMore 64 = .ok (.aload_n 0, 1) := by decide +kernel
theorem dX7_readMore_65 : decode cX7_readMore 65 = .ok (.getfield 69, 3) := by decide +kernel
theorem dX7_readMore_68 : decode cX7_readMore 68 = .ok (.iconst 2, 1) := by decide +kernel
theorem dX7_readMore_69 : decode cX7_readMore 69 = .ok (.if_icmp .ne 16, 3) := by decide +kernel
theorem dX7_readMore_72 : decode cX7_readMore 72 = .ok (.aload_n 0, 1) := by decide +kernel
theorem dX7_readMore_73 : decode cX7_readMore 73 = .ok (.getfield 79, 3) := by decide +kernel
theorem dX7_readMore_76 : decode cX7_readMore 76 = .ok (.iload_n 3, 1) := by decide +kernel
theorem dX7_readMore_77 : decode cX7_readMore 77 = .ok (.if_icmp .ne 8, 3) := by decide +kernel
theorem dX7_readMore_80 : decode cX7_readMore 80 = .ok (.aload_n 0, 1) := by decide +kernel
theorem dX7_readMore_81 : decode cX7_readMore 81 = .ok (.iconst 3, 1) := by decide +kernel
theorem dX7_readMore_82 : decode cX7_readMore 82 = .ok (.invokevirtual 90, 3) := by decide +kernel
theorem dX7_readMore_85 : decode cX7_readMore 85 = .ok (.aload_n 0, 1) := by decide +kernel
theorem dX7_readMore_86 : decode cX7_readMore 86 = .ok (.getfield 13, 3) := by decide +kernel
theorem dX7_readMore_89 : decode cX7_readMore 89 = .ok (.bipush 20, 2) := by decide +kernel
theorem dX7_readMore_91 : decode cX7_readMore 91 = .ok (.iload_n 2, 1) := by decide +kernel
theorem dX7_readMore_92 : decode cX7_readMore 92 = .ok (.iadd, 1) := by decide +kernel
theorem dX7_readMore_93 : decode cX7_readMore 93 = .ok (.iload_n 3, 1) := by decide +kernel
theorem dX7_readMore_94 : decode cX7_readMore 94 = .ok (.iastore, 1) := by decide +kernel
theorem dX7_readMore_95 : decode cX7_readMore 95 = .ok (.aload_n 0, 1) := by decide +kernel
theorem dX7_readMore_96 : decode cX7_readMore 96 = .ok (.getfield 13, 3) := by decide +kernel
theorem dX7_readMore_99 : decode cX7_readMore 99 = .ok (.bipush 30, 2) := by decide +kernel
theorem dX7_readMore_101 : decode cX7_readMore 101 = .ok (.iload_n 2, 1) := by decide +kernel
theorem dX7_readMore_102 : decode cX7_readMore 102 = .ok (.iadd, 1) := by decide +kernel
theorem dX7_readMore_103 : decode cX7_readMore 103 = .ok (.aload_n 0, 1) := by decide +kernel
theorem dX7_readMore_104 : decode cX7_readMore 104 = .ok (.invokevirtual 107, 3) := by decide +kernel
theorem dX7_readMore_107 : decode cX7_readMore 107 = .ok (.iastore, 1) := by decide +kernel
theorem dX7_readMore_108 : decode cX7_readMore 108 = .ok (.aload_n 0, 1) := by decide +kernel
theorem dX7_readMore_109 : decode cX7_readMore 109 = .ok (.getfield 13, 3) := by decide +kernel
theorem dX7_readMore_112 : decode cX7_readMore 112 = .ok (.bipush 40, 2) := by decide +kernel
theorem dX7_readMore_114 : decode cX7_readMore 114 = .ok (.dup2, 1) := by decide +kernel
theorem dX7_readMore_115 : decode cX7_readMore 115 = .ok (.iaload, 1) := by decide +kernel
theorem dX7_readMore_116 : decode cX7_readMore 116 = .ok (.iconst 1, 1) := by decide +kernel
theorem dX7_readMore_117 : decode cX7_readMore 117 = .ok (.iadd, 1) := by decide +kernel
theorem dX7_readMore_118 : decode cX7_readMore 118 = .ok (.iastore, 1) := by decide +kernel
theorem dX7_readMore_119 : decode cX7_readMore 119 = .ok (.return_, 1) := by decide +kernel
theorem dX7_readLine_0 : decode cX7_readLine 0 = .ok (.aload_n 0, 1) := by decide +kernel
theorem dX7_readLine_1 : decode cX7_readLine 1 = .ok (.invokevirtual 111, 3) := by decide +kernel
theorem dX7_readLine_4 : decode cX7_readLine 4 = .ok (.istore_n 1, 1) := by decide +kernel
theorem dX7_readLine_5 : decode cX7_readLine 5 = .ok (.iload_n 1, 1) := by decide +kernel
theorem dX7_readLine_6 : decode cX7_readLine 6 = .ok (.i2l, 1) := by decide +kernel
theorem dX7_readLine_7 : decode cX7_readLine 7 = .ok (.lconst 0, 1) := by decide +kernel
theorem dX7_readLine_8 : decode cX7_readLine 8 = .ok (.ldc2_w 114, 3) := by decide +kernel
theorem dX7_readLine_11 : decode cX7_readLine 11 = .ok (.invokestatic 53, 3) := by decide +kernel
theorem dX7_readLine_14 : decode cX7_readLine 14 = .ok (.ifCond .ne 9, 3) := by decide +kernel
theorem dX7_readLine_17 : decode cX7_readLine 17 = .ok (.aload_n 0, 1) := by decide +kernel
theorem dX7_readLine_18 : decode cX7_readLine 18 = .ok (.iconst 2, 1) := by decide +kernel
theorem dX7_readLine_19 : decode cX7_readLine 19 = .ok (.invokevirtual 90, 3) := by decide +kernel
theorem dX7_readLine_22 : decode cX7_readLine 22 = .ok (.return_, 1) := by decide +kernel
theorem dX7_readLine_23 : decode cX7_readLine 23 = .ok (.iload_n 1, 1) := by decide +kernel
theorem dX7_readLine_24 : decode cX7_readLine 24 = .ok (.iconst 3, 1) := by decide +kernel
theorem dX7_readLine_25 : decode cX7_readLine 25 = .ok (.if_icmp .gt 11, 3) := by decide +kernel
theorem dX7_readLine_28 : decode cX7_readLine 28 = .ok (.aload_n 0, 1) := by decide +kernel
theorem dX7_readLine_29 : decode cX7_readLine 29 = .ok (.getfield 104, 3) := by decide +kernel
theorem dX7_readLine_32 : decode cX7_readLine 32 = .ok (.iconst 5, 1) := by decide +kernel
theorem dX7_readLine_33 : decode cX7_readLine 33 = .ok (.if_icmp .eq 20, 3) := by decide +kernel
theorem dX7_readLine_36 : decode cX7_readLine 36 = .ok (.iload_n 1, 1) := by decide +kernel
theorem dX7_readLine_37 : decode cX7_readLine 37 = .ok (.iconst 4, 1) := by decide +kernel
theorem dX7_readLine_38 : decode cX7_readLine 38 = .ok (.if_icmp .ne 20, 3) := by decide +kernel
theorem dX7_readLine_41 : decode cX7_readLine 41 = .ok (.aload_n 0, 1) := by decide +kernel
theorem dX7_readLine_42 : decode cX7_readLine 42 = .ok (.getfield 13, 3) := by decide +kernel
theorem dX7_readLine_45 : decode cX7_readLine 45 = .ok (.bipush 40, 2) := by decide +kernel
theorem dX7_readLine_47 : decode cX7_readLine 47 = .ok (.iaload, 1) := by decide +kernel
theorem dX7_readLine_48 : decode cX7_readLine 48 = .ok (.bipush 10, 2) := by decide +kernel
theorem dX7_readLine_50 : decode cX7_readLine 50 = .ok (.if_icmp .ne 8, 3) := by decide +kernel
theorem dX7_readLine_53 : decode cX7_readLine 53 = .ok (.aload_n 0, 1) := by decide +kernel
theorem dX7_readLine_54 : decode cX7_readLine 54 = .ok (.iconst 5, 1) := by decide +kernel
theorem dX7_readLine_55 : decode cX7_readLine 55 = .ok (.invokevirtual 90, 3) := by decide +kernel
theorem dX7_readLine_58 : decode cX7_readLine 58 = .ok (.aload_n 0, 1) := by decide +kernel
theorem dX7_readLine_59 : decode cX7_readLine 59 = .ok (.invokevirtual 94, 3) := by decide +kernel
theorem dX7_readLine_62 : decode cX7_readLine 62 = .ok (.aload_n 0, 1) := by decide +kernel
theorem dX7_readLine_63 : decode cX7_readLine 63 = .ok (.getfield 60, 3) := by decide +kernel
theorem dX7_readLine_66 : decode cX7_readLine 66 = .ok (.ifCond .le 4, 3) := by decide +kernel
theorem dX7_readLine_69 : decode cX7_readLine 69 = .ok (.return_, 1) := by decide +kernel
theorem dX7_readLine_70 : decode cX7_readLine 70 = .ok (.aload_n 0, 1) := by decide +kernel
theorem dX7_readLine_71 : decode cX7_readLine 71 = .ok (.iload_n 1, 1) := by decide +kernel
theorem dX7_readLine_72 : decode cX7_readLine 72 = .ok (.invokevirtual 116, 3) := by decide +kernel
theorem dX7_readLine_75 : decode cX7_readLine 75 = .ok (.aload_n 0, 1) := by decide +kernel
theorem dX7_readLine_76 : decode cX7_readLine 76 = .ok (.getfield 60, 3) := by decide +kernel
theorem dX7_readLine_79 : decode cX7_readLine 79 = .ok (.ifCond .ne 16, 3) := by decide +kernel
theorem dX7_readLine_82 : decode cX7_readLine 82 = .ok (.aload_n 0, 1) := by decide +kernel
theorem dX7_readLine_83 : decode cX7_readLine 83 = .ok (.getfield 69, 3) := by decide +kernel
theorem dX7_readLine_86 : decode cX7_readLine 86 = .ok (.iconst 3, 1) := by decide +kernel
theorem dX7_readLine_87 : decode cX7_readLine 87 = .ok (.if_icmp .eq 8, 3) := by decide +kernel
theorem dX7_readLine_90 : decode cX7_readLine 90 = .ok (.aload_n 0, 1) := by decide +kernel
theorem dX7_readLine_91 : decode cX7_readLine 91 = .ok (.iconst 2, 1) := by decide +kernel
theorem dX7_readLine_92 : decode cX7_readLine 92 = .ok (.invokevirtual 90, 3) := by decide +kernel
theorem dX7_readLine_95 : decode cX7_readLine 95 = .ok (.aload_n 0, 1) := by decide +kernel
theorem dX7_readLine_96 : decode cX7_readLine 96 = .ok (.invokevirtual 94, 3) := by decide +kernel
theorem dX7_readLine_99 : decode cX7_readLine 99 = .ok (.return_, 1) := by decide +kernel
theorem dX7_text_0 : decode cX7_text 0 = .ok (.aload_n 0, 1) := by decide +kernel
theorem dX7_text_1 : decode cX7_text 1 = .ok (.iconst 0, 1) := by decide +kernel
theorem dX7_text_2 : decode cX7_text 2 = .ok (.putfield 60, 3) := by decide +kernel
theorem dX7_text_5 : decode cX7_text 5 = .ok (.aload_n 0, 1) := by decide +kernel
theorem dX7_text_6 : decode cX7_text 6 = .ok (.iconst 0, 1) := by decide +kernel
theorem dX7_text_7 : decode cX7_text 7 = .ok (.putfield 72, 3) := by decide +kernel
theorem dX7_text_10 : decode cX7_text 10 = .ok (.aload_n 0, 1) := by decide +kernel
theorem dX7_text_11 : decode cX7_text 11 = .ok (.iconst 0, 1) := by decide +kernel
theorem dX7_text_12 : decode cX7_text 12 = .ok (.putfield 104, 3) := by decide +kernel
theorem dX7_text_15 : decode cX7_text 15 = .ok (.aload_n 0, 1) := by decide +kernel
theorem dX7_text_16 : decode cX7_text 16 = .ok (.iconst (-1), 1) := by decide +kernel
theorem dX7_text_17 : decode cX7_text 17 = .ok (.putfield 101, 3) := by decide +kernel
theorem dX7_text_20 : decode cX7_text 20 = .ok (.iconst 0, 1) := by decide +kernel
theorem dX7_text_21 : decode cX7_text 21 = .ok (.istore_n 1, 1) := by decide +kernel
theorem dX7_text_22 : decode cX7_text 22 = .ok (.iconst 0, 1) := by decide +kernel
theorem dX7_text_23 : decode cX7_text 23 = .ok (.istore_n 2, 1) := by decide +kernel
theorem dX7_text_24 : decode cX7_text 24 = .ok (.iload_n 2, 1) := by decide +kernel
theorem dX7_text_25 : decode cX7_text 25 = .ok (.bipush 42, 2) := by decide +kernel
theorem dX7_text_27 : decode cX7_text 27 = .ok (.if_icmp .ge 16, 3) := by decide +kernel
theorem dX7_text_30 : decode cX7_text 30 = .ok (.aload_n 0, 1) := by decide +kernel
theorem dX7_text_31 : decode cX7_text 31 = .ok (.getfield 13, 3) := by decide +kernel
theorem dX7_text_34 : decode cX7_text 34 = .ok (.iload_n 2, 1) := by decide +kernel
theorem dX7_text_35 : decode cX7_text 35 = .ok (.iconst 0, 1) := by decide +kernel
theorem dX7_text_36 : decode cX7_text 36 = .ok (.iastore, 1) := by decide +kernel
theorem dX7_text_37 : decode cX7_text 37 = .ok (.iinc 2 1, 3) := by decide +kernel
theorem dX7_text_40 : decode cX7_text 40 = .ok (.goto (-16), 3) := by decide +kernel
theorem dX7_text_43 : decode cX7_text 43 = .ok (.aload_n 0, 1) := by decide +kernel
theorem dX7_text_44 : decode cX7_text 44 = .ok (.invokevirtual 94, 3) := by decide +kernel
theorem dX7_text_47 : decode cX7_text 47 = .ok (.aload_n 0, 1) := by decide +kernel
theorem dX7_text_48 : decode cX7_text 48 = .ok (.getfield 60, 3) := by decide +kernel
theorem dX7_text_51 : decode cX7_text 51 = .ok (.ifCond .ne 20, 3) := by decide +kernel
theorem dX7_text_54 : decode cX7_text 54 = .ok (.aload_n 0, 1) := by decide +kernel
theorem dX7_text_55 : decode cX7_text 55 = .ok (.getfield 69, 3) := by decide +kernel
theorem dX7_text_58 : decode cX7_text 58 = .ok (.ifCond .eq 13, 3) := by decide +kernel
theorem dX7_text_61 : decode cX7_text 61 = .ok (.aload_n 0, 1) := by decide +kernel
theorem dX7_text_62 : decode cX7_text 62 = .ok (.invokevirtual 119, 3) := by decide +kernel
theorem dX7_text_65 : decode cX7_text 65 = .ok (.iinc 1 1, 3) := by decide +kernel
theorem dX7_text_68 : decode cX7_text 68 = .ok (.goto (-21), 3) := by decide +kernel
theorem dX7_text_71 : decode cX7_text 71 = .ok (.aload_n 0, 1) := by decide +kernel
theorem dX7_text_72 : decode cX7_text 72 = .ok (.getfield 60, 3) := by decide +kernel
theorem dX7_text_75 : decode cX7_text 75 = .ok (.ifCond .ne 20, 3) := by decide +kernel
theorem dX7_text_78 : decode cX7_text 78 = .ok (.aload_n 0, 1) := by decide +kernel
theorem dX7_text_79 : decode cX7_text 79 = .ok (.getfield 101, 3) := by decide +kernel
theorem dX7_text_82 : decode cX7_text 82 = .ok (.aload_n 0, 1) := by decide +kernel
theorem dX7_text_83 : decode cX7_text 83 = .ok (.getfield 104, 3) := by decide +kernel
theorem dX7_text_86 : decode cX7_text 86 = .ok (.if_icmp .lt 9, 3) := by decide +kernel
theorem dX7_text_89 : decode cX7_text 89 = .ok (.aload_n 0, 1) := by decide +kernel
theorem dX7_text_90 : decode cX7_text 90 = .ok (.bipush 6, 2) := by decide +kernel
theorem dX7_text_92 : decode cX7_text 92 = .ok (.invokevirtual 90, 3) := by decide +kernel
theorem dX7_text_95 : decode cX7_text 95 = .ok (.aload_n 0, 1) := by decide +kernel
theorem dX7_text_96 : decode cX7_text 96 = .ok (.iconst 0, 1) := by decide +kernel
theorem dX7_text_97 : decode cX7_text 97 = .ok (.putfield 57, 3) := by decide +kernel
theorem dX7_text_100 : decode cX7_text 100 = .ok (.aload_n 0, 1) := by decide +kernel
theorem dX7_text_101 : decode cX7_text 101 = .ok (.aload_n 0, 1) := by decide +kernel
theorem dX7_text_102 : decode cX7_text 102 = .ok (.getfield 60, 3) := by decide +kernel
theorem dX7_text_105 : decode cX7_text 105 = .ok (.putfield 122, 3) := by decide +kernel
theorem dX7_text_108 : decode cX7_text 108 = .ok (.aload_n 0, 1) := by decide +kernel
theorem dX7_text_109 : decode cX7_text 109 = .ok (.getfield 60, 3) := by decide +kernel
theorem dX7_text_112 : decode cX7_text 112 = .ok (.ifCond .le 11, 3) := by decide +kernel
theorem dX7_text_115 : decode cX7_text 115 = .ok (.bipush (-10), 2) := by decide +kernel
theorem dX7_text_117 : decode cX7_text 117 = .ok (.aload_n 0, 1) := by decide +kernel
theorem dX7_text_118 : decode cX7_text 118 = .ok (.getfield 66, 3) := by decide +kernel
theorem dX7_text_121 : decode cX7_text 121 = .ok (.isub, 1) := by decide +kernel
theorem dX7_text_122 : decode cX7_text 122 = .ok (.ireturn, 1) := by decide +kernel
theorem dX7_text_123 : decode cX7_text 123 = .ok (.iconst 0, 1) := by decide +kernel
theorem dX7_text_124 : decode cX7_text 124 = .ok (.istore_n 2, 1) := by decide +kernel
theorem dX7_text_125 : decode cX7_text 125 = .ok (.iload_n 2, 1) := by decide +kernel
theorem dX7_text_126 : decode cX7_text 126 = .ok (.bipush 42, 2) := by decide +kernel
theorem dX7_text_128 : decode cX7_text 128 = .ok (.if_icmp .ge 21, 3) := by decide +kernel
theorem dX7_text_131 : decode cX7_text 131 = .ok (.aload_n 0, 1) := by decide +kernel
theorem dX7_text_132 : decode cX7_text 132 = .ok (.getfield 7, 3) := by decide +kernel
theorem dX7_text_135 : decode cX7_text 135 = .ok (.iload_n 2, 1) := by decide +kernel
theorem dX7_text_136 : decode cX7_text 136 = .ok (.aload_n 0, 1) := by decide +kernel
theorem dX7_text_137 : decode cX7_text 137 = .ok (.getfield 13, 3) := by decide +kernel
theorem dX7_text_140 : decode cX7_text 140 = .ok (.iload_n 2, 1) := by decide +kernel
theorem dX7_text_141 : decode cX7_text 141 = .ok (.iaload, 1) := by decide +kernel
theorem dX7_text_142 : decode cX7_text 142 = .ok (.iastore, 1) := by decide +kernel
theorem dX7_text_143 : decode cX7_text 143 = .ok (.iinc 2 1, 3) := by decide +kernel
theorem dX7_text_146 : decode cX7_text 146 = .ok (.goto (-21), 3) := by decide +kernel
theorem dX7_text_149 : decode cX7_text 149 = .ok (.aload_n 0, 1) := by decide +kernel
theorem dX7_text_150 : decode cX7_text 150 = .ok (.aload_n 0, 1) := by decide +kernel
theorem dX7_text_151 : decode cX7_text 151 = .ok (.getfield 104, 3) := by decide +kernel
theorem dX7_text_154 : decode cX7_text 154 = .ok (.putfield 125, 3) := by decide +kernel
theorem dX7_text_157 : decode cX7_text 157 = .ok (.aload_n 0, 1) := by decide +kernel
theorem dX7_text_158 : decode cX7_text 158 = .ok (.iconst 0, 1) := by decide +kernel
theorem dX7_text_159 : decode cX7_text 159 = .ok (.putfield 128, 3) := by decide +kernel
theorem dX7_text_162 : decode cX7_text 162 = .ok (.aload_n 0, 1) := by decide +kernel
theorem dX7_text_163 : decode cX7_text 163 = .ok (.getfield 38, 3) := by decide +kernel
theorem dX7_text_166 : decode cX7_text 166 = .ok (.iconst 0, 1) := by decide +kernel
theorem dX7_text_167 : decode cX7_text 167 = .ok (.iconst 0, 1) := by decide +kernel
theorem dX7_text_168 : decode cX7_text 168 = .ok (.bastore, 1) := by decide +kernel
theorem dX7_text_169 : decode cX7_text 169 = .ok (.aload_n 0, 1) := by decide +kernel
theorem dX7_text_170 : decode cX7_text 170 = .ok (.getfield 38, 3) := by decide +kernel
theorem dX7_text_173 : decode cX7_text 173 = .ok (.iconst 1, 1) := by decide +kernel
theorem dX7_text_174 : decode cX7_text 174 = .ok (.iconst 0, 1) := by decide +kernel
theorem dX7_text_175 : decode cX7_text 175 = .ok (.bastore, 1) := by decide +kernel
theorem dX7_text_176 : decode cX7_text 176 = .ok (.iload_n 1, 1) := by decide +kernel
theorem dX7_text_177 : decode cX7_text 177 = .ok (.ireturn, 1) := by decide +kernel
theorem dX7_fault_0 : decode cX7_fault 0 = .ok (.aload_n 0, 1) := by decide +kernel
theorem dX7_fault_1 : decode cX7_fault 1 = .ok (.getfield 122, 3) := by decide +kernel
theorem dX7_fault_4 : decode cX7_fault 4 = .ok (.ireturn, 1) := by decide +kernel
theorem dX7_isTown_0 : decode cX7_isTown 0 = .ok (.iload_n 1, 1) := by decide +kernel
theorem dX7_isTown_1 : decode cX7_isTown 1 = .ok (.i2l, 1) := by decide +kernel
theorem dX7_isTown_2 : decode cX7_isTown 2 = .ok (.lconst 0, 1) := by decide +kernel
theorem dX7_isTown_3 : decode cX7_isTown 3 = .ok (.aload_n 0, 1) := by decide +kernel
theorem dX7_isTown_4 : decode cX7_isTown 4 = .ok (.getfield 125, 3) := by decide +kernel
theorem dX7_isTown_7 : decode cX7_isTown 7 = .ok (.iconst 1, 1) := by decide +kernel
theorem dX7_isTown_8 : decode cX7_isTown 8 = .ok (.isub, 1) := by decide +kernel
theorem dX7_isTown_9 : decode cX7_isTown 9 = .ok (.i2l, 1) := by decide +kernel
theorem dX7_isTown_10 : decode cX7_isTown 10 = .ok (.invokestatic 53, 3) := by decide +kernel
theorem dX7_isTown_13 : decode cX7_isTown 13 = .ok (.ireturn, 1) := by decide +kernel
theorem dX7_isPair_0 : decode cX7_isPair 0 = .ok (.aload_n 0, 1) := by decide +kernel
theorem dX7_isPair_1 : decode cX7_isPair 1 = .ok (.iload_n 1, 1) := by decide +kernel
theorem dX7_isPair_2 : decode cX7_isPair 2 = .ok (.invokevirtual 131, 3) := by decide +kernel
theorem dX7_isPair_5 : decode cX7_isPair 5 = .ok (.ifCond .eq 20, 3) := by decide +kernel
theorem dX7_isPair_8 : decode cX7_isPair 8 = .ok (.aload_n 0, 1) := by decide +kernel
theorem dX7_isPair_9 : decode cX7_isPair 9 = .ok (.iload_n 2, 1) := by decide +kernel
theorem dX7_isPair_10 : decode cX7_isPair 10 = .ok (.invokevirtual 131, 3) := by decide +kernel
theorem dX7_isPair_13 : decode cX7_isPair 13 = .ok (.ifCond .eq 12, 3) := by decide +kernel
theorem dX7_isPair_16 : decode cX7_isPair 16 = .ok (.iload_n 1, 1) := by decide +kernel
theorem dX7_isPair_17 : decode cX7_isPair 17 = .ok (.iload_n 2, 1) := by decide +kernel
theorem dX7_isPair_18 : decode cX7_isPair 18 = .ok (.if_icmp .eq 7, 3) := by decide +kernel
theorem dX7_isPair_21 : decode cX7_isPair 21 = .ok (.iconst 1, 1) := by decide +kernel
theorem dX7_isPair_22 : decode cX7_isPair 22 = .ok (.goto 4, 3) := by decide +kernel
theorem dX7_isPair_25 : decode cX7_isPair 25 = .ok (.iconst 0, 1) := by decide +kernel
theorem dX7_isPair_26 : decode cX7_isPair 26 = .ok (.ireturn, 1) := by decide +kernel
theorem dX7_isFixture_0 : decode cX7_isFixture 0 = .ok (.iload_n 1, 1) := by decide +kernel
theorem dX7_isFixture_1 : decode cX7_isFixture 1 = .ok (.i2l, 1) := by decide +kernel
theorem dX7_isFixture_2 : decode cX7_isFixture 2 = .ok (.lconst 0, 1) := by decide +kernel
theorem dX7_isFixture_3 : decode cX7_isFixture 3 = .ok (.aload_n 0, 1) := by decide +kernel
theorem dX7_isFixture_4 : decode cX7_isFixture 4 = .ok (.getfield 7, 3) := by decide +kernel
theorem dX7_isFixture_7 : decode cX7_isFixture 7 = .ok (.bipush 40, 2) := by decide +kernel
theorem dX7_isFixture_9 : decode cX7_isFixture 9 = .ok (.iaload, 1) := by decide +kernel
theorem dX7_isFixture_10 : decode cX7_isFixture 10 = .ok (.iconst 1, 1) := by decide +kernel
theorem dX7_isFixture_11 : decode cX7_isFixture 11 = .ok (.isub, 1) := by decide +kernel
theorem dX7_isFixture_12 : decode cX7_isFixture 12 = .ok (.i2l, 1) := by decide +kernel
theorem dX7_isFixture_13 : decode cX7_isFixture 13 = .ok (.invokestatic 53, 3) := by decide +kernel
theorem dX7_isFixture_16 : decode cX7_isFixture 16 = .ok (.ireturn, 1) := by decide +kernel
theorem dX7_playsOn_0 : decode cX7_playsOn 0 = .ok (.aload_n 0, 1) := by decide +kernel
theorem dX7_playsOn_1 : decode cX7_playsOn 1 = .ok (.getfield 7, 3) := by decide +kernel
theorem dX7_playsOn_4 : decode cX7_playsOn 4 = .ok (.iload_n 1, 1) := by decide +kernel
theorem dX7_playsOn_5 : decode cX7_playsOn 5 = .ok (.iload_n 2, 1) := by decide +kernel
theorem dX7_playsOn_6 : decode cX7_playsOn 6 = .ok (.iadd, 1) := by decide +kernel
theorem dX7_playsOn_7 : decode cX7_playsOn 7 = .ok (.iaload, 1) := by decide +kernel
theorem dX7_playsOn_8 : decode cX7_playsOn 8 = .ok (.istore_n 3, 1) := by decide +kernel
theorem dX7_playsOn_9 : decode cX7_playsOn 9 = .ok (.aload_n 0, 1) := by decide +kernel
theorem dX7_playsOn_10 : decode cX7_playsOn 10 = .ok (.getfield 7, 3) := by decide +kernel
theorem dX7_playsOn_13 : decode cX7_playsOn 13 = .ok (.iload_n 1, 1) := by decide +kernel
theorem dX7_playsOn_14 : decode cX7_playsOn 14 = .ok (.iconst 5, 1) := by decide +kernel
theorem dX7_playsOn_15 : decode cX7_playsOn 15 = .ok (.iadd, 1) := by decide +kernel
theorem dX7_playsOn_16 : decode cX7_playsOn 16 = .ok (.iload_n 2, 1) := by decide +kernel
theorem dX7_playsOn_17 : decode cX7_playsOn 17 = .ok (.iadd, 1) := by decide +kernel
theorem dX7_playsOn_18 : decode cX7_playsOn 18 = .ok (.iaload, 1) := by decide +kernel
theorem dX7_playsOn_19 : decode cX7_playsOn 19 = .ok (.istore 4, 2) := by decide +kernel
theorem dX7_playsOn_21 : decode cX7_playsOn 21 = .ok (.aload_n 0, 1) := by decide +kernel
theorem dX7_playsOn_22 : decode cX7_playsOn 22 = .ok (.getfield 7, 3) := by decide +kernel
theorem dX7_playsOn_25 : decode cX7_playsOn 25 = .ok (.iload_n 1, 1) := by decide +kernel
theorem dX7_playsOn_26 : decode cX7_playsOn 26 = .ok (.bipush 10, 2) := by decide +kernel
theorem dX7_playsOn_28 : decode cX7_playsOn 28 = .ok (.iadd, 1) := by decide +kernel
theorem dX7_playsOn_29 : decode cX7_playsOn 29 = .ok (.iload_n 2, 1) := by decide +kernel
theorem dX7_playsOn_30 : decode cX7_playsOn 30 = .ok (.iadd, 1) := by decide +kernel
theorem dX7_playsOn_31 : decode cX7_playsOn 31 = .ok (.iaload, 1) := by decide +kernel
theorem dX7_playsOn_32 : decode cX7_playsOn 32 = .ok (.ifCond .ne 10, 3) := by decide +kernel
theorem dX7_playsOn_35 : decode cX7_playsOn 35 = .ok (.iload 4, 2) := by decide +kernel
theorem dX7_playsOn_37 : decode cX7_playsOn 37 = .ok (.iconst 2, 1) := by decide +kernel
theorem dX7_playsOn_38 : decode cX7_playsOn 38 = .ok (.idiv, 1) := by decide +kernel
theorem dX7_playsOn_39 : decode cX7_playsOn 39 = .ok (.goto 5, 3) := by decide +kernel
theorem dX7_playsOn_42 : decode cX7_playsOn 42 = .ok (.iload 4, 2) := by decide +kernel
theorem dX7_playsOn_44 : decode cX7_playsOn 44 = .ok (.istore 5, 2) := by decide +kernel
theorem dX7_playsOn_46 : decode cX7_playsOn 46 = .ok (.iload_n 3, 1) := by decide +kernel
theorem dX7_playsOn_47 : decode cX7_playsOn 47 = .ok (.ifCond .ne 8, 3) := by decide +kernel
theorem dX7_playsOn_50 : decode cX7_playsOn 50 = .ok (.iload 4, 2) := by decide +kernel
theorem dX7_playsOn_52 : decode cX7_playsOn 52 = .ok (.goto 39, 3) := by decide +kernel
theorem dX7_playsOn_55 : decode cX7_playsOn 55 = .ok (.iload_n 3, 1) := by decide +kernel
theorem dX7_playsOn_56 : decode cX7_playsOn 56 = .ok (.iconst 1, 1) := by decide +kernel
theorem dX7_playsOn_57 : decode cX7_playsOn 57 = .ok (.if_icmp .ne 10, 3) := by decide +kernel
theorem dX7_playsOn_60 : decode cX7_playsOn 60 = .ok (.iload 4, 2) := by decide +kernel
theorem dX7_playsOn_62 : decode cX7_playsOn 62 = .ok (.iconst 3, 1) := by decide +kernel
theorem dX7_playsOn_63 : decode cX7_playsOn 63 = .ok (.iadd, 1) := by decide +kernel
theorem dX7_playsOn_64 : decode cX7_playsOn 64 = .ok (.goto 27, 3) := by decide +kernel
theorem dX7_playsOn_67 : decode cX7_playsOn 67 = .ok (.iload_n 3, 1) := by decide +kernel
theorem dX7_playsOn_68 : decode cX7_playsOn 68 = .ok (.iconst 2, 1) := by decide +kernel
theorem dX7_playsOn_69 : decode cX7_playsOn 69 = .ok (.if_icmp .ne 8, 3) := by decide +kernel
theorem dX7_playsOn_72 : decode cX7_playsOn 72 = .ok (.iload 5, 2) := by decide +kernel
theorem dX7_playsOn_74 : decode cX7_playsOn 74 = .ok (.goto 17, 3) := by decide +kernel
theorem dX7_playsOn_77 : decode cX7_playsOn 77 = .ok (.iload 5, 2) := by decide +kernel
theorem dX7_playsOn_79 : decode cX7_playsOn 79 = .ok (.iconst 2, 1) := by decide +kernel
theorem dX7_playsOn_80 : decode cX7_playsOn 80 = .ok (.if_icmp .le 10, 3) := by decide +kernel
theorem dX7_playsOn_83 : decode cX7_playsOn 83 = .ok (.iload 5, 2) := by decide +kernel
theorem dX7_playsOn_85 : decode cX7_playsOn 85 = .ok (.iconst 2, 1) := by decide +kernel
theorem dX7_playsOn_86 : decode cX7_playsOn 86 = .ok (.isub, 1) := by decide +kernel
theorem dX7_playsOn_87 : decode cX7_playsOn 87 = .ok (.goto 4, 3) := by decide +kernel
theorem dX7_playsOn_90 : decode cX7_playsOn 90 = .ok (.iconst 0, 1) := by decide +kernel
theorem dX7_playsOn_91 : decode cX7_playsOn 91 = .ok (.ireturn, 1) := by decide +kernel
theorem dX7_gameOn_0 : decode cX7_gameOn 0 = .ok (.aload_n 0, 1) := by decide +kernel
theorem dX7_gameOn_1 : decode cX7_gameOn 1 = .ok (.iload_n 1, 1) := by decide +kernel
theorem dX7_gameOn_2 : decode cX7_gameOn 2 = .ok (.iload_n 2, 1) := by decide +kernel
theorem dX7_gameOn_3 : decode cX7_gameOn 3 = .ok (.invokevirtual 135, 3) := by decide +kernel
theorem dX7_gameOn_6 : decode cX7_gameOn 6 = .ok (.istore 4, 2) := by decide +kernel
theorem dX7_gameOn_8 : decode cX7_gameOn 8 = .ok (.aload_n 0, 1) := by decide +kernel
theorem dX7_gameOn_9 : decode cX7_gameOn 9 = .ok (.iload_n 1, 1) := by decide +kernel
theorem dX7_gameOn_10 : decode cX7_gameOn 10 = .ok (.iload_n 3, 1) := by decide +kernel
theorem dX7_gameOn_11 : decode cX7_gameOn 11 = .ok (.invokevirtual 135, 3) := by decide +kernel
theorem dX7_gameOn_14 : decode cX7_gameOn 14 = .ok (.istore 5, 2) := by decide +kernel
theorem dX7_gameOn_16 : decode cX7_gameOn 16 = .ok (.iload 4, 2) := by decide +kernel
theorem dX7_gameOn_18 : decode cX7_gameOn 18 = .ok (.iload 5, 2) := by decide +kernel
theorem dX7_gameOn_20 : decode cX7_gameOn 20 = .ok (.if_icmp .ge 7, 3) := by decide +kernel
theorem dX7_gameOn_23 : decode cX7_gameOn 23 = .ok (.iload_n 2, 1) := by decide +kernel
theorem dX7_gameOn_24 : decode cX7_gameOn 24 = .ok (.goto 16, 3) := by decide +kernel
theorem dX7_gameOn_27 : decode cX7_gameOn 27 = .ok (.iload 5, 2) := by decide +kernel
theorem dX7_gameOn_29 : decode cX7_gameOn 29 = .ok (.iload 4, 2) := by decide +kernel
theorem dX7_gameOn_31 : decode cX7_gameOn 31 = .ok (.if_icmp .ge 7, 3) := by decide +kernel
theorem dX7_gameOn_34 : decode cX7_gameOn 34 = .ok (.iload_n 3, 1) := by decide +kernel
theorem dX7_gameOn_35 : decode cX7_gameOn 35 = .ok (.goto 5, 3) := by decide +kernel
theorem dX7_gameOn_38 : decode cX7_gameOn 38 = .ok (.bipush (-4), 2) := by decide +kernel
theorem dX7_gameOn_40 : decode cX7_gameOn 40 = .ok (.ireturn, 1) := by decide +kernel
theorem dX7_playedOn_0 : decode cX7_playedOn 0 = .ok (.aload_n 0, 1) := by decide +kernel
theorem dX7_playedOn_1 : decode cX7_playedOn 1 = .ok (.aload_n 0, 1) := by decide +kernel
theorem dX7_playedOn_2 : decode cX7_playedOn 2 = .ok (.iload_n 1, 1) := by decide +kernel
theorem dX7_playedOn_3 : decode cX7_playedOn 3 = .ok (.iload_n 2, 1) := by decide +kernel
theorem dX7_playedOn_4 : decode cX7_playedOn 4 = .ok (.iload_n 3, 1) := by decide +kernel
theorem dX7_playedOn_5 : decode cX7_playedOn 5 = .ok (.invokevirtual 138, 3) := by decide +kernel
theorem dX7_playedOn_8 : decode cX7_playedOn 8 = .ok (.putfield 142, 3) := by decide +kernel
theorem dX7_playedOn_11 : decode cX7_playedOn 11 = .ok (.aload_n 0, 1) := by decide +kernel
theorem dX7_playedOn_12 : decode cX7_playedOn 12 = .ok (.getfield 142, 3) := by decide +kernel
theorem dX7_playedOn_15 : decode cX7_playedOn 15 = .ok (.bipush (-4), 2) := by decide +kernel
theorem dX7_playedOn_17 : decode cX7_playedOn 17 = .ok (.if_icmp .ne 14, 3) := by decide +kernel
theorem dX7_playedOn_20 : decode cX7_playedOn 20 = .ok (.aload_n 0, 1) := by decide +kernel
theorem dX7_playedOn_21 : decode cX7_playedOn 21 = .ok (.dup, 1) := by decide +kernel
theorem dX7_playedOn_22 : decode cX7_playedOn 22 = .ok (.getfield 145, 3) := by decide +kernel
theorem dX7_playedOn_25 : decode cX7_playedOn 25 = .ok (.iconst 1, 1) := by decide +kernel
theorem dX7_playedOn_26 : decode cX7_playedOn 26 = .ok (.iadd, 1) := by decide +kernel
theorem dX7_playedOn_27 : decode cX7_playedOn 27 = .ok (.putfield 145, 3) := by decide +kernel
theorem dX7_playedOn_30 : decode cX7_playedOn 30 = .ok (.return_, 1) := by decide +kernel
theorem dX7_playedOn_31 : decode cX7_playedOn 31 = .ok (.aload_n 0, 1) := by decide +kernel
theorem dX7_playedOn_32 : decode cX7_playedOn 32 = .ok (.getfield 142, 3) := by decide +kernel
theorem dX7_playedOn_35 : decode cX7_playedOn 35 = .ok (.iload_n 2, 1) := by decide +kernel
theorem dX7_playedOn_36 : decode cX7_playedOn 36 = .ok (.if_icmp .ne 7, 3) := by decide +kernel
theorem dX7_playedOn_39 : decode cX7_playedOn 39 = .ok (.iload_n 3, 1) := by decide +kernel
theorem dX7_playedOn_40 : decode cX7_playedOn 40 = .ok (.goto 4, 3) := by decide +kernel
theorem dX7_playedOn_43 : decode cX7_playedOn 43 = .ok (.iload_n 2, 1) := by decide +kernel
theorem dX7_playedOn_44 : decode cX7_playedOn 44 = .ok (.istore 4, 2) := by decide +kernel
theorem dX7_playedOn_46 : decode cX7_playedOn 46 = .ok (.aload_n 0, 1) := by decide +kernel
theorem dX7_playedOn_47 : decode cX7_playedOn 47 = .ok (.getfield 7, 3) := by decide +kernel
theorem dX7_playedOn_50 : decode cX7_playedOn 50 = .ok (.iload_n 1, 1) := by decide +kernel
theorem dX7_playedOn_51 : decode cX7_playedOn 51 = .ok (.aload_n 0, 1) := by decide +kernel
theorem dX7_playedOn_52 : decode cX7_playedOn 52 = .ok (.getfield 142, 3) := by decide +kernel
theorem dX7_playedOn_55 : decode cX7_playedOn 55 = .ok (.iadd, 1) := by decide +kernel
theorem dX7_playedOn_56 : decode cX7_playedOn 56 = .ok (.iaload, 1) := by decide +kernel
theorem dX7_playedOn_57 : decode cX7_playedOn 57 = .ok (.istore 5, 2) := by decide +kernel
theorem dX7_playedOn_59 : decode cX7_playedOn 59 = .ok (.aload_n 0, 1) := by decide +kernel
theorem dX7_playedOn_60 : decode cX7_playedOn 60 = .ok (.getfield 7, 3) := by decide +kernel
theorem dX7_playedOn_63 : decode cX7_playedOn 63 = .ok (.iload_n 1, 1) := by decide +kernel
theorem dX7_playedOn_64 : decode cX7_playedOn 64 = .ok (.iconst 5, 1) := by decide +kernel
theorem dX7_playedOn_65 : decode cX7_playedOn 65 = .ok (.iadd, 1) := by decide +kernel
theorem dX7_playedOn_66 : decode cX7_playedOn 66 = .ok (.aload_n 0, 1) := by decide +kernel
theorem dX7_playedOn_67 : decode cX7_playedOn 67 = .ok (.getfield 142, 3) := by decide +kernel
theorem dX7_playedOn_70 : decode cX7_playedOn 70 = .ok (.iadd, 1) := by decide +kernel
theorem dX7_playedOn_71 : decode cX7_playedOn 71 = .ok (.iaload, 1) := by decide +kernel
theorem dX7_playedOn_72 : decode cX7_playedOn 72 = .ok (.iload 5, 2) := by decide +kernel
theorem dX7_playedOn_74 : decode cX7_playedOn 74 = .ok (.iconst 1, 1) := by decide +kernel
theorem dX7_playedOn_75 : decode cX7_playedOn 75 = .ok (.if_icmp .ne 7, 3) := by decide +kernel
theorem dX7_playedOn_78 : decode cX7_playedOn 78 = .ok (.iconst 2, 1) := by decide +kernel
theorem dX7_playedOn_79 : decode cX7_playedOn 79 = .ok (.goto 14, 3) := by decide +kernel
theorem dX7_playedOn_82 : decode cX7_playedOn 82 = .ok (.iload 5, 2) := by decide +kernel
theorem dX7_playedOn_84 : decode cX7_playedOn 84 = .ok (.iconst 3, 1) := by decide +kernel
theorem dX7_playedOn_85 : decode cX7_playedOn 85 = .ok (.if_icmp .ne 7, 3) := by decide +kernel
theorem dX7_playedOn_88 : decode cX7_playedOn 88 = .ok (.iconst 0, 1) := by decide +kernel
theorem dX7_playedOn_89 : decode cX7_playedOn 89 = .ok (.goto 4, 3) := by decide +kernel
theorem dX7_playedOn_92 : decode cX7_playedOn 92 = .ok (.iconst 1, 1) := by decide +kernel
theorem dX7_playedOn_93 : decode cX7_playedOn 93 = .ok (.iadd, 1) := by decide +kernel
theorem dX7_playedOn_94 : decode cX7_playedOn 94 = .ok (.istore 6, 2) := by decide +kernel
theorem dX7_playedOn_96 : decode cX7_playedOn 96 = .ok (.aload_n 0, 1) := by decide +kernel
theorem dX7_playedOn_97 : decode cX7_playedOn 97 = .ok (.getfield 7, 3) := by decide +kernel
theorem dX7_playedOn_100 : decode cX7_playedOn 100 = .ok (.iload_n 1, 1) := by decide +kernel
theorem dX7_playedOn_101 : decode cX7_playedOn 101 = .ok (.bipush 10, 2) := by decide +kernel
theorem dX7_playedOn_103 : decode cX7_playedOn 103 = .ok (.iadd, 1) := by decide +kernel
theorem dX7_playedOn_104 : decode cX7_playedOn 104 = .ok (.aload_n 0, 1) := by decide +kernel
theorem dX7_playedOn_105 : decode cX7_playedOn 105 = .ok (.getfield 142, 3) := by decide +kernel
theorem dX7_playedOn_108 : decode cX7_playedOn 108 = .ok (.iadd, 1) := by decide +kernel
theorem dX7_playedOn_109 : decode cX7_playedOn 109 = .ok (.dup2, 1) := by decide +kernel
theorem dX7_playedOn_110 : decode cX7_playedOn 110 = .ok (.iaload, 1) := by decide +kernel
theorem dX7_playedOn_111 : decode cX7_playedOn 111 = .ok (.aload_n 0, 1) := by decide +kernel
theorem dX7_playedOn_112 : decode cX7_playedOn 112 = .ok (.getfield 7, 3) := by decide +kernel
theorem dX7_playedOn_115 : decode cX7_playedOn 115 = .ok (.iload_n 1, 1) := by decide +kernel
theorem dX7_playedOn_116 : decode cX7_playedOn 116 = .ok (.bipush 10, 2) := by decide +kernel
theorem dX7_playedOn_118 : decode cX7_playedOn 118 = .ok (.iadd, 1) := by decide +kernel
theorem dX7_playedOn_119 : decode cX7_playedOn 119 = .ok (.aload_n 0, 1) := by decide +kernel
theorem dX7_playedOn_120 : decode cX7_playedOn 120 = .ok (.getfield 142, 3) := by decide +kernel
theorem dX7_playedOn_123 : decode cX7_playedOn 123 = .ok (.iadd, 1) := by decide +kernel
theorem dX7_playedOn_124 : decode cX7_playedOn 124 = .ok (.iaload, 1) := by decide +kernel
theorem dX7_playedOn_125 : decode cX7_playedOn 125 = .ok (.bipush 99, 2) := by decide +kernel
theorem dX7_playedOn_127 : decode cX7_playedOn 127 = .ok (.if_icmp .ge 7, 3) := by decide +kernel
theorem dX7_playedOn_130 : decode cX7_playedOn 130 = .ok (.iconst 1, 1) := by decide +kernel
theorem dX7_playedOn_131 : decode cX7_playedOn 131 = .ok (.goto 4, 3) := by decide +kernel
theorem dX7_playedOn_134 : decode cX7_playedOn 134 = .ok (.iconst 0, 1) := by decide +kernel
theorem dX7_playedOn_135 : decode cX7_playedOn 135 = .ok (.iadd, 1) := by decide +kernel
theorem dX7_playedOn_136 : decode cX7_playedOn 136 = .ok (.iastore, 1) := by decide +kernel
theorem dX7_playedOn_137 : decode cX7_playedOn 137 = .ok (.aload_n 0, 1) := by decide +kernel
theorem dX7_playedOn_138 : decode cX7_playedOn 138 = .ok (.getfield 7, 3) := by decide +kernel
theorem dX7_playedOn_141 : decode cX7_playedOn 141 = .ok (.iload_n 1, 1) := by decide +kernel
theorem dX7_playedOn_142 : decode cX7_playedOn 142 = .ok (.iconst 5, 1) := by decide +kernel
theorem dX7_playedOn_143 : decode cX7_playedOn 143 = .ok (.iadd, 1) := by decide +kernel
theorem dX7_playedOn_144 : decode cX7_playedOn 144 = .ok (.aload_n 0, 1) := by decide +kernel
theorem dX7_playedOn_145 : decode cX7_playedOn 145 = .ok (.getfield 142, 3) := by decide +kernel
theorem dX7_playedOn_148 : decode cX7_playedOn 148 = .ok (.iadd, 1) := by decide +kernel
theorem dX7_playedOn_149 : decode cX7_playedOn 149 = .ok (.iload 6, 2) := by decide +kernel
theorem dX7_playedOn_151 : decode cX7_playedOn 151 = .ok (.bipush 20, 2) := by decide +kernel
theorem dX7_playedOn_153 : decode cX7_playedOn 153 = .ok (.if_icmp .le 8, 3) := by decide +kernel
theorem dX7_playedOn_156 : decode cX7_playedOn 156 = .ok (.bipush 20, 2) := by decide +kernel
theorem dX7_playedOn_158 : decode cX7_playedOn 158 = .ok (.goto 5, 3) := by decide +kernel
theorem dX7_playedOn_161 : decode cX7_playedOn 161 = .ok (.iload 6, 2) := by decide +kernel
theorem dX7_playedOn_163 : decode cX7_playedOn 163 = .ok (.iastore, 1) := by decide +kernel
theorem dX7_playedOn_164 : decode cX7_playedOn 164 = .ok (.aload_n 0, 1) := by decide +kernel
theorem dX7_playedOn_165 : decode cX7_playedOn 165 = .ok (.getfield 7, 3) := by decide +kernel
theorem dX7_playedOn_168 : decode cX7_playedOn 168 = .ok (.iload_n 1, 1) := by decide +kernel
theorem dX7_playedOn_169 : decode cX7_playedOn 169 = .ok (.iconst 5, 1) := by decide +kernel
theorem dX7_playedOn_170 : decode cX7_playedOn 170 = .ok (.iadd, 1) := by decide +kernel
theorem dX7_playedOn_171 : decode cX7_playedOn 171 = .ok (.iload 4, 2) := by decide +kernel
theorem dX7_playedOn_173 : decode cX7_playedOn 173 = .ok (.iadd, 1) := by decide +kernel
theorem dX7_playedOn_174 : decode cX7_playedOn 174 = .ok (.dup2, 1) := by decide +kernel
theorem dX7_playedOn_175 : decode cX7_playedOn 175 = .ok (.iaload, 1) := by decide +kernel
theorem dX7_playedOn_176 : decode cX7_playedOn 176 = .ok (.aload_n 0, 1) := by decide +kernel
theorem dX7_playedOn_177 : decode cX7_playedOn 177 = .ok (.getfield 7, 3) := by decide +kernel
theorem dX7_playedOn_180 : decode cX7_playedOn 180 = .ok (.iload_n 1, 1) := by decide +kernel
theorem dX7_playedOn_181 : decode cX7_playedOn 181 = .ok (.iconst 5, 1) := by decide +kernel
theorem dX7_playedOn_182 : decode cX7_playedOn 182 = .ok (.iadd, 1) := by decide +kernel
theorem dX7_playedOn_183 : decode cX7_playedOn 183 = .ok (.iload 4, 2) := by decide +kernel
theorem dX7_playedOn_185 : decode cX7_playedOn 185 = .ok (.iadd, 1) := by decide +kernel
theorem dX7_playedOn_186 : decode cX7_playedOn 186 = .ok (.iaload, 1) := by decide +kernel
theorem dX7_playedOn_187 : decode cX7_playedOn 187 = .ok (.ifCond .le 7, 3) := by decide +kernel
theorem dX7_playedOn_190 : decode cX7_playedOn 190 = .ok (.iconst 1, 1) := by decide +kernel
theorem dX7_playedOn_191 : decode cX7_playedOn 191 = .ok (.goto 4, 3) := by decide +kernel
theorem dX7_playedOn_194 : decode cX7_playedOn 194 = .ok (.iconst 0, 1) := by decide +kernel
theorem dX7_playedOn_195 : decode cX7_playedOn 195 = .ok (.isub, 1) := by decide +kernel
theorem dX7_playedOn_196 : decode cX7_playedOn 196 = .ok (.iastore, 1) := by decide +kernel
theorem dX7_playedOn_197 : decode cX7_playedOn 197 = .ok (.aload_n 0, 1) := by decide +kernel
theorem dX7_playedOn_198 : decode cX7_playedOn 198 = .ok (.dup, 1) := by decide +kernel
theorem dX7_playedOn_199 : decode cX7_playedOn 199 = .ok (.getfield 148, 3) := by decide +kernel
theorem dX7_playedOn_202 : decode cX7_playedOn 202 = .ok (.iconst 1, 1) := by decide +kernel
theorem dX7_playedOn_203 : decode cX7_playedOn 203 = .ok (.iadd, 1) := by decide +kernel
theorem dX7_playedOn_204 : decode cX7_playedOn 204 = .ok (.putfield 148, 3) := by decide +kernel
theorem dX7_playedOn_207 : decode cX7_playedOn 207 = .ok (.return_, 1) := by decide +kernel
theorem dX7_placeOn_0 : decode cX7_placeOn 0 = .ok (.aload_n 0, 1) := by decide +kernel
theorem dX7_placeOn_1 : decode cX7_placeOn 1 = .ok (.getfield 7, 3) := by decide +kernel
theorem dX7_placeOn_4 : decode cX7_placeOn 4 = .ok (.iload_n 1, 1) := by decide +kernel
theorem dX7_placeOn_5 : decode cX7_placeOn 5 = .ok (.bipush 40, 2) := by decide +kernel
theorem dX7_placeOn_7 : decode cX7_placeOn 7 = .ok (.iadd, 1) := by decide +kernel
theorem dX7_placeOn_8 : decode cX7_placeOn 8 = .ok (.iaload, 1) := by decide +kernel
theorem dX7_placeOn_9 : decode cX7_placeOn 9 = .ok (.ifCond .ne 8, 3) := by decide +kernel
theorem dX7_placeOn_12 : decode cX7_placeOn 12 = .ok (.bipush (-4), 2) := by decide +kernel
theorem dX7_placeOn_14 : decode cX7_placeOn 14 = .ok (.goto 22, 3) := by decide +kernel
theorem dX7_placeOn_17 : decode cX7_placeOn 17 = .ok (.aload_n 0, 1) := by decide +kernel
theorem dX7_placeOn_18 : decode cX7_placeOn 18 = .ok (.getfield 7, 3) := by decide +kernel
theorem dX7_placeOn_21 : decode cX7_placeOn 21 = .ok (.iload_n 1, 1) := by decide +kernel
theorem dX7_placeOn_22 : decode cX7_placeOn 22 = .ok (.bipush 41, 2) := by decide +kernel
theorem dX7_placeOn_24 : decode cX7_placeOn 24 = .ok (.iadd, 1) := by decide +kernel
theorem dX7_placeOn_25 : decode cX7_placeOn 25 = .ok (.iaload, 1) := by decide +kernel
theorem dX7_placeOn_26 : decode cX7_placeOn 26 = .ok (.aload_n 0, 1) := by decide +kernel
theorem dX7_placeOn_27 : decode cX7_placeOn 27 = .ok (.getfield 7, 3) := by decide +kernel
theorem dX7_placeOn_30 : decode cX7_placeOn 30 = .ok (.iload_n 1, 1) := by decide +kernel
theorem dX7_placeOn_31 : decode cX7_placeOn 31 = .ok (.bipush 40, 2) := by decide +kernel
theorem dX7_placeOn_33 : decode cX7_placeOn 33 = .ok (.iadd, 1) := by decide +kernel
theorem dX7_placeOn_34 : decode cX7_placeOn 34 = .ok (.iaload, 1) := by decide +kernel
theorem dX7_placeOn_35 : decode cX7_placeOn 35 = .ok (.irem, 1) := by decide +kernel
theorem dX7_placeOn_36 : decode cX7_placeOn 36 = .ok (.ireturn, 1) := by decide +kernel
theorem dX7_yearsEnd_0 : decode cX7_yearsEnd 0 = .ok (.iconst 0, 1) := by decide +kernel
theorem dX7_yearsEnd_1 : decode cX7_yearsEnd 1 = .ok (.istore_n 2, 1) := by decide +kernel
theorem dX7_yearsEnd_2 : decode cX7_yearsEnd 2 = .ok (.iload_n 2, 1) := by decide +kernel
theorem dX7_yearsEnd_3 : decode cX7_yearsEnd 3 = .ok (.aload_n 0, 1) := by decide +kernel
theorem dX7_yearsEnd_4 : decode cX7_yearsEnd 4 = .ok (.getfield 125, 3) := by decide +kernel
theorem dX7_yearsEnd_7 : decode cX7_yearsEnd 7 = .ok (.if_icmp .ge 80, 3) := by decide +kernel
theorem dX7_yearsEnd_10 : decode cX7_yearsEnd 10 = .ok (.aload_n 0, 1) := by decide +kernel
theorem dX7_yearsEnd_11 : decode cX7_yearsEnd 11 = .ok (.getfield 7, 3) := by decide +kernel
theorem dX7_yearsEnd_14 : decode cX7_yearsEnd 14 = .ok (.iload_n 1, 1) := by decide +kernel
theorem dX7_yearsEnd_15 : decode cX7_yearsEnd 15 = .ok (.bipush 10, 2) := by decide +kernel
theorem dX7_yearsEnd_17 : decode cX7_yearsEnd 17 = .ok (.iadd, 1) := by decide +kernel
theorem dX7_yearsEnd_18 : decode cX7_yearsEnd 18 = .ok (.iload_n 2, 1) := by decide +kernel
theorem dX7_yearsEnd_19 : decode cX7_yearsEnd 19 = .ok (.iadd, 1) := by decide +kernel
theorem dX7_yearsEnd_20 : decode cX7_yearsEnd 20 = .ok (.iaload, 1) := by decide +kernel
theorem dX7_yearsEnd_21 : decode cX7_yearsEnd 21 = .ok (.ifCond .ne 23, 3) := by decide +kernel
theorem dX7_yearsEnd_24 : decode cX7_yearsEnd 24 = .ok (.aload_n 0, 1) := by decide +kernel
theorem dX7_yearsEnd_25 : decode cX7_yearsEnd 25 = .ok (.getfield 7, 3) := by decide +kernel
theorem dX7_yearsEnd_28 : decode cX7_yearsEnd 28 = .ok (.iload_n 1, 1) := by decide +kernel
theorem dX7_yearsEnd_29 : decode cX7_yearsEnd 29 = .ok (.bipush 15, 2) := by decide +kernel
theorem dX7_yearsEnd_31 : decode cX7_yearsEnd 31 = .ok (.iadd, 1) := by decide +kernel
theorem dX7_yearsEnd_32 : decode cX7_yearsEnd 32 = .ok (.iload_n 2, 1) := by decide +kernel
theorem dX7_yearsEnd_33 : decode cX7_yearsEnd 33 = .ok (.iadd, 1) := by decide +kernel
theorem dX7_yearsEnd_34 : decode cX7_yearsEnd 34 = .ok (.iaload, 1) := by decide +kernel
theorem dX7_yearsEnd_35 : decode cX7_yearsEnd 35 = .ok (.bipush 99, 2) := by decide +kernel
theorem dX7_yearsEnd_37 : decode cX7_yearsEnd 37 = .ok (.if_icmp .ge 7, 3) := by decide +kernel
theorem dX7_yearsEnd_40 : decode cX7_yearsEnd 40 = .ok (.iconst 1, 1) := by decide +kernel
theorem dX7_yearsEnd_41 : decode cX7_yearsEnd 41 = .ok (.goto 4, 3) := by decide +kernel
theorem dX7_yearsEnd_44 : decode cX7_yearsEnd 44 = .ok (.iconst 0, 1) := by decide +kernel
theorem dX7_yearsEnd_45 : decode cX7_yearsEnd 45 = .ok (.istore_n 3, 1) := by decide +kernel
theorem dX7_yearsEnd_46 : decode cX7_yearsEnd 46 = .ok (.aload_n 0, 1) := by decide +kernel
theorem dX7_yearsEnd_47 : decode cX7_yearsEnd 47 = .ok (.getfield 7, 3) := by decide +kernel
theorem dX7_yearsEnd_50 : decode cX7_yearsEnd 50 = .ok (.iload_n 1, 1) := by decide +kernel
theorem dX7_yearsEnd_51 : decode cX7_yearsEnd 51 = .ok (.bipush 15, 2) := by decide +kernel
theorem dX7_yearsEnd_53 : decode cX7_yearsEnd 53 = .ok (.iadd, 1) := by decide +kernel
theorem dX7_yearsEnd_54 : decode cX7_yearsEnd 54 = .ok (.iload_n 2, 1) := by decide +kernel
theorem dX7_yearsEnd_55 : decode cX7_yearsEnd 55 = .ok (.iadd, 1) := by decide +kernel
theorem dX7_yearsEnd_56 : decode cX7_yearsEnd 56 = .ok (.dup2, 1) := by decide +kernel
theorem dX7_yearsEnd_57 : decode cX7_yearsEnd 57 = .ok (.iaload, 1) := by decide +kernel
theorem dX7_yearsEnd_58 : decode cX7_yearsEnd 58 = .ok (.iload_n 3, 1) := by decide +kernel
theorem dX7_yearsEnd_59 : decode cX7_yearsEnd 59 = .ok (.ifCond .eq 7, 3) := by decide +kernel
theorem dX7_yearsEnd_62 : decode cX7_yearsEnd 62 = .ok (.iconst 1, 1) := by decide +kernel
theorem dX7_yearsEnd_63 : decode cX7_yearsEnd 63 = .ok (.goto 4, 3) := by decide +kernel
theorem dX7_yearsEnd_66 : decode cX7_yearsEnd 66 = .ok (.iconst 0, 1) := by decide +kernel
theorem dX7_yearsEnd_67 : decode cX7_yearsEnd 67 = .ok (.iadd, 1) := by decide +kernel
theorem dX7_yearsEnd_68 : decode cX7_yearsEnd 68 = .ok (.iastore, 1) := by decide +kernel
theorem dX7_yearsEnd_69 : decode cX7_yearsEnd 69 = .ok (.aload_n 0, 1) := by decide +kernel
theorem dX7_yearsEnd_70 : decode cX7_yearsEnd 70 = .ok (.getfield 7, 3) := by decide +kernel
theorem dX7_yearsEnd_73 : decode cX7_yearsEnd 73 = .ok (.iload_n 1, 1) := by decide +kernel
theorem dX7_yearsEnd_74 : decode cX7_yearsEnd 74 = .ok (.bipush 10, 2) := by decide +kernel
theorem dX7_yearsEnd_76 : decode cX7_yearsEnd 76 = .ok (.iadd, 1) := by decide +kernel
theorem dX7_yearsEnd_77 : decode cX7_yearsEnd 77 = .ok (.iload_n 2, 1) := by decide +kernel
theorem dX7_yearsEnd_78 : decode cX7_yearsEnd 78 = .ok (.iadd, 1) := by decide +kernel
theorem dX7_yearsEnd_79 : decode cX7_yearsEnd 79 = .ok (.iconst 0, 1) := by decide +kernel
theorem dX7_yearsEnd_80 : decode cX7_yearsEnd 80 = .ok (.iastore, 1) := by decide +kernel
theorem dX7_yearsEnd_81 : decode cX7_yearsEnd 81 = .ok (.iinc 2 1, 3) := by decide +kernel
theorem dX7_yearsEnd_84 : decode cX7_yearsEnd 84 = .ok (.goto (-82), 3) := by decide +kernel
theorem dX7_yearsEnd_87 : decode cX7_yearsEnd 87 = .ok (.return_, 1) := by decide +kernel
theorem dX7_weekOn_0 : decode cX7_weekOn 0 = .ok (.aload_n 0, 1) := by decide +kernel
theorem dX7_weekOn_1 : decode cX7_weekOn 1 = .ok (.iload_n 1, 1) := by decide +kernel
theorem dX7_weekOn_2 : decode cX7_weekOn 2 = .ok (.invokevirtual 151, 3) := by decide +kernel
theorem dX7_weekOn_5 : decode cX7_weekOn 5 = .ok (.istore_n 3, 1) := by decide +kernel
theorem dX7_weekOn_6 : decode cX7_weekOn 6 = .ok (.aload_n 0, 1) := by decide +kernel
theorem dX7_weekOn_7 : decode cX7_weekOn 7 = .ok (.bipush (-4), 2) := by decide +kernel
theorem dX7_weekOn_9 : decode cX7_weekOn 9 = .ok (.putfield 142, 3) := by decide +kernel
theorem dX7_weekOn_12 : decode cX7_weekOn 12 = .ok (.iload_n 3, 1) := by decide +kernel
theorem dX7_weekOn_13 : decode cX7_weekOn 13 = .ok (.bipush (-4), 2) := by decide +kernel
theorem dX7_weekOn_15 : decode cX7_weekOn 15 = .ok (.if_icmp .eq 42, 3) := by decide +kernel
theorem dX7_weekOn_18 : decode cX7_weekOn 18 = .ok (.iload_n 3, 1) := by decide +kernel
theorem dX7_weekOn_19 : decode cX7_weekOn 19 = .ok (.aload_n 0, 1) := by decide +kernel
theorem dX7_weekOn_20 : decode cX7_weekOn 20 = .ok (.getfield 25, 3) := by decide +kernel
theorem dX7_weekOn_23 : decode cX7_weekOn 23 = .ok (.if_icmp .eq 34, 3) := by decide +kernel
theorem dX7_weekOn_26 : decode cX7_weekOn 26 = .ok (.iload_n 2, 1) := by decide +kernel
theorem dX7_weekOn_27 : decode cX7_weekOn 27 = .ok (.ifCond .ne 30, 3) := by decide +kernel
theorem dX7_weekOn_30 : decode cX7_weekOn 30 = .ok (.aload_n 0, 1) := by decide +kernel
theorem dX7_weekOn_31 : decode cX7_weekOn 31 = .ok (.iload_n 1, 1) := by decide +kernel
theorem dX7_weekOn_32 : decode cX7_weekOn 32 = .ok (.aload_n 0, 1) := by decide +kernel
theorem dX7_weekOn_33 : decode cX7_weekOn 33 = .ok (.getfield 7, 3) := by decide +kernel
theorem dX7_weekOn_36 : decode cX7_weekOn 36 = .ok (.iload_n 1, 1) := by decide +kernel
theorem dX7_weekOn_37 : decode cX7_weekOn 37 = .ok (.bipush 20, 2) := by decide +kernel
theorem dX7_weekOn_39 : decode cX7_weekOn 39 = .ok (.iadd, 1) := by decide +kernel
theorem dX7_weekOn_40 : decode cX7_weekOn 40 = .ok (.iload_n 3, 1) := by decide +kernel
theorem dX7_weekOn_41 : decode cX7_weekOn 41 = .ok (.iadd, 1) := by decide +kernel
theorem dX7_weekOn_42 : decode cX7_weekOn 42 = .ok (.iaload, 1) := by decide +kernel
theorem dX7_weekOn_43 : decode cX7_weekOn 43 = .ok (.aload_n 0, 1) := by decide +kernel
theorem dX7_weekOn_44 : decode cX7_weekOn 44 = .ok (.getfield 7, 3) := by decide +kernel
theorem dX7_weekOn_47 : decode cX7_weekOn 47 = .ok (.iload_n 1, 1) := by decide +kernel
theorem dX7_weekOn_48 : decode cX7_weekOn 48 = .ok (.bipush 30, 2) := by decide +kernel
theorem dX7_weekOn_50 : decode cX7_weekOn 50 = .ok (.iadd, 1) := by decide +kernel
theorem dX7_weekOn_51 : decode cX7_weekOn 51 = .ok (.iload_n 3, 1) := by decide +kernel
theorem dX7_weekOn_52 : decode cX7_weekOn 52 = .ok (.iadd, 1) := by decide +kernel
theorem dX7_weekOn_53 : decode cX7_weekOn 53 = .ok (.iaload, 1) := by decide +kernel
theorem dX7_weekOn_54 : decode cX7_weekOn 54 = .ok (.invokevirtual 154, 3) := by decide +kernel
theorem dX7_weekOn_57 : decode cX7_weekOn 57 = .ok (.iload_n 3, 1) := by decide +kernel
theorem dX7_weekOn_58 : decode cX7_weekOn 58 = .ok (.bipush (-4), 2) := by decide +kernel
theorem dX7_weekOn_60 : decode cX7_weekOn 60 = .ok (.if_icmp .eq 23, 3) := by decide +kernel
theorem dX7_weekOn_63 : decode cX7_weekOn 63 = .ok (.iload_n 3, 1) := by decide +kernel
theorem dX7_weekOn_64 : decode cX7_weekOn 64 = .ok (.aload_n 0, 1) := by decide +kernel
theorem dX7_weekOn_65 : decode cX7_weekOn 65 = .ok (.getfield 7, 3) := by decide +kernel
theorem dX7_weekOn_68 : decode cX7_weekOn 68 = .ok (.iload_n 1, 1) := by decide +kernel
theorem dX7_weekOn_69 : decode cX7_weekOn 69 = .ok (.bipush 40, 2) := by decide +kernel
theorem dX7_weekOn_71 : decode cX7_weekOn 71 = .ok (.iadd, 1) := by decide +kernel
theorem dX7_weekOn_72 : decode cX7_weekOn 72 = .ok (.iaload, 1) := by decide +kernel
theorem dX7_weekOn_73 : decode cX7_weekOn 73 = .ok (.iconst 1, 1) := by decide +kernel
theorem dX7_weekOn_74 : decode cX7_weekOn 74 = .ok (.isub, 1) := by decide +kernel
theorem dX7_weekOn_75 : decode cX7_weekOn 75 = .ok (.if_icmp .ne 8, 3) := by decide +kernel
theorem dX7_weekOn_78 : decode cX7_weekOn 78 = .ok (.aload_n 0, 1) := by decide +kernel
theorem dX7_weekOn_79 : decode cX7_weekOn 79 = .ok (.iload_n 1, 1) := by decide +kernel
theorem dX7_weekOn_80 : decode cX7_weekOn 80 = .ok (.invokevirtual 158, 3) := by decide +kernel
theorem dX7_weekOn_83 : decode cX7_weekOn 83 = .ok (.aload_n 0, 1) := by decide +kernel
theorem dX7_weekOn_84 : decode cX7_weekOn 84 = .ok (.getfield 7, 3) := by decide +kernel
theorem dX7_weekOn_87 : decode cX7_weekOn 87 = .ok (.iload_n 1, 1) := by decide +kernel
theorem dX7_weekOn_88 : decode cX7_weekOn 88 = .ok (.bipush 41, 2) := by decide +kernel
theorem dX7_weekOn_90 : decode cX7_weekOn 90 = .ok (.iadd, 1) := by decide +kernel
theorem dX7_weekOn_91 : decode cX7_weekOn 91 = .ok (.dup2, 1) := by decide +kernel
theorem dX7_weekOn_92 : decode cX7_weekOn 92 = .ok (.iaload, 1) := by decide +kernel
theorem dX7_weekOn_93 : decode cX7_weekOn 93 = .ok (.iconst 1, 1) := by decide +kernel
theorem dX7_weekOn_94 : decode cX7_weekOn 94 = .ok (.iadd, 1) := by decide +kernel
theorem dX7_weekOn_95 : decode cX7_weekOn 95 = .ok (.iastore, 1) := by decide +kernel
theorem dX7_weekOn_96 : decode cX7_weekOn 96 = .ok (.return_, 1) := by decide +kernel
theorem dX7_owedOn_0 : decode cX7_owedOn 0 = .ok (.iconst 0, 1) := by decide +kernel
theorem dX7_owedOn_1 : decode cX7_owedOn 1 = .ok (.istore_n 2, 1) := by decide +kernel
theorem dX7_owedOn_2 : decode cX7_owedOn 2 = .ok (.iconst 0, 1) := by decide +kernel
theorem dX7_owedOn_3 : decode cX7_owedOn 3 = .ok (.istore_n 3, 1) := by decide +kernel
theorem dX7_owedOn_4 : decode cX7_owedOn 4 = .ok (.iload_n 3, 1) := by decide +kernel
theorem dX7_owedOn_5 : decode cX7_owedOn 5 = .ok (.aload_n 0, 1) := by decide +kernel
theorem dX7_owedOn_6 : decode cX7_owedOn 6 = .ok (.getfield 125, 3) := by decide +kernel
theorem dX7_owedOn_9 : decode cX7_owedOn 9 = .ok (.if_icmp .ge 23, 3) := by decide +kernel
theorem dX7_owedOn_12 : decode cX7_owedOn 12 = .ok (.iload_n 2, 1) := by decide +kernel
theorem dX7_owedOn_13 : decode cX7_owedOn 13 = .ok (.aload_n 0, 1) := by decide +kernel
theorem dX7_owedOn_14 : decode cX7_owedOn 14 = .ok (.getfield 7, 3) := by decide +kernel
theorem dX7_owedOn_17 : decode cX7_owedOn 17 = .ok (.iload_n 1, 1) := by decide +kernel
theorem dX7_owedOn_18 : decode cX7_owedOn 18 = .ok (.bipush 15, 2) := by decide +kernel
theorem dX7_owedOn_20 : decode cX7_owedOn 20 = .ok (.iadd, 1) := by decide +kernel
theorem dX7_owedOn_21 : decode cX7_owedOn 21 = .ok (.iload_n 3, 1) := by decide +kernel
theorem dX7_owedOn_22 : decode cX7_owedOn 22 = .ok (.iadd, 1) := by decide +kernel
theorem dX7_owedOn_23 : decode cX7_owedOn 23 = .ok (.iaload, 1) := by decide +kernel
theorem dX7_owedOn_24 : decode cX7_owedOn 24 = .ok (.iadd, 1) := by decide +kernel
theorem dX7_owedOn_25 : decode cX7_owedOn 25 = .ok (.istore_n 2, 1) := by decide +kernel
theorem dX7_owedOn_26 : decode cX7_owedOn 26 = .ok (.iinc 3 1, 3) := by decide +kernel
theorem dX7_owedOn_29 : decode cX7_owedOn 29 = .ok (.goto (-25), 3) := by decide +kernel
theorem dX7_owedOn_32 : decode cX7_owedOn 32 = .ok (.iload_n 2, 1) := by decide +kernel
theorem dX7_owedOn_33 : decode cX7_owedOn 33 = .ok (.ireturn, 1) := by decide +kernel
theorem dX7_losersOn_0 : decode cX7_losersOn 0 = .ok (.iconst 0, 1) := by decide +kernel
theorem dX7_losersOn_1 : decode cX7_losersOn 1 = .ok (.istore_n 2, 1) := by decide +kernel
theorem dX7_losersOn_2 : decode cX7_losersOn 2 = .ok (.iconst 0, 1) := by decide +kernel
theorem dX7_losersOn_3 : decode cX7_losersOn 3 = .ok (.istore_n 3, 1) := by decide +kernel
theorem dX7_losersOn_4 : decode cX7_losersOn 4 = .ok (.iload_n 3, 1) := by decide +kernel
theorem dX7_losersOn_5 : decode cX7_losersOn 5 = .ok (.aload_n 0, 1) := by decide +kernel
theorem dX7_losersOn_6 : decode cX7_losersOn 6 = .ok (.getfield 125, 3) := by decide +kernel
theorem dX7_losersOn_9 : decode cX7_losersOn 9 = .ok (.if_icmp .ge 33, 3) := by decide +kernel
theorem dX7_losersOn_12 : decode cX7_losersOn 12 = .ok (.iload_n 2, 1) := by decide +kernel
theorem dX7_losersOn_13 : decode cX7_losersOn 13 = .ok (.aload_n 0, 1) := by decide +kernel
theorem dX7_losersOn_14 : decode cX7_losersOn 14 = .ok (.getfield 7, 3) := by decide +kernel
theorem dX7_losersOn_17 : decode cX7_losersOn 17 = .ok (.iload_n 1, 1) := by decide +kernel
theorem dX7_losersOn_18 : decode cX7_losersOn 18 = .ok (.bipush 10, 2) := by decide +kernel
theorem dX7_losersOn_20 : decode cX7_losersOn 20 = .ok (.iadd, 1) := by decide +kernel
theorem dX7_losersOn_21 : decode cX7_losersOn 21 = .ok (.iload_n 3, 1) := by decide +kernel
theorem dX7_losersOn_22 : decode cX7_losersOn 22 = .ok (.iadd, 1) := by decide +kernel
theorem dX7_losersOn_23 : decode cX7_losersOn 23 = .ok (.iaload, 1) := by decide +kernel
theorem dX7_losersOn_24 : decode cX7_losersOn 24 = .ok (.ifCond .le 9, 3) := by decide +kernel
theorem dX7_losersOn_27 : decode cX7_losersOn 27 = .ok (.iconst 1, 1) := by decide +kernel
theorem dX7_losersOn_28 : decode cX7_losersOn 28 = .ok (.iload_n 3, 1) := by decide +kernel
theorem dX7_losersOn_29 : decode cX7_losersOn 29 = .ok (.ishl, 1) := by decide +kernel
theorem dX7_losersOn_30 : decode cX7_losersOn 30 = .ok (.goto 4, 3) := by decide +kernel
theorem dX7_losersOn_33 : decode cX7_losersOn 33 = .ok (.iconst 0, 1) := by decide +kernel
theorem dX7_losersOn_34 : decode cX7_losersOn 34 = .ok (.ior, 1) := by decide +kernel
theorem dX7_losersOn_35 : decode cX7_losersOn 35 = .ok (.istore_n 2, 1) := by decide +kernel
theorem dX7_losersOn_36 : decode cX7_losersOn 36 = .ok (.iinc 3 1, 3) := by decide +kernel
theorem dX7_losersOn_39 : decode cX7_losersOn 39 = .ok (.goto (-35), 3) := by decide +kernel
theorem dX7_losersOn_42 : decode cX7_losersOn 42 = .ok (.iload_n 2, 1) := by decide +kernel
theorem dX7_losersOn_43 : decode cX7_losersOn 43 = .ok (.ireturn, 1) := by decide +kernel
theorem dX7_rule_0 : decode cX7_rule 0 = .ok (.iload_n 1, 1) := by decide +kernel
theorem dX7_rule_1 : decode cX7_rule 1 = .ok (.tableswitch 78 0 5 #[39, 44, 52, 60, 66, 72], 39) := by decide +kernel
theorem dX7_rule_40 : decode cX7_rule 40 = .ok (.aload_n 0, 1) := by decide +kernel
theorem dX7_rule_41 : decode cX7_rule 41 = .ok (.getfield 125, 3) := by decide +kernel
theorem dX7_rule_44 : decode cX7_rule 44 = .ok (.ireturn, 1) := by decide +kernel
theorem dX7_rule_45 : decode cX7_rule 45 = .ok (.aload_n 0, 1) := by decide +kernel
theorem dX7_rule_46 : decode cX7_rule 46 = .ok (.getfield 7, 3) := by decide +kernel
theorem dX7_rule_49 : decode cX7_rule 49 = .ok (.bipush 40, 2) := by decide +kernel
theorem dX7_rule_51 : decode cX7_rule 51 = .ok (.iaload, 1) := by decide +kernel
theorem dX7_rule_52 : decode cX7_rule 52 = .ok (.ireturn, 1) := by decide +kernel
theorem dX7_rule_53 : decode cX7_rule 53 = .ok (.aload_n 0, 1) := by decide +kernel
theorem dX7_rule_54 : decode cX7_rule 54 = .ok (.getfield 7, 3) := by decide +kernel
theorem dX7_rule_57 : decode cX7_rule 57 = .ok (.bipush 41, 2) := by decide +kernel
theorem dX7_rule_59 : decode cX7_rule 59 = .ok (.iaload, 1) := by decide +kernel
theorem dX7_rule_60 : decode cX7_rule 60 = .ok (.ireturn, 1) := by decide +kernel
theorem dX7_rule_61 : decode cX7_rule 61 = .ok (.aload_n 0, 1) := by decide +kernel
theorem dX7_rule_62 : decode cX7_rule 62 = .ok (.iconst 0, 1) := by decide +kernel
theorem dX7_rule_63 : decode cX7_rule 63 = .ok (.invokevirtual 151, 3) := by decide +kernel
theorem dX7_rule_66 : decode cX7_rule 66 = .ok (.ireturn, 1) := by decide +kernel
theorem dX7_rule_67 : decode cX7_rule 67 = .ok (.aload_n 0, 1) := by decide +kernel
theorem dX7_rule_68 : decode cX7_rule 68 = .ok (.iconst 0, 1) := by decide +kernel
theorem dX7_rule_69 : decode cX7_rule 69 = .ok (.invokevirtual 161, 3) := by decide +kernel
theorem dX7_rule_72 : decode cX7_rule 72 = .ok (.ireturn, 1) := by decide +kernel
theorem dX7_rule_73 : decode cX7_rule 73 = .ok (.aload_n 0, 1) := by decide +kernel
theorem dX7_rule_74 : decode cX7_rule 74 = .ok (.iconst 0, 1) := by decide +kernel
theorem dX7_rule_75 : decode cX7_rule 75 = .ok (.invokevirtual 164, 3) := by decide +kernel
theorem dX7_rule_78 : decode cX7_rule 78 = .ok (.ireturn, 1) := by decide +kernel
theorem dX7_rule_79 : decode cX7_rule 79 = .ok (.iconst (-1), 1) := by decide +kernel
theorem dX7_rule_80 : decode cX7_rule 80 = .ok (.ireturn, 1) := by decide +kernel
theorem dX7_town_0 : decode cX7_town 0 = .ok (.aload_n 0, 1) := by decide +kernel
theorem dX7_town_1 : decode cX7_town 1 = .ok (.iload_n 1, 1) := by decide +kernel
theorem dX7_town_2 : decode cX7_town 2 = .ok (.invokevirtual 131, 3) := by decide +kernel
theorem dX7_town_5 : decode cX7_town 5 = .ok (.ifCond .eq 15, 3) := by decide +kernel
theorem dX7_town_8 : decode cX7_town 8 = .ok (.iload_n 2, 1) := by decide +kernel
theorem dX7_town_9 : decode cX7_town 9 = .ok (.i2l, 1) := by decide +kernel
theorem dX7_town_10 : decode cX7_town 10 = .ok (.lconst 0, 1) := by decide +kernel
theorem dX7_town_11 : decode cX7_town 11 = .ok (.ldc2_w 114, 3) := by decide +kernel
theorem dX7_town_14 : decode cX7_town 14 = .ok (.invokestatic 53, 3) := by decide +kernel
theorem dX7_town_17 : decode cX7_town 17 = .ok (.ifCond .ne 5, 3) := by decide +kernel
theorem dX7_town_20 : decode cX7_town 20 = .ok (.iconst (-1), 1) := by decide +kernel
theorem dX7_town_21 : decode cX7_town 21 = .ok (.ireturn, 1) := by decide +kernel
theorem dX7_town_22 : decode cX7_town 22 = .ok (.iload_n 2, 1) := by decide +kernel
theorem dX7_town_23 : decode cX7_town 23 = .ok (.iconst 4, 1) := by decide +kernel
theorem dX7_town_24 : decode cX7_town 24 = .ok (.if_icmp .ge 16, 3) := by decide +kernel
theorem dX7_town_27 : decode cX7_town 27 = .ok (.aload_n 0, 1) := by decide +kernel
theorem dX7_town_28 : decode cX7_town 28 = .ok (.getfield 7, 3) := by decide +kernel
theorem dX7_town_31 : decode cX7_town 31 = .ok (.iconst 5, 1) := by decide +kernel
theorem dX7_town_32 : decode cX7_town 32 = .ok (.iload_n 2, 1) := by decide +kernel
theorem dX7_town_33 : decode cX7_town 33 = .ok (.imul, 1) := by decide +kernel
theorem dX7_town_34 : decode cX7_town 34 = .ok (.iload_n 1, 1) := by decide +kernel
theorem dX7_town_35 : decode cX7_town 35 = .ok (.iadd, 1) := by decide +kernel
theorem dX7_town_36 : decode cX7_town 36 = .ok (.iaload, 1) := by decide +kernel
theorem dX7_town_37 : decode cX7_town 37 = .ok (.goto 9, 3) := by decide +kernel
theorem dX7_town_40 : decode cX7_town 40 = .ok (.aload_n 0, 1) := by decide +kernel
theorem dX7_town_41 : decode cX7_town 41 = .ok (.iconst 0, 1) := by decide +kernel
theorem dX7_town_42 : decode cX7_town 42 = .ok (.iload_n 1, 1) := by decide +kernel
theorem dX7_town_43 : decode cX7_town 43 = .ok (.invokevirtual 135, 3) := by decide +kernel
theorem dX7_town_46 : decode cX7_town 46 = .ok (.ireturn, 1) := by decide +kernel
theorem dX7_fixture_0 : decode cX7_fixture 0 = .ok (.aload_n 0, 1) := by decide +kernel
theorem dX7_fixture_1 : decode cX7_fixture 1 = .ok (.iload_n 1, 1) := by decide +kernel
theorem dX7_fixture_2 : decode cX7_fixture 2 = .ok (.invokevirtual 167, 3) := by decide +kernel
theorem dX7_fixture_5 : decode cX7_fixture 5 = .ok (.ifCond .eq 30, 3) := by decide +kernel
theorem dX7_fixture_8 : decode cX7_fixture 8 = .ok (.iload_n 2, 1) := by decide +kernel
theorem dX7_fixture_9 : decode cX7_fixture 9 = .ok (.i2l, 1) := by decide +kernel
theorem dX7_fixture_10 : decode cX7_fixture 10 = .ok (.lconst 0, 1) := by decide +kernel
theorem dX7_fixture_11 : decode cX7_fixture 11 = .ok (.lconst 1, 1) := by decide +kernel
theorem dX7_fixture_12 : decode cX7_fixture 12 = .ok (.invokestatic 53, 3) := by decide +kernel
theorem dX7_fixture_15 : decode cX7_fixture 15 = .ok (.ifCond .eq 20, 3) := by decide +kernel
theorem dX7_fixture_18 : decode cX7_fixture 18 = .ok (.aload_n 0, 1) := by decide +kernel
theorem dX7_fixture_19 : decode cX7_fixture 19 = .ok (.getfield 7, 3) := by decide +kernel
theorem dX7_fixture_22 : decode cX7_fixture 22 = .ok (.bipush 20, 2) := by decide +kernel
theorem dX7_fixture_24 : decode cX7_fixture 24 = .ok (.bipush 10, 2) := by decide +kernel
theorem dX7_fixture_26 : decode cX7_fixture 26 = .ok (.iload_n 2, 1) := by decide +kernel
theorem dX7_fixture_27 : decode cX7_fixture 27 = .ok (.imul, 1) := by decide +kernel
theorem dX7_fixture_28 : decode cX7_fixture 28 = .ok (.iadd, 1) := by decide +kernel
theorem dX7_fixture_29 : decode cX7_fixture 29 = .ok (.iload_n 1, 1) := by decide +kernel
theorem dX7_fixture_30 : decode cX7_fixture 30 = .ok (.iadd, 1) := by decide +kernel
theorem dX7_fixture_31 : decode cX7_fixture 31 = .ok (.iaload, 1) := by decide +kernel
theorem dX7_fixture_32 : decode cX7_fixture 32 = .ok (.goto 4, 3) := by decide +kernel
theorem dX7_fixture_35 : decode cX7_fixture 35 = .ok (.iconst (-1), 1) := by decide +kernel
theorem dX7_fixture_36 : decode cX7_fixture 36 = .ok (.ireturn, 1) := by decide +kernel
theorem dX7_game_0 : decode cX7_game 0 = .ok (.aload_n 0, 1) := by decide +kernel
theorem dX7_game_1 : decode cX7_game 1 = .ok (.iload_n 1, 1) := by decide +kernel
theorem dX7_game_2 : decode cX7_game 2 = .ok (.iload_n 2, 1) := by decide +kernel
theorem dX7_game_3 : decode cX7_game 3 = .ok (.invokevirtual 170, 3) := by decide +kernel
theorem dX7_game_6 : decode cX7_game 6 = .ok (.ifCond .eq 13, 3) := by decide +kernel
theorem dX7_game_9 : decode cX7_game 9 = .ok (.aload_n 0, 1) := by decide +kernel
theorem dX7_game_10 : decode cX7_game 10 = .ok (.iconst 0, 1) := by decide +kernel
theorem dX7_game_11 : decode cX7_game 11 = .ok (.iload_n 1, 1) := by decide +kernel
theorem dX7_game_12 : decode cX7_game 12 = .ok (.iload_n 2, 1) := by decide +kernel
theorem dX7_game_13 : decode cX7_game 13 = .ok (.invokevirtual 138, 3) := by decide +kernel
theorem dX7_game_16 : decode cX7_game 16 = .ok (.goto 4, 3) := by decide +kernel
theorem dX7_game_19 : decode cX7_game 19 = .ok (.iconst (-1), 1) := by decide +kernel
theorem dX7_game_20 : decode cX7_game 20 = .ok (.ireturn, 1) := by decide +kernel
theorem dX7_puts_0 : decode cX7_puts 0 = .ok (.iload_n 1, 1) := by decide +kernel
theorem dX7_puts_1 : decode cX7_puts 1 = .ok (.ifCond .ne 5, 3) := by decide +kernel
theorem dX7_puts_4 : decode cX7_puts 4 = .ok (.iconst (-1), 1) := by decide +kernel
theorem dX7_puts_5 : decode cX7_puts 5 = .ok (.ireturn, 1) := by decide +kernel
theorem dX7_puts_6 : decode cX7_puts 6 = .ok (.aload_n 0, 1) := by decide +kernel
theorem dX7_puts_7 : decode cX7_puts 7 = .ok (.getfield 7, 3) := by decide +kernel
theorem dX7_puts_10 : decode cX7_puts 10 = .ok (.iload_n 2, 1) := by decide +kernel
theorem dX7_puts_11 : decode cX7_puts 11 = .ok (.iaload, 1) := by decide +kernel
theorem dX7_puts_12 : decode cX7_puts 12 = .ok (.istore 4, 2) := by decide +kernel
theorem dX7_puts_14 : decode cX7_puts 14 = .ok (.aload_n 0, 1) := by decide +kernel
theorem dX7_puts_15 : decode cX7_puts 15 = .ok (.getfield 7, 3) := by decide +kernel
theorem dX7_puts_18 : decode cX7_puts 18 = .ok (.iload_n 2, 1) := by decide +kernel
theorem dX7_puts_19 : decode cX7_puts 19 = .ok (.iload_n 3, 1) := by decide +kernel
theorem dX7_puts_20 : decode cX7_puts 20 = .ok (.iastore, 1) := by decide +kernel
theorem dX7_puts_21 : decode cX7_puts 21 = .ok (.iload 4, 2) := by decide +kernel
theorem dX7_puts_23 : decode cX7_puts 23 = .ok (.ireturn, 1) := by decide +kernel
theorem dX7_alter_0 : decode cX7_alter 0 = .ok (.iload_n 2, 1) := by decide +kernel
theorem dX7_alter_1 : decode cX7_alter 1 = .ok (.ifCond .ne 7, 3) := by decide +kernel
theorem dX7_alter_4 : decode cX7_alter 4 = .ok (.iconst 3, 1) := by decide +kernel
theorem dX7_alter_5 : decode cX7_alter 5 = .ok (.goto 15, 3) := by decide +kernel
theorem dX7_alter_8 : decode cX7_alter 8 = .ok (.iload_n 2, 1) := by decide +kernel
theorem dX7_alter_9 : decode cX7_alter 9 = .ok (.iconst 1, 1) := by decide +kernel
theorem dX7_alter_10 : decode cX7_alter 10 = .ok (.if_icmp .ne 8, 3) := by decide +kernel
theorem dX7_alter_13 : decode cX7_alter 13 = .ok (.bipush 20, 2) := by decide +kernel
theorem dX7_alter_15 : decode cX7_alter 15 = .ok (.goto 5, 3) := by decide +kernel
theorem dX7_alter_18 : decode cX7_alter 18 = .ok (.bipush 99, 2) := by decide +kernel
theorem dX7_alter_20 : decode cX7_alter 20 = .ok (.istore 4, 2) := by decide +kernel
theorem dX7_alter_22 : decode cX7_alter 22 = .ok (.aload_n 0, 1) := by decide +kernel
theorem dX7_alter_23 : decode cX7_alter 23 = .ok (.aload_n 0, 1) := by decide +kernel
theorem dX7_alter_24 : decode cX7_alter 24 = .ok (.iload_n 1, 1) := by decide +kernel
theorem dX7_alter_25 : decode cX7_alter 25 = .ok (.invokevirtual 131, 3) := by decide +kernel
theorem dX7_alter_28 : decode cX7_alter 28 = .ok (.ifCond .eq 31, 3) := by decide +kernel
theorem dX7_alter_31 : decode cX7_alter 31 = .ok (.iload_n 2, 1) := by decide +kernel
theorem dX7_alter_32 : decode cX7_alter 32 = .ok (.i2l, 1) := by decide +kernel
theorem dX7_alter_33 : decode cX7_alter 33 = .ok (.lconst 0, 1) := by decide +kernel
theorem dX7_alter_34 : decode cX7_alter 34 = .ok (.ldc2_w 174, 3) := by decide +kernel
theorem dX7_alter_37 : decode cX7_alter 37 = .ok (.invokestatic 53, 3) := by decide +kernel
theorem dX7_alter_40 : decode cX7_alter 40 = .ok (.ifCond .eq 19, 3) := by decide +kernel
theorem dX7_alter_43 : decode cX7_alter 43 = .ok (.iload_n 3, 1) := by decide +kernel
theorem dX7_alter_44 : decode cX7_alter 44 = .ok (.i2l, 1) := by decide +kernel
theorem dX7_alter_45 : decode cX7_alter 45 = .ok (.lconst 0, 1) := by decide +kernel
theorem dX7_alter_46 : decode cX7_alter 46 = .ok (.iload 4, 2) := by decide +kernel
theorem dX7_alter_48 : decode cX7_alter 48 = .ok (.i2l, 1) := by decide +kernel
theorem dX7_alter_49 : decode cX7_alter 49 = .ok (.invokestatic 53, 3) := by decide +kernel
theorem dX7_alter_52 : decode cX7_alter 52 = .ok (.ifCond .eq 7, 3) := by decide +kernel
theorem dX7_alter_55 : decode cX7_alter 55 = .ok (.iconst 1, 1) := by decide +kernel
theorem dX7_alter_56 : decode cX7_alter 56 = .ok (.goto 4, 3) := by decide +kernel
theorem dX7_alter_59 : decode cX7_alter 59 = .ok (.iconst 0, 1) := by decide +kernel
theorem dX7_alter_60 : decode cX7_alter 60 = .ok (.iconst 5, 1) := by decide +kernel
theorem dX7_alter_61 : decode cX7_alter 61 = .ok (.iload_n 2, 1) := by decide +kernel
theorem dX7_alter_62 : decode cX7_alter 62 = .ok (.imul, 1) := by decide +kernel
theorem dX7_alter_63 : decode cX7_alter 63 = .ok (.iload_n 1, 1) := by decide +kernel
theorem dX7_alter_64 : decode cX7_alter 64 = .ok (.iadd, 1) := by decide +kernel
theorem dX7_alter_65 : decode cX7_alter 65 = .ok (.iload_n 3, 1) := by decide +kernel
theorem dX7_alter_66 : decode cX7_alter 66 = .ok (.invokevirtual 176, 3) := by decide +kernel
theorem dX7_alter_69 : decode cX7_alter 69 = .ok (.ireturn, 1) := by decide +kernel
theorem dX7_lendsOn_0 : decode cX7_lendsOn 0 = .ok (.aload_n 0, 1) := by decide +kernel
theorem dX7_lendsOn_1 : decode cX7_lendsOn 1 = .ok (.getfield 7, 3) := by decide +kernel
theorem dX7_lendsOn_4 : decode cX7_lendsOn 4 = .ok (.iload_n 1, 1) := by decide +kernel
theorem dX7_lendsOn_5 : decode cX7_lendsOn 5 = .ok (.iconst 5, 1) := by decide +kernel
theorem dX7_lendsOn_6 : decode cX7_lendsOn 6 = .ok (.iadd, 1) := by decide +kernel
theorem dX7_lendsOn_7 : decode cX7_lendsOn 7 = .ok (.iload_n 2, 1) := by decide +kernel
theorem dX7_lendsOn_8 : decode cX7_lendsOn 8 = .ok (.iadd, 1) := by decide +kernel
theorem dX7_lendsOn_9 : decode cX7_lendsOn 9 = .ok (.iaload, 1) := by decide +kernel
theorem dX7_lendsOn_10 : decode cX7_lendsOn 10 = .ok (.iload 4, 2) := by decide +kernel
theorem dX7_lendsOn_12 : decode cX7_lendsOn 12 = .ok (.if_icmp .ge 6, 3) := by decide +kernel
theorem dX7_lendsOn_15 : decode cX7_lendsOn 15 = .ok (.bipush (-2), 2) := by decide +kernel
theorem dX7_lendsOn_17 : decode cX7_lendsOn 17 = .ok (.ireturn, 1) := by decide +kernel
theorem dX7_lendsOn_18 : decode cX7_lendsOn 18 = .ok (.aload_n 0, 1) := by decide +kernel
theorem dX7_lendsOn_19 : decode cX7_lendsOn 19 = .ok (.getfield 7, 3) := by decide +kernel
theorem dX7_lendsOn_22 : decode cX7_lendsOn 22 = .ok (.iload_n 1, 1) := by decide +kernel
theorem dX7_lendsOn_23 : decode cX7_lendsOn 23 = .ok (.iconst 5, 1) := by decide +kernel
theorem dX7_lendsOn_24 : decode cX7_lendsOn 24 = .ok (.iadd, 1) := by decide +kernel
theorem dX7_lendsOn_25 : decode cX7_lendsOn 25 = .ok (.iload_n 3, 1) := by decide +kernel
theorem dX7_lendsOn_26 : decode cX7_lendsOn 26 = .ok (.iadd, 1) := by decide +kernel
theorem dX7_lendsOn_27 : decode cX7_lendsOn 27 = .ok (.iaload, 1) := by decide +kernel
theorem dX7_lendsOn_28 : decode cX7_lendsOn 28 = .ok (.iload 4, 2) := by decide +kernel
theorem dX7_lendsOn_30 : decode cX7_lendsOn 30 = .ok (.iadd, 1) := by decide +kernel
theorem dX7_lendsOn_31 : decode cX7_lendsOn 31 = .ok (.bipush 20, 2) := by decide +kernel
theorem dX7_lendsOn_33 : decode cX7_lendsOn 33 = .ok (.if_icmp .le 6, 3) := by decide +kernel
theorem dX7_lendsOn_36 : decode cX7_lendsOn 36 = .ok (.bipush (-3), 2) := by decide +kernel
theorem dX7_lendsOn_38 : decode cX7_lendsOn 38 = .ok (.ireturn, 1) := by decide +kernel
theorem dX7_lendsOn_39 : decode cX7_lendsOn 39 = .ok (.aload_n 0, 1) := by decide +kernel
theorem dX7_lendsOn_40 : decode cX7_lendsOn 40 = .ok (.getfield 7, 3) := by decide +kernel
theorem dX7_lendsOn_43 : decode cX7_lendsOn 43 = .ok (.iload_n 1, 1) := by decide +kernel
theorem dX7_lendsOn_44 : decode cX7_lendsOn 44 = .ok (.iconst 5, 1) := by decide +kernel
theorem dX7_lendsOn_45 : decode cX7_lendsOn 45 = .ok (.iadd, 1) := by decide +kernel
theorem dX7_lendsOn_46 : decode cX7_lendsOn 46 = .ok (.iload_n 2, 1) := by decide +kernel
theorem dX7_lendsOn_47 : decode cX7_lendsOn 47 = .ok (.iadd, 1) := by decide +kernel
theorem dX7_lendsOn_48 : decode cX7_lendsOn 48 = .ok (.dup2, 1) := by decide +kernel
theorem dX7_lendsOn_49 : decode cX7_lendsOn 49 = .ok (.iaload, 1) := by decide +kernel
theorem dX7_lendsOn_50 : decode cX7_lendsOn 50 = .ok (.iload 4, 2) := by decide +kernel
theorem dX7_lendsOn_52 : decode cX7_lendsOn 52 = .ok (.isub, 1) := by decide +kernel
theorem dX7_lendsOn_53 : decode cX7_lendsOn 53 = .ok (.iastore, 1) := by decide +kernel
theorem dX7_lendsOn_54 : decode cX7_lendsOn 54 = .ok (.aload_n 0, 1) := by decide +kernel
theorem dX7_lendsOn_55 : decode cX7_lendsOn 55 = .ok (.getfield 7, 3) := by decide +kernel
theorem dX7_lendsOn_58 : decode cX7_lendsOn 58 = .ok (.iload_n 1, 1) := by decide +kernel
theorem dX7_lendsOn_59 : decode cX7_lendsOn 59 = .ok (.iconst 5, 1) := by decide +kernel
theorem dX7_lendsOn_60 : decode cX7_lendsOn 60 = .ok (.iadd, 1) := by decide +kernel
theorem dX7_lendsOn_61 : decode cX7_lendsOn 61 = .ok (.iload_n 3, 1) := by decide +kernel
theorem dX7_lendsOn_62 : decode cX7_lendsOn 62 = .ok (.iadd, 1) := by decide +kernel
theorem dX7_lendsOn_63 : decode cX7_lendsOn 63 = .ok (.dup2, 1) := by decide +kernel
theorem dX7_lendsOn_64 : decode cX7_lendsOn 64 = .ok (.iaload, 1) := by decide +kernel
theorem dX7_lendsOn_65 : decode cX7_lendsOn 65 = .ok (.iload 4, 2) := by decide +kernel
theorem dX7_lendsOn_67 : decode cX7_lendsOn 67 = .ok (.iadd, 1) := by decide +kernel
theorem dX7_lendsOn_68 : decode cX7_lendsOn 68 = .ok (.iastore, 1) := by decide +kernel
theorem dX7_lendsOn_69 : decode cX7_lendsOn 69 = .ok (.aload_n 0, 1) := by decide +kernel
theorem dX7_lendsOn_70 : decode cX7_lendsOn 70 = .ok (.getfield 7, 3) := by decide +kernel
theorem dX7_lendsOn_73 : decode cX7_lendsOn 73 = .ok (.iload_n 1, 1) := by decide +kernel
theorem dX7_lendsOn_74 : decode cX7_lendsOn 74 = .ok (.iconst 5, 1) := by decide +kernel
theorem dX7_lendsOn_75 : decode cX7_lendsOn 75 = .ok (.iadd, 1) := by decide +kernel
theorem dX7_lendsOn_76 : decode cX7_lendsOn 76 = .ok (.iload_n 2, 1) := by decide +kernel
theorem dX7_lendsOn_77 : decode cX7_lendsOn 77 = .ok (.iadd, 1) := by decide +kernel
theorem dX7_lendsOn_78 : decode cX7_lendsOn 78 = .ok (.iaload, 1) := by decide +kernel
theorem dX7_lendsOn_79 : decode cX7_lendsOn 79 = .ok (.ireturn, 1) := by decide +kernel
theorem dX7_lend_0 : decode cX7_lend 0 = .ok (.aload_n 0, 1) := by decide +kernel
theorem dX7_lend_1 : decode cX7_lend 1 = .ok (.iload_n 1, 1) := by decide +kernel
theorem dX7_lend_2 : decode cX7_lend 2 = .ok (.iload_n 2, 1) := by decide +kernel
theorem dX7_lend_3 : decode cX7_lend 3 = .ok (.invokevirtual 170, 3) := by decide +kernel
theorem dX7_lend_6 : decode cX7_lend 6 = .ok (.ifCond .eq 26, 3) := by decide +kernel
theorem dX7_lend_9 : decode cX7_lend 9 = .ok (.iload_n 3, 1) := by decide +kernel
theorem dX7_lend_10 : decode cX7_lend 10 = .ok (.i2l, 1) := by decide +kernel
theorem dX7_lend_11 : decode cX7_lend 11 = .ok (.lconst 0, 1) := by decide +kernel
theorem dX7_lend_12 : decode cX7_lend 12 = .ok (.ldc2_w 180, 3) := by decide +kernel
theorem dX7_lend_15 : decode cX7_lend 15 = .ok (.invokestatic 53, 3) := by decide +kernel
theorem dX7_lend_18 : decode cX7_lend 18 = .ok (.ifCond .eq 14, 3) := by decide +kernel
theorem dX7_lend_21 : decode cX7_lend 21 = .ok (.aload_n 0, 1) := by decide +kernel
theorem dX7_lend_22 : decode cX7_lend 22 = .ok (.iconst 0, 1) := by decide +kernel
theorem dX7_lend_23 : decode cX7_lend 23 = .ok (.iload_n 1, 1) := by decide +kernel
theorem dX7_lend_24 : decode cX7_lend 24 = .ok (.iload_n 2, 1) := by decide +kernel
theorem dX7_lend_25 : decode cX7_lend 25 = .ok (.iload_n 3, 1) := by decide +kernel
theorem dX7_lend_26 : decode cX7_lend 26 = .ok (.invokevirtual 182, 3) := by decide +kernel
theorem dX7_lend_29 : decode cX7_lend 29 = .ok (.goto 4, 3) := by decide +kernel
theorem dX7_lend_32 : decode cX7_lend 32 = .ok (.iconst (-1), 1) := by decide +kernel
theorem dX7_lend_33 : decode cX7_lend 33 = .ok (.ireturn, 1) := by decide +kernel
theorem dX7_books_0 : decode cX7_books 0 = .ok (.aload_n 0, 1) := by decide +kernel
theorem dX7_books_1 : decode cX7_books 1 = .ok (.iload_n 1, 1) := by decide +kernel
theorem dX7_books_2 : decode cX7_books 2 = .ok (.iload_n 2, 1) := by decide +kernel
theorem dX7_books_3 : decode cX7_books 3 = .ok (.invokevirtual 170, 3) := by decide +kernel
theorem dX7_books_6 : decode cX7_books 6 = .ok (.ifCond .ne 5, 3) := by decide +kernel
theorem dX7_books_9 : decode cX7_books 9 = .ok (.iconst (-1), 1) := by decide +kernel
theorem dX7_books_10 : decode cX7_books 10 = .ok (.ireturn, 1) := by decide +kernel
theorem dX7_books_11 : decode cX7_books 11 = .ok (.aload_n 0, 1) := by decide +kernel
theorem dX7_books_12 : decode cX7_books 12 = .ok (.getfield 7, 3) := by decide +kernel
theorem dX7_books_15 : decode cX7_books 15 = .ok (.bipush 40, 2) := by decide +kernel
theorem dX7_books_17 : decode cX7_books 17 = .ok (.iaload, 1) := by decide +kernel
theorem dX7_books_18 : decode cX7_books 18 = .ok (.istore_n 3, 1) := by decide +kernel
theorem dX7_books_19 : decode cX7_books 19 = .ok (.iload_n 3, 1) := by decide +kernel
theorem dX7_books_20 : decode cX7_books 20 = .ok (.bipush 10, 2) := by decide +kernel
theorem dX7_books_22 : decode cX7_books 22 = .ok (.if_icmp .ne 6, 3) := by decide +kernel
theorem dX7_books_25 : decode cX7_books 25 = .ok (.bipush (-3), 2) := by decide +kernel
theorem dX7_books_27 : decode cX7_books 27 = .ok (.ireturn, 1) := by decide +kernel
theorem dX7_books_28 : decode cX7_books 28 = .ok (.aload_n 0, 1) := by decide +kernel
theorem dX7_books_29 : decode cX7_books 29 = .ok (.getfield 7, 3) := by decide +kernel
theorem dX7_books_32 : decode cX7_books 32 = .ok (.bipush 20, 2) := by decide +kernel
theorem dX7_books_34 : decode cX7_books 34 = .ok (.iload_n 3, 1) := by decide +kernel
theorem dX7_books_35 : decode cX7_books 35 = .ok (.iadd, 1) := by decide +kernel
theorem dX7_books_36 : decode cX7_books 36 = .ok (.iload_n 1, 1) := by decide +kernel
theorem dX7_books_37 : decode cX7_books 37 = .ok (.iastore, 1) := by decide +kernel
theorem dX7_books_38 : decode cX7_books 38 = .ok (.aload_n 0, 1) := by decide +kernel
theorem dX7_books_39 : decode cX7_books 39 = .ok (.getfield 7, 3) := by decide +kernel
theorem dX7_books_42 : decode cX7_books 42 = .ok (.bipush 30, 2) := by decide +kernel
theorem dX7_books_44 : decode cX7_books 44 = .ok (.iload_n 3, 1) := by decide +kernel
theorem dX7_books_45 : decode cX7_books 45 = .ok (.iadd, 1) := by decide +kernel
theorem dX7_books_46 : decode cX7_books 46 = .ok (.iload_n 2, 1) := by decide +kernel
theorem dX7_books_47 : decode cX7_books 47 = .ok (.iastore, 1) := by decide +kernel
theorem dX7_books_48 : decode cX7_books 48 = .ok (.aload_n 0, 1) := by decide +kernel
theorem dX7_books_49 : decode cX7_books 49 = .ok (.getfield 7, 3) := by decide +kernel
theorem dX7_books_52 : decode cX7_books 52 = .ok (.bipush 40, 2) := by decide +kernel
theorem dX7_books_54 : decode cX7_books 54 = .ok (.dup2, 1) := by decide +kernel
theorem dX7_books_55 : decode cX7_books 55 = .ok (.iaload, 1) := by decide +kernel
theorem dX7_books_56 : decode cX7_books 56 = .ok (.iconst 1, 1) := by decide +kernel
theorem dX7_books_57 : decode cX7_books 57 = .ok (.iadd, 1) := by decide +kernel
theorem dX7_books_58 : decode cX7_books 58 = .ok (.iastore, 1) := by decide +kernel
theorem dX7_books_59 : decode cX7_books 59 = .ok (.aload_n 0, 1) := by decide +kernel
theorem dX7_books_60 : decode cX7_books 60 = .ok (.getfield 7, 3) := by decide +kernel
theorem dX7_books_63 : decode cX7_books 63 = .ok (.bipush 40, 2) := by decide +kernel
theorem dX7_books_65 : decode cX7_books 65 = .ok (.iaload, 1) := by decide +kernel
theorem dX7_books_66 : decode cX7_books 66 = .ok (.ireturn, 1) := by decide +kernel
theorem dX7_book_0 : decode cX7_book 0 = .ok (.aload_n 0, 1) := by decide +kernel
theorem dX7_book_1 : decode cX7_book 1 = .ok (.iload_n 1, 1) := by decide +kernel
theorem dX7_book_2 : decode cX7_book 2 = .ok (.iload_n 2, 1) := by decide +kernel
theorem dX7_book_3 : decode cX7_book 3 = .ok (.invokevirtual 186, 3) := by decide +kernel
theorem dX7_book_6 : decode cX7_book 6 = .ok (.ireturn, 1) := by decide +kernel
theorem dX7_strike_0 : decode cX7_strike 0 = .ok (.aload_n 0, 1) := by decide +kernel
theorem dX7_strike_1 : decode cX7_strike 1 = .ok (.iload_n 1, 1) := by decide +kernel
theorem dX7_strike_2 : decode cX7_strike 2 = .ok (.i2l, 1) := by decide +kernel
theorem dX7_strike_3 : decode cX7_strike 3 = .ok (.lconst 0, 1) := by decide +kernel
theorem dX7_strike_4 : decode cX7_strike 4 = .ok (.aload_n 0, 1) := by decide +kernel
theorem dX7_strike_5 : decode cX7_strike 5 = .ok (.getfield 7, 3) := by decide +kernel
theorem dX7_strike_8 : decode cX7_strike 8 = .ok (.bipush 40, 2) := by decide +kernel
theorem dX7_strike_10 : decode cX7_strike 10 = .ok (.iaload, 1) := by decide +kernel
theorem dX7_strike_11 : decode cX7_strike 11 = .ok (.i2l, 1) := by decide +kernel
theorem dX7_strike_12 : decode cX7_strike 12 = .ok (.invokestatic 53, 3) := by decide +kernel
theorem dX7_strike_15 : decode cX7_strike 15 = .ok (.bipush 40, 2) := by decide +kernel
theorem dX7_strike_17 : decode cX7_strike 17 = .ok (.iload_n 1, 1) := by decide +kernel
theorem dX7_strike_18 : decode cX7_strike 18 = .ok (.invokevirtual 176, 3) := by decide +kernel
theorem dX7_strike_21 : decode cX7_strike 21 = .ok (.ireturn, 1) := by decide +kernel
theorem dX7_weeks_0 : decode cX7_weeks 0 = .ok (.iload_n 1, 1) := by decide +kernel
theorem dX7_weeks_1 : decode cX7_weeks 1 = .ok (.i2l, 1) := by decide +kernel
theorem dX7_weeks_2 : decode cX7_weeks 2 = .ok (.lconst 0, 1) := by decide +kernel
theorem dX7_weeks_3 : decode cX7_weeks 3 = .ok (.ldc2_w 189, 3) := by decide +kernel
theorem dX7_weeks_6 : decode cX7_weeks 6 = .ok (.invokestatic 53, 3) := by decide +kernel
theorem dX7_weeks_9 : decode cX7_weeks 9 = .ok (.ifCond .ne 5, 3) := by decide +kernel
theorem dX7_weeks_12 : decode cX7_weeks 12 = .ok (.iconst (-1), 1) := by decide +kernel
theorem dX7_weeks_13 : decode cX7_weeks 13 = .ok (.ireturn, 1) := by decide +kernel
theorem dX7_weeks_14 : decode cX7_weeks 14 = .ok (.aload_n 0, 1) := by decide +kernel
theorem dX7_weeks_15 : decode cX7_weeks 15 = .ok (.getfield 7, 3) := by decide +kernel
theorem dX7_weeks_18 : decode cX7_weeks 18 = .ok (.bipush 41, 2) := by decide +kernel
theorem dX7_weeks_20 : decode cX7_weeks 20 = .ok (.iaload, 1) := by decide +kernel
theorem dX7_weeks_21 : decode cX7_weeks 21 = .ok (.iload_n 1, 1) := by decide +kernel
theorem dX7_weeks_22 : decode cX7_weeks 22 = .ok (.iadd, 1) := by decide +kernel
theorem dX7_weeks_23 : decode cX7_weeks 23 = .ok (.sipush 999, 3) := by decide +kernel
theorem dX7_weeks_26 : decode cX7_weeks 26 = .ok (.if_icmp .le 6, 3) := by decide +kernel
theorem dX7_weeks_29 : decode cX7_weeks 29 = .ok (.bipush (-3), 2) := by decide +kernel
theorem dX7_weeks_31 : decode cX7_weeks 31 = .ok (.ireturn, 1) := by decide +kernel
theorem dX7_weeks_32 : decode cX7_weeks 32 = .ok (.aload_n 0, 1) := by decide +kernel
theorem dX7_weeks_33 : decode cX7_weeks 33 = .ok (.iconst 0, 1) := by decide +kernel
theorem dX7_weeks_34 : decode cX7_weeks 34 = .ok (.putfield 148, 3) := by decide +kernel
theorem dX7_weeks_37 : decode cX7_weeks 37 = .ok (.iconst 0, 1) := by decide +kernel
theorem dX7_weeks_38 : decode cX7_weeks 38 = .ok (.istore_n 2, 1) := by decide +kernel
theorem dX7_weeks_39 : decode cX7_weeks 39 = .ok (.iload_n 2, 1) := by decide +kernel
theorem dX7_weeks_40 : decode cX7_weeks 40 = .ok (.iload_n 1, 1) := by decide +kernel
theorem dX7_weeks_41 : decode cX7_weeks 41 = .ok (.if_icmp .ge 15, 3) := by decide +kernel
theorem dX7_weeks_44 : decode cX7_weeks 44 = .ok (.aload_n 0, 1) := by decide +kernel
theorem dX7_weeks_45 : decode cX7_weeks 45 = .ok (.iconst 0, 1) := by decide +kernel
theorem dX7_weeks_46 : decode cX7_weeks 46 = .ok (.iconst 0, 1) := by decide +kernel
theorem dX7_weeks_47 : decode cX7_weeks 47 = .ok (.invokevirtual 191, 3) := by decide +kernel
theorem dX7_weeks_50 : decode cX7_weeks 50 = .ok (.iinc 2 1, 3) := by decide +kernel
theorem dX7_weeks_53 : decode cX7_weeks 53 = .ok (.goto (-14), 3) := by decide +kernel
theorem dX7_weeks_56 : decode cX7_weeks 56 = .ok (.aload_n 0, 1) := by decide +kernel
theorem dX7_weeks_57 : decode cX7_weeks 57 = .ok (.getfield 148, 3) := by decide +kernel
theorem dX7_weeks_60 : decode cX7_weeks 60 = .ok (.ireturn, 1) := by decide +kernel
theorem dX7_copies_0 : decode cX7_copies 0 = .ok (.iconst 0, 1) := by decide +kernel
theorem dX7_copies_1 : decode cX7_copies 1 = .ok (.istore_n 3, 1) := by decide +kernel
theorem dX7_copies_2 : decode cX7_copies 2 = .ok (.iload_n 3, 1) := by decide +kernel
theorem dX7_copies_3 : decode cX7_copies 3 = .ok (.bipush 42, 2) := by decide +kernel
theorem dX7_copies_5 : decode cX7_copies 5 = .ok (.if_icmp .ge 25, 3) := by decide +kernel
theorem dX7_copies_8 : decode cX7_copies 8 = .ok (.aload_n 0, 1) := by decide +kernel
theorem dX7_copies_9 : decode cX7_copies 9 = .ok (.getfield 7, 3) := by decide +kernel
theorem dX7_copies_12 : decode cX7_copies 12 = .ok (.iload_n 2, 1) := by decide +kernel
theorem dX7_copies_13 : decode cX7_copies 13 = .ok (.iload_n 3, 1) := by decide +kernel
theorem dX7_copies_14 : decode cX7_copies 14 = .ok (.iadd, 1) := by decide +kernel
theorem dX7_copies_15 : decode cX7_copies 15 = .ok (.aload_n 0, 1) := by decide +kernel
theorem dX7_copies_16 : decode cX7_copies 16 = .ok (.getfield 7, 3) := by decide +kernel
theorem dX7_copies_19 : decode cX7_copies 19 = .ok (.iload_n 1, 1) := by decide +kernel
theorem dX7_copies_20 : decode cX7_copies 20 = .ok (.iload_n 3, 1) := by decide +kernel
theorem dX7_copies_21 : decode cX7_copies 21 = .ok (.iadd, 1) := by decide +kernel
theorem dX7_copies_22 : decode cX7_copies 22 = .ok (.iaload, 1) := by decide +kernel
theorem dX7_copies_23 : decode cX7_copies 23 = .ok (.iastore, 1) := by decide +kernel
theorem dX7_copies_24 : decode cX7_copies 24 = .ok (.iinc 3 1, 3) := by decide +kernel
theorem dX7_copies_27 : decode cX7_copies 27 = .ok (.goto (-25), 3) := by decide +kernel
theorem dX7_copies_30 : decode cX7_copies 30 = .ok (.return_, 1) := by decide +kernel
theorem dX7_weeksGo_0 : decode cX7_weeksGo 0 = .ok (.aload_n 0, 1) := by decide +kernel
theorem dX7_weeksGo_1 : decode cX7_weeksGo 1 = .ok (.iload_n 1, 1) := by decide +kernel
theorem dX7_weeksGo_2 : decode cX7_weeksGo 2 = .ok (.sipush 168, 3) := by decide +kernel
theorem dX7_weeksGo_5 : decode cX7_weeksGo 5 = .ok (.invokevirtual 195, 3) := by decide +kernel
theorem dX7_weeksGo_8 : decode cX7_weeksGo 8 = .ok (.aload_n 0, 1) := by decide +kernel
theorem dX7_weeksGo_9 : decode cX7_weeksGo 9 = .ok (.iconst 0, 1) := by decide +kernel
theorem dX7_weeksGo_10 : decode cX7_weeksGo 10 = .ok (.putfield 148, 3) := by decide +kernel
theorem dX7_weeksGo_13 : decode cX7_weeksGo 13 = .ok (.aload_n 0, 1) := by decide +kernel
theorem dX7_weeksGo_14 : decode cX7_weeksGo 14 = .ok (.iconst 0, 1) := by decide +kernel
theorem dX7_weeksGo_15 : decode cX7_weeksGo 15 = .ok (.putfield 145, 3) := by decide +kernel
theorem dX7_weeksGo_18 : decode cX7_weeksGo 18 = .ok (.iconst 0, 1) := by decide +kernel
theorem dX7_weeksGo_19 : decode cX7_weeksGo 19 = .ok (.istore_n 3, 1) := by decide +kernel
theorem dX7_weeksGo_20 : decode cX7_weeksGo 20 = .ok (.iload_n 3, 1) := by decide +kernel
theorem dX7_weeksGo_21 : decode cX7_weeksGo 21 = .ok (.iload_n 2, 1) := by decide +kernel
theorem dX7_weeksGo_22 : decode cX7_weeksGo 22 = .ok (.if_icmp .ge 17, 3) := by decide +kernel
theorem dX7_weeksGo_25 : decode cX7_weeksGo 25 = .ok (.aload_n 0, 1) := by decide +kernel
theorem dX7_weeksGo_26 : decode cX7_weeksGo 26 = .ok (.sipush 168, 3) := by decide +kernel
theorem dX7_weeksGo_29 : decode cX7_weeksGo 29 = .ok (.iconst 0, 1) := by decide +kernel
theorem dX7_weeksGo_30 : decode cX7_weeksGo 30 = .ok (.invokevirtual 191, 3) := by decide +kernel
theorem dX7_weeksGo_33 : decode cX7_weeksGo 33 = .ok (.iinc 3 1, 3) := by decide +kernel
theorem dX7_weeksGo_36 : decode cX7_weeksGo 36 = .ok (.goto (-16), 3) := by decide +kernel
theorem dX7_weeksGo_39 : decode cX7_weeksGo 39 = .ok (.aload_n 0, 1) := by decide +kernel
theorem dX7_weeksGo_40 : decode cX7_weeksGo 40 = .ok (.sipush 168, 3) := by decide +kernel
theorem dX7_weeksGo_43 : decode cX7_weeksGo 43 = .ok (.invokevirtual 164, 3) := by decide +kernel
theorem dX7_weeksGo_46 : decode cX7_weeksGo 46 = .ok (.ireturn, 1) := by decide +kernel
theorem dX7_runs_0 : decode cX7_runs 0 = .ok (.iload_n 1, 1) := by decide +kernel
theorem dX7_runs_1 : decode cX7_runs 1 = .ok (.i2l, 1) := by decide +kernel
theorem dX7_runs_2 : decode cX7_runs 2 = .ok (.lconst 0, 1) := by decide +kernel
theorem dX7_runs_3 : decode cX7_runs 3 = .ok (.ldc2_w 199, 3) := by decide +kernel
theorem dX7_runs_6 : decode cX7_runs 6 = .ok (.invokestatic 53, 3) := by decide +kernel
theorem dX7_runs_9 : decode cX7_runs 9 = .ok (.ifCond .eq 15, 3) := by decide +kernel
theorem dX7_runs_12 : decode cX7_runs 12 = .ok (.iload_n 2, 1) := by decide +kernel
theorem dX7_runs_13 : decode cX7_runs 13 = .ok (.i2l, 1) := by decide +kernel
theorem dX7_runs_14 : decode cX7_runs 14 = .ok (.lconst 0, 1) := by decide +kernel
theorem dX7_runs_15 : decode cX7_runs 15 = .ok (.ldc2_w 174, 3) := by decide +kernel
theorem dX7_runs_18 : decode cX7_runs 18 = .ok (.invokestatic 53, 3) := by decide +kernel
theorem dX7_runs_21 : decode cX7_runs 21 = .ok (.ifCond .ne 5, 3) := by decide +kernel
theorem dX7_runs_24 : decode cX7_runs 24 = .ok (.iconst (-1), 1) := by decide +kernel
theorem dX7_runs_25 : decode cX7_runs 25 = .ok (.ireturn, 1) := by decide +kernel
theorem dX7_runs_26 : decode cX7_runs 26 = .ok (.aload_n 0, 1) := by decide +kernel
theorem dX7_runs_27 : decode cX7_runs 27 = .ok (.iconst 0, 1) := by decide +kernel
theorem dX7_runs_28 : decode cX7_runs 28 = .ok (.iload_n 1, 1) := by decide +kernel
theorem dX7_runs_29 : decode cX7_runs 29 = .ok (.invokevirtual 201, 3) := by decide +kernel
theorem dX7_runs_32 : decode cX7_runs 32 = .ok (.istore_n 3, 1) := by decide +kernel
theorem dX7_runs_33 : decode cX7_runs 33 = .ok (.iload_n 2, 1) := by decide +kernel
theorem dX7_runs_34 : decode cX7_runs 34 = .ok (.ifCond .ne 10, 3) := by decide +kernel
theorem dX7_runs_37 : decode cX7_runs 37 = .ok (.aload_n 0, 1) := by decide +kernel
theorem dX7_runs_38 : decode cX7_runs 38 = .ok (.getfield 148, 3) := by decide +kernel
theorem dX7_runs_41 : decode cX7_runs 41 = .ok (.goto 31, 3) := by decide +kernel
theorem dX7_runs_44 : decode cX7_runs 44 = .ok (.iload_n 2, 1) := by decide +kernel
theorem dX7_runs_45 : decode cX7_runs 45 = .ok (.iconst 1, 1) := by decide +kernel
theorem dX7_runs_46 : decode cX7_runs 46 = .ok (.if_icmp .ne 10, 3) := by decide +kernel
theorem dX7_runs_49 : decode cX7_runs 49 = .ok (.aload_n 0, 1) := by decide +kernel
theorem dX7_runs_50 : decode cX7_runs 50 = .ok (.getfield 145, 3) := by decide +kernel
end
section
theorem dX7_runs_53 : decode cX7_runs 53 = .ok (.goto 19, 3) := by decide +kernel
theorem dX7_runs_56 : decode cX7_runs 56 = .ok (.iload_n 2, 1) := by decide +kernel
theorem dX7_runs_57 : decode cX7_runs 57 = .ok (.iconst 2, 1) := by decide +kernel
theorem dX7_runs_58 : decode cX7_runs 58 = .ok (.if_icmp .ne 7, 3) := by decide +kernel
theorem dX7_runs_61 : decode cX7_runs 61 = .ok (.iload_n 3, 1) := by decide +kernel
theorem dX7_runs_62 : decode cX7_runs 62 = .ok (.goto 10, 3) := by decide +kernel
theorem dX7_runs_65 : decode cX7_runs 65 = .ok (.aload_n 0, 1) := by decide +kernel
theorem dX7_runs_66 : decode cX7_runs 66 = .ok (.sipush 168, 3) := by decide +kernel
theorem dX7_runs_69 : decode cX7_runs 69 = .ok (.invokevirtual 161, 3) := by decide +kernel
theorem dX7_runs_72 : decode cX7_runs 72 = .ok (.ireturn, 1) := by decide +kernel
theorem dX7_ahead_0 : decode cX7_ahead 0 = .ok (.aload_n 0, 1) := by decide +kernel
theorem dX7_ahead_1 : decode cX7_ahead 1 = .ok (.iload_n 1, 1) := by decide +kernel
theorem dX7_ahead_2 : decode cX7_ahead 2 = .ok (.invokevirtual 131, 3) := by decide +kernel
theorem dX7_ahead_5 : decode cX7_ahead 5 = .ok (.ifCond .eq 27, 3) := by decide +kernel
theorem dX7_ahead_8 : decode cX7_ahead 8 = .ok (.iload_n 2, 1) := by decide +kernel
theorem dX7_ahead_9 : decode cX7_ahead 9 = .ok (.i2l, 1) := by decide +kernel
theorem dX7_ahead_10 : decode cX7_ahead 10 = .ok (.lconst 0, 1) := by decide +kernel
theorem dX7_ahead_11 : decode cX7_ahead 11 = .ok (.ldc2_w 199, 3) := by decide +kernel
theorem dX7_ahead_14 : decode cX7_ahead 14 = .ok (.invokestatic 53, 3) := by decide +kernel
theorem dX7_ahead_17 : decode cX7_ahead 17 = .ok (.ifCond .eq 15, 3) := by decide +kernel
theorem dX7_ahead_20 : decode cX7_ahead 20 = .ok (.iload_n 3, 1) := by decide +kernel
theorem dX7_ahead_21 : decode cX7_ahead 21 = .ok (.i2l, 1) := by decide +kernel
theorem dX7_ahead_22 : decode cX7_ahead 22 = .ok (.lconst 0, 1) := by decide +kernel
theorem dX7_ahead_23 : decode cX7_ahead 23 = .ok (.ldc2_w 204, 3) := by decide +kernel
theorem dX7_ahead_26 : decode cX7_ahead 26 = .ok (.invokestatic 53, 3) := by decide +kernel
theorem dX7_ahead_29 : decode cX7_ahead 29 = .ok (.ifCond .ne 5, 3) := by decide +kernel
theorem dX7_ahead_32 : decode cX7_ahead 32 = .ok (.iconst (-1), 1) := by decide +kernel
theorem dX7_ahead_33 : decode cX7_ahead 33 = .ok (.ireturn, 1) := by decide +kernel
theorem dX7_ahead_34 : decode cX7_ahead 34 = .ok (.aload_n 0, 1) := by decide +kernel
theorem dX7_ahead_35 : decode cX7_ahead 35 = .ok (.iconst 0, 1) := by decide +kernel
theorem dX7_ahead_36 : decode cX7_ahead 36 = .ok (.iload_n 2, 1) := by decide +kernel
theorem dX7_ahead_37 : decode cX7_ahead 37 = .ok (.invokevirtual 201, 3) := by decide +kernel
theorem dX7_ahead_40 : decode cX7_ahead 40 = .ok (.pop, 1) := by decide +kernel
theorem dX7_ahead_41 : decode cX7_ahead 41 = .ok (.aload_n 0, 1) := by decide +kernel
theorem dX7_ahead_42 : decode cX7_ahead 42 = .ok (.getfield 7, 3) := by decide +kernel
theorem dX7_ahead_45 : decode cX7_ahead 45 = .ok (.sipush 173, 3) := by decide +kernel
theorem dX7_ahead_48 : decode cX7_ahead 48 = .ok (.iconst 5, 1) := by decide +kernel
theorem dX7_ahead_49 : decode cX7_ahead 49 = .ok (.iload_n 3, 1) := by decide +kernel
theorem dX7_ahead_50 : decode cX7_ahead 50 = .ok (.imul, 1) := by decide +kernel
theorem dX7_ahead_51 : decode cX7_ahead 51 = .ok (.iadd, 1) := by decide +kernel
theorem dX7_ahead_52 : decode cX7_ahead 52 = .ok (.iload_n 1, 1) := by decide +kernel
theorem dX7_ahead_53 : decode cX7_ahead 53 = .ok (.iadd, 1) := by decide +kernel
theorem dX7_ahead_54 : decode cX7_ahead 54 = .ok (.iaload, 1) := by decide +kernel
theorem dX7_ahead_55 : decode cX7_ahead 55 = .ok (.ireturn, 1) := by decide +kernel
theorem dX7_loser_0 : decode cX7_loser 0 = .ok (.iload_n 1, 1) := by decide +kernel
theorem dX7_loser_1 : decode cX7_loser 1 = .ok (.i2l, 1) := by decide +kernel
theorem dX7_loser_2 : decode cX7_loser 2 = .ok (.lconst 0, 1) := by decide +kernel
theorem dX7_loser_3 : decode cX7_loser 3 = .ok (.ldc2_w 199, 3) := by decide +kernel
theorem dX7_loser_6 : decode cX7_loser 6 = .ok (.invokestatic 53, 3) := by decide +kernel
theorem dX7_loser_9 : decode cX7_loser 9 = .ok (.ifCond .ne 5, 3) := by decide +kernel
theorem dX7_loser_12 : decode cX7_loser 12 = .ok (.iconst (-1), 1) := by decide +kernel
theorem dX7_loser_13 : decode cX7_loser 13 = .ok (.ireturn, 1) := by decide +kernel
theorem dX7_loser_14 : decode cX7_loser 14 = .ok (.aload_n 0, 1) := by decide +kernel
theorem dX7_loser_15 : decode cX7_loser 15 = .ok (.iconst 0, 1) := by decide +kernel
theorem dX7_loser_16 : decode cX7_loser 16 = .ok (.iload_n 1, 1) := by decide +kernel
theorem dX7_loser_17 : decode cX7_loser 17 = .ok (.iconst 1, 1) := by decide +kernel
theorem dX7_loser_18 : decode cX7_loser 18 = .ok (.iadd, 1) := by decide +kernel
theorem dX7_loser_19 : decode cX7_loser 19 = .ok (.invokevirtual 201, 3) := by decide +kernel
theorem dX7_loser_22 : decode cX7_loser 22 = .ok (.pop, 1) := by decide +kernel
theorem dX7_loser_23 : decode cX7_loser 23 = .ok (.aload_n 0, 1) := by decide +kernel
theorem dX7_loser_24 : decode cX7_loser 24 = .ok (.getfield 142, 3) := by decide +kernel
theorem dX7_loser_27 : decode cX7_loser 27 = .ok (.ireturn, 1) := by decide +kernel
theorem dX7_firstLoss_0 : decode cX7_firstLoss 0 = .ok (.aload_n 0, 1) := by decide +kernel
theorem dX7_firstLoss_1 : decode cX7_firstLoss 1 = .ok (.iload_n 1, 1) := by decide +kernel
theorem dX7_firstLoss_2 : decode cX7_firstLoss 2 = .ok (.sipush 168, 3) := by decide +kernel
theorem dX7_firstLoss_5 : decode cX7_firstLoss 5 = .ok (.invokevirtual 195, 3) := by decide +kernel
theorem dX7_firstLoss_8 : decode cX7_firstLoss 8 = .ok (.iconst 0, 1) := by decide +kernel
theorem dX7_firstLoss_9 : decode cX7_firstLoss 9 = .ok (.istore 4, 2) := by decide +kernel
theorem dX7_firstLoss_11 : decode cX7_firstLoss 11 = .ok (.iload 4, 2) := by decide +kernel
theorem dX7_firstLoss_13 : decode cX7_firstLoss 13 = .ok (.iload_n 3, 1) := by decide +kernel
theorem dX7_firstLoss_14 : decode cX7_firstLoss 14 = .ok (.if_icmp .ge 28, 3) := by decide +kernel
theorem dX7_firstLoss_17 : decode cX7_firstLoss 17 = .ok (.aload_n 0, 1) := by decide +kernel
theorem dX7_firstLoss_18 : decode cX7_firstLoss 18 = .ok (.sipush 168, 3) := by decide +kernel
theorem dX7_firstLoss_21 : decode cX7_firstLoss 21 = .ok (.iconst 0, 1) := by decide +kernel
theorem dX7_firstLoss_22 : decode cX7_firstLoss 22 = .ok (.invokevirtual 191, 3) := by decide +kernel
theorem dX7_firstLoss_25 : decode cX7_firstLoss 25 = .ok (.aload_n 0, 1) := by decide +kernel
theorem dX7_firstLoss_26 : decode cX7_firstLoss 26 = .ok (.getfield 142, 3) := by decide +kernel
theorem dX7_firstLoss_29 : decode cX7_firstLoss 29 = .ok (.iload_n 2, 1) := by decide +kernel
theorem dX7_firstLoss_30 : decode cX7_firstLoss 30 = .ok (.if_icmp .ne 6, 3) := by decide +kernel
theorem dX7_firstLoss_33 : decode cX7_firstLoss 33 = .ok (.iload 4, 2) := by decide +kernel
theorem dX7_firstLoss_35 : decode cX7_firstLoss 35 = .ok (.ireturn, 1) := by decide +kernel
theorem dX7_firstLoss_36 : decode cX7_firstLoss 36 = .ok (.iinc 4 1, 3) := by decide +kernel
theorem dX7_firstLoss_39 : decode cX7_firstLoss 39 = .ok (.goto (-28), 3) := by decide +kernel
theorem dX7_firstLoss_42 : decode cX7_firstLoss 42 = .ok (.bipush (-4), 2) := by decide +kernel
theorem dX7_firstLoss_44 : decode cX7_firstLoss 44 = .ok (.ireturn, 1) := by decide +kernel
theorem dX7_loses_0 : decode cX7_loses 0 = .ok (.aload_n 0, 1) := by decide +kernel
theorem dX7_loses_1 : decode cX7_loses 1 = .ok (.iload_n 1, 1) := by decide +kernel
theorem dX7_loses_2 : decode cX7_loses 2 = .ok (.invokevirtual 131, 3) := by decide +kernel
theorem dX7_loses_5 : decode cX7_loses 5 = .ok (.ifCond .eq 14, 3) := by decide +kernel
theorem dX7_loses_8 : decode cX7_loses 8 = .ok (.aload_n 0, 1) := by decide +kernel
theorem dX7_loses_9 : decode cX7_loses 9 = .ok (.iconst 0, 1) := by decide +kernel
theorem dX7_loses_10 : decode cX7_loses 10 = .ok (.iload_n 1, 1) := by decide +kernel
theorem dX7_loses_11 : decode cX7_loses 11 = .ok (.bipush 61, 2) := by decide +kernel
theorem dX7_loses_13 : decode cX7_loses 13 = .ok (.invokevirtual 206, 3) := by decide +kernel
theorem dX7_loses_16 : decode cX7_loses 16 = .ok (.goto 4, 3) := by decide +kernel
theorem dX7_loses_19 : decode cX7_loses 19 = .ok (.iconst (-1), 1) := by decide +kernel
theorem dX7_loses_20 : decode cX7_loses 20 = .ok (.ireturn, 1) := by decide +kernel
theorem dX7_ordered_0 : decode cX7_ordered 0 = .ok (.aload_n 0, 1) := by decide +kernel
theorem dX7_ordered_1 : decode cX7_ordered 1 = .ok (.getfield 7, 3) := by decide +kernel
theorem dX7_ordered_4 : decode cX7_ordered 4 = .ok (.bipush 40, 2) := by decide +kernel
theorem dX7_ordered_6 : decode cX7_ordered 6 = .ok (.iaload, 1) := by decide +kernel
theorem dX7_ordered_7 : decode cX7_ordered 7 = .ok (.istore_n 2, 1) := by decide +kernel
theorem dX7_ordered_8 : decode cX7_ordered 8 = .ok (.iconst 0, 1) := by decide +kernel
theorem dX7_ordered_9 : decode cX7_ordered 9 = .ok (.istore_n 3, 1) := by decide +kernel
theorem dX7_ordered_10 : decode cX7_ordered 10 = .ok (.iload_n 1, 1) := by decide +kernel
theorem dX7_ordered_11 : decode cX7_ordered 11 = .ok (.istore 4, 2) := by decide +kernel
theorem dX7_ordered_13 : decode cX7_ordered 13 = .ok (.aload_n 0, 1) := by decide +kernel
theorem dX7_ordered_14 : decode cX7_ordered 14 = .ok (.iconst 0, 1) := by decide +kernel
theorem dX7_ordered_15 : decode cX7_ordered 15 = .ok (.sipush 210, 3) := by decide +kernel
theorem dX7_ordered_18 : decode cX7_ordered 18 = .ok (.invokevirtual 195, 3) := by decide +kernel
theorem dX7_ordered_21 : decode cX7_ordered 21 = .ok (.iload_n 2, 1) := by decide +kernel
theorem dX7_ordered_22 : decode cX7_ordered 22 = .ok (.iconst 1, 1) := by decide +kernel
theorem dX7_ordered_23 : decode cX7_ordered 23 = .ok (.isub, 1) := by decide +kernel
theorem dX7_ordered_24 : decode cX7_ordered 24 = .ok (.istore 5, 2) := by decide +kernel
theorem dX7_ordered_26 : decode cX7_ordered 26 = .ok (.iload 5, 2) := by decide +kernel
theorem dX7_ordered_28 : decode cX7_ordered 28 = .ok (.ifCond .lt 70, 3) := by decide +kernel
theorem dX7_ordered_31 : decode cX7_ordered 31 = .ok (.iload 4, 2) := by decide +kernel
theorem dX7_ordered_33 : decode cX7_ordered 33 = .ok (.iload_n 2, 1) := by decide +kernel
theorem dX7_ordered_34 : decode cX7_ordered 34 = .ok (.irem, 1) := by decide +kernel
theorem dX7_ordered_35 : decode cX7_ordered 35 = .ok (.istore 6, 2) := by decide +kernel
theorem dX7_ordered_37 : decode cX7_ordered 37 = .ok (.iload_n 3, 1) := by decide +kernel
theorem dX7_ordered_38 : decode cX7_ordered 38 = .ok (.iconst 1, 1) := by decide +kernel
theorem dX7_ordered_39 : decode cX7_ordered 39 = .ok (.iload 6, 2) := by decide +kernel
theorem dX7_ordered_41 : decode cX7_ordered 41 = .ok (.ishl, 1) := by decide +kernel
theorem dX7_ordered_42 : decode cX7_ordered 42 = .ok (.ior, 1) := by decide +kernel
theorem dX7_ordered_43 : decode cX7_ordered 43 = .ok (.istore_n 3, 1) := by decide +kernel
theorem dX7_ordered_44 : decode cX7_ordered 44 = .ok (.aload_n 0, 1) := by decide +kernel
theorem dX7_ordered_45 : decode cX7_ordered 45 = .ok (.getfield 7, 3) := by decide +kernel
theorem dX7_ordered_48 : decode cX7_ordered 48 = .ok (.sipush 230, 3) := by decide +kernel
theorem dX7_ordered_51 : decode cX7_ordered 51 = .ok (.iload 5, 2) := by decide +kernel
theorem dX7_ordered_53 : decode cX7_ordered 53 = .ok (.iadd, 1) := by decide +kernel
theorem dX7_ordered_54 : decode cX7_ordered 54 = .ok (.aload_n 0, 1) := by decide +kernel
theorem dX7_ordered_55 : decode cX7_ordered 55 = .ok (.getfield 7, 3) := by decide +kernel
theorem dX7_ordered_58 : decode cX7_ordered 58 = .ok (.bipush 20, 2) := by decide +kernel
theorem dX7_ordered_60 : decode cX7_ordered 60 = .ok (.iload 6, 2) := by decide +kernel
theorem dX7_ordered_62 : decode cX7_ordered 62 = .ok (.iadd, 1) := by decide +kernel
theorem dX7_ordered_63 : decode cX7_ordered 63 = .ok (.iaload, 1) := by decide +kernel
theorem dX7_ordered_64 : decode cX7_ordered 64 = .ok (.iastore, 1) := by decide +kernel
theorem dX7_ordered_65 : decode cX7_ordered 65 = .ok (.aload_n 0, 1) := by decide +kernel
theorem dX7_ordered_66 : decode cX7_ordered 66 = .ok (.getfield 7, 3) := by decide +kernel
theorem dX7_ordered_69 : decode cX7_ordered 69 = .ok (.sipush 240, 3) := by decide +kernel
theorem dX7_ordered_72 : decode cX7_ordered 72 = .ok (.iload 5, 2) := by decide +kernel
theorem dX7_ordered_74 : decode cX7_ordered 74 = .ok (.iadd, 1) := by decide +kernel
theorem dX7_ordered_75 : decode cX7_ordered 75 = .ok (.aload_n 0, 1) := by decide +kernel
theorem dX7_ordered_76 : decode cX7_ordered 76 = .ok (.getfield 7, 3) := by decide +kernel
theorem dX7_ordered_79 : decode cX7_ordered 79 = .ok (.bipush 30, 2) := by decide +kernel
theorem dX7_ordered_81 : decode cX7_ordered 81 = .ok (.iload 6, 2) := by decide +kernel
theorem dX7_ordered_83 : decode cX7_ordered 83 = .ok (.iadd, 1) := by decide +kernel
theorem dX7_ordered_84 : decode cX7_ordered 84 = .ok (.iaload, 1) := by decide +kernel
theorem dX7_ordered_85 : decode cX7_ordered 85 = .ok (.iastore, 1) := by decide +kernel
theorem dX7_ordered_86 : decode cX7_ordered 86 = .ok (.iload 4, 2) := by decide +kernel
theorem dX7_ordered_88 : decode cX7_ordered 88 = .ok (.iload_n 2, 1) := by decide +kernel
theorem dX7_ordered_89 : decode cX7_ordered 89 = .ok (.idiv, 1) := by decide +kernel
theorem dX7_ordered_90 : decode cX7_ordered 90 = .ok (.istore 4, 2) := by decide +kernel
theorem dX7_ordered_92 : decode cX7_ordered 92 = .ok (.iinc 5 (-1), 3) := by decide +kernel
theorem dX7_ordered_95 : decode cX7_ordered 95 = .ok (.goto (-69), 3) := by decide +kernel
theorem dX7_ordered_98 : decode cX7_ordered 98 = .ok (.iload_n 3, 1) := by decide +kernel
theorem dX7_ordered_99 : decode cX7_ordered 99 = .ok (.iconst 1, 1) := by decide +kernel
theorem dX7_ordered_100 : decode cX7_ordered 100 = .ok (.iload_n 2, 1) := by decide +kernel
theorem dX7_ordered_101 : decode cX7_ordered 101 = .ok (.ishl, 1) := by decide +kernel
theorem dX7_ordered_102 : decode cX7_ordered 102 = .ok (.iconst 1, 1) := by decide +kernel
theorem dX7_ordered_103 : decode cX7_ordered 103 = .ok (.isub, 1) := by decide +kernel
theorem dX7_ordered_104 : decode cX7_ordered 104 = .ok (.if_icmp .ne 7, 3) := by decide +kernel
theorem dX7_ordered_107 : decode cX7_ordered 107 = .ok (.iconst 1, 1) := by decide +kernel
theorem dX7_ordered_108 : decode cX7_ordered 108 = .ok (.goto 4, 3) := by decide +kernel
theorem dX7_ordered_111 : decode cX7_ordered 111 = .ok (.iconst 0, 1) := by decide +kernel
theorem dX7_ordered_112 : decode cX7_ordered 112 = .ok (.ireturn, 1) := by decide +kernel
theorem dX7_order_0 : decode cX7_order 0 = .ok (.iload_n 1, 1) := by decide +kernel
theorem dX7_order_1 : decode cX7_order 1 = .ok (.ifCond .eq 19, 3) := by decide +kernel
theorem dX7_order_4 : decode cX7_order 4 = .ok (.iload_n 1, 1) := by decide +kernel
theorem dX7_order_5 : decode cX7_order 5 = .ok (.i2l, 1) := by decide +kernel
theorem dX7_order_6 : decode cX7_order 6 = .ok (.ldc2_w 209, 3) := by decide +kernel
theorem dX7_order_9 : decode cX7_order 9 = .ok (.ldc2_w 211, 3) := by decide +kernel
theorem dX7_order_12 : decode cX7_order 12 = .ok (.invokestatic 53, 3) := by decide +kernel
theorem dX7_order_15 : decode cX7_order 15 = .ok (.ifCond .ne 5, 3) := by decide +kernel
theorem dX7_order_18 : decode cX7_order 18 = .ok (.iconst (-1), 1) := by decide +kernel
theorem dX7_order_19 : decode cX7_order 19 = .ok (.ireturn, 1) := by decide +kernel
theorem dX7_order_20 : decode cX7_order 20 = .ok (.aload_n 0, 1) := by decide +kernel
theorem dX7_order_21 : decode cX7_order 21 = .ok (.getfield 7, 3) := by decide +kernel
theorem dX7_order_24 : decode cX7_order 24 = .ok (.bipush 40, 2) := by decide +kernel
theorem dX7_order_26 : decode cX7_order 26 = .ok (.iaload, 1) := by decide +kernel
theorem dX7_order_27 : decode cX7_order 27 = .ok (.istore_n 2, 1) := by decide +kernel
theorem dX7_order_28 : decode cX7_order 28 = .ok (.iload_n 2, 1) := by decide +kernel
theorem dX7_order_29 : decode cX7_order 29 = .ok (.iconst 5, 1) := by decide +kernel
theorem dX7_order_30 : decode cX7_order 30 = .ok (.if_icmp .gt 15, 3) := by decide +kernel
theorem dX7_order_33 : decode cX7_order 33 = .ok (.iload_n 2, 1) := by decide +kernel
theorem dX7_order_34 : decode cX7_order 34 = .ok (.ifCond .le 14, 3) := by decide +kernel
theorem dX7_order_37 : decode cX7_order 37 = .ok (.aload_n 0, 1) := by decide +kernel
theorem dX7_order_38 : decode cX7_order 38 = .ok (.iconst 0, 1) := by decide +kernel
theorem dX7_order_39 : decode cX7_order 39 = .ok (.invokevirtual 151, 3) := by decide +kernel
theorem dX7_order_42 : decode cX7_order 42 = .ok (.ifCond .eq 6, 3) := by decide +kernel
theorem dX7_order_45 : decode cX7_order 45 = .ok (.bipush (-2), 2) := by decide +kernel
theorem dX7_order_47 : decode cX7_order 47 = .ok (.ireturn, 1) := by decide +kernel
theorem dX7_order_48 : decode cX7_order 48 = .ok (.iconst 1, 1) := by decide +kernel
theorem dX7_order_49 : decode cX7_order 49 = .ok (.istore_n 3, 1) := by decide +kernel
theorem dX7_order_50 : decode cX7_order 50 = .ok (.iconst 0, 1) := by decide +kernel
theorem dX7_order_51 : decode cX7_order 51 = .ok (.istore 4, 2) := by decide +kernel
theorem dX7_order_53 : decode cX7_order 53 = .ok (.iload 4, 2) := by decide +kernel
theorem dX7_order_55 : decode cX7_order 55 = .ok (.iload_n 2, 1) := by decide +kernel
theorem dX7_order_56 : decode cX7_order 56 = .ok (.if_icmp .ge 13, 3) := by decide +kernel
theorem dX7_order_59 : decode cX7_order 59 = .ok (.iload_n 3, 1) := by decide +kernel
theorem dX7_order_60 : decode cX7_order 60 = .ok (.iload_n 2, 1) := by decide +kernel
theorem dX7_order_61 : decode cX7_order 61 = .ok (.imul, 1) := by decide +kernel
theorem dX7_order_62 : decode cX7_order 62 = .ok (.istore_n 3, 1) := by decide +kernel
theorem dX7_order_63 : decode cX7_order 63 = .ok (.iinc 4 1, 3) := by decide +kernel
theorem dX7_order_66 : decode cX7_order 66 = .ok (.goto (-13), 3) := by decide +kernel
theorem dX7_order_69 : decode cX7_order 69 = .ok (.ldc 213, 2) := by decide +kernel
theorem dX7_order_71 : decode cX7_order 71 = .ok (.istore 4, 2) := by decide +kernel
theorem dX7_order_73 : decode cX7_order 73 = .ok (.iconst 0, 1) := by decide +kernel
theorem dX7_order_74 : decode cX7_order 74 = .ok (.istore 5, 2) := by decide +kernel
theorem dX7_order_76 : decode cX7_order 76 = .ok (.iconst 0, 1) := by decide +kernel
theorem dX7_order_77 : decode cX7_order 77 = .ok (.istore 6, 2) := by decide +kernel
theorem dX7_order_79 : decode cX7_order 79 = .ok (.iload 6, 2) := by decide +kernel
theorem dX7_order_81 : decode cX7_order 81 = .ok (.iload_n 3, 1) := by decide +kernel
theorem dX7_order_82 : decode cX7_order 82 = .ok (.if_icmp .ge 60, 3) := by decide +kernel
theorem dX7_order_85 : decode cX7_order 85 = .ok (.aload_n 0, 1) := by decide +kernel
theorem dX7_order_86 : decode cX7_order 86 = .ok (.iload 6, 2) := by decide +kernel
theorem dX7_order_88 : decode cX7_order 88 = .ok (.invokevirtual 214, 3) := by decide +kernel
theorem dX7_order_91 : decode cX7_order 91 = .ok (.ifCond .eq 45, 3) := by decide +kernel
theorem dX7_order_94 : decode cX7_order 94 = .ok (.aload_n 0, 1) := by decide +kernel
theorem dX7_order_95 : decode cX7_order 95 = .ok (.sipush 210, 3) := by decide +kernel
theorem dX7_order_98 : decode cX7_order 98 = .ok (.iload_n 2, 1) := by decide +kernel
theorem dX7_order_99 : decode cX7_order 99 = .ok (.invokevirtual 201, 3) := by decide +kernel
theorem dX7_order_102 : decode cX7_order 102 = .ok (.istore 7, 2) := by decide +kernel
theorem dX7_order_104 : decode cX7_order 104 = .ok (.iload 7, 2) := by decide +kernel
theorem dX7_order_106 : decode cX7_order 106 = .ok (.iload 4, 2) := by decide +kernel
theorem dX7_order_108 : decode cX7_order 108 = .ok (.if_icmp .ge 8, 3) := by decide +kernel
theorem dX7_order_111 : decode cX7_order 111 = .ok (.iload 6, 2) := by decide +kernel
theorem dX7_order_113 : decode cX7_order 113 = .ok (.goto 5, 3) := by decide +kernel
theorem dX7_order_116 : decode cX7_order 116 = .ok (.iload 5, 2) := by decide +kernel
theorem dX7_order_118 : decode cX7_order 118 = .ok (.istore 5, 2) := by decide +kernel
theorem dX7_order_120 : decode cX7_order 120 = .ok (.iload 7, 2) := by decide +kernel
theorem dX7_order_122 : decode cX7_order 122 = .ok (.iload 4, 2) := by decide +kernel
theorem dX7_order_124 : decode cX7_order 124 = .ok (.if_icmp .ge 8, 3) := by decide +kernel
theorem dX7_order_127 : decode cX7_order 127 = .ok (.iload 7, 2) := by decide +kernel
theorem dX7_order_129 : decode cX7_order 129 = .ok (.goto 5, 3) := by decide +kernel
theorem dX7_order_132 : decode cX7_order 132 = .ok (.iload 4, 2) := by decide +kernel
theorem dX7_order_134 : decode cX7_order 134 = .ok (.istore 4, 2) := by decide +kernel
theorem dX7_order_136 : decode cX7_order 136 = .ok (.iinc 6 1, 3) := by decide +kernel
theorem dX7_order_139 : decode cX7_order 139 = .ok (.goto (-60), 3) := by decide +kernel
theorem dX7_order_142 : decode cX7_order 142 = .ok (.iload_n 2, 1) := by decide +kernel
theorem dX7_order_143 : decode cX7_order 143 = .ok (.iconst 1, 1) := by decide +kernel
theorem dX7_order_144 : decode cX7_order 144 = .ok (.isub, 1) := by decide +kernel
theorem dX7_order_145 : decode cX7_order 145 = .ok (.istore 6, 2) := by decide +kernel
theorem dX7_order_147 : decode cX7_order 147 = .ok (.iload 6, 2) := by decide +kernel
theorem dX7_order_149 : decode cX7_order 149 = .ok (.ifCond .lt 26, 3) := by decide +kernel
theorem dX7_order_152 : decode cX7_order 152 = .ok (.aload_n 0, 1) := by decide +kernel
theorem dX7_order_153 : decode cX7_order 153 = .ok (.getfield 29, 3) := by decide +kernel
theorem dX7_order_156 : decode cX7_order 156 = .ok (.iload 6, 2) := by decide +kernel
theorem dX7_order_158 : decode cX7_order 158 = .ok (.iload 5, 2) := by decide +kernel
theorem dX7_order_160 : decode cX7_order 160 = .ok (.iload_n 2, 1) := by decide +kernel
theorem dX7_order_161 : decode cX7_order 161 = .ok (.irem, 1) := by decide +kernel
theorem dX7_order_162 : decode cX7_order 162 = .ok (.iastore, 1) := by decide +kernel
theorem dX7_order_163 : decode cX7_order 163 = .ok (.iload 5, 2) := by decide +kernel
theorem dX7_order_165 : decode cX7_order 165 = .ok (.iload_n 2, 1) := by decide +kernel
theorem dX7_order_166 : decode cX7_order 166 = .ok (.idiv, 1) := by decide +kernel
theorem dX7_order_167 : decode cX7_order 167 = .ok (.istore 5, 2) := by decide +kernel
theorem dX7_order_169 : decode cX7_order 169 = .ok (.iinc 6 (-1), 3) := by decide +kernel
theorem dX7_order_172 : decode cX7_order 172 = .ok (.goto (-25), 3) := by decide +kernel
theorem dX7_order_175 : decode cX7_order 175 = .ok (.iload_n 1, 1) := by decide +kernel
theorem dX7_order_176 : decode cX7_order 176 = .ok (.ifCond .ne 8, 3) := by decide +kernel
theorem dX7_order_179 : decode cX7_order 179 = .ok (.iload 4, 2) := by decide +kernel
theorem dX7_order_181 : decode cX7_order 181 = .ok (.goto 25, 3) := by decide +kernel
theorem dX7_order_184 : decode cX7_order 184 = .ok (.iload_n 1, 1) := by decide +kernel
theorem dX7_order_185 : decode cX7_order 185 = .ok (.bipush 10, 2) := by decide +kernel
theorem dX7_order_187 : decode cX7_order 187 = .ok (.isub, 1) := by decide +kernel
theorem dX7_order_188 : decode cX7_order 188 = .ok (.iload_n 2, 1) := by decide +kernel
theorem dX7_order_189 : decode cX7_order 189 = .ok (.if_icmp .ge 15, 3) := by decide +kernel
theorem dX7_order_192 : decode cX7_order 192 = .ok (.aload_n 0, 1) := by decide +kernel
theorem dX7_order_193 : decode cX7_order 193 = .ok (.getfield 29, 3) := by decide +kernel
theorem dX7_order_196 : decode cX7_order 196 = .ok (.iload_n 1, 1) := by decide +kernel
theorem dX7_order_197 : decode cX7_order 197 = .ok (.bipush 10, 2) := by decide +kernel
theorem dX7_order_199 : decode cX7_order 199 = .ok (.isub, 1) := by decide +kernel
theorem dX7_order_200 : decode cX7_order 200 = .ok (.iaload, 1) := by decide +kernel
theorem dX7_order_201 : decode cX7_order 201 = .ok (.goto 5, 3) := by decide +kernel
theorem dX7_order_204 : decode cX7_order 204 = .ok (.bipush (-4), 2) := by decide +kernel
theorem dX7_order_206 : decode cX7_order 206 = .ok (.ireturn, 1) := by decide +kernel
theorem dX7_loan_0 : decode cX7_loan 0 = .ok (.iload_n 1, 1) := by decide +kernel
theorem dX7_loan_1 : decode cX7_loan 1 = .ok (.i2l, 1) := by decide +kernel
theorem dX7_loan_2 : decode cX7_loan 2 = .ok (.lconst 0, 1) := by decide +kernel
theorem dX7_loan_3 : decode cX7_loan 3 = .ok (.ldc2_w 199, 3) := by decide +kernel
theorem dX7_loan_6 : decode cX7_loan 6 = .ok (.invokestatic 53, 3) := by decide +kernel
theorem dX7_loan_9 : decode cX7_loan 9 = .ok (.ifCond .eq 13, 3) := by decide +kernel
theorem dX7_loan_12 : decode cX7_loan 12 = .ok (.iload_n 2, 1) := by decide +kernel
theorem dX7_loan_13 : decode cX7_loan 13 = .ok (.i2l, 1) := by decide +kernel
theorem dX7_loan_14 : decode cX7_loan 14 = .ok (.lconst 0, 1) := by decide +kernel
theorem dX7_loan_15 : decode cX7_loan 15 = .ok (.lconst 1, 1) := by decide +kernel
theorem dX7_loan_16 : decode cX7_loan 16 = .ok (.invokestatic 53, 3) := by decide +kernel
theorem dX7_loan_19 : decode cX7_loan 19 = .ok (.ifCond .ne 5, 3) := by decide +kernel
theorem dX7_loan_22 : decode cX7_loan 22 = .ok (.iconst (-1), 1) := by decide +kernel
theorem dX7_loan_23 : decode cX7_loan 23 = .ok (.ireturn, 1) := by decide +kernel
theorem dX7_loan_24 : decode cX7_loan 24 = .ok (.aload_n 0, 1) := by decide +kernel
theorem dX7_loan_25 : decode cX7_loan 25 = .ok (.iconst 0, 1) := by decide +kernel
theorem dX7_loan_26 : decode cX7_loan 26 = .ok (.iload_n 1, 1) := by decide +kernel
theorem dX7_loan_27 : decode cX7_loan 27 = .ok (.invokevirtual 201, 3) := by decide +kernel
theorem dX7_loan_30 : decode cX7_loan 30 = .ok (.istore_n 3, 1) := by decide +kernel
theorem dX7_loan_31 : decode cX7_loan 31 = .ok (.bipush (-4), 2) := by decide +kernel
theorem dX7_loan_33 : decode cX7_loan 33 = .ok (.istore 4, 2) := by decide +kernel
theorem dX7_loan_35 : decode cX7_loan 35 = .ok (.iconst 0, 1) := by decide +kernel
theorem dX7_loan_36 : decode cX7_loan 36 = .ok (.istore 5, 2) := by decide +kernel
theorem dX7_loan_38 : decode cX7_loan 38 = .ok (.iload 5, 2) := by decide +kernel
theorem dX7_loan_40 : decode cX7_loan 40 = .ok (.aload_n 0, 1) := by decide +kernel
theorem dX7_loan_41 : decode cX7_loan 41 = .ok (.getfield 125, 3) := by decide +kernel
theorem dX7_loan_44 : decode cX7_loan 44 = .ok (.if_icmp .ge 101, 3) := by decide +kernel
theorem dX7_loan_47 : decode cX7_loan 47 = .ok (.iconst 0, 1) := by decide +kernel
theorem dX7_loan_48 : decode cX7_loan 48 = .ok (.istore 6, 2) := by decide +kernel
theorem dX7_loan_50 : decode cX7_loan 50 = .ok (.iload 6, 2) := by decide +kernel
theorem dX7_loan_52 : decode cX7_loan 52 = .ok (.aload_n 0, 1) := by decide +kernel
theorem dX7_loan_53 : decode cX7_loan 53 = .ok (.getfield 125, 3) := by decide +kernel
theorem dX7_loan_56 : decode cX7_loan 56 = .ok (.if_icmp .ge 83, 3) := by decide +kernel
theorem dX7_loan_59 : decode cX7_loan 59 = .ok (.aload_n 0, 1) := by decide +kernel
theorem dX7_loan_60 : decode cX7_loan 60 = .ok (.iconst 0, 1) := by decide +kernel
theorem dX7_loan_61 : decode cX7_loan 61 = .ok (.sipush 210, 3) := by decide +kernel
theorem dX7_loan_64 : decode cX7_loan 64 = .ok (.invokevirtual 195, 3) := by decide +kernel
theorem dX7_loan_67 : decode cX7_loan 67 = .ok (.iload 5, 2) := by decide +kernel
theorem dX7_loan_69 : decode cX7_loan 69 = .ok (.iload 6, 2) := by decide +kernel
theorem dX7_loan_71 : decode cX7_loan 71 = .ok (.if_icmp .eq 62, 3) := by decide +kernel
theorem dX7_loan_74 : decode cX7_loan 74 = .ok (.aload_n 0, 1) := by decide +kernel
theorem dX7_loan_75 : decode cX7_loan 75 = .ok (.sipush 210, 3) := by decide +kernel
theorem dX7_loan_78 : decode cX7_loan 78 = .ok (.iload 5, 2) := by decide +kernel
theorem dX7_loan_80 : decode cX7_loan 80 = .ok (.iload 6, 2) := by decide +kernel
theorem dX7_loan_82 : decode cX7_loan 82 = .ok (.iconst 1, 1) := by decide +kernel
theorem dX7_loan_83 : decode cX7_loan 83 = .ok (.invokevirtual 182, 3) := by decide +kernel
theorem dX7_loan_86 : decode cX7_loan 86 = .ok (.ifCond .lt 47, 3) := by decide +kernel
theorem dX7_loan_89 : decode cX7_loan 89 = .ok (.aload_n 0, 1) := by decide +kernel
theorem dX7_loan_90 : decode cX7_loan 90 = .ok (.sipush 210, 3) := by decide +kernel
theorem dX7_loan_93 : decode cX7_loan 93 = .ok (.iload_n 1, 1) := by decide +kernel
theorem dX7_loan_94 : decode cX7_loan 94 = .ok (.invokevirtual 201, 3) := by decide +kernel
theorem dX7_loan_97 : decode cX7_loan 97 = .ok (.istore 7, 2) := by decide +kernel
theorem dX7_loan_99 : decode cX7_loan 99 = .ok (.iload 7, 2) := by decide +kernel
theorem dX7_loan_101 : decode cX7_loan 101 = .ok (.iload_n 3, 1) := by decide +kernel
theorem dX7_loan_102 : decode cX7_loan 102 = .ok (.if_icmp .ge 14, 3) := by decide +kernel
theorem dX7_loan_105 : decode cX7_loan 105 = .ok (.bipush 10, 2) := by decide +kernel
theorem dX7_loan_107 : decode cX7_loan 107 = .ok (.iload 5, 2) := by decide +kernel
theorem dX7_loan_109 : decode cX7_loan 109 = .ok (.imul, 1) := by decide +kernel
theorem dX7_loan_110 : decode cX7_loan 110 = .ok (.iload 6, 2) := by decide +kernel
theorem dX7_loan_112 : decode cX7_loan 112 = .ok (.iadd, 1) := by decide +kernel
theorem dX7_loan_113 : decode cX7_loan 113 = .ok (.goto 5, 3) := by decide +kernel
theorem dX7_loan_116 : decode cX7_loan 116 = .ok (.iload 4, 2) := by decide +kernel
theorem dX7_loan_118 : decode cX7_loan 118 = .ok (.istore 4, 2) := by decide +kernel
theorem dX7_loan_120 : decode cX7_loan 120 = .ok (.iload 7, 2) := by decide +kernel
theorem dX7_loan_122 : decode cX7_loan 122 = .ok (.iload_n 3, 1) := by decide +kernel
theorem dX7_loan_123 : decode cX7_loan 123 = .ok (.if_icmp .ge 8, 3) := by decide +kernel
theorem dX7_loan_126 : decode cX7_loan 126 = .ok (.iload 7, 2) := by decide +kernel
theorem dX7_loan_128 : decode cX7_loan 128 = .ok (.goto 4, 3) := by decide +kernel
theorem dX7_loan_131 : decode cX7_loan 131 = .ok (.iload_n 3, 1) := by decide +kernel
theorem dX7_loan_132 : decode cX7_loan 132 = .ok (.istore_n 3, 1) := by decide +kernel
theorem dX7_loan_133 : decode cX7_loan 133 = .ok (.iinc 6 1, 3) := by decide +kernel
theorem dX7_loan_136 : decode cX7_loan 136 = .ok (.goto (-86), 3) := by decide +kernel
theorem dX7_loan_139 : decode cX7_loan 139 = .ok (.iinc 5 1, 3) := by decide +kernel
theorem dX7_loan_142 : decode cX7_loan 142 = .ok (.goto (-104), 3) := by decide +kernel
theorem dX7_loan_145 : decode cX7_loan 145 = .ok (.iload 4, 2) := by decide +kernel
theorem dX7_loan_147 : decode cX7_loan 147 = .ok (.bipush (-4), 2) := by decide +kernel
theorem dX7_loan_149 : decode cX7_loan 149 = .ok (.if_icmp .eq 7, 3) := by decide +kernel
theorem dX7_loan_152 : decode cX7_loan 152 = .ok (.iload_n 2, 1) := by decide +kernel
theorem dX7_loan_153 : decode cX7_loan 153 = .ok (.ifCond .ne 8, 3) := by decide +kernel
theorem dX7_loan_156 : decode cX7_loan 156 = .ok (.iload 4, 2) := by decide +kernel
theorem dX7_loan_158 : decode cX7_loan 158 = .ok (.goto 4, 3) := by decide +kernel
theorem dX7_loan_161 : decode cX7_loan 161 = .ok (.iload_n 3, 1) := by decide +kernel
theorem dX7_loan_162 : decode cX7_loan 162 = .ok (.ireturn, 1) := by decide +kernel
theorem dX7_swap_0 : decode cX7_swap 0 = .ok (.iload_n 1, 1) := by decide +kernel
theorem dX7_swap_1 : decode cX7_swap 1 = .ok (.i2l, 1) := by decide +kernel
theorem dX7_swap_2 : decode cX7_swap 2 = .ok (.lconst 0, 1) := by decide +kernel
theorem dX7_swap_3 : decode cX7_swap 3 = .ok (.ldc2_w 199, 3) := by decide +kernel
theorem dX7_swap_6 : decode cX7_swap 6 = .ok (.invokestatic 53, 3) := by decide +kernel
theorem dX7_swap_9 : decode cX7_swap 9 = .ok (.ifCond .eq 13, 3) := by decide +kernel
theorem dX7_swap_12 : decode cX7_swap 12 = .ok (.iload_n 2, 1) := by decide +kernel
theorem dX7_swap_13 : decode cX7_swap 13 = .ok (.i2l, 1) := by decide +kernel
theorem dX7_swap_14 : decode cX7_swap 14 = .ok (.lconst 0, 1) := by decide +kernel
theorem dX7_swap_15 : decode cX7_swap 15 = .ok (.lconst 1, 1) := by decide +kernel
theorem dX7_swap_16 : decode cX7_swap 16 = .ok (.invokestatic 53, 3) := by decide +kernel
theorem dX7_swap_19 : decode cX7_swap 19 = .ok (.ifCond .ne 5, 3) := by decide +kernel
theorem dX7_swap_22 : decode cX7_swap 22 = .ok (.iconst (-1), 1) := by decide +kernel
theorem dX7_swap_23 : decode cX7_swap 23 = .ok (.ireturn, 1) := by decide +kernel
theorem dX7_swap_24 : decode cX7_swap 24 = .ok (.aload_n 0, 1) := by decide +kernel
theorem dX7_swap_25 : decode cX7_swap 25 = .ok (.iconst 0, 1) := by decide +kernel
theorem dX7_swap_26 : decode cX7_swap 26 = .ok (.iload_n 1, 1) := by decide +kernel
theorem dX7_swap_27 : decode cX7_swap 27 = .ok (.invokevirtual 201, 3) := by decide +kernel
theorem dX7_swap_30 : decode cX7_swap 30 = .ok (.istore_n 3, 1) := by decide +kernel
theorem dX7_swap_31 : decode cX7_swap 31 = .ok (.bipush (-4), 2) := by decide +kernel
theorem dX7_swap_33 : decode cX7_swap 33 = .ok (.istore 4, 2) := by decide +kernel
theorem dX7_swap_35 : decode cX7_swap 35 = .ok (.iconst 0, 1) := by decide +kernel
theorem dX7_swap_36 : decode cX7_swap 36 = .ok (.istore 5, 2) := by decide +kernel
theorem dX7_swap_38 : decode cX7_swap 38 = .ok (.iload 5, 2) := by decide +kernel
theorem dX7_swap_40 : decode cX7_swap 40 = .ok (.aload_n 0, 1) := by decide +kernel
theorem dX7_swap_41 : decode cX7_swap 41 = .ok (.getfield 7, 3) := by decide +kernel
theorem dX7_swap_44 : decode cX7_swap 44 = .ok (.bipush 40, 2) := by decide +kernel
theorem dX7_swap_46 : decode cX7_swap 46 = .ok (.iaload, 1) := by decide +kernel
theorem dX7_swap_47 : decode cX7_swap 47 = .ok (.if_icmp .ge 169, 3) := by decide +kernel
theorem dX7_swap_50 : decode cX7_swap 50 = .ok (.iload 5, 2) := by decide +kernel
theorem dX7_swap_52 : decode cX7_swap 52 = .ok (.iconst 1, 1) := by decide +kernel
theorem dX7_swap_53 : decode cX7_swap 53 = .ok (.iadd, 1) := by decide +kernel
theorem dX7_swap_54 : decode cX7_swap 54 = .ok (.istore 6, 2) := by decide +kernel
theorem dX7_swap_56 : decode cX7_swap 56 = .ok (.iload 6, 2) := by decide +kernel
theorem dX7_swap_58 : decode cX7_swap 58 = .ok (.aload_n 0, 1) := by decide +kernel
theorem dX7_swap_59 : decode cX7_swap 59 = .ok (.getfield 7, 3) := by decide +kernel
theorem dX7_swap_62 : decode cX7_swap 62 = .ok (.bipush 40, 2) := by decide +kernel
theorem dX7_swap_64 : decode cX7_swap 64 = .ok (.iaload, 1) := by decide +kernel
theorem dX7_swap_65 : decode cX7_swap 65 = .ok (.if_icmp .ge 145, 3) := by decide +kernel
theorem dX7_swap_68 : decode cX7_swap 68 = .ok (.aload_n 0, 1) := by decide +kernel
theorem dX7_swap_69 : decode cX7_swap 69 = .ok (.iconst 0, 1) := by decide +kernel
theorem dX7_swap_70 : decode cX7_swap 70 = .ok (.sipush 210, 3) := by decide +kernel
theorem dX7_swap_73 : decode cX7_swap 73 = .ok (.invokevirtual 195, 3) := by decide +kernel
theorem dX7_swap_76 : decode cX7_swap 76 = .ok (.aload_n 0, 1) := by decide +kernel
theorem dX7_swap_77 : decode cX7_swap 77 = .ok (.getfield 7, 3) := by decide +kernel
theorem dX7_swap_80 : decode cX7_swap 80 = .ok (.sipush 230, 3) := by decide +kernel
theorem dX7_swap_83 : decode cX7_swap 83 = .ok (.iload 5, 2) := by decide +kernel
theorem dX7_swap_85 : decode cX7_swap 85 = .ok (.iadd, 1) := by decide +kernel
theorem dX7_swap_86 : decode cX7_swap 86 = .ok (.aload_n 0, 1) := by decide +kernel
theorem dX7_swap_87 : decode cX7_swap 87 = .ok (.getfield 7, 3) := by decide +kernel
theorem dX7_swap_90 : decode cX7_swap 90 = .ok (.bipush 20, 2) := by decide +kernel
theorem dX7_swap_92 : decode cX7_swap 92 = .ok (.iload 6, 2) := by decide +kernel
theorem dX7_swap_94 : decode cX7_swap 94 = .ok (.iadd, 1) := by decide +kernel
theorem dX7_swap_95 : decode cX7_swap 95 = .ok (.iaload, 1) := by decide +kernel
theorem dX7_swap_96 : decode cX7_swap 96 = .ok (.iastore, 1) := by decide +kernel
theorem dX7_swap_97 : decode cX7_swap 97 = .ok (.aload_n 0, 1) := by decide +kernel
theorem dX7_swap_98 : decode cX7_swap 98 = .ok (.getfield 7, 3) := by decide +kernel
theorem dX7_swap_101 : decode cX7_swap 101 = .ok (.sipush 240, 3) := by decide +kernel
theorem dX7_swap_104 : decode cX7_swap 104 = .ok (.iload 5, 2) := by decide +kernel
theorem dX7_swap_106 : decode cX7_swap 106 = .ok (.iadd, 1) := by decide +kernel
theorem dX7_swap_107 : decode cX7_swap 107 = .ok (.aload_n 0, 1) := by decide +kernel
theorem dX7_swap_108 : decode cX7_swap 108 = .ok (.getfield 7, 3) := by decide +kernel
theorem dX7_swap_111 : decode cX7_swap 111 = .ok (.bipush 30, 2) := by decide +kernel
theorem dX7_swap_113 : decode cX7_swap 113 = .ok (.iload 6, 2) := by decide +kernel
theorem dX7_swap_115 : decode cX7_swap 115 = .ok (.iadd, 1) := by decide +kernel
theorem dX7_swap_116 : decode cX7_swap 116 = .ok (.iaload, 1) := by decide +kernel
theorem dX7_swap_117 : decode cX7_swap 117 = .ok (.iastore, 1) := by decide +kernel
theorem dX7_swap_118 : decode cX7_swap 118 = .ok (.aload_n 0, 1) := by decide +kernel
theorem dX7_swap_119 : decode cX7_swap 119 = .ok (.getfield 7, 3) := by decide +kernel
theorem dX7_swap_122 : decode cX7_swap 122 = .ok (.sipush 230, 3) := by decide +kernel
theorem dX7_swap_125 : decode cX7_swap 125 = .ok (.iload 6, 2) := by decide +kernel
theorem dX7_swap_127 : decode cX7_swap 127 = .ok (.iadd, 1) := by decide +kernel
theorem dX7_swap_128 : decode cX7_swap 128 = .ok (.aload_n 0, 1) := by decide +kernel
theorem dX7_swap_129 : decode cX7_swap 129 = .ok (.getfield 7, 3) := by decide +kernel
theorem dX7_swap_132 : decode cX7_swap 132 = .ok (.bipush 20, 2) := by decide +kernel
theorem dX7_swap_134 : decode cX7_swap 134 = .ok (.iload 5, 2) := by decide +kernel
theorem dX7_swap_136 : decode cX7_swap 136 = .ok (.iadd, 1) := by decide +kernel
theorem dX7_swap_137 : decode cX7_swap 137 = .ok (.iaload, 1) := by decide +kernel
theorem dX7_swap_138 : decode cX7_swap 138 = .ok (.iastore, 1) := by decide +kernel
theorem dX7_swap_139 : decode cX7_swap 139 = .ok (.aload_n 0, 1) := by decide +kernel
theorem dX7_swap_140 : decode cX7_swap 140 = .ok (.getfield 7, 3) := by decide +kernel
theorem dX7_swap_143 : decode cX7_swap 143 = .ok (.sipush 240, 3) := by decide +kernel
theorem dX7_swap_146 : decode cX7_swap 146 = .ok (.iload 6, 2) := by decide +kernel
theorem dX7_swap_148 : decode cX7_swap 148 = .ok (.iadd, 1) := by decide +kernel
theorem dX7_swap_149 : decode cX7_swap 149 = .ok (.aload_n 0, 1) := by decide +kernel
theorem dX7_swap_150 : decode cX7_swap 150 = .ok (.getfield 7, 3) := by decide +kernel
theorem dX7_swap_153 : decode cX7_swap 153 = .ok (.bipush 30, 2) := by decide +kernel
theorem dX7_swap_155 : decode cX7_swap 155 = .ok (.iload 5, 2) := by decide +kernel
theorem dX7_swap_157 : decode cX7_swap 157 = .ok (.iadd, 1) := by decide +kernel
theorem dX7_swap_158 : decode cX7_swap 158 = .ok (.iaload, 1) := by decide +kernel
theorem dX7_swap_159 : decode cX7_swap 159 = .ok (.iastore, 1) := by decide +kernel
theorem dX7_swap_160 : decode cX7_swap 160 = .ok (.aload_n 0, 1) := by decide +kernel
theorem dX7_swap_161 : decode cX7_swap 161 = .ok (.sipush 210, 3) := by decide +kernel
theorem dX7_swap_164 : decode cX7_swap 164 = .ok (.iload_n 1, 1) := by decide +kernel
theorem dX7_swap_165 : decode cX7_swap 165 = .ok (.invokevirtual 201, 3) := by decide +kernel
theorem dX7_swap_168 : decode cX7_swap 168 = .ok (.istore 7, 2) := by decide +kernel
theorem dX7_swap_170 : decode cX7_swap 170 = .ok (.iload 7, 2) := by decide +kernel
theorem dX7_swap_172 : decode cX7_swap 172 = .ok (.iload_n 3, 1) := by decide +kernel
theorem dX7_swap_173 : decode cX7_swap 173 = .ok (.if_icmp .ge 14, 3) := by decide +kernel
theorem dX7_swap_176 : decode cX7_swap 176 = .ok (.bipush 10, 2) := by decide +kernel
theorem dX7_swap_178 : decode cX7_swap 178 = .ok (.iload 5, 2) := by decide +kernel
theorem dX7_swap_180 : decode cX7_swap 180 = .ok (.imul, 1) := by decide +kernel
theorem dX7_swap_181 : decode cX7_swap 181 = .ok (.iload 6, 2) := by decide +kernel
theorem dX7_swap_183 : decode cX7_swap 183 = .ok (.iadd, 1) := by decide +kernel
theorem dX7_swap_184 : decode cX7_swap 184 = .ok (.goto 5, 3) := by decide +kernel
theorem dX7_swap_187 : decode cX7_swap 187 = .ok (.iload 4, 2) := by decide +kernel
theorem dX7_swap_189 : decode cX7_swap 189 = .ok (.istore 4, 2) := by decide +kernel
theorem dX7_swap_191 : decode cX7_swap 191 = .ok (.iload 7, 2) := by decide +kernel
theorem dX7_swap_193 : decode cX7_swap 193 = .ok (.iload_n 3, 1) := by decide +kernel
theorem dX7_swap_194 : decode cX7_swap 194 = .ok (.if_icmp .ge 8, 3) := by decide +kernel
theorem dX7_swap_197 : decode cX7_swap 197 = .ok (.iload 7, 2) := by decide +kernel
theorem dX7_swap_199 : decode cX7_swap 199 = .ok (.goto 4, 3) := by decide +kernel
theorem dX7_swap_202 : decode cX7_swap 202 = .ok (.iload_n 3, 1) := by decide +kernel
theorem dX7_swap_203 : decode cX7_swap 203 = .ok (.istore_n 3, 1) := by decide +kernel
theorem dX7_swap_204 : decode cX7_swap 204 = .ok (.iinc 6 1, 3) := by decide +kernel
theorem dX7_swap_207 : decode cX7_swap 207 = .ok (.goto (-151), 3) := by decide +kernel
theorem dX7_swap_210 : decode cX7_swap 210 = .ok (.iinc 5 1, 3) := by decide +kernel
theorem dX7_swap_213 : decode cX7_swap 213 = .ok (.goto (-175), 3) := by decide +kernel
theorem dX7_swap_216 : decode cX7_swap 216 = .ok (.iload 4, 2) := by decide +kernel
theorem dX7_swap_218 : decode cX7_swap 218 = .ok (.bipush (-4), 2) := by decide +kernel
theorem dX7_swap_220 : decode cX7_swap 220 = .ok (.if_icmp .eq 7, 3) := by decide +kernel
theorem dX7_swap_223 : decode cX7_swap 223 = .ok (.iload_n 2, 1) := by decide +kernel
theorem dX7_swap_224 : decode cX7_swap 224 = .ok (.ifCond .ne 8, 3) := by decide +kernel
theorem dX7_swap_227 : decode cX7_swap 227 = .ok (.iload 4, 2) := by decide +kernel
theorem dX7_swap_229 : decode cX7_swap 229 = .ok (.goto 4, 3) := by decide +kernel
theorem dX7_swap_232 : decode cX7_swap 232 = .ok (.iload_n 3, 1) := by decide +kernel
theorem dX7_swap_233 : decode cX7_swap 233 = .ok (.ireturn, 1) := by decide +kernel
theorem dX7_skip_0 : decode cX7_skip 0 = .ok (.iload_n 1, 1) := by decide +kernel
theorem dX7_skip_1 : decode cX7_skip 1 = .ok (.i2l, 1) := by decide +kernel
theorem dX7_skip_2 : decode cX7_skip 2 = .ok (.lconst 0, 1) := by decide +kernel
theorem dX7_skip_3 : decode cX7_skip 3 = .ok (.ldc2_w 199, 3) := by decide +kernel
theorem dX7_skip_6 : decode cX7_skip 6 = .ok (.invokestatic 53, 3) := by decide +kernel
theorem dX7_skip_9 : decode cX7_skip 9 = .ok (.ifCond .eq 13, 3) := by decide +kernel
theorem dX7_skip_12 : decode cX7_skip 12 = .ok (.iload_n 2, 1) := by decide +kernel
theorem dX7_skip_13 : decode cX7_skip 13 = .ok (.i2l, 1) := by decide +kernel
theorem dX7_skip_14 : decode cX7_skip 14 = .ok (.lconst 0, 1) := by decide +kernel
theorem dX7_skip_15 : decode cX7_skip 15 = .ok (.lconst 1, 1) := by decide +kernel
theorem dX7_skip_16 : decode cX7_skip 16 = .ok (.invokestatic 53, 3) := by decide +kernel
theorem dX7_skip_19 : decode cX7_skip 19 = .ok (.ifCond .ne 5, 3) := by decide +kernel
theorem dX7_skip_22 : decode cX7_skip 22 = .ok (.iconst (-1), 1) := by decide +kernel
theorem dX7_skip_23 : decode cX7_skip 23 = .ok (.ireturn, 1) := by decide +kernel
theorem dX7_skip_24 : decode cX7_skip 24 = .ok (.aload_n 0, 1) := by decide +kernel
theorem dX7_skip_25 : decode cX7_skip 25 = .ok (.iconst 0, 1) := by decide +kernel
theorem dX7_skip_26 : decode cX7_skip 26 = .ok (.iload_n 1, 1) := by decide +kernel
theorem dX7_skip_27 : decode cX7_skip 27 = .ok (.invokevirtual 201, 3) := by decide +kernel
theorem dX7_skip_30 : decode cX7_skip 30 = .ok (.istore_n 3, 1) := by decide +kernel
theorem dX7_skip_31 : decode cX7_skip 31 = .ok (.bipush (-4), 2) := by decide +kernel
theorem dX7_skip_33 : decode cX7_skip 33 = .ok (.istore 4, 2) := by decide +kernel
theorem dX7_skip_35 : decode cX7_skip 35 = .ok (.iconst 0, 1) := by decide +kernel
theorem dX7_skip_36 : decode cX7_skip 36 = .ok (.istore 5, 2) := by decide +kernel
theorem dX7_skip_38 : decode cX7_skip 38 = .ok (.iload 5, 2) := by decide +kernel
theorem dX7_skip_40 : decode cX7_skip 40 = .ok (.aload_n 0, 1) := by decide +kernel
theorem dX7_skip_41 : decode cX7_skip 41 = .ok (.getfield 7, 3) := by decide +kernel
theorem dX7_skip_44 : decode cX7_skip 44 = .ok (.bipush 40, 2) := by decide +kernel
theorem dX7_skip_46 : decode cX7_skip 46 = .ok (.iaload, 1) := by decide +kernel
theorem dX7_skip_47 : decode cX7_skip 47 = .ok (.if_icmp .ge 57, 3) := by decide +kernel
theorem dX7_skip_50 : decode cX7_skip 50 = .ok (.aload_n 0, 1) := by decide +kernel
theorem dX7_skip_51 : decode cX7_skip 51 = .ok (.iload 5, 2) := by decide +kernel
theorem dX7_skip_53 : decode cX7_skip 53 = .ok (.putfield 25, 3) := by decide +kernel
theorem dX7_skip_56 : decode cX7_skip 56 = .ok (.aload_n 0, 1) := by decide +kernel
theorem dX7_skip_57 : decode cX7_skip 57 = .ok (.iconst 0, 1) := by decide +kernel
theorem dX7_skip_58 : decode cX7_skip 58 = .ok (.iload_n 1, 1) := by decide +kernel
theorem dX7_skip_59 : decode cX7_skip 59 = .ok (.invokevirtual 201, 3) := by decide +kernel
theorem dX7_skip_62 : decode cX7_skip 62 = .ok (.istore 6, 2) := by decide +kernel
theorem dX7_skip_64 : decode cX7_skip 64 = .ok (.aload_n 0, 1) := by decide +kernel
theorem dX7_skip_65 : decode cX7_skip 65 = .ok (.bipush (-4), 2) := by decide +kernel
theorem dX7_skip_67 : decode cX7_skip 67 = .ok (.putfield 25, 3) := by decide +kernel
theorem dX7_skip_70 : decode cX7_skip 70 = .ok (.iload 6, 2) := by decide +kernel
theorem dX7_skip_72 : decode cX7_skip 72 = .ok (.iload_n 3, 1) := by decide +kernel
theorem dX7_skip_73 : decode cX7_skip 73 = .ok (.if_icmp .ge 8, 3) := by decide +kernel
theorem dX7_skip_76 : decode cX7_skip 76 = .ok (.iload 5, 2) := by decide +kernel
theorem dX7_skip_78 : decode cX7_skip 78 = .ok (.goto 5, 3) := by decide +kernel
theorem dX7_skip_81 : decode cX7_skip 81 = .ok (.iload 4, 2) := by decide +kernel
theorem dX7_skip_83 : decode cX7_skip 83 = .ok (.istore 4, 2) := by decide +kernel
theorem dX7_skip_85 : decode cX7_skip 85 = .ok (.iload 6, 2) := by decide +kernel
theorem dX7_skip_87 : decode cX7_skip 87 = .ok (.iload_n 3, 1) := by decide +kernel
theorem dX7_skip_88 : decode cX7_skip 88 = .ok (.if_icmp .ge 8, 3) := by decide +kernel
theorem dX7_skip_91 : decode cX7_skip 91 = .ok (.iload 6, 2) := by decide +kernel
theorem dX7_skip_93 : decode cX7_skip 93 = .ok (.goto 4, 3) := by decide +kernel
theorem dX7_skip_96 : decode cX7_skip 96 = .ok (.iload_n 3, 1) := by decide +kernel
theorem dX7_skip_97 : decode cX7_skip 97 = .ok (.istore_n 3, 1) := by decide +kernel
theorem dX7_skip_98 : decode cX7_skip 98 = .ok (.iinc 5 1, 3) := by decide +kernel
theorem dX7_skip_101 : decode cX7_skip 101 = .ok (.goto (-63), 3) := by decide +kernel
theorem dX7_skip_104 : decode cX7_skip 104 = .ok (.iload 4, 2) := by decide +kernel
theorem dX7_skip_106 : decode cX7_skip 106 = .ok (.bipush (-4), 2) := by decide +kernel
theorem dX7_skip_108 : decode cX7_skip 108 = .ok (.if_icmp .eq 7, 3) := by decide +kernel
theorem dX7_skip_111 : decode cX7_skip 111 = .ok (.iload_n 2, 1) := by decide +kernel
theorem dX7_skip_112 : decode cX7_skip 112 = .ok (.ifCond .ne 8, 3) := by decide +kernel
theorem dX7_skip_115 : decode cX7_skip 115 = .ok (.iload 4, 2) := by decide +kernel
theorem dX7_skip_117 : decode cX7_skip 117 = .ok (.goto 4, 3) := by decide +kernel
theorem dX7_skip_120 : decode cX7_skip 120 = .ok (.iload_n 3, 1) := by decide +kernel
theorem dX7_skip_121 : decode cX7_skip 121 = .ok (.ireturn, 1) := by decide +kernel
theorem dX7_most_0 : decode cX7_most 0 = .ok (.aload_n 0, 1) := by decide +kernel
theorem dX7_most_1 : decode cX7_most 1 = .ok (.iload_n 1, 1) := by decide +kernel
theorem dX7_most_2 : decode cX7_most 2 = .ok (.invokevirtual 131, 3) := by decide +kernel
theorem dX7_most_5 : decode cX7_most 5 = .ok (.ifCond .eq 15, 3) := by decide +kernel
theorem dX7_most_8 : decode cX7_most 8 = .ok (.iload_n 2, 1) := by decide +kernel
theorem dX7_most_9 : decode cX7_most 9 = .ok (.i2l, 1) := by decide +kernel
theorem dX7_most_10 : decode cX7_most 10 = .ok (.lconst 0, 1) := by decide +kernel
theorem dX7_most_11 : decode cX7_most 11 = .ok (.ldc2_w 199, 3) := by decide +kernel
theorem dX7_most_14 : decode cX7_most 14 = .ok (.invokestatic 53, 3) := by decide +kernel
theorem dX7_most_17 : decode cX7_most 17 = .ok (.ifCond .ne 5, 3) := by decide +kernel
theorem dX7_most_20 : decode cX7_most 20 = .ok (.iconst (-1), 1) := by decide +kernel
theorem dX7_most_21 : decode cX7_most 21 = .ok (.ireturn, 1) := by decide +kernel
theorem dX7_most_22 : decode cX7_most 22 = .ok (.aload_n 0, 1) := by decide +kernel
theorem dX7_most_23 : decode cX7_most 23 = .ok (.iconst 0, 1) := by decide +kernel
theorem dX7_most_24 : decode cX7_most 24 = .ok (.sipush 210, 3) := by decide +kernel
theorem dX7_most_27 : decode cX7_most 27 = .ok (.invokevirtual 195, 3) := by decide +kernel
theorem dX7_most_30 : decode cX7_most 30 = .ok (.bipush 20, 2) := by decide +kernel
theorem dX7_most_32 : decode cX7_most 32 = .ok (.istore_n 3, 1) := by decide +kernel
theorem dX7_most_33 : decode cX7_most 33 = .ok (.iload_n 3, 1) := by decide +kernel
theorem dX7_most_34 : decode cX7_most 34 = .ok (.ifCond .lt 36, 3) := by decide +kernel
theorem dX7_most_37 : decode cX7_most 37 = .ok (.aload_n 0, 1) := by decide +kernel
theorem dX7_most_38 : decode cX7_most 38 = .ok (.getfield 7, 3) := by decide +kernel
theorem dX7_most_41 : decode cX7_most 41 = .ok (.sipush 215, 3) := by decide +kernel
theorem dX7_most_44 : decode cX7_most 44 = .ok (.iload_n 1, 1) := by decide +kernel
theorem dX7_most_45 : decode cX7_most 45 = .ok (.iadd, 1) := by decide +kernel
theorem dX7_most_46 : decode cX7_most 46 = .ok (.iload_n 3, 1) := by decide +kernel
theorem dX7_most_47 : decode cX7_most 47 = .ok (.iastore, 1) := by decide +kernel
theorem dX7_most_48 : decode cX7_most 48 = .ok (.aload_n 0, 1) := by decide +kernel
theorem dX7_most_49 : decode cX7_most 49 = .ok (.sipush 210, 3) := by decide +kernel
theorem dX7_most_52 : decode cX7_most 52 = .ok (.iload_n 1, 1) := by decide +kernel
theorem dX7_most_53 : decode cX7_most 53 = .ok (.iload_n 2, 1) := by decide +kernel
theorem dX7_most_54 : decode cX7_most 54 = .ok (.invokevirtual 206, 3) := by decide +kernel
theorem dX7_most_57 : decode cX7_most 57 = .ok (.bipush (-4), 2) := by decide +kernel
theorem dX7_most_59 : decode cX7_most 59 = .ok (.if_icmp .eq 5, 3) := by decide +kernel
theorem dX7_most_62 : decode cX7_most 62 = .ok (.iload_n 3, 1) := by decide +kernel
theorem dX7_most_63 : decode cX7_most 63 = .ok (.ireturn, 1) := by decide +kernel
theorem dX7_most_64 : decode cX7_most 64 = .ok (.iinc 3 (-1), 3) := by decide +kernel
theorem dX7_most_67 : decode cX7_most 67 = .ok (.goto (-34), 3) := by decide +kernel
theorem dX7_most_70 : decode cX7_most 70 = .ok (.bipush (-4), 2) := by decide +kernel
theorem dX7_most_72 : decode cX7_most 72 = .ok (.ireturn, 1) := by decide +kernel
theorem dX7_kind_0 : decode cX7_kind 0 = .ok (.aload_n 0, 1) := by decide +kernel
theorem dX7_kind_1 : decode cX7_kind 1 = .ok (.iload_n 1, 1) := by decide +kernel
theorem dX7_kind_2 : decode cX7_kind 2 = .ok (.invokevirtual 131, 3) := by decide +kernel
theorem dX7_kind_5 : decode cX7_kind 5 = .ok (.ifCond .eq 25, 3) := by decide +kernel
theorem dX7_kind_8 : decode cX7_kind 8 = .ok (.iload_n 2, 1) := by decide +kernel
theorem dX7_kind_9 : decode cX7_kind 9 = .ok (.i2l, 1) := by decide +kernel
theorem dX7_kind_10 : decode cX7_kind 10 = .ok (.lconst 0, 1) := by decide +kernel
theorem dX7_kind_11 : decode cX7_kind 11 = .ok (.ldc2_w 199, 3) := by decide +kernel
theorem dX7_kind_14 : decode cX7_kind 14 = .ok (.invokestatic 53, 3) := by decide +kernel
theorem dX7_kind_17 : decode cX7_kind 17 = .ok (.ifCond .eq 13, 3) := by decide +kernel
theorem dX7_kind_20 : decode cX7_kind 20 = .ok (.iload_n 3, 1) := by decide +kernel
theorem dX7_kind_21 : decode cX7_kind 21 = .ok (.i2l, 1) := by decide +kernel
theorem dX7_kind_22 : decode cX7_kind 22 = .ok (.lconst 0, 1) := by decide +kernel
theorem dX7_kind_23 : decode cX7_kind 23 = .ok (.lconst 1, 1) := by decide +kernel
theorem dX7_kind_24 : decode cX7_kind 24 = .ok (.invokestatic 53, 3) := by decide +kernel
theorem dX7_kind_27 : decode cX7_kind 27 = .ok (.ifCond .ne 5, 3) := by decide +kernel
theorem dX7_kind_30 : decode cX7_kind 30 = .ok (.iconst (-1), 1) := by decide +kernel
theorem dX7_kind_31 : decode cX7_kind 31 = .ok (.ireturn, 1) := by decide +kernel
theorem dX7_kind_32 : decode cX7_kind 32 = .ok (.ldc 213, 2) := by decide +kernel
theorem dX7_kind_34 : decode cX7_kind 34 = .ok (.istore 4, 2) := by decide +kernel
theorem dX7_kind_36 : decode cX7_kind 36 = .ok (.iconst 0, 1) := by decide +kernel
theorem dX7_kind_37 : decode cX7_kind 37 = .ok (.istore 5, 2) := by decide +kernel
theorem dX7_kind_39 : decode cX7_kind 39 = .ok (.aload_n 0, 1) := by decide +kernel
theorem dX7_kind_40 : decode cX7_kind 40 = .ok (.iconst 0, 1) := by decide +kernel
theorem dX7_kind_41 : decode cX7_kind 41 = .ok (.sipush 210, 3) := by decide +kernel
theorem dX7_kind_44 : decode cX7_kind 44 = .ok (.invokevirtual 195, 3) := by decide +kernel
theorem dX7_kind_47 : decode cX7_kind 47 = .ok (.iconst 0, 1) := by decide +kernel
theorem dX7_kind_48 : decode cX7_kind 48 = .ok (.istore 6, 2) := by decide +kernel
theorem dX7_kind_50 : decode cX7_kind 50 = .ok (.iload 6, 2) := by decide +kernel
theorem dX7_kind_52 : decode cX7_kind 52 = .ok (.iconst 4, 1) := by decide +kernel
theorem dX7_kind_53 : decode cX7_kind 53 = .ok (.if_icmp .ge 63, 3) := by decide +kernel
theorem dX7_kind_56 : decode cX7_kind 56 = .ok (.aload_n 0, 1) := by decide +kernel
theorem dX7_kind_57 : decode cX7_kind 57 = .ok (.getfield 7, 3) := by decide +kernel
theorem dX7_kind_60 : decode cX7_kind 60 = .ok (.sipush 210, 3) := by decide +kernel
theorem dX7_kind_63 : decode cX7_kind 63 = .ok (.iload_n 1, 1) := by decide +kernel
theorem dX7_kind_64 : decode cX7_kind 64 = .ok (.iadd, 1) := by decide +kernel
theorem dX7_kind_65 : decode cX7_kind 65 = .ok (.iload 6, 2) := by decide +kernel
theorem dX7_kind_67 : decode cX7_kind 67 = .ok (.iastore, 1) := by decide +kernel
theorem dX7_kind_68 : decode cX7_kind 68 = .ok (.aload_n 0, 1) := by decide +kernel
theorem dX7_kind_69 : decode cX7_kind 69 = .ok (.sipush 210, 3) := by decide +kernel
theorem dX7_kind_72 : decode cX7_kind 72 = .ok (.iload_n 2, 1) := by decide +kernel
theorem dX7_kind_73 : decode cX7_kind 73 = .ok (.invokevirtual 201, 3) := by decide +kernel
theorem dX7_kind_76 : decode cX7_kind 76 = .ok (.istore 7, 2) := by decide +kernel
theorem dX7_kind_78 : decode cX7_kind 78 = .ok (.iload 7, 2) := by decide +kernel
theorem dX7_kind_80 : decode cX7_kind 80 = .ok (.iload 4, 2) := by decide +kernel
theorem dX7_kind_82 : decode cX7_kind 82 = .ok (.if_icmp .ge 8, 3) := by decide +kernel
theorem dX7_kind_85 : decode cX7_kind 85 = .ok (.iload 6, 2) := by decide +kernel
theorem dX7_kind_87 : decode cX7_kind 87 = .ok (.goto 5, 3) := by decide +kernel
theorem dX7_kind_90 : decode cX7_kind 90 = .ok (.iload 5, 2) := by decide +kernel
theorem dX7_kind_92 : decode cX7_kind 92 = .ok (.istore 5, 2) := by decide +kernel
theorem dX7_kind_94 : decode cX7_kind 94 = .ok (.iload 7, 2) := by decide +kernel
theorem dX7_kind_96 : decode cX7_kind 96 = .ok (.iload 4, 2) := by decide +kernel
theorem dX7_kind_98 : decode cX7_kind 98 = .ok (.if_icmp .ge 8, 3) := by decide +kernel
theorem dX7_kind_101 : decode cX7_kind 101 = .ok (.iload 7, 2) := by decide +kernel
theorem dX7_kind_103 : decode cX7_kind 103 = .ok (.goto 5, 3) := by decide +kernel
theorem dX7_kind_106 : decode cX7_kind 106 = .ok (.iload 4, 2) := by decide +kernel
theorem dX7_kind_108 : decode cX7_kind 108 = .ok (.istore 4, 2) := by decide +kernel
theorem dX7_kind_110 : decode cX7_kind 110 = .ok (.iinc 6 1, 3) := by decide +kernel
theorem dX7_kind_113 : decode cX7_kind 113 = .ok (.goto (-63), 3) := by decide +kernel
theorem dX7_kind_116 : decode cX7_kind 116 = .ok (.iload_n 3, 1) := by decide +kernel
theorem dX7_kind_117 : decode cX7_kind 117 = .ok (.ifCond .ne 8, 3) := by decide +kernel
theorem dX7_kind_120 : decode cX7_kind 120 = .ok (.iload 5, 2) := by decide +kernel
theorem dX7_kind_122 : decode cX7_kind 122 = .ok (.goto 5, 3) := by decide +kernel
theorem dX7_kind_125 : decode cX7_kind 125 = .ok (.iload 4, 2) := by decide +kernel
theorem dX7_kind_127 : decode cX7_kind 127 = .ok (.ireturn, 1) := by decide +kernel
theorem dX7_lowest_0 : decode cX7_lowest 0 = .ok (.lload_n 0, 1) := by decide +kernel
theorem dX7_lowest_1 : decode cX7_lowest 1 = .ok (.lstore 5, 2) := by decide +kernel
theorem dX7_lowest_3 : decode cX7_lowest 3 = .ok (.lload_n 2, 1) := by decide +kernel
theorem dX7_lowest_4 : decode cX7_lowest 4 = .ok (.lstore 7, 2) := by decide +kernel
theorem dX7_lowest_6 : decode cX7_lowest 6 = .ok (.lload 7, 2) := by decide +kernel
theorem dX7_lowest_8 : decode cX7_lowest 8 = .ok (.lconst 0, 1) := by decide +kernel
theorem dX7_lowest_9 : decode cX7_lowest 9 = .ok (.lcmp, 1) := by decide +kernel
theorem dX7_lowest_10 : decode cX7_lowest 10 = .ok (.ifCond .eq 21, 3) := by decide +kernel
theorem dX7_lowest_13 : decode cX7_lowest 13 = .ok (.lload 5, 2) := by decide +kernel
theorem dX7_lowest_15 : decode cX7_lowest 15 = .ok (.lload 7, 2) := by decide +kernel
theorem dX7_lowest_17 : decode cX7_lowest 17 = .ok (.lrem, 1) := by decide +kernel
theorem dX7_lowest_18 : decode cX7_lowest 18 = .ok (.lstore 9, 2) := by decide +kernel
theorem dX7_lowest_20 : decode cX7_lowest 20 = .ok (.lload 7, 2) := by decide +kernel
theorem dX7_lowest_22 : decode cX7_lowest 22 = .ok (.lstore 5, 2) := by decide +kernel
theorem dX7_lowest_24 : decode cX7_lowest 24 = .ok (.lload 9, 2) := by decide +kernel
theorem dX7_lowest_26 : decode cX7_lowest 26 = .ok (.lstore 7, 2) := by decide +kernel
theorem dX7_lowest_28 : decode cX7_lowest 28 = .ok (.goto (-22), 3) := by decide +kernel
theorem dX7_lowest_31 : decode cX7_lowest 31 = .ok (.iload 4, 2) := by decide +kernel
theorem dX7_lowest_33 : decode cX7_lowest 33 = .ok (.ifCond .ne 7, 3) := by decide +kernel
theorem dX7_lowest_36 : decode cX7_lowest 36 = .ok (.lload_n 0, 1) := by decide +kernel
theorem dX7_lowest_37 : decode cX7_lowest 37 = .ok (.goto 4, 3) := by decide +kernel
theorem dX7_lowest_40 : decode cX7_lowest 40 = .ok (.lload_n 2, 1) := by decide +kernel
theorem dX7_lowest_41 : decode cX7_lowest 41 = .ok (.lload 5, 2) := by decide +kernel
theorem dX7_lowest_43 : decode cX7_lowest 43 = .ok (.ldiv, 1) := by decide +kernel
theorem dX7_lowest_44 : decode cX7_lowest 44 = .ok (.lreturn, 1) := by decide +kernel
theorem dX7_byRain_0 : decode cX7_byRain 0 = .ok (.lconst 0, 1) := by decide +kernel
theorem dX7_byRain_1 : decode cX7_byRain 1 = .ok (.lstore 5, 2) := by decide +kernel
theorem dX7_byRain_3 : decode cX7_byRain 3 = .ok (.lconst 1, 1) := by decide +kernel
theorem dX7_byRain_4 : decode cX7_byRain 4 = .ok (.lstore 7, 2) := by decide +kernel
theorem dX7_byRain_6 : decode cX7_byRain 6 = .ok (.iconst 0, 1) := by decide +kernel
theorem dX7_byRain_7 : decode cX7_byRain 7 = .ok (.istore 9, 2) := by decide +kernel
theorem dX7_byRain_9 : decode cX7_byRain 9 = .ok (.iload 9, 2) := by decide +kernel
theorem dX7_byRain_11 : decode cX7_byRain 11 = .ok (.iload_n 3, 1) := by decide +kernel
theorem dX7_byRain_12 : decode cX7_byRain 12 = .ok (.if_icmp .ge 17, 3) := by decide +kernel
theorem dX7_byRain_15 : decode cX7_byRain 15 = .ok (.lload 7, 2) := by decide +kernel
theorem dX7_byRain_17 : decode cX7_byRain 17 = .ok (.ldc2_w 209, 3) := by decide +kernel
theorem dX7_byRain_20 : decode cX7_byRain 20 = .ok (.lmul, 1) := by decide +kernel
theorem dX7_byRain_21 : decode cX7_byRain 21 = .ok (.lstore 7, 2) := by decide +kernel
theorem dX7_byRain_23 : decode cX7_byRain 23 = .ok (.iinc 9 1, 3) := by decide +kernel
theorem dX7_byRain_26 : decode cX7_byRain 26 = .ok (.goto (-17), 3) := by decide +kernel
theorem dX7_byRain_29 : decode cX7_byRain 29 = .ok (.iconst 0, 1) := by decide +kernel
theorem dX7_byRain_30 : decode cX7_byRain 30 = .ok (.istore 9, 2) := by decide +kernel
theorem dX7_byRain_32 : decode cX7_byRain 32 = .ok (.iload 9, 2) := by decide +kernel
theorem dX7_byRain_34 : decode cX7_byRain 34 = .ok (.iconst 1, 1) := by decide +kernel
theorem dX7_byRain_35 : decode cX7_byRain 35 = .ok (.iload_n 3, 1) := by decide +kernel
theorem dX7_byRain_36 : decode cX7_byRain 36 = .ok (.ishl, 1) := by decide +kernel
theorem dX7_byRain_37 : decode cX7_byRain 37 = .ok (.if_icmp .ge 140, 3) := by decide +kernel
theorem dX7_byRain_40 : decode cX7_byRain 40 = .ok (.lconst 1, 1) := by decide +kernel
theorem dX7_byRain_41 : decode cX7_byRain 41 = .ok (.lstore 10, 2) := by decide +kernel
theorem dX7_byRain_43 : decode cX7_byRain 43 = .ok (.iconst 0, 1) := by decide +kernel
theorem dX7_byRain_44 : decode cX7_byRain 44 = .ok (.istore 12, 2) := by decide +kernel
theorem dX7_byRain_46 : decode cX7_byRain 46 = .ok (.aload_n 0, 1) := by decide +kernel
theorem dX7_byRain_47 : decode cX7_byRain 47 = .ok (.iconst 0, 1) := by decide +kernel
theorem dX7_byRain_48 : decode cX7_byRain 48 = .ok (.sipush 168, 3) := by decide +kernel
theorem dX7_byRain_51 : decode cX7_byRain 51 = .ok (.invokevirtual 195, 3) := by decide +kernel
theorem dX7_byRain_54 : decode cX7_byRain 54 = .ok (.iconst 0, 1) := by decide +kernel
theorem dX7_byRain_55 : decode cX7_byRain 55 = .ok (.istore 13, 2) := by decide +kernel
theorem dX7_byRain_57 : decode cX7_byRain 57 = .ok (.iload 13, 2) := by decide +kernel
theorem dX7_byRain_59 : decode cX7_byRain 59 = .ok (.iload_n 3, 1) := by decide +kernel
theorem dX7_byRain_60 : decode cX7_byRain 60 = .ok (.if_icmp .ge 80, 3) := by decide +kernel
theorem dX7_byRain_63 : decode cX7_byRain 63 = .ok (.iload 9, 2) := by decide +kernel
theorem dX7_byRain_65 : decode cX7_byRain 65 = .ok (.iload 13, 2) := by decide +kernel
theorem dX7_byRain_67 : decode cX7_byRain 67 = .ok (.ishr, 1) := by decide +kernel
theorem dX7_byRain_68 : decode cX7_byRain 68 = .ok (.iconst 1, 1) := by decide +kernel
theorem dX7_byRain_69 : decode cX7_byRain 69 = .ok (.iand, 1) := by decide +kernel
theorem dX7_byRain_70 : decode cX7_byRain 70 = .ok (.iconst 1, 1) := by decide +kernel
theorem dX7_byRain_71 : decode cX7_byRain 71 = .ok (.if_icmp .ne 7, 3) := by decide +kernel
theorem dX7_byRain_74 : decode cX7_byRain 74 = .ok (.iconst 1, 1) := by decide +kernel
theorem dX7_byRain_75 : decode cX7_byRain 75 = .ok (.goto 4, 3) := by decide +kernel
theorem dX7_byRain_78 : decode cX7_byRain 78 = .ok (.iconst 0, 1) := by decide +kernel
theorem dX7_byRain_79 : decode cX7_byRain 79 = .ok (.istore 14, 2) := by decide +kernel
theorem dX7_byRain_81 : decode cX7_byRain 81 = .ok (.lload 10, 2) := by decide +kernel
theorem dX7_byRain_83 : decode cX7_byRain 83 = .ok (.iload 14, 2) := by decide +kernel
theorem dX7_byRain_85 : decode cX7_byRain 85 = .ok (.ifCond .eq 8, 3) := by decide +kernel
theorem dX7_byRain_88 : decode cX7_byRain 88 = .ok (.iload_n 1, 1) := by decide +kernel
theorem dX7_byRain_89 : decode cX7_byRain 89 = .ok (.i2l, 1) := by decide +kernel
theorem dX7_byRain_90 : decode cX7_byRain 90 = .ok (.goto 8, 3) := by decide +kernel
theorem dX7_byRain_93 : decode cX7_byRain 93 = .ok (.bipush 10, 2) := by decide +kernel
theorem dX7_byRain_95 : decode cX7_byRain 95 = .ok (.iload_n 1, 1) := by decide +kernel
theorem dX7_byRain_96 : decode cX7_byRain 96 = .ok (.isub, 1) := by decide +kernel
theorem dX7_byRain_97 : decode cX7_byRain 97 = .ok (.i2l, 1) := by decide +kernel
theorem dX7_byRain_98 : decode cX7_byRain 98 = .ok (.lmul, 1) := by decide +kernel
theorem dX7_byRain_99 : decode cX7_byRain 99 = .ok (.lstore 10, 2) := by decide +kernel
theorem dX7_byRain_101 : decode cX7_byRain 101 = .ok (.aload_n 0, 1) := by decide +kernel
theorem dX7_byRain_102 : decode cX7_byRain 102 = .ok (.sipush 168, 3) := by decide +kernel
theorem dX7_byRain_105 : decode cX7_byRain 105 = .ok (.iload 14, 2) := by decide +kernel
theorem dX7_byRain_107 : decode cX7_byRain 107 = .ok (.invokevirtual 191, 3) := by decide +kernel
theorem dX7_byRain_110 : decode cX7_byRain 110 = .ok (.iload 12, 2) := by decide +kernel
theorem dX7_byRain_112 : decode cX7_byRain 112 = .ok (.aload_n 0, 1) := by decide +kernel
theorem dX7_byRain_113 : decode cX7_byRain 113 = .ok (.getfield 142, 3) := by decide +kernel
theorem dX7_byRain_116 : decode cX7_byRain 116 = .ok (.bipush (-4), 2) := by decide +kernel
theorem dX7_byRain_118 : decode cX7_byRain 118 = .ok (.if_icmp .ne 7, 3) := by decide +kernel
theorem dX7_byRain_121 : decode cX7_byRain 121 = .ok (.iconst 0, 1) := by decide +kernel
theorem dX7_byRain_122 : decode cX7_byRain 122 = .ok (.goto 9, 3) := by decide +kernel
theorem dX7_byRain_125 : decode cX7_byRain 125 = .ok (.iconst 1, 1) := by decide +kernel
theorem dX7_byRain_126 : decode cX7_byRain 126 = .ok (.aload_n 0, 1) := by decide +kernel
theorem dX7_byRain_127 : decode cX7_byRain 127 = .ok (.getfield 142, 3) := by decide +kernel
theorem dX7_byRain_130 : decode cX7_byRain 130 = .ok (.ishl, 1) := by decide +kernel
theorem dX7_byRain_131 : decode cX7_byRain 131 = .ok (.ior, 1) := by decide +kernel
theorem dX7_byRain_132 : decode cX7_byRain 132 = .ok (.istore 12, 2) := by decide +kernel
theorem dX7_byRain_134 : decode cX7_byRain 134 = .ok (.iinc 13 1, 3) := by decide +kernel
theorem dX7_byRain_137 : decode cX7_byRain 137 = .ok (.goto (-80), 3) := by decide +kernel
theorem dX7_byRain_140 : decode cX7_byRain 140 = .ok (.lload 5, 2) := by decide +kernel
theorem dX7_byRain_142 : decode cX7_byRain 142 = .ok (.lload 10, 2) := by decide +kernel
theorem dX7_byRain_144 : decode cX7_byRain 144 = .ok (.iload_n 2, 1) := by decide +kernel
theorem dX7_byRain_145 : decode cX7_byRain 145 = .ok (.bipush (-4), 2) := by decide +kernel
theorem dX7_byRain_147 : decode cX7_byRain 147 = .ok (.if_icmp .ne 13, 3) := by decide +kernel
theorem dX7_byRain_150 : decode cX7_byRain 150 = .ok (.aload_n 0, 1) := by decide +kernel
theorem dX7_byRain_151 : decode cX7_byRain 151 = .ok (.sipush 168, 3) := by decide +kernel
theorem dX7_byRain_154 : decode cX7_byRain 154 = .ok (.invokevirtual 164, 3) := by decide +kernel
theorem dX7_byRain_157 : decode cX7_byRain 157 = .ok (.goto 9, 3) := by decide +kernel
theorem dX7_byRain_160 : decode cX7_byRain 160 = .ok (.iload 12, 2) := by decide +kernel
theorem dX7_byRain_162 : decode cX7_byRain 162 = .ok (.iload_n 2, 1) := by decide +kernel
theorem dX7_byRain_163 : decode cX7_byRain 163 = .ok (.ishr, 1) := by decide +kernel
theorem dX7_byRain_164 : decode cX7_byRain 164 = .ok (.iconst 1, 1) := by decide +kernel
theorem dX7_byRain_165 : decode cX7_byRain 165 = .ok (.iand, 1) := by decide +kernel
theorem dX7_byRain_166 : decode cX7_byRain 166 = .ok (.i2l, 1) := by decide +kernel
theorem dX7_byRain_167 : decode cX7_byRain 167 = .ok (.lmul, 1) := by decide +kernel
theorem dX7_byRain_168 : decode cX7_byRain 168 = .ok (.ladd, 1) := by decide +kernel
theorem dX7_byRain_169 : decode cX7_byRain 169 = .ok (.lstore 5, 2) := by decide +kernel
theorem dX7_byRain_171 : decode cX7_byRain 171 = .ok (.iinc 9 1, 3) := by decide +kernel
theorem dX7_byRain_174 : decode cX7_byRain 174 = .ok (.goto (-142), 3) := by decide +kernel
theorem dX7_byRain_177 : decode cX7_byRain 177 = .ok (.lload 5, 2) := by decide +kernel
theorem dX7_byRain_179 : decode cX7_byRain 179 = .ok (.lload 7, 2) := by decide +kernel
theorem dX7_byRain_181 : decode cX7_byRain 181 = .ok (.iload 4, 2) := by decide +kernel
theorem dX7_byRain_183 : decode cX7_byRain 183 = .ok (.invokestatic 217, 3) := by decide +kernel
theorem dX7_byRain_186 : decode cX7_byRain 186 = .ok (.lreturn, 1) := by decide +kernel
theorem dX7_luck_0 : decode cX7_luck 0 = .ok (.iload_n 1, 1) := by decide +kernel
theorem dX7_luck_1 : decode cX7_luck 1 = .ok (.i2l, 1) := by decide +kernel
theorem dX7_luck_2 : decode cX7_luck 2 = .ok (.lconst 0, 1) := by decide +kernel
theorem dX7_luck_3 : decode cX7_luck 3 = .ok (.ldc2_w 209, 3) := by decide +kernel
theorem dX7_luck_6 : decode cX7_luck 6 = .ok (.invokestatic 53, 3) := by decide +kernel
theorem dX7_luck_9 : decode cX7_luck 9 = .ok (.ifCond .eq 46, 3) := by decide +kernel
theorem dX7_luck_12 : decode cX7_luck 12 = .ok (.aload_n 0, 1) := by decide +kernel
theorem dX7_luck_13 : decode cX7_luck 13 = .ok (.iload_n 2, 1) := by decide +kernel
theorem dX7_luck_14 : decode cX7_luck 14 = .ok (.invokevirtual 131, 3) := by decide +kernel
theorem dX7_luck_17 : decode cX7_luck 17 = .ok (.ifCond .eq 38, 3) := by decide +kernel
theorem dX7_luck_20 : decode cX7_luck 20 = .ok (.iload_n 3, 1) := by decide +kernel
theorem dX7_luck_21 : decode cX7_luck 21 = .ok (.i2l, 1) := by decide +kernel
theorem dX7_luck_22 : decode cX7_luck 22 = .ok (.lconst 0, 1) := by decide +kernel
theorem dX7_luck_23 : decode cX7_luck 23 = .ok (.ldc2_w 221, 3) := by decide +kernel
theorem dX7_luck_26 : decode cX7_luck 26 = .ok (.invokestatic 53, 3) := by decide +kernel
theorem dX7_luck_29 : decode cX7_luck 29 = .ok (.ifCond .eq 26, 3) := by decide +kernel
theorem dX7_luck_32 : decode cX7_luck 32 = .ok (.iload 4, 2) := by decide +kernel
theorem dX7_luck_34 : decode cX7_luck 34 = .ok (.i2l, 1) := by decide +kernel
theorem dX7_luck_35 : decode cX7_luck 35 = .ok (.lconst 0, 1) := by decide +kernel
theorem dX7_luck_36 : decode cX7_luck 36 = .ok (.lconst 1, 1) := by decide +kernel
theorem dX7_luck_37 : decode cX7_luck 37 = .ok (.invokestatic 53, 3) := by decide +kernel
theorem dX7_luck_40 : decode cX7_luck 40 = .ok (.ifCond .eq 15, 3) := by decide +kernel
theorem dX7_luck_43 : decode cX7_luck 43 = .ok (.aload_n 0, 1) := by decide +kernel
theorem dX7_luck_44 : decode cX7_luck 44 = .ok (.iload_n 1, 1) := by decide +kernel
theorem dX7_luck_45 : decode cX7_luck 45 = .ok (.iload_n 2, 1) := by decide +kernel
theorem dX7_luck_46 : decode cX7_luck 46 = .ok (.iload_n 3, 1) := by decide +kernel
theorem dX7_luck_47 : decode cX7_luck 47 = .ok (.iload 4, 2) := by decide +kernel
theorem dX7_luck_49 : decode cX7_luck 49 = .ok (.invokevirtual 223, 3) := by decide +kernel
theorem dX7_luck_52 : decode cX7_luck 52 = .ok (.goto 6, 3) := by decide +kernel
theorem dX7_luck_55 : decode cX7_luck 55 = .ok (.ldc2_w 227, 3) := by decide +kernel
theorem dX7_luck_58 : decode cX7_luck 58 = .ok (.lreturn, 1) := by decide +kernel
theorem dX7_mean_0 : decode cX7_mean 0 = .ok (.iload_n 1, 1) := by decide +kernel
theorem dX7_mean_1 : decode cX7_mean 1 = .ok (.i2l, 1) := by decide +kernel
theorem dX7_mean_2 : decode cX7_mean 2 = .ok (.lconst 0, 1) := by decide +kernel
theorem dX7_mean_3 : decode cX7_mean 3 = .ok (.ldc2_w 209, 3) := by decide +kernel
theorem dX7_mean_6 : decode cX7_mean 6 = .ok (.invokestatic 53, 3) := by decide +kernel
theorem dX7_mean_9 : decode cX7_mean 9 = .ok (.ifCond .eq 37, 3) := by decide +kernel
theorem dX7_mean_12 : decode cX7_mean 12 = .ok (.iload_n 2, 1) := by decide +kernel
theorem dX7_mean_13 : decode cX7_mean 13 = .ok (.i2l, 1) := by decide +kernel
theorem dX7_mean_14 : decode cX7_mean 14 = .ok (.lconst 0, 1) := by decide +kernel
theorem dX7_mean_15 : decode cX7_mean 15 = .ok (.ldc2_w 221, 3) := by decide +kernel
theorem dX7_mean_18 : decode cX7_mean 18 = .ok (.invokestatic 53, 3) := by decide +kernel
theorem dX7_mean_21 : decode cX7_mean 21 = .ok (.ifCond .eq 25, 3) := by decide +kernel
theorem dX7_mean_24 : decode cX7_mean 24 = .ok (.iload_n 3, 1) := by decide +kernel
theorem dX7_mean_25 : decode cX7_mean 25 = .ok (.i2l, 1) := by decide +kernel
theorem dX7_mean_26 : decode cX7_mean 26 = .ok (.lconst 0, 1) := by decide +kernel
theorem dX7_mean_27 : decode cX7_mean 27 = .ok (.lconst 1, 1) := by decide +kernel
theorem dX7_mean_28 : decode cX7_mean 28 = .ok (.invokestatic 53, 3) := by decide +kernel
theorem dX7_mean_31 : decode cX7_mean 31 = .ok (.ifCond .eq 15, 3) := by decide +kernel
theorem dX7_mean_34 : decode cX7_mean 34 = .ok (.aload_n 0, 1) := by decide +kernel
theorem dX7_mean_35 : decode cX7_mean 35 = .ok (.iload_n 1, 1) := by decide +kernel
theorem dX7_mean_36 : decode cX7_mean 36 = .ok (.bipush (-4), 2) := by decide +kernel
theorem dX7_mean_38 : decode cX7_mean 38 = .ok (.iload_n 2, 1) := by decide +kernel
theorem dX7_mean_39 : decode cX7_mean 39 = .ok (.iload_n 3, 1) := by decide +kernel
theorem dX7_mean_40 : decode cX7_mean 40 = .ok (.invokevirtual 223, 3) := by decide +kernel
theorem dX7_mean_43 : decode cX7_mean 43 = .ok (.goto 6, 3) := by decide +kernel
theorem dX7_mean_46 : decode cX7_mean 46 = .ok (.ldc2_w 227, 3) := by decide +kernel
theorem dX7_mean_49 : decode cX7_mean 49 = .ok (.lreturn, 1) := by decide +kernel
theorem dX7_see_0 : decode cX7_see 0 = .ok (.iload_n 1, 1) := by decide +kernel
theorem dX7_see_1 : decode cX7_see 1 = .ok (.i2l, 1) := by decide +kernel
theorem dX7_see_2 : decode cX7_see 2 = .ok (.lconst 0, 1) := by decide +kernel
theorem dX7_see_3 : decode cX7_see 3 = .ok (.ldc2_w 180, 3) := by decide +kernel
theorem dX7_see_6 : decode cX7_see 6 = .ok (.invokestatic 53, 3) := by decide +kernel
theorem dX7_see_9 : decode cX7_see 9 = .ok (.ifCond .eq 17, 3) := by decide +kernel
theorem dX7_see_12 : decode cX7_see 12 = .ok (.aload_n 0, 1) := by decide +kernel
theorem dX7_see_13 : decode cX7_see 13 = .ok (.iload_n 2, 1) := by decide +kernel
theorem dX7_see_14 : decode cX7_see 14 = .ok (.invokevirtual 131, 3) := by decide +kernel
theorem dX7_see_17 : decode cX7_see 17 = .ok (.ifCond .ne 11, 3) := by decide +kernel
theorem dX7_see_20 : decode cX7_see 20 = .ok (.iload_n 2, 1) := by decide +kernel
theorem dX7_see_21 : decode cX7_see 21 = .ok (.bipush 9, 2) := by decide +kernel
theorem dX7_see_23 : decode cX7_see 23 = .ok (.if_icmp .eq 5, 3) := by decide +kernel
theorem dX7_see_26 : decode cX7_see 26 = .ok (.iconst (-1), 1) := by decide +kernel
theorem dX7_see_27 : decode cX7_see 27 = .ok (.ireturn, 1) := by decide +kernel
theorem dX7_see_28 : decode cX7_see 28 = .ok (.aload_n 0, 1) := by decide +kernel
theorem dX7_see_29 : decode cX7_see 29 = .ok (.getfield 128, 3) := by decide +kernel
theorem dX7_see_32 : decode cX7_see 32 = .ok (.bipush 6, 2) := by decide +kernel
theorem dX7_see_34 : decode cX7_see 34 = .ok (.if_icmp .ne 6, 3) := by decide +kernel
theorem dX7_see_37 : decode cX7_see 37 = .ok (.bipush (-3), 2) := by decide +kernel
theorem dX7_see_39 : decode cX7_see 39 = .ok (.ireturn, 1) := by decide +kernel
theorem dX7_see_40 : decode cX7_see 40 = .ok (.aload_n 0, 1) := by decide +kernel
theorem dX7_see_41 : decode cX7_see 41 = .ok (.getfield 32, 3) := by decide +kernel
theorem dX7_see_44 : decode cX7_see 44 = .ok (.iconst 2, 1) := by decide +kernel
theorem dX7_see_45 : decode cX7_see 45 = .ok (.aload_n 0, 1) := by decide +kernel
theorem dX7_see_46 : decode cX7_see 46 = .ok (.getfield 128, 3) := by decide +kernel
theorem dX7_see_49 : decode cX7_see 49 = .ok (.imul, 1) := by decide +kernel
theorem dX7_see_50 : decode cX7_see 50 = .ok (.iload_n 1, 1) := by decide +kernel
theorem dX7_see_51 : decode cX7_see 51 = .ok (.iastore, 1) := by decide +kernel
theorem dX7_see_52 : decode cX7_see 52 = .ok (.aload_n 0, 1) := by decide +kernel
theorem dX7_see_53 : decode cX7_see 53 = .ok (.getfield 32, 3) := by decide +kernel
theorem dX7_see_56 : decode cX7_see 56 = .ok (.iconst 2, 1) := by decide +kernel
theorem dX7_see_57 : decode cX7_see 57 = .ok (.aload_n 0, 1) := by decide +kernel
theorem dX7_see_58 : decode cX7_see 58 = .ok (.getfield 128, 3) := by decide +kernel
theorem dX7_see_61 : decode cX7_see 61 = .ok (.imul, 1) := by decide +kernel
theorem dX7_see_62 : decode cX7_see 62 = .ok (.iconst 1, 1) := by decide +kernel
theorem dX7_see_63 : decode cX7_see 63 = .ok (.iadd, 1) := by decide +kernel
theorem dX7_see_64 : decode cX7_see 64 = .ok (.iload_n 2, 1) := by decide +kernel
theorem dX7_see_65 : decode cX7_see 65 = .ok (.iastore, 1) := by decide +kernel
theorem dX7_see_66 : decode cX7_see 66 = .ok (.aload_n 0, 1) := by decide +kernel
theorem dX7_see_67 : decode cX7_see 67 = .ok (.dup, 1) := by decide +kernel
theorem dX7_see_68 : decode cX7_see 68 = .ok (.getfield 128, 3) := by decide +kernel
theorem dX7_see_71 : decode cX7_see 71 = .ok (.iconst 1, 1) := by decide +kernel
theorem dX7_see_72 : decode cX7_see 72 = .ok (.iadd, 1) := by decide +kernel
theorem dX7_see_73 : decode cX7_see 73 = .ok (.putfield 128, 3) := by decide +kernel
theorem dX7_see_76 : decode cX7_see 76 = .ok (.aload_n 0, 1) := by decide +kernel
theorem dX7_see_77 : decode cX7_see 77 = .ok (.getfield 128, 3) := by decide +kernel
theorem dX7_see_80 : decode cX7_see 80 = .ok (.ireturn, 1) := by decide +kernel
theorem dX7_forget_0 : decode cX7_forget 0 = .ok (.iload_n 1, 1) := by decide +kernel
theorem dX7_forget_1 : decode cX7_forget 1 = .ok (.i2l, 1) := by decide +kernel
theorem dX7_forget_2 : decode cX7_forget 2 = .ok (.lconst 0, 1) := by decide +kernel
theorem dX7_forget_3 : decode cX7_forget 3 = .ok (.aload_n 0, 1) := by decide +kernel
theorem dX7_forget_4 : decode cX7_forget 4 = .ok (.getfield 128, 3) := by decide +kernel
theorem dX7_forget_7 : decode cX7_forget 7 = .ok (.i2l, 1) := by decide +kernel
theorem dX7_forget_8 : decode cX7_forget 8 = .ok (.invokestatic 53, 3) := by decide +kernel
theorem dX7_forget_11 : decode cX7_forget 11 = .ok (.ifCond .ne 5, 3) := by decide +kernel
theorem dX7_forget_14 : decode cX7_forget 14 = .ok (.iconst (-1), 1) := by decide +kernel
theorem dX7_forget_15 : decode cX7_forget 15 = .ok (.ireturn, 1) := by decide +kernel
theorem dX7_forget_16 : decode cX7_forget 16 = .ok (.aload_n 0, 1) := by decide +kernel
theorem dX7_forget_17 : decode cX7_forget 17 = .ok (.getfield 128, 3) := by decide +kernel
theorem dX7_forget_20 : decode cX7_forget 20 = .ok (.istore_n 2, 1) := by decide +kernel
theorem dX7_forget_21 : decode cX7_forget 21 = .ok (.aload_n 0, 1) := by decide +kernel
theorem dX7_forget_22 : decode cX7_forget 22 = .ok (.iload_n 1, 1) := by decide +kernel
theorem dX7_forget_23 : decode cX7_forget 23 = .ok (.putfield 128, 3) := by decide +kernel
theorem dX7_forget_26 : decode cX7_forget 26 = .ok (.iload_n 2, 1) := by decide +kernel
theorem dX7_forget_27 : decode cX7_forget 27 = .ok (.ireturn, 1) := by decide +kernel
theorem dX7_isAsSeen_0 : decode cX7_isAsSeen 0 = .ok (.aload_n 0, 1) := by decide +kernel
theorem dX7_isAsSeen_1 : decode cX7_isAsSeen 1 = .ok (.iconst 0, 1) := by decide +kernel
theorem dX7_isAsSeen_2 : decode cX7_isAsSeen 2 = .ok (.sipush 168, 3) := by decide +kernel
theorem dX7_isAsSeen_5 : decode cX7_isAsSeen 5 = .ok (.invokevirtual 195, 3) := by decide +kernel
theorem dX7_isAsSeen_8 : decode cX7_isAsSeen 8 = .ok (.iconst 1, 1) := by decide +kernel
theorem dX7_isAsSeen_9 : decode cX7_isAsSeen 9 = .ok (.istore_n 2, 1) := by decide +kernel
theorem dX7_isAsSeen_10 : decode cX7_isAsSeen 10 = .ok (.iconst 0, 1) := by decide +kernel
theorem dX7_isAsSeen_11 : decode cX7_isAsSeen 11 = .ok (.istore_n 3, 1) := by decide +kernel
theorem dX7_isAsSeen_12 : decode cX7_isAsSeen 12 = .ok (.iload_n 3, 1) := by decide +kernel
theorem dX7_isAsSeen_13 : decode cX7_isAsSeen 13 = .ok (.bipush 20, 2) := by decide +kernel
theorem dX7_isAsSeen_15 : decode cX7_isAsSeen 15 = .ok (.if_icmp .gt 107, 3) := by decide +kernel
theorem dX7_isAsSeen_18 : decode cX7_isAsSeen 18 = .ok (.aload_n 0, 1) := by decide +kernel
theorem dX7_isAsSeen_19 : decode cX7_isAsSeen 19 = .ok (.sipush 168, 3) := by decide +kernel
theorem dX7_isAsSeen_22 : decode cX7_isAsSeen 22 = .ok (.iconst 0, 1) := by decide +kernel
theorem dX7_isAsSeen_23 : decode cX7_isAsSeen 23 = .ok (.invokevirtual 191, 3) := by decide +kernel
theorem dX7_isAsSeen_26 : decode cX7_isAsSeen 26 = .ok (.aload_n 0, 1) := by decide +kernel
theorem dX7_isAsSeen_27 : decode cX7_isAsSeen 27 = .ok (.getfield 142, 3) := by decide +kernel
theorem dX7_isAsSeen_30 : decode cX7_isAsSeen 30 = .ok (.bipush (-4), 2) := by decide +kernel
theorem dX7_isAsSeen_32 : decode cX7_isAsSeen 32 = .ok (.if_icmp .ne 8, 3) := by decide +kernel
theorem dX7_isAsSeen_35 : decode cX7_isAsSeen 35 = .ok (.bipush 9, 2) := by decide +kernel
theorem dX7_isAsSeen_37 : decode cX7_isAsSeen 37 = .ok (.goto 7, 3) := by decide +kernel
theorem dX7_isAsSeen_40 : decode cX7_isAsSeen 40 = .ok (.aload_n 0, 1) := by decide +kernel
theorem dX7_isAsSeen_41 : decode cX7_isAsSeen 41 = .ok (.getfield 142, 3) := by decide +kernel
theorem dX7_isAsSeen_44 : decode cX7_isAsSeen 44 = .ok (.istore 4, 2) := by decide +kernel
theorem dX7_isAsSeen_46 : decode cX7_isAsSeen 46 = .ok (.aload_n 0, 1) := by decide +kernel
theorem dX7_isAsSeen_47 : decode cX7_isAsSeen 47 = .ok (.getfield 35, 3) := by decide +kernel
theorem dX7_isAsSeen_50 : decode cX7_isAsSeen 50 = .ok (.bipush 21, 2) := by decide +kernel
theorem dX7_isAsSeen_52 : decode cX7_isAsSeen 52 = .ok (.iload_n 1, 1) := by decide +kernel
theorem dX7_isAsSeen_53 : decode cX7_isAsSeen 53 = .ok (.imul, 1) := by decide +kernel
theorem dX7_isAsSeen_54 : decode cX7_isAsSeen 54 = .ok (.iload_n 3, 1) := by decide +kernel
theorem dX7_isAsSeen_55 : decode cX7_isAsSeen 55 = .ok (.iadd, 1) := by decide +kernel
theorem dX7_isAsSeen_56 : decode cX7_isAsSeen 56 = .ok (.iload 4, 2) := by decide +kernel
theorem dX7_isAsSeen_58 : decode cX7_isAsSeen 58 = .ok (.iastore, 1) := by decide +kernel
theorem dX7_isAsSeen_59 : decode cX7_isAsSeen 59 = .ok (.iconst 0, 1) := by decide +kernel
theorem dX7_isAsSeen_60 : decode cX7_isAsSeen 60 = .ok (.istore 5, 2) := by decide +kernel
theorem dX7_isAsSeen_62 : decode cX7_isAsSeen 62 = .ok (.iload 5, 2) := by decide +kernel
theorem dX7_isAsSeen_64 : decode cX7_isAsSeen 64 = .ok (.aload_n 0, 1) := by decide +kernel
theorem dX7_isAsSeen_65 : decode cX7_isAsSeen 65 = .ok (.getfield 128, 3) := by decide +kernel
theorem dX7_isAsSeen_68 : decode cX7_isAsSeen 68 = .ok (.if_icmp .ge 48, 3) := by decide +kernel
theorem dX7_isAsSeen_71 : decode cX7_isAsSeen 71 = .ok (.iload_n 2, 1) := by decide +kernel
theorem dX7_isAsSeen_72 : decode cX7_isAsSeen 72 = .ok (.ifCond .eq 36, 3) := by decide +kernel
theorem dX7_isAsSeen_75 : decode cX7_isAsSeen 75 = .ok (.aload_n 0, 1) := by decide +kernel
theorem dX7_isAsSeen_76 : decode cX7_isAsSeen 76 = .ok (.getfield 32, 3) := by decide +kernel
theorem dX7_isAsSeen_79 : decode cX7_isAsSeen 79 = .ok (.iconst 2, 1) := by decide +kernel
theorem dX7_isAsSeen_80 : decode cX7_isAsSeen 80 = .ok (.iload 5, 2) := by decide +kernel
theorem dX7_isAsSeen_82 : decode cX7_isAsSeen 82 = .ok (.imul, 1) := by decide +kernel
theorem dX7_isAsSeen_83 : decode cX7_isAsSeen 83 = .ok (.iaload, 1) := by decide +kernel
theorem dX7_isAsSeen_84 : decode cX7_isAsSeen 84 = .ok (.iload_n 3, 1) := by decide +kernel
theorem dX7_isAsSeen_85 : decode cX7_isAsSeen 85 = .ok (.if_icmp .ne 19, 3) := by decide +kernel
theorem dX7_isAsSeen_88 : decode cX7_isAsSeen 88 = .ok (.iload 4, 2) := by decide +kernel
theorem dX7_isAsSeen_90 : decode cX7_isAsSeen 90 = .ok (.aload_n 0, 1) := by decide +kernel
theorem dX7_isAsSeen_91 : decode cX7_isAsSeen 91 = .ok (.getfield 32, 3) := by decide +kernel
theorem dX7_isAsSeen_94 : decode cX7_isAsSeen 94 = .ok (.iconst 2, 1) := by decide +kernel
theorem dX7_isAsSeen_95 : decode cX7_isAsSeen 95 = .ok (.iload 5, 2) := by decide +kernel
theorem dX7_isAsSeen_97 : decode cX7_isAsSeen 97 = .ok (.imul, 1) := by decide +kernel
theorem dX7_isAsSeen_98 : decode cX7_isAsSeen 98 = .ok (.iconst 1, 1) := by decide +kernel
theorem dX7_isAsSeen_99 : decode cX7_isAsSeen 99 = .ok (.iadd, 1) := by decide +kernel
theorem dX7_isAsSeen_100 : decode cX7_isAsSeen 100 = .ok (.iaload, 1) := by decide +kernel
theorem dX7_isAsSeen_101 : decode cX7_isAsSeen 101 = .ok (.if_icmp .ne 7, 3) := by decide +kernel
theorem dX7_isAsSeen_104 : decode cX7_isAsSeen 104 = .ok (.iconst 1, 1) := by decide +kernel
theorem dX7_isAsSeen_105 : decode cX7_isAsSeen 105 = .ok (.goto 4, 3) := by decide +kernel
theorem dX7_isAsSeen_108 : decode cX7_isAsSeen 108 = .ok (.iconst 0, 1) := by decide +kernel
theorem dX7_isAsSeen_109 : decode cX7_isAsSeen 109 = .ok (.istore_n 2, 1) := by decide +kernel
theorem dX7_isAsSeen_110 : decode cX7_isAsSeen 110 = .ok (.iinc 5 1, 3) := by decide +kernel
theorem dX7_isAsSeen_113 : decode cX7_isAsSeen 113 = .ok (.goto (-51), 3) := by decide +kernel
theorem dX7_isAsSeen_116 : decode cX7_isAsSeen 116 = .ok (.iinc 3 1, 3) := by decide +kernel
theorem dX7_isAsSeen_119 : decode cX7_isAsSeen 119 = .ok (.goto (-107), 3) := by decide +kernel
theorem dX7_isAsSeen_122 : decode cX7_isAsSeen 122 = .ok (.iload_n 2, 1) := by decide +kernel
theorem dX7_isAsSeen_123 : decode cX7_isAsSeen 123 = .ok (.ireturn, 1) := by decide +kernel
theorem dX7_numbersAt_0 : decode cX7_numbersAt 0 = .ok (.aload_n 0, 1) := by decide +kernel
theorem dX7_numbersAt_1 : decode cX7_numbersAt 1 = .ok (.getfield 7, 3) := by decide +kernel
theorem dX7_numbersAt_4 : decode cX7_numbersAt 4 = .ok (.iload_n 1, 1) := by decide +kernel
theorem dX7_numbersAt_5 : decode cX7_numbersAt 5 = .ok (.iaload, 1) := by decide +kernel
theorem dX7_numbersAt_6 : decode cX7_numbersAt 6 = .ok (.istore_n 3, 1) := by decide +kernel
theorem dX7_numbersAt_7 : decode cX7_numbersAt 7 = .ok (.iconst 0, 1) := by decide +kernel
theorem dX7_numbersAt_8 : decode cX7_numbersAt 8 = .ok (.istore 4, 2) := by decide +kernel
theorem dX7_numbersAt_10 : decode cX7_numbersAt 10 = .ok (.iconst 0, 1) := by decide +kernel
theorem dX7_numbersAt_11 : decode cX7_numbersAt 11 = .ok (.istore 5, 2) := by decide +kernel
theorem dX7_numbersAt_13 : decode cX7_numbersAt 13 = .ok (.iload 5, 2) := by decide +kernel
theorem dX7_numbersAt_15 : decode cX7_numbersAt 15 = .ok (.iload_n 2, 1) := by decide +kernel
theorem dX7_numbersAt_16 : decode cX7_numbersAt 16 = .ok (.if_icmp .gt 39, 3) := by decide +kernel
theorem dX7_numbersAt_19 : decode cX7_numbersAt 19 = .ok (.aload_n 0, 1) := by decide +kernel
theorem dX7_numbersAt_20 : decode cX7_numbersAt 20 = .ok (.getfield 7, 3) := by decide +kernel
theorem dX7_numbersAt_23 : decode cX7_numbersAt 23 = .ok (.iload_n 1, 1) := by decide +kernel
theorem dX7_numbersAt_24 : decode cX7_numbersAt 24 = .ok (.iload 5, 2) := by decide +kernel
theorem dX7_numbersAt_26 : decode cX7_numbersAt 26 = .ok (.iastore, 1) := by decide +kernel
theorem dX7_numbersAt_27 : decode cX7_numbersAt 27 = .ok (.iload 4, 2) := by decide +kernel
theorem dX7_numbersAt_29 : decode cX7_numbersAt 29 = .ok (.aload_n 0, 1) := by decide +kernel
theorem dX7_numbersAt_30 : decode cX7_numbersAt 30 = .ok (.iload 5, 2) := by decide +kernel
theorem dX7_numbersAt_32 : decode cX7_numbersAt 32 = .ok (.invokevirtual 229, 3) := by decide +kernel
theorem dX7_numbersAt_35 : decode cX7_numbersAt 35 = .ok (.ifCond .eq 10, 3) := by decide +kernel
theorem dX7_numbersAt_38 : decode cX7_numbersAt 38 = .ok (.iconst 1, 1) := by decide +kernel
theorem dX7_numbersAt_39 : decode cX7_numbersAt 39 = .ok (.iload 5, 2) := by decide +kernel
theorem dX7_numbersAt_41 : decode cX7_numbersAt 41 = .ok (.ishl, 1) := by decide +kernel
theorem dX7_numbersAt_42 : decode cX7_numbersAt 42 = .ok (.goto 4, 3) := by decide +kernel
theorem dX7_numbersAt_45 : decode cX7_numbersAt 45 = .ok (.iconst 0, 1) := by decide +kernel
theorem dX7_numbersAt_46 : decode cX7_numbersAt 46 = .ok (.ior, 1) := by decide +kernel
theorem dX7_numbersAt_47 : decode cX7_numbersAt 47 = .ok (.istore 4, 2) := by decide +kernel
theorem dX7_numbersAt_49 : decode cX7_numbersAt 49 = .ok (.iinc 5 1, 3) := by decide +kernel
theorem dX7_numbersAt_52 : decode cX7_numbersAt 52 = .ok (.goto (-39), 3) := by decide +kernel
theorem dX7_numbersAt_55 : decode cX7_numbersAt 55 = .ok (.aload_n 0, 1) := by decide +kernel
theorem dX7_numbersAt_56 : decode cX7_numbersAt 56 = .ok (.getfield 7, 3) := by decide +kernel
theorem dX7_numbersAt_59 : decode cX7_numbersAt 59 = .ok (.iload_n 1, 1) := by decide +kernel
theorem dX7_numbersAt_60 : decode cX7_numbersAt 60 = .ok (.iload_n 3, 1) := by decide +kernel
theorem dX7_numbersAt_61 : decode cX7_numbersAt 61 = .ok (.iastore, 1) := by decide +kernel
theorem dX7_numbersAt_62 : decode cX7_numbersAt 62 = .ok (.iload 4, 2) := by decide +kernel
theorem dX7_numbersAt_64 : decode cX7_numbersAt 64 = .ok (.ireturn, 1) := by decide +kernel
theorem dX7_kinds_0 : decode cX7_kinds 0 = .ok (.aload_n 0, 1) := by decide +kernel
theorem dX7_kinds_1 : decode cX7_kinds 1 = .ok (.iload_n 1, 1) := by decide +kernel
theorem dX7_kinds_2 : decode cX7_kinds 2 = .ok (.invokevirtual 131, 3) := by decide +kernel
theorem dX7_kinds_5 : decode cX7_kinds 5 = .ok (.ifCond .eq 12, 3) := by decide +kernel
theorem dX7_kinds_8 : decode cX7_kinds 8 = .ok (.aload_n 0, 1) := by decide +kernel
theorem dX7_kinds_9 : decode cX7_kinds 9 = .ok (.iload_n 1, 1) := by decide +kernel
theorem dX7_kinds_10 : decode cX7_kinds 10 = .ok (.iconst 3, 1) := by decide +kernel
theorem dX7_kinds_11 : decode cX7_kinds 11 = .ok (.invokevirtual 232, 3) := by decide +kernel
theorem dX7_kinds_14 : decode cX7_kinds 14 = .ok (.goto 4, 3) := by decide +kernel
theorem dX7_kinds_17 : decode cX7_kinds 17 = .ok (.iconst (-1), 1) := by decide +kernel
theorem dX7_kinds_18 : decode cX7_kinds 18 = .ok (.ireturn, 1) := by decide +kernel
theorem dX7_strengths_0 : decode cX7_strengths 0 = .ok (.aload_n 0, 1) := by decide +kernel
theorem dX7_strengths_1 : decode cX7_strengths 1 = .ok (.iload_n 1, 1) := by decide +kernel
theorem dX7_strengths_2 : decode cX7_strengths 2 = .ok (.invokevirtual 131, 3) := by decide +kernel
theorem dX7_strengths_5 : decode cX7_strengths 5 = .ok (.ifCond .eq 15, 3) := by decide +kernel
theorem dX7_strengths_8 : decode cX7_strengths 8 = .ok (.aload_n 0, 1) := by decide +kernel
theorem dX7_strengths_9 : decode cX7_strengths 9 = .ok (.iconst 5, 1) := by decide +kernel
theorem dX7_strengths_10 : decode cX7_strengths 10 = .ok (.iload_n 1, 1) := by decide +kernel
theorem dX7_strengths_11 : decode cX7_strengths 11 = .ok (.iadd, 1) := by decide +kernel
theorem dX7_strengths_12 : decode cX7_strengths 12 = .ok (.bipush 20, 2) := by decide +kernel
theorem dX7_strengths_14 : decode cX7_strengths 14 = .ok (.invokevirtual 232, 3) := by decide +kernel
theorem dX7_strengths_17 : decode cX7_strengths 17 = .ok (.goto 4, 3) := by decide +kernel
theorem dX7_strengths_20 : decode cX7_strengths 20 = .ok (.iconst (-1), 1) := by decide +kernel
theorem dX7_strengths_21 : decode cX7_strengths 21 = .ok (.ireturn, 1) := by decide +kernel
theorem dX7_ask_0 : decode cX7_ask 0 = .ok (.aload_n 0, 1) := by decide +kernel
theorem dX7_ask_1 : decode cX7_ask 1 = .ok (.iload_n 1, 1) := by decide +kernel
theorem dX7_ask_2 : decode cX7_ask 2 = .ok (.invokevirtual 131, 3) := by decide +kernel
theorem dX7_ask_5 : decode cX7_ask 5 = .ok (.ifCond .eq 13, 3) := by decide +kernel
theorem dX7_ask_8 : decode cX7_ask 8 = .ok (.iload_n 2, 1) := by decide +kernel
theorem dX7_ask_9 : decode cX7_ask 9 = .ok (.i2l, 1) := by decide +kernel
theorem dX7_ask_10 : decode cX7_ask 10 = .ok (.lconst 0, 1) := by decide +kernel
theorem dX7_ask_11 : decode cX7_ask 11 = .ok (.lconst 1, 1) := by decide +kernel
theorem dX7_ask_12 : decode cX7_ask 12 = .ok (.invokestatic 53, 3) := by decide +kernel
theorem dX7_ask_15 : decode cX7_ask 15 = .ok (.ifCond .ne 5, 3) := by decide +kernel
theorem dX7_ask_18 : decode cX7_ask 18 = .ok (.iconst (-1), 1) := by decide +kernel
theorem dX7_ask_19 : decode cX7_ask 19 = .ok (.ireturn, 1) := by decide +kernel
theorem dX7_ask_20 : decode cX7_ask 20 = .ok (.aload_n 0, 1) := by decide +kernel
theorem dX7_ask_21 : decode cX7_ask 21 = .ok (.iconst 5, 1) := by decide +kernel
theorem dX7_ask_22 : decode cX7_ask 22 = .ok (.iload_n 1, 1) := by decide +kernel
theorem dX7_ask_23 : decode cX7_ask 23 = .ok (.iadd, 1) := by decide +kernel
theorem dX7_ask_24 : decode cX7_ask 24 = .ok (.bipush 20, 2) := by decide +kernel
theorem dX7_ask_26 : decode cX7_ask 26 = .ok (.invokevirtual 232, 3) := by decide +kernel
theorem dX7_ask_29 : decode cX7_ask 29 = .ok (.istore_n 3, 1) := by decide +kernel
theorem dX7_ask_30 : decode cX7_ask 30 = .ok (.iconst 0, 1) := by decide +kernel
theorem dX7_ask_31 : decode cX7_ask 31 = .ok (.istore 4, 2) := by decide +kernel
theorem dX7_ask_33 : decode cX7_ask 33 = .ok (.iconst 0, 1) := by decide +kernel
theorem dX7_ask_34 : decode cX7_ask 34 = .ok (.istore 5, 2) := by decide +kernel
theorem dX7_ask_36 : decode cX7_ask 36 = .ok (.iload 5, 2) := by decide +kernel
theorem dX7_ask_38 : decode cX7_ask 38 = .ok (.bipush 20, 2) := by decide +kernel
theorem dX7_ask_40 : decode cX7_ask 40 = .ok (.if_icmp .gt 20, 3) := by decide +kernel
theorem dX7_ask_43 : decode cX7_ask 43 = .ok (.iload 4, 2) := by decide +kernel
theorem dX7_ask_45 : decode cX7_ask 45 = .ok (.iload_n 3, 1) := by decide +kernel
theorem dX7_ask_46 : decode cX7_ask 46 = .ok (.iload 5, 2) := by decide +kernel
theorem dX7_ask_48 : decode cX7_ask 48 = .ok (.ishr, 1) := by decide +kernel
theorem dX7_ask_49 : decode cX7_ask 49 = .ok (.iconst 1, 1) := by decide +kernel
theorem dX7_ask_50 : decode cX7_ask 50 = .ok (.iand, 1) := by decide +kernel
theorem dX7_ask_51 : decode cX7_ask 51 = .ok (.iadd, 1) := by decide +kernel
theorem dX7_ask_52 : decode cX7_ask 52 = .ok (.istore 4, 2) := by decide +kernel
theorem dX7_ask_54 : decode cX7_ask 54 = .ok (.iinc 5 1, 3) := by decide +kernel
theorem dX7_ask_57 : decode cX7_ask 57 = .ok (.goto (-21), 3) := by decide +kernel
theorem dX7_ask_60 : decode cX7_ask 60 = .ok (.bipush (-4), 2) := by decide +kernel
theorem dX7_ask_62 : decode cX7_ask 62 = .ok (.istore 5, 2) := by decide +kernel
theorem dX7_ask_64 : decode cX7_ask 64 = .ok (.iconst 0, 1) := by decide +kernel
theorem dX7_ask_65 : decode cX7_ask 65 = .ok (.istore 6, 2) := by decide +kernel
theorem dX7_ask_67 : decode cX7_ask 67 = .ok (.iload 6, 2) := by decide +kernel
theorem dX7_ask_69 : decode cX7_ask 69 = .ok (.bipush 20, 2) := by decide +kernel
theorem dX7_ask_71 : decode cX7_ask 71 = .ok (.if_icmp .gt 133, 3) := by decide +kernel
theorem dX7_ask_74 : decode cX7_ask 74 = .ok (.iconst 0, 1) := by decide +kernel
theorem dX7_ask_75 : decode cX7_ask 75 = .ok (.istore 7, 2) := by decide +kernel
theorem dX7_ask_77 : decode cX7_ask 77 = .ok (.iconst 0, 1) := by decide +kernel
theorem dX7_ask_78 : decode cX7_ask 78 = .ok (.istore 8, 2) := by decide +kernel
theorem dX7_ask_80 : decode cX7_ask 80 = .ok (.iload 8, 2) := by decide +kernel
theorem dX7_ask_82 : decode cX7_ask 82 = .ok (.bipush 9, 2) := by decide +kernel
theorem dX7_ask_84 : decode cX7_ask 84 = .ok (.if_icmp .gt 82, 3) := by decide +kernel
theorem dX7_ask_87 : decode cX7_ask 87 = .ok (.iconst 0, 1) := by decide +kernel
theorem dX7_ask_88 : decode cX7_ask 88 = .ok (.istore 9, 2) := by decide +kernel
theorem dX7_ask_90 : decode cX7_ask 90 = .ok (.iconst 0, 1) := by decide +kernel
theorem dX7_ask_91 : decode cX7_ask 91 = .ok (.istore 10, 2) := by decide +kernel
theorem dX7_ask_93 : decode cX7_ask 93 = .ok (.iload 10, 2) := by decide +kernel
theorem dX7_ask_95 : decode cX7_ask 95 = .ok (.bipush 20, 2) := by decide +kernel
theorem dX7_ask_97 : decode cX7_ask 97 = .ok (.if_icmp .gt 47, 3) := by decide +kernel
theorem dX7_ask_100 : decode cX7_ask 100 = .ok (.iload 9, 2) := by decide +kernel
theorem dX7_ask_102 : decode cX7_ask 102 = .ok (.iload_n 3, 1) := by decide +kernel
theorem dX7_ask_103 : decode cX7_ask 103 = .ok (.iload 10, 2) := by decide +kernel
theorem dX7_ask_105 : decode cX7_ask 105 = .ok (.ishr, 1) := by decide +kernel
theorem dX7_ask_106 : decode cX7_ask 106 = .ok (.iconst 1, 1) := by decide +kernel
theorem dX7_ask_107 : decode cX7_ask 107 = .ok (.iand, 1) := by decide +kernel
theorem dX7_ask_108 : decode cX7_ask 108 = .ok (.iconst 1, 1) := by decide +kernel
theorem dX7_ask_109 : decode cX7_ask 109 = .ok (.if_icmp .ne 25, 3) := by decide +kernel
theorem dX7_ask_112 : decode cX7_ask 112 = .ok (.aload_n 0, 1) := by decide +kernel
theorem dX7_ask_113 : decode cX7_ask 113 = .ok (.getfield 35, 3) := by decide +kernel
theorem dX7_ask_116 : decode cX7_ask 116 = .ok (.bipush 21, 2) := by decide +kernel
theorem dX7_ask_118 : decode cX7_ask 118 = .ok (.iload 10, 2) := by decide +kernel
theorem dX7_ask_120 : decode cX7_ask 120 = .ok (.imul, 1) := by decide +kernel
theorem dX7_ask_121 : decode cX7_ask 121 = .ok (.iload 6, 2) := by decide +kernel
theorem dX7_ask_123 : decode cX7_ask 123 = .ok (.iadd, 1) := by decide +kernel
theorem dX7_ask_124 : decode cX7_ask 124 = .ok (.iaload, 1) := by decide +kernel
theorem dX7_ask_125 : decode cX7_ask 125 = .ok (.iload 8, 2) := by decide +kernel
theorem dX7_ask_127 : decode cX7_ask 127 = .ok (.if_icmp .ne 7, 3) := by decide +kernel
theorem dX7_ask_130 : decode cX7_ask 130 = .ok (.iconst 1, 1) := by decide +kernel
theorem dX7_ask_131 : decode cX7_ask 131 = .ok (.goto 4, 3) := by decide +kernel
theorem dX7_ask_134 : decode cX7_ask 134 = .ok (.iconst 0, 1) := by decide +kernel
theorem dX7_ask_135 : decode cX7_ask 135 = .ok (.iadd, 1) := by decide +kernel
theorem dX7_ask_136 : decode cX7_ask 136 = .ok (.istore 9, 2) := by decide +kernel
theorem dX7_ask_138 : decode cX7_ask 138 = .ok (.iinc 10 1, 3) := by decide +kernel
theorem dX7_ask_141 : decode cX7_ask 141 = .ok (.goto (-48), 3) := by decide +kernel
theorem dX7_ask_144 : decode cX7_ask 144 = .ok (.iload 9, 2) := by decide +kernel
theorem dX7_ask_146 : decode cX7_ask 146 = .ok (.iload 7, 2) := by decide +kernel
theorem dX7_ask_148 : decode cX7_ask 148 = .ok (.if_icmp .le 8, 3) := by decide +kernel
theorem dX7_ask_151 : decode cX7_ask 151 = .ok (.iload 9, 2) := by decide +kernel
theorem dX7_ask_153 : decode cX7_ask 153 = .ok (.goto 5, 3) := by decide +kernel
theorem dX7_ask_156 : decode cX7_ask 156 = .ok (.iload 7, 2) := by decide +kernel
theorem dX7_ask_158 : decode cX7_ask 158 = .ok (.istore 7, 2) := by decide +kernel
theorem dX7_ask_160 : decode cX7_ask 160 = .ok (.iinc 8 1, 3) := by decide +kernel
theorem dX7_ask_163 : decode cX7_ask 163 = .ok (.goto (-83), 3) := by decide +kernel
theorem dX7_ask_166 : decode cX7_ask 166 = .ok (.iload 7, 2) := by decide +kernel
theorem dX7_ask_168 : decode cX7_ask 168 = .ok (.iload 4, 2) := by decide +kernel
theorem dX7_ask_170 : decode cX7_ask 170 = .ok (.if_icmp .ge 8, 3) := by decide +kernel
theorem dX7_ask_173 : decode cX7_ask 173 = .ok (.iload 6, 2) := by decide +kernel
theorem dX7_ask_175 : decode cX7_ask 175 = .ok (.goto 5, 3) := by decide +kernel
theorem dX7_ask_178 : decode cX7_ask 178 = .ok (.iload 5, 2) := by decide +kernel
theorem dX7_ask_180 : decode cX7_ask 180 = .ok (.istore 5, 2) := by decide +kernel
theorem dX7_ask_182 : decode cX7_ask 182 = .ok (.iload 7, 2) := by decide +kernel
theorem dX7_ask_184 : decode cX7_ask 184 = .ok (.iload 4, 2) := by decide +kernel
theorem dX7_ask_186 : decode cX7_ask 186 = .ok (.if_icmp .ge 8, 3) := by decide +kernel
theorem dX7_ask_189 : decode cX7_ask 189 = .ok (.iload 7, 2) := by decide +kernel
theorem dX7_ask_191 : decode cX7_ask 191 = .ok (.goto 5, 3) := by decide +kernel
theorem dX7_ask_194 : decode cX7_ask 194 = .ok (.iload 4, 2) := by decide +kernel
theorem dX7_ask_196 : decode cX7_ask 196 = .ok (.istore 4, 2) := by decide +kernel
theorem dX7_ask_198 : decode cX7_ask 198 = .ok (.iinc 6 1, 3) := by decide +kernel
theorem dX7_ask_201 : decode cX7_ask 201 = .ok (.goto (-134), 3) := by decide +kernel
theorem dX7_ask_204 : decode cX7_ask 204 = .ok (.iload 5, 2) := by decide +kernel
theorem dX7_ask_206 : decode cX7_ask 206 = .ok (.bipush (-4), 2) := by decide +kernel
theorem dX7_ask_208 : decode cX7_ask 208 = .ok (.if_icmp .eq 7, 3) := by decide +kernel
theorem dX7_ask_211 : decode cX7_ask 211 = .ok (.iload_n 2, 1) := by decide +kernel
theorem dX7_ask_212 : decode cX7_ask 212 = .ok (.ifCond .ne 8, 3) := by decide +kernel
theorem dX7_ask_215 : decode cX7_ask 215 = .ok (.iload 5, 2) := by decide +kernel
theorem dX7_ask_217 : decode cX7_ask 217 = .ok (.goto 5, 3) := by decide +kernel
theorem dX7_ask_220 : decode cX7_ask 220 = .ok (.iload 4, 2) := by decide +kernel
theorem dX7_ask_222 : decode cX7_ask 222 = .ok (.ireturn, 1) := by decide +kernel
theorem dX7_drift_0 : decode cX7_drift 0 = .ok (.iload_n 2, 1) := by decide +kernel
theorem dX7_drift_1 : decode cX7_drift 1 = .ok (.i2l, 1) := by decide +kernel
theorem dX7_drift_2 : decode cX7_drift 2 = .ok (.lconst 1, 1) := by decide +kernel
theorem dX7_drift_3 : decode cX7_drift 3 = .ok (.ldc2_w 199, 3) := by decide +kernel
theorem dX7_drift_6 : decode cX7_drift 6 = .ok (.invokestatic 53, 3) := by decide +kernel
theorem dX7_drift_9 : decode cX7_drift 9 = .ok (.ifCond .eq 13, 3) := by decide +kernel
theorem dX7_drift_12 : decode cX7_drift 12 = .ok (.iload_n 3, 1) := by decide +kernel
theorem dX7_drift_13 : decode cX7_drift 13 = .ok (.i2l, 1) := by decide +kernel
theorem dX7_drift_14 : decode cX7_drift 14 = .ok (.lconst 0, 1) := by decide +kernel
theorem dX7_drift_15 : decode cX7_drift 15 = .ok (.lconst 1, 1) := by decide +kernel
theorem dX7_drift_16 : decode cX7_drift 16 = .ok (.invokestatic 53, 3) := by decide +kernel
theorem dX7_drift_19 : decode cX7_drift 19 = .ok (.ifCond .ne 5, 3) := by decide +kernel
theorem dX7_drift_22 : decode cX7_drift 22 = .ok (.iconst (-1), 1) := by decide +kernel
theorem dX7_drift_23 : decode cX7_drift 23 = .ok (.ireturn, 1) := by decide +kernel
theorem dX7_drift_24 : decode cX7_drift 24 = .ok (.aload_n 0, 1) := by decide +kernel
theorem dX7_drift_25 : decode cX7_drift 25 = .ok (.getfield 125, 3) := by decide +kernel
theorem dX7_drift_28 : decode cX7_drift 28 = .ok (.iconst 2, 1) := by decide +kernel
theorem dX7_drift_29 : decode cX7_drift 29 = .ok (.if_icmp .ge 6, 3) := by decide +kernel
theorem dX7_drift_32 : decode cX7_drift 32 = .ok (.bipush (-2), 2) := by decide +kernel
theorem dX7_drift_34 : decode cX7_drift 34 = .ok (.ireturn, 1) := by decide +kernel
theorem dX7_drift_35 : decode cX7_drift 35 = .ok (.aload_n 0, 1) := by decide +kernel
theorem dX7_drift_36 : decode cX7_drift 36 = .ok (.iconst 0, 1) := by decide +kernel
theorem dX7_drift_37 : decode cX7_drift 37 = .ok (.sipush 168, 3) := by decide +kernel
theorem dX7_drift_40 : decode cX7_drift 40 = .ok (.invokevirtual 195, 3) := by decide +kernel
theorem dX7_drift_43 : decode cX7_drift 43 = .ok (.aload_n 0, 1) := by decide +kernel
theorem dX7_drift_44 : decode cX7_drift 44 = .ok (.iconst 0, 1) := by decide +kernel
theorem dX7_drift_45 : decode cX7_drift 45 = .ok (.putfield 148, 3) := by decide +kernel
theorem dX7_drift_48 : decode cX7_drift 48 = .ok (.iload_n 1, 1) := by decide +kernel
theorem dX7_drift_49 : decode cX7_drift 49 = .ok (.istore 4, 2) := by decide +kernel
theorem dX7_drift_51 : decode cX7_drift 51 = .ok (.iconst 0, 1) := by decide +kernel
theorem dX7_drift_52 : decode cX7_drift 52 = .ok (.istore 5, 2) := by decide +kernel
theorem dX7_drift_54 : decode cX7_drift 54 = .ok (.iload 5, 2) := by decide +kernel
theorem dX7_drift_56 : decode cX7_drift 56 = .ok (.iload_n 2, 1) := by decide +kernel
theorem dX7_drift_57 : decode cX7_drift 57 = .ok (.if_icmp .ge 79, 3) := by decide +kernel
theorem dX7_drift_60 : decode cX7_drift 60 = .ok (.iload 4, 2) := by decide +kernel
theorem dX7_drift_62 : decode cX7_drift 62 = .ok (.ldc 235, 2) := by decide +kernel
theorem dX7_drift_64 : decode cX7_drift 64 = .ok (.imul, 1) := by decide +kernel
theorem dX7_drift_65 : decode cX7_drift 65 = .ok (.sipush 12345, 3) := by decide +kernel
theorem dX7_drift_68 : decode cX7_drift 68 = .ok (.iadd, 1) := by decide +kernel
theorem dX7_drift_69 : decode cX7_drift 69 = .ok (.istore 4, 2) := by decide +kernel
theorem dX7_drift_71 : decode cX7_drift 71 = .ok (.iload 4, 2) := by decide +kernel
theorem dX7_drift_73 : decode cX7_drift 73 = .ok (.bipush 16, 2) := by decide +kernel
theorem dX7_drift_75 : decode cX7_drift 75 = .ok (.ishr, 1) := by decide +kernel
theorem dX7_drift_76 : decode cX7_drift 76 = .ok (.sipush 32767, 3) := by decide +kernel
theorem dX7_drift_79 : decode cX7_drift 79 = .ok (.iand, 1) := by decide +kernel
theorem dX7_drift_80 : decode cX7_drift 80 = .ok (.istore 6, 2) := by decide +kernel
theorem dX7_drift_82 : decode cX7_drift 82 = .ok (.iload 6, 2) := by decide +kernel
theorem dX7_drift_84 : decode cX7_drift 84 = .ok (.aload_n 0, 1) := by decide +kernel
theorem dX7_drift_85 : decode cX7_drift 85 = .ok (.getfield 125, 3) := by decide +kernel
theorem dX7_drift_88 : decode cX7_drift 88 = .ok (.irem, 1) := by decide +kernel
theorem dX7_drift_89 : decode cX7_drift 89 = .ok (.istore 7, 2) := by decide +kernel
theorem dX7_drift_91 : decode cX7_drift 91 = .ok (.aload_n 0, 1) := by decide +kernel
theorem dX7_drift_92 : decode cX7_drift 92 = .ok (.sipush 168, 3) := by decide +kernel
theorem dX7_drift_95 : decode cX7_drift 95 = .ok (.iload 7, 2) := by decide +kernel
theorem dX7_drift_97 : decode cX7_drift 97 = .ok (.iload 7, 2) := by decide +kernel
theorem dX7_drift_99 : decode cX7_drift 99 = .ok (.iconst 1, 1) := by decide +kernel
theorem dX7_drift_100 : decode cX7_drift 100 = .ok (.iadd, 1) := by decide +kernel
theorem dX7_drift_101 : decode cX7_drift 101 = .ok (.iload 6, 2) := by decide +kernel
theorem dX7_drift_103 : decode cX7_drift 103 = .ok (.bipush 8, 2) := by decide +kernel
theorem dX7_drift_105 : decode cX7_drift 105 = .ok (.idiv, 1) := by decide +kernel
theorem dX7_drift_106 : decode cX7_drift 106 = .ok (.aload_n 0, 1) := by decide +kernel
theorem dX7_drift_107 : decode cX7_drift 107 = .ok (.getfield 125, 3) := by decide +kernel
theorem dX7_drift_110 : decode cX7_drift 110 = .ok (.iconst 1, 1) := by decide +kernel
theorem dX7_drift_111 : decode cX7_drift 111 = .ok (.isub, 1) := by decide +kernel
theorem dX7_drift_112 : decode cX7_drift 112 = .ok (.irem, 1) := by decide +kernel
theorem dX7_drift_113 : decode cX7_drift 113 = .ok (.iadd, 1) := by decide +kernel
theorem dX7_drift_114 : decode cX7_drift 114 = .ok (.aload_n 0, 1) := by decide +kernel
theorem dX7_drift_115 : decode cX7_drift 115 = .ok (.getfield 125, 3) := by decide +kernel
theorem dX7_drift_118 : decode cX7_drift 118 = .ok (.irem, 1) := by decide +kernel
theorem dX7_drift_119 : decode cX7_drift 119 = .ok (.invokevirtual 154, 3) := by decide +kernel
theorem dX7_drift_122 : decode cX7_drift 122 = .ok (.aload_n 0, 1) := by decide +kernel
theorem dX7_drift_123 : decode cX7_drift 123 = .ok (.sipush 168, 3) := by decide +kernel
theorem dX7_drift_126 : decode cX7_drift 126 = .ok (.iconst 1, 1) := by decide +kernel
theorem dX7_drift_127 : decode cX7_drift 127 = .ok (.invokevirtual 191, 3) := by decide +kernel
theorem dX7_drift_130 : decode cX7_drift 130 = .ok (.iinc 5 1, 3) := by decide +kernel
theorem dX7_drift_133 : decode cX7_drift 133 = .ok (.goto (-79), 3) := by decide +kernel
theorem dX7_drift_136 : decode cX7_drift 136 = .ok (.iload_n 3, 1) := by decide +kernel
theorem dX7_drift_137 : decode cX7_drift 137 = .ok (.ifCond .ne 13, 3) := by decide +kernel
theorem dX7_drift_140 : decode cX7_drift 140 = .ok (.aload_n 0, 1) := by decide +kernel
theorem dX7_drift_141 : decode cX7_drift 141 = .ok (.sipush 168, 3) := by decide +kernel
theorem dX7_drift_144 : decode cX7_drift 144 = .ok (.invokevirtual 164, 3) := by decide +kernel
theorem dX7_drift_147 : decode cX7_drift 147 = .ok (.goto 7, 3) := by decide +kernel
theorem dX7_drift_150 : decode cX7_drift 150 = .ok (.aload_n 0, 1) := by decide +kernel
theorem dX7_drift_151 : decode cX7_drift 151 = .ok (.getfield 148, 3) := by decide +kernel
theorem dX7_drift_154 : decode cX7_drift 154 = .ok (.ireturn, 1) := by decide +kernel
theorem dX7_keep_0 : decode cX7_keep 0 = .ok (.iload_n 1, 1) := by decide +kernel
theorem dX7_keep_1 : decode cX7_keep 1 = .ok (.i2l, 1) := by decide +kernel
theorem dX7_keep_2 : decode cX7_keep 2 = .ok (.lconst 0, 1) := by decide +kernel
theorem dX7_keep_3 : decode cX7_keep 3 = .ok (.lconst 1, 1) := by decide +kernel
theorem dX7_keep_4 : decode cX7_keep 4 = .ok (.invokestatic 53, 3) := by decide +kernel
theorem dX7_keep_7 : decode cX7_keep 7 = .ok (.ifCond .ne 5, 3) := by decide +kernel
theorem dX7_keep_10 : decode cX7_keep 10 = .ok (.iconst (-1), 1) := by decide +kernel
theorem dX7_keep_11 : decode cX7_keep 11 = .ok (.ireturn, 1) := by decide +kernel
theorem dX7_keep_12 : decode cX7_keep 12 = .ok (.aload_n 0, 1) := by decide +kernel
theorem dX7_keep_13 : decode cX7_keep 13 = .ok (.iconst 0, 1) := by decide +kernel
theorem dX7_keep_14 : decode cX7_keep 14 = .ok (.bipush 42, 2) := by decide +kernel
theorem dX7_keep_16 : decode cX7_keep 16 = .ok (.iload_n 1, 1) := by decide +kernel
theorem dX7_keep_17 : decode cX7_keep 17 = .ok (.iconst 1, 1) := by decide +kernel
theorem dX7_keep_18 : decode cX7_keep 18 = .ok (.iadd, 1) := by decide +kernel
theorem dX7_keep_19 : decode cX7_keep 19 = .ok (.imul, 1) := by decide +kernel
theorem dX7_keep_20 : decode cX7_keep 20 = .ok (.invokevirtual 195, 3) := by decide +kernel
theorem dX7_keep_23 : decode cX7_keep 23 = .ok (.aload_n 0, 1) := by decide +kernel
theorem dX7_keep_24 : decode cX7_keep 24 = .ok (.getfield 38, 3) := by decide +kernel
theorem dX7_keep_27 : decode cX7_keep 27 = .ok (.iload_n 1, 1) := by decide +kernel
theorem dX7_keep_28 : decode cX7_keep 28 = .ok (.baload, 1) := by decide +kernel
theorem dX7_keep_29 : decode cX7_keep 29 = .ok (.ifCond .eq 7, 3) := by decide +kernel
theorem dX7_keep_32 : decode cX7_keep 32 = .ok (.iconst 1, 1) := by decide +kernel
theorem dX7_keep_33 : decode cX7_keep 33 = .ok (.goto 4, 3) := by decide +kernel
theorem dX7_keep_36 : decode cX7_keep 36 = .ok (.iconst 0, 1) := by decide +kernel
theorem dX7_keep_37 : decode cX7_keep 37 = .ok (.istore_n 2, 1) := by decide +kernel
theorem dX7_keep_38 : decode cX7_keep 38 = .ok (.aload_n 0, 1) := by decide +kernel
theorem dX7_keep_39 : decode cX7_keep 39 = .ok (.getfield 38, 3) := by decide +kernel
theorem dX7_keep_42 : decode cX7_keep 42 = .ok (.iload_n 1, 1) := by decide +kernel
theorem dX7_keep_43 : decode cX7_keep 43 = .ok (.iconst 1, 1) := by decide +kernel
theorem dX7_keep_44 : decode cX7_keep 44 = .ok (.bastore, 1) := by decide +kernel
theorem dX7_keep_45 : decode cX7_keep 45 = .ok (.iload_n 2, 1) := by decide +kernel
theorem dX7_keep_46 : decode cX7_keep 46 = .ok (.ireturn, 1) := by decide +kernel
theorem dX7_back_0 : decode cX7_back 0 = .ok (.iload_n 1, 1) := by decide +kernel
theorem dX7_back_1 : decode cX7_back 1 = .ok (.i2l, 1) := by decide +kernel
theorem dX7_back_2 : decode cX7_back 2 = .ok (.lconst 0, 1) := by decide +kernel
theorem dX7_back_3 : decode cX7_back 3 = .ok (.lconst 1, 1) := by decide +kernel
theorem dX7_back_4 : decode cX7_back 4 = .ok (.invokestatic 53, 3) := by decide +kernel
theorem dX7_back_7 : decode cX7_back 7 = .ok (.ifCond .ne 5, 3) := by decide +kernel
theorem dX7_back_10 : decode cX7_back 10 = .ok (.iconst (-1), 1) := by decide +kernel
theorem dX7_back_11 : decode cX7_back 11 = .ok (.ireturn, 1) := by decide +kernel
theorem dX7_back_12 : decode cX7_back 12 = .ok (.aload_n 0, 1) := by decide +kernel
theorem dX7_back_13 : decode cX7_back 13 = .ok (.getfield 38, 3) := by decide +kernel
theorem dX7_back_16 : decode cX7_back 16 = .ok (.iload_n 1, 1) := by decide +kernel
theorem dX7_back_17 : decode cX7_back 17 = .ok (.baload, 1) := by decide +kernel
theorem dX7_back_18 : decode cX7_back 18 = .ok (.ifCond .ne 6, 3) := by decide +kernel
theorem dX7_back_21 : decode cX7_back 21 = .ok (.bipush (-2), 2) := by decide +kernel
theorem dX7_back_23 : decode cX7_back 23 = .ok (.ireturn, 1) := by decide +kernel
theorem dX7_back_24 : decode cX7_back 24 = .ok (.aload_n 0, 1) := by decide +kernel
theorem dX7_back_25 : decode cX7_back 25 = .ok (.bipush 42, 2) := by decide +kernel
theorem dX7_back_27 : decode cX7_back 27 = .ok (.iload_n 1, 1) := by decide +kernel
theorem dX7_back_28 : decode cX7_back 28 = .ok (.iconst 1, 1) := by decide +kernel
theorem dX7_back_29 : decode cX7_back 29 = .ok (.iadd, 1) := by decide +kernel
theorem dX7_back_30 : decode cX7_back 30 = .ok (.imul, 1) := by decide +kernel
theorem dX7_back_31 : decode cX7_back 31 = .ok (.iconst 0, 1) := by decide +kernel
theorem dX7_back_32 : decode cX7_back 32 = .ok (.invokevirtual 195, 3) := by decide +kernel
theorem dX7_back_35 : decode cX7_back 35 = .ok (.aload_n 0, 1) := by decide +kernel
theorem dX7_back_36 : decode cX7_back 36 = .ok (.getfield 7, 3) := by decide +kernel
theorem dX7_back_39 : decode cX7_back 39 = .ok (.bipush 41, 2) := by decide +kernel
theorem dX7_back_41 : decode cX7_back 41 = .ok (.iaload, 1) := by decide +kernel
theorem dX7_back_42 : decode cX7_back 42 = .ok (.ireturn, 1) := by decide +kernel
theorem dX7_sheet_0 : decode cX7_sheet 0 = .ok (.iload_n 1, 1) := by decide +kernel
theorem dX7_sheet_1 : decode cX7_sheet 1 = .ok (.i2l, 1) := by decide +kernel
theorem dX7_sheet_2 : decode cX7_sheet 2 = .ok (.lconst 0, 1) := by decide +kernel
theorem dX7_sheet_3 : decode cX7_sheet 3 = .ok (.ldc2_w 174, 3) := by decide +kernel
theorem dX7_sheet_6 : decode cX7_sheet 6 = .ok (.invokestatic 53, 3) := by decide +kernel
theorem dX7_sheet_9 : decode cX7_sheet 9 = .ok (.ifCond .eq 21, 3) := by decide +kernel
theorem dX7_sheet_12 : decode cX7_sheet 12 = .ok (.iload_n 2, 1) := by decide +kernel
theorem dX7_sheet_13 : decode cX7_sheet 13 = .ok (.i2l, 1) := by decide +kernel
theorem dX7_sheet_14 : decode cX7_sheet 14 = .ok (.lconst 0, 1) := by decide +kernel
theorem dX7_sheet_15 : decode cX7_sheet 15 = .ok (.ldc2_w 204, 3) := by decide +kernel
theorem dX7_sheet_18 : decode cX7_sheet 18 = .ok (.invokestatic 53, 3) := by decide +kernel
theorem dX7_sheet_21 : decode cX7_sheet 21 = .ok (.ifCond .eq 9, 3) := by decide +kernel
theorem dX7_sheet_24 : decode cX7_sheet 24 = .ok (.iload_n 3, 1) := by decide +kernel
theorem dX7_sheet_25 : decode cX7_sheet 25 = .ok (.bipush 40, 2) := by decide +kernel
theorem dX7_sheet_27 : decode cX7_sheet 27 = .ok (.if_icmp .le 5, 3) := by decide +kernel
theorem dX7_sheet_30 : decode cX7_sheet 30 = .ok (.iconst (-1), 1) := by decide +kernel
theorem dX7_sheet_31 : decode cX7_sheet 31 = .ok (.ireturn, 1) := by decide +kernel
theorem dX7_sheet_32 : decode cX7_sheet 32 = .ok (.iload_n 3, 1) := by decide +kernel
theorem dX7_sheet_33 : decode cX7_sheet 33 = .ok (.ifCond .ge 6, 3) := by decide +kernel
theorem dX7_sheet_36 : decode cX7_sheet 36 = .ok (.bipush (-14), 2) := by decide +kernel
theorem dX7_sheet_38 : decode cX7_sheet 38 = .ok (.ireturn, 1) := by decide +kernel
theorem dX7_sheet_39 : decode cX7_sheet 39 = .ok (.aload_n 0, 1) := by decide +kernel
theorem dX7_sheet_40 : decode cX7_sheet 40 = .ok (.getfield 42, 3) := by decide +kernel
theorem dX7_sheet_43 : decode cX7_sheet 43 = .ok (.iload_n 1, 1) := by decide +kernel
theorem dX7_sheet_44 : decode cX7_sheet 44 = .ok (.iload_n 2, 1) := by decide +kernel
theorem dX7_sheet_45 : decode cX7_sheet 45 = .ok (.iastore, 1) := by decide +kernel
theorem dX7_sheet_46 : decode cX7_sheet 46 = .ok (.aload_n 0, 1) := by decide +kernel
theorem dX7_sheet_47 : decode cX7_sheet 47 = .ok (.getfield 45, 3) := by decide +kernel
theorem dX7_sheet_50 : decode cX7_sheet 50 = .ok (.iload_n 1, 1) := by decide +kernel
theorem dX7_sheet_51 : decode cX7_sheet 51 = .ok (.iload_n 3, 1) := by decide +kernel
theorem dX7_sheet_52 : decode cX7_sheet 52 = .ok (.iastore, 1) := by decide +kernel
theorem dX7_sheet_53 : decode cX7_sheet 53 = .ok (.iconst 0, 1) := by decide +kernel
theorem dX7_sheet_54 : decode cX7_sheet 54 = .ok (.istore 4, 2) := by decide +kernel
theorem dX7_sheet_56 : decode cX7_sheet 56 = .ok (.iload 4, 2) := by decide +kernel
theorem dX7_sheet_58 : decode cX7_sheet 58 = .ok (.bipush 40, 2) := by decide +kernel
theorem dX7_sheet_60 : decode cX7_sheet 60 = .ok (.if_icmp .ge 22, 3) := by decide +kernel
theorem dX7_sheet_63 : decode cX7_sheet 63 = .ok (.aload_n 0, 1) := by decide +kernel
theorem dX7_sheet_64 : decode cX7_sheet 64 = .ok (.getfield 48, 3) := by decide +kernel
theorem dX7_sheet_67 : decode cX7_sheet 67 = .ok (.bipush 40, 2) := by decide +kernel
theorem dX7_sheet_69 : decode cX7_sheet 69 = .ok (.iload_n 1, 1) := by decide +kernel
theorem dX7_sheet_70 : decode cX7_sheet 70 = .ok (.imul, 1) := by decide +kernel
theorem dX7_sheet_71 : decode cX7_sheet 71 = .ok (.iload 4, 2) := by decide +kernel
theorem dX7_sheet_73 : decode cX7_sheet 73 = .ok (.iadd, 1) := by decide +kernel
theorem dX7_sheet_74 : decode cX7_sheet 74 = .ok (.iconst 0, 1) := by decide +kernel
theorem dX7_sheet_75 : decode cX7_sheet 75 = .ok (.iastore, 1) := by decide +kernel
theorem dX7_sheet_76 : decode cX7_sheet 76 = .ok (.iinc 4 1, 3) := by decide +kernel
theorem dX7_sheet_79 : decode cX7_sheet 79 = .ok (.goto (-23), 3) := by decide +kernel
theorem dX7_sheet_82 : decode cX7_sheet 82 = .ok (.iconst 1, 1) := by decide +kernel
theorem dX7_sheet_83 : decode cX7_sheet 83 = .ok (.ireturn, 1) := by decide +kernel
theorem dX7_lay_0 : decode cX7_lay 0 = .ok (.iload_n 1, 1) := by decide +kernel
theorem dX7_lay_1 : decode cX7_lay 1 = .ok (.i2l, 1) := by decide +kernel
theorem dX7_lay_2 : decode cX7_lay 2 = .ok (.lconst 0, 1) := by decide +kernel
theorem dX7_lay_3 : decode cX7_lay 3 = .ok (.ldc2_w 174, 3) := by decide +kernel
theorem dX7_lay_6 : decode cX7_lay 6 = .ok (.invokestatic 53, 3) := by decide +kernel
theorem dX7_lay_9 : decode cX7_lay 9 = .ok (.ifCond .ne 5, 3) := by decide +kernel
theorem dX7_lay_12 : decode cX7_lay 12 = .ok (.iconst (-1), 1) := by decide +kernel
theorem dX7_lay_13 : decode cX7_lay 13 = .ok (.ireturn, 1) := by decide +kernel
theorem dX7_lay_14 : decode cX7_lay 14 = .ok (.aload_n 0, 1) := by decide +kernel
theorem dX7_lay_15 : decode cX7_lay 15 = .ok (.getfield 42, 3) := by decide +kernel
theorem dX7_lay_18 : decode cX7_lay 18 = .ok (.iload_n 1, 1) := by decide +kernel
theorem dX7_lay_19 : decode cX7_lay 19 = .ok (.iaload, 1) := by decide +kernel
theorem dX7_lay_20 : decode cX7_lay 20 = .ok (.bipush (-4), 2) := by decide +kernel
theorem dX7_lay_22 : decode cX7_lay 22 = .ok (.if_icmp .ne 6, 3) := by decide +kernel
theorem dX7_lay_25 : decode cX7_lay 25 = .ok (.bipush (-11), 2) := by decide +kernel
theorem dX7_lay_27 : decode cX7_lay 27 = .ok (.ireturn, 1) := by decide +kernel
theorem dX7_lay_28 : decode cX7_lay 28 = .ok (.iload_n 2, 1) := by decide +kernel
theorem dX7_lay_29 : decode cX7_lay 29 = .ok (.i2l, 1) := by decide +kernel
theorem dX7_lay_30 : decode cX7_lay 30 = .ok (.lconst 0, 1) := by decide +kernel
theorem dX7_lay_31 : decode cX7_lay 31 = .ok (.aload_n 0, 1) := by decide +kernel
theorem dX7_lay_32 : decode cX7_lay 32 = .ok (.getfield 45, 3) := by decide +kernel
theorem dX7_lay_35 : decode cX7_lay 35 = .ok (.iload_n 1, 1) := by decide +kernel
theorem dX7_lay_36 : decode cX7_lay 36 = .ok (.iaload, 1) := by decide +kernel
theorem dX7_lay_37 : decode cX7_lay 37 = .ok (.iconst 1, 1) := by decide +kernel
theorem dX7_lay_38 : decode cX7_lay 38 = .ok (.isub, 1) := by decide +kernel
theorem dX7_lay_39 : decode cX7_lay 39 = .ok (.i2l, 1) := by decide +kernel
theorem dX7_lay_40 : decode cX7_lay 40 = .ok (.invokestatic 53, 3) := by decide +kernel
theorem dX7_lay_43 : decode cX7_lay 43 = .ok (.ifCond .ne 6, 3) := by decide +kernel
theorem dX7_lay_46 : decode cX7_lay 46 = .ok (.bipush (-12), 2) := by decide +kernel
theorem dX7_lay_48 : decode cX7_lay 48 = .ok (.ireturn, 1) := by decide +kernel
theorem dX7_lay_49 : decode cX7_lay 49 = .ok (.aload_n 0, 1) := by decide +kernel
theorem dX7_lay_50 : decode cX7_lay 50 = .ok (.getfield 48, 3) := by decide +kernel
theorem dX7_lay_53 : decode cX7_lay 53 = .ok (.bipush 40, 2) := by decide +kernel
theorem dX7_lay_55 : decode cX7_lay 55 = .ok (.iload_n 1, 1) := by decide +kernel
theorem dX7_lay_56 : decode cX7_lay 56 = .ok (.imul, 1) := by decide +kernel
theorem dX7_lay_57 : decode cX7_lay 57 = .ok (.iload_n 2, 1) := by decide +kernel
theorem dX7_lay_58 : decode cX7_lay 58 = .ok (.iadd, 1) := by decide +kernel
theorem dX7_lay_59 : decode cX7_lay 59 = .ok (.aload_n 0, 1) := by decide +kernel
theorem dX7_lay_60 : decode cX7_lay 60 = .ok (.getfield 42, 3) := by decide +kernel
theorem dX7_lay_63 : decode cX7_lay 63 = .ok (.iload_n 1, 1) := by decide +kernel
theorem dX7_lay_64 : decode cX7_lay 64 = .ok (.iaload, 1) := by decide +kernel
theorem dX7_lay_65 : decode cX7_lay 65 = .ok (.ifCond .ne 13, 3) := by decide +kernel
theorem dX7_lay_68 : decode cX7_lay 68 = .ok (.iload_n 3, 1) := by decide +kernel
theorem dX7_lay_69 : decode cX7_lay 69 = .ok (.bipush 24, 2) := by decide +kernel
theorem dX7_lay_71 : decode cX7_lay 71 = .ok (.ishl, 1) := by decide +kernel
theorem dX7_lay_72 : decode cX7_lay 72 = .ok (.bipush 24, 2) := by decide +kernel
theorem dX7_lay_74 : decode cX7_lay 74 = .ok (.ishr, 1) := by decide +kernel
theorem dX7_lay_75 : decode cX7_lay 75 = .ok (.goto 24, 3) := by decide +kernel
theorem dX7_lay_78 : decode cX7_lay 78 = .ok (.aload_n 0, 1) := by decide +kernel
theorem dX7_lay_79 : decode cX7_lay 79 = .ok (.getfield 42, 3) := by decide +kernel
theorem dX7_lay_82 : decode cX7_lay 82 = .ok (.iload_n 1, 1) := by decide +kernel
theorem dX7_lay_83 : decode cX7_lay 83 = .ok (.iaload, 1) := by decide +kernel
theorem dX7_lay_84 : decode cX7_lay 84 = .ok (.iconst 1, 1) := by decide +kernel
theorem dX7_lay_85 : decode cX7_lay 85 = .ok (.if_icmp .ne 13, 3) := by decide +kernel
theorem dX7_lay_88 : decode cX7_lay 88 = .ok (.iload_n 3, 1) := by decide +kernel
theorem dX7_lay_89 : decode cX7_lay 89 = .ok (.bipush 16, 2) := by decide +kernel
theorem dX7_lay_91 : decode cX7_lay 91 = .ok (.ishl, 1) := by decide +kernel
theorem dX7_lay_92 : decode cX7_lay 92 = .ok (.bipush 16, 2) := by decide +kernel
theorem dX7_lay_94 : decode cX7_lay 94 = .ok (.ishr, 1) := by decide +kernel
theorem dX7_lay_95 : decode cX7_lay 95 = .ok (.goto 4, 3) := by decide +kernel
theorem dX7_lay_98 : decode cX7_lay 98 = .ok (.iload_n 3, 1) := by decide +kernel
theorem dX7_lay_99 : decode cX7_lay 99 = .ok (.iastore, 1) := by decide +kernel
theorem dX7_lay_100 : decode cX7_lay 100 = .ok (.iconst 1, 1) := by decide +kernel
theorem dX7_lay_101 : decode cX7_lay 101 = .ok (.ireturn, 1) := by decide +kernel
theorem dX7_read_0 : decode cX7_read 0 = .ok (.iload_n 1, 1) := by decide +kernel
theorem dX7_read_1 : decode cX7_read 1 = .ok (.i2l, 1) := by decide +kernel
theorem dX7_read_2 : decode cX7_read 2 = .ok (.lconst 0, 1) := by decide +kernel
theorem dX7_read_3 : decode cX7_read 3 = .ok (.ldc2_w 174, 3) := by decide +kernel
theorem dX7_read_6 : decode cX7_read 6 = .ok (.invokestatic 53, 3) := by decide +kernel
theorem dX7_read_9 : decode cX7_read 9 = .ok (.ifCond .eq 28, 3) := by decide +kernel
theorem dX7_read_12 : decode cX7_read 12 = .ok (.iload_n 2, 1) := by decide +kernel
theorem dX7_read_13 : decode cX7_read 13 = .ok (.i2l, 1) := by decide +kernel
theorem dX7_read_14 : decode cX7_read 14 = .ok (.lconst 0, 1) := by decide +kernel
theorem dX7_read_15 : decode cX7_read 15 = .ok (.ldc2_w 204, 3) := by decide +kernel
theorem dX7_read_18 : decode cX7_read 18 = .ok (.invokestatic 53, 3) := by decide +kernel
theorem dX7_read_21 : decode cX7_read 21 = .ok (.ifCond .eq 16, 3) := by decide +kernel
theorem dX7_read_24 : decode cX7_read 24 = .ok (.iload 4, 2) := by decide +kernel
theorem dX7_read_26 : decode cX7_read 26 = .ok (.i2l, 1) := by decide +kernel
theorem dX7_read_27 : decode cX7_read 27 = .ok (.lconst 0, 1) := by decide +kernel
theorem dX7_read_28 : decode cX7_read 28 = .ok (.ldc2_w 180, 3) := by decide +kernel
theorem dX7_read_31 : decode cX7_read 31 = .ok (.invokestatic 53, 3) := by decide +kernel
theorem dX7_read_34 : decode cX7_read 34 = .ok (.ifCond .ne 5, 3) := by decide +kernel
theorem dX7_read_37 : decode cX7_read 37 = .ok (.iconst (-1), 1) := by decide +kernel
theorem dX7_read_38 : decode cX7_read 38 = .ok (.ireturn, 1) := by decide +kernel
theorem dX7_read_39 : decode cX7_read 39 = .ok (.aload_n 0, 1) := by decide +kernel
theorem dX7_read_40 : decode cX7_read 40 = .ok (.iconst 0, 1) := by decide +kernel
theorem dX7_read_41 : decode cX7_read 41 = .ok (.bipush 126, 2) := by decide +kernel
theorem dX7_read_43 : decode cX7_read 43 = .ok (.invokevirtual 195, 3) := by decide +kernel
theorem dX7_read_46 : decode cX7_read 46 = .ok (.iconst 0, 1) := by decide +kernel
theorem dX7_read_47 : decode cX7_read 47 = .ok (.istore 5, 2) := by decide +kernel
theorem dX7_read_49 : decode cX7_read 49 = .ok (.iconst 0, 1) := by decide +kernel
theorem dX7_read_50 : decode cX7_read 50 = .ok (.istore 6, 2) := by decide +kernel
theorem dX7_read_52 : decode cX7_read 52 = .ok (.iconst 0, 1) := by decide +kernel
theorem dX7_read_53 : decode cX7_read 53 = .ok (.istore 7, 2) := by decide +kernel
theorem dX7_read_55 : decode cX7_read 55 = .ok (.iload 7, 2) := by decide +kernel
theorem dX7_read_57 : decode cX7_read 57 = .ok (.iconst 2, 1) := by decide +kernel
theorem dX7_read_58 : decode cX7_read 58 = .ok (.iload 4, 2) := by decide +kernel
theorem dX7_read_60 : decode cX7_read 60 = .ok (.imul, 1) := by decide +kernel
theorem dX7_read_61 : decode cX7_read 61 = .ok (.if_icmp .ge 135, 3) := by decide +kernel
theorem dX7_read_64 : decode cX7_read 64 = .ok (.iload 5, 2) := by decide +kernel
theorem dX7_read_66 : decode cX7_read 66 = .ok (.ifCond .ne 130, 3) := by decide +kernel
theorem dX7_read_69 : decode cX7_read 69 = .ok (.aload_n 0, 1) := by decide +kernel
theorem dX7_read_70 : decode cX7_read 70 = .ok (.getfield 42, 3) := by decide +kernel
theorem dX7_read_73 : decode cX7_read 73 = .ok (.iload_n 1, 1) := by decide +kernel
theorem dX7_read_74 : decode cX7_read 74 = .ok (.iaload, 1) := by decide +kernel
theorem dX7_read_75 : decode cX7_read 75 = .ok (.bipush (-4), 2) := by decide +kernel
theorem dX7_read_77 : decode cX7_read 77 = .ok (.if_icmp .ne 7, 3) := by decide +kernel
theorem dX7_read_80 : decode cX7_read 80 = .ok (.iconst 1, 1) := by decide +kernel
theorem dX7_read_81 : decode cX7_read 81 = .ok (.goto 44, 3) := by decide +kernel
theorem dX7_read_84 : decode cX7_read 84 = .ok (.aload_n 0, 1) := by decide +kernel
theorem dX7_read_85 : decode cX7_read 85 = .ok (.getfield 42, 3) := by decide +kernel
theorem dX7_read_88 : decode cX7_read 88 = .ok (.iload_n 1, 1) := by decide +kernel
theorem dX7_read_89 : decode cX7_read 89 = .ok (.iaload, 1) := by decide +kernel
theorem dX7_read_90 : decode cX7_read 90 = .ok (.iload_n 2, 1) := by decide +kernel
theorem dX7_read_91 : decode cX7_read 91 = .ok (.if_icmp .eq 7, 3) := by decide +kernel
theorem dX7_read_94 : decode cX7_read 94 = .ok (.iconst 3, 1) := by decide +kernel
theorem dX7_read_95 : decode cX7_read 95 = .ok (.goto 30, 3) := by decide +kernel
theorem dX7_read_98 : decode cX7_read 98 = .ok (.iload_n 3, 1) := by decide +kernel
theorem dX7_read_99 : decode cX7_read 99 = .ok (.i2l, 1) := by decide +kernel
theorem dX7_read_100 : decode cX7_read 100 = .ok (.iload 7, 2) := by decide +kernel
theorem dX7_read_102 : decode cX7_read 102 = .ok (.i2l, 1) := by decide +kernel
theorem dX7_read_103 : decode cX7_read 103 = .ok (.ladd, 1) := by decide +kernel
theorem dX7_read_104 : decode cX7_read 104 = .ok (.lconst 0, 1) := by decide +kernel
theorem dX7_read_105 : decode cX7_read 105 = .ok (.aload_n 0, 1) := by decide +kernel
theorem dX7_read_106 : decode cX7_read 106 = .ok (.getfield 45, 3) := by decide +kernel
theorem dX7_read_109 : decode cX7_read 109 = .ok (.iload_n 1, 1) := by decide +kernel
theorem dX7_read_110 : decode cX7_read 110 = .ok (.iaload, 1) := by decide +kernel
theorem dX7_read_111 : decode cX7_read 111 = .ok (.iconst 1, 1) := by decide +kernel
theorem dX7_read_112 : decode cX7_read 112 = .ok (.isub, 1) := by decide +kernel
theorem dX7_read_113 : decode cX7_read 113 = .ok (.i2l, 1) := by decide +kernel
theorem dX7_read_114 : decode cX7_read 114 = .ok (.invokestatic 53, 3) := by decide +kernel
theorem dX7_read_117 : decode cX7_read 117 = .ok (.ifCond .ne 7, 3) := by decide +kernel
theorem dX7_read_120 : decode cX7_read 120 = .ok (.iconst 2, 1) := by decide +kernel
theorem dX7_read_121 : decode cX7_read 121 = .ok (.goto 4, 3) := by decide +kernel
theorem dX7_read_124 : decode cX7_read 124 = .ok (.iconst 0, 1) := by decide +kernel
theorem dX7_read_125 : decode cX7_read 125 = .ok (.istore 5, 2) := by decide +kernel
theorem dX7_read_127 : decode cX7_read 127 = .ok (.iload 5, 2) := by decide +kernel
theorem dX7_read_129 : decode cX7_read 129 = .ok (.ifCond .ne 61, 3) := by decide +kernel
theorem dX7_read_132 : decode cX7_read 132 = .ok (.iload 7, 2) := by decide +kernel
theorem dX7_read_134 : decode cX7_read 134 = .ok (.iconst 2, 1) := by decide +kernel
theorem dX7_read_135 : decode cX7_read 135 = .ok (.irem, 1) := by decide +kernel
theorem dX7_read_136 : decode cX7_read 136 = .ok (.iconst 1, 1) := by decide +kernel
theorem dX7_read_137 : decode cX7_read 137 = .ok (.if_icmp .ne 53, 3) := by decide +kernel
theorem dX7_read_140 : decode cX7_read 140 = .ok (.bipush 40, 2) := by decide +kernel
theorem dX7_read_142 : decode cX7_read 142 = .ok (.iload_n 1, 1) := by decide +kernel
theorem dX7_read_143 : decode cX7_read 143 = .ok (.imul, 1) := by decide +kernel
theorem dX7_read_144 : decode cX7_read 144 = .ok (.iload_n 3, 1) := by decide +kernel
theorem dX7_read_145 : decode cX7_read 145 = .ok (.iadd, 1) := by decide +kernel
theorem dX7_read_146 : decode cX7_read 146 = .ok (.iload 7, 2) := by decide +kernel
theorem dX7_read_148 : decode cX7_read 148 = .ok (.iadd, 1) := by decide +kernel
theorem dX7_read_149 : decode cX7_read 149 = .ok (.istore 8, 2) := by decide +kernel
theorem dX7_read_151 : decode cX7_read 151 = .ok (.aload_n 0, 1) := by decide +kernel
theorem dX7_read_152 : decode cX7_read 152 = .ok (.aload_n 0, 1) := by decide +kernel
theorem dX7_read_153 : decode cX7_read 153 = .ok (.getfield 48, 3) := by decide +kernel
theorem dX7_read_156 : decode cX7_read 156 = .ok (.iload 8, 2) := by decide +kernel
theorem dX7_read_158 : decode cX7_read 158 = .ok (.iconst 1, 1) := by decide +kernel
theorem dX7_read_159 : decode cX7_read 159 = .ok (.isub, 1) := by decide +kernel
theorem dX7_read_160 : decode cX7_read 160 = .ok (.iaload, 1) := by decide +kernel
theorem dX7_read_161 : decode cX7_read 161 = .ok (.aload_n 0, 1) := by decide +kernel
theorem dX7_read_162 : decode cX7_read 162 = .ok (.getfield 48, 3) := by decide +kernel
theorem dX7_read_165 : decode cX7_read 165 = .ok (.iload 8, 2) := by decide +kernel
theorem dX7_read_167 : decode cX7_read 167 = .ok (.iaload, 1) := by decide +kernel
theorem dX7_read_168 : decode cX7_read 168 = .ok (.invokevirtual 186, 3) := by decide +kernel
theorem dX7_read_171 : decode cX7_read 171 = .ok (.ifCond .ge 16, 3) := by decide +kernel
theorem dX7_read_174 : decode cX7_read 174 = .ok (.aload_n 0, 1) := by decide +kernel
theorem dX7_read_175 : decode cX7_read 175 = .ok (.bipush 126, 2) := by decide +kernel
theorem dX7_read_177 : decode cX7_read 177 = .ok (.iconst 0, 1) := by decide +kernel
theorem dX7_read_178 : decode cX7_read 178 = .ok (.invokevirtual 195, 3) := by decide +kernel
theorem dX7_read_181 : decode cX7_read 181 = .ok (.bipush (-20), 2) := by decide +kernel
theorem dX7_read_183 : decode cX7_read 183 = .ok (.iload 6, 2) := by decide +kernel
theorem dX7_read_185 : decode cX7_read 185 = .ok (.isub, 1) := by decide +kernel
theorem dX7_read_186 : decode cX7_read 186 = .ok (.ireturn, 1) := by decide +kernel
theorem dX7_read_187 : decode cX7_read 187 = .ok (.iinc 6 1, 3) := by decide +kernel
theorem dX7_read_190 : decode cX7_read 190 = .ok (.iinc 7 1, 3) := by decide +kernel
theorem dX7_read_193 : decode cX7_read 193 = .ok (.goto (-138), 3) := by decide +kernel
theorem dX7_read_196 : decode cX7_read 196 = .ok (.aload_n 0, 1) := by decide +kernel
theorem dX7_read_197 : decode cX7_read 197 = .ok (.iload 5, 2) := by decide +kernel
theorem dX7_read_199 : decode cX7_read 199 = .ok (.putfield 236, 3) := by decide +kernel
theorem dX7_read_202 : decode cX7_read 202 = .ok (.iload 6, 2) := by decide +kernel
theorem dX7_read_204 : decode cX7_read 204 = .ok (.ireturn, 1) := by decide +kernel
theorem dX7_torn_0 : decode cX7_torn 0 = .ok (.aload_n 0, 1) := by decide +kernel
theorem dX7_torn_1 : decode cX7_torn 1 = .ok (.getfield 236, 3) := by decide +kernel
theorem dX7_torn_4 : decode cX7_torn 4 = .ok (.ireturn, 1) := by decide +kernel
theorem dX7_count_0 : decode cX7_count 0 = .ok (.iconst 0, 1) := by decide +kernel
theorem dX7_count_1 : decode cX7_count 1 = .ok (.istore_n 2, 1) := by decide +kernel
theorem dX7_count_2 : decode cX7_count 2 = .ok (.iconst 0, 1) := by decide +kernel
theorem dX7_count_3 : decode cX7_count 3 = .ok (.istore_n 3, 1) := by decide +kernel
theorem dX7_count_4 : decode cX7_count 4 = .ok (.iconst 0, 1) := by decide +kernel
theorem dX7_count_5 : decode cX7_count 5 = .ok (.istore 4, 2) := by decide +kernel
theorem dX7_count_7 : decode cX7_count 7 = .ok (.iload 4, 2) := by decide +kernel
theorem dX7_count_9 : decode cX7_count 9 = .ok (.aload_n 0, 1) := by decide +kernel
theorem dX7_count_10 : decode cX7_count 10 = .ok (.getfield 125, 3) := by decide +kernel
theorem dX7_count_13 : decode cX7_count 13 = .ok (.if_icmp .ge 34, 3) := by decide +kernel
theorem dX7_count_16 : decode cX7_count 16 = .ok (.iload_n 2, 1) := by decide +kernel
theorem dX7_count_17 : decode cX7_count 17 = .ok (.aload_n 0, 1) := by decide +kernel
theorem dX7_count_18 : decode cX7_count 18 = .ok (.getfield 7, 3) := by decide +kernel
theorem dX7_count_21 : decode cX7_count 21 = .ok (.iconst 5, 1) := by decide +kernel
theorem dX7_count_22 : decode cX7_count 22 = .ok (.iload 4, 2) := by decide +kernel
theorem dX7_count_24 : decode cX7_count 24 = .ok (.iadd, 1) := by decide +kernel
theorem dX7_count_25 : decode cX7_count 25 = .ok (.iaload, 1) := by decide +kernel
theorem dX7_count_26 : decode cX7_count 26 = .ok (.iadd, 1) := by decide +kernel
theorem dX7_count_27 : decode cX7_count 27 = .ok (.istore_n 2, 1) := by decide +kernel
theorem dX7_count_28 : decode cX7_count 28 = .ok (.iload_n 3, 1) := by decide +kernel
theorem dX7_count_29 : decode cX7_count 29 = .ok (.aload_n 0, 1) := by decide +kernel
theorem dX7_count_30 : decode cX7_count 30 = .ok (.getfield 7, 3) := by decide +kernel
theorem dX7_count_33 : decode cX7_count 33 = .ok (.bipush 10, 2) := by decide +kernel
theorem dX7_count_35 : decode cX7_count 35 = .ok (.iload 4, 2) := by decide +kernel
theorem dX7_count_37 : decode cX7_count 37 = .ok (.iadd, 1) := by decide +kernel
theorem dX7_count_38 : decode cX7_count 38 = .ok (.iaload, 1) := by decide +kernel
theorem dX7_count_39 : decode cX7_count 39 = .ok (.iadd, 1) := by decide +kernel
theorem dX7_count_40 : decode cX7_count 40 = .ok (.istore_n 3, 1) := by decide +kernel
theorem dX7_count_41 : decode cX7_count 41 = .ok (.iinc 4 1, 3) := by decide +kernel
theorem dX7_count_44 : decode cX7_count 44 = .ok (.goto (-37), 3) := by decide +kernel
theorem dX7_count_47 : decode cX7_count 47 = .ok (.iload_n 1, 1) := by decide +kernel
theorem dX7_count_48 : decode cX7_count 48 = .ok (.tableswitch 107 0 5 #[40, 45, 75, 80, 103, 105], 40) := by decide +kernel
theorem dX7_count_88 : decode cX7_count 88 = .ok (.aload_n 0, 1) := by decide +kernel
theorem dX7_count_89 : decode cX7_count 89 = .ok (.getfield 128, 3) := by decide +kernel
theorem dX7_count_92 : decode cX7_count 92 = .ok (.ireturn, 1) := by decide +kernel
theorem dX7_count_93 : decode cX7_count 93 = .ok (.aload_n 0, 1) := by decide +kernel
theorem dX7_count_94 : decode cX7_count 94 = .ok (.getfield 38, 3) := by decide +kernel
theorem dX7_count_97 : decode cX7_count 97 = .ok (.iconst 0, 1) := by decide +kernel
theorem dX7_count_98 : decode cX7_count 98 = .ok (.baload, 1) := by decide +kernel
theorem dX7_count_99 : decode cX7_count 99 = .ok (.ifCond .eq 7, 3) := by decide +kernel
theorem dX7_count_102 : decode cX7_count 102 = .ok (.iconst 1, 1) := by decide +kernel
theorem dX7_count_103 : decode cX7_count 103 = .ok (.goto 4, 3) := by decide +kernel
theorem dX7_count_106 : decode cX7_count 106 = .ok (.iconst 0, 1) := by decide +kernel
theorem dX7_count_107 : decode cX7_count 107 = .ok (.aload_n 0, 1) := by decide +kernel
theorem dX7_count_108 : decode cX7_count 108 = .ok (.getfield 38, 3) := by decide +kernel
theorem dX7_count_111 : decode cX7_count 111 = .ok (.iconst 1, 1) := by decide +kernel
theorem dX7_count_112 : decode cX7_count 112 = .ok (.baload, 1) := by decide +kernel
theorem dX7_count_113 : decode cX7_count 113 = .ok (.ifCond .eq 7, 3) := by decide +kernel
theorem dX7_count_116 : decode cX7_count 116 = .ok (.iconst 1, 1) := by decide +kernel
theorem dX7_count_117 : decode cX7_count 117 = .ok (.goto 4, 3) := by decide +kernel
theorem dX7_count_120 : decode cX7_count 120 = .ok (.iconst 0, 1) := by decide +kernel
theorem dX7_count_121 : decode cX7_count 121 = .ok (.iadd, 1) := by decide +kernel
theorem dX7_count_122 : decode cX7_count 122 = .ok (.ireturn, 1) := by decide +kernel
theorem dX7_count_123 : decode cX7_count 123 = .ok (.aload_n 0, 1) := by decide +kernel
theorem dX7_count_124 : decode cX7_count 124 = .ok (.getfield 57, 3) := by decide +kernel
theorem dX7_count_127 : decode cX7_count 127 = .ok (.ireturn, 1) := by decide +kernel
theorem dX7_count_128 : decode cX7_count 128 = .ok (.aload_n 0, 1) := by decide +kernel
theorem dX7_count_129 : decode cX7_count 129 = .ok (.getfield 42, 3) := by decide +kernel
theorem dX7_count_132 : decode cX7_count 132 = .ok (.iconst 0, 1) := by decide +kernel
theorem dX7_count_133 : decode cX7_count 133 = .ok (.iaload, 1) := by decide +kernel
theorem dX7_count_134 : decode cX7_count 134 = .ok (.bipush (-4), 2) := by decide +kernel
theorem dX7_count_136 : decode cX7_count 136 = .ok (.if_icmp .ne 8, 3) := by decide +kernel
theorem dX7_count_139 : decode cX7_count 139 = .ok (.bipush (-4), 2) := by decide +kernel
theorem dX7_count_141 : decode cX7_count 141 = .ok (.goto 9, 3) := by decide +kernel
theorem dX7_count_144 : decode cX7_count 144 = .ok (.aload_n 0, 1) := by decide +kernel
theorem dX7_count_145 : decode cX7_count 145 = .ok (.getfield 45, 3) := by decide +kernel
theorem dX7_count_148 : decode cX7_count 148 = .ok (.iconst 0, 1) := by decide +kernel
theorem dX7_count_149 : decode cX7_count 149 = .ok (.iaload, 1) := by decide +kernel
theorem dX7_count_150 : decode cX7_count 150 = .ok (.ireturn, 1) := by decide +kernel
theorem dX7_count_151 : decode cX7_count 151 = .ok (.iload_n 2, 1) := by decide +kernel
theorem dX7_count_152 : decode cX7_count 152 = .ok (.ireturn, 1) := by decide +kernel
theorem dX7_count_153 : decode cX7_count 153 = .ok (.iload_n 3, 1) := by decide +kernel
theorem dX7_count_154 : decode cX7_count 154 = .ok (.ireturn, 1) := by decide +kernel
theorem dX7_count_155 : decode cX7_count 155 = .ok (.iconst (-1), 1) := by decide +kernel
theorem dX7_count_156 : decode cX7_count 156 = .ok (.ireturn, 1) := by decide +kernel
end
section
theorem dL_law_0 : decode cL_law 0 = .ok (.new 7, 3) := by decide +kernel
theorem dL_law_3 : decode cL_law 3 = .ok (.dup, 1) := by decide +kernel
theorem dL_law_4 : decode cL_law 4 = .ok (.invokespecial 9, 3) := by decide +kernel
theorem dL_law_7 : decode cL_law 7 = .ok (.astore_n 1, 1) := by decide +kernel
theorem dL_law_8 : decode cL_law 8 = .ok (.new 10, 3) := by decide +kernel
theorem dL_law_11 : decode cL_law 11 = .ok (.dup, 1) := by decide +kernel
theorem dL_law_12 : decode cL_law 12 = .ok (.invokespecial 12, 3) := by decide +kernel
theorem dL_law_15 : decode cL_law 15 = .ok (.astore_n 2, 1) := by decide +kernel
theorem dL_law_16 : decode cL_law 16 = .ok (.iconst 0, 1) := by decide +kernel
theorem dL_law_17 : decode cL_law 17 = .ok (.istore_n 3, 1) := by decide +kernel
theorem dL_law_18 : decode cL_law 18 = .ok (.iload_n 3, 1) := by decide +kernel
theorem dL_law_19 : decode cL_law 19 = .ok (.aload_n 0, 1) := by decide +kernel
theorem dL_law_20 : decode cL_law 20 = .ok (.arraylength, 1) := by decide +kernel
theorem dL_law_21 : decode cL_law 21 = .ok (.iconst 5, 1) := by decide +kernel
theorem dL_law_22 : decode cL_law 22 = .ok (.isub, 1) := by decide +kernel
theorem dL_law_23 : decode cL_law 23 = .ok (.if_icmp .gt 1359, 3) := by decide +kernel
theorem dL_law_26 : decode cL_law 26 = .ok (.aload_n 0, 1) := by decide +kernel
theorem dL_law_27 : decode cL_law 27 = .ok (.iload_n 3, 1) := by decide +kernel
theorem dL_law_28 : decode cL_law 28 = .ok (.iaload, 1) := by decide +kernel
theorem dL_law_29 : decode cL_law 29 = .ok (.bipush 63, 2) := by decide +kernel
theorem dL_law_31 : decode cL_law 31 = .ok (.iand, 1) := by decide +kernel
theorem dL_law_32 : decode cL_law 32 = .ok (.tableswitch 1344 0 37 #[168, 191, 214, 227, 240, 263, 296, 329, 362, 405, 448, 481, 504, 527, 560, 603, 626, 649, 672, 705, 738, 771, 804, 847, 901, 945, 978, 1001, 1024, 1047, 1080, 1123, 1146, 1169, 1212, 1255, 1308, 1321], 168) := by decide +kernel
theorem dL_law_200 : decode cL_law 200 = .ok (.aload_n 1, 1) := by decide +kernel
theorem dL_law_201 : decode cL_law 201 = .ok (.aload_n 0, 1) := by decide +kernel
theorem dL_law_202 : decode cL_law 202 = .ok (.iload_n 3, 1) := by decide +kernel
theorem dL_law_203 : decode cL_law 203 = .ok (.iconst 1, 1) := by decide +kernel
theorem dL_law_204 : decode cL_law 204 = .ok (.iadd, 1) := by decide +kernel
theorem dL_law_205 : decode cL_law 205 = .ok (.iaload, 1) := by decide +kernel
theorem dL_law_206 : decode cL_law 206 = .ok (.invokevirtual 13, 3) := by decide +kernel
theorem dL_law_209 : decode cL_law 209 = .ok (.aload_n 2, 1) := by decide +kernel
theorem dL_law_210 : decode cL_law 210 = .ok (.aload_n 0, 1) := by decide +kernel
theorem dL_law_211 : decode cL_law 211 = .ok (.iload_n 3, 1) := by decide +kernel
theorem dL_law_212 : decode cL_law 212 = .ok (.iconst 1, 1) := by decide +kernel
theorem dL_law_213 : decode cL_law 213 = .ok (.iadd, 1) := by decide +kernel
theorem dL_law_214 : decode cL_law 214 = .ok (.iaload, 1) := by decide +kernel
theorem dL_law_215 : decode cL_law 215 = .ok (.invokevirtual 17, 3) := by decide +kernel
theorem dL_law_218 : decode cL_law 218 = .ok (.if_icmp .eq 1158, 3) := by decide +kernel
theorem dL_law_221 : decode cL_law 221 = .ok (.iconst 0, 1) := by decide +kernel
theorem dL_law_222 : decode cL_law 222 = .ok (.ireturn, 1) := by decide +kernel
theorem dL_law_223 : decode cL_law 223 = .ok (.aload_n 1, 1) := by decide +kernel
theorem dL_law_224 : decode cL_law 224 = .ok (.aload_n 0, 1) := by decide +kernel
theorem dL_law_225 : decode cL_law 225 = .ok (.iload_n 3, 1) := by decide +kernel
theorem dL_law_226 : decode cL_law 226 = .ok (.iconst 1, 1) := by decide +kernel
theorem dL_law_227 : decode cL_law 227 = .ok (.iadd, 1) := by decide +kernel
theorem dL_law_228 : decode cL_law 228 = .ok (.iaload, 1) := by decide +kernel
theorem dL_law_229 : decode cL_law 229 = .ok (.invokevirtual 18, 3) := by decide +kernel
theorem dL_law_232 : decode cL_law 232 = .ok (.aload_n 2, 1) := by decide +kernel
theorem dL_law_233 : decode cL_law 233 = .ok (.aload_n 0, 1) := by decide +kernel
theorem dL_law_234 : decode cL_law 234 = .ok (.iload_n 3, 1) := by decide +kernel
theorem dL_law_235 : decode cL_law 235 = .ok (.iconst 1, 1) := by decide +kernel
theorem dL_law_236 : decode cL_law 236 = .ok (.iadd, 1) := by decide +kernel
theorem dL_law_237 : decode cL_law 237 = .ok (.iaload, 1) := by decide +kernel
theorem dL_law_238 : decode cL_law 238 = .ok (.invokevirtual 21, 3) := by decide +kernel
theorem dL_law_241 : decode cL_law 241 = .ok (.if_icmp .eq 1135, 3) := by decide +kernel
theorem dL_law_244 : decode cL_law 244 = .ok (.iconst 0, 1) := by decide +kernel
theorem dL_law_245 : decode cL_law 245 = .ok (.ireturn, 1) := by decide +kernel
theorem dL_law_246 : decode cL_law 246 = .ok (.aload_n 1, 1) := by decide +kernel
theorem dL_law_247 : decode cL_law 247 = .ok (.invokevirtual 22, 3) := by decide +kernel
theorem dL_law_250 : decode cL_law 250 = .ok (.aload_n 2, 1) := by decide +kernel
theorem dL_law_251 : decode cL_law 251 = .ok (.invokevirtual 26, 3) := by decide +kernel
theorem dL_law_254 : decode cL_law 254 = .ok (.if_icmp .eq 1122, 3) := by decide +kernel
theorem dL_law_257 : decode cL_law 257 = .ok (.iconst 0, 1) := by decide +kernel
theorem dL_law_258 : decode cL_law 258 = .ok (.ireturn, 1) := by decide +kernel
theorem dL_law_259 : decode cL_law 259 = .ok (.aload_n 1, 1) := by decide +kernel
theorem dL_law_260 : decode cL_law 260 = .ok (.invokevirtual 27, 3) := by decide +kernel
theorem dL_law_263 : decode cL_law 263 = .ok (.aload_n 2, 1) := by decide +kernel
theorem dL_law_264 : decode cL_law 264 = .ok (.invokevirtual 30, 3) := by decide +kernel
theorem dL_law_267 : decode cL_law 267 = .ok (.if_icmp .eq 1109, 3) := by decide +kernel
theorem dL_law_270 : decode cL_law 270 = .ok (.iconst 0, 1) := by decide +kernel
theorem dL_law_271 : decode cL_law 271 = .ok (.ireturn, 1) := by decide +kernel
theorem dL_law_272 : decode cL_law 272 = .ok (.aload_n 1, 1) := by decide +kernel
theorem dL_law_273 : decode cL_law 273 = .ok (.aload_n 0, 1) := by decide +kernel
theorem dL_law_274 : decode cL_law 274 = .ok (.iload_n 3, 1) := by decide +kernel
theorem dL_law_275 : decode cL_law 275 = .ok (.iconst 1, 1) := by decide +kernel
theorem dL_law_276 : decode cL_law 276 = .ok (.iadd, 1) := by decide +kernel
theorem dL_law_277 : decode cL_law 277 = .ok (.iaload, 1) := by decide +kernel
theorem dL_law_278 : decode cL_law 278 = .ok (.invokevirtual 31, 3) := by decide +kernel
theorem dL_law_281 : decode cL_law 281 = .ok (.aload_n 2, 1) := by decide +kernel
theorem dL_law_282 : decode cL_law 282 = .ok (.aload_n 0, 1) := by decide +kernel
theorem dL_law_283 : decode cL_law 283 = .ok (.iload_n 3, 1) := by decide +kernel
theorem dL_law_284 : decode cL_law 284 = .ok (.iconst 1, 1) := by decide +kernel
theorem dL_law_285 : decode cL_law 285 = .ok (.iadd, 1) := by decide +kernel
theorem dL_law_286 : decode cL_law 286 = .ok (.iaload, 1) := by decide +kernel
theorem dL_law_287 : decode cL_law 287 = .ok (.invokevirtual 34, 3) := by decide +kernel
theorem dL_law_290 : decode cL_law 290 = .ok (.if_icmp .eq 1086, 3) := by decide +kernel
theorem dL_law_293 : decode cL_law 293 = .ok (.iconst 0, 1) := by decide +kernel
theorem dL_law_294 : decode cL_law 294 = .ok (.ireturn, 1) := by decide +kernel
theorem dL_law_295 : decode cL_law 295 = .ok (.aload_n 1, 1) := by decide +kernel
theorem dL_law_296 : decode cL_law 296 = .ok (.aload_n 0, 1) := by decide +kernel
theorem dL_law_297 : decode cL_law 297 = .ok (.iload_n 3, 1) := by decide +kernel
theorem dL_law_298 : decode cL_law 298 = .ok (.iconst 1, 1) := by decide +kernel
theorem dL_law_299 : decode cL_law 299 = .ok (.iadd, 1) := by decide +kernel
theorem dL_law_300 : decode cL_law 300 = .ok (.iaload, 1) := by decide +kernel
theorem dL_law_301 : decode cL_law 301 = .ok (.aload_n 0, 1) := by decide +kernel
theorem dL_law_302 : decode cL_law 302 = .ok (.iload_n 3, 1) := by decide +kernel
theorem dL_law_303 : decode cL_law 303 = .ok (.iconst 2, 1) := by decide +kernel
theorem dL_law_304 : decode cL_law 304 = .ok (.iadd, 1) := by decide +kernel
theorem dL_law_305 : decode cL_law 305 = .ok (.iaload, 1) := by decide +kernel
theorem dL_law_306 : decode cL_law 306 = .ok (.invokevirtual 35, 3) := by decide +kernel
theorem dL_law_309 : decode cL_law 309 = .ok (.aload_n 2, 1) := by decide +kernel
theorem dL_law_310 : decode cL_law 310 = .ok (.aload_n 0, 1) := by decide +kernel
theorem dL_law_311 : decode cL_law 311 = .ok (.iload_n 3, 1) := by decide +kernel
theorem dL_law_312 : decode cL_law 312 = .ok (.iconst 1, 1) := by decide +kernel
theorem dL_law_313 : decode cL_law 313 = .ok (.iadd, 1) := by decide +kernel
theorem dL_law_314 : decode cL_law 314 = .ok (.iaload, 1) := by decide +kernel
theorem dL_law_315 : decode cL_law 315 = .ok (.aload_n 0, 1) := by decide +kernel
theorem dL_law_316 : decode cL_law 316 = .ok (.iload_n 3, 1) := by decide +kernel
theorem dL_law_317 : decode cL_law 317 = .ok (.iconst 2, 1) := by decide +kernel
theorem dL_law_318 : decode cL_law 318 = .ok (.iadd, 1) := by decide +kernel
theorem dL_law_319 : decode cL_law 319 = .ok (.iaload, 1) := by decide +kernel
theorem dL_law_320 : decode cL_law 320 = .ok (.invokevirtual 39, 3) := by decide +kernel
theorem dL_law_323 : decode cL_law 323 = .ok (.if_icmp .eq 1053, 3) := by decide +kernel
theorem dL_law_326 : decode cL_law 326 = .ok (.iconst 0, 1) := by decide +kernel
theorem dL_law_327 : decode cL_law 327 = .ok (.ireturn, 1) := by decide +kernel
theorem dL_law_328 : decode cL_law 328 = .ok (.aload_n 1, 1) := by decide +kernel
theorem dL_law_329 : decode cL_law 329 = .ok (.aload_n 0, 1) := by decide +kernel
theorem dL_law_330 : decode cL_law 330 = .ok (.iload_n 3, 1) := by decide +kernel
theorem dL_law_331 : decode cL_law 331 = .ok (.iconst 1, 1) := by decide +kernel
theorem dL_law_332 : decode cL_law 332 = .ok (.iadd, 1) := by decide +kernel
theorem dL_law_333 : decode cL_law 333 = .ok (.iaload, 1) := by decide +kernel
theorem dL_law_334 : decode cL_law 334 = .ok (.aload_n 0, 1) := by decide +kernel
theorem dL_law_335 : decode cL_law 335 = .ok (.iload_n 3, 1) := by decide +kernel
theorem dL_law_336 : decode cL_law 336 = .ok (.iconst 2, 1) := by decide +kernel
theorem dL_law_337 : decode cL_law 337 = .ok (.iadd, 1) := by decide +kernel
theorem dL_law_338 : decode cL_law 338 = .ok (.iaload, 1) := by decide +kernel
theorem dL_law_339 : decode cL_law 339 = .ok (.invokevirtual 40, 3) := by decide +kernel
theorem dL_law_342 : decode cL_law 342 = .ok (.aload_n 2, 1) := by decide +kernel
theorem dL_law_343 : decode cL_law 343 = .ok (.aload_n 0, 1) := by decide +kernel
theorem dL_law_344 : decode cL_law 344 = .ok (.iload_n 3, 1) := by decide +kernel
theorem dL_law_345 : decode cL_law 345 = .ok (.iconst 1, 1) := by decide +kernel
theorem dL_law_346 : decode cL_law 346 = .ok (.iadd, 1) := by decide +kernel
theorem dL_law_347 : decode cL_law 347 = .ok (.iaload, 1) := by decide +kernel
theorem dL_law_348 : decode cL_law 348 = .ok (.aload_n 0, 1) := by decide +kernel
theorem dL_law_349 : decode cL_law 349 = .ok (.iload_n 3, 1) := by decide +kernel
theorem dL_law_350 : decode cL_law 350 = .ok (.iconst 2, 1) := by decide +kernel
theorem dL_law_351 : decode cL_law 351 = .ok (.iadd, 1) := by decide +kernel
theorem dL_law_352 : decode cL_law 352 = .ok (.iaload, 1) := by decide +kernel
theorem dL_law_353 : decode cL_law 353 = .ok (.invokevirtual 43, 3) := by decide +kernel
theorem dL_law_356 : decode cL_law 356 = .ok (.if_icmp .eq 1020, 3) := by decide +kernel
theorem dL_law_359 : decode cL_law 359 = .ok (.iconst 0, 1) := by decide +kernel
theorem dL_law_360 : decode cL_law 360 = .ok (.ireturn, 1) := by decide +kernel
theorem dL_law_361 : decode cL_law 361 = .ok (.aload_n 1, 1) := by decide +kernel
theorem dL_law_362 : decode cL_law 362 = .ok (.aload_n 0, 1) := by decide +kernel
theorem dL_law_363 : decode cL_law 363 = .ok (.iload_n 3, 1) := by decide +kernel
theorem dL_law_364 : decode cL_law 364 = .ok (.iconst 1, 1) := by decide +kernel
theorem dL_law_365 : decode cL_law 365 = .ok (.iadd, 1) := by decide +kernel
theorem dL_law_366 : decode cL_law 366 = .ok (.iaload, 1) := by decide +kernel
theorem dL_law_367 : decode cL_law 367 = .ok (.aload_n 0, 1) := by decide +kernel
theorem dL_law_368 : decode cL_law 368 = .ok (.iload_n 3, 1) := by decide +kernel
theorem dL_law_369 : decode cL_law 369 = .ok (.iconst 2, 1) := by decide +kernel
theorem dL_law_370 : decode cL_law 370 = .ok (.iadd, 1) := by decide +kernel
theorem dL_law_371 : decode cL_law 371 = .ok (.iaload, 1) := by decide +kernel
theorem dL_law_372 : decode cL_law 372 = .ok (.invokevirtual 44, 3) := by decide +kernel
theorem dL_law_375 : decode cL_law 375 = .ok (.aload_n 2, 1) := by decide +kernel
theorem dL_law_376 : decode cL_law 376 = .ok (.aload_n 0, 1) := by decide +kernel
theorem dL_law_377 : decode cL_law 377 = .ok (.iload_n 3, 1) := by decide +kernel
theorem dL_law_378 : decode cL_law 378 = .ok (.iconst 1, 1) := by decide +kernel
theorem dL_law_379 : decode cL_law 379 = .ok (.iadd, 1) := by decide +kernel
theorem dL_law_380 : decode cL_law 380 = .ok (.iaload, 1) := by decide +kernel
theorem dL_law_381 : decode cL_law 381 = .ok (.aload_n 0, 1) := by decide +kernel
theorem dL_law_382 : decode cL_law 382 = .ok (.iload_n 3, 1) := by decide +kernel
theorem dL_law_383 : decode cL_law 383 = .ok (.iconst 2, 1) := by decide +kernel
theorem dL_law_384 : decode cL_law 384 = .ok (.iadd, 1) := by decide +kernel
theorem dL_law_385 : decode cL_law 385 = .ok (.iaload, 1) := by decide +kernel
theorem dL_law_386 : decode cL_law 386 = .ok (.invokevirtual 47, 3) := by decide +kernel
theorem dL_law_389 : decode cL_law 389 = .ok (.if_icmp .eq 987, 3) := by decide +kernel
theorem dL_law_392 : decode cL_law 392 = .ok (.iconst 0, 1) := by decide +kernel
theorem dL_law_393 : decode cL_law 393 = .ok (.ireturn, 1) := by decide +kernel
theorem dL_law_394 : decode cL_law 394 = .ok (.aload_n 1, 1) := by decide +kernel
theorem dL_law_395 : decode cL_law 395 = .ok (.aload_n 0, 1) := by decide +kernel
theorem dL_law_396 : decode cL_law 396 = .ok (.iload_n 3, 1) := by decide +kernel
theorem dL_law_397 : decode cL_law 397 = .ok (.iconst 1, 1) := by decide +kernel
theorem dL_law_398 : decode cL_law 398 = .ok (.iadd, 1) := by decide +kernel
theorem dL_law_399 : decode cL_law 399 = .ok (.iaload, 1) := by decide +kernel
theorem dL_law_400 : decode cL_law 400 = .ok (.aload_n 0, 1) := by decide +kernel
theorem dL_law_401 : decode cL_law 401 = .ok (.iload_n 3, 1) := by decide +kernel
theorem dL_law_402 : decode cL_law 402 = .ok (.iconst 2, 1) := by decide +kernel
theorem dL_law_403 : decode cL_law 403 = .ok (.iadd, 1) := by decide +kernel
theorem dL_law_404 : decode cL_law 404 = .ok (.iaload, 1) := by decide +kernel
theorem dL_law_405 : decode cL_law 405 = .ok (.aload_n 0, 1) := by decide +kernel
theorem dL_law_406 : decode cL_law 406 = .ok (.iload_n 3, 1) := by decide +kernel
theorem dL_law_407 : decode cL_law 407 = .ok (.iconst 3, 1) := by decide +kernel
theorem dL_law_408 : decode cL_law 408 = .ok (.iadd, 1) := by decide +kernel
theorem dL_law_409 : decode cL_law 409 = .ok (.iaload, 1) := by decide +kernel
theorem dL_law_410 : decode cL_law 410 = .ok (.invokevirtual 48, 3) := by decide +kernel
theorem dL_law_413 : decode cL_law 413 = .ok (.aload_n 2, 1) := by decide +kernel
theorem dL_law_414 : decode cL_law 414 = .ok (.aload_n 0, 1) := by decide +kernel
theorem dL_law_415 : decode cL_law 415 = .ok (.iload_n 3, 1) := by decide +kernel
theorem dL_law_416 : decode cL_law 416 = .ok (.iconst 1, 1) := by decide +kernel
theorem dL_law_417 : decode cL_law 417 = .ok (.iadd, 1) := by decide +kernel
theorem dL_law_418 : decode cL_law 418 = .ok (.iaload, 1) := by decide +kernel
theorem dL_law_419 : decode cL_law 419 = .ok (.aload_n 0, 1) := by decide +kernel
theorem dL_law_420 : decode cL_law 420 = .ok (.iload_n 3, 1) := by decide +kernel
theorem dL_law_421 : decode cL_law 421 = .ok (.iconst 2, 1) := by decide +kernel
theorem dL_law_422 : decode cL_law 422 = .ok (.iadd, 1) := by decide +kernel
theorem dL_law_423 : decode cL_law 423 = .ok (.iaload, 1) := by decide +kernel
theorem dL_law_424 : decode cL_law 424 = .ok (.aload_n 0, 1) := by decide +kernel
theorem dL_law_425 : decode cL_law 425 = .ok (.iload_n 3, 1) := by decide +kernel
theorem dL_law_426 : decode cL_law 426 = .ok (.iconst 3, 1) := by decide +kernel
theorem dL_law_427 : decode cL_law 427 = .ok (.iadd, 1) := by decide +kernel
theorem dL_law_428 : decode cL_law 428 = .ok (.iaload, 1) := by decide +kernel
theorem dL_law_429 : decode cL_law 429 = .ok (.invokevirtual 52, 3) := by decide +kernel
theorem dL_law_432 : decode cL_law 432 = .ok (.if_icmp .eq 944, 3) := by decide +kernel
theorem dL_law_435 : decode cL_law 435 = .ok (.iconst 0, 1) := by decide +kernel
theorem dL_law_436 : decode cL_law 436 = .ok (.ireturn, 1) := by decide +kernel
theorem dL_law_437 : decode cL_law 437 = .ok (.aload_n 1, 1) := by decide +kernel
theorem dL_law_438 : decode cL_law 438 = .ok (.aload_n 0, 1) := by decide +kernel
theorem dL_law_439 : decode cL_law 439 = .ok (.iload_n 3, 1) := by decide +kernel
theorem dL_law_440 : decode cL_law 440 = .ok (.iconst 1, 1) := by decide +kernel
theorem dL_law_441 : decode cL_law 441 = .ok (.iadd, 1) := by decide +kernel
theorem dL_law_442 : decode cL_law 442 = .ok (.iaload, 1) := by decide +kernel
theorem dL_law_443 : decode cL_law 443 = .ok (.aload_n 0, 1) := by decide +kernel
theorem dL_law_444 : decode cL_law 444 = .ok (.iload_n 3, 1) := by decide +kernel
theorem dL_law_445 : decode cL_law 445 = .ok (.iconst 2, 1) := by decide +kernel
theorem dL_law_446 : decode cL_law 446 = .ok (.iadd, 1) := by decide +kernel
theorem dL_law_447 : decode cL_law 447 = .ok (.iaload, 1) := by decide +kernel
theorem dL_law_448 : decode cL_law 448 = .ok (.aload_n 0, 1) := by decide +kernel
theorem dL_law_449 : decode cL_law 449 = .ok (.iload_n 3, 1) := by decide +kernel
theorem dL_law_450 : decode cL_law 450 = .ok (.iconst 3, 1) := by decide +kernel
theorem dL_law_451 : decode cL_law 451 = .ok (.iadd, 1) := by decide +kernel
theorem dL_law_452 : decode cL_law 452 = .ok (.iaload, 1) := by decide +kernel
theorem dL_law_453 : decode cL_law 453 = .ok (.invokevirtual 53, 3) := by decide +kernel
theorem dL_law_456 : decode cL_law 456 = .ok (.aload_n 2, 1) := by decide +kernel
theorem dL_law_457 : decode cL_law 457 = .ok (.aload_n 0, 1) := by decide +kernel
theorem dL_law_458 : decode cL_law 458 = .ok (.iload_n 3, 1) := by decide +kernel
theorem dL_law_459 : decode cL_law 459 = .ok (.iconst 1, 1) := by decide +kernel
theorem dL_law_460 : decode cL_law 460 = .ok (.iadd, 1) := by decide +kernel
theorem dL_law_461 : decode cL_law 461 = .ok (.iaload, 1) := by decide +kernel
theorem dL_law_462 : decode cL_law 462 = .ok (.aload_n 0, 1) := by decide +kernel
theorem dL_law_463 : decode cL_law 463 = .ok (.iload_n 3, 1) := by decide +kernel
theorem dL_law_464 : decode cL_law 464 = .ok (.iconst 2, 1) := by decide +kernel
theorem dL_law_465 : decode cL_law 465 = .ok (.iadd, 1) := by decide +kernel
theorem dL_law_466 : decode cL_law 466 = .ok (.iaload, 1) := by decide +kernel
theorem dL_law_467 : decode cL_law 467 = .ok (.aload_n 0, 1) := by decide +kernel
theorem dL_law_468 : decode cL_law 468 = .ok (.iload_n 3, 1) := by decide +kernel
theorem dL_law_469 : decode cL_law 469 = .ok (.iconst 3, 1) := by decide +kernel
theorem dL_law_470 : decode cL_law 470 = .ok (.iadd, 1) := by decide +kernel
theorem dL_law_471 : decode cL_law 471 = .ok (.iaload, 1) := by decide +kernel
theorem dL_law_472 : decode cL_law 472 = .ok (.invokevirtual 56, 3) := by decide +kernel
theorem dL_law_475 : decode cL_law 475 = .ok (.if_icmp .eq 901, 3) := by decide +kernel
theorem dL_law_478 : decode cL_law 478 = .ok (.iconst 0, 1) := by decide +kernel
theorem dL_law_479 : decode cL_law 479 = .ok (.ireturn, 1) := by decide +kernel
theorem dL_law_480 : decode cL_law 480 = .ok (.aload_n 1, 1) := by decide +kernel
theorem dL_law_481 : decode cL_law 481 = .ok (.aload_n 0, 1) := by decide +kernel
theorem dL_law_482 : decode cL_law 482 = .ok (.iload_n 3, 1) := by decide +kernel
theorem dL_law_483 : decode cL_law 483 = .ok (.iconst 1, 1) := by decide +kernel
theorem dL_law_484 : decode cL_law 484 = .ok (.iadd, 1) := by decide +kernel
theorem dL_law_485 : decode cL_law 485 = .ok (.iaload, 1) := by decide +kernel
theorem dL_law_486 : decode cL_law 486 = .ok (.aload_n 0, 1) := by decide +kernel
theorem dL_law_487 : decode cL_law 487 = .ok (.iload_n 3, 1) := by decide +kernel
theorem dL_law_488 : decode cL_law 488 = .ok (.iconst 2, 1) := by decide +kernel
theorem dL_law_489 : decode cL_law 489 = .ok (.iadd, 1) := by decide +kernel
theorem dL_law_490 : decode cL_law 490 = .ok (.iaload, 1) := by decide +kernel
theorem dL_law_491 : decode cL_law 491 = .ok (.invokevirtual 57, 3) := by decide +kernel
theorem dL_law_494 : decode cL_law 494 = .ok (.aload_n 2, 1) := by decide +kernel
theorem dL_law_495 : decode cL_law 495 = .ok (.aload_n 0, 1) := by decide +kernel
theorem dL_law_496 : decode cL_law 496 = .ok (.iload_n 3, 1) := by decide +kernel
theorem dL_law_497 : decode cL_law 497 = .ok (.iconst 1, 1) := by decide +kernel
theorem dL_law_498 : decode cL_law 498 = .ok (.iadd, 1) := by decide +kernel
theorem dL_law_499 : decode cL_law 499 = .ok (.iaload, 1) := by decide +kernel
theorem dL_law_500 : decode cL_law 500 = .ok (.aload_n 0, 1) := by decide +kernel
theorem dL_law_501 : decode cL_law 501 = .ok (.iload_n 3, 1) := by decide +kernel
theorem dL_law_502 : decode cL_law 502 = .ok (.iconst 2, 1) := by decide +kernel
theorem dL_law_503 : decode cL_law 503 = .ok (.iadd, 1) := by decide +kernel
theorem dL_law_504 : decode cL_law 504 = .ok (.iaload, 1) := by decide +kernel
theorem dL_law_505 : decode cL_law 505 = .ok (.invokevirtual 60, 3) := by decide +kernel
theorem dL_law_508 : decode cL_law 508 = .ok (.if_icmp .eq 868, 3) := by decide +kernel
theorem dL_law_511 : decode cL_law 511 = .ok (.iconst 0, 1) := by decide +kernel
theorem dL_law_512 : decode cL_law 512 = .ok (.ireturn, 1) := by decide +kernel
theorem dL_law_513 : decode cL_law 513 = .ok (.aload_n 1, 1) := by decide +kernel
theorem dL_law_514 : decode cL_law 514 = .ok (.aload_n 0, 1) := by decide +kernel
theorem dL_law_515 : decode cL_law 515 = .ok (.iload_n 3, 1) := by decide +kernel
theorem dL_law_516 : decode cL_law 516 = .ok (.iconst 1, 1) := by decide +kernel
theorem dL_law_517 : decode cL_law 517 = .ok (.iadd, 1) := by decide +kernel
theorem dL_law_518 : decode cL_law 518 = .ok (.iaload, 1) := by decide +kernel
theorem dL_law_519 : decode cL_law 519 = .ok (.invokevirtual 61, 3) := by decide +kernel
theorem dL_law_522 : decode cL_law 522 = .ok (.aload_n 2, 1) := by decide +kernel
theorem dL_law_523 : decode cL_law 523 = .ok (.aload_n 0, 1) := by decide +kernel
theorem dL_law_524 : decode cL_law 524 = .ok (.iload_n 3, 1) := by decide +kernel
theorem dL_law_525 : decode cL_law 525 = .ok (.iconst 1, 1) := by decide +kernel
theorem dL_law_526 : decode cL_law 526 = .ok (.iadd, 1) := by decide +kernel
theorem dL_law_527 : decode cL_law 527 = .ok (.iaload, 1) := by decide +kernel
theorem dL_law_528 : decode cL_law 528 = .ok (.invokevirtual 64, 3) := by decide +kernel
theorem dL_law_531 : decode cL_law 531 = .ok (.if_icmp .eq 845, 3) := by decide +kernel
theorem dL_law_534 : decode cL_law 534 = .ok (.iconst 0, 1) := by decide +kernel
theorem dL_law_535 : decode cL_law 535 = .ok (.ireturn, 1) := by decide +kernel
theorem dL_law_536 : decode cL_law 536 = .ok (.aload_n 1, 1) := by decide +kernel
theorem dL_law_537 : decode cL_law 537 = .ok (.aload_n 0, 1) := by decide +kernel
theorem dL_law_538 : decode cL_law 538 = .ok (.iload_n 3, 1) := by decide +kernel
theorem dL_law_539 : decode cL_law 539 = .ok (.iconst 1, 1) := by decide +kernel
theorem dL_law_540 : decode cL_law 540 = .ok (.iadd, 1) := by decide +kernel
theorem dL_law_541 : decode cL_law 541 = .ok (.iaload, 1) := by decide +kernel
theorem dL_law_542 : decode cL_law 542 = .ok (.invokevirtual 65, 3) := by decide +kernel
theorem dL_law_545 : decode cL_law 545 = .ok (.aload_n 2, 1) := by decide +kernel
theorem dL_law_546 : decode cL_law 546 = .ok (.aload_n 0, 1) := by decide +kernel
theorem dL_law_547 : decode cL_law 547 = .ok (.iload_n 3, 1) := by decide +kernel
theorem dL_law_548 : decode cL_law 548 = .ok (.iconst 1, 1) := by decide +kernel
theorem dL_law_549 : decode cL_law 549 = .ok (.iadd, 1) := by decide +kernel
theorem dL_law_550 : decode cL_law 550 = .ok (.iaload, 1) := by decide +kernel
theorem dL_law_551 : decode cL_law 551 = .ok (.invokevirtual 68, 3) := by decide +kernel
theorem dL_law_554 : decode cL_law 554 = .ok (.if_icmp .eq 822, 3) := by decide +kernel
theorem dL_law_557 : decode cL_law 557 = .ok (.iconst 0, 1) := by decide +kernel
theorem dL_law_558 : decode cL_law 558 = .ok (.ireturn, 1) := by decide +kernel
theorem dL_law_559 : decode cL_law 559 = .ok (.aload_n 1, 1) := by decide +kernel
theorem dL_law_560 : decode cL_law 560 = .ok (.aload_n 0, 1) := by decide +kernel
theorem dL_law_561 : decode cL_law 561 = .ok (.iload_n 3, 1) := by decide +kernel
theorem dL_law_562 : decode cL_law 562 = .ok (.iconst 1, 1) := by decide +kernel
theorem dL_law_563 : decode cL_law 563 = .ok (.iadd, 1) := by decide +kernel
theorem dL_law_564 : decode cL_law 564 = .ok (.iaload, 1) := by decide +kernel
theorem dL_law_565 : decode cL_law 565 = .ok (.aload_n 0, 1) := by decide +kernel
theorem dL_law_566 : decode cL_law 566 = .ok (.iload_n 3, 1) := by decide +kernel
theorem dL_law_567 : decode cL_law 567 = .ok (.iconst 2, 1) := by decide +kernel
theorem dL_law_568 : decode cL_law 568 = .ok (.iadd, 1) := by decide +kernel
theorem dL_law_569 : decode cL_law 569 = .ok (.iaload, 1) := by decide +kernel
theorem dL_law_570 : decode cL_law 570 = .ok (.invokevirtual 69, 3) := by decide +kernel
theorem dL_law_573 : decode cL_law 573 = .ok (.aload_n 2, 1) := by decide +kernel
theorem dL_law_574 : decode cL_law 574 = .ok (.aload_n 0, 1) := by decide +kernel
theorem dL_law_575 : decode cL_law 575 = .ok (.iload_n 3, 1) := by decide +kernel
theorem dL_law_576 : decode cL_law 576 = .ok (.iconst 1, 1) := by decide +kernel
theorem dL_law_577 : decode cL_law 577 = .ok (.iadd, 1) := by decide +kernel
theorem dL_law_578 : decode cL_law 578 = .ok (.iaload, 1) := by decide +kernel
theorem dL_law_579 : decode cL_law 579 = .ok (.aload_n 0, 1) := by decide +kernel
theorem dL_law_580 : decode cL_law 580 = .ok (.iload_n 3, 1) := by decide +kernel
theorem dL_law_581 : decode cL_law 581 = .ok (.iconst 2, 1) := by decide +kernel
theorem dL_law_582 : decode cL_law 582 = .ok (.iadd, 1) := by decide +kernel
theorem dL_law_583 : decode cL_law 583 = .ok (.iaload, 1) := by decide +kernel
theorem dL_law_584 : decode cL_law 584 = .ok (.invokevirtual 72, 3) := by decide +kernel
theorem dL_law_587 : decode cL_law 587 = .ok (.if_icmp .eq 789, 3) := by decide +kernel
theorem dL_law_590 : decode cL_law 590 = .ok (.iconst 0, 1) := by decide +kernel
theorem dL_law_591 : decode cL_law 591 = .ok (.ireturn, 1) := by decide +kernel
theorem dL_law_592 : decode cL_law 592 = .ok (.aload_n 1, 1) := by decide +kernel
theorem dL_law_593 : decode cL_law 593 = .ok (.aload_n 0, 1) := by decide +kernel
theorem dL_law_594 : decode cL_law 594 = .ok (.iload_n 3, 1) := by decide +kernel
theorem dL_law_595 : decode cL_law 595 = .ok (.iconst 1, 1) := by decide +kernel
theorem dL_law_596 : decode cL_law 596 = .ok (.iadd, 1) := by decide +kernel
theorem dL_law_597 : decode cL_law 597 = .ok (.iaload, 1) := by decide +kernel
theorem dL_law_598 : decode cL_law 598 = .ok (.aload_n 0, 1) := by decide +kernel
theorem dL_law_599 : decode cL_law 599 = .ok (.iload_n 3, 1) := by decide +kernel
theorem dL_law_600 : decode cL_law 600 = .ok (.iconst 2, 1) := by decide +kernel
theorem dL_law_601 : decode cL_law 601 = .ok (.iadd, 1) := by decide +kernel
theorem dL_law_602 : decode cL_law 602 = .ok (.iaload, 1) := by decide +kernel
theorem dL_law_603 : decode cL_law 603 = .ok (.aload_n 0, 1) := by decide +kernel
theorem dL_law_604 : decode cL_law 604 = .ok (.iload_n 3, 1) := by decide +kernel
theorem dL_law_605 : decode cL_law 605 = .ok (.iconst 3, 1) := by decide +kernel
theorem dL_law_606 : decode cL_law 606 = .ok (.iadd, 1) := by decide +kernel
theorem dL_law_607 : decode cL_law 607 = .ok (.iaload, 1) := by decide +kernel
theorem dL_law_608 : decode cL_law 608 = .ok (.invokevirtual 73, 3) := by decide +kernel
theorem dL_law_611 : decode cL_law 611 = .ok (.aload_n 2, 1) := by decide +kernel
theorem dL_law_612 : decode cL_law 612 = .ok (.aload_n 0, 1) := by decide +kernel
theorem dL_law_613 : decode cL_law 613 = .ok (.iload_n 3, 1) := by decide +kernel
theorem dL_law_614 : decode cL_law 614 = .ok (.iconst 1, 1) := by decide +kernel
theorem dL_law_615 : decode cL_law 615 = .ok (.iadd, 1) := by decide +kernel
theorem dL_law_616 : decode cL_law 616 = .ok (.iaload, 1) := by decide +kernel
theorem dL_law_617 : decode cL_law 617 = .ok (.aload_n 0, 1) := by decide +kernel
theorem dL_law_618 : decode cL_law 618 = .ok (.iload_n 3, 1) := by decide +kernel
theorem dL_law_619 : decode cL_law 619 = .ok (.iconst 2, 1) := by decide +kernel
theorem dL_law_620 : decode cL_law 620 = .ok (.iadd, 1) := by decide +kernel
theorem dL_law_621 : decode cL_law 621 = .ok (.iaload, 1) := by decide +kernel
theorem dL_law_622 : decode cL_law 622 = .ok (.aload_n 0, 1) := by decide +kernel
theorem dL_law_623 : decode cL_law 623 = .ok (.iload_n 3, 1) := by decide +kernel
theorem dL_law_624 : decode cL_law 624 = .ok (.iconst 3, 1) := by decide +kernel
theorem dL_law_625 : decode cL_law 625 = .ok (.iadd, 1) := by decide +kernel
theorem dL_law_626 : decode cL_law 626 = .ok (.iaload, 1) := by decide +kernel
theorem dL_law_627 : decode cL_law 627 = .ok (.invokevirtual 76, 3) := by decide +kernel
theorem dL_law_630 : decode cL_law 630 = .ok (.if_icmp .eq 746, 3) := by decide +kernel
theorem dL_law_633 : decode cL_law 633 = .ok (.iconst 0, 1) := by decide +kernel
theorem dL_law_634 : decode cL_law 634 = .ok (.ireturn, 1) := by decide +kernel
theorem dL_law_635 : decode cL_law 635 = .ok (.aload_n 1, 1) := by decide +kernel
theorem dL_law_636 : decode cL_law 636 = .ok (.aload_n 0, 1) := by decide +kernel
theorem dL_law_637 : decode cL_law 637 = .ok (.iload_n 3, 1) := by decide +kernel
theorem dL_law_638 : decode cL_law 638 = .ok (.iconst 1, 1) := by decide +kernel
theorem dL_law_639 : decode cL_law 639 = .ok (.iadd, 1) := by decide +kernel
theorem dL_law_640 : decode cL_law 640 = .ok (.iaload, 1) := by decide +kernel
theorem dL_law_641 : decode cL_law 641 = .ok (.invokevirtual 77, 3) := by decide +kernel
theorem dL_law_644 : decode cL_law 644 = .ok (.aload_n 2, 1) := by decide +kernel
theorem dL_law_645 : decode cL_law 645 = .ok (.aload_n 0, 1) := by decide +kernel
theorem dL_law_646 : decode cL_law 646 = .ok (.iload_n 3, 1) := by decide +kernel
theorem dL_law_647 : decode cL_law 647 = .ok (.iconst 1, 1) := by decide +kernel
theorem dL_law_648 : decode cL_law 648 = .ok (.iadd, 1) := by decide +kernel
theorem dL_law_649 : decode cL_law 649 = .ok (.iaload, 1) := by decide +kernel
theorem dL_law_650 : decode cL_law 650 = .ok (.invokevirtual 80, 3) := by decide +kernel
theorem dL_law_653 : decode cL_law 653 = .ok (.if_icmp .eq 723, 3) := by decide +kernel
theorem dL_law_656 : decode cL_law 656 = .ok (.iconst 0, 1) := by decide +kernel
theorem dL_law_657 : decode cL_law 657 = .ok (.ireturn, 1) := by decide +kernel
theorem dL_law_658 : decode cL_law 658 = .ok (.aload_n 1, 1) := by decide +kernel
theorem dL_law_659 : decode cL_law 659 = .ok (.aload_n 0, 1) := by decide +kernel
theorem dL_law_660 : decode cL_law 660 = .ok (.iload_n 3, 1) := by decide +kernel
theorem dL_law_661 : decode cL_law 661 = .ok (.iconst 1, 1) := by decide +kernel
theorem dL_law_662 : decode cL_law 662 = .ok (.iadd, 1) := by decide +kernel
theorem dL_law_663 : decode cL_law 663 = .ok (.iaload, 1) := by decide +kernel
theorem dL_law_664 : decode cL_law 664 = .ok (.invokevirtual 81, 3) := by decide +kernel
theorem dL_law_667 : decode cL_law 667 = .ok (.aload_n 2, 1) := by decide +kernel
theorem dL_law_668 : decode cL_law 668 = .ok (.aload_n 0, 1) := by decide +kernel
theorem dL_law_669 : decode cL_law 669 = .ok (.iload_n 3, 1) := by decide +kernel
theorem dL_law_670 : decode cL_law 670 = .ok (.iconst 1, 1) := by decide +kernel
theorem dL_law_671 : decode cL_law 671 = .ok (.iadd, 1) := by decide +kernel
theorem dL_law_672 : decode cL_law 672 = .ok (.iaload, 1) := by decide +kernel
theorem dL_law_673 : decode cL_law 673 = .ok (.invokevirtual 84, 3) := by decide +kernel
theorem dL_law_676 : decode cL_law 676 = .ok (.if_icmp .eq 700, 3) := by decide +kernel
theorem dL_law_679 : decode cL_law 679 = .ok (.iconst 0, 1) := by decide +kernel
theorem dL_law_680 : decode cL_law 680 = .ok (.ireturn, 1) := by decide +kernel
theorem dL_law_681 : decode cL_law 681 = .ok (.aload_n 1, 1) := by decide +kernel
theorem dL_law_682 : decode cL_law 682 = .ok (.aload_n 0, 1) := by decide +kernel
theorem dL_law_683 : decode cL_law 683 = .ok (.iload_n 3, 1) := by decide +kernel
theorem dL_law_684 : decode cL_law 684 = .ok (.iconst 1, 1) := by decide +kernel
theorem dL_law_685 : decode cL_law 685 = .ok (.iadd, 1) := by decide +kernel
theorem dL_law_686 : decode cL_law 686 = .ok (.iaload, 1) := by decide +kernel
theorem dL_law_687 : decode cL_law 687 = .ok (.invokevirtual 85, 3) := by decide +kernel
theorem dL_law_690 : decode cL_law 690 = .ok (.aload_n 2, 1) := by decide +kernel
theorem dL_law_691 : decode cL_law 691 = .ok (.aload_n 0, 1) := by decide +kernel
theorem dL_law_692 : decode cL_law 692 = .ok (.iload_n 3, 1) := by decide +kernel
theorem dL_law_693 : decode cL_law 693 = .ok (.iconst 1, 1) := by decide +kernel
theorem dL_law_694 : decode cL_law 694 = .ok (.iadd, 1) := by decide +kernel
theorem dL_law_695 : decode cL_law 695 = .ok (.iaload, 1) := by decide +kernel
theorem dL_law_696 : decode cL_law 696 = .ok (.invokevirtual 88, 3) := by decide +kernel
theorem dL_law_699 : decode cL_law 699 = .ok (.if_icmp .eq 677, 3) := by decide +kernel
theorem dL_law_702 : decode cL_law 702 = .ok (.iconst 0, 1) := by decide +kernel
theorem dL_law_703 : decode cL_law 703 = .ok (.ireturn, 1) := by decide +kernel
theorem dL_law_704 : decode cL_law 704 = .ok (.aload_n 1, 1) := by decide +kernel
theorem dL_law_705 : decode cL_law 705 = .ok (.aload_n 0, 1) := by decide +kernel
theorem dL_law_706 : decode cL_law 706 = .ok (.iload_n 3, 1) := by decide +kernel
theorem dL_law_707 : decode cL_law 707 = .ok (.iconst 1, 1) := by decide +kernel
theorem dL_law_708 : decode cL_law 708 = .ok (.iadd, 1) := by decide +kernel
theorem dL_law_709 : decode cL_law 709 = .ok (.iaload, 1) := by decide +kernel
theorem dL_law_710 : decode cL_law 710 = .ok (.aload_n 0, 1) := by decide +kernel
theorem dL_law_711 : decode cL_law 711 = .ok (.iload_n 3, 1) := by decide +kernel
theorem dL_law_712 : decode cL_law 712 = .ok (.iconst 2, 1) := by decide +kernel
theorem dL_law_713 : decode cL_law 713 = .ok (.iadd, 1) := by decide +kernel
theorem dL_law_714 : decode cL_law 714 = .ok (.iaload, 1) := by decide +kernel
theorem dL_law_715 : decode cL_law 715 = .ok (.invokevirtual 89, 3) := by decide +kernel
theorem dL_law_718 : decode cL_law 718 = .ok (.aload_n 2, 1) := by decide +kernel
theorem dL_law_719 : decode cL_law 719 = .ok (.aload_n 0, 1) := by decide +kernel
theorem dL_law_720 : decode cL_law 720 = .ok (.iload_n 3, 1) := by decide +kernel
theorem dL_law_721 : decode cL_law 721 = .ok (.iconst 1, 1) := by decide +kernel
theorem dL_law_722 : decode cL_law 722 = .ok (.iadd, 1) := by decide +kernel
theorem dL_law_723 : decode cL_law 723 = .ok (.iaload, 1) := by decide +kernel
theorem dL_law_724 : decode cL_law 724 = .ok (.aload_n 0, 1) := by decide +kernel
theorem dL_law_725 : decode cL_law 725 = .ok (.iload_n 3, 1) := by decide +kernel
theorem dL_law_726 : decode cL_law 726 = .ok (.iconst 2, 1) := by decide +kernel
theorem dL_law_727 : decode cL_law 727 = .ok (.iadd, 1) := by decide +kernel
theorem dL_law_728 : decode cL_law 728 = .ok (.iaload, 1) := by decide +kernel
theorem dL_law_729 : decode cL_law 729 = .ok (.invokevirtual 92, 3) := by decide +kernel
theorem dL_law_732 : decode cL_law 732 = .ok (.if_icmp .eq 644, 3) := by decide +kernel
theorem dL_law_735 : decode cL_law 735 = .ok (.iconst 0, 1) := by decide +kernel
theorem dL_law_736 : decode cL_law 736 = .ok (.ireturn, 1) := by decide +kernel
theorem dL_law_737 : decode cL_law 737 = .ok (.aload_n 1, 1) := by decide +kernel
theorem dL_law_738 : decode cL_law 738 = .ok (.aload_n 0, 1) := by decide +kernel
theorem dL_law_739 : decode cL_law 739 = .ok (.iload_n 3, 1) := by decide +kernel
theorem dL_law_740 : decode cL_law 740 = .ok (.iconst 1, 1) := by decide +kernel
theorem dL_law_741 : decode cL_law 741 = .ok (.iadd, 1) := by decide +kernel
theorem dL_law_742 : decode cL_law 742 = .ok (.iaload, 1) := by decide +kernel
theorem dL_law_743 : decode cL_law 743 = .ok (.aload_n 0, 1) := by decide +kernel
theorem dL_law_744 : decode cL_law 744 = .ok (.iload_n 3, 1) := by decide +kernel
theorem dL_law_745 : decode cL_law 745 = .ok (.iconst 2, 1) := by decide +kernel
theorem dL_law_746 : decode cL_law 746 = .ok (.iadd, 1) := by decide +kernel
theorem dL_law_747 : decode cL_law 747 = .ok (.iaload, 1) := by decide +kernel
theorem dL_law_748 : decode cL_law 748 = .ok (.invokevirtual 93, 3) := by decide +kernel
theorem dL_law_751 : decode cL_law 751 = .ok (.aload_n 2, 1) := by decide +kernel
theorem dL_law_752 : decode cL_law 752 = .ok (.aload_n 0, 1) := by decide +kernel
theorem dL_law_753 : decode cL_law 753 = .ok (.iload_n 3, 1) := by decide +kernel
theorem dL_law_754 : decode cL_law 754 = .ok (.iconst 1, 1) := by decide +kernel
theorem dL_law_755 : decode cL_law 755 = .ok (.iadd, 1) := by decide +kernel
theorem dL_law_756 : decode cL_law 756 = .ok (.iaload, 1) := by decide +kernel
theorem dL_law_757 : decode cL_law 757 = .ok (.aload_n 0, 1) := by decide +kernel
theorem dL_law_758 : decode cL_law 758 = .ok (.iload_n 3, 1) := by decide +kernel
theorem dL_law_759 : decode cL_law 759 = .ok (.iconst 2, 1) := by decide +kernel
theorem dL_law_760 : decode cL_law 760 = .ok (.iadd, 1) := by decide +kernel
theorem dL_law_761 : decode cL_law 761 = .ok (.iaload, 1) := by decide +kernel
theorem dL_law_762 : decode cL_law 762 = .ok (.invokevirtual 96, 3) := by decide +kernel
theorem dL_law_765 : decode cL_law 765 = .ok (.if_icmp .eq 611, 3) := by decide +kernel
theorem dL_law_768 : decode cL_law 768 = .ok (.iconst 0, 1) := by decide +kernel
theorem dL_law_769 : decode cL_law 769 = .ok (.ireturn, 1) := by decide +kernel
theorem dL_law_770 : decode cL_law 770 = .ok (.aload_n 1, 1) := by decide +kernel
theorem dL_law_771 : decode cL_law 771 = .ok (.aload_n 0, 1) := by decide +kernel
theorem dL_law_772 : decode cL_law 772 = .ok (.iload_n 3, 1) := by decide +kernel
theorem dL_law_773 : decode cL_law 773 = .ok (.iconst 1, 1) := by decide +kernel
theorem dL_law_774 : decode cL_law 774 = .ok (.iadd, 1) := by decide +kernel
theorem dL_law_775 : decode cL_law 775 = .ok (.iaload, 1) := by decide +kernel
theorem dL_law_776 : decode cL_law 776 = .ok (.aload_n 0, 1) := by decide +kernel
theorem dL_law_777 : decode cL_law 777 = .ok (.iload_n 3, 1) := by decide +kernel
theorem dL_law_778 : decode cL_law 778 = .ok (.iconst 2, 1) := by decide +kernel
theorem dL_law_779 : decode cL_law 779 = .ok (.iadd, 1) := by decide +kernel
theorem dL_law_780 : decode cL_law 780 = .ok (.iaload, 1) := by decide +kernel
theorem dL_law_781 : decode cL_law 781 = .ok (.invokevirtual 97, 3) := by decide +kernel
theorem dL_law_784 : decode cL_law 784 = .ok (.aload_n 2, 1) := by decide +kernel
theorem dL_law_785 : decode cL_law 785 = .ok (.aload_n 0, 1) := by decide +kernel
theorem dL_law_786 : decode cL_law 786 = .ok (.iload_n 3, 1) := by decide +kernel
theorem dL_law_787 : decode cL_law 787 = .ok (.iconst 1, 1) := by decide +kernel
theorem dL_law_788 : decode cL_law 788 = .ok (.iadd, 1) := by decide +kernel
theorem dL_law_789 : decode cL_law 789 = .ok (.iaload, 1) := by decide +kernel
theorem dL_law_790 : decode cL_law 790 = .ok (.aload_n 0, 1) := by decide +kernel
theorem dL_law_791 : decode cL_law 791 = .ok (.iload_n 3, 1) := by decide +kernel
theorem dL_law_792 : decode cL_law 792 = .ok (.iconst 2, 1) := by decide +kernel
theorem dL_law_793 : decode cL_law 793 = .ok (.iadd, 1) := by decide +kernel
theorem dL_law_794 : decode cL_law 794 = .ok (.iaload, 1) := by decide +kernel
theorem dL_law_795 : decode cL_law 795 = .ok (.invokevirtual 100, 3) := by decide +kernel
theorem dL_law_798 : decode cL_law 798 = .ok (.if_icmp .eq 578, 3) := by decide +kernel
theorem dL_law_801 : decode cL_law 801 = .ok (.iconst 0, 1) := by decide +kernel
theorem dL_law_802 : decode cL_law 802 = .ok (.ireturn, 1) := by decide +kernel
theorem dL_law_803 : decode cL_law 803 = .ok (.aload_n 1, 1) := by decide +kernel
theorem dL_law_804 : decode cL_law 804 = .ok (.aload_n 0, 1) := by decide +kernel
theorem dL_law_805 : decode cL_law 805 = .ok (.iload_n 3, 1) := by decide +kernel
theorem dL_law_806 : decode cL_law 806 = .ok (.iconst 1, 1) := by decide +kernel
theorem dL_law_807 : decode cL_law 807 = .ok (.iadd, 1) := by decide +kernel
theorem dL_law_808 : decode cL_law 808 = .ok (.iaload, 1) := by decide +kernel
theorem dL_law_809 : decode cL_law 809 = .ok (.aload_n 0, 1) := by decide +kernel
theorem dL_law_810 : decode cL_law 810 = .ok (.iload_n 3, 1) := by decide +kernel
theorem dL_law_811 : decode cL_law 811 = .ok (.iconst 2, 1) := by decide +kernel
theorem dL_law_812 : decode cL_law 812 = .ok (.iadd, 1) := by decide +kernel
theorem dL_law_813 : decode cL_law 813 = .ok (.iaload, 1) := by decide +kernel
theorem dL_law_814 : decode cL_law 814 = .ok (.invokevirtual 101, 3) := by decide +kernel
theorem dL_law_817 : decode cL_law 817 = .ok (.aload_n 2, 1) := by decide +kernel
theorem dL_law_818 : decode cL_law 818 = .ok (.aload_n 0, 1) := by decide +kernel
theorem dL_law_819 : decode cL_law 819 = .ok (.iload_n 3, 1) := by decide +kernel
theorem dL_law_820 : decode cL_law 820 = .ok (.iconst 1, 1) := by decide +kernel
theorem dL_law_821 : decode cL_law 821 = .ok (.iadd, 1) := by decide +kernel
theorem dL_law_822 : decode cL_law 822 = .ok (.iaload, 1) := by decide +kernel
theorem dL_law_823 : decode cL_law 823 = .ok (.aload_n 0, 1) := by decide +kernel
theorem dL_law_824 : decode cL_law 824 = .ok (.iload_n 3, 1) := by decide +kernel
theorem dL_law_825 : decode cL_law 825 = .ok (.iconst 2, 1) := by decide +kernel
theorem dL_law_826 : decode cL_law 826 = .ok (.iadd, 1) := by decide +kernel
theorem dL_law_827 : decode cL_law 827 = .ok (.iaload, 1) := by decide +kernel
theorem dL_law_828 : decode cL_law 828 = .ok (.invokevirtual 104, 3) := by decide +kernel
theorem dL_law_831 : decode cL_law 831 = .ok (.if_icmp .eq 545, 3) := by decide +kernel
theorem dL_law_834 : decode cL_law 834 = .ok (.iconst 0, 1) := by decide +kernel
theorem dL_law_835 : decode cL_law 835 = .ok (.ireturn, 1) := by decide +kernel
theorem dL_law_836 : decode cL_law 836 = .ok (.aload_n 1, 1) := by decide +kernel
theorem dL_law_837 : decode cL_law 837 = .ok (.aload_n 0, 1) := by decide +kernel
theorem dL_law_838 : decode cL_law 838 = .ok (.iload_n 3, 1) := by decide +kernel
theorem dL_law_839 : decode cL_law 839 = .ok (.iconst 1, 1) := by decide +kernel
theorem dL_law_840 : decode cL_law 840 = .ok (.iadd, 1) := by decide +kernel
theorem dL_law_841 : decode cL_law 841 = .ok (.iaload, 1) := by decide +kernel
theorem dL_law_842 : decode cL_law 842 = .ok (.aload_n 0, 1) := by decide +kernel
theorem dL_law_843 : decode cL_law 843 = .ok (.iload_n 3, 1) := by decide +kernel
theorem dL_law_844 : decode cL_law 844 = .ok (.iconst 2, 1) := by decide +kernel
theorem dL_law_845 : decode cL_law 845 = .ok (.iadd, 1) := by decide +kernel
theorem dL_law_846 : decode cL_law 846 = .ok (.iaload, 1) := by decide +kernel
theorem dL_law_847 : decode cL_law 847 = .ok (.aload_n 0, 1) := by decide +kernel
theorem dL_law_848 : decode cL_law 848 = .ok (.iload_n 3, 1) := by decide +kernel
theorem dL_law_849 : decode cL_law 849 = .ok (.iconst 3, 1) := by decide +kernel
theorem dL_law_850 : decode cL_law 850 = .ok (.iadd, 1) := by decide +kernel
theorem dL_law_851 : decode cL_law 851 = .ok (.iaload, 1) := by decide +kernel
theorem dL_law_852 : decode cL_law 852 = .ok (.invokevirtual 105, 3) := by decide +kernel
theorem dL_law_855 : decode cL_law 855 = .ok (.aload_n 2, 1) := by decide +kernel
theorem dL_law_856 : decode cL_law 856 = .ok (.aload_n 0, 1) := by decide +kernel
theorem dL_law_857 : decode cL_law 857 = .ok (.iload_n 3, 1) := by decide +kernel
theorem dL_law_858 : decode cL_law 858 = .ok (.iconst 1, 1) := by decide +kernel
theorem dL_law_859 : decode cL_law 859 = .ok (.iadd, 1) := by decide +kernel
theorem dL_law_860 : decode cL_law 860 = .ok (.iaload, 1) := by decide +kernel
theorem dL_law_861 : decode cL_law 861 = .ok (.aload_n 0, 1) := by decide +kernel
theorem dL_law_862 : decode cL_law 862 = .ok (.iload_n 3, 1) := by decide +kernel
theorem dL_law_863 : decode cL_law 863 = .ok (.iconst 2, 1) := by decide +kernel
theorem dL_law_864 : decode cL_law 864 = .ok (.iadd, 1) := by decide +kernel
theorem dL_law_865 : decode cL_law 865 = .ok (.iaload, 1) := by decide +kernel
theorem dL_law_866 : decode cL_law 866 = .ok (.aload_n 0, 1) := by decide +kernel
theorem dL_law_867 : decode cL_law 867 = .ok (.iload_n 3, 1) := by decide +kernel
theorem dL_law_868 : decode cL_law 868 = .ok (.iconst 3, 1) := by decide +kernel
theorem dL_law_869 : decode cL_law 869 = .ok (.iadd, 1) := by decide +kernel
theorem dL_law_870 : decode cL_law 870 = .ok (.iaload, 1) := by decide +kernel
theorem dL_law_871 : decode cL_law 871 = .ok (.invokevirtual 108, 3) := by decide +kernel
theorem dL_law_874 : decode cL_law 874 = .ok (.if_icmp .eq 502, 3) := by decide +kernel
theorem dL_law_877 : decode cL_law 877 = .ok (.iconst 0, 1) := by decide +kernel
theorem dL_law_878 : decode cL_law 878 = .ok (.ireturn, 1) := by decide +kernel
theorem dL_law_879 : decode cL_law 879 = .ok (.aload_n 1, 1) := by decide +kernel
theorem dL_law_880 : decode cL_law 880 = .ok (.aload_n 0, 1) := by decide +kernel
theorem dL_law_881 : decode cL_law 881 = .ok (.iload_n 3, 1) := by decide +kernel
theorem dL_law_882 : decode cL_law 882 = .ok (.iconst 1, 1) := by decide +kernel
theorem dL_law_883 : decode cL_law 883 = .ok (.iadd, 1) := by decide +kernel
theorem dL_law_884 : decode cL_law 884 = .ok (.iaload, 1) := by decide +kernel
theorem dL_law_885 : decode cL_law 885 = .ok (.aload_n 0, 1) := by decide +kernel
theorem dL_law_886 : decode cL_law 886 = .ok (.iload_n 3, 1) := by decide +kernel
theorem dL_law_887 : decode cL_law 887 = .ok (.iconst 2, 1) := by decide +kernel
theorem dL_law_888 : decode cL_law 888 = .ok (.iadd, 1) := by decide +kernel
theorem dL_law_889 : decode cL_law 889 = .ok (.iaload, 1) := by decide +kernel
theorem dL_law_890 : decode cL_law 890 = .ok (.aload_n 0, 1) := by decide +kernel
theorem dL_law_891 : decode cL_law 891 = .ok (.iload_n 3, 1) := by decide +kernel
theorem dL_law_892 : decode cL_law 892 = .ok (.iconst 3, 1) := by decide +kernel
theorem dL_law_893 : decode cL_law 893 = .ok (.iadd, 1) := by decide +kernel
theorem dL_law_894 : decode cL_law 894 = .ok (.iaload, 1) := by decide +kernel
theorem dL_law_895 : decode cL_law 895 = .ok (.aload_n 0, 1) := by decide +kernel
theorem dL_law_896 : decode cL_law 896 = .ok (.iload_n 3, 1) := by decide +kernel
theorem dL_law_897 : decode cL_law 897 = .ok (.iconst 4, 1) := by decide +kernel
theorem dL_law_898 : decode cL_law 898 = .ok (.iadd, 1) := by decide +kernel
theorem dL_law_899 : decode cL_law 899 = .ok (.iaload, 1) := by decide +kernel
theorem dL_law_900 : decode cL_law 900 = .ok (.invokevirtual 109, 3) := by decide +kernel
theorem dL_law_903 : decode cL_law 903 = .ok (.aload_n 2, 1) := by decide +kernel
theorem dL_law_904 : decode cL_law 904 = .ok (.aload_n 0, 1) := by decide +kernel
theorem dL_law_905 : decode cL_law 905 = .ok (.iload_n 3, 1) := by decide +kernel
theorem dL_law_906 : decode cL_law 906 = .ok (.iconst 1, 1) := by decide +kernel
theorem dL_law_907 : decode cL_law 907 = .ok (.iadd, 1) := by decide +kernel
theorem dL_law_908 : decode cL_law 908 = .ok (.iaload, 1) := by decide +kernel
theorem dL_law_909 : decode cL_law 909 = .ok (.aload_n 0, 1) := by decide +kernel
theorem dL_law_910 : decode cL_law 910 = .ok (.iload_n 3, 1) := by decide +kernel
theorem dL_law_911 : decode cL_law 911 = .ok (.iconst 2, 1) := by decide +kernel
theorem dL_law_912 : decode cL_law 912 = .ok (.iadd, 1) := by decide +kernel
theorem dL_law_913 : decode cL_law 913 = .ok (.iaload, 1) := by decide +kernel
theorem dL_law_914 : decode cL_law 914 = .ok (.aload_n 0, 1) := by decide +kernel
theorem dL_law_915 : decode cL_law 915 = .ok (.iload_n 3, 1) := by decide +kernel
theorem dL_law_916 : decode cL_law 916 = .ok (.iconst 3, 1) := by decide +kernel
theorem dL_law_917 : decode cL_law 917 = .ok (.iadd, 1) := by decide +kernel
theorem dL_law_918 : decode cL_law 918 = .ok (.iaload, 1) := by decide +kernel
theorem dL_law_919 : decode cL_law 919 = .ok (.aload_n 0, 1) := by decide +kernel
theorem dL_law_920 : decode cL_law 920 = .ok (.iload_n 3, 1) := by decide +kernel
theorem dL_law_921 : decode cL_law 921 = .ok (.iconst 4, 1) := by decide +kernel
theorem dL_law_922 : decode cL_law 922 = .ok (.iadd, 1) := by decide +kernel
theorem dL_law_923 : decode cL_law 923 = .ok (.iaload, 1) := by decide +kernel
theorem dL_law_924 : decode cL_law 924 = .ok (.invokevirtual 113, 3) := by decide +kernel
theorem dL_law_927 : decode cL_law 927 = .ok (.lcmp, 1) := by decide +kernel
theorem dL_law_928 : decode cL_law 928 = .ok (.ifCond .eq 448, 3) := by decide +kernel
theorem dL_law_931 : decode cL_law 931 = .ok (.iconst 0, 1) := by decide +kernel
theorem dL_law_932 : decode cL_law 932 = .ok (.ireturn, 1) := by decide +kernel
theorem dL_law_933 : decode cL_law 933 = .ok (.aload_n 1, 1) := by decide +kernel
theorem dL_law_934 : decode cL_law 934 = .ok (.aload_n 0, 1) := by decide +kernel
theorem dL_law_935 : decode cL_law 935 = .ok (.iload_n 3, 1) := by decide +kernel
theorem dL_law_936 : decode cL_law 936 = .ok (.iconst 1, 1) := by decide +kernel
theorem dL_law_937 : decode cL_law 937 = .ok (.iadd, 1) := by decide +kernel
theorem dL_law_938 : decode cL_law 938 = .ok (.iaload, 1) := by decide +kernel
theorem dL_law_939 : decode cL_law 939 = .ok (.aload_n 0, 1) := by decide +kernel
theorem dL_law_940 : decode cL_law 940 = .ok (.iload_n 3, 1) := by decide +kernel
theorem dL_law_941 : decode cL_law 941 = .ok (.iconst 2, 1) := by decide +kernel
theorem dL_law_942 : decode cL_law 942 = .ok (.iadd, 1) := by decide +kernel
theorem dL_law_943 : decode cL_law 943 = .ok (.iaload, 1) := by decide +kernel
theorem dL_law_944 : decode cL_law 944 = .ok (.aload_n 0, 1) := by decide +kernel
theorem dL_law_945 : decode cL_law 945 = .ok (.iload_n 3, 1) := by decide +kernel
theorem dL_law_946 : decode cL_law 946 = .ok (.iconst 3, 1) := by decide +kernel
theorem dL_law_947 : decode cL_law 947 = .ok (.iadd, 1) := by decide +kernel
theorem dL_law_948 : decode cL_law 948 = .ok (.iaload, 1) := by decide +kernel
theorem dL_law_949 : decode cL_law 949 = .ok (.invokevirtual 114, 3) := by decide +kernel
theorem dL_law_952 : decode cL_law 952 = .ok (.aload_n 2, 1) := by decide +kernel
theorem dL_law_953 : decode cL_law 953 = .ok (.aload_n 0, 1) := by decide +kernel
theorem dL_law_954 : decode cL_law 954 = .ok (.iload_n 3, 1) := by decide +kernel
theorem dL_law_955 : decode cL_law 955 = .ok (.iconst 1, 1) := by decide +kernel
theorem dL_law_956 : decode cL_law 956 = .ok (.iadd, 1) := by decide +kernel
theorem dL_law_957 : decode cL_law 957 = .ok (.iaload, 1) := by decide +kernel
theorem dL_law_958 : decode cL_law 958 = .ok (.aload_n 0, 1) := by decide +kernel
theorem dL_law_959 : decode cL_law 959 = .ok (.iload_n 3, 1) := by decide +kernel
theorem dL_law_960 : decode cL_law 960 = .ok (.iconst 2, 1) := by decide +kernel
theorem dL_law_961 : decode cL_law 961 = .ok (.iadd, 1) := by decide +kernel
theorem dL_law_962 : decode cL_law 962 = .ok (.iaload, 1) := by decide +kernel
theorem dL_law_963 : decode cL_law 963 = .ok (.aload_n 0, 1) := by decide +kernel
theorem dL_law_964 : decode cL_law 964 = .ok (.iload_n 3, 1) := by decide +kernel
theorem dL_law_965 : decode cL_law 965 = .ok (.iconst 3, 1) := by decide +kernel
theorem dL_law_966 : decode cL_law 966 = .ok (.iadd, 1) := by decide +kernel
theorem dL_law_967 : decode cL_law 967 = .ok (.iaload, 1) := by decide +kernel
theorem dL_law_968 : decode cL_law 968 = .ok (.invokevirtual 118, 3) := by decide +kernel
theorem dL_law_971 : decode cL_law 971 = .ok (.lcmp, 1) := by decide +kernel
theorem dL_law_972 : decode cL_law 972 = .ok (.ifCond .eq 404, 3) := by decide +kernel
theorem dL_law_975 : decode cL_law 975 = .ok (.iconst 0, 1) := by decide +kernel
theorem dL_law_976 : decode cL_law 976 = .ok (.ireturn, 1) := by decide +kernel
theorem dL_law_977 : decode cL_law 977 = .ok (.aload_n 1, 1) := by decide +kernel
theorem dL_law_978 : decode cL_law 978 = .ok (.aload_n 0, 1) := by decide +kernel
theorem dL_law_979 : decode cL_law 979 = .ok (.iload_n 3, 1) := by decide +kernel
theorem dL_law_980 : decode cL_law 980 = .ok (.iconst 1, 1) := by decide +kernel
theorem dL_law_981 : decode cL_law 981 = .ok (.iadd, 1) := by decide +kernel
theorem dL_law_982 : decode cL_law 982 = .ok (.iaload, 1) := by decide +kernel
theorem dL_law_983 : decode cL_law 983 = .ok (.aload_n 0, 1) := by decide +kernel
theorem dL_law_984 : decode cL_law 984 = .ok (.iload_n 3, 1) := by decide +kernel
theorem dL_law_985 : decode cL_law 985 = .ok (.iconst 2, 1) := by decide +kernel
theorem dL_law_986 : decode cL_law 986 = .ok (.iadd, 1) := by decide +kernel
theorem dL_law_987 : decode cL_law 987 = .ok (.iaload, 1) := by decide +kernel
theorem dL_law_988 : decode cL_law 988 = .ok (.invokevirtual 119, 3) := by decide +kernel
theorem dL_law_991 : decode cL_law 991 = .ok (.aload_n 2, 1) := by decide +kernel
theorem dL_law_992 : decode cL_law 992 = .ok (.aload_n 0, 1) := by decide +kernel
theorem dL_law_993 : decode cL_law 993 = .ok (.iload_n 3, 1) := by decide +kernel
theorem dL_law_994 : decode cL_law 994 = .ok (.iconst 1, 1) := by decide +kernel
theorem dL_law_995 : decode cL_law 995 = .ok (.iadd, 1) := by decide +kernel
theorem dL_law_996 : decode cL_law 996 = .ok (.iaload, 1) := by decide +kernel
theorem dL_law_997 : decode cL_law 997 = .ok (.aload_n 0, 1) := by decide +kernel
theorem dL_law_998 : decode cL_law 998 = .ok (.iload_n 3, 1) := by decide +kernel
theorem dL_law_999 : decode cL_law 999 = .ok (.iconst 2, 1) := by decide +kernel
theorem dL_law_1000 : decode cL_law 1000 = .ok (.iadd, 1) := by decide +kernel
theorem dL_law_1001 : decode cL_law 1001 = .ok (.iaload, 1) := by decide +kernel
theorem dL_law_1002 : decode cL_law 1002 = .ok (.invokevirtual 122, 3) := by decide +kernel
theorem dL_law_1005 : decode cL_law 1005 = .ok (.if_icmp .eq 371, 3) := by decide +kernel
theorem dL_law_1008 : decode cL_law 1008 = .ok (.iconst 0, 1) := by decide +kernel
theorem dL_law_1009 : decode cL_law 1009 = .ok (.ireturn, 1) := by decide +kernel
theorem dL_law_1010 : decode cL_law 1010 = .ok (.aload_n 1, 1) := by decide +kernel
theorem dL_law_1011 : decode cL_law 1011 = .ok (.aload_n 0, 1) := by decide +kernel
theorem dL_law_1012 : decode cL_law 1012 = .ok (.iload_n 3, 1) := by decide +kernel
theorem dL_law_1013 : decode cL_law 1013 = .ok (.iconst 1, 1) := by decide +kernel
theorem dL_law_1014 : decode cL_law 1014 = .ok (.iadd, 1) := by decide +kernel
theorem dL_law_1015 : decode cL_law 1015 = .ok (.iaload, 1) := by decide +kernel
theorem dL_law_1016 : decode cL_law 1016 = .ok (.invokevirtual 123, 3) := by decide +kernel
theorem dL_law_1019 : decode cL_law 1019 = .ok (.aload_n 2, 1) := by decide +kernel
theorem dL_law_1020 : decode cL_law 1020 = .ok (.aload_n 0, 1) := by decide +kernel
theorem dL_law_1021 : decode cL_law 1021 = .ok (.iload_n 3, 1) := by decide +kernel
theorem dL_law_1022 : decode cL_law 1022 = .ok (.iconst 1, 1) := by decide +kernel
theorem dL_law_1023 : decode cL_law 1023 = .ok (.iadd, 1) := by decide +kernel
theorem dL_law_1024 : decode cL_law 1024 = .ok (.iaload, 1) := by decide +kernel
theorem dL_law_1025 : decode cL_law 1025 = .ok (.invokevirtual 126, 3) := by decide +kernel
theorem dL_law_1028 : decode cL_law 1028 = .ok (.if_icmp .eq 348, 3) := by decide +kernel
theorem dL_law_1031 : decode cL_law 1031 = .ok (.iconst 0, 1) := by decide +kernel
theorem dL_law_1032 : decode cL_law 1032 = .ok (.ireturn, 1) := by decide +kernel
theorem dL_law_1033 : decode cL_law 1033 = .ok (.aload_n 1, 1) := by decide +kernel
theorem dL_law_1034 : decode cL_law 1034 = .ok (.aload_n 0, 1) := by decide +kernel
theorem dL_law_1035 : decode cL_law 1035 = .ok (.iload_n 3, 1) := by decide +kernel
theorem dL_law_1036 : decode cL_law 1036 = .ok (.iconst 1, 1) := by decide +kernel
theorem dL_law_1037 : decode cL_law 1037 = .ok (.iadd, 1) := by decide +kernel
theorem dL_law_1038 : decode cL_law 1038 = .ok (.iaload, 1) := by decide +kernel
theorem dL_law_1039 : decode cL_law 1039 = .ok (.invokevirtual 127, 3) := by decide +kernel
theorem dL_law_1042 : decode cL_law 1042 = .ok (.aload_n 2, 1) := by decide +kernel
theorem dL_law_1043 : decode cL_law 1043 = .ok (.aload_n 0, 1) := by decide +kernel
theorem dL_law_1044 : decode cL_law 1044 = .ok (.iload_n 3, 1) := by decide +kernel
theorem dL_law_1045 : decode cL_law 1045 = .ok (.iconst 1, 1) := by decide +kernel
theorem dL_law_1046 : decode cL_law 1046 = .ok (.iadd, 1) := by decide +kernel
theorem dL_law_1047 : decode cL_law 1047 = .ok (.iaload, 1) := by decide +kernel
theorem dL_law_1048 : decode cL_law 1048 = .ok (.invokevirtual 130, 3) := by decide +kernel
theorem dL_law_1051 : decode cL_law 1051 = .ok (.if_icmp .eq 325, 3) := by decide +kernel
theorem dL_law_1054 : decode cL_law 1054 = .ok (.iconst 0, 1) := by decide +kernel
theorem dL_law_1055 : decode cL_law 1055 = .ok (.ireturn, 1) := by decide +kernel
theorem dL_law_1056 : decode cL_law 1056 = .ok (.aload_n 1, 1) := by decide +kernel
theorem dL_law_1057 : decode cL_law 1057 = .ok (.aload_n 0, 1) := by decide +kernel
theorem dL_law_1058 : decode cL_law 1058 = .ok (.iload_n 3, 1) := by decide +kernel
theorem dL_law_1059 : decode cL_law 1059 = .ok (.iconst 1, 1) := by decide +kernel
theorem dL_law_1060 : decode cL_law 1060 = .ok (.iadd, 1) := by decide +kernel
theorem dL_law_1061 : decode cL_law 1061 = .ok (.iaload, 1) := by decide +kernel
theorem dL_law_1062 : decode cL_law 1062 = .ok (.invokevirtual 131, 3) := by decide +kernel
theorem dL_law_1065 : decode cL_law 1065 = .ok (.aload_n 2, 1) := by decide +kernel
theorem dL_law_1066 : decode cL_law 1066 = .ok (.aload_n 0, 1) := by decide +kernel
theorem dL_law_1067 : decode cL_law 1067 = .ok (.iload_n 3, 1) := by decide +kernel
theorem dL_law_1068 : decode cL_law 1068 = .ok (.iconst 1, 1) := by decide +kernel
theorem dL_law_1069 : decode cL_law 1069 = .ok (.iadd, 1) := by decide +kernel
theorem dL_law_1070 : decode cL_law 1070 = .ok (.iaload, 1) := by decide +kernel
theorem dL_law_1071 : decode cL_law 1071 = .ok (.invokevirtual 134, 3) := by decide +kernel
theorem dL_law_1074 : decode cL_law 1074 = .ok (.if_icmp .eq 302, 3) := by decide +kernel
theorem dL_law_1077 : decode cL_law 1077 = .ok (.iconst 0, 1) := by decide +kernel
theorem dL_law_1078 : decode cL_law 1078 = .ok (.ireturn, 1) := by decide +kernel
theorem dL_law_1079 : decode cL_law 1079 = .ok (.aload_n 1, 1) := by decide +kernel
theorem dL_law_1080 : decode cL_law 1080 = .ok (.aload_n 0, 1) := by decide +kernel
theorem dL_law_1081 : decode cL_law 1081 = .ok (.iload_n 3, 1) := by decide +kernel
theorem dL_law_1082 : decode cL_law 1082 = .ok (.iconst 1, 1) := by decide +kernel
theorem dL_law_1083 : decode cL_law 1083 = .ok (.iadd, 1) := by decide +kernel
theorem dL_law_1084 : decode cL_law 1084 = .ok (.iaload, 1) := by decide +kernel
theorem dL_law_1085 : decode cL_law 1085 = .ok (.aload_n 0, 1) := by decide +kernel
theorem dL_law_1086 : decode cL_law 1086 = .ok (.iload_n 3, 1) := by decide +kernel
theorem dL_law_1087 : decode cL_law 1087 = .ok (.iconst 2, 1) := by decide +kernel
theorem dL_law_1088 : decode cL_law 1088 = .ok (.iadd, 1) := by decide +kernel
theorem dL_law_1089 : decode cL_law 1089 = .ok (.iaload, 1) := by decide +kernel
theorem dL_law_1090 : decode cL_law 1090 = .ok (.invokevirtual 135, 3) := by decide +kernel
theorem dL_law_1093 : decode cL_law 1093 = .ok (.aload_n 2, 1) := by decide +kernel
theorem dL_law_1094 : decode cL_law 1094 = .ok (.aload_n 0, 1) := by decide +kernel
theorem dL_law_1095 : decode cL_law 1095 = .ok (.iload_n 3, 1) := by decide +kernel
theorem dL_law_1096 : decode cL_law 1096 = .ok (.iconst 1, 1) := by decide +kernel
theorem dL_law_1097 : decode cL_law 1097 = .ok (.iadd, 1) := by decide +kernel
theorem dL_law_1098 : decode cL_law 1098 = .ok (.iaload, 1) := by decide +kernel
theorem dL_law_1099 : decode cL_law 1099 = .ok (.aload_n 0, 1) := by decide +kernel
theorem dL_law_1100 : decode cL_law 1100 = .ok (.iload_n 3, 1) := by decide +kernel
theorem dL_law_1101 : decode cL_law 1101 = .ok (.iconst 2, 1) := by decide +kernel
theorem dL_law_1102 : decode cL_law 1102 = .ok (.iadd, 1) := by decide +kernel
theorem dL_law_1103 : decode cL_law 1103 = .ok (.iaload, 1) := by decide +kernel
theorem dL_law_1104 : decode cL_law 1104 = .ok (.invokevirtual 138, 3) := by decide +kernel
theorem dL_law_1107 : decode cL_law 1107 = .ok (.if_icmp .eq 269, 3) := by decide +kernel
theorem dL_law_1110 : decode cL_law 1110 = .ok (.iconst 0, 1) := by decide +kernel
theorem dL_law_1111 : decode cL_law 1111 = .ok (.ireturn, 1) := by decide +kernel
theorem dL_law_1112 : decode cL_law 1112 = .ok (.aload_n 1, 1) := by decide +kernel
theorem dL_law_1113 : decode cL_law 1113 = .ok (.aload_n 0, 1) := by decide +kernel
theorem dL_law_1114 : decode cL_law 1114 = .ok (.iload_n 3, 1) := by decide +kernel
theorem dL_law_1115 : decode cL_law 1115 = .ok (.iconst 1, 1) := by decide +kernel
theorem dL_law_1116 : decode cL_law 1116 = .ok (.iadd, 1) := by decide +kernel
theorem dL_law_1117 : decode cL_law 1117 = .ok (.iaload, 1) := by decide +kernel
theorem dL_law_1118 : decode cL_law 1118 = .ok (.aload_n 0, 1) := by decide +kernel
theorem dL_law_1119 : decode cL_law 1119 = .ok (.iload_n 3, 1) := by decide +kernel
theorem dL_law_1120 : decode cL_law 1120 = .ok (.iconst 2, 1) := by decide +kernel
theorem dL_law_1121 : decode cL_law 1121 = .ok (.iadd, 1) := by decide +kernel
theorem dL_law_1122 : decode cL_law 1122 = .ok (.iaload, 1) := by decide +kernel
theorem dL_law_1123 : decode cL_law 1123 = .ok (.aload_n 0, 1) := by decide +kernel
theorem dL_law_1124 : decode cL_law 1124 = .ok (.iload_n 3, 1) := by decide +kernel
theorem dL_law_1125 : decode cL_law 1125 = .ok (.iconst 3, 1) := by decide +kernel
theorem dL_law_1126 : decode cL_law 1126 = .ok (.iadd, 1) := by decide +kernel
theorem dL_law_1127 : decode cL_law 1127 = .ok (.iaload, 1) := by decide +kernel
theorem dL_law_1128 : decode cL_law 1128 = .ok (.invokevirtual 139, 3) := by decide +kernel
theorem dL_law_1131 : decode cL_law 1131 = .ok (.aload_n 2, 1) := by decide +kernel
theorem dL_law_1132 : decode cL_law 1132 = .ok (.aload_n 0, 1) := by decide +kernel
theorem dL_law_1133 : decode cL_law 1133 = .ok (.iload_n 3, 1) := by decide +kernel
theorem dL_law_1134 : decode cL_law 1134 = .ok (.iconst 1, 1) := by decide +kernel
theorem dL_law_1135 : decode cL_law 1135 = .ok (.iadd, 1) := by decide +kernel
theorem dL_law_1136 : decode cL_law 1136 = .ok (.iaload, 1) := by decide +kernel
theorem dL_law_1137 : decode cL_law 1137 = .ok (.aload_n 0, 1) := by decide +kernel
theorem dL_law_1138 : decode cL_law 1138 = .ok (.iload_n 3, 1) := by decide +kernel
theorem dL_law_1139 : decode cL_law 1139 = .ok (.iconst 2, 1) := by decide +kernel
theorem dL_law_1140 : decode cL_law 1140 = .ok (.iadd, 1) := by decide +kernel
theorem dL_law_1141 : decode cL_law 1141 = .ok (.iaload, 1) := by decide +kernel
theorem dL_law_1142 : decode cL_law 1142 = .ok (.aload_n 0, 1) := by decide +kernel
theorem dL_law_1143 : decode cL_law 1143 = .ok (.iload_n 3, 1) := by decide +kernel
theorem dL_law_1144 : decode cL_law 1144 = .ok (.iconst 3, 1) := by decide +kernel
theorem dL_law_1145 : decode cL_law 1145 = .ok (.iadd, 1) := by decide +kernel
theorem dL_law_1146 : decode cL_law 1146 = .ok (.iaload, 1) := by decide +kernel
theorem dL_law_1147 : decode cL_law 1147 = .ok (.invokevirtual 142, 3) := by decide +kernel
theorem dL_law_1150 : decode cL_law 1150 = .ok (.if_icmp .eq 226, 3) := by decide +kernel
theorem dL_law_1153 : decode cL_law 1153 = .ok (.iconst 0, 1) := by decide +kernel
theorem dL_law_1154 : decode cL_law 1154 = .ok (.ireturn, 1) := by decide +kernel
theorem dL_law_1155 : decode cL_law 1155 = .ok (.aload_n 1, 1) := by decide +kernel
theorem dL_law_1156 : decode cL_law 1156 = .ok (.aload_n 0, 1) := by decide +kernel
theorem dL_law_1157 : decode cL_law 1157 = .ok (.iload_n 3, 1) := by decide +kernel
theorem dL_law_1158 : decode cL_law 1158 = .ok (.iconst 1, 1) := by decide +kernel
theorem dL_law_1159 : decode cL_law 1159 = .ok (.iadd, 1) := by decide +kernel
theorem dL_law_1160 : decode cL_law 1160 = .ok (.iaload, 1) := by decide +kernel
theorem dL_law_1161 : decode cL_law 1161 = .ok (.invokevirtual 143, 3) := by decide +kernel
theorem dL_law_1164 : decode cL_law 1164 = .ok (.aload_n 2, 1) := by decide +kernel
theorem dL_law_1165 : decode cL_law 1165 = .ok (.aload_n 0, 1) := by decide +kernel
theorem dL_law_1166 : decode cL_law 1166 = .ok (.iload_n 3, 1) := by decide +kernel
theorem dL_law_1167 : decode cL_law 1167 = .ok (.iconst 1, 1) := by decide +kernel
theorem dL_law_1168 : decode cL_law 1168 = .ok (.iadd, 1) := by decide +kernel
theorem dL_law_1169 : decode cL_law 1169 = .ok (.iaload, 1) := by decide +kernel
theorem dL_law_1170 : decode cL_law 1170 = .ok (.invokevirtual 146, 3) := by decide +kernel
theorem dL_law_1173 : decode cL_law 1173 = .ok (.if_icmp .eq 203, 3) := by decide +kernel
theorem dL_law_1176 : decode cL_law 1176 = .ok (.iconst 0, 1) := by decide +kernel
theorem dL_law_1177 : decode cL_law 1177 = .ok (.ireturn, 1) := by decide +kernel
theorem dL_law_1178 : decode cL_law 1178 = .ok (.aload_n 1, 1) := by decide +kernel
theorem dL_law_1179 : decode cL_law 1179 = .ok (.aload_n 0, 1) := by decide +kernel
theorem dL_law_1180 : decode cL_law 1180 = .ok (.iload_n 3, 1) := by decide +kernel
theorem dL_law_1181 : decode cL_law 1181 = .ok (.iconst 1, 1) := by decide +kernel
theorem dL_law_1182 : decode cL_law 1182 = .ok (.iadd, 1) := by decide +kernel
theorem dL_law_1183 : decode cL_law 1183 = .ok (.iaload, 1) := by decide +kernel
theorem dL_law_1184 : decode cL_law 1184 = .ok (.invokevirtual 147, 3) := by decide +kernel
theorem dL_law_1187 : decode cL_law 1187 = .ok (.aload_n 2, 1) := by decide +kernel
theorem dL_law_1188 : decode cL_law 1188 = .ok (.aload_n 0, 1) := by decide +kernel
theorem dL_law_1189 : decode cL_law 1189 = .ok (.iload_n 3, 1) := by decide +kernel
theorem dL_law_1190 : decode cL_law 1190 = .ok (.iconst 1, 1) := by decide +kernel
theorem dL_law_1191 : decode cL_law 1191 = .ok (.iadd, 1) := by decide +kernel
theorem dL_law_1192 : decode cL_law 1192 = .ok (.iaload, 1) := by decide +kernel
theorem dL_law_1193 : decode cL_law 1193 = .ok (.invokevirtual 150, 3) := by decide +kernel
theorem dL_law_1196 : decode cL_law 1196 = .ok (.if_icmp .eq 180, 3) := by decide +kernel
theorem dL_law_1199 : decode cL_law 1199 = .ok (.iconst 0, 1) := by decide +kernel
theorem dL_law_1200 : decode cL_law 1200 = .ok (.ireturn, 1) := by decide +kernel
theorem dL_law_1201 : decode cL_law 1201 = .ok (.aload_n 1, 1) := by decide +kernel
theorem dL_law_1202 : decode cL_law 1202 = .ok (.aload_n 0, 1) := by decide +kernel
theorem dL_law_1203 : decode cL_law 1203 = .ok (.iload_n 3, 1) := by decide +kernel
theorem dL_law_1204 : decode cL_law 1204 = .ok (.iconst 1, 1) := by decide +kernel
theorem dL_law_1205 : decode cL_law 1205 = .ok (.iadd, 1) := by decide +kernel
theorem dL_law_1206 : decode cL_law 1206 = .ok (.iaload, 1) := by decide +kernel
theorem dL_law_1207 : decode cL_law 1207 = .ok (.aload_n 0, 1) := by decide +kernel
theorem dL_law_1208 : decode cL_law 1208 = .ok (.iload_n 3, 1) := by decide +kernel
theorem dL_law_1209 : decode cL_law 1209 = .ok (.iconst 2, 1) := by decide +kernel
theorem dL_law_1210 : decode cL_law 1210 = .ok (.iadd, 1) := by decide +kernel
theorem dL_law_1211 : decode cL_law 1211 = .ok (.iaload, 1) := by decide +kernel
theorem dL_law_1212 : decode cL_law 1212 = .ok (.aload_n 0, 1) := by decide +kernel
theorem dL_law_1213 : decode cL_law 1213 = .ok (.iload_n 3, 1) := by decide +kernel
theorem dL_law_1214 : decode cL_law 1214 = .ok (.iconst 3, 1) := by decide +kernel
theorem dL_law_1215 : decode cL_law 1215 = .ok (.iadd, 1) := by decide +kernel
theorem dL_law_1216 : decode cL_law 1216 = .ok (.iaload, 1) := by decide +kernel
theorem dL_law_1217 : decode cL_law 1217 = .ok (.invokevirtual 151, 3) := by decide +kernel
theorem dL_law_1220 : decode cL_law 1220 = .ok (.aload_n 2, 1) := by decide +kernel
theorem dL_law_1221 : decode cL_law 1221 = .ok (.aload_n 0, 1) := by decide +kernel
theorem dL_law_1222 : decode cL_law 1222 = .ok (.iload_n 3, 1) := by decide +kernel
theorem dL_law_1223 : decode cL_law 1223 = .ok (.iconst 1, 1) := by decide +kernel
theorem dL_law_1224 : decode cL_law 1224 = .ok (.iadd, 1) := by decide +kernel
theorem dL_law_1225 : decode cL_law 1225 = .ok (.iaload, 1) := by decide +kernel
theorem dL_law_1226 : decode cL_law 1226 = .ok (.aload_n 0, 1) := by decide +kernel
theorem dL_law_1227 : decode cL_law 1227 = .ok (.iload_n 3, 1) := by decide +kernel
theorem dL_law_1228 : decode cL_law 1228 = .ok (.iconst 2, 1) := by decide +kernel
theorem dL_law_1229 : decode cL_law 1229 = .ok (.iadd, 1) := by decide +kernel
theorem dL_law_1230 : decode cL_law 1230 = .ok (.iaload, 1) := by decide +kernel
theorem dL_law_1231 : decode cL_law 1231 = .ok (.aload_n 0, 1) := by decide +kernel
theorem dL_law_1232 : decode cL_law 1232 = .ok (.iload_n 3, 1) := by decide +kernel
theorem dL_law_1233 : decode cL_law 1233 = .ok (.iconst 3, 1) := by decide +kernel
theorem dL_law_1234 : decode cL_law 1234 = .ok (.iadd, 1) := by decide +kernel
theorem dL_law_1235 : decode cL_law 1235 = .ok (.iaload, 1) := by decide +kernel
theorem dL_law_1236 : decode cL_law 1236 = .ok (.invokevirtual 154, 3) := by decide +kernel
theorem dL_law_1239 : decode cL_law 1239 = .ok (.if_icmp .eq 137, 3) := by decide +kernel
theorem dL_law_1242 : decode cL_law 1242 = .ok (.iconst 0, 1) := by decide +kernel
theorem dL_law_1243 : decode cL_law 1243 = .ok (.ireturn, 1) := by decide +kernel
theorem dL_law_1244 : decode cL_law 1244 = .ok (.aload_n 1, 1) := by decide +kernel
theorem dL_law_1245 : decode cL_law 1245 = .ok (.aload_n 0, 1) := by decide +kernel
theorem dL_law_1246 : decode cL_law 1246 = .ok (.iload_n 3, 1) := by decide +kernel
theorem dL_law_1247 : decode cL_law 1247 = .ok (.iconst 1, 1) := by decide +kernel
theorem dL_law_1248 : decode cL_law 1248 = .ok (.iadd, 1) := by decide +kernel
theorem dL_law_1249 : decode cL_law 1249 = .ok (.iaload, 1) := by decide +kernel
theorem dL_law_1250 : decode cL_law 1250 = .ok (.aload_n 0, 1) := by decide +kernel
theorem dL_law_1251 : decode cL_law 1251 = .ok (.iload_n 3, 1) := by decide +kernel
theorem dL_law_1252 : decode cL_law 1252 = .ok (.iconst 2, 1) := by decide +kernel
theorem dL_law_1253 : decode cL_law 1253 = .ok (.iadd, 1) := by decide +kernel
theorem dL_law_1254 : decode cL_law 1254 = .ok (.iaload, 1) := by decide +kernel
theorem dL_law_1255 : decode cL_law 1255 = .ok (.aload_n 0, 1) := by decide +kernel
theorem dL_law_1256 : decode cL_law 1256 = .ok (.iload_n 3, 1) := by decide +kernel
theorem dL_law_1257 : decode cL_law 1257 = .ok (.iconst 3, 1) := by decide +kernel
theorem dL_law_1258 : decode cL_law 1258 = .ok (.iadd, 1) := by decide +kernel
theorem dL_law_1259 : decode cL_law 1259 = .ok (.iaload, 1) := by decide +kernel
theorem dL_law_1260 : decode cL_law 1260 = .ok (.invokevirtual 155, 3) := by decide +kernel
theorem dL_law_1263 : decode cL_law 1263 = .ok (.aload_n 2, 1) := by decide +kernel
theorem dL_law_1264 : decode cL_law 1264 = .ok (.aload_n 0, 1) := by decide +kernel
theorem dL_law_1265 : decode cL_law 1265 = .ok (.iload_n 3, 1) := by decide +kernel
theorem dL_law_1266 : decode cL_law 1266 = .ok (.iconst 1, 1) := by decide +kernel
theorem dL_law_1267 : decode cL_law 1267 = .ok (.iadd, 1) := by decide +kernel
theorem dL_law_1268 : decode cL_law 1268 = .ok (.iaload, 1) := by decide +kernel
theorem dL_law_1269 : decode cL_law 1269 = .ok (.aload_n 0, 1) := by decide +kernel
theorem dL_law_1270 : decode cL_law 1270 = .ok (.iload_n 3, 1) := by decide +kernel
theorem dL_law_1271 : decode cL_law 1271 = .ok (.iconst 2, 1) := by decide +kernel
theorem dL_law_1272 : decode cL_law 1272 = .ok (.iadd, 1) := by decide +kernel
theorem dL_law_1273 : decode cL_law 1273 = .ok (.iaload, 1) := by decide +kernel
theorem dL_law_1274 : decode cL_law 1274 = .ok (.aload_n 0, 1) := by decide +kernel
theorem dL_law_1275 : decode cL_law 1275 = .ok (.iload_n 3, 1) := by decide +kernel
theorem dL_law_1276 : decode cL_law 1276 = .ok (.iconst 3, 1) := by decide +kernel
theorem dL_law_1277 : decode cL_law 1277 = .ok (.iadd, 1) := by decide +kernel
theorem dL_law_1278 : decode cL_law 1278 = .ok (.iaload, 1) := by decide +kernel
theorem dL_law_1279 : decode cL_law 1279 = .ok (.invokevirtual 158, 3) := by decide +kernel
theorem dL_law_1282 : decode cL_law 1282 = .ok (.if_icmp .eq 94, 3) := by decide +kernel
theorem dL_law_1285 : decode cL_law 1285 = .ok (.iconst 0, 1) := by decide +kernel
theorem dL_law_1286 : decode cL_law 1286 = .ok (.ireturn, 1) := by decide +kernel
theorem dL_law_1287 : decode cL_law 1287 = .ok (.aload_n 1, 1) := by decide +kernel
theorem dL_law_1288 : decode cL_law 1288 = .ok (.aload_n 0, 1) := by decide +kernel
theorem dL_law_1289 : decode cL_law 1289 = .ok (.iload_n 3, 1) := by decide +kernel
theorem dL_law_1290 : decode cL_law 1290 = .ok (.iconst 1, 1) := by decide +kernel
theorem dL_law_1291 : decode cL_law 1291 = .ok (.iadd, 1) := by decide +kernel
theorem dL_law_1292 : decode cL_law 1292 = .ok (.iaload, 1) := by decide +kernel
theorem dL_law_1293 : decode cL_law 1293 = .ok (.aload_n 0, 1) := by decide +kernel
theorem dL_law_1294 : decode cL_law 1294 = .ok (.iload_n 3, 1) := by decide +kernel
theorem dL_law_1295 : decode cL_law 1295 = .ok (.iconst 2, 1) := by decide +kernel
theorem dL_law_1296 : decode cL_law 1296 = .ok (.iadd, 1) := by decide +kernel
theorem dL_law_1297 : decode cL_law 1297 = .ok (.iaload, 1) := by decide +kernel
theorem dL_law_1298 : decode cL_law 1298 = .ok (.aload_n 0, 1) := by decide +kernel
theorem dL_law_1299 : decode cL_law 1299 = .ok (.iload_n 3, 1) := by decide +kernel
theorem dL_law_1300 : decode cL_law 1300 = .ok (.iconst 3, 1) := by decide +kernel
theorem dL_law_1301 : decode cL_law 1301 = .ok (.iadd, 1) := by decide +kernel
theorem dL_law_1302 : decode cL_law 1302 = .ok (.iaload, 1) := by decide +kernel
theorem dL_law_1303 : decode cL_law 1303 = .ok (.aload_n 0, 1) := by decide +kernel
theorem dL_law_1304 : decode cL_law 1304 = .ok (.iload_n 3, 1) := by decide +kernel
theorem dL_law_1305 : decode cL_law 1305 = .ok (.iconst 4, 1) := by decide +kernel
theorem dL_law_1306 : decode cL_law 1306 = .ok (.iadd, 1) := by decide +kernel
theorem dL_law_1307 : decode cL_law 1307 = .ok (.iaload, 1) := by decide +kernel
theorem dL_law_1308 : decode cL_law 1308 = .ok (.invokevirtual 159, 3) := by decide +kernel
theorem dL_law_1311 : decode cL_law 1311 = .ok (.aload_n 2, 1) := by decide +kernel
theorem dL_law_1312 : decode cL_law 1312 = .ok (.aload_n 0, 1) := by decide +kernel
theorem dL_law_1313 : decode cL_law 1313 = .ok (.iload_n 3, 1) := by decide +kernel
theorem dL_law_1314 : decode cL_law 1314 = .ok (.iconst 1, 1) := by decide +kernel
theorem dL_law_1315 : decode cL_law 1315 = .ok (.iadd, 1) := by decide +kernel
theorem dL_law_1316 : decode cL_law 1316 = .ok (.iaload, 1) := by decide +kernel
theorem dL_law_1317 : decode cL_law 1317 = .ok (.aload_n 0, 1) := by decide +kernel
theorem dL_law_1318 : decode cL_law 1318 = .ok (.iload_n 3, 1) := by decide +kernel
theorem dL_law_1319 : decode cL_law 1319 = .ok (.iconst 2, 1) := by decide +kernel
theorem dL_law_1320 : decode cL_law 1320 = .ok (.iadd, 1) := by decide +kernel
theorem dL_law_1321 : decode cL_law 1321 = .ok (.iaload, 1) := by decide +kernel
theorem dL_law_1322 : decode cL_law 1322 = .ok (.aload_n 0, 1) := by decide +kernel
theorem dL_law_1323 : decode cL_law 1323 = .ok (.iload_n 3, 1) := by decide +kernel
theorem dL_law_1324 : decode cL_law 1324 = .ok (.iconst 3, 1) := by decide +kernel
theorem dL_law_1325 : decode cL_law 1325 = .ok (.iadd, 1) := by decide +kernel
theorem dL_law_1326 : decode cL_law 1326 = .ok (.iaload, 1) := by decide +kernel
theorem dL_law_1327 : decode cL_law 1327 = .ok (.aload_n 0, 1) := by decide +kernel
theorem dL_law_1328 : decode cL_law 1328 = .ok (.iload_n 3, 1) := by decide +kernel
theorem dL_law_1329 : decode cL_law 1329 = .ok (.iconst 4, 1) := by decide +kernel
theorem dL_law_1330 : decode cL_law 1330 = .ok (.iadd, 1) := by decide +kernel
theorem dL_law_1331 : decode cL_law 1331 = .ok (.iaload, 1) := by decide +kernel
theorem dL_law_1332 : decode cL_law 1332 = .ok (.invokevirtual 163, 3) := by decide +kernel
theorem dL_law_1335 : decode cL_law 1335 = .ok (.if_icmp .eq 41, 3) := by decide +kernel
theorem dL_law_1338 : decode cL_law 1338 = .ok (.iconst 0, 1) := by decide +kernel
theorem dL_law_1339 : decode cL_law 1339 = .ok (.ireturn, 1) := by decide +kernel
theorem dL_law_1340 : decode cL_law 1340 = .ok (.aload_n 1, 1) := by decide +kernel
theorem dL_law_1341 : decode cL_law 1341 = .ok (.invokevirtual 164, 3) := by decide +kernel
theorem dL_law_1344 : decode cL_law 1344 = .ok (.aload_n 2, 1) := by decide +kernel
theorem dL_law_1345 : decode cL_law 1345 = .ok (.invokevirtual 167, 3) := by decide +kernel
theorem dL_law_1348 : decode cL_law 1348 = .ok (.if_icmp .eq 28, 3) := by decide +kernel
theorem dL_law_1351 : decode cL_law 1351 = .ok (.iconst 0, 1) := by decide +kernel
theorem dL_law_1352 : decode cL_law 1352 = .ok (.ireturn, 1) := by decide +kernel
theorem dL_law_1353 : decode cL_law 1353 = .ok (.aload_n 1, 1) := by decide +kernel
theorem dL_law_1354 : decode cL_law 1354 = .ok (.aload_n 0, 1) := by decide +kernel
theorem dL_law_1355 : decode cL_law 1355 = .ok (.iload_n 3, 1) := by decide +kernel
theorem dL_law_1356 : decode cL_law 1356 = .ok (.iconst 1, 1) := by decide +kernel
theorem dL_law_1357 : decode cL_law 1357 = .ok (.iadd, 1) := by decide +kernel
theorem dL_law_1358 : decode cL_law 1358 = .ok (.iaload, 1) := by decide +kernel
theorem dL_law_1359 : decode cL_law 1359 = .ok (.invokevirtual 168, 3) := by decide +kernel
theorem dL_law_1362 : decode cL_law 1362 = .ok (.aload_n 2, 1) := by decide +kernel
theorem dL_law_1363 : decode cL_law 1363 = .ok (.aload_n 0, 1) := by decide +kernel
theorem dL_law_1364 : decode cL_law 1364 = .ok (.iload_n 3, 1) := by decide +kernel
theorem dL_law_1365 : decode cL_law 1365 = .ok (.iconst 1, 1) := by decide +kernel
theorem dL_law_1366 : decode cL_law 1366 = .ok (.iadd, 1) := by decide +kernel
theorem dL_law_1367 : decode cL_law 1367 = .ok (.iaload, 1) := by decide +kernel
theorem dL_law_1368 : decode cL_law 1368 = .ok (.invokevirtual 171, 3) := by decide +kernel
theorem dL_law_1371 : decode cL_law 1371 = .ok (.if_icmp .eq 5, 3) := by decide +kernel
theorem dL_law_1374 : decode cL_law 1374 = .ok (.iconst 0, 1) := by decide +kernel
theorem dL_law_1375 : decode cL_law 1375 = .ok (.ireturn, 1) := by decide +kernel
theorem dL_law_1376 : decode cL_law 1376 = .ok (.iinc 3 5, 3) := by decide +kernel
theorem dL_law_1379 : decode cL_law 1379 = .ok (.goto (-1361), 3) := by decide +kernel
theorem dL_law_1382 : decode cL_law 1382 = .ok (.iconst 1, 1) := by decide +kernel
theorem dL_law_1383 : decode cL_law 1383 = .ok (.ireturn, 1) := by decide +kernel
end
section
/-! ===== X: a walk's judgement over one flat world: what is made lies at the heap's end, so an object's number is its address less B; ints are told as Int ===== -/
abbrev Mem : Type := Nat → Int → Int
abbrev Shp : Type := Nat ⊕ (Nat × Nat)
abbrev Hp : Type := List Shp × (Nat → Nat → Option Nat) × Mem
abbrev XT : Type := MethodName × ByteArray × Nat × Option FieldType
abbrev GG : Type := Launch × va_G × (Nat → ClassId) × Nat × (Nat → Nat) × (Nat → Nat)
def gL (g : GG) : Launch := g.1
def gD (g : GG) : va_G := g.2.1
def gA (g : GG) : Nat → ClassId := g.2.2.1
def gB (g : GG) : Nat := g.2.2.2.1
def gK (g : GG) : Nat → Nat := g.2.2.2.2.1
def gV (g : GG) : Nat → Nat := g.2.2.2.2.2
def iv (a : Int) : Value := .int (Int32.ofInt a)
def jv (a : Int) : Value := .long (Int64.ofInt a)
def rv (g : GG) (i : Nat) : Value := .ref (gB g + i)
abbrev xcl : List vw_C := [(RX0, TX0, 2), (RX1, TX1, 9), (RX2, TX2, 3), (RX3, TX3, 3), (RX4, TX4, 2), (RX5, TX5, 7), (RX6, TX6, 13), (RX7, TX7, 29)]
def xC : Nat → String
  | 0 => RX0 | 1 => RX1 | 2 => RX2 | 3 => RX3 | 4 => RX4 | 5 => RX5 | 6 => RX6 | _ => RX7
def xT : Nat → u_T
  | 0 => TX0 | 1 => TX1 | 2 => TX2 | 3 => TX3 | 4 => TX4 | 5 => TX5 | 6 => TX6 | _ => TX7
def xN : Nat → Nat
  | 0 => 2 | 1 => 9 | 2 => 3 | 3 => 3 | 4 => 2 | 5 => 7 | 6 => 13 | _ => 29
def xty : Nat → Nat → FieldType
  | 0 => tyX0 | 1 => tyX1 | 2 => tyX2 | 3 => tyX3 | 4 => tyX4 | 5 => tyX5 | 6 => tyX6 | _ => tyX7
theorem xcl_at {ci : Nat} (h : ci < 8) : xcl[ci]? = some (xC ci, xT ci, xN ci) := by
  match ci, h with
  | 0, _ => rfl
  | 1, _ => rfl
  | 2, _ => rfl
  | 3, _ => rfl
  | 4, _ => rfl
  | 5, _ => rfl
  | 6, _ => rfl
  | 7, _ => rfl
theorem xty_ok {ci : Nat} (h : ci < 8) : ∀ k, k < xN ci → parseFieldDescriptor (xT ci k).2.2.1 = some (xty ci k) := by
  match ci, h with
  | 0, _ => exact tyX0_ok
  | 1, _ => exact tyX1_ok
  | 2, _ => exact tyX2_ok
  | 3, _ => exact tyX3_ok
  | 4, _ => exact tyX4_ok
  | 5, _ => exact tyX5_ok
  | 6, _ => exact tyX6_ok
  | 7, _ => exact tyX7_ok
theorem xnm {ci : Nat} (h : ci < 8) : ∀ a, a < xN ci → ∀ b, b < xN ci → a ≠ b → (xT ci a).2.1 ≠ (xT ci b).2.1 := by
  match ci, h with
  | 0, _ => exact nmX0
  | 1, _ => exact nmX1
  | 2, _ => exact nmX2
  | 3, _ => exact nmX3
  | 4, _ => exact nmX4
  | 5, _ => exact nmX5
  | 6, _ => exact nmX6
  | 7, _ => exact nmX7
/-- is a field of class ci a reference -/
def xRef (ci k : Nat) : Bool := match xty ci k with
  | .int => false
  | _ => true
theorem xRef_int {ci k : Nat} (h : xRef ci k = false) : xty ci k = .int := by
  unfold xRef at h
  split at h
  · assumption
  · cases h
def xTy : Nat → FieldType
  | 0 => .int | 1 => .byte | 2 => .boolean | 3 => .object RX1 | _ => .object RX2
def xtys (g : GG) : List (ClassId × FieldType) := [(gA g 0, .int), (gA g 1, .byte), (gA g 2, .boolean), (gA g 3, .object RX1), (gA g 4, .object RX2)]
/-- the tables' words that may be handed on -/
def xG : List Cond := lw_tbl.filter goodWord
theorem xm {w : Cond} (k : Nat) (h : tables_1[k]? = some w) (hg : goodWord w = true) : w ∈ xG :=
  List.mem_filter.mpr ⟨List.mem_append_right _ (List.mem_of_getElem? h), hg⟩
theorem xmp {y : MethodName} (k : Nat) (h : (lw_privs[k]?).map (fun q => q.1) = some y) : Cond.selects y.cls y y ∈ xG := by
  refine List.mem_filter.mpr ⟨List.mem_append_left _ ?_, rfl⟩
  cases e : lw_privs[k]? with
  | none => rw [e] at h; cases h
  | some q =>
    rw [e] at h
    cases h
    exact List.mem_map.mpr ⟨q, List.mem_of_getElem? e, rfl⟩
def xws (T : XT) : List Cond := Cond.code T.1 T.2.1 T.2.2.1 T.2.2.2 :: xG
theorem xgood {T : XT} (h : Cond.code T.1 T.2.1 T.2.2.1 T.2.2.2 ∈ xG) : GoodIn xG (xws T) := by
  intro w hw
  rcases List.mem_cons.mp hw with rfl | hw
  · exact ⟨h, good_of_word (List.mem_filter.mp h).2⟩
  · exact ⟨hw, good_of_word (List.mem_filter.mp hw).2⟩
/-! the cells -/
def xF (g : GG) (hp : Hp) (i ci k : Nat) : Value := if xRef ci k = true then va_rf ((hp.2.1 i k).map (fun q => gB g + q)) else iv (hp.2.2 i (k : Int))
def xE (g : GG) (hp : Hp) (i : Nat) (s : Shp) : va_E := match s with
  | .inl ci => .inr (ci, (List.range (xN ci)).map (xF g hp i ci))
  | .inr (t, n) => .inl (gA g t, n, if t < 3 then .inl (fun j => Int32.ofInt (hp.2.2 i (j : Int))) else .inr (.inr (.inr (.inr (fun j => (hp.2.1 i j).map (fun q => gB g + q))))))
def xW (g : GG) (hp : Hp) : va_W := (List.range hp.1.length).map (fun i => (gB g + i, xE g hp i (hp.1.getD i (.inl 0))))
def xI (g : GG) (hp : Hp) (H : Heap) : Prop := va_P (gD g) xcl (xW g hp) H ∧ ∀ i k, -2147483648 ≤ hp.2.2 i k ∧ hp.2.2 i k ≤ 2147483647
theorem xW_len (g : GG) (hp : Hp) : (xW g hp).length = hp.1.length := by simp [xW]
theorem xW_get (g : GG) (hp : Hp) (i : Nat) : (xW g hp)[i]? = if i < hp.1.length then some (gB g + i, xE g hp i (hp.1.getD i (.inl 0))) else none := by
  unfold xW
  by_cases h : i < hp.1.length
  · rw [if_pos h]; simp [h]
  · rw [if_neg h]; simp [h]
theorem xW_at {g : GG} {hp : Hp} {i : Nat} {s : Shp} (h : hp.1[i]? = some s) : (xW g hp)[i]? = some (gB g + i, xE g hp i s) := by
  have hl : i < hp.1.length := (List.getElem?_eq_some_iff.mp h).1
  rw [xW_get, if_pos hl]
  have : hp.1.getD i (.inl 0) = s := by simp [List.getD, h]
  rw [this]
theorem xDD (g : GG) (hp : Hp) : va_D (fun q => gB g ≤ q) (xW g hp) := by
  refine ⟨fun i j p q h1 h2 e => ?_, fun k q h => ?_⟩
  · rw [xW_get] at h1 h2
    split at h1
    · split at h2
      · cases h1; cases h2
        have e : gB g + i = gB g + j := e
        omega
      · cases h2
    · cases h1
  · rw [xW_get] at h
    split at h
    · cases h; exact Nat.le_add_right _ _
    · cases h
theorem xE_cong {g : GG} {hp hp' : Hp} {i : Nat} (s : Shp) (h1 : hp'.2.1 i = hp.2.1 i) (h2 : hp'.2.2 i = hp.2.2 i) : xE g hp' i s = xE g hp i s := by
  cases s with
  | inl ci =>
    have : xF g hp' i ci = xF g hp i ci := by
      funext k
      simp only [xF, h1, h2]
    simp only [xE, this]
  | inr q => simp only [xE, h1, h2]
theorem xW_upd {g : GG} {hp hp' : Hp} {i : Nat} {s : Shp} (h : hp.1[i]? = some s) (hs : hp'.1 = hp.1) (h1 : ∀ j, j ≠ i → hp'.2.1 j = hp.2.1 j) (h2 : ∀ j, j ≠ i → hp'.2.2 j = hp.2.2 j) :
    (xW g hp).set i (gB g + i, xE g hp' i s) = xW g hp' := by
  have hl : i < hp.1.length := (List.getElem?_eq_some_iff.mp h).1
  apply List.ext_getElem?
  intro j
  rw [List.getElem?_set, xW_get, xW_get, xW_len, hs]
  by_cases hj : i = j
  · subst hj
    have : hp.1.getD i (.inl 0) = s := by simp [List.getD, h]
    rw [if_pos rfl, if_pos hl, if_pos hl, this]
  · rw [if_neg hj, xE_cong (hp := hp) (hp' := hp') (i := j) _ (h1 j (fun e => hj e.symm)) (h2 j (fun e => hj e.symm))]
theorem xW_push {g : GG} {sh : List Shp} {rf rf' : Nat → Nat → Option Nat} {M M' : Mem} {s : Shp} (h1 : ∀ j, j < sh.length → rf' j = rf j) (h2 : ∀ j, j < sh.length → M' j = M j) :
    xW g (sh, rf, M) ++ [(gB g + sh.length, xE g (sh ++ [s], rf', M') sh.length s)] = xW g (sh ++ [s], rf', M') := by
  apply List.ext_getElem?
  intro j
  rw [xW_get]
  show _ = if j < (sh ++ [s]).length then _ else _
  by_cases hj : j < sh.length
  · rw [List.getElem?_append_left (by rw [xW_len]; exact hj), xW_get]
    show (if j < sh.length then _ else _) = _
    rw [if_pos hj, if_pos (by simp; omega)]
    show some (gB g + j, xE g (sh, rf, M) j (sh.getD j (.inl 0))) = some (gB g + j, xE g (sh ++ [s], rf', M') j ((sh ++ [s]).getD j (.inl 0)))
    have e1 : (sh ++ [s]).getD j (.inl 0) = sh.getD j (.inl 0) := by
      simp [List.getD, List.getElem?_append_left hj]
    have e2 : xE g (sh ++ [s], rf', M') j (sh.getD j (.inl 0)) = xE g (sh, rf, M) j (sh.getD j (.inl 0)) := by
      generalize sh.getD j (.inl 0) = z
      have a1 := h1 j hj
      have a2 := h2 j hj
      cases z with
      | inl ci =>
        have : xF g (sh ++ [s], rf', M') j ci = xF g (sh, rf, M) j ci := by
          funext k
          simp only [xF, a1, a2]
        simp only [xE, this]
      | inr q => simp only [xE, a1, a2]
    rw [e1, e2]
  · rw [List.getElem?_append_right (by rw [xW_len]; exact Nat.le_of_not_lt hj), xW_len]
    show ([_] : va_W)[j - sh.length]? = _
    by_cases hk : j = sh.length
    · subst hk
      rw [if_pos (by simp)]
      have e1 : (sh ++ [s]).getD sh.length (.inl 0) = s := by simp [List.getD]
      rw [Nat.sub_self]
      show some _ = some (gB g + sh.length, xE g (sh ++ [s], rf', M') sh.length ((sh ++ [s]).getD sh.length (.inl 0)))
      rw [e1]
    · rw [if_neg (by simp; omega)]
      have : ¬ j - sh.length < 1 := by omega
      simp [this]
end
section
/-! the locals by their places -/
def xLp (nL : Nat) (L : List (Option Value)) : List (Nat × Value) := (List.range nL).filterMap (fun i => (L.getD i none).map (fun v => (i, v)))
def xL (ls : Array Slot) (nL : Nat) (L : List (Option Value)) : Prop := lv_has ls nL (xLp nL L)
theorem xLp_mem {nL : Nat} {L : List (Option Value)} {i : Nat} {v : Value} (hi : i < nL) (h : L[i]? = some (some v)) : (i, v) ∈ xLp nL L := by
  refine List.mem_filterMap.mpr ⟨i, List.mem_range.mpr hi, ?_⟩
  simp [List.getD, h]
theorem xLp_of {nL : Nat} {L : List (Option Value)} {q : Nat × Value} (h : q ∈ xLp nL L) : q.1 < nL ∧ L[q.1]? = some (some q.2) := by
  obtain ⟨i, h1, h2⟩ := List.mem_filterMap.mp h
  cases e : L.getD i none with
  | none => rw [e] at h2; cases h2
  | some v =>
    rw [e] at h2
    cases h2
    refine ⟨List.mem_range.mp h1, ?_⟩
    cases e2 : L[i]? with
    | none => simp [List.getD, e2] at e
    | some w => simp [List.getD, e2] at e; rw [e]
theorem xL_at {ls : Array Slot} {nL : Nat} {L : List (Option Value)} (h : xL ls nL L) {i : Nat} {v : Value} (hi : i < nL) (hv : L[i]? = some (some v)) : ls[i]? = some (.val v) := h.2.2 (i, v) (xLp_mem hi hv)
/-- no long begins just ahead of place i -/
def xok (L : List (Option Value)) (i : Nat) : Bool := match i with
  | 0 => true
  | j + 1 => match L.getD j none with
    | some w => w.category == 1
    | none => true
theorem xok_spec {L : List (Option Value)} {i j : Nat} {w : Value} (h : xok L i = true) (e : j + 1 = i) (hv : L[j]? = some (some w)) : w.category = 1 := by
  subst e
  simp only [xok, List.getD, hv, Option.getD_some] at h
  exact by simpa using h
theorem xL_store1 {ls : Array Slot} {nL i : Nat} {L : List (Option Value)} {v : Value} (hk : xok L i = true) (h : lv_has ls nL ((i, v) :: (xLp nL L).filter (fun q => !(q.1 == i) && !(q.1 + 1 == i && q.2.category == 2)))) : xL ls nL (L.set i (some v)) := by
  refine ⟨h.1, h.2.1, fun q hq => ?_⟩
  obtain ⟨h1, h2⟩ := xLp_of hq
  apply h.2.2
  rw [List.getElem?_set] at h2
  by_cases e : i = q.1
  · rw [if_pos e] at h2
    split at h2
    · simp at h2
      exact List.mem_cons.mpr (Or.inl (by rw [e, h2]))
    · cases h2
  · rw [if_neg e] at h2
    refine List.mem_cons.mpr (Or.inr (List.mem_filter.mpr ⟨xLp_mem h1 h2, ?_⟩))
    have e' : ¬ q.1 = i := fun z => e z.symm
    by_cases e2 : q.1 + 1 = i
    · have := xok_spec hk e2 h2
      simp [e', this]
    · simp [e', e2]
theorem xL_store2 {ls : Array Slot} {nL i : Nat} {L : List (Option Value)} {v : Value} (hk : xok L i = true) (h : lv_has ls nL ((i, v) :: (xLp nL L).filter (fun q => !(q.1 == i) && (!(q.1 == i + 1) && !(q.1 + 1 == i && q.2.category == 2))))) : xL ls nL ((L.set i (some v)).set (i + 1) none) := by
  refine ⟨h.1, h.2.1, fun q hq => ?_⟩
  obtain ⟨h1, h2⟩ := xLp_of hq
  apply h.2.2
  rw [List.getElem?_set] at h2
  by_cases e0 : i + 1 = q.1
  · rw [if_pos e0] at h2
    split at h2
    · cases h2
    · cases h2
  rw [if_neg e0, List.getElem?_set] at h2
  by_cases e : i = q.1
  · rw [if_pos e] at h2
    split at h2
    · simp at h2
      exact List.mem_cons.mpr (Or.inl (by rw [e, h2]))
    · cases h2
  · rw [if_neg e] at h2
    refine List.mem_cons.mpr (Or.inr (List.mem_filter.mpr ⟨xLp_mem h1 h2, ?_⟩))
    have e' : ¬ q.1 = i := fun z => e z.symm
    have e0' : ¬ q.1 = i + 1 := fun z => e0 z.symm
    by_cases e2 : q.1 + 1 = i
    · have := xok_spec hk e2 h2
      simp [e', e0', this]
    · simp [e', e0', e2]
/-- the locals of an entry -/
def xargs : List Value → List (Option Value)
  | [] => []
  | v :: vs => if v.category = 2 then some v :: none :: xargs vs else some v :: xargs vs
theorem xargs_mem : ∀ (vs : List Value) (k : Nat) {i : Nat} {v : Value}, (xargs vs)[i]? = some (some v) → (k + i, v) ∈ lv_args k vs
  | [], _, i, v, h => by simp [xargs] at h
  | w :: vs, k, i, v, h => by
    by_cases hc : w.category = 2
    · simp only [xargs, hc, if_true] at h
      simp only [lv_args, hc, if_true]
      match i, h with
      | 0, h => simp at h; subst h; exact List.mem_cons_self
      | 1, h => simp at h
      | i + 2, h =>
        have h2 : (xargs vs)[i]? = some (some v) := by simpa using h
        have := xargs_mem vs (k + 2) h2
        rw [show k + (i + 2) = k + 2 + i by omega]
        exact List.mem_cons_of_mem _ this
    · simp only [xargs, hc, if_false] at h
      simp only [lv_args, hc, if_false]
      match i, h with
      | 0, h => simp at h; subst h; exact List.mem_cons_self
      | i + 1, h =>
        have h2 : (xargs vs)[i]? = some (some v) := by simpa using h
        have := xargs_mem vs (k + 1) h2
        rw [show k + (i + 1) = k + 1 + i by omega]
        exact List.mem_cons_of_mem _ this
theorem xL_entry (vs : List Value) {n : Nat} (h : (lg_sl vs).length ≤ n) (L : List (Option Value)) (hL : xargs vs ++ List.replicate (n - (xargs vs).length) none = L) : xL ((lg_sl vs ++ List.replicate (n - (lg_sl vs).length) Slot.unset).toArray) n L := by
  obtain ⟨h1, h2, h3⟩ := lv_entry vs h
  refine ⟨h1, h2, fun q hq => ?_⟩
  obtain ⟨q1, q2⟩ := xLp_of hq
  apply h3
  rw [← hL] at q2
  by_cases hl : q.1 < (xargs vs).length
  · rw [List.getElem?_append_left hl] at q2
    have := xargs_mem vs 0 q2
    rwa [Nat.zero_add] at this
  · rw [List.getElem?_append_right (Nat.le_of_not_lt hl)] at q2
    rw [List.getElem?_replicate] at q2
    split at q2
    · cases q2
    · cases q2
/-! what stands outside the world: five texts, two statics -/
def xA (g : GG) : Nat → Prop := fun q => gB g ≤ q
def xlen : List Nat := [5, 5, 4, 8, 4]
def xbyt : List (List Int32) := [[112, 108, 97, 105, 110], [112, 114, 111, 117, 100], [119, 105, 115, 101], [99, 97, 114, 101, 108, 101, 115, 115], [103, 97, 109, 101]]
def xZ (g : GG) (U : State) (H : Heap) : Prop :=
  vk_S 5 xlen xbyt (gK g) (gV g) (xA g) U H ∧ va_Z "java/lang/String" "COMPACT_STRINGS" "Z" (.int 1) (xA g) U H ∧ va_Zq "jdk/internal/util/Preconditions" "SIOOBE_FORMATTER" "Ljava/util/function/BiFunction;" (xA g) U H
def xNs : List (String × Nat × MethodName × String) := [(RX6, 11, yX5_init, RX6), (RX5, 11, yX4_init, RX6), (RX6, 23, yX1_init, RX6), (RX6, 47, yX3_init, RX6), (RX6, 54, yX0_init, RX6), (RX6, 69, yX2_init, RX6)]
/-- what the tables say beside the words: texts, nest mates, arrays of references -/
def xR (g : GG) (U : State) : Prop := (vk_R RX5 107 "plain" (gK g 0) U ∧ vk_R RX5 113 "proud" (gK g 1) U ∧ vk_R RX5 115 "wise" (gK g 2) U ∧ vk_R RX5 117 "careless" (gK g 3) U ∧ vk_R RX5 119 "game" (gK g 4) U) ∧ (∀ q ∈ xNs, va_Nw (.methodLinkNest q.1 q.2.1 q.2.2.1 q.2.2.2) U) ∧ va_AO RX1 U ∧ va_AO RX2 U
theorem xZ.moved {g : GG} {u U : State} {H : Heap} (hvm : u.vm.Alike U.vm) (h : xZ g u H) : xZ g U H := ⟨h.1.moved hvm, h.2.1.moved hvm, h.2.2.moved hvm⟩
theorem xZ.kept {g : GG} {U : State} {H H1 : Heap} (h : xZ g U H) (hq : ∀ a : Nat, a < H.size → ¬ xA g a → H1[a]? = H[a]?) : xZ g U H1 := ⟨h.1.kept hq, h.2.1.kept hq, h.2.2.kept hq⟩
theorem xR.same {g : GG} {u U : State} (hv : U.vm = u.vm) (h : xR g u) : xR g U :=
  ⟨⟨h.1.1.same hv, h.1.2.1.same hv, h.1.2.2.1.same hv, h.1.2.2.2.1.same hv, h.1.2.2.2.2.same hv⟩, fun q hq => (h.2.1 q hq).same rfl hv.symm, h.2.2.1.moved (by rw [hv]; exact Vm.Alike.refl _), h.2.2.2.moved (by rw [hv]; exact Vm.Alike.refl _)⟩
theorem xR.warm {g : GG} {s U : State} (hW : s.WarmedH U.vm) (h : xR g s) : xR g U :=
  ⟨⟨h.1.1.warm hW, h.1.2.1.warm hW, h.1.2.2.1.warm hW, h.1.2.2.2.1.warm hW, h.1.2.2.2.2.warm hW⟩, fun q hq => (h.2.1 q hq).warmM hW, h.2.2.1.moved hW.alike, h.2.2.2.moved hW.alike⟩
/-! what a walk of a method stands in -/
def XC (g : GG) (T : XT) (p : Program) (s : State) (m : MethodId) (args : Array Value) (meth : Method) (c : Code) : Prop :=
  p.tables.exec = Jvm.exec ∧ c.code = T.2.1 ∧ c.maxLocals = T.2.2.1 ∧ s.vm.findClass T.1.cls = some m.cls ∧ (∀ w ∈ xG, w.before args s = true) ∧ meth.sig.returnType = T.2.2.2 ∧ meth.locks = false ∧ va_K (gD g) xcl (xtys g) s ∧ gB g ≤ s.heap.size ∧ meth.name = T.1.name ∧ xZ g s s.heap ∧ xR g s
/-- what a method leaves (mc: how many cells it made, each of them in the world) -/
def xQ (g : GG) (mc : Nat) (Q : Option Value → Hp → Prop) : Array Value → State → Outcome → State → Prop := fun _ st oc t => (∃ (v : Option Value) (hp : Hp), oc = .returned v ∧ Q v hp ∧ xI g hp t.heap ∧ st.heap.size + mc = gB g + hp.1.length) ∧ va_F (xA g) st t
def xroom (d : Nat) (mc ms : Nat) : Room := { frames := d, cells := mc, slots := ms, locals := 35 * d }
/-- the room of a walk: its depth, what it may make (cells, slots), what it has made -/
abbrev XK : Type := Nat × (Nat × Nat) × (Nat × Nat)
def X (g : GG) (T : XT) (K : XK) (pc : Nat) (L : List (Option Value)) (st : List Value) (hp : Hp) (Q : Option Value → Hp → Prop) : Prop :=
  ∀ (p : Program) (e : Env) (s : State) (m : MethodId) (args : Array Value) (below : List Frame) (meth : Method) (c : Code) (H : Heap) (ls : Array Slot) (locs : List Loc),
    XC g T p s m args meth c → (xI g hp H ∧ s.heap.size + K.2.2.1 = gB g + hp.1.length) → va_S (xA g) s.heap H locs → xL ls T.2.2.1 L →
    W p (gL g) e (xroom K.1 K.2.1.1 K.2.1.2) s m args below meth c H locs K.2.2.1 K.2.2.2 (MQ below (xQ g K.2.1.1 Q) args s K.2.1.1 K.2.1.2 (xA g)) (F0 m pc ls st)
def xPc (g : GG) (hp : Hp) (U : State) : Prop := xI g hp U.heap ∧ U.heap.size = gB g + hp.1.length ∧ va_K (gD g) xcl (xtys g) U ∧ xZ g U U.heap ∧ xR g U
/-- a contract: from args and the world hp -/
def Con (g : GG) (T : XT) (d mc ms : Nat) (args : List Value) (hp : Hp) (Q : Option Value → Hp → Prop) : Prop :=
  Met (gL g) T.1 (xws T) (xroom d mc ms) (va_Pc args (xPc g hp)) (xQ g mc Q) mc ms (xA g)
theorem Con.of {g : GG} {T : XT} {d mc ms : Nat} {args : List Value} {hp : Hp} {Q : Option Value → Hp → Prop} (L : List (Option Value)) (hn : plainName T.1.cls = true) (hL : xargs args ++ List.replicate (T.2.2.1 - (xargs args).length) none = L) (hlen : (lg_sl args).length ≤ T.2.2.1)
    (h : X g T (d, (mc, ms), (0, 0)) 0 L [] hp Q) : Con g T d mc ms args hp Q := by
  refine Met.ofW (cc := T.2.1) (maxL := T.2.2.1) (ret := T.2.2.2) hn rfl ?_
  intro p e s m args' below meth c s₁ B hml hv
  obtain ⟨rfl, hI, hz, hK, hZ, hR⟩ := hv
  have hts := atoms_spec (ws := xws T) B.pre
  have hown : s.vm.findClass T.1.cls = some m.cls := findClass_of_methodNamed B.named
  rw [lg_entry_eq]
  exact h p e s m args.toArray below meth c s.heap _ [] ⟨B.exec, B.bytes, hml, hown, fun w hw => hts w (List.mem_cons_of_mem _ hw), B.returns, B.notSynchronized, hK, by rw [hz]; exact Nat.le_add_right _ _, (name_of_methodNamed B.named B.method).1, hZ, hR⟩ ⟨hI, hz⟩ va_S.rf (xL_entry args hlen L hL)
theorem W.sized {p : Program} {l : Launch} {e : Env} {R : Room} {s : State} {m : MethodId} {args : Array Value} {below : List Frame} {meth : Method} {c : Code} {H : Heap} {locs : List Loc} {cells slots : Nat} {Q : State → Prop} {g : JFrame} (k : H.size ≤ s.heap.size + cells → W p l e R s m args below meth c H locs cells slots Q g) : W p l e R s m args below meth c H locs cells slots Q g :=
  fun T hT X => k (by rw [← hT]; exact X.heapSize) T hT X
theorem xlow {g : GG} {hp : Hp} {s : State} {H : Heap} {locs : List Loc} {k : Nat} (hI : xI g hp H) (hz : s.heap.size + k = gB g + hp.1.length) (hB : gB g ≤ s.heap.size) (hS : va_S (xA g) s.heap H locs) : s.heap.size + k ≤ H.size := by
  by_cases h : hp.1.length = 0
  · have := hS.1
    omega
  · have h1 := hI.1 (hp.1.length - 1) _ (by rw [xW_get, if_pos (by omega)])
    have h2 := h1.lt
    have h3 : gB g + (hp.1.length - 1) < H.size := h2
    omega
end
section
/-! numbers -/
theorem iT {x : Int} (h1 : -2147483648 ≤ x) (h2 : x ≤ 2147483647) : (Int32.ofInt x).toInt = x := Int32.toInt_ofInt_of_le (by omega) (by omega)
theorem iEq {x y : Int} (h : -2147483648 ≤ x ∧ x ≤ 2147483647 ∧ -2147483648 ≤ y ∧ y ≤ 2147483647) : Int32.ofInt x = Int32.ofInt y ↔ x = y := by
  rw [← Int32.toInt_inj, iT h.1 h.2.1, iT h.2.2.1 h.2.2.2]
theorem iLt {x y : Int} (h : -2147483648 ≤ x ∧ x ≤ 2147483647 ∧ -2147483648 ≤ y ∧ y ≤ 2147483647) : Int32.ofInt x < Int32.ofInt y ↔ x < y := by
  rw [Int32.lt_iff_toInt_lt, iT h.1 h.2.1, iT h.2.2.1 h.2.2.2]
theorem iLe {x y : Int} (h : -2147483648 ≤ x ∧ x ≤ 2147483647 ∧ -2147483648 ≤ y ∧ y ≤ 2147483647) : Int32.ofInt x ≤ Int32.ofInt y ↔ x ≤ y := by
  rw [Int32.le_iff_toInt_le, iT h.1 h.2.1, iT h.2.2.1 h.2.2.2]
theorem iN (n : Nat) : Int32.ofInt (n : Int) = nI n := Int32.ofInt_eq_ofNat
theorem iClamp {x : Int} {n : Nat} (h : 0 ≤ x ∧ x < n ∧ n < 2147483648) : (Int32.ofInt x).toNatClampNeg = x.toNat := by
  obtain ⟨k, rfl⟩ := Int.eq_ofNat_of_zero_le h.1
  rw [iN, nI_clamp (by omega)]
  rfl
theorem iIn {x : Int} {n : Nat} (h : 0 ≤ x ∧ x < n ∧ n < 2147483648) : vp_in (Int32.ofInt x) n := by
  obtain ⟨k, rfl⟩ := Int.eq_ofNat_of_zero_le h.1
  rw [iN]
  exact vp_in_nI (by omega) (by omega)
theorem iDiv {x y : Int} (h : 0 ≤ x ∧ x ≤ 2147483647 ∧ 0 < y ∧ y ≤ 2147483647) : Int32.ofInt x / Int32.ofInt y = Int32.ofInt (x / y) := by
  obtain ⟨a, rfl⟩ := Int.eq_ofNat_of_zero_le h.1
  obtain ⟨b, rfl⟩ := Int.eq_ofNat_of_zero_le (Int.le_of_lt h.2.2.1)
  rw [iN, iN, pk_div (by omega) (by omega) (by omega), ← iN]
  rfl
theorem iRem {x y : Int} (h : 0 ≤ x ∧ x ≤ 2147483647 ∧ 0 < y ∧ y ≤ 2147483647) : Int32.ofInt x - Int32.ofInt x / Int32.ofInt y * Int32.ofInt y = Int32.ofInt (x % y) := by
  obtain ⟨a, rfl⟩ := Int.eq_ofNat_of_zero_le h.1
  obtain ⟨b, rfl⟩ := Int.eq_ofNat_of_zero_le (Int.le_of_lt h.2.2.1)
  rw [iN, iN, pk_rem (by omega) (by omega) (by omega), ← iN]
  rfl
theorem iNe0 {y : Int} (h : 0 < y ∧ y ≤ 2147483647) : ¬ Int32.ofInt y = 0 := by
  intro q
  have := (iEq (x := y) (y := 0) (by omega)).mp (by rw [q]; rfl)
  omega
theorem i8 {n : Int} (h : -128 ≤ n ∧ n ≤ 127) : (Int8.ofInt n).toInt32 = Int32.ofInt n := by
  apply Int32.toInt_inj.mp
  rw [Int8.toInt_toInt32, Int8.toInt_ofInt_of_le (by omega) (by omega), iT (by omega) (by omega)]
theorem i16 {n : Int} (h : -32768 ≤ n ∧ n ≤ 32767) : (Int16.ofInt n).toInt32 = Int32.ofInt n := by
  apply Int32.toInt_inj.mp
  rw [Int16.toInt_toInt32, Int16.toInt_ofInt_of_le (by omega) (by omega), iT (by omega) (by omega)]
theorem jT {x : Int} (h : -9223372036854775808 ≤ x ∧ x ≤ 9223372036854775807) : (Int64.ofInt x).toInt = x := Int64.toInt_ofInt_of_le (by omega) (by omega)
theorem i2l {x : Int} (h : -2147483648 ≤ x ∧ x ≤ 2147483647) : (Int32.ofInt x).toInt64 = Int64.ofInt x := by
  apply Int64.toInt_inj.mp
  rw [Int32.toInt_toInt64, iT h.1 h.2, jT (by omega)]
def bI (c : Prop) [Decidable c] : Int := if c then 1 else 0
theorem bI_t {c : Prop} [Decidable c] (h : c) : bI c = 1 := if_pos h
theorem bI_f {c : Prop} [Decidable c] (h : ¬ c) : bI c = 0 := if_neg h
theorem bI_or (c : Prop) [Decidable c] : bI c = 0 ∨ bI c = 1 := by
  by_cases h : c
  · exact Or.inr (bI_t h)
  · exact Or.inl (bI_f h)
theorem bI_eq {c d : Prop} [Decidable c] [Decidable d] (h : c ↔ d) : bI c = bI d := by
  by_cases hc : c
  · rw [bI_t hc, bI_t (h.mp hc)]
  · rw [bI_f hc, bI_f (fun q => hc (h.mpr q))]
section XROWS
variable {g : GG} {T : XT} {K : XK} {pc : Nat} {L L' : List (Option Value)} {st : List Value} {hp : Hp} {Q : Option Value → Hp → Prop} {x y z : Int}
theorem x_iconst (n : Nat) {v : Int} (hd : decode T.2.1 pc = .ok (.iconst v, 1)) (hn : pc + 1 = n) (k : X g T K n L (iv v :: st) hp Q) : X g T K pc L st hp Q := by
  subst hn
  intro p e s m args below meth c H ls locs C hI hS hl
  exact lv_iconst C.1 C.2.1 hd rfl (k p e s m args below meth c H ls locs C hI hS hl)
theorem x_bipush (n : Nat) {v : Int} (hd : decode T.2.1 pc = .ok (.bipush v, 2)) (hn : pc + 2 = n) (hv : -128 ≤ v ∧ v ≤ 127) (k : X g T K n L (iv v :: st) hp Q) : X g T K pc L st hp Q := by
  subst hn
  intro p e s m args below meth c H ls locs C hI hS hl
  exact lv_bipush C.1 C.2.1 hd (i8 hv) (k p e s m args below meth c H ls locs C hI hS hl)
theorem x_sipush (n : Nat) {v : Int} (hd : decode T.2.1 pc = .ok (.sipush v, 3)) (hn : pc + 3 = n) (hv : -32768 ≤ v ∧ v ≤ 32767) (k : X g T K n L (iv v :: st) hp Q) : X g T K pc L st hp Q := by
  subst hn
  intro p e s m args below meth c H ls locs C hI hS hl
  exact lv_sipush C.1 C.2.1 hd (i16 hv) (k p e s m args below meth c H ls locs C hI hS hl)
theorem x_ldc (n : Nat) {i : Nat} (v : Int) (hw : Cond.constant T.1.cls i (Int32.ofInt v) ∈ xG) (hd : decode T.2.1 pc = .ok (.ldc i, 2)) (hn : pc + 2 = n) (k : X g T K n L (iv v :: st) hp Q) : X g T K pc L st hp Q := by
  subst hn
  intro p e s m args below meth c H ls locs C hI hS hl
  exact lv_ldc C.1 C.2.1 C.2.2.2.1 (C.2.2.2.2.1 _ hw) hd (k p e s m args below meth c H ls locs C hI hS hl)
theorem x_ldcw (n : Nat) {i : Nat} (v : Int) (hw : Cond.constant T.1.cls i (Int32.ofInt v) ∈ xG) (hd : decode T.2.1 pc = .ok (.ldc_w i, 3)) (hn : pc + 3 = n) (k : X g T K n L (iv v :: st) hp Q) : X g T K pc L st hp Q := by
  subst hn
  intro p e s m args below meth c H ls locs C hI hS hl
  exact lv_ldcw C.1 C.2.1 C.2.2.2.1 (C.2.2.2.2.1 _ hw) hd (k p e s m args below meth c H ls locs C hI hS hl)
theorem x_ldc2 (n : Nat) {i : Nat} (v : Int) (hw : Cond.constantLong T.1.cls i (Int64.ofInt v) ∈ xG) (hd : decode T.2.1 pc = .ok (.ldc2_w i, 3)) (hn : pc + 3 = n) (k : X g T K n L (jv v :: st) hp Q) : X g T K pc L st hp Q := by
  subst hn
  intro p e s m args below meth c H ls locs C hI hS hl
  exact lv_ldc2 C.1 C.2.1 C.2.2.2.1 (C.2.2.2.2.1 _ hw) hd (k p e s m args below meth c H ls locs C hI hS hl)
theorem x_lconst (n : Nat) {v : Fin 2} (hd : decode T.2.1 pc = .ok (.lconst v, 1)) (hn : pc + 1 = n) (z : Int) (hz : ((v : Nat) : Int) = z) (k : X g T K n L (jv z :: st) hp Q) : X g T K pc L st hp Q := by
  subst hn
  intro p e s m args below meth c H ls locs C hI hS hl
  exact lv_lconst C.1 C.2.1 hd (by rw [← hz, Int64.ofInt_eq_ofNat]) (k p e s m args below meth c H ls locs C hI hS hl)
theorem x_iload_n (n : Nat) {k : Fin 4} (i : Nat) (hd : decode T.2.1 pc = .ok (.iload_n k, 1)) (hn : pc + 1 = n) (hi : (k : Nat) = i) (hb : i < T.2.2.1) (hL : L[i]? = some (some (iv x))) (kk : X g T K n L (iv x :: st) hp Q) : X g T K pc L st hp Q := by
  subst hn
  intro p e s m args below meth c H ls locs C hI hS hl
  exact lv_iload_n C.1 C.2.1 hd hi (xL_at hl hb hL) (kk p e s m args below meth c H ls locs C hI hS hl)
theorem x_iload (n : Nat) (i : Nat) (hd : decode T.2.1 pc = .ok (.iload i, 2)) (hn : pc + 2 = n) (hb : i < T.2.2.1) (hL : L[i]? = some (some (iv x))) (kk : X g T K n L (iv x :: st) hp Q) : X g T K pc L st hp Q := by
  subst hn
  intro p e s m args below meth c H ls locs C hI hS hl
  exact lv_iload C.1 C.2.1 hd (xL_at hl hb hL) (kk p e s m args below meth c H ls locs C hI hS hl)
theorem x_lload_n (n : Nat) {k : Fin 4} (i : Nat) (hd : decode T.2.1 pc = .ok (.lload_n k, 1)) (hn : pc + 1 = n) (hi : (k : Nat) = i) (hb : i < T.2.2.1) (hL : L[i]? = some (some (jv x))) (kk : X g T K n L (jv x :: st) hp Q) : X g T K pc L st hp Q := by
  subst hn
  intro p e s m args below meth c H ls locs C hI hS hl
  exact lv_lload_n C.1 C.2.1 hd hi (xL_at hl hb hL) (kk p e s m args below meth c H ls locs C hI hS hl)
theorem x_lload (n : Nat) (i : Nat) (hd : decode T.2.1 pc = .ok (.lload i, 2)) (hn : pc + 2 = n) (hb : i < T.2.2.1) (hL : L[i]? = some (some (jv x))) (kk : X g T K n L (jv x :: st) hp Q) : X g T K pc L st hp Q := by
  subst hn
  intro p e s m args below meth c H ls locs C hI hS hl
  exact lv_lload C.1 C.2.1 hd (xL_at hl hb hL) (kk p e s m args below meth c H ls locs C hI hS hl)
theorem x_aload_n (n : Nat) {k : Fin 4} (i : Nat) {a : Nat} (hd : decode T.2.1 pc = .ok (.aload_n k, 1)) (hn : pc + 1 = n) (hi : (k : Nat) = i) (hb : i < T.2.2.1) (hL : L[i]? = some (some (rv g a))) (kk : X g T K n L (rv g a :: st) hp Q) : X g T K pc L st hp Q := by
  subst hn
  intro p e s m args below meth c H ls locs C hI hS hl
  exact lv_aload_n C.1 C.2.1 hd hi (xL_at hl hb hL) (kk p e s m args below meth c H ls locs C hI hS hl)
theorem x_aload (n : Nat) (i : Nat) {a : Nat} (hd : decode T.2.1 pc = .ok (.aload i, 2)) (hn : pc + 2 = n) (hb : i < T.2.2.1) (hL : L[i]? = some (some (rv g a))) (kk : X g T K n L (rv g a :: st) hp Q) : X g T K pc L st hp Q := by
  subst hn
  intro p e s m args below meth c H ls locs C hI hS hl
  exact lv_aload C.1 C.2.1 hd (xL_at hl hb hL) (kk p e s m args below meth c H ls locs C hI hS hl)
theorem x_istore_n (n : Nat) {k : Fin 4} (i : Nat) (L' : List (Option Value)) (hd : decode T.2.1 pc = .ok (.istore_n k, 1)) (hn : pc + 1 = n) (hi : (k : Nat) = i) (hb : i < T.2.2.1) (ho : xok L i = true) (hL : L.set i (some (iv x)) = L') (kk : X g T K n L' st hp Q) : X g T K pc L (iv x :: st) hp Q := by
  subst hn; subst hL
  intro p e s m args below meth c H ls locs C hI hS hl
  exact lv_istore_n C.1 C.2.1 hd hi hl hb rfl (fun ls' h => kk p e s m args below meth c H ls' locs C hI hS (xL_store1 ho h))
theorem x_istore (n : Nat) (i : Nat) (L' : List (Option Value)) (hd : decode T.2.1 pc = .ok (.istore i, 2)) (hn : pc + 2 = n) (hb : i < T.2.2.1) (ho : xok L i = true) (hL : L.set i (some (iv x)) = L') (kk : X g T K n L' st hp Q) : X g T K pc L (iv x :: st) hp Q := by
  subst hn; subst hL
  intro p e s m args below meth c H ls locs C hI hS hl
  exact lv_istore C.1 C.2.1 hd hl hb rfl (fun ls' h => kk p e s m args below meth c H ls' locs C hI hS (xL_store1 ho h))
theorem x_astore_n (n : Nat) {k : Fin 4} (i : Nat) {a : Nat} (L' : List (Option Value)) (hd : decode T.2.1 pc = .ok (.astore_n k, 1)) (hn : pc + 1 = n) (hi : (k : Nat) = i) (hb : i < T.2.2.1) (ho : xok L i = true) (hL : L.set i (some (rv g a)) = L') (kk : X g T K n L' st hp Q) : X g T K pc L (rv g a :: st) hp Q := by
  subst hn; subst hL
  intro p e s m args below meth c H ls locs C hI hS hl
  exact lv_astore_n C.1 C.2.1 hd hi hl hb rfl (fun ls' h => kk p e s m args below meth c H ls' locs C hI hS (xL_store1 ho h))
theorem x_astore (n : Nat) (i : Nat) {a : Nat} (L' : List (Option Value)) (hd : decode T.2.1 pc = .ok (.astore i, 2)) (hn : pc + 2 = n) (hb : i < T.2.2.1) (ho : xok L i = true) (hL : L.set i (some (rv g a)) = L') (kk : X g T K n L' st hp Q) : X g T K pc L (rv g a :: st) hp Q := by
  subst hn; subst hL
  intro p e s m args below meth c H ls locs C hI hS hl
  exact lv_astore C.1 C.2.1 hd hl hb rfl (fun ls' h => kk p e s m args below meth c H ls' locs C hI hS (xL_store1 ho h))
theorem x_lstore_n (n : Nat) {k : Fin 4} (i : Nat) (L' : List (Option Value)) (hd : decode T.2.1 pc = .ok (.lstore_n k, 1)) (hn : pc + 1 = n) (hi : (k : Nat) = i) (hb : i + 1 < T.2.2.1) (ho : xok L i = true) (hL : (L.set i (some (jv x))).set (i + 1) none = L') (kk : X g T K n L' st hp Q) : X g T K pc L (jv x :: st) hp Q := by
  subst hn; subst hL
  intro p e s m args below meth c H ls locs C hI hS hl
  exact lv_lstore_n C.1 C.2.1 hd hi hl hb rfl (fun ls' h => kk p e s m args below meth c H ls' locs C hI hS (xL_store2 ho h))
theorem x_lstore (n : Nat) (i : Nat) (L' : List (Option Value)) (hd : decode T.2.1 pc = .ok (.lstore i, 2)) (hn : pc + 2 = n) (hb : i + 1 < T.2.2.1) (ho : xok L i = true) (hL : (L.set i (some (jv x))).set (i + 1) none = L') (kk : X g T K n L' st hp Q) : X g T K pc L (jv x :: st) hp Q := by
  subst hn; subst hL
  intro p e s m args below meth c H ls locs C hI hS hl
  exact lv_lstore C.1 C.2.1 hd hl hb rfl (fun ls' h => kk p e s m args below meth c H ls' locs C hI hS (xL_store2 ho h))
theorem x_iinc (n : Nat) {i : Nat} {v : Int} (L' : List (Option Value)) (hd : decode T.2.1 pc = .ok (.iinc i v, 3)) (hn : pc + 3 = n) (hb : i < T.2.2.1) (ho : xok L i = true) (hv : L[i]? = some (some (iv x))) (hL : L.set i (some (iv (x + v))) = L') (kk : X g T K n L' st hp Q) : X g T K pc L st hp Q := by
  subst hn; subst hL
  intro p e s m args below meth c H ls locs C hI hS hl
  obtain ⟨j, hj⟩ := List.getElem?_of_mem (xLp_mem hb hv)
  exact lv_iinc C.1 C.2.1 hd hl hj (v := Int32.ofInt (x + v)) (by rw [Int32.ofInt_add]) hb rfl (fun ls' h => kk p e s m args below meth c H ls' locs C hI hS (xL_store1 ho h))
theorem x_iadd (n : Nat) (hd : decode T.2.1 pc = .ok (.iadd, 1)) (hn : pc + 1 = n) (k : X g T K n L (iv (x + y) :: st) hp Q) : X g T K pc L (iv y :: iv x :: st) hp Q := by
  subst hn
  intro p e s m args below meth c H ls locs C hI hS hl
  have k := k p e s m args below meth c H ls locs C hI hS hl
  unfold iv at k ⊢
  rw [Int32.ofInt_add] at k
  exact lv_iadd C.1 C.2.1 hd k
theorem x_isub (n : Nat) (hd : decode T.2.1 pc = .ok (.isub, 1)) (hn : pc + 1 = n) (k : X g T K n L (iv (x - y) :: st) hp Q) : X g T K pc L (iv y :: iv x :: st) hp Q := by
  subst hn
  intro p e s m args below meth c H ls locs C hI hS hl
  have k := k p e s m args below meth c H ls locs C hI hS hl
  unfold iv at k ⊢
  rw [Int32.ofInt_sub] at k
  exact lv_isub C.1 C.2.1 hd k
theorem x_imul (n : Nat) (hd : decode T.2.1 pc = .ok (.imul, 1)) (hn : pc + 1 = n) (k : X g T K n L (iv (x * y) :: st) hp Q) : X g T K pc L (iv y :: iv x :: st) hp Q := by
  subst hn
  intro p e s m args below meth c H ls locs C hI hS hl
  have k := k p e s m args below meth c H ls locs C hI hS hl
  unfold iv at k ⊢
  rw [Int32.ofInt_mul] at k
  exact lv_imul C.1 C.2.1 hd k
theorem x_idiv (n : Nat) (hd : decode T.2.1 pc = .ok (.idiv, 1)) (hn : pc + 1 = n) (hr : 0 ≤ x ∧ x ≤ 2147483647 ∧ 0 < y ∧ y ≤ 2147483647) (k : X g T K n L (iv (x / y) :: st) hp Q) : X g T K pc L (iv y :: iv x :: st) hp Q := by
  subst hn
  intro p e s m args below meth c H ls locs C hI hS hl
  have k := k p e s m args below meth c H ls locs C hI hS hl
  unfold iv at k ⊢
  rw [← iDiv hr] at k
  exact lv_idiv C.1 C.2.1 hd (iNe0 hr.2.2) k
theorem x_irem (n : Nat) (hd : decode T.2.1 pc = .ok (.irem, 1)) (hn : pc + 1 = n) (hr : 0 ≤ x ∧ x ≤ 2147483647 ∧ 0 < y ∧ y ≤ 2147483647) (k : X g T K n L (iv (x % y) :: st) hp Q) : X g T K pc L (iv y :: iv x :: st) hp Q := by
  subst hn
  intro p e s m args below meth c H ls locs C hI hS hl
  have k := k p e s m args below meth c H ls locs C hI hS hl
  unfold iv at k ⊢
  rw [← iRem hr] at k
  exact lv_irem C.1 C.2.1 hd (iNe0 hr.2.2) k
theorem x_ishl (n : Nat) (z : Int) (hd : decode T.2.1 pc = .ok (.ishl, 1)) (hn : pc + 1 = n) (hz : Int32.ofInt x <<< (Int32.ofInt y &&& 31) = Int32.ofInt z) (k : X g T K n L (iv z :: st) hp Q) : X g T K pc L (iv y :: iv x :: st) hp Q := by
  subst hn
  intro p e s m args below meth c H ls locs C hI hS hl
  have k := k p e s m args below meth c H ls locs C hI hS hl
  unfold iv at k ⊢
  rw [← hz] at k
  exact lv_ishl C.1 C.2.1 hd k
theorem x_ishr (n : Nat) (z : Int) (hd : decode T.2.1 pc = .ok (.ishr, 1)) (hn : pc + 1 = n) (hz : Int32.ofInt x >>> (Int32.ofInt y &&& 31) = Int32.ofInt z) (k : X g T K n L (iv z :: st) hp Q) : X g T K pc L (iv y :: iv x :: st) hp Q := by
  subst hn
  intro p e s m args below meth c H ls locs C hI hS hl
  have k := k p e s m args below meth c H ls locs C hI hS hl
  unfold iv at k ⊢
  rw [← hz] at k
  exact lv_ishr C.1 C.2.1 hd k
theorem x_iushr (n : Nat) (z : Int) (hd : decode T.2.1 pc = .ok (.iushr, 1)) (hn : pc + 1 = n) (hz : ((Int32.ofInt x).toUInt32 >>> ((Int32.ofInt y).toUInt32 &&& Int32.toUInt32 31)).toInt32 = Int32.ofInt z) (k : X g T K n L (iv z :: st) hp Q) : X g T K pc L (iv y :: iv x :: st) hp Q := by
  subst hn
  intro p e s m args below meth c H ls locs C hI hS hl
  exact lv_iushr C.1 C.2.1 hd hz (k p e s m args below meth c H ls locs C hI hS hl)
theorem x_iand (n : Nat) (z : Int) (hd : decode T.2.1 pc = .ok (.iand, 1)) (hn : pc + 1 = n) (hz : Int32.ofInt x &&& Int32.ofInt y = Int32.ofInt z) (k : X g T K n L (iv z :: st) hp Q) : X g T K pc L (iv y :: iv x :: st) hp Q := by
  subst hn
  intro p e s m args below meth c H ls locs C hI hS hl
  have k := k p e s m args below meth c H ls locs C hI hS hl
  unfold iv at k ⊢
  rw [← hz] at k
  exact lv_iand C.1 C.2.1 hd k
theorem x_ior (n : Nat) (z : Int) (hd : decode T.2.1 pc = .ok (.ior, 1)) (hn : pc + 1 = n) (hz : Int32.ofInt x ||| Int32.ofInt y = Int32.ofInt z) (k : X g T K n L (iv z :: st) hp Q) : X g T K pc L (iv y :: iv x :: st) hp Q := by
  subst hn
  intro p e s m args below meth c H ls locs C hI hS hl
  have k := k p e s m args below meth c H ls locs C hI hS hl
  unfold iv at k ⊢
  rw [← hz] at k
  exact lv_ior C.1 C.2.1 hd k
theorem x_ixor (n : Nat) (z : Int) (hd : decode T.2.1 pc = .ok (.ixor, 1)) (hn : pc + 1 = n) (hz : Int32.ofInt x ^^^ Int32.ofInt y = Int32.ofInt z) (k : X g T K n L (iv z :: st) hp Q) : X g T K pc L (iv y :: iv x :: st) hp Q := by
  subst hn
  intro p e s m args below meth c H ls locs C hI hS hl
  have k := k p e s m args below meth c H ls locs C hI hS hl
  unfold iv at k ⊢
  rw [← hz] at k
  exact lv_ixor C.1 C.2.1 hd k
theorem x_i2b (n : Nat) (z : Int) (hd : decode T.2.1 pc = .ok (.i2b, 1)) (hn : pc + 1 = n) (hz : (Int32.ofInt x).toInt8.toInt32 = Int32.ofInt z) (k : X g T K n L (iv z :: st) hp Q) : X g T K pc L (iv x :: st) hp Q := by
  subst hn
  intro p e s m args below meth c H ls locs C hI hS hl
  exact lv_i2b C.1 C.2.1 hd hz (k p e s m args below meth c H ls locs C hI hS hl)
theorem x_i2s (n : Nat) (z : Int) (hd : decode T.2.1 pc = .ok (.i2s, 1)) (hn : pc + 1 = n) (hz : (Int32.ofInt x).toInt16.toInt32 = Int32.ofInt z) (k : X g T K n L (iv z :: st) hp Q) : X g T K pc L (iv x :: st) hp Q := by
  subst hn
  intro p e s m args below meth c H ls locs C hI hS hl
  exact lv_i2s C.1 C.2.1 hd hz (k p e s m args below meth c H ls locs C hI hS hl)
theorem x_i2l (n : Nat) (hd : decode T.2.1 pc = .ok (.i2l, 1)) (hn : pc + 1 = n) (hr : -2147483648 ≤ x ∧ x ≤ 2147483647) (k : X g T K n L (jv x :: st) hp Q) : X g T K pc L (iv x :: st) hp Q := by
  subst hn
  intro p e s m args below meth c H ls locs C hI hS hl
  exact lv_i2l C.1 C.2.1 hd (i2l hr) (k p e s m args below meth c H ls locs C hI hS hl)
theorem x_ladd (n : Nat) (hd : decode T.2.1 pc = .ok (.ladd, 1)) (hn : pc + 1 = n) (k : X g T K n L (jv (x + y) :: st) hp Q) : X g T K pc L (jv y :: jv x :: st) hp Q := by
  subst hn
  intro p e s m args below meth c H ls locs C hI hS hl
  have k := k p e s m args below meth c H ls locs C hI hS hl
  unfold jv at k ⊢
  rw [Int64.ofInt_add] at k
  exact lv_ladd C.1 C.2.1 hd k
theorem x_lmul (n : Nat) (hd : decode T.2.1 pc = .ok (.lmul, 1)) (hn : pc + 1 = n) (k : X g T K n L (jv (x * y) :: st) hp Q) : X g T K pc L (jv y :: jv x :: st) hp Q := by
  subst hn
  intro p e s m args below meth c H ls locs C hI hS hl
  have k := k p e s m args below meth c H ls locs C hI hS hl
  unfold jv at k ⊢
  rw [Int64.ofInt_mul] at k
  exact lv_lmul C.1 C.2.1 hd k
theorem x_dup (n : Nat) {v : Value} (hd : decode T.2.1 pc = .ok (.dup, 1)) (hn : pc + 1 = n) (hv : v.category = 1) (k : X g T K n L (v :: v :: st) hp Q) : X g T K pc L (v :: st) hp Q := by
  subst hn
  intro p e s m args below meth c H ls locs C hI hS hl
  exact lv_dup C.1 C.2.1 hd hv (k p e s m args below meth c H ls locs C hI hS hl)
theorem x_dup2 (n : Nat) {v w : Value} (hd : decode T.2.1 pc = .ok (.dup2, 1)) (hn : pc + 1 = n) (hv : v.category = 1) (hw : w.category = 1) (k : X g T K n L (v :: w :: v :: w :: st) hp Q) : X g T K pc L (v :: w :: st) hp Q := by
  subst hn
  intro p e s m args below meth c H ls locs C hI hS hl
  exact lv_dup2_11 C.1 C.2.1 hd hv hw (k p e s m args below meth c H ls locs C hI hS hl)
theorem x_pop (n : Nat) {v : Value} (hd : decode T.2.1 pc = .ok (.pop, 1)) (hn : pc + 1 = n) (hv : v.category = 1) (k : X g T K n L st hp Q) : X g T K pc L (v :: st) hp Q := by
  subst hn
  intro p e s m args below meth c H ls locs C hI hS hl
  exact lv_pop C.1 C.2.1 hd hv (k p e s m args below meth c H ls locs C hI hS hl)
theorem x_goto (t : Nat) {off : Int} (hd : decode T.2.1 pc = .ok (.goto off, 3)) (ht : (pc : Int) + off = (t : Int)) (k : X g T K t L st hp Q) : X g T K pc L st hp Q := by
  intro p e s m args below meth c H ls locs C hI hS hl
  exact lv_goto C.1 C.2.1 hd ht (k p e s m args below meth c H ls locs C hI hS hl)
end XROWS
end
section
def up2 (M : Mem) (i : Nat) (k v : Int) : Mem := fun a b => if a = i ∧ b = k then v else M a b
theorem up2_s (M : Mem) (i : Nat) (k v : Int) : up2 M i k v i k = v := by simp [up2]
theorem up2_o (M : Mem) {i a : Nat} (k v : Int) (h : a ≠ i) : up2 M i k v a = M a := by funext b; simp [up2, h]
theorem up2_k (M : Mem) (i : Nat) {k b : Int} (v : Int) (h : b ≠ k) : up2 M i k v i b = M i b := by simp [up2, h]
theorem up2_i (M : Mem) (i : Nat) (k b v : Int) : up2 M i k v i b = if b = k then v else M i b := by simp [up2]
def upr (rf : Nat → Nat → Option Nat) (i k : Nat) (v : Option Nat) : Nat → Nat → Option Nat := fun a b => if a = i ∧ b = k then v else rf a b
theorem upr_o (rf : Nat → Nat → Option Nat) {i a : Nat} (k : Nat) (v : Option Nat) (h : a ≠ i) : upr rf i k v a = rf a := by funext b; simp [upr, h]
theorem xfs_int {g : GG} {sh : List Shp} {rf : Nat → Nat → Option Nat} {M : Mem} {i ci k : Nat} (v : Int) (hr : xRef ci k = false) : ((List.range (xN ci)).map (xF g (sh, rf, M) i ci)).set k (iv v) = (List.range (xN ci)).map (xF g (sh, rf, up2 M i (k : Int) v) i ci) := by
  apply List.ext_getElem?
  intro j
  rw [List.getElem?_set]
  by_cases h : k = j
  · subst h
    rw [if_pos rfl]
    by_cases hk : k < xN ci
    · simp [hk, xF, hr, up2]
    · simp [hk]
  · rw [if_neg h]
    by_cases hj : j < xN ci
    · have h' : ¬ j = k := fun e => h e.symm
      have h2 : ¬ (j : Int) = (k : Int) := by omega
      simp [hj, xF, up2, h2]
    · simp [hj]
theorem xfs_ref {g : GG} {sh : List Shp} {rf : Nat → Nat → Option Nat} {M : Mem} {i ci k : Nat} (v : Nat) (hr : xRef ci k = true) : ((List.range (xN ci)).map (xF g (sh, rf, M) i ci)).set k (rv g v) = (List.range (xN ci)).map (xF g (sh, upr rf i k (some v), M) i ci) := by
  apply List.ext_getElem?
  intro j
  rw [List.getElem?_set]
  by_cases h : k = j
  · subst h
    rw [if_pos rfl]
    by_cases hk : k < xN ci
    · simp [hk, xF, hr, upr, va_rf, rv]
    · simp [hk]
  · rw [if_neg h]
    by_cases hj : j < xN ci
    · have h' : ¬ j = k := fun e => h e.symm
      simp [hj, xF, upr, h']
    · simp [hj]
/-- a field's link: class own's entry idx is field k of class ci -/
def FL (own : String) (idx ci k : Nat) : Prop := ci < 8 ∧ k < xN ci ∧ Cond.fieldLink own idx (xT ci k).1 (xT ci k).2.1 (xT ci k).2.2.1 ∈ xG
theorem xin_all : ∀ ci, ci < 8 → ∀ w ∈ u_ws (xC ci) (xT ci) (xN ci), w ∈ lw_tbl := by decide +kernel
theorem xin_good : ∀ ci, ci < 8 → ∀ w ∈ u_ws (xC ci) (xT ci) (xN ci), goodWord w = true := by decide +kernel
theorem xin {ci : Nat} (h : ci < 8) : ∀ w ∈ u_ws (xC ci) (xT ci) (xN ci), w ∈ xG := fun w hw => List.mem_filter.mpr ⟨xin_all ci h w hw, xin_good ci h w hw⟩
theorem x_ofRun {g : GG} {p : Program} {l : Launch} {e : Env} {R : Room} {s : State} {m : MethodId} {args a : Array Value} {below : List Frame} {meth : Method} {c : Code} {H : Heap} {locs : List Loc} {cells slots mc ms pc : Nat} {Q : State → Prop} {ls : Array Slot} {st0 rest : List Value} {Q2 : Option Value → Hp → Prop}
    (hr : va_Run p l e R s m args below meth c H locs cells slots mc ms (F0 m pc ls st0) rest (xQ g mc Q2 a) (xA g)) (hS : va_S (xA g) s.heap H locs)
    (kk : ∀ (v : Option Value) (hp : Hp) (H1 : Heap) (locs1 : List Loc), Q2 v hp → (xI g hp H1 ∧ H.size + mc = gB g + hp.1.length) → va_S (xA g) s.heap H1 locs1 → W p l e R s m args below meth c H1 locs1 (cells + mc) (slots + ms) Q (F0 m (pc + 3) ls (v.toList ++ rest))) : W p l e R s m args below meth c H locs cells slots Q (F0 m pc ls st0) := by
  intro Tt hT X
  obtain ⟨v, st₀, t, T', L, h0, X', hL, e1, e2, ⟨⟨v', hp', hv, hq, hi, hj⟩, hz, hk⟩, st⟩ := hr Tt hT X
  cases hv
  rw [h0] at hz hk hj
  obtain ⟨t2, a1, b1⟩ := kk v hp' T'.heap (locs ++ L) hq ⟨by rw [e1]; exact hi, hj⟩ ⟨Nat.le_trans hS.1 (by rw [e1]; exact hz), fun q h1 h2 => by rw [e1, hk q (Nat.lt_of_lt_of_le h1 hS.1) h2]; exact hS.2.1 q h1 h2, fun q hq => by
      rcases List.mem_append.mp hq with h | h
      · exact hS.2.2 q h
      · exact hL q h⟩ T' rfl X'
  exact ⟨t2, st t2 a1, b1⟩
/-- a method as a callee: n parameters -/
def Mn (T : XT) (n : Nat) : Prop := Cond.code T.1 T.2.1 T.2.2.1 T.2.2.2 ∈ xG ∧ Cond.initialized T.1.cls ∈ xG ∧ (T.1.cls ≠ "java/lang/invoke/MethodHandle" ∧ T.1.cls ≠ "java/lang/invoke/VarHandle" ∧ (parseMethodDescriptor T.1.desc).map (fun d => d.parameters.length) = some n) ∧ T.2.2.1 ≤ 16
def MV (T : XT) (n : Nat) : Prop := Mn T n ∧ Cond.instanceMethod T.1 ∈ xG ∧ Cond.selects T.1.cls T.1 T.1 ∈ xG
def MS (T : XT) (n : Nat) : Prop := Mn T n ∧ Cond.static T.1 ∈ xG
def MI (T : XT) (n : Nat) : Prop := Mn T n ∧ Cond.instanceMethod T.1 ∈ xG ∧ T.1.name = "<init>" ∧ T.2.2.2 = none
theorem xblind {g : GG} {hp : Hp} {av : List Value} : FrameBlind (va_Pc av (xPc g hp)) := by
  intro a U f mk q
  obtain ⟨h0, h1, hz, h2, h3, h4⟩ := q
  exact ⟨h0, h1, hz, va_K.moved (u := U) (U := U.calling f mk a) (Vm.Alike.refl U.vm) h2, xZ.moved (u := U) (U := U.calling f mk a) (Vm.Alike.refl U.vm) h3, xR.same (u := U) (U := U.calling f mk a) rfl h4⟩
theorem xpre {g : GG} {T : XT} {p : Program} {s : State} {m : MethodId} {args : Array Value} {meth : Method} {c : Code} {hp : Hp} {H : Heap} {locs : List Loc} (C : XC g T p s m args meth c) (hI : xI g hp H) (hz : H.size = gB g + hp.1.length) (hS : va_S (xA g) s.heap H locs) (av : List Value) : ∀ U : State, U.heap = H → s.WarmedH U.vm → va_Pc av (xPc g hp) av.toArray U := by
  obtain ⟨-, -, -, -, -, -, -, hK, hB, -, hZ, hR⟩ := C
  intro U hU hW
  refine ⟨rfl, by rw [hU]; exact hI, by rw [hU]; exact hz, va_K.moved hW.alike hK, ?_, hR.warm hW⟩
  refine xZ.moved hW.alike (hZ.kept fun a h1 h2 => ?_)
  rw [hU]
  exact hS.2.1 a h1 h2
section XROWS2
variable {g : GG} {T : XT} {K : XK} {pc : Nat} {L L' : List (Option Value)} {st : List Value} {hp : Hp} {Q : Option Value → Hp → Prop} {x y z : Int} {sh : List Shp} {rf : Nat → Nat → Option Nat} {M : Mem}
theorem x_icmp_eq (t n : Nat) {off : Int} (hd : decode T.2.1 pc = .ok (.if_icmp .eq off, 3)) (ht : (pc : Int) + off = (t : Int)) (hn : pc + 3 = n) (hr : -2147483648 ≤ x ∧ x ≤ 2147483647 ∧ -2147483648 ≤ y ∧ y ≤ 2147483647) (kt : x = y → X g T K t L st hp Q) (kf : ¬ x = y → X g T K n L st hp Q) : X g T K pc L (iv y :: iv x :: st) hp Q := by
  subst hn
  intro p e s m args below meth c H ls locs C hI hS hl
  have hEq := iEq (x := x) (y := y) hr
  have hLt := iLt (x := x) (y := y) hr
  have hLe := iLe (x := x) (y := y) hr
  have hLt' := iLt (x := y) (y := x) (by omega)
  have hLe' := iLe (x := y) (y := x) (by omega)
  refine lv_icmp_eq C.1 C.2.1 hd ht (fun h => kt ?_ p e s m args below meth c H ls locs C hI hS hl) (fun h => kf ?_ p e s m args below meth c H ls locs C hI hS hl)
  · first | exact hEq.mp h | exact hLt.mp h | exact hLe.mp h | exact hLt'.mp h | exact hLe'.mp h | exact fun q => h (hEq.mpr q)
  · first | exact hEq.mp h | exact fun q => h (hEq.mpr q) | exact Decidable.byContradiction fun q => h (hEq.mpr q) | exact Decidable.byContradiction fun q => h (hLt.mpr (by omega)) | exact Decidable.byContradiction fun q => h (hLe.mpr (by omega)) | exact Decidable.byContradiction fun q => h (hLt'.mpr (by omega)) | exact Decidable.byContradiction fun q => h (hLe'.mpr (by omega))
theorem x_if_eq (t n : Nat) {off : Int} (hd : decode T.2.1 pc = .ok (.ifCond .eq off, 3)) (ht : (pc : Int) + off = (t : Int)) (hn : pc + 3 = n) (hr : -2147483648 ≤ x ∧ x ≤ 2147483647) (kt : x = 0 → X g T K t L st hp Q) (kf : ¬ x = 0 → X g T K n L st hp Q) : X g T K pc L (iv x :: st) hp Q := by
  subst hn
  intro p e s m args below meth c H ls locs C hI hS hl
  have hEq := iEq (x := x) (y := 0) (show -2147483648 ≤ x ∧ x ≤ 2147483647 ∧ -2147483648 ≤ (0 : Int) ∧ (0 : Int) ≤ 2147483647 by omega)
  have hLt := iLt (x := x) (y := 0) (show -2147483648 ≤ x ∧ x ≤ 2147483647 ∧ -2147483648 ≤ (0 : Int) ∧ (0 : Int) ≤ 2147483647 by omega)
  have hLe := iLe (x := x) (y := 0) (show -2147483648 ≤ x ∧ x ≤ 2147483647 ∧ -2147483648 ≤ (0 : Int) ∧ (0 : Int) ≤ 2147483647 by omega)
  have hLt' := iLt (x := 0) (y := x) (by omega)
  have hLe' := iLe (x := 0) (y := x) (by omega)
  refine lv_if_eq C.1 C.2.1 hd ht (fun h => kt ?_ p e s m args below meth c H ls locs C hI hS hl) (fun h => kf ?_ p e s m args below meth c H ls locs C hI hS hl)
  · first | exact hEq.mp h | exact hLt.mp h | exact hLe.mp h | exact hLt'.mp h | exact hLe'.mp h | exact fun q => h (hEq.mpr q)
  · first | exact hEq.mp h | exact fun q => h (hEq.mpr q) | exact Decidable.byContradiction fun q => h (hEq.mpr q) | exact Decidable.byContradiction fun q => h (hLt.mpr (by omega)) | exact Decidable.byContradiction fun q => h (hLe.mpr (by omega)) | exact Decidable.byContradiction fun q => h (hLt'.mpr (by omega)) | exact Decidable.byContradiction fun q => h (hLe'.mpr (by omega))
theorem x_icmp_ne (t n : Nat) {off : Int} (hd : decode T.2.1 pc = .ok (.if_icmp .ne off, 3)) (ht : (pc : Int) + off = (t : Int)) (hn : pc + 3 = n) (hr : -2147483648 ≤ x ∧ x ≤ 2147483647 ∧ -2147483648 ≤ y ∧ y ≤ 2147483647) (kt : ¬ x = y → X g T K t L st hp Q) (kf : x = y → X g T K n L st hp Q) : X g T K pc L (iv y :: iv x :: st) hp Q := by
  subst hn
  intro p e s m args below meth c H ls locs C hI hS hl
  have hEq := iEq (x := x) (y := y) hr
  have hLt := iLt (x := x) (y := y) hr
  have hLe := iLe (x := x) (y := y) hr
  have hLt' := iLt (x := y) (y := x) (by omega)
  have hLe' := iLe (x := y) (y := x) (by omega)
  refine lv_icmp_ne C.1 C.2.1 hd ht (fun h => kt ?_ p e s m args below meth c H ls locs C hI hS hl) (fun h => kf ?_ p e s m args below meth c H ls locs C hI hS hl)
  · first | exact hEq.mp h | exact hLt.mp h | exact hLe.mp h | exact hLt'.mp h | exact hLe'.mp h | exact fun q => h (hEq.mpr q)
  · first | exact hEq.mp h | exact fun q => h (hEq.mpr q) | exact Decidable.byContradiction fun q => h (hEq.mpr q) | exact Decidable.byContradiction fun q => h (hLt.mpr (by omega)) | exact Decidable.byContradiction fun q => h (hLe.mpr (by omega)) | exact Decidable.byContradiction fun q => h (hLt'.mpr (by omega)) | exact Decidable.byContradiction fun q => h (hLe'.mpr (by omega))
theorem x_if_ne (t n : Nat) {off : Int} (hd : decode T.2.1 pc = .ok (.ifCond .ne off, 3)) (ht : (pc : Int) + off = (t : Int)) (hn : pc + 3 = n) (hr : -2147483648 ≤ x ∧ x ≤ 2147483647) (kt : ¬ x = 0 → X g T K t L st hp Q) (kf : x = 0 → X g T K n L st hp Q) : X g T K pc L (iv x :: st) hp Q := by
  subst hn
  intro p e s m args below meth c H ls locs C hI hS hl
  have hEq := iEq (x := x) (y := 0) (show -2147483648 ≤ x ∧ x ≤ 2147483647 ∧ -2147483648 ≤ (0 : Int) ∧ (0 : Int) ≤ 2147483647 by omega)
  have hLt := iLt (x := x) (y := 0) (show -2147483648 ≤ x ∧ x ≤ 2147483647 ∧ -2147483648 ≤ (0 : Int) ∧ (0 : Int) ≤ 2147483647 by omega)
  have hLe := iLe (x := x) (y := 0) (show -2147483648 ≤ x ∧ x ≤ 2147483647 ∧ -2147483648 ≤ (0 : Int) ∧ (0 : Int) ≤ 2147483647 by omega)
  have hLt' := iLt (x := 0) (y := x) (by omega)
  have hLe' := iLe (x := 0) (y := x) (by omega)
  refine lv_if_ne C.1 C.2.1 hd ht (fun h => kt ?_ p e s m args below meth c H ls locs C hI hS hl) (fun h => kf ?_ p e s m args below meth c H ls locs C hI hS hl)
  · first | exact hEq.mp h | exact hLt.mp h | exact hLe.mp h | exact hLt'.mp h | exact hLe'.mp h | exact fun q => h (hEq.mpr q)
  · first | exact hEq.mp h | exact fun q => h (hEq.mpr q) | exact Decidable.byContradiction fun q => h (hEq.mpr q) | exact Decidable.byContradiction fun q => h (hLt.mpr (by omega)) | exact Decidable.byContradiction fun q => h (hLe.mpr (by omega)) | exact Decidable.byContradiction fun q => h (hLt'.mpr (by omega)) | exact Decidable.byContradiction fun q => h (hLe'.mpr (by omega))
theorem x_icmp_lt (t n : Nat) {off : Int} (hd : decode T.2.1 pc = .ok (.if_icmp .lt off, 3)) (ht : (pc : Int) + off = (t : Int)) (hn : pc + 3 = n) (hr : -2147483648 ≤ x ∧ x ≤ 2147483647 ∧ -2147483648 ≤ y ∧ y ≤ 2147483647) (kt : x < y → X g T K t L st hp Q) (kf : y ≤ x → X g T K n L st hp Q) : X g T K pc L (iv y :: iv x :: st) hp Q := by
  subst hn
  intro p e s m args below meth c H ls locs C hI hS hl
  have hEq := iEq (x := x) (y := y) hr
  have hLt := iLt (x := x) (y := y) hr
  have hLe := iLe (x := x) (y := y) hr
  have hLt' := iLt (x := y) (y := x) (by omega)
  have hLe' := iLe (x := y) (y := x) (by omega)
  refine lv_icmp_lt C.1 C.2.1 hd ht (fun h => kt ?_ p e s m args below meth c H ls locs C hI hS hl) (fun h => kf ?_ p e s m args below meth c H ls locs C hI hS hl)
  · first | exact hEq.mp h | exact hLt.mp h | exact hLe.mp h | exact hLt'.mp h | exact hLe'.mp h | exact fun q => h (hEq.mpr q)
  · first | exact hEq.mp h | exact fun q => h (hEq.mpr q) | exact Decidable.byContradiction fun q => h (hEq.mpr q) | exact Decidable.byContradiction fun q => h (hLt.mpr (by omega)) | exact Decidable.byContradiction fun q => h (hLe.mpr (by omega)) | exact Decidable.byContradiction fun q => h (hLt'.mpr (by omega)) | exact Decidable.byContradiction fun q => h (hLe'.mpr (by omega))
theorem x_if_lt (t n : Nat) {off : Int} (hd : decode T.2.1 pc = .ok (.ifCond .lt off, 3)) (ht : (pc : Int) + off = (t : Int)) (hn : pc + 3 = n) (hr : -2147483648 ≤ x ∧ x ≤ 2147483647) (kt : x < 0 → X g T K t L st hp Q) (kf : 0 ≤ x → X g T K n L st hp Q) : X g T K pc L (iv x :: st) hp Q := by
  subst hn
  intro p e s m args below meth c H ls locs C hI hS hl
  have hEq := iEq (x := x) (y := 0) (show -2147483648 ≤ x ∧ x ≤ 2147483647 ∧ -2147483648 ≤ (0 : Int) ∧ (0 : Int) ≤ 2147483647 by omega)
  have hLt := iLt (x := x) (y := 0) (show -2147483648 ≤ x ∧ x ≤ 2147483647 ∧ -2147483648 ≤ (0 : Int) ∧ (0 : Int) ≤ 2147483647 by omega)
  have hLe := iLe (x := x) (y := 0) (show -2147483648 ≤ x ∧ x ≤ 2147483647 ∧ -2147483648 ≤ (0 : Int) ∧ (0 : Int) ≤ 2147483647 by omega)
  have hLt' := iLt (x := 0) (y := x) (by omega)
  have hLe' := iLe (x := 0) (y := x) (by omega)
  refine lv_if_lt C.1 C.2.1 hd ht (fun h => kt ?_ p e s m args below meth c H ls locs C hI hS hl) (fun h => kf ?_ p e s m args below meth c H ls locs C hI hS hl)
  · first | exact hEq.mp h | exact hLt.mp h | exact hLe.mp h | exact hLt'.mp h | exact hLe'.mp h | exact fun q => h (hEq.mpr q)
  · first | exact hEq.mp h | exact fun q => h (hEq.mpr q) | exact Decidable.byContradiction fun q => h (hEq.mpr q) | exact Decidable.byContradiction fun q => h (hLt.mpr (by omega)) | exact Decidable.byContradiction fun q => h (hLe.mpr (by omega)) | exact Decidable.byContradiction fun q => h (hLt'.mpr (by omega)) | exact Decidable.byContradiction fun q => h (hLe'.mpr (by omega))
theorem x_icmp_ge (t n : Nat) {off : Int} (hd : decode T.2.1 pc = .ok (.if_icmp .ge off, 3)) (ht : (pc : Int) + off = (t : Int)) (hn : pc + 3 = n) (hr : -2147483648 ≤ x ∧ x ≤ 2147483647 ∧ -2147483648 ≤ y ∧ y ≤ 2147483647) (kt : y ≤ x → X g T K t L st hp Q) (kf : x < y → X g T K n L st hp Q) : X g T K pc L (iv y :: iv x :: st) hp Q := by
  subst hn
  intro p e s m args below meth c H ls locs C hI hS hl
  have hEq := iEq (x := x) (y := y) hr
  have hLt := iLt (x := x) (y := y) hr
  have hLe := iLe (x := x) (y := y) hr
  have hLt' := iLt (x := y) (y := x) (by omega)
  have hLe' := iLe (x := y) (y := x) (by omega)
  refine lv_icmp_ge C.1 C.2.1 hd ht (fun h => kt ?_ p e s m args below meth c H ls locs C hI hS hl) (fun h => kf ?_ p e s m args below meth c H ls locs C hI hS hl)
  · first | exact hEq.mp h | exact hLt.mp h | exact hLe.mp h | exact hLt'.mp h | exact hLe'.mp h | exact fun q => h (hEq.mpr q)
  · first | exact hEq.mp h | exact fun q => h (hEq.mpr q) | exact Decidable.byContradiction fun q => h (hEq.mpr q) | exact Decidable.byContradiction fun q => h (hLt.mpr (by omega)) | exact Decidable.byContradiction fun q => h (hLe.mpr (by omega)) | exact Decidable.byContradiction fun q => h (hLt'.mpr (by omega)) | exact Decidable.byContradiction fun q => h (hLe'.mpr (by omega))
theorem x_if_ge (t n : Nat) {off : Int} (hd : decode T.2.1 pc = .ok (.ifCond .ge off, 3)) (ht : (pc : Int) + off = (t : Int)) (hn : pc + 3 = n) (hr : -2147483648 ≤ x ∧ x ≤ 2147483647) (kt : 0 ≤ x → X g T K t L st hp Q) (kf : x < 0 → X g T K n L st hp Q) : X g T K pc L (iv x :: st) hp Q := by
  subst hn
  intro p e s m args below meth c H ls locs C hI hS hl
  have hEq := iEq (x := x) (y := 0) (show -2147483648 ≤ x ∧ x ≤ 2147483647 ∧ -2147483648 ≤ (0 : Int) ∧ (0 : Int) ≤ 2147483647 by omega)
  have hLt := iLt (x := x) (y := 0) (show -2147483648 ≤ x ∧ x ≤ 2147483647 ∧ -2147483648 ≤ (0 : Int) ∧ (0 : Int) ≤ 2147483647 by omega)
  have hLe := iLe (x := x) (y := 0) (show -2147483648 ≤ x ∧ x ≤ 2147483647 ∧ -2147483648 ≤ (0 : Int) ∧ (0 : Int) ≤ 2147483647 by omega)
  have hLt' := iLt (x := 0) (y := x) (by omega)
  have hLe' := iLe (x := 0) (y := x) (by omega)
  refine lv_if_ge C.1 C.2.1 hd ht (fun h => kt ?_ p e s m args below meth c H ls locs C hI hS hl) (fun h => kf ?_ p e s m args below meth c H ls locs C hI hS hl)
  · first | exact hEq.mp h | exact hLt.mp h | exact hLe.mp h | exact hLt'.mp h | exact hLe'.mp h | exact fun q => h (hEq.mpr q)
  · first | exact hEq.mp h | exact fun q => h (hEq.mpr q) | exact Decidable.byContradiction fun q => h (hEq.mpr q) | exact Decidable.byContradiction fun q => h (hLt.mpr (by omega)) | exact Decidable.byContradiction fun q => h (hLe.mpr (by omega)) | exact Decidable.byContradiction fun q => h (hLt'.mpr (by omega)) | exact Decidable.byContradiction fun q => h (hLe'.mpr (by omega))
theorem x_icmp_gt (t n : Nat) {off : Int} (hd : decode T.2.1 pc = .ok (.if_icmp .gt off, 3)) (ht : (pc : Int) + off = (t : Int)) (hn : pc + 3 = n) (hr : -2147483648 ≤ x ∧ x ≤ 2147483647 ∧ -2147483648 ≤ y ∧ y ≤ 2147483647) (kt : y < x → X g T K t L st hp Q) (kf : x ≤ y → X g T K n L st hp Q) : X g T K pc L (iv y :: iv x :: st) hp Q := by
  subst hn
  intro p e s m args below meth c H ls locs C hI hS hl
  have hEq := iEq (x := x) (y := y) hr
  have hLt := iLt (x := x) (y := y) hr
  have hLe := iLe (x := x) (y := y) hr
  have hLt' := iLt (x := y) (y := x) (by omega)
  have hLe' := iLe (x := y) (y := x) (by omega)
  refine lv_icmp_gt C.1 C.2.1 hd ht (fun h => kt ?_ p e s m args below meth c H ls locs C hI hS hl) (fun h => kf ?_ p e s m args below meth c H ls locs C hI hS hl)
  · first | exact hEq.mp h | exact hLt.mp h | exact hLe.mp h | exact hLt'.mp h | exact hLe'.mp h | exact fun q => h (hEq.mpr q)
  · first | exact hEq.mp h | exact fun q => h (hEq.mpr q) | exact Decidable.byContradiction fun q => h (hEq.mpr q) | exact Decidable.byContradiction fun q => h (hLt.mpr (by omega)) | exact Decidable.byContradiction fun q => h (hLe.mpr (by omega)) | exact Decidable.byContradiction fun q => h (hLt'.mpr (by omega)) | exact Decidable.byContradiction fun q => h (hLe'.mpr (by omega))
theorem x_if_gt (t n : Nat) {off : Int} (hd : decode T.2.1 pc = .ok (.ifCond .gt off, 3)) (ht : (pc : Int) + off = (t : Int)) (hn : pc + 3 = n) (hr : -2147483648 ≤ x ∧ x ≤ 2147483647) (kt : 0 < x → X g T K t L st hp Q) (kf : x ≤ 0 → X g T K n L st hp Q) : X g T K pc L (iv x :: st) hp Q := by
  subst hn
  intro p e s m args below meth c H ls locs C hI hS hl
  have hEq := iEq (x := x) (y := 0) (show -2147483648 ≤ x ∧ x ≤ 2147483647 ∧ -2147483648 ≤ (0 : Int) ∧ (0 : Int) ≤ 2147483647 by omega)
  have hLt := iLt (x := x) (y := 0) (show -2147483648 ≤ x ∧ x ≤ 2147483647 ∧ -2147483648 ≤ (0 : Int) ∧ (0 : Int) ≤ 2147483647 by omega)
  have hLe := iLe (x := x) (y := 0) (show -2147483648 ≤ x ∧ x ≤ 2147483647 ∧ -2147483648 ≤ (0 : Int) ∧ (0 : Int) ≤ 2147483647 by omega)
  have hLt' := iLt (x := 0) (y := x) (by omega)
  have hLe' := iLe (x := 0) (y := x) (by omega)
  refine lv_if_gt C.1 C.2.1 hd ht (fun h => kt ?_ p e s m args below meth c H ls locs C hI hS hl) (fun h => kf ?_ p e s m args below meth c H ls locs C hI hS hl)
  · first | exact hEq.mp h | exact hLt.mp h | exact hLe.mp h | exact hLt'.mp h | exact hLe'.mp h | exact fun q => h (hEq.mpr q)
  · first | exact hEq.mp h | exact fun q => h (hEq.mpr q) | exact Decidable.byContradiction fun q => h (hEq.mpr q) | exact Decidable.byContradiction fun q => h (hLt.mpr (by omega)) | exact Decidable.byContradiction fun q => h (hLe.mpr (by omega)) | exact Decidable.byContradiction fun q => h (hLt'.mpr (by omega)) | exact Decidable.byContradiction fun q => h (hLe'.mpr (by omega))
theorem x_icmp_le (t n : Nat) {off : Int} (hd : decode T.2.1 pc = .ok (.if_icmp .le off, 3)) (ht : (pc : Int) + off = (t : Int)) (hn : pc + 3 = n) (hr : -2147483648 ≤ x ∧ x ≤ 2147483647 ∧ -2147483648 ≤ y ∧ y ≤ 2147483647) (kt : x ≤ y → X g T K t L st hp Q) (kf : y < x → X g T K n L st hp Q) : X g T K pc L (iv y :: iv x :: st) hp Q := by
  subst hn
  intro p e s m args below meth c H ls locs C hI hS hl
  have hEq := iEq (x := x) (y := y) hr
  have hLt := iLt (x := x) (y := y) hr
  have hLe := iLe (x := x) (y := y) hr
  have hLt' := iLt (x := y) (y := x) (by omega)
  have hLe' := iLe (x := y) (y := x) (by omega)
  refine lv_icmp_le C.1 C.2.1 hd ht (fun h => kt ?_ p e s m args below meth c H ls locs C hI hS hl) (fun h => kf ?_ p e s m args below meth c H ls locs C hI hS hl)
  · first | exact hEq.mp h | exact hLt.mp h | exact hLe.mp h | exact hLt'.mp h | exact hLe'.mp h | exact fun q => h (hEq.mpr q)
  · first | exact hEq.mp h | exact fun q => h (hEq.mpr q) | exact Decidable.byContradiction fun q => h (hEq.mpr q) | exact Decidable.byContradiction fun q => h (hLt.mpr (by omega)) | exact Decidable.byContradiction fun q => h (hLe.mpr (by omega)) | exact Decidable.byContradiction fun q => h (hLt'.mpr (by omega)) | exact Decidable.byContradiction fun q => h (hLe'.mpr (by omega))
theorem x_if_le (t n : Nat) {off : Int} (hd : decode T.2.1 pc = .ok (.ifCond .le off, 3)) (ht : (pc : Int) + off = (t : Int)) (hn : pc + 3 = n) (hr : -2147483648 ≤ x ∧ x ≤ 2147483647) (kt : x ≤ 0 → X g T K t L st hp Q) (kf : 0 < x → X g T K n L st hp Q) : X g T K pc L (iv x :: st) hp Q := by
  subst hn
  intro p e s m args below meth c H ls locs C hI hS hl
  have hEq := iEq (x := x) (y := 0) (show -2147483648 ≤ x ∧ x ≤ 2147483647 ∧ -2147483648 ≤ (0 : Int) ∧ (0 : Int) ≤ 2147483647 by omega)
  have hLt := iLt (x := x) (y := 0) (show -2147483648 ≤ x ∧ x ≤ 2147483647 ∧ -2147483648 ≤ (0 : Int) ∧ (0 : Int) ≤ 2147483647 by omega)
  have hLe := iLe (x := x) (y := 0) (show -2147483648 ≤ x ∧ x ≤ 2147483647 ∧ -2147483648 ≤ (0 : Int) ∧ (0 : Int) ≤ 2147483647 by omega)
  have hLt' := iLt (x := 0) (y := x) (by omega)
  have hLe' := iLe (x := 0) (y := x) (by omega)
  refine lv_if_le C.1 C.2.1 hd ht (fun h => kt ?_ p e s m args below meth c H ls locs C hI hS hl) (fun h => kf ?_ p e s m args below meth c H ls locs C hI hS hl)
  · first | exact hEq.mp h | exact hLt.mp h | exact hLe.mp h | exact hLt'.mp h | exact hLe'.mp h | exact fun q => h (hEq.mpr q)
  · first | exact hEq.mp h | exact fun q => h (hEq.mpr q) | exact Decidable.byContradiction fun q => h (hEq.mpr q) | exact Decidable.byContradiction fun q => h (hLt.mpr (by omega)) | exact Decidable.byContradiction fun q => h (hLe.mpr (by omega)) | exact Decidable.byContradiction fun q => h (hLt'.mpr (by omega)) | exact Decidable.byContradiction fun q => h (hLe'.mpr (by omega))
theorem x_ifeq_b (t n : Nat) {off : Int} {c : Prop} [Decidable c] (hd : decode T.2.1 pc = .ok (.ifCond .eq off, 3)) (ht : (pc : Int) + off = (t : Int)) (hn : pc + 3 = n) (kt : ¬ c → X g T K t L st hp Q) (kf : c → X g T K n L st hp Q) : X g T K pc L (iv (bI c) :: st) hp Q := by
  have hb := bI_or c
  refine x_if_eq t n hd ht hn (by omega) (fun h => kt fun q => ?_) (fun h => kf ?_)
  · rw [bI_t q] at h; cases h
  · exact Decidable.byContradiction fun q => h (bI_f q)
theorem x_ifne_b (t n : Nat) {off : Int} {c : Prop} [Decidable c] (hd : decode T.2.1 pc = .ok (.ifCond .ne off, 3)) (ht : (pc : Int) + off = (t : Int)) (hn : pc + 3 = n) (kt : c → X g T K t L st hp Q) (kf : ¬ c → X g T K n L st hp Q) : X g T K pc L (iv (bI c) :: st) hp Q := by
  have hb := bI_or c
  refine x_if_ne t n hd ht hn (by omega) (fun h => kt ?_) (fun h => kf fun q => ?_)
  · exact Decidable.byContradiction fun q => h (bI_f q)
  · rw [bI_t q] at h; cases h
theorem x_getI (n : Nat) {idx i ci : Nat} (kf : Nat) (kz : Int) (hkz : (kf : Int) = kz) (hd : decode T.2.1 pc = .ok (.getfield idx, 3)) (hn : pc + 3 = n) (hf : FL T.1.cls idx ci kf) (hr : xRef ci kf = false) (hs : sh[i]? = some (.inl ci)) (k : (-2147483648 ≤ M i kz ∧ M i kz ≤ 2147483647) → X g T K n L (iv (M i kz) :: st) (sh, rf, M) Q) : X g T K pc L (rv g i :: st) (sh, rf, M) Q := by
  subst hn; subst hkz
  intro p e s m args below meth c H ls locs C hI hS hl
  have k := k (hI.1.2 i kf) p e s m args below meth c H ls locs C hI hS hl
  obtain ⟨h8, hkN, hw⟩ := hf
  obtain ⟨hx, hb, hml, hown, hts, -, -, hK, -⟩ := C
  have hat := xW_at (g := g) (hp := (sh, rf, M)) hs
  refine va_get (D := gD g) (ci := ci) (v := iv (M i kf)) (C := xC ci) (T := xT ci) (N := xN ci) hx hb hts (xin h8) hown hK hI.1.1 i hat (xcl_at h8) kf hkN (hts _ hw) (fun _ h9 => h9) ?_ hd k
  simp [hkN, xF, hr]
theorem x_getR (n : Nat) {idx i ci : Nat} (kf j : Nat) (hd : decode T.2.1 pc = .ok (.getfield idx, 3)) (hn : pc + 3 = n) (hf : FL T.1.cls idx ci kf) (hr : xRef ci kf = true) (hs : sh[i]? = some (.inl ci)) (hj : rf i kf = some j) (k : X g T K n L (rv g j :: st) (sh, rf, M) Q) : X g T K pc L (rv g i :: st) (sh, rf, M) Q := by
  subst hn
  intro p e s m args below meth c H ls locs C hI hS hl
  have k := k p e s m args below meth c H ls locs C hI hS hl
  obtain ⟨h8, hkN, hw⟩ := hf
  obtain ⟨hx, hb, hml, hown, hts, -, -, hK, -⟩ := C
  have hat := xW_at (g := g) (hp := (sh, rf, M)) hs
  refine va_get (D := gD g) (ci := ci) (v := rv g j) (C := xC ci) (T := xT ci) (N := xN ci) hx hb hts (xin h8) hown hK hI.1.1 i hat (xcl_at h8) kf hkN (hts _ hw) (fun _ h9 => h9) ?_ hd k
  simp [hkN, xF, hr, hj, va_rf, rv]
theorem x_putI (n : Nat) {idx i ci : Nat} (kf : Nat) (kz : Int) (hkz : (kf : Int) = kz) {v : Int} (hd : decode T.2.1 pc = .ok (.putfield idx, 3)) (hn : pc + 3 = n) (hf : FL T.1.cls idx ci kf) (hfin : (xT ci kf).2.2.2 = false) (hr : xRef ci kf = false) (hs : sh[i]? = some (.inl ci)) (hv : -2147483648 ≤ v ∧ v ≤ 2147483647) (k : X g T K n L st (sh, rf, up2 M i kz v) Q) : X g T K pc L (iv v :: rv g i :: st) (sh, rf, M) Q := by
  subst hn; subst hkz
  intro p e s m args below meth c H ls locs C hI hS hl
  obtain ⟨h8, hkN, hw⟩ := hf
  obtain ⟨hx, hb, hml, hown, hts, -, -, hK, -⟩ := id C
  have hat := xW_at (g := g) (hp := (sh, rf, M)) hs
  refine va_put (D := gD g) (ci := ci) (v := iv v) (ty := .int) (C := xC ci) (T := xT ci) (N := xN ci) hx hb hts (xin h8) (xty ci) (xty_ok h8) (xnm h8) hown hK hI.1.1 (xDD g _) hS i hat (xcl_at h8) kf hkN (hts _ hw) (fun _ h9 => h9) hfin (by rw [xty_ok h8 kf hkN, xRef_int hr]) rfl rfl (by simp [hkN]) hd (fun H1 locs1 hP1 _ hS1 => ?_)
  refine k p e s m args below meth c H1 ls locs1 C ⟨⟨?_, ?_⟩, hI.2⟩ hS1 hl
  · rw [xfs_int v hr] at hP1
    have e := xW_upd (g := g) (hp := (sh, rf, M)) (hp' := (sh, rf, up2 M i (kf : Int) v)) hs rfl (fun j _ => rfl) (fun j hj => up2_o M _ _ hj)
    rw [← e]
    exact hP1
  · intro a b
    show -2147483648 ≤ up2 M i (kf : Int) v a b ∧ up2 M i (kf : Int) v a b ≤ 2147483647
    unfold up2
    split
    · exact hv
    · exact hI.1.2 a b
end XROWS2
end
section
theorem jEq {x y : Int} (h : (-9223372036854775808 ≤ x ∧ x ≤ 9223372036854775807) ∧ (-9223372036854775808 ≤ y ∧ y ≤ 9223372036854775807)) : Int64.ofInt x = Int64.ofInt y ↔ x = y := by
  rw [← Int64.toInt_inj, jT h.1, jT h.2]
theorem jLt {x y : Int} (h : (-9223372036854775808 ≤ x ∧ x ≤ 9223372036854775807) ∧ (-9223372036854775808 ≤ y ∧ y ≤ 9223372036854775807)) : Int64.ofInt x < Int64.ofInt y ↔ x < y := by
  rw [Int64.lt_iff_toInt_lt, jT h.1, jT h.2]
theorem jCmp {x y : Int} (h : (-9223372036854775808 ≤ x ∧ x ≤ 9223372036854775807) ∧ (-9223372036854775808 ≤ y ∧ y ≤ 9223372036854775807)) : lg_cmp (Int64.ofInt x) (Int64.ofInt y) = Int32.ofInt (if y < x then 1 else if x = y then 0 else -1) := by
  unfold lg_cmp
  by_cases h1 : y < x
  · rw [if_pos h1, if_pos ((jLt ⟨h.2, h.1⟩).mpr h1)]; rfl
  · rw [if_neg h1, if_neg (fun q => h1 ((jLt ⟨h.2, h.1⟩).mp q))]
    by_cases h2 : x = y
    · rw [if_pos h2, if_pos ((jEq h).mpr h2)]; rfl
    · rw [if_neg h2, if_neg (fun q => h2 ((jEq h).mp q))]; rfl
theorem lN_of (n : Nat) : Int64.ofInt (n : Int) = lN n := Int64.ofInt_eq_ofNat
theorem jDiv {x y : Int} (h : 0 ≤ x ∧ x ≤ 9223372036854775807 ∧ 0 < y ∧ y ≤ 9223372036854775807) : Int64.ofInt x / Int64.ofInt y = Int64.ofInt (x / y) := by
  obtain ⟨a, rfl⟩ := Int.eq_ofNat_of_zero_le h.1
  obtain ⟨b, rfl⟩ := Int.eq_ofNat_of_zero_le (Int.le_of_lt h.2.2.1)
  rw [lN_of, lN_of, pk_lDiv (by omega) (by omega) (by omega), ← lN_of]
  rfl
theorem jRem {x y : Int} (h : 0 ≤ x ∧ x ≤ 9223372036854775807 ∧ 0 < y ∧ y ≤ 9223372036854775807) : Int64.ofInt x - Int64.ofInt x / Int64.ofInt y * Int64.ofInt y = Int64.ofInt (x % y) := by
  obtain ⟨a, rfl⟩ := Int.eq_ofNat_of_zero_le h.1
  obtain ⟨b, rfl⟩ := Int.eq_ofNat_of_zero_le (Int.le_of_lt h.2.2.1)
  rw [lN_of, lN_of, pk_lRem (by omega) (by omega) (by omega), ← lN_of]
  rfl
theorem jNe0 {y : Int} (h : 0 < y ∧ y ≤ 9223372036854775807) : ¬ Int64.ofInt y = 0 := by
  intro q
  have := (jEq (x := y) (y := 0) (by omega)).mp (by rw [q]; rfl)
  omega
theorem xCl {x : Int} {n : Nat} {f : Int → Int} (h : 0 ≤ x ∧ x < n ∧ n < 2147483648) : f (((Int32.ofInt x).toNatClampNeg : Nat) : Int) = f x := by
  rw [iClamp h, Int.toNat_of_nonneg h.1]
theorem xarr_upd {M : Mem} {i : Nat} {x v : Int} {n : Nat} (h : 0 ≤ x ∧ x < n ∧ n < 2147483648) : upd (fun j : Nat => Int32.ofInt (M i (j : Int))) (Int32.ofInt x).toNatClampNeg (Int32.ofInt v) = (fun j : Nat => Int32.ofInt (up2 M i x v i (j : Int))) := by
  funext j
  rw [iClamp h]
  unfold upd up2
  by_cases hj : j = x.toNat
  · have : (j : Int) = x := by omega
    rw [if_pos hj, if_pos ⟨rfl, this⟩]
  · have : ¬ (j : Int) = x := by omega
    simp [hj, this]
section XROWS3
variable {g : GG} {T : XT} {K : XK} {pc : Nat} {L L' : List (Option Value)} {st : List Value} {hp : Hp} {Q : Option Value → Hp → Prop} {x y z : Int} {sh : List Shp} {rf : Nat → Nat → Option Nat} {M : Mem}
theorem x_lcmp (n : Nat) (hd : decode T.2.1 pc = .ok (.lcmp, 1)) (hn : pc + 1 = n) (hr : (-9223372036854775808 ≤ x ∧ x ≤ 9223372036854775807) ∧ (-9223372036854775808 ≤ y ∧ y ≤ 9223372036854775807)) (k : ∀ v : Int, (v = 1 ∧ y < x) ∨ (v = 0 ∧ x = y) ∨ (v = -1 ∧ x < y) → X g T K n L (iv v :: st) hp Q) : X g T K pc L (jv y :: jv x :: st) hp Q := by
  subst hn
  intro p e s m args below meth c H ls locs C hI hS hl
  have k := k (if y < x then 1 else if x = y then 0 else -1) (by split; exact Or.inl ⟨rfl, by assumption⟩; split; exact Or.inr (Or.inl ⟨rfl, by assumption⟩); exact Or.inr (Or.inr ⟨rfl, by omega⟩)) p e s m args below meth c H ls locs C hI hS hl
  unfold iv at k
  rw [← jCmp hr] at k
  exact W.lcmp C.1 C.2.1 hd k
theorem x_ldiv (n : Nat) (hd : decode T.2.1 pc = .ok (.ldiv, 1)) (hn : pc + 1 = n) (hr : 0 ≤ x ∧ x ≤ 9223372036854775807 ∧ 0 < y ∧ y ≤ 9223372036854775807) (k : X g T K n L (jv (x / y) :: st) hp Q) : X g T K pc L (jv y :: jv x :: st) hp Q := by
  subst hn
  intro p e s m args below meth c H ls locs C hI hS hl
  have k := k p e s m args below meth c H ls locs C hI hS hl
  unfold jv at k ⊢
  rw [← jDiv hr] at k
  exact lv_ldiv C.1 C.2.1 hd (jNe0 hr.2.2) k
theorem x_lrem (n : Nat) (hd : decode T.2.1 pc = .ok (.lrem, 1)) (hn : pc + 1 = n) (hr : 0 ≤ x ∧ x ≤ 9223372036854775807 ∧ 0 < y ∧ y ≤ 9223372036854775807) (k : X g T K n L (jv (x % y) :: st) hp Q) : X g T K pc L (jv y :: jv x :: st) hp Q := by
  subst hn
  intro p e s m args below meth c H ls locs C hI hS hl
  have k := k p e s m args below meth c H ls locs C hI hS hl
  unfold jv at k ⊢
  rw [← jRem hr] at k
  exact lv_lrem C.1 C.2.1 hd (jNe0 hr.2.2) k
theorem x_iaload (n : Nat) {i len : Nat} (hd : decode T.2.1 pc = .ok (.iaload, 1)) (hn : pc + 1 = n) (hs : sh[i]? = some (.inr (0, len))) (hr : 0 ≤ x ∧ x < len ∧ len < 2147483648) (k : (-2147483648 ≤ M i x ∧ M i x ≤ 2147483647) → X g T K n L (iv (M i x) :: st) (sh, rf, M) Q) : X g T K pc L (iv x :: rv g i :: st) (sh, rf, M) Q := by
  subst hn
  intro p e s m args below meth c H ls locs C hI hS hl
  have k := k (hI.1.2 i x) p e s m args below meth c H ls locs C hI hS hl
  have hat := xW_at (g := g) (hp := (sh, rf, M)) hs
  refine va_iald (D := gD g) (cl := xcl) (tys := xtys g) C.1 C.2.1 C.2.2.2.2.2.2.2.1 hI.1.1 i 0 (cA := gA g 0) (n := len) (f := fun j : Nat => Int32.ofInt (M i (j : Int))) hat rfl (iIn hr) hd ?_
  rw [xCl (f := fun q => M i q) hr]
  exact k

theorem x_baload (n : Nat) {i len : Nat} (hd : decode T.2.1 pc = .ok (.baload, 1)) (hn : pc + 1 = n) (hs : sh[i]? = some (.inr (1, len))) (hr : 0 ≤ x ∧ x < len ∧ len < 2147483648) (k : (-2147483648 ≤ M i x ∧ M i x ≤ 2147483647) → X g T K n L (iv (M i x) :: st) (sh, rf, M) Q) : X g T K pc L (iv x :: rv g i :: st) (sh, rf, M) Q := by
  subst hn
  intro p e s m args below meth c H ls locs C hI hS hl
  have k := k (hI.1.2 i x) p e s m args below meth c H ls locs C hI hS hl
  have hat := xW_at (g := g) (hp := (sh, rf, M)) hs
  refine va_bald (D := gD g) (cl := xcl) (tys := xtys g) C.1 C.2.1 C.2.2.2.2.2.2.2.1 hI.1.1 i 1 (cA := gA g 1) (n := len) (f := fun j : Nat => Int32.ofInt (M i (j : Int))) hat rfl (iIn hr) hd ?_
  rw [xCl (f := fun q => M i q) hr]
  exact k

theorem x_zaload (n : Nat) {i len : Nat} (hd : decode T.2.1 pc = .ok (.baload, 1)) (hn : pc + 1 = n) (hs : sh[i]? = some (.inr (2, len))) (hr : 0 ≤ x ∧ x < len ∧ len < 2147483648) (k : (-2147483648 ≤ M i x ∧ M i x ≤ 2147483647) → X g T K n L (iv (M i x) :: st) (sh, rf, M) Q) : X g T K pc L (iv x :: rv g i :: st) (sh, rf, M) Q := by
  subst hn
  intro p e s m args below meth c H ls locs C hI hS hl
  have k := k (hI.1.2 i x) p e s m args below meth c H ls locs C hI hS hl
  have hat := xW_at (g := g) (hp := (sh, rf, M)) hs
  refine va_zald (D := gD g) (cl := xcl) (tys := xtys g) C.1 C.2.1 C.2.2.2.2.2.2.2.1 hI.1.1 i 2 (cA := gA g 2) (n := len) (f := fun j : Nat => Int32.ofInt (M i (j : Int))) hat rfl (iIn hr) hd ?_
  rw [xCl (f := fun q => M i q) hr]
  exact k

theorem x_iastore (n : Nat) {i len : Nat} {v : Int} (hd : decode T.2.1 pc = .ok (.iastore, 1)) (hn : pc + 1 = n) (hs : sh[i]? = some (.inr (0, len))) (hr : 0 ≤ x ∧ x < len ∧ len < 2147483648) (hv : -2147483648 ≤ v ∧ v ≤ 2147483647) (k : X g T K n L st (sh, rf, up2 M i x v) Q) : X g T K pc L (iv v :: iv x :: rv g i :: st) (sh, rf, M) Q := by
  subst hn
  intro p e s m args below meth c H ls locs C hI hS hl
  have hat := xW_at (g := g) (hp := (sh, rf, M)) hs
  refine va_iast (D := gD g) (cl := xcl) (tys := xtys g) C.1 C.2.1 C.2.2.2.2.2.2.2.1 hI.1.1 (xDD g _) hS i 0 (cA := gA g 0) (n := len) (f := fun j : Nat => Int32.ofInt (M i (j : Int))) hat rfl (iIn hr) hd (fun H1 locs1 hP1 _ hS1 => ?_)
  refine k p e s m args below meth c H1 ls locs1 C ⟨⟨?_, ?_⟩, hI.2⟩ hS1 hl
  · rw [xarr_upd (M := M) (i := i) (v := v) hr] at hP1
    have e := xW_upd (g := g) (hp := (sh, rf, M)) (hp' := (sh, rf, up2 M i x v)) hs rfl (fun j _ => rfl) (fun j hj => up2_o M _ _ hj)
    rw [← e]
    exact hP1
  · intro a b
    show -2147483648 ≤ up2 M i x v a b ∧ up2 M i x v a b ≤ 2147483647
    unfold up2
    split
    · exact hv
    · exact hI.1.2 a b

theorem x_bastore (n : Nat) {i len : Nat} {v : Int} (hd : decode T.2.1 pc = .ok (.bastore, 1)) (hn : pc + 1 = n) (hs : sh[i]? = some (.inr (1, len))) (hr : 0 ≤ x ∧ x < len ∧ len < 2147483648) (hv : -2147483648 ≤ v ∧ v ≤ 2147483647) (hnar : vp_nar .byte (Int32.ofInt v) = Int32.ofInt v) (k : X g T K n L st (sh, rf, up2 M i x v) Q) : X g T K pc L (iv v :: iv x :: rv g i :: st) (sh, rf, M) Q := by
  subst hn
  intro p e s m args below meth c H ls locs C hI hS hl
  have hat := xW_at (g := g) (hp := (sh, rf, M)) hs
  refine va_bast (D := gD g) (cl := xcl) (tys := xtys g) C.1 C.2.1 C.2.2.2.2.2.2.2.1 hI.1.1 (xDD g _) hS i 1 (cA := gA g 1) (n := len) (f := fun j : Nat => Int32.ofInt (M i (j : Int))) hat rfl (iIn hr) hd (fun H1 locs1 hP1 _ hS1 => ?_)
  rw [hnar] at hP1
  refine k p e s m args below meth c H1 ls locs1 C ⟨⟨?_, ?_⟩, hI.2⟩ hS1 hl
  · rw [xarr_upd (M := M) (i := i) (v := v) hr] at hP1
    have e := xW_upd (g := g) (hp := (sh, rf, M)) (hp' := (sh, rf, up2 M i x v)) hs rfl (fun j _ => rfl) (fun j hj => up2_o M _ _ hj)
    rw [← e]
    exact hP1
  · intro a b
    show -2147483648 ≤ up2 M i x v a b ∧ up2 M i x v a b ≤ 2147483647
    unfold up2
    split
    · exact hv
    · exact hI.1.2 a b

theorem x_zastore (n : Nat) {i len : Nat} {v : Int} (hd : decode T.2.1 pc = .ok (.bastore, 1)) (hn : pc + 1 = n) (hs : sh[i]? = some (.inr (2, len))) (hr : 0 ≤ x ∧ x < len ∧ len < 2147483648) (hv : -2147483648 ≤ v ∧ v ≤ 2147483647) (hnar : vp_nar .boolean (Int32.ofInt v) = Int32.ofInt v) (k : X g T K n L st (sh, rf, up2 M i x v) Q) : X g T K pc L (iv v :: iv x :: rv g i :: st) (sh, rf, M) Q := by
  subst hn
  intro p e s m args below meth c H ls locs C hI hS hl
  have hat := xW_at (g := g) (hp := (sh, rf, M)) hs
  refine va_zast (D := gD g) (cl := xcl) (tys := xtys g) C.1 C.2.1 C.2.2.2.2.2.2.2.1 hI.1.1 (xDD g _) hS i 2 (cA := gA g 2) (n := len) (f := fun j : Nat => Int32.ofInt (M i (j : Int))) hat rfl (iIn hr) hd (fun H1 locs1 hP1 _ hS1 => ?_)
  rw [hnar] at hP1
  refine k p e s m args below meth c H1 ls locs1 C ⟨⟨?_, ?_⟩, hI.2⟩ hS1 hl
  · rw [xarr_upd (M := M) (i := i) (v := v) hr] at hP1
    have e := xW_upd (g := g) (hp := (sh, rf, M)) (hp' := (sh, rf, up2 M i x v)) hs rfl (fun j _ => rfl) (fun j hj => up2_o M _ _ hj)
    rw [← e]
    exact hP1
  · intro a b
    show -2147483648 ≤ up2 M i x v a b ∧ up2 M i x v a b ≤ 2147483647
    unfold up2
    split
    · exact hv
    · exact hI.1.2 a b

theorem x_alen (n : Nat) {i t len : Nat} (h5 : t < 5) (hd : decode T.2.1 pc = .ok (.arraylength, 1)) (hn : pc + 1 = n) (hs : sh[i]? = some (.inr (t, len))) (z : Int) (hz : ((len : Nat) : Int) = z) (k : X g T K n L (iv z :: st) (sh, rf, M) Q) : X g T K pc L (rv g i :: st) (sh, rf, M) Q := by
  subst hn; subst hz
  intro p e s m args below meth c H ls locs C hI hS hl
  have k := k p e s m args below meth c H ls locs C hI hS hl
  have hat := xW_at (g := g) (hp := (sh, rf, M)) hs
  have ht : ∃ ty, (xtys g)[t]? = some (gA g t, ty) := by
    match t, h5 with
    | 0, _ => exact ⟨_, rfl⟩
    | 1, _ => exact ⟨_, rfl⟩
    | 2, _ => exact ⟨_, rfl⟩
    | 3, _ => exact ⟨_, rfl⟩
    | 4, _ => exact ⟨_, rfl⟩
  obtain ⟨ty, ht⟩ := ht
  exact va_alen (D := gD g) (cl := xcl) (tys := xtys g) C.1 C.2.1 C.2.2.2.2.2.2.2.1 hI.1.1 i t hat ht (v := Int32.ofInt (len : Int)) Int32.ofInt_eq_ofNat.symm hd k
theorem x_aaload (n : Nat) {i t len : Nat} (j : Nat) (h5 : t = 3 ∨ t = 4) (hd : decode T.2.1 pc = .ok (.aaload, 1)) (hn : pc + 1 = n) (hs : sh[i]? = some (.inr (t, len))) (hr : 0 ≤ x ∧ x < len ∧ len < 2147483648) (hj : rf i x.toNat = some j) (k : X g T K n L (rv g j :: st) (sh, rf, M) Q) : X g T K pc L (iv x :: rv g i :: st) (sh, rf, M) Q := by
  subst hn
  intro p e s m args below meth c H ls locs C hI hS hl
  have k := k p e s m args below meth c H ls locs C hI hS hl
  have hat := xW_at (g := g) (hp := (sh, rf, M)) hs
  have ev : va_rf ((rf i (Int32.ofInt x).toNatClampNeg).map (fun q => gB g + q)) = rv g j := by
    rw [iClamp hr, hj]; rfl
  rw [← ev] at k
  rcases h5 with rfl | rfl
  · exact va_aldq (D := gD g) (cl := xcl) (tys := xtys g) C.1 C.2.1 C.2.2.2.2.2.2.2.1 hI.1.1 i 3 (cA := gA g 3) (C := RX1) (n := len) (f := fun j => (rf i j).map (fun q => gB g + q)) hat rfl (iIn hr) hd k
  · exact va_aldq (D := gD g) (cl := xcl) (tys := xtys g) C.1 C.2.1 C.2.2.2.2.2.2.2.1 hI.1.1 i 4 (cA := gA g 4) (C := RX2) (n := len) (f := fun j => (rf i j).map (fun q => gB g + q)) hat rfl (iIn hr) hd k
/-! ends -/
theorem x_ret {v : Int} (ty : FieldType) (hd : decode T.2.1 pc = .ok (.ireturn, 1)) (hr : T.2.2.2 = some ty) (hnar : narrow ty (iv v) = iv v) (hk : K.2.2.1 = K.2.1.1 ∧ K.2.2.2 ≤ K.2.1.2) (q : Q (some (iv v)) hp) : X g T K pc L [iv v] hp Q := by
  intro p e s m args below meth c H ls locs C hI hS hl
  have hlk := C.2.2.2.2.2.2.1
  refine W.widen (k := K.2.1.1) (n := K.2.1.2) (Nat.le_of_eq hk.1) hk.2 ?_
  exact W.zret (v := Int32.ofInt v) C.1 C.2.1 (C.2.2.2.2.2.1.trans hr) hnar (fun t ht hW => ⟨⟨some (iv v), hp, rfl, q, by rw [ht]; exact hI.1, by rw [← hk.1]; exact hI.2⟩, hS.F ht⟩) hS.2.2 hd
theorem x_iret {v : Int} (hd : decode T.2.1 pc = .ok (.ireturn, 1)) (hr : T.2.2.2 = some .int) (hk : K.2.2.1 = K.2.1.1 ∧ K.2.2.2 ≤ K.2.1.2) (q : Q (some (iv v)) hp) : X g T K pc L [iv v] hp Q := x_ret .int hd hr rfl hk q
theorem x_zret {v : Int} (hd : decode T.2.1 pc = .ok (.ireturn, 1)) (hr : T.2.2.2 = some .boolean) (hb : v = 0 ∨ v = 1) (hk : K.2.2.1 = K.2.1.1 ∧ K.2.2.2 ≤ K.2.1.2) (q : Q (some (iv v)) hp) : X g T K pc L [iv v] hp Q :=
  x_ret .boolean hd hr (by rcases hb with rfl | rfl <;> rfl) hk q
theorem x_lret {v : Int} (hd : decode T.2.1 pc = .ok (.lreturn, 1)) (hr : T.2.2.2 = some .long) (hk : K.2.2.1 = K.2.1.1 ∧ K.2.2.2 ≤ K.2.1.2) (q : Q (some (jv v)) hp) : X g T K pc L [jv v] hp Q := by
  intro p e s m args below meth c H ls locs C hI hS hl
  have hlk := C.2.2.2.2.2.2.1
  refine W.widen (k := K.2.1.1) (n := K.2.1.2) (Nat.le_of_eq hk.1) hk.2 ?_
  exact W.lret (v := Int64.ofInt v) C.1 C.2.1 (C.2.2.2.2.2.1.trans hr) (fun t ht hW => ⟨⟨some (jv v), hp, rfl, q, by rw [ht]; exact hI.1, by rw [← hk.1]; exact hI.2⟩, hS.F ht⟩) hS.2.2 hd
theorem x_vret (hd : decode T.2.1 pc = .ok (.return_, 1)) (hr : T.2.2.2 = none) (hk : K.2.2.1 = K.2.1.1 ∧ K.2.2.2 ≤ K.2.1.2) (q : Q none hp) : X g T K pc L [] hp Q := by
  intro p e s m args below meth c H ls locs C hI hS hl
  have hlk := C.2.2.2.2.2.2.1
  refine W.widen (k := K.2.1.1) (n := K.2.1.2) (Nat.le_of_eq hk.1) hk.2 ?_
  exact W.vret C.1 C.2.1 (C.2.2.2.2.2.1.trans hr) (fun t ht hW => ⟨⟨none, hp, rfl, q, by rw [ht]; exact hI.1, by rw [← hk.1]; exact hI.2⟩, hS.F ht⟩) hS.2.2 hd
/-! calls -/
theorem x_callV (n : Nat) {T2 : XT} {d mc ms idx i ci na : Nat} (As : List Value) {stk : List Value} {Q2 : Option Value → Hp → Prop} (hc : Con g T2 d mc ms (rv g i :: As) hp Q2) (hM : MV T2 na) (hlink : Cond.methodLink T.1.cls idx T2.1 ∈ xG) (hd : decode T.2.1 pc = .ok (.invokevirtual idx, 3)) (hn : pc + 3 = n)
    (hs : hp.1[i]? = some (.inl ci)) (hci : ci < 8 ∧ xC ci = T2.1.cls) (hlen : As.length = na) (hstk : stk = As.reverse ++ rv g i :: st) (hcat : (st.map fun v => v.category).sum ≤ 8) (hroom : d + 1 ≤ K.1 ∧ K.2.2.1 + mc ≤ K.2.1.1 ∧ K.2.2.2 + ms ≤ K.2.1.2)
    (k : ∀ (v : Option Value) (hp' : Hp), Q2 v hp' → X g T (K.1, K.2.1, (K.2.2.1 + mc, K.2.2.2 + ms)) n L (v.toList ++ st) hp' Q) : X g T K pc L stk hp Q := by
  subst hn
  intro p e s m args below meth c H ls locs C hI hS hl
  obtain ⟨hx, hb, hml, hown, hts, hr, hlk, hK, hB, hnm, hZ, hR⟩ := id C
  refine W.sized (fun hup => ?_)
  have hlo := xlow hI.1 hI.2 hB hS
  have hHz : H.size = gB g + hp.1.length := by omega
  obtain ⟨⟨m1, m2, m3, m4⟩, m5, m6⟩ := hM
  have hat := xW_at (g := g) (hp := hp) hs
  have hrecv := va_recv hK hI.1.1 (xcl_at hci.1) hat
  rw [show (xC ci, xT ci, xN ci).1 = T2.1.cls from hci.2] at hrecv
  refine x_ofRun (va_runV (As := As) (rest := st) (C := T2.1.cls) (Ts := xG) (nL := T.2.2.1) (bytes := T2.2.1) (maxL := T2.2.2.1) (ret := T2.2.2.2) ⟨hx, hb, hml, hown, hts⟩ hc ⟨callB_of na hts (xgood m1) rfl rfl rfl (hts _ m2) (hts _ hlink) m3 ⟨hroom.1, ?_⟩, hts _ m5, hts _ m6⟩ ⟨xblind, hrecv, xpre C hI.1 hHz hS _⟩ rfl hlen hl.1 hstk (lv_room hcat) hd ⟨hroom.2.1, hroom.2.2⟩) hS (fun v hp' H1 locs1 hq hi hs1 => k v hp' hq p e s m args below meth c H1 ls locs1 C ⟨hi.1, ?_⟩ hs1 hl)
  · show 8 + (T2.2.2.1 + 11) + 35 * d ≤ 35 * K.1
    omega
  · show s.heap.size + (K.2.2.1 + mc) = gB g + hp'.1.length
    have := hi.2
    omega
theorem x_callS (n : Nat) {T2 : XT} {d mc ms idx na : Nat} (As : List Value) {stk : List Value} {Q2 : Option Value → Hp → Prop} (hc : Con g T2 d mc ms As hp Q2) (hM : MS T2 na) (hlink : Cond.methodLink T.1.cls idx T2.1 ∈ xG) (hd : decode T.2.1 pc = .ok (.invokestatic idx, 3)) (hn : pc + 3 = n)
    (hlen : As.length = na) (hstk : stk = As.reverse ++ st) (hcat : (st.map fun v => v.category).sum ≤ 8) (hroom : d + 1 ≤ K.1 ∧ K.2.2.1 + mc ≤ K.2.1.1 ∧ K.2.2.2 + ms ≤ K.2.1.2)
    (k : ∀ (v : Option Value) (hp' : Hp), Q2 v hp' → X g T (K.1, K.2.1, (K.2.2.1 + mc, K.2.2.2 + ms)) n L (v.toList ++ st) hp' Q) : X g T K pc L stk hp Q := by
  subst hn
  intro p e s m args below meth c H ls locs C hI hS hl
  obtain ⟨hx, hb, hml, hown, hts, hr, hlk, hK, hB, hnm, hZ, hR⟩ := id C
  refine W.sized (fun hup => ?_)
  have hlo := xlow hI.1 hI.2 hB hS
  have hHz : H.size = gB g + hp.1.length := by omega
  obtain ⟨⟨m1, m2, m3, m4⟩, m5⟩ := hM
  refine x_ofRun (va_runS (As := As) (rest := st) (Ts := xG) (nL := T.2.2.1) (bytes := T2.2.1) (maxL := T2.2.2.1) (ret := T2.2.2.2) ⟨hx, hb, hml, hown, hts⟩ hc ⟨callB_of na hts (xgood m1) rfl rfl rfl (hts _ m2) (hts _ hlink) m3 ⟨hroom.1, ?_⟩, hts _ m5⟩ ⟨xblind, xpre C hI.1 hHz hS _⟩ rfl hlen hl.1 hstk (lv_room hcat) hd ⟨hroom.2.1, hroom.2.2⟩) hS (fun v hp' H1 locs1 hq hi hs1 => k v hp' hq p e s m args below meth c H1 ls locs1 C ⟨hi.1, ?_⟩ hs1 hl)
  · show 8 + (T2.2.2.1 + 11) + 35 * d ≤ 35 * K.1
    omega
  · show s.heap.size + (K.2.2.1 + mc) = gB g + hp'.1.length
    have := hi.2
    omega
end XROWS3
end
section
abbrev tX6_init : XT := (yX6_init, cX6_init, 2, none)
theorem mX6_init : MI tX6_init 0 := ⟨⟨xm 19 (by decide +kernel) (by decide +kernel), xm 1 (by decide +kernel) (by decide +kernel), ⟨by decide +kernel, by decide +kernel, by decide +kernel⟩, by decide⟩, xm 18 (by decide +kernel) (by decide +kernel), by decide +kernel, rfl⟩
abbrev tX5_init : XT := (yX5_init, cX5_init, 1, none)
theorem mX5_init : MI tX5_init 0 := ⟨⟨xm 27 (by decide +kernel) (by decide +kernel), xm 2 (by decide +kernel) (by decide +kernel), ⟨by decide +kernel, by decide +kernel, by decide +kernel⟩, by decide⟩, xm 26 (by decide +kernel) (by decide +kernel), by decide +kernel, rfl⟩
abbrev tX4_init : XT := (yX4_init, cX4_init, 1, none)
theorem mX4_init : MI tX4_init 0 := ⟨⟨xm 33 (by decide +kernel) (by decide +kernel), xm 3 (by decide +kernel) (by decide +kernel), ⟨by decide +kernel, by decide +kernel, by decide +kernel⟩, by decide⟩, xm 32 (by decide +kernel) (by decide +kernel), by decide +kernel, rfl⟩
abbrev tX1_init : XT := (yX1_init, cX1_init, 1, none)
theorem mX1_init : MI tX1_init 0 := ⟨⟨xm 74 (by decide +kernel) (by decide +kernel), xm 4 (by decide +kernel) (by decide +kernel), ⟨by decide +kernel, by decide +kernel, by decide +kernel⟩, by decide⟩, xm 73 (by decide +kernel) (by decide +kernel), by decide +kernel, rfl⟩
abbrev tX3_init : XT := (yX3_init, cX3_init, 1, none)
theorem mX3_init : MI tX3_init 0 := ⟨⟨xm 121 (by decide +kernel) (by decide +kernel), xm 5 (by decide +kernel) (by decide +kernel), ⟨by decide +kernel, by decide +kernel, by decide +kernel⟩, by decide⟩, xm 120 (by decide +kernel) (by decide +kernel), by decide +kernel, rfl⟩
abbrev tX0_init : XT := (yX0_init, cX0_init, 1, none)
theorem mX0_init : MI tX0_init 0 := ⟨⟨xm 139 (by decide +kernel) (by decide +kernel), xm 6 (by decide +kernel) (by decide +kernel), ⟨by decide +kernel, by decide +kernel, by decide +kernel⟩, by decide⟩, xm 138 (by decide +kernel) (by decide +kernel), by decide +kernel, rfl⟩
abbrev tX2_init : XT := (yX2_init, cX2_init, 1, none)
theorem mX2_init : MI tX2_init 0 := ⟨⟨xm 153 (by decide +kernel) (by decide +kernel), xm 7 (by decide +kernel) (by decide +kernel), ⟨by decide +kernel, by decide +kernel, by decide +kernel⟩, by decide⟩, xm 152 (by decide +kernel) (by decide +kernel), by decide +kernel, rfl⟩
abbrev tX6_feed : XT := (yX6_feed, cX6_feed, 2, some .int)
theorem mX6_feed : MV tX6_feed 1 := ⟨⟨xm 210 (by decide +kernel) (by decide +kernel), xm 1 (by decide +kernel) (by decide +kernel), ⟨by decide +kernel, by decide +kernel, by decide +kernel⟩, by decide⟩, xm 208 (by decide +kernel) (by decide +kernel), xm 209 (by decide +kernel) (by decide +kernel)⟩
abbrev tX6_within : XT := (yX6_within, cX6_within, 2, some .boolean)
theorem mX6_within : MS tX6_within 2 := ⟨⟨xm 213 (by decide +kernel) (by decide +kernel), xm 1 (by decide +kernel) (by decide +kernel), ⟨by decide +kernel, by decide +kernel, by decide +kernel⟩, by decide⟩, xm 212 (by decide +kernel) (by decide +kernel)⟩
abbrev tX4_append : XT := (yX4_append, cX4_append, 2, some .boolean)
theorem mX4_append : MV tX4_append 1 := ⟨⟨xm 217 (by decide +kernel) (by decide +kernel), xm 3 (by decide +kernel) (by decide +kernel), ⟨by decide +kernel, by decide +kernel, by decide +kernel⟩, by decide⟩, xm 215 (by decide +kernel) (by decide +kernel), xm 216 (by decide +kernel) (by decide +kernel)⟩
abbrev tX6_end : XT := (yX6_end, cX6_end, 3, some .int)
theorem mX6_end : MV tX6_end 1 := ⟨⟨xm 221 (by decide +kernel) (by decide +kernel), xm 1 (by decide +kernel) (by decide +kernel), ⟨by decide +kernel, by decide +kernel, by decide +kernel⟩, by decide⟩, xm 219 (by decide +kernel) (by decide +kernel), xm 220 (by decide +kernel) (by decide +kernel)⟩
abbrev tX6_text : XT := (yX6_text, cX6_text, 3, some .int)
theorem mX6_text : MV tX6_text 0 := ⟨⟨xm 225 (by decide +kernel) (by decide +kernel), xm 1 (by decide +kernel) (by decide +kernel), ⟨by decide +kernel, by decide +kernel, by decide +kernel⟩, by decide⟩, xm 223 (by decide +kernel) (by decide +kernel), xm 224 (by decide +kernel) (by decide +kernel)⟩
abbrev tX5_readAll : XT := (yX5_readAll, cX5_readAll, 3, some .int)
theorem mX5_readAll : MV tX5_readAll 1 := ⟨⟨xm 229 (by decide +kernel) (by decide +kernel), xm 2 (by decide +kernel) (by decide +kernel), ⟨by decide +kernel, by decide +kernel, by decide +kernel⟩, by decide⟩, xm 227 (by decide +kernel) (by decide +kernel), xm 228 (by decide +kernel) (by decide +kernel)⟩
abbrev tX1_clear : XT := (yX1_clear, cX1_clear, 1, none)
theorem mX1_clear : MV tX1_clear 0 := ⟨⟨xm 233 (by decide +kernel) (by decide +kernel), xm 4 (by decide +kernel) (by decide +kernel), ⟨by decide +kernel, by decide +kernel, by decide +kernel⟩, by decide⟩, xm 231 (by decide +kernel) (by decide +kernel), xm 232 (by decide +kernel) (by decide +kernel)⟩
abbrev tX5_readToken : XT := (yX5_readToken, cX5_readToken, 2, some .boolean)
theorem mX5_readToken : MV tX5_readToken 0 := ⟨⟨xm 237 (by decide +kernel) (by decide +kernel), xm 2 (by decide +kernel) (by decide +kernel), ⟨by decide +kernel, by decide +kernel, by decide +kernel⟩, by decide⟩, xm 236 (by decide +kernel) (by decide +kernel), xmp 0 (by decide +kernel)⟩
abbrev tX4_byteAt : XT := (yX4_byteAt, cX4_byteAt, 2, some .int)
theorem mX4_byteAt : MV tX4_byteAt 1 := ⟨⟨xm 241 (by decide +kernel) (by decide +kernel), xm 3 (by decide +kernel) (by decide +kernel), ⟨by decide +kernel, by decide +kernel, by decide +kernel⟩, by decide⟩, xm 239 (by decide +kernel) (by decide +kernel), xm 240 (by decide +kernel) (by decide +kernel)⟩
abbrev tX5_isLetter : XT := (yX5_isLetter, cX5_isLetter, 1, some .boolean)
theorem mX5_isLetter : MS tX5_isLetter 1 := ⟨⟨xm 244 (by decide +kernel) (by decide +kernel), xm 2 (by decide +kernel) (by decide +kernel), ⟨by decide +kernel, by decide +kernel, by decide +kernel⟩, by decide⟩, xm 243 (by decide +kernel) (by decide +kernel)⟩
abbrev tX5_takeName : XT := (yX5_takeName, cX5_takeName, 1, some .boolean)
theorem mX5_takeName : MV tX5_takeName 0 := ⟨⟨xm 248 (by decide +kernel) (by decide +kernel), xm 2 (by decide +kernel) (by decide +kernel), ⟨by decide +kernel, by decide +kernel, by decide +kernel⟩, by decide⟩, xm 247 (by decide +kernel) (by decide +kernel), xmp 1 (by decide +kernel)⟩
abbrev tX5_isFigure : XT := (yX5_isFigure, cX5_isFigure, 1, some .boolean)
theorem mX5_isFigure : MS tX5_isFigure 1 := ⟨⟨xm 251 (by decide +kernel) (by decide +kernel), xm 2 (by decide +kernel) (by decide +kernel), ⟨by decide +kernel, by decide +kernel, by decide +kernel⟩, by decide⟩, xm 250 (by decide +kernel) (by decide +kernel)⟩
abbrev tX5_takeNumber : XT := (yX5_takeNumber, cX5_takeNumber, 1, some .boolean)
theorem mX5_takeNumber : MV tX5_takeNumber 0 := ⟨⟨xm 255 (by decide +kernel) (by decide +kernel), xm 2 (by decide +kernel) (by decide +kernel), ⟨by decide +kernel, by decide +kernel, by decide +kernel⟩, by decide⟩, xm 254 (by decide +kernel) (by decide +kernel), xmp 2 (by decide +kernel)⟩
abbrev tX5_refuse : XT := (yX5_refuse, cX5_refuse, 2, some .boolean)
theorem mX5_refuse : MV tX5_refuse 1 := ⟨⟨xm 259 (by decide +kernel) (by decide +kernel), xm 2 (by decide +kernel) (by decide +kernel), ⟨by decide +kernel, by decide +kernel, by decide +kernel⟩, by decide⟩, xm 258 (by decide +kernel) (by decide +kernel), xmp 3 (by decide +kernel)⟩
abbrev tX1_lacksTown : XT := (yX1_lacksTown, cX1_lacksTown, 2, some .boolean)
theorem mX1_lacksTown : MV tX1_lacksTown 0 := ⟨⟨xm 263 (by decide +kernel) (by decide +kernel), xm 4 (by decide +kernel) (by decide +kernel), ⟨by decide +kernel, by decide +kernel, by decide +kernel⟩, by decide⟩, xm 261 (by decide +kernel) (by decide +kernel), xm 262 (by decide +kernel) (by decide +kernel)⟩
abbrev tX1_hasPair : XT := (yX1_hasPair, cX1_hasPair, 3, some .boolean)
theorem mX1_hasPair : MV tX1_hasPair 2 := ⟨⟨xm 267 (by decide +kernel) (by decide +kernel), xm 4 (by decide +kernel) (by decide +kernel), ⟨by decide +kernel, by decide +kernel, by decide +kernel⟩, by decide⟩, xm 265 (by decide +kernel) (by decide +kernel), xm 266 (by decide +kernel) (by decide +kernel)⟩
abbrev tX1_hasTown : XT := (yX1_hasTown, cX1_hasTown, 2, some .boolean)
theorem mX1_hasTown : MV tX1_hasTown 1 := ⟨⟨xm 271 (by decide +kernel) (by decide +kernel), xm 4 (by decide +kernel) (by decide +kernel), ⟨by decide +kernel, by decide +kernel, by decide +kernel⟩, by decide⟩, xm 269 (by decide +kernel) (by decide +kernel), xm 270 (by decide +kernel) (by decide +kernel)⟩
abbrev tX5_readLine : XT := (yX5_readLine, cX5_readLine, 3, some .boolean)
theorem mX5_readLine : MV tX5_readLine 1 := ⟨⟨xm 275 (by decide +kernel) (by decide +kernel), xm 2 (by decide +kernel) (by decide +kernel), ⟨by decide +kernel, by decide +kernel, by decide +kernel⟩, by decide⟩, xm 274 (by decide +kernel) (by decide +kernel), xmp 4 (by decide +kernel)⟩
abbrev tX5_wordRead : XT := (yX5_wordRead, cX5_wordRead, 1, some .int)
theorem mX5_wordRead : MV tX5_wordRead 0 := ⟨⟨xm 279 (by decide +kernel) (by decide +kernel), xm 2 (by decide +kernel) (by decide +kernel), ⟨by decide +kernel, by decide +kernel, by decide +kernel⟩, by decide⟩, xm 278 (by decide +kernel) (by decide +kernel), xmp 5 (by decide +kernel)⟩
abbrev tX5_spells : XT := (yX5_spells, cX5_spells, 3, some .boolean)
theorem mX5_spells : MV tX5_spells 1 := ⟨⟨xm 284 (by decide +kernel) (by decide +kernel), xm 2 (by decide +kernel) (by decide +kernel), ⟨by decide +kernel, by decide +kernel, by decide +kernel⟩, by decide⟩, xm 283 (by decide +kernel) (by decide +kernel), xmp 6 (by decide +kernel)⟩
abbrev tJ0_length_8abf5 : XT := (yJ0_length_8abf5, cJ0_length_8abf5, 1, some .int)
theorem mJ0_length_8abf5 : MV tJ0_length_8abf5 0 := ⟨⟨xm 288 (by decide +kernel) (by decide +kernel), xm 9 (by decide +kernel) (by decide +kernel), ⟨by decide +kernel, by decide +kernel, by decide +kernel⟩, by decide⟩, xm 286 (by decide +kernel) (by decide +kernel), xm 287 (by decide +kernel) (by decide +kernel)⟩
abbrev tJ0_coder_7d493 : XT := (yJ0_coder_7d493, cJ0_coder_7d493, 1, some .byte)
theorem mJ0_coder_7d493 : MV tJ0_coder_7d493 0 := ⟨⟨xm 292 (by decide +kernel) (by decide +kernel), xm 9 (by decide +kernel) (by decide +kernel), ⟨by decide +kernel, by decide +kernel, by decide +kernel⟩, by decide⟩, xm 290 (by decide +kernel) (by decide +kernel), xm 291 (by decide +kernel) (by decide +kernel)⟩
abbrev tJ0_charAt_5068e : XT := (yJ0_charAt_5068e, cJ0_charAt_5068e, 2, some .char)
theorem mJ0_charAt_5068e : MV tJ0_charAt_5068e 1 := ⟨⟨xm 298 (by decide +kernel) (by decide +kernel), xm 9 (by decide +kernel) (by decide +kernel), ⟨by decide +kernel, by decide +kernel, by decide +kernel⟩, by decide⟩, xm 296 (by decide +kernel) (by decide +kernel), xm 297 (by decide +kernel) (by decide +kernel)⟩
abbrev tJ0_isLatin1_aae02 : XT := (yJ0_isLatin1_aae02, cJ0_isLatin1_aae02, 1, some .boolean)
theorem mJ0_isLatin1_aae02 : MV tJ0_isLatin1_aae02 0 := ⟨⟨xm 302 (by decide +kernel) (by decide +kernel), xm 9 (by decide +kernel) (by decide +kernel), ⟨by decide +kernel, by decide +kernel, by decide +kernel⟩, by decide⟩, xm 300 (by decide +kernel) (by decide +kernel), xm 301 (by decide +kernel) (by decide +kernel)⟩
abbrev tJ1_charAt_3b067 : XT := (yJ1_charAt_3b067, cJ1_charAt_3b067, 2, some .char)
theorem mJ1_charAt_3b067 : MS tJ1_charAt_3b067 2 := ⟨⟨xm 305 (by decide +kernel) (by decide +kernel), xm 10 (by decide +kernel) (by decide +kernel), ⟨by decide +kernel, by decide +kernel, by decide +kernel⟩, by decide⟩, xm 304 (by decide +kernel) (by decide +kernel)⟩
abbrev tJ0_checkIndex_df160 : XT := (yJ0_checkIndex_df160, cJ0_checkIndex_df160, 2, none)
theorem mJ0_checkIndex_df160 : MS tJ0_checkIndex_df160 2 := ⟨⟨xm 308 (by decide +kernel) (by decide +kernel), xm 9 (by decide +kernel) (by decide +kernel), ⟨by decide +kernel, by decide +kernel, by decide +kernel⟩, by decide⟩, xm 307 (by decide +kernel) (by decide +kernel)⟩
abbrev tJ3_checkIndex_8e157 : XT := (yJ3_checkIndex_8e157, cJ3_checkIndex_8e157, 3, some .int)
theorem mJ3_checkIndex_8e157 : MS tJ3_checkIndex_8e157 3 := ⟨⟨xm 313 (by decide +kernel) (by decide +kernel), xm 11 (by decide +kernel) (by decide +kernel), ⟨by decide +kernel, by decide +kernel, by decide +kernel⟩, by decide⟩, xm 312 (by decide +kernel) (by decide +kernel)⟩
abbrev tJ2_charAt_3b067 : XT := (yJ2_charAt_3b067, cJ2_charAt_3b067, 2, some .char)
theorem mJ2_charAt_3b067 : MS tJ2_charAt_3b067 2 := ⟨⟨xm 316 (by decide +kernel) (by decide +kernel), xm 12 (by decide +kernel) (by decide +kernel), ⟨by decide +kernel, by decide +kernel, by decide +kernel⟩, by decide⟩, xm 315 (by decide +kernel) (by decide +kernel)⟩
abbrev tJ2_checkIndex_2214a : XT := (yJ2_checkIndex_2214a, cJ2_checkIndex_2214a, 2, none)
theorem mJ2_checkIndex_2214a : MS tJ2_checkIndex_2214a 2 := ⟨⟨xm 319 (by decide +kernel) (by decide +kernel), xm 12 (by decide +kernel) (by decide +kernel), ⟨by decide +kernel, by decide +kernel, by decide +kernel⟩, by decide⟩, xm 318 (by decide +kernel) (by decide +kernel)⟩
abbrev tJ2_length_9d52b : XT := (yJ2_length_9d52b, cJ2_length_9d52b, 1, some .int)
theorem mJ2_length_9d52b : MS tJ2_length_9d52b 1 := ⟨⟨xm 322 (by decide +kernel) (by decide +kernel), xm 12 (by decide +kernel) (by decide +kernel), ⟨by decide +kernel, by decide +kernel, by decide +kernel⟩, by decide⟩, xm 321 (by decide +kernel) (by decide +kernel)⟩
abbrev tJ2_getChar_3b067 : XT := (yJ2_getChar_3b067, cJ2_getChar_3b067, 2, some .char)
theorem mJ2_getChar_3b067 : MS tJ2_getChar_3b067 2 := ⟨⟨xm 326 (by decide +kernel) (by decide +kernel), xm 12 (by decide +kernel) (by decide +kernel), ⟨by decide +kernel, by decide +kernel, by decide +kernel⟩, by decide⟩, xm 325 (by decide +kernel) (by decide +kernel)⟩
abbrev tX5_readGame : XT := (yX5_readGame, cX5_readGame, 4, some .boolean)
theorem mX5_readGame : MV tX5_readGame 1 := ⟨⟨xm 340 (by decide +kernel) (by decide +kernel), xm 2 (by decide +kernel) (by decide +kernel), ⟨by decide +kernel, by decide +kernel, by decide +kernel⟩, by decide⟩, xm 339 (by decide +kernel) (by decide +kernel), xmp 7 (by decide +kernel)⟩
abbrev tX1_isFullOfFixtures : XT := (yX1_isFullOfFixtures, cX1_isFullOfFixtures, 1, some .boolean)
theorem mX1_isFullOfFixtures : MV tX1_isFullOfFixtures 0 := ⟨⟨xm 344 (by decide +kernel) (by decide +kernel), xm 4 (by decide +kernel) (by decide +kernel), ⟨by decide +kernel, by decide +kernel, by decide +kernel⟩, by decide⟩, xm 342 (by decide +kernel) (by decide +kernel), xm 343 (by decide +kernel) (by decide +kernel)⟩
abbrev tX5_readNumber : XT := (yX5_readNumber, cX5_readNumber, 2, some .boolean)
theorem mX5_readNumber : MV tX5_readNumber 1 := ⟨⟨xm 348 (by decide +kernel) (by decide +kernel), xm 2 (by decide +kernel) (by decide +kernel), ⟨by decide +kernel, by decide +kernel, by decide +kernel⟩, by decide⟩, xm 347 (by decide +kernel) (by decide +kernel), xmp 8 (by decide +kernel)⟩
abbrev tX5_readSign : XT := (yX5_readSign, cX5_readSign, 1, some .boolean)
theorem mX5_readSign : MV tX5_readSign 0 := ⟨⟨xm 352 (by decide +kernel) (by decide +kernel), xm 2 (by decide +kernel) (by decide +kernel), ⟨by decide +kernel, by decide +kernel, by decide +kernel⟩, by decide⟩, xm 351 (by decide +kernel) (by decide +kernel), xmp 9 (by decide +kernel)⟩
abbrev tX1_addFixtureUnseen : XT := (yX1_addFixtureUnseen, cX1_addFixtureUnseen, 3, some .int)
theorem mX1_addFixtureUnseen : MV tX1_addFixtureUnseen 2 := ⟨⟨xm 356 (by decide +kernel) (by decide +kernel), xm 4 (by decide +kernel) (by decide +kernel), ⟨by decide +kernel, by decide +kernel, by decide +kernel⟩, by decide⟩, xm 354 (by decide +kernel) (by decide +kernel), xm 355 (by decide +kernel) (by decide +kernel)⟩
abbrev tX5_readTown : XT := (yX5_readTown, cX5_readTown, 4, some .boolean)
theorem mX5_readTown : MV tX5_readTown 2 := ⟨⟨xm 361 (by decide +kernel) (by decide +kernel), xm 2 (by decide +kernel) (by decide +kernel), ⟨by decide +kernel, by decide +kernel, by decide +kernel⟩, by decide⟩, xm 360 (by decide +kernel) (by decide +kernel), xmp 10 (by decide +kernel)⟩
abbrev tX1_isFullOfTowns : XT := (yX1_isFullOfTowns, cX1_isFullOfTowns, 1, some .boolean)
theorem mX1_isFullOfTowns : MV tX1_isFullOfTowns 0 := ⟨⟨xm 365 (by decide +kernel) (by decide +kernel), xm 4 (by decide +kernel) (by decide +kernel), ⟨by decide +kernel, by decide +kernel, by decide +kernel⟩, by decide⟩, xm 363 (by decide +kernel) (by decide +kernel), xm 364 (by decide +kernel) (by decide +kernel)⟩
abbrev tX1_addTown : XT := (yX1_addTown, cX1_addTown, 3, none)
theorem mX1_addTown : MV tX1_addTown 2 := ⟨⟨xm 369 (by decide +kernel) (by decide +kernel), xm 4 (by decide +kernel) (by decide +kernel), ⟨by decide +kernel, by decide +kernel, by decide +kernel⟩, by decide⟩, xm 367 (by decide +kernel) (by decide +kernel), xm 368 (by decide +kernel) (by decide +kernel)⟩
abbrev tX1_become : XT := (yX1_become, cX1_become, 3, none)
theorem mX1_become : MV tX1_become 1 := ⟨⟨xm 374 (by decide +kernel) (by decide +kernel), xm 4 (by decide +kernel) (by decide +kernel), ⟨by decide +kernel, by decide +kernel, by decide +kernel⟩, by decide⟩, xm 372 (by decide +kernel) (by decide +kernel), xm 373 (by decide +kernel) (by decide +kernel)⟩
abbrev tX6_fault : XT := (yX6_fault, cX6_fault, 1, some .int)
theorem mX6_fault : MV tX6_fault 0 := ⟨⟨xm 378 (by decide +kernel) (by decide +kernel), xm 1 (by decide +kernel) (by decide +kernel), ⟨by decide +kernel, by decide +kernel, by decide +kernel⟩, by decide⟩, xm 376 (by decide +kernel) (by decide +kernel), xm 377 (by decide +kernel) (by decide +kernel)⟩
abbrev tX6_rule : XT := (yX6_rule, cX6_rule, 2, some .int)
theorem mX6_rule : MV tX6_rule 1 := ⟨⟨xm 382 (by decide +kernel) (by decide +kernel), xm 1 (by decide +kernel) (by decide +kernel), ⟨by decide +kernel, by decide +kernel, by decide +kernel⟩, by decide⟩, xm 380 (by decide +kernel) (by decide +kernel), xm 381 (by decide +kernel) (by decide +kernel)⟩
abbrev tX1_fixtureNow : XT := (yX1_fixtureNow, cX1_fixtureNow, 1, some .int)
theorem mX1_fixtureNow : MV tX1_fixtureNow 0 := ⟨⟨xm 386 (by decide +kernel) (by decide +kernel), xm 4 (by decide +kernel) (by decide +kernel), ⟨by decide +kernel, by decide +kernel, by decide +kernel⟩, by decide⟩, xm 384 (by decide +kernel) (by decide +kernel), xm 385 (by decide +kernel) (by decide +kernel)⟩
abbrev tX1_withLosses : XT := (yX1_withLosses, cX1_withLosses, 3, some .int)
theorem mX1_withLosses : MV tX1_withLosses 0 := ⟨⟨xm 390 (by decide +kernel) (by decide +kernel), xm 4 (by decide +kernel) (by decide +kernel), ⟨by decide +kernel, by decide +kernel, by decide +kernel⟩, by decide⟩, xm 388 (by decide +kernel) (by decide +kernel), xm 389 (by decide +kernel) (by decide +kernel)⟩
abbrev tX1_owed : XT := (yX1_owed, cX1_owed, 1, some .int)
theorem mX1_owed : MV tX1_owed 0 := ⟨⟨xm 394 (by decide +kernel) (by decide +kernel), xm 4 (by decide +kernel) (by decide +kernel), ⟨by decide +kernel, by decide +kernel, by decide +kernel⟩, by decide⟩, xm 392 (by decide +kernel) (by decide +kernel), xm 393 (by decide +kernel) (by decide +kernel)⟩
abbrev tX1_sumOverTowns : XT := (yX1_sumOverTowns, cX1_sumOverTowns, 4, some .int)
theorem mX1_sumOverTowns : MV tX1_sumOverTowns 1 := ⟨⟨xm 398 (by decide +kernel) (by decide +kernel), xm 4 (by decide +kernel) (by decide +kernel), ⟨by decide +kernel, by decide +kernel, by decide +kernel⟩, by decide⟩, xm 396 (by decide +kernel) (by decide +kernel), xm 397 (by decide +kernel) (by decide +kernel)⟩
abbrev tX6_town : XT := (yX6_town, cX6_town, 3, some .int)
theorem mX6_town : MV tX6_town 2 := ⟨⟨xm 402 (by decide +kernel) (by decide +kernel), xm 1 (by decide +kernel) (by decide +kernel), ⟨by decide +kernel, by decide +kernel, by decide +kernel⟩, by decide⟩, xm 400 (by decide +kernel) (by decide +kernel), xm 401 (by decide +kernel) (by decide +kernel)⟩
abbrev tX1_playsNow : XT := (yX1_playsNow, cX1_playsNow, 2, some .int)
theorem mX1_playsNow : MV tX1_playsNow 1 := ⟨⟨xm 407 (by decide +kernel) (by decide +kernel), xm 4 (by decide +kernel) (by decide +kernel), ⟨by decide +kernel, by decide +kernel, by decide +kernel⟩, by decide⟩, xm 405 (by decide +kernel) (by decide +kernel), xm 406 (by decide +kernel) (by decide +kernel)⟩
abbrev tX1_playsWise : XT := (yX1_playsWise, cX1_playsWise, 2, some .int)
theorem mX1_playsWise : MV tX1_playsWise 1 := ⟨⟨xm 411 (by decide +kernel) (by decide +kernel), xm 4 (by decide +kernel) (by decide +kernel), ⟨by decide +kernel, by decide +kernel, by decide +kernel⟩, by decide⟩, xm 410 (by decide +kernel) (by decide +kernel), xmp 11 (by decide +kernel)⟩
abbrev tJ9_max_7cf53 : XT := (yJ9_max_7cf53, cJ9_max_7cf53, 2, some .int)
theorem mJ9_max_7cf53 : MS tJ9_max_7cf53 2 := ⟨⟨xm 414 (by decide +kernel) (by decide +kernel), xm 13 (by decide +kernel) (by decide +kernel), ⟨by decide +kernel, by decide +kernel, by decide +kernel⟩, by decide⟩, xm 413 (by decide +kernel) (by decide +kernel)⟩
abbrev tX6_fixture : XT := (yX6_fixture, cX6_fixture, 3, some .int)
theorem mX6_fixture : MV tX6_fixture 2 := ⟨⟨xm 418 (by decide +kernel) (by decide +kernel), xm 1 (by decide +kernel) (by decide +kernel), ⟨by decide +kernel, by decide +kernel, by decide +kernel⟩, by decide⟩, xm 416 (by decide +kernel) (by decide +kernel), xm 417 (by decide +kernel) (by decide +kernel)⟩
abbrev tX1_hasFixture : XT := (yX1_hasFixture, cX1_hasFixture, 2, some .boolean)
theorem mX1_hasFixture : MV tX1_hasFixture 1 := ⟨⟨xm 422 (by decide +kernel) (by decide +kernel), xm 4 (by decide +kernel) (by decide +kernel), ⟨by decide +kernel, by decide +kernel, by decide +kernel⟩, by decide⟩, xm 420 (by decide +kernel) (by decide +kernel), xm 421 (by decide +kernel) (by decide +kernel)⟩
abbrev tX6_game : XT := (yX6_game, cX6_game, 3, some .int)
theorem mX6_game : MV tX6_game 2 := ⟨⟨xm 426 (by decide +kernel) (by decide +kernel), xm 1 (by decide +kernel) (by decide +kernel), ⟨by decide +kernel, by decide +kernel, by decide +kernel⟩, by decide⟩, xm 424 (by decide +kernel) (by decide +kernel), xm 425 (by decide +kernel) (by decide +kernel)⟩
abbrev tX1_weaker : XT := (yX1_weaker, cX1_weaker, 4, some .int)
theorem mX1_weaker : MV tX1_weaker 2 := ⟨⟨xm 431 (by decide +kernel) (by decide +kernel), xm 4 (by decide +kernel) (by decide +kernel), ⟨by decide +kernel, by decide +kernel, by decide +kernel⟩, by decide⟩, xm 429 (by decide +kernel) (by decide +kernel), xm 430 (by decide +kernel) (by decide +kernel)⟩
abbrev tX6_alter : XT := (yX6_alter, cX6_alter, 4, some .int)
theorem mX6_alter : MV tX6_alter 3 := ⟨⟨xm 436 (by decide +kernel) (by decide +kernel), xm 1 (by decide +kernel) (by decide +kernel), ⟨by decide +kernel, by decide +kernel, by decide +kernel⟩, by decide⟩, xm 434 (by decide +kernel) (by decide +kernel), xm 435 (by decide +kernel) (by decide +kernel)⟩
abbrev tX6_replace : XT := (yX6_replace, cX6_replace, 5, some .int)
theorem mX6_replace : MS tX6_replace 4 := ⟨⟨xm 439 (by decide +kernel) (by decide +kernel), xm 1 (by decide +kernel) (by decide +kernel), ⟨by decide +kernel, by decide +kernel, by decide +kernel⟩, by decide⟩, xm 438 (by decide +kernel) (by decide +kernel)⟩
abbrev tX6_lend : XT := (yX6_lend, cX6_lend, 4, some .int)
theorem mX6_lend : MV tX6_lend 3 := ⟨⟨xm 443 (by decide +kernel) (by decide +kernel), xm 1 (by decide +kernel) (by decide +kernel), ⟨by decide +kernel, by decide +kernel, by decide +kernel⟩, by decide⟩, xm 441 (by decide +kernel) (by decide +kernel), xm 442 (by decide +kernel) (by decide +kernel)⟩
abbrev tX1_moveStrength : XT := (yX1_moveStrength, cX1_moveStrength, 4, some .int)
theorem mX1_moveStrength : MV tX1_moveStrength 3 := ⟨⟨xm 447 (by decide +kernel) (by decide +kernel), xm 4 (by decide +kernel) (by decide +kernel), ⟨by decide +kernel, by decide +kernel, by decide +kernel⟩, by decide⟩, xm 445 (by decide +kernel) (by decide +kernel), xm 446 (by decide +kernel) (by decide +kernel)⟩
abbrev tX6_book : XT := (yX6_book, cX6_book, 3, some .int)
theorem mX6_book : MV tX6_book 2 := ⟨⟨xm 451 (by decide +kernel) (by decide +kernel), xm 1 (by decide +kernel) (by decide +kernel), ⟨by decide +kernel, by decide +kernel, by decide +kernel⟩, by decide⟩, xm 449 (by decide +kernel) (by decide +kernel), xm 450 (by decide +kernel) (by decide +kernel)⟩
abbrev tX1_addFixture : XT := (yX1_addFixture, cX1_addFixture, 3, some .int)
theorem mX1_addFixture : MV tX1_addFixture 2 := ⟨⟨xm 455 (by decide +kernel) (by decide +kernel), xm 4 (by decide +kernel) (by decide +kernel), ⟨by decide +kernel, by decide +kernel, by decide +kernel⟩, by decide⟩, xm 453 (by decide +kernel) (by decide +kernel), xm 454 (by decide +kernel) (by decide +kernel)⟩
abbrev tX6_strike : XT := (yX6_strike, cX6_strike, 3, some .int)
theorem mX6_strike : MV tX6_strike 1 := ⟨⟨xm 460 (by decide +kernel) (by decide +kernel), xm 1 (by decide +kernel) (by decide +kernel), ⟨by decide +kernel, by decide +kernel, by decide +kernel⟩, by decide⟩, xm 458 (by decide +kernel) (by decide +kernel), xm 459 (by decide +kernel) (by decide +kernel)⟩
abbrev tX6_weeks : XT := (yX6_weeks, cX6_weeks, 2, some .int)
theorem mX6_weeks : MV tX6_weeks 1 := ⟨⟨xm 464 (by decide +kernel) (by decide +kernel), xm 1 (by decide +kernel) (by decide +kernel), ⟨by decide +kernel, by decide +kernel, by decide +kernel⟩, by decide⟩, xm 462 (by decide +kernel) (by decide +kernel), xm 463 (by decide +kernel) (by decide +kernel)⟩
abbrev tX1_runWeeks : XT := (yX1_runWeeks, cX1_runWeeks, 4, some .int)
theorem mX1_runWeeks : MV tX1_runWeeks 1 := ⟨⟨xm 468 (by decide +kernel) (by decide +kernel), xm 4 (by decide +kernel) (by decide +kernel), ⟨by decide +kernel, by decide +kernel, by decide +kernel⟩, by decide⟩, xm 466 (by decide +kernel) (by decide +kernel), xm 467 (by decide +kernel) (by decide +kernel)⟩
abbrev tX1_runWeek : XT := (yX1_runWeek, cX1_runWeek, 4, some .int)
theorem mX1_runWeek : MV tX1_runWeek 1 := ⟨⟨xm 472 (by decide +kernel) (by decide +kernel), xm 4 (by decide +kernel) (by decide +kernel), ⟨by decide +kernel, by decide +kernel, by decide +kernel⟩, by decide⟩, xm 470 (by decide +kernel) (by decide +kernel), xm 471 (by decide +kernel) (by decide +kernel)⟩
abbrev tX1_play : XT := (yX1_play, cX1_play, 5, some .int)
theorem mX1_play : MV tX1_play 2 := ⟨⟨xm 477 (by decide +kernel) (by decide +kernel), xm 4 (by decide +kernel) (by decide +kernel), ⟨by decide +kernel, by decide +kernel, by decide +kernel⟩, by decide⟩, xm 476 (by decide +kernel) (by decide +kernel), xmp 12 (by decide +kernel)⟩
abbrev tJ9_min_7cf53 : XT := (yJ9_min_7cf53, cJ9_min_7cf53, 2, some .int)
theorem mJ9_min_7cf53 : MS tJ9_min_7cf53 2 := ⟨⟨xm 481 (by decide +kernel) (by decide +kernel), xm 13 (by decide +kernel) (by decide +kernel), ⟨by decide +kernel, by decide +kernel, by decide +kernel⟩, by decide⟩, xm 480 (by decide +kernel) (by decide +kernel)⟩
abbrev tX1_trainsNow : XT := (yX1_trainsNow, cX1_trainsNow, 2, some .int)
theorem mX1_trainsNow : MV tX1_trainsNow 1 := ⟨⟨xm 485 (by decide +kernel) (by decide +kernel), xm 4 (by decide +kernel) (by decide +kernel), ⟨by decide +kernel, by decide +kernel, by decide +kernel⟩, by decide⟩, xm 484 (by decide +kernel) (by decide +kernel), xmp 13 (by decide +kernel)⟩
abbrev tX1_passWeek : XT := (yX1_passWeek, cX1_passWeek, 1, none)
theorem mX1_passWeek : MV tX1_passWeek 0 := ⟨⟨xm 489 (by decide +kernel) (by decide +kernel), xm 4 (by decide +kernel) (by decide +kernel), ⟨by decide +kernel, by decide +kernel, by decide +kernel⟩, by decide⟩, xm 488 (by decide +kernel) (by decide +kernel), xmp 14 (by decide +kernel)⟩
abbrev tX1_closeYear : XT := (yX1_closeYear, cX1_closeYear, 2, none)
theorem mX1_closeYear : MV tX1_closeYear 0 := ⟨⟨xm 493 (by decide +kernel) (by decide +kernel), xm 4 (by decide +kernel) (by decide +kernel), ⟨by decide +kernel, by decide +kernel, by decide +kernel⟩, by decide⟩, xm 492 (by decide +kernel) (by decide +kernel), xmp 15 (by decide +kernel)⟩
abbrev tX6_runs : XT := (yX6_runs, cX6_runs, 4, some .int)
theorem mX6_runs : MV tX6_runs 2 := ⟨⟨xm 497 (by decide +kernel) (by decide +kernel), xm 1 (by decide +kernel) (by decide +kernel), ⟨by decide +kernel, by decide +kernel, by decide +kernel⟩, by decide⟩, xm 495 (by decide +kernel) (by decide +kernel), xm 496 (by decide +kernel) (by decide +kernel)⟩
abbrev tX6_ahead : XT := (yX6_ahead, cX6_ahead, 4, some .int)
theorem mX6_ahead : MV tX6_ahead 3 := ⟨⟨xm 501 (by decide +kernel) (by decide +kernel), xm 1 (by decide +kernel) (by decide +kernel), ⟨by decide +kernel, by decide +kernel, by decide +kernel⟩, by decide⟩, xm 499 (by decide +kernel) (by decide +kernel), xm 500 (by decide +kernel) (by decide +kernel)⟩
abbrev tX6_loser : XT := (yX6_loser, cX6_loser, 2, some .int)
theorem mX6_loser : MV tX6_loser 1 := ⟨⟨xm 505 (by decide +kernel) (by decide +kernel), xm 1 (by decide +kernel) (by decide +kernel), ⟨by decide +kernel, by decide +kernel, by decide +kernel⟩, by decide⟩, xm 503 (by decide +kernel) (by decide +kernel), xm 504 (by decide +kernel) (by decide +kernel)⟩
abbrev tX6_loses : XT := (yX6_loses, cX6_loses, 2, some .int)
theorem mX6_loses : MV tX6_loses 1 := ⟨⟨xm 510 (by decide +kernel) (by decide +kernel), xm 1 (by decide +kernel) (by decide +kernel), ⟨by decide +kernel, by decide +kernel, by decide +kernel⟩, by decide⟩, xm 508 (by decide +kernel) (by decide +kernel), xm 509 (by decide +kernel) (by decide +kernel)⟩
abbrev tX1_firstLoss : XT := (yX1_firstLoss, cX1_firstLoss, 4, some .int)
theorem mX1_firstLoss : MV tX1_firstLoss 2 := ⟨⟨xm 514 (by decide +kernel) (by decide +kernel), xm 4 (by decide +kernel) (by decide +kernel), ⟨by decide +kernel, by decide +kernel, by decide +kernel⟩, by decide⟩, xm 512 (by decide +kernel) (by decide +kernel), xm 513 (by decide +kernel) (by decide +kernel)⟩
abbrev tX6_order : XT := (yX6_order, cX6_order, 3, some .int)
theorem mX6_order : MV tX6_order 1 := ⟨⟨xm 518 (by decide +kernel) (by decide +kernel), xm 1 (by decide +kernel) (by decide +kernel), ⟨by decide +kernel, by decide +kernel, by decide +kernel⟩, by decide⟩, xm 516 (by decide +kernel) (by decide +kernel), xm 517 (by decide +kernel) (by decide +kernel)⟩
abbrev tX6_findBestOrder : XT := (yX6_findBestOrder, cX6_findBestOrder, 4, none)
theorem mX6_findBestOrder : MV tX6_findBestOrder 0 := ⟨⟨xm 522 (by decide +kernel) (by decide +kernel), xm 1 (by decide +kernel) (by decide +kernel), ⟨by decide +kernel, by decide +kernel, by decide +kernel⟩, by decide⟩, xm 521 (by decide +kernel) (by decide +kernel), xmp 16 (by decide +kernel)⟩
abbrev tX0_start : XT := (yX0_start, cX0_start, 2, none)
theorem mX0_start : MV tX0_start 1 := ⟨⟨xm 526 (by decide +kernel) (by decide +kernel), xm 6 (by decide +kernel) (by decide +kernel), ⟨by decide +kernel, by decide +kernel, by decide +kernel⟩, by decide⟩, xm 524 (by decide +kernel) (by decide +kernel), xm 525 (by decide +kernel) (by decide +kernel)⟩
abbrev tX6_factorial : XT := (yX6_factorial, cX6_factorial, 3, some .int)
theorem mX6_factorial : MS tX6_factorial 1 := ⟨⟨xm 529 (by decide +kernel) (by decide +kernel), xm 1 (by decide +kernel) (by decide +kernel), ⟨by decide +kernel, by decide +kernel, by decide +kernel⟩, by decide⟩, xm 528 (by decide +kernel) (by decide +kernel)⟩
abbrev tX6_setRow : XT := (yX6_setRow, cX6_setRow, 7, none)
theorem mX6_setRow : MV tX6_setRow 1 := ⟨⟨xm 533 (by decide +kernel) (by decide +kernel), xm 1 (by decide +kernel) (by decide +kernel), ⟨by decide +kernel, by decide +kernel, by decide +kernel⟩, by decide⟩, xm 532 (by decide +kernel) (by decide +kernel), xmp 17 (by decide +kernel)⟩
abbrev tX6_nthBit : XT := (yX6_nthBit, cX6_nthBit, 4, some .int)
theorem mX6_nthBit : MS tX6_nthBit 2 := ⟨⟨xm 536 (by decide +kernel) (by decide +kernel), xm 1 (by decide +kernel) (by decide +kernel), ⟨by decide +kernel, by decide +kernel, by decide +kernel⟩, by decide⟩, xm 535 (by decide +kernel) (by decide +kernel)⟩
abbrev tX1_owedBehind : XT := (yX1_owedBehind, cX1_owedBehind, 2, some .int)
theorem mX1_owedBehind : MV tX1_owedBehind 1 := ⟨⟨xm 540 (by decide +kernel) (by decide +kernel), xm 4 (by decide +kernel) (by decide +kernel), ⟨by decide +kernel, by decide +kernel, by decide +kernel⟩, by decide⟩, xm 538 (by decide +kernel) (by decide +kernel), xm 539 (by decide +kernel) (by decide +kernel)⟩
abbrev tX0_offer : XT := (yX0_offer, cX0_offer, 3, none)
theorem mX0_offer : MV tX0_offer 2 := ⟨⟨xm 546 (by decide +kernel) (by decide +kernel), xm 6 (by decide +kernel) (by decide +kernel), ⟨by decide +kernel, by decide +kernel, by decide +kernel⟩, by decide⟩, xm 544 (by decide +kernel) (by decide +kernel), xm 545 (by decide +kernel) (by decide +kernel)⟩
abbrev tX6_loan : XT := (yX6_loan, cX6_loan, 5, some .int)
theorem mX6_loan : MV tX6_loan 2 := ⟨⟨xm 550 (by decide +kernel) (by decide +kernel), xm 1 (by decide +kernel) (by decide +kernel), ⟨by decide +kernel, by decide +kernel, by decide +kernel⟩, by decide⟩, xm 548 (by decide +kernel) (by decide +kernel), xm 549 (by decide +kernel) (by decide +kernel)⟩
abbrev tX6_owedAsItIs : XT := (yX6_owedAsItIs, cX6_owedAsItIs, 2, some .int)
theorem mX6_owedAsItIs : MV tX6_owedAsItIs 1 := ⟨⟨xm 554 (by decide +kernel) (by decide +kernel), xm 1 (by decide +kernel) (by decide +kernel), ⟨by decide +kernel, by decide +kernel, by decide +kernel⟩, by decide⟩, xm 553 (by decide +kernel) (by decide +kernel), xmp 18 (by decide +kernel)⟩
abbrev tX0_answer : XT := (yX0_answer, cX0_answer, 2, some .int)
theorem mX0_answer : MV tX0_answer 1 := ⟨⟨xm 558 (by decide +kernel) (by decide +kernel), xm 6 (by decide +kernel) (by decide +kernel), ⟨by decide +kernel, by decide +kernel, by decide +kernel⟩, by decide⟩, xm 556 (by decide +kernel) (by decide +kernel), xm 557 (by decide +kernel) (by decide +kernel)⟩
abbrev tX6_swap : XT := (yX6_swap, cX6_swap, 5, some .int)
theorem mX6_swap : MV tX6_swap 2 := ⟨⟨xm 562 (by decide +kernel) (by decide +kernel), xm 1 (by decide +kernel) (by decide +kernel), ⟨by decide +kernel, by decide +kernel, by decide +kernel⟩, by decide⟩, xm 560 (by decide +kernel) (by decide +kernel), xm 561 (by decide +kernel) (by decide +kernel)⟩
abbrev tX1_swapFixtures : XT := (yX1_swapFixtures, cX1_swapFixtures, 5, none)
theorem mX1_swapFixtures : MV tX1_swapFixtures 2 := ⟨⟨xm 566 (by decide +kernel) (by decide +kernel), xm 4 (by decide +kernel) (by decide +kernel), ⟨by decide +kernel, by decide +kernel, by decide +kernel⟩, by decide⟩, xm 564 (by decide +kernel) (by decide +kernel), xm 565 (by decide +kernel) (by decide +kernel)⟩
abbrev tX6_skip : XT := (yX6_skip, cX6_skip, 5, some .int)
theorem mX6_skip : MV tX6_skip 2 := ⟨⟨xm 570 (by decide +kernel) (by decide +kernel), xm 1 (by decide +kernel) (by decide +kernel), ⟨by decide +kernel, by decide +kernel, by decide +kernel⟩, by decide⟩, xm 568 (by decide +kernel) (by decide +kernel), xm 569 (by decide +kernel) (by decide +kernel)⟩
abbrev tX6_most : XT := (yX6_most, cX6_most, 4, some .int)
theorem mX6_most : MV tX6_most 2 := ⟨⟨xm 574 (by decide +kernel) (by decide +kernel), xm 1 (by decide +kernel) (by decide +kernel), ⟨by decide +kernel, by decide +kernel, by decide +kernel⟩, by decide⟩, xm 572 (by decide +kernel) (by decide +kernel), xm 573 (by decide +kernel) (by decide +kernel)⟩
abbrev tX6_tryStrength : XT := (yX6_tryStrength, cX6_tryStrength, 3, none)
theorem mX6_tryStrength : MV tX6_tryStrength 2 := ⟨⟨xm 578 (by decide +kernel) (by decide +kernel), xm 1 (by decide +kernel) (by decide +kernel), ⟨by decide +kernel, by decide +kernel, by decide +kernel⟩, by decide⟩, xm 577 (by decide +kernel) (by decide +kernel), xmp 19 (by decide +kernel)⟩
abbrev tX6_kind : XT := (yX6_kind, cX6_kind, 5, some .int)
theorem mX6_kind : MV tX6_kind 3 := ⟨⟨xm 582 (by decide +kernel) (by decide +kernel), xm 1 (by decide +kernel) (by decide +kernel), ⟨by decide +kernel, by decide +kernel, by decide +kernel⟩, by decide⟩, xm 580 (by decide +kernel) (by decide +kernel), xm 581 (by decide +kernel) (by decide +kernel)⟩
abbrev tX6_tryKind : XT := (yX6_tryKind, cX6_tryKind, 3, none)
theorem mX6_tryKind : MV tX6_tryKind 2 := ⟨⟨xm 586 (by decide +kernel) (by decide +kernel), xm 1 (by decide +kernel) (by decide +kernel), ⟨by decide +kernel, by decide +kernel, by decide +kernel⟩, by decide⟩, xm 585 (by decide +kernel) (by decide +kernel), xmp 20 (by decide +kernel)⟩
abbrev tX6_luck : XT := (yX6_luck, cX6_luck, 8, some .long)
theorem mX6_luck : MV tX6_luck 4 := ⟨⟨xm 590 (by decide +kernel) (by decide +kernel), xm 1 (by decide +kernel) (by decide +kernel), ⟨by decide +kernel, by decide +kernel, by decide +kernel⟩, by decide⟩, xm 588 (by decide +kernel) (by decide +kernel), xm 589 (by decide +kernel) (by decide +kernel)⟩
abbrev tX6_losesInRain : XT := (yX6_losesInRain, cX6_losesInRain, 7, some .boolean)
theorem mX6_losesInRain : MV tX6_losesInRain 3 := ⟨⟨xm 595 (by decide +kernel) (by decide +kernel), xm 1 (by decide +kernel) (by decide +kernel), ⟨by decide +kernel, by decide +kernel, by decide +kernel⟩, by decide⟩, xm 594 (by decide +kernel) (by decide +kernel), xmp 21 (by decide +kernel)⟩
abbrev tX6_weight : XT := (yX6_weight, cX6_weight, 4, some .long)
theorem mX6_weight : MS tX6_weight 3 := ⟨⟨xm 598 (by decide +kernel) (by decide +kernel), xm 1 (by decide +kernel) (by decide +kernel), ⟨by decide +kernel, by decide +kernel, by decide +kernel⟩, by decide⟩, xm 597 (by decide +kernel) (by decide +kernel)⟩
abbrev tJ6_bitCount_0f7a4 : XT := (yJ6_bitCount_0f7a4, cJ6_bitCount_0f7a4, 1, some .int)
theorem mJ6_bitCount_0f7a4 : MS tJ6_bitCount_0f7a4 1 := ⟨⟨xm 601 (by decide +kernel) (by decide +kernel), xm 14 (by decide +kernel) (by decide +kernel), ⟨by decide +kernel, by decide +kernel, by decide +kernel⟩, by decide⟩, xm 600 (by decide +kernel) (by decide +kernel)⟩
abbrev tX6_power : XT := (yX6_power, cX6_power, 5, some .long)
theorem mX6_power : MS tX6_power 2 := ⟨⟨xm 607 (by decide +kernel) (by decide +kernel), xm 1 (by decide +kernel) (by decide +kernel), ⟨by decide +kernel, by decide +kernel, by decide +kernel⟩, by decide⟩, xm 606 (by decide +kernel) (by decide +kernel)⟩
abbrev tX6_lowest : XT := (yX6_lowest, cX6_lowest, 7, some .long)
theorem mX6_lowest : MS tX6_lowest 3 := ⟨⟨xm 610 (by decide +kernel) (by decide +kernel), xm 1 (by decide +kernel) (by decide +kernel), ⟨by decide +kernel, by decide +kernel, by decide +kernel⟩, by decide⟩, xm 609 (by decide +kernel) (by decide +kernel)⟩
abbrev tX6_commonDivisor : XT := (yX6_commonDivisor, cX6_commonDivisor, 11, some .long)
theorem mX6_commonDivisor : MS tX6_commonDivisor 2 := ⟨⟨xm 613 (by decide +kernel) (by decide +kernel), xm 1 (by decide +kernel) (by decide +kernel), ⟨by decide +kernel, by decide +kernel, by decide +kernel⟩, by decide⟩, xm 612 (by decide +kernel) (by decide +kernel)⟩
abbrev tJ9_max_f86c9 : XT := (yJ9_max_f86c9, cJ9_max_f86c9, 4, some .long)
theorem mJ9_max_f86c9 : MS tJ9_max_f86c9 2 := ⟨⟨xm 616 (by decide +kernel) (by decide +kernel), xm 13 (by decide +kernel) (by decide +kernel), ⟨by decide +kernel, by decide +kernel, by decide +kernel⟩, by decide⟩, xm 615 (by decide +kernel) (by decide +kernel)⟩
abbrev tX6_mean : XT := (yX6_mean, cX6_mean, 7, some .long)
theorem mX6_mean : MV tX6_mean 3 := ⟨⟨xm 620 (by decide +kernel) (by decide +kernel), xm 1 (by decide +kernel) (by decide +kernel), ⟨by decide +kernel, by decide +kernel, by decide +kernel⟩, by decide⟩, xm 618 (by decide +kernel) (by decide +kernel), xm 619 (by decide +kernel) (by decide +kernel)⟩
abbrev tX6_see : XT := (yX6_see, cX6_see, 3, some .int)
theorem mX6_see : MV tX6_see 2 := ⟨⟨xm 624 (by decide +kernel) (by decide +kernel), xm 1 (by decide +kernel) (by decide +kernel), ⟨by decide +kernel, by decide +kernel, by decide +kernel⟩, by decide⟩, xm 622 (by decide +kernel) (by decide +kernel), xm 623 (by decide +kernel) (by decide +kernel)⟩
abbrev tX3_add : XT := (yX3_add, cX3_add, 3, some .boolean)
theorem mX3_add : MV tX3_add 2 := ⟨⟨xm 628 (by decide +kernel) (by decide +kernel), xm 5 (by decide +kernel) (by decide +kernel), ⟨by decide +kernel, by decide +kernel, by decide +kernel⟩, by decide⟩, xm 626 (by decide +kernel) (by decide +kernel), xm 627 (by decide +kernel) (by decide +kernel)⟩
abbrev tX6_forget : XT := (yX6_forget, cX6_forget, 3, some .int)
theorem mX6_forget : MV tX6_forget 1 := ⟨⟨xm 632 (by decide +kernel) (by decide +kernel), xm 1 (by decide +kernel) (by decide +kernel), ⟨by decide +kernel, by decide +kernel, by decide +kernel⟩, by decide⟩, xm 630 (by decide +kernel) (by decide +kernel), xm 631 (by decide +kernel) (by decide +kernel)⟩
abbrev tX6_kinds : XT := (yX6_kinds, cX6_kinds, 4, some .int)
theorem mX6_kinds : MV tX6_kinds 1 := ⟨⟨xm 636 (by decide +kernel) (by decide +kernel), xm 1 (by decide +kernel) (by decide +kernel), ⟨by decide +kernel, by decide +kernel, by decide +kernel⟩, by decide⟩, xm 634 (by decide +kernel) (by decide +kernel), xm 635 (by decide +kernel) (by decide +kernel)⟩
abbrev tX3_fit : XT := (yX3_fit, cX3_fit, 4, some .boolean)
theorem mX3_fit : MV tX3_fit 1 := ⟨⟨xm 640 (by decide +kernel) (by decide +kernel), xm 5 (by decide +kernel) (by decide +kernel), ⟨by decide +kernel, by decide +kernel, by decide +kernel⟩, by decide⟩, xm 638 (by decide +kernel) (by decide +kernel), xm 639 (by decide +kernel) (by decide +kernel)⟩
abbrev tX3_fitsWeek : XT := (yX3_fitsWeek, cX3_fitsWeek, 4, some .boolean)
theorem mX3_fitsWeek : MV tX3_fitsWeek 2 := ⟨⟨xm 645 (by decide +kernel) (by decide +kernel), xm 5 (by decide +kernel) (by decide +kernel), ⟨by decide +kernel, by decide +kernel, by decide +kernel⟩, by decide⟩, xm 644 (by decide +kernel) (by decide +kernel), xmp 22 (by decide +kernel)⟩
abbrev tX6_strengths : XT := (yX6_strengths, cX6_strengths, 2, some .int)
theorem mX6_strengths : MV tX6_strengths 1 := ⟨⟨xm 649 (by decide +kernel) (by decide +kernel), xm 1 (by decide +kernel) (by decide +kernel), ⟨by decide +kernel, by decide +kernel, by decide +kernel⟩, by decide⟩, xm 647 (by decide +kernel) (by decide +kernel), xm 648 (by decide +kernel) (by decide +kernel)⟩
abbrev tX6_strengthsAsSeen : XT := (yX6_strengthsAsSeen, cX6_strengthsAsSeen, 4, some .int)
theorem mX6_strengthsAsSeen : MV tX6_strengthsAsSeen 1 := ⟨⟨xm 653 (by decide +kernel) (by decide +kernel), xm 1 (by decide +kernel) (by decide +kernel), ⟨by decide +kernel, by decide +kernel, by decide +kernel⟩, by decide⟩, xm 652 (by decide +kernel) (by decide +kernel), xmp 23 (by decide +kernel)⟩
abbrev tX6_ask : XT := (yX6_ask, cX6_ask, 5, some .int)
theorem mX6_ask : MV tX6_ask 2 := ⟨⟨xm 657 (by decide +kernel) (by decide +kernel), xm 1 (by decide +kernel) (by decide +kernel), ⟨by decide +kernel, by decide +kernel, by decide +kernel⟩, by decide⟩, xm 655 (by decide +kernel) (by decide +kernel), xm 656 (by decide +kernel) (by decide +kernel)⟩
abbrev tX6_noteOutcomes : XT := (yX6_noteOutcomes, cX6_noteOutcomes, 4, none)
theorem mX6_noteOutcomes : MV tX6_noteOutcomes 1 := ⟨⟨xm 661 (by decide +kernel) (by decide +kernel), xm 1 (by decide +kernel) (by decide +kernel), ⟨by decide +kernel, by decide +kernel, by decide +kernel⟩, by decide⟩, xm 660 (by decide +kernel) (by decide +kernel), xmp 24 (by decide +kernel)⟩
abbrev tX6_leftAtWorst : XT := (yX6_leftAtWorst, cX6_leftAtWorst, 7, some .int)
theorem mX6_leftAtWorst : MV tX6_leftAtWorst 2 := ⟨⟨xm 665 (by decide +kernel) (by decide +kernel), xm 1 (by decide +kernel) (by decide +kernel), ⟨by decide +kernel, by decide +kernel, by decide +kernel⟩, by decide⟩, xm 664 (by decide +kernel) (by decide +kernel), xmp 25 (by decide +kernel)⟩
abbrev tX6_drift : XT := (yX6_drift, cX6_drift, 11, some .int)
theorem mX6_drift : MV tX6_drift 3 := ⟨⟨xm 670 (by decide +kernel) (by decide +kernel), xm 1 (by decide +kernel) (by decide +kernel), ⟨by decide +kernel, by decide +kernel, by decide +kernel⟩, by decide⟩, xm 668 (by decide +kernel) (by decide +kernel), xm 669 (by decide +kernel) (by decide +kernel)⟩
abbrev tX1_runWeekOf : XT := (yX1_runWeekOf, cX1_runWeekOf, 4, some .int)
theorem mX1_runWeekOf : MV tX1_runWeekOf 2 := ⟨⟨xm 675 (by decide +kernel) (by decide +kernel), xm 4 (by decide +kernel) (by decide +kernel), ⟨by decide +kernel, by decide +kernel, by decide +kernel⟩, by decide⟩, xm 673 (by decide +kernel) (by decide +kernel), xm 674 (by decide +kernel) (by decide +kernel)⟩
abbrev tX6_keep : XT := (yX6_keep, cX6_keep, 3, some .int)
theorem mX6_keep : MV tX6_keep 1 := ⟨⟨xm 679 (by decide +kernel) (by decide +kernel), xm 1 (by decide +kernel) (by decide +kernel), ⟨by decide +kernel, by decide +kernel, by decide +kernel⟩, by decide⟩, xm 677 (by decide +kernel) (by decide +kernel), xm 678 (by decide +kernel) (by decide +kernel)⟩
abbrev tX6_back : XT := (yX6_back, cX6_back, 2, some .int)
theorem mX6_back : MV tX6_back 1 := ⟨⟨xm 683 (by decide +kernel) (by decide +kernel), xm 1 (by decide +kernel) (by decide +kernel), ⟨by decide +kernel, by decide +kernel, by decide +kernel⟩, by decide⟩, xm 681 (by decide +kernel) (by decide +kernel), xm 682 (by decide +kernel) (by decide +kernel)⟩
abbrev tX6_sheet : XT := (yX6_sheet, cX6_sheet, 4, some .int)
theorem mX6_sheet : MV tX6_sheet 3 := ⟨⟨xm 687 (by decide +kernel) (by decide +kernel), xm 1 (by decide +kernel) (by decide +kernel), ⟨by decide +kernel, by decide +kernel, by decide +kernel⟩, by decide⟩, xm 685 (by decide +kernel) (by decide +kernel), xm 686 (by decide +kernel) (by decide +kernel)⟩
abbrev tX2_renew : XT := (yX2_renew, cX2_renew, 4, none)
theorem mX2_renew : MV tX2_renew 2 := ⟨⟨xm 691 (by decide +kernel) (by decide +kernel), xm 7 (by decide +kernel) (by decide +kernel), ⟨by decide +kernel, by decide +kernel, by decide +kernel⟩, by decide⟩, xm 689 (by decide +kernel) (by decide +kernel), xm 690 (by decide +kernel) (by decide +kernel)⟩
abbrev tX6_lay : XT := (yX6_lay, cX6_lay, 5, some .int)
theorem mX6_lay : MV tX6_lay 3 := ⟨⟨xm 695 (by decide +kernel) (by decide +kernel), xm 1 (by decide +kernel) (by decide +kernel), ⟨by decide +kernel, by decide +kernel, by decide +kernel⟩, by decide⟩, xm 693 (by decide +kernel) (by decide +kernel), xm 694 (by decide +kernel) (by decide +kernel)⟩
abbrev tX2_isThere : XT := (yX2_isThere, cX2_isThere, 1, some .boolean)
theorem mX2_isThere : MV tX2_isThere 0 := ⟨⟨xm 699 (by decide +kernel) (by decide +kernel), xm 7 (by decide +kernel) (by decide +kernel), ⟨by decide +kernel, by decide +kernel, by decide +kernel⟩, by decide⟩, xm 697 (by decide +kernel) (by decide +kernel), xm 698 (by decide +kernel) (by decide +kernel)⟩
abbrev tX2_hasCell : XT := (yX2_hasCell, cX2_hasCell, 2, some .boolean)
theorem mX2_hasCell : MV tX2_hasCell 1 := ⟨⟨xm 703 (by decide +kernel) (by decide +kernel), xm 7 (by decide +kernel) (by decide +kernel), ⟨by decide +kernel, by decide +kernel, by decide +kernel⟩, by decide⟩, xm 701 (by decide +kernel) (by decide +kernel), xm 702 (by decide +kernel) (by decide +kernel)⟩
abbrev tX2_put : XT := (yX2_put, cX2_put, 3, none)
theorem mX2_put : MV tX2_put 2 := ⟨⟨xm 707 (by decide +kernel) (by decide +kernel), xm 7 (by decide +kernel) (by decide +kernel), ⟨by decide +kernel, by decide +kernel, by decide +kernel⟩, by decide⟩, xm 705 (by decide +kernel) (by decide +kernel), xm 706 (by decide +kernel) (by decide +kernel)⟩
abbrev tX6_read : XT := (yX6_read, cX6_read, 9, some .int)
theorem mX6_read : MV tX6_read 4 := ⟨⟨xm 711 (by decide +kernel) (by decide +kernel), xm 1 (by decide +kernel) (by decide +kernel), ⟨by decide +kernel, by decide +kernel, by decide +kernel⟩, by decide⟩, xm 709 (by decide +kernel) (by decide +kernel), xm 710 (by decide +kernel) (by decide +kernel)⟩
abbrev tX2_pairFault : XT := (yX2_pairFault, cX2_pairFault, 3, some .int)
theorem mX2_pairFault : MV tX2_pairFault 2 := ⟨⟨xm 715 (by decide +kernel) (by decide +kernel), xm 7 (by decide +kernel) (by decide +kernel), ⟨by decide +kernel, by decide +kernel, by decide +kernel⟩, by decide⟩, xm 713 (by decide +kernel) (by decide +kernel), xm 714 (by decide +kernel) (by decide +kernel)⟩
abbrev tX6_torn : XT := (yX6_torn, cX6_torn, 1, some .int)
theorem mX6_torn : MV tX6_torn 0 := ⟨⟨xm 721 (by decide +kernel) (by decide +kernel), xm 1 (by decide +kernel) (by decide +kernel), ⟨by decide +kernel, by decide +kernel, by decide +kernel⟩, by decide⟩, xm 719 (by decide +kernel) (by decide +kernel), xm 720 (by decide +kernel) (by decide +kernel)⟩
abbrev tX6_count : XT := (yX6_count, cX6_count, 2, some .int)
theorem mX6_count : MV tX6_count 1 := ⟨⟨xm 725 (by decide +kernel) (by decide +kernel), xm 1 (by decide +kernel) (by decide +kernel), ⟨by decide +kernel, by decide +kernel, by decide +kernel⟩, by decide⟩, xm 723 (by decide +kernel) (by decide +kernel), xm 724 (by decide +kernel) (by decide +kernel)⟩
abbrev tX7_init : XT := (yX7_init, cX7_init, 1, none)
theorem mX7_init : MI tX7_init 0 := ⟨⟨xm 731 (by decide +kernel) (by decide +kernel), xm 8 (by decide +kernel) (by decide +kernel), ⟨by decide +kernel, by decide +kernel, by decide +kernel⟩, by decide⟩, xm 730 (by decide +kernel) (by decide +kernel), by decide +kernel, rfl⟩
abbrev tX7_feed : XT := (yX7_feed, cX7_feed, 2, some .int)
theorem mX7_feed : MV tX7_feed 1 := ⟨⟨xm 824 (by decide +kernel) (by decide +kernel), xm 8 (by decide +kernel) (by decide +kernel), ⟨by decide +kernel, by decide +kernel, by decide +kernel⟩, by decide⟩, xm 822 (by decide +kernel) (by decide +kernel), xm 823 (by decide +kernel) (by decide +kernel)⟩
abbrev tX7_in : XT := (yX7_in, cX7_in, 6, some .boolean)
theorem mX7_in : MS tX7_in 3 := ⟨⟨xm 828 (by decide +kernel) (by decide +kernel), xm 8 (by decide +kernel) (by decide +kernel), ⟨by decide +kernel, by decide +kernel, by decide +kernel⟩, by decide⟩, xm 827 (by decide +kernel) (by decide +kernel)⟩
abbrev tX7_end : XT := (yX7_end, cX7_end, 3, some .int)
theorem mX7_end : MV tX7_end 1 := ⟨⟨xm 832 (by decide +kernel) (by decide +kernel), xm 8 (by decide +kernel) (by decide +kernel), ⟨by decide +kernel, by decide +kernel, by decide +kernel⟩, by decide⟩, xm 830 (by decide +kernel) (by decide +kernel), xm 831 (by decide +kernel) (by decide +kernel)⟩
abbrev tX7_text : XT := (yX7_text, cX7_text, 3, some .int)
theorem mX7_text : MV tX7_text 0 := ⟨⟨xm 836 (by decide +kernel) (by decide +kernel), xm 8 (by decide +kernel) (by decide +kernel), ⟨by decide +kernel, by decide +kernel, by decide +kernel⟩, by decide⟩, xm 834 (by decide +kernel) (by decide +kernel), xm 835 (by decide +kernel) (by decide +kernel)⟩
abbrev tX7_step : XT := (yX7_step, cX7_step, 2, none)
theorem mX7_step : MV tX7_step 0 := ⟨⟨xm 840 (by decide +kernel) (by decide +kernel), xm 8 (by decide +kernel) (by decide +kernel), ⟨by decide +kernel, by decide +kernel, by decide +kernel⟩, by decide⟩, xm 839 (by decide +kernel) (by decide +kernel), xmp 26 (by decide +kernel)⟩
abbrev tX7_byteAt : XT := (yX7_byteAt, cX7_byteAt, 2, some .int)
theorem mX7_byteAt : MV tX7_byteAt 1 := ⟨⟨xm 844 (by decide +kernel) (by decide +kernel), xm 8 (by decide +kernel) (by decide +kernel), ⟨by decide +kernel, by decide +kernel, by decide +kernel⟩, by decide⟩, xm 843 (by decide +kernel) (by decide +kernel), xmp 27 (by decide +kernel)⟩
abbrev tX7_fails : XT := (yX7_fails, cX7_fails, 2, none)
theorem mX7_fails : MV tX7_fails 1 := ⟨⟨xm 852 (by decide +kernel) (by decide +kernel), xm 8 (by decide +kernel) (by decide +kernel), ⟨by decide +kernel, by decide +kernel, by decide +kernel⟩, by decide⟩, xm 851 (by decide +kernel) (by decide +kernel), xmp 28 (by decide +kernel)⟩
abbrev tX7_readLine : XT := (yX7_readLine, cX7_readLine, 2, none)
theorem mX7_readLine : MV tX7_readLine 0 := ⟨⟨xm 856 (by decide +kernel) (by decide +kernel), xm 8 (by decide +kernel) (by decide +kernel), ⟨by decide +kernel, by decide +kernel, by decide +kernel⟩, by decide⟩, xm 855 (by decide +kernel) (by decide +kernel), xmp 29 (by decide +kernel)⟩
abbrev tX7_nameHere : XT := (yX7_nameHere, cX7_nameHere, 4, some .int)
theorem mX7_nameHere : MV tX7_nameHere 0 := ⟨⟨xm 860 (by decide +kernel) (by decide +kernel), xm 8 (by decide +kernel) (by decide +kernel), ⟨by decide +kernel, by decide +kernel, by decide +kernel⟩, by decide⟩, xm 859 (by decide +kernel) (by decide +kernel), xmp 30 (by decide +kernel)⟩
abbrev tX7_readMore : XT := (yX7_readMore, cX7_readMore, 4, none)
theorem mX7_readMore : MV tX7_readMore 1 := ⟨⟨xm 865 (by decide +kernel) (by decide +kernel), xm 8 (by decide +kernel) (by decide +kernel), ⟨by decide +kernel, by decide +kernel, by decide +kernel⟩, by decide⟩, xm 864 (by decide +kernel) (by decide +kernel), xmp 31 (by decide +kernel)⟩
abbrev tX7_number : XT := (yX7_number, cX7_number, 4, some .int)
theorem mX7_number : MV tX7_number 2 := ⟨⟨xm 869 (by decide +kernel) (by decide +kernel), xm 8 (by decide +kernel) (by decide +kernel), ⟨by decide +kernel, by decide +kernel, by decide +kernel⟩, by decide⟩, xm 868 (by decide +kernel) (by decide +kernel), xmp 32 (by decide +kernel)⟩
abbrev tX7_townHere : XT := (yX7_townHere, cX7_townHere, 2, some .int)
theorem mX7_townHere : MV tX7_townHere 0 := ⟨⟨xm 873 (by decide +kernel) (by decide +kernel), xm 8 (by decide +kernel) (by decide +kernel), ⟨by decide +kernel, by decide +kernel, by decide +kernel⟩, by decide⟩, xm 872 (by decide +kernel) (by decide +kernel), xmp 33 (by decide +kernel)⟩
abbrev tX7_fault : XT := (yX7_fault, cX7_fault, 1, some .int)
theorem mX7_fault : MV tX7_fault 0 := ⟨⟨xm 877 (by decide +kernel) (by decide +kernel), xm 8 (by decide +kernel) (by decide +kernel), ⟨by decide +kernel, by decide +kernel, by decide +kernel⟩, by decide⟩, xm 875 (by decide +kernel) (by decide +kernel), xm 876 (by decide +kernel) (by decide +kernel)⟩
abbrev tX7_rule : XT := (yX7_rule, cX7_rule, 2, some .int)
theorem mX7_rule : MV tX7_rule 1 := ⟨⟨xm 881 (by decide +kernel) (by decide +kernel), xm 8 (by decide +kernel) (by decide +kernel), ⟨by decide +kernel, by decide +kernel, by decide +kernel⟩, by decide⟩, xm 879 (by decide +kernel) (by decide +kernel), xm 880 (by decide +kernel) (by decide +kernel)⟩
abbrev tX7_placeOn : XT := (yX7_placeOn, cX7_placeOn, 2, some .int)
theorem mX7_placeOn : MV tX7_placeOn 1 := ⟨⟨xm 885 (by decide +kernel) (by decide +kernel), xm 8 (by decide +kernel) (by decide +kernel), ⟨by decide +kernel, by decide +kernel, by decide +kernel⟩, by decide⟩, xm 884 (by decide +kernel) (by decide +kernel), xmp 34 (by decide +kernel)⟩
abbrev tX7_losersOn : XT := (yX7_losersOn, cX7_losersOn, 4, some .int)
theorem mX7_losersOn : MV tX7_losersOn 1 := ⟨⟨xm 889 (by decide +kernel) (by decide +kernel), xm 8 (by decide +kernel) (by decide +kernel), ⟨by decide +kernel, by decide +kernel, by decide +kernel⟩, by decide⟩, xm 888 (by decide +kernel) (by decide +kernel), xmp 35 (by decide +kernel)⟩
abbrev tX7_owedOn : XT := (yX7_owedOn, cX7_owedOn, 4, some .int)
theorem mX7_owedOn : MV tX7_owedOn 1 := ⟨⟨xm 893 (by decide +kernel) (by decide +kernel), xm 8 (by decide +kernel) (by decide +kernel), ⟨by decide +kernel, by decide +kernel, by decide +kernel⟩, by decide⟩, xm 892 (by decide +kernel) (by decide +kernel), xmp 36 (by decide +kernel)⟩
abbrev tX7_town : XT := (yX7_town, cX7_town, 3, some .int)
theorem mX7_town : MV tX7_town 2 := ⟨⟨xm 897 (by decide +kernel) (by decide +kernel), xm 8 (by decide +kernel) (by decide +kernel), ⟨by decide +kernel, by decide +kernel, by decide +kernel⟩, by decide⟩, xm 895 (by decide +kernel) (by decide +kernel), xm 896 (by decide +kernel) (by decide +kernel)⟩
abbrev tX7_isTown : XT := (yX7_isTown, cX7_isTown, 2, some .boolean)
theorem mX7_isTown : MV tX7_isTown 1 := ⟨⟨xm 901 (by decide +kernel) (by decide +kernel), xm 8 (by decide +kernel) (by decide +kernel), ⟨by decide +kernel, by decide +kernel, by decide +kernel⟩, by decide⟩, xm 900 (by decide +kernel) (by decide +kernel), xmp 37 (by decide +kernel)⟩
abbrev tX7_playsOn : XT := (yX7_playsOn, cX7_playsOn, 6, some .int)
theorem mX7_playsOn : MV tX7_playsOn 2 := ⟨⟨xm 905 (by decide +kernel) (by decide +kernel), xm 8 (by decide +kernel) (by decide +kernel), ⟨by decide +kernel, by decide +kernel, by decide +kernel⟩, by decide⟩, xm 904 (by decide +kernel) (by decide +kernel), xmp 38 (by decide +kernel)⟩
abbrev tX7_fixture : XT := (yX7_fixture, cX7_fixture, 3, some .int)
theorem mX7_fixture : MV tX7_fixture 2 := ⟨⟨xm 909 (by decide +kernel) (by decide +kernel), xm 8 (by decide +kernel) (by decide +kernel), ⟨by decide +kernel, by decide +kernel, by decide +kernel⟩, by decide⟩, xm 907 (by decide +kernel) (by decide +kernel), xm 908 (by decide +kernel) (by decide +kernel)⟩
abbrev tX7_isFixture : XT := (yX7_isFixture, cX7_isFixture, 2, some .boolean)
theorem mX7_isFixture : MV tX7_isFixture 1 := ⟨⟨xm 913 (by decide +kernel) (by decide +kernel), xm 8 (by decide +kernel) (by decide +kernel), ⟨by decide +kernel, by decide +kernel, by decide +kernel⟩, by decide⟩, xm 912 (by decide +kernel) (by decide +kernel), xmp 39 (by decide +kernel)⟩
abbrev tX7_game : XT := (yX7_game, cX7_game, 3, some .int)
theorem mX7_game : MV tX7_game 2 := ⟨⟨xm 917 (by decide +kernel) (by decide +kernel), xm 8 (by decide +kernel) (by decide +kernel), ⟨by decide +kernel, by decide +kernel, by decide +kernel⟩, by decide⟩, xm 915 (by decide +kernel) (by decide +kernel), xm 916 (by decide +kernel) (by decide +kernel)⟩
abbrev tX7_isPair : XT := (yX7_isPair, cX7_isPair, 3, some .boolean)
theorem mX7_isPair : MV tX7_isPair 2 := ⟨⟨xm 921 (by decide +kernel) (by decide +kernel), xm 8 (by decide +kernel) (by decide +kernel), ⟨by decide +kernel, by decide +kernel, by decide +kernel⟩, by decide⟩, xm 920 (by decide +kernel) (by decide +kernel), xmp 40 (by decide +kernel)⟩
abbrev tX7_gameOn : XT := (yX7_gameOn, cX7_gameOn, 6, some .int)
theorem mX7_gameOn : MV tX7_gameOn 3 := ⟨⟨xm 925 (by decide +kernel) (by decide +kernel), xm 8 (by decide +kernel) (by decide +kernel), ⟨by decide +kernel, by decide +kernel, by decide +kernel⟩, by decide⟩, xm 924 (by decide +kernel) (by decide +kernel), xmp 41 (by decide +kernel)⟩
abbrev tX7_alter : XT := (yX7_alter, cX7_alter, 5, some .int)
theorem mX7_alter : MV tX7_alter 3 := ⟨⟨xm 929 (by decide +kernel) (by decide +kernel), xm 8 (by decide +kernel) (by decide +kernel), ⟨by decide +kernel, by decide +kernel, by decide +kernel⟩, by decide⟩, xm 927 (by decide +kernel) (by decide +kernel), xm 928 (by decide +kernel) (by decide +kernel)⟩
abbrev tX7_puts : XT := (yX7_puts, cX7_puts, 5, some .int)
theorem mX7_puts : MV tX7_puts 3 := ⟨⟨xm 934 (by decide +kernel) (by decide +kernel), xm 8 (by decide +kernel) (by decide +kernel), ⟨by decide +kernel, by decide +kernel, by decide +kernel⟩, by decide⟩, xm 933 (by decide +kernel) (by decide +kernel), xmp 42 (by decide +kernel)⟩
abbrev tX7_lend : XT := (yX7_lend, cX7_lend, 4, some .int)
theorem mX7_lend : MV tX7_lend 3 := ⟨⟨xm 938 (by decide +kernel) (by decide +kernel), xm 8 (by decide +kernel) (by decide +kernel), ⟨by decide +kernel, by decide +kernel, by decide +kernel⟩, by decide⟩, xm 936 (by decide +kernel) (by decide +kernel), xm 937 (by decide +kernel) (by decide +kernel)⟩
abbrev tX7_lendsOn : XT := (yX7_lendsOn, cX7_lendsOn, 5, some .int)
theorem mX7_lendsOn : MV tX7_lendsOn 4 := ⟨⟨xm 943 (by decide +kernel) (by decide +kernel), xm 8 (by decide +kernel) (by decide +kernel), ⟨by decide +kernel, by decide +kernel, by decide +kernel⟩, by decide⟩, xm 942 (by decide +kernel) (by decide +kernel), xmp 43 (by decide +kernel)⟩
abbrev tX7_book : XT := (yX7_book, cX7_book, 3, some .int)
theorem mX7_book : MV tX7_book 2 := ⟨⟨xm 947 (by decide +kernel) (by decide +kernel), xm 8 (by decide +kernel) (by decide +kernel), ⟨by decide +kernel, by decide +kernel, by decide +kernel⟩, by decide⟩, xm 945 (by decide +kernel) (by decide +kernel), xm 946 (by decide +kernel) (by decide +kernel)⟩
abbrev tX7_books : XT := (yX7_books, cX7_books, 4, some .int)
theorem mX7_books : MV tX7_books 2 := ⟨⟨xm 951 (by decide +kernel) (by decide +kernel), xm 8 (by decide +kernel) (by decide +kernel), ⟨by decide +kernel, by decide +kernel, by decide +kernel⟩, by decide⟩, xm 950 (by decide +kernel) (by decide +kernel), xmp 44 (by decide +kernel)⟩
abbrev tX7_strike : XT := (yX7_strike, cX7_strike, 2, some .int)
theorem mX7_strike : MV tX7_strike 1 := ⟨⟨xm 955 (by decide +kernel) (by decide +kernel), xm 8 (by decide +kernel) (by decide +kernel), ⟨by decide +kernel, by decide +kernel, by decide +kernel⟩, by decide⟩, xm 953 (by decide +kernel) (by decide +kernel), xm 954 (by decide +kernel) (by decide +kernel)⟩
abbrev tX7_weeks : XT := (yX7_weeks, cX7_weeks, 3, some .int)
theorem mX7_weeks : MV tX7_weeks 1 := ⟨⟨xm 959 (by decide +kernel) (by decide +kernel), xm 8 (by decide +kernel) (by decide +kernel), ⟨by decide +kernel, by decide +kernel, by decide +kernel⟩, by decide⟩, xm 957 (by decide +kernel) (by decide +kernel), xm 958 (by decide +kernel) (by decide +kernel)⟩
abbrev tX7_weekOn : XT := (yX7_weekOn, cX7_weekOn, 4, none)
theorem mX7_weekOn : MV tX7_weekOn 2 := ⟨⟨xm 964 (by decide +kernel) (by decide +kernel), xm 8 (by decide +kernel) (by decide +kernel), ⟨by decide +kernel, by decide +kernel, by decide +kernel⟩, by decide⟩, xm 963 (by decide +kernel) (by decide +kernel), xmp 45 (by decide +kernel)⟩
abbrev tX7_playedOn : XT := (yX7_playedOn, cX7_playedOn, 7, none)
theorem mX7_playedOn : MV tX7_playedOn 3 := ⟨⟨xm 968 (by decide +kernel) (by decide +kernel), xm 8 (by decide +kernel) (by decide +kernel), ⟨by decide +kernel, by decide +kernel, by decide +kernel⟩, by decide⟩, xm 967 (by decide +kernel) (by decide +kernel), xmp 46 (by decide +kernel)⟩
abbrev tX7_yearsEnd : XT := (yX7_yearsEnd, cX7_yearsEnd, 4, none)
theorem mX7_yearsEnd : MV tX7_yearsEnd 1 := ⟨⟨xm 972 (by decide +kernel) (by decide +kernel), xm 8 (by decide +kernel) (by decide +kernel), ⟨by decide +kernel, by decide +kernel, by decide +kernel⟩, by decide⟩, xm 971 (by decide +kernel) (by decide +kernel), xmp 47 (by decide +kernel)⟩
abbrev tX7_runs : XT := (yX7_runs, cX7_runs, 4, some .int)
theorem mX7_runs : MV tX7_runs 2 := ⟨⟨xm 976 (by decide +kernel) (by decide +kernel), xm 8 (by decide +kernel) (by decide +kernel), ⟨by decide +kernel, by decide +kernel, by decide +kernel⟩, by decide⟩, xm 974 (by decide +kernel) (by decide +kernel), xm 975 (by decide +kernel) (by decide +kernel)⟩
abbrev tX7_weeksGo : XT := (yX7_weeksGo, cX7_weeksGo, 4, some .int)
theorem mX7_weeksGo : MV tX7_weeksGo 2 := ⟨⟨xm 981 (by decide +kernel) (by decide +kernel), xm 8 (by decide +kernel) (by decide +kernel), ⟨by decide +kernel, by decide +kernel, by decide +kernel⟩, by decide⟩, xm 980 (by decide +kernel) (by decide +kernel), xmp 48 (by decide +kernel)⟩
abbrev tX7_copies : XT := (yX7_copies, cX7_copies, 4, none)
theorem mX7_copies : MV tX7_copies 2 := ⟨⟨xm 985 (by decide +kernel) (by decide +kernel), xm 8 (by decide +kernel) (by decide +kernel), ⟨by decide +kernel, by decide +kernel, by decide +kernel⟩, by decide⟩, xm 984 (by decide +kernel) (by decide +kernel), xmp 49 (by decide +kernel)⟩
abbrev tX7_ahead : XT := (yX7_ahead, cX7_ahead, 4, some .int)
theorem mX7_ahead : MV tX7_ahead 3 := ⟨⟨xm 989 (by decide +kernel) (by decide +kernel), xm 8 (by decide +kernel) (by decide +kernel), ⟨by decide +kernel, by decide +kernel, by decide +kernel⟩, by decide⟩, xm 987 (by decide +kernel) (by decide +kernel), xm 988 (by decide +kernel) (by decide +kernel)⟩
abbrev tX7_loser : XT := (yX7_loser, cX7_loser, 2, some .int)
theorem mX7_loser : MV tX7_loser 1 := ⟨⟨xm 994 (by decide +kernel) (by decide +kernel), xm 8 (by decide +kernel) (by decide +kernel), ⟨by decide +kernel, by decide +kernel, by decide +kernel⟩, by decide⟩, xm 992 (by decide +kernel) (by decide +kernel), xm 993 (by decide +kernel) (by decide +kernel)⟩
abbrev tX7_loses : XT := (yX7_loses, cX7_loses, 2, some .int)
theorem mX7_loses : MV tX7_loses 1 := ⟨⟨xm 998 (by decide +kernel) (by decide +kernel), xm 8 (by decide +kernel) (by decide +kernel), ⟨by decide +kernel, by decide +kernel, by decide +kernel⟩, by decide⟩, xm 996 (by decide +kernel) (by decide +kernel), xm 997 (by decide +kernel) (by decide +kernel)⟩
abbrev tX7_firstLoss : XT := (yX7_firstLoss, cX7_firstLoss, 5, some .int)
theorem mX7_firstLoss : MV tX7_firstLoss 3 := ⟨⟨xm 1002 (by decide +kernel) (by decide +kernel), xm 8 (by decide +kernel) (by decide +kernel), ⟨by decide +kernel, by decide +kernel, by decide +kernel⟩, by decide⟩, xm 1001 (by decide +kernel) (by decide +kernel), xmp 50 (by decide +kernel)⟩
abbrev tX7_order : XT := (yX7_order, cX7_order, 8, some .int)
theorem mX7_order : MV tX7_order 1 := ⟨⟨xm 1006 (by decide +kernel) (by decide +kernel), xm 8 (by decide +kernel) (by decide +kernel), ⟨by decide +kernel, by decide +kernel, by decide +kernel⟩, by decide⟩, xm 1004 (by decide +kernel) (by decide +kernel), xm 1005 (by decide +kernel) (by decide +kernel)⟩
abbrev tX7_ordered : XT := (yX7_ordered, cX7_ordered, 7, some .boolean)
theorem mX7_ordered : MV tX7_ordered 1 := ⟨⟨xm 1013 (by decide +kernel) (by decide +kernel), xm 8 (by decide +kernel) (by decide +kernel), ⟨by decide +kernel, by decide +kernel, by decide +kernel⟩, by decide⟩, xm 1012 (by decide +kernel) (by decide +kernel), xmp 51 (by decide +kernel)⟩
abbrev tX7_loan : XT := (yX7_loan, cX7_loan, 8, some .int)
theorem mX7_loan : MV tX7_loan 2 := ⟨⟨xm 1017 (by decide +kernel) (by decide +kernel), xm 8 (by decide +kernel) (by decide +kernel), ⟨by decide +kernel, by decide +kernel, by decide +kernel⟩, by decide⟩, xm 1015 (by decide +kernel) (by decide +kernel), xm 1016 (by decide +kernel) (by decide +kernel)⟩
abbrev tX7_swap : XT := (yX7_swap, cX7_swap, 8, some .int)
theorem mX7_swap : MV tX7_swap 2 := ⟨⟨xm 1021 (by decide +kernel) (by decide +kernel), xm 8 (by decide +kernel) (by decide +kernel), ⟨by decide +kernel, by decide +kernel, by decide +kernel⟩, by decide⟩, xm 1019 (by decide +kernel) (by decide +kernel), xm 1020 (by decide +kernel) (by decide +kernel)⟩
abbrev tX7_skip : XT := (yX7_skip, cX7_skip, 7, some .int)
theorem mX7_skip : MV tX7_skip 2 := ⟨⟨xm 1025 (by decide +kernel) (by decide +kernel), xm 8 (by decide +kernel) (by decide +kernel), ⟨by decide +kernel, by decide +kernel, by decide +kernel⟩, by decide⟩, xm 1023 (by decide +kernel) (by decide +kernel), xm 1024 (by decide +kernel) (by decide +kernel)⟩
abbrev tX7_most : XT := (yX7_most, cX7_most, 4, some .int)
theorem mX7_most : MV tX7_most 2 := ⟨⟨xm 1029 (by decide +kernel) (by decide +kernel), xm 8 (by decide +kernel) (by decide +kernel), ⟨by decide +kernel, by decide +kernel, by decide +kernel⟩, by decide⟩, xm 1027 (by decide +kernel) (by decide +kernel), xm 1028 (by decide +kernel) (by decide +kernel)⟩
abbrev tX7_kind : XT := (yX7_kind, cX7_kind, 8, some .int)
theorem mX7_kind : MV tX7_kind 3 := ⟨⟨xm 1033 (by decide +kernel) (by decide +kernel), xm 8 (by decide +kernel) (by decide +kernel), ⟨by decide +kernel, by decide +kernel, by decide +kernel⟩, by decide⟩, xm 1031 (by decide +kernel) (by decide +kernel), xm 1032 (by decide +kernel) (by decide +kernel)⟩
abbrev tX7_luck : XT := (yX7_luck, cX7_luck, 5, some .long)
theorem mX7_luck : MV tX7_luck 4 := ⟨⟨xm 1037 (by decide +kernel) (by decide +kernel), xm 8 (by decide +kernel) (by decide +kernel), ⟨by decide +kernel, by decide +kernel, by decide +kernel⟩, by decide⟩, xm 1035 (by decide +kernel) (by decide +kernel), xm 1036 (by decide +kernel) (by decide +kernel)⟩
abbrev tX7_byRain : XT := (yX7_byRain, cX7_byRain, 15, some .long)
theorem mX7_byRain : MV tX7_byRain 4 := ⟨⟨xm 1042 (by decide +kernel) (by decide +kernel), xm 8 (by decide +kernel) (by decide +kernel), ⟨by decide +kernel, by decide +kernel, by decide +kernel⟩, by decide⟩, xm 1041 (by decide +kernel) (by decide +kernel), xmp 52 (by decide +kernel)⟩
abbrev tX7_lowest : XT := (yX7_lowest, cX7_lowest, 11, some .long)
theorem mX7_lowest : MS tX7_lowest 3 := ⟨⟨xm 1045 (by decide +kernel) (by decide +kernel), xm 8 (by decide +kernel) (by decide +kernel), ⟨by decide +kernel, by decide +kernel, by decide +kernel⟩, by decide⟩, xm 1044 (by decide +kernel) (by decide +kernel)⟩
abbrev tX7_mean : XT := (yX7_mean, cX7_mean, 4, some .long)
theorem mX7_mean : MV tX7_mean 3 := ⟨⟨xm 1050 (by decide +kernel) (by decide +kernel), xm 8 (by decide +kernel) (by decide +kernel), ⟨by decide +kernel, by decide +kernel, by decide +kernel⟩, by decide⟩, xm 1048 (by decide +kernel) (by decide +kernel), xm 1049 (by decide +kernel) (by decide +kernel)⟩
abbrev tX7_see : XT := (yX7_see, cX7_see, 3, some .int)
theorem mX7_see : MV tX7_see 2 := ⟨⟨xm 1054 (by decide +kernel) (by decide +kernel), xm 8 (by decide +kernel) (by decide +kernel), ⟨by decide +kernel, by decide +kernel, by decide +kernel⟩, by decide⟩, xm 1052 (by decide +kernel) (by decide +kernel), xm 1053 (by decide +kernel) (by decide +kernel)⟩
abbrev tX7_forget : XT := (yX7_forget, cX7_forget, 3, some .int)
theorem mX7_forget : MV tX7_forget 1 := ⟨⟨xm 1058 (by decide +kernel) (by decide +kernel), xm 8 (by decide +kernel) (by decide +kernel), ⟨by decide +kernel, by decide +kernel, by decide +kernel⟩, by decide⟩, xm 1056 (by decide +kernel) (by decide +kernel), xm 1057 (by decide +kernel) (by decide +kernel)⟩
abbrev tX7_kinds : XT := (yX7_kinds, cX7_kinds, 2, some .int)
theorem mX7_kinds : MV tX7_kinds 1 := ⟨⟨xm 1062 (by decide +kernel) (by decide +kernel), xm 8 (by decide +kernel) (by decide +kernel), ⟨by decide +kernel, by decide +kernel, by decide +kernel⟩, by decide⟩, xm 1060 (by decide +kernel) (by decide +kernel), xm 1061 (by decide +kernel) (by decide +kernel)⟩
abbrev tX7_numbersAt : XT := (yX7_numbersAt, cX7_numbersAt, 6, some .int)
theorem mX7_numbersAt : MV tX7_numbersAt 2 := ⟨⟨xm 1066 (by decide +kernel) (by decide +kernel), xm 8 (by decide +kernel) (by decide +kernel), ⟨by decide +kernel, by decide +kernel, by decide +kernel⟩, by decide⟩, xm 1065 (by decide +kernel) (by decide +kernel), xmp 53 (by decide +kernel)⟩
abbrev tX7_isAsSeen : XT := (yX7_isAsSeen, cX7_isAsSeen, 6, some .boolean)
theorem mX7_isAsSeen : MV tX7_isAsSeen 1 := ⟨⟨xm 1070 (by decide +kernel) (by decide +kernel), xm 8 (by decide +kernel) (by decide +kernel), ⟨by decide +kernel, by decide +kernel, by decide +kernel⟩, by decide⟩, xm 1069 (by decide +kernel) (by decide +kernel), xmp 54 (by decide +kernel)⟩
abbrev tX7_strengths : XT := (yX7_strengths, cX7_strengths, 2, some .int)
theorem mX7_strengths : MV tX7_strengths 1 := ⟨⟨xm 1074 (by decide +kernel) (by decide +kernel), xm 8 (by decide +kernel) (by decide +kernel), ⟨by decide +kernel, by decide +kernel, by decide +kernel⟩, by decide⟩, xm 1072 (by decide +kernel) (by decide +kernel), xm 1073 (by decide +kernel) (by decide +kernel)⟩
abbrev tX7_ask : XT := (yX7_ask, cX7_ask, 11, some .int)
theorem mX7_ask : MV tX7_ask 2 := ⟨⟨xm 1078 (by decide +kernel) (by decide +kernel), xm 8 (by decide +kernel) (by decide +kernel), ⟨by decide +kernel, by decide +kernel, by decide +kernel⟩, by decide⟩, xm 1076 (by decide +kernel) (by decide +kernel), xm 1077 (by decide +kernel) (by decide +kernel)⟩
abbrev tX7_drift : XT := (yX7_drift, cX7_drift, 8, some .int)
theorem mX7_drift : MV tX7_drift 3 := ⟨⟨xm 1082 (by decide +kernel) (by decide +kernel), xm 8 (by decide +kernel) (by decide +kernel), ⟨by decide +kernel, by decide +kernel, by decide +kernel⟩, by decide⟩, xm 1080 (by decide +kernel) (by decide +kernel), xm 1081 (by decide +kernel) (by decide +kernel)⟩
abbrev tX7_keep : XT := (yX7_keep, cX7_keep, 3, some .int)
theorem mX7_keep : MV tX7_keep 1 := ⟨⟨xm 1087 (by decide +kernel) (by decide +kernel), xm 8 (by decide +kernel) (by decide +kernel), ⟨by decide +kernel, by decide +kernel, by decide +kernel⟩, by decide⟩, xm 1085 (by decide +kernel) (by decide +kernel), xm 1086 (by decide +kernel) (by decide +kernel)⟩
abbrev tX7_back : XT := (yX7_back, cX7_back, 2, some .int)
theorem mX7_back : MV tX7_back 1 := ⟨⟨xm 1091 (by decide +kernel) (by decide +kernel), xm 8 (by decide +kernel) (by decide +kernel), ⟨by decide +kernel, by decide +kernel, by decide +kernel⟩, by decide⟩, xm 1089 (by decide +kernel) (by decide +kernel), xm 1090 (by decide +kernel) (by decide +kernel)⟩
abbrev tX7_sheet : XT := (yX7_sheet, cX7_sheet, 5, some .int)
theorem mX7_sheet : MV tX7_sheet 3 := ⟨⟨xm 1095 (by decide +kernel) (by decide +kernel), xm 8 (by decide +kernel) (by decide +kernel), ⟨by decide +kernel, by decide +kernel, by decide +kernel⟩, by decide⟩, xm 1093 (by decide +kernel) (by decide +kernel), xm 1094 (by decide +kernel) (by decide +kernel)⟩
abbrev tX7_lay : XT := (yX7_lay, cX7_lay, 4, some .int)
theorem mX7_lay : MV tX7_lay 3 := ⟨⟨xm 1099 (by decide +kernel) (by decide +kernel), xm 8 (by decide +kernel) (by decide +kernel), ⟨by decide +kernel, by decide +kernel, by decide +kernel⟩, by decide⟩, xm 1097 (by decide +kernel) (by decide +kernel), xm 1098 (by decide +kernel) (by decide +kernel)⟩
abbrev tX7_read : XT := (yX7_read, cX7_read, 9, some .int)
theorem mX7_read : MV tX7_read 4 := ⟨⟨xm 1103 (by decide +kernel) (by decide +kernel), xm 8 (by decide +kernel) (by decide +kernel), ⟨by decide +kernel, by decide +kernel, by decide +kernel⟩, by decide⟩, xm 1101 (by decide +kernel) (by decide +kernel), xm 1102 (by decide +kernel) (by decide +kernel)⟩
abbrev tX7_torn : XT := (yX7_torn, cX7_torn, 1, some .int)
theorem mX7_torn : MV tX7_torn 0 := ⟨⟨xm 1107 (by decide +kernel) (by decide +kernel), xm 8 (by decide +kernel) (by decide +kernel), ⟨by decide +kernel, by decide +kernel, by decide +kernel⟩, by decide⟩, xm 1105 (by decide +kernel) (by decide +kernel), xm 1106 (by decide +kernel) (by decide +kernel)⟩
abbrev tX7_count : XT := (yX7_count, cX7_count, 5, some .int)
theorem mX7_count : MV tX7_count 1 := ⟨⟨xm 1111 (by decide +kernel) (by decide +kernel), xm 8 (by decide +kernel) (by decide +kernel), ⟨by decide +kernel, by decide +kernel, by decide +kernel⟩, by decide⟩, xm 1109 (by decide +kernel) (by decide +kernel), xm 1110 (by decide +kernel) (by decide +kernel)⟩
theorem kL_9 : Cond.methodLink RL 9 yX6_init ∈ xG := xm 17 (by decide +kernel) (by decide +kernel)
theorem kL_13 : Cond.methodLink RL 13 yX6_feed ∈ xG := xm 207 (by decide +kernel) (by decide +kernel)
theorem kX6_70 : Cond.methodLink RX6 70 yX6_within ∈ xG := xm 211 (by decide +kernel) (by decide +kernel)
theorem kX6_74 : Cond.methodLink RX6 74 yX4_append ∈ xG := xm 214 (by decide +kernel) (by decide +kernel)
theorem kL_18 : Cond.methodLink RL 18 yX6_end ∈ xG := xm 218 (by decide +kernel) (by decide +kernel)
theorem kL_22 : Cond.methodLink RL 22 yX6_text ∈ xG := xm 222 (by decide +kernel) (by decide +kernel)
theorem kX6_84 : Cond.methodLink RX6 84 yX5_readAll ∈ xG := xm 226 (by decide +kernel) (by decide +kernel)
theorem kX5_18 : Cond.methodLink RX5 18 yX1_clear ∈ xG := xm 230 (by decide +kernel) (by decide +kernel)
theorem kX5_33 : Cond.methodLink RX5 33 yX5_readToken ∈ xG := xm 234 (by decide +kernel) (by decide +kernel)
theorem kX5_88 : Cond.methodLink RX5 88 yX4_byteAt ∈ xG := xm 238 (by decide +kernel) (by decide +kernel)
theorem kX5_95 : Cond.methodLink RX5 95 yX5_isLetter ∈ xG := xm 242 (by decide +kernel) (by decide +kernel)
theorem kX5_98 : Cond.methodLink RX5 98 yX5_takeName ∈ xG := xm 245 (by decide +kernel) (by decide +kernel)
theorem kX5_101 : Cond.methodLink RX5 101 yX5_isFigure ∈ xG := xm 249 (by decide +kernel) (by decide +kernel)
theorem kX5_104 : Cond.methodLink RX5 104 yX5_takeNumber ∈ xG := xm 252 (by decide +kernel) (by decide +kernel)
theorem kX5_43 : Cond.methodLink RX5 43 yX5_refuse ∈ xG := xm 256 (by decide +kernel) (by decide +kernel)
theorem kX5_40 : Cond.methodLink RX5 40 yX1_lacksTown ∈ xG := xm 260 (by decide +kernel) (by decide +kernel)
theorem kX1_48 : Cond.methodLink RX1 48 yX1_hasPair ∈ xG := xm 264 (by decide +kernel) (by decide +kernel)
theorem kX1_40 : Cond.methodLink RX1 40 yX1_hasTown ∈ xG := xm 268 (by decide +kernel) (by decide +kernel)
theorem kX5_47 : Cond.methodLink RX5 47 yX5_readLine ∈ xG := xm 272 (by decide +kernel) (by decide +kernel)
theorem kX5_51 : Cond.methodLink RX5 51 yX5_wordRead ∈ xG := xm 276 (by decide +kernel) (by decide +kernel)
theorem kX5_109 : Cond.methodLink RX5 109 yX5_spells ∈ xG := xm 281 (by decide +kernel) (by decide +kernel)
theorem kX5_121 : Cond.methodLink RX5 121 yJ0_length_8abf5 ∈ xG := xm 285 (by decide +kernel) (by decide +kernel)
theorem kJ0_335 : Cond.methodLink RJ0 335 yJ0_coder_7d493 ∈ xG := xm 289 (by decide +kernel) (by decide +kernel)
theorem kX5_125 : Cond.methodLink RX5 125 yJ0_charAt_5068e ∈ xG := xm 295 (by decide +kernel) (by decide +kernel)
theorem kJ0_492 : Cond.methodLink RJ0 492 yJ0_isLatin1_aae02 ∈ xG := xm 299 (by decide +kernel) (by decide +kernel)
theorem kJ0_495 : Cond.methodLink RJ0 495 yJ1_charAt_3b067 ∈ xG := xm 303 (by decide +kernel) (by decide +kernel)
theorem kJ1_9 : Cond.methodLink RJ1 9 yJ0_checkIndex_df160 ∈ xG := xm 306 (by decide +kernel) (by decide +kernel)
theorem kJ0_1059 : Cond.methodLink RJ0 1059 yJ3_checkIndex_8e157 ∈ xG := xm 311 (by decide +kernel) (by decide +kernel)
theorem kJ0_498 : Cond.methodLink RJ0 498 yJ2_charAt_3b067 ∈ xG := xm 314 (by decide +kernel) (by decide +kernel)
theorem kJ2_67 : Cond.methodLink RJ2 67 yJ2_checkIndex_2214a ∈ xG := xm 317 (by decide +kernel) (by decide +kernel)
theorem kJ2_48 : Cond.methodLink RJ2 48 yJ2_length_9d52b ∈ xG := xm 320 (by decide +kernel) (by decide +kernel)
theorem kJ2_414 : Cond.methodLink RJ2 414 yJ0_checkIndex_df160 ∈ xG := xm 323 (by decide +kernel) (by decide +kernel)
theorem kJ2_71 : Cond.methodLink RJ2 71 yJ2_getChar_3b067 ∈ xG := xm 324 (by decide +kernel) (by decide +kernel)
theorem kX5_55 : Cond.methodLink RX5 55 yX5_readGame ∈ xG := xm 337 (by decide +kernel) (by decide +kernel)
theorem kX5_78 : Cond.methodLink RX5 78 yX1_isFullOfFixtures ∈ xG := xm 341 (by decide +kernel) (by decide +kernel)
theorem kX5_65 : Cond.methodLink RX5 65 yX5_readNumber ∈ xG := xm 345 (by decide +kernel) (by decide +kernel)
theorem kX5_71 : Cond.methodLink RX5 71 yX5_readSign ∈ xG := xm 349 (by decide +kernel) (by decide +kernel)
theorem kX5_81 : Cond.methodLink RX5 81 yX1_addFixtureUnseen ∈ xG := xm 353 (by decide +kernel) (by decide +kernel)
theorem kX1_56 : Cond.methodLink RX1 56 yX1_isFullOfFixtures ∈ xG := xm 357 (by decide +kernel) (by decide +kernel)
theorem kX5_58 : Cond.methodLink RX5 58 yX5_readTown ∈ xG := xm 358 (by decide +kernel) (by decide +kernel)
theorem kX5_62 : Cond.methodLink RX5 62 yX1_isFullOfTowns ∈ xG := xm 362 (by decide +kernel) (by decide +kernel)
theorem kX5_74 : Cond.methodLink RX5 74 yX1_addTown ∈ xG := xm 366 (by decide +kernel) (by decide +kernel)
theorem kX1_44 : Cond.methodLink RX1 44 yX1_isFullOfTowns ∈ xG := xm 370 (by decide +kernel) (by decide +kernel)
theorem kX6_94 : Cond.methodLink RX6 94 yX1_become ∈ xG := xm 371 (by decide +kernel) (by decide +kernel)
theorem kL_27 : Cond.methodLink RL 27 yX6_fault ∈ xG := xm 375 (by decide +kernel) (by decide +kernel)
theorem kL_31 : Cond.methodLink RL 31 yX6_rule ∈ xG := xm 379 (by decide +kernel) (by decide +kernel)
theorem kX6_110 : Cond.methodLink RX6 110 yX1_fixtureNow ∈ xG := xm 383 (by decide +kernel) (by decide +kernel)
theorem kX6_114 : Cond.methodLink RX6 114 yX1_withLosses ∈ xG := xm 387 (by decide +kernel) (by decide +kernel)
theorem kX6_117 : Cond.methodLink RX6 117 yX1_owed ∈ xG := xm 391 (by decide +kernel) (by decide +kernel)
theorem kX1_103 : Cond.methodLink RX1 103 yX1_sumOverTowns ∈ xG := xm 395 (by decide +kernel) (by decide +kernel)
theorem kL_35 : Cond.methodLink RL 35 yX6_town ∈ xG := xm 399 (by decide +kernel) (by decide +kernel)
theorem kX6_120 : Cond.methodLink RX6 120 yX1_hasTown ∈ xG := xm 403 (by decide +kernel) (by decide +kernel)
theorem kX6_135 : Cond.methodLink RX6 135 yX1_playsNow ∈ xG := xm 404 (by decide +kernel) (by decide +kernel)
theorem kX1_59 : Cond.methodLink RX1 59 yX1_playsWise ∈ xG := xm 408 (by decide +kernel) (by decide +kernel)
theorem kX1_63 : Cond.methodLink RX1 63 yJ9_max_7cf53 ∈ xG := xm 412 (by decide +kernel) (by decide +kernel)
theorem kL_40 : Cond.methodLink RL 40 yX6_fixture ∈ xG := xm 415 (by decide +kernel) (by decide +kernel)
theorem kX6_139 : Cond.methodLink RX6 139 yX1_hasFixture ∈ xG := xm 419 (by decide +kernel) (by decide +kernel)
theorem kL_44 : Cond.methodLink RL 44 yX6_game ∈ xG := xm 423 (by decide +kernel) (by decide +kernel)
theorem kX6_148 : Cond.methodLink RX6 148 yX1_hasPair ∈ xG := xm 427 (by decide +kernel) (by decide +kernel)
theorem kX6_151 : Cond.methodLink RX6 151 yX1_weaker ∈ xG := xm 428 (by decide +kernel) (by decide +kernel)
theorem kX1_68 : Cond.methodLink RX1 68 yX1_playsNow ∈ xG := xm 432 (by decide +kernel) (by decide +kernel)
theorem kL_48 : Cond.methodLink RL 48 yX6_alter ∈ xG := xm 433 (by decide +kernel) (by decide +kernel)
theorem kX6_155 : Cond.methodLink RX6 155 yX6_replace ∈ xG := xm 437 (by decide +kernel) (by decide +kernel)
theorem kL_53 : Cond.methodLink RL 53 yX6_lend ∈ xG := xm 440 (by decide +kernel) (by decide +kernel)
theorem kX6_159 : Cond.methodLink RX6 159 yX1_moveStrength ∈ xG := xm 444 (by decide +kernel) (by decide +kernel)
theorem kL_57 : Cond.methodLink RL 57 yX6_book ∈ xG := xm 448 (by decide +kernel) (by decide +kernel)
theorem kX6_163 : Cond.methodLink RX6 163 yX1_addFixture ∈ xG := xm 452 (by decide +kernel) (by decide +kernel)
theorem kX1_52 : Cond.methodLink RX1 52 yX1_addFixtureUnseen ∈ xG := xm 456 (by decide +kernel) (by decide +kernel)
theorem kL_61 : Cond.methodLink RL 61 yX6_strike ∈ xG := xm 457 (by decide +kernel) (by decide +kernel)
theorem kL_65 : Cond.methodLink RL 65 yX6_weeks ∈ xG := xm 461 (by decide +kernel) (by decide +kernel)
theorem kX6_166 : Cond.methodLink RX6 166 yX1_runWeeks ∈ xG := xm 465 (by decide +kernel) (by decide +kernel)
theorem kX1_93 : Cond.methodLink RX1 93 yX1_runWeek ∈ xG := xm 469 (by decide +kernel) (by decide +kernel)
theorem kX1_80 : Cond.methodLink RX1 80 yX1_fixtureNow ∈ xG := xm 473 (by decide +kernel) (by decide +kernel)
theorem kX1_84 : Cond.methodLink RX1 84 yX1_play ∈ xG := xm 474 (by decide +kernel) (by decide +kernel)
theorem kX1_71 : Cond.methodLink RX1 71 yX1_weaker ∈ xG := xm 478 (by decide +kernel) (by decide +kernel)
theorem kX1_74 : Cond.methodLink RX1 74 yJ9_min_7cf53 ∈ xG := xm 479 (by decide +kernel) (by decide +kernel)
theorem kX1_77 : Cond.methodLink RX1 77 yX1_trainsNow ∈ xG := xm 482 (by decide +kernel) (by decide +kernel)
theorem kX1_87 : Cond.methodLink RX1 87 yX1_passWeek ∈ xG := xm 486 (by decide +kernel) (by decide +kernel)
theorem kX1_90 : Cond.methodLink RX1 90 yX1_closeYear ∈ xG := xm 490 (by decide +kernel) (by decide +kernel)
theorem kL_69 : Cond.methodLink RL 69 yX6_runs ∈ xG := xm 494 (by decide +kernel) (by decide +kernel)
theorem kL_73 : Cond.methodLink RL 73 yX6_ahead ∈ xG := xm 498 (by decide +kernel) (by decide +kernel)
theorem kL_77 : Cond.methodLink RL 77 yX6_loser ∈ xG := xm 502 (by decide +kernel) (by decide +kernel)
theorem kX6_169 : Cond.methodLink RX6 169 yX1_runWeek ∈ xG := xm 506 (by decide +kernel) (by decide +kernel)
theorem kL_81 : Cond.methodLink RL 81 yX6_loses ∈ xG := xm 507 (by decide +kernel) (by decide +kernel)
theorem kX6_173 : Cond.methodLink RX6 173 yX1_firstLoss ∈ xG := xm 511 (by decide +kernel) (by decide +kernel)
theorem kL_85 : Cond.methodLink RL 85 yX6_order ∈ xG := xm 515 (by decide +kernel) (by decide +kernel)
theorem kX6_176 : Cond.methodLink RX6 176 yX6_findBestOrder ∈ xG := xm 519 (by decide +kernel) (by decide +kernel)
theorem kX6_189 : Cond.methodLink RX6 189 yX0_start ∈ xG := xm 523 (by decide +kernel) (by decide +kernel)
theorem kX6_192 : Cond.methodLink RX6 192 yX6_factorial ∈ xG := xm 527 (by decide +kernel) (by decide +kernel)
theorem kX6_185 : Cond.methodLink RX6 185 yX6_setRow ∈ xG := xm 530 (by decide +kernel) (by decide +kernel)
theorem kX6_202 : Cond.methodLink RX6 202 yX6_nthBit ∈ xG := xm 534 (by decide +kernel) (by decide +kernel)
theorem kX6_195 : Cond.methodLink RX6 195 yX1_owedBehind ∈ xG := xm 537 (by decide +kernel) (by decide +kernel)
theorem kX1_97 : Cond.methodLink RX1 97 yX1_runWeeks ∈ xG := xm 541 (by decide +kernel) (by decide +kernel)
theorem kX1_100 : Cond.methodLink RX1 100 yX1_owed ∈ xG := xm 542 (by decide +kernel) (by decide +kernel)
theorem kX6_198 : Cond.methodLink RX6 198 yX0_offer ∈ xG := xm 543 (by decide +kernel) (by decide +kernel)
theorem kL_89 : Cond.methodLink RL 89 yX6_loan ∈ xG := xm 547 (by decide +kernel) (by decide +kernel)
theorem kX6_205 : Cond.methodLink RX6 205 yX6_owedAsItIs ∈ xG := xm 551 (by decide +kernel) (by decide +kernel)
theorem kX6_208 : Cond.methodLink RX6 208 yX0_answer ∈ xG := xm 555 (by decide +kernel) (by decide +kernel)
theorem kL_93 : Cond.methodLink RL 93 yX6_swap ∈ xG := xm 559 (by decide +kernel) (by decide +kernel)
theorem kX6_211 : Cond.methodLink RX6 211 yX1_swapFixtures ∈ xG := xm 563 (by decide +kernel) (by decide +kernel)
theorem kL_97 : Cond.methodLink RL 97 yX6_skip ∈ xG := xm 567 (by decide +kernel) (by decide +kernel)
theorem kL_101 : Cond.methodLink RL 101 yX6_most ∈ xG := xm 571 (by decide +kernel) (by decide +kernel)
theorem kX6_214 : Cond.methodLink RX6 214 yX6_tryStrength ∈ xG := xm 575 (by decide +kernel) (by decide +kernel)
theorem kL_105 : Cond.methodLink RL 105 yX6_kind ∈ xG := xm 579 (by decide +kernel) (by decide +kernel)
theorem kX6_217 : Cond.methodLink RX6 217 yX6_tryKind ∈ xG := xm 583 (by decide +kernel) (by decide +kernel)
theorem kL_109 : Cond.methodLink RL 109 yX6_luck ∈ xG := xm 587 (by decide +kernel) (by decide +kernel)
theorem kX6_222 : Cond.methodLink RX6 222 yX6_losesInRain ∈ xG := xm 592 (by decide +kernel) (by decide +kernel)
theorem kX6_226 : Cond.methodLink RX6 226 yX6_weight ∈ xG := xm 596 (by decide +kernel) (by decide +kernel)
theorem kX6_238 : Cond.methodLink RX6 238 yJ6_bitCount_0f7a4 ∈ xG := xm 599 (by decide +kernel) (by decide +kernel)
theorem kX6_230 : Cond.methodLink RX6 230 yX6_power ∈ xG := xm 605 (by decide +kernel) (by decide +kernel)
theorem kX6_234 : Cond.methodLink RX6 234 yX6_lowest ∈ xG := xm 608 (by decide +kernel) (by decide +kernel)
theorem kX6_243 : Cond.methodLink RX6 243 yX6_commonDivisor ∈ xG := xm 611 (by decide +kernel) (by decide +kernel)
theorem kX6_247 : Cond.methodLink RX6 247 yJ9_max_f86c9 ∈ xG := xm 614 (by decide +kernel) (by decide +kernel)
theorem kL_114 : Cond.methodLink RL 114 yX6_mean ∈ xG := xm 617 (by decide +kernel) (by decide +kernel)
theorem kL_119 : Cond.methodLink RL 119 yX6_see ∈ xG := xm 621 (by decide +kernel) (by decide +kernel)
theorem kX6_252 : Cond.methodLink RX6 252 yX3_add ∈ xG := xm 625 (by decide +kernel) (by decide +kernel)
theorem kL_123 : Cond.methodLink RL 123 yX6_forget ∈ xG := xm 629 (by decide +kernel) (by decide +kernel)
theorem kL_127 : Cond.methodLink RL 127 yX6_kinds ∈ xG := xm 633 (by decide +kernel) (by decide +kernel)
theorem kX6_255 : Cond.methodLink RX6 255 yX3_fit ∈ xG := xm 637 (by decide +kernel) (by decide +kernel)
theorem kX3_22 : Cond.methodLink RX3 22 yX1_runWeek ∈ xG := xm 641 (by decide +kernel) (by decide +kernel)
theorem kX3_28 : Cond.methodLink RX3 28 yX3_fitsWeek ∈ xG := xm 642 (by decide +kernel) (by decide +kernel)
theorem kL_131 : Cond.methodLink RL 131 yX6_strengths ∈ xG := xm 646 (by decide +kernel) (by decide +kernel)
theorem kX6_259 : Cond.methodLink RX6 259 yX6_strengthsAsSeen ∈ xG := xm 650 (by decide +kernel) (by decide +kernel)
theorem kL_135 : Cond.methodLink RL 135 yX6_ask ∈ xG := xm 654 (by decide +kernel) (by decide +kernel)
theorem kX6_262 : Cond.methodLink RX6 262 yX6_noteOutcomes ∈ xG := xm 658 (by decide +kernel) (by decide +kernel)
theorem kX6_265 : Cond.methodLink RX6 265 yX6_leftAtWorst ∈ xG := xm 662 (by decide +kernel) (by decide +kernel)
theorem kX6_268 : Cond.methodLink RX6 268 yJ9_max_7cf53 ∈ xG := xm 666 (by decide +kernel) (by decide +kernel)
theorem kL_139 : Cond.methodLink RL 139 yX6_drift ∈ xG := xm 667 (by decide +kernel) (by decide +kernel)
theorem kX6_271 : Cond.methodLink RX6 271 yX1_runWeekOf ∈ xG := xm 672 (by decide +kernel) (by decide +kernel)
theorem kL_143 : Cond.methodLink RL 143 yX6_keep ∈ xG := xm 676 (by decide +kernel) (by decide +kernel)
theorem kL_147 : Cond.methodLink RL 147 yX6_back ∈ xG := xm 680 (by decide +kernel) (by decide +kernel)
theorem kL_151 : Cond.methodLink RL 151 yX6_sheet ∈ xG := xm 684 (by decide +kernel) (by decide +kernel)
theorem kX6_274 : Cond.methodLink RX6 274 yX2_renew ∈ xG := xm 688 (by decide +kernel) (by decide +kernel)
theorem kL_155 : Cond.methodLink RL 155 yX6_lay ∈ xG := xm 692 (by decide +kernel) (by decide +kernel)
theorem kX6_277 : Cond.methodLink RX6 277 yX2_isThere ∈ xG := xm 696 (by decide +kernel) (by decide +kernel)
theorem kX6_281 : Cond.methodLink RX6 281 yX2_hasCell ∈ xG := xm 700 (by decide +kernel) (by decide +kernel)
theorem kX6_284 : Cond.methodLink RX6 284 yX2_put ∈ xG := xm 704 (by decide +kernel) (by decide +kernel)
theorem kL_159 : Cond.methodLink RL 159 yX6_read ∈ xG := xm 708 (by decide +kernel) (by decide +kernel)
theorem kX6_287 : Cond.methodLink RX6 287 yX2_pairFault ∈ xG := xm 712 (by decide +kernel) (by decide +kernel)
theorem kX2_22 : Cond.methodLink RX2 22 yX2_isThere ∈ xG := xm 716 (by decide +kernel) (by decide +kernel)
theorem kX2_26 : Cond.methodLink RX2 26 yX2_hasCell ∈ xG := xm 717 (by decide +kernel) (by decide +kernel)
theorem kL_164 : Cond.methodLink RL 164 yX6_torn ∈ xG := xm 718 (by decide +kernel) (by decide +kernel)
theorem kL_168 : Cond.methodLink RL 168 yX6_count ∈ xG := xm 722 (by decide +kernel) (by decide +kernel)
theorem kX6_297 : Cond.methodLink RX6 297 yX1_sumOverTowns ∈ xG := xm 726 (by decide +kernel) (by decide +kernel)
theorem kL_12 : Cond.methodLink RL 12 yX7_init ∈ xG := xm 729 (by decide +kernel) (by decide +kernel)
theorem kL_17 : Cond.methodLink RL 17 yX7_feed ∈ xG := xm 821 (by decide +kernel) (by decide +kernel)
theorem kX7_53 : Cond.methodLink RX7 53 yX7_in ∈ xG := xm 826 (by decide +kernel) (by decide +kernel)
theorem kL_21 : Cond.methodLink RL 21 yX7_end ∈ xG := xm 829 (by decide +kernel) (by decide +kernel)
theorem kL_26 : Cond.methodLink RL 26 yX7_text ∈ xG := xm 833 (by decide +kernel) (by decide +kernel)
theorem kX7_94 : Cond.methodLink RX7 94 yX7_step ∈ xG := xm 837 (by decide +kernel) (by decide +kernel)
theorem kX7_75 : Cond.methodLink RX7 75 yX7_byteAt ∈ xG := xm 841 (by decide +kernel) (by decide +kernel)
theorem kX7_90 : Cond.methodLink RX7 90 yX7_fails ∈ xG := xm 849 (by decide +kernel) (by decide +kernel)
theorem kX7_119 : Cond.methodLink RX7 119 yX7_readLine ∈ xG := xm 853 (by decide +kernel) (by decide +kernel)
theorem kX7_111 : Cond.methodLink RX7 111 yX7_nameHere ∈ xG := xm 857 (by decide +kernel) (by decide +kernel)
theorem kX7_116 : Cond.methodLink RX7 116 yX7_readMore ∈ xG := xm 862 (by decide +kernel) (by decide +kernel)
theorem kX7_97 : Cond.methodLink RX7 97 yX7_number ∈ xG := xm 866 (by decide +kernel) (by decide +kernel)
theorem kX7_107 : Cond.methodLink RX7 107 yX7_townHere ∈ xG := xm 870 (by decide +kernel) (by decide +kernel)
theorem kL_30 : Cond.methodLink RL 30 yX7_fault ∈ xG := xm 874 (by decide +kernel) (by decide +kernel)
theorem kL_34 : Cond.methodLink RL 34 yX7_rule ∈ xG := xm 878 (by decide +kernel) (by decide +kernel)
theorem kX7_151 : Cond.methodLink RX7 151 yX7_placeOn ∈ xG := xm 882 (by decide +kernel) (by decide +kernel)
theorem kX7_161 : Cond.methodLink RX7 161 yX7_losersOn ∈ xG := xm 886 (by decide +kernel) (by decide +kernel)
theorem kX7_164 : Cond.methodLink RX7 164 yX7_owedOn ∈ xG := xm 890 (by decide +kernel) (by decide +kernel)
theorem kL_39 : Cond.methodLink RL 39 yX7_town ∈ xG := xm 894 (by decide +kernel) (by decide +kernel)
theorem kX7_131 : Cond.methodLink RX7 131 yX7_isTown ∈ xG := xm 898 (by decide +kernel) (by decide +kernel)
theorem kX7_135 : Cond.methodLink RX7 135 yX7_playsOn ∈ xG := xm 902 (by decide +kernel) (by decide +kernel)
theorem kL_43 : Cond.methodLink RL 43 yX7_fixture ∈ xG := xm 906 (by decide +kernel) (by decide +kernel)
theorem kX7_167 : Cond.methodLink RX7 167 yX7_isFixture ∈ xG := xm 910 (by decide +kernel) (by decide +kernel)
theorem kL_47 : Cond.methodLink RL 47 yX7_game ∈ xG := xm 914 (by decide +kernel) (by decide +kernel)
theorem kX7_170 : Cond.methodLink RX7 170 yX7_isPair ∈ xG := xm 918 (by decide +kernel) (by decide +kernel)
theorem kX7_138 : Cond.methodLink RX7 138 yX7_gameOn ∈ xG := xm 922 (by decide +kernel) (by decide +kernel)
theorem kL_52 : Cond.methodLink RL 52 yX7_alter ∈ xG := xm 926 (by decide +kernel) (by decide +kernel)
theorem kX7_176 : Cond.methodLink RX7 176 yX7_puts ∈ xG := xm 931 (by decide +kernel) (by decide +kernel)
theorem kL_56 : Cond.methodLink RL 56 yX7_lend ∈ xG := xm 935 (by decide +kernel) (by decide +kernel)
theorem kX7_182 : Cond.methodLink RX7 182 yX7_lendsOn ∈ xG := xm 940 (by decide +kernel) (by decide +kernel)
theorem kL_60 : Cond.methodLink RL 60 yX7_book ∈ xG := xm 944 (by decide +kernel) (by decide +kernel)
theorem kX7_186 : Cond.methodLink RX7 186 yX7_books ∈ xG := xm 948 (by decide +kernel) (by decide +kernel)
theorem kL_64 : Cond.methodLink RL 64 yX7_strike ∈ xG := xm 952 (by decide +kernel) (by decide +kernel)
theorem kL_68 : Cond.methodLink RL 68 yX7_weeks ∈ xG := xm 956 (by decide +kernel) (by decide +kernel)
theorem kX7_191 : Cond.methodLink RX7 191 yX7_weekOn ∈ xG := xm 961 (by decide +kernel) (by decide +kernel)
theorem kX7_154 : Cond.methodLink RX7 154 yX7_playedOn ∈ xG := xm 965 (by decide +kernel) (by decide +kernel)
theorem kX7_158 : Cond.methodLink RX7 158 yX7_yearsEnd ∈ xG := xm 969 (by decide +kernel) (by decide +kernel)
theorem kL_72 : Cond.methodLink RL 72 yX7_runs ∈ xG := xm 973 (by decide +kernel) (by decide +kernel)
theorem kX7_201 : Cond.methodLink RX7 201 yX7_weeksGo ∈ xG := xm 978 (by decide +kernel) (by decide +kernel)
theorem kX7_195 : Cond.methodLink RX7 195 yX7_copies ∈ xG := xm 982 (by decide +kernel) (by decide +kernel)
theorem kL_76 : Cond.methodLink RL 76 yX7_ahead ∈ xG := xm 986 (by decide +kernel) (by decide +kernel)
theorem kL_80 : Cond.methodLink RL 80 yX7_loser ∈ xG := xm 991 (by decide +kernel) (by decide +kernel)
theorem kL_84 : Cond.methodLink RL 84 yX7_loses ∈ xG := xm 995 (by decide +kernel) (by decide +kernel)
theorem kX7_206 : Cond.methodLink RX7 206 yX7_firstLoss ∈ xG := xm 999 (by decide +kernel) (by decide +kernel)
theorem kL_88 : Cond.methodLink RL 88 yX7_order ∈ xG := xm 1003 (by decide +kernel) (by decide +kernel)
theorem kX7_214 : Cond.methodLink RX7 214 yX7_ordered ∈ xG := xm 1010 (by decide +kernel) (by decide +kernel)
theorem kL_92 : Cond.methodLink RL 92 yX7_loan ∈ xG := xm 1014 (by decide +kernel) (by decide +kernel)
theorem kL_96 : Cond.methodLink RL 96 yX7_swap ∈ xG := xm 1018 (by decide +kernel) (by decide +kernel)
theorem kL_100 : Cond.methodLink RL 100 yX7_skip ∈ xG := xm 1022 (by decide +kernel) (by decide +kernel)
theorem kL_104 : Cond.methodLink RL 104 yX7_most ∈ xG := xm 1026 (by decide +kernel) (by decide +kernel)
theorem kL_108 : Cond.methodLink RL 108 yX7_kind ∈ xG := xm 1030 (by decide +kernel) (by decide +kernel)
theorem kL_113 : Cond.methodLink RL 113 yX7_luck ∈ xG := xm 1034 (by decide +kernel) (by decide +kernel)
theorem kX7_223 : Cond.methodLink RX7 223 yX7_byRain ∈ xG := xm 1039 (by decide +kernel) (by decide +kernel)
theorem kX7_217 : Cond.methodLink RX7 217 yX7_lowest ∈ xG := xm 1043 (by decide +kernel) (by decide +kernel)
theorem kL_118 : Cond.methodLink RL 118 yX7_mean ∈ xG := xm 1047 (by decide +kernel) (by decide +kernel)
theorem kL_122 : Cond.methodLink RL 122 yX7_see ∈ xG := xm 1051 (by decide +kernel) (by decide +kernel)
theorem kL_126 : Cond.methodLink RL 126 yX7_forget ∈ xG := xm 1055 (by decide +kernel) (by decide +kernel)
theorem kL_130 : Cond.methodLink RL 130 yX7_kinds ∈ xG := xm 1059 (by decide +kernel) (by decide +kernel)
theorem kX7_232 : Cond.methodLink RX7 232 yX7_numbersAt ∈ xG := xm 1063 (by decide +kernel) (by decide +kernel)
theorem kX7_229 : Cond.methodLink RX7 229 yX7_isAsSeen ∈ xG := xm 1067 (by decide +kernel) (by decide +kernel)
theorem kL_134 : Cond.methodLink RL 134 yX7_strengths ∈ xG := xm 1071 (by decide +kernel) (by decide +kernel)
theorem kL_138 : Cond.methodLink RL 138 yX7_ask ∈ xG := xm 1075 (by decide +kernel) (by decide +kernel)
theorem kL_142 : Cond.methodLink RL 142 yX7_drift ∈ xG := xm 1079 (by decide +kernel) (by decide +kernel)
theorem kL_146 : Cond.methodLink RL 146 yX7_keep ∈ xG := xm 1084 (by decide +kernel) (by decide +kernel)
theorem kL_150 : Cond.methodLink RL 150 yX7_back ∈ xG := xm 1088 (by decide +kernel) (by decide +kernel)
theorem kL_154 : Cond.methodLink RL 154 yX7_sheet ∈ xG := xm 1092 (by decide +kernel) (by decide +kernel)
theorem kL_158 : Cond.methodLink RL 158 yX7_lay ∈ xG := xm 1096 (by decide +kernel) (by decide +kernel)
theorem kL_163 : Cond.methodLink RL 163 yX7_read ∈ xG := xm 1100 (by decide +kernel) (by decide +kernel)
theorem kL_167 : Cond.methodLink RL 167 yX7_torn ∈ xG := xm 1104 (by decide +kernel) (by decide +kernel)
theorem kL_171 : Cond.methodLink RL 171 yX7_count ∈ xG := xm 1108 (by decide +kernel) (by decide +kernel)
theorem fX4_7 : FL RX4 7 4 0 := ⟨by decide, by decide, xm 35 (by decide +kernel) (by decide +kernel)⟩
theorem fX4_13 : FL RX4 13 4 1 := ⟨by decide, by decide, xm 36 (by decide +kernel) (by decide +kernel)⟩
theorem fX6_80 : FL RX6 80 4 1 := ⟨by decide, by decide, xm 37 (by decide +kernel) (by decide +kernel)⟩
theorem fX5_85 : FL RX5 85 4 1 := ⟨by decide, by decide, xm 38 (by decide +kernel) (by decide +kernel)⟩
theorem fX5_12 : FL RX5 12 5 0 := ⟨by decide, by decide, xm 45 (by decide +kernel) (by decide +kernel)⟩
theorem fX6_16 : FL RX6 16 5 0 := ⟨by decide, by decide, xm 46 (by decide +kernel) (by decide +kernel)⟩
theorem fX5_23 : FL RX5 23 5 1 := ⟨by decide, by decide, xm 47 (by decide +kernel) (by decide +kernel)⟩
theorem fX5_37 : FL RX5 37 5 2 := ⟨by decide, by decide, xm 48 (by decide +kernel) (by decide +kernel)⟩
theorem fX5_92 : FL RX5 92 5 3 := ⟨by decide, by decide, xm 49 (by decide +kernel) (by decide +kernel)⟩
theorem fX5_68 : FL RX5 68 5 4 := ⟨by decide, by decide, xm 50 (by decide +kernel) (by decide +kernel)⟩
theorem fX5_27 : FL RX5 27 5 5 := ⟨by decide, by decide, xm 51 (by decide +kernel) (by decide +kernel)⟩
theorem fX6_88 : FL RX6 88 5 5 := ⟨by decide, by decide, xm 52 (by decide +kernel) (by decide +kernel)⟩
theorem fX5_30 : FL RX5 30 5 6 := ⟨by decide, by decide, xm 53 (by decide +kernel) (by decide +kernel)⟩
theorem fX6_91 : FL RX6 91 5 6 := ⟨by decide, by decide, xm 54 (by decide +kernel) (by decide +kernel)⟩
theorem fX1_9 : FL RX1 9 1 0 := ⟨by decide, by decide, xm 76 (by decide +kernel) (by decide +kernel)⟩
theorem fX6_123 : FL RX6 123 1 0 := ⟨by decide, by decide, xm 77 (by decide +kernel) (by decide +kernel)⟩
theorem fX1_15 : FL RX1 15 1 1 := ⟨by decide, by decide, xm 78 (by decide +kernel) (by decide +kernel)⟩
theorem fX6_126 : FL RX6 126 1 1 := ⟨by decide, by decide, xm 79 (by decide +kernel) (by decide +kernel)⟩
theorem fX1_18 : FL RX1 18 1 2 := ⟨by decide, by decide, xm 80 (by decide +kernel) (by decide +kernel)⟩
theorem fX6_129 : FL RX6 129 1 2 := ⟨by decide, by decide, xm 81 (by decide +kernel) (by decide +kernel)⟩
theorem fX1_21 : FL RX1 21 1 3 := ⟨by decide, by decide, xm 82 (by decide +kernel) (by decide +kernel)⟩
theorem fX6_132 : FL RX6 132 1 3 := ⟨by decide, by decide, xm 83 (by decide +kernel) (by decide +kernel)⟩
theorem fX1_24 : FL RX1 24 1 4 := ⟨by decide, by decide, xm 84 (by decide +kernel) (by decide +kernel)⟩
theorem fX6_142 : FL RX6 142 1 4 := ⟨by decide, by decide, xm 85 (by decide +kernel) (by decide +kernel)⟩
theorem fX1_27 : FL RX1 27 1 5 := ⟨by decide, by decide, xm 86 (by decide +kernel) (by decide +kernel)⟩
theorem fX6_145 : FL RX6 145 1 5 := ⟨by decide, by decide, xm 87 (by decide +kernel) (by decide +kernel)⟩
theorem fX1_30 : FL RX1 30 1 6 := ⟨by decide, by decide, xm 88 (by decide +kernel) (by decide +kernel)⟩
theorem fX6_101 : FL RX6 101 1 6 := ⟨by decide, by decide, xm 89 (by decide +kernel) (by decide +kernel)⟩
theorem fX1_34 : FL RX1 34 1 7 := ⟨by decide, by decide, xm 90 (by decide +kernel) (by decide +kernel)⟩
theorem fX6_104 : FL RX6 104 1 7 := ⟨by decide, by decide, xm 91 (by decide +kernel) (by decide +kernel)⟩
theorem fX1_37 : FL RX1 37 1 8 := ⟨by decide, by decide, xm 92 (by decide +kernel) (by decide +kernel)⟩
theorem fX6_107 : FL RX6 107 1 8 := ⟨by decide, by decide, xm 93 (by decide +kernel) (by decide +kernel)⟩
theorem fX3_11 : FL RX3 11 3 0 := ⟨by decide, by decide, xm 123 (by decide +kernel) (by decide +kernel)⟩
theorem fX3_15 : FL RX3 15 3 1 := ⟨by decide, by decide, xm 124 (by decide +kernel) (by decide +kernel)⟩
theorem fX3_18 : FL RX3 18 3 2 := ⟨by decide, by decide, xm 125 (by decide +kernel) (by decide +kernel)⟩
theorem fX6_98 : FL RX6 98 3 2 := ⟨by decide, by decide, xm 126 (by decide +kernel) (by decide +kernel)⟩
theorem fX0_9 : FL RX0 9 0 0 := ⟨by decide, by decide, xm 141 (by decide +kernel) (by decide +kernel)⟩
theorem fX6_182 : FL RX6 182 0 0 := ⟨by decide, by decide, xm 142 (by decide +kernel) (by decide +kernel)⟩
theorem fX0_15 : FL RX0 15 0 1 := ⟨by decide, by decide, xm 143 (by decide +kernel) (by decide +kernel)⟩
theorem fX6_179 : FL RX6 179 0 1 := ⟨by decide, by decide, xm 144 (by decide +kernel) (by decide +kernel)⟩
theorem fX2_9 : FL RX2 9 2 0 := ⟨by decide, by decide, xm 155 (by decide +kernel) (by decide +kernel)⟩
theorem fX6_293 : FL RX6 293 2 0 := ⟨by decide, by decide, xm 156 (by decide +kernel) (by decide +kernel)⟩
theorem fX2_19 : FL RX2 19 2 1 := ⟨by decide, by decide, xm 157 (by decide +kernel) (by decide +kernel)⟩
theorem fX2_15 : FL RX2 15 2 2 := ⟨by decide, by decide, xm 158 (by decide +kernel) (by decide +kernel)⟩
theorem fX6_296 : FL RX6 296 2 2 := ⟨by decide, by decide, xm 159 (by decide +kernel) (by decide +kernel)⟩
theorem fX6_12 : FL RX6 12 6 0 := ⟨by decide, by decide, xm 167 (by decide +kernel) (by decide +kernel)⟩
theorem fX6_20 : FL RX6 20 6 1 := ⟨by decide, by decide, xm 168 (by decide +kernel) (by decide +kernel)⟩
theorem fX6_24 : FL RX6 24 6 2 := ⟨by decide, by decide, xm 169 (by decide +kernel) (by decide +kernel)⟩
theorem fX6_28 : FL RX6 28 6 3 := ⟨by decide, by decide, xm 170 (by decide +kernel) (by decide +kernel)⟩
theorem fX6_31 : FL RX6 31 6 4 := ⟨by decide, by decide, xm 171 (by decide +kernel) (by decide +kernel)⟩
theorem fX6_35 : FL RX6 35 6 5 := ⟨by decide, by decide, xm 172 (by decide +kernel) (by decide +kernel)⟩
theorem fX6_41 : FL RX6 41 6 6 := ⟨by decide, by decide, xm 173 (by decide +kernel) (by decide +kernel)⟩
theorem fX6_48 : FL RX6 48 6 7 := ⟨by decide, by decide, xm 174 (by decide +kernel) (by decide +kernel)⟩
theorem fX6_55 : FL RX6 55 6 8 := ⟨by decide, by decide, xm 175 (by decide +kernel) (by decide +kernel)⟩
theorem fX6_59 : FL RX6 59 6 9 := ⟨by decide, by decide, xm 176 (by decide +kernel) (by decide +kernel)⟩
theorem fX6_63 : FL RX6 63 6 10 := ⟨by decide, by decide, xm 177 (by decide +kernel) (by decide +kernel)⟩
theorem fX6_66 : FL RX6 66 6 11 := ⟨by decide, by decide, xm 178 (by decide +kernel) (by decide +kernel)⟩
theorem fX6_290 : FL RX6 290 6 12 := ⟨by decide, by decide, xm 179 (by decide +kernel) (by decide +kernel)⟩
theorem fX7_7 : FL RX7 7 7 0 := ⟨by decide, by decide, xm 733 (by decide +kernel) (by decide +kernel)⟩
theorem fX7_125 : FL RX7 125 7 1 := ⟨by decide, by decide, xm 734 (by decide +kernel) (by decide +kernel)⟩
theorem fX7_13 : FL RX7 13 7 2 := ⟨by decide, by decide, xm 735 (by decide +kernel) (by decide +kernel)⟩
theorem fX7_104 : FL RX7 104 7 3 := ⟨by decide, by decide, xm 736 (by decide +kernel) (by decide +kernel)⟩
theorem fX7_101 : FL RX7 101 7 4 := ⟨by decide, by decide, xm 737 (by decide +kernel) (by decide +kernel)⟩
theorem fX7_16 : FL RX7 16 7 5 := ⟨by decide, by decide, xm 738 (by decide +kernel) (by decide +kernel)⟩
theorem fX7_57 : FL RX7 57 7 6 := ⟨by decide, by decide, xm 739 (by decide +kernel) (by decide +kernel)⟩
theorem fX7_122 : FL RX7 122 7 7 := ⟨by decide, by decide, xm 740 (by decide +kernel) (by decide +kernel)⟩
theorem fX7_60 : FL RX7 60 7 8 := ⟨by decide, by decide, xm 741 (by decide +kernel) (by decide +kernel)⟩
theorem fX7_66 : FL RX7 66 7 9 := ⟨by decide, by decide, xm 742 (by decide +kernel) (by decide +kernel)⟩
theorem fX7_72 : FL RX7 72 7 10 := ⟨by decide, by decide, xm 743 (by decide +kernel) (by decide +kernel)⟩
theorem fX7_63 : FL RX7 63 7 11 := ⟨by decide, by decide, xm 744 (by decide +kernel) (by decide +kernel)⟩
theorem fX7_69 : FL RX7 69 7 12 := ⟨by decide, by decide, xm 745 (by decide +kernel) (by decide +kernel)⟩
theorem fX7_79 : FL RX7 79 7 13 := ⟨by decide, by decide, xm 746 (by decide +kernel) (by decide +kernel)⟩
theorem fX7_19 : FL RX7 19 7 14 := ⟨by decide, by decide, xm 747 (by decide +kernel) (by decide +kernel)⟩
theorem fX7_22 : FL RX7 22 7 15 := ⟨by decide, by decide, xm 748 (by decide +kernel) (by decide +kernel)⟩
theorem fX7_142 : FL RX7 142 7 16 := ⟨by decide, by decide, xm 749 (by decide +kernel) (by decide +kernel)⟩
theorem fX7_148 : FL RX7 148 7 17 := ⟨by decide, by decide, xm 750 (by decide +kernel) (by decide +kernel)⟩
theorem fX7_145 : FL RX7 145 7 18 := ⟨by decide, by decide, xm 751 (by decide +kernel) (by decide +kernel)⟩
theorem fX7_25 : FL RX7 25 7 19 := ⟨by decide, by decide, xm 752 (by decide +kernel) (by decide +kernel)⟩
theorem fX7_29 : FL RX7 29 7 20 := ⟨by decide, by decide, xm 753 (by decide +kernel) (by decide +kernel)⟩
theorem fX7_32 : FL RX7 32 7 21 := ⟨by decide, by decide, xm 754 (by decide +kernel) (by decide +kernel)⟩
theorem fX7_128 : FL RX7 128 7 22 := ⟨by decide, by decide, xm 755 (by decide +kernel) (by decide +kernel)⟩
theorem fX7_35 : FL RX7 35 7 23 := ⟨by decide, by decide, xm 756 (by decide +kernel) (by decide +kernel)⟩
theorem fX7_38 : FL RX7 38 7 24 := ⟨by decide, by decide, xm 757 (by decide +kernel) (by decide +kernel)⟩
theorem fX7_42 : FL RX7 42 7 25 := ⟨by decide, by decide, xm 758 (by decide +kernel) (by decide +kernel)⟩
theorem fX7_45 : FL RX7 45 7 26 := ⟨by decide, by decide, xm 759 (by decide +kernel) (by decide +kernel)⟩
theorem fX7_48 : FL RX7 48 7 27 := ⟨by decide, by decide, xm 760 (by decide +kernel) (by decide +kernel)⟩
theorem fX7_236 : FL RX7 236 7 28 := ⟨by decide, by decide, xm 761 (by decide +kernel) (by decide +kernel)⟩
theorem qX6_220 : Cond.constantLong RX6 220 (Int64.ofInt (-1)) ∈ xG := xm 591 (by decide +kernel) (by decide +kernel)
theorem qJ6_265 : Cond.constant RJ6 265 (Int32.ofInt 1431655765) ∈ xG := xm 602 (by decide +kernel) (by decide +kernel)
theorem qJ6_266 : Cond.constant RJ6 266 (Int32.ofInt 858993459) ∈ xG := xm 603 (by decide +kernel) (by decide +kernel)
theorem qJ6_267 : Cond.constant RJ6 267 (Int32.ofInt 252645135) ∈ xG := xm 604 (by decide +kernel) (by decide +kernel)
theorem qX6_270 : Cond.constant RX6 270 (Int32.ofInt 1103515245) ∈ xG := xm 671 (by decide +kernel) (by decide +kernel)
theorem qX7_51 : Cond.constantLong RX7 51 (Int64.ofInt 127) ∈ xG := xm 825 (by decide +kernel) (by decide +kernel)
theorem qX7_82 : Cond.constantLong RX7 82 (Int64.ofInt 97) ∈ xG := xm 845 (by decide +kernel) (by decide +kernel)
theorem qX7_84 : Cond.constantLong RX7 84 (Int64.ofInt 122) ∈ xG := xm 846 (by decide +kernel) (by decide +kernel)
theorem qX7_86 : Cond.constantLong RX7 86 (Int64.ofInt 48) ∈ xG := xm 847 (by decide +kernel) (by decide +kernel)
theorem qX7_88 : Cond.constantLong RX7 88 (Int64.ofInt 57) ∈ xG := xm 848 (by decide +kernel) (by decide +kernel)
theorem qX7_114 : Cond.constantLong RX7 114 (Int64.ofInt 4) ∈ xG := xm 861 (by decide +kernel) (by decide +kernel)
theorem qX7_174 : Cond.constantLong RX7 174 (Int64.ofInt 3) ∈ xG := xm 930 (by decide +kernel) (by decide +kernel)
theorem qX7_180 : Cond.constantLong RX7 180 (Int64.ofInt 20) ∈ xG := xm 939 (by decide +kernel) (by decide +kernel)
theorem qX7_189 : Cond.constantLong RX7 189 (Int64.ofInt 30) ∈ xG := xm 960 (by decide +kernel) (by decide +kernel)
theorem qX7_199 : Cond.constantLong RX7 199 (Int64.ofInt 60) ∈ xG := xm 977 (by decide +kernel) (by decide +kernel)
theorem qX7_204 : Cond.constantLong RX7 204 (Int64.ofInt 2) ∈ xG := xm 990 (by decide +kernel) (by decide +kernel)
theorem qX7_209 : Cond.constantLong RX7 209 (Int64.ofInt 10) ∈ xG := xm 1007 (by decide +kernel) (by decide +kernel)
theorem qX7_211 : Cond.constantLong RX7 211 (Int64.ofInt 14) ∈ xG := xm 1008 (by decide +kernel) (by decide +kernel)
theorem qX7_213 : Cond.constant RX7 213 (Int32.ofInt 1000000) ∈ xG := xm 1009 (by decide +kernel) (by decide +kernel)
theorem qX7_221 : Cond.constantLong RX7 221 (Int64.ofInt 8) ∈ xG := xm 1038 (by decide +kernel) (by decide +kernel)
theorem qX7_227 : Cond.constantLong RX7 227 (Int64.ofInt (-1)) ∈ xG := xm 1046 (by decide +kernel) (by decide +kernel)
theorem qX7_235 : Cond.constant RX7 235 (Int32.ofInt 1103515245) ∈ xG := xm 1083 (by decide +kernel) (by decide +kernel)
end
section
/-! ===== the world behind the two constructors: 0 the class's object, 50 the reference's ===== -/
def S0 : List Shp := [.inl 6, .inl 5, .inl 4, .inr (1, 160), .inl 1, .inr (0, 5), .inr (0, 5), .inr (0, 5), .inr (0, 5), .inr (0, 10), .inr (0, 10), .inl 1, .inr (0, 5), .inr (0, 5), .inr (0, 5), .inr (0, 5), .inr (0, 10), .inr (0, 10), .inr (3, 2), .inr (2, 2), .inr (4, 4), .inl 3, .inr (0, 6), .inr (0, 6), .inl 0, .inr (0, 5), .inr (0, 441), .inr (0, 6), .inl 1, .inr (0, 5), .inr (0, 5), .inr (0, 5), .inr (0, 5), .inr (0, 10), .inr (0, 10), .inl 1, .inr (0, 5), .inr (0, 5), .inr (0, 5), .inr (0, 5), .inr (0, 10), .inr (0, 10), .inl 2, .inr (0, 40), .inl 2, .inr (0, 40), .inl 2, .inr (0, 40), .inl 2, .inr (0, 40), .inl 7, .inr (0, 252), .inr (0, 42), .inr (0, 160), .inr (0, 6), .inr (0, 26), .inr (0, 5), .inr (0, 12), .inr (0, 441), .inr (2, 2), .inr (0, 4), .inr (0, 4), .inr (0, 160)]
def R0t : List (List (Option Nat)) := [[some 1, some 2, some 4, some 11, some 18, some 19, some 20, some 21, some 24, some 25, some 26, some 27], [some 2], [some 3], [], [some 5, some 6, some 7, some 8, some 9, some 10], [], [], [], [], [], [], [some 12, some 13, some 14, some 15, some 16, some 17], [], [], [], [], [], [], [some 28, some 35], [], [some 42, some 44, some 46, some 48], [some 22, some 23], [], [], [], [], [], [], [some 29, some 30, some 31, some 32, some 33, some 34], [], [], [], [], [], [], [some 36, some 37, some 38, some 39, some 40, some 41], [], [], [], [], [], [], [some 43], [], [some 45], [], [some 47], [], [some 49], [], [some 51, none, some 52, none, none, some 53, none, none, none, none, none, none, none, none, some 54, some 55, none, none, none, none, some 56, some 57, none, some 58, some 59, some 60, some 61, some 62], [], [], [], [], [], [], [], [], [], [], [], []]
def R0 (a b : Nat) : Option Nat := (R0t.getD a []).getD b none
def isLg (o : Nat) : Prop := o = 4 ∨ o = 11 ∨ o = 28 ∨ o = 35
def isSt (o : Nat) : Prop := o = 42 ∨ o = 44 ∨ o = 46 ∨ o = 48
theorem lg_s {o : Nat} (h : isLg o) : S0[o]? = some (.inl 1) := by rcases h with rfl | rfl | rfl | rfl <;> rfl
theorem lg_r0 {o : Nat} (h : isLg o) : R0 o 0 = some (o + 1) := by rcases h with rfl | rfl | rfl | rfl <;> rfl
theorem lg_a0 {o : Nat} (h : isLg o) : S0[o + 1]? = some (.inr (0, 5)) := by rcases h with rfl | rfl | rfl | rfl <;> rfl
theorem lg_r1 {o : Nat} (h : isLg o) : R0 o 1 = some (o + 2) := by rcases h with rfl | rfl | rfl | rfl <;> rfl
theorem lg_a1 {o : Nat} (h : isLg o) : S0[o + 2]? = some (.inr (0, 5)) := by rcases h with rfl | rfl | rfl | rfl <;> rfl
theorem lg_r2 {o : Nat} (h : isLg o) : R0 o 2 = some (o + 3) := by rcases h with rfl | rfl | rfl | rfl <;> rfl
theorem lg_a2 {o : Nat} (h : isLg o) : S0[o + 3]? = some (.inr (0, 5)) := by rcases h with rfl | rfl | rfl | rfl <;> rfl
theorem lg_r3 {o : Nat} (h : isLg o) : R0 o 3 = some (o + 4) := by rcases h with rfl | rfl | rfl | rfl <;> rfl
theorem lg_a3 {o : Nat} (h : isLg o) : S0[o + 4]? = some (.inr (0, 5)) := by rcases h with rfl | rfl | rfl | rfl <;> rfl
theorem lg_r4 {o : Nat} (h : isLg o) : R0 o 4 = some (o + 5) := by rcases h with rfl | rfl | rfl | rfl <;> rfl
theorem lg_a4 {o : Nat} (h : isLg o) : S0[o + 5]? = some (.inr (0, 10)) := by rcases h with rfl | rfl | rfl | rfl <;> rfl
theorem lg_r5 {o : Nat} (h : isLg o) : R0 o 5 = some (o + 6) := by rcases h with rfl | rfl | rfl | rfl <;> rfl
theorem lg_a5 {o : Nat} (h : isLg o) : S0[o + 6]? = some (.inr (0, 10)) := by rcases h with rfl | rfl | rfl | rfl <;> rfl
theorem st_s {o : Nat} (h : isSt o) : S0[o]? = some (.inl 2) := by rcases h with rfl | rfl | rfl | rfl <;> rfl
theorem st_r0 {o : Nat} (h : isSt o) : R0 o 0 = some (o + 1) := by rcases h with rfl | rfl | rfl | rfl <;> rfl
theorem st_a0 {o : Nat} (h : isSt o) : S0[o + 1]? = some (.inr (0, 40)) := by rcases h with rfl | rfl | rfl | rfl <;> rfl
def QP (M : Mem) (r : Int) : Option Value → Hp → Prop := fun v hp => v = some (iv r) ∧ hp = (S0, R0, M)
def QJ (M : Mem) (r : Int) : Option Value → Hp → Prop := fun v hp => v = some (jv r) ∧ hp = (S0, R0, M)
def QI (P : Int → Mem → Prop) : Option Value → Hp → Prop := fun v hp => ∃ (r : Int) (M : Mem), v = some (iv r) ∧ hp = (S0, R0, M) ∧ P r M
def QL (P : Int → Mem → Prop) : Option Value → Hp → Prop := fun v hp => ∃ (r : Int) (M : Mem), v = some (jv r) ∧ hp = (S0, R0, M) ∧ P r M
def QV (P : Mem → Prop) : Option Value → Hp → Prop := fun v hp => ∃ M : Mem, v = none ∧ hp = (S0, R0, M) ∧ P M
/-- contracts in that world: nothing is made. CP: an int, nothing changes; CI: an int and a new memory; CV: a new memory; CJ, CL: a long -/
abbrev CP (g : GG) (T : XT) (d : Nat) (args : List Value) (M : Mem) (r : Int) : Prop := Con g T d 0 0 args (S0, R0, M) (QP M r)
abbrev CJ (g : GG) (T : XT) (d : Nat) (args : List Value) (M : Mem) (r : Int) : Prop := Con g T d 0 0 args (S0, R0, M) (QJ M r)
abbrev CI (g : GG) (T : XT) (d : Nat) (args : List Value) (M : Mem) (P : Int → Mem → Prop) : Prop := Con g T d 0 0 args (S0, R0, M) (QI P)
abbrev CL (g : GG) (T : XT) (d : Nat) (args : List Value) (M : Mem) (P : Int → Mem → Prop) : Prop := Con g T d 0 0 args (S0, R0, M) (QL P)
abbrev CV (g : GG) (T : XT) (d : Nat) (args : List Value) (M : Mem) (P : Mem → Prop) : Prop := Con g T d 0 0 args (S0, R0, M) (QV P)
abbrev kk0 (d : Nat) : XK := (d, (0, 0), (0, 0))
theorem qp_i {M M' : Mem} {r r' : Int} (h : r' = r) (h2 : M' = M) : QP M r (some (iv r')) (S0, R0, M') := ⟨by rw [h], by rw [h2]⟩
theorem qj_i {M M' : Mem} {r r' : Int} (h : r' = r) (h2 : M' = M) : QJ M r (some (jv r')) (S0, R0, M') := ⟨by rw [h], by rw [h2]⟩
theorem qi_i {P : Int → Mem → Prop} {M : Mem} {r : Int} (h : P r M) : QI P (some (iv r)) (S0, R0, M) := ⟨r, M, rfl, rfl, h⟩
theorem ql_i {P : Int → Mem → Prop} {M : Mem} {r : Int} (h : P r M) : QL P (some (jv r)) (S0, R0, M) := ⟨r, M, rfl, rfl, h⟩
theorem qv_i {P : Mem → Prop} {M : Mem} (h : P M) : QV P none (S0, R0, M) := ⟨M, rfl, rfl, h⟩
/-- the range of what is held, wherever a walk is -/
theorem x_rng {g : GG} {T : XT} {K : XK} {pc : Nat} {L : List (Option Value)} {st : List Value} {sh : List Shp} {rf : Nat → Nat → Option Nat} {M : Mem} {Q : Option Value → Hp → Prop} (k : (∀ i z, -2147483648 ≤ M i z ∧ M i z ≤ 2147483647) → X g T K pc L st (sh, rf, M) Q) : X g T K pc L st (sh, rf, M) Q := by
  intro p e s m args below meth c H ls locs C hI hS hl
  exact k hI.1.2 p e s m args below meth c H ls locs C hI hS hl
theorem x_Q {g : GG} {T : XT} {K : XK} {pc : Nat} {L : List (Option Value)} {st : List Value} {hp : Hp} {Q Q' : Option Value → Hp → Prop} (h : ∀ v hp', Q' v hp' → Q v hp') (k : X g T K pc L st hp Q') : X g T K pc L st hp Q := by
  intro p e s m args below meth c H ls locs C hI hS hl
  intro TT hT X
  obtain ⟨t, a1, o, b1, b2, ⟨⟨v, hp', e1, e2, e3⟩, e4⟩, b4⟩ := k p e s m args below meth c H ls locs C hI hS hl TT hT X
  exact ⟨t, a1, o, b1, b2, ⟨⟨v, hp', e1, h v hp' e2, e3⟩, e4⟩, b4⟩
section CALLS
variable {g : GG} {T T2 : XT} {D d pc idx i ci na : Nat} {L : List (Option Value)} {st stk : List Value} {Q : Option Value → Hp → Prop} {M : Mem}
theorem x_vp (n : Nat) (As : List Value) {r : Int} (hc : CP g T2 d (rv g i :: As) M r) (hM : MV T2 na) (hlink : Cond.methodLink T.1.cls idx T2.1 ∈ xG) (hd : decode T.2.1 pc = .ok (.invokevirtual idx, 3)) (hn : pc + 3 = n) (hs : S0[i]? = some (.inl ci)) (hci : ci < 8 ∧ xC ci = T2.1.cls) (hlen : As.length = na) (hstk : stk = As.reverse ++ rv g i :: st) (hcat : (st.map fun v => v.category).sum ≤ 8) (hroom : d + 1 ≤ D) (k : X g T (kk0 D) n L (iv r :: st) (S0, R0, M) Q) : X g T (kk0 D) pc L stk (S0, R0, M) Q := by
  refine x_callV n As hc hM hlink hd hn hs hci hlen hstk hcat ⟨hroom, Nat.le_refl _, Nat.le_refl _⟩ (fun v hp' hq => ?_)
  obtain ⟨rfl, rfl⟩ := hq
  exact k
theorem x_sp (n : Nat) (As : List Value) {r : Int} (hc : CP g T2 d As M r) (hM : MS T2 na) (hlink : Cond.methodLink T.1.cls idx T2.1 ∈ xG) (hd : decode T.2.1 pc = .ok (.invokestatic idx, 3)) (hn : pc + 3 = n) (hlen : As.length = na) (hstk : stk = As.reverse ++ st) (hcat : (st.map fun v => v.category).sum ≤ 8) (hroom : d + 1 ≤ D) (k : X g T (kk0 D) n L (iv r :: st) (S0, R0, M) Q) : X g T (kk0 D) pc L stk (S0, R0, M) Q := by
  refine x_callS n As hc hM hlink hd hn hlen hstk hcat ⟨hroom, Nat.le_refl _, Nat.le_refl _⟩ (fun v hp' hq => ?_)
  obtain ⟨rfl, rfl⟩ := hq
  exact k
theorem x_vj (n : Nat) (As : List Value) {r : Int} (hc : CJ g T2 d (rv g i :: As) M r) (hM : MV T2 na) (hlink : Cond.methodLink T.1.cls idx T2.1 ∈ xG) (hd : decode T.2.1 pc = .ok (.invokevirtual idx, 3)) (hn : pc + 3 = n) (hs : S0[i]? = some (.inl ci)) (hci : ci < 8 ∧ xC ci = T2.1.cls) (hlen : As.length = na) (hstk : stk = As.reverse ++ rv g i :: st) (hcat : (st.map fun v => v.category).sum ≤ 8) (hroom : d + 1 ≤ D) (k : X g T (kk0 D) n L (jv r :: st) (S0, R0, M) Q) : X g T (kk0 D) pc L stk (S0, R0, M) Q := by
  refine x_callV n As hc hM hlink hd hn hs hci hlen hstk hcat ⟨hroom, Nat.le_refl _, Nat.le_refl _⟩ (fun v hp' hq => ?_)
  obtain ⟨rfl, rfl⟩ := hq
  exact k
theorem x_sj (n : Nat) (As : List Value) {r : Int} (hc : CJ g T2 d As M r) (hM : MS T2 na) (hlink : Cond.methodLink T.1.cls idx T2.1 ∈ xG) (hd : decode T.2.1 pc = .ok (.invokestatic idx, 3)) (hn : pc + 3 = n) (hlen : As.length = na) (hstk : stk = As.reverse ++ st) (hcat : (st.map fun v => v.category).sum ≤ 8) (hroom : d + 1 ≤ D) (k : X g T (kk0 D) n L (jv r :: st) (S0, R0, M) Q) : X g T (kk0 D) pc L stk (S0, R0, M) Q := by
  refine x_callS n As hc hM hlink hd hn hlen hstk hcat ⟨hroom, Nat.le_refl _, Nat.le_refl _⟩ (fun v hp' hq => ?_)
  obtain ⟨rfl, rfl⟩ := hq
  exact k
theorem x_vi (n : Nat) (As : List Value) {P : Int → Mem → Prop} (hc : CI g T2 d (rv g i :: As) M P) (hM : MV T2 na) (hlink : Cond.methodLink T.1.cls idx T2.1 ∈ xG) (hd : decode T.2.1 pc = .ok (.invokevirtual idx, 3)) (hn : pc + 3 = n) (hs : S0[i]? = some (.inl ci)) (hci : ci < 8 ∧ xC ci = T2.1.cls) (hlen : As.length = na) (hstk : stk = As.reverse ++ rv g i :: st) (hcat : (st.map fun v => v.category).sum ≤ 8) (hroom : d + 1 ≤ D) (k : ∀ (r : Int) (M2 : Mem), P r M2 → X g T (kk0 D) n L (iv r :: st) (S0, R0, M2) Q) : X g T (kk0 D) pc L stk (S0, R0, M) Q := by
  refine x_callV n As hc hM hlink hd hn hs hci hlen hstk hcat ⟨hroom, Nat.le_refl _, Nat.le_refl _⟩ (fun v hp' hq => ?_)
  obtain ⟨r, M2, rfl, rfl, h⟩ := hq
  exact k r M2 h
theorem x_si (n : Nat) (As : List Value) {P : Int → Mem → Prop} (hc : CI g T2 d As M P) (hM : MS T2 na) (hlink : Cond.methodLink T.1.cls idx T2.1 ∈ xG) (hd : decode T.2.1 pc = .ok (.invokestatic idx, 3)) (hn : pc + 3 = n) (hlen : As.length = na) (hstk : stk = As.reverse ++ st) (hcat : (st.map fun v => v.category).sum ≤ 8) (hroom : d + 1 ≤ D) (k : ∀ (r : Int) (M2 : Mem), P r M2 → X g T (kk0 D) n L (iv r :: st) (S0, R0, M2) Q) : X g T (kk0 D) pc L stk (S0, R0, M) Q := by
  refine x_callS n As hc hM hlink hd hn hlen hstk hcat ⟨hroom, Nat.le_refl _, Nat.le_refl _⟩ (fun v hp' hq => ?_)
  obtain ⟨r, M2, rfl, rfl, h⟩ := hq
  exact k r M2 h
theorem x_vl (n : Nat) (As : List Value) {P : Int → Mem → Prop} (hc : CL g T2 d (rv g i :: As) M P) (hM : MV T2 na) (hlink : Cond.methodLink T.1.cls idx T2.1 ∈ xG) (hd : decode T.2.1 pc = .ok (.invokevirtual idx, 3)) (hn : pc + 3 = n) (hs : S0[i]? = some (.inl ci)) (hci : ci < 8 ∧ xC ci = T2.1.cls) (hlen : As.length = na) (hstk : stk = As.reverse ++ rv g i :: st) (hcat : (st.map fun v => v.category).sum ≤ 8) (hroom : d + 1 ≤ D) (k : ∀ (r : Int) (M2 : Mem), P r M2 → X g T (kk0 D) n L (jv r :: st) (S0, R0, M2) Q) : X g T (kk0 D) pc L stk (S0, R0, M) Q := by
  refine x_callV n As hc hM hlink hd hn hs hci hlen hstk hcat ⟨hroom, Nat.le_refl _, Nat.le_refl _⟩ (fun v hp' hq => ?_)
  obtain ⟨r, M2, rfl, rfl, h⟩ := hq
  exact k r M2 h
theorem x_sl (n : Nat) (As : List Value) {P : Int → Mem → Prop} (hc : CL g T2 d As M P) (hM : MS T2 na) (hlink : Cond.methodLink T.1.cls idx T2.1 ∈ xG) (hd : decode T.2.1 pc = .ok (.invokestatic idx, 3)) (hn : pc + 3 = n) (hlen : As.length = na) (hstk : stk = As.reverse ++ st) (hcat : (st.map fun v => v.category).sum ≤ 8) (hroom : d + 1 ≤ D) (k : ∀ (r : Int) (M2 : Mem), P r M2 → X g T (kk0 D) n L (jv r :: st) (S0, R0, M2) Q) : X g T (kk0 D) pc L stk (S0, R0, M) Q := by
  refine x_callS n As hc hM hlink hd hn hlen hstk hcat ⟨hroom, Nat.le_refl _, Nat.le_refl _⟩ (fun v hp' hq => ?_)
  obtain ⟨r, M2, rfl, rfl, h⟩ := hq
  exact k r M2 h
theorem x_vv (n : Nat) (As : List Value) {P : Mem → Prop} (hc : CV g T2 d (rv g i :: As) M P) (hM : MV T2 na) (hlink : Cond.methodLink T.1.cls idx T2.1 ∈ xG) (hd : decode T.2.1 pc = .ok (.invokevirtual idx, 3)) (hn : pc + 3 = n) (hs : S0[i]? = some (.inl ci)) (hci : ci < 8 ∧ xC ci = T2.1.cls) (hlen : As.length = na) (hstk : stk = As.reverse ++ rv g i :: st) (hcat : (st.map fun v => v.category).sum ≤ 8) (hroom : d + 1 ≤ D) (k : ∀ M2 : Mem, P M2 → X g T (kk0 D) n L st (S0, R0, M2) Q) : X g T (kk0 D) pc L stk (S0, R0, M) Q := by
  refine x_callV n As hc hM hlink hd hn hs hci hlen hstk hcat ⟨hroom, Nat.le_refl _, Nat.le_refl _⟩ (fun v hp' hq => ?_)
  obtain ⟨M2, rfl, rfl, h⟩ := hq
  exact k M2 h
theorem x_sv (n : Nat) (As : List Value) {P : Mem → Prop} (hc : CV g T2 d As M P) (hM : MS T2 na) (hlink : Cond.methodLink T.1.cls idx T2.1 ∈ xG) (hd : decode T.2.1 pc = .ok (.invokestatic idx, 3)) (hn : pc + 3 = n) (hlen : As.length = na) (hstk : stk = As.reverse ++ st) (hcat : (st.map fun v => v.category).sum ≤ 8) (hroom : d + 1 ≤ D) (k : ∀ M2 : Mem, P M2 → X g T (kk0 D) n L st (S0, R0, M2) Q) : X g T (kk0 D) pc L stk (S0, R0, M) Q := by
  refine x_callS n As hc hM hlink hd hn hlen hstk hcat ⟨hroom, Nat.le_refl _, Nat.le_refl _⟩ (fun v hp' hq => ?_)
  obtain ⟨M2, rfl, rfl, h⟩ := hq
  exact k M2 h
end CALLS
end
section
section SWITCH
variable {g : GG} {T : XT} {K : XK} {pc : Nat} {L : List (Option Value)} {st : List Value} {hp : Hp} {Q : Option Value → Hp → Prop} {x : Int}
theorem x_tsw (t0 : Nat) {dflt lo hi : Int} {offs : Array Int} {len : Nat} (hd : decode T.2.1 pc = .ok (.tableswitch dflt lo hi offs, len)) (h0 : (pc : Int) + dflt = (t0 : Int)) (hr : -2147483648 ≤ x ∧ x ≤ 2147483647) (kout : x < lo ∨ hi < x → X g T K t0 L st hp Q)
    (kin : ∀ c : Int, lo ≤ c → c ≤ hi → x = c → ∃ (off : Int) (tgt : Nat), offs[(c - lo).toNat]? = some off ∧ (pc : Int) + off = (tgt : Int) ∧ X g T K tgt L st hp Q) : X g T K pc L (iv x :: st) hp Q := by
  intro p e s m args below meth c H ls locs C hI hS hl
  have ht : (Int32.ofInt x).toInt = x := iT hr.1 hr.2
  by_cases h : x < lo ∨ hi < x
  · exact lv_tableOut C.1 C.2.1 hd (by rw [ht]; exact h) h0 (kout h p e s m args below meth c H ls locs C hI hS hl)
  · obtain ⟨off, tgt, h1, h2, k⟩ := kin x (by omega) (by omega) rfl
    exact lv_tableIn C.1 C.2.1 hd (by rw [ht]; omega) (by rw [ht]; omega) (by rw [ht]; exact h1) h2 (k p e s m args below meth c H ls locs C hI hS hl)
/-- two keys -/
theorem x_lsw2 (t0 t1 t2 : Nat) {dflt a1 o1 a2 o2 : Int} {len : Nat} (hd : decode T.2.1 pc = .ok (.lookupswitch dflt #[(a1, o1), (a2, o2)], len)) (h0 : (pc : Int) + dflt = (t0 : Int)) (h1 : (pc : Int) + o1 = (t1 : Int)) (h2 : (pc : Int) + o2 = (t2 : Int)) (ha : a1 < a2) (hr : -2147483648 ≤ x ∧ x ≤ 2147483647)
    (k1 : x = a1 → X g T K t1 L st hp Q) (k2 : x = a2 → X g T K t2 L st hp Q) (kout : x ≠ a1 → x ≠ a2 → X g T K t0 L st hp Q) : X g T K pc L (iv x :: st) hp Q := by
  intro p e s m args below meth c H ls locs C hI hS hl
  have ht : (Int32.ofInt x).toInt = x := iT hr.1 hr.2
  have hp : (((#[(a1, o1), (a2, o2)] : Array (Int × Int)).toList.zip ((#[(a1, o1), (a2, o2)] : Array (Int × Int)).toList.drop 1)).all (fun (a, next) => a.1 < next.1)) = true := by simp [ha]
  by_cases e1 : x = a1
  · exact lv_lookup C.1 C.2.1 hd hp (by rw [ht, e1]; simp [Op.lookupswitch.offset]) h1 (k1 e1 p e s m args below meth c H ls locs C hI hS hl)
  · by_cases e2 : x = a2
    · exact lv_lookup C.1 C.2.1 hd hp (by rw [ht, e2]; simp [Op.lookupswitch.offset]; intro q; omega) h2 (k2 e2 p e s m args below meth c H ls locs C hI hS hl)
    · have e1' : ¬ a1 = x := fun q => e1 q.symm
      have e2' : ¬ a2 = x := fun q => e2 q.symm
      exact lv_lookup C.1 C.2.1 hd hp (by rw [ht]; simp [Op.lookupswitch.offset, e1', e2']) h0 (kout e1 e2 p e s m args below meth c H ls locs C hI hS hl)
end SWITCH
theorem Con.ofF {g : GG} {T : XT} {d mc ms : Nat} {args : List Value} {hp : Hp} {Q : Option Value → Hp → Prop} (L : List (Option Value)) (hn : plainFor T.1 = true) (hL : xargs args ++ List.replicate (T.2.2.1 - (xargs args).length) none = L) (hlen : (lg_sl args).length ≤ T.2.2.1)
    (h : X g T (d, (mc, ms), (0, 0)) 0 L [] hp Q) : Con g T d mc ms args hp Q := by
  refine va_MetF (cc := T.2.1) (maxL := T.2.2.1) (ret := T.2.2.2) hn rfl ?_
  intro p e s m args' below meth c s₁ B hml hv
  obtain ⟨rfl, hI, hz, hK, hZ, hR⟩ := hv
  have hts := atoms_spec (ws := xws T) B.pre
  have hown : s.vm.findClass T.1.cls = some m.cls := findClass_of_methodNamed B.named
  rw [lg_entry_eq]
  exact h p e s m args.toArray below meth c s.heap _ [] ⟨B.exec, B.bytes, hml, hown, fun w hw => hts w (List.mem_cons_of_mem _ hw), B.returns, B.notSynchronized, hK, by rw [hz]; exact Nat.le_add_right _ _, (name_of_methodNamed B.named B.method).1, hZ, hR⟩ ⟨hI, hz⟩ va_S.rf (xL_entry args hlen L hL)
end
section
set_option maxHeartbeats 4000000 in
theorem c_imax {g : GG} {M : Mem} (x y : Int) (hx : -2147483648 ≤ x ∧ x ≤ 2147483647) (hy : -2147483648 ≤ y ∧ y ≤ 2147483647) : CP g tJ9_max_7cf53 0 [iv x, iv y] M (max x y) := by
  refine Con.ofF [some (iv x), some (iv y)] (by decide +kernel) rfl (Nat.le_of_ble_eq_true rfl) ?_
  refine x_iload_n 1 0 dJ9_max_7cf53_0 rfl rfl (by decide) rfl ?_
  refine x_iload_n 2 1 dJ9_max_7cf53_1 rfl rfl (by decide) rfl ?_
  refine x_icmp_lt 9 5 dJ9_max_7cf53_2 (by decide) rfl (by omega) (fun h2 => ?_) (fun h2 => ?_)
  · refine x_iload_n 10 1 dJ9_max_7cf53_9 rfl rfl (by decide) rfl ?_
    refine x_iret dJ9_max_7cf53_10 rfl ⟨rfl, Nat.le_refl _⟩ (qp_i ?_ rfl)
    omega
  · refine x_iload_n 6 0 dJ9_max_7cf53_5 rfl rfl (by decide) rfl ?_
    refine x_goto 10 dJ9_max_7cf53_6 (by decide) ?_
    refine x_iret dJ9_max_7cf53_10 rfl ⟨rfl, Nat.le_refl _⟩ (qp_i ?_ rfl)
    omega

set_option maxHeartbeats 4000000 in
theorem c_imin {g : GG} {M : Mem} (x y : Int) (hx : -2147483648 ≤ x ∧ x ≤ 2147483647) (hy : -2147483648 ≤ y ∧ y ≤ 2147483647) : CP g tJ9_min_7cf53 0 [iv x, iv y] M (min x y) := by
  refine Con.ofF [some (iv x), some (iv y)] (by decide +kernel) rfl (Nat.le_of_ble_eq_true rfl) ?_
  refine x_iload_n 1 0 dJ9_min_7cf53_0 rfl rfl (by decide) rfl ?_
  refine x_iload_n 2 1 dJ9_min_7cf53_1 rfl rfl (by decide) rfl ?_
  refine x_icmp_gt 9 5 dJ9_min_7cf53_2 (by decide) rfl (by omega) (fun h2 => ?_) (fun h2 => ?_)
  · refine x_iload_n 10 1 dJ9_min_7cf53_9 rfl rfl (by decide) rfl ?_
    refine x_iret dJ9_min_7cf53_10 rfl ⟨rfl, Nat.le_refl _⟩ (qp_i ?_ rfl)
    omega
  · refine x_iload_n 6 0 dJ9_min_7cf53_5 rfl rfl (by decide) rfl ?_
    refine x_goto 10 dJ9_min_7cf53_6 (by decide) ?_
    refine x_iret dJ9_min_7cf53_10 rfl ⟨rfl, Nat.le_refl _⟩ (qp_i ?_ rfl)
    omega

set_option maxHeartbeats 4000000 in
theorem c_hasTown {g : GG} {M : Mem} {o : Nat} (ho : isLg o) (t : Int) (h_t : -2147483648 ≤ t ∧ t ≤ 2147483647) : CP g tX1_hasTown 0 [rv g o, iv t] M (bI (0 ≤ t ∧ t < M o 6)) := by
  refine Con.of [some (rv g o), some (iv t)] (by decide +kernel) rfl (Nat.le_of_ble_eq_true rfl) ?_
  refine x_iload_n 1 1 dX1_hasTown_0 rfl rfl (by decide) rfl ?_
  refine x_if_lt 16 4 dX1_hasTown_1 (by decide) rfl (by omega) (fun h1 => ?_) (fun h1 => ?_)
  · refine x_iconst 17 dX1_hasTown_16 rfl ?_
    refine x_zret dX1_hasTown_17 rfl (by first | exact Or.inl rfl | exact Or.inr rfl | exact bI_or _ | omega) ⟨rfl, Nat.le_refl _⟩ (qp_i ?_ rfl)
    first | exact (bI_t (by omega)).symm | exact (bI_f (by omega)).symm
  · refine x_iload_n 5 1 dX1_hasTown_4 rfl rfl (by decide) rfl ?_
    refine x_aload_n 6 0 dX1_hasTown_5 rfl rfl (by decide) rfl ?_
    refine x_getI 9 6 6 rfl dX1_hasTown_6 rfl fX1_30 rfl (lg_s ho) (fun g6 => ?_)
    refine x_icmp_ge 16 12 dX1_hasTown_9 (by decide) rfl (by omega) (fun h9 => ?_) (fun h9 => ?_)
    · refine x_iconst 17 dX1_hasTown_16 rfl ?_
      refine x_zret dX1_hasTown_17 rfl (by first | exact Or.inl rfl | exact Or.inr rfl | exact bI_or _ | omega) ⟨rfl, Nat.le_refl _⟩ (qp_i ?_ rfl)
      first | exact (bI_t (by omega)).symm | exact (bI_f (by omega)).symm
    · refine x_iconst 13 dX1_hasTown_12 rfl ?_
      refine x_goto 17 dX1_hasTown_13 (by decide) ?_
      refine x_zret dX1_hasTown_17 rfl (by first | exact Or.inl rfl | exact Or.inr rfl | exact bI_or _ | omega) ⟨rfl, Nat.le_refl _⟩ (qp_i ?_ rfl)
      first | exact (bI_t (by omega)).symm | exact (bI_f (by omega)).symm

set_option maxHeartbeats 4000000 in
theorem c_hasFixture {g : GG} {M : Mem} {o : Nat} (ho : isLg o) (t : Int) (h_t : -2147483648 ≤ t ∧ t ≤ 2147483647) : CP g tX1_hasFixture 0 [rv g o, iv t] M (bI (0 ≤ t ∧ t < M o 7)) := by
  refine Con.of [some (rv g o), some (iv t)] (by decide +kernel) rfl (Nat.le_of_ble_eq_true rfl) ?_
  refine x_iload_n 1 1 dX1_hasFixture_0 rfl rfl (by decide) rfl ?_
  refine x_if_lt 16 4 dX1_hasFixture_1 (by decide) rfl (by omega) (fun h1 => ?_) (fun h1 => ?_)
  · refine x_iconst 17 dX1_hasFixture_16 rfl ?_
    refine x_zret dX1_hasFixture_17 rfl (by first | exact Or.inl rfl | exact Or.inr rfl | exact bI_or _ | omega) ⟨rfl, Nat.le_refl _⟩ (qp_i ?_ rfl)
    first | exact (bI_t (by omega)).symm | exact (bI_f (by omega)).symm
  · refine x_iload_n 5 1 dX1_hasFixture_4 rfl rfl (by decide) rfl ?_
    refine x_aload_n 6 0 dX1_hasFixture_5 rfl rfl (by decide) rfl ?_
    refine x_getI 9 7 7 rfl dX1_hasFixture_6 rfl fX1_34 rfl (lg_s ho) (fun g6 => ?_)
    refine x_icmp_ge 16 12 dX1_hasFixture_9 (by decide) rfl (by omega) (fun h9 => ?_) (fun h9 => ?_)
    · refine x_iconst 17 dX1_hasFixture_16 rfl ?_
      refine x_zret dX1_hasFixture_17 rfl (by first | exact Or.inl rfl | exact Or.inr rfl | exact bI_or _ | omega) ⟨rfl, Nat.le_refl _⟩ (qp_i ?_ rfl)
      first | exact (bI_t (by omega)).symm | exact (bI_f (by omega)).symm
    · refine x_iconst 13 dX1_hasFixture_12 rfl ?_
      refine x_goto 17 dX1_hasFixture_13 (by decide) ?_
      refine x_zret dX1_hasFixture_17 rfl (by first | exact Or.inl rfl | exact Or.inr rfl | exact bI_or _ | omega) ⟨rfl, Nat.le_refl _⟩ (qp_i ?_ rfl)
      first | exact (bI_t (by omega)).symm | exact (bI_f (by omega)).symm

set_option maxHeartbeats 4000000 in
theorem c_hasPair {g : GG} {M : Mem} {o : Nat} (ho : isLg o) (a b : Int) (h_a : -2147483648 ≤ a ∧ a ≤ 2147483647) (h_b : -2147483648 ≤ b ∧ b ≤ 2147483647) : CP g tX1_hasPair 1 [rv g o, iv a, iv b] M (bI ((0 ≤ a ∧ a < M o 6) ∧ (0 ≤ b ∧ b < M o 6) ∧ a ≠ b)) := by
  refine Con.of [some (rv g o), some (iv a), some (iv b)] (by decide +kernel) rfl (Nat.le_of_ble_eq_true rfl) ?_
  refine x_aload_n 1 0 dX1_hasPair_0 rfl rfl (by decide) rfl ?_
  refine x_iload_n 2 1 dX1_hasPair_1 rfl rfl (by decide) rfl ?_
  refine x_vp 5 [_] (c_hasTown ho _ (by omega)) mX1_hasTown kX1_40 dX1_hasPair_2 rfl (lg_s ho) ⟨by decide, rfl⟩ rfl rfl (Nat.le_of_ble_eq_true rfl) (by decide) ?_
  refine x_ifeq_b 25 8 dX1_hasPair_5 (by decide) rfl (fun h5 => ?_) (fun h5 => ?_)
  · refine x_iconst 26 dX1_hasPair_25 rfl ?_
    refine x_zret dX1_hasPair_26 rfl (by first | exact Or.inl rfl | exact Or.inr rfl | exact bI_or _ | omega) ⟨rfl, Nat.le_refl _⟩ (qp_i ?_ rfl)
    first | exact (bI_t (by omega)).symm | exact (bI_f (by omega)).symm
  · refine x_aload_n 9 0 dX1_hasPair_8 rfl rfl (by decide) rfl ?_
    refine x_iload_n 10 2 dX1_hasPair_9 rfl rfl (by decide) rfl ?_
    refine x_vp 13 [_] (c_hasTown ho _ (by omega)) mX1_hasTown kX1_40 dX1_hasPair_10 rfl (lg_s ho) ⟨by decide, rfl⟩ rfl rfl (Nat.le_of_ble_eq_true rfl) (by decide) ?_
    refine x_ifeq_b 25 16 dX1_hasPair_13 (by decide) rfl (fun h13 => ?_) (fun h13 => ?_)
    · refine x_iconst 26 dX1_hasPair_25 rfl ?_
      refine x_zret dX1_hasPair_26 rfl (by first | exact Or.inl rfl | exact Or.inr rfl | exact bI_or _ | omega) ⟨rfl, Nat.le_refl _⟩ (qp_i ?_ rfl)
      first | exact (bI_t (by omega)).symm | exact (bI_f (by omega)).symm
    · refine x_iload_n 17 1 dX1_hasPair_16 rfl rfl (by decide) rfl ?_
      refine x_iload_n 18 2 dX1_hasPair_17 rfl rfl (by decide) rfl ?_
      refine x_icmp_eq 25 21 dX1_hasPair_18 (by decide) rfl (by omega) (fun h18 => ?_) (fun h18 => ?_)
      · refine x_iconst 26 dX1_hasPair_25 rfl ?_
        refine x_zret dX1_hasPair_26 rfl (by first | exact Or.inl rfl | exact Or.inr rfl | exact bI_or _ | omega) ⟨rfl, Nat.le_refl _⟩ (qp_i ?_ rfl)
        first | exact (bI_t (by omega)).symm | exact (bI_f (by omega)).symm
      · refine x_iconst 22 dX1_hasPair_21 rfl ?_
        refine x_goto 26 dX1_hasPair_22 (by decide) ?_
        refine x_zret dX1_hasPair_26 rfl (by first | exact Or.inl rfl | exact Or.inr rfl | exact bI_or _ | omega) ⟨rfl, Nat.le_refl _⟩ (qp_i ?_ rfl)
        first | exact (bI_t (by omega)).symm | exact (bI_f (by omega)).symm

set_option maxHeartbeats 4000000 in
theorem c_isFullOfTowns {g : GG} {M : Mem} {o : Nat} (ho : isLg o) : CP g tX1_isFullOfTowns 0 [rv g o] M (bI (5 ≤ M o 6)) := by
  refine Con.of [some (rv g o)] (by decide +kernel) rfl (Nat.le_of_ble_eq_true rfl) ?_
  refine x_aload_n 1 0 dX1_isFullOfTowns_0 rfl rfl (by decide) rfl ?_
  refine x_getI 4 6 6 rfl dX1_isFullOfTowns_1 rfl fX1_30 rfl (lg_s ho) (fun g1 => ?_)
  refine x_iconst 5 dX1_isFullOfTowns_4 rfl ?_
  refine x_icmp_lt 12 8 dX1_isFullOfTowns_5 (by decide) rfl (by omega) (fun h5 => ?_) (fun h5 => ?_)
  · refine x_iconst 13 dX1_isFullOfTowns_12 rfl ?_
    refine x_zret dX1_isFullOfTowns_13 rfl (by first | exact Or.inl rfl | exact Or.inr rfl | exact bI_or _ | omega) ⟨rfl, Nat.le_refl _⟩ (qp_i ?_ rfl)
    first | exact (bI_t (by omega)).symm | exact (bI_f (by omega)).symm
  · refine x_iconst 9 dX1_isFullOfTowns_8 rfl ?_
    refine x_goto 13 dX1_isFullOfTowns_9 (by decide) ?_
    refine x_zret dX1_isFullOfTowns_13 rfl (by first | exact Or.inl rfl | exact Or.inr rfl | exact bI_or _ | omega) ⟨rfl, Nat.le_refl _⟩ (qp_i ?_ rfl)
    first | exact (bI_t (by omega)).symm | exact (bI_f (by omega)).symm

set_option maxHeartbeats 4000000 in
theorem c_isFullOfFixtures {g : GG} {M : Mem} {o : Nat} (ho : isLg o) : CP g tX1_isFullOfFixtures 0 [rv g o] M (bI (10 ≤ M o 7)) := by
  refine Con.of [some (rv g o)] (by decide +kernel) rfl (Nat.le_of_ble_eq_true rfl) ?_
  refine x_aload_n 1 0 dX1_isFullOfFixtures_0 rfl rfl (by decide) rfl ?_
  refine x_getI 4 7 7 rfl dX1_isFullOfFixtures_1 rfl fX1_34 rfl (lg_s ho) (fun g1 => ?_)
  refine x_bipush 6 dX1_isFullOfFixtures_4 rfl (by decide) ?_
  refine x_icmp_lt 13 9 dX1_isFullOfFixtures_6 (by decide) rfl (by omega) (fun h6 => ?_) (fun h6 => ?_)
  · refine x_iconst 14 dX1_isFullOfFixtures_13 rfl ?_
    refine x_zret dX1_isFullOfFixtures_14 rfl (by first | exact Or.inl rfl | exact Or.inr rfl | exact bI_or _ | omega) ⟨rfl, Nat.le_refl _⟩ (qp_i ?_ rfl)
    first | exact (bI_t (by omega)).symm | exact (bI_f (by omega)).symm
  · refine x_iconst 10 dX1_isFullOfFixtures_9 rfl ?_
    refine x_goto 14 dX1_isFullOfFixtures_10 (by decide) ?_
    refine x_zret dX1_isFullOfFixtures_14 rfl (by first | exact Or.inl rfl | exact Or.inr rfl | exact bI_or _ | omega) ⟨rfl, Nat.le_refl _⟩ (qp_i ?_ rfl)
    first | exact (bI_t (by omega)).symm | exact (bI_f (by omega)).symm

set_option maxHeartbeats 4000000 in
theorem c_clear {g : GG} {M : Mem} {o : Nat} (ho : isLg o) : CV g tX1_clear 0 [rv g o] M (fun M2 => M2 = up2 (up2 (up2 M o 6 0) o 7 0) o 8 0) := by
  refine Con.of [some (rv g o)] (by decide +kernel) rfl (Nat.le_of_ble_eq_true rfl) ?_
  refine x_aload_n 1 0 dX1_clear_0 rfl rfl (by decide) rfl ?_
  refine x_iconst 2 dX1_clear_1 rfl ?_
  refine x_putI 5 6 6 rfl dX1_clear_2 rfl fX1_30 rfl rfl (lg_s ho) (by omega) ?_
  refine x_aload_n 6 0 dX1_clear_5 rfl rfl (by decide) rfl ?_
  refine x_iconst 7 dX1_clear_6 rfl ?_
  refine x_putI 10 7 7 rfl dX1_clear_7 rfl fX1_34 rfl rfl (lg_s ho) (by omega) ?_
  refine x_aload_n 11 0 dX1_clear_10 rfl rfl (by decide) rfl ?_
  refine x_iconst 12 dX1_clear_11 rfl ?_
  refine x_putI 15 8 8 rfl dX1_clear_12 rfl fX1_37 rfl rfl (lg_s ho) (by omega) ?_
  refine x_vret dX1_clear_15 rfl ⟨rfl, Nat.le_refl _⟩ (qv_i ?_)
  rfl

set_option maxHeartbeats 4000000 in
theorem c_fixtureNow {g : GG} {M : Mem} {o : Nat} (ho : isLg o) (hw : 0 ≤ M o 8) : CP g tX1_fixtureNow 0 [rv g o] M (if 0 < M o 7 then M o 8 % M o 7 else -4) := by
  refine Con.of [some (rv g o)] (by decide +kernel) rfl (Nat.le_of_ble_eq_true rfl) ?_
  refine x_aload_n 1 0 dX1_fixtureNow_0 rfl rfl (by decide) rfl ?_
  refine x_getI 4 7 7 rfl dX1_fixtureNow_1 rfl fX1_34 rfl (lg_s ho) (fun g1 => ?_)
  refine x_if_le 19 7 dX1_fixtureNow_4 (by decide) rfl (by omega) (fun h4 => ?_) (fun h4 => ?_)
  · refine x_bipush 21 dX1_fixtureNow_19 rfl (by decide) ?_
    refine x_iret dX1_fixtureNow_21 rfl ⟨rfl, Nat.le_refl _⟩ (qp_i ?_ rfl)
    first | rw [if_pos (by omega)] | rw [if_neg (by omega)]
  · refine x_aload_n 8 0 dX1_fixtureNow_7 rfl rfl (by decide) rfl ?_
    refine x_getI 11 8 8 rfl dX1_fixtureNow_8 rfl fX1_37 rfl (lg_s ho) (fun g8 => ?_)
    refine x_aload_n 12 0 dX1_fixtureNow_11 rfl rfl (by decide) rfl ?_
    refine x_getI 15 7 7 rfl dX1_fixtureNow_12 rfl fX1_34 rfl (lg_s ho) (fun g12 => ?_)
    refine x_irem 16 dX1_fixtureNow_15 rfl (by omega) ?_
    refine x_goto 21 dX1_fixtureNow_16 (by decide) ?_
    refine x_iret dX1_fixtureNow_21 rfl ⟨rfl, Nat.le_refl _⟩ (qp_i ?_ rfl)
    first | rw [if_pos (by omega)] | rw [if_neg (by omega)]

set_option maxHeartbeats 4000000 in
theorem c_playsWise {g : GG} {M : Mem} {o : Nat} (ho : isLg o) (t : Int) (ht : 0 ≤ t ∧ t < 5) (hs : 0 ≤ M (o + 2) t) : CP g tX1_playsWise 0 [rv g o, iv t] M (if M (o + 3) t = 0 then M (o + 2) t / 2 else M (o + 2) t) := by
  refine Con.of [some (rv g o), some (iv t)] (by decide +kernel) rfl (Nat.le_of_ble_eq_true rfl) ?_
  refine x_aload_n 1 0 dX1_playsWise_0 rfl rfl (by decide) rfl ?_
  refine x_getR 4 2 (o + 3) dX1_playsWise_1 rfl fX1_18 rfl (lg_s ho) (lg_r2 ho) ?_
  refine x_iload_n 5 1 dX1_playsWise_4 rfl rfl (by decide) rfl ?_
  refine x_iaload 6 dX1_playsWise_5 rfl (lg_a2 ho) (by omega) (fun g5 => ?_)
  refine x_if_ne 20 9 dX1_playsWise_6 (by decide) rfl (by omega) (fun h6 => ?_) (fun h6 => ?_)
  · refine x_aload_n 21 0 dX1_playsWise_20 rfl rfl (by decide) rfl ?_
    refine x_getR 24 1 (o + 2) dX1_playsWise_21 rfl fX1_15 rfl (lg_s ho) (lg_r1 ho) ?_
    refine x_iload_n 25 1 dX1_playsWise_24 rfl rfl (by decide) rfl ?_
    refine x_iaload 26 dX1_playsWise_25 rfl (lg_a1 ho) (by omega) (fun g25 => ?_)
    refine x_iret dX1_playsWise_26 rfl ⟨rfl, Nat.le_refl _⟩ (qp_i ?_ rfl)
    first | rw [if_pos (by omega)] | rw [if_neg (by omega)]
  · refine x_aload_n 10 0 dX1_playsWise_9 rfl rfl (by decide) rfl ?_
    refine x_getR 13 1 (o + 2) dX1_playsWise_10 rfl fX1_15 rfl (lg_s ho) (lg_r1 ho) ?_
    refine x_iload_n 14 1 dX1_playsWise_13 rfl rfl (by decide) rfl ?_
    refine x_iaload 15 dX1_playsWise_14 rfl (lg_a1 ho) (by omega) (fun g14 => ?_)
    refine x_iconst 16 dX1_playsWise_15 rfl ?_
    refine x_idiv 17 dX1_playsWise_16 rfl (by omega) ?_
    refine x_goto 26 dX1_playsWise_17 (by decide) ?_
    refine x_iret dX1_playsWise_26 rfl ⟨rfl, Nat.le_refl _⟩ (qp_i ?_ rfl)
    first | rw [if_pos (by omega)] | rw [if_neg (by omega)]

set_option maxHeartbeats 4000000 in
theorem c_trainsNow {g : GG} {M : Mem} {o : Nat} (ho : isLg o) (t : Int) (ht : 0 ≤ t ∧ t < 5) : CP g tX1_trainsNow 0 [rv g o, iv t] M (if M (o + 1) t = 1 then 2 else if M (o + 1) t = 3 then 0 else 1) := by
  refine Con.of [some (rv g o), some (iv t)] (by decide +kernel) rfl (Nat.le_of_ble_eq_true rfl) ?_
  refine x_aload_n 1 0 dX1_trainsNow_0 rfl rfl (by decide) rfl ?_
  refine x_getR 4 0 (o + 1) dX1_trainsNow_1 rfl fX1_9 rfl (lg_s ho) (lg_r0 ho) ?_
  refine x_iload_n 5 1 dX1_trainsNow_4 rfl rfl (by decide) rfl ?_
  refine x_iaload 6 dX1_trainsNow_5 rfl (lg_a0 ho) (by omega) (fun g5 => ?_)
  refine x_lsw2 36 32 34 dX1_trainsNow_6 (by decide) (by decide) (by decide) (by decide) (by omega) (fun h6 => ?_) (fun h6 => ?_) (fun h6 k6 => ?_)
  · refine x_iconst 33 dX1_trainsNow_32 rfl ?_
    refine x_iret dX1_trainsNow_33 rfl ⟨rfl, Nat.le_refl _⟩ (qp_i ?_ rfl)
    split <;> first | omega | (split <;> omega)
  · refine x_iconst 35 dX1_trainsNow_34 rfl ?_
    refine x_iret dX1_trainsNow_35 rfl ⟨rfl, Nat.le_refl _⟩ (qp_i ?_ rfl)
    split <;> first | omega | (split <;> omega)
  · refine x_iconst 37 dX1_trainsNow_36 rfl ?_
    refine x_iret dX1_trainsNow_37 rfl ⟨rfl, Nat.le_refl _⟩ (qp_i ?_ rfl)
    split <;> first | omega | (split <;> omega)
end
section
/-! ===== the league's value, and what a week does to it ===== -/
abbrev LV : Type := Int × Int × Int × (Int → Int) × (Int → Int) × (Int → Int) × (Int → Int) × (Int → Int) × (Int → Int)
def vn (v : LV) : Int := v.1
def vf (v : LV) : Int := v.2.1
def vw (v : LV) : Int := v.2.2.1
def vK (v : LV) : Int → Int := v.2.2.2.1
def vS (v : LV) : Int → Int := v.2.2.2.2.1
def vL (v : LV) : Int → Int := v.2.2.2.2.2.1
def vO (v : LV) : Int → Int := v.2.2.2.2.2.2.1
def vA (v : LV) : Int → Int := v.2.2.2.2.2.2.2.1
def vB (v : LV) : Int → Int := v.2.2.2.2.2.2.2.2
def fu (f : Int → Int) (k x : Int) : Int → Int := fun t => if t = k then x else f t
theorem fu_s (f : Int → Int) (k x : Int) : fu f k x k = x := by simp [fu]
theorem fu_n (f : Int → Int) {k t : Int} (x : Int) (h : t ≠ k) : fu f k x t = f t := by simp [fu, h]
def pW (v : LV) (t : Int) : Int := if vL v t = 0 then vS v t / 2 else vS v t
def plays (v : LV) (t : Int) : Int := if vK v t = 0 then vS v t else if vK v t = 1 then vS v t + 3 else if vK v t = 2 then pW v t else max 0 (pW v t - 2)
def trains (v : LV) (t : Int) : Int := if vK v t = 1 then 2 else if vK v t = 3 then 0 else 1
def weaker (v : LV) (a b : Int) : Int := if plays v a < plays v b then a else if plays v b < plays v a then b else -4
/-- l loses to w -/
def beat (v : LV) (l w : Int) : LV := (vn v, vf v, vw v, vK v, fu (fu (vS v) l (min 20 (vS v l + trains v l))) w (max 0 (vS v w - 1)), fu (vL v) l (min 99 (vL v l + 1)), vO v, vA v, vB v)
def game (v : LV) (a b : Int) : LV := if plays v a < plays v b then beat v a b else if plays v b < plays v a then beat v b a else v
def yearEnd (v : LV) : LV := (vn v, vf v, vw v, vK v, vS v, fun _ => 0, fun t => if vL v t = 0 then min 99 (vO v t + 1) else vO v t, vA v, vB v)
def setW (v : LV) (w : Int) : LV := (vn v, vf v, w, vK v, vS v, vL v, vO v, vA v, vB v)
def isLast (v : LV) : Prop := 0 < vf v ∧ vw v % vf v = vf v - 1
def pass (v : LV) : LV := if 0 < vf v ∧ vw v % vf v = vf v - 1 then setW (yearEnd v) (vw v + 1) else setW v (vw v + 1)
def wkL (v : LV) (r : Int) : Int := if 0 < vf v ∧ r = 0 then weaker v (vA v (vw v % vf v)) (vB v (vw v % vf v)) else -4
def wkV (v : LV) (r : Int) : LV := pass (if 0 < vf v ∧ r = 0 then game v (vA v (vw v % vf v)) (vB v (vw v % vf v)) else v)
/-- n dry weeks, and how many are lost in them -/
def goV (v : LV) : Nat → LV
  | 0 => v
  | n + 1 => wkV (goV v n) 0
def goL (v : LV) : Nat → Int
  | 0 => 0
  | n + 1 => goL v n + (if 0 ≤ wkL (goV v n) 0 then 1 else 0)
def sumN (f : Int → Int) : Nat → Int
  | 0 => 0
  | n + 1 => sumN f n + f n
def owed (v : LV) : Int := sumN (vO v) (vn v).toNat
def WF (v : LV) : Prop := (0 ≤ vn v ∧ vn v ≤ 5) ∧ (0 ≤ vf v ∧ vf v ≤ 10) ∧ 0 ≤ vw v ∧ (∀ t, 0 ≤ t → t < vn v → (0 ≤ vK v t ∧ vK v t ≤ 3) ∧ (0 ≤ vS v t ∧ vS v t ≤ 20) ∧ (0 ≤ vL v t ∧ vL v t ≤ 99) ∧ (0 ≤ vO v t ∧ vO v t ≤ 99)) ∧ (∀ i, 0 ≤ i → i < vf v → (0 ≤ vA v i ∧ vA v i < vn v) ∧ (0 ≤ vB v i ∧ vB v i < vn v) ∧ vA v i ≠ vB v i)
/-- the league object o holds v -/
def Rep (M : Mem) (o : Nat) (v : LV) : Prop := M o 6 = vn v ∧ M o 7 = vf v ∧ M o 8 = vw v ∧ (∀ t, 0 ≤ t → t < vn v → M (o + 1) t = vK v t ∧ M (o + 2) t = vS v t ∧ M (o + 3) t = vL v t ∧ M (o + 4) t = vO v t) ∧ (∀ i, 0 ≤ i → i < vf v → M (o + 5) i = vA v i ∧ M (o + 6) i = vB v i)
/-- nothing but league o has changed -/
def Fr (o : Nat) (M M2 : Mem) : Prop := ∀ a, (a < o ∨ o + 6 < a) → M2 a = M a
theorem Fr.rf (o : Nat) (M : Mem) : Fr o M M := fun _ _ => rfl
theorem Fr.tr {o : Nat} {M M2 M3 : Mem} (h : Fr o M M2) (h2 : Fr o M2 M3) : Fr o M M3 := fun a ha => (h2 a ha).trans (h a ha)
theorem Fr.up {o : Nat} {M M2 : Mem} (h : Fr o M M2) (i : Nat) (k x : Int) (hi : o ≤ i ∧ i ≤ o + 6) : Fr o M (up2 M2 i k x) := fun a ha => by rw [up2_o M2 k x (by omega)]; exact h a ha
theorem Rep.keep {M M2 : Mem} {o : Nat} {v : LV} (h : Rep M o v) (e : ∀ a, o ≤ a → a ≤ o + 6 → M2 a = M a) : Rep M2 o v := by
  unfold Rep
  rw [e o (by omega) (by omega), e (o + 1) (by omega) (by omega), e (o + 2) (by omega) (by omega), e (o + 3) (by omega) (by omega), e (o + 4) (by omega) (by omega), e (o + 5) (by omega) (by omega), e (o + 6) (by omega) (by omega)]
  exact h
theorem pW_bd {v : LV} {t : Int} (h : 0 ≤ vS v t ∧ vS v t ≤ 20) : 0 ≤ pW v t ∧ pW v t ≤ 20 := by
  unfold pW; split <;> omega
theorem plays_bd {v : LV} {t : Int} (h : 0 ≤ vS v t ∧ vS v t ≤ 20) : 0 ≤ plays v t ∧ plays v t ≤ 23 := by
  have := pW_bd h
  unfold plays; split
  · omega
  · split
    · omega
    · split <;> omega
theorem trains_bd (v : LV) (t : Int) : 0 ≤ trains v t ∧ trains v t ≤ 2 := by
  unfold trains; split
  · omega
  · split <;> omega
theorem vn_wkV (v : LV) (r : Int) : vn (wkV v r) = vn v := by
  unfold wkV pass game beat setW yearEnd vn
  repeat' split
  all_goals rfl
theorem vf_wkV (v : LV) (r : Int) : vf (wkV v r) = vf v := by
  unfold wkV pass game beat setW yearEnd vf
  repeat' split
  all_goals rfl
theorem vK_wkV (v : LV) (r : Int) : vK (wkV v r) = vK v := by
  unfold wkV pass game beat setW yearEnd vK
  repeat' split
  all_goals rfl
theorem vA_wkV (v : LV) (r : Int) : vA (wkV v r) = vA v := by
  unfold wkV pass game beat setW yearEnd vA
  repeat' split
  all_goals rfl
theorem vB_wkV (v : LV) (r : Int) : vB (wkV v r) = vB v := by
  unfold wkV pass game beat setW yearEnd vB
  repeat' split
  all_goals rfl
theorem beat_WF {v : LV} (h : WF v) {l w : Int} (hl : 0 ≤ l ∧ l < vn v) (hw : 0 ≤ w ∧ w < vn v) : WF (beat v l w) := by
  obtain ⟨h1, h2, h3, h4, h5⟩ := h
  refine ⟨h1, h2, h3, fun t a b => ?_, h5⟩
  have ht := h4 t a b
  have hL := h4 l hl.1 hl.2
  have hW := h4 w hw.1 hw.2
  have hb := trains_bd v l
  refine ⟨ht.1, ?_, ?_, ht.2.2.2⟩
  · show 0 ≤ fu (fu (vS v) l (min 20 (vS v l + trains v l))) w (max 0 (vS v w - 1)) t ∧ fu (fu (vS v) l (min 20 (vS v l + trains v l))) w (max 0 (vS v w - 1)) t ≤ 20
    unfold fu
    split
    · omega
    · split <;> omega
  · show 0 ≤ fu (vL v) l (min 99 (vL v l + 1)) t ∧ fu (vL v) l (min 99 (vL v l + 1)) t ≤ 99
    unfold fu
    split <;> omega
theorem game_WF {v : LV} (h : WF v) {a b : Int} (ha : 0 ≤ a ∧ a < vn v) (hb : 0 ≤ b ∧ b < vn v) : WF (game v a b) := by
  unfold game
  split
  · exact beat_WF h ha hb
  · split
    · exact beat_WF h hb ha
    · exact h
theorem yearEnd_WF {v : LV} (h : WF v) : WF (yearEnd v) := by
  obtain ⟨h1, h2, h3, h4, h5⟩ := h
  refine ⟨h1, h2, h3, fun t a b => ?_, h5⟩
  have ht := h4 t a b
  refine ⟨ht.1, ht.2.1, ?_, ?_⟩
  · show (0 : Int) ≤ 0 ∧ (0 : Int) ≤ 99
    omega
  · show 0 ≤ (if vL v t = 0 then min 99 (vO v t + 1) else vO v t) ∧ (if vL v t = 0 then min 99 (vO v t + 1) else vO v t) ≤ 99
    split <;> omega
theorem setW_WF {v : LV} (h : WF v) {w : Int} (hw : 0 ≤ w) : WF (setW v w) := ⟨h.1, h.2.1, hw, h.2.2.2.1, h.2.2.2.2⟩
theorem pass_WF {v : LV} (h : WF v) : WF (pass v) := by
  have hw := h.2.2.1
  unfold pass
  split
  · exact setW_WF (yearEnd_WF h) (by omega)
  · exact setW_WF h (by omega)
theorem now_in {v : LV} (h : WF v) (hf : 0 < vf v) : 0 ≤ vw v % vf v ∧ vw v % vf v < vf v := ⟨Int.emod_nonneg _ (by omega), Int.emod_lt_of_pos _ hf⟩
theorem wkV_WF {v : LV} (h : WF v) (r : Int) : WF (wkV v r) := by
  unfold wkV
  apply pass_WF
  split
  · next hf =>
    have hi := now_in h hf.1
    have h5 := h.2.2.2.2 _ hi.1 hi.2
    exact game_WF h h5.1 h5.2.1
  · exact h
theorem vw_game (v : LV) (a b : Int) : vw (game v a b) = vw v := by
  unfold game beat vw
  repeat' split
  all_goals rfl
theorem vw_pass (v : LV) : vw (pass v) = vw v + 1 := by
  unfold pass
  split <;> rfl
theorem vw_wkV (v : LV) (r : Int) : vw (wkV v r) = vw v + 1 := by
  unfold wkV
  rw [vw_pass]
  split
  · rw [vw_game]
  · rfl
theorem goV_WF {v : LV} (h : WF v) : ∀ n, WF (goV v n)
  | 0 => h
  | n + 1 => wkV_WF (goV_WF h n) 0
theorem goV_w (v : LV) : ∀ n, vw (goV v n) = vw v + n
  | 0 => by simp [goV]
  | n + 1 => by
    have := goV_w v n
    show vw (wkV (goV v n) 0) = _
    rw [vw_wkV, this]
    omega
theorem goV_n (v : LV) : ∀ n, vn (goV v n) = vn v
  | 0 => rfl
  | n + 1 => (vn_wkV _ _).trans (goV_n v n)
theorem goV_f (v : LV) : ∀ n, vf (goV v n) = vf v
  | 0 => rfl
  | n + 1 => (vf_wkV _ _).trans (goV_f v n)
theorem goL_bd (v : LV) : ∀ n, 0 ≤ goL v n ∧ goL v n ≤ n
  | 0 => by simp [goL]
  | n + 1 => by
    have := goL_bd v n
    show 0 ≤ goL v n + _ ∧ goL v n + _ ≤ _
    split <;> omega
theorem weaker_in {v : LV} {a b : Int} : weaker v a b = a ∨ weaker v a b = b ∨ weaker v a b = -4 := by
  unfold weaker
  split
  · exact Or.inl rfl
  · split
    · exact Or.inr (Or.inl rfl)
    · exact Or.inr (Or.inr rfl)
theorem wkL_in {v : LV} (h : WF v) (r : Int) : wkL v r = -4 ∨ (0 ≤ wkL v r ∧ wkL v r < vn v) := by
  unfold wkL
  split
  · next hf =>
    have hi := now_in h hf.1
    have h5 := h.2.2.2.2 _ hi.1 hi.2
    rcases weaker_in (v := v) (a := vA v (vw v % vf v)) (b := vB v (vw v % vf v)) with q | q | q
    · rw [q]; exact Or.inr h5.1
    · rw [q]; exact Or.inr h5.2.1
    · exact Or.inl q
  · exact Or.inl rfl
theorem sumN_bd {f : Int → Int} {c : Int} (hc : 0 ≤ c) : ∀ n : Nat, (∀ t : Int, 0 ≤ t → t < n → 0 ≤ f t ∧ f t ≤ c) → 0 ≤ sumN f n ∧ sumN f n ≤ n * c
  | 0, _ => by simp [sumN]
  | n + 1, h => by
    have h1 := sumN_bd hc n (fun t a b => h t a (by omega))
    have h2 := h n (by omega) (by omega)
    show 0 ≤ sumN f n + f n ∧ sumN f n + f n ≤ _
    rw [show ((n + 1 : Nat) : Int) * c = n * c + c by rw [Int.natCast_add, Int.add_mul]; simp]
    omega
theorem sumN_cong {f f2 : Int → Int} : ∀ n : Nat, (∀ t : Int, 0 ≤ t → t < n → f t = f2 t) → sumN f n = sumN f2 n
  | 0, _ => rfl
  | n + 1, h => by
    show sumN f n + f n = sumN f2 n + f2 n
    rw [sumN_cong n (fun t a b => h t a (by omega)), h n (by omega) (by omega)]
theorem owed_bd {v : LV} (h : WF v) : 0 ≤ owed v ∧ owed v ≤ 495 := by
  have := sumN_bd (f := vO v) (c := 99) (by omega) (vn v).toNat (fun t a b => (h.2.2.2.1 t a (by omega)).2.2.2)
  have h1 := h.1
  unfold owed
  refine ⟨this.1, Int.le_trans this.2 ?_⟩
  have : ((vn v).toNat : Int) ≤ 5 := by omega
  omega
end
section
theorem c_pW {g : GG} {M : Mem} {o : Nat} {v : LV} (ho : isLg o) (hR : Rep M o v) (hW : WF v) (t : Int) (ht : 0 ≤ t ∧ t < vn v) : CP g tX1_playsWise 0 [rv g o, iv t] M (pW v t) := by
  obtain ⟨e1, e2, e3, e4⟩ := hR.2.2.2.1 t ht.1 ht.2
  have h4 := hW.2.2.2.1 t ht.1 ht.2
  have h1 := hW.1
  have e : (if M (o + 3) t = 0 then M (o + 2) t / 2 else M (o + 2) t) = pW v t := by unfold pW; rw [e2, e3]
  rw [← e]
  exact c_playsWise ho t (by omega) (by omega)
theorem c_trains {g : GG} {M : Mem} {o : Nat} {v : LV} (ho : isLg o) (t : Int) (ht : 0 ≤ t ∧ t < 5) (hk : M (o + 1) t = vK v t) : CP g tX1_trainsNow 0 [rv g o, iv t] M (trains v t) := by
  have e : (if M (o + 1) t = 1 then (2 : Int) else if M (o + 1) t = 3 then 0 else 1) = trains v t := by unfold trains; rw [hk]
  rw [← e]
  exact c_trainsNow ho t ht

set_option maxHeartbeats 4000000 in
theorem c_plays {g : GG} {M : Mem} {o : Nat} {v : LV} (ho : isLg o) (hR : Rep M o v) (hW : WF v) (t : Int) (ht : 0 ≤ t ∧ t < vn v) : CP g tX1_playsNow 1 [rv g o, iv t] M (plays v t) := by
  refine Con.of [some (rv g o), some (iv t)] (by decide +kernel) rfl (Nat.le_of_ble_eq_true rfl) ?_
  obtain ⟨e1, e2, e3, e4⟩ := hR.2.2.2.1 t ht.1 ht.2
  have h4 := hW.2.2.2.1 t ht.1 ht.2
  have h1 := hW.1
  have hb := pW_bd (v := v) (t := t) h4.2.1
  refine x_aload_n 1 0 dX1_playsNow_0 rfl rfl (by decide) rfl ?_
  refine x_getR 4 0 (o + 1) dX1_playsNow_1 rfl fX1_9 rfl (lg_s ho) (lg_r0 ho) ?_
  refine x_iload_n 5 1 dX1_playsNow_4 rfl rfl (by decide) rfl ?_
  refine x_iaload 6 dX1_playsNow_5 rfl (lg_a0 ho) (by omega) (fun g5 => ?_)
  refine x_tsw 59 dX1_playsNow_6 (by decide) (by omega) (fun h6 => ?_) (fun c6 hl6 hh6 hx6 => ?_)
  · refine x_aload_n 60 0 dX1_playsNow_59 rfl rfl (by decide) rfl ?_
    refine x_getR 63 1 (o + 2) dX1_playsNow_60 rfl fX1_15 rfl (lg_s ho) (lg_r1 ho) ?_
    refine x_iload_n 64 1 dX1_playsNow_63 rfl rfl (by decide) rfl ?_
    refine x_iaload 65 dX1_playsNow_64 rfl (lg_a1 ho) (by omega) (fun g64 => ?_)
    refine x_iret dX1_playsNow_65 rfl ⟨rfl, Nat.le_refl _⟩ (qp_i ?_ rfl)
    (unfold plays; repeat' split) <;> omega
  · rcases (show c6 = 1 ∨ c6 = 2 ∨ c6 = 3 by omega) with rfl | rfl | rfl
    · refine ⟨26, 32, rfl, by decide, ?_⟩
      refine x_aload_n 33 0 dX1_playsNow_32 rfl rfl (by decide) rfl ?_
      refine x_getR 36 1 (o + 2) dX1_playsNow_33 rfl fX1_15 rfl (lg_s ho) (lg_r1 ho) ?_
      refine x_iload_n 37 1 dX1_playsNow_36 rfl rfl (by decide) rfl ?_
      refine x_iaload 38 dX1_playsNow_37 rfl (lg_a1 ho) (by omega) (fun g37 => ?_)
      refine x_iconst 39 dX1_playsNow_38 rfl ?_
      refine x_iadd 40 dX1_playsNow_39 rfl ?_
      refine x_iret dX1_playsNow_40 rfl ⟨rfl, Nat.le_refl _⟩ (qp_i ?_ rfl)
      (unfold plays; repeat' split) <;> omega
    · refine ⟨35, 41, rfl, by decide, ?_⟩
      refine x_aload_n 42 0 dX1_playsNow_41 rfl rfl (by decide) rfl ?_
      refine x_iload_n 43 1 dX1_playsNow_42 rfl rfl (by decide) rfl ?_
      refine x_vp 46 [_] (c_pW ho hR hW _ ht) mX1_playsWise kX1_59 dX1_playsNow_43 rfl (lg_s ho) ⟨by decide, rfl⟩ rfl rfl (Nat.le_of_ble_eq_true rfl) (by decide) ?_
      refine x_iret dX1_playsNow_46 rfl ⟨rfl, Nat.le_refl _⟩ (qp_i ?_ rfl)
      (unfold plays; repeat' split) <;> omega
    · refine ⟨41, 47, rfl, by decide, ?_⟩
      refine x_iconst 48 dX1_playsNow_47 rfl ?_
      refine x_aload_n 49 0 dX1_playsNow_48 rfl rfl (by decide) rfl ?_
      refine x_iload_n 50 1 dX1_playsNow_49 rfl rfl (by decide) rfl ?_
      refine x_vp 53 [_] (c_pW ho hR hW _ ht) mX1_playsWise kX1_59 dX1_playsNow_50 rfl (lg_s ho) ⟨by decide, rfl⟩ rfl rfl (Nat.le_of_ble_eq_true rfl) (by decide) ?_
      refine x_iconst 54 dX1_playsNow_53 rfl ?_
      refine x_isub 55 dX1_playsNow_54 rfl ?_
      refine x_sp 58 [_, _] (c_imax _ _ (by omega) (by omega)) mJ9_max_7cf53 kX1_63 dX1_playsNow_55 rfl rfl rfl (Nat.le_of_ble_eq_true rfl) (by decide) ?_
      refine x_iret dX1_playsNow_58 rfl ⟨rfl, Nat.le_refl _⟩ (qp_i ?_ rfl)
      (unfold plays; repeat' split) <;> omega

set_option maxHeartbeats 4000000 in
theorem c_weaker {g : GG} {M : Mem} {o : Nat} {v : LV} (ho : isLg o) (hR : Rep M o v) (hW : WF v) (a b : Int) (ha : 0 ≤ a ∧ a < vn v) (hb : 0 ≤ b ∧ b < vn v) : CP g tX1_weaker 2 [rv g o, iv a, iv b] M (weaker v a b) := by
  refine Con.of [some (rv g o), some (iv a), some (iv b), none] (by decide +kernel) rfl (Nat.le_of_ble_eq_true rfl) ?_
  have h4 := plays_bd (hW.2.2.2.1 a ha.1 ha.2).2.1
  have h5 := plays_bd (hW.2.2.2.1 b hb.1 hb.2).2.1
  have h1 := hW.1
  refine x_aload_n 1 0 dX1_weaker_0 rfl rfl (by decide) rfl ?_
  refine x_iload_n 2 1 dX1_weaker_1 rfl rfl (by decide) rfl ?_
  refine x_vp 5 [_] (c_plays ho hR hW _ (by omega)) mX1_playsNow kX1_68 dX1_weaker_2 rfl (lg_s ho) ⟨by decide, rfl⟩ rfl rfl (Nat.le_of_ble_eq_true rfl) (by decide) ?_
  refine x_aload_n 6 0 dX1_weaker_5 rfl rfl (by decide) rfl ?_
  refine x_iload_n 7 2 dX1_weaker_6 rfl rfl (by decide) rfl ?_
  refine x_vp 10 [_] (c_plays ho hR hW _ (by omega)) mX1_playsNow kX1_68 dX1_weaker_7 rfl (lg_s ho) ⟨by decide, rfl⟩ rfl rfl (Nat.le_of_ble_eq_true rfl) (by decide) ?_
  refine x_isub 11 dX1_weaker_10 rfl ?_
  refine x_istore_n 12 3 _ dX1_weaker_11 rfl rfl (by decide) rfl rfl ?_
  refine x_iload_n 13 3 dX1_weaker_12 rfl rfl (by decide) rfl ?_
  refine x_if_ne 19 16 dX1_weaker_13 (by decide) rfl (by omega) (fun h13 => ?_) (fun h13 => ?_)
  · refine x_iload_n 20 3 dX1_weaker_19 rfl rfl (by decide) rfl ?_
    refine x_if_ge 27 23 dX1_weaker_20 (by decide) rfl (by omega) (fun h20 => ?_) (fun h20 => ?_)
    · refine x_iload_n 28 2 dX1_weaker_27 rfl rfl (by decide) rfl ?_
      refine x_iret dX1_weaker_28 rfl ⟨rfl, Nat.le_refl _⟩ (qp_i ?_ rfl)
      (unfold weaker; repeat' split) <;> omega
    · refine x_iload_n 24 1 dX1_weaker_23 rfl rfl (by decide) rfl ?_
      refine x_goto 28 dX1_weaker_24 (by decide) ?_
      refine x_iret dX1_weaker_28 rfl ⟨rfl, Nat.le_refl _⟩ (qp_i ?_ rfl)
      (unfold weaker; repeat' split) <;> omega
  · refine x_bipush 18 dX1_weaker_16 rfl (by decide) ?_
    refine x_iret dX1_weaker_18 rfl ⟨rfl, Nat.le_refl _⟩ (qp_i ?_ rfl)
    (unfold weaker; repeat' split) <;> omega

theorem Rep_beat {M : Mem} {o : Nat} {v : LV} (hR : Rep M o v) {l w x y z : Int} (hx : x = min 99 (vL v l + 1)) (hy : y = min 20 (vS v l + trains v l)) (hz : z = max 0 (vS v w - 1)) : Rep (up2 (up2 (up2 M (o + 3) l x) (o + 2) l y) (o + 2) w z) o (beat v l w) := by
  obtain ⟨r1, r2, r3, r4, r5⟩ := hR
  have q1 : ∀ k : Int, up2 (up2 (up2 M (o + 3) l x) (o + 2) l y) (o + 2) w z o k = M o k := fun k => by
    rw [up2_o _ _ _ (by omega), up2_o _ _ _ (by omega), up2_o _ _ _ (by omega)]
  refine ⟨(q1 6).trans r1, (q1 7).trans r2, (q1 8).trans r3, fun t h1 h2 => ?_, fun i h1 h2 => ?_⟩
  · obtain ⟨e1, e2, e3, e4⟩ := r4 t h1 h2
    refine ⟨?_, ?_, ?_, ?_⟩
    · rw [up2_o _ _ _ (by omega), up2_o _ _ _ (by omega), up2_o _ _ _ (by omega)]; exact e1
    · show _ = fu (fu (vS v) l (min 20 (vS v l + trains v l))) w (max 0 (vS v w - 1)) t
      rw [up2_i, up2_i, up2_o _ _ _ (by omega), hy, hz, e2]
      rfl
    · show _ = fu (vL v) l (min 99 (vL v l + 1)) t
      rw [up2_o _ _ _ (by omega), up2_o _ _ _ (by omega), up2_i, hx, e3]
      rfl
    · rw [up2_o _ _ _ (by omega), up2_o _ _ _ (by omega), up2_o _ _ _ (by omega)]; exact e4
  · rw [up2_o _ _ _ (by omega), up2_o _ _ _ (by omega), up2_o _ _ _ (by omega), up2_o _ _ _ (by omega), up2_o _ _ _ (by omega), up2_o _ _ _ (by omega)]
    exact r5 i h1 h2

set_option maxHeartbeats 4000000 in
theorem c_play {g : GG} {M : Mem} {o : Nat} {v : LV} (ho : isLg o) (hR : Rep M o v) (hW : WF v) (a b : Int) (ha : 0 ≤ a ∧ a < vn v) (hb : 0 ≤ b ∧ b < vn v) (hne : a ≠ b) : CI g tX1_play 3 [rv g o, iv a, iv b] M (fun r M2 => r = weaker v a b ∧ Rep M2 o (game v a b) ∧ Fr o M M2) := by
  refine Con.of [some (rv g o), some (iv a), some (iv b), none, none] (by decide +kernel) rfl (Nat.le_of_ble_eq_true rfl) ?_
  obtain ⟨ea1, ea2, ea3, ea4⟩ := hR.2.2.2.1 a ha.1 ha.2
  obtain ⟨eb1, eb2, eb3, eb4⟩ := hR.2.2.2.1 b hb.1 hb.2
  have h4 := hW.2.2.2.1 a ha.1 ha.2
  have h5 := hW.2.2.2.1 b hb.1 hb.2
  have h1 := hW.1
  have ta := trains_bd v a
  have tb := trains_bd v b
  have hwk := c_weaker (g := g) ho hR hW a b ha hb
  by_cases p1 : plays v a < plays v b
  · have hwe : weaker v a b = a := by unfold weaker; rw [if_pos p1]
    have hge : game v a b = beat v a b := by unfold game; rw [if_pos p1]
    rw [hwe] at hwk
    refine x_aload_n 1 0 dX1_play_0 rfl rfl (by decide) rfl ?_
    refine x_iload_n 2 1 dX1_play_1 rfl rfl (by decide) rfl ?_
    refine x_iload_n 3 2 dX1_play_2 rfl rfl (by decide) rfl ?_
    refine x_vp 6 [_, _] (hwk) mX1_weaker kX1_71 dX1_play_3 rfl (lg_s ho) ⟨by decide, rfl⟩ rfl rfl (Nat.le_of_ble_eq_true rfl) (by decide) ?_
    refine x_istore_n 7 3 _ dX1_play_6 rfl rfl (by decide) rfl rfl ?_
    refine x_iload_n 8 3 dX1_play_7 rfl rfl (by decide) rfl ?_
    refine x_if_lt 85 11 dX1_play_8 (by decide) rfl (by omega) (fun h8 => ?_) (fun h8 => ?_)
    · exfalso; omega
    · refine x_iload_n 12 3 dX1_play_11 rfl rfl (by decide) rfl ?_
      refine x_iload_n 13 1 dX1_play_12 rfl rfl (by decide) rfl ?_
      refine x_icmp_ne 20 16 dX1_play_13 (by decide) rfl (by omega) (fun h13 => ?_) (fun h13 => ?_)
      · exfalso; omega
      · refine x_iload_n 17 2 dX1_play_16 rfl rfl (by decide) rfl ?_
        refine x_goto 21 dX1_play_17 (by decide) ?_
        refine x_istore 23 4 _ dX1_play_21 rfl (by decide) rfl rfl ?_
        refine x_aload_n 24 0 dX1_play_23 rfl rfl (by decide) rfl ?_
        refine x_getR 27 2 (o + 3) dX1_play_24 rfl fX1_18 rfl (lg_s ho) (lg_r2 ho) ?_
        refine x_iload_n 28 3 dX1_play_27 rfl rfl (by decide) rfl ?_
        refine x_bipush 30 dX1_play_28 rfl (by decide) ?_
        refine x_aload_n 31 0 dX1_play_30 rfl rfl (by decide) rfl ?_
        refine x_getR 34 2 (o + 3) dX1_play_31 rfl fX1_18 rfl (lg_s ho) (lg_r2 ho) ?_
        refine x_iload_n 35 3 dX1_play_34 rfl rfl (by decide) rfl ?_
        refine x_iaload 36 dX1_play_35 rfl (lg_a2 ho) (by omega) (fun g35 => ?_)
        refine x_iconst 37 dX1_play_36 rfl ?_
        refine x_iadd 38 dX1_play_37 rfl ?_
        refine x_sp 41 [_, _] (c_imin _ _ (by omega) (by omega)) mJ9_min_7cf53 kX1_74 dX1_play_38 rfl rfl rfl (Nat.le_of_ble_eq_true rfl) (by decide) ?_
        refine x_iastore 42 dX1_play_41 rfl (lg_a2 ho) (by omega) (by omega) ?_
        refine x_aload_n 43 0 dX1_play_42 rfl rfl (by decide) rfl ?_
        refine x_getR 46 1 (o + 2) dX1_play_43 rfl fX1_15 rfl (lg_s ho) (lg_r1 ho) ?_
        refine x_iload_n 47 3 dX1_play_46 rfl rfl (by decide) rfl ?_
        refine x_bipush 49 dX1_play_47 rfl (by decide) ?_
        refine x_aload_n 50 0 dX1_play_49 rfl rfl (by decide) rfl ?_
        refine x_getR 53 1 (o + 2) dX1_play_50 rfl fX1_15 rfl (lg_s ho) (lg_r1 ho) ?_
        refine x_iload_n 54 3 dX1_play_53 rfl rfl (by decide) rfl ?_
        refine x_iaload 55 dX1_play_54 rfl (lg_a1 ho) (by omega) (fun g54 => ?_)
        rw [up2_o _ _ _ (show o + 2 ≠ o + 3 by omega)]
        refine x_aload_n 56 0 dX1_play_55 rfl rfl (by decide) rfl ?_
        refine x_iload_n 57 3 dX1_play_56 rfl rfl (by decide) rfl ?_
        refine x_vp 60 [_] (c_trains (v := v) ho _ (by omega) (by rw [up2_o _ _ _ (show o + 1 ≠ o + 3 by omega)]; exact ea1)) mX1_trainsNow kX1_77 dX1_play_57 rfl (lg_s ho) ⟨by decide, rfl⟩ rfl rfl (Nat.le_of_ble_eq_true rfl) (by decide) ?_
        refine x_iadd 61 dX1_play_60 rfl ?_
        refine x_sp 64 [_, _] (c_imin _ _ (by omega) (by omega)) mJ9_min_7cf53 kX1_74 dX1_play_61 rfl rfl rfl (Nat.le_of_ble_eq_true rfl) (by decide) ?_
        refine x_iastore 65 dX1_play_64 rfl (lg_a1 ho) (by omega) (by omega) ?_
        refine x_aload_n 66 0 dX1_play_65 rfl rfl (by decide) rfl ?_
        refine x_getR 69 1 (o + 2) dX1_play_66 rfl fX1_15 rfl (lg_s ho) (lg_r1 ho) ?_
        refine x_iload 71 4 dX1_play_69 rfl (by decide) rfl ?_
        refine x_iconst 72 dX1_play_71 rfl ?_
        refine x_aload_n 73 0 dX1_play_72 rfl rfl (by decide) rfl ?_
        refine x_getR 76 1 (o + 2) dX1_play_73 rfl fX1_15 rfl (lg_s ho) (lg_r1 ho) ?_
        refine x_iload 78 4 dX1_play_76 rfl (by decide) rfl ?_
        refine x_iaload 79 dX1_play_78 rfl (lg_a1 ho) (by omega) (fun g78 => ?_)
        rw [up2_k _ _ _ (show b ≠ a by omega), up2_o _ _ _ (show o + 2 ≠ o + 3 by omega)]
        refine x_iconst 80 dX1_play_79 rfl ?_
        refine x_isub 81 dX1_play_80 rfl ?_
        refine x_sp 84 [_, _] (c_imax _ _ (by omega) (by omega)) mJ9_max_7cf53 kX1_63 dX1_play_81 rfl rfl rfl (Nat.le_of_ble_eq_true rfl) (by decide) ?_
        refine x_iastore 85 dX1_play_84 rfl (lg_a1 ho) (by omega) (by omega) ?_
        refine x_iload_n 86 3 dX1_play_85 rfl rfl (by decide) rfl ?_
        refine x_iret dX1_play_86 rfl ⟨rfl, Nat.le_refl _⟩ (qi_i ?_)
        refine ⟨hwe.symm, ?_, ?_⟩
        · rw [hge]
          exact Rep_beat hR (by omega) (by omega) (by omega)
        · exact (((Fr.rf o M).up _ _ _ (by omega)).up _ _ _ (by omega)).up _ _ _ (by omega)
  by_cases p2 : plays v b < plays v a
  · have hwe : weaker v a b = b := by unfold weaker; rw [if_neg p1, if_pos p2]
    have hge : game v a b = beat v b a := by unfold game; rw [if_neg p1, if_pos p2]
    rw [hwe] at hwk
    refine x_aload_n 1 0 dX1_play_0 rfl rfl (by decide) rfl ?_
    refine x_iload_n 2 1 dX1_play_1 rfl rfl (by decide) rfl ?_
    refine x_iload_n 3 2 dX1_play_2 rfl rfl (by decide) rfl ?_
    refine x_vp 6 [_, _] (hwk) mX1_weaker kX1_71 dX1_play_3 rfl (lg_s ho) ⟨by decide, rfl⟩ rfl rfl (Nat.le_of_ble_eq_true rfl) (by decide) ?_
    refine x_istore_n 7 3 _ dX1_play_6 rfl rfl (by decide) rfl rfl ?_
    refine x_iload_n 8 3 dX1_play_7 rfl rfl (by decide) rfl ?_
    refine x_if_lt 85 11 dX1_play_8 (by decide) rfl (by omega) (fun h8 => ?_) (fun h8 => ?_)
    · exfalso; omega
    · refine x_iload_n 12 3 dX1_play_11 rfl rfl (by decide) rfl ?_
      refine x_iload_n 13 1 dX1_play_12 rfl rfl (by decide) rfl ?_
      refine x_icmp_ne 20 16 dX1_play_13 (by decide) rfl (by omega) (fun h13 => ?_) (fun h13 => ?_)
      · refine x_iload_n 21 1 dX1_play_20 rfl rfl (by decide) rfl ?_
        refine x_istore 23 4 _ dX1_play_21 rfl (by decide) rfl rfl ?_
        refine x_aload_n 24 0 dX1_play_23 rfl rfl (by decide) rfl ?_
        refine x_getR 27 2 (o + 3) dX1_play_24 rfl fX1_18 rfl (lg_s ho) (lg_r2 ho) ?_
        refine x_iload_n 28 3 dX1_play_27 rfl rfl (by decide) rfl ?_
        refine x_bipush 30 dX1_play_28 rfl (by decide) ?_
        refine x_aload_n 31 0 dX1_play_30 rfl rfl (by decide) rfl ?_
        refine x_getR 34 2 (o + 3) dX1_play_31 rfl fX1_18 rfl (lg_s ho) (lg_r2 ho) ?_
        refine x_iload_n 35 3 dX1_play_34 rfl rfl (by decide) rfl ?_
        refine x_iaload 36 dX1_play_35 rfl (lg_a2 ho) (by omega) (fun g35 => ?_)
        refine x_iconst 37 dX1_play_36 rfl ?_
        refine x_iadd 38 dX1_play_37 rfl ?_
        refine x_sp 41 [_, _] (c_imin _ _ (by omega) (by omega)) mJ9_min_7cf53 kX1_74 dX1_play_38 rfl rfl rfl (Nat.le_of_ble_eq_true rfl) (by decide) ?_
        refine x_iastore 42 dX1_play_41 rfl (lg_a2 ho) (by omega) (by omega) ?_
        refine x_aload_n 43 0 dX1_play_42 rfl rfl (by decide) rfl ?_
        refine x_getR 46 1 (o + 2) dX1_play_43 rfl fX1_15 rfl (lg_s ho) (lg_r1 ho) ?_
        refine x_iload_n 47 3 dX1_play_46 rfl rfl (by decide) rfl ?_
        refine x_bipush 49 dX1_play_47 rfl (by decide) ?_
        refine x_aload_n 50 0 dX1_play_49 rfl rfl (by decide) rfl ?_
        refine x_getR 53 1 (o + 2) dX1_play_50 rfl fX1_15 rfl (lg_s ho) (lg_r1 ho) ?_
        refine x_iload_n 54 3 dX1_play_53 rfl rfl (by decide) rfl ?_
        refine x_iaload 55 dX1_play_54 rfl (lg_a1 ho) (by omega) (fun g54 => ?_)
        rw [up2_o _ _ _ (show o + 2 ≠ o + 3 by omega)]
        refine x_aload_n 56 0 dX1_play_55 rfl rfl (by decide) rfl ?_
        refine x_iload_n 57 3 dX1_play_56 rfl rfl (by decide) rfl ?_
        refine x_vp 60 [_] (c_trains (v := v) ho _ (by omega) (by rw [up2_o _ _ _ (show o + 1 ≠ o + 3 by omega)]; exact eb1)) mX1_trainsNow kX1_77 dX1_play_57 rfl (lg_s ho) ⟨by decide, rfl⟩ rfl rfl (Nat.le_of_ble_eq_true rfl) (by decide) ?_
        refine x_iadd 61 dX1_play_60 rfl ?_
        refine x_sp 64 [_, _] (c_imin _ _ (by omega) (by omega)) mJ9_min_7cf53 kX1_74 dX1_play_61 rfl rfl rfl (Nat.le_of_ble_eq_true rfl) (by decide) ?_
        refine x_iastore 65 dX1_play_64 rfl (lg_a1 ho) (by omega) (by omega) ?_
        refine x_aload_n 66 0 dX1_play_65 rfl rfl (by decide) rfl ?_
        refine x_getR 69 1 (o + 2) dX1_play_66 rfl fX1_15 rfl (lg_s ho) (lg_r1 ho) ?_
        refine x_iload 71 4 dX1_play_69 rfl (by decide) rfl ?_
        refine x_iconst 72 dX1_play_71 rfl ?_
        refine x_aload_n 73 0 dX1_play_72 rfl rfl (by decide) rfl ?_
        refine x_getR 76 1 (o + 2) dX1_play_73 rfl fX1_15 rfl (lg_s ho) (lg_r1 ho) ?_
        refine x_iload 78 4 dX1_play_76 rfl (by decide) rfl ?_
        refine x_iaload 79 dX1_play_78 rfl (lg_a1 ho) (by omega) (fun g78 => ?_)
        rw [up2_k _ _ _ (show a ≠ b by omega), up2_o _ _ _ (show o + 2 ≠ o + 3 by omega)]
        refine x_iconst 80 dX1_play_79 rfl ?_
        refine x_isub 81 dX1_play_80 rfl ?_
        refine x_sp 84 [_, _] (c_imax _ _ (by omega) (by omega)) mJ9_max_7cf53 kX1_63 dX1_play_81 rfl rfl rfl (Nat.le_of_ble_eq_true rfl) (by decide) ?_
        refine x_iastore 85 dX1_play_84 rfl (lg_a1 ho) (by omega) (by omega) ?_
        refine x_iload_n 86 3 dX1_play_85 rfl rfl (by decide) rfl ?_
        refine x_iret dX1_play_86 rfl ⟨rfl, Nat.le_refl _⟩ (qi_i ?_)
        refine ⟨hwe.symm, ?_, ?_⟩
        · rw [hge]
          exact Rep_beat hR (by omega) (by omega) (by omega)
        · exact (((Fr.rf o M).up _ _ _ (by omega)).up _ _ _ (by omega)).up _ _ _ (by omega)
      · exfalso; omega
  · have hwe : weaker v a b = -4 := by unfold weaker; rw [if_neg p1, if_neg p2]
    have hge : game v a b = v := by unfold game; rw [if_neg p1, if_neg p2]
    rw [hwe] at hwk
    refine x_aload_n 1 0 dX1_play_0 rfl rfl (by decide) rfl ?_
    refine x_iload_n 2 1 dX1_play_1 rfl rfl (by decide) rfl ?_
    refine x_iload_n 3 2 dX1_play_2 rfl rfl (by decide) rfl ?_
    refine x_vp 6 [_, _] (hwk) mX1_weaker kX1_71 dX1_play_3 rfl (lg_s ho) ⟨by decide, rfl⟩ rfl rfl (Nat.le_of_ble_eq_true rfl) (by decide) ?_
    refine x_istore_n 7 3 _ dX1_play_6 rfl rfl (by decide) rfl rfl ?_
    refine x_iload_n 8 3 dX1_play_7 rfl rfl (by decide) rfl ?_
    refine x_if_lt 85 11 dX1_play_8 (by decide) rfl (by omega) (fun h8 => ?_) (fun h8 => ?_)
    · refine x_iload_n 86 3 dX1_play_85 rfl rfl (by decide) rfl ?_
      refine x_iret dX1_play_86 rfl ⟨rfl, Nat.le_refl _⟩ (qi_i ?_)
      exact ⟨hwe.symm, by rw [hge]; exact hR, Fr.rf o M⟩
    · exfalso; omega
end
section
/-! ===== one cell of a league changed ===== -/
def setK (v : LV) (f : Int → Int) : LV := (vn v, vf v, vw v, f, vS v, vL v, vO v, vA v, vB v)
def setS (v : LV) (f : Int → Int) : LV := (vn v, vf v, vw v, vK v, f, vL v, vO v, vA v, vB v)
def setL (v : LV) (f : Int → Int) : LV := (vn v, vf v, vw v, vK v, vS v, f, vO v, vA v, vB v)
def setO (v : LV) (f : Int → Int) : LV := (vn v, vf v, vw v, vK v, vS v, vL v, f, vA v, vB v)
def setA (v : LV) (f : Int → Int) : LV := (vn v, vf v, vw v, vK v, vS v, vL v, vO v, f, vB v)
def setB (v : LV) (f : Int → Int) : LV := (vn v, vf v, vw v, vK v, vS v, vL v, vO v, vA v, f)
def setN (v : LV) (x : Int) : LV := (x, vf v, vw v, vK v, vS v, vL v, vO v, vA v, vB v)
def setF (v : LV) (x : Int) : LV := (vn v, x, vw v, vK v, vS v, vL v, vO v, vA v, vB v)
theorem Rep.ext {M : Mem} {o : Nat} {v v' : LV} (h : Rep M o v) (e1 : vn v' = vn v) (e2 : vf v' = vf v) (e3 : vw v' = vw v) (e4 : ∀ t, 0 ≤ t → t < vn v → vK v' t = vK v t ∧ vS v' t = vS v t ∧ vL v' t = vL v t ∧ vO v' t = vO v t) (e5 : ∀ i, 0 ≤ i → i < vf v → vA v' i = vA v i ∧ vB v' i = vB v i) : Rep M o v' := by
  obtain ⟨r1, r2, r3, r4, r5⟩ := h
  refine ⟨r1.trans e1.symm, r2.trans e2.symm, r3.trans e3.symm, fun t a b => ?_, fun i a b => ?_⟩
  · rw [e1] at b
    obtain ⟨a1, a2, a3, a4⟩ := r4 t a b
    obtain ⟨b1, b2, b3, b4⟩ := e4 t a b
    exact ⟨a1.trans b1.symm, a2.trans b2.symm, a3.trans b3.symm, a4.trans b4.symm⟩
  · rw [e2] at b
    obtain ⟨a1, a2⟩ := r5 i a b
    obtain ⟨b1, b2⟩ := e5 i a b
    exact ⟨a1.trans b1.symm, a2.trans b2.symm⟩
theorem Rep_K {M : Mem} {o : Nat} {v : LV} (h : Rep M o v) (k x : Int) : Rep (up2 M (o + 1) k x) o (setK v (fu (vK v) k x)) := by
  obtain ⟨r1, r2, r3, r4, r5⟩ := h
  have q0 : up2 M (o + 1) k x o = M o := up2_o _ _ _ (by omega)
  refine ⟨(congrFun q0 6).trans r1, (congrFun q0 7).trans r2, (congrFun q0 8).trans r3, fun t a b => ?_, fun i a b => ?_⟩
  · obtain ⟨a1, a2, a3, a4⟩ := r4 t a b
    refine ⟨?_, ?_, ?_, ?_⟩
    · show up2 M (o + 1) k x (o + 1) t = fu (vK v) k x t
      rw [up2_i, a1]; rfl
    · exact (congrFun (up2_o M k x (show o + 2 ≠ o + 1 by omega)) t).trans a2
    · exact (congrFun (up2_o M k x (show o + 3 ≠ o + 1 by omega)) t).trans a3
    · exact (congrFun (up2_o M k x (show o + 4 ≠ o + 1 by omega)) t).trans a4
  · obtain ⟨a5, a6⟩ := r5 i a b
    refine ⟨?_, ?_⟩
    · exact (congrFun (up2_o M k x (show o + 5 ≠ o + 1 by omega)) i).trans a5
    · exact (congrFun (up2_o M k x (show o + 6 ≠ o + 1 by omega)) i).trans a6
theorem Rep_S {M : Mem} {o : Nat} {v : LV} (h : Rep M o v) (k x : Int) : Rep (up2 M (o + 2) k x) o (setS v (fu (vS v) k x)) := by
  obtain ⟨r1, r2, r3, r4, r5⟩ := h
  have q0 : up2 M (o + 2) k x o = M o := up2_o _ _ _ (by omega)
  refine ⟨(congrFun q0 6).trans r1, (congrFun q0 7).trans r2, (congrFun q0 8).trans r3, fun t a b => ?_, fun i a b => ?_⟩
  · obtain ⟨a1, a2, a3, a4⟩ := r4 t a b
    refine ⟨?_, ?_, ?_, ?_⟩
    · exact (congrFun (up2_o M k x (show o + 1 ≠ o + 2 by omega)) t).trans a1
    · show up2 M (o + 2) k x (o + 2) t = fu (vS v) k x t
      rw [up2_i, a2]; rfl
    · exact (congrFun (up2_o M k x (show o + 3 ≠ o + 2 by omega)) t).trans a3
    · exact (congrFun (up2_o M k x (show o + 4 ≠ o + 2 by omega)) t).trans a4
  · obtain ⟨a5, a6⟩ := r5 i a b
    refine ⟨?_, ?_⟩
    · exact (congrFun (up2_o M k x (show o + 5 ≠ o + 2 by omega)) i).trans a5
    · exact (congrFun (up2_o M k x (show o + 6 ≠ o + 2 by omega)) i).trans a6
theorem Rep_L {M : Mem} {o : Nat} {v : LV} (h : Rep M o v) (k x : Int) : Rep (up2 M (o + 3) k x) o (setL v (fu (vL v) k x)) := by
  obtain ⟨r1, r2, r3, r4, r5⟩ := h
  have q0 : up2 M (o + 3) k x o = M o := up2_o _ _ _ (by omega)
  refine ⟨(congrFun q0 6).trans r1, (congrFun q0 7).trans r2, (congrFun q0 8).trans r3, fun t a b => ?_, fun i a b => ?_⟩
  · obtain ⟨a1, a2, a3, a4⟩ := r4 t a b
    refine ⟨?_, ?_, ?_, ?_⟩
    · exact (congrFun (up2_o M k x (show o + 1 ≠ o + 3 by omega)) t).trans a1
    · exact (congrFun (up2_o M k x (show o + 2 ≠ o + 3 by omega)) t).trans a2
    · show up2 M (o + 3) k x (o + 3) t = fu (vL v) k x t
      rw [up2_i, a3]; rfl
    · exact (congrFun (up2_o M k x (show o + 4 ≠ o + 3 by omega)) t).trans a4
  · obtain ⟨a5, a6⟩ := r5 i a b
    refine ⟨?_, ?_⟩
    · exact (congrFun (up2_o M k x (show o + 5 ≠ o + 3 by omega)) i).trans a5
    · exact (congrFun (up2_o M k x (show o + 6 ≠ o + 3 by omega)) i).trans a6
theorem Rep_O {M : Mem} {o : Nat} {v : LV} (h : Rep M o v) (k x : Int) : Rep (up2 M (o + 4) k x) o (setO v (fu (vO v) k x)) := by
  obtain ⟨r1, r2, r3, r4, r5⟩ := h
  have q0 : up2 M (o + 4) k x o = M o := up2_o _ _ _ (by omega)
  refine ⟨(congrFun q0 6).trans r1, (congrFun q0 7).trans r2, (congrFun q0 8).trans r3, fun t a b => ?_, fun i a b => ?_⟩
  · obtain ⟨a1, a2, a3, a4⟩ := r4 t a b
    refine ⟨?_, ?_, ?_, ?_⟩
    · exact (congrFun (up2_o M k x (show o + 1 ≠ o + 4 by omega)) t).trans a1
    · exact (congrFun (up2_o M k x (show o + 2 ≠ o + 4 by omega)) t).trans a2
    · exact (congrFun (up2_o M k x (show o + 3 ≠ o + 4 by omega)) t).trans a3
    · show up2 M (o + 4) k x (o + 4) t = fu (vO v) k x t
      rw [up2_i, a4]; rfl
  · obtain ⟨a5, a6⟩ := r5 i a b
    refine ⟨?_, ?_⟩
    · exact (congrFun (up2_o M k x (show o + 5 ≠ o + 4 by omega)) i).trans a5
    · exact (congrFun (up2_o M k x (show o + 6 ≠ o + 4 by omega)) i).trans a6
theorem Rep_A {M : Mem} {o : Nat} {v : LV} (h : Rep M o v) (k x : Int) : Rep (up2 M (o + 5) k x) o (setA v (fu (vA v) k x)) := by
  obtain ⟨r1, r2, r3, r4, r5⟩ := h
  have q0 : up2 M (o + 5) k x o = M o := up2_o _ _ _ (by omega)
  refine ⟨(congrFun q0 6).trans r1, (congrFun q0 7).trans r2, (congrFun q0 8).trans r3, fun t a b => ?_, fun i a b => ?_⟩
  · obtain ⟨a1, a2, a3, a4⟩ := r4 t a b
    refine ⟨?_, ?_, ?_, ?_⟩
    · exact (congrFun (up2_o M k x (show o + 1 ≠ o + 5 by omega)) t).trans a1
    · exact (congrFun (up2_o M k x (show o + 2 ≠ o + 5 by omega)) t).trans a2
    · exact (congrFun (up2_o M k x (show o + 3 ≠ o + 5 by omega)) t).trans a3
    · exact (congrFun (up2_o M k x (show o + 4 ≠ o + 5 by omega)) t).trans a4
  · obtain ⟨a5, a6⟩ := r5 i a b
    refine ⟨?_, ?_⟩
    · show up2 M (o + 5) k x (o + 5) i = fu (vA v) k x i
      rw [up2_i, a5]; rfl
    · exact (congrFun (up2_o M k x (show o + 6 ≠ o + 5 by omega)) i).trans a6
theorem Rep_B {M : Mem} {o : Nat} {v : LV} (h : Rep M o v) (k x : Int) : Rep (up2 M (o + 6) k x) o (setB v (fu (vB v) k x)) := by
  obtain ⟨r1, r2, r3, r4, r5⟩ := h
  have q0 : up2 M (o + 6) k x o = M o := up2_o _ _ _ (by omega)
  refine ⟨(congrFun q0 6).trans r1, (congrFun q0 7).trans r2, (congrFun q0 8).trans r3, fun t a b => ?_, fun i a b => ?_⟩
  · obtain ⟨a1, a2, a3, a4⟩ := r4 t a b
    refine ⟨?_, ?_, ?_, ?_⟩
    · exact (congrFun (up2_o M k x (show o + 1 ≠ o + 6 by omega)) t).trans a1
    · exact (congrFun (up2_o M k x (show o + 2 ≠ o + 6 by omega)) t).trans a2
    · exact (congrFun (up2_o M k x (show o + 3 ≠ o + 6 by omega)) t).trans a3
    · exact (congrFun (up2_o M k x (show o + 4 ≠ o + 6 by omega)) t).trans a4
  · obtain ⟨a5, a6⟩ := r5 i a b
    refine ⟨?_, ?_⟩
    · exact (congrFun (up2_o M k x (show o + 5 ≠ o + 6 by omega)) i).trans a5
    · show up2 M (o + 6) k x (o + 6) i = fu (vB v) k x i
      rw [up2_i, a6]; rfl
theorem Rep_W {M : Mem} {o : Nat} {v : LV} (h : Rep M o v) (x : Int) : Rep (up2 M o 8 x) o (setW v x) := by
  obtain ⟨r1, r2, r3, r4, r5⟩ := h
  have q (j : Nat) (hj : 0 < j) : up2 M o 8 x (o + j) = M (o + j) := up2_o _ _ _ (by omega)
  refine ⟨(up2_k _ _ _ (by omega)).trans r1, (up2_k _ _ _ (by omega)).trans r2, up2_s _ _ _ _, fun t a b => ?_, fun i a b => ?_⟩
  · rw [q 1 (by omega), q 2 (by omega), q 3 (by omega), q 4 (by omega)]; exact r4 t a b
  · rw [q 5 (by omega), q 6 (by omega)]; exact r5 i a b
/-- the year closed for the first i towns -/
def yr (v : LV) (i : Int) : LV := (vn v, vf v, vw v, vK v, vS v, fun t => if t < i then 0 else vL v t, fun t => if t < i then (if vL v t = 0 then min 99 (vO v t + 1) else vO v t) else vO v t, vA v, vB v)
theorem yr_step0 {M : Mem} {o : Nat} {v : LV} {i x : Int} (h : Rep M o (yr v i)) (h0 : vL v i = 0) (hx : x = min 99 (vO v i + 1)) : Rep (up2 (up2 M (o + 4) i x) (o + 3) i 0) o (yr v (i + 1)) := by
  refine Rep.ext (Rep_L (Rep_O h i x) i 0) rfl rfl rfl (fun t a b => ⟨rfl, rfl, ?_, ?_⟩) (fun _ _ _ => ⟨rfl, rfl⟩)
  · show (if t < i + 1 then 0 else vL v t) = if t = i then 0 else if t < i then 0 else vL v t
    repeat' split
    all_goals first | rfl | omega
  · show (if t < i + 1 then (if vL v t = 0 then min 99 (vO v t + 1) else vO v t) else vO v t) = if t = i then x else if t < i then (if vL v t = 0 then min 99 (vO v t + 1) else vO v t) else vO v t
    by_cases e : t = i
    · subst e; rw [if_pos (by omega), if_pos h0, if_pos rfl, hx]
    · rw [if_neg e]
      by_cases e2 : t < i
      · rw [if_pos (by omega), if_pos e2]
      · rw [if_neg (by omega), if_neg e2]
theorem yr_step1 {M : Mem} {o : Nat} {v : LV} {i : Int} (h : Rep M o (yr v i)) (h0 : vL v i ≠ 0) : Rep (up2 M (o + 3) i 0) o (yr v (i + 1)) := by
  refine Rep.ext (Rep_L h i 0) rfl rfl rfl (fun t a b => ⟨rfl, rfl, ?_, ?_⟩) (fun _ _ _ => ⟨rfl, rfl⟩)
  · show (if t < i + 1 then 0 else vL v t) = if t = i then 0 else if t < i then 0 else vL v t
    repeat' split
    all_goals first | rfl | omega
  · show (if t < i + 1 then (if vL v t = 0 then min 99 (vO v t + 1) else vO v t) else vO v t) = if t < i then (if vL v t = 0 then min 99 (vO v t + 1) else vO v t) else vO v t
    by_cases e : t = i
    · subst e; rw [if_pos (by omega), if_neg h0, if_neg (by omega)]
    · by_cases e2 : t < i
      · rw [if_pos (by omega), if_pos e2]
      · rw [if_neg (by omega), if_neg e2]
theorem yr_0 {M : Mem} {o : Nat} {v : LV} (h : Rep M o v) : Rep M o (yr v 0) :=
  Rep.ext h rfl rfl rfl (fun t a _ => ⟨rfl, rfl, if_neg (by omega), if_neg (by omega)⟩) (fun _ _ _ => ⟨rfl, rfl⟩)
theorem yr_end {M : Mem} {o : Nat} {v : LV} {i : Int} (h : Rep M o (yr v i)) (hi : vn v ≤ i) : Rep M o (yearEnd v) :=
  Rep.ext h rfl rfl rfl (fun t _ b => ⟨rfl, rfl, (if_pos (show t < i from Int.lt_of_lt_of_le b hi)).symm, (if_pos (show t < i from Int.lt_of_lt_of_le b hi)).symm⟩) (fun _ _ _ => ⟨rfl, rfl⟩)
end
section
set_option maxHeartbeats 4000000 in
theorem c_closeYear {g : GG} {M : Mem} {o : Nat} {v : LV} (ho : isLg o) (hR : Rep M o v) (hW : WF v) : CV g tX1_closeYear 1 [rv g o] M (fun M2 => Rep M2 o (yearEnd v) ∧ Fr o M M2) := by
  refine Con.of [some (rv g o), none] (by decide +kernel) rfl (Nat.le_of_ble_eq_true rfl) ?_
  have h1 := hW.1
  have loop : ∀ (m : Nat) (i : Int) (M2 : Mem), vn v - i < m → 0 ≤ i → i ≤ vn v → Rep M2 o (yr v i) → Fr o M M2 → X g tX1_closeYear (kk0 1) 2 [some (rv g o), some (iv i)] [] (S0, R0, M2) (QV (fun M3 => Rep M3 o (yearEnd v) ∧ Fr o M M3)) := by
    intro m
    induction m with
    | zero => intro i M2 k1 k2 k3; omega
    | succ m ih =>
      intro i M2 k1 k2 k3 hR2 hF
      have e6 : M2 o 6 = vn v := hR2.1
      have eL : 0 ≤ i → i < vn v → M2 (o + 3) i = vL v i ∧ M2 (o + 4) i = vO v i := fun a b => ⟨(hR2.2.2.2.1 i a b).2.2.1.trans (if_neg (by omega)), (hR2.2.2.2.1 i a b).2.2.2.trans (if_neg (by omega))⟩
      refine x_iload_n 3 1 dX1_closeYear_2 rfl rfl (by decide) rfl ?_
      refine x_aload_n 4 0 dX1_closeYear_3 rfl rfl (by decide) rfl ?_
      refine x_getI 7 6 6 rfl dX1_closeYear_4 rfl fX1_30 rfl (lg_s ho) (fun g4 => ?_)
      refine x_icmp_ge 51 10 dX1_closeYear_7 (by decide) rfl (by omega) (fun h7 => ?_) (fun h7 => ?_)
      · refine x_vret dX1_closeYear_51 rfl ⟨rfl, Nat.le_refl _⟩ (qv_i ?_)
        exact ⟨yr_end hR2 (by omega), hF⟩
      · obtain ⟨eL1, eL2⟩ := eL (by omega) (by omega)
        have hb := hW.2.2.2.1 i (by omega) (by omega)
        refine x_aload_n 11 0 dX1_closeYear_10 rfl rfl (by decide) rfl ?_
        refine x_getR 14 2 (o + 3) dX1_closeYear_11 rfl fX1_18 rfl (lg_s ho) (lg_r2 ho) ?_
        refine x_iload_n 15 1 dX1_closeYear_14 rfl rfl (by decide) rfl ?_
        refine x_iaload 16 dX1_closeYear_15 rfl (lg_a2 ho) (by omega) (fun g15 => ?_)
        refine x_if_ne 38 19 dX1_closeYear_16 (by decide) rfl (by omega) (fun h16 => ?_) (fun h16 => ?_)
        · refine x_aload_n 39 0 dX1_closeYear_38 rfl rfl (by decide) rfl ?_
          refine x_getR 42 2 (o + 3) dX1_closeYear_39 rfl fX1_18 rfl (lg_s ho) (lg_r2 ho) ?_
          refine x_iload_n 43 1 dX1_closeYear_42 rfl rfl (by decide) rfl ?_
          refine x_iconst 44 dX1_closeYear_43 rfl ?_
          refine x_iastore 45 dX1_closeYear_44 rfl (lg_a2 ho) (by omega) (by omega) ?_
          refine x_iinc 48 _ dX1_closeYear_45 rfl (by decide) rfl rfl rfl ?_
          refine x_goto 2 dX1_closeYear_48 (by decide) ?_
          first | exact ih (i + 1) _ (by omega) (by omega) (by omega) (yr_step0 hR2 (by omega) (by omega)) ((hF.up _ _ _ (by omega)).up _ _ _ (by omega)) | exact ih (i + 1) _ (by omega) (by omega) (by omega) (yr_step1 hR2 (by omega)) (hF.up _ _ _ (by omega))
        · refine x_aload_n 20 0 dX1_closeYear_19 rfl rfl (by decide) rfl ?_
          refine x_getR 23 3 (o + 4) dX1_closeYear_20 rfl fX1_21 rfl (lg_s ho) (lg_r3 ho) ?_
          refine x_iload_n 24 1 dX1_closeYear_23 rfl rfl (by decide) rfl ?_
          refine x_bipush 26 dX1_closeYear_24 rfl (by decide) ?_
          refine x_aload_n 27 0 dX1_closeYear_26 rfl rfl (by decide) rfl ?_
          refine x_getR 30 3 (o + 4) dX1_closeYear_27 rfl fX1_21 rfl (lg_s ho) (lg_r3 ho) ?_
          refine x_iload_n 31 1 dX1_closeYear_30 rfl rfl (by decide) rfl ?_
          refine x_iaload 32 dX1_closeYear_31 rfl (lg_a3 ho) (by omega) (fun g31 => ?_)
          refine x_iconst 33 dX1_closeYear_32 rfl ?_
          refine x_iadd 34 dX1_closeYear_33 rfl ?_
          refine x_sp 37 [_, _] (c_imin _ _ (by omega) (by omega)) mJ9_min_7cf53 kX1_74 dX1_closeYear_34 rfl rfl rfl (Nat.le_of_ble_eq_true rfl) (by decide) ?_
          refine x_iastore 38 dX1_closeYear_37 rfl (lg_a3 ho) (by omega) (by omega) ?_
          refine x_aload_n 39 0 dX1_closeYear_38 rfl rfl (by decide) rfl ?_
          refine x_getR 42 2 (o + 3) dX1_closeYear_39 rfl fX1_18 rfl (lg_s ho) (lg_r2 ho) ?_
          refine x_iload_n 43 1 dX1_closeYear_42 rfl rfl (by decide) rfl ?_
          refine x_iconst 44 dX1_closeYear_43 rfl ?_
          refine x_iastore 45 dX1_closeYear_44 rfl (lg_a2 ho) (by omega) (by omega) ?_
          refine x_iinc 48 _ dX1_closeYear_45 rfl (by decide) rfl rfl rfl ?_
          refine x_goto 2 dX1_closeYear_48 (by decide) ?_
          first | exact ih (i + 1) _ (by omega) (by omega) (by omega) (yr_step0 hR2 (by omega) (by omega)) ((hF.up _ _ _ (by omega)).up _ _ _ (by omega)) | exact ih (i + 1) _ (by omega) (by omega) (by omega) (yr_step1 hR2 (by omega)) (hF.up _ _ _ (by omega))
  refine x_iconst 1 dX1_closeYear_0 rfl ?_
  refine x_istore_n 2 1 _ dX1_closeYear_1 rfl rfl (by decide) rfl rfl ?_
  exact loop ((vn v).toNat + 1) 0 M (by omega) (by omega) (by omega) (yr_0 hR) (Fr.rf o M)

set_option maxHeartbeats 4000000 in
theorem c_passWeek {g : GG} {M : Mem} {o : Nat} {v : LV} (ho : isLg o) (hR : Rep M o v) (hW : WF v) (hw : vw v ≤ 100000) : CV g tX1_passWeek 2 [rv g o] M (fun M2 => Rep M2 o (pass v) ∧ Fr o M M2) := by
  refine Con.of [some (rv g o)] (by decide +kernel) rfl (Nat.le_of_ble_eq_true rfl) ?_
  have h1 := hW.1
  have h2 := hW.2.1
  have h3 := hW.2.2.1
  obtain ⟨e6, e7, e8, -, -⟩ := id hR
  have hpc := c_closeYear (g := g) ho hR hW
  refine x_aload_n 1 0 dX1_passWeek_0 rfl rfl (by decide) rfl ?_
  refine x_getI 4 7 7 rfl dX1_passWeek_1 rfl fX1_34 rfl (lg_s ho) (fun g1 => ?_)
  refine x_if_le 24 7 dX1_passWeek_4 (by decide) rfl (by omega) (fun h4 => ?_) (fun h4 => ?_)
  · refine x_aload_n 25 0 dX1_passWeek_24 rfl rfl (by decide) rfl ?_
    refine x_dup 26 dX1_passWeek_25 rfl rfl ?_
    refine x_getI 29 8 8 rfl dX1_passWeek_26 rfl fX1_37 rfl (lg_s ho) (fun g26 => ?_)
    refine x_iconst 30 dX1_passWeek_29 rfl ?_
    refine x_iadd 31 dX1_passWeek_30 rfl ?_
    refine x_putI 34 8 8 rfl dX1_passWeek_31 rfl fX1_37 rfl rfl (lg_s ho) (by omega) ?_
    refine x_vret dX1_passWeek_34 rfl ⟨rfl, Nat.le_refl _⟩ (qv_i ?_)
    first
      | (have hp : pass v = setW (yearEnd v) (vw v + 1) := by (unfold pass; rw [if_pos ⟨by omega, by rw [← e8, ← e7]; omega⟩])
         rw [hp]; refine ⟨?_, hF.up _ _ _ (by omega)⟩; rw [e9]; exact Rep_W hR2 _)
      | (have hp : pass v = setW v (vw v + 1) := by (unfold pass; rw [if_neg (by rw [← e8, ← e7]; omega)])
         rw [hp]; refine ⟨?_, (Fr.rf o M).up _ _ _ (by omega)⟩; rw [e8]; exact Rep_W hR _)
  · have hfn := c_fixtureNow (g := g) ho (show 0 ≤ M o 8 by omega)
    rw [if_pos (show 0 < M o 7 by omega)] at hfn
    have hmd := Int.emod_nonneg (M o 8) (show M o 7 ≠ 0 by omega)
    have hml := Int.emod_lt_of_pos (M o 8) (show 0 < M o 7 by omega)
    refine x_aload_n 8 0 dX1_passWeek_7 rfl rfl (by decide) rfl ?_
    refine x_vp 11 [] (hfn) mX1_fixtureNow kX1_80 dX1_passWeek_8 rfl (lg_s ho) ⟨by decide, rfl⟩ rfl rfl (Nat.le_of_ble_eq_true rfl) (by decide) ?_
    refine x_aload_n 12 0 dX1_passWeek_11 rfl rfl (by decide) rfl ?_
    refine x_getI 15 7 7 rfl dX1_passWeek_12 rfl fX1_34 rfl (lg_s ho) (fun g12 => ?_)
    refine x_iconst 16 dX1_passWeek_15 rfl ?_
    refine x_isub 17 dX1_passWeek_16 rfl ?_
    refine x_icmp_ne 24 20 dX1_passWeek_17 (by decide) rfl (by omega) (fun h17 => ?_) (fun h17 => ?_)
    · refine x_aload_n 25 0 dX1_passWeek_24 rfl rfl (by decide) rfl ?_
      refine x_dup 26 dX1_passWeek_25 rfl rfl ?_
      refine x_getI 29 8 8 rfl dX1_passWeek_26 rfl fX1_37 rfl (lg_s ho) (fun g26 => ?_)
      refine x_iconst 30 dX1_passWeek_29 rfl ?_
      refine x_iadd 31 dX1_passWeek_30 rfl ?_
      refine x_putI 34 8 8 rfl dX1_passWeek_31 rfl fX1_37 rfl rfl (lg_s ho) (by omega) ?_
      refine x_vret dX1_passWeek_34 rfl ⟨rfl, Nat.le_refl _⟩ (qv_i ?_)
      first
        | (have hp : pass v = setW (yearEnd v) (vw v + 1) := by (unfold pass; rw [if_pos ⟨by omega, by rw [← e8, ← e7]; omega⟩])
           rw [hp]; refine ⟨?_, hF.up _ _ _ (by omega)⟩; rw [e9]; exact Rep_W hR2 _)
        | (have hp : pass v = setW v (vw v + 1) := by (unfold pass; rw [if_neg (by rw [← e8, ← e7]; omega)])
           rw [hp]; refine ⟨?_, (Fr.rf o M).up _ _ _ (by omega)⟩; rw [e8]; exact Rep_W hR _)
    · refine x_aload_n 21 0 dX1_passWeek_20 rfl rfl (by decide) rfl ?_
      refine x_vv 24 [] (hpc) mX1_closeYear kX1_90 dX1_passWeek_21 rfl (lg_s ho) ⟨by decide, rfl⟩ rfl rfl (Nat.le_of_ble_eq_true rfl) (by decide) (fun M2 hq => ?_)
      obtain ⟨hR2, hF⟩ := hq
      have e9 : M2 o 8 = vw v := hR2.2.2.1
      refine x_aload_n 25 0 dX1_passWeek_24 rfl rfl (by decide) rfl ?_
      refine x_dup 26 dX1_passWeek_25 rfl rfl ?_
      refine x_getI 29 8 8 rfl dX1_passWeek_26 rfl fX1_37 rfl (lg_s ho) (fun g26 => ?_)
      refine x_iconst 30 dX1_passWeek_29 rfl ?_
      refine x_iadd 31 dX1_passWeek_30 rfl ?_
      refine x_putI 34 8 8 rfl dX1_passWeek_31 rfl fX1_37 rfl rfl (lg_s ho) (by omega) ?_
      refine x_vret dX1_passWeek_34 rfl ⟨rfl, Nat.le_refl _⟩ (qv_i ?_)
      first
        | (have hp : pass v = setW (yearEnd v) (vw v + 1) := by (unfold pass; rw [if_pos ⟨by omega, by rw [← e8, ← e7]; omega⟩])
           rw [hp]; refine ⟨?_, hF.up _ _ _ (by omega)⟩; rw [e9]; exact Rep_W hR2 _)
        | (have hp : pass v = setW v (vw v + 1) := by (unfold pass; rw [if_neg (by rw [← e8, ← e7]; omega)])
           rw [hp]; refine ⟨?_, (Fr.rf o M).up _ _ _ (by omega)⟩; rw [e8]; exact Rep_W hR _)
end
section
set_option maxHeartbeats 4000000 in
theorem c_runWeekOf {g : GG} {M : Mem} {o : Nat} {v : LV} (ho : isLg o) (hR : Rep M o v) (hW : WF v) (hw : vw v ≤ 100000) (a b : Int) (ha : 0 ≤ a ∧ a < vn v) (hb : 0 ≤ b ∧ b < vn v) (hne : a ≠ b) : CI g tX1_runWeekOf 4 [rv g o, iv a, iv b] M (fun r M2 => r = weaker v a b ∧ Rep M2 o (pass (game v a b)) ∧ Fr o M M2) := by
  refine Con.of [some (rv g o), some (iv a), some (iv b), none] (by decide +kernel) rfl (Nat.le_of_ble_eq_true rfl) ?_
  have hpl := c_play (g := g) ho hR hW a b ha hb hne
  refine x_aload_n 1 0 dX1_runWeekOf_0 rfl rfl (by decide) rfl ?_
  refine x_iload_n 2 1 dX1_runWeekOf_1 rfl rfl (by decide) rfl ?_
  refine x_iload_n 3 2 dX1_runWeekOf_2 rfl rfl (by decide) rfl ?_
  refine x_vi 6 [_, _] (hpl) mX1_play kX1_84 dX1_runWeekOf_3 rfl (lg_s ho) ⟨by decide, rfl⟩ rfl rfl (Nat.le_of_ble_eq_true rfl) (by decide) (fun r M2 q2 => ?_)
  obtain ⟨rfl, hR2, hF2⟩ := q2
  have hps := c_passWeek (g := g) ho hR2 (game_WF hW ha hb) (by rw [vw_game]; exact hw)
  refine x_istore_n 7 3 _ dX1_runWeekOf_6 rfl rfl (by decide) rfl rfl ?_
  refine x_aload_n 8 0 dX1_runWeekOf_7 rfl rfl (by decide) rfl ?_
  refine x_vv 11 [] (hps) mX1_passWeek kX1_87 dX1_runWeekOf_8 rfl (lg_s ho) ⟨by decide, rfl⟩ rfl rfl (Nat.le_of_ble_eq_true rfl) (by decide) (fun M3 q3 => ?_)
  obtain ⟨hR3, hF3⟩ := q3
  refine x_iload_n 12 3 dX1_runWeekOf_11 rfl rfl (by decide) rfl ?_
  refine x_iret dX1_runWeekOf_12 rfl ⟨rfl, Nat.le_refl _⟩ (qi_i ?_)
  exact ⟨rfl, hR3, hF2.tr hF3⟩

set_option maxHeartbeats 4000000 in
theorem c_runWeek {g : GG} {M : Mem} {o : Nat} {v : LV} (ho : isLg o) (hR : Rep M o v) (hW : WF v) (hw : vw v ≤ 100000) (r : Int) (hr : r = 0 ∨ r = 1) : CI g tX1_runWeek 4 [rv g o, iv r] M (fun q M2 => q = wkL v r ∧ Rep M2 o (wkV v r) ∧ Fr o M M2) := by
  refine Con.of [some (rv g o), some (iv r), none, none] (by decide +kernel) rfl (Nat.le_of_ble_eq_true rfl) ?_
  have h1 := hW.1
  have h2 := hW.2.1
  have h3 := hW.2.2.1
  obtain ⟨e6, e7, e8, -, e5⟩ := id hR
  have hfn := c_fixtureNow (g := g) ho (show 0 ≤ M o 8 by omega)
  by_cases hf : 0 < vf v
  · have hnow := now_in hW hf
    rw [if_pos (show 0 < M o 7 by omega), e8, e7] at hfn
    obtain ⟨ea, eb⟩ := e5 _ hnow.1 hnow.2
    have h5 := hW.2.2.2.2 _ hnow.1 hnow.2
    have hpl := c_play (g := g) ho hR hW _ _ h5.1 h5.2.1 h5.2.2
    refine x_aload_n 1 0 dX1_runWeek_0 rfl rfl (by decide) rfl ?_
    refine x_vp 4 [] (hfn) mX1_fixtureNow kX1_80 dX1_runWeek_1 rfl (lg_s ho) ⟨by decide, rfl⟩ rfl rfl (Nat.le_of_ble_eq_true rfl) (by decide) ?_
    refine x_istore_n 5 2 _ dX1_runWeek_4 rfl rfl (by decide) rfl rfl ?_
    refine x_iload_n 6 2 dX1_runWeek_5 rfl rfl (by decide) rfl ?_
    refine x_if_lt 13 9 dX1_runWeek_6 (by decide) rfl (by omega) (fun h6 => ?_) (fun h6 => ?_)
    · exfalso; omega
    · refine x_iload_n 10 1 dX1_runWeek_9 rfl rfl (by decide) rfl ?_
      refine x_if_eq 18 13 dX1_runWeek_10 (by decide) rfl (by omega) (fun h10 => ?_) (fun h10 => ?_)
      · refine x_aload_n 19 0 dX1_runWeek_18 rfl rfl (by decide) rfl ?_
        refine x_aload_n 20 0 dX1_runWeek_19 rfl rfl (by decide) rfl ?_
        refine x_getR 23 4 (o + 5) dX1_runWeek_20 rfl fX1_24 rfl (lg_s ho) (lg_r4 ho) ?_
        refine x_iload_n 24 2 dX1_runWeek_23 rfl rfl (by decide) rfl ?_
        refine x_iaload 25 dX1_runWeek_24 rfl (lg_a4 ho) (by omega) (fun g24 => ?_)
        rw [ea]
        refine x_aload_n 26 0 dX1_runWeek_25 rfl rfl (by decide) rfl ?_
        refine x_getR 29 5 (o + 6) dX1_runWeek_26 rfl fX1_27 rfl (lg_s ho) (lg_r5 ho) ?_
        refine x_iload_n 30 2 dX1_runWeek_29 rfl rfl (by decide) rfl ?_
        refine x_iaload 31 dX1_runWeek_30 rfl (lg_a5 ho) (by omega) (fun g30 => ?_)
        rw [eb]
        refine x_vi 34 [_, _] (hpl) mX1_play kX1_84 dX1_runWeek_31 rfl (lg_s ho) ⟨by decide, rfl⟩ rfl rfl (Nat.le_of_ble_eq_true rfl) (by decide) (fun r M2 q2 => ?_)
        obtain ⟨rfl, hR2, hF2⟩ := q2
        have hps := c_passWeek (g := g) ho hR2 (game_WF hW h5.1 h5.2.1) (by rw [vw_game]; exact hw)
        refine x_istore_n 35 3 _ dX1_runWeek_34 rfl rfl (by decide) rfl rfl ?_
        refine x_aload_n 36 0 dX1_runWeek_35 rfl rfl (by decide) rfl ?_
        refine x_vv 39 [] (hps) mX1_passWeek kX1_87 dX1_runWeek_36 rfl (lg_s ho) ⟨by decide, rfl⟩ rfl rfl (Nat.le_of_ble_eq_true rfl) (by decide) (fun M3 q3 => ?_)
        obtain ⟨hR3, hF3⟩ := q3
        refine x_iload_n 40 3 dX1_runWeek_39 rfl rfl (by decide) rfl ?_
        refine x_iret dX1_runWeek_40 rfl ⟨rfl, Nat.le_refl _⟩ (qi_i ?_)
        first
          | (refine ⟨?_, ?_, hF2.tr hF3⟩
             · unfold wkL; rw [if_pos ⟨hf, by omega⟩]
             · unfold wkV; rw [if_pos ⟨hf, by omega⟩]; exact hR3)
          | (refine ⟨?_, ?_, hF3⟩
             · unfold wkL; rw [if_neg (by omega)]
             · unfold wkV; rw [if_neg (by omega)]; exact hR3)
      · have hps := c_passWeek (g := g) ho hR hW hw
        refine x_bipush 15 dX1_runWeek_13 rfl (by decide) ?_
        refine x_goto 34 dX1_runWeek_15 (by decide) ?_
        refine x_istore_n 35 3 _ dX1_runWeek_34 rfl rfl (by decide) rfl rfl ?_
        refine x_aload_n 36 0 dX1_runWeek_35 rfl rfl (by decide) rfl ?_
        refine x_vv 39 [] (hps) mX1_passWeek kX1_87 dX1_runWeek_36 rfl (lg_s ho) ⟨by decide, rfl⟩ rfl rfl (Nat.le_of_ble_eq_true rfl) (by decide) (fun M3 q3 => ?_)
        obtain ⟨hR3, hF3⟩ := q3
        refine x_iload_n 40 3 dX1_runWeek_39 rfl rfl (by decide) rfl ?_
        refine x_iret dX1_runWeek_40 rfl ⟨rfl, Nat.le_refl _⟩ (qi_i ?_)
        first
          | (refine ⟨?_, ?_, hF2.tr hF3⟩
             · unfold wkL; rw [if_pos ⟨hf, by omega⟩]
             · unfold wkV; rw [if_pos ⟨hf, by omega⟩]; exact hR3)
          | (refine ⟨?_, ?_, hF3⟩
             · unfold wkL; rw [if_neg (by omega)]
             · unfold wkV; rw [if_neg (by omega)]; exact hR3)
  · rw [if_neg (show ¬ 0 < M o 7 by omega)] at hfn
    have hps := c_passWeek (g := g) ho hR hW hw
    refine x_aload_n 1 0 dX1_runWeek_0 rfl rfl (by decide) rfl ?_
    refine x_vp 4 [] (hfn) mX1_fixtureNow kX1_80 dX1_runWeek_1 rfl (lg_s ho) ⟨by decide, rfl⟩ rfl rfl (Nat.le_of_ble_eq_true rfl) (by decide) ?_
    refine x_istore_n 5 2 _ dX1_runWeek_4 rfl rfl (by decide) rfl rfl ?_
    refine x_iload_n 6 2 dX1_runWeek_5 rfl rfl (by decide) rfl ?_
    refine x_if_lt 13 9 dX1_runWeek_6 (by decide) rfl (by omega) (fun h6 => ?_) (fun h6 => ?_)
    · refine x_bipush 15 dX1_runWeek_13 rfl (by decide) ?_
      refine x_goto 34 dX1_runWeek_15 (by decide) ?_
      refine x_istore_n 35 3 _ dX1_runWeek_34 rfl rfl (by decide) rfl rfl ?_
      refine x_aload_n 36 0 dX1_runWeek_35 rfl rfl (by decide) rfl ?_
      refine x_vv 39 [] (hps) mX1_passWeek kX1_87 dX1_runWeek_36 rfl (lg_s ho) ⟨by decide, rfl⟩ rfl rfl (Nat.le_of_ble_eq_true rfl) (by decide) (fun M3 q3 => ?_)
      obtain ⟨hR3, hF3⟩ := q3
      refine x_iload_n 40 3 dX1_runWeek_39 rfl rfl (by decide) rfl ?_
      refine x_iret dX1_runWeek_40 rfl ⟨rfl, Nat.le_refl _⟩ (qi_i ?_)
      refine ⟨?_, ?_, hF3⟩
      · unfold wkL; rw [if_neg (by omega)]
      · unfold wkV; rw [if_neg (by omega)]; exact hR3
    · exfalso; omega

set_option maxHeartbeats 4000000 in
theorem c_runWeeks {g : GG} {M : Mem} {o : Nat} {v : LV} (ho : isLg o) (hR : Rep M o v) (hW : WF v) (n : Nat) (hn : n ≤ 100) (hw : vw v ≤ 10000) : CI g tX1_runWeeks 5 [rv g o, iv n] M (fun r M2 => r = goL v n ∧ Rep M2 o (goV v n) ∧ Fr o M M2) := by
  refine Con.of [some (rv g o), some (iv n), none, none] (by decide +kernel) rfl (Nat.le_of_ble_eq_true rfl) ?_
  have loop : ∀ (m : Nat) (k : Nat) (M2 : Mem), n - k < m → k ≤ n → Rep M2 o (goV v k) → Fr o M M2 → X g tX1_runWeeks (kk0 5) 4 [some (rv g o), some (iv n), some (iv (goL v k)), some (iv k)] [] (S0, R0, M2) (QI (fun r M3 => r = goL v n ∧ Rep M3 o (goV v n) ∧ Fr o M M3)) := by
    intro m
    induction m with
    | zero => intro k M2 k1 k2; omega
    | succ m ih =>
      intro k M2 k1 k2 hR2 hF
      have hb := goL_bd v k
      have hgw := goV_w v k
      refine x_iload_n 5 3 dX1_runWeeks_4 rfl rfl (by decide) rfl ?_
      refine x_iload_n 6 1 dX1_runWeeks_5 rfl rfl (by decide) rfl ?_
      refine x_icmp_ge 26 9 dX1_runWeeks_6 (by decide) rfl (by omega) (fun h6 => ?_) (fun h6 => ?_)
      · refine x_iload_n 27 2 dX1_runWeeks_26 rfl rfl (by decide) rfl ?_
        refine x_iret dX1_runWeeks_27 rfl ⟨rfl, Nat.le_refl _⟩ (qi_i ?_)
        have hk : k = n := by omega
        subst hk
        exact ⟨rfl, hR2, hF⟩
      · refine x_aload_n 10 0 dX1_runWeeks_9 rfl rfl (by decide) rfl ?_
        refine x_iconst 11 dX1_runWeeks_10 rfl ?_
        refine x_vi 14 [_] (c_runWeek ho hR2 (goV_WF hW k) (by omega) 0 (Or.inl rfl)) mX1_runWeek kX1_93 dX1_runWeeks_11 rfl (lg_s ho) ⟨by decide, rfl⟩ rfl rfl (Nat.le_of_ble_eq_true rfl) (by decide) (fun r M3 q3 => ?_)
        obtain ⟨rfl, hR3, hF3⟩ := q3
        have hin := wkL_in (goV_WF hW k) 0
        have hn5 := (goV_WF hW k).1
        refine x_if_lt 20 17 dX1_runWeeks_14 (by decide) rfl (by omega) (fun h14 => ?_) (fun h14 => ?_)
        · refine x_iinc 23 _ dX1_runWeeks_20 rfl (by decide) rfl rfl rfl ?_
          refine x_goto 4 dX1_runWeeks_23 (by decide) ?_
          have hg : goL v (k + 1) = goL v k + (if 0 ≤ wkL (goV v k) 0 then 1 else 0) := rfl
          first | rw [if_neg (by omega)] at hg | rw [if_pos (by omega)] at hg
          have ih2 := ih (k + 1) _ (by omega) (by omega) hR3 (hF.tr hF3)
          rw [hg] at ih2
          first | exact ih2 | (rw [Int.add_zero] at ih2; exact ih2)
        · refine x_iinc 20 _ dX1_runWeeks_17 rfl (by decide) rfl rfl rfl ?_
          refine x_iinc 23 _ dX1_runWeeks_20 rfl (by decide) rfl rfl rfl ?_
          refine x_goto 4 dX1_runWeeks_23 (by decide) ?_
          have hg : goL v (k + 1) = goL v k + (if 0 ≤ wkL (goV v k) 0 then 1 else 0) := rfl
          first | rw [if_neg (by omega)] at hg | rw [if_pos (by omega)] at hg
          have ih2 := ih (k + 1) _ (by omega) (by omega) hR3 (hF.tr hF3)
          rw [hg] at ih2
          first | exact ih2 | (rw [Int.add_zero] at ih2; exact ih2)
  refine x_iconst 1 dX1_runWeeks_0 rfl ?_
  refine x_istore_n 2 2 _ dX1_runWeeks_1 rfl rfl (by decide) rfl rfl ?_
  refine x_iconst 3 dX1_runWeeks_2 rfl ?_
  refine x_istore_n 4 3 _ dX1_runWeeks_3 rfl rfl (by decide) rfl rfl ?_
  exact loop (n + 1) 0 M (by omega) (by omega) hR (Fr.rf o M)
end
