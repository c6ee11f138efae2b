/-- a private method of a class that the tables say can be made, by its rows of tables_1 -/
def lw_okq (q : MethodName × Nat) : Prop := (q.1.cls ≠ "java/lang/invoke/MethodHandle" ∧ q.1.cls ≠ "java/lang/invoke/VarHandle") ∧ Cond.instantiable q.1.cls q.2 ∈ tables_1 ∧ Cond.privateMethod q.1 ∈ tables_1 ∧ Cond.instanceMethod q.1 ∈ tables_1
theorem lw_p0 : lw_okq (⟨"LoseLeague$TextReader", "readToken", "()Z"⟩, 7) := ⟨⟨by decide +kernel, by decide +kernel⟩, List.mem_of_getElem? (i := 24) (by decide +kernel), List.mem_of_getElem? (i := 235) (by decide +kernel), List.mem_of_getElem? (i := 236) (by decide +kernel)⟩
theorem lw_p1 : lw_okq (⟨"LoseLeague$TextReader", "takeName", "()Z"⟩, 7) := ⟨⟨by decide +kernel, by decide +kernel⟩, List.mem_of_getElem? (i := 24) (by decide +kernel), List.mem_of_getElem? (i := 246) (by decide +kernel), List.mem_of_getElem? (i := 247) (by decide +kernel)⟩
theorem lw_p2 : lw_okq (⟨"LoseLeague$TextReader", "takeNumber", "()Z"⟩, 7) := ⟨⟨by decide +kernel, by decide +kernel⟩, List.mem_of_getElem? (i := 24) (by decide +kernel), List.mem_of_getElem? (i := 253) (by decide +kernel), List.mem_of_getElem? (i := 254) (by decide +kernel)⟩
theorem lw_p3 : lw_okq (⟨"LoseLeague$TextReader", "refuse", "(I)Z"⟩, 7) := ⟨⟨by decide +kernel, by decide +kernel⟩, List.mem_of_getElem? (i := 24) (by decide +kernel), List.mem_of_getElem? (i := 257) (by decide +kernel), List.mem_of_getElem? (i := 258) (by decide +kernel)⟩
theorem lw_p4 : lw_okq (⟨"LoseLeague$TextReader", "wordRead", "()I"⟩, 7) := ⟨⟨by decide +kernel, by decide +kernel⟩, List.mem_of_getElem? (i := 24) (by decide +kernel), List.mem_of_getElem? (i := 273) (by decide +kernel), List.mem_of_getElem? (i := 274) (by decide +kernel)⟩
theorem lw_p5 : lw_okq (⟨"LoseLeague$TextReader", "spells", "(Ljava/lang/String;)Z"⟩, 7) := ⟨⟨by decide +kernel, by decide +kernel⟩, List.mem_of_getElem? (i := 24) (by decide +kernel), List.mem_of_getElem? (i := 278) (by decide +kernel), List.mem_of_getElem? (i := 279) (by decide +kernel)⟩
theorem lw_p6 : lw_okq (⟨"LoseLeague$TextReader", "readGame", "(LLoseLeague$League;)Z"⟩, 7) := ⟨⟨by decide +kernel, by decide +kernel⟩, List.mem_of_getElem? (i := 24) (by decide +kernel), List.mem_of_getElem? (i := 334) (by decide +kernel), List.mem_of_getElem? (i := 335) (by decide +kernel)⟩
theorem lw_p7 : lw_okq (⟨"LoseLeague$TextReader", "readNumber", "(I)Z"⟩, 7) := ⟨⟨by decide +kernel, by decide +kernel⟩, List.mem_of_getElem? (i := 24) (by decide +kernel), List.mem_of_getElem? (i := 342) (by decide +kernel), List.mem_of_getElem? (i := 343) (by decide +kernel)⟩
theorem lw_p8 : lw_okq (⟨"LoseLeague$TextReader", "readSign", "()Z"⟩, 7) := ⟨⟨by decide +kernel, by decide +kernel⟩, List.mem_of_getElem? (i := 24) (by decide +kernel), List.mem_of_getElem? (i := 346) (by decide +kernel), List.mem_of_getElem? (i := 347) (by decide +kernel)⟩
theorem lw_p9 : lw_okq (⟨"LoseLeague$TextReader", "readTown", "(LLoseLeague$League;I)Z"⟩, 7) := ⟨⟨by decide +kernel, by decide +kernel⟩, List.mem_of_getElem? (i := 24) (by decide +kernel), List.mem_of_getElem? (i := 355) (by decide +kernel), List.mem_of_getElem? (i := 356) (by decide +kernel)⟩
theorem lw_p10 : lw_okq (⟨"LoseLeague$League", "play", "(II)I"⟩, 9) := ⟨⟨by decide +kernel, by decide +kernel⟩, List.mem_of_getElem? (i := 71) (by decide +kernel), List.mem_of_getElem? (i := 467) (by decide +kernel), List.mem_of_getElem? (i := 468) (by decide +kernel)⟩
theorem lw_p11 : lw_okq (⟨"LoseLeague$League", "trainsNow", "(I)I"⟩, 9) := ⟨⟨by decide +kernel, by decide +kernel⟩, List.mem_of_getElem? (i := 71) (by decide +kernel), List.mem_of_getElem? (i := 475) (by decide +kernel), List.mem_of_getElem? (i := 476) (by decide +kernel)⟩
theorem lw_p12 : lw_okq (⟨"LoseLeague$League", "passWeek", "()V"⟩, 9) := ⟨⟨by decide +kernel, by decide +kernel⟩, List.mem_of_getElem? (i := 71) (by decide +kernel), List.mem_of_getElem? (i := 479) (by decide +kernel), List.mem_of_getElem? (i := 480) (by decide +kernel)⟩
theorem lw_p13 : lw_okq (⟨"LoseLeague$League", "closeYear", "()V"⟩, 9) := ⟨⟨by decide +kernel, by decide +kernel⟩, List.mem_of_getElem? (i := 71) (by decide +kernel), List.mem_of_getElem? (i := 483) (by decide +kernel), List.mem_of_getElem? (i := 484) (by decide +kernel)⟩
theorem lw_p14 : lw_okq (⟨"LoseLeague", "findBestOrder", "()V"⟩, 13) := ⟨⟨by decide +kernel, by decide +kernel⟩, List.mem_of_getElem? (i := 16) (by decide +kernel), List.mem_of_getElem? (i := 512) (by decide +kernel), List.mem_of_getElem? (i := 513) (by decide +kernel)⟩
theorem lw_p15 : lw_okq (⟨"LoseLeague", "setRow", "(I)V"⟩, 13) := ⟨⟨by decide +kernel, by decide +kernel⟩, List.mem_of_getElem? (i := 16) (by decide +kernel), List.mem_of_getElem? (i := 523) (by decide +kernel), List.mem_of_getElem? (i := 524) (by decide +kernel)⟩
def lw_privs_1 : List (MethodName × Nat) := [(⟨"LoseLeague$TextReader", "readToken", "()Z"⟩, 7), (⟨"LoseLeague$TextReader", "takeName", "()Z"⟩, 7), (⟨"LoseLeague$TextReader", "takeNumber", "()Z"⟩, 7), (⟨"LoseLeague$TextReader", "refuse", "(I)Z"⟩, 7), (⟨"LoseLeague$TextReader", "wordRead", "()I"⟩, 7), (⟨"LoseLeague$TextReader", "spells", "(Ljava/lang/String;)Z"⟩, 7), (⟨"LoseLeague$TextReader", "readGame", "(LLoseLeague$League;)Z"⟩, 7), (⟨"LoseLeague$TextReader", "readNumber", "(I)Z"⟩, 7), (⟨"LoseLeague$TextReader", "readSign", "()Z"⟩, 7), (⟨"LoseLeague$TextReader", "readTown", "(LLoseLeague$League;I)Z"⟩, 7), (⟨"LoseLeague$League", "play", "(II)I"⟩, 9), (⟨"LoseLeague$League", "trainsNow", "(I)I"⟩, 9), (⟨"LoseLeague$League", "passWeek", "()V"⟩, 9), (⟨"LoseLeague$League", "closeYear", "()V"⟩, 9), (⟨"LoseLeague", "findBestOrder", "()V"⟩, 13), (⟨"LoseLeague", "setRow", "(I)V"⟩, 13)]
theorem lw_r1 : ∀ q ∈ lw_privs_1, lw_okq q := List.forall_mem_cons.mpr ⟨lw_p0, List.forall_mem_cons.mpr ⟨lw_p1, List.forall_mem_cons.mpr ⟨lw_p2, List.forall_mem_cons.mpr ⟨lw_p3, List.forall_mem_cons.mpr ⟨lw_p4, List.forall_mem_cons.mpr ⟨lw_p5, List.forall_mem_cons.mpr ⟨lw_p6, List.forall_mem_cons.mpr ⟨lw_p7, List.forall_mem_cons.mpr ⟨lw_p8, List.forall_mem_cons.mpr ⟨lw_p9, List.forall_mem_cons.mpr ⟨lw_p10, List.forall_mem_cons.mpr ⟨lw_p11, List.forall_mem_cons.mpr ⟨lw_p12, List.forall_mem_cons.mpr ⟨lw_p13, List.forall_mem_cons.mpr ⟨lw_p14, List.forall_mem_cons.mpr ⟨lw_p15, fun _ h => absurd h List.not_mem_nil⟩⟩⟩⟩⟩⟩⟩⟩⟩⟩⟩⟩⟩⟩⟩⟩
theorem lw_p16 : lw_okq (⟨"LoseLeague", "owedAsItIs", "(I)I"⟩, 13) := ⟨⟨by decide +kernel, by decide +kernel⟩, List.mem_of_getElem? (i := 16) (by decide +kernel), List.mem_of_getElem? (i := 538) (by decide +kernel), List.mem_of_getElem? (i := 539) (by decide +kernel)⟩
theorem lw_p17 : lw_okq (⟨"LoseLeague", "tryStrength", "(II)V"⟩, 13) := ⟨⟨by decide +kernel, by decide +kernel⟩, List.mem_of_getElem? (i := 16) (by decide +kernel), List.mem_of_getElem? (i := 562) (by decide +kernel), List.mem_of_getElem? (i := 563) (by decide +kernel)⟩
theorem lw_p18 : lw_okq (⟨"LoseLeague", "tryKind", "(II)V"⟩, 13) := ⟨⟨by decide +kernel, by decide +kernel⟩, List.mem_of_getElem? (i := 16) (by decide +kernel), List.mem_of_getElem? (i := 570) (by decide +kernel), List.mem_of_getElem? (i := 571) (by decide +kernel)⟩
theorem lw_p19 : lw_okq (⟨"LoseLeague", "losesInRain", "(III)Z"⟩, 13) := ⟨⟨by decide +kernel, by decide +kernel⟩, List.mem_of_getElem? (i := 16) (by decide +kernel), List.mem_of_getElem? (i := 579) (by decide +kernel), List.mem_of_getElem? (i := 580) (by decide +kernel)⟩
theorem lw_p20 : lw_okq (⟨"LoseLeague$Sights", "fitsWeek", "(II)Z"⟩, 3) := ⟨⟨by decide +kernel, by decide +kernel⟩, List.mem_of_getElem? (i := 118) (by decide +kernel), List.mem_of_getElem? (i := 629) (by decide +kernel), List.mem_of_getElem? (i := 630) (by decide +kernel)⟩
theorem lw_p21 : lw_okq (⟨"LoseLeague", "strengthsAsSeen", "(I)I"⟩, 13) := ⟨⟨by decide +kernel, by decide +kernel⟩, List.mem_of_getElem? (i := 16) (by decide +kernel), List.mem_of_getElem? (i := 637) (by decide +kernel), List.mem_of_getElem? (i := 638) (by decide +kernel)⟩
theorem lw_p22 : lw_okq (⟨"LoseLeague", "noteOutcomes", "(I)V"⟩, 13) := ⟨⟨by decide +kernel, by decide +kernel⟩, List.mem_of_getElem? (i := 16) (by decide +kernel), List.mem_of_getElem? (i := 645) (by decide +kernel), List.mem_of_getElem? (i := 646) (by decide +kernel)⟩
theorem lw_p23 : lw_okq (⟨"LoseLeague", "leftAtWorst", "(II)I"⟩, 13) := ⟨⟨by decide +kernel, by decide +kernel⟩, List.mem_of_getElem? (i := 16) (by decide +kernel), List.mem_of_getElem? (i := 649) (by decide +kernel), List.mem_of_getElem? (i := 650) (by decide +kernel)⟩
theorem lw_p24 : lw_okq (⟨"LoseLeagueModel", "step", "()V"⟩, 29) := ⟨⟨by decide +kernel, by decide +kernel⟩, List.mem_of_getElem? (i := 714) (by decide +kernel), List.mem_of_getElem? (i := 824) (by decide +kernel), List.mem_of_getElem? (i := 825) (by decide +kernel)⟩
theorem lw_p25 : lw_okq (⟨"LoseLeagueModel", "byteAt", "(I)I"⟩, 29) := ⟨⟨by decide +kernel, by decide +kernel⟩, List.mem_of_getElem? (i := 714) (by decide +kernel), List.mem_of_getElem? (i := 828) (by decide +kernel), List.mem_of_getElem? (i := 829) (by decide +kernel)⟩
theorem lw_p26 : lw_okq (⟨"LoseLeagueModel", "fails", "(I)V"⟩, 29) := ⟨⟨by decide +kernel, by decide +kernel⟩, List.mem_of_getElem? (i := 714) (by decide +kernel), List.mem_of_getElem? (i := 836) (by decide +kernel), List.mem_of_getElem? (i := 837) (by decide +kernel)⟩
theorem lw_p27 : lw_okq (⟨"LoseLeagueModel", "readLine", "()V"⟩, 29) := ⟨⟨by decide +kernel, by decide +kernel⟩, List.mem_of_getElem? (i := 714) (by decide +kernel), List.mem_of_getElem? (i := 840) (by decide +kernel), List.mem_of_getElem? (i := 841) (by decide +kernel)⟩
theorem lw_p28 : lw_okq (⟨"LoseLeagueModel", "nameHere", "()I"⟩, 29) := ⟨⟨by decide +kernel, by decide +kernel⟩, List.mem_of_getElem? (i := 714) (by decide +kernel), List.mem_of_getElem? (i := 844) (by decide +kernel), List.mem_of_getElem? (i := 845) (by decide +kernel)⟩
theorem lw_p29 : lw_okq (⟨"LoseLeagueModel", "readMore", "(I)V"⟩, 29) := ⟨⟨by decide +kernel, by decide +kernel⟩, List.mem_of_getElem? (i := 714) (by decide +kernel), List.mem_of_getElem? (i := 849) (by decide +kernel), List.mem_of_getElem? (i := 850) (by decide +kernel)⟩
theorem lw_p30 : lw_okq (⟨"LoseLeagueModel", "number", "(II)I"⟩, 29) := ⟨⟨by decide +kernel, by decide +kernel⟩, List.mem_of_getElem? (i := 714) (by decide +kernel), List.mem_of_getElem? (i := 853) (by decide +kernel), List.mem_of_getElem? (i := 854) (by decide +kernel)⟩
theorem lw_p31 : lw_okq (⟨"LoseLeagueModel", "townHere", "()I"⟩, 29) := ⟨⟨by decide +kernel, by decide +kernel⟩, List.mem_of_getElem? (i := 714) (by decide +kernel), List.mem_of_getElem? (i := 857) (by decide +kernel), List.mem_of_getElem? (i := 858) (by decide +kernel)⟩
def lw_privs_2 : List (MethodName × Nat) := [(⟨"LoseLeague", "owedAsItIs", "(I)I"⟩, 13), (⟨"LoseLeague", "tryStrength", "(II)V"⟩, 13), (⟨"LoseLeague", "tryKind", "(II)V"⟩, 13), (⟨"LoseLeague", "losesInRain", "(III)Z"⟩, 13), (⟨"LoseLeague$Sights", "fitsWeek", "(II)Z"⟩, 3), (⟨"LoseLeague", "strengthsAsSeen", "(I)I"⟩, 13), (⟨"LoseLeague", "noteOutcomes", "(I)V"⟩, 13), (⟨"LoseLeague", "leftAtWorst", "(II)I"⟩, 13), (⟨"LoseLeagueModel", "step", "()V"⟩, 29), (⟨"LoseLeagueModel", "byteAt", "(I)I"⟩, 29), (⟨"LoseLeagueModel", "fails", "(I)V"⟩, 29), (⟨"LoseLeagueModel", "readLine", "()V"⟩, 29), (⟨"LoseLeagueModel", "nameHere", "()I"⟩, 29), (⟨"LoseLeagueModel", "readMore", "(I)V"⟩, 29), (⟨"LoseLeagueModel", "number", "(II)I"⟩, 29), (⟨"LoseLeagueModel", "townHere", "()I"⟩, 29)]
theorem lw_r2 : ∀ q ∈ lw_privs_2, lw_okq q := List.forall_mem_cons.mpr ⟨lw_p16, List.forall_mem_cons.mpr ⟨lw_p17, List.forall_mem_cons.mpr ⟨lw_p18, List.forall_mem_cons.mpr ⟨lw_p19, List.forall_mem_cons.mpr ⟨lw_p20, List.forall_mem_cons.mpr ⟨lw_p21, List.forall_mem_cons.mpr ⟨lw_p22, List.forall_mem_cons.mpr ⟨lw_p23, List.forall_mem_cons.mpr ⟨lw_p24, List.forall_mem_cons.mpr ⟨lw_p25, List.forall_mem_cons.mpr ⟨lw_p26, List.forall_mem_cons.mpr ⟨lw_p27, List.forall_mem_cons.mpr ⟨lw_p28, List.forall_mem_cons.mpr ⟨lw_p29, List.forall_mem_cons.mpr ⟨lw_p30, List.forall_mem_cons.mpr ⟨lw_p31, fun _ h => absurd h List.not_mem_nil⟩⟩⟩⟩⟩⟩⟩⟩⟩⟩⟩⟩⟩⟩⟩⟩
theorem lw_p32 : lw_okq (⟨"LoseLeagueModel", "placeOn", "(I)I"⟩, 29) := ⟨⟨by decide +kernel, by decide +kernel⟩, List.mem_of_getElem? (i := 714) (by decide +kernel), List.mem_of_getElem? (i := 869) (by decide +kernel), List.mem_of_getElem? (i := 870) (by decide +kernel)⟩
theorem lw_p33 : lw_okq (⟨"LoseLeagueModel", "losersOn", "(I)I"⟩, 29) := ⟨⟨by decide +kernel, by decide +kernel⟩, List.mem_of_getElem? (i := 714) (by decide +kernel), List.mem_of_getElem? (i := 873) (by decide +kernel), List.mem_of_getElem? (i := 874) (by decide +kernel)⟩
theorem lw_p34 : lw_okq (⟨"LoseLeagueModel", "owedOn", "(I)I"⟩, 29) := ⟨⟨by decide +kernel, by decide +kernel⟩, List.mem_of_getElem? (i := 714) (by decide +kernel), List.mem_of_getElem? (i := 877) (by decide +kernel), List.mem_of_getElem? (i := 878) (by decide +kernel)⟩
theorem lw_p35 : lw_okq (⟨"LoseLeagueModel", "isTown", "(I)Z"⟩, 29) := ⟨⟨by decide +kernel, by decide +kernel⟩, List.mem_of_getElem? (i := 714) (by decide +kernel), List.mem_of_getElem? (i := 885) (by decide +kernel), List.mem_of_getElem? (i := 886) (by decide +kernel)⟩
theorem lw_p36 : lw_okq (⟨"LoseLeagueModel", "playsOn", "(II)I"⟩, 29) := ⟨⟨by decide +kernel, by decide +kernel⟩, List.mem_of_getElem? (i := 714) (by decide +kernel), List.mem_of_getElem? (i := 889) (by decide +kernel), List.mem_of_getElem? (i := 890) (by decide +kernel)⟩
theorem lw_p37 : lw_okq (⟨"LoseLeagueModel", "isFixture", "(I)Z"⟩, 29) := ⟨⟨by decide +kernel, by decide +kernel⟩, List.mem_of_getElem? (i := 714) (by decide +kernel), List.mem_of_getElem? (i := 897) (by decide +kernel), List.mem_of_getElem? (i := 898) (by decide +kernel)⟩
theorem lw_p38 : lw_okq (⟨"LoseLeagueModel", "isPair", "(II)Z"⟩, 29) := ⟨⟨by decide +kernel, by decide +kernel⟩, List.mem_of_getElem? (i := 714) (by decide +kernel), List.mem_of_getElem? (i := 905) (by decide +kernel), List.mem_of_getElem? (i := 906) (by decide +kernel)⟩
theorem lw_p39 : lw_okq (⟨"LoseLeagueModel", "gameOn", "(III)I"⟩, 29) := ⟨⟨by decide +kernel, by decide +kernel⟩, List.mem_of_getElem? (i := 714) (by decide +kernel), List.mem_of_getElem? (i := 909) (by decide +kernel), List.mem_of_getElem? (i := 910) (by decide +kernel)⟩
theorem lw_p40 : lw_okq (⟨"LoseLeagueModel", "puts", "(ZII)I"⟩, 29) := ⟨⟨by decide +kernel, by decide +kernel⟩, List.mem_of_getElem? (i := 714) (by decide +kernel), List.mem_of_getElem? (i := 918) (by decide +kernel), List.mem_of_getElem? (i := 919) (by decide +kernel)⟩
theorem lw_p41 : lw_okq (⟨"LoseLeagueModel", "lendsOn", "(IIII)I"⟩, 29) := ⟨⟨by decide +kernel, by decide +kernel⟩, List.mem_of_getElem? (i := 714) (by decide +kernel), List.mem_of_getElem? (i := 927) (by decide +kernel), List.mem_of_getElem? (i := 928) (by decide +kernel)⟩
theorem lw_p42 : lw_okq (⟨"LoseLeagueModel", "books", "(II)I"⟩, 29) := ⟨⟨by decide +kernel, by decide +kernel⟩, List.mem_of_getElem? (i := 714) (by decide +kernel), List.mem_of_getElem? (i := 935) (by decide +kernel), List.mem_of_getElem? (i := 936) (by decide +kernel)⟩
theorem lw_p43 : lw_okq (⟨"LoseLeagueModel", "weekOn", "(IZ)V"⟩, 29) := ⟨⟨by decide +kernel, by decide +kernel⟩, List.mem_of_getElem? (i := 714) (by decide +kernel), List.mem_of_getElem? (i := 948) (by decide +kernel), List.mem_of_getElem? (i := 949) (by decide +kernel)⟩
theorem lw_p44 : lw_okq (⟨"LoseLeagueModel", "playedOn", "(III)V"⟩, 29) := ⟨⟨by decide +kernel, by decide +kernel⟩, List.mem_of_getElem? (i := 714) (by decide +kernel), List.mem_of_getElem? (i := 952) (by decide +kernel), List.mem_of_getElem? (i := 953) (by decide +kernel)⟩
theorem lw_p45 : lw_okq (⟨"LoseLeagueModel", "yearsEnd", "(I)V"⟩, 29) := ⟨⟨by decide +kernel, by decide +kernel⟩, List.mem_of_getElem? (i := 714) (by decide +kernel), List.mem_of_getElem? (i := 956) (by decide +kernel), List.mem_of_getElem? (i := 957) (by decide +kernel)⟩
theorem lw_p46 : lw_okq (⟨"LoseLeagueModel", "weeksGo", "(II)I"⟩, 29) := ⟨⟨by decide +kernel, by decide +kernel⟩, List.mem_of_getElem? (i := 714) (by decide +kernel), List.mem_of_getElem? (i := 965) (by decide +kernel), List.mem_of_getElem? (i := 966) (by decide +kernel)⟩
theorem lw_p47 : lw_okq (⟨"LoseLeagueModel", "copies", "(II)V"⟩, 29) := ⟨⟨by decide +kernel, by decide +kernel⟩, List.mem_of_getElem? (i := 714) (by decide +kernel), List.mem_of_getElem? (i := 969) (by decide +kernel), List.mem_of_getElem? (i := 970) (by decide +kernel)⟩
def lw_privs_3 : List (MethodName × Nat) := [(⟨"LoseLeagueModel", "placeOn", "(I)I"⟩, 29), (⟨"LoseLeagueModel", "losersOn", "(I)I"⟩, 29), (⟨"LoseLeagueModel", "owedOn", "(I)I"⟩, 29), (⟨"LoseLeagueModel", "isTown", "(I)Z"⟩, 29), (⟨"LoseLeagueModel", "playsOn", "(II)I"⟩, 29), (⟨"LoseLeagueModel", "isFixture", "(I)Z"⟩, 29), (⟨"LoseLeagueModel", "isPair", "(II)Z"⟩, 29), (⟨"LoseLeagueModel", "gameOn", "(III)I"⟩, 29), (⟨"LoseLeagueModel", "puts", "(ZII)I"⟩, 29), (⟨"LoseLeagueModel", "lendsOn", "(IIII)I"⟩, 29), (⟨"LoseLeagueModel", "books", "(II)I"⟩, 29), (⟨"LoseLeagueModel", "weekOn", "(IZ)V"⟩, 29), (⟨"LoseLeagueModel", "playedOn", "(III)V"⟩, 29), (⟨"LoseLeagueModel", "yearsEnd", "(I)V"⟩, 29), (⟨"LoseLeagueModel", "weeksGo", "(II)I"⟩, 29), (⟨"LoseLeagueModel", "copies", "(II)V"⟩, 29)]
theorem lw_r3 : ∀ q ∈ lw_privs_3, lw_okq q := List.forall_mem_cons.mpr ⟨lw_p32, List.forall_mem_cons.mpr ⟨lw_p33, List.forall_mem_cons.mpr ⟨lw_p34, List.forall_mem_cons.mpr ⟨lw_p35, List.forall_mem_cons.mpr ⟨lw_p36, List.forall_mem_cons.mpr ⟨lw_p37, List.forall_mem_cons.mpr ⟨lw_p38, List.forall_mem_cons.mpr ⟨lw_p39, List.forall_mem_cons.mpr ⟨lw_p40, List.forall_mem_cons.mpr ⟨lw_p41, List.forall_mem_cons.mpr ⟨lw_p42, List.forall_mem_cons.mpr ⟨lw_p43, List.forall_mem_cons.mpr ⟨lw_p44, List.forall_mem_cons.mpr ⟨lw_p45, List.forall_mem_cons.mpr ⟨lw_p46, List.forall_mem_cons.mpr ⟨lw_p47, fun _ h => absurd h List.not_mem_nil⟩⟩⟩⟩⟩⟩⟩⟩⟩⟩⟩⟩⟩⟩⟩⟩
theorem lw_p48 : lw_okq (⟨"LoseLeagueModel", "firstLoss", "(III)I"⟩, 29) := ⟨⟨by decide +kernel, by decide +kernel⟩, List.mem_of_getElem? (i := 714) (by decide +kernel), List.mem_of_getElem? (i := 986) (by decide +kernel), List.mem_of_getElem? (i := 987) (by decide +kernel)⟩
theorem lw_p49 : lw_okq (⟨"LoseLeagueModel", "ordered", "(I)Z"⟩, 29) := ⟨⟨by decide +kernel, by decide +kernel⟩, List.mem_of_getElem? (i := 714) (by decide +kernel), List.mem_of_getElem? (i := 997) (by decide +kernel), List.mem_of_getElem? (i := 998) (by decide +kernel)⟩
theorem lw_p50 : lw_okq (⟨"LoseLeagueModel", "byRain", "(IIII)J"⟩, 29) := ⟨⟨by decide +kernel, by decide +kernel⟩, List.mem_of_getElem? (i := 714) (by decide +kernel), List.mem_of_getElem? (i := 1026) (by decide +kernel), List.mem_of_getElem? (i := 1027) (by decide +kernel)⟩
theorem lw_p51 : lw_okq (⟨"LoseLeagueModel", "numbersAt", "(II)I"⟩, 29) := ⟨⟨by decide +kernel, by decide +kernel⟩, List.mem_of_getElem? (i := 714) (by decide +kernel), List.mem_of_getElem? (i := 1050) (by decide +kernel), List.mem_of_getElem? (i := 1051) (by decide +kernel)⟩
theorem lw_p52 : lw_okq (⟨"LoseLeagueModel", "isAsSeen", "(I)Z"⟩, 29) := ⟨⟨by decide +kernel, by decide +kernel⟩, List.mem_of_getElem? (i := 714) (by decide +kernel), List.mem_of_getElem? (i := 1054) (by decide +kernel), List.mem_of_getElem? (i := 1055) (by decide +kernel)⟩
def lw_privs_4 : List (MethodName × Nat) := [(⟨"LoseLeagueModel", "firstLoss", "(III)I"⟩, 29), (⟨"LoseLeagueModel", "ordered", "(I)Z"⟩, 29), (⟨"LoseLeagueModel", "byRain", "(IIII)J"⟩, 29), (⟨"LoseLeagueModel", "numbersAt", "(II)I"⟩, 29), (⟨"LoseLeagueModel", "isAsSeen", "(I)Z"⟩, 29)]
theorem lw_r4 : ∀ q ∈ lw_privs_4, lw_okq q := List.forall_mem_cons.mpr ⟨lw_p48, List.forall_mem_cons.mpr ⟨lw_p49, List.forall_mem_cons.mpr ⟨lw_p50, List.forall_mem_cons.mpr ⟨lw_p51, List.forall_mem_cons.mpr ⟨lw_p52, fun _ h => absurd h List.not_mem_nil⟩⟩⟩⟩⟩
def lw_privs : List (MethodName × Nat) := lw_privs_1 ++ (lw_privs_2 ++ (lw_privs_3 ++ (lw_privs_4)))
def lw_tbl : List Cond := k2_sels lw_privs ++ tables_1
theorem lw_privs_ok : ∀ q ∈ lw_privs, lw_okq q := by
  show ∀ q ∈ lw_privs_1 ++ (lw_privs_2 ++ (lw_privs_3 ++ (lw_privs_4))), lw_okq q
  exact List.forall_mem_append.mpr ⟨lw_r1, List.forall_mem_append.mpr ⟨lw_r2, List.forall_mem_append.mpr ⟨lw_r3, lw_r4⟩⟩⟩
def RX0 : String := "LoseLeague$Best"
def TX0 : u_T := fun k => match k with
  | 0 => ("LoseLeague$Best", "choice", "I", false)
  | _ => ("LoseLeague$Best", "least", "I", false)
def tyX0 : Nat → FieldType := fun k => match k with
  | 0 => .int
  | _ => .int
theorem nmX0 : ∀ a, a < 2 → ∀ b, b < 2 → a ≠ b → (TX0 a).2.1 ≠ (TX0 b).2.1 := by decide +kernel
theorem tyX0_ok : ∀ k, k < 2 → parseFieldDescriptor (TX0 k).2.2.1 = some (tyX0 k) := by decide +kernel
abbrev cX0_init : ByteArray := prog_2_method_1_code
def yX0_init : MethodName := ⟨RX0, "<init>", "()V"⟩
abbrev cX0_start : ByteArray := prog_2_method_2_code
def yX0_start : MethodName := ⟨RX0, "start", "(I)V"⟩
abbrev cX0_offer : ByteArray := prog_2_method_3_code
def yX0_offer : MethodName := ⟨RX0, "offer", "(II)V"⟩
abbrev cX0_answer : ByteArray := prog_2_method_4_code
def yX0_answer : MethodName := ⟨RX0, "answer", "(I)I"⟩
def RX1 : String := "LoseLeague$League"
def TX1 : u_T := fun k => match k with
  | 0 => ("LoseLeague$League", "kinds", "[I", true)
  | 1 => ("LoseLeague$League", "strengths", "[I", true)
  | 2 => ("LoseLeague$League", "losses", "[I", true)
  | 3 => ("LoseLeague$League", "owes", "[I", true)
  | 4 => ("LoseLeague$League", "firsts", "[I", true)
  | 5 => ("LoseLeague$League", "seconds", "[I", true)
  | 6 => ("LoseLeague$League", "towns", "I", false)
  | 7 => ("LoseLeague$League", "fixtures", "I", false)
  | _ => ("LoseLeague$League", "week", "I", false)
def tyX1 : Nat → FieldType := fun k => match k with
  | 0 => .array .int
  | 1 => .array .int
  | 2 => .array .int
  | 3 => .array .int
  | 4 => .array .int
  | 5 => .array .int
  | 6 => .int
  | 7 => .int
  | _ => .int
theorem nmX1 : ∀ a, a < 9 → ∀ b, b < 9 → a ≠ b → (TX1 a).2.1 ≠ (TX1 b).2.1 := by decide +kernel
theorem tyX1_ok : ∀ k, k < 9 → parseFieldDescriptor (TX1 k).2.2.1 = some (tyX1 k) := by decide +kernel
abbrev cX1_init : ByteArray := prog_3_method_1_code
def yX1_init : MethodName := ⟨RX1, "<init>", "()V"⟩
abbrev cX1_clear : ByteArray := prog_3_method_2_code
def yX1_clear : MethodName := ⟨RX1, "clear", "()V"⟩
abbrev cX1_become : ByteArray := prog_3_method_3_code
def yX1_become : MethodName := ⟨RX1, "become", "(LLoseLeague$League;)V"⟩
abbrev cX1_hasTown : ByteArray := prog_3_method_4_code
def yX1_hasTown : MethodName := ⟨RX1, "hasTown", "(I)Z"⟩
abbrev cX1_hasFixture : ByteArray := prog_3_method_5_code
def yX1_hasFixture : MethodName := ⟨RX1, "hasFixture", "(I)Z"⟩
abbrev cX1_hasPair : ByteArray := prog_3_method_6_code
def yX1_hasPair : MethodName := ⟨RX1, "hasPair", "(II)Z"⟩
abbrev cX1_isFullOfTowns : ByteArray := prog_3_method_7_code
def yX1_isFullOfTowns : MethodName := ⟨RX1, "isFullOfTowns", "()Z"⟩
abbrev cX1_isFullOfFixtures : ByteArray := prog_3_method_8_code
def yX1_isFullOfFixtures : MethodName := ⟨RX1, "isFullOfFixtures", "()Z"⟩
abbrev cX1_addTown : ByteArray := prog_3_method_9_code
def yX1_addTown : MethodName := ⟨RX1, "addTown", "(II)V"⟩
abbrev cX1_addFixture : ByteArray := prog_3_method_10_code
def yX1_addFixture : MethodName := ⟨RX1, "addFixture", "(II)I"⟩
abbrev cX1_addFixtureUnseen : ByteArray := prog_3_method_11_code
def yX1_addFixtureUnseen : MethodName := ⟨RX1, "addFixtureUnseen", "(II)I"⟩
abbrev cX1_lacksTown : ByteArray := prog_3_method_12_code
def yX1_lacksTown : MethodName := ⟨RX1, "lacksTown", "()Z"⟩
abbrev cX1_swapFixtures : ByteArray := prog_3_method_13_code
def yX1_swapFixtures : MethodName := ⟨RX1, "swapFixtures", "(II)V"⟩
abbrev cX1_moveStrength : ByteArray := prog_3_method_14_code
def yX1_moveStrength : MethodName := ⟨RX1, "moveStrength", "(III)I"⟩
abbrev cX1_playsNow : ByteArray := prog_3_method_15_code
def yX1_playsNow : MethodName := ⟨RX1, "playsNow", "(I)I"⟩
abbrev cX1_trainsNow : ByteArray := prog_3_method_16_code
def yX1_trainsNow : MethodName := ⟨RX1, "trainsNow", "(I)I"⟩
abbrev cX1_weaker : ByteArray := prog_3_method_17_code
def yX1_weaker : MethodName := ⟨RX1, "weaker", "(II)I"⟩
abbrev cX1_play : ByteArray := prog_3_method_18_code
def yX1_play : MethodName := ⟨RX1, "play", "(II)I"⟩
abbrev cX1_fixtureNow : ByteArray := prog_3_method_19_code
def yX1_fixtureNow : MethodName := ⟨RX1, "fixtureNow", "()I"⟩
abbrev cX1_runWeek : ByteArray := prog_3_method_20_code
def yX1_runWeek : MethodName := ⟨RX1, "runWeek", "(Z)I"⟩
abbrev cX1_runWeekOf : ByteArray := prog_3_method_21_code
def yX1_runWeekOf : MethodName := ⟨RX1, "runWeekOf", "(II)I"⟩
abbrev cX1_passWeek : ByteArray := prog_3_method_22_code
def yX1_passWeek : MethodName := ⟨RX1, "passWeek", "()V"⟩
abbrev cX1_closeYear : ByteArray := prog_3_method_23_code
def yX1_closeYear : MethodName := ⟨RX1, "closeYear", "()V"⟩
abbrev cX1_runWeeks : ByteArray := prog_3_method_24_code
def yX1_runWeeks : MethodName := ⟨RX1, "runWeeks", "(I)I"⟩
abbrev cX1_firstLoss : ByteArray := prog_3_method_25_code
def yX1_firstLoss : MethodName := ⟨RX1, "firstLoss", "(II)I"⟩
abbrev cX1_owed : ByteArray := prog_3_method_26_code
def yX1_owed : MethodName := ⟨RX1, "owed", "()I"⟩
abbrev cX1_withLosses : ByteArray := prog_3_method_27_code
def yX1_withLosses : MethodName := ⟨RX1, "withLosses", "()I"⟩
abbrev cX1_sumOverTowns : ByteArray := prog_3_method_28_code
def yX1_sumOverTowns : MethodName := ⟨RX1, "sumOverTowns", "([I)I"⟩
def RX2 : String := "LoseLeague$Sheet"
def TX2 : u_T := fun k => match k with
  | 0 => ("LoseLeague$Sheet", "cells", "[I", true)
  | 1 => ("LoseLeague$Sheet", "lane", "I", false)
  | _ => ("LoseLeague$Sheet", "size", "I", false)
def tyX2 : Nat → FieldType := fun k => match k with
  | 0 => .array .int
  | 1 => .int
  | _ => .int
theorem nmX2 : ∀ a, a < 3 → ∀ b, b < 3 → a ≠ b → (TX2 a).2.1 ≠ (TX2 b).2.1 := by decide +kernel
theorem tyX2_ok : ∀ k, k < 3 → parseFieldDescriptor (TX2 k).2.2.1 = some (tyX2 k) := by decide +kernel
abbrev cX2_init : ByteArray := prog_4_method_1_code
def yX2_init : MethodName := ⟨RX2, "<init>", "()V"⟩
abbrev cX2_isThere : ByteArray := prog_4_method_2_code
def yX2_isThere : MethodName := ⟨RX2, "isThere", "()Z"⟩
abbrev cX2_hasCell : ByteArray := prog_4_method_3_code
def yX2_hasCell : MethodName := ⟨RX2, "hasCell", "(I)Z"⟩
abbrev cX2_renew : ByteArray := prog_4_method_4_code
def yX2_renew : MethodName := ⟨RX2, "renew", "(II)V"⟩
abbrev cX2_put : ByteArray := prog_4_method_5_code
def yX2_put : MethodName := ⟨RX2, "put", "(II)V"⟩
abbrev cX2_pairFault : ByteArray := prog_4_method_6_code
def yX2_pairFault : MethodName := ⟨RX2, "pairFault", "(II)I"⟩
def RX3 : String := "LoseLeague$Sights"
def TX3 : u_T := fun k => match k with
  | 0 => ("LoseLeague$Sights", "weeks", "[I", true)
  | 1 => ("LoseLeague$Sights", "losers", "[I", true)
  | _ => ("LoseLeague$Sights", "size", "I", false)
def tyX3 : Nat → FieldType := fun k => match k with
  | 0 => .array .int
  | 1 => .array .int
  | _ => .int
theorem nmX3 : ∀ a, a < 3 → ∀ b, b < 3 → a ≠ b → (TX3 a).2.1 ≠ (TX3 b).2.1 := by decide +kernel
theorem tyX3_ok : ∀ k, k < 3 → parseFieldDescriptor (TX3 k).2.2.1 = some (tyX3 k) := by decide +kernel
abbrev cX3_init : ByteArray := prog_5_method_1_code
def yX3_init : MethodName := ⟨RX3, "<init>", "()V"⟩
abbrev cX3_add : ByteArray := prog_5_method_2_code
def yX3_add : MethodName := ⟨RX3, "add", "(II)Z"⟩
abbrev cX3_fit : ByteArray := prog_5_method_3_code
def yX3_fit : MethodName := ⟨RX3, "fit", "(LLoseLeague$League;)Z"⟩
abbrev cX3_fitsWeek : ByteArray := prog_5_method_4_code
def yX3_fitsWeek : MethodName := ⟨RX3, "fitsWeek", "(II)Z"⟩
def RX4 : String := "LoseLeague$Tape"
def TX4 : u_T := fun k => match k with
  | 0 => ("LoseLeague$Tape", "bytes", "[B", true)
  | _ => ("LoseLeague$Tape", "length", "I", false)
def tyX4 : Nat → FieldType := fun k => match k with
  | 0 => .array .byte
  | _ => .int
theorem nmX4 : ∀ a, a < 2 → ∀ b, b < 2 → a ≠ b → (TX4 a).2.1 ≠ (TX4 b).2.1 := by decide +kernel
theorem tyX4_ok : ∀ k, k < 2 → parseFieldDescriptor (TX4 k).2.2.1 = some (tyX4 k) := by decide +kernel
abbrev cX4_init : ByteArray := prog_6_method_1_code
def yX4_init : MethodName := ⟨RX4, "<init>", "()V"⟩
abbrev cX4_append : ByteArray := prog_6_method_2_code
def yX4_append : MethodName := ⟨RX4, "append", "(I)Z"⟩
abbrev cX4_byteAt : ByteArray := prog_6_method_3_code
def yX4_byteAt : MethodName := ⟨RX4, "byteAt", "(I)I"⟩
def RX5 : String := "LoseLeague$TextReader"
def TX5 : u_T := fun k => match k with
  | 0 => ("LoseLeague$TextReader", "tape", "LLoseLeague$Tape;", true)
  | 1 => ("LoseLeague$TextReader", "position", "I", false)
  | 2 => ("LoseLeague$TextReader", "token", "I", false)
  | 3 => ("LoseLeague$TextReader", "start", "I", false)
  | 4 => ("LoseLeague$TextReader", "value", "I", false)
  | 5 => ("LoseLeague$TextReader", "fault", "I", false)
  | _ => ("LoseLeague$TextReader", "place", "I", false)
def tyX5 : Nat → FieldType := fun k => match k with
  | 0 => .object "LoseLeague$Tape"
  | 1 => .int
  | 2 => .int
  | 3 => .int
  | 4 => .int
  | 5 => .int
  | _ => .int
theorem nmX5 : ∀ a, a < 7 → ∀ b, b < 7 → a ≠ b → (TX5 a).2.1 ≠ (TX5 b).2.1 := by decide +kernel
theorem tyX5_ok : ∀ k, k < 7 → parseFieldDescriptor (TX5 k).2.2.1 = some (tyX5 k) := by decide +kernel
abbrev cX5_init : ByteArray := prog_7_method_1_code
def yX5_init : MethodName := ⟨RX5, "<init>", "()V"⟩
abbrev cX5_readAll : ByteArray := prog_7_method_2_code
def yX5_readAll : MethodName := ⟨RX5, "readAll", "(LLoseLeague$League;)I"⟩
abbrev cX5_readTown : ByteArray := prog_7_method_3_code
def yX5_readTown : MethodName := ⟨RX5, "readTown", "(LLoseLeague$League;I)Z"⟩
abbrev cX5_readGame : ByteArray := prog_7_method_4_code
def yX5_readGame : MethodName := ⟨RX5, "readGame", "(LLoseLeague$League;)Z"⟩
abbrev cX5_readNumber : ByteArray := prog_7_method_5_code
def yX5_readNumber : MethodName := ⟨RX5, "readNumber", "(I)Z"⟩
abbrev cX5_readSign : ByteArray := prog_7_method_6_code
def yX5_readSign : MethodName := ⟨RX5, "readSign", "()Z"⟩
abbrev cX5_readToken : ByteArray := prog_7_method_7_code
def yX5_readToken : MethodName := ⟨RX5, "readToken", "()Z"⟩
abbrev cX5_takeName : ByteArray := prog_7_method_8_code
def yX5_takeName : MethodName := ⟨RX5, "takeName", "()Z"⟩
abbrev cX5_takeNumber : ByteArray := prog_7_method_9_code
def yX5_takeNumber : MethodName := ⟨RX5, "takeNumber", "()Z"⟩
abbrev cX5_isLetter : ByteArray := prog_7_method_10_code
def yX5_isLetter : MethodName := ⟨RX5, "isLetter", "(I)Z"⟩
abbrev cX5_isFigure : ByteArray := prog_7_method_11_code
def yX5_isFigure : MethodName := ⟨RX5, "isFigure", "(I)Z"⟩
abbrev cX5_wordRead : ByteArray := prog_7_method_12_code
def yX5_wordRead : MethodName := ⟨RX5, "wordRead", "()I"⟩
abbrev cX5_spells : ByteArray := prog_7_method_13_code
def yX5_spells : MethodName := ⟨RX5, "spells", "(Ljava/lang/String;)Z"⟩
abbrev cX5_refuse : ByteArray := prog_7_method_14_code
def yX5_refuse : MethodName := ⟨RX5, "refuse", "(I)Z"⟩
def RX6 : String := "LoseLeague"
def TX6 : u_T := fun k => match k with
  | 0 => ("LoseLeague", "reader", "LLoseLeague$TextReader;", true)
  | 1 => ("LoseLeague", "tape", "LLoseLeague$Tape;", true)
  | 2 => ("LoseLeague", "league", "LLoseLeague$League;", true)
  | 3 => ("LoseLeague", "trial", "LLoseLeague$League;", true)
  | 4 => ("LoseLeague", "images", "[LLoseLeague$League;", true)
  | 5 => ("LoseLeague", "kept", "[Z", true)
  | 6 => ("LoseLeague", "sheets", "[LLoseLeague$Sheet;", true)
  | 7 => ("LoseLeague", "sights", "LLoseLeague$Sights;", true)
  | 8 => ("LoseLeague", "best", "LLoseLeague$Best;", true)
  | 9 => ("LoseLeague", "row", "[I", true)
  | 10 => ("LoseLeague", "outcomes", "[I", true)
  | 11 => ("LoseLeague", "tally", "[I", true)
  | _ => ("LoseLeague", "tornFault", "I", false)
def tyX6 : Nat → FieldType := fun k => match k with
  | 0 => .object "LoseLeague$TextReader"
  | 1 => .object "LoseLeague$Tape"
  | 2 => .object "LoseLeague$League"
  | 3 => .object "LoseLeague$League"
  | 4 => .array (.object "LoseLeague$League")
  | 5 => .array .boolean
  | 6 => .array (.object "LoseLeague$Sheet")
  | 7 => .object "LoseLeague$Sights"
  | 8 => .object "LoseLeague$Best"
  | 9 => .array .int
  | 10 => .array .int
  | 11 => .array .int
  | _ => .int
theorem nmX6 : ∀ a, a < 13 → ∀ b, b < 13 → a ≠ b → (TX6 a).2.1 ≠ (TX6 b).2.1 := by decide +kernel
theorem tyX6_ok : ∀ k, k < 13 → parseFieldDescriptor (TX6 k).2.2.1 = some (tyX6 k) := by decide +kernel
abbrev cX6_init : ByteArray := prog_1_method_1_code
def yX6_init : MethodName := ⟨RX6, "<init>", "()V"⟩
abbrev cX6_feed : ByteArray := prog_1_method_2_code
def yX6_feed : MethodName := ⟨RX6, "feed", "(I)I"⟩
abbrev cX6_end : ByteArray := prog_1_method_3_code
def yX6_end : MethodName := ⟨RX6, "end", "(I)I"⟩
abbrev cX6_text : ByteArray := prog_1_method_4_code
def yX6_text : MethodName := ⟨RX6, "text", "()I"⟩
abbrev cX6_fault : ByteArray := prog_1_method_5_code
def yX6_fault : MethodName := ⟨RX6, "fault", "()I"⟩
abbrev cX6_rule : ByteArray := prog_1_method_6_code
def yX6_rule : MethodName := ⟨RX6, "rule", "(I)I"⟩
abbrev cX6_town : ByteArray := prog_1_method_7_code
def yX6_town : MethodName := ⟨RX6, "town", "(II)I"⟩
abbrev cX6_fixture : ByteArray := prog_1_method_8_code
def yX6_fixture : MethodName := ⟨RX6, "fixture", "(II)I"⟩
abbrev cX6_game : ByteArray := prog_1_method_9_code
def yX6_game : MethodName := ⟨RX6, "game", "(II)I"⟩
abbrev cX6_alter : ByteArray := prog_1_method_10_code
def yX6_alter : MethodName := ⟨RX6, "alter", "(III)I"⟩
abbrev cX6_replace : ByteArray := prog_1_method_11_code
def yX6_replace : MethodName := ⟨RX6, "replace", "([IIII)I"⟩
abbrev cX6_lend : ByteArray := prog_1_method_12_code
def yX6_lend : MethodName := ⟨RX6, "lend", "(III)I"⟩
abbrev cX6_book : ByteArray := prog_1_method_13_code
def yX6_book : MethodName := ⟨RX6, "book", "(II)I"⟩
abbrev cX6_strike : ByteArray := prog_1_method_14_code
def yX6_strike : MethodName := ⟨RX6, "strike", "(I)I"⟩
abbrev cX6_weeks : ByteArray := prog_1_method_15_code
def yX6_weeks : MethodName := ⟨RX6, "weeks", "(I)I"⟩
abbrev cX6_runs : ByteArray := prog_1_method_16_code
def yX6_runs : MethodName := ⟨RX6, "runs", "(II)I"⟩
abbrev cX6_ahead : ByteArray := prog_1_method_17_code
def yX6_ahead : MethodName := ⟨RX6, "ahead", "(III)I"⟩
abbrev cX6_loser : ByteArray := prog_1_method_18_code
def yX6_loser : MethodName := ⟨RX6, "loser", "(I)I"⟩
abbrev cX6_loses : ByteArray := prog_1_method_19_code
def yX6_loses : MethodName := ⟨RX6, "loses", "(I)I"⟩
abbrev cX6_order : ByteArray := prog_1_method_20_code
def yX6_order : MethodName := ⟨RX6, "order", "(I)I"⟩
abbrev cX6_findBestOrder : ByteArray := prog_1_method_21_code
def yX6_findBestOrder : MethodName := ⟨RX6, "findBestOrder", "()V"⟩
abbrev cX6_setRow : ByteArray := prog_1_method_22_code
def yX6_setRow : MethodName := ⟨RX6, "setRow", "(I)V"⟩
abbrev cX6_nthBit : ByteArray := prog_1_method_23_code
def yX6_nthBit : MethodName := ⟨RX6, "nthBit", "(II)I"⟩
abbrev cX6_factorial : ByteArray := prog_1_method_24_code
def yX6_factorial : MethodName := ⟨RX6, "factorial", "(I)I"⟩
abbrev cX6_loan : ByteArray := prog_1_method_25_code
def yX6_loan : MethodName := ⟨RX6, "loan", "(II)I"⟩
abbrev cX6_swap : ByteArray := prog_1_method_26_code
def yX6_swap : MethodName := ⟨RX6, "swap", "(II)I"⟩
abbrev cX6_skip : ByteArray := prog_1_method_27_code
def yX6_skip : MethodName := ⟨RX6, "skip", "(II)I"⟩
abbrev cX6_owedAsItIs : ByteArray := prog_1_method_28_code
def yX6_owedAsItIs : MethodName := ⟨RX6, "owedAsItIs", "(I)I"⟩
abbrev cX6_most : ByteArray := prog_1_method_29_code
def yX6_most : MethodName := ⟨RX6, "most", "(II)I"⟩
abbrev cX6_kind : ByteArray := prog_1_method_30_code
def yX6_kind : MethodName := ⟨RX6, "kind", "(III)I"⟩
abbrev cX6_tryStrength : ByteArray := prog_1_method_31_code
def yX6_tryStrength : MethodName := ⟨RX6, "tryStrength", "(II)V"⟩
abbrev cX6_tryKind : ByteArray := prog_1_method_32_code
def yX6_tryKind : MethodName := ⟨RX6, "tryKind", "(II)V"⟩
abbrev cX6_luck : ByteArray := prog_1_method_33_code
def yX6_luck : MethodName := ⟨RX6, "luck", "(IIII)J"⟩
abbrev cX6_mean : ByteArray := prog_1_method_34_code
def yX6_mean : MethodName := ⟨RX6, "mean", "(III)J"⟩
abbrev cX6_losesInRain : ByteArray := prog_1_method_35_code
def yX6_losesInRain : MethodName := ⟨RX6, "losesInRain", "(III)Z"⟩
abbrev cX6_weight : ByteArray := prog_1_method_36_code
def yX6_weight : MethodName := ⟨RX6, "weight", "(III)J"⟩
abbrev cX6_power : ByteArray := prog_1_method_37_code
def yX6_power : MethodName := ⟨RX6, "power", "(II)J"⟩
abbrev cX6_lowest : ByteArray := prog_1_method_38_code
def yX6_lowest : MethodName := ⟨RX6, "lowest", "(JJI)J"⟩
abbrev cX6_commonDivisor : ByteArray := prog_1_method_39_code
def yX6_commonDivisor : MethodName := ⟨RX6, "commonDivisor", "(JJ)J"⟩
abbrev cX6_see : ByteArray := prog_1_method_40_code
def yX6_see : MethodName := ⟨RX6, "see", "(II)I"⟩
abbrev cX6_forget : ByteArray := prog_1_method_41_code
def yX6_forget : MethodName := ⟨RX6, "forget", "(I)I"⟩
abbrev cX6_kinds : ByteArray := prog_1_method_42_code
def yX6_kinds : MethodName := ⟨RX6, "kinds", "(I)I"⟩
abbrev cX6_strengths : ByteArray := prog_1_method_43_code
def yX6_strengths : MethodName := ⟨RX6, "strengths", "(I)I"⟩
abbrev cX6_strengthsAsSeen : ByteArray := prog_1_method_44_code
def yX6_strengthsAsSeen : MethodName := ⟨RX6, "strengthsAsSeen", "(I)I"⟩
abbrev cX6_ask : ByteArray := prog_1_method_45_code
def yX6_ask : MethodName := ⟨RX6, "ask", "(II)I"⟩
abbrev cX6_noteOutcomes : ByteArray := prog_1_method_46_code
def yX6_noteOutcomes : MethodName := ⟨RX6, "noteOutcomes", "(I)V"⟩
abbrev cX6_leftAtWorst : ByteArray := prog_1_method_47_code
def yX6_leftAtWorst : MethodName := ⟨RX6, "leftAtWorst", "(II)I"⟩
abbrev cX6_drift : ByteArray := prog_1_method_48_code
def yX6_drift : MethodName := ⟨RX6, "drift", "(III)I"⟩
abbrev cX6_keep : ByteArray := prog_1_method_49_code
def yX6_keep : MethodName := ⟨RX6, "keep", "(I)I"⟩
abbrev cX6_back : ByteArray := prog_1_method_50_code
def yX6_back : MethodName := ⟨RX6, "back", "(I)I"⟩
abbrev cX6_sheet : ByteArray := prog_1_method_51_code
def yX6_sheet : MethodName := ⟨RX6, "sheet", "(III)I"⟩
abbrev cX6_lay : ByteArray := prog_1_method_52_code
def yX6_lay : MethodName := ⟨RX6, "lay", "(III)I"⟩
abbrev cX6_read : ByteArray := prog_1_method_53_code
def yX6_read : MethodName := ⟨RX6, "read", "(IIII)I"⟩
abbrev cX6_torn : ByteArray := prog_1_method_54_code
def yX6_torn : MethodName := ⟨RX6, "torn", "()I"⟩
abbrev cX6_count : ByteArray := prog_1_method_55_code
def yX6_count : MethodName := ⟨RX6, "count", "(I)I"⟩
abbrev cX6_within : ByteArray := prog_1_method_56_code
def yX6_within : MethodName := ⟨RX6, "within", "(II)Z"⟩
def RX7 : String := "LoseLeagueModel"
def TX7 : u_T := fun k => match k with
  | 0 => ("LoseLeagueModel", "state", "[I", true)
  | 1 => ("LoseLeagueModel", "townMany", "I", false)
  | 2 => ("LoseLeagueModel", "readPage", "[I", true)
  | 3 => ("LoseLeagueModel", "readTowns", "I", false)
  | 4 => ("LoseLeagueModel", "topTown", "I", false)
  | 5 => ("LoseLeagueModel", "tape", "[I", true)
  | 6 => ("LoseLeagueModel", "taped", "I", false)
  | 7 => ("LoseLeagueModel", "fault", "I", false)
  | 8 => ("LoseLeagueModel", "broken", "I", false)
  | 9 => ("LoseLeagueModel", "brokenAt", "I", false)
  | 10 => ("LoseLeagueModel", "spot", "I", false)
  | 11 => ("LoseLeagueModel", "here", "I", false)
  | 12 => ("LoseLeagueModel", "token", "I", false)
  | 13 => ("LoseLeagueModel", "value", "I", false)
  | 14 => ("LoseLeagueModel", "ends", "[I", true)
  | 15 => ("LoseLeagueModel", "letters", "[I", true)
  | 16 => ("LoseLeagueModel", "loser", "I", false)
  | 17 => ("LoseLeagueModel", "lost", "I", false)
  | 18 => ("LoseLeagueModel", "draws", "I", false)
  | 19 => ("LoseLeagueModel", "skipped", "I", false)
  | 20 => ("LoseLeagueModel", "bestRow", "[I", true)
  | 21 => ("LoseLeagueModel", "seen", "[I", true)
  | 22 => ("LoseLeagueModel", "seenMany", "I", false)
  | 23 => ("LoseLeagueModel", "loserBy", "[I", true)
  | 24 => ("LoseLeagueModel", "isKept", "[Z", true)
  | 25 => ("LoseLeagueModel", "lanes", "[I", true)
  | 26 => ("LoseLeagueModel", "lengths", "[I", true)
  | 27 => ("LoseLeagueModel", "cells", "[I", true)
  | _ => ("LoseLeagueModel", "torn", "I", false)
def tyX7 : Nat → FieldType := fun k => match k with
  | 0 => .array .int
  | 1 => .int
  | 2 => .array .int
  | 3 => .int
  | 4 => .int
  | 5 => .array .int
  | 6 => .int
  | 7 => .int
  | 8 => .int
  | 9 => .int
  | 10 => .int
  | 11 => .int
  | 12 => .int
  | 13 => .int
  | 14 => .array .int
  | 15 => .array .int
  | 16 => .int
  | 17 => .int
  | 18 => .int
  | 19 => .int
  | 20 => .array .int
  | 21 => .array .int
  | 22 => .int
  | 23 => .array .int
  | 24 => .array .boolean
  | 25 => .array .int
  | 26 => .array .int
  | 27 => .array .int
  | _ => .int
theorem nmX7 : ∀ a, a < 29 → ∀ b, b < 29 → a ≠ b → (TX7 a).2.1 ≠ (TX7 b).2.1 := by decide +kernel
theorem tyX7_ok : ∀ k, k < 29 → parseFieldDescriptor (TX7 k).2.2.1 = some (tyX7 k) := by decide +kernel
abbrev cX7_init : ByteArray := prog_9_method_1_code
def yX7_init : MethodName := ⟨RX7, "<init>", "()V"⟩
abbrev cX7_in : ByteArray := prog_9_method_3_code
def yX7_in : MethodName := ⟨RX7, "in", "(JJJ)Z"⟩
abbrev cX7_feed : ByteArray := prog_9_method_4_code
def yX7_feed : MethodName := ⟨RX7, "feed", "(I)I"⟩
abbrev cX7_end : ByteArray := prog_9_method_5_code
def yX7_end : MethodName := ⟨RX7, "end", "(I)I"⟩
abbrev cX7_byteAt : ByteArray := prog_9_method_6_code
def yX7_byteAt : MethodName := ⟨RX7, "byteAt", "(I)I"⟩
abbrev cX7_fails : ByteArray := prog_9_method_7_code
def yX7_fails : MethodName := ⟨RX7, "fails", "(I)V"⟩
abbrev cX7_nameHere : ByteArray := prog_9_method_8_code
def yX7_nameHere : MethodName := ⟨RX7, "nameHere", "()I"⟩
abbrev cX7_step : ByteArray := prog_9_method_9_code
def yX7_step : MethodName := ⟨RX7, "step", "()V"⟩
abbrev cX7_number : ByteArray := prog_9_method_10_code
def yX7_number : MethodName := ⟨RX7, "number", "(II)I"⟩
abbrev cX7_townHere : ByteArray := prog_9_method_11_code
def yX7_townHere : MethodName := ⟨RX7, "townHere", "()I"⟩
abbrev cX7_readMore : ByteArray := prog_9_method_12_code
def yX7_readMore : MethodName := ⟨RX7, "readMore", "(I)V"⟩
abbrev cX7_readLine : ByteArray := prog_9_method_13_code
def yX7_readLine : MethodName := ⟨RX7, "readLine", "()V"⟩
abbrev cX7_text : ByteArray := prog_9_method_14_code
def yX7_text : MethodName := ⟨RX7, "text", "()I"⟩
abbrev cX7_fault : ByteArray := prog_9_method_15_code
def yX7_fault : MethodName := ⟨RX7, "fault", "()I"⟩
abbrev cX7_isTown : ByteArray := prog_9_method_16_code
def yX7_isTown : MethodName := ⟨RX7, "isTown", "(I)Z"⟩
abbrev cX7_isPair : ByteArray := prog_9_method_17_code
def yX7_isPair : MethodName := ⟨RX7, "isPair", "(II)Z"⟩
abbrev cX7_isFixture : ByteArray := prog_9_method_18_code
def yX7_isFixture : MethodName := ⟨RX7, "isFixture", "(I)Z"⟩
abbrev cX7_playsOn : ByteArray := prog_9_method_19_code
def yX7_playsOn : MethodName := ⟨RX7, "playsOn", "(II)I"⟩
abbrev cX7_gameOn : ByteArray := prog_9_method_20_code
def yX7_gameOn : MethodName := ⟨RX7, "gameOn", "(III)I"⟩
abbrev cX7_playedOn : ByteArray := prog_9_method_21_code
def yX7_playedOn : MethodName := ⟨RX7, "playedOn", "(III)V"⟩
abbrev cX7_placeOn : ByteArray := prog_9_method_22_code
def yX7_placeOn : MethodName := ⟨RX7, "placeOn", "(I)I"⟩
abbrev cX7_yearsEnd : ByteArray := prog_9_method_23_code
def yX7_yearsEnd : MethodName := ⟨RX7, "yearsEnd", "(I)V"⟩
abbrev cX7_weekOn : ByteArray := prog_9_method_24_code
def yX7_weekOn : MethodName := ⟨RX7, "weekOn", "(IZ)V"⟩
abbrev cX7_owedOn : ByteArray := prog_9_method_25_code
def yX7_owedOn : MethodName := ⟨RX7, "owedOn", "(I)I"⟩
abbrev cX7_losersOn : ByteArray := prog_9_method_26_code
def yX7_losersOn : MethodName := ⟨RX7, "losersOn", "(I)I"⟩
abbrev cX7_rule : ByteArray := prog_9_method_27_code
def yX7_rule : MethodName := ⟨RX7, "rule", "(I)I"⟩
abbrev cX7_town : ByteArray := prog_9_method_28_code
def yX7_town : MethodName := ⟨RX7, "town", "(II)I"⟩
abbrev cX7_fixture : ByteArray := prog_9_method_29_code
def yX7_fixture : MethodName := ⟨RX7, "fixture", "(II)I"⟩
abbrev cX7_game : ByteArray := prog_9_method_30_code
def yX7_game : MethodName := ⟨RX7, "game", "(II)I"⟩
abbrev cX7_puts : ByteArray := prog_9_method_31_code
def yX7_puts : MethodName := ⟨RX7, "puts", "(ZII)I"⟩
abbrev cX7_alter : ByteArray := prog_9_method_32_code
def yX7_alter : MethodName := ⟨RX7, "alter", "(III)I"⟩
abbrev cX7_lendsOn : ByteArray := prog_9_method_33_code
def yX7_lendsOn : MethodName := ⟨RX7, "lendsOn", "(IIII)I"⟩
abbrev cX7_lend : ByteArray := prog_9_method_34_code
def yX7_lend : MethodName := ⟨RX7, "lend", "(III)I"⟩
abbrev cX7_books : ByteArray := prog_9_method_35_code
def yX7_books : MethodName := ⟨RX7, "books", "(II)I"⟩
abbrev cX7_book : ByteArray := prog_9_method_36_code
def yX7_book : MethodName := ⟨RX7, "book", "(II)I"⟩
abbrev cX7_strike : ByteArray := prog_9_method_37_code
def yX7_strike : MethodName := ⟨RX7, "strike", "(I)I"⟩
abbrev cX7_weeks : ByteArray := prog_9_method_38_code
def yX7_weeks : MethodName := ⟨RX7, "weeks", "(I)I"⟩
abbrev cX7_copies : ByteArray := prog_9_method_39_code
def yX7_copies : MethodName := ⟨RX7, "copies", "(II)V"⟩
abbrev cX7_weeksGo : ByteArray := prog_9_method_40_code
def yX7_weeksGo : MethodName := ⟨RX7, "weeksGo", "(II)I"⟩
abbrev cX7_runs : ByteArray := prog_9_method_41_code
def yX7_runs : MethodName := ⟨RX7, "runs", "(II)I"⟩
abbrev cX7_ahead : ByteArray := prog_9_method_42_code
def yX7_ahead : MethodName := ⟨RX7, "ahead", "(III)I"⟩
abbrev cX7_loser : ByteArray := prog_9_method_43_code
def yX7_loser : MethodName := ⟨RX7, "loser", "(I)I"⟩
abbrev cX7_firstLoss : ByteArray := prog_9_method_44_code
def yX7_firstLoss : MethodName := ⟨RX7, "firstLoss", "(III)I"⟩
abbrev cX7_loses : ByteArray := prog_9_method_45_code
def yX7_loses : MethodName := ⟨RX7, "loses", "(I)I"⟩
abbrev cX7_ordered : ByteArray := prog_9_method_46_code
def yX7_ordered : MethodName := ⟨RX7, "ordered", "(I)Z"⟩
abbrev cX7_order : ByteArray := prog_9_method_47_code
def yX7_order : MethodName := ⟨RX7, "order", "(I)I"⟩
abbrev cX7_loan : ByteArray := prog_9_method_48_code
def yX7_loan : MethodName := ⟨RX7, "loan", "(II)I"⟩
abbrev cX7_swap : ByteArray := prog_9_method_49_code
def yX7_swap : MethodName := ⟨RX7, "swap", "(II)I"⟩
abbrev cX7_skip : ByteArray := prog_9_method_50_code
def yX7_skip : MethodName := ⟨RX7, "skip", "(II)I"⟩
abbrev cX7_most : ByteArray := prog_9_method_51_code
def yX7_most : MethodName := ⟨RX7, "most", "(II)I"⟩
abbrev cX7_kind : ByteArray := prog_9_method_52_code
def yX7_kind : MethodName := ⟨RX7, "kind", "(III)I"⟩
abbrev cX7_lowest : ByteArray := prog_9_method_53_code
def yX7_lowest : MethodName := ⟨RX7, "lowest", "(JJI)J"⟩
abbrev cX7_byRain : ByteArray := prog_9_method_54_code
def yX7_byRain : MethodName := ⟨RX7, "byRain", "(IIII)J"⟩
abbrev cX7_luck : ByteArray := prog_9_method_55_code
def yX7_luck : MethodName := ⟨RX7, "luck", "(IIII)J"⟩
abbrev cX7_mean : ByteArray := prog_9_method_56_code
def yX7_mean : MethodName := ⟨RX7, "mean", "(III)J"⟩
abbrev cX7_see : ByteArray := prog_9_method_57_code
def yX7_see : MethodName := ⟨RX7, "see", "(II)I"⟩
abbrev cX7_forget : ByteArray := prog_9_method_58_code
def yX7_forget : MethodName := ⟨RX7, "forget", "(I)I"⟩
abbrev cX7_isAsSeen : ByteArray := prog_9_method_59_code
def yX7_isAsSeen : MethodName := ⟨RX7, "isAsSeen", "(I)Z"⟩
abbrev cX7_numbersAt : ByteArray := prog_9_method_60_code
def yX7_numbersAt : MethodName := ⟨RX7, "numbersAt", "(II)I"⟩
abbrev cX7_kinds : ByteArray := prog_9_method_61_code
def yX7_kinds : MethodName := ⟨RX7, "kinds", "(I)I"⟩
abbrev cX7_strengths : ByteArray := prog_9_method_62_code
def yX7_strengths : MethodName := ⟨RX7, "strengths", "(I)I"⟩
abbrev cX7_ask : ByteArray := prog_9_method_63_code
def yX7_ask : MethodName := ⟨RX7, "ask", "(II)I"⟩
abbrev cX7_drift : ByteArray := prog_9_method_64_code
def yX7_drift : MethodName := ⟨RX7, "drift", "(III)I"⟩
abbrev cX7_keep : ByteArray := prog_9_method_65_code
def yX7_keep : MethodName := ⟨RX7, "keep", "(I)I"⟩
abbrev cX7_back : ByteArray := prog_9_method_66_code
def yX7_back : MethodName := ⟨RX7, "back", "(I)I"⟩
abbrev cX7_sheet : ByteArray := prog_9_method_67_code
def yX7_sheet : MethodName := ⟨RX7, "sheet", "(III)I"⟩
abbrev cX7_lay : ByteArray := prog_9_method_68_code
def yX7_lay : MethodName := ⟨RX7, "lay", "(III)I"⟩
abbrev cX7_read : ByteArray := prog_9_method_69_code
def yX7_read : MethodName := ⟨RX7, "read", "(IIII)I"⟩
abbrev cX7_torn : ByteArray := prog_9_method_70_code
def yX7_torn : MethodName := ⟨RX7, "torn", "()I"⟩
abbrev cX7_count : ByteArray := prog_9_method_71_code
def yX7_count : MethodName := ⟨RX7, "count", "(I)I"⟩
def RJ6 : String := "java/lang/Integer"
def TJ6 : u_T := fun k => match k with
  | _ => ("", "", "", false)
def tyJ6 : Nat → FieldType := fun k => match k with
  | _ => .int
theorem nmJ6 : ∀ a, a < 0 → ∀ b, b < 0 → a ≠ b → (TJ6 a).2.1 ≠ (TJ6 b).2.1 := by decide +kernel
theorem tyJ6_ok : ∀ k, k < 0 → parseFieldDescriptor (TJ6 k).2.2.1 = some (tyJ6 k) := by decide +kernel
abbrev cJ6_bitCount_0f7a4 : ByteArray := prog_10_method_49_code
def yJ6_bitCount_0f7a4 : MethodName := ⟨RJ6, "bitCount", "(I)I"⟩
def RJ9 : String := "java/lang/Math"
def TJ9 : u_T := fun k => match k with
  | _ => ("", "", "", false)
def tyJ9 : Nat → FieldType := fun k => match k with
  | _ => .int
theorem nmJ9 : ∀ a, a < 0 → ∀ b, b < 0 → a ≠ b → (TJ9 a).2.1 ≠ (TJ9 b).2.1 := by decide +kernel
theorem tyJ9_ok : ∀ k, k < 0 → parseFieldDescriptor (TJ9 k).2.2.1 = some (tyJ9 k) := by decide +kernel
abbrev cJ9_max_7cf53 : ByteArray := prog_11_method_65_code
def yJ9_max_7cf53 : MethodName := ⟨RJ9, "max", "(II)I"⟩
abbrev cJ9_max_f86c9 : ByteArray := prog_11_method_66_code
def yJ9_max_f86c9 : MethodName := ⟨RJ9, "max", "(JJ)J"⟩
abbrev cJ9_min_7cf53 : ByteArray := prog_11_method_69_code
def yJ9_min_7cf53 : MethodName := ⟨RJ9, "min", "(II)I"⟩
def RJ0 : String := "java/lang/String"
def TJ0 : u_T := fun k => match k with
  | _ => ("", "", "", false)
def tyJ0 : Nat → FieldType := fun k => match k with
  | _ => .int
theorem nmJ0 : ∀ a, a < 0 → ∀ b, b < 0 → a ≠ b → (TJ0 a).2.1 ≠ (TJ0 b).2.1 := by decide +kernel
theorem tyJ0_ok : ∀ k, k < 0 → parseFieldDescriptor (TJ0 k).2.2.1 = some (tyJ0 k) := by decide +kernel
abbrev cJ0_length_8abf5 : ByteArray := prog_12_method_54_code
def yJ0_length_8abf5 : MethodName := ⟨RJ0, "length", "()I"⟩
abbrev cJ0_charAt_5068e : ByteArray := prog_12_method_56_code
def yJ0_charAt_5068e : MethodName := ⟨RJ0, "charAt", "(I)C"⟩
abbrev cJ0_coder_7d493 : ByteArray := prog_12_method_152_code
def yJ0_coder_7d493 : MethodName := ⟨RJ0, "coder", "()B"⟩
abbrev cJ0_isLatin1_aae02 : ByteArray := prog_12_method_154_code
def yJ0_isLatin1_aae02 : MethodName := ⟨RJ0, "isLatin1", "()Z"⟩
abbrev cJ0_checkIndex_df160 : ByteArray := prog_12_method_155_code
def yJ0_checkIndex_df160 : MethodName := ⟨RJ0, "checkIndex", "(II)V"⟩
def RJ1 : String := "java/lang/StringLatin1"
def TJ1 : u_T := fun k => match k with
  | _ => ("", "", "", false)
def tyJ1 : Nat → FieldType := fun k => match k with
  | _ => .int
theorem nmJ1 : ∀ a, a < 0 → ∀ b, b < 0 → a ≠ b → (TJ1 a).2.1 ≠ (TJ1 b).2.1 := by decide +kernel
theorem tyJ1_ok : ∀ k, k < 0 → parseFieldDescriptor (TJ1 k).2.2.1 = some (tyJ1 k) := by decide +kernel
abbrev cJ1_charAt_3b067 : ByteArray := prog_13_method_2_code
def yJ1_charAt_3b067 : MethodName := ⟨RJ1, "charAt", "([BI)C"⟩
def RJ2 : String := "java/lang/StringUTF16"
def TJ2 : u_T := fun k => match k with
  | _ => ("", "", "", false)
def tyJ2 : Nat → FieldType := fun k => match k with
  | _ => .int
theorem nmJ2 : ∀ a, a < 0 → ∀ b, b < 0 → a ≠ b → (TJ2 a).2.1 ≠ (TJ2 b).2.1 := by decide +kernel
theorem tyJ2_ok : ∀ k, k < 0 → parseFieldDescriptor (TJ2 k).2.2.1 = some (tyJ2 k) := by decide +kernel
abbrev cJ2_getChar_3b067 : ByteArray := prog_14_method_5_code
def yJ2_getChar_3b067 : MethodName := ⟨RJ2, "getChar", "([BI)C"⟩
abbrev cJ2_length_9d52b : ByteArray := prog_14_method_6_code
def yJ2_length_9d52b : MethodName := ⟨RJ2, "length", "([B)I"⟩
abbrev cJ2_charAt_3b067 : ByteArray := prog_14_method_83_code
def yJ2_charAt_3b067 : MethodName := ⟨RJ2, "charAt", "([BI)C"⟩
abbrev cJ2_checkIndex_2214a : ByteArray := prog_14_method_91_code
def yJ2_checkIndex_2214a : MethodName := ⟨RJ2, "checkIndex", "(I[B)V"⟩
def RJ3 : String := "jdk/internal/util/Preconditions"
def TJ3 : u_T := fun k => match k with
  | _ => ("", "", "", false)
def tyJ3 : Nat → FieldType := fun k => match k with
  | _ => .int
theorem nmJ3 : ∀ a, a < 0 → ∀ b, b < 0 → a ≠ b → (TJ3 a).2.1 ≠ (TJ3 b).2.1 := by decide +kernel
theorem tyJ3_ok : ∀ k, k < 0 → parseFieldDescriptor (TJ3 k).2.2.1 = some (tyJ3 k) := by decide +kernel
abbrev cJ3_checkIndex_8e157 : ByteArray := prog_15_method_11_code
def yJ3_checkIndex_8e157 : MethodName := ⟨RJ3, "checkIndex", "(IILjava/util/function/BiFunction;)I"⟩
def RL : String := "LoseLeagueLaw"
abbrev cL_law : ByteArray := code
def yL_law : MethodName := ⟨RL, "law", "([I)Z"⟩
