theorem dX0_init_0 : decode cX0_init 0 = .ok (.aload_n 0, 1) := by decide +kernel
theorem dX0_init_1 : decode cX0_init 1 = .ok (.invokespecial 3, 3) := by decide +kernel
theorem dX0_init_4 : decode cX0_init 4 = .ok (.return_, 1) := by decide +kernel
theorem dX0_start_0 : decode cX0_start 0 = .ok (.aload_n 0, 1) := by decide +kernel
theorem dX0_start_1 : decode cX0_start 1 = .ok (.bipush (-4), 2) := by decide +kernel
theorem dX0_start_3 : decode cX0_start 3 = .ok (.putfield 9, 3) := by decide +kernel
theorem dX0_start_6 : decode cX0_start 6 = .ok (.aload_n 0, 1) := by decide +kernel
theorem dX0_start_7 : decode cX0_start 7 = .ok (.iload_n 1, 1) := by decide +kernel
theorem dX0_start_8 : decode cX0_start 8 = .ok (.putfield 15, 3) := by decide +kernel
theorem dX0_start_11 : decode cX0_start 11 = .ok (.return_, 1) := by decide +kernel
theorem dX0_offer_0 : decode cX0_offer 0 = .ok (.iload_n 2, 1) := by decide +kernel
theorem dX0_offer_1 : decode cX0_offer 1 = .ok (.aload_n 0, 1) := by decide +kernel
theorem dX0_offer_2 : decode cX0_offer 2 = .ok (.getfield 15, 3) := by decide +kernel
theorem dX0_offer_5 : decode cX0_offer 5 = .ok (.if_icmp .ge 13, 3) := by decide +kernel
theorem dX0_offer_8 : decode cX0_offer 8 = .ok (.aload_n 0, 1) := by decide +kernel
theorem dX0_offer_9 : decode cX0_offer 9 = .ok (.iload_n 1, 1) := by decide +kernel
theorem dX0_offer_10 : decode cX0_offer 10 = .ok (.putfield 9, 3) := by decide +kernel
theorem dX0_offer_13 : decode cX0_offer 13 = .ok (.aload_n 0, 1) := by decide +kernel
theorem dX0_offer_14 : decode cX0_offer 14 = .ok (.iload_n 2, 1) := by decide +kernel
theorem dX0_offer_15 : decode cX0_offer 15 = .ok (.putfield 15, 3) := by decide +kernel
theorem dX0_offer_18 : decode cX0_offer 18 = .ok (.return_, 1) := by decide +kernel
theorem dX0_answer_0 : decode cX0_answer 0 = .ok (.aload_n 0, 1) := by decide +kernel
theorem dX0_answer_1 : decode cX0_answer 1 = .ok (.getfield 9, 3) := by decide +kernel
theorem dX0_answer_4 : decode cX0_answer 4 = .ok (.bipush (-4), 2) := by decide +kernel
theorem dX0_answer_6 : decode cX0_answer 6 = .ok (.if_icmp .ne 6, 3) := by decide +kernel
theorem dX0_answer_9 : decode cX0_answer 9 = .ok (.bipush (-4), 2) := by decide +kernel
theorem dX0_answer_11 : decode cX0_answer 11 = .ok (.ireturn, 1) := by decide +kernel
theorem dX0_answer_12 : decode cX0_answer 12 = .ok (.iload_n 1, 1) := by decide +kernel
theorem dX0_answer_13 : decode cX0_answer 13 = .ok (.ifCond .ne 10, 3) := by decide +kernel
theorem dX0_answer_16 : decode cX0_answer 16 = .ok (.aload_n 0, 1) := by decide +kernel
theorem dX0_answer_17 : decode cX0_answer 17 = .ok (.getfield 9, 3) := by decide +kernel
theorem dX0_answer_20 : decode cX0_answer 20 = .ok (.goto 7, 3) := by decide +kernel
theorem dX0_answer_23 : decode cX0_answer 23 = .ok (.aload_n 0, 1) := by decide +kernel
theorem dX0_answer_24 : decode cX0_answer 24 = .ok (.getfield 15, 3) := by decide +kernel
theorem dX0_answer_27 : decode cX0_answer 27 = .ok (.ireturn, 1) := by decide +kernel
theorem dX1_init_0 : decode cX1_init 0 = .ok (.aload_n 0, 1) := by decide +kernel
theorem dX1_init_1 : decode cX1_init 1 = .ok (.invokespecial 3, 3) := by decide +kernel
theorem dX1_init_4 : decode cX1_init 4 = .ok (.aload_n 0, 1) := by decide +kernel
theorem dX1_init_5 : decode cX1_init 5 = .ok (.iconst 5, 1) := by decide +kernel
theorem dX1_init_6 : decode cX1_init 6 = .ok (.newarray .int, 2) := by decide +kernel
theorem dX1_init_8 : decode cX1_init 8 = .ok (.putfield 9, 3) := by decide +kernel
theorem dX1_init_11 : decode cX1_init 11 = .ok (.aload_n 0, 1) := by decide +kernel
theorem dX1_init_12 : decode cX1_init 12 = .ok (.iconst 5, 1) := by decide +kernel
theorem dX1_init_13 : decode cX1_init 13 = .ok (.newarray .int, 2) := by decide +kernel
theorem dX1_init_15 : decode cX1_init 15 = .ok (.putfield 15, 3) := by decide +kernel
theorem dX1_init_18 : decode cX1_init 18 = .ok (.aload_n 0, 1) := by decide +kernel
theorem dX1_init_19 : decode cX1_init 19 = .ok (.iconst 5, 1) := by decide +kernel
theorem dX1_init_20 : decode cX1_init 20 = .ok (.newarray .int, 2) := by decide +kernel
theorem dX1_init_22 : decode cX1_init 22 = .ok (.putfield 18, 3) := by decide +kernel
theorem dX1_init_25 : decode cX1_init 25 = .ok (.aload_n 0, 1) := by decide +kernel
theorem dX1_init_26 : decode cX1_init 26 = .ok (.iconst 5, 1) := by decide +kernel
theorem dX1_init_27 : decode cX1_init 27 = .ok (.newarray .int, 2) := by decide +kernel
theorem dX1_init_29 : decode cX1_init 29 = .ok (.putfield 21, 3) := by decide +kernel
theorem dX1_init_32 : decode cX1_init 32 = .ok (.aload_n 0, 1) := by decide +kernel
theorem dX1_init_33 : decode cX1_init 33 = .ok (.bipush 10, 2) := by decide +kernel
theorem dX1_init_35 : decode cX1_init 35 = .ok (.newarray .int, 2) := by decide +kernel
theorem dX1_init_37 : decode cX1_init 37 = .ok (.putfield 24, 3) := by decide +kernel
theorem dX1_init_40 : decode cX1_init 40 = .ok (.aload_n 0, 1) := by decide +kernel
theorem dX1_init_41 : decode cX1_init 41 = .ok (.bipush 10, 2) := by decide +kernel
theorem dX1_init_43 : decode cX1_init 43 = .ok (.newarray .int, 2) := by decide +kernel
theorem dX1_init_45 : decode cX1_init 45 = .ok (.putfield 27, 3) := by decide +kernel
theorem dX1_init_48 : decode cX1_init 48 = .ok (.return_, 1) := by decide +kernel
theorem dX1_clear_0 : decode cX1_clear 0 = .ok (.aload_n 0, 1) := by decide +kernel
theorem dX1_clear_1 : decode cX1_clear 1 = .ok (.iconst 0, 1) := by decide +kernel
theorem dX1_clear_2 : decode cX1_clear 2 = .ok (.putfield 30, 3) := by decide +kernel
theorem dX1_clear_5 : decode cX1_clear 5 = .ok (.aload_n 0, 1) := by decide +kernel
theorem dX1_clear_6 : decode cX1_clear 6 = .ok (.iconst 0, 1) := by decide +kernel
theorem dX1_clear_7 : decode cX1_clear 7 = .ok (.putfield 34, 3) := by decide +kernel
theorem dX1_clear_10 : decode cX1_clear 10 = .ok (.aload_n 0, 1) := by decide +kernel
theorem dX1_clear_11 : decode cX1_clear 11 = .ok (.iconst 0, 1) := by decide +kernel
theorem dX1_clear_12 : decode cX1_clear 12 = .ok (.putfield 37, 3) := by decide +kernel
theorem dX1_clear_15 : decode cX1_clear 15 = .ok (.return_, 1) := by decide +kernel
theorem dX1_become_0 : decode cX1_become 0 = .ok (.aload_n 0, 1) := by decide +kernel
theorem dX1_become_1 : decode cX1_become 1 = .ok (.aload_n 1, 1) := by decide +kernel
theorem dX1_become_2 : decode cX1_become 2 = .ok (.getfield 30, 3) := by decide +kernel
theorem dX1_become_5 : decode cX1_become 5 = .ok (.putfield 30, 3) := by decide +kernel
theorem dX1_become_8 : decode cX1_become 8 = .ok (.aload_n 0, 1) := by decide +kernel
theorem dX1_become_9 : decode cX1_become 9 = .ok (.aload_n 1, 1) := by decide +kernel
theorem dX1_become_10 : decode cX1_become 10 = .ok (.getfield 34, 3) := by decide +kernel
theorem dX1_become_13 : decode cX1_become 13 = .ok (.putfield 34, 3) := by decide +kernel
theorem dX1_become_16 : decode cX1_become 16 = .ok (.aload_n 0, 1) := by decide +kernel
theorem dX1_become_17 : decode cX1_become 17 = .ok (.aload_n 1, 1) := by decide +kernel
theorem dX1_become_18 : decode cX1_become 18 = .ok (.getfield 37, 3) := by decide +kernel
theorem dX1_become_21 : decode cX1_become 21 = .ok (.putfield 37, 3) := by decide +kernel
theorem dX1_become_24 : decode cX1_become 24 = .ok (.iconst 0, 1) := by decide +kernel
theorem dX1_become_25 : decode cX1_become 25 = .ok (.istore_n 2, 1) := by decide +kernel
theorem dX1_become_26 : decode cX1_become 26 = .ok (.iload_n 2, 1) := by decide +kernel
theorem dX1_become_27 : decode cX1_become 27 = .ok (.aload_n 0, 1) := by decide +kernel
theorem dX1_become_28 : decode cX1_become 28 = .ok (.getfield 30, 3) := by decide +kernel
theorem dX1_become_31 : decode cX1_become 31 = .ok (.if_icmp .ge 57, 3) := by decide +kernel
theorem dX1_become_34 : decode cX1_become 34 = .ok (.aload_n 0, 1) := by decide +kernel
theorem dX1_become_35 : decode cX1_become 35 = .ok (.getfield 9, 3) := by decide +kernel
theorem dX1_become_38 : decode cX1_become 38 = .ok (.iload_n 2, 1) := by decide +kernel
theorem dX1_become_39 : decode cX1_become 39 = .ok (.aload_n 1, 1) := by decide +kernel
theorem dX1_become_40 : decode cX1_become 40 = .ok (.getfield 9, 3) := by decide +kernel
theorem dX1_become_43 : decode cX1_become 43 = .ok (.iload_n 2, 1) := by decide +kernel
theorem dX1_become_44 : decode cX1_become 44 = .ok (.iaload, 1) := by decide +kernel
theorem dX1_become_45 : decode cX1_become 45 = .ok (.iastore, 1) := by decide +kernel
theorem dX1_become_46 : decode cX1_become 46 = .ok (.aload_n 0, 1) := by decide +kernel
theorem dX1_become_47 : decode cX1_become 47 = .ok (.getfield 15, 3) := by decide +kernel
theorem dX1_become_50 : decode cX1_become 50 = .ok (.iload_n 2, 1) := by decide +kernel
theorem dX1_become_51 : decode cX1_become 51 = .ok (.aload_n 1, 1) := by decide +kernel
theorem dX1_become_52 : decode cX1_become 52 = .ok (.getfield 15, 3) := by decide +kernel
theorem dX1_become_55 : decode cX1_become 55 = .ok (.iload_n 2, 1) := by decide +kernel
theorem dX1_become_56 : decode cX1_become 56 = .ok (.iaload, 1) := by decide +kernel
theorem dX1_become_57 : decode cX1_become 57 = .ok (.iastore, 1) := by decide +kernel
theorem dX1_become_58 : decode cX1_become 58 = .ok (.aload_n 0, 1) := by decide +kernel
theorem dX1_become_59 : decode cX1_become 59 = .ok (.getfield 18, 3) := by decide +kernel
theorem dX1_become_62 : decode cX1_become 62 = .ok (.iload_n 2, 1) := by decide +kernel
theorem dX1_become_63 : decode cX1_become 63 = .ok (.aload_n 1, 1) := by decide +kernel
theorem dX1_become_64 : decode cX1_become 64 = .ok (.getfield 18, 3) := by decide +kernel
theorem dX1_become_67 : decode cX1_become 67 = .ok (.iload_n 2, 1) := by decide +kernel
theorem dX1_become_68 : decode cX1_become 68 = .ok (.iaload, 1) := by decide +kernel
theorem dX1_become_69 : decode cX1_become 69 = .ok (.iastore, 1) := by decide +kernel
theorem dX1_become_70 : decode cX1_become 70 = .ok (.aload_n 0, 1) := by decide +kernel
theorem dX1_become_71 : decode cX1_become 71 = .ok (.getfield 21, 3) := by decide +kernel
theorem dX1_become_74 : decode cX1_become 74 = .ok (.iload_n 2, 1) := by decide +kernel
theorem dX1_become_75 : decode cX1_become 75 = .ok (.aload_n 1, 1) := by decide +kernel
theorem dX1_become_76 : decode cX1_become 76 = .ok (.getfield 21, 3) := by decide +kernel
theorem dX1_become_79 : decode cX1_become 79 = .ok (.iload_n 2, 1) := by decide +kernel
theorem dX1_become_80 : decode cX1_become 80 = .ok (.iaload, 1) := by decide +kernel
theorem dX1_become_81 : decode cX1_become 81 = .ok (.iastore, 1) := by decide +kernel
theorem dX1_become_82 : decode cX1_become 82 = .ok (.iinc 2 1, 3) := by decide +kernel
theorem dX1_become_85 : decode cX1_become 85 = .ok (.goto (-59), 3) := by decide +kernel
theorem dX1_become_88 : decode cX1_become 88 = .ok (.iconst 0, 1) := by decide +kernel
theorem dX1_become_89 : decode cX1_become 89 = .ok (.istore_n 2, 1) := by decide +kernel
theorem dX1_become_90 : decode cX1_become 90 = .ok (.iload_n 2, 1) := by decide +kernel
theorem dX1_become_91 : decode cX1_become 91 = .ok (.aload_n 0, 1) := by decide +kernel
theorem dX1_become_92 : decode cX1_become 92 = .ok (.getfield 34, 3) := by decide +kernel
theorem dX1_become_95 : decode cX1_become 95 = .ok (.if_icmp .ge 33, 3) := by decide +kernel
theorem dX1_become_98 : decode cX1_become 98 = .ok (.aload_n 0, 1) := by decide +kernel
theorem dX1_become_99 : decode cX1_become 99 = .ok (.getfield 24, 3) := by decide +kernel
theorem dX1_become_102 : decode cX1_become 102 = .ok (.iload_n 2, 1) := by decide +kernel
theorem dX1_become_103 : decode cX1_become 103 = .ok (.aload_n 1, 1) := by decide +kernel
theorem dX1_become_104 : decode cX1_become 104 = .ok (.getfield 24, 3) := by decide +kernel
theorem dX1_become_107 : decode cX1_become 107 = .ok (.iload_n 2, 1) := by decide +kernel
theorem dX1_become_108 : decode cX1_become 108 = .ok (.iaload, 1) := by decide +kernel
theorem dX1_become_109 : decode cX1_become 109 = .ok (.iastore, 1) := by decide +kernel
theorem dX1_become_110 : decode cX1_become 110 = .ok (.aload_n 0, 1) := by decide +kernel
theorem dX1_become_111 : decode cX1_become 111 = .ok (.getfield 27, 3) := by decide +kernel
theorem dX1_become_114 : decode cX1_become 114 = .ok (.iload_n 2, 1) := by decide +kernel
theorem dX1_become_115 : decode cX1_become 115 = .ok (.aload_n 1, 1) := by decide +kernel
theorem dX1_become_116 : decode cX1_become 116 = .ok (.getfield 27, 3) := by decide +kernel
theorem dX1_become_119 : decode cX1_become 119 = .ok (.iload_n 2, 1) := by decide +kernel
theorem dX1_become_120 : decode cX1_become 120 = .ok (.iaload, 1) := by decide +kernel
theorem dX1_become_121 : decode cX1_become 121 = .ok (.iastore, 1) := by decide +kernel
theorem dX1_become_122 : decode cX1_become 122 = .ok (.iinc 2 1, 3) := by decide +kernel
theorem dX1_become_125 : decode cX1_become 125 = .ok (.goto (-35), 3) := by decide +kernel
theorem dX1_become_128 : decode cX1_become 128 = .ok (.return_, 1) := by decide +kernel
theorem dX1_hasTown_0 : decode cX1_hasTown 0 = .ok (.iload_n 1, 1) := by decide +kernel
theorem dX1_hasTown_1 : decode cX1_hasTown 1 = .ok (.ifCond .lt 15, 3) := by decide +kernel
theorem dX1_hasTown_4 : decode cX1_hasTown 4 = .ok (.iload_n 1, 1) := by decide +kernel
theorem dX1_hasTown_5 : decode cX1_hasTown 5 = .ok (.aload_n 0, 1) := by decide +kernel
theorem dX1_hasTown_6 : decode cX1_hasTown 6 = .ok (.getfield 30, 3) := by decide +kernel
theorem dX1_hasTown_9 : decode cX1_hasTown 9 = .ok (.if_icmp .ge 7, 3) := by decide +kernel
theorem dX1_hasTown_12 : decode cX1_hasTown 12 = .ok (.iconst 1, 1) := by decide +kernel
theorem dX1_hasTown_13 : decode cX1_hasTown 13 = .ok (.goto 4, 3) := by decide +kernel
theorem dX1_hasTown_16 : decode cX1_hasTown 16 = .ok (.iconst 0, 1) := by decide +kernel
theorem dX1_hasTown_17 : decode cX1_hasTown 17 = .ok (.ireturn, 1) := by decide +kernel
theorem dX1_hasFixture_0 : decode cX1_hasFixture 0 = .ok (.iload_n 1, 1) := by decide +kernel
theorem dX1_hasFixture_1 : decode cX1_hasFixture 1 = .ok (.ifCond .lt 15, 3) := by decide +kernel
theorem dX1_hasFixture_4 : decode cX1_hasFixture 4 = .ok (.iload_n 1, 1) := by decide +kernel
theorem dX1_hasFixture_5 : decode cX1_hasFixture 5 = .ok (.aload_n 0, 1) := by decide +kernel
theorem dX1_hasFixture_6 : decode cX1_hasFixture 6 = .ok (.getfield 34, 3) := by decide +kernel
theorem dX1_hasFixture_9 : decode cX1_hasFixture 9 = .ok (.if_icmp .ge 7, 3) := by decide +kernel
theorem dX1_hasFixture_12 : decode cX1_hasFixture 12 = .ok (.iconst 1, 1) := by decide +kernel
theorem dX1_hasFixture_13 : decode cX1_hasFixture 13 = .ok (.goto 4, 3) := by decide +kernel
theorem dX1_hasFixture_16 : decode cX1_hasFixture 16 = .ok (.iconst 0, 1) := by decide +kernel
theorem dX1_hasFixture_17 : decode cX1_hasFixture 17 = .ok (.ireturn, 1) := by decide +kernel
theorem dX1_hasPair_0 : decode cX1_hasPair 0 = .ok (.aload_n 0, 1) := by decide +kernel
theorem dX1_hasPair_1 : decode cX1_hasPair 1 = .ok (.iload_n 1, 1) := by decide +kernel
theorem dX1_hasPair_2 : decode cX1_hasPair 2 = .ok (.invokevirtual 40, 3) := by decide +kernel
theorem dX1_hasPair_5 : decode cX1_hasPair 5 = .ok (.ifCond .eq 20, 3) := by decide +kernel
theorem dX1_hasPair_8 : decode cX1_hasPair 8 = .ok (.aload_n 0, 1) := by decide +kernel
theorem dX1_hasPair_9 : decode cX1_hasPair 9 = .ok (.iload_n 2, 1) := by decide +kernel
theorem dX1_hasPair_10 : decode cX1_hasPair 10 = .ok (.invokevirtual 40, 3) := by decide +kernel
theorem dX1_hasPair_13 : decode cX1_hasPair 13 = .ok (.ifCond .eq 12, 3) := by decide +kernel
theorem dX1_hasPair_16 : decode cX1_hasPair 16 = .ok (.iload_n 1, 1) := by decide +kernel
theorem dX1_hasPair_17 : decode cX1_hasPair 17 = .ok (.iload_n 2, 1) := by decide +kernel
theorem dX1_hasPair_18 : decode cX1_hasPair 18 = .ok (.if_icmp .eq 7, 3) := by decide +kernel
theorem dX1_hasPair_21 : decode cX1_hasPair 21 = .ok (.iconst 1, 1) := by decide +kernel
theorem dX1_hasPair_22 : decode cX1_hasPair 22 = .ok (.goto 4, 3) := by decide +kernel
theorem dX1_hasPair_25 : decode cX1_hasPair 25 = .ok (.iconst 0, 1) := by decide +kernel
theorem dX1_hasPair_26 : decode cX1_hasPair 26 = .ok (.ireturn, 1) := by decide +kernel
theorem dX1_isFullOfTowns_0 : decode cX1_isFullOfTowns 0 = .ok (.aload_n 0, 1) := by decide +kernel
theorem dX1_isFullOfTowns_1 : decode cX1_isFullOfTowns 1 = .ok (.getfield 30, 3) := by decide +kernel
theorem dX1_isFullOfTowns_4 : decode cX1_isFullOfTowns 4 = .ok (.iconst 5, 1) := by decide +kernel
theorem dX1_isFullOfTowns_5 : decode cX1_isFullOfTowns 5 = .ok (.if_icmp .lt 7, 3) := by decide +kernel
theorem dX1_isFullOfTowns_8 : decode cX1_isFullOfTowns 8 = .ok (.iconst 1, 1) := by decide +kernel
theorem dX1_isFullOfTowns_9 : decode cX1_isFullOfTowns 9 = .ok (.goto 4, 3) := by decide +kernel
theorem dX1_isFullOfTowns_12 : decode cX1_isFullOfTowns 12 = .ok (.iconst 0, 1) := by decide +kernel
theorem dX1_isFullOfTowns_13 : decode cX1_isFullOfTowns 13 = .ok (.ireturn, 1) := by decide +kernel
theorem dX1_isFullOfFixtures_0 : decode cX1_isFullOfFixtures 0 = .ok (.aload_n 0, 1) := by decide +kernel
theorem dX1_isFullOfFixtures_1 : decode cX1_isFullOfFixtures 1 = .ok (.getfield 34, 3) := by decide +kernel
theorem dX1_isFullOfFixtures_4 : decode cX1_isFullOfFixtures 4 = .ok (.bipush 10, 2) := by decide +kernel
theorem dX1_isFullOfFixtures_6 : decode cX1_isFullOfFixtures 6 = .ok (.if_icmp .lt 7, 3) := by decide +kernel
theorem dX1_isFullOfFixtures_9 : decode cX1_isFullOfFixtures 9 = .ok (.iconst 1, 1) := by decide +kernel
theorem dX1_isFullOfFixtures_10 : decode cX1_isFullOfFixtures 10 = .ok (.goto 4, 3) := by decide +kernel
theorem dX1_isFullOfFixtures_13 : decode cX1_isFullOfFixtures 13 = .ok (.iconst 0, 1) := by decide +kernel
theorem dX1_isFullOfFixtures_14 : decode cX1_isFullOfFixtures 14 = .ok (.ireturn, 1) := by decide +kernel
theorem dX1_addTown_0 : decode cX1_addTown 0 = .ok (.aload_n 0, 1) := by decide +kernel
theorem dX1_addTown_1 : decode cX1_addTown 1 = .ok (.invokevirtual 44, 3) := by decide +kernel
theorem dX1_addTown_4 : decode cX1_addTown 4 = .ok (.ifCond .eq 4, 3) := by decide +kernel
theorem dX1_addTown_7 : decode cX1_addTown 7 = .ok (.return_, 1) := by decide +kernel
theorem dX1_addTown_8 : decode cX1_addTown 8 = .ok (.aload_n 0, 1) := by decide +kernel
theorem dX1_addTown_9 : decode cX1_addTown 9 = .ok (.getfield 9, 3) := by decide +kernel
theorem dX1_addTown_12 : decode cX1_addTown 12 = .ok (.aload_n 0, 1) := by decide +kernel
theorem dX1_addTown_13 : decode cX1_addTown 13 = .ok (.getfield 30, 3) := by decide +kernel
theorem dX1_addTown_16 : decode cX1_addTown 16 = .ok (.iload_n 1, 1) := by decide +kernel
theorem dX1_addTown_17 : decode cX1_addTown 17 = .ok (.iastore, 1) := by decide +kernel
theorem dX1_addTown_18 : decode cX1_addTown 18 = .ok (.aload_n 0, 1) := by decide +kernel
theorem dX1_addTown_19 : decode cX1_addTown 19 = .ok (.getfield 15, 3) := by decide +kernel
theorem dX1_addTown_22 : decode cX1_addTown 22 = .ok (.aload_n 0, 1) := by decide +kernel
theorem dX1_addTown_23 : decode cX1_addTown 23 = .ok (.getfield 30, 3) := by decide +kernel
theorem dX1_addTown_26 : decode cX1_addTown 26 = .ok (.iload_n 2, 1) := by decide +kernel
theorem dX1_addTown_27 : decode cX1_addTown 27 = .ok (.iastore, 1) := by decide +kernel
theorem dX1_addTown_28 : decode cX1_addTown 28 = .ok (.aload_n 0, 1) := by decide +kernel
theorem dX1_addTown_29 : decode cX1_addTown 29 = .ok (.getfield 18, 3) := by decide +kernel
theorem dX1_addTown_32 : decode cX1_addTown 32 = .ok (.aload_n 0, 1) := by decide +kernel
theorem dX1_addTown_33 : decode cX1_addTown 33 = .ok (.getfield 30, 3) := by decide +kernel
theorem dX1_addTown_36 : decode cX1_addTown 36 = .ok (.iconst 0, 1) := by decide +kernel
theorem dX1_addTown_37 : decode cX1_addTown 37 = .ok (.iastore, 1) := by decide +kernel
theorem dX1_addTown_38 : decode cX1_addTown 38 = .ok (.aload_n 0, 1) := by decide +kernel
theorem dX1_addTown_39 : decode cX1_addTown 39 = .ok (.getfield 21, 3) := by decide +kernel
theorem dX1_addTown_42 : decode cX1_addTown 42 = .ok (.aload_n 0, 1) := by decide +kernel
theorem dX1_addTown_43 : decode cX1_addTown 43 = .ok (.getfield 30, 3) := by decide +kernel
theorem dX1_addTown_46 : decode cX1_addTown 46 = .ok (.iconst 0, 1) := by decide +kernel
theorem dX1_addTown_47 : decode cX1_addTown 47 = .ok (.iastore, 1) := by decide +kernel
theorem dX1_addTown_48 : decode cX1_addTown 48 = .ok (.aload_n 0, 1) := by decide +kernel
theorem dX1_addTown_49 : decode cX1_addTown 49 = .ok (.dup, 1) := by decide +kernel
theorem dX1_addTown_50 : decode cX1_addTown 50 = .ok (.getfield 30, 3) := by decide +kernel
theorem dX1_addTown_53 : decode cX1_addTown 53 = .ok (.iconst 1, 1) := by decide +kernel
theorem dX1_addTown_54 : decode cX1_addTown 54 = .ok (.iadd, 1) := by decide +kernel
theorem dX1_addTown_55 : decode cX1_addTown 55 = .ok (.putfield 30, 3) := by decide +kernel
theorem dX1_addTown_58 : decode cX1_addTown 58 = .ok (.return_, 1) := by decide +kernel
theorem dX1_addFixture_0 : decode cX1_addFixture 0 = .ok (.aload_n 0, 1) := by decide +kernel
theorem dX1_addFixture_1 : decode cX1_addFixture 1 = .ok (.iload_n 1, 1) := by decide +kernel
theorem dX1_addFixture_2 : decode cX1_addFixture 2 = .ok (.iload_n 2, 1) := by decide +kernel
theorem dX1_addFixture_3 : decode cX1_addFixture 3 = .ok (.invokevirtual 48, 3) := by decide +kernel
theorem dX1_addFixture_6 : decode cX1_addFixture 6 = .ok (.ifCond .ne 5, 3) := by decide +kernel
theorem dX1_addFixture_9 : decode cX1_addFixture 9 = .ok (.iconst (-1), 1) := by decide +kernel
theorem dX1_addFixture_10 : decode cX1_addFixture 10 = .ok (.ireturn, 1) := by decide +kernel
theorem dX1_addFixture_11 : decode cX1_addFixture 11 = .ok (.aload_n 0, 1) := by decide +kernel
theorem dX1_addFixture_12 : decode cX1_addFixture 12 = .ok (.iload_n 1, 1) := by decide +kernel
theorem dX1_addFixture_13 : decode cX1_addFixture 13 = .ok (.iload_n 2, 1) := by decide +kernel
theorem dX1_addFixture_14 : decode cX1_addFixture 14 = .ok (.invokevirtual 52, 3) := by decide +kernel
theorem dX1_addFixture_17 : decode cX1_addFixture 17 = .ok (.ireturn, 1) := by decide +kernel
theorem dX1_addFixtureUnseen_0 : decode cX1_addFixtureUnseen 0 = .ok (.aload_n 0, 1) := by decide +kernel
theorem dX1_addFixtureUnseen_1 : decode cX1_addFixtureUnseen 1 = .ok (.invokevirtual 56, 3) := by decide +kernel
theorem dX1_addFixtureUnseen_4 : decode cX1_addFixtureUnseen 4 = .ok (.ifCond .eq 6, 3) := by decide +kernel
theorem dX1_addFixtureUnseen_7 : decode cX1_addFixtureUnseen 7 = .ok (.bipush (-3), 2) := by decide +kernel
theorem dX1_addFixtureUnseen_9 : decode cX1_addFixtureUnseen 9 = .ok (.ireturn, 1) := by decide +kernel
theorem dX1_addFixtureUnseen_10 : decode cX1_addFixtureUnseen 10 = .ok (.aload_n 0, 1) := by decide +kernel
theorem dX1_addFixtureUnseen_11 : decode cX1_addFixtureUnseen 11 = .ok (.getfield 24, 3) := by decide +kernel
theorem dX1_addFixtureUnseen_14 : decode cX1_addFixtureUnseen 14 = .ok (.aload_n 0, 1) := by decide +kernel
theorem dX1_addFixtureUnseen_15 : decode cX1_addFixtureUnseen 15 = .ok (.getfield 34, 3) := by decide +kernel
theorem dX1_addFixtureUnseen_18 : decode cX1_addFixtureUnseen 18 = .ok (.iload_n 1, 1) := by decide +kernel
theorem dX1_addFixtureUnseen_19 : decode cX1_addFixtureUnseen 19 = .ok (.iastore, 1) := by decide +kernel
theorem dX1_addFixtureUnseen_20 : decode cX1_addFixtureUnseen 20 = .ok (.aload_n 0, 1) := by decide +kernel
theorem dX1_addFixtureUnseen_21 : decode cX1_addFixtureUnseen 21 = .ok (.getfield 27, 3) := by decide +kernel
theorem dX1_addFixtureUnseen_24 : decode cX1_addFixtureUnseen 24 = .ok (.aload_n 0, 1) := by decide +kernel
theorem dX1_addFixtureUnseen_25 : decode cX1_addFixtureUnseen 25 = .ok (.getfield 34, 3) := by decide +kernel
theorem dX1_addFixtureUnseen_28 : decode cX1_addFixtureUnseen 28 = .ok (.iload_n 2, 1) := by decide +kernel
theorem dX1_addFixtureUnseen_29 : decode cX1_addFixtureUnseen 29 = .ok (.iastore, 1) := by decide +kernel
theorem dX1_addFixtureUnseen_30 : decode cX1_addFixtureUnseen 30 = .ok (.aload_n 0, 1) := by decide +kernel
theorem dX1_addFixtureUnseen_31 : decode cX1_addFixtureUnseen 31 = .ok (.dup, 1) := by decide +kernel
theorem dX1_addFixtureUnseen_32 : decode cX1_addFixtureUnseen 32 = .ok (.getfield 34, 3) := by decide +kernel
theorem dX1_addFixtureUnseen_35 : decode cX1_addFixtureUnseen 35 = .ok (.iconst 1, 1) := by decide +kernel
theorem dX1_addFixtureUnseen_36 : decode cX1_addFixtureUnseen 36 = .ok (.iadd, 1) := by decide +kernel
theorem dX1_addFixtureUnseen_37 : decode cX1_addFixtureUnseen 37 = .ok (.putfield 34, 3) := by decide +kernel
theorem dX1_addFixtureUnseen_40 : decode cX1_addFixtureUnseen 40 = .ok (.aload_n 0, 1) := by decide +kernel
theorem dX1_addFixtureUnseen_41 : decode cX1_addFixtureUnseen 41 = .ok (.getfield 34, 3) := by decide +kernel
theorem dX1_addFixtureUnseen_44 : decode cX1_addFixtureUnseen 44 = .ok (.ireturn, 1) := by decide +kernel
theorem dX1_lacksTown_0 : decode cX1_lacksTown 0 = .ok (.iconst 0, 1) := by decide +kernel
theorem dX1_lacksTown_1 : decode cX1_lacksTown 1 = .ok (.istore_n 1, 1) := by decide +kernel
theorem dX1_lacksTown_2 : decode cX1_lacksTown 2 = .ok (.iload_n 1, 1) := by decide +kernel
theorem dX1_lacksTown_3 : decode cX1_lacksTown 3 = .ok (.aload_n 0, 1) := by decide +kernel
theorem dX1_lacksTown_4 : decode cX1_lacksTown 4 = .ok (.getfield 34, 3) := by decide +kernel
theorem dX1_lacksTown_7 : decode cX1_lacksTown 7 = .ok (.if_icmp .ge 30, 3) := by decide +kernel
theorem dX1_lacksTown_10 : decode cX1_lacksTown 10 = .ok (.aload_n 0, 1) := by decide +kernel
theorem dX1_lacksTown_11 : decode cX1_lacksTown 11 = .ok (.aload_n 0, 1) := by decide +kernel
theorem dX1_lacksTown_12 : decode cX1_lacksTown 12 = .ok (.getfield 24, 3) := by decide +kernel
theorem dX1_lacksTown_15 : decode cX1_lacksTown 15 = .ok (.iload_n 1, 1) := by decide +kernel
theorem dX1_lacksTown_16 : decode cX1_lacksTown 16 = .ok (.iaload, 1) := by decide +kernel
theorem dX1_lacksTown_17 : decode cX1_lacksTown 17 = .ok (.aload_n 0, 1) := by decide +kernel
theorem dX1_lacksTown_18 : decode cX1_lacksTown 18 = .ok (.getfield 27, 3) := by decide +kernel
theorem dX1_lacksTown_21 : decode cX1_lacksTown 21 = .ok (.iload_n 1, 1) := by decide +kernel
theorem dX1_lacksTown_22 : decode cX1_lacksTown 22 = .ok (.iaload, 1) := by decide +kernel
theorem dX1_lacksTown_23 : decode cX1_lacksTown 23 = .ok (.invokevirtual 48, 3) := by decide +kernel
theorem dX1_lacksTown_26 : decode cX1_lacksTown 26 = .ok (.ifCond .ne 5, 3) := by decide +kernel
theorem dX1_lacksTown_29 : decode cX1_lacksTown 29 = .ok (.iconst 1, 1) := by decide +kernel
theorem dX1_lacksTown_30 : decode cX1_lacksTown 30 = .ok (.ireturn, 1) := by decide +kernel
theorem dX1_lacksTown_31 : decode cX1_lacksTown 31 = .ok (.iinc 1 1, 3) := by decide +kernel
theorem dX1_lacksTown_34 : decode cX1_lacksTown 34 = .ok (.goto (-32), 3) := by decide +kernel
theorem dX1_lacksTown_37 : decode cX1_lacksTown 37 = .ok (.iconst 0, 1) := by decide +kernel
theorem dX1_lacksTown_38 : decode cX1_lacksTown 38 = .ok (.ireturn, 1) := by decide +kernel
theorem dX1_swapFixtures_0 : decode cX1_swapFixtures 0 = .ok (.aload_n 0, 1) := by decide +kernel
theorem dX1_swapFixtures_1 : decode cX1_swapFixtures 1 = .ok (.getfield 24, 3) := by decide +kernel
theorem dX1_swapFixtures_4 : decode cX1_swapFixtures 4 = .ok (.iload_n 1, 1) := by decide +kernel
theorem dX1_swapFixtures_5 : decode cX1_swapFixtures 5 = .ok (.iaload, 1) := by decide +kernel
theorem dX1_swapFixtures_6 : decode cX1_swapFixtures 6 = .ok (.istore_n 3, 1) := by decide +kernel
theorem dX1_swapFixtures_7 : decode cX1_swapFixtures 7 = .ok (.aload_n 0, 1) := by decide +kernel
theorem dX1_swapFixtures_8 : decode cX1_swapFixtures 8 = .ok (.getfield 27, 3) := by decide +kernel
theorem dX1_swapFixtures_11 : decode cX1_swapFixtures 11 = .ok (.iload_n 1, 1) := by decide +kernel
theorem dX1_swapFixtures_12 : decode cX1_swapFixtures 12 = .ok (.iaload, 1) := by decide +kernel
theorem dX1_swapFixtures_13 : decode cX1_swapFixtures 13 = .ok (.istore 4, 2) := by decide +kernel
theorem dX1_swapFixtures_15 : decode cX1_swapFixtures 15 = .ok (.aload_n 0, 1) := by decide +kernel
theorem dX1_swapFixtures_16 : decode cX1_swapFixtures 16 = .ok (.getfield 24, 3) := by decide +kernel
theorem dX1_swapFixtures_19 : decode cX1_swapFixtures 19 = .ok (.iload_n 1, 1) := by decide +kernel
theorem dX1_swapFixtures_20 : decode cX1_swapFixtures 20 = .ok (.aload_n 0, 1) := by decide +kernel
theorem dX1_swapFixtures_21 : decode cX1_swapFixtures 21 = .ok (.getfield 24, 3) := by decide +kernel
theorem dX1_swapFixtures_24 : decode cX1_swapFixtures 24 = .ok (.iload_n 2, 1) := by decide +kernel
theorem dX1_swapFixtures_25 : decode cX1_swapFixtures 25 = .ok (.iaload, 1) := by decide +kernel
theorem dX1_swapFixtures_26 : decode cX1_swapFixtures 26 = .ok (.iastore, 1) := by decide +kernel
theorem dX1_swapFixtures_27 : decode cX1_swapFixtures 27 = .ok (.aload_n 0, 1) := by decide +kernel
theorem dX1_swapFixtures_28 : decode cX1_swapFixtures 28 = .ok (.getfield 27, 3) := by decide +kernel
theorem dX1_swapFixtures_31 : decode cX1_swapFixtures 31 = .ok (.iload_n 1, 1) := by decide +kernel
theorem dX1_swapFixtures_32 : decode cX1_swapFixtures 32 = .ok (.aload_n 0, 1) := by decide +kernel
theorem dX1_swapFixtures_33 : decode cX1_swapFixtures 33 = .ok (.getfield 27, 3) := by decide +kernel
theorem dX1_swapFixtures_36 : decode cX1_swapFixtures 36 = .ok (.iload_n 2, 1) := by decide +kernel
theorem dX1_swapFixtures_37 : decode cX1_swapFixtures 37 = .ok (.iaload, 1) := by decide +kernel
theorem dX1_swapFixtures_38 : decode cX1_swapFixtures 38 = .ok (.iastore, 1) := by decide +kernel
theorem dX1_swapFixtures_39 : decode cX1_swapFixtures 39 = .ok (.aload_n 0, 1) := by decide +kernel
theorem dX1_swapFixtures_40 : decode cX1_swapFixtures 40 = .ok (.getfield 24, 3) := by decide +kernel
theorem dX1_swapFixtures_43 : decode cX1_swapFixtures 43 = .ok (.iload_n 2, 1) := by decide +kernel
theorem dX1_swapFixtures_44 : decode cX1_swapFixtures 44 = .ok (.iload_n 3, 1) := by decide +kernel
theorem dX1_swapFixtures_45 : decode cX1_swapFixtures 45 = .ok (.iastore, 1) := by decide +kernel
theorem dX1_swapFixtures_46 : decode cX1_swapFixtures 46 = .ok (.aload_n 0, 1) := by decide +kernel
theorem dX1_swapFixtures_47 : decode cX1_swapFixtures 47 = .ok (.getfield 27, 3) := by decide +kernel
theorem dX1_swapFixtures_50 : decode cX1_swapFixtures 50 = .ok (.iload_n 2, 1) := by decide +kernel
theorem dX1_swapFixtures_51 : decode cX1_swapFixtures 51 = .ok (.iload 4, 2) := by decide +kernel
theorem dX1_swapFixtures_53 : decode cX1_swapFixtures 53 = .ok (.iastore, 1) := by decide +kernel
theorem dX1_swapFixtures_54 : decode cX1_swapFixtures 54 = .ok (.return_, 1) := by decide +kernel
theorem dX1_moveStrength_0 : decode cX1_moveStrength 0 = .ok (.aload_n 0, 1) := by decide +kernel
theorem dX1_moveStrength_1 : decode cX1_moveStrength 1 = .ok (.getfield 15, 3) := by decide +kernel
theorem dX1_moveStrength_4 : decode cX1_moveStrength 4 = .ok (.iload_n 1, 1) := by decide +kernel
theorem dX1_moveStrength_5 : decode cX1_moveStrength 5 = .ok (.iaload, 1) := by decide +kernel
theorem dX1_moveStrength_6 : decode cX1_moveStrength 6 = .ok (.iload_n 3, 1) := by decide +kernel
theorem dX1_moveStrength_7 : decode cX1_moveStrength 7 = .ok (.if_icmp .ge 6, 3) := by decide +kernel
theorem dX1_moveStrength_10 : decode cX1_moveStrength 10 = .ok (.bipush (-2), 2) := by decide +kernel
theorem dX1_moveStrength_12 : decode cX1_moveStrength 12 = .ok (.ireturn, 1) := by decide +kernel
theorem dX1_moveStrength_13 : decode cX1_moveStrength 13 = .ok (.aload_n 0, 1) := by decide +kernel
theorem dX1_moveStrength_14 : decode cX1_moveStrength 14 = .ok (.getfield 15, 3) := by decide +kernel
theorem dX1_moveStrength_17 : decode cX1_moveStrength 17 = .ok (.iload_n 2, 1) := by decide +kernel
theorem dX1_moveStrength_18 : decode cX1_moveStrength 18 = .ok (.iaload, 1) := by decide +kernel
theorem dX1_moveStrength_19 : decode cX1_moveStrength 19 = .ok (.iload_n 3, 1) := by decide +kernel
theorem dX1_moveStrength_20 : decode cX1_moveStrength 20 = .ok (.iadd, 1) := by decide +kernel
theorem dX1_moveStrength_21 : decode cX1_moveStrength 21 = .ok (.bipush 20, 2) := by decide +kernel
theorem dX1_moveStrength_23 : decode cX1_moveStrength 23 = .ok (.if_icmp .le 6, 3) := by decide +kernel
theorem dX1_moveStrength_26 : decode cX1_moveStrength 26 = .ok (.bipush (-3), 2) := by decide +kernel
theorem dX1_moveStrength_28 : decode cX1_moveStrength 28 = .ok (.ireturn, 1) := by decide +kernel
theorem dX1_moveStrength_29 : decode cX1_moveStrength 29 = .ok (.aload_n 0, 1) := by decide +kernel
theorem dX1_moveStrength_30 : decode cX1_moveStrength 30 = .ok (.getfield 15, 3) := by decide +kernel
theorem dX1_moveStrength_33 : decode cX1_moveStrength 33 = .ok (.iload_n 1, 1) := by decide +kernel
theorem dX1_moveStrength_34 : decode cX1_moveStrength 34 = .ok (.dup2, 1) := by decide +kernel
theorem dX1_moveStrength_35 : decode cX1_moveStrength 35 = .ok (.iaload, 1) := by decide +kernel
theorem dX1_moveStrength_36 : decode cX1_moveStrength 36 = .ok (.iload_n 3, 1) := by decide +kernel
theorem dX1_moveStrength_37 : decode cX1_moveStrength 37 = .ok (.isub, 1) := by decide +kernel
theorem dX1_moveStrength_38 : decode cX1_moveStrength 38 = .ok (.iastore, 1) := by decide +kernel
theorem dX1_moveStrength_39 : decode cX1_moveStrength 39 = .ok (.aload_n 0, 1) := by decide +kernel
theorem dX1_moveStrength_40 : decode cX1_moveStrength 40 = .ok (.getfield 15, 3) := by decide +kernel
theorem dX1_moveStrength_43 : decode cX1_moveStrength 43 = .ok (.iload_n 2, 1) := by decide +kernel
theorem dX1_moveStrength_44 : decode cX1_moveStrength 44 = .ok (.dup2, 1) := by decide +kernel
theorem dX1_moveStrength_45 : decode cX1_moveStrength 45 = .ok (.iaload, 1) := by decide +kernel
theorem dX1_moveStrength_46 : decode cX1_moveStrength 46 = .ok (.iload_n 3, 1) := by decide +kernel
theorem dX1_moveStrength_47 : decode cX1_moveStrength 47 = .ok (.iadd, 1) := by decide +kernel
theorem dX1_moveStrength_48 : decode cX1_moveStrength 48 = .ok (.iastore, 1) := by decide +kernel
theorem dX1_moveStrength_49 : decode cX1_moveStrength 49 = .ok (.aload_n 0, 1) := by decide +kernel
theorem dX1_moveStrength_50 : decode cX1_moveStrength 50 = .ok (.getfield 15, 3) := by decide +kernel
theorem dX1_moveStrength_53 : decode cX1_moveStrength 53 = .ok (.iload_n 1, 1) := by decide +kernel
theorem dX1_moveStrength_54 : decode cX1_moveStrength 54 = .ok (.iaload, 1) := by decide +kernel
theorem dX1_moveStrength_55 : decode cX1_moveStrength 55 = .ok (.ireturn, 1) := by decide +kernel
theorem dX1_playsNow_0 : decode cX1_playsNow 0 = .ok (.aload_n 0, 1) := by decide +kernel
theorem dX1_playsNow_1 : decode cX1_playsNow 1 = .ok (.getfield 15, 3) := by decide +kernel
theorem dX1_playsNow_4 : decode cX1_playsNow 4 = .ok (.iload_n 1, 1) := by decide +kernel
theorem dX1_playsNow_5 : decode cX1_playsNow 5 = .ok (.iaload, 1) := by decide +kernel
theorem dX1_playsNow_6 : decode cX1_playsNow 6 = .ok (.istore_n 2, 1) := by decide +kernel
theorem dX1_playsNow_7 : decode cX1_playsNow 7 = .ok (.aload_n 0, 1) := by decide +kernel
theorem dX1_playsNow_8 : decode cX1_playsNow 8 = .ok (.getfield 18, 3) := by decide +kernel
theorem dX1_playsNow_11 : decode cX1_playsNow 11 = .ok (.iload_n 1, 1) := by decide +kernel
theorem dX1_playsNow_12 : decode cX1_playsNow 12 = .ok (.iaload, 1) := by decide +kernel
theorem dX1_playsNow_13 : decode cX1_playsNow 13 = .ok (.ifCond .ne 9, 3) := by decide +kernel
theorem dX1_playsNow_16 : decode cX1_playsNow 16 = .ok (.iload_n 2, 1) := by decide +kernel
theorem dX1_playsNow_17 : decode cX1_playsNow 17 = .ok (.iconst 2, 1) := by decide +kernel
theorem dX1_playsNow_18 : decode cX1_playsNow 18 = .ok (.idiv, 1) := by decide +kernel
theorem dX1_playsNow_19 : decode cX1_playsNow 19 = .ok (.goto 4, 3) := by decide +kernel
theorem dX1_playsNow_22 : decode cX1_playsNow 22 = .ok (.iload_n 2, 1) := by decide +kernel
theorem dX1_playsNow_23 : decode cX1_playsNow 23 = .ok (.istore_n 3, 1) := by decide +kernel
theorem dX1_playsNow_24 : decode cX1_playsNow 24 = .ok (.aload_n 0, 1) := by decide +kernel
theorem dX1_playsNow_25 : decode cX1_playsNow 25 = .ok (.getfield 9, 3) := by decide +kernel
theorem dX1_playsNow_28 : decode cX1_playsNow 28 = .ok (.iload_n 1, 1) := by decide +kernel
theorem dX1_playsNow_29 : decode cX1_playsNow 29 = .ok (.iaload, 1) := by decide +kernel
theorem dX1_playsNow_30 : decode cX1_playsNow 30 = .ok (.tableswitch 40 1 3 #[26, 30, 32], 26) := by decide +kernel
theorem dX1_playsNow_56 : decode cX1_playsNow 56 = .ok (.iload_n 2, 1) := by decide +kernel
theorem dX1_playsNow_57 : decode cX1_playsNow 57 = .ok (.iconst 3, 1) := by decide +kernel
theorem dX1_playsNow_58 : decode cX1_playsNow 58 = .ok (.iadd, 1) := by decide +kernel
theorem dX1_playsNow_59 : decode cX1_playsNow 59 = .ok (.ireturn, 1) := by decide +kernel
theorem dX1_playsNow_60 : decode cX1_playsNow 60 = .ok (.iload_n 3, 1) := by decide +kernel
theorem dX1_playsNow_61 : decode cX1_playsNow 61 = .ok (.ireturn, 1) := by decide +kernel
theorem dX1_playsNow_62 : decode cX1_playsNow 62 = .ok (.iconst 0, 1) := by decide +kernel
theorem dX1_playsNow_63 : decode cX1_playsNow 63 = .ok (.iload_n 3, 1) := by decide +kernel
theorem dX1_playsNow_64 : decode cX1_playsNow 64 = .ok (.iconst 2, 1) := by decide +kernel
theorem dX1_playsNow_65 : decode cX1_playsNow 65 = .ok (.isub, 1) := by decide +kernel
theorem dX1_playsNow_66 : decode cX1_playsNow 66 = .ok (.invokestatic 59, 3) := by decide +kernel
theorem dX1_playsNow_69 : decode cX1_playsNow 69 = .ok (.ireturn, 1) := by decide +kernel
theorem dX1_playsNow_70 : decode cX1_playsNow 70 = .ok (.iload_n 2, 1) := by decide +kernel
theorem dX1_playsNow_71 : decode cX1_playsNow 71 = .ok (.ireturn, 1) := by decide +kernel
theorem dX1_trainsNow_0 : decode cX1_trainsNow 0 = .ok (.aload_n 0, 1) := by decide +kernel
theorem dX1_trainsNow_1 : decode cX1_trainsNow 1 = .ok (.getfield 9, 3) := by decide +kernel
theorem dX1_trainsNow_4 : decode cX1_trainsNow 4 = .ok (.iload_n 1, 1) := by decide +kernel
theorem dX1_trainsNow_5 : decode cX1_trainsNow 5 = .ok (.iaload, 1) := by decide +kernel
theorem dX1_trainsNow_6 : decode cX1_trainsNow 6 = .ok (.lookupswitch 30 #[(1, 26), (3, 28)], 26) := by decide +kernel
theorem dX1_trainsNow_32 : decode cX1_trainsNow 32 = .ok (.iconst 2, 1) := by decide +kernel
theorem dX1_trainsNow_33 : decode cX1_trainsNow 33 = .ok (.ireturn, 1) := by decide +kernel
theorem dX1_trainsNow_34 : decode cX1_trainsNow 34 = .ok (.iconst 0, 1) := by decide +kernel
theorem dX1_trainsNow_35 : decode cX1_trainsNow 35 = .ok (.ireturn, 1) := by decide +kernel
theorem dX1_trainsNow_36 : decode cX1_trainsNow 36 = .ok (.iconst 1, 1) := by decide +kernel
theorem dX1_trainsNow_37 : decode cX1_trainsNow 37 = .ok (.ireturn, 1) := by decide +kernel
theorem dX1_weaker_0 : decode cX1_weaker 0 = .ok (.aload_n 0, 1) := by decide +kernel
theorem dX1_weaker_1 : decode cX1_weaker 1 = .ok (.iload_n 1, 1) := by decide +kernel
theorem dX1_weaker_2 : decode cX1_weaker 2 = .ok (.invokevirtual 64, 3) := by decide +kernel
theorem dX1_weaker_5 : decode cX1_weaker 5 = .ok (.aload_n 0, 1) := by decide +kernel
theorem dX1_weaker_6 : decode cX1_weaker 6 = .ok (.iload_n 2, 1) := by decide +kernel
theorem dX1_weaker_7 : decode cX1_weaker 7 = .ok (.invokevirtual 64, 3) := by decide +kernel
theorem dX1_weaker_10 : decode cX1_weaker 10 = .ok (.isub, 1) := by decide +kernel
theorem dX1_weaker_11 : decode cX1_weaker 11 = .ok (.istore_n 3, 1) := by decide +kernel
theorem dX1_weaker_12 : decode cX1_weaker 12 = .ok (.iload_n 3, 1) := by decide +kernel
theorem dX1_weaker_13 : decode cX1_weaker 13 = .ok (.ifCond .ne 6, 3) := by decide +kernel
theorem dX1_weaker_16 : decode cX1_weaker 16 = .ok (.bipush (-4), 2) := by decide +kernel
theorem dX1_weaker_18 : decode cX1_weaker 18 = .ok (.ireturn, 1) := by decide +kernel
theorem dX1_weaker_19 : decode cX1_weaker 19 = .ok (.iload_n 3, 1) := by decide +kernel
theorem dX1_weaker_20 : decode cX1_weaker 20 = .ok (.ifCond .ge 7, 3) := by decide +kernel
theorem dX1_weaker_23 : decode cX1_weaker 23 = .ok (.iload_n 1, 1) := by decide +kernel
theorem dX1_weaker_24 : decode cX1_weaker 24 = .ok (.goto 4, 3) := by decide +kernel
theorem dX1_weaker_27 : decode cX1_weaker 27 = .ok (.iload_n 2, 1) := by decide +kernel
theorem dX1_weaker_28 : decode cX1_weaker 28 = .ok (.ireturn, 1) := by decide +kernel
theorem dX1_play_0 : decode cX1_play 0 = .ok (.aload_n 0, 1) := by decide +kernel
theorem dX1_play_1 : decode cX1_play 1 = .ok (.iload_n 1, 1) := by decide +kernel
theorem dX1_play_2 : decode cX1_play 2 = .ok (.iload_n 2, 1) := by decide +kernel
theorem dX1_play_3 : decode cX1_play 3 = .ok (.invokevirtual 68, 3) := by decide +kernel
theorem dX1_play_6 : decode cX1_play 6 = .ok (.istore_n 3, 1) := by decide +kernel
theorem dX1_play_7 : decode cX1_play 7 = .ok (.iload_n 3, 1) := by decide +kernel
theorem dX1_play_8 : decode cX1_play 8 = .ok (.ifCond .lt 77, 3) := by decide +kernel
theorem dX1_play_11 : decode cX1_play 11 = .ok (.iload_n 3, 1) := by decide +kernel
theorem dX1_play_12 : decode cX1_play 12 = .ok (.iload_n 1, 1) := by decide +kernel
theorem dX1_play_13 : decode cX1_play 13 = .ok (.if_icmp .ne 7, 3) := by decide +kernel
theorem dX1_play_16 : decode cX1_play 16 = .ok (.iload_n 2, 1) := by decide +kernel
theorem dX1_play_17 : decode cX1_play 17 = .ok (.goto 4, 3) := by decide +kernel
theorem dX1_play_20 : decode cX1_play 20 = .ok (.iload_n 1, 1) := by decide +kernel
theorem dX1_play_21 : decode cX1_play 21 = .ok (.istore 4, 2) := by decide +kernel
theorem dX1_play_23 : decode cX1_play 23 = .ok (.aload_n 0, 1) := by decide +kernel
theorem dX1_play_24 : decode cX1_play 24 = .ok (.getfield 18, 3) := by decide +kernel
theorem dX1_play_27 : decode cX1_play 27 = .ok (.iload_n 3, 1) := by decide +kernel
theorem dX1_play_28 : decode cX1_play 28 = .ok (.bipush 99, 2) := by decide +kernel
theorem dX1_play_30 : decode cX1_play 30 = .ok (.aload_n 0, 1) := by decide +kernel
theorem dX1_play_31 : decode cX1_play 31 = .ok (.getfield 18, 3) := by decide +kernel
theorem dX1_play_34 : decode cX1_play 34 = .ok (.iload_n 3, 1) := by decide +kernel
theorem dX1_play_35 : decode cX1_play 35 = .ok (.iaload, 1) := by decide +kernel
theorem dX1_play_36 : decode cX1_play 36 = .ok (.iconst 1, 1) := by decide +kernel
theorem dX1_play_37 : decode cX1_play 37 = .ok (.iadd, 1) := by decide +kernel
theorem dX1_play_38 : decode cX1_play 38 = .ok (.invokestatic 71, 3) := by decide +kernel
theorem dX1_play_41 : decode cX1_play 41 = .ok (.iastore, 1) := by decide +kernel
theorem dX1_play_42 : decode cX1_play 42 = .ok (.aload_n 0, 1) := by decide +kernel
theorem dX1_play_43 : decode cX1_play 43 = .ok (.getfield 15, 3) := by decide +kernel
theorem dX1_play_46 : decode cX1_play 46 = .ok (.iload_n 3, 1) := by decide +kernel
theorem dX1_play_47 : decode cX1_play 47 = .ok (.bipush 20, 2) := by decide +kernel
theorem dX1_play_49 : decode cX1_play 49 = .ok (.aload_n 0, 1) := by decide +kernel
theorem dX1_play_50 : decode cX1_play 50 = .ok (.getfield 15, 3) := by decide +kernel
theorem dX1_play_53 : decode cX1_play 53 = .ok (.iload_n 3, 1) := by decide +kernel
theorem dX1_play_54 : decode cX1_play 54 = .ok (.iaload, 1) := by decide +kernel
theorem dX1_play_55 : decode cX1_play 55 = .ok (.aload_n 0, 1) := by decide +kernel
theorem dX1_play_56 : decode cX1_play 56 = .ok (.iload_n 3, 1) := by decide +kernel
theorem dX1_play_57 : decode cX1_play 57 = .ok (.invokevirtual 74, 3) := by decide +kernel
theorem dX1_play_60 : decode cX1_play 60 = .ok (.iadd, 1) := by decide +kernel
theorem dX1_play_61 : decode cX1_play 61 = .ok (.invokestatic 71, 3) := by decide +kernel
theorem dX1_play_64 : decode cX1_play 64 = .ok (.iastore, 1) := by decide +kernel
theorem dX1_play_65 : decode cX1_play 65 = .ok (.aload_n 0, 1) := by decide +kernel
theorem dX1_play_66 : decode cX1_play 66 = .ok (.getfield 15, 3) := by decide +kernel
theorem dX1_play_69 : decode cX1_play 69 = .ok (.iload 4, 2) := by decide +kernel
theorem dX1_play_71 : decode cX1_play 71 = .ok (.iconst 0, 1) := by decide +kernel
theorem dX1_play_72 : decode cX1_play 72 = .ok (.aload_n 0, 1) := by decide +kernel
theorem dX1_play_73 : decode cX1_play 73 = .ok (.getfield 15, 3) := by decide +kernel
theorem dX1_play_76 : decode cX1_play 76 = .ok (.iload 4, 2) := by decide +kernel
theorem dX1_play_78 : decode cX1_play 78 = .ok (.iaload, 1) := by decide +kernel
theorem dX1_play_79 : decode cX1_play 79 = .ok (.iconst 1, 1) := by decide +kernel
theorem dX1_play_80 : decode cX1_play 80 = .ok (.isub, 1) := by decide +kernel
theorem dX1_play_81 : decode cX1_play 81 = .ok (.invokestatic 59, 3) := by decide +kernel
theorem dX1_play_84 : decode cX1_play 84 = .ok (.iastore, 1) := by decide +kernel
theorem dX1_play_85 : decode cX1_play 85 = .ok (.iload_n 3, 1) := by decide +kernel
theorem dX1_play_86 : decode cX1_play 86 = .ok (.ireturn, 1) := by decide +kernel
theorem dX1_fixtureNow_0 : decode cX1_fixtureNow 0 = .ok (.aload_n 0, 1) := by decide +kernel
theorem dX1_fixtureNow_1 : decode cX1_fixtureNow 1 = .ok (.getfield 34, 3) := by decide +kernel
theorem dX1_fixtureNow_4 : decode cX1_fixtureNow 4 = .ok (.ifCond .le 15, 3) := by decide +kernel
theorem dX1_fixtureNow_7 : decode cX1_fixtureNow 7 = .ok (.aload_n 0, 1) := by decide +kernel
theorem dX1_fixtureNow_8 : decode cX1_fixtureNow 8 = .ok (.getfield 37, 3) := by decide +kernel
theorem dX1_fixtureNow_11 : decode cX1_fixtureNow 11 = .ok (.aload_n 0, 1) := by decide +kernel
theorem dX1_fixtureNow_12 : decode cX1_fixtureNow 12 = .ok (.getfield 34, 3) := by decide +kernel
theorem dX1_fixtureNow_15 : decode cX1_fixtureNow 15 = .ok (.irem, 1) := by decide +kernel
theorem dX1_fixtureNow_16 : decode cX1_fixtureNow 16 = .ok (.goto 5, 3) := by decide +kernel
theorem dX1_fixtureNow_19 : decode cX1_fixtureNow 19 = .ok (.bipush (-4), 2) := by decide +kernel
theorem dX1_fixtureNow_21 : decode cX1_fixtureNow 21 = .ok (.ireturn, 1) := by decide +kernel
theorem dX1_runWeek_0 : decode cX1_runWeek 0 = .ok (.aload_n 0, 1) := by decide +kernel
theorem dX1_runWeek_1 : decode cX1_runWeek 1 = .ok (.invokevirtual 77, 3) := by decide +kernel
theorem dX1_runWeek_4 : decode cX1_runWeek 4 = .ok (.istore_n 2, 1) := by decide +kernel
theorem dX1_runWeek_5 : decode cX1_runWeek 5 = .ok (.iload_n 2, 1) := by decide +kernel
theorem dX1_runWeek_6 : decode cX1_runWeek 6 = .ok (.ifCond .lt 7, 3) := by decide +kernel
theorem dX1_runWeek_9 : decode cX1_runWeek 9 = .ok (.iload_n 1, 1) := by decide +kernel
theorem dX1_runWeek_10 : decode cX1_runWeek 10 = .ok (.ifCond .eq 8, 3) := by decide +kernel
theorem dX1_runWeek_13 : decode cX1_runWeek 13 = .ok (.bipush (-4), 2) := by decide +kernel
theorem dX1_runWeek_15 : decode cX1_runWeek 15 = .ok (.goto 19, 3) := by decide +kernel
theorem dX1_runWeek_18 : decode cX1_runWeek 18 = .ok (.aload_n 0, 1) := by decide +kernel
theorem dX1_runWeek_19 : decode cX1_runWeek 19 = .ok (.aload_n 0, 1) := by decide +kernel
theorem dX1_runWeek_20 : decode cX1_runWeek 20 = .ok (.getfield 24, 3) := by decide +kernel
theorem dX1_runWeek_23 : decode cX1_runWeek 23 = .ok (.iload_n 2, 1) := by decide +kernel
theorem dX1_runWeek_24 : decode cX1_runWeek 24 = .ok (.iaload, 1) := by decide +kernel
theorem dX1_runWeek_25 : decode cX1_runWeek 25 = .ok (.aload_n 0, 1) := by decide +kernel
theorem dX1_runWeek_26 : decode cX1_runWeek 26 = .ok (.getfield 27, 3) := by decide +kernel
theorem dX1_runWeek_29 : decode cX1_runWeek 29 = .ok (.iload_n 2, 1) := by decide +kernel
theorem dX1_runWeek_30 : decode cX1_runWeek 30 = .ok (.iaload, 1) := by decide +kernel
theorem dX1_runWeek_31 : decode cX1_runWeek 31 = .ok (.invokevirtual 81, 3) := by decide +kernel
theorem dX1_runWeek_34 : decode cX1_runWeek 34 = .ok (.istore_n 3, 1) := by decide +kernel
theorem dX1_runWeek_35 : decode cX1_runWeek 35 = .ok (.aload_n 0, 1) := by decide +kernel
theorem dX1_runWeek_36 : decode cX1_runWeek 36 = .ok (.invokevirtual 84, 3) := by decide +kernel
theorem dX1_runWeek_39 : decode cX1_runWeek 39 = .ok (.iload_n 3, 1) := by decide +kernel
theorem dX1_runWeek_40 : decode cX1_runWeek 40 = .ok (.ireturn, 1) := by decide +kernel
theorem dX1_runWeekOf_0 : decode cX1_runWeekOf 0 = .ok (.aload_n 0, 1) := by decide +kernel
theorem dX1_runWeekOf_1 : decode cX1_runWeekOf 1 = .ok (.iload_n 1, 1) := by decide +kernel
theorem dX1_runWeekOf_2 : decode cX1_runWeekOf 2 = .ok (.iload_n 2, 1) := by decide +kernel
theorem dX1_runWeekOf_3 : decode cX1_runWeekOf 3 = .ok (.invokevirtual 81, 3) := by decide +kernel
theorem dX1_runWeekOf_6 : decode cX1_runWeekOf 6 = .ok (.istore_n 3, 1) := by decide +kernel
theorem dX1_runWeekOf_7 : decode cX1_runWeekOf 7 = .ok (.aload_n 0, 1) := by decide +kernel
theorem dX1_runWeekOf_8 : decode cX1_runWeekOf 8 = .ok (.invokevirtual 84, 3) := by decide +kernel
theorem dX1_runWeekOf_11 : decode cX1_runWeekOf 11 = .ok (.iload_n 3, 1) := by decide +kernel
theorem dX1_runWeekOf_12 : decode cX1_runWeekOf 12 = .ok (.ireturn, 1) := by decide +kernel
theorem dX1_passWeek_0 : decode cX1_passWeek 0 = .ok (.aload_n 0, 1) := by decide +kernel
theorem dX1_passWeek_1 : decode cX1_passWeek 1 = .ok (.getfield 34, 3) := by decide +kernel
theorem dX1_passWeek_4 : decode cX1_passWeek 4 = .ok (.ifCond .le 20, 3) := by decide +kernel
theorem dX1_passWeek_7 : decode cX1_passWeek 7 = .ok (.aload_n 0, 1) := by decide +kernel
theorem dX1_passWeek_8 : decode cX1_passWeek 8 = .ok (.invokevirtual 77, 3) := by decide +kernel
theorem dX1_passWeek_11 : decode cX1_passWeek 11 = .ok (.aload_n 0, 1) := by decide +kernel
theorem dX1_passWeek_12 : decode cX1_passWeek 12 = .ok (.getfield 34, 3) := by decide +kernel
theorem dX1_passWeek_15 : decode cX1_passWeek 15 = .ok (.iconst 1, 1) := by decide +kernel
theorem dX1_passWeek_16 : decode cX1_passWeek 16 = .ok (.isub, 1) := by decide +kernel
theorem dX1_passWeek_17 : decode cX1_passWeek 17 = .ok (.if_icmp .ne 7, 3) := by decide +kernel
theorem dX1_passWeek_20 : decode cX1_passWeek 20 = .ok (.aload_n 0, 1) := by decide +kernel
theorem dX1_passWeek_21 : decode cX1_passWeek 21 = .ok (.invokevirtual 87, 3) := by decide +kernel
theorem dX1_passWeek_24 : decode cX1_passWeek 24 = .ok (.aload_n 0, 1) := by decide +kernel
theorem dX1_passWeek_25 : decode cX1_passWeek 25 = .ok (.dup, 1) := by decide +kernel
theorem dX1_passWeek_26 : decode cX1_passWeek 26 = .ok (.getfield 37, 3) := by decide +kernel
theorem dX1_passWeek_29 : decode cX1_passWeek 29 = .ok (.iconst 1, 1) := by decide +kernel
theorem dX1_passWeek_30 : decode cX1_passWeek 30 = .ok (.iadd, 1) := by decide +kernel
theorem dX1_passWeek_31 : decode cX1_passWeek 31 = .ok (.putfield 37, 3) := by decide +kernel
theorem dX1_passWeek_34 : decode cX1_passWeek 34 = .ok (.return_, 1) := by decide +kernel
theorem dX1_closeYear_0 : decode cX1_closeYear 0 = .ok (.iconst 0, 1) := by decide +kernel
theorem dX1_closeYear_1 : decode cX1_closeYear 1 = .ok (.istore_n 1, 1) := by decide +kernel
theorem dX1_closeYear_2 : decode cX1_closeYear 2 = .ok (.iload_n 1, 1) := by decide +kernel
theorem dX1_closeYear_3 : decode cX1_closeYear 3 = .ok (.aload_n 0, 1) := by decide +kernel
theorem dX1_closeYear_4 : decode cX1_closeYear 4 = .ok (.getfield 30, 3) := by decide +kernel
theorem dX1_closeYear_7 : decode cX1_closeYear 7 = .ok (.if_icmp .ge 44, 3) := by decide +kernel
theorem dX1_closeYear_10 : decode cX1_closeYear 10 = .ok (.aload_n 0, 1) := by decide +kernel
theorem dX1_closeYear_11 : decode cX1_closeYear 11 = .ok (.getfield 18, 3) := by decide +kernel
theorem dX1_closeYear_14 : decode cX1_closeYear 14 = .ok (.iload_n 1, 1) := by decide +kernel
theorem dX1_closeYear_15 : decode cX1_closeYear 15 = .ok (.iaload, 1) := by decide +kernel
theorem dX1_closeYear_16 : decode cX1_closeYear 16 = .ok (.ifCond .ne 22, 3) := by decide +kernel
theorem dX1_closeYear_19 : decode cX1_closeYear 19 = .ok (.aload_n 0, 1) := by decide +kernel
theorem dX1_closeYear_20 : decode cX1_closeYear 20 = .ok (.getfield 21, 3) := by decide +kernel
theorem dX1_closeYear_23 : decode cX1_closeYear 23 = .ok (.iload_n 1, 1) := by decide +kernel
theorem dX1_closeYear_24 : decode cX1_closeYear 24 = .ok (.bipush 99, 2) := by decide +kernel
theorem dX1_closeYear_26 : decode cX1_closeYear 26 = .ok (.aload_n 0, 1) := by decide +kernel
theorem dX1_closeYear_27 : decode cX1_closeYear 27 = .ok (.getfield 21, 3) := by decide +kernel
theorem dX1_closeYear_30 : decode cX1_closeYear 30 = .ok (.iload_n 1, 1) := by decide +kernel
theorem dX1_closeYear_31 : decode cX1_closeYear 31 = .ok (.iaload, 1) := by decide +kernel
theorem dX1_closeYear_32 : decode cX1_closeYear 32 = .ok (.iconst 1, 1) := by decide +kernel
theorem dX1_closeYear_33 : decode cX1_closeYear 33 = .ok (.iadd, 1) := by decide +kernel
theorem dX1_closeYear_34 : decode cX1_closeYear 34 = .ok (.invokestatic 71, 3) := by decide +kernel
theorem dX1_closeYear_37 : decode cX1_closeYear 37 = .ok (.iastore, 1) := by decide +kernel
theorem dX1_closeYear_38 : decode cX1_closeYear 38 = .ok (.aload_n 0, 1) := by decide +kernel
theorem dX1_closeYear_39 : decode cX1_closeYear 39 = .ok (.getfield 18, 3) := by decide +kernel
theorem dX1_closeYear_42 : decode cX1_closeYear 42 = .ok (.iload_n 1, 1) := by decide +kernel
theorem dX1_closeYear_43 : decode cX1_closeYear 43 = .ok (.iconst 0, 1) := by decide +kernel
theorem dX1_closeYear_44 : decode cX1_closeYear 44 = .ok (.iastore, 1) := by decide +kernel
theorem dX1_closeYear_45 : decode cX1_closeYear 45 = .ok (.iinc 1 1, 3) := by decide +kernel
theorem dX1_closeYear_48 : decode cX1_closeYear 48 = .ok (.goto (-46), 3) := by decide +kernel
theorem dX1_closeYear_51 : decode cX1_closeYear 51 = .ok (.return_, 1) := by decide +kernel
theorem dX1_runWeeks_0 : decode cX1_runWeeks 0 = .ok (.iconst 0, 1) := by decide +kernel
theorem dX1_runWeeks_1 : decode cX1_runWeeks 1 = .ok (.istore_n 2, 1) := by decide +kernel
theorem dX1_runWeeks_2 : decode cX1_runWeeks 2 = .ok (.iconst 0, 1) := by decide +kernel
theorem dX1_runWeeks_3 : decode cX1_runWeeks 3 = .ok (.istore_n 3, 1) := by decide +kernel
theorem dX1_runWeeks_4 : decode cX1_runWeeks 4 = .ok (.iload_n 3, 1) := by decide +kernel
theorem dX1_runWeeks_5 : decode cX1_runWeeks 5 = .ok (.iload_n 1, 1) := by decide +kernel
theorem dX1_runWeeks_6 : decode cX1_runWeeks 6 = .ok (.if_icmp .ge 20, 3) := by decide +kernel
theorem dX1_runWeeks_9 : decode cX1_runWeeks 9 = .ok (.aload_n 0, 1) := by decide +kernel
theorem dX1_runWeeks_10 : decode cX1_runWeeks 10 = .ok (.iconst 0, 1) := by decide +kernel
theorem dX1_runWeeks_11 : decode cX1_runWeeks 11 = .ok (.invokevirtual 90, 3) := by decide +kernel
theorem dX1_runWeeks_14 : decode cX1_runWeeks 14 = .ok (.ifCond .lt 6, 3) := by decide +kernel
theorem dX1_runWeeks_17 : decode cX1_runWeeks 17 = .ok (.iinc 2 1, 3) := by decide +kernel
theorem dX1_runWeeks_20 : decode cX1_runWeeks 20 = .ok (.iinc 3 1, 3) := by decide +kernel
theorem dX1_runWeeks_23 : decode cX1_runWeeks 23 = .ok (.goto (-19), 3) := by decide +kernel
theorem dX1_runWeeks_26 : decode cX1_runWeeks 26 = .ok (.iload_n 2, 1) := by decide +kernel
theorem dX1_runWeeks_27 : decode cX1_runWeeks 27 = .ok (.ireturn, 1) := by decide +kernel
theorem dX1_firstLoss_0 : decode cX1_firstLoss 0 = .ok (.iconst 0, 1) := by decide +kernel
theorem dX1_firstLoss_1 : decode cX1_firstLoss 1 = .ok (.istore_n 3, 1) := by decide +kernel
theorem dX1_firstLoss_2 : decode cX1_firstLoss 2 = .ok (.iload_n 3, 1) := by decide +kernel
theorem dX1_firstLoss_3 : decode cX1_firstLoss 3 = .ok (.iload_n 2, 1) := by decide +kernel
theorem dX1_firstLoss_4 : decode cX1_firstLoss 4 = .ok (.if_icmp .ge 20, 3) := by decide +kernel
theorem dX1_firstLoss_7 : decode cX1_firstLoss 7 = .ok (.aload_n 0, 1) := by decide +kernel
theorem dX1_firstLoss_8 : decode cX1_firstLoss 8 = .ok (.iconst 0, 1) := by decide +kernel
theorem dX1_firstLoss_9 : decode cX1_firstLoss 9 = .ok (.invokevirtual 90, 3) := by decide +kernel
theorem dX1_firstLoss_12 : decode cX1_firstLoss 12 = .ok (.iload_n 1, 1) := by decide +kernel
theorem dX1_firstLoss_13 : decode cX1_firstLoss 13 = .ok (.if_icmp .ne 5, 3) := by decide +kernel
theorem dX1_firstLoss_16 : decode cX1_firstLoss 16 = .ok (.iload_n 3, 1) := by decide +kernel
theorem dX1_firstLoss_17 : decode cX1_firstLoss 17 = .ok (.ireturn, 1) := by decide +kernel
theorem dX1_firstLoss_18 : decode cX1_firstLoss 18 = .ok (.iinc 3 1, 3) := by decide +kernel
theorem dX1_firstLoss_21 : decode cX1_firstLoss 21 = .ok (.goto (-19), 3) := by decide +kernel
theorem dX1_firstLoss_24 : decode cX1_firstLoss 24 = .ok (.bipush (-4), 2) := by decide +kernel
theorem dX1_firstLoss_26 : decode cX1_firstLoss 26 = .ok (.ireturn, 1) := by decide +kernel
theorem dX1_owed_0 : decode cX1_owed 0 = .ok (.aload_n 0, 1) := by decide +kernel
theorem dX1_owed_1 : decode cX1_owed 1 = .ok (.aload_n 0, 1) := by decide +kernel
theorem dX1_owed_2 : decode cX1_owed 2 = .ok (.getfield 21, 3) := by decide +kernel
theorem dX1_owed_5 : decode cX1_owed 5 = .ok (.invokevirtual 94, 3) := by decide +kernel
theorem dX1_owed_8 : decode cX1_owed 8 = .ok (.ireturn, 1) := by decide +kernel
theorem dX1_withLosses_0 : decode cX1_withLosses 0 = .ok (.iconst 0, 1) := by decide +kernel
theorem dX1_withLosses_1 : decode cX1_withLosses 1 = .ok (.istore_n 1, 1) := by decide +kernel
theorem dX1_withLosses_2 : decode cX1_withLosses 2 = .ok (.iconst 0, 1) := by decide +kernel
theorem dX1_withLosses_3 : decode cX1_withLosses 3 = .ok (.istore_n 2, 1) := by decide +kernel
theorem dX1_withLosses_4 : decode cX1_withLosses 4 = .ok (.iload_n 2, 1) := by decide +kernel
theorem dX1_withLosses_5 : decode cX1_withLosses 5 = .ok (.aload_n 0, 1) := by decide +kernel
theorem dX1_withLosses_6 : decode cX1_withLosses 6 = .ok (.getfield 30, 3) := by decide +kernel
theorem dX1_withLosses_9 : decode cX1_withLosses 9 = .ok (.if_icmp .ge 24, 3) := by decide +kernel
theorem dX1_withLosses_12 : decode cX1_withLosses 12 = .ok (.aload_n 0, 1) := by decide +kernel
theorem dX1_withLosses_13 : decode cX1_withLosses 13 = .ok (.getfield 18, 3) := by decide +kernel
theorem dX1_withLosses_16 : decode cX1_withLosses 16 = .ok (.iload_n 2, 1) := by decide +kernel
theorem dX1_withLosses_17 : decode cX1_withLosses 17 = .ok (.iaload, 1) := by decide +kernel
theorem dX1_withLosses_18 : decode cX1_withLosses 18 = .ok (.ifCond .le 9, 3) := by decide +kernel
theorem dX1_withLosses_21 : decode cX1_withLosses 21 = .ok (.iload_n 1, 1) := by decide +kernel
theorem dX1_withLosses_22 : decode cX1_withLosses 22 = .ok (.iconst 1, 1) := by decide +kernel
theorem dX1_withLosses_23 : decode cX1_withLosses 23 = .ok (.iload_n 2, 1) := by decide +kernel
theorem dX1_withLosses_24 : decode cX1_withLosses 24 = .ok (.ishl, 1) := by decide +kernel
theorem dX1_withLosses_25 : decode cX1_withLosses 25 = .ok (.ior, 1) := by decide +kernel
theorem dX1_withLosses_26 : decode cX1_withLosses 26 = .ok (.istore_n 1, 1) := by decide +kernel
theorem dX1_withLosses_27 : decode cX1_withLosses 27 = .ok (.iinc 2 1, 3) := by decide +kernel
theorem dX1_withLosses_30 : decode cX1_withLosses 30 = .ok (.goto (-26), 3) := by decide +kernel
theorem dX1_withLosses_33 : decode cX1_withLosses 33 = .ok (.iload_n 1, 1) := by decide +kernel
theorem dX1_withLosses_34 : decode cX1_withLosses 34 = .ok (.ireturn, 1) := by decide +kernel
theorem dX1_sumOverTowns_0 : decode cX1_sumOverTowns 0 = .ok (.iconst 0, 1) := by decide +kernel
theorem dX1_sumOverTowns_1 : decode cX1_sumOverTowns 1 = .ok (.istore_n 2, 1) := by decide +kernel
theorem dX1_sumOverTowns_2 : decode cX1_sumOverTowns 2 = .ok (.iconst 0, 1) := by decide +kernel
theorem dX1_sumOverTowns_3 : decode cX1_sumOverTowns 3 = .ok (.istore_n 3, 1) := by decide +kernel
theorem dX1_sumOverTowns_4 : decode cX1_sumOverTowns 4 = .ok (.iload_n 3, 1) := by decide +kernel
theorem dX1_sumOverTowns_5 : decode cX1_sumOverTowns 5 = .ok (.aload_n 0, 1) := by decide +kernel
theorem dX1_sumOverTowns_6 : decode cX1_sumOverTowns 6 = .ok (.getfield 30, 3) := by decide +kernel
theorem dX1_sumOverTowns_9 : decode cX1_sumOverTowns 9 = .ok (.if_icmp .ge 21, 3) := by decide +kernel
theorem dX1_sumOverTowns_12 : decode cX1_sumOverTowns 12 = .ok (.iload_n 3, 1) := by decide +kernel
theorem dX1_sumOverTowns_13 : decode cX1_sumOverTowns 13 = .ok (.aload_n 1, 1) := by decide +kernel
theorem dX1_sumOverTowns_14 : decode cX1_sumOverTowns 14 = .ok (.arraylength, 1) := by decide +kernel
theorem dX1_sumOverTowns_15 : decode cX1_sumOverTowns 15 = .ok (.if_icmp .ge 15, 3) := by decide +kernel
theorem dX1_sumOverTowns_18 : decode cX1_sumOverTowns 18 = .ok (.iload_n 2, 1) := by decide +kernel
theorem dX1_sumOverTowns_19 : decode cX1_sumOverTowns 19 = .ok (.aload_n 1, 1) := by decide +kernel
theorem dX1_sumOverTowns_20 : decode cX1_sumOverTowns 20 = .ok (.iload_n 3, 1) := by decide +kernel
theorem dX1_sumOverTowns_21 : decode cX1_sumOverTowns 21 = .ok (.iaload, 1) := by decide +kernel
theorem dX1_sumOverTowns_22 : decode cX1_sumOverTowns 22 = .ok (.iadd, 1) := by decide +kernel
theorem dX1_sumOverTowns_23 : decode cX1_sumOverTowns 23 = .ok (.istore_n 2, 1) := by decide +kernel
theorem dX1_sumOverTowns_24 : decode cX1_sumOverTowns 24 = .ok (.iinc 3 1, 3) := by decide +kernel
theorem dX1_sumOverTowns_27 : decode cX1_sumOverTowns 27 = .ok (.goto (-23), 3) := by decide +kernel
theorem dX1_sumOverTowns_30 : decode cX1_sumOverTowns 30 = .ok (.iload_n 2, 1) := by decide +kernel
theorem dX1_sumOverTowns_31 : decode cX1_sumOverTowns 31 = .ok (.ireturn, 1) := by decide +kernel
theorem dX2_init_0 : decode cX2_init 0 = .ok (.aload_n 0, 1) := by decide +kernel
theorem dX2_init_1 : decode cX2_init 1 = .ok (.invokespecial 3, 3) := by decide +kernel
theorem dX2_init_4 : decode cX2_init 4 = .ok (.aload_n 0, 1) := by decide +kernel
theorem dX2_init_5 : decode cX2_init 5 = .ok (.bipush 40, 2) := by decide +kernel
theorem dX2_init_7 : decode cX2_init 7 = .ok (.newarray .int, 2) := by decide +kernel
theorem dX2_init_9 : decode cX2_init 9 = .ok (.putfield 9, 3) := by decide +kernel
theorem dX2_init_12 : decode cX2_init 12 = .ok (.aload_n 0, 1) := by decide +kernel
theorem dX2_init_13 : decode cX2_init 13 = .ok (.iconst (-1), 1) := by decide +kernel
theorem dX2_init_14 : decode cX2_init 14 = .ok (.putfield 15, 3) := by decide +kernel
theorem dX2_init_17 : decode cX2_init 17 = .ok (.return_, 1) := by decide +kernel
theorem dX2_isThere_0 : decode cX2_isThere 0 = .ok (.aload_n 0, 1) := by decide +kernel
theorem dX2_isThere_1 : decode cX2_isThere 1 = .ok (.getfield 15, 3) := by decide +kernel
theorem dX2_isThere_4 : decode cX2_isThere 4 = .ok (.iconst (-1), 1) := by decide +kernel
theorem dX2_isThere_5 : decode cX2_isThere 5 = .ok (.if_icmp .eq 7, 3) := by decide +kernel
theorem dX2_isThere_8 : decode cX2_isThere 8 = .ok (.iconst 1, 1) := by decide +kernel
theorem dX2_isThere_9 : decode cX2_isThere 9 = .ok (.goto 4, 3) := by decide +kernel
theorem dX2_isThere_12 : decode cX2_isThere 12 = .ok (.iconst 0, 1) := by decide +kernel
theorem dX2_isThere_13 : decode cX2_isThere 13 = .ok (.ireturn, 1) := by decide +kernel
theorem dX2_hasCell_0 : decode cX2_hasCell 0 = .ok (.iload_n 1, 1) := by decide +kernel
theorem dX2_hasCell_1 : decode cX2_hasCell 1 = .ok (.ifCond .lt 15, 3) := by decide +kernel
theorem dX2_hasCell_4 : decode cX2_hasCell 4 = .ok (.iload_n 1, 1) := by decide +kernel
theorem dX2_hasCell_5 : decode cX2_hasCell 5 = .ok (.aload_n 0, 1) := by decide +kernel
theorem dX2_hasCell_6 : decode cX2_hasCell 6 = .ok (.getfield 15, 3) := by decide +kernel
theorem dX2_hasCell_9 : decode cX2_hasCell 9 = .ok (.if_icmp .ge 7, 3) := by decide +kernel
theorem dX2_hasCell_12 : decode cX2_hasCell 12 = .ok (.iconst 1, 1) := by decide +kernel
theorem dX2_hasCell_13 : decode cX2_hasCell 13 = .ok (.goto 4, 3) := by decide +kernel
theorem dX2_hasCell_16 : decode cX2_hasCell 16 = .ok (.iconst 0, 1) := by decide +kernel
theorem dX2_hasCell_17 : decode cX2_hasCell 17 = .ok (.ireturn, 1) := by decide +kernel
theorem dX2_renew_0 : decode cX2_renew 0 = .ok (.aload_n 0, 1) := by decide +kernel
theorem dX2_renew_1 : decode cX2_renew 1 = .ok (.iload_n 1, 1) := by decide +kernel
theorem dX2_renew_2 : decode cX2_renew 2 = .ok (.putfield 19, 3) := by decide +kernel
theorem dX2_renew_5 : decode cX2_renew 5 = .ok (.aload_n 0, 1) := by decide +kernel
theorem dX2_renew_6 : decode cX2_renew 6 = .ok (.iload_n 2, 1) := by decide +kernel
theorem dX2_renew_7 : decode cX2_renew 7 = .ok (.putfield 15, 3) := by decide +kernel
theorem dX2_renew_10 : decode cX2_renew 10 = .ok (.iconst 0, 1) := by decide +kernel
theorem dX2_renew_11 : decode cX2_renew 11 = .ok (.istore_n 3, 1) := by decide +kernel
theorem dX2_renew_12 : decode cX2_renew 12 = .ok (.iload_n 3, 1) := by decide +kernel
theorem dX2_renew_13 : decode cX2_renew 13 = .ok (.iload_n 2, 1) := by decide +kernel
theorem dX2_renew_14 : decode cX2_renew 14 = .ok (.if_icmp .ge 16, 3) := by decide +kernel
theorem dX2_renew_17 : decode cX2_renew 17 = .ok (.aload_n 0, 1) := by decide +kernel
theorem dX2_renew_18 : decode cX2_renew 18 = .ok (.getfield 9, 3) := by decide +kernel
theorem dX2_renew_21 : decode cX2_renew 21 = .ok (.iload_n 3, 1) := by decide +kernel
theorem dX2_renew_22 : decode cX2_renew 22 = .ok (.iconst 0, 1) := by decide +kernel
theorem dX2_renew_23 : decode cX2_renew 23 = .ok (.iastore, 1) := by decide +kernel
theorem dX2_renew_24 : decode cX2_renew 24 = .ok (.iinc 3 1, 3) := by decide +kernel
theorem dX2_renew_27 : decode cX2_renew 27 = .ok (.goto (-15), 3) := by decide +kernel
theorem dX2_renew_30 : decode cX2_renew 30 = .ok (.return_, 1) := by decide +kernel
theorem dX2_put_0 : decode cX2_put 0 = .ok (.aload_n 0, 1) := by decide +kernel
theorem dX2_put_1 : decode cX2_put 1 = .ok (.getfield 19, 3) := by decide +kernel
theorem dX2_put_4 : decode cX2_put 4 = .ok (.lookupswitch 50 #[(0, 28), (1, 39)], 28) := by decide +kernel
theorem dX2_put_32 : decode cX2_put 32 = .ok (.aload_n 0, 1) := by decide +kernel
theorem dX2_put_33 : decode cX2_put 33 = .ok (.getfield 9, 3) := by decide +kernel
theorem dX2_put_36 : decode cX2_put 36 = .ok (.iload_n 1, 1) := by decide +kernel
theorem dX2_put_37 : decode cX2_put 37 = .ok (.iload_n 2, 1) := by decide +kernel
theorem dX2_put_38 : decode cX2_put 38 = .ok (.i2b, 1) := by decide +kernel
theorem dX2_put_39 : decode cX2_put 39 = .ok (.iastore, 1) := by decide +kernel
theorem dX2_put_40 : decode cX2_put 40 = .ok (.goto 21, 3) := by decide +kernel
theorem dX2_put_43 : decode cX2_put 43 = .ok (.aload_n 0, 1) := by decide +kernel
theorem dX2_put_44 : decode cX2_put 44 = .ok (.getfield 9, 3) := by decide +kernel
theorem dX2_put_47 : decode cX2_put 47 = .ok (.iload_n 1, 1) := by decide +kernel
theorem dX2_put_48 : decode cX2_put 48 = .ok (.iload_n 2, 1) := by decide +kernel
theorem dX2_put_49 : decode cX2_put 49 = .ok (.i2s, 1) := by decide +kernel
theorem dX2_put_50 : decode cX2_put 50 = .ok (.iastore, 1) := by decide +kernel
theorem dX2_put_51 : decode cX2_put 51 = .ok (.goto 10, 3) := by decide +kernel
theorem dX2_put_54 : decode cX2_put 54 = .ok (.aload_n 0, 1) := by decide +kernel
theorem dX2_put_55 : decode cX2_put 55 = .ok (.getfield 9, 3) := by decide +kernel
theorem dX2_put_58 : decode cX2_put 58 = .ok (.iload_n 1, 1) := by decide +kernel
theorem dX2_put_59 : decode cX2_put 59 = .ok (.iload_n 2, 1) := by decide +kernel
theorem dX2_put_60 : decode cX2_put 60 = .ok (.iastore, 1) := by decide +kernel
theorem dX2_put_61 : decode cX2_put 61 = .ok (.return_, 1) := by decide +kernel
theorem dX2_pairFault_0 : decode cX2_pairFault 0 = .ok (.aload_n 0, 1) := by decide +kernel
theorem dX2_pairFault_1 : decode cX2_pairFault 1 = .ok (.invokevirtual 22, 3) := by decide +kernel
theorem dX2_pairFault_4 : decode cX2_pairFault 4 = .ok (.ifCond .ne 5, 3) := by decide +kernel
theorem dX2_pairFault_7 : decode cX2_pairFault 7 = .ok (.iconst 1, 1) := by decide +kernel
theorem dX2_pairFault_8 : decode cX2_pairFault 8 = .ok (.ireturn, 1) := by decide +kernel
theorem dX2_pairFault_9 : decode cX2_pairFault 9 = .ok (.iload_n 1, 1) := by decide +kernel
theorem dX2_pairFault_10 : decode cX2_pairFault 10 = .ok (.aload_n 0, 1) := by decide +kernel
theorem dX2_pairFault_11 : decode cX2_pairFault 11 = .ok (.getfield 19, 3) := by decide +kernel
theorem dX2_pairFault_14 : decode cX2_pairFault 14 = .ok (.if_icmp .eq 5, 3) := by decide +kernel
theorem dX2_pairFault_17 : decode cX2_pairFault 17 = .ok (.iconst 3, 1) := by decide +kernel
theorem dX2_pairFault_18 : decode cX2_pairFault 18 = .ok (.ireturn, 1) := by decide +kernel
theorem dX2_pairFault_19 : decode cX2_pairFault 19 = .ok (.aload_n 0, 1) := by decide +kernel
theorem dX2_pairFault_20 : decode cX2_pairFault 20 = .ok (.iload_n 2, 1) := by decide +kernel
theorem dX2_pairFault_21 : decode cX2_pairFault 21 = .ok (.invokevirtual 26, 3) := by decide +kernel
theorem dX2_pairFault_24 : decode cX2_pairFault 24 = .ok (.ifCond .eq 13, 3) := by decide +kernel
theorem dX2_pairFault_27 : decode cX2_pairFault 27 = .ok (.aload_n 0, 1) := by decide +kernel
theorem dX2_pairFault_28 : decode cX2_pairFault 28 = .ok (.iload_n 2, 1) := by decide +kernel
theorem dX2_pairFault_29 : decode cX2_pairFault 29 = .ok (.iconst 1, 1) := by decide +kernel
theorem dX2_pairFault_30 : decode cX2_pairFault 30 = .ok (.iadd, 1) := by decide +kernel
theorem dX2_pairFault_31 : decode cX2_pairFault 31 = .ok (.invokevirtual 26, 3) := by decide +kernel
theorem dX2_pairFault_34 : decode cX2_pairFault 34 = .ok (.ifCond .ne 5, 3) := by decide +kernel
theorem dX2_pairFault_37 : decode cX2_pairFault 37 = .ok (.iconst 2, 1) := by decide +kernel
theorem dX2_pairFault_38 : decode cX2_pairFault 38 = .ok (.ireturn, 1) := by decide +kernel
theorem dX2_pairFault_39 : decode cX2_pairFault 39 = .ok (.iconst 0, 1) := by decide +kernel
theorem dX2_pairFault_40 : decode cX2_pairFault 40 = .ok (.ireturn, 1) := by decide +kernel
theorem dX3_init_0 : decode cX3_init 0 = .ok (.aload_n 0, 1) := by decide +kernel
theorem dX3_init_1 : decode cX3_init 1 = .ok (.invokespecial 3, 3) := by decide +kernel
theorem dX3_init_4 : decode cX3_init 4 = .ok (.aload_n 0, 1) := by decide +kernel
theorem dX3_init_5 : decode cX3_init 5 = .ok (.bipush 6, 2) := by decide +kernel
theorem dX3_init_7 : decode cX3_init 7 = .ok (.newarray .int, 2) := by decide +kernel
theorem dX3_init_9 : decode cX3_init 9 = .ok (.putfield 11, 3) := by decide +kernel
theorem dX3_init_12 : decode cX3_init 12 = .ok (.aload_n 0, 1) := by decide +kernel
theorem dX3_init_13 : decode cX3_init 13 = .ok (.bipush 6, 2) := by decide +kernel
theorem dX3_init_15 : decode cX3_init 15 = .ok (.newarray .int, 2) := by decide +kernel
theorem dX3_init_17 : decode cX3_init 17 = .ok (.putfield 15, 3) := by decide +kernel
theorem dX3_init_20 : decode cX3_init 20 = .ok (.return_, 1) := by decide +kernel
theorem dX3_add_0 : decode cX3_add 0 = .ok (.aload_n 0, 1) := by decide +kernel
theorem dX3_add_1 : decode cX3_add 1 = .ok (.getfield 18, 3) := by decide +kernel
theorem dX3_add_4 : decode cX3_add 4 = .ok (.bipush 6, 2) := by decide +kernel
theorem dX3_add_6 : decode cX3_add 6 = .ok (.if_icmp .lt 5, 3) := by decide +kernel
theorem dX3_add_9 : decode cX3_add 9 = .ok (.iconst 0, 1) := by decide +kernel
theorem dX3_add_10 : decode cX3_add 10 = .ok (.ireturn, 1) := by decide +kernel
theorem dX3_add_11 : decode cX3_add 11 = .ok (.aload_n 0, 1) := by decide +kernel
theorem dX3_add_12 : decode cX3_add 12 = .ok (.getfield 11, 3) := by decide +kernel
theorem dX3_add_15 : decode cX3_add 15 = .ok (.aload_n 0, 1) := by decide +kernel
theorem dX3_add_16 : decode cX3_add 16 = .ok (.getfield 18, 3) := by decide +kernel
theorem dX3_add_19 : decode cX3_add 19 = .ok (.iload_n 1, 1) := by decide +kernel
theorem dX3_add_20 : decode cX3_add 20 = .ok (.iastore, 1) := by decide +kernel
theorem dX3_add_21 : decode cX3_add 21 = .ok (.aload_n 0, 1) := by decide +kernel
theorem dX3_add_22 : decode cX3_add 22 = .ok (.getfield 15, 3) := by decide +kernel
theorem dX3_add_25 : decode cX3_add 25 = .ok (.aload_n 0, 1) := by decide +kernel
theorem dX3_add_26 : decode cX3_add 26 = .ok (.getfield 18, 3) := by decide +kernel
theorem dX3_add_29 : decode cX3_add 29 = .ok (.iload_n 2, 1) := by decide +kernel
theorem dX3_add_30 : decode cX3_add 30 = .ok (.iastore, 1) := by decide +kernel
theorem dX3_add_31 : decode cX3_add 31 = .ok (.aload_n 0, 1) := by decide +kernel
theorem dX3_add_32 : decode cX3_add 32 = .ok (.dup, 1) := by decide +kernel
theorem dX3_add_33 : decode cX3_add 33 = .ok (.getfield 18, 3) := by decide +kernel
theorem dX3_add_36 : decode cX3_add 36 = .ok (.iconst 1, 1) := by decide +kernel
theorem dX3_add_37 : decode cX3_add 37 = .ok (.iadd, 1) := by decide +kernel
theorem dX3_add_38 : decode cX3_add 38 = .ok (.putfield 18, 3) := by decide +kernel
theorem dX3_add_41 : decode cX3_add 41 = .ok (.iconst 1, 1) := by decide +kernel
theorem dX3_add_42 : decode cX3_add 42 = .ok (.ireturn, 1) := by decide +kernel
theorem dX3_fit_0 : decode cX3_fit 0 = .ok (.iconst 0, 1) := by decide +kernel
theorem dX3_fit_1 : decode cX3_fit 1 = .ok (.istore_n 2, 1) := by decide +kernel
theorem dX3_fit_2 : decode cX3_fit 2 = .ok (.iload_n 2, 1) := by decide +kernel
theorem dX3_fit_3 : decode cX3_fit 3 = .ok (.bipush 21, 2) := by decide +kernel
theorem dX3_fit_5 : decode cX3_fit 5 = .ok (.if_icmp .ge 35, 3) := by decide +kernel
theorem dX3_fit_8 : decode cX3_fit 8 = .ok (.aload_n 1, 1) := by decide +kernel
theorem dX3_fit_9 : decode cX3_fit 9 = .ok (.iconst 0, 1) := by decide +kernel
theorem dX3_fit_10 : decode cX3_fit 10 = .ok (.invokevirtual 22, 3) := by decide +kernel
theorem dX3_fit_13 : decode cX3_fit 13 = .ok (.istore_n 3, 1) := by decide +kernel
theorem dX3_fit_14 : decode cX3_fit 14 = .ok (.aload_n 0, 1) := by decide +kernel
theorem dX3_fit_15 : decode cX3_fit 15 = .ok (.iload_n 2, 1) := by decide +kernel
theorem dX3_fit_16 : decode cX3_fit 16 = .ok (.iload_n 3, 1) := by decide +kernel
theorem dX3_fit_17 : decode cX3_fit 17 = .ok (.ifCond .ge 8, 3) := by decide +kernel
theorem dX3_fit_20 : decode cX3_fit 20 = .ok (.bipush 9, 2) := by decide +kernel
theorem dX3_fit_22 : decode cX3_fit 22 = .ok (.goto 4, 3) := by decide +kernel
theorem dX3_fit_25 : decode cX3_fit 25 = .ok (.iload_n 3, 1) := by decide +kernel
theorem dX3_fit_26 : decode cX3_fit 26 = .ok (.invokevirtual 28, 3) := by decide +kernel
theorem dX3_fit_29 : decode cX3_fit 29 = .ok (.ifCond .ne 5, 3) := by decide +kernel
theorem dX3_fit_32 : decode cX3_fit 32 = .ok (.iconst 0, 1) := by decide +kernel
theorem dX3_fit_33 : decode cX3_fit 33 = .ok (.ireturn, 1) := by decide +kernel
theorem dX3_fit_34 : decode cX3_fit 34 = .ok (.iinc 2 1, 3) := by decide +kernel
theorem dX3_fit_37 : decode cX3_fit 37 = .ok (.goto (-35), 3) := by decide +kernel
theorem dX3_fit_40 : decode cX3_fit 40 = .ok (.iconst 1, 1) := by decide +kernel
theorem dX3_fit_41 : decode cX3_fit 41 = .ok (.ireturn, 1) := by decide +kernel
theorem dX3_fitsWeek_0 : decode cX3_fitsWeek 0 = .ok (.iconst 0, 1) := by decide +kernel
theorem dX3_fitsWeek_1 : decode cX3_fitsWeek 1 = .ok (.istore_n 3, 1) := by decide +kernel
theorem dX3_fitsWeek_2 : decode cX3_fitsWeek 2 = .ok (.iload_n 3, 1) := by decide +kernel
theorem dX3_fitsWeek_3 : decode cX3_fitsWeek 3 = .ok (.aload_n 0, 1) := by decide +kernel
theorem dX3_fitsWeek_4 : decode cX3_fitsWeek 4 = .ok (.getfield 18, 3) := by decide +kernel
theorem dX3_fitsWeek_7 : decode cX3_fitsWeek 7 = .ok (.if_icmp .ge 31, 3) := by decide +kernel
theorem dX3_fitsWeek_10 : decode cX3_fitsWeek 10 = .ok (.aload_n 0, 1) := by decide +kernel
theorem dX3_fitsWeek_11 : decode cX3_fitsWeek 11 = .ok (.getfield 11, 3) := by decide +kernel
theorem dX3_fitsWeek_14 : decode cX3_fitsWeek 14 = .ok (.iload_n 3, 1) := by decide +kernel
theorem dX3_fitsWeek_15 : decode cX3_fitsWeek 15 = .ok (.iaload, 1) := by decide +kernel
theorem dX3_fitsWeek_16 : decode cX3_fitsWeek 16 = .ok (.iload_n 1, 1) := by decide +kernel
theorem dX3_fitsWeek_17 : decode cX3_fitsWeek 17 = .ok (.if_icmp .ne 15, 3) := by decide +kernel
theorem dX3_fitsWeek_20 : decode cX3_fitsWeek 20 = .ok (.aload_n 0, 1) := by decide +kernel
theorem dX3_fitsWeek_21 : decode cX3_fitsWeek 21 = .ok (.getfield 15, 3) := by decide +kernel
theorem dX3_fitsWeek_24 : decode cX3_fitsWeek 24 = .ok (.iload_n 3, 1) := by decide +kernel
theorem dX3_fitsWeek_25 : decode cX3_fitsWeek 25 = .ok (.iaload, 1) := by decide +kernel
theorem dX3_fitsWeek_26 : decode cX3_fitsWeek 26 = .ok (.iload_n 2, 1) := by decide +kernel
theorem dX3_fitsWeek_27 : decode cX3_fitsWeek 27 = .ok (.if_icmp .eq 5, 3) := by decide +kernel
theorem dX3_fitsWeek_30 : decode cX3_fitsWeek 30 = .ok (.iconst 0, 1) := by decide +kernel
theorem dX3_fitsWeek_31 : decode cX3_fitsWeek 31 = .ok (.ireturn, 1) := by decide +kernel
theorem dX3_fitsWeek_32 : decode cX3_fitsWeek 32 = .ok (.iinc 3 1, 3) := by decide +kernel
theorem dX3_fitsWeek_35 : decode cX3_fitsWeek 35 = .ok (.goto (-33), 3) := by decide +kernel
theorem dX3_fitsWeek_38 : decode cX3_fitsWeek 38 = .ok (.iconst 1, 1) := by decide +kernel
theorem dX3_fitsWeek_39 : decode cX3_fitsWeek 39 = .ok (.ireturn, 1) := by decide +kernel
theorem dX4_init_0 : decode cX4_init 0 = .ok (.aload_n 0, 1) := by decide +kernel
theorem dX4_init_1 : decode cX4_init 1 = .ok (.invokespecial 1, 3) := by decide +kernel
theorem dX4_init_4 : decode cX4_init 4 = .ok (.aload_n 0, 1) := by decide +kernel
theorem dX4_init_5 : decode cX4_init 5 = .ok (.sipush 160, 3) := by decide +kernel
theorem dX4_init_8 : decode cX4_init 8 = .ok (.newarray .byte, 2) := by decide +kernel
theorem dX4_init_10 : decode cX4_init 10 = .ok (.putfield 7, 3) := by decide +kernel
theorem dX4_init_13 : decode cX4_init 13 = .ok (.return_, 1) := by decide +kernel
theorem dX4_append_0 : decode cX4_append 0 = .ok (.aload_n 0, 1) := by decide +kernel
theorem dX4_append_1 : decode cX4_append 1 = .ok (.getfield 13, 3) := by decide +kernel
theorem dX4_append_4 : decode cX4_append 4 = .ok (.aload_n 0, 1) := by decide +kernel
theorem dX4_append_5 : decode cX4_append 5 = .ok (.getfield 7, 3) := by decide +kernel
theorem dX4_append_8 : decode cX4_append 8 = .ok (.arraylength, 1) := by decide +kernel
theorem dX4_append_9 : decode cX4_append 9 = .ok (.if_icmp .lt 5, 3) := by decide +kernel
theorem dX4_append_12 : decode cX4_append 12 = .ok (.iconst 0, 1) := by decide +kernel
theorem dX4_append_13 : decode cX4_append 13 = .ok (.ireturn, 1) := by decide +kernel
theorem dX4_append_14 : decode cX4_append 14 = .ok (.aload_n 0, 1) := by decide +kernel
theorem dX4_append_15 : decode cX4_append 15 = .ok (.getfield 7, 3) := by decide +kernel
theorem dX4_append_18 : decode cX4_append 18 = .ok (.aload_n 0, 1) := by decide +kernel
theorem dX4_append_19 : decode cX4_append 19 = .ok (.getfield 13, 3) := by decide +kernel
theorem dX4_append_22 : decode cX4_append 22 = .ok (.iload_n 1, 1) := by decide +kernel
theorem dX4_append_23 : decode cX4_append 23 = .ok (.i2b, 1) := by decide +kernel
theorem dX4_append_24 : decode cX4_append 24 = .ok (.bastore, 1) := by decide +kernel
theorem dX4_append_25 : decode cX4_append 25 = .ok (.aload_n 0, 1) := by decide +kernel
theorem dX4_append_26 : decode cX4_append 26 = .ok (.dup, 1) := by decide +kernel
theorem dX4_append_27 : decode cX4_append 27 = .ok (.getfield 13, 3) := by decide +kernel
theorem dX4_append_30 : decode cX4_append 30 = .ok (.iconst 1, 1) := by decide +kernel
theorem dX4_append_31 : decode cX4_append 31 = .ok (.iadd, 1) := by decide +kernel
theorem dX4_append_32 : decode cX4_append 32 = .ok (.putfield 13, 3) := by decide +kernel
theorem dX4_append_35 : decode cX4_append 35 = .ok (.iconst 1, 1) := by decide +kernel
theorem dX4_append_36 : decode cX4_append 36 = .ok (.ireturn, 1) := by decide +kernel
theorem dX4_byteAt_0 : decode cX4_byteAt 0 = .ok (.iload_n 1, 1) := by decide +kernel
theorem dX4_byteAt_1 : decode cX4_byteAt 1 = .ok (.ifCond .lt 20, 3) := by decide +kernel
theorem dX4_byteAt_4 : decode cX4_byteAt 4 = .ok (.iload_n 1, 1) := by decide +kernel
theorem dX4_byteAt_5 : decode cX4_byteAt 5 = .ok (.aload_n 0, 1) := by decide +kernel
theorem dX4_byteAt_6 : decode cX4_byteAt 6 = .ok (.getfield 13, 3) := by decide +kernel
theorem dX4_byteAt_9 : decode cX4_byteAt 9 = .ok (.if_icmp .ge 12, 3) := by decide +kernel
theorem dX4_byteAt_12 : decode cX4_byteAt 12 = .ok (.aload_n 0, 1) := by decide +kernel
theorem dX4_byteAt_13 : decode cX4_byteAt 13 = .ok (.getfield 7, 3) := by decide +kernel
theorem dX4_byteAt_16 : decode cX4_byteAt 16 = .ok (.iload_n 1, 1) := by decide +kernel
theorem dX4_byteAt_17 : decode cX4_byteAt 17 = .ok (.baload, 1) := by decide +kernel
theorem dX4_byteAt_18 : decode cX4_byteAt 18 = .ok (.goto 4, 3) := by decide +kernel
theorem dX4_byteAt_21 : decode cX4_byteAt 21 = .ok (.iconst 0, 1) := by decide +kernel
theorem dX4_byteAt_22 : decode cX4_byteAt 22 = .ok (.ireturn, 1) := by decide +kernel
theorem dX5_init_0 : decode cX5_init 0 = .ok (.aload_n 0, 1) := by decide +kernel
theorem dX5_init_1 : decode cX5_init 1 = .ok (.invokespecial 3, 3) := by decide +kernel
theorem dX5_init_4 : decode cX5_init 4 = .ok (.aload_n 0, 1) := by decide +kernel
theorem dX5_init_5 : decode cX5_init 5 = .ok (.new 9, 3) := by decide +kernel
theorem dX5_init_8 : decode cX5_init 8 = .ok (.dup, 1) := by decide +kernel
theorem dX5_init_9 : decode cX5_init 9 = .ok (.invokespecial 11, 3) := by decide +kernel
theorem dX5_init_12 : decode cX5_init 12 = .ok (.putfield 12, 3) := by decide +kernel
theorem dX5_init_15 : decode cX5_init 15 = .ok (.return_, 1) := by decide +kernel
theorem dX5_readAll_0 : decode cX5_readAll 0 = .ok (.aload_n 1, 1) := by decide +kernel
theorem dX5_readAll_1 : decode cX5_readAll 1 = .ok (.invokevirtual 18, 3) := by decide +kernel
theorem dX5_readAll_4 : decode cX5_readAll 4 = .ok (.aload_n 0, 1) := by decide +kernel
theorem dX5_readAll_5 : decode cX5_readAll 5 = .ok (.iconst 0, 1) := by decide +kernel
theorem dX5_readAll_6 : decode cX5_readAll 6 = .ok (.putfield 23, 3) := by decide +kernel
theorem dX5_readAll_9 : decode cX5_readAll 9 = .ok (.aload_n 0, 1) := by decide +kernel
theorem dX5_readAll_10 : decode cX5_readAll 10 = .ok (.iconst 0, 1) := by decide +kernel
theorem dX5_readAll_11 : decode cX5_readAll 11 = .ok (.putfield 27, 3) := by decide +kernel
theorem dX5_readAll_14 : decode cX5_readAll 14 = .ok (.aload_n 0, 1) := by decide +kernel
theorem dX5_readAll_15 : decode cX5_readAll 15 = .ok (.iconst 0, 1) := by decide +kernel
theorem dX5_readAll_16 : decode cX5_readAll 16 = .ok (.putfield 30, 3) := by decide +kernel
theorem dX5_readAll_19 : decode cX5_readAll 19 = .ok (.iconst 0, 1) := by decide +kernel
theorem dX5_readAll_20 : decode cX5_readAll 20 = .ok (.istore_n 2, 1) := by decide +kernel
theorem dX5_readAll_21 : decode cX5_readAll 21 = .ok (.iload_n 2, 1) := by decide +kernel
theorem dX5_readAll_22 : decode cX5_readAll 22 = .ok (.bipush 15, 2) := by decide +kernel
theorem dX5_readAll_24 : decode cX5_readAll 24 = .ok (.if_icmp .gt 86, 3) := by decide +kernel
theorem dX5_readAll_27 : decode cX5_readAll 27 = .ok (.aload_n 0, 1) := by decide +kernel
theorem dX5_readAll_28 : decode cX5_readAll 28 = .ok (.invokevirtual 33, 3) := by decide +kernel
theorem dX5_readAll_31 : decode cX5_readAll 31 = .ok (.ifCond .ne 5, 3) := by decide +kernel
theorem dX5_readAll_34 : decode cX5_readAll 34 = .ok (.iload_n 2, 1) := by decide +kernel
theorem dX5_readAll_35 : decode cX5_readAll 35 = .ok (.ireturn, 1) := by decide +kernel
theorem dX5_readAll_36 : decode cX5_readAll 36 = .ok (.aload_n 0, 1) := by decide +kernel
theorem dX5_readAll_37 : decode cX5_readAll 37 = .ok (.getfield 37, 3) := by decide +kernel
theorem dX5_readAll_40 : decode cX5_readAll 40 = .ok (.ifCond .ne 19, 3) := by decide +kernel
theorem dX5_readAll_43 : decode cX5_readAll 43 = .ok (.aload_n 1, 1) := by decide +kernel
theorem dX5_readAll_44 : decode cX5_readAll 44 = .ok (.invokevirtual 40, 3) := by decide +kernel
theorem dX5_readAll_47 : decode cX5_readAll 47 = .ok (.ifCond .eq 10, 3) := by decide +kernel
theorem dX5_readAll_50 : decode cX5_readAll 50 = .ok (.aload_n 0, 1) := by decide +kernel
theorem dX5_readAll_51 : decode cX5_readAll 51 = .ok (.bipush 6, 2) := by decide +kernel
theorem dX5_readAll_53 : decode cX5_readAll 53 = .ok (.invokevirtual 43, 3) := by decide +kernel
theorem dX5_readAll_56 : decode cX5_readAll 56 = .ok (.pop, 1) := by decide +kernel
theorem dX5_readAll_57 : decode cX5_readAll 57 = .ok (.iload_n 2, 1) := by decide +kernel
theorem dX5_readAll_58 : decode cX5_readAll 58 = .ok (.ireturn, 1) := by decide +kernel
theorem dX5_readAll_59 : decode cX5_readAll 59 = .ok (.aload_n 0, 1) := by decide +kernel
theorem dX5_readAll_60 : decode cX5_readAll 60 = .ok (.invokevirtual 47, 3) := by decide +kernel
theorem dX5_readAll_63 : decode cX5_readAll 63 = .ok (.istore_n 3, 1) := by decide +kernel
theorem dX5_readAll_64 : decode cX5_readAll 64 = .ok (.iload_n 3, 1) := by decide +kernel
theorem dX5_readAll_65 : decode cX5_readAll 65 = .ok (.iconst (-1), 1) := by decide +kernel
theorem dX5_readAll_66 : decode cX5_readAll 66 = .ok (.if_icmp .ne 11, 3) := by decide +kernel
theorem dX5_readAll_69 : decode cX5_readAll 69 = .ok (.aload_n 0, 1) := by decide +kernel
theorem dX5_readAll_70 : decode cX5_readAll 70 = .ok (.iconst 2, 1) := by decide +kernel
theorem dX5_readAll_71 : decode cX5_readAll 71 = .ok (.invokevirtual 43, 3) := by decide +kernel
theorem dX5_readAll_74 : decode cX5_readAll 74 = .ok (.pop, 1) := by decide +kernel
theorem dX5_readAll_75 : decode cX5_readAll 75 = .ok (.iload_n 2, 1) := by decide +kernel
theorem dX5_readAll_76 : decode cX5_readAll 76 = .ok (.ireturn, 1) := by decide +kernel
theorem dX5_readAll_77 : decode cX5_readAll 77 = .ok (.iload_n 3, 1) := by decide +kernel
theorem dX5_readAll_78 : decode cX5_readAll 78 = .ok (.iconst 4, 1) := by decide +kernel
theorem dX5_readAll_79 : decode cX5_readAll 79 = .ok (.if_icmp .ne 14, 3) := by decide +kernel
theorem dX5_readAll_82 : decode cX5_readAll 82 = .ok (.aload_n 0, 1) := by decide +kernel
theorem dX5_readAll_83 : decode cX5_readAll 83 = .ok (.aload_n 1, 1) := by decide +kernel
theorem dX5_readAll_84 : decode cX5_readAll 84 = .ok (.invokevirtual 51, 3) := by decide +kernel
theorem dX5_readAll_87 : decode cX5_readAll 87 = .ok (.ifCond .ne 17, 3) := by decide +kernel
theorem dX5_readAll_90 : decode cX5_readAll 90 = .ok (.goto 12, 3) := by decide +kernel
theorem dX5_readAll_93 : decode cX5_readAll 93 = .ok (.aload_n 0, 1) := by decide +kernel
theorem dX5_readAll_94 : decode cX5_readAll 94 = .ok (.aload_n 1, 1) := by decide +kernel
theorem dX5_readAll_95 : decode cX5_readAll 95 = .ok (.iload_n 3, 1) := by decide +kernel
theorem dX5_readAll_96 : decode cX5_readAll 96 = .ok (.invokevirtual 55, 3) := by decide +kernel
theorem dX5_readAll_99 : decode cX5_readAll 99 = .ok (.ifCond .ne 5, 3) := by decide +kernel
theorem dX5_readAll_102 : decode cX5_readAll 102 = .ok (.iload_n 2, 1) := by decide +kernel
theorem dX5_readAll_103 : decode cX5_readAll 103 = .ok (.ireturn, 1) := by decide +kernel
theorem dX5_readAll_104 : decode cX5_readAll 104 = .ok (.iinc 2 1, 3) := by decide +kernel
theorem dX5_readAll_107 : decode cX5_readAll 107 = .ok (.goto (-86), 3) := by decide +kernel
theorem dX5_readAll_110 : decode cX5_readAll 110 = .ok (.bipush 15, 2) := by decide +kernel
theorem dX5_readAll_112 : decode cX5_readAll 112 = .ok (.ireturn, 1) := by decide +kernel
theorem dX5_readTown_0 : decode cX5_readTown 0 = .ok (.aload_n 1, 1) := by decide +kernel
theorem dX5_readTown_1 : decode cX5_readTown 1 = .ok (.invokevirtual 59, 3) := by decide +kernel
theorem dX5_readTown_4 : decode cX5_readTown 4 = .ok (.ifCond .eq 9, 3) := by decide +kernel
theorem dX5_readTown_7 : decode cX5_readTown 7 = .ok (.aload_n 0, 1) := by decide +kernel
theorem dX5_readTown_8 : decode cX5_readTown 8 = .ok (.iconst 5, 1) := by decide +kernel
theorem dX5_readTown_9 : decode cX5_readTown 9 = .ok (.invokevirtual 43, 3) := by decide +kernel
theorem dX5_readTown_12 : decode cX5_readTown 12 = .ok (.ireturn, 1) := by decide +kernel
theorem dX5_readTown_13 : decode cX5_readTown 13 = .ok (.aload_n 0, 1) := by decide +kernel
theorem dX5_readTown_14 : decode cX5_readTown 14 = .ok (.bipush 20, 2) := by decide +kernel
theorem dX5_readTown_16 : decode cX5_readTown 16 = .ok (.invokevirtual 62, 3) := by decide +kernel
theorem dX5_readTown_19 : decode cX5_readTown 19 = .ok (.ifCond .ne 5, 3) := by decide +kernel
theorem dX5_readTown_22 : decode cX5_readTown 22 = .ok (.iconst 0, 1) := by decide +kernel
theorem dX5_readTown_23 : decode cX5_readTown 23 = .ok (.ireturn, 1) := by decide +kernel
theorem dX5_readTown_24 : decode cX5_readTown 24 = .ok (.aload_n 0, 1) := by decide +kernel
theorem dX5_readTown_25 : decode cX5_readTown 25 = .ok (.getfield 65, 3) := by decide +kernel
theorem dX5_readTown_28 : decode cX5_readTown 28 = .ok (.istore_n 3, 1) := by decide +kernel
theorem dX5_readTown_29 : decode cX5_readTown 29 = .ok (.aload_n 0, 1) := by decide +kernel
theorem dX5_readTown_30 : decode cX5_readTown 30 = .ok (.invokevirtual 68, 3) := by decide +kernel
theorem dX5_readTown_33 : decode cX5_readTown 33 = .ok (.ifCond .ne 5, 3) := by decide +kernel
theorem dX5_readTown_36 : decode cX5_readTown 36 = .ok (.iconst 0, 1) := by decide +kernel
theorem dX5_readTown_37 : decode cX5_readTown 37 = .ok (.ireturn, 1) := by decide +kernel
theorem dX5_readTown_38 : decode cX5_readTown 38 = .ok (.aload_n 1, 1) := by decide +kernel
theorem dX5_readTown_39 : decode cX5_readTown 39 = .ok (.iload_n 2, 1) := by decide +kernel
theorem dX5_readTown_40 : decode cX5_readTown 40 = .ok (.iload_n 3, 1) := by decide +kernel
theorem dX5_readTown_41 : decode cX5_readTown 41 = .ok (.invokevirtual 71, 3) := by decide +kernel
theorem dX5_readTown_44 : decode cX5_readTown 44 = .ok (.iconst 1, 1) := by decide +kernel
theorem dX5_readTown_45 : decode cX5_readTown 45 = .ok (.ireturn, 1) := by decide +kernel
theorem dX5_readGame_0 : decode cX5_readGame 0 = .ok (.aload_n 1, 1) := by decide +kernel
theorem dX5_readGame_1 : decode cX5_readGame 1 = .ok (.invokevirtual 75, 3) := by decide +kernel
theorem dX5_readGame_4 : decode cX5_readGame 4 = .ok (.ifCond .eq 9, 3) := by decide +kernel
theorem dX5_readGame_7 : decode cX5_readGame 7 = .ok (.aload_n 0, 1) := by decide +kernel
theorem dX5_readGame_8 : decode cX5_readGame 8 = .ok (.iconst 5, 1) := by decide +kernel
theorem dX5_readGame_9 : decode cX5_readGame 9 = .ok (.invokevirtual 43, 3) := by decide +kernel
theorem dX5_readGame_12 : decode cX5_readGame 12 = .ok (.ireturn, 1) := by decide +kernel
theorem dX5_readGame_13 : decode cX5_readGame 13 = .ok (.aload_n 0, 1) := by decide +kernel
theorem dX5_readGame_14 : decode cX5_readGame 14 = .ok (.iconst 4, 1) := by decide +kernel
theorem dX5_readGame_15 : decode cX5_readGame 15 = .ok (.invokevirtual 62, 3) := by decide +kernel
theorem dX5_readGame_18 : decode cX5_readGame 18 = .ok (.ifCond .ne 5, 3) := by decide +kernel
theorem dX5_readGame_21 : decode cX5_readGame 21 = .ok (.iconst 0, 1) := by decide +kernel
theorem dX5_readGame_22 : decode cX5_readGame 22 = .ok (.ireturn, 1) := by decide +kernel
theorem dX5_readGame_23 : decode cX5_readGame 23 = .ok (.aload_n 0, 1) := by decide +kernel
theorem dX5_readGame_24 : decode cX5_readGame 24 = .ok (.getfield 65, 3) := by decide +kernel
theorem dX5_readGame_27 : decode cX5_readGame 27 = .ok (.istore_n 2, 1) := by decide +kernel
theorem dX5_readGame_28 : decode cX5_readGame 28 = .ok (.aload_n 0, 1) := by decide +kernel
theorem dX5_readGame_29 : decode cX5_readGame 29 = .ok (.iconst 4, 1) := by decide +kernel
theorem dX5_readGame_30 : decode cX5_readGame 30 = .ok (.invokevirtual 62, 3) := by decide +kernel
theorem dX5_readGame_33 : decode cX5_readGame 33 = .ok (.ifCond .ne 5, 3) := by decide +kernel
theorem dX5_readGame_36 : decode cX5_readGame 36 = .ok (.iconst 0, 1) := by decide +kernel
theorem dX5_readGame_37 : decode cX5_readGame 37 = .ok (.ireturn, 1) := by decide +kernel
theorem dX5_readGame_38 : decode cX5_readGame 38 = .ok (.aload_n 0, 1) := by decide +kernel
theorem dX5_readGame_39 : decode cX5_readGame 39 = .ok (.getfield 65, 3) := by decide +kernel
theorem dX5_readGame_42 : decode cX5_readGame 42 = .ok (.istore_n 3, 1) := by decide +kernel
theorem dX5_readGame_43 : decode cX5_readGame 43 = .ok (.iload_n 2, 1) := by decide +kernel
theorem dX5_readGame_44 : decode cX5_readGame 44 = .ok (.iload_n 3, 1) := by decide +kernel
theorem dX5_readGame_45 : decode cX5_readGame 45 = .ok (.if_icmp .ne 9, 3) := by decide +kernel
theorem dX5_readGame_48 : decode cX5_readGame 48 = .ok (.aload_n 0, 1) := by decide +kernel
theorem dX5_readGame_49 : decode cX5_readGame 49 = .ok (.iconst 3, 1) := by decide +kernel
theorem dX5_readGame_50 : decode cX5_readGame 50 = .ok (.invokevirtual 43, 3) := by decide +kernel
theorem dX5_readGame_53 : decode cX5_readGame 53 = .ok (.ireturn, 1) := by decide +kernel
theorem dX5_readGame_54 : decode cX5_readGame 54 = .ok (.aload_n 0, 1) := by decide +kernel
theorem dX5_readGame_55 : decode cX5_readGame 55 = .ok (.invokevirtual 68, 3) := by decide +kernel
theorem dX5_readGame_58 : decode cX5_readGame 58 = .ok (.ifCond .ne 5, 3) := by decide +kernel
theorem dX5_readGame_61 : decode cX5_readGame 61 = .ok (.iconst 0, 1) := by decide +kernel
theorem dX5_readGame_62 : decode cX5_readGame 62 = .ok (.ireturn, 1) := by decide +kernel
theorem dX5_readGame_63 : decode cX5_readGame 63 = .ok (.aload_n 1, 1) := by decide +kernel
theorem dX5_readGame_64 : decode cX5_readGame 64 = .ok (.iload_n 2, 1) := by decide +kernel
theorem dX5_readGame_65 : decode cX5_readGame 65 = .ok (.iload_n 3, 1) := by decide +kernel
theorem dX5_readGame_66 : decode cX5_readGame 66 = .ok (.invokevirtual 78, 3) := by decide +kernel
theorem dX5_readGame_69 : decode cX5_readGame 69 = .ok (.pop, 1) := by decide +kernel
theorem dX5_readGame_70 : decode cX5_readGame 70 = .ok (.iconst 1, 1) := by decide +kernel
theorem dX5_readGame_71 : decode cX5_readGame 71 = .ok (.ireturn, 1) := by decide +kernel
theorem dX5_readNumber_0 : decode cX5_readNumber 0 = .ok (.aload_n 0, 1) := by decide +kernel
theorem dX5_readNumber_1 : decode cX5_readNumber 1 = .ok (.invokevirtual 33, 3) := by decide +kernel
theorem dX5_readNumber_4 : decode cX5_readNumber 4 = .ok (.ifCond .ne 5, 3) := by decide +kernel
theorem dX5_readNumber_7 : decode cX5_readNumber 7 = .ok (.iconst 0, 1) := by decide +kernel
theorem dX5_readNumber_8 : decode cX5_readNumber 8 = .ok (.ireturn, 1) := by decide +kernel
theorem dX5_readNumber_9 : decode cX5_readNumber 9 = .ok (.aload_n 0, 1) := by decide +kernel
theorem dX5_readNumber_10 : decode cX5_readNumber 10 = .ok (.getfield 37, 3) := by decide +kernel
theorem dX5_readNumber_13 : decode cX5_readNumber 13 = .ok (.iconst 2, 1) := by decide +kernel
theorem dX5_readNumber_14 : decode cX5_readNumber 14 = .ok (.if_icmp .eq 9, 3) := by decide +kernel
theorem dX5_readNumber_17 : decode cX5_readNumber 17 = .ok (.aload_n 0, 1) := by decide +kernel
theorem dX5_readNumber_18 : decode cX5_readNumber 18 = .ok (.iconst 2, 1) := by decide +kernel
theorem dX5_readNumber_19 : decode cX5_readNumber 19 = .ok (.invokevirtual 43, 3) := by decide +kernel
theorem dX5_readNumber_22 : decode cX5_readNumber 22 = .ok (.ireturn, 1) := by decide +kernel
theorem dX5_readNumber_23 : decode cX5_readNumber 23 = .ok (.aload_n 0, 1) := by decide +kernel
theorem dX5_readNumber_24 : decode cX5_readNumber 24 = .ok (.getfield 65, 3) := by decide +kernel
theorem dX5_readNumber_27 : decode cX5_readNumber 27 = .ok (.iload_n 1, 1) := by decide +kernel
theorem dX5_readNumber_28 : decode cX5_readNumber 28 = .ok (.if_icmp .le 11, 3) := by decide +kernel
theorem dX5_readNumber_31 : decode cX5_readNumber 31 = .ok (.aload_n 0, 1) := by decide +kernel
theorem dX5_readNumber_32 : decode cX5_readNumber 32 = .ok (.iconst 3, 1) := by decide +kernel
theorem dX5_readNumber_33 : decode cX5_readNumber 33 = .ok (.invokevirtual 43, 3) := by decide +kernel
theorem dX5_readNumber_36 : decode cX5_readNumber 36 = .ok (.ifCond .eq 7, 3) := by decide +kernel
theorem dX5_readNumber_39 : decode cX5_readNumber 39 = .ok (.iconst 1, 1) := by decide +kernel
theorem dX5_readNumber_40 : decode cX5_readNumber 40 = .ok (.goto 4, 3) := by decide +kernel
theorem dX5_readNumber_43 : decode cX5_readNumber 43 = .ok (.iconst 0, 1) := by decide +kernel
theorem dX5_readNumber_44 : decode cX5_readNumber 44 = .ok (.ireturn, 1) := by decide +kernel
theorem dX5_readSign_0 : decode cX5_readSign 0 = .ok (.aload_n 0, 1) := by decide +kernel
theorem dX5_readSign_1 : decode cX5_readSign 1 = .ok (.invokevirtual 33, 3) := by decide +kernel
theorem dX5_readSign_4 : decode cX5_readSign 4 = .ok (.ifCond .ne 5, 3) := by decide +kernel
theorem dX5_readSign_7 : decode cX5_readSign 7 = .ok (.iconst 0, 1) := by decide +kernel
theorem dX5_readSign_8 : decode cX5_readSign 8 = .ok (.ireturn, 1) := by decide +kernel
theorem dX5_readSign_9 : decode cX5_readSign 9 = .ok (.aload_n 0, 1) := by decide +kernel
theorem dX5_readSign_10 : decode cX5_readSign 10 = .ok (.getfield 37, 3) := by decide +kernel
theorem dX5_readSign_13 : decode cX5_readSign 13 = .ok (.iconst 3, 1) := by decide +kernel
theorem dX5_readSign_14 : decode cX5_readSign 14 = .ok (.if_icmp .eq 11, 3) := by decide +kernel
theorem dX5_readSign_17 : decode cX5_readSign 17 = .ok (.aload_n 0, 1) := by decide +kernel
theorem dX5_readSign_18 : decode cX5_readSign 18 = .ok (.iconst 2, 1) := by decide +kernel
theorem dX5_readSign_19 : decode cX5_readSign 19 = .ok (.invokevirtual 43, 3) := by decide +kernel
theorem dX5_readSign_22 : decode cX5_readSign 22 = .ok (.ifCond .eq 7, 3) := by decide +kernel
theorem dX5_readSign_25 : decode cX5_readSign 25 = .ok (.iconst 1, 1) := by decide +kernel
theorem dX5_readSign_26 : decode cX5_readSign 26 = .ok (.goto 4, 3) := by decide +kernel
theorem dX5_readSign_29 : decode cX5_readSign 29 = .ok (.iconst 0, 1) := by decide +kernel
theorem dX5_readSign_30 : decode cX5_readSign 30 = .ok (.ireturn, 1) := by decide +kernel
theorem dX5_readToken_0 : decode cX5_readToken 0 = .ok (.aload_n 0, 1) := by decide +kernel
theorem dX5_readToken_1 : decode cX5_readToken 1 = .ok (.getfield 23, 3) := by decide +kernel
theorem dX5_readToken_4 : decode cX5_readToken 4 = .ok (.aload_n 0, 1) := by decide +kernel
theorem dX5_readToken_5 : decode cX5_readToken 5 = .ok (.getfield 12, 3) := by decide +kernel
theorem dX5_readToken_8 : decode cX5_readToken 8 = .ok (.getfield 82, 3) := by decide +kernel
theorem dX5_readToken_11 : decode cX5_readToken 11 = .ok (.if_icmp .ge 32, 3) := by decide +kernel
theorem dX5_readToken_14 : decode cX5_readToken 14 = .ok (.aload_n 0, 1) := by decide +kernel
theorem dX5_readToken_15 : decode cX5_readToken 15 = .ok (.getfield 12, 3) := by decide +kernel
theorem dX5_readToken_18 : decode cX5_readToken 18 = .ok (.aload_n 0, 1) := by decide +kernel
theorem dX5_readToken_19 : decode cX5_readToken 19 = .ok (.getfield 23, 3) := by decide +kernel
theorem dX5_readToken_22 : decode cX5_readToken 22 = .ok (.invokevirtual 85, 3) := by decide +kernel
theorem dX5_readToken_25 : decode cX5_readToken 25 = .ok (.bipush 32, 2) := by decide +kernel
theorem dX5_readToken_27 : decode cX5_readToken 27 = .ok (.if_icmp .ne 16, 3) := by decide +kernel
theorem dX5_readToken_30 : decode cX5_readToken 30 = .ok (.aload_n 0, 1) := by decide +kernel
theorem dX5_readToken_31 : decode cX5_readToken 31 = .ok (.dup, 1) := by decide +kernel
theorem dX5_readToken_32 : decode cX5_readToken 32 = .ok (.getfield 23, 3) := by decide +kernel
theorem dX5_readToken_35 : decode cX5_readToken 35 = .ok (.iconst 1, 1) := by decide +kernel
theorem dX5_readToken_36 : decode cX5_readToken 36 = .ok (.iadd, 1) := by decide +kernel
theorem dX5_readToken_37 : decode cX5_readToken 37 = .ok (.putfield 23, 3) := by decide +kernel
theorem dX5_readToken_40 : decode cX5_readToken 40 = .ok (.goto (-40), 3) := by decide +kernel
theorem dX5_readToken_43 : decode cX5_readToken 43 = .ok (.aload_n 0, 1) := by decide +kernel
theorem dX5_readToken_44 : decode cX5_readToken 44 = .ok (.aload_n 0, 1) := by decide +kernel
theorem dX5_readToken_45 : decode cX5_readToken 45 = .ok (.getfield 23, 3) := by decide +kernel
theorem dX5_readToken_48 : decode cX5_readToken 48 = .ok (.putfield 89, 3) := by decide +kernel
theorem dX5_readToken_51 : decode cX5_readToken 51 = .ok (.aload_n 0, 1) := by decide +kernel
theorem dX5_readToken_52 : decode cX5_readToken 52 = .ok (.getfield 23, 3) := by decide +kernel
theorem dX5_readToken_55 : decode cX5_readToken 55 = .ok (.aload_n 0, 1) := by decide +kernel
theorem dX5_readToken_56 : decode cX5_readToken 56 = .ok (.getfield 12, 3) := by decide +kernel
theorem dX5_readToken_59 : decode cX5_readToken 59 = .ok (.getfield 82, 3) := by decide +kernel
theorem dX5_readToken_62 : decode cX5_readToken 62 = .ok (.if_icmp .lt 10, 3) := by decide +kernel
theorem dX5_readToken_65 : decode cX5_readToken 65 = .ok (.aload_n 0, 1) := by decide +kernel
theorem dX5_readToken_66 : decode cX5_readToken 66 = .ok (.iconst 0, 1) := by decide +kernel
theorem dX5_readToken_67 : decode cX5_readToken 67 = .ok (.putfield 37, 3) := by decide +kernel
theorem dX5_readToken_70 : decode cX5_readToken 70 = .ok (.iconst 1, 1) := by decide +kernel
theorem dX5_readToken_71 : decode cX5_readToken 71 = .ok (.ireturn, 1) := by decide +kernel
theorem dX5_readToken_72 : decode cX5_readToken 72 = .ok (.aload_n 0, 1) := by decide +kernel
theorem dX5_readToken_73 : decode cX5_readToken 73 = .ok (.getfield 12, 3) := by decide +kernel
theorem dX5_readToken_76 : decode cX5_readToken 76 = .ok (.aload_n 0, 1) := by decide +kernel
theorem dX5_readToken_77 : decode cX5_readToken 77 = .ok (.getfield 23, 3) := by decide +kernel
theorem dX5_readToken_80 : decode cX5_readToken 80 = .ok (.invokevirtual 85, 3) := by decide +kernel
theorem dX5_readToken_83 : decode cX5_readToken 83 = .ok (.istore_n 1, 1) := by decide +kernel
theorem dX5_readToken_84 : decode cX5_readToken 84 = .ok (.iload_n 1, 1) := by decide +kernel
theorem dX5_readToken_85 : decode cX5_readToken 85 = .ok (.invokestatic 92, 3) := by decide +kernel
theorem dX5_readToken_88 : decode cX5_readToken 88 = .ok (.ifCond .eq 8, 3) := by decide +kernel
theorem dX5_readToken_91 : decode cX5_readToken 91 = .ok (.aload_n 0, 1) := by decide +kernel
theorem dX5_readToken_92 : decode cX5_readToken 92 = .ok (.invokevirtual 95, 3) := by decide +kernel
theorem dX5_readToken_95 : decode cX5_readToken 95 = .ok (.ireturn, 1) := by decide +kernel
theorem dX5_readToken_96 : decode cX5_readToken 96 = .ok (.iload_n 1, 1) := by decide +kernel
theorem dX5_readToken_97 : decode cX5_readToken 97 = .ok (.invokestatic 98, 3) := by decide +kernel
theorem dX5_readToken_100 : decode cX5_readToken 100 = .ok (.ifCond .eq 8, 3) := by decide +kernel
theorem dX5_readToken_103 : decode cX5_readToken 103 = .ok (.aload_n 0, 1) := by decide +kernel
theorem dX5_readToken_104 : decode cX5_readToken 104 = .ok (.invokevirtual 101, 3) := by decide +kernel
theorem dX5_readToken_107 : decode cX5_readToken 107 = .ok (.ireturn, 1) := by decide +kernel
theorem dX5_readToken_108 : decode cX5_readToken 108 = .ok (.iload_n 1, 1) := by decide +kernel
theorem dX5_readToken_109 : decode cX5_readToken 109 = .ok (.bipush 59, 2) := by decide +kernel
theorem dX5_readToken_111 : decode cX5_readToken 111 = .ok (.if_icmp .eq 9, 3) := by decide +kernel
theorem dX5_readToken_114 : decode cX5_readToken 114 = .ok (.aload_n 0, 1) := by decide +kernel
theorem dX5_readToken_115 : decode cX5_readToken 115 = .ok (.iconst 1, 1) := by decide +kernel
theorem dX5_readToken_116 : decode cX5_readToken 116 = .ok (.invokevirtual 43, 3) := by decide +kernel
theorem dX5_readToken_119 : decode cX5_readToken 119 = .ok (.ireturn, 1) := by decide +kernel
theorem dX5_readToken_120 : decode cX5_readToken 120 = .ok (.aload_n 0, 1) := by decide +kernel
theorem dX5_readToken_121 : decode cX5_readToken 121 = .ok (.iconst 3, 1) := by decide +kernel
theorem dX5_readToken_122 : decode cX5_readToken 122 = .ok (.putfield 37, 3) := by decide +kernel
theorem dX5_readToken_125 : decode cX5_readToken 125 = .ok (.aload_n 0, 1) := by decide +kernel
theorem dX5_readToken_126 : decode cX5_readToken 126 = .ok (.dup, 1) := by decide +kernel
theorem dX5_readToken_127 : decode cX5_readToken 127 = .ok (.getfield 23, 3) := by decide +kernel
theorem dX5_readToken_130 : decode cX5_readToken 130 = .ok (.iconst 1, 1) := by decide +kernel
theorem dX5_readToken_131 : decode cX5_readToken 131 = .ok (.iadd, 1) := by decide +kernel
theorem dX5_readToken_132 : decode cX5_readToken 132 = .ok (.putfield 23, 3) := by decide +kernel
theorem dX5_readToken_135 : decode cX5_readToken 135 = .ok (.iconst 1, 1) := by decide +kernel
theorem dX5_readToken_136 : decode cX5_readToken 136 = .ok (.ireturn, 1) := by decide +kernel
theorem dX5_takeName_0 : decode cX5_takeName 0 = .ok (.aload_n 0, 1) := by decide +kernel
theorem dX5_takeName_1 : decode cX5_takeName 1 = .ok (.iconst 1, 1) := by decide +kernel
theorem dX5_takeName_2 : decode cX5_takeName 2 = .ok (.putfield 37, 3) := by decide +kernel
theorem dX5_takeName_5 : decode cX5_takeName 5 = .ok (.aload_n 0, 1) := by decide +kernel
theorem dX5_takeName_6 : decode cX5_takeName 6 = .ok (.getfield 23, 3) := by decide +kernel
theorem dX5_takeName_9 : decode cX5_takeName 9 = .ok (.aload_n 0, 1) := by decide +kernel
theorem dX5_takeName_10 : decode cX5_takeName 10 = .ok (.getfield 12, 3) := by decide +kernel
theorem dX5_takeName_13 : decode cX5_takeName 13 = .ok (.getfield 82, 3) := by decide +kernel
theorem dX5_takeName_16 : decode cX5_takeName 16 = .ok (.if_icmp .ge 33, 3) := by decide +kernel
theorem dX5_takeName_19 : decode cX5_takeName 19 = .ok (.aload_n 0, 1) := by decide +kernel
theorem dX5_takeName_20 : decode cX5_takeName 20 = .ok (.getfield 12, 3) := by decide +kernel
theorem dX5_takeName_23 : decode cX5_takeName 23 = .ok (.aload_n 0, 1) := by decide +kernel
theorem dX5_takeName_24 : decode cX5_takeName 24 = .ok (.getfield 23, 3) := by decide +kernel
theorem dX5_takeName_27 : decode cX5_takeName 27 = .ok (.invokevirtual 85, 3) := by decide +kernel
theorem dX5_takeName_30 : decode cX5_takeName 30 = .ok (.invokestatic 92, 3) := by decide +kernel
theorem dX5_takeName_33 : decode cX5_takeName 33 = .ok (.ifCond .eq 16, 3) := by decide +kernel
theorem dX5_takeName_36 : decode cX5_takeName 36 = .ok (.aload_n 0, 1) := by decide +kernel
theorem dX5_takeName_37 : decode cX5_takeName 37 = .ok (.dup, 1) := by decide +kernel
theorem dX5_takeName_38 : decode cX5_takeName 38 = .ok (.getfield 23, 3) := by decide +kernel
theorem dX5_takeName_41 : decode cX5_takeName 41 = .ok (.iconst 1, 1) := by decide +kernel
theorem dX5_takeName_42 : decode cX5_takeName 42 = .ok (.iadd, 1) := by decide +kernel
theorem dX5_takeName_43 : decode cX5_takeName 43 = .ok (.putfield 23, 3) := by decide +kernel
theorem dX5_takeName_46 : decode cX5_takeName 46 = .ok (.goto (-41), 3) := by decide +kernel
theorem dX5_takeName_49 : decode cX5_takeName 49 = .ok (.iconst 1, 1) := by decide +kernel
theorem dX5_takeName_50 : decode cX5_takeName 50 = .ok (.ireturn, 1) := by decide +kernel
theorem dX5_takeNumber_0 : decode cX5_takeNumber 0 = .ok (.aload_n 0, 1) := by decide +kernel
theorem dX5_takeNumber_1 : decode cX5_takeNumber 1 = .ok (.iconst 2, 1) := by decide +kernel
theorem dX5_takeNumber_2 : decode cX5_takeNumber 2 = .ok (.putfield 37, 3) := by decide +kernel
theorem dX5_takeNumber_5 : decode cX5_takeNumber 5 = .ok (.aload_n 0, 1) := by decide +kernel
theorem dX5_takeNumber_6 : decode cX5_takeNumber 6 = .ok (.iconst 0, 1) := by decide +kernel
theorem dX5_takeNumber_7 : decode cX5_takeNumber 7 = .ok (.putfield 65, 3) := by decide +kernel
theorem dX5_takeNumber_10 : decode cX5_takeNumber 10 = .ok (.aload_n 0, 1) := by decide +kernel
theorem dX5_takeNumber_11 : decode cX5_takeNumber 11 = .ok (.getfield 23, 3) := by decide +kernel
theorem dX5_takeNumber_14 : decode cX5_takeNumber 14 = .ok (.aload_n 0, 1) := by decide +kernel
theorem dX5_takeNumber_15 : decode cX5_takeNumber 15 = .ok (.getfield 12, 3) := by decide +kernel
theorem dX5_takeNumber_18 : decode cX5_takeNumber 18 = .ok (.getfield 82, 3) := by decide +kernel
theorem dX5_takeNumber_21 : decode cX5_takeNumber 21 = .ok (.if_icmp .ge 59, 3) := by decide +kernel
theorem dX5_takeNumber_24 : decode cX5_takeNumber 24 = .ok (.aload_n 0, 1) := by decide +kernel
theorem dX5_takeNumber_25 : decode cX5_takeNumber 25 = .ok (.getfield 12, 3) := by decide +kernel
theorem dX5_takeNumber_28 : decode cX5_takeNumber 28 = .ok (.aload_n 0, 1) := by decide +kernel
theorem dX5_takeNumber_29 : decode cX5_takeNumber 29 = .ok (.getfield 23, 3) := by decide +kernel
theorem dX5_takeNumber_32 : decode cX5_takeNumber 32 = .ok (.invokevirtual 85, 3) := by decide +kernel
theorem dX5_takeNumber_35 : decode cX5_takeNumber 35 = .ok (.invokestatic 98, 3) := by decide +kernel
theorem dX5_takeNumber_38 : decode cX5_takeNumber 38 = .ok (.ifCond .eq 42, 3) := by decide +kernel
theorem dX5_takeNumber_41 : decode cX5_takeNumber 41 = .ok (.aload_n 0, 1) := by decide +kernel
theorem dX5_takeNumber_42 : decode cX5_takeNumber 42 = .ok (.aload_n 0, 1) := by decide +kernel
theorem dX5_takeNumber_43 : decode cX5_takeNumber 43 = .ok (.getfield 65, 3) := by decide +kernel
theorem dX5_takeNumber_46 : decode cX5_takeNumber 46 = .ok (.bipush 10, 2) := by decide +kernel
theorem dX5_takeNumber_48 : decode cX5_takeNumber 48 = .ok (.imul, 1) := by decide +kernel
theorem dX5_takeNumber_49 : decode cX5_takeNumber 49 = .ok (.aload_n 0, 1) := by decide +kernel
theorem dX5_takeNumber_50 : decode cX5_takeNumber 50 = .ok (.getfield 12, 3) := by decide +kernel
theorem dX5_takeNumber_53 : decode cX5_takeNumber 53 = .ok (.aload_n 0, 1) := by decide +kernel
theorem dX5_takeNumber_54 : decode cX5_takeNumber 54 = .ok (.getfield 23, 3) := by decide +kernel
theorem dX5_takeNumber_57 : decode cX5_takeNumber 57 = .ok (.invokevirtual 85, 3) := by decide +kernel
theorem dX5_takeNumber_60 : decode cX5_takeNumber 60 = .ok (.iadd, 1) := by decide +kernel
theorem dX5_takeNumber_61 : decode cX5_takeNumber 61 = .ok (.bipush 48, 2) := by decide +kernel
theorem dX5_takeNumber_63 : decode cX5_takeNumber 63 = .ok (.isub, 1) := by decide +kernel
theorem dX5_takeNumber_64 : decode cX5_takeNumber 64 = .ok (.putfield 65, 3) := by decide +kernel
theorem dX5_takeNumber_67 : decode cX5_takeNumber 67 = .ok (.aload_n 0, 1) := by decide +kernel
theorem dX5_takeNumber_68 : decode cX5_takeNumber 68 = .ok (.dup, 1) := by decide +kernel
theorem dX5_takeNumber_69 : decode cX5_takeNumber 69 = .ok (.getfield 23, 3) := by decide +kernel
theorem dX5_takeNumber_72 : decode cX5_takeNumber 72 = .ok (.iconst 1, 1) := by decide +kernel
theorem dX5_takeNumber_73 : decode cX5_takeNumber 73 = .ok (.iadd, 1) := by decide +kernel
theorem dX5_takeNumber_74 : decode cX5_takeNumber 74 = .ok (.putfield 23, 3) := by decide +kernel
theorem dX5_takeNumber_77 : decode cX5_takeNumber 77 = .ok (.goto (-67), 3) := by decide +kernel
theorem dX5_takeNumber_80 : decode cX5_takeNumber 80 = .ok (.aload_n 0, 1) := by decide +kernel
theorem dX5_takeNumber_81 : decode cX5_takeNumber 81 = .ok (.getfield 23, 3) := by decide +kernel
theorem dX5_takeNumber_84 : decode cX5_takeNumber 84 = .ok (.aload_n 0, 1) := by decide +kernel
theorem dX5_takeNumber_85 : decode cX5_takeNumber 85 = .ok (.getfield 89, 3) := by decide +kernel
theorem dX5_takeNumber_88 : decode cX5_takeNumber 88 = .ok (.isub, 1) := by decide +kernel
theorem dX5_takeNumber_89 : decode cX5_takeNumber 89 = .ok (.iconst 2, 1) := by decide +kernel
theorem dX5_takeNumber_90 : decode cX5_takeNumber 90 = .ok (.if_icmp .le 11, 3) := by decide +kernel
theorem dX5_takeNumber_93 : decode cX5_takeNumber 93 = .ok (.aload_n 0, 1) := by decide +kernel
theorem dX5_takeNumber_94 : decode cX5_takeNumber 94 = .ok (.iconst 1, 1) := by decide +kernel
theorem dX5_takeNumber_95 : decode cX5_takeNumber 95 = .ok (.invokevirtual 43, 3) := by decide +kernel
theorem dX5_takeNumber_98 : decode cX5_takeNumber 98 = .ok (.ifCond .eq 7, 3) := by decide +kernel
theorem dX5_takeNumber_101 : decode cX5_takeNumber 101 = .ok (.iconst 1, 1) := by decide +kernel
theorem dX5_takeNumber_102 : decode cX5_takeNumber 102 = .ok (.goto 4, 3) := by decide +kernel
theorem dX5_takeNumber_105 : decode cX5_takeNumber 105 = .ok (.iconst 0, 1) := by decide +kernel
theorem dX5_takeNumber_106 : decode cX5_takeNumber 106 = .ok (.ireturn, 1) := by decide +kernel
theorem dX5_isLetter_0 : decode cX5_isLetter 0 = .ok (.iload_n 0, 1) := by decide +kernel
theorem dX5_isLetter_1 : decode cX5_isLetter 1 = .ok (.bipush 97, 2) := by decide +kernel
theorem dX5_isLetter_3 : decode cX5_isLetter 3 = .ok (.if_icmp .lt 13, 3) := by decide +kernel
theorem dX5_isLetter_6 : decode cX5_isLetter 6 = .ok (.iload_n 0, 1) := by decide +kernel
theorem dX5_isLetter_7 : decode cX5_isLetter 7 = .ok (.bipush 122, 2) := by decide +kernel
theorem dX5_isLetter_9 : decode cX5_isLetter 9 = .ok (.if_icmp .gt 7, 3) := by decide +kernel
theorem dX5_isLetter_12 : decode cX5_isLetter 12 = .ok (.iconst 1, 1) := by decide +kernel
theorem dX5_isLetter_13 : decode cX5_isLetter 13 = .ok (.goto 4, 3) := by decide +kernel
theorem dX5_isLetter_16 : decode cX5_isLetter 16 = .ok (.iconst 0, 1) := by decide +kernel
theorem dX5_isLetter_17 : decode cX5_isLetter 17 = .ok (.ireturn, 1) := by decide +kernel
theorem dX5_isFigure_0 : decode cX5_isFigure 0 = .ok (.iload_n 0, 1) := by decide +kernel
theorem dX5_isFigure_1 : decode cX5_isFigure 1 = .ok (.bipush 48, 2) := by decide +kernel
theorem dX5_isFigure_3 : decode cX5_isFigure 3 = .ok (.if_icmp .lt 13, 3) := by decide +kernel
theorem dX5_isFigure_6 : decode cX5_isFigure 6 = .ok (.iload_n 0, 1) := by decide +kernel
theorem dX5_isFigure_7 : decode cX5_isFigure 7 = .ok (.bipush 57, 2) := by decide +kernel
theorem dX5_isFigure_9 : decode cX5_isFigure 9 = .ok (.if_icmp .gt 7, 3) := by decide +kernel
theorem dX5_isFigure_12 : decode cX5_isFigure 12 = .ok (.iconst 1, 1) := by decide +kernel
theorem dX5_isFigure_13 : decode cX5_isFigure 13 = .ok (.goto 4, 3) := by decide +kernel
theorem dX5_isFigure_16 : decode cX5_isFigure 16 = .ok (.iconst 0, 1) := by decide +kernel
theorem dX5_isFigure_17 : decode cX5_isFigure 17 = .ok (.ireturn, 1) := by decide +kernel
theorem dX5_wordRead_0 : decode cX5_wordRead 0 = .ok (.aload_n 0, 1) := by decide +kernel
theorem dX5_wordRead_1 : decode cX5_wordRead 1 = .ok (.ldc 104, 2) := by decide +kernel
theorem dX5_wordRead_3 : decode cX5_wordRead 3 = .ok (.invokevirtual 106, 3) := by decide +kernel
theorem dX5_wordRead_6 : decode cX5_wordRead 6 = .ok (.ifCond .eq 5, 3) := by decide +kernel
theorem dX5_wordRead_9 : decode cX5_wordRead 9 = .ok (.iconst 0, 1) := by decide +kernel
theorem dX5_wordRead_10 : decode cX5_wordRead 10 = .ok (.ireturn, 1) := by decide +kernel
theorem dX5_wordRead_11 : decode cX5_wordRead 11 = .ok (.aload_n 0, 1) := by decide +kernel
theorem dX5_wordRead_12 : decode cX5_wordRead 12 = .ok (.ldc 110, 2) := by decide +kernel
theorem dX5_wordRead_14 : decode cX5_wordRead 14 = .ok (.invokevirtual 106, 3) := by decide +kernel
theorem dX5_wordRead_17 : decode cX5_wordRead 17 = .ok (.ifCond .eq 5, 3) := by decide +kernel
theorem dX5_wordRead_20 : decode cX5_wordRead 20 = .ok (.iconst 1, 1) := by decide +kernel
theorem dX5_wordRead_21 : decode cX5_wordRead 21 = .ok (.ireturn, 1) := by decide +kernel
theorem dX5_wordRead_22 : decode cX5_wordRead 22 = .ok (.aload_n 0, 1) := by decide +kernel
theorem dX5_wordRead_23 : decode cX5_wordRead 23 = .ok (.ldc 112, 2) := by decide +kernel
theorem dX5_wordRead_25 : decode cX5_wordRead 25 = .ok (.invokevirtual 106, 3) := by decide +kernel
theorem dX5_wordRead_28 : decode cX5_wordRead 28 = .ok (.ifCond .eq 5, 3) := by decide +kernel
theorem dX5_wordRead_31 : decode cX5_wordRead 31 = .ok (.iconst 2, 1) := by decide +kernel
theorem dX5_wordRead_32 : decode cX5_wordRead 32 = .ok (.ireturn, 1) := by decide +kernel
theorem dX5_wordRead_33 : decode cX5_wordRead 33 = .ok (.aload_n 0, 1) := by decide +kernel
theorem dX5_wordRead_34 : decode cX5_wordRead 34 = .ok (.ldc 114, 2) := by decide +kernel
theorem dX5_wordRead_36 : decode cX5_wordRead 36 = .ok (.invokevirtual 106, 3) := by decide +kernel
theorem dX5_wordRead_39 : decode cX5_wordRead 39 = .ok (.ifCond .eq 5, 3) := by decide +kernel
theorem dX5_wordRead_42 : decode cX5_wordRead 42 = .ok (.iconst 3, 1) := by decide +kernel
theorem dX5_wordRead_43 : decode cX5_wordRead 43 = .ok (.ireturn, 1) := by decide +kernel
theorem dX5_wordRead_44 : decode cX5_wordRead 44 = .ok (.aload_n 0, 1) := by decide +kernel
theorem dX5_wordRead_45 : decode cX5_wordRead 45 = .ok (.ldc 116, 2) := by decide +kernel
theorem dX5_wordRead_47 : decode cX5_wordRead 47 = .ok (.invokevirtual 106, 3) := by decide +kernel
theorem dX5_wordRead_50 : decode cX5_wordRead 50 = .ok (.ifCond .eq 7, 3) := by decide +kernel
theorem dX5_wordRead_53 : decode cX5_wordRead 53 = .ok (.iconst 4, 1) := by decide +kernel
theorem dX5_wordRead_54 : decode cX5_wordRead 54 = .ok (.goto 4, 3) := by decide +kernel
theorem dX5_wordRead_57 : decode cX5_wordRead 57 = .ok (.iconst (-1), 1) := by decide +kernel
theorem dX5_wordRead_58 : decode cX5_wordRead 58 = .ok (.ireturn, 1) := by decide +kernel
theorem dX5_spells_0 : decode cX5_spells 0 = .ok (.aload_n 0, 1) := by decide +kernel
theorem dX5_spells_1 : decode cX5_spells 1 = .ok (.getfield 23, 3) := by decide +kernel
theorem dX5_spells_4 : decode cX5_spells 4 = .ok (.aload_n 0, 1) := by decide +kernel
theorem dX5_spells_5 : decode cX5_spells 5 = .ok (.getfield 89, 3) := by decide +kernel
theorem dX5_spells_8 : decode cX5_spells 8 = .ok (.isub, 1) := by decide +kernel
theorem dX5_spells_9 : decode cX5_spells 9 = .ok (.aload_n 1, 1) := by decide +kernel
theorem dX5_spells_10 : decode cX5_spells 10 = .ok (.invokevirtual 118, 3) := by decide +kernel
theorem dX5_spells_13 : decode cX5_spells 13 = .ok (.if_icmp .eq 5, 3) := by decide +kernel
theorem dX5_spells_16 : decode cX5_spells 16 = .ok (.iconst 0, 1) := by decide +kernel
theorem dX5_spells_17 : decode cX5_spells 17 = .ok (.ireturn, 1) := by decide +kernel
theorem dX5_spells_18 : decode cX5_spells 18 = .ok (.iconst 0, 1) := by decide +kernel
theorem dX5_spells_19 : decode cX5_spells 19 = .ok (.istore_n 2, 1) := by decide +kernel
theorem dX5_spells_20 : decode cX5_spells 20 = .ok (.iload_n 2, 1) := by decide +kernel
theorem dX5_spells_21 : decode cX5_spells 21 = .ok (.aload_n 1, 1) := by decide +kernel
theorem dX5_spells_22 : decode cX5_spells 22 = .ok (.invokevirtual 118, 3) := by decide +kernel
theorem dX5_spells_25 : decode cX5_spells 25 = .ok (.if_icmp .ge 32, 3) := by decide +kernel
theorem dX5_spells_28 : decode cX5_spells 28 = .ok (.aload_n 0, 1) := by decide +kernel
theorem dX5_spells_29 : decode cX5_spells 29 = .ok (.getfield 12, 3) := by decide +kernel
theorem dX5_spells_32 : decode cX5_spells 32 = .ok (.aload_n 0, 1) := by decide +kernel
theorem dX5_spells_33 : decode cX5_spells 33 = .ok (.getfield 89, 3) := by decide +kernel
theorem dX5_spells_36 : decode cX5_spells 36 = .ok (.iload_n 2, 1) := by decide +kernel
theorem dX5_spells_37 : decode cX5_spells 37 = .ok (.iadd, 1) := by decide +kernel
theorem dX5_spells_38 : decode cX5_spells 38 = .ok (.invokevirtual 85, 3) := by decide +kernel
theorem dX5_spells_41 : decode cX5_spells 41 = .ok (.aload_n 1, 1) := by decide +kernel
theorem dX5_spells_42 : decode cX5_spells 42 = .ok (.iload_n 2, 1) := by decide +kernel
theorem dX5_spells_43 : decode cX5_spells 43 = .ok (.invokevirtual 122, 3) := by decide +kernel
theorem dX5_spells_46 : decode cX5_spells 46 = .ok (.if_icmp .eq 5, 3) := by decide +kernel
theorem dX5_spells_49 : decode cX5_spells 49 = .ok (.iconst 0, 1) := by decide +kernel
theorem dX5_spells_50 : decode cX5_spells 50 = .ok (.ireturn, 1) := by decide +kernel
theorem dX5_spells_51 : decode cX5_spells 51 = .ok (.iinc 2 1, 3) := by decide +kernel
theorem dX5_spells_54 : decode cX5_spells 54 = .ok (.goto (-34), 3) := by decide +kernel
theorem dX5_spells_57 : decode cX5_spells 57 = .ok (.iconst 1, 1) := by decide +kernel
theorem dX5_spells_58 : decode cX5_spells 58 = .ok (.ireturn, 1) := by decide +kernel
theorem dX5_refuse_0 : decode cX5_refuse 0 = .ok (.aload_n 0, 1) := by decide +kernel
theorem dX5_refuse_1 : decode cX5_refuse 1 = .ok (.iload_n 1, 1) := by decide +kernel
theorem dX5_refuse_2 : decode cX5_refuse 2 = .ok (.putfield 27, 3) := by decide +kernel
theorem dX5_refuse_5 : decode cX5_refuse 5 = .ok (.aload_n 0, 1) := by decide +kernel
theorem dX5_refuse_6 : decode cX5_refuse 6 = .ok (.aload_n 0, 1) := by decide +kernel
theorem dX5_refuse_7 : decode cX5_refuse 7 = .ok (.getfield 89, 3) := by decide +kernel
theorem dX5_refuse_10 : decode cX5_refuse 10 = .ok (.putfield 30, 3) := by decide +kernel
theorem dX5_refuse_13 : decode cX5_refuse 13 = .ok (.iconst 0, 1) := by decide +kernel
theorem dX5_refuse_14 : decode cX5_refuse 14 = .ok (.ireturn, 1) := by decide +kernel
theorem dJ6_bitCount_0f7a4_0 : decode cJ6_bitCount_0f7a4 0 = .ok (.iload_n 0, 1) := by decide +kernel
theorem dJ6_bitCount_0f7a4_1 : decode cJ6_bitCount_0f7a4 1 = .ok (.iload_n 0, 1) := by decide +kernel
theorem dJ6_bitCount_0f7a4_2 : decode cJ6_bitCount_0f7a4 2 = .ok (.iconst 1, 1) := by decide +kernel
theorem dJ6_bitCount_0f7a4_3 : decode cJ6_bitCount_0f7a4 3 = .ok (.iushr, 1) := by decide +kernel
theorem dJ6_bitCount_0f7a4_4 : decode cJ6_bitCount_0f7a4 4 = .ok (.ldc_w 265, 3) := by decide +kernel
theorem dJ6_bitCount_0f7a4_7 : decode cJ6_bitCount_0f7a4 7 = .ok (.iand, 1) := by decide +kernel
theorem dJ6_bitCount_0f7a4_8 : decode cJ6_bitCount_0f7a4 8 = .ok (.isub, 1) := by decide +kernel
theorem dJ6_bitCount_0f7a4_9 : decode cJ6_bitCount_0f7a4 9 = .ok (.istore_n 0, 1) := by decide +kernel
theorem dJ6_bitCount_0f7a4_10 : decode cJ6_bitCount_0f7a4 10 = .ok (.iload_n 0, 1) := by decide +kernel
theorem dJ6_bitCount_0f7a4_11 : decode cJ6_bitCount_0f7a4 11 = .ok (.ldc_w 266, 3) := by decide +kernel
theorem dJ6_bitCount_0f7a4_14 : decode cJ6_bitCount_0f7a4 14 = .ok (.iand, 1) := by decide +kernel
theorem dJ6_bitCount_0f7a4_15 : decode cJ6_bitCount_0f7a4 15 = .ok (.iload_n 0, 1) := by decide +kernel
theorem dJ6_bitCount_0f7a4_16 : decode cJ6_bitCount_0f7a4 16 = .ok (.iconst 2, 1) := by decide +kernel
theorem dJ6_bitCount_0f7a4_17 : decode cJ6_bitCount_0f7a4 17 = .ok (.iushr, 1) := by decide +kernel
theorem dJ6_bitCount_0f7a4_18 : decode cJ6_bitCount_0f7a4 18 = .ok (.ldc_w 266, 3) := by decide +kernel
theorem dJ6_bitCount_0f7a4_21 : decode cJ6_bitCount_0f7a4 21 = .ok (.iand, 1) := by decide +kernel
theorem dJ6_bitCount_0f7a4_22 : decode cJ6_bitCount_0f7a4 22 = .ok (.iadd, 1) := by decide +kernel
theorem dJ6_bitCount_0f7a4_23 : decode cJ6_bitCount_0f7a4 23 = .ok (.istore_n 0, 1) := by decide +kernel
theorem dJ6_bitCount_0f7a4_24 : decode cJ6_bitCount_0f7a4 24 = .ok (.iload_n 0, 1) := by decide +kernel
theorem dJ6_bitCount_0f7a4_25 : decode cJ6_bitCount_0f7a4 25 = .ok (.iload_n 0, 1) := by decide +kernel
theorem dJ6_bitCount_0f7a4_26 : decode cJ6_bitCount_0f7a4 26 = .ok (.iconst 4, 1) := by decide +kernel
theorem dJ6_bitCount_0f7a4_27 : decode cJ6_bitCount_0f7a4 27 = .ok (.iushr, 1) := by decide +kernel
theorem dJ6_bitCount_0f7a4_28 : decode cJ6_bitCount_0f7a4 28 = .ok (.iadd, 1) := by decide +kernel
theorem dJ6_bitCount_0f7a4_29 : decode cJ6_bitCount_0f7a4 29 = .ok (.ldc_w 267, 3) := by decide +kernel
theorem dJ6_bitCount_0f7a4_32 : decode cJ6_bitCount_0f7a4 32 = .ok (.iand, 1) := by decide +kernel
theorem dJ6_bitCount_0f7a4_33 : decode cJ6_bitCount_0f7a4 33 = .ok (.istore_n 0, 1) := by decide +kernel
theorem dJ6_bitCount_0f7a4_34 : decode cJ6_bitCount_0f7a4 34 = .ok (.iload_n 0, 1) := by decide +kernel
theorem dJ6_bitCount_0f7a4_35 : decode cJ6_bitCount_0f7a4 35 = .ok (.iload_n 0, 1) := by decide +kernel
theorem dJ6_bitCount_0f7a4_36 : decode cJ6_bitCount_0f7a4 36 = .ok (.bipush 8, 2) := by decide +kernel
theorem dJ6_bitCount_0f7a4_38 : decode cJ6_bitCount_0f7a4 38 = .ok (.iushr, 1) := by decide +kernel
theorem dJ6_bitCount_0f7a4_39 : decode cJ6_bitCount_0f7a4 39 = .ok (.iadd, 1) := by decide +kernel
theorem dJ6_bitCount_0f7a4_40 : decode cJ6_bitCount_0f7a4 40 = .ok (.istore_n 0, 1) := by decide +kernel
theorem dJ6_bitCount_0f7a4_41 : decode cJ6_bitCount_0f7a4 41 = .ok (.iload_n 0, 1) := by decide +kernel
theorem dJ6_bitCount_0f7a4_42 : decode cJ6_bitCount_0f7a4 42 = .ok (.iload_n 0, 1) := by decide +kernel
theorem dJ6_bitCount_0f7a4_43 : decode cJ6_bitCount_0f7a4 43 = .ok (.bipush 16, 2) := by decide +kernel
theorem dJ6_bitCount_0f7a4_45 : decode cJ6_bitCount_0f7a4 45 = .ok (.iushr, 1) := by decide +kernel
theorem dJ6_bitCount_0f7a4_46 : decode cJ6_bitCount_0f7a4 46 = .ok (.iadd, 1) := by decide +kernel
theorem dJ6_bitCount_0f7a4_47 : decode cJ6_bitCount_0f7a4 47 = .ok (.istore_n 0, 1) := by decide +kernel
theorem dJ6_bitCount_0f7a4_48 : decode cJ6_bitCount_0f7a4 48 = .ok (.iload_n 0, 1) := by decide +kernel
theorem dJ6_bitCount_0f7a4_49 : decode cJ6_bitCount_0f7a4 49 = .ok (.bipush 63, 2) := by decide +kernel
theorem dJ6_bitCount_0f7a4_51 : decode cJ6_bitCount_0f7a4 51 = .ok (.iand, 1) := by decide +kernel
theorem dJ6_bitCount_0f7a4_52 : decode cJ6_bitCount_0f7a4 52 = .ok (.ireturn, 1) := by decide +kernel
theorem dJ9_max_7cf53_0 : decode cJ9_max_7cf53 0 = .ok (.iload_n 0, 1) := by decide +kernel
theorem dJ9_max_7cf53_1 : decode cJ9_max_7cf53 1 = .ok (.iload_n 1, 1) := by decide +kernel
theorem dJ9_max_7cf53_2 : decode cJ9_max_7cf53 2 = .ok (.if_icmp .lt 7, 3) := by decide +kernel
theorem dJ9_max_7cf53_5 : decode cJ9_max_7cf53 5 = .ok (.iload_n 0, 1) := by decide +kernel
theorem dJ9_max_7cf53_6 : decode cJ9_max_7cf53 6 = .ok (.goto 4, 3) := by decide +kernel
theorem dJ9_max_7cf53_9 : decode cJ9_max_7cf53 9 = .ok (.iload_n 1, 1) := by decide +kernel
theorem dJ9_max_7cf53_10 : decode cJ9_max_7cf53 10 = .ok (.ireturn, 1) := by decide +kernel
theorem dJ9_max_f86c9_0 : decode cJ9_max_f86c9 0 = .ok (.lload_n 0, 1) := by decide +kernel
theorem dJ9_max_f86c9_1 : decode cJ9_max_f86c9 1 = .ok (.lload_n 2, 1) := by decide +kernel
theorem dJ9_max_f86c9_2 : decode cJ9_max_f86c9 2 = .ok (.lcmp, 1) := by decide +kernel
theorem dJ9_max_f86c9_3 : decode cJ9_max_f86c9 3 = .ok (.ifCond .lt 7, 3) := by decide +kernel
theorem dJ9_max_f86c9_6 : decode cJ9_max_f86c9 6 = .ok (.lload_n 0, 1) := by decide +kernel
theorem dJ9_max_f86c9_7 : decode cJ9_max_f86c9 7 = .ok (.goto 4, 3) := by decide +kernel
theorem dJ9_max_f86c9_10 : decode cJ9_max_f86c9 10 = .ok (.lload_n 2, 1) := by decide +kernel
theorem dJ9_max_f86c9_11 : decode cJ9_max_f86c9 11 = .ok (.lreturn, 1) := by decide +kernel
theorem dJ9_min_7cf53_0 : decode cJ9_min_7cf53 0 = .ok (.iload_n 0, 1) := by decide +kernel
theorem dJ9_min_7cf53_1 : decode cJ9_min_7cf53 1 = .ok (.iload_n 1, 1) := by decide +kernel
theorem dJ9_min_7cf53_2 : decode cJ9_min_7cf53 2 = .ok (.if_icmp .gt 7, 3) := by decide +kernel
theorem dJ9_min_7cf53_5 : decode cJ9_min_7cf53 5 = .ok (.iload_n 0, 1) := by decide +kernel
theorem dJ9_min_7cf53_6 : decode cJ9_min_7cf53 6 = .ok (.goto 4, 3) := by decide +kernel
theorem dJ9_min_7cf53_9 : decode cJ9_min_7cf53 9 = .ok (.iload_n 1, 1) := by decide +kernel
theorem dJ9_min_7cf53_10 : decode cJ9_min_7cf53 10 = .ok (.ireturn, 1) := by decide +kernel
theorem dJ0_length_8abf5_0 : decode cJ0_length_8abf5 0 = .ok (.aload_n 0, 1) := by decide +kernel
theorem dJ0_length_8abf5_1 : decode cJ0_length_8abf5 1 = .ok (.getfield 9, 3) := by decide +kernel
theorem dJ0_length_8abf5_4 : decode cJ0_length_8abf5 4 = .ok (.arraylength, 1) := by decide +kernel
theorem dJ0_length_8abf5_5 : decode cJ0_length_8abf5 5 = .ok (.aload_n 0, 1) := by decide +kernel
theorem dJ0_length_8abf5_6 : decode cJ0_length_8abf5 6 = .ok (.invokevirtual 335, 3) := by decide +kernel
theorem dJ0_length_8abf5_9 : decode cJ0_length_8abf5 9 = .ok (.ishr, 1) := by decide +kernel
theorem dJ0_length_8abf5_10 : decode cJ0_length_8abf5 10 = .ok (.ireturn, 1) := by decide +kernel
theorem dJ0_charAt_5068e_0 : decode cJ0_charAt_5068e 0 = .ok (.aload_n 0, 1) := by decide +kernel
theorem dJ0_charAt_5068e_1 : decode cJ0_charAt_5068e 1 = .ok (.invokevirtual 492, 3) := by decide +kernel
theorem dJ0_charAt_5068e_4 : decode cJ0_charAt_5068e 4 = .ok (.ifCond .eq 12, 3) := by decide +kernel
theorem dJ0_charAt_5068e_7 : decode cJ0_charAt_5068e 7 = .ok (.aload_n 0, 1) := by decide +kernel
theorem dJ0_charAt_5068e_8 : decode cJ0_charAt_5068e 8 = .ok (.getfield 9, 3) := by decide +kernel
theorem dJ0_charAt_5068e_11 : decode cJ0_charAt_5068e 11 = .ok (.iload_n 1, 1) := by decide +kernel
theorem dJ0_charAt_5068e_12 : decode cJ0_charAt_5068e 12 = .ok (.invokestatic 495, 3) := by decide +kernel
theorem dJ0_charAt_5068e_15 : decode cJ0_charAt_5068e 15 = .ok (.ireturn, 1) := by decide +kernel
theorem dJ0_charAt_5068e_16 : decode cJ0_charAt_5068e 16 = .ok (.aload_n 0, 1) := by decide +kernel
theorem dJ0_charAt_5068e_17 : decode cJ0_charAt_5068e 17 = .ok (.getfield 9, 3) := by decide +kernel
theorem dJ0_charAt_5068e_20 : decode cJ0_charAt_5068e 20 = .ok (.iload_n 1, 1) := by decide +kernel
theorem dJ0_charAt_5068e_21 : decode cJ0_charAt_5068e 21 = .ok (.invokestatic 498, 3) := by decide +kernel
theorem dJ0_charAt_5068e_24 : decode cJ0_charAt_5068e 24 = .ok (.ireturn, 1) := by decide +kernel
theorem dJ0_coder_7d493_0 : decode cJ0_coder_7d493 0 = .ok (.getstatic 38, 3) := by decide +kernel
theorem dJ0_coder_7d493_3 : decode cJ0_coder_7d493 3 = .ok (.ifCond .eq 10, 3) := by decide +kernel
theorem dJ0_coder_7d493_6 : decode cJ0_coder_7d493 6 = .ok (.aload_n 0, 1) := by decide +kernel
theorem dJ0_coder_7d493_7 : decode cJ0_coder_7d493 7 = .ok (.getfield 15, 3) := by decide +kernel
theorem dJ0_coder_7d493_10 : decode cJ0_coder_7d493 10 = .ok (.goto 4, 3) := by decide +kernel
theorem dJ0_coder_7d493_13 : decode cJ0_coder_7d493 13 = .ok (.iconst 1, 1) := by decide +kernel
theorem dJ0_coder_7d493_14 : decode cJ0_coder_7d493 14 = .ok (.ireturn, 1) := by decide +kernel
theorem dJ0_isLatin1_aae02_0 : decode cJ0_isLatin1_aae02 0 = .ok (.getstatic 38, 3) := by decide +kernel
theorem dJ0_isLatin1_aae02_3 : decode cJ0_isLatin1_aae02 3 = .ok (.ifCond .eq 14, 3) := by decide +kernel
theorem dJ0_isLatin1_aae02_6 : decode cJ0_isLatin1_aae02 6 = .ok (.aload_n 0, 1) := by decide +kernel
theorem dJ0_isLatin1_aae02_7 : decode cJ0_isLatin1_aae02 7 = .ok (.getfield 15, 3) := by decide +kernel
theorem dJ0_isLatin1_aae02_10 : decode cJ0_isLatin1_aae02 10 = .ok (.ifCond .ne 7, 3) := by decide +kernel
theorem dJ0_isLatin1_aae02_13 : decode cJ0_isLatin1_aae02 13 = .ok (.iconst 1, 1) := by decide +kernel
theorem dJ0_isLatin1_aae02_14 : decode cJ0_isLatin1_aae02 14 = .ok (.goto 4, 3) := by decide +kernel
theorem dJ0_isLatin1_aae02_17 : decode cJ0_isLatin1_aae02 17 = .ok (.iconst 0, 1) := by decide +kernel
theorem dJ0_isLatin1_aae02_18 : decode cJ0_isLatin1_aae02 18 = .ok (.ireturn, 1) := by decide +kernel
theorem dJ0_checkIndex_df160_0 : decode cJ0_checkIndex_df160 0 = .ok (.iload_n 0, 1) := by decide +kernel
theorem dJ0_checkIndex_df160_1 : decode cJ0_checkIndex_df160 1 = .ok (.iload_n 1, 1) := by decide +kernel
theorem dJ0_checkIndex_df160_2 : decode cJ0_checkIndex_df160 2 = .ok (.getstatic 1053, 3) := by decide +kernel
theorem dJ0_checkIndex_df160_5 : decode cJ0_checkIndex_df160 5 = .ok (.invokestatic 1059, 3) := by decide +kernel
theorem dJ0_checkIndex_df160_8 : decode cJ0_checkIndex_df160 8 = .ok (.pop, 1) := by decide +kernel
theorem dJ0_checkIndex_df160_9 : decode cJ0_checkIndex_df160 9 = .ok (.return_, 1) := by decide +kernel
theorem dJ1_charAt_3b067_0 : decode cJ1_charAt_3b067 0 = .ok (.iload_n 1, 1) := by decide +kernel
theorem dJ1_charAt_3b067_1 : decode cJ1_charAt_3b067 1 = .ok (.aload_n 0, 1) := by decide +kernel
theorem dJ1_charAt_3b067_2 : decode cJ1_charAt_3b067 2 = .ok (.arraylength, 1) := by decide +kernel
theorem dJ1_charAt_3b067_3 : decode cJ1_charAt_3b067 3 = .ok (.invokestatic 9, 3) := by decide +kernel
theorem dJ1_charAt_3b067_6 : decode cJ1_charAt_3b067 6 = .ok (.aload_n 0, 1) := by decide +kernel
theorem dJ1_charAt_3b067_7 : decode cJ1_charAt_3b067 7 = .ok (.iload_n 1, 1) := by decide +kernel
theorem dJ1_charAt_3b067_8 : decode cJ1_charAt_3b067 8 = .ok (.baload, 1) := by decide +kernel
theorem dJ1_charAt_3b067_9 : decode cJ1_charAt_3b067 9 = .ok (.sipush 255, 3) := by decide +kernel
theorem dJ1_charAt_3b067_12 : decode cJ1_charAt_3b067 12 = .ok (.iand, 1) := by decide +kernel
theorem dJ1_charAt_3b067_13 : decode cJ1_charAt_3b067 13 = .ok (.i2c, 1) := by decide +kernel
theorem dJ1_charAt_3b067_14 : decode cJ1_charAt_3b067 14 = .ok (.ireturn, 1) := by decide +kernel
theorem dJ2_getChar_3b067_0 : decode cJ2_getChar_3b067 0 = .ok (.getstatic 44, 3) := by decide +kernel
theorem dJ2_getChar_3b067_3 : decode cJ2_getChar_3b067 3 = .ok (.ifCond .ne 25, 3) := by decide +kernel
theorem dJ2_getChar_3b067_6 : decode cJ2_getChar_3b067 6 = .ok (.iload_n 1, 1) := by decide +kernel
theorem dJ2_getChar_3b067_7 : decode cJ2_getChar_3b067 7 = .ok (.ifCond .lt 11, 3) := by decide +kernel
theorem dJ2_getChar_3b067_10 : decode cJ2_getChar_3b067 10 = .ok (.iload_n 1, 1) := by decide +kernel
theorem dJ2_getChar_3b067_11 : decode cJ2_getChar_3b067 11 = .ok (.aload_n 0, 1) := by decide +kernel
theorem dJ2_getChar_3b067_12 : decode cJ2_getChar_3b067 12 = .ok (.invokestatic 48, 3) := by decide +kernel
theorem dJ2_getChar_3b067_15 : decode cJ2_getChar_3b067 15 = .ok (.if_icmp .lt 13, 3) := by decide +kernel
theorem dJ2_getChar_3b067_18 : decode cJ2_getChar_3b067 18 = .ok (.new 52, 3) := by decide +kernel
theorem dJ2_getChar_3b067_21 : decode cJ2_getChar_3b067 21 = .ok (.dup, 1) := by decide +kernel
theorem dJ2_getChar_3b067_22 : decode cJ2_getChar_3b067 22 = .ok (.ldc 54, 2) := by decide +kernel
theorem dJ2_getChar_3b067_24 : decode cJ2_getChar_3b067 24 = .ok (.invokespecial 56, 3) := by decide +kernel
theorem dJ2_getChar_3b067_27 : decode cJ2_getChar_3b067 27 = .ok (.athrow, 1) := by decide +kernel
theorem dJ2_getChar_3b067_28 : decode cJ2_getChar_3b067 28 = .ok (.iload_n 1, 1) := by decide +kernel
theorem dJ2_getChar_3b067_29 : decode cJ2_getChar_3b067 29 = .ok (.iconst 1, 1) := by decide +kernel
theorem dJ2_getChar_3b067_30 : decode cJ2_getChar_3b067 30 = .ok (.ishl, 1) := by decide +kernel
theorem dJ2_getChar_3b067_31 : decode cJ2_getChar_3b067 31 = .ok (.istore_n 1, 1) := by decide +kernel
theorem dJ2_getChar_3b067_32 : decode cJ2_getChar_3b067 32 = .ok (.aload_n 0, 1) := by decide +kernel
theorem dJ2_getChar_3b067_33 : decode cJ2_getChar_3b067 33 = .ok (.iload_n 1, 1) := by decide +kernel
theorem dJ2_getChar_3b067_34 : decode cJ2_getChar_3b067 34 = .ok (.iinc 1 1, 3) := by decide +kernel
theorem dJ2_getChar_3b067_37 : decode cJ2_getChar_3b067 37 = .ok (.baload, 1) := by decide +kernel
theorem dJ2_getChar_3b067_38 : decode cJ2_getChar_3b067 38 = .ok (.sipush 255, 3) := by decide +kernel
theorem dJ2_getChar_3b067_41 : decode cJ2_getChar_3b067 41 = .ok (.iand, 1) := by decide +kernel
theorem dJ2_getChar_3b067_42 : decode cJ2_getChar_3b067 42 = .ok (.getstatic 59, 3) := by decide +kernel
theorem dJ2_getChar_3b067_45 : decode cJ2_getChar_3b067 45 = .ok (.ishl, 1) := by decide +kernel
theorem dJ2_getChar_3b067_46 : decode cJ2_getChar_3b067 46 = .ok (.aload_n 0, 1) := by decide +kernel
theorem dJ2_getChar_3b067_47 : decode cJ2_getChar_3b067 47 = .ok (.iload_n 1, 1) := by decide +kernel
theorem dJ2_getChar_3b067_48 : decode cJ2_getChar_3b067 48 = .ok (.baload, 1) := by decide +kernel
theorem dJ2_getChar_3b067_49 : decode cJ2_getChar_3b067 49 = .ok (.sipush 255, 3) := by decide +kernel
theorem dJ2_getChar_3b067_52 : decode cJ2_getChar_3b067 52 = .ok (.iand, 1) := by decide +kernel
theorem dJ2_getChar_3b067_53 : decode cJ2_getChar_3b067 53 = .ok (.getstatic 63, 3) := by decide +kernel
theorem dJ2_getChar_3b067_56 : decode cJ2_getChar_3b067 56 = .ok (.ishl, 1) := by decide +kernel
theorem dJ2_getChar_3b067_57 : decode cJ2_getChar_3b067 57 = .ok (.ior, 1) := by decide +kernel
theorem dJ2_getChar_3b067_58 : decode cJ2_getChar_3b067 58 = .ok (.i2c, 1) := by decide +kernel
theorem dJ2_getChar_3b067_59 : decode cJ2_getChar_3b067 59 = .ok (.ireturn, 1) := by decide +kernel
theorem dJ2_length_9d52b_0 : decode cJ2_length_9d52b 0 = .ok (.aload_n 0, 1) := by decide +kernel
theorem dJ2_length_9d52b_1 : decode cJ2_length_9d52b 1 = .ok (.arraylength, 1) := by decide +kernel
theorem dJ2_length_9d52b_2 : decode cJ2_length_9d52b 2 = .ok (.iconst 1, 1) := by decide +kernel
theorem dJ2_length_9d52b_3 : decode cJ2_length_9d52b 3 = .ok (.ishr, 1) := by decide +kernel
theorem dJ2_length_9d52b_4 : decode cJ2_length_9d52b 4 = .ok (.ireturn, 1) := by decide +kernel
theorem dJ2_charAt_3b067_0 : decode cJ2_charAt_3b067 0 = .ok (.iload_n 1, 1) := by decide +kernel
theorem dJ2_charAt_3b067_1 : decode cJ2_charAt_3b067 1 = .ok (.aload_n 0, 1) := by decide +kernel
theorem dJ2_charAt_3b067_2 : decode cJ2_charAt_3b067 2 = .ok (.invokestatic 67, 3) := by decide +kernel
theorem dJ2_charAt_3b067_5 : decode cJ2_charAt_3b067 5 = .ok (.aload_n 0, 1) := by decide +kernel
theorem dJ2_charAt_3b067_6 : decode cJ2_charAt_3b067 6 = .ok (.iload_n 1, 1) := by decide +kernel
theorem dJ2_charAt_3b067_7 : decode cJ2_charAt_3b067 7 = .ok (.invokestatic 71, 3) := by decide +kernel
theorem dJ2_charAt_3b067_10 : decode cJ2_charAt_3b067 10 = .ok (.ireturn, 1) := by decide +kernel
theorem dJ2_checkIndex_2214a_0 : decode cJ2_checkIndex_2214a 0 = .ok (.iload_n 0, 1) := by decide +kernel
theorem dJ2_checkIndex_2214a_1 : decode cJ2_checkIndex_2214a 1 = .ok (.aload_n 1, 1) := by decide +kernel
theorem dJ2_checkIndex_2214a_2 : decode cJ2_checkIndex_2214a 2 = .ok (.invokestatic 48, 3) := by decide +kernel
theorem dJ2_checkIndex_2214a_5 : decode cJ2_checkIndex_2214a 5 = .ok (.invokestatic 414, 3) := by decide +kernel
theorem dJ2_checkIndex_2214a_8 : decode cJ2_checkIndex_2214a 8 = .ok (.return_, 1) := by decide +kernel
theorem dJ3_checkIndex_8e157_0 : decode cJ3_checkIndex_8e157 0 = .ok (.iload_n 0, 1) := by decide +kernel
theorem dJ3_checkIndex_8e157_1 : decode cJ3_checkIndex_8e157 1 = .ok (.ifCond .lt 8, 3) := by decide +kernel
theorem dJ3_checkIndex_8e157_4 : decode cJ3_checkIndex_8e157 4 = .ok (.iload_n 0, 1) := by decide +kernel
theorem dJ3_checkIndex_8e157_5 : decode cJ3_checkIndex_8e157 5 = .ok (.iload_n 1, 1) := by decide +kernel
theorem dJ3_checkIndex_8e157_6 : decode cJ3_checkIndex_8e157 6 = .ok (.if_icmp .lt 10, 3) := by decide +kernel
theorem dJ3_checkIndex_8e157_9 : decode cJ3_checkIndex_8e157 9 = .ok (.aload_n 2, 1) := by decide +kernel
theorem dJ3_checkIndex_8e157_10 : decode cJ3_checkIndex_8e157 10 = .ok (.iload_n 0, 1) := by decide +kernel
theorem dJ3_checkIndex_8e157_11 : decode cJ3_checkIndex_8e157 11 = .ok (.iload_n 1, 1) := by decide +kernel
theorem dJ3_checkIndex_8e157_12 : decode cJ3_checkIndex_8e157 12 = .ok (.invokestatic 95, 3) := by decide +kernel
theorem dJ3_checkIndex_8e157_15 : decode cJ3_checkIndex_8e157 15 = .ok (.athrow, 1) := by decide +kernel
theorem dJ3_checkIndex_8e157_16 : decode cJ3_checkIndex_8e157 16 = .ok (.iload_n 0, 1) := by decide +kernel
theorem dJ3_checkIndex_8e157_17 : decode cJ3_checkIndex_8e157 17 = .ok (.ireturn, 1) := by decide +kernel
