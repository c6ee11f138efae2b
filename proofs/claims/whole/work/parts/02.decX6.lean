theorem dX6_init_0 : decode cX6_init 0 = .ok (.aload_n 0, 1) := by decide +kernel
theorem dX6_init_1 : decode cX6_init 1 = .ok (.invokespecial 3, 3) := by decide +kernel
theorem dX6_init_4 : decode cX6_init 4 = .ok (.aload_n 0, 1) := by decide +kernel
theorem dX6_init_5 : decode cX6_init 5 = .ok (.new 9, 3) := by decide +kernel
theorem dX6_init_8 : decode cX6_init 8 = .ok (.dup, 1) := by decide +kernel
theorem dX6_init_9 : decode cX6_init 9 = .ok (.invokespecial 11, 3) := by decide +kernel
theorem dX6_init_12 : decode cX6_init 12 = .ok (.putfield 12, 3) := by decide +kernel
theorem dX6_init_15 : decode cX6_init 15 = .ok (.aload_n 0, 1) := by decide +kernel
theorem dX6_init_16 : decode cX6_init 16 = .ok (.aload_n 0, 1) := by decide +kernel
theorem dX6_init_17 : decode cX6_init 17 = .ok (.getfield 12, 3) := by decide +kernel
theorem dX6_init_20 : decode cX6_init 20 = .ok (.getfield 16, 3) := by decide +kernel
theorem dX6_init_23 : decode cX6_init 23 = .ok (.putfield 20, 3) := by decide +kernel
theorem dX6_init_26 : decode cX6_init 26 = .ok (.aload_n 0, 1) := by decide +kernel
theorem dX6_init_27 : decode cX6_init 27 = .ok (.new 21, 3) := by decide +kernel
theorem dX6_init_30 : decode cX6_init 30 = .ok (.dup, 1) := by decide +kernel
theorem dX6_init_31 : decode cX6_init 31 = .ok (.invokespecial 23, 3) := by decide +kernel
theorem dX6_init_34 : decode cX6_init 34 = .ok (.putfield 24, 3) := by decide +kernel
theorem dX6_init_37 : decode cX6_init 37 = .ok (.aload_n 0, 1) := by decide +kernel
theorem dX6_init_38 : decode cX6_init 38 = .ok (.new 21, 3) := by decide +kernel
theorem dX6_init_41 : decode cX6_init 41 = .ok (.dup, 1) := by decide +kernel
theorem dX6_init_42 : decode cX6_init 42 = .ok (.invokespecial 23, 3) := by decide +kernel
theorem dX6_init_45 : decode cX6_init 45 = .ok (.putfield 28, 3) := by decide +kernel
theorem dX6_init_48 : decode cX6_init 48 = .ok (.aload_n 0, 1) := by decide +kernel
theorem dX6_init_49 : decode cX6_init 49 = .ok (.iconst 2, 1) := by decide +kernel
theorem dX6_init_50 : decode cX6_init 50 = .ok (.anewarray 21, 3) := by decide +kernel
theorem dX6_init_53 : decode cX6_init 53 = .ok (.putfield 31, 3) := by decide +kernel
theorem dX6_init_56 : decode cX6_init 56 = .ok (.aload_n 0, 1) := by decide +kernel
theorem dX6_init_57 : decode cX6_init 57 = .ok (.iconst 2, 1) := by decide +kernel
theorem dX6_init_58 : decode cX6_init 58 = .ok (.newarray .boolean, 2) := by decide +kernel
theorem dX6_init_60 : decode cX6_init 60 = .ok (.putfield 35, 3) := by decide +kernel
theorem dX6_init_63 : decode cX6_init 63 = .ok (.aload_n 0, 1) := by decide +kernel
theorem dX6_init_64 : decode cX6_init 64 = .ok (.iconst 4, 1) := by decide +kernel
theorem dX6_init_65 : decode cX6_init 65 = .ok (.anewarray 39, 3) := by decide +kernel
theorem dX6_init_68 : decode cX6_init 68 = .ok (.putfield 41, 3) := by decide +kernel
theorem dX6_init_71 : decode cX6_init 71 = .ok (.aload_n 0, 1) := by decide +kernel
theorem dX6_init_72 : decode cX6_init 72 = .ok (.new 45, 3) := by decide +kernel
theorem dX6_init_75 : decode cX6_init 75 = .ok (.dup, 1) := by decide +kernel
theorem dX6_init_76 : decode cX6_init 76 = .ok (.invokespecial 47, 3) := by decide +kernel
theorem dX6_init_79 : decode cX6_init 79 = .ok (.putfield 48, 3) := by decide +kernel
theorem dX6_init_82 : decode cX6_init 82 = .ok (.aload_n 0, 1) := by decide +kernel
theorem dX6_init_83 : decode cX6_init 83 = .ok (.new 52, 3) := by decide +kernel
theorem dX6_init_86 : decode cX6_init 86 = .ok (.dup, 1) := by decide +kernel
theorem dX6_init_87 : decode cX6_init 87 = .ok (.invokespecial 54, 3) := by decide +kernel
theorem dX6_init_90 : decode cX6_init 90 = .ok (.putfield 55, 3) := by decide +kernel
theorem dX6_init_93 : decode cX6_init 93 = .ok (.aload_n 0, 1) := by decide +kernel
theorem dX6_init_94 : decode cX6_init 94 = .ok (.iconst 5, 1) := by decide +kernel
theorem dX6_init_95 : decode cX6_init 95 = .ok (.newarray .int, 2) := by decide +kernel
theorem dX6_init_97 : decode cX6_init 97 = .ok (.putfield 59, 3) := by decide +kernel
theorem dX6_init_100 : decode cX6_init 100 = .ok (.aload_n 0, 1) := by decide +kernel
theorem dX6_init_101 : decode cX6_init 101 = .ok (.sipush 441, 3) := by decide +kernel
theorem dX6_init_104 : decode cX6_init 104 = .ok (.newarray .int, 2) := by decide +kernel
theorem dX6_init_106 : decode cX6_init 106 = .ok (.putfield 63, 3) := by decide +kernel
theorem dX6_init_109 : decode cX6_init 109 = .ok (.aload_n 0, 1) := by decide +kernel
theorem dX6_init_110 : decode cX6_init 110 = .ok (.bipush 6, 2) := by decide +kernel
theorem dX6_init_112 : decode cX6_init 112 = .ok (.newarray .int, 2) := by decide +kernel
theorem dX6_init_114 : decode cX6_init 114 = .ok (.putfield 66, 3) := by decide +kernel
theorem dX6_init_117 : decode cX6_init 117 = .ok (.iconst 0, 1) := by decide +kernel
theorem dX6_init_118 : decode cX6_init 118 = .ok (.istore_n 1, 1) := by decide +kernel
theorem dX6_init_119 : decode cX6_init 119 = .ok (.iload_n 1, 1) := by decide +kernel
theorem dX6_init_120 : decode cX6_init 120 = .ok (.iconst 2, 1) := by decide +kernel
theorem dX6_init_121 : decode cX6_init 121 = .ok (.if_icmp .ge 22, 3) := by decide +kernel
theorem dX6_init_124 : decode cX6_init 124 = .ok (.aload_n 0, 1) := by decide +kernel
theorem dX6_init_125 : decode cX6_init 125 = .ok (.getfield 31, 3) := by decide +kernel
theorem dX6_init_128 : decode cX6_init 128 = .ok (.iload_n 1, 1) := by decide +kernel
theorem dX6_init_129 : decode cX6_init 129 = .ok (.new 21, 3) := by decide +kernel
theorem dX6_init_132 : decode cX6_init 132 = .ok (.dup, 1) := by decide +kernel
theorem dX6_init_133 : decode cX6_init 133 = .ok (.invokespecial 23, 3) := by decide +kernel
theorem dX6_init_136 : decode cX6_init 136 = .ok (.aastore, 1) := by decide +kernel
theorem dX6_init_137 : decode cX6_init 137 = .ok (.iinc 1 1, 3) := by decide +kernel
theorem dX6_init_140 : decode cX6_init 140 = .ok (.goto (-21), 3) := by decide +kernel
theorem dX6_init_143 : decode cX6_init 143 = .ok (.iconst 0, 1) := by decide +kernel
theorem dX6_init_144 : decode cX6_init 144 = .ok (.istore_n 1, 1) := by decide +kernel
theorem dX6_init_145 : decode cX6_init 145 = .ok (.iload_n 1, 1) := by decide +kernel
theorem dX6_init_146 : decode cX6_init 146 = .ok (.iconst 4, 1) := by decide +kernel
theorem dX6_init_147 : decode cX6_init 147 = .ok (.if_icmp .ge 22, 3) := by decide +kernel
theorem dX6_init_150 : decode cX6_init 150 = .ok (.aload_n 0, 1) := by decide +kernel
theorem dX6_init_151 : decode cX6_init 151 = .ok (.getfield 41, 3) := by decide +kernel
theorem dX6_init_154 : decode cX6_init 154 = .ok (.iload_n 1, 1) := by decide +kernel
theorem dX6_init_155 : decode cX6_init 155 = .ok (.new 39, 3) := by decide +kernel
theorem dX6_init_158 : decode cX6_init 158 = .ok (.dup, 1) := by decide +kernel
theorem dX6_init_159 : decode cX6_init 159 = .ok (.invokespecial 69, 3) := by decide +kernel
theorem dX6_init_162 : decode cX6_init 162 = .ok (.aastore, 1) := by decide +kernel
theorem dX6_init_163 : decode cX6_init 163 = .ok (.iinc 1 1, 3) := by decide +kernel
theorem dX6_init_166 : decode cX6_init 166 = .ok (.goto (-21), 3) := by decide +kernel
theorem dX6_init_169 : decode cX6_init 169 = .ok (.return_, 1) := by decide +kernel
theorem dX6_feed_0 : decode cX6_feed 0 = .ok (.iload_n 1, 1) := by decide +kernel
theorem dX6_feed_1 : decode cX6_feed 1 = .ok (.bipush 127, 2) := by decide +kernel
theorem dX6_feed_3 : decode cX6_feed 3 = .ok (.invokestatic 70, 3) := by decide +kernel
theorem dX6_feed_6 : decode cX6_feed 6 = .ok (.ifCond .ne 5, 3) := by decide +kernel
theorem dX6_feed_9 : decode cX6_feed 9 = .ok (.iconst (-1), 1) := by decide +kernel
theorem dX6_feed_10 : decode cX6_feed 10 = .ok (.ireturn, 1) := by decide +kernel
theorem dX6_feed_11 : decode cX6_feed 11 = .ok (.aload_n 0, 1) := by decide +kernel
theorem dX6_feed_12 : decode cX6_feed 12 = .ok (.getfield 20, 3) := by decide +kernel
theorem dX6_feed_15 : decode cX6_feed 15 = .ok (.iload_n 1, 1) := by decide +kernel
theorem dX6_feed_16 : decode cX6_feed 16 = .ok (.invokevirtual 74, 3) := by decide +kernel
theorem dX6_feed_19 : decode cX6_feed 19 = .ok (.ifCond .eq 13, 3) := by decide +kernel
theorem dX6_feed_22 : decode cX6_feed 22 = .ok (.aload_n 0, 1) := by decide +kernel
theorem dX6_feed_23 : decode cX6_feed 23 = .ok (.getfield 20, 3) := by decide +kernel
theorem dX6_feed_26 : decode cX6_feed 26 = .ok (.getfield 80, 3) := by decide +kernel
theorem dX6_feed_29 : decode cX6_feed 29 = .ok (.goto 5, 3) := by decide +kernel
theorem dX6_feed_32 : decode cX6_feed 32 = .ok (.bipush (-3), 2) := by decide +kernel
theorem dX6_feed_34 : decode cX6_feed 34 = .ok (.ireturn, 1) := by decide +kernel
theorem dX6_end_0 : decode cX6_end 0 = .ok (.iload_n 1, 1) := by decide +kernel
theorem dX6_end_1 : decode cX6_end 1 = .ok (.aload_n 0, 1) := by decide +kernel
theorem dX6_end_2 : decode cX6_end 2 = .ok (.getfield 20, 3) := by decide +kernel
theorem dX6_end_5 : decode cX6_end 5 = .ok (.getfield 80, 3) := by decide +kernel
theorem dX6_end_8 : decode cX6_end 8 = .ok (.invokestatic 70, 3) := by decide +kernel
theorem dX6_end_11 : decode cX6_end 11 = .ok (.ifCond .ne 5, 3) := by decide +kernel
theorem dX6_end_14 : decode cX6_end 14 = .ok (.iconst (-1), 1) := by decide +kernel
theorem dX6_end_15 : decode cX6_end 15 = .ok (.ireturn, 1) := by decide +kernel
theorem dX6_end_16 : decode cX6_end 16 = .ok (.aload_n 0, 1) := by decide +kernel
theorem dX6_end_17 : decode cX6_end 17 = .ok (.getfield 20, 3) := by decide +kernel
theorem dX6_end_20 : decode cX6_end 20 = .ok (.getfield 80, 3) := by decide +kernel
theorem dX6_end_23 : decode cX6_end 23 = .ok (.istore_n 2, 1) := by decide +kernel
theorem dX6_end_24 : decode cX6_end 24 = .ok (.aload_n 0, 1) := by decide +kernel
theorem dX6_end_25 : decode cX6_end 25 = .ok (.getfield 20, 3) := by decide +kernel
theorem dX6_end_28 : decode cX6_end 28 = .ok (.iload_n 1, 1) := by decide +kernel
theorem dX6_end_29 : decode cX6_end 29 = .ok (.putfield 80, 3) := by decide +kernel
theorem dX6_end_32 : decode cX6_end 32 = .ok (.iload_n 2, 1) := by decide +kernel
theorem dX6_end_33 : decode cX6_end 33 = .ok (.ireturn, 1) := by decide +kernel
theorem dX6_text_0 : decode cX6_text 0 = .ok (.aload_n 0, 1) := by decide +kernel
theorem dX6_text_1 : decode cX6_text 1 = .ok (.getfield 12, 3) := by decide +kernel
theorem dX6_text_4 : decode cX6_text 4 = .ok (.aload_n 0, 1) := by decide +kernel
theorem dX6_text_5 : decode cX6_text 5 = .ok (.getfield 28, 3) := by decide +kernel
theorem dX6_text_8 : decode cX6_text 8 = .ok (.invokevirtual 84, 3) := by decide +kernel
theorem dX6_text_11 : decode cX6_text 11 = .ok (.istore_n 1, 1) := by decide +kernel
theorem dX6_text_12 : decode cX6_text 12 = .ok (.aload_n 0, 1) := by decide +kernel
theorem dX6_text_13 : decode cX6_text 13 = .ok (.getfield 20, 3) := by decide +kernel
theorem dX6_text_16 : decode cX6_text 16 = .ok (.iconst 0, 1) := by decide +kernel
theorem dX6_text_17 : decode cX6_text 17 = .ok (.putfield 80, 3) := by decide +kernel
theorem dX6_text_20 : decode cX6_text 20 = .ok (.aload_n 0, 1) := by decide +kernel
theorem dX6_text_21 : decode cX6_text 21 = .ok (.getfield 12, 3) := by decide +kernel
theorem dX6_text_24 : decode cX6_text 24 = .ok (.getfield 88, 3) := by decide +kernel
theorem dX6_text_27 : decode cX6_text 27 = .ok (.ifCond .eq 14, 3) := by decide +kernel
theorem dX6_text_30 : decode cX6_text 30 = .ok (.bipush (-10), 2) := by decide +kernel
theorem dX6_text_32 : decode cX6_text 32 = .ok (.aload_n 0, 1) := by decide +kernel
theorem dX6_text_33 : decode cX6_text 33 = .ok (.getfield 12, 3) := by decide +kernel
theorem dX6_text_36 : decode cX6_text 36 = .ok (.getfield 91, 3) := by decide +kernel
theorem dX6_text_39 : decode cX6_text 39 = .ok (.isub, 1) := by decide +kernel
theorem dX6_text_40 : decode cX6_text 40 = .ok (.ireturn, 1) := by decide +kernel
theorem dX6_text_41 : decode cX6_text 41 = .ok (.aload_n 0, 1) := by decide +kernel
theorem dX6_text_42 : decode cX6_text 42 = .ok (.getfield 24, 3) := by decide +kernel
theorem dX6_text_45 : decode cX6_text 45 = .ok (.aload_n 0, 1) := by decide +kernel
theorem dX6_text_46 : decode cX6_text 46 = .ok (.getfield 28, 3) := by decide +kernel
theorem dX6_text_49 : decode cX6_text 49 = .ok (.invokevirtual 94, 3) := by decide +kernel
theorem dX6_text_52 : decode cX6_text 52 = .ok (.aload_n 0, 1) := by decide +kernel
theorem dX6_text_53 : decode cX6_text 53 = .ok (.getfield 48, 3) := by decide +kernel
theorem dX6_text_56 : decode cX6_text 56 = .ok (.iconst 0, 1) := by decide +kernel
theorem dX6_text_57 : decode cX6_text 57 = .ok (.putfield 98, 3) := by decide +kernel
theorem dX6_text_60 : decode cX6_text 60 = .ok (.iconst 0, 1) := by decide +kernel
theorem dX6_text_61 : decode cX6_text 61 = .ok (.istore_n 2, 1) := by decide +kernel
theorem dX6_text_62 : decode cX6_text 62 = .ok (.iload_n 2, 1) := by decide +kernel
theorem dX6_text_63 : decode cX6_text 63 = .ok (.iconst 2, 1) := by decide +kernel
theorem dX6_text_64 : decode cX6_text 64 = .ok (.if_icmp .ge 16, 3) := by decide +kernel
theorem dX6_text_67 : decode cX6_text 67 = .ok (.aload_n 0, 1) := by decide +kernel
theorem dX6_text_68 : decode cX6_text 68 = .ok (.getfield 35, 3) := by decide +kernel
theorem dX6_text_71 : decode cX6_text 71 = .ok (.iload_n 2, 1) := by decide +kernel
theorem dX6_text_72 : decode cX6_text 72 = .ok (.iconst 0, 1) := by decide +kernel
theorem dX6_text_73 : decode cX6_text 73 = .ok (.bastore, 1) := by decide +kernel
theorem dX6_text_74 : decode cX6_text 74 = .ok (.iinc 2 1, 3) := by decide +kernel
theorem dX6_text_77 : decode cX6_text 77 = .ok (.goto (-15), 3) := by decide +kernel
theorem dX6_text_80 : decode cX6_text 80 = .ok (.iload_n 1, 1) := by decide +kernel
theorem dX6_text_81 : decode cX6_text 81 = .ok (.ireturn, 1) := by decide +kernel
theorem dX6_fault_0 : decode cX6_fault 0 = .ok (.aload_n 0, 1) := by decide +kernel
theorem dX6_fault_1 : decode cX6_fault 1 = .ok (.getfield 12, 3) := by decide +kernel
theorem dX6_fault_4 : decode cX6_fault 4 = .ok (.getfield 88, 3) := by decide +kernel
theorem dX6_fault_7 : decode cX6_fault 7 = .ok (.ireturn, 1) := by decide +kernel
theorem dX6_rule_0 : decode cX6_rule 0 = .ok (.iload_n 1, 1) := by decide +kernel
theorem dX6_rule_1 : decode cX6_rule 1 = .ok (.tableswitch 87 0 5 #[39, 47, 55, 63, 71, 79], 39) := by decide +kernel
theorem dX6_rule_40 : decode cX6_rule 40 = .ok (.aload_n 0, 1) := by decide +kernel
theorem dX6_rule_41 : decode cX6_rule 41 = .ok (.getfield 24, 3) := by decide +kernel
theorem dX6_rule_44 : decode cX6_rule 44 = .ok (.getfield 101, 3) := by decide +kernel
theorem dX6_rule_47 : decode cX6_rule 47 = .ok (.ireturn, 1) := by decide +kernel
theorem dX6_rule_48 : decode cX6_rule 48 = .ok (.aload_n 0, 1) := by decide +kernel
theorem dX6_rule_49 : decode cX6_rule 49 = .ok (.getfield 24, 3) := by decide +kernel
theorem dX6_rule_52 : decode cX6_rule 52 = .ok (.getfield 104, 3) := by decide +kernel
theorem dX6_rule_55 : decode cX6_rule 55 = .ok (.ireturn, 1) := by decide +kernel
theorem dX6_rule_56 : decode cX6_rule 56 = .ok (.aload_n 0, 1) := by decide +kernel
theorem dX6_rule_57 : decode cX6_rule 57 = .ok (.getfield 24, 3) := by decide +kernel
theorem dX6_rule_60 : decode cX6_rule 60 = .ok (.getfield 107, 3) := by decide +kernel
theorem dX6_rule_63 : decode cX6_rule 63 = .ok (.ireturn, 1) := by decide +kernel
theorem dX6_rule_64 : decode cX6_rule 64 = .ok (.aload_n 0, 1) := by decide +kernel
theorem dX6_rule_65 : decode cX6_rule 65 = .ok (.getfield 24, 3) := by decide +kernel
theorem dX6_rule_68 : decode cX6_rule 68 = .ok (.invokevirtual 110, 3) := by decide +kernel
theorem dX6_rule_71 : decode cX6_rule 71 = .ok (.ireturn, 1) := by decide +kernel
theorem dX6_rule_72 : decode cX6_rule 72 = .ok (.aload_n 0, 1) := by decide +kernel
theorem dX6_rule_73 : decode cX6_rule 73 = .ok (.getfield 24, 3) := by decide +kernel
theorem dX6_rule_76 : decode cX6_rule 76 = .ok (.invokevirtual 114, 3) := by decide +kernel
theorem dX6_rule_79 : decode cX6_rule 79 = .ok (.ireturn, 1) := by decide +kernel
theorem dX6_rule_80 : decode cX6_rule 80 = .ok (.aload_n 0, 1) := by decide +kernel
theorem dX6_rule_81 : decode cX6_rule 81 = .ok (.getfield 24, 3) := by decide +kernel
theorem dX6_rule_84 : decode cX6_rule 84 = .ok (.invokevirtual 117, 3) := by decide +kernel
theorem dX6_rule_87 : decode cX6_rule 87 = .ok (.ireturn, 1) := by decide +kernel
theorem dX6_rule_88 : decode cX6_rule 88 = .ok (.iconst (-1), 1) := by decide +kernel
theorem dX6_rule_89 : decode cX6_rule 89 = .ok (.ireturn, 1) := by decide +kernel
theorem dX6_town_0 : decode cX6_town 0 = .ok (.aload_n 0, 1) := by decide +kernel
theorem dX6_town_1 : decode cX6_town 1 = .ok (.getfield 24, 3) := by decide +kernel
theorem dX6_town_4 : decode cX6_town 4 = .ok (.iload_n 1, 1) := by decide +kernel
theorem dX6_town_5 : decode cX6_town 5 = .ok (.invokevirtual 120, 3) := by decide +kernel
theorem dX6_town_8 : decode cX6_town 8 = .ok (.ifCond .ne 5, 3) := by decide +kernel
theorem dX6_town_11 : decode cX6_town 11 = .ok (.iconst (-1), 1) := by decide +kernel
theorem dX6_town_12 : decode cX6_town 12 = .ok (.ireturn, 1) := by decide +kernel
theorem dX6_town_13 : decode cX6_town 13 = .ok (.iload_n 2, 1) := by decide +kernel
theorem dX6_town_14 : decode cX6_town 14 = .ok (.tableswitch 83 0 4 #[34, 44, 54, 64, 74], 34) := by decide +kernel
theorem dX6_town_48 : decode cX6_town 48 = .ok (.aload_n 0, 1) := by decide +kernel
theorem dX6_town_49 : decode cX6_town 49 = .ok (.getfield 24, 3) := by decide +kernel
theorem dX6_town_52 : decode cX6_town 52 = .ok (.getfield 123, 3) := by decide +kernel
theorem dX6_town_55 : decode cX6_town 55 = .ok (.iload_n 1, 1) := by decide +kernel
theorem dX6_town_56 : decode cX6_town 56 = .ok (.iaload, 1) := by decide +kernel
theorem dX6_town_57 : decode cX6_town 57 = .ok (.ireturn, 1) := by decide +kernel
theorem dX6_town_58 : decode cX6_town 58 = .ok (.aload_n 0, 1) := by decide +kernel
theorem dX6_town_59 : decode cX6_town 59 = .ok (.getfield 24, 3) := by decide +kernel
theorem dX6_town_62 : decode cX6_town 62 = .ok (.getfield 126, 3) := by decide +kernel
theorem dX6_town_65 : decode cX6_town 65 = .ok (.iload_n 1, 1) := by decide +kernel
theorem dX6_town_66 : decode cX6_town 66 = .ok (.iaload, 1) := by decide +kernel
theorem dX6_town_67 : decode cX6_town 67 = .ok (.ireturn, 1) := by decide +kernel
theorem dX6_town_68 : decode cX6_town 68 = .ok (.aload_n 0, 1) := by decide +kernel
theorem dX6_town_69 : decode cX6_town 69 = .ok (.getfield 24, 3) := by decide +kernel
theorem dX6_town_72 : decode cX6_town 72 = .ok (.getfield 129, 3) := by decide +kernel
theorem dX6_town_75 : decode cX6_town 75 = .ok (.iload_n 1, 1) := by decide +kernel
theorem dX6_town_76 : decode cX6_town 76 = .ok (.iaload, 1) := by decide +kernel
theorem dX6_town_77 : decode cX6_town 77 = .ok (.ireturn, 1) := by decide +kernel
theorem dX6_town_78 : decode cX6_town 78 = .ok (.aload_n 0, 1) := by decide +kernel
theorem dX6_town_79 : decode cX6_town 79 = .ok (.getfield 24, 3) := by decide +kernel
theorem dX6_town_82 : decode cX6_town 82 = .ok (.getfield 132, 3) := by decide +kernel
theorem dX6_town_85 : decode cX6_town 85 = .ok (.iload_n 1, 1) := by decide +kernel
theorem dX6_town_86 : decode cX6_town 86 = .ok (.iaload, 1) := by decide +kernel
theorem dX6_town_87 : decode cX6_town 87 = .ok (.ireturn, 1) := by decide +kernel
theorem dX6_town_88 : decode cX6_town 88 = .ok (.aload_n 0, 1) := by decide +kernel
theorem dX6_town_89 : decode cX6_town 89 = .ok (.getfield 24, 3) := by decide +kernel
theorem dX6_town_92 : decode cX6_town 92 = .ok (.iload_n 1, 1) := by decide +kernel
theorem dX6_town_93 : decode cX6_town 93 = .ok (.invokevirtual 135, 3) := by decide +kernel
theorem dX6_town_96 : decode cX6_town 96 = .ok (.ireturn, 1) := by decide +kernel
theorem dX6_town_97 : decode cX6_town 97 = .ok (.iconst (-1), 1) := by decide +kernel
theorem dX6_town_98 : decode cX6_town 98 = .ok (.ireturn, 1) := by decide +kernel
theorem dX6_fixture_0 : decode cX6_fixture 0 = .ok (.aload_n 0, 1) := by decide +kernel
theorem dX6_fixture_1 : decode cX6_fixture 1 = .ok (.getfield 24, 3) := by decide +kernel
theorem dX6_fixture_4 : decode cX6_fixture 4 = .ok (.iload_n 1, 1) := by decide +kernel
theorem dX6_fixture_5 : decode cX6_fixture 5 = .ok (.invokevirtual 139, 3) := by decide +kernel
theorem dX6_fixture_8 : decode cX6_fixture 8 = .ok (.ifCond .eq 11, 3) := by decide +kernel
theorem dX6_fixture_11 : decode cX6_fixture 11 = .ok (.iload_n 2, 1) := by decide +kernel
theorem dX6_fixture_12 : decode cX6_fixture 12 = .ok (.iconst 1, 1) := by decide +kernel
theorem dX6_fixture_13 : decode cX6_fixture 13 = .ok (.invokestatic 70, 3) := by decide +kernel
theorem dX6_fixture_16 : decode cX6_fixture 16 = .ok (.ifCond .ne 5, 3) := by decide +kernel
theorem dX6_fixture_19 : decode cX6_fixture 19 = .ok (.iconst (-1), 1) := by decide +kernel
theorem dX6_fixture_20 : decode cX6_fixture 20 = .ok (.ireturn, 1) := by decide +kernel
theorem dX6_fixture_21 : decode cX6_fixture 21 = .ok (.iload_n 2, 1) := by decide +kernel
theorem dX6_fixture_22 : decode cX6_fixture 22 = .ok (.ifCond .ne 15, 3) := by decide +kernel
theorem dX6_fixture_25 : decode cX6_fixture 25 = .ok (.aload_n 0, 1) := by decide +kernel
theorem dX6_fixture_26 : decode cX6_fixture 26 = .ok (.getfield 24, 3) := by decide +kernel
theorem dX6_fixture_29 : decode cX6_fixture 29 = .ok (.getfield 142, 3) := by decide +kernel
theorem dX6_fixture_32 : decode cX6_fixture 32 = .ok (.iload_n 1, 1) := by decide +kernel
theorem dX6_fixture_33 : decode cX6_fixture 33 = .ok (.iaload, 1) := by decide +kernel
theorem dX6_fixture_34 : decode cX6_fixture 34 = .ok (.goto 12, 3) := by decide +kernel
theorem dX6_fixture_37 : decode cX6_fixture 37 = .ok (.aload_n 0, 1) := by decide +kernel
theorem dX6_fixture_38 : decode cX6_fixture 38 = .ok (.getfield 24, 3) := by decide +kernel
theorem dX6_fixture_41 : decode cX6_fixture 41 = .ok (.getfield 145, 3) := by decide +kernel
theorem dX6_fixture_44 : decode cX6_fixture 44 = .ok (.iload_n 1, 1) := by decide +kernel
theorem dX6_fixture_45 : decode cX6_fixture 45 = .ok (.iaload, 1) := by decide +kernel
theorem dX6_fixture_46 : decode cX6_fixture 46 = .ok (.ireturn, 1) := by decide +kernel
theorem dX6_game_0 : decode cX6_game 0 = .ok (.aload_n 0, 1) := by decide +kernel
theorem dX6_game_1 : decode cX6_game 1 = .ok (.getfield 24, 3) := by decide +kernel
theorem dX6_game_4 : decode cX6_game 4 = .ok (.iload_n 1, 1) := by decide +kernel
theorem dX6_game_5 : decode cX6_game 5 = .ok (.iload_n 2, 1) := by decide +kernel
theorem dX6_game_6 : decode cX6_game 6 = .ok (.invokevirtual 148, 3) := by decide +kernel
theorem dX6_game_9 : decode cX6_game 9 = .ok (.ifCond .eq 15, 3) := by decide +kernel
theorem dX6_game_12 : decode cX6_game 12 = .ok (.aload_n 0, 1) := by decide +kernel
theorem dX6_game_13 : decode cX6_game 13 = .ok (.getfield 24, 3) := by decide +kernel
theorem dX6_game_16 : decode cX6_game 16 = .ok (.iload_n 1, 1) := by decide +kernel
theorem dX6_game_17 : decode cX6_game 17 = .ok (.iload_n 2, 1) := by decide +kernel
theorem dX6_game_18 : decode cX6_game 18 = .ok (.invokevirtual 151, 3) := by decide +kernel
theorem dX6_game_21 : decode cX6_game 21 = .ok (.goto 4, 3) := by decide +kernel
theorem dX6_game_24 : decode cX6_game 24 = .ok (.iconst (-1), 1) := by decide +kernel
theorem dX6_game_25 : decode cX6_game 25 = .ok (.ireturn, 1) := by decide +kernel
theorem dX6_alter_0 : decode cX6_alter 0 = .ok (.aload_n 0, 1) := by decide +kernel
theorem dX6_alter_1 : decode cX6_alter 1 = .ok (.getfield 24, 3) := by decide +kernel
theorem dX6_alter_4 : decode cX6_alter 4 = .ok (.iload_n 1, 1) := by decide +kernel
theorem dX6_alter_5 : decode cX6_alter 5 = .ok (.invokevirtual 120, 3) := by decide +kernel
theorem dX6_alter_8 : decode cX6_alter 8 = .ok (.ifCond .ne 5, 3) := by decide +kernel
theorem dX6_alter_11 : decode cX6_alter 11 = .ok (.iconst (-1), 1) := by decide +kernel
theorem dX6_alter_12 : decode cX6_alter 12 = .ok (.ireturn, 1) := by decide +kernel
theorem dX6_alter_13 : decode cX6_alter 13 = .ok (.iload_n 2, 1) := by decide +kernel
theorem dX6_alter_14 : decode cX6_alter 14 = .ok (.tableswitch 89 0 3 #[30, 44, 59, 74], 30) := by decide +kernel
theorem dX6_alter_44 : decode cX6_alter 44 = .ok (.aload_n 0, 1) := by decide +kernel
theorem dX6_alter_45 : decode cX6_alter 45 = .ok (.getfield 24, 3) := by decide +kernel
theorem dX6_alter_48 : decode cX6_alter 48 = .ok (.getfield 123, 3) := by decide +kernel
theorem dX6_alter_51 : decode cX6_alter 51 = .ok (.iload_n 1, 1) := by decide +kernel
theorem dX6_alter_52 : decode cX6_alter 52 = .ok (.iload_n 3, 1) := by decide +kernel
theorem dX6_alter_53 : decode cX6_alter 53 = .ok (.iconst 3, 1) := by decide +kernel
theorem dX6_alter_54 : decode cX6_alter 54 = .ok (.invokestatic 155, 3) := by decide +kernel
theorem dX6_alter_57 : decode cX6_alter 57 = .ok (.ireturn, 1) := by decide +kernel
theorem dX6_alter_58 : decode cX6_alter 58 = .ok (.aload_n 0, 1) := by decide +kernel
theorem dX6_alter_59 : decode cX6_alter 59 = .ok (.getfield 24, 3) := by decide +kernel
theorem dX6_alter_62 : decode cX6_alter 62 = .ok (.getfield 126, 3) := by decide +kernel
theorem dX6_alter_65 : decode cX6_alter 65 = .ok (.iload_n 1, 1) := by decide +kernel
theorem dX6_alter_66 : decode cX6_alter 66 = .ok (.iload_n 3, 1) := by decide +kernel
theorem dX6_alter_67 : decode cX6_alter 67 = .ok (.bipush 20, 2) := by decide +kernel
theorem dX6_alter_69 : decode cX6_alter 69 = .ok (.invokestatic 155, 3) := by decide +kernel
theorem dX6_alter_72 : decode cX6_alter 72 = .ok (.ireturn, 1) := by decide +kernel
theorem dX6_alter_73 : decode cX6_alter 73 = .ok (.aload_n 0, 1) := by decide +kernel
theorem dX6_alter_74 : decode cX6_alter 74 = .ok (.getfield 24, 3) := by decide +kernel
theorem dX6_alter_77 : decode cX6_alter 77 = .ok (.getfield 129, 3) := by decide +kernel
theorem dX6_alter_80 : decode cX6_alter 80 = .ok (.iload_n 1, 1) := by decide +kernel
theorem dX6_alter_81 : decode cX6_alter 81 = .ok (.iload_n 3, 1) := by decide +kernel
theorem dX6_alter_82 : decode cX6_alter 82 = .ok (.bipush 99, 2) := by decide +kernel
theorem dX6_alter_84 : decode cX6_alter 84 = .ok (.invokestatic 155, 3) := by decide +kernel
theorem dX6_alter_87 : decode cX6_alter 87 = .ok (.ireturn, 1) := by decide +kernel
theorem dX6_alter_88 : decode cX6_alter 88 = .ok (.aload_n 0, 1) := by decide +kernel
theorem dX6_alter_89 : decode cX6_alter 89 = .ok (.getfield 24, 3) := by decide +kernel
theorem dX6_alter_92 : decode cX6_alter 92 = .ok (.getfield 132, 3) := by decide +kernel
theorem dX6_alter_95 : decode cX6_alter 95 = .ok (.iload_n 1, 1) := by decide +kernel
theorem dX6_alter_96 : decode cX6_alter 96 = .ok (.iload_n 3, 1) := by decide +kernel
theorem dX6_alter_97 : decode cX6_alter 97 = .ok (.bipush 99, 2) := by decide +kernel
theorem dX6_alter_99 : decode cX6_alter 99 = .ok (.invokestatic 155, 3) := by decide +kernel
theorem dX6_alter_102 : decode cX6_alter 102 = .ok (.ireturn, 1) := by decide +kernel
theorem dX6_alter_103 : decode cX6_alter 103 = .ok (.iconst (-1), 1) := by decide +kernel
theorem dX6_alter_104 : decode cX6_alter 104 = .ok (.ireturn, 1) := by decide +kernel
theorem dX6_replace_0 : decode cX6_replace 0 = .ok (.iload_n 2, 1) := by decide +kernel
theorem dX6_replace_1 : decode cX6_replace 1 = .ok (.iload_n 3, 1) := by decide +kernel
theorem dX6_replace_2 : decode cX6_replace 2 = .ok (.invokestatic 70, 3) := by decide +kernel
theorem dX6_replace_5 : decode cX6_replace 5 = .ok (.ifCond .eq 14, 3) := by decide +kernel
theorem dX6_replace_8 : decode cX6_replace 8 = .ok (.iload_n 1, 1) := by decide +kernel
theorem dX6_replace_9 : decode cX6_replace 9 = .ok (.aload_n 0, 1) := by decide +kernel
theorem dX6_replace_10 : decode cX6_replace 10 = .ok (.arraylength, 1) := by decide +kernel
theorem dX6_replace_11 : decode cX6_replace 11 = .ok (.iconst 1, 1) := by decide +kernel
theorem dX6_replace_12 : decode cX6_replace 12 = .ok (.isub, 1) := by decide +kernel
theorem dX6_replace_13 : decode cX6_replace 13 = .ok (.invokestatic 70, 3) := by decide +kernel
theorem dX6_replace_16 : decode cX6_replace 16 = .ok (.ifCond .ne 5, 3) := by decide +kernel
theorem dX6_replace_19 : decode cX6_replace 19 = .ok (.iconst (-1), 1) := by decide +kernel
theorem dX6_replace_20 : decode cX6_replace 20 = .ok (.ireturn, 1) := by decide +kernel
theorem dX6_replace_21 : decode cX6_replace 21 = .ok (.aload_n 0, 1) := by decide +kernel
theorem dX6_replace_22 : decode cX6_replace 22 = .ok (.iload_n 1, 1) := by decide +kernel
theorem dX6_replace_23 : decode cX6_replace 23 = .ok (.iaload, 1) := by decide +kernel
theorem dX6_replace_24 : decode cX6_replace 24 = .ok (.istore 4, 2) := by decide +kernel
theorem dX6_replace_26 : decode cX6_replace 26 = .ok (.aload_n 0, 1) := by decide +kernel
theorem dX6_replace_27 : decode cX6_replace 27 = .ok (.iload_n 1, 1) := by decide +kernel
theorem dX6_replace_28 : decode cX6_replace 28 = .ok (.iload_n 2, 1) := by decide +kernel
theorem dX6_replace_29 : decode cX6_replace 29 = .ok (.iastore, 1) := by decide +kernel
theorem dX6_replace_30 : decode cX6_replace 30 = .ok (.iload 4, 2) := by decide +kernel
theorem dX6_replace_32 : decode cX6_replace 32 = .ok (.ireturn, 1) := by decide +kernel
theorem dX6_lend_0 : decode cX6_lend 0 = .ok (.aload_n 0, 1) := by decide +kernel
theorem dX6_lend_1 : decode cX6_lend 1 = .ok (.getfield 24, 3) := by decide +kernel
theorem dX6_lend_4 : decode cX6_lend 4 = .ok (.iload_n 1, 1) := by decide +kernel
theorem dX6_lend_5 : decode cX6_lend 5 = .ok (.iload_n 2, 1) := by decide +kernel
theorem dX6_lend_6 : decode cX6_lend 6 = .ok (.invokevirtual 148, 3) := by decide +kernel
theorem dX6_lend_9 : decode cX6_lend 9 = .ok (.ifCond .eq 12, 3) := by decide +kernel
theorem dX6_lend_12 : decode cX6_lend 12 = .ok (.iload_n 3, 1) := by decide +kernel
theorem dX6_lend_13 : decode cX6_lend 13 = .ok (.bipush 20, 2) := by decide +kernel
theorem dX6_lend_15 : decode cX6_lend 15 = .ok (.invokestatic 70, 3) := by decide +kernel
theorem dX6_lend_18 : decode cX6_lend 18 = .ok (.ifCond .ne 5, 3) := by decide +kernel
theorem dX6_lend_21 : decode cX6_lend 21 = .ok (.iconst (-1), 1) := by decide +kernel
theorem dX6_lend_22 : decode cX6_lend 22 = .ok (.ireturn, 1) := by decide +kernel
theorem dX6_lend_23 : decode cX6_lend 23 = .ok (.aload_n 0, 1) := by decide +kernel
theorem dX6_lend_24 : decode cX6_lend 24 = .ok (.getfield 24, 3) := by decide +kernel
theorem dX6_lend_27 : decode cX6_lend 27 = .ok (.iload_n 1, 1) := by decide +kernel
theorem dX6_lend_28 : decode cX6_lend 28 = .ok (.iload_n 2, 1) := by decide +kernel
theorem dX6_lend_29 : decode cX6_lend 29 = .ok (.iload_n 3, 1) := by decide +kernel
theorem dX6_lend_30 : decode cX6_lend 30 = .ok (.invokevirtual 159, 3) := by decide +kernel
theorem dX6_lend_33 : decode cX6_lend 33 = .ok (.ireturn, 1) := by decide +kernel
theorem dX6_book_0 : decode cX6_book 0 = .ok (.aload_n 0, 1) := by decide +kernel
theorem dX6_book_1 : decode cX6_book 1 = .ok (.getfield 24, 3) := by decide +kernel
theorem dX6_book_4 : decode cX6_book 4 = .ok (.iload_n 1, 1) := by decide +kernel
theorem dX6_book_5 : decode cX6_book 5 = .ok (.iload_n 2, 1) := by decide +kernel
theorem dX6_book_6 : decode cX6_book 6 = .ok (.invokevirtual 163, 3) := by decide +kernel
theorem dX6_book_9 : decode cX6_book 9 = .ok (.ireturn, 1) := by decide +kernel
theorem dX6_strike_0 : decode cX6_strike 0 = .ok (.iload_n 1, 1) := by decide +kernel
theorem dX6_strike_1 : decode cX6_strike 1 = .ok (.aload_n 0, 1) := by decide +kernel
theorem dX6_strike_2 : decode cX6_strike 2 = .ok (.getfield 24, 3) := by decide +kernel
theorem dX6_strike_5 : decode cX6_strike 5 = .ok (.getfield 104, 3) := by decide +kernel
theorem dX6_strike_8 : decode cX6_strike 8 = .ok (.invokestatic 70, 3) := by decide +kernel
theorem dX6_strike_11 : decode cX6_strike 11 = .ok (.ifCond .ne 5, 3) := by decide +kernel
theorem dX6_strike_14 : decode cX6_strike 14 = .ok (.iconst (-1), 1) := by decide +kernel
theorem dX6_strike_15 : decode cX6_strike 15 = .ok (.ireturn, 1) := by decide +kernel
theorem dX6_strike_16 : decode cX6_strike 16 = .ok (.aload_n 0, 1) := by decide +kernel
theorem dX6_strike_17 : decode cX6_strike 17 = .ok (.getfield 24, 3) := by decide +kernel
theorem dX6_strike_20 : decode cX6_strike 20 = .ok (.getfield 104, 3) := by decide +kernel
theorem dX6_strike_23 : decode cX6_strike 23 = .ok (.istore_n 2, 1) := by decide +kernel
theorem dX6_strike_24 : decode cX6_strike 24 = .ok (.aload_n 0, 1) := by decide +kernel
theorem dX6_strike_25 : decode cX6_strike 25 = .ok (.getfield 24, 3) := by decide +kernel
theorem dX6_strike_28 : decode cX6_strike 28 = .ok (.iload_n 1, 1) := by decide +kernel
theorem dX6_strike_29 : decode cX6_strike 29 = .ok (.putfield 104, 3) := by decide +kernel
theorem dX6_strike_32 : decode cX6_strike 32 = .ok (.iload_n 2, 1) := by decide +kernel
theorem dX6_strike_33 : decode cX6_strike 33 = .ok (.ireturn, 1) := by decide +kernel
theorem dX6_weeks_0 : decode cX6_weeks 0 = .ok (.iload_n 1, 1) := by decide +kernel
theorem dX6_weeks_1 : decode cX6_weeks 1 = .ok (.bipush 30, 2) := by decide +kernel
theorem dX6_weeks_3 : decode cX6_weeks 3 = .ok (.invokestatic 70, 3) := by decide +kernel
theorem dX6_weeks_6 : decode cX6_weeks 6 = .ok (.ifCond .ne 5, 3) := by decide +kernel
theorem dX6_weeks_9 : decode cX6_weeks 9 = .ok (.iconst (-1), 1) := by decide +kernel
theorem dX6_weeks_10 : decode cX6_weeks 10 = .ok (.ireturn, 1) := by decide +kernel
theorem dX6_weeks_11 : decode cX6_weeks 11 = .ok (.aload_n 0, 1) := by decide +kernel
theorem dX6_weeks_12 : decode cX6_weeks 12 = .ok (.getfield 24, 3) := by decide +kernel
theorem dX6_weeks_15 : decode cX6_weeks 15 = .ok (.getfield 107, 3) := by decide +kernel
theorem dX6_weeks_18 : decode cX6_weeks 18 = .ok (.iload_n 1, 1) := by decide +kernel
theorem dX6_weeks_19 : decode cX6_weeks 19 = .ok (.iadd, 1) := by decide +kernel
theorem dX6_weeks_20 : decode cX6_weeks 20 = .ok (.sipush 1000, 3) := by decide +kernel
theorem dX6_weeks_23 : decode cX6_weeks 23 = .ok (.if_icmp .lt 8, 3) := by decide +kernel
theorem dX6_weeks_26 : decode cX6_weeks 26 = .ok (.bipush (-3), 2) := by decide +kernel
theorem dX6_weeks_28 : decode cX6_weeks 28 = .ok (.goto 11, 3) := by decide +kernel
theorem dX6_weeks_31 : decode cX6_weeks 31 = .ok (.aload_n 0, 1) := by decide +kernel
theorem dX6_weeks_32 : decode cX6_weeks 32 = .ok (.getfield 24, 3) := by decide +kernel
theorem dX6_weeks_35 : decode cX6_weeks 35 = .ok (.iload_n 1, 1) := by decide +kernel
theorem dX6_weeks_36 : decode cX6_weeks 36 = .ok (.invokevirtual 166, 3) := by decide +kernel
theorem dX6_weeks_39 : decode cX6_weeks 39 = .ok (.ireturn, 1) := by decide +kernel
theorem dX6_runs_0 : decode cX6_runs 0 = .ok (.iload_n 1, 1) := by decide +kernel
theorem dX6_runs_1 : decode cX6_runs 1 = .ok (.bipush 60, 2) := by decide +kernel
theorem dX6_runs_3 : decode cX6_runs 3 = .ok (.invokestatic 70, 3) := by decide +kernel
theorem dX6_runs_6 : decode cX6_runs 6 = .ok (.ifCond .eq 11, 3) := by decide +kernel
theorem dX6_runs_9 : decode cX6_runs 9 = .ok (.iload_n 2, 1) := by decide +kernel
theorem dX6_runs_10 : decode cX6_runs 10 = .ok (.iconst 3, 1) := by decide +kernel
theorem dX6_runs_11 : decode cX6_runs 11 = .ok (.invokestatic 70, 3) := by decide +kernel
theorem dX6_runs_14 : decode cX6_runs 14 = .ok (.ifCond .ne 5, 3) := by decide +kernel
theorem dX6_runs_17 : decode cX6_runs 17 = .ok (.iconst (-1), 1) := by decide +kernel
theorem dX6_runs_18 : decode cX6_runs 18 = .ok (.ireturn, 1) := by decide +kernel
theorem dX6_runs_19 : decode cX6_runs 19 = .ok (.aload_n 0, 1) := by decide +kernel
theorem dX6_runs_20 : decode cX6_runs 20 = .ok (.getfield 28, 3) := by decide +kernel
theorem dX6_runs_23 : decode cX6_runs 23 = .ok (.aload_n 0, 1) := by decide +kernel
theorem dX6_runs_24 : decode cX6_runs 24 = .ok (.getfield 24, 3) := by decide +kernel
theorem dX6_runs_27 : decode cX6_runs 27 = .ok (.invokevirtual 94, 3) := by decide +kernel
theorem dX6_runs_30 : decode cX6_runs 30 = .ok (.aload_n 0, 1) := by decide +kernel
theorem dX6_runs_31 : decode cX6_runs 31 = .ok (.getfield 28, 3) := by decide +kernel
theorem dX6_runs_34 : decode cX6_runs 34 = .ok (.iload_n 1, 1) := by decide +kernel
theorem dX6_runs_35 : decode cX6_runs 35 = .ok (.invokevirtual 166, 3) := by decide +kernel
theorem dX6_runs_38 : decode cX6_runs 38 = .ok (.istore_n 3, 1) := by decide +kernel
theorem dX6_runs_39 : decode cX6_runs 39 = .ok (.iload_n 2, 1) := by decide +kernel
theorem dX6_runs_40 : decode cX6_runs 40 = .ok (.tableswitch 56 0 2 #[28, 30, 48], 28) := by decide +kernel
theorem dX6_runs_68 : decode cX6_runs 68 = .ok (.iload_n 3, 1) := by decide +kernel
theorem dX6_runs_69 : decode cX6_runs 69 = .ok (.ireturn, 1) := by decide +kernel
theorem dX6_runs_70 : decode cX6_runs 70 = .ok (.aload_n 0, 1) := by decide +kernel
theorem dX6_runs_71 : decode cX6_runs 71 = .ok (.getfield 28, 3) := by decide +kernel
theorem dX6_runs_74 : decode cX6_runs 74 = .ok (.getfield 104, 3) := by decide +kernel
theorem dX6_runs_77 : decode cX6_runs 77 = .ok (.ifCond .ne 7, 3) := by decide +kernel
theorem dX6_runs_80 : decode cX6_runs 80 = .ok (.iconst 0, 1) := by decide +kernel
theorem dX6_runs_81 : decode cX6_runs 81 = .ok (.goto 6, 3) := by decide +kernel
theorem dX6_runs_84 : decode cX6_runs 84 = .ok (.iload_n 1, 1) := by decide +kernel
theorem dX6_runs_85 : decode cX6_runs 85 = .ok (.iload_n 3, 1) := by decide +kernel
theorem dX6_runs_86 : decode cX6_runs 86 = .ok (.isub, 1) := by decide +kernel
theorem dX6_runs_87 : decode cX6_runs 87 = .ok (.ireturn, 1) := by decide +kernel
theorem dX6_runs_88 : decode cX6_runs 88 = .ok (.aload_n 0, 1) := by decide +kernel
theorem dX6_runs_89 : decode cX6_runs 89 = .ok (.getfield 28, 3) := by decide +kernel
theorem dX6_runs_92 : decode cX6_runs 92 = .ok (.invokevirtual 117, 3) := by decide +kernel
theorem dX6_runs_95 : decode cX6_runs 95 = .ok (.ireturn, 1) := by decide +kernel
theorem dX6_runs_96 : decode cX6_runs 96 = .ok (.aload_n 0, 1) := by decide +kernel
theorem dX6_runs_97 : decode cX6_runs 97 = .ok (.getfield 28, 3) := by decide +kernel
theorem dX6_runs_100 : decode cX6_runs 100 = .ok (.invokevirtual 114, 3) := by decide +kernel
theorem dX6_runs_103 : decode cX6_runs 103 = .ok (.ireturn, 1) := by decide +kernel
theorem dX6_ahead_0 : decode cX6_ahead 0 = .ok (.aload_n 0, 1) := by decide +kernel
theorem dX6_ahead_1 : decode cX6_ahead 1 = .ok (.getfield 24, 3) := by decide +kernel
theorem dX6_ahead_4 : decode cX6_ahead 4 = .ok (.iload_n 1, 1) := by decide +kernel
theorem dX6_ahead_5 : decode cX6_ahead 5 = .ok (.invokevirtual 120, 3) := by decide +kernel
theorem dX6_ahead_8 : decode cX6_ahead 8 = .ok (.ifCond .eq 20, 3) := by decide +kernel
theorem dX6_ahead_11 : decode cX6_ahead 11 = .ok (.iload_n 2, 1) := by decide +kernel
theorem dX6_ahead_12 : decode cX6_ahead 12 = .ok (.bipush 60, 2) := by decide +kernel
theorem dX6_ahead_14 : decode cX6_ahead 14 = .ok (.invokestatic 70, 3) := by decide +kernel
theorem dX6_ahead_17 : decode cX6_ahead 17 = .ok (.ifCond .eq 11, 3) := by decide +kernel
theorem dX6_ahead_20 : decode cX6_ahead 20 = .ok (.iload_n 3, 1) := by decide +kernel
theorem dX6_ahead_21 : decode cX6_ahead 21 = .ok (.iconst 2, 1) := by decide +kernel
theorem dX6_ahead_22 : decode cX6_ahead 22 = .ok (.invokestatic 70, 3) := by decide +kernel
theorem dX6_ahead_25 : decode cX6_ahead 25 = .ok (.ifCond .ne 5, 3) := by decide +kernel
theorem dX6_ahead_28 : decode cX6_ahead 28 = .ok (.iconst (-1), 1) := by decide +kernel
theorem dX6_ahead_29 : decode cX6_ahead 29 = .ok (.ireturn, 1) := by decide +kernel
theorem dX6_ahead_30 : decode cX6_ahead 30 = .ok (.aload_n 0, 1) := by decide +kernel
theorem dX6_ahead_31 : decode cX6_ahead 31 = .ok (.getfield 28, 3) := by decide +kernel
theorem dX6_ahead_34 : decode cX6_ahead 34 = .ok (.aload_n 0, 1) := by decide +kernel
theorem dX6_ahead_35 : decode cX6_ahead 35 = .ok (.getfield 24, 3) := by decide +kernel
theorem dX6_ahead_38 : decode cX6_ahead 38 = .ok (.invokevirtual 94, 3) := by decide +kernel
theorem dX6_ahead_41 : decode cX6_ahead 41 = .ok (.aload_n 0, 1) := by decide +kernel
theorem dX6_ahead_42 : decode cX6_ahead 42 = .ok (.getfield 28, 3) := by decide +kernel
theorem dX6_ahead_45 : decode cX6_ahead 45 = .ok (.iload_n 2, 1) := by decide +kernel
theorem dX6_ahead_46 : decode cX6_ahead 46 = .ok (.invokevirtual 166, 3) := by decide +kernel
theorem dX6_ahead_49 : decode cX6_ahead 49 = .ok (.pop, 1) := by decide +kernel
theorem dX6_ahead_50 : decode cX6_ahead 50 = .ok (.iload_n 3, 1) := by decide +kernel
theorem dX6_ahead_51 : decode cX6_ahead 51 = .ok (.lookupswitch 45 #[(0, 25), (1, 35)], 25) := by decide +kernel
theorem dX6_ahead_76 : decode cX6_ahead 76 = .ok (.aload_n 0, 1) := by decide +kernel
theorem dX6_ahead_77 : decode cX6_ahead 77 = .ok (.getfield 28, 3) := by decide +kernel
theorem dX6_ahead_80 : decode cX6_ahead 80 = .ok (.getfield 126, 3) := by decide +kernel
theorem dX6_ahead_83 : decode cX6_ahead 83 = .ok (.iload_n 1, 1) := by decide +kernel
theorem dX6_ahead_84 : decode cX6_ahead 84 = .ok (.iaload, 1) := by decide +kernel
theorem dX6_ahead_85 : decode cX6_ahead 85 = .ok (.ireturn, 1) := by decide +kernel
theorem dX6_ahead_86 : decode cX6_ahead 86 = .ok (.aload_n 0, 1) := by decide +kernel
theorem dX6_ahead_87 : decode cX6_ahead 87 = .ok (.getfield 28, 3) := by decide +kernel
theorem dX6_ahead_90 : decode cX6_ahead 90 = .ok (.getfield 129, 3) := by decide +kernel
theorem dX6_ahead_93 : decode cX6_ahead 93 = .ok (.iload_n 1, 1) := by decide +kernel
theorem dX6_ahead_94 : decode cX6_ahead 94 = .ok (.iaload, 1) := by decide +kernel
theorem dX6_ahead_95 : decode cX6_ahead 95 = .ok (.ireturn, 1) := by decide +kernel
theorem dX6_ahead_96 : decode cX6_ahead 96 = .ok (.aload_n 0, 1) := by decide +kernel
theorem dX6_ahead_97 : decode cX6_ahead 97 = .ok (.getfield 28, 3) := by decide +kernel
theorem dX6_ahead_100 : decode cX6_ahead 100 = .ok (.getfield 132, 3) := by decide +kernel
theorem dX6_ahead_103 : decode cX6_ahead 103 = .ok (.iload_n 1, 1) := by decide +kernel
theorem dX6_ahead_104 : decode cX6_ahead 104 = .ok (.iaload, 1) := by decide +kernel
theorem dX6_ahead_105 : decode cX6_ahead 105 = .ok (.ireturn, 1) := by decide +kernel
theorem dX6_loser_0 : decode cX6_loser 0 = .ok (.iload_n 1, 1) := by decide +kernel
theorem dX6_loser_1 : decode cX6_loser 1 = .ok (.bipush 60, 2) := by decide +kernel
theorem dX6_loser_3 : decode cX6_loser 3 = .ok (.invokestatic 70, 3) := by decide +kernel
theorem dX6_loser_6 : decode cX6_loser 6 = .ok (.ifCond .ne 5, 3) := by decide +kernel
theorem dX6_loser_9 : decode cX6_loser 9 = .ok (.iconst (-1), 1) := by decide +kernel
theorem dX6_loser_10 : decode cX6_loser 10 = .ok (.ireturn, 1) := by decide +kernel
theorem dX6_loser_11 : decode cX6_loser 11 = .ok (.aload_n 0, 1) := by decide +kernel
theorem dX6_loser_12 : decode cX6_loser 12 = .ok (.getfield 28, 3) := by decide +kernel
theorem dX6_loser_15 : decode cX6_loser 15 = .ok (.aload_n 0, 1) := by decide +kernel
theorem dX6_loser_16 : decode cX6_loser 16 = .ok (.getfield 24, 3) := by decide +kernel
theorem dX6_loser_19 : decode cX6_loser 19 = .ok (.invokevirtual 94, 3) := by decide +kernel
theorem dX6_loser_22 : decode cX6_loser 22 = .ok (.aload_n 0, 1) := by decide +kernel
theorem dX6_loser_23 : decode cX6_loser 23 = .ok (.getfield 28, 3) := by decide +kernel
theorem dX6_loser_26 : decode cX6_loser 26 = .ok (.iload_n 1, 1) := by decide +kernel
theorem dX6_loser_27 : decode cX6_loser 27 = .ok (.invokevirtual 166, 3) := by decide +kernel
theorem dX6_loser_30 : decode cX6_loser 30 = .ok (.pop, 1) := by decide +kernel
theorem dX6_loser_31 : decode cX6_loser 31 = .ok (.aload_n 0, 1) := by decide +kernel
theorem dX6_loser_32 : decode cX6_loser 32 = .ok (.getfield 28, 3) := by decide +kernel
theorem dX6_loser_35 : decode cX6_loser 35 = .ok (.iconst 0, 1) := by decide +kernel
theorem dX6_loser_36 : decode cX6_loser 36 = .ok (.invokevirtual 169, 3) := by decide +kernel
theorem dX6_loser_39 : decode cX6_loser 39 = .ok (.ireturn, 1) := by decide +kernel
theorem dX6_loses_0 : decode cX6_loses 0 = .ok (.aload_n 0, 1) := by decide +kernel
theorem dX6_loses_1 : decode cX6_loses 1 = .ok (.getfield 24, 3) := by decide +kernel
theorem dX6_loses_4 : decode cX6_loses 4 = .ok (.iload_n 1, 1) := by decide +kernel
theorem dX6_loses_5 : decode cX6_loses 5 = .ok (.invokevirtual 120, 3) := by decide +kernel
theorem dX6_loses_8 : decode cX6_loses 8 = .ok (.ifCond .ne 5, 3) := by decide +kernel
theorem dX6_loses_11 : decode cX6_loses 11 = .ok (.iconst (-1), 1) := by decide +kernel
theorem dX6_loses_12 : decode cX6_loses 12 = .ok (.ireturn, 1) := by decide +kernel
theorem dX6_loses_13 : decode cX6_loses 13 = .ok (.aload_n 0, 1) := by decide +kernel
theorem dX6_loses_14 : decode cX6_loses 14 = .ok (.getfield 28, 3) := by decide +kernel
theorem dX6_loses_17 : decode cX6_loses 17 = .ok (.aload_n 0, 1) := by decide +kernel
theorem dX6_loses_18 : decode cX6_loses 18 = .ok (.getfield 24, 3) := by decide +kernel
theorem dX6_loses_21 : decode cX6_loses 21 = .ok (.invokevirtual 94, 3) := by decide +kernel
theorem dX6_loses_24 : decode cX6_loses 24 = .ok (.aload_n 0, 1) := by decide +kernel
theorem dX6_loses_25 : decode cX6_loses 25 = .ok (.getfield 28, 3) := by decide +kernel
theorem dX6_loses_28 : decode cX6_loses 28 = .ok (.iload_n 1, 1) := by decide +kernel
theorem dX6_loses_29 : decode cX6_loses 29 = .ok (.bipush 61, 2) := by decide +kernel
theorem dX6_loses_31 : decode cX6_loses 31 = .ok (.invokevirtual 173, 3) := by decide +kernel
theorem dX6_loses_34 : decode cX6_loses 34 = .ok (.ireturn, 1) := by decide +kernel
theorem dX6_order_0 : decode cX6_order 0 = .ok (.iload_n 1, 1) := by decide +kernel
theorem dX6_order_1 : decode cX6_order 1 = .ok (.ifCond .eq 16, 3) := by decide +kernel
theorem dX6_order_4 : decode cX6_order 4 = .ok (.iload_n 1, 1) := by decide +kernel
theorem dX6_order_5 : decode cX6_order 5 = .ok (.bipush 10, 2) := by decide +kernel
theorem dX6_order_7 : decode cX6_order 7 = .ok (.isub, 1) := by decide +kernel
theorem dX6_order_8 : decode cX6_order 8 = .ok (.iconst 4, 1) := by decide +kernel
theorem dX6_order_9 : decode cX6_order 9 = .ok (.invokestatic 70, 3) := by decide +kernel
theorem dX6_order_12 : decode cX6_order 12 = .ok (.ifCond .ne 5, 3) := by decide +kernel
theorem dX6_order_15 : decode cX6_order 15 = .ok (.iconst (-1), 1) := by decide +kernel
theorem dX6_order_16 : decode cX6_order 16 = .ok (.ireturn, 1) := by decide +kernel
theorem dX6_order_17 : decode cX6_order 17 = .ok (.aload_n 0, 1) := by decide +kernel
theorem dX6_order_18 : decode cX6_order 18 = .ok (.getfield 24, 3) := by decide +kernel
theorem dX6_order_21 : decode cX6_order 21 = .ok (.getfield 104, 3) := by decide +kernel
theorem dX6_order_24 : decode cX6_order 24 = .ok (.iconst 5, 1) := by decide +kernel
theorem dX6_order_25 : decode cX6_order 25 = .ok (.if_icmp .gt 13, 3) := by decide +kernel
theorem dX6_order_28 : decode cX6_order 28 = .ok (.aload_n 0, 1) := by decide +kernel
theorem dX6_order_29 : decode cX6_order 29 = .ok (.getfield 24, 3) := by decide +kernel
theorem dX6_order_32 : decode cX6_order 32 = .ok (.invokevirtual 110, 3) := by decide +kernel
theorem dX6_order_35 : decode cX6_order 35 = .ok (.ifCond .le 6, 3) := by decide +kernel
theorem dX6_order_38 : decode cX6_order 38 = .ok (.bipush (-2), 2) := by decide +kernel
theorem dX6_order_40 : decode cX6_order 40 = .ok (.ireturn, 1) := by decide +kernel
theorem dX6_order_41 : decode cX6_order 41 = .ok (.aload_n 0, 1) := by decide +kernel
theorem dX6_order_42 : decode cX6_order 42 = .ok (.invokevirtual 176, 3) := by decide +kernel
theorem dX6_order_45 : decode cX6_order 45 = .ok (.iload_n 1, 1) := by decide +kernel
theorem dX6_order_46 : decode cX6_order 46 = .ok (.ifCond .ne 11, 3) := by decide +kernel
theorem dX6_order_49 : decode cX6_order 49 = .ok (.aload_n 0, 1) := by decide +kernel
theorem dX6_order_50 : decode cX6_order 50 = .ok (.getfield 55, 3) := by decide +kernel
theorem dX6_order_53 : decode cX6_order 53 = .ok (.getfield 179, 3) := by decide +kernel
theorem dX6_order_56 : decode cX6_order 56 = .ok (.ireturn, 1) := by decide +kernel
theorem dX6_order_57 : decode cX6_order 57 = .ok (.iload_n 1, 1) := by decide +kernel
theorem dX6_order_58 : decode cX6_order 58 = .ok (.bipush 10, 2) := by decide +kernel
theorem dX6_order_60 : decode cX6_order 60 = .ok (.isub, 1) := by decide +kernel
theorem dX6_order_61 : decode cX6_order 61 = .ok (.istore_n 2, 1) := by decide +kernel
theorem dX6_order_62 : decode cX6_order 62 = .ok (.iload_n 2, 1) := by decide +kernel
theorem dX6_order_63 : decode cX6_order 63 = .ok (.aload_n 0, 1) := by decide +kernel
theorem dX6_order_64 : decode cX6_order 64 = .ok (.getfield 24, 3) := by decide +kernel
theorem dX6_order_67 : decode cX6_order 67 = .ok (.getfield 104, 3) := by decide +kernel
theorem dX6_order_70 : decode cX6_order 70 = .ok (.if_icmp .lt 6, 3) := by decide +kernel
theorem dX6_order_73 : decode cX6_order 73 = .ok (.bipush (-4), 2) := by decide +kernel
theorem dX6_order_75 : decode cX6_order 75 = .ok (.ireturn, 1) := by decide +kernel
theorem dX6_order_76 : decode cX6_order 76 = .ok (.aload_n 0, 1) := by decide +kernel
theorem dX6_order_77 : decode cX6_order 77 = .ok (.aload_n 0, 1) := by decide +kernel
theorem dX6_order_78 : decode cX6_order 78 = .ok (.getfield 55, 3) := by decide +kernel
theorem dX6_order_81 : decode cX6_order 81 = .ok (.getfield 182, 3) := by decide +kernel
theorem dX6_order_84 : decode cX6_order 84 = .ok (.invokevirtual 185, 3) := by decide +kernel
theorem dX6_order_87 : decode cX6_order 87 = .ok (.aload_n 0, 1) := by decide +kernel
theorem dX6_order_88 : decode cX6_order 88 = .ok (.getfield 59, 3) := by decide +kernel
theorem dX6_order_91 : decode cX6_order 91 = .ok (.iload_n 2, 1) := by decide +kernel
theorem dX6_order_92 : decode cX6_order 92 = .ok (.iaload, 1) := by decide +kernel
theorem dX6_order_93 : decode cX6_order 93 = .ok (.ireturn, 1) := by decide +kernel
theorem dX6_findBestOrder_0 : decode cX6_findBestOrder 0 = .ok (.aload_n 0, 1) := by decide +kernel
theorem dX6_findBestOrder_1 : decode cX6_findBestOrder 1 = .ok (.getfield 55, 3) := by decide +kernel
theorem dX6_findBestOrder_4 : decode cX6_findBestOrder 4 = .ok (.sipush 496, 3) := by decide +kernel
theorem dX6_findBestOrder_7 : decode cX6_findBestOrder 7 = .ok (.invokevirtual 189, 3) := by decide +kernel
theorem dX6_findBestOrder_10 : decode cX6_findBestOrder 10 = .ok (.aload_n 0, 1) := by decide +kernel
theorem dX6_findBestOrder_11 : decode cX6_findBestOrder 11 = .ok (.getfield 24, 3) := by decide +kernel
theorem dX6_findBestOrder_14 : decode cX6_findBestOrder 14 = .ok (.getfield 104, 3) := by decide +kernel
theorem dX6_findBestOrder_17 : decode cX6_findBestOrder 17 = .ok (.invokestatic 192, 3) := by decide +kernel
theorem dX6_findBestOrder_20 : decode cX6_findBestOrder 20 = .ok (.istore_n 1, 1) := by decide +kernel
theorem dX6_findBestOrder_21 : decode cX6_findBestOrder 21 = .ok (.iconst 0, 1) := by decide +kernel
theorem dX6_findBestOrder_22 : decode cX6_findBestOrder 22 = .ok (.istore_n 2, 1) := by decide +kernel
theorem dX6_findBestOrder_23 : decode cX6_findBestOrder 23 = .ok (.iload_n 2, 1) := by decide +kernel
theorem dX6_findBestOrder_24 : decode cX6_findBestOrder 24 = .ok (.iload_n 1, 1) := by decide +kernel
theorem dX6_findBestOrder_25 : decode cX6_findBestOrder 25 = .ok (.if_icmp .ge 120, 3) := by decide +kernel
theorem dX6_findBestOrder_28 : decode cX6_findBestOrder 28 = .ok (.aload_n 0, 1) := by decide +kernel
theorem dX6_findBestOrder_29 : decode cX6_findBestOrder 29 = .ok (.iload_n 2, 1) := by decide +kernel
theorem dX6_findBestOrder_30 : decode cX6_findBestOrder 30 = .ok (.invokevirtual 185, 3) := by decide +kernel
theorem dX6_findBestOrder_33 : decode cX6_findBestOrder 33 = .ok (.aload_n 0, 1) := by decide +kernel
theorem dX6_findBestOrder_34 : decode cX6_findBestOrder 34 = .ok (.getfield 28, 3) := by decide +kernel
theorem dX6_findBestOrder_37 : decode cX6_findBestOrder 37 = .ok (.aload_n 0, 1) := by decide +kernel
theorem dX6_findBestOrder_38 : decode cX6_findBestOrder 38 = .ok (.getfield 24, 3) := by decide +kernel
theorem dX6_findBestOrder_41 : decode cX6_findBestOrder 41 = .ok (.invokevirtual 94, 3) := by decide +kernel
theorem dX6_findBestOrder_44 : decode cX6_findBestOrder 44 = .ok (.iconst 0, 1) := by decide +kernel
theorem dX6_findBestOrder_45 : decode cX6_findBestOrder 45 = .ok (.istore_n 3, 1) := by decide +kernel
theorem dX6_findBestOrder_46 : decode cX6_findBestOrder 46 = .ok (.iload_n 3, 1) := by decide +kernel
theorem dX6_findBestOrder_47 : decode cX6_findBestOrder 47 = .ok (.aload_n 0, 1) := by decide +kernel
theorem dX6_findBestOrder_48 : decode cX6_findBestOrder 48 = .ok (.getfield 24, 3) := by decide +kernel
theorem dX6_findBestOrder_51 : decode cX6_findBestOrder 51 = .ok (.getfield 104, 3) := by decide +kernel
theorem dX6_findBestOrder_54 : decode cX6_findBestOrder 54 = .ok (.if_icmp .ge 55, 3) := by decide +kernel
theorem dX6_findBestOrder_57 : decode cX6_findBestOrder 57 = .ok (.aload_n 0, 1) := by decide +kernel
theorem dX6_findBestOrder_58 : decode cX6_findBestOrder 58 = .ok (.getfield 28, 3) := by decide +kernel
theorem dX6_findBestOrder_61 : decode cX6_findBestOrder 61 = .ok (.getfield 142, 3) := by decide +kernel
theorem dX6_findBestOrder_64 : decode cX6_findBestOrder 64 = .ok (.iload_n 3, 1) := by decide +kernel
theorem dX6_findBestOrder_65 : decode cX6_findBestOrder 65 = .ok (.aload_n 0, 1) := by decide +kernel
theorem dX6_findBestOrder_66 : decode cX6_findBestOrder 66 = .ok (.getfield 24, 3) := by decide +kernel
theorem dX6_findBestOrder_69 : decode cX6_findBestOrder 69 = .ok (.getfield 142, 3) := by decide +kernel
theorem dX6_findBestOrder_72 : decode cX6_findBestOrder 72 = .ok (.aload_n 0, 1) := by decide +kernel
theorem dX6_findBestOrder_73 : decode cX6_findBestOrder 73 = .ok (.getfield 59, 3) := by decide +kernel
theorem dX6_findBestOrder_76 : decode cX6_findBestOrder 76 = .ok (.iload_n 3, 1) := by decide +kernel
theorem dX6_findBestOrder_77 : decode cX6_findBestOrder 77 = .ok (.iaload, 1) := by decide +kernel
theorem dX6_findBestOrder_78 : decode cX6_findBestOrder 78 = .ok (.iaload, 1) := by decide +kernel
theorem dX6_findBestOrder_79 : decode cX6_findBestOrder 79 = .ok (.iastore, 1) := by decide +kernel
theorem dX6_findBestOrder_80 : decode cX6_findBestOrder 80 = .ok (.aload_n 0, 1) := by decide +kernel
theorem dX6_findBestOrder_81 : decode cX6_findBestOrder 81 = .ok (.getfield 28, 3) := by decide +kernel
theorem dX6_findBestOrder_84 : decode cX6_findBestOrder 84 = .ok (.getfield 145, 3) := by decide +kernel
theorem dX6_findBestOrder_87 : decode cX6_findBestOrder 87 = .ok (.iload_n 3, 1) := by decide +kernel
theorem dX6_findBestOrder_88 : decode cX6_findBestOrder 88 = .ok (.aload_n 0, 1) := by decide +kernel
theorem dX6_findBestOrder_89 : decode cX6_findBestOrder 89 = .ok (.getfield 24, 3) := by decide +kernel
theorem dX6_findBestOrder_92 : decode cX6_findBestOrder 92 = .ok (.getfield 145, 3) := by decide +kernel
theorem dX6_findBestOrder_95 : decode cX6_findBestOrder 95 = .ok (.aload_n 0, 1) := by decide +kernel
theorem dX6_findBestOrder_96 : decode cX6_findBestOrder 96 = .ok (.getfield 59, 3) := by decide +kernel
theorem dX6_findBestOrder_99 : decode cX6_findBestOrder 99 = .ok (.iload_n 3, 1) := by decide +kernel
theorem dX6_findBestOrder_100 : decode cX6_findBestOrder 100 = .ok (.iaload, 1) := by decide +kernel
theorem dX6_findBestOrder_101 : decode cX6_findBestOrder 101 = .ok (.iaload, 1) := by decide +kernel
theorem dX6_findBestOrder_102 : decode cX6_findBestOrder 102 = .ok (.iastore, 1) := by decide +kernel
theorem dX6_findBestOrder_103 : decode cX6_findBestOrder 103 = .ok (.iinc 3 1, 3) := by decide +kernel
theorem dX6_findBestOrder_106 : decode cX6_findBestOrder 106 = .ok (.goto (-60), 3) := by decide +kernel
theorem dX6_findBestOrder_109 : decode cX6_findBestOrder 109 = .ok (.aload_n 0, 1) := by decide +kernel
theorem dX6_findBestOrder_110 : decode cX6_findBestOrder 110 = .ok (.getfield 28, 3) := by decide +kernel
theorem dX6_findBestOrder_113 : decode cX6_findBestOrder 113 = .ok (.aload_n 0, 1) := by decide +kernel
theorem dX6_findBestOrder_114 : decode cX6_findBestOrder 114 = .ok (.getfield 24, 3) := by decide +kernel
theorem dX6_findBestOrder_117 : decode cX6_findBestOrder 117 = .ok (.getfield 104, 3) := by decide +kernel
theorem dX6_findBestOrder_120 : decode cX6_findBestOrder 120 = .ok (.invokevirtual 166, 3) := by decide +kernel
theorem dX6_findBestOrder_123 : decode cX6_findBestOrder 123 = .ok (.pop, 1) := by decide +kernel
theorem dX6_findBestOrder_124 : decode cX6_findBestOrder 124 = .ok (.aload_n 0, 1) := by decide +kernel
theorem dX6_findBestOrder_125 : decode cX6_findBestOrder 125 = .ok (.getfield 55, 3) := by decide +kernel
theorem dX6_findBestOrder_128 : decode cX6_findBestOrder 128 = .ok (.iload_n 2, 1) := by decide +kernel
theorem dX6_findBestOrder_129 : decode cX6_findBestOrder 129 = .ok (.aload_n 0, 1) := by decide +kernel
theorem dX6_findBestOrder_130 : decode cX6_findBestOrder 130 = .ok (.getfield 28, 3) := by decide +kernel
theorem dX6_findBestOrder_133 : decode cX6_findBestOrder 133 = .ok (.invokevirtual 117, 3) := by decide +kernel
theorem dX6_findBestOrder_136 : decode cX6_findBestOrder 136 = .ok (.invokevirtual 195, 3) := by decide +kernel
theorem dX6_findBestOrder_139 : decode cX6_findBestOrder 139 = .ok (.iinc 2 1, 3) := by decide +kernel
theorem dX6_findBestOrder_142 : decode cX6_findBestOrder 142 = .ok (.goto (-119), 3) := by decide +kernel
theorem dX6_findBestOrder_145 : decode cX6_findBestOrder 145 = .ok (.return_, 1) := by decide +kernel
theorem dX6_setRow_0 : decode cX6_setRow 0 = .ok (.iconst 1, 1) := by decide +kernel
theorem dX6_setRow_1 : decode cX6_setRow 1 = .ok (.aload_n 0, 1) := by decide +kernel
theorem dX6_setRow_2 : decode cX6_setRow 2 = .ok (.getfield 24, 3) := by decide +kernel
theorem dX6_setRow_5 : decode cX6_setRow 5 = .ok (.getfield 104, 3) := by decide +kernel
theorem dX6_setRow_8 : decode cX6_setRow 8 = .ok (.ishl, 1) := by decide +kernel
theorem dX6_setRow_9 : decode cX6_setRow 9 = .ok (.iconst 1, 1) := by decide +kernel
theorem dX6_setRow_10 : decode cX6_setRow 10 = .ok (.isub, 1) := by decide +kernel
theorem dX6_setRow_11 : decode cX6_setRow 11 = .ok (.istore_n 2, 1) := by decide +kernel
theorem dX6_setRow_12 : decode cX6_setRow 12 = .ok (.iload_n 1, 1) := by decide +kernel
theorem dX6_setRow_13 : decode cX6_setRow 13 = .ok (.istore_n 3, 1) := by decide +kernel
theorem dX6_setRow_14 : decode cX6_setRow 14 = .ok (.iconst 0, 1) := by decide +kernel
theorem dX6_setRow_15 : decode cX6_setRow 15 = .ok (.istore 4, 2) := by decide +kernel
theorem dX6_setRow_17 : decode cX6_setRow 17 = .ok (.iload 4, 2) := by decide +kernel
theorem dX6_setRow_19 : decode cX6_setRow 19 = .ok (.aload_n 0, 1) := by decide +kernel
theorem dX6_setRow_20 : decode cX6_setRow 20 = .ok (.getfield 24, 3) := by decide +kernel
theorem dX6_setRow_23 : decode cX6_setRow 23 = .ok (.getfield 104, 3) := by decide +kernel
theorem dX6_setRow_26 : decode cX6_setRow 26 = .ok (.if_icmp .ge 59, 3) := by decide +kernel
theorem dX6_setRow_29 : decode cX6_setRow 29 = .ok (.aload_n 0, 1) := by decide +kernel
theorem dX6_setRow_30 : decode cX6_setRow 30 = .ok (.getfield 24, 3) := by decide +kernel
theorem dX6_setRow_33 : decode cX6_setRow 33 = .ok (.getfield 104, 3) := by decide +kernel
theorem dX6_setRow_36 : decode cX6_setRow 36 = .ok (.iconst 1, 1) := by decide +kernel
theorem dX6_setRow_37 : decode cX6_setRow 37 = .ok (.isub, 1) := by decide +kernel
theorem dX6_setRow_38 : decode cX6_setRow 38 = .ok (.iload 4, 2) := by decide +kernel
theorem dX6_setRow_40 : decode cX6_setRow 40 = .ok (.isub, 1) := by decide +kernel
theorem dX6_setRow_41 : decode cX6_setRow 41 = .ok (.invokestatic 192, 3) := by decide +kernel
theorem dX6_setRow_44 : decode cX6_setRow 44 = .ok (.istore 5, 2) := by decide +kernel
theorem dX6_setRow_46 : decode cX6_setRow 46 = .ok (.iload_n 2, 1) := by decide +kernel
theorem dX6_setRow_47 : decode cX6_setRow 47 = .ok (.iload_n 3, 1) := by decide +kernel
theorem dX6_setRow_48 : decode cX6_setRow 48 = .ok (.iload 5, 2) := by decide +kernel
theorem dX6_setRow_50 : decode cX6_setRow 50 = .ok (.idiv, 1) := by decide +kernel
theorem dX6_setRow_51 : decode cX6_setRow 51 = .ok (.invokestatic 199, 3) := by decide +kernel
theorem dX6_setRow_54 : decode cX6_setRow 54 = .ok (.istore 6, 2) := by decide +kernel
theorem dX6_setRow_56 : decode cX6_setRow 56 = .ok (.aload_n 0, 1) := by decide +kernel
theorem dX6_setRow_57 : decode cX6_setRow 57 = .ok (.getfield 59, 3) := by decide +kernel
theorem dX6_setRow_60 : decode cX6_setRow 60 = .ok (.iload 4, 2) := by decide +kernel
theorem dX6_setRow_62 : decode cX6_setRow 62 = .ok (.iload 6, 2) := by decide +kernel
theorem dX6_setRow_64 : decode cX6_setRow 64 = .ok (.iastore, 1) := by decide +kernel
theorem dX6_setRow_65 : decode cX6_setRow 65 = .ok (.iload_n 2, 1) := by decide +kernel
theorem dX6_setRow_66 : decode cX6_setRow 66 = .ok (.iconst 1, 1) := by decide +kernel
theorem dX6_setRow_67 : decode cX6_setRow 67 = .ok (.iload 6, 2) := by decide +kernel
theorem dX6_setRow_69 : decode cX6_setRow 69 = .ok (.ishl, 1) := by decide +kernel
theorem dX6_setRow_70 : decode cX6_setRow 70 = .ok (.iconst (-1), 1) := by decide +kernel
theorem dX6_setRow_71 : decode cX6_setRow 71 = .ok (.ixor, 1) := by decide +kernel
theorem dX6_setRow_72 : decode cX6_setRow 72 = .ok (.iand, 1) := by decide +kernel
theorem dX6_setRow_73 : decode cX6_setRow 73 = .ok (.istore_n 2, 1) := by decide +kernel
theorem dX6_setRow_74 : decode cX6_setRow 74 = .ok (.iload_n 3, 1) := by decide +kernel
theorem dX6_setRow_75 : decode cX6_setRow 75 = .ok (.iload 5, 2) := by decide +kernel
theorem dX6_setRow_77 : decode cX6_setRow 77 = .ok (.irem, 1) := by decide +kernel
theorem dX6_setRow_78 : decode cX6_setRow 78 = .ok (.istore_n 3, 1) := by decide +kernel
theorem dX6_setRow_79 : decode cX6_setRow 79 = .ok (.iinc 4 1, 3) := by decide +kernel
theorem dX6_setRow_82 : decode cX6_setRow 82 = .ok (.goto (-65), 3) := by decide +kernel
theorem dX6_setRow_85 : decode cX6_setRow 85 = .ok (.return_, 1) := by decide +kernel
theorem dX6_nthBit_0 : decode cX6_nthBit 0 = .ok (.iload_n 1, 1) := by decide +kernel
theorem dX6_nthBit_1 : decode cX6_nthBit 1 = .ok (.istore_n 2, 1) := by decide +kernel
theorem dX6_nthBit_2 : decode cX6_nthBit 2 = .ok (.iconst 0, 1) := by decide +kernel
theorem dX6_nthBit_3 : decode cX6_nthBit 3 = .ok (.istore_n 3, 1) := by decide +kernel
theorem dX6_nthBit_4 : decode cX6_nthBit 4 = .ok (.iload_n 3, 1) := by decide +kernel
theorem dX6_nthBit_5 : decode cX6_nthBit 5 = .ok (.iconst 5, 1) := by decide +kernel
theorem dX6_nthBit_6 : decode cX6_nthBit 6 = .ok (.if_icmp .ge 27, 3) := by decide +kernel
theorem dX6_nthBit_9 : decode cX6_nthBit 9 = .ok (.iload_n 0, 1) := by decide +kernel
theorem dX6_nthBit_10 : decode cX6_nthBit 10 = .ok (.iload_n 3, 1) := by decide +kernel
theorem dX6_nthBit_11 : decode cX6_nthBit 11 = .ok (.ishr, 1) := by decide +kernel
theorem dX6_nthBit_12 : decode cX6_nthBit 12 = .ok (.iconst 1, 1) := by decide +kernel
theorem dX6_nthBit_13 : decode cX6_nthBit 13 = .ok (.iand, 1) := by decide +kernel
theorem dX6_nthBit_14 : decode cX6_nthBit 14 = .ok (.iconst 1, 1) := by decide +kernel
theorem dX6_nthBit_15 : decode cX6_nthBit 15 = .ok (.if_icmp .ne 12, 3) := by decide +kernel
theorem dX6_nthBit_18 : decode cX6_nthBit 18 = .ok (.iload_n 2, 1) := by decide +kernel
theorem dX6_nthBit_19 : decode cX6_nthBit 19 = .ok (.ifCond .ne 5, 3) := by decide +kernel
theorem dX6_nthBit_22 : decode cX6_nthBit 22 = .ok (.iload_n 3, 1) := by decide +kernel
theorem dX6_nthBit_23 : decode cX6_nthBit 23 = .ok (.ireturn, 1) := by decide +kernel
theorem dX6_nthBit_24 : decode cX6_nthBit 24 = .ok (.iinc 2 (-1), 3) := by decide +kernel
theorem dX6_nthBit_27 : decode cX6_nthBit 27 = .ok (.iinc 3 1, 3) := by decide +kernel
theorem dX6_nthBit_30 : decode cX6_nthBit 30 = .ok (.goto (-26), 3) := by decide +kernel
theorem dX6_nthBit_33 : decode cX6_nthBit 33 = .ok (.iconst 0, 1) := by decide +kernel
theorem dX6_nthBit_34 : decode cX6_nthBit 34 = .ok (.ireturn, 1) := by decide +kernel
theorem dX6_factorial_0 : decode cX6_factorial 0 = .ok (.iconst 1, 1) := by decide +kernel
theorem dX6_factorial_1 : decode cX6_factorial 1 = .ok (.istore_n 1, 1) := by decide +kernel
theorem dX6_factorial_2 : decode cX6_factorial 2 = .ok (.iconst 2, 1) := by decide +kernel
theorem dX6_factorial_3 : decode cX6_factorial 3 = .ok (.istore_n 2, 1) := by decide +kernel
theorem dX6_factorial_4 : decode cX6_factorial 4 = .ok (.iload_n 2, 1) := by decide +kernel
theorem dX6_factorial_5 : decode cX6_factorial 5 = .ok (.iload_n 0, 1) := by decide +kernel
theorem dX6_factorial_6 : decode cX6_factorial 6 = .ok (.if_icmp .gt 18, 3) := by decide +kernel
theorem dX6_factorial_9 : decode cX6_factorial 9 = .ok (.iload_n 2, 1) := by decide +kernel
theorem dX6_factorial_10 : decode cX6_factorial 10 = .ok (.iconst 5, 1) := by decide +kernel
theorem dX6_factorial_11 : decode cX6_factorial 11 = .ok (.if_icmp .gt 13, 3) := by decide +kernel
theorem dX6_factorial_14 : decode cX6_factorial 14 = .ok (.iload_n 1, 1) := by decide +kernel
theorem dX6_factorial_15 : decode cX6_factorial 15 = .ok (.iload_n 2, 1) := by decide +kernel
theorem dX6_factorial_16 : decode cX6_factorial 16 = .ok (.imul, 1) := by decide +kernel
theorem dX6_factorial_17 : decode cX6_factorial 17 = .ok (.istore_n 1, 1) := by decide +kernel
theorem dX6_factorial_18 : decode cX6_factorial 18 = .ok (.iinc 2 1, 3) := by decide +kernel
theorem dX6_factorial_21 : decode cX6_factorial 21 = .ok (.goto (-17), 3) := by decide +kernel
theorem dX6_factorial_24 : decode cX6_factorial 24 = .ok (.iload_n 1, 1) := by decide +kernel
theorem dX6_factorial_25 : decode cX6_factorial 25 = .ok (.ireturn, 1) := by decide +kernel
theorem dX6_loan_0 : decode cX6_loan 0 = .ok (.iload_n 1, 1) := by decide +kernel
theorem dX6_loan_1 : decode cX6_loan 1 = .ok (.bipush 60, 2) := by decide +kernel
theorem dX6_loan_3 : decode cX6_loan 3 = .ok (.invokestatic 70, 3) := by decide +kernel
theorem dX6_loan_6 : decode cX6_loan 6 = .ok (.ifCond .eq 11, 3) := by decide +kernel
theorem dX6_loan_9 : decode cX6_loan 9 = .ok (.iload_n 2, 1) := by decide +kernel
theorem dX6_loan_10 : decode cX6_loan 10 = .ok (.iconst 1, 1) := by decide +kernel
theorem dX6_loan_11 : decode cX6_loan 11 = .ok (.invokestatic 70, 3) := by decide +kernel
theorem dX6_loan_14 : decode cX6_loan 14 = .ok (.ifCond .ne 5, 3) := by decide +kernel
theorem dX6_loan_17 : decode cX6_loan 17 = .ok (.iconst (-1), 1) := by decide +kernel
theorem dX6_loan_18 : decode cX6_loan 18 = .ok (.ireturn, 1) := by decide +kernel
theorem dX6_loan_19 : decode cX6_loan 19 = .ok (.aload_n 0, 1) := by decide +kernel
theorem dX6_loan_20 : decode cX6_loan 20 = .ok (.getfield 55, 3) := by decide +kernel
theorem dX6_loan_23 : decode cX6_loan 23 = .ok (.aload_n 0, 1) := by decide +kernel
theorem dX6_loan_24 : decode cX6_loan 24 = .ok (.iload_n 1, 1) := by decide +kernel
theorem dX6_loan_25 : decode cX6_loan 25 = .ok (.invokevirtual 202, 3) := by decide +kernel
theorem dX6_loan_28 : decode cX6_loan 28 = .ok (.invokevirtual 189, 3) := by decide +kernel
theorem dX6_loan_31 : decode cX6_loan 31 = .ok (.iconst 0, 1) := by decide +kernel
theorem dX6_loan_32 : decode cX6_loan 32 = .ok (.istore_n 3, 1) := by decide +kernel
theorem dX6_loan_33 : decode cX6_loan 33 = .ok (.iload_n 3, 1) := by decide +kernel
theorem dX6_loan_34 : decode cX6_loan 34 = .ok (.aload_n 0, 1) := by decide +kernel
theorem dX6_loan_35 : decode cX6_loan 35 = .ok (.getfield 24, 3) := by decide +kernel
theorem dX6_loan_38 : decode cX6_loan 38 = .ok (.getfield 101, 3) := by decide +kernel
theorem dX6_loan_41 : decode cX6_loan 41 = .ok (.if_icmp .ge 91, 3) := by decide +kernel
theorem dX6_loan_44 : decode cX6_loan 44 = .ok (.iconst 0, 1) := by decide +kernel
theorem dX6_loan_45 : decode cX6_loan 45 = .ok (.istore 4, 2) := by decide +kernel
theorem dX6_loan_47 : decode cX6_loan 47 = .ok (.iload 4, 2) := by decide +kernel
theorem dX6_loan_49 : decode cX6_loan 49 = .ok (.aload_n 0, 1) := by decide +kernel
theorem dX6_loan_50 : decode cX6_loan 50 = .ok (.getfield 24, 3) := by decide +kernel
theorem dX6_loan_53 : decode cX6_loan 53 = .ok (.getfield 101, 3) := by decide +kernel
theorem dX6_loan_56 : decode cX6_loan 56 = .ok (.if_icmp .ge 70, 3) := by decide +kernel
theorem dX6_loan_59 : decode cX6_loan 59 = .ok (.aload_n 0, 1) := by decide +kernel
theorem dX6_loan_60 : decode cX6_loan 60 = .ok (.getfield 28, 3) := by decide +kernel
theorem dX6_loan_63 : decode cX6_loan 63 = .ok (.aload_n 0, 1) := by decide +kernel
theorem dX6_loan_64 : decode cX6_loan 64 = .ok (.getfield 24, 3) := by decide +kernel
theorem dX6_loan_67 : decode cX6_loan 67 = .ok (.invokevirtual 94, 3) := by decide +kernel
theorem dX6_loan_70 : decode cX6_loan 70 = .ok (.iload_n 3, 1) := by decide +kernel
theorem dX6_loan_71 : decode cX6_loan 71 = .ok (.iload 4, 2) := by decide +kernel
theorem dX6_loan_73 : decode cX6_loan 73 = .ok (.if_icmp .eq 47, 3) := by decide +kernel
theorem dX6_loan_76 : decode cX6_loan 76 = .ok (.aload_n 0, 1) := by decide +kernel
theorem dX6_loan_77 : decode cX6_loan 77 = .ok (.getfield 28, 3) := by decide +kernel
theorem dX6_loan_80 : decode cX6_loan 80 = .ok (.iload_n 3, 1) := by decide +kernel
theorem dX6_loan_81 : decode cX6_loan 81 = .ok (.iload 4, 2) := by decide +kernel
theorem dX6_loan_83 : decode cX6_loan 83 = .ok (.iconst 1, 1) := by decide +kernel
theorem dX6_loan_84 : decode cX6_loan 84 = .ok (.invokevirtual 159, 3) := by decide +kernel
theorem dX6_loan_87 : decode cX6_loan 87 = .ok (.ifCond .lt 33, 3) := by decide +kernel
theorem dX6_loan_90 : decode cX6_loan 90 = .ok (.aload_n 0, 1) := by decide +kernel
theorem dX6_loan_91 : decode cX6_loan 91 = .ok (.getfield 28, 3) := by decide +kernel
theorem dX6_loan_94 : decode cX6_loan 94 = .ok (.iload_n 1, 1) := by decide +kernel
theorem dX6_loan_95 : decode cX6_loan 95 = .ok (.invokevirtual 166, 3) := by decide +kernel
theorem dX6_loan_98 : decode cX6_loan 98 = .ok (.pop, 1) := by decide +kernel
theorem dX6_loan_99 : decode cX6_loan 99 = .ok (.aload_n 0, 1) := by decide +kernel
theorem dX6_loan_100 : decode cX6_loan 100 = .ok (.getfield 55, 3) := by decide +kernel
theorem dX6_loan_103 : decode cX6_loan 103 = .ok (.bipush 10, 2) := by decide +kernel
theorem dX6_loan_105 : decode cX6_loan 105 = .ok (.iload_n 3, 1) := by decide +kernel
theorem dX6_loan_106 : decode cX6_loan 106 = .ok (.imul, 1) := by decide +kernel
theorem dX6_loan_107 : decode cX6_loan 107 = .ok (.iload 4, 2) := by decide +kernel
theorem dX6_loan_109 : decode cX6_loan 109 = .ok (.iadd, 1) := by decide +kernel
theorem dX6_loan_110 : decode cX6_loan 110 = .ok (.aload_n 0, 1) := by decide +kernel
theorem dX6_loan_111 : decode cX6_loan 111 = .ok (.getfield 28, 3) := by decide +kernel
theorem dX6_loan_114 : decode cX6_loan 114 = .ok (.invokevirtual 117, 3) := by decide +kernel
theorem dX6_loan_117 : decode cX6_loan 117 = .ok (.invokevirtual 195, 3) := by decide +kernel
theorem dX6_loan_120 : decode cX6_loan 120 = .ok (.iinc 4 1, 3) := by decide +kernel
theorem dX6_loan_123 : decode cX6_loan 123 = .ok (.goto (-76), 3) := by decide +kernel
theorem dX6_loan_126 : decode cX6_loan 126 = .ok (.iinc 3 1, 3) := by decide +kernel
theorem dX6_loan_129 : decode cX6_loan 129 = .ok (.goto (-96), 3) := by decide +kernel
theorem dX6_loan_132 : decode cX6_loan 132 = .ok (.aload_n 0, 1) := by decide +kernel
theorem dX6_loan_133 : decode cX6_loan 133 = .ok (.getfield 55, 3) := by decide +kernel
theorem dX6_loan_136 : decode cX6_loan 136 = .ok (.iload_n 2, 1) := by decide +kernel
theorem dX6_loan_137 : decode cX6_loan 137 = .ok (.invokevirtual 205, 3) := by decide +kernel
theorem dX6_loan_140 : decode cX6_loan 140 = .ok (.ireturn, 1) := by decide +kernel
theorem dX6_swap_0 : decode cX6_swap 0 = .ok (.iload_n 1, 1) := by decide +kernel
theorem dX6_swap_1 : decode cX6_swap 1 = .ok (.bipush 60, 2) := by decide +kernel
theorem dX6_swap_3 : decode cX6_swap 3 = .ok (.invokestatic 70, 3) := by decide +kernel
theorem dX6_swap_6 : decode cX6_swap 6 = .ok (.ifCond .eq 11, 3) := by decide +kernel
theorem dX6_swap_9 : decode cX6_swap 9 = .ok (.iload_n 2, 1) := by decide +kernel
theorem dX6_swap_10 : decode cX6_swap 10 = .ok (.iconst 1, 1) := by decide +kernel
theorem dX6_swap_11 : decode cX6_swap 11 = .ok (.invokestatic 70, 3) := by decide +kernel
theorem dX6_swap_14 : decode cX6_swap 14 = .ok (.ifCond .ne 5, 3) := by decide +kernel
theorem dX6_swap_17 : decode cX6_swap 17 = .ok (.iconst (-1), 1) := by decide +kernel
theorem dX6_swap_18 : decode cX6_swap 18 = .ok (.ireturn, 1) := by decide +kernel
theorem dX6_swap_19 : decode cX6_swap 19 = .ok (.aload_n 0, 1) := by decide +kernel
theorem dX6_swap_20 : decode cX6_swap 20 = .ok (.getfield 55, 3) := by decide +kernel
theorem dX6_swap_23 : decode cX6_swap 23 = .ok (.aload_n 0, 1) := by decide +kernel
theorem dX6_swap_24 : decode cX6_swap 24 = .ok (.iload_n 1, 1) := by decide +kernel
theorem dX6_swap_25 : decode cX6_swap 25 = .ok (.invokevirtual 202, 3) := by decide +kernel
theorem dX6_swap_28 : decode cX6_swap 28 = .ok (.invokevirtual 189, 3) := by decide +kernel
theorem dX6_swap_31 : decode cX6_swap 31 = .ok (.iconst 0, 1) := by decide +kernel
theorem dX6_swap_32 : decode cX6_swap 32 = .ok (.istore_n 3, 1) := by decide +kernel
theorem dX6_swap_33 : decode cX6_swap 33 = .ok (.iload_n 3, 1) := by decide +kernel
theorem dX6_swap_34 : decode cX6_swap 34 = .ok (.aload_n 0, 1) := by decide +kernel
theorem dX6_swap_35 : decode cX6_swap 35 = .ok (.getfield 24, 3) := by decide +kernel
theorem dX6_swap_38 : decode cX6_swap 38 = .ok (.getfield 104, 3) := by decide +kernel
theorem dX6_swap_41 : decode cX6_swap 41 = .ok (.if_icmp .ge 83, 3) := by decide +kernel
theorem dX6_swap_44 : decode cX6_swap 44 = .ok (.iload_n 3, 1) := by decide +kernel
theorem dX6_swap_45 : decode cX6_swap 45 = .ok (.iconst 1, 1) := by decide +kernel
theorem dX6_swap_46 : decode cX6_swap 46 = .ok (.iadd, 1) := by decide +kernel
theorem dX6_swap_47 : decode cX6_swap 47 = .ok (.istore 4, 2) := by decide +kernel
theorem dX6_swap_49 : decode cX6_swap 49 = .ok (.iload 4, 2) := by decide +kernel
theorem dX6_swap_51 : decode cX6_swap 51 = .ok (.aload_n 0, 1) := by decide +kernel
theorem dX6_swap_52 : decode cX6_swap 52 = .ok (.getfield 24, 3) := by decide +kernel
theorem dX6_swap_55 : decode cX6_swap 55 = .ok (.getfield 104, 3) := by decide +kernel
theorem dX6_swap_58 : decode cX6_swap 58 = .ok (.if_icmp .ge 60, 3) := by decide +kernel
theorem dX6_swap_61 : decode cX6_swap 61 = .ok (.aload_n 0, 1) := by decide +kernel
theorem dX6_swap_62 : decode cX6_swap 62 = .ok (.getfield 28, 3) := by decide +kernel
theorem dX6_swap_65 : decode cX6_swap 65 = .ok (.aload_n 0, 1) := by decide +kernel
theorem dX6_swap_66 : decode cX6_swap 66 = .ok (.getfield 24, 3) := by decide +kernel
theorem dX6_swap_69 : decode cX6_swap 69 = .ok (.invokevirtual 94, 3) := by decide +kernel
theorem dX6_swap_72 : decode cX6_swap 72 = .ok (.aload_n 0, 1) := by decide +kernel
theorem dX6_swap_73 : decode cX6_swap 73 = .ok (.getfield 28, 3) := by decide +kernel
theorem dX6_swap_76 : decode cX6_swap 76 = .ok (.iload_n 3, 1) := by decide +kernel
theorem dX6_swap_77 : decode cX6_swap 77 = .ok (.iload 4, 2) := by decide +kernel
theorem dX6_swap_79 : decode cX6_swap 79 = .ok (.invokevirtual 208, 3) := by decide +kernel
theorem dX6_swap_82 : decode cX6_swap 82 = .ok (.aload_n 0, 1) := by decide +kernel
theorem dX6_swap_83 : decode cX6_swap 83 = .ok (.getfield 28, 3) := by decide +kernel
theorem dX6_swap_86 : decode cX6_swap 86 = .ok (.iload_n 1, 1) := by decide +kernel
theorem dX6_swap_87 : decode cX6_swap 87 = .ok (.invokevirtual 166, 3) := by decide +kernel
theorem dX6_swap_90 : decode cX6_swap 90 = .ok (.pop, 1) := by decide +kernel
theorem dX6_swap_91 : decode cX6_swap 91 = .ok (.aload_n 0, 1) := by decide +kernel
theorem dX6_swap_92 : decode cX6_swap 92 = .ok (.getfield 55, 3) := by decide +kernel
theorem dX6_swap_95 : decode cX6_swap 95 = .ok (.bipush 10, 2) := by decide +kernel
theorem dX6_swap_97 : decode cX6_swap 97 = .ok (.iload_n 3, 1) := by decide +kernel
theorem dX6_swap_98 : decode cX6_swap 98 = .ok (.imul, 1) := by decide +kernel
theorem dX6_swap_99 : decode cX6_swap 99 = .ok (.iload 4, 2) := by decide +kernel
theorem dX6_swap_101 : decode cX6_swap 101 = .ok (.iadd, 1) := by decide +kernel
theorem dX6_swap_102 : decode cX6_swap 102 = .ok (.aload_n 0, 1) := by decide +kernel
theorem dX6_swap_103 : decode cX6_swap 103 = .ok (.getfield 28, 3) := by decide +kernel
theorem dX6_swap_106 : decode cX6_swap 106 = .ok (.invokevirtual 117, 3) := by decide +kernel
theorem dX6_swap_109 : decode cX6_swap 109 = .ok (.invokevirtual 195, 3) := by decide +kernel
theorem dX6_swap_112 : decode cX6_swap 112 = .ok (.iinc 4 1, 3) := by decide +kernel
theorem dX6_swap_115 : decode cX6_swap 115 = .ok (.goto (-66), 3) := by decide +kernel
theorem dX6_swap_118 : decode cX6_swap 118 = .ok (.iinc 3 1, 3) := by decide +kernel
theorem dX6_swap_121 : decode cX6_swap 121 = .ok (.goto (-88), 3) := by decide +kernel
theorem dX6_swap_124 : decode cX6_swap 124 = .ok (.aload_n 0, 1) := by decide +kernel
theorem dX6_swap_125 : decode cX6_swap 125 = .ok (.getfield 55, 3) := by decide +kernel
theorem dX6_swap_128 : decode cX6_swap 128 = .ok (.iload_n 2, 1) := by decide +kernel
theorem dX6_swap_129 : decode cX6_swap 129 = .ok (.invokevirtual 205, 3) := by decide +kernel
theorem dX6_swap_132 : decode cX6_swap 132 = .ok (.ireturn, 1) := by decide +kernel
theorem dX6_skip_0 : decode cX6_skip 0 = .ok (.iload_n 1, 1) := by decide +kernel
theorem dX6_skip_1 : decode cX6_skip 1 = .ok (.bipush 60, 2) := by decide +kernel
theorem dX6_skip_3 : decode cX6_skip 3 = .ok (.invokestatic 70, 3) := by decide +kernel
theorem dX6_skip_6 : decode cX6_skip 6 = .ok (.ifCond .eq 11, 3) := by decide +kernel
theorem dX6_skip_9 : decode cX6_skip 9 = .ok (.iload_n 2, 1) := by decide +kernel
theorem dX6_skip_10 : decode cX6_skip 10 = .ok (.iconst 1, 1) := by decide +kernel
theorem dX6_skip_11 : decode cX6_skip 11 = .ok (.invokestatic 70, 3) := by decide +kernel
theorem dX6_skip_14 : decode cX6_skip 14 = .ok (.ifCond .ne 5, 3) := by decide +kernel
theorem dX6_skip_17 : decode cX6_skip 17 = .ok (.iconst (-1), 1) := by decide +kernel
theorem dX6_skip_18 : decode cX6_skip 18 = .ok (.ireturn, 1) := by decide +kernel
theorem dX6_skip_19 : decode cX6_skip 19 = .ok (.aload_n 0, 1) := by decide +kernel
theorem dX6_skip_20 : decode cX6_skip 20 = .ok (.getfield 55, 3) := by decide +kernel
theorem dX6_skip_23 : decode cX6_skip 23 = .ok (.aload_n 0, 1) := by decide +kernel
theorem dX6_skip_24 : decode cX6_skip 24 = .ok (.iload_n 1, 1) := by decide +kernel
theorem dX6_skip_25 : decode cX6_skip 25 = .ok (.invokevirtual 202, 3) := by decide +kernel
theorem dX6_skip_28 : decode cX6_skip 28 = .ok (.invokevirtual 189, 3) := by decide +kernel
theorem dX6_skip_31 : decode cX6_skip 31 = .ok (.iconst 0, 1) := by decide +kernel
theorem dX6_skip_32 : decode cX6_skip 32 = .ok (.istore_n 3, 1) := by decide +kernel
theorem dX6_skip_33 : decode cX6_skip 33 = .ok (.iload_n 3, 1) := by decide +kernel
theorem dX6_skip_34 : decode cX6_skip 34 = .ok (.aload_n 0, 1) := by decide +kernel
theorem dX6_skip_35 : decode cX6_skip 35 = .ok (.getfield 24, 3) := by decide +kernel
theorem dX6_skip_38 : decode cX6_skip 38 = .ok (.getfield 104, 3) := by decide +kernel
theorem dX6_skip_41 : decode cX6_skip 41 = .ok (.if_icmp .ge 74, 3) := by decide +kernel
theorem dX6_skip_44 : decode cX6_skip 44 = .ok (.aload_n 0, 1) := by decide +kernel
theorem dX6_skip_45 : decode cX6_skip 45 = .ok (.getfield 28, 3) := by decide +kernel
theorem dX6_skip_48 : decode cX6_skip 48 = .ok (.aload_n 0, 1) := by decide +kernel
theorem dX6_skip_49 : decode cX6_skip 49 = .ok (.getfield 24, 3) := by decide +kernel
theorem dX6_skip_52 : decode cX6_skip 52 = .ok (.invokevirtual 94, 3) := by decide +kernel
theorem dX6_skip_55 : decode cX6_skip 55 = .ok (.iconst 0, 1) := by decide +kernel
theorem dX6_skip_56 : decode cX6_skip 56 = .ok (.istore 4, 2) := by decide +kernel
theorem dX6_skip_58 : decode cX6_skip 58 = .ok (.iload 4, 2) := by decide +kernel
theorem dX6_skip_60 : decode cX6_skip 60 = .ok (.iload_n 1, 1) := by decide +kernel
theorem dX6_skip_61 : decode cX6_skip 61 = .ok (.if_icmp .ge 33, 3) := by decide +kernel
theorem dX6_skip_64 : decode cX6_skip 64 = .ok (.aload_n 0, 1) := by decide +kernel
theorem dX6_skip_65 : decode cX6_skip 65 = .ok (.getfield 28, 3) := by decide +kernel
theorem dX6_skip_68 : decode cX6_skip 68 = .ok (.aload_n 0, 1) := by decide +kernel
theorem dX6_skip_69 : decode cX6_skip 69 = .ok (.getfield 28, 3) := by decide +kernel
theorem dX6_skip_72 : decode cX6_skip 72 = .ok (.invokevirtual 110, 3) := by decide +kernel
theorem dX6_skip_75 : decode cX6_skip 75 = .ok (.iload_n 3, 1) := by decide +kernel
theorem dX6_skip_76 : decode cX6_skip 76 = .ok (.if_icmp .ne 7, 3) := by decide +kernel
theorem dX6_skip_79 : decode cX6_skip 79 = .ok (.iconst 1, 1) := by decide +kernel
theorem dX6_skip_80 : decode cX6_skip 80 = .ok (.goto 4, 3) := by decide +kernel
theorem dX6_skip_83 : decode cX6_skip 83 = .ok (.iconst 0, 1) := by decide +kernel
theorem dX6_skip_84 : decode cX6_skip 84 = .ok (.invokevirtual 169, 3) := by decide +kernel
theorem dX6_skip_87 : decode cX6_skip 87 = .ok (.pop, 1) := by decide +kernel
theorem dX6_skip_88 : decode cX6_skip 88 = .ok (.iinc 4 1, 3) := by decide +kernel
theorem dX6_skip_91 : decode cX6_skip 91 = .ok (.goto (-33), 3) := by decide +kernel
theorem dX6_skip_94 : decode cX6_skip 94 = .ok (.aload_n 0, 1) := by decide +kernel
theorem dX6_skip_95 : decode cX6_skip 95 = .ok (.getfield 55, 3) := by decide +kernel
theorem dX6_skip_98 : decode cX6_skip 98 = .ok (.iload_n 3, 1) := by decide +kernel
theorem dX6_skip_99 : decode cX6_skip 99 = .ok (.aload_n 0, 1) := by decide +kernel
theorem dX6_skip_100 : decode cX6_skip 100 = .ok (.getfield 28, 3) := by decide +kernel
theorem dX6_skip_103 : decode cX6_skip 103 = .ok (.invokevirtual 117, 3) := by decide +kernel
theorem dX6_skip_106 : decode cX6_skip 106 = .ok (.invokevirtual 195, 3) := by decide +kernel
theorem dX6_skip_109 : decode cX6_skip 109 = .ok (.iinc 3 1, 3) := by decide +kernel
theorem dX6_skip_112 : decode cX6_skip 112 = .ok (.goto (-79), 3) := by decide +kernel
theorem dX6_skip_115 : decode cX6_skip 115 = .ok (.aload_n 0, 1) := by decide +kernel
theorem dX6_skip_116 : decode cX6_skip 116 = .ok (.getfield 55, 3) := by decide +kernel
theorem dX6_skip_119 : decode cX6_skip 119 = .ok (.iload_n 2, 1) := by decide +kernel
theorem dX6_skip_120 : decode cX6_skip 120 = .ok (.invokevirtual 205, 3) := by decide +kernel
theorem dX6_skip_123 : decode cX6_skip 123 = .ok (.ireturn, 1) := by decide +kernel
theorem dX6_owedAsItIs_0 : decode cX6_owedAsItIs 0 = .ok (.aload_n 0, 1) := by decide +kernel
theorem dX6_owedAsItIs_1 : decode cX6_owedAsItIs 1 = .ok (.getfield 28, 3) := by decide +kernel
theorem dX6_owedAsItIs_4 : decode cX6_owedAsItIs 4 = .ok (.aload_n 0, 1) := by decide +kernel
theorem dX6_owedAsItIs_5 : decode cX6_owedAsItIs 5 = .ok (.getfield 24, 3) := by decide +kernel
theorem dX6_owedAsItIs_8 : decode cX6_owedAsItIs 8 = .ok (.invokevirtual 94, 3) := by decide +kernel
theorem dX6_owedAsItIs_11 : decode cX6_owedAsItIs 11 = .ok (.aload_n 0, 1) := by decide +kernel
theorem dX6_owedAsItIs_12 : decode cX6_owedAsItIs 12 = .ok (.getfield 28, 3) := by decide +kernel
theorem dX6_owedAsItIs_15 : decode cX6_owedAsItIs 15 = .ok (.iload_n 1, 1) := by decide +kernel
theorem dX6_owedAsItIs_16 : decode cX6_owedAsItIs 16 = .ok (.invokevirtual 166, 3) := by decide +kernel
theorem dX6_owedAsItIs_19 : decode cX6_owedAsItIs 19 = .ok (.pop, 1) := by decide +kernel
theorem dX6_owedAsItIs_20 : decode cX6_owedAsItIs 20 = .ok (.aload_n 0, 1) := by decide +kernel
theorem dX6_owedAsItIs_21 : decode cX6_owedAsItIs 21 = .ok (.getfield 28, 3) := by decide +kernel
theorem dX6_owedAsItIs_24 : decode cX6_owedAsItIs 24 = .ok (.invokevirtual 117, 3) := by decide +kernel
theorem dX6_owedAsItIs_27 : decode cX6_owedAsItIs 27 = .ok (.ireturn, 1) := by decide +kernel
theorem dX6_most_0 : decode cX6_most 0 = .ok (.aload_n 0, 1) := by decide +kernel
theorem dX6_most_1 : decode cX6_most 1 = .ok (.getfield 24, 3) := by decide +kernel
theorem dX6_most_4 : decode cX6_most 4 = .ok (.iload_n 1, 1) := by decide +kernel
theorem dX6_most_5 : decode cX6_most 5 = .ok (.invokevirtual 120, 3) := by decide +kernel
theorem dX6_most_8 : decode cX6_most 8 = .ok (.ifCond .eq 12, 3) := by decide +kernel
theorem dX6_most_11 : decode cX6_most 11 = .ok (.iload_n 2, 1) := by decide +kernel
theorem dX6_most_12 : decode cX6_most 12 = .ok (.bipush 60, 2) := by decide +kernel
theorem dX6_most_14 : decode cX6_most 14 = .ok (.invokestatic 70, 3) := by decide +kernel
theorem dX6_most_17 : decode cX6_most 17 = .ok (.ifCond .ne 5, 3) := by decide +kernel
theorem dX6_most_20 : decode cX6_most 20 = .ok (.iconst (-1), 1) := by decide +kernel
theorem dX6_most_21 : decode cX6_most 21 = .ok (.ireturn, 1) := by decide +kernel
theorem dX6_most_22 : decode cX6_most 22 = .ok (.bipush 20, 2) := by decide +kernel
theorem dX6_most_24 : decode cX6_most 24 = .ok (.istore_n 3, 1) := by decide +kernel
theorem dX6_most_25 : decode cX6_most 25 = .ok (.iload_n 3, 1) := by decide +kernel
theorem dX6_most_26 : decode cX6_most 26 = .ok (.ifCond .lt 31, 3) := by decide +kernel
theorem dX6_most_29 : decode cX6_most 29 = .ok (.aload_n 0, 1) := by decide +kernel
theorem dX6_most_30 : decode cX6_most 30 = .ok (.iload_n 1, 1) := by decide +kernel
theorem dX6_most_31 : decode cX6_most 31 = .ok (.iload_n 3, 1) := by decide +kernel
theorem dX6_most_32 : decode cX6_most 32 = .ok (.invokevirtual 211, 3) := by decide +kernel
theorem dX6_most_35 : decode cX6_most 35 = .ok (.aload_n 0, 1) := by decide +kernel
theorem dX6_most_36 : decode cX6_most 36 = .ok (.getfield 28, 3) := by decide +kernel
theorem dX6_most_39 : decode cX6_most 39 = .ok (.iload_n 1, 1) := by decide +kernel
theorem dX6_most_40 : decode cX6_most 40 = .ok (.iload_n 2, 1) := by decide +kernel
theorem dX6_most_41 : decode cX6_most 41 = .ok (.invokevirtual 173, 3) := by decide +kernel
theorem dX6_most_44 : decode cX6_most 44 = .ok (.bipush (-4), 2) := by decide +kernel
theorem dX6_most_46 : decode cX6_most 46 = .ok (.if_icmp .eq 5, 3) := by decide +kernel
theorem dX6_most_49 : decode cX6_most 49 = .ok (.iload_n 3, 1) := by decide +kernel
theorem dX6_most_50 : decode cX6_most 50 = .ok (.ireturn, 1) := by decide +kernel
theorem dX6_most_51 : decode cX6_most 51 = .ok (.iinc 3 (-1), 3) := by decide +kernel
theorem dX6_most_54 : decode cX6_most 54 = .ok (.goto (-29), 3) := by decide +kernel
theorem dX6_most_57 : decode cX6_most 57 = .ok (.bipush (-4), 2) := by decide +kernel
theorem dX6_most_59 : decode cX6_most 59 = .ok (.ireturn, 1) := by decide +kernel
theorem dX6_kind_0 : decode cX6_kind 0 = .ok (.aload_n 0, 1) := by decide +kernel
theorem dX6_kind_1 : decode cX6_kind 1 = .ok (.getfield 24, 3) := by decide +kernel
theorem dX6_kind_4 : decode cX6_kind 4 = .ok (.iload_n 1, 1) := by decide +kernel
theorem dX6_kind_5 : decode cX6_kind 5 = .ok (.invokevirtual 120, 3) := by decide +kernel
theorem dX6_kind_8 : decode cX6_kind 8 = .ok (.ifCond .eq 20, 3) := by decide +kernel
theorem dX6_kind_11 : decode cX6_kind 11 = .ok (.iload_n 2, 1) := by decide +kernel
theorem dX6_kind_12 : decode cX6_kind 12 = .ok (.bipush 60, 2) := by decide +kernel
theorem dX6_kind_14 : decode cX6_kind 14 = .ok (.invokestatic 70, 3) := by decide +kernel
theorem dX6_kind_17 : decode cX6_kind 17 = .ok (.ifCond .eq 11, 3) := by decide +kernel
theorem dX6_kind_20 : decode cX6_kind 20 = .ok (.iload_n 3, 1) := by decide +kernel
theorem dX6_kind_21 : decode cX6_kind 21 = .ok (.iconst 1, 1) := by decide +kernel
theorem dX6_kind_22 : decode cX6_kind 22 = .ok (.invokestatic 70, 3) := by decide +kernel
theorem dX6_kind_25 : decode cX6_kind 25 = .ok (.ifCond .ne 5, 3) := by decide +kernel
theorem dX6_kind_28 : decode cX6_kind 28 = .ok (.iconst (-1), 1) := by decide +kernel
theorem dX6_kind_29 : decode cX6_kind 29 = .ok (.ireturn, 1) := by decide +kernel
theorem dX6_kind_30 : decode cX6_kind 30 = .ok (.aload_n 0, 1) := by decide +kernel
theorem dX6_kind_31 : decode cX6_kind 31 = .ok (.getfield 55, 3) := by decide +kernel
theorem dX6_kind_34 : decode cX6_kind 34 = .ok (.sipush 496, 3) := by decide +kernel
theorem dX6_kind_37 : decode cX6_kind 37 = .ok (.invokevirtual 189, 3) := by decide +kernel
theorem dX6_kind_40 : decode cX6_kind 40 = .ok (.iconst 0, 1) := by decide +kernel
theorem dX6_kind_41 : decode cX6_kind 41 = .ok (.istore 4, 2) := by decide +kernel
theorem dX6_kind_43 : decode cX6_kind 43 = .ok (.iload 4, 2) := by decide +kernel
theorem dX6_kind_45 : decode cX6_kind 45 = .ok (.iconst 4, 1) := by decide +kernel
theorem dX6_kind_46 : decode cX6_kind 46 = .ok (.if_icmp .ge 41, 3) := by decide +kernel
theorem dX6_kind_49 : decode cX6_kind 49 = .ok (.aload_n 0, 1) := by decide +kernel
theorem dX6_kind_50 : decode cX6_kind 50 = .ok (.iload_n 1, 1) := by decide +kernel
theorem dX6_kind_51 : decode cX6_kind 51 = .ok (.iload 4, 2) := by decide +kernel
theorem dX6_kind_53 : decode cX6_kind 53 = .ok (.invokevirtual 214, 3) := by decide +kernel
theorem dX6_kind_56 : decode cX6_kind 56 = .ok (.aload_n 0, 1) := by decide +kernel
theorem dX6_kind_57 : decode cX6_kind 57 = .ok (.getfield 28, 3) := by decide +kernel
theorem dX6_kind_60 : decode cX6_kind 60 = .ok (.iload_n 2, 1) := by decide +kernel
theorem dX6_kind_61 : decode cX6_kind 61 = .ok (.invokevirtual 166, 3) := by decide +kernel
theorem dX6_kind_64 : decode cX6_kind 64 = .ok (.pop, 1) := by decide +kernel
theorem dX6_kind_65 : decode cX6_kind 65 = .ok (.aload_n 0, 1) := by decide +kernel
theorem dX6_kind_66 : decode cX6_kind 66 = .ok (.getfield 55, 3) := by decide +kernel
theorem dX6_kind_69 : decode cX6_kind 69 = .ok (.iload 4, 2) := by decide +kernel
theorem dX6_kind_71 : decode cX6_kind 71 = .ok (.aload_n 0, 1) := by decide +kernel
theorem dX6_kind_72 : decode cX6_kind 72 = .ok (.getfield 28, 3) := by decide +kernel
theorem dX6_kind_75 : decode cX6_kind 75 = .ok (.invokevirtual 117, 3) := by decide +kernel
theorem dX6_kind_78 : decode cX6_kind 78 = .ok (.invokevirtual 195, 3) := by decide +kernel
theorem dX6_kind_81 : decode cX6_kind 81 = .ok (.iinc 4 1, 3) := by decide +kernel
theorem dX6_kind_84 : decode cX6_kind 84 = .ok (.goto (-41), 3) := by decide +kernel
theorem dX6_kind_87 : decode cX6_kind 87 = .ok (.aload_n 0, 1) := by decide +kernel
theorem dX6_kind_88 : decode cX6_kind 88 = .ok (.getfield 55, 3) := by decide +kernel
theorem dX6_kind_91 : decode cX6_kind 91 = .ok (.iload_n 3, 1) := by decide +kernel
theorem dX6_kind_92 : decode cX6_kind 92 = .ok (.invokevirtual 205, 3) := by decide +kernel
theorem dX6_kind_95 : decode cX6_kind 95 = .ok (.ireturn, 1) := by decide +kernel
theorem dX6_tryStrength_0 : decode cX6_tryStrength 0 = .ok (.aload_n 0, 1) := by decide +kernel
theorem dX6_tryStrength_1 : decode cX6_tryStrength 1 = .ok (.getfield 28, 3) := by decide +kernel
theorem dX6_tryStrength_4 : decode cX6_tryStrength 4 = .ok (.aload_n 0, 1) := by decide +kernel
theorem dX6_tryStrength_5 : decode cX6_tryStrength 5 = .ok (.getfield 24, 3) := by decide +kernel
theorem dX6_tryStrength_8 : decode cX6_tryStrength 8 = .ok (.invokevirtual 94, 3) := by decide +kernel
theorem dX6_tryStrength_11 : decode cX6_tryStrength 11 = .ok (.aload_n 0, 1) := by decide +kernel
theorem dX6_tryStrength_12 : decode cX6_tryStrength 12 = .ok (.getfield 28, 3) := by decide +kernel
theorem dX6_tryStrength_15 : decode cX6_tryStrength 15 = .ok (.getfield 126, 3) := by decide +kernel
theorem dX6_tryStrength_18 : decode cX6_tryStrength 18 = .ok (.iload_n 1, 1) := by decide +kernel
theorem dX6_tryStrength_19 : decode cX6_tryStrength 19 = .ok (.iload_n 2, 1) := by decide +kernel
theorem dX6_tryStrength_20 : decode cX6_tryStrength 20 = .ok (.iastore, 1) := by decide +kernel
theorem dX6_tryStrength_21 : decode cX6_tryStrength 21 = .ok (.return_, 1) := by decide +kernel
theorem dX6_tryKind_0 : decode cX6_tryKind 0 = .ok (.aload_n 0, 1) := by decide +kernel
theorem dX6_tryKind_1 : decode cX6_tryKind 1 = .ok (.getfield 28, 3) := by decide +kernel
theorem dX6_tryKind_4 : decode cX6_tryKind 4 = .ok (.aload_n 0, 1) := by decide +kernel
theorem dX6_tryKind_5 : decode cX6_tryKind 5 = .ok (.getfield 24, 3) := by decide +kernel
theorem dX6_tryKind_8 : decode cX6_tryKind 8 = .ok (.invokevirtual 94, 3) := by decide +kernel
theorem dX6_tryKind_11 : decode cX6_tryKind 11 = .ok (.aload_n 0, 1) := by decide +kernel
theorem dX6_tryKind_12 : decode cX6_tryKind 12 = .ok (.getfield 28, 3) := by decide +kernel
theorem dX6_tryKind_15 : decode cX6_tryKind 15 = .ok (.getfield 123, 3) := by decide +kernel
theorem dX6_tryKind_18 : decode cX6_tryKind 18 = .ok (.iload_n 1, 1) := by decide +kernel
theorem dX6_tryKind_19 : decode cX6_tryKind 19 = .ok (.iload_n 2, 1) := by decide +kernel
theorem dX6_tryKind_20 : decode cX6_tryKind 20 = .ok (.iastore, 1) := by decide +kernel
theorem dX6_tryKind_21 : decode cX6_tryKind 21 = .ok (.return_, 1) := by decide +kernel
theorem dX6_luck_0 : decode cX6_luck 0 = .ok (.iload_n 1, 1) := by decide +kernel
theorem dX6_luck_1 : decode cX6_luck 1 = .ok (.bipush 10, 2) := by decide +kernel
theorem dX6_luck_3 : decode cX6_luck 3 = .ok (.invokestatic 70, 3) := by decide +kernel
theorem dX6_luck_6 : decode cX6_luck 6 = .ok (.ifCond .eq 32, 3) := by decide +kernel
theorem dX6_luck_9 : decode cX6_luck 9 = .ok (.aload_n 0, 1) := by decide +kernel
theorem dX6_luck_10 : decode cX6_luck 10 = .ok (.getfield 24, 3) := by decide +kernel
theorem dX6_luck_13 : decode cX6_luck 13 = .ok (.iload_n 2, 1) := by decide +kernel
theorem dX6_luck_14 : decode cX6_luck 14 = .ok (.invokevirtual 120, 3) := by decide +kernel
theorem dX6_luck_17 : decode cX6_luck 17 = .ok (.ifCond .eq 21, 3) := by decide +kernel
theorem dX6_luck_20 : decode cX6_luck 20 = .ok (.iload_n 3, 1) := by decide +kernel
theorem dX6_luck_21 : decode cX6_luck 21 = .ok (.bipush 8, 2) := by decide +kernel
theorem dX6_luck_23 : decode cX6_luck 23 = .ok (.invokestatic 70, 3) := by decide +kernel
theorem dX6_luck_26 : decode cX6_luck 26 = .ok (.ifCond .eq 12, 3) := by decide +kernel
theorem dX6_luck_29 : decode cX6_luck 29 = .ok (.iload 4, 2) := by decide +kernel
theorem dX6_luck_31 : decode cX6_luck 31 = .ok (.iconst 1, 1) := by decide +kernel
theorem dX6_luck_32 : decode cX6_luck 32 = .ok (.invokestatic 70, 3) := by decide +kernel
theorem dX6_luck_35 : decode cX6_luck 35 = .ok (.ifCond .ne 7, 3) := by decide +kernel
theorem dX6_luck_38 : decode cX6_luck 38 = .ok (.ldc2_w 217, 3) := by decide +kernel
theorem dX6_luck_41 : decode cX6_luck 41 = .ok (.lreturn, 1) := by decide +kernel
theorem dX6_luck_42 : decode cX6_luck 42 = .ok (.lconst 0, 1) := by decide +kernel
theorem dX6_luck_43 : decode cX6_luck 43 = .ok (.lstore 5, 2) := by decide +kernel
theorem dX6_luck_45 : decode cX6_luck 45 = .ok (.iconst 0, 1) := by decide +kernel
theorem dX6_luck_46 : decode cX6_luck 46 = .ok (.istore 7, 2) := by decide +kernel
theorem dX6_luck_48 : decode cX6_luck 48 = .ok (.iload 7, 2) := by decide +kernel
theorem dX6_luck_50 : decode cX6_luck 50 = .ok (.iconst 1, 1) := by decide +kernel
theorem dX6_luck_51 : decode cX6_luck 51 = .ok (.iload_n 3, 1) := by decide +kernel
theorem dX6_luck_52 : decode cX6_luck 52 = .ok (.ishl, 1) := by decide +kernel
theorem dX6_luck_53 : decode cX6_luck 53 = .ok (.if_icmp .ge 32, 3) := by decide +kernel
theorem dX6_luck_56 : decode cX6_luck 56 = .ok (.aload_n 0, 1) := by decide +kernel
theorem dX6_luck_57 : decode cX6_luck 57 = .ok (.iload_n 2, 1) := by decide +kernel
theorem dX6_luck_58 : decode cX6_luck 58 = .ok (.iload_n 3, 1) := by decide +kernel
theorem dX6_luck_59 : decode cX6_luck 59 = .ok (.iload 7, 2) := by decide +kernel
theorem dX6_luck_61 : decode cX6_luck 61 = .ok (.invokevirtual 219, 3) := by decide +kernel
theorem dX6_luck_64 : decode cX6_luck 64 = .ok (.ifCond .eq 15, 3) := by decide +kernel
theorem dX6_luck_67 : decode cX6_luck 67 = .ok (.lload 5, 2) := by decide +kernel
theorem dX6_luck_69 : decode cX6_luck 69 = .ok (.iload_n 1, 1) := by decide +kernel
theorem dX6_luck_70 : decode cX6_luck 70 = .ok (.iload_n 3, 1) := by decide +kernel
theorem dX6_luck_71 : decode cX6_luck 71 = .ok (.iload 7, 2) := by decide +kernel
theorem dX6_luck_73 : decode cX6_luck 73 = .ok (.invokestatic 223, 3) := by decide +kernel
theorem dX6_luck_76 : decode cX6_luck 76 = .ok (.ladd, 1) := by decide +kernel
theorem dX6_luck_77 : decode cX6_luck 77 = .ok (.lstore 5, 2) := by decide +kernel
theorem dX6_luck_79 : decode cX6_luck 79 = .ok (.iinc 7 1, 3) := by decide +kernel
theorem dX6_luck_82 : decode cX6_luck 82 = .ok (.goto (-34), 3) := by decide +kernel
theorem dX6_luck_85 : decode cX6_luck 85 = .ok (.lload 5, 2) := by decide +kernel
theorem dX6_luck_87 : decode cX6_luck 87 = .ok (.bipush 10, 2) := by decide +kernel
theorem dX6_luck_89 : decode cX6_luck 89 = .ok (.iload_n 3, 1) := by decide +kernel
theorem dX6_luck_90 : decode cX6_luck 90 = .ok (.invokestatic 227, 3) := by decide +kernel
theorem dX6_luck_93 : decode cX6_luck 93 = .ok (.iload 4, 2) := by decide +kernel
theorem dX6_luck_95 : decode cX6_luck 95 = .ok (.invokestatic 231, 3) := by decide +kernel
theorem dX6_luck_98 : decode cX6_luck 98 = .ok (.lreturn, 1) := by decide +kernel
theorem dX6_mean_0 : decode cX6_mean 0 = .ok (.iload_n 1, 1) := by decide +kernel
theorem dX6_mean_1 : decode cX6_mean 1 = .ok (.bipush 10, 2) := by decide +kernel
theorem dX6_mean_3 : decode cX6_mean 3 = .ok (.invokestatic 70, 3) := by decide +kernel
theorem dX6_mean_6 : decode cX6_mean 6 = .ok (.ifCond .eq 20, 3) := by decide +kernel
theorem dX6_mean_9 : decode cX6_mean 9 = .ok (.iload_n 2, 1) := by decide +kernel
theorem dX6_mean_10 : decode cX6_mean 10 = .ok (.bipush 8, 2) := by decide +kernel
theorem dX6_mean_12 : decode cX6_mean 12 = .ok (.invokestatic 70, 3) := by decide +kernel
theorem dX6_mean_15 : decode cX6_mean 15 = .ok (.ifCond .eq 11, 3) := by decide +kernel
theorem dX6_mean_18 : decode cX6_mean 18 = .ok (.iload_n 3, 1) := by decide +kernel
theorem dX6_mean_19 : decode cX6_mean 19 = .ok (.iconst 1, 1) := by decide +kernel
theorem dX6_mean_20 : decode cX6_mean 20 = .ok (.invokestatic 70, 3) := by decide +kernel
theorem dX6_mean_23 : decode cX6_mean 23 = .ok (.ifCond .ne 7, 3) := by decide +kernel
theorem dX6_mean_26 : decode cX6_mean 26 = .ok (.ldc2_w 217, 3) := by decide +kernel
theorem dX6_mean_29 : decode cX6_mean 29 = .ok (.lreturn, 1) := by decide +kernel
theorem dX6_mean_30 : decode cX6_mean 30 = .ok (.lconst 0, 1) := by decide +kernel
theorem dX6_mean_31 : decode cX6_mean 31 = .ok (.lstore 4, 2) := by decide +kernel
theorem dX6_mean_33 : decode cX6_mean 33 = .ok (.iconst 0, 1) := by decide +kernel
theorem dX6_mean_34 : decode cX6_mean 34 = .ok (.istore 6, 2) := by decide +kernel
theorem dX6_mean_36 : decode cX6_mean 36 = .ok (.iload 6, 2) := by decide +kernel
theorem dX6_mean_38 : decode cX6_mean 38 = .ok (.iconst 1, 1) := by decide +kernel
theorem dX6_mean_39 : decode cX6_mean 39 = .ok (.iload_n 2, 1) := by decide +kernel
theorem dX6_mean_40 : decode cX6_mean 40 = .ok (.ishl, 1) := by decide +kernel
theorem dX6_mean_41 : decode cX6_mean 41 = .ok (.if_icmp .ge 40, 3) := by decide +kernel
theorem dX6_mean_44 : decode cX6_mean 44 = .ok (.aload_n 0, 1) := by decide +kernel
theorem dX6_mean_45 : decode cX6_mean 45 = .ok (.bipush (-4), 2) := by decide +kernel
theorem dX6_mean_47 : decode cX6_mean 47 = .ok (.iload_n 2, 1) := by decide +kernel
theorem dX6_mean_48 : decode cX6_mean 48 = .ok (.iload 6, 2) := by decide +kernel
theorem dX6_mean_50 : decode cX6_mean 50 = .ok (.invokevirtual 219, 3) := by decide +kernel
theorem dX6_mean_53 : decode cX6_mean 53 = .ok (.pop, 1) := by decide +kernel
theorem dX6_mean_54 : decode cX6_mean 54 = .ok (.lload 4, 2) := by decide +kernel
theorem dX6_mean_56 : decode cX6_mean 56 = .ok (.aload_n 0, 1) := by decide +kernel
theorem dX6_mean_57 : decode cX6_mean 57 = .ok (.getfield 28, 3) := by decide +kernel
theorem dX6_mean_60 : decode cX6_mean 60 = .ok (.invokevirtual 117, 3) := by decide +kernel
theorem dX6_mean_63 : decode cX6_mean 63 = .ok (.i2l, 1) := by decide +kernel
theorem dX6_mean_64 : decode cX6_mean 64 = .ok (.iload_n 1, 1) := by decide +kernel
theorem dX6_mean_65 : decode cX6_mean 65 = .ok (.iload_n 2, 1) := by decide +kernel
theorem dX6_mean_66 : decode cX6_mean 66 = .ok (.iload 6, 2) := by decide +kernel
theorem dX6_mean_68 : decode cX6_mean 68 = .ok (.invokestatic 223, 3) := by decide +kernel
theorem dX6_mean_71 : decode cX6_mean 71 = .ok (.lmul, 1) := by decide +kernel
theorem dX6_mean_72 : decode cX6_mean 72 = .ok (.ladd, 1) := by decide +kernel
theorem dX6_mean_73 : decode cX6_mean 73 = .ok (.lstore 4, 2) := by decide +kernel
theorem dX6_mean_75 : decode cX6_mean 75 = .ok (.iinc 6 1, 3) := by decide +kernel
theorem dX6_mean_78 : decode cX6_mean 78 = .ok (.goto (-42), 3) := by decide +kernel
theorem dX6_mean_81 : decode cX6_mean 81 = .ok (.lload 4, 2) := by decide +kernel
theorem dX6_mean_83 : decode cX6_mean 83 = .ok (.bipush 10, 2) := by decide +kernel
theorem dX6_mean_85 : decode cX6_mean 85 = .ok (.iload_n 2, 1) := by decide +kernel
theorem dX6_mean_86 : decode cX6_mean 86 = .ok (.invokestatic 227, 3) := by decide +kernel
theorem dX6_mean_89 : decode cX6_mean 89 = .ok (.iload_n 3, 1) := by decide +kernel
theorem dX6_mean_90 : decode cX6_mean 90 = .ok (.invokestatic 231, 3) := by decide +kernel
theorem dX6_mean_93 : decode cX6_mean 93 = .ok (.lreturn, 1) := by decide +kernel
theorem dX6_losesInRain_0 : decode cX6_losesInRain 0 = .ok (.aload_n 0, 1) := by decide +kernel
theorem dX6_losesInRain_1 : decode cX6_losesInRain 1 = .ok (.getfield 28, 3) := by decide +kernel
theorem dX6_losesInRain_4 : decode cX6_losesInRain 4 = .ok (.aload_n 0, 1) := by decide +kernel
theorem dX6_losesInRain_5 : decode cX6_losesInRain 5 = .ok (.getfield 24, 3) := by decide +kernel
theorem dX6_losesInRain_8 : decode cX6_losesInRain 8 = .ok (.invokevirtual 94, 3) := by decide +kernel
theorem dX6_losesInRain_11 : decode cX6_losesInRain 11 = .ok (.iconst 0, 1) := by decide +kernel
theorem dX6_losesInRain_12 : decode cX6_losesInRain 12 = .ok (.istore 4, 2) := by decide +kernel
theorem dX6_losesInRain_14 : decode cX6_losesInRain 14 = .ok (.iconst 0, 1) := by decide +kernel
theorem dX6_losesInRain_15 : decode cX6_losesInRain 15 = .ok (.istore 5, 2) := by decide +kernel
theorem dX6_losesInRain_17 : decode cX6_losesInRain 17 = .ok (.iload 5, 2) := by decide +kernel
theorem dX6_losesInRain_19 : decode cX6_losesInRain 19 = .ok (.iload_n 2, 1) := by decide +kernel
theorem dX6_losesInRain_20 : decode cX6_losesInRain 20 = .ok (.if_icmp .ge 47, 3) := by decide +kernel
theorem dX6_losesInRain_23 : decode cX6_losesInRain 23 = .ok (.aload_n 0, 1) := by decide +kernel
theorem dX6_losesInRain_24 : decode cX6_losesInRain 24 = .ok (.getfield 28, 3) := by decide +kernel
theorem dX6_losesInRain_27 : decode cX6_losesInRain 27 = .ok (.iload_n 3, 1) := by decide +kernel
theorem dX6_losesInRain_28 : decode cX6_losesInRain 28 = .ok (.iload 5, 2) := by decide +kernel
theorem dX6_losesInRain_30 : decode cX6_losesInRain 30 = .ok (.ishr, 1) := by decide +kernel
theorem dX6_losesInRain_31 : decode cX6_losesInRain 31 = .ok (.iconst 1, 1) := by decide +kernel
theorem dX6_losesInRain_32 : decode cX6_losesInRain 32 = .ok (.iand, 1) := by decide +kernel
theorem dX6_losesInRain_33 : decode cX6_losesInRain 33 = .ok (.iconst 1, 1) := by decide +kernel
theorem dX6_losesInRain_34 : decode cX6_losesInRain 34 = .ok (.if_icmp .ne 7, 3) := by decide +kernel
theorem dX6_losesInRain_37 : decode cX6_losesInRain 37 = .ok (.iconst 1, 1) := by decide +kernel
theorem dX6_losesInRain_38 : decode cX6_losesInRain 38 = .ok (.goto 4, 3) := by decide +kernel
theorem dX6_losesInRain_41 : decode cX6_losesInRain 41 = .ok (.iconst 0, 1) := by decide +kernel
theorem dX6_losesInRain_42 : decode cX6_losesInRain 42 = .ok (.invokevirtual 169, 3) := by decide +kernel
theorem dX6_losesInRain_45 : decode cX6_losesInRain 45 = .ok (.istore 6, 2) := by decide +kernel
theorem dX6_losesInRain_47 : decode cX6_losesInRain 47 = .ok (.iload 6, 2) := by decide +kernel
theorem dX6_losesInRain_49 : decode cX6_losesInRain 49 = .ok (.ifCond .lt 12, 3) := by decide +kernel
theorem dX6_losesInRain_52 : decode cX6_losesInRain 52 = .ok (.iload 6, 2) := by decide +kernel
theorem dX6_losesInRain_54 : decode cX6_losesInRain 54 = .ok (.iload_n 1, 1) := by decide +kernel
theorem dX6_losesInRain_55 : decode cX6_losesInRain 55 = .ok (.if_icmp .ne 6, 3) := by decide +kernel
theorem dX6_losesInRain_58 : decode cX6_losesInRain 58 = .ok (.iconst 1, 1) := by decide +kernel
theorem dX6_losesInRain_59 : decode cX6_losesInRain 59 = .ok (.istore 4, 2) := by decide +kernel
theorem dX6_losesInRain_61 : decode cX6_losesInRain 61 = .ok (.iinc 5 1, 3) := by decide +kernel
theorem dX6_losesInRain_64 : decode cX6_losesInRain 64 = .ok (.goto (-47), 3) := by decide +kernel
theorem dX6_losesInRain_67 : decode cX6_losesInRain 67 = .ok (.iload 4, 2) := by decide +kernel
theorem dX6_losesInRain_69 : decode cX6_losesInRain 69 = .ok (.ireturn, 1) := by decide +kernel
theorem dX6_weight_0 : decode cX6_weight 0 = .ok (.iload_n 2, 1) := by decide +kernel
theorem dX6_weight_1 : decode cX6_weight 1 = .ok (.invokestatic 235, 3) := by decide +kernel
theorem dX6_weight_4 : decode cX6_weight 4 = .ok (.istore_n 3, 1) := by decide +kernel
theorem dX6_weight_5 : decode cX6_weight 5 = .ok (.iload_n 0, 1) := by decide +kernel
theorem dX6_weight_6 : decode cX6_weight 6 = .ok (.iload_n 3, 1) := by decide +kernel
theorem dX6_weight_7 : decode cX6_weight 7 = .ok (.invokestatic 227, 3) := by decide +kernel
theorem dX6_weight_10 : decode cX6_weight 10 = .ok (.bipush 10, 2) := by decide +kernel
theorem dX6_weight_12 : decode cX6_weight 12 = .ok (.iload_n 0, 1) := by decide +kernel
theorem dX6_weight_13 : decode cX6_weight 13 = .ok (.isub, 1) := by decide +kernel
theorem dX6_weight_14 : decode cX6_weight 14 = .ok (.iload_n 1, 1) := by decide +kernel
theorem dX6_weight_15 : decode cX6_weight 15 = .ok (.iload_n 3, 1) := by decide +kernel
theorem dX6_weight_16 : decode cX6_weight 16 = .ok (.isub, 1) := by decide +kernel
theorem dX6_weight_17 : decode cX6_weight 17 = .ok (.invokestatic 227, 3) := by decide +kernel
theorem dX6_weight_20 : decode cX6_weight 20 = .ok (.lmul, 1) := by decide +kernel
theorem dX6_weight_21 : decode cX6_weight 21 = .ok (.lreturn, 1) := by decide +kernel
theorem dX6_power_0 : decode cX6_power 0 = .ok (.lconst 1, 1) := by decide +kernel
theorem dX6_power_1 : decode cX6_power 1 = .ok (.lstore_n 2, 1) := by decide +kernel
theorem dX6_power_2 : decode cX6_power 2 = .ok (.iconst 0, 1) := by decide +kernel
theorem dX6_power_3 : decode cX6_power 3 = .ok (.istore 4, 2) := by decide +kernel
theorem dX6_power_5 : decode cX6_power 5 = .ok (.iload 4, 2) := by decide +kernel
theorem dX6_power_7 : decode cX6_power 7 = .ok (.iload_n 1, 1) := by decide +kernel
theorem dX6_power_8 : decode cX6_power 8 = .ok (.if_icmp .ge 14, 3) := by decide +kernel
theorem dX6_power_11 : decode cX6_power 11 = .ok (.lload_n 2, 1) := by decide +kernel
theorem dX6_power_12 : decode cX6_power 12 = .ok (.iload_n 0, 1) := by decide +kernel
theorem dX6_power_13 : decode cX6_power 13 = .ok (.i2l, 1) := by decide +kernel
theorem dX6_power_14 : decode cX6_power 14 = .ok (.lmul, 1) := by decide +kernel
theorem dX6_power_15 : decode cX6_power 15 = .ok (.lstore_n 2, 1) := by decide +kernel
theorem dX6_power_16 : decode cX6_power 16 = .ok (.iinc 4 1, 3) := by decide +kernel
theorem dX6_power_19 : decode cX6_power 19 = .ok (.goto (-14), 3) := by decide +kernel
theorem dX6_power_22 : decode cX6_power 22 = .ok (.lload_n 2, 1) := by decide +kernel
theorem dX6_power_23 : decode cX6_power 23 = .ok (.lreturn, 1) := by decide +kernel
theorem dX6_lowest_0 : decode cX6_lowest 0 = .ok (.lload_n 0, 1) := by decide +kernel
theorem dX6_lowest_1 : decode cX6_lowest 1 = .ok (.lload_n 2, 1) := by decide +kernel
theorem dX6_lowest_2 : decode cX6_lowest 2 = .ok (.invokestatic 240, 3) := by decide +kernel
theorem dX6_lowest_5 : decode cX6_lowest 5 = .ok (.lstore 5, 2) := by decide +kernel
theorem dX6_lowest_7 : decode cX6_lowest 7 = .ok (.iload 4, 2) := by decide +kernel
theorem dX6_lowest_9 : decode cX6_lowest 9 = .ok (.ifCond .ne 7, 3) := by decide +kernel
theorem dX6_lowest_12 : decode cX6_lowest 12 = .ok (.lload_n 0, 1) := by decide +kernel
theorem dX6_lowest_13 : decode cX6_lowest 13 = .ok (.goto 4, 3) := by decide +kernel
theorem dX6_lowest_16 : decode cX6_lowest 16 = .ok (.lload_n 2, 1) := by decide +kernel
theorem dX6_lowest_17 : decode cX6_lowest 17 = .ok (.lload 5, 2) := by decide +kernel
theorem dX6_lowest_19 : decode cX6_lowest 19 = .ok (.ldiv, 1) := by decide +kernel
theorem dX6_lowest_20 : decode cX6_lowest 20 = .ok (.lreturn, 1) := by decide +kernel
theorem dX6_commonDivisor_0 : decode cX6_commonDivisor 0 = .ok (.lload_n 0, 1) := by decide +kernel
theorem dX6_commonDivisor_1 : decode cX6_commonDivisor 1 = .ok (.lstore 4, 2) := by decide +kernel
theorem dX6_commonDivisor_3 : decode cX6_commonDivisor 3 = .ok (.lload_n 2, 1) := by decide +kernel
theorem dX6_commonDivisor_4 : decode cX6_commonDivisor 4 = .ok (.lstore 6, 2) := by decide +kernel
theorem dX6_commonDivisor_6 : decode cX6_commonDivisor 6 = .ok (.iconst 0, 1) := by decide +kernel
theorem dX6_commonDivisor_7 : decode cX6_commonDivisor 7 = .ok (.istore 8, 2) := by decide +kernel
theorem dX6_commonDivisor_9 : decode cX6_commonDivisor 9 = .ok (.iload 8, 2) := by decide +kernel
theorem dX6_commonDivisor_11 : decode cX6_commonDivisor 11 = .ok (.bipush 100, 2) := by decide +kernel
theorem dX6_commonDivisor_13 : decode cX6_commonDivisor 13 = .ok (.if_icmp .ge 31, 3) := by decide +kernel
theorem dX6_commonDivisor_16 : decode cX6_commonDivisor 16 = .ok (.lload 6, 2) := by decide +kernel
theorem dX6_commonDivisor_18 : decode cX6_commonDivisor 18 = .ok (.lconst 0, 1) := by decide +kernel
theorem dX6_commonDivisor_19 : decode cX6_commonDivisor 19 = .ok (.lcmp, 1) := by decide +kernel
theorem dX6_commonDivisor_20 : decode cX6_commonDivisor 20 = .ok (.ifCond .eq 24, 3) := by decide +kernel
theorem dX6_commonDivisor_23 : decode cX6_commonDivisor 23 = .ok (.lload 4, 2) := by decide +kernel
theorem dX6_commonDivisor_25 : decode cX6_commonDivisor 25 = .ok (.lload 6, 2) := by decide +kernel
theorem dX6_commonDivisor_27 : decode cX6_commonDivisor 27 = .ok (.lrem, 1) := by decide +kernel
theorem dX6_commonDivisor_28 : decode cX6_commonDivisor 28 = .ok (.lstore 9, 2) := by decide +kernel
theorem dX6_commonDivisor_30 : decode cX6_commonDivisor 30 = .ok (.lload 6, 2) := by decide +kernel
theorem dX6_commonDivisor_32 : decode cX6_commonDivisor 32 = .ok (.lstore 4, 2) := by decide +kernel
theorem dX6_commonDivisor_34 : decode cX6_commonDivisor 34 = .ok (.lload 9, 2) := by decide +kernel
theorem dX6_commonDivisor_36 : decode cX6_commonDivisor 36 = .ok (.lstore 6, 2) := by decide +kernel
theorem dX6_commonDivisor_38 : decode cX6_commonDivisor 38 = .ok (.iinc 8 1, 3) := by decide +kernel
theorem dX6_commonDivisor_41 : decode cX6_commonDivisor 41 = .ok (.goto (-32), 3) := by decide +kernel
theorem dX6_commonDivisor_44 : decode cX6_commonDivisor 44 = .ok (.lconst 1, 1) := by decide +kernel
theorem dX6_commonDivisor_45 : decode cX6_commonDivisor 45 = .ok (.lload 4, 2) := by decide +kernel
theorem dX6_commonDivisor_47 : decode cX6_commonDivisor 47 = .ok (.invokestatic 244, 3) := by decide +kernel
theorem dX6_commonDivisor_50 : decode cX6_commonDivisor 50 = .ok (.lreturn, 1) := by decide +kernel
theorem dX6_see_0 : decode cX6_see 0 = .ok (.iload_n 1, 1) := by decide +kernel
theorem dX6_see_1 : decode cX6_see 1 = .ok (.bipush 20, 2) := by decide +kernel
theorem dX6_see_3 : decode cX6_see 3 = .ok (.invokestatic 70, 3) := by decide +kernel
theorem dX6_see_6 : decode cX6_see 6 = .ok (.ifCond .eq 20, 3) := by decide +kernel
theorem dX6_see_9 : decode cX6_see 9 = .ok (.iload_n 2, 1) := by decide +kernel
theorem dX6_see_10 : decode cX6_see 10 = .ok (.bipush 9, 2) := by decide +kernel
theorem dX6_see_12 : decode cX6_see 12 = .ok (.if_icmp .eq 16, 3) := by decide +kernel
theorem dX6_see_15 : decode cX6_see 15 = .ok (.aload_n 0, 1) := by decide +kernel
theorem dX6_see_16 : decode cX6_see 16 = .ok (.getfield 24, 3) := by decide +kernel
theorem dX6_see_19 : decode cX6_see 19 = .ok (.iload_n 2, 1) := by decide +kernel
theorem dX6_see_20 : decode cX6_see 20 = .ok (.invokevirtual 120, 3) := by decide +kernel
theorem dX6_see_23 : decode cX6_see 23 = .ok (.ifCond .ne 5, 3) := by decide +kernel
theorem dX6_see_26 : decode cX6_see 26 = .ok (.iconst (-1), 1) := by decide +kernel
theorem dX6_see_27 : decode cX6_see 27 = .ok (.ireturn, 1) := by decide +kernel
theorem dX6_see_28 : decode cX6_see 28 = .ok (.aload_n 0, 1) := by decide +kernel
theorem dX6_see_29 : decode cX6_see 29 = .ok (.getfield 48, 3) := by decide +kernel
theorem dX6_see_32 : decode cX6_see 32 = .ok (.iload_n 1, 1) := by decide +kernel
theorem dX6_see_33 : decode cX6_see 33 = .ok (.iload_n 2, 1) := by decide +kernel
theorem dX6_see_34 : decode cX6_see 34 = .ok (.invokevirtual 249, 3) := by decide +kernel
theorem dX6_see_37 : decode cX6_see 37 = .ok (.ifCond .eq 13, 3) := by decide +kernel
theorem dX6_see_40 : decode cX6_see 40 = .ok (.aload_n 0, 1) := by decide +kernel
theorem dX6_see_41 : decode cX6_see 41 = .ok (.getfield 48, 3) := by decide +kernel
theorem dX6_see_44 : decode cX6_see 44 = .ok (.getfield 98, 3) := by decide +kernel
theorem dX6_see_47 : decode cX6_see 47 = .ok (.goto 5, 3) := by decide +kernel
theorem dX6_see_50 : decode cX6_see 50 = .ok (.bipush (-3), 2) := by decide +kernel
theorem dX6_see_52 : decode cX6_see 52 = .ok (.ireturn, 1) := by decide +kernel
theorem dX6_forget_0 : decode cX6_forget 0 = .ok (.iload_n 1, 1) := by decide +kernel
theorem dX6_forget_1 : decode cX6_forget 1 = .ok (.aload_n 0, 1) := by decide +kernel
theorem dX6_forget_2 : decode cX6_forget 2 = .ok (.getfield 48, 3) := by decide +kernel
theorem dX6_forget_5 : decode cX6_forget 5 = .ok (.getfield 98, 3) := by decide +kernel
theorem dX6_forget_8 : decode cX6_forget 8 = .ok (.invokestatic 70, 3) := by decide +kernel
theorem dX6_forget_11 : decode cX6_forget 11 = .ok (.ifCond .ne 5, 3) := by decide +kernel
theorem dX6_forget_14 : decode cX6_forget 14 = .ok (.iconst (-1), 1) := by decide +kernel
theorem dX6_forget_15 : decode cX6_forget 15 = .ok (.ireturn, 1) := by decide +kernel
theorem dX6_forget_16 : decode cX6_forget 16 = .ok (.aload_n 0, 1) := by decide +kernel
theorem dX6_forget_17 : decode cX6_forget 17 = .ok (.getfield 48, 3) := by decide +kernel
theorem dX6_forget_20 : decode cX6_forget 20 = .ok (.getfield 98, 3) := by decide +kernel
theorem dX6_forget_23 : decode cX6_forget 23 = .ok (.istore_n 2, 1) := by decide +kernel
theorem dX6_forget_24 : decode cX6_forget 24 = .ok (.aload_n 0, 1) := by decide +kernel
theorem dX6_forget_25 : decode cX6_forget 25 = .ok (.getfield 48, 3) := by decide +kernel
theorem dX6_forget_28 : decode cX6_forget 28 = .ok (.iload_n 1, 1) := by decide +kernel
theorem dX6_forget_29 : decode cX6_forget 29 = .ok (.putfield 98, 3) := by decide +kernel
theorem dX6_forget_32 : decode cX6_forget 32 = .ok (.iload_n 2, 1) := by decide +kernel
theorem dX6_forget_33 : decode cX6_forget 33 = .ok (.ireturn, 1) := by decide +kernel
theorem dX6_kinds_0 : decode cX6_kinds 0 = .ok (.aload_n 0, 1) := by decide +kernel
theorem dX6_kinds_1 : decode cX6_kinds 1 = .ok (.getfield 24, 3) := by decide +kernel
theorem dX6_kinds_4 : decode cX6_kinds 4 = .ok (.iload_n 1, 1) := by decide +kernel
theorem dX6_kinds_5 : decode cX6_kinds 5 = .ok (.invokevirtual 120, 3) := by decide +kernel
theorem dX6_kinds_8 : decode cX6_kinds 8 = .ok (.ifCond .ne 5, 3) := by decide +kernel
theorem dX6_kinds_11 : decode cX6_kinds 11 = .ok (.iconst (-1), 1) := by decide +kernel
theorem dX6_kinds_12 : decode cX6_kinds 12 = .ok (.ireturn, 1) := by decide +kernel
theorem dX6_kinds_13 : decode cX6_kinds 13 = .ok (.iconst 0, 1) := by decide +kernel
theorem dX6_kinds_14 : decode cX6_kinds 14 = .ok (.istore_n 2, 1) := by decide +kernel
theorem dX6_kinds_15 : decode cX6_kinds 15 = .ok (.iconst 0, 1) := by decide +kernel
theorem dX6_kinds_16 : decode cX6_kinds 16 = .ok (.istore_n 3, 1) := by decide +kernel
theorem dX6_kinds_17 : decode cX6_kinds 17 = .ok (.iload_n 3, 1) := by decide +kernel
theorem dX6_kinds_18 : decode cX6_kinds 18 = .ok (.iconst 4, 1) := by decide +kernel
theorem dX6_kinds_19 : decode cX6_kinds 19 = .ok (.if_icmp .ge 35, 3) := by decide +kernel
theorem dX6_kinds_22 : decode cX6_kinds 22 = .ok (.aload_n 0, 1) := by decide +kernel
theorem dX6_kinds_23 : decode cX6_kinds 23 = .ok (.iload_n 1, 1) := by decide +kernel
theorem dX6_kinds_24 : decode cX6_kinds 24 = .ok (.iload_n 3, 1) := by decide +kernel
theorem dX6_kinds_25 : decode cX6_kinds 25 = .ok (.invokevirtual 214, 3) := by decide +kernel
theorem dX6_kinds_28 : decode cX6_kinds 28 = .ok (.aload_n 0, 1) := by decide +kernel
theorem dX6_kinds_29 : decode cX6_kinds 29 = .ok (.getfield 48, 3) := by decide +kernel
theorem dX6_kinds_32 : decode cX6_kinds 32 = .ok (.aload_n 0, 1) := by decide +kernel
theorem dX6_kinds_33 : decode cX6_kinds 33 = .ok (.getfield 28, 3) := by decide +kernel
theorem dX6_kinds_36 : decode cX6_kinds 36 = .ok (.invokevirtual 252, 3) := by decide +kernel
theorem dX6_kinds_39 : decode cX6_kinds 39 = .ok (.ifCond .eq 9, 3) := by decide +kernel
theorem dX6_kinds_42 : decode cX6_kinds 42 = .ok (.iload_n 2, 1) := by decide +kernel
theorem dX6_kinds_43 : decode cX6_kinds 43 = .ok (.iconst 1, 1) := by decide +kernel
theorem dX6_kinds_44 : decode cX6_kinds 44 = .ok (.iload_n 3, 1) := by decide +kernel
theorem dX6_kinds_45 : decode cX6_kinds 45 = .ok (.ishl, 1) := by decide +kernel
theorem dX6_kinds_46 : decode cX6_kinds 46 = .ok (.ior, 1) := by decide +kernel
theorem dX6_kinds_47 : decode cX6_kinds 47 = .ok (.istore_n 2, 1) := by decide +kernel
theorem dX6_kinds_48 : decode cX6_kinds 48 = .ok (.iinc 3 1, 3) := by decide +kernel
theorem dX6_kinds_51 : decode cX6_kinds 51 = .ok (.goto (-34), 3) := by decide +kernel
theorem dX6_kinds_54 : decode cX6_kinds 54 = .ok (.iload_n 2, 1) := by decide +kernel
theorem dX6_kinds_55 : decode cX6_kinds 55 = .ok (.ireturn, 1) := by decide +kernel
theorem dX6_strengths_0 : decode cX6_strengths 0 = .ok (.aload_n 0, 1) := by decide +kernel
theorem dX6_strengths_1 : decode cX6_strengths 1 = .ok (.getfield 24, 3) := by decide +kernel
theorem dX6_strengths_4 : decode cX6_strengths 4 = .ok (.iload_n 1, 1) := by decide +kernel
theorem dX6_strengths_5 : decode cX6_strengths 5 = .ok (.invokevirtual 120, 3) := by decide +kernel
theorem dX6_strengths_8 : decode cX6_strengths 8 = .ok (.ifCond .eq 11, 3) := by decide +kernel
theorem dX6_strengths_11 : decode cX6_strengths 11 = .ok (.aload_n 0, 1) := by decide +kernel
theorem dX6_strengths_12 : decode cX6_strengths 12 = .ok (.iload_n 1, 1) := by decide +kernel
theorem dX6_strengths_13 : decode cX6_strengths 13 = .ok (.invokevirtual 256, 3) := by decide +kernel
theorem dX6_strengths_16 : decode cX6_strengths 16 = .ok (.goto 4, 3) := by decide +kernel
theorem dX6_strengths_19 : decode cX6_strengths 19 = .ok (.iconst (-1), 1) := by decide +kernel
theorem dX6_strengths_20 : decode cX6_strengths 20 = .ok (.ireturn, 1) := by decide +kernel
theorem dX6_strengthsAsSeen_0 : decode cX6_strengthsAsSeen 0 = .ok (.iconst 0, 1) := by decide +kernel
theorem dX6_strengthsAsSeen_1 : decode cX6_strengthsAsSeen 1 = .ok (.istore_n 2, 1) := by decide +kernel
theorem dX6_strengthsAsSeen_2 : decode cX6_strengthsAsSeen 2 = .ok (.iconst 0, 1) := by decide +kernel
theorem dX6_strengthsAsSeen_3 : decode cX6_strengthsAsSeen 3 = .ok (.istore_n 3, 1) := by decide +kernel
theorem dX6_strengthsAsSeen_4 : decode cX6_strengthsAsSeen 4 = .ok (.iload_n 3, 1) := by decide +kernel
theorem dX6_strengthsAsSeen_5 : decode cX6_strengthsAsSeen 5 = .ok (.bipush 20, 2) := by decide +kernel
theorem dX6_strengthsAsSeen_7 : decode cX6_strengthsAsSeen 7 = .ok (.if_icmp .gt 35, 3) := by decide +kernel
theorem dX6_strengthsAsSeen_10 : decode cX6_strengthsAsSeen 10 = .ok (.aload_n 0, 1) := by decide +kernel
theorem dX6_strengthsAsSeen_11 : decode cX6_strengthsAsSeen 11 = .ok (.iload_n 1, 1) := by decide +kernel
theorem dX6_strengthsAsSeen_12 : decode cX6_strengthsAsSeen 12 = .ok (.iload_n 3, 1) := by decide +kernel
theorem dX6_strengthsAsSeen_13 : decode cX6_strengthsAsSeen 13 = .ok (.invokevirtual 211, 3) := by decide +kernel
theorem dX6_strengthsAsSeen_16 : decode cX6_strengthsAsSeen 16 = .ok (.aload_n 0, 1) := by decide +kernel
theorem dX6_strengthsAsSeen_17 : decode cX6_strengthsAsSeen 17 = .ok (.getfield 48, 3) := by decide +kernel
theorem dX6_strengthsAsSeen_20 : decode cX6_strengthsAsSeen 20 = .ok (.aload_n 0, 1) := by decide +kernel
theorem dX6_strengthsAsSeen_21 : decode cX6_strengthsAsSeen 21 = .ok (.getfield 28, 3) := by decide +kernel
theorem dX6_strengthsAsSeen_24 : decode cX6_strengthsAsSeen 24 = .ok (.invokevirtual 252, 3) := by decide +kernel
theorem dX6_strengthsAsSeen_27 : decode cX6_strengthsAsSeen 27 = .ok (.ifCond .eq 9, 3) := by decide +kernel
theorem dX6_strengthsAsSeen_30 : decode cX6_strengthsAsSeen 30 = .ok (.iload_n 2, 1) := by decide +kernel
theorem dX6_strengthsAsSeen_31 : decode cX6_strengthsAsSeen 31 = .ok (.iconst 1, 1) := by decide +kernel
theorem dX6_strengthsAsSeen_32 : decode cX6_strengthsAsSeen 32 = .ok (.iload_n 3, 1) := by decide +kernel
theorem dX6_strengthsAsSeen_33 : decode cX6_strengthsAsSeen 33 = .ok (.ishl, 1) := by decide +kernel
theorem dX6_strengthsAsSeen_34 : decode cX6_strengthsAsSeen 34 = .ok (.ior, 1) := by decide +kernel
theorem dX6_strengthsAsSeen_35 : decode cX6_strengthsAsSeen 35 = .ok (.istore_n 2, 1) := by decide +kernel
theorem dX6_strengthsAsSeen_36 : decode cX6_strengthsAsSeen 36 = .ok (.iinc 3 1, 3) := by decide +kernel
theorem dX6_strengthsAsSeen_39 : decode cX6_strengthsAsSeen 39 = .ok (.goto (-35), 3) := by decide +kernel
theorem dX6_strengthsAsSeen_42 : decode cX6_strengthsAsSeen 42 = .ok (.iload_n 2, 1) := by decide +kernel
theorem dX6_strengthsAsSeen_43 : decode cX6_strengthsAsSeen 43 = .ok (.ireturn, 1) := by decide +kernel
theorem dX6_ask_0 : decode cX6_ask 0 = .ok (.aload_n 0, 1) := by decide +kernel
theorem dX6_ask_1 : decode cX6_ask 1 = .ok (.getfield 24, 3) := by decide +kernel
theorem dX6_ask_4 : decode cX6_ask 4 = .ok (.iload_n 1, 1) := by decide +kernel
theorem dX6_ask_5 : decode cX6_ask 5 = .ok (.invokevirtual 120, 3) := by decide +kernel
theorem dX6_ask_8 : decode cX6_ask 8 = .ok (.ifCond .eq 11, 3) := by decide +kernel
theorem dX6_ask_11 : decode cX6_ask 11 = .ok (.iload_n 2, 1) := by decide +kernel
theorem dX6_ask_12 : decode cX6_ask 12 = .ok (.iconst 1, 1) := by decide +kernel
theorem dX6_ask_13 : decode cX6_ask 13 = .ok (.invokestatic 70, 3) := by decide +kernel
theorem dX6_ask_16 : decode cX6_ask 16 = .ok (.ifCond .ne 5, 3) := by decide +kernel
theorem dX6_ask_19 : decode cX6_ask 19 = .ok (.iconst (-1), 1) := by decide +kernel
theorem dX6_ask_20 : decode cX6_ask 20 = .ok (.ireturn, 1) := by decide +kernel
theorem dX6_ask_21 : decode cX6_ask 21 = .ok (.aload_n 0, 1) := by decide +kernel
theorem dX6_ask_22 : decode cX6_ask 22 = .ok (.iload_n 1, 1) := by decide +kernel
theorem dX6_ask_23 : decode cX6_ask 23 = .ok (.invokevirtual 256, 3) := by decide +kernel
theorem dX6_ask_26 : decode cX6_ask 26 = .ok (.istore_n 3, 1) := by decide +kernel
theorem dX6_ask_27 : decode cX6_ask 27 = .ok (.aload_n 0, 1) := by decide +kernel
theorem dX6_ask_28 : decode cX6_ask 28 = .ok (.iload_n 1, 1) := by decide +kernel
theorem dX6_ask_29 : decode cX6_ask 29 = .ok (.invokevirtual 259, 3) := by decide +kernel
theorem dX6_ask_32 : decode cX6_ask 32 = .ok (.aload_n 0, 1) := by decide +kernel
theorem dX6_ask_33 : decode cX6_ask 33 = .ok (.getfield 55, 3) := by decide +kernel
theorem dX6_ask_36 : decode cX6_ask 36 = .ok (.iload_n 3, 1) := by decide +kernel
theorem dX6_ask_37 : decode cX6_ask 37 = .ok (.invokestatic 235, 3) := by decide +kernel
theorem dX6_ask_40 : decode cX6_ask 40 = .ok (.invokevirtual 189, 3) := by decide +kernel
theorem dX6_ask_43 : decode cX6_ask 43 = .ok (.iconst 0, 1) := by decide +kernel
theorem dX6_ask_44 : decode cX6_ask 44 = .ok (.istore 4, 2) := by decide +kernel
theorem dX6_ask_46 : decode cX6_ask 46 = .ok (.iload 4, 2) := by decide +kernel
theorem dX6_ask_48 : decode cX6_ask 48 = .ok (.bipush 21, 2) := by decide +kernel
theorem dX6_ask_50 : decode cX6_ask 50 = .ok (.if_icmp .ge 25, 3) := by decide +kernel
theorem dX6_ask_53 : decode cX6_ask 53 = .ok (.aload_n 0, 1) := by decide +kernel
theorem dX6_ask_54 : decode cX6_ask 54 = .ok (.getfield 55, 3) := by decide +kernel
theorem dX6_ask_57 : decode cX6_ask 57 = .ok (.iload 4, 2) := by decide +kernel
theorem dX6_ask_59 : decode cX6_ask 59 = .ok (.aload_n 0, 1) := by decide +kernel
theorem dX6_ask_60 : decode cX6_ask 60 = .ok (.iload_n 3, 1) := by decide +kernel
theorem dX6_ask_61 : decode cX6_ask 61 = .ok (.iload 4, 2) := by decide +kernel
theorem dX6_ask_63 : decode cX6_ask 63 = .ok (.invokevirtual 262, 3) := by decide +kernel
theorem dX6_ask_66 : decode cX6_ask 66 = .ok (.invokevirtual 195, 3) := by decide +kernel
theorem dX6_ask_69 : decode cX6_ask 69 = .ok (.iinc 4 1, 3) := by decide +kernel
theorem dX6_ask_72 : decode cX6_ask 72 = .ok (.goto (-26), 3) := by decide +kernel
theorem dX6_ask_75 : decode cX6_ask 75 = .ok (.aload_n 0, 1) := by decide +kernel
theorem dX6_ask_76 : decode cX6_ask 76 = .ok (.getfield 55, 3) := by decide +kernel
theorem dX6_ask_79 : decode cX6_ask 79 = .ok (.iload_n 2, 1) := by decide +kernel
theorem dX6_ask_80 : decode cX6_ask 80 = .ok (.invokevirtual 205, 3) := by decide +kernel
theorem dX6_ask_83 : decode cX6_ask 83 = .ok (.ireturn, 1) := by decide +kernel
theorem dX6_noteOutcomes_0 : decode cX6_noteOutcomes 0 = .ok (.iconst 0, 1) := by decide +kernel
theorem dX6_noteOutcomes_1 : decode cX6_noteOutcomes 1 = .ok (.istore_n 2, 1) := by decide +kernel
theorem dX6_noteOutcomes_2 : decode cX6_noteOutcomes 2 = .ok (.iload_n 2, 1) := by decide +kernel
theorem dX6_noteOutcomes_3 : decode cX6_noteOutcomes 3 = .ok (.bipush 20, 2) := by decide +kernel
theorem dX6_noteOutcomes_5 : decode cX6_noteOutcomes 5 = .ok (.if_icmp .gt 48, 3) := by decide +kernel
theorem dX6_noteOutcomes_8 : decode cX6_noteOutcomes 8 = .ok (.aload_n 0, 1) := by decide +kernel
theorem dX6_noteOutcomes_9 : decode cX6_noteOutcomes 9 = .ok (.iload_n 1, 1) := by decide +kernel
theorem dX6_noteOutcomes_10 : decode cX6_noteOutcomes 10 = .ok (.iload_n 2, 1) := by decide +kernel
theorem dX6_noteOutcomes_11 : decode cX6_noteOutcomes 11 = .ok (.invokevirtual 211, 3) := by decide +kernel
theorem dX6_noteOutcomes_14 : decode cX6_noteOutcomes 14 = .ok (.iconst 0, 1) := by decide +kernel
theorem dX6_noteOutcomes_15 : decode cX6_noteOutcomes 15 = .ok (.istore_n 3, 1) := by decide +kernel
theorem dX6_noteOutcomes_16 : decode cX6_noteOutcomes 16 = .ok (.iload_n 3, 1) := by decide +kernel
theorem dX6_noteOutcomes_17 : decode cX6_noteOutcomes 17 = .ok (.bipush 21, 2) := by decide +kernel
theorem dX6_noteOutcomes_19 : decode cX6_noteOutcomes 19 = .ok (.if_icmp .ge 28, 3) := by decide +kernel
theorem dX6_noteOutcomes_22 : decode cX6_noteOutcomes 22 = .ok (.aload_n 0, 1) := by decide +kernel
theorem dX6_noteOutcomes_23 : decode cX6_noteOutcomes 23 = .ok (.getfield 63, 3) := by decide +kernel
theorem dX6_noteOutcomes_26 : decode cX6_noteOutcomes 26 = .ok (.iload_n 2, 1) := by decide +kernel
theorem dX6_noteOutcomes_27 : decode cX6_noteOutcomes 27 = .ok (.bipush 21, 2) := by decide +kernel
theorem dX6_noteOutcomes_29 : decode cX6_noteOutcomes 29 = .ok (.imul, 1) := by decide +kernel
theorem dX6_noteOutcomes_30 : decode cX6_noteOutcomes 30 = .ok (.iload_n 3, 1) := by decide +kernel
theorem dX6_noteOutcomes_31 : decode cX6_noteOutcomes 31 = .ok (.iadd, 1) := by decide +kernel
theorem dX6_noteOutcomes_32 : decode cX6_noteOutcomes 32 = .ok (.aload_n 0, 1) := by decide +kernel
theorem dX6_noteOutcomes_33 : decode cX6_noteOutcomes 33 = .ok (.getfield 28, 3) := by decide +kernel
theorem dX6_noteOutcomes_36 : decode cX6_noteOutcomes 36 = .ok (.iconst 0, 1) := by decide +kernel
theorem dX6_noteOutcomes_37 : decode cX6_noteOutcomes 37 = .ok (.invokevirtual 169, 3) := by decide +kernel
theorem dX6_noteOutcomes_40 : decode cX6_noteOutcomes 40 = .ok (.iastore, 1) := by decide +kernel
theorem dX6_noteOutcomes_41 : decode cX6_noteOutcomes 41 = .ok (.iinc 3 1, 3) := by decide +kernel
theorem dX6_noteOutcomes_44 : decode cX6_noteOutcomes 44 = .ok (.goto (-28), 3) := by decide +kernel
theorem dX6_noteOutcomes_47 : decode cX6_noteOutcomes 47 = .ok (.iinc 2 1, 3) := by decide +kernel
theorem dX6_noteOutcomes_50 : decode cX6_noteOutcomes 50 = .ok (.goto (-48), 3) := by decide +kernel
theorem dX6_noteOutcomes_53 : decode cX6_noteOutcomes 53 = .ok (.return_, 1) := by decide +kernel
theorem dX6_leftAtWorst_0 : decode cX6_leftAtWorst 0 = .ok (.iconst 0, 1) := by decide +kernel
theorem dX6_leftAtWorst_1 : decode cX6_leftAtWorst 1 = .ok (.istore_n 3, 1) := by decide +kernel
theorem dX6_leftAtWorst_2 : decode cX6_leftAtWorst 2 = .ok (.iload_n 3, 1) := by decide +kernel
theorem dX6_leftAtWorst_3 : decode cX6_leftAtWorst 3 = .ok (.iconst 5, 1) := by decide +kernel
theorem dX6_leftAtWorst_4 : decode cX6_leftAtWorst 4 = .ok (.if_icmp .gt 16, 3) := by decide +kernel
theorem dX6_leftAtWorst_7 : decode cX6_leftAtWorst 7 = .ok (.aload_n 0, 1) := by decide +kernel
theorem dX6_leftAtWorst_8 : decode cX6_leftAtWorst 8 = .ok (.getfield 66, 3) := by decide +kernel
theorem dX6_leftAtWorst_11 : decode cX6_leftAtWorst 11 = .ok (.iload_n 3, 1) := by decide +kernel
theorem dX6_leftAtWorst_12 : decode cX6_leftAtWorst 12 = .ok (.iconst 0, 1) := by decide +kernel
theorem dX6_leftAtWorst_13 : decode cX6_leftAtWorst 13 = .ok (.iastore, 1) := by decide +kernel
theorem dX6_leftAtWorst_14 : decode cX6_leftAtWorst 14 = .ok (.iinc 3 1, 3) := by decide +kernel
theorem dX6_leftAtWorst_17 : decode cX6_leftAtWorst 17 = .ok (.goto (-15), 3) := by decide +kernel
theorem dX6_leftAtWorst_20 : decode cX6_leftAtWorst 20 = .ok (.iconst 0, 1) := by decide +kernel
theorem dX6_leftAtWorst_21 : decode cX6_leftAtWorst 21 = .ok (.istore_n 3, 1) := by decide +kernel
theorem dX6_leftAtWorst_22 : decode cX6_leftAtWorst 22 = .ok (.iconst 0, 1) := by decide +kernel
theorem dX6_leftAtWorst_23 : decode cX6_leftAtWorst 23 = .ok (.istore 4, 2) := by decide +kernel
theorem dX6_leftAtWorst_25 : decode cX6_leftAtWorst 25 = .ok (.iload 4, 2) := by decide +kernel
theorem dX6_leftAtWorst_27 : decode cX6_leftAtWorst 27 = .ok (.bipush 20, 2) := by decide +kernel
theorem dX6_leftAtWorst_29 : decode cX6_leftAtWorst 29 = .ok (.if_icmp .gt 73, 3) := by decide +kernel
theorem dX6_leftAtWorst_32 : decode cX6_leftAtWorst 32 = .ok (.iload_n 1, 1) := by decide +kernel
theorem dX6_leftAtWorst_33 : decode cX6_leftAtWorst 33 = .ok (.iload 4, 2) := by decide +kernel
theorem dX6_leftAtWorst_35 : decode cX6_leftAtWorst 35 = .ok (.ishr, 1) := by decide +kernel
theorem dX6_leftAtWorst_36 : decode cX6_leftAtWorst 36 = .ok (.iconst 1, 1) := by decide +kernel
theorem dX6_leftAtWorst_37 : decode cX6_leftAtWorst 37 = .ok (.iand, 1) := by decide +kernel
theorem dX6_leftAtWorst_38 : decode cX6_leftAtWorst 38 = .ok (.iconst 1, 1) := by decide +kernel
theorem dX6_leftAtWorst_39 : decode cX6_leftAtWorst 39 = .ok (.if_icmp .ne 57, 3) := by decide +kernel
theorem dX6_leftAtWorst_42 : decode cX6_leftAtWorst 42 = .ok (.aload_n 0, 1) := by decide +kernel
theorem dX6_leftAtWorst_43 : decode cX6_leftAtWorst 43 = .ok (.getfield 63, 3) := by decide +kernel
theorem dX6_leftAtWorst_46 : decode cX6_leftAtWorst 46 = .ok (.iload 4, 2) := by decide +kernel
theorem dX6_leftAtWorst_48 : decode cX6_leftAtWorst 48 = .ok (.bipush 21, 2) := by decide +kernel
theorem dX6_leftAtWorst_50 : decode cX6_leftAtWorst 50 = .ok (.imul, 1) := by decide +kernel
theorem dX6_leftAtWorst_51 : decode cX6_leftAtWorst 51 = .ok (.iload_n 2, 1) := by decide +kernel
theorem dX6_leftAtWorst_52 : decode cX6_leftAtWorst 52 = .ok (.iadd, 1) := by decide +kernel
theorem dX6_leftAtWorst_53 : decode cX6_leftAtWorst 53 = .ok (.iaload, 1) := by decide +kernel
theorem dX6_leftAtWorst_54 : decode cX6_leftAtWorst 54 = .ok (.istore 5, 2) := by decide +kernel
theorem dX6_leftAtWorst_56 : decode cX6_leftAtWorst 56 = .ok (.iload 5, 2) := by decide +kernel
theorem dX6_leftAtWorst_58 : decode cX6_leftAtWorst 58 = .ok (.iconst 4, 1) := by decide +kernel
theorem dX6_leftAtWorst_59 : decode cX6_leftAtWorst 59 = .ok (.invokestatic 70, 3) := by decide +kernel
theorem dX6_leftAtWorst_62 : decode cX6_leftAtWorst 62 = .ok (.ifCond .eq 8, 3) := by decide +kernel
theorem dX6_leftAtWorst_65 : decode cX6_leftAtWorst 65 = .ok (.iload 5, 2) := by decide +kernel
theorem dX6_leftAtWorst_67 : decode cX6_leftAtWorst 67 = .ok (.goto 4, 3) := by decide +kernel
theorem dX6_leftAtWorst_70 : decode cX6_leftAtWorst 70 = .ok (.iconst 5, 1) := by decide +kernel
theorem dX6_leftAtWorst_71 : decode cX6_leftAtWorst 71 = .ok (.istore 6, 2) := by decide +kernel
theorem dX6_leftAtWorst_73 : decode cX6_leftAtWorst 73 = .ok (.aload_n 0, 1) := by decide +kernel
theorem dX6_leftAtWorst_74 : decode cX6_leftAtWorst 74 = .ok (.getfield 66, 3) := by decide +kernel
theorem dX6_leftAtWorst_77 : decode cX6_leftAtWorst 77 = .ok (.iload 6, 2) := by decide +kernel
theorem dX6_leftAtWorst_79 : decode cX6_leftAtWorst 79 = .ok (.dup2, 1) := by decide +kernel
theorem dX6_leftAtWorst_80 : decode cX6_leftAtWorst 80 = .ok (.iaload, 1) := by decide +kernel
theorem dX6_leftAtWorst_81 : decode cX6_leftAtWorst 81 = .ok (.iconst 1, 1) := by decide +kernel
theorem dX6_leftAtWorst_82 : decode cX6_leftAtWorst 82 = .ok (.iadd, 1) := by decide +kernel
theorem dX6_leftAtWorst_83 : decode cX6_leftAtWorst 83 = .ok (.iastore, 1) := by decide +kernel
theorem dX6_leftAtWorst_84 : decode cX6_leftAtWorst 84 = .ok (.iload_n 3, 1) := by decide +kernel
theorem dX6_leftAtWorst_85 : decode cX6_leftAtWorst 85 = .ok (.aload_n 0, 1) := by decide +kernel
theorem dX6_leftAtWorst_86 : decode cX6_leftAtWorst 86 = .ok (.getfield 66, 3) := by decide +kernel
theorem dX6_leftAtWorst_89 : decode cX6_leftAtWorst 89 = .ok (.iload 6, 2) := by decide +kernel
theorem dX6_leftAtWorst_91 : decode cX6_leftAtWorst 91 = .ok (.iaload, 1) := by decide +kernel
theorem dX6_leftAtWorst_92 : decode cX6_leftAtWorst 92 = .ok (.invokestatic 265, 3) := by decide +kernel
theorem dX6_leftAtWorst_95 : decode cX6_leftAtWorst 95 = .ok (.istore_n 3, 1) := by decide +kernel
theorem dX6_leftAtWorst_96 : decode cX6_leftAtWorst 96 = .ok (.iinc 4 1, 3) := by decide +kernel
theorem dX6_leftAtWorst_99 : decode cX6_leftAtWorst 99 = .ok (.goto (-74), 3) := by decide +kernel
theorem dX6_leftAtWorst_102 : decode cX6_leftAtWorst 102 = .ok (.iload_n 3, 1) := by decide +kernel
theorem dX6_leftAtWorst_103 : decode cX6_leftAtWorst 103 = .ok (.ireturn, 1) := by decide +kernel
theorem dX6_drift_0 : decode cX6_drift 0 = .ok (.iload_n 2, 1) := by decide +kernel
theorem dX6_drift_1 : decode cX6_drift 1 = .ok (.iconst 1, 1) := by decide +kernel
theorem dX6_drift_2 : decode cX6_drift 2 = .ok (.if_icmp .lt 17, 3) := by decide +kernel
theorem dX6_drift_5 : decode cX6_drift 5 = .ok (.iload_n 2, 1) := by decide +kernel
theorem dX6_drift_6 : decode cX6_drift 6 = .ok (.bipush 60, 2) := by decide +kernel
theorem dX6_drift_8 : decode cX6_drift 8 = .ok (.if_icmp .gt 11, 3) := by decide +kernel
theorem dX6_drift_11 : decode cX6_drift 11 = .ok (.iload_n 3, 1) := by decide +kernel
theorem dX6_drift_12 : decode cX6_drift 12 = .ok (.iconst 1, 1) := by decide +kernel
theorem dX6_drift_13 : decode cX6_drift 13 = .ok (.invokestatic 70, 3) := by decide +kernel
theorem dX6_drift_16 : decode cX6_drift 16 = .ok (.ifCond .ne 5, 3) := by decide +kernel
theorem dX6_drift_19 : decode cX6_drift 19 = .ok (.iconst (-1), 1) := by decide +kernel
theorem dX6_drift_20 : decode cX6_drift 20 = .ok (.ireturn, 1) := by decide +kernel
theorem dX6_drift_21 : decode cX6_drift 21 = .ok (.aload_n 0, 1) := by decide +kernel
theorem dX6_drift_22 : decode cX6_drift 22 = .ok (.getfield 24, 3) := by decide +kernel
theorem dX6_drift_25 : decode cX6_drift 25 = .ok (.getfield 101, 3) := by decide +kernel
theorem dX6_drift_28 : decode cX6_drift 28 = .ok (.istore 4, 2) := by decide +kernel
theorem dX6_drift_30 : decode cX6_drift 30 = .ok (.iload 4, 2) := by decide +kernel
theorem dX6_drift_32 : decode cX6_drift 32 = .ok (.iconst 2, 1) := by decide +kernel
theorem dX6_drift_33 : decode cX6_drift 33 = .ok (.if_icmp .ge 6, 3) := by decide +kernel
theorem dX6_drift_36 : decode cX6_drift 36 = .ok (.bipush (-2), 2) := by decide +kernel
theorem dX6_drift_38 : decode cX6_drift 38 = .ok (.ireturn, 1) := by decide +kernel
theorem dX6_drift_39 : decode cX6_drift 39 = .ok (.aload_n 0, 1) := by decide +kernel
theorem dX6_drift_40 : decode cX6_drift 40 = .ok (.getfield 28, 3) := by decide +kernel
theorem dX6_drift_43 : decode cX6_drift 43 = .ok (.aload_n 0, 1) := by decide +kernel
theorem dX6_drift_44 : decode cX6_drift 44 = .ok (.getfield 24, 3) := by decide +kernel
theorem dX6_drift_47 : decode cX6_drift 47 = .ok (.invokevirtual 94, 3) := by decide +kernel
theorem dX6_drift_50 : decode cX6_drift 50 = .ok (.iload_n 1, 1) := by decide +kernel
theorem dX6_drift_51 : decode cX6_drift 51 = .ok (.istore 5, 2) := by decide +kernel
theorem dX6_drift_53 : decode cX6_drift 53 = .ok (.iconst 0, 1) := by decide +kernel
theorem dX6_drift_54 : decode cX6_drift 54 = .ok (.istore 6, 2) := by decide +kernel
theorem dX6_drift_56 : decode cX6_drift 56 = .ok (.iconst 0, 1) := by decide +kernel
theorem dX6_drift_57 : decode cX6_drift 57 = .ok (.istore 7, 2) := by decide +kernel
theorem dX6_drift_59 : decode cX6_drift 59 = .ok (.iload 7, 2) := by decide +kernel
theorem dX6_drift_61 : decode cX6_drift 61 = .ok (.iload_n 2, 1) := by decide +kernel
theorem dX6_drift_62 : decode cX6_drift 62 = .ok (.if_icmp .ge 76, 3) := by decide +kernel
theorem dX6_drift_65 : decode cX6_drift 65 = .ok (.iload 5, 2) := by decide +kernel
theorem dX6_drift_67 : decode cX6_drift 67 = .ok (.ldc_w 267, 3) := by decide +kernel
theorem dX6_drift_70 : decode cX6_drift 70 = .ok (.imul, 1) := by decide +kernel
theorem dX6_drift_71 : decode cX6_drift 71 = .ok (.sipush 12345, 3) := by decide +kernel
theorem dX6_drift_74 : decode cX6_drift 74 = .ok (.iadd, 1) := by decide +kernel
theorem dX6_drift_75 : decode cX6_drift 75 = .ok (.istore 5, 2) := by decide +kernel
theorem dX6_drift_77 : decode cX6_drift 77 = .ok (.iload 5, 2) := by decide +kernel
theorem dX6_drift_79 : decode cX6_drift 79 = .ok (.bipush 16, 2) := by decide +kernel
theorem dX6_drift_81 : decode cX6_drift 81 = .ok (.iushr, 1) := by decide +kernel
theorem dX6_drift_82 : decode cX6_drift 82 = .ok (.sipush 32767, 3) := by decide +kernel
theorem dX6_drift_85 : decode cX6_drift 85 = .ok (.iand, 1) := by decide +kernel
theorem dX6_drift_86 : decode cX6_drift 86 = .ok (.istore 8, 2) := by decide +kernel
theorem dX6_drift_88 : decode cX6_drift 88 = .ok (.iload 8, 2) := by decide +kernel
theorem dX6_drift_90 : decode cX6_drift 90 = .ok (.iload 4, 2) := by decide +kernel
theorem dX6_drift_92 : decode cX6_drift 92 = .ok (.irem, 1) := by decide +kernel
theorem dX6_drift_93 : decode cX6_drift 93 = .ok (.istore 9, 2) := by decide +kernel
theorem dX6_drift_95 : decode cX6_drift 95 = .ok (.iload 9, 2) := by decide +kernel
theorem dX6_drift_97 : decode cX6_drift 97 = .ok (.iconst 1, 1) := by decide +kernel
theorem dX6_drift_98 : decode cX6_drift 98 = .ok (.iadd, 1) := by decide +kernel
theorem dX6_drift_99 : decode cX6_drift 99 = .ok (.iload 8, 2) := by decide +kernel
theorem dX6_drift_101 : decode cX6_drift 101 = .ok (.bipush 8, 2) := by decide +kernel
theorem dX6_drift_103 : decode cX6_drift 103 = .ok (.idiv, 1) := by decide +kernel
theorem dX6_drift_104 : decode cX6_drift 104 = .ok (.iload 4, 2) := by decide +kernel
theorem dX6_drift_106 : decode cX6_drift 106 = .ok (.iconst 1, 1) := by decide +kernel
theorem dX6_drift_107 : decode cX6_drift 107 = .ok (.isub, 1) := by decide +kernel
theorem dX6_drift_108 : decode cX6_drift 108 = .ok (.irem, 1) := by decide +kernel
theorem dX6_drift_109 : decode cX6_drift 109 = .ok (.iadd, 1) := by decide +kernel
theorem dX6_drift_110 : decode cX6_drift 110 = .ok (.iload 4, 2) := by decide +kernel
theorem dX6_drift_112 : decode cX6_drift 112 = .ok (.irem, 1) := by decide +kernel
theorem dX6_drift_113 : decode cX6_drift 113 = .ok (.istore 10, 2) := by decide +kernel
theorem dX6_drift_115 : decode cX6_drift 115 = .ok (.aload_n 0, 1) := by decide +kernel
theorem dX6_drift_116 : decode cX6_drift 116 = .ok (.getfield 28, 3) := by decide +kernel
theorem dX6_drift_119 : decode cX6_drift 119 = .ok (.iload 9, 2) := by decide +kernel
theorem dX6_drift_121 : decode cX6_drift 121 = .ok (.iload 10, 2) := by decide +kernel
theorem dX6_drift_123 : decode cX6_drift 123 = .ok (.invokevirtual 268, 3) := by decide +kernel
theorem dX6_drift_126 : decode cX6_drift 126 = .ok (.ifCond .lt 6, 3) := by decide +kernel
theorem dX6_drift_129 : decode cX6_drift 129 = .ok (.iinc 6 1, 3) := by decide +kernel
theorem dX6_drift_132 : decode cX6_drift 132 = .ok (.iinc 7 1, 3) := by decide +kernel
theorem dX6_drift_135 : decode cX6_drift 135 = .ok (.goto (-76), 3) := by decide +kernel
theorem dX6_drift_138 : decode cX6_drift 138 = .ok (.iload_n 3, 1) := by decide +kernel
theorem dX6_drift_139 : decode cX6_drift 139 = .ok (.ifCond .ne 13, 3) := by decide +kernel
theorem dX6_drift_142 : decode cX6_drift 142 = .ok (.aload_n 0, 1) := by decide +kernel
theorem dX6_drift_143 : decode cX6_drift 143 = .ok (.getfield 28, 3) := by decide +kernel
theorem dX6_drift_146 : decode cX6_drift 146 = .ok (.invokevirtual 117, 3) := by decide +kernel
theorem dX6_drift_149 : decode cX6_drift 149 = .ok (.goto 5, 3) := by decide +kernel
theorem dX6_drift_152 : decode cX6_drift 152 = .ok (.iload 6, 2) := by decide +kernel
theorem dX6_drift_154 : decode cX6_drift 154 = .ok (.ireturn, 1) := by decide +kernel
theorem dX6_keep_0 : decode cX6_keep 0 = .ok (.iload_n 1, 1) := by decide +kernel
theorem dX6_keep_1 : decode cX6_keep 1 = .ok (.iconst 1, 1) := by decide +kernel
theorem dX6_keep_2 : decode cX6_keep 2 = .ok (.invokestatic 70, 3) := by decide +kernel
theorem dX6_keep_5 : decode cX6_keep 5 = .ok (.ifCond .ne 5, 3) := by decide +kernel
theorem dX6_keep_8 : decode cX6_keep 8 = .ok (.iconst (-1), 1) := by decide +kernel
theorem dX6_keep_9 : decode cX6_keep 9 = .ok (.ireturn, 1) := by decide +kernel
theorem dX6_keep_10 : decode cX6_keep 10 = .ok (.aload_n 0, 1) := by decide +kernel
theorem dX6_keep_11 : decode cX6_keep 11 = .ok (.getfield 35, 3) := by decide +kernel
theorem dX6_keep_14 : decode cX6_keep 14 = .ok (.iload_n 1, 1) := by decide +kernel
theorem dX6_keep_15 : decode cX6_keep 15 = .ok (.baload, 1) := by decide +kernel
theorem dX6_keep_16 : decode cX6_keep 16 = .ok (.istore_n 2, 1) := by decide +kernel
theorem dX6_keep_17 : decode cX6_keep 17 = .ok (.aload_n 0, 1) := by decide +kernel
theorem dX6_keep_18 : decode cX6_keep 18 = .ok (.getfield 31, 3) := by decide +kernel
theorem dX6_keep_21 : decode cX6_keep 21 = .ok (.iload_n 1, 1) := by decide +kernel
theorem dX6_keep_22 : decode cX6_keep 22 = .ok (.aaload, 1) := by decide +kernel
theorem dX6_keep_23 : decode cX6_keep 23 = .ok (.aload_n 0, 1) := by decide +kernel
theorem dX6_keep_24 : decode cX6_keep 24 = .ok (.getfield 24, 3) := by decide +kernel
theorem dX6_keep_27 : decode cX6_keep 27 = .ok (.invokevirtual 94, 3) := by decide +kernel
theorem dX6_keep_30 : decode cX6_keep 30 = .ok (.aload_n 0, 1) := by decide +kernel
theorem dX6_keep_31 : decode cX6_keep 31 = .ok (.getfield 35, 3) := by decide +kernel
theorem dX6_keep_34 : decode cX6_keep 34 = .ok (.iload_n 1, 1) := by decide +kernel
theorem dX6_keep_35 : decode cX6_keep 35 = .ok (.iconst 1, 1) := by decide +kernel
theorem dX6_keep_36 : decode cX6_keep 36 = .ok (.bastore, 1) := by decide +kernel
theorem dX6_keep_37 : decode cX6_keep 37 = .ok (.iload_n 2, 1) := by decide +kernel
theorem dX6_keep_38 : decode cX6_keep 38 = .ok (.ifCond .eq 7, 3) := by decide +kernel
theorem dX6_keep_41 : decode cX6_keep 41 = .ok (.iconst 1, 1) := by decide +kernel
theorem dX6_keep_42 : decode cX6_keep 42 = .ok (.goto 4, 3) := by decide +kernel
theorem dX6_keep_45 : decode cX6_keep 45 = .ok (.iconst 0, 1) := by decide +kernel
theorem dX6_keep_46 : decode cX6_keep 46 = .ok (.ireturn, 1) := by decide +kernel
theorem dX6_back_0 : decode cX6_back 0 = .ok (.iload_n 1, 1) := by decide +kernel
theorem dX6_back_1 : decode cX6_back 1 = .ok (.iconst 1, 1) := by decide +kernel
theorem dX6_back_2 : decode cX6_back 2 = .ok (.invokestatic 70, 3) := by decide +kernel
theorem dX6_back_5 : decode cX6_back 5 = .ok (.ifCond .ne 5, 3) := by decide +kernel
theorem dX6_back_8 : decode cX6_back 8 = .ok (.iconst (-1), 1) := by decide +kernel
theorem dX6_back_9 : decode cX6_back 9 = .ok (.ireturn, 1) := by decide +kernel
theorem dX6_back_10 : decode cX6_back 10 = .ok (.aload_n 0, 1) := by decide +kernel
theorem dX6_back_11 : decode cX6_back 11 = .ok (.getfield 35, 3) := by decide +kernel
theorem dX6_back_14 : decode cX6_back 14 = .ok (.iload_n 1, 1) := by decide +kernel
theorem dX6_back_15 : decode cX6_back 15 = .ok (.baload, 1) := by decide +kernel
theorem dX6_back_16 : decode cX6_back 16 = .ok (.ifCond .ne 6, 3) := by decide +kernel
theorem dX6_back_19 : decode cX6_back 19 = .ok (.bipush (-2), 2) := by decide +kernel
theorem dX6_back_21 : decode cX6_back 21 = .ok (.ireturn, 1) := by decide +kernel
theorem dX6_back_22 : decode cX6_back 22 = .ok (.aload_n 0, 1) := by decide +kernel
theorem dX6_back_23 : decode cX6_back 23 = .ok (.getfield 24, 3) := by decide +kernel
theorem dX6_back_26 : decode cX6_back 26 = .ok (.aload_n 0, 1) := by decide +kernel
theorem dX6_back_27 : decode cX6_back 27 = .ok (.getfield 31, 3) := by decide +kernel
theorem dX6_back_30 : decode cX6_back 30 = .ok (.iload_n 1, 1) := by decide +kernel
theorem dX6_back_31 : decode cX6_back 31 = .ok (.aaload, 1) := by decide +kernel
theorem dX6_back_32 : decode cX6_back 32 = .ok (.invokevirtual 94, 3) := by decide +kernel
theorem dX6_back_35 : decode cX6_back 35 = .ok (.aload_n 0, 1) := by decide +kernel
theorem dX6_back_36 : decode cX6_back 36 = .ok (.getfield 24, 3) := by decide +kernel
theorem dX6_back_39 : decode cX6_back 39 = .ok (.getfield 107, 3) := by decide +kernel
theorem dX6_back_42 : decode cX6_back 42 = .ok (.ireturn, 1) := by decide +kernel
theorem dX6_sheet_0 : decode cX6_sheet 0 = .ok (.iload_n 1, 1) := by decide +kernel
theorem dX6_sheet_1 : decode cX6_sheet 1 = .ok (.iconst 3, 1) := by decide +kernel
theorem dX6_sheet_2 : decode cX6_sheet 2 = .ok (.invokestatic 70, 3) := by decide +kernel
theorem dX6_sheet_5 : decode cX6_sheet 5 = .ok (.ifCond .eq 17, 3) := by decide +kernel
theorem dX6_sheet_8 : decode cX6_sheet 8 = .ok (.iload_n 2, 1) := by decide +kernel
theorem dX6_sheet_9 : decode cX6_sheet 9 = .ok (.iconst 2, 1) := by decide +kernel
theorem dX6_sheet_10 : decode cX6_sheet 10 = .ok (.invokestatic 70, 3) := by decide +kernel
theorem dX6_sheet_13 : decode cX6_sheet 13 = .ok (.ifCond .eq 9, 3) := by decide +kernel
theorem dX6_sheet_16 : decode cX6_sheet 16 = .ok (.iload_n 3, 1) := by decide +kernel
theorem dX6_sheet_17 : decode cX6_sheet 17 = .ok (.bipush 40, 2) := by decide +kernel
theorem dX6_sheet_19 : decode cX6_sheet 19 = .ok (.if_icmp .le 5, 3) := by decide +kernel
theorem dX6_sheet_22 : decode cX6_sheet 22 = .ok (.iconst (-1), 1) := by decide +kernel
theorem dX6_sheet_23 : decode cX6_sheet 23 = .ok (.ireturn, 1) := by decide +kernel
theorem dX6_sheet_24 : decode cX6_sheet 24 = .ok (.iload_n 3, 1) := by decide +kernel
theorem dX6_sheet_25 : decode cX6_sheet 25 = .ok (.ifCond .ge 6, 3) := by decide +kernel
theorem dX6_sheet_28 : decode cX6_sheet 28 = .ok (.bipush (-14), 2) := by decide +kernel
theorem dX6_sheet_30 : decode cX6_sheet 30 = .ok (.ireturn, 1) := by decide +kernel
theorem dX6_sheet_31 : decode cX6_sheet 31 = .ok (.aload_n 0, 1) := by decide +kernel
theorem dX6_sheet_32 : decode cX6_sheet 32 = .ok (.getfield 41, 3) := by decide +kernel
theorem dX6_sheet_35 : decode cX6_sheet 35 = .ok (.iload_n 1, 1) := by decide +kernel
theorem dX6_sheet_36 : decode cX6_sheet 36 = .ok (.aaload, 1) := by decide +kernel
theorem dX6_sheet_37 : decode cX6_sheet 37 = .ok (.iload_n 2, 1) := by decide +kernel
theorem dX6_sheet_38 : decode cX6_sheet 38 = .ok (.iload_n 3, 1) := by decide +kernel
theorem dX6_sheet_39 : decode cX6_sheet 39 = .ok (.invokevirtual 271, 3) := by decide +kernel
theorem dX6_sheet_42 : decode cX6_sheet 42 = .ok (.iconst 1, 1) := by decide +kernel
theorem dX6_sheet_43 : decode cX6_sheet 43 = .ok (.ireturn, 1) := by decide +kernel
theorem dX6_lay_0 : decode cX6_lay 0 = .ok (.iload_n 1, 1) := by decide +kernel
theorem dX6_lay_1 : decode cX6_lay 1 = .ok (.iconst 3, 1) := by decide +kernel
theorem dX6_lay_2 : decode cX6_lay 2 = .ok (.invokestatic 70, 3) := by decide +kernel
theorem dX6_lay_5 : decode cX6_lay 5 = .ok (.ifCond .ne 5, 3) := by decide +kernel
theorem dX6_lay_8 : decode cX6_lay 8 = .ok (.iconst (-1), 1) := by decide +kernel
theorem dX6_lay_9 : decode cX6_lay 9 = .ok (.ireturn, 1) := by decide +kernel
theorem dX6_lay_10 : decode cX6_lay 10 = .ok (.aload_n 0, 1) := by decide +kernel
theorem dX6_lay_11 : decode cX6_lay 11 = .ok (.getfield 41, 3) := by decide +kernel
theorem dX6_lay_14 : decode cX6_lay 14 = .ok (.iload_n 1, 1) := by decide +kernel
theorem dX6_lay_15 : decode cX6_lay 15 = .ok (.aaload, 1) := by decide +kernel
theorem dX6_lay_16 : decode cX6_lay 16 = .ok (.astore 4, 2) := by decide +kernel
theorem dX6_lay_18 : decode cX6_lay 18 = .ok (.aload 4, 2) := by decide +kernel
theorem dX6_lay_20 : decode cX6_lay 20 = .ok (.invokevirtual 274, 3) := by decide +kernel
theorem dX6_lay_23 : decode cX6_lay 23 = .ok (.ifCond .ne 6, 3) := by decide +kernel
theorem dX6_lay_26 : decode cX6_lay 26 = .ok (.bipush (-11), 2) := by decide +kernel
theorem dX6_lay_28 : decode cX6_lay 28 = .ok (.ireturn, 1) := by decide +kernel
theorem dX6_lay_29 : decode cX6_lay 29 = .ok (.aload 4, 2) := by decide +kernel
theorem dX6_lay_31 : decode cX6_lay 31 = .ok (.iload_n 2, 1) := by decide +kernel
theorem dX6_lay_32 : decode cX6_lay 32 = .ok (.invokevirtual 278, 3) := by decide +kernel
theorem dX6_lay_35 : decode cX6_lay 35 = .ok (.ifCond .ne 6, 3) := by decide +kernel
theorem dX6_lay_38 : decode cX6_lay 38 = .ok (.bipush (-12), 2) := by decide +kernel
theorem dX6_lay_40 : decode cX6_lay 40 = .ok (.ireturn, 1) := by decide +kernel
theorem dX6_lay_41 : decode cX6_lay 41 = .ok (.aload 4, 2) := by decide +kernel
theorem dX6_lay_43 : decode cX6_lay 43 = .ok (.iload_n 2, 1) := by decide +kernel
theorem dX6_lay_44 : decode cX6_lay 44 = .ok (.iload_n 3, 1) := by decide +kernel
theorem dX6_lay_45 : decode cX6_lay 45 = .ok (.invokevirtual 281, 3) := by decide +kernel
theorem dX6_lay_48 : decode cX6_lay 48 = .ok (.iconst 1, 1) := by decide +kernel
theorem dX6_lay_49 : decode cX6_lay 49 = .ok (.ireturn, 1) := by decide +kernel
theorem dX6_read_0 : decode cX6_read 0 = .ok (.iload_n 1, 1) := by decide +kernel
theorem dX6_read_1 : decode cX6_read 1 = .ok (.iconst 3, 1) := by decide +kernel
theorem dX6_read_2 : decode cX6_read 2 = .ok (.invokestatic 70, 3) := by decide +kernel
theorem dX6_read_5 : decode cX6_read 5 = .ok (.ifCond .eq 21, 3) := by decide +kernel
theorem dX6_read_8 : decode cX6_read 8 = .ok (.iload_n 2, 1) := by decide +kernel
theorem dX6_read_9 : decode cX6_read 9 = .ok (.iconst 2, 1) := by decide +kernel
theorem dX6_read_10 : decode cX6_read 10 = .ok (.invokestatic 70, 3) := by decide +kernel
theorem dX6_read_13 : decode cX6_read 13 = .ok (.ifCond .eq 13, 3) := by decide +kernel
theorem dX6_read_16 : decode cX6_read 16 = .ok (.iload 4, 2) := by decide +kernel
theorem dX6_read_18 : decode cX6_read 18 = .ok (.bipush 20, 2) := by decide +kernel
theorem dX6_read_20 : decode cX6_read 20 = .ok (.invokestatic 70, 3) := by decide +kernel
theorem dX6_read_23 : decode cX6_read 23 = .ok (.ifCond .ne 5, 3) := by decide +kernel
theorem dX6_read_26 : decode cX6_read 26 = .ok (.iconst (-1), 1) := by decide +kernel
theorem dX6_read_27 : decode cX6_read 27 = .ok (.ireturn, 1) := by decide +kernel
theorem dX6_read_28 : decode cX6_read 28 = .ok (.aload_n 0, 1) := by decide +kernel
theorem dX6_read_29 : decode cX6_read 29 = .ok (.getfield 24, 3) := by decide +kernel
theorem dX6_read_32 : decode cX6_read 32 = .ok (.getfield 104, 3) := by decide +kernel
theorem dX6_read_35 : decode cX6_read 35 = .ok (.istore 5, 2) := by decide +kernel
theorem dX6_read_37 : decode cX6_read 37 = .ok (.iconst 0, 1) := by decide +kernel
theorem dX6_read_38 : decode cX6_read 38 = .ok (.istore 6, 2) := by decide +kernel
theorem dX6_read_40 : decode cX6_read 40 = .ok (.iload 6, 2) := by decide +kernel
theorem dX6_read_42 : decode cX6_read 42 = .ok (.iload 4, 2) := by decide +kernel
theorem dX6_read_44 : decode cX6_read 44 = .ok (.if_icmp .ge 96, 3) := by decide +kernel
theorem dX6_read_47 : decode cX6_read 47 = .ok (.iload_n 3, 1) := by decide +kernel
theorem dX6_read_48 : decode cX6_read 48 = .ok (.iconst 2, 1) := by decide +kernel
theorem dX6_read_49 : decode cX6_read 49 = .ok (.iload 6, 2) := by decide +kernel
theorem dX6_read_51 : decode cX6_read 51 = .ok (.imul, 1) := by decide +kernel
theorem dX6_read_52 : decode cX6_read 52 = .ok (.iadd, 1) := by decide +kernel
theorem dX6_read_53 : decode cX6_read 53 = .ok (.istore 7, 2) := by decide +kernel
theorem dX6_read_55 : decode cX6_read 55 = .ok (.aload_n 0, 1) := by decide +kernel
theorem dX6_read_56 : decode cX6_read 56 = .ok (.getfield 41, 3) := by decide +kernel
theorem dX6_read_59 : decode cX6_read 59 = .ok (.iload_n 1, 1) := by decide +kernel
theorem dX6_read_60 : decode cX6_read 60 = .ok (.aaload, 1) := by decide +kernel
theorem dX6_read_61 : decode cX6_read 61 = .ok (.iload_n 2, 1) := by decide +kernel
theorem dX6_read_62 : decode cX6_read 62 = .ok (.iload 7, 2) := by decide +kernel
theorem dX6_read_64 : decode cX6_read 64 = .ok (.invokevirtual 284, 3) := by decide +kernel
theorem dX6_read_67 : decode cX6_read 67 = .ok (.istore 8, 2) := by decide +kernel
theorem dX6_read_69 : decode cX6_read 69 = .ok (.iload 8, 2) := by decide +kernel
theorem dX6_read_71 : decode cX6_read 71 = .ok (.ifCond .eq 12, 3) := by decide +kernel
theorem dX6_read_74 : decode cX6_read 74 = .ok (.aload_n 0, 1) := by decide +kernel
theorem dX6_read_75 : decode cX6_read 75 = .ok (.iload 8, 2) := by decide +kernel
theorem dX6_read_77 : decode cX6_read 77 = .ok (.putfield 287, 3) := by decide +kernel
theorem dX6_read_80 : decode cX6_read 80 = .ok (.iload 6, 2) := by decide +kernel
theorem dX6_read_82 : decode cX6_read 82 = .ok (.ireturn, 1) := by decide +kernel
theorem dX6_read_83 : decode cX6_read 83 = .ok (.aload_n 0, 1) := by decide +kernel
theorem dX6_read_84 : decode cX6_read 84 = .ok (.getfield 24, 3) := by decide +kernel
theorem dX6_read_87 : decode cX6_read 87 = .ok (.aload_n 0, 1) := by decide +kernel
theorem dX6_read_88 : decode cX6_read 88 = .ok (.getfield 41, 3) := by decide +kernel
theorem dX6_read_91 : decode cX6_read 91 = .ok (.iload_n 1, 1) := by decide +kernel
theorem dX6_read_92 : decode cX6_read 92 = .ok (.aaload, 1) := by decide +kernel
theorem dX6_read_93 : decode cX6_read 93 = .ok (.getfield 290, 3) := by decide +kernel
theorem dX6_read_96 : decode cX6_read 96 = .ok (.iload 7, 2) := by decide +kernel
theorem dX6_read_98 : decode cX6_read 98 = .ok (.iaload, 1) := by decide +kernel
theorem dX6_read_99 : decode cX6_read 99 = .ok (.aload_n 0, 1) := by decide +kernel
theorem dX6_read_100 : decode cX6_read 100 = .ok (.getfield 41, 3) := by decide +kernel
theorem dX6_read_103 : decode cX6_read 103 = .ok (.iload_n 1, 1) := by decide +kernel
theorem dX6_read_104 : decode cX6_read 104 = .ok (.aaload, 1) := by decide +kernel
theorem dX6_read_105 : decode cX6_read 105 = .ok (.getfield 290, 3) := by decide +kernel
theorem dX6_read_108 : decode cX6_read 108 = .ok (.iload 7, 2) := by decide +kernel
theorem dX6_read_110 : decode cX6_read 110 = .ok (.iconst 1, 1) := by decide +kernel
theorem dX6_read_111 : decode cX6_read 111 = .ok (.iadd, 1) := by decide +kernel
theorem dX6_read_112 : decode cX6_read 112 = .ok (.iaload, 1) := by decide +kernel
theorem dX6_read_113 : decode cX6_read 113 = .ok (.invokevirtual 163, 3) := by decide +kernel
theorem dX6_read_116 : decode cX6_read 116 = .ok (.ifCond .ge 18, 3) := by decide +kernel
theorem dX6_read_119 : decode cX6_read 119 = .ok (.aload_n 0, 1) := by decide +kernel
theorem dX6_read_120 : decode cX6_read 120 = .ok (.getfield 24, 3) := by decide +kernel
theorem dX6_read_123 : decode cX6_read 123 = .ok (.iload 5, 2) := by decide +kernel
theorem dX6_read_125 : decode cX6_read 125 = .ok (.putfield 104, 3) := by decide +kernel
theorem dX6_read_128 : decode cX6_read 128 = .ok (.bipush (-20), 2) := by decide +kernel
theorem dX6_read_130 : decode cX6_read 130 = .ok (.iload 6, 2) := by decide +kernel
theorem dX6_read_132 : decode cX6_read 132 = .ok (.isub, 1) := by decide +kernel
theorem dX6_read_133 : decode cX6_read 133 = .ok (.ireturn, 1) := by decide +kernel
theorem dX6_read_134 : decode cX6_read 134 = .ok (.iinc 6 1, 3) := by decide +kernel
theorem dX6_read_137 : decode cX6_read 137 = .ok (.goto (-97), 3) := by decide +kernel
theorem dX6_read_140 : decode cX6_read 140 = .ok (.aload_n 0, 1) := by decide +kernel
theorem dX6_read_141 : decode cX6_read 141 = .ok (.iconst 0, 1) := by decide +kernel
theorem dX6_read_142 : decode cX6_read 142 = .ok (.putfield 287, 3) := by decide +kernel
theorem dX6_read_145 : decode cX6_read 145 = .ok (.iload 4, 2) := by decide +kernel
theorem dX6_read_147 : decode cX6_read 147 = .ok (.ireturn, 1) := by decide +kernel
theorem dX6_torn_0 : decode cX6_torn 0 = .ok (.aload_n 0, 1) := by decide +kernel
theorem dX6_torn_1 : decode cX6_torn 1 = .ok (.getfield 287, 3) := by decide +kernel
theorem dX6_torn_4 : decode cX6_torn 4 = .ok (.ireturn, 1) := by decide +kernel
theorem dX6_count_0 : decode cX6_count 0 = .ok (.iload_n 1, 1) := by decide +kernel
theorem dX6_count_1 : decode cX6_count 1 = .ok (.tableswitch 142 0 5 #[39, 47, 77, 85, 112, 127], 39) := by decide +kernel
theorem dX6_count_40 : decode cX6_count 40 = .ok (.aload_n 0, 1) := by decide +kernel
theorem dX6_count_41 : decode cX6_count 41 = .ok (.getfield 48, 3) := by decide +kernel
theorem dX6_count_44 : decode cX6_count 44 = .ok (.getfield 98, 3) := by decide +kernel
theorem dX6_count_47 : decode cX6_count 47 = .ok (.ireturn, 1) := by decide +kernel
theorem dX6_count_48 : decode cX6_count 48 = .ok (.aload_n 0, 1) := by decide +kernel
theorem dX6_count_49 : decode cX6_count 49 = .ok (.getfield 35, 3) := by decide +kernel
theorem dX6_count_52 : decode cX6_count 52 = .ok (.iconst 0, 1) := by decide +kernel
theorem dX6_count_53 : decode cX6_count 53 = .ok (.baload, 1) := by decide +kernel
theorem dX6_count_54 : decode cX6_count 54 = .ok (.ifCond .eq 7, 3) := by decide +kernel
theorem dX6_count_57 : decode cX6_count 57 = .ok (.iconst 1, 1) := by decide +kernel
theorem dX6_count_58 : decode cX6_count 58 = .ok (.goto 4, 3) := by decide +kernel
theorem dX6_count_61 : decode cX6_count 61 = .ok (.iconst 0, 1) := by decide +kernel
theorem dX6_count_62 : decode cX6_count 62 = .ok (.aload_n 0, 1) := by decide +kernel
theorem dX6_count_63 : decode cX6_count 63 = .ok (.getfield 35, 3) := by decide +kernel
theorem dX6_count_66 : decode cX6_count 66 = .ok (.iconst 1, 1) := by decide +kernel
theorem dX6_count_67 : decode cX6_count 67 = .ok (.baload, 1) := by decide +kernel
theorem dX6_count_68 : decode cX6_count 68 = .ok (.ifCond .eq 7, 3) := by decide +kernel
theorem dX6_count_71 : decode cX6_count 71 = .ok (.iconst 1, 1) := by decide +kernel
theorem dX6_count_72 : decode cX6_count 72 = .ok (.goto 4, 3) := by decide +kernel
theorem dX6_count_75 : decode cX6_count 75 = .ok (.iconst 0, 1) := by decide +kernel
theorem dX6_count_76 : decode cX6_count 76 = .ok (.iadd, 1) := by decide +kernel
theorem dX6_count_77 : decode cX6_count 77 = .ok (.ireturn, 1) := by decide +kernel
theorem dX6_count_78 : decode cX6_count 78 = .ok (.aload_n 0, 1) := by decide +kernel
theorem dX6_count_79 : decode cX6_count 79 = .ok (.getfield 20, 3) := by decide +kernel
theorem dX6_count_82 : decode cX6_count 82 = .ok (.getfield 80, 3) := by decide +kernel
theorem dX6_count_85 : decode cX6_count 85 = .ok (.ireturn, 1) := by decide +kernel
theorem dX6_count_86 : decode cX6_count 86 = .ok (.aload_n 0, 1) := by decide +kernel
theorem dX6_count_87 : decode cX6_count 87 = .ok (.getfield 41, 3) := by decide +kernel
theorem dX6_count_90 : decode cX6_count 90 = .ok (.iconst 0, 1) := by decide +kernel
theorem dX6_count_91 : decode cX6_count 91 = .ok (.aaload, 1) := by decide +kernel
theorem dX6_count_92 : decode cX6_count 92 = .ok (.invokevirtual 274, 3) := by decide +kernel
theorem dX6_count_95 : decode cX6_count 95 = .ok (.ifCond .eq 15, 3) := by decide +kernel
theorem dX6_count_98 : decode cX6_count 98 = .ok (.aload_n 0, 1) := by decide +kernel
theorem dX6_count_99 : decode cX6_count 99 = .ok (.getfield 41, 3) := by decide +kernel
theorem dX6_count_102 : decode cX6_count 102 = .ok (.iconst 0, 1) := by decide +kernel
theorem dX6_count_103 : decode cX6_count 103 = .ok (.aaload, 1) := by decide +kernel
theorem dX6_count_104 : decode cX6_count 104 = .ok (.getfield 293, 3) := by decide +kernel
theorem dX6_count_107 : decode cX6_count 107 = .ok (.goto 5, 3) := by decide +kernel
theorem dX6_count_110 : decode cX6_count 110 = .ok (.bipush (-4), 2) := by decide +kernel
theorem dX6_count_112 : decode cX6_count 112 = .ok (.ireturn, 1) := by decide +kernel
theorem dX6_count_113 : decode cX6_count 113 = .ok (.aload_n 0, 1) := by decide +kernel
theorem dX6_count_114 : decode cX6_count 114 = .ok (.getfield 24, 3) := by decide +kernel
theorem dX6_count_117 : decode cX6_count 117 = .ok (.aload_n 0, 1) := by decide +kernel
theorem dX6_count_118 : decode cX6_count 118 = .ok (.getfield 24, 3) := by decide +kernel
theorem dX6_count_121 : decode cX6_count 121 = .ok (.getfield 126, 3) := by decide +kernel
theorem dX6_count_124 : decode cX6_count 124 = .ok (.invokevirtual 294, 3) := by decide +kernel
theorem dX6_count_127 : decode cX6_count 127 = .ok (.ireturn, 1) := by decide +kernel
theorem dX6_count_128 : decode cX6_count 128 = .ok (.aload_n 0, 1) := by decide +kernel
theorem dX6_count_129 : decode cX6_count 129 = .ok (.getfield 24, 3) := by decide +kernel
theorem dX6_count_132 : decode cX6_count 132 = .ok (.aload_n 0, 1) := by decide +kernel
theorem dX6_count_133 : decode cX6_count 133 = .ok (.getfield 24, 3) := by decide +kernel
theorem dX6_count_136 : decode cX6_count 136 = .ok (.getfield 129, 3) := by decide +kernel
theorem dX6_count_139 : decode cX6_count 139 = .ok (.invokevirtual 294, 3) := by decide +kernel
theorem dX6_count_142 : decode cX6_count 142 = .ok (.ireturn, 1) := by decide +kernel
theorem dX6_count_143 : decode cX6_count 143 = .ok (.iconst (-1), 1) := by decide +kernel
theorem dX6_count_144 : decode cX6_count 144 = .ok (.ireturn, 1) := by decide +kernel
theorem dX6_within_0 : decode cX6_within 0 = .ok (.iload_n 0, 1) := by decide +kernel
theorem dX6_within_1 : decode cX6_within 1 = .ok (.ifCond .lt 12, 3) := by decide +kernel
theorem dX6_within_4 : decode cX6_within 4 = .ok (.iload_n 0, 1) := by decide +kernel
theorem dX6_within_5 : decode cX6_within 5 = .ok (.iload_n 1, 1) := by decide +kernel
theorem dX6_within_6 : decode cX6_within 6 = .ok (.if_icmp .gt 7, 3) := by decide +kernel
theorem dX6_within_9 : decode cX6_within 9 = .ok (.iconst 1, 1) := by decide +kernel
theorem dX6_within_10 : decode cX6_within 10 = .ok (.goto 4, 3) := by decide +kernel
theorem dX6_within_13 : decode cX6_within 13 = .ok (.iconst 0, 1) := by decide +kernel
theorem dX6_within_14 : decode cX6_within 14 = .ok (.ireturn, 1) := by decide +kernel
