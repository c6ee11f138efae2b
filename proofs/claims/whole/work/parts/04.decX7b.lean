theorem dX7_runs_53 : decode cX7_runs 53 = .ok (.goto 19, 3) := by decide +kernel
theorem dX7_runs_56 : decode cX7_runs 56 = .ok (.iload_n 2, 1) := by decide +kernel
theorem dX7_runs_57 : decode cX7_runs 57 = .ok (.iconst 2, 1) := by decide +kernel
theorem dX7_runs_58 : decode cX7_runs 58 = .ok (.if_icmp .ne 7, 3) := by decide +kernel
theorem dX7_runs_61 : decode cX7_runs 61 = .ok (.iload_n 3, 1) := by decide +kernel
theorem dX7_runs_62 : decode cX7_runs 62 = .ok (.goto 10, 3) := by decide +kernel
theorem dX7_runs_65 : decode cX7_runs 65 = .ok (.aload_n 0, 1) := by decide +kernel
theorem dX7_runs_66 : decode cX7_runs 66 = .ok (.sipush 168, 3) := by decide +kernel
theorem dX7_runs_69 : decode cX7_runs 69 = .ok (.invokevirtual 161, 3) := by decide +kernel
theorem dX7_runs_72 : decode cX7_runs 72 = .ok (.ireturn, 1) := by decide +kernel
theorem dX7_ahead_0 : decode cX7_ahead 0 = .ok (.aload_n 0, 1) := by decide +kernel
theorem dX7_ahead_1 : decode cX7_ahead 1 = .ok (.iload_n 1, 1) := by decide +kernel
theorem dX7_ahead_2 : decode cX7_ahead 2 = .ok (.invokevirtual 131, 3) := by decide +kernel
theorem dX7_ahead_5 : decode cX7_ahead 5 = .ok (.ifCond .eq 27, 3) := by decide +kernel
theorem dX7_ahead_8 : decode cX7_ahead 8 = .ok (.iload_n 2, 1) := by decide +kernel
theorem dX7_ahead_9 : decode cX7_ahead 9 = .ok (.i2l, 1) := by decide +kernel
theorem dX7_ahead_10 : decode cX7_ahead 10 = .ok (.lconst 0, 1) := by decide +kernel
theorem dX7_ahead_11 : decode cX7_ahead 11 = .ok (.ldc2_w 199, 3) := by decide +kernel
theorem dX7_ahead_14 : decode cX7_ahead 14 = .ok (.invokestatic 53, 3) := by decide +kernel
theorem dX7_ahead_17 : decode cX7_ahead 17 = .ok (.ifCond .eq 15, 3) := by decide +kernel
theorem dX7_ahead_20 : decode cX7_ahead 20 = .ok (.iload_n 3, 1) := by decide +kernel
theorem dX7_ahead_21 : decode cX7_ahead 21 = .ok (.i2l, 1) := by decide +kernel
theorem dX7_ahead_22 : decode cX7_ahead 22 = .ok (.lconst 0, 1) := by decide +kernel
theorem dX7_ahead_23 : decode cX7_ahead 23 = .ok (.ldc2_w 204, 3) := by decide +kernel
theorem dX7_ahead_26 : decode cX7_ahead 26 = .ok (.invokestatic 53, 3) := by decide +kernel
theorem dX7_ahead_29 : decode cX7_ahead 29 = .ok (.ifCond .ne 5, 3) := by decide +kernel
theorem dX7_ahead_32 : decode cX7_ahead 32 = .ok (.iconst (-1), 1) := by decide +kernel
theorem dX7_ahead_33 : decode cX7_ahead 33 = .ok (.ireturn, 1) := by decide +kernel
theorem dX7_ahead_34 : decode cX7_ahead 34 = .ok (.aload_n 0, 1) := by decide +kernel
theorem dX7_ahead_35 : decode cX7_ahead 35 = .ok (.iconst 0, 1) := by decide +kernel
theorem dX7_ahead_36 : decode cX7_ahead 36 = .ok (.iload_n 2, 1) := by decide +kernel
theorem dX7_ahead_37 : decode cX7_ahead 37 = .ok (.invokevirtual 201, 3) := by decide +kernel
theorem dX7_ahead_40 : decode cX7_ahead 40 = .ok (.pop, 1) := by decide +kernel
theorem dX7_ahead_41 : decode cX7_ahead 41 = .ok (.aload_n 0, 1) := by decide +kernel
theorem dX7_ahead_42 : decode cX7_ahead 42 = .ok (.getfield 7, 3) := by decide +kernel
theorem dX7_ahead_45 : decode cX7_ahead 45 = .ok (.sipush 173, 3) := by decide +kernel
theorem dX7_ahead_48 : decode cX7_ahead 48 = .ok (.iconst 5, 1) := by decide +kernel
theorem dX7_ahead_49 : decode cX7_ahead 49 = .ok (.iload_n 3, 1) := by decide +kernel
theorem dX7_ahead_50 : decode cX7_ahead 50 = .ok (.imul, 1) := by decide +kernel
theorem dX7_ahead_51 : decode cX7_ahead 51 = .ok (.iadd, 1) := by decide +kernel
theorem dX7_ahead_52 : decode cX7_ahead 52 = .ok (.iload_n 1, 1) := by decide +kernel
theorem dX7_ahead_53 : decode cX7_ahead 53 = .ok (.iadd, 1) := by decide +kernel
theorem dX7_ahead_54 : decode cX7_ahead 54 = .ok (.iaload, 1) := by decide +kernel
theorem dX7_ahead_55 : decode cX7_ahead 55 = .ok (.ireturn, 1) := by decide +kernel
theorem dX7_loser_0 : decode cX7_loser 0 = .ok (.iload_n 1, 1) := by decide +kernel
theorem dX7_loser_1 : decode cX7_loser 1 = .ok (.i2l, 1) := by decide +kernel
theorem dX7_loser_2 : decode cX7_loser 2 = .ok (.lconst 0, 1) := by decide +kernel
theorem dX7_loser_3 : decode cX7_loser 3 = .ok (.ldc2_w 199, 3) := by decide +kernel
theorem dX7_loser_6 : decode cX7_loser 6 = .ok (.invokestatic 53, 3) := by decide +kernel
theorem dX7_loser_9 : decode cX7_loser 9 = .ok (.ifCond .ne 5, 3) := by decide +kernel
theorem dX7_loser_12 : decode cX7_loser 12 = .ok (.iconst (-1), 1) := by decide +kernel
theorem dX7_loser_13 : decode cX7_loser 13 = .ok (.ireturn, 1) := by decide +kernel
theorem dX7_loser_14 : decode cX7_loser 14 = .ok (.aload_n 0, 1) := by decide +kernel
theorem dX7_loser_15 : decode cX7_loser 15 = .ok (.iconst 0, 1) := by decide +kernel
theorem dX7_loser_16 : decode cX7_loser 16 = .ok (.iload_n 1, 1) := by decide +kernel
theorem dX7_loser_17 : decode cX7_loser 17 = .ok (.iconst 1, 1) := by decide +kernel
theorem dX7_loser_18 : decode cX7_loser 18 = .ok (.iadd, 1) := by decide +kernel
theorem dX7_loser_19 : decode cX7_loser 19 = .ok (.invokevirtual 201, 3) := by decide +kernel
theorem dX7_loser_22 : decode cX7_loser 22 = .ok (.pop, 1) := by decide +kernel
theorem dX7_loser_23 : decode cX7_loser 23 = .ok (.aload_n 0, 1) := by decide +kernel
theorem dX7_loser_24 : decode cX7_loser 24 = .ok (.getfield 142, 3) := by decide +kernel
theorem dX7_loser_27 : decode cX7_loser 27 = .ok (.ireturn, 1) := by decide +kernel
theorem dX7_firstLoss_0 : decode cX7_firstLoss 0 = .ok (.aload_n 0, 1) := by decide +kernel
theorem dX7_firstLoss_1 : decode cX7_firstLoss 1 = .ok (.iload_n 1, 1) := by decide +kernel
theorem dX7_firstLoss_2 : decode cX7_firstLoss 2 = .ok (.sipush 168, 3) := by decide +kernel
theorem dX7_firstLoss_5 : decode cX7_firstLoss 5 = .ok (.invokevirtual 195, 3) := by decide +kernel
theorem dX7_firstLoss_8 : decode cX7_firstLoss 8 = .ok (.iconst 0, 1) := by decide +kernel
theorem dX7_firstLoss_9 : decode cX7_firstLoss 9 = .ok (.istore 4, 2) := by decide +kernel
theorem dX7_firstLoss_11 : decode cX7_firstLoss 11 = .ok (.iload 4, 2) := by decide +kernel
theorem dX7_firstLoss_13 : decode cX7_firstLoss 13 = .ok (.iload_n 3, 1) := by decide +kernel
theorem dX7_firstLoss_14 : decode cX7_firstLoss 14 = .ok (.if_icmp .ge 28, 3) := by decide +kernel
theorem dX7_firstLoss_17 : decode cX7_firstLoss 17 = .ok (.aload_n 0, 1) := by decide +kernel
theorem dX7_firstLoss_18 : decode cX7_firstLoss 18 = .ok (.sipush 168, 3) := by decide +kernel
theorem dX7_firstLoss_21 : decode cX7_firstLoss 21 = .ok (.iconst 0, 1) := by decide +kernel
theorem dX7_firstLoss_22 : decode cX7_firstLoss 22 = .ok (.invokevirtual 191, 3) := by decide +kernel
theorem dX7_firstLoss_25 : decode cX7_firstLoss 25 = .ok (.aload_n 0, 1) := by decide +kernel
theorem dX7_firstLoss_26 : decode cX7_firstLoss 26 = .ok (.getfield 142, 3) := by decide +kernel
theorem dX7_firstLoss_29 : decode cX7_firstLoss 29 = .ok (.iload_n 2, 1) := by decide +kernel
theorem dX7_firstLoss_30 : decode cX7_firstLoss 30 = .ok (.if_icmp .ne 6, 3) := by decide +kernel
theorem dX7_firstLoss_33 : decode cX7_firstLoss 33 = .ok (.iload 4, 2) := by decide +kernel
theorem dX7_firstLoss_35 : decode cX7_firstLoss 35 = .ok (.ireturn, 1) := by decide +kernel
theorem dX7_firstLoss_36 : decode cX7_firstLoss 36 = .ok (.iinc 4 1, 3) := by decide +kernel
theorem dX7_firstLoss_39 : decode cX7_firstLoss 39 = .ok (.goto (-28), 3) := by decide +kernel
theorem dX7_firstLoss_42 : decode cX7_firstLoss 42 = .ok (.bipush (-4), 2) := by decide +kernel
theorem dX7_firstLoss_44 : decode cX7_firstLoss 44 = .ok (.ireturn, 1) := by decide +kernel
theorem dX7_loses_0 : decode cX7_loses 0 = .ok (.aload_n 0, 1) := by decide +kernel
theorem dX7_loses_1 : decode cX7_loses 1 = .ok (.iload_n 1, 1) := by decide +kernel
theorem dX7_loses_2 : decode cX7_loses 2 = .ok (.invokevirtual 131, 3) := by decide +kernel
theorem dX7_loses_5 : decode cX7_loses 5 = .ok (.ifCond .eq 14, 3) := by decide +kernel
theorem dX7_loses_8 : decode cX7_loses 8 = .ok (.aload_n 0, 1) := by decide +kernel
theorem dX7_loses_9 : decode cX7_loses 9 = .ok (.iconst 0, 1) := by decide +kernel
theorem dX7_loses_10 : decode cX7_loses 10 = .ok (.iload_n 1, 1) := by decide +kernel
theorem dX7_loses_11 : decode cX7_loses 11 = .ok (.bipush 61, 2) := by decide +kernel
theorem dX7_loses_13 : decode cX7_loses 13 = .ok (.invokevirtual 206, 3) := by decide +kernel
theorem dX7_loses_16 : decode cX7_loses 16 = .ok (.goto 4, 3) := by decide +kernel
theorem dX7_loses_19 : decode cX7_loses 19 = .ok (.iconst (-1), 1) := by decide +kernel
theorem dX7_loses_20 : decode cX7_loses 20 = .ok (.ireturn, 1) := by decide +kernel
theorem dX7_ordered_0 : decode cX7_ordered 0 = .ok (.aload_n 0, 1) := by decide +kernel
theorem dX7_ordered_1 : decode cX7_ordered 1 = .ok (.getfield 7, 3) := by decide +kernel
theorem dX7_ordered_4 : decode cX7_ordered 4 = .ok (.bipush 40, 2) := by decide +kernel
theorem dX7_ordered_6 : decode cX7_ordered 6 = .ok (.iaload, 1) := by decide +kernel
theorem dX7_ordered_7 : decode cX7_ordered 7 = .ok (.istore_n 2, 1) := by decide +kernel
theorem dX7_ordered_8 : decode cX7_ordered 8 = .ok (.iconst 0, 1) := by decide +kernel
theorem dX7_ordered_9 : decode cX7_ordered 9 = .ok (.istore_n 3, 1) := by decide +kernel
theorem dX7_ordered_10 : decode cX7_ordered 10 = .ok (.iload_n 1, 1) := by decide +kernel
theorem dX7_ordered_11 : decode cX7_ordered 11 = .ok (.istore 4, 2) := by decide +kernel
theorem dX7_ordered_13 : decode cX7_ordered 13 = .ok (.aload_n 0, 1) := by decide +kernel
theorem dX7_ordered_14 : decode cX7_ordered 14 = .ok (.iconst 0, 1) := by decide +kernel
theorem dX7_ordered_15 : decode cX7_ordered 15 = .ok (.sipush 210, 3) := by decide +kernel
theorem dX7_ordered_18 : decode cX7_ordered 18 = .ok (.invokevirtual 195, 3) := by decide +kernel
theorem dX7_ordered_21 : decode cX7_ordered 21 = .ok (.iload_n 2, 1) := by decide +kernel
theorem dX7_ordered_22 : decode cX7_ordered 22 = .ok (.iconst 1, 1) := by decide +kernel
theorem dX7_ordered_23 : decode cX7_ordered 23 = .ok (.isub, 1) := by decide +kernel
theorem dX7_ordered_24 : decode cX7_ordered 24 = .ok (.istore 5, 2) := by decide +kernel
theorem dX7_ordered_26 : decode cX7_ordered 26 = .ok (.iload 5, 2) := by decide +kernel
theorem dX7_ordered_28 : decode cX7_ordered 28 = .ok (.ifCond .lt 70, 3) := by decide +kernel
theorem dX7_ordered_31 : decode cX7_ordered 31 = .ok (.iload 4, 2) := by decide +kernel
theorem dX7_ordered_33 : decode cX7_ordered 33 = .ok (.iload_n 2, 1) := by decide +kernel
theorem dX7_ordered_34 : decode cX7_ordered 34 = .ok (.irem, 1) := by decide +kernel
theorem dX7_ordered_35 : decode cX7_ordered 35 = .ok (.istore 6, 2) := by decide +kernel
theorem dX7_ordered_37 : decode cX7_ordered 37 = .ok (.iload_n 3, 1) := by decide +kernel
theorem dX7_ordered_38 : decode cX7_ordered 38 = .ok (.iconst 1, 1) := by decide +kernel
theorem dX7_ordered_39 : decode cX7_ordered 39 = .ok (.iload 6, 2) := by decide +kernel
theorem dX7_ordered_41 : decode cX7_ordered 41 = .ok (.ishl, 1) := by decide +kernel
theorem dX7_ordered_42 : decode cX7_ordered 42 = .ok (.ior, 1) := by decide +kernel
theorem dX7_ordered_43 : decode cX7_ordered 43 = .ok (.istore_n 3, 1) := by decide +kernel
theorem dX7_ordered_44 : decode cX7_ordered 44 = .ok (.aload_n 0, 1) := by decide +kernel
theorem dX7_ordered_45 : decode cX7_ordered 45 = .ok (.getfield 7, 3) := by decide +kernel
theorem dX7_ordered_48 : decode cX7_ordered 48 = .ok (.sipush 230, 3) := by decide +kernel
theorem dX7_ordered_51 : decode cX7_ordered 51 = .ok (.iload 5, 2) := by decide +kernel
theorem dX7_ordered_53 : decode cX7_ordered 53 = .ok (.iadd, 1) := by decide +kernel
theorem dX7_ordered_54 : decode cX7_ordered 54 = .ok (.aload_n 0, 1) := by decide +kernel
theorem dX7_ordered_55 : decode cX7_ordered 55 = .ok (.getfield 7, 3) := by decide +kernel
theorem dX7_ordered_58 : decode cX7_ordered 58 = .ok (.bipush 20, 2) := by decide +kernel
theorem dX7_ordered_60 : decode cX7_ordered 60 = .ok (.iload 6, 2) := by decide +kernel
theorem dX7_ordered_62 : decode cX7_ordered 62 = .ok (.iadd, 1) := by decide +kernel
theorem dX7_ordered_63 : decode cX7_ordered 63 = .ok (.iaload, 1) := by decide +kernel
theorem dX7_ordered_64 : decode cX7_ordered 64 = .ok (.iastore, 1) := by decide +kernel
theorem dX7_ordered_65 : decode cX7_ordered 65 = .ok (.aload_n 0, 1) := by decide +kernel
theorem dX7_ordered_66 : decode cX7_ordered 66 = .ok (.getfield 7, 3) := by decide +kernel
theorem dX7_ordered_69 : decode cX7_ordered 69 = .ok (.sipush 240, 3) := by decide +kernel
theorem dX7_ordered_72 : decode cX7_ordered 72 = .ok (.iload 5, 2) := by decide +kernel
theorem dX7_ordered_74 : decode cX7_ordered 74 = .ok (.iadd, 1) := by decide +kernel
theorem dX7_ordered_75 : decode cX7_ordered 75 = .ok (.aload_n 0, 1) := by decide +kernel
theorem dX7_ordered_76 : decode cX7_ordered 76 = .ok (.getfield 7, 3) := by decide +kernel
theorem dX7_ordered_79 : decode cX7_ordered 79 = .ok (.bipush 30, 2) := by decide +kernel
theorem dX7_ordered_81 : decode cX7_ordered 81 = .ok (.iload 6, 2) := by decide +kernel
theorem dX7_ordered_83 : decode cX7_ordered 83 = .ok (.iadd, 1) := by decide +kernel
theorem dX7_ordered_84 : decode cX7_ordered 84 = .ok (.iaload, 1) := by decide +kernel
theorem dX7_ordered_85 : decode cX7_ordered 85 = .ok (.iastore, 1) := by decide +kernel
theorem dX7_ordered_86 : decode cX7_ordered 86 = .ok (.iload 4, 2) := by decide +kernel
theorem dX7_ordered_88 : decode cX7_ordered 88 = .ok (.iload_n 2, 1) := by decide +kernel
theorem dX7_ordered_89 : decode cX7_ordered 89 = .ok (.idiv, 1) := by decide +kernel
theorem dX7_ordered_90 : decode cX7_ordered 90 = .ok (.istore 4, 2) := by decide +kernel
theorem dX7_ordered_92 : decode cX7_ordered 92 = .ok (.iinc 5 (-1), 3) := by decide +kernel
theorem dX7_ordered_95 : decode cX7_ordered 95 = .ok (.goto (-69), 3) := by decide +kernel
theorem dX7_ordered_98 : decode cX7_ordered 98 = .ok (.iload_n 3, 1) := by decide +kernel
theorem dX7_ordered_99 : decode cX7_ordered 99 = .ok (.iconst 1, 1) := by decide +kernel
theorem dX7_ordered_100 : decode cX7_ordered 100 = .ok (.iload_n 2, 1) := by decide +kernel
theorem dX7_ordered_101 : decode cX7_ordered 101 = .ok (.ishl, 1) := by decide +kernel
theorem dX7_ordered_102 : decode cX7_ordered 102 = .ok (.iconst 1, 1) := by decide +kernel
theorem dX7_ordered_103 : decode cX7_ordered 103 = .ok (.isub, 1) := by decide +kernel
theorem dX7_ordered_104 : decode cX7_ordered 104 = .ok (.if_icmp .ne 7, 3) := by decide +kernel
theorem dX7_ordered_107 : decode cX7_ordered 107 = .ok (.iconst 1, 1) := by decide +kernel
theorem dX7_ordered_108 : decode cX7_ordered 108 = .ok (.goto 4, 3) := by decide +kernel
theorem dX7_ordered_111 : decode cX7_ordered 111 = .ok (.iconst 0, 1) := by decide +kernel
theorem dX7_ordered_112 : decode cX7_ordered 112 = .ok (.ireturn, 1) := by decide +kernel
theorem dX7_order_0 : decode cX7_order 0 = .ok (.iload_n 1, 1) := by decide +kernel
theorem dX7_order_1 : decode cX7_order 1 = .ok (.ifCond .eq 19, 3) := by decide +kernel
theorem dX7_order_4 : decode cX7_order 4 = .ok (.iload_n 1, 1) := by decide +kernel
theorem dX7_order_5 : decode cX7_order 5 = .ok (.i2l, 1) := by decide +kernel
theorem dX7_order_6 : decode cX7_order 6 = .ok (.ldc2_w 209, 3) := by decide +kernel
theorem dX7_order_9 : decode cX7_order 9 = .ok (.ldc2_w 211, 3) := by decide +kernel
theorem dX7_order_12 : decode cX7_order 12 = .ok (.invokestatic 53, 3) := by decide +kernel
theorem dX7_order_15 : decode cX7_order 15 = .ok (.ifCond .ne 5, 3) := by decide +kernel
theorem dX7_order_18 : decode cX7_order 18 = .ok (.iconst (-1), 1) := by decide +kernel
theorem dX7_order_19 : decode cX7_order 19 = .ok (.ireturn, 1) := by decide +kernel
theorem dX7_order_20 : decode cX7_order 20 = .ok (.aload_n 0, 1) := by decide +kernel
theorem dX7_order_21 : decode cX7_order 21 = .ok (.getfield 7, 3) := by decide +kernel
theorem dX7_order_24 : decode cX7_order 24 = .ok (.bipush 40, 2) := by decide +kernel
theorem dX7_order_26 : decode cX7_order 26 = .ok (.iaload, 1) := by decide +kernel
theorem dX7_order_27 : decode cX7_order 27 = .ok (.istore_n 2, 1) := by decide +kernel
theorem dX7_order_28 : decode cX7_order 28 = .ok (.iload_n 2, 1) := by decide +kernel
theorem dX7_order_29 : decode cX7_order 29 = .ok (.iconst 5, 1) := by decide +kernel
theorem dX7_order_30 : decode cX7_order 30 = .ok (.if_icmp .gt 15, 3) := by decide +kernel
theorem dX7_order_33 : decode cX7_order 33 = .ok (.iload_n 2, 1) := by decide +kernel
theorem dX7_order_34 : decode cX7_order 34 = .ok (.ifCond .le 14, 3) := by decide +kernel
theorem dX7_order_37 : decode cX7_order 37 = .ok (.aload_n 0, 1) := by decide +kernel
theorem dX7_order_38 : decode cX7_order 38 = .ok (.iconst 0, 1) := by decide +kernel
theorem dX7_order_39 : decode cX7_order 39 = .ok (.invokevirtual 151, 3) := by decide +kernel
theorem dX7_order_42 : decode cX7_order 42 = .ok (.ifCond .eq 6, 3) := by decide +kernel
theorem dX7_order_45 : decode cX7_order 45 = .ok (.bipush (-2), 2) := by decide +kernel
theorem dX7_order_47 : decode cX7_order 47 = .ok (.ireturn, 1) := by decide +kernel
theorem dX7_order_48 : decode cX7_order 48 = .ok (.iconst 1, 1) := by decide +kernel
theorem dX7_order_49 : decode cX7_order 49 = .ok (.istore_n 3, 1) := by decide +kernel
theorem dX7_order_50 : decode cX7_order 50 = .ok (.iconst 0, 1) := by decide +kernel
theorem dX7_order_51 : decode cX7_order 51 = .ok (.istore 4, 2) := by decide +kernel
theorem dX7_order_53 : decode cX7_order 53 = .ok (.iload 4, 2) := by decide +kernel
theorem dX7_order_55 : decode cX7_order 55 = .ok (.iload_n 2, 1) := by decide +kernel
theorem dX7_order_56 : decode cX7_order 56 = .ok (.if_icmp .ge 13, 3) := by decide +kernel
theorem dX7_order_59 : decode cX7_order 59 = .ok (.iload_n 3, 1) := by decide +kernel
theorem dX7_order_60 : decode cX7_order 60 = .ok (.iload_n 2, 1) := by decide +kernel
theorem dX7_order_61 : decode cX7_order 61 = .ok (.imul, 1) := by decide +kernel
theorem dX7_order_62 : decode cX7_order 62 = .ok (.istore_n 3, 1) := by decide +kernel
theorem dX7_order_63 : decode cX7_order 63 = .ok (.iinc 4 1, 3) := by decide +kernel
theorem dX7_order_66 : decode cX7_order 66 = .ok (.goto (-13), 3) := by decide +kernel
theorem dX7_order_69 : decode cX7_order 69 = .ok (.ldc 213, 2) := by decide +kernel
theorem dX7_order_71 : decode cX7_order 71 = .ok (.istore 4, 2) := by decide +kernel
theorem dX7_order_73 : decode cX7_order 73 = .ok (.iconst 0, 1) := by decide +kernel
theorem dX7_order_74 : decode cX7_order 74 = .ok (.istore 5, 2) := by decide +kernel
theorem dX7_order_76 : decode cX7_order 76 = .ok (.iconst 0, 1) := by decide +kernel
theorem dX7_order_77 : decode cX7_order 77 = .ok (.istore 6, 2) := by decide +kernel
theorem dX7_order_79 : decode cX7_order 79 = .ok (.iload 6, 2) := by decide +kernel
theorem dX7_order_81 : decode cX7_order 81 = .ok (.iload_n 3, 1) := by decide +kernel
theorem dX7_order_82 : decode cX7_order 82 = .ok (.if_icmp .ge 60, 3) := by decide +kernel
theorem dX7_order_85 : decode cX7_order 85 = .ok (.aload_n 0, 1) := by decide +kernel
theorem dX7_order_86 : decode cX7_order 86 = .ok (.iload 6, 2) := by decide +kernel
theorem dX7_order_88 : decode cX7_order 88 = .ok (.invokevirtual 214, 3) := by decide +kernel
theorem dX7_order_91 : decode cX7_order 91 = .ok (.ifCond .eq 45, 3) := by decide +kernel
theorem dX7_order_94 : decode cX7_order 94 = .ok (.aload_n 0, 1) := by decide +kernel
theorem dX7_order_95 : decode cX7_order 95 = .ok (.sipush 210, 3) := by decide +kernel
theorem dX7_order_98 : decode cX7_order 98 = .ok (.iload_n 2, 1) := by decide +kernel
theorem dX7_order_99 : decode cX7_order 99 = .ok (.invokevirtual 201, 3) := by decide +kernel
theorem dX7_order_102 : decode cX7_order 102 = .ok (.istore 7, 2) := by decide +kernel
theorem dX7_order_104 : decode cX7_order 104 = .ok (.iload 7, 2) := by decide +kernel
theorem dX7_order_106 : decode cX7_order 106 = .ok (.iload 4, 2) := by decide +kernel
theorem dX7_order_108 : decode cX7_order 108 = .ok (.if_icmp .ge 8, 3) := by decide +kernel
theorem dX7_order_111 : decode cX7_order 111 = .ok (.iload 6, 2) := by decide +kernel
theorem dX7_order_113 : decode cX7_order 113 = .ok (.goto 5, 3) := by decide +kernel
theorem dX7_order_116 : decode cX7_order 116 = .ok (.iload 5, 2) := by decide +kernel
theorem dX7_order_118 : decode cX7_order 118 = .ok (.istore 5, 2) := by decide +kernel
theorem dX7_order_120 : decode cX7_order 120 = .ok (.iload 7, 2) := by decide +kernel
theorem dX7_order_122 : decode cX7_order 122 = .ok (.iload 4, 2) := by decide +kernel
theorem dX7_order_124 : decode cX7_order 124 = .ok (.if_icmp .ge 8, 3) := by decide +kernel
theorem dX7_order_127 : decode cX7_order 127 = .ok (.iload 7, 2) := by decide +kernel
theorem dX7_order_129 : decode cX7_order 129 = .ok (.goto 5, 3) := by decide +kernel
theorem dX7_order_132 : decode cX7_order 132 = .ok (.iload 4, 2) := by decide +kernel
theorem dX7_order_134 : decode cX7_order 134 = .ok (.istore 4, 2) := by decide +kernel
theorem dX7_order_136 : decode cX7_order 136 = .ok (.iinc 6 1, 3) := by decide +kernel
theorem dX7_order_139 : decode cX7_order 139 = .ok (.goto (-60), 3) := by decide +kernel
theorem dX7_order_142 : decode cX7_order 142 = .ok (.iload_n 2, 1) := by decide +kernel
theorem dX7_order_143 : decode cX7_order 143 = .ok (.iconst 1, 1) := by decide +kernel
theorem dX7_order_144 : decode cX7_order 144 = .ok (.isub, 1) := by decide +kernel
theorem dX7_order_145 : decode cX7_order 145 = .ok (.istore 6, 2) := by decide +kernel
theorem dX7_order_147 : decode cX7_order 147 = .ok (.iload 6, 2) := by decide +kernel
theorem dX7_order_149 : decode cX7_order 149 = .ok (.ifCond .lt 26, 3) := by decide +kernel
theorem dX7_order_152 : decode cX7_order 152 = .ok (.aload_n 0, 1) := by decide +kernel
theorem dX7_order_153 : decode cX7_order 153 = .ok (.getfield 29, 3) := by decide +kernel
theorem dX7_order_156 : decode cX7_order 156 = .ok (.iload 6, 2) := by decide +kernel
theorem dX7_order_158 : decode cX7_order 158 = .ok (.iload 5, 2) := by decide +kernel
theorem dX7_order_160 : decode cX7_order 160 = .ok (.iload_n 2, 1) := by decide +kernel
theorem dX7_order_161 : decode cX7_order 161 = .ok (.irem, 1) := by decide +kernel
theorem dX7_order_162 : decode cX7_order 162 = .ok (.iastore, 1) := by decide +kernel
theorem dX7_order_163 : decode cX7_order 163 = .ok (.iload 5, 2) := by decide +kernel
theorem dX7_order_165 : decode cX7_order 165 = .ok (.iload_n 2, 1) := by decide +kernel
theorem dX7_order_166 : decode cX7_order 166 = .ok (.idiv, 1) := by decide +kernel
theorem dX7_order_167 : decode cX7_order 167 = .ok (.istore 5, 2) := by decide +kernel
theorem dX7_order_169 : decode cX7_order 169 = .ok (.iinc 6 (-1), 3) := by decide +kernel
theorem dX7_order_172 : decode cX7_order 172 = .ok (.goto (-25), 3) := by decide +kernel
theorem dX7_order_175 : decode cX7_order 175 = .ok (.iload_n 1, 1) := by decide +kernel
theorem dX7_order_176 : decode cX7_order 176 = .ok (.ifCond .ne 8, 3) := by decide +kernel
theorem dX7_order_179 : decode cX7_order 179 = .ok (.iload 4, 2) := by decide +kernel
theorem dX7_order_181 : decode cX7_order 181 = .ok (.goto 25, 3) := by decide +kernel
theorem dX7_order_184 : decode cX7_order 184 = .ok (.iload_n 1, 1) := by decide +kernel
theorem dX7_order_185 : decode cX7_order 185 = .ok (.bipush 10, 2) := by decide +kernel
theorem dX7_order_187 : decode cX7_order 187 = .ok (.isub, 1) := by decide +kernel
theorem dX7_order_188 : decode cX7_order 188 = .ok (.iload_n 2, 1) := by decide +kernel
theorem dX7_order_189 : decode cX7_order 189 = .ok (.if_icmp .ge 15, 3) := by decide +kernel
theorem dX7_order_192 : decode cX7_order 192 = .ok (.aload_n 0, 1) := by decide +kernel
theorem dX7_order_193 : decode cX7_order 193 = .ok (.getfield 29, 3) := by decide +kernel
theorem dX7_order_196 : decode cX7_order 196 = .ok (.iload_n 1, 1) := by decide +kernel
theorem dX7_order_197 : decode cX7_order 197 = .ok (.bipush 10, 2) := by decide +kernel
theorem dX7_order_199 : decode cX7_order 199 = .ok (.isub, 1) := by decide +kernel
theorem dX7_order_200 : decode cX7_order 200 = .ok (.iaload, 1) := by decide +kernel
theorem dX7_order_201 : decode cX7_order 201 = .ok (.goto 5, 3) := by decide +kernel
theorem dX7_order_204 : decode cX7_order 204 = .ok (.bipush (-4), 2) := by decide +kernel
theorem dX7_order_206 : decode cX7_order 206 = .ok (.ireturn, 1) := by decide +kernel
theorem dX7_loan_0 : decode cX7_loan 0 = .ok (.iload_n 1, 1) := by decide +kernel
theorem dX7_loan_1 : decode cX7_loan 1 = .ok (.i2l, 1) := by decide +kernel
theorem dX7_loan_2 : decode cX7_loan 2 = .ok (.lconst 0, 1) := by decide +kernel
theorem dX7_loan_3 : decode cX7_loan 3 = .ok (.ldc2_w 199, 3) := by decide +kernel
theorem dX7_loan_6 : decode cX7_loan 6 = .ok (.invokestatic 53, 3) := by decide +kernel
theorem dX7_loan_9 : decode cX7_loan 9 = .ok (.ifCond .eq 13, 3) := by decide +kernel
theorem dX7_loan_12 : decode cX7_loan 12 = .ok (.iload_n 2, 1) := by decide +kernel
theorem dX7_loan_13 : decode cX7_loan 13 = .ok (.i2l, 1) := by decide +kernel
theorem dX7_loan_14 : decode cX7_loan 14 = .ok (.lconst 0, 1) := by decide +kernel
theorem dX7_loan_15 : decode cX7_loan 15 = .ok (.lconst 1, 1) := by decide +kernel
theorem dX7_loan_16 : decode cX7_loan 16 = .ok (.invokestatic 53, 3) := by decide +kernel
theorem dX7_loan_19 : decode cX7_loan 19 = .ok (.ifCond .ne 5, 3) := by decide +kernel
theorem dX7_loan_22 : decode cX7_loan 22 = .ok (.iconst (-1), 1) := by decide +kernel
theorem dX7_loan_23 : decode cX7_loan 23 = .ok (.ireturn, 1) := by decide +kernel
theorem dX7_loan_24 : decode cX7_loan 24 = .ok (.aload_n 0, 1) := by decide +kernel
theorem dX7_loan_25 : decode cX7_loan 25 = .ok (.iconst 0, 1) := by decide +kernel
theorem dX7_loan_26 : decode cX7_loan 26 = .ok (.iload_n 1, 1) := by decide +kernel
theorem dX7_loan_27 : decode cX7_loan 27 = .ok (.invokevirtual 201, 3) := by decide +kernel
theorem dX7_loan_30 : decode cX7_loan 30 = .ok (.istore_n 3, 1) := by decide +kernel
theorem dX7_loan_31 : decode cX7_loan 31 = .ok (.bipush (-4), 2) := by decide +kernel
theorem dX7_loan_33 : decode cX7_loan 33 = .ok (.istore 4, 2) := by decide +kernel
theorem dX7_loan_35 : decode cX7_loan 35 = .ok (.iconst 0, 1) := by decide +kernel
theorem dX7_loan_36 : decode cX7_loan 36 = .ok (.istore 5, 2) := by decide +kernel
theorem dX7_loan_38 : decode cX7_loan 38 = .ok (.iload 5, 2) := by decide +kernel
theorem dX7_loan_40 : decode cX7_loan 40 = .ok (.aload_n 0, 1) := by decide +kernel
theorem dX7_loan_41 : decode cX7_loan 41 = .ok (.getfield 125, 3) := by decide +kernel
theorem dX7_loan_44 : decode cX7_loan 44 = .ok (.if_icmp .ge 101, 3) := by decide +kernel
theorem dX7_loan_47 : decode cX7_loan 47 = .ok (.iconst 0, 1) := by decide +kernel
theorem dX7_loan_48 : decode cX7_loan 48 = .ok (.istore 6, 2) := by decide +kernel
theorem dX7_loan_50 : decode cX7_loan 50 = .ok (.iload 6, 2) := by decide +kernel
theorem dX7_loan_52 : decode cX7_loan 52 = .ok (.aload_n 0, 1) := by decide +kernel
theorem dX7_loan_53 : decode cX7_loan 53 = .ok (.getfield 125, 3) := by decide +kernel
theorem dX7_loan_56 : decode cX7_loan 56 = .ok (.if_icmp .ge 83, 3) := by decide +kernel
theorem dX7_loan_59 : decode cX7_loan 59 = .ok (.aload_n 0, 1) := by decide +kernel
theorem dX7_loan_60 : decode cX7_loan 60 = .ok (.iconst 0, 1) := by decide +kernel
theorem dX7_loan_61 : decode cX7_loan 61 = .ok (.sipush 210, 3) := by decide +kernel
theorem dX7_loan_64 : decode cX7_loan 64 = .ok (.invokevirtual 195, 3) := by decide +kernel
theorem dX7_loan_67 : decode cX7_loan 67 = .ok (.iload 5, 2) := by decide +kernel
theorem dX7_loan_69 : decode cX7_loan 69 = .ok (.iload 6, 2) := by decide +kernel
theorem dX7_loan_71 : decode cX7_loan 71 = .ok (.if_icmp .eq 62, 3) := by decide +kernel
theorem dX7_loan_74 : decode cX7_loan 74 = .ok (.aload_n 0, 1) := by decide +kernel
theorem dX7_loan_75 : decode cX7_loan 75 = .ok (.sipush 210, 3) := by decide +kernel
theorem dX7_loan_78 : decode cX7_loan 78 = .ok (.iload 5, 2) := by decide +kernel
theorem dX7_loan_80 : decode cX7_loan 80 = .ok (.iload 6, 2) := by decide +kernel
theorem dX7_loan_82 : decode cX7_loan 82 = .ok (.iconst 1, 1) := by decide +kernel
theorem dX7_loan_83 : decode cX7_loan 83 = .ok (.invokevirtual 182, 3) := by decide +kernel
theorem dX7_loan_86 : decode cX7_loan 86 = .ok (.ifCond .lt 47, 3) := by decide +kernel
theorem dX7_loan_89 : decode cX7_loan 89 = .ok (.aload_n 0, 1) := by decide +kernel
theorem dX7_loan_90 : decode cX7_loan 90 = .ok (.sipush 210, 3) := by decide +kernel
theorem dX7_loan_93 : decode cX7_loan 93 = .ok (.iload_n 1, 1) := by decide +kernel
theorem dX7_loan_94 : decode cX7_loan 94 = .ok (.invokevirtual 201, 3) := by decide +kernel
theorem dX7_loan_97 : decode cX7_loan 97 = .ok (.istore 7, 2) := by decide +kernel
theorem dX7_loan_99 : decode cX7_loan 99 = .ok (.iload 7, 2) := by decide +kernel
theorem dX7_loan_101 : decode cX7_loan 101 = .ok (.iload_n 3, 1) := by decide +kernel
theorem dX7_loan_102 : decode cX7_loan 102 = .ok (.if_icmp .ge 14, 3) := by decide +kernel
theorem dX7_loan_105 : decode cX7_loan 105 = .ok (.bipush 10, 2) := by decide +kernel
theorem dX7_loan_107 : decode cX7_loan 107 = .ok (.iload 5, 2) := by decide +kernel
theorem dX7_loan_109 : decode cX7_loan 109 = .ok (.imul, 1) := by decide +kernel
theorem dX7_loan_110 : decode cX7_loan 110 = .ok (.iload 6, 2) := by decide +kernel
theorem dX7_loan_112 : decode cX7_loan 112 = .ok (.iadd, 1) := by decide +kernel
theorem dX7_loan_113 : decode cX7_loan 113 = .ok (.goto 5, 3) := by decide +kernel
theorem dX7_loan_116 : decode cX7_loan 116 = .ok (.iload 4, 2) := by decide +kernel
theorem dX7_loan_118 : decode cX7_loan 118 = .ok (.istore 4, 2) := by decide +kernel
theorem dX7_loan_120 : decode cX7_loan 120 = .ok (.iload 7, 2) := by decide +kernel
theorem dX7_loan_122 : decode cX7_loan 122 = .ok (.iload_n 3, 1) := by decide +kernel
theorem dX7_loan_123 : decode cX7_loan 123 = .ok (.if_icmp .ge 8, 3) := by decide +kernel
theorem dX7_loan_126 : decode cX7_loan 126 = .ok (.iload 7, 2) := by decide +kernel
theorem dX7_loan_128 : decode cX7_loan 128 = .ok (.goto 4, 3) := by decide +kernel
theorem dX7_loan_131 : decode cX7_loan 131 = .ok (.iload_n 3, 1) := by decide +kernel
theorem dX7_loan_132 : decode cX7_loan 132 = .ok (.istore_n 3, 1) := by decide +kernel
theorem dX7_loan_133 : decode cX7_loan 133 = .ok (.iinc 6 1, 3) := by decide +kernel
theorem dX7_loan_136 : decode cX7_loan 136 = .ok (.goto (-86), 3) := by decide +kernel
theorem dX7_loan_139 : decode cX7_loan 139 = .ok (.iinc 5 1, 3) := by decide +kernel
theorem dX7_loan_142 : decode cX7_loan 142 = .ok (.goto (-104), 3) := by decide +kernel
theorem dX7_loan_145 : decode cX7_loan 145 = .ok (.iload 4, 2) := by decide +kernel
theorem dX7_loan_147 : decode cX7_loan 147 = .ok (.bipush (-4), 2) := by decide +kernel
theorem dX7_loan_149 : decode cX7_loan 149 = .ok (.if_icmp .eq 7, 3) := by decide +kernel
theorem dX7_loan_152 : decode cX7_loan 152 = .ok (.iload_n 2, 1) := by decide +kernel
theorem dX7_loan_153 : decode cX7_loan 153 = .ok (.ifCond .ne 8, 3) := by decide +kernel
theorem dX7_loan_156 : decode cX7_loan 156 = .ok (.iload 4, 2) := by decide +kernel
theorem dX7_loan_158 : decode cX7_loan 158 = .ok (.goto 4, 3) := by decide +kernel
theorem dX7_loan_161 : decode cX7_loan 161 = .ok (.iload_n 3, 1) := by decide +kernel
theorem dX7_loan_162 : decode cX7_loan 162 = .ok (.ireturn, 1) := by decide +kernel
theorem dX7_swap_0 : decode cX7_swap 0 = .ok (.iload_n 1, 1) := by decide +kernel
theorem dX7_swap_1 : decode cX7_swap 1 = .ok (.i2l, 1) := by decide +kernel
theorem dX7_swap_2 : decode cX7_swap 2 = .ok (.lconst 0, 1) := by decide +kernel
theorem dX7_swap_3 : decode cX7_swap 3 = .ok (.ldc2_w 199, 3) := by decide +kernel
theorem dX7_swap_6 : decode cX7_swap 6 = .ok (.invokestatic 53, 3) := by decide +kernel
theorem dX7_swap_9 : decode cX7_swap 9 = .ok (.ifCond .eq 13, 3) := by decide +kernel
theorem dX7_swap_12 : decode cX7_swap 12 = .ok (.iload_n 2, 1) := by decide +kernel
theorem dX7_swap_13 : decode cX7_swap 13 = .ok (.i2l, 1) := by decide +kernel
theorem dX7_swap_14 : decode cX7_swap 14 = .ok (.lconst 0, 1) := by decide +kernel
theorem dX7_swap_15 : decode cX7_swap 15 = .ok (.lconst 1, 1) := by decide +kernel
theorem dX7_swap_16 : decode cX7_swap 16 = .ok (.invokestatic 53, 3) := by decide +kernel
theorem dX7_swap_19 : decode cX7_swap 19 = .ok (.ifCond .ne 5, 3) := by decide +kernel
theorem dX7_swap_22 : decode cX7_swap 22 = .ok (.iconst (-1), 1) := by decide +kernel
theorem dX7_swap_23 : decode cX7_swap 23 = .ok (.ireturn, 1) := by decide +kernel
theorem dX7_swap_24 : decode cX7_swap 24 = .ok (.aload_n 0, 1) := by decide +kernel
theorem dX7_swap_25 : decode cX7_swap 25 = .ok (.iconst 0, 1) := by decide +kernel
theorem dX7_swap_26 : decode cX7_swap 26 = .ok (.iload_n 1, 1) := by decide +kernel
theorem dX7_swap_27 : decode cX7_swap 27 = .ok (.invokevirtual 201, 3) := by decide +kernel
theorem dX7_swap_30 : decode cX7_swap 30 = .ok (.istore_n 3, 1) := by decide +kernel
theorem dX7_swap_31 : decode cX7_swap 31 = .ok (.bipush (-4), 2) := by decide +kernel
theorem dX7_swap_33 : decode cX7_swap 33 = .ok (.istore 4, 2) := by decide +kernel
theorem dX7_swap_35 : decode cX7_swap 35 = .ok (.iconst 0, 1) := by decide +kernel
theorem dX7_swap_36 : decode cX7_swap 36 = .ok (.istore 5, 2) := by decide +kernel
theorem dX7_swap_38 : decode cX7_swap 38 = .ok (.iload 5, 2) := by decide +kernel
theorem dX7_swap_40 : decode cX7_swap 40 = .ok (.aload_n 0, 1) := by decide +kernel
theorem dX7_swap_41 : decode cX7_swap 41 = .ok (.getfield 7, 3) := by decide +kernel
theorem dX7_swap_44 : decode cX7_swap 44 = .ok (.bipush 40, 2) := by decide +kernel
theorem dX7_swap_46 : decode cX7_swap 46 = .ok (.iaload, 1) := by decide +kernel
theorem dX7_swap_47 : decode cX7_swap 47 = .ok (.if_icmp .ge 169, 3) := by decide +kernel
theorem dX7_swap_50 : decode cX7_swap 50 = .ok (.iload 5, 2) := by decide +kernel
theorem dX7_swap_52 : decode cX7_swap 52 = .ok (.iconst 1, 1) := by decide +kernel
theorem dX7_swap_53 : decode cX7_swap 53 = .ok (.iadd, 1) := by decide +kernel
theorem dX7_swap_54 : decode cX7_swap 54 = .ok (.istore 6, 2) := by decide +kernel
theorem dX7_swap_56 : decode cX7_swap 56 = .ok (.iload 6, 2) := by decide +kernel
theorem dX7_swap_58 : decode cX7_swap 58 = .ok (.aload_n 0, 1) := by decide +kernel
theorem dX7_swap_59 : decode cX7_swap 59 = .ok (.getfield 7, 3) := by decide +kernel
theorem dX7_swap_62 : decode cX7_swap 62 = .ok (.bipush 40, 2) := by decide +kernel
theorem dX7_swap_64 : decode cX7_swap 64 = .ok (.iaload, 1) := by decide +kernel
theorem dX7_swap_65 : decode cX7_swap 65 = .ok (.if_icmp .ge 145, 3) := by decide +kernel
theorem dX7_swap_68 : decode cX7_swap 68 = .ok (.aload_n 0, 1) := by decide +kernel
theorem dX7_swap_69 : decode cX7_swap 69 = .ok (.iconst 0, 1) := by decide +kernel
theorem dX7_swap_70 : decode cX7_swap 70 = .ok (.sipush 210, 3) := by decide +kernel
theorem dX7_swap_73 : decode cX7_swap 73 = .ok (.invokevirtual 195, 3) := by decide +kernel
theorem dX7_swap_76 : decode cX7_swap 76 = .ok (.aload_n 0, 1) := by decide +kernel
theorem dX7_swap_77 : decode cX7_swap 77 = .ok (.getfield 7, 3) := by decide +kernel
theorem dX7_swap_80 : decode cX7_swap 80 = .ok (.sipush 230, 3) := by decide +kernel
theorem dX7_swap_83 : decode cX7_swap 83 = .ok (.iload 5, 2) := by decide +kernel
theorem dX7_swap_85 : decode cX7_swap 85 = .ok (.iadd, 1) := by decide +kernel
theorem dX7_swap_86 : decode cX7_swap 86 = .ok (.aload_n 0, 1) := by decide +kernel
theorem dX7_swap_87 : decode cX7_swap 87 = .ok (.getfield 7, 3) := by decide +kernel
theorem dX7_swap_90 : decode cX7_swap 90 = .ok (.bipush 20, 2) := by decide +kernel
theorem dX7_swap_92 : decode cX7_swap 92 = .ok (.iload 6, 2) := by decide +kernel
theorem dX7_swap_94 : decode cX7_swap 94 = .ok (.iadd, 1) := by decide +kernel
theorem dX7_swap_95 : decode cX7_swap 95 = .ok (.iaload, 1) := by decide +kernel
theorem dX7_swap_96 : decode cX7_swap 96 = .ok (.iastore, 1) := by decide +kernel
theorem dX7_swap_97 : decode cX7_swap 97 = .ok (.aload_n 0, 1) := by decide +kernel
theorem dX7_swap_98 : decode cX7_swap 98 = .ok (.getfield 7, 3) := by decide +kernel
theorem dX7_swap_101 : decode cX7_swap 101 = .ok (.sipush 240, 3) := by decide +kernel
theorem dX7_swap_104 : decode cX7_swap 104 = .ok (.iload 5, 2) := by decide +kernel
theorem dX7_swap_106 : decode cX7_swap 106 = .ok (.iadd, 1) := by decide +kernel
theorem dX7_swap_107 : decode cX7_swap 107 = .ok (.aload_n 0, 1) := by decide +kernel
theorem dX7_swap_108 : decode cX7_swap 108 = .ok (.getfield 7, 3) := by decide +kernel
theorem dX7_swap_111 : decode cX7_swap 111 = .ok (.bipush 30, 2) := by decide +kernel
theorem dX7_swap_113 : decode cX7_swap 113 = .ok (.iload 6, 2) := by decide +kernel
theorem dX7_swap_115 : decode cX7_swap 115 = .ok (.iadd, 1) := by decide +kernel
theorem dX7_swap_116 : decode cX7_swap 116 = .ok (.iaload, 1) := by decide +kernel
theorem dX7_swap_117 : decode cX7_swap 117 = .ok (.iastore, 1) := by decide +kernel
theorem dX7_swap_118 : decode cX7_swap 118 = .ok (.aload_n 0, 1) := by decide +kernel
theorem dX7_swap_119 : decode cX7_swap 119 = .ok (.getfield 7, 3) := by decide +kernel
theorem dX7_swap_122 : decode cX7_swap 122 = .ok (.sipush 230, 3) := by decide +kernel
theorem dX7_swap_125 : decode cX7_swap 125 = .ok (.iload 6, 2) := by decide +kernel
theorem dX7_swap_127 : decode cX7_swap 127 = .ok (.iadd, 1) := by decide +kernel
theorem dX7_swap_128 : decode cX7_swap 128 = .ok (.aload_n 0, 1) := by decide +kernel
theorem dX7_swap_129 : decode cX7_swap 129 = .ok (.getfield 7, 3) := by decide +kernel
theorem dX7_swap_132 : decode cX7_swap 132 = .ok (.bipush 20, 2) := by decide +kernel
theorem dX7_swap_134 : decode cX7_swap 134 = .ok (.iload 5, 2) := by decide +kernel
theorem dX7_swap_136 : decode cX7_swap 136 = .ok (.iadd, 1) := by decide +kernel
theorem dX7_swap_137 : decode cX7_swap 137 = .ok (.iaload, 1) := by decide +kernel
theorem dX7_swap_138 : decode cX7_swap 138 = .ok (.iastore, 1) := by decide +kernel
theorem dX7_swap_139 : decode cX7_swap 139 = .ok (.aload_n 0, 1) := by decide +kernel
theorem dX7_swap_140 : decode cX7_swap 140 = .ok (.getfield 7, 3) := by decide +kernel
theorem dX7_swap_143 : decode cX7_swap 143 = .ok (.sipush 240, 3) := by decide +kernel
theorem dX7_swap_146 : decode cX7_swap 146 = .ok (.iload 6, 2) := by decide +kernel
theorem dX7_swap_148 : decode cX7_swap 148 = .ok (.iadd, 1) := by decide +kernel
theorem dX7_swap_149 : decode cX7_swap 149 = .ok (.aload_n 0, 1) := by decide +kernel
theorem dX7_swap_150 : decode cX7_swap 150 = .ok (.getfield 7, 3) := by decide +kernel
theorem dX7_swap_153 : decode cX7_swap 153 = .ok (.bipush 30, 2) := by decide +kernel
theorem dX7_swap_155 : decode cX7_swap 155 = .ok (.iload 5, 2) := by decide +kernel
theorem dX7_swap_157 : decode cX7_swap 157 = .ok (.iadd, 1) := by decide +kernel
theorem dX7_swap_158 : decode cX7_swap 158 = .ok (.iaload, 1) := by decide +kernel
theorem dX7_swap_159 : decode cX7_swap 159 = .ok (.iastore, 1) := by decide +kernel
theorem dX7_swap_160 : decode cX7_swap 160 = .ok (.aload_n 0, 1) := by decide +kernel
theorem dX7_swap_161 : decode cX7_swap 161 = .ok (.sipush 210, 3) := by decide +kernel
theorem dX7_swap_164 : decode cX7_swap 164 = .ok (.iload_n 1, 1) := by decide +kernel
theorem dX7_swap_165 : decode cX7_swap 165 = .ok (.invokevirtual 201, 3) := by decide +kernel
theorem dX7_swap_168 : decode cX7_swap 168 = .ok (.istore 7, 2) := by decide +kernel
theorem dX7_swap_170 : decode cX7_swap 170 = .ok (.iload 7, 2) := by decide +kernel
theorem dX7_swap_172 : decode cX7_swap 172 = .ok (.iload_n 3, 1) := by decide +kernel
theorem dX7_swap_173 : decode cX7_swap 173 = .ok (.if_icmp .ge 14, 3) := by decide +kernel
theorem dX7_swap_176 : decode cX7_swap 176 = .ok (.bipush 10, 2) := by decide +kernel
theorem dX7_swap_178 : decode cX7_swap 178 = .ok (.iload 5, 2) := by decide +kernel
theorem dX7_swap_180 : decode cX7_swap 180 = .ok (.imul, 1) := by decide +kernel
theorem dX7_swap_181 : decode cX7_swap 181 = .ok (.iload 6, 2) := by decide +kernel
theorem dX7_swap_183 : decode cX7_swap 183 = .ok (.iadd, 1) := by decide +kernel
theorem dX7_swap_184 : decode cX7_swap 184 = .ok (.goto 5, 3) := by decide +kernel
theorem dX7_swap_187 : decode cX7_swap 187 = .ok (.iload 4, 2) := by decide +kernel
theorem dX7_swap_189 : decode cX7_swap 189 = .ok (.istore 4, 2) := by decide +kernel
theorem dX7_swap_191 : decode cX7_swap 191 = .ok (.iload 7, 2) := by decide +kernel
theorem dX7_swap_193 : decode cX7_swap 193 = .ok (.iload_n 3, 1) := by decide +kernel
theorem dX7_swap_194 : decode cX7_swap 194 = .ok (.if_icmp .ge 8, 3) := by decide +kernel
theorem dX7_swap_197 : decode cX7_swap 197 = .ok (.iload 7, 2) := by decide +kernel
theorem dX7_swap_199 : decode cX7_swap 199 = .ok (.goto 4, 3) := by decide +kernel
theorem dX7_swap_202 : decode cX7_swap 202 = .ok (.iload_n 3, 1) := by decide +kernel
theorem dX7_swap_203 : decode cX7_swap 203 = .ok (.istore_n 3, 1) := by decide +kernel
theorem dX7_swap_204 : decode cX7_swap 204 = .ok (.iinc 6 1, 3) := by decide +kernel
theorem dX7_swap_207 : decode cX7_swap 207 = .ok (.goto (-151), 3) := by decide +kernel
theorem dX7_swap_210 : decode cX7_swap 210 = .ok (.iinc 5 1, 3) := by decide +kernel
theorem dX7_swap_213 : decode cX7_swap 213 = .ok (.goto (-175), 3) := by decide +kernel
theorem dX7_swap_216 : decode cX7_swap 216 = .ok (.iload 4, 2) := by decide +kernel
theorem dX7_swap_218 : decode cX7_swap 218 = .ok (.bipush (-4), 2) := by decide +kernel
theorem dX7_swap_220 : decode cX7_swap 220 = .ok (.if_icmp .eq 7, 3) := by decide +kernel
theorem dX7_swap_223 : decode cX7_swap 223 = .ok (.iload_n 2, 1) := by decide +kernel
theorem dX7_swap_224 : decode cX7_swap 224 = .ok (.ifCond .ne 8, 3) := by decide +kernel
theorem dX7_swap_227 : decode cX7_swap 227 = .ok (.iload 4, 2) := by decide +kernel
theorem dX7_swap_229 : decode cX7_swap 229 = .ok (.goto 4, 3) := by decide +kernel
theorem dX7_swap_232 : decode cX7_swap 232 = .ok (.iload_n 3, 1) := by decide +kernel
theorem dX7_swap_233 : decode cX7_swap 233 = .ok (.ireturn, 1) := by decide +kernel
theorem dX7_skip_0 : decode cX7_skip 0 = .ok (.iload_n 1, 1) := by decide +kernel
theorem dX7_skip_1 : decode cX7_skip 1 = .ok (.i2l, 1) := by decide +kernel
theorem dX7_skip_2 : decode cX7_skip 2 = .ok (.lconst 0, 1) := by decide +kernel
theorem dX7_skip_3 : decode cX7_skip 3 = .ok (.ldc2_w 199, 3) := by decide +kernel
theorem dX7_skip_6 : decode cX7_skip 6 = .ok (.invokestatic 53, 3) := by decide +kernel
theorem dX7_skip_9 : decode cX7_skip 9 = .ok (.ifCond .eq 13, 3) := by decide +kernel
theorem dX7_skip_12 : decode cX7_skip 12 = .ok (.iload_n 2, 1) := by decide +kernel
theorem dX7_skip_13 : decode cX7_skip 13 = .ok (.i2l, 1) := by decide +kernel
theorem dX7_skip_14 : decode cX7_skip 14 = .ok (.lconst 0, 1) := by decide +kernel
theorem dX7_skip_15 : decode cX7_skip 15 = .ok (.lconst 1, 1) := by decide +kernel
theorem dX7_skip_16 : decode cX7_skip 16 = .ok (.invokestatic 53, 3) := by decide +kernel
theorem dX7_skip_19 : decode cX7_skip 19 = .ok (.ifCond .ne 5, 3) := by decide +kernel
theorem dX7_skip_22 : decode cX7_skip 22 = .ok (.iconst (-1), 1) := by decide +kernel
theorem dX7_skip_23 : decode cX7_skip 23 = .ok (.ireturn, 1) := by decide +kernel
theorem dX7_skip_24 : decode cX7_skip 24 = .ok (.aload_n 0, 1) := by decide +kernel
theorem dX7_skip_25 : decode cX7_skip 25 = .ok (.iconst 0, 1) := by decide +kernel
theorem dX7_skip_26 : decode cX7_skip 26 = .ok (.iload_n 1, 1) := by decide +kernel
theorem dX7_skip_27 : decode cX7_skip 27 = .ok (.invokevirtual 201, 3) := by decide +kernel
theorem dX7_skip_30 : decode cX7_skip 30 = .ok (.istore_n 3, 1) := by decide +kernel
theorem dX7_skip_31 : decode cX7_skip 31 = .ok (.bipush (-4), 2) := by decide +kernel
theorem dX7_skip_33 : decode cX7_skip 33 = .ok (.istore 4, 2) := by decide +kernel
theorem dX7_skip_35 : decode cX7_skip 35 = .ok (.iconst 0, 1) := by decide +kernel
theorem dX7_skip_36 : decode cX7_skip 36 = .ok (.istore 5, 2) := by decide +kernel
theorem dX7_skip_38 : decode cX7_skip 38 = .ok (.iload 5, 2) := by decide +kernel
theorem dX7_skip_40 : decode cX7_skip 40 = .ok (.aload_n 0, 1) := by decide +kernel
theorem dX7_skip_41 : decode cX7_skip 41 = .ok (.getfield 7, 3) := by decide +kernel
theorem dX7_skip_44 : decode cX7_skip 44 = .ok (.bipush 40, 2) := by decide +kernel
theorem dX7_skip_46 : decode cX7_skip 46 = .ok (.iaload, 1) := by decide +kernel
theorem dX7_skip_47 : decode cX7_skip 47 = .ok (.if_icmp .ge 57, 3) := by decide +kernel
theorem dX7_skip_50 : decode cX7_skip 50 = .ok (.aload_n 0, 1) := by decide +kernel
theorem dX7_skip_51 : decode cX7_skip 51 = .ok (.iload 5, 2) := by decide +kernel
theorem dX7_skip_53 : decode cX7_skip 53 = .ok (.putfield 25, 3) := by decide +kernel
theorem dX7_skip_56 : decode cX7_skip 56 = .ok (.aload_n 0, 1) := by decide +kernel
theorem dX7_skip_57 : decode cX7_skip 57 = .ok (.iconst 0, 1) := by decide +kernel
theorem dX7_skip_58 : decode cX7_skip 58 = .ok (.iload_n 1, 1) := by decide +kernel
theorem dX7_skip_59 : decode cX7_skip 59 = .ok (.invokevirtual 201, 3) := by decide +kernel
theorem dX7_skip_62 : decode cX7_skip 62 = .ok (.istore 6, 2) := by decide +kernel
theorem dX7_skip_64 : decode cX7_skip 64 = .ok (.aload_n 0, 1) := by decide +kernel
theorem dX7_skip_65 : decode cX7_skip 65 = .ok (.bipush (-4), 2) := by decide +kernel
theorem dX7_skip_67 : decode cX7_skip 67 = .ok (.putfield 25, 3) := by decide +kernel
theorem dX7_skip_70 : decode cX7_skip 70 = .ok (.iload 6, 2) := by decide +kernel
theorem dX7_skip_72 : decode cX7_skip 72 = .ok (.iload_n 3, 1) := by decide +kernel
theorem dX7_skip_73 : decode cX7_skip 73 = .ok (.if_icmp .ge 8, 3) := by decide +kernel
theorem dX7_skip_76 : decode cX7_skip 76 = .ok (.iload 5, 2) := by decide +kernel
theorem dX7_skip_78 : decode cX7_skip 78 = .ok (.goto 5, 3) := by decide +kernel
theorem dX7_skip_81 : decode cX7_skip 81 = .ok (.iload 4, 2) := by decide +kernel
theorem dX7_skip_83 : decode cX7_skip 83 = .ok (.istore 4, 2) := by decide +kernel
theorem dX7_skip_85 : decode cX7_skip 85 = .ok (.iload 6, 2) := by decide +kernel
theorem dX7_skip_87 : decode cX7_skip 87 = .ok (.iload_n 3, 1) := by decide +kernel
theorem dX7_skip_88 : decode cX7_skip 88 = .ok (.if_icmp .ge 8, 3) := by decide +kernel
theorem dX7_skip_91 : decode cX7_skip 91 = .ok (.iload 6, 2) := by decide +kernel
theorem dX7_skip_93 : decode cX7_skip 93 = .ok (.goto 4, 3) := by decide +kernel
theorem dX7_skip_96 : decode cX7_skip 96 = .ok (.iload_n 3, 1) := by decide +kernel
theorem dX7_skip_97 : decode cX7_skip 97 = .ok (.istore_n 3, 1) := by decide +kernel
theorem dX7_skip_98 : decode cX7_skip 98 = .ok (.iinc 5 1, 3) := by decide +kernel
theorem dX7_skip_101 : decode cX7_skip 101 = .ok (.goto (-63), 3) := by decide +kernel
theorem dX7_skip_104 : decode cX7_skip 104 = .ok (.iload 4, 2) := by decide +kernel
theorem dX7_skip_106 : decode cX7_skip 106 = .ok (.bipush (-4), 2) := by decide +kernel
theorem dX7_skip_108 : decode cX7_skip 108 = .ok (.if_icmp .eq 7, 3) := by decide +kernel
theorem dX7_skip_111 : decode cX7_skip 111 = .ok (.iload_n 2, 1) := by decide +kernel
theorem dX7_skip_112 : decode cX7_skip 112 = .ok (.ifCond .ne 8, 3) := by decide +kernel
theorem dX7_skip_115 : decode cX7_skip 115 = .ok (.iload 4, 2) := by decide +kernel
theorem dX7_skip_117 : decode cX7_skip 117 = .ok (.goto 4, 3) := by decide +kernel
theorem dX7_skip_120 : decode cX7_skip 120 = .ok (.iload_n 3, 1) := by decide +kernel
theorem dX7_skip_121 : decode cX7_skip 121 = .ok (.ireturn, 1) := by decide +kernel
theorem dX7_most_0 : decode cX7_most 0 = .ok (.aload_n 0, 1) := by decide +kernel
theorem dX7_most_1 : decode cX7_most 1 = .ok (.iload_n 1, 1) := by decide +kernel
theorem dX7_most_2 : decode cX7_most 2 = .ok (.invokevirtual 131, 3) := by decide +kernel
theorem dX7_most_5 : decode cX7_most 5 = .ok (.ifCond .eq 15, 3) := by decide +kernel
theorem dX7_most_8 : decode cX7_most 8 = .ok (.iload_n 2, 1) := by decide +kernel
theorem dX7_most_9 : decode cX7_most 9 = .ok (.i2l, 1) := by decide +kernel
theorem dX7_most_10 : decode cX7_most 10 = .ok (.lconst 0, 1) := by decide +kernel
theorem dX7_most_11 : decode cX7_most 11 = .ok (.ldc2_w 199, 3) := by decide +kernel
theorem dX7_most_14 : decode cX7_most 14 = .ok (.invokestatic 53, 3) := by decide +kernel
theorem dX7_most_17 : decode cX7_most 17 = .ok (.ifCond .ne 5, 3) := by decide +kernel
theorem dX7_most_20 : decode cX7_most 20 = .ok (.iconst (-1), 1) := by decide +kernel
theorem dX7_most_21 : decode cX7_most 21 = .ok (.ireturn, 1) := by decide +kernel
theorem dX7_most_22 : decode cX7_most 22 = .ok (.aload_n 0, 1) := by decide +kernel
theorem dX7_most_23 : decode cX7_most 23 = .ok (.iconst 0, 1) := by decide +kernel
theorem dX7_most_24 : decode cX7_most 24 = .ok (.sipush 210, 3) := by decide +kernel
theorem dX7_most_27 : decode cX7_most 27 = .ok (.invokevirtual 195, 3) := by decide +kernel
theorem dX7_most_30 : decode cX7_most 30 = .ok (.bipush 20, 2) := by decide +kernel
theorem dX7_most_32 : decode cX7_most 32 = .ok (.istore_n 3, 1) := by decide +kernel
theorem dX7_most_33 : decode cX7_most 33 = .ok (.iload_n 3, 1) := by decide +kernel
theorem dX7_most_34 : decode cX7_most 34 = .ok (.ifCond .lt 36, 3) := by decide +kernel
theorem dX7_most_37 : decode cX7_most 37 = .ok (.aload_n 0, 1) := by decide +kernel
theorem dX7_most_38 : decode cX7_most 38 = .ok (.getfield 7, 3) := by decide +kernel
theorem dX7_most_41 : decode cX7_most 41 = .ok (.sipush 215, 3) := by decide +kernel
theorem dX7_most_44 : decode cX7_most 44 = .ok (.iload_n 1, 1) := by decide +kernel
theorem dX7_most_45 : decode cX7_most 45 = .ok (.iadd, 1) := by decide +kernel
theorem dX7_most_46 : decode cX7_most 46 = .ok (.iload_n 3, 1) := by decide +kernel
theorem dX7_most_47 : decode cX7_most 47 = .ok (.iastore, 1) := by decide +kernel
theorem dX7_most_48 : decode cX7_most 48 = .ok (.aload_n 0, 1) := by decide +kernel
theorem dX7_most_49 : decode cX7_most 49 = .ok (.sipush 210, 3) := by decide +kernel
theorem dX7_most_52 : decode cX7_most 52 = .ok (.iload_n 1, 1) := by decide +kernel
theorem dX7_most_53 : decode cX7_most 53 = .ok (.iload_n 2, 1) := by decide +kernel
theorem dX7_most_54 : decode cX7_most 54 = .ok (.invokevirtual 206, 3) := by decide +kernel
theorem dX7_most_57 : decode cX7_most 57 = .ok (.bipush (-4), 2) := by decide +kernel
theorem dX7_most_59 : decode cX7_most 59 = .ok (.if_icmp .eq 5, 3) := by decide +kernel
theorem dX7_most_62 : decode cX7_most 62 = .ok (.iload_n 3, 1) := by decide +kernel
theorem dX7_most_63 : decode cX7_most 63 = .ok (.ireturn, 1) := by decide +kernel
theorem dX7_most_64 : decode cX7_most 64 = .ok (.iinc 3 (-1), 3) := by decide +kernel
theorem dX7_most_67 : decode cX7_most 67 = .ok (.goto (-34), 3) := by decide +kernel
theorem dX7_most_70 : decode cX7_most 70 = .ok (.bipush (-4), 2) := by decide +kernel
theorem dX7_most_72 : decode cX7_most 72 = .ok (.ireturn, 1) := by decide +kernel
theorem dX7_kind_0 : decode cX7_kind 0 = .ok (.aload_n 0, 1) := by decide +kernel
theorem dX7_kind_1 : decode cX7_kind 1 = .ok (.iload_n 1, 1) := by decide +kernel
theorem dX7_kind_2 : decode cX7_kind 2 = .ok (.invokevirtual 131, 3) := by decide +kernel
theorem dX7_kind_5 : decode cX7_kind 5 = .ok (.ifCond .eq 25, 3) := by decide +kernel
theorem dX7_kind_8 : decode cX7_kind 8 = .ok (.iload_n 2, 1) := by decide +kernel
theorem dX7_kind_9 : decode cX7_kind 9 = .ok (.i2l, 1) := by decide +kernel
theorem dX7_kind_10 : decode cX7_kind 10 = .ok (.lconst 0, 1) := by decide +kernel
theorem dX7_kind_11 : decode cX7_kind 11 = .ok (.ldc2_w 199, 3) := by decide +kernel
theorem dX7_kind_14 : decode cX7_kind 14 = .ok (.invokestatic 53, 3) := by decide +kernel
theorem dX7_kind_17 : decode cX7_kind 17 = .ok (.ifCond .eq 13, 3) := by decide +kernel
theorem dX7_kind_20 : decode cX7_kind 20 = .ok (.iload_n 3, 1) := by decide +kernel
theorem dX7_kind_21 : decode cX7_kind 21 = .ok (.i2l, 1) := by decide +kernel
theorem dX7_kind_22 : decode cX7_kind 22 = .ok (.lconst 0, 1) := by decide +kernel
theorem dX7_kind_23 : decode cX7_kind 23 = .ok (.lconst 1, 1) := by decide +kernel
theorem dX7_kind_24 : decode cX7_kind 24 = .ok (.invokestatic 53, 3) := by decide +kernel
theorem dX7_kind_27 : decode cX7_kind 27 = .ok (.ifCond .ne 5, 3) := by decide +kernel
theorem dX7_kind_30 : decode cX7_kind 30 = .ok (.iconst (-1), 1) := by decide +kernel
theorem dX7_kind_31 : decode cX7_kind 31 = .ok (.ireturn, 1) := by decide +kernel
theorem dX7_kind_32 : decode cX7_kind 32 = .ok (.ldc 213, 2) := by decide +kernel
theorem dX7_kind_34 : decode cX7_kind 34 = .ok (.istore 4, 2) := by decide +kernel
theorem dX7_kind_36 : decode cX7_kind 36 = .ok (.iconst 0, 1) := by decide +kernel
theorem dX7_kind_37 : decode cX7_kind 37 = .ok (.istore 5, 2) := by decide +kernel
theorem dX7_kind_39 : decode cX7_kind 39 = .ok (.aload_n 0, 1) := by decide +kernel
theorem dX7_kind_40 : decode cX7_kind 40 = .ok (.iconst 0, 1) := by decide +kernel
theorem dX7_kind_41 : decode cX7_kind 41 = .ok (.sipush 210, 3) := by decide +kernel
theorem dX7_kind_44 : decode cX7_kind 44 = .ok (.invokevirtual 195, 3) := by decide +kernel
theorem dX7_kind_47 : decode cX7_kind 47 = .ok (.iconst 0, 1) := by decide +kernel
theorem dX7_kind_48 : decode cX7_kind 48 = .ok (.istore 6, 2) := by decide +kernel
theorem dX7_kind_50 : decode cX7_kind 50 = .ok (.iload 6, 2) := by decide +kernel
theorem dX7_kind_52 : decode cX7_kind 52 = .ok (.iconst 4, 1) := by decide +kernel
theorem dX7_kind_53 : decode cX7_kind 53 = .ok (.if_icmp .ge 63, 3) := by decide +kernel
theorem dX7_kind_56 : decode cX7_kind 56 = .ok (.aload_n 0, 1) := by decide +kernel
theorem dX7_kind_57 : decode cX7_kind 57 = .ok (.getfield 7, 3) := by decide +kernel
theorem dX7_kind_60 : decode cX7_kind 60 = .ok (.sipush 210, 3) := by decide +kernel
theorem dX7_kind_63 : decode cX7_kind 63 = .ok (.iload_n 1, 1) := by decide +kernel
theorem dX7_kind_64 : decode cX7_kind 64 = .ok (.iadd, 1) := by decide +kernel
theorem dX7_kind_65 : decode cX7_kind 65 = .ok (.iload 6, 2) := by decide +kernel
theorem dX7_kind_67 : decode cX7_kind 67 = .ok (.iastore, 1) := by decide +kernel
theorem dX7_kind_68 : decode cX7_kind 68 = .ok (.aload_n 0, 1) := by decide +kernel
theorem dX7_kind_69 : decode cX7_kind 69 = .ok (.sipush 210, 3) := by decide +kernel
theorem dX7_kind_72 : decode cX7_kind 72 = .ok (.iload_n 2, 1) := by decide +kernel
theorem dX7_kind_73 : decode cX7_kind 73 = .ok (.invokevirtual 201, 3) := by decide +kernel
theorem dX7_kind_76 : decode cX7_kind 76 = .ok (.istore 7, 2) := by decide +kernel
theorem dX7_kind_78 : decode cX7_kind 78 = .ok (.iload 7, 2) := by decide +kernel
theorem dX7_kind_80 : decode cX7_kind 80 = .ok (.iload 4, 2) := by decide +kernel
theorem dX7_kind_82 : decode cX7_kind 82 = .ok (.if_icmp .ge 8, 3) := by decide +kernel
theorem dX7_kind_85 : decode cX7_kind 85 = .ok (.iload 6, 2) := by decide +kernel
theorem dX7_kind_87 : decode cX7_kind 87 = .ok (.goto 5, 3) := by decide +kernel
theorem dX7_kind_90 : decode cX7_kind 90 = .ok (.iload 5, 2) := by decide +kernel
theorem dX7_kind_92 : decode cX7_kind 92 = .ok (.istore 5, 2) := by decide +kernel
theorem dX7_kind_94 : decode cX7_kind 94 = .ok (.iload 7, 2) := by decide +kernel
theorem dX7_kind_96 : decode cX7_kind 96 = .ok (.iload 4, 2) := by decide +kernel
theorem dX7_kind_98 : decode cX7_kind 98 = .ok (.if_icmp .ge 8, 3) := by decide +kernel
theorem dX7_kind_101 : decode cX7_kind 101 = .ok (.iload 7, 2) := by decide +kernel
theorem dX7_kind_103 : decode cX7_kind 103 = .ok (.goto 5, 3) := by decide +kernel
theorem dX7_kind_106 : decode cX7_kind 106 = .ok (.iload 4, 2) := by decide +kernel
theorem dX7_kind_108 : decode cX7_kind 108 = .ok (.istore 4, 2) := by decide +kernel
theorem dX7_kind_110 : decode cX7_kind 110 = .ok (.iinc 6 1, 3) := by decide +kernel
theorem dX7_kind_113 : decode cX7_kind 113 = .ok (.goto (-63), 3) := by decide +kernel
theorem dX7_kind_116 : decode cX7_kind 116 = .ok (.iload_n 3, 1) := by decide +kernel
theorem dX7_kind_117 : decode cX7_kind 117 = .ok (.ifCond .ne 8, 3) := by decide +kernel
theorem dX7_kind_120 : decode cX7_kind 120 = .ok (.iload 5, 2) := by decide +kernel
theorem dX7_kind_122 : decode cX7_kind 122 = .ok (.goto 5, 3) := by decide +kernel
theorem dX7_kind_125 : decode cX7_kind 125 = .ok (.iload 4, 2) := by decide +kernel
theorem dX7_kind_127 : decode cX7_kind 127 = .ok (.ireturn, 1) := by decide +kernel
theorem dX7_lowest_0 : decode cX7_lowest 0 = .ok (.lload_n 0, 1) := by decide +kernel
theorem dX7_lowest_1 : decode cX7_lowest 1 = .ok (.lstore 5, 2) := by decide +kernel
theorem dX7_lowest_3 : decode cX7_lowest 3 = .ok (.lload_n 2, 1) := by decide +kernel
theorem dX7_lowest_4 : decode cX7_lowest 4 = .ok (.lstore 7, 2) := by decide +kernel
theorem dX7_lowest_6 : decode cX7_lowest 6 = .ok (.lload 7, 2) := by decide +kernel
theorem dX7_lowest_8 : decode cX7_lowest 8 = .ok (.lconst 0, 1) := by decide +kernel
theorem dX7_lowest_9 : decode cX7_lowest 9 = .ok (.lcmp, 1) := by decide +kernel
theorem dX7_lowest_10 : decode cX7_lowest 10 = .ok (.ifCond .eq 21, 3) := by decide +kernel
theorem dX7_lowest_13 : decode cX7_lowest 13 = .ok (.lload 5, 2) := by decide +kernel
theorem dX7_lowest_15 : decode cX7_lowest 15 = .ok (.lload 7, 2) := by decide +kernel
theorem dX7_lowest_17 : decode cX7_lowest 17 = .ok (.lrem, 1) := by decide +kernel
theorem dX7_lowest_18 : decode cX7_lowest 18 = .ok (.lstore 9, 2) := by decide +kernel
theorem dX7_lowest_20 : decode cX7_lowest 20 = .ok (.lload 7, 2) := by decide +kernel
theorem dX7_lowest_22 : decode cX7_lowest 22 = .ok (.lstore 5, 2) := by decide +kernel
theorem dX7_lowest_24 : decode cX7_lowest 24 = .ok (.lload 9, 2) := by decide +kernel
theorem dX7_lowest_26 : decode cX7_lowest 26 = .ok (.lstore 7, 2) := by decide +kernel
theorem dX7_lowest_28 : decode cX7_lowest 28 = .ok (.goto (-22), 3) := by decide +kernel
theorem dX7_lowest_31 : decode cX7_lowest 31 = .ok (.iload 4, 2) := by decide +kernel
theorem dX7_lowest_33 : decode cX7_lowest 33 = .ok (.ifCond .ne 7, 3) := by decide +kernel
theorem dX7_lowest_36 : decode cX7_lowest 36 = .ok (.lload_n 0, 1) := by decide +kernel
theorem dX7_lowest_37 : decode cX7_lowest 37 = .ok (.goto 4, 3) := by decide +kernel
theorem dX7_lowest_40 : decode cX7_lowest 40 = .ok (.lload_n 2, 1) := by decide +kernel
theorem dX7_lowest_41 : decode cX7_lowest 41 = .ok (.lload 5, 2) := by decide +kernel
theorem dX7_lowest_43 : decode cX7_lowest 43 = .ok (.ldiv, 1) := by decide +kernel
theorem dX7_lowest_44 : decode cX7_lowest 44 = .ok (.lreturn, 1) := by decide +kernel
theorem dX7_byRain_0 : decode cX7_byRain 0 = .ok (.lconst 0, 1) := by decide +kernel
theorem dX7_byRain_1 : decode cX7_byRain 1 = .ok (.lstore 5, 2) := by decide +kernel
theorem dX7_byRain_3 : decode cX7_byRain 3 = .ok (.lconst 1, 1) := by decide +kernel
theorem dX7_byRain_4 : decode cX7_byRain 4 = .ok (.lstore 7, 2) := by decide +kernel
theorem dX7_byRain_6 : decode cX7_byRain 6 = .ok (.iconst 0, 1) := by decide +kernel
theorem dX7_byRain_7 : decode cX7_byRain 7 = .ok (.istore 9, 2) := by decide +kernel
theorem dX7_byRain_9 : decode cX7_byRain 9 = .ok (.iload 9, 2) := by decide +kernel
theorem dX7_byRain_11 : decode cX7_byRain 11 = .ok (.iload_n 3, 1) := by decide +kernel
theorem dX7_byRain_12 : decode cX7_byRain 12 = .ok (.if_icmp .ge 17, 3) := by decide +kernel
theorem dX7_byRain_15 : decode cX7_byRain 15 = .ok (.lload 7, 2) := by decide +kernel
theorem dX7_byRain_17 : decode cX7_byRain 17 = .ok (.ldc2_w 209, 3) := by decide +kernel
theorem dX7_byRain_20 : decode cX7_byRain 20 = .ok (.lmul, 1) := by decide +kernel
theorem dX7_byRain_21 : decode cX7_byRain 21 = .ok (.lstore 7, 2) := by decide +kernel
theorem dX7_byRain_23 : decode cX7_byRain 23 = .ok (.iinc 9 1, 3) := by decide +kernel
theorem dX7_byRain_26 : decode cX7_byRain 26 = .ok (.goto (-17), 3) := by decide +kernel
theorem dX7_byRain_29 : decode cX7_byRain 29 = .ok (.iconst 0, 1) := by decide +kernel
theorem dX7_byRain_30 : decode cX7_byRain 30 = .ok (.istore 9, 2) := by decide +kernel
theorem dX7_byRain_32 : decode cX7_byRain 32 = .ok (.iload 9, 2) := by decide +kernel
theorem dX7_byRain_34 : decode cX7_byRain 34 = .ok (.iconst 1, 1) := by decide +kernel
theorem dX7_byRain_35 : decode cX7_byRain 35 = .ok (.iload_n 3, 1) := by decide +kernel
theorem dX7_byRain_36 : decode cX7_byRain 36 = .ok (.ishl, 1) := by decide +kernel
theorem dX7_byRain_37 : decode cX7_byRain 37 = .ok (.if_icmp .ge 140, 3) := by decide +kernel
theorem dX7_byRain_40 : decode cX7_byRain 40 = .ok (.lconst 1, 1) := by decide +kernel
theorem dX7_byRain_41 : decode cX7_byRain 41 = .ok (.lstore 10, 2) := by decide +kernel
theorem dX7_byRain_43 : decode cX7_byRain 43 = .ok (.iconst 0, 1) := by decide +kernel
theorem dX7_byRain_44 : decode cX7_byRain 44 = .ok (.istore 12, 2) := by decide +kernel
theorem dX7_byRain_46 : decode cX7_byRain 46 = .ok (.aload_n 0, 1) := by decide +kernel
theorem dX7_byRain_47 : decode cX7_byRain 47 = .ok (.iconst 0, 1) := by decide +kernel
theorem dX7_byRain_48 : decode cX7_byRain 48 = .ok (.sipush 168, 3) := by decide +kernel
theorem dX7_byRain_51 : decode cX7_byRain 51 = .ok (.invokevirtual 195, 3) := by decide +kernel
theorem dX7_byRain_54 : decode cX7_byRain 54 = .ok (.iconst 0, 1) := by decide +kernel
theorem dX7_byRain_55 : decode cX7_byRain 55 = .ok (.istore 13, 2) := by decide +kernel
theorem dX7_byRain_57 : decode cX7_byRain 57 = .ok (.iload 13, 2) := by decide +kernel
theorem dX7_byRain_59 : decode cX7_byRain 59 = .ok (.iload_n 3, 1) := by decide +kernel
theorem dX7_byRain_60 : decode cX7_byRain 60 = .ok (.if_icmp .ge 80, 3) := by decide +kernel
theorem dX7_byRain_63 : decode cX7_byRain 63 = .ok (.iload 9, 2) := by decide +kernel
theorem dX7_byRain_65 : decode cX7_byRain 65 = .ok (.iload 13, 2) := by decide +kernel
theorem dX7_byRain_67 : decode cX7_byRain 67 = .ok (.ishr, 1) := by decide +kernel
theorem dX7_byRain_68 : decode cX7_byRain 68 = .ok (.iconst 1, 1) := by decide +kernel
theorem dX7_byRain_69 : decode cX7_byRain 69 = .ok (.iand, 1) := by decide +kernel
theorem dX7_byRain_70 : decode cX7_byRain 70 = .ok (.iconst 1, 1) := by decide +kernel
theorem dX7_byRain_71 : decode cX7_byRain 71 = .ok (.if_icmp .ne 7, 3) := by decide +kernel
theorem dX7_byRain_74 : decode cX7_byRain 74 = .ok (.iconst 1, 1) := by decide +kernel
theorem dX7_byRain_75 : decode cX7_byRain 75 = .ok (.goto 4, 3) := by decide +kernel
theorem dX7_byRain_78 : decode cX7_byRain 78 = .ok (.iconst 0, 1) := by decide +kernel
theorem dX7_byRain_79 : decode cX7_byRain 79 = .ok (.istore 14, 2) := by decide +kernel
theorem dX7_byRain_81 : decode cX7_byRain 81 = .ok (.lload 10, 2) := by decide +kernel
theorem dX7_byRain_83 : decode cX7_byRain 83 = .ok (.iload 14, 2) := by decide +kernel
theorem dX7_byRain_85 : decode cX7_byRain 85 = .ok (.ifCond .eq 8, 3) := by decide +kernel
theorem dX7_byRain_88 : decode cX7_byRain 88 = .ok (.iload_n 1, 1) := by decide +kernel
theorem dX7_byRain_89 : decode cX7_byRain 89 = .ok (.i2l, 1) := by decide +kernel
theorem dX7_byRain_90 : decode cX7_byRain 90 = .ok (.goto 8, 3) := by decide +kernel
theorem dX7_byRain_93 : decode cX7_byRain 93 = .ok (.bipush 10, 2) := by decide +kernel
theorem dX7_byRain_95 : decode cX7_byRain 95 = .ok (.iload_n 1, 1) := by decide +kernel
theorem dX7_byRain_96 : decode cX7_byRain 96 = .ok (.isub, 1) := by decide +kernel
theorem dX7_byRain_97 : decode cX7_byRain 97 = .ok (.i2l, 1) := by decide +kernel
theorem dX7_byRain_98 : decode cX7_byRain 98 = .ok (.lmul, 1) := by decide +kernel
theorem dX7_byRain_99 : decode cX7_byRain 99 = .ok (.lstore 10, 2) := by decide +kernel
theorem dX7_byRain_101 : decode cX7_byRain 101 = .ok (.aload_n 0, 1) := by decide +kernel
theorem dX7_byRain_102 : decode cX7_byRain 102 = .ok (.sipush 168, 3) := by decide +kernel
theorem dX7_byRain_105 : decode cX7_byRain 105 = .ok (.iload 14, 2) := by decide +kernel
theorem dX7_byRain_107 : decode cX7_byRain 107 = .ok (.invokevirtual 191, 3) := by decide +kernel
theorem dX7_byRain_110 : decode cX7_byRain 110 = .ok (.iload 12, 2) := by decide +kernel
theorem dX7_byRain_112 : decode cX7_byRain 112 = .ok (.aload_n 0, 1) := by decide +kernel
theorem dX7_byRain_113 : decode cX7_byRain 113 = .ok (.getfield 142, 3) := by decide +kernel
theorem dX7_byRain_116 : decode cX7_byRain 116 = .ok (.bipush (-4), 2) := by decide +kernel
theorem dX7_byRain_118 : decode cX7_byRain 118 = .ok (.if_icmp .ne 7, 3) := by decide +kernel
theorem dX7_byRain_121 : decode cX7_byRain 121 = .ok (.iconst 0, 1) := by decide +kernel
theorem dX7_byRain_122 : decode cX7_byRain 122 = .ok (.goto 9, 3) := by decide +kernel
theorem dX7_byRain_125 : decode cX7_byRain 125 = .ok (.iconst 1, 1) := by decide +kernel
theorem dX7_byRain_126 : decode cX7_byRain 126 = .ok (.aload_n 0, 1) := by decide +kernel
theorem dX7_byRain_127 : decode cX7_byRain 127 = .ok (.getfield 142, 3) := by decide +kernel
theorem dX7_byRain_130 : decode cX7_byRain 130 = .ok (.ishl, 1) := by decide +kernel
theorem dX7_byRain_131 : decode cX7_byRain 131 = .ok (.ior, 1) := by decide +kernel
theorem dX7_byRain_132 : decode cX7_byRain 132 = .ok (.istore 12, 2) := by decide +kernel
theorem dX7_byRain_134 : decode cX7_byRain 134 = .ok (.iinc 13 1, 3) := by decide +kernel
theorem dX7_byRain_137 : decode cX7_byRain 137 = .ok (.goto (-80), 3) := by decide +kernel
theorem dX7_byRain_140 : decode cX7_byRain 140 = .ok (.lload 5, 2) := by decide +kernel
theorem dX7_byRain_142 : decode cX7_byRain 142 = .ok (.lload 10, 2) := by decide +kernel
theorem dX7_byRain_144 : decode cX7_byRain 144 = .ok (.iload_n 2, 1) := by decide +kernel
theorem dX7_byRain_145 : decode cX7_byRain 145 = .ok (.bipush (-4), 2) := by decide +kernel
theorem dX7_byRain_147 : decode cX7_byRain 147 = .ok (.if_icmp .ne 13, 3) := by decide +kernel
theorem dX7_byRain_150 : decode cX7_byRain 150 = .ok (.aload_n 0, 1) := by decide +kernel
theorem dX7_byRain_151 : decode cX7_byRain 151 = .ok (.sipush 168, 3) := by decide +kernel
theorem dX7_byRain_154 : decode cX7_byRain 154 = .ok (.invokevirtual 164, 3) := by decide +kernel
theorem dX7_byRain_157 : decode cX7_byRain 157 = .ok (.goto 9, 3) := by decide +kernel
theorem dX7_byRain_160 : decode cX7_byRain 160 = .ok (.iload 12, 2) := by decide +kernel
theorem dX7_byRain_162 : decode cX7_byRain 162 = .ok (.iload_n 2, 1) := by decide +kernel
theorem dX7_byRain_163 : decode cX7_byRain 163 = .ok (.ishr, 1) := by decide +kernel
theorem dX7_byRain_164 : decode cX7_byRain 164 = .ok (.iconst 1, 1) := by decide +kernel
theorem dX7_byRain_165 : decode cX7_byRain 165 = .ok (.iand, 1) := by decide +kernel
theorem dX7_byRain_166 : decode cX7_byRain 166 = .ok (.i2l, 1) := by decide +kernel
theorem dX7_byRain_167 : decode cX7_byRain 167 = .ok (.lmul, 1) := by decide +kernel
theorem dX7_byRain_168 : decode cX7_byRain 168 = .ok (.ladd, 1) := by decide +kernel
theorem dX7_byRain_169 : decode cX7_byRain 169 = .ok (.lstore 5, 2) := by decide +kernel
theorem dX7_byRain_171 : decode cX7_byRain 171 = .ok (.iinc 9 1, 3) := by decide +kernel
theorem dX7_byRain_174 : decode cX7_byRain 174 = .ok (.goto (-142), 3) := by decide +kernel
theorem dX7_byRain_177 : decode cX7_byRain 177 = .ok (.lload 5, 2) := by decide +kernel
theorem dX7_byRain_179 : decode cX7_byRain 179 = .ok (.lload 7, 2) := by decide +kernel
theorem dX7_byRain_181 : decode cX7_byRain 181 = .ok (.iload 4, 2) := by decide +kernel
theorem dX7_byRain_183 : decode cX7_byRain 183 = .ok (.invokestatic 217, 3) := by decide +kernel
theorem dX7_byRain_186 : decode cX7_byRain 186 = .ok (.lreturn, 1) := by decide +kernel
theorem dX7_luck_0 : decode cX7_luck 0 = .ok (.iload_n 1, 1) := by decide +kernel
theorem dX7_luck_1 : decode cX7_luck 1 = .ok (.i2l, 1) := by decide +kernel
theorem dX7_luck_2 : decode cX7_luck 2 = .ok (.lconst 0, 1) := by decide +kernel
theorem dX7_luck_3 : decode cX7_luck 3 = .ok (.ldc2_w 209, 3) := by decide +kernel
theorem dX7_luck_6 : decode cX7_luck 6 = .ok (.invokestatic 53, 3) := by decide +kernel
theorem dX7_luck_9 : decode cX7_luck 9 = .ok (.ifCond .eq 46, 3) := by decide +kernel
theorem dX7_luck_12 : decode cX7_luck 12 = .ok (.aload_n 0, 1) := by decide +kernel
theorem dX7_luck_13 : decode cX7_luck 13 = .ok (.iload_n 2, 1) := by decide +kernel
theorem dX7_luck_14 : decode cX7_luck 14 = .ok (.invokevirtual 131, 3) := by decide +kernel
theorem dX7_luck_17 : decode cX7_luck 17 = .ok (.ifCond .eq 38, 3) := by decide +kernel
theorem dX7_luck_20 : decode cX7_luck 20 = .ok (.iload_n 3, 1) := by decide +kernel
theorem dX7_luck_21 : decode cX7_luck 21 = .ok (.i2l, 1) := by decide +kernel
theorem dX7_luck_22 : decode cX7_luck 22 = .ok (.lconst 0, 1) := by decide +kernel
theorem dX7_luck_23 : decode cX7_luck 23 = .ok (.ldc2_w 221, 3) := by decide +kernel
theorem dX7_luck_26 : decode cX7_luck 26 = .ok (.invokestatic 53, 3) := by decide +kernel
theorem dX7_luck_29 : decode cX7_luck 29 = .ok (.ifCond .eq 26, 3) := by decide +kernel
theorem dX7_luck_32 : decode cX7_luck 32 = .ok (.iload 4, 2) := by decide +kernel
theorem dX7_luck_34 : decode cX7_luck 34 = .ok (.i2l, 1) := by decide +kernel
theorem dX7_luck_35 : decode cX7_luck 35 = .ok (.lconst 0, 1) := by decide +kernel
theorem dX7_luck_36 : decode cX7_luck 36 = .ok (.lconst 1, 1) := by decide +kernel
theorem dX7_luck_37 : decode cX7_luck 37 = .ok (.invokestatic 53, 3) := by decide +kernel
theorem dX7_luck_40 : decode cX7_luck 40 = .ok (.ifCond .eq 15, 3) := by decide +kernel
theorem dX7_luck_43 : decode cX7_luck 43 = .ok (.aload_n 0, 1) := by decide +kernel
theorem dX7_luck_44 : decode cX7_luck 44 = .ok (.iload_n 1, 1) := by decide +kernel
theorem dX7_luck_45 : decode cX7_luck 45 = .ok (.iload_n 2, 1) := by decide +kernel
theorem dX7_luck_46 : decode cX7_luck 46 = .ok (.iload_n 3, 1) := by decide +kernel
theorem dX7_luck_47 : decode cX7_luck 47 = .ok (.iload 4, 2) := by decide +kernel
theorem dX7_luck_49 : decode cX7_luck 49 = .ok (.invokevirtual 223, 3) := by decide +kernel
theorem dX7_luck_52 : decode cX7_luck 52 = .ok (.goto 6, 3) := by decide +kernel
theorem dX7_luck_55 : decode cX7_luck 55 = .ok (.ldc2_w 227, 3) := by decide +kernel
theorem dX7_luck_58 : decode cX7_luck 58 = .ok (.lreturn, 1) := by decide +kernel
theorem dX7_mean_0 : decode cX7_mean 0 = .ok (.iload_n 1, 1) := by decide +kernel
theorem dX7_mean_1 : decode cX7_mean 1 = .ok (.i2l, 1) := by decide +kernel
theorem dX7_mean_2 : decode cX7_mean 2 = .ok (.lconst 0, 1) := by decide +kernel
theorem dX7_mean_3 : decode cX7_mean 3 = .ok (.ldc2_w 209, 3) := by decide +kernel
theorem dX7_mean_6 : decode cX7_mean 6 = .ok (.invokestatic 53, 3) := by decide +kernel
theorem dX7_mean_9 : decode cX7_mean 9 = .ok (.ifCond .eq 37, 3) := by decide +kernel
theorem dX7_mean_12 : decode cX7_mean 12 = .ok (.iload_n 2, 1) := by decide +kernel
theorem dX7_mean_13 : decode cX7_mean 13 = .ok (.i2l, 1) := by decide +kernel
theorem dX7_mean_14 : decode cX7_mean 14 = .ok (.lconst 0, 1) := by decide +kernel
theorem dX7_mean_15 : decode cX7_mean 15 = .ok (.ldc2_w 221, 3) := by decide +kernel
theorem dX7_mean_18 : decode cX7_mean 18 = .ok (.invokestatic 53, 3) := by decide +kernel
theorem dX7_mean_21 : decode cX7_mean 21 = .ok (.ifCond .eq 25, 3) := by decide +kernel
theorem dX7_mean_24 : decode cX7_mean 24 = .ok (.iload_n 3, 1) := by decide +kernel
theorem dX7_mean_25 : decode cX7_mean 25 = .ok (.i2l, 1) := by decide +kernel
theorem dX7_mean_26 : decode cX7_mean 26 = .ok (.lconst 0, 1) := by decide +kernel
theorem dX7_mean_27 : decode cX7_mean 27 = .ok (.lconst 1, 1) := by decide +kernel
theorem dX7_mean_28 : decode cX7_mean 28 = .ok (.invokestatic 53, 3) := by decide +kernel
theorem dX7_mean_31 : decode cX7_mean 31 = .ok (.ifCond .eq 15, 3) := by decide +kernel
theorem dX7_mean_34 : decode cX7_mean 34 = .ok (.aload_n 0, 1) := by decide +kernel
theorem dX7_mean_35 : decode cX7_mean 35 = .ok (.iload_n 1, 1) := by decide +kernel
theorem dX7_mean_36 : decode cX7_mean 36 = .ok (.bipush (-4), 2) := by decide +kernel
theorem dX7_mean_38 : decode cX7_mean 38 = .ok (.iload_n 2, 1) := by decide +kernel
theorem dX7_mean_39 : decode cX7_mean 39 = .ok (.iload_n 3, 1) := by decide +kernel
theorem dX7_mean_40 : decode cX7_mean 40 = .ok (.invokevirtual 223, 3) := by decide +kernel
theorem dX7_mean_43 : decode cX7_mean 43 = .ok (.goto 6, 3) := by decide +kernel
theorem dX7_mean_46 : decode cX7_mean 46 = .ok (.ldc2_w 227, 3) := by decide +kernel
theorem dX7_mean_49 : decode cX7_mean 49 = .ok (.lreturn, 1) := by decide +kernel
theorem dX7_see_0 : decode cX7_see 0 = .ok (.iload_n 1, 1) := by decide +kernel
theorem dX7_see_1 : decode cX7_see 1 = .ok (.i2l, 1) := by decide +kernel
theorem dX7_see_2 : decode cX7_see 2 = .ok (.lconst 0, 1) := by decide +kernel
theorem dX7_see_3 : decode cX7_see 3 = .ok (.ldc2_w 180, 3) := by decide +kernel
theorem dX7_see_6 : decode cX7_see 6 = .ok (.invokestatic 53, 3) := by decide +kernel
theorem dX7_see_9 : decode cX7_see 9 = .ok (.ifCond .eq 17, 3) := by decide +kernel
theorem dX7_see_12 : decode cX7_see 12 = .ok (.aload_n 0, 1) := by decide +kernel
theorem dX7_see_13 : decode cX7_see 13 = .ok (.iload_n 2, 1) := by decide +kernel
theorem dX7_see_14 : decode cX7_see 14 = .ok (.invokevirtual 131, 3) := by decide +kernel
theorem dX7_see_17 : decode cX7_see 17 = .ok (.ifCond .ne 11, 3) := by decide +kernel
theorem dX7_see_20 : decode cX7_see 20 = .ok (.iload_n 2, 1) := by decide +kernel
theorem dX7_see_21 : decode cX7_see 21 = .ok (.bipush 9, 2) := by decide +kernel
theorem dX7_see_23 : decode cX7_see 23 = .ok (.if_icmp .eq 5, 3) := by decide +kernel
theorem dX7_see_26 : decode cX7_see 26 = .ok (.iconst (-1), 1) := by decide +kernel
theorem dX7_see_27 : decode cX7_see 27 = .ok (.ireturn, 1) := by decide +kernel
theorem dX7_see_28 : decode cX7_see 28 = .ok (.aload_n 0, 1) := by decide +kernel
theorem dX7_see_29 : decode cX7_see 29 = .ok (.getfield 128, 3) := by decide +kernel
theorem dX7_see_32 : decode cX7_see 32 = .ok (.bipush 6, 2) := by decide +kernel
theorem dX7_see_34 : decode cX7_see 34 = .ok (.if_icmp .ne 6, 3) := by decide +kernel
theorem dX7_see_37 : decode cX7_see 37 = .ok (.bipush (-3), 2) := by decide +kernel
theorem dX7_see_39 : decode cX7_see 39 = .ok (.ireturn, 1) := by decide +kernel
theorem dX7_see_40 : decode cX7_see 40 = .ok (.aload_n 0, 1) := by decide +kernel
theorem dX7_see_41 : decode cX7_see 41 = .ok (.getfield 32, 3) := by decide +kernel
theorem dX7_see_44 : decode cX7_see 44 = .ok (.iconst 2, 1) := by decide +kernel
theorem dX7_see_45 : decode cX7_see 45 = .ok (.aload_n 0, 1) := by decide +kernel
theorem dX7_see_46 : decode cX7_see 46 = .ok (.getfield 128, 3) := by decide +kernel
theorem dX7_see_49 : decode cX7_see 49 = .ok (.imul, 1) := by decide +kernel
theorem dX7_see_50 : decode cX7_see 50 = .ok (.iload_n 1, 1) := by decide +kernel
theorem dX7_see_51 : decode cX7_see 51 = .ok (.iastore, 1) := by decide +kernel
theorem dX7_see_52 : decode cX7_see 52 = .ok (.aload_n 0, 1) := by decide +kernel
theorem dX7_see_53 : decode cX7_see 53 = .ok (.getfield 32, 3) := by decide +kernel
theorem dX7_see_56 : decode cX7_see 56 = .ok (.iconst 2, 1) := by decide +kernel
theorem dX7_see_57 : decode cX7_see 57 = .ok (.aload_n 0, 1) := by decide +kernel
theorem dX7_see_58 : decode cX7_see 58 = .ok (.getfield 128, 3) := by decide +kernel
theorem dX7_see_61 : decode cX7_see 61 = .ok (.imul, 1) := by decide +kernel
theorem dX7_see_62 : decode cX7_see 62 = .ok (.iconst 1, 1) := by decide +kernel
theorem dX7_see_63 : decode cX7_see 63 = .ok (.iadd, 1) := by decide +kernel
theorem dX7_see_64 : decode cX7_see 64 = .ok (.iload_n 2, 1) := by decide +kernel
theorem dX7_see_65 : decode cX7_see 65 = .ok (.iastore, 1) := by decide +kernel
theorem dX7_see_66 : decode cX7_see 66 = .ok (.aload_n 0, 1) := by decide +kernel
theorem dX7_see_67 : decode cX7_see 67 = .ok (.dup, 1) := by decide +kernel
theorem dX7_see_68 : decode cX7_see 68 = .ok (.getfield 128, 3) := by decide +kernel
theorem dX7_see_71 : decode cX7_see 71 = .ok (.iconst 1, 1) := by decide +kernel
theorem dX7_see_72 : decode cX7_see 72 = .ok (.iadd, 1) := by decide +kernel
theorem dX7_see_73 : decode cX7_see 73 = .ok (.putfield 128, 3) := by decide +kernel
theorem dX7_see_76 : decode cX7_see 76 = .ok (.aload_n 0, 1) := by decide +kernel
theorem dX7_see_77 : decode cX7_see 77 = .ok (.getfield 128, 3) := by decide +kernel
theorem dX7_see_80 : decode cX7_see 80 = .ok (.ireturn, 1) := by decide +kernel
theorem dX7_forget_0 : decode cX7_forget 0 = .ok (.iload_n 1, 1) := by decide +kernel
theorem dX7_forget_1 : decode cX7_forget 1 = .ok (.i2l, 1) := by decide +kernel
theorem dX7_forget_2 : decode cX7_forget 2 = .ok (.lconst 0, 1) := by decide +kernel
theorem dX7_forget_3 : decode cX7_forget 3 = .ok (.aload_n 0, 1) := by decide +kernel
theorem dX7_forget_4 : decode cX7_forget 4 = .ok (.getfield 128, 3) := by decide +kernel
theorem dX7_forget_7 : decode cX7_forget 7 = .ok (.i2l, 1) := by decide +kernel
theorem dX7_forget_8 : decode cX7_forget 8 = .ok (.invokestatic 53, 3) := by decide +kernel
theorem dX7_forget_11 : decode cX7_forget 11 = .ok (.ifCond .ne 5, 3) := by decide +kernel
theorem dX7_forget_14 : decode cX7_forget 14 = .ok (.iconst (-1), 1) := by decide +kernel
theorem dX7_forget_15 : decode cX7_forget 15 = .ok (.ireturn, 1) := by decide +kernel
theorem dX7_forget_16 : decode cX7_forget 16 = .ok (.aload_n 0, 1) := by decide +kernel
theorem dX7_forget_17 : decode cX7_forget 17 = .ok (.getfield 128, 3) := by decide +kernel
theorem dX7_forget_20 : decode cX7_forget 20 = .ok (.istore_n 2, 1) := by decide +kernel
theorem dX7_forget_21 : decode cX7_forget 21 = .ok (.aload_n 0, 1) := by decide +kernel
theorem dX7_forget_22 : decode cX7_forget 22 = .ok (.iload_n 1, 1) := by decide +kernel
theorem dX7_forget_23 : decode cX7_forget 23 = .ok (.putfield 128, 3) := by decide +kernel
theorem dX7_forget_26 : decode cX7_forget 26 = .ok (.iload_n 2, 1) := by decide +kernel
theorem dX7_forget_27 : decode cX7_forget 27 = .ok (.ireturn, 1) := by decide +kernel
theorem dX7_isAsSeen_0 : decode cX7_isAsSeen 0 = .ok (.aload_n 0, 1) := by decide +kernel
theorem dX7_isAsSeen_1 : decode cX7_isAsSeen 1 = .ok (.iconst 0, 1) := by decide +kernel
theorem dX7_isAsSeen_2 : decode cX7_isAsSeen 2 = .ok (.sipush 168, 3) := by decide +kernel
theorem dX7_isAsSeen_5 : decode cX7_isAsSeen 5 = .ok (.invokevirtual 195, 3) := by decide +kernel
theorem dX7_isAsSeen_8 : decode cX7_isAsSeen 8 = .ok (.iconst 1, 1) := by decide +kernel
theorem dX7_isAsSeen_9 : decode cX7_isAsSeen 9 = .ok (.istore_n 2, 1) := by decide +kernel
theorem dX7_isAsSeen_10 : decode cX7_isAsSeen 10 = .ok (.iconst 0, 1) := by decide +kernel
theorem dX7_isAsSeen_11 : decode cX7_isAsSeen 11 = .ok (.istore_n 3, 1) := by decide +kernel
theorem dX7_isAsSeen_12 : decode cX7_isAsSeen 12 = .ok (.iload_n 3, 1) := by decide +kernel
theorem dX7_isAsSeen_13 : decode cX7_isAsSeen 13 = .ok (.bipush 20, 2) := by decide +kernel
theorem dX7_isAsSeen_15 : decode cX7_isAsSeen 15 = .ok (.if_icmp .gt 107, 3) := by decide +kernel
theorem dX7_isAsSeen_18 : decode cX7_isAsSeen 18 = .ok (.aload_n 0, 1) := by decide +kernel
theorem dX7_isAsSeen_19 : decode cX7_isAsSeen 19 = .ok (.sipush 168, 3) := by decide +kernel
theorem dX7_isAsSeen_22 : decode cX7_isAsSeen 22 = .ok (.iconst 0, 1) := by decide +kernel
theorem dX7_isAsSeen_23 : decode cX7_isAsSeen 23 = .ok (.invokevirtual 191, 3) := by decide +kernel
theorem dX7_isAsSeen_26 : decode cX7_isAsSeen 26 = .ok (.aload_n 0, 1) := by decide +kernel
theorem dX7_isAsSeen_27 : decode cX7_isAsSeen 27 = .ok (.getfield 142, 3) := by decide +kernel
theorem dX7_isAsSeen_30 : decode cX7_isAsSeen 30 = .ok (.bipush (-4), 2) := by decide +kernel
theorem dX7_isAsSeen_32 : decode cX7_isAsSeen 32 = .ok (.if_icmp .ne 8, 3) := by decide +kernel
theorem dX7_isAsSeen_35 : decode cX7_isAsSeen 35 = .ok (.bipush 9, 2) := by decide +kernel
theorem dX7_isAsSeen_37 : decode cX7_isAsSeen 37 = .ok (.goto 7, 3) := by decide +kernel
theorem dX7_isAsSeen_40 : decode cX7_isAsSeen 40 = .ok (.aload_n 0, 1) := by decide +kernel
theorem dX7_isAsSeen_41 : decode cX7_isAsSeen 41 = .ok (.getfield 142, 3) := by decide +kernel
theorem dX7_isAsSeen_44 : decode cX7_isAsSeen 44 = .ok (.istore 4, 2) := by decide +kernel
theorem dX7_isAsSeen_46 : decode cX7_isAsSeen 46 = .ok (.aload_n 0, 1) := by decide +kernel
theorem dX7_isAsSeen_47 : decode cX7_isAsSeen 47 = .ok (.getfield 35, 3) := by decide +kernel
theorem dX7_isAsSeen_50 : decode cX7_isAsSeen 50 = .ok (.bipush 21, 2) := by decide +kernel
theorem dX7_isAsSeen_52 : decode cX7_isAsSeen 52 = .ok (.iload_n 1, 1) := by decide +kernel
theorem dX7_isAsSeen_53 : decode cX7_isAsSeen 53 = .ok (.imul, 1) := by decide +kernel
theorem dX7_isAsSeen_54 : decode cX7_isAsSeen 54 = .ok (.iload_n 3, 1) := by decide +kernel
theorem dX7_isAsSeen_55 : decode cX7_isAsSeen 55 = .ok (.iadd, 1) := by decide +kernel
theorem dX7_isAsSeen_56 : decode cX7_isAsSeen 56 = .ok (.iload 4, 2) := by decide +kernel
theorem dX7_isAsSeen_58 : decode cX7_isAsSeen 58 = .ok (.iastore, 1) := by decide +kernel
theorem dX7_isAsSeen_59 : decode cX7_isAsSeen 59 = .ok (.iconst 0, 1) := by decide +kernel
theorem dX7_isAsSeen_60 : decode cX7_isAsSeen 60 = .ok (.istore 5, 2) := by decide +kernel
theorem dX7_isAsSeen_62 : decode cX7_isAsSeen 62 = .ok (.iload 5, 2) := by decide +kernel
theorem dX7_isAsSeen_64 : decode cX7_isAsSeen 64 = .ok (.aload_n 0, 1) := by decide +kernel
theorem dX7_isAsSeen_65 : decode cX7_isAsSeen 65 = .ok (.getfield 128, 3) := by decide +kernel
theorem dX7_isAsSeen_68 : decode cX7_isAsSeen 68 = .ok (.if_icmp .ge 48, 3) := by decide +kernel
theorem dX7_isAsSeen_71 : decode cX7_isAsSeen 71 = .ok (.iload_n 2, 1) := by decide +kernel
theorem dX7_isAsSeen_72 : decode cX7_isAsSeen 72 = .ok (.ifCond .eq 36, 3) := by decide +kernel
theorem dX7_isAsSeen_75 : decode cX7_isAsSeen 75 = .ok (.aload_n 0, 1) := by decide +kernel
theorem dX7_isAsSeen_76 : decode cX7_isAsSeen 76 = .ok (.getfield 32, 3) := by decide +kernel
theorem dX7_isAsSeen_79 : decode cX7_isAsSeen 79 = .ok (.iconst 2, 1) := by decide +kernel
theorem dX7_isAsSeen_80 : decode cX7_isAsSeen 80 = .ok (.iload 5, 2) := by decide +kernel
theorem dX7_isAsSeen_82 : decode cX7_isAsSeen 82 = .ok (.imul, 1) := by decide +kernel
theorem dX7_isAsSeen_83 : decode cX7_isAsSeen 83 = .ok (.iaload, 1) := by decide +kernel
theorem dX7_isAsSeen_84 : decode cX7_isAsSeen 84 = .ok (.iload_n 3, 1) := by decide +kernel
theorem dX7_isAsSeen_85 : decode cX7_isAsSeen 85 = .ok (.if_icmp .ne 19, 3) := by decide +kernel
theorem dX7_isAsSeen_88 : decode cX7_isAsSeen 88 = .ok (.iload 4, 2) := by decide +kernel
theorem dX7_isAsSeen_90 : decode cX7_isAsSeen 90 = .ok (.aload_n 0, 1) := by decide +kernel
theorem dX7_isAsSeen_91 : decode cX7_isAsSeen 91 = .ok (.getfield 32, 3) := by decide +kernel
theorem dX7_isAsSeen_94 : decode cX7_isAsSeen 94 = .ok (.iconst 2, 1) := by decide +kernel
theorem dX7_isAsSeen_95 : decode cX7_isAsSeen 95 = .ok (.iload 5, 2) := by decide +kernel
theorem dX7_isAsSeen_97 : decode cX7_isAsSeen 97 = .ok (.imul, 1) := by decide +kernel
theorem dX7_isAsSeen_98 : decode cX7_isAsSeen 98 = .ok (.iconst 1, 1) := by decide +kernel
theorem dX7_isAsSeen_99 : decode cX7_isAsSeen 99 = .ok (.iadd, 1) := by decide +kernel
theorem dX7_isAsSeen_100 : decode cX7_isAsSeen 100 = .ok (.iaload, 1) := by decide +kernel
theorem dX7_isAsSeen_101 : decode cX7_isAsSeen 101 = .ok (.if_icmp .ne 7, 3) := by decide +kernel
theorem dX7_isAsSeen_104 : decode cX7_isAsSeen 104 = .ok (.iconst 1, 1) := by decide +kernel
theorem dX7_isAsSeen_105 : decode cX7_isAsSeen 105 = .ok (.goto 4, 3) := by decide +kernel
theorem dX7_isAsSeen_108 : decode cX7_isAsSeen 108 = .ok (.iconst 0, 1) := by decide +kernel
theorem dX7_isAsSeen_109 : decode cX7_isAsSeen 109 = .ok (.istore_n 2, 1) := by decide +kernel
theorem dX7_isAsSeen_110 : decode cX7_isAsSeen 110 = .ok (.iinc 5 1, 3) := by decide +kernel
theorem dX7_isAsSeen_113 : decode cX7_isAsSeen 113 = .ok (.goto (-51), 3) := by decide +kernel
theorem dX7_isAsSeen_116 : decode cX7_isAsSeen 116 = .ok (.iinc 3 1, 3) := by decide +kernel
theorem dX7_isAsSeen_119 : decode cX7_isAsSeen 119 = .ok (.goto (-107), 3) := by decide +kernel
theorem dX7_isAsSeen_122 : decode cX7_isAsSeen 122 = .ok (.iload_n 2, 1) := by decide +kernel
theorem dX7_isAsSeen_123 : decode cX7_isAsSeen 123 = .ok (.ireturn, 1) := by decide +kernel
theorem dX7_numbersAt_0 : decode cX7_numbersAt 0 = .ok (.aload_n 0, 1) := by decide +kernel
theorem dX7_numbersAt_1 : decode cX7_numbersAt 1 = .ok (.getfield 7, 3) := by decide +kernel
theorem dX7_numbersAt_4 : decode cX7_numbersAt 4 = .ok (.iload_n 1, 1) := by decide +kernel
theorem dX7_numbersAt_5 : decode cX7_numbersAt 5 = .ok (.iaload, 1) := by decide +kernel
theorem dX7_numbersAt_6 : decode cX7_numbersAt 6 = .ok (.istore_n 3, 1) := by decide +kernel
theorem dX7_numbersAt_7 : decode cX7_numbersAt 7 = .ok (.iconst 0, 1) := by decide +kernel
theorem dX7_numbersAt_8 : decode cX7_numbersAt 8 = .ok (.istore 4, 2) := by decide +kernel
theorem dX7_numbersAt_10 : decode cX7_numbersAt 10 = .ok (.iconst 0, 1) := by decide +kernel
theorem dX7_numbersAt_11 : decode cX7_numbersAt 11 = .ok (.istore 5, 2) := by decide +kernel
theorem dX7_numbersAt_13 : decode cX7_numbersAt 13 = .ok (.iload 5, 2) := by decide +kernel
theorem dX7_numbersAt_15 : decode cX7_numbersAt 15 = .ok (.iload_n 2, 1) := by decide +kernel
theorem dX7_numbersAt_16 : decode cX7_numbersAt 16 = .ok (.if_icmp .gt 39, 3) := by decide +kernel
theorem dX7_numbersAt_19 : decode cX7_numbersAt 19 = .ok (.aload_n 0, 1) := by decide +kernel
theorem dX7_numbersAt_20 : decode cX7_numbersAt 20 = .ok (.getfield 7, 3) := by decide +kernel
theorem dX7_numbersAt_23 : decode cX7_numbersAt 23 = .ok (.iload_n 1, 1) := by decide +kernel
theorem dX7_numbersAt_24 : decode cX7_numbersAt 24 = .ok (.iload 5, 2) := by decide +kernel
theorem dX7_numbersAt_26 : decode cX7_numbersAt 26 = .ok (.iastore, 1) := by decide +kernel
theorem dX7_numbersAt_27 : decode cX7_numbersAt 27 = .ok (.iload 4, 2) := by decide +kernel
theorem dX7_numbersAt_29 : decode cX7_numbersAt 29 = .ok (.aload_n 0, 1) := by decide +kernel
theorem dX7_numbersAt_30 : decode cX7_numbersAt 30 = .ok (.iload 5, 2) := by decide +kernel
theorem dX7_numbersAt_32 : decode cX7_numbersAt 32 = .ok (.invokevirtual 229, 3) := by decide +kernel
theorem dX7_numbersAt_35 : decode cX7_numbersAt 35 = .ok (.ifCond .eq 10, 3) := by decide +kernel
theorem dX7_numbersAt_38 : decode cX7_numbersAt 38 = .ok (.iconst 1, 1) := by decide +kernel
theorem dX7_numbersAt_39 : decode cX7_numbersAt 39 = .ok (.iload 5, 2) := by decide +kernel
theorem dX7_numbersAt_41 : decode cX7_numbersAt 41 = .ok (.ishl, 1) := by decide +kernel
theorem dX7_numbersAt_42 : decode cX7_numbersAt 42 = .ok (.goto 4, 3) := by decide +kernel
theorem dX7_numbersAt_45 : decode cX7_numbersAt 45 = .ok (.iconst 0, 1) := by decide +kernel
theorem dX7_numbersAt_46 : decode cX7_numbersAt 46 = .ok (.ior, 1) := by decide +kernel
theorem dX7_numbersAt_47 : decode cX7_numbersAt 47 = .ok (.istore 4, 2) := by decide +kernel
theorem dX7_numbersAt_49 : decode cX7_numbersAt 49 = .ok (.iinc 5 1, 3) := by decide +kernel
theorem dX7_numbersAt_52 : decode cX7_numbersAt 52 = .ok (.goto (-39), 3) := by decide +kernel
theorem dX7_numbersAt_55 : decode cX7_numbersAt 55 = .ok (.aload_n 0, 1) := by decide +kernel
theorem dX7_numbersAt_56 : decode cX7_numbersAt 56 = .ok (.getfield 7, 3) := by decide +kernel
theorem dX7_numbersAt_59 : decode cX7_numbersAt 59 = .ok (.iload_n 1, 1) := by decide +kernel
theorem dX7_numbersAt_60 : decode cX7_numbersAt 60 = .ok (.iload_n 3, 1) := by decide +kernel
theorem dX7_numbersAt_61 : decode cX7_numbersAt 61 = .ok (.iastore, 1) := by decide +kernel
theorem dX7_numbersAt_62 : decode cX7_numbersAt 62 = .ok (.iload 4, 2) := by decide +kernel
theorem dX7_numbersAt_64 : decode cX7_numbersAt 64 = .ok (.ireturn, 1) := by decide +kernel
theorem dX7_kinds_0 : decode cX7_kinds 0 = .ok (.aload_n 0, 1) := by decide +kernel
theorem dX7_kinds_1 : decode cX7_kinds 1 = .ok (.iload_n 1, 1) := by decide +kernel
theorem dX7_kinds_2 : decode cX7_kinds 2 = .ok (.invokevirtual 131, 3) := by decide +kernel
theorem dX7_kinds_5 : decode cX7_kinds 5 = .ok (.ifCond .eq 12, 3) := by decide +kernel
theorem dX7_kinds_8 : decode cX7_kinds 8 = .ok (.aload_n 0, 1) := by decide +kernel
theorem dX7_kinds_9 : decode cX7_kinds 9 = .ok (.iload_n 1, 1) := by decide +kernel
theorem dX7_kinds_10 : decode cX7_kinds 10 = .ok (.iconst 3, 1) := by decide +kernel
theorem dX7_kinds_11 : decode cX7_kinds 11 = .ok (.invokevirtual 232, 3) := by decide +kernel
theorem dX7_kinds_14 : decode cX7_kinds 14 = .ok (.goto 4, 3) := by decide +kernel
theorem dX7_kinds_17 : decode cX7_kinds 17 = .ok (.iconst (-1), 1) := by decide +kernel
theorem dX7_kinds_18 : decode cX7_kinds 18 = .ok (.ireturn, 1) := by decide +kernel
theorem dX7_strengths_0 : decode cX7_strengths 0 = .ok (.aload_n 0, 1) := by decide +kernel
theorem dX7_strengths_1 : decode cX7_strengths 1 = .ok (.iload_n 1, 1) := by decide +kernel
theorem dX7_strengths_2 : decode cX7_strengths 2 = .ok (.invokevirtual 131, 3) := by decide +kernel
theorem dX7_strengths_5 : decode cX7_strengths 5 = .ok (.ifCond .eq 15, 3) := by decide +kernel
theorem dX7_strengths_8 : decode cX7_strengths 8 = .ok (.aload_n 0, 1) := by decide +kernel
theorem dX7_strengths_9 : decode cX7_strengths 9 = .ok (.iconst 5, 1) := by decide +kernel
theorem dX7_strengths_10 : decode cX7_strengths 10 = .ok (.iload_n 1, 1) := by decide +kernel
theorem dX7_strengths_11 : decode cX7_strengths 11 = .ok (.iadd, 1) := by decide +kernel
theorem dX7_strengths_12 : decode cX7_strengths 12 = .ok (.bipush 20, 2) := by decide +kernel
theorem dX7_strengths_14 : decode cX7_strengths 14 = .ok (.invokevirtual 232, 3) := by decide +kernel
theorem dX7_strengths_17 : decode cX7_strengths 17 = .ok (.goto 4, 3) := by decide +kernel
theorem dX7_strengths_20 : decode cX7_strengths 20 = .ok (.iconst (-1), 1) := by decide +kernel
theorem dX7_strengths_21 : decode cX7_strengths 21 = .ok (.ireturn, 1) := by decide +kernel
theorem dX7_ask_0 : decode cX7_ask 0 = .ok (.aload_n 0, 1) := by decide +kernel
theorem dX7_ask_1 : decode cX7_ask 1 = .ok (.iload_n 1, 1) := by decide +kernel
theorem dX7_ask_2 : decode cX7_ask 2 = .ok (.invokevirtual 131, 3) := by decide +kernel
theorem dX7_ask_5 : decode cX7_ask 5 = .ok (.ifCond .eq 13, 3) := by decide +kernel
theorem dX7_ask_8 : decode cX7_ask 8 = .ok (.iload_n 2, 1) := by decide +kernel
theorem dX7_ask_9 : decode cX7_ask 9 = .ok (.i2l, 1) := by decide +kernel
theorem dX7_ask_10 : decode cX7_ask 10 = .ok (.lconst 0, 1) := by decide +kernel
theorem dX7_ask_11 : decode cX7_ask 11 = .ok (.lconst 1, 1) := by decide +kernel
theorem dX7_ask_12 : decode cX7_ask 12 = .ok (.invokestatic 53, 3) := by decide +kernel
theorem dX7_ask_15 : decode cX7_ask 15 = .ok (.ifCond .ne 5, 3) := by decide +kernel
theorem dX7_ask_18 : decode cX7_ask 18 = .ok (.iconst (-1), 1) := by decide +kernel
theorem dX7_ask_19 : decode cX7_ask 19 = .ok (.ireturn, 1) := by decide +kernel
theorem dX7_ask_20 : decode cX7_ask 20 = .ok (.aload_n 0, 1) := by decide +kernel
theorem dX7_ask_21 : decode cX7_ask 21 = .ok (.iconst 5, 1) := by decide +kernel
theorem dX7_ask_22 : decode cX7_ask 22 = .ok (.iload_n 1, 1) := by decide +kernel
theorem dX7_ask_23 : decode cX7_ask 23 = .ok (.iadd, 1) := by decide +kernel
theorem dX7_ask_24 : decode cX7_ask 24 = .ok (.bipush 20, 2) := by decide +kernel
theorem dX7_ask_26 : decode cX7_ask 26 = .ok (.invokevirtual 232, 3) := by decide +kernel
theorem dX7_ask_29 : decode cX7_ask 29 = .ok (.istore_n 3, 1) := by decide +kernel
theorem dX7_ask_30 : decode cX7_ask 30 = .ok (.iconst 0, 1) := by decide +kernel
theorem dX7_ask_31 : decode cX7_ask 31 = .ok (.istore 4, 2) := by decide +kernel
theorem dX7_ask_33 : decode cX7_ask 33 = .ok (.iconst 0, 1) := by decide +kernel
theorem dX7_ask_34 : decode cX7_ask 34 = .ok (.istore 5, 2) := by decide +kernel
theorem dX7_ask_36 : decode cX7_ask 36 = .ok (.iload 5, 2) := by decide +kernel
theorem dX7_ask_38 : decode cX7_ask 38 = .ok (.bipush 20, 2) := by decide +kernel
theorem dX7_ask_40 : decode cX7_ask 40 = .ok (.if_icmp .gt 20, 3) := by decide +kernel
theorem dX7_ask_43 : decode cX7_ask 43 = .ok (.iload 4, 2) := by decide +kernel
theorem dX7_ask_45 : decode cX7_ask 45 = .ok (.iload_n 3, 1) := by decide +kernel
theorem dX7_ask_46 : decode cX7_ask 46 = .ok (.iload 5, 2) := by decide +kernel
theorem dX7_ask_48 : decode cX7_ask 48 = .ok (.ishr, 1) := by decide +kernel
theorem dX7_ask_49 : decode cX7_ask 49 = .ok (.iconst 1, 1) := by decide +kernel
theorem dX7_ask_50 : decode cX7_ask 50 = .ok (.iand, 1) := by decide +kernel
theorem dX7_ask_51 : decode cX7_ask 51 = .ok (.iadd, 1) := by decide +kernel
theorem dX7_ask_52 : decode cX7_ask 52 = .ok (.istore 4, 2) := by decide +kernel
theorem dX7_ask_54 : decode cX7_ask 54 = .ok (.iinc 5 1, 3) := by decide +kernel
theorem dX7_ask_57 : decode cX7_ask 57 = .ok (.goto (-21), 3) := by decide +kernel
theorem dX7_ask_60 : decode cX7_ask 60 = .ok (.bipush (-4), 2) := by decide +kernel
theorem dX7_ask_62 : decode cX7_ask 62 = .ok (.istore 5, 2) := by decide +kernel
theorem dX7_ask_64 : decode cX7_ask 64 = .ok (.iconst 0, 1) := by decide +kernel
theorem dX7_ask_65 : decode cX7_ask 65 = .ok (.istore 6, 2) := by decide +kernel
theorem dX7_ask_67 : decode cX7_ask 67 = .ok (.iload 6, 2) := by decide +kernel
theorem dX7_ask_69 : decode cX7_ask 69 = .ok (.bipush 20, 2) := by decide +kernel
theorem dX7_ask_71 : decode cX7_ask 71 = .ok (.if_icmp .gt 133, 3) := by decide +kernel
theorem dX7_ask_74 : decode cX7_ask 74 = .ok (.iconst 0, 1) := by decide +kernel
theorem dX7_ask_75 : decode cX7_ask 75 = .ok (.istore 7, 2) := by decide +kernel
theorem dX7_ask_77 : decode cX7_ask 77 = .ok (.iconst 0, 1) := by decide +kernel
theorem dX7_ask_78 : decode cX7_ask 78 = .ok (.istore 8, 2) := by decide +kernel
theorem dX7_ask_80 : decode cX7_ask 80 = .ok (.iload 8, 2) := by decide +kernel
theorem dX7_ask_82 : decode cX7_ask 82 = .ok (.bipush 9, 2) := by decide +kernel
theorem dX7_ask_84 : decode cX7_ask 84 = .ok (.if_icmp .gt 82, 3) := by decide +kernel
theorem dX7_ask_87 : decode cX7_ask 87 = .ok (.iconst 0, 1) := by decide +kernel
theorem dX7_ask_88 : decode cX7_ask 88 = .ok (.istore 9, 2) := by decide +kernel
theorem dX7_ask_90 : decode cX7_ask 90 = .ok (.iconst 0, 1) := by decide +kernel
theorem dX7_ask_91 : decode cX7_ask 91 = .ok (.istore 10, 2) := by decide +kernel
theorem dX7_ask_93 : decode cX7_ask 93 = .ok (.iload 10, 2) := by decide +kernel
theorem dX7_ask_95 : decode cX7_ask 95 = .ok (.bipush 20, 2) := by decide +kernel
theorem dX7_ask_97 : decode cX7_ask 97 = .ok (.if_icmp .gt 47, 3) := by decide +kernel
theorem dX7_ask_100 : decode cX7_ask 100 = .ok (.iload 9, 2) := by decide +kernel
theorem dX7_ask_102 : decode cX7_ask 102 = .ok (.iload_n 3, 1) := by decide +kernel
theorem dX7_ask_103 : decode cX7_ask 103 = .ok (.iload 10, 2) := by decide +kernel
theorem dX7_ask_105 : decode cX7_ask 105 = .ok (.ishr, 1) := by decide +kernel
theorem dX7_ask_106 : decode cX7_ask 106 = .ok (.iconst 1, 1) := by decide +kernel
theorem dX7_ask_107 : decode cX7_ask 107 = .ok (.iand, 1) := by decide +kernel
theorem dX7_ask_108 : decode cX7_ask 108 = .ok (.iconst 1, 1) := by decide +kernel
theorem dX7_ask_109 : decode cX7_ask 109 = .ok (.if_icmp .ne 25, 3) := by decide +kernel
theorem dX7_ask_112 : decode cX7_ask 112 = .ok (.aload_n 0, 1) := by decide +kernel
theorem dX7_ask_113 : decode cX7_ask 113 = .ok (.getfield 35, 3) := by decide +kernel
theorem dX7_ask_116 : decode cX7_ask 116 = .ok (.bipush 21, 2) := by decide +kernel
theorem dX7_ask_118 : decode cX7_ask 118 = .ok (.iload 10, 2) := by decide +kernel
theorem dX7_ask_120 : decode cX7_ask 120 = .ok (.imul, 1) := by decide +kernel
theorem dX7_ask_121 : decode cX7_ask 121 = .ok (.iload 6, 2) := by decide +kernel
theorem dX7_ask_123 : decode cX7_ask 123 = .ok (.iadd, 1) := by decide +kernel
theorem dX7_ask_124 : decode cX7_ask 124 = .ok (.iaload, 1) := by decide +kernel
theorem dX7_ask_125 : decode cX7_ask 125 = .ok (.iload 8, 2) := by decide +kernel
theorem dX7_ask_127 : decode cX7_ask 127 = .ok (.if_icmp .ne 7, 3) := by decide +kernel
theorem dX7_ask_130 : decode cX7_ask 130 = .ok (.iconst 1, 1) := by decide +kernel
theorem dX7_ask_131 : decode cX7_ask 131 = .ok (.goto 4, 3) := by decide +kernel
theorem dX7_ask_134 : decode cX7_ask 134 = .ok (.iconst 0, 1) := by decide +kernel
theorem dX7_ask_135 : decode cX7_ask 135 = .ok (.iadd, 1) := by decide +kernel
theorem dX7_ask_136 : decode cX7_ask 136 = .ok (.istore 9, 2) := by decide +kernel
theorem dX7_ask_138 : decode cX7_ask 138 = .ok (.iinc 10 1, 3) := by decide +kernel
theorem dX7_ask_141 : decode cX7_ask 141 = .ok (.goto (-48), 3) := by decide +kernel
theorem dX7_ask_144 : decode cX7_ask 144 = .ok (.iload 9, 2) := by decide +kernel
theorem dX7_ask_146 : decode cX7_ask 146 = .ok (.iload 7, 2) := by decide +kernel
theorem dX7_ask_148 : decode cX7_ask 148 = .ok (.if_icmp .le 8, 3) := by decide +kernel
theorem dX7_ask_151 : decode cX7_ask 151 = .ok (.iload 9, 2) := by decide +kernel
theorem dX7_ask_153 : decode cX7_ask 153 = .ok (.goto 5, 3) := by decide +kernel
theorem dX7_ask_156 : decode cX7_ask 156 = .ok (.iload 7, 2) := by decide +kernel
theorem dX7_ask_158 : decode cX7_ask 158 = .ok (.istore 7, 2) := by decide +kernel
theorem dX7_ask_160 : decode cX7_ask 160 = .ok (.iinc 8 1, 3) := by decide +kernel
theorem dX7_ask_163 : decode cX7_ask 163 = .ok (.goto (-83), 3) := by decide +kernel
theorem dX7_ask_166 : decode cX7_ask 166 = .ok (.iload 7, 2) := by decide +kernel
theorem dX7_ask_168 : decode cX7_ask 168 = .ok (.iload 4, 2) := by decide +kernel
theorem dX7_ask_170 : decode cX7_ask 170 = .ok (.if_icmp .ge 8, 3) := by decide +kernel
theorem dX7_ask_173 : decode cX7_ask 173 = .ok (.iload 6, 2) := by decide +kernel
theorem dX7_ask_175 : decode cX7_ask 175 = .ok (.goto 5, 3) := by decide +kernel
theorem dX7_ask_178 : decode cX7_ask 178 = .ok (.iload 5, 2) := by decide +kernel
theorem dX7_ask_180 : decode cX7_ask 180 = .ok (.istore 5, 2) := by decide +kernel
theorem dX7_ask_182 : decode cX7_ask 182 = .ok (.iload 7, 2) := by decide +kernel
theorem dX7_ask_184 : decode cX7_ask 184 = .ok (.iload 4, 2) := by decide +kernel
theorem dX7_ask_186 : decode cX7_ask 186 = .ok (.if_icmp .ge 8, 3) := by decide +kernel
theorem dX7_ask_189 : decode cX7_ask 189 = .ok (.iload 7, 2) := by decide +kernel
theorem dX7_ask_191 : decode cX7_ask 191 = .ok (.goto 5, 3) := by decide +kernel
theorem dX7_ask_194 : decode cX7_ask 194 = .ok (.iload 4, 2) := by decide +kernel
theorem dX7_ask_196 : decode cX7_ask 196 = .ok (.istore 4, 2) := by decide +kernel
theorem dX7_ask_198 : decode cX7_ask 198 = .ok (.iinc 6 1, 3) := by decide +kernel
theorem dX7_ask_201 : decode cX7_ask 201 = .ok (.goto (-134), 3) := by decide +kernel
theorem dX7_ask_204 : decode cX7_ask 204 = .ok (.iload 5, 2) := by decide +kernel
theorem dX7_ask_206 : decode cX7_ask 206 = .ok (.bipush (-4), 2) := by decide +kernel
theorem dX7_ask_208 : decode cX7_ask 208 = .ok (.if_icmp .eq 7, 3) := by decide +kernel
theorem dX7_ask_211 : decode cX7_ask 211 = .ok (.iload_n 2, 1) := by decide +kernel
theorem dX7_ask_212 : decode cX7_ask 212 = .ok (.ifCond .ne 8, 3) := by decide +kernel
theorem dX7_ask_215 : decode cX7_ask 215 = .ok (.iload 5, 2) := by decide +kernel
theorem dX7_ask_217 : decode cX7_ask 217 = .ok (.goto 5, 3) := by decide +kernel
theorem dX7_ask_220 : decode cX7_ask 220 = .ok (.iload 4, 2) := by decide +kernel
theorem dX7_ask_222 : decode cX7_ask 222 = .ok (.ireturn, 1) := by decide +kernel
theorem dX7_drift_0 : decode cX7_drift 0 = .ok (.iload_n 2, 1) := by decide +kernel
theorem dX7_drift_1 : decode cX7_drift 1 = .ok (.i2l, 1) := by decide +kernel
theorem dX7_drift_2 : decode cX7_drift 2 = .ok (.lconst 1, 1) := by decide +kernel
theorem dX7_drift_3 : decode cX7_drift 3 = .ok (.ldc2_w 199, 3) := by decide +kernel
theorem dX7_drift_6 : decode cX7_drift 6 = .ok (.invokestatic 53, 3) := by decide +kernel
theorem dX7_drift_9 : decode cX7_drift 9 = .ok (.ifCond .eq 13, 3) := by decide +kernel
theorem dX7_drift_12 : decode cX7_drift 12 = .ok (.iload_n 3, 1) := by decide +kernel
theorem dX7_drift_13 : decode cX7_drift 13 = .ok (.i2l, 1) := by decide +kernel
theorem dX7_drift_14 : decode cX7_drift 14 = .ok (.lconst 0, 1) := by decide +kernel
theorem dX7_drift_15 : decode cX7_drift 15 = .ok (.lconst 1, 1) := by decide +kernel
theorem dX7_drift_16 : decode cX7_drift 16 = .ok (.invokestatic 53, 3) := by decide +kernel
theorem dX7_drift_19 : decode cX7_drift 19 = .ok (.ifCond .ne 5, 3) := by decide +kernel
theorem dX7_drift_22 : decode cX7_drift 22 = .ok (.iconst (-1), 1) := by decide +kernel
theorem dX7_drift_23 : decode cX7_drift 23 = .ok (.ireturn, 1) := by decide +kernel
theorem dX7_drift_24 : decode cX7_drift 24 = .ok (.aload_n 0, 1) := by decide +kernel
theorem dX7_drift_25 : decode cX7_drift 25 = .ok (.getfield 125, 3) := by decide +kernel
theorem dX7_drift_28 : decode cX7_drift 28 = .ok (.iconst 2, 1) := by decide +kernel
theorem dX7_drift_29 : decode cX7_drift 29 = .ok (.if_icmp .ge 6, 3) := by decide +kernel
theorem dX7_drift_32 : decode cX7_drift 32 = .ok (.bipush (-2), 2) := by decide +kernel
theorem dX7_drift_34 : decode cX7_drift 34 = .ok (.ireturn, 1) := by decide +kernel
theorem dX7_drift_35 : decode cX7_drift 35 = .ok (.aload_n 0, 1) := by decide +kernel
theorem dX7_drift_36 : decode cX7_drift 36 = .ok (.iconst 0, 1) := by decide +kernel
theorem dX7_drift_37 : decode cX7_drift 37 = .ok (.sipush 168, 3) := by decide +kernel
theorem dX7_drift_40 : decode cX7_drift 40 = .ok (.invokevirtual 195, 3) := by decide +kernel
theorem dX7_drift_43 : decode cX7_drift 43 = .ok (.aload_n 0, 1) := by decide +kernel
theorem dX7_drift_44 : decode cX7_drift 44 = .ok (.iconst 0, 1) := by decide +kernel
theorem dX7_drift_45 : decode cX7_drift 45 = .ok (.putfield 148, 3) := by decide +kernel
theorem dX7_drift_48 : decode cX7_drift 48 = .ok (.iload_n 1, 1) := by decide +kernel
theorem dX7_drift_49 : decode cX7_drift 49 = .ok (.istore 4, 2) := by decide +kernel
theorem dX7_drift_51 : decode cX7_drift 51 = .ok (.iconst 0, 1) := by decide +kernel
theorem dX7_drift_52 : decode cX7_drift 52 = .ok (.istore 5, 2) := by decide +kernel
theorem dX7_drift_54 : decode cX7_drift 54 = .ok (.iload 5, 2) := by decide +kernel
theorem dX7_drift_56 : decode cX7_drift 56 = .ok (.iload_n 2, 1) := by decide +kernel
theorem dX7_drift_57 : decode cX7_drift 57 = .ok (.if_icmp .ge 79, 3) := by decide +kernel
theorem dX7_drift_60 : decode cX7_drift 60 = .ok (.iload 4, 2) := by decide +kernel
theorem dX7_drift_62 : decode cX7_drift 62 = .ok (.ldc 235, 2) := by decide +kernel
theorem dX7_drift_64 : decode cX7_drift 64 = .ok (.imul, 1) := by decide +kernel
theorem dX7_drift_65 : decode cX7_drift 65 = .ok (.sipush 12345, 3) := by decide +kernel
theorem dX7_drift_68 : decode cX7_drift 68 = .ok (.iadd, 1) := by decide +kernel
theorem dX7_drift_69 : decode cX7_drift 69 = .ok (.istore 4, 2) := by decide +kernel
theorem dX7_drift_71 : decode cX7_drift 71 = .ok (.iload 4, 2) := by decide +kernel
theorem dX7_drift_73 : decode cX7_drift 73 = .ok (.bipush 16, 2) := by decide +kernel
theorem dX7_drift_75 : decode cX7_drift 75 = .ok (.ishr, 1) := by decide +kernel
theorem dX7_drift_76 : decode cX7_drift 76 = .ok (.sipush 32767, 3) := by decide +kernel
theorem dX7_drift_79 : decode cX7_drift 79 = .ok (.iand, 1) := by decide +kernel
theorem dX7_drift_80 : decode cX7_drift 80 = .ok (.istore 6, 2) := by decide +kernel
theorem dX7_drift_82 : decode cX7_drift 82 = .ok (.iload 6, 2) := by decide +kernel
theorem dX7_drift_84 : decode cX7_drift 84 = .ok (.aload_n 0, 1) := by decide +kernel
theorem dX7_drift_85 : decode cX7_drift 85 = .ok (.getfield 125, 3) := by decide +kernel
theorem dX7_drift_88 : decode cX7_drift 88 = .ok (.irem, 1) := by decide +kernel
theorem dX7_drift_89 : decode cX7_drift 89 = .ok (.istore 7, 2) := by decide +kernel
theorem dX7_drift_91 : decode cX7_drift 91 = .ok (.aload_n 0, 1) := by decide +kernel
theorem dX7_drift_92 : decode cX7_drift 92 = .ok (.sipush 168, 3) := by decide +kernel
theorem dX7_drift_95 : decode cX7_drift 95 = .ok (.iload 7, 2) := by decide +kernel
theorem dX7_drift_97 : decode cX7_drift 97 = .ok (.iload 7, 2) := by decide +kernel
theorem dX7_drift_99 : decode cX7_drift 99 = .ok (.iconst 1, 1) := by decide +kernel
theorem dX7_drift_100 : decode cX7_drift 100 = .ok (.iadd, 1) := by decide +kernel
theorem dX7_drift_101 : decode cX7_drift 101 = .ok (.iload 6, 2) := by decide +kernel
theorem dX7_drift_103 : decode cX7_drift 103 = .ok (.bipush 8, 2) := by decide +kernel
theorem dX7_drift_105 : decode cX7_drift 105 = .ok (.idiv, 1) := by decide +kernel
theorem dX7_drift_106 : decode cX7_drift 106 = .ok (.aload_n 0, 1) := by decide +kernel
theorem dX7_drift_107 : decode cX7_drift 107 = .ok (.getfield 125, 3) := by decide +kernel
theorem dX7_drift_110 : decode cX7_drift 110 = .ok (.iconst 1, 1) := by decide +kernel
theorem dX7_drift_111 : decode cX7_drift 111 = .ok (.isub, 1) := by decide +kernel
theorem dX7_drift_112 : decode cX7_drift 112 = .ok (.irem, 1) := by decide +kernel
theorem dX7_drift_113 : decode cX7_drift 113 = .ok (.iadd, 1) := by decide +kernel
theorem dX7_drift_114 : decode cX7_drift 114 = .ok (.aload_n 0, 1) := by decide +kernel
theorem dX7_drift_115 : decode cX7_drift 115 = .ok (.getfield 125, 3) := by decide +kernel
theorem dX7_drift_118 : decode cX7_drift 118 = .ok (.irem, 1) := by decide +kernel
theorem dX7_drift_119 : decode cX7_drift 119 = .ok (.invokevirtual 154, 3) := by decide +kernel
theorem dX7_drift_122 : decode cX7_drift 122 = .ok (.aload_n 0, 1) := by decide +kernel
theorem dX7_drift_123 : decode cX7_drift 123 = .ok (.sipush 168, 3) := by decide +kernel
theorem dX7_drift_126 : decode cX7_drift 126 = .ok (.iconst 1, 1) := by decide +kernel
theorem dX7_drift_127 : decode cX7_drift 127 = .ok (.invokevirtual 191, 3) := by decide +kernel
theorem dX7_drift_130 : decode cX7_drift 130 = .ok (.iinc 5 1, 3) := by decide +kernel
theorem dX7_drift_133 : decode cX7_drift 133 = .ok (.goto (-79), 3) := by decide +kernel
theorem dX7_drift_136 : decode cX7_drift 136 = .ok (.iload_n 3, 1) := by decide +kernel
theorem dX7_drift_137 : decode cX7_drift 137 = .ok (.ifCond .ne 13, 3) := by decide +kernel
theorem dX7_drift_140 : decode cX7_drift 140 = .ok (.aload_n 0, 1) := by decide +kernel
theorem dX7_drift_141 : decode cX7_drift 141 = .ok (.sipush 168, 3) := by decide +kernel
theorem dX7_drift_144 : decode cX7_drift 144 = .ok (.invokevirtual 164, 3) := by decide +kernel
theorem dX7_drift_147 : decode cX7_drift 147 = .ok (.goto 7, 3) := by decide +kernel
theorem dX7_drift_150 : decode cX7_drift 150 = .ok (.aload_n 0, 1) := by decide +kernel
theorem dX7_drift_151 : decode cX7_drift 151 = .ok (.getfield 148, 3) := by decide +kernel
theorem dX7_drift_154 : decode cX7_drift 154 = .ok (.ireturn, 1) := by decide +kernel
theorem dX7_keep_0 : decode cX7_keep 0 = .ok (.iload_n 1, 1) := by decide +kernel
theorem dX7_keep_1 : decode cX7_keep 1 = .ok (.i2l, 1) := by decide +kernel
theorem dX7_keep_2 : decode cX7_keep 2 = .ok (.lconst 0, 1) := by decide +kernel
theorem dX7_keep_3 : decode cX7_keep 3 = .ok (.lconst 1, 1) := by decide +kernel
theorem dX7_keep_4 : decode cX7_keep 4 = .ok (.invokestatic 53, 3) := by decide +kernel
theorem dX7_keep_7 : decode cX7_keep 7 = .ok (.ifCond .ne 5, 3) := by decide +kernel
theorem dX7_keep_10 : decode cX7_keep 10 = .ok (.iconst (-1), 1) := by decide +kernel
theorem dX7_keep_11 : decode cX7_keep 11 = .ok (.ireturn, 1) := by decide +kernel
theorem dX7_keep_12 : decode cX7_keep 12 = .ok (.aload_n 0, 1) := by decide +kernel
theorem dX7_keep_13 : decode cX7_keep 13 = .ok (.iconst 0, 1) := by decide +kernel
theorem dX7_keep_14 : decode cX7_keep 14 = .ok (.bipush 42, 2) := by decide +kernel
theorem dX7_keep_16 : decode cX7_keep 16 = .ok (.iload_n 1, 1) := by decide +kernel
theorem dX7_keep_17 : decode cX7_keep 17 = .ok (.iconst 1, 1) := by decide +kernel
theorem dX7_keep_18 : decode cX7_keep 18 = .ok (.iadd, 1) := by decide +kernel
theorem dX7_keep_19 : decode cX7_keep 19 = .ok (.imul, 1) := by decide +kernel
theorem dX7_keep_20 : decode cX7_keep 20 = .ok (.invokevirtual 195, 3) := by decide +kernel
theorem dX7_keep_23 : decode cX7_keep 23 = .ok (.aload_n 0, 1) := by decide +kernel
theorem dX7_keep_24 : decode cX7_keep 24 = .ok (.getfield 38, 3) := by decide +kernel
theorem dX7_keep_27 : decode cX7_keep 27 = .ok (.iload_n 1, 1) := by decide +kernel
theorem dX7_keep_28 : decode cX7_keep 28 = .ok (.baload, 1) := by decide +kernel
theorem dX7_keep_29 : decode cX7_keep 29 = .ok (.ifCond .eq 7, 3) := by decide +kernel
theorem dX7_keep_32 : decode cX7_keep 32 = .ok (.iconst 1, 1) := by decide +kernel
theorem dX7_keep_33 : decode cX7_keep 33 = .ok (.goto 4, 3) := by decide +kernel
theorem dX7_keep_36 : decode cX7_keep 36 = .ok (.iconst 0, 1) := by decide +kernel
theorem dX7_keep_37 : decode cX7_keep 37 = .ok (.istore_n 2, 1) := by decide +kernel
theorem dX7_keep_38 : decode cX7_keep 38 = .ok (.aload_n 0, 1) := by decide +kernel
theorem dX7_keep_39 : decode cX7_keep 39 = .ok (.getfield 38, 3) := by decide +kernel
theorem dX7_keep_42 : decode cX7_keep 42 = .ok (.iload_n 1, 1) := by decide +kernel
theorem dX7_keep_43 : decode cX7_keep 43 = .ok (.iconst 1, 1) := by decide +kernel
theorem dX7_keep_44 : decode cX7_keep 44 = .ok (.bastore, 1) := by decide +kernel
theorem dX7_keep_45 : decode cX7_keep 45 = .ok (.iload_n 2, 1) := by decide +kernel
theorem dX7_keep_46 : decode cX7_keep 46 = .ok (.ireturn, 1) := by decide +kernel
theorem dX7_back_0 : decode cX7_back 0 = .ok (.iload_n 1, 1) := by decide +kernel
theorem dX7_back_1 : decode cX7_back 1 = .ok (.i2l, 1) := by decide +kernel
theorem dX7_back_2 : decode cX7_back 2 = .ok (.lconst 0, 1) := by decide +kernel
theorem dX7_back_3 : decode cX7_back 3 = .ok (.lconst 1, 1) := by decide +kernel
theorem dX7_back_4 : decode cX7_back 4 = .ok (.invokestatic 53, 3) := by decide +kernel
theorem dX7_back_7 : decode cX7_back 7 = .ok (.ifCond .ne 5, 3) := by decide +kernel
theorem dX7_back_10 : decode cX7_back 10 = .ok (.iconst (-1), 1) := by decide +kernel
theorem dX7_back_11 : decode cX7_back 11 = .ok (.ireturn, 1) := by decide +kernel
theorem dX7_back_12 : decode cX7_back 12 = .ok (.aload_n 0, 1) := by decide +kernel
theorem dX7_back_13 : decode cX7_back 13 = .ok (.getfield 38, 3) := by decide +kernel
theorem dX7_back_16 : decode cX7_back 16 = .ok (.iload_n 1, 1) := by decide +kernel
theorem dX7_back_17 : decode cX7_back 17 = .ok (.baload, 1) := by decide +kernel
theorem dX7_back_18 : decode cX7_back 18 = .ok (.ifCond .ne 6, 3) := by decide +kernel
theorem dX7_back_21 : decode cX7_back 21 = .ok (.bipush (-2), 2) := by decide +kernel
theorem dX7_back_23 : decode cX7_back 23 = .ok (.ireturn, 1) := by decide +kernel
theorem dX7_back_24 : decode cX7_back 24 = .ok (.aload_n 0, 1) := by decide +kernel
theorem dX7_back_25 : decode cX7_back 25 = .ok (.bipush 42, 2) := by decide +kernel
theorem dX7_back_27 : decode cX7_back 27 = .ok (.iload_n 1, 1) := by decide +kernel
theorem dX7_back_28 : decode cX7_back 28 = .ok (.iconst 1, 1) := by decide +kernel
theorem dX7_back_29 : decode cX7_back 29 = .ok (.iadd, 1) := by decide +kernel
theorem dX7_back_30 : decode cX7_back 30 = .ok (.imul, 1) := by decide +kernel
theorem dX7_back_31 : decode cX7_back 31 = .ok (.iconst 0, 1) := by decide +kernel
theorem dX7_back_32 : decode cX7_back 32 = .ok (.invokevirtual 195, 3) := by decide +kernel
theorem dX7_back_35 : decode cX7_back 35 = .ok (.aload_n 0, 1) := by decide +kernel
theorem dX7_back_36 : decode cX7_back 36 = .ok (.getfield 7, 3) := by decide +kernel
theorem dX7_back_39 : decode cX7_back 39 = .ok (.bipush 41, 2) := by decide +kernel
theorem dX7_back_41 : decode cX7_back 41 = .ok (.iaload, 1) := by decide +kernel
theorem dX7_back_42 : decode cX7_back 42 = .ok (.ireturn, 1) := by decide +kernel
theorem dX7_sheet_0 : decode cX7_sheet 0 = .ok (.iload_n 1, 1) := by decide +kernel
theorem dX7_sheet_1 : decode cX7_sheet 1 = .ok (.i2l, 1) := by decide +kernel
theorem dX7_sheet_2 : decode cX7_sheet 2 = .ok (.lconst 0, 1) := by decide +kernel
theorem dX7_sheet_3 : decode cX7_sheet 3 = .ok (.ldc2_w 174, 3) := by decide +kernel
theorem dX7_sheet_6 : decode cX7_sheet 6 = .ok (.invokestatic 53, 3) := by decide +kernel
theorem dX7_sheet_9 : decode cX7_sheet 9 = .ok (.ifCond .eq 21, 3) := by decide +kernel
theorem dX7_sheet_12 : decode cX7_sheet 12 = .ok (.iload_n 2, 1) := by decide +kernel
theorem dX7_sheet_13 : decode cX7_sheet 13 = .ok (.i2l, 1) := by decide +kernel
theorem dX7_sheet_14 : decode cX7_sheet 14 = .ok (.lconst 0, 1) := by decide +kernel
theorem dX7_sheet_15 : decode cX7_sheet 15 = .ok (.ldc2_w 204, 3) := by decide +kernel
theorem dX7_sheet_18 : decode cX7_sheet 18 = .ok (.invokestatic 53, 3) := by decide +kernel
theorem dX7_sheet_21 : decode cX7_sheet 21 = .ok (.ifCond .eq 9, 3) := by decide +kernel
theorem dX7_sheet_24 : decode cX7_sheet 24 = .ok (.iload_n 3, 1) := by decide +kernel
theorem dX7_sheet_25 : decode cX7_sheet 25 = .ok (.bipush 40, 2) := by decide +kernel
theorem dX7_sheet_27 : decode cX7_sheet 27 = .ok (.if_icmp .le 5, 3) := by decide +kernel
theorem dX7_sheet_30 : decode cX7_sheet 30 = .ok (.iconst (-1), 1) := by decide +kernel
theorem dX7_sheet_31 : decode cX7_sheet 31 = .ok (.ireturn, 1) := by decide +kernel
theorem dX7_sheet_32 : decode cX7_sheet 32 = .ok (.iload_n 3, 1) := by decide +kernel
theorem dX7_sheet_33 : decode cX7_sheet 33 = .ok (.ifCond .ge 6, 3) := by decide +kernel
theorem dX7_sheet_36 : decode cX7_sheet 36 = .ok (.bipush (-14), 2) := by decide +kernel
theorem dX7_sheet_38 : decode cX7_sheet 38 = .ok (.ireturn, 1) := by decide +kernel
theorem dX7_sheet_39 : decode cX7_sheet 39 = .ok (.aload_n 0, 1) := by decide +kernel
theorem dX7_sheet_40 : decode cX7_sheet 40 = .ok (.getfield 42, 3) := by decide +kernel
theorem dX7_sheet_43 : decode cX7_sheet 43 = .ok (.iload_n 1, 1) := by decide +kernel
theorem dX7_sheet_44 : decode cX7_sheet 44 = .ok (.iload_n 2, 1) := by decide +kernel
theorem dX7_sheet_45 : decode cX7_sheet 45 = .ok (.iastore, 1) := by decide +kernel
theorem dX7_sheet_46 : decode cX7_sheet 46 = .ok (.aload_n 0, 1) := by decide +kernel
theorem dX7_sheet_47 : decode cX7_sheet 47 = .ok (.getfield 45, 3) := by decide +kernel
theorem dX7_sheet_50 : decode cX7_sheet 50 = .ok (.iload_n 1, 1) := by decide +kernel
theorem dX7_sheet_51 : decode cX7_sheet 51 = .ok (.iload_n 3, 1) := by decide +kernel
theorem dX7_sheet_52 : decode cX7_sheet 52 = .ok (.iastore, 1) := by decide +kernel
theorem dX7_sheet_53 : decode cX7_sheet 53 = .ok (.iconst 0, 1) := by decide +kernel
theorem dX7_sheet_54 : decode cX7_sheet 54 = .ok (.istore 4, 2) := by decide +kernel
theorem dX7_sheet_56 : decode cX7_sheet 56 = .ok (.iload 4, 2) := by decide +kernel
theorem dX7_sheet_58 : decode cX7_sheet 58 = .ok (.bipush 40, 2) := by decide +kernel
theorem dX7_sheet_60 : decode cX7_sheet 60 = .ok (.if_icmp .ge 22, 3) := by decide +kernel
theorem dX7_sheet_63 : decode cX7_sheet 63 = .ok (.aload_n 0, 1) := by decide +kernel
theorem dX7_sheet_64 : decode cX7_sheet 64 = .ok (.getfield 48, 3) := by decide +kernel
theorem dX7_sheet_67 : decode cX7_sheet 67 = .ok (.bipush 40, 2) := by decide +kernel
theorem dX7_sheet_69 : decode cX7_sheet 69 = .ok (.iload_n 1, 1) := by decide +kernel
theorem dX7_sheet_70 : decode cX7_sheet 70 = .ok (.imul, 1) := by decide +kernel
theorem dX7_sheet_71 : decode cX7_sheet 71 = .ok (.iload 4, 2) := by decide +kernel
theorem dX7_sheet_73 : decode cX7_sheet 73 = .ok (.iadd, 1) := by decide +kernel
theorem dX7_sheet_74 : decode cX7_sheet 74 = .ok (.iconst 0, 1) := by decide +kernel
theorem dX7_sheet_75 : decode cX7_sheet 75 = .ok (.iastore, 1) := by decide +kernel
theorem dX7_sheet_76 : decode cX7_sheet 76 = .ok (.iinc 4 1, 3) := by decide +kernel
theorem dX7_sheet_79 : decode cX7_sheet 79 = .ok (.goto (-23), 3) := by decide +kernel
theorem dX7_sheet_82 : decode cX7_sheet 82 = .ok (.iconst 1, 1) := by decide +kernel
theorem dX7_sheet_83 : decode cX7_sheet 83 = .ok (.ireturn, 1) := by decide +kernel
theorem dX7_lay_0 : decode cX7_lay 0 = .ok (.iload_n 1, 1) := by decide +kernel
theorem dX7_lay_1 : decode cX7_lay 1 = .ok (.i2l, 1) := by decide +kernel
theorem dX7_lay_2 : decode cX7_lay 2 = .ok (.lconst 0, 1) := by decide +kernel
theorem dX7_lay_3 : decode cX7_lay 3 = .ok (.ldc2_w 174, 3) := by decide +kernel
theorem dX7_lay_6 : decode cX7_lay 6 = .ok (.invokestatic 53, 3) := by decide +kernel
theorem dX7_lay_9 : decode cX7_lay 9 = .ok (.ifCond .ne 5, 3) := by decide +kernel
theorem dX7_lay_12 : decode cX7_lay 12 = .ok (.iconst (-1), 1) := by decide +kernel
theorem dX7_lay_13 : decode cX7_lay 13 = .ok (.ireturn, 1) := by decide +kernel
theorem dX7_lay_14 : decode cX7_lay 14 = .ok (.aload_n 0, 1) := by decide +kernel
theorem dX7_lay_15 : decode cX7_lay 15 = .ok (.getfield 42, 3) := by decide +kernel
theorem dX7_lay_18 : decode cX7_lay 18 = .ok (.iload_n 1, 1) := by decide +kernel
theorem dX7_lay_19 : decode cX7_lay 19 = .ok (.iaload, 1) := by decide +kernel
theorem dX7_lay_20 : decode cX7_lay 20 = .ok (.bipush (-4), 2) := by decide +kernel
theorem dX7_lay_22 : decode cX7_lay 22 = .ok (.if_icmp .ne 6, 3) := by decide +kernel
theorem dX7_lay_25 : decode cX7_lay 25 = .ok (.bipush (-11), 2) := by decide +kernel
theorem dX7_lay_27 : decode cX7_lay 27 = .ok (.ireturn, 1) := by decide +kernel
theorem dX7_lay_28 : decode cX7_lay 28 = .ok (.iload_n 2, 1) := by decide +kernel
theorem dX7_lay_29 : decode cX7_lay 29 = .ok (.i2l, 1) := by decide +kernel
theorem dX7_lay_30 : decode cX7_lay 30 = .ok (.lconst 0, 1) := by decide +kernel
theorem dX7_lay_31 : decode cX7_lay 31 = .ok (.aload_n 0, 1) := by decide +kernel
theorem dX7_lay_32 : decode cX7_lay 32 = .ok (.getfield 45, 3) := by decide +kernel
theorem dX7_lay_35 : decode cX7_lay 35 = .ok (.iload_n 1, 1) := by decide +kernel
theorem dX7_lay_36 : decode cX7_lay 36 = .ok (.iaload, 1) := by decide +kernel
theorem dX7_lay_37 : decode cX7_lay 37 = .ok (.iconst 1, 1) := by decide +kernel
theorem dX7_lay_38 : decode cX7_lay 38 = .ok (.isub, 1) := by decide +kernel
theorem dX7_lay_39 : decode cX7_lay 39 = .ok (.i2l, 1) := by decide +kernel
theorem dX7_lay_40 : decode cX7_lay 40 = .ok (.invokestatic 53, 3) := by decide +kernel
theorem dX7_lay_43 : decode cX7_lay 43 = .ok (.ifCond .ne 6, 3) := by decide +kernel
theorem dX7_lay_46 : decode cX7_lay 46 = .ok (.bipush (-12), 2) := by decide +kernel
theorem dX7_lay_48 : decode cX7_lay 48 = .ok (.ireturn, 1) := by decide +kernel
theorem dX7_lay_49 : decode cX7_lay 49 = .ok (.aload_n 0, 1) := by decide +kernel
theorem dX7_lay_50 : decode cX7_lay 50 = .ok (.getfield 48, 3) := by decide +kernel
theorem dX7_lay_53 : decode cX7_lay 53 = .ok (.bipush 40, 2) := by decide +kernel
theorem dX7_lay_55 : decode cX7_lay 55 = .ok (.iload_n 1, 1) := by decide +kernel
theorem dX7_lay_56 : decode cX7_lay 56 = .ok (.imul, 1) := by decide +kernel
theorem dX7_lay_57 : decode cX7_lay 57 = .ok (.iload_n 2, 1) := by decide +kernel
theorem dX7_lay_58 : decode cX7_lay 58 = .ok (.iadd, 1) := by decide +kernel
theorem dX7_lay_59 : decode cX7_lay 59 = .ok (.aload_n 0, 1) := by decide +kernel
theorem dX7_lay_60 : decode cX7_lay 60 = .ok (.getfield 42, 3) := by decide +kernel
theorem dX7_lay_63 : decode cX7_lay 63 = .ok (.iload_n 1, 1) := by decide +kernel
theorem dX7_lay_64 : decode cX7_lay 64 = .ok (.iaload, 1) := by decide +kernel
theorem dX7_lay_65 : decode cX7_lay 65 = .ok (.ifCond .ne 13, 3) := by decide +kernel
theorem dX7_lay_68 : decode cX7_lay 68 = .ok (.iload_n 3, 1) := by decide +kernel
theorem dX7_lay_69 : decode cX7_lay 69 = .ok (.bipush 24, 2) := by decide +kernel
theorem dX7_lay_71 : decode cX7_lay 71 = .ok (.ishl, 1) := by decide +kernel
theorem dX7_lay_72 : decode cX7_lay 72 = .ok (.bipush 24, 2) := by decide +kernel
theorem dX7_lay_74 : decode cX7_lay 74 = .ok (.ishr, 1) := by decide +kernel
theorem dX7_lay_75 : decode cX7_lay 75 = .ok (.goto 24, 3) := by decide +kernel
theorem dX7_lay_78 : decode cX7_lay 78 = .ok (.aload_n 0, 1) := by decide +kernel
theorem dX7_lay_79 : decode cX7_lay 79 = .ok (.getfield 42, 3) := by decide +kernel
theorem dX7_lay_82 : decode cX7_lay 82 = .ok (.iload_n 1, 1) := by decide +kernel
theorem dX7_lay_83 : decode cX7_lay 83 = .ok (.iaload, 1) := by decide +kernel
theorem dX7_lay_84 : decode cX7_lay 84 = .ok (.iconst 1, 1) := by decide +kernel
theorem dX7_lay_85 : decode cX7_lay 85 = .ok (.if_icmp .ne 13, 3) := by decide +kernel
theorem dX7_lay_88 : decode cX7_lay 88 = .ok (.iload_n 3, 1) := by decide +kernel
theorem dX7_lay_89 : decode cX7_lay 89 = .ok (.bipush 16, 2) := by decide +kernel
theorem dX7_lay_91 : decode cX7_lay 91 = .ok (.ishl, 1) := by decide +kernel
theorem dX7_lay_92 : decode cX7_lay 92 = .ok (.bipush 16, 2) := by decide +kernel
theorem dX7_lay_94 : decode cX7_lay 94 = .ok (.ishr, 1) := by decide +kernel
theorem dX7_lay_95 : decode cX7_lay 95 = .ok (.goto 4, 3) := by decide +kernel
theorem dX7_lay_98 : decode cX7_lay 98 = .ok (.iload_n 3, 1) := by decide +kernel
theorem dX7_lay_99 : decode cX7_lay 99 = .ok (.iastore, 1) := by decide +kernel
theorem dX7_lay_100 : decode cX7_lay 100 = .ok (.iconst 1, 1) := by decide +kernel
theorem dX7_lay_101 : decode cX7_lay 101 = .ok (.ireturn, 1) := by decide +kernel
theorem dX7_read_0 : decode cX7_read 0 = .ok (.iload_n 1, 1) := by decide +kernel
theorem dX7_read_1 : decode cX7_read 1 = .ok (.i2l, 1) := by decide +kernel
theorem dX7_read_2 : decode cX7_read 2 = .ok (.lconst 0, 1) := by decide +kernel
theorem dX7_read_3 : decode cX7_read 3 = .ok (.ldc2_w 174, 3) := by decide +kernel
theorem dX7_read_6 : decode cX7_read 6 = .ok (.invokestatic 53, 3) := by decide +kernel
theorem dX7_read_9 : decode cX7_read 9 = .ok (.ifCond .eq 28, 3) := by decide +kernel
theorem dX7_read_12 : decode cX7_read 12 = .ok (.iload_n 2, 1) := by decide +kernel
theorem dX7_read_13 : decode cX7_read 13 = .ok (.i2l, 1) := by decide +kernel
theorem dX7_read_14 : decode cX7_read 14 = .ok (.lconst 0, 1) := by decide +kernel
theorem dX7_read_15 : decode cX7_read 15 = .ok (.ldc2_w 204, 3) := by decide +kernel
theorem dX7_read_18 : decode cX7_read 18 = .ok (.invokestatic 53, 3) := by decide +kernel
theorem dX7_read_21 : decode cX7_read 21 = .ok (.ifCond .eq 16, 3) := by decide +kernel
theorem dX7_read_24 : decode cX7_read 24 = .ok (.iload 4, 2) := by decide +kernel
theorem dX7_read_26 : decode cX7_read 26 = .ok (.i2l, 1) := by decide +kernel
theorem dX7_read_27 : decode cX7_read 27 = .ok (.lconst 0, 1) := by decide +kernel
theorem dX7_read_28 : decode cX7_read 28 = .ok (.ldc2_w 180, 3) := by decide +kernel
theorem dX7_read_31 : decode cX7_read 31 = .ok (.invokestatic 53, 3) := by decide +kernel
theorem dX7_read_34 : decode cX7_read 34 = .ok (.ifCond .ne 5, 3) := by decide +kernel
theorem dX7_read_37 : decode cX7_read 37 = .ok (.iconst (-1), 1) := by decide +kernel
theorem dX7_read_38 : decode cX7_read 38 = .ok (.ireturn, 1) := by decide +kernel
theorem dX7_read_39 : decode cX7_read 39 = .ok (.aload_n 0, 1) := by decide +kernel
theorem dX7_read_40 : decode cX7_read 40 = .ok (.iconst 0, 1) := by decide +kernel
theorem dX7_read_41 : decode cX7_read 41 = .ok (.bipush 126, 2) := by decide +kernel
theorem dX7_read_43 : decode cX7_read 43 = .ok (.invokevirtual 195, 3) := by decide +kernel
theorem dX7_read_46 : decode cX7_read 46 = .ok (.iconst 0, 1) := by decide +kernel
theorem dX7_read_47 : decode cX7_read 47 = .ok (.istore 5, 2) := by decide +kernel
theorem dX7_read_49 : decode cX7_read 49 = .ok (.iconst 0, 1) := by decide +kernel
theorem dX7_read_50 : decode cX7_read 50 = .ok (.istore 6, 2) := by decide +kernel
theorem dX7_read_52 : decode cX7_read 52 = .ok (.iconst 0, 1) := by decide +kernel
theorem dX7_read_53 : decode cX7_read 53 = .ok (.istore 7, 2) := by decide +kernel
theorem dX7_read_55 : decode cX7_read 55 = .ok (.iload 7, 2) := by decide +kernel
theorem dX7_read_57 : decode cX7_read 57 = .ok (.iconst 2, 1) := by decide +kernel
theorem dX7_read_58 : decode cX7_read 58 = .ok (.iload 4, 2) := by decide +kernel
theorem dX7_read_60 : decode cX7_read 60 = .ok (.imul, 1) := by decide +kernel
theorem dX7_read_61 : decode cX7_read 61 = .ok (.if_icmp .ge 135, 3) := by decide +kernel
theorem dX7_read_64 : decode cX7_read 64 = .ok (.iload 5, 2) := by decide +kernel
theorem dX7_read_66 : decode cX7_read 66 = .ok (.ifCond .ne 130, 3) := by decide +kernel
theorem dX7_read_69 : decode cX7_read 69 = .ok (.aload_n 0, 1) := by decide +kernel
theorem dX7_read_70 : decode cX7_read 70 = .ok (.getfield 42, 3) := by decide +kernel
theorem dX7_read_73 : decode cX7_read 73 = .ok (.iload_n 1, 1) := by decide +kernel
theorem dX7_read_74 : decode cX7_read 74 = .ok (.iaload, 1) := by decide +kernel
theorem dX7_read_75 : decode cX7_read 75 = .ok (.bipush (-4), 2) := by decide +kernel
theorem dX7_read_77 : decode cX7_read 77 = .ok (.if_icmp .ne 7, 3) := by decide +kernel
theorem dX7_read_80 : decode cX7_read 80 = .ok (.iconst 1, 1) := by decide +kernel
theorem dX7_read_81 : decode cX7_read 81 = .ok (.goto 44, 3) := by decide +kernel
theorem dX7_read_84 : decode cX7_read 84 = .ok (.aload_n 0, 1) := by decide +kernel
theorem dX7_read_85 : decode cX7_read 85 = .ok (.getfield 42, 3) := by decide +kernel
theorem dX7_read_88 : decode cX7_read 88 = .ok (.iload_n 1, 1) := by decide +kernel
theorem dX7_read_89 : decode cX7_read 89 = .ok (.iaload, 1) := by decide +kernel
theorem dX7_read_90 : decode cX7_read 90 = .ok (.iload_n 2, 1) := by decide +kernel
theorem dX7_read_91 : decode cX7_read 91 = .ok (.if_icmp .eq 7, 3) := by decide +kernel
theorem dX7_read_94 : decode cX7_read 94 = .ok (.iconst 3, 1) := by decide +kernel
theorem dX7_read_95 : decode cX7_read 95 = .ok (.goto 30, 3) := by decide +kernel
theorem dX7_read_98 : decode cX7_read 98 = .ok (.iload_n 3, 1) := by decide +kernel
theorem dX7_read_99 : decode cX7_read 99 = .ok (.i2l, 1) := by decide +kernel
theorem dX7_read_100 : decode cX7_read 100 = .ok (.iload 7, 2) := by decide +kernel
theorem dX7_read_102 : decode cX7_read 102 = .ok (.i2l, 1) := by decide +kernel
theorem dX7_read_103 : decode cX7_read 103 = .ok (.ladd, 1) := by decide +kernel
theorem dX7_read_104 : decode cX7_read 104 = .ok (.lconst 0, 1) := by decide +kernel
theorem dX7_read_105 : decode cX7_read 105 = .ok (.aload_n 0, 1) := by decide +kernel
theorem dX7_read_106 : decode cX7_read 106 = .ok (.getfield 45, 3) := by decide +kernel
theorem dX7_read_109 : decode cX7_read 109 = .ok (.iload_n 1, 1) := by decide +kernel
theorem dX7_read_110 : decode cX7_read 110 = .ok (.iaload, 1) := by decide +kernel
theorem dX7_read_111 : decode cX7_read 111 = .ok (.iconst 1, 1) := by decide +kernel
theorem dX7_read_112 : decode cX7_read 112 = .ok (.isub, 1) := by decide +kernel
theorem dX7_read_113 : decode cX7_read 113 = .ok (.i2l, 1) := by decide +kernel
theorem dX7_read_114 : decode cX7_read 114 = .ok (.invokestatic 53, 3) := by decide +kernel
theorem dX7_read_117 : decode cX7_read 117 = .ok (.ifCond .ne 7, 3) := by decide +kernel
theorem dX7_read_120 : decode cX7_read 120 = .ok (.iconst 2, 1) := by decide +kernel
theorem dX7_read_121 : decode cX7_read 121 = .ok (.goto 4, 3) := by decide +kernel
theorem dX7_read_124 : decode cX7_read 124 = .ok (.iconst 0, 1) := by decide +kernel
theorem dX7_read_125 : decode cX7_read 125 = .ok (.istore 5, 2) := by decide +kernel
theorem dX7_read_127 : decode cX7_read 127 = .ok (.iload 5, 2) := by decide +kernel
theorem dX7_read_129 : decode cX7_read 129 = .ok (.ifCond .ne 61, 3) := by decide +kernel
theorem dX7_read_132 : decode cX7_read 132 = .ok (.iload 7, 2) := by decide +kernel
theorem dX7_read_134 : decode cX7_read 134 = .ok (.iconst 2, 1) := by decide +kernel
theorem dX7_read_135 : decode cX7_read 135 = .ok (.irem, 1) := by decide +kernel
theorem dX7_read_136 : decode cX7_read 136 = .ok (.iconst 1, 1) := by decide +kernel
theorem dX7_read_137 : decode cX7_read 137 = .ok (.if_icmp .ne 53, 3) := by decide +kernel
theorem dX7_read_140 : decode cX7_read 140 = .ok (.bipush 40, 2) := by decide +kernel
theorem dX7_read_142 : decode cX7_read 142 = .ok (.iload_n 1, 1) := by decide +kernel
theorem dX7_read_143 : decode cX7_read 143 = .ok (.imul, 1) := by decide +kernel
theorem dX7_read_144 : decode cX7_read 144 = .ok (.iload_n 3, 1) := by decide +kernel
theorem dX7_read_145 : decode cX7_read 145 = .ok (.iadd, 1) := by decide +kernel
theorem dX7_read_146 : decode cX7_read 146 = .ok (.iload 7, 2) := by decide +kernel
theorem dX7_read_148 : decode cX7_read 148 = .ok (.iadd, 1) := by decide +kernel
theorem dX7_read_149 : decode cX7_read 149 = .ok (.istore 8, 2) := by decide +kernel
theorem dX7_read_151 : decode cX7_read 151 = .ok (.aload_n 0, 1) := by decide +kernel
theorem dX7_read_152 : decode cX7_read 152 = .ok (.aload_n 0, 1) := by decide +kernel
theorem dX7_read_153 : decode cX7_read 153 = .ok (.getfield 48, 3) := by decide +kernel
theorem dX7_read_156 : decode cX7_read 156 = .ok (.iload 8, 2) := by decide +kernel
theorem dX7_read_158 : decode cX7_read 158 = .ok (.iconst 1, 1) := by decide +kernel
theorem dX7_read_159 : decode cX7_read 159 = .ok (.isub, 1) := by decide +kernel
theorem dX7_read_160 : decode cX7_read 160 = .ok (.iaload, 1) := by decide +kernel
theorem dX7_read_161 : decode cX7_read 161 = .ok (.aload_n 0, 1) := by decide +kernel
theorem dX7_read_162 : decode cX7_read 162 = .ok (.getfield 48, 3) := by decide +kernel
theorem dX7_read_165 : decode cX7_read 165 = .ok (.iload 8, 2) := by decide +kernel
theorem dX7_read_167 : decode cX7_read 167 = .ok (.iaload, 1) := by decide +kernel
theorem dX7_read_168 : decode cX7_read 168 = .ok (.invokevirtual 186, 3) := by decide +kernel
theorem dX7_read_171 : decode cX7_read 171 = .ok (.ifCond .ge 16, 3) := by decide +kernel
theorem dX7_read_174 : decode cX7_read 174 = .ok (.aload_n 0, 1) := by decide +kernel
theorem dX7_read_175 : decode cX7_read 175 = .ok (.bipush 126, 2) := by decide +kernel
theorem dX7_read_177 : decode cX7_read 177 = .ok (.iconst 0, 1) := by decide +kernel
theorem dX7_read_178 : decode cX7_read 178 = .ok (.invokevirtual 195, 3) := by decide +kernel
theorem dX7_read_181 : decode cX7_read 181 = .ok (.bipush (-20), 2) := by decide +kernel
theorem dX7_read_183 : decode cX7_read 183 = .ok (.iload 6, 2) := by decide +kernel
theorem dX7_read_185 : decode cX7_read 185 = .ok (.isub, 1) := by decide +kernel
theorem dX7_read_186 : decode cX7_read 186 = .ok (.ireturn, 1) := by decide +kernel
theorem dX7_read_187 : decode cX7_read 187 = .ok (.iinc 6 1, 3) := by decide +kernel
theorem dX7_read_190 : decode cX7_read 190 = .ok (.iinc 7 1, 3) := by decide +kernel
theorem dX7_read_193 : decode cX7_read 193 = .ok (.goto (-138), 3) := by decide +kernel
theorem dX7_read_196 : decode cX7_read 196 = .ok (.aload_n 0, 1) := by decide +kernel
theorem dX7_read_197 : decode cX7_read 197 = .ok (.iload 5, 2) := by decide +kernel
theorem dX7_read_199 : decode cX7_read 199 = .ok (.putfield 236, 3) := by decide +kernel
theorem dX7_read_202 : decode cX7_read 202 = .ok (.iload 6, 2) := by decide +kernel
theorem dX7_read_204 : decode cX7_read 204 = .ok (.ireturn, 1) := by decide +kernel
theorem dX7_torn_0 : decode cX7_torn 0 = .ok (.aload_n 0, 1) := by decide +kernel
theorem dX7_torn_1 : decode cX7_torn 1 = .ok (.getfield 236, 3) := by decide +kernel
theorem dX7_torn_4 : decode cX7_torn 4 = .ok (.ireturn, 1) := by decide +kernel
theorem dX7_count_0 : decode cX7_count 0 = .ok (.iconst 0, 1) := by decide +kernel
theorem dX7_count_1 : decode cX7_count 1 = .ok (.istore_n 2, 1) := by decide +kernel
theorem dX7_count_2 : decode cX7_count 2 = .ok (.iconst 0, 1) := by decide +kernel
theorem dX7_count_3 : decode cX7_count 3 = .ok (.istore_n 3, 1) := by decide +kernel
theorem dX7_count_4 : decode cX7_count 4 = .ok (.iconst 0, 1) := by decide +kernel
theorem dX7_count_5 : decode cX7_count 5 = .ok (.istore 4, 2) := by decide +kernel
theorem dX7_count_7 : decode cX7_count 7 = .ok (.iload 4, 2) := by decide +kernel
theorem dX7_count_9 : decode cX7_count 9 = .ok (.aload_n 0, 1) := by decide +kernel
theorem dX7_count_10 : decode cX7_count 10 = .ok (.getfield 125, 3) := by decide +kernel
theorem dX7_count_13 : decode cX7_count 13 = .ok (.if_icmp .ge 34, 3) := by decide +kernel
theorem dX7_count_16 : decode cX7_count 16 = .ok (.iload_n 2, 1) := by decide +kernel
theorem dX7_count_17 : decode cX7_count 17 = .ok (.aload_n 0, 1) := by decide +kernel
theorem dX7_count_18 : decode cX7_count 18 = .ok (.getfield 7, 3) := by decide +kernel
theorem dX7_count_21 : decode cX7_count 21 = .ok (.iconst 5, 1) := by decide +kernel
theorem dX7_count_22 : decode cX7_count 22 = .ok (.iload 4, 2) := by decide +kernel
theorem dX7_count_24 : decode cX7_count 24 = .ok (.iadd, 1) := by decide +kernel
theorem dX7_count_25 : decode cX7_count 25 = .ok (.iaload, 1) := by decide +kernel
theorem dX7_count_26 : decode cX7_count 26 = .ok (.iadd, 1) := by decide +kernel
theorem dX7_count_27 : decode cX7_count 27 = .ok (.istore_n 2, 1) := by decide +kernel
theorem dX7_count_28 : decode cX7_count 28 = .ok (.iload_n 3, 1) := by decide +kernel
theorem dX7_count_29 : decode cX7_count 29 = .ok (.aload_n 0, 1) := by decide +kernel
theorem dX7_count_30 : decode cX7_count 30 = .ok (.getfield 7, 3) := by decide +kernel
theorem dX7_count_33 : decode cX7_count 33 = .ok (.bipush 10, 2) := by decide +kernel
theorem dX7_count_35 : decode cX7_count 35 = .ok (.iload 4, 2) := by decide +kernel
theorem dX7_count_37 : decode cX7_count 37 = .ok (.iadd, 1) := by decide +kernel
theorem dX7_count_38 : decode cX7_count 38 = .ok (.iaload, 1) := by decide +kernel
theorem dX7_count_39 : decode cX7_count 39 = .ok (.iadd, 1) := by decide +kernel
theorem dX7_count_40 : decode cX7_count 40 = .ok (.istore_n 3, 1) := by decide +kernel
theorem dX7_count_41 : decode cX7_count 41 = .ok (.iinc 4 1, 3) := by decide +kernel
theorem dX7_count_44 : decode cX7_count 44 = .ok (.goto (-37), 3) := by decide +kernel
theorem dX7_count_47 : decode cX7_count 47 = .ok (.iload_n 1, 1) := by decide +kernel
theorem dX7_count_48 : decode cX7_count 48 = .ok (.tableswitch 107 0 5 #[40, 45, 75, 80, 103, 105], 40) := by decide +kernel
theorem dX7_count_88 : decode cX7_count 88 = .ok (.aload_n 0, 1) := by decide +kernel
theorem dX7_count_89 : decode cX7_count 89 = .ok (.getfield 128, 3) := by decide +kernel
theorem dX7_count_92 : decode cX7_count 92 = .ok (.ireturn, 1) := by decide +kernel
theorem dX7_count_93 : decode cX7_count 93 = .ok (.aload_n 0, 1) := by decide +kernel
theorem dX7_count_94 : decode cX7_count 94 = .ok (.getfield 38, 3) := by decide +kernel
theorem dX7_count_97 : decode cX7_count 97 = .ok (.iconst 0, 1) := by decide +kernel
theorem dX7_count_98 : decode cX7_count 98 = .ok (.baload, 1) := by decide +kernel
theorem dX7_count_99 : decode cX7_count 99 = .ok (.ifCond .eq 7, 3) := by decide +kernel
theorem dX7_count_102 : decode cX7_count 102 = .ok (.iconst 1, 1) := by decide +kernel
theorem dX7_count_103 : decode cX7_count 103 = .ok (.goto 4, 3) := by decide +kernel
theorem dX7_count_106 : decode cX7_count 106 = .ok (.iconst 0, 1) := by decide +kernel
theorem dX7_count_107 : decode cX7_count 107 = .ok (.aload_n 0, 1) := by decide +kernel
theorem dX7_count_108 : decode cX7_count 108 = .ok (.getfield 38, 3) := by decide +kernel
theorem dX7_count_111 : decode cX7_count 111 = .ok (.iconst 1, 1) := by decide +kernel
theorem dX7_count_112 : decode cX7_count 112 = .ok (.baload, 1) := by decide +kernel
theorem dX7_count_113 : decode cX7_count 113 = .ok (.ifCond .eq 7, 3) := by decide +kernel
theorem dX7_count_116 : decode cX7_count 116 = .ok (.iconst 1, 1) := by decide +kernel
theorem dX7_count_117 : decode cX7_count 117 = .ok (.goto 4, 3) := by decide +kernel
theorem dX7_count_120 : decode cX7_count 120 = .ok (.iconst 0, 1) := by decide +kernel
theorem dX7_count_121 : decode cX7_count 121 = .ok (.iadd, 1) := by decide +kernel
theorem dX7_count_122 : decode cX7_count 122 = .ok (.ireturn, 1) := by decide +kernel
theorem dX7_count_123 : decode cX7_count 123 = .ok (.aload_n 0, 1) := by decide +kernel
theorem dX7_count_124 : decode cX7_count 124 = .ok (.getfield 57, 3) := by decide +kernel
theorem dX7_count_127 : decode cX7_count 127 = .ok (.ireturn, 1) := by decide +kernel
theorem dX7_count_128 : decode cX7_count 128 = .ok (.aload_n 0, 1) := by decide +kernel
theorem dX7_count_129 : decode cX7_count 129 = .ok (.getfield 42, 3) := by decide +kernel
theorem dX7_count_132 : decode cX7_count 132 = .ok (.iconst 0, 1) := by decide +kernel
theorem dX7_count_133 : decode cX7_count 133 = .ok (.iaload, 1) := by decide +kernel
theorem dX7_count_134 : decode cX7_count 134 = .ok (.bipush (-4), 2) := by decide +kernel
theorem dX7_count_136 : decode cX7_count 136 = .ok (.if_icmp .ne 8, 3) := by decide +kernel
theorem dX7_count_139 : decode cX7_count 139 = .ok (.bipush (-4), 2) := by decide +kernel
theorem dX7_count_141 : decode cX7_count 141 = .ok (.goto 9, 3) := by decide +kernel
theorem dX7_count_144 : decode cX7_count 144 = .ok (.aload_n 0, 1) := by decide +kernel
theorem dX7_count_145 : decode cX7_count 145 = .ok (.getfield 45, 3) := by decide +kernel
theorem dX7_count_148 : decode cX7_count 148 = .ok (.iconst 0, 1) := by decide +kernel
theorem dX7_count_149 : decode cX7_count 149 = .ok (.iaload, 1) := by decide +kernel
theorem dX7_count_150 : decode cX7_count 150 = .ok (.ireturn, 1) := by decide +kernel
theorem dX7_count_151 : decode cX7_count 151 = .ok (.iload_n 2, 1) := by decide +kernel
theorem dX7_count_152 : decode cX7_count 152 = .ok (.ireturn, 1) := by decide +kernel
theorem dX7_count_153 : decode cX7_count 153 = .ok (.iload_n 3, 1) := by decide +kernel
theorem dX7_count_154 : decode cX7_count 154 = .ok (.ireturn, 1) := by decide +kernel
theorem dX7_count_155 : decode cX7_count 155 = .ok (.iconst (-1), 1) := by decide +kernel
theorem dX7_count_156 : decode cX7_count 156 = .ok (.ireturn, 1) := by decide +kernel
