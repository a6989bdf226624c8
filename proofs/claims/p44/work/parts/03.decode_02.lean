theorem dX3_isWholeWithin_18 : decode cX3_isWholeWithin 18 = .ok (.iload_n 1, 1) := by decide +kernel
theorem dX3_isWholeWithin_19 : decode cX3_isWholeWithin 19 = .ok (.iload_n 2, 1) := by decide +kernel
theorem dX3_isWholeWithin_20 : decode cX3_isWholeWithin 20 = .ok (.invokestatic 223, 3) := by decide +kernel
theorem dX3_isWholeWithin_23 : decode cX3_isWholeWithin 23 = .ok (.ifCond .ne 11, 3) := by decide +kernel
theorem dX3_isWholeWithin_26 : decode cX3_isWholeWithin 26 = .ok (.aload_n 0, 1) := by decide +kernel
theorem dX3_isWholeWithin_27 : decode cX3_isWholeWithin 27 = .ok (.iconst 4, 1) := by decide +kernel
theorem dX3_isWholeWithin_28 : decode cX3_isWholeWithin 28 = .ok (.invokevirtual 64, 3) := by decide +kernel
theorem dX3_isWholeWithin_31 : decode cX3_isWholeWithin 31 = .ok (.ifCond .eq 7, 3) := by decide +kernel
theorem dX3_isWholeWithin_34 : decode cX3_isWholeWithin 34 = .ok (.iconst 1, 1) := by decide +kernel
theorem dX3_isWholeWithin_35 : decode cX3_isWholeWithin 35 = .ok (.goto 4, 3) := by decide +kernel
theorem dX3_isWholeWithin_38 : decode cX3_isWholeWithin 38 = .ok (.iconst 0, 1) := by decide +kernel
theorem dX3_isWholeWithin_39 : decode cX3_isWholeWithin 39 = .ok (.ireturn, 1) := by decide +kernel
theorem dX3_takeWhole_0 : decode cX3_takeWhole 0 = .ok (.aload_n 0, 1) := by decide +kernel
theorem dX3_takeWhole_1 : decode cX3_takeWhole 1 = .ok (.aload_n 1, 1) := by decide +kernel
theorem dX3_takeWhole_2 : decode cX3_takeWhole 2 = .ok (.invokevirtual 100, 3) := by decide +kernel
theorem dX3_takeWhole_5 : decode cX3_takeWhole 5 = .ok (.ifCond .ne 9, 3) := by decide +kernel
theorem dX3_takeWhole_8 : decode cX3_takeWhole 8 = .ok (.aload_n 0, 1) := by decide +kernel
theorem dX3_takeWhole_9 : decode cX3_takeWhole 9 = .ok (.iconst 1, 1) := by decide +kernel
theorem dX3_takeWhole_10 : decode cX3_takeWhole 10 = .ok (.invokevirtual 64, 3) := by decide +kernel
theorem dX3_takeWhole_13 : decode cX3_takeWhole 13 = .ok (.ireturn, 1) := by decide +kernel
theorem dX3_takeWhole_14 : decode cX3_takeWhole 14 = .ok (.aload_n 0, 1) := by decide +kernel
theorem dX3_takeWhole_15 : decode cX3_takeWhole 15 = .ok (.invokevirtual 54, 3) := by decide +kernel
theorem dX3_takeWhole_18 : decode cX3_takeWhole 18 = .ok (.aload_n 0, 1) := by decide +kernel
theorem dX3_takeWhole_19 : decode cX3_takeWhole 19 = .ok (.iload_n 2, 1) := by decide +kernel
theorem dX3_takeWhole_20 : decode cX3_takeWhole 20 = .ok (.iload_n 3, 1) := by decide +kernel
theorem dX3_takeWhole_21 : decode cX3_takeWhole 21 = .ok (.invokevirtual 192, 3) := by decide +kernel
theorem dX3_takeWhole_24 : decode cX3_takeWhole 24 = .ok (.ifCond .ne 5, 3) := by decide +kernel
theorem dX3_takeWhole_27 : decode cX3_takeWhole 27 = .ok (.iconst 0, 1) := by decide +kernel
theorem dX3_takeWhole_28 : decode cX3_takeWhole 28 = .ok (.ireturn, 1) := by decide +kernel
theorem dX3_takeWhole_29 : decode cX3_takeWhole 29 = .ok (.aload_n 0, 1) := by decide +kernel
theorem dX3_takeWhole_30 : decode cX3_takeWhole 30 = .ok (.aload_n 0, 1) := by decide +kernel
theorem dX3_takeWhole_31 : decode cX3_takeWhole 31 = .ok (.getfield 85, 3) := by decide +kernel
theorem dX3_takeWhole_34 : decode cX3_takeWhole 34 = .ok (.putfield 156, 3) := by decide +kernel
theorem dX3_takeWhole_37 : decode cX3_takeWhole 37 = .ok (.aload_n 0, 1) := by decide +kernel
theorem dX3_takeWhole_38 : decode cX3_takeWhole 38 = .ok (.invokevirtual 54, 3) := by decide +kernel
theorem dX3_takeWhole_41 : decode cX3_takeWhole 41 = .ok (.iconst 1, 1) := by decide +kernel
theorem dX3_takeWhole_42 : decode cX3_takeWhole 42 = .ok (.ireturn, 1) := by decide +kernel
theorem dX3_takeName_0 : decode cX3_takeName 0 = .ok (.aload_n 0, 1) := by decide +kernel
theorem dX3_takeName_1 : decode cX3_takeName 1 = .ok (.getfield 61, 3) := by decide +kernel
theorem dX3_takeName_4 : decode cX3_takeName 4 = .ok (.iconst 1, 1) := by decide +kernel
theorem dX3_takeName_5 : decode cX3_takeName 5 = .ok (.if_icmp .ne 48, 3) := by decide +kernel
theorem dX3_takeName_8 : decode cX3_takeName 8 = .ok (.aload_n 0, 1) := by decide +kernel
theorem dX3_takeName_9 : decode cX3_takeName 9 = .ok (.ldc 98, 2) := by decide +kernel
theorem dX3_takeName_11 : decode cX3_takeName 11 = .ok (.invokevirtual 100, 3) := by decide +kernel
theorem dX3_takeName_14 : decode cX3_takeName 14 = .ok (.ifCond .ne 39, 3) := by decide +kernel
theorem dX3_takeName_17 : decode cX3_takeName 17 = .ok (.aload_n 0, 1) := by decide +kernel
theorem dX3_takeName_18 : decode cX3_takeName 18 = .ok (.ldc 110, 2) := by decide +kernel
theorem dX3_takeName_20 : decode cX3_takeName 20 = .ok (.invokevirtual 100, 3) := by decide +kernel
theorem dX3_takeName_23 : decode cX3_takeName 23 = .ok (.ifCond .ne 30, 3) := by decide +kernel
theorem dX3_takeName_26 : decode cX3_takeName 26 = .ok (.aload_n 0, 1) := by decide +kernel
theorem dX3_takeName_27 : decode cX3_takeName 27 = .ok (.ldc 112, 2) := by decide +kernel
theorem dX3_takeName_29 : decode cX3_takeName 29 = .ok (.invokevirtual 100, 3) := by decide +kernel
theorem dX3_takeName_32 : decode cX3_takeName 32 = .ok (.ifCond .ne 21, 3) := by decide +kernel
theorem dX3_takeName_35 : decode cX3_takeName 35 = .ok (.aload_n 0, 1) := by decide +kernel
theorem dX3_takeName_36 : decode cX3_takeName 36 = .ok (.ldc 114, 2) := by decide +kernel
theorem dX3_takeName_38 : decode cX3_takeName 38 = .ok (.invokevirtual 100, 3) := by decide +kernel
theorem dX3_takeName_41 : decode cX3_takeName 41 = .ok (.ifCond .ne 12, 3) := by decide +kernel
theorem dX3_takeName_44 : decode cX3_takeName 44 = .ok (.aload_n 0, 1) := by decide +kernel
theorem dX3_takeName_45 : decode cX3_takeName 45 = .ok (.ldc 116, 2) := by decide +kernel
theorem dX3_takeName_47 : decode cX3_takeName 47 = .ok (.invokevirtual 100, 3) := by decide +kernel
theorem dX3_takeName_50 : decode cX3_takeName 50 = .ok (.ifCond .eq 9, 3) := by decide +kernel
theorem dX3_takeName_53 : decode cX3_takeName 53 = .ok (.aload_n 0, 1) := by decide +kernel
theorem dX3_takeName_54 : decode cX3_takeName 54 = .ok (.iconst 1, 1) := by decide +kernel
theorem dX3_takeName_55 : decode cX3_takeName 55 = .ok (.invokevirtual 64, 3) := by decide +kernel
theorem dX3_takeName_58 : decode cX3_takeName 58 = .ok (.ireturn, 1) := by decide +kernel
theorem dX3_takeName_59 : decode cX3_takeName 59 = .ok (.iconst 0, 1) := by decide +kernel
theorem dX3_takeName_60 : decode cX3_takeName 60 = .ok (.istore_n 1, 1) := by decide +kernel
theorem dX3_takeName_61 : decode cX3_takeName 61 = .ok (.iload_n 1, 1) := by decide +kernel
theorem dX3_takeName_62 : decode cX3_takeName 62 = .ok (.aload_n 0, 1) := by decide +kernel
theorem dX3_takeName_63 : decode cX3_takeName 63 = .ok (.getfield 42, 3) := by decide +kernel
theorem dX3_takeName_66 : decode cX3_takeName 66 = .ok (.if_icmp .ge 29, 3) := by decide +kernel
theorem dX3_takeName_69 : decode cX3_takeName 69 = .ok (.aload_n 0, 1) := by decide +kernel
theorem dX3_takeName_70 : decode cX3_takeName 70 = .ok (.getfield 15, 3) := by decide +kernel
theorem dX3_takeName_73 : decode cX3_takeName 73 = .ok (.iload_n 1, 1) := by decide +kernel
theorem dX3_takeName_74 : decode cX3_takeName 74 = .ok (.laload, 1) := by decide +kernel
theorem dX3_takeName_75 : decode cX3_takeName 75 = .ok (.aload_n 0, 1) := by decide +kernel
theorem dX3_takeName_76 : decode cX3_takeName 76 = .ok (.getfield 81, 3) := by decide +kernel
theorem dX3_takeName_79 : decode cX3_takeName 79 = .ok (.lcmp, 1) := by decide +kernel
theorem dX3_takeName_80 : decode cX3_takeName 80 = .ok (.ifCond .ne 9, 3) := by decide +kernel
theorem dX3_takeName_83 : decode cX3_takeName 83 = .ok (.aload_n 0, 1) := by decide +kernel
theorem dX3_takeName_84 : decode cX3_takeName 84 = .ok (.iconst 3, 1) := by decide +kernel
theorem dX3_takeName_85 : decode cX3_takeName 85 = .ok (.invokevirtual 64, 3) := by decide +kernel
theorem dX3_takeName_88 : decode cX3_takeName 88 = .ok (.ireturn, 1) := by decide +kernel
theorem dX3_takeName_89 : decode cX3_takeName 89 = .ok (.iinc 1 1, 3) := by decide +kernel
theorem dX3_takeName_92 : decode cX3_takeName 92 = .ok (.goto (-31), 3) := by decide +kernel
theorem dX3_takeName_95 : decode cX3_takeName 95 = .ok (.aload_n 0, 1) := by decide +kernel
theorem dX3_takeName_96 : decode cX3_takeName 96 = .ok (.getfield 42, 3) := by decide +kernel
theorem dX3_takeName_99 : decode cX3_takeName 99 = .ok (.bipush 12, 2) := by decide +kernel
theorem dX3_takeName_101 : decode cX3_takeName 101 = .ok (.if_icmp .ge 26, 3) := by decide +kernel
theorem dX3_takeName_104 : decode cX3_takeName 104 = .ok (.aload_n 0, 1) := by decide +kernel
theorem dX3_takeName_105 : decode cX3_takeName 105 = .ok (.getfield 15, 3) := by decide +kernel
theorem dX3_takeName_108 : decode cX3_takeName 108 = .ok (.aload_n 0, 1) := by decide +kernel
theorem dX3_takeName_109 : decode cX3_takeName 109 = .ok (.getfield 42, 3) := by decide +kernel
theorem dX3_takeName_112 : decode cX3_takeName 112 = .ok (.aload_n 0, 1) := by decide +kernel
theorem dX3_takeName_113 : decode cX3_takeName 113 = .ok (.getfield 81, 3) := by decide +kernel
theorem dX3_takeName_116 : decode cX3_takeName 116 = .ok (.lastore, 1) := by decide +kernel
theorem dX3_takeName_117 : decode cX3_takeName 117 = .ok (.aload_n 0, 1) := by decide +kernel
theorem dX3_takeName_118 : decode cX3_takeName 118 = .ok (.dup, 1) := by decide +kernel
theorem dX3_takeName_119 : decode cX3_takeName 119 = .ok (.getfield 42, 3) := by decide +kernel
theorem dX3_takeName_122 : decode cX3_takeName 122 = .ok (.iconst 1, 1) := by decide +kernel
theorem dX3_takeName_123 : decode cX3_takeName 123 = .ok (.iadd, 1) := by decide +kernel
theorem dX3_takeName_124 : decode cX3_takeName 124 = .ok (.putfield 42, 3) := by decide +kernel
theorem dX3_takeName_127 : decode cX3_takeName 127 = .ok (.aload_n 0, 1) := by decide +kernel
theorem dX3_takeName_128 : decode cX3_takeName 128 = .ok (.invokevirtual 54, 3) := by decide +kernel
theorem dX3_takeName_131 : decode cX3_takeName 131 = .ok (.iconst 1, 1) := by decide +kernel
theorem dX3_takeName_132 : decode cX3_takeName 132 = .ok (.ireturn, 1) := by decide +kernel
theorem dX4_init_0 : decode cX4_init 0 = .ok (.aload_n 0, 1) := by decide +kernel
theorem dX4_init_1 : decode cX4_init 1 = .ok (.invokespecial 3, 3) := by decide +kernel
theorem dX4_init_4 : decode cX4_init 4 = .ok (.aload_n 0, 1) := by decide +kernel
theorem dX4_init_5 : decode cX4_init 5 = .ok (.bipush 61, 2) := by decide +kernel
theorem dX4_init_7 : decode cX4_init 7 = .ok (.newarray .int, 2) := by decide +kernel
theorem dX4_init_9 : decode cX4_init 9 = .ok (.putfield 9, 3) := by decide +kernel
theorem dX4_init_12 : decode cX4_init 12 = .ok (.aload_n 0, 1) := by decide +kernel
theorem dX4_init_13 : decode cX4_init 13 = .ok (.sipush 549, 3) := by decide +kernel
theorem dX4_init_16 : decode cX4_init 16 = .ok (.newarray .int, 2) := by decide +kernel
theorem dX4_init_18 : decode cX4_init 18 = .ok (.putfield 15, 3) := by decide +kernel
theorem dX4_init_21 : decode cX4_init 21 = .ok (.return_, 1) := by decide +kernel
theorem dX4_aim_0 : decode cX4_aim 0 = .ok (.iload_n 1, 1) := by decide +kernel
theorem dX4_aim_1 : decode cX4_aim 1 = .ok (.iconst 1, 1) := by decide +kernel
theorem dX4_aim_2 : decode cX4_aim 2 = .ok (.bipush 60, 2) := by decide +kernel
theorem dX4_aim_4 : decode cX4_aim 4 = .ok (.invokestatic 18, 3) := by decide +kernel
theorem dX4_aim_7 : decode cX4_aim 7 = .ok (.ifCond .eq 10, 3) := by decide +kernel
theorem dX4_aim_10 : decode cX4_aim 10 = .ok (.aload_n 0, 1) := by decide +kernel
theorem dX4_aim_11 : decode cX4_aim 11 = .ok (.getfield 9, 3) := by decide +kernel
theorem dX4_aim_14 : decode cX4_aim 14 = .ok (.iload_n 1, 1) := by decide +kernel
theorem dX4_aim_15 : decode cX4_aim 15 = .ok (.iload_n 2, 1) := by decide +kernel
theorem dX4_aim_16 : decode cX4_aim 16 = .ok (.iastore, 1) := by decide +kernel
theorem dX4_aim_17 : decode cX4_aim 17 = .ok (.return_, 1) := by decide +kernel
theorem dX4_weigh_0 : decode cX4_weigh 0 = .ok (.aload_n 0, 1) := by decide +kernel
theorem dX4_weigh_1 : decode cX4_weigh 1 = .ok (.iload_n 2, 1) := by decide +kernel
theorem dX4_weigh_2 : decode cX4_weigh 2 = .ok (.bipush 9, 2) := by decide +kernel
theorem dX4_weigh_4 : decode cX4_weigh 4 = .ok (.invokestatic 22, 3) := by decide +kernel
theorem dX4_weigh_7 : decode cX4_weigh 7 = .ok (.putfield 28, 3) := by decide +kernel
theorem dX4_weigh_10 : decode cX4_weigh 10 = .ok (.iload_n 1, 1) := by decide +kernel
theorem dX4_weigh_11 : decode cX4_weigh 11 = .ok (.bipush 60, 2) := by decide +kernel
theorem dX4_weigh_13 : decode cX4_weigh 13 = .ok (.invokestatic 22, 3) := by decide +kernel
theorem dX4_weigh_16 : decode cX4_weigh 16 = .ok (.istore_n 3, 1) := by decide +kernel
theorem dX4_weigh_17 : decode cX4_weigh 17 = .ok (.iconst 0, 1) := by decide +kernel
theorem dX4_weigh_18 : decode cX4_weigh 18 = .ok (.istore 4, 2) := by decide +kernel
theorem dX4_weigh_20 : decode cX4_weigh 20 = .ok (.iload 4, 2) := by decide +kernel
theorem dX4_weigh_22 : decode cX4_weigh 22 = .ok (.aload_n 0, 1) := by decide +kernel
theorem dX4_weigh_23 : decode cX4_weigh 23 = .ok (.getfield 28, 3) := by decide +kernel
theorem dX4_weigh_26 : decode cX4_weigh 26 = .ok (.if_icmp .ge 22, 3) := by decide +kernel
theorem dX4_weigh_29 : decode cX4_weigh 29 = .ok (.aload_n 0, 1) := by decide +kernel
theorem dX4_weigh_30 : decode cX4_weigh 30 = .ok (.getfield 15, 3) := by decide +kernel
theorem dX4_weigh_33 : decode cX4_weigh 33 = .ok (.iload_n 3, 1) := by decide +kernel
theorem dX4_weigh_34 : decode cX4_weigh 34 = .ok (.bipush 9, 2) := by decide +kernel
theorem dX4_weigh_36 : decode cX4_weigh 36 = .ok (.imul, 1) := by decide +kernel
theorem dX4_weigh_37 : decode cX4_weigh 37 = .ok (.iload 4, 2) := by decide +kernel
theorem dX4_weigh_39 : decode cX4_weigh 39 = .ok (.iadd, 1) := by decide +kernel
theorem dX4_weigh_40 : decode cX4_weigh 40 = .ok (.iconst 0, 1) := by decide +kernel
theorem dX4_weigh_41 : decode cX4_weigh 41 = .ok (.iastore, 1) := by decide +kernel
theorem dX4_weigh_42 : decode cX4_weigh 42 = .ok (.iinc 4 1, 3) := by decide +kernel
theorem dX4_weigh_45 : decode cX4_weigh 45 = .ok (.goto (-25), 3) := by decide +kernel
theorem dX4_weigh_48 : decode cX4_weigh 48 = .ok (.iload_n 3, 1) := by decide +kernel
theorem dX4_weigh_49 : decode cX4_weigh 49 = .ok (.istore 4, 2) := by decide +kernel
theorem dX4_weigh_51 : decode cX4_weigh 51 = .ok (.iload 4, 2) := by decide +kernel
theorem dX4_weigh_53 : decode cX4_weigh 53 = .ok (.iconst 1, 1) := by decide +kernel
theorem dX4_weigh_54 : decode cX4_weigh 54 = .ok (.if_icmp .lt 56, 3) := by decide +kernel
theorem dX4_weigh_57 : decode cX4_weigh 57 = .ok (.iconst 0, 1) := by decide +kernel
theorem dX4_weigh_58 : decode cX4_weigh 58 = .ok (.istore 5, 2) := by decide +kernel
theorem dX4_weigh_60 : decode cX4_weigh 60 = .ok (.iload 5, 2) := by decide +kernel
theorem dX4_weigh_62 : decode cX4_weigh 62 = .ok (.aload_n 0, 1) := by decide +kernel
theorem dX4_weigh_63 : decode cX4_weigh 63 = .ok (.getfield 28, 3) := by decide +kernel
theorem dX4_weigh_66 : decode cX4_weigh 66 = .ok (.if_icmp .ge 38, 3) := by decide +kernel
theorem dX4_weigh_69 : decode cX4_weigh 69 = .ok (.aload_n 0, 1) := by decide +kernel
theorem dX4_weigh_70 : decode cX4_weigh 70 = .ok (.getfield 15, 3) := by decide +kernel
theorem dX4_weigh_73 : decode cX4_weigh 73 = .ok (.iload 4, 2) := by decide +kernel
theorem dX4_weigh_75 : decode cX4_weigh 75 = .ok (.iconst 1, 1) := by decide +kernel
theorem dX4_weigh_76 : decode cX4_weigh 76 = .ok (.isub, 1) := by decide +kernel
theorem dX4_weigh_77 : decode cX4_weigh 77 = .ok (.bipush 9, 2) := by decide +kernel
theorem dX4_weigh_79 : decode cX4_weigh 79 = .ok (.imul, 1) := by decide +kernel
theorem dX4_weigh_80 : decode cX4_weigh 80 = .ok (.iload 5, 2) := by decide +kernel
theorem dX4_weigh_82 : decode cX4_weigh 82 = .ok (.iadd, 1) := by decide +kernel
theorem dX4_weigh_83 : decode cX4_weigh 83 = .ok (.aload_n 0, 1) := by decide +kernel
theorem dX4_weigh_84 : decode cX4_weigh 84 = .ok (.iload 4, 2) := by decide +kernel
theorem dX4_weigh_86 : decode cX4_weigh 86 = .ok (.aload_n 0, 1) := by decide +kernel
theorem dX4_weigh_87 : decode cX4_weigh 87 = .ok (.iload 4, 2) := by decide +kernel
theorem dX4_weigh_89 : decode cX4_weigh 89 = .ok (.iload 5, 2) := by decide +kernel
theorem dX4_weigh_91 : decode cX4_weigh 91 = .ok (.invokevirtual 32, 3) := by decide +kernel
theorem dX4_weigh_94 : decode cX4_weigh 94 = .ok (.invokevirtual 35, 3) := by decide +kernel
theorem dX4_weigh_97 : decode cX4_weigh 97 = .ok (.iastore, 1) := by decide +kernel
theorem dX4_weigh_98 : decode cX4_weigh 98 = .ok (.iinc 5 1, 3) := by decide +kernel
theorem dX4_weigh_101 : decode cX4_weigh 101 = .ok (.goto (-41), 3) := by decide +kernel
theorem dX4_weigh_104 : decode cX4_weigh 104 = .ok (.iinc 4 (-1), 3) := by decide +kernel
theorem dX4_weigh_107 : decode cX4_weigh 107 = .ok (.goto (-56), 3) := by decide +kernel
theorem dX4_weigh_110 : decode cX4_weigh 110 = .ok (.return_, 1) := by decide +kernel
theorem dX4_worth_0 : decode cX4_worth 0 = .ok (.aload_n 0, 1) := by decide +kernel
theorem dX4_worth_1 : decode cX4_worth 1 = .ok (.getfield 15, 3) := by decide +kernel
theorem dX4_worth_4 : decode cX4_worth 4 = .ok (.iload_n 1, 1) := by decide +kernel
theorem dX4_worth_5 : decode cX4_worth 5 = .ok (.bipush 9, 2) := by decide +kernel
theorem dX4_worth_7 : decode cX4_worth 7 = .ok (.imul, 1) := by decide +kernel
theorem dX4_worth_8 : decode cX4_worth 8 = .ok (.iload_n 2, 1) := by decide +kernel
theorem dX4_worth_9 : decode cX4_worth 9 = .ok (.iadd, 1) := by decide +kernel
theorem dX4_worth_10 : decode cX4_worth 10 = .ok (.iaload, 1) := by decide +kernel
theorem dX4_worth_11 : decode cX4_worth 11 = .ok (.aload_n 0, 1) := by decide +kernel
theorem dX4_worth_12 : decode cX4_worth 12 = .ok (.getfield 9, 3) := by decide +kernel
theorem dX4_worth_15 : decode cX4_worth 15 = .ok (.iload_n 1, 1) := by decide +kernel
theorem dX4_worth_16 : decode cX4_worth 16 = .ok (.iaload, 1) := by decide +kernel
theorem dX4_worth_17 : decode cX4_worth 17 = .ok (.iload_n 2, 1) := by decide +kernel
theorem dX4_worth_18 : decode cX4_worth 18 = .ok (.if_icmp .ne 7, 3) := by decide +kernel
theorem dX4_worth_21 : decode cX4_worth 21 = .ok (.iconst 1, 1) := by decide +kernel
theorem dX4_worth_22 : decode cX4_worth 22 = .ok (.goto 4, 3) := by decide +kernel
theorem dX4_worth_25 : decode cX4_worth 25 = .ok (.iconst 0, 1) := by decide +kernel
theorem dX4_worth_26 : decode cX4_worth 26 = .ok (.iadd, 1) := by decide +kernel
theorem dX4_worth_27 : decode cX4_worth 27 = .ok (.ireturn, 1) := by decide +kernel
theorem dX4_step_0 : decode cX4_step 0 = .ok (.iload_n 2, 1) := by decide +kernel
theorem dX4_step_1 : decode cX4_step 1 = .ok (.istore_n 3, 1) := by decide +kernel
theorem dX4_step_2 : decode cX4_step 2 = .ok (.iload_n 2, 1) := by decide +kernel
theorem dX4_step_3 : decode cX4_step 3 = .ok (.ifCond .le 24, 3) := by decide +kernel
theorem dX4_step_6 : decode cX4_step 6 = .ok (.aload_n 0, 1) := by decide +kernel
theorem dX4_step_7 : decode cX4_step 7 = .ok (.iload_n 1, 1) := by decide +kernel
theorem dX4_step_8 : decode cX4_step 8 = .ok (.iload_n 2, 1) := by decide +kernel
theorem dX4_step_9 : decode cX4_step 9 = .ok (.iconst 1, 1) := by decide +kernel
theorem dX4_step_10 : decode cX4_step 10 = .ok (.isub, 1) := by decide +kernel
theorem dX4_step_11 : decode cX4_step 11 = .ok (.invokevirtual 35, 3) := by decide +kernel
theorem dX4_step_14 : decode cX4_step 14 = .ok (.aload_n 0, 1) := by decide +kernel
theorem dX4_step_15 : decode cX4_step 15 = .ok (.iload_n 1, 1) := by decide +kernel
theorem dX4_step_16 : decode cX4_step 16 = .ok (.iload_n 3, 1) := by decide +kernel
theorem dX4_step_17 : decode cX4_step 17 = .ok (.invokevirtual 35, 3) := by decide +kernel
theorem dX4_step_20 : decode cX4_step 20 = .ok (.if_icmp .le 7, 3) := by decide +kernel
theorem dX4_step_23 : decode cX4_step 23 = .ok (.iload_n 2, 1) := by decide +kernel
theorem dX4_step_24 : decode cX4_step 24 = .ok (.iconst 1, 1) := by decide +kernel
theorem dX4_step_25 : decode cX4_step 25 = .ok (.isub, 1) := by decide +kernel
theorem dX4_step_26 : decode cX4_step 26 = .ok (.istore_n 3, 1) := by decide +kernel
theorem dX4_step_27 : decode cX4_step 27 = .ok (.iload_n 2, 1) := by decide +kernel
theorem dX4_step_28 : decode cX4_step 28 = .ok (.iconst 1, 1) := by decide +kernel
theorem dX4_step_29 : decode cX4_step 29 = .ok (.iadd, 1) := by decide +kernel
theorem dX4_step_30 : decode cX4_step 30 = .ok (.aload_n 0, 1) := by decide +kernel
theorem dX4_step_31 : decode cX4_step 31 = .ok (.getfield 28, 3) := by decide +kernel
theorem dX4_step_34 : decode cX4_step 34 = .ok (.if_icmp .ge 24, 3) := by decide +kernel
theorem dX4_step_37 : decode cX4_step 37 = .ok (.aload_n 0, 1) := by decide +kernel
theorem dX4_step_38 : decode cX4_step 38 = .ok (.iload_n 1, 1) := by decide +kernel
theorem dX4_step_39 : decode cX4_step 39 = .ok (.iload_n 2, 1) := by decide +kernel
theorem dX4_step_40 : decode cX4_step 40 = .ok (.iconst 1, 1) := by decide +kernel
theorem dX4_step_41 : decode cX4_step 41 = .ok (.iadd, 1) := by decide +kernel
theorem dX4_step_42 : decode cX4_step 42 = .ok (.invokevirtual 35, 3) := by decide +kernel
theorem dX4_step_45 : decode cX4_step 45 = .ok (.aload_n 0, 1) := by decide +kernel
theorem dX4_step_46 : decode cX4_step 46 = .ok (.iload_n 1, 1) := by decide +kernel
theorem dX4_step_47 : decode cX4_step 47 = .ok (.iload_n 3, 1) := by decide +kernel
theorem dX4_step_48 : decode cX4_step 48 = .ok (.invokevirtual 35, 3) := by decide +kernel
theorem dX4_step_51 : decode cX4_step 51 = .ok (.if_icmp .le 7, 3) := by decide +kernel
theorem dX4_step_54 : decode cX4_step 54 = .ok (.iload_n 2, 1) := by decide +kernel
theorem dX4_step_55 : decode cX4_step 55 = .ok (.iconst 1, 1) := by decide +kernel
theorem dX4_step_56 : decode cX4_step 56 = .ok (.iadd, 1) := by decide +kernel
theorem dX4_step_57 : decode cX4_step 57 = .ok (.istore_n 3, 1) := by decide +kernel
theorem dX4_step_58 : decode cX4_step 58 = .ok (.iload_n 3, 1) := by decide +kernel
theorem dX4_step_59 : decode cX4_step 59 = .ok (.ireturn, 1) := by decide +kernel
theorem dX4_minutesWith_0 : decode cX4_minutesWith 0 = .ok (.iload_n 1, 1) := by decide +kernel
theorem dX4_minutesWith_1 : decode cX4_minutesWith 1 = .ok (.iconst 0, 1) := by decide +kernel
theorem dX4_minutesWith_2 : decode cX4_minutesWith 2 = .ok (.aload_n 0, 1) := by decide +kernel
theorem dX4_minutesWith_3 : decode cX4_minutesWith 3 = .ok (.getfield 28, 3) := by decide +kernel
theorem dX4_minutesWith_6 : decode cX4_minutesWith 6 = .ok (.iconst 1, 1) := by decide +kernel
theorem dX4_minutesWith_7 : decode cX4_minutesWith 7 = .ok (.isub, 1) := by decide +kernel
theorem dX4_minutesWith_8 : decode cX4_minutesWith 8 = .ok (.invokestatic 18, 3) := by decide +kernel
theorem dX4_minutesWith_11 : decode cX4_minutesWith 11 = .ok (.ifCond .eq 12, 3) := by decide +kernel
theorem dX4_minutesWith_14 : decode cX4_minutesWith 14 = .ok (.aload_n 0, 1) := by decide +kernel
theorem dX4_minutesWith_15 : decode cX4_minutesWith 15 = .ok (.getfield 15, 3) := by decide +kernel
theorem dX4_minutesWith_18 : decode cX4_minutesWith 18 = .ok (.iload_n 1, 1) := by decide +kernel
theorem dX4_minutesWith_19 : decode cX4_minutesWith 19 = .ok (.iaload, 1) := by decide +kernel
theorem dX4_minutesWith_20 : decode cX4_minutesWith 20 = .ok (.goto 4, 3) := by decide +kernel
theorem dX4_minutesWith_23 : decode cX4_minutesWith 23 = .ok (.iconst 0, 1) := by decide +kernel
theorem dX4_minutesWith_24 : decode cX4_minutesWith 24 = .ok (.ireturn, 1) := by decide +kernel
theorem dX4_placeIn_0 : decode cX4_placeIn 0 = .ok (.iload_n 2, 1) := by decide +kernel
theorem dX4_placeIn_1 : decode cX4_placeIn 1 = .ok (.istore_n 3, 1) := by decide +kernel
theorem dX4_placeIn_2 : decode cX4_placeIn 2 = .ok (.iconst 1, 1) := by decide +kernel
theorem dX4_placeIn_3 : decode cX4_placeIn 3 = .ok (.istore 4, 2) := by decide +kernel
theorem dX4_placeIn_5 : decode cX4_placeIn 5 = .ok (.iload 4, 2) := by decide +kernel
theorem dX4_placeIn_7 : decode cX4_placeIn 7 = .ok (.iload_n 1, 1) := by decide +kernel
theorem dX4_placeIn_8 : decode cX4_placeIn 8 = .ok (.if_icmp .gt 24, 3) := by decide +kernel
theorem dX4_placeIn_11 : decode cX4_placeIn 11 = .ok (.iload 4, 2) := by decide +kernel
theorem dX4_placeIn_13 : decode cX4_placeIn 13 = .ok (.bipush 60, 2) := by decide +kernel
theorem dX4_placeIn_15 : decode cX4_placeIn 15 = .ok (.if_icmp .gt 17, 3) := by decide +kernel
theorem dX4_placeIn_18 : decode cX4_placeIn 18 = .ok (.aload_n 0, 1) := by decide +kernel
theorem dX4_placeIn_19 : decode cX4_placeIn 19 = .ok (.iload 4, 2) := by decide +kernel
theorem dX4_placeIn_21 : decode cX4_placeIn 21 = .ok (.iload_n 3, 1) := by decide +kernel
theorem dX4_placeIn_22 : decode cX4_placeIn 22 = .ok (.invokevirtual 32, 3) := by decide +kernel
theorem dX4_placeIn_25 : decode cX4_placeIn 25 = .ok (.istore_n 3, 1) := by decide +kernel
theorem dX4_placeIn_26 : decode cX4_placeIn 26 = .ok (.iinc 4 1, 3) := by decide +kernel
theorem dX4_placeIn_29 : decode cX4_placeIn 29 = .ok (.goto (-24), 3) := by decide +kernel
theorem dX4_placeIn_32 : decode cX4_placeIn 32 = .ok (.iload_n 3, 1) := by decide +kernel
theorem dX4_placeIn_33 : decode cX4_placeIn 33 = .ok (.ireturn, 1) := by decide +kernel
theorem dX5_init_0 : decode cX5_init 0 = .ok (.aload_n 0, 1) := by decide +kernel
theorem dX5_init_1 : decode cX5_init 1 = .ok (.invokespecial 3, 3) := by decide +kernel
theorem dX5_init_4 : decode cX5_init 4 = .ok (.aload_n 0, 1) := by decide +kernel
theorem dX5_init_5 : decode cX5_init 5 = .ok (.bipush 9, 2) := by decide +kernel
theorem dX5_init_7 : decode cX5_init 7 = .ok (.newarray .int, 2) := by decide +kernel
theorem dX5_init_9 : decode cX5_init 9 = .ok (.putfield 9, 3) := by decide +kernel
theorem dX5_init_12 : decode cX5_init 12 = .ok (.aload_n 0, 1) := by decide +kernel
theorem dX5_init_13 : decode cX5_init 13 = .ok (.bipush 9, 2) := by decide +kernel
theorem dX5_init_15 : decode cX5_init 15 = .ok (.newarray .int, 2) := by decide +kernel
theorem dX5_init_17 : decode cX5_init 17 = .ok (.putfield 15, 3) := by decide +kernel
theorem dX5_init_20 : decode cX5_init 20 = .ok (.return_, 1) := by decide +kernel
theorem dX5_begin_0 : decode cX5_begin 0 = .ok (.aload_n 0, 1) := by decide +kernel
theorem dX5_begin_1 : decode cX5_begin 1 = .ok (.iconst 0, 1) := by decide +kernel
theorem dX5_begin_2 : decode cX5_begin 2 = .ok (.putfield 18, 3) := by decide +kernel
theorem dX5_begin_5 : decode cX5_begin 5 = .ok (.aload_n 0, 1) := by decide +kernel
theorem dX5_begin_6 : decode cX5_begin 6 = .ok (.iconst 0, 1) := by decide +kernel
theorem dX5_begin_7 : decode cX5_begin 7 = .ok (.putfield 22, 3) := by decide +kernel
theorem dX5_begin_10 : decode cX5_begin 10 = .ok (.aload_n 0, 1) := by decide +kernel
theorem dX5_begin_11 : decode cX5_begin 11 = .ok (.iconst 0, 1) := by decide +kernel
theorem dX5_begin_12 : decode cX5_begin 12 = .ok (.putfield 25, 3) := by decide +kernel
theorem dX5_begin_15 : decode cX5_begin 15 = .ok (.iconst 0, 1) := by decide +kernel
theorem dX5_begin_16 : decode cX5_begin 16 = .ok (.istore_n 2, 1) := by decide +kernel
theorem dX5_begin_17 : decode cX5_begin 17 = .ok (.iload_n 2, 1) := by decide +kernel
theorem dX5_begin_18 : decode cX5_begin 18 = .ok (.bipush 9, 2) := by decide +kernel
theorem dX5_begin_20 : decode cX5_begin 20 = .ok (.if_icmp .ge 23, 3) := by decide +kernel
theorem dX5_begin_23 : decode cX5_begin 23 = .ok (.aload_n 0, 1) := by decide +kernel
theorem dX5_begin_24 : decode cX5_begin 24 = .ok (.getfield 9, 3) := by decide +kernel
theorem dX5_begin_27 : decode cX5_begin 27 = .ok (.iload_n 2, 1) := by decide +kernel
theorem dX5_begin_28 : decode cX5_begin 28 = .ok (.iload_n 2, 1) := by decide +kernel
theorem dX5_begin_29 : decode cX5_begin 29 = .ok (.iastore, 1) := by decide +kernel
theorem dX5_begin_30 : decode cX5_begin 30 = .ok (.aload_n 0, 1) := by decide +kernel
theorem dX5_begin_31 : decode cX5_begin 31 = .ok (.getfield 15, 3) := by decide +kernel
theorem dX5_begin_34 : decode cX5_begin 34 = .ok (.iload_n 2, 1) := by decide +kernel
theorem dX5_begin_35 : decode cX5_begin 35 = .ok (.iconst 0, 1) := by decide +kernel
theorem dX5_begin_36 : decode cX5_begin 36 = .ok (.iastore, 1) := by decide +kernel
theorem dX5_begin_37 : decode cX5_begin 37 = .ok (.iinc 2 1, 3) := by decide +kernel
theorem dX5_begin_40 : decode cX5_begin 40 = .ok (.goto (-23), 3) := by decide +kernel
theorem dX5_begin_43 : decode cX5_begin 43 = .ok (.aload_n 0, 1) := by decide +kernel
theorem dX5_begin_44 : decode cX5_begin 44 = .ok (.iload_n 1, 1) := by decide +kernel
theorem dX5_begin_45 : decode cX5_begin 45 = .ok (.invokevirtual 28, 3) := by decide +kernel
theorem dX5_begin_48 : decode cX5_begin 48 = .ok (.return_, 1) := by decide +kernel
theorem dX5_startTurn_0 : decode cX5_startTurn 0 = .ok (.aload_n 0, 1) := by decide +kernel
theorem dX5_startTurn_1 : decode cX5_startTurn 1 = .ok (.iload_n 1, 1) := by decide +kernel
theorem dX5_startTurn_2 : decode cX5_startTurn 2 = .ok (.putfield 32, 3) := by decide +kernel
theorem dX5_startTurn_5 : decode cX5_startTurn 5 = .ok (.aload_n 0, 1) := by decide +kernel
theorem dX5_startTurn_6 : decode cX5_startTurn 6 = .ok (.iconst 0, 1) := by decide +kernel
theorem dX5_startTurn_7 : decode cX5_startTurn 7 = .ok (.putfield 35, 3) := by decide +kernel
theorem dX5_startTurn_10 : decode cX5_startTurn 10 = .ok (.return_, 1) := by decide +kernel
theorem dX5_copyFrom_0 : decode cX5_copyFrom 0 = .ok (.aload_n 0, 1) := by decide +kernel
theorem dX5_copyFrom_1 : decode cX5_copyFrom 1 = .ok (.aload_n 1, 1) := by decide +kernel
theorem dX5_copyFrom_2 : decode cX5_copyFrom 2 = .ok (.getfield 18, 3) := by decide +kernel
theorem dX5_copyFrom_5 : decode cX5_copyFrom 5 = .ok (.putfield 18, 3) := by decide +kernel
theorem dX5_copyFrom_8 : decode cX5_copyFrom 8 = .ok (.aload_n 0, 1) := by decide +kernel
theorem dX5_copyFrom_9 : decode cX5_copyFrom 9 = .ok (.aload_n 1, 1) := by decide +kernel
theorem dX5_copyFrom_10 : decode cX5_copyFrom 10 = .ok (.getfield 32, 3) := by decide +kernel
theorem dX5_copyFrom_13 : decode cX5_copyFrom 13 = .ok (.putfield 32, 3) := by decide +kernel
theorem dX5_copyFrom_16 : decode cX5_copyFrom 16 = .ok (.aload_n 0, 1) := by decide +kernel
theorem dX5_copyFrom_17 : decode cX5_copyFrom 17 = .ok (.aload_n 1, 1) := by decide +kernel
theorem dX5_copyFrom_18 : decode cX5_copyFrom 18 = .ok (.getfield 35, 3) := by decide +kernel
theorem dX5_copyFrom_21 : decode cX5_copyFrom 21 = .ok (.putfield 35, 3) := by decide +kernel
theorem dX5_copyFrom_24 : decode cX5_copyFrom 24 = .ok (.aload_n 0, 1) := by decide +kernel
theorem dX5_copyFrom_25 : decode cX5_copyFrom 25 = .ok (.aload_n 1, 1) := by decide +kernel
theorem dX5_copyFrom_26 : decode cX5_copyFrom 26 = .ok (.getfield 22, 3) := by decide +kernel
theorem dX5_copyFrom_29 : decode cX5_copyFrom 29 = .ok (.putfield 22, 3) := by decide +kernel
theorem dX5_copyFrom_32 : decode cX5_copyFrom 32 = .ok (.aload_n 0, 1) := by decide +kernel
theorem dX5_copyFrom_33 : decode cX5_copyFrom 33 = .ok (.aload_n 1, 1) := by decide +kernel
theorem dX5_copyFrom_34 : decode cX5_copyFrom 34 = .ok (.getfield 25, 3) := by decide +kernel
theorem dX5_copyFrom_37 : decode cX5_copyFrom 37 = .ok (.putfield 25, 3) := by decide +kernel
theorem dX5_copyFrom_40 : decode cX5_copyFrom 40 = .ok (.iconst 0, 1) := by decide +kernel
theorem dX5_copyFrom_41 : decode cX5_copyFrom 41 = .ok (.istore_n 2, 1) := by decide +kernel
theorem dX5_copyFrom_42 : decode cX5_copyFrom 42 = .ok (.iload_n 2, 1) := by decide +kernel
theorem dX5_copyFrom_43 : decode cX5_copyFrom 43 = .ok (.bipush 9, 2) := by decide +kernel
theorem dX5_copyFrom_45 : decode cX5_copyFrom 45 = .ok (.if_icmp .ge 33, 3) := by decide +kernel
theorem dX5_copyFrom_48 : decode cX5_copyFrom 48 = .ok (.aload_n 0, 1) := by decide +kernel
theorem dX5_copyFrom_49 : decode cX5_copyFrom 49 = .ok (.getfield 9, 3) := by decide +kernel
theorem dX5_copyFrom_52 : decode cX5_copyFrom 52 = .ok (.iload_n 2, 1) := by decide +kernel
theorem dX5_copyFrom_53 : decode cX5_copyFrom 53 = .ok (.aload_n 1, 1) := by decide +kernel
theorem dX5_copyFrom_54 : decode cX5_copyFrom 54 = .ok (.getfield 9, 3) := by decide +kernel
theorem dX5_copyFrom_57 : decode cX5_copyFrom 57 = .ok (.iload_n 2, 1) := by decide +kernel
theorem dX5_copyFrom_58 : decode cX5_copyFrom 58 = .ok (.iaload, 1) := by decide +kernel
theorem dX5_copyFrom_59 : decode cX5_copyFrom 59 = .ok (.iastore, 1) := by decide +kernel
theorem dX5_copyFrom_60 : decode cX5_copyFrom 60 = .ok (.aload_n 0, 1) := by decide +kernel
theorem dX5_copyFrom_61 : decode cX5_copyFrom 61 = .ok (.getfield 15, 3) := by decide +kernel
theorem dX5_copyFrom_64 : decode cX5_copyFrom 64 = .ok (.iload_n 2, 1) := by decide +kernel
theorem dX5_copyFrom_65 : decode cX5_copyFrom 65 = .ok (.aload_n 1, 1) := by decide +kernel
theorem dX5_copyFrom_66 : decode cX5_copyFrom 66 = .ok (.getfield 15, 3) := by decide +kernel
theorem dX5_copyFrom_69 : decode cX5_copyFrom 69 = .ok (.iload_n 2, 1) := by decide +kernel
theorem dX5_copyFrom_70 : decode cX5_copyFrom 70 = .ok (.iaload, 1) := by decide +kernel
theorem dX5_copyFrom_71 : decode cX5_copyFrom 71 = .ok (.iastore, 1) := by decide +kernel
theorem dX5_copyFrom_72 : decode cX5_copyFrom 72 = .ok (.iinc 2 1, 3) := by decide +kernel
theorem dX5_copyFrom_75 : decode cX5_copyFrom 75 = .ok (.goto (-33), 3) := by decide +kernel
theorem dX5_copyFrom_78 : decode cX5_copyFrom 78 = .ok (.return_, 1) := by decide +kernel
theorem dX5_isGone_0 : decode cX5_isGone 0 = .ok (.aload_n 0, 1) := by decide +kernel
theorem dX5_isGone_1 : decode cX5_isGone 1 = .ok (.getfield 22, 3) := by decide +kernel
theorem dX5_isGone_4 : decode cX5_isGone 4 = .ok (.iload_n 1, 1) := by decide +kernel
theorem dX5_isGone_5 : decode cX5_isGone 5 = .ok (.invokestatic 38, 3) := by decide +kernel
theorem dX5_isGone_8 : decode cX5_isGone 8 = .ok (.ireturn, 1) := by decide +kernel
theorem dX6_init_0 : decode cX6_init 0 = .ok (.aload_n 0, 1) := by decide +kernel
theorem dX6_init_1 : decode cX6_init 1 = .ok (.invokespecial 3, 3) := by decide +kernel
theorem dX6_init_4 : decode cX6_init 4 = .ok (.aload_n 0, 1) := by decide +kernel
theorem dX6_init_5 : decode cX6_init 5 = .ok (.iconst 3, 1) := by decide +kernel
theorem dX6_init_6 : decode cX6_init 6 = .ok (.newarray .int, 2) := by decide +kernel
theorem dX6_init_8 : decode cX6_init 8 = .ok (.putfield 9, 3) := by decide +kernel
theorem dX6_init_11 : decode cX6_init 11 = .ok (.aload_n 0, 1) := by decide +kernel
theorem dX6_init_12 : decode cX6_init 12 = .ok (.iconst 3, 1) := by decide +kernel
theorem dX6_init_13 : decode cX6_init 13 = .ok (.newarray .int, 2) := by decide +kernel
theorem dX6_init_15 : decode cX6_init 15 = .ok (.putfield 15, 3) := by decide +kernel
theorem dX6_init_18 : decode cX6_init 18 = .ok (.return_, 1) := by decide +kernel
theorem dX6_add_0 : decode cX6_add 0 = .ok (.aload_n 0, 1) := by decide +kernel
theorem dX6_add_1 : decode cX6_add 1 = .ok (.getfield 18, 3) := by decide +kernel
theorem dX6_add_4 : decode cX6_add 4 = .ok (.iconst 3, 1) := by decide +kernel
theorem dX6_add_5 : decode cX6_add 5 = .ok (.if_icmp .ge 33, 3) := by decide +kernel
theorem dX6_add_8 : decode cX6_add 8 = .ok (.aload_n 0, 1) := by decide +kernel
theorem dX6_add_9 : decode cX6_add 9 = .ok (.getfield 9, 3) := by decide +kernel
theorem dX6_add_12 : decode cX6_add 12 = .ok (.aload_n 0, 1) := by decide +kernel
theorem dX6_add_13 : decode cX6_add 13 = .ok (.getfield 18, 3) := by decide +kernel
theorem dX6_add_16 : decode cX6_add 16 = .ok (.iload_n 1, 1) := by decide +kernel
theorem dX6_add_17 : decode cX6_add 17 = .ok (.iastore, 1) := by decide +kernel
theorem dX6_add_18 : decode cX6_add 18 = .ok (.aload_n 0, 1) := by decide +kernel
theorem dX6_add_19 : decode cX6_add 19 = .ok (.getfield 15, 3) := by decide +kernel
theorem dX6_add_22 : decode cX6_add 22 = .ok (.aload_n 0, 1) := by decide +kernel
theorem dX6_add_23 : decode cX6_add 23 = .ok (.getfield 18, 3) := by decide +kernel
theorem dX6_add_26 : decode cX6_add 26 = .ok (.iload_n 2, 1) := by decide +kernel
theorem dX6_add_27 : decode cX6_add 27 = .ok (.iastore, 1) := by decide +kernel
theorem dX6_add_28 : decode cX6_add 28 = .ok (.aload_n 0, 1) := by decide +kernel
theorem dX6_add_29 : decode cX6_add 29 = .ok (.dup, 1) := by decide +kernel
theorem dX6_add_30 : decode cX6_add 30 = .ok (.getfield 18, 3) := by decide +kernel
theorem dX6_add_33 : decode cX6_add 33 = .ok (.iconst 1, 1) := by decide +kernel
theorem dX6_add_34 : decode cX6_add 34 = .ok (.iadd, 1) := by decide +kernel
theorem dX6_add_35 : decode cX6_add 35 = .ok (.putfield 18, 3) := by decide +kernel
theorem dX6_add_38 : decode cX6_add 38 = .ok (.return_, 1) := by decide +kernel
theorem dX6_copyFrom_0 : decode cX6_copyFrom 0 = .ok (.aload_n 0, 1) := by decide +kernel
theorem dX6_copyFrom_1 : decode cX6_copyFrom 1 = .ok (.aload_n 1, 1) := by decide +kernel
theorem dX6_copyFrom_2 : decode cX6_copyFrom 2 = .ok (.getfield 18, 3) := by decide +kernel
theorem dX6_copyFrom_5 : decode cX6_copyFrom 5 = .ok (.putfield 18, 3) := by decide +kernel
theorem dX6_copyFrom_8 : decode cX6_copyFrom 8 = .ok (.aload_n 0, 1) := by decide +kernel
theorem dX6_copyFrom_9 : decode cX6_copyFrom 9 = .ok (.aload_n 1, 1) := by decide +kernel
theorem dX6_copyFrom_10 : decode cX6_copyFrom 10 = .ok (.getfield 22, 3) := by decide +kernel
theorem dX6_copyFrom_13 : decode cX6_copyFrom 13 = .ok (.putfield 22, 3) := by decide +kernel
theorem dX6_copyFrom_16 : decode cX6_copyFrom 16 = .ok (.iconst 0, 1) := by decide +kernel
theorem dX6_copyFrom_17 : decode cX6_copyFrom 17 = .ok (.istore_n 2, 1) := by decide +kernel
theorem dX6_copyFrom_18 : decode cX6_copyFrom 18 = .ok (.iload_n 2, 1) := by decide +kernel
theorem dX6_copyFrom_19 : decode cX6_copyFrom 19 = .ok (.iconst 3, 1) := by decide +kernel
theorem dX6_copyFrom_20 : decode cX6_copyFrom 20 = .ok (.if_icmp .ge 33, 3) := by decide +kernel
theorem dX6_copyFrom_23 : decode cX6_copyFrom 23 = .ok (.aload_n 0, 1) := by decide +kernel
theorem dX6_copyFrom_24 : decode cX6_copyFrom 24 = .ok (.getfield 9, 3) := by decide +kernel
theorem dX6_copyFrom_27 : decode cX6_copyFrom 27 = .ok (.iload_n 2, 1) := by decide +kernel
theorem dX6_copyFrom_28 : decode cX6_copyFrom 28 = .ok (.aload_n 1, 1) := by decide +kernel
theorem dX6_copyFrom_29 : decode cX6_copyFrom 29 = .ok (.getfield 9, 3) := by decide +kernel
theorem dX6_copyFrom_32 : decode cX6_copyFrom 32 = .ok (.iload_n 2, 1) := by decide +kernel
theorem dX6_copyFrom_33 : decode cX6_copyFrom 33 = .ok (.iaload, 1) := by decide +kernel
theorem dX6_copyFrom_34 : decode cX6_copyFrom 34 = .ok (.iastore, 1) := by decide +kernel
theorem dX6_copyFrom_35 : decode cX6_copyFrom 35 = .ok (.aload_n 0, 1) := by decide +kernel
theorem dX6_copyFrom_36 : decode cX6_copyFrom 36 = .ok (.getfield 15, 3) := by decide +kernel
theorem dX6_copyFrom_39 : decode cX6_copyFrom 39 = .ok (.iload_n 2, 1) := by decide +kernel
theorem dX6_copyFrom_40 : decode cX6_copyFrom 40 = .ok (.aload_n 1, 1) := by decide +kernel
theorem dX6_copyFrom_41 : decode cX6_copyFrom 41 = .ok (.getfield 15, 3) := by decide +kernel
theorem dX6_copyFrom_44 : decode cX6_copyFrom 44 = .ok (.iload_n 2, 1) := by decide +kernel
theorem dX6_copyFrom_45 : decode cX6_copyFrom 45 = .ok (.iaload, 1) := by decide +kernel
theorem dX6_copyFrom_46 : decode cX6_copyFrom 46 = .ok (.iastore, 1) := by decide +kernel
theorem dX6_copyFrom_47 : decode cX6_copyFrom 47 = .ok (.iinc 2 1, 3) := by decide +kernel
theorem dX6_copyFrom_50 : decode cX6_copyFrom 50 = .ok (.goto (-32), 3) := by decide +kernel
theorem dX6_copyFrom_53 : decode cX6_copyFrom 53 = .ok (.return_, 1) := by decide +kernel
theorem dX6_placeOf_0 : decode cX6_placeOf 0 = .ok (.aload_n 0, 1) := by decide +kernel
theorem dX6_placeOf_1 : decode cX6_placeOf 1 = .ok (.getfield 15, 3) := by decide +kernel
theorem dX6_placeOf_4 : decode cX6_placeOf 4 = .ok (.iload_n 1, 1) := by decide +kernel
theorem dX6_placeOf_5 : decode cX6_placeOf 5 = .ok (.iaload, 1) := by decide +kernel
theorem dX6_placeOf_6 : decode cX6_placeOf 6 = .ok (.aload_n 0, 1) := by decide +kernel
theorem dX6_placeOf_7 : decode cX6_placeOf 7 = .ok (.getfield 9, 3) := by decide +kernel
theorem dX6_placeOf_10 : decode cX6_placeOf 10 = .ok (.iload_n 1, 1) := by decide +kernel
theorem dX6_placeOf_11 : decode cX6_placeOf 11 = .ok (.iaload, 1) := by decide +kernel
theorem dX6_placeOf_12 : decode cX6_placeOf 12 = .ok (.if_icmp .le 7, 3) := by decide +kernel
theorem dX6_placeOf_15 : decode cX6_placeOf 15 = .ok (.iconst 1, 1) := by decide +kernel
theorem dX6_placeOf_16 : decode cX6_placeOf 16 = .ok (.goto 4, 3) := by decide +kernel
theorem dX6_placeOf_19 : decode cX6_placeOf 19 = .ok (.iconst 0, 1) := by decide +kernel
theorem dX6_placeOf_20 : decode cX6_placeOf 20 = .ok (.istore_n 3, 1) := by decide +kernel
theorem dX6_placeOf_21 : decode cX6_placeOf 21 = .ok (.iload_n 3, 1) := by decide +kernel
theorem dX6_placeOf_22 : decode cX6_placeOf 22 = .ok (.ifCond .eq 19, 3) := by decide +kernel
theorem dX6_placeOf_25 : decode cX6_placeOf 25 = .ok (.aload_n 0, 1) := by decide +kernel
theorem dX6_placeOf_26 : decode cX6_placeOf 26 = .ok (.getfield 15, 3) := by decide +kernel
theorem dX6_placeOf_29 : decode cX6_placeOf 29 = .ok (.iload_n 1, 1) := by decide +kernel
theorem dX6_placeOf_30 : decode cX6_placeOf 30 = .ok (.iaload, 1) := by decide +kernel
theorem dX6_placeOf_31 : decode cX6_placeOf 31 = .ok (.aload_n 0, 1) := by decide +kernel
theorem dX6_placeOf_32 : decode cX6_placeOf 32 = .ok (.getfield 9, 3) := by decide +kernel
theorem dX6_placeOf_35 : decode cX6_placeOf 35 = .ok (.iload_n 1, 1) := by decide +kernel
theorem dX6_placeOf_36 : decode cX6_placeOf 36 = .ok (.iaload, 1) := by decide +kernel
theorem dX6_placeOf_37 : decode cX6_placeOf 37 = .ok (.isub, 1) := by decide +kernel
theorem dX6_placeOf_38 : decode cX6_placeOf 38 = .ok (.goto 16, 3) := by decide +kernel
theorem dX6_placeOf_41 : decode cX6_placeOf 41 = .ok (.aload_n 0, 1) := by decide +kernel
theorem dX6_placeOf_42 : decode cX6_placeOf 42 = .ok (.getfield 9, 3) := by decide +kernel
theorem dX6_placeOf_45 : decode cX6_placeOf 45 = .ok (.iload_n 1, 1) := by decide +kernel
theorem dX6_placeOf_46 : decode cX6_placeOf 46 = .ok (.iaload, 1) := by decide +kernel
theorem dX6_placeOf_47 : decode cX6_placeOf 47 = .ok (.aload_n 0, 1) := by decide +kernel
theorem dX6_placeOf_48 : decode cX6_placeOf 48 = .ok (.getfield 15, 3) := by decide +kernel
theorem dX6_placeOf_51 : decode cX6_placeOf 51 = .ok (.iload_n 1, 1) := by decide +kernel
theorem dX6_placeOf_52 : decode cX6_placeOf 52 = .ok (.iaload, 1) := by decide +kernel
theorem dX6_placeOf_53 : decode cX6_placeOf 53 = .ok (.isub, 1) := by decide +kernel
theorem dX6_placeOf_54 : decode cX6_placeOf 54 = .ok (.istore 4, 2) := by decide +kernel
theorem dX6_placeOf_56 : decode cX6_placeOf 56 = .ok (.iload 4, 2) := by decide +kernel
theorem dX6_placeOf_58 : decode cX6_placeOf 58 = .ok (.ifCond .gt 10, 3) := by decide +kernel
theorem dX6_placeOf_61 : decode cX6_placeOf 61 = .ok (.aload_n 0, 1) := by decide +kernel
theorem dX6_placeOf_62 : decode cX6_placeOf 62 = .ok (.getfield 9, 3) := by decide +kernel
theorem dX6_placeOf_65 : decode cX6_placeOf 65 = .ok (.iload_n 1, 1) := by decide +kernel
theorem dX6_placeOf_66 : decode cX6_placeOf 66 = .ok (.iaload, 1) := by decide +kernel
theorem dX6_placeOf_67 : decode cX6_placeOf 67 = .ok (.ireturn, 1) := by decide +kernel
theorem dX6_placeOf_68 : decode cX6_placeOf 68 = .ok (.iload_n 2, 1) := by decide +kernel
theorem dX6_placeOf_69 : decode cX6_placeOf 69 = .ok (.iconst 2, 1) := by decide +kernel
theorem dX6_placeOf_70 : decode cX6_placeOf 70 = .ok (.iload 4, 2) := by decide +kernel
theorem dX6_placeOf_72 : decode cX6_placeOf 72 = .ok (.imul, 1) := by decide +kernel
theorem dX6_placeOf_73 : decode cX6_placeOf 73 = .ok (.irem, 1) := by decide +kernel
theorem dX6_placeOf_74 : decode cX6_placeOf 74 = .ok (.istore 5, 2) := by decide +kernel
theorem dX6_placeOf_76 : decode cX6_placeOf 76 = .ok (.iload 5, 2) := by decide +kernel
theorem dX6_placeOf_78 : decode cX6_placeOf 78 = .ok (.iload 4, 2) := by decide +kernel
theorem dX6_placeOf_80 : decode cX6_placeOf 80 = .ok (.if_icmp .gt 8, 3) := by decide +kernel
theorem dX6_placeOf_83 : decode cX6_placeOf 83 = .ok (.iload 5, 2) := by decide +kernel
theorem dX6_placeOf_85 : decode cX6_placeOf 85 = .ok (.goto 10, 3) := by decide +kernel
theorem dX6_placeOf_88 : decode cX6_placeOf 88 = .ok (.iconst 2, 1) := by decide +kernel
theorem dX6_placeOf_89 : decode cX6_placeOf 89 = .ok (.iload 4, 2) := by decide +kernel
theorem dX6_placeOf_91 : decode cX6_placeOf 91 = .ok (.imul, 1) := by decide +kernel
theorem dX6_placeOf_92 : decode cX6_placeOf 92 = .ok (.iload 5, 2) := by decide +kernel
theorem dX6_placeOf_94 : decode cX6_placeOf 94 = .ok (.isub, 1) := by decide +kernel
theorem dX6_placeOf_95 : decode cX6_placeOf 95 = .ok (.istore 6, 2) := by decide +kernel
theorem dX6_placeOf_97 : decode cX6_placeOf 97 = .ok (.iload_n 3, 1) := by decide +kernel
theorem dX6_placeOf_98 : decode cX6_placeOf 98 = .ok (.ifCond .eq 15, 3) := by decide +kernel
theorem dX6_placeOf_101 : decode cX6_placeOf 101 = .ok (.aload_n 0, 1) := by decide +kernel
theorem dX6_placeOf_102 : decode cX6_placeOf 102 = .ok (.getfield 9, 3) := by decide +kernel
theorem dX6_placeOf_105 : decode cX6_placeOf 105 = .ok (.iload_n 1, 1) := by decide +kernel
theorem dX6_placeOf_106 : decode cX6_placeOf 106 = .ok (.iaload, 1) := by decide +kernel
theorem dX6_placeOf_107 : decode cX6_placeOf 107 = .ok (.iload 6, 2) := by decide +kernel
theorem dX6_placeOf_109 : decode cX6_placeOf 109 = .ok (.iadd, 1) := by decide +kernel
theorem dX6_placeOf_110 : decode cX6_placeOf 110 = .ok (.goto 12, 3) := by decide +kernel
theorem dX6_placeOf_113 : decode cX6_placeOf 113 = .ok (.aload_n 0, 1) := by decide +kernel
theorem dX6_placeOf_114 : decode cX6_placeOf 114 = .ok (.getfield 9, 3) := by decide +kernel
theorem dX6_placeOf_117 : decode cX6_placeOf 117 = .ok (.iload_n 1, 1) := by decide +kernel
theorem dX6_placeOf_118 : decode cX6_placeOf 118 = .ok (.iaload, 1) := by decide +kernel
theorem dX6_placeOf_119 : decode cX6_placeOf 119 = .ok (.iload 6, 2) := by decide +kernel
theorem dX6_placeOf_121 : decode cX6_placeOf 121 = .ok (.isub, 1) := by decide +kernel
theorem dX6_placeOf_122 : decode cX6_placeOf 122 = .ok (.ireturn, 1) := by decide +kernel
theorem dX6_placesIn_0 : decode cX6_placesIn 0 = .ok (.aload_n 0, 1) := by decide +kernel
theorem dX6_placesIn_1 : decode cX6_placesIn 1 = .ok (.getfield 22, 3) := by decide +kernel
theorem dX6_placesIn_4 : decode cX6_placesIn 4 = .ok (.istore_n 2, 1) := by decide +kernel
theorem dX6_placesIn_5 : decode cX6_placesIn 5 = .ok (.iconst 0, 1) := by decide +kernel
theorem dX6_placesIn_6 : decode cX6_placesIn 6 = .ok (.istore_n 3, 1) := by decide +kernel
theorem dX6_placesIn_7 : decode cX6_placesIn 7 = .ok (.iload_n 3, 1) := by decide +kernel
theorem dX6_placesIn_8 : decode cX6_placesIn 8 = .ok (.aload_n 0, 1) := by decide +kernel
theorem dX6_placesIn_9 : decode cX6_placesIn 9 = .ok (.getfield 18, 3) := by decide +kernel
theorem dX6_placesIn_12 : decode cX6_placesIn 12 = .ok (.if_icmp .ge 20, 3) := by decide +kernel
theorem dX6_placesIn_15 : decode cX6_placesIn 15 = .ok (.iload_n 2, 1) := by decide +kernel
theorem dX6_placesIn_16 : decode cX6_placesIn 16 = .ok (.iconst 1, 1) := by decide +kernel
theorem dX6_placesIn_17 : decode cX6_placesIn 17 = .ok (.aload_n 0, 1) := by decide +kernel
theorem dX6_placesIn_18 : decode cX6_placesIn 18 = .ok (.iload_n 3, 1) := by decide +kernel
theorem dX6_placesIn_19 : decode cX6_placesIn 19 = .ok (.iload_n 1, 1) := by decide +kernel
theorem dX6_placesIn_20 : decode cX6_placesIn 20 = .ok (.invokevirtual 25, 3) := by decide +kernel
theorem dX6_placesIn_23 : decode cX6_placesIn 23 = .ok (.ishl, 1) := by decide +kernel
theorem dX6_placesIn_24 : decode cX6_placesIn 24 = .ok (.ior, 1) := by decide +kernel
theorem dX6_placesIn_25 : decode cX6_placesIn 25 = .ok (.istore_n 2, 1) := by decide +kernel
theorem dX6_placesIn_26 : decode cX6_placesIn 26 = .ok (.iinc 3 1, 3) := by decide +kernel
theorem dX6_placesIn_29 : decode cX6_placesIn 29 = .ok (.goto (-22), 3) := by decide +kernel
theorem dX6_placesIn_32 : decode cX6_placesIn 32 = .ok (.iload_n 2, 1) := by decide +kernel
theorem dX6_placesIn_33 : decode cX6_placesIn 33 = .ok (.ireturn, 1) := by decide +kernel
theorem dX7_init_0 : decode cX7_init 0 = .ok (.aload_n 0, 1) := by decide +kernel
theorem dX7_init_1 : decode cX7_init 1 = .ok (.invokespecial 3, 3) := by decide +kernel
theorem dX7_init_4 : decode cX7_init 4 = .ok (.aload_n 0, 1) := by decide +kernel
theorem dX7_init_5 : decode cX7_init 5 = .ok (.new 9, 3) := by decide +kernel
theorem dX7_init_8 : decode cX7_init 8 = .ok (.dup, 1) := by decide +kernel
theorem dX7_init_9 : decode cX7_init 9 = .ok (.invokespecial 11, 3) := by decide +kernel
theorem dX7_init_12 : decode cX7_init 12 = .ok (.putfield 12, 3) := by decide +kernel
theorem dX7_init_15 : decode cX7_init 15 = .ok (.aload_n 0, 1) := by decide +kernel
theorem dX7_init_16 : decode cX7_init 16 = .ok (.new 16, 3) := by decide +kernel
theorem dX7_init_19 : decode cX7_init 19 = .ok (.dup, 1) := by decide +kernel
theorem dX7_init_20 : decode cX7_init 20 = .ok (.invokespecial 18, 3) := by decide +kernel
theorem dX7_init_23 : decode cX7_init 23 = .ok (.putfield 19, 3) := by decide +kernel
theorem dX7_init_26 : decode cX7_init 26 = .ok (.aload_n 0, 1) := by decide +kernel
theorem dX7_init_27 : decode cX7_init 27 = .ok (.new 16, 3) := by decide +kernel
theorem dX7_init_30 : decode cX7_init 30 = .ok (.dup, 1) := by decide +kernel
theorem dX7_init_31 : decode cX7_init 31 = .ok (.invokespecial 18, 3) := by decide +kernel
theorem dX7_init_34 : decode cX7_init 34 = .ok (.putfield 23, 3) := by decide +kernel
theorem dX7_init_37 : decode cX7_init 37 = .ok (.aload_n 0, 1) := by decide +kernel
theorem dX7_init_38 : decode cX7_init 38 = .ok (.new 26, 3) := by decide +kernel
theorem dX7_init_41 : decode cX7_init 41 = .ok (.dup, 1) := by decide +kernel
theorem dX7_init_42 : decode cX7_init 42 = .ok (.invokespecial 28, 3) := by decide +kernel
theorem dX7_init_45 : decode cX7_init 45 = .ok (.putfield 29, 3) := by decide +kernel
theorem dX7_init_48 : decode cX7_init 48 = .ok (.aload_n 0, 1) := by decide +kernel
theorem dX7_init_49 : decode cX7_init 49 = .ok (.new 33, 3) := by decide +kernel
theorem dX7_init_52 : decode cX7_init 52 = .ok (.dup, 1) := by decide +kernel
theorem dX7_init_53 : decode cX7_init 53 = .ok (.invokespecial 35, 3) := by decide +kernel
theorem dX7_init_56 : decode cX7_init 56 = .ok (.putfield 36, 3) := by decide +kernel
theorem dX7_init_59 : decode cX7_init 59 = .ok (.aload_n 0, 1) := by decide +kernel
theorem dX7_init_60 : decode cX7_init 60 = .ok (.new 40, 3) := by decide +kernel
theorem dX7_init_63 : decode cX7_init 63 = .ok (.dup, 1) := by decide +kernel
theorem dX7_init_64 : decode cX7_init 64 = .ok (.invokespecial 42, 3) := by decide +kernel
theorem dX7_init_67 : decode cX7_init 67 = .ok (.putfield 43, 3) := by decide +kernel
theorem dX7_init_70 : decode cX7_init 70 = .ok (.aload_n 0, 1) := by decide +kernel
theorem dX7_init_71 : decode cX7_init 71 = .ok (.new 47, 3) := by decide +kernel
theorem dX7_init_74 : decode cX7_init 74 = .ok (.dup, 1) := by decide +kernel
theorem dX7_init_75 : decode cX7_init 75 = .ok (.invokespecial 49, 3) := by decide +kernel
theorem dX7_init_78 : decode cX7_init 78 = .ok (.putfield 50, 3) := by decide +kernel
theorem dX7_init_81 : decode cX7_init 81 = .ok (.aload_n 0, 1) := by decide +kernel
theorem dX7_init_82 : decode cX7_init 82 = .ok (.new 54, 3) := by decide +kernel
theorem dX7_init_85 : decode cX7_init 85 = .ok (.dup, 1) := by decide +kernel
theorem dX7_init_86 : decode cX7_init 86 = .ok (.invokespecial 56, 3) := by decide +kernel
theorem dX7_init_89 : decode cX7_init 89 = .ok (.putfield 57, 3) := by decide +kernel
theorem dX7_init_92 : decode cX7_init 92 = .ok (.aload_n 0, 1) := by decide +kernel
theorem dX7_init_93 : decode cX7_init 93 = .ok (.iconst 0, 1) := by decide +kernel
theorem dX7_init_94 : decode cX7_init 94 = .ok (.putfield 61, 3) := by decide +kernel
theorem dX7_init_97 : decode cX7_init 97 = .ok (.aload_n 0, 1) := by decide +kernel
theorem dX7_init_98 : decode cX7_init 98 = .ok (.iconst 0, 1) := by decide +kernel
theorem dX7_init_99 : decode cX7_init 99 = .ok (.putfield 65, 3) := by decide +kernel
theorem dX7_init_102 : decode cX7_init 102 = .ok (.aload_n 0, 1) := by decide +kernel
theorem dX7_init_103 : decode cX7_init 103 = .ok (.iconst (-1), 1) := by decide +kernel
theorem dX7_init_104 : decode cX7_init 104 = .ok (.putfield 68, 3) := by decide +kernel
theorem dX7_init_107 : decode cX7_init 107 = .ok (.return_, 1) := by decide +kernel
theorem dX7_feed_0 : decode cX7_feed 0 = .ok (.aload_n 0, 1) := by decide +kernel
theorem dX7_feed_1 : decode cX7_feed 1 = .ok (.getfield 12, 3) := by decide +kernel
theorem dX7_feed_4 : decode cX7_feed 4 = .ok (.getfield 71, 3) := by decide +kernel
theorem dX7_feed_7 : decode cX7_feed 7 = .ok (.bipush 20, 2) := by decide +kernel
theorem dX7_feed_9 : decode cX7_feed 9 = .ok (.iadd, 1) := by decide +kernel
theorem dX7_feed_10 : decode cX7_feed 10 = .ok (.sipush 900, 3) := by decide +kernel
theorem dX7_feed_13 : decode cX7_feed 13 = .ok (.if_icmp .le 5, 3) := by decide +kernel
theorem dX7_feed_16 : decode cX7_feed 16 = .ok (.iconst (-1), 1) := by decide +kernel
theorem dX7_feed_17 : decode cX7_feed 17 = .ok (.ireturn, 1) := by decide +kernel
theorem dX7_feed_18 : decode cX7_feed 18 = .ok (.aload_n 0, 1) := by decide +kernel
theorem dX7_feed_19 : decode cX7_feed 19 = .ok (.getfield 12, 3) := by decide +kernel
theorem dX7_feed_22 : decode cX7_feed 22 = .ok (.iload_n 1, 1) := by decide +kernel
theorem dX7_feed_23 : decode cX7_feed 23 = .ok (.invokevirtual 74, 3) := by decide +kernel
theorem dX7_feed_26 : decode cX7_feed 26 = .ok (.aload_n 0, 1) := by decide +kernel
theorem dX7_feed_27 : decode cX7_feed 27 = .ok (.getfield 12, 3) := by decide +kernel
theorem dX7_feed_30 : decode cX7_feed 30 = .ok (.iload_n 2, 1) := by decide +kernel
theorem dX7_feed_31 : decode cX7_feed 31 = .ok (.invokevirtual 74, 3) := by decide +kernel
theorem dX7_feed_34 : decode cX7_feed 34 = .ok (.aload_n 0, 1) := by decide +kernel
theorem dX7_feed_35 : decode cX7_feed 35 = .ok (.getfield 12, 3) := by decide +kernel
theorem dX7_feed_38 : decode cX7_feed 38 = .ok (.iload_n 3, 1) := by decide +kernel
theorem dX7_feed_39 : decode cX7_feed 39 = .ok (.invokevirtual 74, 3) := by decide +kernel
theorem dX7_feed_42 : decode cX7_feed 42 = .ok (.aload_n 0, 1) := by decide +kernel
theorem dX7_feed_43 : decode cX7_feed 43 = .ok (.getfield 12, 3) := by decide +kernel
theorem dX7_feed_46 : decode cX7_feed 46 = .ok (.iload 4, 2) := by decide +kernel
theorem dX7_feed_48 : decode cX7_feed 48 = .ok (.invokevirtual 74, 3) := by decide +kernel
theorem dX7_feed_51 : decode cX7_feed 51 = .ok (.aload_n 0, 1) := by decide +kernel
theorem dX7_feed_52 : decode cX7_feed 52 = .ok (.getfield 12, 3) := by decide +kernel
theorem dX7_feed_55 : decode cX7_feed 55 = .ok (.iload 5, 2) := by decide +kernel
theorem dX7_feed_57 : decode cX7_feed 57 = .ok (.invokevirtual 74, 3) := by decide +kernel
theorem dX7_feed_60 : decode cX7_feed 60 = .ok (.aload_n 0, 1) := by decide +kernel
theorem dX7_feed_61 : decode cX7_feed 61 = .ok (.getfield 12, 3) := by decide +kernel
theorem dX7_feed_64 : decode cX7_feed 64 = .ok (.getfield 71, 3) := by decide +kernel
theorem dX7_feed_67 : decode cX7_feed 67 = .ok (.ireturn, 1) := by decide +kernel
theorem dX7_gallery_0 : decode cX7_gallery 0 = .ok (.iload_n 1, 1) := by decide +kernel
theorem dX7_gallery_1 : decode cX7_gallery 1 = .ok (.iconst 0, 1) := by decide +kernel
theorem dX7_gallery_2 : decode cX7_gallery 2 = .ok (.aload_n 0, 1) := by decide +kernel
theorem dX7_gallery_3 : decode cX7_gallery 3 = .ok (.getfield 12, 3) := by decide +kernel
theorem dX7_gallery_6 : decode cX7_gallery 6 = .ok (.getfield 71, 3) := by decide +kernel
theorem dX7_gallery_9 : decode cX7_gallery 9 = .ok (.invokestatic 78, 3) := by decide +kernel
theorem dX7_gallery_12 : decode cX7_gallery 12 = .ok (.ifCond .ne 9, 3) := by decide +kernel
theorem dX7_gallery_15 : decode cX7_gallery 15 = .ok (.aload_n 0, 1) := by decide +kernel
theorem dX7_gallery_16 : decode cX7_gallery 16 = .ok (.iconst 2, 1) := by decide +kernel
theorem dX7_gallery_17 : decode cX7_gallery 17 = .ok (.invokevirtual 82, 3) := by decide +kernel
theorem dX7_gallery_20 : decode cX7_gallery 20 = .ok (.ireturn, 1) := by decide +kernel
theorem dX7_gallery_21 : decode cX7_gallery 21 = .ok (.aload_n 0, 1) := by decide +kernel
theorem dX7_gallery_22 : decode cX7_gallery 22 = .ok (.getfield 12, 3) := by decide +kernel
theorem dX7_gallery_25 : decode cX7_gallery 25 = .ok (.iload_n 1, 1) := by decide +kernel
theorem dX7_gallery_26 : decode cX7_gallery 26 = .ok (.invokevirtual 86, 3) := by decide +kernel
theorem dX7_gallery_29 : decode cX7_gallery 29 = .ok (.istore_n 2, 1) := by decide +kernel
theorem dX7_gallery_30 : decode cX7_gallery 30 = .ok (.aload_n 0, 1) := by decide +kernel
theorem dX7_gallery_31 : decode cX7_gallery 31 = .ok (.aload_n 0, 1) := by decide +kernel
theorem dX7_gallery_32 : decode cX7_gallery 32 = .ok (.getfield 12, 3) := by decide +kernel
theorem dX7_gallery_35 : decode cX7_gallery 35 = .ok (.getfield 90, 3) := by decide +kernel
theorem dX7_gallery_38 : decode cX7_gallery 38 = .ok (.putfield 65, 3) := by decide +kernel
theorem dX7_gallery_41 : decode cX7_gallery 41 = .ok (.aload_n 0, 1) := by decide +kernel
theorem dX7_gallery_42 : decode cX7_gallery 42 = .ok (.aload_n 0, 1) := by decide +kernel
theorem dX7_gallery_43 : decode cX7_gallery 43 = .ok (.getfield 12, 3) := by decide +kernel
theorem dX7_gallery_46 : decode cX7_gallery 46 = .ok (.getfield 93, 3) := by decide +kernel
theorem dX7_gallery_49 : decode cX7_gallery 49 = .ok (.putfield 68, 3) := by decide +kernel
theorem dX7_gallery_52 : decode cX7_gallery 52 = .ok (.iload_n 2, 1) := by decide +kernel
theorem dX7_gallery_53 : decode cX7_gallery 53 = .ok (.ifCond .ne 9, 3) := by decide +kernel
theorem dX7_gallery_56 : decode cX7_gallery 56 = .ok (.aload_n 0, 1) := by decide +kernel
theorem dX7_gallery_57 : decode cX7_gallery 57 = .ok (.iconst 4, 1) := by decide +kernel
theorem dX7_gallery_58 : decode cX7_gallery 58 = .ok (.invokevirtual 82, 3) := by decide +kernel
theorem dX7_gallery_61 : decode cX7_gallery 61 = .ok (.ireturn, 1) := by decide +kernel
theorem dX7_gallery_62 : decode cX7_gallery 62 = .ok (.aload_n 0, 1) := by decide +kernel
theorem dX7_gallery_63 : decode cX7_gallery 63 = .ok (.aload_n 0, 1) := by decide +kernel
theorem dX7_gallery_64 : decode cX7_gallery 64 = .ok (.getfield 12, 3) := by decide +kernel
theorem dX7_gallery_67 : decode cX7_gallery 67 = .ok (.aload_n 0, 1) := by decide +kernel
theorem dX7_gallery_68 : decode cX7_gallery 68 = .ok (.getfield 57, 3) := by decide +kernel
theorem dX7_gallery_71 : decode cX7_gallery 71 = .ok (.invokevirtual 94, 3) := by decide +kernel
theorem dX7_gallery_74 : decode cX7_gallery 74 = .ok (.putfield 57, 3) := by decide +kernel
theorem dX7_gallery_77 : decode cX7_gallery 77 = .ok (.aload_n 0, 1) := by decide +kernel
theorem dX7_gallery_78 : decode cX7_gallery 78 = .ok (.getfield 19, 3) := by decide +kernel
theorem dX7_gallery_81 : decode cX7_gallery 81 = .ok (.aload_n 0, 1) := by decide +kernel
theorem dX7_gallery_82 : decode cX7_gallery 82 = .ok (.getfield 57, 3) := by decide +kernel
theorem dX7_gallery_85 : decode cX7_gallery 85 = .ok (.getfield 98, 3) := by decide +kernel
theorem dX7_gallery_88 : decode cX7_gallery 88 = .ok (.invokevirtual 101, 3) := by decide +kernel
theorem dX7_gallery_91 : decode cX7_gallery 91 = .ok (.aload_n 0, 1) := by decide +kernel
theorem dX7_gallery_92 : decode cX7_gallery 92 = .ok (.getfield 36, 3) := by decide +kernel
theorem dX7_gallery_95 : decode cX7_gallery 95 = .ok (.invokevirtual 104, 3) := by decide +kernel
theorem dX7_gallery_98 : decode cX7_gallery 98 = .ok (.aload_n 0, 1) := by decide +kernel
theorem dX7_gallery_99 : decode cX7_gallery 99 = .ok (.getfield 43, 3) := by decide +kernel
theorem dX7_gallery_102 : decode cX7_gallery 102 = .ok (.invokevirtual 107, 3) := by decide +kernel
theorem dX7_gallery_105 : decode cX7_gallery 105 = .ok (.aload_n 0, 1) := by decide +kernel
theorem dX7_gallery_106 : decode cX7_gallery 106 = .ok (.aload_n 0, 1) := by decide +kernel
theorem dX7_gallery_107 : decode cX7_gallery 107 = .ok (.getfield 57, 3) := by decide +kernel
theorem dX7_gallery_110 : decode cX7_gallery 110 = .ok (.getfield 110, 3) := by decide +kernel
theorem dX7_gallery_113 : decode cX7_gallery 113 = .ok (.invokevirtual 113, 3) := by decide +kernel
theorem dX7_gallery_116 : decode cX7_gallery 116 = .ok (.ireturn, 1) := by decide +kernel
theorem dX7_fault_0 : decode cX7_fault 0 = .ok (.aload_n 0, 1) := by decide +kernel
theorem dX7_fault_1 : decode cX7_fault 1 = .ok (.getfield 65, 3) := by decide +kernel
theorem dX7_fault_4 : decode cX7_fault 4 = .ok (.ireturn, 1) := by decide +kernel
theorem dX7_where_0 : decode cX7_where 0 = .ok (.aload_n 0, 1) := by decide +kernel
theorem dX7_where_1 : decode cX7_where 1 = .ok (.getfield 61, 3) := by decide +kernel
theorem dX7_where_4 : decode cX7_where 4 = .ok (.iconst 4, 1) := by decide +kernel
theorem dX7_where_5 : decode cX7_where 5 = .ok (.if_icmp .ne 10, 3) := by decide +kernel
theorem dX7_where_8 : decode cX7_where 8 = .ok (.aload_n 0, 1) := by decide +kernel
theorem dX7_where_9 : decode cX7_where 9 = .ok (.getfield 68, 3) := by decide +kernel
theorem dX7_where_12 : decode cX7_where 12 = .ok (.goto 4, 3) := by decide +kernel
theorem dX7_where_15 : decode cX7_where 15 = .ok (.iconst (-1), 1) := by decide +kernel
theorem dX7_where_16 : decode cX7_where 16 = .ok (.ireturn, 1) := by decide +kernel
theorem dX7_figure_0 : decode cX7_figure 0 = .ok (.aload_n 0, 1) := by decide +kernel
theorem dX7_figure_1 : decode cX7_figure 1 = .ok (.iload_n 1, 1) := by decide +kernel
theorem dX7_figure_2 : decode cX7_figure 2 = .ok (.invokevirtual 116, 3) := by decide +kernel
theorem dX7_figure_5 : decode cX7_figure 5 = .ok (.ifCond .eq 12, 3) := by decide +kernel
theorem dX7_figure_8 : decode cX7_figure 8 = .ok (.iload_n 2, 1) := by decide +kernel
theorem dX7_figure_9 : decode cX7_figure 9 = .ok (.iconst 0, 1) := by decide +kernel
theorem dX7_figure_10 : decode cX7_figure 10 = .ok (.iconst 4, 1) := by decide +kernel
theorem dX7_figure_11 : decode cX7_figure 11 = .ok (.invokestatic 78, 3) := by decide +kernel
theorem dX7_figure_14 : decode cX7_figure 14 = .ok (.ifCond .ne 9, 3) := by decide +kernel
theorem dX7_figure_17 : decode cX7_figure 17 = .ok (.aload_n 0, 1) := by decide +kernel
theorem dX7_figure_18 : decode cX7_figure 18 = .ok (.iconst 1, 1) := by decide +kernel
theorem dX7_figure_19 : decode cX7_figure 19 = .ok (.invokevirtual 82, 3) := by decide +kernel
theorem dX7_figure_22 : decode cX7_figure 22 = .ok (.ireturn, 1) := by decide +kernel
theorem dX7_figure_23 : decode cX7_figure 23 = .ok (.iload_n 2, 1) := by decide +kernel
theorem dX7_figure_24 : decode cX7_figure 24 = .ok (.tableswitch 95 0 3 #[32, 46, 60, 74], 32) := by decide +kernel
theorem dX7_figure_56 : decode cX7_figure 56 = .ok (.aload_n 0, 1) := by decide +kernel
theorem dX7_figure_57 : decode cX7_figure 57 = .ok (.aload_n 0, 1) := by decide +kernel
theorem dX7_figure_58 : decode cX7_figure 58 = .ok (.getfield 57, 3) := by decide +kernel
theorem dX7_figure_61 : decode cX7_figure 61 = .ok (.getfield 119, 3) := by decide +kernel
theorem dX7_figure_64 : decode cX7_figure 64 = .ok (.iload_n 1, 1) := by decide +kernel
theorem dX7_figure_65 : decode cX7_figure 65 = .ok (.iaload, 1) := by decide +kernel
theorem dX7_figure_66 : decode cX7_figure 66 = .ok (.invokevirtual 113, 3) := by decide +kernel
theorem dX7_figure_69 : decode cX7_figure 69 = .ok (.ireturn, 1) := by decide +kernel
theorem dX7_figure_70 : decode cX7_figure 70 = .ok (.aload_n 0, 1) := by decide +kernel
theorem dX7_figure_71 : decode cX7_figure 71 = .ok (.aload_n 0, 1) := by decide +kernel
theorem dX7_figure_72 : decode cX7_figure 72 = .ok (.getfield 57, 3) := by decide +kernel
theorem dX7_figure_75 : decode cX7_figure 75 = .ok (.getfield 123, 3) := by decide +kernel
theorem dX7_figure_78 : decode cX7_figure 78 = .ok (.iload_n 1, 1) := by decide +kernel
theorem dX7_figure_79 : decode cX7_figure 79 = .ok (.iaload, 1) := by decide +kernel
theorem dX7_figure_80 : decode cX7_figure 80 = .ok (.invokevirtual 113, 3) := by decide +kernel
theorem dX7_figure_83 : decode cX7_figure 83 = .ok (.ireturn, 1) := by decide +kernel
theorem dX7_figure_84 : decode cX7_figure 84 = .ok (.aload_n 0, 1) := by decide +kernel
theorem dX7_figure_85 : decode cX7_figure 85 = .ok (.aload_n 0, 1) := by decide +kernel
theorem dX7_figure_86 : decode cX7_figure 86 = .ok (.getfield 19, 3) := by decide +kernel
theorem dX7_figure_89 : decode cX7_figure 89 = .ok (.getfield 126, 3) := by decide +kernel
theorem dX7_figure_92 : decode cX7_figure 92 = .ok (.iload_n 1, 1) := by decide +kernel
theorem dX7_figure_93 : decode cX7_figure 93 = .ok (.iaload, 1) := by decide +kernel
theorem dX7_figure_94 : decode cX7_figure 94 = .ok (.invokevirtual 113, 3) := by decide +kernel
theorem dX7_figure_97 : decode cX7_figure 97 = .ok (.ireturn, 1) := by decide +kernel
theorem dX7_figure_98 : decode cX7_figure 98 = .ok (.aload_n 0, 1) := by decide +kernel
theorem dX7_figure_99 : decode cX7_figure 99 = .ok (.aload_n 0, 1) := by decide +kernel
theorem dX7_figure_100 : decode cX7_figure 100 = .ok (.getfield 19, 3) := by decide +kernel
theorem dX7_figure_103 : decode cX7_figure 103 = .ok (.iload_n 1, 1) := by decide +kernel
theorem dX7_figure_104 : decode cX7_figure 104 = .ok (.invokevirtual 129, 3) := by decide +kernel
theorem dX7_figure_107 : decode cX7_figure 107 = .ok (.ifCond .eq 7, 3) := by decide +kernel
theorem dX7_figure_110 : decode cX7_figure 110 = .ok (.iconst 1, 1) := by decide +kernel
theorem dX7_figure_111 : decode cX7_figure 111 = .ok (.goto 4, 3) := by decide +kernel
theorem dX7_figure_114 : decode cX7_figure 114 = .ok (.iconst 0, 1) := by decide +kernel
theorem dX7_figure_115 : decode cX7_figure 115 = .ok (.invokevirtual 113, 3) := by decide +kernel
theorem dX7_figure_118 : decode cX7_figure 118 = .ok (.ireturn, 1) := by decide +kernel
theorem dX7_figure_119 : decode cX7_figure 119 = .ok (.aload_n 0, 1) := by decide +kernel
theorem dX7_figure_120 : decode cX7_figure 120 = .ok (.aload_n 0, 1) := by decide +kernel
theorem dX7_figure_121 : decode cX7_figure 121 = .ok (.getfield 19, 3) := by decide +kernel
theorem dX7_figure_124 : decode cX7_figure 124 = .ok (.getfield 132, 3) := by decide +kernel
theorem dX7_figure_127 : decode cX7_figure 127 = .ok (.iload_n 1, 1) := by decide +kernel
theorem dX7_figure_128 : decode cX7_figure 128 = .ok (.iaload, 1) := by decide +kernel
theorem dX7_figure_129 : decode cX7_figure 129 = .ok (.invokevirtual 113, 3) := by decide +kernel
theorem dX7_figure_132 : decode cX7_figure 132 = .ok (.ireturn, 1) := by decide +kernel
theorem dX7_watcher_0 : decode cX7_watcher 0 = .ok (.aload_n 0, 1) := by decide +kernel
theorem dX7_watcher_1 : decode cX7_watcher 1 = .ok (.iload_n 1, 1) := by decide +kernel
theorem dX7_watcher_2 : decode cX7_watcher 2 = .ok (.invokevirtual 135, 3) := by decide +kernel
theorem dX7_watcher_5 : decode cX7_watcher 5 = .ok (.ifCond .eq 12, 3) := by decide +kernel
theorem dX7_watcher_8 : decode cX7_watcher 8 = .ok (.iload_n 2, 1) := by decide +kernel
theorem dX7_watcher_9 : decode cX7_watcher 9 = .ok (.iconst 0, 1) := by decide +kernel
theorem dX7_watcher_10 : decode cX7_watcher 10 = .ok (.iconst 2, 1) := by decide +kernel
theorem dX7_watcher_11 : decode cX7_watcher 11 = .ok (.invokestatic 78, 3) := by decide +kernel
theorem dX7_watcher_14 : decode cX7_watcher 14 = .ok (.ifCond .ne 9, 3) := by decide +kernel
theorem dX7_watcher_17 : decode cX7_watcher 17 = .ok (.aload_n 0, 1) := by decide +kernel
theorem dX7_watcher_18 : decode cX7_watcher 18 = .ok (.iconst 1, 1) := by decide +kernel
theorem dX7_watcher_19 : decode cX7_watcher 19 = .ok (.invokevirtual 82, 3) := by decide +kernel
theorem dX7_watcher_22 : decode cX7_watcher 22 = .ok (.ireturn, 1) := by decide +kernel
theorem dX7_watcher_23 : decode cX7_watcher 23 = .ok (.iload_n 2, 1) := by decide +kernel
theorem dX7_watcher_24 : decode cX7_watcher 24 = .ok (.lookupswitch 62 #[(0, 28), (1, 45)], 28) := by decide +kernel
theorem dX7_watcher_52 : decode cX7_watcher 52 = .ok (.aload_n 0, 1) := by decide +kernel
theorem dX7_watcher_53 : decode cX7_watcher 53 = .ok (.aload_n 0, 1) := by decide +kernel
theorem dX7_watcher_54 : decode cX7_watcher 54 = .ok (.getfield 57, 3) := by decide +kernel
theorem dX7_watcher_57 : decode cX7_watcher 57 = .ok (.getfield 138, 3) := by decide +kernel
theorem dX7_watcher_60 : decode cX7_watcher 60 = .ok (.getfield 141, 3) := by decide +kernel
theorem dX7_watcher_63 : decode cX7_watcher 63 = .ok (.iload_n 1, 1) := by decide +kernel
theorem dX7_watcher_64 : decode cX7_watcher 64 = .ok (.iaload, 1) := by decide +kernel
theorem dX7_watcher_65 : decode cX7_watcher 65 = .ok (.invokevirtual 113, 3) := by decide +kernel
theorem dX7_watcher_68 : decode cX7_watcher 68 = .ok (.ireturn, 1) := by decide +kernel
theorem dX7_watcher_69 : decode cX7_watcher 69 = .ok (.aload_n 0, 1) := by decide +kernel
theorem dX7_watcher_70 : decode cX7_watcher 70 = .ok (.aload_n 0, 1) := by decide +kernel
theorem dX7_watcher_71 : decode cX7_watcher 71 = .ok (.getfield 57, 3) := by decide +kernel
theorem dX7_watcher_74 : decode cX7_watcher 74 = .ok (.getfield 138, 3) := by decide +kernel
theorem dX7_watcher_77 : decode cX7_watcher 77 = .ok (.getfield 144, 3) := by decide +kernel
theorem dX7_watcher_80 : decode cX7_watcher 80 = .ok (.iload_n 1, 1) := by decide +kernel
theorem dX7_watcher_81 : decode cX7_watcher 81 = .ok (.iaload, 1) := by decide +kernel
theorem dX7_watcher_82 : decode cX7_watcher 82 = .ok (.invokevirtual 113, 3) := by decide +kernel
theorem dX7_watcher_85 : decode cX7_watcher 85 = .ok (.ireturn, 1) := by decide +kernel
theorem dX7_watcher_86 : decode cX7_watcher 86 = .ok (.aload_n 0, 1) := by decide +kernel
theorem dX7_watcher_87 : decode cX7_watcher 87 = .ok (.aload_n 0, 1) := by decide +kernel
theorem dX7_watcher_88 : decode cX7_watcher 88 = .ok (.getfield 57, 3) := by decide +kernel
theorem dX7_watcher_91 : decode cX7_watcher 91 = .ok (.getfield 138, 3) := by decide +kernel
theorem dX7_watcher_94 : decode cX7_watcher 94 = .ok (.iload_n 1, 1) := by decide +kernel
theorem dX7_watcher_95 : decode cX7_watcher 95 = .ok (.aload_n 0, 1) := by decide +kernel
theorem dX7_watcher_96 : decode cX7_watcher 96 = .ok (.getfield 19, 3) := by decide +kernel
theorem dX7_watcher_99 : decode cX7_watcher 99 = .ok (.getfield 147, 3) := by decide +kernel
theorem dX7_watcher_102 : decode cX7_watcher 102 = .ok (.invokevirtual 150, 3) := by decide +kernel
theorem dX7_watcher_105 : decode cX7_watcher 105 = .ok (.invokevirtual 113, 3) := by decide +kernel
theorem dX7_watcher_108 : decode cX7_watcher 108 = .ok (.ireturn, 1) := by decide +kernel
theorem dX7_alive_0 : decode cX7_alive 0 = .ok (.aload_n 0, 1) := by decide +kernel
theorem dX7_alive_1 : decode cX7_alive 1 = .ok (.invokevirtual 154, 3) := by decide +kernel
