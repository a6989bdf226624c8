theorem dX8_meets_68 : decode cX8_meets 68 = .ok (.bipush (-2), 2) := by decide +kernel
theorem dX8_meets_70 : decode cX8_meets 70 = .ok (.ireturn, 1) := by decide +kernel
theorem dX8_crowd_0 : decode cX8_crowd 0 = .ok (.aload_n 0, 1) := by decide +kernel
theorem dX8_crowd_1 : decode cX8_crowd 1 = .ok (.invokevirtual 160, 3) := by decide +kernel
theorem dX8_crowd_4 : decode cX8_crowd 4 = .ok (.aload_n 0, 1) := by decide +kernel
theorem dX8_crowd_5 : decode cX8_crowd 5 = .ok (.aload_n 0, 1) := by decide +kernel
theorem dX8_crowd_6 : decode cX8_crowd 6 = .ok (.getfield 173, 3) := by decide +kernel
theorem dX8_crowd_9 : decode cX8_crowd 9 = .ok (.iconst 0, 1) := by decide +kernel
theorem dX8_crowd_10 : decode cX8_crowd 10 = .ok (.iload_n 1, 1) := by decide +kernel
theorem dX8_crowd_11 : decode cX8_crowd 11 = .ok (.invokevirtual 300, 3) := by decide +kernel
theorem dX8_crowd_14 : decode cX8_crowd 14 = .ok (.istore_n 2, 1) := by decide +kernel
theorem dX8_crowd_15 : decode cX8_crowd 15 = .ok (.iload_n 2, 1) := by decide +kernel
theorem dX8_crowd_16 : decode cX8_crowd 16 = .ok (.ifCond .eq 9, 3) := by decide +kernel
theorem dX8_crowd_19 : decode cX8_crowd 19 = .ok (.aload_n 0, 1) := by decide +kernel
theorem dX8_crowd_20 : decode cX8_crowd 20 = .ok (.iload_n 2, 1) := by decide +kernel
theorem dX8_crowd_21 : decode cX8_crowd 21 = .ok (.invokevirtual 163, 3) := by decide +kernel
theorem dX8_crowd_24 : decode cX8_crowd 24 = .ok (.ireturn, 1) := by decide +kernel
theorem dX8_crowd_25 : decode cX8_crowd 25 = .ok (.aload_n 0, 1) := by decide +kernel
theorem dX8_crowd_26 : decode cX8_crowd 26 = .ok (.iload_n 1, 1) := by decide +kernel
theorem dX8_crowd_27 : decode cX8_crowd 27 = .ok (.invokevirtual 304, 3) := by decide +kernel
theorem dX8_crowd_30 : decode cX8_crowd 30 = .ok (.iconst 0, 1) := by decide +kernel
theorem dX8_crowd_31 : decode cX8_crowd 31 = .ok (.istore_n 3, 1) := by decide +kernel
theorem dX8_crowd_32 : decode cX8_crowd 32 = .ok (.iconst (-1), 1) := by decide +kernel
theorem dX8_crowd_33 : decode cX8_crowd 33 = .ok (.istore 4, 2) := by decide +kernel
theorem dX8_crowd_35 : decode cX8_crowd 35 = .ok (.iconst 0, 1) := by decide +kernel
theorem dX8_crowd_36 : decode cX8_crowd 36 = .ok (.istore 5, 2) := by decide +kernel
theorem dX8_crowd_38 : decode cX8_crowd 38 = .ok (.iload 5, 2) := by decide +kernel
theorem dX8_crowd_40 : decode cX8_crowd 40 = .ok (.aload_n 0, 1) := by decide +kernel
theorem dX8_crowd_41 : decode cX8_crowd 41 = .ok (.getfield 20, 3) := by decide +kernel
theorem dX8_crowd_44 : decode cX8_crowd 44 = .ok (.iconst 0, 1) := by decide +kernel
theorem dX8_crowd_45 : decode cX8_crowd 45 = .ok (.iaload, 1) := by decide +kernel
theorem dX8_crowd_46 : decode cX8_crowd 46 = .ok (.if_icmp .ge 86, 3) := by decide +kernel
theorem dX8_crowd_49 : decode cX8_crowd 49 = .ok (.iconst 0, 1) := by decide +kernel
theorem dX8_crowd_50 : decode cX8_crowd 50 = .ok (.istore 6, 2) := by decide +kernel
theorem dX8_crowd_52 : decode cX8_crowd 52 = .ok (.iconst 0, 1) := by decide +kernel
theorem dX8_crowd_53 : decode cX8_crowd 53 = .ok (.istore 7, 2) := by decide +kernel
theorem dX8_crowd_55 : decode cX8_crowd 55 = .ok (.iload 7, 2) := by decide +kernel
theorem dX8_crowd_57 : decode cX8_crowd 57 = .ok (.aload_n 0, 1) := by decide +kernel
theorem dX8_crowd_58 : decode cX8_crowd 58 = .ok (.getfield 20, 3) := by decide +kernel
theorem dX8_crowd_61 : decode cX8_crowd 61 = .ok (.iconst 0, 1) := by decide +kernel
theorem dX8_crowd_62 : decode cX8_crowd 62 = .ok (.iaload, 1) := by decide +kernel
theorem dX8_crowd_63 : decode cX8_crowd 63 = .ok (.if_icmp .ge 46, 3) := by decide +kernel
theorem dX8_crowd_66 : decode cX8_crowd 66 = .ok (.iload 6, 2) := by decide +kernel
theorem dX8_crowd_68 : decode cX8_crowd 68 = .ok (.aload_n 0, 1) := by decide +kernel
theorem dX8_crowd_69 : decode cX8_crowd 69 = .ok (.getfield 29, 3) := by decide +kernel
theorem dX8_crowd_72 : decode cX8_crowd 72 = .ok (.iload 7, 2) := by decide +kernel
theorem dX8_crowd_74 : decode cX8_crowd 74 = .ok (.iaload, 1) := by decide +kernel
theorem dX8_crowd_75 : decode cX8_crowd 75 = .ok (.iload 5, 2) := by decide +kernel
theorem dX8_crowd_77 : decode cX8_crowd 77 = .ok (.if_icmp .ne 22, 3) := by decide +kernel
theorem dX8_crowd_80 : decode cX8_crowd 80 = .ok (.aload_n 0, 1) := by decide +kernel
theorem dX8_crowd_81 : decode cX8_crowd 81 = .ok (.getfield 29, 3) := by decide +kernel
theorem dX8_crowd_84 : decode cX8_crowd 84 = .ok (.bipush 18, 2) := by decide +kernel
theorem dX8_crowd_86 : decode cX8_crowd 86 = .ok (.iaload, 1) := by decide +kernel
theorem dX8_crowd_87 : decode cX8_crowd 87 = .ok (.iload 7, 2) := by decide +kernel
theorem dX8_crowd_89 : decode cX8_crowd 89 = .ok (.invokestatic 238, 3) := by decide +kernel
theorem dX8_crowd_92 : decode cX8_crowd 92 = .ok (.ifCond .ne 7, 3) := by decide +kernel
theorem dX8_crowd_95 : decode cX8_crowd 95 = .ok (.iconst 1, 1) := by decide +kernel
theorem dX8_crowd_96 : decode cX8_crowd 96 = .ok (.goto 4, 3) := by decide +kernel
theorem dX8_crowd_99 : decode cX8_crowd 99 = .ok (.iconst 0, 1) := by decide +kernel
theorem dX8_crowd_100 : decode cX8_crowd 100 = .ok (.iadd, 1) := by decide +kernel
theorem dX8_crowd_101 : decode cX8_crowd 101 = .ok (.istore 6, 2) := by decide +kernel
theorem dX8_crowd_103 : decode cX8_crowd 103 = .ok (.iinc 7 1, 3) := by decide +kernel
theorem dX8_crowd_106 : decode cX8_crowd 106 = .ok (.goto (-51), 3) := by decide +kernel
theorem dX8_crowd_109 : decode cX8_crowd 109 = .ok (.iload 6, 2) := by decide +kernel
theorem dX8_crowd_111 : decode cX8_crowd 111 = .ok (.iload 4, 2) := by decide +kernel
theorem dX8_crowd_113 : decode cX8_crowd 113 = .ok (.if_icmp .gt 6, 3) := by decide +kernel
theorem dX8_crowd_116 : decode cX8_crowd 116 = .ok (.goto 10, 3) := by decide +kernel
theorem dX8_crowd_119 : decode cX8_crowd 119 = .ok (.iload 5, 2) := by decide +kernel
theorem dX8_crowd_121 : decode cX8_crowd 121 = .ok (.istore_n 3, 1) := by decide +kernel
theorem dX8_crowd_122 : decode cX8_crowd 122 = .ok (.iload 6, 2) := by decide +kernel
theorem dX8_crowd_124 : decode cX8_crowd 124 = .ok (.istore 4, 2) := by decide +kernel
theorem dX8_crowd_126 : decode cX8_crowd 126 = .ok (.iinc 5 1, 3) := by decide +kernel
theorem dX8_crowd_129 : decode cX8_crowd 129 = .ok (.goto (-91), 3) := by decide +kernel
theorem dX8_crowd_132 : decode cX8_crowd 132 = .ok (.iload_n 3, 1) := by decide +kernel
theorem dX8_crowd_133 : decode cX8_crowd 133 = .ok (.ireturn, 1) := by decide +kernel
theorem dX8_between_0 : decode cX8_between 0 = .ok (.iload_n 0, 1) := by decide +kernel
theorem dX8_between_1 : decode cX8_between 1 = .ok (.iload_n 1, 1) := by decide +kernel
theorem dX8_between_2 : decode cX8_between 2 = .ok (.if_icmp .ge 9, 3) := by decide +kernel
theorem dX8_between_5 : decode cX8_between 5 = .ok (.iload_n 1, 1) := by decide +kernel
theorem dX8_between_6 : decode cX8_between 6 = .ok (.iload_n 0, 1) := by decide +kernel
theorem dX8_between_7 : decode cX8_between 7 = .ok (.isub, 1) := by decide +kernel
theorem dX8_between_8 : decode cX8_between 8 = .ok (.goto 6, 3) := by decide +kernel
theorem dX8_between_11 : decode cX8_between 11 = .ok (.iload_n 0, 1) := by decide +kernel
theorem dX8_between_12 : decode cX8_between 12 = .ok (.iload_n 1, 1) := by decide +kernel
theorem dX8_between_13 : decode cX8_between 13 = .ok (.isub, 1) := by decide +kernel
theorem dX8_between_14 : decode cX8_between 14 = .ok (.ireturn, 1) := by decide +kernel
theorem dX8_farthest_0 : decode cX8_farthest 0 = .ok (.aload_n 0, 1) := by decide +kernel
theorem dX8_farthest_1 : decode cX8_farthest 1 = .ok (.invokevirtual 160, 3) := by decide +kernel
theorem dX8_farthest_4 : decode cX8_farthest 4 = .ok (.aload_n 0, 1) := by decide +kernel
theorem dX8_farthest_5 : decode cX8_farthest 5 = .ok (.aload_n 0, 1) := by decide +kernel
theorem dX8_farthest_6 : decode cX8_farthest 6 = .ok (.getfield 173, 3) := by decide +kernel
theorem dX8_farthest_9 : decode cX8_farthest 9 = .ok (.iconst 0, 1) := by decide +kernel
theorem dX8_farthest_10 : decode cX8_farthest 10 = .ok (.iload_n 1, 1) := by decide +kernel
theorem dX8_farthest_11 : decode cX8_farthest 11 = .ok (.invokevirtual 300, 3) := by decide +kernel
theorem dX8_farthest_14 : decode cX8_farthest 14 = .ok (.istore_n 2, 1) := by decide +kernel
theorem dX8_farthest_15 : decode cX8_farthest 15 = .ok (.iload_n 2, 1) := by decide +kernel
theorem dX8_farthest_16 : decode cX8_farthest 16 = .ok (.ifCond .eq 9, 3) := by decide +kernel
theorem dX8_farthest_19 : decode cX8_farthest 19 = .ok (.aload_n 0, 1) := by decide +kernel
theorem dX8_farthest_20 : decode cX8_farthest 20 = .ok (.iload_n 2, 1) := by decide +kernel
theorem dX8_farthest_21 : decode cX8_farthest 21 = .ok (.invokevirtual 163, 3) := by decide +kernel
theorem dX8_farthest_24 : decode cX8_farthest 24 = .ok (.ireturn, 1) := by decide +kernel
theorem dX8_farthest_25 : decode cX8_farthest 25 = .ok (.aload_n 0, 1) := by decide +kernel
theorem dX8_farthest_26 : decode cX8_farthest 26 = .ok (.iload_n 1, 1) := by decide +kernel
theorem dX8_farthest_27 : decode cX8_farthest 27 = .ok (.invokevirtual 304, 3) := by decide +kernel
theorem dX8_farthest_30 : decode cX8_farthest 30 = .ok (.iconst 0, 1) := by decide +kernel
theorem dX8_farthest_31 : decode cX8_farthest 31 = .ok (.istore_n 3, 1) := by decide +kernel
theorem dX8_farthest_32 : decode cX8_farthest 32 = .ok (.iconst 1, 1) := by decide +kernel
theorem dX8_farthest_33 : decode cX8_farthest 33 = .ok (.istore 4, 2) := by decide +kernel
theorem dX8_farthest_35 : decode cX8_farthest 35 = .ok (.iload 4, 2) := by decide +kernel
theorem dX8_farthest_37 : decode cX8_farthest 37 = .ok (.aload_n 0, 1) := by decide +kernel
theorem dX8_farthest_38 : decode cX8_farthest 38 = .ok (.getfield 20, 3) := by decide +kernel
theorem dX8_farthest_41 : decode cX8_farthest 41 = .ok (.iconst 0, 1) := by decide +kernel
theorem dX8_farthest_42 : decode cX8_farthest 42 = .ok (.iaload, 1) := by decide +kernel
theorem dX8_farthest_43 : decode cX8_farthest 43 = .ok (.if_icmp .ge 37, 3) := by decide +kernel
theorem dX8_farthest_46 : decode cX8_farthest 46 = .ok (.aload_n 0, 1) := by decide +kernel
theorem dX8_farthest_47 : decode cX8_farthest 47 = .ok (.getfield 29, 3) := by decide +kernel
theorem dX8_farthest_50 : decode cX8_farthest 50 = .ok (.iload 4, 2) := by decide +kernel
theorem dX8_farthest_52 : decode cX8_farthest 52 = .ok (.iaload, 1) := by decide +kernel
theorem dX8_farthest_53 : decode cX8_farthest 53 = .ok (.iload 4, 2) := by decide +kernel
theorem dX8_farthest_55 : decode cX8_farthest 55 = .ok (.invokestatic 310, 3) := by decide +kernel
theorem dX8_farthest_58 : decode cX8_farthest 58 = .ok (.aload_n 0, 1) := by decide +kernel
theorem dX8_farthest_59 : decode cX8_farthest 59 = .ok (.getfield 29, 3) := by decide +kernel
theorem dX8_farthest_62 : decode cX8_farthest 62 = .ok (.iload_n 3, 1) := by decide +kernel
theorem dX8_farthest_63 : decode cX8_farthest 63 = .ok (.iaload, 1) := by decide +kernel
theorem dX8_farthest_64 : decode cX8_farthest 64 = .ok (.iload_n 3, 1) := by decide +kernel
theorem dX8_farthest_65 : decode cX8_farthest 65 = .ok (.invokestatic 310, 3) := by decide +kernel
theorem dX8_farthest_68 : decode cX8_farthest 68 = .ok (.if_icmp .le 6, 3) := by decide +kernel
theorem dX8_farthest_71 : decode cX8_farthest 71 = .ok (.iload 4, 2) := by decide +kernel
theorem dX8_farthest_73 : decode cX8_farthest 73 = .ok (.istore_n 3, 1) := by decide +kernel
theorem dX8_farthest_74 : decode cX8_farthest 74 = .ok (.iinc 4 1, 3) := by decide +kernel
theorem dX8_farthest_77 : decode cX8_farthest 77 = .ok (.goto (-42), 3) := by decide +kernel
theorem dX8_farthest_80 : decode cX8_farthest 80 = .ok (.iload_n 3, 1) := by decide +kernel
theorem dX8_farthest_81 : decode cX8_farthest 81 = .ok (.ireturn, 1) := by decide +kernel
theorem dX8_nearBy_0 : decode cX8_nearBy 0 = .ok (.aload_n 0, 1) := by decide +kernel
theorem dX8_nearBy_1 : decode cX8_nearBy 1 = .ok (.invokevirtual 160, 3) := by decide +kernel
theorem dX8_nearBy_4 : decode cX8_nearBy 4 = .ok (.aload_n 0, 1) := by decide +kernel
theorem dX8_nearBy_5 : decode cX8_nearBy 5 = .ok (.aload_n 0, 1) := by decide +kernel
theorem dX8_nearBy_6 : decode cX8_nearBy 6 = .ok (.iload_n 1, 1) := by decide +kernel
theorem dX8_nearBy_7 : decode cX8_nearBy 7 = .ok (.invokevirtual 277, 3) := by decide +kernel
theorem dX8_nearBy_10 : decode cX8_nearBy 10 = .ok (.iconst 0, 1) := by decide +kernel
theorem dX8_nearBy_11 : decode cX8_nearBy 11 = .ok (.iload_n 2, 1) := by decide +kernel
theorem dX8_nearBy_12 : decode cX8_nearBy 12 = .ok (.invokevirtual 300, 3) := by decide +kernel
theorem dX8_nearBy_15 : decode cX8_nearBy 15 = .ok (.istore_n 3, 1) := by decide +kernel
theorem dX8_nearBy_16 : decode cX8_nearBy 16 = .ok (.iload_n 3, 1) := by decide +kernel
theorem dX8_nearBy_17 : decode cX8_nearBy 17 = .ok (.ifCond .eq 9, 3) := by decide +kernel
theorem dX8_nearBy_20 : decode cX8_nearBy 20 = .ok (.aload_n 0, 1) := by decide +kernel
theorem dX8_nearBy_21 : decode cX8_nearBy 21 = .ok (.iload_n 3, 1) := by decide +kernel
theorem dX8_nearBy_22 : decode cX8_nearBy 22 = .ok (.invokevirtual 163, 3) := by decide +kernel
theorem dX8_nearBy_25 : decode cX8_nearBy 25 = .ok (.ireturn, 1) := by decide +kernel
theorem dX8_nearBy_26 : decode cX8_nearBy 26 = .ok (.aload_n 0, 1) := by decide +kernel
theorem dX8_nearBy_27 : decode cX8_nearBy 27 = .ok (.invokevirtual 270, 3) := by decide +kernel
theorem dX8_nearBy_30 : decode cX8_nearBy 30 = .ok (.iconst 0, 1) := by decide +kernel
theorem dX8_nearBy_31 : decode cX8_nearBy 31 = .ok (.istore 4, 2) := by decide +kernel
theorem dX8_nearBy_33 : decode cX8_nearBy 33 = .ok (.iconst 0, 1) := by decide +kernel
theorem dX8_nearBy_34 : decode cX8_nearBy 34 = .ok (.istore 5, 2) := by decide +kernel
theorem dX8_nearBy_36 : decode cX8_nearBy 36 = .ok (.iload 5, 2) := by decide +kernel
theorem dX8_nearBy_38 : decode cX8_nearBy 38 = .ok (.iload_n 2, 1) := by decide +kernel
theorem dX8_nearBy_39 : decode cX8_nearBy 39 = .ok (.if_icmp .ge 65, 3) := by decide +kernel
theorem dX8_nearBy_42 : decode cX8_nearBy 42 = .ok (.aload_n 0, 1) := by decide +kernel
theorem dX8_nearBy_43 : decode cX8_nearBy 43 = .ok (.getfield 29, 3) := by decide +kernel
theorem dX8_nearBy_46 : decode cX8_nearBy 46 = .ok (.bipush 21, 2) := by decide +kernel
theorem dX8_nearBy_48 : decode cX8_nearBy 48 = .ok (.iaload, 1) := by decide +kernel
theorem dX8_nearBy_49 : decode cX8_nearBy 49 = .ok (.istore 6, 2) := by decide +kernel
theorem dX8_nearBy_51 : decode cX8_nearBy 51 = .ok (.aload_n 0, 1) := by decide +kernel
theorem dX8_nearBy_52 : decode cX8_nearBy 52 = .ok (.aload_n 0, 1) := by decide +kernel
theorem dX8_nearBy_53 : decode cX8_nearBy 53 = .ok (.getfield 29, 3) := by decide +kernel
theorem dX8_nearBy_56 : decode cX8_nearBy 56 = .ok (.invokevirtual 273, 3) := by decide +kernel
theorem dX8_nearBy_59 : decode cX8_nearBy 59 = .ok (.iload 4, 2) := by decide +kernel
theorem dX8_nearBy_61 : decode cX8_nearBy 61 = .ok (.aload_n 0, 1) := by decide +kernel
theorem dX8_nearBy_62 : decode cX8_nearBy 62 = .ok (.getfield 29, 3) := by decide +kernel
theorem dX8_nearBy_65 : decode cX8_nearBy 65 = .ok (.bipush 18, 2) := by decide +kernel
theorem dX8_nearBy_67 : decode cX8_nearBy 67 = .ok (.iaload, 1) := by decide +kernel
theorem dX8_nearBy_68 : decode cX8_nearBy 68 = .ok (.iload_n 1, 1) := by decide +kernel
theorem dX8_nearBy_69 : decode cX8_nearBy 69 = .ok (.invokestatic 238, 3) := by decide +kernel
theorem dX8_nearBy_72 : decode cX8_nearBy 72 = .ok (.ifCond .ne 22, 3) := by decide +kernel
theorem dX8_nearBy_75 : decode cX8_nearBy 75 = .ok (.aload_n 0, 1) := by decide +kernel
theorem dX8_nearBy_76 : decode cX8_nearBy 76 = .ok (.aload_n 0, 1) := by decide +kernel
theorem dX8_nearBy_77 : decode cX8_nearBy 77 = .ok (.getfield 29, 3) := by decide +kernel
theorem dX8_nearBy_80 : decode cX8_nearBy 80 = .ok (.iload_n 1, 1) := by decide +kernel
theorem dX8_nearBy_81 : decode cX8_nearBy 81 = .ok (.iaload, 1) := by decide +kernel
theorem dX8_nearBy_82 : decode cX8_nearBy 82 = .ok (.iload 6, 2) := by decide +kernel
theorem dX8_nearBy_84 : decode cX8_nearBy 84 = .ok (.invokevirtual 245, 3) := by decide +kernel
theorem dX8_nearBy_87 : decode cX8_nearBy 87 = .ok (.ifCond .eq 7, 3) := by decide +kernel
theorem dX8_nearBy_90 : decode cX8_nearBy 90 = .ok (.iconst 1, 1) := by decide +kernel
theorem dX8_nearBy_91 : decode cX8_nearBy 91 = .ok (.goto 4, 3) := by decide +kernel
theorem dX8_nearBy_94 : decode cX8_nearBy 94 = .ok (.iconst 0, 1) := by decide +kernel
theorem dX8_nearBy_95 : decode cX8_nearBy 95 = .ok (.iadd, 1) := by decide +kernel
theorem dX8_nearBy_96 : decode cX8_nearBy 96 = .ok (.istore 4, 2) := by decide +kernel
theorem dX8_nearBy_98 : decode cX8_nearBy 98 = .ok (.iinc 5 1, 3) := by decide +kernel
theorem dX8_nearBy_101 : decode cX8_nearBy 101 = .ok (.goto (-65), 3) := by decide +kernel
theorem dX8_nearBy_104 : decode cX8_nearBy 104 = .ok (.iload 4, 2) := by decide +kernel
theorem dX8_nearBy_106 : decode cX8_nearBy 106 = .ok (.ireturn, 1) := by decide +kernel
theorem dX8_spoken_0 : decode cX8_spoken 0 = .ok (.aload_n 0, 1) := by decide +kernel
theorem dX8_spoken_1 : decode cX8_spoken 1 = .ok (.invokevirtual 160, 3) := by decide +kernel
theorem dX8_spoken_4 : decode cX8_spoken 4 = .ok (.aload_n 0, 1) := by decide +kernel
theorem dX8_spoken_5 : decode cX8_spoken 5 = .ok (.aload_n 0, 1) := by decide +kernel
theorem dX8_spoken_6 : decode cX8_spoken 6 = .ok (.iload_n 1, 1) := by decide +kernel
theorem dX8_spoken_7 : decode cX8_spoken 7 = .ok (.invokevirtual 277, 3) := by decide +kernel
theorem dX8_spoken_10 : decode cX8_spoken 10 = .ok (.iconst 0, 1) := by decide +kernel
theorem dX8_spoken_11 : decode cX8_spoken 11 = .ok (.iload_n 2, 1) := by decide +kernel
theorem dX8_spoken_12 : decode cX8_spoken 12 = .ok (.invokevirtual 300, 3) := by decide +kernel
theorem dX8_spoken_15 : decode cX8_spoken 15 = .ok (.istore_n 3, 1) := by decide +kernel
theorem dX8_spoken_16 : decode cX8_spoken 16 = .ok (.iload_n 3, 1) := by decide +kernel
theorem dX8_spoken_17 : decode cX8_spoken 17 = .ok (.ifCond .eq 9, 3) := by decide +kernel
theorem dX8_spoken_20 : decode cX8_spoken 20 = .ok (.aload_n 0, 1) := by decide +kernel
theorem dX8_spoken_21 : decode cX8_spoken 21 = .ok (.iload_n 3, 1) := by decide +kernel
theorem dX8_spoken_22 : decode cX8_spoken 22 = .ok (.invokevirtual 163, 3) := by decide +kernel
theorem dX8_spoken_25 : decode cX8_spoken 25 = .ok (.ireturn, 1) := by decide +kernel
theorem dX8_spoken_26 : decode cX8_spoken 26 = .ok (.aload_n 0, 1) := by decide +kernel
theorem dX8_spoken_27 : decode cX8_spoken 27 = .ok (.invokevirtual 270, 3) := by decide +kernel
theorem dX8_spoken_30 : decode cX8_spoken 30 = .ok (.iconst 0, 1) := by decide +kernel
theorem dX8_spoken_31 : decode cX8_spoken 31 = .ok (.istore 4, 2) := by decide +kernel
theorem dX8_spoken_33 : decode cX8_spoken 33 = .ok (.iconst 0, 1) := by decide +kernel
theorem dX8_spoken_34 : decode cX8_spoken 34 = .ok (.istore 5, 2) := by decide +kernel
theorem dX8_spoken_36 : decode cX8_spoken 36 = .ok (.iload 5, 2) := by decide +kernel
theorem dX8_spoken_38 : decode cX8_spoken 38 = .ok (.iload_n 2, 1) := by decide +kernel
theorem dX8_spoken_39 : decode cX8_spoken 39 = .ok (.if_icmp .ge 38, 3) := by decide +kernel
theorem dX8_spoken_42 : decode cX8_spoken 42 = .ok (.aload_n 0, 1) := by decide +kernel
theorem dX8_spoken_43 : decode cX8_spoken 43 = .ok (.aload_n 0, 1) := by decide +kernel
theorem dX8_spoken_44 : decode cX8_spoken 44 = .ok (.getfield 29, 3) := by decide +kernel
theorem dX8_spoken_47 : decode cX8_spoken 47 = .ok (.invokevirtual 273, 3) := by decide +kernel
theorem dX8_spoken_50 : decode cX8_spoken 50 = .ok (.iload 4, 2) := by decide +kernel
theorem dX8_spoken_52 : decode cX8_spoken 52 = .ok (.aload_n 0, 1) := by decide +kernel
theorem dX8_spoken_53 : decode cX8_spoken 53 = .ok (.getfield 258, 3) := by decide +kernel
theorem dX8_spoken_56 : decode cX8_spoken 56 = .ok (.iload_n 1, 1) := by decide +kernel
theorem dX8_spoken_57 : decode cX8_spoken 57 = .ok (.if_icmp .ne 10, 3) := by decide +kernel
theorem dX8_spoken_60 : decode cX8_spoken 60 = .ok (.aload_n 0, 1) := by decide +kernel
theorem dX8_spoken_61 : decode cX8_spoken 61 = .ok (.getfield 248, 3) := by decide +kernel
theorem dX8_spoken_64 : decode cX8_spoken 64 = .ok (.goto 4, 3) := by decide +kernel
theorem dX8_spoken_67 : decode cX8_spoken 67 = .ok (.iconst 0, 1) := by decide +kernel
theorem dX8_spoken_68 : decode cX8_spoken 68 = .ok (.ior, 1) := by decide +kernel
theorem dX8_spoken_69 : decode cX8_spoken 69 = .ok (.istore 4, 2) := by decide +kernel
theorem dX8_spoken_71 : decode cX8_spoken 71 = .ok (.iinc 5 1, 3) := by decide +kernel
theorem dX8_spoken_74 : decode cX8_spoken 74 = .ok (.goto (-38), 3) := by decide +kernel
theorem dX8_spoken_77 : decode cX8_spoken 77 = .ok (.iload 4, 2) := by decide +kernel
theorem dX8_spoken_79 : decode cX8_spoken 79 = .ok (.ireturn, 1) := by decide +kernel
theorem dX8_windBest_0 : decode cX8_windBest 0 = .ok (.aload_n 0, 1) := by decide +kernel
theorem dX8_windBest_1 : decode cX8_windBest 1 = .ok (.invokevirtual 160, 3) := by decide +kernel
theorem dX8_windBest_4 : decode cX8_windBest 4 = .ok (.aload_n 0, 1) := by decide +kernel
theorem dX8_windBest_5 : decode cX8_windBest 5 = .ok (.getfield 173, 3) := by decide +kernel
theorem dX8_windBest_8 : decode cX8_windBest 8 = .ok (.ifCond .ne 9, 3) := by decide +kernel
theorem dX8_windBest_11 : decode cX8_windBest 11 = .ok (.aload_n 0, 1) := by decide +kernel
theorem dX8_windBest_12 : decode cX8_windBest 12 = .ok (.iconst 1, 1) := by decide +kernel
theorem dX8_windBest_13 : decode cX8_windBest 13 = .ok (.invokevirtual 163, 3) := by decide +kernel
theorem dX8_windBest_16 : decode cX8_windBest 16 = .ok (.ireturn, 1) := by decide +kernel
theorem dX8_windBest_17 : decode cX8_windBest 17 = .ok (.iconst 0, 1) := by decide +kernel
theorem dX8_windBest_18 : decode cX8_windBest 18 = .ok (.istore_n 1, 1) := by decide +kernel
theorem dX8_windBest_19 : decode cX8_windBest 19 = .ok (.iconst (-1), 1) := by decide +kernel
theorem dX8_windBest_20 : decode cX8_windBest 20 = .ok (.istore_n 2, 1) := by decide +kernel
theorem dX8_windBest_21 : decode cX8_windBest 21 = .ok (.iconst 0, 1) := by decide +kernel
theorem dX8_windBest_22 : decode cX8_windBest 22 = .ok (.istore_n 3, 1) := by decide +kernel
theorem dX8_windBest_23 : decode cX8_windBest 23 = .ok (.iload_n 3, 1) := by decide +kernel
theorem dX8_windBest_24 : decode cX8_windBest 24 = .ok (.aload_n 0, 1) := by decide +kernel
theorem dX8_windBest_25 : decode cX8_windBest 25 = .ok (.getfield 20, 3) := by decide +kernel
theorem dX8_windBest_28 : decode cX8_windBest 28 = .ok (.iconst 0, 1) := by decide +kernel
theorem dX8_windBest_29 : decode cX8_windBest 29 = .ok (.iaload, 1) := by decide +kernel
theorem dX8_windBest_30 : decode cX8_windBest 30 = .ok (.if_icmp .ge 59, 3) := by decide +kernel
theorem dX8_windBest_33 : decode cX8_windBest 33 = .ok (.aload_n 0, 1) := by decide +kernel
theorem dX8_windBest_34 : decode cX8_windBest 34 = .ok (.invokevirtual 270, 3) := by decide +kernel
theorem dX8_windBest_37 : decode cX8_windBest 37 = .ok (.aload_n 0, 1) := by decide +kernel
theorem dX8_windBest_38 : decode cX8_windBest 38 = .ok (.getfield 29, 3) := by decide +kernel
theorem dX8_windBest_41 : decode cX8_windBest 41 = .ok (.bipush 19, 2) := by decide +kernel
theorem dX8_windBest_43 : decode cX8_windBest 43 = .ok (.iload_n 3, 1) := by decide +kernel
theorem dX8_windBest_44 : decode cX8_windBest 44 = .ok (.iastore, 1) := by decide +kernel
theorem dX8_windBest_45 : decode cX8_windBest 45 = .ok (.aload_n 0, 1) := by decide +kernel
theorem dX8_windBest_46 : decode cX8_windBest 46 = .ok (.getfield 29, 3) := by decide +kernel
theorem dX8_windBest_49 : decode cX8_windBest 49 = .ok (.bipush 20, 2) := by decide +kernel
theorem dX8_windBest_51 : decode cX8_windBest 51 = .ok (.iconst 0, 1) := by decide +kernel
theorem dX8_windBest_52 : decode cX8_windBest 52 = .ok (.iastore, 1) := by decide +kernel
theorem dX8_windBest_53 : decode cX8_windBest 53 = .ok (.aload_n 0, 1) := by decide +kernel
theorem dX8_windBest_54 : decode cX8_windBest 54 = .ok (.invokevirtual 307, 3) := by decide +kernel
theorem dX8_windBest_57 : decode cX8_windBest 57 = .ok (.istore 4, 2) := by decide +kernel
theorem dX8_windBest_59 : decode cX8_windBest 59 = .ok (.iload 4, 2) := by decide +kernel
theorem dX8_windBest_61 : decode cX8_windBest 61 = .ok (.ifCond .ge 8, 3) := by decide +kernel
theorem dX8_windBest_64 : decode cX8_windBest 64 = .ok (.sipush 301, 3) := by decide +kernel
theorem dX8_windBest_67 : decode cX8_windBest 67 = .ok (.istore 4, 2) := by decide +kernel
theorem dX8_windBest_69 : decode cX8_windBest 69 = .ok (.iload 4, 2) := by decide +kernel
theorem dX8_windBest_71 : decode cX8_windBest 71 = .ok (.iload_n 2, 1) := by decide +kernel
theorem dX8_windBest_72 : decode cX8_windBest 72 = .ok (.if_icmp .gt 6, 3) := by decide +kernel
theorem dX8_windBest_75 : decode cX8_windBest 75 = .ok (.goto 8, 3) := by decide +kernel
theorem dX8_windBest_78 : decode cX8_windBest 78 = .ok (.iload_n 3, 1) := by decide +kernel
theorem dX8_windBest_79 : decode cX8_windBest 79 = .ok (.istore_n 1, 1) := by decide +kernel
theorem dX8_windBest_80 : decode cX8_windBest 80 = .ok (.iload 4, 2) := by decide +kernel
theorem dX8_windBest_82 : decode cX8_windBest 82 = .ok (.istore_n 2, 1) := by decide +kernel
theorem dX8_windBest_83 : decode cX8_windBest 83 = .ok (.iinc 3 1, 3) := by decide +kernel
theorem dX8_windBest_86 : decode cX8_windBest 86 = .ok (.goto (-63), 3) := by decide +kernel
theorem dX8_windBest_89 : decode cX8_windBest 89 = .ok (.iload_n 1, 1) := by decide +kernel
theorem dX8_windBest_90 : decode cX8_windBest 90 = .ok (.ireturn, 1) := by decide +kernel
theorem dX8_patrol_0 : decode cX8_patrol 0 = .ok (.aload_n 0, 1) := by decide +kernel
theorem dX8_patrol_1 : decode cX8_patrol 1 = .ok (.invokevirtual 160, 3) := by decide +kernel
theorem dX8_patrol_4 : decode cX8_patrol 4 = .ok (.aload_n 0, 1) := by decide +kernel
theorem dX8_patrol_5 : decode cX8_patrol 5 = .ok (.aload_n 0, 1) := by decide +kernel
theorem dX8_patrol_6 : decode cX8_patrol 6 = .ok (.iload_n 1, 1) := by decide +kernel
theorem dX8_patrol_7 : decode cX8_patrol 7 = .ok (.invokevirtual 280, 3) := by decide +kernel
theorem dX8_patrol_10 : decode cX8_patrol 10 = .ok (.iload_n 2, 1) := by decide +kernel
theorem dX8_patrol_11 : decode cX8_patrol 11 = .ok (.iconst 1, 1) := by decide +kernel
theorem dX8_patrol_12 : decode cX8_patrol 12 = .ok (.bipush 60, 2) := by decide +kernel
theorem dX8_patrol_14 : decode cX8_patrol 14 = .ok (.invokestatic 142, 3) := by decide +kernel
theorem dX8_patrol_17 : decode cX8_patrol 17 = .ok (.invokevirtual 290, 3) := by decide +kernel
theorem dX8_patrol_20 : decode cX8_patrol 20 = .ok (.istore_n 3, 1) := by decide +kernel
theorem dX8_patrol_21 : decode cX8_patrol 21 = .ok (.iload_n 3, 1) := by decide +kernel
theorem dX8_patrol_22 : decode cX8_patrol 22 = .ok (.ifCond .eq 9, 3) := by decide +kernel
theorem dX8_patrol_25 : decode cX8_patrol 25 = .ok (.aload_n 0, 1) := by decide +kernel
theorem dX8_patrol_26 : decode cX8_patrol 26 = .ok (.iload_n 3, 1) := by decide +kernel
theorem dX8_patrol_27 : decode cX8_patrol 27 = .ok (.invokevirtual 163, 3) := by decide +kernel
theorem dX8_patrol_30 : decode cX8_patrol 30 = .ok (.ireturn, 1) := by decide +kernel
theorem dX8_patrol_31 : decode cX8_patrol 31 = .ok (.bipush (-2), 2) := by decide +kernel
theorem dX8_patrol_33 : decode cX8_patrol 33 = .ok (.istore 4, 2) := by decide +kernel
theorem dX8_patrol_35 : decode cX8_patrol 35 = .ok (.ldc_w 313, 3) := by decide +kernel
theorem dX8_patrol_38 : decode cX8_patrol 38 = .ok (.istore 5, 2) := by decide +kernel
theorem dX8_patrol_40 : decode cX8_patrol 40 = .ok (.iconst (-1), 1) := by decide +kernel
theorem dX8_patrol_41 : decode cX8_patrol 41 = .ok (.istore 6, 2) := by decide +kernel
theorem dX8_patrol_43 : decode cX8_patrol 43 = .ok (.iconst 0, 1) := by decide +kernel
theorem dX8_patrol_44 : decode cX8_patrol 44 = .ok (.istore 7, 2) := by decide +kernel
theorem dX8_patrol_46 : decode cX8_patrol 46 = .ok (.iload 7, 2) := by decide +kernel
theorem dX8_patrol_48 : decode cX8_patrol 48 = .ok (.aload_n 0, 1) := by decide +kernel
theorem dX8_patrol_49 : decode cX8_patrol 49 = .ok (.getfield 20, 3) := by decide +kernel
theorem dX8_patrol_52 : decode cX8_patrol 52 = .ok (.iconst 0, 1) := by decide +kernel
theorem dX8_patrol_53 : decode cX8_patrol 53 = .ok (.iaload, 1) := by decide +kernel
theorem dX8_patrol_54 : decode cX8_patrol 54 = .ok (.aload_n 0, 1) := by decide +kernel
theorem dX8_patrol_55 : decode cX8_patrol 55 = .ok (.getfield 20, 3) := by decide +kernel
theorem dX8_patrol_58 : decode cX8_patrol 58 = .ok (.iconst 0, 1) := by decide +kernel
theorem dX8_patrol_59 : decode cX8_patrol 59 = .ok (.iaload, 1) := by decide +kernel
theorem dX8_patrol_60 : decode cX8_patrol 60 = .ok (.imul, 1) := by decide +kernel
theorem dX8_patrol_61 : decode cX8_patrol 61 = .ok (.if_icmp .ge 138, 3) := by decide +kernel
theorem dX8_patrol_64 : decode cX8_patrol 64 = .ok (.aload_n 0, 1) := by decide +kernel
theorem dX8_patrol_65 : decode cX8_patrol 65 = .ok (.invokevirtual 270, 3) := by decide +kernel
theorem dX8_patrol_68 : decode cX8_patrol 68 = .ok (.aload_n 0, 1) := by decide +kernel
theorem dX8_patrol_69 : decode cX8_patrol 69 = .ok (.getfield 38, 3) := by decide +kernel
theorem dX8_patrol_72 : decode cX8_patrol 72 = .ok (.iload_n 1, 1) := by decide +kernel
theorem dX8_patrol_73 : decode cX8_patrol 73 = .ok (.iload 7, 2) := by decide +kernel
theorem dX8_patrol_75 : decode cX8_patrol 75 = .ok (.aload_n 0, 1) := by decide +kernel
theorem dX8_patrol_76 : decode cX8_patrol 76 = .ok (.getfield 20, 3) := by decide +kernel
theorem dX8_patrol_79 : decode cX8_patrol 79 = .ok (.iconst 0, 1) := by decide +kernel
theorem dX8_patrol_80 : decode cX8_patrol 80 = .ok (.iaload, 1) := by decide +kernel
theorem dX8_patrol_81 : decode cX8_patrol 81 = .ok (.idiv, 1) := by decide +kernel
theorem dX8_patrol_82 : decode cX8_patrol 82 = .ok (.iastore, 1) := by decide +kernel
theorem dX8_patrol_83 : decode cX8_patrol 83 = .ok (.aload_n 0, 1) := by decide +kernel
theorem dX8_patrol_84 : decode cX8_patrol 84 = .ok (.getfield 41, 3) := by decide +kernel
theorem dX8_patrol_87 : decode cX8_patrol 87 = .ok (.iload_n 1, 1) := by decide +kernel
theorem dX8_patrol_88 : decode cX8_patrol 88 = .ok (.iload 7, 2) := by decide +kernel
theorem dX8_patrol_90 : decode cX8_patrol 90 = .ok (.aload_n 0, 1) := by decide +kernel
theorem dX8_patrol_91 : decode cX8_patrol 91 = .ok (.getfield 20, 3) := by decide +kernel
theorem dX8_patrol_94 : decode cX8_patrol 94 = .ok (.iconst 0, 1) := by decide +kernel
theorem dX8_patrol_95 : decode cX8_patrol 95 = .ok (.iaload, 1) := by decide +kernel
theorem dX8_patrol_96 : decode cX8_patrol 96 = .ok (.irem, 1) := by decide +kernel
theorem dX8_patrol_97 : decode cX8_patrol 97 = .ok (.iastore, 1) := by decide +kernel
theorem dX8_patrol_98 : decode cX8_patrol 98 = .ok (.iconst 0, 1) := by decide +kernel
theorem dX8_patrol_99 : decode cX8_patrol 99 = .ok (.istore 8, 2) := by decide +kernel
theorem dX8_patrol_101 : decode cX8_patrol 101 = .ok (.iload 8, 2) := by decide +kernel
theorem dX8_patrol_103 : decode cX8_patrol 103 = .ok (.iload_n 2, 1) := by decide +kernel
theorem dX8_patrol_104 : decode cX8_patrol 104 = .ok (.if_icmp .ge 17, 3) := by decide +kernel
theorem dX8_patrol_107 : decode cX8_patrol 107 = .ok (.aload_n 0, 1) := by decide +kernel
theorem dX8_patrol_108 : decode cX8_patrol 108 = .ok (.aload_n 0, 1) := by decide +kernel
theorem dX8_patrol_109 : decode cX8_patrol 109 = .ok (.getfield 29, 3) := by decide +kernel
theorem dX8_patrol_112 : decode cX8_patrol 112 = .ok (.invokevirtual 273, 3) := by decide +kernel
theorem dX8_patrol_115 : decode cX8_patrol 115 = .ok (.iinc 8 1, 3) := by decide +kernel
theorem dX8_patrol_118 : decode cX8_patrol 118 = .ok (.goto (-17), 3) := by decide +kernel
theorem dX8_patrol_121 : decode cX8_patrol 121 = .ok (.aload_n 0, 1) := by decide +kernel
theorem dX8_patrol_122 : decode cX8_patrol 122 = .ok (.getfield 29, 3) := by decide +kernel
theorem dX8_patrol_125 : decode cX8_patrol 125 = .ok (.bipush 18, 2) := by decide +kernel
theorem dX8_patrol_127 : decode cX8_patrol 127 = .ok (.iaload, 1) := by decide +kernel
theorem dX8_patrol_128 : decode cX8_patrol 128 = .ok (.invokestatic 314, 3) := by decide +kernel
theorem dX8_patrol_131 : decode cX8_patrol 131 = .ok (.istore 8, 2) := by decide +kernel
theorem dX8_patrol_133 : decode cX8_patrol 133 = .ok (.iload 8, 2) := by decide +kernel
theorem dX8_patrol_135 : decode cX8_patrol 135 = .ok (.iload 5, 2) := by decide +kernel
theorem dX8_patrol_137 : decode cX8_patrol 137 = .ok (.if_icmp .gt 56, 3) := by decide +kernel
theorem dX8_patrol_140 : decode cX8_patrol 140 = .ok (.iload 8, 2) := by decide +kernel
theorem dX8_patrol_142 : decode cX8_patrol 142 = .ok (.iload 5, 2) := by decide +kernel
theorem dX8_patrol_144 : decode cX8_patrol 144 = .ok (.if_icmp .ne 18, 3) := by decide +kernel
theorem dX8_patrol_147 : decode cX8_patrol 147 = .ok (.aload_n 0, 1) := by decide +kernel
theorem dX8_patrol_148 : decode cX8_patrol 148 = .ok (.getfield 29, 3) := by decide +kernel
theorem dX8_patrol_151 : decode cX8_patrol 151 = .ok (.bipush 22, 2) := by decide +kernel
theorem dX8_patrol_153 : decode cX8_patrol 153 = .ok (.iaload, 1) := by decide +kernel
theorem dX8_patrol_154 : decode cX8_patrol 154 = .ok (.iload 6, 2) := by decide +kernel
theorem dX8_patrol_156 : decode cX8_patrol 156 = .ok (.if_icmp .gt 6, 3) := by decide +kernel
theorem dX8_patrol_159 : decode cX8_patrol 159 = .ok (.goto 34, 3) := by decide +kernel
theorem dX8_patrol_162 : decode cX8_patrol 162 = .ok (.bipush 10, 2) := by decide +kernel
theorem dX8_patrol_164 : decode cX8_patrol 164 = .ok (.aload_n 0, 1) := by decide +kernel
theorem dX8_patrol_165 : decode cX8_patrol 165 = .ok (.getfield 38, 3) := by decide +kernel
theorem dX8_patrol_168 : decode cX8_patrol 168 = .ok (.iload_n 1, 1) := by decide +kernel
theorem dX8_patrol_169 : decode cX8_patrol 169 = .ok (.iaload, 1) := by decide +kernel
theorem dX8_patrol_170 : decode cX8_patrol 170 = .ok (.imul, 1) := by decide +kernel
theorem dX8_patrol_171 : decode cX8_patrol 171 = .ok (.aload_n 0, 1) := by decide +kernel
theorem dX8_patrol_172 : decode cX8_patrol 172 = .ok (.getfield 41, 3) := by decide +kernel
theorem dX8_patrol_175 : decode cX8_patrol 175 = .ok (.iload_n 1, 1) := by decide +kernel
theorem dX8_patrol_176 : decode cX8_patrol 176 = .ok (.iaload, 1) := by decide +kernel
theorem dX8_patrol_177 : decode cX8_patrol 177 = .ok (.iadd, 1) := by decide +kernel
theorem dX8_patrol_178 : decode cX8_patrol 178 = .ok (.istore 4, 2) := by decide +kernel
theorem dX8_patrol_180 : decode cX8_patrol 180 = .ok (.iload 8, 2) := by decide +kernel
theorem dX8_patrol_182 : decode cX8_patrol 182 = .ok (.istore 5, 2) := by decide +kernel
theorem dX8_patrol_184 : decode cX8_patrol 184 = .ok (.aload_n 0, 1) := by decide +kernel
theorem dX8_patrol_185 : decode cX8_patrol 185 = .ok (.getfield 29, 3) := by decide +kernel
theorem dX8_patrol_188 : decode cX8_patrol 188 = .ok (.bipush 22, 2) := by decide +kernel
theorem dX8_patrol_190 : decode cX8_patrol 190 = .ok (.iaload, 1) := by decide +kernel
theorem dX8_patrol_191 : decode cX8_patrol 191 = .ok (.istore 6, 2) := by decide +kernel
theorem dX8_patrol_193 : decode cX8_patrol 193 = .ok (.iinc 7 1, 3) := by decide +kernel
theorem dX8_patrol_196 : decode cX8_patrol 196 = .ok (.goto (-150), 3) := by decide +kernel
theorem dX8_patrol_199 : decode cX8_patrol 199 = .ok (.iload 4, 2) := by decide +kernel
theorem dX8_patrol_201 : decode cX8_patrol 201 = .ok (.ireturn, 1) := by decide +kernel
theorem dX8_layRoute_0 : decode cX8_layRoute 0 = .ok (.aload_n 0, 1) := by decide +kernel
theorem dX8_layRoute_1 : decode cX8_layRoute 1 = .ok (.invokevirtual 270, 3) := by decide +kernel
theorem dX8_layRoute_4 : decode cX8_layRoute 4 = .ok (.iconst 1, 1) := by decide +kernel
theorem dX8_layRoute_5 : decode cX8_layRoute 5 = .ok (.istore_n 2, 1) := by decide +kernel
theorem dX8_layRoute_6 : decode cX8_layRoute 6 = .ok (.iload_n 2, 1) := by decide +kernel
theorem dX8_layRoute_7 : decode cX8_layRoute 7 = .ok (.iload_n 1, 1) := by decide +kernel
theorem dX8_layRoute_8 : decode cX8_layRoute 8 = .ok (.if_icmp .gt 27, 3) := by decide +kernel
theorem dX8_layRoute_11 : decode cX8_layRoute 11 = .ok (.aload_n 0, 1) := by decide +kernel
theorem dX8_layRoute_12 : decode cX8_layRoute 12 = .ok (.aload_n 0, 1) := by decide +kernel
theorem dX8_layRoute_13 : decode cX8_layRoute 13 = .ok (.getfield 29, 3) := by decide +kernel
theorem dX8_layRoute_16 : decode cX8_layRoute 16 = .ok (.invokevirtual 273, 3) := by decide +kernel
theorem dX8_layRoute_19 : decode cX8_layRoute 19 = .ok (.aload_n 0, 1) := by decide +kernel
theorem dX8_layRoute_20 : decode cX8_layRoute 20 = .ok (.getfield 47, 3) := by decide +kernel
theorem dX8_layRoute_23 : decode cX8_layRoute 23 = .ok (.iload_n 2, 1) := by decide +kernel
theorem dX8_layRoute_24 : decode cX8_layRoute 24 = .ok (.aload_n 0, 1) := by decide +kernel
theorem dX8_layRoute_25 : decode cX8_layRoute 25 = .ok (.getfield 261, 3) := by decide +kernel
theorem dX8_layRoute_28 : decode cX8_layRoute 28 = .ok (.iastore, 1) := by decide +kernel
theorem dX8_layRoute_29 : decode cX8_layRoute 29 = .ok (.iinc 2 1, 3) := by decide +kernel
theorem dX8_layRoute_32 : decode cX8_layRoute 32 = .ok (.goto (-26), 3) := by decide +kernel
theorem dX8_layRoute_35 : decode cX8_layRoute 35 = .ok (.iconst 0, 1) := by decide +kernel
theorem dX8_layRoute_36 : decode cX8_layRoute 36 = .ok (.istore_n 2, 1) := by decide +kernel
theorem dX8_layRoute_37 : decode cX8_layRoute 37 = .ok (.iload_n 2, 1) := by decide +kernel
theorem dX8_layRoute_38 : decode cX8_layRoute 38 = .ok (.bipush 9, 2) := by decide +kernel
theorem dX8_layRoute_40 : decode cX8_layRoute 40 = .ok (.if_icmp .ge 21, 3) := by decide +kernel
theorem dX8_layRoute_43 : decode cX8_layRoute 43 = .ok (.aload_n 0, 1) := by decide +kernel
theorem dX8_layRoute_44 : decode cX8_layRoute 44 = .ok (.getfield 50, 3) := by decide +kernel
theorem dX8_layRoute_47 : decode cX8_layRoute 47 = .ok (.bipush 10, 2) := by decide +kernel
theorem dX8_layRoute_49 : decode cX8_layRoute 49 = .ok (.iload_n 1, 1) := by decide +kernel
theorem dX8_layRoute_50 : decode cX8_layRoute 50 = .ok (.imul, 1) := by decide +kernel
theorem dX8_layRoute_51 : decode cX8_layRoute 51 = .ok (.iload_n 2, 1) := by decide +kernel
theorem dX8_layRoute_52 : decode cX8_layRoute 52 = .ok (.iadd, 1) := by decide +kernel
theorem dX8_layRoute_53 : decode cX8_layRoute 53 = .ok (.iconst 0, 1) := by decide +kernel
theorem dX8_layRoute_54 : decode cX8_layRoute 54 = .ok (.iastore, 1) := by decide +kernel
theorem dX8_layRoute_55 : decode cX8_layRoute 55 = .ok (.iinc 2 1, 3) := by decide +kernel
theorem dX8_layRoute_58 : decode cX8_layRoute 58 = .ok (.goto (-21), 3) := by decide +kernel
theorem dX8_layRoute_61 : decode cX8_layRoute 61 = .ok (.iload_n 1, 1) := by decide +kernel
theorem dX8_layRoute_62 : decode cX8_layRoute 62 = .ok (.iconst 1, 1) := by decide +kernel
theorem dX8_layRoute_63 : decode cX8_layRoute 63 = .ok (.isub, 1) := by decide +kernel
theorem dX8_layRoute_64 : decode cX8_layRoute 64 = .ok (.istore_n 2, 1) := by decide +kernel
theorem dX8_layRoute_65 : decode cX8_layRoute 65 = .ok (.iload_n 2, 1) := by decide +kernel
theorem dX8_layRoute_66 : decode cX8_layRoute 66 = .ok (.ifCond .lt 45, 3) := by decide +kernel
theorem dX8_layRoute_69 : decode cX8_layRoute 69 = .ok (.iconst 0, 1) := by decide +kernel
theorem dX8_layRoute_70 : decode cX8_layRoute 70 = .ok (.istore_n 3, 1) := by decide +kernel
theorem dX8_layRoute_71 : decode cX8_layRoute 71 = .ok (.iload_n 3, 1) := by decide +kernel
theorem dX8_layRoute_72 : decode cX8_layRoute 72 = .ok (.aload_n 0, 1) := by decide +kernel
theorem dX8_layRoute_73 : decode cX8_layRoute 73 = .ok (.getfield 20, 3) := by decide +kernel
theorem dX8_layRoute_76 : decode cX8_layRoute 76 = .ok (.iconst 0, 1) := by decide +kernel
theorem dX8_layRoute_77 : decode cX8_layRoute 77 = .ok (.iaload, 1) := by decide +kernel
theorem dX8_layRoute_78 : decode cX8_layRoute 78 = .ok (.if_icmp .ge 27, 3) := by decide +kernel
theorem dX8_layRoute_81 : decode cX8_layRoute 81 = .ok (.aload_n 0, 1) := by decide +kernel
theorem dX8_layRoute_82 : decode cX8_layRoute 82 = .ok (.getfield 50, 3) := by decide +kernel
theorem dX8_layRoute_85 : decode cX8_layRoute 85 = .ok (.bipush 10, 2) := by decide +kernel
theorem dX8_layRoute_87 : decode cX8_layRoute 87 = .ok (.iload_n 2, 1) := by decide +kernel
theorem dX8_layRoute_88 : decode cX8_layRoute 88 = .ok (.imul, 1) := by decide +kernel
theorem dX8_layRoute_89 : decode cX8_layRoute 89 = .ok (.iload_n 3, 1) := by decide +kernel
theorem dX8_layRoute_90 : decode cX8_layRoute 90 = .ok (.iadd, 1) := by decide +kernel
theorem dX8_layRoute_91 : decode cX8_layRoute 91 = .ok (.aload_n 0, 1) := by decide +kernel
theorem dX8_layRoute_92 : decode cX8_layRoute 92 = .ok (.iload_n 2, 1) := by decide +kernel
theorem dX8_layRoute_93 : decode cX8_layRoute 93 = .ok (.iload_n 3, 1) := by decide +kernel
theorem dX8_layRoute_94 : decode cX8_layRoute 94 = .ok (.iconst 0, 1) := by decide +kernel
theorem dX8_layRoute_95 : decode cX8_layRoute 95 = .ok (.invokevirtual 317, 3) := by decide +kernel
theorem dX8_layRoute_98 : decode cX8_layRoute 98 = .ok (.iastore, 1) := by decide +kernel
theorem dX8_layRoute_99 : decode cX8_layRoute 99 = .ok (.iinc 3 1, 3) := by decide +kernel
theorem dX8_layRoute_102 : decode cX8_layRoute 102 = .ok (.goto (-31), 3) := by decide +kernel
theorem dX8_layRoute_105 : decode cX8_layRoute 105 = .ok (.iinc 2 (-1), 3) := by decide +kernel
theorem dX8_layRoute_108 : decode cX8_layRoute 108 = .ok (.goto (-43), 3) := by decide +kernel
theorem dX8_layRoute_111 : decode cX8_layRoute 111 = .ok (.return_, 1) := by decide +kernel
theorem dX8_bestFrom_0 : decode cX8_bestFrom 0 = .ok (.iconst (-1), 1) := by decide +kernel
theorem dX8_bestFrom_1 : decode cX8_bestFrom 1 = .ok (.istore 4, 2) := by decide +kernel
theorem dX8_bestFrom_3 : decode cX8_bestFrom 3 = .ok (.iload_n 2, 1) := by decide +kernel
theorem dX8_bestFrom_4 : decode cX8_bestFrom 4 = .ok (.istore 5, 2) := by decide +kernel
theorem dX8_bestFrom_6 : decode cX8_bestFrom 6 = .ok (.iconst 0, 1) := by decide +kernel
theorem dX8_bestFrom_7 : decode cX8_bestFrom 7 = .ok (.istore 6, 2) := by decide +kernel
theorem dX8_bestFrom_9 : decode cX8_bestFrom 9 = .ok (.iload 6, 2) := by decide +kernel
theorem dX8_bestFrom_11 : decode cX8_bestFrom 11 = .ok (.iconst 3, 1) := by decide +kernel
theorem dX8_bestFrom_12 : decode cX8_bestFrom 12 = .ok (.if_icmp .ge 108, 3) := by decide +kernel
theorem dX8_bestFrom_15 : decode cX8_bestFrom 15 = .ok (.iload 6, 2) := by decide +kernel
theorem dX8_bestFrom_17 : decode cX8_bestFrom 17 = .ok (.ifCond .ne 7, 3) := by decide +kernel
theorem dX8_bestFrom_20 : decode cX8_bestFrom 20 = .ok (.iload_n 2, 1) := by decide +kernel
theorem dX8_bestFrom_21 : decode cX8_bestFrom 21 = .ok (.goto 18, 3) := by decide +kernel
theorem dX8_bestFrom_24 : decode cX8_bestFrom 24 = .ok (.iload 6, 2) := by decide +kernel
theorem dX8_bestFrom_26 : decode cX8_bestFrom 26 = .ok (.iconst 1, 1) := by decide +kernel
theorem dX8_bestFrom_27 : decode cX8_bestFrom 27 = .ok (.if_icmp .ne 9, 3) := by decide +kernel
theorem dX8_bestFrom_30 : decode cX8_bestFrom 30 = .ok (.iload_n 2, 1) := by decide +kernel
theorem dX8_bestFrom_31 : decode cX8_bestFrom 31 = .ok (.iconst 1, 1) := by decide +kernel
theorem dX8_bestFrom_32 : decode cX8_bestFrom 32 = .ok (.isub, 1) := by decide +kernel
theorem dX8_bestFrom_33 : decode cX8_bestFrom 33 = .ok (.goto 6, 3) := by decide +kernel
theorem dX8_bestFrom_36 : decode cX8_bestFrom 36 = .ok (.iload_n 2, 1) := by decide +kernel
theorem dX8_bestFrom_37 : decode cX8_bestFrom 37 = .ok (.iconst 1, 1) := by decide +kernel
theorem dX8_bestFrom_38 : decode cX8_bestFrom 38 = .ok (.iadd, 1) := by decide +kernel
theorem dX8_bestFrom_39 : decode cX8_bestFrom 39 = .ok (.istore 7, 2) := by decide +kernel
theorem dX8_bestFrom_41 : decode cX8_bestFrom 41 = .ok (.iload 7, 2) := by decide +kernel
theorem dX8_bestFrom_43 : decode cX8_bestFrom 43 = .ok (.iconst 0, 1) := by decide +kernel
theorem dX8_bestFrom_44 : decode cX8_bestFrom 44 = .ok (.aload_n 0, 1) := by decide +kernel
theorem dX8_bestFrom_45 : decode cX8_bestFrom 45 = .ok (.getfield 20, 3) := by decide +kernel
theorem dX8_bestFrom_48 : decode cX8_bestFrom 48 = .ok (.iconst 0, 1) := by decide +kernel
theorem dX8_bestFrom_49 : decode cX8_bestFrom 49 = .ok (.iaload, 1) := by decide +kernel
theorem dX8_bestFrom_50 : decode cX8_bestFrom 50 = .ok (.iconst 1, 1) := by decide +kernel
theorem dX8_bestFrom_51 : decode cX8_bestFrom 51 = .ok (.isub, 1) := by decide +kernel
theorem dX8_bestFrom_52 : decode cX8_bestFrom 52 = .ok (.invokestatic 142, 3) := by decide +kernel
theorem dX8_bestFrom_55 : decode cX8_bestFrom 55 = .ok (.ifCond .ne 6, 3) := by decide +kernel
theorem dX8_bestFrom_58 : decode cX8_bestFrom 58 = .ok (.goto 56, 3) := by decide +kernel
theorem dX8_bestFrom_61 : decode cX8_bestFrom 61 = .ok (.aload_n 0, 1) := by decide +kernel
theorem dX8_bestFrom_62 : decode cX8_bestFrom 62 = .ok (.getfield 50, 3) := by decide +kernel
theorem dX8_bestFrom_65 : decode cX8_bestFrom 65 = .ok (.bipush 10, 2) := by decide +kernel
theorem dX8_bestFrom_67 : decode cX8_bestFrom 67 = .ok (.iload_n 1, 1) := by decide +kernel
theorem dX8_bestFrom_68 : decode cX8_bestFrom 68 = .ok (.iconst 1, 1) := by decide +kernel
theorem dX8_bestFrom_69 : decode cX8_bestFrom 69 = .ok (.iadd, 1) := by decide +kernel
theorem dX8_bestFrom_70 : decode cX8_bestFrom 70 = .ok (.imul, 1) := by decide +kernel
theorem dX8_bestFrom_71 : decode cX8_bestFrom 71 = .ok (.iload 7, 2) := by decide +kernel
theorem dX8_bestFrom_73 : decode cX8_bestFrom 73 = .ok (.iadd, 1) := by decide +kernel
theorem dX8_bestFrom_74 : decode cX8_bestFrom 74 = .ok (.iaload, 1) := by decide +kernel
theorem dX8_bestFrom_75 : decode cX8_bestFrom 75 = .ok (.aload_n 0, 1) := by decide +kernel
theorem dX8_bestFrom_76 : decode cX8_bestFrom 76 = .ok (.getfield 47, 3) := by decide +kernel
theorem dX8_bestFrom_79 : decode cX8_bestFrom 79 = .ok (.iload_n 1, 1) := by decide +kernel
theorem dX8_bestFrom_80 : decode cX8_bestFrom 80 = .ok (.iconst 1, 1) := by decide +kernel
theorem dX8_bestFrom_81 : decode cX8_bestFrom 81 = .ok (.iadd, 1) := by decide +kernel
theorem dX8_bestFrom_82 : decode cX8_bestFrom 82 = .ok (.iaload, 1) := by decide +kernel
theorem dX8_bestFrom_83 : decode cX8_bestFrom 83 = .ok (.iload 7, 2) := by decide +kernel
theorem dX8_bestFrom_85 : decode cX8_bestFrom 85 = .ok (.if_icmp .ne 7, 3) := by decide +kernel
theorem dX8_bestFrom_88 : decode cX8_bestFrom 88 = .ok (.iconst 1, 1) := by decide +kernel
theorem dX8_bestFrom_89 : decode cX8_bestFrom 89 = .ok (.goto 4, 3) := by decide +kernel
theorem dX8_bestFrom_92 : decode cX8_bestFrom 92 = .ok (.iconst 0, 1) := by decide +kernel
theorem dX8_bestFrom_93 : decode cX8_bestFrom 93 = .ok (.iadd, 1) := by decide +kernel
theorem dX8_bestFrom_94 : decode cX8_bestFrom 94 = .ok (.istore 8, 2) := by decide +kernel
theorem dX8_bestFrom_96 : decode cX8_bestFrom 96 = .ok (.iload 8, 2) := by decide +kernel
theorem dX8_bestFrom_98 : decode cX8_bestFrom 98 = .ok (.iload 4, 2) := by decide +kernel
theorem dX8_bestFrom_100 : decode cX8_bestFrom 100 = .ok (.if_icmp .gt 6, 3) := by decide +kernel
theorem dX8_bestFrom_103 : decode cX8_bestFrom 103 = .ok (.goto 11, 3) := by decide +kernel
theorem dX8_bestFrom_106 : decode cX8_bestFrom 106 = .ok (.iload 8, 2) := by decide +kernel
theorem dX8_bestFrom_108 : decode cX8_bestFrom 108 = .ok (.istore 4, 2) := by decide +kernel
theorem dX8_bestFrom_110 : decode cX8_bestFrom 110 = .ok (.iload 7, 2) := by decide +kernel
theorem dX8_bestFrom_112 : decode cX8_bestFrom 112 = .ok (.istore 5, 2) := by decide +kernel
theorem dX8_bestFrom_114 : decode cX8_bestFrom 114 = .ok (.iinc 6 1, 3) := by decide +kernel
theorem dX8_bestFrom_117 : decode cX8_bestFrom 117 = .ok (.goto (-108), 3) := by decide +kernel
theorem dX8_bestFrom_120 : decode cX8_bestFrom 120 = .ok (.iload_n 3, 1) := by decide +kernel
theorem dX8_bestFrom_121 : decode cX8_bestFrom 121 = .ok (.ifCond .eq 8, 3) := by decide +kernel
theorem dX8_bestFrom_124 : decode cX8_bestFrom 124 = .ok (.iload 5, 2) := by decide +kernel
theorem dX8_bestFrom_126 : decode cX8_bestFrom 126 = .ok (.goto 5, 3) := by decide +kernel
theorem dX8_bestFrom_129 : decode cX8_bestFrom 129 = .ok (.iload 4, 2) := by decide +kernel
theorem dX8_bestFrom_131 : decode cX8_bestFrom 131 = .ok (.ireturn, 1) := by decide +kernel
theorem dX8_routeWhy_0 : decode cX8_routeWhy 0 = .ok (.aload_n 0, 1) := by decide +kernel
theorem dX8_routeWhy_1 : decode cX8_routeWhy 1 = .ok (.aload_n 0, 1) := by decide +kernel
theorem dX8_routeWhy_2 : decode cX8_routeWhy 2 = .ok (.iload_n 1, 1) := by decide +kernel
theorem dX8_routeWhy_3 : decode cX8_routeWhy 3 = .ok (.invokevirtual 277, 3) := by decide +kernel
theorem dX8_routeWhy_6 : decode cX8_routeWhy 6 = .ok (.iload_n 2, 1) := by decide +kernel
theorem dX8_routeWhy_7 : decode cX8_routeWhy 7 = .ok (.iconst 1, 1) := by decide +kernel
theorem dX8_routeWhy_8 : decode cX8_routeWhy 8 = .ok (.bipush 60, 2) := by decide +kernel
theorem dX8_routeWhy_10 : decode cX8_routeWhy 10 = .ok (.invokestatic 142, 3) := by decide +kernel
theorem dX8_routeWhy_13 : decode cX8_routeWhy 13 = .ok (.invokevirtual 290, 3) := by decide +kernel
theorem dX8_routeWhy_16 : decode cX8_routeWhy 16 = .ok (.ireturn, 1) := by decide +kernel
theorem dX8_route_0 : decode cX8_route 0 = .ok (.aload_n 0, 1) := by decide +kernel
theorem dX8_route_1 : decode cX8_route 1 = .ok (.invokevirtual 160, 3) := by decide +kernel
theorem dX8_route_4 : decode cX8_route 4 = .ok (.aload_n 0, 1) := by decide +kernel
theorem dX8_route_5 : decode cX8_route 5 = .ok (.iload_n 1, 1) := by decide +kernel
theorem dX8_route_6 : decode cX8_route 6 = .ok (.iload_n 2, 1) := by decide +kernel
theorem dX8_route_7 : decode cX8_route 7 = .ok (.invokevirtual 321, 3) := by decide +kernel
theorem dX8_route_10 : decode cX8_route 10 = .ok (.istore_n 3, 1) := by decide +kernel
theorem dX8_route_11 : decode cX8_route 11 = .ok (.iload_n 3, 1) := by decide +kernel
theorem dX8_route_12 : decode cX8_route 12 = .ok (.ifCond .eq 9, 3) := by decide +kernel
theorem dX8_route_15 : decode cX8_route 15 = .ok (.aload_n 0, 1) := by decide +kernel
theorem dX8_route_16 : decode cX8_route 16 = .ok (.iload_n 3, 1) := by decide +kernel
theorem dX8_route_17 : decode cX8_route 17 = .ok (.invokevirtual 163, 3) := by decide +kernel
theorem dX8_route_20 : decode cX8_route 20 = .ok (.ireturn, 1) := by decide +kernel
theorem dX8_route_21 : decode cX8_route 21 = .ok (.aload_n 0, 1) := by decide +kernel
theorem dX8_route_22 : decode cX8_route 22 = .ok (.iload_n 2, 1) := by decide +kernel
theorem dX8_route_23 : decode cX8_route 23 = .ok (.invokevirtual 324, 3) := by decide +kernel
theorem dX8_route_26 : decode cX8_route 26 = .ok (.aload_n 0, 1) := by decide +kernel
theorem dX8_route_27 : decode cX8_route 27 = .ok (.getfield 50, 3) := by decide +kernel
theorem dX8_route_30 : decode cX8_route 30 = .ok (.iload_n 1, 1) := by decide +kernel
theorem dX8_route_31 : decode cX8_route 31 = .ok (.iaload, 1) := by decide +kernel
theorem dX8_route_32 : decode cX8_route 32 = .ok (.ireturn, 1) := by decide +kernel
theorem dX8_routeAt_0 : decode cX8_routeAt 0 = .ok (.aload_n 0, 1) := by decide +kernel
theorem dX8_routeAt_1 : decode cX8_routeAt 1 = .ok (.invokevirtual 160, 3) := by decide +kernel
theorem dX8_routeAt_4 : decode cX8_routeAt 4 = .ok (.aload_n 0, 1) := by decide +kernel
theorem dX8_routeAt_5 : decode cX8_routeAt 5 = .ok (.iload_n 1, 1) := by decide +kernel
theorem dX8_routeAt_6 : decode cX8_routeAt 6 = .ok (.iload_n 2, 1) := by decide +kernel
theorem dX8_routeAt_7 : decode cX8_routeAt 7 = .ok (.invokevirtual 321, 3) := by decide +kernel
theorem dX8_routeAt_10 : decode cX8_routeAt 10 = .ok (.istore 4, 2) := by decide +kernel
theorem dX8_routeAt_12 : decode cX8_routeAt 12 = .ok (.iload 4, 2) := by decide +kernel
theorem dX8_routeAt_14 : decode cX8_routeAt 14 = .ok (.ifCond .ne 15, 3) := by decide +kernel
theorem dX8_routeAt_17 : decode cX8_routeAt 17 = .ok (.iload_n 3, 1) := by decide +kernel
theorem dX8_routeAt_18 : decode cX8_routeAt 18 = .ok (.iconst 1, 1) := by decide +kernel
theorem dX8_routeAt_19 : decode cX8_routeAt 19 = .ok (.iload_n 2, 1) := by decide +kernel
theorem dX8_routeAt_20 : decode cX8_routeAt 20 = .ok (.invokestatic 142, 3) := by decide +kernel
theorem dX8_routeAt_23 : decode cX8_routeAt 23 = .ok (.ifCond .ne 6, 3) := by decide +kernel
theorem dX8_routeAt_26 : decode cX8_routeAt 26 = .ok (.iconst 1, 1) := by decide +kernel
theorem dX8_routeAt_27 : decode cX8_routeAt 27 = .ok (.istore 4, 2) := by decide +kernel
theorem dX8_routeAt_29 : decode cX8_routeAt 29 = .ok (.iload 4, 2) := by decide +kernel
theorem dX8_routeAt_31 : decode cX8_routeAt 31 = .ok (.ifCond .eq 10, 3) := by decide +kernel
theorem dX8_routeAt_34 : decode cX8_routeAt 34 = .ok (.aload_n 0, 1) := by decide +kernel
theorem dX8_routeAt_35 : decode cX8_routeAt 35 = .ok (.iload 4, 2) := by decide +kernel
theorem dX8_routeAt_37 : decode cX8_routeAt 37 = .ok (.invokevirtual 163, 3) := by decide +kernel
theorem dX8_routeAt_40 : decode cX8_routeAt 40 = .ok (.ireturn, 1) := by decide +kernel
theorem dX8_routeAt_41 : decode cX8_routeAt 41 = .ok (.aload_n 0, 1) := by decide +kernel
theorem dX8_routeAt_42 : decode cX8_routeAt 42 = .ok (.iload_n 2, 1) := by decide +kernel
theorem dX8_routeAt_43 : decode cX8_routeAt 43 = .ok (.invokevirtual 324, 3) := by decide +kernel
theorem dX8_routeAt_46 : decode cX8_routeAt 46 = .ok (.iload_n 1, 1) := by decide +kernel
theorem dX8_routeAt_47 : decode cX8_routeAt 47 = .ok (.istore 5, 2) := by decide +kernel
theorem dX8_routeAt_49 : decode cX8_routeAt 49 = .ok (.iconst 0, 1) := by decide +kernel
theorem dX8_routeAt_50 : decode cX8_routeAt 50 = .ok (.istore 6, 2) := by decide +kernel
theorem dX8_routeAt_52 : decode cX8_routeAt 52 = .ok (.iload 6, 2) := by decide +kernel
theorem dX8_routeAt_54 : decode cX8_routeAt 54 = .ok (.iload_n 3, 1) := by decide +kernel
theorem dX8_routeAt_55 : decode cX8_routeAt 55 = .ok (.if_icmp .ge 20, 3) := by decide +kernel
theorem dX8_routeAt_58 : decode cX8_routeAt 58 = .ok (.aload_n 0, 1) := by decide +kernel
theorem dX8_routeAt_59 : decode cX8_routeAt 59 = .ok (.iload 6, 2) := by decide +kernel
theorem dX8_routeAt_61 : decode cX8_routeAt 61 = .ok (.iload 5, 2) := by decide +kernel
theorem dX8_routeAt_63 : decode cX8_routeAt 63 = .ok (.iconst 1, 1) := by decide +kernel
theorem dX8_routeAt_64 : decode cX8_routeAt 64 = .ok (.invokevirtual 317, 3) := by decide +kernel
theorem dX8_routeAt_67 : decode cX8_routeAt 67 = .ok (.istore 5, 2) := by decide +kernel
theorem dX8_routeAt_69 : decode cX8_routeAt 69 = .ok (.iinc 6 1, 3) := by decide +kernel
theorem dX8_routeAt_72 : decode cX8_routeAt 72 = .ok (.goto (-20), 3) := by decide +kernel
theorem dX8_routeAt_75 : decode cX8_routeAt 75 = .ok (.iload 5, 2) := by decide +kernel
theorem dX8_routeAt_77 : decode cX8_routeAt 77 = .ok (.ireturn, 1) := by decide +kernel
theorem dX8_stand_0 : decode cX8_stand 0 = .ok (.aload_n 0, 1) := by decide +kernel
theorem dX8_stand_1 : decode cX8_stand 1 = .ok (.invokevirtual 160, 3) := by decide +kernel
theorem dX8_stand_4 : decode cX8_stand 4 = .ok (.aload_n 0, 1) := by decide +kernel
theorem dX8_stand_5 : decode cX8_stand 5 = .ok (.aload_n 0, 1) := by decide +kernel
theorem dX8_stand_6 : decode cX8_stand 6 = .ok (.getfield 173, 3) := by decide +kernel
theorem dX8_stand_9 : decode cX8_stand 9 = .ok (.iload_n 1, 1) := by decide +kernel
theorem dX8_stand_10 : decode cX8_stand 10 = .ok (.iconst 1, 1) := by decide +kernel
theorem dX8_stand_11 : decode cX8_stand 11 = .ok (.bipush 60, 2) := by decide +kernel
theorem dX8_stand_13 : decode cX8_stand 13 = .ok (.invokestatic 142, 3) := by decide +kernel
theorem dX8_stand_16 : decode cX8_stand 16 = .ok (.invokevirtual 290, 3) := by decide +kernel
theorem dX8_stand_19 : decode cX8_stand 19 = .ok (.istore_n 2, 1) := by decide +kernel
theorem dX8_stand_20 : decode cX8_stand 20 = .ok (.iload_n 2, 1) := by decide +kernel
theorem dX8_stand_21 : decode cX8_stand 21 = .ok (.ifCond .eq 9, 3) := by decide +kernel
theorem dX8_stand_24 : decode cX8_stand 24 = .ok (.aload_n 0, 1) := by decide +kernel
theorem dX8_stand_25 : decode cX8_stand 25 = .ok (.iload_n 2, 1) := by decide +kernel
theorem dX8_stand_26 : decode cX8_stand 26 = .ok (.invokevirtual 163, 3) := by decide +kernel
theorem dX8_stand_29 : decode cX8_stand 29 = .ok (.ireturn, 1) := by decide +kernel
theorem dX8_stand_30 : decode cX8_stand 30 = .ok (.aload_n 0, 1) := by decide +kernel
theorem dX8_stand_31 : decode cX8_stand 31 = .ok (.iload_n 1, 1) := by decide +kernel
theorem dX8_stand_32 : decode cX8_stand 32 = .ok (.invokevirtual 324, 3) := by decide +kernel
theorem dX8_stand_35 : decode cX8_stand 35 = .ok (.iconst 0, 1) := by decide +kernel
theorem dX8_stand_36 : decode cX8_stand 36 = .ok (.istore_n 3, 1) := by decide +kernel
theorem dX8_stand_37 : decode cX8_stand 37 = .ok (.iconst 1, 1) := by decide +kernel
theorem dX8_stand_38 : decode cX8_stand 38 = .ok (.istore 4, 2) := by decide +kernel
theorem dX8_stand_40 : decode cX8_stand 40 = .ok (.iload 4, 2) := by decide +kernel
theorem dX8_stand_42 : decode cX8_stand 42 = .ok (.aload_n 0, 1) := by decide +kernel
theorem dX8_stand_43 : decode cX8_stand 43 = .ok (.getfield 20, 3) := by decide +kernel
theorem dX8_stand_46 : decode cX8_stand 46 = .ok (.iconst 0, 1) := by decide +kernel
theorem dX8_stand_47 : decode cX8_stand 47 = .ok (.iaload, 1) := by decide +kernel
theorem dX8_stand_48 : decode cX8_stand 48 = .ok (.if_icmp .ge 28, 3) := by decide +kernel
theorem dX8_stand_51 : decode cX8_stand 51 = .ok (.aload_n 0, 1) := by decide +kernel
theorem dX8_stand_52 : decode cX8_stand 52 = .ok (.getfield 50, 3) := by decide +kernel
theorem dX8_stand_55 : decode cX8_stand 55 = .ok (.iload 4, 2) := by decide +kernel
theorem dX8_stand_57 : decode cX8_stand 57 = .ok (.iaload, 1) := by decide +kernel
theorem dX8_stand_58 : decode cX8_stand 58 = .ok (.aload_n 0, 1) := by decide +kernel
theorem dX8_stand_59 : decode cX8_stand 59 = .ok (.getfield 50, 3) := by decide +kernel
theorem dX8_stand_62 : decode cX8_stand 62 = .ok (.iload_n 3, 1) := by decide +kernel
theorem dX8_stand_63 : decode cX8_stand 63 = .ok (.iaload, 1) := by decide +kernel
theorem dX8_stand_64 : decode cX8_stand 64 = .ok (.if_icmp .le 6, 3) := by decide +kernel
theorem dX8_stand_67 : decode cX8_stand 67 = .ok (.iload 4, 2) := by decide +kernel
theorem dX8_stand_69 : decode cX8_stand 69 = .ok (.istore_n 3, 1) := by decide +kernel
theorem dX8_stand_70 : decode cX8_stand 70 = .ok (.iinc 4 1, 3) := by decide +kernel
theorem dX8_stand_73 : decode cX8_stand 73 = .ok (.goto (-33), 3) := by decide +kernel
theorem dX8_stand_76 : decode cX8_stand 76 = .ok (.iload_n 3, 1) := by decide +kernel
theorem dX8_stand_77 : decode cX8_stand 77 = .ok (.ireturn, 1) := by decide +kernel
theorem dX8_guard_0 : decode cX8_guard 0 = .ok (.aload_n 0, 1) := by decide +kernel
theorem dX8_guard_1 : decode cX8_guard 1 = .ok (.invokevirtual 160, 3) := by decide +kernel
theorem dX8_guard_4 : decode cX8_guard 4 = .ok (.aload_n 0, 1) := by decide +kernel
theorem dX8_guard_5 : decode cX8_guard 5 = .ok (.aload_n 0, 1) := by decide +kernel
theorem dX8_guard_6 : decode cX8_guard 6 = .ok (.getfield 173, 3) := by decide +kernel
theorem dX8_guard_9 : decode cX8_guard 9 = .ok (.iload_n 1, 1) := by decide +kernel
theorem dX8_guard_10 : decode cX8_guard 10 = .ok (.iconst 1, 1) := by decide +kernel
theorem dX8_guard_11 : decode cX8_guard 11 = .ok (.bipush 60, 2) := by decide +kernel
theorem dX8_guard_13 : decode cX8_guard 13 = .ok (.invokestatic 142, 3) := by decide +kernel
theorem dX8_guard_16 : decode cX8_guard 16 = .ok (.invokevirtual 290, 3) := by decide +kernel
theorem dX8_guard_19 : decode cX8_guard 19 = .ok (.istore_n 2, 1) := by decide +kernel
theorem dX8_guard_20 : decode cX8_guard 20 = .ok (.iload_n 2, 1) := by decide +kernel
theorem dX8_guard_21 : decode cX8_guard 21 = .ok (.ifCond .eq 9, 3) := by decide +kernel
theorem dX8_guard_24 : decode cX8_guard 24 = .ok (.aload_n 0, 1) := by decide +kernel
theorem dX8_guard_25 : decode cX8_guard 25 = .ok (.iload_n 2, 1) := by decide +kernel
theorem dX8_guard_26 : decode cX8_guard 26 = .ok (.invokevirtual 163, 3) := by decide +kernel
theorem dX8_guard_29 : decode cX8_guard 29 = .ok (.ireturn, 1) := by decide +kernel
theorem dX8_guard_30 : decode cX8_guard 30 = .ok (.bipush (-2), 2) := by decide +kernel
theorem dX8_guard_32 : decode cX8_guard 32 = .ok (.istore_n 3, 1) := by decide +kernel
theorem dX8_guard_33 : decode cX8_guard 33 = .ok (.iconst 0, 1) := by decide +kernel
theorem dX8_guard_34 : decode cX8_guard 34 = .ok (.istore 4, 2) := by decide +kernel
theorem dX8_guard_36 : decode cX8_guard 36 = .ok (.iload 4, 2) := by decide +kernel
theorem dX8_guard_38 : decode cX8_guard 38 = .ok (.iconst 1, 1) := by decide +kernel
theorem dX8_guard_39 : decode cX8_guard 39 = .ok (.aload_n 0, 1) := by decide +kernel
theorem dX8_guard_40 : decode cX8_guard 40 = .ok (.getfield 20, 3) := by decide +kernel
theorem dX8_guard_43 : decode cX8_guard 43 = .ok (.iconst 0, 1) := by decide +kernel
theorem dX8_guard_44 : decode cX8_guard 44 = .ok (.iaload, 1) := by decide +kernel
theorem dX8_guard_45 : decode cX8_guard 45 = .ok (.ishl, 1) := by decide +kernel
theorem dX8_guard_46 : decode cX8_guard 46 = .ok (.if_icmp .ge 81, 3) := by decide +kernel
theorem dX8_guard_49 : decode cX8_guard 49 = .ok (.iload_n 3, 1) := by decide +kernel
theorem dX8_guard_50 : decode cX8_guard 50 = .ok (.ifCond .lt 18, 3) := by decide +kernel
theorem dX8_guard_53 : decode cX8_guard 53 = .ok (.iload 4, 2) := by decide +kernel
theorem dX8_guard_55 : decode cX8_guard 55 = .ok (.invokestatic 314, 3) := by decide +kernel
theorem dX8_guard_58 : decode cX8_guard 58 = .ok (.iload_n 3, 1) := by decide +kernel
theorem dX8_guard_59 : decode cX8_guard 59 = .ok (.invokestatic 314, 3) := by decide +kernel
theorem dX8_guard_62 : decode cX8_guard 62 = .ok (.if_icmp .lt 6, 3) := by decide +kernel
theorem dX8_guard_65 : decode cX8_guard 65 = .ok (.goto 56, 3) := by decide +kernel
theorem dX8_guard_68 : decode cX8_guard 68 = .ok (.aload_n 0, 1) := by decide +kernel
theorem dX8_guard_69 : decode cX8_guard 69 = .ok (.invokevirtual 270, 3) := by decide +kernel
theorem dX8_guard_72 : decode cX8_guard 72 = .ok (.aload_n 0, 1) := by decide +kernel
theorem dX8_guard_73 : decode cX8_guard 73 = .ok (.iload 4, 2) := by decide +kernel
theorem dX8_guard_75 : decode cX8_guard 75 = .ok (.putfield 235, 3) := by decide +kernel
theorem dX8_guard_78 : decode cX8_guard 78 = .ok (.iconst 0, 1) := by decide +kernel
theorem dX8_guard_79 : decode cX8_guard 79 = .ok (.istore 5, 2) := by decide +kernel
theorem dX8_guard_81 : decode cX8_guard 81 = .ok (.iload 5, 2) := by decide +kernel
theorem dX8_guard_83 : decode cX8_guard 83 = .ok (.iload_n 1, 1) := by decide +kernel
theorem dX8_guard_84 : decode cX8_guard 84 = .ok (.if_icmp .ge 17, 3) := by decide +kernel
theorem dX8_guard_87 : decode cX8_guard 87 = .ok (.aload_n 0, 1) := by decide +kernel
theorem dX8_guard_88 : decode cX8_guard 88 = .ok (.aload_n 0, 1) := by decide +kernel
theorem dX8_guard_89 : decode cX8_guard 89 = .ok (.getfield 29, 3) := by decide +kernel
theorem dX8_guard_92 : decode cX8_guard 92 = .ok (.invokevirtual 273, 3) := by decide +kernel
theorem dX8_guard_95 : decode cX8_guard 95 = .ok (.iinc 5 1, 3) := by decide +kernel
theorem dX8_guard_98 : decode cX8_guard 98 = .ok (.goto (-17), 3) := by decide +kernel
theorem dX8_guard_101 : decode cX8_guard 101 = .ok (.aload_n 0, 1) := by decide +kernel
theorem dX8_guard_102 : decode cX8_guard 102 = .ok (.getfield 29, 3) := by decide +kernel
theorem dX8_guard_105 : decode cX8_guard 105 = .ok (.bipush 18, 2) := by decide +kernel
theorem dX8_guard_107 : decode cX8_guard 107 = .ok (.iaload, 1) := by decide +kernel
theorem dX8_guard_108 : decode cX8_guard 108 = .ok (.aload_n 0, 1) := by decide +kernel
theorem dX8_guard_109 : decode cX8_guard 109 = .ok (.getfield 26, 3) := by decide +kernel
theorem dX8_guard_112 : decode cX8_guard 112 = .ok (.bipush 18, 2) := by decide +kernel
theorem dX8_guard_114 : decode cX8_guard 114 = .ok (.iaload, 1) := by decide +kernel
theorem dX8_guard_115 : decode cX8_guard 115 = .ok (.if_icmp .ne 6, 3) := by decide +kernel
theorem dX8_guard_118 : decode cX8_guard 118 = .ok (.iload 4, 2) := by decide +kernel
theorem dX8_guard_120 : decode cX8_guard 120 = .ok (.istore_n 3, 1) := by decide +kernel
theorem dX8_guard_121 : decode cX8_guard 121 = .ok (.iinc 4 1, 3) := by decide +kernel
theorem dX8_guard_124 : decode cX8_guard 124 = .ok (.goto (-88), 3) := by decide +kernel
theorem dX8_guard_127 : decode cX8_guard 127 = .ok (.aload_n 0, 1) := by decide +kernel
theorem dX8_guard_128 : decode cX8_guard 128 = .ok (.iconst 0, 1) := by decide +kernel
theorem dX8_guard_129 : decode cX8_guard 129 = .ok (.putfield 235, 3) := by decide +kernel
theorem dX8_guard_132 : decode cX8_guard 132 = .ok (.iload_n 3, 1) := by decide +kernel
theorem dX8_guard_133 : decode cX8_guard 133 = .ok (.ireturn, 1) := by decide +kernel
theorem dX8_turnBy_0 : decode cX8_turnBy 0 = .ok (.iconst 0, 1) := by decide +kernel
theorem dX8_turnBy_1 : decode cX8_turnBy 1 = .ok (.istore 5, 2) := by decide +kernel
theorem dX8_turnBy_3 : decode cX8_turnBy 3 = .ok (.iload 5, 2) := by decide +kernel
theorem dX8_turnBy_5 : decode cX8_turnBy 5 = .ok (.bipush 9, 2) := by decide +kernel
theorem dX8_turnBy_7 : decode cX8_turnBy 7 = .ok (.if_icmp .ge 17, 3) := by decide +kernel
theorem dX8_turnBy_10 : decode cX8_turnBy 10 = .ok (.aload_n 0, 1) := by decide +kernel
theorem dX8_turnBy_11 : decode cX8_turnBy 11 = .ok (.getfield 53, 3) := by decide +kernel
theorem dX8_turnBy_14 : decode cX8_turnBy 14 = .ok (.iload 5, 2) := by decide +kernel
theorem dX8_turnBy_16 : decode cX8_turnBy 16 = .ok (.iconst (-1), 1) := by decide +kernel
theorem dX8_turnBy_17 : decode cX8_turnBy 17 = .ok (.iastore, 1) := by decide +kernel
theorem dX8_turnBy_18 : decode cX8_turnBy 18 = .ok (.iinc 5 1, 3) := by decide +kernel
theorem dX8_turnBy_21 : decode cX8_turnBy 21 = .ok (.goto (-18), 3) := by decide +kernel
theorem dX8_turnBy_24 : decode cX8_turnBy 24 = .ok (.iload_n 3, 1) := by decide +kernel
theorem dX8_turnBy_25 : decode cX8_turnBy 25 = .ok (.istore 5, 2) := by decide +kernel
theorem dX8_turnBy_27 : decode cX8_turnBy 27 = .ok (.iconst 0, 1) := by decide +kernel
theorem dX8_turnBy_28 : decode cX8_turnBy 28 = .ok (.istore 6, 2) := by decide +kernel
theorem dX8_turnBy_30 : decode cX8_turnBy 30 = .ok (.iload 6, 2) := by decide +kernel
theorem dX8_turnBy_32 : decode cX8_turnBy 32 = .ok (.iload 4, 2) := by decide +kernel
theorem dX8_turnBy_34 : decode cX8_turnBy 34 = .ok (.if_icmp .ge 43, 3) := by decide +kernel
theorem dX8_turnBy_37 : decode cX8_turnBy 37 = .ok (.aload_n 0, 1) := by decide +kernel
theorem dX8_turnBy_38 : decode cX8_turnBy 38 = .ok (.getfield 53, 3) := by decide +kernel
theorem dX8_turnBy_41 : decode cX8_turnBy 41 = .ok (.iload 5, 2) := by decide +kernel
theorem dX8_turnBy_43 : decode cX8_turnBy 43 = .ok (.iaload, 1) := by decide +kernel
theorem dX8_turnBy_44 : decode cX8_turnBy 44 = .ok (.ifCond .ge 33, 3) := by decide +kernel
theorem dX8_turnBy_47 : decode cX8_turnBy 47 = .ok (.aload_n 0, 1) := by decide +kernel
theorem dX8_turnBy_48 : decode cX8_turnBy 48 = .ok (.getfield 53, 3) := by decide +kernel
theorem dX8_turnBy_51 : decode cX8_turnBy 51 = .ok (.iload 5, 2) := by decide +kernel
theorem dX8_turnBy_53 : decode cX8_turnBy 53 = .ok (.iload 6, 2) := by decide +kernel
theorem dX8_turnBy_55 : decode cX8_turnBy 55 = .ok (.iastore, 1) := by decide +kernel
theorem dX8_turnBy_56 : decode cX8_turnBy 56 = .ok (.iload_n 1, 1) := by decide +kernel
theorem dX8_turnBy_57 : decode cX8_turnBy 57 = .ok (.iload 5, 2) := by decide +kernel
theorem dX8_turnBy_59 : decode cX8_turnBy 59 = .ok (.imul, 1) := by decide +kernel
theorem dX8_turnBy_60 : decode cX8_turnBy 60 = .ok (.iload_n 2, 1) := by decide +kernel
theorem dX8_turnBy_61 : decode cX8_turnBy 61 = .ok (.iadd, 1) := by decide +kernel
theorem dX8_turnBy_62 : decode cX8_turnBy 62 = .ok (.aload_n 0, 1) := by decide +kernel
theorem dX8_turnBy_63 : decode cX8_turnBy 63 = .ok (.getfield 20, 3) := by decide +kernel
theorem dX8_turnBy_66 : decode cX8_turnBy 66 = .ok (.iconst 0, 1) := by decide +kernel
theorem dX8_turnBy_67 : decode cX8_turnBy 67 = .ok (.iaload, 1) := by decide +kernel
theorem dX8_turnBy_68 : decode cX8_turnBy 68 = .ok (.irem, 1) := by decide +kernel
theorem dX8_turnBy_69 : decode cX8_turnBy 69 = .ok (.istore 5, 2) := by decide +kernel
theorem dX8_turnBy_71 : decode cX8_turnBy 71 = .ok (.iinc 6 1, 3) := by decide +kernel
theorem dX8_turnBy_74 : decode cX8_turnBy 74 = .ok (.goto (-44), 3) := by decide +kernel
theorem dX8_turnBy_77 : decode cX8_turnBy 77 = .ok (.iload 6, 2) := by decide +kernel
theorem dX8_turnBy_79 : decode cX8_turnBy 79 = .ok (.iload 4, 2) := by decide +kernel
theorem dX8_turnBy_81 : decode cX8_turnBy 81 = .ok (.if_icmp .ge 22, 3) := by decide +kernel
theorem dX8_turnBy_84 : decode cX8_turnBy 84 = .ok (.iload 4, 2) := by decide +kernel
theorem dX8_turnBy_86 : decode cX8_turnBy 86 = .ok (.iload 6, 2) := by decide +kernel
theorem dX8_turnBy_88 : decode cX8_turnBy 88 = .ok (.isub, 1) := by decide +kernel
theorem dX8_turnBy_89 : decode cX8_turnBy 89 = .ok (.iload 6, 2) := by decide +kernel
theorem dX8_turnBy_91 : decode cX8_turnBy 91 = .ok (.aload_n 0, 1) := by decide +kernel
theorem dX8_turnBy_92 : decode cX8_turnBy 92 = .ok (.getfield 53, 3) := by decide +kernel
theorem dX8_turnBy_95 : decode cX8_turnBy 95 = .ok (.iload 5, 2) := by decide +kernel
theorem dX8_turnBy_97 : decode cX8_turnBy 97 = .ok (.iaload, 1) := by decide +kernel
theorem dX8_turnBy_98 : decode cX8_turnBy 98 = .ok (.isub, 1) := by decide +kernel
theorem dX8_turnBy_99 : decode cX8_turnBy 99 = .ok (.irem, 1) := by decide +kernel
theorem dX8_turnBy_100 : decode cX8_turnBy 100 = .ok (.goto 4, 3) := by decide +kernel
theorem dX8_turnBy_103 : decode cX8_turnBy 103 = .ok (.iconst 0, 1) := by decide +kernel
theorem dX8_turnBy_104 : decode cX8_turnBy 104 = .ok (.istore 7, 2) := by decide +kernel
theorem dX8_turnBy_106 : decode cX8_turnBy 106 = .ok (.iconst 0, 1) := by decide +kernel
theorem dX8_turnBy_107 : decode cX8_turnBy 107 = .ok (.istore 8, 2) := by decide +kernel
theorem dX8_turnBy_109 : decode cX8_turnBy 109 = .ok (.iload 8, 2) := by decide +kernel
theorem dX8_turnBy_111 : decode cX8_turnBy 111 = .ok (.iload 7, 2) := by decide +kernel
theorem dX8_turnBy_113 : decode cX8_turnBy 113 = .ok (.if_icmp .ge 24, 3) := by decide +kernel
theorem dX8_turnBy_116 : decode cX8_turnBy 116 = .ok (.iload_n 1, 1) := by decide +kernel
theorem dX8_turnBy_117 : decode cX8_turnBy 117 = .ok (.iload 5, 2) := by decide +kernel
theorem dX8_turnBy_119 : decode cX8_turnBy 119 = .ok (.imul, 1) := by decide +kernel
theorem dX8_turnBy_120 : decode cX8_turnBy 120 = .ok (.iload_n 2, 1) := by decide +kernel
theorem dX8_turnBy_121 : decode cX8_turnBy 121 = .ok (.iadd, 1) := by decide +kernel
theorem dX8_turnBy_122 : decode cX8_turnBy 122 = .ok (.aload_n 0, 1) := by decide +kernel
theorem dX8_turnBy_123 : decode cX8_turnBy 123 = .ok (.getfield 20, 3) := by decide +kernel
