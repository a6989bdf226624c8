theorem dX8_init_72 : decode cX8_init 72 = .ok (.newarray .int, 2) := by decide +kernel
theorem dX8_init_74 : decode cX8_init 74 = .ok (.putfield 35, 3) := by decide +kernel
theorem dX8_init_77 : decode cX8_init 77 = .ok (.aload_n 0, 1) := by decide +kernel
theorem dX8_init_78 : decode cX8_init 78 = .ok (.iconst 3, 1) := by decide +kernel
theorem dX8_init_79 : decode cX8_init 79 = .ok (.newarray .int, 2) := by decide +kernel
theorem dX8_init_81 : decode cX8_init 81 = .ok (.putfield 38, 3) := by decide +kernel
theorem dX8_init_84 : decode cX8_init 84 = .ok (.aload_n 0, 1) := by decide +kernel
theorem dX8_init_85 : decode cX8_init 85 = .ok (.iconst 3, 1) := by decide +kernel
theorem dX8_init_86 : decode cX8_init 86 = .ok (.newarray .int, 2) := by decide +kernel
theorem dX8_init_88 : decode cX8_init 88 = .ok (.putfield 41, 3) := by decide +kernel
theorem dX8_init_91 : decode cX8_init 91 = .ok (.aload_n 0, 1) := by decide +kernel
theorem dX8_init_92 : decode cX8_init 92 = .ok (.bipush 10, 2) := by decide +kernel
theorem dX8_init_94 : decode cX8_init 94 = .ok (.newarray .int, 2) := by decide +kernel
theorem dX8_init_96 : decode cX8_init 96 = .ok (.putfield 44, 3) := by decide +kernel
theorem dX8_init_99 : decode cX8_init 99 = .ok (.aload_n 0, 1) := by decide +kernel
theorem dX8_init_100 : decode cX8_init 100 = .ok (.bipush 61, 2) := by decide +kernel
theorem dX8_init_102 : decode cX8_init 102 = .ok (.newarray .int, 2) := by decide +kernel
theorem dX8_init_104 : decode cX8_init 104 = .ok (.putfield 47, 3) := by decide +kernel
theorem dX8_init_107 : decode cX8_init 107 = .ok (.aload_n 0, 1) := by decide +kernel
theorem dX8_init_108 : decode cX8_init 108 = .ok (.sipush 620, 3) := by decide +kernel
theorem dX8_init_111 : decode cX8_init 111 = .ok (.newarray .int, 2) := by decide +kernel
theorem dX8_init_113 : decode cX8_init 113 = .ok (.putfield 50, 3) := by decide +kernel
theorem dX8_init_116 : decode cX8_init 116 = .ok (.aload_n 0, 1) := by decide +kernel
theorem dX8_init_117 : decode cX8_init 117 = .ok (.bipush 9, 2) := by decide +kernel
theorem dX8_init_119 : decode cX8_init 119 = .ok (.newarray .int, 2) := by decide +kernel
theorem dX8_init_121 : decode cX8_init 121 = .ok (.putfield 53, 3) := by decide +kernel
theorem dX8_init_124 : decode cX8_init 124 = .ok (.aload_n 0, 1) := by decide +kernel
theorem dX8_init_125 : decode cX8_init 125 = .ok (.bipush 9, 2) := by decide +kernel
theorem dX8_init_127 : decode cX8_init 127 = .ok (.newarray .int, 2) := by decide +kernel
theorem dX8_init_129 : decode cX8_init 129 = .ok (.putfield 56, 3) := by decide +kernel
theorem dX8_init_132 : decode cX8_init 132 = .ok (.return_, 1) := by decide +kernel
theorem dX8_good_0 : decode cX8_good 0 = .ok (.aload_n 0, 1) := by decide +kernel
theorem dX8_good_1 : decode cX8_good 1 = .ok (.iconst 0, 1) := by decide +kernel
theorem dX8_good_2 : decode cX8_good 2 = .ok (.putfield 59, 3) := by decide +kernel
theorem dX8_good_5 : decode cX8_good 5 = .ok (.aload_n 0, 1) := by decide +kernel
theorem dX8_good_6 : decode cX8_good 6 = .ok (.iconst 0, 1) := by decide +kernel
theorem dX8_good_7 : decode cX8_good 7 = .ok (.putfield 62, 3) := by decide +kernel
theorem dX8_good_10 : decode cX8_good 10 = .ok (.return_, 1) := by decide +kernel
theorem dX8_no_0 : decode cX8_no 0 = .ok (.aload_n 0, 1) := by decide +kernel
theorem dX8_no_1 : decode cX8_no 1 = .ok (.iload_n 1, 1) := by decide +kernel
theorem dX8_no_2 : decode cX8_no 2 = .ok (.putfield 62, 3) := by decide +kernel
theorem dX8_no_5 : decode cX8_no 5 = .ok (.iconst (-1), 1) := by decide +kernel
theorem dX8_no_6 : decode cX8_no 6 = .ok (.ireturn, 1) := by decide +kernel
theorem dX8_isNot_0 : decode cX8_isNot 0 = .ok (.aload_n 0, 1) := by decide +kernel
theorem dX8_isNot_1 : decode cX8_isNot 1 = .ok (.iload_n 1, 1) := by decide +kernel
theorem dX8_isNot_2 : decode cX8_isNot 2 = .ok (.putfield 62, 3) := by decide +kernel
theorem dX8_isNot_5 : decode cX8_isNot 5 = .ok (.iconst 0, 1) := by decide +kernel
theorem dX8_isNot_6 : decode cX8_isNot 6 = .ok (.ireturn, 1) := by decide +kernel
theorem dX8_in_0 : decode cX8_in 0 = .ok (.iload_n 0, 1) := by decide +kernel
theorem dX8_in_1 : decode cX8_in 1 = .ok (.iload_n 1, 1) := by decide +kernel
theorem dX8_in_2 : decode cX8_in 2 = .ok (.if_icmp .lt 12, 3) := by decide +kernel
theorem dX8_in_5 : decode cX8_in 5 = .ok (.iload_n 0, 1) := by decide +kernel
theorem dX8_in_6 : decode cX8_in 6 = .ok (.iload_n 2, 1) := by decide +kernel
theorem dX8_in_7 : decode cX8_in 7 = .ok (.if_icmp .gt 7, 3) := by decide +kernel
theorem dX8_in_10 : decode cX8_in 10 = .ok (.iconst 1, 1) := by decide +kernel
theorem dX8_in_11 : decode cX8_in 11 = .ok (.goto 4, 3) := by decide +kernel
theorem dX8_in_14 : decode cX8_in 14 = .ok (.iconst 0, 1) := by decide +kernel
theorem dX8_in_15 : decode cX8_in 15 = .ok (.ireturn, 1) := by decide +kernel
theorem dX8_hasBit_0 : decode cX8_hasBit 0 = .ok (.iload_n 0, 1) := by decide +kernel
theorem dX8_hasBit_1 : decode cX8_hasBit 1 = .ok (.iload_n 1, 1) := by decide +kernel
theorem dX8_hasBit_2 : decode cX8_hasBit 2 = .ok (.ishr, 1) := by decide +kernel
theorem dX8_hasBit_3 : decode cX8_hasBit 3 = .ok (.iconst 1, 1) := by decide +kernel
theorem dX8_hasBit_4 : decode cX8_hasBit 4 = .ok (.iand, 1) := by decide +kernel
theorem dX8_hasBit_5 : decode cX8_hasBit 5 = .ok (.iconst 1, 1) := by decide +kernel
theorem dX8_hasBit_6 : decode cX8_hasBit 6 = .ok (.if_icmp .ne 7, 3) := by decide +kernel
theorem dX8_hasBit_9 : decode cX8_hasBit 9 = .ok (.iconst 1, 1) := by decide +kernel
theorem dX8_hasBit_10 : decode cX8_hasBit 10 = .ok (.goto 4, 3) := by decide +kernel
theorem dX8_hasBit_13 : decode cX8_hasBit 13 = .ok (.iconst 0, 1) := by decide +kernel
theorem dX8_hasBit_14 : decode cX8_hasBit 14 = .ok (.ireturn, 1) := by decide +kernel
theorem dX8_ones_0 : decode cX8_ones 0 = .ok (.iconst 0, 1) := by decide +kernel
theorem dX8_ones_1 : decode cX8_ones 1 = .ok (.istore_n 1, 1) := by decide +kernel
theorem dX8_ones_2 : decode cX8_ones 2 = .ok (.iconst 0, 1) := by decide +kernel
theorem dX8_ones_3 : decode cX8_ones 3 = .ok (.istore_n 2, 1) := by decide +kernel
theorem dX8_ones_4 : decode cX8_ones 4 = .ok (.iload_n 2, 1) := by decide +kernel
theorem dX8_ones_5 : decode cX8_ones 5 = .ok (.bipush 9, 2) := by decide +kernel
theorem dX8_ones_7 : decode cX8_ones 7 = .ok (.if_icmp .ge 17, 3) := by decide +kernel
theorem dX8_ones_10 : decode cX8_ones 10 = .ok (.iload_n 1, 1) := by decide +kernel
theorem dX8_ones_11 : decode cX8_ones 11 = .ok (.iload_n 0, 1) := by decide +kernel
theorem dX8_ones_12 : decode cX8_ones 12 = .ok (.iload_n 2, 1) := by decide +kernel
theorem dX8_ones_13 : decode cX8_ones 13 = .ok (.ishr, 1) := by decide +kernel
theorem dX8_ones_14 : decode cX8_ones 14 = .ok (.iconst 1, 1) := by decide +kernel
theorem dX8_ones_15 : decode cX8_ones 15 = .ok (.iand, 1) := by decide +kernel
theorem dX8_ones_16 : decode cX8_ones 16 = .ok (.iadd, 1) := by decide +kernel
theorem dX8_ones_17 : decode cX8_ones 17 = .ok (.istore_n 1, 1) := by decide +kernel
theorem dX8_ones_18 : decode cX8_ones 18 = .ok (.iinc 2 1, 3) := by decide +kernel
theorem dX8_ones_21 : decode cX8_ones 21 = .ok (.goto (-17), 3) := by decide +kernel
theorem dX8_ones_24 : decode cX8_ones 24 = .ok (.iload_n 1, 1) := by decide +kernel
theorem dX8_ones_25 : decode cX8_ones 25 = .ok (.ireturn, 1) := by decide +kernel
theorem dX8_copy_0 : decode cX8_copy 0 = .ok (.iconst 0, 1) := by decide +kernel
theorem dX8_copy_1 : decode cX8_copy 1 = .ok (.istore 5, 2) := by decide +kernel
theorem dX8_copy_3 : decode cX8_copy 3 = .ok (.iload 5, 2) := by decide +kernel
theorem dX8_copy_5 : decode cX8_copy 5 = .ok (.iload 4, 2) := by decide +kernel
theorem dX8_copy_7 : decode cX8_copy 7 = .ok (.if_icmp .ge 21, 3) := by decide +kernel
theorem dX8_copy_10 : decode cX8_copy 10 = .ok (.aload_n 2, 1) := by decide +kernel
theorem dX8_copy_11 : decode cX8_copy 11 = .ok (.iload_n 3, 1) := by decide +kernel
theorem dX8_copy_12 : decode cX8_copy 12 = .ok (.iload 5, 2) := by decide +kernel
theorem dX8_copy_14 : decode cX8_copy 14 = .ok (.iadd, 1) := by decide +kernel
theorem dX8_copy_15 : decode cX8_copy 15 = .ok (.aload_n 0, 1) := by decide +kernel
theorem dX8_copy_16 : decode cX8_copy 16 = .ok (.iload_n 1, 1) := by decide +kernel
theorem dX8_copy_17 : decode cX8_copy 17 = .ok (.iload 5, 2) := by decide +kernel
theorem dX8_copy_19 : decode cX8_copy 19 = .ok (.iadd, 1) := by decide +kernel
theorem dX8_copy_20 : decode cX8_copy 20 = .ok (.iaload, 1) := by decide +kernel
theorem dX8_copy_21 : decode cX8_copy 21 = .ok (.iastore, 1) := by decide +kernel
theorem dX8_copy_22 : decode cX8_copy 22 = .ok (.iinc 5 1, 3) := by decide +kernel
theorem dX8_copy_25 : decode cX8_copy 25 = .ok (.goto (-22), 3) := by decide +kernel
theorem dX8_copy_28 : decode cX8_copy 28 = .ok (.return_, 1) := by decide +kernel
theorem dX8_lowest_0 : decode cX8_lowest 0 = .ok (.lload_n 2, 1) := by decide +kernel
theorem dX8_lowest_1 : decode cX8_lowest 1 = .ok (.lstore 5, 2) := by decide +kernel
theorem dX8_lowest_3 : decode cX8_lowest 3 = .ok (.lload_n 0, 1) := by decide +kernel
theorem dX8_lowest_4 : decode cX8_lowest 4 = .ok (.lstore 7, 2) := by decide +kernel
theorem dX8_lowest_6 : decode cX8_lowest 6 = .ok (.lload 7, 2) := by decide +kernel
theorem dX8_lowest_8 : decode cX8_lowest 8 = .ok (.lconst 0, 1) := by decide +kernel
theorem dX8_lowest_9 : decode cX8_lowest 9 = .ok (.lcmp, 1) := by decide +kernel
theorem dX8_lowest_10 : decode cX8_lowest 10 = .ok (.ifCond .eq 21, 3) := by decide +kernel
theorem dX8_lowest_13 : decode cX8_lowest 13 = .ok (.lload 5, 2) := by decide +kernel
theorem dX8_lowest_15 : decode cX8_lowest 15 = .ok (.lload 7, 2) := by decide +kernel
theorem dX8_lowest_17 : decode cX8_lowest 17 = .ok (.lrem, 1) := by decide +kernel
theorem dX8_lowest_18 : decode cX8_lowest 18 = .ok (.lstore 9, 2) := by decide +kernel
theorem dX8_lowest_20 : decode cX8_lowest 20 = .ok (.lload 7, 2) := by decide +kernel
theorem dX8_lowest_22 : decode cX8_lowest 22 = .ok (.lstore 5, 2) := by decide +kernel
theorem dX8_lowest_24 : decode cX8_lowest 24 = .ok (.lload 9, 2) := by decide +kernel
theorem dX8_lowest_26 : decode cX8_lowest 26 = .ok (.lstore 7, 2) := by decide +kernel
theorem dX8_lowest_28 : decode cX8_lowest 28 = .ok (.goto (-22), 3) := by decide +kernel
theorem dX8_lowest_31 : decode cX8_lowest 31 = .ok (.iload 4, 2) := by decide +kernel
theorem dX8_lowest_33 : decode cX8_lowest 33 = .ok (.ifCond .eq 7, 3) := by decide +kernel
theorem dX8_lowest_36 : decode cX8_lowest 36 = .ok (.lload_n 2, 1) := by decide +kernel
theorem dX8_lowest_37 : decode cX8_lowest 37 = .ok (.goto 4, 3) := by decide +kernel
theorem dX8_lowest_40 : decode cX8_lowest 40 = .ok (.lload_n 0, 1) := by decide +kernel
theorem dX8_lowest_41 : decode cX8_lowest 41 = .ok (.lload 5, 2) := by decide +kernel
theorem dX8_lowest_43 : decode cX8_lowest 43 = .ok (.ldiv, 1) := by decide +kernel
theorem dX8_lowest_44 : decode cX8_lowest 44 = .ok (.lreturn, 1) := by decide +kernel
theorem dX8_feed_0 : decode cX8_feed 0 = .ok (.aload_n 0, 1) := by decide +kernel
theorem dX8_feed_1 : decode cX8_feed 1 = .ok (.iconst 0, 1) := by decide +kernel
theorem dX8_feed_2 : decode cX8_feed 2 = .ok (.putfield 59, 3) := by decide +kernel
theorem dX8_feed_5 : decode cX8_feed 5 = .ok (.aload_n 0, 1) := by decide +kernel
theorem dX8_feed_6 : decode cX8_feed 6 = .ok (.getfield 65, 3) := by decide +kernel
theorem dX8_feed_9 : decode cX8_feed 9 = .ok (.bipush 20, 2) := by decide +kernel
theorem dX8_feed_11 : decode cX8_feed 11 = .ok (.iadd, 1) := by decide +kernel
theorem dX8_feed_12 : decode cX8_feed 12 = .ok (.sipush 900, 3) := by decide +kernel
theorem dX8_feed_15 : decode cX8_feed 15 = .ok (.if_icmp .le 5, 3) := by decide +kernel
theorem dX8_feed_18 : decode cX8_feed 18 = .ok (.iconst (-1), 1) := by decide +kernel
theorem dX8_feed_19 : decode cX8_feed 19 = .ok (.ireturn, 1) := by decide +kernel
theorem dX8_feed_20 : decode cX8_feed 20 = .ok (.iconst 0, 1) := by decide +kernel
theorem dX8_feed_21 : decode cX8_feed 21 = .ok (.istore 6, 2) := by decide +kernel
theorem dX8_feed_23 : decode cX8_feed 23 = .ok (.iload 6, 2) := by decide +kernel
theorem dX8_feed_25 : decode cX8_feed 25 = .ok (.bipush 20, 2) := by decide +kernel
theorem dX8_feed_27 : decode cX8_feed 27 = .ok (.if_icmp .ge 93, 3) := by decide +kernel
theorem dX8_feed_30 : decode cX8_feed 30 = .ok (.iload 6, 2) := by decide +kernel
theorem dX8_feed_32 : decode cX8_feed 32 = .ok (.iconst 4, 1) := by decide +kernel
theorem dX8_feed_33 : decode cX8_feed 33 = .ok (.if_icmp .ge 7, 3) := by decide +kernel
theorem dX8_feed_36 : decode cX8_feed 36 = .ok (.iload_n 1, 1) := by decide +kernel
theorem dX8_feed_37 : decode cX8_feed 37 = .ok (.goto 39, 3) := by decide +kernel
theorem dX8_feed_40 : decode cX8_feed 40 = .ok (.iload 6, 2) := by decide +kernel
theorem dX8_feed_42 : decode cX8_feed 42 = .ok (.bipush 8, 2) := by decide +kernel
theorem dX8_feed_44 : decode cX8_feed 44 = .ok (.if_icmp .ge 7, 3) := by decide +kernel
theorem dX8_feed_47 : decode cX8_feed 47 = .ok (.iload_n 2, 1) := by decide +kernel
theorem dX8_feed_48 : decode cX8_feed 48 = .ok (.goto 28, 3) := by decide +kernel
theorem dX8_feed_51 : decode cX8_feed 51 = .ok (.iload 6, 2) := by decide +kernel
theorem dX8_feed_53 : decode cX8_feed 53 = .ok (.bipush 12, 2) := by decide +kernel
theorem dX8_feed_55 : decode cX8_feed 55 = .ok (.if_icmp .ge 7, 3) := by decide +kernel
theorem dX8_feed_58 : decode cX8_feed 58 = .ok (.iload_n 3, 1) := by decide +kernel
theorem dX8_feed_59 : decode cX8_feed 59 = .ok (.goto 17, 3) := by decide +kernel
theorem dX8_feed_62 : decode cX8_feed 62 = .ok (.iload 6, 2) := by decide +kernel
theorem dX8_feed_64 : decode cX8_feed 64 = .ok (.bipush 16, 2) := by decide +kernel
theorem dX8_feed_66 : decode cX8_feed 66 = .ok (.if_icmp .ge 8, 3) := by decide +kernel
theorem dX8_feed_69 : decode cX8_feed 69 = .ok (.iload 4, 2) := by decide +kernel
theorem dX8_feed_71 : decode cX8_feed 71 = .ok (.goto 5, 3) := by decide +kernel
theorem dX8_feed_74 : decode cX8_feed 74 = .ok (.iload 5, 2) := by decide +kernel
theorem dX8_feed_76 : decode cX8_feed 76 = .ok (.istore 7, 2) := by decide +kernel
theorem dX8_feed_78 : decode cX8_feed 78 = .ok (.aload_n 0, 1) := by decide +kernel
theorem dX8_feed_79 : decode cX8_feed 79 = .ok (.getfield 7, 3) := by decide +kernel
theorem dX8_feed_82 : decode cX8_feed 82 = .ok (.aload_n 0, 1) := by decide +kernel
theorem dX8_feed_83 : decode cX8_feed 83 = .ok (.getfield 65, 3) := by decide +kernel
theorem dX8_feed_86 : decode cX8_feed 86 = .ok (.iload 7, 2) := by decide +kernel
theorem dX8_feed_88 : decode cX8_feed 88 = .ok (.bipush 24, 2) := by decide +kernel
theorem dX8_feed_90 : decode cX8_feed 90 = .ok (.bipush 8, 2) := by decide +kernel
theorem dX8_feed_92 : decode cX8_feed 92 = .ok (.iload 6, 2) := by decide +kernel
theorem dX8_feed_94 : decode cX8_feed 94 = .ok (.iconst 4, 1) := by decide +kernel
theorem dX8_feed_95 : decode cX8_feed 95 = .ok (.irem, 1) := by decide +kernel
theorem dX8_feed_96 : decode cX8_feed 96 = .ok (.imul, 1) := by decide +kernel
theorem dX8_feed_97 : decode cX8_feed 97 = .ok (.isub, 1) := by decide +kernel
theorem dX8_feed_98 : decode cX8_feed 98 = .ok (.ishr, 1) := by decide +kernel
theorem dX8_feed_99 : decode cX8_feed 99 = .ok (.sipush 255, 3) := by decide +kernel
theorem dX8_feed_102 : decode cX8_feed 102 = .ok (.iand, 1) := by decide +kernel
theorem dX8_feed_103 : decode cX8_feed 103 = .ok (.iastore, 1) := by decide +kernel
theorem dX8_feed_104 : decode cX8_feed 104 = .ok (.aload_n 0, 1) := by decide +kernel
theorem dX8_feed_105 : decode cX8_feed 105 = .ok (.dup, 1) := by decide +kernel
theorem dX8_feed_106 : decode cX8_feed 106 = .ok (.getfield 65, 3) := by decide +kernel
theorem dX8_feed_109 : decode cX8_feed 109 = .ok (.iconst 1, 1) := by decide +kernel
theorem dX8_feed_110 : decode cX8_feed 110 = .ok (.iadd, 1) := by decide +kernel
theorem dX8_feed_111 : decode cX8_feed 111 = .ok (.putfield 65, 3) := by decide +kernel
theorem dX8_feed_114 : decode cX8_feed 114 = .ok (.iinc 6 1, 3) := by decide +kernel
theorem dX8_feed_117 : decode cX8_feed 117 = .ok (.goto (-94), 3) := by decide +kernel
theorem dX8_feed_120 : decode cX8_feed 120 = .ok (.aload_n 0, 1) := by decide +kernel
theorem dX8_feed_121 : decode cX8_feed 121 = .ok (.getfield 65, 3) := by decide +kernel
theorem dX8_feed_124 : decode cX8_feed 124 = .ok (.ireturn, 1) := by decide +kernel
theorem dX8_see_0 : decode cX8_see 0 = .ok (.iload_n 1, 1) := by decide +kernel
theorem dX8_see_1 : decode cX8_see 1 = .ok (.aload_n 0, 1) := by decide +kernel
theorem dX8_see_2 : decode cX8_see 2 = .ok (.getfield 68, 3) := by decide +kernel
theorem dX8_see_5 : decode cX8_see 5 = .ok (.if_icmp .ge 12, 3) := by decide +kernel
theorem dX8_see_8 : decode cX8_see 8 = .ok (.aload_n 0, 1) := by decide +kernel
theorem dX8_see_9 : decode cX8_see 9 = .ok (.getfield 7, 3) := by decide +kernel
theorem dX8_see_12 : decode cX8_see 12 = .ok (.iload_n 1, 1) := by decide +kernel
theorem dX8_see_13 : decode cX8_see 13 = .ok (.iaload, 1) := by decide +kernel
theorem dX8_see_14 : decode cX8_see 14 = .ok (.goto 4, 3) := by decide +kernel
theorem dX8_see_17 : decode cX8_see 17 = .ok (.iconst (-1), 1) := by decide +kernel
theorem dX8_see_18 : decode cX8_see 18 = .ok (.ireturn, 1) := by decide +kernel
theorem dX8_isSmall_0 : decode cX8_isSmall 0 = .ok (.iload_n 0, 1) := by decide +kernel
theorem dX8_isSmall_1 : decode cX8_isSmall 1 = .ok (.bipush 97, 2) := by decide +kernel
theorem dX8_isSmall_3 : decode cX8_isSmall 3 = .ok (.if_icmp .lt 13, 3) := by decide +kernel
theorem dX8_isSmall_6 : decode cX8_isSmall 6 = .ok (.iload_n 0, 1) := by decide +kernel
theorem dX8_isSmall_7 : decode cX8_isSmall 7 = .ok (.bipush 122, 2) := by decide +kernel
theorem dX8_isSmall_9 : decode cX8_isSmall 9 = .ok (.if_icmp .gt 7, 3) := by decide +kernel
theorem dX8_isSmall_12 : decode cX8_isSmall 12 = .ok (.iconst 1, 1) := by decide +kernel
theorem dX8_isSmall_13 : decode cX8_isSmall 13 = .ok (.goto 4, 3) := by decide +kernel
theorem dX8_isSmall_16 : decode cX8_isSmall 16 = .ok (.iconst 0, 1) := by decide +kernel
theorem dX8_isSmall_17 : decode cX8_isSmall 17 = .ok (.ireturn, 1) := by decide +kernel
theorem dX8_isDigit_0 : decode cX8_isDigit 0 = .ok (.iload_n 0, 1) := by decide +kernel
theorem dX8_isDigit_1 : decode cX8_isDigit 1 = .ok (.bipush 48, 2) := by decide +kernel
theorem dX8_isDigit_3 : decode cX8_isDigit 3 = .ok (.if_icmp .lt 13, 3) := by decide +kernel
theorem dX8_isDigit_6 : decode cX8_isDigit 6 = .ok (.iload_n 0, 1) := by decide +kernel
theorem dX8_isDigit_7 : decode cX8_isDigit 7 = .ok (.bipush 57, 2) := by decide +kernel
theorem dX8_isDigit_9 : decode cX8_isDigit 9 = .ok (.if_icmp .gt 7, 3) := by decide +kernel
theorem dX8_isDigit_12 : decode cX8_isDigit 12 = .ok (.iconst 1, 1) := by decide +kernel
theorem dX8_isDigit_13 : decode cX8_isDigit 13 = .ok (.goto 4, 3) := by decide +kernel
theorem dX8_isDigit_16 : decode cX8_isDigit 16 = .ok (.iconst 0, 1) := by decide +kernel
theorem dX8_isDigit_17 : decode cX8_isDigit 17 = .ok (.ireturn, 1) := by decide +kernel
theorem dX8_next_0 : decode cX8_next 0 = .ok (.aload_n 0, 1) := by decide +kernel
theorem dX8_next_1 : decode cX8_next 1 = .ok (.getfield 71, 3) := by decide +kernel
theorem dX8_next_4 : decode cX8_next 4 = .ok (.istore_n 1, 1) := by decide +kernel
theorem dX8_next_5 : decode cX8_next 5 = .ok (.aload_n 0, 1) := by decide +kernel
theorem dX8_next_6 : decode cX8_next 6 = .ok (.iload_n 1, 1) := by decide +kernel
theorem dX8_next_7 : decode cX8_next 7 = .ok (.invokevirtual 74, 3) := by decide +kernel
theorem dX8_next_10 : decode cX8_next 10 = .ok (.bipush 32, 2) := by decide +kernel
theorem dX8_next_12 : decode cX8_next 12 = .ok (.if_icmp .ne 9, 3) := by decide +kernel
theorem dX8_next_15 : decode cX8_next 15 = .ok (.iinc 1 1, 3) := by decide +kernel
theorem dX8_next_18 : decode cX8_next 18 = .ok (.goto (-13), 3) := by decide +kernel
theorem dX8_next_21 : decode cX8_next 21 = .ok (.aload_n 0, 1) := by decide +kernel
theorem dX8_next_22 : decode cX8_next 22 = .ok (.iload_n 1, 1) := by decide +kernel
theorem dX8_next_23 : decode cX8_next 23 = .ok (.putfield 78, 3) := by decide +kernel
theorem dX8_next_26 : decode cX8_next 26 = .ok (.aload_n 0, 1) := by decide +kernel
theorem dX8_next_27 : decode cX8_next 27 = .ok (.iload_n 1, 1) := by decide +kernel
theorem dX8_next_28 : decode cX8_next 28 = .ok (.invokevirtual 74, 3) := by decide +kernel
theorem dX8_next_31 : decode cX8_next 31 = .ok (.istore_n 2, 1) := by decide +kernel
theorem dX8_next_32 : decode cX8_next 32 = .ok (.aload_n 0, 1) := by decide +kernel
theorem dX8_next_33 : decode cX8_next 33 = .ok (.iconst 0, 1) := by decide +kernel
theorem dX8_next_34 : decode cX8_next 34 = .ok (.putfield 81, 3) := by decide +kernel
theorem dX8_next_37 : decode cX8_next 37 = .ok (.aload_n 0, 1) := by decide +kernel
theorem dX8_next_38 : decode cX8_next 38 = .ok (.iconst 0, 1) := by decide +kernel
theorem dX8_next_39 : decode cX8_next 39 = .ok (.putfield 84, 3) := by decide +kernel
theorem dX8_next_42 : decode cX8_next 42 = .ok (.iload_n 2, 1) := by decide +kernel
theorem dX8_next_43 : decode cX8_next 43 = .ok (.iconst (-1), 1) := by decide +kernel
theorem dX8_next_44 : decode cX8_next 44 = .ok (.if_icmp .ne 16, 3) := by decide +kernel
theorem dX8_next_47 : decode cX8_next 47 = .ok (.aload_n 0, 1) := by decide +kernel
theorem dX8_next_48 : decode cX8_next 48 = .ok (.iconst 0, 1) := by decide +kernel
theorem dX8_next_49 : decode cX8_next 49 = .ok (.putfield 87, 3) := by decide +kernel
theorem dX8_next_52 : decode cX8_next 52 = .ok (.aload_n 0, 1) := by decide +kernel
theorem dX8_next_53 : decode cX8_next 53 = .ok (.iload_n 1, 1) := by decide +kernel
theorem dX8_next_54 : decode cX8_next 54 = .ok (.putfield 71, 3) := by decide +kernel
theorem dX8_next_57 : decode cX8_next 57 = .ok (.goto 184, 3) := by decide +kernel
theorem dX8_next_60 : decode cX8_next 60 = .ok (.iload_n 2, 1) := by decide +kernel
theorem dX8_next_61 : decode cX8_next 61 = .ok (.invokestatic 90, 3) := by decide +kernel
theorem dX8_next_64 : decode cX8_next 64 = .ok (.ifCond .eq 79, 3) := by decide +kernel
theorem dX8_next_67 : decode cX8_next 67 = .ok (.aload_n 0, 1) := by decide +kernel
theorem dX8_next_68 : decode cX8_next 68 = .ok (.iload_n 1, 1) := by decide +kernel
theorem dX8_next_69 : decode cX8_next 69 = .ok (.invokevirtual 74, 3) := by decide +kernel
theorem dX8_next_72 : decode cX8_next 72 = .ok (.invokestatic 90, 3) := by decide +kernel
theorem dX8_next_75 : decode cX8_next 75 = .ok (.ifCond .eq 42, 3) := by decide +kernel
theorem dX8_next_78 : decode cX8_next 78 = .ok (.aload_n 0, 1) := by decide +kernel
theorem dX8_next_79 : decode cX8_next 79 = .ok (.getfield 81, 3) := by decide +kernel
theorem dX8_next_82 : decode cX8_next 82 = .ok (.bipush 8, 2) := by decide +kernel
theorem dX8_next_84 : decode cX8_next 84 = .ok (.if_icmp .ge 17, 3) := by decide +kernel
theorem dX8_next_87 : decode cX8_next 87 = .ok (.aload_n 0, 1) := by decide +kernel
theorem dX8_next_88 : decode cX8_next 88 = .ok (.getfield 17, 3) := by decide +kernel
theorem dX8_next_91 : decode cX8_next 91 = .ok (.aload_n 0, 1) := by decide +kernel
theorem dX8_next_92 : decode cX8_next 92 = .ok (.getfield 81, 3) := by decide +kernel
theorem dX8_next_95 : decode cX8_next 95 = .ok (.aload_n 0, 1) := by decide +kernel
theorem dX8_next_96 : decode cX8_next 96 = .ok (.iload_n 1, 1) := by decide +kernel
theorem dX8_next_97 : decode cX8_next 97 = .ok (.invokevirtual 74, 3) := by decide +kernel
theorem dX8_next_100 : decode cX8_next 100 = .ok (.iastore, 1) := by decide +kernel
theorem dX8_next_101 : decode cX8_next 101 = .ok (.aload_n 0, 1) := by decide +kernel
theorem dX8_next_102 : decode cX8_next 102 = .ok (.dup, 1) := by decide +kernel
theorem dX8_next_103 : decode cX8_next 103 = .ok (.getfield 81, 3) := by decide +kernel
theorem dX8_next_106 : decode cX8_next 106 = .ok (.iconst 1, 1) := by decide +kernel
theorem dX8_next_107 : decode cX8_next 107 = .ok (.iadd, 1) := by decide +kernel
theorem dX8_next_108 : decode cX8_next 108 = .ok (.putfield 81, 3) := by decide +kernel
theorem dX8_next_111 : decode cX8_next 111 = .ok (.iinc 1 1, 3) := by decide +kernel
theorem dX8_next_114 : decode cX8_next 114 = .ok (.goto (-47), 3) := by decide +kernel
theorem dX8_next_117 : decode cX8_next 117 = .ok (.aload_n 0, 1) := by decide +kernel
theorem dX8_next_118 : decode cX8_next 118 = .ok (.iload_n 1, 1) := by decide +kernel
theorem dX8_next_119 : decode cX8_next 119 = .ok (.putfield 71, 3) := by decide +kernel
theorem dX8_next_122 : decode cX8_next 122 = .ok (.aload_n 0, 1) := by decide +kernel
theorem dX8_next_123 : decode cX8_next 123 = .ok (.aload_n 0, 1) := by decide +kernel
theorem dX8_next_124 : decode cX8_next 124 = .ok (.getfield 81, 3) := by decide +kernel
theorem dX8_next_127 : decode cX8_next 127 = .ok (.bipush 8, 2) := by decide +kernel
theorem dX8_next_129 : decode cX8_next 129 = .ok (.if_icmp .le 7, 3) := by decide +kernel
theorem dX8_next_132 : decode cX8_next 132 = .ok (.iconst 1, 1) := by decide +kernel
theorem dX8_next_133 : decode cX8_next 133 = .ok (.goto 4, 3) := by decide +kernel
theorem dX8_next_136 : decode cX8_next 136 = .ok (.iconst 2, 1) := by decide +kernel
theorem dX8_next_137 : decode cX8_next 137 = .ok (.putfield 87, 3) := by decide +kernel
theorem dX8_next_140 : decode cX8_next 140 = .ok (.goto 101, 3) := by decide +kernel
theorem dX8_next_143 : decode cX8_next 143 = .ok (.iload_n 2, 1) := by decide +kernel
theorem dX8_next_144 : decode cX8_next 144 = .ok (.invokestatic 94, 3) := by decide +kernel
theorem dX8_next_147 : decode cX8_next 147 = .ok (.ifCond .eq 72, 3) := by decide +kernel
theorem dX8_next_150 : decode cX8_next 150 = .ok (.iconst 0, 1) := by decide +kernel
theorem dX8_next_151 : decode cX8_next 151 = .ok (.istore_n 3, 1) := by decide +kernel
theorem dX8_next_152 : decode cX8_next 152 = .ok (.aload_n 0, 1) := by decide +kernel
theorem dX8_next_153 : decode cX8_next 153 = .ok (.iload_n 1, 1) := by decide +kernel
theorem dX8_next_154 : decode cX8_next 154 = .ok (.invokevirtual 74, 3) := by decide +kernel
theorem dX8_next_157 : decode cX8_next 157 = .ok (.invokestatic 94, 3) := by decide +kernel
theorem dX8_next_160 : decode cX8_next 160 = .ok (.ifCond .eq 37, 3) := by decide +kernel
theorem dX8_next_163 : decode cX8_next 163 = .ok (.iload_n 3, 1) := by decide +kernel
theorem dX8_next_164 : decode cX8_next 164 = .ok (.iconst 3, 1) := by decide +kernel
theorem dX8_next_165 : decode cX8_next 165 = .ok (.if_icmp .ge 23, 3) := by decide +kernel
theorem dX8_next_168 : decode cX8_next 168 = .ok (.aload_n 0, 1) := by decide +kernel
theorem dX8_next_169 : decode cX8_next 169 = .ok (.bipush 10, 2) := by decide +kernel
theorem dX8_next_171 : decode cX8_next 171 = .ok (.aload_n 0, 1) := by decide +kernel
theorem dX8_next_172 : decode cX8_next 172 = .ok (.getfield 84, 3) := by decide +kernel
theorem dX8_next_175 : decode cX8_next 175 = .ok (.imul, 1) := by decide +kernel
theorem dX8_next_176 : decode cX8_next 176 = .ok (.aload_n 0, 1) := by decide +kernel
theorem dX8_next_177 : decode cX8_next 177 = .ok (.iload_n 1, 1) := by decide +kernel
theorem dX8_next_178 : decode cX8_next 178 = .ok (.invokevirtual 74, 3) := by decide +kernel
theorem dX8_next_181 : decode cX8_next 181 = .ok (.iadd, 1) := by decide +kernel
theorem dX8_next_182 : decode cX8_next 182 = .ok (.bipush 48, 2) := by decide +kernel
theorem dX8_next_184 : decode cX8_next 184 = .ok (.isub, 1) := by decide +kernel
theorem dX8_next_185 : decode cX8_next 185 = .ok (.putfield 84, 3) := by decide +kernel
theorem dX8_next_188 : decode cX8_next 188 = .ok (.iinc 3 1, 3) := by decide +kernel
theorem dX8_next_191 : decode cX8_next 191 = .ok (.iinc 1 1, 3) := by decide +kernel
theorem dX8_next_194 : decode cX8_next 194 = .ok (.goto (-42), 3) := by decide +kernel
theorem dX8_next_197 : decode cX8_next 197 = .ok (.aload_n 0, 1) := by decide +kernel
theorem dX8_next_198 : decode cX8_next 198 = .ok (.iload_n 1, 1) := by decide +kernel
theorem dX8_next_199 : decode cX8_next 199 = .ok (.putfield 71, 3) := by decide +kernel
theorem dX8_next_202 : decode cX8_next 202 = .ok (.aload_n 0, 1) := by decide +kernel
theorem dX8_next_203 : decode cX8_next 203 = .ok (.iload_n 3, 1) := by decide +kernel
theorem dX8_next_204 : decode cX8_next 204 = .ok (.iconst 3, 1) := by decide +kernel
theorem dX8_next_205 : decode cX8_next 205 = .ok (.if_icmp .le 7, 3) := by decide +kernel
theorem dX8_next_208 : decode cX8_next 208 = .ok (.iconst 1, 1) := by decide +kernel
theorem dX8_next_209 : decode cX8_next 209 = .ok (.goto 4, 3) := by decide +kernel
theorem dX8_next_212 : decode cX8_next 212 = .ok (.iconst 3, 1) := by decide +kernel
theorem dX8_next_213 : decode cX8_next 213 = .ok (.putfield 87, 3) := by decide +kernel
theorem dX8_next_216 : decode cX8_next 216 = .ok (.goto 25, 3) := by decide +kernel
theorem dX8_next_219 : decode cX8_next 219 = .ok (.aload_n 0, 1) := by decide +kernel
theorem dX8_next_220 : decode cX8_next 220 = .ok (.iload_n 1, 1) := by decide +kernel
theorem dX8_next_221 : decode cX8_next 221 = .ok (.iconst 1, 1) := by decide +kernel
theorem dX8_next_222 : decode cX8_next 222 = .ok (.iadd, 1) := by decide +kernel
theorem dX8_next_223 : decode cX8_next 223 = .ok (.putfield 71, 3) := by decide +kernel
theorem dX8_next_226 : decode cX8_next 226 = .ok (.aload_n 0, 1) := by decide +kernel
theorem dX8_next_227 : decode cX8_next 227 = .ok (.iload_n 2, 1) := by decide +kernel
theorem dX8_next_228 : decode cX8_next 228 = .ok (.bipush 59, 2) := by decide +kernel
theorem dX8_next_230 : decode cX8_next 230 = .ok (.if_icmp .ne 7, 3) := by decide +kernel
theorem dX8_next_233 : decode cX8_next 233 = .ok (.iload_n 2, 1) := by decide +kernel
theorem dX8_next_234 : decode cX8_next 234 = .ok (.goto 4, 3) := by decide +kernel
theorem dX8_next_237 : decode cX8_next 237 = .ok (.iconst 1, 1) := by decide +kernel
theorem dX8_next_238 : decode cX8_next 238 = .ok (.putfield 87, 3) := by decide +kernel
theorem dX8_next_241 : decode cX8_next 241 = .ok (.return_, 1) := by decide +kernel
theorem dX8_wrong_0 : decode cX8_wrong 0 = .ok (.aload_n 0, 1) := by decide +kernel
theorem dX8_wrong_1 : decode cX8_wrong 1 = .ok (.getfield 97, 3) := by decide +kernel
theorem dX8_wrong_4 : decode cX8_wrong 4 = .ok (.ifCond .eq 4, 3) := by decide +kernel
theorem dX8_wrong_7 : decode cX8_wrong 7 = .ok (.return_, 1) := by decide +kernel
theorem dX8_wrong_8 : decode cX8_wrong 8 = .ok (.aload_n 0, 1) := by decide +kernel
theorem dX8_wrong_9 : decode cX8_wrong 9 = .ok (.iconst 1, 1) := by decide +kernel
theorem dX8_wrong_10 : decode cX8_wrong 10 = .ok (.putfield 97, 3) := by decide +kernel
theorem dX8_wrong_13 : decode cX8_wrong 13 = .ok (.aload_n 0, 1) := by decide +kernel
theorem dX8_wrong_14 : decode cX8_wrong 14 = .ok (.iload_n 1, 1) := by decide +kernel
theorem dX8_wrong_15 : decode cX8_wrong 15 = .ok (.putfield 101, 3) := by decide +kernel
theorem dX8_wrong_18 : decode cX8_wrong 18 = .ok (.aload_n 0, 1) := by decide +kernel
theorem dX8_wrong_19 : decode cX8_wrong 19 = .ok (.iload_n 2, 1) := by decide +kernel
theorem dX8_wrong_20 : decode cX8_wrong 20 = .ok (.putfield 13, 3) := by decide +kernel
theorem dX8_wrong_23 : decode cX8_wrong 23 = .ok (.return_, 1) := by decide +kernel
theorem dX8_isWord_0 : decode cX8_isWord 0 = .ok (.aload_n 0, 1) := by decide +kernel
theorem dX8_isWord_1 : decode cX8_isWord 1 = .ok (.getfield 97, 3) := by decide +kernel
theorem dX8_isWord_4 : decode cX8_isWord 4 = .ok (.ifCond .ne 22, 3) := by decide +kernel
theorem dX8_isWord_7 : decode cX8_isWord 7 = .ok (.aload_n 0, 1) := by decide +kernel
theorem dX8_isWord_8 : decode cX8_isWord 8 = .ok (.getfield 87, 3) := by decide +kernel
theorem dX8_isWord_11 : decode cX8_isWord 11 = .ok (.iconst 2, 1) := by decide +kernel
theorem dX8_isWord_12 : decode cX8_isWord 12 = .ok (.if_icmp .ne 14, 3) := by decide +kernel
theorem dX8_isWord_15 : decode cX8_isWord 15 = .ok (.aload_n 0, 1) := by decide +kernel
theorem dX8_isWord_16 : decode cX8_isWord 16 = .ok (.getfield 81, 3) := by decide +kernel
theorem dX8_isWord_19 : decode cX8_isWord 19 = .ok (.aload_n 1, 1) := by decide +kernel
theorem dX8_isWord_20 : decode cX8_isWord 20 = .ok (.invokevirtual 104, 3) := by decide +kernel
theorem dX8_isWord_23 : decode cX8_isWord 23 = .ok (.if_icmp .eq 5, 3) := by decide +kernel
theorem dX8_isWord_26 : decode cX8_isWord 26 = .ok (.iconst 0, 1) := by decide +kernel
theorem dX8_isWord_27 : decode cX8_isWord 27 = .ok (.ireturn, 1) := by decide +kernel
theorem dX8_isWord_28 : decode cX8_isWord 28 = .ok (.iconst 1, 1) := by decide +kernel
theorem dX8_isWord_29 : decode cX8_isWord 29 = .ok (.istore_n 2, 1) := by decide +kernel
theorem dX8_isWord_30 : decode cX8_isWord 30 = .ok (.iconst 0, 1) := by decide +kernel
theorem dX8_isWord_31 : decode cX8_isWord 31 = .ok (.istore_n 3, 1) := by decide +kernel
theorem dX8_isWord_32 : decode cX8_isWord 32 = .ok (.iload_n 3, 1) := by decide +kernel
theorem dX8_isWord_33 : decode cX8_isWord 33 = .ok (.aload_n 0, 1) := by decide +kernel
theorem dX8_isWord_34 : decode cX8_isWord 34 = .ok (.getfield 81, 3) := by decide +kernel
theorem dX8_isWord_37 : decode cX8_isWord 37 = .ok (.if_icmp .ge 33, 3) := by decide +kernel
theorem dX8_isWord_40 : decode cX8_isWord 40 = .ok (.iload_n 2, 1) := by decide +kernel
theorem dX8_isWord_41 : decode cX8_isWord 41 = .ok (.ifCond .eq 21, 3) := by decide +kernel
theorem dX8_isWord_44 : decode cX8_isWord 44 = .ok (.aload_n 0, 1) := by decide +kernel
theorem dX8_isWord_45 : decode cX8_isWord 45 = .ok (.getfield 17, 3) := by decide +kernel
theorem dX8_isWord_48 : decode cX8_isWord 48 = .ok (.iload_n 3, 1) := by decide +kernel
theorem dX8_isWord_49 : decode cX8_isWord 49 = .ok (.iaload, 1) := by decide +kernel
theorem dX8_isWord_50 : decode cX8_isWord 50 = .ok (.aload_n 1, 1) := by decide +kernel
theorem dX8_isWord_51 : decode cX8_isWord 51 = .ok (.iload_n 3, 1) := by decide +kernel
theorem dX8_isWord_52 : decode cX8_isWord 52 = .ok (.invokevirtual 110, 3) := by decide +kernel
theorem dX8_isWord_55 : decode cX8_isWord 55 = .ok (.if_icmp .ne 7, 3) := by decide +kernel
theorem dX8_isWord_58 : decode cX8_isWord 58 = .ok (.iconst 1, 1) := by decide +kernel
theorem dX8_isWord_59 : decode cX8_isWord 59 = .ok (.goto 4, 3) := by decide +kernel
theorem dX8_isWord_62 : decode cX8_isWord 62 = .ok (.iconst 0, 1) := by decide +kernel
theorem dX8_isWord_63 : decode cX8_isWord 63 = .ok (.istore_n 2, 1) := by decide +kernel
theorem dX8_isWord_64 : decode cX8_isWord 64 = .ok (.iinc 3 1, 3) := by decide +kernel
theorem dX8_isWord_67 : decode cX8_isWord 67 = .ok (.goto (-35), 3) := by decide +kernel
theorem dX8_isWord_70 : decode cX8_isWord 70 = .ok (.iload_n 2, 1) := by decide +kernel
theorem dX8_isWord_71 : decode cX8_isWord 71 = .ok (.ireturn, 1) := by decide +kernel
theorem dX8_takesWord_0 : decode cX8_takesWord 0 = .ok (.aload_n 0, 1) := by decide +kernel
theorem dX8_takesWord_1 : decode cX8_takesWord 1 = .ok (.aload_n 1, 1) := by decide +kernel
theorem dX8_takesWord_2 : decode cX8_takesWord 2 = .ok (.invokevirtual 114, 3) := by decide +kernel
theorem dX8_takesWord_5 : decode cX8_takesWord 5 = .ok (.ifCond .ne 5, 3) := by decide +kernel
theorem dX8_takesWord_8 : decode cX8_takesWord 8 = .ok (.iconst 0, 1) := by decide +kernel
theorem dX8_takesWord_9 : decode cX8_takesWord 9 = .ok (.ireturn, 1) := by decide +kernel
theorem dX8_takesWord_10 : decode cX8_takesWord 10 = .ok (.aload_n 0, 1) := by decide +kernel
theorem dX8_takesWord_11 : decode cX8_takesWord 11 = .ok (.invokevirtual 118, 3) := by decide +kernel
theorem dX8_takesWord_14 : decode cX8_takesWord 14 = .ok (.iconst 1, 1) := by decide +kernel
theorem dX8_takesWord_15 : decode cX8_takesWord 15 = .ok (.ireturn, 1) := by decide +kernel
theorem dX8_must_0 : decode cX8_must 0 = .ok (.aload_n 0, 1) := by decide +kernel
theorem dX8_must_1 : decode cX8_must 1 = .ok (.getfield 97, 3) := by decide +kernel
theorem dX8_must_4 : decode cX8_must 4 = .ok (.ifCond .ne 20, 3) := by decide +kernel
theorem dX8_must_7 : decode cX8_must 7 = .ok (.aload_n 0, 1) := by decide +kernel
theorem dX8_must_8 : decode cX8_must 8 = .ok (.aload_n 1, 1) := by decide +kernel
theorem dX8_must_9 : decode cX8_must 9 = .ok (.invokevirtual 121, 3) := by decide +kernel
theorem dX8_must_12 : decode cX8_must 12 = .ok (.ifCond .ne 12, 3) := by decide +kernel
theorem dX8_must_15 : decode cX8_must 15 = .ok (.aload_n 0, 1) := by decide +kernel
theorem dX8_must_16 : decode cX8_must 16 = .ok (.iconst 1, 1) := by decide +kernel
theorem dX8_must_17 : decode cX8_must 17 = .ok (.aload_n 0, 1) := by decide +kernel
theorem dX8_must_18 : decode cX8_must 18 = .ok (.getfield 78, 3) := by decide +kernel
theorem dX8_must_21 : decode cX8_must 21 = .ok (.invokevirtual 124, 3) := by decide +kernel
theorem dX8_must_24 : decode cX8_must 24 = .ok (.return_, 1) := by decide +kernel
theorem dX8_isKnown_0 : decode cX8_isKnown 0 = .ok (.iconst 0, 1) := by decide +kernel
theorem dX8_isKnown_1 : decode cX8_isKnown 1 = .ok (.istore_n 1, 1) := by decide +kernel
theorem dX8_isKnown_2 : decode cX8_isKnown 2 = .ok (.iload_n 1, 1) := by decide +kernel
theorem dX8_isKnown_3 : decode cX8_isKnown 3 = .ok (.bipush 12, 2) := by decide +kernel
theorem dX8_isKnown_5 : decode cX8_isKnown 5 = .ok (.if_icmp .ge 98, 3) := by decide +kernel
theorem dX8_isKnown_8 : decode cX8_isKnown 8 = .ok (.aload_n 0, 1) := by decide +kernel
theorem dX8_isKnown_9 : decode cX8_isKnown 9 = .ok (.getfield 23, 3) := by decide +kernel
theorem dX8_isKnown_12 : decode cX8_isKnown 12 = .ok (.bipush 48, 2) := by decide +kernel
theorem dX8_isKnown_14 : decode cX8_isKnown 14 = .ok (.iload_n 1, 1) := by decide +kernel
theorem dX8_isKnown_15 : decode cX8_isKnown 15 = .ok (.iadd, 1) := by decide +kernel
theorem dX8_isKnown_16 : decode cX8_isKnown 16 = .ok (.iaload, 1) := by decide +kernel
theorem dX8_isKnown_17 : decode cX8_isKnown 17 = .ok (.ifCond .le 23, 3) := by decide +kernel
theorem dX8_isKnown_20 : decode cX8_isKnown 20 = .ok (.aload_n 0, 1) := by decide +kernel
theorem dX8_isKnown_21 : decode cX8_isKnown 21 = .ok (.getfield 23, 3) := by decide +kernel
theorem dX8_isKnown_24 : decode cX8_isKnown 24 = .ok (.bipush 48, 2) := by decide +kernel
theorem dX8_isKnown_26 : decode cX8_isKnown 26 = .ok (.iload_n 1, 1) := by decide +kernel
theorem dX8_isKnown_27 : decode cX8_isKnown 27 = .ok (.iadd, 1) := by decide +kernel
theorem dX8_isKnown_28 : decode cX8_isKnown 28 = .ok (.iaload, 1) := by decide +kernel
theorem dX8_isKnown_29 : decode cX8_isKnown 29 = .ok (.aload_n 0, 1) := by decide +kernel
theorem dX8_isKnown_30 : decode cX8_isKnown 30 = .ok (.getfield 81, 3) := by decide +kernel
theorem dX8_isKnown_33 : decode cX8_isKnown 33 = .ok (.if_icmp .ne 7, 3) := by decide +kernel
theorem dX8_isKnown_36 : decode cX8_isKnown 36 = .ok (.iconst 1, 1) := by decide +kernel
theorem dX8_isKnown_37 : decode cX8_isKnown 37 = .ok (.goto 4, 3) := by decide +kernel
theorem dX8_isKnown_40 : decode cX8_isKnown 40 = .ok (.iconst 0, 1) := by decide +kernel
theorem dX8_isKnown_41 : decode cX8_isKnown 41 = .ok (.istore_n 2, 1) := by decide +kernel
theorem dX8_isKnown_42 : decode cX8_isKnown 42 = .ok (.iconst 0, 1) := by decide +kernel
theorem dX8_isKnown_43 : decode cX8_isKnown 43 = .ok (.istore_n 3, 1) := by decide +kernel
theorem dX8_isKnown_44 : decode cX8_isKnown 44 = .ok (.iload_n 3, 1) := by decide +kernel
theorem dX8_isKnown_45 : decode cX8_isKnown 45 = .ok (.aload_n 0, 1) := by decide +kernel
theorem dX8_isKnown_46 : decode cX8_isKnown 46 = .ok (.getfield 81, 3) := by decide +kernel
theorem dX8_isKnown_49 : decode cX8_isKnown 49 = .ok (.if_icmp .ge 42, 3) := by decide +kernel
theorem dX8_isKnown_52 : decode cX8_isKnown 52 = .ok (.iload_n 2, 1) := by decide +kernel
theorem dX8_isKnown_53 : decode cX8_isKnown 53 = .ok (.ifCond .eq 38, 3) := by decide +kernel
theorem dX8_isKnown_56 : decode cX8_isKnown 56 = .ok (.aload_n 0, 1) := by decide +kernel
theorem dX8_isKnown_57 : decode cX8_isKnown 57 = .ok (.getfield 23, 3) := by decide +kernel
theorem dX8_isKnown_60 : decode cX8_isKnown 60 = .ok (.bipush 60, 2) := by decide +kernel
theorem dX8_isKnown_62 : decode cX8_isKnown 62 = .ok (.bipush 8, 2) := by decide +kernel
theorem dX8_isKnown_64 : decode cX8_isKnown 64 = .ok (.iload_n 1, 1) := by decide +kernel
theorem dX8_isKnown_65 : decode cX8_isKnown 65 = .ok (.imul, 1) := by decide +kernel
theorem dX8_isKnown_66 : decode cX8_isKnown 66 = .ok (.iadd, 1) := by decide +kernel
theorem dX8_isKnown_67 : decode cX8_isKnown 67 = .ok (.iload_n 3, 1) := by decide +kernel
theorem dX8_isKnown_68 : decode cX8_isKnown 68 = .ok (.iadd, 1) := by decide +kernel
theorem dX8_isKnown_69 : decode cX8_isKnown 69 = .ok (.iaload, 1) := by decide +kernel
theorem dX8_isKnown_70 : decode cX8_isKnown 70 = .ok (.aload_n 0, 1) := by decide +kernel
theorem dX8_isKnown_71 : decode cX8_isKnown 71 = .ok (.getfield 17, 3) := by decide +kernel
theorem dX8_isKnown_74 : decode cX8_isKnown 74 = .ok (.iload_n 3, 1) := by decide +kernel
theorem dX8_isKnown_75 : decode cX8_isKnown 75 = .ok (.iaload, 1) := by decide +kernel
theorem dX8_isKnown_76 : decode cX8_isKnown 76 = .ok (.if_icmp .ne 7, 3) := by decide +kernel
theorem dX8_isKnown_79 : decode cX8_isKnown 79 = .ok (.iconst 1, 1) := by decide +kernel
theorem dX8_isKnown_80 : decode cX8_isKnown 80 = .ok (.goto 4, 3) := by decide +kernel
theorem dX8_isKnown_83 : decode cX8_isKnown 83 = .ok (.iconst 0, 1) := by decide +kernel
theorem dX8_isKnown_84 : decode cX8_isKnown 84 = .ok (.istore_n 2, 1) := by decide +kernel
theorem dX8_isKnown_85 : decode cX8_isKnown 85 = .ok (.iinc 3 1, 3) := by decide +kernel
theorem dX8_isKnown_88 : decode cX8_isKnown 88 = .ok (.goto (-44), 3) := by decide +kernel
theorem dX8_isKnown_91 : decode cX8_isKnown 91 = .ok (.iload_n 2, 1) := by decide +kernel
theorem dX8_isKnown_92 : decode cX8_isKnown 92 = .ok (.ifCond .eq 5, 3) := by decide +kernel
theorem dX8_isKnown_95 : decode cX8_isKnown 95 = .ok (.iconst 1, 1) := by decide +kernel
theorem dX8_isKnown_96 : decode cX8_isKnown 96 = .ok (.ireturn, 1) := by decide +kernel
theorem dX8_isKnown_97 : decode cX8_isKnown 97 = .ok (.iinc 1 1, 3) := by decide +kernel
theorem dX8_isKnown_100 : decode cX8_isKnown 100 = .ok (.goto (-98), 3) := by decide +kernel
theorem dX8_isKnown_103 : decode cX8_isKnown 103 = .ok (.iconst 0, 1) := by decide +kernel
theorem dX8_isKnown_104 : decode cX8_isKnown 104 = .ok (.ireturn, 1) := by decide +kernel
theorem dX8_newName_0 : decode cX8_newName 0 = .ok (.aload_n 0, 1) := by decide +kernel
theorem dX8_newName_1 : decode cX8_newName 1 = .ok (.getfield 97, 3) := by decide +kernel
theorem dX8_newName_4 : decode cX8_newName 4 = .ok (.ifCond .eq 4, 3) := by decide +kernel
theorem dX8_newName_7 : decode cX8_newName 7 = .ok (.return_, 1) := by decide +kernel
theorem dX8_newName_8 : decode cX8_newName 8 = .ok (.aload_n 0, 1) := by decide +kernel
theorem dX8_newName_9 : decode cX8_newName 9 = .ok (.getfield 87, 3) := by decide +kernel
theorem dX8_newName_12 : decode cX8_newName 12 = .ok (.iconst 2, 1) := by decide +kernel
theorem dX8_newName_13 : decode cX8_newName 13 = .ok (.if_icmp .ne 48, 3) := by decide +kernel
theorem dX8_newName_16 : decode cX8_newName 16 = .ok (.aload_n 0, 1) := by decide +kernel
theorem dX8_newName_17 : decode cX8_newName 17 = .ok (.ldc 128, 2) := by decide +kernel
theorem dX8_newName_19 : decode cX8_newName 19 = .ok (.invokevirtual 114, 3) := by decide +kernel
theorem dX8_newName_22 : decode cX8_newName 22 = .ok (.ifCond .ne 39, 3) := by decide +kernel
theorem dX8_newName_25 : decode cX8_newName 25 = .ok (.aload_n 0, 1) := by decide +kernel
theorem dX8_newName_26 : decode cX8_newName 26 = .ok (.ldc 130, 2) := by decide +kernel
theorem dX8_newName_28 : decode cX8_newName 28 = .ok (.invokevirtual 114, 3) := by decide +kernel
theorem dX8_newName_31 : decode cX8_newName 31 = .ok (.ifCond .ne 30, 3) := by decide +kernel
theorem dX8_newName_34 : decode cX8_newName 34 = .ok (.aload_n 0, 1) := by decide +kernel
theorem dX8_newName_35 : decode cX8_newName 35 = .ok (.ldc 132, 2) := by decide +kernel
theorem dX8_newName_37 : decode cX8_newName 37 = .ok (.invokevirtual 114, 3) := by decide +kernel
theorem dX8_newName_40 : decode cX8_newName 40 = .ok (.ifCond .ne 21, 3) := by decide +kernel
theorem dX8_newName_43 : decode cX8_newName 43 = .ok (.aload_n 0, 1) := by decide +kernel
theorem dX8_newName_44 : decode cX8_newName 44 = .ok (.ldc 134, 2) := by decide +kernel
theorem dX8_newName_46 : decode cX8_newName 46 = .ok (.invokevirtual 114, 3) := by decide +kernel
theorem dX8_newName_49 : decode cX8_newName 49 = .ok (.ifCond .ne 12, 3) := by decide +kernel
theorem dX8_newName_52 : decode cX8_newName 52 = .ok (.aload_n 0, 1) := by decide +kernel
theorem dX8_newName_53 : decode cX8_newName 53 = .ok (.ldc 136, 2) := by decide +kernel
theorem dX8_newName_55 : decode cX8_newName 55 = .ok (.invokevirtual 114, 3) := by decide +kernel
theorem dX8_newName_58 : decode cX8_newName 58 = .ok (.ifCond .eq 12, 3) := by decide +kernel
theorem dX8_newName_61 : decode cX8_newName 61 = .ok (.aload_n 0, 1) := by decide +kernel
theorem dX8_newName_62 : decode cX8_newName 62 = .ok (.iconst 1, 1) := by decide +kernel
theorem dX8_newName_63 : decode cX8_newName 63 = .ok (.aload_n 0, 1) := by decide +kernel
theorem dX8_newName_64 : decode cX8_newName 64 = .ok (.getfield 78, 3) := by decide +kernel
theorem dX8_newName_67 : decode cX8_newName 67 = .ok (.invokevirtual 124, 3) := by decide +kernel
theorem dX8_newName_70 : decode cX8_newName 70 = .ok (.aload_n 0, 1) := by decide +kernel
theorem dX8_newName_71 : decode cX8_newName 71 = .ok (.getfield 97, 3) := by decide +kernel
theorem dX8_newName_74 : decode cX8_newName 74 = .ok (.ifCond .ne 19, 3) := by decide +kernel
theorem dX8_newName_77 : decode cX8_newName 77 = .ok (.aload_n 0, 1) := by decide +kernel
theorem dX8_newName_78 : decode cX8_newName 78 = .ok (.invokevirtual 138, 3) := by decide +kernel
theorem dX8_newName_81 : decode cX8_newName 81 = .ok (.ifCond .eq 12, 3) := by decide +kernel
theorem dX8_newName_84 : decode cX8_newName 84 = .ok (.aload_n 0, 1) := by decide +kernel
theorem dX8_newName_85 : decode cX8_newName 85 = .ok (.iconst 3, 1) := by decide +kernel
theorem dX8_newName_86 : decode cX8_newName 86 = .ok (.aload_n 0, 1) := by decide +kernel
theorem dX8_newName_87 : decode cX8_newName 87 = .ok (.getfield 78, 3) := by decide +kernel
theorem dX8_newName_90 : decode cX8_newName 90 = .ok (.invokevirtual 124, 3) := by decide +kernel
theorem dX8_newName_93 : decode cX8_newName 93 = .ok (.aload_n 0, 1) := by decide +kernel
theorem dX8_newName_94 : decode cX8_newName 94 = .ok (.getfield 97, 3) := by decide +kernel
theorem dX8_newName_97 : decode cX8_newName 97 = .ok (.ifCond .eq 4, 3) := by decide +kernel
theorem dX8_newName_100 : decode cX8_newName 100 = .ok (.return_, 1) := by decide +kernel
theorem dX8_newName_101 : decode cX8_newName 101 = .ok (.iconst 0, 1) := by decide +kernel
theorem dX8_newName_102 : decode cX8_newName 102 = .ok (.istore_n 2, 1) := by decide +kernel
theorem dX8_newName_103 : decode cX8_newName 103 = .ok (.iload_n 2, 1) := by decide +kernel
theorem dX8_newName_104 : decode cX8_newName 104 = .ok (.aload_n 0, 1) := by decide +kernel
theorem dX8_newName_105 : decode cX8_newName 105 = .ok (.getfield 81, 3) := by decide +kernel
theorem dX8_newName_108 : decode cX8_newName 108 = .ok (.if_icmp .ge 29, 3) := by decide +kernel
theorem dX8_newName_111 : decode cX8_newName 111 = .ok (.aload_n 0, 1) := by decide +kernel
theorem dX8_newName_112 : decode cX8_newName 112 = .ok (.getfield 23, 3) := by decide +kernel
theorem dX8_newName_115 : decode cX8_newName 115 = .ok (.bipush 60, 2) := by decide +kernel
theorem dX8_newName_117 : decode cX8_newName 117 = .ok (.bipush 8, 2) := by decide +kernel
theorem dX8_newName_119 : decode cX8_newName 119 = .ok (.iload_n 1, 1) := by decide +kernel
theorem dX8_newName_120 : decode cX8_newName 120 = .ok (.imul, 1) := by decide +kernel
theorem dX8_newName_121 : decode cX8_newName 121 = .ok (.iadd, 1) := by decide +kernel
theorem dX8_newName_122 : decode cX8_newName 122 = .ok (.iload_n 2, 1) := by decide +kernel
theorem dX8_newName_123 : decode cX8_newName 123 = .ok (.iadd, 1) := by decide +kernel
theorem dX8_newName_124 : decode cX8_newName 124 = .ok (.aload_n 0, 1) := by decide +kernel
theorem dX8_newName_125 : decode cX8_newName 125 = .ok (.getfield 17, 3) := by decide +kernel
theorem dX8_newName_128 : decode cX8_newName 128 = .ok (.iload_n 2, 1) := by decide +kernel
theorem dX8_newName_129 : decode cX8_newName 129 = .ok (.iaload, 1) := by decide +kernel
theorem dX8_newName_130 : decode cX8_newName 130 = .ok (.iastore, 1) := by decide +kernel
theorem dX8_newName_131 : decode cX8_newName 131 = .ok (.iinc 2 1, 3) := by decide +kernel
theorem dX8_newName_134 : decode cX8_newName 134 = .ok (.goto (-31), 3) := by decide +kernel
theorem dX8_newName_137 : decode cX8_newName 137 = .ok (.aload_n 0, 1) := by decide +kernel
theorem dX8_newName_138 : decode cX8_newName 138 = .ok (.getfield 23, 3) := by decide +kernel
theorem dX8_newName_141 : decode cX8_newName 141 = .ok (.bipush 48, 2) := by decide +kernel
theorem dX8_newName_143 : decode cX8_newName 143 = .ok (.iload_n 1, 1) := by decide +kernel
theorem dX8_newName_144 : decode cX8_newName 144 = .ok (.iadd, 1) := by decide +kernel
theorem dX8_newName_145 : decode cX8_newName 145 = .ok (.aload_n 0, 1) := by decide +kernel
theorem dX8_newName_146 : decode cX8_newName 146 = .ok (.getfield 81, 3) := by decide +kernel
theorem dX8_newName_149 : decode cX8_newName 149 = .ok (.iastore, 1) := by decide +kernel
theorem dX8_newName_150 : decode cX8_newName 150 = .ok (.aload_n 0, 1) := by decide +kernel
theorem dX8_newName_151 : decode cX8_newName 151 = .ok (.invokevirtual 118, 3) := by decide +kernel
theorem dX8_newName_154 : decode cX8_newName 154 = .ok (.return_, 1) := by decide +kernel
theorem dX8_pass_0 : decode cX8_pass 0 = .ok (.aload_n 0, 1) := by decide +kernel
theorem dX8_pass_1 : decode cX8_pass 1 = .ok (.getfield 97, 3) := by decide +kernel
theorem dX8_pass_4 : decode cX8_pass 4 = .ok (.ifCond .ne 7, 3) := by decide +kernel
theorem dX8_pass_7 : decode cX8_pass 7 = .ok (.aload_n 0, 1) := by decide +kernel
theorem dX8_pass_8 : decode cX8_pass 8 = .ok (.invokevirtual 118, 3) := by decide +kernel
theorem dX8_pass_11 : decode cX8_pass 11 = .ok (.return_, 1) := by decide +kernel
theorem dX8_numberHere_0 : decode cX8_numberHere 0 = .ok (.aload_n 0, 1) := by decide +kernel
theorem dX8_numberHere_1 : decode cX8_numberHere 1 = .ok (.getfield 97, 3) := by decide +kernel
theorem dX8_numberHere_4 : decode cX8_numberHere 4 = .ok (.ifCond .eq 5, 3) := by decide +kernel
theorem dX8_numberHere_7 : decode cX8_numberHere 7 = .ok (.iload_n 1, 1) := by decide +kernel
theorem dX8_numberHere_8 : decode cX8_numberHere 8 = .ok (.ireturn, 1) := by decide +kernel
theorem dX8_numberHere_9 : decode cX8_numberHere 9 = .ok (.aload_n 0, 1) := by decide +kernel
theorem dX8_numberHere_10 : decode cX8_numberHere 10 = .ok (.getfield 87, 3) := by decide +kernel
theorem dX8_numberHere_13 : decode cX8_numberHere 13 = .ok (.iconst 3, 1) := by decide +kernel
theorem dX8_numberHere_14 : decode cX8_numberHere 14 = .ok (.if_icmp .eq 15, 3) := by decide +kernel
theorem dX8_numberHere_17 : decode cX8_numberHere 17 = .ok (.aload_n 0, 1) := by decide +kernel
theorem dX8_numberHere_18 : decode cX8_numberHere 18 = .ok (.iconst 1, 1) := by decide +kernel
theorem dX8_numberHere_19 : decode cX8_numberHere 19 = .ok (.aload_n 0, 1) := by decide +kernel
theorem dX8_numberHere_20 : decode cX8_numberHere 20 = .ok (.getfield 78, 3) := by decide +kernel
theorem dX8_numberHere_23 : decode cX8_numberHere 23 = .ok (.invokevirtual 124, 3) := by decide +kernel
theorem dX8_numberHere_26 : decode cX8_numberHere 26 = .ok (.goto 24, 3) := by decide +kernel
theorem dX8_numberHere_29 : decode cX8_numberHere 29 = .ok (.aload_n 0, 1) := by decide +kernel
theorem dX8_numberHere_30 : decode cX8_numberHere 30 = .ok (.getfield 84, 3) := by decide +kernel
theorem dX8_numberHere_33 : decode cX8_numberHere 33 = .ok (.iload_n 1, 1) := by decide +kernel
theorem dX8_numberHere_34 : decode cX8_numberHere 34 = .ok (.iload_n 2, 1) := by decide +kernel
theorem dX8_numberHere_35 : decode cX8_numberHere 35 = .ok (.invokestatic 142, 3) := by decide +kernel
theorem dX8_numberHere_38 : decode cX8_numberHere 38 = .ok (.ifCond .ne 12, 3) := by decide +kernel
theorem dX8_numberHere_41 : decode cX8_numberHere 41 = .ok (.aload_n 0, 1) := by decide +kernel
theorem dX8_numberHere_42 : decode cX8_numberHere 42 = .ok (.iconst 4, 1) := by decide +kernel
theorem dX8_numberHere_43 : decode cX8_numberHere 43 = .ok (.aload_n 0, 1) := by decide +kernel
theorem dX8_numberHere_44 : decode cX8_numberHere 44 = .ok (.getfield 78, 3) := by decide +kernel
theorem dX8_numberHere_47 : decode cX8_numberHere 47 = .ok (.invokevirtual 124, 3) := by decide +kernel
theorem dX8_numberHere_50 : decode cX8_numberHere 50 = .ok (.aload_n 0, 1) := by decide +kernel
theorem dX8_numberHere_51 : decode cX8_numberHere 51 = .ok (.getfield 97, 3) := by decide +kernel
theorem dX8_numberHere_54 : decode cX8_numberHere 54 = .ok (.ifCond .eq 7, 3) := by decide +kernel
theorem dX8_numberHere_57 : decode cX8_numberHere 57 = .ok (.iload_n 1, 1) := by decide +kernel
theorem dX8_numberHere_58 : decode cX8_numberHere 58 = .ok (.goto 7, 3) := by decide +kernel
theorem dX8_numberHere_61 : decode cX8_numberHere 61 = .ok (.aload_n 0, 1) := by decide +kernel
theorem dX8_numberHere_62 : decode cX8_numberHere 62 = .ok (.getfield 84, 3) := by decide +kernel
theorem dX8_numberHere_65 : decode cX8_numberHere 65 = .ok (.ireturn, 1) := by decide +kernel
theorem dX8_number_0 : decode cX8_number 0 = .ok (.aload_n 0, 1) := by decide +kernel
theorem dX8_number_1 : decode cX8_number 1 = .ok (.iload_n 1, 1) := by decide +kernel
theorem dX8_number_2 : decode cX8_number 2 = .ok (.iload_n 2, 1) := by decide +kernel
theorem dX8_number_3 : decode cX8_number 3 = .ok (.invokevirtual 146, 3) := by decide +kernel
theorem dX8_number_6 : decode cX8_number 6 = .ok (.istore_n 3, 1) := by decide +kernel
theorem dX8_number_7 : decode cX8_number 7 = .ok (.aload_n 0, 1) := by decide +kernel
theorem dX8_number_8 : decode cX8_number 8 = .ok (.invokevirtual 150, 3) := by decide +kernel
theorem dX8_number_11 : decode cX8_number 11 = .ok (.iload_n 3, 1) := by decide +kernel
theorem dX8_number_12 : decode cX8_number 12 = .ok (.ireturn, 1) := by decide +kernel
theorem dX8_after_0 : decode cX8_after 0 = .ok (.aload_n 0, 1) := by decide +kernel
theorem dX8_after_1 : decode cX8_after 1 = .ok (.aload_n 1, 1) := by decide +kernel
theorem dX8_after_2 : decode cX8_after 2 = .ok (.invokevirtual 153, 3) := by decide +kernel
theorem dX8_after_5 : decode cX8_after 5 = .ok (.aload_n 0, 1) := by decide +kernel
theorem dX8_after_6 : decode cX8_after 6 = .ok (.iload_n 2, 1) := by decide +kernel
theorem dX8_after_7 : decode cX8_after 7 = .ok (.iload_n 3, 1) := by decide +kernel
theorem dX8_after_8 : decode cX8_after 8 = .ok (.invokevirtual 157, 3) := by decide +kernel
theorem dX8_after_11 : decode cX8_after 11 = .ok (.ireturn, 1) := by decide +kernel
theorem dX8_gallery_0 : decode cX8_gallery 0 = .ok (.aload_n 0, 1) := by decide +kernel
theorem dX8_gallery_1 : decode cX8_gallery 1 = .ok (.invokevirtual 160, 3) := by decide +kernel
theorem dX8_gallery_4 : decode cX8_gallery 4 = .ok (.iload_n 1, 1) := by decide +kernel
theorem dX8_gallery_5 : decode cX8_gallery 5 = .ok (.iconst 0, 1) := by decide +kernel
theorem dX8_gallery_6 : decode cX8_gallery 6 = .ok (.aload_n 0, 1) := by decide +kernel
theorem dX8_gallery_7 : decode cX8_gallery 7 = .ok (.getfield 65, 3) := by decide +kernel
theorem dX8_gallery_10 : decode cX8_gallery 10 = .ok (.invokestatic 142, 3) := by decide +kernel
theorem dX8_gallery_13 : decode cX8_gallery 13 = .ok (.ifCond .ne 9, 3) := by decide +kernel
theorem dX8_gallery_16 : decode cX8_gallery 16 = .ok (.aload_n 0, 1) := by decide +kernel
theorem dX8_gallery_17 : decode cX8_gallery 17 = .ok (.iconst 2, 1) := by decide +kernel
theorem dX8_gallery_18 : decode cX8_gallery 18 = .ok (.invokevirtual 163, 3) := by decide +kernel
theorem dX8_gallery_21 : decode cX8_gallery 21 = .ok (.ireturn, 1) := by decide +kernel
theorem dX8_gallery_22 : decode cX8_gallery 22 = .ok (.aload_n 0, 1) := by decide +kernel
theorem dX8_gallery_23 : decode cX8_gallery 23 = .ok (.iconst 0, 1) := by decide +kernel
theorem dX8_gallery_24 : decode cX8_gallery 24 = .ok (.putfield 65, 3) := by decide +kernel
theorem dX8_gallery_27 : decode cX8_gallery 27 = .ok (.aload_n 0, 1) := by decide +kernel
theorem dX8_gallery_28 : decode cX8_gallery 28 = .ok (.iconst 0, 1) := by decide +kernel
theorem dX8_gallery_29 : decode cX8_gallery 29 = .ok (.putfield 101, 3) := by decide +kernel
theorem dX8_gallery_32 : decode cX8_gallery 32 = .ok (.aload_n 0, 1) := by decide +kernel
theorem dX8_gallery_33 : decode cX8_gallery 33 = .ok (.iconst 0, 1) := by decide +kernel
theorem dX8_gallery_34 : decode cX8_gallery 34 = .ok (.putfield 97, 3) := by decide +kernel
theorem dX8_gallery_37 : decode cX8_gallery 37 = .ok (.iconst 0, 1) := by decide +kernel
theorem dX8_gallery_38 : decode cX8_gallery 38 = .ok (.istore_n 2, 1) := by decide +kernel
theorem dX8_gallery_39 : decode cX8_gallery 39 = .ok (.iload_n 2, 1) := by decide +kernel
theorem dX8_gallery_40 : decode cX8_gallery 40 = .ok (.sipush 156, 3) := by decide +kernel
theorem dX8_gallery_43 : decode cX8_gallery 43 = .ok (.if_icmp .ge 16, 3) := by decide +kernel
theorem dX8_gallery_46 : decode cX8_gallery 46 = .ok (.aload_n 0, 1) := by decide +kernel
theorem dX8_gallery_47 : decode cX8_gallery 47 = .ok (.getfield 23, 3) := by decide +kernel
theorem dX8_gallery_50 : decode cX8_gallery 50 = .ok (.iload_n 2, 1) := by decide +kernel
theorem dX8_gallery_51 : decode cX8_gallery 51 = .ok (.iconst 0, 1) := by decide +kernel
theorem dX8_gallery_52 : decode cX8_gallery 52 = .ok (.iastore, 1) := by decide +kernel
theorem dX8_gallery_53 : decode cX8_gallery 53 = .ok (.iinc 2 1, 3) := by decide +kernel
theorem dX8_gallery_56 : decode cX8_gallery 56 = .ok (.goto (-17), 3) := by decide +kernel
theorem dX8_gallery_59 : decode cX8_gallery 59 = .ok (.aload_n 0, 1) := by decide +kernel
theorem dX8_gallery_60 : decode cX8_gallery 60 = .ok (.iload_n 1, 1) := by decide +kernel
theorem dX8_gallery_61 : decode cX8_gallery 61 = .ok (.putfield 68, 3) := by decide +kernel
theorem dX8_gallery_64 : decode cX8_gallery 64 = .ok (.aload_n 0, 1) := by decide +kernel
theorem dX8_gallery_65 : decode cX8_gallery 65 = .ok (.iconst 0, 1) := by decide +kernel
theorem dX8_gallery_66 : decode cX8_gallery 66 = .ok (.putfield 71, 3) := by decide +kernel
theorem dX8_gallery_69 : decode cX8_gallery 69 = .ok (.aload_n 0, 1) := by decide +kernel
theorem dX8_gallery_70 : decode cX8_gallery 70 = .ok (.invokevirtual 118, 3) := by decide +kernel
theorem dX8_gallery_73 : decode cX8_gallery 73 = .ok (.aload_n 0, 1) := by decide +kernel
theorem dX8_gallery_74 : decode cX8_gallery 74 = .ok (.invokevirtual 166, 3) := by decide +kernel
theorem dX8_gallery_77 : decode cX8_gallery 77 = .ok (.aload_n 0, 1) := by decide +kernel
theorem dX8_gallery_78 : decode cX8_gallery 78 = .ok (.getfield 97, 3) := by decide +kernel
theorem dX8_gallery_81 : decode cX8_gallery 81 = .ok (.ifCond .ne 23, 3) := by decide +kernel
theorem dX8_gallery_84 : decode cX8_gallery 84 = .ok (.aload_n 0, 1) := by decide +kernel
theorem dX8_gallery_85 : decode cX8_gallery 85 = .ok (.getfield 87, 3) := by decide +kernel
theorem dX8_gallery_88 : decode cX8_gallery 88 = .ok (.bipush 59, 2) := by decide +kernel
theorem dX8_gallery_90 : decode cX8_gallery 90 = .ok (.if_icmp .ne 14, 3) := by decide +kernel
theorem dX8_gallery_93 : decode cX8_gallery 93 = .ok (.aload_n 0, 1) := by decide +kernel
theorem dX8_gallery_94 : decode cX8_gallery 94 = .ok (.invokevirtual 118, 3) := by decide +kernel
theorem dX8_gallery_97 : decode cX8_gallery 97 = .ok (.aload_n 0, 1) := by decide +kernel
theorem dX8_gallery_98 : decode cX8_gallery 98 = .ok (.invokevirtual 166, 3) := by decide +kernel
theorem dX8_gallery_101 : decode cX8_gallery 101 = .ok (.goto (-24), 3) := by decide +kernel
theorem dX8_gallery_104 : decode cX8_gallery 104 = .ok (.aload_n 0, 1) := by decide +kernel
theorem dX8_gallery_105 : decode cX8_gallery 105 = .ok (.getfield 97, 3) := by decide +kernel
theorem dX8_gallery_108 : decode cX8_gallery 108 = .ok (.ifCond .ne 19, 3) := by decide +kernel
theorem dX8_gallery_111 : decode cX8_gallery 111 = .ok (.aload_n 0, 1) := by decide +kernel
theorem dX8_gallery_112 : decode cX8_gallery 112 = .ok (.getfield 87, 3) := by decide +kernel
theorem dX8_gallery_115 : decode cX8_gallery 115 = .ok (.ifCond .eq 12, 3) := by decide +kernel
theorem dX8_gallery_118 : decode cX8_gallery 118 = .ok (.aload_n 0, 1) := by decide +kernel
theorem dX8_gallery_119 : decode cX8_gallery 119 = .ok (.iconst 1, 1) := by decide +kernel
theorem dX8_gallery_120 : decode cX8_gallery 120 = .ok (.aload_n 0, 1) := by decide +kernel
theorem dX8_gallery_121 : decode cX8_gallery 121 = .ok (.getfield 78, 3) := by decide +kernel
theorem dX8_gallery_124 : decode cX8_gallery 124 = .ok (.invokevirtual 124, 3) := by decide +kernel
theorem dX8_gallery_127 : decode cX8_gallery 127 = .ok (.aload_n 0, 1) := by decide +kernel
theorem dX8_gallery_128 : decode cX8_gallery 128 = .ok (.getfield 97, 3) := by decide +kernel
theorem dX8_gallery_131 : decode cX8_gallery 131 = .ok (.ifCond .ne 33, 3) := by decide +kernel
theorem dX8_gallery_134 : decode cX8_gallery 134 = .ok (.aload_n 0, 1) := by decide +kernel
theorem dX8_gallery_135 : decode cX8_gallery 135 = .ok (.getfield 23, 3) := by decide +kernel
theorem dX8_gallery_138 : decode cX8_gallery 138 = .ok (.bipush 11, 2) := by decide +kernel
theorem dX8_gallery_140 : decode cX8_gallery 140 = .ok (.iaload, 1) := by decide +kernel
theorem dX8_gallery_141 : decode cX8_gallery 141 = .ok (.ifCond .eq 13, 3) := by decide +kernel
theorem dX8_gallery_144 : decode cX8_gallery 144 = .ok (.aload_n 0, 1) := by decide +kernel
theorem dX8_gallery_145 : decode cX8_gallery 145 = .ok (.getfield 23, 3) := by decide +kernel
theorem dX8_gallery_148 : decode cX8_gallery 148 = .ok (.bipush 10, 2) := by decide +kernel
theorem dX8_gallery_150 : decode cX8_gallery 150 = .ok (.iaload, 1) := by decide +kernel
theorem dX8_gallery_151 : decode cX8_gallery 151 = .ok (.ifCond .ne 13, 3) := by decide +kernel
theorem dX8_gallery_154 : decode cX8_gallery 154 = .ok (.aload_n 0, 1) := by decide +kernel
theorem dX8_gallery_155 : decode cX8_gallery 155 = .ok (.bipush 6, 2) := by decide +kernel
theorem dX8_gallery_157 : decode cX8_gallery 157 = .ok (.aload_n 0, 1) := by decide +kernel
theorem dX8_gallery_158 : decode cX8_gallery 158 = .ok (.getfield 78, 3) := by decide +kernel
theorem dX8_gallery_161 : decode cX8_gallery 161 = .ok (.invokevirtual 124, 3) := by decide +kernel
theorem dX8_gallery_164 : decode cX8_gallery 164 = .ok (.aload_n 0, 1) := by decide +kernel
theorem dX8_gallery_165 : decode cX8_gallery 165 = .ok (.getfield 97, 3) := by decide +kernel
theorem dX8_gallery_168 : decode cX8_gallery 168 = .ok (.ifCond .eq 9, 3) := by decide +kernel
theorem dX8_gallery_171 : decode cX8_gallery 171 = .ok (.aload_n 0, 1) := by decide +kernel
theorem dX8_gallery_172 : decode cX8_gallery 172 = .ok (.iconst 4, 1) := by decide +kernel
theorem dX8_gallery_173 : decode cX8_gallery 173 = .ok (.invokevirtual 163, 3) := by decide +kernel
theorem dX8_gallery_176 : decode cX8_gallery 176 = .ok (.ireturn, 1) := by decide +kernel
theorem dX8_gallery_177 : decode cX8_gallery 177 = .ok (.aload_n 0, 1) := by decide +kernel
theorem dX8_gallery_178 : decode cX8_gallery 178 = .ok (.getfield 23, 3) := by decide +kernel
theorem dX8_gallery_181 : decode cX8_gallery 181 = .ok (.iconst 0, 1) := by decide +kernel
theorem dX8_gallery_182 : decode cX8_gallery 182 = .ok (.aload_n 0, 1) := by decide +kernel
theorem dX8_gallery_183 : decode cX8_gallery 183 = .ok (.getfield 20, 3) := by decide +kernel
theorem dX8_gallery_186 : decode cX8_gallery 186 = .ok (.iconst 0, 1) := by decide +kernel
theorem dX8_gallery_187 : decode cX8_gallery 187 = .ok (.sipush 156, 3) := by decide +kernel
theorem dX8_gallery_190 : decode cX8_gallery 190 = .ok (.invokestatic 169, 3) := by decide +kernel
theorem dX8_gallery_193 : decode cX8_gallery 193 = .ok (.iconst 0, 1) := by decide +kernel
theorem dX8_gallery_194 : decode cX8_gallery 194 = .ok (.istore_n 2, 1) := by decide +kernel
theorem dX8_gallery_195 : decode cX8_gallery 195 = .ok (.iload_n 2, 1) := by decide +kernel
theorem dX8_gallery_196 : decode cX8_gallery 196 = .ok (.bipush 23, 2) := by decide +kernel
theorem dX8_gallery_198 : decode cX8_gallery 198 = .ok (.if_icmp .ge 30, 3) := by decide +kernel
theorem dX8_gallery_201 : decode cX8_gallery 201 = .ok (.aload_n 0, 1) := by decide +kernel
theorem dX8_gallery_202 : decode cX8_gallery 202 = .ok (.getfield 26, 3) := by decide +kernel
theorem dX8_gallery_205 : decode cX8_gallery 205 = .ok (.iload_n 2, 1) := by decide +kernel
theorem dX8_gallery_206 : decode cX8_gallery 206 = .ok (.iload_n 2, 1) := by decide +kernel
theorem dX8_gallery_207 : decode cX8_gallery 207 = .ok (.aload_n 0, 1) := by decide +kernel
theorem dX8_gallery_208 : decode cX8_gallery 208 = .ok (.getfield 20, 3) := by decide +kernel
theorem dX8_gallery_211 : decode cX8_gallery 211 = .ok (.iconst 0, 1) := by decide +kernel
theorem dX8_gallery_212 : decode cX8_gallery 212 = .ok (.iaload, 1) := by decide +kernel
theorem dX8_gallery_213 : decode cX8_gallery 213 = .ok (.if_icmp .ge 7, 3) := by decide +kernel
theorem dX8_gallery_216 : decode cX8_gallery 216 = .ok (.iload_n 2, 1) := by decide +kernel
theorem dX8_gallery_217 : decode cX8_gallery 217 = .ok (.goto 4, 3) := by decide +kernel
theorem dX8_gallery_220 : decode cX8_gallery 220 = .ok (.iconst 0, 1) := by decide +kernel
theorem dX8_gallery_221 : decode cX8_gallery 221 = .ok (.iastore, 1) := by decide +kernel
theorem dX8_gallery_222 : decode cX8_gallery 222 = .ok (.iinc 2 1, 3) := by decide +kernel
theorem dX8_gallery_225 : decode cX8_gallery 225 = .ok (.goto (-30), 3) := by decide +kernel
theorem dX8_gallery_228 : decode cX8_gallery 228 = .ok (.aload_n 0, 1) := by decide +kernel
theorem dX8_gallery_229 : decode cX8_gallery 229 = .ok (.getfield 20, 3) := by decide +kernel
theorem dX8_gallery_232 : decode cX8_gallery 232 = .ok (.iconst 0, 1) := by decide +kernel
theorem dX8_gallery_233 : decode cX8_gallery 233 = .ok (.iaload, 1) := by decide +kernel
theorem dX8_gallery_234 : decode cX8_gallery 234 = .ok (.istore_n 2, 1) := by decide +kernel
theorem dX8_gallery_235 : decode cX8_gallery 235 = .ok (.iload_n 2, 1) := by decide +kernel
theorem dX8_gallery_236 : decode cX8_gallery 236 = .ok (.bipush 23, 2) := by decide +kernel
theorem dX8_gallery_238 : decode cX8_gallery 238 = .ok (.if_icmp .ge 16, 3) := by decide +kernel
theorem dX8_gallery_241 : decode cX8_gallery 241 = .ok (.aload_n 0, 1) := by decide +kernel
theorem dX8_gallery_242 : decode cX8_gallery 242 = .ok (.getfield 26, 3) := by decide +kernel
theorem dX8_gallery_245 : decode cX8_gallery 245 = .ok (.iload_n 2, 1) := by decide +kernel
theorem dX8_gallery_246 : decode cX8_gallery 246 = .ok (.iconst 0, 1) := by decide +kernel
theorem dX8_gallery_247 : decode cX8_gallery 247 = .ok (.iastore, 1) := by decide +kernel
theorem dX8_gallery_248 : decode cX8_gallery 248 = .ok (.iinc 2 1, 3) := by decide +kernel
theorem dX8_gallery_251 : decode cX8_gallery 251 = .ok (.goto (-16), 3) := by decide +kernel
theorem dX8_gallery_254 : decode cX8_gallery 254 = .ok (.aload_n 0, 1) := by decide +kernel
theorem dX8_gallery_255 : decode cX8_gallery 255 = .ok (.getfield 26, 3) := by decide +kernel
theorem dX8_gallery_258 : decode cX8_gallery 258 = .ok (.bipush 19, 2) := by decide +kernel
theorem dX8_gallery_260 : decode cX8_gallery 260 = .ok (.aload_n 0, 1) := by decide +kernel
theorem dX8_gallery_261 : decode cX8_gallery 261 = .ok (.getfield 20, 3) := by decide +kernel
theorem dX8_gallery_264 : decode cX8_gallery 264 = .ok (.bipush 9, 2) := by decide +kernel
theorem dX8_gallery_266 : decode cX8_gallery 266 = .ok (.iaload, 1) := by decide +kernel
theorem dX8_gallery_267 : decode cX8_gallery 267 = .ok (.iastore, 1) := by decide +kernel
theorem dX8_gallery_268 : decode cX8_gallery 268 = .ok (.aload_n 0, 1) := by decide +kernel
theorem dX8_gallery_269 : decode cX8_gallery 269 = .ok (.iconst 1, 1) := by decide +kernel
theorem dX8_gallery_270 : decode cX8_gallery 270 = .ok (.putfield 173, 3) := by decide +kernel
theorem dX8_gallery_273 : decode cX8_gallery 273 = .ok (.aload_n 0, 1) := by decide +kernel
theorem dX8_gallery_274 : decode cX8_gallery 274 = .ok (.iconst 0, 1) := by decide +kernel
theorem dX8_gallery_275 : decode cX8_gallery 275 = .ok (.putfield 176, 3) := by decide +kernel
theorem dX8_gallery_278 : decode cX8_gallery 278 = .ok (.aload_n 0, 1) := by decide +kernel
theorem dX8_gallery_279 : decode cX8_gallery 279 = .ok (.iconst 0, 1) := by decide +kernel
theorem dX8_gallery_280 : decode cX8_gallery 280 = .ok (.putfield 179, 3) := by decide +kernel
theorem dX8_gallery_283 : decode cX8_gallery 283 = .ok (.aload_n 0, 1) := by decide +kernel
theorem dX8_gallery_284 : decode cX8_gallery 284 = .ok (.getfield 20, 3) := by decide +kernel
theorem dX8_gallery_287 : decode cX8_gallery 287 = .ok (.iconst 0, 1) := by decide +kernel
theorem dX8_gallery_288 : decode cX8_gallery 288 = .ok (.iaload, 1) := by decide +kernel
theorem dX8_gallery_289 : decode cX8_gallery 289 = .ok (.ireturn, 1) := by decide +kernel
theorem dX8_begins_0 : decode cX8_begins 0 = .ok (.aload_n 0, 1) := by decide +kernel
theorem dX8_begins_1 : decode cX8_begins 1 = .ok (.aload_n 1, 1) := by decide +kernel
theorem dX8_begins_2 : decode cX8_begins 2 = .ok (.invokevirtual 114, 3) := by decide +kernel
theorem dX8_begins_5 : decode cX8_begins 5 = .ok (.ifCond .ne 5, 3) := by decide +kernel
theorem dX8_begins_8 : decode cX8_begins 8 = .ok (.iconst 0, 1) := by decide +kernel
theorem dX8_begins_9 : decode cX8_begins 9 = .ok (.ireturn, 1) := by decide +kernel
theorem dX8_begins_10 : decode cX8_begins 10 = .ok (.iload_n 2, 1) := by decide +kernel
theorem dX8_begins_11 : decode cX8_begins 11 = .ok (.ifCond .ne 12, 3) := by decide +kernel
theorem dX8_begins_14 : decode cX8_begins 14 = .ok (.aload_n 0, 1) := by decide +kernel
theorem dX8_begins_15 : decode cX8_begins 15 = .ok (.iconst 5, 1) := by decide +kernel
theorem dX8_begins_16 : decode cX8_begins 16 = .ok (.aload_n 0, 1) := by decide +kernel
theorem dX8_begins_17 : decode cX8_begins 17 = .ok (.getfield 78, 3) := by decide +kernel
