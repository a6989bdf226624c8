theorem dX8_init_0 : decode cX8_init 0 = .ok (.aload_n 0, 1) := by decide +kernel
theorem dX8_init_1 : decode cX8_init 1 = .ok (.invokespecial 1, 3) := by decide +kernel
theorem dX8_init_4 : decode cX8_init 4 = .ok (.aload_n 0, 1) := by decide +kernel
theorem dX8_init_5 : decode cX8_init 5 = .ok (.sipush 900, 3) := by decide +kernel
theorem dX8_init_8 : decode cX8_init 8 = .ok (.newarray .int, 2) := by decide +kernel
theorem dX8_init_10 : decode cX8_init 10 = .ok (.putfield 7, 3) := by decide +kernel
theorem dX8_init_13 : decode cX8_init 13 = .ok (.aload_n 0, 1) := by decide +kernel
theorem dX8_init_14 : decode cX8_init 14 = .ok (.iconst (-1), 1) := by decide +kernel
theorem dX8_init_15 : decode cX8_init 15 = .ok (.putfield 13, 3) := by decide +kernel
theorem dX8_init_18 : decode cX8_init 18 = .ok (.aload_n 0, 1) := by decide +kernel
theorem dX8_init_19 : decode cX8_init 19 = .ok (.bipush 8, 2) := by decide +kernel
theorem dX8_init_21 : decode cX8_init 21 = .ok (.newarray .int, 2) := by decide +kernel
theorem dX8_init_23 : decode cX8_init 23 = .ok (.putfield 17, 3) := by decide +kernel
theorem dX8_init_26 : decode cX8_init 26 = .ok (.aload_n 0, 1) := by decide +kernel
theorem dX8_init_27 : decode cX8_init 27 = .ok (.sipush 156, 3) := by decide +kernel
theorem dX8_init_30 : decode cX8_init 30 = .ok (.newarray .int, 2) := by decide +kernel
theorem dX8_init_32 : decode cX8_init 32 = .ok (.putfield 20, 3) := by decide +kernel
theorem dX8_init_35 : decode cX8_init 35 = .ok (.aload_n 0, 1) := by decide +kernel
theorem dX8_init_36 : decode cX8_init 36 = .ok (.sipush 156, 3) := by decide +kernel
theorem dX8_init_39 : decode cX8_init 39 = .ok (.newarray .int, 2) := by decide +kernel
theorem dX8_init_41 : decode cX8_init 41 = .ok (.putfield 23, 3) := by decide +kernel
theorem dX8_init_44 : decode cX8_init 44 = .ok (.aload_n 0, 1) := by decide +kernel
theorem dX8_init_45 : decode cX8_init 45 = .ok (.bipush 23, 2) := by decide +kernel
theorem dX8_init_47 : decode cX8_init 47 = .ok (.newarray .int, 2) := by decide +kernel
theorem dX8_init_49 : decode cX8_init 49 = .ok (.putfield 26, 3) := by decide +kernel
theorem dX8_init_52 : decode cX8_init 52 = .ok (.aload_n 0, 1) := by decide +kernel
theorem dX8_init_53 : decode cX8_init 53 = .ok (.bipush 23, 2) := by decide +kernel
theorem dX8_init_55 : decode cX8_init 55 = .ok (.newarray .int, 2) := by decide +kernel
theorem dX8_init_57 : decode cX8_init 57 = .ok (.putfield 29, 3) := by decide +kernel
theorem dX8_init_60 : decode cX8_init 60 = .ok (.aload_n 0, 1) := by decide +kernel
theorem dX8_init_61 : decode cX8_init 61 = .ok (.sipush 368, 3) := by decide +kernel
theorem dX8_init_64 : decode cX8_init 64 = .ok (.newarray .int, 2) := by decide +kernel
theorem dX8_init_66 : decode cX8_init 66 = .ok (.putfield 32, 3) := by decide +kernel
theorem dX8_init_69 : decode cX8_init 69 = .ok (.aload_n 0, 1) := by decide +kernel
theorem dX8_init_70 : decode cX8_init 70 = .ok (.bipush 69, 2) := by decide +kernel
theorem dX8_init_72 : decode cX8_init 72 = .ok (.newarray .int, 2) := by decide +kernel
theorem dX8_init_74 : decode cX8_init 74 = .ok (.putfield 35, 3) := by decide +kernel
theorem dX8_init_77 : decode cX8_init 77 = .ok (.aload_n 0, 1) := by decide +kernel
theorem dX8_init_78 : decode cX8_init 78 = .ok (.iconst 3, 1) := by decide +kernel
theorem dX8_init_79 : decode cX8_init 79 = .ok (.newarray .int, 2) := by decide +kernel
theorem dX8_init_81 : decode cX8_init 81 = .ok (.putfield 38, 3) := by decide +kernel
theorem dX8_init_84 : decode cX8_init 84 = .ok (.aload_n 0, 1) := by decide +kernel
theorem dX8_init_85 : decode cX8_init 85 = .ok (.iconst 3, 1) := by decide +kernel
theorem dX8_init_86 : decode cX8_init 86 = .ok (.newarray .int, 2) := by decide +kernel
theorem dX8_init_88 : decode cX8_init 88 = .ok (.putfield 41, 3) := by decide +kernel
theorem dX8_init_91 : decode cX8_init 91 = .ok (.aload_n 0, 1) := by decide +kernel
theorem dX8_init_92 : decode cX8_init 92 = .ok (.bipush 10, 2) := by decide +kernel
theorem dX8_init_94 : decode cX8_init 94 = .ok (.newarray .int, 2) := by decide +kernel
theorem dX8_init_96 : decode cX8_init 96 = .ok (.putfield 44, 3) := by decide +kernel
theorem dX8_init_99 : decode cX8_init 99 = .ok (.aload_n 0, 1) := by decide +kernel
theorem dX8_init_100 : decode cX8_init 100 = .ok (.bipush 61, 2) := by decide +kernel
theorem dX8_init_102 : decode cX8_init 102 = .ok (.newarray .int, 2) := by decide +kernel
theorem dX8_init_104 : decode cX8_init 104 = .ok (.putfield 47, 3) := by decide +kernel
theorem dX8_init_107 : decode cX8_init 107 = .ok (.aload_n 0, 1) := by decide +kernel
theorem dX8_init_108 : decode cX8_init 108 = .ok (.sipush 620, 3) := by decide +kernel
theorem dX8_init_111 : decode cX8_init 111 = .ok (.newarray .int, 2) := by decide +kernel
theorem dX8_init_113 : decode cX8_init 113 = .ok (.putfield 50, 3) := by decide +kernel
theorem dX8_init_116 : decode cX8_init 116 = .ok (.aload_n 0, 1) := by decide +kernel
theorem dX8_init_117 : decode cX8_init 117 = .ok (.bipush 9, 2) := by decide +kernel
theorem dX8_init_119 : decode cX8_init 119 = .ok (.newarray .int, 2) := by decide +kernel
theorem dX8_init_121 : decode cX8_init 121 = .ok (.putfield 53, 3) := by decide +kernel
theorem dX8_init_124 : decode cX8_init 124 = .ok (.aload_n 0, 1) := by decide +kernel
theorem dX8_init_125 : decode cX8_init 125 = .ok (.bipush 9, 2) := by decide +kernel
theorem dX8_init_127 : decode cX8_init 127 = .ok (.newarray .int, 2) := by decide +kernel
theorem dX8_init_129 : decode cX8_init 129 = .ok (.putfield 56, 3) := by decide +kernel
theorem dX8_init_132 : decode cX8_init 132 = .ok (.return_, 1) := by decide +kernel
theorem dX8_thrown_0 : decode cX8_thrown 0 = .ok (.aload_n 0, 1) := by decide +kernel
theorem dX8_thrown_1 : decode cX8_thrown 1 = .ok (.getfield 59, 3) := by decide +kernel
theorem dX8_thrown_4 : decode cX8_thrown 4 = .ok (.ireturn, 1) := by decide +kernel
theorem dX8_good_0 : decode cX8_good 0 = .ok (.aload_n 0, 1) := by decide +kernel
theorem dX8_good_1 : decode cX8_good 1 = .ok (.iconst 0, 1) := by decide +kernel
theorem dX8_good_2 : decode cX8_good 2 = .ok (.putfield 59, 3) := by decide +kernel
theorem dX8_good_5 : decode cX8_good 5 = .ok (.aload_n 0, 1) := by decide +kernel
theorem dX8_good_6 : decode cX8_good 6 = .ok (.iconst 0, 1) := by decide +kernel
theorem dX8_good_7 : decode cX8_good 7 = .ok (.putfield 62, 3) := by decide +kernel
theorem dX8_good_10 : decode cX8_good 10 = .ok (.return_, 1) := by decide +kernel
theorem dX8_no_0 : decode cX8_no 0 = .ok (.aload_n 0, 1) := by decide +kernel
theorem dX8_no_1 : decode cX8_no 1 = .ok (.iload_n 1, 1) := by decide +kernel
theorem dX8_no_2 : decode cX8_no 2 = .ok (.putfield 62, 3) := by decide +kernel
theorem dX8_no_5 : decode cX8_no 5 = .ok (.iconst (-1), 1) := by decide +kernel
theorem dX8_no_6 : decode cX8_no 6 = .ok (.ireturn, 1) := by decide +kernel
theorem dX8_isNot_0 : decode cX8_isNot 0 = .ok (.aload_n 0, 1) := by decide +kernel
theorem dX8_isNot_1 : decode cX8_isNot 1 = .ok (.iload_n 1, 1) := by decide +kernel
theorem dX8_isNot_2 : decode cX8_isNot 2 = .ok (.putfield 62, 3) := by decide +kernel
theorem dX8_isNot_5 : decode cX8_isNot 5 = .ok (.iconst 0, 1) := by decide +kernel
theorem dX8_isNot_6 : decode cX8_isNot 6 = .ok (.ireturn, 1) := by decide +kernel
theorem dX8_in_0 : decode cX8_in 0 = .ok (.iload_n 0, 1) := by decide +kernel
theorem dX8_in_1 : decode cX8_in 1 = .ok (.iload_n 1, 1) := by decide +kernel
theorem dX8_in_2 : decode cX8_in 2 = .ok (.if_icmp .lt 12, 3) := by decide +kernel
theorem dX8_in_5 : decode cX8_in 5 = .ok (.iload_n 0, 1) := by decide +kernel
theorem dX8_in_6 : decode cX8_in 6 = .ok (.iload_n 2, 1) := by decide +kernel
theorem dX8_in_7 : decode cX8_in 7 = .ok (.if_icmp .gt 7, 3) := by decide +kernel
theorem dX8_in_10 : decode cX8_in 10 = .ok (.iconst 1, 1) := by decide +kernel
theorem dX8_in_11 : decode cX8_in 11 = .ok (.goto 4, 3) := by decide +kernel
theorem dX8_in_14 : decode cX8_in 14 = .ok (.iconst 0, 1) := by decide +kernel
theorem dX8_in_15 : decode cX8_in 15 = .ok (.ireturn, 1) := by decide +kernel
theorem dX8_feed_0 : decode cX8_feed 0 = .ok (.aload_n 0, 1) := by decide +kernel
theorem dX8_feed_1 : decode cX8_feed 1 = .ok (.iconst 0, 1) := by decide +kernel
theorem dX8_feed_2 : decode cX8_feed 2 = .ok (.putfield 59, 3) := by decide +kernel
theorem dX8_feed_5 : decode cX8_feed 5 = .ok (.aload_n 0, 1) := by decide +kernel
theorem dX8_feed_6 : decode cX8_feed 6 = .ok (.getfield 65, 3) := by decide +kernel
theorem dX8_feed_9 : decode cX8_feed 9 = .ok (.bipush 20, 2) := by decide +kernel
theorem dX8_feed_11 : decode cX8_feed 11 = .ok (.iadd, 1) := by decide +kernel
theorem dX8_feed_12 : decode cX8_feed 12 = .ok (.sipush 900, 3) := by decide +kernel
theorem dX8_feed_15 : decode cX8_feed 15 = .ok (.if_icmp .le 5, 3) := by decide +kernel
theorem dX8_feed_20 : decode cX8_feed 20 = .ok (.iconst 0, 1) := by decide +kernel
theorem dX8_feed_21 : decode cX8_feed 21 = .ok (.istore 6, 2) := by decide +kernel
theorem dX8_feed_23 : decode cX8_feed 23 = .ok (.iload 6, 2) := by decide +kernel
theorem dX8_feed_25 : decode cX8_feed 25 = .ok (.bipush 20, 2) := by decide +kernel
theorem dX8_feed_27 : decode cX8_feed 27 = .ok (.if_icmp .ge 93, 3) := by decide +kernel
theorem dX8_feed_30 : decode cX8_feed 30 = .ok (.iload 6, 2) := by decide +kernel
theorem dX8_feed_32 : decode cX8_feed 32 = .ok (.iconst 4, 1) := by decide +kernel
theorem dX8_feed_33 : decode cX8_feed 33 = .ok (.if_icmp .ge 7, 3) := by decide +kernel
theorem dX8_feed_36 : decode cX8_feed 36 = .ok (.iload_n 1, 1) := by decide +kernel
theorem dX8_feed_37 : decode cX8_feed 37 = .ok (.goto 39, 3) := by decide +kernel
theorem dX8_feed_40 : decode cX8_feed 40 = .ok (.iload 6, 2) := by decide +kernel
theorem dX8_feed_42 : decode cX8_feed 42 = .ok (.bipush 8, 2) := by decide +kernel
theorem dX8_feed_44 : decode cX8_feed 44 = .ok (.if_icmp .ge 7, 3) := by decide +kernel
theorem dX8_feed_47 : decode cX8_feed 47 = .ok (.iload_n 2, 1) := by decide +kernel
theorem dX8_feed_48 : decode cX8_feed 48 = .ok (.goto 28, 3) := by decide +kernel
theorem dX8_feed_51 : decode cX8_feed 51 = .ok (.iload 6, 2) := by decide +kernel
theorem dX8_feed_53 : decode cX8_feed 53 = .ok (.bipush 12, 2) := by decide +kernel
theorem dX8_feed_55 : decode cX8_feed 55 = .ok (.if_icmp .ge 7, 3) := by decide +kernel
theorem dX8_feed_58 : decode cX8_feed 58 = .ok (.iload_n 3, 1) := by decide +kernel
theorem dX8_feed_59 : decode cX8_feed 59 = .ok (.goto 17, 3) := by decide +kernel
theorem dX8_feed_62 : decode cX8_feed 62 = .ok (.iload 6, 2) := by decide +kernel
theorem dX8_feed_64 : decode cX8_feed 64 = .ok (.bipush 16, 2) := by decide +kernel
theorem dX8_feed_66 : decode cX8_feed 66 = .ok (.if_icmp .ge 8, 3) := by decide +kernel
theorem dX8_feed_69 : decode cX8_feed 69 = .ok (.iload 4, 2) := by decide +kernel
theorem dX8_feed_71 : decode cX8_feed 71 = .ok (.goto 5, 3) := by decide +kernel
theorem dX8_feed_74 : decode cX8_feed 74 = .ok (.iload 5, 2) := by decide +kernel
theorem dX8_feed_76 : decode cX8_feed 76 = .ok (.istore 7, 2) := by decide +kernel
theorem dX8_feed_78 : decode cX8_feed 78 = .ok (.aload_n 0, 1) := by decide +kernel
theorem dX8_feed_79 : decode cX8_feed 79 = .ok (.getfield 7, 3) := by decide +kernel
theorem dX8_feed_82 : decode cX8_feed 82 = .ok (.aload_n 0, 1) := by decide +kernel
theorem dX8_feed_83 : decode cX8_feed 83 = .ok (.getfield 65, 3) := by decide +kernel
theorem dX8_feed_86 : decode cX8_feed 86 = .ok (.iload 7, 2) := by decide +kernel
theorem dX8_feed_88 : decode cX8_feed 88 = .ok (.bipush 24, 2) := by decide +kernel
theorem dX8_feed_90 : decode cX8_feed 90 = .ok (.bipush 8, 2) := by decide +kernel
theorem dX8_feed_92 : decode cX8_feed 92 = .ok (.iload 6, 2) := by decide +kernel
theorem dX8_feed_94 : decode cX8_feed 94 = .ok (.iconst 4, 1) := by decide +kernel
theorem dX8_feed_95 : decode cX8_feed 95 = .ok (.irem, 1) := by decide +kernel
theorem dX8_feed_96 : decode cX8_feed 96 = .ok (.imul, 1) := by decide +kernel
theorem dX8_feed_97 : decode cX8_feed 97 = .ok (.isub, 1) := by decide +kernel
theorem dX8_feed_98 : decode cX8_feed 98 = .ok (.ishr, 1) := by decide +kernel
theorem dX8_feed_99 : decode cX8_feed 99 = .ok (.sipush 255, 3) := by decide +kernel
theorem dX8_feed_102 : decode cX8_feed 102 = .ok (.iand, 1) := by decide +kernel
theorem dX8_feed_103 : decode cX8_feed 103 = .ok (.iastore, 1) := by decide +kernel
theorem dX8_feed_104 : decode cX8_feed 104 = .ok (.aload_n 0, 1) := by decide +kernel
theorem dX8_feed_105 : decode cX8_feed 105 = .ok (.dup, 1) := by decide +kernel
theorem dX8_feed_106 : decode cX8_feed 106 = .ok (.getfield 65, 3) := by decide +kernel
theorem dX8_feed_109 : decode cX8_feed 109 = .ok (.iconst 1, 1) := by decide +kernel
theorem dX8_feed_110 : decode cX8_feed 110 = .ok (.iadd, 1) := by decide +kernel
theorem dX8_feed_111 : decode cX8_feed 111 = .ok (.putfield 65, 3) := by decide +kernel
theorem dX8_feed_114 : decode cX8_feed 114 = .ok (.iinc 6 1, 3) := by decide +kernel
theorem dX8_feed_117 : decode cX8_feed 117 = .ok (.goto (-94), 3) := by decide +kernel
theorem dX8_feed_120 : decode cX8_feed 120 = .ok (.aload_n 0, 1) := by decide +kernel
theorem dX8_feed_121 : decode cX8_feed 121 = .ok (.getfield 65, 3) := by decide +kernel
theorem dX8_feed_124 : decode cX8_feed 124 = .ok (.ireturn, 1) := by decide +kernel
theorem dX8_see_0 : decode cX8_see 0 = .ok (.iload_n 1, 1) := by decide +kernel
theorem dX8_see_1 : decode cX8_see 1 = .ok (.aload_n 0, 1) := by decide +kernel
theorem dX8_see_2 : decode cX8_see 2 = .ok (.getfield 68, 3) := by decide +kernel
theorem dX8_see_5 : decode cX8_see 5 = .ok (.if_icmp .ge 12, 3) := by decide +kernel
theorem dX8_see_17 : decode cX8_see 17 = .ok (.iconst (-1), 1) := by decide +kernel
theorem dX8_see_18 : decode cX8_see 18 = .ok (.ireturn, 1) := by decide +kernel
theorem dX8_next_0 : decode cX8_next 0 = .ok (.aload_n 0, 1) := by decide +kernel
theorem dX8_next_1 : decode cX8_next 1 = .ok (.getfield 71, 3) := by decide +kernel
theorem dX8_next_4 : decode cX8_next 4 = .ok (.istore_n 1, 1) := by decide +kernel
theorem dX8_next_5 : decode cX8_next 5 = .ok (.aload_n 0, 1) := by decide +kernel
theorem dX8_next_6 : decode cX8_next 6 = .ok (.iload_n 1, 1) := by decide +kernel
theorem dX8_next_7 : decode cX8_next 7 = .ok (.invokevirtual 74, 3) := by decide +kernel
theorem dX8_next_10 : decode cX8_next 10 = .ok (.bipush 32, 2) := by decide +kernel
theorem dX8_next_12 : decode cX8_next 12 = .ok (.if_icmp .ne 9, 3) := by decide +kernel
theorem dX8_next_21 : decode cX8_next 21 = .ok (.aload_n 0, 1) := by decide +kernel
theorem dX8_next_22 : decode cX8_next 22 = .ok (.iload_n 1, 1) := by decide +kernel
theorem dX8_next_23 : decode cX8_next 23 = .ok (.putfield 78, 3) := by decide +kernel
theorem dX8_next_26 : decode cX8_next 26 = .ok (.aload_n 0, 1) := by decide +kernel
theorem dX8_next_27 : decode cX8_next 27 = .ok (.iload_n 1, 1) := by decide +kernel
theorem dX8_next_28 : decode cX8_next 28 = .ok (.invokevirtual 74, 3) := by decide +kernel
theorem dX8_next_31 : decode cX8_next 31 = .ok (.istore_n 2, 1) := by decide +kernel
theorem dX8_next_32 : decode cX8_next 32 = .ok (.aload_n 0, 1) := by decide +kernel
theorem dX8_next_33 : decode cX8_next 33 = .ok (.iconst 0, 1) := by decide +kernel
theorem dX8_next_34 : decode cX8_next 34 = .ok (.putfield 81, 3) := by decide +kernel
theorem dX8_next_37 : decode cX8_next 37 = .ok (.aload_n 0, 1) := by decide +kernel
theorem dX8_next_38 : decode cX8_next 38 = .ok (.iconst 0, 1) := by decide +kernel
theorem dX8_next_39 : decode cX8_next 39 = .ok (.putfield 84, 3) := by decide +kernel
theorem dX8_next_42 : decode cX8_next 42 = .ok (.iload_n 2, 1) := by decide +kernel
theorem dX8_next_43 : decode cX8_next 43 = .ok (.iconst (-1), 1) := by decide +kernel
theorem dX8_next_44 : decode cX8_next 44 = .ok (.if_icmp .ne 16, 3) := by decide +kernel
theorem dX8_next_47 : decode cX8_next 47 = .ok (.aload_n 0, 1) := by decide +kernel
theorem dX8_next_48 : decode cX8_next 48 = .ok (.iconst 0, 1) := by decide +kernel
theorem dX8_next_49 : decode cX8_next 49 = .ok (.putfield 87, 3) := by decide +kernel
theorem dX8_next_52 : decode cX8_next 52 = .ok (.aload_n 0, 1) := by decide +kernel
theorem dX8_next_53 : decode cX8_next 53 = .ok (.iload_n 1, 1) := by decide +kernel
theorem dX8_next_54 : decode cX8_next 54 = .ok (.putfield 71, 3) := by decide +kernel
theorem dX8_next_57 : decode cX8_next 57 = .ok (.goto 184, 3) := by decide +kernel
theorem dX8_next_241 : decode cX8_next 241 = .ok (.return_, 1) := by decide +kernel
theorem dX8_wrong_0 : decode cX8_wrong 0 = .ok (.aload_n 0, 1) := by decide +kernel
theorem dX8_wrong_1 : decode cX8_wrong 1 = .ok (.getfield 97, 3) := by decide +kernel
theorem dX8_wrong_4 : decode cX8_wrong 4 = .ok (.ifCond .eq 4, 3) := by decide +kernel
theorem dX8_wrong_8 : decode cX8_wrong 8 = .ok (.aload_n 0, 1) := by decide +kernel
theorem dX8_wrong_9 : decode cX8_wrong 9 = .ok (.iconst 1, 1) := by decide +kernel
theorem dX8_wrong_10 : decode cX8_wrong 10 = .ok (.putfield 97, 3) := by decide +kernel
theorem dX8_wrong_13 : decode cX8_wrong 13 = .ok (.aload_n 0, 1) := by decide +kernel
theorem dX8_wrong_14 : decode cX8_wrong 14 = .ok (.iload_n 1, 1) := by decide +kernel
theorem dX8_wrong_15 : decode cX8_wrong 15 = .ok (.putfield 101, 3) := by decide +kernel
theorem dX8_wrong_18 : decode cX8_wrong 18 = .ok (.aload_n 0, 1) := by decide +kernel
theorem dX8_wrong_19 : decode cX8_wrong 19 = .ok (.iload_n 2, 1) := by decide +kernel
theorem dX8_wrong_20 : decode cX8_wrong 20 = .ok (.putfield 13, 3) := by decide +kernel
theorem dX8_wrong_23 : decode cX8_wrong 23 = .ok (.return_, 1) := by decide +kernel
theorem dX8_isWord_0 : decode cX8_isWord 0 = .ok (.aload_n 0, 1) := by decide +kernel
theorem dX8_isWord_1 : decode cX8_isWord 1 = .ok (.getfield 97, 3) := by decide +kernel
theorem dX8_isWord_4 : decode cX8_isWord 4 = .ok (.ifCond .ne 22, 3) := by decide +kernel
theorem dX8_isWord_7 : decode cX8_isWord 7 = .ok (.aload_n 0, 1) := by decide +kernel
theorem dX8_isWord_8 : decode cX8_isWord 8 = .ok (.getfield 87, 3) := by decide +kernel
theorem dX8_isWord_11 : decode cX8_isWord 11 = .ok (.iconst 2, 1) := by decide +kernel
theorem dX8_isWord_12 : decode cX8_isWord 12 = .ok (.if_icmp .ne 14, 3) := by decide +kernel
theorem dX8_isWord_26 : decode cX8_isWord 26 = .ok (.iconst 0, 1) := by decide +kernel
theorem dX8_isWord_27 : decode cX8_isWord 27 = .ok (.ireturn, 1) := by decide +kernel
theorem dX8_gallery_0 : decode cX8_gallery 0 = .ok (.aload_n 0, 1) := by decide +kernel
theorem dX8_gallery_1 : decode cX8_gallery 1 = .ok (.invokevirtual 160, 3) := by decide +kernel
theorem dX8_gallery_4 : decode cX8_gallery 4 = .ok (.iload_n 1, 1) := by decide +kernel
theorem dX8_gallery_5 : decode cX8_gallery 5 = .ok (.iconst 0, 1) := by decide +kernel
theorem dX8_gallery_6 : decode cX8_gallery 6 = .ok (.aload_n 0, 1) := by decide +kernel
theorem dX8_gallery_7 : decode cX8_gallery 7 = .ok (.getfield 65, 3) := by decide +kernel
theorem dX8_gallery_10 : decode cX8_gallery 10 = .ok (.invokestatic 142, 3) := by decide +kernel
theorem dX8_gallery_13 : decode cX8_gallery 13 = .ok (.ifCond .ne 9, 3) := by decide +kernel
theorem dX8_gallery_16 : decode cX8_gallery 16 = .ok (.aload_n 0, 1) := by decide +kernel
theorem dX8_gallery_17 : decode cX8_gallery 17 = .ok (.iconst 2, 1) := by decide +kernel
theorem dX8_gallery_18 : decode cX8_gallery 18 = .ok (.invokevirtual 163, 3) := by decide +kernel
theorem dX8_gallery_21 : decode cX8_gallery 21 = .ok (.ireturn, 1) := by decide +kernel
theorem dX8_gallery_22 : decode cX8_gallery 22 = .ok (.aload_n 0, 1) := by decide +kernel
theorem dX8_gallery_23 : decode cX8_gallery 23 = .ok (.iconst 0, 1) := by decide +kernel
theorem dX8_gallery_24 : decode cX8_gallery 24 = .ok (.putfield 65, 3) := by decide +kernel
theorem dX8_gallery_27 : decode cX8_gallery 27 = .ok (.aload_n 0, 1) := by decide +kernel
theorem dX8_gallery_28 : decode cX8_gallery 28 = .ok (.iconst 0, 1) := by decide +kernel
theorem dX8_gallery_29 : decode cX8_gallery 29 = .ok (.putfield 101, 3) := by decide +kernel
theorem dX8_gallery_32 : decode cX8_gallery 32 = .ok (.aload_n 0, 1) := by decide +kernel
theorem dX8_gallery_33 : decode cX8_gallery 33 = .ok (.iconst 0, 1) := by decide +kernel
theorem dX8_gallery_34 : decode cX8_gallery 34 = .ok (.putfield 97, 3) := by decide +kernel
theorem dX8_gallery_37 : decode cX8_gallery 37 = .ok (.iconst 0, 1) := by decide +kernel
theorem dX8_gallery_38 : decode cX8_gallery 38 = .ok (.istore_n 2, 1) := by decide +kernel
theorem dX8_gallery_39 : decode cX8_gallery 39 = .ok (.iload_n 2, 1) := by decide +kernel
theorem dX8_gallery_40 : decode cX8_gallery 40 = .ok (.sipush 156, 3) := by decide +kernel
theorem dX8_gallery_43 : decode cX8_gallery 43 = .ok (.if_icmp .ge 16, 3) := by decide +kernel
theorem dX8_gallery_46 : decode cX8_gallery 46 = .ok (.aload_n 0, 1) := by decide +kernel
theorem dX8_gallery_47 : decode cX8_gallery 47 = .ok (.getfield 23, 3) := by decide +kernel
theorem dX8_gallery_50 : decode cX8_gallery 50 = .ok (.iload_n 2, 1) := by decide +kernel
theorem dX8_gallery_51 : decode cX8_gallery 51 = .ok (.iconst 0, 1) := by decide +kernel
theorem dX8_gallery_52 : decode cX8_gallery 52 = .ok (.iastore, 1) := by decide +kernel
theorem dX8_gallery_53 : decode cX8_gallery 53 = .ok (.iinc 2 1, 3) := by decide +kernel
theorem dX8_gallery_56 : decode cX8_gallery 56 = .ok (.goto (-17), 3) := by decide +kernel
theorem dX8_gallery_59 : decode cX8_gallery 59 = .ok (.aload_n 0, 1) := by decide +kernel
theorem dX8_gallery_60 : decode cX8_gallery 60 = .ok (.iload_n 1, 1) := by decide +kernel
theorem dX8_gallery_61 : decode cX8_gallery 61 = .ok (.putfield 68, 3) := by decide +kernel
theorem dX8_gallery_64 : decode cX8_gallery 64 = .ok (.aload_n 0, 1) := by decide +kernel
theorem dX8_gallery_65 : decode cX8_gallery 65 = .ok (.iconst 0, 1) := by decide +kernel
theorem dX8_gallery_66 : decode cX8_gallery 66 = .ok (.putfield 71, 3) := by decide +kernel
theorem dX8_gallery_69 : decode cX8_gallery 69 = .ok (.aload_n 0, 1) := by decide +kernel
theorem dX8_gallery_70 : decode cX8_gallery 70 = .ok (.invokevirtual 118, 3) := by decide +kernel
theorem dX8_gallery_73 : decode cX8_gallery 73 = .ok (.aload_n 0, 1) := by decide +kernel
theorem dX8_gallery_74 : decode cX8_gallery 74 = .ok (.invokevirtual 166, 3) := by decide +kernel
theorem dX8_gallery_77 : decode cX8_gallery 77 = .ok (.aload_n 0, 1) := by decide +kernel
theorem dX8_gallery_78 : decode cX8_gallery 78 = .ok (.getfield 97, 3) := by decide +kernel
theorem dX8_gallery_81 : decode cX8_gallery 81 = .ok (.ifCond .ne 23, 3) := by decide +kernel
theorem dX8_gallery_104 : decode cX8_gallery 104 = .ok (.aload_n 0, 1) := by decide +kernel
theorem dX8_gallery_105 : decode cX8_gallery 105 = .ok (.getfield 97, 3) := by decide +kernel
theorem dX8_gallery_108 : decode cX8_gallery 108 = .ok (.ifCond .ne 19, 3) := by decide +kernel
theorem dX8_gallery_127 : decode cX8_gallery 127 = .ok (.aload_n 0, 1) := by decide +kernel
theorem dX8_gallery_128 : decode cX8_gallery 128 = .ok (.getfield 97, 3) := by decide +kernel
theorem dX8_gallery_131 : decode cX8_gallery 131 = .ok (.ifCond .ne 33, 3) := by decide +kernel
theorem dX8_gallery_164 : decode cX8_gallery 164 = .ok (.aload_n 0, 1) := by decide +kernel
theorem dX8_gallery_165 : decode cX8_gallery 165 = .ok (.getfield 97, 3) := by decide +kernel
theorem dX8_gallery_168 : decode cX8_gallery 168 = .ok (.ifCond .eq 9, 3) := by decide +kernel
theorem dX8_gallery_171 : decode cX8_gallery 171 = .ok (.aload_n 0, 1) := by decide +kernel
theorem dX8_gallery_172 : decode cX8_gallery 172 = .ok (.iconst 4, 1) := by decide +kernel
theorem dX8_gallery_173 : decode cX8_gallery 173 = .ok (.invokevirtual 163, 3) := by decide +kernel
theorem dX8_gallery_176 : decode cX8_gallery 176 = .ok (.ireturn, 1) := by decide +kernel
theorem dX8_begins_0 : decode cX8_begins 0 = .ok (.aload_n 0, 1) := by decide +kernel
theorem dX8_begins_1 : decode cX8_begins 1 = .ok (.aload_n 1, 1) := by decide +kernel
theorem dX8_begins_2 : decode cX8_begins 2 = .ok (.invokevirtual 114, 3) := by decide +kernel
theorem dX8_begins_5 : decode cX8_begins 5 = .ok (.ifCond .ne 5, 3) := by decide +kernel
theorem dX8_begins_8 : decode cX8_begins 8 = .ok (.iconst 0, 1) := by decide +kernel
theorem dX8_begins_9 : decode cX8_begins 9 = .ok (.ireturn, 1) := by decide +kernel
theorem dX8_readLine_0 : decode cX8_readLine 0 = .ok (.aload_n 0, 1) := by decide +kernel
theorem dX8_readLine_1 : decode cX8_readLine 1 = .ok (.ldc 128, 2) := by decide +kernel
theorem dX8_readLine_3 : decode cX8_readLine 3 = .ok (.invokevirtual 114, 3) := by decide +kernel
theorem dX8_readLine_6 : decode cX8_readLine 6 = .ok (.ifCond .eq 10, 3) := by decide +kernel
theorem dX8_readLine_16 : decode cX8_readLine 16 = .ok (.aload_n 0, 1) := by decide +kernel
theorem dX8_readLine_17 : decode cX8_readLine 17 = .ok (.ldc 130, 2) := by decide +kernel
theorem dX8_readLine_19 : decode cX8_readLine 19 = .ok (.invokevirtual 114, 3) := by decide +kernel
theorem dX8_readLine_22 : decode cX8_readLine 22 = .ok (.ifCond .eq 10, 3) := by decide +kernel
theorem dX8_readLine_32 : decode cX8_readLine 32 = .ok (.aload_n 0, 1) := by decide +kernel
theorem dX8_readLine_33 : decode cX8_readLine 33 = .ok (.ldc 132, 2) := by decide +kernel
theorem dX8_readLine_35 : decode cX8_readLine 35 = .ok (.aload_n 0, 1) := by decide +kernel
theorem dX8_readLine_36 : decode cX8_readLine 36 = .ok (.getfield 23, 3) := by decide +kernel
theorem dX8_readLine_39 : decode cX8_readLine 39 = .ok (.iconst 4, 1) := by decide +kernel
theorem dX8_readLine_40 : decode cX8_readLine 40 = .ok (.iaload, 1) := by decide +kernel
theorem dX8_readLine_41 : decode cX8_readLine 41 = .ok (.bipush 9, 2) := by decide +kernel
theorem dX8_readLine_43 : decode cX8_readLine 43 = .ok (.if_icmp .ge 7, 3) := by decide +kernel
theorem dX8_readLine_46 : decode cX8_readLine 46 = .ok (.iconst 1, 1) := by decide +kernel
theorem dX8_readLine_47 : decode cX8_readLine 47 = .ok (.goto 4, 3) := by decide +kernel
theorem dX8_readLine_51 : decode cX8_readLine 51 = .ok (.invokevirtual 188, 3) := by decide +kernel
theorem dX8_readLine_54 : decode cX8_readLine 54 = .ok (.ifCond .eq 10, 3) := by decide +kernel
theorem dX8_readLine_64 : decode cX8_readLine 64 = .ok (.aload_n 0, 1) := by decide +kernel
theorem dX8_readLine_65 : decode cX8_readLine 65 = .ok (.ldc 134, 2) := by decide +kernel
theorem dX8_readLine_67 : decode cX8_readLine 67 = .ok (.aload_n 0, 1) := by decide +kernel
theorem dX8_readLine_68 : decode cX8_readLine 68 = .ok (.getfield 23, 3) := by decide +kernel
theorem dX8_readLine_71 : decode cX8_readLine 71 = .ok (.iconst 5, 1) := by decide +kernel
theorem dX8_readLine_72 : decode cX8_readLine 72 = .ok (.iaload, 1) := by decide +kernel
theorem dX8_readLine_73 : decode cX8_readLine 73 = .ok (.iconst 3, 1) := by decide +kernel
theorem dX8_readLine_74 : decode cX8_readLine 74 = .ok (.if_icmp .ge 7, 3) := by decide +kernel
theorem dX8_readLine_77 : decode cX8_readLine 77 = .ok (.iconst 1, 1) := by decide +kernel
theorem dX8_readLine_78 : decode cX8_readLine 78 = .ok (.goto 4, 3) := by decide +kernel
theorem dX8_readLine_82 : decode cX8_readLine 82 = .ok (.invokevirtual 188, 3) := by decide +kernel
theorem dX8_readLine_85 : decode cX8_readLine 85 = .ok (.ifCond .eq 10, 3) := by decide +kernel
theorem dX8_readLine_95 : decode cX8_readLine 95 = .ok (.aload_n 0, 1) := by decide +kernel
theorem dX8_readLine_96 : decode cX8_readLine 96 = .ok (.ldc 136, 2) := by decide +kernel
theorem dX8_readLine_98 : decode cX8_readLine 98 = .ok (.aload_n 0, 1) := by decide +kernel
theorem dX8_readLine_99 : decode cX8_readLine 99 = .ok (.getfield 23, 3) := by decide +kernel
theorem dX8_readLine_102 : decode cX8_readLine 102 = .ok (.bipush 6, 2) := by decide +kernel
theorem dX8_readLine_104 : decode cX8_readLine 104 = .ok (.iaload, 1) := by decide +kernel
theorem dX8_readLine_105 : decode cX8_readLine 105 = .ok (.bipush 6, 2) := by decide +kernel
theorem dX8_readLine_107 : decode cX8_readLine 107 = .ok (.if_icmp .ge 7, 3) := by decide +kernel
theorem dX8_readLine_110 : decode cX8_readLine 110 = .ok (.iconst 1, 1) := by decide +kernel
theorem dX8_readLine_111 : decode cX8_readLine 111 = .ok (.goto 4, 3) := by decide +kernel
theorem dX8_readLine_115 : decode cX8_readLine 115 = .ok (.invokevirtual 188, 3) := by decide +kernel
theorem dX8_readLine_118 : decode cX8_readLine 118 = .ok (.ifCond .eq 10, 3) := by decide +kernel
theorem dX8_readLine_128 : decode cX8_readLine 128 = .ok (.aload_n 0, 1) := by decide +kernel
theorem dX8_readLine_129 : decode cX8_readLine 129 = .ok (.iconst 1, 1) := by decide +kernel
theorem dX8_readLine_130 : decode cX8_readLine 130 = .ok (.aload_n 0, 1) := by decide +kernel
theorem dX8_readLine_131 : decode cX8_readLine 131 = .ok (.getfield 78, 3) := by decide +kernel
theorem dX8_readLine_134 : decode cX8_readLine 134 = .ok (.invokevirtual 124, 3) := by decide +kernel
theorem dX8_readLine_137 : decode cX8_readLine 137 = .ok (.return_, 1) := by decide +kernel
theorem dX8_fault_0 : decode cX8_fault 0 = .ok (.aload_n 0, 1) := by decide +kernel
theorem dX8_fault_1 : decode cX8_fault 1 = .ok (.iconst 0, 1) := by decide +kernel
theorem dX8_fault_2 : decode cX8_fault 2 = .ok (.putfield 59, 3) := by decide +kernel
theorem dX8_fault_5 : decode cX8_fault 5 = .ok (.aload_n 0, 1) := by decide +kernel
theorem dX8_fault_6 : decode cX8_fault 6 = .ok (.getfield 101, 3) := by decide +kernel
theorem dX8_fault_9 : decode cX8_fault 9 = .ok (.ireturn, 1) := by decide +kernel
theorem dX8_where_0 : decode cX8_where 0 = .ok (.aload_n 0, 1) := by decide +kernel
theorem dX8_where_1 : decode cX8_where 1 = .ok (.iconst 0, 1) := by decide +kernel
theorem dX8_where_2 : decode cX8_where 2 = .ok (.putfield 59, 3) := by decide +kernel
theorem dX8_where_5 : decode cX8_where 5 = .ok (.aload_n 0, 1) := by decide +kernel
theorem dX8_where_6 : decode cX8_where 6 = .ok (.getfield 62, 3) := by decide +kernel
theorem dX8_where_9 : decode cX8_where 9 = .ok (.iconst 4, 1) := by decide +kernel
theorem dX8_where_10 : decode cX8_where 10 = .ok (.if_icmp .ne 10, 3) := by decide +kernel
theorem dX8_where_20 : decode cX8_where 20 = .ok (.iconst (-1), 1) := by decide +kernel
theorem dX8_where_21 : decode cX8_where 21 = .ok (.ireturn, 1) := by decide +kernel
theorem dX8_isFigure_0 : decode cX8_isFigure 0 = .ok (.aload_n 0, 1) := by decide +kernel
theorem dX8_isFigure_1 : decode cX8_isFigure 1 = .ok (.getfield 173, 3) := by decide +kernel
theorem dX8_isFigure_4 : decode cX8_isFigure 4 = .ok (.ifCond .eq 23, 3) := by decide +kernel
theorem dX8_isFigure_27 : decode cX8_isFigure 27 = .ok (.iconst 0, 1) := by decide +kernel
theorem dX8_isFigure_28 : decode cX8_isFigure 28 = .ok (.ireturn, 1) := by decide +kernel
theorem dX8_isWatcher_0 : decode cX8_isWatcher 0 = .ok (.aload_n 0, 1) := by decide +kernel
theorem dX8_isWatcher_1 : decode cX8_isWatcher 1 = .ok (.getfield 173, 3) := by decide +kernel
theorem dX8_isWatcher_4 : decode cX8_isWatcher 4 = .ok (.ifCond .eq 23, 3) := by decide +kernel
theorem dX8_isWatcher_27 : decode cX8_isWatcher 27 = .ok (.iconst 0, 1) := by decide +kernel
theorem dX8_isWatcher_28 : decode cX8_isWatcher 28 = .ok (.ireturn, 1) := by decide +kernel
theorem dX8_why_0 : decode cX8_why 0 = .ok (.iload_n 1, 1) := by decide +kernel
theorem dX8_why_1 : decode cX8_why 1 = .ok (.ifCond .ne 7, 3) := by decide +kernel
theorem dX8_why_4 : decode cX8_why 4 = .ok (.iconst 1, 1) := by decide +kernel
theorem dX8_why_5 : decode cX8_why 5 = .ok (.goto 12, 3) := by decide +kernel
theorem dX8_why_17 : decode cX8_why 17 = .ok (.ireturn, 1) := by decide +kernel
theorem dX8_figure_0 : decode cX8_figure 0 = .ok (.aload_n 0, 1) := by decide +kernel
theorem dX8_figure_1 : decode cX8_figure 1 = .ok (.invokevirtual 160, 3) := by decide +kernel
theorem dX8_figure_4 : decode cX8_figure 4 = .ok (.aload_n 0, 1) := by decide +kernel
theorem dX8_figure_5 : decode cX8_figure 5 = .ok (.iload_n 1, 1) := by decide +kernel
theorem dX8_figure_6 : decode cX8_figure 6 = .ok (.invokevirtual 277, 3) := by decide +kernel
theorem dX8_figure_9 : decode cX8_figure 9 = .ok (.ifCond .eq 12, 3) := by decide +kernel
theorem dX8_figure_21 : decode cX8_figure 21 = .ok (.aload_n 0, 1) := by decide +kernel
theorem dX8_figure_22 : decode cX8_figure 22 = .ok (.iconst 1, 1) := by decide +kernel
theorem dX8_figure_23 : decode cX8_figure 23 = .ok (.invokevirtual 163, 3) := by decide +kernel
theorem dX8_figure_26 : decode cX8_figure 26 = .ok (.ireturn, 1) := by decide +kernel
theorem dX8_watcher_0 : decode cX8_watcher 0 = .ok (.aload_n 0, 1) := by decide +kernel
theorem dX8_watcher_1 : decode cX8_watcher 1 = .ok (.invokevirtual 160, 3) := by decide +kernel
theorem dX8_watcher_4 : decode cX8_watcher 4 = .ok (.aload_n 0, 1) := by decide +kernel
theorem dX8_watcher_5 : decode cX8_watcher 5 = .ok (.iload_n 1, 1) := by decide +kernel
theorem dX8_watcher_6 : decode cX8_watcher 6 = .ok (.invokevirtual 280, 3) := by decide +kernel
theorem dX8_watcher_9 : decode cX8_watcher 9 = .ok (.ifCond .eq 12, 3) := by decide +kernel
theorem dX8_watcher_21 : decode cX8_watcher 21 = .ok (.aload_n 0, 1) := by decide +kernel
theorem dX8_watcher_22 : decode cX8_watcher 22 = .ok (.iconst 1, 1) := by decide +kernel
theorem dX8_watcher_23 : decode cX8_watcher 23 = .ok (.invokevirtual 163, 3) := by decide +kernel
theorem dX8_watcher_26 : decode cX8_watcher 26 = .ok (.ireturn, 1) := by decide +kernel
theorem dX8_alive_0 : decode cX8_alive 0 = .ok (.aload_n 0, 1) := by decide +kernel
theorem dX8_alive_1 : decode cX8_alive 1 = .ok (.invokevirtual 160, 3) := by decide +kernel
theorem dX8_alive_4 : decode cX8_alive 4 = .ok (.aload_n 0, 1) := by decide +kernel
theorem dX8_alive_5 : decode cX8_alive 5 = .ok (.getfield 173, 3) := by decide +kernel
theorem dX8_alive_8 : decode cX8_alive 8 = .ok (.ifCond .eq 13, 3) := by decide +kernel
theorem dX8_alive_21 : decode cX8_alive 21 = .ok (.aload_n 0, 1) := by decide +kernel
theorem dX8_alive_22 : decode cX8_alive 22 = .ok (.iconst 1, 1) := by decide +kernel
theorem dX8_alive_23 : decode cX8_alive 23 = .ok (.invokevirtual 163, 3) := by decide +kernel
theorem dX8_alive_26 : decode cX8_alive 26 = .ok (.ireturn, 1) := by decide +kernel
theorem dX8_left_0 : decode cX8_left 0 = .ok (.aload_n 0, 1) := by decide +kernel
theorem dX8_left_1 : decode cX8_left 1 = .ok (.invokevirtual 160, 3) := by decide +kernel
theorem dX8_left_4 : decode cX8_left 4 = .ok (.aload_n 0, 1) := by decide +kernel
theorem dX8_left_5 : decode cX8_left 5 = .ok (.getfield 173, 3) := by decide +kernel
theorem dX8_left_8 : decode cX8_left 8 = .ok (.ifCond .eq 20, 3) := by decide +kernel
theorem dX8_left_28 : decode cX8_left 28 = .ok (.aload_n 0, 1) := by decide +kernel
theorem dX8_left_29 : decode cX8_left 29 = .ok (.iconst 1, 1) := by decide +kernel
theorem dX8_left_30 : decode cX8_left 30 = .ok (.invokevirtual 163, 3) := by decide +kernel
theorem dX8_left_33 : decode cX8_left 33 = .ok (.ireturn, 1) := by decide +kernel
theorem dX8_caught_0 : decode cX8_caught 0 = .ok (.aload_n 0, 1) := by decide +kernel
theorem dX8_caught_1 : decode cX8_caught 1 = .ok (.invokevirtual 160, 3) := by decide +kernel
theorem dX8_caught_4 : decode cX8_caught 4 = .ok (.aload_n 0, 1) := by decide +kernel
theorem dX8_caught_5 : decode cX8_caught 5 = .ok (.getfield 173, 3) := by decide +kernel
theorem dX8_caught_8 : decode cX8_caught 8 = .ok (.ifCond .eq 13, 3) := by decide +kernel
theorem dX8_caught_21 : decode cX8_caught 21 = .ok (.aload_n 0, 1) := by decide +kernel
theorem dX8_caught_22 : decode cX8_caught 22 = .ok (.iconst 1, 1) := by decide +kernel
theorem dX8_caught_23 : decode cX8_caught 23 = .ok (.invokevirtual 163, 3) := by decide +kernel
theorem dX8_caught_26 : decode cX8_caught 26 = .ok (.ireturn, 1) := by decide +kernel
theorem dX8_turnOf_0 : decode cX8_turnOf 0 = .ok (.aload_n 0, 1) := by decide +kernel
theorem dX8_turnOf_1 : decode cX8_turnOf 1 = .ok (.invokevirtual 160, 3) := by decide +kernel
theorem dX8_turnOf_4 : decode cX8_turnOf 4 = .ok (.aload_n 0, 1) := by decide +kernel
theorem dX8_turnOf_5 : decode cX8_turnOf 5 = .ok (.aload_n 0, 1) := by decide +kernel
theorem dX8_turnOf_6 : decode cX8_turnOf 6 = .ok (.getfield 173, 3) := by decide +kernel
theorem dX8_turnOf_9 : decode cX8_turnOf 9 = .ok (.iload_n 1, 1) := by decide +kernel
theorem dX8_turnOf_10 : decode cX8_turnOf 10 = .ok (.iconst 0, 1) := by decide +kernel
theorem dX8_turnOf_11 : decode cX8_turnOf 11 = .ok (.ldc_w 289, 3) := by decide +kernel
theorem dX8_turnOf_14 : decode cX8_turnOf 14 = .ok (.invokestatic 142, 3) := by decide +kernel
theorem dX8_turnOf_17 : decode cX8_turnOf 17 = .ok (.invokevirtual 290, 3) := by decide +kernel
theorem dX8_turnOf_20 : decode cX8_turnOf 20 = .ok (.istore_n 2, 1) := by decide +kernel
theorem dX8_turnOf_21 : decode cX8_turnOf 21 = .ok (.iload_n 2, 1) := by decide +kernel
theorem dX8_turnOf_22 : decode cX8_turnOf 22 = .ok (.ifCond .eq 9, 3) := by decide +kernel
theorem dX8_turnOf_25 : decode cX8_turnOf 25 = .ok (.aload_n 0, 1) := by decide +kernel
theorem dX8_turnOf_26 : decode cX8_turnOf 26 = .ok (.iload_n 2, 1) := by decide +kernel
theorem dX8_turnOf_27 : decode cX8_turnOf 27 = .ok (.invokevirtual 163, 3) := by decide +kernel
theorem dX8_turnOf_30 : decode cX8_turnOf 30 = .ok (.ireturn, 1) := by decide +kernel
theorem dX8_turnIn_0 : decode cX8_turnIn 0 = .ok (.aload_n 0, 1) := by decide +kernel
theorem dX8_turnIn_1 : decode cX8_turnIn 1 = .ok (.invokevirtual 160, 3) := by decide +kernel
theorem dX8_turnIn_4 : decode cX8_turnIn 4 = .ok (.aload_n 0, 1) := by decide +kernel
theorem dX8_turnIn_5 : decode cX8_turnIn 5 = .ok (.iload_n 1, 1) := by decide +kernel
theorem dX8_turnIn_6 : decode cX8_turnIn 6 = .ok (.invokevirtual 277, 3) := by decide +kernel
theorem dX8_turnIn_9 : decode cX8_turnIn 9 = .ok (.ifCond .ne 9, 3) := by decide +kernel
theorem dX8_turnIn_12 : decode cX8_turnIn 12 = .ok (.aload_n 0, 1) := by decide +kernel
theorem dX8_turnIn_13 : decode cX8_turnIn 13 = .ok (.iconst 1, 1) := by decide +kernel
theorem dX8_turnIn_14 : decode cX8_turnIn 14 = .ok (.invokevirtual 163, 3) := by decide +kernel
theorem dX8_turnIn_17 : decode cX8_turnIn 17 = .ok (.ireturn, 1) := by decide +kernel
theorem dX8_settles_0 : decode cX8_settles 0 = .ok (.aload_n 0, 1) := by decide +kernel
theorem dX8_settles_1 : decode cX8_settles 1 = .ok (.invokevirtual 160, 3) := by decide +kernel
theorem dX8_settles_4 : decode cX8_settles 4 = .ok (.aload_n 0, 1) := by decide +kernel
theorem dX8_settles_5 : decode cX8_settles 5 = .ok (.getfield 173, 3) := by decide +kernel
theorem dX8_settles_8 : decode cX8_settles 8 = .ok (.ifCond .ne 9, 3) := by decide +kernel
theorem dX8_settles_11 : decode cX8_settles 11 = .ok (.aload_n 0, 1) := by decide +kernel
theorem dX8_settles_12 : decode cX8_settles 12 = .ok (.iconst 1, 1) := by decide +kernel
theorem dX8_settles_13 : decode cX8_settles 13 = .ok (.invokevirtual 163, 3) := by decide +kernel
theorem dX8_settles_16 : decode cX8_settles 16 = .ok (.ireturn, 1) := by decide +kernel
theorem dX8_round_0 : decode cX8_round 0 = .ok (.aload_n 0, 1) := by decide +kernel
theorem dX8_round_1 : decode cX8_round 1 = .ok (.invokevirtual 160, 3) := by decide +kernel
theorem dX8_round_4 : decode cX8_round 4 = .ok (.aload_n 0, 1) := by decide +kernel
theorem dX8_round_5 : decode cX8_round 5 = .ok (.getfield 173, 3) := by decide +kernel
theorem dX8_round_8 : decode cX8_round 8 = .ok (.ifCond .ne 9, 3) := by decide +kernel
theorem dX8_round_11 : decode cX8_round 11 = .ok (.aload_n 0, 1) := by decide +kernel
theorem dX8_round_12 : decode cX8_round 12 = .ok (.iconst 1, 1) := by decide +kernel
theorem dX8_round_13 : decode cX8_round 13 = .ok (.invokevirtual 163, 3) := by decide +kernel
theorem dX8_round_16 : decode cX8_round 16 = .ok (.ireturn, 1) := by decide +kernel
theorem dX8_called_0 : decode cX8_called 0 = .ok (.aload_n 0, 1) := by decide +kernel
theorem dX8_called_1 : decode cX8_called 1 = .ok (.invokevirtual 160, 3) := by decide +kernel
theorem dX8_called_4 : decode cX8_called 4 = .ok (.aload_n 0, 1) := by decide +kernel
theorem dX8_called_5 : decode cX8_called 5 = .ok (.getfield 173, 3) := by decide +kernel
theorem dX8_called_8 : decode cX8_called 8 = .ok (.ifCond .ne 9, 3) := by decide +kernel
theorem dX8_called_11 : decode cX8_called 11 = .ok (.aload_n 0, 1) := by decide +kernel
theorem dX8_called_12 : decode cX8_called 12 = .ok (.iconst 1, 1) := by decide +kernel
theorem dX8_called_13 : decode cX8_called 13 = .ok (.invokevirtual 163, 3) := by decide +kernel
theorem dX8_called_16 : decode cX8_called 16 = .ok (.ireturn, 1) := by decide +kernel
theorem dX8_minutesOf_0 : decode cX8_minutesOf 0 = .ok (.aload_n 0, 1) := by decide +kernel
theorem dX8_minutesOf_1 : decode cX8_minutesOf 1 = .ok (.invokevirtual 160, 3) := by decide +kernel
theorem dX8_minutesOf_4 : decode cX8_minutesOf 4 = .ok (.aload_n 0, 1) := by decide +kernel
theorem dX8_minutesOf_5 : decode cX8_minutesOf 5 = .ok (.aload_n 0, 1) := by decide +kernel
theorem dX8_minutesOf_6 : decode cX8_minutesOf 6 = .ok (.iload_n 1, 1) := by decide +kernel
theorem dX8_minutesOf_7 : decode cX8_minutesOf 7 = .ok (.invokevirtual 277, 3) := by decide +kernel
theorem dX8_minutesOf_10 : decode cX8_minutesOf 10 = .ok (.iload_n 2, 1) := by decide +kernel
theorem dX8_minutesOf_11 : decode cX8_minutesOf 11 = .ok (.iconst 0, 1) := by decide +kernel
theorem dX8_minutesOf_12 : decode cX8_minutesOf 12 = .ok (.sipush 999, 3) := by decide +kernel
theorem dX8_minutesOf_15 : decode cX8_minutesOf 15 = .ok (.invokestatic 142, 3) := by decide +kernel
theorem dX8_minutesOf_18 : decode cX8_minutesOf 18 = .ok (.invokevirtual 290, 3) := by decide +kernel
theorem dX8_minutesOf_21 : decode cX8_minutesOf 21 = .ok (.istore_n 3, 1) := by decide +kernel
theorem dX8_minutesOf_22 : decode cX8_minutesOf 22 = .ok (.iload_n 3, 1) := by decide +kernel
theorem dX8_minutesOf_23 : decode cX8_minutesOf 23 = .ok (.ifCond .eq 9, 3) := by decide +kernel
theorem dX8_minutesOf_26 : decode cX8_minutesOf 26 = .ok (.aload_n 0, 1) := by decide +kernel
theorem dX8_minutesOf_27 : decode cX8_minutesOf 27 = .ok (.iload_n 3, 1) := by decide +kernel
theorem dX8_minutesOf_28 : decode cX8_minutesOf 28 = .ok (.invokevirtual 163, 3) := by decide +kernel
theorem dX8_minutesOf_31 : decode cX8_minutesOf 31 = .ok (.ireturn, 1) := by decide +kernel
theorem dX8_aheadWhy_0 : decode cX8_aheadWhy 0 = .ok (.aload_n 0, 1) := by decide +kernel
theorem dX8_aheadWhy_1 : decode cX8_aheadWhy 1 = .ok (.iload_n 1, 1) := by decide +kernel
theorem dX8_aheadWhy_2 : decode cX8_aheadWhy 2 = .ok (.iload_n 3, 1) := by decide +kernel
theorem dX8_aheadWhy_3 : decode cX8_aheadWhy 3 = .ok (.iload_n 2, 1) := by decide +kernel
theorem dX8_aheadWhy_4 : decode cX8_aheadWhy 4 = .ok (.sipush 300, 3) := by decide +kernel
theorem dX8_aheadWhy_7 : decode cX8_aheadWhy 7 = .ok (.invokestatic 142, 3) := by decide +kernel
theorem dX8_aheadWhy_10 : decode cX8_aheadWhy 10 = .ok (.invokevirtual 290, 3) := by decide +kernel
theorem dX8_aheadWhy_13 : decode cX8_aheadWhy 13 = .ok (.ireturn, 1) := by decide +kernel
theorem dX8_place_0 : decode cX8_place 0 = .ok (.aload_n 0, 1) := by decide +kernel
theorem dX8_place_1 : decode cX8_place 1 = .ok (.invokevirtual 160, 3) := by decide +kernel
theorem dX8_place_4 : decode cX8_place 4 = .ok (.aload_n 0, 1) := by decide +kernel
theorem dX8_place_5 : decode cX8_place 5 = .ok (.aload_n 0, 1) := by decide +kernel
theorem dX8_place_6 : decode cX8_place 6 = .ok (.iload_n 1, 1) := by decide +kernel
theorem dX8_place_7 : decode cX8_place 7 = .ok (.invokevirtual 277, 3) := by decide +kernel
theorem dX8_place_10 : decode cX8_place 10 = .ok (.iconst 0, 1) := by decide +kernel
theorem dX8_place_11 : decode cX8_place 11 = .ok (.iload_n 2, 1) := by decide +kernel
theorem dX8_place_12 : decode cX8_place 12 = .ok (.invokevirtual 300, 3) := by decide +kernel
theorem dX8_place_15 : decode cX8_place 15 = .ok (.istore_n 3, 1) := by decide +kernel
theorem dX8_place_16 : decode cX8_place 16 = .ok (.iload_n 3, 1) := by decide +kernel
theorem dX8_place_17 : decode cX8_place 17 = .ok (.ifCond .eq 9, 3) := by decide +kernel
theorem dX8_place_20 : decode cX8_place 20 = .ok (.aload_n 0, 1) := by decide +kernel
theorem dX8_place_21 : decode cX8_place 21 = .ok (.iload_n 3, 1) := by decide +kernel
theorem dX8_place_22 : decode cX8_place 22 = .ok (.invokevirtual 163, 3) := by decide +kernel
theorem dX8_place_25 : decode cX8_place 25 = .ok (.ireturn, 1) := by decide +kernel
theorem dX8_watch_0 : decode cX8_watch 0 = .ok (.aload_n 0, 1) := by decide +kernel
theorem dX8_watch_1 : decode cX8_watch 1 = .ok (.invokevirtual 160, 3) := by decide +kernel
theorem dX8_watch_4 : decode cX8_watch 4 = .ok (.aload_n 0, 1) := by decide +kernel
theorem dX8_watch_5 : decode cX8_watch 5 = .ok (.aload_n 0, 1) := by decide +kernel
theorem dX8_watch_6 : decode cX8_watch 6 = .ok (.iload_n 1, 1) := by decide +kernel
theorem dX8_watch_7 : decode cX8_watch 7 = .ok (.invokevirtual 280, 3) := by decide +kernel
theorem dX8_watch_10 : decode cX8_watch 10 = .ok (.iconst 1, 1) := by decide +kernel
theorem dX8_watch_11 : decode cX8_watch 11 = .ok (.iload_n 2, 1) := by decide +kernel
theorem dX8_watch_12 : decode cX8_watch 12 = .ok (.invokevirtual 300, 3) := by decide +kernel
theorem dX8_watch_15 : decode cX8_watch 15 = .ok (.istore_n 3, 1) := by decide +kernel
theorem dX8_watch_16 : decode cX8_watch 16 = .ok (.iload_n 3, 1) := by decide +kernel
theorem dX8_watch_17 : decode cX8_watch 17 = .ok (.ifCond .eq 9, 3) := by decide +kernel
theorem dX8_watch_20 : decode cX8_watch 20 = .ok (.aload_n 0, 1) := by decide +kernel
theorem dX8_watch_21 : decode cX8_watch 21 = .ok (.iload_n 3, 1) := by decide +kernel
theorem dX8_watch_22 : decode cX8_watch 22 = .ok (.invokevirtual 163, 3) := by decide +kernel
theorem dX8_watch_25 : decode cX8_watch 25 = .ok (.ireturn, 1) := by decide +kernel
theorem dX8_gone_0 : decode cX8_gone 0 = .ok (.aload_n 0, 1) := by decide +kernel
theorem dX8_gone_1 : decode cX8_gone 1 = .ok (.invokevirtual 160, 3) := by decide +kernel
theorem dX8_gone_4 : decode cX8_gone 4 = .ok (.aload_n 0, 1) := by decide +kernel
theorem dX8_gone_5 : decode cX8_gone 5 = .ok (.aload_n 0, 1) := by decide +kernel
theorem dX8_gone_6 : decode cX8_gone 6 = .ok (.getfield 173, 3) := by decide +kernel
theorem dX8_gone_9 : decode cX8_gone 9 = .ok (.iconst 0, 1) := by decide +kernel
theorem dX8_gone_10 : decode cX8_gone 10 = .ok (.iload_n 1, 1) := by decide +kernel
theorem dX8_gone_11 : decode cX8_gone 11 = .ok (.invokevirtual 300, 3) := by decide +kernel
theorem dX8_gone_14 : decode cX8_gone 14 = .ok (.istore_n 2, 1) := by decide +kernel
theorem dX8_gone_15 : decode cX8_gone 15 = .ok (.iload_n 2, 1) := by decide +kernel
theorem dX8_gone_16 : decode cX8_gone 16 = .ok (.ifCond .eq 9, 3) := by decide +kernel
theorem dX8_gone_19 : decode cX8_gone 19 = .ok (.aload_n 0, 1) := by decide +kernel
theorem dX8_gone_20 : decode cX8_gone 20 = .ok (.iload_n 2, 1) := by decide +kernel
theorem dX8_gone_21 : decode cX8_gone 21 = .ok (.invokevirtual 163, 3) := by decide +kernel
theorem dX8_gone_24 : decode cX8_gone 24 = .ok (.ireturn, 1) := by decide +kernel
theorem dX8_stairs_0 : decode cX8_stairs 0 = .ok (.aload_n 0, 1) := by decide +kernel
theorem dX8_stairs_1 : decode cX8_stairs 1 = .ok (.invokevirtual 160, 3) := by decide +kernel
theorem dX8_stairs_4 : decode cX8_stairs 4 = .ok (.aload_n 0, 1) := by decide +kernel
theorem dX8_stairs_5 : decode cX8_stairs 5 = .ok (.getfield 173, 3) := by decide +kernel
theorem dX8_stairs_8 : decode cX8_stairs 8 = .ok (.ifCond .ne 9, 3) := by decide +kernel
theorem dX8_stairs_11 : decode cX8_stairs 11 = .ok (.aload_n 0, 1) := by decide +kernel
theorem dX8_stairs_12 : decode cX8_stairs 12 = .ok (.iconst 1, 1) := by decide +kernel
theorem dX8_stairs_13 : decode cX8_stairs 13 = .ok (.invokevirtual 163, 3) := by decide +kernel
theorem dX8_stairs_16 : decode cX8_stairs 16 = .ok (.ireturn, 1) := by decide +kernel
theorem dX8_catches_0 : decode cX8_catches 0 = .ok (.aload_n 0, 1) := by decide +kernel
theorem dX8_catches_1 : decode cX8_catches 1 = .ok (.invokevirtual 160, 3) := by decide +kernel
theorem dX8_catches_4 : decode cX8_catches 4 = .ok (.aload_n 0, 1) := by decide +kernel
theorem dX8_catches_5 : decode cX8_catches 5 = .ok (.aload_n 0, 1) := by decide +kernel
theorem dX8_catches_6 : decode cX8_catches 6 = .ok (.getfield 173, 3) := by decide +kernel
theorem dX8_catches_9 : decode cX8_catches 9 = .ok (.iconst 0, 1) := by decide +kernel
theorem dX8_catches_10 : decode cX8_catches 10 = .ok (.iload_n 1, 1) := by decide +kernel
theorem dX8_catches_11 : decode cX8_catches 11 = .ok (.invokevirtual 300, 3) := by decide +kernel
theorem dX8_catches_14 : decode cX8_catches 14 = .ok (.istore_n 2, 1) := by decide +kernel
theorem dX8_catches_15 : decode cX8_catches 15 = .ok (.iload_n 2, 1) := by decide +kernel
theorem dX8_catches_16 : decode cX8_catches 16 = .ok (.ifCond .eq 9, 3) := by decide +kernel
theorem dX8_catches_19 : decode cX8_catches 19 = .ok (.aload_n 0, 1) := by decide +kernel
theorem dX8_catches_20 : decode cX8_catches 20 = .ok (.iload_n 2, 1) := by decide +kernel
theorem dX8_catches_21 : decode cX8_catches 21 = .ok (.invokevirtual 163, 3) := by decide +kernel
theorem dX8_catches_24 : decode cX8_catches 24 = .ok (.ireturn, 1) := by decide +kernel
theorem dX8_heard_0 : decode cX8_heard 0 = .ok (.aload_n 0, 1) := by decide +kernel
theorem dX8_heard_1 : decode cX8_heard 1 = .ok (.invokevirtual 160, 3) := by decide +kernel
theorem dX8_heard_4 : decode cX8_heard 4 = .ok (.aload_n 0, 1) := by decide +kernel
theorem dX8_heard_5 : decode cX8_heard 5 = .ok (.aload_n 0, 1) := by decide +kernel
theorem dX8_heard_6 : decode cX8_heard 6 = .ok (.iload_n 1, 1) := by decide +kernel
theorem dX8_heard_7 : decode cX8_heard 7 = .ok (.invokevirtual 277, 3) := by decide +kernel
theorem dX8_heard_10 : decode cX8_heard 10 = .ok (.iconst 0, 1) := by decide +kernel
theorem dX8_heard_11 : decode cX8_heard 11 = .ok (.iload_n 2, 1) := by decide +kernel
theorem dX8_heard_12 : decode cX8_heard 12 = .ok (.invokevirtual 300, 3) := by decide +kernel
theorem dX8_heard_15 : decode cX8_heard 15 = .ok (.istore_n 3, 1) := by decide +kernel
theorem dX8_heard_16 : decode cX8_heard 16 = .ok (.iload_n 3, 1) := by decide +kernel
theorem dX8_heard_17 : decode cX8_heard 17 = .ok (.ifCond .eq 9, 3) := by decide +kernel
theorem dX8_heard_20 : decode cX8_heard 20 = .ok (.aload_n 0, 1) := by decide +kernel
theorem dX8_heard_21 : decode cX8_heard 21 = .ok (.iload_n 3, 1) := by decide +kernel
theorem dX8_heard_22 : decode cX8_heard 22 = .ok (.invokevirtual 163, 3) := by decide +kernel
theorem dX8_heard_25 : decode cX8_heard 25 = .ok (.ireturn, 1) := by decide +kernel
theorem dX8_allIn_0 : decode cX8_allIn 0 = .ok (.aload_n 0, 1) := by decide +kernel
theorem dX8_allIn_1 : decode cX8_allIn 1 = .ok (.invokevirtual 160, 3) := by decide +kernel
theorem dX8_allIn_4 : decode cX8_allIn 4 = .ok (.aload_n 0, 1) := by decide +kernel
theorem dX8_allIn_5 : decode cX8_allIn 5 = .ok (.iload_n 1, 1) := by decide +kernel
theorem dX8_allIn_6 : decode cX8_allIn 6 = .ok (.invokevirtual 277, 3) := by decide +kernel
theorem dX8_allIn_9 : decode cX8_allIn 9 = .ok (.ifCond .ne 9, 3) := by decide +kernel
theorem dX8_allIn_12 : decode cX8_allIn 12 = .ok (.aload_n 0, 1) := by decide +kernel
theorem dX8_allIn_13 : decode cX8_allIn 13 = .ok (.iconst 1, 1) := by decide +kernel
theorem dX8_allIn_14 : decode cX8_allIn 14 = .ok (.invokevirtual 163, 3) := by decide +kernel
theorem dX8_allIn_17 : decode cX8_allIn 17 = .ok (.ireturn, 1) := by decide +kernel
theorem dX8_meets_0 : decode cX8_meets 0 = .ok (.aload_n 0, 1) := by decide +kernel
theorem dX8_meets_1 : decode cX8_meets 1 = .ok (.invokevirtual 160, 3) := by decide +kernel
theorem dX8_meets_4 : decode cX8_meets 4 = .ok (.aload_n 0, 1) := by decide +kernel
theorem dX8_meets_5 : decode cX8_meets 5 = .ok (.iload_n 1, 1) := by decide +kernel
theorem dX8_meets_6 : decode cX8_meets 6 = .ok (.invokevirtual 280, 3) := by decide +kernel
theorem dX8_meets_9 : decode cX8_meets 9 = .ok (.ifCond .ne 9, 3) := by decide +kernel
theorem dX8_meets_12 : decode cX8_meets 12 = .ok (.aload_n 0, 1) := by decide +kernel
theorem dX8_meets_13 : decode cX8_meets 13 = .ok (.iconst 1, 1) := by decide +kernel
theorem dX8_meets_14 : decode cX8_meets 14 = .ok (.invokevirtual 163, 3) := by decide +kernel
theorem dX8_meets_17 : decode cX8_meets 17 = .ok (.ireturn, 1) := by decide +kernel
theorem dX8_crowd_0 : decode cX8_crowd 0 = .ok (.aload_n 0, 1) := by decide +kernel
theorem dX8_crowd_1 : decode cX8_crowd 1 = .ok (.invokevirtual 160, 3) := by decide +kernel
theorem dX8_crowd_4 : decode cX8_crowd 4 = .ok (.aload_n 0, 1) := by decide +kernel
theorem dX8_crowd_5 : decode cX8_crowd 5 = .ok (.aload_n 0, 1) := by decide +kernel
theorem dX8_crowd_6 : decode cX8_crowd 6 = .ok (.getfield 173, 3) := by decide +kernel
theorem dX8_crowd_9 : decode cX8_crowd 9 = .ok (.iconst 0, 1) := by decide +kernel
theorem dX8_crowd_10 : decode cX8_crowd 10 = .ok (.iload_n 1, 1) := by decide +kernel
theorem dX8_crowd_11 : decode cX8_crowd 11 = .ok (.invokevirtual 300, 3) := by decide +kernel
theorem dX8_crowd_14 : decode cX8_crowd 14 = .ok (.istore_n 2, 1) := by decide +kernel
theorem dX8_crowd_15 : decode cX8_crowd 15 = .ok (.iload_n 2, 1) := by decide +kernel
theorem dX8_crowd_16 : decode cX8_crowd 16 = .ok (.ifCond .eq 9, 3) := by decide +kernel
theorem dX8_crowd_19 : decode cX8_crowd 19 = .ok (.aload_n 0, 1) := by decide +kernel
theorem dX8_crowd_20 : decode cX8_crowd 20 = .ok (.iload_n 2, 1) := by decide +kernel
theorem dX8_crowd_21 : decode cX8_crowd 21 = .ok (.invokevirtual 163, 3) := by decide +kernel
theorem dX8_crowd_24 : decode cX8_crowd 24 = .ok (.ireturn, 1) := by decide +kernel
theorem dX8_farthest_0 : decode cX8_farthest 0 = .ok (.aload_n 0, 1) := by decide +kernel
theorem dX8_farthest_1 : decode cX8_farthest 1 = .ok (.invokevirtual 160, 3) := by decide +kernel
theorem dX8_farthest_4 : decode cX8_farthest 4 = .ok (.aload_n 0, 1) := by decide +kernel
theorem dX8_farthest_5 : decode cX8_farthest 5 = .ok (.aload_n 0, 1) := by decide +kernel
theorem dX8_farthest_6 : decode cX8_farthest 6 = .ok (.getfield 173, 3) := by decide +kernel
theorem dX8_farthest_9 : decode cX8_farthest 9 = .ok (.iconst 0, 1) := by decide +kernel
theorem dX8_farthest_10 : decode cX8_farthest 10 = .ok (.iload_n 1, 1) := by decide +kernel
theorem dX8_farthest_11 : decode cX8_farthest 11 = .ok (.invokevirtual 300, 3) := by decide +kernel
theorem dX8_farthest_14 : decode cX8_farthest 14 = .ok (.istore_n 2, 1) := by decide +kernel
theorem dX8_farthest_15 : decode cX8_farthest 15 = .ok (.iload_n 2, 1) := by decide +kernel
theorem dX8_farthest_16 : decode cX8_farthest 16 = .ok (.ifCond .eq 9, 3) := by decide +kernel
theorem dX8_farthest_19 : decode cX8_farthest 19 = .ok (.aload_n 0, 1) := by decide +kernel
theorem dX8_farthest_20 : decode cX8_farthest 20 = .ok (.iload_n 2, 1) := by decide +kernel
theorem dX8_farthest_21 : decode cX8_farthest 21 = .ok (.invokevirtual 163, 3) := by decide +kernel
theorem dX8_farthest_24 : decode cX8_farthest 24 = .ok (.ireturn, 1) := by decide +kernel
theorem dX8_nearBy_0 : decode cX8_nearBy 0 = .ok (.aload_n 0, 1) := by decide +kernel
theorem dX8_nearBy_1 : decode cX8_nearBy 1 = .ok (.invokevirtual 160, 3) := by decide +kernel
theorem dX8_nearBy_4 : decode cX8_nearBy 4 = .ok (.aload_n 0, 1) := by decide +kernel
theorem dX8_nearBy_5 : decode cX8_nearBy 5 = .ok (.aload_n 0, 1) := by decide +kernel
theorem dX8_nearBy_6 : decode cX8_nearBy 6 = .ok (.iload_n 1, 1) := by decide +kernel
theorem dX8_nearBy_7 : decode cX8_nearBy 7 = .ok (.invokevirtual 277, 3) := by decide +kernel
theorem dX8_nearBy_10 : decode cX8_nearBy 10 = .ok (.iconst 0, 1) := by decide +kernel
theorem dX8_nearBy_11 : decode cX8_nearBy 11 = .ok (.iload_n 2, 1) := by decide +kernel
theorem dX8_nearBy_12 : decode cX8_nearBy 12 = .ok (.invokevirtual 300, 3) := by decide +kernel
theorem dX8_nearBy_15 : decode cX8_nearBy 15 = .ok (.istore_n 3, 1) := by decide +kernel
theorem dX8_nearBy_16 : decode cX8_nearBy 16 = .ok (.iload_n 3, 1) := by decide +kernel
theorem dX8_nearBy_17 : decode cX8_nearBy 17 = .ok (.ifCond .eq 9, 3) := by decide +kernel
theorem dX8_nearBy_20 : decode cX8_nearBy 20 = .ok (.aload_n 0, 1) := by decide +kernel
theorem dX8_nearBy_21 : decode cX8_nearBy 21 = .ok (.iload_n 3, 1) := by decide +kernel
theorem dX8_nearBy_22 : decode cX8_nearBy 22 = .ok (.invokevirtual 163, 3) := by decide +kernel
theorem dX8_nearBy_25 : decode cX8_nearBy 25 = .ok (.ireturn, 1) := by decide +kernel
theorem dX8_spoken_0 : decode cX8_spoken 0 = .ok (.aload_n 0, 1) := by decide +kernel
theorem dX8_spoken_1 : decode cX8_spoken 1 = .ok (.invokevirtual 160, 3) := by decide +kernel
theorem dX8_spoken_4 : decode cX8_spoken 4 = .ok (.aload_n 0, 1) := by decide +kernel
theorem dX8_spoken_5 : decode cX8_spoken 5 = .ok (.aload_n 0, 1) := by decide +kernel
theorem dX8_spoken_6 : decode cX8_spoken 6 = .ok (.iload_n 1, 1) := by decide +kernel
theorem dX8_spoken_7 : decode cX8_spoken 7 = .ok (.invokevirtual 277, 3) := by decide +kernel
theorem dX8_spoken_10 : decode cX8_spoken 10 = .ok (.iconst 0, 1) := by decide +kernel
theorem dX8_spoken_11 : decode cX8_spoken 11 = .ok (.iload_n 2, 1) := by decide +kernel
theorem dX8_spoken_12 : decode cX8_spoken 12 = .ok (.invokevirtual 300, 3) := by decide +kernel
theorem dX8_spoken_15 : decode cX8_spoken 15 = .ok (.istore_n 3, 1) := by decide +kernel
theorem dX8_spoken_16 : decode cX8_spoken 16 = .ok (.iload_n 3, 1) := by decide +kernel
theorem dX8_spoken_17 : decode cX8_spoken 17 = .ok (.ifCond .eq 9, 3) := by decide +kernel
theorem dX8_spoken_20 : decode cX8_spoken 20 = .ok (.aload_n 0, 1) := by decide +kernel
theorem dX8_spoken_21 : decode cX8_spoken 21 = .ok (.iload_n 3, 1) := by decide +kernel
theorem dX8_spoken_22 : decode cX8_spoken 22 = .ok (.invokevirtual 163, 3) := by decide +kernel
theorem dX8_spoken_25 : decode cX8_spoken 25 = .ok (.ireturn, 1) := by decide +kernel
theorem dX8_windBest_0 : decode cX8_windBest 0 = .ok (.aload_n 0, 1) := by decide +kernel
theorem dX8_windBest_1 : decode cX8_windBest 1 = .ok (.invokevirtual 160, 3) := by decide +kernel
theorem dX8_windBest_4 : decode cX8_windBest 4 = .ok (.aload_n 0, 1) := by decide +kernel
theorem dX8_windBest_5 : decode cX8_windBest 5 = .ok (.getfield 173, 3) := by decide +kernel
theorem dX8_windBest_8 : decode cX8_windBest 8 = .ok (.ifCond .ne 9, 3) := by decide +kernel
theorem dX8_windBest_11 : decode cX8_windBest 11 = .ok (.aload_n 0, 1) := by decide +kernel
theorem dX8_windBest_12 : decode cX8_windBest 12 = .ok (.iconst 1, 1) := by decide +kernel
theorem dX8_windBest_13 : decode cX8_windBest 13 = .ok (.invokevirtual 163, 3) := by decide +kernel
theorem dX8_windBest_16 : decode cX8_windBest 16 = .ok (.ireturn, 1) := by decide +kernel
theorem dX8_patrol_0 : decode cX8_patrol 0 = .ok (.aload_n 0, 1) := by decide +kernel
theorem dX8_patrol_1 : decode cX8_patrol 1 = .ok (.invokevirtual 160, 3) := by decide +kernel
theorem dX8_patrol_4 : decode cX8_patrol 4 = .ok (.aload_n 0, 1) := by decide +kernel
theorem dX8_patrol_5 : decode cX8_patrol 5 = .ok (.aload_n 0, 1) := by decide +kernel
theorem dX8_patrol_6 : decode cX8_patrol 6 = .ok (.iload_n 1, 1) := by decide +kernel
theorem dX8_patrol_7 : decode cX8_patrol 7 = .ok (.invokevirtual 280, 3) := by decide +kernel
theorem dX8_patrol_10 : decode cX8_patrol 10 = .ok (.iload_n 2, 1) := by decide +kernel
theorem dX8_patrol_11 : decode cX8_patrol 11 = .ok (.iconst 1, 1) := by decide +kernel
theorem dX8_patrol_12 : decode cX8_patrol 12 = .ok (.bipush 60, 2) := by decide +kernel
theorem dX8_patrol_14 : decode cX8_patrol 14 = .ok (.invokestatic 142, 3) := by decide +kernel
theorem dX8_patrol_17 : decode cX8_patrol 17 = .ok (.invokevirtual 290, 3) := by decide +kernel
theorem dX8_patrol_20 : decode cX8_patrol 20 = .ok (.istore_n 3, 1) := by decide +kernel
theorem dX8_patrol_21 : decode cX8_patrol 21 = .ok (.iload_n 3, 1) := by decide +kernel
theorem dX8_patrol_22 : decode cX8_patrol 22 = .ok (.ifCond .eq 9, 3) := by decide +kernel
theorem dX8_patrol_25 : decode cX8_patrol 25 = .ok (.aload_n 0, 1) := by decide +kernel
theorem dX8_patrol_26 : decode cX8_patrol 26 = .ok (.iload_n 3, 1) := by decide +kernel
theorem dX8_patrol_27 : decode cX8_patrol 27 = .ok (.invokevirtual 163, 3) := by decide +kernel
theorem dX8_patrol_30 : decode cX8_patrol 30 = .ok (.ireturn, 1) := by decide +kernel
theorem dX8_routeWhy_0 : decode cX8_routeWhy 0 = .ok (.aload_n 0, 1) := by decide +kernel
theorem dX8_routeWhy_1 : decode cX8_routeWhy 1 = .ok (.aload_n 0, 1) := by decide +kernel
theorem dX8_routeWhy_2 : decode cX8_routeWhy 2 = .ok (.iload_n 1, 1) := by decide +kernel
theorem dX8_routeWhy_3 : decode cX8_routeWhy 3 = .ok (.invokevirtual 277, 3) := by decide +kernel
theorem dX8_routeWhy_6 : decode cX8_routeWhy 6 = .ok (.iload_n 2, 1) := by decide +kernel
theorem dX8_routeWhy_7 : decode cX8_routeWhy 7 = .ok (.iconst 1, 1) := by decide +kernel
theorem dX8_routeWhy_8 : decode cX8_routeWhy 8 = .ok (.bipush 60, 2) := by decide +kernel
theorem dX8_routeWhy_10 : decode cX8_routeWhy 10 = .ok (.invokestatic 142, 3) := by decide +kernel
theorem dX8_routeWhy_13 : decode cX8_routeWhy 13 = .ok (.invokevirtual 290, 3) := by decide +kernel
theorem dX8_routeWhy_16 : decode cX8_routeWhy 16 = .ok (.ireturn, 1) := by decide +kernel
theorem dX8_route_0 : decode cX8_route 0 = .ok (.aload_n 0, 1) := by decide +kernel
theorem dX8_route_1 : decode cX8_route 1 = .ok (.invokevirtual 160, 3) := by decide +kernel
theorem dX8_route_4 : decode cX8_route 4 = .ok (.aload_n 0, 1) := by decide +kernel
theorem dX8_route_5 : decode cX8_route 5 = .ok (.iload_n 1, 1) := by decide +kernel
theorem dX8_route_6 : decode cX8_route 6 = .ok (.iload_n 2, 1) := by decide +kernel
theorem dX8_route_7 : decode cX8_route 7 = .ok (.invokevirtual 321, 3) := by decide +kernel
theorem dX8_route_10 : decode cX8_route 10 = .ok (.istore_n 3, 1) := by decide +kernel
theorem dX8_route_11 : decode cX8_route 11 = .ok (.iload_n 3, 1) := by decide +kernel
theorem dX8_route_12 : decode cX8_route 12 = .ok (.ifCond .eq 9, 3) := by decide +kernel
theorem dX8_route_15 : decode cX8_route 15 = .ok (.aload_n 0, 1) := by decide +kernel
theorem dX8_route_16 : decode cX8_route 16 = .ok (.iload_n 3, 1) := by decide +kernel
theorem dX8_route_17 : decode cX8_route 17 = .ok (.invokevirtual 163, 3) := by decide +kernel
theorem dX8_route_20 : decode cX8_route 20 = .ok (.ireturn, 1) := by decide +kernel
theorem dX8_routeAt_0 : decode cX8_routeAt 0 = .ok (.aload_n 0, 1) := by decide +kernel
theorem dX8_routeAt_1 : decode cX8_routeAt 1 = .ok (.invokevirtual 160, 3) := by decide +kernel
theorem dX8_routeAt_4 : decode cX8_routeAt 4 = .ok (.aload_n 0, 1) := by decide +kernel
theorem dX8_routeAt_5 : decode cX8_routeAt 5 = .ok (.iload_n 1, 1) := by decide +kernel
theorem dX8_routeAt_6 : decode cX8_routeAt 6 = .ok (.iload_n 2, 1) := by decide +kernel
theorem dX8_routeAt_7 : decode cX8_routeAt 7 = .ok (.invokevirtual 321, 3) := by decide +kernel
theorem dX8_routeAt_10 : decode cX8_routeAt 10 = .ok (.istore 4, 2) := by decide +kernel
theorem dX8_routeAt_12 : decode cX8_routeAt 12 = .ok (.iload 4, 2) := by decide +kernel
theorem dX8_routeAt_14 : decode cX8_routeAt 14 = .ok (.ifCond .ne 15, 3) := by decide +kernel
theorem dX8_routeAt_29 : decode cX8_routeAt 29 = .ok (.iload 4, 2) := by decide +kernel
theorem dX8_routeAt_31 : decode cX8_routeAt 31 = .ok (.ifCond .eq 10, 3) := by decide +kernel
theorem dX8_routeAt_34 : decode cX8_routeAt 34 = .ok (.aload_n 0, 1) := by decide +kernel
theorem dX8_routeAt_35 : decode cX8_routeAt 35 = .ok (.iload 4, 2) := by decide +kernel
theorem dX8_routeAt_37 : decode cX8_routeAt 37 = .ok (.invokevirtual 163, 3) := by decide +kernel
theorem dX8_routeAt_40 : decode cX8_routeAt 40 = .ok (.ireturn, 1) := by decide +kernel
theorem dX8_stand_0 : decode cX8_stand 0 = .ok (.aload_n 0, 1) := by decide +kernel
theorem dX8_stand_1 : decode cX8_stand 1 = .ok (.invokevirtual 160, 3) := by decide +kernel
theorem dX8_stand_4 : decode cX8_stand 4 = .ok (.aload_n 0, 1) := by decide +kernel
theorem dX8_stand_5 : decode cX8_stand 5 = .ok (.aload_n 0, 1) := by decide +kernel
theorem dX8_stand_6 : decode cX8_stand 6 = .ok (.getfield 173, 3) := by decide +kernel
theorem dX8_stand_9 : decode cX8_stand 9 = .ok (.iload_n 1, 1) := by decide +kernel
theorem dX8_stand_10 : decode cX8_stand 10 = .ok (.iconst 1, 1) := by decide +kernel
theorem dX8_stand_11 : decode cX8_stand 11 = .ok (.bipush 60, 2) := by decide +kernel
theorem dX8_stand_13 : decode cX8_stand 13 = .ok (.invokestatic 142, 3) := by decide +kernel
theorem dX8_stand_16 : decode cX8_stand 16 = .ok (.invokevirtual 290, 3) := by decide +kernel
theorem dX8_stand_19 : decode cX8_stand 19 = .ok (.istore_n 2, 1) := by decide +kernel
theorem dX8_stand_20 : decode cX8_stand 20 = .ok (.iload_n 2, 1) := by decide +kernel
theorem dX8_stand_21 : decode cX8_stand 21 = .ok (.ifCond .eq 9, 3) := by decide +kernel
theorem dX8_stand_24 : decode cX8_stand 24 = .ok (.aload_n 0, 1) := by decide +kernel
theorem dX8_stand_25 : decode cX8_stand 25 = .ok (.iload_n 2, 1) := by decide +kernel
theorem dX8_stand_26 : decode cX8_stand 26 = .ok (.invokevirtual 163, 3) := by decide +kernel
theorem dX8_stand_29 : decode cX8_stand 29 = .ok (.ireturn, 1) := by decide +kernel
theorem dX8_guard_0 : decode cX8_guard 0 = .ok (.aload_n 0, 1) := by decide +kernel
theorem dX8_guard_1 : decode cX8_guard 1 = .ok (.invokevirtual 160, 3) := by decide +kernel
theorem dX8_guard_4 : decode cX8_guard 4 = .ok (.aload_n 0, 1) := by decide +kernel
theorem dX8_guard_5 : decode cX8_guard 5 = .ok (.aload_n 0, 1) := by decide +kernel
theorem dX8_guard_6 : decode cX8_guard 6 = .ok (.getfield 173, 3) := by decide +kernel
theorem dX8_guard_9 : decode cX8_guard 9 = .ok (.iload_n 1, 1) := by decide +kernel
theorem dX8_guard_10 : decode cX8_guard 10 = .ok (.iconst 1, 1) := by decide +kernel
theorem dX8_guard_11 : decode cX8_guard 11 = .ok (.bipush 60, 2) := by decide +kernel
theorem dX8_guard_13 : decode cX8_guard 13 = .ok (.invokestatic 142, 3) := by decide +kernel
theorem dX8_guard_16 : decode cX8_guard 16 = .ok (.invokevirtual 290, 3) := by decide +kernel
theorem dX8_guard_19 : decode cX8_guard 19 = .ok (.istore_n 2, 1) := by decide +kernel
theorem dX8_guard_20 : decode cX8_guard 20 = .ok (.iload_n 2, 1) := by decide +kernel
theorem dX8_guard_21 : decode cX8_guard 21 = .ok (.ifCond .eq 9, 3) := by decide +kernel
theorem dX8_guard_24 : decode cX8_guard 24 = .ok (.aload_n 0, 1) := by decide +kernel
theorem dX8_guard_25 : decode cX8_guard 25 = .ok (.iload_n 2, 1) := by decide +kernel
theorem dX8_guard_26 : decode cX8_guard 26 = .ok (.invokevirtual 163, 3) := by decide +kernel
theorem dX8_guard_29 : decode cX8_guard 29 = .ok (.ireturn, 1) := by decide +kernel
theorem dX8_fits_0 : decode cX8_fits 0 = .ok (.aload_n 0, 1) := by decide +kernel
theorem dX8_fits_1 : decode cX8_fits 1 = .ok (.invokevirtual 160, 3) := by decide +kernel
theorem dX8_fits_4 : decode cX8_fits 4 = .ok (.aload_n 0, 1) := by decide +kernel
theorem dX8_fits_5 : decode cX8_fits 5 = .ok (.getfield 173, 3) := by decide +kernel
theorem dX8_fits_8 : decode cX8_fits 8 = .ok (.ifCond .ne 9, 3) := by decide +kernel
theorem dX8_fits_11 : decode cX8_fits 11 = .ok (.aload_n 0, 1) := by decide +kernel
theorem dX8_fits_12 : decode cX8_fits 12 = .ok (.iconst 1, 1) := by decide +kernel
theorem dX8_fits_13 : decode cX8_fits 13 = .ok (.invokevirtual 163, 3) := by decide +kernel
theorem dX8_fits_16 : decode cX8_fits 16 = .ok (.ireturn, 1) := by decide +kernel
theorem dX8_fitAt_0 : decode cX8_fitAt 0 = .ok (.aload_n 0, 1) := by decide +kernel
theorem dX8_fitAt_1 : decode cX8_fitAt 1 = .ok (.invokevirtual 160, 3) := by decide +kernel
theorem dX8_fitAt_4 : decode cX8_fitAt 4 = .ok (.aload_n 0, 1) := by decide +kernel
theorem dX8_fitAt_5 : decode cX8_fitAt 5 = .ok (.getfield 173, 3) := by decide +kernel
theorem dX8_fitAt_8 : decode cX8_fitAt 8 = .ok (.ifCond .ne 9, 3) := by decide +kernel
theorem dX8_fitAt_11 : decode cX8_fitAt 11 = .ok (.aload_n 0, 1) := by decide +kernel
theorem dX8_fitAt_12 : decode cX8_fitAt 12 = .ok (.iconst 1, 1) := by decide +kernel
theorem dX8_fitAt_13 : decode cX8_fitAt 13 = .ok (.invokevirtual 163, 3) := by decide +kernel
theorem dX8_fitAt_16 : decode cX8_fitAt 16 = .ok (.ireturn, 1) := by decide +kernel
theorem dX8_could_0 : decode cX8_could 0 = .ok (.aload_n 0, 1) := by decide +kernel
theorem dX8_could_1 : decode cX8_could 1 = .ok (.invokevirtual 160, 3) := by decide +kernel
theorem dX8_could_4 : decode cX8_could 4 = .ok (.aload_n 0, 1) := by decide +kernel
theorem dX8_could_5 : decode cX8_could 5 = .ok (.aload_n 0, 1) := by decide +kernel
theorem dX8_could_6 : decode cX8_could 6 = .ok (.getfield 173, 3) := by decide +kernel
theorem dX8_could_9 : decode cX8_could 9 = .ok (.iload_n 1, 1) := by decide +kernel
theorem dX8_could_10 : decode cX8_could 10 = .ok (.iconst 0, 1) := by decide +kernel
theorem dX8_could_11 : decode cX8_could 11 = .ok (.sipush 999, 3) := by decide +kernel
theorem dX8_could_14 : decode cX8_could 14 = .ok (.invokestatic 142, 3) := by decide +kernel
theorem dX8_could_17 : decode cX8_could 17 = .ok (.invokevirtual 290, 3) := by decide +kernel
theorem dX8_could_20 : decode cX8_could 20 = .ok (.istore_n 2, 1) := by decide +kernel
theorem dX8_could_21 : decode cX8_could 21 = .ok (.iload_n 2, 1) := by decide +kernel
theorem dX8_could_22 : decode cX8_could 22 = .ok (.ifCond .eq 9, 3) := by decide +kernel
theorem dX8_could_25 : decode cX8_could 25 = .ok (.aload_n 0, 1) := by decide +kernel
theorem dX8_could_26 : decode cX8_could 26 = .ok (.iload_n 2, 1) := by decide +kernel
theorem dX8_could_27 : decode cX8_could 27 = .ok (.invokevirtual 163, 3) := by decide +kernel
theorem dX8_could_30 : decode cX8_could 30 = .ok (.ireturn, 1) := by decide +kernel
theorem dX8_aliveBy_0 : decode cX8_aliveBy 0 = .ok (.aload_n 0, 1) := by decide +kernel
theorem dX8_aliveBy_1 : decode cX8_aliveBy 1 = .ok (.invokevirtual 160, 3) := by decide +kernel
theorem dX8_aliveBy_4 : decode cX8_aliveBy 4 = .ok (.aload_n 0, 1) := by decide +kernel
theorem dX8_aliveBy_5 : decode cX8_aliveBy 5 = .ok (.aload_n 0, 1) := by decide +kernel
theorem dX8_aliveBy_6 : decode cX8_aliveBy 6 = .ok (.iload_n 1, 1) := by decide +kernel
theorem dX8_aliveBy_7 : decode cX8_aliveBy 7 = .ok (.invokevirtual 277, 3) := by decide +kernel
theorem dX8_aliveBy_10 : decode cX8_aliveBy 10 = .ok (.iload_n 2, 1) := by decide +kernel
theorem dX8_aliveBy_11 : decode cX8_aliveBy 11 = .ok (.iconst 0, 1) := by decide +kernel
theorem dX8_aliveBy_12 : decode cX8_aliveBy 12 = .ok (.sipush 999, 3) := by decide +kernel
theorem dX8_aliveBy_15 : decode cX8_aliveBy 15 = .ok (.invokestatic 142, 3) := by decide +kernel
theorem dX8_aliveBy_18 : decode cX8_aliveBy 18 = .ok (.invokevirtual 290, 3) := by decide +kernel
theorem dX8_aliveBy_21 : decode cX8_aliveBy 21 = .ok (.istore_n 3, 1) := by decide +kernel
theorem dX8_aliveBy_22 : decode cX8_aliveBy 22 = .ok (.iload_n 3, 1) := by decide +kernel
theorem dX8_aliveBy_23 : decode cX8_aliveBy 23 = .ok (.ifCond .eq 9, 3) := by decide +kernel
theorem dX8_aliveBy_26 : decode cX8_aliveBy 26 = .ok (.aload_n 0, 1) := by decide +kernel
theorem dX8_aliveBy_27 : decode cX8_aliveBy 27 = .ok (.iload_n 3, 1) := by decide +kernel
theorem dX8_aliveBy_28 : decode cX8_aliveBy 28 = .ok (.invokevirtual 163, 3) := by decide +kernel
theorem dX8_aliveBy_31 : decode cX8_aliveBy 31 = .ok (.ireturn, 1) := by decide +kernel
theorem dX8_look_0 : decode cX8_look 0 = .ok (.aload_n 0, 1) := by decide +kernel
theorem dX8_look_1 : decode cX8_look 1 = .ok (.invokevirtual 160, 3) := by decide +kernel
theorem dX8_look_4 : decode cX8_look 4 = .ok (.aload_n 0, 1) := by decide +kernel
theorem dX8_look_5 : decode cX8_look 5 = .ok (.getfield 173, 3) := by decide +kernel
theorem dX8_look_8 : decode cX8_look 8 = .ok (.ifCond .eq 10, 3) := by decide +kernel
theorem dX8_look_18 : decode cX8_look 18 = .ok (.aload_n 0, 1) := by decide +kernel
theorem dX8_look_19 : decode cX8_look 19 = .ok (.iconst 1, 1) := by decide +kernel
theorem dX8_look_20 : decode cX8_look 20 = .ok (.invokevirtual 163, 3) := by decide +kernel
theorem dX8_look_23 : decode cX8_look 23 = .ok (.ireturn, 1) := by decide +kernel
theorem dX8_lookLeaves_0 : decode cX8_lookLeaves 0 = .ok (.aload_n 0, 1) := by decide +kernel
theorem dX8_lookLeaves_1 : decode cX8_lookLeaves 1 = .ok (.invokevirtual 160, 3) := by decide +kernel
theorem dX8_lookLeaves_4 : decode cX8_lookLeaves 4 = .ok (.aload_n 0, 1) := by decide +kernel
theorem dX8_lookLeaves_5 : decode cX8_lookLeaves 5 = .ok (.getfield 173, 3) := by decide +kernel
theorem dX8_lookLeaves_8 : decode cX8_lookLeaves 8 = .ok (.ifCond .ne 9, 3) := by decide +kernel
theorem dX8_lookLeaves_11 : decode cX8_lookLeaves 11 = .ok (.aload_n 0, 1) := by decide +kernel
theorem dX8_lookLeaves_12 : decode cX8_lookLeaves 12 = .ok (.iconst 1, 1) := by decide +kernel
theorem dX8_lookLeaves_13 : decode cX8_lookLeaves 13 = .ok (.invokevirtual 163, 3) := by decide +kernel
theorem dX8_lookLeaves_16 : decode cX8_lookLeaves 16 = .ok (.ireturn, 1) := by decide +kernel
theorem dX8_judge_0 : decode cX8_judge 0 = .ok (.aload_n 0, 1) := by decide +kernel
theorem dX8_judge_1 : decode cX8_judge 1 = .ok (.invokevirtual 160, 3) := by decide +kernel
theorem dX8_judge_4 : decode cX8_judge 4 = .ok (.aload_n 0, 1) := by decide +kernel
theorem dX8_judge_5 : decode cX8_judge 5 = .ok (.getfield 173, 3) := by decide +kernel
theorem dX8_judge_8 : decode cX8_judge 8 = .ok (.ifCond .ne 9, 3) := by decide +kernel
theorem dX8_judge_11 : decode cX8_judge 11 = .ok (.aload_n 0, 1) := by decide +kernel
theorem dX8_judge_12 : decode cX8_judge 12 = .ok (.iconst 1, 1) := by decide +kernel
theorem dX8_judge_13 : decode cX8_judge 13 = .ok (.invokevirtual 163, 3) := by decide +kernel
theorem dX8_judge_16 : decode cX8_judge 16 = .ok (.ireturn, 1) := by decide +kernel
theorem dX8_lawsLike_0 : decode cX8_lawsLike 0 = .ok (.aload_n 0, 1) := by decide +kernel
theorem dX8_lawsLike_1 : decode cX8_lawsLike 1 = .ok (.invokevirtual 160, 3) := by decide +kernel
theorem dX8_lawsLike_4 : decode cX8_lawsLike 4 = .ok (.aload_n 0, 1) := by decide +kernel
theorem dX8_lawsLike_5 : decode cX8_lawsLike 5 = .ok (.getfield 173, 3) := by decide +kernel
theorem dX8_lawsLike_8 : decode cX8_lawsLike 8 = .ok (.ifCond .ne 9, 3) := by decide +kernel
theorem dX8_lawsLike_11 : decode cX8_lawsLike 11 = .ok (.aload_n 0, 1) := by decide +kernel
theorem dX8_lawsLike_12 : decode cX8_lawsLike 12 = .ok (.iconst 1, 1) := by decide +kernel
theorem dX8_lawsLike_13 : decode cX8_lawsLike 13 = .ok (.invokevirtual 163, 3) := by decide +kernel
theorem dX8_lawsLike_16 : decode cX8_lawsLike 16 = .ok (.ireturn, 1) := by decide +kernel
theorem dX8_lawFor_0 : decode cX8_lawFor 0 = .ok (.aload_n 0, 1) := by decide +kernel
theorem dX8_lawFor_1 : decode cX8_lawFor 1 = .ok (.invokevirtual 160, 3) := by decide +kernel
theorem dX8_lawFor_4 : decode cX8_lawFor 4 = .ok (.aload_n 0, 1) := by decide +kernel
theorem dX8_lawFor_5 : decode cX8_lawFor 5 = .ok (.aload_n 0, 1) := by decide +kernel
theorem dX8_lawFor_6 : decode cX8_lawFor 6 = .ok (.iload_n 1, 1) := by decide +kernel
theorem dX8_lawFor_7 : decode cX8_lawFor 7 = .ok (.invokevirtual 277, 3) := by decide +kernel
theorem dX8_lawFor_10 : decode cX8_lawFor 10 = .ok (.iload_n 2, 1) := by decide +kernel
theorem dX8_lawFor_11 : decode cX8_lawFor 11 = .ok (.iconst 0, 1) := by decide +kernel
theorem dX8_lawFor_12 : decode cX8_lawFor 12 = .ok (.bipush 99, 2) := by decide +kernel
theorem dX8_lawFor_14 : decode cX8_lawFor 14 = .ok (.invokestatic 142, 3) := by decide +kernel
theorem dX8_lawFor_17 : decode cX8_lawFor 17 = .ok (.invokevirtual 290, 3) := by decide +kernel
theorem dX8_lawFor_20 : decode cX8_lawFor 20 = .ok (.istore_n 3, 1) := by decide +kernel
theorem dX8_lawFor_21 : decode cX8_lawFor 21 = .ok (.iload_n 3, 1) := by decide +kernel
theorem dX8_lawFor_22 : decode cX8_lawFor 22 = .ok (.ifCond .eq 9, 3) := by decide +kernel
theorem dX8_lawFor_25 : decode cX8_lawFor 25 = .ok (.aload_n 0, 1) := by decide +kernel
theorem dX8_lawFor_26 : decode cX8_lawFor 26 = .ok (.iload_n 3, 1) := by decide +kernel
theorem dX8_lawFor_27 : decode cX8_lawFor 27 = .ok (.invokevirtual 163, 3) := by decide +kernel
theorem dX8_lawFor_30 : decode cX8_lawFor 30 = .ok (.ireturn, 1) := by decide +kernel
theorem dX8_dares_0 : decode cX8_dares 0 = .ok (.aload_n 0, 1) := by decide +kernel
theorem dX8_dares_1 : decode cX8_dares 1 = .ok (.invokevirtual 160, 3) := by decide +kernel
theorem dX8_dares_4 : decode cX8_dares 4 = .ok (.aload_n 0, 1) := by decide +kernel
theorem dX8_dares_5 : decode cX8_dares 5 = .ok (.aload_n 0, 1) := by decide +kernel
theorem dX8_dares_6 : decode cX8_dares 6 = .ok (.getfield 173, 3) := by decide +kernel
theorem dX8_dares_9 : decode cX8_dares 9 = .ok (.iload_n 1, 1) := by decide +kernel
theorem dX8_dares_10 : decode cX8_dares 10 = .ok (.iconst 0, 1) := by decide +kernel
theorem dX8_dares_11 : decode cX8_dares 11 = .ok (.bipush 9, 2) := by decide +kernel
theorem dX8_dares_13 : decode cX8_dares 13 = .ok (.invokestatic 142, 3) := by decide +kernel
theorem dX8_dares_16 : decode cX8_dares 16 = .ok (.invokevirtual 290, 3) := by decide +kernel
theorem dX8_dares_19 : decode cX8_dares 19 = .ok (.istore 5, 2) := by decide +kernel
theorem dX8_dares_21 : decode cX8_dares 21 = .ok (.iload 5, 2) := by decide +kernel
theorem dX8_dares_23 : decode cX8_dares 23 = .ok (.ifCond .ne 23, 3) := by decide +kernel
theorem dX8_dares_46 : decode cX8_dares 46 = .ok (.aload_n 0, 1) := by decide +kernel
theorem dX8_dares_47 : decode cX8_dares 47 = .ok (.iload 5, 2) := by decide +kernel
theorem dX8_dares_49 : decode cX8_dares 49 = .ok (.putfield 62, 3) := by decide +kernel
theorem dX8_dares_52 : decode cX8_dares 52 = .ok (.bipush (-100), 2) := by decide +kernel
theorem dX8_dares_54 : decode cX8_dares 54 = .ok (.ireturn, 1) := by decide +kernel
theorem dX8_rests_0 : decode cX8_rests 0 = .ok (.aload_n 0, 1) := by decide +kernel
theorem dX8_rests_1 : decode cX8_rests 1 = .ok (.invokevirtual 160, 3) := by decide +kernel
theorem dX8_rests_4 : decode cX8_rests 4 = .ok (.aload_n 0, 1) := by decide +kernel
theorem dX8_rests_5 : decode cX8_rests 5 = .ok (.aload_n 0, 1) := by decide +kernel
theorem dX8_rests_6 : decode cX8_rests 6 = .ok (.getfield 173, 3) := by decide +kernel
theorem dX8_rests_9 : decode cX8_rests 9 = .ok (.iload_n 1, 1) := by decide +kernel
theorem dX8_rests_10 : decode cX8_rests 10 = .ok (.iconst 0, 1) := by decide +kernel
theorem dX8_rests_11 : decode cX8_rests 11 = .ok (.bipush 9, 2) := by decide +kernel
theorem dX8_rests_13 : decode cX8_rests 13 = .ok (.invokestatic 142, 3) := by decide +kernel
theorem dX8_rests_16 : decode cX8_rests 16 = .ok (.invokevirtual 290, 3) := by decide +kernel
theorem dX8_rests_19 : decode cX8_rests 19 = .ok (.istore_n 2, 1) := by decide +kernel
theorem dX8_rests_20 : decode cX8_rests 20 = .ok (.iload_n 2, 1) := by decide +kernel
theorem dX8_rests_21 : decode cX8_rests 21 = .ok (.ifCond .eq 11, 3) := by decide +kernel
theorem dX8_rests_24 : decode cX8_rests 24 = .ok (.aload_n 0, 1) := by decide +kernel
theorem dX8_rests_25 : decode cX8_rests 25 = .ok (.iload_n 2, 1) := by decide +kernel
theorem dX8_rests_26 : decode cX8_rests 26 = .ok (.invokevirtual 163, 3) := by decide +kernel
theorem dX8_rests_29 : decode cX8_rests 29 = .ok (.goto 8, 3) := by decide +kernel
theorem dX8_rests_37 : decode cX8_rests 37 = .ok (.ireturn, 1) := by decide +kernel
theorem dX8_rest_0 : decode cX8_rest 0 = .ok (.aload_n 0, 1) := by decide +kernel
theorem dX8_rest_1 : decode cX8_rest 1 = .ok (.invokevirtual 160, 3) := by decide +kernel
theorem dX8_rest_4 : decode cX8_rest 4 = .ok (.aload_n 0, 1) := by decide +kernel
theorem dX8_rest_5 : decode cX8_rest 5 = .ok (.aload_n 0, 1) := by decide +kernel
theorem dX8_rest_6 : decode cX8_rest 6 = .ok (.getfield 173, 3) := by decide +kernel
theorem dX8_rest_9 : decode cX8_rest 9 = .ok (.iload_n 1, 1) := by decide +kernel
theorem dX8_rest_10 : decode cX8_rest 10 = .ok (.iconst 0, 1) := by decide +kernel
theorem dX8_rest_11 : decode cX8_rest 11 = .ok (.bipush 9, 2) := by decide +kernel
theorem dX8_rest_13 : decode cX8_rest 13 = .ok (.invokestatic 142, 3) := by decide +kernel
theorem dX8_rest_16 : decode cX8_rest 16 = .ok (.invokevirtual 290, 3) := by decide +kernel
theorem dX8_rest_19 : decode cX8_rest 19 = .ok (.istore_n 2, 1) := by decide +kernel
theorem dX8_rest_20 : decode cX8_rest 20 = .ok (.iload_n 2, 1) := by decide +kernel
theorem dX8_rest_21 : decode cX8_rest 21 = .ok (.ifCond .eq 9, 3) := by decide +kernel
theorem dX8_rest_24 : decode cX8_rest 24 = .ok (.aload_n 0, 1) := by decide +kernel
theorem dX8_rest_25 : decode cX8_rest 25 = .ok (.iload_n 2, 1) := by decide +kernel
theorem dX8_rest_26 : decode cX8_rest 26 = .ok (.invokevirtual 163, 3) := by decide +kernel
theorem dX8_rest_29 : decode cX8_rest 29 = .ok (.ireturn, 1) := by decide +kernel
theorem dX8_odds_0 : decode cX8_odds 0 = .ok (.aload_n 0, 1) := by decide +kernel
theorem dX8_odds_1 : decode cX8_odds 1 = .ok (.invokevirtual 160, 3) := by decide +kernel
theorem dX8_odds_4 : decode cX8_odds 4 = .ok (.aload_n 0, 1) := by decide +kernel
theorem dX8_odds_5 : decode cX8_odds 5 = .ok (.aload_n 0, 1) := by decide +kernel
theorem dX8_odds_6 : decode cX8_odds 6 = .ok (.iload_n 1, 1) := by decide +kernel
theorem dX8_odds_7 : decode cX8_odds 7 = .ok (.invokevirtual 277, 3) := by decide +kernel
theorem dX8_odds_10 : decode cX8_odds 10 = .ok (.iload_n 2, 1) := by decide +kernel
theorem dX8_odds_11 : decode cX8_odds 11 = .ok (.iconst 0, 1) := by decide +kernel
theorem dX8_odds_12 : decode cX8_odds 12 = .ok (.bipush 8, 2) := by decide +kernel
theorem dX8_odds_14 : decode cX8_odds 14 = .ok (.invokestatic 142, 3) := by decide +kernel
theorem dX8_odds_17 : decode cX8_odds 17 = .ok (.invokevirtual 290, 3) := by decide +kernel
theorem dX8_odds_20 : decode cX8_odds 20 = .ok (.istore 4, 2) := by decide +kernel
theorem dX8_odds_22 : decode cX8_odds 22 = .ok (.iload 4, 2) := by decide +kernel
theorem dX8_odds_24 : decode cX8_odds 24 = .ok (.ifCond .eq 11, 3) := by decide +kernel
theorem dX8_odds_27 : decode cX8_odds 27 = .ok (.aload_n 0, 1) := by decide +kernel
theorem dX8_odds_28 : decode cX8_odds 28 = .ok (.iload 4, 2) := by decide +kernel
theorem dX8_odds_30 : decode cX8_odds 30 = .ok (.invokevirtual 163, 3) := by decide +kernel
theorem dX8_odds_33 : decode cX8_odds 33 = .ok (.i2l, 1) := by decide +kernel
theorem dX8_odds_34 : decode cX8_odds 34 = .ok (.lreturn, 1) := by decide +kernel
theorem dX8_mean_0 : decode cX8_mean 0 = .ok (.aload_n 0, 1) := by decide +kernel
theorem dX8_mean_1 : decode cX8_mean 1 = .ok (.invokevirtual 160, 3) := by decide +kernel
theorem dX8_mean_4 : decode cX8_mean 4 = .ok (.aload_n 0, 1) := by decide +kernel
theorem dX8_mean_5 : decode cX8_mean 5 = .ok (.aload_n 0, 1) := by decide +kernel
theorem dX8_mean_6 : decode cX8_mean 6 = .ok (.iload_n 1, 1) := by decide +kernel
theorem dX8_mean_7 : decode cX8_mean 7 = .ok (.invokevirtual 277, 3) := by decide +kernel
theorem dX8_mean_10 : decode cX8_mean 10 = .ok (.iload_n 2, 1) := by decide +kernel
theorem dX8_mean_11 : decode cX8_mean 11 = .ok (.iconst 0, 1) := by decide +kernel
theorem dX8_mean_12 : decode cX8_mean 12 = .ok (.bipush 8, 2) := by decide +kernel
theorem dX8_mean_14 : decode cX8_mean 14 = .ok (.invokestatic 142, 3) := by decide +kernel
theorem dX8_mean_17 : decode cX8_mean 17 = .ok (.invokevirtual 290, 3) := by decide +kernel
theorem dX8_mean_20 : decode cX8_mean 20 = .ok (.istore 4, 2) := by decide +kernel
theorem dX8_mean_22 : decode cX8_mean 22 = .ok (.iload 4, 2) := by decide +kernel
theorem dX8_mean_24 : decode cX8_mean 24 = .ok (.ifCond .eq 11, 3) := by decide +kernel
theorem dX8_mean_27 : decode cX8_mean 27 = .ok (.aload_n 0, 1) := by decide +kernel
theorem dX8_mean_28 : decode cX8_mean 28 = .ok (.iload 4, 2) := by decide +kernel
theorem dX8_mean_30 : decode cX8_mean 30 = .ok (.invokevirtual 163, 3) := by decide +kernel
theorem dX8_mean_33 : decode cX8_mean 33 = .ok (.i2l, 1) := by decide +kernel
theorem dX8_mean_34 : decode cX8_mean 34 = .ok (.lreturn, 1) := by decide +kernel
theorem dX8_drawWhy_0 : decode cX8_drawWhy 0 = .ok (.aload_n 0, 1) := by decide +kernel
theorem dX8_drawWhy_1 : decode cX8_drawWhy 1 = .ok (.iload_n 1, 1) := by decide +kernel
theorem dX8_drawWhy_2 : decode cX8_drawWhy 2 = .ok (.iload_n 3, 1) := by decide +kernel
theorem dX8_drawWhy_3 : decode cX8_drawWhy 3 = .ok (.iconst 0, 1) := by decide +kernel
theorem dX8_drawWhy_4 : decode cX8_drawWhy 4 = .ok (.ldc_w 374, 3) := by decide +kernel
theorem dX8_drawWhy_7 : decode cX8_drawWhy 7 = .ok (.invokestatic 142, 3) := by decide +kernel
theorem dX8_drawWhy_10 : decode cX8_drawWhy 10 = .ok (.ifCond .eq 19, 3) := by decide +kernel
theorem dX8_drawWhy_13 : decode cX8_drawWhy 13 = .ok (.iload 4, 2) := by decide +kernel
theorem dX8_drawWhy_15 : decode cX8_drawWhy 15 = .ok (.iconst 0, 1) := by decide +kernel
theorem dX8_drawWhy_16 : decode cX8_drawWhy 16 = .ok (.sipush 200, 3) := by decide +kernel
theorem dX8_drawWhy_19 : decode cX8_drawWhy 19 = .ok (.invokestatic 142, 3) := by decide +kernel
theorem dX8_drawWhy_22 : decode cX8_drawWhy 22 = .ok (.ifCond .eq 7, 3) := by decide +kernel
theorem dX8_drawWhy_25 : decode cX8_drawWhy 25 = .ok (.iconst 1, 1) := by decide +kernel
theorem dX8_drawWhy_26 : decode cX8_drawWhy 26 = .ok (.goto 4, 3) := by decide +kernel
theorem dX8_drawWhy_29 : decode cX8_drawWhy 29 = .ok (.iconst 0, 1) := by decide +kernel
theorem dX8_drawWhy_30 : decode cX8_drawWhy 30 = .ok (.invokevirtual 290, 3) := by decide +kernel
theorem dX8_drawWhy_33 : decode cX8_drawWhy 33 = .ok (.istore 5, 2) := by decide +kernel
theorem dX8_drawWhy_35 : decode cX8_drawWhy 35 = .ok (.iload 5, 2) := by decide +kernel
theorem dX8_drawWhy_37 : decode cX8_drawWhy 37 = .ok (.ifCond .eq 6, 3) := by decide +kernel
theorem dX8_drawWhy_40 : decode cX8_drawWhy 40 = .ok (.iload 5, 2) := by decide +kernel
theorem dX8_drawWhy_42 : decode cX8_drawWhy 42 = .ok (.ireturn, 1) := by decide +kernel
theorem dX8_drawn_0 : decode cX8_drawn 0 = .ok (.aload_n 0, 1) := by decide +kernel
theorem dX8_drawn_1 : decode cX8_drawn 1 = .ok (.invokevirtual 160, 3) := by decide +kernel
theorem dX8_drawn_4 : decode cX8_drawn 4 = .ok (.aload_n 0, 1) := by decide +kernel
theorem dX8_drawn_5 : decode cX8_drawn 5 = .ok (.aload_n 0, 1) := by decide +kernel
theorem dX8_drawn_6 : decode cX8_drawn 6 = .ok (.iload_n 1, 1) := by decide +kernel
theorem dX8_drawn_7 : decode cX8_drawn 7 = .ok (.invokevirtual 277, 3) := by decide +kernel
theorem dX8_drawn_10 : decode cX8_drawn 10 = .ok (.iload_n 1, 1) := by decide +kernel
theorem dX8_drawn_11 : decode cX8_drawn 11 = .ok (.iload_n 2, 1) := by decide +kernel
theorem dX8_drawn_12 : decode cX8_drawn 12 = .ok (.iload_n 3, 1) := by decide +kernel
theorem dX8_drawn_13 : decode cX8_drawn 13 = .ok (.invokevirtual 382, 3) := by decide +kernel
theorem dX8_drawn_16 : decode cX8_drawn 16 = .ok (.istore 4, 2) := by decide +kernel
theorem dX8_drawn_18 : decode cX8_drawn 18 = .ok (.iload 4, 2) := by decide +kernel
theorem dX8_drawn_20 : decode cX8_drawn 20 = .ok (.ifCond .eq 12, 3) := by decide +kernel
theorem dX8_drawn_23 : decode cX8_drawn 23 = .ok (.aload_n 0, 1) := by decide +kernel
theorem dX8_drawn_24 : decode cX8_drawn 24 = .ok (.iload 4, 2) := by decide +kernel
theorem dX8_drawn_26 : decode cX8_drawn 26 = .ok (.invokevirtual 163, 3) := by decide +kernel
theorem dX8_drawn_29 : decode cX8_drawn 29 = .ok (.goto 7, 3) := by decide +kernel
theorem dX8_drawn_36 : decode cX8_drawn 36 = .ok (.ireturn, 1) := by decide +kernel
theorem dX8_firstShut_0 : decode cX8_firstShut 0 = .ok (.aload_n 0, 1) := by decide +kernel
theorem dX8_firstShut_1 : decode cX8_firstShut 1 = .ok (.invokevirtual 160, 3) := by decide +kernel
theorem dX8_firstShut_4 : decode cX8_firstShut 4 = .ok (.aload_n 0, 1) := by decide +kernel
theorem dX8_firstShut_5 : decode cX8_firstShut 5 = .ok (.aload_n 0, 1) := by decide +kernel
theorem dX8_firstShut_6 : decode cX8_firstShut 6 = .ok (.getfield 173, 3) := by decide +kernel
theorem dX8_firstShut_9 : decode cX8_firstShut 9 = .ok (.iconst (-1), 1) := by decide +kernel
theorem dX8_firstShut_10 : decode cX8_firstShut 10 = .ok (.iload_n 1, 1) := by decide +kernel
theorem dX8_firstShut_11 : decode cX8_firstShut 11 = .ok (.iload_n 2, 1) := by decide +kernel
theorem dX8_firstShut_12 : decode cX8_firstShut 12 = .ok (.invokevirtual 382, 3) := by decide +kernel
theorem dX8_firstShut_15 : decode cX8_firstShut 15 = .ok (.istore_n 3, 1) := by decide +kernel
theorem dX8_firstShut_16 : decode cX8_firstShut 16 = .ok (.iload_n 3, 1) := by decide +kernel
theorem dX8_firstShut_17 : decode cX8_firstShut 17 = .ok (.ifCond .eq 11, 3) := by decide +kernel
theorem dX8_firstShut_20 : decode cX8_firstShut 20 = .ok (.aload_n 0, 1) := by decide +kernel
theorem dX8_firstShut_21 : decode cX8_firstShut 21 = .ok (.iload_n 3, 1) := by decide +kernel
theorem dX8_firstShut_22 : decode cX8_firstShut 22 = .ok (.invokevirtual 163, 3) := by decide +kernel
theorem dX8_firstShut_25 : decode cX8_firstShut 25 = .ok (.goto 7, 3) := by decide +kernel
theorem dX8_firstShut_32 : decode cX8_firstShut 32 = .ok (.ireturn, 1) := by decide +kernel
theorem dX8_go_0 : decode cX8_go 0 = .ok (.aload_n 0, 1) := by decide +kernel
theorem dX8_go_1 : decode cX8_go 1 = .ok (.invokevirtual 160, 3) := by decide +kernel
theorem dX8_go_4 : decode cX8_go 4 = .ok (.aload_n 0, 1) := by decide +kernel
theorem dX8_go_5 : decode cX8_go 5 = .ok (.aload_n 0, 1) := by decide +kernel
theorem dX8_go_6 : decode cX8_go 6 = .ok (.getfield 173, 3) := by decide +kernel
theorem dX8_go_9 : decode cX8_go 9 = .ok (.iload_n 1, 1) := by decide +kernel
theorem dX8_go_10 : decode cX8_go 10 = .ok (.iconst 1, 1) := by decide +kernel
theorem dX8_go_11 : decode cX8_go 11 = .ok (.bipush 60, 2) := by decide +kernel
theorem dX8_go_13 : decode cX8_go 13 = .ok (.invokestatic 142, 3) := by decide +kernel
theorem dX8_go_16 : decode cX8_go 16 = .ok (.invokevirtual 290, 3) := by decide +kernel
theorem dX8_go_19 : decode cX8_go 19 = .ok (.istore_n 2, 1) := by decide +kernel
theorem dX8_go_20 : decode cX8_go 20 = .ok (.iload_n 2, 1) := by decide +kernel
theorem dX8_go_21 : decode cX8_go 21 = .ok (.ifCond .ne 20, 3) := by decide +kernel
theorem dX8_go_41 : decode cX8_go 41 = .ok (.iload_n 2, 1) := by decide +kernel
theorem dX8_go_42 : decode cX8_go 42 = .ok (.ifCond .eq 9, 3) := by decide +kernel
theorem dX8_go_45 : decode cX8_go 45 = .ok (.aload_n 0, 1) := by decide +kernel
theorem dX8_go_46 : decode cX8_go 46 = .ok (.iload_n 2, 1) := by decide +kernel
theorem dX8_go_47 : decode cX8_go 47 = .ok (.invokevirtual 163, 3) := by decide +kernel
theorem dX8_go_50 : decode cX8_go 50 = .ok (.ireturn, 1) := by decide +kernel
theorem dX8_put_0 : decode cX8_put 0 = .ok (.aload_n 0, 1) := by decide +kernel
theorem dX8_put_1 : decode cX8_put 1 = .ok (.invokevirtual 160, 3) := by decide +kernel
theorem dX8_put_4 : decode cX8_put 4 = .ok (.aload_n 0, 1) := by decide +kernel
theorem dX8_put_5 : decode cX8_put 5 = .ok (.iload_n 1, 1) := by decide +kernel
theorem dX8_put_6 : decode cX8_put 6 = .ok (.invokevirtual 277, 3) := by decide +kernel
theorem dX8_put_9 : decode cX8_put 9 = .ok (.ifCond .ne 9, 3) := by decide +kernel
theorem dX8_put_12 : decode cX8_put 12 = .ok (.aload_n 0, 1) := by decide +kernel
theorem dX8_put_13 : decode cX8_put 13 = .ok (.iconst 1, 1) := by decide +kernel
theorem dX8_put_14 : decode cX8_put 14 = .ok (.invokevirtual 163, 3) := by decide +kernel
theorem dX8_put_17 : decode cX8_put 17 = .ok (.ireturn, 1) := by decide +kernel
theorem dX8_wind_0 : decode cX8_wind 0 = .ok (.aload_n 0, 1) := by decide +kernel
theorem dX8_wind_1 : decode cX8_wind 1 = .ok (.invokevirtual 160, 3) := by decide +kernel
theorem dX8_wind_4 : decode cX8_wind 4 = .ok (.aload_n 0, 1) := by decide +kernel
theorem dX8_wind_5 : decode cX8_wind 5 = .ok (.iload_n 1, 1) := by decide +kernel
theorem dX8_wind_6 : decode cX8_wind 6 = .ok (.invokevirtual 277, 3) := by decide +kernel
theorem dX8_wind_9 : decode cX8_wind 9 = .ok (.ifCond .ne 9, 3) := by decide +kernel
theorem dX8_wind_12 : decode cX8_wind 12 = .ok (.aload_n 0, 1) := by decide +kernel
theorem dX8_wind_13 : decode cX8_wind 13 = .ok (.iconst 1, 1) := by decide +kernel
theorem dX8_wind_14 : decode cX8_wind 14 = .ok (.invokevirtual 163, 3) := by decide +kernel
theorem dX8_wind_17 : decode cX8_wind 17 = .ok (.ireturn, 1) := by decide +kernel
theorem dX8_undo_0 : decode cX8_undo 0 = .ok (.aload_n 0, 1) := by decide +kernel
theorem dX8_undo_1 : decode cX8_undo 1 = .ok (.invokevirtual 160, 3) := by decide +kernel
theorem dX8_undo_4 : decode cX8_undo 4 = .ok (.aload_n 0, 1) := by decide +kernel
theorem dX8_undo_5 : decode cX8_undo 5 = .ok (.getfield 176, 3) := by decide +kernel
theorem dX8_undo_8 : decode cX8_undo 8 = .ok (.ifCond .ne 10, 3) := by decide +kernel
theorem dX8_undo_11 : decode cX8_undo 11 = .ok (.aload_n 0, 1) := by decide +kernel
theorem dX8_undo_12 : decode cX8_undo 12 = .ok (.bipush 6, 2) := by decide +kernel
theorem dX8_undo_14 : decode cX8_undo 14 = .ok (.invokevirtual 389, 3) := by decide +kernel
theorem dX8_undo_17 : decode cX8_undo 17 = .ok (.ireturn, 1) := by decide +kernel
theorem dX8_image_0 : decode cX8_image 0 = .ok (.aload_n 0, 1) := by decide +kernel
theorem dX8_image_1 : decode cX8_image 1 = .ok (.invokevirtual 160, 3) := by decide +kernel
theorem dX8_image_4 : decode cX8_image 4 = .ok (.aload_n 0, 1) := by decide +kernel
theorem dX8_image_5 : decode cX8_image 5 = .ok (.getfield 173, 3) := by decide +kernel
theorem dX8_image_8 : decode cX8_image 8 = .ok (.ifCond .ne 9, 3) := by decide +kernel
theorem dX8_image_11 : decode cX8_image 11 = .ok (.aload_n 0, 1) := by decide +kernel
theorem dX8_image_12 : decode cX8_image 12 = .ok (.iconst 1, 1) := by decide +kernel
theorem dX8_image_13 : decode cX8_image 13 = .ok (.invokevirtual 163, 3) := by decide +kernel
theorem dX8_image_16 : decode cX8_image 16 = .ok (.ireturn, 1) := by decide +kernel
theorem dX8_back_0 : decode cX8_back 0 = .ok (.aload_n 0, 1) := by decide +kernel
theorem dX8_back_1 : decode cX8_back 1 = .ok (.invokevirtual 160, 3) := by decide +kernel
theorem dX8_back_4 : decode cX8_back 4 = .ok (.iload_n 1, 1) := by decide +kernel
theorem dX8_back_5 : decode cX8_back 5 = .ok (.iconst 0, 1) := by decide +kernel
theorem dX8_back_6 : decode cX8_back 6 = .ok (.aload_n 0, 1) := by decide +kernel
theorem dX8_back_7 : decode cX8_back 7 = .ok (.getfield 179, 3) := by decide +kernel
theorem dX8_back_10 : decode cX8_back 10 = .ok (.iconst 1, 1) := by decide +kernel
theorem dX8_back_11 : decode cX8_back 11 = .ok (.isub, 1) := by decide +kernel
theorem dX8_back_12 : decode cX8_back 12 = .ok (.invokestatic 142, 3) := by decide +kernel
theorem dX8_back_15 : decode cX8_back 15 = .ok (.ifCond .ne 9, 3) := by decide +kernel
theorem dX8_back_18 : decode cX8_back 18 = .ok (.aload_n 0, 1) := by decide +kernel
theorem dX8_back_19 : decode cX8_back 19 = .ok (.iconst 1, 1) := by decide +kernel
theorem dX8_back_20 : decode cX8_back 20 = .ok (.invokevirtual 389, 3) := by decide +kernel
theorem dX8_back_23 : decode cX8_back 23 = .ok (.ireturn, 1) := by decide +kernel
theorem dX8_led_0 : decode cX8_led 0 = .ok (.iconst 0, 1) := by decide +kernel
theorem dX8_led_1 : decode cX8_led 1 = .ok (.istore_n 2, 1) := by decide +kernel
theorem dX8_led_2 : decode cX8_led 2 = .ok (.iconst 0, 1) := by decide +kernel
theorem dX8_led_3 : decode cX8_led 3 = .ok (.istore_n 3, 1) := by decide +kernel
theorem dX8_led_4 : decode cX8_led 4 = .ok (.aload_n 0, 1) := by decide +kernel
theorem dX8_led_5 : decode cX8_led 5 = .ok (.getfield 173, 3) := by decide +kernel
theorem dX8_led_8 : decode cX8_led 8 = .ok (.ifCond .eq 47, 3) := by decide +kernel
theorem dX8_led_55 : decode cX8_led 55 = .ok (.aload_n 0, 1) := by decide +kernel
theorem dX8_led_56 : decode cX8_led 56 = .ok (.iconst 1, 1) := by decide +kernel
theorem dX8_led_57 : decode cX8_led 57 = .ok (.putfield 59, 3) := by decide +kernel
theorem dX8_led_60 : decode cX8_led 60 = .ok (.iconst 0, 1) := by decide +kernel
theorem dX8_led_61 : decode cX8_led 61 = .ok (.ireturn, 1) := by decide +kernel
theorem dX8_size_0 : decode cX8_size 0 = .ok (.aload_n 0, 1) := by decide +kernel
theorem dX8_size_1 : decode cX8_size 1 = .ok (.iconst 0, 1) := by decide +kernel
theorem dX8_size_2 : decode cX8_size 2 = .ok (.putfield 59, 3) := by decide +kernel
theorem dX8_size_5 : decode cX8_size 5 = .ok (.iload_n 1, 1) := by decide +kernel
theorem dX8_size_6 : decode cX8_size 6 = .ok (.bipush 13, 2) := by decide +kernel
theorem dX8_size_8 : decode cX8_size 8 = .ok (.if_icmp .ne 8, 3) := by decide +kernel
theorem dX8_size_11 : decode cX8_size 11 = .ok (.aload_n 0, 1) := by decide +kernel
theorem dX8_size_12 : decode cX8_size 12 = .ok (.getfield 65, 3) := by decide +kernel
theorem dX8_size_15 : decode cX8_size 15 = .ok (.ireturn, 1) := by decide +kernel
theorem dX8_size_16 : decode cX8_size 16 = .ok (.aload_n 0, 1) := by decide +kernel
theorem dX8_size_17 : decode cX8_size 17 = .ok (.getfield 173, 3) := by decide +kernel
theorem dX8_size_20 : decode cX8_size 20 = .ok (.ifCond .ne 19, 3) := by decide +kernel
theorem dX8_size_23 : decode cX8_size 23 = .ok (.iload_n 1, 1) := by decide +kernel
theorem dX8_size_24 : decode cX8_size 24 = .ok (.iconst 0, 1) := by decide +kernel
theorem dX8_size_25 : decode cX8_size 25 = .ok (.bipush 12, 2) := by decide +kernel
theorem dX8_size_27 : decode cX8_size 27 = .ok (.invokestatic 142, 3) := by decide +kernel
theorem dX8_size_30 : decode cX8_size 30 = .ok (.ifCond .eq 7, 3) := by decide +kernel
theorem dX8_size_33 : decode cX8_size 33 = .ok (.iconst 0, 1) := by decide +kernel
theorem dX8_size_34 : decode cX8_size 34 = .ok (.goto 4, 3) := by decide +kernel
theorem dX8_size_37 : decode cX8_size 37 = .ok (.iconst (-1), 1) := by decide +kernel
theorem dX8_size_38 : decode cX8_size 38 = .ok (.ireturn, 1) := by decide +kernel
theorem dX8_trouble_0 : decode cX8_trouble 0 = .ok (.aload_n 0, 1) := by decide +kernel
theorem dX8_trouble_1 : decode cX8_trouble 1 = .ok (.iconst 0, 1) := by decide +kernel
theorem dX8_trouble_2 : decode cX8_trouble 2 = .ok (.putfield 59, 3) := by decide +kernel
theorem dX8_trouble_5 : decode cX8_trouble 5 = .ok (.aload_n 0, 1) := by decide +kernel
theorem dX8_trouble_6 : decode cX8_trouble 6 = .ok (.getfield 62, 3) := by decide +kernel
theorem dX8_trouble_9 : decode cX8_trouble 9 = .ok (.ireturn, 1) := by decide +kernel
