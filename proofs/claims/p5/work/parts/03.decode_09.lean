section P03_decode_09
theorem dX8_meets_68 : decode cX8_meets 68 = .ok (.bipush (-2), 2) := zy_s1 (b1 := 254) zK_16 (by decide +kernel) (by decide +kernel)
theorem dX8_meets_70 : decode cX8_meets 70 = .ok (.ireturn, 1) := zy_0 zK_172 (by decide +kernel)
theorem dX8_crowd_0 : decode cX8_crowd 0 = .ok (.aload_n 0, 1) := zy_0 zK_42 (by decide +kernel)
theorem dX8_crowd_1 : decode cX8_crowd 1 = .ok (.invokevirtual 160, 3) := zy_u2 (b1 := 0) (b2 := 160) zK_182 (by decide +kernel)
theorem dX8_crowd_4 : decode cX8_crowd 4 = .ok (.aload_n 0, 1) := zy_0 zK_42 (by decide +kernel)
theorem dX8_crowd_5 : decode cX8_crowd 5 = .ok (.aload_n 0, 1) := zy_0 zK_42 (by decide +kernel)
theorem dX8_crowd_6 : decode cX8_crowd 6 = .ok (.getfield 173, 3) := zy_u2 (b1 := 0) (b2 := 173) zK_180 (by decide +kernel)
theorem dX8_crowd_9 : decode cX8_crowd 9 = .ok (.iconst 0, 1) := zy_0 zK_3 (by decide +kernel)
theorem dX8_crowd_10 : decode cX8_crowd 10 = .ok (.iload_n 1, 1) := zy_0 zK_27 (by decide +kernel)
theorem dX8_crowd_11 : decode cX8_crowd 11 = .ok (.invokevirtual 300, 3) := zy_u2 (b1 := 1) (b2 := 44) zK_182 (by decide +kernel)
theorem dX8_crowd_14 : decode cX8_crowd 14 = .ok (.istore_n 2, 1) := zy_0 zK_61 (by decide +kernel)
theorem dX8_crowd_15 : decode cX8_crowd 15 = .ok (.iload_n 2, 1) := zy_0 zK_28 (by decide +kernel)
theorem dX8_crowd_16 : decode cX8_crowd 16 = .ok (.ifCond .eq 9, 3) := zy_s2 (b1 := 0) (b2 := 9) zK_153 (by decide +kernel) (by decide +kernel)
theorem dX8_crowd_19 : decode cX8_crowd 19 = .ok (.aload_n 0, 1) := zy_0 zK_42 (by decide +kernel)
theorem dX8_crowd_20 : decode cX8_crowd 20 = .ok (.iload_n 2, 1) := zy_0 zK_28 (by decide +kernel)
theorem dX8_crowd_21 : decode cX8_crowd 21 = .ok (.invokevirtual 163, 3) := zy_u2 (b1 := 0) (b2 := 163) zK_182 (by decide +kernel)
theorem dX8_crowd_24 : decode cX8_crowd 24 = .ok (.ireturn, 1) := zy_0 zK_172 (by decide +kernel)
theorem dX8_crowd_25 : decode cX8_crowd 25 = .ok (.aload_n 0, 1) := zy_0 zK_42 (by decide +kernel)
theorem dX8_crowd_26 : decode cX8_crowd 26 = .ok (.iload_n 1, 1) := zy_0 zK_27 (by decide +kernel)
theorem dX8_crowd_27 : decode cX8_crowd 27 = .ok (.invokevirtual 304, 3) := zy_u2 (b1 := 1) (b2 := 48) zK_182 (by decide +kernel)
theorem dX8_crowd_30 : decode cX8_crowd 30 = .ok (.iconst 0, 1) := zy_0 zK_3 (by decide +kernel)
theorem dX8_crowd_31 : decode cX8_crowd 31 = .ok (.istore_n 3, 1) := zy_0 zK_62 (by decide +kernel)
theorem dX8_crowd_32 : decode cX8_crowd 32 = .ok (.iconst (-1), 1) := zy_0 zK_2 (by decide +kernel)
theorem dX8_crowd_33 : decode cX8_crowd 33 = .ok (.istore 4, 2) := zy_u1 (b1 := 4) zK_54 (by decide +kernel)
theorem dX8_crowd_35 : decode cX8_crowd 35 = .ok (.iconst 0, 1) := zy_0 zK_3 (by decide +kernel)
theorem dX8_crowd_36 : decode cX8_crowd 36 = .ok (.istore 5, 2) := zy_u1 (b1 := 5) zK_54 (by decide +kernel)
theorem dX8_crowd_38 : decode cX8_crowd 38 = .ok (.iload 5, 2) := zy_u1 (b1 := 5) zK_21 (by decide +kernel)
theorem dX8_crowd_40 : decode cX8_crowd 40 = .ok (.aload_n 0, 1) := zy_0 zK_42 (by decide +kernel)
theorem dX8_crowd_41 : decode cX8_crowd 41 = .ok (.getfield 20, 3) := zy_u2 (b1 := 0) (b2 := 20) zK_180 (by decide +kernel)
theorem dX8_crowd_44 : decode cX8_crowd 44 = .ok (.iconst 0, 1) := zy_0 zK_3 (by decide +kernel)
theorem dX8_crowd_45 : decode cX8_crowd 45 = .ok (.iaload, 1) := zy_0 zK_46 (by decide +kernel)
theorem dX8_crowd_46 : decode cX8_crowd 46 = .ok (.if_icmp .ge 86, 3) := zy_s2 (b1 := 0) (b2 := 86) zK_162 (by decide +kernel) (by decide +kernel)
theorem dX8_crowd_49 : decode cX8_crowd 49 = .ok (.iconst 0, 1) := zy_0 zK_3 (by decide +kernel)
theorem dX8_crowd_50 : decode cX8_crowd 50 = .ok (.istore 6, 2) := zy_u1 (b1 := 6) zK_54 (by decide +kernel)
theorem dX8_crowd_52 : decode cX8_crowd 52 = .ok (.iconst 0, 1) := zy_0 zK_3 (by decide +kernel)
theorem dX8_crowd_53 : decode cX8_crowd 53 = .ok (.istore 7, 2) := zy_u1 (b1 := 7) zK_54 (by decide +kernel)
theorem dX8_crowd_55 : decode cX8_crowd 55 = .ok (.iload 7, 2) := zy_u1 (b1 := 7) zK_21 (by decide +kernel)
theorem dX8_crowd_57 : decode cX8_crowd 57 = .ok (.aload_n 0, 1) := zy_0 zK_42 (by decide +kernel)
theorem dX8_crowd_58 : decode cX8_crowd 58 = .ok (.getfield 20, 3) := zy_u2 (b1 := 0) (b2 := 20) zK_180 (by decide +kernel)
theorem dX8_crowd_61 : decode cX8_crowd 61 = .ok (.iconst 0, 1) := zy_0 zK_3 (by decide +kernel)
theorem dX8_crowd_62 : decode cX8_crowd 62 = .ok (.iaload, 1) := zy_0 zK_46 (by decide +kernel)
theorem dX8_crowd_63 : decode cX8_crowd 63 = .ok (.if_icmp .ge 46, 3) := zy_s2 (b1 := 0) (b2 := 46) zK_162 (by decide +kernel) (by decide +kernel)
theorem dX8_crowd_66 : decode cX8_crowd 66 = .ok (.iload 6, 2) := zy_u1 (b1 := 6) zK_21 (by decide +kernel)
theorem dX8_crowd_68 : decode cX8_crowd 68 = .ok (.aload_n 0, 1) := zy_0 zK_42 (by decide +kernel)
theorem dX8_crowd_69 : decode cX8_crowd 69 = .ok (.getfield 29, 3) := zy_u2 (b1 := 0) (b2 := 29) zK_180 (by decide +kernel)
theorem dX8_crowd_72 : decode cX8_crowd 72 = .ok (.iload 7, 2) := zy_u1 (b1 := 7) zK_21 (by decide +kernel)
theorem dX8_crowd_74 : decode cX8_crowd 74 = .ok (.iaload, 1) := zy_0 zK_46 (by decide +kernel)
theorem dX8_crowd_75 : decode cX8_crowd 75 = .ok (.iload 5, 2) := zy_u1 (b1 := 5) zK_21 (by decide +kernel)
theorem dX8_crowd_77 : decode cX8_crowd 77 = .ok (.if_icmp .ne 22, 3) := zy_s2 (b1 := 0) (b2 := 22) zK_160 (by decide +kernel) (by decide +kernel)
theorem dX8_crowd_80 : decode cX8_crowd 80 = .ok (.aload_n 0, 1) := zy_0 zK_42 (by decide +kernel)
theorem dX8_crowd_81 : decode cX8_crowd 81 = .ok (.getfield 29, 3) := zy_u2 (b1 := 0) (b2 := 29) zK_180 (by decide +kernel)
theorem dX8_crowd_84 : decode cX8_crowd 84 = .ok (.bipush 18, 2) := zy_s1 (b1 := 18) zK_16 (by decide +kernel) (by decide +kernel)
theorem dX8_crowd_86 : decode cX8_crowd 86 = .ok (.iaload, 1) := zy_0 zK_46 (by decide +kernel)
theorem dX8_crowd_87 : decode cX8_crowd 87 = .ok (.iload 7, 2) := zy_u1 (b1 := 7) zK_21 (by decide +kernel)
theorem dX8_crowd_89 : decode cX8_crowd 89 = .ok (.invokestatic 238, 3) := zy_u2 (b1 := 0) (b2 := 238) zK_184 (by decide +kernel)
theorem dX8_crowd_92 : decode cX8_crowd 92 = .ok (.ifCond .ne 7, 3) := zy_s2 (b1 := 0) (b2 := 7) zK_154 (by decide +kernel) (by decide +kernel)
theorem dX8_crowd_95 : decode cX8_crowd 95 = .ok (.iconst 1, 1) := zy_0 zK_4 (by decide +kernel)
theorem dX8_crowd_96 : decode cX8_crowd 96 = .ok (.goto 4, 3) := zy_s2 (b1 := 0) (b2 := 4) zK_167 (by decide +kernel) (by decide +kernel)
theorem dX8_crowd_99 : decode cX8_crowd 99 = .ok (.iconst 0, 1) := zy_0 zK_3 (by decide +kernel)
theorem dX8_crowd_100 : decode cX8_crowd 100 = .ok (.iadd, 1) := zy_0 zK_96 (by decide +kernel)
theorem dX8_crowd_101 : decode cX8_crowd 101 = .ok (.istore 6, 2) := zy_u1 (b1 := 6) zK_54 (by decide +kernel)
theorem dX8_crowd_103 : decode cX8_crowd 103 = .ok (.iinc 7 1, 3) := zy_ii (b1 := 7) (b2 := 1) zK_132 (by decide +kernel) (by decide +kernel)
theorem dX8_crowd_106 : decode cX8_crowd 106 = .ok (.goto (-51), 3) := zy_s2 (b1 := 255) (b2 := 205) zK_167 (by decide +kernel) (by decide +kernel)
theorem dX8_crowd_109 : decode cX8_crowd 109 = .ok (.iload 6, 2) := zy_u1 (b1 := 6) zK_21 (by decide +kernel)
theorem dX8_crowd_111 : decode cX8_crowd 111 = .ok (.iload 4, 2) := zy_u1 (b1 := 4) zK_21 (by decide +kernel)
theorem dX8_crowd_113 : decode cX8_crowd 113 = .ok (.if_icmp .gt 6, 3) := zy_s2 (b1 := 0) (b2 := 6) zK_163 (by decide +kernel) (by decide +kernel)
theorem dX8_crowd_116 : decode cX8_crowd 116 = .ok (.goto 10, 3) := zy_s2 (b1 := 0) (b2 := 10) zK_167 (by decide +kernel) (by decide +kernel)
theorem dX8_crowd_119 : decode cX8_crowd 119 = .ok (.iload 5, 2) := zy_u1 (b1 := 5) zK_21 (by decide +kernel)
theorem dX8_crowd_121 : decode cX8_crowd 121 = .ok (.istore_n 3, 1) := zy_0 zK_62 (by decide +kernel)
theorem dX8_crowd_122 : decode cX8_crowd 122 = .ok (.iload 6, 2) := zy_u1 (b1 := 6) zK_21 (by decide +kernel)
theorem dX8_crowd_124 : decode cX8_crowd 124 = .ok (.istore 4, 2) := zy_u1 (b1 := 4) zK_54 (by decide +kernel)
theorem dX8_crowd_126 : decode cX8_crowd 126 = .ok (.iinc 5 1, 3) := zy_ii (b1 := 5) (b2 := 1) zK_132 (by decide +kernel) (by decide +kernel)
theorem dX8_crowd_129 : decode cX8_crowd 129 = .ok (.goto (-91), 3) := zy_s2 (b1 := 255) (b2 := 165) zK_167 (by decide +kernel) (by decide +kernel)
theorem dX8_crowd_132 : decode cX8_crowd 132 = .ok (.iload_n 3, 1) := zy_0 zK_29 (by decide +kernel)
theorem dX8_crowd_133 : decode cX8_crowd 133 = .ok (.ireturn, 1) := zy_0 zK_172 (by decide +kernel)
theorem dX8_between_0 : decode cX8_between 0 = .ok (.iload_n 0, 1) := zy_0 zK_26 (by decide +kernel)
theorem dX8_between_1 : decode cX8_between 1 = .ok (.iload_n 1, 1) := zy_0 zK_27 (by decide +kernel)
theorem dX8_between_2 : decode cX8_between 2 = .ok (.if_icmp .ge 9, 3) := zy_s2 (b1 := 0) (b2 := 9) zK_162 (by decide +kernel) (by decide +kernel)
theorem dX8_between_5 : decode cX8_between 5 = .ok (.iload_n 1, 1) := zy_0 zK_27 (by decide +kernel)
theorem dX8_between_6 : decode cX8_between 6 = .ok (.iload_n 0, 1) := zy_0 zK_26 (by decide +kernel)
theorem dX8_between_7 : decode cX8_between 7 = .ok (.isub, 1) := zy_0 zK_100 (by decide +kernel)
theorem dX8_between_8 : decode cX8_between 8 = .ok (.goto 6, 3) := zy_s2 (b1 := 0) (b2 := 6) zK_167 (by decide +kernel) (by decide +kernel)
theorem dX8_between_11 : decode cX8_between 11 = .ok (.iload_n 0, 1) := zy_0 zK_26 (by decide +kernel)
theorem dX8_between_12 : decode cX8_between 12 = .ok (.iload_n 1, 1) := zy_0 zK_27 (by decide +kernel)
theorem dX8_between_13 : decode cX8_between 13 = .ok (.isub, 1) := zy_0 zK_100 (by decide +kernel)
theorem dX8_between_14 : decode cX8_between 14 = .ok (.ireturn, 1) := zy_0 zK_172 (by decide +kernel)
theorem dX8_farthest_0 : decode cX8_farthest 0 = .ok (.aload_n 0, 1) := zy_0 zK_42 (by decide +kernel)
theorem dX8_farthest_1 : decode cX8_farthest 1 = .ok (.invokevirtual 160, 3) := zy_u2 (b1 := 0) (b2 := 160) zK_182 (by decide +kernel)
theorem dX8_farthest_4 : decode cX8_farthest 4 = .ok (.aload_n 0, 1) := zy_0 zK_42 (by decide +kernel)
theorem dX8_farthest_5 : decode cX8_farthest 5 = .ok (.aload_n 0, 1) := zy_0 zK_42 (by decide +kernel)
theorem dX8_farthest_6 : decode cX8_farthest 6 = .ok (.getfield 173, 3) := zy_u2 (b1 := 0) (b2 := 173) zK_180 (by decide +kernel)
theorem dX8_farthest_9 : decode cX8_farthest 9 = .ok (.iconst 0, 1) := zy_0 zK_3 (by decide +kernel)
theorem dX8_farthest_10 : decode cX8_farthest 10 = .ok (.iload_n 1, 1) := zy_0 zK_27 (by decide +kernel)
theorem dX8_farthest_11 : decode cX8_farthest 11 = .ok (.invokevirtual 300, 3) := zy_u2 (b1 := 1) (b2 := 44) zK_182 (by decide +kernel)
theorem dX8_farthest_14 : decode cX8_farthest 14 = .ok (.istore_n 2, 1) := zy_0 zK_61 (by decide +kernel)
theorem dX8_farthest_15 : decode cX8_farthest 15 = .ok (.iload_n 2, 1) := zy_0 zK_28 (by decide +kernel)
theorem dX8_farthest_16 : decode cX8_farthest 16 = .ok (.ifCond .eq 9, 3) := zy_s2 (b1 := 0) (b2 := 9) zK_153 (by decide +kernel) (by decide +kernel)
theorem dX8_farthest_19 : decode cX8_farthest 19 = .ok (.aload_n 0, 1) := zy_0 zK_42 (by decide +kernel)
theorem dX8_farthest_20 : decode cX8_farthest 20 = .ok (.iload_n 2, 1) := zy_0 zK_28 (by decide +kernel)
theorem dX8_farthest_21 : decode cX8_farthest 21 = .ok (.invokevirtual 163, 3) := zy_u2 (b1 := 0) (b2 := 163) zK_182 (by decide +kernel)
theorem dX8_farthest_24 : decode cX8_farthest 24 = .ok (.ireturn, 1) := zy_0 zK_172 (by decide +kernel)
theorem dX8_farthest_25 : decode cX8_farthest 25 = .ok (.aload_n 0, 1) := zy_0 zK_42 (by decide +kernel)
theorem dX8_farthest_26 : decode cX8_farthest 26 = .ok (.iload_n 1, 1) := zy_0 zK_27 (by decide +kernel)
theorem dX8_farthest_27 : decode cX8_farthest 27 = .ok (.invokevirtual 304, 3) := zy_u2 (b1 := 1) (b2 := 48) zK_182 (by decide +kernel)
theorem dX8_farthest_30 : decode cX8_farthest 30 = .ok (.iconst 0, 1) := zy_0 zK_3 (by decide +kernel)
theorem dX8_farthest_31 : decode cX8_farthest 31 = .ok (.istore_n 3, 1) := zy_0 zK_62 (by decide +kernel)
theorem dX8_farthest_32 : decode cX8_farthest 32 = .ok (.iconst 1, 1) := zy_0 zK_4 (by decide +kernel)
theorem dX8_farthest_33 : decode cX8_farthest 33 = .ok (.istore 4, 2) := zy_u1 (b1 := 4) zK_54 (by decide +kernel)
theorem dX8_farthest_35 : decode cX8_farthest 35 = .ok (.iload 4, 2) := zy_u1 (b1 := 4) zK_21 (by decide +kernel)
theorem dX8_farthest_37 : decode cX8_farthest 37 = .ok (.aload_n 0, 1) := zy_0 zK_42 (by decide +kernel)
theorem dX8_farthest_38 : decode cX8_farthest 38 = .ok (.getfield 20, 3) := zy_u2 (b1 := 0) (b2 := 20) zK_180 (by decide +kernel)
theorem dX8_farthest_41 : decode cX8_farthest 41 = .ok (.iconst 0, 1) := zy_0 zK_3 (by decide +kernel)
theorem dX8_farthest_42 : decode cX8_farthest 42 = .ok (.iaload, 1) := zy_0 zK_46 (by decide +kernel)
theorem dX8_farthest_43 : decode cX8_farthest 43 = .ok (.if_icmp .ge 37, 3) := zy_s2 (b1 := 0) (b2 := 37) zK_162 (by decide +kernel) (by decide +kernel)
theorem dX8_farthest_46 : decode cX8_farthest 46 = .ok (.aload_n 0, 1) := zy_0 zK_42 (by decide +kernel)
theorem dX8_farthest_47 : decode cX8_farthest 47 = .ok (.getfield 29, 3) := zy_u2 (b1 := 0) (b2 := 29) zK_180 (by decide +kernel)
theorem dX8_farthest_50 : decode cX8_farthest 50 = .ok (.iload 4, 2) := zy_u1 (b1 := 4) zK_21 (by decide +kernel)
theorem dX8_farthest_52 : decode cX8_farthest 52 = .ok (.iaload, 1) := zy_0 zK_46 (by decide +kernel)
theorem dX8_farthest_53 : decode cX8_farthest 53 = .ok (.iload 4, 2) := zy_u1 (b1 := 4) zK_21 (by decide +kernel)
theorem dX8_farthest_55 : decode cX8_farthest 55 = .ok (.invokestatic 310, 3) := zy_u2 (b1 := 1) (b2 := 54) zK_184 (by decide +kernel)
theorem dX8_farthest_58 : decode cX8_farthest 58 = .ok (.aload_n 0, 1) := zy_0 zK_42 (by decide +kernel)
theorem dX8_farthest_59 : decode cX8_farthest 59 = .ok (.getfield 29, 3) := zy_u2 (b1 := 0) (b2 := 29) zK_180 (by decide +kernel)
theorem dX8_farthest_62 : decode cX8_farthest 62 = .ok (.iload_n 3, 1) := zy_0 zK_29 (by decide +kernel)
theorem dX8_farthest_63 : decode cX8_farthest 63 = .ok (.iaload, 1) := zy_0 zK_46 (by decide +kernel)
theorem dX8_farthest_64 : decode cX8_farthest 64 = .ok (.iload_n 3, 1) := zy_0 zK_29 (by decide +kernel)
theorem dX8_farthest_65 : decode cX8_farthest 65 = .ok (.invokestatic 310, 3) := zy_u2 (b1 := 1) (b2 := 54) zK_184 (by decide +kernel)
theorem dX8_farthest_68 : decode cX8_farthest 68 = .ok (.if_icmp .le 6, 3) := zy_s2 (b1 := 0) (b2 := 6) zK_164 (by decide +kernel) (by decide +kernel)
theorem dX8_farthest_71 : decode cX8_farthest 71 = .ok (.iload 4, 2) := zy_u1 (b1 := 4) zK_21 (by decide +kernel)
theorem dX8_farthest_73 : decode cX8_farthest 73 = .ok (.istore_n 3, 1) := zy_0 zK_62 (by decide +kernel)
theorem dX8_farthest_74 : decode cX8_farthest 74 = .ok (.iinc 4 1, 3) := zy_ii (b1 := 4) (b2 := 1) zK_132 (by decide +kernel) (by decide +kernel)
theorem dX8_farthest_77 : decode cX8_farthest 77 = .ok (.goto (-42), 3) := zy_s2 (b1 := 255) (b2 := 214) zK_167 (by decide +kernel) (by decide +kernel)
theorem dX8_farthest_80 : decode cX8_farthest 80 = .ok (.iload_n 3, 1) := zy_0 zK_29 (by decide +kernel)
theorem dX8_farthest_81 : decode cX8_farthest 81 = .ok (.ireturn, 1) := zy_0 zK_172 (by decide +kernel)
theorem dX8_nearBy_0 : decode cX8_nearBy 0 = .ok (.aload_n 0, 1) := zy_0 zK_42 (by decide +kernel)
theorem dX8_nearBy_1 : decode cX8_nearBy 1 = .ok (.invokevirtual 160, 3) := zy_u2 (b1 := 0) (b2 := 160) zK_182 (by decide +kernel)
theorem dX8_nearBy_4 : decode cX8_nearBy 4 = .ok (.aload_n 0, 1) := zy_0 zK_42 (by decide +kernel)
theorem dX8_nearBy_5 : decode cX8_nearBy 5 = .ok (.aload_n 0, 1) := zy_0 zK_42 (by decide +kernel)
theorem dX8_nearBy_6 : decode cX8_nearBy 6 = .ok (.iload_n 1, 1) := zy_0 zK_27 (by decide +kernel)
theorem dX8_nearBy_7 : decode cX8_nearBy 7 = .ok (.invokevirtual 277, 3) := zy_u2 (b1 := 1) (b2 := 21) zK_182 (by decide +kernel)
theorem dX8_nearBy_10 : decode cX8_nearBy 10 = .ok (.iconst 0, 1) := zy_0 zK_3 (by decide +kernel)
theorem dX8_nearBy_11 : decode cX8_nearBy 11 = .ok (.iload_n 2, 1) := zy_0 zK_28 (by decide +kernel)
theorem dX8_nearBy_12 : decode cX8_nearBy 12 = .ok (.invokevirtual 300, 3) := zy_u2 (b1 := 1) (b2 := 44) zK_182 (by decide +kernel)
theorem dX8_nearBy_15 : decode cX8_nearBy 15 = .ok (.istore_n 3, 1) := zy_0 zK_62 (by decide +kernel)
theorem dX8_nearBy_16 : decode cX8_nearBy 16 = .ok (.iload_n 3, 1) := zy_0 zK_29 (by decide +kernel)
theorem dX8_nearBy_17 : decode cX8_nearBy 17 = .ok (.ifCond .eq 9, 3) := zy_s2 (b1 := 0) (b2 := 9) zK_153 (by decide +kernel) (by decide +kernel)
theorem dX8_nearBy_20 : decode cX8_nearBy 20 = .ok (.aload_n 0, 1) := zy_0 zK_42 (by decide +kernel)
theorem dX8_nearBy_21 : decode cX8_nearBy 21 = .ok (.iload_n 3, 1) := zy_0 zK_29 (by decide +kernel)
theorem dX8_nearBy_22 : decode cX8_nearBy 22 = .ok (.invokevirtual 163, 3) := zy_u2 (b1 := 0) (b2 := 163) zK_182 (by decide +kernel)
theorem dX8_nearBy_25 : decode cX8_nearBy 25 = .ok (.ireturn, 1) := zy_0 zK_172 (by decide +kernel)
theorem dX8_nearBy_26 : decode cX8_nearBy 26 = .ok (.aload_n 0, 1) := zy_0 zK_42 (by decide +kernel)
theorem dX8_nearBy_27 : decode cX8_nearBy 27 = .ok (.invokevirtual 270, 3) := zy_u2 (b1 := 1) (b2 := 14) zK_182 (by decide +kernel)
theorem dX8_nearBy_30 : decode cX8_nearBy 30 = .ok (.iconst 0, 1) := zy_0 zK_3 (by decide +kernel)
theorem dX8_nearBy_31 : decode cX8_nearBy 31 = .ok (.istore 4, 2) := zy_u1 (b1 := 4) zK_54 (by decide +kernel)
theorem dX8_nearBy_33 : decode cX8_nearBy 33 = .ok (.iconst 0, 1) := zy_0 zK_3 (by decide +kernel)
theorem dX8_nearBy_34 : decode cX8_nearBy 34 = .ok (.istore 5, 2) := zy_u1 (b1 := 5) zK_54 (by decide +kernel)
theorem dX8_nearBy_36 : decode cX8_nearBy 36 = .ok (.iload 5, 2) := zy_u1 (b1 := 5) zK_21 (by decide +kernel)
theorem dX8_nearBy_38 : decode cX8_nearBy 38 = .ok (.iload_n 2, 1) := zy_0 zK_28 (by decide +kernel)
theorem dX8_nearBy_39 : decode cX8_nearBy 39 = .ok (.if_icmp .ge 65, 3) := zy_s2 (b1 := 0) (b2 := 65) zK_162 (by decide +kernel) (by decide +kernel)
theorem dX8_nearBy_42 : decode cX8_nearBy 42 = .ok (.aload_n 0, 1) := zy_0 zK_42 (by decide +kernel)
theorem dX8_nearBy_43 : decode cX8_nearBy 43 = .ok (.getfield 29, 3) := zy_u2 (b1 := 0) (b2 := 29) zK_180 (by decide +kernel)
theorem dX8_nearBy_46 : decode cX8_nearBy 46 = .ok (.bipush 21, 2) := zy_s1 (b1 := 21) zK_16 (by decide +kernel) (by decide +kernel)
theorem dX8_nearBy_48 : decode cX8_nearBy 48 = .ok (.iaload, 1) := zy_0 zK_46 (by decide +kernel)
theorem dX8_nearBy_49 : decode cX8_nearBy 49 = .ok (.istore 6, 2) := zy_u1 (b1 := 6) zK_54 (by decide +kernel)
theorem dX8_nearBy_51 : decode cX8_nearBy 51 = .ok (.aload_n 0, 1) := zy_0 zK_42 (by decide +kernel)
theorem dX8_nearBy_52 : decode cX8_nearBy 52 = .ok (.aload_n 0, 1) := zy_0 zK_42 (by decide +kernel)
theorem dX8_nearBy_53 : decode cX8_nearBy 53 = .ok (.getfield 29, 3) := zy_u2 (b1 := 0) (b2 := 29) zK_180 (by decide +kernel)
theorem dX8_nearBy_56 : decode cX8_nearBy 56 = .ok (.invokevirtual 273, 3) := zy_u2 (b1 := 1) (b2 := 17) zK_182 (by decide +kernel)
theorem dX8_nearBy_59 : decode cX8_nearBy 59 = .ok (.iload 4, 2) := zy_u1 (b1 := 4) zK_21 (by decide +kernel)
theorem dX8_nearBy_61 : decode cX8_nearBy 61 = .ok (.aload_n 0, 1) := zy_0 zK_42 (by decide +kernel)
theorem dX8_nearBy_62 : decode cX8_nearBy 62 = .ok (.getfield 29, 3) := zy_u2 (b1 := 0) (b2 := 29) zK_180 (by decide +kernel)
theorem dX8_nearBy_65 : decode cX8_nearBy 65 = .ok (.bipush 18, 2) := zy_s1 (b1 := 18) zK_16 (by decide +kernel) (by decide +kernel)
theorem dX8_nearBy_67 : decode cX8_nearBy 67 = .ok (.iaload, 1) := zy_0 zK_46 (by decide +kernel)
theorem dX8_nearBy_68 : decode cX8_nearBy 68 = .ok (.iload_n 1, 1) := zy_0 zK_27 (by decide +kernel)
theorem dX8_nearBy_69 : decode cX8_nearBy 69 = .ok (.invokestatic 238, 3) := zy_u2 (b1 := 0) (b2 := 238) zK_184 (by decide +kernel)
theorem dX8_nearBy_72 : decode cX8_nearBy 72 = .ok (.ifCond .ne 22, 3) := zy_s2 (b1 := 0) (b2 := 22) zK_154 (by decide +kernel) (by decide +kernel)
theorem dX8_nearBy_75 : decode cX8_nearBy 75 = .ok (.aload_n 0, 1) := zy_0 zK_42 (by decide +kernel)
theorem dX8_nearBy_76 : decode cX8_nearBy 76 = .ok (.aload_n 0, 1) := zy_0 zK_42 (by decide +kernel)
theorem dX8_nearBy_77 : decode cX8_nearBy 77 = .ok (.getfield 29, 3) := zy_u2 (b1 := 0) (b2 := 29) zK_180 (by decide +kernel)
theorem dX8_nearBy_80 : decode cX8_nearBy 80 = .ok (.iload_n 1, 1) := zy_0 zK_27 (by decide +kernel)
theorem dX8_nearBy_81 : decode cX8_nearBy 81 = .ok (.iaload, 1) := zy_0 zK_46 (by decide +kernel)
theorem dX8_nearBy_82 : decode cX8_nearBy 82 = .ok (.iload 6, 2) := zy_u1 (b1 := 6) zK_21 (by decide +kernel)
theorem dX8_nearBy_84 : decode cX8_nearBy 84 = .ok (.invokevirtual 245, 3) := zy_u2 (b1 := 0) (b2 := 245) zK_182 (by decide +kernel)
theorem dX8_nearBy_87 : decode cX8_nearBy 87 = .ok (.ifCond .eq 7, 3) := zy_s2 (b1 := 0) (b2 := 7) zK_153 (by decide +kernel) (by decide +kernel)
theorem dX8_nearBy_90 : decode cX8_nearBy 90 = .ok (.iconst 1, 1) := zy_0 zK_4 (by decide +kernel)
theorem dX8_nearBy_91 : decode cX8_nearBy 91 = .ok (.goto 4, 3) := zy_s2 (b1 := 0) (b2 := 4) zK_167 (by decide +kernel) (by decide +kernel)
theorem dX8_nearBy_94 : decode cX8_nearBy 94 = .ok (.iconst 0, 1) := zy_0 zK_3 (by decide +kernel)
theorem dX8_nearBy_95 : decode cX8_nearBy 95 = .ok (.iadd, 1) := zy_0 zK_96 (by decide +kernel)
theorem dX8_nearBy_96 : decode cX8_nearBy 96 = .ok (.istore 4, 2) := zy_u1 (b1 := 4) zK_54 (by decide +kernel)
theorem dX8_nearBy_98 : decode cX8_nearBy 98 = .ok (.iinc 5 1, 3) := zy_ii (b1 := 5) (b2 := 1) zK_132 (by decide +kernel) (by decide +kernel)
theorem dX8_nearBy_101 : decode cX8_nearBy 101 = .ok (.goto (-65), 3) := zy_s2 (b1 := 255) (b2 := 191) zK_167 (by decide +kernel) (by decide +kernel)
theorem dX8_nearBy_104 : decode cX8_nearBy 104 = .ok (.iload 4, 2) := zy_u1 (b1 := 4) zK_21 (by decide +kernel)
theorem dX8_nearBy_106 : decode cX8_nearBy 106 = .ok (.ireturn, 1) := zy_0 zK_172 (by decide +kernel)
theorem dX8_spoken_0 : decode cX8_spoken 0 = .ok (.aload_n 0, 1) := zy_0 zK_42 (by decide +kernel)
theorem dX8_spoken_1 : decode cX8_spoken 1 = .ok (.invokevirtual 160, 3) := zy_u2 (b1 := 0) (b2 := 160) zK_182 (by decide +kernel)
theorem dX8_spoken_4 : decode cX8_spoken 4 = .ok (.aload_n 0, 1) := zy_0 zK_42 (by decide +kernel)
theorem dX8_spoken_5 : decode cX8_spoken 5 = .ok (.aload_n 0, 1) := zy_0 zK_42 (by decide +kernel)
theorem dX8_spoken_6 : decode cX8_spoken 6 = .ok (.iload_n 1, 1) := zy_0 zK_27 (by decide +kernel)
theorem dX8_spoken_7 : decode cX8_spoken 7 = .ok (.invokevirtual 277, 3) := zy_u2 (b1 := 1) (b2 := 21) zK_182 (by decide +kernel)
theorem dX8_spoken_10 : decode cX8_spoken 10 = .ok (.iconst 0, 1) := zy_0 zK_3 (by decide +kernel)
theorem dX8_spoken_11 : decode cX8_spoken 11 = .ok (.iload_n 2, 1) := zy_0 zK_28 (by decide +kernel)
theorem dX8_spoken_12 : decode cX8_spoken 12 = .ok (.invokevirtual 300, 3) := zy_u2 (b1 := 1) (b2 := 44) zK_182 (by decide +kernel)
theorem dX8_spoken_15 : decode cX8_spoken 15 = .ok (.istore_n 3, 1) := zy_0 zK_62 (by decide +kernel)
theorem dX8_spoken_16 : decode cX8_spoken 16 = .ok (.iload_n 3, 1) := zy_0 zK_29 (by decide +kernel)
theorem dX8_spoken_17 : decode cX8_spoken 17 = .ok (.ifCond .eq 9, 3) := zy_s2 (b1 := 0) (b2 := 9) zK_153 (by decide +kernel) (by decide +kernel)
theorem dX8_spoken_20 : decode cX8_spoken 20 = .ok (.aload_n 0, 1) := zy_0 zK_42 (by decide +kernel)
theorem dX8_spoken_21 : decode cX8_spoken 21 = .ok (.iload_n 3, 1) := zy_0 zK_29 (by decide +kernel)
theorem dX8_spoken_22 : decode cX8_spoken 22 = .ok (.invokevirtual 163, 3) := zy_u2 (b1 := 0) (b2 := 163) zK_182 (by decide +kernel)
theorem dX8_spoken_25 : decode cX8_spoken 25 = .ok (.ireturn, 1) := zy_0 zK_172 (by decide +kernel)
theorem dX8_spoken_26 : decode cX8_spoken 26 = .ok (.aload_n 0, 1) := zy_0 zK_42 (by decide +kernel)
theorem dX8_spoken_27 : decode cX8_spoken 27 = .ok (.invokevirtual 270, 3) := zy_u2 (b1 := 1) (b2 := 14) zK_182 (by decide +kernel)
theorem dX8_spoken_30 : decode cX8_spoken 30 = .ok (.iconst 0, 1) := zy_0 zK_3 (by decide +kernel)
theorem dX8_spoken_31 : decode cX8_spoken 31 = .ok (.istore 4, 2) := zy_u1 (b1 := 4) zK_54 (by decide +kernel)
theorem dX8_spoken_33 : decode cX8_spoken 33 = .ok (.iconst 0, 1) := zy_0 zK_3 (by decide +kernel)
theorem dX8_spoken_34 : decode cX8_spoken 34 = .ok (.istore 5, 2) := zy_u1 (b1 := 5) zK_54 (by decide +kernel)
theorem dX8_spoken_36 : decode cX8_spoken 36 = .ok (.iload 5, 2) := zy_u1 (b1 := 5) zK_21 (by decide +kernel)
theorem dX8_spoken_38 : decode cX8_spoken 38 = .ok (.iload_n 2, 1) := zy_0 zK_28 (by decide +kernel)
theorem dX8_spoken_39 : decode cX8_spoken 39 = .ok (.if_icmp .ge 38, 3) := zy_s2 (b1 := 0) (b2 := 38) zK_162 (by decide +kernel) (by decide +kernel)
theorem dX8_spoken_42 : decode cX8_spoken 42 = .ok (.aload_n 0, 1) := zy_0 zK_42 (by decide +kernel)
theorem dX8_spoken_43 : decode cX8_spoken 43 = .ok (.aload_n 0, 1) := zy_0 zK_42 (by decide +kernel)
theorem dX8_spoken_44 : decode cX8_spoken 44 = .ok (.getfield 29, 3) := zy_u2 (b1 := 0) (b2 := 29) zK_180 (by decide +kernel)
theorem dX8_spoken_47 : decode cX8_spoken 47 = .ok (.invokevirtual 273, 3) := zy_u2 (b1 := 1) (b2 := 17) zK_182 (by decide +kernel)
theorem dX8_spoken_50 : decode cX8_spoken 50 = .ok (.iload 4, 2) := zy_u1 (b1 := 4) zK_21 (by decide +kernel)
theorem dX8_spoken_52 : decode cX8_spoken 52 = .ok (.aload_n 0, 1) := zy_0 zK_42 (by decide +kernel)
theorem dX8_spoken_53 : decode cX8_spoken 53 = .ok (.getfield 258, 3) := zy_u2 (b1 := 1) (b2 := 2) zK_180 (by decide +kernel)
theorem dX8_spoken_56 : decode cX8_spoken 56 = .ok (.iload_n 1, 1) := zy_0 zK_27 (by decide +kernel)
theorem dX8_spoken_57 : decode cX8_spoken 57 = .ok (.if_icmp .ne 10, 3) := zy_s2 (b1 := 0) (b2 := 10) zK_160 (by decide +kernel) (by decide +kernel)
theorem dX8_spoken_60 : decode cX8_spoken 60 = .ok (.aload_n 0, 1) := zy_0 zK_42 (by decide +kernel)
theorem dX8_spoken_61 : decode cX8_spoken 61 = .ok (.getfield 248, 3) := zy_u2 (b1 := 0) (b2 := 248) zK_180 (by decide +kernel)
theorem dX8_spoken_64 : decode cX8_spoken 64 = .ok (.goto 4, 3) := zy_s2 (b1 := 0) (b2 := 4) zK_167 (by decide +kernel) (by decide +kernel)
theorem dX8_spoken_67 : decode cX8_spoken 67 = .ok (.iconst 0, 1) := zy_0 zK_3 (by decide +kernel)
theorem dX8_spoken_68 : decode cX8_spoken 68 = .ok (.ior, 1) := zy_0 zK_128 (by decide +kernel)
theorem dX8_spoken_69 : decode cX8_spoken 69 = .ok (.istore 4, 2) := zy_u1 (b1 := 4) zK_54 (by decide +kernel)
theorem dX8_spoken_71 : decode cX8_spoken 71 = .ok (.iinc 5 1, 3) := zy_ii (b1 := 5) (b2 := 1) zK_132 (by decide +kernel) (by decide +kernel)
theorem dX8_spoken_74 : decode cX8_spoken 74 = .ok (.goto (-38), 3) := zy_s2 (b1 := 255) (b2 := 218) zK_167 (by decide +kernel) (by decide +kernel)
theorem dX8_spoken_77 : decode cX8_spoken 77 = .ok (.iload 4, 2) := zy_u1 (b1 := 4) zK_21 (by decide +kernel)
theorem dX8_spoken_79 : decode cX8_spoken 79 = .ok (.ireturn, 1) := zy_0 zK_172 (by decide +kernel)
theorem dX8_windBest_0 : decode cX8_windBest 0 = .ok (.aload_n 0, 1) := zy_0 zK_42 (by decide +kernel)
theorem dX8_windBest_1 : decode cX8_windBest 1 = .ok (.invokevirtual 160, 3) := zy_u2 (b1 := 0) (b2 := 160) zK_182 (by decide +kernel)
theorem dX8_windBest_4 : decode cX8_windBest 4 = .ok (.aload_n 0, 1) := zy_0 zK_42 (by decide +kernel)
theorem dX8_windBest_5 : decode cX8_windBest 5 = .ok (.getfield 173, 3) := zy_u2 (b1 := 0) (b2 := 173) zK_180 (by decide +kernel)
theorem dX8_windBest_8 : decode cX8_windBest 8 = .ok (.ifCond .ne 9, 3) := zy_s2 (b1 := 0) (b2 := 9) zK_154 (by decide +kernel) (by decide +kernel)
theorem dX8_windBest_11 : decode cX8_windBest 11 = .ok (.aload_n 0, 1) := zy_0 zK_42 (by decide +kernel)
theorem dX8_windBest_12 : decode cX8_windBest 12 = .ok (.iconst 1, 1) := zy_0 zK_4 (by decide +kernel)
theorem dX8_windBest_13 : decode cX8_windBest 13 = .ok (.invokevirtual 163, 3) := zy_u2 (b1 := 0) (b2 := 163) zK_182 (by decide +kernel)
theorem dX8_windBest_16 : decode cX8_windBest 16 = .ok (.ireturn, 1) := zy_0 zK_172 (by decide +kernel)
theorem dX8_windBest_17 : decode cX8_windBest 17 = .ok (.iconst 0, 1) := zy_0 zK_3 (by decide +kernel)
theorem dX8_windBest_18 : decode cX8_windBest 18 = .ok (.istore_n 1, 1) := zy_0 zK_60 (by decide +kernel)
theorem dX8_windBest_19 : decode cX8_windBest 19 = .ok (.iconst (-1), 1) := zy_0 zK_2 (by decide +kernel)
theorem dX8_windBest_20 : decode cX8_windBest 20 = .ok (.istore_n 2, 1) := zy_0 zK_61 (by decide +kernel)
theorem dX8_windBest_21 : decode cX8_windBest 21 = .ok (.iconst 0, 1) := zy_0 zK_3 (by decide +kernel)
theorem dX8_windBest_22 : decode cX8_windBest 22 = .ok (.istore_n 3, 1) := zy_0 zK_62 (by decide +kernel)
theorem dX8_windBest_23 : decode cX8_windBest 23 = .ok (.iload_n 3, 1) := zy_0 zK_29 (by decide +kernel)
theorem dX8_windBest_24 : decode cX8_windBest 24 = .ok (.aload_n 0, 1) := zy_0 zK_42 (by decide +kernel)
theorem dX8_windBest_25 : decode cX8_windBest 25 = .ok (.getfield 20, 3) := zy_u2 (b1 := 0) (b2 := 20) zK_180 (by decide +kernel)
theorem dX8_windBest_28 : decode cX8_windBest 28 = .ok (.iconst 0, 1) := zy_0 zK_3 (by decide +kernel)
theorem dX8_windBest_29 : decode cX8_windBest 29 = .ok (.iaload, 1) := zy_0 zK_46 (by decide +kernel)
theorem dX8_windBest_30 : decode cX8_windBest 30 = .ok (.if_icmp .ge 59, 3) := zy_s2 (b1 := 0) (b2 := 59) zK_162 (by decide +kernel) (by decide +kernel)
theorem dX8_windBest_33 : decode cX8_windBest 33 = .ok (.aload_n 0, 1) := zy_0 zK_42 (by decide +kernel)
theorem dX8_windBest_34 : decode cX8_windBest 34 = .ok (.invokevirtual 270, 3) := zy_u2 (b1 := 1) (b2 := 14) zK_182 (by decide +kernel)
theorem dX8_windBest_37 : decode cX8_windBest 37 = .ok (.aload_n 0, 1) := zy_0 zK_42 (by decide +kernel)
theorem dX8_windBest_38 : decode cX8_windBest 38 = .ok (.getfield 29, 3) := zy_u2 (b1 := 0) (b2 := 29) zK_180 (by decide +kernel)
theorem dX8_windBest_41 : decode cX8_windBest 41 = .ok (.bipush 19, 2) := zy_s1 (b1 := 19) zK_16 (by decide +kernel) (by decide +kernel)
theorem dX8_windBest_43 : decode cX8_windBest 43 = .ok (.iload_n 3, 1) := zy_0 zK_29 (by decide +kernel)
theorem dX8_windBest_44 : decode cX8_windBest 44 = .ok (.iastore, 1) := zy_0 zK_79 (by decide +kernel)
theorem dX8_windBest_45 : decode cX8_windBest 45 = .ok (.aload_n 0, 1) := zy_0 zK_42 (by decide +kernel)
theorem dX8_windBest_46 : decode cX8_windBest 46 = .ok (.getfield 29, 3) := zy_u2 (b1 := 0) (b2 := 29) zK_180 (by decide +kernel)
theorem dX8_windBest_49 : decode cX8_windBest 49 = .ok (.bipush 20, 2) := zy_s1 (b1 := 20) zK_16 (by decide +kernel) (by decide +kernel)
theorem dX8_windBest_51 : decode cX8_windBest 51 = .ok (.iconst 0, 1) := zy_0 zK_3 (by decide +kernel)
theorem dX8_windBest_52 : decode cX8_windBest 52 = .ok (.iastore, 1) := zy_0 zK_79 (by decide +kernel)
theorem dX8_windBest_53 : decode cX8_windBest 53 = .ok (.aload_n 0, 1) := zy_0 zK_42 (by decide +kernel)
theorem dX8_windBest_54 : decode cX8_windBest 54 = .ok (.invokevirtual 307, 3) := zy_u2 (b1 := 1) (b2 := 51) zK_182 (by decide +kernel)
theorem dX8_windBest_57 : decode cX8_windBest 57 = .ok (.istore 4, 2) := zy_u1 (b1 := 4) zK_54 (by decide +kernel)
theorem dX8_windBest_59 : decode cX8_windBest 59 = .ok (.iload 4, 2) := zy_u1 (b1 := 4) zK_21 (by decide +kernel)
theorem dX8_windBest_61 : decode cX8_windBest 61 = .ok (.ifCond .ge 8, 3) := zy_s2 (b1 := 0) (b2 := 8) zK_156 (by decide +kernel) (by decide +kernel)
theorem dX8_windBest_64 : decode cX8_windBest 64 = .ok (.sipush 301, 3) := zy_s2 (b1 := 1) (b2 := 45) zK_17 (by decide +kernel) (by decide +kernel)
theorem dX8_windBest_67 : decode cX8_windBest 67 = .ok (.istore 4, 2) := zy_u1 (b1 := 4) zK_54 (by decide +kernel)
theorem dX8_windBest_69 : decode cX8_windBest 69 = .ok (.iload 4, 2) := zy_u1 (b1 := 4) zK_21 (by decide +kernel)
theorem dX8_windBest_71 : decode cX8_windBest 71 = .ok (.iload_n 2, 1) := zy_0 zK_28 (by decide +kernel)
theorem dX8_windBest_72 : decode cX8_windBest 72 = .ok (.if_icmp .gt 6, 3) := zy_s2 (b1 := 0) (b2 := 6) zK_163 (by decide +kernel) (by decide +kernel)
theorem dX8_windBest_75 : decode cX8_windBest 75 = .ok (.goto 8, 3) := zy_s2 (b1 := 0) (b2 := 8) zK_167 (by decide +kernel) (by decide +kernel)
theorem dX8_windBest_78 : decode cX8_windBest 78 = .ok (.iload_n 3, 1) := zy_0 zK_29 (by decide +kernel)
theorem dX8_windBest_79 : decode cX8_windBest 79 = .ok (.istore_n 1, 1) := zy_0 zK_60 (by decide +kernel)
theorem dX8_windBest_80 : decode cX8_windBest 80 = .ok (.iload 4, 2) := zy_u1 (b1 := 4) zK_21 (by decide +kernel)
theorem dX8_windBest_82 : decode cX8_windBest 82 = .ok (.istore_n 2, 1) := zy_0 zK_61 (by decide +kernel)
theorem dX8_windBest_83 : decode cX8_windBest 83 = .ok (.iinc 3 1, 3) := zy_ii (b1 := 3) (b2 := 1) zK_132 (by decide +kernel) (by decide +kernel)
theorem dX8_windBest_86 : decode cX8_windBest 86 = .ok (.goto (-63), 3) := zy_s2 (b1 := 255) (b2 := 193) zK_167 (by decide +kernel) (by decide +kernel)
theorem dX8_windBest_89 : decode cX8_windBest 89 = .ok (.iload_n 1, 1) := zy_0 zK_27 (by decide +kernel)
theorem dX8_windBest_90 : decode cX8_windBest 90 = .ok (.ireturn, 1) := zy_0 zK_172 (by decide +kernel)
theorem dX8_patrol_0 : decode cX8_patrol 0 = .ok (.aload_n 0, 1) := zy_0 zK_42 (by decide +kernel)
theorem dX8_patrol_1 : decode cX8_patrol 1 = .ok (.invokevirtual 160, 3) := zy_u2 (b1 := 0) (b2 := 160) zK_182 (by decide +kernel)
theorem dX8_patrol_4 : decode cX8_patrol 4 = .ok (.aload_n 0, 1) := zy_0 zK_42 (by decide +kernel)
theorem dX8_patrol_5 : decode cX8_patrol 5 = .ok (.aload_n 0, 1) := zy_0 zK_42 (by decide +kernel)
theorem dX8_patrol_6 : decode cX8_patrol 6 = .ok (.iload_n 1, 1) := zy_0 zK_27 (by decide +kernel)
theorem dX8_patrol_7 : decode cX8_patrol 7 = .ok (.invokevirtual 280, 3) := zy_u2 (b1 := 1) (b2 := 24) zK_182 (by decide +kernel)
theorem dX8_patrol_10 : decode cX8_patrol 10 = .ok (.iload_n 2, 1) := zy_0 zK_28 (by decide +kernel)
theorem dX8_patrol_11 : decode cX8_patrol 11 = .ok (.iconst 1, 1) := zy_0 zK_4 (by decide +kernel)
theorem dX8_patrol_12 : decode cX8_patrol 12 = .ok (.bipush 60, 2) := zy_s1 (b1 := 60) zK_16 (by decide +kernel) (by decide +kernel)
theorem dX8_patrol_14 : decode cX8_patrol 14 = .ok (.invokestatic 142, 3) := zy_u2 (b1 := 0) (b2 := 142) zK_184 (by decide +kernel)
theorem dX8_patrol_17 : decode cX8_patrol 17 = .ok (.invokevirtual 290, 3) := zy_u2 (b1 := 1) (b2 := 34) zK_182 (by decide +kernel)
theorem dX8_patrol_20 : decode cX8_patrol 20 = .ok (.istore_n 3, 1) := zy_0 zK_62 (by decide +kernel)
theorem dX8_patrol_21 : decode cX8_patrol 21 = .ok (.iload_n 3, 1) := zy_0 zK_29 (by decide +kernel)
theorem dX8_patrol_22 : decode cX8_patrol 22 = .ok (.ifCond .eq 9, 3) := zy_s2 (b1 := 0) (b2 := 9) zK_153 (by decide +kernel) (by decide +kernel)
theorem dX8_patrol_25 : decode cX8_patrol 25 = .ok (.aload_n 0, 1) := zy_0 zK_42 (by decide +kernel)
theorem dX8_patrol_26 : decode cX8_patrol 26 = .ok (.iload_n 3, 1) := zy_0 zK_29 (by decide +kernel)
theorem dX8_patrol_27 : decode cX8_patrol 27 = .ok (.invokevirtual 163, 3) := zy_u2 (b1 := 0) (b2 := 163) zK_182 (by decide +kernel)
theorem dX8_patrol_30 : decode cX8_patrol 30 = .ok (.ireturn, 1) := zy_0 zK_172 (by decide +kernel)
theorem dX8_patrol_31 : decode cX8_patrol 31 = .ok (.bipush (-2), 2) := zy_s1 (b1 := 254) zK_16 (by decide +kernel) (by decide +kernel)
theorem dX8_patrol_33 : decode cX8_patrol 33 = .ok (.istore 4, 2) := zy_u1 (b1 := 4) zK_54 (by decide +kernel)
theorem dX8_patrol_35 : decode cX8_patrol 35 = .ok (.ldc_w 313, 3) := zy_u2 (b1 := 1) (b2 := 57) zK_19 (by decide +kernel)
theorem dX8_patrol_38 : decode cX8_patrol 38 = .ok (.istore 5, 2) := zy_u1 (b1 := 5) zK_54 (by decide +kernel)
theorem dX8_patrol_40 : decode cX8_patrol 40 = .ok (.iconst (-1), 1) := zy_0 zK_2 (by decide +kernel)
theorem dX8_patrol_41 : decode cX8_patrol 41 = .ok (.istore 6, 2) := zy_u1 (b1 := 6) zK_54 (by decide +kernel)
theorem dX8_patrol_43 : decode cX8_patrol 43 = .ok (.iconst 0, 1) := zy_0 zK_3 (by decide +kernel)
theorem dX8_patrol_44 : decode cX8_patrol 44 = .ok (.istore 7, 2) := zy_u1 (b1 := 7) zK_54 (by decide +kernel)
theorem dX8_patrol_46 : decode cX8_patrol 46 = .ok (.iload 7, 2) := zy_u1 (b1 := 7) zK_21 (by decide +kernel)
theorem dX8_patrol_48 : decode cX8_patrol 48 = .ok (.aload_n 0, 1) := zy_0 zK_42 (by decide +kernel)
theorem dX8_patrol_49 : decode cX8_patrol 49 = .ok (.getfield 20, 3) := zy_u2 (b1 := 0) (b2 := 20) zK_180 (by decide +kernel)
theorem dX8_patrol_52 : decode cX8_patrol 52 = .ok (.iconst 0, 1) := zy_0 zK_3 (by decide +kernel)
theorem dX8_patrol_53 : decode cX8_patrol 53 = .ok (.iaload, 1) := zy_0 zK_46 (by decide +kernel)
theorem dX8_patrol_54 : decode cX8_patrol 54 = .ok (.aload_n 0, 1) := zy_0 zK_42 (by decide +kernel)
theorem dX8_patrol_55 : decode cX8_patrol 55 = .ok (.getfield 20, 3) := zy_u2 (b1 := 0) (b2 := 20) zK_180 (by decide +kernel)
theorem dX8_patrol_58 : decode cX8_patrol 58 = .ok (.iconst 0, 1) := zy_0 zK_3 (by decide +kernel)
theorem dX8_patrol_59 : decode cX8_patrol 59 = .ok (.iaload, 1) := zy_0 zK_46 (by decide +kernel)
theorem dX8_patrol_60 : decode cX8_patrol 60 = .ok (.imul, 1) := zy_0 zK_104 (by decide +kernel)
theorem dX8_patrol_61 : decode cX8_patrol 61 = .ok (.if_icmp .ge 138, 3) := zy_s2 (b1 := 0) (b2 := 138) zK_162 (by decide +kernel) (by decide +kernel)
theorem dX8_patrol_64 : decode cX8_patrol 64 = .ok (.aload_n 0, 1) := zy_0 zK_42 (by decide +kernel)
theorem dX8_patrol_65 : decode cX8_patrol 65 = .ok (.invokevirtual 270, 3) := zy_u2 (b1 := 1) (b2 := 14) zK_182 (by decide +kernel)
theorem dX8_patrol_68 : decode cX8_patrol 68 = .ok (.aload_n 0, 1) := zy_0 zK_42 (by decide +kernel)
theorem dX8_patrol_69 : decode cX8_patrol 69 = .ok (.getfield 38, 3) := zy_u2 (b1 := 0) (b2 := 38) zK_180 (by decide +kernel)
theorem dX8_patrol_72 : decode cX8_patrol 72 = .ok (.iload_n 1, 1) := zy_0 zK_27 (by decide +kernel)
theorem dX8_patrol_73 : decode cX8_patrol 73 = .ok (.iload 7, 2) := zy_u1 (b1 := 7) zK_21 (by decide +kernel)
theorem dX8_patrol_75 : decode cX8_patrol 75 = .ok (.aload_n 0, 1) := zy_0 zK_42 (by decide +kernel)
theorem dX8_patrol_76 : decode cX8_patrol 76 = .ok (.getfield 20, 3) := zy_u2 (b1 := 0) (b2 := 20) zK_180 (by decide +kernel)
theorem dX8_patrol_79 : decode cX8_patrol 79 = .ok (.iconst 0, 1) := zy_0 zK_3 (by decide +kernel)
theorem dX8_patrol_80 : decode cX8_patrol 80 = .ok (.iaload, 1) := zy_0 zK_46 (by decide +kernel)
theorem dX8_patrol_81 : decode cX8_patrol 81 = .ok (.idiv, 1) := zy_0 zK_108 (by decide +kernel)
theorem dX8_patrol_82 : decode cX8_patrol 82 = .ok (.iastore, 1) := zy_0 zK_79 (by decide +kernel)
theorem dX8_patrol_83 : decode cX8_patrol 83 = .ok (.aload_n 0, 1) := zy_0 zK_42 (by decide +kernel)
theorem dX8_patrol_84 : decode cX8_patrol 84 = .ok (.getfield 41, 3) := zy_u2 (b1 := 0) (b2 := 41) zK_180 (by decide +kernel)
theorem dX8_patrol_87 : decode cX8_patrol 87 = .ok (.iload_n 1, 1) := zy_0 zK_27 (by decide +kernel)
theorem dX8_patrol_88 : decode cX8_patrol 88 = .ok (.iload 7, 2) := zy_u1 (b1 := 7) zK_21 (by decide +kernel)
theorem dX8_patrol_90 : decode cX8_patrol 90 = .ok (.aload_n 0, 1) := zy_0 zK_42 (by decide +kernel)
theorem dX8_patrol_91 : decode cX8_patrol 91 = .ok (.getfield 20, 3) := zy_u2 (b1 := 0) (b2 := 20) zK_180 (by decide +kernel)
theorem dX8_patrol_94 : decode cX8_patrol 94 = .ok (.iconst 0, 1) := zy_0 zK_3 (by decide +kernel)
theorem dX8_patrol_95 : decode cX8_patrol 95 = .ok (.iaload, 1) := zy_0 zK_46 (by decide +kernel)
theorem dX8_patrol_96 : decode cX8_patrol 96 = .ok (.irem, 1) := zy_0 zK_112 (by decide +kernel)
theorem dX8_patrol_97 : decode cX8_patrol 97 = .ok (.iastore, 1) := zy_0 zK_79 (by decide +kernel)
theorem dX8_patrol_98 : decode cX8_patrol 98 = .ok (.iconst 0, 1) := zy_0 zK_3 (by decide +kernel)
theorem dX8_patrol_99 : decode cX8_patrol 99 = .ok (.istore 8, 2) := zy_u1 (b1 := 8) zK_54 (by decide +kernel)
theorem dX8_patrol_101 : decode cX8_patrol 101 = .ok (.iload 8, 2) := zy_u1 (b1 := 8) zK_21 (by decide +kernel)
theorem dX8_patrol_103 : decode cX8_patrol 103 = .ok (.iload_n 2, 1) := zy_0 zK_28 (by decide +kernel)
theorem dX8_patrol_104 : decode cX8_patrol 104 = .ok (.if_icmp .ge 17, 3) := zy_s2 (b1 := 0) (b2 := 17) zK_162 (by decide +kernel) (by decide +kernel)
theorem dX8_patrol_107 : decode cX8_patrol 107 = .ok (.aload_n 0, 1) := zy_0 zK_42 (by decide +kernel)
theorem dX8_patrol_108 : decode cX8_patrol 108 = .ok (.aload_n 0, 1) := zy_0 zK_42 (by decide +kernel)
theorem dX8_patrol_109 : decode cX8_patrol 109 = .ok (.getfield 29, 3) := zy_u2 (b1 := 0) (b2 := 29) zK_180 (by decide +kernel)
theorem dX8_patrol_112 : decode cX8_patrol 112 = .ok (.invokevirtual 273, 3) := zy_u2 (b1 := 1) (b2 := 17) zK_182 (by decide +kernel)
theorem dX8_patrol_115 : decode cX8_patrol 115 = .ok (.iinc 8 1, 3) := zy_ii (b1 := 8) (b2 := 1) zK_132 (by decide +kernel) (by decide +kernel)
theorem dX8_patrol_118 : decode cX8_patrol 118 = .ok (.goto (-17), 3) := zy_s2 (b1 := 255) (b2 := 239) zK_167 (by decide +kernel) (by decide +kernel)
theorem dX8_patrol_121 : decode cX8_patrol 121 = .ok (.aload_n 0, 1) := zy_0 zK_42 (by decide +kernel)
theorem dX8_patrol_122 : decode cX8_patrol 122 = .ok (.getfield 29, 3) := zy_u2 (b1 := 0) (b2 := 29) zK_180 (by decide +kernel)
theorem dX8_patrol_125 : decode cX8_patrol 125 = .ok (.bipush 18, 2) := zy_s1 (b1 := 18) zK_16 (by decide +kernel) (by decide +kernel)
theorem dX8_patrol_127 : decode cX8_patrol 127 = .ok (.iaload, 1) := zy_0 zK_46 (by decide +kernel)
theorem dX8_patrol_128 : decode cX8_patrol 128 = .ok (.invokestatic 314, 3) := zy_u2 (b1 := 1) (b2 := 58) zK_184 (by decide +kernel)
theorem dX8_patrol_131 : decode cX8_patrol 131 = .ok (.istore 8, 2) := zy_u1 (b1 := 8) zK_54 (by decide +kernel)
theorem dX8_patrol_133 : decode cX8_patrol 133 = .ok (.iload 8, 2) := zy_u1 (b1 := 8) zK_21 (by decide +kernel)
theorem dX8_patrol_135 : decode cX8_patrol 135 = .ok (.iload 5, 2) := zy_u1 (b1 := 5) zK_21 (by decide +kernel)
theorem dX8_patrol_137 : decode cX8_patrol 137 = .ok (.if_icmp .gt 56, 3) := zy_s2 (b1 := 0) (b2 := 56) zK_163 (by decide +kernel) (by decide +kernel)
theorem dX8_patrol_140 : decode cX8_patrol 140 = .ok (.iload 8, 2) := zy_u1 (b1 := 8) zK_21 (by decide +kernel)
theorem dX8_patrol_142 : decode cX8_patrol 142 = .ok (.iload 5, 2) := zy_u1 (b1 := 5) zK_21 (by decide +kernel)
theorem dX8_patrol_144 : decode cX8_patrol 144 = .ok (.if_icmp .ne 18, 3) := zy_s2 (b1 := 0) (b2 := 18) zK_160 (by decide +kernel) (by decide +kernel)
theorem dX8_patrol_147 : decode cX8_patrol 147 = .ok (.aload_n 0, 1) := zy_0 zK_42 (by decide +kernel)
theorem dX8_patrol_148 : decode cX8_patrol 148 = .ok (.getfield 29, 3) := zy_u2 (b1 := 0) (b2 := 29) zK_180 (by decide +kernel)
theorem dX8_patrol_151 : decode cX8_patrol 151 = .ok (.bipush 22, 2) := zy_s1 (b1 := 22) zK_16 (by decide +kernel) (by decide +kernel)
theorem dX8_patrol_153 : decode cX8_patrol 153 = .ok (.iaload, 1) := zy_0 zK_46 (by decide +kernel)
theorem dX8_patrol_154 : decode cX8_patrol 154 = .ok (.iload 6, 2) := zy_u1 (b1 := 6) zK_21 (by decide +kernel)
theorem dX8_patrol_156 : decode cX8_patrol 156 = .ok (.if_icmp .gt 6, 3) := zy_s2 (b1 := 0) (b2 := 6) zK_163 (by decide +kernel) (by decide +kernel)
theorem dX8_patrol_159 : decode cX8_patrol 159 = .ok (.goto 34, 3) := zy_s2 (b1 := 0) (b2 := 34) zK_167 (by decide +kernel) (by decide +kernel)
theorem dX8_patrol_162 : decode cX8_patrol 162 = .ok (.bipush 10, 2) := zy_s1 (b1 := 10) zK_16 (by decide +kernel) (by decide +kernel)
theorem dX8_patrol_164 : decode cX8_patrol 164 = .ok (.aload_n 0, 1) := zy_0 zK_42 (by decide +kernel)
theorem dX8_patrol_165 : decode cX8_patrol 165 = .ok (.getfield 38, 3) := zy_u2 (b1 := 0) (b2 := 38) zK_180 (by decide +kernel)
theorem dX8_patrol_168 : decode cX8_patrol 168 = .ok (.iload_n 1, 1) := zy_0 zK_27 (by decide +kernel)
theorem dX8_patrol_169 : decode cX8_patrol 169 = .ok (.iaload, 1) := zy_0 zK_46 (by decide +kernel)
theorem dX8_patrol_170 : decode cX8_patrol 170 = .ok (.imul, 1) := zy_0 zK_104 (by decide +kernel)
theorem dX8_patrol_171 : decode cX8_patrol 171 = .ok (.aload_n 0, 1) := zy_0 zK_42 (by decide +kernel)
theorem dX8_patrol_172 : decode cX8_patrol 172 = .ok (.getfield 41, 3) := zy_u2 (b1 := 0) (b2 := 41) zK_180 (by decide +kernel)
theorem dX8_patrol_175 : decode cX8_patrol 175 = .ok (.iload_n 1, 1) := zy_0 zK_27 (by decide +kernel)
theorem dX8_patrol_176 : decode cX8_patrol 176 = .ok (.iaload, 1) := zy_0 zK_46 (by decide +kernel)
theorem dX8_patrol_177 : decode cX8_patrol 177 = .ok (.iadd, 1) := zy_0 zK_96 (by decide +kernel)
theorem dX8_patrol_178 : decode cX8_patrol 178 = .ok (.istore 4, 2) := zy_u1 (b1 := 4) zK_54 (by decide +kernel)
theorem dX8_patrol_180 : decode cX8_patrol 180 = .ok (.iload 8, 2) := zy_u1 (b1 := 8) zK_21 (by decide +kernel)
theorem dX8_patrol_182 : decode cX8_patrol 182 = .ok (.istore 5, 2) := zy_u1 (b1 := 5) zK_54 (by decide +kernel)
theorem dX8_patrol_184 : decode cX8_patrol 184 = .ok (.aload_n 0, 1) := zy_0 zK_42 (by decide +kernel)
theorem dX8_patrol_185 : decode cX8_patrol 185 = .ok (.getfield 29, 3) := zy_u2 (b1 := 0) (b2 := 29) zK_180 (by decide +kernel)
theorem dX8_patrol_188 : decode cX8_patrol 188 = .ok (.bipush 22, 2) := zy_s1 (b1 := 22) zK_16 (by decide +kernel) (by decide +kernel)
theorem dX8_patrol_190 : decode cX8_patrol 190 = .ok (.iaload, 1) := zy_0 zK_46 (by decide +kernel)
theorem dX8_patrol_191 : decode cX8_patrol 191 = .ok (.istore 6, 2) := zy_u1 (b1 := 6) zK_54 (by decide +kernel)
theorem dX8_patrol_193 : decode cX8_patrol 193 = .ok (.iinc 7 1, 3) := zy_ii (b1 := 7) (b2 := 1) zK_132 (by decide +kernel) (by decide +kernel)
theorem dX8_patrol_196 : decode cX8_patrol 196 = .ok (.goto (-150), 3) := zy_s2 (b1 := 255) (b2 := 106) zK_167 (by decide +kernel) (by decide +kernel)
theorem dX8_patrol_199 : decode cX8_patrol 199 = .ok (.iload 4, 2) := zy_u1 (b1 := 4) zK_21 (by decide +kernel)
theorem dX8_patrol_201 : decode cX8_patrol 201 = .ok (.ireturn, 1) := zy_0 zK_172 (by decide +kernel)
theorem dX8_layRoute_0 : decode cX8_layRoute 0 = .ok (.aload_n 0, 1) := zy_0 zK_42 (by decide +kernel)
theorem dX8_layRoute_1 : decode cX8_layRoute 1 = .ok (.invokevirtual 270, 3) := zy_u2 (b1 := 1) (b2 := 14) zK_182 (by decide +kernel)
theorem dX8_layRoute_4 : decode cX8_layRoute 4 = .ok (.iconst 1, 1) := zy_0 zK_4 (by decide +kernel)
theorem dX8_layRoute_5 : decode cX8_layRoute 5 = .ok (.istore_n 2, 1) := zy_0 zK_61 (by decide +kernel)
theorem dX8_layRoute_6 : decode cX8_layRoute 6 = .ok (.iload_n 2, 1) := zy_0 zK_28 (by decide +kernel)
theorem dX8_layRoute_7 : decode cX8_layRoute 7 = .ok (.iload_n 1, 1) := zy_0 zK_27 (by decide +kernel)
theorem dX8_layRoute_8 : decode cX8_layRoute 8 = .ok (.if_icmp .gt 27, 3) := zy_s2 (b1 := 0) (b2 := 27) zK_163 (by decide +kernel) (by decide +kernel)
theorem dX8_layRoute_11 : decode cX8_layRoute 11 = .ok (.aload_n 0, 1) := zy_0 zK_42 (by decide +kernel)
theorem dX8_layRoute_12 : decode cX8_layRoute 12 = .ok (.aload_n 0, 1) := zy_0 zK_42 (by decide +kernel)
theorem dX8_layRoute_13 : decode cX8_layRoute 13 = .ok (.getfield 29, 3) := zy_u2 (b1 := 0) (b2 := 29) zK_180 (by decide +kernel)
theorem dX8_layRoute_16 : decode cX8_layRoute 16 = .ok (.invokevirtual 273, 3) := zy_u2 (b1 := 1) (b2 := 17) zK_182 (by decide +kernel)
theorem dX8_layRoute_19 : decode cX8_layRoute 19 = .ok (.aload_n 0, 1) := zy_0 zK_42 (by decide +kernel)
theorem dX8_layRoute_20 : decode cX8_layRoute 20 = .ok (.getfield 47, 3) := zy_u2 (b1 := 0) (b2 := 47) zK_180 (by decide +kernel)
theorem dX8_layRoute_23 : decode cX8_layRoute 23 = .ok (.iload_n 2, 1) := zy_0 zK_28 (by decide +kernel)
theorem dX8_layRoute_24 : decode cX8_layRoute 24 = .ok (.aload_n 0, 1) := zy_0 zK_42 (by decide +kernel)
theorem dX8_layRoute_25 : decode cX8_layRoute 25 = .ok (.getfield 261, 3) := zy_u2 (b1 := 1) (b2 := 5) zK_180 (by decide +kernel)
theorem dX8_layRoute_28 : decode cX8_layRoute 28 = .ok (.iastore, 1) := zy_0 zK_79 (by decide +kernel)
theorem dX8_layRoute_29 : decode cX8_layRoute 29 = .ok (.iinc 2 1, 3) := zy_ii (b1 := 2) (b2 := 1) zK_132 (by decide +kernel) (by decide +kernel)
theorem dX8_layRoute_32 : decode cX8_layRoute 32 = .ok (.goto (-26), 3) := zy_s2 (b1 := 255) (b2 := 230) zK_167 (by decide +kernel) (by decide +kernel)
theorem dX8_layRoute_35 : decode cX8_layRoute 35 = .ok (.iconst 0, 1) := zy_0 zK_3 (by decide +kernel)
theorem dX8_layRoute_36 : decode cX8_layRoute 36 = .ok (.istore_n 2, 1) := zy_0 zK_61 (by decide +kernel)
theorem dX8_layRoute_37 : decode cX8_layRoute 37 = .ok (.iload_n 2, 1) := zy_0 zK_28 (by decide +kernel)
theorem dX8_layRoute_38 : decode cX8_layRoute 38 = .ok (.bipush 9, 2) := zy_s1 (b1 := 9) zK_16 (by decide +kernel) (by decide +kernel)
theorem dX8_layRoute_40 : decode cX8_layRoute 40 = .ok (.if_icmp .ge 21, 3) := zy_s2 (b1 := 0) (b2 := 21) zK_162 (by decide +kernel) (by decide +kernel)
theorem dX8_layRoute_43 : decode cX8_layRoute 43 = .ok (.aload_n 0, 1) := zy_0 zK_42 (by decide +kernel)
theorem dX8_layRoute_44 : decode cX8_layRoute 44 = .ok (.getfield 50, 3) := zy_u2 (b1 := 0) (b2 := 50) zK_180 (by decide +kernel)
theorem dX8_layRoute_47 : decode cX8_layRoute 47 = .ok (.bipush 10, 2) := zy_s1 (b1 := 10) zK_16 (by decide +kernel) (by decide +kernel)
theorem dX8_layRoute_49 : decode cX8_layRoute 49 = .ok (.iload_n 1, 1) := zy_0 zK_27 (by decide +kernel)
theorem dX8_layRoute_50 : decode cX8_layRoute 50 = .ok (.imul, 1) := zy_0 zK_104 (by decide +kernel)
theorem dX8_layRoute_51 : decode cX8_layRoute 51 = .ok (.iload_n 2, 1) := zy_0 zK_28 (by decide +kernel)
theorem dX8_layRoute_52 : decode cX8_layRoute 52 = .ok (.iadd, 1) := zy_0 zK_96 (by decide +kernel)
theorem dX8_layRoute_53 : decode cX8_layRoute 53 = .ok (.iconst 0, 1) := zy_0 zK_3 (by decide +kernel)
theorem dX8_layRoute_54 : decode cX8_layRoute 54 = .ok (.iastore, 1) := zy_0 zK_79 (by decide +kernel)
theorem dX8_layRoute_55 : decode cX8_layRoute 55 = .ok (.iinc 2 1, 3) := zy_ii (b1 := 2) (b2 := 1) zK_132 (by decide +kernel) (by decide +kernel)
theorem dX8_layRoute_58 : decode cX8_layRoute 58 = .ok (.goto (-21), 3) := zy_s2 (b1 := 255) (b2 := 235) zK_167 (by decide +kernel) (by decide +kernel)
theorem dX8_layRoute_61 : decode cX8_layRoute 61 = .ok (.iload_n 1, 1) := zy_0 zK_27 (by decide +kernel)
theorem dX8_layRoute_62 : decode cX8_layRoute 62 = .ok (.iconst 1, 1) := zy_0 zK_4 (by decide +kernel)
theorem dX8_layRoute_63 : decode cX8_layRoute 63 = .ok (.isub, 1) := zy_0 zK_100 (by decide +kernel)
theorem dX8_layRoute_64 : decode cX8_layRoute 64 = .ok (.istore_n 2, 1) := zy_0 zK_61 (by decide +kernel)
theorem dX8_layRoute_65 : decode cX8_layRoute 65 = .ok (.iload_n 2, 1) := zy_0 zK_28 (by decide +kernel)
theorem dX8_layRoute_66 : decode cX8_layRoute 66 = .ok (.ifCond .lt 45, 3) := zy_s2 (b1 := 0) (b2 := 45) zK_155 (by decide +kernel) (by decide +kernel)
theorem dX8_layRoute_69 : decode cX8_layRoute 69 = .ok (.iconst 0, 1) := zy_0 zK_3 (by decide +kernel)
theorem dX8_layRoute_70 : decode cX8_layRoute 70 = .ok (.istore_n 3, 1) := zy_0 zK_62 (by decide +kernel)
theorem dX8_layRoute_71 : decode cX8_layRoute 71 = .ok (.iload_n 3, 1) := zy_0 zK_29 (by decide +kernel)
theorem dX8_layRoute_72 : decode cX8_layRoute 72 = .ok (.aload_n 0, 1) := zy_0 zK_42 (by decide +kernel)
theorem dX8_layRoute_73 : decode cX8_layRoute 73 = .ok (.getfield 20, 3) := zy_u2 (b1 := 0) (b2 := 20) zK_180 (by decide +kernel)
theorem dX8_layRoute_76 : decode cX8_layRoute 76 = .ok (.iconst 0, 1) := zy_0 zK_3 (by decide +kernel)
theorem dX8_layRoute_77 : decode cX8_layRoute 77 = .ok (.iaload, 1) := zy_0 zK_46 (by decide +kernel)
theorem dX8_layRoute_78 : decode cX8_layRoute 78 = .ok (.if_icmp .ge 27, 3) := zy_s2 (b1 := 0) (b2 := 27) zK_162 (by decide +kernel) (by decide +kernel)
theorem dX8_layRoute_81 : decode cX8_layRoute 81 = .ok (.aload_n 0, 1) := zy_0 zK_42 (by decide +kernel)
theorem dX8_layRoute_82 : decode cX8_layRoute 82 = .ok (.getfield 50, 3) := zy_u2 (b1 := 0) (b2 := 50) zK_180 (by decide +kernel)
theorem dX8_layRoute_85 : decode cX8_layRoute 85 = .ok (.bipush 10, 2) := zy_s1 (b1 := 10) zK_16 (by decide +kernel) (by decide +kernel)
theorem dX8_layRoute_87 : decode cX8_layRoute 87 = .ok (.iload_n 2, 1) := zy_0 zK_28 (by decide +kernel)
theorem dX8_layRoute_88 : decode cX8_layRoute 88 = .ok (.imul, 1) := zy_0 zK_104 (by decide +kernel)
theorem dX8_layRoute_89 : decode cX8_layRoute 89 = .ok (.iload_n 3, 1) := zy_0 zK_29 (by decide +kernel)
theorem dX8_layRoute_90 : decode cX8_layRoute 90 = .ok (.iadd, 1) := zy_0 zK_96 (by decide +kernel)
theorem dX8_layRoute_91 : decode cX8_layRoute 91 = .ok (.aload_n 0, 1) := zy_0 zK_42 (by decide +kernel)
theorem dX8_layRoute_92 : decode cX8_layRoute 92 = .ok (.iload_n 2, 1) := zy_0 zK_28 (by decide +kernel)
theorem dX8_layRoute_93 : decode cX8_layRoute 93 = .ok (.iload_n 3, 1) := zy_0 zK_29 (by decide +kernel)
theorem dX8_layRoute_94 : decode cX8_layRoute 94 = .ok (.iconst 0, 1) := zy_0 zK_3 (by decide +kernel)
theorem dX8_layRoute_95 : decode cX8_layRoute 95 = .ok (.invokevirtual 317, 3) := zy_u2 (b1 := 1) (b2 := 61) zK_182 (by decide +kernel)
theorem dX8_layRoute_98 : decode cX8_layRoute 98 = .ok (.iastore, 1) := zy_0 zK_79 (by decide +kernel)
theorem dX8_layRoute_99 : decode cX8_layRoute 99 = .ok (.iinc 3 1, 3) := zy_ii (b1 := 3) (b2 := 1) zK_132 (by decide +kernel) (by decide +kernel)
theorem dX8_layRoute_102 : decode cX8_layRoute 102 = .ok (.goto (-31), 3) := zy_s2 (b1 := 255) (b2 := 225) zK_167 (by decide +kernel) (by decide +kernel)
theorem dX8_layRoute_105 : decode cX8_layRoute 105 = .ok (.iinc 2 (-1), 3) := zy_ii (b1 := 2) (b2 := 255) zK_132 (by decide +kernel) (by decide +kernel)
theorem dX8_layRoute_108 : decode cX8_layRoute 108 = .ok (.goto (-43), 3) := zy_s2 (b1 := 255) (b2 := 213) zK_167 (by decide +kernel) (by decide +kernel)
theorem dX8_layRoute_111 : decode cX8_layRoute 111 = .ok (.return_, 1) := zy_0 zK_177 (by decide +kernel)
theorem dX8_bestFrom_0 : decode cX8_bestFrom 0 = .ok (.iconst (-1), 1) := zy_0 zK_2 (by decide +kernel)
theorem dX8_bestFrom_1 : decode cX8_bestFrom 1 = .ok (.istore 4, 2) := zy_u1 (b1 := 4) zK_54 (by decide +kernel)
theorem dX8_bestFrom_3 : decode cX8_bestFrom 3 = .ok (.iload_n 2, 1) := zy_0 zK_28 (by decide +kernel)
theorem dX8_bestFrom_4 : decode cX8_bestFrom 4 = .ok (.istore 5, 2) := zy_u1 (b1 := 5) zK_54 (by decide +kernel)
theorem dX8_bestFrom_6 : decode cX8_bestFrom 6 = .ok (.iconst 0, 1) := zy_0 zK_3 (by decide +kernel)
theorem dX8_bestFrom_7 : decode cX8_bestFrom 7 = .ok (.istore 6, 2) := zy_u1 (b1 := 6) zK_54 (by decide +kernel)
theorem dX8_bestFrom_9 : decode cX8_bestFrom 9 = .ok (.iload 6, 2) := zy_u1 (b1 := 6) zK_21 (by decide +kernel)
theorem dX8_bestFrom_11 : decode cX8_bestFrom 11 = .ok (.iconst 3, 1) := zy_0 zK_6 (by decide +kernel)
theorem dX8_bestFrom_12 : decode cX8_bestFrom 12 = .ok (.if_icmp .ge 108, 3) := zy_s2 (b1 := 0) (b2 := 108) zK_162 (by decide +kernel) (by decide +kernel)
theorem dX8_bestFrom_15 : decode cX8_bestFrom 15 = .ok (.iload 6, 2) := zy_u1 (b1 := 6) zK_21 (by decide +kernel)
theorem dX8_bestFrom_17 : decode cX8_bestFrom 17 = .ok (.ifCond .ne 7, 3) := zy_s2 (b1 := 0) (b2 := 7) zK_154 (by decide +kernel) (by decide +kernel)
theorem dX8_bestFrom_20 : decode cX8_bestFrom 20 = .ok (.iload_n 2, 1) := zy_0 zK_28 (by decide +kernel)
theorem dX8_bestFrom_21 : decode cX8_bestFrom 21 = .ok (.goto 18, 3) := zy_s2 (b1 := 0) (b2 := 18) zK_167 (by decide +kernel) (by decide +kernel)
theorem dX8_bestFrom_24 : decode cX8_bestFrom 24 = .ok (.iload 6, 2) := zy_u1 (b1 := 6) zK_21 (by decide +kernel)
theorem dX8_bestFrom_26 : decode cX8_bestFrom 26 = .ok (.iconst 1, 1) := zy_0 zK_4 (by decide +kernel)
theorem dX8_bestFrom_27 : decode cX8_bestFrom 27 = .ok (.if_icmp .ne 9, 3) := zy_s2 (b1 := 0) (b2 := 9) zK_160 (by decide +kernel) (by decide +kernel)
theorem dX8_bestFrom_30 : decode cX8_bestFrom 30 = .ok (.iload_n 2, 1) := zy_0 zK_28 (by decide +kernel)
theorem dX8_bestFrom_31 : decode cX8_bestFrom 31 = .ok (.iconst 1, 1) := zy_0 zK_4 (by decide +kernel)
theorem dX8_bestFrom_32 : decode cX8_bestFrom 32 = .ok (.isub, 1) := zy_0 zK_100 (by decide +kernel)
theorem dX8_bestFrom_33 : decode cX8_bestFrom 33 = .ok (.goto 6, 3) := zy_s2 (b1 := 0) (b2 := 6) zK_167 (by decide +kernel) (by decide +kernel)
theorem dX8_bestFrom_36 : decode cX8_bestFrom 36 = .ok (.iload_n 2, 1) := zy_0 zK_28 (by decide +kernel)
theorem dX8_bestFrom_37 : decode cX8_bestFrom 37 = .ok (.iconst 1, 1) := zy_0 zK_4 (by decide +kernel)
theorem dX8_bestFrom_38 : decode cX8_bestFrom 38 = .ok (.iadd, 1) := zy_0 zK_96 (by decide +kernel)
theorem dX8_bestFrom_39 : decode cX8_bestFrom 39 = .ok (.istore 7, 2) := zy_u1 (b1 := 7) zK_54 (by decide +kernel)
theorem dX8_bestFrom_41 : decode cX8_bestFrom 41 = .ok (.iload 7, 2) := zy_u1 (b1 := 7) zK_21 (by decide +kernel)
theorem dX8_bestFrom_43 : decode cX8_bestFrom 43 = .ok (.iconst 0, 1) := zy_0 zK_3 (by decide +kernel)
theorem dX8_bestFrom_44 : decode cX8_bestFrom 44 = .ok (.aload_n 0, 1) := zy_0 zK_42 (by decide +kernel)
theorem dX8_bestFrom_45 : decode cX8_bestFrom 45 = .ok (.getfield 20, 3) := zy_u2 (b1 := 0) (b2 := 20) zK_180 (by decide +kernel)
theorem dX8_bestFrom_48 : decode cX8_bestFrom 48 = .ok (.iconst 0, 1) := zy_0 zK_3 (by decide +kernel)
theorem dX8_bestFrom_49 : decode cX8_bestFrom 49 = .ok (.iaload, 1) := zy_0 zK_46 (by decide +kernel)
theorem dX8_bestFrom_50 : decode cX8_bestFrom 50 = .ok (.iconst 1, 1) := zy_0 zK_4 (by decide +kernel)
theorem dX8_bestFrom_51 : decode cX8_bestFrom 51 = .ok (.isub, 1) := zy_0 zK_100 (by decide +kernel)
theorem dX8_bestFrom_52 : decode cX8_bestFrom 52 = .ok (.invokestatic 142, 3) := zy_u2 (b1 := 0) (b2 := 142) zK_184 (by decide +kernel)
theorem dX8_bestFrom_55 : decode cX8_bestFrom 55 = .ok (.ifCond .ne 6, 3) := zy_s2 (b1 := 0) (b2 := 6) zK_154 (by decide +kernel) (by decide +kernel)
theorem dX8_bestFrom_58 : decode cX8_bestFrom 58 = .ok (.goto 56, 3) := zy_s2 (b1 := 0) (b2 := 56) zK_167 (by decide +kernel) (by decide +kernel)
theorem dX8_bestFrom_61 : decode cX8_bestFrom 61 = .ok (.aload_n 0, 1) := zy_0 zK_42 (by decide +kernel)
theorem dX8_bestFrom_62 : decode cX8_bestFrom 62 = .ok (.getfield 50, 3) := zy_u2 (b1 := 0) (b2 := 50) zK_180 (by decide +kernel)
theorem dX8_bestFrom_65 : decode cX8_bestFrom 65 = .ok (.bipush 10, 2) := zy_s1 (b1 := 10) zK_16 (by decide +kernel) (by decide +kernel)
theorem dX8_bestFrom_67 : decode cX8_bestFrom 67 = .ok (.iload_n 1, 1) := zy_0 zK_27 (by decide +kernel)
theorem dX8_bestFrom_68 : decode cX8_bestFrom 68 = .ok (.iconst 1, 1) := zy_0 zK_4 (by decide +kernel)
theorem dX8_bestFrom_69 : decode cX8_bestFrom 69 = .ok (.iadd, 1) := zy_0 zK_96 (by decide +kernel)
theorem dX8_bestFrom_70 : decode cX8_bestFrom 70 = .ok (.imul, 1) := zy_0 zK_104 (by decide +kernel)
theorem dX8_bestFrom_71 : decode cX8_bestFrom 71 = .ok (.iload 7, 2) := zy_u1 (b1 := 7) zK_21 (by decide +kernel)
theorem dX8_bestFrom_73 : decode cX8_bestFrom 73 = .ok (.iadd, 1) := zy_0 zK_96 (by decide +kernel)
theorem dX8_bestFrom_74 : decode cX8_bestFrom 74 = .ok (.iaload, 1) := zy_0 zK_46 (by decide +kernel)
theorem dX8_bestFrom_75 : decode cX8_bestFrom 75 = .ok (.aload_n 0, 1) := zy_0 zK_42 (by decide +kernel)
theorem dX8_bestFrom_76 : decode cX8_bestFrom 76 = .ok (.getfield 47, 3) := zy_u2 (b1 := 0) (b2 := 47) zK_180 (by decide +kernel)
theorem dX8_bestFrom_79 : decode cX8_bestFrom 79 = .ok (.iload_n 1, 1) := zy_0 zK_27 (by decide +kernel)
theorem dX8_bestFrom_80 : decode cX8_bestFrom 80 = .ok (.iconst 1, 1) := zy_0 zK_4 (by decide +kernel)
theorem dX8_bestFrom_81 : decode cX8_bestFrom 81 = .ok (.iadd, 1) := zy_0 zK_96 (by decide +kernel)
theorem dX8_bestFrom_82 : decode cX8_bestFrom 82 = .ok (.iaload, 1) := zy_0 zK_46 (by decide +kernel)
theorem dX8_bestFrom_83 : decode cX8_bestFrom 83 = .ok (.iload 7, 2) := zy_u1 (b1 := 7) zK_21 (by decide +kernel)
theorem dX8_bestFrom_85 : decode cX8_bestFrom 85 = .ok (.if_icmp .ne 7, 3) := zy_s2 (b1 := 0) (b2 := 7) zK_160 (by decide +kernel) (by decide +kernel)
theorem dX8_bestFrom_88 : decode cX8_bestFrom 88 = .ok (.iconst 1, 1) := zy_0 zK_4 (by decide +kernel)
theorem dX8_bestFrom_89 : decode cX8_bestFrom 89 = .ok (.goto 4, 3) := zy_s2 (b1 := 0) (b2 := 4) zK_167 (by decide +kernel) (by decide +kernel)
theorem dX8_bestFrom_92 : decode cX8_bestFrom 92 = .ok (.iconst 0, 1) := zy_0 zK_3 (by decide +kernel)
theorem dX8_bestFrom_93 : decode cX8_bestFrom 93 = .ok (.iadd, 1) := zy_0 zK_96 (by decide +kernel)
theorem dX8_bestFrom_94 : decode cX8_bestFrom 94 = .ok (.istore 8, 2) := zy_u1 (b1 := 8) zK_54 (by decide +kernel)
theorem dX8_bestFrom_96 : decode cX8_bestFrom 96 = .ok (.iload 8, 2) := zy_u1 (b1 := 8) zK_21 (by decide +kernel)
theorem dX8_bestFrom_98 : decode cX8_bestFrom 98 = .ok (.iload 4, 2) := zy_u1 (b1 := 4) zK_21 (by decide +kernel)
theorem dX8_bestFrom_100 : decode cX8_bestFrom 100 = .ok (.if_icmp .gt 6, 3) := zy_s2 (b1 := 0) (b2 := 6) zK_163 (by decide +kernel) (by decide +kernel)
theorem dX8_bestFrom_103 : decode cX8_bestFrom 103 = .ok (.goto 11, 3) := zy_s2 (b1 := 0) (b2 := 11) zK_167 (by decide +kernel) (by decide +kernel)
theorem dX8_bestFrom_106 : decode cX8_bestFrom 106 = .ok (.iload 8, 2) := zy_u1 (b1 := 8) zK_21 (by decide +kernel)
theorem dX8_bestFrom_108 : decode cX8_bestFrom 108 = .ok (.istore 4, 2) := zy_u1 (b1 := 4) zK_54 (by decide +kernel)
theorem dX8_bestFrom_110 : decode cX8_bestFrom 110 = .ok (.iload 7, 2) := zy_u1 (b1 := 7) zK_21 (by decide +kernel)
theorem dX8_bestFrom_112 : decode cX8_bestFrom 112 = .ok (.istore 5, 2) := zy_u1 (b1 := 5) zK_54 (by decide +kernel)
theorem dX8_bestFrom_114 : decode cX8_bestFrom 114 = .ok (.iinc 6 1, 3) := zy_ii (b1 := 6) (b2 := 1) zK_132 (by decide +kernel) (by decide +kernel)
theorem dX8_bestFrom_117 : decode cX8_bestFrom 117 = .ok (.goto (-108), 3) := zy_s2 (b1 := 255) (b2 := 148) zK_167 (by decide +kernel) (by decide +kernel)
theorem dX8_bestFrom_120 : decode cX8_bestFrom 120 = .ok (.iload_n 3, 1) := zy_0 zK_29 (by decide +kernel)
theorem dX8_bestFrom_121 : decode cX8_bestFrom 121 = .ok (.ifCond .eq 8, 3) := zy_s2 (b1 := 0) (b2 := 8) zK_153 (by decide +kernel) (by decide +kernel)
theorem dX8_bestFrom_124 : decode cX8_bestFrom 124 = .ok (.iload 5, 2) := zy_u1 (b1 := 5) zK_21 (by decide +kernel)
theorem dX8_bestFrom_126 : decode cX8_bestFrom 126 = .ok (.goto 5, 3) := zy_s2 (b1 := 0) (b2 := 5) zK_167 (by decide +kernel) (by decide +kernel)
theorem dX8_bestFrom_129 : decode cX8_bestFrom 129 = .ok (.iload 4, 2) := zy_u1 (b1 := 4) zK_21 (by decide +kernel)
theorem dX8_bestFrom_131 : decode cX8_bestFrom 131 = .ok (.ireturn, 1) := zy_0 zK_172 (by decide +kernel)
theorem dX8_routeWhy_0 : decode cX8_routeWhy 0 = .ok (.aload_n 0, 1) := zy_0 zK_42 (by decide +kernel)
theorem dX8_routeWhy_1 : decode cX8_routeWhy 1 = .ok (.aload_n 0, 1) := zy_0 zK_42 (by decide +kernel)
theorem dX8_routeWhy_2 : decode cX8_routeWhy 2 = .ok (.iload_n 1, 1) := zy_0 zK_27 (by decide +kernel)
theorem dX8_routeWhy_3 : decode cX8_routeWhy 3 = .ok (.invokevirtual 277, 3) := zy_u2 (b1 := 1) (b2 := 21) zK_182 (by decide +kernel)
theorem dX8_routeWhy_6 : decode cX8_routeWhy 6 = .ok (.iload_n 2, 1) := zy_0 zK_28 (by decide +kernel)
theorem dX8_routeWhy_7 : decode cX8_routeWhy 7 = .ok (.iconst 1, 1) := zy_0 zK_4 (by decide +kernel)
theorem dX8_routeWhy_8 : decode cX8_routeWhy 8 = .ok (.bipush 60, 2) := zy_s1 (b1 := 60) zK_16 (by decide +kernel) (by decide +kernel)
theorem dX8_routeWhy_10 : decode cX8_routeWhy 10 = .ok (.invokestatic 142, 3) := zy_u2 (b1 := 0) (b2 := 142) zK_184 (by decide +kernel)
theorem dX8_routeWhy_13 : decode cX8_routeWhy 13 = .ok (.invokevirtual 290, 3) := zy_u2 (b1 := 1) (b2 := 34) zK_182 (by decide +kernel)
theorem dX8_routeWhy_16 : decode cX8_routeWhy 16 = .ok (.ireturn, 1) := zy_0 zK_172 (by decide +kernel)
theorem dX8_route_0 : decode cX8_route 0 = .ok (.aload_n 0, 1) := zy_0 zK_42 (by decide +kernel)
theorem dX8_route_1 : decode cX8_route 1 = .ok (.invokevirtual 160, 3) := zy_u2 (b1 := 0) (b2 := 160) zK_182 (by decide +kernel)
theorem dX8_route_4 : decode cX8_route 4 = .ok (.aload_n 0, 1) := zy_0 zK_42 (by decide +kernel)
theorem dX8_route_5 : decode cX8_route 5 = .ok (.iload_n 1, 1) := zy_0 zK_27 (by decide +kernel)
theorem dX8_route_6 : decode cX8_route 6 = .ok (.iload_n 2, 1) := zy_0 zK_28 (by decide +kernel)
theorem dX8_route_7 : decode cX8_route 7 = .ok (.invokevirtual 321, 3) := zy_u2 (b1 := 1) (b2 := 65) zK_182 (by decide +kernel)
theorem dX8_route_10 : decode cX8_route 10 = .ok (.istore_n 3, 1) := zy_0 zK_62 (by decide +kernel)
theorem dX8_route_11 : decode cX8_route 11 = .ok (.iload_n 3, 1) := zy_0 zK_29 (by decide +kernel)
theorem dX8_route_12 : decode cX8_route 12 = .ok (.ifCond .eq 9, 3) := zy_s2 (b1 := 0) (b2 := 9) zK_153 (by decide +kernel) (by decide +kernel)
theorem dX8_route_15 : decode cX8_route 15 = .ok (.aload_n 0, 1) := zy_0 zK_42 (by decide +kernel)
theorem dX8_route_16 : decode cX8_route 16 = .ok (.iload_n 3, 1) := zy_0 zK_29 (by decide +kernel)
theorem dX8_route_17 : decode cX8_route 17 = .ok (.invokevirtual 163, 3) := zy_u2 (b1 := 0) (b2 := 163) zK_182 (by decide +kernel)
theorem dX8_route_20 : decode cX8_route 20 = .ok (.ireturn, 1) := zy_0 zK_172 (by decide +kernel)
theorem dX8_route_21 : decode cX8_route 21 = .ok (.aload_n 0, 1) := zy_0 zK_42 (by decide +kernel)
theorem dX8_route_22 : decode cX8_route 22 = .ok (.iload_n 2, 1) := zy_0 zK_28 (by decide +kernel)
theorem dX8_route_23 : decode cX8_route 23 = .ok (.invokevirtual 324, 3) := zy_u2 (b1 := 1) (b2 := 68) zK_182 (by decide +kernel)
theorem dX8_route_26 : decode cX8_route 26 = .ok (.aload_n 0, 1) := zy_0 zK_42 (by decide +kernel)
theorem dX8_route_27 : decode cX8_route 27 = .ok (.getfield 50, 3) := zy_u2 (b1 := 0) (b2 := 50) zK_180 (by decide +kernel)
theorem dX8_route_30 : decode cX8_route 30 = .ok (.iload_n 1, 1) := zy_0 zK_27 (by decide +kernel)
theorem dX8_route_31 : decode cX8_route 31 = .ok (.iaload, 1) := zy_0 zK_46 (by decide +kernel)
theorem dX8_route_32 : decode cX8_route 32 = .ok (.ireturn, 1) := zy_0 zK_172 (by decide +kernel)
theorem dX8_routeAt_0 : decode cX8_routeAt 0 = .ok (.aload_n 0, 1) := zy_0 zK_42 (by decide +kernel)
theorem dX8_routeAt_1 : decode cX8_routeAt 1 = .ok (.invokevirtual 160, 3) := zy_u2 (b1 := 0) (b2 := 160) zK_182 (by decide +kernel)
theorem dX8_routeAt_4 : decode cX8_routeAt 4 = .ok (.aload_n 0, 1) := zy_0 zK_42 (by decide +kernel)
theorem dX8_routeAt_5 : decode cX8_routeAt 5 = .ok (.iload_n 1, 1) := zy_0 zK_27 (by decide +kernel)
theorem dX8_routeAt_6 : decode cX8_routeAt 6 = .ok (.iload_n 2, 1) := zy_0 zK_28 (by decide +kernel)
theorem dX8_routeAt_7 : decode cX8_routeAt 7 = .ok (.invokevirtual 321, 3) := zy_u2 (b1 := 1) (b2 := 65) zK_182 (by decide +kernel)
theorem dX8_routeAt_10 : decode cX8_routeAt 10 = .ok (.istore 4, 2) := zy_u1 (b1 := 4) zK_54 (by decide +kernel)
theorem dX8_routeAt_12 : decode cX8_routeAt 12 = .ok (.iload 4, 2) := zy_u1 (b1 := 4) zK_21 (by decide +kernel)
theorem dX8_routeAt_14 : decode cX8_routeAt 14 = .ok (.ifCond .ne 15, 3) := zy_s2 (b1 := 0) (b2 := 15) zK_154 (by decide +kernel) (by decide +kernel)
theorem dX8_routeAt_17 : decode cX8_routeAt 17 = .ok (.iload_n 3, 1) := zy_0 zK_29 (by decide +kernel)
theorem dX8_routeAt_18 : decode cX8_routeAt 18 = .ok (.iconst 1, 1) := zy_0 zK_4 (by decide +kernel)
theorem dX8_routeAt_19 : decode cX8_routeAt 19 = .ok (.iload_n 2, 1) := zy_0 zK_28 (by decide +kernel)
theorem dX8_routeAt_20 : decode cX8_routeAt 20 = .ok (.invokestatic 142, 3) := zy_u2 (b1 := 0) (b2 := 142) zK_184 (by decide +kernel)
theorem dX8_routeAt_23 : decode cX8_routeAt 23 = .ok (.ifCond .ne 6, 3) := zy_s2 (b1 := 0) (b2 := 6) zK_154 (by decide +kernel) (by decide +kernel)
theorem dX8_routeAt_26 : decode cX8_routeAt 26 = .ok (.iconst 1, 1) := zy_0 zK_4 (by decide +kernel)
theorem dX8_routeAt_27 : decode cX8_routeAt 27 = .ok (.istore 4, 2) := zy_u1 (b1 := 4) zK_54 (by decide +kernel)
theorem dX8_routeAt_29 : decode cX8_routeAt 29 = .ok (.iload 4, 2) := zy_u1 (b1 := 4) zK_21 (by decide +kernel)
theorem dX8_routeAt_31 : decode cX8_routeAt 31 = .ok (.ifCond .eq 10, 3) := zy_s2 (b1 := 0) (b2 := 10) zK_153 (by decide +kernel) (by decide +kernel)
theorem dX8_routeAt_34 : decode cX8_routeAt 34 = .ok (.aload_n 0, 1) := zy_0 zK_42 (by decide +kernel)
theorem dX8_routeAt_35 : decode cX8_routeAt 35 = .ok (.iload 4, 2) := zy_u1 (b1 := 4) zK_21 (by decide +kernel)
theorem dX8_routeAt_37 : decode cX8_routeAt 37 = .ok (.invokevirtual 163, 3) := zy_u2 (b1 := 0) (b2 := 163) zK_182 (by decide +kernel)
theorem dX8_routeAt_40 : decode cX8_routeAt 40 = .ok (.ireturn, 1) := zy_0 zK_172 (by decide +kernel)
theorem dX8_routeAt_41 : decode cX8_routeAt 41 = .ok (.aload_n 0, 1) := zy_0 zK_42 (by decide +kernel)
theorem dX8_routeAt_42 : decode cX8_routeAt 42 = .ok (.iload_n 2, 1) := zy_0 zK_28 (by decide +kernel)
theorem dX8_routeAt_43 : decode cX8_routeAt 43 = .ok (.invokevirtual 324, 3) := zy_u2 (b1 := 1) (b2 := 68) zK_182 (by decide +kernel)
theorem dX8_routeAt_46 : decode cX8_routeAt 46 = .ok (.iload_n 1, 1) := zy_0 zK_27 (by decide +kernel)
theorem dX8_routeAt_47 : decode cX8_routeAt 47 = .ok (.istore 5, 2) := zy_u1 (b1 := 5) zK_54 (by decide +kernel)
theorem dX8_routeAt_49 : decode cX8_routeAt 49 = .ok (.iconst 0, 1) := zy_0 zK_3 (by decide +kernel)
theorem dX8_routeAt_50 : decode cX8_routeAt 50 = .ok (.istore 6, 2) := zy_u1 (b1 := 6) zK_54 (by decide +kernel)
theorem dX8_routeAt_52 : decode cX8_routeAt 52 = .ok (.iload 6, 2) := zy_u1 (b1 := 6) zK_21 (by decide +kernel)
theorem dX8_routeAt_54 : decode cX8_routeAt 54 = .ok (.iload_n 3, 1) := zy_0 zK_29 (by decide +kernel)
theorem dX8_routeAt_55 : decode cX8_routeAt 55 = .ok (.if_icmp .ge 20, 3) := zy_s2 (b1 := 0) (b2 := 20) zK_162 (by decide +kernel) (by decide +kernel)
theorem dX8_routeAt_58 : decode cX8_routeAt 58 = .ok (.aload_n 0, 1) := zy_0 zK_42 (by decide +kernel)
theorem dX8_routeAt_59 : decode cX8_routeAt 59 = .ok (.iload 6, 2) := zy_u1 (b1 := 6) zK_21 (by decide +kernel)
theorem dX8_routeAt_61 : decode cX8_routeAt 61 = .ok (.iload 5, 2) := zy_u1 (b1 := 5) zK_21 (by decide +kernel)
theorem dX8_routeAt_63 : decode cX8_routeAt 63 = .ok (.iconst 1, 1) := zy_0 zK_4 (by decide +kernel)
theorem dX8_routeAt_64 : decode cX8_routeAt 64 = .ok (.invokevirtual 317, 3) := zy_u2 (b1 := 1) (b2 := 61) zK_182 (by decide +kernel)
theorem dX8_routeAt_67 : decode cX8_routeAt 67 = .ok (.istore 5, 2) := zy_u1 (b1 := 5) zK_54 (by decide +kernel)
theorem dX8_routeAt_69 : decode cX8_routeAt 69 = .ok (.iinc 6 1, 3) := zy_ii (b1 := 6) (b2 := 1) zK_132 (by decide +kernel) (by decide +kernel)
theorem dX8_routeAt_72 : decode cX8_routeAt 72 = .ok (.goto (-20), 3) := zy_s2 (b1 := 255) (b2 := 236) zK_167 (by decide +kernel) (by decide +kernel)
theorem dX8_routeAt_75 : decode cX8_routeAt 75 = .ok (.iload 5, 2) := zy_u1 (b1 := 5) zK_21 (by decide +kernel)
theorem dX8_routeAt_77 : decode cX8_routeAt 77 = .ok (.ireturn, 1) := zy_0 zK_172 (by decide +kernel)
theorem dX8_stand_0 : decode cX8_stand 0 = .ok (.aload_n 0, 1) := zy_0 zK_42 (by decide +kernel)
theorem dX8_stand_1 : decode cX8_stand 1 = .ok (.invokevirtual 160, 3) := zy_u2 (b1 := 0) (b2 := 160) zK_182 (by decide +kernel)
theorem dX8_stand_4 : decode cX8_stand 4 = .ok (.aload_n 0, 1) := zy_0 zK_42 (by decide +kernel)
theorem dX8_stand_5 : decode cX8_stand 5 = .ok (.aload_n 0, 1) := zy_0 zK_42 (by decide +kernel)
theorem dX8_stand_6 : decode cX8_stand 6 = .ok (.getfield 173, 3) := zy_u2 (b1 := 0) (b2 := 173) zK_180 (by decide +kernel)
theorem dX8_stand_9 : decode cX8_stand 9 = .ok (.iload_n 1, 1) := zy_0 zK_27 (by decide +kernel)
theorem dX8_stand_10 : decode cX8_stand 10 = .ok (.iconst 1, 1) := zy_0 zK_4 (by decide +kernel)
theorem dX8_stand_11 : decode cX8_stand 11 = .ok (.bipush 60, 2) := zy_s1 (b1 := 60) zK_16 (by decide +kernel) (by decide +kernel)
theorem dX8_stand_13 : decode cX8_stand 13 = .ok (.invokestatic 142, 3) := zy_u2 (b1 := 0) (b2 := 142) zK_184 (by decide +kernel)
theorem dX8_stand_16 : decode cX8_stand 16 = .ok (.invokevirtual 290, 3) := zy_u2 (b1 := 1) (b2 := 34) zK_182 (by decide +kernel)
theorem dX8_stand_19 : decode cX8_stand 19 = .ok (.istore_n 2, 1) := zy_0 zK_61 (by decide +kernel)
theorem dX8_stand_20 : decode cX8_stand 20 = .ok (.iload_n 2, 1) := zy_0 zK_28 (by decide +kernel)
theorem dX8_stand_21 : decode cX8_stand 21 = .ok (.ifCond .eq 9, 3) := zy_s2 (b1 := 0) (b2 := 9) zK_153 (by decide +kernel) (by decide +kernel)
theorem dX8_stand_24 : decode cX8_stand 24 = .ok (.aload_n 0, 1) := zy_0 zK_42 (by decide +kernel)
theorem dX8_stand_25 : decode cX8_stand 25 = .ok (.iload_n 2, 1) := zy_0 zK_28 (by decide +kernel)
theorem dX8_stand_26 : decode cX8_stand 26 = .ok (.invokevirtual 163, 3) := zy_u2 (b1 := 0) (b2 := 163) zK_182 (by decide +kernel)
theorem dX8_stand_29 : decode cX8_stand 29 = .ok (.ireturn, 1) := zy_0 zK_172 (by decide +kernel)
theorem dX8_stand_30 : decode cX8_stand 30 = .ok (.aload_n 0, 1) := zy_0 zK_42 (by decide +kernel)
theorem dX8_stand_31 : decode cX8_stand 31 = .ok (.iload_n 1, 1) := zy_0 zK_27 (by decide +kernel)
theorem dX8_stand_32 : decode cX8_stand 32 = .ok (.invokevirtual 324, 3) := zy_u2 (b1 := 1) (b2 := 68) zK_182 (by decide +kernel)
theorem dX8_stand_35 : decode cX8_stand 35 = .ok (.iconst 0, 1) := zy_0 zK_3 (by decide +kernel)
theorem dX8_stand_36 : decode cX8_stand 36 = .ok (.istore_n 3, 1) := zy_0 zK_62 (by decide +kernel)
theorem dX8_stand_37 : decode cX8_stand 37 = .ok (.iconst 1, 1) := zy_0 zK_4 (by decide +kernel)
theorem dX8_stand_38 : decode cX8_stand 38 = .ok (.istore 4, 2) := zy_u1 (b1 := 4) zK_54 (by decide +kernel)
theorem dX8_stand_40 : decode cX8_stand 40 = .ok (.iload 4, 2) := zy_u1 (b1 := 4) zK_21 (by decide +kernel)
theorem dX8_stand_42 : decode cX8_stand 42 = .ok (.aload_n 0, 1) := zy_0 zK_42 (by decide +kernel)
theorem dX8_stand_43 : decode cX8_stand 43 = .ok (.getfield 20, 3) := zy_u2 (b1 := 0) (b2 := 20) zK_180 (by decide +kernel)
theorem dX8_stand_46 : decode cX8_stand 46 = .ok (.iconst 0, 1) := zy_0 zK_3 (by decide +kernel)
theorem dX8_stand_47 : decode cX8_stand 47 = .ok (.iaload, 1) := zy_0 zK_46 (by decide +kernel)
theorem dX8_stand_48 : decode cX8_stand 48 = .ok (.if_icmp .ge 28, 3) := zy_s2 (b1 := 0) (b2 := 28) zK_162 (by decide +kernel) (by decide +kernel)
theorem dX8_stand_51 : decode cX8_stand 51 = .ok (.aload_n 0, 1) := zy_0 zK_42 (by decide +kernel)
theorem dX8_stand_52 : decode cX8_stand 52 = .ok (.getfield 50, 3) := zy_u2 (b1 := 0) (b2 := 50) zK_180 (by decide +kernel)
theorem dX8_stand_55 : decode cX8_stand 55 = .ok (.iload 4, 2) := zy_u1 (b1 := 4) zK_21 (by decide +kernel)
theorem dX8_stand_57 : decode cX8_stand 57 = .ok (.iaload, 1) := zy_0 zK_46 (by decide +kernel)
theorem dX8_stand_58 : decode cX8_stand 58 = .ok (.aload_n 0, 1) := zy_0 zK_42 (by decide +kernel)
theorem dX8_stand_59 : decode cX8_stand 59 = .ok (.getfield 50, 3) := zy_u2 (b1 := 0) (b2 := 50) zK_180 (by decide +kernel)
theorem dX8_stand_62 : decode cX8_stand 62 = .ok (.iload_n 3, 1) := zy_0 zK_29 (by decide +kernel)
theorem dX8_stand_63 : decode cX8_stand 63 = .ok (.iaload, 1) := zy_0 zK_46 (by decide +kernel)
theorem dX8_stand_64 : decode cX8_stand 64 = .ok (.if_icmp .le 6, 3) := zy_s2 (b1 := 0) (b2 := 6) zK_164 (by decide +kernel) (by decide +kernel)
theorem dX8_stand_67 : decode cX8_stand 67 = .ok (.iload 4, 2) := zy_u1 (b1 := 4) zK_21 (by decide +kernel)
theorem dX8_stand_69 : decode cX8_stand 69 = .ok (.istore_n 3, 1) := zy_0 zK_62 (by decide +kernel)
theorem dX8_stand_70 : decode cX8_stand 70 = .ok (.iinc 4 1, 3) := zy_ii (b1 := 4) (b2 := 1) zK_132 (by decide +kernel) (by decide +kernel)
theorem dX8_stand_73 : decode cX8_stand 73 = .ok (.goto (-33), 3) := zy_s2 (b1 := 255) (b2 := 223) zK_167 (by decide +kernel) (by decide +kernel)
theorem dX8_stand_76 : decode cX8_stand 76 = .ok (.iload_n 3, 1) := zy_0 zK_29 (by decide +kernel)
theorem dX8_stand_77 : decode cX8_stand 77 = .ok (.ireturn, 1) := zy_0 zK_172 (by decide +kernel)
theorem dX8_guard_0 : decode cX8_guard 0 = .ok (.aload_n 0, 1) := zy_0 zK_42 (by decide +kernel)
theorem dX8_guard_1 : decode cX8_guard 1 = .ok (.invokevirtual 160, 3) := zy_u2 (b1 := 0) (b2 := 160) zK_182 (by decide +kernel)
theorem dX8_guard_4 : decode cX8_guard 4 = .ok (.aload_n 0, 1) := zy_0 zK_42 (by decide +kernel)
theorem dX8_guard_5 : decode cX8_guard 5 = .ok (.aload_n 0, 1) := zy_0 zK_42 (by decide +kernel)
theorem dX8_guard_6 : decode cX8_guard 6 = .ok (.getfield 173, 3) := zy_u2 (b1 := 0) (b2 := 173) zK_180 (by decide +kernel)
theorem dX8_guard_9 : decode cX8_guard 9 = .ok (.iload_n 1, 1) := zy_0 zK_27 (by decide +kernel)
theorem dX8_guard_10 : decode cX8_guard 10 = .ok (.iconst 1, 1) := zy_0 zK_4 (by decide +kernel)
theorem dX8_guard_11 : decode cX8_guard 11 = .ok (.bipush 60, 2) := zy_s1 (b1 := 60) zK_16 (by decide +kernel) (by decide +kernel)
theorem dX8_guard_13 : decode cX8_guard 13 = .ok (.invokestatic 142, 3) := zy_u2 (b1 := 0) (b2 := 142) zK_184 (by decide +kernel)
theorem dX8_guard_16 : decode cX8_guard 16 = .ok (.invokevirtual 290, 3) := zy_u2 (b1 := 1) (b2 := 34) zK_182 (by decide +kernel)
theorem dX8_guard_19 : decode cX8_guard 19 = .ok (.istore_n 2, 1) := zy_0 zK_61 (by decide +kernel)
theorem dX8_guard_20 : decode cX8_guard 20 = .ok (.iload_n 2, 1) := zy_0 zK_28 (by decide +kernel)
theorem dX8_guard_21 : decode cX8_guard 21 = .ok (.ifCond .eq 9, 3) := zy_s2 (b1 := 0) (b2 := 9) zK_153 (by decide +kernel) (by decide +kernel)
theorem dX8_guard_24 : decode cX8_guard 24 = .ok (.aload_n 0, 1) := zy_0 zK_42 (by decide +kernel)
theorem dX8_guard_25 : decode cX8_guard 25 = .ok (.iload_n 2, 1) := zy_0 zK_28 (by decide +kernel)
theorem dX8_guard_26 : decode cX8_guard 26 = .ok (.invokevirtual 163, 3) := zy_u2 (b1 := 0) (b2 := 163) zK_182 (by decide +kernel)
theorem dX8_guard_29 : decode cX8_guard 29 = .ok (.ireturn, 1) := zy_0 zK_172 (by decide +kernel)
theorem dX8_guard_30 : decode cX8_guard 30 = .ok (.bipush (-2), 2) := zy_s1 (b1 := 254) zK_16 (by decide +kernel) (by decide +kernel)
theorem dX8_guard_32 : decode cX8_guard 32 = .ok (.istore_n 3, 1) := zy_0 zK_62 (by decide +kernel)
theorem dX8_guard_33 : decode cX8_guard 33 = .ok (.iconst 0, 1) := zy_0 zK_3 (by decide +kernel)
theorem dX8_guard_34 : decode cX8_guard 34 = .ok (.istore 4, 2) := zy_u1 (b1 := 4) zK_54 (by decide +kernel)
theorem dX8_guard_36 : decode cX8_guard 36 = .ok (.iload 4, 2) := zy_u1 (b1 := 4) zK_21 (by decide +kernel)
theorem dX8_guard_38 : decode cX8_guard 38 = .ok (.iconst 1, 1) := zy_0 zK_4 (by decide +kernel)
theorem dX8_guard_39 : decode cX8_guard 39 = .ok (.aload_n 0, 1) := zy_0 zK_42 (by decide +kernel)
theorem dX8_guard_40 : decode cX8_guard 40 = .ok (.getfield 20, 3) := zy_u2 (b1 := 0) (b2 := 20) zK_180 (by decide +kernel)
theorem dX8_guard_43 : decode cX8_guard 43 = .ok (.iconst 0, 1) := zy_0 zK_3 (by decide +kernel)
theorem dX8_guard_44 : decode cX8_guard 44 = .ok (.iaload, 1) := zy_0 zK_46 (by decide +kernel)
theorem dX8_guard_45 : decode cX8_guard 45 = .ok (.ishl, 1) := zy_0 zK_120 (by decide +kernel)
theorem dX8_guard_46 : decode cX8_guard 46 = .ok (.if_icmp .ge 81, 3) := zy_s2 (b1 := 0) (b2 := 81) zK_162 (by decide +kernel) (by decide +kernel)
theorem dX8_guard_49 : decode cX8_guard 49 = .ok (.iload_n 3, 1) := zy_0 zK_29 (by decide +kernel)
theorem dX8_guard_50 : decode cX8_guard 50 = .ok (.ifCond .lt 18, 3) := zy_s2 (b1 := 0) (b2 := 18) zK_155 (by decide +kernel) (by decide +kernel)
theorem dX8_guard_53 : decode cX8_guard 53 = .ok (.iload 4, 2) := zy_u1 (b1 := 4) zK_21 (by decide +kernel)
theorem dX8_guard_55 : decode cX8_guard 55 = .ok (.invokestatic 314, 3) := zy_u2 (b1 := 1) (b2 := 58) zK_184 (by decide +kernel)
theorem dX8_guard_58 : decode cX8_guard 58 = .ok (.iload_n 3, 1) := zy_0 zK_29 (by decide +kernel)
theorem dX8_guard_59 : decode cX8_guard 59 = .ok (.invokestatic 314, 3) := zy_u2 (b1 := 1) (b2 := 58) zK_184 (by decide +kernel)
theorem dX8_guard_62 : decode cX8_guard 62 = .ok (.if_icmp .lt 6, 3) := zy_s2 (b1 := 0) (b2 := 6) zK_161 (by decide +kernel) (by decide +kernel)
theorem dX8_guard_65 : decode cX8_guard 65 = .ok (.goto 56, 3) := zy_s2 (b1 := 0) (b2 := 56) zK_167 (by decide +kernel) (by decide +kernel)
theorem dX8_guard_68 : decode cX8_guard 68 = .ok (.aload_n 0, 1) := zy_0 zK_42 (by decide +kernel)
theorem dX8_guard_69 : decode cX8_guard 69 = .ok (.invokevirtual 270, 3) := zy_u2 (b1 := 1) (b2 := 14) zK_182 (by decide +kernel)
theorem dX8_guard_72 : decode cX8_guard 72 = .ok (.aload_n 0, 1) := zy_0 zK_42 (by decide +kernel)
theorem dX8_guard_73 : decode cX8_guard 73 = .ok (.iload 4, 2) := zy_u1 (b1 := 4) zK_21 (by decide +kernel)
theorem dX8_guard_75 : decode cX8_guard 75 = .ok (.putfield 235, 3) := zy_u2 (b1 := 0) (b2 := 235) zK_181 (by decide +kernel)
theorem dX8_guard_78 : decode cX8_guard 78 = .ok (.iconst 0, 1) := zy_0 zK_3 (by decide +kernel)
theorem dX8_guard_79 : decode cX8_guard 79 = .ok (.istore 5, 2) := zy_u1 (b1 := 5) zK_54 (by decide +kernel)
theorem dX8_guard_81 : decode cX8_guard 81 = .ok (.iload 5, 2) := zy_u1 (b1 := 5) zK_21 (by decide +kernel)
theorem dX8_guard_83 : decode cX8_guard 83 = .ok (.iload_n 1, 1) := zy_0 zK_27 (by decide +kernel)
theorem dX8_guard_84 : decode cX8_guard 84 = .ok (.if_icmp .ge 17, 3) := zy_s2 (b1 := 0) (b2 := 17) zK_162 (by decide +kernel) (by decide +kernel)
theorem dX8_guard_87 : decode cX8_guard 87 = .ok (.aload_n 0, 1) := zy_0 zK_42 (by decide +kernel)
theorem dX8_guard_88 : decode cX8_guard 88 = .ok (.aload_n 0, 1) := zy_0 zK_42 (by decide +kernel)
theorem dX8_guard_89 : decode cX8_guard 89 = .ok (.getfield 29, 3) := zy_u2 (b1 := 0) (b2 := 29) zK_180 (by decide +kernel)
theorem dX8_guard_92 : decode cX8_guard 92 = .ok (.invokevirtual 273, 3) := zy_u2 (b1 := 1) (b2 := 17) zK_182 (by decide +kernel)
theorem dX8_guard_95 : decode cX8_guard 95 = .ok (.iinc 5 1, 3) := zy_ii (b1 := 5) (b2 := 1) zK_132 (by decide +kernel) (by decide +kernel)
theorem dX8_guard_98 : decode cX8_guard 98 = .ok (.goto (-17), 3) := zy_s2 (b1 := 255) (b2 := 239) zK_167 (by decide +kernel) (by decide +kernel)
theorem dX8_guard_101 : decode cX8_guard 101 = .ok (.aload_n 0, 1) := zy_0 zK_42 (by decide +kernel)
theorem dX8_guard_102 : decode cX8_guard 102 = .ok (.getfield 29, 3) := zy_u2 (b1 := 0) (b2 := 29) zK_180 (by decide +kernel)
theorem dX8_guard_105 : decode cX8_guard 105 = .ok (.bipush 18, 2) := zy_s1 (b1 := 18) zK_16 (by decide +kernel) (by decide +kernel)
theorem dX8_guard_107 : decode cX8_guard 107 = .ok (.iaload, 1) := zy_0 zK_46 (by decide +kernel)
theorem dX8_guard_108 : decode cX8_guard 108 = .ok (.aload_n 0, 1) := zy_0 zK_42 (by decide +kernel)
theorem dX8_guard_109 : decode cX8_guard 109 = .ok (.getfield 26, 3) := zy_u2 (b1 := 0) (b2 := 26) zK_180 (by decide +kernel)
theorem dX8_guard_112 : decode cX8_guard 112 = .ok (.bipush 18, 2) := zy_s1 (b1 := 18) zK_16 (by decide +kernel) (by decide +kernel)
theorem dX8_guard_114 : decode cX8_guard 114 = .ok (.iaload, 1) := zy_0 zK_46 (by decide +kernel)
theorem dX8_guard_115 : decode cX8_guard 115 = .ok (.if_icmp .ne 6, 3) := zy_s2 (b1 := 0) (b2 := 6) zK_160 (by decide +kernel) (by decide +kernel)
theorem dX8_guard_118 : decode cX8_guard 118 = .ok (.iload 4, 2) := zy_u1 (b1 := 4) zK_21 (by decide +kernel)
theorem dX8_guard_120 : decode cX8_guard 120 = .ok (.istore_n 3, 1) := zy_0 zK_62 (by decide +kernel)
theorem dX8_guard_121 : decode cX8_guard 121 = .ok (.iinc 4 1, 3) := zy_ii (b1 := 4) (b2 := 1) zK_132 (by decide +kernel) (by decide +kernel)
theorem dX8_guard_124 : decode cX8_guard 124 = .ok (.goto (-88), 3) := zy_s2 (b1 := 255) (b2 := 168) zK_167 (by decide +kernel) (by decide +kernel)
theorem dX8_guard_127 : decode cX8_guard 127 = .ok (.aload_n 0, 1) := zy_0 zK_42 (by decide +kernel)
theorem dX8_guard_128 : decode cX8_guard 128 = .ok (.iconst 0, 1) := zy_0 zK_3 (by decide +kernel)
theorem dX8_guard_129 : decode cX8_guard 129 = .ok (.putfield 235, 3) := zy_u2 (b1 := 0) (b2 := 235) zK_181 (by decide +kernel)
theorem dX8_guard_132 : decode cX8_guard 132 = .ok (.iload_n 3, 1) := zy_0 zK_29 (by decide +kernel)
theorem dX8_guard_133 : decode cX8_guard 133 = .ok (.ireturn, 1) := zy_0 zK_172 (by decide +kernel)
theorem dX8_turnBy_0 : decode cX8_turnBy 0 = .ok (.iconst 0, 1) := zy_0 zK_3 (by decide +kernel)
theorem dX8_turnBy_1 : decode cX8_turnBy 1 = .ok (.istore 5, 2) := zy_u1 (b1 := 5) zK_54 (by decide +kernel)
theorem dX8_turnBy_3 : decode cX8_turnBy 3 = .ok (.iload 5, 2) := zy_u1 (b1 := 5) zK_21 (by decide +kernel)
theorem dX8_turnBy_5 : decode cX8_turnBy 5 = .ok (.bipush 9, 2) := zy_s1 (b1 := 9) zK_16 (by decide +kernel) (by decide +kernel)
theorem dX8_turnBy_7 : decode cX8_turnBy 7 = .ok (.if_icmp .ge 17, 3) := zy_s2 (b1 := 0) (b2 := 17) zK_162 (by decide +kernel) (by decide +kernel)
theorem dX8_turnBy_10 : decode cX8_turnBy 10 = .ok (.aload_n 0, 1) := zy_0 zK_42 (by decide +kernel)
theorem dX8_turnBy_11 : decode cX8_turnBy 11 = .ok (.getfield 53, 3) := zy_u2 (b1 := 0) (b2 := 53) zK_180 (by decide +kernel)
theorem dX8_turnBy_14 : decode cX8_turnBy 14 = .ok (.iload 5, 2) := zy_u1 (b1 := 5) zK_21 (by decide +kernel)
theorem dX8_turnBy_16 : decode cX8_turnBy 16 = .ok (.iconst (-1), 1) := zy_0 zK_2 (by decide +kernel)
theorem dX8_turnBy_17 : decode cX8_turnBy 17 = .ok (.iastore, 1) := zy_0 zK_79 (by decide +kernel)
theorem dX8_turnBy_18 : decode cX8_turnBy 18 = .ok (.iinc 5 1, 3) := zy_ii (b1 := 5) (b2 := 1) zK_132 (by decide +kernel) (by decide +kernel)
theorem dX8_turnBy_21 : decode cX8_turnBy 21 = .ok (.goto (-18), 3) := zy_s2 (b1 := 255) (b2 := 238) zK_167 (by decide +kernel) (by decide +kernel)
theorem dX8_turnBy_24 : decode cX8_turnBy 24 = .ok (.iload_n 3, 1) := zy_0 zK_29 (by decide +kernel)
theorem dX8_turnBy_25 : decode cX8_turnBy 25 = .ok (.istore 5, 2) := zy_u1 (b1 := 5) zK_54 (by decide +kernel)
theorem dX8_turnBy_27 : decode cX8_turnBy 27 = .ok (.iconst 0, 1) := zy_0 zK_3 (by decide +kernel)
theorem dX8_turnBy_28 : decode cX8_turnBy 28 = .ok (.istore 6, 2) := zy_u1 (b1 := 6) zK_54 (by decide +kernel)
theorem dX8_turnBy_30 : decode cX8_turnBy 30 = .ok (.iload 6, 2) := zy_u1 (b1 := 6) zK_21 (by decide +kernel)
theorem dX8_turnBy_32 : decode cX8_turnBy 32 = .ok (.iload 4, 2) := zy_u1 (b1 := 4) zK_21 (by decide +kernel)
theorem dX8_turnBy_34 : decode cX8_turnBy 34 = .ok (.if_icmp .ge 43, 3) := zy_s2 (b1 := 0) (b2 := 43) zK_162 (by decide +kernel) (by decide +kernel)
theorem dX8_turnBy_37 : decode cX8_turnBy 37 = .ok (.aload_n 0, 1) := zy_0 zK_42 (by decide +kernel)
theorem dX8_turnBy_38 : decode cX8_turnBy 38 = .ok (.getfield 53, 3) := zy_u2 (b1 := 0) (b2 := 53) zK_180 (by decide +kernel)
theorem dX8_turnBy_41 : decode cX8_turnBy 41 = .ok (.iload 5, 2) := zy_u1 (b1 := 5) zK_21 (by decide +kernel)
theorem dX8_turnBy_43 : decode cX8_turnBy 43 = .ok (.iaload, 1) := zy_0 zK_46 (by decide +kernel)
theorem dX8_turnBy_44 : decode cX8_turnBy 44 = .ok (.ifCond .ge 33, 3) := zy_s2 (b1 := 0) (b2 := 33) zK_156 (by decide +kernel) (by decide +kernel)
theorem dX8_turnBy_47 : decode cX8_turnBy 47 = .ok (.aload_n 0, 1) := zy_0 zK_42 (by decide +kernel)
theorem dX8_turnBy_48 : decode cX8_turnBy 48 = .ok (.getfield 53, 3) := zy_u2 (b1 := 0) (b2 := 53) zK_180 (by decide +kernel)
theorem dX8_turnBy_51 : decode cX8_turnBy 51 = .ok (.iload 5, 2) := zy_u1 (b1 := 5) zK_21 (by decide +kernel)
theorem dX8_turnBy_53 : decode cX8_turnBy 53 = .ok (.iload 6, 2) := zy_u1 (b1 := 6) zK_21 (by decide +kernel)
theorem dX8_turnBy_55 : decode cX8_turnBy 55 = .ok (.iastore, 1) := zy_0 zK_79 (by decide +kernel)
theorem dX8_turnBy_56 : decode cX8_turnBy 56 = .ok (.iload_n 1, 1) := zy_0 zK_27 (by decide +kernel)
theorem dX8_turnBy_57 : decode cX8_turnBy 57 = .ok (.iload 5, 2) := zy_u1 (b1 := 5) zK_21 (by decide +kernel)
theorem dX8_turnBy_59 : decode cX8_turnBy 59 = .ok (.imul, 1) := zy_0 zK_104 (by decide +kernel)
theorem dX8_turnBy_60 : decode cX8_turnBy 60 = .ok (.iload_n 2, 1) := zy_0 zK_28 (by decide +kernel)
theorem dX8_turnBy_61 : decode cX8_turnBy 61 = .ok (.iadd, 1) := zy_0 zK_96 (by decide +kernel)
theorem dX8_turnBy_62 : decode cX8_turnBy 62 = .ok (.aload_n 0, 1) := zy_0 zK_42 (by decide +kernel)
theorem dX8_turnBy_63 : decode cX8_turnBy 63 = .ok (.getfield 20, 3) := zy_u2 (b1 := 0) (b2 := 20) zK_180 (by decide +kernel)
theorem dX8_turnBy_66 : decode cX8_turnBy 66 = .ok (.iconst 0, 1) := zy_0 zK_3 (by decide +kernel)
theorem dX8_turnBy_67 : decode cX8_turnBy 67 = .ok (.iaload, 1) := zy_0 zK_46 (by decide +kernel)
theorem dX8_turnBy_68 : decode cX8_turnBy 68 = .ok (.irem, 1) := zy_0 zK_112 (by decide +kernel)
theorem dX8_turnBy_69 : decode cX8_turnBy 69 = .ok (.istore 5, 2) := zy_u1 (b1 := 5) zK_54 (by decide +kernel)
theorem dX8_turnBy_71 : decode cX8_turnBy 71 = .ok (.iinc 6 1, 3) := zy_ii (b1 := 6) (b2 := 1) zK_132 (by decide +kernel) (by decide +kernel)
theorem dX8_turnBy_74 : decode cX8_turnBy 74 = .ok (.goto (-44), 3) := zy_s2 (b1 := 255) (b2 := 212) zK_167 (by decide +kernel) (by decide +kernel)
theorem dX8_turnBy_77 : decode cX8_turnBy 77 = .ok (.iload 6, 2) := zy_u1 (b1 := 6) zK_21 (by decide +kernel)
theorem dX8_turnBy_79 : decode cX8_turnBy 79 = .ok (.iload 4, 2) := zy_u1 (b1 := 4) zK_21 (by decide +kernel)
theorem dX8_turnBy_81 : decode cX8_turnBy 81 = .ok (.if_icmp .ge 22, 3) := zy_s2 (b1 := 0) (b2 := 22) zK_162 (by decide +kernel) (by decide +kernel)
theorem dX8_turnBy_84 : decode cX8_turnBy 84 = .ok (.iload 4, 2) := zy_u1 (b1 := 4) zK_21 (by decide +kernel)
theorem dX8_turnBy_86 : decode cX8_turnBy 86 = .ok (.iload 6, 2) := zy_u1 (b1 := 6) zK_21 (by decide +kernel)
theorem dX8_turnBy_88 : decode cX8_turnBy 88 = .ok (.isub, 1) := zy_0 zK_100 (by decide +kernel)
theorem dX8_turnBy_89 : decode cX8_turnBy 89 = .ok (.iload 6, 2) := zy_u1 (b1 := 6) zK_21 (by decide +kernel)
theorem dX8_turnBy_91 : decode cX8_turnBy 91 = .ok (.aload_n 0, 1) := zy_0 zK_42 (by decide +kernel)
theorem dX8_turnBy_92 : decode cX8_turnBy 92 = .ok (.getfield 53, 3) := zy_u2 (b1 := 0) (b2 := 53) zK_180 (by decide +kernel)
theorem dX8_turnBy_95 : decode cX8_turnBy 95 = .ok (.iload 5, 2) := zy_u1 (b1 := 5) zK_21 (by decide +kernel)
theorem dX8_turnBy_97 : decode cX8_turnBy 97 = .ok (.iaload, 1) := zy_0 zK_46 (by decide +kernel)
theorem dX8_turnBy_98 : decode cX8_turnBy 98 = .ok (.isub, 1) := zy_0 zK_100 (by decide +kernel)
theorem dX8_turnBy_99 : decode cX8_turnBy 99 = .ok (.irem, 1) := zy_0 zK_112 (by decide +kernel)
theorem dX8_turnBy_100 : decode cX8_turnBy 100 = .ok (.goto 4, 3) := zy_s2 (b1 := 0) (b2 := 4) zK_167 (by decide +kernel) (by decide +kernel)
theorem dX8_turnBy_103 : decode cX8_turnBy 103 = .ok (.iconst 0, 1) := zy_0 zK_3 (by decide +kernel)
theorem dX8_turnBy_104 : decode cX8_turnBy 104 = .ok (.istore 7, 2) := zy_u1 (b1 := 7) zK_54 (by decide +kernel)
theorem dX8_turnBy_106 : decode cX8_turnBy 106 = .ok (.iconst 0, 1) := zy_0 zK_3 (by decide +kernel)
theorem dX8_turnBy_107 : decode cX8_turnBy 107 = .ok (.istore 8, 2) := zy_u1 (b1 := 8) zK_54 (by decide +kernel)
theorem dX8_turnBy_109 : decode cX8_turnBy 109 = .ok (.iload 8, 2) := zy_u1 (b1 := 8) zK_21 (by decide +kernel)
theorem dX8_turnBy_111 : decode cX8_turnBy 111 = .ok (.iload 7, 2) := zy_u1 (b1 := 7) zK_21 (by decide +kernel)
theorem dX8_turnBy_113 : decode cX8_turnBy 113 = .ok (.if_icmp .ge 24, 3) := zy_s2 (b1 := 0) (b2 := 24) zK_162 (by decide +kernel) (by decide +kernel)
theorem dX8_turnBy_116 : decode cX8_turnBy 116 = .ok (.iload_n 1, 1) := zy_0 zK_27 (by decide +kernel)
theorem dX8_turnBy_117 : decode cX8_turnBy 117 = .ok (.iload 5, 2) := zy_u1 (b1 := 5) zK_21 (by decide +kernel)
theorem dX8_turnBy_119 : decode cX8_turnBy 119 = .ok (.imul, 1) := zy_0 zK_104 (by decide +kernel)
theorem dX8_turnBy_120 : decode cX8_turnBy 120 = .ok (.iload_n 2, 1) := zy_0 zK_28 (by decide +kernel)
theorem dX8_turnBy_121 : decode cX8_turnBy 121 = .ok (.iadd, 1) := zy_0 zK_96 (by decide +kernel)
theorem dX8_turnBy_122 : decode cX8_turnBy 122 = .ok (.aload_n 0, 1) := zy_0 zK_42 (by decide +kernel)
theorem dX8_turnBy_123 : decode cX8_turnBy 123 = .ok (.getfield 20, 3) := zy_u2 (b1 := 0) (b2 := 20) zK_180 (by decide +kernel)
end P03_decode_09
section P03_decode_10
theorem dX8_turnBy_126 : decode cX8_turnBy 126 = .ok (.iconst 0, 1) := zy_0 zK_3 (by decide +kernel)
theorem dX8_turnBy_127 : decode cX8_turnBy 127 = .ok (.iaload, 1) := zy_0 zK_46 (by decide +kernel)
theorem dX8_turnBy_128 : decode cX8_turnBy 128 = .ok (.irem, 1) := zy_0 zK_112 (by decide +kernel)
theorem dX8_turnBy_129 : decode cX8_turnBy 129 = .ok (.istore 5, 2) := zy_u1 (b1 := 5) zK_54 (by decide +kernel)
theorem dX8_turnBy_131 : decode cX8_turnBy 131 = .ok (.iinc 8 1, 3) := zy_ii (b1 := 8) (b2 := 1) zK_132 (by decide +kernel) (by decide +kernel)
theorem dX8_turnBy_134 : decode cX8_turnBy 134 = .ok (.goto (-25), 3) := zy_s2 (b1 := 255) (b2 := 231) zK_167 (by decide +kernel) (by decide +kernel)
theorem dX8_turnBy_137 : decode cX8_turnBy 137 = .ok (.iload 5, 2) := zy_u1 (b1 := 5) zK_21 (by decide +kernel)
theorem dX8_turnBy_139 : decode cX8_turnBy 139 = .ok (.ireturn, 1) := zy_0 zK_172 (by decide +kernel)
theorem dX8_codes_0 : decode cX8_codes 0 = .ok (.aload_n 0, 1) := zy_0 zK_42 (by decide +kernel)
theorem dX8_codes_1 : decode cX8_codes 1 = .ok (.getfield 20, 3) := zy_u2 (b1 := 0) (b2 := 20) zK_180 (by decide +kernel)
theorem dX8_codes_4 : decode cX8_codes 4 = .ok (.iconst 0, 1) := zy_0 zK_3 (by decide +kernel)
theorem dX8_codes_5 : decode cX8_codes 5 = .ok (.iaload, 1) := zy_0 zK_46 (by decide +kernel)
theorem dX8_codes_6 : decode cX8_codes 6 = .ok (.aload_n 0, 1) := zy_0 zK_42 (by decide +kernel)
theorem dX8_codes_7 : decode cX8_codes 7 = .ok (.getfield 20, 3) := zy_u2 (b1 := 0) (b2 := 20) zK_180 (by decide +kernel)
theorem dX8_codes_10 : decode cX8_codes 10 = .ok (.iconst 0, 1) := zy_0 zK_3 (by decide +kernel)
theorem dX8_codes_11 : decode cX8_codes 11 = .ok (.iaload, 1) := zy_0 zK_46 (by decide +kernel)
theorem dX8_codes_12 : decode cX8_codes 12 = .ok (.imul, 1) := zy_0 zK_104 (by decide +kernel)
theorem dX8_codes_13 : decode cX8_codes 13 = .ok (.aload_n 0, 1) := zy_0 zK_42 (by decide +kernel)
theorem dX8_codes_14 : decode cX8_codes 14 = .ok (.getfield 20, 3) := zy_u2 (b1 := 0) (b2 := 20) zK_180 (by decide +kernel)
theorem dX8_codes_17 : decode cX8_codes 17 = .ok (.iconst 0, 1) := zy_0 zK_3 (by decide +kernel)
theorem dX8_codes_18 : decode cX8_codes 18 = .ok (.iaload, 1) := zy_0 zK_46 (by decide +kernel)
theorem dX8_codes_19 : decode cX8_codes 19 = .ok (.imul, 1) := zy_0 zK_104 (by decide +kernel)
theorem dX8_codes_20 : decode cX8_codes 20 = .ok (.ireturn, 1) := zy_0 zK_172 (by decide +kernel)
theorem dX8_byCode_0 : decode cX8_byCode 0 = .ok (.aload_n 0, 1) := zy_0 zK_42 (by decide +kernel)
theorem dX8_byCode_1 : decode cX8_byCode 1 = .ok (.iload_n 1, 1) := zy_0 zK_27 (by decide +kernel)
theorem dX8_byCode_2 : decode cX8_byCode 2 = .ok (.aload_n 0, 1) := zy_0 zK_42 (by decide +kernel)
theorem dX8_byCode_3 : decode cX8_byCode 3 = .ok (.getfield 20, 3) := zy_u2 (b1 := 0) (b2 := 20) zK_180 (by decide +kernel)
theorem dX8_byCode_6 : decode cX8_byCode 6 = .ok (.iconst 0, 1) := zy_0 zK_3 (by decide +kernel)
theorem dX8_byCode_7 : decode cX8_byCode 7 = .ok (.iaload, 1) := zy_0 zK_46 (by decide +kernel)
theorem dX8_byCode_8 : decode cX8_byCode 8 = .ok (.aload_n 0, 1) := zy_0 zK_42 (by decide +kernel)
theorem dX8_byCode_9 : decode cX8_byCode 9 = .ok (.getfield 20, 3) := zy_u2 (b1 := 0) (b2 := 20) zK_180 (by decide +kernel)
theorem dX8_byCode_12 : decode cX8_byCode 12 = .ok (.iconst 0, 1) := zy_0 zK_3 (by decide +kernel)
theorem dX8_byCode_13 : decode cX8_byCode 13 = .ok (.iaload, 1) := zy_0 zK_46 (by decide +kernel)
theorem dX8_byCode_14 : decode cX8_byCode 14 = .ok (.imul, 1) := zy_0 zK_104 (by decide +kernel)
theorem dX8_byCode_15 : decode cX8_byCode 15 = .ok (.idiv, 1) := zy_0 zK_108 (by decide +kernel)
theorem dX8_byCode_16 : decode cX8_byCode 16 = .ok (.iload_n 1, 1) := zy_0 zK_27 (by decide +kernel)
theorem dX8_byCode_17 : decode cX8_byCode 17 = .ok (.aload_n 0, 1) := zy_0 zK_42 (by decide +kernel)
theorem dX8_byCode_18 : decode cX8_byCode 18 = .ok (.getfield 20, 3) := zy_u2 (b1 := 0) (b2 := 20) zK_180 (by decide +kernel)
theorem dX8_byCode_21 : decode cX8_byCode 21 = .ok (.iconst 0, 1) := zy_0 zK_3 (by decide +kernel)
theorem dX8_byCode_22 : decode cX8_byCode 22 = .ok (.iaload, 1) := zy_0 zK_46 (by decide +kernel)
theorem dX8_byCode_23 : decode cX8_byCode 23 = .ok (.idiv, 1) := zy_0 zK_108 (by decide +kernel)
theorem dX8_byCode_24 : decode cX8_byCode 24 = .ok (.aload_n 0, 1) := zy_0 zK_42 (by decide +kernel)
theorem dX8_byCode_25 : decode cX8_byCode 25 = .ok (.getfield 20, 3) := zy_u2 (b1 := 0) (b2 := 20) zK_180 (by decide +kernel)
theorem dX8_byCode_28 : decode cX8_byCode 28 = .ok (.iconst 0, 1) := zy_0 zK_3 (by decide +kernel)
theorem dX8_byCode_29 : decode cX8_byCode 29 = .ok (.iaload, 1) := zy_0 zK_46 (by decide +kernel)
theorem dX8_byCode_30 : decode cX8_byCode 30 = .ok (.irem, 1) := zy_0 zK_112 (by decide +kernel)
theorem dX8_byCode_31 : decode cX8_byCode 31 = .ok (.iload_n 1, 1) := zy_0 zK_27 (by decide +kernel)
theorem dX8_byCode_32 : decode cX8_byCode 32 = .ok (.aload_n 0, 1) := zy_0 zK_42 (by decide +kernel)
theorem dX8_byCode_33 : decode cX8_byCode 33 = .ok (.getfield 20, 3) := zy_u2 (b1 := 0) (b2 := 20) zK_180 (by decide +kernel)
theorem dX8_byCode_36 : decode cX8_byCode 36 = .ok (.iconst 0, 1) := zy_0 zK_3 (by decide +kernel)
theorem dX8_byCode_37 : decode cX8_byCode 37 = .ok (.iaload, 1) := zy_0 zK_46 (by decide +kernel)
theorem dX8_byCode_38 : decode cX8_byCode 38 = .ok (.irem, 1) := zy_0 zK_112 (by decide +kernel)
theorem dX8_byCode_39 : decode cX8_byCode 39 = .ok (.iload_n 2, 1) := zy_0 zK_28 (by decide +kernel)
theorem dX8_byCode_40 : decode cX8_byCode 40 = .ok (.invokevirtual 327, 3) := zy_u2 (b1 := 1) (b2 := 71) zK_182 (by decide +kernel)
theorem dX8_byCode_43 : decode cX8_byCode 43 = .ok (.ireturn, 1) := zy_0 zK_172 (by decide +kernel)
theorem dX8_numberOf_0 : decode cX8_numberOf 0 = .ok (.bipush 100, 2) := zy_s1 (b1 := 100) zK_16 (by decide +kernel) (by decide +kernel)
theorem dX8_numberOf_2 : decode cX8_numberOf 2 = .ok (.iload_n 1, 1) := zy_0 zK_27 (by decide +kernel)
theorem dX8_numberOf_3 : decode cX8_numberOf 3 = .ok (.aload_n 0, 1) := zy_0 zK_42 (by decide +kernel)
theorem dX8_numberOf_4 : decode cX8_numberOf 4 = .ok (.getfield 20, 3) := zy_u2 (b1 := 0) (b2 := 20) zK_180 (by decide +kernel)
theorem dX8_numberOf_7 : decode cX8_numberOf 7 = .ok (.iconst 0, 1) := zy_0 zK_3 (by decide +kernel)
theorem dX8_numberOf_8 : decode cX8_numberOf 8 = .ok (.iaload, 1) := zy_0 zK_46 (by decide +kernel)
theorem dX8_numberOf_9 : decode cX8_numberOf 9 = .ok (.aload_n 0, 1) := zy_0 zK_42 (by decide +kernel)
theorem dX8_numberOf_10 : decode cX8_numberOf 10 = .ok (.getfield 20, 3) := zy_u2 (b1 := 0) (b2 := 20) zK_180 (by decide +kernel)
theorem dX8_numberOf_13 : decode cX8_numberOf 13 = .ok (.iconst 0, 1) := zy_0 zK_3 (by decide +kernel)
theorem dX8_numberOf_14 : decode cX8_numberOf 14 = .ok (.iaload, 1) := zy_0 zK_46 (by decide +kernel)
theorem dX8_numberOf_15 : decode cX8_numberOf 15 = .ok (.imul, 1) := zy_0 zK_104 (by decide +kernel)
theorem dX8_numberOf_16 : decode cX8_numberOf 16 = .ok (.idiv, 1) := zy_0 zK_108 (by decide +kernel)
theorem dX8_numberOf_17 : decode cX8_numberOf 17 = .ok (.imul, 1) := zy_0 zK_104 (by decide +kernel)
theorem dX8_numberOf_18 : decode cX8_numberOf 18 = .ok (.bipush 10, 2) := zy_s1 (b1 := 10) zK_16 (by decide +kernel) (by decide +kernel)
theorem dX8_numberOf_20 : decode cX8_numberOf 20 = .ok (.iload_n 1, 1) := zy_0 zK_27 (by decide +kernel)
theorem dX8_numberOf_21 : decode cX8_numberOf 21 = .ok (.aload_n 0, 1) := zy_0 zK_42 (by decide +kernel)
theorem dX8_numberOf_22 : decode cX8_numberOf 22 = .ok (.getfield 20, 3) := zy_u2 (b1 := 0) (b2 := 20) zK_180 (by decide +kernel)
theorem dX8_numberOf_25 : decode cX8_numberOf 25 = .ok (.iconst 0, 1) := zy_0 zK_3 (by decide +kernel)
theorem dX8_numberOf_26 : decode cX8_numberOf 26 = .ok (.iaload, 1) := zy_0 zK_46 (by decide +kernel)
theorem dX8_numberOf_27 : decode cX8_numberOf 27 = .ok (.idiv, 1) := zy_0 zK_108 (by decide +kernel)
theorem dX8_numberOf_28 : decode cX8_numberOf 28 = .ok (.aload_n 0, 1) := zy_0 zK_42 (by decide +kernel)
theorem dX8_numberOf_29 : decode cX8_numberOf 29 = .ok (.getfield 20, 3) := zy_u2 (b1 := 0) (b2 := 20) zK_180 (by decide +kernel)
theorem dX8_numberOf_32 : decode cX8_numberOf 32 = .ok (.iconst 0, 1) := zy_0 zK_3 (by decide +kernel)
theorem dX8_numberOf_33 : decode cX8_numberOf 33 = .ok (.iaload, 1) := zy_0 zK_46 (by decide +kernel)
theorem dX8_numberOf_34 : decode cX8_numberOf 34 = .ok (.irem, 1) := zy_0 zK_112 (by decide +kernel)
theorem dX8_numberOf_35 : decode cX8_numberOf 35 = .ok (.imul, 1) := zy_0 zK_104 (by decide +kernel)
theorem dX8_numberOf_36 : decode cX8_numberOf 36 = .ok (.iadd, 1) := zy_0 zK_96 (by decide +kernel)
theorem dX8_numberOf_37 : decode cX8_numberOf 37 = .ok (.iload_n 1, 1) := zy_0 zK_27 (by decide +kernel)
theorem dX8_numberOf_38 : decode cX8_numberOf 38 = .ok (.aload_n 0, 1) := zy_0 zK_42 (by decide +kernel)
theorem dX8_numberOf_39 : decode cX8_numberOf 39 = .ok (.getfield 20, 3) := zy_u2 (b1 := 0) (b2 := 20) zK_180 (by decide +kernel)
theorem dX8_numberOf_42 : decode cX8_numberOf 42 = .ok (.iconst 0, 1) := zy_0 zK_3 (by decide +kernel)
theorem dX8_numberOf_43 : decode cX8_numberOf 43 = .ok (.iaload, 1) := zy_0 zK_46 (by decide +kernel)
theorem dX8_numberOf_44 : decode cX8_numberOf 44 = .ok (.irem, 1) := zy_0 zK_112 (by decide +kernel)
theorem dX8_numberOf_45 : decode cX8_numberOf 45 = .ok (.iadd, 1) := zy_0 zK_96 (by decide +kernel)
theorem dX8_numberOf_46 : decode cX8_numberOf 46 = .ok (.ireturn, 1) := zy_0 zK_172 (by decide +kernel)
theorem dX8_doesFit_0 : decode cX8_doesFit 0 = .ok (.iconst 0, 1) := zy_0 zK_3 (by decide +kernel)
theorem dX8_doesFit_1 : decode cX8_doesFit 1 = .ok (.istore_n 2, 1) := zy_0 zK_61 (by decide +kernel)
theorem dX8_doesFit_2 : decode cX8_doesFit 2 = .ok (.iload_n 2, 1) := zy_0 zK_28 (by decide +kernel)
theorem dX8_doesFit_3 : decode cX8_doesFit 3 = .ok (.aload_n 0, 1) := zy_0 zK_42 (by decide +kernel)
theorem dX8_doesFit_4 : decode cX8_doesFit 4 = .ok (.getfield 20, 3) := zy_u2 (b1 := 0) (b2 := 20) zK_180 (by decide +kernel)
theorem dX8_doesFit_7 : decode cX8_doesFit 7 = .ok (.bipush 6, 2) := zy_s1 (b1 := 6) zK_16 (by decide +kernel) (by decide +kernel)
theorem dX8_doesFit_9 : decode cX8_doesFit 9 = .ok (.iaload, 1) := zy_0 zK_46 (by decide +kernel)
theorem dX8_doesFit_10 : decode cX8_doesFit 10 = .ok (.if_icmp .ge 50, 3) := zy_s2 (b1 := 0) (b2 := 50) zK_162 (by decide +kernel) (by decide +kernel)
theorem dX8_doesFit_13 : decode cX8_doesFit 13 = .ok (.aload_n 0, 1) := zy_0 zK_42 (by decide +kernel)
theorem dX8_doesFit_14 : decode cX8_doesFit 14 = .ok (.iload_n 1, 1) := zy_0 zK_27 (by decide +kernel)
theorem dX8_doesFit_15 : decode cX8_doesFit 15 = .ok (.aload_n 0, 1) := zy_0 zK_42 (by decide +kernel)
theorem dX8_doesFit_16 : decode cX8_doesFit 16 = .ok (.getfield 20, 3) := zy_u2 (b1 := 0) (b2 := 20) zK_180 (by decide +kernel)
theorem dX8_doesFit_19 : decode cX8_doesFit 19 = .ok (.bipush 36, 2) := zy_s1 (b1 := 36) zK_16 (by decide +kernel) (by decide +kernel)
theorem dX8_doesFit_21 : decode cX8_doesFit 21 = .ok (.iconst 2, 1) := zy_0 zK_5 (by decide +kernel)
theorem dX8_doesFit_22 : decode cX8_doesFit 22 = .ok (.iload_n 2, 1) := zy_0 zK_28 (by decide +kernel)
theorem dX8_doesFit_23 : decode cX8_doesFit 23 = .ok (.imul, 1) := zy_0 zK_104 (by decide +kernel)
theorem dX8_doesFit_24 : decode cX8_doesFit 24 = .ok (.iadd, 1) := zy_0 zK_96 (by decide +kernel)
theorem dX8_doesFit_25 : decode cX8_doesFit 25 = .ok (.iconst 1, 1) := zy_0 zK_4 (by decide +kernel)
theorem dX8_doesFit_26 : decode cX8_doesFit 26 = .ok (.iadd, 1) := zy_0 zK_96 (by decide +kernel)
theorem dX8_doesFit_27 : decode cX8_doesFit 27 = .ok (.iaload, 1) := zy_0 zK_46 (by decide +kernel)
theorem dX8_doesFit_28 : decode cX8_doesFit 28 = .ok (.aload_n 0, 1) := zy_0 zK_42 (by decide +kernel)
theorem dX8_doesFit_29 : decode cX8_doesFit 29 = .ok (.getfield 20, 3) := zy_u2 (b1 := 0) (b2 := 20) zK_180 (by decide +kernel)
theorem dX8_doesFit_32 : decode cX8_doesFit 32 = .ok (.iconst 1, 1) := zy_0 zK_4 (by decide +kernel)
theorem dX8_doesFit_33 : decode cX8_doesFit 33 = .ok (.iaload, 1) := zy_0 zK_46 (by decide +kernel)
theorem dX8_doesFit_34 : decode cX8_doesFit 34 = .ok (.idiv, 1) := zy_0 zK_108 (by decide +kernel)
theorem dX8_doesFit_35 : decode cX8_doesFit 35 = .ok (.invokevirtual 331, 3) := zy_u2 (b1 := 1) (b2 := 75) zK_182 (by decide +kernel)
theorem dX8_doesFit_38 : decode cX8_doesFit 38 = .ok (.aload_n 0, 1) := zy_0 zK_42 (by decide +kernel)
theorem dX8_doesFit_39 : decode cX8_doesFit 39 = .ok (.getfield 20, 3) := zy_u2 (b1 := 0) (b2 := 20) zK_180 (by decide +kernel)
theorem dX8_doesFit_42 : decode cX8_doesFit 42 = .ok (.bipush 36, 2) := zy_s1 (b1 := 36) zK_16 (by decide +kernel) (by decide +kernel)
theorem dX8_doesFit_44 : decode cX8_doesFit 44 = .ok (.iconst 2, 1) := zy_0 zK_5 (by decide +kernel)
theorem dX8_doesFit_45 : decode cX8_doesFit 45 = .ok (.iload_n 2, 1) := zy_0 zK_28 (by decide +kernel)
theorem dX8_doesFit_46 : decode cX8_doesFit 46 = .ok (.imul, 1) := zy_0 zK_104 (by decide +kernel)
theorem dX8_doesFit_47 : decode cX8_doesFit 47 = .ok (.iadd, 1) := zy_0 zK_96 (by decide +kernel)
theorem dX8_doesFit_48 : decode cX8_doesFit 48 = .ok (.iaload, 1) := zy_0 zK_46 (by decide +kernel)
theorem dX8_doesFit_49 : decode cX8_doesFit 49 = .ok (.if_icmp .eq 5, 3) := zy_s2 (b1 := 0) (b2 := 5) zK_159 (by decide +kernel) (by decide +kernel)
theorem dX8_doesFit_52 : decode cX8_doesFit 52 = .ok (.iconst 0, 1) := zy_0 zK_3 (by decide +kernel)
theorem dX8_doesFit_53 : decode cX8_doesFit 53 = .ok (.ireturn, 1) := zy_0 zK_172 (by decide +kernel)
theorem dX8_doesFit_54 : decode cX8_doesFit 54 = .ok (.iinc 2 1, 3) := zy_ii (b1 := 2) (b2 := 1) zK_132 (by decide +kernel) (by decide +kernel)
theorem dX8_doesFit_57 : decode cX8_doesFit 57 = .ok (.goto (-55), 3) := zy_s2 (b1 := 255) (b2 := 201) zK_167 (by decide +kernel) (by decide +kernel)
theorem dX8_doesFit_60 : decode cX8_doesFit 60 = .ok (.iconst 1, 1) := zy_0 zK_4 (by decide +kernel)
theorem dX8_doesFit_61 : decode cX8_doesFit 61 = .ok (.ireturn, 1) := zy_0 zK_172 (by decide +kernel)
theorem dX8_fits_0 : decode cX8_fits 0 = .ok (.aload_n 0, 1) := zy_0 zK_42 (by decide +kernel)
theorem dX8_fits_1 : decode cX8_fits 1 = .ok (.invokevirtual 160, 3) := zy_u2 (b1 := 0) (b2 := 160) zK_182 (by decide +kernel)
theorem dX8_fits_4 : decode cX8_fits 4 = .ok (.aload_n 0, 1) := zy_0 zK_42 (by decide +kernel)
theorem dX8_fits_5 : decode cX8_fits 5 = .ok (.getfield 173, 3) := zy_u2 (b1 := 0) (b2 := 173) zK_180 (by decide +kernel)
theorem dX8_fits_8 : decode cX8_fits 8 = .ok (.ifCond .ne 9, 3) := zy_s2 (b1 := 0) (b2 := 9) zK_154 (by decide +kernel) (by decide +kernel)
theorem dX8_fits_11 : decode cX8_fits 11 = .ok (.aload_n 0, 1) := zy_0 zK_42 (by decide +kernel)
theorem dX8_fits_12 : decode cX8_fits 12 = .ok (.iconst 1, 1) := zy_0 zK_4 (by decide +kernel)
theorem dX8_fits_13 : decode cX8_fits 13 = .ok (.invokevirtual 163, 3) := zy_u2 (b1 := 0) (b2 := 163) zK_182 (by decide +kernel)
theorem dX8_fits_16 : decode cX8_fits 16 = .ok (.ireturn, 1) := zy_0 zK_172 (by decide +kernel)
theorem dX8_fits_17 : decode cX8_fits 17 = .ok (.iconst 0, 1) := zy_0 zK_3 (by decide +kernel)
theorem dX8_fits_18 : decode cX8_fits 18 = .ok (.istore_n 1, 1) := zy_0 zK_60 (by decide +kernel)
theorem dX8_fits_19 : decode cX8_fits 19 = .ok (.iconst 0, 1) := zy_0 zK_3 (by decide +kernel)
theorem dX8_fits_20 : decode cX8_fits 20 = .ok (.istore_n 2, 1) := zy_0 zK_61 (by decide +kernel)
theorem dX8_fits_21 : decode cX8_fits 21 = .ok (.iload_n 2, 1) := zy_0 zK_28 (by decide +kernel)
theorem dX8_fits_22 : decode cX8_fits 22 = .ok (.aload_n 0, 1) := zy_0 zK_42 (by decide +kernel)
theorem dX8_fits_23 : decode cX8_fits 23 = .ok (.invokevirtual 334, 3) := zy_u2 (b1 := 1) (b2 := 78) zK_182 (by decide +kernel)
theorem dX8_fits_26 : decode cX8_fits 26 = .ok (.if_icmp .ge 25, 3) := zy_s2 (b1 := 0) (b2 := 25) zK_162 (by decide +kernel) (by decide +kernel)
theorem dX8_fits_29 : decode cX8_fits 29 = .ok (.iload_n 1, 1) := zy_0 zK_27 (by decide +kernel)
theorem dX8_fits_30 : decode cX8_fits 30 = .ok (.aload_n 0, 1) := zy_0 zK_42 (by decide +kernel)
theorem dX8_fits_31 : decode cX8_fits 31 = .ok (.iload_n 2, 1) := zy_0 zK_28 (by decide +kernel)
theorem dX8_fits_32 : decode cX8_fits 32 = .ok (.invokevirtual 337, 3) := zy_u2 (b1 := 1) (b2 := 81) zK_182 (by decide +kernel)
theorem dX8_fits_35 : decode cX8_fits 35 = .ok (.ifCond .eq 7, 3) := zy_s2 (b1 := 0) (b2 := 7) zK_153 (by decide +kernel) (by decide +kernel)
theorem dX8_fits_38 : decode cX8_fits 38 = .ok (.iconst 1, 1) := zy_0 zK_4 (by decide +kernel)
theorem dX8_fits_39 : decode cX8_fits 39 = .ok (.goto 4, 3) := zy_s2 (b1 := 0) (b2 := 4) zK_167 (by decide +kernel) (by decide +kernel)
theorem dX8_fits_42 : decode cX8_fits 42 = .ok (.iconst 0, 1) := zy_0 zK_3 (by decide +kernel)
theorem dX8_fits_43 : decode cX8_fits 43 = .ok (.iadd, 1) := zy_0 zK_96 (by decide +kernel)
theorem dX8_fits_44 : decode cX8_fits 44 = .ok (.istore_n 1, 1) := zy_0 zK_60 (by decide +kernel)
theorem dX8_fits_45 : decode cX8_fits 45 = .ok (.iinc 2 1, 3) := zy_ii (b1 := 2) (b2 := 1) zK_132 (by decide +kernel) (by decide +kernel)
theorem dX8_fits_48 : decode cX8_fits 48 = .ok (.goto (-27), 3) := zy_s2 (b1 := 255) (b2 := 229) zK_167 (by decide +kernel) (by decide +kernel)
theorem dX8_fits_51 : decode cX8_fits 51 = .ok (.iload_n 1, 1) := zy_0 zK_27 (by decide +kernel)
theorem dX8_fits_52 : decode cX8_fits 52 = .ok (.ireturn, 1) := zy_0 zK_172 (by decide +kernel)
theorem dX8_fitAt_0 : decode cX8_fitAt 0 = .ok (.aload_n 0, 1) := zy_0 zK_42 (by decide +kernel)
theorem dX8_fitAt_1 : decode cX8_fitAt 1 = .ok (.invokevirtual 160, 3) := zy_u2 (b1 := 0) (b2 := 160) zK_182 (by decide +kernel)
theorem dX8_fitAt_4 : decode cX8_fitAt 4 = .ok (.aload_n 0, 1) := zy_0 zK_42 (by decide +kernel)
theorem dX8_fitAt_5 : decode cX8_fitAt 5 = .ok (.getfield 173, 3) := zy_u2 (b1 := 0) (b2 := 173) zK_180 (by decide +kernel)
theorem dX8_fitAt_8 : decode cX8_fitAt 8 = .ok (.ifCond .ne 9, 3) := zy_s2 (b1 := 0) (b2 := 9) zK_154 (by decide +kernel) (by decide +kernel)
theorem dX8_fitAt_11 : decode cX8_fitAt 11 = .ok (.aload_n 0, 1) := zy_0 zK_42 (by decide +kernel)
theorem dX8_fitAt_12 : decode cX8_fitAt 12 = .ok (.iconst 1, 1) := zy_0 zK_4 (by decide +kernel)
theorem dX8_fitAt_13 : decode cX8_fitAt 13 = .ok (.invokevirtual 163, 3) := zy_u2 (b1 := 0) (b2 := 163) zK_182 (by decide +kernel)
theorem dX8_fitAt_16 : decode cX8_fitAt 16 = .ok (.ireturn, 1) := zy_0 zK_172 (by decide +kernel)
theorem dX8_fitAt_17 : decode cX8_fitAt 17 = .ok (.iconst 0, 1) := zy_0 zK_3 (by decide +kernel)
theorem dX8_fitAt_18 : decode cX8_fitAt 18 = .ok (.istore_n 2, 1) := zy_0 zK_61 (by decide +kernel)
theorem dX8_fitAt_19 : decode cX8_fitAt 19 = .ok (.iconst 0, 1) := zy_0 zK_3 (by decide +kernel)
theorem dX8_fitAt_20 : decode cX8_fitAt 20 = .ok (.istore_n 3, 1) := zy_0 zK_62 (by decide +kernel)
theorem dX8_fitAt_21 : decode cX8_fitAt 21 = .ok (.iload_n 3, 1) := zy_0 zK_29 (by decide +kernel)
theorem dX8_fitAt_22 : decode cX8_fitAt 22 = .ok (.aload_n 0, 1) := zy_0 zK_42 (by decide +kernel)
theorem dX8_fitAt_23 : decode cX8_fitAt 23 = .ok (.invokevirtual 334, 3) := zy_u2 (b1 := 1) (b2 := 78) zK_182 (by decide +kernel)
theorem dX8_fitAt_26 : decode cX8_fitAt 26 = .ok (.if_icmp .ge 34, 3) := zy_s2 (b1 := 0) (b2 := 34) zK_162 (by decide +kernel) (by decide +kernel)
theorem dX8_fitAt_29 : decode cX8_fitAt 29 = .ok (.aload_n 0, 1) := zy_0 zK_42 (by decide +kernel)
theorem dX8_fitAt_30 : decode cX8_fitAt 30 = .ok (.iload_n 3, 1) := zy_0 zK_29 (by decide +kernel)
theorem dX8_fitAt_31 : decode cX8_fitAt 31 = .ok (.invokevirtual 337, 3) := zy_u2 (b1 := 1) (b2 := 81) zK_182 (by decide +kernel)
theorem dX8_fitAt_34 : decode cX8_fitAt 34 = .ok (.ifCond .ne 6, 3) := zy_s2 (b1 := 0) (b2 := 6) zK_154 (by decide +kernel) (by decide +kernel)
theorem dX8_fitAt_37 : decode cX8_fitAt 37 = .ok (.goto 17, 3) := zy_s2 (b1 := 0) (b2 := 17) zK_167 (by decide +kernel) (by decide +kernel)
theorem dX8_fitAt_40 : decode cX8_fitAt 40 = .ok (.iload_n 2, 1) := zy_0 zK_28 (by decide +kernel)
theorem dX8_fitAt_41 : decode cX8_fitAt 41 = .ok (.iload_n 1, 1) := zy_0 zK_27 (by decide +kernel)
theorem dX8_fitAt_42 : decode cX8_fitAt 42 = .ok (.if_icmp .ne 9, 3) := zy_s2 (b1 := 0) (b2 := 9) zK_160 (by decide +kernel) (by decide +kernel)
theorem dX8_fitAt_45 : decode cX8_fitAt 45 = .ok (.aload_n 0, 1) := zy_0 zK_42 (by decide +kernel)
theorem dX8_fitAt_46 : decode cX8_fitAt 46 = .ok (.iload_n 3, 1) := zy_0 zK_29 (by decide +kernel)
theorem dX8_fitAt_47 : decode cX8_fitAt 47 = .ok (.invokevirtual 340, 3) := zy_u2 (b1 := 1) (b2 := 84) zK_182 (by decide +kernel)
theorem dX8_fitAt_50 : decode cX8_fitAt 50 = .ok (.ireturn, 1) := zy_0 zK_172 (by decide +kernel)
theorem dX8_fitAt_51 : decode cX8_fitAt 51 = .ok (.iinc 2 1, 3) := zy_ii (b1 := 2) (b2 := 1) zK_132 (by decide +kernel) (by decide +kernel)
theorem dX8_fitAt_54 : decode cX8_fitAt 54 = .ok (.iinc 3 1, 3) := zy_ii (b1 := 3) (b2 := 1) zK_132 (by decide +kernel) (by decide +kernel)
theorem dX8_fitAt_57 : decode cX8_fitAt 57 = .ok (.goto (-36), 3) := zy_s2 (b1 := 255) (b2 := 220) zK_167 (by decide +kernel) (by decide +kernel)
theorem dX8_fitAt_60 : decode cX8_fitAt 60 = .ok (.aload_n 0, 1) := zy_0 zK_42 (by decide +kernel)
theorem dX8_fitAt_61 : decode cX8_fitAt 61 = .ok (.iconst 1, 1) := zy_0 zK_4 (by decide +kernel)
theorem dX8_fitAt_62 : decode cX8_fitAt 62 = .ok (.invokevirtual 163, 3) := zy_u2 (b1 := 0) (b2 := 163) zK_182 (by decide +kernel)
theorem dX8_fitAt_65 : decode cX8_fitAt 65 = .ok (.ireturn, 1) := zy_0 zK_172 (by decide +kernel)
theorem dX8_layOften_0 : decode cX8_layOften 0 = .ok (.iconst 0, 1) := zy_0 zK_3 (by decide +kernel)
theorem dX8_layOften_1 : decode cX8_layOften 1 = .ok (.istore_n 2, 1) := zy_0 zK_61 (by decide +kernel)
theorem dX8_layOften_2 : decode cX8_layOften 2 = .ok (.iload_n 2, 1) := zy_0 zK_28 (by decide +kernel)
theorem dX8_layOften_3 : decode cX8_layOften 3 = .ok (.bipush 9, 2) := zy_s1 (b1 := 9) zK_16 (by decide +kernel) (by decide +kernel)
theorem dX8_layOften_5 : decode cX8_layOften 5 = .ok (.if_icmp .ge 16, 3) := zy_s2 (b1 := 0) (b2 := 16) zK_162 (by decide +kernel) (by decide +kernel)
theorem dX8_layOften_8 : decode cX8_layOften 8 = .ok (.aload_n 0, 1) := zy_0 zK_42 (by decide +kernel)
theorem dX8_layOften_9 : decode cX8_layOften 9 = .ok (.getfield 56, 3) := zy_u2 (b1 := 0) (b2 := 56) zK_180 (by decide +kernel)
theorem dX8_layOften_12 : decode cX8_layOften 12 = .ok (.iload_n 2, 1) := zy_0 zK_28 (by decide +kernel)
theorem dX8_layOften_13 : decode cX8_layOften 13 = .ok (.iconst 0, 1) := zy_0 zK_3 (by decide +kernel)
theorem dX8_layOften_14 : decode cX8_layOften 14 = .ok (.iastore, 1) := zy_0 zK_79 (by decide +kernel)
theorem dX8_layOften_15 : decode cX8_layOften 15 = .ok (.iinc 2 1, 3) := zy_ii (b1 := 2) (b2 := 1) zK_132 (by decide +kernel) (by decide +kernel)
theorem dX8_layOften_18 : decode cX8_layOften 18 = .ok (.goto (-16), 3) := zy_s2 (b1 := 255) (b2 := 240) zK_167 (by decide +kernel) (by decide +kernel)
theorem dX8_layOften_21 : decode cX8_layOften 21 = .ok (.iconst 0, 1) := zy_0 zK_3 (by decide +kernel)
theorem dX8_layOften_22 : decode cX8_layOften 22 = .ok (.istore_n 2, 1) := zy_0 zK_61 (by decide +kernel)
theorem dX8_layOften_23 : decode cX8_layOften 23 = .ok (.iload_n 2, 1) := zy_0 zK_28 (by decide +kernel)
theorem dX8_layOften_24 : decode cX8_layOften 24 = .ok (.aload_n 0, 1) := zy_0 zK_42 (by decide +kernel)
theorem dX8_layOften_25 : decode cX8_layOften 25 = .ok (.invokevirtual 334, 3) := zy_u2 (b1 := 1) (b2 := 78) zK_182 (by decide +kernel)
theorem dX8_layOften_28 : decode cX8_layOften 28 = .ok (.if_icmp .ge 32, 3) := zy_s2 (b1 := 0) (b2 := 32) zK_162 (by decide +kernel) (by decide +kernel)
theorem dX8_layOften_31 : decode cX8_layOften 31 = .ok (.aload_n 0, 1) := zy_0 zK_42 (by decide +kernel)
theorem dX8_layOften_32 : decode cX8_layOften 32 = .ok (.iload_n 2, 1) := zy_0 zK_28 (by decide +kernel)
theorem dX8_layOften_33 : decode cX8_layOften 33 = .ok (.invokevirtual 337, 3) := zy_u2 (b1 := 1) (b2 := 81) zK_182 (by decide +kernel)
theorem dX8_layOften_36 : decode cX8_layOften 36 = .ok (.ifCond .eq 18, 3) := zy_s2 (b1 := 0) (b2 := 18) zK_153 (by decide +kernel) (by decide +kernel)
theorem dX8_layOften_39 : decode cX8_layOften 39 = .ok (.aload_n 0, 1) := zy_0 zK_42 (by decide +kernel)
theorem dX8_layOften_40 : decode cX8_layOften 40 = .ok (.getfield 56, 3) := zy_u2 (b1 := 0) (b2 := 56) zK_180 (by decide +kernel)
theorem dX8_layOften_43 : decode cX8_layOften 43 = .ok (.aload_n 0, 1) := zy_0 zK_42 (by decide +kernel)
theorem dX8_layOften_44 : decode cX8_layOften 44 = .ok (.iload_n 2, 1) := zy_0 zK_28 (by decide +kernel)
theorem dX8_layOften_45 : decode cX8_layOften 45 = .ok (.iload_n 1, 1) := zy_0 zK_27 (by decide +kernel)
theorem dX8_layOften_46 : decode cX8_layOften 46 = .ok (.invokevirtual 331, 3) := zy_u2 (b1 := 1) (b2 := 75) zK_182 (by decide +kernel)
theorem dX8_layOften_49 : decode cX8_layOften 49 = .ok (.dup2, 1) := zy_0 zK_92 (by decide +kernel)
theorem dX8_layOften_50 : decode cX8_layOften 50 = .ok (.iaload, 1) := zy_0 zK_46 (by decide +kernel)
theorem dX8_layOften_51 : decode cX8_layOften 51 = .ok (.iconst 1, 1) := zy_0 zK_4 (by decide +kernel)
theorem dX8_layOften_52 : decode cX8_layOften 52 = .ok (.iadd, 1) := zy_0 zK_96 (by decide +kernel)
theorem dX8_layOften_53 : decode cX8_layOften 53 = .ok (.iastore, 1) := zy_0 zK_79 (by decide +kernel)
theorem dX8_layOften_54 : decode cX8_layOften 54 = .ok (.iinc 2 1, 3) := zy_ii (b1 := 2) (b2 := 1) zK_132 (by decide +kernel) (by decide +kernel)
theorem dX8_layOften_57 : decode cX8_layOften 57 = .ok (.goto (-34), 3) := zy_s2 (b1 := 255) (b2 := 222) zK_167 (by decide +kernel) (by decide +kernel)
theorem dX8_layOften_60 : decode cX8_layOften 60 = .ok (.return_, 1) := zy_0 zK_177 (by decide +kernel)
theorem dX8_could_0 : decode cX8_could 0 = .ok (.aload_n 0, 1) := zy_0 zK_42 (by decide +kernel)
theorem dX8_could_1 : decode cX8_could 1 = .ok (.invokevirtual 160, 3) := zy_u2 (b1 := 0) (b2 := 160) zK_182 (by decide +kernel)
theorem dX8_could_4 : decode cX8_could 4 = .ok (.aload_n 0, 1) := zy_0 zK_42 (by decide +kernel)
theorem dX8_could_5 : decode cX8_could 5 = .ok (.aload_n 0, 1) := zy_0 zK_42 (by decide +kernel)
theorem dX8_could_6 : decode cX8_could 6 = .ok (.getfield 173, 3) := zy_u2 (b1 := 0) (b2 := 173) zK_180 (by decide +kernel)
theorem dX8_could_9 : decode cX8_could 9 = .ok (.iload_n 1, 1) := zy_0 zK_27 (by decide +kernel)
theorem dX8_could_10 : decode cX8_could 10 = .ok (.iconst 0, 1) := zy_0 zK_3 (by decide +kernel)
theorem dX8_could_11 : decode cX8_could 11 = .ok (.sipush 999, 3) := zy_s2 (b1 := 3) (b2 := 231) zK_17 (by decide +kernel) (by decide +kernel)
theorem dX8_could_14 : decode cX8_could 14 = .ok (.invokestatic 142, 3) := zy_u2 (b1 := 0) (b2 := 142) zK_184 (by decide +kernel)
theorem dX8_could_17 : decode cX8_could 17 = .ok (.invokevirtual 290, 3) := zy_u2 (b1 := 1) (b2 := 34) zK_182 (by decide +kernel)
theorem dX8_could_20 : decode cX8_could 20 = .ok (.istore_n 2, 1) := zy_0 zK_61 (by decide +kernel)
theorem dX8_could_21 : decode cX8_could 21 = .ok (.iload_n 2, 1) := zy_0 zK_28 (by decide +kernel)
theorem dX8_could_22 : decode cX8_could 22 = .ok (.ifCond .eq 9, 3) := zy_s2 (b1 := 0) (b2 := 9) zK_153 (by decide +kernel) (by decide +kernel)
theorem dX8_could_25 : decode cX8_could 25 = .ok (.aload_n 0, 1) := zy_0 zK_42 (by decide +kernel)
theorem dX8_could_26 : decode cX8_could 26 = .ok (.iload_n 2, 1) := zy_0 zK_28 (by decide +kernel)
theorem dX8_could_27 : decode cX8_could 27 = .ok (.invokevirtual 163, 3) := zy_u2 (b1 := 0) (b2 := 163) zK_182 (by decide +kernel)
theorem dX8_could_30 : decode cX8_could 30 = .ok (.ireturn, 1) := zy_0 zK_172 (by decide +kernel)
theorem dX8_could_31 : decode cX8_could 31 = .ok (.aload_n 0, 1) := zy_0 zK_42 (by decide +kernel)
theorem dX8_could_32 : decode cX8_could 32 = .ok (.iload_n 1, 1) := zy_0 zK_27 (by decide +kernel)
theorem dX8_could_33 : decode cX8_could 33 = .ok (.aload_n 0, 1) := zy_0 zK_42 (by decide +kernel)
theorem dX8_could_34 : decode cX8_could 34 = .ok (.getfield 20, 3) := zy_u2 (b1 := 0) (b2 := 20) zK_180 (by decide +kernel)
theorem dX8_could_37 : decode cX8_could 37 = .ok (.iconst 1, 1) := zy_0 zK_4 (by decide +kernel)
theorem dX8_could_38 : decode cX8_could 38 = .ok (.iaload, 1) := zy_0 zK_46 (by decide +kernel)
theorem dX8_could_39 : decode cX8_could 39 = .ok (.idiv, 1) := zy_0 zK_108 (by decide +kernel)
theorem dX8_could_40 : decode cX8_could 40 = .ok (.invokevirtual 343, 3) := zy_u2 (b1 := 1) (b2 := 87) zK_182 (by decide +kernel)
theorem dX8_could_43 : decode cX8_could 43 = .ok (.iconst 0, 1) := zy_0 zK_3 (by decide +kernel)
theorem dX8_could_44 : decode cX8_could 44 = .ok (.istore_n 3, 1) := zy_0 zK_62 (by decide +kernel)
theorem dX8_could_45 : decode cX8_could 45 = .ok (.iconst 0, 1) := zy_0 zK_3 (by decide +kernel)
theorem dX8_could_46 : decode cX8_could 46 = .ok (.istore 4, 2) := zy_u1 (b1 := 4) zK_54 (by decide +kernel)
theorem dX8_could_48 : decode cX8_could 48 = .ok (.iload 4, 2) := zy_u1 (b1 := 4) zK_21 (by decide +kernel)
theorem dX8_could_50 : decode cX8_could 50 = .ok (.aload_n 0, 1) := zy_0 zK_42 (by decide +kernel)
theorem dX8_could_51 : decode cX8_could 51 = .ok (.getfield 20, 3) := zy_u2 (b1 := 0) (b2 := 20) zK_180 (by decide +kernel)
theorem dX8_could_54 : decode cX8_could 54 = .ok (.iconst 0, 1) := zy_0 zK_3 (by decide +kernel)
theorem dX8_could_55 : decode cX8_could 55 = .ok (.iaload, 1) := zy_0 zK_46 (by decide +kernel)
theorem dX8_could_56 : decode cX8_could 56 = .ok (.if_icmp .ge 30, 3) := zy_s2 (b1 := 0) (b2 := 30) zK_162 (by decide +kernel) (by decide +kernel)
theorem dX8_could_59 : decode cX8_could 59 = .ok (.iload_n 3, 1) := zy_0 zK_29 (by decide +kernel)
theorem dX8_could_60 : decode cX8_could 60 = .ok (.aload_n 0, 1) := zy_0 zK_42 (by decide +kernel)
theorem dX8_could_61 : decode cX8_could 61 = .ok (.getfield 56, 3) := zy_u2 (b1 := 0) (b2 := 56) zK_180 (by decide +kernel)
theorem dX8_could_64 : decode cX8_could 64 = .ok (.iload 4, 2) := zy_u1 (b1 := 4) zK_21 (by decide +kernel)
theorem dX8_could_66 : decode cX8_could 66 = .ok (.iaload, 1) := zy_0 zK_46 (by decide +kernel)
theorem dX8_could_67 : decode cX8_could 67 = .ok (.ifCond .le 10, 3) := zy_s2 (b1 := 0) (b2 := 10) zK_158 (by decide +kernel) (by decide +kernel)
theorem dX8_could_70 : decode cX8_could 70 = .ok (.iconst 1, 1) := zy_0 zK_4 (by decide +kernel)
theorem dX8_could_71 : decode cX8_could 71 = .ok (.iload 4, 2) := zy_u1 (b1 := 4) zK_21 (by decide +kernel)
theorem dX8_could_73 : decode cX8_could 73 = .ok (.ishl, 1) := zy_0 zK_120 (by decide +kernel)
theorem dX8_could_74 : decode cX8_could 74 = .ok (.goto 4, 3) := zy_s2 (b1 := 0) (b2 := 4) zK_167 (by decide +kernel) (by decide +kernel)
theorem dX8_could_77 : decode cX8_could 77 = .ok (.iconst 0, 1) := zy_0 zK_3 (by decide +kernel)
theorem dX8_could_78 : decode cX8_could 78 = .ok (.ior, 1) := zy_0 zK_128 (by decide +kernel)
theorem dX8_could_79 : decode cX8_could 79 = .ok (.istore_n 3, 1) := zy_0 zK_62 (by decide +kernel)
theorem dX8_could_80 : decode cX8_could 80 = .ok (.iinc 4 1, 3) := zy_ii (b1 := 4) (b2 := 1) zK_132 (by decide +kernel) (by decide +kernel)
theorem dX8_could_83 : decode cX8_could 83 = .ok (.goto (-35), 3) := zy_s2 (b1 := 255) (b2 := 221) zK_167 (by decide +kernel) (by decide +kernel)
theorem dX8_could_86 : decode cX8_could 86 = .ok (.iload_n 3, 1) := zy_0 zK_29 (by decide +kernel)
theorem dX8_could_87 : decode cX8_could 87 = .ok (.ireturn, 1) := zy_0 zK_172 (by decide +kernel)
theorem dX8_aliveBy_0 : decode cX8_aliveBy 0 = .ok (.aload_n 0, 1) := zy_0 zK_42 (by decide +kernel)
theorem dX8_aliveBy_1 : decode cX8_aliveBy 1 = .ok (.invokevirtual 160, 3) := zy_u2 (b1 := 0) (b2 := 160) zK_182 (by decide +kernel)
theorem dX8_aliveBy_4 : decode cX8_aliveBy 4 = .ok (.aload_n 0, 1) := zy_0 zK_42 (by decide +kernel)
theorem dX8_aliveBy_5 : decode cX8_aliveBy 5 = .ok (.aload_n 0, 1) := zy_0 zK_42 (by decide +kernel)
theorem dX8_aliveBy_6 : decode cX8_aliveBy 6 = .ok (.iload_n 1, 1) := zy_0 zK_27 (by decide +kernel)
theorem dX8_aliveBy_7 : decode cX8_aliveBy 7 = .ok (.invokevirtual 277, 3) := zy_u2 (b1 := 1) (b2 := 21) zK_182 (by decide +kernel)
theorem dX8_aliveBy_10 : decode cX8_aliveBy 10 = .ok (.iload_n 2, 1) := zy_0 zK_28 (by decide +kernel)
theorem dX8_aliveBy_11 : decode cX8_aliveBy 11 = .ok (.iconst 0, 1) := zy_0 zK_3 (by decide +kernel)
theorem dX8_aliveBy_12 : decode cX8_aliveBy 12 = .ok (.sipush 999, 3) := zy_s2 (b1 := 3) (b2 := 231) zK_17 (by decide +kernel) (by decide +kernel)
theorem dX8_aliveBy_15 : decode cX8_aliveBy 15 = .ok (.invokestatic 142, 3) := zy_u2 (b1 := 0) (b2 := 142) zK_184 (by decide +kernel)
theorem dX8_aliveBy_18 : decode cX8_aliveBy 18 = .ok (.invokevirtual 290, 3) := zy_u2 (b1 := 1) (b2 := 34) zK_182 (by decide +kernel)
theorem dX8_aliveBy_21 : decode cX8_aliveBy 21 = .ok (.istore_n 3, 1) := zy_0 zK_62 (by decide +kernel)
theorem dX8_aliveBy_22 : decode cX8_aliveBy 22 = .ok (.iload_n 3, 1) := zy_0 zK_29 (by decide +kernel)
theorem dX8_aliveBy_23 : decode cX8_aliveBy 23 = .ok (.ifCond .eq 9, 3) := zy_s2 (b1 := 0) (b2 := 9) zK_153 (by decide +kernel) (by decide +kernel)
theorem dX8_aliveBy_26 : decode cX8_aliveBy 26 = .ok (.aload_n 0, 1) := zy_0 zK_42 (by decide +kernel)
theorem dX8_aliveBy_27 : decode cX8_aliveBy 27 = .ok (.iload_n 3, 1) := zy_0 zK_29 (by decide +kernel)
theorem dX8_aliveBy_28 : decode cX8_aliveBy 28 = .ok (.invokevirtual 163, 3) := zy_u2 (b1 := 0) (b2 := 163) zK_182 (by decide +kernel)
theorem dX8_aliveBy_31 : decode cX8_aliveBy 31 = .ok (.ireturn, 1) := zy_0 zK_172 (by decide +kernel)
theorem dX8_aliveBy_32 : decode cX8_aliveBy 32 = .ok (.aload_n 0, 1) := zy_0 zK_42 (by decide +kernel)
theorem dX8_aliveBy_33 : decode cX8_aliveBy 33 = .ok (.iload_n 2, 1) := zy_0 zK_28 (by decide +kernel)
theorem dX8_aliveBy_34 : decode cX8_aliveBy 34 = .ok (.aload_n 0, 1) := zy_0 zK_42 (by decide +kernel)
theorem dX8_aliveBy_35 : decode cX8_aliveBy 35 = .ok (.getfield 20, 3) := zy_u2 (b1 := 0) (b2 := 20) zK_180 (by decide +kernel)
theorem dX8_aliveBy_38 : decode cX8_aliveBy 38 = .ok (.iconst 1, 1) := zy_0 zK_4 (by decide +kernel)
theorem dX8_aliveBy_39 : decode cX8_aliveBy 39 = .ok (.iaload, 1) := zy_0 zK_46 (by decide +kernel)
theorem dX8_aliveBy_40 : decode cX8_aliveBy 40 = .ok (.idiv, 1) := zy_0 zK_108 (by decide +kernel)
theorem dX8_aliveBy_41 : decode cX8_aliveBy 41 = .ok (.invokevirtual 343, 3) := zy_u2 (b1 := 1) (b2 := 87) zK_182 (by decide +kernel)
theorem dX8_aliveBy_44 : decode cX8_aliveBy 44 = .ok (.aload_n 0, 1) := zy_0 zK_42 (by decide +kernel)
theorem dX8_aliveBy_45 : decode cX8_aliveBy 45 = .ok (.getfield 56, 3) := zy_u2 (b1 := 0) (b2 := 56) zK_180 (by decide +kernel)
theorem dX8_aliveBy_48 : decode cX8_aliveBy 48 = .ok (.iload_n 1, 1) := zy_0 zK_27 (by decide +kernel)
theorem dX8_aliveBy_49 : decode cX8_aliveBy 49 = .ok (.iaload, 1) := zy_0 zK_46 (by decide +kernel)
theorem dX8_aliveBy_50 : decode cX8_aliveBy 50 = .ok (.ireturn, 1) := zy_0 zK_172 (by decide +kernel)
theorem dX8_lookOf_0 : decode cX8_lookOf 0 = .ok (.bipush (-2), 2) := zy_s1 (b1 := 254) zK_16 (by decide +kernel) (by decide +kernel)
theorem dX8_lookOf_2 : decode cX8_lookOf 2 = .ok (.istore_n 1, 1) := zy_0 zK_60 (by decide +kernel)
theorem dX8_lookOf_3 : decode cX8_lookOf 3 = .ok (.aload_n 0, 1) := zy_0 zK_42 (by decide +kernel)
theorem dX8_lookOf_4 : decode cX8_lookOf 4 = .ok (.bipush (-2), 2) := zy_s1 (b1 := 254) zK_16 (by decide +kernel) (by decide +kernel)
theorem dX8_lookOf_6 : decode cX8_lookOf 6 = .ok (.putfield 346, 3) := zy_u2 (b1 := 1) (b2 := 90) zK_181 (by decide +kernel)
theorem dX8_lookOf_9 : decode cX8_lookOf 9 = .ok (.iconst 0, 1) := zy_0 zK_3 (by decide +kernel)
theorem dX8_lookOf_10 : decode cX8_lookOf 10 = .ok (.istore_n 2, 1) := zy_0 zK_61 (by decide +kernel)
theorem dX8_lookOf_11 : decode cX8_lookOf 11 = .ok (.iload_n 2, 1) := zy_0 zK_28 (by decide +kernel)
theorem dX8_lookOf_12 : decode cX8_lookOf 12 = .ok (.bipush 100, 2) := zy_s1 (b1 := 100) zK_16 (by decide +kernel) (by decide +kernel)
theorem dX8_lookOf_14 : decode cX8_lookOf 14 = .ok (.if_icmp .ge 98, 3) := zy_s2 (b1 := 0) (b2 := 98) zK_162 (by decide +kernel) (by decide +kernel)
theorem dX8_lookOf_17 : decode cX8_lookOf 17 = .ok (.aload_n 0, 1) := zy_0 zK_42 (by decide +kernel)
theorem dX8_lookOf_18 : decode cX8_lookOf 18 = .ok (.iload_n 2, 1) := zy_0 zK_28 (by decide +kernel)
theorem dX8_lookOf_19 : decode cX8_lookOf 19 = .ok (.aload_n 0, 1) := zy_0 zK_42 (by decide +kernel)
theorem dX8_lookOf_20 : decode cX8_lookOf 20 = .ok (.getfield 20, 3) := zy_u2 (b1 := 0) (b2 := 20) zK_180 (by decide +kernel)
theorem dX8_lookOf_23 : decode cX8_lookOf 23 = .ok (.iconst 1, 1) := zy_0 zK_4 (by decide +kernel)
theorem dX8_lookOf_24 : decode cX8_lookOf 24 = .ok (.iaload, 1) := zy_0 zK_46 (by decide +kernel)
theorem dX8_lookOf_25 : decode cX8_lookOf 25 = .ok (.idiv, 1) := zy_0 zK_108 (by decide +kernel)
theorem dX8_lookOf_26 : decode cX8_lookOf 26 = .ok (.invokevirtual 343, 3) := zy_u2 (b1 := 1) (b2 := 87) zK_182 (by decide +kernel)
theorem dX8_lookOf_29 : decode cX8_lookOf 29 = .ok (.iconst 0, 1) := zy_0 zK_3 (by decide +kernel)
theorem dX8_lookOf_30 : decode cX8_lookOf 30 = .ok (.istore_n 3, 1) := zy_0 zK_62 (by decide +kernel)
theorem dX8_lookOf_31 : decode cX8_lookOf 31 = .ok (.iconst 0, 1) := zy_0 zK_3 (by decide +kernel)
theorem dX8_lookOf_32 : decode cX8_lookOf 32 = .ok (.istore 4, 2) := zy_u1 (b1 := 4) zK_54 (by decide +kernel)
theorem dX8_lookOf_34 : decode cX8_lookOf 34 = .ok (.iload 4, 2) := zy_u1 (b1 := 4) zK_21 (by decide +kernel)
theorem dX8_lookOf_36 : decode cX8_lookOf 36 = .ok (.aload_n 0, 1) := zy_0 zK_42 (by decide +kernel)
theorem dX8_lookOf_37 : decode cX8_lookOf 37 = .ok (.getfield 20, 3) := zy_u2 (b1 := 0) (b2 := 20) zK_180 (by decide +kernel)
theorem dX8_lookOf_40 : decode cX8_lookOf 40 = .ok (.iconst 0, 1) := zy_0 zK_3 (by decide +kernel)
theorem dX8_lookOf_41 : decode cX8_lookOf 41 = .ok (.iaload, 1) := zy_0 zK_46 (by decide +kernel)
theorem dX8_lookOf_42 : decode cX8_lookOf 42 = .ok (.if_icmp .ge 32, 3) := zy_s2 (b1 := 0) (b2 := 32) zK_162 (by decide +kernel) (by decide +kernel)
theorem dX8_lookOf_45 : decode cX8_lookOf 45 = .ok (.aload_n 0, 1) := zy_0 zK_42 (by decide +kernel)
theorem dX8_lookOf_46 : decode cX8_lookOf 46 = .ok (.getfield 56, 3) := zy_u2 (b1 := 0) (b2 := 56) zK_180 (by decide +kernel)
theorem dX8_lookOf_49 : decode cX8_lookOf 49 = .ok (.iload 4, 2) := zy_u1 (b1 := 4) zK_21 (by decide +kernel)
theorem dX8_lookOf_51 : decode cX8_lookOf 51 = .ok (.iaload, 1) := zy_0 zK_46 (by decide +kernel)
theorem dX8_lookOf_52 : decode cX8_lookOf 52 = .ok (.iload_n 3, 1) := zy_0 zK_29 (by decide +kernel)
theorem dX8_lookOf_53 : decode cX8_lookOf 53 = .ok (.if_icmp .le 13, 3) := zy_s2 (b1 := 0) (b2 := 13) zK_164 (by decide +kernel) (by decide +kernel)
theorem dX8_lookOf_56 : decode cX8_lookOf 56 = .ok (.aload_n 0, 1) := zy_0 zK_42 (by decide +kernel)
theorem dX8_lookOf_57 : decode cX8_lookOf 57 = .ok (.getfield 56, 3) := zy_u2 (b1 := 0) (b2 := 56) zK_180 (by decide +kernel)
theorem dX8_lookOf_60 : decode cX8_lookOf 60 = .ok (.iload 4, 2) := zy_u1 (b1 := 4) zK_21 (by decide +kernel)
theorem dX8_lookOf_62 : decode cX8_lookOf 62 = .ok (.iaload, 1) := zy_0 zK_46 (by decide +kernel)
theorem dX8_lookOf_63 : decode cX8_lookOf 63 = .ok (.goto 4, 3) := zy_s2 (b1 := 0) (b2 := 4) zK_167 (by decide +kernel) (by decide +kernel)
theorem dX8_lookOf_66 : decode cX8_lookOf 66 = .ok (.iload_n 3, 1) := zy_0 zK_29 (by decide +kernel)
theorem dX8_lookOf_67 : decode cX8_lookOf 67 = .ok (.istore_n 3, 1) := zy_0 zK_62 (by decide +kernel)
theorem dX8_lookOf_68 : decode cX8_lookOf 68 = .ok (.iinc 4 1, 3) := zy_ii (b1 := 4) (b2 := 1) zK_132 (by decide +kernel) (by decide +kernel)
theorem dX8_lookOf_71 : decode cX8_lookOf 71 = .ok (.goto (-37), 3) := zy_s2 (b1 := 255) (b2 := 219) zK_167 (by decide +kernel) (by decide +kernel)
theorem dX8_lookOf_74 : decode cX8_lookOf 74 = .ok (.iload_n 3, 1) := zy_0 zK_29 (by decide +kernel)
theorem dX8_lookOf_75 : decode cX8_lookOf 75 = .ok (.ifCond .eq 25, 3) := zy_s2 (b1 := 0) (b2 := 25) zK_153 (by decide +kernel) (by decide +kernel)
theorem dX8_lookOf_78 : decode cX8_lookOf 78 = .ok (.iload_n 1, 1) := zy_0 zK_27 (by decide +kernel)
theorem dX8_lookOf_79 : decode cX8_lookOf 79 = .ok (.ifCond .lt 14, 3) := zy_s2 (b1 := 0) (b2 := 14) zK_155 (by decide +kernel) (by decide +kernel)
theorem dX8_lookOf_82 : decode cX8_lookOf 82 = .ok (.iload_n 3, 1) := zy_0 zK_29 (by decide +kernel)
theorem dX8_lookOf_83 : decode cX8_lookOf 83 = .ok (.aload_n 0, 1) := zy_0 zK_42 (by decide +kernel)
theorem dX8_lookOf_84 : decode cX8_lookOf 84 = .ok (.getfield 346, 3) := zy_u2 (b1 := 1) (b2 := 90) zK_180 (by decide +kernel)
theorem dX8_lookOf_87 : decode cX8_lookOf 87 = .ok (.if_icmp .lt 6, 3) := zy_s2 (b1 := 0) (b2 := 6) zK_161 (by decide +kernel) (by decide +kernel)
theorem dX8_lookOf_90 : decode cX8_lookOf 90 = .ok (.goto 10, 3) := zy_s2 (b1 := 0) (b2 := 10) zK_167 (by decide +kernel) (by decide +kernel)
theorem dX8_lookOf_93 : decode cX8_lookOf 93 = .ok (.iload_n 2, 1) := zy_0 zK_28 (by decide +kernel)
theorem dX8_lookOf_94 : decode cX8_lookOf 94 = .ok (.istore_n 1, 1) := zy_0 zK_60 (by decide +kernel)
theorem dX8_lookOf_95 : decode cX8_lookOf 95 = .ok (.aload_n 0, 1) := zy_0 zK_42 (by decide +kernel)
theorem dX8_lookOf_96 : decode cX8_lookOf 96 = .ok (.iload_n 3, 1) := zy_0 zK_29 (by decide +kernel)
theorem dX8_lookOf_97 : decode cX8_lookOf 97 = .ok (.putfield 346, 3) := zy_u2 (b1 := 1) (b2 := 90) zK_181 (by decide +kernel)
theorem dX8_lookOf_100 : decode cX8_lookOf 100 = .ok (.iload_n 2, 1) := zy_0 zK_28 (by decide +kernel)
theorem dX8_lookOf_101 : decode cX8_lookOf 101 = .ok (.aload_n 0, 1) := zy_0 zK_42 (by decide +kernel)
theorem dX8_lookOf_102 : decode cX8_lookOf 102 = .ok (.getfield 20, 3) := zy_u2 (b1 := 0) (b2 := 20) zK_180 (by decide +kernel)
theorem dX8_lookOf_105 : decode cX8_lookOf 105 = .ok (.iconst 1, 1) := zy_0 zK_4 (by decide +kernel)
theorem dX8_lookOf_106 : decode cX8_lookOf 106 = .ok (.iaload, 1) := zy_0 zK_46 (by decide +kernel)
theorem dX8_lookOf_107 : decode cX8_lookOf 107 = .ok (.iadd, 1) := zy_0 zK_96 (by decide +kernel)
theorem dX8_lookOf_108 : decode cX8_lookOf 108 = .ok (.istore_n 2, 1) := zy_0 zK_61 (by decide +kernel)
theorem dX8_lookOf_109 : decode cX8_lookOf 109 = .ok (.goto (-98), 3) := zy_s2 (b1 := 255) (b2 := 158) zK_167 (by decide +kernel) (by decide +kernel)
theorem dX8_lookOf_112 : decode cX8_lookOf 112 = .ok (.iload_n 1, 1) := zy_0 zK_27 (by decide +kernel)
theorem dX8_lookOf_113 : decode cX8_lookOf 113 = .ok (.ireturn, 1) := zy_0 zK_172 (by decide +kernel)
theorem dX8_look_0 : decode cX8_look 0 = .ok (.aload_n 0, 1) := zy_0 zK_42 (by decide +kernel)
theorem dX8_look_1 : decode cX8_look 1 = .ok (.invokevirtual 160, 3) := zy_u2 (b1 := 0) (b2 := 160) zK_182 (by decide +kernel)
theorem dX8_look_4 : decode cX8_look 4 = .ok (.aload_n 0, 1) := zy_0 zK_42 (by decide +kernel)
theorem dX8_look_5 : decode cX8_look 5 = .ok (.getfield 173, 3) := zy_u2 (b1 := 0) (b2 := 173) zK_180 (by decide +kernel)
theorem dX8_look_8 : decode cX8_look 8 = .ok (.ifCond .eq 10, 3) := zy_s2 (b1 := 0) (b2 := 10) zK_153 (by decide +kernel) (by decide +kernel)
theorem dX8_look_11 : decode cX8_look 11 = .ok (.aload_n 0, 1) := zy_0 zK_42 (by decide +kernel)
theorem dX8_look_12 : decode cX8_look 12 = .ok (.invokevirtual 349, 3) := zy_u2 (b1 := 1) (b2 := 93) zK_182 (by decide +kernel)
theorem dX8_look_15 : decode cX8_look 15 = .ok (.goto 8, 3) := zy_s2 (b1 := 0) (b2 := 8) zK_167 (by decide +kernel) (by decide +kernel)
theorem dX8_look_18 : decode cX8_look 18 = .ok (.aload_n 0, 1) := zy_0 zK_42 (by decide +kernel)
theorem dX8_look_19 : decode cX8_look 19 = .ok (.iconst 1, 1) := zy_0 zK_4 (by decide +kernel)
theorem dX8_look_20 : decode cX8_look 20 = .ok (.invokevirtual 163, 3) := zy_u2 (b1 := 0) (b2 := 163) zK_182 (by decide +kernel)
theorem dX8_look_23 : decode cX8_look 23 = .ok (.ireturn, 1) := zy_0 zK_172 (by decide +kernel)
theorem dX8_lookLeaves_0 : decode cX8_lookLeaves 0 = .ok (.aload_n 0, 1) := zy_0 zK_42 (by decide +kernel)
theorem dX8_lookLeaves_1 : decode cX8_lookLeaves 1 = .ok (.invokevirtual 160, 3) := zy_u2 (b1 := 0) (b2 := 160) zK_182 (by decide +kernel)
theorem dX8_lookLeaves_4 : decode cX8_lookLeaves 4 = .ok (.aload_n 0, 1) := zy_0 zK_42 (by decide +kernel)
theorem dX8_lookLeaves_5 : decode cX8_lookLeaves 5 = .ok (.getfield 173, 3) := zy_u2 (b1 := 0) (b2 := 173) zK_180 (by decide +kernel)
theorem dX8_lookLeaves_8 : decode cX8_lookLeaves 8 = .ok (.ifCond .ne 9, 3) := zy_s2 (b1 := 0) (b2 := 9) zK_154 (by decide +kernel) (by decide +kernel)
theorem dX8_lookLeaves_11 : decode cX8_lookLeaves 11 = .ok (.aload_n 0, 1) := zy_0 zK_42 (by decide +kernel)
theorem dX8_lookLeaves_12 : decode cX8_lookLeaves 12 = .ok (.iconst 1, 1) := zy_0 zK_4 (by decide +kernel)
theorem dX8_lookLeaves_13 : decode cX8_lookLeaves 13 = .ok (.invokevirtual 163, 3) := zy_u2 (b1 := 0) (b2 := 163) zK_182 (by decide +kernel)
theorem dX8_lookLeaves_16 : decode cX8_lookLeaves 16 = .ok (.ireturn, 1) := zy_0 zK_172 (by decide +kernel)
theorem dX8_lookLeaves_17 : decode cX8_lookLeaves 17 = .ok (.aload_n 0, 1) := zy_0 zK_42 (by decide +kernel)
theorem dX8_lookLeaves_18 : decode cX8_lookLeaves 18 = .ok (.invokevirtual 349, 3) := zy_u2 (b1 := 1) (b2 := 93) zK_182 (by decide +kernel)
theorem dX8_lookLeaves_21 : decode cX8_lookLeaves 21 = .ok (.pop, 1) := zy_0 zK_87 (by decide +kernel)
theorem dX8_lookLeaves_22 : decode cX8_lookLeaves 22 = .ok (.aload_n 0, 1) := zy_0 zK_42 (by decide +kernel)
theorem dX8_lookLeaves_23 : decode cX8_lookLeaves 23 = .ok (.getfield 346, 3) := zy_u2 (b1 := 1) (b2 := 90) zK_180 (by decide +kernel)
theorem dX8_lookLeaves_26 : decode cX8_lookLeaves 26 = .ok (.ireturn, 1) := zy_0 zK_172 (by decide +kernel)
theorem dX8_judge_0 : decode cX8_judge 0 = .ok (.aload_n 0, 1) := zy_0 zK_42 (by decide +kernel)
theorem dX8_judge_1 : decode cX8_judge 1 = .ok (.invokevirtual 160, 3) := zy_u2 (b1 := 0) (b2 := 160) zK_182 (by decide +kernel)
theorem dX8_judge_4 : decode cX8_judge 4 = .ok (.aload_n 0, 1) := zy_0 zK_42 (by decide +kernel)
theorem dX8_judge_5 : decode cX8_judge 5 = .ok (.getfield 173, 3) := zy_u2 (b1 := 0) (b2 := 173) zK_180 (by decide +kernel)
theorem dX8_judge_8 : decode cX8_judge 8 = .ok (.ifCond .ne 9, 3) := zy_s2 (b1 := 0) (b2 := 9) zK_154 (by decide +kernel) (by decide +kernel)
theorem dX8_judge_11 : decode cX8_judge 11 = .ok (.aload_n 0, 1) := zy_0 zK_42 (by decide +kernel)
theorem dX8_judge_12 : decode cX8_judge 12 = .ok (.iconst 1, 1) := zy_0 zK_4 (by decide +kernel)
theorem dX8_judge_13 : decode cX8_judge 13 = .ok (.invokevirtual 163, 3) := zy_u2 (b1 := 0) (b2 := 163) zK_182 (by decide +kernel)
theorem dX8_judge_16 : decode cX8_judge 16 = .ok (.ireturn, 1) := zy_0 zK_172 (by decide +kernel)
theorem dX8_judge_17 : decode cX8_judge 17 = .ok (.iconst 0, 1) := zy_0 zK_3 (by decide +kernel)
theorem dX8_judge_18 : decode cX8_judge 18 = .ok (.istore_n 1, 1) := zy_0 zK_60 (by decide +kernel)
theorem dX8_judge_19 : decode cX8_judge 19 = .ok (.iload_n 1, 1) := zy_0 zK_27 (by decide +kernel)
theorem dX8_judge_20 : decode cX8_judge 20 = .ok (.aload_n 0, 1) := zy_0 zK_42 (by decide +kernel)
theorem dX8_judge_21 : decode cX8_judge 21 = .ok (.getfield 20, 3) := zy_u2 (b1 := 0) (b2 := 20) zK_180 (by decide +kernel)
theorem dX8_judge_24 : decode cX8_judge 24 = .ok (.bipush 6, 2) := zy_s1 (b1 := 6) zK_16 (by decide +kernel) (by decide +kernel)
theorem dX8_judge_26 : decode cX8_judge 26 = .ok (.iaload, 1) := zy_0 zK_46 (by decide +kernel)
theorem dX8_judge_27 : decode cX8_judge 27 = .ok (.if_icmp .ge 70, 3) := zy_s2 (b1 := 0) (b2 := 70) zK_162 (by decide +kernel) (by decide +kernel)
theorem dX8_judge_30 : decode cX8_judge 30 = .ok (.aload_n 0, 1) := zy_0 zK_42 (by decide +kernel)
theorem dX8_judge_31 : decode cX8_judge 31 = .ok (.aload_n 0, 1) := zy_0 zK_42 (by decide +kernel)
theorem dX8_judge_32 : decode cX8_judge 32 = .ok (.getfield 20, 3) := zy_u2 (b1 := 0) (b2 := 20) zK_180 (by decide +kernel)
theorem dX8_judge_35 : decode cX8_judge 35 = .ok (.bipush 7, 2) := zy_s1 (b1 := 7) zK_16 (by decide +kernel) (by decide +kernel)
theorem dX8_judge_37 : decode cX8_judge 37 = .ok (.iaload, 1) := zy_0 zK_46 (by decide +kernel)
theorem dX8_judge_38 : decode cX8_judge 38 = .ok (.aload_n 0, 1) := zy_0 zK_42 (by decide +kernel)
theorem dX8_judge_39 : decode cX8_judge 39 = .ok (.getfield 20, 3) := zy_u2 (b1 := 0) (b2 := 20) zK_180 (by decide +kernel)
theorem dX8_judge_42 : decode cX8_judge 42 = .ok (.bipush 8, 2) := zy_s1 (b1 := 8) zK_16 (by decide +kernel) (by decide +kernel)
theorem dX8_judge_44 : decode cX8_judge 44 = .ok (.iaload, 1) := zy_0 zK_46 (by decide +kernel)
theorem dX8_judge_45 : decode cX8_judge 45 = .ok (.aload_n 0, 1) := zy_0 zK_42 (by decide +kernel)
theorem dX8_judge_46 : decode cX8_judge 46 = .ok (.getfield 20, 3) := zy_u2 (b1 := 0) (b2 := 20) zK_180 (by decide +kernel)
theorem dX8_judge_49 : decode cX8_judge 49 = .ok (.bipush 9, 2) := zy_s1 (b1 := 9) zK_16 (by decide +kernel) (by decide +kernel)
theorem dX8_judge_51 : decode cX8_judge 51 = .ok (.iaload, 1) := zy_0 zK_46 (by decide +kernel)
theorem dX8_judge_52 : decode cX8_judge 52 = .ok (.aload_n 0, 1) := zy_0 zK_42 (by decide +kernel)
theorem dX8_judge_53 : decode cX8_judge 53 = .ok (.getfield 20, 3) := zy_u2 (b1 := 0) (b2 := 20) zK_180 (by decide +kernel)
theorem dX8_judge_56 : decode cX8_judge 56 = .ok (.bipush 36, 2) := zy_s1 (b1 := 36) zK_16 (by decide +kernel) (by decide +kernel)
theorem dX8_judge_58 : decode cX8_judge 58 = .ok (.iconst 2, 1) := zy_0 zK_5 (by decide +kernel)
theorem dX8_judge_59 : decode cX8_judge 59 = .ok (.iload_n 1, 1) := zy_0 zK_27 (by decide +kernel)
theorem dX8_judge_60 : decode cX8_judge 60 = .ok (.imul, 1) := zy_0 zK_104 (by decide +kernel)
theorem dX8_judge_61 : decode cX8_judge 61 = .ok (.iadd, 1) := zy_0 zK_96 (by decide +kernel)
theorem dX8_judge_62 : decode cX8_judge 62 = .ok (.iconst 1, 1) := zy_0 zK_4 (by decide +kernel)
theorem dX8_judge_63 : decode cX8_judge 63 = .ok (.iadd, 1) := zy_0 zK_96 (by decide +kernel)
theorem dX8_judge_64 : decode cX8_judge 64 = .ok (.iaload, 1) := zy_0 zK_46 (by decide +kernel)
theorem dX8_judge_65 : decode cX8_judge 65 = .ok (.aload_n 0, 1) := zy_0 zK_42 (by decide +kernel)
theorem dX8_judge_66 : decode cX8_judge 66 = .ok (.getfield 20, 3) := zy_u2 (b1 := 0) (b2 := 20) zK_180 (by decide +kernel)
theorem dX8_judge_69 : decode cX8_judge 69 = .ok (.iconst 1, 1) := zy_0 zK_4 (by decide +kernel)
theorem dX8_judge_70 : decode cX8_judge 70 = .ok (.iaload, 1) := zy_0 zK_46 (by decide +kernel)
theorem dX8_judge_71 : decode cX8_judge 71 = .ok (.idiv, 1) := zy_0 zK_108 (by decide +kernel)
theorem dX8_judge_72 : decode cX8_judge 72 = .ok (.invokevirtual 327, 3) := zy_u2 (b1 := 1) (b2 := 71) zK_182 (by decide +kernel)
theorem dX8_judge_75 : decode cX8_judge 75 = .ok (.aload_n 0, 1) := zy_0 zK_42 (by decide +kernel)
theorem dX8_judge_76 : decode cX8_judge 76 = .ok (.getfield 20, 3) := zy_u2 (b1 := 0) (b2 := 20) zK_180 (by decide +kernel)
theorem dX8_judge_79 : decode cX8_judge 79 = .ok (.bipush 36, 2) := zy_s1 (b1 := 36) zK_16 (by decide +kernel) (by decide +kernel)
theorem dX8_judge_81 : decode cX8_judge 81 = .ok (.iconst 2, 1) := zy_0 zK_5 (by decide +kernel)
theorem dX8_judge_82 : decode cX8_judge 82 = .ok (.iload_n 1, 1) := zy_0 zK_27 (by decide +kernel)
theorem dX8_judge_83 : decode cX8_judge 83 = .ok (.imul, 1) := zy_0 zK_104 (by decide +kernel)
theorem dX8_judge_84 : decode cX8_judge 84 = .ok (.iadd, 1) := zy_0 zK_96 (by decide +kernel)
theorem dX8_judge_85 : decode cX8_judge 85 = .ok (.iaload, 1) := zy_0 zK_46 (by decide +kernel)
theorem dX8_judge_86 : decode cX8_judge 86 = .ok (.if_icmp .eq 5, 3) := zy_s2 (b1 := 0) (b2 := 5) zK_159 (by decide +kernel) (by decide +kernel)
theorem dX8_judge_89 : decode cX8_judge 89 = .ok (.iload_n 1, 1) := zy_0 zK_27 (by decide +kernel)
theorem dX8_judge_90 : decode cX8_judge 90 = .ok (.ireturn, 1) := zy_0 zK_172 (by decide +kernel)
theorem dX8_judge_91 : decode cX8_judge 91 = .ok (.iinc 1 1, 3) := zy_ii (b1 := 1) (b2 := 1) zK_132 (by decide +kernel) (by decide +kernel)
theorem dX8_judge_94 : decode cX8_judge 94 = .ok (.goto (-75), 3) := zy_s2 (b1 := 255) (b2 := 181) zK_167 (by decide +kernel) (by decide +kernel)
theorem dX8_judge_97 : decode cX8_judge 97 = .ok (.bipush (-2), 2) := zy_s1 (b1 := 254) zK_16 (by decide +kernel) (by decide +kernel)
theorem dX8_judge_99 : decode cX8_judge 99 = .ok (.ireturn, 1) := zy_0 zK_172 (by decide +kernel)
theorem dX8_lawsLike_0 : decode cX8_lawsLike 0 = .ok (.aload_n 0, 1) := zy_0 zK_42 (by decide +kernel)
theorem dX8_lawsLike_1 : decode cX8_lawsLike 1 = .ok (.invokevirtual 160, 3) := zy_u2 (b1 := 0) (b2 := 160) zK_182 (by decide +kernel)
theorem dX8_lawsLike_4 : decode cX8_lawsLike 4 = .ok (.aload_n 0, 1) := zy_0 zK_42 (by decide +kernel)
theorem dX8_lawsLike_5 : decode cX8_lawsLike 5 = .ok (.getfield 173, 3) := zy_u2 (b1 := 0) (b2 := 173) zK_180 (by decide +kernel)
theorem dX8_lawsLike_8 : decode cX8_lawsLike 8 = .ok (.ifCond .ne 9, 3) := zy_s2 (b1 := 0) (b2 := 9) zK_154 (by decide +kernel) (by decide +kernel)
theorem dX8_lawsLike_11 : decode cX8_lawsLike 11 = .ok (.aload_n 0, 1) := zy_0 zK_42 (by decide +kernel)
theorem dX8_lawsLike_12 : decode cX8_lawsLike 12 = .ok (.iconst 1, 1) := zy_0 zK_4 (by decide +kernel)
theorem dX8_lawsLike_13 : decode cX8_lawsLike 13 = .ok (.invokevirtual 163, 3) := zy_u2 (b1 := 0) (b2 := 163) zK_182 (by decide +kernel)
theorem dX8_lawsLike_16 : decode cX8_lawsLike 16 = .ok (.ireturn, 1) := zy_0 zK_172 (by decide +kernel)
theorem dX8_lawsLike_17 : decode cX8_lawsLike 17 = .ok (.iconst 0, 1) := zy_0 zK_3 (by decide +kernel)
theorem dX8_lawsLike_18 : decode cX8_lawsLike 18 = .ok (.istore_n 1, 1) := zy_0 zK_60 (by decide +kernel)
theorem dX8_lawsLike_19 : decode cX8_lawsLike 19 = .ok (.iconst 0, 1) := zy_0 zK_3 (by decide +kernel)
theorem dX8_lawsLike_20 : decode cX8_lawsLike 20 = .ok (.istore_n 2, 1) := zy_0 zK_61 (by decide +kernel)
theorem dX8_lawsLike_21 : decode cX8_lawsLike 21 = .ok (.iload_n 2, 1) := zy_0 zK_28 (by decide +kernel)
theorem dX8_lawsLike_22 : decode cX8_lawsLike 22 = .ok (.aload_n 0, 1) := zy_0 zK_42 (by decide +kernel)
theorem dX8_lawsLike_23 : decode cX8_lawsLike 23 = .ok (.invokevirtual 334, 3) := zy_u2 (b1 := 1) (b2 := 78) zK_182 (by decide +kernel)
theorem dX8_lawsLike_26 : decode cX8_lawsLike 26 = .ok (.if_icmp .ge 86, 3) := zy_s2 (b1 := 0) (b2 := 86) zK_162 (by decide +kernel) (by decide +kernel)
theorem dX8_lawsLike_29 : decode cX8_lawsLike 29 = .ok (.iconst 1, 1) := zy_0 zK_4 (by decide +kernel)
theorem dX8_lawsLike_30 : decode cX8_lawsLike 30 = .ok (.istore_n 3, 1) := zy_0 zK_62 (by decide +kernel)
theorem dX8_lawsLike_31 : decode cX8_lawsLike 31 = .ok (.iconst 0, 1) := zy_0 zK_3 (by decide +kernel)
theorem dX8_lawsLike_32 : decode cX8_lawsLike 32 = .ok (.istore 4, 2) := zy_u1 (b1 := 4) zK_54 (by decide +kernel)
theorem dX8_lawsLike_34 : decode cX8_lawsLike 34 = .ok (.iload 4, 2) := zy_u1 (b1 := 4) zK_21 (by decide +kernel)
theorem dX8_lawsLike_36 : decode cX8_lawsLike 36 = .ok (.bipush 20, 2) := zy_s1 (b1 := 20) zK_16 (by decide +kernel) (by decide +kernel)
theorem dX8_lawsLike_38 : decode cX8_lawsLike 38 = .ok (.if_icmp .ge 56, 3) := zy_s2 (b1 := 0) (b2 := 56) zK_162 (by decide +kernel) (by decide +kernel)
theorem dX8_lawsLike_41 : decode cX8_lawsLike 41 = .ok (.iload_n 3, 1) := zy_0 zK_29 (by decide +kernel)
theorem dX8_lawsLike_42 : decode cX8_lawsLike 42 = .ok (.ifCond .eq 52, 3) := zy_s2 (b1 := 0) (b2 := 52) zK_153 (by decide +kernel) (by decide +kernel)
theorem dX8_lawsLike_45 : decode cX8_lawsLike 45 = .ok (.aload_n 0, 1) := zy_0 zK_42 (by decide +kernel)
theorem dX8_lawsLike_46 : decode cX8_lawsLike 46 = .ok (.iload_n 2, 1) := zy_0 zK_28 (by decide +kernel)
theorem dX8_lawsLike_47 : decode cX8_lawsLike 47 = .ok (.iload 4, 2) := zy_u1 (b1 := 4) zK_21 (by decide +kernel)
theorem dX8_lawsLike_49 : decode cX8_lawsLike 49 = .ok (.invokevirtual 331, 3) := zy_u2 (b1 := 1) (b2 := 75) zK_182 (by decide +kernel)
theorem dX8_lawsLike_52 : decode cX8_lawsLike 52 = .ok (.aload_n 0, 1) := zy_0 zK_42 (by decide +kernel)
theorem dX8_lawsLike_53 : decode cX8_lawsLike 53 = .ok (.aload_n 0, 1) := zy_0 zK_42 (by decide +kernel)
theorem dX8_lawsLike_54 : decode cX8_lawsLike 54 = .ok (.getfield 20, 3) := zy_u2 (b1 := 0) (b2 := 20) zK_180 (by decide +kernel)
theorem dX8_lawsLike_57 : decode cX8_lawsLike 57 = .ok (.bipush 7, 2) := zy_s1 (b1 := 7) zK_16 (by decide +kernel) (by decide +kernel)
theorem dX8_lawsLike_59 : decode cX8_lawsLike 59 = .ok (.iaload, 1) := zy_0 zK_46 (by decide +kernel)
theorem dX8_lawsLike_60 : decode cX8_lawsLike 60 = .ok (.aload_n 0, 1) := zy_0 zK_42 (by decide +kernel)
theorem dX8_lawsLike_61 : decode cX8_lawsLike 61 = .ok (.getfield 20, 3) := zy_u2 (b1 := 0) (b2 := 20) zK_180 (by decide +kernel)
theorem dX8_lawsLike_64 : decode cX8_lawsLike 64 = .ok (.bipush 8, 2) := zy_s1 (b1 := 8) zK_16 (by decide +kernel) (by decide +kernel)
theorem dX8_lawsLike_66 : decode cX8_lawsLike 66 = .ok (.iaload, 1) := zy_0 zK_46 (by decide +kernel)
theorem dX8_lawsLike_67 : decode cX8_lawsLike 67 = .ok (.aload_n 0, 1) := zy_0 zK_42 (by decide +kernel)
theorem dX8_lawsLike_68 : decode cX8_lawsLike 68 = .ok (.getfield 20, 3) := zy_u2 (b1 := 0) (b2 := 20) zK_180 (by decide +kernel)
theorem dX8_lawsLike_71 : decode cX8_lawsLike 71 = .ok (.bipush 9, 2) := zy_s1 (b1 := 9) zK_16 (by decide +kernel) (by decide +kernel)
theorem dX8_lawsLike_73 : decode cX8_lawsLike 73 = .ok (.iaload, 1) := zy_0 zK_46 (by decide +kernel)
theorem dX8_lawsLike_74 : decode cX8_lawsLike 74 = .ok (.iload 4, 2) := zy_u1 (b1 := 4) zK_21 (by decide +kernel)
theorem dX8_lawsLike_76 : decode cX8_lawsLike 76 = .ok (.invokevirtual 327, 3) := zy_u2 (b1 := 1) (b2 := 71) zK_182 (by decide +kernel)
theorem dX8_lawsLike_79 : decode cX8_lawsLike 79 = .ok (.if_icmp .ne 7, 3) := zy_s2 (b1 := 0) (b2 := 7) zK_160 (by decide +kernel) (by decide +kernel)
theorem dX8_lawsLike_82 : decode cX8_lawsLike 82 = .ok (.iconst 1, 1) := zy_0 zK_4 (by decide +kernel)
theorem dX8_lawsLike_83 : decode cX8_lawsLike 83 = .ok (.goto 4, 3) := zy_s2 (b1 := 0) (b2 := 4) zK_167 (by decide +kernel) (by decide +kernel)
theorem dX8_lawsLike_86 : decode cX8_lawsLike 86 = .ok (.iconst 0, 1) := zy_0 zK_3 (by decide +kernel)
theorem dX8_lawsLike_87 : decode cX8_lawsLike 87 = .ok (.istore_n 3, 1) := zy_0 zK_62 (by decide +kernel)
theorem dX8_lawsLike_88 : decode cX8_lawsLike 88 = .ok (.iinc 4 1, 3) := zy_ii (b1 := 4) (b2 := 1) zK_132 (by decide +kernel) (by decide +kernel)
theorem dX8_lawsLike_91 : decode cX8_lawsLike 91 = .ok (.goto (-57), 3) := zy_s2 (b1 := 255) (b2 := 199) zK_167 (by decide +kernel) (by decide +kernel)
theorem dX8_lawsLike_94 : decode cX8_lawsLike 94 = .ok (.iload_n 1, 1) := zy_0 zK_27 (by decide +kernel)
theorem dX8_lawsLike_95 : decode cX8_lawsLike 95 = .ok (.iload_n 3, 1) := zy_0 zK_29 (by decide +kernel)
theorem dX8_lawsLike_96 : decode cX8_lawsLike 96 = .ok (.ifCond .eq 7, 3) := zy_s2 (b1 := 0) (b2 := 7) zK_153 (by decide +kernel) (by decide +kernel)
theorem dX8_lawsLike_99 : decode cX8_lawsLike 99 = .ok (.iconst 1, 1) := zy_0 zK_4 (by decide +kernel)
theorem dX8_lawsLike_100 : decode cX8_lawsLike 100 = .ok (.goto 4, 3) := zy_s2 (b1 := 0) (b2 := 4) zK_167 (by decide +kernel) (by decide +kernel)
theorem dX8_lawsLike_103 : decode cX8_lawsLike 103 = .ok (.iconst 0, 1) := zy_0 zK_3 (by decide +kernel)
theorem dX8_lawsLike_104 : decode cX8_lawsLike 104 = .ok (.iadd, 1) := zy_0 zK_96 (by decide +kernel)
theorem dX8_lawsLike_105 : decode cX8_lawsLike 105 = .ok (.istore_n 1, 1) := zy_0 zK_60 (by decide +kernel)
theorem dX8_lawsLike_106 : decode cX8_lawsLike 106 = .ok (.iinc 2 1, 3) := zy_ii (b1 := 2) (b2 := 1) zK_132 (by decide +kernel) (by decide +kernel)
theorem dX8_lawsLike_109 : decode cX8_lawsLike 109 = .ok (.goto (-88), 3) := zy_s2 (b1 := 255) (b2 := 168) zK_167 (by decide +kernel) (by decide +kernel)
theorem dX8_lawsLike_112 : decode cX8_lawsLike 112 = .ok (.iload_n 1, 1) := zy_0 zK_27 (by decide +kernel)
theorem dX8_lawsLike_113 : decode cX8_lawsLike 113 = .ok (.ireturn, 1) := zy_0 zK_172 (by decide +kernel)
theorem dX8_lawFor_0 : decode cX8_lawFor 0 = .ok (.aload_n 0, 1) := zy_0 zK_42 (by decide +kernel)
theorem dX8_lawFor_1 : decode cX8_lawFor 1 = .ok (.invokevirtual 160, 3) := zy_u2 (b1 := 0) (b2 := 160) zK_182 (by decide +kernel)
theorem dX8_lawFor_4 : decode cX8_lawFor 4 = .ok (.aload_n 0, 1) := zy_0 zK_42 (by decide +kernel)
theorem dX8_lawFor_5 : decode cX8_lawFor 5 = .ok (.aload_n 0, 1) := zy_0 zK_42 (by decide +kernel)
theorem dX8_lawFor_6 : decode cX8_lawFor 6 = .ok (.iload_n 1, 1) := zy_0 zK_27 (by decide +kernel)
theorem dX8_lawFor_7 : decode cX8_lawFor 7 = .ok (.invokevirtual 277, 3) := zy_u2 (b1 := 1) (b2 := 21) zK_182 (by decide +kernel)
theorem dX8_lawFor_10 : decode cX8_lawFor 10 = .ok (.iload_n 2, 1) := zy_0 zK_28 (by decide +kernel)
theorem dX8_lawFor_11 : decode cX8_lawFor 11 = .ok (.iconst 0, 1) := zy_0 zK_3 (by decide +kernel)
theorem dX8_lawFor_12 : decode cX8_lawFor 12 = .ok (.bipush 99, 2) := zy_s1 (b1 := 99) zK_16 (by decide +kernel) (by decide +kernel)
theorem dX8_lawFor_14 : decode cX8_lawFor 14 = .ok (.invokestatic 142, 3) := zy_u2 (b1 := 0) (b2 := 142) zK_184 (by decide +kernel)
theorem dX8_lawFor_17 : decode cX8_lawFor 17 = .ok (.invokevirtual 290, 3) := zy_u2 (b1 := 1) (b2 := 34) zK_182 (by decide +kernel)
theorem dX8_lawFor_20 : decode cX8_lawFor 20 = .ok (.istore_n 3, 1) := zy_0 zK_62 (by decide +kernel)
theorem dX8_lawFor_21 : decode cX8_lawFor 21 = .ok (.iload_n 3, 1) := zy_0 zK_29 (by decide +kernel)
theorem dX8_lawFor_22 : decode cX8_lawFor 22 = .ok (.ifCond .eq 9, 3) := zy_s2 (b1 := 0) (b2 := 9) zK_153 (by decide +kernel) (by decide +kernel)
theorem dX8_lawFor_25 : decode cX8_lawFor 25 = .ok (.aload_n 0, 1) := zy_0 zK_42 (by decide +kernel)
theorem dX8_lawFor_26 : decode cX8_lawFor 26 = .ok (.iload_n 3, 1) := zy_0 zK_29 (by decide +kernel)
theorem dX8_lawFor_27 : decode cX8_lawFor 27 = .ok (.invokevirtual 163, 3) := zy_u2 (b1 := 0) (b2 := 163) zK_182 (by decide +kernel)
theorem dX8_lawFor_30 : decode cX8_lawFor 30 = .ok (.ireturn, 1) := zy_0 zK_172 (by decide +kernel)
theorem dX8_lawFor_31 : decode cX8_lawFor 31 = .ok (.iconst 0, 1) := zy_0 zK_3 (by decide +kernel)
theorem dX8_lawFor_32 : decode cX8_lawFor 32 = .ok (.istore 4, 2) := zy_u1 (b1 := 4) zK_54 (by decide +kernel)
theorem dX8_lawFor_34 : decode cX8_lawFor 34 = .ok (.aload_n 0, 1) := zy_0 zK_42 (by decide +kernel)
theorem dX8_lawFor_35 : decode cX8_lawFor 35 = .ok (.iload 4, 2) := zy_u1 (b1 := 4) zK_21 (by decide +kernel)
theorem dX8_lawFor_37 : decode cX8_lawFor 37 = .ok (.iload_n 2, 1) := zy_0 zK_28 (by decide +kernel)
theorem dX8_lawFor_38 : decode cX8_lawFor 38 = .ok (.invokevirtual 331, 3) := zy_u2 (b1 := 1) (b2 := 75) zK_182 (by decide +kernel)
theorem dX8_lawFor_41 : decode cX8_lawFor 41 = .ok (.iload_n 1, 1) := zy_0 zK_27 (by decide +kernel)
theorem dX8_lawFor_42 : decode cX8_lawFor 42 = .ok (.if_icmp .eq 9, 3) := zy_s2 (b1 := 0) (b2 := 9) zK_159 (by decide +kernel) (by decide +kernel)
theorem dX8_lawFor_45 : decode cX8_lawFor 45 = .ok (.iinc 4 1, 3) := zy_ii (b1 := 4) (b2 := 1) zK_132 (by decide +kernel) (by decide +kernel)
theorem dX8_lawFor_48 : decode cX8_lawFor 48 = .ok (.goto (-14), 3) := zy_s2 (b1 := 255) (b2 := 242) zK_167 (by decide +kernel) (by decide +kernel)
theorem dX8_lawFor_51 : decode cX8_lawFor 51 = .ok (.aload_n 0, 1) := zy_0 zK_42 (by decide +kernel)
theorem dX8_lawFor_52 : decode cX8_lawFor 52 = .ok (.iload 4, 2) := zy_u1 (b1 := 4) zK_21 (by decide +kernel)
theorem dX8_lawFor_54 : decode cX8_lawFor 54 = .ok (.invokevirtual 340, 3) := zy_u2 (b1 := 1) (b2 := 84) zK_182 (by decide +kernel)
theorem dX8_lawFor_57 : decode cX8_lawFor 57 = .ok (.ireturn, 1) := zy_0 zK_172 (by decide +kernel)
theorem dX8_figureHas_0 : decode cX8_figureHas 0 = .ok (.iload_n 1, 1) := zy_0 zK_27 (by decide +kernel)
theorem dX8_figureHas_1 : decode cX8_figureHas 1 = .ok (.ifCond .eq 16, 3) := zy_s2 (b1 := 0) (b2 := 16) zK_153 (by decide +kernel) (by decide +kernel)
theorem dX8_figureHas_4 : decode cX8_figureHas 4 = .ok (.iload_n 2, 1) := zy_0 zK_28 (by decide +kernel)
theorem dX8_figureHas_5 : decode cX8_figureHas 5 = .ok (.ifCond .eq 8, 3) := zy_s2 (b1 := 0) (b2 := 8) zK_153 (by decide +kernel) (by decide +kernel)
theorem dX8_figureHas_8 : decode cX8_figureHas 8 = .ok (.iload_n 0, 1) := zy_0 zK_26 (by decide +kernel)
theorem dX8_figureHas_9 : decode cX8_figureHas 9 = .ok (.ineg, 1) := zy_0 zK_116 (by decide +kernel)
theorem dX8_figureHas_10 : decode cX8_figureHas 10 = .ok (.goto 16, 3) := zy_s2 (b1 := 0) (b2 := 16) zK_167 (by decide +kernel) (by decide +kernel)
theorem dX8_figureHas_13 : decode cX8_figureHas 13 = .ok (.iconst 4, 1) := zy_0 zK_7 (by decide +kernel)
theorem dX8_figureHas_14 : decode cX8_figureHas 14 = .ok (.goto 12, 3) := zy_s2 (b1 := 0) (b2 := 12) zK_167 (by decide +kernel) (by decide +kernel)
theorem dX8_figureHas_17 : decode cX8_figureHas 17 = .ok (.iload_n 2, 1) := zy_0 zK_28 (by decide +kernel)
theorem dX8_figureHas_18 : decode cX8_figureHas 18 = .ok (.ifCond .eq 7, 3) := zy_s2 (b1 := 0) (b2 := 7) zK_153 (by decide +kernel) (by decide +kernel)
theorem dX8_figureHas_21 : decode cX8_figureHas 21 = .ok (.iconst 1, 1) := zy_0 zK_4 (by decide +kernel)
theorem dX8_figureHas_22 : decode cX8_figureHas 22 = .ok (.goto 4, 3) := zy_s2 (b1 := 0) (b2 := 4) zK_167 (by decide +kernel) (by decide +kernel)
theorem dX8_figureHas_25 : decode cX8_figureHas 25 = .ok (.iconst 0, 1) := zy_0 zK_3 (by decide +kernel)
theorem dX8_figureHas_26 : decode cX8_figureHas 26 = .ok (.ireturn, 1) := zy_0 zK_172 (by decide +kernel)
theorem dX8_otherHas_0 : decode cX8_otherHas 0 = .ok (.iload_n 0, 1) := zy_0 zK_26 (by decide +kernel)
theorem dX8_otherHas_1 : decode cX8_otherHas 1 = .ok (.ifCond .eq 15, 3) := zy_s2 (b1 := 0) (b2 := 15) zK_153 (by decide +kernel) (by decide +kernel)
theorem dX8_otherHas_4 : decode cX8_otherHas 4 = .ok (.iload_n 1, 1) := zy_0 zK_27 (by decide +kernel)
theorem dX8_otherHas_5 : decode cX8_otherHas 5 = .ok (.ifCond .eq 7, 3) := zy_s2 (b1 := 0) (b2 := 7) zK_153 (by decide +kernel) (by decide +kernel)
theorem dX8_otherHas_8 : decode cX8_otherHas 8 = .ok (.iconst 3, 1) := zy_0 zK_6 (by decide +kernel)
theorem dX8_otherHas_9 : decode cX8_otherHas 9 = .ok (.goto 16, 3) := zy_s2 (b1 := 0) (b2 := 16) zK_167 (by decide +kernel) (by decide +kernel)
theorem dX8_otherHas_12 : decode cX8_otherHas 12 = .ok (.iconst 0, 1) := zy_0 zK_3 (by decide +kernel)
theorem dX8_otherHas_13 : decode cX8_otherHas 13 = .ok (.goto 12, 3) := zy_s2 (b1 := 0) (b2 := 12) zK_167 (by decide +kernel) (by decide +kernel)
theorem dX8_otherHas_16 : decode cX8_otherHas 16 = .ok (.iload_n 1, 1) := zy_0 zK_27 (by decide +kernel)
theorem dX8_otherHas_17 : decode cX8_otherHas 17 = .ok (.ifCond .eq 7, 3) := zy_s2 (b1 := 0) (b2 := 7) zK_153 (by decide +kernel) (by decide +kernel)
theorem dX8_otherHas_20 : decode cX8_otherHas 20 = .ok (.iconst (-1), 1) := zy_0 zK_2 (by decide +kernel)
theorem dX8_otherHas_21 : decode cX8_otherHas 21 = .ok (.goto 4, 3) := zy_s2 (b1 := 0) (b2 := 4) zK_167 (by decide +kernel) (by decide +kernel)
theorem dX8_otherHas_24 : decode cX8_otherHas 24 = .ok (.iconst 1, 1) := zy_0 zK_4 (by decide +kernel)
theorem dX8_otherHas_25 : decode cX8_otherHas 25 = .ok (.ireturn, 1) := zy_0 zK_172 (by decide +kernel)
theorem dX8_dares_0 : decode cX8_dares 0 = .ok (.aload_n 0, 1) := zy_0 zK_42 (by decide +kernel)
theorem dX8_dares_1 : decode cX8_dares 1 = .ok (.invokevirtual 160, 3) := zy_u2 (b1 := 0) (b2 := 160) zK_182 (by decide +kernel)
theorem dX8_dares_4 : decode cX8_dares 4 = .ok (.aload_n 0, 1) := zy_0 zK_42 (by decide +kernel)
theorem dX8_dares_5 : decode cX8_dares 5 = .ok (.aload_n 0, 1) := zy_0 zK_42 (by decide +kernel)
theorem dX8_dares_6 : decode cX8_dares 6 = .ok (.getfield 173, 3) := zy_u2 (b1 := 0) (b2 := 173) zK_180 (by decide +kernel)
theorem dX8_dares_9 : decode cX8_dares 9 = .ok (.iload_n 1, 1) := zy_0 zK_27 (by decide +kernel)
theorem dX8_dares_10 : decode cX8_dares 10 = .ok (.iconst 0, 1) := zy_0 zK_3 (by decide +kernel)
theorem dX8_dares_11 : decode cX8_dares 11 = .ok (.bipush 9, 2) := zy_s1 (b1 := 9) zK_16 (by decide +kernel) (by decide +kernel)
theorem dX8_dares_13 : decode cX8_dares 13 = .ok (.invokestatic 142, 3) := zy_u2 (b1 := 0) (b2 := 142) zK_184 (by decide +kernel)
theorem dX8_dares_16 : decode cX8_dares 16 = .ok (.invokevirtual 290, 3) := zy_u2 (b1 := 1) (b2 := 34) zK_182 (by decide +kernel)
theorem dX8_dares_19 : decode cX8_dares 19 = .ok (.istore 5, 2) := zy_u1 (b1 := 5) zK_54 (by decide +kernel)
theorem dX8_dares_21 : decode cX8_dares 21 = .ok (.iload 5, 2) := zy_u1 (b1 := 5) zK_21 (by decide +kernel)
theorem dX8_dares_23 : decode cX8_dares 23 = .ok (.ifCond .ne 23, 3) := zy_s2 (b1 := 0) (b2 := 23) zK_154 (by decide +kernel) (by decide +kernel)
theorem dX8_dares_26 : decode cX8_dares 26 = .ok (.iload 4, 2) := zy_u1 (b1 := 4) zK_21 (by decide +kernel)
theorem dX8_dares_28 : decode cX8_dares 28 = .ok (.ifCond .eq 11, 3) := zy_s2 (b1 := 0) (b2 := 11) zK_153 (by decide +kernel) (by decide +kernel)
theorem dX8_dares_31 : decode cX8_dares 31 = .ok (.iload_n 2, 1) := zy_0 zK_28 (by decide +kernel)
theorem dX8_dares_32 : decode cX8_dares 32 = .ok (.iload_n 3, 1) := zy_0 zK_29 (by decide +kernel)
theorem dX8_dares_33 : decode cX8_dares 33 = .ok (.invokestatic 352, 3) := zy_u2 (b1 := 1) (b2 := 96) zK_184 (by decide +kernel)
theorem dX8_dares_36 : decode cX8_dares 36 = .ok (.goto 9, 3) := zy_s2 (b1 := 0) (b2 := 9) zK_167 (by decide +kernel) (by decide +kernel)
theorem dX8_dares_39 : decode cX8_dares 39 = .ok (.iload_n 1, 1) := zy_0 zK_27 (by decide +kernel)
theorem dX8_dares_40 : decode cX8_dares 40 = .ok (.iload_n 2, 1) := zy_0 zK_28 (by decide +kernel)
theorem dX8_dares_41 : decode cX8_dares 41 = .ok (.iload_n 3, 1) := zy_0 zK_29 (by decide +kernel)
theorem dX8_dares_42 : decode cX8_dares 42 = .ok (.invokestatic 355, 3) := zy_u2 (b1 := 1) (b2 := 99) zK_184 (by decide +kernel)
theorem dX8_dares_45 : decode cX8_dares 45 = .ok (.ireturn, 1) := zy_0 zK_172 (by decide +kernel)
theorem dX8_dares_46 : decode cX8_dares 46 = .ok (.aload_n 0, 1) := zy_0 zK_42 (by decide +kernel)
theorem dX8_dares_47 : decode cX8_dares 47 = .ok (.iload 5, 2) := zy_u1 (b1 := 5) zK_21 (by decide +kernel)
theorem dX8_dares_49 : decode cX8_dares 49 = .ok (.putfield 62, 3) := zy_u2 (b1 := 0) (b2 := 62) zK_181 (by decide +kernel)
theorem dX8_dares_52 : decode cX8_dares 52 = .ok (.bipush (-100), 2) := zy_s1 (b1 := 156) zK_16 (by decide +kernel) (by decide +kernel)
theorem dX8_dares_54 : decode cX8_dares 54 = .ok (.ireturn, 1) := zy_0 zK_172 (by decide +kernel)
theorem dX8_seekRests_0 : decode cX8_seekRests 0 = .ok (.iconst 0, 1) := zy_0 zK_3 (by decide +kernel)
theorem dX8_seekRests_1 : decode cX8_seekRests 1 = .ok (.istore_n 2, 1) := zy_0 zK_61 (by decide +kernel)
theorem dX8_seekRests_2 : decode cX8_seekRests 2 = .ok (.aload_n 0, 1) := zy_0 zK_42 (by decide +kernel)
theorem dX8_seekRests_3 : decode cX8_seekRests 3 = .ok (.bipush (-2), 2) := zy_s1 (b1 := 254) zK_16 (by decide +kernel) (by decide +kernel)
theorem dX8_seekRests_5 : decode cX8_seekRests 5 = .ok (.putfield 359, 3) := zy_u2 (b1 := 1) (b2 := 103) zK_181 (by decide +kernel)
theorem dX8_seekRests_8 : decode cX8_seekRests 8 = .ok (.iconst 0, 1) := zy_0 zK_3 (by decide +kernel)
theorem dX8_seekRests_9 : decode cX8_seekRests 9 = .ok (.istore_n 3, 1) := zy_0 zK_62 (by decide +kernel)
theorem dX8_seekRests_10 : decode cX8_seekRests 10 = .ok (.iload_n 3, 1) := zy_0 zK_29 (by decide +kernel)
theorem dX8_seekRests_11 : decode cX8_seekRests 11 = .ok (.iconst 4, 1) := zy_0 zK_7 (by decide +kernel)
theorem dX8_seekRests_12 : decode cX8_seekRests 12 = .ok (.if_icmp .ge 111, 3) := zy_s2 (b1 := 0) (b2 := 111) zK_162 (by decide +kernel) (by decide +kernel)
theorem dX8_seekRests_15 : decode cX8_seekRests 15 = .ok (.iload_n 3, 1) := zy_0 zK_29 (by decide +kernel)
theorem dX8_seekRests_16 : decode cX8_seekRests 16 = .ok (.iconst 1, 1) := zy_0 zK_4 (by decide +kernel)
theorem dX8_seekRests_17 : decode cX8_seekRests 17 = .ok (.if_icmp .le 7, 3) := zy_s2 (b1 := 0) (b2 := 7) zK_164 (by decide +kernel) (by decide +kernel)
theorem dX8_seekRests_20 : decode cX8_seekRests 20 = .ok (.iconst 1, 1) := zy_0 zK_4 (by decide +kernel)
theorem dX8_seekRests_21 : decode cX8_seekRests 21 = .ok (.goto 4, 3) := zy_s2 (b1 := 0) (b2 := 4) zK_167 (by decide +kernel) (by decide +kernel)
theorem dX8_seekRests_24 : decode cX8_seekRests 24 = .ok (.iconst 0, 1) := zy_0 zK_3 (by decide +kernel)
theorem dX8_seekRests_25 : decode cX8_seekRests 25 = .ok (.istore 4, 2) := zy_u1 (b1 := 4) zK_54 (by decide +kernel)
theorem dX8_seekRests_27 : decode cX8_seekRests 27 = .ok (.iload_n 3, 1) := zy_0 zK_29 (by decide +kernel)
theorem dX8_seekRests_28 : decode cX8_seekRests 28 = .ok (.iconst 2, 1) := zy_0 zK_5 (by decide +kernel)
theorem dX8_seekRests_29 : decode cX8_seekRests 29 = .ok (.irem, 1) := zy_0 zK_112 (by decide +kernel)
theorem dX8_seekRests_30 : decode cX8_seekRests 30 = .ok (.iconst 1, 1) := zy_0 zK_4 (by decide +kernel)
theorem dX8_seekRests_31 : decode cX8_seekRests 31 = .ok (.if_icmp .ne 7, 3) := zy_s2 (b1 := 0) (b2 := 7) zK_160 (by decide +kernel) (by decide +kernel)
theorem dX8_seekRests_34 : decode cX8_seekRests 34 = .ok (.iconst 1, 1) := zy_0 zK_4 (by decide +kernel)
theorem dX8_seekRests_35 : decode cX8_seekRests 35 = .ok (.goto 4, 3) := zy_s2 (b1 := 0) (b2 := 4) zK_167 (by decide +kernel) (by decide +kernel)
theorem dX8_seekRests_38 : decode cX8_seekRests 38 = .ok (.iconst 0, 1) := zy_0 zK_3 (by decide +kernel)
theorem dX8_seekRests_39 : decode cX8_seekRests 39 = .ok (.istore 5, 2) := zy_u1 (b1 := 5) zK_54 (by decide +kernel)
theorem dX8_seekRests_41 : decode cX8_seekRests 41 = .ok (.iload_n 1, 1) := zy_0 zK_27 (by decide +kernel)
theorem dX8_seekRests_42 : decode cX8_seekRests 42 = .ok (.iload 4, 2) := zy_u1 (b1 := 4) zK_21 (by decide +kernel)
theorem dX8_seekRests_44 : decode cX8_seekRests 44 = .ok (.ifCond .ne 7, 3) := zy_s2 (b1 := 0) (b2 := 7) zK_154 (by decide +kernel) (by decide +kernel)
theorem dX8_seekRests_47 : decode cX8_seekRests 47 = .ok (.iconst 1, 1) := zy_0 zK_4 (by decide +kernel)
theorem dX8_seekRests_48 : decode cX8_seekRests 48 = .ok (.goto 4, 3) := zy_s2 (b1 := 0) (b2 := 4) zK_167 (by decide +kernel) (by decide +kernel)
theorem dX8_seekRests_51 : decode cX8_seekRests 51 = .ok (.iconst 0, 1) := zy_0 zK_3 (by decide +kernel)
theorem dX8_seekRests_52 : decode cX8_seekRests 52 = .ok (.iload 5, 2) := zy_u1 (b1 := 5) zK_21 (by decide +kernel)
theorem dX8_seekRests_54 : decode cX8_seekRests 54 = .ok (.invokestatic 355, 3) := zy_u2 (b1 := 1) (b2 := 99) zK_184 (by decide +kernel)
theorem dX8_seekRests_57 : decode cX8_seekRests 57 = .ok (.iload_n 1, 1) := zy_0 zK_27 (by decide +kernel)
theorem dX8_seekRests_58 : decode cX8_seekRests 58 = .ok (.iload 4, 2) := zy_u1 (b1 := 4) zK_21 (by decide +kernel)
theorem dX8_seekRests_60 : decode cX8_seekRests 60 = .ok (.iload 5, 2) := zy_u1 (b1 := 5) zK_21 (by decide +kernel)
theorem dX8_seekRests_62 : decode cX8_seekRests 62 = .ok (.invokestatic 355, 3) := zy_u2 (b1 := 1) (b2 := 99) zK_184 (by decide +kernel)
theorem dX8_seekRests_65 : decode cX8_seekRests 65 = .ok (.if_icmp .gt 52, 3) := zy_s2 (b1 := 0) (b2 := 52) zK_163 (by decide +kernel) (by decide +kernel)
theorem dX8_seekRests_68 : decode cX8_seekRests 68 = .ok (.iload 4, 2) := zy_u1 (b1 := 4) zK_21 (by decide +kernel)
theorem dX8_seekRests_70 : decode cX8_seekRests 70 = .ok (.iload 5, 2) := zy_u1 (b1 := 5) zK_21 (by decide +kernel)
theorem dX8_seekRests_72 : decode cX8_seekRests 72 = .ok (.ifCond .ne 7, 3) := zy_s2 (b1 := 0) (b2 := 7) zK_154 (by decide +kernel) (by decide +kernel)
theorem dX8_seekRests_75 : decode cX8_seekRests 75 = .ok (.iconst 1, 1) := zy_0 zK_4 (by decide +kernel)
theorem dX8_seekRests_76 : decode cX8_seekRests 76 = .ok (.goto 4, 3) := zy_s2 (b1 := 0) (b2 := 4) zK_167 (by decide +kernel) (by decide +kernel)
theorem dX8_seekRests_79 : decode cX8_seekRests 79 = .ok (.iconst 0, 1) := zy_0 zK_3 (by decide +kernel)
theorem dX8_seekRests_80 : decode cX8_seekRests 80 = .ok (.invokestatic 352, 3) := zy_u2 (b1 := 1) (b2 := 96) zK_184 (by decide +kernel)
theorem dX8_seekRests_83 : decode cX8_seekRests 83 = .ok (.iload 4, 2) := zy_u1 (b1 := 4) zK_21 (by decide +kernel)
theorem dX8_seekRests_85 : decode cX8_seekRests 85 = .ok (.iload 5, 2) := zy_u1 (b1 := 5) zK_21 (by decide +kernel)
theorem dX8_seekRests_87 : decode cX8_seekRests 87 = .ok (.invokestatic 352, 3) := zy_u2 (b1 := 1) (b2 := 96) zK_184 (by decide +kernel)
theorem dX8_seekRests_90 : decode cX8_seekRests 90 = .ok (.if_icmp .le 6, 3) := zy_s2 (b1 := 0) (b2 := 6) zK_164 (by decide +kernel) (by decide +kernel)
theorem dX8_seekRests_93 : decode cX8_seekRests 93 = .ok (.goto 24, 3) := zy_s2 (b1 := 0) (b2 := 24) zK_167 (by decide +kernel) (by decide +kernel)
theorem dX8_seekRests_96 : decode cX8_seekRests 96 = .ok (.iload_n 2, 1) := zy_0 zK_28 (by decide +kernel)
theorem dX8_seekRests_97 : decode cX8_seekRests 97 = .ok (.ifCond .ne 17, 3) := zy_s2 (b1 := 0) (b2 := 17) zK_154 (by decide +kernel) (by decide +kernel)
theorem dX8_seekRests_100 : decode cX8_seekRests 100 = .ok (.aload_n 0, 1) := zy_0 zK_42 (by decide +kernel)
theorem dX8_seekRests_101 : decode cX8_seekRests 101 = .ok (.bipush 10, 2) := zy_s1 (b1 := 10) zK_16 (by decide +kernel) (by decide +kernel)
theorem dX8_seekRests_103 : decode cX8_seekRests 103 = .ok (.iload_n 3, 1) := zy_0 zK_29 (by decide +kernel)
theorem dX8_seekRests_104 : decode cX8_seekRests 104 = .ok (.iconst 2, 1) := zy_0 zK_5 (by decide +kernel)
theorem dX8_seekRests_105 : decode cX8_seekRests 105 = .ok (.idiv, 1) := zy_0 zK_108 (by decide +kernel)
theorem dX8_seekRests_106 : decode cX8_seekRests 106 = .ok (.imul, 1) := zy_0 zK_104 (by decide +kernel)
theorem dX8_seekRests_107 : decode cX8_seekRests 107 = .ok (.iload_n 3, 1) := zy_0 zK_29 (by decide +kernel)
theorem dX8_seekRests_108 : decode cX8_seekRests 108 = .ok (.iconst 2, 1) := zy_0 zK_5 (by decide +kernel)
theorem dX8_seekRests_109 : decode cX8_seekRests 109 = .ok (.irem, 1) := zy_0 zK_112 (by decide +kernel)
theorem dX8_seekRests_110 : decode cX8_seekRests 110 = .ok (.iadd, 1) := zy_0 zK_96 (by decide +kernel)
theorem dX8_seekRests_111 : decode cX8_seekRests 111 = .ok (.putfield 359, 3) := zy_u2 (b1 := 1) (b2 := 103) zK_181 (by decide +kernel)
theorem dX8_seekRests_114 : decode cX8_seekRests 114 = .ok (.iinc 2 1, 3) := zy_ii (b1 := 2) (b2 := 1) zK_132 (by decide +kernel) (by decide +kernel)
theorem dX8_seekRests_117 : decode cX8_seekRests 117 = .ok (.iinc 3 1, 3) := zy_ii (b1 := 3) (b2 := 1) zK_132 (by decide +kernel) (by decide +kernel)
theorem dX8_seekRests_120 : decode cX8_seekRests 120 = .ok (.goto (-110), 3) := zy_s2 (b1 := 255) (b2 := 146) zK_167 (by decide +kernel) (by decide +kernel)
theorem dX8_seekRests_123 : decode cX8_seekRests 123 = .ok (.iload_n 2, 1) := zy_0 zK_28 (by decide +kernel)
theorem dX8_seekRests_124 : decode cX8_seekRests 124 = .ok (.ireturn, 1) := zy_0 zK_172 (by decide +kernel)
theorem dX8_rests_0 : decode cX8_rests 0 = .ok (.aload_n 0, 1) := zy_0 zK_42 (by decide +kernel)
theorem dX8_rests_1 : decode cX8_rests 1 = .ok (.invokevirtual 160, 3) := zy_u2 (b1 := 0) (b2 := 160) zK_182 (by decide +kernel)
theorem dX8_rests_4 : decode cX8_rests 4 = .ok (.aload_n 0, 1) := zy_0 zK_42 (by decide +kernel)
theorem dX8_rests_5 : decode cX8_rests 5 = .ok (.aload_n 0, 1) := zy_0 zK_42 (by decide +kernel)
theorem dX8_rests_6 : decode cX8_rests 6 = .ok (.getfield 173, 3) := zy_u2 (b1 := 0) (b2 := 173) zK_180 (by decide +kernel)
theorem dX8_rests_9 : decode cX8_rests 9 = .ok (.iload_n 1, 1) := zy_0 zK_27 (by decide +kernel)
theorem dX8_rests_10 : decode cX8_rests 10 = .ok (.iconst 0, 1) := zy_0 zK_3 (by decide +kernel)
theorem dX8_rests_11 : decode cX8_rests 11 = .ok (.bipush 9, 2) := zy_s1 (b1 := 9) zK_16 (by decide +kernel) (by decide +kernel)
theorem dX8_rests_13 : decode cX8_rests 13 = .ok (.invokestatic 142, 3) := zy_u2 (b1 := 0) (b2 := 142) zK_184 (by decide +kernel)
theorem dX8_rests_16 : decode cX8_rests 16 = .ok (.invokevirtual 290, 3) := zy_u2 (b1 := 1) (b2 := 34) zK_182 (by decide +kernel)
theorem dX8_rests_19 : decode cX8_rests 19 = .ok (.istore_n 2, 1) := zy_0 zK_61 (by decide +kernel)
theorem dX8_rests_20 : decode cX8_rests 20 = .ok (.iload_n 2, 1) := zy_0 zK_28 (by decide +kernel)
theorem dX8_rests_21 : decode cX8_rests 21 = .ok (.ifCond .eq 11, 3) := zy_s2 (b1 := 0) (b2 := 11) zK_153 (by decide +kernel) (by decide +kernel)
theorem dX8_rests_24 : decode cX8_rests 24 = .ok (.aload_n 0, 1) := zy_0 zK_42 (by decide +kernel)
theorem dX8_rests_25 : decode cX8_rests 25 = .ok (.iload_n 2, 1) := zy_0 zK_28 (by decide +kernel)
theorem dX8_rests_26 : decode cX8_rests 26 = .ok (.invokevirtual 163, 3) := zy_u2 (b1 := 0) (b2 := 163) zK_182 (by decide +kernel)
theorem dX8_rests_29 : decode cX8_rests 29 = .ok (.goto 8, 3) := zy_s2 (b1 := 0) (b2 := 8) zK_167 (by decide +kernel) (by decide +kernel)
theorem dX8_rests_32 : decode cX8_rests 32 = .ok (.aload_n 0, 1) := zy_0 zK_42 (by decide +kernel)
theorem dX8_rests_33 : decode cX8_rests 33 = .ok (.iload_n 1, 1) := zy_0 zK_27 (by decide +kernel)
theorem dX8_rests_34 : decode cX8_rests 34 = .ok (.invokevirtual 362, 3) := zy_u2 (b1 := 1) (b2 := 106) zK_182 (by decide +kernel)
theorem dX8_rests_37 : decode cX8_rests 37 = .ok (.ireturn, 1) := zy_0 zK_172 (by decide +kernel)
theorem dX8_rest_0 : decode cX8_rest 0 = .ok (.aload_n 0, 1) := zy_0 zK_42 (by decide +kernel)
theorem dX8_rest_1 : decode cX8_rest 1 = .ok (.invokevirtual 160, 3) := zy_u2 (b1 := 0) (b2 := 160) zK_182 (by decide +kernel)
theorem dX8_rest_4 : decode cX8_rest 4 = .ok (.aload_n 0, 1) := zy_0 zK_42 (by decide +kernel)
theorem dX8_rest_5 : decode cX8_rest 5 = .ok (.aload_n 0, 1) := zy_0 zK_42 (by decide +kernel)
theorem dX8_rest_6 : decode cX8_rest 6 = .ok (.getfield 173, 3) := zy_u2 (b1 := 0) (b2 := 173) zK_180 (by decide +kernel)
theorem dX8_rest_9 : decode cX8_rest 9 = .ok (.iload_n 1, 1) := zy_0 zK_27 (by decide +kernel)
theorem dX8_rest_10 : decode cX8_rest 10 = .ok (.iconst 0, 1) := zy_0 zK_3 (by decide +kernel)
theorem dX8_rest_11 : decode cX8_rest 11 = .ok (.bipush 9, 2) := zy_s1 (b1 := 9) zK_16 (by decide +kernel) (by decide +kernel)
theorem dX8_rest_13 : decode cX8_rest 13 = .ok (.invokestatic 142, 3) := zy_u2 (b1 := 0) (b2 := 142) zK_184 (by decide +kernel)
theorem dX8_rest_16 : decode cX8_rest 16 = .ok (.invokevirtual 290, 3) := zy_u2 (b1 := 1) (b2 := 34) zK_182 (by decide +kernel)
theorem dX8_rest_19 : decode cX8_rest 19 = .ok (.istore_n 2, 1) := zy_0 zK_61 (by decide +kernel)
theorem dX8_rest_20 : decode cX8_rest 20 = .ok (.iload_n 2, 1) := zy_0 zK_28 (by decide +kernel)
theorem dX8_rest_21 : decode cX8_rest 21 = .ok (.ifCond .eq 9, 3) := zy_s2 (b1 := 0) (b2 := 9) zK_153 (by decide +kernel) (by decide +kernel)
theorem dX8_rest_24 : decode cX8_rest 24 = .ok (.aload_n 0, 1) := zy_0 zK_42 (by decide +kernel)
theorem dX8_rest_25 : decode cX8_rest 25 = .ok (.iload_n 2, 1) := zy_0 zK_28 (by decide +kernel)
theorem dX8_rest_26 : decode cX8_rest 26 = .ok (.invokevirtual 163, 3) := zy_u2 (b1 := 0) (b2 := 163) zK_182 (by decide +kernel)
theorem dX8_rest_29 : decode cX8_rest 29 = .ok (.ireturn, 1) := zy_0 zK_172 (by decide +kernel)
theorem dX8_rest_30 : decode cX8_rest 30 = .ok (.aload_n 0, 1) := zy_0 zK_42 (by decide +kernel)
theorem dX8_rest_31 : decode cX8_rest 31 = .ok (.iload_n 1, 1) := zy_0 zK_27 (by decide +kernel)
theorem dX8_rest_32 : decode cX8_rest 32 = .ok (.invokevirtual 362, 3) := zy_u2 (b1 := 1) (b2 := 106) zK_182 (by decide +kernel)
theorem dX8_rest_35 : decode cX8_rest 35 = .ok (.pop, 1) := zy_0 zK_87 (by decide +kernel)
theorem dX8_rest_36 : decode cX8_rest 36 = .ok (.aload_n 0, 1) := zy_0 zK_42 (by decide +kernel)
theorem dX8_rest_37 : decode cX8_rest 37 = .ok (.getfield 359, 3) := zy_u2 (b1 := 1) (b2 := 103) zK_180 (by decide +kernel)
theorem dX8_rest_40 : decode cX8_rest 40 = .ok (.ireturn, 1) := zy_0 zK_172 (by decide +kernel)
theorem dX8_turnsOf_0 : decode cX8_turnsOf 0 = .ok (.aload_n 0, 1) := zy_0 zK_42 (by decide +kernel)
theorem dX8_turnsOf_1 : decode cX8_turnsOf 1 = .ok (.invokevirtual 294, 3) := zy_u2 (b1 := 1) (b2 := 38) zK_182 (by decide +kernel)
theorem dX8_turnsOf_4 : decode cX8_turnsOf 4 = .ok (.iconst 0, 1) := zy_0 zK_3 (by decide +kernel)
theorem dX8_turnsOf_5 : decode cX8_turnsOf 5 = .ok (.istore_n 3, 1) := zy_0 zK_62 (by decide +kernel)
theorem dX8_turnsOf_6 : decode cX8_turnsOf 6 = .ok (.iconst 1, 1) := zy_0 zK_4 (by decide +kernel)
theorem dX8_turnsOf_7 : decode cX8_turnsOf 7 = .ok (.istore 4, 2) := zy_u1 (b1 := 4) zK_54 (by decide +kernel)
theorem dX8_turnsOf_9 : decode cX8_turnsOf 9 = .ok (.iload 4, 2) := zy_u1 (b1 := 4) zK_21 (by decide +kernel)
theorem dX8_turnsOf_11 : decode cX8_turnsOf 11 = .ok (.iload_n 2, 1) := zy_0 zK_28 (by decide +kernel)
theorem dX8_turnsOf_12 : decode cX8_turnsOf 12 = .ok (.if_icmp .gt 27, 3) := zy_s2 (b1 := 0) (b2 := 27) zK_163 (by decide +kernel) (by decide +kernel)
theorem dX8_turnsOf_15 : decode cX8_turnsOf 15 = .ok (.iload_n 3, 1) := zy_0 zK_29 (by decide +kernel)
theorem dX8_turnsOf_16 : decode cX8_turnsOf 16 = .ok (.aload_n 0, 1) := zy_0 zK_42 (by decide +kernel)
theorem dX8_turnsOf_17 : decode cX8_turnsOf 17 = .ok (.iload 4, 2) := zy_u1 (b1 := 4) zK_21 (by decide +kernel)
theorem dX8_turnsOf_19 : decode cX8_turnsOf 19 = .ok (.invokevirtual 297, 3) := zy_u2 (b1 := 1) (b2 := 41) zK_182 (by decide +kernel)
theorem dX8_turnsOf_22 : decode cX8_turnsOf 22 = .ok (.iload_n 1, 1) := zy_0 zK_27 (by decide +kernel)
theorem dX8_turnsOf_23 : decode cX8_turnsOf 23 = .ok (.if_icmp .ne 7, 3) := zy_s2 (b1 := 0) (b2 := 7) zK_160 (by decide +kernel) (by decide +kernel)
theorem dX8_turnsOf_26 : decode cX8_turnsOf 26 = .ok (.iconst 1, 1) := zy_0 zK_4 (by decide +kernel)
theorem dX8_turnsOf_27 : decode cX8_turnsOf 27 = .ok (.goto 4, 3) := zy_s2 (b1 := 0) (b2 := 4) zK_167 (by decide +kernel) (by decide +kernel)
theorem dX8_turnsOf_30 : decode cX8_turnsOf 30 = .ok (.iconst 0, 1) := zy_0 zK_3 (by decide +kernel)
theorem dX8_turnsOf_31 : decode cX8_turnsOf 31 = .ok (.iadd, 1) := zy_0 zK_96 (by decide +kernel)
theorem dX8_turnsOf_32 : decode cX8_turnsOf 32 = .ok (.istore_n 3, 1) := zy_0 zK_62 (by decide +kernel)
theorem dX8_turnsOf_33 : decode cX8_turnsOf 33 = .ok (.iinc 4 1, 3) := zy_ii (b1 := 4) (b2 := 1) zK_132 (by decide +kernel) (by decide +kernel)
theorem dX8_turnsOf_36 : decode cX8_turnsOf 36 = .ok (.goto (-27), 3) := zy_s2 (b1 := 255) (b2 := 229) zK_167 (by decide +kernel) (by decide +kernel)
theorem dX8_turnsOf_39 : decode cX8_turnsOf 39 = .ok (.iload_n 3, 1) := zy_0 zK_29 (by decide +kernel)
theorem dX8_turnsOf_40 : decode cX8_turnsOf 40 = .ok (.ireturn, 1) := zy_0 zK_172 (by decide +kernel)
theorem dX8_odds_0 : decode cX8_odds 0 = .ok (.aload_n 0, 1) := zy_0 zK_42 (by decide +kernel)
theorem dX8_odds_1 : decode cX8_odds 1 = .ok (.invokevirtual 160, 3) := zy_u2 (b1 := 0) (b2 := 160) zK_182 (by decide +kernel)
theorem dX8_odds_4 : decode cX8_odds 4 = .ok (.aload_n 0, 1) := zy_0 zK_42 (by decide +kernel)
theorem dX8_odds_5 : decode cX8_odds 5 = .ok (.aload_n 0, 1) := zy_0 zK_42 (by decide +kernel)
theorem dX8_odds_6 : decode cX8_odds 6 = .ok (.iload_n 1, 1) := zy_0 zK_27 (by decide +kernel)
theorem dX8_odds_7 : decode cX8_odds 7 = .ok (.invokevirtual 277, 3) := zy_u2 (b1 := 1) (b2 := 21) zK_182 (by decide +kernel)
theorem dX8_odds_10 : decode cX8_odds 10 = .ok (.iload_n 2, 1) := zy_0 zK_28 (by decide +kernel)
theorem dX8_odds_11 : decode cX8_odds 11 = .ok (.iconst 0, 1) := zy_0 zK_3 (by decide +kernel)
theorem dX8_odds_12 : decode cX8_odds 12 = .ok (.bipush 8, 2) := zy_s1 (b1 := 8) zK_16 (by decide +kernel) (by decide +kernel)
theorem dX8_odds_14 : decode cX8_odds 14 = .ok (.invokestatic 142, 3) := zy_u2 (b1 := 0) (b2 := 142) zK_184 (by decide +kernel)
theorem dX8_odds_17 : decode cX8_odds 17 = .ok (.invokevirtual 290, 3) := zy_u2 (b1 := 1) (b2 := 34) zK_182 (by decide +kernel)
theorem dX8_odds_20 : decode cX8_odds 20 = .ok (.istore 4, 2) := zy_u1 (b1 := 4) zK_54 (by decide +kernel)
theorem dX8_odds_22 : decode cX8_odds 22 = .ok (.iload 4, 2) := zy_u1 (b1 := 4) zK_21 (by decide +kernel)
theorem dX8_odds_24 : decode cX8_odds 24 = .ok (.ifCond .eq 11, 3) := zy_s2 (b1 := 0) (b2 := 11) zK_153 (by decide +kernel) (by decide +kernel)
theorem dX8_odds_27 : decode cX8_odds 27 = .ok (.aload_n 0, 1) := zy_0 zK_42 (by decide +kernel)
theorem dX8_odds_28 : decode cX8_odds 28 = .ok (.iload 4, 2) := zy_u1 (b1 := 4) zK_21 (by decide +kernel)
theorem dX8_odds_30 : decode cX8_odds 30 = .ok (.invokevirtual 163, 3) := zy_u2 (b1 := 0) (b2 := 163) zK_182 (by decide +kernel)
theorem dX8_odds_33 : decode cX8_odds 33 = .ok (.i2l, 1) := zy_0 zK_133 (by decide +kernel)
theorem dX8_odds_34 : decode cX8_odds 34 = .ok (.lreturn, 1) := zy_0 zK_173 (by decide +kernel)
theorem dX8_odds_35 : decode cX8_odds 35 = .ok (.aload_n 0, 1) := zy_0 zK_42 (by decide +kernel)
theorem dX8_odds_36 : decode cX8_odds 36 = .ok (.iload_n 1, 1) := zy_0 zK_27 (by decide +kernel)
theorem dX8_odds_37 : decode cX8_odds 37 = .ok (.iload_n 2, 1) := zy_0 zK_28 (by decide +kernel)
theorem dX8_odds_38 : decode cX8_odds 38 = .ok (.invokevirtual 365, 3) := zy_u2 (b1 := 1) (b2 := 109) zK_182 (by decide +kernel)
theorem dX8_odds_41 : decode cX8_odds 41 = .ok (.istore 5, 2) := zy_u1 (b1 := 5) zK_54 (by decide +kernel)
theorem dX8_odds_43 : decode cX8_odds 43 = .ok (.lconst 1, 1) := zy_0 zK_10 (by decide +kernel)
theorem dX8_odds_44 : decode cX8_odds 44 = .ok (.lstore 6, 2) := zy_u1 (b1 := 6) zK_55 (by decide +kernel)
theorem dX8_odds_46 : decode cX8_odds 46 = .ok (.lconst 1, 1) := zy_0 zK_10 (by decide +kernel)
theorem dX8_odds_47 : decode cX8_odds 47 = .ok (.lstore 8, 2) := zy_u1 (b1 := 8) zK_55 (by decide +kernel)
theorem dX8_odds_49 : decode cX8_odds 49 = .ok (.iconst 0, 1) := zy_0 zK_3 (by decide +kernel)
theorem dX8_odds_50 : decode cX8_odds 50 = .ok (.istore 10, 2) := zy_u1 (b1 := 10) zK_54 (by decide +kernel)
theorem dX8_odds_52 : decode cX8_odds 52 = .ok (.iload 10, 2) := zy_u1 (b1 := 10) zK_21 (by decide +kernel)
theorem dX8_odds_54 : decode cX8_odds 54 = .ok (.iload 5, 2) := zy_u1 (b1 := 5) zK_21 (by decide +kernel)
theorem dX8_odds_56 : decode cX8_odds 56 = .ok (.if_icmp .ge 29, 3) := zy_s2 (b1 := 0) (b2 := 29) zK_162 (by decide +kernel) (by decide +kernel)
theorem dX8_odds_59 : decode cX8_odds 59 = .ok (.lload 6, 2) := zy_u1 (b1 := 6) zK_22 (by decide +kernel)
theorem dX8_odds_61 : decode cX8_odds 61 = .ok (.ldc2_w 368, 3) := zy_u2 (b1 := 1) (b2 := 112) zK_20 (by decide +kernel)
theorem dX8_odds_64 : decode cX8_odds 64 = .ok (.lmul, 1) := zy_0 zK_105 (by decide +kernel)
end P03_decode_10
section P03_decode_11
theorem dX8_odds_65 : decode cX8_odds 65 = .ok (.lstore 6, 2) := zy_u1 (b1 := 6) zK_55 (by decide +kernel)
theorem dX8_odds_67 : decode cX8_odds 67 = .ok (.lload 8, 2) := zy_u1 (b1 := 8) zK_22 (by decide +kernel)
theorem dX8_odds_69 : decode cX8_odds 69 = .ok (.aload_n 0, 1) := zy_0 zK_42 (by decide +kernel)
theorem dX8_odds_70 : decode cX8_odds 70 = .ok (.getfield 20, 3) := zy_u2 (b1 := 0) (b2 := 20) zK_180 (by decide +kernel)
theorem dX8_odds_73 : decode cX8_odds 73 = .ok (.iconst 3, 1) := zy_0 zK_6 (by decide +kernel)
theorem dX8_odds_74 : decode cX8_odds 74 = .ok (.iaload, 1) := zy_0 zK_46 (by decide +kernel)
theorem dX8_odds_75 : decode cX8_odds 75 = .ok (.i2l, 1) := zy_0 zK_133 (by decide +kernel)
theorem dX8_odds_76 : decode cX8_odds 76 = .ok (.lmul, 1) := zy_0 zK_105 (by decide +kernel)
theorem dX8_odds_77 : decode cX8_odds 77 = .ok (.lstore 8, 2) := zy_u1 (b1 := 8) zK_55 (by decide +kernel)
theorem dX8_odds_79 : decode cX8_odds 79 = .ok (.iinc 10 1, 3) := zy_ii (b1 := 10) (b2 := 1) zK_132 (by decide +kernel) (by decide +kernel)
theorem dX8_odds_82 : decode cX8_odds 82 = .ok (.goto (-30), 3) := zy_s2 (b1 := 255) (b2 := 226) zK_167 (by decide +kernel) (by decide +kernel)
theorem dX8_odds_85 : decode cX8_odds 85 = .ok (.lload 6, 2) := zy_u1 (b1 := 6) zK_22 (by decide +kernel)
theorem dX8_odds_87 : decode cX8_odds 87 = .ok (.lload 8, 2) := zy_u1 (b1 := 8) zK_22 (by decide +kernel)
theorem dX8_odds_89 : decode cX8_odds 89 = .ok (.lsub, 1) := zy_0 zK_101 (by decide +kernel)
theorem dX8_odds_90 : decode cX8_odds 90 = .ok (.lload 6, 2) := zy_u1 (b1 := 6) zK_22 (by decide +kernel)
theorem dX8_odds_92 : decode cX8_odds 92 = .ok (.iload_n 3, 1) := zy_0 zK_29 (by decide +kernel)
theorem dX8_odds_93 : decode cX8_odds 93 = .ok (.invokestatic 370, 3) := zy_u2 (b1 := 1) (b2 := 114) zK_184 (by decide +kernel)
theorem dX8_odds_96 : decode cX8_odds 96 = .ok (.lreturn, 1) := zy_0 zK_173 (by decide +kernel)
theorem dX8_mean_0 : decode cX8_mean 0 = .ok (.aload_n 0, 1) := zy_0 zK_42 (by decide +kernel)
theorem dX8_mean_1 : decode cX8_mean 1 = .ok (.invokevirtual 160, 3) := zy_u2 (b1 := 0) (b2 := 160) zK_182 (by decide +kernel)
theorem dX8_mean_4 : decode cX8_mean 4 = .ok (.aload_n 0, 1) := zy_0 zK_42 (by decide +kernel)
theorem dX8_mean_5 : decode cX8_mean 5 = .ok (.aload_n 0, 1) := zy_0 zK_42 (by decide +kernel)
theorem dX8_mean_6 : decode cX8_mean 6 = .ok (.iload_n 1, 1) := zy_0 zK_27 (by decide +kernel)
theorem dX8_mean_7 : decode cX8_mean 7 = .ok (.invokevirtual 277, 3) := zy_u2 (b1 := 1) (b2 := 21) zK_182 (by decide +kernel)
theorem dX8_mean_10 : decode cX8_mean 10 = .ok (.iload_n 2, 1) := zy_0 zK_28 (by decide +kernel)
theorem dX8_mean_11 : decode cX8_mean 11 = .ok (.iconst 0, 1) := zy_0 zK_3 (by decide +kernel)
theorem dX8_mean_12 : decode cX8_mean 12 = .ok (.bipush 8, 2) := zy_s1 (b1 := 8) zK_16 (by decide +kernel) (by decide +kernel)
theorem dX8_mean_14 : decode cX8_mean 14 = .ok (.invokestatic 142, 3) := zy_u2 (b1 := 0) (b2 := 142) zK_184 (by decide +kernel)
theorem dX8_mean_17 : decode cX8_mean 17 = .ok (.invokevirtual 290, 3) := zy_u2 (b1 := 1) (b2 := 34) zK_182 (by decide +kernel)
theorem dX8_mean_20 : decode cX8_mean 20 = .ok (.istore 4, 2) := zy_u1 (b1 := 4) zK_54 (by decide +kernel)
theorem dX8_mean_22 : decode cX8_mean 22 = .ok (.iload 4, 2) := zy_u1 (b1 := 4) zK_21 (by decide +kernel)
theorem dX8_mean_24 : decode cX8_mean 24 = .ok (.ifCond .eq 11, 3) := zy_s2 (b1 := 0) (b2 := 11) zK_153 (by decide +kernel) (by decide +kernel)
theorem dX8_mean_27 : decode cX8_mean 27 = .ok (.aload_n 0, 1) := zy_0 zK_42 (by decide +kernel)
theorem dX8_mean_28 : decode cX8_mean 28 = .ok (.iload 4, 2) := zy_u1 (b1 := 4) zK_21 (by decide +kernel)
theorem dX8_mean_30 : decode cX8_mean 30 = .ok (.invokevirtual 163, 3) := zy_u2 (b1 := 0) (b2 := 163) zK_182 (by decide +kernel)
theorem dX8_mean_33 : decode cX8_mean 33 = .ok (.i2l, 1) := zy_0 zK_133 (by decide +kernel)
theorem dX8_mean_34 : decode cX8_mean 34 = .ok (.lreturn, 1) := zy_0 zK_173 (by decide +kernel)
theorem dX8_mean_35 : decode cX8_mean 35 = .ok (.aload_n 0, 1) := zy_0 zK_42 (by decide +kernel)
theorem dX8_mean_36 : decode cX8_mean 36 = .ok (.iload_n 1, 1) := zy_0 zK_27 (by decide +kernel)
theorem dX8_mean_37 : decode cX8_mean 37 = .ok (.iload_n 2, 1) := zy_0 zK_28 (by decide +kernel)
theorem dX8_mean_38 : decode cX8_mean 38 = .ok (.invokevirtual 365, 3) := zy_u2 (b1 := 1) (b2 := 109) zK_182 (by decide +kernel)
theorem dX8_mean_41 : decode cX8_mean 41 = .ok (.i2l, 1) := zy_0 zK_133 (by decide +kernel)
theorem dX8_mean_42 : decode cX8_mean 42 = .ok (.bipush 100, 2) := zy_s1 (b1 := 100) zK_16 (by decide +kernel) (by decide +kernel)
theorem dX8_mean_44 : decode cX8_mean 44 = .ok (.aload_n 0, 1) := zy_0 zK_42 (by decide +kernel)
theorem dX8_mean_45 : decode cX8_mean 45 = .ok (.getfield 20, 3) := zy_u2 (b1 := 0) (b2 := 20) zK_180 (by decide +kernel)
theorem dX8_mean_48 : decode cX8_mean 48 = .ok (.iconst 3, 1) := zy_0 zK_6 (by decide +kernel)
theorem dX8_mean_49 : decode cX8_mean 49 = .ok (.iaload, 1) := zy_0 zK_46 (by decide +kernel)
theorem dX8_mean_50 : decode cX8_mean 50 = .ok (.isub, 1) := zy_0 zK_100 (by decide +kernel)
theorem dX8_mean_51 : decode cX8_mean 51 = .ok (.i2l, 1) := zy_0 zK_133 (by decide +kernel)
theorem dX8_mean_52 : decode cX8_mean 52 = .ok (.lmul, 1) := zy_0 zK_105 (by decide +kernel)
theorem dX8_mean_53 : decode cX8_mean 53 = .ok (.ldc2_w 368, 3) := zy_u2 (b1 := 1) (b2 := 112) zK_20 (by decide +kernel)
theorem dX8_mean_56 : decode cX8_mean 56 = .ok (.iload_n 3, 1) := zy_0 zK_29 (by decide +kernel)
theorem dX8_mean_57 : decode cX8_mean 57 = .ok (.invokestatic 370, 3) := zy_u2 (b1 := 1) (b2 := 114) zK_184 (by decide +kernel)
theorem dX8_mean_60 : decode cX8_mean 60 = .ok (.lreturn, 1) := zy_0 zK_173 (by decide +kernel)
theorem dX8_drawWhy_0 : decode cX8_drawWhy 0 = .ok (.aload_n 0, 1) := zy_0 zK_42 (by decide +kernel)
theorem dX8_drawWhy_1 : decode cX8_drawWhy 1 = .ok (.iload_n 1, 1) := zy_0 zK_27 (by decide +kernel)
theorem dX8_drawWhy_2 : decode cX8_drawWhy 2 = .ok (.iload_n 3, 1) := zy_0 zK_29 (by decide +kernel)
theorem dX8_drawWhy_3 : decode cX8_drawWhy 3 = .ok (.iconst 0, 1) := zy_0 zK_3 (by decide +kernel)
theorem dX8_drawWhy_4 : decode cX8_drawWhy 4 = .ok (.ldc_w 374, 3) := zy_u2 (b1 := 1) (b2 := 118) zK_19 (by decide +kernel)
theorem dX8_drawWhy_7 : decode cX8_drawWhy 7 = .ok (.invokestatic 142, 3) := zy_u2 (b1 := 0) (b2 := 142) zK_184 (by decide +kernel)
theorem dX8_drawWhy_10 : decode cX8_drawWhy 10 = .ok (.ifCond .eq 19, 3) := zy_s2 (b1 := 0) (b2 := 19) zK_153 (by decide +kernel) (by decide +kernel)
theorem dX8_drawWhy_13 : decode cX8_drawWhy 13 = .ok (.iload 4, 2) := zy_u1 (b1 := 4) zK_21 (by decide +kernel)
theorem dX8_drawWhy_15 : decode cX8_drawWhy 15 = .ok (.iconst 0, 1) := zy_0 zK_3 (by decide +kernel)
theorem dX8_drawWhy_16 : decode cX8_drawWhy 16 = .ok (.sipush 200, 3) := zy_s2 (b1 := 0) (b2 := 200) zK_17 (by decide +kernel) (by decide +kernel)
theorem dX8_drawWhy_19 : decode cX8_drawWhy 19 = .ok (.invokestatic 142, 3) := zy_u2 (b1 := 0) (b2 := 142) zK_184 (by decide +kernel)
theorem dX8_drawWhy_22 : decode cX8_drawWhy 22 = .ok (.ifCond .eq 7, 3) := zy_s2 (b1 := 0) (b2 := 7) zK_153 (by decide +kernel) (by decide +kernel)
theorem dX8_drawWhy_25 : decode cX8_drawWhy 25 = .ok (.iconst 1, 1) := zy_0 zK_4 (by decide +kernel)
theorem dX8_drawWhy_26 : decode cX8_drawWhy 26 = .ok (.goto 4, 3) := zy_s2 (b1 := 0) (b2 := 4) zK_167 (by decide +kernel) (by decide +kernel)
theorem dX8_drawWhy_29 : decode cX8_drawWhy 29 = .ok (.iconst 0, 1) := zy_0 zK_3 (by decide +kernel)
theorem dX8_drawWhy_30 : decode cX8_drawWhy 30 = .ok (.invokevirtual 290, 3) := zy_u2 (b1 := 1) (b2 := 34) zK_182 (by decide +kernel)
theorem dX8_drawWhy_33 : decode cX8_drawWhy 33 = .ok (.istore 5, 2) := zy_u1 (b1 := 5) zK_54 (by decide +kernel)
theorem dX8_drawWhy_35 : decode cX8_drawWhy 35 = .ok (.iload 5, 2) := zy_u1 (b1 := 5) zK_21 (by decide +kernel)
theorem dX8_drawWhy_37 : decode cX8_drawWhy 37 = .ok (.ifCond .eq 6, 3) := zy_s2 (b1 := 0) (b2 := 6) zK_153 (by decide +kernel) (by decide +kernel)
theorem dX8_drawWhy_40 : decode cX8_drawWhy 40 = .ok (.iload 5, 2) := zy_u1 (b1 := 5) zK_21 (by decide +kernel)
theorem dX8_drawWhy_42 : decode cX8_drawWhy 42 = .ok (.ireturn, 1) := zy_0 zK_172 (by decide +kernel)
theorem dX8_drawWhy_43 : decode cX8_drawWhy 43 = .ok (.iload_n 3, 1) := zy_0 zK_29 (by decide +kernel)
theorem dX8_drawWhy_44 : decode cX8_drawWhy 44 = .ok (.istore 6, 2) := zy_u1 (b1 := 6) zK_54 (by decide +kernel)
theorem dX8_drawWhy_46 : decode cX8_drawWhy 46 = .ok (.aload_n 0, 1) := zy_0 zK_42 (by decide +kernel)
theorem dX8_drawWhy_47 : decode cX8_drawWhy 47 = .ok (.bipush (-2), 2) := zy_s1 (b1 := 254) zK_16 (by decide +kernel) (by decide +kernel)
theorem dX8_drawWhy_49 : decode cX8_drawWhy 49 = .ok (.putfield 375, 3) := zy_u2 (b1 := 1) (b2 := 119) zK_181 (by decide +kernel)
theorem dX8_drawWhy_52 : decode cX8_drawWhy 52 = .ok (.aload_n 0, 1) := zy_0 zK_42 (by decide +kernel)
theorem dX8_drawWhy_53 : decode cX8_drawWhy 53 = .ok (.iconst 0, 1) := zy_0 zK_3 (by decide +kernel)
theorem dX8_drawWhy_54 : decode cX8_drawWhy 54 = .ok (.putfield 378, 3) := zy_u2 (b1 := 1) (b2 := 122) zK_181 (by decide +kernel)
theorem dX8_drawWhy_57 : decode cX8_drawWhy 57 = .ok (.aload_n 0, 1) := zy_0 zK_42 (by decide +kernel)
theorem dX8_drawWhy_58 : decode cX8_drawWhy 58 = .ok (.invokevirtual 294, 3) := zy_u2 (b1 := 1) (b2 := 38) zK_182 (by decide +kernel)
theorem dX8_drawWhy_61 : decode cX8_drawWhy 61 = .ok (.iconst 1, 1) := zy_0 zK_4 (by decide +kernel)
theorem dX8_drawWhy_62 : decode cX8_drawWhy 62 = .ok (.istore 7, 2) := zy_u1 (b1 := 7) zK_54 (by decide +kernel)
theorem dX8_drawWhy_64 : decode cX8_drawWhy 64 = .ok (.iload 7, 2) := zy_u1 (b1 := 7) zK_21 (by decide +kernel)
theorem dX8_drawWhy_66 : decode cX8_drawWhy 66 = .ok (.iload 4, 2) := zy_u1 (b1 := 4) zK_21 (by decide +kernel)
theorem dX8_drawWhy_68 : decode cX8_drawWhy 68 = .ok (.if_icmp .gt 91, 3) := zy_s2 (b1 := 0) (b2 := 91) zK_163 (by decide +kernel) (by decide +kernel)
theorem dX8_drawWhy_71 : decode cX8_drawWhy 71 = .ok (.bipush 75, 2) := zy_s1 (b1 := 75) zK_16 (by decide +kernel) (by decide +kernel)
theorem dX8_drawWhy_73 : decode cX8_drawWhy 73 = .ok (.iload 6, 2) := zy_u1 (b1 := 6) zK_21 (by decide +kernel)
theorem dX8_drawWhy_75 : decode cX8_drawWhy 75 = .ok (.imul, 1) := zy_0 zK_104 (by decide +kernel)
theorem dX8_drawWhy_76 : decode cX8_drawWhy 76 = .ok (.bipush 74, 2) := zy_s1 (b1 := 74) zK_16 (by decide +kernel) (by decide +kernel)
theorem dX8_drawWhy_78 : decode cX8_drawWhy 78 = .ok (.iadd, 1) := zy_0 zK_96 (by decide +kernel)
theorem dX8_drawWhy_79 : decode cX8_drawWhy 79 = .ok (.ldc_w 381, 3) := zy_u2 (b1 := 1) (b2 := 125) zK_19 (by decide +kernel)
theorem dX8_drawWhy_82 : decode cX8_drawWhy 82 = .ok (.irem, 1) := zy_0 zK_112 (by decide +kernel)
theorem dX8_drawWhy_83 : decode cX8_drawWhy 83 = .ok (.istore 6, 2) := zy_u1 (b1 := 6) zK_54 (by decide +kernel)
theorem dX8_drawWhy_85 : decode cX8_drawWhy 85 = .ok (.iload 6, 2) := zy_u1 (b1 := 6) zK_21 (by decide +kernel)
theorem dX8_drawWhy_87 : decode cX8_drawWhy 87 = .ok (.bipush 100, 2) := zy_s1 (b1 := 100) zK_16 (by decide +kernel) (by decide +kernel)
theorem dX8_drawWhy_89 : decode cX8_drawWhy 89 = .ok (.irem, 1) := zy_0 zK_112 (by decide +kernel)
theorem dX8_drawWhy_90 : decode cX8_drawWhy 90 = .ok (.aload_n 0, 1) := zy_0 zK_42 (by decide +kernel)
theorem dX8_drawWhy_91 : decode cX8_drawWhy 91 = .ok (.getfield 20, 3) := zy_u2 (b1 := 0) (b2 := 20) zK_180 (by decide +kernel)
theorem dX8_drawWhy_94 : decode cX8_drawWhy 94 = .ok (.iconst 3, 1) := zy_0 zK_6 (by decide +kernel)
theorem dX8_drawWhy_95 : decode cX8_drawWhy 95 = .ok (.iaload, 1) := zy_0 zK_46 (by decide +kernel)
theorem dX8_drawWhy_96 : decode cX8_drawWhy 96 = .ok (.if_icmp .ge 7, 3) := zy_s2 (b1 := 0) (b2 := 7) zK_162 (by decide +kernel) (by decide +kernel)
theorem dX8_drawWhy_99 : decode cX8_drawWhy 99 = .ok (.iconst 1, 1) := zy_0 zK_4 (by decide +kernel)
theorem dX8_drawWhy_100 : decode cX8_drawWhy 100 = .ok (.goto 4, 3) := zy_s2 (b1 := 0) (b2 := 4) zK_167 (by decide +kernel) (by decide +kernel)
theorem dX8_drawWhy_103 : decode cX8_drawWhy 103 = .ok (.iconst 0, 1) := zy_0 zK_3 (by decide +kernel)
theorem dX8_drawWhy_104 : decode cX8_drawWhy 104 = .ok (.istore 8, 2) := zy_u1 (b1 := 8) zK_54 (by decide +kernel)
theorem dX8_drawWhy_106 : decode cX8_drawWhy 106 = .ok (.iload 8, 2) := zy_u1 (b1 := 8) zK_21 (by decide +kernel)
theorem dX8_drawWhy_108 : decode cX8_drawWhy 108 = .ok (.ifCond .eq 16, 3) := zy_s2 (b1 := 0) (b2 := 16) zK_153 (by decide +kernel) (by decide +kernel)
theorem dX8_drawWhy_111 : decode cX8_drawWhy 111 = .ok (.aload_n 0, 1) := zy_0 zK_42 (by decide +kernel)
theorem dX8_drawWhy_112 : decode cX8_drawWhy 112 = .ok (.getfield 375, 3) := zy_u2 (b1 := 1) (b2 := 119) zK_180 (by decide +kernel)
theorem dX8_drawWhy_115 : decode cX8_drawWhy 115 = .ok (.ifCond .ge 9, 3) := zy_s2 (b1 := 0) (b2 := 9) zK_156 (by decide +kernel) (by decide +kernel)
theorem dX8_drawWhy_118 : decode cX8_drawWhy 118 = .ok (.aload_n 0, 1) := zy_0 zK_42 (by decide +kernel)
theorem dX8_drawWhy_119 : decode cX8_drawWhy 119 = .ok (.iload 7, 2) := zy_u1 (b1 := 7) zK_21 (by decide +kernel)
theorem dX8_drawWhy_121 : decode cX8_drawWhy 121 = .ok (.putfield 375, 3) := zy_u2 (b1 := 1) (b2 := 119) zK_181 (by decide +kernel)
theorem dX8_drawWhy_124 : decode cX8_drawWhy 124 = .ok (.aload_n 0, 1) := zy_0 zK_42 (by decide +kernel)
theorem dX8_drawWhy_125 : decode cX8_drawWhy 125 = .ok (.dup, 1) := zy_0 zK_89 (by decide +kernel)
theorem dX8_drawWhy_126 : decode cX8_drawWhy 126 = .ok (.getfield 378, 3) := zy_u2 (b1 := 1) (b2 := 122) zK_180 (by decide +kernel)
theorem dX8_drawWhy_129 : decode cX8_drawWhy 129 = .ok (.iload 8, 2) := zy_u1 (b1 := 8) zK_21 (by decide +kernel)
theorem dX8_drawWhy_131 : decode cX8_drawWhy 131 = .ok (.ifCond .ne 17, 3) := zy_s2 (b1 := 0) (b2 := 17) zK_154 (by decide +kernel) (by decide +kernel)
theorem dX8_drawWhy_134 : decode cX8_drawWhy 134 = .ok (.aload_n 0, 1) := zy_0 zK_42 (by decide +kernel)
theorem dX8_drawWhy_135 : decode cX8_drawWhy 135 = .ok (.iload 7, 2) := zy_u1 (b1 := 7) zK_21 (by decide +kernel)
theorem dX8_drawWhy_137 : decode cX8_drawWhy 137 = .ok (.invokevirtual 297, 3) := zy_u2 (b1 := 1) (b2 := 41) zK_182 (by decide +kernel)
theorem dX8_drawWhy_140 : decode cX8_drawWhy 140 = .ok (.iload_n 2, 1) := zy_0 zK_28 (by decide +kernel)
theorem dX8_drawWhy_141 : decode cX8_drawWhy 141 = .ok (.if_icmp .ne 7, 3) := zy_s2 (b1 := 0) (b2 := 7) zK_160 (by decide +kernel) (by decide +kernel)
theorem dX8_drawWhy_144 : decode cX8_drawWhy 144 = .ok (.iconst 1, 1) := zy_0 zK_4 (by decide +kernel)
theorem dX8_drawWhy_145 : decode cX8_drawWhy 145 = .ok (.goto 4, 3) := zy_s2 (b1 := 0) (b2 := 4) zK_167 (by decide +kernel) (by decide +kernel)
theorem dX8_drawWhy_148 : decode cX8_drawWhy 148 = .ok (.iconst 0, 1) := zy_0 zK_3 (by decide +kernel)
theorem dX8_drawWhy_149 : decode cX8_drawWhy 149 = .ok (.iadd, 1) := zy_0 zK_96 (by decide +kernel)
theorem dX8_drawWhy_150 : decode cX8_drawWhy 150 = .ok (.putfield 378, 3) := zy_u2 (b1 := 1) (b2 := 122) zK_181 (by decide +kernel)
theorem dX8_drawWhy_153 : decode cX8_drawWhy 153 = .ok (.iinc 7 1, 3) := zy_ii (b1 := 7) (b2 := 1) zK_132 (by decide +kernel) (by decide +kernel)
theorem dX8_drawWhy_156 : decode cX8_drawWhy 156 = .ok (.goto (-92), 3) := zy_s2 (b1 := 255) (b2 := 164) zK_167 (by decide +kernel) (by decide +kernel)
theorem dX8_drawWhy_159 : decode cX8_drawWhy 159 = .ok (.iconst 0, 1) := zy_0 zK_3 (by decide +kernel)
theorem dX8_drawWhy_160 : decode cX8_drawWhy 160 = .ok (.ireturn, 1) := zy_0 zK_172 (by decide +kernel)
theorem dX8_drawn_0 : decode cX8_drawn 0 = .ok (.aload_n 0, 1) := zy_0 zK_42 (by decide +kernel)
theorem dX8_drawn_1 : decode cX8_drawn 1 = .ok (.invokevirtual 160, 3) := zy_u2 (b1 := 0) (b2 := 160) zK_182 (by decide +kernel)
theorem dX8_drawn_4 : decode cX8_drawn 4 = .ok (.aload_n 0, 1) := zy_0 zK_42 (by decide +kernel)
theorem dX8_drawn_5 : decode cX8_drawn 5 = .ok (.aload_n 0, 1) := zy_0 zK_42 (by decide +kernel)
theorem dX8_drawn_6 : decode cX8_drawn 6 = .ok (.iload_n 1, 1) := zy_0 zK_27 (by decide +kernel)
theorem dX8_drawn_7 : decode cX8_drawn 7 = .ok (.invokevirtual 277, 3) := zy_u2 (b1 := 1) (b2 := 21) zK_182 (by decide +kernel)
theorem dX8_drawn_10 : decode cX8_drawn 10 = .ok (.iload_n 1, 1) := zy_0 zK_27 (by decide +kernel)
theorem dX8_drawn_11 : decode cX8_drawn 11 = .ok (.iload_n 2, 1) := zy_0 zK_28 (by decide +kernel)
theorem dX8_drawn_12 : decode cX8_drawn 12 = .ok (.iload_n 3, 1) := zy_0 zK_29 (by decide +kernel)
theorem dX8_drawn_13 : decode cX8_drawn 13 = .ok (.invokevirtual 382, 3) := zy_u2 (b1 := 1) (b2 := 126) zK_182 (by decide +kernel)
theorem dX8_drawn_16 : decode cX8_drawn 16 = .ok (.istore 4, 2) := zy_u1 (b1 := 4) zK_54 (by decide +kernel)
theorem dX8_drawn_18 : decode cX8_drawn 18 = .ok (.iload 4, 2) := zy_u1 (b1 := 4) zK_21 (by decide +kernel)
theorem dX8_drawn_20 : decode cX8_drawn 20 = .ok (.ifCond .eq 12, 3) := zy_s2 (b1 := 0) (b2 := 12) zK_153 (by decide +kernel) (by decide +kernel)
theorem dX8_drawn_23 : decode cX8_drawn 23 = .ok (.aload_n 0, 1) := zy_0 zK_42 (by decide +kernel)
theorem dX8_drawn_24 : decode cX8_drawn 24 = .ok (.iload 4, 2) := zy_u1 (b1 := 4) zK_21 (by decide +kernel)
theorem dX8_drawn_26 : decode cX8_drawn 26 = .ok (.invokevirtual 163, 3) := zy_u2 (b1 := 0) (b2 := 163) zK_182 (by decide +kernel)
theorem dX8_drawn_29 : decode cX8_drawn 29 = .ok (.goto 7, 3) := zy_s2 (b1 := 0) (b2 := 7) zK_167 (by decide +kernel) (by decide +kernel)
theorem dX8_drawn_32 : decode cX8_drawn 32 = .ok (.aload_n 0, 1) := zy_0 zK_42 (by decide +kernel)
theorem dX8_drawn_33 : decode cX8_drawn 33 = .ok (.getfield 378, 3) := zy_u2 (b1 := 1) (b2 := 122) zK_180 (by decide +kernel)
theorem dX8_drawn_36 : decode cX8_drawn 36 = .ok (.ireturn, 1) := zy_0 zK_172 (by decide +kernel)
theorem dX8_firstShut_0 : decode cX8_firstShut 0 = .ok (.aload_n 0, 1) := zy_0 zK_42 (by decide +kernel)
theorem dX8_firstShut_1 : decode cX8_firstShut 1 = .ok (.invokevirtual 160, 3) := zy_u2 (b1 := 0) (b2 := 160) zK_182 (by decide +kernel)
theorem dX8_firstShut_4 : decode cX8_firstShut 4 = .ok (.aload_n 0, 1) := zy_0 zK_42 (by decide +kernel)
theorem dX8_firstShut_5 : decode cX8_firstShut 5 = .ok (.aload_n 0, 1) := zy_0 zK_42 (by decide +kernel)
theorem dX8_firstShut_6 : decode cX8_firstShut 6 = .ok (.getfield 173, 3) := zy_u2 (b1 := 0) (b2 := 173) zK_180 (by decide +kernel)
theorem dX8_firstShut_9 : decode cX8_firstShut 9 = .ok (.iconst (-1), 1) := zy_0 zK_2 (by decide +kernel)
theorem dX8_firstShut_10 : decode cX8_firstShut 10 = .ok (.iload_n 1, 1) := zy_0 zK_27 (by decide +kernel)
theorem dX8_firstShut_11 : decode cX8_firstShut 11 = .ok (.iload_n 2, 1) := zy_0 zK_28 (by decide +kernel)
theorem dX8_firstShut_12 : decode cX8_firstShut 12 = .ok (.invokevirtual 382, 3) := zy_u2 (b1 := 1) (b2 := 126) zK_182 (by decide +kernel)
theorem dX8_firstShut_15 : decode cX8_firstShut 15 = .ok (.istore_n 3, 1) := zy_0 zK_62 (by decide +kernel)
theorem dX8_firstShut_16 : decode cX8_firstShut 16 = .ok (.iload_n 3, 1) := zy_0 zK_29 (by decide +kernel)
theorem dX8_firstShut_17 : decode cX8_firstShut 17 = .ok (.ifCond .eq 11, 3) := zy_s2 (b1 := 0) (b2 := 11) zK_153 (by decide +kernel) (by decide +kernel)
theorem dX8_firstShut_20 : decode cX8_firstShut 20 = .ok (.aload_n 0, 1) := zy_0 zK_42 (by decide +kernel)
theorem dX8_firstShut_21 : decode cX8_firstShut 21 = .ok (.iload_n 3, 1) := zy_0 zK_29 (by decide +kernel)
theorem dX8_firstShut_22 : decode cX8_firstShut 22 = .ok (.invokevirtual 163, 3) := zy_u2 (b1 := 0) (b2 := 163) zK_182 (by decide +kernel)
theorem dX8_firstShut_25 : decode cX8_firstShut 25 = .ok (.goto 7, 3) := zy_s2 (b1 := 0) (b2 := 7) zK_167 (by decide +kernel) (by decide +kernel)
theorem dX8_firstShut_28 : decode cX8_firstShut 28 = .ok (.aload_n 0, 1) := zy_0 zK_42 (by decide +kernel)
theorem dX8_firstShut_29 : decode cX8_firstShut 29 = .ok (.getfield 375, 3) := zy_u2 (b1 := 1) (b2 := 119) zK_180 (by decide +kernel)
theorem dX8_firstShut_32 : decode cX8_firstShut 32 = .ok (.ireturn, 1) := zy_0 zK_172 (by decide +kernel)
theorem dX8_note_0 : decode cX8_note 0 = .ok (.aload_n 0, 1) := zy_0 zK_42 (by decide +kernel)
theorem dX8_note_1 : decode cX8_note 1 = .ok (.getfield 176, 3) := zy_u2 (b1 := 0) (b2 := 176) zK_180 (by decide +kernel)
theorem dX8_note_4 : decode cX8_note 4 = .ok (.bipush 16, 2) := zy_s1 (b1 := 16) zK_16 (by decide +kernel) (by decide +kernel)
theorem dX8_note_6 : decode cX8_note 6 = .ok (.if_icmp .ne 43, 3) := zy_s2 (b1 := 0) (b2 := 43) zK_160 (by decide +kernel) (by decide +kernel)
theorem dX8_note_9 : decode cX8_note 9 = .ok (.iconst 0, 1) := zy_0 zK_3 (by decide +kernel)
theorem dX8_note_10 : decode cX8_note 10 = .ok (.istore_n 1, 1) := zy_0 zK_60 (by decide +kernel)
theorem dX8_note_11 : decode cX8_note 11 = .ok (.iload_n 1, 1) := zy_0 zK_27 (by decide +kernel)
theorem dX8_note_12 : decode cX8_note 12 = .ok (.sipush 345, 3) := zy_s2 (b1 := 1) (b2 := 89) zK_17 (by decide +kernel) (by decide +kernel)
theorem dX8_note_15 : decode cX8_note 15 = .ok (.if_icmp .ge 24, 3) := zy_s2 (b1 := 0) (b2 := 24) zK_162 (by decide +kernel) (by decide +kernel)
theorem dX8_note_18 : decode cX8_note 18 = .ok (.aload_n 0, 1) := zy_0 zK_42 (by decide +kernel)
theorem dX8_note_19 : decode cX8_note 19 = .ok (.getfield 32, 3) := zy_u2 (b1 := 0) (b2 := 32) zK_180 (by decide +kernel)
theorem dX8_note_22 : decode cX8_note 22 = .ok (.iload_n 1, 1) := zy_0 zK_27 (by decide +kernel)
theorem dX8_note_23 : decode cX8_note 23 = .ok (.aload_n 0, 1) := zy_0 zK_42 (by decide +kernel)
theorem dX8_note_24 : decode cX8_note 24 = .ok (.getfield 32, 3) := zy_u2 (b1 := 0) (b2 := 32) zK_180 (by decide +kernel)
theorem dX8_note_27 : decode cX8_note 27 = .ok (.iload_n 1, 1) := zy_0 zK_27 (by decide +kernel)
theorem dX8_note_28 : decode cX8_note 28 = .ok (.bipush 23, 2) := zy_s1 (b1 := 23) zK_16 (by decide +kernel) (by decide +kernel)
theorem dX8_note_30 : decode cX8_note 30 = .ok (.iadd, 1) := zy_0 zK_96 (by decide +kernel)
theorem dX8_note_31 : decode cX8_note 31 = .ok (.iaload, 1) := zy_0 zK_46 (by decide +kernel)
theorem dX8_note_32 : decode cX8_note 32 = .ok (.iastore, 1) := zy_0 zK_79 (by decide +kernel)
theorem dX8_note_33 : decode cX8_note 33 = .ok (.iinc 1 1, 3) := zy_ii (b1 := 1) (b2 := 1) zK_132 (by decide +kernel) (by decide +kernel)
theorem dX8_note_36 : decode cX8_note 36 = .ok (.goto (-25), 3) := zy_s2 (b1 := 255) (b2 := 231) zK_167 (by decide +kernel) (by decide +kernel)
theorem dX8_note_39 : decode cX8_note 39 = .ok (.aload_n 0, 1) := zy_0 zK_42 (by decide +kernel)
theorem dX8_note_40 : decode cX8_note 40 = .ok (.dup, 1) := zy_0 zK_89 (by decide +kernel)
theorem dX8_note_41 : decode cX8_note 41 = .ok (.getfield 176, 3) := zy_u2 (b1 := 0) (b2 := 176) zK_180 (by decide +kernel)
theorem dX8_note_44 : decode cX8_note 44 = .ok (.iconst 1, 1) := zy_0 zK_4 (by decide +kernel)
theorem dX8_note_45 : decode cX8_note 45 = .ok (.isub, 1) := zy_0 zK_100 (by decide +kernel)
theorem dX8_note_46 : decode cX8_note 46 = .ok (.putfield 176, 3) := zy_u2 (b1 := 0) (b2 := 176) zK_181 (by decide +kernel)
theorem dX8_note_49 : decode cX8_note 49 = .ok (.aload_n 0, 1) := zy_0 zK_42 (by decide +kernel)
theorem dX8_note_50 : decode cX8_note 50 = .ok (.getfield 26, 3) := zy_u2 (b1 := 0) (b2 := 26) zK_180 (by decide +kernel)
theorem dX8_note_53 : decode cX8_note 53 = .ok (.iconst 0, 1) := zy_0 zK_3 (by decide +kernel)
theorem dX8_note_54 : decode cX8_note 54 = .ok (.aload_n 0, 1) := zy_0 zK_42 (by decide +kernel)
theorem dX8_note_55 : decode cX8_note 55 = .ok (.getfield 32, 3) := zy_u2 (b1 := 0) (b2 := 32) zK_180 (by decide +kernel)
theorem dX8_note_58 : decode cX8_note 58 = .ok (.bipush 23, 2) := zy_s1 (b1 := 23) zK_16 (by decide +kernel) (by decide +kernel)
theorem dX8_note_60 : decode cX8_note 60 = .ok (.aload_n 0, 1) := zy_0 zK_42 (by decide +kernel)
theorem dX8_note_61 : decode cX8_note 61 = .ok (.getfield 176, 3) := zy_u2 (b1 := 0) (b2 := 176) zK_180 (by decide +kernel)
theorem dX8_note_64 : decode cX8_note 64 = .ok (.imul, 1) := zy_0 zK_104 (by decide +kernel)
theorem dX8_note_65 : decode cX8_note 65 = .ok (.bipush 23, 2) := zy_s1 (b1 := 23) zK_16 (by decide +kernel) (by decide +kernel)
theorem dX8_note_67 : decode cX8_note 67 = .ok (.invokestatic 169, 3) := zy_u2 (b1 := 0) (b2 := 169) zK_184 (by decide +kernel)
theorem dX8_note_70 : decode cX8_note 70 = .ok (.aload_n 0, 1) := zy_0 zK_42 (by decide +kernel)
theorem dX8_note_71 : decode cX8_note 71 = .ok (.dup, 1) := zy_0 zK_89 (by decide +kernel)
theorem dX8_note_72 : decode cX8_note 72 = .ok (.getfield 176, 3) := zy_u2 (b1 := 0) (b2 := 176) zK_180 (by decide +kernel)
theorem dX8_note_75 : decode cX8_note 75 = .ok (.iconst 1, 1) := zy_0 zK_4 (by decide +kernel)
theorem dX8_note_76 : decode cX8_note 76 = .ok (.iadd, 1) := zy_0 zK_96 (by decide +kernel)
theorem dX8_note_77 : decode cX8_note 77 = .ok (.putfield 176, 3) := zy_u2 (b1 := 0) (b2 := 176) zK_181 (by decide +kernel)
theorem dX8_note_80 : decode cX8_note 80 = .ok (.return_, 1) := zy_0 zK_177 (by decide +kernel)
theorem dX8_go_0 : decode cX8_go 0 = .ok (.aload_n 0, 1) := zy_0 zK_42 (by decide +kernel)
theorem dX8_go_1 : decode cX8_go 1 = .ok (.invokevirtual 160, 3) := zy_u2 (b1 := 0) (b2 := 160) zK_182 (by decide +kernel)
theorem dX8_go_4 : decode cX8_go 4 = .ok (.aload_n 0, 1) := zy_0 zK_42 (by decide +kernel)
theorem dX8_go_5 : decode cX8_go 5 = .ok (.aload_n 0, 1) := zy_0 zK_42 (by decide +kernel)
theorem dX8_go_6 : decode cX8_go 6 = .ok (.getfield 173, 3) := zy_u2 (b1 := 0) (b2 := 173) zK_180 (by decide +kernel)
theorem dX8_go_9 : decode cX8_go 9 = .ok (.iload_n 1, 1) := zy_0 zK_27 (by decide +kernel)
theorem dX8_go_10 : decode cX8_go 10 = .ok (.iconst 1, 1) := zy_0 zK_4 (by decide +kernel)
theorem dX8_go_11 : decode cX8_go 11 = .ok (.bipush 60, 2) := zy_s1 (b1 := 60) zK_16 (by decide +kernel) (by decide +kernel)
theorem dX8_go_13 : decode cX8_go 13 = .ok (.invokestatic 142, 3) := zy_u2 (b1 := 0) (b2 := 142) zK_184 (by decide +kernel)
theorem dX8_go_16 : decode cX8_go 16 = .ok (.invokevirtual 290, 3) := zy_u2 (b1 := 1) (b2 := 34) zK_182 (by decide +kernel)
theorem dX8_go_19 : decode cX8_go 19 = .ok (.istore_n 2, 1) := zy_0 zK_61 (by decide +kernel)
theorem dX8_go_20 : decode cX8_go 20 = .ok (.iload_n 2, 1) := zy_0 zK_28 (by decide +kernel)
theorem dX8_go_21 : decode cX8_go 21 = .ok (.ifCond .ne 20, 3) := zy_s2 (b1 := 0) (b2 := 20) zK_154 (by decide +kernel) (by decide +kernel)
theorem dX8_go_24 : decode cX8_go 24 = .ok (.aload_n 0, 1) := zy_0 zK_42 (by decide +kernel)
theorem dX8_go_25 : decode cX8_go 25 = .ok (.getfield 26, 3) := zy_u2 (b1 := 0) (b2 := 26) zK_180 (by decide +kernel)
theorem dX8_go_28 : decode cX8_go 28 = .ok (.bipush 21, 2) := zy_s1 (b1 := 21) zK_16 (by decide +kernel) (by decide +kernel)
theorem dX8_go_30 : decode cX8_go 30 = .ok (.iaload, 1) := zy_0 zK_46 (by decide +kernel)
theorem dX8_go_31 : decode cX8_go 31 = .ok (.iload_n 1, 1) := zy_0 zK_27 (by decide +kernel)
theorem dX8_go_32 : decode cX8_go 32 = .ok (.iadd, 1) := zy_0 zK_96 (by decide +kernel)
theorem dX8_go_33 : decode cX8_go 33 = .ok (.sipush 9999, 3) := zy_s2 (b1 := 39) (b2 := 15) zK_17 (by decide +kernel) (by decide +kernel)
theorem dX8_go_36 : decode cX8_go 36 = .ok (.if_icmp .le 5, 3) := zy_s2 (b1 := 0) (b2 := 5) zK_164 (by decide +kernel) (by decide +kernel)
theorem dX8_go_39 : decode cX8_go 39 = .ok (.iconst 3, 1) := zy_0 zK_6 (by decide +kernel)
theorem dX8_go_40 : decode cX8_go 40 = .ok (.istore_n 2, 1) := zy_0 zK_61 (by decide +kernel)
theorem dX8_go_41 : decode cX8_go 41 = .ok (.iload_n 2, 1) := zy_0 zK_28 (by decide +kernel)
theorem dX8_go_42 : decode cX8_go 42 = .ok (.ifCond .eq 9, 3) := zy_s2 (b1 := 0) (b2 := 9) zK_153 (by decide +kernel) (by decide +kernel)
theorem dX8_go_45 : decode cX8_go 45 = .ok (.aload_n 0, 1) := zy_0 zK_42 (by decide +kernel)
theorem dX8_go_46 : decode cX8_go 46 = .ok (.iload_n 2, 1) := zy_0 zK_28 (by decide +kernel)
theorem dX8_go_47 : decode cX8_go 47 = .ok (.invokevirtual 163, 3) := zy_u2 (b1 := 0) (b2 := 163) zK_182 (by decide +kernel)
theorem dX8_go_50 : decode cX8_go 50 = .ok (.ireturn, 1) := zy_0 zK_172 (by decide +kernel)
theorem dX8_go_51 : decode cX8_go 51 = .ok (.aload_n 0, 1) := zy_0 zK_42 (by decide +kernel)
theorem dX8_go_52 : decode cX8_go 52 = .ok (.invokevirtual 386, 3) := zy_u2 (b1 := 1) (b2 := 130) zK_182 (by decide +kernel)
theorem dX8_go_55 : decode cX8_go 55 = .ok (.aload_n 0, 1) := zy_0 zK_42 (by decide +kernel)
theorem dX8_go_56 : decode cX8_go 56 = .ok (.invokevirtual 267, 3) := zy_u2 (b1 := 1) (b2 := 11) zK_182 (by decide +kernel)
theorem dX8_go_59 : decode cX8_go 59 = .ok (.aload_n 0, 1) := zy_0 zK_42 (by decide +kernel)
theorem dX8_go_60 : decode cX8_go 60 = .ok (.getfield 26, 3) := zy_u2 (b1 := 0) (b2 := 26) zK_180 (by decide +kernel)
theorem dX8_go_63 : decode cX8_go 63 = .ok (.bipush 18, 2) := zy_s1 (b1 := 18) zK_16 (by decide +kernel) (by decide +kernel)
theorem dX8_go_65 : decode cX8_go 65 = .ok (.iaload, 1) := zy_0 zK_46 (by decide +kernel)
theorem dX8_go_66 : decode cX8_go 66 = .ok (.istore_n 3, 1) := zy_0 zK_62 (by decide +kernel)
theorem dX8_go_67 : decode cX8_go 67 = .ok (.iconst 0, 1) := zy_0 zK_3 (by decide +kernel)
theorem dX8_go_68 : decode cX8_go 68 = .ok (.istore 4, 2) := zy_u1 (b1 := 4) zK_54 (by decide +kernel)
theorem dX8_go_70 : decode cX8_go 70 = .ok (.iload 4, 2) := zy_u1 (b1 := 4) zK_21 (by decide +kernel)
theorem dX8_go_72 : decode cX8_go 72 = .ok (.iload_n 1, 1) := zy_0 zK_27 (by decide +kernel)
theorem dX8_go_73 : decode cX8_go 73 = .ok (.if_icmp .ge 17, 3) := zy_s2 (b1 := 0) (b2 := 17) zK_162 (by decide +kernel) (by decide +kernel)
theorem dX8_go_76 : decode cX8_go 76 = .ok (.aload_n 0, 1) := zy_0 zK_42 (by decide +kernel)
theorem dX8_go_77 : decode cX8_go 77 = .ok (.aload_n 0, 1) := zy_0 zK_42 (by decide +kernel)
theorem dX8_go_78 : decode cX8_go 78 = .ok (.getfield 26, 3) := zy_u2 (b1 := 0) (b2 := 26) zK_180 (by decide +kernel)
theorem dX8_go_81 : decode cX8_go 81 = .ok (.invokevirtual 273, 3) := zy_u2 (b1 := 1) (b2 := 17) zK_182 (by decide +kernel)
theorem dX8_go_84 : decode cX8_go 84 = .ok (.iinc 4 1, 3) := zy_ii (b1 := 4) (b2 := 1) zK_132 (by decide +kernel) (by decide +kernel)
theorem dX8_go_87 : decode cX8_go 87 = .ok (.goto (-17), 3) := zy_s2 (b1 := 255) (b2 := 239) zK_167 (by decide +kernel) (by decide +kernel)
theorem dX8_go_90 : decode cX8_go 90 = .ok (.aload_n 0, 1) := zy_0 zK_42 (by decide +kernel)
theorem dX8_go_91 : decode cX8_go 91 = .ok (.getfield 26, 3) := zy_u2 (b1 := 0) (b2 := 26) zK_180 (by decide +kernel)
theorem dX8_go_94 : decode cX8_go 94 = .ok (.bipush 18, 2) := zy_s1 (b1 := 18) zK_16 (by decide +kernel) (by decide +kernel)
theorem dX8_go_96 : decode cX8_go 96 = .ok (.iaload, 1) := zy_0 zK_46 (by decide +kernel)
theorem dX8_go_97 : decode cX8_go 97 = .ok (.iload_n 3, 1) := zy_0 zK_29 (by decide +kernel)
theorem dX8_go_98 : decode cX8_go 98 = .ok (.iconst (-1), 1) := zy_0 zK_2 (by decide +kernel)
theorem dX8_go_99 : decode cX8_go 99 = .ok (.ixor, 1) := zy_0 zK_130 (by decide +kernel)
theorem dX8_go_100 : decode cX8_go 100 = .ok (.iand, 1) := zy_0 zK_126 (by decide +kernel)
theorem dX8_go_101 : decode cX8_go 101 = .ok (.ireturn, 1) := zy_0 zK_172 (by decide +kernel)
theorem dX8_put_0 : decode cX8_put 0 = .ok (.aload_n 0, 1) := zy_0 zK_42 (by decide +kernel)
theorem dX8_put_1 : decode cX8_put 1 = .ok (.invokevirtual 160, 3) := zy_u2 (b1 := 0) (b2 := 160) zK_182 (by decide +kernel)
theorem dX8_put_4 : decode cX8_put 4 = .ok (.aload_n 0, 1) := zy_0 zK_42 (by decide +kernel)
theorem dX8_put_5 : decode cX8_put 5 = .ok (.iload_n 1, 1) := zy_0 zK_27 (by decide +kernel)
theorem dX8_put_6 : decode cX8_put 6 = .ok (.invokevirtual 277, 3) := zy_u2 (b1 := 1) (b2 := 21) zK_182 (by decide +kernel)
theorem dX8_put_9 : decode cX8_put 9 = .ok (.ifCond .ne 9, 3) := zy_s2 (b1 := 0) (b2 := 9) zK_154 (by decide +kernel) (by decide +kernel)
theorem dX8_put_12 : decode cX8_put 12 = .ok (.aload_n 0, 1) := zy_0 zK_42 (by decide +kernel)
theorem dX8_put_13 : decode cX8_put 13 = .ok (.iconst 1, 1) := zy_0 zK_4 (by decide +kernel)
theorem dX8_put_14 : decode cX8_put 14 = .ok (.invokevirtual 163, 3) := zy_u2 (b1 := 0) (b2 := 163) zK_182 (by decide +kernel)
theorem dX8_put_17 : decode cX8_put 17 = .ok (.ireturn, 1) := zy_0 zK_172 (by decide +kernel)
theorem dX8_put_18 : decode cX8_put 18 = .ok (.aload_n 0, 1) := zy_0 zK_42 (by decide +kernel)
theorem dX8_put_19 : decode cX8_put 19 = .ok (.getfield 26, 3) := zy_u2 (b1 := 0) (b2 := 26) zK_180 (by decide +kernel)
theorem dX8_put_22 : decode cX8_put 22 = .ok (.bipush 18, 2) := zy_s1 (b1 := 18) zK_16 (by decide +kernel) (by decide +kernel)
theorem dX8_put_24 : decode cX8_put 24 = .ok (.iaload, 1) := zy_0 zK_46 (by decide +kernel)
theorem dX8_put_25 : decode cX8_put 25 = .ok (.iload_n 1, 1) := zy_0 zK_27 (by decide +kernel)
theorem dX8_put_26 : decode cX8_put 26 = .ok (.invokestatic 238, 3) := zy_u2 (b1 := 0) (b2 := 238) zK_184 (by decide +kernel)
theorem dX8_put_29 : decode cX8_put 29 = .ok (.ifCond .ne 13, 3) := zy_s2 (b1 := 0) (b2 := 13) zK_154 (by decide +kernel) (by decide +kernel)
theorem dX8_put_32 : decode cX8_put 32 = .ok (.aload_n 0, 1) := zy_0 zK_42 (by decide +kernel)
theorem dX8_put_33 : decode cX8_put 33 = .ok (.getfield 26, 3) := zy_u2 (b1 := 0) (b2 := 26) zK_180 (by decide +kernel)
theorem dX8_put_36 : decode cX8_put 36 = .ok (.iload_n 1, 1) := zy_0 zK_27 (by decide +kernel)
theorem dX8_put_37 : decode cX8_put 37 = .ok (.iaload, 1) := zy_0 zK_46 (by decide +kernel)
theorem dX8_put_38 : decode cX8_put 38 = .ok (.iload_n 1, 1) := zy_0 zK_27 (by decide +kernel)
theorem dX8_put_39 : decode cX8_put 39 = .ok (.if_icmp .ne 9, 3) := zy_s2 (b1 := 0) (b2 := 9) zK_160 (by decide +kernel) (by decide +kernel)
theorem dX8_put_42 : decode cX8_put 42 = .ok (.aload_n 0, 1) := zy_0 zK_42 (by decide +kernel)
theorem dX8_put_43 : decode cX8_put 43 = .ok (.iconst 5, 1) := zy_0 zK_8 (by decide +kernel)
theorem dX8_put_44 : decode cX8_put 44 = .ok (.invokevirtual 163, 3) := zy_u2 (b1 := 0) (b2 := 163) zK_182 (by decide +kernel)
theorem dX8_put_47 : decode cX8_put 47 = .ok (.ireturn, 1) := zy_0 zK_172 (by decide +kernel)
theorem dX8_put_48 : decode cX8_put 48 = .ok (.aload_n 0, 1) := zy_0 zK_42 (by decide +kernel)
theorem dX8_put_49 : decode cX8_put 49 = .ok (.invokevirtual 386, 3) := zy_u2 (b1 := 1) (b2 := 130) zK_182 (by decide +kernel)
theorem dX8_put_52 : decode cX8_put 52 = .ok (.aload_n 0, 1) := zy_0 zK_42 (by decide +kernel)
theorem dX8_put_53 : decode cX8_put 53 = .ok (.getfield 26, 3) := zy_u2 (b1 := 0) (b2 := 26) zK_180 (by decide +kernel)
theorem dX8_put_56 : decode cX8_put 56 = .ok (.iload_n 1, 1) := zy_0 zK_27 (by decide +kernel)
theorem dX8_put_57 : decode cX8_put 57 = .ok (.iaload, 1) := zy_0 zK_46 (by decide +kernel)
theorem dX8_put_58 : decode cX8_put 58 = .ok (.istore_n 2, 1) := zy_0 zK_61 (by decide +kernel)
theorem dX8_put_59 : decode cX8_put 59 = .ok (.aload_n 0, 1) := zy_0 zK_42 (by decide +kernel)
theorem dX8_put_60 : decode cX8_put 60 = .ok (.getfield 26, 3) := zy_u2 (b1 := 0) (b2 := 26) zK_180 (by decide +kernel)
theorem dX8_put_63 : decode cX8_put 63 = .ok (.iload_n 1, 1) := zy_0 zK_27 (by decide +kernel)
theorem dX8_put_64 : decode cX8_put 64 = .ok (.iload_n 1, 1) := zy_0 zK_27 (by decide +kernel)
theorem dX8_put_65 : decode cX8_put 65 = .ok (.iastore, 1) := zy_0 zK_79 (by decide +kernel)
theorem dX8_put_66 : decode cX8_put 66 = .ok (.iload_n 2, 1) := zy_0 zK_28 (by decide +kernel)
theorem dX8_put_67 : decode cX8_put 67 = .ok (.ireturn, 1) := zy_0 zK_172 (by decide +kernel)
theorem dX8_wind_0 : decode cX8_wind 0 = .ok (.aload_n 0, 1) := zy_0 zK_42 (by decide +kernel)
theorem dX8_wind_1 : decode cX8_wind 1 = .ok (.invokevirtual 160, 3) := zy_u2 (b1 := 0) (b2 := 160) zK_182 (by decide +kernel)
theorem dX8_wind_4 : decode cX8_wind 4 = .ok (.aload_n 0, 1) := zy_0 zK_42 (by decide +kernel)
theorem dX8_wind_5 : decode cX8_wind 5 = .ok (.iload_n 1, 1) := zy_0 zK_27 (by decide +kernel)
theorem dX8_wind_6 : decode cX8_wind 6 = .ok (.invokevirtual 277, 3) := zy_u2 (b1 := 1) (b2 := 21) zK_182 (by decide +kernel)
theorem dX8_wind_9 : decode cX8_wind 9 = .ok (.ifCond .ne 9, 3) := zy_s2 (b1 := 0) (b2 := 9) zK_154 (by decide +kernel) (by decide +kernel)
theorem dX8_wind_12 : decode cX8_wind 12 = .ok (.aload_n 0, 1) := zy_0 zK_42 (by decide +kernel)
theorem dX8_wind_13 : decode cX8_wind 13 = .ok (.iconst 1, 1) := zy_0 zK_4 (by decide +kernel)
theorem dX8_wind_14 : decode cX8_wind 14 = .ok (.invokevirtual 163, 3) := zy_u2 (b1 := 0) (b2 := 163) zK_182 (by decide +kernel)
theorem dX8_wind_17 : decode cX8_wind 17 = .ok (.ireturn, 1) := zy_0 zK_172 (by decide +kernel)
theorem dX8_wind_18 : decode cX8_wind 18 = .ok (.aload_n 0, 1) := zy_0 zK_42 (by decide +kernel)
theorem dX8_wind_19 : decode cX8_wind 19 = .ok (.getfield 26, 3) := zy_u2 (b1 := 0) (b2 := 26) zK_180 (by decide +kernel)
theorem dX8_wind_22 : decode cX8_wind 22 = .ok (.bipush 19, 2) := zy_s1 (b1 := 19) zK_16 (by decide +kernel) (by decide +kernel)
theorem dX8_wind_24 : decode cX8_wind 24 = .ok (.iaload, 1) := zy_0 zK_46 (by decide +kernel)
theorem dX8_wind_25 : decode cX8_wind 25 = .ok (.iload_n 1, 1) := zy_0 zK_27 (by decide +kernel)
theorem dX8_wind_26 : decode cX8_wind 26 = .ok (.if_icmp .ne 19, 3) := zy_s2 (b1 := 0) (b2 := 19) zK_160 (by decide +kernel) (by decide +kernel)
theorem dX8_wind_29 : decode cX8_wind 29 = .ok (.aload_n 0, 1) := zy_0 zK_42 (by decide +kernel)
theorem dX8_wind_30 : decode cX8_wind 30 = .ok (.getfield 26, 3) := zy_u2 (b1 := 0) (b2 := 26) zK_180 (by decide +kernel)
theorem dX8_wind_33 : decode cX8_wind 33 = .ok (.bipush 20, 2) := zy_s1 (b1 := 20) zK_16 (by decide +kernel) (by decide +kernel)
theorem dX8_wind_35 : decode cX8_wind 35 = .ok (.iaload, 1) := zy_0 zK_46 (by decide +kernel)
theorem dX8_wind_36 : decode cX8_wind 36 = .ok (.ifCond .ne 9, 3) := zy_s2 (b1 := 0) (b2 := 9) zK_154 (by decide +kernel) (by decide +kernel)
theorem dX8_wind_39 : decode cX8_wind 39 = .ok (.aload_n 0, 1) := zy_0 zK_42 (by decide +kernel)
theorem dX8_wind_40 : decode cX8_wind 40 = .ok (.iconst 5, 1) := zy_0 zK_8 (by decide +kernel)
theorem dX8_wind_41 : decode cX8_wind 41 = .ok (.invokevirtual 163, 3) := zy_u2 (b1 := 0) (b2 := 163) zK_182 (by decide +kernel)
theorem dX8_wind_44 : decode cX8_wind 44 = .ok (.ireturn, 1) := zy_0 zK_172 (by decide +kernel)
theorem dX8_wind_45 : decode cX8_wind 45 = .ok (.aload_n 0, 1) := zy_0 zK_42 (by decide +kernel)
theorem dX8_wind_46 : decode cX8_wind 46 = .ok (.invokevirtual 386, 3) := zy_u2 (b1 := 1) (b2 := 130) zK_182 (by decide +kernel)
theorem dX8_wind_49 : decode cX8_wind 49 = .ok (.aload_n 0, 1) := zy_0 zK_42 (by decide +kernel)
theorem dX8_wind_50 : decode cX8_wind 50 = .ok (.getfield 26, 3) := zy_u2 (b1 := 0) (b2 := 26) zK_180 (by decide +kernel)
theorem dX8_wind_53 : decode cX8_wind 53 = .ok (.bipush 19, 2) := zy_s1 (b1 := 19) zK_16 (by decide +kernel) (by decide +kernel)
theorem dX8_wind_55 : decode cX8_wind 55 = .ok (.iaload, 1) := zy_0 zK_46 (by decide +kernel)
theorem dX8_wind_56 : decode cX8_wind 56 = .ok (.istore_n 2, 1) := zy_0 zK_61 (by decide +kernel)
theorem dX8_wind_57 : decode cX8_wind 57 = .ok (.aload_n 0, 1) := zy_0 zK_42 (by decide +kernel)
theorem dX8_wind_58 : decode cX8_wind 58 = .ok (.getfield 26, 3) := zy_u2 (b1 := 0) (b2 := 26) zK_180 (by decide +kernel)
theorem dX8_wind_61 : decode cX8_wind 61 = .ok (.bipush 19, 2) := zy_s1 (b1 := 19) zK_16 (by decide +kernel) (by decide +kernel)
theorem dX8_wind_63 : decode cX8_wind 63 = .ok (.iload_n 1, 1) := zy_0 zK_27 (by decide +kernel)
theorem dX8_wind_64 : decode cX8_wind 64 = .ok (.iastore, 1) := zy_0 zK_79 (by decide +kernel)
theorem dX8_wind_65 : decode cX8_wind 65 = .ok (.aload_n 0, 1) := zy_0 zK_42 (by decide +kernel)
theorem dX8_wind_66 : decode cX8_wind 66 = .ok (.getfield 26, 3) := zy_u2 (b1 := 0) (b2 := 26) zK_180 (by decide +kernel)
theorem dX8_wind_69 : decode cX8_wind 69 = .ok (.bipush 20, 2) := zy_s1 (b1 := 20) zK_16 (by decide +kernel) (by decide +kernel)
theorem dX8_wind_71 : decode cX8_wind 71 = .ok (.iconst 0, 1) := zy_0 zK_3 (by decide +kernel)
theorem dX8_wind_72 : decode cX8_wind 72 = .ok (.iastore, 1) := zy_0 zK_79 (by decide +kernel)
theorem dX8_wind_73 : decode cX8_wind 73 = .ok (.iload_n 2, 1) := zy_0 zK_28 (by decide +kernel)
theorem dX8_wind_74 : decode cX8_wind 74 = .ok (.ireturn, 1) := zy_0 zK_172 (by decide +kernel)
theorem dX8_undo_0 : decode cX8_undo 0 = .ok (.aload_n 0, 1) := zy_0 zK_42 (by decide +kernel)
theorem dX8_undo_1 : decode cX8_undo 1 = .ok (.invokevirtual 160, 3) := zy_u2 (b1 := 0) (b2 := 160) zK_182 (by decide +kernel)
theorem dX8_undo_4 : decode cX8_undo 4 = .ok (.aload_n 0, 1) := zy_0 zK_42 (by decide +kernel)
theorem dX8_undo_5 : decode cX8_undo 5 = .ok (.getfield 176, 3) := zy_u2 (b1 := 0) (b2 := 176) zK_180 (by decide +kernel)
theorem dX8_undo_8 : decode cX8_undo 8 = .ok (.ifCond .ne 10, 3) := zy_s2 (b1 := 0) (b2 := 10) zK_154 (by decide +kernel) (by decide +kernel)
theorem dX8_undo_11 : decode cX8_undo 11 = .ok (.aload_n 0, 1) := zy_0 zK_42 (by decide +kernel)
theorem dX8_undo_12 : decode cX8_undo 12 = .ok (.bipush 6, 2) := zy_s1 (b1 := 6) zK_16 (by decide +kernel) (by decide +kernel)
theorem dX8_undo_14 : decode cX8_undo 14 = .ok (.invokevirtual 389, 3) := zy_u2 (b1 := 1) (b2 := 133) zK_182 (by decide +kernel)
theorem dX8_undo_17 : decode cX8_undo 17 = .ok (.ireturn, 1) := zy_0 zK_172 (by decide +kernel)
theorem dX8_undo_18 : decode cX8_undo 18 = .ok (.aload_n 0, 1) := zy_0 zK_42 (by decide +kernel)
theorem dX8_undo_19 : decode cX8_undo 19 = .ok (.dup, 1) := zy_0 zK_89 (by decide +kernel)
theorem dX8_undo_20 : decode cX8_undo 20 = .ok (.getfield 176, 3) := zy_u2 (b1 := 0) (b2 := 176) zK_180 (by decide +kernel)
theorem dX8_undo_23 : decode cX8_undo 23 = .ok (.iconst 1, 1) := zy_0 zK_4 (by decide +kernel)
theorem dX8_undo_24 : decode cX8_undo 24 = .ok (.isub, 1) := zy_0 zK_100 (by decide +kernel)
theorem dX8_undo_25 : decode cX8_undo 25 = .ok (.putfield 176, 3) := zy_u2 (b1 := 0) (b2 := 176) zK_181 (by decide +kernel)
theorem dX8_undo_28 : decode cX8_undo 28 = .ok (.aload_n 0, 1) := zy_0 zK_42 (by decide +kernel)
theorem dX8_undo_29 : decode cX8_undo 29 = .ok (.getfield 32, 3) := zy_u2 (b1 := 0) (b2 := 32) zK_180 (by decide +kernel)
theorem dX8_undo_32 : decode cX8_undo 32 = .ok (.bipush 23, 2) := zy_s1 (b1 := 23) zK_16 (by decide +kernel) (by decide +kernel)
theorem dX8_undo_34 : decode cX8_undo 34 = .ok (.aload_n 0, 1) := zy_0 zK_42 (by decide +kernel)
theorem dX8_undo_35 : decode cX8_undo 35 = .ok (.getfield 176, 3) := zy_u2 (b1 := 0) (b2 := 176) zK_180 (by decide +kernel)
theorem dX8_undo_38 : decode cX8_undo 38 = .ok (.imul, 1) := zy_0 zK_104 (by decide +kernel)
theorem dX8_undo_39 : decode cX8_undo 39 = .ok (.aload_n 0, 1) := zy_0 zK_42 (by decide +kernel)
theorem dX8_undo_40 : decode cX8_undo 40 = .ok (.getfield 26, 3) := zy_u2 (b1 := 0) (b2 := 26) zK_180 (by decide +kernel)
theorem dX8_undo_43 : decode cX8_undo 43 = .ok (.iconst 0, 1) := zy_0 zK_3 (by decide +kernel)
theorem dX8_undo_44 : decode cX8_undo 44 = .ok (.bipush 23, 2) := zy_s1 (b1 := 23) zK_16 (by decide +kernel) (by decide +kernel)
theorem dX8_undo_46 : decode cX8_undo 46 = .ok (.invokestatic 169, 3) := zy_u2 (b1 := 0) (b2 := 169) zK_184 (by decide +kernel)
theorem dX8_undo_49 : decode cX8_undo 49 = .ok (.iconst 1, 1) := zy_0 zK_4 (by decide +kernel)
theorem dX8_undo_50 : decode cX8_undo 50 = .ok (.ireturn, 1) := zy_0 zK_172 (by decide +kernel)
theorem dX8_image_0 : decode cX8_image 0 = .ok (.aload_n 0, 1) := zy_0 zK_42 (by decide +kernel)
theorem dX8_image_1 : decode cX8_image 1 = .ok (.invokevirtual 160, 3) := zy_u2 (b1 := 0) (b2 := 160) zK_182 (by decide +kernel)
theorem dX8_image_4 : decode cX8_image 4 = .ok (.aload_n 0, 1) := zy_0 zK_42 (by decide +kernel)
theorem dX8_image_5 : decode cX8_image 5 = .ok (.getfield 173, 3) := zy_u2 (b1 := 0) (b2 := 173) zK_180 (by decide +kernel)
theorem dX8_image_8 : decode cX8_image 8 = .ok (.ifCond .ne 9, 3) := zy_s2 (b1 := 0) (b2 := 9) zK_154 (by decide +kernel) (by decide +kernel)
theorem dX8_image_11 : decode cX8_image 11 = .ok (.aload_n 0, 1) := zy_0 zK_42 (by decide +kernel)
theorem dX8_image_12 : decode cX8_image 12 = .ok (.iconst 1, 1) := zy_0 zK_4 (by decide +kernel)
theorem dX8_image_13 : decode cX8_image 13 = .ok (.invokevirtual 163, 3) := zy_u2 (b1 := 0) (b2 := 163) zK_182 (by decide +kernel)
theorem dX8_image_16 : decode cX8_image 16 = .ok (.ireturn, 1) := zy_0 zK_172 (by decide +kernel)
theorem dX8_image_17 : decode cX8_image 17 = .ok (.aload_n 0, 1) := zy_0 zK_42 (by decide +kernel)
theorem dX8_image_18 : decode cX8_image 18 = .ok (.getfield 179, 3) := zy_u2 (b1 := 0) (b2 := 179) zK_180 (by decide +kernel)
theorem dX8_image_21 : decode cX8_image 21 = .ok (.iconst 3, 1) := zy_0 zK_6 (by decide +kernel)
theorem dX8_image_22 : decode cX8_image 22 = .ok (.if_icmp .ne 9, 3) := zy_s2 (b1 := 0) (b2 := 9) zK_160 (by decide +kernel) (by decide +kernel)
theorem dX8_image_25 : decode cX8_image 25 = .ok (.aload_n 0, 1) := zy_0 zK_42 (by decide +kernel)
theorem dX8_image_26 : decode cX8_image 26 = .ok (.iconst 3, 1) := zy_0 zK_6 (by decide +kernel)
theorem dX8_image_27 : decode cX8_image 27 = .ok (.invokevirtual 163, 3) := zy_u2 (b1 := 0) (b2 := 163) zK_182 (by decide +kernel)
theorem dX8_image_30 : decode cX8_image 30 = .ok (.ireturn, 1) := zy_0 zK_172 (by decide +kernel)
theorem dX8_image_31 : decode cX8_image 31 = .ok (.aload_n 0, 1) := zy_0 zK_42 (by decide +kernel)
theorem dX8_image_32 : decode cX8_image 32 = .ok (.getfield 26, 3) := zy_u2 (b1 := 0) (b2 := 26) zK_180 (by decide +kernel)
theorem dX8_image_35 : decode cX8_image 35 = .ok (.iconst 0, 1) := zy_0 zK_3 (by decide +kernel)
theorem dX8_image_36 : decode cX8_image 36 = .ok (.aload_n 0, 1) := zy_0 zK_42 (by decide +kernel)
theorem dX8_image_37 : decode cX8_image 37 = .ok (.getfield 35, 3) := zy_u2 (b1 := 0) (b2 := 35) zK_180 (by decide +kernel)
theorem dX8_image_40 : decode cX8_image 40 = .ok (.bipush 23, 2) := zy_s1 (b1 := 23) zK_16 (by decide +kernel) (by decide +kernel)
theorem dX8_image_42 : decode cX8_image 42 = .ok (.aload_n 0, 1) := zy_0 zK_42 (by decide +kernel)
theorem dX8_image_43 : decode cX8_image 43 = .ok (.getfield 179, 3) := zy_u2 (b1 := 0) (b2 := 179) zK_180 (by decide +kernel)
theorem dX8_image_46 : decode cX8_image 46 = .ok (.imul, 1) := zy_0 zK_104 (by decide +kernel)
theorem dX8_image_47 : decode cX8_image 47 = .ok (.bipush 23, 2) := zy_s1 (b1 := 23) zK_16 (by decide +kernel) (by decide +kernel)
theorem dX8_image_49 : decode cX8_image 49 = .ok (.invokestatic 169, 3) := zy_u2 (b1 := 0) (b2 := 169) zK_184 (by decide +kernel)
theorem dX8_image_52 : decode cX8_image 52 = .ok (.aload_n 0, 1) := zy_0 zK_42 (by decide +kernel)
theorem dX8_image_53 : decode cX8_image 53 = .ok (.dup, 1) := zy_0 zK_89 (by decide +kernel)
theorem dX8_image_54 : decode cX8_image 54 = .ok (.getfield 179, 3) := zy_u2 (b1 := 0) (b2 := 179) zK_180 (by decide +kernel)
theorem dX8_image_57 : decode cX8_image 57 = .ok (.iconst 1, 1) := zy_0 zK_4 (by decide +kernel)
theorem dX8_image_58 : decode cX8_image 58 = .ok (.iadd, 1) := zy_0 zK_96 (by decide +kernel)
theorem dX8_image_59 : decode cX8_image 59 = .ok (.putfield 179, 3) := zy_u2 (b1 := 0) (b2 := 179) zK_181 (by decide +kernel)
theorem dX8_image_62 : decode cX8_image 62 = .ok (.aload_n 0, 1) := zy_0 zK_42 (by decide +kernel)
theorem dX8_image_63 : decode cX8_image 63 = .ok (.getfield 179, 3) := zy_u2 (b1 := 0) (b2 := 179) zK_180 (by decide +kernel)
theorem dX8_image_66 : decode cX8_image 66 = .ok (.iconst 1, 1) := zy_0 zK_4 (by decide +kernel)
theorem dX8_image_67 : decode cX8_image 67 = .ok (.isub, 1) := zy_0 zK_100 (by decide +kernel)
theorem dX8_image_68 : decode cX8_image 68 = .ok (.ireturn, 1) := zy_0 zK_172 (by decide +kernel)
theorem dX8_back_0 : decode cX8_back 0 = .ok (.aload_n 0, 1) := zy_0 zK_42 (by decide +kernel)
theorem dX8_back_1 : decode cX8_back 1 = .ok (.invokevirtual 160, 3) := zy_u2 (b1 := 0) (b2 := 160) zK_182 (by decide +kernel)
theorem dX8_back_4 : decode cX8_back 4 = .ok (.iload_n 1, 1) := zy_0 zK_27 (by decide +kernel)
theorem dX8_back_5 : decode cX8_back 5 = .ok (.iconst 0, 1) := zy_0 zK_3 (by decide +kernel)
theorem dX8_back_6 : decode cX8_back 6 = .ok (.aload_n 0, 1) := zy_0 zK_42 (by decide +kernel)
theorem dX8_back_7 : decode cX8_back 7 = .ok (.getfield 179, 3) := zy_u2 (b1 := 0) (b2 := 179) zK_180 (by decide +kernel)
theorem dX8_back_10 : decode cX8_back 10 = .ok (.iconst 1, 1) := zy_0 zK_4 (by decide +kernel)
theorem dX8_back_11 : decode cX8_back 11 = .ok (.isub, 1) := zy_0 zK_100 (by decide +kernel)
theorem dX8_back_12 : decode cX8_back 12 = .ok (.invokestatic 142, 3) := zy_u2 (b1 := 0) (b2 := 142) zK_184 (by decide +kernel)
theorem dX8_back_15 : decode cX8_back 15 = .ok (.ifCond .ne 9, 3) := zy_s2 (b1 := 0) (b2 := 9) zK_154 (by decide +kernel) (by decide +kernel)
theorem dX8_back_18 : decode cX8_back 18 = .ok (.aload_n 0, 1) := zy_0 zK_42 (by decide +kernel)
theorem dX8_back_19 : decode cX8_back 19 = .ok (.iconst 1, 1) := zy_0 zK_4 (by decide +kernel)
theorem dX8_back_20 : decode cX8_back 20 = .ok (.invokevirtual 389, 3) := zy_u2 (b1 := 1) (b2 := 133) zK_182 (by decide +kernel)
theorem dX8_back_23 : decode cX8_back 23 = .ok (.ireturn, 1) := zy_0 zK_172 (by decide +kernel)
theorem dX8_back_24 : decode cX8_back 24 = .ok (.aload_n 0, 1) := zy_0 zK_42 (by decide +kernel)
theorem dX8_back_25 : decode cX8_back 25 = .ok (.getfield 35, 3) := zy_u2 (b1 := 0) (b2 := 35) zK_180 (by decide +kernel)
theorem dX8_back_28 : decode cX8_back 28 = .ok (.bipush 23, 2) := zy_s1 (b1 := 23) zK_16 (by decide +kernel) (by decide +kernel)
theorem dX8_back_30 : decode cX8_back 30 = .ok (.iload_n 1, 1) := zy_0 zK_27 (by decide +kernel)
theorem dX8_back_31 : decode cX8_back 31 = .ok (.imul, 1) := zy_0 zK_104 (by decide +kernel)
theorem dX8_back_32 : decode cX8_back 32 = .ok (.aload_n 0, 1) := zy_0 zK_42 (by decide +kernel)
theorem dX8_back_33 : decode cX8_back 33 = .ok (.getfield 26, 3) := zy_u2 (b1 := 0) (b2 := 26) zK_180 (by decide +kernel)
theorem dX8_back_36 : decode cX8_back 36 = .ok (.iconst 0, 1) := zy_0 zK_3 (by decide +kernel)
theorem dX8_back_37 : decode cX8_back 37 = .ok (.bipush 23, 2) := zy_s1 (b1 := 23) zK_16 (by decide +kernel) (by decide +kernel)
theorem dX8_back_39 : decode cX8_back 39 = .ok (.invokestatic 169, 3) := zy_u2 (b1 := 0) (b2 := 169) zK_184 (by decide +kernel)
theorem dX8_back_42 : decode cX8_back 42 = .ok (.aload_n 0, 1) := zy_0 zK_42 (by decide +kernel)
theorem dX8_back_43 : decode cX8_back 43 = .ok (.iconst 0, 1) := zy_0 zK_3 (by decide +kernel)
theorem dX8_back_44 : decode cX8_back 44 = .ok (.putfield 176, 3) := zy_u2 (b1 := 0) (b2 := 176) zK_181 (by decide +kernel)
theorem dX8_back_47 : decode cX8_back 47 = .ok (.iconst 1, 1) := zy_0 zK_4 (by decide +kernel)
theorem dX8_back_48 : decode cX8_back 48 = .ok (.ireturn, 1) := zy_0 zK_172 (by decide +kernel)
theorem dX8_led_0 : decode cX8_led 0 = .ok (.iconst 0, 1) := zy_0 zK_3 (by decide +kernel)
theorem dX8_led_1 : decode cX8_led 1 = .ok (.istore_n 2, 1) := zy_0 zK_61 (by decide +kernel)
theorem dX8_led_2 : decode cX8_led 2 = .ok (.iconst 0, 1) := zy_0 zK_3 (by decide +kernel)
theorem dX8_led_3 : decode cX8_led 3 = .ok (.istore_n 3, 1) := zy_0 zK_62 (by decide +kernel)
theorem dX8_led_4 : decode cX8_led 4 = .ok (.aload_n 0, 1) := zy_0 zK_42 (by decide +kernel)
theorem dX8_led_5 : decode cX8_led 5 = .ok (.getfield 173, 3) := zy_u2 (b1 := 0) (b2 := 173) zK_180 (by decide +kernel)
theorem dX8_led_8 : decode cX8_led 8 = .ok (.ifCond .eq 47, 3) := zy_s2 (b1 := 0) (b2 := 47) zK_153 (by decide +kernel) (by decide +kernel)
theorem dX8_led_11 : decode cX8_led 11 = .ok (.iload_n 3, 1) := zy_0 zK_29 (by decide +kernel)
theorem dX8_led_12 : decode cX8_led 12 = .ok (.aload_n 0, 1) := zy_0 zK_42 (by decide +kernel)
theorem dX8_led_13 : decode cX8_led 13 = .ok (.getfield 20, 3) := zy_u2 (b1 := 0) (b2 := 20) zK_180 (by decide +kernel)
theorem dX8_led_16 : decode cX8_led 16 = .ok (.iconst 0, 1) := zy_0 zK_3 (by decide +kernel)
theorem dX8_led_17 : decode cX8_led 17 = .ok (.iaload, 1) := zy_0 zK_46 (by decide +kernel)
theorem dX8_led_18 : decode cX8_led 18 = .ok (.if_icmp .ge 37, 3) := zy_s2 (b1 := 0) (b2 := 37) zK_162 (by decide +kernel) (by decide +kernel)
theorem dX8_led_21 : decode cX8_led 21 = .ok (.aload_n 0, 1) := zy_0 zK_42 (by decide +kernel)
theorem dX8_led_22 : decode cX8_led 22 = .ok (.getfield 26, 3) := zy_u2 (b1 := 0) (b2 := 26) zK_180 (by decide +kernel)
theorem dX8_led_25 : decode cX8_led 25 = .ok (.iload_n 3, 1) := zy_0 zK_29 (by decide +kernel)
theorem dX8_led_26 : decode cX8_led 26 = .ok (.iaload, 1) := zy_0 zK_46 (by decide +kernel)
theorem dX8_led_27 : decode cX8_led 27 = .ok (.iload_n 3, 1) := zy_0 zK_29 (by decide +kernel)
theorem dX8_led_28 : decode cX8_led 28 = .ok (.if_icmp .ne 6, 3) := zy_s2 (b1 := 0) (b2 := 6) zK_160 (by decide +kernel) (by decide +kernel)
theorem dX8_led_31 : decode cX8_led 31 = .ok (.goto 18, 3) := zy_s2 (b1 := 0) (b2 := 18) zK_167 (by decide +kernel) (by decide +kernel)
theorem dX8_led_34 : decode cX8_led 34 = .ok (.iload_n 2, 1) := zy_0 zK_28 (by decide +kernel)
theorem dX8_led_35 : decode cX8_led 35 = .ok (.iload_n 1, 1) := zy_0 zK_27 (by decide +kernel)
theorem dX8_led_36 : decode cX8_led 36 = .ok (.if_icmp .ne 10, 3) := zy_s2 (b1 := 0) (b2 := 10) zK_160 (by decide +kernel) (by decide +kernel)
theorem dX8_led_39 : decode cX8_led 39 = .ok (.aload_n 0, 1) := zy_0 zK_42 (by decide +kernel)
theorem dX8_led_40 : decode cX8_led 40 = .ok (.iconst 0, 1) := zy_0 zK_3 (by decide +kernel)
theorem dX8_led_41 : decode cX8_led 41 = .ok (.putfield 59, 3) := zy_u2 (b1 := 0) (b2 := 59) zK_181 (by decide +kernel)
theorem dX8_led_44 : decode cX8_led 44 = .ok (.iload_n 3, 1) := zy_0 zK_29 (by decide +kernel)
theorem dX8_led_45 : decode cX8_led 45 = .ok (.ireturn, 1) := zy_0 zK_172 (by decide +kernel)
theorem dX8_led_46 : decode cX8_led 46 = .ok (.iinc 2 1, 3) := zy_ii (b1 := 2) (b2 := 1) zK_132 (by decide +kernel) (by decide +kernel)
theorem dX8_led_49 : decode cX8_led 49 = .ok (.iinc 3 1, 3) := zy_ii (b1 := 3) (b2 := 1) zK_132 (by decide +kernel) (by decide +kernel)
theorem dX8_led_52 : decode cX8_led 52 = .ok (.goto (-48), 3) := zy_s2 (b1 := 255) (b2 := 208) zK_167 (by decide +kernel) (by decide +kernel)
theorem dX8_led_55 : decode cX8_led 55 = .ok (.aload_n 0, 1) := zy_0 zK_42 (by decide +kernel)
theorem dX8_led_56 : decode cX8_led 56 = .ok (.iconst 1, 1) := zy_0 zK_4 (by decide +kernel)
theorem dX8_led_57 : decode cX8_led 57 = .ok (.putfield 59, 3) := zy_u2 (b1 := 0) (b2 := 59) zK_181 (by decide +kernel)
theorem dX8_led_60 : decode cX8_led 60 = .ok (.iconst 0, 1) := zy_0 zK_3 (by decide +kernel)
theorem dX8_led_61 : decode cX8_led 61 = .ok (.ireturn, 1) := zy_0 zK_172 (by decide +kernel)
theorem dX8_size_0 : decode cX8_size 0 = .ok (.aload_n 0, 1) := zy_0 zK_42 (by decide +kernel)
theorem dX8_size_1 : decode cX8_size 1 = .ok (.iconst 0, 1) := zy_0 zK_3 (by decide +kernel)
theorem dX8_size_2 : decode cX8_size 2 = .ok (.putfield 59, 3) := zy_u2 (b1 := 0) (b2 := 59) zK_181 (by decide +kernel)
theorem dX8_size_5 : decode cX8_size 5 = .ok (.iload_n 1, 1) := zy_0 zK_27 (by decide +kernel)
theorem dX8_size_6 : decode cX8_size 6 = .ok (.bipush 13, 2) := zy_s1 (b1 := 13) zK_16 (by decide +kernel) (by decide +kernel)
theorem dX8_size_8 : decode cX8_size 8 = .ok (.if_icmp .ne 8, 3) := zy_s2 (b1 := 0) (b2 := 8) zK_160 (by decide +kernel) (by decide +kernel)
theorem dX8_size_11 : decode cX8_size 11 = .ok (.aload_n 0, 1) := zy_0 zK_42 (by decide +kernel)
theorem dX8_size_12 : decode cX8_size 12 = .ok (.getfield 65, 3) := zy_u2 (b1 := 0) (b2 := 65) zK_180 (by decide +kernel)
theorem dX8_size_15 : decode cX8_size 15 = .ok (.ireturn, 1) := zy_0 zK_172 (by decide +kernel)
theorem dX8_size_16 : decode cX8_size 16 = .ok (.aload_n 0, 1) := zy_0 zK_42 (by decide +kernel)
theorem dX8_size_17 : decode cX8_size 17 = .ok (.getfield 173, 3) := zy_u2 (b1 := 0) (b2 := 173) zK_180 (by decide +kernel)
theorem dX8_size_20 : decode cX8_size 20 = .ok (.ifCond .ne 19, 3) := zy_s2 (b1 := 0) (b2 := 19) zK_154 (by decide +kernel) (by decide +kernel)
theorem dX8_size_23 : decode cX8_size 23 = .ok (.iload_n 1, 1) := zy_0 zK_27 (by decide +kernel)
theorem dX8_size_24 : decode cX8_size 24 = .ok (.iconst 0, 1) := zy_0 zK_3 (by decide +kernel)
theorem dX8_size_25 : decode cX8_size 25 = .ok (.bipush 12, 2) := zy_s1 (b1 := 12) zK_16 (by decide +kernel) (by decide +kernel)
theorem dX8_size_27 : decode cX8_size 27 = .ok (.invokestatic 142, 3) := zy_u2 (b1 := 0) (b2 := 142) zK_184 (by decide +kernel)
theorem dX8_size_30 : decode cX8_size 30 = .ok (.ifCond .eq 7, 3) := zy_s2 (b1 := 0) (b2 := 7) zK_153 (by decide +kernel) (by decide +kernel)
theorem dX8_size_33 : decode cX8_size 33 = .ok (.iconst 0, 1) := zy_0 zK_3 (by decide +kernel)
theorem dX8_size_34 : decode cX8_size 34 = .ok (.goto 4, 3) := zy_s2 (b1 := 0) (b2 := 4) zK_167 (by decide +kernel) (by decide +kernel)
theorem dX8_size_37 : decode cX8_size 37 = .ok (.iconst (-1), 1) := zy_0 zK_2 (by decide +kernel)
theorem dX8_size_38 : decode cX8_size 38 = .ok (.ireturn, 1) := zy_0 zK_172 (by decide +kernel)
theorem dX8_size_39 : decode cX8_size 39 = .ok (.iload_n 1, 1) := zy_0 zK_27 (by decide +kernel)
theorem dX8_size_40 : decode cX8_size 40 = .ok (.iconst 0, 1) := zy_0 zK_3 (by decide +kernel)
theorem dX8_size_41 : decode cX8_size 41 = .ok (.bipush 9, 2) := zy_s1 (b1 := 9) zK_16 (by decide +kernel) (by decide +kernel)
theorem dX8_size_43 : decode cX8_size 43 = .ok (.invokestatic 142, 3) := zy_u2 (b1 := 0) (b2 := 142) zK_184 (by decide +kernel)
theorem dX8_size_46 : decode cX8_size 46 = .ok (.ifCond .eq 10, 3) := zy_s2 (b1 := 0) (b2 := 10) zK_153 (by decide +kernel) (by decide +kernel)
theorem dX8_size_49 : decode cX8_size 49 = .ok (.aload_n 0, 1) := zy_0 zK_42 (by decide +kernel)
theorem dX8_size_50 : decode cX8_size 50 = .ok (.getfield 20, 3) := zy_u2 (b1 := 0) (b2 := 20) zK_180 (by decide +kernel)
theorem dX8_size_53 : decode cX8_size 53 = .ok (.iload_n 1, 1) := zy_0 zK_27 (by decide +kernel)
theorem dX8_size_54 : decode cX8_size 54 = .ok (.iaload, 1) := zy_0 zK_46 (by decide +kernel)
theorem dX8_size_55 : decode cX8_size 55 = .ok (.ireturn, 1) := zy_0 zK_172 (by decide +kernel)
theorem dX8_size_56 : decode cX8_size 56 = .ok (.iload_n 1, 1) := zy_0 zK_27 (by decide +kernel)
theorem dX8_size_57 : decode cX8_size 57 = .ok (.bipush 10, 2) := zy_s1 (b1 := 10) zK_16 (by decide +kernel) (by decide +kernel)
theorem dX8_size_59 : decode cX8_size 59 = .ok (.if_icmp .ne 13, 3) := zy_s2 (b1 := 0) (b2 := 13) zK_160 (by decide +kernel) (by decide +kernel)
theorem dX8_size_62 : decode cX8_size 62 = .ok (.aload_n 0, 1) := zy_0 zK_42 (by decide +kernel)
theorem dX8_size_63 : decode cX8_size 63 = .ok (.getfield 26, 3) := zy_u2 (b1 := 0) (b2 := 26) zK_180 (by decide +kernel)
theorem dX8_size_66 : decode cX8_size 66 = .ok (.bipush 21, 2) := zy_s1 (b1 := 21) zK_16 (by decide +kernel) (by decide +kernel)
theorem dX8_size_68 : decode cX8_size 68 = .ok (.iaload, 1) := zy_0 zK_46 (by decide +kernel)
theorem dX8_size_69 : decode cX8_size 69 = .ok (.goto 30, 3) := zy_s2 (b1 := 0) (b2 := 30) zK_167 (by decide +kernel) (by decide +kernel)
theorem dX8_size_72 : decode cX8_size 72 = .ok (.iload_n 1, 1) := zy_0 zK_27 (by decide +kernel)
theorem dX8_size_73 : decode cX8_size 73 = .ok (.bipush 11, 2) := zy_s1 (b1 := 11) zK_16 (by decide +kernel) (by decide +kernel)
theorem dX8_size_75 : decode cX8_size 75 = .ok (.if_icmp .ne 10, 3) := zy_s2 (b1 := 0) (b2 := 10) zK_160 (by decide +kernel) (by decide +kernel)
theorem dX8_size_78 : decode cX8_size 78 = .ok (.aload_n 0, 1) := zy_0 zK_42 (by decide +kernel)
theorem dX8_size_79 : decode cX8_size 79 = .ok (.getfield 176, 3) := zy_u2 (b1 := 0) (b2 := 176) zK_180 (by decide +kernel)
theorem dX8_size_82 : decode cX8_size 82 = .ok (.goto 17, 3) := zy_s2 (b1 := 0) (b2 := 17) zK_167 (by decide +kernel) (by decide +kernel)
theorem dX8_size_85 : decode cX8_size 85 = .ok (.iload_n 1, 1) := zy_0 zK_27 (by decide +kernel)
theorem dX8_size_86 : decode cX8_size 86 = .ok (.bipush 12, 2) := zy_s1 (b1 := 12) zK_16 (by decide +kernel) (by decide +kernel)
theorem dX8_size_88 : decode cX8_size 88 = .ok (.if_icmp .ne 10, 3) := zy_s2 (b1 := 0) (b2 := 10) zK_160 (by decide +kernel) (by decide +kernel)
theorem dX8_size_91 : decode cX8_size 91 = .ok (.aload_n 0, 1) := zy_0 zK_42 (by decide +kernel)
theorem dX8_size_92 : decode cX8_size 92 = .ok (.getfield 179, 3) := zy_u2 (b1 := 0) (b2 := 179) zK_180 (by decide +kernel)
theorem dX8_size_95 : decode cX8_size 95 = .ok (.goto 4, 3) := zy_s2 (b1 := 0) (b2 := 4) zK_167 (by decide +kernel) (by decide +kernel)
theorem dX8_size_98 : decode cX8_size 98 = .ok (.iconst (-1), 1) := zy_0 zK_2 (by decide +kernel)
theorem dX8_size_99 : decode cX8_size 99 = .ok (.ireturn, 1) := zy_0 zK_172 (by decide +kernel)
theorem dX8_trouble_0 : decode cX8_trouble 0 = .ok (.aload_n 0, 1) := zy_0 zK_42 (by decide +kernel)
theorem dX8_trouble_1 : decode cX8_trouble 1 = .ok (.iconst 0, 1) := zy_0 zK_3 (by decide +kernel)
theorem dX8_trouble_2 : decode cX8_trouble 2 = .ok (.putfield 59, 3) := zy_u2 (b1 := 0) (b2 := 59) zK_181 (by decide +kernel)
theorem dX8_trouble_5 : decode cX8_trouble 5 = .ok (.aload_n 0, 1) := zy_0 zK_42 (by decide +kernel)
theorem dX8_trouble_6 : decode cX8_trouble 6 = .ok (.getfield 62, 3) := zy_u2 (b1 := 0) (b2 := 62) zK_180 (by decide +kernel)
theorem dX8_trouble_9 : decode cX8_trouble 9 = .ok (.ireturn, 1) := zy_0 zK_172 (by decide +kernel)
theorem dJ6_bitCount_0f7a4_0 : decode cJ6_bitCount_0f7a4 0 = .ok (.iload_n 0, 1) := zy_0 zK_26 (by decide +kernel)
theorem dJ6_bitCount_0f7a4_1 : decode cJ6_bitCount_0f7a4 1 = .ok (.iload_n 0, 1) := zy_0 zK_26 (by decide +kernel)
theorem dJ6_bitCount_0f7a4_2 : decode cJ6_bitCount_0f7a4 2 = .ok (.iconst 1, 1) := zy_0 zK_4 (by decide +kernel)
theorem dJ6_bitCount_0f7a4_3 : decode cJ6_bitCount_0f7a4 3 = .ok (.iushr, 1) := zy_0 zK_124 (by decide +kernel)
theorem dJ6_bitCount_0f7a4_4 : decode cJ6_bitCount_0f7a4 4 = .ok (.ldc_w 265, 3) := zy_u2 (b1 := 1) (b2 := 9) zK_19 (by decide +kernel)
theorem dJ6_bitCount_0f7a4_7 : decode cJ6_bitCount_0f7a4 7 = .ok (.iand, 1) := zy_0 zK_126 (by decide +kernel)
theorem dJ6_bitCount_0f7a4_8 : decode cJ6_bitCount_0f7a4 8 = .ok (.isub, 1) := zy_0 zK_100 (by decide +kernel)
theorem dJ6_bitCount_0f7a4_9 : decode cJ6_bitCount_0f7a4 9 = .ok (.istore_n 0, 1) := zy_0 zK_59 (by decide +kernel)
theorem dJ6_bitCount_0f7a4_10 : decode cJ6_bitCount_0f7a4 10 = .ok (.iload_n 0, 1) := zy_0 zK_26 (by decide +kernel)
theorem dJ6_bitCount_0f7a4_11 : decode cJ6_bitCount_0f7a4 11 = .ok (.ldc_w 266, 3) := zy_u2 (b1 := 1) (b2 := 10) zK_19 (by decide +kernel)
theorem dJ6_bitCount_0f7a4_14 : decode cJ6_bitCount_0f7a4 14 = .ok (.iand, 1) := zy_0 zK_126 (by decide +kernel)
theorem dJ6_bitCount_0f7a4_15 : decode cJ6_bitCount_0f7a4 15 = .ok (.iload_n 0, 1) := zy_0 zK_26 (by decide +kernel)
theorem dJ6_bitCount_0f7a4_16 : decode cJ6_bitCount_0f7a4 16 = .ok (.iconst 2, 1) := zy_0 zK_5 (by decide +kernel)
theorem dJ6_bitCount_0f7a4_17 : decode cJ6_bitCount_0f7a4 17 = .ok (.iushr, 1) := zy_0 zK_124 (by decide +kernel)
theorem dJ6_bitCount_0f7a4_18 : decode cJ6_bitCount_0f7a4 18 = .ok (.ldc_w 266, 3) := zy_u2 (b1 := 1) (b2 := 10) zK_19 (by decide +kernel)
theorem dJ6_bitCount_0f7a4_21 : decode cJ6_bitCount_0f7a4 21 = .ok (.iand, 1) := zy_0 zK_126 (by decide +kernel)
theorem dJ6_bitCount_0f7a4_22 : decode cJ6_bitCount_0f7a4 22 = .ok (.iadd, 1) := zy_0 zK_96 (by decide +kernel)
theorem dJ6_bitCount_0f7a4_23 : decode cJ6_bitCount_0f7a4 23 = .ok (.istore_n 0, 1) := zy_0 zK_59 (by decide +kernel)
theorem dJ6_bitCount_0f7a4_24 : decode cJ6_bitCount_0f7a4 24 = .ok (.iload_n 0, 1) := zy_0 zK_26 (by decide +kernel)
theorem dJ6_bitCount_0f7a4_25 : decode cJ6_bitCount_0f7a4 25 = .ok (.iload_n 0, 1) := zy_0 zK_26 (by decide +kernel)
theorem dJ6_bitCount_0f7a4_26 : decode cJ6_bitCount_0f7a4 26 = .ok (.iconst 4, 1) := zy_0 zK_7 (by decide +kernel)
theorem dJ6_bitCount_0f7a4_27 : decode cJ6_bitCount_0f7a4 27 = .ok (.iushr, 1) := zy_0 zK_124 (by decide +kernel)
theorem dJ6_bitCount_0f7a4_28 : decode cJ6_bitCount_0f7a4 28 = .ok (.iadd, 1) := zy_0 zK_96 (by decide +kernel)
theorem dJ6_bitCount_0f7a4_29 : decode cJ6_bitCount_0f7a4 29 = .ok (.ldc_w 267, 3) := zy_u2 (b1 := 1) (b2 := 11) zK_19 (by decide +kernel)
theorem dJ6_bitCount_0f7a4_32 : decode cJ6_bitCount_0f7a4 32 = .ok (.iand, 1) := zy_0 zK_126 (by decide +kernel)
theorem dJ6_bitCount_0f7a4_33 : decode cJ6_bitCount_0f7a4 33 = .ok (.istore_n 0, 1) := zy_0 zK_59 (by decide +kernel)
theorem dJ6_bitCount_0f7a4_34 : decode cJ6_bitCount_0f7a4 34 = .ok (.iload_n 0, 1) := zy_0 zK_26 (by decide +kernel)
theorem dJ6_bitCount_0f7a4_35 : decode cJ6_bitCount_0f7a4 35 = .ok (.iload_n 0, 1) := zy_0 zK_26 (by decide +kernel)
theorem dJ6_bitCount_0f7a4_36 : decode cJ6_bitCount_0f7a4 36 = .ok (.bipush 8, 2) := zy_s1 (b1 := 8) zK_16 (by decide +kernel) (by decide +kernel)
theorem dJ6_bitCount_0f7a4_38 : decode cJ6_bitCount_0f7a4 38 = .ok (.iushr, 1) := zy_0 zK_124 (by decide +kernel)
theorem dJ6_bitCount_0f7a4_39 : decode cJ6_bitCount_0f7a4 39 = .ok (.iadd, 1) := zy_0 zK_96 (by decide +kernel)
theorem dJ6_bitCount_0f7a4_40 : decode cJ6_bitCount_0f7a4 40 = .ok (.istore_n 0, 1) := zy_0 zK_59 (by decide +kernel)
theorem dJ6_bitCount_0f7a4_41 : decode cJ6_bitCount_0f7a4 41 = .ok (.iload_n 0, 1) := zy_0 zK_26 (by decide +kernel)
theorem dJ6_bitCount_0f7a4_42 : decode cJ6_bitCount_0f7a4 42 = .ok (.iload_n 0, 1) := zy_0 zK_26 (by decide +kernel)
theorem dJ6_bitCount_0f7a4_43 : decode cJ6_bitCount_0f7a4 43 = .ok (.bipush 16, 2) := zy_s1 (b1 := 16) zK_16 (by decide +kernel) (by decide +kernel)
theorem dJ6_bitCount_0f7a4_45 : decode cJ6_bitCount_0f7a4 45 = .ok (.iushr, 1) := zy_0 zK_124 (by decide +kernel)
theorem dJ6_bitCount_0f7a4_46 : decode cJ6_bitCount_0f7a4 46 = .ok (.iadd, 1) := zy_0 zK_96 (by decide +kernel)
theorem dJ6_bitCount_0f7a4_47 : decode cJ6_bitCount_0f7a4 47 = .ok (.istore_n 0, 1) := zy_0 zK_59 (by decide +kernel)
theorem dJ6_bitCount_0f7a4_48 : decode cJ6_bitCount_0f7a4 48 = .ok (.iload_n 0, 1) := zy_0 zK_26 (by decide +kernel)
theorem dJ6_bitCount_0f7a4_49 : decode cJ6_bitCount_0f7a4 49 = .ok (.bipush 63, 2) := zy_s1 (b1 := 63) zK_16 (by decide +kernel) (by decide +kernel)
theorem dJ6_bitCount_0f7a4_51 : decode cJ6_bitCount_0f7a4 51 = .ok (.iand, 1) := zy_0 zK_126 (by decide +kernel)
theorem dJ6_bitCount_0f7a4_52 : decode cJ6_bitCount_0f7a4 52 = .ok (.ireturn, 1) := zy_0 zK_172 (by decide +kernel)
theorem dJ0_length_8abf5_0 : decode cJ0_length_8abf5 0 = .ok (.aload_n 0, 1) := zy_0 zK_42 (by decide +kernel)
theorem dJ0_length_8abf5_1 : decode cJ0_length_8abf5 1 = .ok (.getfield 9, 3) := zy_u2 (b1 := 0) (b2 := 9) zK_180 (by decide +kernel)
theorem dJ0_length_8abf5_4 : decode cJ0_length_8abf5 4 = .ok (.arraylength, 1) := zy_0 zK_190 (by decide +kernel)
theorem dJ0_length_8abf5_5 : decode cJ0_length_8abf5 5 = .ok (.aload_n 0, 1) := zy_0 zK_42 (by decide +kernel)
theorem dJ0_length_8abf5_6 : decode cJ0_length_8abf5 6 = .ok (.invokevirtual 335, 3) := zy_u2 (b1 := 1) (b2 := 79) zK_182 (by decide +kernel)
theorem dJ0_length_8abf5_9 : decode cJ0_length_8abf5 9 = .ok (.ishr, 1) := zy_0 zK_122 (by decide +kernel)
theorem dJ0_length_8abf5_10 : decode cJ0_length_8abf5 10 = .ok (.ireturn, 1) := zy_0 zK_172 (by decide +kernel)
theorem dJ0_charAt_5068e_0 : decode cJ0_charAt_5068e 0 = .ok (.aload_n 0, 1) := zy_0 zK_42 (by decide +kernel)
theorem dJ0_charAt_5068e_1 : decode cJ0_charAt_5068e 1 = .ok (.invokevirtual 492, 3) := zy_u2 (b1 := 1) (b2 := 236) zK_182 (by decide +kernel)
theorem dJ0_charAt_5068e_4 : decode cJ0_charAt_5068e 4 = .ok (.ifCond .eq 12, 3) := zy_s2 (b1 := 0) (b2 := 12) zK_153 (by decide +kernel) (by decide +kernel)
theorem dJ0_charAt_5068e_7 : decode cJ0_charAt_5068e 7 = .ok (.aload_n 0, 1) := zy_0 zK_42 (by decide +kernel)
theorem dJ0_charAt_5068e_8 : decode cJ0_charAt_5068e 8 = .ok (.getfield 9, 3) := zy_u2 (b1 := 0) (b2 := 9) zK_180 (by decide +kernel)
theorem dJ0_charAt_5068e_11 : decode cJ0_charAt_5068e 11 = .ok (.iload_n 1, 1) := zy_0 zK_27 (by decide +kernel)
theorem dJ0_charAt_5068e_12 : decode cJ0_charAt_5068e 12 = .ok (.invokestatic 495, 3) := zy_u2 (b1 := 1) (b2 := 239) zK_184 (by decide +kernel)
theorem dJ0_charAt_5068e_15 : decode cJ0_charAt_5068e 15 = .ok (.ireturn, 1) := zy_0 zK_172 (by decide +kernel)
theorem dJ0_coder_7d493_0 : decode cJ0_coder_7d493 0 = .ok (.getstatic 38, 3) := zy_u2 (b1 := 0) (b2 := 38) zK_178 (by decide +kernel)
theorem dJ0_coder_7d493_3 : decode cJ0_coder_7d493 3 = .ok (.ifCond .eq 10, 3) := zy_s2 (b1 := 0) (b2 := 10) zK_153 (by decide +kernel) (by decide +kernel)
theorem dJ0_coder_7d493_6 : decode cJ0_coder_7d493 6 = .ok (.aload_n 0, 1) := zy_0 zK_42 (by decide +kernel)
theorem dJ0_coder_7d493_7 : decode cJ0_coder_7d493 7 = .ok (.getfield 15, 3) := zy_u2 (b1 := 0) (b2 := 15) zK_180 (by decide +kernel)
theorem dJ0_coder_7d493_10 : decode cJ0_coder_7d493 10 = .ok (.goto 4, 3) := zy_s2 (b1 := 0) (b2 := 4) zK_167 (by decide +kernel) (by decide +kernel)
theorem dJ0_coder_7d493_14 : decode cJ0_coder_7d493 14 = .ok (.ireturn, 1) := zy_0 zK_172 (by decide +kernel)
theorem dJ0_isLatin1_aae02_0 : decode cJ0_isLatin1_aae02 0 = .ok (.getstatic 38, 3) := zy_u2 (b1 := 0) (b2 := 38) zK_178 (by decide +kernel)
theorem dJ0_isLatin1_aae02_3 : decode cJ0_isLatin1_aae02 3 = .ok (.ifCond .eq 14, 3) := zy_s2 (b1 := 0) (b2 := 14) zK_153 (by decide +kernel) (by decide +kernel)
theorem dJ0_isLatin1_aae02_6 : decode cJ0_isLatin1_aae02 6 = .ok (.aload_n 0, 1) := zy_0 zK_42 (by decide +kernel)
theorem dJ0_isLatin1_aae02_7 : decode cJ0_isLatin1_aae02 7 = .ok (.getfield 15, 3) := zy_u2 (b1 := 0) (b2 := 15) zK_180 (by decide +kernel)
theorem dJ0_isLatin1_aae02_10 : decode cJ0_isLatin1_aae02 10 = .ok (.ifCond .ne 7, 3) := zy_s2 (b1 := 0) (b2 := 7) zK_154 (by decide +kernel) (by decide +kernel)
theorem dJ0_isLatin1_aae02_13 : decode cJ0_isLatin1_aae02 13 = .ok (.iconst 1, 1) := zy_0 zK_4 (by decide +kernel)
theorem dJ0_isLatin1_aae02_14 : decode cJ0_isLatin1_aae02 14 = .ok (.goto 4, 3) := zy_s2 (b1 := 0) (b2 := 4) zK_167 (by decide +kernel) (by decide +kernel)
theorem dJ0_isLatin1_aae02_18 : decode cJ0_isLatin1_aae02 18 = .ok (.ireturn, 1) := zy_0 zK_172 (by decide +kernel)
theorem dJ0_checkIndex_df160_0 : decode cJ0_checkIndex_df160 0 = .ok (.iload_n 0, 1) := zy_0 zK_26 (by decide +kernel)
theorem dJ0_checkIndex_df160_1 : decode cJ0_checkIndex_df160 1 = .ok (.iload_n 1, 1) := zy_0 zK_27 (by decide +kernel)
theorem dJ0_checkIndex_df160_2 : decode cJ0_checkIndex_df160 2 = .ok (.getstatic 1053, 3) := zy_u2 (b1 := 4) (b2 := 29) zK_178 (by decide +kernel)
theorem dJ0_checkIndex_df160_5 : decode cJ0_checkIndex_df160 5 = .ok (.invokestatic 1059, 3) := zy_u2 (b1 := 4) (b2 := 35) zK_184 (by decide +kernel)
theorem dJ0_checkIndex_df160_8 : decode cJ0_checkIndex_df160 8 = .ok (.pop, 1) := zy_0 zK_87 (by decide +kernel)
theorem dJ0_checkIndex_df160_9 : decode cJ0_checkIndex_df160 9 = .ok (.return_, 1) := zy_0 zK_177 (by decide +kernel)
theorem dJ1_charAt_3b067_0 : decode cJ1_charAt_3b067 0 = .ok (.iload_n 1, 1) := zy_0 zK_27 (by decide +kernel)
theorem dJ1_charAt_3b067_1 : decode cJ1_charAt_3b067 1 = .ok (.aload_n 0, 1) := zy_0 zK_42 (by decide +kernel)
theorem dJ1_charAt_3b067_2 : decode cJ1_charAt_3b067 2 = .ok (.arraylength, 1) := zy_0 zK_190 (by decide +kernel)
theorem dJ1_charAt_3b067_3 : decode cJ1_charAt_3b067 3 = .ok (.invokestatic 9, 3) := zy_u2 (b1 := 0) (b2 := 9) zK_184 (by decide +kernel)
theorem dJ1_charAt_3b067_6 : decode cJ1_charAt_3b067 6 = .ok (.aload_n 0, 1) := zy_0 zK_42 (by decide +kernel)
theorem dJ1_charAt_3b067_7 : decode cJ1_charAt_3b067 7 = .ok (.iload_n 1, 1) := zy_0 zK_27 (by decide +kernel)
theorem dJ1_charAt_3b067_8 : decode cJ1_charAt_3b067 8 = .ok (.baload, 1) := zy_0 zK_51 (by decide +kernel)
theorem dJ1_charAt_3b067_9 : decode cJ1_charAt_3b067 9 = .ok (.sipush 255, 3) := zy_s2 (b1 := 0) (b2 := 255) zK_17 (by decide +kernel) (by decide +kernel)
theorem dJ1_charAt_3b067_12 : decode cJ1_charAt_3b067 12 = .ok (.iand, 1) := zy_0 zK_126 (by decide +kernel)
theorem dJ1_charAt_3b067_13 : decode cJ1_charAt_3b067 13 = .ok (.i2c, 1) := zy_0 zK_146 (by decide +kernel)
theorem dJ1_charAt_3b067_14 : decode cJ1_charAt_3b067 14 = .ok (.ireturn, 1) := zy_0 zK_172 (by decide +kernel)
theorem dJ3_checkIndex_8e157_0 : decode cJ3_checkIndex_8e157 0 = .ok (.iload_n 0, 1) := zy_0 zK_26 (by decide +kernel)
theorem dJ3_checkIndex_8e157_1 : decode cJ3_checkIndex_8e157 1 = .ok (.ifCond .lt 8, 3) := zy_s2 (b1 := 0) (b2 := 8) zK_155 (by decide +kernel) (by decide +kernel)
theorem dJ3_checkIndex_8e157_4 : decode cJ3_checkIndex_8e157 4 = .ok (.iload_n 0, 1) := zy_0 zK_26 (by decide +kernel)
theorem dJ3_checkIndex_8e157_5 : decode cJ3_checkIndex_8e157 5 = .ok (.iload_n 1, 1) := zy_0 zK_27 (by decide +kernel)
theorem dJ3_checkIndex_8e157_6 : decode cJ3_checkIndex_8e157 6 = .ok (.if_icmp .lt 10, 3) := zy_s2 (b1 := 0) (b2 := 10) zK_161 (by decide +kernel) (by decide +kernel)
theorem dJ3_checkIndex_8e157_16 : decode cJ3_checkIndex_8e157 16 = .ok (.iload_n 0, 1) := zy_0 zK_26 (by decide +kernel)
theorem dJ3_checkIndex_8e157_17 : decode cJ3_checkIndex_8e157 17 = .ok (.ireturn, 1) := zy_0 zK_172 (by decide +kernel)
end P03_decode_11
section P04_good_00
set_option maxRecDepth 20000 in
theorem gX0_sizeTold_J6_bitCount_0f7a4 : GoodIn wsX0_sizeTold (va_wsS RX0 57 yJ6_bitCount_0f7a4 wsJ6_bitCount_0f7a4) := goodIn_s _ [(12, 7)] rfl (by decide +kernel)
set_option maxRecDepth 20000 in
theorem gX0_aliveByLaw_X7_laterTurn_n72 : GoodIn wsX0_aliveByLaw (wsX7_laterTurn) := goodIn_s _ [(5, 1)] rfl (by decide +kernel)
set_option maxRecDepth 20000 in
theorem gX0_goesLike_X0_next : GoodIn wsX0_goesLike (wsV RX0 76 RX0 yX0_next wsX0_next) := goodIn_s _ [(3, 5), (2, 1), (8, 17)] rfl (by decide +kernel)
set_option maxRecDepth 20000 in
theorem gX0_pass_X0_stepsIn : GoodIn wsX0_pass (wsV RX0 87 RX0 yX0_stepsIn wsX0_stepsIn) := goodIn_s _ [(7, 10), (76, 15)] rfl (by decide +kernel)
set_option maxRecDepth 20000 in
theorem gX0_pass_X0_step : GoodIn wsX0_pass (wsV RX0 91 RX0 yX0_step wsX0_step) := goodIn_s _ [(17, 3), (10, 1), (20, 1), (3, 2), (21, 10), (15, 1), (31, 4), (10, 1), (35, 14), (69, 26)] rfl (by decide +kernel)
set_option maxRecDepth 20000 in
theorem gX0_pass_X0_partSaid : GoodIn wsX0_pass (wsV RX0 95 RX0 yX0_partSaid wsX0_partSaid) := goodIn_s _ [(49, 3), (10, 1), (52, 1), (12, 5), (76, 15)] rfl (by decide +kernel)
set_option maxRecDepth 20000 in
theorem gX0_pass_X6_placesIn : GoodIn wsX0_pass (wsV RX0 105 RX6 yX6_placesIn wsX6_placesIn) := goodIn_s _ [(36, 10), (39, 1), (46, 3), (91, 4)] rfl (by decide +kernel)
set_option maxRecDepth 20000 in
theorem gX0_pass_X0_isHeardAt : GoodIn wsX0_pass (va_wsS RX0 108 yX0_isHeardAt wsX0_isHeardAt) := goodIn_s _ [(53, 2), (10, 1), (55, 1)] rfl (by decide +kernel)
set_option maxRecDepth 20000 in
theorem gX0_pass_X0_next : GoodIn wsX0_pass (wsV RX0 76 RX0 yX0_next wsX0_next) := goodIn_s _ [(56, 3), (10, 1), (59, 4), (76, 15)] rfl (by decide +kernel)
set_option maxRecDepth 20000 in
theorem gX0_pass_X5_startTurn : GoodIn wsX0_pass (wsV RX0 114 RX5 yX5_startTurn wsX5_startTurn) := goodIn_s _ [(63, 3), (27, 1), (66, 10)] rfl (by decide +kernel)
set_option maxRecDepth 20000 in
theorem gX0_stepsIn_X7_within_n118 : GoodIn wsX0_stepsIn (wsX7_within) := goodIn_s _ [(5, 1)] rfl (by decide +kernel)
set_option maxRecDepth 20000 in
theorem gX0_step_X5_isGone : GoodIn wsX0_step (wsV RX0 122 RX5 yX5_isGone wsX5_isGone) := goodIn_s _ [(6, 9), (33, 7)] rfl (by decide +kernel)
set_option maxRecDepth 20000 in
theorem gX0_step_X0_nearer : GoodIn wsX0_step (wsV RX0 126 RX0 yX0_nearer wsX0_nearer) := goodIn_s _ [(15, 5), (4, 1), (40, 15)] rfl (by decide +kernel)
set_option maxRecDepth 20000 in
theorem gX0_step_X6_placesIn : GoodIn wsX0_step (wsV RX0 105 RX6 yX6_placesIn wsX6_placesIn) := goodIn_s _ [(20, 10), (23, 1), (30, 3), (55, 4)] rfl (by decide +kernel)
set_option maxRecDepth 20000 in
theorem gX0_step_X7_hasBit_n129 : GoodIn wsX0_step (wsX7_hasBit) := goodIn_s _ [(14, 1)] rfl (by decide +kernel)
set_option maxRecDepth 20000 in
theorem gX0_partSaid_X7_within_n118 : GoodIn wsX0_partSaid (wsX7_within) := goodIn_s _ [(5, 1)] rfl (by decide +kernel)
set_option maxRecDepth 20000 in
theorem gX1_keep_X5_copyFrom : GoodIn wsX1_keep (wsV RX1 31 RX5 yX5_copyFrom wsX5_copyFrom) := goodIn_s _ [(8, 12), (25, 7)] rfl (by decide +kernel)
set_option maxRecDepth 20000 in
theorem gX1_takeLatest_X5_copyFrom : GoodIn wsX1_takeLatest (wsV RX1 31 RX5 yX5_copyFrom wsX5_copyFrom) := goodIn_s _ [(4, 12), (21, 7)] rfl (by decide +kernel)
set_option maxRecDepth 20000 in
theorem gX1_addImage_X5_copyFrom : GoodIn wsX1_addImage (wsV RX1 31 RX5 yX5_copyFrom wsX5_copyFrom) := goodIn_s _ [(3, 12), (20, 7)] rfl (by decide +kernel)
set_option maxRecDepth 20000 in
theorem gX1_goBack_X7_within_n41 : GoodIn wsX1_goBack (wsX7_within) := goodIn_s _ [(6, 1)] rfl (by decide +kernel)
set_option maxRecDepth 20000 in
theorem gX1_goBack_X5_copyFrom : GoodIn wsX1_goBack (wsV RX1 31 RX5 yX5_copyFrom wsX5_copyFrom) := goodIn_s _ [(7, 12), (24, 7)] rfl (by decide +kernel)
set_option maxRecDepth 20000 in
theorem gX2_list_X2_addIfFit : GoodIn wsX2_list (wsV RX2 34 RX2 yX2_addIfFit wsX2_addIfFit) := goodIn_s _ [(4, 8), (2, 1), (12, 11), (30, 15), (23, 7)] rfl (by decide +kernel)
set_option maxRecDepth 20000 in
theorem gX2_addIfFit_X0_aliveByLaw : GoodIn wsX2_addIfFit (wsV RX2 44 RX0 yX0_aliveByLaw wsX0_aliveByLaw) := goodIn_s _ [(6, 25)] rfl (by decide +kernel)
set_option maxRecDepth 20000 in
theorem gX2_chooseLook_X2_list : GoodIn wsX2_chooseLook (wsV RX2 51 RX2 yX2_list wsX2_list) := goodIn_s _ [(7, 6), (4, 1), (6, 1), (13, 3), (10, 1), (16, 15), (44, 22)] rfl (by decide +kernel)
set_option maxRecDepth 20000 in
theorem gX2_chooseLook_X2_tally : GoodIn wsX2_chooseLook (wsV RX2 64 RX2 yX2_tally wsX2_tally) := goodIn_s _ [(31, 3), (10, 1), (34, 2), (4, 1), (20, 1), (44, 7)] rfl (by decide +kernel)
set_option maxRecDepth 20000 in
theorem gX2_chooseLook_X2_mostOf : GoodIn wsX2_chooseLook (wsV RX2 68 RX2 yX2_mostOf wsX2_mostOf) := goodIn_s _ [(36, 3), (10, 1), (39, 1), (35, 1), (40, 11)] rfl (by decide +kernel)
set_option maxRecDepth 20000 in
theorem gX3_advance_X3_scanWord : GoodIn wsX3_advance (wsV RX3 75 RX3 yX3_scanWord wsX3_scanWord) := goodIn_s _ [(6, 6), (1, 5), (17, 14)] rfl (by decide +kernel)
set_option maxRecDepth 20000 in
theorem gX3_advance_X3_scanWhole : GoodIn wsX3_advance (wsV RX3 78 RX3 yX3_scanWhole wsX3_scanWhole) := goodIn_s _ [(12, 3), (9, 1), (15, 2), (1, 5), (17, 14)] rfl (by decide +kernel)
set_option maxRecDepth 20000 in
theorem gX3_isWholeWithin_X3_fails : GoodIn wsX3_isWholeWithin (wsV RX3 64 RX3 yX3_fails wsX3_fails) := goodIn_s _ [(3, 8), (14, 14)] rfl (by decide +kernel)
set_option maxRecDepth 20000 in
theorem gX3_isWholeWithin_X7_within_n223 : GoodIn wsX3_isWholeWithin (wsX7_within) := goodIn_s _ [(13, 1)] rfl (by decide +kernel)
end P04_good_00
section P04_good_01
set_option maxRecDepth 20000 in
theorem gX4_aim_X7_within_n18 : GoodIn wsX4_aim (wsX7_within) := goodIn_s _ [(4, 1)] rfl (by decide +kernel)
set_option maxRecDepth 20000 in
theorem gX4_weigh_X4_step : GoodIn wsX4_weigh (wsV RX4 32 RX4 yX4_step wsX4_step) := goodIn_s _ [(7, 5), (5, 1), (12, 3), (10, 1), (15, 1), (6, 1), (16, 4)] rfl (by decide +kernel)
set_option maxRecDepth 20000 in
theorem gX4_weigh_X4_worth : GoodIn wsX4_weigh (wsV RX4 35 RX4 yX4_worth wsX4_worth) := goodIn_s _ [(12, 3), (10, 1), (15, 1), (6, 1), (16, 4)] rfl (by decide +kernel)
set_option maxRecDepth 20000 in
theorem gX4_step_X4_worth : GoodIn wsX4_step (wsV RX4 35 RX4 yX4_worth wsX4_worth) := goodIn_s _ [(2, 10)] rfl (by decide +kernel)
set_option maxRecDepth 20000 in
theorem gX4_minutesWith_X7_within_n18 : GoodIn wsX4_minutesWith (wsX7_within) := goodIn_s _ [(5, 1)] rfl (by decide +kernel)
set_option maxRecDepth 20000 in
theorem gX4_placeIn_X4_step : GoodIn wsX4_placeIn (wsV RX4 32 RX4 yX4_step wsX4_step) := goodIn_s _ [(1, 9), (4, 1), (10, 6)] rfl (by decide +kernel)
set_option maxRecDepth 20000 in
theorem gX5_begin_X5_startTurn : GoodIn wsX5_begin (wsV RX5 28 RX5 yX5_startTurn wsX5_startTurn) := goodIn_s _ [(6, 14)] rfl (by decide +kernel)
set_option maxRecDepth 20000 in
theorem gX5_isGone_X7_hasBit_n38 : GoodIn wsX5_isGone (wsX7_hasBit) := goodIn_s _ [(4, 1)] rfl (by decide +kernel)
set_option maxRecDepth 20000 in
theorem gX6_placesIn_X6_placeOf : GoodIn wsX6_placesIn (wsV RX6 25 RX6 yX6_placeOf wsX6_placeOf) := goodIn_s _ [(3, 11)] rfl (by decide +kernel)
set_option maxRecDepth 20000 in
theorem gX7_figure_X7_isFigure : GoodIn wsX7_figure (wsV RX7 116 RX7 yX7_isFigure wsX7_isFigure) := goodIn_s _ [(7, 5), (1, 1), (12, 3), (10, 1), (15, 1), (33, 26)] rfl (by decide +kernel)
set_option maxRecDepth 20000 in
theorem gX7_figure_X7_within : GoodIn wsX7_figure (va_wsS RX7 78 yX7_within wsX7_within) := goodIn_s _ [(13, 2), (10, 1), (15, 1)] rfl (by decide +kernel)
set_option maxRecDepth 20000 in
theorem gX7_figure_X7_refused : GoodIn wsX7_figure (wsV RX7 82 RX7 yX7_refused wsX7_refused) := goodIn_s _ [(16, 3), (10, 1), (19, 2), (33, 11)] rfl (by decide +kernel)
set_option maxRecDepth 20000 in
theorem gX7_figure_X7_answered : GoodIn wsX7_figure (wsV RX7 113 RX7 yX7_answered wsX7_answered) := goodIn_s _ [(21, 3), (10, 1), (24, 1), (20, 1), (33, 11)] rfl (by decide +kernel)
set_option maxRecDepth 20000 in
theorem gX7_figure_X5_isGone : GoodIn wsX7_figure (wsV RX7 129 RX5 yX5_isGone wsX5_isGone) := goodIn_s _ [(25, 7), (10, 1), (32, 1), (59, 7)] rfl (by decide +kernel)
set_option maxRecDepth 20000 in
theorem gX7_watcher_X7_isWatcher : GoodIn wsX7_watcher (wsV RX7 135 RX7 yX7_isWatcher wsX7_isWatcher) := goodIn_s _ [(7, 5), (1, 2), (12, 3), (10, 1), (15, 1), (32, 30)] rfl (by decide +kernel)
set_option maxRecDepth 20000 in
theorem gX7_watcher_X7_within : GoodIn wsX7_watcher (va_wsS RX7 78 yX7_within wsX7_within) := goodIn_s _ [(13, 2), (10, 1), (15, 1)] rfl (by decide +kernel)
set_option maxRecDepth 20000 in
theorem gX7_watcher_X7_refused : GoodIn wsX7_watcher (wsV RX7 82 RX7 yX7_refused wsX7_refused) := goodIn_s _ [(16, 3), (10, 1), (19, 2), (32, 11)] rfl (by decide +kernel)
set_option maxRecDepth 20000 in
theorem gX7_watcher_X7_answered : GoodIn wsX7_watcher (wsV RX7 113 RX7 yX7_answered wsX7_answered) := goodIn_s _ [(21, 3), (10, 1), (24, 1), (20, 1), (32, 11)] rfl (by decide +kernel)
set_option maxRecDepth 20000 in
theorem gX7_watcher_X6_placeOf : GoodIn wsX7_watcher (wsV RX7 150 RX6 yX6_placeOf wsX6_placeOf) := goodIn_s _ [(25, 7), (58, 4)] rfl (by decide +kernel)
set_option maxRecDepth 20000 in
theorem gX7_alive_X7_hasGallery : GoodIn wsX7_alive (wsV RX7 154 RX7 yX7_hasGallery wsX7_hasGallery) := goodIn_s _ [(3, 7), (19, 11), (37, 15)] rfl (by decide +kernel)
set_option maxRecDepth 20000 in
theorem gX7_alive_X7_refused : GoodIn wsX7_alive (wsV RX7 82 RX7 yX7_refused wsX7_refused) := goodIn_s _ [(10, 3), (6, 1), (13, 2), (19, 11)] rfl (by decide +kernel)
set_option maxRecDepth 20000 in
theorem gX7_alive_X7_answered : GoodIn wsX7_alive (wsV RX7 113 RX7 yX7_answered wsX7_answered) := goodIn_s _ [(15, 3), (6, 1), (18, 1), (14, 1), (19, 11)] rfl (by decide +kernel)
set_option maxRecDepth 20000 in
theorem gX7_left_X7_hasGallery : GoodIn wsX7_left (wsV RX7 154 RX7 yX7_hasGallery wsX7_hasGallery) := goodIn_s _ [(5, 5), (1, 1), (10, 1), (20, 26)] rfl (by decide +kernel)
set_option maxRecDepth 20000 in
theorem gX7_left_X7_refused : GoodIn wsX7_left (wsV RX7 82 RX7 yX7_refused wsX7_refused) := goodIn_s _ [(11, 3), (8, 1), (14, 2), (20, 11)] rfl (by decide +kernel)
set_option maxRecDepth 20000 in
theorem gX7_left_X7_answered : GoodIn wsX7_left (wsV RX7 113 RX7 yX7_answered wsX7_answered) := goodIn_s _ [(16, 3), (8, 1), (19, 1), (15, 1), (20, 11)] rfl (by decide +kernel)
set_option maxRecDepth 20000 in
theorem gX7_caught_X7_hasGallery : GoodIn wsX7_caught (wsV RX7 154 RX7 yX7_hasGallery wsX7_hasGallery) := goodIn_s _ [(3, 7), (19, 11), (37, 15)] rfl (by decide +kernel)
set_option maxRecDepth 20000 in
theorem gX7_caught_X7_refused : GoodIn wsX7_caught (wsV RX7 82 RX7 yX7_refused wsX7_refused) := goodIn_s _ [(10, 3), (6, 1), (13, 2), (19, 11)] rfl (by decide +kernel)
set_option maxRecDepth 20000 in
theorem gX7_caught_X7_answered : GoodIn wsX7_caught (wsV RX7 113 RX7 yX7_answered wsX7_answered) := goodIn_s _ [(15, 3), (6, 1), (18, 1), (14, 1), (19, 11)] rfl (by decide +kernel)
set_option maxRecDepth 20000 in
theorem gX7_turnOf_X7_hasGallery : GoodIn wsX7_turnOf (wsV RX7 154 RX7 yX7_hasGallery wsX7_hasGallery) := goodIn_s _ [(2, 7), (32, 26)] rfl (by decide +kernel)
set_option maxRecDepth 20000 in
theorem gX7_turnOf_X7_refused : GoodIn wsX7_turnOf (wsV RX7 82 RX7 yX7_refused wsX7_refused) := goodIn_s _ [(9, 3), (5, 1), (12, 2), (32, 11)] rfl (by decide +kernel)
set_option maxRecDepth 20000 in
theorem gX7_turnOf_X7_within : GoodIn wsX7_turnOf (va_wsS RX7 78 yX7_within wsX7_within) := goodIn_s _ [(14, 2), (5, 1), (16, 1)] rfl (by decide +kernel)
set_option maxRecDepth 20000 in
theorem gX7_turnOf_X7_turnFromNow : GoodIn wsX7_turnOf (wsV RX7 171 RX7 yX7_turnFromNow wsX7_turnFromNow) := goodIn_s _ [(17, 3), (5, 1), (20, 1), (7, 2), (21, 6), (5, 1), (27, 1), (32, 33)] rfl (by decide +kernel)
set_option maxRecDepth 20000 in
theorem gX7_turnOf_X7_answered : GoodIn wsX7_turnOf (wsV RX7 113 RX7 yX7_answered wsX7_answered) := goodIn_s _ [(28, 3), (5, 1), (31, 1), (13, 1), (32, 11)] rfl (by decide +kernel)
set_option maxRecDepth 20000 in
theorem gX7_turnIn_X7_isFigure : GoodIn wsX7_turnIn (wsV RX7 116 RX7 yX7_isFigure wsX7_isFigure) := goodIn_s _ [(5, 5), (3, 2), (10, 2), (8, 1), (12, 1), (30, 11), (48, 15)] rfl (by decide +kernel)
set_option maxRecDepth 20000 in
theorem gX7_turnIn_X7_refused : GoodIn wsX7_turnIn (wsV RX7 82 RX7 yX7_refused wsX7_refused) := goodIn_s _ [(13, 3), (8, 1), (16, 2), (30, 11)] rfl (by decide +kernel)
set_option maxRecDepth 20000 in
theorem gX7_turnIn_X7_answered : GoodIn wsX7_turnIn (wsV RX7 113 RX7 yX7_answered wsX7_answered) := goodIn_s _ [(18, 3), (8, 1), (21, 1), (17, 1), (30, 11)] rfl (by decide +kernel)
set_option maxRecDepth 20000 in
theorem gX7_turnIn_X0_next : GoodIn wsX7_turnIn (wsV RX7 174 RX0 yX0_next wsX0_next) := goodIn_s _ [(22, 8), (48, 15)] rfl (by decide +kernel)
set_option maxRecDepth 20000 in
theorem gX7_settles_X7_hasGallery : GoodIn wsX7_settles (wsV RX7 154 RX7 yX7_hasGallery wsX7_hasGallery) := goodIn_s _ [(3, 5), (1, 2), (40, 26)] rfl (by decide +kernel)
set_option maxRecDepth 20000 in
theorem gX7_settles_X7_refused : GoodIn wsX7_settles (wsV RX7 82 RX7 yX7_refused wsX7_refused) := goodIn_s _ [(8, 3), (6, 1), (11, 2), (40, 11)] rfl (by decide +kernel)
set_option maxRecDepth 20000 in
theorem gX7_settles_X7_roundLength : GoodIn wsX7_settles (wsV RX7 177 RX7 yX7_roundLength wsX7_roundLength) := goodIn_s _ [(13, 3), (6, 1), (16, 1), (1, 2), (17, 3), (6, 1), (20, 16), (40, 33)] rfl (by decide +kernel)
set_option maxRecDepth 20000 in
theorem gX7_settles_X7_turnFromNow : GoodIn wsX7_settles (wsV RX7 171 RX7 yX7_turnFromNow wsX7_turnFromNow) := goodIn_s _ [(17, 3), (6, 1), (20, 1), (1, 2), (21, 6), (6, 1), (27, 1), (40, 33)] rfl (by decide +kernel)
set_option maxRecDepth 20000 in
theorem gX7_settles_X7_answered : GoodIn wsX7_settles (wsV RX7 113 RX7 yX7_answered wsX7_answered) := goodIn_s _ [(36, 3), (6, 1), (39, 1), (12, 1), (40, 11)] rfl (by decide +kernel)
set_option maxRecDepth 20000 in
theorem gX7_round_X7_hasGallery : GoodIn wsX7_round (wsV RX7 154 RX7 yX7_hasGallery wsX7_hasGallery) := goodIn_s _ [(1, 7), (40, 26)] rfl (by decide +kernel)
set_option maxRecDepth 20000 in
theorem gX7_round_X7_refused : GoodIn wsX7_round (wsV RX7 82 RX7 yX7_refused wsX7_refused) := goodIn_s _ [(8, 3), (4, 1), (11, 2), (40, 11)] rfl (by decide +kernel)
set_option maxRecDepth 20000 in
theorem gX7_round_X7_roundLength : GoodIn wsX7_round (wsV RX7 177 RX7 yX7_roundLength wsX7_roundLength) := goodIn_s _ [(13, 3), (4, 1), (16, 1), (6, 2), (17, 3), (4, 1), (20, 16), (40, 33)] rfl (by decide +kernel)
set_option maxRecDepth 20000 in
theorem gX7_round_X7_answered : GoodIn wsX7_round (wsV RX7 113 RX7 yX7_answered wsX7_answered) := goodIn_s _ [(36, 3), (4, 1), (39, 1), (12, 1), (40, 11)] rfl (by decide +kernel)
set_option maxRecDepth 20000 in
theorem gX7_called_X7_hasGallery : GoodIn wsX7_called (wsV RX7 154 RX7 yX7_hasGallery wsX7_hasGallery) := goodIn_s _ [(5, 5), (3, 2), (27, 11), (45, 15)] rfl (by decide +kernel)
set_option maxRecDepth 20000 in
theorem gX7_called_X7_refused : GoodIn wsX7_called (wsV RX7 82 RX7 yX7_refused wsX7_refused) := goodIn_s _ [(10, 3), (8, 1), (13, 2), (27, 11)] rfl (by decide +kernel)
set_option maxRecDepth 20000 in
theorem gX7_called_X0_next : GoodIn wsX7_called (wsV RX7 174 RX0 yX0_next wsX0_next) := goodIn_s _ [(15, 8), (45, 15)] rfl (by decide +kernel)
set_option maxRecDepth 20000 in
theorem gX7_called_X7_answered : GoodIn wsX7_called (wsV RX7 113 RX7 yX7_answered wsX7_answered) := goodIn_s _ [(23, 3), (8, 1), (26, 1), (14, 1), (27, 11)] rfl (by decide +kernel)
set_option maxRecDepth 20000 in
theorem gX7_minutesOf_X7_isFigure : GoodIn wsX7_minutesOf (wsV RX7 116 RX7 yX7_isFigure wsX7_isFigure) := goodIn_s _ [(6, 5), (4, 1), (11, 3), (9, 1), (14, 1), (32, 11), (50, 15)] rfl (by decide +kernel)
set_option maxRecDepth 20000 in
theorem gX7_minutesOf_X7_refused : GoodIn wsX7_minutesOf (wsV RX7 82 RX7 yX7_refused wsX7_refused) := goodIn_s _ [(15, 3), (9, 1), (18, 2), (32, 11)] rfl (by decide +kernel)
set_option maxRecDepth 20000 in
theorem gX7_minutesOf_X7_within : GoodIn wsX7_minutesOf (va_wsS RX7 78 yX7_within wsX7_within) := goodIn_s _ [(12, 2), (9, 1), (14, 1)] rfl (by decide +kernel)
set_option maxRecDepth 20000 in
theorem gX7_minutesOf_X0_next : GoodIn wsX7_minutesOf (wsV RX7 174 RX0 yX0_next wsX0_next) := goodIn_s _ [(20, 8), (50, 15)] rfl (by decide +kernel)
set_option maxRecDepth 20000 in
theorem gX7_minutesOf_X7_answered : GoodIn wsX7_minutesOf (wsV RX7 113 RX7 yX7_answered wsX7_answered) := goodIn_s _ [(28, 3), (9, 1), (31, 1), (19, 1), (32, 11)] rfl (by decide +kernel)
set_option maxRecDepth 20000 in
theorem gX7_place_X7_troubleOfFigureWithin : GoodIn wsX7_place (wsV RX7 181 RX7 yX7_troubleOfFigureWithin wsX7_troubleOfFigureWithin) := goodIn_s _ [(3, 8), (6, 1), (11, 6), (113, 11), (131, 15)] rfl (by decide +kernel)
set_option maxRecDepth 20000 in
theorem gX7_place_X7_refused : GoodIn wsX7_place (wsV RX7 82 RX7 yX7_refused wsX7_refused) := goodIn_s _ [(17, 3), (6, 1), (20, 2), (113, 11)] rfl (by decide +kernel)
set_option maxRecDepth 20000 in
theorem gX7_place_X7_runAhead : GoodIn wsX7_place (wsV RX7 185 RX7 yX7_runAhead wsX7_runAhead) := goodIn_s _ [(22, 3), (6, 1), (25, 1), (1, 1), (26, 16), (6, 1), (42, 1), (12, 1), (43, 18), (15, 2), (61, 48), (113, 37)] rfl (by decide +kernel)
set_option maxRecDepth 20000 in
theorem gX7_place_X7_answered : GoodIn wsX7_place (wsV RX7 113 RX7 yX7_answered wsX7_answered) := goodIn_s _ [(109, 3), (6, 1), (112, 1), (21, 1), (113, 11)] rfl (by decide +kernel)
set_option maxRecDepth 20000 in
theorem gX7_watch_X7_isWatcher : GoodIn wsX7_watch (wsV RX7 135 RX7 yX7_isWatcher wsX7_isWatcher) := goodIn_s _ [(5, 5), (1, 2), (10, 3), (8, 1), (13, 1), (30, 26), (63, 4)] rfl (by decide +kernel)
set_option maxRecDepth 20000 in
theorem gX7_watch_X7_refused : GoodIn wsX7_watch (wsV RX7 82 RX7 yX7_refused wsX7_refused) := goodIn_s _ [(14, 3), (8, 1), (17, 2), (30, 11)] rfl (by decide +kernel)
set_option maxRecDepth 20000 in
theorem gX7_watch_X7_within : GoodIn wsX7_watch (va_wsS RX7 78 yX7_within wsX7_within) := goodIn_s _ [(11, 2), (8, 1), (13, 1)] rfl (by decide +kernel)
set_option maxRecDepth 20000 in
theorem gX7_watch_X6_placeOf : GoodIn wsX7_watch (wsV RX7 150 RX6 yX6_placeOf wsX6_placeOf) := goodIn_s _ [(19, 7), (63, 4)] rfl (by decide +kernel)
set_option maxRecDepth 20000 in
theorem gX7_watch_X7_answered : GoodIn wsX7_watch (wsV RX7 113 RX7 yX7_answered wsX7_answered) := goodIn_s _ [(26, 3), (8, 1), (29, 1), (18, 1), (30, 11)] rfl (by decide +kernel)
set_option maxRecDepth 20000 in
theorem gX7_gone_X7_troubleOfNumber : GoodIn wsX7_gone (wsV RX7 188 RX7 yX7_troubleOfNumber wsX7_troubleOfNumber) := goodIn_s _ [(3, 8), (6, 1), (11, 6), (113, 11), (131, 15)] rfl (by decide +kernel)
set_option maxRecDepth 20000 in
theorem gX7_gone_X7_refused : GoodIn wsX7_gone (wsV RX7 82 RX7 yX7_refused wsX7_refused) := goodIn_s _ [(17, 3), (6, 1), (20, 2), (113, 11)] rfl (by decide +kernel)
set_option maxRecDepth 20000 in
theorem gX7_gone_X7_runAhead : GoodIn wsX7_gone (wsV RX7 185 RX7 yX7_runAhead wsX7_runAhead) := goodIn_s _ [(22, 3), (6, 1), (25, 1), (1, 1), (26, 16), (6, 1), (42, 1), (12, 1), (43, 18), (15, 2), (61, 48), (113, 37)] rfl (by decide +kernel)
set_option maxRecDepth 20000 in
theorem gX7_gone_X7_answered : GoodIn wsX7_gone (wsV RX7 113 RX7 yX7_answered wsX7_answered) := goodIn_s _ [(109, 3), (6, 1), (112, 1), (21, 1), (113, 11)] rfl (by decide +kernel)
set_option maxRecDepth 20000 in
theorem gX7_stairs_X7_hasGallery : GoodIn wsX7_stairs (wsV RX7 154 RX7 yX7_hasGallery wsX7_hasGallery) := goodIn_s _ [(5, 5), (3, 1), (10, 1), (104, 26)] rfl (by decide +kernel)
set_option maxRecDepth 20000 in
theorem gX7_stairs_X7_refused : GoodIn wsX7_stairs (wsV RX7 82 RX7 yX7_refused wsX7_refused) := goodIn_s _ [(11, 3), (8, 1), (14, 2), (104, 11)] rfl (by decide +kernel)
set_option maxRecDepth 20000 in
theorem gX7_stairs_X5_copyFrom : GoodIn wsX7_stairs (wsV RX7 194 RX5 yX5_copyFrom wsX5_copyFrom) := goodIn_s _ [(16, 12), (130, 7)] rfl (by decide +kernel)
set_option maxRecDepth 20000 in
theorem gX7_stairs_X7_minutesTillGone : GoodIn wsX7_stairs (wsV RX7 198 RX7 yX7_minutesTillGone wsX7_minutesTillGone) := goodIn_s _ [(28, 3), (8, 1), (31, 1), (1, 1), (32, 1), (3, 1), (33, 18), (8, 1), (51, 11), (19, 1), (62, 1), (24, 1), (63, 37), (22, 2), (104, 11), (130, 7), (115, 15), (137, 4)] rfl (by decide +kernel)
set_option maxRecDepth 20000 in
theorem gX7_stairs_X7_answered : GoodIn wsX7_stairs (wsV RX7 113 RX7 yX7_answered wsX7_answered) := goodIn_s _ [(100, 3), (8, 1), (103, 1), (15, 1), (104, 11)] rfl (by decide +kernel)
set_option maxRecDepth 20000 in
theorem gX7_catches_X7_troubleOfNumber : GoodIn wsX7_catches (wsV RX7 188 RX7 yX7_troubleOfNumber wsX7_troubleOfNumber) := goodIn_s _ [(4, 8), (7, 1), (12, 6), (113, 11), (131, 15)] rfl (by decide +kernel)
set_option maxRecDepth 20000 in
theorem gX7_catches_X7_refused : GoodIn wsX7_catches (wsV RX7 82 RX7 yX7_refused wsX7_refused) := goodIn_s _ [(18, 3), (7, 1), (21, 2), (113, 11)] rfl (by decide +kernel)
set_option maxRecDepth 20000 in
theorem gX7_catches_X7_runAhead : GoodIn wsX7_catches (wsV RX7 185 RX7 yX7_runAhead wsX7_runAhead) := goodIn_s _ [(23, 3), (7, 1), (26, 1), (1, 1), (3, 1), (27, 15), (7, 1), (42, 1), (13, 1), (43, 18), (16, 2), (61, 48), (113, 37)] rfl (by decide +kernel)
set_option maxRecDepth 20000 in
theorem gX7_catches_X7_answered : GoodIn wsX7_catches (wsV RX7 113 RX7 yX7_answered wsX7_answered) := goodIn_s _ [(109, 3), (7, 1), (112, 1), (22, 1), (113, 11)] rfl (by decide +kernel)
set_option maxRecDepth 20000 in
theorem gX7_heard_X7_troubleOfFigureWithin : GoodIn wsX7_heard (wsV RX7 181 RX7 yX7_troubleOfFigureWithin wsX7_troubleOfFigureWithin) := goodIn_s _ [(4, 8), (7, 1), (12, 6), (109, 11), (127, 15)] rfl (by decide +kernel)
set_option maxRecDepth 20000 in
theorem gX7_heard_X7_refused : GoodIn wsX7_heard (wsV RX7 82 RX7 yX7_refused wsX7_refused) := goodIn_s _ [(18, 3), (7, 1), (21, 2), (109, 11)] rfl (by decide +kernel)
set_option maxRecDepth 20000 in
theorem gX7_heard_X5_copyFrom : GoodIn wsX7_heard (wsV RX7 194 RX5 yX5_copyFrom wsX5_copyFrom) := goodIn_s _ [(23, 12), (120, 7)] rfl (by decide +kernel)
set_option maxRecDepth 20000 in
theorem gX7_heard_X7_passAhead : GoodIn wsX7_heard (wsV RX7 202 RX7 yX7_passAhead wsX7_passAhead) := goodIn_s _ [(35, 3), (7, 1), (38, 1), (13, 1), (1, 1), (39, 18), (16, 1), (7, 1), (17, 1), (57, 10), (26, 1), (67, 1), (31, 1), (68, 37), (29, 2), (109, 11), (127, 15), (120, 7), (142, 4)] rfl (by decide +kernel)
set_option maxRecDepth 20000 in
theorem gX7_heard_X7_answered : GoodIn wsX7_heard (wsV RX7 113 RX7 yX7_answered wsX7_answered) := goodIn_s _ [(105, 3), (7, 1), (108, 1), (22, 1), (109, 11)] rfl (by decide +kernel)
set_option maxRecDepth 20000 in
theorem gX7_allIn_X7_isFigure : GoodIn wsX7_allIn (wsV RX7 116 RX7 yX7_isFigure wsX7_isFigure) := goodIn_s _ [(8, 5), (1, 1), (13, 3), (11, 1), (16, 1), (103, 26)] rfl (by decide +kernel)
set_option maxRecDepth 20000 in
theorem gX7_allIn_X7_refused : GoodIn wsX7_allIn (wsV RX7 82 RX7 yX7_refused wsX7_refused) := goodIn_s _ [(17, 3), (11, 1), (20, 2), (103, 11)] rfl (by decide +kernel)
set_option maxRecDepth 20000 in
theorem gX7_allIn_X7_answered : GoodIn wsX7_allIn (wsV RX7 113 RX7 yX7_answered wsX7_answered) := goodIn_s _ [(22, 3), (11, 1), (25, 1), (21, 1), (103, 11)] rfl (by decide +kernel)
set_option maxRecDepth 20000 in
theorem gX7_allIn_X5_copyFrom : GoodIn wsX7_allIn (wsV RX7 194 RX5 yX5_copyFrom wsX5_copyFrom) := goodIn_s _ [(26, 12), (129, 7)] rfl (by decide +kernel)
set_option maxRecDepth 20000 in
theorem gX7_allIn_X0_pass : GoodIn wsX7_allIn (wsV RX7 205 RX0 yX0_pass wsX0_pass) := goodIn_s _ [(38, 14), (41, 1), (52, 3), (15, 1), (11, 1), (16, 1), (55, 10), (29, 1), (65, 1), (34, 1), (66, 37), (32, 2), (129, 7), (114, 15), (136, 4)] rfl (by decide +kernel)
set_option maxRecDepth 20000 in
theorem gX7_meets_X7_isWatcher : GoodIn wsX7_meets (wsV RX7 135 RX7 yX7_isWatcher wsX7_isWatcher) := goodIn_s _ [(6, 5), (3, 2), (11, 3), (9, 1), (14, 1), (109, 26), (142, 4)] rfl (by decide +kernel)
set_option maxRecDepth 20000 in
theorem gX7_meets_X7_refused : GoodIn wsX7_meets (wsV RX7 82 RX7 yX7_refused wsX7_refused) := goodIn_s _ [(15, 3), (9, 1), (18, 2), (109, 11)] rfl (by decide +kernel)
set_option maxRecDepth 20000 in
theorem gX7_meets_X5_copyFrom : GoodIn wsX7_meets (wsV RX7 194 RX5 yX5_copyFrom wsX5_copyFrom) := goodIn_s _ [(20, 12), (135, 7)] rfl (by decide +kernel)
set_option maxRecDepth 20000 in
theorem gX7_meets_X6_placeOf : GoodIn wsX7_meets (wsV RX7 150 RX6 yX6_placeOf wsX6_placeOf) := goodIn_s _ [(32, 7), (142, 4)] rfl (by decide +kernel)
set_option maxRecDepth 20000 in
theorem gX7_meets_X7_placeOfActing : GoodIn wsX7_meets (wsV RX7 209 RX7 yX7_placeOfActing wsX7_placeOfActing) := goodIn_s _ [(39, 3), (9, 1), (42, 1), (1, 1), (43, 1), (3, 2), (44, 18), (13, 1), (9, 1), (14, 1), (62, 10), (23, 1), (72, 1), (28, 1), (73, 9), (35, 1), (82, 4), (33, 2), (36, 3), (86, 18), (26, 2), (104, 1), (109, 11), (135, 7), (120, 15), (142, 4)] rfl (by decide +kernel)
set_option maxRecDepth 20000 in
theorem gX7_meets_X7_answered : GoodIn wsX7_meets (wsV RX7 113 RX7 yX7_answered wsX7_answered) := goodIn_s _ [(105, 3), (9, 1), (108, 1), (19, 1), (109, 11)] rfl (by decide +kernel)
set_option maxRecDepth 20000 in
theorem gX7_crowd_X7_troubleOfNumber : GoodIn wsX7_crowd (wsV RX7 188 RX7 yX7_troubleOfNumber wsX7_troubleOfNumber) := goodIn_s _ [(3, 8), (6, 1), (11, 1), (1, 2), (12, 3), (118, 26)] rfl (by decide +kernel)
set_option maxRecDepth 20000 in
theorem gX7_crowd_X7_refused : GoodIn wsX7_crowd (wsV RX7 82 RX7 yX7_refused wsX7_refused) := goodIn_s _ [(15, 3), (6, 1), (18, 2), (118, 11)] rfl (by decide +kernel)
set_option maxRecDepth 20000 in
theorem gX7_crowd_X7_runAhead : GoodIn wsX7_crowd (wsV RX7 185 RX7 yX7_runAhead wsX7_runAhead) := goodIn_s _ [(20, 3), (6, 1), (23, 18), (6, 1), (41, 1), (1, 1), (42, 18), (13, 2), (60, 48), (118, 11), (144, 7), (129, 15), (151, 4)] rfl (by decide +kernel)
set_option maxRecDepth 20000 in
theorem gX7_crowd_X7_crowdAt : GoodIn wsX7_crowd (wsV RX7 212 RX7 yX7_crowdAt wsX7_crowdAt) := goodIn_s _ [(108, 3), (6, 1), (111, 1), (1, 2), (24, 1), (112, 2), (68, 2), (29, 1), (70, 1), (34, 1), (71, 1), (6, 1), (72, 1), (118, 33)] rfl (by decide +kernel)
set_option maxRecDepth 20000 in
theorem gX7_crowd_X7_answered : GoodIn wsX7_crowd (wsV RX7 113 RX7 yX7_answered wsX7_answered) := goodIn_s _ [(114, 3), (6, 1), (117, 1), (19, 1), (118, 11)] rfl (by decide +kernel)
set_option maxRecDepth 20000 in
theorem gX7_farthest_X7_troubleOfNumber : GoodIn wsX7_farthest (wsV RX7 188 RX7 yX7_troubleOfNumber wsX7_troubleOfNumber) := goodIn_s _ [(9, 8), (12, 1), (17, 1), (1, 2), (18, 3), (117, 26)] rfl (by decide +kernel)
set_option maxRecDepth 20000 in
theorem gX7_farthest_X7_refused : GoodIn wsX7_farthest (wsV RX7 82 RX7 yX7_refused wsX7_refused) := goodIn_s _ [(21, 3), (12, 1), (24, 2), (117, 11)] rfl (by decide +kernel)
set_option maxRecDepth 20000 in
theorem gX7_farthest_X7_runAhead : GoodIn wsX7_farthest (wsV RX7 185 RX7 yX7_runAhead wsX7_runAhead) := goodIn_s _ [(26, 3), (12, 1), (29, 1), (3, 1), (30, 16), (12, 1), (46, 1), (1, 1), (47, 18), (19, 2), (65, 48), (117, 11), (143, 7), (128, 15), (150, 4)] rfl (by decide +kernel)
set_option maxRecDepth 20000 in
theorem gX7_farthest_X7_answered : GoodIn wsX7_farthest (wsV RX7 113 RX7 yX7_answered wsX7_answered) := goodIn_s _ [(113, 3), (12, 1), (116, 1), (25, 1), (117, 11)] rfl (by decide +kernel)
set_option maxRecDepth 20000 in
theorem gX7_nearBy_X7_troubleOfFigureWithin : GoodIn wsX7_nearBy (wsV RX7 181 RX7 yX7_troubleOfFigureWithin wsX7_troubleOfFigureWithin) := goodIn_s _ [(7, 8), (10, 1), (15, 1), (3, 1), (16, 4), (109, 26)] rfl (by decide +kernel)
set_option maxRecDepth 20000 in
theorem gX7_nearBy_X7_refused : GoodIn wsX7_nearBy (wsV RX7 82 RX7 yX7_refused wsX7_refused) := goodIn_s _ [(20, 3), (10, 1), (23, 2), (109, 11)] rfl (by decide +kernel)
set_option maxRecDepth 20000 in
theorem gX7_nearBy_X5_copyFrom : GoodIn wsX7_nearBy (wsV RX7 194 RX5 yX5_copyFrom wsX5_copyFrom) := goodIn_s _ [(25, 12), (135, 7)] rfl (by decide +kernel)
set_option maxRecDepth 20000 in
theorem gX7_nearBy_X6_placesIn : GoodIn wsX7_nearBy (wsV RX7 220 RX6 yX6_placesIn wsX6_placesIn) := goodIn_s _ [(37, 10), (40, 1), (47, 3), (142, 4)] rfl (by decide +kernel)
set_option maxRecDepth 20000 in
theorem gX7_nearBy_X0_pass : GoodIn wsX7_nearBy (wsV RX7 205 RX0 yX0_pass wsX0_pass) := goodIn_s _ [(50, 14), (53, 1), (64, 3), (18, 1), (10, 1), (19, 1), (67, 10), (28, 1), (77, 1), (33, 1), (78, 7), (38, 12), (85, 18), (31, 2), (135, 7), (120, 15), (142, 4)] rfl (by decide +kernel)
set_option maxRecDepth 20000 in
theorem gX7_nearBy_X5_isGone : GoodIn wsX7_nearBy (wsV RX7 129 RX5 yX5_isGone wsX5_isGone) := goodIn_s _ [(103, 1), (75, 2), (28, 1), (77, 1), (33, 1), (78, 1), (10, 1), (79, 1), (135, 7)] rfl (by decide +kernel)
set_option maxRecDepth 20000 in
theorem gX7_nearBy_X7_hasBit : GoodIn wsX7_nearBy (va_wsS RX7 223 yX7_hasBit wsX7_hasBit) := goodIn_s _ [(104, 1), (78, 1), (10, 1), (79, 1)] rfl (by decide +kernel)
set_option maxRecDepth 20000 in
theorem gX7_nearBy_X7_answered : GoodIn wsX7_nearBy (wsV RX7 113 RX7 yX7_answered wsX7_answered) := goodIn_s _ [(105, 3), (10, 1), (108, 1), (24, 1), (109, 11)] rfl (by decide +kernel)
set_option maxRecDepth 20000 in
theorem gX7_spoken_X7_troubleOfFigureWithin : GoodIn wsX7_spoken (wsV RX7 181 RX7 yX7_troubleOfFigureWithin wsX7_troubleOfFigureWithin) := goodIn_s _ [(7, 8), (10, 1), (15, 1), (4, 1), (16, 4), (107, 11), (125, 15)] rfl (by decide +kernel)
set_option maxRecDepth 20000 in
theorem gX7_spoken_X7_refused : GoodIn wsX7_spoken (wsV RX7 82 RX7 yX7_refused wsX7_refused) := goodIn_s _ [(20, 3), (10, 1), (23, 2), (107, 11)] rfl (by decide +kernel)
set_option maxRecDepth 20000 in
theorem gX7_spoken_X5_copyFrom : GoodIn wsX7_spoken (wsV RX7 194 RX5 yX5_copyFrom wsX5_copyFrom) := goodIn_s _ [(25, 12), (118, 7)] rfl (by decide +kernel)
set_option maxRecDepth 20000 in
theorem gX7_spoken_X0_partSaid : GoodIn wsX7_spoken (wsV RX7 227 RX0 yX0_partSaid wsX0_partSaid) := goodIn_s _ [(37, 7), (18, 1), (10, 1), (19, 1), (125, 15)] rfl (by decide +kernel)
set_option maxRecDepth 20000 in
theorem gX7_spoken_X0_pass : GoodIn wsX7_spoken (wsV RX7 205 RX0 yX0_pass wsX0_pass) := goodIn_s _ [(44, 3), (40, 1), (47, 10), (40, 1), (57, 1), (42, 2), (18, 1), (10, 1), (19, 1), (58, 10), (28, 1), (68, 1), (33, 1), (69, 20), (38, 2), (41, 1), (89, 14), (31, 2), (118, 26)] rfl (by decide +kernel)
set_option maxRecDepth 20000 in
theorem gX7_spoken_X7_answered : GoodIn wsX7_spoken (wsV RX7 113 RX7 yX7_answered wsX7_answered) := goodIn_s _ [(103, 3), (10, 1), (106, 1), (24, 1), (107, 11)] rfl (by decide +kernel)
set_option maxRecDepth 20000 in
theorem gX7_route_X7_isPlace : GoodIn wsX7_route (wsV RX7 230 RX7 yX7_isPlace wsX7_isPlace) := goodIn_s _ [(2, 9), (5, 1), (11, 1), (140, 26)] rfl (by decide +kernel)
set_option maxRecDepth 20000 in
theorem gX7_route_X7_refused : GoodIn wsX7_route (wsV RX7 82 RX7 yX7_refused wsX7_refused) := goodIn_s _ [(12, 3), (5, 1), (15, 2), (140, 11)] rfl (by decide +kernel)
set_option maxRecDepth 20000 in
theorem gX7_route_X7_within : GoodIn wsX7_route (va_wsS RX7 78 yX7_within wsX7_within) := goodIn_s _ [(9, 2), (5, 1), (11, 1)] rfl (by decide +kernel)
set_option maxRecDepth 20000 in
theorem gX7_route_X7_planRoutes : GoodIn wsX7_route (wsV RX7 233 RX7 yX7_planRoutes wsX7_planRoutes) := goodIn_s _ [(17, 3), (5, 1), (20, 3), (1, 1), (7, 2), (23, 15), (5, 1), (38, 21), (10, 2), (59, 73), (140, 40)] rfl (by decide +kernel)
end P04_good_01
section P04_good_02
set_option maxRecDepth 20000 in
theorem gX7_route_X4_minutesWith : GoodIn wsX7_route (wsV RX7 236 RX4 yX4_minutesWith wsX4_minutesWith) := goodIn_s _ [(132, 3), (111, 1), (135, 1), (122, 2), (10, 1), (5, 1), (11, 1), (177, 3)] rfl (by decide +kernel)
set_option maxRecDepth 20000 in
theorem gX7_route_X7_answered : GoodIn wsX7_route (wsV RX7 113 RX7 yX7_answered wsX7_answered) := goodIn_s _ [(136, 3), (5, 1), (139, 1), (16, 1), (140, 11)] rfl (by decide +kernel)
set_option maxRecDepth 20000 in
theorem gX7_routeAt_X7_isPlace : GoodIn wsX7_routeAt (wsV RX7 230 RX7 yX7_isPlace wsX7_isPlace) := goodIn_s _ [(2, 9), (5, 1), (11, 1), (140, 26)] rfl (by decide +kernel)
set_option maxRecDepth 20000 in
theorem gX7_routeAt_X7_within : GoodIn wsX7_routeAt (va_wsS RX7 78 yX7_within wsX7_within) := goodIn_s _ [(9, 2), (5, 1), (11, 1)] rfl (by decide +kernel)
set_option maxRecDepth 20000 in
theorem gX7_routeAt_X7_refused : GoodIn wsX7_routeAt (wsV RX7 82 RX7 yX7_refused wsX7_refused) := goodIn_s _ [(12, 3), (5, 1), (15, 2), (140, 11)] rfl (by decide +kernel)
set_option maxRecDepth 20000 in
theorem gX7_routeAt_X7_planRoutes : GoodIn wsX7_routeAt (wsV RX7 233 RX7 yX7_planRoutes wsX7_planRoutes) := goodIn_s _ [(17, 3), (5, 1), (20, 3), (1, 1), (7, 2), (23, 15), (5, 1), (38, 21), (10, 2), (59, 73), (140, 40)] rfl (by decide +kernel)
set_option maxRecDepth 20000 in
theorem gX7_routeAt_X4_placeIn : GoodIn wsX7_routeAt (wsV RX7 239 RX4 yX4_placeIn wsX4_placeIn) := goodIn_s _ [(132, 3), (111, 1), (135, 1), (124, 3), (111, 1), (127, 1), (122, 1), (128, 4), (123, 1), (113, 1), (177, 3)] rfl (by decide +kernel)
set_option maxRecDepth 20000 in
theorem gX7_routeAt_X7_answered : GoodIn wsX7_routeAt (wsV RX7 113 RX7 yX7_answered wsX7_answered) := goodIn_s _ [(136, 3), (5, 1), (139, 1), (16, 1), (140, 11)] rfl (by decide +kernel)
set_option maxRecDepth 20000 in
theorem gX7_stand_X7_troubleOfNumber : GoodIn wsX7_stand (wsV RX7 188 RX7 yX7_troubleOfNumber wsX7_troubleOfNumber) := goodIn_s _ [(4, 8), (7, 1), (12, 1), (1, 2), (13, 3), (144, 26)] rfl (by decide +kernel)
set_option maxRecDepth 20000 in
theorem gX7_stand_X7_refused : GoodIn wsX7_stand (wsV RX7 82 RX7 yX7_refused wsX7_refused) := goodIn_s _ [(16, 3), (7, 1), (19, 2), (144, 11)] rfl (by decide +kernel)
set_option maxRecDepth 20000 in
theorem gX7_stand_X7_planRoutes : GoodIn wsX7_stand (wsV RX7 233 RX7 yX7_planRoutes wsX7_planRoutes) := goodIn_s _ [(21, 3), (7, 1), (24, 3), (3, 1), (1, 2), (27, 15), (7, 1), (42, 21), (14, 2), (63, 73), (144, 40)] rfl (by decide +kernel)
set_option maxRecDepth 20000 in
theorem gX7_stand_X4_minutesWith : GoodIn wsX7_stand (wsV RX7 236 RX4 yX4_minutesWith wsX4_minutesWith) := goodIn_s _ [(136, 3), (115, 1), (139, 1), (126, 2), (14, 1), (7, 1), (15, 1), (181, 3)] rfl (by decide +kernel)
set_option maxRecDepth 20000 in
theorem gX7_stand_X7_answered : GoodIn wsX7_stand (wsV RX7 113 RX7 yX7_answered wsX7_answered) := goodIn_s _ [(140, 3), (7, 1), (143, 1), (20, 1), (144, 11)] rfl (by decide +kernel)
set_option maxRecDepth 20000 in
theorem gX7_guard_X7_troubleOfNumber : GoodIn wsX7_guard (wsV RX7 188 RX7 yX7_troubleOfNumber wsX7_troubleOfNumber) := goodIn_s _ [(5, 8), (8, 1), (13, 1), (2, 1), (4, 1), (14, 3), (119, 26)] rfl (by decide +kernel)
set_option maxRecDepth 20000 in
theorem gX7_guard_X7_refused : GoodIn wsX7_guard (wsV RX7 82 RX7 yX7_refused wsX7_refused) := goodIn_s _ [(17, 3), (8, 1), (20, 2), (119, 11)] rfl (by decide +kernel)
set_option maxRecDepth 20000 in
theorem gX7_guard_X6_copyFrom : GoodIn wsX7_guard (wsV RX7 242 RX6 yX6_copyFrom wsX6_copyFrom) := goodIn_s _ [(22, 9), (145, 4)] rfl (by decide +kernel)
set_option maxRecDepth 20000 in
theorem gX7_guard_X7_postsHold : GoodIn wsX7_guard (wsV RX7 245 RX7 yX7_postsHold wsX7_postsHold) := goodIn_s _ [(31, 3), (8, 1), (34, 1), (1, 1), (35, 18), (8, 1), (53, 2), (2, 1), (55, 17), (15, 2), (72, 20), (25, 1), (92, 1), (28, 1), (27, 1), (93, 4), (30, 1), (29, 1), (97, 18), (119, 11), (145, 11), (130, 15)] rfl (by decide +kernel)
set_option maxRecDepth 20000 in
theorem gX7_guard_X7_answered : GoodIn wsX7_guard (wsV RX7 113 RX7 yX7_answered wsX7_answered) := goodIn_s _ [(115, 3), (8, 1), (118, 1), (21, 1), (119, 11)] rfl (by decide +kernel)
set_option maxRecDepth 20000 in
theorem gX7_windBest_X7_hasGallery : GoodIn wsX7_windBest (wsV RX7 154 RX7 yX7_hasGallery wsX7_hasGallery) := goodIn_s _ [(6, 5), (1, 2), (105, 26)] rfl (by decide +kernel)
set_option maxRecDepth 20000 in
theorem gX7_windBest_X7_refused : GoodIn wsX7_windBest (wsV RX7 82 RX7 yX7_refused wsX7_refused) := goodIn_s _ [(11, 3), (9, 1), (14, 2), (105, 11)] rfl (by decide +kernel)
set_option maxRecDepth 20000 in
theorem gX7_windBest_X5_copyFrom : GoodIn wsX7_windBest (wsV RX7 194 RX5 yX5_copyFrom wsX5_copyFrom) := goodIn_s _ [(16, 12), (131, 7)] rfl (by decide +kernel)
set_option maxRecDepth 20000 in
theorem gX7_windBest_X5_startTurn : GoodIn wsX7_windBest (wsV RX7 248 RX5 yX5_startTurn wsX5_startTurn) := goodIn_s _ [(28, 3), (19, 1), (31, 1), (22, 2), (131, 7)] rfl (by decide +kernel)
set_option maxRecDepth 20000 in
theorem gX7_windBest_X7_minutesTillGone : GoodIn wsX7_windBest (wsV RX7 198 RX7 yX7_minutesTillGone wsX7_minutesTillGone) := goodIn_s _ [(32, 3), (9, 1), (35, 1), (3, 1), (36, 1), (1, 1), (37, 18), (9, 1), (55, 11), (19, 1), (66, 1), (24, 1), (67, 34), (29, 3), (22, 2), (105, 11), (131, 7), (116, 15), (138, 4)] rfl (by decide +kernel)
set_option maxRecDepth 20000 in
theorem gX7_windBest_X7_answered : GoodIn wsX7_windBest (wsV RX7 113 RX7 yX7_answered wsX7_answered) := goodIn_s _ [(101, 3), (9, 1), (104, 1), (15, 1), (105, 11)] rfl (by decide +kernel)
set_option maxRecDepth 20000 in
theorem gX7_patrol_X7_isWatcher : GoodIn wsX7_patrol (wsV RX7 135 RX7 yX7_isWatcher wsX7_isWatcher) := goodIn_s _ [(10, 5), (2, 2), (15, 3), (13, 1), (18, 1), (121, 30)] rfl (by decide +kernel)
set_option maxRecDepth 20000 in
theorem gX7_patrol_X7_refused : GoodIn wsX7_patrol (wsV RX7 82 RX7 yX7_refused wsX7_refused) := goodIn_s _ [(19, 3), (13, 1), (22, 2), (121, 11)] rfl (by decide +kernel)
set_option maxRecDepth 20000 in
theorem gX7_patrol_X7_within : GoodIn wsX7_patrol (va_wsS RX7 78 yX7_within wsX7_within) := goodIn_s _ [(16, 2), (13, 1), (18, 1)] rfl (by decide +kernel)
set_option maxRecDepth 20000 in
theorem gX7_patrol_X6_copyFrom : GoodIn wsX7_patrol (wsV RX7 242 RX6 yX6_copyFrom wsX6_copyFrom) := goodIn_s _ [(24, 9), (147, 4)] rfl (by decide +kernel)
set_option maxRecDepth 20000 in
theorem gX7_patrol_X7_runAheadOnTrial : GoodIn wsX7_patrol (wsV RX7 251 RX7 yX7_runAheadOnTrial wsX7_runAheadOnTrial) := goodIn_s _ [(33, 3), (13, 1), (36, 1), (7, 1), (37, 1), (2, 1), (1, 1), (38, 29), (17, 1), (13, 1), (18, 1), (67, 20), (27, 1), (87, 1), (30, 1), (29, 1), (88, 4), (32, 1), (31, 1), (92, 18), (121, 11), (151, 7), (132, 19)] rfl (by decide +kernel)
set_option maxRecDepth 20000 in
theorem gX7_patrol_J6_bitCount_0f7a4 : GoodIn wsX7_patrol (va_wsS RX7 254 yJ6_bitCount_0f7a4 wsJ6_bitCount_0f7a4) := goodIn_s _ [(110, 7)] rfl (by decide +kernel)
set_option maxRecDepth 20000 in
theorem gX7_patrol_X7_answered : GoodIn wsX7_patrol (wsV RX7 113 RX7 yX7_answered wsX7_answered) := goodIn_s _ [(117, 3), (13, 1), (120, 1), (23, 1), (121, 11)] rfl (by decide +kernel)
set_option maxRecDepth 20000 in
theorem gX7_fits_X7_hasGallery : GoodIn wsX7_fits (wsV RX7 154 RX7 yX7_hasGallery wsX7_hasGallery) := goodIn_s _ [(4, 5), (2, 1), (9, 1), (44, 11), (62, 15)] rfl (by decide +kernel)
set_option maxRecDepth 20000 in
theorem gX7_fits_X7_refused : GoodIn wsX7_fits (wsV RX7 82 RX7 yX7_refused wsX7_refused) := goodIn_s _ [(10, 3), (7, 1), (13, 2), (44, 11)] rfl (by decide +kernel)
set_option maxRecDepth 20000 in
theorem gX7_fits_X2_list : GoodIn wsX7_fits (wsV RX7 259 RX2 yX2_list wsX2_list) := goodIn_s _ [(15, 11), (18, 1), (26, 13), (7, 1), (39, 1), (55, 22)] rfl (by decide +kernel)
set_option maxRecDepth 20000 in
theorem gX7_fits_X7_answered : GoodIn wsX7_fits (wsV RX7 113 RX7 yX7_answered wsX7_answered) := goodIn_s _ [(40, 3), (7, 1), (43, 1), (14, 1), (44, 11)] rfl (by decide +kernel)
set_option maxRecDepth 20000 in
theorem gX7_fitAt_X7_hasGallery : GoodIn wsX7_fitAt (wsV RX7 154 RX7 yX7_hasGallery wsX7_hasGallery) := goodIn_s _ [(5, 5), (2, 1), (10, 1), (48, 11), (66, 15)] rfl (by decide +kernel)
set_option maxRecDepth 20000 in
theorem gX7_fitAt_X7_refused : GoodIn wsX7_fitAt (wsV RX7 82 RX7 yX7_refused wsX7_refused) := goodIn_s _ [(11, 3), (8, 1), (14, 2), (48, 11)] rfl (by decide +kernel)
set_option maxRecDepth 20000 in
theorem gX7_fitAt_X2_list : GoodIn wsX7_fitAt (wsV RX7 259 RX2 yX2_list wsX2_list) := goodIn_s _ [(16, 11), (19, 1), (27, 13), (8, 1), (40, 1), (59, 22)] rfl (by decide +kernel)
set_option maxRecDepth 20000 in
theorem gX7_fitAt_X7_within : GoodIn wsX7_fitAt (va_wsS RX7 78 yX7_within wsX7_within) := goodIn_s _ [(41, 2), (8, 1), (43, 1)] rfl (by decide +kernel)
set_option maxRecDepth 20000 in
theorem gX7_fitAt_X7_answered : GoodIn wsX7_fitAt (wsV RX7 113 RX7 yX7_answered wsX7_answered) := goodIn_s _ [(44, 3), (8, 1), (47, 1), (15, 1), (48, 11)] rfl (by decide +kernel)
set_option maxRecDepth 20000 in
theorem gX7_could_X7_troubleOfNumber : GoodIn wsX7_could (wsV RX7 188 RX7 yX7_troubleOfNumber wsX7_troubleOfNumber) := goodIn_s _ [(5, 8), (8, 1), (13, 1), (2, 1), (14, 4), (53, 11), (71, 15)] rfl (by decide +kernel)
set_option maxRecDepth 20000 in
theorem gX7_could_X7_refused : GoodIn wsX7_could (wsV RX7 82 RX7 yX7_refused wsX7_refused) := goodIn_s _ [(18, 3), (8, 1), (21, 2), (53, 11)] rfl (by decide +kernel)
set_option maxRecDepth 20000 in
theorem gX7_could_X2_list : GoodIn wsX7_could (wsV RX7 259 RX2 yX2_list wsX2_list) := goodIn_s _ [(23, 11), (26, 1), (34, 13), (8, 1), (47, 1), (64, 22)] rfl (by decide +kernel)
set_option maxRecDepth 20000 in
theorem gX7_could_X0_aliveByLaw : GoodIn wsX7_could (wsV RX7 269 RX0 yX0_aliveByLaw wsX0_aliveByLaw) := goodIn_s _ [(48, 1), (40, 7), (8, 1), (47, 1), (71, 15)] rfl (by decide +kernel)
set_option maxRecDepth 20000 in
theorem gX7_could_X7_answered : GoodIn wsX7_could (wsV RX7 113 RX7 yX7_answered wsX7_answered) := goodIn_s _ [(49, 3), (8, 1), (52, 1), (22, 1), (53, 11)] rfl (by decide +kernel)
set_option maxRecDepth 20000 in
theorem gX7_aliveBy_X7_troubleOfFigureWithin : GoodIn wsX7_aliveBy (wsV RX7 181 RX7 yX7_troubleOfFigureWithin wsX7_troubleOfFigureWithin) := goodIn_s _ [(5, 8), (8, 1), (13, 1), (2, 1), (14, 4), (53, 11), (71, 15)] rfl (by decide +kernel)
set_option maxRecDepth 20000 in
theorem gX7_aliveBy_X7_refused : GoodIn wsX7_aliveBy (wsV RX7 82 RX7 yX7_refused wsX7_refused) := goodIn_s _ [(18, 3), (8, 1), (21, 2), (53, 11)] rfl (by decide +kernel)
set_option maxRecDepth 20000 in
theorem gX7_aliveBy_X2_list : GoodIn wsX7_aliveBy (wsV RX7 259 RX2 yX2_list wsX2_list) := goodIn_s _ [(23, 11), (26, 1), (34, 13), (8, 1), (47, 1), (64, 22)] rfl (by decide +kernel)
set_option maxRecDepth 20000 in
theorem gX7_aliveBy_X0_aliveByLaw : GoodIn wsX7_aliveBy (wsV RX7 269 RX0 yX0_aliveByLaw wsX0_aliveByLaw) := goodIn_s _ [(48, 1), (40, 7), (8, 1), (47, 1), (71, 15)] rfl (by decide +kernel)
set_option maxRecDepth 20000 in
theorem gX7_aliveBy_X7_answered : GoodIn wsX7_aliveBy (wsV RX7 113 RX7 yX7_answered wsX7_answered) := goodIn_s _ [(49, 3), (8, 1), (52, 1), (22, 1), (53, 11)] rfl (by decide +kernel)
set_option maxRecDepth 20000 in
theorem gX7_look_X7_hasGallery : GoodIn wsX7_look (wsV RX7 154 RX7 yX7_hasGallery wsX7_hasGallery) := goodIn_s _ [(4, 5), (2, 1), (9, 1), (65, 11), (83, 15)] rfl (by decide +kernel)
set_option maxRecDepth 20000 in
theorem gX7_look_X7_refused : GoodIn wsX7_look (wsV RX7 82 RX7 yX7_refused wsX7_refused) := goodIn_s _ [(10, 3), (7, 1), (13, 2), (65, 11)] rfl (by decide +kernel)
set_option maxRecDepth 20000 in
theorem gX7_look_X2_chooseLook : GoodIn wsX7_look (wsV RX7 272 RX2 yX2_chooseLook wsX2_chooseLook) := goodIn_s _ [(15, 14), (18, 1), (29, 18), (7, 1), (47, 14), (76, 22)] rfl (by decide +kernel)
set_option maxRecDepth 20000 in
theorem gX7_look_X7_answered : GoodIn wsX7_look (wsV RX7 113 RX7 yX7_answered wsX7_answered) := goodIn_s _ [(61, 3), (7, 1), (64, 1), (14, 1), (65, 11)] rfl (by decide +kernel)
set_option maxRecDepth 20000 in
theorem gX7_lookLeaves_X7_hasGallery : GoodIn wsX7_lookLeaves (wsV RX7 154 RX7 yX7_hasGallery wsX7_hasGallery) := goodIn_s _ [(4, 5), (2, 1), (9, 1), (65, 11), (83, 15)] rfl (by decide +kernel)
set_option maxRecDepth 20000 in
theorem gX7_lookLeaves_X7_refused : GoodIn wsX7_lookLeaves (wsV RX7 82 RX7 yX7_refused wsX7_refused) := goodIn_s _ [(10, 3), (7, 1), (13, 2), (65, 11)] rfl (by decide +kernel)
set_option maxRecDepth 20000 in
theorem gX7_lookLeaves_X2_chooseLook : GoodIn wsX7_lookLeaves (wsV RX7 272 RX2 yX2_chooseLook wsX2_chooseLook) := goodIn_s _ [(15, 14), (18, 1), (29, 18), (7, 1), (47, 14), (76, 22)] rfl (by decide +kernel)
set_option maxRecDepth 20000 in
theorem gX7_lookLeaves_X7_answered : GoodIn wsX7_lookLeaves (wsV RX7 113 RX7 yX7_answered wsX7_answered) := goodIn_s _ [(61, 3), (7, 1), (64, 1), (14, 1), (65, 11)] rfl (by decide +kernel)
set_option maxRecDepth 20000 in
theorem gX7_lawsLike_X7_hasGallery : GoodIn wsX7_lawsLike (wsV RX7 154 RX7 yX7_hasGallery wsX7_hasGallery) := goodIn_s _ [(3, 5), (1, 2), (30, 26)] rfl (by decide +kernel)
set_option maxRecDepth 20000 in
theorem gX7_lawsLike_X7_refused : GoodIn wsX7_lawsLike (wsV RX7 82 RX7 yX7_refused wsX7_refused) := goodIn_s _ [(8, 3), (6, 1), (11, 2), (30, 11)] rfl (by decide +kernel)
set_option maxRecDepth 20000 in
theorem gX7_lawsLike_X0_goesLike : GoodIn wsX7_lawsLike (wsV RX7 281 RX0 yX0_goesLike wsX0_goesLike) := goodIn_s _ [(13, 10), (16, 1), (23, 3), (41, 15)] rfl (by decide +kernel)
set_option maxRecDepth 20000 in
theorem gX7_lawsLike_X7_answered : GoodIn wsX7_lawsLike (wsV RX7 113 RX7 yX7_answered wsX7_answered) := goodIn_s _ [(26, 3), (6, 1), (29, 1), (12, 1), (30, 11)] rfl (by decide +kernel)
set_option maxRecDepth 20000 in
theorem gX7_lawFor_X7_troubleOfFigureWithin : GoodIn wsX7_lawFor (wsV RX7 181 RX7 yX7_troubleOfFigureWithin wsX7_troubleOfFigureWithin) := goodIn_s _ [(1, 8), (4, 1), (9, 6), (24, 26)] rfl (by decide +kernel)
set_option maxRecDepth 20000 in
theorem gX7_lawFor_X7_refused : GoodIn wsX7_lawFor (wsV RX7 82 RX7 yX7_refused wsX7_refused) := goodIn_s _ [(15, 3), (4, 1), (18, 2), (24, 11)] rfl (by decide +kernel)
set_option maxRecDepth 20000 in
theorem gX7_lawFor_X7_answered : GoodIn wsX7_lawFor (wsV RX7 113 RX7 yX7_answered wsX7_answered) := goodIn_s _ [(20, 3), (4, 1), (23, 1), (19, 1), (24, 11)] rfl (by decide +kernel)
set_option maxRecDepth 20000 in
theorem gX7_judge_X7_hasGallery : GoodIn wsX7_judge (wsV RX7 154 RX7 yX7_hasGallery wsX7_hasGallery) := goodIn_s _ [(8, 5), (1, 1), (13, 1), (32, 26)] rfl (by decide +kernel)
set_option maxRecDepth 20000 in
theorem gX7_judge_X7_refused : GoodIn wsX7_judge (wsV RX7 82 RX7 yX7_refused wsX7_refused) := goodIn_s _ [(14, 3), (11, 1), (17, 2), (32, 11)] rfl (by decide +kernel)
set_option maxRecDepth 20000 in
theorem gX7_judge_X0_aliveByLaw : GoodIn wsX7_judge (wsV RX7 269 RX0 yX0_aliveByLaw wsX0_aliveByLaw) := goodIn_s _ [(19, 8), (11, 1), (27, 1), (43, 15)] rfl (by decide +kernel)
set_option maxRecDepth 20000 in
theorem gX7_judge_X7_answered : GoodIn wsX7_judge (wsV RX7 113 RX7 yX7_answered wsX7_answered) := goodIn_s _ [(28, 3), (11, 1), (31, 1), (18, 1), (32, 11)] rfl (by decide +kernel)
set_option maxRecDepth 20000 in
theorem gX7_dares_X7_troubleOfNumber : GoodIn wsX7_dares (wsV RX7 188 RX7 yX7_troubleOfNumber wsX7_troubleOfNumber) := goodIn_s _ [(2, 8), (5, 1), (10, 6), (26, 26)] rfl (by decide +kernel)
set_option maxRecDepth 20000 in
theorem gX7_dares_X7_attendantShare : GoodIn wsX7_dares (va_wsS RX7 299 yX7_attendantShare wsX7_attendantShare) := goodIn_s _ [(16, 2), (5, 1), (18, 1)] rfl (by decide +kernel)
set_option maxRecDepth 20000 in
theorem gX7_dares_X7_figureShare : GoodIn wsX7_dares (va_wsS RX7 303 yX7_figureShare wsX7_figureShare) := goodIn_s _ [(19, 2), (5, 1), (21, 1)] rfl (by decide +kernel)
set_option maxRecDepth 20000 in
theorem gX7_dares_X7_answered : GoodIn wsX7_dares (wsV RX7 113 RX7 yX7_answered wsX7_answered) := goodIn_s _ [(22, 3), (5, 1), (25, 1), (1, 1), (26, 11)] rfl (by decide +kernel)
set_option maxRecDepth 20000 in
theorem gX7_rests_X7_troubleOfNumber : GoodIn wsX7_rests (wsV RX7 188 RX7 yX7_troubleOfNumber wsX7_troubleOfNumber) := goodIn_s _ [(1, 8), (4, 1), (9, 6), (33, 26)] rfl (by decide +kernel)
set_option maxRecDepth 20000 in
theorem gX7_rests_X7_refused : GoodIn wsX7_rests (wsV RX7 82 RX7 yX7_refused wsX7_refused) := goodIn_s _ [(15, 3), (4, 1), (18, 2), (33, 11)] rfl (by decide +kernel)
set_option maxRecDepth 20000 in
theorem gX7_rests_X7_isRest : GoodIn wsX7_rests (va_wsS RX7 307 yX7_isRest wsX7_isRest) := goodIn_s _ [(20, 2), (4, 1), (22, 3), (4, 1), (25, 4)] rfl (by decide +kernel)
set_option maxRecDepth 20000 in
theorem gX7_rests_X7_answered : GoodIn wsX7_rests (wsV RX7 113 RX7 yX7_answered wsX7_answered) := goodIn_s _ [(29, 3), (4, 1), (32, 1), (19, 1), (33, 11)] rfl (by decide +kernel)
set_option maxRecDepth 20000 in
theorem gX7_rest_X7_troubleOfNumber : GoodIn wsX7_rest (wsV RX7 188 RX7 yX7_troubleOfNumber wsX7_troubleOfNumber) := goodIn_s _ [(1, 8), (4, 1), (9, 6), (33, 26)] rfl (by decide +kernel)
set_option maxRecDepth 20000 in
theorem gX7_rest_X7_refused : GoodIn wsX7_rest (wsV RX7 82 RX7 yX7_refused wsX7_refused) := goodIn_s _ [(15, 3), (4, 1), (18, 2), (33, 11)] rfl (by decide +kernel)
set_option maxRecDepth 20000 in
theorem gX7_rest_X7_isRest : GoodIn wsX7_rest (va_wsS RX7 307 yX7_isRest wsX7_isRest) := goodIn_s _ [(20, 2), (4, 1), (22, 3), (4, 1), (25, 4)] rfl (by decide +kernel)
set_option maxRecDepth 20000 in
theorem gX7_rest_X7_answered : GoodIn wsX7_rest (wsV RX7 113 RX7 yX7_answered wsX7_answered) := goodIn_s _ [(29, 3), (4, 1), (32, 1), (19, 1), (33, 11)] rfl (by decide +kernel)
set_option maxRecDepth 20000 in
theorem gX7_odds_X7_troubleOfFigureWithin : GoodIn wsX7_odds (wsV RX7 181 RX7 yX7_troubleOfFigureWithin wsX7_troubleOfFigureWithin) := goodIn_s _ [(5, 8), (8, 1), (13, 1), (2, 1), (14, 4), (39, 26)] rfl (by decide +kernel)
set_option maxRecDepth 20000 in
theorem gX7_odds_X7_refused : GoodIn wsX7_odds (wsV RX7 82 RX7 yX7_refused wsX7_refused) := goodIn_s _ [(18, 3), (8, 1), (21, 1), (4, 1), (39, 11)] rfl (by decide +kernel)
set_option maxRecDepth 20000 in
theorem gX7_odds_X7_ownTurns : GoodIn wsX7_odds (wsV RX7 311 RX7 yX7_ownTurns wsX7_ownTurns) := goodIn_s _ [(22, 3), (8, 1), (25, 3), (2, 1), (28, 8), (39, 11), (65, 7), (50, 15)] rfl (by decide +kernel)
set_option maxRecDepth 20000 in
theorem gX7_odds_X7_inLowestTerms : GoodIn wsX7_odds (va_wsS RX7 319 yX7_inLowestTerms wsX7_inLowestTerms) := goodIn_s _ [(36, 2), (8, 1), (38, 1)] rfl (by decide +kernel)
set_option maxRecDepth 20000 in
theorem gX7_mean_X7_troubleOfFigureWithin : GoodIn wsX7_mean (wsV RX7 181 RX7 yX7_troubleOfFigureWithin wsX7_troubleOfFigureWithin) := goodIn_s _ [(5, 8), (8, 1), (13, 1), (2, 1), (14, 4), (39, 26)] rfl (by decide +kernel)
set_option maxRecDepth 20000 in
theorem gX7_mean_X7_refused : GoodIn wsX7_mean (wsV RX7 82 RX7 yX7_refused wsX7_refused) := goodIn_s _ [(18, 3), (8, 1), (21, 1), (1, 1), (39, 11)] rfl (by decide +kernel)
set_option maxRecDepth 20000 in
theorem gX7_mean_X7_ownTurns : GoodIn wsX7_mean (wsV RX7 311 RX7 yX7_ownTurns wsX7_ownTurns) := goodIn_s _ [(22, 3), (8, 1), (25, 3), (2, 1), (28, 8), (39, 11), (65, 7), (50, 15)] rfl (by decide +kernel)
set_option maxRecDepth 20000 in
theorem gX7_mean_X7_inLowestTerms : GoodIn wsX7_mean (va_wsS RX7 319 yX7_inLowestTerms wsX7_inLowestTerms) := goodIn_s _ [(36, 2), (8, 1), (38, 1)] rfl (by decide +kernel)
set_option maxRecDepth 20000 in
theorem gX7_drawn_X7_isFigure : GoodIn wsX7_drawn (wsV RX7 116 RX7 yX7_isFigure wsX7_isFigure) := goodIn_s _ [(5, 5), (4, 1), (10, 3), (8, 1), (13, 1), (40, 11), (58, 15)] rfl (by decide +kernel)
set_option maxRecDepth 20000 in
theorem gX7_drawn_X7_refused : GoodIn wsX7_drawn (wsV RX7 82 RX7 yX7_refused wsX7_refused) := goodIn_s _ [(14, 3), (8, 1), (17, 2), (40, 11)] rfl (by decide +kernel)
set_option maxRecDepth 20000 in
theorem gX7_drawn_X7_within : GoodIn wsX7_drawn (va_wsS RX7 78 yX7_within wsX7_within) := goodIn_s _ [(11, 2), (8, 1), (13, 1)] rfl (by decide +kernel)
set_option maxRecDepth 20000 in
theorem gX7_drawn_X7_nextDraw : GoodIn wsX7_drawn (va_wsS RX7 324 yX7_nextDraw wsX7_nextDraw) := goodIn_s _ [(19, 2), (8, 1), (21, 2)] rfl (by decide +kernel)
set_option maxRecDepth 20000 in
theorem gX7_drawn_X0_next : GoodIn wsX7_drawn (wsV RX7 174 RX0 yX0_next wsX0_next) := goodIn_s _ [(23, 8), (58, 15)] rfl (by decide +kernel)
set_option maxRecDepth 20000 in
theorem gX7_drawn_X7_isShut : GoodIn wsX7_drawn (wsV RX7 327 RX7 yX7_isShut wsX7_isShut) := goodIn_s _ [(31, 3), (8, 1), (34, 1), (4, 1), (35, 1), (40, 11), (58, 15)] rfl (by decide +kernel)
set_option maxRecDepth 20000 in
theorem gX7_drawn_X7_answered : GoodIn wsX7_drawn (wsV RX7 113 RX7 yX7_answered wsX7_answered) := goodIn_s _ [(36, 3), (8, 1), (39, 1), (18, 1), (40, 11)] rfl (by decide +kernel)
set_option maxRecDepth 20000 in
theorem gX7_firstShut_X7_hasGallery : GoodIn wsX7_firstShut (wsV RX7 154 RX7 yX7_hasGallery wsX7_hasGallery) := goodIn_s _ [(2, 7), (30, 26)] rfl (by decide +kernel)
set_option maxRecDepth 20000 in
theorem gX7_firstShut_X7_refused : GoodIn wsX7_firstShut (wsV RX7 82 RX7 yX7_refused wsX7_refused) := goodIn_s _ [(9, 3), (5, 1), (12, 2), (30, 11)] rfl (by decide +kernel)
set_option maxRecDepth 20000 in
theorem gX7_firstShut_X7_within : GoodIn wsX7_firstShut (va_wsS RX7 78 yX7_within wsX7_within) := goodIn_s _ [(14, 2), (5, 1), (16, 1)] rfl (by decide +kernel)
set_option maxRecDepth 20000 in
theorem gX7_firstShut_X7_nextDraw : GoodIn wsX7_firstShut (va_wsS RX7 324 yX7_nextDraw wsX7_nextDraw) := goodIn_s _ [(17, 2), (5, 1), (19, 2)] rfl (by decide +kernel)
set_option maxRecDepth 20000 in
theorem gX7_firstShut_X7_isShut : GoodIn wsX7_firstShut (wsV RX7 327 RX7 yX7_isShut wsX7_isShut) := goodIn_s _ [(21, 3), (5, 1), (24, 1), (7, 1), (25, 1), (30, 26)] rfl (by decide +kernel)
set_option maxRecDepth 20000 in
theorem gX7_firstShut_X7_answered : GoodIn wsX7_firstShut (wsV RX7 113 RX7 yX7_answered wsX7_answered) := goodIn_s _ [(26, 3), (5, 1), (29, 1), (13, 1), (30, 11)] rfl (by decide +kernel)
set_option maxRecDepth 20000 in
theorem gX7_go_X7_troubleOfNumber : GoodIn wsX7_go (wsV RX7 188 RX7 yX7_troubleOfNumber wsX7_troubleOfNumber) := goodIn_s _ [(7, 8), (10, 1), (15, 1), (5, 1), (16, 4), (118, 11), (136, 15)] rfl (by decide +kernel)
set_option maxRecDepth 20000 in
theorem gX7_go_X7_refused : GoodIn wsX7_go (wsV RX7 82 RX7 yX7_refused wsX7_refused) := goodIn_s _ [(20, 3), (10, 1), (23, 2), (118, 11)] rfl (by decide +kernel)
set_option maxRecDepth 20000 in
theorem gX7_go_X1_keep : GoodIn wsX7_go (wsV RX7 330 RX1 yX1_keep wsX1_keep) := goodIn_s _ [(25, 24), (151, 5), (129, 7)] rfl (by decide +kernel)
set_option maxRecDepth 20000 in
theorem gX7_go_X0_pass : GoodIn wsX7_go (wsV RX7 205 RX0 yX0_pass wsX0_pass) := goodIn_s _ [(49, 14), (52, 1), (63, 3), (18, 1), (10, 1), (19, 1), (66, 10), (40, 1), (76, 1), (45, 1), (77, 37), (43, 2), (129, 22), (156, 4)] rfl (by decide +kernel)
set_option maxRecDepth 20000 in
theorem gX7_go_X7_answered : GoodIn wsX7_go (wsV RX7 113 RX7 yX7_answered wsX7_answered) := goodIn_s _ [(114, 3), (10, 1), (117, 1), (24, 1), (118, 11)] rfl (by decide +kernel)
set_option maxRecDepth 20000 in
theorem gX7_put_X7_isFigure : GoodIn wsX7_put (wsV RX7 116 RX7 yX7_isFigure wsX7_isFigure) := goodIn_s _ [(4, 9), (7, 1), (13, 1), (53, 11), (71, 15)] rfl (by decide +kernel)
set_option maxRecDepth 20000 in
theorem gX7_put_X7_refused : GoodIn wsX7_put (wsV RX7 82 RX7 yX7_refused wsX7_refused) := goodIn_s _ [(14, 3), (7, 1), (17, 2), (53, 11)] rfl (by decide +kernel)
set_option maxRecDepth 20000 in
theorem gX7_put_X5_isGone : GoodIn wsX7_put (wsV RX7 129 RX5 yX5_isGone wsX5_isGone) := goodIn_s _ [(19, 7), (7, 1), (26, 1), (64, 7)] rfl (by decide +kernel)
set_option maxRecDepth 20000 in
theorem gX7_put_X1_keep : GoodIn wsX7_put (wsV RX7 330 RX1 yX1_keep wsX1_keep) := goodIn_s _ [(27, 15), (22, 1), (42, 4), (24, 1), (46, 3), (86, 5), (64, 7)] rfl (by decide +kernel)
set_option maxRecDepth 20000 in
theorem gX7_put_X7_answered : GoodIn wsX7_put (wsV RX7 113 RX7 yX7_answered wsX7_answered) := goodIn_s _ [(49, 3), (7, 1), (52, 1), (18, 1), (53, 11)] rfl (by decide +kernel)
set_option maxRecDepth 20000 in
theorem gX7_wind_X7_isFigure : GoodIn wsX7_wind (wsV RX7 116 RX7 yX7_isFigure wsX7_isFigure) := goodIn_s _ [(5, 9), (8, 1), (14, 1), (52, 11), (70, 15)] rfl (by decide +kernel)
set_option maxRecDepth 20000 in
theorem gX7_wind_X7_refused : GoodIn wsX7_wind (wsV RX7 82 RX7 yX7_refused wsX7_refused) := goodIn_s _ [(15, 3), (8, 1), (18, 2), (52, 11)] rfl (by decide +kernel)
set_option maxRecDepth 20000 in
theorem gX7_wind_X1_keep : GoodIn wsX7_wind (wsV RX7 330 RX1 yX1_keep wsX1_keep) := goodIn_s _ [(20, 24), (85, 5), (63, 7)] rfl (by decide +kernel)
set_option maxRecDepth 20000 in
theorem gX7_wind_X5_startTurn : GoodIn wsX7_wind (wsV RX7 248 RX5 yX5_startTurn wsX5_startTurn) := goodIn_s _ [(44, 3), (35, 1), (47, 1), (38, 2), (63, 7)] rfl (by decide +kernel)
set_option maxRecDepth 20000 in
theorem gX7_wind_X7_answered : GoodIn wsX7_wind (wsV RX7 113 RX7 yX7_answered wsX7_answered) := goodIn_s _ [(48, 3), (8, 1), (51, 1), (19, 1), (52, 11)] rfl (by decide +kernel)
set_option maxRecDepth 20000 in
theorem gX7_undo_X1_takeLatest : GoodIn wsX7_undo (wsV RX7 333 RX1 yX1_takeLatest wsX1_takeLatest) := goodIn_s _ [(4, 20), (35, 12)] rfl (by decide +kernel)
set_option maxRecDepth 20000 in
theorem gX7_image_X7_hasGallery : GoodIn wsX7_image (wsV RX7 154 RX7 yX7_hasGallery wsX7_hasGallery) := goodIn_s _ [(4, 7), (39, 11), (55, 15)] rfl (by decide +kernel)
set_option maxRecDepth 20000 in
theorem gX7_image_X7_refused : GoodIn wsX7_image (wsV RX7 82 RX7 yX7_refused wsX7_refused) := goodIn_s _ [(11, 3), (7, 1), (14, 2), (39, 11)] rfl (by decide +kernel)
end P04_good_02
section P04_good_03
set_option maxRecDepth 20000 in
theorem gX7_image_X1_addImage : GoodIn wsX7_image (wsV RX7 340 RX1 yX1_addImage wsX1_addImage) := goodIn_s _ [(16, 19), (50, 5), (70, 7)] rfl (by decide +kernel)
set_option maxRecDepth 20000 in
theorem gX7_image_X7_answered : GoodIn wsX7_image (wsV RX7 113 RX7 yX7_answered wsX7_answered) := goodIn_s _ [(35, 3), (7, 1), (38, 1), (15, 1), (39, 11)] rfl (by decide +kernel)
set_option maxRecDepth 20000 in
theorem gX7_back_X1_goBack : GoodIn wsX7_back (wsV RX7 344 RX1 yX1_goBack wsX1_goBack) := goodIn_s _ [(4, 23), (38, 12)] rfl (by decide +kernel)
set_option maxRecDepth 20000 in
theorem gX7_size_X0_sizeTold : GoodIn wsX7_size (wsV RX7 358 RX0 yX0_sizeTold wsX0_sizeTold) := goodIn_s _ [(9, 23), (69, 19)] rfl (by decide +kernel)
set_option maxRecDepth 20000 in
theorem gX7_isFigure_X7_within : GoodIn wsX7_isFigure (va_wsS RX7 78 yX7_within wsX7_within) := goodIn_s _ [(3, 4)] rfl (by decide +kernel)
set_option maxRecDepth 20000 in
theorem gX7_isPlace_X7_within : GoodIn wsX7_isPlace (va_wsS RX7 78 yX7_within wsX7_within) := goodIn_s _ [(3, 4)] rfl (by decide +kernel)
set_option maxRecDepth 20000 in
theorem gX7_isWatcher_X7_within : GoodIn wsX7_isWatcher (va_wsS RX7 78 yX7_within wsX7_within) := goodIn_s _ [(4, 4)] rfl (by decide +kernel)
set_option maxRecDepth 20000 in
theorem gX7_troubleOfNumber_X7_hasGallery : GoodIn wsX7_troubleOfNumber (wsV RX7 154 RX7 yX7_hasGallery wsX7_hasGallery) := goodIn_s _ [(1, 7), (11, 26)] rfl (by decide +kernel)
set_option maxRecDepth 20000 in
theorem gX7_troubleOfNumber_X7_within : GoodIn wsX7_troubleOfNumber (va_wsS RX7 78 yX7_within wsX7_within) := goodIn_s _ [(8, 2), (4, 1), (10, 1)] rfl (by decide +kernel)
set_option maxRecDepth 20000 in
theorem gX7_troubleOfFigureWithin_X7_isFigure : GoodIn wsX7_troubleOfFigureWithin (wsV RX7 116 RX7 yX7_isFigure wsX7_isFigure) := goodIn_s _ [(1, 9), (4, 1), (10, 27)] rfl (by decide +kernel)
set_option maxRecDepth 20000 in
theorem gX7_troubleOfFigureWithin_X7_within : GoodIn wsX7_troubleOfFigureWithin (va_wsS RX7 78 yX7_within wsX7_within) := goodIn_s _ [(8, 2), (4, 1), (10, 1)] rfl (by decide +kernel)
set_option maxRecDepth 20000 in
theorem gX7_turnFromNow_X7_laterTurn : GoodIn wsX7_turnFromNow (va_wsS RX7 364 yX7_laterTurn wsX7_laterTurn) := goodIn_s _ [(7, 4)] rfl (by decide +kernel)
set_option maxRecDepth 20000 in
theorem gX7_roundLength_X7_turnFromNow : GoodIn wsX7_roundLength (wsV RX7 171 RX7 yX7_turnFromNow wsX7_turnFromNow) := goodIn_s _ [(3, 5), (1, 2), (8, 6), (6, 1), (14, 1), (23, 33)] rfl (by decide +kernel)
set_option maxRecDepth 20000 in
theorem gX7_roundLength_X0_next : GoodIn wsX7_roundLength (wsV RX7 174 RX0 yX0_next wsX0_next) := goodIn_s _ [(15, 8), (34, 15)] rfl (by decide +kernel)
set_option maxRecDepth 20000 in
theorem gX7_runAhead_X5_copyFrom : GoodIn wsX7_runAhead (wsV RX7 194 RX5 yX5_copyFrom wsX5_copyFrom) := goodIn_s _ [(3, 12), (100, 7)] rfl (by decide +kernel)
set_option maxRecDepth 20000 in
theorem gX7_runAhead_X7_passAhead : GoodIn wsX7_runAhead (wsV RX7 202 RX7 yX7_passAhead wsX7_passAhead) := goodIn_s _ [(15, 6), (1, 1), (21, 19), (18, 1), (40, 11), (6, 1), (51, 1), (11, 1), (52, 37), (9, 2), (89, 11), (107, 15), (100, 7), (122, 4)] rfl (by decide +kernel)
set_option maxRecDepth 20000 in
theorem gX7_passAhead_X0_pass : GoodIn wsX7_passAhead (wsV RX7 205 RX0 yX0_pass wsX0_pass) := goodIn_s _ [(4, 14), (7, 1), (18, 58), (102, 7), (87, 15), (109, 4)] rfl (by decide +kernel)
set_option maxRecDepth 20000 in
theorem gX7_runAheadOnTrial_X5_copyFrom : GoodIn wsX7_runAheadOnTrial (wsV RX7 194 RX5 yX5_copyFrom wsX5_copyFrom) := goodIn_s _ [(5, 12), (96, 7)] rfl (by decide +kernel)
set_option maxRecDepth 20000 in
theorem gX7_runAheadOnTrial_X0_pass : GoodIn wsX7_runAheadOnTrial (wsV RX7 205 RX0 yX0_pass wsX0_pass) := goodIn_s _ [(17, 14), (20, 1), (31, 16), (8, 1), (47, 1), (13, 1), (48, 37), (11, 2), (96, 26)] rfl (by decide +kernel)
set_option maxRecDepth 20000 in
theorem gX7_placeOfActing_X0_pass : GoodIn wsX7_placeOfActing (wsV RX7 205 RX0 yX0_pass wsX0_pass) := goodIn_s _ [(6, 14), (9, 1), (20, 58), (90, 26)] rfl (by decide +kernel)
set_option maxRecDepth 20000 in
theorem gX7_placeOfActing_X5_isGone : GoodIn wsX7_placeOfActing (wsV RX7 129 RX5 yX5_isGone wsX5_isGone) := goodIn_s _ [(78, 1), (34, 6), (24, 1), (40, 1), (90, 7)] rfl (by decide +kernel)
set_option maxRecDepth 20000 in
theorem gX7_minutesTillGone_X0_pass : GoodIn wsX7_minutesTillGone (wsV RX7 205 RX0 yX0_pass wsX0_pass) := goodIn_s _ [(4, 14), (7, 1), (18, 58), (87, 26)] rfl (by decide +kernel)
set_option maxRecDepth 20000 in
theorem gX7_crowdAt_X5_isGone : GoodIn wsX7_crowdAt (wsV RX7 129 RX5 yX5_isGone wsX5_isGone) := goodIn_s _ [(5, 9), (40, 7)] rfl (by decide +kernel)
set_option maxRecDepth 20000 in
theorem gX7_planRoutes_X5_copyFrom : GoodIn wsX7_planRoutes (wsV RX7 194 RX5 yX5_copyFrom wsX5_copyFrom) := goodIn_s _ [(6, 12), (144, 7)] rfl (by decide +kernel)
set_option maxRecDepth 20000 in
theorem gX7_planRoutes_X7_placeOfActing : GoodIn wsX7_planRoutes (wsV RX7 209 RX7 yX7_placeOfActing wsX7_placeOfActing) := goodIn_s _ [(18, 5), (1, 1), (23, 1), (4, 1), (24, 20), (21, 1), (44, 11), (9, 1), (55, 1), (14, 1), (56, 37), (12, 2), (93, 1), (118, 11), (144, 7), (129, 15), (151, 4)] rfl (by decide +kernel)
set_option maxRecDepth 20000 in
theorem gX7_planRoutes_X4_aim : GoodIn wsX7_planRoutes (wsV RX7 368 RX4 yX4_aim wsX4_aim) := goodIn_s _ [(94, 6), (43, 1), (21, 1), (44, 1), (155, 3)] rfl (by decide +kernel)
set_option maxRecDepth 20000 in
theorem gX7_planRoutes_X4_weigh : GoodIn wsX7_planRoutes (wsV RX7 372 RX4 yX4_weigh wsX4_weigh) := goodIn_s _ [(100, 3), (97, 1), (103, 10), (97, 1), (113, 5), (99, 1), (155, 3)] rfl (by decide +kernel)
set_option maxRecDepth 20000 in
theorem gX7_postsHold_X5_copyFrom : GoodIn wsX7_postsHold (wsV RX7 194 RX5 yX5_copyFrom wsX5_copyFrom) := goodIn_s _ [(5, 12), (106, 7)] rfl (by decide +kernel)
set_option maxRecDepth 20000 in
theorem gX7_postsHold_X7_minutesTillGone : GoodIn wsX7_postsHold (wsV RX7 198 RX7 yX7_minutesTillGone wsX7_minutesTillGone) := goodIn_s _ [(17, 5), (3, 1), (22, 20), (20, 1), (42, 11), (8, 1), (53, 1), (13, 1), (54, 37), (11, 2), (91, 11), (106, 22), (102, 4)] rfl (by decide +kernel)
set_option maxRecDepth 20000 in
theorem gX7_isRest_X7_figureShare : GoodIn wsX7_isRest (va_wsS RX7 303 yX7_figureShare wsX7_figureShare) := goodIn_s _ [(1, 4)] rfl (by decide +kernel)
set_option maxRecDepth 20000 in
theorem gX7_isRest_X7_attendantShare : GoodIn wsX7_isRest (va_wsS RX7 299 yX7_attendantShare wsX7_attendantShare) := goodIn_s _ [(5, 2), (3, 1), (7, 1)] rfl (by decide +kernel)
set_option maxRecDepth 20000 in
theorem gX7_ownTurns_X0_next : GoodIn wsX7_ownTurns (wsV RX7 174 RX0 yX0_next wsX0_next) := goodIn_s _ [(4, 8), (30, 15)] rfl (by decide +kernel)
set_option maxRecDepth 20000 in
theorem gX8_isFigure_X8_in : GoodIn wsX8_isFigure (va_wsS RX8 142 yX8_in wsX8_in) := goodIn_s _ [(3, 4)] rfl (by decide +kernel)
set_option maxRecDepth 20000 in
theorem gX8_isWatcher_X8_in : GoodIn wsX8_isWatcher (va_wsS RX8 142 yX8_in wsX8_in) := goodIn_s _ [(3, 4)] rfl (by decide +kernel)
set_option maxRecDepth 20000 in
theorem gX8_isWatched_X8_hasBit : GoodIn wsX8_isWatched (va_wsS RX8 238 yX8_hasBit wsX8_hasBit) := goodIn_s _ [(3, 4)] rfl (by decide +kernel)
set_option maxRecDepth 20000 in
theorem gX8_isWatched_X8_watcherAt : GoodIn wsX8_isWatched (wsV RX8 242 RX8 yX8_watcherAt wsX8_watcherAt) := goodIn_s _ [(7, 3), (5, 1), (10, 43)] rfl (by decide +kernel)
set_option maxRecDepth 20000 in
theorem gX8_walkOn_X8_isWatched : GoodIn wsX8_walkOn (wsV RX8 245 RX8 yX8_isWatched wsX8_isWatched) := goodIn_s _ [(2, 6), (1, 1), (8, 2), (5, 1), (10, 47)] rfl (by decide +kernel)
set_option maxRecDepth 20000 in
theorem gX8_speakOn_X8_isWatched : GoodIn wsX8_speakOn (wsV RX8 245 RX8 yX8_isWatched wsX8_isWatched) := goodIn_s _ [(3, 6), (1, 1), (9, 2), (6, 1), (11, 47)] rfl (by decide +kernel)
set_option maxRecDepth 20000 in
theorem gX8_minuteOn_X8_hasBit : GoodIn wsX8_minuteOn (va_wsS RX8 238 yX8_hasBit wsX8_hasBit) := goodIn_s _ [(5, 4)] rfl (by decide +kernel)
set_option maxRecDepth 20000 in
theorem gX8_minuteOn_X8_walkOn : GoodIn wsX8_minuteOn (wsV RX8 251 RX8 yX8_walkOn wsX8_walkOn) := goodIn_s _ [(9, 3), (7, 1), (12, 1), (2, 1), (13, 3), (7, 1), (16, 2), (5, 2), (8, 1), (18, 6), (32, 40)] rfl (by decide +kernel)
set_option maxRecDepth 20000 in
theorem gX8_minuteOn_X8_speakOn : GoodIn wsX8_minuteOn (wsV RX8 255 RX8 yX8_speakOn wsX8_speakOn) := goodIn_s _ [(24, 3), (7, 1), (27, 1), (2, 1), (1, 1), (13, 3), (7, 1), (16, 2), (5, 2), (8, 1), (18, 6), (32, 40)] rfl (by decide +kernel)
set_option maxRecDepth 20000 in
theorem gX8_minuteOn_X8_nextOf : GoodIn wsX8_minuteOn (wsV RX8 264 RX8 yX8_nextOf wsX8_nextOf) := goodIn_s _ [(28, 3), (7, 1), (31, 1), (2, 1), (32, 40)] rfl (by decide +kernel)
end P04_good_03
section P05_ax
section AX
/-- a contract's start: the heap's size, the world, the classes, and what else is known -/
def ax_C (dC : Nat → ClassId) (dI : Nat → Nat → Nat) (sz : Nat) (ws : va_W) (tys : List (ClassId × FieldType)) (E : State → Prop) (U : State) : Prop :=
  U.heap.size = sz ∧ va_P (dC, dI) vwCl ws U.heap ∧ va_K (dC, dI) vwCl tys U ∧ va_D (fun _ => True) ws ∧ E U
/-- the world behind it -/
def ax_B (dC : Nat → ClassId) (dI : Nat → Nat → Nat) (A : Nat → Prop) (ws : va_W) (tys : List (ClassId × FieldType)) (t : State) : Prop :=
  va_P (dC, dI) vwCl ws t.heap ∧ va_K (dC, dI) vwCl tys t ∧ va_D A ws
theorem ax_blind {av : List Value} {dC : Nat → ClassId} {dI : Nat → Nat → Nat} {sz : Nat} {ws : va_W} {tys : List (ClassId × FieldType)} {E : State → Prop}
    (hE : ∀ (a : Array Value) (U : State) (g : JFrame) (mk : MethodId), E U → E (U.calling g mk a)) : FrameBlind (va_Pc av (ax_C dC dI sz ws tys E)) :=
  fun a U g mk q => ⟨q.1, q.2.1, q.2.2.1, va_K.moved (u := U) (U := U.calling g mk a) (Vm.Alike.refl U.vm) q.2.2.2.1, q.2.2.2.2.1, hE a U g mk q.2.2.2.2.2⟩
theorem ax_pre {av : List Value} {s : State} {H : Heap} {A : Nat → Prop} {dC : Nat → ClassId} {dI : Nat → Nat → Nat} {ws : va_W} {tys : List (ClassId × FieldType)} {E : State → Prop}
    (hP : va_P (dC, dI) vwCl ws H) (hK : va_K (dC, dI) vwCl tys s) (hD : va_D A ws) (hE : ∀ U : State, s.WarmedH U.vm → E U) :
    ∀ U : State, U.heap = H → s.WarmedH U.vm → va_Pc av (ax_C dC dI H.size ws tys E) av.toArray U :=
  fun U hU hW => ⟨rfl, by rw [hU], by rw [hU]; exact hP, va_K.moved hW.alike hK, hD.weaken (fun _ _ _ _ => trivial), hE U hW⟩
theorem ax_ti {p : Program} {l : Launch} {e : Env} {R : Room} {s : State} {m : MethodId} {args : Array Value} {below : List Frame} {meth : Method} {c : Code} {H : Heap} {locs : List Loc} {cells slots : Nat} {Q : State → Prop} {pc : Nat} {ls : Array Slot} {rest : List Value} {x : Int32} (v : Int32) (h : x = v)
    (k : W p l e R s m args below meth c H locs cells slots Q (F0 m pc ls (.int v :: rest))) : W p l e R s m args below meth c H locs cells slots Q (F0 m pc ls (.int x :: rest)) := by
  subst h; exact k
end AX
theorem dfX0 : ∀ j, j < 15 → defaultValue (tyX0 j) = vp_V [.int 0, .int 0, .int 0, .int 0, .int 0, .int 0, .int 0, .int 0, .int 0, .int 0, .null, .null, .null, .null, .null] j := fun j hj => by
  rcases (show j = 0 ∨ j = 1 ∨ j = 2 ∨ j = 3 ∨ j = 4 ∨ j = 5 ∨ j = 6 ∨ j = 7 ∨ j = 8 ∨ j = 9 ∨ j = 10 ∨ j = 11 ∨ j = 12 ∨ j = 13 ∨ j = 14 by omega) with rfl | rfl | rfl | rfl | rfl | rfl | rfl | rfl | rfl | rfl | rfl | rfl | rfl | rfl | rfl <;> rfl
theorem dfX1 : ∀ j, j < 5 → defaultValue (tyX1 j) = vp_V [.int 0, .int 0, .int 0, .null, .null] j := fun j hj => by
  rcases (show j = 0 ∨ j = 1 ∨ j = 2 ∨ j = 3 ∨ j = 4 by omega) with rfl | rfl | rfl | rfl | rfl <;> rfl
theorem dfX2 : ∀ j, j < 7 → defaultValue (tyX2 j) = vp_V [.int 0, .int 0, .int 0, .null, .null, .int 0, .int 0] j := fun j hj => by
  rcases (show j = 0 ∨ j = 1 ∨ j = 2 ∨ j = 3 ∨ j = 4 ∨ j = 5 ∨ j = 6 by omega) with rfl | rfl | rfl | rfl | rfl | rfl | rfl <;> rfl
theorem dfX3 : ∀ j, j < 14 → defaultValue (tyX3 j) = vp_V [.int 0, .int 0, .int 0, .null, .null, .null, .int 0, .int 0, .int 0, .int 0, .int 0, .long 0, .int 0, .int 0] j := fun j hj => by
  rcases (show j = 0 ∨ j = 1 ∨ j = 2 ∨ j = 3 ∨ j = 4 ∨ j = 5 ∨ j = 6 ∨ j = 7 ∨ j = 8 ∨ j = 9 ∨ j = 10 ∨ j = 11 ∨ j = 12 ∨ j = 13 by omega) with rfl | rfl | rfl | rfl | rfl | rfl | rfl | rfl | rfl | rfl | rfl | rfl | rfl | rfl <;> rfl
theorem dfX4 : ∀ j, j < 3 → defaultValue (tyX4 j) = vp_V [.int 0, .null, .null] j := fun j hj => by
  rcases (show j = 0 ∨ j = 1 ∨ j = 2 by omega) with rfl | rfl | rfl <;> rfl
theorem dfX5 : ∀ j, j < 7 → defaultValue (tyX5 j) = vp_V [.int 0, .int 0, .int 0, .int 0, .int 0, .null, .null] j := fun j hj => by
  rcases (show j = 0 ∨ j = 1 ∨ j = 2 ∨ j = 3 ∨ j = 4 ∨ j = 5 ∨ j = 6 by omega) with rfl | rfl | rfl | rfl | rfl | rfl | rfl <;> rfl
theorem dfX6 : ∀ j, j < 4 → defaultValue (tyX6 j) = vp_V [.int 0, .int 0, .null, .null] j := fun j hj => by
  rcases (show j = 0 ∨ j = 1 ∨ j = 2 ∨ j = 3 by omega) with rfl | rfl | rfl | rfl <;> rfl
theorem dfX7 : ∀ j, j < 11 → defaultValue (tyX7 j) = vp_V [.null, .null, .null, .null, .null, .null, .null, .null, .int 0, .int 0, .int 0] j := fun j hj => by
  rcases (show j = 0 ∨ j = 1 ∨ j = 2 ∨ j = 3 ∨ j = 4 ∨ j = 5 ∨ j = 6 ∨ j = 7 ∨ j = 8 ∨ j = 9 ∨ j = 10 by omega) with rfl | rfl | rfl | rfl | rfl | rfl | rfl | rfl | rfl | rfl | rfl <;> rfl
theorem dfX8 : ∀ j, j < 40 → defaultValue (tyX8 j) = vp_V [.int 0, .null, .int 0, .int 0, .int 0, .int 0, .int 0, .int 0, .int 0, .int 0, .int 0, .int 0, .null, .int 0, .int 0, .null, .null, .null, .null, .null, .null, .int 0, .int 0, .null, .null, .int 0, .int 0, .int 0, .int 0, .null, .int 0, .int 0, .null, .null, .null, .null, .int 0, .int 0, .int 0, .int 0] j := fun j hj => by
  rcases (show j = 0 ∨ j = 1 ∨ j = 2 ∨ j = 3 ∨ j = 4 ∨ j = 5 ∨ j = 6 ∨ j = 7 ∨ j = 8 ∨ j = 9 ∨ j = 10 ∨ j = 11 ∨ j = 12 ∨ j = 13 ∨ j = 14 ∨ j = 15 ∨ j = 16 ∨ j = 17 ∨ j = 18 ∨ j = 19 ∨ j = 20 ∨ j = 21 ∨ j = 22 ∨ j = 23 ∨ j = 24 ∨ j = 25 ∨ j = 26 ∨ j = 27 ∨ j = 28 ∨ j = 29 ∨ j = 30 ∨ j = 31 ∨ j = 32 ∨ j = 33 ∨ j = 34 ∨ j = 35 ∨ j = 36 ∨ j = 37 ∨ j = 38 ∨ j = 39 by omega) with rfl | rfl | rfl | rfl | rfl | rfl | rfl | rfl | rfl | rfl | rfl | rfl | rfl | rfl | rfl | rfl | rfl | rfl | rfl | rfl | rfl | rfl | rfl | rfl | rfl | rfl | rfl | rfl | rfl | rfl | rfl | rfl | rfl | rfl | rfl | rfl | rfl | rfl | rfl | rfl <;> rfl
theorem mnX1_keep : (Cond.code Lib.Math.min.name Lib.Math.min.code 2 (some .int)) ∈ wsX1_keep := List.mem_of_getElem? (i := 7) rfl
theorem mnX4_weigh : (Cond.code Lib.Math.min.name Lib.Math.min.code 2 (some .int)) ∈ wsX4_weigh := List.mem_of_getElem? (i := 4) rfl
theorem mxX2_mostOf : (Cond.code Lib.Math.max.name Lib.Math.max.code 2 (some .int)) ∈ wsX2_mostOf := List.mem_of_getElem? (i := 5) rfl
theorem mbX7_farthest : (Cond.code Lib.Math.abs.name Lib.Math.abs.code 1 (some .int)) ∈ wsX7_farthest := List.mem_of_getElem? (i := 8) rfl
end P05_ax
section P06_ai2
theorem ai_mulpos {z x y : Int} (e : z = x * y) (h : 1 ≤ z) (hx : 0 ≤ x) : 1 ≤ x := by
  have h1 : x ≠ 0 := fun h0 => by rw [h0, Int.zero_mul] at e; omega
  omega
theorem ax_tv {p : Program} {l : Launch} {e : Env} {R : Room} {s : State} {m : MethodId} {args : Array Value} {below : List Frame} {meth : Method} {c : Code} {H : Heap} {locs : List Loc} {cells slots : Nat} {Q : State → Prop} {pc : Nat} {ls : Array Slot} {rest : List Value} {x : Value} (v : Value) (h : x = v)
    (k : W p l e R s m args below meth c H locs cells slots Q (F0 m pc ls (v :: rest))) : W p l e R s m args below meth c H locs cells slots Q (F0 m pc ls (x :: rest)) := by
  subst h; exact k
theorem ai_updm {f : Nat → Int32} {a b : Int} (h : ∀ k, a ≤ (f k).toInt ∧ (f k).toInt ≤ b ∧ (f k).toInt % 10 ≤ 8) (i : Nat) {v : Int32} (hv : a ≤ v.toInt ∧ v.toInt ≤ b ∧ v.toInt % 10 ≤ 8) : ∀ k, a ≤ (upd f i v k).toInt ∧ (upd f i v k).toInt ≤ b ∧ (upd f i v k).toInt % 10 ≤ 8 := by
  intro k; unfold upd; split
  · exact hv
  · exact h k
theorem ai_rem2 {x y z : Int32} {d : Int} (e : z = x - x / y * y) (hx : 0 ≤ x.toInt) (hy : 0 < y.toInt) (hd : y.toInt ≤ d) : z.toInt = x.toInt % y.toInt ∧ 0 ≤ z.toInt ∧ z.toInt ≤ d - 1 := by
  obtain ⟨q1, q2, q3⟩ := ai_div (rfl : x / y = x / y) ⟨hx, ai_max x⟩ hy
  have h0 := Int.emod_nonneg x.toInt (show y.toInt ≠ 0 by omega)
  have h1 := Int.emod_lt_of_pos x.toInt hy
  have h2 := Int.emod_def x.toInt y.toInt
  rw [Int.mul_comm] at h2
  have hm := ai_max x
  have hp : 0 ≤ x.toInt / y.toInt * y.toInt := Int.mul_nonneg (Int.ediv_nonneg hx (by omega)) (by omega)
  have e1 : (x / y * y).toInt = x.toInt / y.toInt * y.toInt := by
    rw [Int32.toInt_mul, q1]
    generalize x.toInt / y.toInt * y.toInt = P at h2 hp ⊢
    exact Int.bmod_eq_of_le (by omega) (by omega)
  have e2 : z.toInt = x.toInt - x.toInt / y.toInt * y.toInt := by
    subst e
    rw [Int32.toInt_sub, e1]
    generalize x.toInt / y.toInt * y.toInt = P at h2 hp ⊢
    exact Int.bmod_eq_of_le (by omega) (by omega)
  rw [← h2] at e2
  exact ⟨e2, by omega, by omega⟩
end P06_ai2
section P07_ai3
section AI3
theorem ai_natle {i : Int32} {b : Int} {n : Nat} (h : i.toInt ≤ b) (hb : b ≤ (n : Int)) : i.toNatClampNeg ≤ n := by
  have e : i.toNatClampNeg = i.toInt.toNat := rfl
  omega
theorem ai_natge {i : Int32} {a : Int} {n : Nat} (h : a ≤ i.toInt) (ha : (n : Int) ≤ a) : n ≤ i.toNatClampNeg := by
  have e : i.toNatClampNeg = i.toInt.toNat := rfl
  omega
theorem ai_rd {f : Nat → Int32} {k0 k1 : Nat} {lo hi a b : Int} {i : Int32} (h : ∀ k : Nat, k0 ≤ k → k ≤ k1 → lo ≤ (f k).toInt ∧ (f k).toInt ≤ hi) (h1 : a ≤ i.toInt) (h2 : i.toInt ≤ b) (h3 : (k0 : Int) ≤ a) (h4 : b ≤ (k1 : Int)) (_ : 0 ≤ (0 : Nat)) : lo ≤ (f i.toNatClampNeg).toInt ∧ (f i.toNatClampNeg).toInt ≤ hi := h _ (ai_natge h1 h3) (ai_natle h2 h4)
theorem ai_nlt_of {i : Int32} {a b : Int} {n : Nat} (h1 : a ≤ i.toInt) (h2 : i.toInt ≤ b) (h3 : 0 ≤ a) (h4 : b < (n : Int)) : i.toNatClampNeg < n := by
  have e : i.toNatClampNeg = i.toInt.toNat := rfl
  omega
theorem ai_ngt_of {i : Int32} {a : Int} {n : Nat} (h1 : a ≤ i.toInt) (h3 : 0 ≤ a) (h4 : (n : Int) < a) : n < i.toNatClampNeg := by
  have e : i.toNatClampNeg = i.toInt.toNat := rfl
  omega
theorem ai_updS {f : Nat → Int32} {k0 k1 : Nat} {lo hi : Int} (h : ∀ k : Nat, k0 ≤ k → k ≤ k1 → lo ≤ (f k).toInt ∧ (f k).toInt ≤ hi) (i : Nat) {v : Int32} (hv : lo ≤ v.toInt ∧ v.toInt ≤ hi) : ∀ k : Nat, k0 ≤ k → k ≤ k1 → lo ≤ (upd f i v k).toInt ∧ (upd f i v k).toInt ≤ hi := by
  intro k h1 h2; unfold upd; split
  · exact hv
  · exact h k h1 h2
theorem ai_updO {f : Nat → Int32} {k0 k1 : Nat} {lo hi : Int} (h : ∀ k : Nat, k0 ≤ k → k ≤ k1 → lo ≤ (f k).toInt ∧ (f k).toInt ≤ hi) (i : Nat) {v : Int32} (hi9 : i < k0 ∨ k1 < i) : ∀ k : Nat, k0 ≤ k → k ≤ k1 → lo ≤ (upd f i v k).toInt ∧ (upd f i v k).toInt ≤ hi := by
  intro k h1 h2; unfold upd; split
  · rename_i e; exact absurd e (by omega)
  · exact h k h1 h2
theorem ai_one {f : Nat → Int32} {n : Nat} {lo hi : Int} (h : lo ≤ (f n).toInt ∧ (f n).toInt ≤ hi) : ∀ k : Nat, n ≤ k → k ≤ n → lo ≤ (f k).toInt ∧ (f k).toInt ≤ hi := by
  intro k h1 h2
  have e : k = n := by omega
  rw [e]; exact h
theorem ai_new {f : Nat → Int32} {n i : Nat} {lo hi : Int} {v : Int32} (e : i = n) (h : lo ≤ v.toInt ∧ v.toInt ≤ hi) : ∀ k : Nat, n ≤ k → k ≤ n → lo ≤ (upd f i v k).toInt ∧ (upd f i v k).toInt ≤ hi := by
  intro k h1 h2
  have e2 : k = i := by omega
  unfold upd; rw [if_pos e2]; exact h
theorem ai_k1 {f : Nat → Int32} {n i : Nat} {v : Int32} (e : i = n) : upd f i v n = v := by
  unfold upd; rw [if_pos e.symm]
theorem ai_k2 {f : Nat → Int32} {n i : Nat} {v y : Int32} (e : i ≠ n) (h : f n = y) : upd f i v n = y := by
  unfold upd; rw [if_neg (fun q => e q.symm)]; exact h
theorem ai_neg {x z : Int32} {a : Int} (e : z = -x) (h : a ≤ x.toInt) (ha : -2147483648 < a) : z.toInt = -x.toInt := by
  have h1 := ai_max x
  subst e; rw [Int32.toInt_neg]; exact Int.bmod_eq_of_le (by omega) (by omega)
end AI3
end P07_ai3
section P08_zc
theorem zr_0 {s : State} {H : Heap} {D : va_G} {a q0 : Nat} {fs : List Value} {ws : va_W} {tys : List (ClassId × FieldType)} (hK : va_K D vwCl tys s) (hP : va_P D vwCl ws H) (he : ws[q0]? = some (a, .inr (0, fs))) : ∃ cell : Cell, H[a]? = some cell ∧ cell.vm.isStatics = false ∧ s.vm.findClass RX0 = some cell.cls := va_recv hK hP (ci := 0) (q0 := q0) rfl he
theorem zr_1 {s : State} {H : Heap} {D : va_G} {a q0 : Nat} {fs : List Value} {ws : va_W} {tys : List (ClassId × FieldType)} (hK : va_K D vwCl tys s) (hP : va_P D vwCl ws H) (he : ws[q0]? = some (a, .inr (1, fs))) : ∃ cell : Cell, H[a]? = some cell ∧ cell.vm.isStatics = false ∧ s.vm.findClass RX1 = some cell.cls := va_recv hK hP (ci := 1) (q0 := q0) rfl he
theorem zr_2 {s : State} {H : Heap} {D : va_G} {a q0 : Nat} {fs : List Value} {ws : va_W} {tys : List (ClassId × FieldType)} (hK : va_K D vwCl tys s) (hP : va_P D vwCl ws H) (he : ws[q0]? = some (a, .inr (2, fs))) : ∃ cell : Cell, H[a]? = some cell ∧ cell.vm.isStatics = false ∧ s.vm.findClass RX2 = some cell.cls := va_recv hK hP (ci := 2) (q0 := q0) rfl he
theorem zr_3 {s : State} {H : Heap} {D : va_G} {a q0 : Nat} {fs : List Value} {ws : va_W} {tys : List (ClassId × FieldType)} (hK : va_K D vwCl tys s) (hP : va_P D vwCl ws H) (he : ws[q0]? = some (a, .inr (3, fs))) : ∃ cell : Cell, H[a]? = some cell ∧ cell.vm.isStatics = false ∧ s.vm.findClass RX3 = some cell.cls := va_recv hK hP (ci := 3) (q0 := q0) rfl he
theorem zr_4 {s : State} {H : Heap} {D : va_G} {a q0 : Nat} {fs : List Value} {ws : va_W} {tys : List (ClassId × FieldType)} (hK : va_K D vwCl tys s) (hP : va_P D vwCl ws H) (he : ws[q0]? = some (a, .inr (4, fs))) : ∃ cell : Cell, H[a]? = some cell ∧ cell.vm.isStatics = false ∧ s.vm.findClass RX4 = some cell.cls := va_recv hK hP (ci := 4) (q0 := q0) rfl he
theorem zr_5 {s : State} {H : Heap} {D : va_G} {a q0 : Nat} {fs : List Value} {ws : va_W} {tys : List (ClassId × FieldType)} (hK : va_K D vwCl tys s) (hP : va_P D vwCl ws H) (he : ws[q0]? = some (a, .inr (5, fs))) : ∃ cell : Cell, H[a]? = some cell ∧ cell.vm.isStatics = false ∧ s.vm.findClass RX5 = some cell.cls := va_recv hK hP (ci := 5) (q0 := q0) rfl he
theorem zr_6 {s : State} {H : Heap} {D : va_G} {a q0 : Nat} {fs : List Value} {ws : va_W} {tys : List (ClassId × FieldType)} (hK : va_K D vwCl tys s) (hP : va_P D vwCl ws H) (he : ws[q0]? = some (a, .inr (6, fs))) : ∃ cell : Cell, H[a]? = some cell ∧ cell.vm.isStatics = false ∧ s.vm.findClass RX6 = some cell.cls := va_recv hK hP (ci := 6) (q0 := q0) rfl he
theorem zr_7 {s : State} {H : Heap} {D : va_G} {a q0 : Nat} {fs : List Value} {ws : va_W} {tys : List (ClassId × FieldType)} (hK : va_K D vwCl tys s) (hP : va_P D vwCl ws H) (he : ws[q0]? = some (a, .inr (7, fs))) : ∃ cell : Cell, H[a]? = some cell ∧ cell.vm.isStatics = false ∧ s.vm.findClass RX7 = some cell.cls := va_recv hK hP (ci := 7) (q0 := q0) rfl he
theorem zr_8 {s : State} {H : Heap} {D : va_G} {a q0 : Nat} {fs : List Value} {ws : va_W} {tys : List (ClassId × FieldType)} (hK : va_K D vwCl tys s) (hP : va_P D vwCl ws H) (he : ws[q0]? = some (a, .inr (8, fs))) : ∃ cell : Cell, H[a]? = some cell ∧ cell.vm.isStatics = false ∧ s.vm.findClass RX8 = some cell.cls := va_recv hK hP (ci := 8) (q0 := q0) rfl he
section ZC
theorem zc_key {ws wc : va_W} {is : List Nat} (hs : is.map (fun i => ws[i]?) = wc.map some) (k : Nat) (q : Nat × va_E) (hq : wc[k]? = some q) : ∃ i, is[k]? = some i ∧ ws[i]? = some q := by
  have h1 : (is.map (fun i => ws[i]?))[k]? = some (some q) := by rw [hs, List.getElem?_map, hq]; rfl
  rw [List.getElem?_map] at h1
  cases hi : is[k]? with
  | none => rw [hi] at h1; cases h1
  | some i => rw [hi] at h1; exact ⟨i, rfl, Option.some.inj h1⟩
/-- a callee's world out of the caller's: its cells, apart, free, and the places -/
theorem zc_cut {A0 : Nat → Prop} {D : va_G} {cl : List vw_C} {ws wc : va_W} {H0 H : Heap} {locs : List Loc} (hP : va_P D cl ws H) (hD : va_D A0 ws) (hS : va_S A0 H0 H locs) (hA : ∀ q, H0.size ≤ q → A0 q) (is : List Nat) (hn : va_nd is = true) (hC : is.map (fun i => ws[i]?) = wc.map some) : va_P D cl wc H ∧ va_D A0 wc ∧ (∀ q, va_A wc H.size q → A0 q) ∧ is.map (fun i => ws[i]?) = wc.map some :=
  ⟨fun k q hk => by obtain ⟨i, -, h2⟩ := zc_key hC k q hk; exact hP i q h2, hD.sub is hn hC, va_free hD hS hA is hC, hC⟩
def zc_f (ws w1 : va_W) : Sum Nat Nat → Option (Nat × va_E) := Sum.elim (fun i => ws[i]?) (fun j => w1[j]?)
def zc_code : Sum Nat Nat → Nat := Sum.elim (fun i => 2 * i) (fun j => 2 * j + 1)
def zc_ok (isC : List Nat) (sel : List (Sum Nat Nat)) : Bool := va_nd (sel.map zc_code) && sel.all (Sum.elim (fun i => !decide (i ∈ isC)) (fun _ => true))
/-- behind a call: the caller's other cells and the callee's, in the order that sel says -/
theorem zc_back {A0 : Nat → Prop} {D : va_G} {cl : List vw_C} {ws wc w1 w : va_W} {H H1 : Heap} {isC : List Nat} (hP : va_P D cl ws H) (hD : va_D A0 ws) (hC : isC.map (fun i => ws[i]?) = wc.map some) (hk : ∀ q : Nat, q < H.size → ¬ va_A wc H.size q → H1[q]? = H[q]?) (hF : ∀ q, va_A wc H.size q → A0 q) (hP1 : va_P D cl w1 H1) (hD1 : va_D (va_A wc H.size) w1) (sel : List (Sum Nat Nat)) (ho : zc_ok isC sel = true) (hw : sel.map (zc_f ws w1) = w.map some) : va_P D cl w H1 ∧ va_D A0 w := by
  unfold zc_ok at ho
  rw [Bool.and_eq_true] at ho
  obtain ⟨hn, ha⟩ := ho
  have key : ∀ (k : Nat) (q : Nat × va_E), w[k]? = some q → ∃ c, sel[k]? = some c ∧ zc_f ws w1 c = some q := by
    intro k q hq
    have h1 : (sel.map (zc_f ws w1))[k]? = some (some q) := by rw [hw, List.getElem?_map, hq]; rfl
    rw [List.getElem?_map] at h1
    cases hi : sel[k]? with
    | none => rw [hi] at h1; cases h1
    | some i => rw [hi] at h1; exact ⟨i, rfl, Option.some.inj h1⟩
  have apart : ∀ (k i : Nat) (q : Nat × va_E), sel[k]? = some (.inl i) → ws[i]? = some q → q.1 < H.size ∧ ¬ va_A wc H.size q.1 := by
    intro k i q h1 h2
    have hl := (hP i q h2).lt
    refine ⟨hl, fun h => ?_⟩
    rcases h with ⟨k2, e, h⟩ | h
    · obtain ⟨j, h3, h4⟩ := zc_key hC k2 (q.1, e) h
      have hij := hD.1 i j q (q.1, e) h2 h4 rfl
      subst hij
      have h5 := List.all_eq_true.mp ha (.inl i) (List.mem_of_getElem? h1)
      have h6 : (!decide (i ∈ isC)) = true := h5
      rw [decide_eq_true (List.mem_of_getElem? h3)] at h6
      exact absurd h6 (by decide)
    · omega
  have code : ∀ (a b : Nat) (c : Sum Nat Nat), sel[a]? = some c → sel[b]? = some c → a = b := by
    intro a b c h1 h2
    exact va_nd_inj _ hn a b (zc_code c) (by rw [List.getElem?_map, h1]; rfl) (by rw [List.getElem?_map, h2]; rfl)
  refine ⟨fun k q hq => ?_, fun a b x y ha' hb' hxy => ?_, fun k q hq => ?_⟩
  · obtain ⟨c, h1, h2⟩ := key k q hq
    cases c with
    | inl i =>
      have h2 : ws[i]? = some q := h2
      obtain ⟨g1, g2⟩ := apart k i q h1 h2
      exact (hP i q h2).kept (hk q.1 g1 g2)
    | inr j => exact hP1 j q h2
  · obtain ⟨c, h1, h2⟩ := key a x ha'
    obtain ⟨d, h3, h4⟩ := key b y hb'
    cases c with
    | inl i =>
      have h2 : ws[i]? = some x := h2
      cases d with
      | inl j =>
        have h4 : ws[j]? = some y := h4
        have hij := hD.1 i j x y h2 h4 hxy
        subst hij
        exact code a b _ h1 h3
      | inr j =>
        have h4 : w1[j]? = some y := h4
        exact absurd (hD1.2 j y h4) (by rw [← hxy]; exact (apart a i x h1 h2).2)
    | inr i =>
      have h2 : w1[i]? = some x := h2
      cases d with
      | inl j =>
        have h4 : ws[j]? = some y := h4
        exact absurd (hD1.2 i x h2) (by rw [hxy]; exact (apart b j y h3 h4).2)
      | inr j =>
        have h4 : w1[j]? = some y := h4
        have hij := hD1.1 i j x y h2 h4 hxy
        subst hij
        exact code a b _ h1 h3
  · obtain ⟨c, h1, h2⟩ := key k q hq
    cases c with
    | inl i => exact hD.2 i q h2
    | inr j => exact hF q.1 (hD1.2 j q h2)
theorem zc_re {A0 : Nat → Prop} {D : va_G} {cl : List vw_C} {ws w : va_W} {H : Heap} (hP : va_P D cl ws H) (hD : va_D A0 ws) (h : ws = w) : va_P D cl w H ∧ va_D A0 w := by
  subst h; exact ⟨hP, hD⟩
end ZC
theorem zq0 : (1 : Int32).toInt ≤ (1 : Int) := by decide
theorem zq1 : (1 : Int) ≤ (1 : Int32).toInt := by decide
theorem zq2 : (9 : Int) ≤ (9 : Int32).toInt := by decide
theorem zq3 : (9 : Int32).toInt ≤ (9 : Int) := by decide
theorem zq4 : (0 : Int) ≤ 1 := by decide
theorem zq5 : (0 : Int) ≤ (0 : Int32).toInt := by decide
theorem zq6 : (0 : Int32).toInt ≤ (0 : Int) := by decide
theorem zq7 : (0 : Int) ≤ 9 := by decide
theorem zq8 : (3 : Int) ≤ (3 : Int32).toInt := by decide
theorem zq9 : (3 : Int32).toInt ≤ (3 : Int) := by decide
theorem zq10 : (8 : Int) ≤ 80 := by decide
theorem zq11 : (0 : Int) ≤ 3 := by decide
theorem zq12 : (2 : Int) ≤ (2 : Int32).toInt := by decide
theorem zq13 : (2 : Int32).toInt ≤ (2 : Int) := by decide
theorem zq14 : (2 : Int) * 80 ≤ 2147483647 := by decide
theorem zq15 : (6 : Int) ≤ (6 : Int32).toInt := by decide
theorem zq16 : (6 : Int32).toInt ≤ (6 : Int) := by decide
theorem zq17 : (0 : Int) ≤ 6 := by decide
theorem zq18 : (8 : Int) * 8 ≤ 2147483647 := by decide
theorem zq19 : (0 : Int) < 1 := by decide
theorem zq20 : (0 : Int) ≤ 8 := by decide
theorem zq21 : (9 : Int) * 9 ≤ 2147483647 := by decide
theorem zq22 : (8 : Int) ≤ 9 := by decide
theorem zq23 : (0 : Int) < 100 := by decide
theorem zq24 : (100 : Int) ≤ (100 : Int32).toInt := by decide
theorem zq25 : (0 : Int) < 10 := by decide
theorem zq26 : (10 : Int) ≤ (10 : Int32).toInt := by decide
theorem zq27 : (10 : Int32).toInt ≤ (10 : Int) := by decide
theorem zq28 : (8 : Int32).toInt ≤ (8 : Int) := by decide
theorem zq29 : (729 : Int) ≤ (729 : Int32).toInt := by decide
theorem zq30 : (729 : Int32).toInt ≤ (729 : Int) := by decide
theorem zq31 : (888 : Int) ≤ 999 := by decide
theorem zq32 : (100 : Int32).toInt ≤ (100 : Int) := by decide
theorem zq33 : (100 : Int) * 8 ≤ 2147483647 := by decide
theorem zq34 : (10 : Int) * 8 ≤ 2147483647 := by decide
theorem zq35 : (0 : Int) ≤ 729 := by decide
theorem zq36 : (99 : Int) * 9 ≤ 2147483647 := by decide
theorem zq37 : (900 : Int) ≤ (900 : Int32).toInt := by decide
theorem zq38 : (0 : Int) ≤ 100 := by decide
theorem zq39 : (900 : Int32).toInt ≤ (900 : Int) := by decide
theorem zq40 : (0 : Int) ≤ 900 := by decide
theorem zq41 : (0 : Int) ≤ 99 := by decide
theorem zq42 : (99 : Int) ≤ (99 : Int32).toInt := by decide
theorem zq43 : (99 : Int32).toInt ≤ (99 : Int) := by decide
theorem zq44 : ((-2) : Int32).toInt ≤ (-2 : Int) := by decide
theorem zq45 : (-2 : Int) ≤ ((-2) : Int32).toInt := by decide
theorem zq46 : (60 : Int32).toInt ≤ (60 : Int) := by decide
theorem zq47 : (60 : Int) * 9 ≤ 2147483647 := by decide
theorem zq48 : (1 : Int) ≤ 8 := by decide
theorem zq49 : (7 : Int) ≤ 8 := by decide
theorem zq50 : (0 : Int) ≤ 2 := by decide
theorem zq51 : (60 : Int) ≤ (60 : Int32).toInt := by decide
theorem zq52 : (59 : Int) ≤ 60 := by decide
theorem zq53 : (59 : Int) * 9 ≤ 2147483647 := by decide
theorem zq54 : (1 : Int) ≤ 2 := by decide
theorem zq55 : (1 : Int) ≤ 61 := by decide
theorem zq56 : (1 : Int) ≤ 9 := by decide
theorem zq57 : (-2 : Int) ≤ 300 := by decide
theorem zq58 : (301 : Int) ≤ 729 := by decide
theorem zq59 : (-2 : Int) ≤ 1 := by decide
theorem zq60 : (1 : Int) ≤ 729 := by decide
theorem zq61 : (61 : Int) ≤ 80 := by decide
theorem zq62 : (1 : Int) ≤ 80 := by decide
theorem zq63 : (60 : Int) ≤ 300 := by decide
theorem zq64 : (200 : Int) ≤ (200 : Int32).toInt := by decide
theorem zq65 : (200 : Int32).toInt ≤ (200 : Int) := by decide
theorem zq66 : (0 : Int) ≤ 200 := by decide
theorem zq67 : (4 : Int32).toInt ≤ (4 : Int) := by decide
theorem zq68 : (4 : Int) ≤ (4 : Int32).toInt := by decide
theorem zq69 : (1 : Int) ≤ 3 := by decide
theorem zq70 : (-1 : Int) ≤ 0 := by decide
theorem zq71 : (-1 : Int) ≤ ((-1) : Int32).toInt := by decide
theorem zq72 : ((-1) : Int32).toInt ≤ (-1 : Int) := by decide
theorem zq73 : (-1 : Int) ≤ 8 := by decide
theorem zq74 : (2000000000 : Int32).toInt ≤ (2000000000 : Int) := by decide
theorem zq75 : (2 : Int) ≤ 3 := by decide
theorem zq76 : (-2 : Int) ≤ 8 := by decide
theorem zq77 : (-2 : Int) ≤ 0 := by decide
theorem zq78 : (-2 : Int) ≤ -1 := by decide
theorem zq79 : (-1 : Int) ≤ 9 := by decide
theorem zq80 : (-1 : Int) ≤ 1 := by decide
theorem zq81 : (999 : Int32).toInt ≤ (999 : Int) := by decide
theorem zq82 : (0 : Int) ≤ 2147483646 := by decide
theorem zq83 : (0 : Int) ≤ 999 := by decide
theorem zq84 : (300 : Int32).toInt ≤ (300 : Int) := by decide
theorem zq85 : (0 : Int) ≤ 300 := by decide
theorem zq86 : (300 : Int) ≤ (300 : Int32).toInt := by decide
theorem zq87 : (-1 : Int) ≤ 300 := by decide
theorem zq88 : (1 : Int) ≤ 301 := by decide
theorem zq89 : (300 : Int) ≤ 301 := by decide
theorem zq90 : (-1 : Int) ≤ 301 := by decide
theorem zq91 : (301 : Int) ≤ (301 : Int32).toInt := by decide
theorem zq92 : (301 : Int32).toInt ≤ (301 : Int) := by decide
theorem zq93 : (10 : Int) * 80 ≤ 2147483647 := by decide
theorem zq94 : (0 : Int) ≤ 81 := by decide
theorem zq95 : (0 : Int) ≤ 880 := by decide
theorem zq96 : (-1 : Int) ≤ 880 := by decide
theorem zq97 : (-1 : Int) ≤ 729 := by decide
theorem zq98 : (-1 : Int) ≤ 888 := by decide
theorem zq99 : (-1 : Int) ≤ 80 := by decide
theorem zq100 : (-2 : Int) ≤ 5 := by decide
theorem zq101 : (-1 : Int) ≤ 5 := by decide
theorem zq102 : (0 : Int) < 2 := by decide
theorem zq103 : (0 : Int) ≤ 4 := by decide
theorem zq104 : (-2 : Int) ≤ 11 := by decide
theorem zq105 : (10 : Int) * 1 ≤ 2147483647 := by decide
theorem zq106 : (-1 : Int) ≤ 11 := by decide
theorem zq107 : (65536 : Int32).toInt ≤ (65536 : Int) := by decide
theorem zq108 : (1 : Int) ≤ 201 := by decide
theorem zq109 : (-1 : Int) ≤ 200 := by decide
theorem zq110 : (-2 : Int) ≤ 200 := by decide
theorem zq111 : (0 : Int) < 16 := by decide
theorem zq112 : (16 : Int) ≤ (16 : Int32).toInt := by decide
theorem zq113 : (16 : Int32).toInt ≤ (16 : Int) := by decide
theorem zq114 : (5 : Int) ≤ (5 : Int32).toInt := by decide
theorem zq115 : (5 : Int32).toInt ≤ (5 : Int) := by decide
theorem zq116 : (7 : Int) ≤ (7 : Int32).toInt := by decide
theorem zq117 : (7 : Int32).toInt ≤ (7 : Int) := by decide
theorem zq118 : (8 : Int) ≤ (8 : Int32).toInt := by decide
theorem zq119 : (11 : Int) ≤ (11 : Int32).toInt := by decide
theorem zq120 : (11 : Int32).toInt ≤ (11 : Int) := by decide
theorem zq121 : (12 : Int) ≤ (12 : Int32).toInt := by decide
theorem zq122 : (12 : Int32).toInt ≤ (12 : Int) := by decide
theorem zq123 : (13 : Int) ≤ (13 : Int32).toInt := by decide
theorem zq124 : (13 : Int32).toInt ≤ (13 : Int) := by decide
theorem zq125 : (14 : Int) ≤ (14 : Int32).toInt := by decide
theorem zq126 : (14 : Int32).toInt ≤ (14 : Int) := by decide
theorem zq127 : (15 : Int) ≤ (15 : Int32).toInt := by decide
theorem zq128 : (15 : Int32).toInt ≤ (15 : Int) := by decide
theorem zq129 : (9999 : Int32).toInt ≤ (9999 : Int) := by decide
theorem zq130 : (0 : Int) ≤ 60 := by decide
theorem zq131 : (9999 : Int) ≤ (9999 : Int32).toInt := by decide
theorem zq132 : (5 : Int) ≤ 9 := by decide
theorem zq134 : (24 : Int) ≤ (24 : Int32).toInt := by decide
theorem zq135 : (24 : Int32).toInt ≤ (24 : Int) := by decide
theorem zq137 : (1 : Int) ≤ 4 := by decide
theorem zq138 : (97 : Int32).toInt ≤ (97 : Int) := by decide
theorem zq139 : (97 : Int) ≤ (97 : Int32).toInt := by decide
theorem zq140 : (122 : Int) ≤ (122 : Int32).toInt := by decide
theorem zq141 : (122 : Int32).toInt ≤ (122 : Int) := by decide
theorem zq142 : (2 : Int) ≤ 4 := by decide
theorem zq143 : (48 : Int32).toInt ≤ (48 : Int) := by decide
theorem zq144 : (48 : Int) ≤ (48 : Int32).toInt := by decide
theorem zq145 : (57 : Int) ≤ (57 : Int32).toInt := by decide
theorem zq146 : (57 : Int32).toInt ≤ (57 : Int) := by decide
theorem zq147 : (899 : Int) ≤ 900 := by decide
theorem zq148 : (59 : Int32).toInt ≤ (59 : Int) := by decide
theorem zq149 : (59 : Int) ≤ (59 : Int32).toInt := by decide
theorem zq150 : (32 : Int32).toInt ≤ (32 : Int) := by decide
theorem zq151 : (32 : Int) ≤ (32 : Int32).toInt := by decide
theorem zq152 : (2 : Int) * 2 ≤ 2147483647 := by decide
theorem zq153 : (30 : Int) ≤ (30 : Int32).toInt := by decide
theorem zq154 : (30 : Int32).toInt ≤ (30 : Int) := by decide
theorem zq155 : (20 : Int) ≤ (20 : Int32).toInt := by decide
theorem zq156 : (20 : Int32).toInt ≤ (20 : Int) := by decide
theorem zq157 : (2 : Int) * 8 ≤ 2147483647 := by decide
theorem zq158 : (22 : Int) ≤ (22 : Int32).toInt := by decide
theorem zq159 : (18 : Int) ≤ (18 : Int32).toInt := by decide
theorem zq160 : (18 : Int32).toInt ≤ (18 : Int) := by decide
theorem zq161 : (7 : Int) ≤ 10 := by decide
theorem zq162 : (19 : Int) ≤ (19 : Int32).toInt := by decide
theorem zq163 : (19 : Int32).toInt ≤ (19 : Int) := by decide
theorem zq164 : (21 : Int) ≤ (21 : Int32).toInt := by decide
theorem zq165 : (0 : Int) ≤ 19 := by decide
theorem zq166 : (0 : Int) ≤ 23 := by decide
theorem zq167 : (0 : Int) ≤ (0 : Int32).toInt ∧ (0 : Int32).toInt ≤ 8 := by decide
theorem zq168 : (0 : Int) ≤ (0 : Int32).toInt ∧ (0 : Int32).toInt ≤ 19 := by decide
theorem zq169 : (0 : Int) ≤ 156 := by decide
theorem zq170 : (10 : Int) ≤ 12 := by decide
theorem zq171 : (0 : Int) ≤ 12 := by decide
theorem zq172 : (23 : Int) ≤ (23 : Int32).toInt := by decide
theorem zq173 : (23 : Int32).toInt ≤ (23 : Int) := by decide
theorem zq174 : (0 : Int) ≤ 301 := by decide
theorem zq175 : (81 : Int) ≤ 99 := by decide
theorem zq176 : (100000000 : Int32).toInt ≤ (100000000 : Int) := by decide
theorem zq177 : (-2 : Int) ≤ 880 := by decide
theorem zq178 : (999 : Int) * 8 ≤ 2147483647 := by decide
theorem zq179 : (81 : Int) * 9 ≤ 2147483647 := by decide
theorem zq180 : (0 : Int) < 4 := by decide
theorem zq181 : (728 : Int) ≤ 999 := by decide
theorem zq182 : (100 : Int) * 728 ≤ 2147483647 := by decide
theorem zq183 : (2 : Int) * 5 ≤ 2147483647 := by decide
theorem zq184 : (36 : Int) ≤ (36 : Int32).toInt := by decide
theorem zq185 : (36 : Int32).toInt ≤ (36 : Int) := by decide
theorem zq186 : (-1 : Int) ≤ 72888 := by decide
theorem zq187 : (0 : Int) ≤ 512 := by decide
theorem zq188 : (99 : Int) ≤ 999 := by decide
theorem zq189 : (119 : Int) ≤ 300 := by decide
theorem zq190 : (-2 : Int) ≤ 99 := by decide
theorem zq191 : (8 : Int) ≤ 999 := by decide
theorem zq192 : (19 : Int) ≤ 999 := by decide
theorem zq193 : (0 : Int) ≤ 20 := by decide
theorem zq194 : (80 : Int) ≤ 728 := by decide
theorem zq195 : (81 : Int) ≤ 98 := by decide
theorem zq196 : (0 : Int) ≤ 98 := by decide
theorem zq197 : (10 : Int) * 60 ≤ 2147483647 := by decide
theorem zq198 : (7 : Int) ≤ 9 := by decide
theorem zq199 : (58 : Int) ≤ 59 := by decide
theorem zq200 : (10 : Int) * 59 ≤ 2147483647 := by decide
theorem zq201 : (512 : Int) ≤ 729 := by decide
theorem zq202 : (511 : Int) ≤ 729 := by decide
theorem zq203 : (-2 : Int) ≤ 729 := by decide
theorem zq204 : (75 : Int) ≤ (75 : Int32).toInt := by decide
theorem zq205 : (75 : Int32).toInt ≤ (75 : Int) := by decide
theorem zq206 : (75 : Int) * 65536 ≤ 2147483647 := by decide
theorem zq207 : (74 : Int) ≤ (74 : Int32).toInt := by decide
theorem zq208 : (74 : Int32).toInt ≤ (74 : Int) := by decide
theorem zq209 : (0 : Int) ≤ 74 := by decide
theorem zq210 : (0 : Int) < 65537 := by decide
theorem zq211 : (65537 : Int) ≤ (65537 : Int32).toInt := by decide
theorem zq212 : (65537 : Int32).toInt ≤ (65537 : Int) := by decide
theorem zq213 : (23 : Int) * 15 ≤ 2147483647 := by decide
theorem zq214 : (345 : Int) ≤ (345 : Int32).toInt := by decide
theorem zq215 : (0 : Int) ≤ 345 := by decide
theorem zq216 : (0 : Int) ≤ 15 := by decide
theorem zq217 : (345 : Int32).toInt ≤ (345 : Int) := by decide
theorem zq218 : (5 : Int) ≤ 6 := by decide
theorem zq219 : (6 : Int) ≤ 9 := by decide
theorem zq220 : (23 : Int) * 2 ≤ 2147483647 := by decide
theorem zq221 : (-1 : Int) ≤ 2 := by decide
theorem zq222 : (0 : Int) ≤ 16 := by decide
theorem zq223 : (8 : Int) * 3 ≤ 2147483647 := by decide
theorem zq224 : (0 : Int) ≤ 17 := by decide
theorem zq225 : (0 : Int) ≤ 13 := by decide
theorem zq226 : (16 : Int) ≤ 20 := by decide
theorem zq227 : (12 : Int) ≤ 20 := by decide
theorem zq228 : (0 : Int) ≤ 5 := by decide
theorem zq229 : (8 : Int) ≤ 20 := by decide
theorem zq230 : (4 : Int) ≤ 20 := by decide
theorem zq231 : (880 : Int) ≤ 900 := by decide
theorem zq232 : (-1 : Int) ≤ 900 := by decide
theorem zq233 : (3 : Int) ≤ 4 := by decide
theorem zq234 : (1 : Int) ≤ 900 := by decide
theorem zq235 : (8 : Int) * 11 ≤ 2147483647 := by decide
theorem zq236 : (8 : Int) ≤ 900 := by decide
theorem zq237 : (2 : Int) ≤ 9 := by decide
theorem zq238 : (1 : Int) ≤ 20 := by decide
theorem zq239 : (8 : Int) ≤ 11 := by decide
theorem zq240 : (2 : Int) ≤ 20 := by decide
theorem zq241 : (2 : Int) * 4 ≤ 2147483647 := by decide
theorem zq242 : (156 : Int) ≤ (156 : Int32).toInt := by decide
theorem zq243 : (156 : Int32).toInt ≤ (156 : Int) := by decide
theorem zq244 : (9 : Int) ≤ 23 := by decide
theorem zq245 : (8 : Int) ≤ 19 := by decide
theorem zq246 : (880 : Int) ≤ 896 := by decide
theorem zq247 : (884 : Int) ≤ 896 := by decide
theorem zq248 : (888 : Int) ≤ 896 := by decide
theorem zq249 : (892 : Int) ≤ 896 := by decide
theorem zk_iconst_0 : Int32.ofInt 0 = 0 := by decide
theorem zk_iconst_1 : Int32.ofInt 1 = 1 := by decide
theorem zk_bipush_9 : (Int8.ofInt 9).toInt32 = 9 := by decide
theorem zk_iconst_3 : Int32.ofInt 3 = 3 := by decide
theorem zk_iconst_2 : Int32.ofInt 2 = 2 := by decide
theorem zk_bipush_6 : (Int8.ofInt 6).toInt32 = 6 := by decide
theorem zk_bipush_100 : (Int8.ofInt 100).toInt32 = 100 := by decide
theorem zk_bipush_10 : (Int8.ofInt 10).toInt32 = 10 := by decide
theorem zk_bipush_8 : (Int8.ofInt 8).toInt32 = 8 := by decide
theorem zk_bipush_7 : (Int8.ofInt 7).toInt32 = 7 := by decide
theorem zk_sipush_729 : (Int16.ofInt 729).toInt32 = 729 := by decide
theorem zk_bipush_n2 : (Int8.ofInt (-2)).toInt32 = (-2) := by decide
theorem zk_bipush_99 : (Int8.ofInt 99).toInt32 = 99 := by decide
theorem zk_bipush_60 : (Int8.ofInt 60).toInt32 = 60 := by decide
theorem zk_iconst_n1 : Int32.ofInt (-1) = (-1) := by decide
theorem zk_iconst_4 : Int32.ofInt 4 = 4 := by decide
theorem zk_sipush_200 : (Int16.ofInt 200).toInt32 = 200 := by decide
theorem zk_bipush_75 : (Int8.ofInt 75).toInt32 = 75 := by decide
theorem zk_bipush_74 : (Int8.ofInt 74).toInt32 = 74 := by decide
theorem zk_bipush_16 : (Int8.ofInt 16).toInt32 = 16 := by decide
theorem zk_bipush_63 : (Int8.ofInt 63).toInt32 = 63 := by decide
theorem zk_sipush_999 : (Int16.ofInt 999).toInt32 = 999 := by decide
theorem zk_sipush_300 : (Int16.ofInt 300).toInt32 = 300 := by decide
theorem zk_sipush_301 : (Int16.ofInt 301).toInt32 = 301 := by decide
theorem zk_bipush_n100 : (Int8.ofInt (-100)).toInt32 = (-100) := by decide
theorem zk_sipush_9999 : (Int16.ofInt 9999).toInt32 = 9999 := by decide
theorem zk_iconst_5 : Int32.ofInt 5 = 5 := by decide
theorem zk_bipush_24 : (Int8.ofInt 24).toInt32 = 24 := by decide
theorem zk_sipush_900 : (Int16.ofInt 900).toInt32 = 900 := by decide
theorem zk_bipush_97 : (Int8.ofInt 97).toInt32 = 97 := by decide
theorem zk_bipush_122 : (Int8.ofInt 122).toInt32 = 122 := by decide
theorem zk_bipush_48 : (Int8.ofInt 48).toInt32 = 48 := by decide
theorem zk_bipush_57 : (Int8.ofInt 57).toInt32 = 57 := by decide
theorem zk_bipush_59 : (Int8.ofInt 59).toInt32 = 59 := by decide
theorem zk_bipush_32 : (Int8.ofInt 32).toInt32 = 32 := by decide
theorem zk_bipush_30 : (Int8.ofInt 30).toInt32 = 30 := by decide
theorem zk_bipush_20 : (Int8.ofInt 20).toInt32 = 20 := by decide
theorem zk_bipush_12 : (Int8.ofInt 12).toInt32 = 12 := by decide
theorem zk_bipush_21 : (Int8.ofInt 21).toInt32 = 21 := by decide
theorem zk_bipush_22 : (Int8.ofInt 22).toInt32 = 22 := by decide
theorem zk_bipush_18 : (Int8.ofInt 18).toInt32 = 18 := by decide
theorem zk_bipush_19 : (Int8.ofInt 19).toInt32 = 19 := by decide
theorem zk_sipush_255 : (Int16.ofInt 255).toInt32 = 255 := by decide
theorem zk_bipush_23 : (Int8.ofInt 23).toInt32 = 23 := by decide
theorem zk_bipush_36 : (Int8.ofInt 36).toInt32 = 36 := by decide
theorem zk_sipush_345 : (Int16.ofInt 345).toInt32 = 345 := by decide
theorem zk_bipush_13 : (Int8.ofInt 13).toInt32 = 13 := by decide
theorem zk_bipush_11 : (Int8.ofInt 11).toInt32 = 11 := by decide
theorem zk_sipush_156 : (Int16.ofInt 156).toInt32 = 156 := by decide
theorem zk_bipush_61 : (Int8.ofInt 61).toInt32 = 61 := by decide
theorem zk_sipush_549 : (Int16.ofInt 549).toInt32 = 549 := by decide
theorem zk_sipush_368 : (Int16.ofInt 368).toInt32 = 368 := by decide
theorem zk_bipush_69 : (Int8.ofInt 69).toInt32 = 69 := by decide
theorem zk_sipush_620 : (Int16.ofInt 620).toInt32 = 620 := by decide
theorem zd_J0_charAt_5068e : yJ0_charAt_5068e.cls = RJ0 ∧ yJ0_charAt_5068e.cls ≠ "java/lang/invoke/MethodHandle" ∧ yJ0_charAt_5068e.cls ≠ "java/lang/invoke/VarHandle" ∧ (parseMethodDescriptor yJ0_charAt_5068e.desc).map (fun d => d.parameters.length) = some 1 := by decide +kernel
theorem zd_J0_checkIndex_df160 : yJ0_checkIndex_df160.cls = RJ0 ∧ yJ0_checkIndex_df160.cls ≠ "java/lang/invoke/MethodHandle" ∧ yJ0_checkIndex_df160.cls ≠ "java/lang/invoke/VarHandle" ∧ (parseMethodDescriptor yJ0_checkIndex_df160.desc).map (fun d => d.parameters.length) = some 2 := by decide +kernel
theorem zd_J0_coder_7d493 : yJ0_coder_7d493.cls = RJ0 ∧ yJ0_coder_7d493.cls ≠ "java/lang/invoke/MethodHandle" ∧ yJ0_coder_7d493.cls ≠ "java/lang/invoke/VarHandle" ∧ (parseMethodDescriptor yJ0_coder_7d493.desc).map (fun d => d.parameters.length) = some 0 := by decide +kernel
theorem zd_J0_isLatin1_aae02 : yJ0_isLatin1_aae02.cls = RJ0 ∧ yJ0_isLatin1_aae02.cls ≠ "java/lang/invoke/MethodHandle" ∧ yJ0_isLatin1_aae02.cls ≠ "java/lang/invoke/VarHandle" ∧ (parseMethodDescriptor yJ0_isLatin1_aae02.desc).map (fun d => d.parameters.length) = some 0 := by decide +kernel
theorem zd_J0_length_8abf5 : yJ0_length_8abf5.cls = RJ0 ∧ yJ0_length_8abf5.cls ≠ "java/lang/invoke/MethodHandle" ∧ yJ0_length_8abf5.cls ≠ "java/lang/invoke/VarHandle" ∧ (parseMethodDescriptor yJ0_length_8abf5.desc).map (fun d => d.parameters.length) = some 0 := by decide +kernel
theorem zd_J1_charAt_3b067 : yJ1_charAt_3b067.cls = RJ1 ∧ yJ1_charAt_3b067.cls ≠ "java/lang/invoke/MethodHandle" ∧ yJ1_charAt_3b067.cls ≠ "java/lang/invoke/VarHandle" ∧ (parseMethodDescriptor yJ1_charAt_3b067.desc).map (fun d => d.parameters.length) = some 2 := by decide +kernel
theorem zd_J3_checkIndex_8e157 : yJ3_checkIndex_8e157.cls = RJ3 ∧ yJ3_checkIndex_8e157.cls ≠ "java/lang/invoke/MethodHandle" ∧ yJ3_checkIndex_8e157.cls ≠ "java/lang/invoke/VarHandle" ∧ (parseMethodDescriptor yJ3_checkIndex_8e157.desc).map (fun d => d.parameters.length) = some 3 := by decide +kernel
theorem zd_J6_bitCount_0f7a4 : yJ6_bitCount_0f7a4.cls = RJ6 ∧ yJ6_bitCount_0f7a4.cls ≠ "java/lang/invoke/MethodHandle" ∧ yJ6_bitCount_0f7a4.cls ≠ "java/lang/invoke/VarHandle" ∧ (parseMethodDescriptor yJ6_bitCount_0f7a4.desc).map (fun d => d.parameters.length) = some 1 := by decide +kernel
theorem zd_X0_addFigure : yX0_addFigure.cls = RX0 ∧ yX0_addFigure.cls ≠ "java/lang/invoke/MethodHandle" ∧ yX0_addFigure.cls ≠ "java/lang/invoke/VarHandle" ∧ (parseMethodDescriptor yX0_addFigure.desc).map (fun d => d.parameters.length) = some 3 := by decide +kernel
theorem zd_X0_addSeen : yX0_addSeen.cls = RX0 ∧ yX0_addSeen.cls ≠ "java/lang/invoke/MethodHandle" ∧ yX0_addSeen.cls ≠ "java/lang/invoke/VarHandle" ∧ (parseMethodDescriptor yX0_addSeen.desc).map (fun d => d.parameters.length) = some 2 := by decide +kernel
theorem zd_X0_aliveByLaw : yX0_aliveByLaw.cls = RX0 ∧ yX0_aliveByLaw.cls ≠ "java/lang/invoke/MethodHandle" ∧ yX0_aliveByLaw.cls ≠ "java/lang/invoke/VarHandle" ∧ (parseMethodDescriptor yX0_aliveByLaw.desc).map (fun d => d.parameters.length) = some 2 := by decide +kernel
theorem zd_X0_clear : yX0_clear.cls = RX0 ∧ yX0_clear.cls ≠ "java/lang/invoke/MethodHandle" ∧ yX0_clear.cls ≠ "java/lang/invoke/VarHandle" ∧ (parseMethodDescriptor yX0_clear.desc).map (fun d => d.parameters.length) = some 0 := by decide +kernel
theorem zd_X0_goesLike : yX0_goesLike.cls = RX0 ∧ yX0_goesLike.cls ≠ "java/lang/invoke/MethodHandle" ∧ yX0_goesLike.cls ≠ "java/lang/invoke/VarHandle" ∧ (parseMethodDescriptor yX0_goesLike.desc).map (fun d => d.parameters.length) = some 2 := by decide +kernel
theorem zd_X0_isHeardAt : yX0_isHeardAt.cls = RX0 ∧ yX0_isHeardAt.cls ≠ "java/lang/invoke/MethodHandle" ∧ yX0_isHeardAt.cls ≠ "java/lang/invoke/VarHandle" ∧ (parseMethodDescriptor yX0_isHeardAt.desc).map (fun d => d.parameters.length) = some 2 := by decide +kernel
theorem zd_X0_isSeenMinute : yX0_isSeenMinute.cls = RX0 ∧ yX0_isSeenMinute.cls ≠ "java/lang/invoke/MethodHandle" ∧ yX0_isSeenMinute.cls ≠ "java/lang/invoke/VarHandle" ∧ (parseMethodDescriptor yX0_isSeenMinute.desc).map (fun d => d.parameters.length) = some 1 := by decide +kernel
theorem zd_X0_nearer : yX0_nearer.cls = RX0 ∧ yX0_nearer.cls ≠ "java/lang/invoke/MethodHandle" ∧ yX0_nearer.cls ≠ "java/lang/invoke/VarHandle" ∧ (parseMethodDescriptor yX0_nearer.desc).map (fun d => d.parameters.length) = some 1 := by decide +kernel
theorem zd_X0_next : yX0_next.cls = RX0 ∧ yX0_next.cls ≠ "java/lang/invoke/MethodHandle" ∧ yX0_next.cls ≠ "java/lang/invoke/VarHandle" ∧ (parseMethodDescriptor yX0_next.desc).map (fun d => d.parameters.length) = some 1 := by decide +kernel
theorem zd_X0_partSaid : yX0_partSaid.cls = RX0 ∧ yX0_partSaid.cls ≠ "java/lang/invoke/MethodHandle" ∧ yX0_partSaid.cls ≠ "java/lang/invoke/VarHandle" ∧ (parseMethodDescriptor yX0_partSaid.desc).map (fun d => d.parameters.length) = some 2 := by decide +kernel
theorem zd_X0_pass : yX0_pass.cls = RX0 ∧ yX0_pass.cls ≠ "java/lang/invoke/MethodHandle" ∧ yX0_pass.cls ≠ "java/lang/invoke/VarHandle" ∧ (parseMethodDescriptor yX0_pass.desc).map (fun d => d.parameters.length) = some 2 := by decide +kernel
theorem zd_X0_sizeTold : yX0_sizeTold.cls = RX0 ∧ yX0_sizeTold.cls ≠ "java/lang/invoke/MethodHandle" ∧ yX0_sizeTold.cls ≠ "java/lang/invoke/VarHandle" ∧ (parseMethodDescriptor yX0_sizeTold.desc).map (fun d => d.parameters.length) = some 1 := by decide +kernel
theorem zd_X0_step : yX0_step.cls = RX0 ∧ yX0_step.cls ≠ "java/lang/invoke/MethodHandle" ∧ yX0_step.cls ≠ "java/lang/invoke/VarHandle" ∧ (parseMethodDescriptor yX0_step.desc).map (fun d => d.parameters.length) = some 3 := by decide +kernel
theorem zd_X0_stepsIn : yX0_stepsIn.cls = RX0 ∧ yX0_stepsIn.cls ≠ "java/lang/invoke/MethodHandle" ∧ yX0_stepsIn.cls ≠ "java/lang/invoke/VarHandle" ∧ (parseMethodDescriptor yX0_stepsIn.desc).map (fun d => d.parameters.length) = some 2 := by decide +kernel
theorem zd_X1_addImage : yX1_addImage.cls = RX1 ∧ yX1_addImage.cls ≠ "java/lang/invoke/MethodHandle" ∧ yX1_addImage.cls ≠ "java/lang/invoke/VarHandle" ∧ (parseMethodDescriptor yX1_addImage.desc).map (fun d => d.parameters.length) = some 1 := by decide +kernel
theorem zd_X1_clear : yX1_clear.cls = RX1 ∧ yX1_clear.cls ≠ "java/lang/invoke/MethodHandle" ∧ yX1_clear.cls ≠ "java/lang/invoke/VarHandle" ∧ (parseMethodDescriptor yX1_clear.desc).map (fun d => d.parameters.length) = some 0 := by decide +kernel
theorem zd_X1_goBack : yX1_goBack.cls = RX1 ∧ yX1_goBack.cls ≠ "java/lang/invoke/MethodHandle" ∧ yX1_goBack.cls ≠ "java/lang/invoke/VarHandle" ∧ (parseMethodDescriptor yX1_goBack.desc).map (fun d => d.parameters.length) = some 2 := by decide +kernel
theorem zd_X1_keep : yX1_keep.cls = RX1 ∧ yX1_keep.cls ≠ "java/lang/invoke/MethodHandle" ∧ yX1_keep.cls ≠ "java/lang/invoke/VarHandle" ∧ (parseMethodDescriptor yX1_keep.desc).map (fun d => d.parameters.length) = some 1 := by decide +kernel
theorem zd_X1_takeLatest : yX1_takeLatest.cls = RX1 ∧ yX1_takeLatest.cls ≠ "java/lang/invoke/MethodHandle" ∧ yX1_takeLatest.cls ≠ "java/lang/invoke/VarHandle" ∧ (parseMethodDescriptor yX1_takeLatest.desc).map (fun d => d.parameters.length) = some 1 := by decide +kernel
theorem zd_X2_addIfFit : yX2_addIfFit.cls = RX2 ∧ yX2_addIfFit.cls ≠ "java/lang/invoke/MethodHandle" ∧ yX2_addIfFit.cls ≠ "java/lang/invoke/VarHandle" ∧ (parseMethodDescriptor yX2_addIfFit.desc).map (fun d => d.parameters.length) = some 2 := by decide +kernel
theorem zd_X2_chooseLook : yX2_chooseLook.cls = RX2 ∧ yX2_chooseLook.cls ≠ "java/lang/invoke/MethodHandle" ∧ yX2_chooseLook.cls ≠ "java/lang/invoke/VarHandle" ∧ (parseMethodDescriptor yX2_chooseLook.desc).map (fun d => d.parameters.length) = some 1 := by decide +kernel
theorem zd_X2_forget : yX2_forget.cls = RX2 ∧ yX2_forget.cls ≠ "java/lang/invoke/MethodHandle" ∧ yX2_forget.cls ≠ "java/lang/invoke/VarHandle" ∧ (parseMethodDescriptor yX2_forget.desc).map (fun d => d.parameters.length) = some 0 := by decide +kernel
theorem zd_X2_list : yX2_list.cls = RX2 ∧ yX2_list.cls ≠ "java/lang/invoke/MethodHandle" ∧ yX2_list.cls ≠ "java/lang/invoke/VarHandle" ∧ (parseMethodDescriptor yX2_list.desc).map (fun d => d.parameters.length) = some 1 := by decide +kernel
theorem zd_X2_mostOf : yX2_mostOf.cls = RX2 ∧ yX2_mostOf.cls ≠ "java/lang/invoke/MethodHandle" ∧ yX2_mostOf.cls ≠ "java/lang/invoke/VarHandle" ∧ (parseMethodDescriptor yX2_mostOf.desc).map (fun d => d.parameters.length) = some 1 := by decide +kernel
theorem zd_X2_tally : yX2_tally.cls = RX2 ∧ yX2_tally.cls ≠ "java/lang/invoke/MethodHandle" ∧ yX2_tally.cls ≠ "java/lang/invoke/VarHandle" ∧ (parseMethodDescriptor yX2_tally.desc).map (fun d => d.parameters.length) = some 2 := by decide +kernel
theorem zd_X3_advance : yX3_advance.cls = RX3 ∧ yX3_advance.cls ≠ "java/lang/invoke/MethodHandle" ∧ yX3_advance.cls ≠ "java/lang/invoke/VarHandle" ∧ (parseMethodDescriptor yX3_advance.desc).map (fun d => d.parameters.length) = some 0 := by decide +kernel
theorem zd_X3_append : yX3_append.cls = RX3 ∧ yX3_append.cls ≠ "java/lang/invoke/MethodHandle" ∧ yX3_append.cls ≠ "java/lang/invoke/VarHandle" ∧ (parseMethodDescriptor yX3_append.desc).map (fun d => d.parameters.length) = some 1 := by decide +kernel
theorem zd_X3_exchange : yX3_exchange.cls = RX3 ∧ yX3_exchange.cls ≠ "java/lang/invoke/MethodHandle" ∧ yX3_exchange.cls ≠ "java/lang/invoke/VarHandle" ∧ (parseMethodDescriptor yX3_exchange.desc).map (fun d => d.parameters.length) = some 1 := by decide +kernel
theorem zd_X3_fails : yX3_fails.cls = RX3 ∧ yX3_fails.cls ≠ "java/lang/invoke/MethodHandle" ∧ yX3_fails.cls ≠ "java/lang/invoke/VarHandle" ∧ (parseMethodDescriptor yX3_fails.desc).map (fun d => d.parameters.length) = some 1 := by decide +kernel
theorem zd_X3_isWholeWithin : yX3_isWholeWithin.cls = RX3 ∧ yX3_isWholeWithin.cls ≠ "java/lang/invoke/MethodHandle" ∧ yX3_isWholeWithin.cls ≠ "java/lang/invoke/VarHandle" ∧ (parseMethodDescriptor yX3_isWholeWithin.desc).map (fun d => d.parameters.length) = some 2 := by decide +kernel
theorem zd_X3_isWord : yX3_isWord.cls = RX3 ∧ yX3_isWord.cls ≠ "java/lang/invoke/MethodHandle" ∧ yX3_isWord.cls ≠ "java/lang/invoke/VarHandle" ∧ (parseMethodDescriptor yX3_isWord.desc).map (fun d => d.parameters.length) = some 1 := by decide +kernel
theorem zd_X3_read : yX3_read.cls = RX3 ∧ yX3_read.cls ≠ "java/lang/invoke/MethodHandle" ∧ yX3_read.cls ≠ "java/lang/invoke/VarHandle" ∧ (parseMethodDescriptor yX3_read.desc).map (fun d => d.parameters.length) = some 1 := by decide +kernel
theorem zd_X3_readFigure : yX3_readFigure.cls = RX3 ∧ yX3_readFigure.cls ≠ "java/lang/invoke/MethodHandle" ∧ yX3_readFigure.cls ≠ "java/lang/invoke/VarHandle" ∧ (parseMethodDescriptor yX3_readFigure.desc).map (fun d => d.parameters.length) = some 0 := by decide +kernel
theorem zd_X3_readHall : yX3_readHall.cls = RX3 ∧ yX3_readHall.cls ≠ "java/lang/invoke/MethodHandle" ∧ yX3_readHall.cls ≠ "java/lang/invoke/VarHandle" ∧ (parseMethodDescriptor yX3_readHall.desc).map (fun d => d.parameters.length) = some 0 := by decide +kernel
theorem zd_X3_readLaw : yX3_readLaw.cls = RX3 ∧ yX3_readLaw.cls ≠ "java/lang/invoke/MethodHandle" ∧ yX3_readLaw.cls ≠ "java/lang/invoke/VarHandle" ∧ (parseMethodDescriptor yX3_readLaw.desc).map (fun d => d.parameters.length) = some 0 := by decide +kernel
theorem zd_X3_readLine : yX3_readLine.cls = RX3 ∧ yX3_readLine.cls ≠ "java/lang/invoke/MethodHandle" ∧ yX3_readLine.cls ≠ "java/lang/invoke/VarHandle" ∧ (parseMethodDescriptor yX3_readLine.desc).map (fun d => d.parameters.length) = some 0 := by decide +kernel
theorem zd_X3_readSeen : yX3_readSeen.cls = RX3 ∧ yX3_readSeen.cls ≠ "java/lang/invoke/MethodHandle" ∧ yX3_readSeen.cls ≠ "java/lang/invoke/VarHandle" ∧ (parseMethodDescriptor yX3_readSeen.desc).map (fun d => d.parameters.length) = some 0 := by decide +kernel
theorem zd_X3_readWatcher : yX3_readWatcher.cls = RX3 ∧ yX3_readWatcher.cls ≠ "java/lang/invoke/MethodHandle" ∧ yX3_readWatcher.cls ≠ "java/lang/invoke/VarHandle" ∧ (parseMethodDescriptor yX3_readWatcher.desc).map (fun d => d.parameters.length) = some 0 := by decide +kernel
theorem zd_X3_scanWhole : yX3_scanWhole.cls = RX3 ∧ yX3_scanWhole.cls ≠ "java/lang/invoke/MethodHandle" ∧ yX3_scanWhole.cls ≠ "java/lang/invoke/VarHandle" ∧ (parseMethodDescriptor yX3_scanWhole.desc).map (fun d => d.parameters.length) = some 0 := by decide +kernel
theorem zd_X3_scanWord : yX3_scanWord.cls = RX3 ∧ yX3_scanWord.cls ≠ "java/lang/invoke/MethodHandle" ∧ yX3_scanWord.cls ≠ "java/lang/invoke/VarHandle" ∧ (parseMethodDescriptor yX3_scanWord.desc).map (fun d => d.parameters.length) = some 0 := by decide +kernel
theorem zd_X3_takeName : yX3_takeName.cls = RX3 ∧ yX3_takeName.cls ≠ "java/lang/invoke/MethodHandle" ∧ yX3_takeName.cls ≠ "java/lang/invoke/VarHandle" ∧ (parseMethodDescriptor yX3_takeName.desc).map (fun d => d.parameters.length) = some 0 := by decide +kernel
theorem zd_X3_takeWhole : yX3_takeWhole.cls = RX3 ∧ yX3_takeWhole.cls ≠ "java/lang/invoke/MethodHandle" ∧ yX3_takeWhole.cls ≠ "java/lang/invoke/VarHandle" ∧ (parseMethodDescriptor yX3_takeWhole.desc).map (fun d => d.parameters.length) = some 3 := by decide +kernel
theorem zd_X3_takeWord : yX3_takeWord.cls = RX3 ∧ yX3_takeWord.cls ≠ "java/lang/invoke/MethodHandle" ∧ yX3_takeWord.cls ≠ "java/lang/invoke/VarHandle" ∧ (parseMethodDescriptor yX3_takeWord.desc).map (fun d => d.parameters.length) = some 1 := by decide +kernel
theorem zd_X4_aim : yX4_aim.cls = RX4 ∧ yX4_aim.cls ≠ "java/lang/invoke/MethodHandle" ∧ yX4_aim.cls ≠ "java/lang/invoke/VarHandle" ∧ (parseMethodDescriptor yX4_aim.desc).map (fun d => d.parameters.length) = some 2 := by decide +kernel
theorem zd_X4_minutesWith : yX4_minutesWith.cls = RX4 ∧ yX4_minutesWith.cls ≠ "java/lang/invoke/MethodHandle" ∧ yX4_minutesWith.cls ≠ "java/lang/invoke/VarHandle" ∧ (parseMethodDescriptor yX4_minutesWith.desc).map (fun d => d.parameters.length) = some 1 := by decide +kernel
theorem zd_X4_placeIn : yX4_placeIn.cls = RX4 ∧ yX4_placeIn.cls ≠ "java/lang/invoke/MethodHandle" ∧ yX4_placeIn.cls ≠ "java/lang/invoke/VarHandle" ∧ (parseMethodDescriptor yX4_placeIn.desc).map (fun d => d.parameters.length) = some 2 := by decide +kernel
theorem zd_X4_step : yX4_step.cls = RX4 ∧ yX4_step.cls ≠ "java/lang/invoke/MethodHandle" ∧ yX4_step.cls ≠ "java/lang/invoke/VarHandle" ∧ (parseMethodDescriptor yX4_step.desc).map (fun d => d.parameters.length) = some 2 := by decide +kernel
theorem zd_X4_weigh : yX4_weigh.cls = RX4 ∧ yX4_weigh.cls ≠ "java/lang/invoke/MethodHandle" ∧ yX4_weigh.cls ≠ "java/lang/invoke/VarHandle" ∧ (parseMethodDescriptor yX4_weigh.desc).map (fun d => d.parameters.length) = some 2 := by decide +kernel
theorem zd_X4_worth : yX4_worth.cls = RX4 ∧ yX4_worth.cls ≠ "java/lang/invoke/MethodHandle" ∧ yX4_worth.cls ≠ "java/lang/invoke/VarHandle" ∧ (parseMethodDescriptor yX4_worth.desc).map (fun d => d.parameters.length) = some 2 := by decide +kernel
theorem zd_X5_begin : yX5_begin.cls = RX5 ∧ yX5_begin.cls ≠ "java/lang/invoke/MethodHandle" ∧ yX5_begin.cls ≠ "java/lang/invoke/VarHandle" ∧ (parseMethodDescriptor yX5_begin.desc).map (fun d => d.parameters.length) = some 1 := by decide +kernel
theorem zd_X5_copyFrom : yX5_copyFrom.cls = RX5 ∧ yX5_copyFrom.cls ≠ "java/lang/invoke/MethodHandle" ∧ yX5_copyFrom.cls ≠ "java/lang/invoke/VarHandle" ∧ (parseMethodDescriptor yX5_copyFrom.desc).map (fun d => d.parameters.length) = some 1 := by decide +kernel
theorem zd_X5_isGone : yX5_isGone.cls = RX5 ∧ yX5_isGone.cls ≠ "java/lang/invoke/MethodHandle" ∧ yX5_isGone.cls ≠ "java/lang/invoke/VarHandle" ∧ (parseMethodDescriptor yX5_isGone.desc).map (fun d => d.parameters.length) = some 1 := by decide +kernel
theorem zd_X5_startTurn : yX5_startTurn.cls = RX5 ∧ yX5_startTurn.cls ≠ "java/lang/invoke/MethodHandle" ∧ yX5_startTurn.cls ≠ "java/lang/invoke/VarHandle" ∧ (parseMethodDescriptor yX5_startTurn.desc).map (fun d => d.parameters.length) = some 1 := by decide +kernel
theorem zd_X6_add : yX6_add.cls = RX6 ∧ yX6_add.cls ≠ "java/lang/invoke/MethodHandle" ∧ yX6_add.cls ≠ "java/lang/invoke/VarHandle" ∧ (parseMethodDescriptor yX6_add.desc).map (fun d => d.parameters.length) = some 2 := by decide +kernel
theorem zd_X6_copyFrom : yX6_copyFrom.cls = RX6 ∧ yX6_copyFrom.cls ≠ "java/lang/invoke/MethodHandle" ∧ yX6_copyFrom.cls ≠ "java/lang/invoke/VarHandle" ∧ (parseMethodDescriptor yX6_copyFrom.desc).map (fun d => d.parameters.length) = some 1 := by decide +kernel
theorem zd_X6_placeOf : yX6_placeOf.cls = RX6 ∧ yX6_placeOf.cls ≠ "java/lang/invoke/MethodHandle" ∧ yX6_placeOf.cls ≠ "java/lang/invoke/VarHandle" ∧ (parseMethodDescriptor yX6_placeOf.desc).map (fun d => d.parameters.length) = some 2 := by decide +kernel
theorem zd_X6_placesIn : yX6_placesIn.cls = RX6 ∧ yX6_placesIn.cls ≠ "java/lang/invoke/MethodHandle" ∧ yX6_placesIn.cls ≠ "java/lang/invoke/VarHandle" ∧ (parseMethodDescriptor yX6_placesIn.desc).map (fun d => d.parameters.length) = some 1 := by decide +kernel
theorem zd_X7_answered : yX7_answered.cls = RX7 ∧ yX7_answered.cls ≠ "java/lang/invoke/MethodHandle" ∧ yX7_answered.cls ≠ "java/lang/invoke/VarHandle" ∧ (parseMethodDescriptor yX7_answered.desc).map (fun d => d.parameters.length) = some 1 := by decide +kernel
theorem zd_X7_attendantShare : yX7_attendantShare.cls = RX7 ∧ yX7_attendantShare.cls ≠ "java/lang/invoke/MethodHandle" ∧ yX7_attendantShare.cls ≠ "java/lang/invoke/VarHandle" ∧ (parseMethodDescriptor yX7_attendantShare.desc).map (fun d => d.parameters.length) = some 2 := by decide +kernel
theorem zd_X7_crowdAt : yX7_crowdAt.cls = RX7 ∧ yX7_crowdAt.cls ≠ "java/lang/invoke/MethodHandle" ∧ yX7_crowdAt.cls ≠ "java/lang/invoke/VarHandle" ∧ (parseMethodDescriptor yX7_crowdAt.desc).map (fun d => d.parameters.length) = some 1 := by decide +kernel
theorem zd_X7_figureShare : yX7_figureShare.cls = RX7 ∧ yX7_figureShare.cls ≠ "java/lang/invoke/MethodHandle" ∧ yX7_figureShare.cls ≠ "java/lang/invoke/VarHandle" ∧ (parseMethodDescriptor yX7_figureShare.desc).map (fun d => d.parameters.length) = some 3 := by decide +kernel
theorem zd_X7_hasBit : yX7_hasBit.cls = RX7 ∧ yX7_hasBit.cls ≠ "java/lang/invoke/MethodHandle" ∧ yX7_hasBit.cls ≠ "java/lang/invoke/VarHandle" ∧ (parseMethodDescriptor yX7_hasBit.desc).map (fun d => d.parameters.length) = some 2 := by decide +kernel
theorem zd_X7_hasGallery : yX7_hasGallery.cls = RX7 ∧ yX7_hasGallery.cls ≠ "java/lang/invoke/MethodHandle" ∧ yX7_hasGallery.cls ≠ "java/lang/invoke/VarHandle" ∧ (parseMethodDescriptor yX7_hasGallery.desc).map (fun d => d.parameters.length) = some 0 := by decide +kernel
theorem zd_X7_inLowestTerms : yX7_inLowestTerms.cls = RX7 ∧ yX7_inLowestTerms.cls ≠ "java/lang/invoke/MethodHandle" ∧ yX7_inLowestTerms.cls ≠ "java/lang/invoke/VarHandle" ∧ (parseMethodDescriptor yX7_inLowestTerms.desc).map (fun d => d.parameters.length) = some 3 := by decide +kernel
theorem zd_X7_isFigure : yX7_isFigure.cls = RX7 ∧ yX7_isFigure.cls ≠ "java/lang/invoke/MethodHandle" ∧ yX7_isFigure.cls ≠ "java/lang/invoke/VarHandle" ∧ (parseMethodDescriptor yX7_isFigure.desc).map (fun d => d.parameters.length) = some 1 := by decide +kernel
theorem zd_X7_isPlace : yX7_isPlace.cls = RX7 ∧ yX7_isPlace.cls ≠ "java/lang/invoke/MethodHandle" ∧ yX7_isPlace.cls ≠ "java/lang/invoke/VarHandle" ∧ (parseMethodDescriptor yX7_isPlace.desc).map (fun d => d.parameters.length) = some 1 := by decide +kernel
theorem zd_X7_isRest : yX7_isRest.cls = RX7 ∧ yX7_isRest.cls ≠ "java/lang/invoke/MethodHandle" ∧ yX7_isRest.cls ≠ "java/lang/invoke/VarHandle" ∧ (parseMethodDescriptor yX7_isRest.desc).map (fun d => d.parameters.length) = some 3 := by decide +kernel
theorem zd_X7_isShut : yX7_isShut.cls = RX7 ∧ yX7_isShut.cls ≠ "java/lang/invoke/MethodHandle" ∧ yX7_isShut.cls ≠ "java/lang/invoke/VarHandle" ∧ (parseMethodDescriptor yX7_isShut.desc).map (fun d => d.parameters.length) = some 1 := by decide +kernel
theorem zd_X7_isWatcher : yX7_isWatcher.cls = RX7 ∧ yX7_isWatcher.cls ≠ "java/lang/invoke/MethodHandle" ∧ yX7_isWatcher.cls ≠ "java/lang/invoke/VarHandle" ∧ (parseMethodDescriptor yX7_isWatcher.desc).map (fun d => d.parameters.length) = some 1 := by decide +kernel
theorem zd_X7_laterTurn : yX7_laterTurn.cls = RX7 ∧ yX7_laterTurn.cls ≠ "java/lang/invoke/MethodHandle" ∧ yX7_laterTurn.cls ≠ "java/lang/invoke/VarHandle" ∧ (parseMethodDescriptor yX7_laterTurn.desc).map (fun d => d.parameters.length) = some 5 := by decide +kernel
theorem zd_X7_minutesTillGone : yX7_minutesTillGone.cls = RX7 ∧ yX7_minutesTillGone.cls ≠ "java/lang/invoke/MethodHandle" ∧ yX7_minutesTillGone.cls ≠ "java/lang/invoke/VarHandle" ∧ (parseMethodDescriptor yX7_minutesTillGone.desc).map (fun d => d.parameters.length) = some 2 := by decide +kernel
theorem zd_X7_nextDraw : yX7_nextDraw.cls = RX7 ∧ yX7_nextDraw.cls ≠ "java/lang/invoke/MethodHandle" ∧ yX7_nextDraw.cls ≠ "java/lang/invoke/VarHandle" ∧ (parseMethodDescriptor yX7_nextDraw.desc).map (fun d => d.parameters.length) = some 1 := by decide +kernel
theorem zd_X7_ownTurns : yX7_ownTurns.cls = RX7 ∧ yX7_ownTurns.cls ≠ "java/lang/invoke/MethodHandle" ∧ yX7_ownTurns.cls ≠ "java/lang/invoke/VarHandle" ∧ (parseMethodDescriptor yX7_ownTurns.desc).map (fun d => d.parameters.length) = some 2 := by decide +kernel
theorem zd_X7_passAhead : yX7_passAhead.cls = RX7 ∧ yX7_passAhead.cls ≠ "java/lang/invoke/MethodHandle" ∧ yX7_passAhead.cls ≠ "java/lang/invoke/VarHandle" ∧ (parseMethodDescriptor yX7_passAhead.desc).map (fun d => d.parameters.length) = some 1 := by decide +kernel
theorem zd_X7_placeOfActing : yX7_placeOfActing.cls = RX7 ∧ yX7_placeOfActing.cls ≠ "java/lang/invoke/MethodHandle" ∧ yX7_placeOfActing.cls ≠ "java/lang/invoke/VarHandle" ∧ (parseMethodDescriptor yX7_placeOfActing.desc).map (fun d => d.parameters.length) = some 0 := by decide +kernel
theorem zd_X7_planRoutes : yX7_planRoutes.cls = RX7 ∧ yX7_planRoutes.cls ≠ "java/lang/invoke/MethodHandle" ∧ yX7_planRoutes.cls ≠ "java/lang/invoke/VarHandle" ∧ (parseMethodDescriptor yX7_planRoutes.desc).map (fun d => d.parameters.length) = some 1 := by decide +kernel
theorem zd_X7_postsHold : yX7_postsHold.cls = RX7 ∧ yX7_postsHold.cls ≠ "java/lang/invoke/MethodHandle" ∧ yX7_postsHold.cls ≠ "java/lang/invoke/VarHandle" ∧ (parseMethodDescriptor yX7_postsHold.desc).map (fun d => d.parameters.length) = some 2 := by decide +kernel
theorem zd_X7_refused : yX7_refused.cls = RX7 ∧ yX7_refused.cls ≠ "java/lang/invoke/MethodHandle" ∧ yX7_refused.cls ≠ "java/lang/invoke/VarHandle" ∧ (parseMethodDescriptor yX7_refused.desc).map (fun d => d.parameters.length) = some 1 := by decide +kernel
theorem zd_X7_roundLength : yX7_roundLength.cls = RX7 ∧ yX7_roundLength.cls ≠ "java/lang/invoke/MethodHandle" ∧ yX7_roundLength.cls ≠ "java/lang/invoke/VarHandle" ∧ (parseMethodDescriptor yX7_roundLength.desc).map (fun d => d.parameters.length) = some 0 := by decide +kernel
theorem zd_X7_runAhead : yX7_runAhead.cls = RX7 ∧ yX7_runAhead.cls ≠ "java/lang/invoke/MethodHandle" ∧ yX7_runAhead.cls ≠ "java/lang/invoke/VarHandle" ∧ (parseMethodDescriptor yX7_runAhead.desc).map (fun d => d.parameters.length) = some 1 := by decide +kernel
theorem zd_X7_runAheadOnTrial : yX7_runAheadOnTrial.cls = RX7 ∧ yX7_runAheadOnTrial.cls ≠ "java/lang/invoke/MethodHandle" ∧ yX7_runAheadOnTrial.cls ≠ "java/lang/invoke/VarHandle" ∧ (parseMethodDescriptor yX7_runAheadOnTrial.desc).map (fun d => d.parameters.length) = some 1 := by decide +kernel
theorem zd_X7_troubleOfFigureWithin : yX7_troubleOfFigureWithin.cls = RX7 ∧ yX7_troubleOfFigureWithin.cls ≠ "java/lang/invoke/MethodHandle" ∧ yX7_troubleOfFigureWithin.cls ≠ "java/lang/invoke/VarHandle" ∧ (parseMethodDescriptor yX7_troubleOfFigureWithin.desc).map (fun d => d.parameters.length) = some 3 := by decide +kernel
theorem zd_X7_troubleOfNumber : yX7_troubleOfNumber.cls = RX7 ∧ yX7_troubleOfNumber.cls ≠ "java/lang/invoke/MethodHandle" ∧ yX7_troubleOfNumber.cls ≠ "java/lang/invoke/VarHandle" ∧ (parseMethodDescriptor yX7_troubleOfNumber.desc).map (fun d => d.parameters.length) = some 3 := by decide +kernel
theorem zd_X7_turnFromNow : yX7_turnFromNow.cls = RX7 ∧ yX7_turnFromNow.cls ≠ "java/lang/invoke/MethodHandle" ∧ yX7_turnFromNow.cls ≠ "java/lang/invoke/VarHandle" ∧ (parseMethodDescriptor yX7_turnFromNow.desc).map (fun d => d.parameters.length) = some 1 := by decide +kernel
theorem zd_X7_within : yX7_within.cls = RX7 ∧ yX7_within.cls ≠ "java/lang/invoke/MethodHandle" ∧ yX7_within.cls ≠ "java/lang/invoke/VarHandle" ∧ (parseMethodDescriptor yX7_within.desc).map (fun d => d.parameters.length) = some 3 := by decide +kernel
theorem zd_X8_after : yX8_after.cls = RX8 ∧ yX8_after.cls ≠ "java/lang/invoke/MethodHandle" ∧ yX8_after.cls ≠ "java/lang/invoke/VarHandle" ∧ (parseMethodDescriptor yX8_after.desc).map (fun d => d.parameters.length) = some 3 := by decide +kernel
theorem zd_X8_aheadWhy : yX8_aheadWhy.cls = RX8 ∧ yX8_aheadWhy.cls ≠ "java/lang/invoke/MethodHandle" ∧ yX8_aheadWhy.cls ≠ "java/lang/invoke/VarHandle" ∧ (parseMethodDescriptor yX8_aheadWhy.desc).map (fun d => d.parameters.length) = some 3 := by decide +kernel
theorem zd_X8_begin : yX8_begin.cls = RX8 ∧ yX8_begin.cls ≠ "java/lang/invoke/MethodHandle" ∧ yX8_begin.cls ≠ "java/lang/invoke/VarHandle" ∧ (parseMethodDescriptor yX8_begin.desc).map (fun d => d.parameters.length) = some 0 := by decide +kernel
theorem zd_X8_begins : yX8_begins.cls = RX8 ∧ yX8_begins.cls ≠ "java/lang/invoke/MethodHandle" ∧ yX8_begins.cls ≠ "java/lang/invoke/VarHandle" ∧ (parseMethodDescriptor yX8_begins.desc).map (fun d => d.parameters.length) = some 2 := by decide +kernel
theorem zd_X8_bestFrom : yX8_bestFrom.cls = RX8 ∧ yX8_bestFrom.cls ≠ "java/lang/invoke/MethodHandle" ∧ yX8_bestFrom.cls ≠ "java/lang/invoke/VarHandle" ∧ (parseMethodDescriptor yX8_bestFrom.desc).map (fun d => d.parameters.length) = some 3 := by decide +kernel
theorem zd_X8_between : yX8_between.cls = RX8 ∧ yX8_between.cls ≠ "java/lang/invoke/MethodHandle" ∧ yX8_between.cls ≠ "java/lang/invoke/VarHandle" ∧ (parseMethodDescriptor yX8_between.desc).map (fun d => d.parameters.length) = some 2 := by decide +kernel
theorem zd_X8_byCode : yX8_byCode.cls = RX8 ∧ yX8_byCode.cls ≠ "java/lang/invoke/MethodHandle" ∧ yX8_byCode.cls ≠ "java/lang/invoke/VarHandle" ∧ (parseMethodDescriptor yX8_byCode.desc).map (fun d => d.parameters.length) = some 2 := by decide +kernel
theorem zd_X8_codes : yX8_codes.cls = RX8 ∧ yX8_codes.cls ≠ "java/lang/invoke/MethodHandle" ∧ yX8_codes.cls ≠ "java/lang/invoke/VarHandle" ∧ (parseMethodDescriptor yX8_codes.desc).map (fun d => d.parameters.length) = some 0 := by decide +kernel
theorem zd_X8_copy : yX8_copy.cls = RX8 ∧ yX8_copy.cls ≠ "java/lang/invoke/MethodHandle" ∧ yX8_copy.cls ≠ "java/lang/invoke/VarHandle" ∧ (parseMethodDescriptor yX8_copy.desc).map (fun d => d.parameters.length) = some 5 := by decide +kernel
theorem zd_X8_doesFit : yX8_doesFit.cls = RX8 ∧ yX8_doesFit.cls ≠ "java/lang/invoke/MethodHandle" ∧ yX8_doesFit.cls ≠ "java/lang/invoke/VarHandle" ∧ (parseMethodDescriptor yX8_doesFit.desc).map (fun d => d.parameters.length) = some 1 := by decide +kernel
theorem zd_X8_drawWhy : yX8_drawWhy.cls = RX8 ∧ yX8_drawWhy.cls ≠ "java/lang/invoke/MethodHandle" ∧ yX8_drawWhy.cls ≠ "java/lang/invoke/VarHandle" ∧ (parseMethodDescriptor yX8_drawWhy.desc).map (fun d => d.parameters.length) = some 4 := by decide +kernel
theorem zd_X8_figureHas : yX8_figureHas.cls = RX8 ∧ yX8_figureHas.cls ≠ "java/lang/invoke/MethodHandle" ∧ yX8_figureHas.cls ≠ "java/lang/invoke/VarHandle" ∧ (parseMethodDescriptor yX8_figureHas.desc).map (fun d => d.parameters.length) = some 3 := by decide +kernel
theorem zd_X8_figureLine : yX8_figureLine.cls = RX8 ∧ yX8_figureLine.cls ≠ "java/lang/invoke/MethodHandle" ∧ yX8_figureLine.cls ≠ "java/lang/invoke/VarHandle" ∧ (parseMethodDescriptor yX8_figureLine.desc).map (fun d => d.parameters.length) = some 0 := by decide +kernel
theorem zd_X8_galleryLine : yX8_galleryLine.cls = RX8 ∧ yX8_galleryLine.cls ≠ "java/lang/invoke/MethodHandle" ∧ yX8_galleryLine.cls ≠ "java/lang/invoke/VarHandle" ∧ (parseMethodDescriptor yX8_galleryLine.desc).map (fun d => d.parameters.length) = some 0 := by decide +kernel
theorem zd_X8_goRound : yX8_goRound.cls = RX8 ∧ yX8_goRound.cls ≠ "java/lang/invoke/MethodHandle" ∧ yX8_goRound.cls ≠ "java/lang/invoke/VarHandle" ∧ (parseMethodDescriptor yX8_goRound.desc).map (fun d => d.parameters.length) = some 0 := by decide +kernel
theorem zd_X8_good : yX8_good.cls = RX8 ∧ yX8_good.cls ≠ "java/lang/invoke/MethodHandle" ∧ yX8_good.cls ≠ "java/lang/invoke/VarHandle" ∧ (parseMethodDescriptor yX8_good.desc).map (fun d => d.parameters.length) = some 0 := by decide +kernel
theorem zd_X8_hasBit : yX8_hasBit.cls = RX8 ∧ yX8_hasBit.cls ≠ "java/lang/invoke/MethodHandle" ∧ yX8_hasBit.cls ≠ "java/lang/invoke/VarHandle" ∧ (parseMethodDescriptor yX8_hasBit.desc).map (fun d => d.parameters.length) = some 2 := by decide +kernel
theorem zd_X8_in : yX8_in.cls = RX8 ∧ yX8_in.cls ≠ "java/lang/invoke/MethodHandle" ∧ yX8_in.cls ≠ "java/lang/invoke/VarHandle" ∧ (parseMethodDescriptor yX8_in.desc).map (fun d => d.parameters.length) = some 3 := by decide +kernel
theorem zd_X8_isDigit : yX8_isDigit.cls = RX8 ∧ yX8_isDigit.cls ≠ "java/lang/invoke/MethodHandle" ∧ yX8_isDigit.cls ≠ "java/lang/invoke/VarHandle" ∧ (parseMethodDescriptor yX8_isDigit.desc).map (fun d => d.parameters.length) = some 1 := by decide +kernel
theorem zd_X8_isFigure : yX8_isFigure.cls = RX8 ∧ yX8_isFigure.cls ≠ "java/lang/invoke/MethodHandle" ∧ yX8_isFigure.cls ≠ "java/lang/invoke/VarHandle" ∧ (parseMethodDescriptor yX8_isFigure.desc).map (fun d => d.parameters.length) = some 1 := by decide +kernel
theorem zd_X8_isKnown : yX8_isKnown.cls = RX8 ∧ yX8_isKnown.cls ≠ "java/lang/invoke/MethodHandle" ∧ yX8_isKnown.cls ≠ "java/lang/invoke/VarHandle" ∧ (parseMethodDescriptor yX8_isKnown.desc).map (fun d => d.parameters.length) = some 0 := by decide +kernel
theorem zd_X8_isNot : yX8_isNot.cls = RX8 ∧ yX8_isNot.cls ≠ "java/lang/invoke/MethodHandle" ∧ yX8_isNot.cls ≠ "java/lang/invoke/VarHandle" ∧ (parseMethodDescriptor yX8_isNot.desc).map (fun d => d.parameters.length) = some 1 := by decide +kernel
theorem zd_X8_isSmall : yX8_isSmall.cls = RX8 ∧ yX8_isSmall.cls ≠ "java/lang/invoke/MethodHandle" ∧ yX8_isSmall.cls ≠ "java/lang/invoke/VarHandle" ∧ (parseMethodDescriptor yX8_isSmall.desc).map (fun d => d.parameters.length) = some 1 := by decide +kernel
theorem zd_X8_isWatched : yX8_isWatched.cls = RX8 ∧ yX8_isWatched.cls ≠ "java/lang/invoke/MethodHandle" ∧ yX8_isWatched.cls ≠ "java/lang/invoke/VarHandle" ∧ (parseMethodDescriptor yX8_isWatched.desc).map (fun d => d.parameters.length) = some 2 := by decide +kernel
theorem zd_X8_isWatcher : yX8_isWatcher.cls = RX8 ∧ yX8_isWatcher.cls ≠ "java/lang/invoke/MethodHandle" ∧ yX8_isWatcher.cls ≠ "java/lang/invoke/VarHandle" ∧ (parseMethodDescriptor yX8_isWatcher.desc).map (fun d => d.parameters.length) = some 1 := by decide +kernel
theorem zd_X8_isWord : yX8_isWord.cls = RX8 ∧ yX8_isWord.cls ≠ "java/lang/invoke/MethodHandle" ∧ yX8_isWord.cls ≠ "java/lang/invoke/VarHandle" ∧ (parseMethodDescriptor yX8_isWord.desc).map (fun d => d.parameters.length) = some 1 := by decide +kernel
theorem zd_X8_last : yX8_last.cls = RX8 ∧ yX8_last.cls ≠ "java/lang/invoke/MethodHandle" ∧ yX8_last.cls ≠ "java/lang/invoke/VarHandle" ∧ (parseMethodDescriptor yX8_last.desc).map (fun d => d.parameters.length) = some 0 := by decide +kernel
theorem zd_X8_lawLine : yX8_lawLine.cls = RX8 ∧ yX8_lawLine.cls ≠ "java/lang/invoke/MethodHandle" ∧ yX8_lawLine.cls ≠ "java/lang/invoke/VarHandle" ∧ (parseMethodDescriptor yX8_lawLine.desc).map (fun d => d.parameters.length) = some 0 := by decide +kernel
theorem zd_X8_layOften : yX8_layOften.cls = RX8 ∧ yX8_layOften.cls ≠ "java/lang/invoke/MethodHandle" ∧ yX8_layOften.cls ≠ "java/lang/invoke/VarHandle" ∧ (parseMethodDescriptor yX8_layOften.desc).map (fun d => d.parameters.length) = some 1 := by decide +kernel
theorem zd_X8_layRoute : yX8_layRoute.cls = RX8 ∧ yX8_layRoute.cls ≠ "java/lang/invoke/MethodHandle" ∧ yX8_layRoute.cls ≠ "java/lang/invoke/VarHandle" ∧ (parseMethodDescriptor yX8_layRoute.desc).map (fun d => d.parameters.length) = some 1 := by decide +kernel
theorem zd_X8_lookOf : yX8_lookOf.cls = RX8 ∧ yX8_lookOf.cls ≠ "java/lang/invoke/MethodHandle" ∧ yX8_lookOf.cls ≠ "java/lang/invoke/VarHandle" ∧ (parseMethodDescriptor yX8_lookOf.desc).map (fun d => d.parameters.length) = some 0 := by decide +kernel
theorem zd_X8_lowest : yX8_lowest.cls = RX8 ∧ yX8_lowest.cls ≠ "java/lang/invoke/MethodHandle" ∧ yX8_lowest.cls ≠ "java/lang/invoke/VarHandle" ∧ (parseMethodDescriptor yX8_lowest.desc).map (fun d => d.parameters.length) = some 3 := by decide +kernel
theorem zd_X8_minuteOn : yX8_minuteOn.cls = RX8 ∧ yX8_minuteOn.cls ≠ "java/lang/invoke/MethodHandle" ∧ yX8_minuteOn.cls ≠ "java/lang/invoke/VarHandle" ∧ (parseMethodDescriptor yX8_minuteOn.desc).map (fun d => d.parameters.length) = some 1 := by decide +kernel
theorem zd_X8_minutesOn : yX8_minutesOn.cls = RX8 ∧ yX8_minutesOn.cls ≠ "java/lang/invoke/MethodHandle" ∧ yX8_minutesOn.cls ≠ "java/lang/invoke/VarHandle" ∧ (parseMethodDescriptor yX8_minutesOn.desc).map (fun d => d.parameters.length) = some 1 := by decide +kernel
theorem zd_X8_must : yX8_must.cls = RX8 ∧ yX8_must.cls ≠ "java/lang/invoke/MethodHandle" ∧ yX8_must.cls ≠ "java/lang/invoke/VarHandle" ∧ (parseMethodDescriptor yX8_must.desc).map (fun d => d.parameters.length) = some 1 := by decide +kernel
theorem zd_X8_newName : yX8_newName.cls = RX8 ∧ yX8_newName.cls ≠ "java/lang/invoke/MethodHandle" ∧ yX8_newName.cls ≠ "java/lang/invoke/VarHandle" ∧ (parseMethodDescriptor yX8_newName.desc).map (fun d => d.parameters.length) = some 1 := by decide +kernel
theorem zd_X8_next : yX8_next.cls = RX8 ∧ yX8_next.cls ≠ "java/lang/invoke/MethodHandle" ∧ yX8_next.cls ≠ "java/lang/invoke/VarHandle" ∧ (parseMethodDescriptor yX8_next.desc).map (fun d => d.parameters.length) = some 0 := by decide +kernel
theorem zd_X8_nextGone : yX8_nextGone.cls = RX8 ∧ yX8_nextGone.cls ≠ "java/lang/invoke/MethodHandle" ∧ yX8_nextGone.cls ≠ "java/lang/invoke/VarHandle" ∧ (parseMethodDescriptor yX8_nextGone.desc).map (fun d => d.parameters.length) = some 0 := by decide +kernel
theorem zd_X8_nextOf : yX8_nextOf.cls = RX8 ∧ yX8_nextOf.cls ≠ "java/lang/invoke/MethodHandle" ∧ yX8_nextOf.cls ≠ "java/lang/invoke/VarHandle" ∧ (parseMethodDescriptor yX8_nextOf.desc).map (fun d => d.parameters.length) = some 1 := by decide +kernel
theorem zd_X8_no : yX8_no.cls = RX8 ∧ yX8_no.cls ≠ "java/lang/invoke/MethodHandle" ∧ yX8_no.cls ≠ "java/lang/invoke/VarHandle" ∧ (parseMethodDescriptor yX8_no.desc).map (fun d => d.parameters.length) = some 1 := by decide +kernel
theorem zd_X8_note : yX8_note.cls = RX8 ∧ yX8_note.cls ≠ "java/lang/invoke/MethodHandle" ∧ yX8_note.cls ≠ "java/lang/invoke/VarHandle" ∧ (parseMethodDescriptor yX8_note.desc).map (fun d => d.parameters.length) = some 0 := by decide +kernel
theorem zd_X8_number : yX8_number.cls = RX8 ∧ yX8_number.cls ≠ "java/lang/invoke/MethodHandle" ∧ yX8_number.cls ≠ "java/lang/invoke/VarHandle" ∧ (parseMethodDescriptor yX8_number.desc).map (fun d => d.parameters.length) = some 2 := by decide +kernel
theorem zd_X8_numberHere : yX8_numberHere.cls = RX8 ∧ yX8_numberHere.cls ≠ "java/lang/invoke/MethodHandle" ∧ yX8_numberHere.cls ≠ "java/lang/invoke/VarHandle" ∧ (parseMethodDescriptor yX8_numberHere.desc).map (fun d => d.parameters.length) = some 2 := by decide +kernel
theorem zd_X8_numberOf : yX8_numberOf.cls = RX8 ∧ yX8_numberOf.cls ≠ "java/lang/invoke/MethodHandle" ∧ yX8_numberOf.cls ≠ "java/lang/invoke/VarHandle" ∧ (parseMethodDescriptor yX8_numberOf.desc).map (fun d => d.parameters.length) = some 1 := by decide +kernel
theorem zd_X8_ones : yX8_ones.cls = RX8 ∧ yX8_ones.cls ≠ "java/lang/invoke/MethodHandle" ∧ yX8_ones.cls ≠ "java/lang/invoke/VarHandle" ∧ (parseMethodDescriptor yX8_ones.desc).map (fun d => d.parameters.length) = some 1 := by decide +kernel
theorem zd_X8_otherHas : yX8_otherHas.cls = RX8 ∧ yX8_otherHas.cls ≠ "java/lang/invoke/MethodHandle" ∧ yX8_otherHas.cls ≠ "java/lang/invoke/VarHandle" ∧ (parseMethodDescriptor yX8_otherHas.desc).map (fun d => d.parameters.length) = some 2 := by decide +kernel
theorem zd_X8_pass : yX8_pass.cls = RX8 ∧ yX8_pass.cls ≠ "java/lang/invoke/MethodHandle" ∧ yX8_pass.cls ≠ "java/lang/invoke/VarHandle" ∧ (parseMethodDescriptor yX8_pass.desc).map (fun d => d.parameters.length) = some 0 := by decide +kernel
theorem zd_X8_readLine : yX8_readLine.cls = RX8 ∧ yX8_readLine.cls ≠ "java/lang/invoke/MethodHandle" ∧ yX8_readLine.cls ≠ "java/lang/invoke/VarHandle" ∧ (parseMethodDescriptor yX8_readLine.desc).map (fun d => d.parameters.length) = some 0 := by decide +kernel
theorem zd_X8_routeWhy : yX8_routeWhy.cls = RX8 ∧ yX8_routeWhy.cls ≠ "java/lang/invoke/MethodHandle" ∧ yX8_routeWhy.cls ≠ "java/lang/invoke/VarHandle" ∧ (parseMethodDescriptor yX8_routeWhy.desc).map (fun d => d.parameters.length) = some 2 := by decide +kernel
theorem zd_X8_see : yX8_see.cls = RX8 ∧ yX8_see.cls ≠ "java/lang/invoke/MethodHandle" ∧ yX8_see.cls ≠ "java/lang/invoke/VarHandle" ∧ (parseMethodDescriptor yX8_see.desc).map (fun d => d.parameters.length) = some 1 := by decide +kernel
theorem zd_X8_seekRests : yX8_seekRests.cls = RX8 ∧ yX8_seekRests.cls ≠ "java/lang/invoke/MethodHandle" ∧ yX8_seekRests.cls ≠ "java/lang/invoke/VarHandle" ∧ (parseMethodDescriptor yX8_seekRests.desc).map (fun d => d.parameters.length) = some 1 := by decide +kernel
theorem zd_X8_seenLine : yX8_seenLine.cls = RX8 ∧ yX8_seenLine.cls ≠ "java/lang/invoke/MethodHandle" ∧ yX8_seenLine.cls ≠ "java/lang/invoke/VarHandle" ∧ (parseMethodDescriptor yX8_seenLine.desc).map (fun d => d.parameters.length) = some 0 := by decide +kernel
theorem zd_X8_speakOn : yX8_speakOn.cls = RX8 ∧ yX8_speakOn.cls ≠ "java/lang/invoke/MethodHandle" ∧ yX8_speakOn.cls ≠ "java/lang/invoke/VarHandle" ∧ (parseMethodDescriptor yX8_speakOn.desc).map (fun d => d.parameters.length) = some 2 := by decide +kernel
theorem zd_X8_takesWord : yX8_takesWord.cls = RX8 ∧ yX8_takesWord.cls ≠ "java/lang/invoke/MethodHandle" ∧ yX8_takesWord.cls ≠ "java/lang/invoke/VarHandle" ∧ (parseMethodDescriptor yX8_takesWord.desc).map (fun d => d.parameters.length) = some 1 := by decide +kernel
theorem zd_X8_turnAt : yX8_turnAt.cls = RX8 ∧ yX8_turnAt.cls ≠ "java/lang/invoke/MethodHandle" ∧ yX8_turnAt.cls ≠ "java/lang/invoke/VarHandle" ∧ (parseMethodDescriptor yX8_turnAt.desc).map (fun d => d.parameters.length) = some 1 := by decide +kernel
theorem zd_X8_turnBy : yX8_turnBy.cls = RX8 ∧ yX8_turnBy.cls ≠ "java/lang/invoke/MethodHandle" ∧ yX8_turnBy.cls ≠ "java/lang/invoke/VarHandle" ∧ (parseMethodDescriptor yX8_turnBy.desc).map (fun d => d.parameters.length) = some 4 := by decide +kernel
theorem zd_X8_turnsOf : yX8_turnsOf.cls = RX8 ∧ yX8_turnsOf.cls ≠ "java/lang/invoke/MethodHandle" ∧ yX8_turnsOf.cls ≠ "java/lang/invoke/VarHandle" ∧ (parseMethodDescriptor yX8_turnsOf.desc).map (fun d => d.parameters.length) = some 2 := by decide +kernel
theorem zd_X8_walkOn : yX8_walkOn.cls = RX8 ∧ yX8_walkOn.cls ≠ "java/lang/invoke/MethodHandle" ∧ yX8_walkOn.cls ≠ "java/lang/invoke/VarHandle" ∧ (parseMethodDescriptor yX8_walkOn.desc).map (fun d => d.parameters.length) = some 2 := by decide +kernel
theorem zd_X8_watchAsTold : yX8_watchAsTold.cls = RX8 ∧ yX8_watchAsTold.cls ≠ "java/lang/invoke/MethodHandle" ∧ yX8_watchAsTold.cls ≠ "java/lang/invoke/VarHandle" ∧ (parseMethodDescriptor yX8_watchAsTold.desc).map (fun d => d.parameters.length) = some 0 := by decide +kernel
theorem zd_X8_watcherAt : yX8_watcherAt.cls = RX8 ∧ yX8_watcherAt.cls ≠ "java/lang/invoke/MethodHandle" ∧ yX8_watcherAt.cls ≠ "java/lang/invoke/VarHandle" ∧ (parseMethodDescriptor yX8_watcherAt.desc).map (fun d => d.parameters.length) = some 2 := by decide +kernel
theorem zd_X8_watcherLine : yX8_watcherLine.cls = RX8 ∧ yX8_watcherLine.cls ≠ "java/lang/invoke/MethodHandle" ∧ yX8_watcherLine.cls ≠ "java/lang/invoke/VarHandle" ∧ (parseMethodDescriptor yX8_watcherLine.desc).map (fun d => d.parameters.length) = some 0 := by decide +kernel
theorem zd_X8_why : yX8_why.cls = RX8 ∧ yX8_why.cls ≠ "java/lang/invoke/MethodHandle" ∧ yX8_why.cls ≠ "java/lang/invoke/VarHandle" ∧ (parseMethodDescriptor yX8_why.desc).map (fun d => d.parameters.length) = some 2 := by decide +kernel
theorem zd_X8_wrong : yX8_wrong.cls = RX8 ∧ yX8_wrong.cls ≠ "java/lang/invoke/MethodHandle" ∧ yX8_wrong.cls ≠ "java/lang/invoke/VarHandle" ∧ (parseMethodDescriptor yX8_wrong.desc).map (fun d => d.parameters.length) = some 2 := by decide +kernel
theorem zi_X0_addFigure_0 : ∀ w ∈ u_ws RX0 TX0 15, w ∈ wsX0_addFigure := fun _ h => (List.mem_cons_of_mem _ (List.mem_append_right _ h))
theorem zi_X0_addSeen_0 : ∀ w ∈ u_ws RX0 TX0 15, w ∈ wsX0_addSeen := fun _ h => (List.mem_cons_of_mem _ (List.mem_append_right _ h))
theorem zi_X0_aliveByLaw_0 : ∀ w ∈ u_ws RX0 TX0 15, w ∈ wsX0_aliveByLaw := fun _ h => (List.mem_cons_of_mem _ (List.mem_append_right _ h))
theorem zi_X0_clear_0 : ∀ w ∈ u_ws RX0 TX0 15, w ∈ wsX0_clear := fun _ h => (List.mem_cons_of_mem _ (List.mem_append_left _ (List.mem_append_right _ h)))
theorem zi_X0_clear_6 : ∀ w ∈ u_ws RX6 TX6 4, w ∈ wsX0_clear := fun _ h => (List.mem_cons_of_mem _ (List.mem_append_right _ h))
theorem zi_X0_goesLike_0 : ∀ w ∈ u_ws RX0 TX0 15, w ∈ wsX0_goesLike := fun _ h => (List.mem_cons_of_mem _ (List.mem_append_right _ h))
theorem zi_X0_isSeenMinute_0 : ∀ w ∈ u_ws RX0 TX0 15, w ∈ wsX0_isSeenMinute := fun _ h => (List.mem_cons_of_mem _ (List.mem_append_right _ h))
theorem zi_X0_nearer_0 : ∀ w ∈ u_ws RX0 TX0 15, w ∈ wsX0_nearer := fun _ h => (List.mem_cons_of_mem _ (List.mem_append_right _ h))
theorem zi_X0_next_0 : ∀ w ∈ u_ws RX0 TX0 15, w ∈ wsX0_next := fun _ h => (List.mem_cons_of_mem _ (List.mem_append_right _ h))
theorem zi_X0_partSaid_0 : ∀ w ∈ u_ws RX0 TX0 15, w ∈ wsX0_partSaid := fun _ h => (List.mem_cons_of_mem _ (List.mem_append_right _ h))
theorem zi_X0_pass_0 : ∀ w ∈ u_ws RX0 TX0 15, w ∈ wsX0_pass := fun _ h => (List.mem_cons_of_mem _ (List.mem_append_left _ (List.mem_append_right _ h)))
theorem zi_X0_pass_5 : ∀ w ∈ u_ws RX5 TX5 7, w ∈ wsX0_pass := fun _ h => (List.mem_cons_of_mem _ (List.mem_append_left _ (List.mem_append_left _ (List.mem_append_right _ h))))
theorem zi_X0_sizeTold_0 : ∀ w ∈ u_ws RX0 TX0 15, w ∈ wsX0_sizeTold := fun _ h => (List.mem_cons_of_mem _ (List.mem_append_left _ (List.mem_append_right _ h)))
theorem zi_X0_sizeTold_6 : ∀ w ∈ u_ws RX6 TX6 4, w ∈ wsX0_sizeTold := fun _ h => (List.mem_cons_of_mem _ (List.mem_append_right _ h))
theorem zi_X0_step_0 : ∀ w ∈ u_ws RX0 TX0 15, w ∈ wsX0_step := fun _ h => (List.mem_cons_of_mem _ (List.mem_append_left _ (List.mem_append_right _ h)))
theorem zi_X0_step_5 : ∀ w ∈ u_ws RX5 TX5 7, w ∈ wsX0_step := fun _ h => (List.mem_cons_of_mem _ (List.mem_append_left _ (List.mem_append_left _ (List.mem_append_right _ h))))
theorem zi_X0_stepsIn_0 : ∀ w ∈ u_ws RX0 TX0 15, w ∈ wsX0_stepsIn := fun _ h => (List.mem_cons_of_mem _ (List.mem_append_right _ h))
theorem zi_X1_addImage_1 : ∀ w ∈ u_ws RX1 TX1 5, w ∈ wsX1_addImage := fun _ h => (List.mem_cons_of_mem _ (List.mem_append_left _ (List.mem_append_right _ h)))
theorem zi_X1_clear_1 : ∀ w ∈ u_ws RX1 TX1 5, w ∈ wsX1_clear := fun _ h => (List.mem_cons_of_mem _ (List.mem_append_right _ h))
theorem zi_X1_goBack_1 : ∀ w ∈ u_ws RX1 TX1 5, w ∈ wsX1_goBack := fun _ h => (List.mem_cons_of_mem _ (List.mem_append_left _ (List.mem_append_right _ h)))
theorem zi_X1_keep_1 : ∀ w ∈ u_ws RX1 TX1 5, w ∈ wsX1_keep := fun _ h => (List.mem_cons_of_mem _ (List.mem_append_left _ (List.mem_append_right _ h)))
theorem zi_X1_takeLatest_1 : ∀ w ∈ u_ws RX1 TX1 5, w ∈ wsX1_takeLatest := fun _ h => (List.mem_cons_of_mem _ (List.mem_append_left _ (List.mem_append_right _ h)))
theorem zi_X2_addIfFit_0 : ∀ w ∈ u_ws RX0 TX0 15, w ∈ wsX2_addIfFit := fun _ h => (List.mem_cons_of_mem _ (List.mem_append_left _ (List.mem_append_right _ h)))
theorem zi_X2_addIfFit_2 : ∀ w ∈ u_ws RX2 TX2 7, w ∈ wsX2_addIfFit := fun _ h => (List.mem_cons_of_mem _ (List.mem_append_right _ h))
theorem zi_X2_chooseLook_0 : ∀ w ∈ u_ws RX0 TX0 15, w ∈ wsX2_chooseLook := fun _ h => (List.mem_cons_of_mem _ (List.mem_append_right _ h))
theorem zi_X2_chooseLook_2 : ∀ w ∈ u_ws RX2 TX2 7, w ∈ wsX2_chooseLook := fun _ h => (List.mem_cons_of_mem _ (List.mem_append_left _ (List.mem_append_right _ h)))
theorem zi_X2_forget_2 : ∀ w ∈ u_ws RX2 TX2 7, w ∈ wsX2_forget := fun _ h => (List.mem_cons_of_mem _ (List.mem_append_right _ h))
theorem zi_X2_list_0 : ∀ w ∈ u_ws RX0 TX0 15, w ∈ wsX2_list := fun _ h => (List.mem_cons_of_mem _ (List.mem_append_right _ h))
theorem zi_X2_list_2 : ∀ w ∈ u_ws RX2 TX2 7, w ∈ wsX2_list := fun _ h => (List.mem_cons_of_mem _ (List.mem_append_left _ (List.mem_append_right _ h)))
theorem zi_X2_mostOf_2 : ∀ w ∈ u_ws RX2 TX2 7, w ∈ wsX2_mostOf := fun _ h => (List.mem_cons_of_mem _ (List.mem_append_right _ h))
theorem zi_X2_tally_2 : ∀ w ∈ u_ws RX2 TX2 7, w ∈ wsX2_tally := fun _ h => (List.mem_cons_of_mem _ (List.mem_append_right _ h))
theorem zi_X3_advance_3 : ∀ w ∈ u_ws RX3 TX3 14, w ∈ wsX3_advance := fun _ h => (List.mem_cons_of_mem _ (List.mem_append_right _ h))
theorem zi_X3_append_3 : ∀ w ∈ u_ws RX3 TX3 14, w ∈ wsX3_append := fun _ h => (List.mem_cons_of_mem _ (List.mem_append_right _ h))
theorem zi_X3_exchange_3 : ∀ w ∈ u_ws RX3 TX3 14, w ∈ wsX3_exchange := fun _ h => (List.mem_cons_of_mem _ (List.mem_append_right _ h))
theorem zi_X3_fails_3 : ∀ w ∈ u_ws RX3 TX3 14, w ∈ wsX3_fails := fun _ h => (List.mem_cons_of_mem _ (List.mem_append_right _ h))
theorem zi_X3_isWholeWithin_3 : ∀ w ∈ u_ws RX3 TX3 14, w ∈ wsX3_isWholeWithin := fun _ h => (List.mem_cons_of_mem _ (List.mem_append_right _ h))
theorem zi_X3_isWord_3 : ∀ w ∈ u_ws RX3 TX3 14, w ∈ wsX3_isWord := fun _ h => (List.mem_cons_of_mem _ (List.mem_append_right _ h))
theorem zi_X3_readFigure_0 : ∀ w ∈ u_ws RX0 TX0 15, w ∈ wsX3_readFigure := fun _ h => (List.mem_cons_of_mem _ (List.mem_append_right _ h))
theorem zi_X3_readFigure_3 : ∀ w ∈ u_ws RX3 TX3 14, w ∈ wsX3_readFigure := fun _ h => (List.mem_cons_of_mem _ (List.mem_append_left _ (List.mem_append_right _ h)))
theorem zi_X3_readHall_0 : ∀ w ∈ u_ws RX0 TX0 15, w ∈ wsX3_readHall := fun _ h => (List.mem_cons_of_mem _ (List.mem_append_right _ h))
theorem zi_X3_readHall_3 : ∀ w ∈ u_ws RX3 TX3 14, w ∈ wsX3_readHall := fun _ h => (List.mem_cons_of_mem _ (List.mem_append_left _ (List.mem_append_right _ h)))
theorem zi_X3_readLaw_0 : ∀ w ∈ u_ws RX0 TX0 15, w ∈ wsX3_readLaw := fun _ h => (List.mem_cons_of_mem _ (List.mem_append_right _ h))
theorem zi_X3_readLaw_3 : ∀ w ∈ u_ws RX3 TX3 14, w ∈ wsX3_readLaw := fun _ h => (List.mem_cons_of_mem _ (List.mem_append_left _ (List.mem_append_right _ h)))
theorem zi_X3_readLine_0 : ∀ w ∈ u_ws RX0 TX0 15, w ∈ wsX3_readLine := fun _ h => (List.mem_cons_of_mem _ (List.mem_append_left _ (List.mem_append_right _ h)))
theorem zi_X3_readLine_3 : ∀ w ∈ u_ws RX3 TX3 14, w ∈ wsX3_readLine := fun _ h => (List.mem_cons_of_mem _ (List.mem_append_left _ (List.mem_append_left _ (List.mem_append_right _ h))))
theorem zi_X3_readLine_6 : ∀ w ∈ u_ws RX6 TX6 4, w ∈ wsX3_readLine := fun _ h => (List.mem_cons_of_mem _ (List.mem_append_right _ h))
theorem zi_X3_readSeen_0 : ∀ w ∈ u_ws RX0 TX0 15, w ∈ wsX3_readSeen := fun _ h => (List.mem_cons_of_mem _ (List.mem_append_right _ h))
theorem zi_X3_readSeen_3 : ∀ w ∈ u_ws RX3 TX3 14, w ∈ wsX3_readSeen := fun _ h => (List.mem_cons_of_mem _ (List.mem_append_left _ (List.mem_append_right _ h)))
theorem zi_X3_readWatcher_0 : ∀ w ∈ u_ws RX0 TX0 15, w ∈ wsX3_readWatcher := fun _ h => (List.mem_cons_of_mem _ (List.mem_append_left _ (List.mem_append_right _ h)))
theorem zi_X3_readWatcher_3 : ∀ w ∈ u_ws RX3 TX3 14, w ∈ wsX3_readWatcher := fun _ h => (List.mem_cons_of_mem _ (List.mem_append_left _ (List.mem_append_left _ (List.mem_append_right _ h))))
theorem zi_X3_read_0 : ∀ w ∈ u_ws RX0 TX0 15, w ∈ wsX3_read := fun _ h => (List.mem_cons_of_mem _ (List.mem_append_left _ (List.mem_append_right _ h)))
theorem zi_X3_read_3 : ∀ w ∈ u_ws RX3 TX3 14, w ∈ wsX3_read := fun _ h => (List.mem_cons_of_mem _ (List.mem_append_left _ (List.mem_append_left _ (List.mem_append_right _ h))))
theorem zi_X3_scanWhole_3 : ∀ w ∈ u_ws RX3 TX3 14, w ∈ wsX3_scanWhole := fun _ h => (List.mem_cons_of_mem _ (List.mem_append_right _ h))
theorem zi_X3_scanWord_3 : ∀ w ∈ u_ws RX3 TX3 14, w ∈ wsX3_scanWord := fun _ h => (List.mem_cons_of_mem _ (List.mem_append_right _ h))
theorem zi_X3_takeName_3 : ∀ w ∈ u_ws RX3 TX3 14, w ∈ wsX3_takeName := fun _ h => (List.mem_cons_of_mem _ (List.mem_append_right _ h))
theorem zi_X3_takeWhole_3 : ∀ w ∈ u_ws RX3 TX3 14, w ∈ wsX3_takeWhole := fun _ h => (List.mem_cons_of_mem _ (List.mem_append_right _ h))
theorem zi_X4_aim_4 : ∀ w ∈ u_ws RX4 TX4 3, w ∈ wsX4_aim := fun _ h => (List.mem_cons_of_mem _ (List.mem_append_right _ h))
theorem zi_X4_minutesWith_4 : ∀ w ∈ u_ws RX4 TX4 3, w ∈ wsX4_minutesWith := fun _ h => (List.mem_cons_of_mem _ (List.mem_append_right _ h))
theorem zi_X4_step_4 : ∀ w ∈ u_ws RX4 TX4 3, w ∈ wsX4_step := fun _ h => (List.mem_cons_of_mem _ (List.mem_append_right _ h))
theorem zi_X4_weigh_4 : ∀ w ∈ u_ws RX4 TX4 3, w ∈ wsX4_weigh := fun _ h => (List.mem_cons_of_mem _ (List.mem_append_right _ h))
theorem zi_X4_worth_4 : ∀ w ∈ u_ws RX4 TX4 3, w ∈ wsX4_worth := fun _ h => (List.mem_cons_of_mem _ (List.mem_append_right _ h))
theorem zi_X5_begin_5 : ∀ w ∈ u_ws RX5 TX5 7, w ∈ wsX5_begin := fun _ h => (List.mem_cons_of_mem _ (List.mem_append_right _ h))
theorem zi_X5_copyFrom_5 : ∀ w ∈ u_ws RX5 TX5 7, w ∈ wsX5_copyFrom := fun _ h => (List.mem_cons_of_mem _ (List.mem_append_right _ h))
theorem zi_X5_isGone_5 : ∀ w ∈ u_ws RX5 TX5 7, w ∈ wsX5_isGone := fun _ h => (List.mem_cons_of_mem _ (List.mem_append_right _ h))
theorem zi_X5_startTurn_5 : ∀ w ∈ u_ws RX5 TX5 7, w ∈ wsX5_startTurn := fun _ h => (List.mem_cons_of_mem _ (List.mem_append_right _ h))
theorem zi_X6_add_6 : ∀ w ∈ u_ws RX6 TX6 4, w ∈ wsX6_add := fun _ h => (List.mem_cons_of_mem _ (List.mem_append_right _ h))
theorem zi_X6_copyFrom_6 : ∀ w ∈ u_ws RX6 TX6 4, w ∈ wsX6_copyFrom := fun _ h => (List.mem_cons_of_mem _ (List.mem_append_right _ h))
theorem zi_X6_placeOf_6 : ∀ w ∈ u_ws RX6 TX6 4, w ∈ wsX6_placeOf := fun _ h => (List.mem_cons_of_mem _ (List.mem_append_right _ h))
theorem zi_X6_placesIn_6 : ∀ w ∈ u_ws RX6 TX6 4, w ∈ wsX6_placesIn := fun _ h => (List.mem_cons_of_mem _ (List.mem_append_right _ h))
theorem zi_X7_aliveBy_2 : ∀ w ∈ u_ws RX2 TX2 7, w ∈ wsX7_aliveBy := fun _ h => (List.mem_cons_of_mem _ (List.mem_append_left _ (List.mem_append_right _ h)))
theorem zi_X7_aliveBy_7 : ∀ w ∈ u_ws RX7 TX7 11, w ∈ wsX7_aliveBy := fun _ h => (List.mem_cons_of_mem _ (List.mem_append_left _ (List.mem_append_left _ (List.mem_append_right _ h))))
theorem zi_X7_alive_5 : ∀ w ∈ u_ws RX5 TX5 7, w ∈ wsX7_alive := fun _ h => (List.mem_cons_of_mem _ (List.mem_append_left _ (List.mem_append_right _ h)))
theorem zi_X7_alive_7 : ∀ w ∈ u_ws RX7 TX7 11, w ∈ wsX7_alive := fun _ h => (List.mem_cons_of_mem _ (List.mem_append_left _ (List.mem_append_left _ (List.mem_append_right _ h))))
theorem zi_X7_allIn_0 : ∀ w ∈ u_ws RX0 TX0 15, w ∈ wsX7_allIn := fun _ h => (List.mem_cons_of_mem _ (List.mem_append_left _ (List.mem_append_left _ (List.mem_append_right _ h))))
theorem zi_X7_allIn_5 : ∀ w ∈ u_ws RX5 TX5 7, w ∈ wsX7_allIn := fun _ h => (List.mem_cons_of_mem _ (List.mem_append_left _ (List.mem_append_right _ h)))
theorem zi_X7_allIn_7 : ∀ w ∈ u_ws RX7 TX7 11, w ∈ wsX7_allIn := fun _ h => (List.mem_cons_of_mem _ (List.mem_append_left _ (List.mem_append_left _ (List.mem_append_left _ (List.mem_append_right _ h)))))
theorem zi_X7_answered_7 : ∀ w ∈ u_ws RX7 TX7 11, w ∈ wsX7_answered := fun _ h => (List.mem_cons_of_mem _ (List.mem_append_right _ h))
theorem zi_X7_back_7 : ∀ w ∈ u_ws RX7 TX7 11, w ∈ wsX7_back := fun _ h => (List.mem_cons_of_mem _ (List.mem_append_left _ (List.mem_append_left _ (List.mem_append_right _ h))))
theorem zi_X7_called_0 : ∀ w ∈ u_ws RX0 TX0 15, w ∈ wsX7_called := fun _ h => (List.mem_cons_of_mem _ (List.mem_append_right _ h))
theorem zi_X7_called_5 : ∀ w ∈ u_ws RX5 TX5 7, w ∈ wsX7_called := fun _ h => (List.mem_cons_of_mem _ (List.mem_append_left _ (List.mem_append_right _ h)))
theorem zi_X7_called_7 : ∀ w ∈ u_ws RX7 TX7 11, w ∈ wsX7_called := fun _ h => (List.mem_cons_of_mem _ (List.mem_append_left _ (List.mem_append_left _ (List.mem_append_right _ h))))
theorem zi_X7_catches_5 : ∀ w ∈ u_ws RX5 TX5 7, w ∈ wsX7_catches := fun _ h => (List.mem_cons_of_mem _ (List.mem_append_left _ (List.mem_append_left _ (List.mem_append_right _ h))))
theorem zi_X7_catches_7 : ∀ w ∈ u_ws RX7 TX7 11, w ∈ wsX7_catches := fun _ h => (List.mem_cons_of_mem _ (List.mem_append_left _ (List.mem_append_left _ (List.mem_append_left _ (List.mem_append_right _ h)))))
theorem zi_X7_caught_5 : ∀ w ∈ u_ws RX5 TX5 7, w ∈ wsX7_caught := fun _ h => (List.mem_cons_of_mem _ (List.mem_append_left _ (List.mem_append_right _ h)))
theorem zi_X7_caught_7 : ∀ w ∈ u_ws RX7 TX7 11, w ∈ wsX7_caught := fun _ h => (List.mem_cons_of_mem _ (List.mem_append_left _ (List.mem_append_left _ (List.mem_append_right _ h))))
theorem zi_X7_could_2 : ∀ w ∈ u_ws RX2 TX2 7, w ∈ wsX7_could := fun _ h => (List.mem_cons_of_mem _ (List.mem_append_left _ (List.mem_append_right _ h)))
theorem zi_X7_could_7 : ∀ w ∈ u_ws RX7 TX7 11, w ∈ wsX7_could := fun _ h => (List.mem_cons_of_mem _ (List.mem_append_left _ (List.mem_append_left _ (List.mem_append_right _ h))))
theorem zi_X7_crowdAt_0 : ∀ w ∈ u_ws RX0 TX0 15, w ∈ wsX7_crowdAt := fun _ h => (List.mem_cons_of_mem _ (List.mem_append_left _ (List.mem_append_right _ h)))
theorem zi_X7_crowdAt_5 : ∀ w ∈ u_ws RX5 TX5 7, w ∈ wsX7_crowdAt := fun _ h => (List.mem_cons_of_mem _ (List.mem_append_right _ h))
theorem zi_X7_crowdAt_7 : ∀ w ∈ u_ws RX7 TX7 11, w ∈ wsX7_crowdAt := fun _ h => (List.mem_cons_of_mem _ (List.mem_append_left _ (List.mem_append_left _ (List.mem_append_right _ h))))
theorem zi_X7_crowd_0 : ∀ w ∈ u_ws RX0 TX0 15, w ∈ wsX7_crowd := fun _ h => (List.mem_cons_of_mem _ (List.mem_append_left _ (List.mem_append_left _ (List.mem_append_right _ h))))
theorem zi_X7_crowd_7 : ∀ w ∈ u_ws RX7 TX7 11, w ∈ wsX7_crowd := fun _ h => (List.mem_cons_of_mem _ (List.mem_append_left _ (List.mem_append_left _ (List.mem_append_left _ (List.mem_append_right _ h)))))
theorem zi_X7_dares_7 : ∀ w ∈ u_ws RX7 TX7 11, w ∈ wsX7_dares := fun _ h => (List.mem_cons_of_mem _ (List.mem_append_left _ (List.mem_append_right _ h)))
theorem zi_X7_drawn_5 : ∀ w ∈ u_ws RX5 TX5 7, w ∈ wsX7_drawn := fun _ h => (List.mem_cons_of_mem _ (List.mem_append_left _ (List.mem_append_right _ h)))
theorem zi_X7_drawn_7 : ∀ w ∈ u_ws RX7 TX7 11, w ∈ wsX7_drawn := fun _ h => (List.mem_cons_of_mem _ (List.mem_append_left _ (List.mem_append_left _ (List.mem_append_right _ h))))
theorem zi_X7_farthest_0 : ∀ w ∈ u_ws RX0 TX0 15, w ∈ wsX7_farthest := fun _ h => (List.mem_cons_of_mem _ (List.mem_append_left _ (List.mem_append_left _ (List.mem_append_right _ h))))
theorem zi_X7_farthest_5 : ∀ w ∈ u_ws RX5 TX5 7, w ∈ wsX7_farthest := fun _ h => (List.mem_cons_of_mem _ (List.mem_append_left _ (List.mem_append_right _ h)))
theorem zi_X7_farthest_7 : ∀ w ∈ u_ws RX7 TX7 11, w ∈ wsX7_farthest := fun _ h => (List.mem_cons_of_mem _ (List.mem_append_left _ (List.mem_append_left _ (List.mem_append_left _ (List.mem_append_right _ h)))))
theorem zi_X7_fault_7 : ∀ w ∈ u_ws RX7 TX7 11, w ∈ wsX7_fault := fun _ h => (List.mem_cons_of_mem _ (List.mem_append_right _ h))
theorem zi_X7_feed_3 : ∀ w ∈ u_ws RX3 TX3 14, w ∈ wsX7_feed := fun _ h => (List.mem_cons_of_mem _ (List.mem_append_right _ h))
theorem zi_X7_feed_7 : ∀ w ∈ u_ws RX7 TX7 11, w ∈ wsX7_feed := fun _ h => (List.mem_cons_of_mem _ (List.mem_append_left _ (List.mem_append_right _ h)))
theorem zi_X7_figure_0 : ∀ w ∈ u_ws RX0 TX0 15, w ∈ wsX7_figure := fun _ h => (List.mem_cons_of_mem _ (List.mem_append_left _ (List.mem_append_right _ h)))
theorem zi_X7_figure_5 : ∀ w ∈ u_ws RX5 TX5 7, w ∈ wsX7_figure := fun _ h => (List.mem_cons_of_mem _ (List.mem_append_right _ h))
theorem zi_X7_figure_7 : ∀ w ∈ u_ws RX7 TX7 11, w ∈ wsX7_figure := fun _ h => (List.mem_cons_of_mem _ (List.mem_append_left _ (List.mem_append_left _ (List.mem_append_right _ h))))
theorem zi_X7_fitAt_2 : ∀ w ∈ u_ws RX2 TX2 7, w ∈ wsX7_fitAt := fun _ h => (List.mem_cons_of_mem _ (List.mem_append_left _ (List.mem_append_right _ h)))
theorem zi_X7_fitAt_7 : ∀ w ∈ u_ws RX7 TX7 11, w ∈ wsX7_fitAt := fun _ h => (List.mem_cons_of_mem _ (List.mem_append_left _ (List.mem_append_left _ (List.mem_append_right _ h))))
theorem zi_X7_fits_2 : ∀ w ∈ u_ws RX2 TX2 7, w ∈ wsX7_fits := fun _ h => (List.mem_cons_of_mem _ (List.mem_append_left _ (List.mem_append_right _ h)))
theorem zi_X7_fits_7 : ∀ w ∈ u_ws RX7 TX7 11, w ∈ wsX7_fits := fun _ h => (List.mem_cons_of_mem _ (List.mem_append_left _ (List.mem_append_left _ (List.mem_append_right _ h))))
theorem zi_X7_gallery_0 : ∀ w ∈ u_ws RX0 TX0 15, w ∈ wsX7_gallery := fun _ h => (List.mem_cons_of_mem _ (List.mem_append_left _ (List.mem_append_left _ (List.mem_append_left _ (List.mem_append_left _ (List.mem_append_right _ h))))))
theorem zi_X7_gallery_3 : ∀ w ∈ u_ws RX3 TX3 14, w ∈ wsX7_gallery := fun _ h => (List.mem_cons_of_mem _ (List.mem_append_left _ (List.mem_append_left _ (List.mem_append_left _ (List.mem_append_left _ (List.mem_append_left _ (List.mem_append_right _ h)))))))
theorem zi_X7_gallery_7 : ∀ w ∈ u_ws RX7 TX7 11, w ∈ wsX7_gallery := fun _ h => (List.mem_cons_of_mem _ (List.mem_append_left _ (List.mem_append_left _ (List.mem_append_left _ (List.mem_append_left _ (List.mem_append_left _ (List.mem_append_left _ (List.mem_append_right _ h))))))))
theorem zi_X7_go_0 : ∀ w ∈ u_ws RX0 TX0 15, w ∈ wsX7_go := fun _ h => (List.mem_cons_of_mem _ (List.mem_append_left _ (List.mem_append_left _ (List.mem_append_right _ h))))
theorem zi_X7_go_5 : ∀ w ∈ u_ws RX5 TX5 7, w ∈ wsX7_go := fun _ h => (List.mem_cons_of_mem _ (List.mem_append_left _ (List.mem_append_left _ (List.mem_append_left _ (List.mem_append_right _ h)))))
theorem zi_X7_go_7 : ∀ w ∈ u_ws RX7 TX7 11, w ∈ wsX7_go := fun _ h => (List.mem_cons_of_mem _ (List.mem_append_left _ (List.mem_append_left _ (List.mem_append_left _ (List.mem_append_left _ (List.mem_append_right _ h))))))
theorem zi_X7_gone_5 : ∀ w ∈ u_ws RX5 TX5 7, w ∈ wsX7_gone := fun _ h => (List.mem_cons_of_mem _ (List.mem_append_left _ (List.mem_append_left _ (List.mem_append_right _ h))))
theorem zi_X7_gone_7 : ∀ w ∈ u_ws RX7 TX7 11, w ∈ wsX7_gone := fun _ h => (List.mem_cons_of_mem _ (List.mem_append_left _ (List.mem_append_left _ (List.mem_append_left _ (List.mem_append_right _ h)))))
theorem zi_X7_guard_0 : ∀ w ∈ u_ws RX0 TX0 15, w ∈ wsX7_guard := fun _ h => (List.mem_cons_of_mem _ (List.mem_append_left _ (List.mem_append_left _ (List.mem_append_right _ h))))
theorem zi_X7_guard_7 : ∀ w ∈ u_ws RX7 TX7 11, w ∈ wsX7_guard := fun _ h => (List.mem_cons_of_mem _ (List.mem_append_left _ (List.mem_append_left _ (List.mem_append_left _ (List.mem_append_right _ h)))))
theorem zi_X7_hasGallery_0 : ∀ w ∈ u_ws RX0 TX0 15, w ∈ wsX7_hasGallery := fun _ h => (List.mem_cons_of_mem _ (List.mem_append_right _ h))
theorem zi_X7_hasGallery_7 : ∀ w ∈ u_ws RX7 TX7 11, w ∈ wsX7_hasGallery := fun _ h => (List.mem_cons_of_mem _ (List.mem_append_left _ (List.mem_append_right _ h)))
theorem zi_X7_heard_5 : ∀ w ∈ u_ws RX5 TX5 7, w ∈ wsX7_heard := fun _ h => (List.mem_cons_of_mem _ (List.mem_append_left _ (List.mem_append_left _ (List.mem_append_right _ h))))
theorem zi_X7_heard_7 : ∀ w ∈ u_ws RX7 TX7 11, w ∈ wsX7_heard := fun _ h => (List.mem_cons_of_mem _ (List.mem_append_left _ (List.mem_append_left _ (List.mem_append_left _ (List.mem_append_right _ h)))))
theorem zi_X7_image_1 : ∀ w ∈ u_ws RX1 TX1 5, w ∈ wsX7_image := fun _ h => (List.mem_cons_of_mem _ (List.mem_append_left _ (List.mem_append_left _ (List.mem_append_right _ h))))
theorem zi_X7_image_7 : ∀ w ∈ u_ws RX7 TX7 11, w ∈ wsX7_image := fun _ h => (List.mem_cons_of_mem _ (List.mem_append_left _ (List.mem_append_left _ (List.mem_append_left _ (List.mem_append_right _ h)))))
theorem zi_X7_isFigure_0 : ∀ w ∈ u_ws RX0 TX0 15, w ∈ wsX7_isFigure := fun _ h => (List.mem_cons_of_mem _ (List.mem_append_right _ h))
theorem zi_X7_isFigure_7 : ∀ w ∈ u_ws RX7 TX7 11, w ∈ wsX7_isFigure := fun _ h => (List.mem_cons_of_mem _ (List.mem_append_left _ (List.mem_append_right _ h)))
theorem zi_X7_isPlace_0 : ∀ w ∈ u_ws RX0 TX0 15, w ∈ wsX7_isPlace := fun _ h => (List.mem_cons_of_mem _ (List.mem_append_right _ h))
theorem zi_X7_isPlace_7 : ∀ w ∈ u_ws RX7 TX7 11, w ∈ wsX7_isPlace := fun _ h => (List.mem_cons_of_mem _ (List.mem_append_left _ (List.mem_append_right _ h)))
theorem zi_X7_isShut_0 : ∀ w ∈ u_ws RX0 TX0 15, w ∈ wsX7_isShut := fun _ h => (List.mem_cons_of_mem _ (List.mem_append_right _ h))
theorem zi_X7_isShut_7 : ∀ w ∈ u_ws RX7 TX7 11, w ∈ wsX7_isShut := fun _ h => (List.mem_cons_of_mem _ (List.mem_append_left _ (List.mem_append_right _ h)))
theorem zi_X7_isWatcher_0 : ∀ w ∈ u_ws RX0 TX0 15, w ∈ wsX7_isWatcher := fun _ h => (List.mem_cons_of_mem _ (List.mem_append_left _ (List.mem_append_right _ h)))
theorem zi_X7_isWatcher_6 : ∀ w ∈ u_ws RX6 TX6 4, w ∈ wsX7_isWatcher := fun _ h => (List.mem_cons_of_mem _ (List.mem_append_right _ h))
theorem zi_X7_isWatcher_7 : ∀ w ∈ u_ws RX7 TX7 11, w ∈ wsX7_isWatcher := fun _ h => (List.mem_cons_of_mem _ (List.mem_append_left _ (List.mem_append_left _ (List.mem_append_right _ h))))
theorem zi_X7_judge_0 : ∀ w ∈ u_ws RX0 TX0 15, w ∈ wsX7_judge := fun _ h => (List.mem_cons_of_mem _ (List.mem_append_right _ h))
theorem zi_X7_judge_7 : ∀ w ∈ u_ws RX7 TX7 11, w ∈ wsX7_judge := fun _ h => (List.mem_cons_of_mem _ (List.mem_append_left _ (List.mem_append_right _ h)))
theorem zi_X7_lawsLike_0 : ∀ w ∈ u_ws RX0 TX0 15, w ∈ wsX7_lawsLike := fun _ h => (List.mem_cons_of_mem _ (List.mem_append_right _ h))
theorem zi_X7_lawsLike_7 : ∀ w ∈ u_ws RX7 TX7 11, w ∈ wsX7_lawsLike := fun _ h => (List.mem_cons_of_mem _ (List.mem_append_left _ (List.mem_append_right _ h)))
theorem zi_X7_left_0 : ∀ w ∈ u_ws RX0 TX0 15, w ∈ wsX7_left := fun _ h => (List.mem_cons_of_mem _ (List.mem_append_left _ (List.mem_append_right _ h)))
theorem zi_X7_left_5 : ∀ w ∈ u_ws RX5 TX5 7, w ∈ wsX7_left := fun _ h => (List.mem_cons_of_mem _ (List.mem_append_right _ h))
theorem zi_X7_left_7 : ∀ w ∈ u_ws RX7 TX7 11, w ∈ wsX7_left := fun _ h => (List.mem_cons_of_mem _ (List.mem_append_left _ (List.mem_append_left _ (List.mem_append_right _ h))))
theorem zi_X7_lookLeaves_2 : ∀ w ∈ u_ws RX2 TX2 7, w ∈ wsX7_lookLeaves := fun _ h => (List.mem_cons_of_mem _ (List.mem_append_left _ (List.mem_append_right _ h)))
theorem zi_X7_lookLeaves_7 : ∀ w ∈ u_ws RX7 TX7 11, w ∈ wsX7_lookLeaves := fun _ h => (List.mem_cons_of_mem _ (List.mem_append_left _ (List.mem_append_left _ (List.mem_append_right _ h))))
theorem zi_X7_look_2 : ∀ w ∈ u_ws RX2 TX2 7, w ∈ wsX7_look := fun _ h => (List.mem_cons_of_mem _ (List.mem_append_left _ (List.mem_append_right _ h)))
theorem zi_X7_look_7 : ∀ w ∈ u_ws RX7 TX7 11, w ∈ wsX7_look := fun _ h => (List.mem_cons_of_mem _ (List.mem_append_left _ (List.mem_append_left _ (List.mem_append_right _ h))))
theorem zi_X7_mean_0 : ∀ w ∈ u_ws RX0 TX0 15, w ∈ wsX7_mean := fun _ h => (List.mem_cons_of_mem _ (List.mem_append_left _ (List.mem_append_right _ h)))
theorem zi_X7_mean_7 : ∀ w ∈ u_ws RX7 TX7 11, w ∈ wsX7_mean := fun _ h => (List.mem_cons_of_mem _ (List.mem_append_left _ (List.mem_append_left _ (List.mem_append_right _ h))))
theorem zi_X7_meets_0 : ∀ w ∈ u_ws RX0 TX0 15, w ∈ wsX7_meets := fun _ h => (List.mem_cons_of_mem _ (List.mem_append_left _ (List.mem_append_left _ (List.mem_append_right _ h))))
theorem zi_X7_meets_5 : ∀ w ∈ u_ws RX5 TX5 7, w ∈ wsX7_meets := fun _ h => (List.mem_cons_of_mem _ (List.mem_append_left _ (List.mem_append_right _ h)))
theorem zi_X7_meets_7 : ∀ w ∈ u_ws RX7 TX7 11, w ∈ wsX7_meets := fun _ h => (List.mem_cons_of_mem _ (List.mem_append_left _ (List.mem_append_left _ (List.mem_append_left _ (List.mem_append_right _ h)))))
theorem zi_X7_minutesOf_0 : ∀ w ∈ u_ws RX0 TX0 15, w ∈ wsX7_minutesOf := fun _ h => (List.mem_cons_of_mem _ (List.mem_append_right _ h))
theorem zi_X7_minutesOf_5 : ∀ w ∈ u_ws RX5 TX5 7, w ∈ wsX7_minutesOf := fun _ h => (List.mem_cons_of_mem _ (List.mem_append_left _ (List.mem_append_right _ h)))
theorem zi_X7_minutesOf_7 : ∀ w ∈ u_ws RX7 TX7 11, w ∈ wsX7_minutesOf := fun _ h => (List.mem_cons_of_mem _ (List.mem_append_left _ (List.mem_append_left _ (List.mem_append_right _ h))))
theorem zi_X7_minutesTillGone_5 : ∀ w ∈ u_ws RX5 TX5 7, w ∈ wsX7_minutesTillGone := fun _ h => (List.mem_cons_of_mem _ (List.mem_append_left _ (List.mem_append_left _ (List.mem_append_right _ h))))
theorem zi_X7_minutesTillGone_7 : ∀ w ∈ u_ws RX7 TX7 11, w ∈ wsX7_minutesTillGone := fun _ h => (List.mem_cons_of_mem _ (List.mem_append_left _ (List.mem_append_left _ (List.mem_append_left _ (List.mem_append_right _ h)))))
theorem zi_X7_nearBy_0 : ∀ w ∈ u_ws RX0 TX0 15, w ∈ wsX7_nearBy := fun _ h => (List.mem_cons_of_mem _ (List.mem_append_left _ (List.mem_append_left _ (List.mem_append_right _ h))))
theorem zi_X7_nearBy_5 : ∀ w ∈ u_ws RX5 TX5 7, w ∈ wsX7_nearBy := fun _ h => (List.mem_cons_of_mem _ (List.mem_append_left _ (List.mem_append_right _ h)))
theorem zi_X7_nearBy_7 : ∀ w ∈ u_ws RX7 TX7 11, w ∈ wsX7_nearBy := fun _ h => (List.mem_cons_of_mem _ (List.mem_append_left _ (List.mem_append_left _ (List.mem_append_left _ (List.mem_append_right _ h)))))
theorem zi_X7_odds_0 : ∀ w ∈ u_ws RX0 TX0 15, w ∈ wsX7_odds := fun _ h => (List.mem_cons_of_mem _ (List.mem_append_left _ (List.mem_append_right _ h)))
theorem zi_X7_odds_7 : ∀ w ∈ u_ws RX7 TX7 11, w ∈ wsX7_odds := fun _ h => (List.mem_cons_of_mem _ (List.mem_append_left _ (List.mem_append_left _ (List.mem_append_right _ h))))
theorem zi_X7_ownTurns_5 : ∀ w ∈ u_ws RX5 TX5 7, w ∈ wsX7_ownTurns := fun _ h => (List.mem_cons_of_mem _ (List.mem_append_left _ (List.mem_append_right _ h)))
theorem zi_X7_ownTurns_7 : ∀ w ∈ u_ws RX7 TX7 11, w ∈ wsX7_ownTurns := fun _ h => (List.mem_cons_of_mem _ (List.mem_append_left _ (List.mem_append_left _ (List.mem_append_right _ h))))
theorem zi_X7_passAhead_0 : ∀ w ∈ u_ws RX0 TX0 15, w ∈ wsX7_passAhead := fun _ h => (List.mem_cons_of_mem _ (List.mem_append_left _ (List.mem_append_left _ (List.mem_append_right _ h))))
theorem zi_X7_passAhead_7 : ∀ w ∈ u_ws RX7 TX7 11, w ∈ wsX7_passAhead := fun _ h => (List.mem_cons_of_mem _ (List.mem_append_left _ (List.mem_append_left _ (List.mem_append_left _ (List.mem_append_right _ h)))))
theorem zi_X7_patrol_0 : ∀ w ∈ u_ws RX0 TX0 15, w ∈ wsX7_patrol := fun _ h => (List.mem_cons_of_mem _ (List.mem_append_left _ (List.mem_append_left _ (List.mem_append_right _ h))))
theorem zi_X7_patrol_5 : ∀ w ∈ u_ws RX5 TX5 7, w ∈ wsX7_patrol := fun _ h => (List.mem_cons_of_mem _ (List.mem_append_right _ h))
theorem zi_X7_patrol_6 : ∀ w ∈ u_ws RX6 TX6 4, w ∈ wsX7_patrol := fun _ h => (List.mem_cons_of_mem _ (List.mem_append_left _ (List.mem_append_right _ h)))
theorem zi_X7_patrol_7 : ∀ w ∈ u_ws RX7 TX7 11, w ∈ wsX7_patrol := fun _ h => (List.mem_cons_of_mem _ (List.mem_append_left _ (List.mem_append_left _ (List.mem_append_left _ (List.mem_append_right _ h)))))
theorem zi_X7_placeOfActing_0 : ∀ w ∈ u_ws RX0 TX0 15, w ∈ wsX7_placeOfActing := fun _ h => (List.mem_cons_of_mem _ (List.mem_append_left _ (List.mem_append_right _ h)))
theorem zi_X7_placeOfActing_5 : ∀ w ∈ u_ws RX5 TX5 7, w ∈ wsX7_placeOfActing := fun _ h => (List.mem_cons_of_mem _ (List.mem_append_left _ (List.mem_append_left _ (List.mem_append_right _ h))))
theorem zi_X7_placeOfActing_7 : ∀ w ∈ u_ws RX7 TX7 11, w ∈ wsX7_placeOfActing := fun _ h => (List.mem_cons_of_mem _ (List.mem_append_left _ (List.mem_append_left _ (List.mem_append_left _ (List.mem_append_right _ h)))))
theorem zi_X7_place_5 : ∀ w ∈ u_ws RX5 TX5 7, w ∈ wsX7_place := fun _ h => (List.mem_cons_of_mem _ (List.mem_append_left _ (List.mem_append_left _ (List.mem_append_right _ h))))
theorem zi_X7_place_7 : ∀ w ∈ u_ws RX7 TX7 11, w ∈ wsX7_place := fun _ h => (List.mem_cons_of_mem _ (List.mem_append_left _ (List.mem_append_left _ (List.mem_append_left _ (List.mem_append_right _ h)))))
theorem zi_X7_planRoutes_0 : ∀ w ∈ u_ws RX0 TX0 15, w ∈ wsX7_planRoutes := fun _ h => (List.mem_cons_of_mem _ (List.mem_append_left _ (List.mem_append_left _ (List.mem_append_left _ (List.mem_append_right _ h)))))
theorem zi_X7_planRoutes_7 : ∀ w ∈ u_ws RX7 TX7 11, w ∈ wsX7_planRoutes := fun _ h => (List.mem_cons_of_mem _ (List.mem_append_left _ (List.mem_append_left _ (List.mem_append_left _ (List.mem_append_left _ (List.mem_append_right _ h))))))
theorem zi_X7_postsHold_6 : ∀ w ∈ u_ws RX6 TX6 4, w ∈ wsX7_postsHold := fun _ h => (List.mem_cons_of_mem _ (List.mem_append_left _ (List.mem_append_left _ (List.mem_append_right _ h))))
theorem zi_X7_postsHold_7 : ∀ w ∈ u_ws RX7 TX7 11, w ∈ wsX7_postsHold := fun _ h => (List.mem_cons_of_mem _ (List.mem_append_left _ (List.mem_append_left _ (List.mem_append_left _ (List.mem_append_right _ h)))))
theorem zi_X7_put_5 : ∀ w ∈ u_ws RX5 TX5 7, w ∈ wsX7_put := fun _ h => (List.mem_cons_of_mem _ (List.mem_append_left _ (List.mem_append_left _ (List.mem_append_right _ h))))
theorem zi_X7_put_7 : ∀ w ∈ u_ws RX7 TX7 11, w ∈ wsX7_put := fun _ h => (List.mem_cons_of_mem _ (List.mem_append_left _ (List.mem_append_left _ (List.mem_append_left _ (List.mem_append_right _ h)))))
theorem zi_X7_refused_7 : ∀ w ∈ u_ws RX7 TX7 11, w ∈ wsX7_refused := fun _ h => (List.mem_cons_of_mem _ (List.mem_append_right _ h))
theorem zi_X7_roundLength_0 : ∀ w ∈ u_ws RX0 TX0 15, w ∈ wsX7_roundLength := fun _ h => (List.mem_cons_of_mem _ (List.mem_append_left _ (List.mem_append_right _ h)))
theorem zi_X7_roundLength_7 : ∀ w ∈ u_ws RX7 TX7 11, w ∈ wsX7_roundLength := fun _ h => (List.mem_cons_of_mem _ (List.mem_append_left _ (List.mem_append_left _ (List.mem_append_right _ h))))
theorem zi_X7_routeAt_7 : ∀ w ∈ u_ws RX7 TX7 11, w ∈ wsX7_routeAt := fun _ h => (List.mem_cons_of_mem _ (List.mem_append_left _ (List.mem_append_left _ (List.mem_append_left _ (List.mem_append_left _ (List.mem_append_right _ h))))))
theorem zi_X7_route_7 : ∀ w ∈ u_ws RX7 TX7 11, w ∈ wsX7_route := fun _ h => (List.mem_cons_of_mem _ (List.mem_append_left _ (List.mem_append_left _ (List.mem_append_left _ (List.mem_append_left _ (List.mem_append_right _ h))))))
theorem zi_X7_runAheadOnTrial_7 : ∀ w ∈ u_ws RX7 TX7 11, w ∈ wsX7_runAheadOnTrial := fun _ h => (List.mem_cons_of_mem _ (List.mem_append_left _ (List.mem_append_left _ (List.mem_append_left _ (List.mem_append_right _ h)))))
theorem zi_X7_runAhead_7 : ∀ w ∈ u_ws RX7 TX7 11, w ∈ wsX7_runAhead := fun _ h => (List.mem_cons_of_mem _ (List.mem_append_left _ (List.mem_append_left _ (List.mem_append_left _ (List.mem_append_right _ h)))))
theorem zi_X7_settles_0 : ∀ w ∈ u_ws RX0 TX0 15, w ∈ wsX7_settles := fun _ h => (List.mem_cons_of_mem _ (List.mem_append_left _ (List.mem_append_right _ h)))
theorem zi_X7_settles_7 : ∀ w ∈ u_ws RX7 TX7 11, w ∈ wsX7_settles := fun _ h => (List.mem_cons_of_mem _ (List.mem_append_left _ (List.mem_append_left _ (List.mem_append_right _ h))))
theorem zi_X7_size_1 : ∀ w ∈ u_ws RX1 TX1 5, w ∈ wsX7_size := fun _ h => (List.mem_cons_of_mem _ (List.mem_append_left _ (List.mem_append_left _ (List.mem_append_left _ (List.mem_append_right _ h)))))
theorem zi_X7_size_3 : ∀ w ∈ u_ws RX3 TX3 14, w ∈ wsX7_size := fun _ h => (List.mem_cons_of_mem _ (List.mem_append_left _ (List.mem_append_left _ (List.mem_append_right _ h))))
theorem zi_X7_size_5 : ∀ w ∈ u_ws RX5 TX5 7, w ∈ wsX7_size := fun _ h => (List.mem_cons_of_mem _ (List.mem_append_left _ (List.mem_append_left _ (List.mem_append_left _ (List.mem_append_left _ (List.mem_append_right _ h))))))
theorem zi_X7_size_7 : ∀ w ∈ u_ws RX7 TX7 11, w ∈ wsX7_size := fun _ h => (List.mem_cons_of_mem _ (List.mem_append_left _ (List.mem_append_left _ (List.mem_append_left _ (List.mem_append_left _ (List.mem_append_left _ (List.mem_append_right _ h)))))))
theorem zi_X7_spoken_0 : ∀ w ∈ u_ws RX0 TX0 15, w ∈ wsX7_spoken := fun _ h => (List.mem_cons_of_mem _ (List.mem_append_left _ (List.mem_append_right _ h)))
theorem zi_X7_spoken_5 : ∀ w ∈ u_ws RX5 TX5 7, w ∈ wsX7_spoken := fun _ h => (List.mem_cons_of_mem _ (List.mem_append_left _ (List.mem_append_left _ (List.mem_append_right _ h))))
theorem zi_X7_spoken_7 : ∀ w ∈ u_ws RX7 TX7 11, w ∈ wsX7_spoken := fun _ h => (List.mem_cons_of_mem _ (List.mem_append_left _ (List.mem_append_left _ (List.mem_append_left _ (List.mem_append_right _ h)))))
theorem zi_X7_stairs_0 : ∀ w ∈ u_ws RX0 TX0 15, w ∈ wsX7_stairs := fun _ h => (List.mem_cons_of_mem _ (List.mem_append_left _ (List.mem_append_left _ (List.mem_append_right _ h))))
theorem zi_X7_stairs_7 : ∀ w ∈ u_ws RX7 TX7 11, w ∈ wsX7_stairs := fun _ h => (List.mem_cons_of_mem _ (List.mem_append_left _ (List.mem_append_left _ (List.mem_append_left _ (List.mem_append_right _ h)))))
theorem zi_X7_stand_0 : ∀ w ∈ u_ws RX0 TX0 15, w ∈ wsX7_stand := fun _ h => (List.mem_cons_of_mem _ (List.mem_append_left _ (List.mem_append_left _ (List.mem_append_left _ (List.mem_append_right _ h)))))
theorem zi_X7_stand_7 : ∀ w ∈ u_ws RX7 TX7 11, w ∈ wsX7_stand := fun _ h => (List.mem_cons_of_mem _ (List.mem_append_left _ (List.mem_append_left _ (List.mem_append_left _ (List.mem_append_left _ (List.mem_append_right _ h))))))
theorem zi_X7_trouble_7 : ∀ w ∈ u_ws RX7 TX7 11, w ∈ wsX7_trouble := fun _ h => (List.mem_cons_of_mem _ (List.mem_append_right _ h))
theorem zi_X7_turnFromNow_0 : ∀ w ∈ u_ws RX0 TX0 15, w ∈ wsX7_turnFromNow := fun _ h => (List.mem_cons_of_mem _ (List.mem_append_left _ (List.mem_append_right _ h)))
theorem zi_X7_turnFromNow_5 : ∀ w ∈ u_ws RX5 TX5 7, w ∈ wsX7_turnFromNow := fun _ h => (List.mem_cons_of_mem _ (List.mem_append_right _ h))
theorem zi_X7_turnFromNow_7 : ∀ w ∈ u_ws RX7 TX7 11, w ∈ wsX7_turnFromNow := fun _ h => (List.mem_cons_of_mem _ (List.mem_append_left _ (List.mem_append_left _ (List.mem_append_right _ h))))
theorem zi_X7_turnIn_0 : ∀ w ∈ u_ws RX0 TX0 15, w ∈ wsX7_turnIn := fun _ h => (List.mem_cons_of_mem _ (List.mem_append_right _ h))
theorem zi_X7_turnIn_5 : ∀ w ∈ u_ws RX5 TX5 7, w ∈ wsX7_turnIn := fun _ h => (List.mem_cons_of_mem _ (List.mem_append_left _ (List.mem_append_right _ h)))
theorem zi_X7_turnIn_7 : ∀ w ∈ u_ws RX7 TX7 11, w ∈ wsX7_turnIn := fun _ h => (List.mem_cons_of_mem _ (List.mem_append_left _ (List.mem_append_left _ (List.mem_append_right _ h))))
theorem zi_X7_undo_7 : ∀ w ∈ u_ws RX7 TX7 11, w ∈ wsX7_undo := fun _ h => (List.mem_cons_of_mem _ (List.mem_append_left _ (List.mem_append_left _ (List.mem_append_right _ h))))
theorem zi_X7_watch_0 : ∀ w ∈ u_ws RX0 TX0 15, w ∈ wsX7_watch := fun _ h => (List.mem_cons_of_mem _ (List.mem_append_left _ (List.mem_append_left _ (List.mem_append_right _ h))))
theorem zi_X7_watch_5 : ∀ w ∈ u_ws RX5 TX5 7, w ∈ wsX7_watch := fun _ h => (List.mem_cons_of_mem _ (List.mem_append_left _ (List.mem_append_right _ h)))
theorem zi_X7_watch_7 : ∀ w ∈ u_ws RX7 TX7 11, w ∈ wsX7_watch := fun _ h => (List.mem_cons_of_mem _ (List.mem_append_left _ (List.mem_append_left _ (List.mem_append_left _ (List.mem_append_right _ h)))))
theorem zi_X7_watcher_0 : ∀ w ∈ u_ws RX0 TX0 15, w ∈ wsX7_watcher := fun _ h => (List.mem_cons_of_mem _ (List.mem_append_left _ (List.mem_append_left _ (List.mem_append_right _ h))))
theorem zi_X7_watcher_5 : ∀ w ∈ u_ws RX5 TX5 7, w ∈ wsX7_watcher := fun _ h => (List.mem_cons_of_mem _ (List.mem_append_right _ h))
theorem zi_X7_watcher_6 : ∀ w ∈ u_ws RX6 TX6 4, w ∈ wsX7_watcher := fun _ h => (List.mem_cons_of_mem _ (List.mem_append_left _ (List.mem_append_right _ h)))
theorem zi_X7_watcher_7 : ∀ w ∈ u_ws RX7 TX7 11, w ∈ wsX7_watcher := fun _ h => (List.mem_cons_of_mem _ (List.mem_append_left _ (List.mem_append_left _ (List.mem_append_left _ (List.mem_append_right _ h)))))
theorem zi_X7_where_7 : ∀ w ∈ u_ws RX7 TX7 11, w ∈ wsX7_where := fun _ h => (List.mem_cons_of_mem _ (List.mem_append_right _ h))
theorem zi_X7_windBest_0 : ∀ w ∈ u_ws RX0 TX0 15, w ∈ wsX7_windBest := fun _ h => (List.mem_cons_of_mem _ (List.mem_append_left _ (List.mem_append_left _ (List.mem_append_right _ h))))
theorem zi_X7_windBest_7 : ∀ w ∈ u_ws RX7 TX7 11, w ∈ wsX7_windBest := fun _ h => (List.mem_cons_of_mem _ (List.mem_append_left _ (List.mem_append_left _ (List.mem_append_left _ (List.mem_append_right _ h)))))
theorem zi_X7_wind_5 : ∀ w ∈ u_ws RX5 TX5 7, w ∈ wsX7_wind := fun _ h => (List.mem_cons_of_mem _ (List.mem_append_left _ (List.mem_append_left _ (List.mem_append_right _ h))))
theorem zi_X7_wind_7 : ∀ w ∈ u_ws RX7 TX7 11, w ∈ wsX7_wind := fun _ h => (List.mem_cons_of_mem _ (List.mem_append_left _ (List.mem_append_left _ (List.mem_append_left _ (List.mem_append_right _ h)))))
theorem zi_X8_aliveBy_8 : ∀ w ∈ u_ws RX8 TX8 40, w ∈ wsX8_aliveBy := fun _ h => (List.mem_cons_of_mem _ (List.mem_append_right _ h))
theorem zi_X8_alive_8 : ∀ w ∈ u_ws RX8 TX8 40, w ∈ wsX8_alive := fun _ h => (List.mem_cons_of_mem _ (List.mem_append_right _ h))
theorem zi_X8_allIn_8 : ∀ w ∈ u_ws RX8 TX8 40, w ∈ wsX8_allIn := fun _ h => (List.mem_cons_of_mem _ (List.mem_append_right _ h))
theorem zi_X8_back_8 : ∀ w ∈ u_ws RX8 TX8 40, w ∈ wsX8_back := fun _ h => (List.mem_cons_of_mem _ (List.mem_append_right _ h))
theorem zi_X8_begin_8 : ∀ w ∈ u_ws RX8 TX8 40, w ∈ wsX8_begin := fun _ h => (List.mem_cons_of_mem _ (List.mem_append_right _ h))
theorem zi_X8_begins_8 : ∀ w ∈ u_ws RX8 TX8 40, w ∈ wsX8_begins := fun _ h => (List.mem_cons_of_mem _ (List.mem_append_right _ h))
theorem zi_X8_bestFrom_8 : ∀ w ∈ u_ws RX8 TX8 40, w ∈ wsX8_bestFrom := fun _ h => (List.mem_cons_of_mem _ (List.mem_append_right _ h))
theorem zi_X8_byCode_8 : ∀ w ∈ u_ws RX8 TX8 40, w ∈ wsX8_byCode := fun _ h => (List.mem_cons_of_mem _ (List.mem_append_right _ h))
theorem zi_X8_called_8 : ∀ w ∈ u_ws RX8 TX8 40, w ∈ wsX8_called := fun _ h => (List.mem_cons_of_mem _ (List.mem_append_right _ h))
theorem zi_X8_catches_8 : ∀ w ∈ u_ws RX8 TX8 40, w ∈ wsX8_catches := fun _ h => (List.mem_cons_of_mem _ (List.mem_append_right _ h))
theorem zi_X8_caught_8 : ∀ w ∈ u_ws RX8 TX8 40, w ∈ wsX8_caught := fun _ h => (List.mem_cons_of_mem _ (List.mem_append_right _ h))
theorem zi_X8_codes_8 : ∀ w ∈ u_ws RX8 TX8 40, w ∈ wsX8_codes := fun _ h => (List.mem_cons_of_mem _ (List.mem_append_right _ h))
theorem zi_X8_could_8 : ∀ w ∈ u_ws RX8 TX8 40, w ∈ wsX8_could := fun _ h => (List.mem_cons_of_mem _ (List.mem_append_right _ h))
theorem zi_X8_crowd_8 : ∀ w ∈ u_ws RX8 TX8 40, w ∈ wsX8_crowd := fun _ h => (List.mem_cons_of_mem _ (List.mem_append_right _ h))
theorem zi_X8_dares_8 : ∀ w ∈ u_ws RX8 TX8 40, w ∈ wsX8_dares := fun _ h => (List.mem_cons_of_mem _ (List.mem_append_right _ h))
theorem zi_X8_doesFit_8 : ∀ w ∈ u_ws RX8 TX8 40, w ∈ wsX8_doesFit := fun _ h => (List.mem_cons_of_mem _ (List.mem_append_right _ h))
theorem zi_X8_drawWhy_8 : ∀ w ∈ u_ws RX8 TX8 40, w ∈ wsX8_drawWhy := fun _ h => (List.mem_cons_of_mem _ (List.mem_append_right _ h))
theorem zi_X8_drawn_8 : ∀ w ∈ u_ws RX8 TX8 40, w ∈ wsX8_drawn := fun _ h => (List.mem_cons_of_mem _ (List.mem_append_right _ h))
theorem zi_X8_farthest_8 : ∀ w ∈ u_ws RX8 TX8 40, w ∈ wsX8_farthest := fun _ h => (List.mem_cons_of_mem _ (List.mem_append_right _ h))
theorem zi_X8_fault_8 : ∀ w ∈ u_ws RX8 TX8 40, w ∈ wsX8_fault := fun _ h => (List.mem_cons_of_mem _ (List.mem_append_right _ h))
theorem zi_X8_feed_8 : ∀ w ∈ u_ws RX8 TX8 40, w ∈ wsX8_feed := fun _ h => (List.mem_cons_of_mem _ (List.mem_append_right _ h))
theorem zi_X8_figureLine_8 : ∀ w ∈ u_ws RX8 TX8 40, w ∈ wsX8_figureLine := fun _ h => (List.mem_cons_of_mem _ (List.mem_append_right _ h))
theorem zi_X8_figure_8 : ∀ w ∈ u_ws RX8 TX8 40, w ∈ wsX8_figure := fun _ h => (List.mem_cons_of_mem _ (List.mem_append_right _ h))
theorem zi_X8_firstShut_8 : ∀ w ∈ u_ws RX8 TX8 40, w ∈ wsX8_firstShut := fun _ h => (List.mem_cons_of_mem _ (List.mem_append_right _ h))
theorem zi_X8_fitAt_8 : ∀ w ∈ u_ws RX8 TX8 40, w ∈ wsX8_fitAt := fun _ h => (List.mem_cons_of_mem _ (List.mem_append_right _ h))
theorem zi_X8_fits_8 : ∀ w ∈ u_ws RX8 TX8 40, w ∈ wsX8_fits := fun _ h => (List.mem_cons_of_mem _ (List.mem_append_right _ h))
theorem zi_X8_galleryLine_8 : ∀ w ∈ u_ws RX8 TX8 40, w ∈ wsX8_galleryLine := fun _ h => (List.mem_cons_of_mem _ (List.mem_append_right _ h))
theorem zi_X8_gallery_8 : ∀ w ∈ u_ws RX8 TX8 40, w ∈ wsX8_gallery := fun _ h => (List.mem_cons_of_mem _ (List.mem_append_right _ h))
theorem zi_X8_goRound_8 : ∀ w ∈ u_ws RX8 TX8 40, w ∈ wsX8_goRound := fun _ h => (List.mem_cons_of_mem _ (List.mem_append_right _ h))
theorem zi_X8_go_8 : ∀ w ∈ u_ws RX8 TX8 40, w ∈ wsX8_go := fun _ h => (List.mem_cons_of_mem _ (List.mem_append_right _ h))
theorem zi_X8_gone_8 : ∀ w ∈ u_ws RX8 TX8 40, w ∈ wsX8_gone := fun _ h => (List.mem_cons_of_mem _ (List.mem_append_right _ h))
theorem zi_X8_good_8 : ∀ w ∈ u_ws RX8 TX8 40, w ∈ wsX8_good := fun _ h => (List.mem_cons_of_mem _ (List.mem_append_right _ h))
theorem zi_X8_guard_8 : ∀ w ∈ u_ws RX8 TX8 40, w ∈ wsX8_guard := fun _ h => (List.mem_cons_of_mem _ (List.mem_append_right _ h))
theorem zi_X8_heard_8 : ∀ w ∈ u_ws RX8 TX8 40, w ∈ wsX8_heard := fun _ h => (List.mem_cons_of_mem _ (List.mem_append_right _ h))
theorem zi_X8_image_8 : ∀ w ∈ u_ws RX8 TX8 40, w ∈ wsX8_image := fun _ h => (List.mem_cons_of_mem _ (List.mem_append_right _ h))
theorem zi_X8_isFigure_8 : ∀ w ∈ u_ws RX8 TX8 40, w ∈ wsX8_isFigure := fun _ h => (List.mem_cons_of_mem _ (List.mem_append_right _ h))
theorem zi_X8_isKnown_8 : ∀ w ∈ u_ws RX8 TX8 40, w ∈ wsX8_isKnown := fun _ h => (List.mem_cons_of_mem _ (List.mem_append_right _ h))
theorem zi_X8_isNot_8 : ∀ w ∈ u_ws RX8 TX8 40, w ∈ wsX8_isNot := fun _ h => (List.mem_cons_of_mem _ (List.mem_append_right _ h))
theorem zi_X8_isWatched_8 : ∀ w ∈ u_ws RX8 TX8 40, w ∈ wsX8_isWatched := fun _ h => (List.mem_cons_of_mem _ (List.mem_append_right _ h))
theorem zi_X8_isWatcher_8 : ∀ w ∈ u_ws RX8 TX8 40, w ∈ wsX8_isWatcher := fun _ h => (List.mem_cons_of_mem _ (List.mem_append_right _ h))
theorem zi_X8_isWord_8 : ∀ w ∈ u_ws RX8 TX8 40, w ∈ wsX8_isWord := fun _ h => (List.mem_cons_of_mem _ (List.mem_append_right _ h))
theorem zi_X8_judge_8 : ∀ w ∈ u_ws RX8 TX8 40, w ∈ wsX8_judge := fun _ h => (List.mem_cons_of_mem _ (List.mem_append_right _ h))
theorem zi_X8_last_8 : ∀ w ∈ u_ws RX8 TX8 40, w ∈ wsX8_last := fun _ h => (List.mem_cons_of_mem _ (List.mem_append_right _ h))
theorem zi_X8_lawLine_8 : ∀ w ∈ u_ws RX8 TX8 40, w ∈ wsX8_lawLine := fun _ h => (List.mem_cons_of_mem _ (List.mem_append_right _ h))
theorem zi_X8_lawsLike_8 : ∀ w ∈ u_ws RX8 TX8 40, w ∈ wsX8_lawsLike := fun _ h => (List.mem_cons_of_mem _ (List.mem_append_right _ h))
theorem zi_X8_layOften_8 : ∀ w ∈ u_ws RX8 TX8 40, w ∈ wsX8_layOften := fun _ h => (List.mem_cons_of_mem _ (List.mem_append_right _ h))
theorem zi_X8_layRoute_8 : ∀ w ∈ u_ws RX8 TX8 40, w ∈ wsX8_layRoute := fun _ h => (List.mem_cons_of_mem _ (List.mem_append_right _ h))
theorem zi_X8_led_8 : ∀ w ∈ u_ws RX8 TX8 40, w ∈ wsX8_led := fun _ h => (List.mem_cons_of_mem _ (List.mem_append_right _ h))
theorem zi_X8_left_8 : ∀ w ∈ u_ws RX8 TX8 40, w ∈ wsX8_left := fun _ h => (List.mem_cons_of_mem _ (List.mem_append_right _ h))
theorem zi_X8_lookLeaves_8 : ∀ w ∈ u_ws RX8 TX8 40, w ∈ wsX8_lookLeaves := fun _ h => (List.mem_cons_of_mem _ (List.mem_append_right _ h))
theorem zi_X8_lookOf_8 : ∀ w ∈ u_ws RX8 TX8 40, w ∈ wsX8_lookOf := fun _ h => (List.mem_cons_of_mem _ (List.mem_append_right _ h))
theorem zi_X8_look_8 : ∀ w ∈ u_ws RX8 TX8 40, w ∈ wsX8_look := fun _ h => (List.mem_cons_of_mem _ (List.mem_append_right _ h))
theorem zi_X8_mean_8 : ∀ w ∈ u_ws RX8 TX8 40, w ∈ wsX8_mean := fun _ h => (List.mem_cons_of_mem _ (List.mem_append_right _ h))
theorem zi_X8_meets_8 : ∀ w ∈ u_ws RX8 TX8 40, w ∈ wsX8_meets := fun _ h => (List.mem_cons_of_mem _ (List.mem_append_right _ h))
theorem zi_X8_minuteOn_8 : ∀ w ∈ u_ws RX8 TX8 40, w ∈ wsX8_minuteOn := fun _ h => (List.mem_cons_of_mem _ (List.mem_append_right _ h))
theorem zi_X8_minutesOf_8 : ∀ w ∈ u_ws RX8 TX8 40, w ∈ wsX8_minutesOf := fun _ h => (List.mem_cons_of_mem _ (List.mem_append_right _ h))
theorem zi_X8_minutesOn_8 : ∀ w ∈ u_ws RX8 TX8 40, w ∈ wsX8_minutesOn := fun _ h => (List.mem_cons_of_mem _ (List.mem_append_right _ h))
theorem zi_X8_must_8 : ∀ w ∈ u_ws RX8 TX8 40, w ∈ wsX8_must := fun _ h => (List.mem_cons_of_mem _ (List.mem_append_right _ h))
theorem zi_X8_nearBy_8 : ∀ w ∈ u_ws RX8 TX8 40, w ∈ wsX8_nearBy := fun _ h => (List.mem_cons_of_mem _ (List.mem_append_right _ h))
theorem zi_X8_newName_8 : ∀ w ∈ u_ws RX8 TX8 40, w ∈ wsX8_newName := fun _ h => (List.mem_cons_of_mem _ (List.mem_append_right _ h))
theorem zi_X8_nextGone_8 : ∀ w ∈ u_ws RX8 TX8 40, w ∈ wsX8_nextGone := fun _ h => (List.mem_cons_of_mem _ (List.mem_append_right _ h))
theorem zi_X8_nextOf_8 : ∀ w ∈ u_ws RX8 TX8 40, w ∈ wsX8_nextOf := fun _ h => (List.mem_cons_of_mem _ (List.mem_append_right _ h))
theorem zi_X8_next_8 : ∀ w ∈ u_ws RX8 TX8 40, w ∈ wsX8_next := fun _ h => (List.mem_cons_of_mem _ (List.mem_append_right _ h))
theorem zi_X8_no_8 : ∀ w ∈ u_ws RX8 TX8 40, w ∈ wsX8_no := fun _ h => (List.mem_cons_of_mem _ (List.mem_append_right _ h))
theorem zi_X8_note_8 : ∀ w ∈ u_ws RX8 TX8 40, w ∈ wsX8_note := fun _ h => (List.mem_cons_of_mem _ (List.mem_append_right _ h))
theorem zi_X8_numberHere_8 : ∀ w ∈ u_ws RX8 TX8 40, w ∈ wsX8_numberHere := fun _ h => (List.mem_cons_of_mem _ (List.mem_append_right _ h))
theorem zi_X8_numberOf_8 : ∀ w ∈ u_ws RX8 TX8 40, w ∈ wsX8_numberOf := fun _ h => (List.mem_cons_of_mem _ (List.mem_append_right _ h))
theorem zi_X8_odds_8 : ∀ w ∈ u_ws RX8 TX8 40, w ∈ wsX8_odds := fun _ h => (List.mem_cons_of_mem _ (List.mem_append_right _ h))
theorem zi_X8_pass_8 : ∀ w ∈ u_ws RX8 TX8 40, w ∈ wsX8_pass := fun _ h => (List.mem_cons_of_mem _ (List.mem_append_right _ h))
theorem zi_X8_patrol_8 : ∀ w ∈ u_ws RX8 TX8 40, w ∈ wsX8_patrol := fun _ h => (List.mem_cons_of_mem _ (List.mem_append_right _ h))
theorem zi_X8_place_8 : ∀ w ∈ u_ws RX8 TX8 40, w ∈ wsX8_place := fun _ h => (List.mem_cons_of_mem _ (List.mem_append_right _ h))
theorem zi_X8_put_8 : ∀ w ∈ u_ws RX8 TX8 40, w ∈ wsX8_put := fun _ h => (List.mem_cons_of_mem _ (List.mem_append_right _ h))
theorem zi_X8_readLine_8 : ∀ w ∈ u_ws RX8 TX8 40, w ∈ wsX8_readLine := fun _ h => (List.mem_cons_of_mem _ (List.mem_append_right _ h))
theorem zi_X8_rest_8 : ∀ w ∈ u_ws RX8 TX8 40, w ∈ wsX8_rest := fun _ h => (List.mem_cons_of_mem _ (List.mem_append_right _ h))
theorem zi_X8_rests_8 : ∀ w ∈ u_ws RX8 TX8 40, w ∈ wsX8_rests := fun _ h => (List.mem_cons_of_mem _ (List.mem_append_right _ h))
theorem zi_X8_round_8 : ∀ w ∈ u_ws RX8 TX8 40, w ∈ wsX8_round := fun _ h => (List.mem_cons_of_mem _ (List.mem_append_right _ h))
theorem zi_X8_route_8 : ∀ w ∈ u_ws RX8 TX8 40, w ∈ wsX8_route := fun _ h => (List.mem_cons_of_mem _ (List.mem_append_right _ h))
theorem zi_X8_see_8 : ∀ w ∈ u_ws RX8 TX8 40, w ∈ wsX8_see := fun _ h => (List.mem_cons_of_mem _ (List.mem_append_right _ h))
theorem zi_X8_seekRests_8 : ∀ w ∈ u_ws RX8 TX8 40, w ∈ wsX8_seekRests := fun _ h => (List.mem_cons_of_mem _ (List.mem_append_right _ h))
theorem zi_X8_seenLine_8 : ∀ w ∈ u_ws RX8 TX8 40, w ∈ wsX8_seenLine := fun _ h => (List.mem_cons_of_mem _ (List.mem_append_right _ h))
theorem zi_X8_settles_8 : ∀ w ∈ u_ws RX8 TX8 40, w ∈ wsX8_settles := fun _ h => (List.mem_cons_of_mem _ (List.mem_append_right _ h))
theorem zi_X8_size_8 : ∀ w ∈ u_ws RX8 TX8 40, w ∈ wsX8_size := fun _ h => (List.mem_cons_of_mem _ (List.mem_append_right _ h))
theorem zi_X8_speakOn_8 : ∀ w ∈ u_ws RX8 TX8 40, w ∈ wsX8_speakOn := fun _ h => (List.mem_cons_of_mem _ (List.mem_append_right _ h))
theorem zi_X8_spoken_8 : ∀ w ∈ u_ws RX8 TX8 40, w ∈ wsX8_spoken := fun _ h => (List.mem_cons_of_mem _ (List.mem_append_right _ h))
theorem zi_X8_stairs_8 : ∀ w ∈ u_ws RX8 TX8 40, w ∈ wsX8_stairs := fun _ h => (List.mem_cons_of_mem _ (List.mem_append_right _ h))
theorem zi_X8_stand_8 : ∀ w ∈ u_ws RX8 TX8 40, w ∈ wsX8_stand := fun _ h => (List.mem_cons_of_mem _ (List.mem_append_right _ h))
theorem zi_X8_trouble_8 : ∀ w ∈ u_ws RX8 TX8 40, w ∈ wsX8_trouble := fun _ h => (List.mem_cons_of_mem _ (List.mem_append_right _ h))
theorem zi_X8_turnAt_8 : ∀ w ∈ u_ws RX8 TX8 40, w ∈ wsX8_turnAt := fun _ h => (List.mem_cons_of_mem _ (List.mem_append_right _ h))
theorem zi_X8_turnBy_8 : ∀ w ∈ u_ws RX8 TX8 40, w ∈ wsX8_turnBy := fun _ h => (List.mem_cons_of_mem _ (List.mem_append_right _ h))
theorem zi_X8_turnIn_8 : ∀ w ∈ u_ws RX8 TX8 40, w ∈ wsX8_turnIn := fun _ h => (List.mem_cons_of_mem _ (List.mem_append_right _ h))
theorem zi_X8_turnOf_8 : ∀ w ∈ u_ws RX8 TX8 40, w ∈ wsX8_turnOf := fun _ h => (List.mem_cons_of_mem _ (List.mem_append_right _ h))
theorem zi_X8_undo_8 : ∀ w ∈ u_ws RX8 TX8 40, w ∈ wsX8_undo := fun _ h => (List.mem_cons_of_mem _ (List.mem_append_right _ h))
theorem zi_X8_walkOn_8 : ∀ w ∈ u_ws RX8 TX8 40, w ∈ wsX8_walkOn := fun _ h => (List.mem_cons_of_mem _ (List.mem_append_right _ h))
theorem zi_X8_watchAsTold_8 : ∀ w ∈ u_ws RX8 TX8 40, w ∈ wsX8_watchAsTold := fun _ h => (List.mem_cons_of_mem _ (List.mem_append_right _ h))
theorem zi_X8_watch_8 : ∀ w ∈ u_ws RX8 TX8 40, w ∈ wsX8_watch := fun _ h => (List.mem_cons_of_mem _ (List.mem_append_right _ h))
theorem zi_X8_watcherAt_8 : ∀ w ∈ u_ws RX8 TX8 40, w ∈ wsX8_watcherAt := fun _ h => (List.mem_cons_of_mem _ (List.mem_append_right _ h))
theorem zi_X8_watcherLine_8 : ∀ w ∈ u_ws RX8 TX8 40, w ∈ wsX8_watcherLine := fun _ h => (List.mem_cons_of_mem _ (List.mem_append_right _ h))
theorem zi_X8_watcher_8 : ∀ w ∈ u_ws RX8 TX8 40, w ∈ wsX8_watcher := fun _ h => (List.mem_cons_of_mem _ (List.mem_append_right _ h))
theorem zi_X8_where_8 : ∀ w ∈ u_ws RX8 TX8 40, w ∈ wsX8_where := fun _ h => (List.mem_cons_of_mem _ (List.mem_append_right _ h))
theorem zi_X8_windBest_8 : ∀ w ∈ u_ws RX8 TX8 40, w ∈ wsX8_windBest := fun _ h => (List.mem_cons_of_mem _ (List.mem_append_right _ h))
theorem zi_X8_wind_8 : ∀ w ∈ u_ws RX8 TX8 40, w ∈ wsX8_wind := fun _ h => (List.mem_cons_of_mem _ (List.mem_append_right _ h))
theorem zi_X8_wrong_8 : ∀ w ∈ u_ws RX8 TX8 40, w ∈ wsX8_wrong := fun _ h => (List.mem_cons_of_mem _ (List.mem_append_right _ h))
theorem zm_J0_charAt_5068e_r1 {w : Cond} (h : w ∈ wsJ0_charAt_5068e_r1) : w ∈ wsJ0_charAt_5068e := (List.mem_cons_of_mem _ (List.mem_append_left _ h))
theorem zm_X0_pass_r1 {w : Cond} (h : w ∈ wsX0_pass_r1) : w ∈ wsX0_pass := (List.mem_cons_of_mem _ (List.mem_append_left _ (List.mem_append_left _ (List.mem_append_left _ (List.mem_append_left _ h)))))
theorem zm_X0_step_r1 {w : Cond} (h : w ∈ wsX0_step_r1) : w ∈ wsX0_step := (List.mem_cons_of_mem _ (List.mem_append_left _ (List.mem_append_left _ (List.mem_append_left _ (List.mem_append_left _ h)))))
theorem zm_X2_chooseLook_r1 {w : Cond} (h : w ∈ wsX2_chooseLook_r1) : w ∈ wsX2_chooseLook := (List.mem_cons_of_mem _ (List.mem_append_left _ (List.mem_append_left _ (List.mem_append_left _ h))))
theorem zm_X3_isWord_r1 {w : Cond} (h : w ∈ wsX3_isWord_r1) : w ∈ wsX3_isWord := (List.mem_cons_of_mem _ (List.mem_append_left _ (List.mem_append_left _ h)))
theorem zm_X3_readFigure_r1 {w : Cond} (h : w ∈ wsX3_readFigure_r1) : w ∈ wsX3_readFigure := (List.mem_cons_of_mem _ (List.mem_append_left _ (List.mem_append_left _ (List.mem_append_left _ h))))
theorem zm_X3_readFigure_r5 {w : Cond} (h : w ∈ wsX3_readFigure_r5) : w ∈ wsX3_readFigure := (List.mem_cons_of_mem _ (List.mem_append_left _ (List.mem_append_left _ (List.mem_append_right _ (List.mem_append_right _ (List.mem_append_right _ (List.mem_append_right _ h)))))))
theorem zm_X3_readHall_r1 {w : Cond} (h : w ∈ wsX3_readHall_r1) : w ∈ wsX3_readHall := (List.mem_cons_of_mem _ (List.mem_append_left _ (List.mem_append_left _ (List.mem_append_left _ h))))
theorem zm_X3_readLaw_r1 {w : Cond} (h : w ∈ wsX3_readLaw_r1) : w ∈ wsX3_readLaw := (List.mem_cons_of_mem _ (List.mem_append_left _ (List.mem_append_left _ (List.mem_append_left _ h))))
theorem zm_X3_readLine_r1 {w : Cond} (h : w ∈ wsX3_readLine_r1) : w ∈ wsX3_readLine := (List.mem_cons_of_mem _ (List.mem_append_left _ (List.mem_append_left _ (List.mem_append_left _ (List.mem_append_left _ h)))))
theorem zm_X3_readSeen_r1 {w : Cond} (h : w ∈ wsX3_readSeen_r1) : w ∈ wsX3_readSeen := (List.mem_cons_of_mem _ (List.mem_append_left _ (List.mem_append_left _ (List.mem_append_left _ h))))
theorem zm_X3_readWatcher_r1 {w : Cond} (h : w ∈ wsX3_readWatcher_r1) : w ∈ wsX3_readWatcher := (List.mem_cons_of_mem _ (List.mem_append_left _ (List.mem_append_left _ (List.mem_append_left _ (List.mem_append_left _ h)))))
theorem zm_X3_read_r1 {w : Cond} (h : w ∈ wsX3_read_r1) : w ∈ wsX3_read := (List.mem_cons_of_mem _ (List.mem_append_left _ (List.mem_append_left _ (List.mem_append_left _ (List.mem_append_left _ h)))))
theorem zm_X3_takeName_r1 {w : Cond} (h : w ∈ wsX3_takeName_r1) : w ∈ wsX3_takeName := (List.mem_cons_of_mem _ (List.mem_append_left _ (List.mem_append_left _ h)))
theorem zm_X3_takeWhole_r1 {w : Cond} (h : w ∈ wsX3_takeWhole_r1) : w ∈ wsX3_takeWhole := (List.mem_cons_of_mem _ (List.mem_append_left _ (List.mem_append_left _ h)))
theorem zm_X7_aliveBy_r1 {w : Cond} (h : w ∈ wsX7_aliveBy_r1) : w ∈ wsX7_aliveBy := (List.mem_cons_of_mem _ (List.mem_append_left _ (List.mem_append_left _ (List.mem_append_left _ (List.mem_append_left _ h)))))
theorem zm_X7_allIn_r1 {w : Cond} (h : w ∈ wsX7_allIn_r1) : w ∈ wsX7_allIn := (List.mem_cons_of_mem _ (List.mem_append_left _ (List.mem_append_left _ (List.mem_append_left _ (List.mem_append_left _ (List.mem_append_left _ h))))))
theorem zm_X7_back_r1 {w : Cond} (h : w ∈ wsX7_back_r1) : w ∈ wsX7_back := (List.mem_cons_of_mem _ (List.mem_append_left _ (List.mem_append_left _ (List.mem_append_left _ (List.mem_append_left _ h)))))
theorem zm_X7_called_r1 {w : Cond} (h : w ∈ wsX7_called_r1) : w ∈ wsX7_called := (List.mem_cons_of_mem _ (List.mem_append_left _ (List.mem_append_left _ (List.mem_append_left _ (List.mem_append_left _ h)))))
theorem zm_X7_catches_r1 {w : Cond} (h : w ∈ wsX7_catches_r1) : w ∈ wsX7_catches := (List.mem_cons_of_mem _ (List.mem_append_left _ (List.mem_append_left _ (List.mem_append_left _ (List.mem_append_left _ (List.mem_append_left _ h))))))
theorem zm_X7_could_r1 {w : Cond} (h : w ∈ wsX7_could_r1) : w ∈ wsX7_could := (List.mem_cons_of_mem _ (List.mem_append_left _ (List.mem_append_left _ (List.mem_append_left _ (List.mem_append_left _ h)))))
theorem zm_X7_crowd_r1 {w : Cond} (h : w ∈ wsX7_crowd_r1) : w ∈ wsX7_crowd := (List.mem_cons_of_mem _ (List.mem_append_left _ (List.mem_append_left _ (List.mem_append_left _ (List.mem_append_left _ (List.mem_append_left _ h))))))
theorem zm_X7_dares_r1 {w : Cond} (h : w ∈ wsX7_dares_r1) : w ∈ wsX7_dares := (List.mem_cons_of_mem _ (List.mem_append_left _ (List.mem_append_left _ (List.mem_append_left _ h))))
theorem zm_X7_drawn_r1 {w : Cond} (h : w ∈ wsX7_drawn_r1) : w ∈ wsX7_drawn := (List.mem_cons_of_mem _ (List.mem_append_left _ (List.mem_append_left _ (List.mem_append_left _ (List.mem_append_left _ h)))))
theorem zm_X7_farthest_r1 {w : Cond} (h : w ∈ wsX7_farthest_r1) : w ∈ wsX7_farthest := (List.mem_cons_of_mem _ (List.mem_append_left _ (List.mem_append_left _ (List.mem_append_left _ (List.mem_append_left _ (List.mem_append_left _ h))))))
theorem zm_X7_figure_r1 {w : Cond} (h : w ∈ wsX7_figure_r1) : w ∈ wsX7_figure := (List.mem_cons_of_mem _ (List.mem_append_left _ (List.mem_append_left _ (List.mem_append_left _ (List.mem_append_left _ h)))))
theorem zm_X7_firstShut_r1 {w : Cond} (h : w ∈ wsX7_firstShut_r1) : w ∈ wsX7_firstShut := (List.mem_cons_of_mem _ (List.mem_append_left _ (List.mem_append_left _ (List.mem_append_left _ h))))
theorem zm_X7_fitAt_r1 {w : Cond} (h : w ∈ wsX7_fitAt_r1) : w ∈ wsX7_fitAt := (List.mem_cons_of_mem _ (List.mem_append_left _ (List.mem_append_left _ (List.mem_append_left _ (List.mem_append_left _ h)))))
theorem zm_X7_fits_r1 {w : Cond} (h : w ∈ wsX7_fits_r1) : w ∈ wsX7_fits := (List.mem_cons_of_mem _ (List.mem_append_left _ (List.mem_append_left _ (List.mem_append_left _ (List.mem_append_left _ h)))))
theorem zm_X7_gallery_r1 {w : Cond} (h : w ∈ wsX7_gallery_r1) : w ∈ wsX7_gallery := (List.mem_cons_of_mem _ (List.mem_append_left _ (List.mem_append_left _ (List.mem_append_left _ (List.mem_append_left _ (List.mem_append_left _ (List.mem_append_left _ (List.mem_append_left _ (List.mem_append_left _ h)))))))))
theorem zm_X7_go_r1 {w : Cond} (h : w ∈ wsX7_go_r1) : w ∈ wsX7_go := (List.mem_cons_of_mem _ (List.mem_append_left _ (List.mem_append_left _ (List.mem_append_left _ (List.mem_append_left _ (List.mem_append_left _ (List.mem_append_left _ h)))))))
theorem zm_X7_gone_r1 {w : Cond} (h : w ∈ wsX7_gone_r1) : w ∈ wsX7_gone := (List.mem_cons_of_mem _ (List.mem_append_left _ (List.mem_append_left _ (List.mem_append_left _ (List.mem_append_left _ (List.mem_append_left _ h))))))
theorem zm_X7_guard_r1 {w : Cond} (h : w ∈ wsX7_guard_r1) : w ∈ wsX7_guard := (List.mem_cons_of_mem _ (List.mem_append_left _ (List.mem_append_left _ (List.mem_append_left _ (List.mem_append_left _ (List.mem_append_left _ h))))))
theorem zm_X7_heard_r1 {w : Cond} (h : w ∈ wsX7_heard_r1) : w ∈ wsX7_heard := (List.mem_cons_of_mem _ (List.mem_append_left _ (List.mem_append_left _ (List.mem_append_left _ (List.mem_append_left _ (List.mem_append_left _ h))))))
theorem zm_X7_image_r1 {w : Cond} (h : w ∈ wsX7_image_r1) : w ∈ wsX7_image := (List.mem_cons_of_mem _ (List.mem_append_left _ (List.mem_append_left _ (List.mem_append_left _ (List.mem_append_left _ (List.mem_append_left _ h))))))
theorem zm_X7_judge_r1 {w : Cond} (h : w ∈ wsX7_judge_r1) : w ∈ wsX7_judge := (List.mem_cons_of_mem _ (List.mem_append_left _ (List.mem_append_left _ (List.mem_append_left _ h))))
theorem zm_X7_lawsLike_r1 {w : Cond} (h : w ∈ wsX7_lawsLike_r1) : w ∈ wsX7_lawsLike := (List.mem_cons_of_mem _ (List.mem_append_left _ (List.mem_append_left _ (List.mem_append_left _ h))))
theorem zm_X7_lookLeaves_r1 {w : Cond} (h : w ∈ wsX7_lookLeaves_r1) : w ∈ wsX7_lookLeaves := (List.mem_cons_of_mem _ (List.mem_append_left _ (List.mem_append_left _ (List.mem_append_left _ (List.mem_append_left _ h)))))
theorem zm_X7_look_r1 {w : Cond} (h : w ∈ wsX7_look_r1) : w ∈ wsX7_look := (List.mem_cons_of_mem _ (List.mem_append_left _ (List.mem_append_left _ (List.mem_append_left _ (List.mem_append_left _ h)))))
theorem zm_X7_mean_r1 {w : Cond} (h : w ∈ wsX7_mean_r1) : w ∈ wsX7_mean := (List.mem_cons_of_mem _ (List.mem_append_left _ (List.mem_append_left _ (List.mem_append_left _ (List.mem_append_left _ h)))))
theorem zm_X7_meets_r1 {w : Cond} (h : w ∈ wsX7_meets_r1) : w ∈ wsX7_meets := (List.mem_cons_of_mem _ (List.mem_append_left _ (List.mem_append_left _ (List.mem_append_left _ (List.mem_append_left _ (List.mem_append_left _ h))))))
theorem zm_X7_minutesOf_r1 {w : Cond} (h : w ∈ wsX7_minutesOf_r1) : w ∈ wsX7_minutesOf := (List.mem_cons_of_mem _ (List.mem_append_left _ (List.mem_append_left _ (List.mem_append_left _ (List.mem_append_left _ h)))))
theorem zm_X7_minutesTillGone_r1 {w : Cond} (h : w ∈ wsX7_minutesTillGone_r1) : w ∈ wsX7_minutesTillGone := (List.mem_cons_of_mem _ (List.mem_append_left _ (List.mem_append_left _ (List.mem_append_left _ (List.mem_append_left _ (List.mem_append_left _ h))))))
theorem zm_X7_nearBy_r1 {w : Cond} (h : w ∈ wsX7_nearBy_r1) : w ∈ wsX7_nearBy := (List.mem_cons_of_mem _ (List.mem_append_left _ (List.mem_append_left _ (List.mem_append_left _ (List.mem_append_left _ (List.mem_append_left _ h))))))
theorem zm_X7_odds_r1 {w : Cond} (h : w ∈ wsX7_odds_r1) : w ∈ wsX7_odds := (List.mem_cons_of_mem _ (List.mem_append_left _ (List.mem_append_left _ (List.mem_append_left _ (List.mem_append_left _ h)))))
theorem zm_X7_passAhead_r1 {w : Cond} (h : w ∈ wsX7_passAhead_r1) : w ∈ wsX7_passAhead := (List.mem_cons_of_mem _ (List.mem_append_left _ (List.mem_append_left _ (List.mem_append_left _ (List.mem_append_left _ (List.mem_append_left _ h))))))
theorem zm_X7_patrol_r1 {w : Cond} (h : w ∈ wsX7_patrol_r1) : w ∈ wsX7_patrol := (List.mem_cons_of_mem _ (List.mem_append_left _ (List.mem_append_left _ (List.mem_append_left _ (List.mem_append_left _ (List.mem_append_left _ h))))))
theorem zm_X7_placeOfActing_r1 {w : Cond} (h : w ∈ wsX7_placeOfActing_r1) : w ∈ wsX7_placeOfActing := (List.mem_cons_of_mem _ (List.mem_append_left _ (List.mem_append_left _ (List.mem_append_left _ (List.mem_append_left _ (List.mem_append_left _ h))))))
theorem zm_X7_place_r1 {w : Cond} (h : w ∈ wsX7_place_r1) : w ∈ wsX7_place := (List.mem_cons_of_mem _ (List.mem_append_left _ (List.mem_append_left _ (List.mem_append_left _ (List.mem_append_left _ (List.mem_append_left _ h))))))
theorem zm_X7_planRoutes_r1 {w : Cond} (h : w ∈ wsX7_planRoutes_r1) : w ∈ wsX7_planRoutes := (List.mem_cons_of_mem _ (List.mem_append_left _ (List.mem_append_left _ (List.mem_append_left _ (List.mem_append_left _ (List.mem_append_left _ (List.mem_append_left _ h)))))))
theorem zm_X7_postsHold_r1 {w : Cond} (h : w ∈ wsX7_postsHold_r1) : w ∈ wsX7_postsHold := (List.mem_cons_of_mem _ (List.mem_append_left _ (List.mem_append_left _ (List.mem_append_left _ (List.mem_append_left _ (List.mem_append_left _ h))))))
theorem zm_X7_put_r1 {w : Cond} (h : w ∈ wsX7_put_r1) : w ∈ wsX7_put := (List.mem_cons_of_mem _ (List.mem_append_left _ (List.mem_append_left _ (List.mem_append_left _ (List.mem_append_left _ (List.mem_append_left _ h))))))
theorem zm_X7_routeAt_r1 {w : Cond} (h : w ∈ wsX7_routeAt_r1) : w ∈ wsX7_routeAt := (List.mem_cons_of_mem _ (List.mem_append_left _ (List.mem_append_left _ (List.mem_append_left _ (List.mem_append_left _ (List.mem_append_left _ (List.mem_append_left _ h)))))))
theorem zm_X7_route_r1 {w : Cond} (h : w ∈ wsX7_route_r1) : w ∈ wsX7_route := (List.mem_cons_of_mem _ (List.mem_append_left _ (List.mem_append_left _ (List.mem_append_left _ (List.mem_append_left _ (List.mem_append_left _ (List.mem_append_left _ h)))))))
theorem zm_X7_runAheadOnTrial_r1 {w : Cond} (h : w ∈ wsX7_runAheadOnTrial_r1) : w ∈ wsX7_runAheadOnTrial := (List.mem_cons_of_mem _ (List.mem_append_left _ (List.mem_append_left _ (List.mem_append_left _ (List.mem_append_left _ (List.mem_append_left _ h))))))
theorem zm_X7_runAhead_r1 {w : Cond} (h : w ∈ wsX7_runAhead_r1) : w ∈ wsX7_runAhead := (List.mem_cons_of_mem _ (List.mem_append_left _ (List.mem_append_left _ (List.mem_append_left _ (List.mem_append_left _ (List.mem_append_left _ h))))))
theorem zm_X7_settles_r1 {w : Cond} (h : w ∈ wsX7_settles_r1) : w ∈ wsX7_settles := (List.mem_cons_of_mem _ (List.mem_append_left _ (List.mem_append_left _ (List.mem_append_left _ (List.mem_append_left _ h)))))
theorem zm_X7_size_r1 {w : Cond} (h : w ∈ wsX7_size_r1) : w ∈ wsX7_size := (List.mem_cons_of_mem _ (List.mem_append_left _ (List.mem_append_left _ (List.mem_append_left _ (List.mem_append_left _ (List.mem_append_left _ (List.mem_append_left _ (List.mem_append_left _ h))))))))
theorem zm_X7_spoken_r1 {w : Cond} (h : w ∈ wsX7_spoken_r1) : w ∈ wsX7_spoken := (List.mem_cons_of_mem _ (List.mem_append_left _ (List.mem_append_left _ (List.mem_append_left _ (List.mem_append_left _ (List.mem_append_left _ h))))))
theorem zm_X7_stairs_r1 {w : Cond} (h : w ∈ wsX7_stairs_r1) : w ∈ wsX7_stairs := (List.mem_cons_of_mem _ (List.mem_append_left _ (List.mem_append_left _ (List.mem_append_left _ (List.mem_append_left _ (List.mem_append_left _ h))))))
theorem zm_X7_stand_r1 {w : Cond} (h : w ∈ wsX7_stand_r1) : w ∈ wsX7_stand := (List.mem_cons_of_mem _ (List.mem_append_left _ (List.mem_append_left _ (List.mem_append_left _ (List.mem_append_left _ (List.mem_append_left _ (List.mem_append_left _ h)))))))
theorem zm_X7_turnIn_r1 {w : Cond} (h : w ∈ wsX7_turnIn_r1) : w ∈ wsX7_turnIn := (List.mem_cons_of_mem _ (List.mem_append_left _ (List.mem_append_left _ (List.mem_append_left _ (List.mem_append_left _ h)))))
theorem zm_X7_turnOf_r1 {w : Cond} (h : w ∈ wsX7_turnOf_r1) : w ∈ wsX7_turnOf := (List.mem_cons_of_mem _ (List.mem_append_left _ (List.mem_append_left _ (List.mem_append_left _ (List.mem_append_left _ h)))))
theorem zm_X7_watch_r1 {w : Cond} (h : w ∈ wsX7_watch_r1) : w ∈ wsX7_watch := (List.mem_cons_of_mem _ (List.mem_append_left _ (List.mem_append_left _ (List.mem_append_left _ (List.mem_append_left _ (List.mem_append_left _ h))))))
theorem zm_X7_watcher_r1 {w : Cond} (h : w ∈ wsX7_watcher_r1) : w ∈ wsX7_watcher := (List.mem_cons_of_mem _ (List.mem_append_left _ (List.mem_append_left _ (List.mem_append_left _ (List.mem_append_left _ (List.mem_append_left _ h))))))
theorem zm_X7_windBest_r1 {w : Cond} (h : w ∈ wsX7_windBest_r1) : w ∈ wsX7_windBest := (List.mem_cons_of_mem _ (List.mem_append_left _ (List.mem_append_left _ (List.mem_append_left _ (List.mem_append_left _ (List.mem_append_left _ h))))))
theorem zm_X7_wind_r1 {w : Cond} (h : w ∈ wsX7_wind_r1) : w ∈ wsX7_wind := (List.mem_cons_of_mem _ (List.mem_append_left _ (List.mem_append_left _ (List.mem_append_left _ (List.mem_append_left _ (List.mem_append_left _ h))))))
theorem zm_X8_aliveBy_r1 {w : Cond} (h : w ∈ wsX8_aliveBy_r1) : w ∈ wsX8_aliveBy := (List.mem_cons_of_mem _ (List.mem_append_left _ (List.mem_append_left _ h)))
theorem zm_X8_allIn_r1 {w : Cond} (h : w ∈ wsX8_allIn_r1) : w ∈ wsX8_allIn := (List.mem_cons_of_mem _ (List.mem_append_left _ (List.mem_append_left _ h)))
theorem zm_X8_begins_r1 {w : Cond} (h : w ∈ wsX8_begins_r1) : w ∈ wsX8_begins := (List.mem_cons_of_mem _ (List.mem_append_left _ (List.mem_append_left _ h)))
theorem zm_X8_called_r1 {w : Cond} (h : w ∈ wsX8_called_r1) : w ∈ wsX8_called := (List.mem_cons_of_mem _ (List.mem_append_left _ (List.mem_append_left _ h)))
theorem zm_X8_catches_r1 {w : Cond} (h : w ∈ wsX8_catches_r1) : w ∈ wsX8_catches := (List.mem_cons_of_mem _ (List.mem_append_left _ (List.mem_append_left _ h)))
theorem zm_X8_could_r1 {w : Cond} (h : w ∈ wsX8_could_r1) : w ∈ wsX8_could := (List.mem_cons_of_mem _ (List.mem_append_left _ (List.mem_append_left _ h)))
theorem zm_X8_crowd_r1 {w : Cond} (h : w ∈ wsX8_crowd_r1) : w ∈ wsX8_crowd := (List.mem_cons_of_mem _ (List.mem_append_left _ (List.mem_append_left _ h)))
theorem zm_X8_drawWhy_r1 {w : Cond} (h : w ∈ wsX8_drawWhy_r1) : w ∈ wsX8_drawWhy := (List.mem_cons_of_mem _ (List.mem_append_left _ (List.mem_append_left _ h)))
theorem zm_X8_drawn_r1 {w : Cond} (h : w ∈ wsX8_drawn_r1) : w ∈ wsX8_drawn := (List.mem_cons_of_mem _ (List.mem_append_left _ (List.mem_append_left _ h)))
theorem zm_X8_farthest_r1 {w : Cond} (h : w ∈ wsX8_farthest_r1) : w ∈ wsX8_farthest := (List.mem_cons_of_mem _ (List.mem_append_left _ (List.mem_append_left _ h)))
theorem zm_X8_figureLine_r1 {w : Cond} (h : w ∈ wsX8_figureLine_r1) : w ∈ wsX8_figureLine := (List.mem_cons_of_mem _ (List.mem_append_left _ (List.mem_append_left _ h)))
theorem zm_X8_firstShut_r1 {w : Cond} (h : w ∈ wsX8_firstShut_r1) : w ∈ wsX8_firstShut := (List.mem_cons_of_mem _ (List.mem_append_left _ (List.mem_append_left _ h)))
theorem zm_X8_fitAt_r1 {w : Cond} (h : w ∈ wsX8_fitAt_r1) : w ∈ wsX8_fitAt := (List.mem_cons_of_mem _ (List.mem_append_left _ (List.mem_append_left _ h)))
theorem zm_X8_fits_r1 {w : Cond} (h : w ∈ wsX8_fits_r1) : w ∈ wsX8_fits := (List.mem_cons_of_mem _ (List.mem_append_left _ (List.mem_append_left _ h)))
theorem zm_X8_galleryLine_r1 {w : Cond} (h : w ∈ wsX8_galleryLine_r1) : w ∈ wsX8_galleryLine := (List.mem_cons_of_mem _ (List.mem_append_left _ (List.mem_append_left _ h)))
theorem zm_X8_gallery_r1 {w : Cond} (h : w ∈ wsX8_gallery_r1) : w ∈ wsX8_gallery := (List.mem_cons_of_mem _ (List.mem_append_left _ (List.mem_append_left _ h)))
theorem zm_X8_go_r1 {w : Cond} (h : w ∈ wsX8_go_r1) : w ∈ wsX8_go := (List.mem_cons_of_mem _ (List.mem_append_left _ (List.mem_append_left _ h)))
theorem zm_X8_gone_r1 {w : Cond} (h : w ∈ wsX8_gone_r1) : w ∈ wsX8_gone := (List.mem_cons_of_mem _ (List.mem_append_left _ (List.mem_append_left _ h)))
theorem zm_X8_guard_r1 {w : Cond} (h : w ∈ wsX8_guard_r1) : w ∈ wsX8_guard := (List.mem_cons_of_mem _ (List.mem_append_left _ (List.mem_append_left _ h)))
theorem zm_X8_heard_r1 {w : Cond} (h : w ∈ wsX8_heard_r1) : w ∈ wsX8_heard := (List.mem_cons_of_mem _ (List.mem_append_left _ (List.mem_append_left _ h)))
theorem zm_X8_isWord_r1 {w : Cond} (h : w ∈ wsX8_isWord_r1) : w ∈ wsX8_isWord := (List.mem_cons_of_mem _ (List.mem_append_left _ (List.mem_append_left _ h)))
theorem zm_X8_lawLine_r1 {w : Cond} (h : w ∈ wsX8_lawLine_r1) : w ∈ wsX8_lawLine := (List.mem_cons_of_mem _ (List.mem_append_left _ (List.mem_append_left _ h)))
theorem zm_X8_lawsLike_r1 {w : Cond} (h : w ∈ wsX8_lawsLike_r1) : w ∈ wsX8_lawsLike := (List.mem_cons_of_mem _ (List.mem_append_left _ (List.mem_append_left _ h)))
theorem zm_X8_layRoute_r1 {w : Cond} (h : w ∈ wsX8_layRoute_r1) : w ∈ wsX8_layRoute := (List.mem_cons_of_mem _ (List.mem_append_left _ (List.mem_append_left _ h)))
theorem zm_X8_lookLeaves_r1 {w : Cond} (h : w ∈ wsX8_lookLeaves_r1) : w ∈ wsX8_lookLeaves := (List.mem_cons_of_mem _ (List.mem_append_left _ (List.mem_append_left _ h)))
theorem zm_X8_lookOf_r1 {w : Cond} (h : w ∈ wsX8_lookOf_r1) : w ∈ wsX8_lookOf := (List.mem_cons_of_mem _ (List.mem_append_left _ (List.mem_append_left _ h)))
theorem zm_X8_look_r1 {w : Cond} (h : w ∈ wsX8_look_r1) : w ∈ wsX8_look := (List.mem_cons_of_mem _ (List.mem_append_left _ (List.mem_append_left _ h)))
theorem zm_X8_mean_r1 {w : Cond} (h : w ∈ wsX8_mean_r1) : w ∈ wsX8_mean := (List.mem_cons_of_mem _ (List.mem_append_left _ (List.mem_append_left _ h)))
theorem zm_X8_meets_r1 {w : Cond} (h : w ∈ wsX8_meets_r1) : w ∈ wsX8_meets := (List.mem_cons_of_mem _ (List.mem_append_left _ (List.mem_append_left _ h)))
theorem zm_X8_minuteOn_r1 {w : Cond} (h : w ∈ wsX8_minuteOn_r1) : w ∈ wsX8_minuteOn := (List.mem_cons_of_mem _ (List.mem_append_left _ (List.mem_append_left _ h)))
theorem zm_X8_minutesOf_r1 {w : Cond} (h : w ∈ wsX8_minutesOf_r1) : w ∈ wsX8_minutesOf := (List.mem_cons_of_mem _ (List.mem_append_left _ (List.mem_append_left _ h)))
theorem zm_X8_minutesOn_r1 {w : Cond} (h : w ∈ wsX8_minutesOn_r1) : w ∈ wsX8_minutesOn := (List.mem_cons_of_mem _ (List.mem_append_left _ (List.mem_append_left _ h)))
theorem zm_X8_must_r1 {w : Cond} (h : w ∈ wsX8_must_r1) : w ∈ wsX8_must := (List.mem_cons_of_mem _ (List.mem_append_left _ (List.mem_append_left _ h)))
theorem zm_X8_nearBy_r1 {w : Cond} (h : w ∈ wsX8_nearBy_r1) : w ∈ wsX8_nearBy := (List.mem_cons_of_mem _ (List.mem_append_left _ (List.mem_append_left _ h)))
theorem zm_X8_newName_r1 {w : Cond} (h : w ∈ wsX8_newName_r1) : w ∈ wsX8_newName := (List.mem_cons_of_mem _ (List.mem_append_left _ (List.mem_append_left _ h)))
theorem zm_X8_nextGone_r1 {w : Cond} (h : w ∈ wsX8_nextGone_r1) : w ∈ wsX8_nextGone := (List.mem_cons_of_mem _ (List.mem_append_left _ (List.mem_append_left _ h)))
theorem zm_X8_odds_r1 {w : Cond} (h : w ∈ wsX8_odds_r1) : w ∈ wsX8_odds := (List.mem_cons_of_mem _ (List.mem_append_left _ (List.mem_append_left _ h)))
theorem zm_X8_patrol_r1 {w : Cond} (h : w ∈ wsX8_patrol_r1) : w ∈ wsX8_patrol := (List.mem_cons_of_mem _ (List.mem_append_left _ (List.mem_append_left _ h)))
theorem zm_X8_place_r1 {w : Cond} (h : w ∈ wsX8_place_r1) : w ∈ wsX8_place := (List.mem_cons_of_mem _ (List.mem_append_left _ (List.mem_append_left _ h)))
theorem zm_X8_put_r1 {w : Cond} (h : w ∈ wsX8_put_r1) : w ∈ wsX8_put := (List.mem_cons_of_mem _ (List.mem_append_left _ (List.mem_append_left _ h)))
theorem zm_X8_readLine_r1 {w : Cond} (h : w ∈ wsX8_readLine_r1) : w ∈ wsX8_readLine := (List.mem_cons_of_mem _ (List.mem_append_left _ (List.mem_append_left _ h)))
theorem zm_X8_rest_r1 {w : Cond} (h : w ∈ wsX8_rest_r1) : w ∈ wsX8_rest := (List.mem_cons_of_mem _ (List.mem_append_left _ (List.mem_append_left _ h)))
theorem zm_X8_rests_r1 {w : Cond} (h : w ∈ wsX8_rests_r1) : w ∈ wsX8_rests := (List.mem_cons_of_mem _ (List.mem_append_left _ (List.mem_append_left _ h)))
theorem zm_X8_round_r1 {w : Cond} (h : w ∈ wsX8_round_r1) : w ∈ wsX8_round := (List.mem_cons_of_mem _ (List.mem_append_left _ (List.mem_append_left _ h)))
theorem zm_X8_route_r1 {w : Cond} (h : w ∈ wsX8_route_r1) : w ∈ wsX8_route := (List.mem_cons_of_mem _ (List.mem_append_left _ (List.mem_append_left _ h)))
theorem zm_X8_seenLine_r1 {w : Cond} (h : w ∈ wsX8_seenLine_r1) : w ∈ wsX8_seenLine := (List.mem_cons_of_mem _ (List.mem_append_left _ (List.mem_append_left _ h)))
theorem zm_X8_settles_r1 {w : Cond} (h : w ∈ wsX8_settles_r1) : w ∈ wsX8_settles := (List.mem_cons_of_mem _ (List.mem_append_left _ (List.mem_append_left _ h)))
theorem zm_X8_spoken_r1 {w : Cond} (h : w ∈ wsX8_spoken_r1) : w ∈ wsX8_spoken := (List.mem_cons_of_mem _ (List.mem_append_left _ (List.mem_append_left _ h)))
theorem zm_X8_stairs_r1 {w : Cond} (h : w ∈ wsX8_stairs_r1) : w ∈ wsX8_stairs := (List.mem_cons_of_mem _ (List.mem_append_left _ (List.mem_append_left _ h)))
theorem zm_X8_stand_r1 {w : Cond} (h : w ∈ wsX8_stand_r1) : w ∈ wsX8_stand := (List.mem_cons_of_mem _ (List.mem_append_left _ (List.mem_append_left _ h)))
theorem zm_X8_turnIn_r1 {w : Cond} (h : w ∈ wsX8_turnIn_r1) : w ∈ wsX8_turnIn := (List.mem_cons_of_mem _ (List.mem_append_left _ (List.mem_append_left _ h)))
theorem zm_X8_turnOf_r1 {w : Cond} (h : w ∈ wsX8_turnOf_r1) : w ∈ wsX8_turnOf := (List.mem_cons_of_mem _ (List.mem_append_left _ (List.mem_append_left _ h)))
theorem zm_X8_watch_r1 {w : Cond} (h : w ∈ wsX8_watch_r1) : w ∈ wsX8_watch := (List.mem_cons_of_mem _ (List.mem_append_left _ (List.mem_append_left _ h)))
theorem zm_X8_watcherLine_r1 {w : Cond} (h : w ∈ wsX8_watcherLine_r1) : w ∈ wsX8_watcherLine := (List.mem_cons_of_mem _ (List.mem_append_left _ (List.mem_append_left _ h)))
theorem zm_X8_watcher_r1 {w : Cond} (h : w ∈ wsX8_watcher_r1) : w ∈ wsX8_watcher := (List.mem_cons_of_mem _ (List.mem_append_left _ (List.mem_append_left _ h)))
theorem zm_X8_windBest_r1 {w : Cond} (h : w ∈ wsX8_windBest_r1) : w ∈ wsX8_windBest := (List.mem_cons_of_mem _ (List.mem_append_left _ (List.mem_append_left _ h)))
theorem zm_X8_wind_r1 {w : Cond} (h : w ∈ wsX8_wind_r1) : w ∈ wsX8_wind := (List.mem_cons_of_mem _ (List.mem_append_left _ (List.mem_append_left _ h)))
end P08_zc
section P081_zp
section ZP
theorem zp_at {α : Type} {us ws : List α} {j : Nat} : (us ++ ws)[us.length + j]? = ws[j]? := by rw [List.getElem?_append_right (Nat.le_add_right _ _), Nat.add_sub_cancel_left]
theorem zp_in {α : Type} {vs ws : List α} {k : Nat} {q : α} (h : (vs ++ ws)[k]? = some q) : (k < vs.length ∧ vs[k]? = some q) ∨ (vs.length ≤ k ∧ ws[k - vs.length]? = some q) := by
  rcases Nat.lt_or_ge k vs.length with g | g
  · exact Or.inl ⟨g, by rwa [List.getElem?_append_left g] at h⟩
  · exact Or.inr ⟨g, by rwa [List.getElem?_append_right g] at h⟩
theorem zp_key {us ws : va_W} {k : Nat} {q : Nat × va_E} (h : us[k]? = some q) : (us ++ ws)[k]? = some q := by
  obtain ⟨g, -⟩ := List.getElem?_eq_some_iff.mp h
  rw [List.getElem?_append_left g]; exact h
/-- a callee's world stands first in the caller's: its cells, apart, free -/
theorem zp_P {D : va_G} {cl : List vw_C} {us ws : va_W} {H : Heap} (hP : va_P D cl (us ++ ws) H) : va_P D cl us H := fun k q hk => hP k q (zp_key hk)
theorem zp_D {A0 : Nat → Prop} {us ws : va_W} (hD : va_D A0 (us ++ ws)) : va_D A0 us := ⟨fun i j p q h1 h2 => hD.1 i j p q (zp_key h1) (zp_key h2), fun k q hk => hD.2 k q (zp_key hk)⟩
theorem zp_F {A0 : Nat → Prop} {us ws : va_W} {H0 H : Heap} {locs : List Loc} (hD : va_D A0 (us ++ ws)) (hS : va_S A0 H0 H locs) (hA : ∀ q, H0.size ≤ q → A0 q) : ∀ q, va_A us H.size q → A0 q := by
  intro q h
  rcases h with ⟨k, e, h⟩ | h
  · exact hD.2 k (q, e) (zp_key h)
  · exact hA q (Nat.le_trans hS.1 h)
/-- behind the call: the callee's cells as it leaves them, the others as they were -/
theorem zp_back {A0 : Nat → Prop} {D : va_G} {cl : List vw_C} {us vs ws : va_W} {H H1 h1 : Heap} (hP : va_P D cl (us ++ ws) H) (hD : va_D A0 (us ++ ws)) (hk : ∀ q : Nat, q < H.size → ¬ va_A us H.size q → H1[q]? = H[q]?) (hF : ∀ q, va_A us H.size q → A0 q) (ht : h1 = H1) (hP1 : va_P D cl vs h1) (hD1 : va_D (va_A us H.size) vs) : va_P D cl (vs ++ ws) H1 ∧ va_D A0 (vs ++ ws) := by
  subst ht
  have apart : ∀ (j : Nat) (q : Nat × va_E), ws[j]? = some q → q.1 < H.size ∧ ¬ va_A us H.size q.1 := by
    intro j q h2
    have h3 : (us ++ ws)[us.length + j]? = some q := zp_at.trans h2
    have hl := (hP _ q h3).lt
    refine ⟨hl, fun h => ?_⟩
    rcases h with ⟨k2, e, h⟩ | h
    · obtain ⟨g, -⟩ := List.getElem?_eq_some_iff.mp h
      have h4 : (us ++ ws)[k2]? = some (q.1, e) := zp_key h
      have h5 := hD.1 _ _ q (q.1, e) h3 h4 rfl
      omega
    · omega
  refine ⟨fun k q hq => ?_, fun a b x y ha hb hxy => ?_, fun k q hq => ?_⟩
  · rcases zp_in hq with ⟨-, h⟩ | ⟨-, h⟩
    · exact hP1 k q h
    · obtain ⟨g1, g2⟩ := apart _ q h
      exact (hP _ q (zp_at.trans h)).kept (hk q.1 g1 g2)
  · rcases zp_in ha with ⟨ga, h1⟩ | ⟨ga, h1⟩ <;> rcases zp_in hb with ⟨gb, h2⟩ | ⟨gb, h2⟩
    · exact hD1.1 a b x y h1 h2 hxy
    · exact absurd (hD1.2 a x h1) (by rw [hxy]; exact (apart _ y h2).2)
    · exact absurd (hD1.2 b y h2) (by rw [← hxy]; exact (apart _ x h1).2)
    · have h5 := hD.1 _ _ x y (zp_at.trans h1) (zp_at.trans h2) hxy
      omega
  · rcases zp_in hq with ⟨-, h⟩ | ⟨-, h⟩
    · exact hF q.1 (hD1.2 k q h)
    · exact hD.2 _ q (zp_at.trans h)
theorem zp_K {D : va_G} {cl : List vw_C} {tys : List (ClassId × FieldType)} {U : State} (h : va_K D cl tys U) : va_K D cl [] U := h.sub (tys' := []) [] rfl
theorem zc_cutc {A0 : Nat → Prop} {D : va_G} {cl : List vw_C} {ws wc : va_W} {H0 H : Heap} {locs : List Loc} {P : Prop} (hP : va_P D cl ws H) (hD : va_D A0 ws) (hS : va_S A0 H0 H locs) (hA : ∀ q, H0.size ≤ q → A0 q) (is : List Nat) (hn : va_nd is = true) (hC : is.map (fun i => ws[i]?) = wc.map some) (kk : va_P D cl wc H → va_D A0 wc → (∀ q, va_A wc H.size q → A0 q) → is.map (fun i => ws[i]?) = wc.map some → P) : P := by
  obtain ⟨a, b, c, d⟩ := zc_cut hP hD hS hA is hn hC
  exact kk a b c d
theorem zc_backc {A0 : Nat → Prop} {D : va_G} {cl : List vw_C} {ws wc w1 w : va_W} {H H1 : Heap} {isC : List Nat} {P : Prop} (hP : va_P D cl ws H) (hD : va_D A0 ws) (hC : isC.map (fun i => ws[i]?) = wc.map some) (hk : ∀ q : Nat, q < H.size → ¬ va_A wc H.size q → H1[q]? = H[q]?) (hF : ∀ q, va_A wc H.size q → A0 q) (hP1 : va_P D cl w1 H1) (hD1 : va_D (va_A wc H.size) w1) (sel : List (Sum Nat Nat)) (ho : zc_ok isC sel = true) (hw : sel.map (zc_f ws w1) = w.map some) (kk : va_P D cl w H1 → va_D A0 w → P) : P := by
  obtain ⟨a, b⟩ := zc_back hP hD hC hk hF hP1 hD1 sel ho hw
  exact kk a b
theorem zc_rec {A0 : Nat → Prop} {D : va_G} {cl : List vw_C} {ws w : va_W} {H : Heap} {P : Prop} (hP : va_P D cl ws H) (hD : va_D A0 ws) (h : ws = w) (kk : va_P D cl w H → va_D A0 w → P) : P := by
  subst h; exact kk hP hD
/-- behind a constructor's call: the new object stood last, what the callee leaves stands in its place -/
theorem zq_back {A0 : Nat → Prop} {D : va_G} {cl : List vw_C} {ws w1 w : va_W} {x : Nat × va_E} {H H1 : Heap} {P : Prop} (hP : va_P D cl ws H) (hD : va_D A0 ws) (hk : ∀ q : Nat, q < H.size → ¬ va_A [x] H.size q → H1[q]? = H[q]?) (hF : ∀ q, va_A [x] H.size q → A0 q) (hP1 : va_P D cl w1 H1) (hD1 : va_D (va_A [x] H.size) w1) (h0 : ws = ws.dropLast ++ [x]) (hw : ws.dropLast ++ w1 = w) (kk : va_P D cl w H1 → va_D A0 w → P) : P := by
  subst hw
  generalize ws.dropLast = u at h0 kk
  subst h0
  obtain ⟨a, b⟩ := zp_back (us := [x]) (vs := w1) (ws := u) (va_P.swap (a := []) (b := u) (c := [x]) hP) (va_D.swap (a := []) (b := u) (c := [x]) hD) hk hF rfl hP1 hD1
  exact kk (va_P.swap (a := []) (b := w1) (c := u) a) (va_D.swap (a := []) (b := w1) (c := u) b)
theorem zp_P0 {D : va_G} {cl : List vw_C} {ws : va_W} {H : Heap} (hP : va_P D cl (ws) H) : va_P D cl [] H := zp_P (us := []) (ws := ws) hP
theorem zp_D0 {A0 : Nat → Prop} {ws : va_W} (hD : va_D A0 (ws)) : va_D A0 [] := zp_D (us := []) (ws := ws) hD
theorem zp_F0 {A0 : Nat → Prop} {ws : va_W} {H0 H : Heap} {locs : List Loc} (hD : va_D A0 (ws)) (hS : va_S A0 H0 H locs) (hA : ∀ q, H0.size ≤ q → A0 q) : ∀ q, va_A [] H.size q → A0 q := zp_F (us := []) (ws := ws) hD hS hA
theorem zo0 {dC : Nat → ClassId} {dI : Nat → Nat → Nat} {A0 : Nat → Prop} {ws : va_W} {H0 H H1 : Heap} {locs : List Loc} {t : State} {T : List (ClassId × FieldType)} {P : Prop} (hB : ax_B dC dI (va_A [] H.size) [] T t) (ht : t.heap = H1) (hP : va_P (dC, dI) vwCl (ws) H) (hD : va_D A0 (ws)) (hk : ∀ q : Nat, q < H.size → ¬ va_A [] H.size q → H1[q]? = H[q]?) (hF : ∀ q, va_A [] H.size q → A0 q) (hS : va_S A0 H0 H1 locs) (kk : va_P (dC, dI) vwCl (ws) H1 → va_K (dC, dI) vwCl T t → va_D A0 (ws) → va_S A0 H0 H1 locs → P) : P := by
  obtain ⟨b1, b2⟩ := zp_back (us := []) (vs := []) (ws := ws) hP hD hk hF ht hB.1 hB.2.2
  exact kk b1 hB.2.1 b2 hS
theorem zp_P1 {D : va_G} {cl : List vw_C} {x0 : Nat × va_E} {ws : va_W} {H : Heap} (hP : va_P D cl (x0 :: ws) H) : va_P D cl [x0] H := zp_P (us := [x0]) (ws := ws) hP
theorem zp_D1 {A0 : Nat → Prop} {x0 : Nat × va_E} {ws : va_W} (hD : va_D A0 (x0 :: ws)) : va_D A0 [x0] := zp_D (us := [x0]) (ws := ws) hD
theorem zp_F1 {A0 : Nat → Prop} {x0 : Nat × va_E} {ws : va_W} {H0 H : Heap} {locs : List Loc} (hD : va_D A0 (x0 :: ws)) (hS : va_S A0 H0 H locs) (hA : ∀ q, H0.size ≤ q → A0 q) : ∀ q, va_A [x0] H.size q → A0 q := zp_F (us := [x0]) (ws := ws) hD hS hA
theorem zo1 {dC : Nat → ClassId} {dI : Nat → Nat → Nat} {A0 : Nat → Prop} {x0 : Nat × va_E} {w0 : Nat × va_E} {ws : va_W} {H0 H H1 : Heap} {locs : List Loc} {t : State} {T : List (ClassId × FieldType)} {P : Prop} (hB : ax_B dC dI (va_A [x0] H.size) [w0] T t) (ht : t.heap = H1) (hP : va_P (dC, dI) vwCl (x0 :: ws) H) (hD : va_D A0 (x0 :: ws)) (hk : ∀ q : Nat, q < H.size → ¬ va_A [x0] H.size q → H1[q]? = H[q]?) (hF : ∀ q, va_A [x0] H.size q → A0 q) (hS : va_S A0 H0 H1 locs) (kk : va_P (dC, dI) vwCl (w0 :: ws) H1 → va_K (dC, dI) vwCl T t → va_D A0 (w0 :: ws) → va_S A0 H0 H1 locs → P) : P := by
  obtain ⟨b1, b2⟩ := zp_back (us := [x0]) (vs := [w0]) (ws := ws) hP hD hk hF ht hB.1 hB.2.2
  exact kk b1 hB.2.1 b2 hS
theorem zp_P2 {D : va_G} {cl : List vw_C} {x0 x1 : Nat × va_E} {ws : va_W} {H : Heap} (hP : va_P D cl (x0 :: x1 :: ws) H) : va_P D cl [x0, x1] H := zp_P (us := [x0, x1]) (ws := ws) hP
theorem zp_D2 {A0 : Nat → Prop} {x0 x1 : Nat × va_E} {ws : va_W} (hD : va_D A0 (x0 :: x1 :: ws)) : va_D A0 [x0, x1] := zp_D (us := [x0, x1]) (ws := ws) hD
theorem zp_F2 {A0 : Nat → Prop} {x0 x1 : Nat × va_E} {ws : va_W} {H0 H : Heap} {locs : List Loc} (hD : va_D A0 (x0 :: x1 :: ws)) (hS : va_S A0 H0 H locs) (hA : ∀ q, H0.size ≤ q → A0 q) : ∀ q, va_A [x0, x1] H.size q → A0 q := zp_F (us := [x0, x1]) (ws := ws) hD hS hA
theorem zo2 {dC : Nat → ClassId} {dI : Nat → Nat → Nat} {A0 : Nat → Prop} {x0 x1 : Nat × va_E} {w0 w1 : Nat × va_E} {ws : va_W} {H0 H H1 : Heap} {locs : List Loc} {t : State} {T : List (ClassId × FieldType)} {P : Prop} (hB : ax_B dC dI (va_A [x0, x1] H.size) [w0, w1] T t) (ht : t.heap = H1) (hP : va_P (dC, dI) vwCl (x0 :: x1 :: ws) H) (hD : va_D A0 (x0 :: x1 :: ws)) (hk : ∀ q : Nat, q < H.size → ¬ va_A [x0, x1] H.size q → H1[q]? = H[q]?) (hF : ∀ q, va_A [x0, x1] H.size q → A0 q) (hS : va_S A0 H0 H1 locs) (kk : va_P (dC, dI) vwCl (w0 :: w1 :: ws) H1 → va_K (dC, dI) vwCl T t → va_D A0 (w0 :: w1 :: ws) → va_S A0 H0 H1 locs → P) : P := by
  obtain ⟨b1, b2⟩ := zp_back (us := [x0, x1]) (vs := [w0, w1]) (ws := ws) hP hD hk hF ht hB.1 hB.2.2
  exact kk b1 hB.2.1 b2 hS
theorem zp_P3 {D : va_G} {cl : List vw_C} {x0 x1 x2 : Nat × va_E} {ws : va_W} {H : Heap} (hP : va_P D cl (x0 :: x1 :: x2 :: ws) H) : va_P D cl [x0, x1, x2] H := zp_P (us := [x0, x1, x2]) (ws := ws) hP
theorem zp_D3 {A0 : Nat → Prop} {x0 x1 x2 : Nat × va_E} {ws : va_W} (hD : va_D A0 (x0 :: x1 :: x2 :: ws)) : va_D A0 [x0, x1, x2] := zp_D (us := [x0, x1, x2]) (ws := ws) hD
theorem zp_F3 {A0 : Nat → Prop} {x0 x1 x2 : Nat × va_E} {ws : va_W} {H0 H : Heap} {locs : List Loc} (hD : va_D A0 (x0 :: x1 :: x2 :: ws)) (hS : va_S A0 H0 H locs) (hA : ∀ q, H0.size ≤ q → A0 q) : ∀ q, va_A [x0, x1, x2] H.size q → A0 q := zp_F (us := [x0, x1, x2]) (ws := ws) hD hS hA
theorem zo3 {dC : Nat → ClassId} {dI : Nat → Nat → Nat} {A0 : Nat → Prop} {x0 x1 x2 : Nat × va_E} {w0 w1 w2 : Nat × va_E} {ws : va_W} {H0 H H1 : Heap} {locs : List Loc} {t : State} {T : List (ClassId × FieldType)} {P : Prop} (hB : ax_B dC dI (va_A [x0, x1, x2] H.size) [w0, w1, w2] T t) (ht : t.heap = H1) (hP : va_P (dC, dI) vwCl (x0 :: x1 :: x2 :: ws) H) (hD : va_D A0 (x0 :: x1 :: x2 :: ws)) (hk : ∀ q : Nat, q < H.size → ¬ va_A [x0, x1, x2] H.size q → H1[q]? = H[q]?) (hF : ∀ q, va_A [x0, x1, x2] H.size q → A0 q) (hS : va_S A0 H0 H1 locs) (kk : va_P (dC, dI) vwCl (w0 :: w1 :: w2 :: ws) H1 → va_K (dC, dI) vwCl T t → va_D A0 (w0 :: w1 :: w2 :: ws) → va_S A0 H0 H1 locs → P) : P := by
  obtain ⟨b1, b2⟩ := zp_back (us := [x0, x1, x2]) (vs := [w0, w1, w2]) (ws := ws) hP hD hk hF ht hB.1 hB.2.2
  exact kk b1 hB.2.1 b2 hS
theorem zp_P4 {D : va_G} {cl : List vw_C} {x0 x1 x2 x3 : Nat × va_E} {ws : va_W} {H : Heap} (hP : va_P D cl (x0 :: x1 :: x2 :: x3 :: ws) H) : va_P D cl [x0, x1, x2, x3] H := zp_P (us := [x0, x1, x2, x3]) (ws := ws) hP
theorem zp_D4 {A0 : Nat → Prop} {x0 x1 x2 x3 : Nat × va_E} {ws : va_W} (hD : va_D A0 (x0 :: x1 :: x2 :: x3 :: ws)) : va_D A0 [x0, x1, x2, x3] := zp_D (us := [x0, x1, x2, x3]) (ws := ws) hD
theorem zp_F4 {A0 : Nat → Prop} {x0 x1 x2 x3 : Nat × va_E} {ws : va_W} {H0 H : Heap} {locs : List Loc} (hD : va_D A0 (x0 :: x1 :: x2 :: x3 :: ws)) (hS : va_S A0 H0 H locs) (hA : ∀ q, H0.size ≤ q → A0 q) : ∀ q, va_A [x0, x1, x2, x3] H.size q → A0 q := zp_F (us := [x0, x1, x2, x3]) (ws := ws) hD hS hA
theorem zo4 {dC : Nat → ClassId} {dI : Nat → Nat → Nat} {A0 : Nat → Prop} {x0 x1 x2 x3 : Nat × va_E} {w0 w1 w2 w3 : Nat × va_E} {ws : va_W} {H0 H H1 : Heap} {locs : List Loc} {t : State} {T : List (ClassId × FieldType)} {P : Prop} (hB : ax_B dC dI (va_A [x0, x1, x2, x3] H.size) [w0, w1, w2, w3] T t) (ht : t.heap = H1) (hP : va_P (dC, dI) vwCl (x0 :: x1 :: x2 :: x3 :: ws) H) (hD : va_D A0 (x0 :: x1 :: x2 :: x3 :: ws)) (hk : ∀ q : Nat, q < H.size → ¬ va_A [x0, x1, x2, x3] H.size q → H1[q]? = H[q]?) (hF : ∀ q, va_A [x0, x1, x2, x3] H.size q → A0 q) (hS : va_S A0 H0 H1 locs) (kk : va_P (dC, dI) vwCl (w0 :: w1 :: w2 :: w3 :: ws) H1 → va_K (dC, dI) vwCl T t → va_D A0 (w0 :: w1 :: w2 :: w3 :: ws) → va_S A0 H0 H1 locs → P) : P := by
  obtain ⟨b1, b2⟩ := zp_back (us := [x0, x1, x2, x3]) (vs := [w0, w1, w2, w3]) (ws := ws) hP hD hk hF ht hB.1 hB.2.2
  exact kk b1 hB.2.1 b2 hS
theorem zp_P5 {D : va_G} {cl : List vw_C} {x0 x1 x2 x3 x4 : Nat × va_E} {ws : va_W} {H : Heap} (hP : va_P D cl (x0 :: x1 :: x2 :: x3 :: x4 :: ws) H) : va_P D cl [x0, x1, x2, x3, x4] H := zp_P (us := [x0, x1, x2, x3, x4]) (ws := ws) hP
theorem zp_D5 {A0 : Nat → Prop} {x0 x1 x2 x3 x4 : Nat × va_E} {ws : va_W} (hD : va_D A0 (x0 :: x1 :: x2 :: x3 :: x4 :: ws)) : va_D A0 [x0, x1, x2, x3, x4] := zp_D (us := [x0, x1, x2, x3, x4]) (ws := ws) hD
theorem zp_F5 {A0 : Nat → Prop} {x0 x1 x2 x3 x4 : Nat × va_E} {ws : va_W} {H0 H : Heap} {locs : List Loc} (hD : va_D A0 (x0 :: x1 :: x2 :: x3 :: x4 :: ws)) (hS : va_S A0 H0 H locs) (hA : ∀ q, H0.size ≤ q → A0 q) : ∀ q, va_A [x0, x1, x2, x3, x4] H.size q → A0 q := zp_F (us := [x0, x1, x2, x3, x4]) (ws := ws) hD hS hA
theorem zo5 {dC : Nat → ClassId} {dI : Nat → Nat → Nat} {A0 : Nat → Prop} {x0 x1 x2 x3 x4 : Nat × va_E} {w0 w1 w2 w3 w4 : Nat × va_E} {ws : va_W} {H0 H H1 : Heap} {locs : List Loc} {t : State} {T : List (ClassId × FieldType)} {P : Prop} (hB : ax_B dC dI (va_A [x0, x1, x2, x3, x4] H.size) [w0, w1, w2, w3, w4] T t) (ht : t.heap = H1) (hP : va_P (dC, dI) vwCl (x0 :: x1 :: x2 :: x3 :: x4 :: ws) H) (hD : va_D A0 (x0 :: x1 :: x2 :: x3 :: x4 :: ws)) (hk : ∀ q : Nat, q < H.size → ¬ va_A [x0, x1, x2, x3, x4] H.size q → H1[q]? = H[q]?) (hF : ∀ q, va_A [x0, x1, x2, x3, x4] H.size q → A0 q) (hS : va_S A0 H0 H1 locs) (kk : va_P (dC, dI) vwCl (w0 :: w1 :: w2 :: w3 :: w4 :: ws) H1 → va_K (dC, dI) vwCl T t → va_D A0 (w0 :: w1 :: w2 :: w3 :: w4 :: ws) → va_S A0 H0 H1 locs → P) : P := by
  obtain ⟨b1, b2⟩ := zp_back (us := [x0, x1, x2, x3, x4]) (vs := [w0, w1, w2, w3, w4]) (ws := ws) hP hD hk hF ht hB.1 hB.2.2
  exact kk b1 hB.2.1 b2 hS
theorem zp_P6 {D : va_G} {cl : List vw_C} {x0 x1 x2 x3 x4 x5 : Nat × va_E} {ws : va_W} {H : Heap} (hP : va_P D cl (x0 :: x1 :: x2 :: x3 :: x4 :: x5 :: ws) H) : va_P D cl [x0, x1, x2, x3, x4, x5] H := zp_P (us := [x0, x1, x2, x3, x4, x5]) (ws := ws) hP
theorem zp_D6 {A0 : Nat → Prop} {x0 x1 x2 x3 x4 x5 : Nat × va_E} {ws : va_W} (hD : va_D A0 (x0 :: x1 :: x2 :: x3 :: x4 :: x5 :: ws)) : va_D A0 [x0, x1, x2, x3, x4, x5] := zp_D (us := [x0, x1, x2, x3, x4, x5]) (ws := ws) hD
theorem zp_F6 {A0 : Nat → Prop} {x0 x1 x2 x3 x4 x5 : Nat × va_E} {ws : va_W} {H0 H : Heap} {locs : List Loc} (hD : va_D A0 (x0 :: x1 :: x2 :: x3 :: x4 :: x5 :: ws)) (hS : va_S A0 H0 H locs) (hA : ∀ q, H0.size ≤ q → A0 q) : ∀ q, va_A [x0, x1, x2, x3, x4, x5] H.size q → A0 q := zp_F (us := [x0, x1, x2, x3, x4, x5]) (ws := ws) hD hS hA
theorem zo6 {dC : Nat → ClassId} {dI : Nat → Nat → Nat} {A0 : Nat → Prop} {x0 x1 x2 x3 x4 x5 : Nat × va_E} {w0 w1 w2 w3 w4 w5 : Nat × va_E} {ws : va_W} {H0 H H1 : Heap} {locs : List Loc} {t : State} {T : List (ClassId × FieldType)} {P : Prop} (hB : ax_B dC dI (va_A [x0, x1, x2, x3, x4, x5] H.size) [w0, w1, w2, w3, w4, w5] T t) (ht : t.heap = H1) (hP : va_P (dC, dI) vwCl (x0 :: x1 :: x2 :: x3 :: x4 :: x5 :: ws) H) (hD : va_D A0 (x0 :: x1 :: x2 :: x3 :: x4 :: x5 :: ws)) (hk : ∀ q : Nat, q < H.size → ¬ va_A [x0, x1, x2, x3, x4, x5] H.size q → H1[q]? = H[q]?) (hF : ∀ q, va_A [x0, x1, x2, x3, x4, x5] H.size q → A0 q) (hS : va_S A0 H0 H1 locs) (kk : va_P (dC, dI) vwCl (w0 :: w1 :: w2 :: w3 :: w4 :: w5 :: ws) H1 → va_K (dC, dI) vwCl T t → va_D A0 (w0 :: w1 :: w2 :: w3 :: w4 :: w5 :: ws) → va_S A0 H0 H1 locs → P) : P := by
  obtain ⟨b1, b2⟩ := zp_back (us := [x0, x1, x2, x3, x4, x5]) (vs := [w0, w1, w2, w3, w4, w5]) (ws := ws) hP hD hk hF ht hB.1 hB.2.2
  exact kk b1 hB.2.1 b2 hS
theorem zp_P8 {D : va_G} {cl : List vw_C} {x0 x1 x2 x3 x4 x5 x6 x7 : Nat × va_E} {ws : va_W} {H : Heap} (hP : va_P D cl (x0 :: x1 :: x2 :: x3 :: x4 :: x5 :: x6 :: x7 :: ws) H) : va_P D cl [x0, x1, x2, x3, x4, x5, x6, x7] H := zp_P (us := [x0, x1, x2, x3, x4, x5, x6, x7]) (ws := ws) hP
theorem zp_D8 {A0 : Nat → Prop} {x0 x1 x2 x3 x4 x5 x6 x7 : Nat × va_E} {ws : va_W} (hD : va_D A0 (x0 :: x1 :: x2 :: x3 :: x4 :: x5 :: x6 :: x7 :: ws)) : va_D A0 [x0, x1, x2, x3, x4, x5, x6, x7] := zp_D (us := [x0, x1, x2, x3, x4, x5, x6, x7]) (ws := ws) hD
theorem zp_F8 {A0 : Nat → Prop} {x0 x1 x2 x3 x4 x5 x6 x7 : Nat × va_E} {ws : va_W} {H0 H : Heap} {locs : List Loc} (hD : va_D A0 (x0 :: x1 :: x2 :: x3 :: x4 :: x5 :: x6 :: x7 :: ws)) (hS : va_S A0 H0 H locs) (hA : ∀ q, H0.size ≤ q → A0 q) : ∀ q, va_A [x0, x1, x2, x3, x4, x5, x6, x7] H.size q → A0 q := zp_F (us := [x0, x1, x2, x3, x4, x5, x6, x7]) (ws := ws) hD hS hA
theorem zo8 {dC : Nat → ClassId} {dI : Nat → Nat → Nat} {A0 : Nat → Prop} {x0 x1 x2 x3 x4 x5 x6 x7 : Nat × va_E} {w0 w1 w2 w3 w4 w5 w6 w7 : Nat × va_E} {ws : va_W} {H0 H H1 : Heap} {locs : List Loc} {t : State} {T : List (ClassId × FieldType)} {P : Prop} (hB : ax_B dC dI (va_A [x0, x1, x2, x3, x4, x5, x6, x7] H.size) [w0, w1, w2, w3, w4, w5, w6, w7] T t) (ht : t.heap = H1) (hP : va_P (dC, dI) vwCl (x0 :: x1 :: x2 :: x3 :: x4 :: x5 :: x6 :: x7 :: ws) H) (hD : va_D A0 (x0 :: x1 :: x2 :: x3 :: x4 :: x5 :: x6 :: x7 :: ws)) (hk : ∀ q : Nat, q < H.size → ¬ va_A [x0, x1, x2, x3, x4, x5, x6, x7] H.size q → H1[q]? = H[q]?) (hF : ∀ q, va_A [x0, x1, x2, x3, x4, x5, x6, x7] H.size q → A0 q) (hS : va_S A0 H0 H1 locs) (kk : va_P (dC, dI) vwCl (w0 :: w1 :: w2 :: w3 :: w4 :: w5 :: w6 :: w7 :: ws) H1 → va_K (dC, dI) vwCl T t → va_D A0 (w0 :: w1 :: w2 :: w3 :: w4 :: w5 :: w6 :: w7 :: ws) → va_S A0 H0 H1 locs → P) : P := by
  obtain ⟨b1, b2⟩ := zp_back (us := [x0, x1, x2, x3, x4, x5, x6, x7]) (vs := [w0, w1, w2, w3, w4, w5, w6, w7]) (ws := ws) hP hD hk hF ht hB.1 hB.2.2
  exact kk b1 hB.2.1 b2 hS
theorem zo {dC : Nat → ClassId} {dI : Nat → Nat → Nat} {A : Nat → Prop} {w : va_W} {H1 : Heap} {t : State} {T : List (ClassId × FieldType)} {P : Prop} (hB : ax_B dC dI A w T t) (ht : t.heap = H1) {A0 : Nat → Prop} {H0 : Heap} {locs : List Loc} (hS : va_S A0 H0 H1 locs) (kk : va_P (dC, dI) vwCl w H1 → va_K (dC, dI) vwCl T t → va_D A w → va_S A0 H0 H1 locs → P) : P := by
  subst ht
  exact kk hB.1 hB.2.1 hB.2.2 hS
theorem zx_1 {α0 : Type} {p : α0 → Prop} {P : Prop} (kk : ∀ (u0 : α0), p u0 → P) (h : ∃ u0 : α0, p u0) : P := Exists.elim h fun u0 h1 => kk u0 h1
theorem zx_2 {α0 α1 : Type} {p : α0 → α1 → Prop} {P : Prop} (kk : ∀ (u0 : α0) (u1 : α1), p u0 u1 → P) (h : ∃ u0 : α0, ∃ u1 : α1, p u0 u1) : P := Exists.elim h fun u0 h1 => Exists.elim h1 fun u1 h2 => kk u0 u1 h2
theorem zx_3 {α0 α1 α2 : Type} {p : α0 → α1 → α2 → Prop} {P : Prop} (kk : ∀ (u0 : α0) (u1 : α1) (u2 : α2), p u0 u1 u2 → P) (h : ∃ u0 : α0, ∃ u1 : α1, ∃ u2 : α2, p u0 u1 u2) : P := Exists.elim h fun u0 h1 => Exists.elim h1 fun u1 h2 => Exists.elim h2 fun u2 h3 => kk u0 u1 u2 h3
theorem zx_4 {α0 α1 α2 α3 : Type} {p : α0 → α1 → α2 → α3 → Prop} {P : Prop} (kk : ∀ (u0 : α0) (u1 : α1) (u2 : α2) (u3 : α3), p u0 u1 u2 u3 → P) (h : ∃ u0 : α0, ∃ u1 : α1, ∃ u2 : α2, ∃ u3 : α3, p u0 u1 u2 u3) : P := Exists.elim h fun u0 h1 => Exists.elim h1 fun u1 h2 => Exists.elim h2 fun u2 h3 => Exists.elim h3 fun u3 h4 => kk u0 u1 u2 u3 h4
theorem zx_5 {α0 α1 α2 α3 α4 : Type} {p : α0 → α1 → α2 → α3 → α4 → Prop} {P : Prop} (kk : ∀ (u0 : α0) (u1 : α1) (u2 : α2) (u3 : α3) (u4 : α4), p u0 u1 u2 u3 u4 → P) (h : ∃ u0 : α0, ∃ u1 : α1, ∃ u2 : α2, ∃ u3 : α3, ∃ u4 : α4, p u0 u1 u2 u3 u4) : P := Exists.elim h fun u0 h1 => Exists.elim h1 fun u1 h2 => Exists.elim h2 fun u2 h3 => Exists.elim h3 fun u3 h4 => Exists.elim h4 fun u4 h5 => kk u0 u1 u2 u3 u4 h5
theorem zx_6 {α0 α1 α2 α3 α4 α5 : Type} {p : α0 → α1 → α2 → α3 → α4 → α5 → Prop} {P : Prop} (kk : ∀ (u0 : α0) (u1 : α1) (u2 : α2) (u3 : α3) (u4 : α4) (u5 : α5), p u0 u1 u2 u3 u4 u5 → P) (h : ∃ u0 : α0, ∃ u1 : α1, ∃ u2 : α2, ∃ u3 : α3, ∃ u4 : α4, ∃ u5 : α5, p u0 u1 u2 u3 u4 u5) : P := Exists.elim h fun u0 h1 => Exists.elim h1 fun u1 h2 => Exists.elim h2 fun u2 h3 => Exists.elim h3 fun u3 h4 => Exists.elim h4 fun u4 h5 => Exists.elim h5 fun u5 h6 => kk u0 u1 u2 u3 u4 u5 h6
theorem zx_7 {α0 α1 α2 α3 α4 α5 α6 : Type} {p : α0 → α1 → α2 → α3 → α4 → α5 → α6 → Prop} {P : Prop} (kk : ∀ (u0 : α0) (u1 : α1) (u2 : α2) (u3 : α3) (u4 : α4) (u5 : α5) (u6 : α6), p u0 u1 u2 u3 u4 u5 u6 → P) (h : ∃ u0 : α0, ∃ u1 : α1, ∃ u2 : α2, ∃ u3 : α3, ∃ u4 : α4, ∃ u5 : α5, ∃ u6 : α6, p u0 u1 u2 u3 u4 u5 u6) : P := Exists.elim h fun u0 h1 => Exists.elim h1 fun u1 h2 => Exists.elim h2 fun u2 h3 => Exists.elim h3 fun u3 h4 => Exists.elim h4 fun u4 h5 => Exists.elim h5 fun u5 h6 => Exists.elim h6 fun u6 h7 => kk u0 u1 u2 u3 u4 u5 u6 h7
theorem zx_8 {α0 α1 α2 α3 α4 α5 α6 α7 : Type} {p : α0 → α1 → α2 → α3 → α4 → α5 → α6 → α7 → Prop} {P : Prop} (kk : ∀ (u0 : α0) (u1 : α1) (u2 : α2) (u3 : α3) (u4 : α4) (u5 : α5) (u6 : α6) (u7 : α7), p u0 u1 u2 u3 u4 u5 u6 u7 → P) (h : ∃ u0 : α0, ∃ u1 : α1, ∃ u2 : α2, ∃ u3 : α3, ∃ u4 : α4, ∃ u5 : α5, ∃ u6 : α6, ∃ u7 : α7, p u0 u1 u2 u3 u4 u5 u6 u7) : P := Exists.elim h fun u0 h1 => Exists.elim h1 fun u1 h2 => Exists.elim h2 fun u2 h3 => Exists.elim h3 fun u3 h4 => Exists.elim h4 fun u4 h5 => Exists.elim h5 fun u5 h6 => Exists.elim h6 fun u6 h7 => Exists.elim h7 fun u7 h8 => kk u0 u1 u2 u3 u4 u5 u6 u7 h8
theorem zx_9 {α0 α1 α2 α3 α4 α5 α6 α7 α8 : Type} {p : α0 → α1 → α2 → α3 → α4 → α5 → α6 → α7 → α8 → Prop} {P : Prop} (kk : ∀ (u0 : α0) (u1 : α1) (u2 : α2) (u3 : α3) (u4 : α4) (u5 : α5) (u6 : α6) (u7 : α7) (u8 : α8), p u0 u1 u2 u3 u4 u5 u6 u7 u8 → P) (h : ∃ u0 : α0, ∃ u1 : α1, ∃ u2 : α2, ∃ u3 : α3, ∃ u4 : α4, ∃ u5 : α5, ∃ u6 : α6, ∃ u7 : α7, ∃ u8 : α8, p u0 u1 u2 u3 u4 u5 u6 u7 u8) : P := Exists.elim h fun u0 h1 => Exists.elim h1 fun u1 h2 => Exists.elim h2 fun u2 h3 => Exists.elim h3 fun u3 h4 => Exists.elim h4 fun u4 h5 => Exists.elim h5 fun u5 h6 => Exists.elim h6 fun u6 h7 => Exists.elim h7 fun u7 h8 => Exists.elim h8 fun u8 h9 => kk u0 u1 u2 u3 u4 u5 u6 u7 u8 h9
theorem zx_10 {α0 α1 α2 α3 α4 α5 α6 α7 α8 α9 : Type} {p : α0 → α1 → α2 → α3 → α4 → α5 → α6 → α7 → α8 → α9 → Prop} {P : Prop} (kk : ∀ (u0 : α0) (u1 : α1) (u2 : α2) (u3 : α3) (u4 : α4) (u5 : α5) (u6 : α6) (u7 : α7) (u8 : α8) (u9 : α9), p u0 u1 u2 u3 u4 u5 u6 u7 u8 u9 → P) (h : ∃ u0 : α0, ∃ u1 : α1, ∃ u2 : α2, ∃ u3 : α3, ∃ u4 : α4, ∃ u5 : α5, ∃ u6 : α6, ∃ u7 : α7, ∃ u8 : α8, ∃ u9 : α9, p u0 u1 u2 u3 u4 u5 u6 u7 u8 u9) : P := Exists.elim h fun u0 h1 => Exists.elim h1 fun u1 h2 => Exists.elim h2 fun u2 h3 => Exists.elim h3 fun u3 h4 => Exists.elim h4 fun u4 h5 => Exists.elim h5 fun u5 h6 => Exists.elim h6 fun u6 h7 => Exists.elim h7 fun u7 h8 => Exists.elim h8 fun u8 h9 => Exists.elim h9 fun u9 h10 => kk u0 u1 u2 u3 u4 u5 u6 u7 u8 u9 h10
theorem zx_11 {α0 α1 α2 α3 α4 α5 α6 α7 α8 α9 α10 : Type} {p : α0 → α1 → α2 → α3 → α4 → α5 → α6 → α7 → α8 → α9 → α10 → Prop} {P : Prop} (kk : ∀ (u0 : α0) (u1 : α1) (u2 : α2) (u3 : α3) (u4 : α4) (u5 : α5) (u6 : α6) (u7 : α7) (u8 : α8) (u9 : α9) (u10 : α10), p u0 u1 u2 u3 u4 u5 u6 u7 u8 u9 u10 → P) (h : ∃ u0 : α0, ∃ u1 : α1, ∃ u2 : α2, ∃ u3 : α3, ∃ u4 : α4, ∃ u5 : α5, ∃ u6 : α6, ∃ u7 : α7, ∃ u8 : α8, ∃ u9 : α9, ∃ u10 : α10, p u0 u1 u2 u3 u4 u5 u6 u7 u8 u9 u10) : P := Exists.elim h fun u0 h1 => Exists.elim h1 fun u1 h2 => Exists.elim h2 fun u2 h3 => Exists.elim h3 fun u3 h4 => Exists.elim h4 fun u4 h5 => Exists.elim h5 fun u5 h6 => Exists.elim h6 fun u6 h7 => Exists.elim h7 fun u7 h8 => Exists.elim h8 fun u8 h9 => Exists.elim h9 fun u9 h10 => Exists.elim h10 fun u10 h11 => kk u0 u1 u2 u3 u4 u5 u6 u7 u8 u9 u10 h11
theorem zx_12 {α0 α1 α2 α3 α4 α5 α6 α7 α8 α9 α10 α11 : Type} {p : α0 → α1 → α2 → α3 → α4 → α5 → α6 → α7 → α8 → α9 → α10 → α11 → Prop} {P : Prop} (kk : ∀ (u0 : α0) (u1 : α1) (u2 : α2) (u3 : α3) (u4 : α4) (u5 : α5) (u6 : α6) (u7 : α7) (u8 : α8) (u9 : α9) (u10 : α10) (u11 : α11), p u0 u1 u2 u3 u4 u5 u6 u7 u8 u9 u10 u11 → P) (h : ∃ u0 : α0, ∃ u1 : α1, ∃ u2 : α2, ∃ u3 : α3, ∃ u4 : α4, ∃ u5 : α5, ∃ u6 : α6, ∃ u7 : α7, ∃ u8 : α8, ∃ u9 : α9, ∃ u10 : α10, ∃ u11 : α11, p u0 u1 u2 u3 u4 u5 u6 u7 u8 u9 u10 u11) : P := Exists.elim h fun u0 h1 => Exists.elim h1 fun u1 h2 => Exists.elim h2 fun u2 h3 => Exists.elim h3 fun u3 h4 => Exists.elim h4 fun u4 h5 => Exists.elim h5 fun u5 h6 => Exists.elim h6 fun u6 h7 => Exists.elim h7 fun u7 h8 => Exists.elim h8 fun u8 h9 => Exists.elim h9 fun u9 h10 => Exists.elim h10 fun u10 h11 => Exists.elim h11 fun u11 h12 => kk u0 u1 u2 u3 u4 u5 u6 u7 u8 u9 u10 u11 h12
theorem zx_13 {α0 α1 α2 α3 α4 α5 α6 α7 α8 α9 α10 α11 α12 : Type} {p : α0 → α1 → α2 → α3 → α4 → α5 → α6 → α7 → α8 → α9 → α10 → α11 → α12 → Prop} {P : Prop} (kk : ∀ (u0 : α0) (u1 : α1) (u2 : α2) (u3 : α3) (u4 : α4) (u5 : α5) (u6 : α6) (u7 : α7) (u8 : α8) (u9 : α9) (u10 : α10) (u11 : α11) (u12 : α12), p u0 u1 u2 u3 u4 u5 u6 u7 u8 u9 u10 u11 u12 → P) (h : ∃ u0 : α0, ∃ u1 : α1, ∃ u2 : α2, ∃ u3 : α3, ∃ u4 : α4, ∃ u5 : α5, ∃ u6 : α6, ∃ u7 : α7, ∃ u8 : α8, ∃ u9 : α9, ∃ u10 : α10, ∃ u11 : α11, ∃ u12 : α12, p u0 u1 u2 u3 u4 u5 u6 u7 u8 u9 u10 u11 u12) : P := Exists.elim h fun u0 h1 => Exists.elim h1 fun u1 h2 => Exists.elim h2 fun u2 h3 => Exists.elim h3 fun u3 h4 => Exists.elim h4 fun u4 h5 => Exists.elim h5 fun u5 h6 => Exists.elim h6 fun u6 h7 => Exists.elim h7 fun u7 h8 => Exists.elim h8 fun u8 h9 => Exists.elim h9 fun u9 h10 => Exists.elim h10 fun u10 h11 => Exists.elim h11 fun u11 h12 => Exists.elim h12 fun u12 h13 => kk u0 u1 u2 u3 u4 u5 u6 u7 u8 u9 u10 u11 u12 h13
theorem zx_27 {α0 α1 α2 α3 α4 α5 α6 α7 α8 α9 α10 α11 α12 α13 α14 α15 α16 α17 α18 α19 α20 α21 α22 α23 α24 α25 α26 : Type} {p : α0 → α1 → α2 → α3 → α4 → α5 → α6 → α7 → α8 → α9 → α10 → α11 → α12 → α13 → α14 → α15 → α16 → α17 → α18 → α19 → α20 → α21 → α22 → α23 → α24 → α25 → α26 → Prop} {P : Prop} (kk : ∀ (u0 : α0) (u1 : α1) (u2 : α2) (u3 : α3) (u4 : α4) (u5 : α5) (u6 : α6) (u7 : α7) (u8 : α8) (u9 : α9) (u10 : α10) (u11 : α11) (u12 : α12) (u13 : α13) (u14 : α14) (u15 : α15) (u16 : α16) (u17 : α17) (u18 : α18) (u19 : α19) (u20 : α20) (u21 : α21) (u22 : α22) (u23 : α23) (u24 : α24) (u25 : α25) (u26 : α26), p u0 u1 u2 u3 u4 u5 u6 u7 u8 u9 u10 u11 u12 u13 u14 u15 u16 u17 u18 u19 u20 u21 u22 u23 u24 u25 u26 → P) (h : ∃ u0 : α0, ∃ u1 : α1, ∃ u2 : α2, ∃ u3 : α3, ∃ u4 : α4, ∃ u5 : α5, ∃ u6 : α6, ∃ u7 : α7, ∃ u8 : α8, ∃ u9 : α9, ∃ u10 : α10, ∃ u11 : α11, ∃ u12 : α12, ∃ u13 : α13, ∃ u14 : α14, ∃ u15 : α15, ∃ u16 : α16, ∃ u17 : α17, ∃ u18 : α18, ∃ u19 : α19, ∃ u20 : α20, ∃ u21 : α21, ∃ u22 : α22, ∃ u23 : α23, ∃ u24 : α24, ∃ u25 : α25, ∃ u26 : α26, p u0 u1 u2 u3 u4 u5 u6 u7 u8 u9 u10 u11 u12 u13 u14 u15 u16 u17 u18 u19 u20 u21 u22 u23 u24 u25 u26) : P := Exists.elim h fun u0 h1 => Exists.elim h1 fun u1 h2 => Exists.elim h2 fun u2 h3 => Exists.elim h3 fun u3 h4 => Exists.elim h4 fun u4 h5 => Exists.elim h5 fun u5 h6 => Exists.elim h6 fun u6 h7 => Exists.elim h7 fun u7 h8 => Exists.elim h8 fun u8 h9 => Exists.elim h9 fun u9 h10 => Exists.elim h10 fun u10 h11 => Exists.elim h11 fun u11 h12 => Exists.elim h12 fun u12 h13 => Exists.elim h13 fun u13 h14 => Exists.elim h14 fun u14 h15 => Exists.elim h15 fun u15 h16 => Exists.elim h16 fun u16 h17 => Exists.elim h17 fun u17 h18 => Exists.elim h18 fun u18 h19 => Exists.elim h19 fun u19 h20 => Exists.elim h20 fun u20 h21 => Exists.elim h21 fun u21 h22 => Exists.elim h22 fun u22 h23 => Exists.elim h23 fun u23 h24 => Exists.elim h24 fun u24 h25 => Exists.elim h25 fun u25 h26 => Exists.elim h26 fun u26 h27 => kk u0 u1 u2 u3 u4 u5 u6 u7 u8 u9 u10 u11 u12 u13 u14 u15 u16 u17 u18 u19 u20 u21 u22 u23 u24 u25 u26 h27
theorem zx_28 {α0 α1 α2 α3 α4 α5 α6 α7 α8 α9 α10 α11 α12 α13 α14 α15 α16 α17 α18 α19 α20 α21 α22 α23 α24 α25 α26 α27 : Type} {p : α0 → α1 → α2 → α3 → α4 → α5 → α6 → α7 → α8 → α9 → α10 → α11 → α12 → α13 → α14 → α15 → α16 → α17 → α18 → α19 → α20 → α21 → α22 → α23 → α24 → α25 → α26 → α27 → Prop} {P : Prop} (kk : ∀ (u0 : α0) (u1 : α1) (u2 : α2) (u3 : α3) (u4 : α4) (u5 : α5) (u6 : α6) (u7 : α7) (u8 : α8) (u9 : α9) (u10 : α10) (u11 : α11) (u12 : α12) (u13 : α13) (u14 : α14) (u15 : α15) (u16 : α16) (u17 : α17) (u18 : α18) (u19 : α19) (u20 : α20) (u21 : α21) (u22 : α22) (u23 : α23) (u24 : α24) (u25 : α25) (u26 : α26) (u27 : α27), p u0 u1 u2 u3 u4 u5 u6 u7 u8 u9 u10 u11 u12 u13 u14 u15 u16 u17 u18 u19 u20 u21 u22 u23 u24 u25 u26 u27 → P) (h : ∃ u0 : α0, ∃ u1 : α1, ∃ u2 : α2, ∃ u3 : α3, ∃ u4 : α4, ∃ u5 : α5, ∃ u6 : α6, ∃ u7 : α7, ∃ u8 : α8, ∃ u9 : α9, ∃ u10 : α10, ∃ u11 : α11, ∃ u12 : α12, ∃ u13 : α13, ∃ u14 : α14, ∃ u15 : α15, ∃ u16 : α16, ∃ u17 : α17, ∃ u18 : α18, ∃ u19 : α19, ∃ u20 : α20, ∃ u21 : α21, ∃ u22 : α22, ∃ u23 : α23, ∃ u24 : α24, ∃ u25 : α25, ∃ u26 : α26, ∃ u27 : α27, p u0 u1 u2 u3 u4 u5 u6 u7 u8 u9 u10 u11 u12 u13 u14 u15 u16 u17 u18 u19 u20 u21 u22 u23 u24 u25 u26 u27) : P := Exists.elim h fun u0 h1 => Exists.elim h1 fun u1 h2 => Exists.elim h2 fun u2 h3 => Exists.elim h3 fun u3 h4 => Exists.elim h4 fun u4 h5 => Exists.elim h5 fun u5 h6 => Exists.elim h6 fun u6 h7 => Exists.elim h7 fun u7 h8 => Exists.elim h8 fun u8 h9 => Exists.elim h9 fun u9 h10 => Exists.elim h10 fun u10 h11 => Exists.elim h11 fun u11 h12 => Exists.elim h12 fun u12 h13 => Exists.elim h13 fun u13 h14 => Exists.elim h14 fun u14 h15 => Exists.elim h15 fun u15 h16 => Exists.elim h16 fun u16 h17 => Exists.elim h17 fun u17 h18 => Exists.elim h18 fun u18 h19 => Exists.elim h19 fun u19 h20 => Exists.elim h20 fun u20 h21 => Exists.elim h21 fun u21 h22 => Exists.elim h22 fun u22 h23 => Exists.elim h23 fun u23 h24 => Exists.elim h24 fun u24 h25 => Exists.elim h25 fun u25 h26 => Exists.elim h26 fun u26 h27 => Exists.elim h27 fun u27 h28 => kk u0 u1 u2 u3 u4 u5 u6 u7 u8 u9 u10 u11 u12 u13 u14 u15 u16 u17 u18 u19 u20 u21 u22 u23 u24 u25 u26 u27 h28
theorem zy_1 {f0 R P : Prop} (kk : f0 → R → P) (h : f0 ∧ R) : P := kk h.1 h.2
theorem zy_2 {f0 f1 R P : Prop} (kk : f0 → f1 → R → P) (h : f0 ∧ f1 ∧ R) : P := kk h.1 h.2.1 h.2.2
theorem zy_3 {f0 f1 f2 R P : Prop} (kk : f0 → f1 → f2 → R → P) (h : f0 ∧ f1 ∧ f2 ∧ R) : P := kk h.1 h.2.1 h.2.2.1 h.2.2.2
theorem zy_4 {f0 f1 f2 f3 R P : Prop} (kk : f0 → f1 → f2 → f3 → R → P) (h : f0 ∧ f1 ∧ f2 ∧ f3 ∧ R) : P := kk h.1 h.2.1 h.2.2.1 h.2.2.2.1 h.2.2.2.2
theorem zy_5 {f0 f1 f2 f3 f4 R P : Prop} (kk : f0 → f1 → f2 → f3 → f4 → R → P) (h : f0 ∧ f1 ∧ f2 ∧ f3 ∧ f4 ∧ R) : P := kk h.1 h.2.1 h.2.2.1 h.2.2.2.1 h.2.2.2.2.1 h.2.2.2.2.2
theorem zy_6 {f0 f1 f2 f3 f4 f5 R P : Prop} (kk : f0 → f1 → f2 → f3 → f4 → f5 → R → P) (h : f0 ∧ f1 ∧ f2 ∧ f3 ∧ f4 ∧ f5 ∧ R) : P := kk h.1 h.2.1 h.2.2.1 h.2.2.2.1 h.2.2.2.2.1 h.2.2.2.2.2.1 h.2.2.2.2.2.2
theorem zy_7 {f0 f1 f2 f3 f4 f5 f6 R P : Prop} (kk : f0 → f1 → f2 → f3 → f4 → f5 → f6 → R → P) (h : f0 ∧ f1 ∧ f2 ∧ f3 ∧ f4 ∧ f5 ∧ f6 ∧ R) : P := kk h.1 h.2.1 h.2.2.1 h.2.2.2.1 h.2.2.2.2.1 h.2.2.2.2.2.1 h.2.2.2.2.2.2.1 h.2.2.2.2.2.2.2
theorem zy_8 {f0 f1 f2 f3 f4 f5 f6 f7 R P : Prop} (kk : f0 → f1 → f2 → f3 → f4 → f5 → f6 → f7 → R → P) (h : f0 ∧ f1 ∧ f2 ∧ f3 ∧ f4 ∧ f5 ∧ f6 ∧ f7 ∧ R) : P := kk h.1 h.2.1 h.2.2.1 h.2.2.2.1 h.2.2.2.2.1 h.2.2.2.2.2.1 h.2.2.2.2.2.2.1 h.2.2.2.2.2.2.2.1 h.2.2.2.2.2.2.2.2
theorem zy_15 {f0 f1 f2 f3 f4 f5 f6 f7 f8 f9 f10 f11 f12 f13 f14 R P : Prop} (kk : f0 → f1 → f2 → f3 → f4 → f5 → f6 → f7 → f8 → f9 → f10 → f11 → f12 → f13 → f14 → R → P) (h : f0 ∧ f1 ∧ f2 ∧ f3 ∧ f4 ∧ f5 ∧ f6 ∧ f7 ∧ f8 ∧ f9 ∧ f10 ∧ f11 ∧ f12 ∧ f13 ∧ f14 ∧ R) : P := kk h.1 h.2.1 h.2.2.1 h.2.2.2.1 h.2.2.2.2.1 h.2.2.2.2.2.1 h.2.2.2.2.2.2.1 h.2.2.2.2.2.2.2.1 h.2.2.2.2.2.2.2.2.1 h.2.2.2.2.2.2.2.2.2.1 h.2.2.2.2.2.2.2.2.2.2.1 h.2.2.2.2.2.2.2.2.2.2.2.1 h.2.2.2.2.2.2.2.2.2.2.2.2.1 h.2.2.2.2.2.2.2.2.2.2.2.2.2.1 h.2.2.2.2.2.2.2.2.2.2.2.2.2.2.1 h.2.2.2.2.2.2.2.2.2.2.2.2.2.2.2
theorem zy_16 {f0 f1 f2 f3 f4 f5 f6 f7 f8 f9 f10 f11 f12 f13 f14 f15 R P : Prop} (kk : f0 → f1 → f2 → f3 → f4 → f5 → f6 → f7 → f8 → f9 → f10 → f11 → f12 → f13 → f14 → f15 → R → P) (h : f0 ∧ f1 ∧ f2 ∧ f3 ∧ f4 ∧ f5 ∧ f6 ∧ f7 ∧ f8 ∧ f9 ∧ f10 ∧ f11 ∧ f12 ∧ f13 ∧ f14 ∧ f15 ∧ R) : P := kk h.1 h.2.1 h.2.2.1 h.2.2.2.1 h.2.2.2.2.1 h.2.2.2.2.2.1 h.2.2.2.2.2.2.1 h.2.2.2.2.2.2.2.1 h.2.2.2.2.2.2.2.2.1 h.2.2.2.2.2.2.2.2.2.1 h.2.2.2.2.2.2.2.2.2.2.1 h.2.2.2.2.2.2.2.2.2.2.2.1 h.2.2.2.2.2.2.2.2.2.2.2.2.1 h.2.2.2.2.2.2.2.2.2.2.2.2.2.1 h.2.2.2.2.2.2.2.2.2.2.2.2.2.2.1 h.2.2.2.2.2.2.2.2.2.2.2.2.2.2.2.1 h.2.2.2.2.2.2.2.2.2.2.2.2.2.2.2.2
theorem zy_18 {f0 f1 f2 f3 f4 f5 f6 f7 f8 f9 f10 f11 f12 f13 f14 f15 f16 f17 R P : Prop} (kk : f0 → f1 → f2 → f3 → f4 → f5 → f6 → f7 → f8 → f9 → f10 → f11 → f12 → f13 → f14 → f15 → f16 → f17 → R → P) (h : f0 ∧ f1 ∧ f2 ∧ f3 ∧ f4 ∧ f5 ∧ f6 ∧ f7 ∧ f8 ∧ f9 ∧ f10 ∧ f11 ∧ f12 ∧ f13 ∧ f14 ∧ f15 ∧ f16 ∧ f17 ∧ R) : P := kk h.1 h.2.1 h.2.2.1 h.2.2.2.1 h.2.2.2.2.1 h.2.2.2.2.2.1 h.2.2.2.2.2.2.1 h.2.2.2.2.2.2.2.1 h.2.2.2.2.2.2.2.2.1 h.2.2.2.2.2.2.2.2.2.1 h.2.2.2.2.2.2.2.2.2.2.1 h.2.2.2.2.2.2.2.2.2.2.2.1 h.2.2.2.2.2.2.2.2.2.2.2.2.1 h.2.2.2.2.2.2.2.2.2.2.2.2.2.1 h.2.2.2.2.2.2.2.2.2.2.2.2.2.2.1 h.2.2.2.2.2.2.2.2.2.2.2.2.2.2.2.1 h.2.2.2.2.2.2.2.2.2.2.2.2.2.2.2.2.1 h.2.2.2.2.2.2.2.2.2.2.2.2.2.2.2.2.2.1 h.2.2.2.2.2.2.2.2.2.2.2.2.2.2.2.2.2.2
theorem zs_0 {A0 : Nat → Prop} {D : va_G} {cl : List vw_C} {x y : Nat × va_E} {z : Nat × va_E} {ws : va_W} {H : Heap} {P : Prop} (hP : va_P D cl (List.set (z :: ws) 0 x) H) (hD : va_D A0 (List.set (z :: ws) 0 x)) (h : x = y) (kk : va_P D cl (y :: ws) H → va_D A0 (y :: ws) → P) : P := by
  subst h; exact kk hP hD
theorem zs_1 {A0 : Nat → Prop} {D : va_G} {cl : List vw_C} {x0 x y : Nat × va_E} {z : Nat × va_E} {ws : va_W} {H : Heap} {P : Prop} (hP : va_P D cl (List.set (x0 :: z :: ws) 1 x) H) (hD : va_D A0 (List.set (x0 :: z :: ws) 1 x)) (h : x = y) (kk : va_P D cl (x0 :: y :: ws) H → va_D A0 (x0 :: y :: ws) → P) : P := by
  subst h; exact kk hP hD
theorem zs_2 {A0 : Nat → Prop} {D : va_G} {cl : List vw_C} {x0 x1 x y : Nat × va_E} {z : Nat × va_E} {ws : va_W} {H : Heap} {P : Prop} (hP : va_P D cl (List.set (x0 :: x1 :: z :: ws) 2 x) H) (hD : va_D A0 (List.set (x0 :: x1 :: z :: ws) 2 x)) (h : x = y) (kk : va_P D cl (x0 :: x1 :: y :: ws) H → va_D A0 (x0 :: x1 :: y :: ws) → P) : P := by
  subst h; exact kk hP hD
theorem zs_3 {A0 : Nat → Prop} {D : va_G} {cl : List vw_C} {x0 x1 x2 x y : Nat × va_E} {z : Nat × va_E} {ws : va_W} {H : Heap} {P : Prop} (hP : va_P D cl (List.set (x0 :: x1 :: x2 :: z :: ws) 3 x) H) (hD : va_D A0 (List.set (x0 :: x1 :: x2 :: z :: ws) 3 x)) (h : x = y) (kk : va_P D cl (x0 :: x1 :: x2 :: y :: ws) H → va_D A0 (x0 :: x1 :: x2 :: y :: ws) → P) : P := by
  subst h; exact kk hP hD
theorem zs_5 {A0 : Nat → Prop} {D : va_G} {cl : List vw_C} {x0 x1 x2 x3 x4 x y : Nat × va_E} {z : Nat × va_E} {ws : va_W} {H : Heap} {P : Prop} (hP : va_P D cl (List.set (x0 :: x1 :: x2 :: x3 :: x4 :: z :: ws) 5 x) H) (hD : va_D A0 (List.set (x0 :: x1 :: x2 :: x3 :: x4 :: z :: ws) 5 x)) (h : x = y) (kk : va_P D cl (x0 :: x1 :: x2 :: x3 :: x4 :: y :: ws) H → va_D A0 (x0 :: x1 :: x2 :: x3 :: x4 :: y :: ws) → P) : P := by
  subst h; exact kk hP hD
theorem zs_6 {A0 : Nat → Prop} {D : va_G} {cl : List vw_C} {x0 x1 x2 x3 x4 x5 x y : Nat × va_E} {z : Nat × va_E} {ws : va_W} {H : Heap} {P : Prop} (hP : va_P D cl (List.set (x0 :: x1 :: x2 :: x3 :: x4 :: x5 :: z :: ws) 6 x) H) (hD : va_D A0 (List.set (x0 :: x1 :: x2 :: x3 :: x4 :: x5 :: z :: ws) 6 x)) (h : x = y) (kk : va_P D cl (x0 :: x1 :: x2 :: x3 :: x4 :: x5 :: y :: ws) H → va_D A0 (x0 :: x1 :: x2 :: x3 :: x4 :: x5 :: y :: ws) → P) : P := by
  subst h; exact kk hP hD
theorem zs_7 {A0 : Nat → Prop} {D : va_G} {cl : List vw_C} {x0 x1 x2 x3 x4 x5 x6 x y : Nat × va_E} {z : Nat × va_E} {ws : va_W} {H : Heap} {P : Prop} (hP : va_P D cl (List.set (x0 :: x1 :: x2 :: x3 :: x4 :: x5 :: x6 :: z :: ws) 7 x) H) (hD : va_D A0 (List.set (x0 :: x1 :: x2 :: x3 :: x4 :: x5 :: x6 :: z :: ws) 7 x)) (h : x = y) (kk : va_P D cl (x0 :: x1 :: x2 :: x3 :: x4 :: x5 :: x6 :: y :: ws) H → va_D A0 (x0 :: x1 :: x2 :: x3 :: x4 :: x5 :: x6 :: y :: ws) → P) : P := by
  subst h; exact kk hP hD
end ZP
section ZM
/-- a contract over a world: the world stands there once -/
def zm (l : Launch) (y : MethodName) (wsY : List Cond) (rm : Room) (av : List Value) (dC : Nat → ClassId) (dI : Nat → Nat → Nat) (sz : Nat) (ws : va_W) (tys : List (ClassId × FieldType)) (E : (Nat → Prop) → State → Prop) (Q : (Nat → Prop) → Array Value → State → Outcome → State → Prop) : Prop := Met l y wsY rm (va_Pc av (ax_C dC dI sz ws tys (E (va_A ws sz)))) (Q (va_A ws sz)) 0 0 (va_A ws sz)
theorem zh {l : Launch} {y : MethodName} {wsY ws' : List Cond} {rm : Room} {cc : ByteArray} {maxL : Nat} {ret : Option FieldType} {av : List Value} {dC : Nat → ClassId} {dI : Nat → Nat → Nat} {sz : Nat} {ws : va_W} {tys : List (ClassId × FieldType)} {E : (Nat → Prop) → State → Prop} {Q : (Nat → Prop) → Array Value → State → Outcome → State → Prop}
    (hy : plainName y.cls = true) (hw : wsY = Cond.code y cc maxL ret :: ws') (hn : (lg_sl av).length ≤ maxL)
    (k : ∀ (p : Program) (e : Env) (s : State) (m : MethodId) (below : List Frame) (meth : Method) (c : Code) (A : Nat → Prop) (ls : Array Slot), p.tables.exec = Jvm.exec → c.code = cc → c.maxLocals = maxL → meth.sig.returnType = ret → (∀ w ∈ wsY, w.before av.toArray s = true) → s.vm.findClass y.cls = some m.cls → meth.locks = false → (∀ q, s.heap.size ≤ q → A q) → va_S A s.heap s.heap [] → va_P (dC, dI) vwCl ws s.heap → va_K (dC, dI) vwCl tys s → va_D A ws → E A s → lv_has ls maxL (lv_args 0 av) → W p l e (headSpec wsY rm).room s m av.toArray below meth c s.heap [] 0 0 (MQ below (Q A) av.toArray s 0 0 A) (F0 m 0 ls [])) : zm l y wsY rm av dC dI sz ws tys E Q := by
  refine Met.ofW (cc := cc) (maxL := maxL) (ret := ret) hy hw ?_
  intro p e s m args below meth c s₁ B hml hv
  obtain ⟨rfl, hsz, hP, hK, hD0, hE⟩ := hv
  subst hsz
  have hl := lv_entry av hn
  rw [lg_entry_eq]
  exact k p e s m below meth c (va_A ws s.heap.size) _ B.exec B.bytes hml B.returns (atoms_spec (ws := wsY) B.pre) (findClass_of_methodNamed B.named) B.notSynchronized (fun q h => Or.inr h) va_S.rf hP hK (hD0.self (sz := s.heap.size)) hE hl
end ZM
theorem zn_RJ3 : plainName RJ3 = true := by decide
theorem zn_RJ6 : plainName RJ6 = true := by decide
theorem zn_RX0 : plainName RX0 = true := by decide
theorem zn_RX1 : plainName RX1 = true := by decide
theorem zn_RX2 : plainName RX2 = true := by decide
theorem zn_RX3 : plainName RX3 = true := by decide
theorem zn_RX4 : plainName RX4 = true := by decide
theorem zn_RX5 : plainName RX5 = true := by decide
theorem zn_RX6 : plainName RX6 = true := by decide
theorem zn_RX7 : plainName RX7 = true := by decide
theorem zn_RX8 : plainName RX8 = true := by decide
section ZG
theorem zg_0 {B C j : Int} {P : Prop} (hm : B - j ≤ ((0 : Nat) : Int)) (hu : j ≤ C) (h : C < B) : P := absurd hm (by omega)
theorem zg_s {B j x : Int} {n : Nat} (hm : B - j ≤ ((n + 1 : Nat) : Int)) (q : x = j + 1) : B - x ≤ (n : Int) := by omega
theorem zg_l {a c k x : Int} (h : a ≤ x) (g : x ≠ c) (e : c = a) (e2 : k = a + 1) : k ≤ x := by omega
theorem zg_u {a c k x : Int} (h : x ≤ a) (g : x ≠ c) (e : c = a) (e2 : k = a - 1) : x ≤ k := by omega
theorem zg_mm {z x y a b c d A B : Int} (q : (z = x ∨ z = y) ∧ z ≤ x ∧ z ≤ y) (h1 : a ≤ x) (h2 : c ≤ y) (h3 : x ≤ b) (h4 : y ≤ d) (e1 : A ≤ a) (e2 : A ≤ c) (e3 : d ≤ B) : A ≤ z ∧ z ≤ B := by omega
end ZG
end P081_zp
section P0920_ux
def ux {α : Type} (f : Nat → α) (l : List (Nat × α)) : Nat → α := fun i => (l.lookup i).getD (f i)
def sxc_by : List (List Int32) := [[103, 97, 108, 108, 101, 114, 121], [108, 97, 119], [102, 105, 103, 117, 114, 101], [119, 97, 116, 99, 104, 101, 114], [115, 101, 101, 110], [102, 105, 103, 117, 114, 101, 115], [115, 112, 97, 110], [115, 116, 97, 105, 114, 115], [115, 104, 117, 116], [116, 105, 109, 101, 115], [112, 108, 117, 115], [102, 105, 114, 115, 116], [105, 115], [119, 97, 108, 107, 115], [115, 112, 101, 97, 107, 115], [102, 114, 111, 109], [116, 111], [97, 116], [103, 97, 108, 108, 101, 114, 121], [108, 97, 119], [102, 105, 103, 117, 114, 101], [119, 97, 116, 99, 104, 101, 114], [115, 101, 101, 110], [102, 105, 103, 117, 114, 101, 115], [115, 112, 97, 110], [115, 116, 97, 105, 114, 115], [115, 104, 117, 116], [116, 105, 109, 101, 115], [112, 108, 117, 115], [102, 105, 114, 115, 116], [105, 115], [119, 97, 108, 107, 115], [115, 112, 101, 97, 107, 115], [102, 114, 111, 109], [116, 111], [97, 116]]
def sxc (i : Nat) : Nat → Int32 := fun j => (sxc_by.getD i []).getD j 0
end P0920_ux
section P09221_fl
section FL
def fl_A (f : Nat → Int32) : Nat → Int := fun k => (f k).toInt
def fl_L (f : Nat → Int64) : Nat → Int := fun k => (f k).toInt
def fl_up (f : Nat → Int) (i : Nat) (v : Int) : Nat → Int := fun k => if k = i then v else f k
theorem fl_up_eq {f g : Nat → Int32} {i x : Int32} (e : g = upd f i.toNatClampNeg x) : fl_A g = fl_up (fl_A f) i.toInt.toNat x.toInt := by
  subst e; funext k; unfold fl_A fl_up upd
  by_cases h : k = i.toNatClampNeg
  · have h2 : k = i.toInt.toNat := h
    rw [if_pos h, if_pos h2]
  · have h2 : ¬ k = i.toInt.toNat := h
    rw [if_neg h, if_neg h2]
theorem fl_upL_eq {f g : Nat → Int64} {i : Int32} {x : Int64} (e : g = vp_updL f i.toNatClampNeg x) : fl_L g = fl_up (fl_L f) i.toInt.toNat x.toInt := by
  subst e; funext k; unfold fl_L fl_up vp_updL
  by_cases h : k = i.toNatClampNeg
  · have h2 : k = i.toInt.toNat := h
    rw [if_pos h, if_pos h2]
  · have h2 : ¬ k = i.toInt.toNat := h
    rw [if_neg h, if_neg h2]
def fl_nar (x : Int) : Int := (vp_nar .byte (Int32.ofInt x)).toInt
def fl_upB (f : Nat → Int) (i : Nat) (v : Int) : Nat → Int := fl_up f i (fl_nar v)
theorem fl_upB_eq {f g : Nat → Int32} {i x : Int32} (e : g = upd f i.toNatClampNeg (vp_nar .byte x)) : fl_A g = fl_upB (fl_A f) i.toInt.toNat x.toInt := by
  have h := fl_up_eq e
  unfold fl_upB fl_nar
  rw [Int32.ofInt_toInt]; exact h
def fl_lt {α β : Type} (e : α) (f : α → β) : β := f e
theorem fl_lt_eq {α β : Type} {e x : α} {f : α → β} (h : x = e) : fl_lt e f = f x := by subst h; rfl
def fl_wh {S R : Type} (step : S → Sum S R) (d : R) : Nat → S → R
  | 0, _ => d
  | n + 1, s => match step s with
    | .inl s' => fl_wh step d n s'
    | .inr r => r
theorem fl_wh_l {S R : Type} {step : S → Sum S R} {d : R} {n : Nat} {s s' : S} (h : step s = .inl s') : fl_wh step d (n + 1) s = fl_wh step d n s' := by
  show (match step s with | .inl s' => fl_wh step d n s' | .inr r => r) = _
  rw [h]
theorem fl_wh_r {S R : Type} {step : S → Sum S R} {d : R} {n : Nat} {s : S} {r : R} (h : step s = .inr r) : fl_wh step d (n + 1) s = r := by
  show (match step s with | .inl s' => fl_wh step d n s' | .inr r => r) = _
  rw [h]
def fl_iadd (x y : Int) : Int := (Int32.ofInt x + Int32.ofInt y).toInt
theorem fl_iadd_eq {x y z : Int32} (e : z = x + y) : z.toInt = fl_iadd x.toInt y.toInt := by subst e; unfold fl_iadd; rw [Int32.ofInt_toInt, Int32.ofInt_toInt]
def fl_isub (x y : Int) : Int := (Int32.ofInt x - Int32.ofInt y).toInt
theorem fl_isub_eq {x y z : Int32} (e : z = x - y) : z.toInt = fl_isub x.toInt y.toInt := by subst e; unfold fl_isub; rw [Int32.ofInt_toInt, Int32.ofInt_toInt]
def fl_imul (x y : Int) : Int := (Int32.ofInt x * Int32.ofInt y).toInt
theorem fl_imul_eq {x y z : Int32} (e : z = x * y) : z.toInt = fl_imul x.toInt y.toInt := by subst e; unfold fl_imul; rw [Int32.ofInt_toInt, Int32.ofInt_toInt]
def fl_and (x y : Int) : Int := (Int32.ofInt x &&& Int32.ofInt y).toInt
theorem fl_and_eq {x y z : Int32} (e : z = x &&& y) : z.toInt = fl_and x.toInt y.toInt := by subst e; unfold fl_and; rw [Int32.ofInt_toInt, Int32.ofInt_toInt]
def fl_or (x y : Int) : Int := (Int32.ofInt x ||| Int32.ofInt y).toInt
theorem fl_or_eq {x y z : Int32} (e : z = x ||| y) : z.toInt = fl_or x.toInt y.toInt := by subst e; unfold fl_or; rw [Int32.ofInt_toInt, Int32.ofInt_toInt]
def fl_shl (x y : Int) : Int := (Int32.ofInt x <<< (Int32.ofInt y &&& 31)).toInt
theorem fl_shl_eq {x y z : Int32} (e : z = x <<< (y &&& 31)) : z.toInt = fl_shl x.toInt y.toInt := by subst e; unfold fl_shl; rw [Int32.ofInt_toInt, Int32.ofInt_toInt]
def fl_shr (x y : Int) : Int := (Int32.ofInt x >>> (Int32.ofInt y &&& 31)).toInt
theorem fl_shr_eq {x y z : Int32} (e : z = x >>> (y &&& 31)) : z.toInt = fl_shr x.toInt y.toInt := by subst e; unfold fl_shr; rw [Int32.ofInt_toInt, Int32.ofInt_toInt]
def fl_i2b (x : Int) : Int := ((Int32.ofInt x).toInt8.toInt32).toInt
theorem fl_i2b_eq {x z : Int32} (e : z = x.toInt8.toInt32) : z.toInt = fl_i2b x.toInt := by subst e; unfold fl_i2b; rw [Int32.ofInt_toInt]
theorem fl_i2l_eq {x : Int32} {z : Int64} (e : z = x.toInt64) : z.toInt = x.toInt := by subst e; exact Int32.toInt_toInt64 x
def fl_cmp (x y : Int) : Int := if y < x then 1 else if x = y then 0 else -1
theorem fl_cmp_eq {x y : Int64} {z : Int32} (e : z = lg_cmp x y) : z.toInt = fl_cmp x.toInt y.toInt := by
  subst e; unfold lg_cmp fl_cmp
  by_cases h : y < x
  · rw [if_pos h, if_pos (Int64.lt_iff_toInt_lt.mp h)]; rfl
  · rw [if_neg h, if_neg (fun q => h (Int64.lt_iff_toInt_lt.mpr q))]
    by_cases h2 : x = y
    · rw [if_pos h2, if_pos (congrArg Int64.toInt h2)]; rfl
    · rw [if_neg h2, if_neg (fun q => h2 (Int64.toInt_inj.mp q))]; rfl
def fl_lor (x y : Int) : Int := (Int64.ofInt x ||| Int64.ofInt y).toInt
theorem fl_lor_eq {x y z : Int64} (e : z = x ||| y) : z.toInt = fl_lor x.toInt y.toInt := by subst e; unfold fl_lor; rw [Int64.ofInt_toInt, Int64.ofInt_toInt]
def fl_lshl (x y : Int) : Int := (Int64.ofInt x <<< ((Int32.ofInt y).toInt64 &&& 63)).toInt
theorem fl_lshl_eq {x z : Int64} {y : Int32} (e : z = x <<< (y.toInt64 &&& 63)) : z.toInt = fl_lshl x.toInt y.toInt := by subst e; unfold fl_lshl; rw [Int64.ofInt_toInt, Int32.ofInt_toInt]
def fl_min (x y : Int) : Int := if y < x then y else x
theorem fl_min_eq {x y z : Int32} (e : z = if y < x then y else x) : z.toInt = fl_min x.toInt y.toInt := by
  unfold fl_min
  by_cases h : y < x
  · rw [if_pos h] at e; rw [if_pos (ai_lt h), e]
  · rw [if_neg h] at e; rw [if_neg (fun q => h (Int32.lt_iff_toInt_lt.mpr q)), e]
def fl_ushr (x y : Int) : Int := ((Int32.ofInt x).toUInt32 >>> ((Int32.ofInt y).toUInt32 &&& Int32.toUInt32 31)).toInt32.toInt
theorem fl_ushr_eq {x y z : Int32} (e : z = (x.toUInt32 >>> (y.toUInt32 &&& Int32.toUInt32 31)).toInt32) : z.toInt = fl_ushr x.toInt y.toInt := by subst e; unfold fl_ushr; rw [Int32.ofInt_toInt, Int32.ofInt_toInt]
theorem fl_cpy {f g h : Nat → Int32} {sp dp n : Nat} (e : h = va_cpy f g sp dp n) : fl_A h = va_cpy (fl_A f) (fl_A g) sp dp n := by
  subst e; funext k; unfold fl_A va_cpy; split <;> rfl
def fl_c2 {A0 A1 R : Type} (t : A0 × A1) (f : A0 → A1 → R) : R := f t.1 t.2
theorem fl_c2_eq {A0 A1 R : Type} {t : A0 × A1} {f : A0 → A1 → R} {a0 : A0} {a1 : A1} (h : t = (a0, a1)) : fl_c2 t f = f a0 a1 := by subst h; rfl
def fl_c3 {A0 A1 A2 R : Type} (t : A0 × A1 × A2) (f : A0 → A1 → A2 → R) : R := f t.1 t.2.1 t.2.2
theorem fl_c3_eq {A0 A1 A2 R : Type} {t : A0 × A1 × A2} {f : A0 → A1 → A2 → R} {a0 : A0} {a1 : A1} {a2 : A2} (h : t = (a0, a1, a2)) : fl_c3 t f = f a0 a1 a2 := by subst h; rfl
def fl_c4 {A0 A1 A2 A3 R : Type} (t : A0 × A1 × A2 × A3) (f : A0 → A1 → A2 → A3 → R) : R := f t.1 t.2.1 t.2.2.1 t.2.2.2
theorem fl_c4_eq {A0 A1 A2 A3 R : Type} {t : A0 × A1 × A2 × A3} {f : A0 → A1 → A2 → A3 → R} {a0 : A0} {a1 : A1} {a2 : A2} {a3 : A3} (h : t = (a0, a1, a2, a3)) : fl_c4 t f = f a0 a1 a2 a3 := by subst h; rfl
def fl_c5 {A0 A1 A2 A3 A4 R : Type} (t : A0 × A1 × A2 × A3 × A4) (f : A0 → A1 → A2 → A3 → A4 → R) : R := f t.1 t.2.1 t.2.2.1 t.2.2.2.1 t.2.2.2.2
theorem fl_c5_eq {A0 A1 A2 A3 A4 R : Type} {t : A0 × A1 × A2 × A3 × A4} {f : A0 → A1 → A2 → A3 → A4 → R} {a0 : A0} {a1 : A1} {a2 : A2} {a3 : A3} {a4 : A4} (h : t = (a0, a1, a2, a3, a4)) : fl_c5 t f = f a0 a1 a2 a3 a4 := by subst h; rfl
def fl_c6 {A0 A1 A2 A3 A4 A5 R : Type} (t : A0 × A1 × A2 × A3 × A4 × A5) (f : A0 → A1 → A2 → A3 → A4 → A5 → R) : R := f t.1 t.2.1 t.2.2.1 t.2.2.2.1 t.2.2.2.2.1 t.2.2.2.2.2
theorem fl_c6_eq {A0 A1 A2 A3 A4 A5 R : Type} {t : A0 × A1 × A2 × A3 × A4 × A5} {f : A0 → A1 → A2 → A3 → A4 → A5 → R} {a0 : A0} {a1 : A1} {a2 : A2} {a3 : A3} {a4 : A4} {a5 : A5} (h : t = (a0, a1, a2, a3, a4, a5)) : fl_c6 t f = f a0 a1 a2 a3 a4 a5 := by subst h; rfl
def fl_c7 {A0 A1 A2 A3 A4 A5 A6 R : Type} (t : A0 × A1 × A2 × A3 × A4 × A5 × A6) (f : A0 → A1 → A2 → A3 → A4 → A5 → A6 → R) : R := f t.1 t.2.1 t.2.2.1 t.2.2.2.1 t.2.2.2.2.1 t.2.2.2.2.2.1 t.2.2.2.2.2.2
theorem fl_c7_eq {A0 A1 A2 A3 A4 A5 A6 R : Type} {t : A0 × A1 × A2 × A3 × A4 × A5 × A6} {f : A0 → A1 → A2 → A3 → A4 → A5 → A6 → R} {a0 : A0} {a1 : A1} {a2 : A2} {a3 : A3} {a4 : A4} {a5 : A5} {a6 : A6} (h : t = (a0, a1, a2, a3, a4, a5, a6)) : fl_c7 t f = f a0 a1 a2 a3 a4 a5 a6 := by subst h; rfl
def fl_c8 {A0 A1 A2 A3 A4 A5 A6 A7 R : Type} (t : A0 × A1 × A2 × A3 × A4 × A5 × A6 × A7) (f : A0 → A1 → A2 → A3 → A4 → A5 → A6 → A7 → R) : R := f t.1 t.2.1 t.2.2.1 t.2.2.2.1 t.2.2.2.2.1 t.2.2.2.2.2.1 t.2.2.2.2.2.2.1 t.2.2.2.2.2.2.2
theorem fl_c8_eq {A0 A1 A2 A3 A4 A5 A6 A7 R : Type} {t : A0 × A1 × A2 × A3 × A4 × A5 × A6 × A7} {f : A0 → A1 → A2 → A3 → A4 → A5 → A6 → A7 → R} {a0 : A0} {a1 : A1} {a2 : A2} {a3 : A3} {a4 : A4} {a5 : A5} {a6 : A6} {a7 : A7} (h : t = (a0, a1, a2, a3, a4, a5, a6, a7)) : fl_c8 t f = f a0 a1 a2 a3 a4 a5 a6 a7 := by subst h; rfl
def fl_c9 {A0 A1 A2 A3 A4 A5 A6 A7 A8 R : Type} (t : A0 × A1 × A2 × A3 × A4 × A5 × A6 × A7 × A8) (f : A0 → A1 → A2 → A3 → A4 → A5 → A6 → A7 → A8 → R) : R := f t.1 t.2.1 t.2.2.1 t.2.2.2.1 t.2.2.2.2.1 t.2.2.2.2.2.1 t.2.2.2.2.2.2.1 t.2.2.2.2.2.2.2.1 t.2.2.2.2.2.2.2.2
theorem fl_c9_eq {A0 A1 A2 A3 A4 A5 A6 A7 A8 R : Type} {t : A0 × A1 × A2 × A3 × A4 × A5 × A6 × A7 × A8} {f : A0 → A1 → A2 → A3 → A4 → A5 → A6 → A7 → A8 → R} {a0 : A0} {a1 : A1} {a2 : A2} {a3 : A3} {a4 : A4} {a5 : A5} {a6 : A6} {a7 : A7} {a8 : A8} (h : t = (a0, a1, a2, a3, a4, a5, a6, a7, a8)) : fl_c9 t f = f a0 a1 a2 a3 a4 a5 a6 a7 a8 := by subst h; rfl
def fl_c10 {A0 A1 A2 A3 A4 A5 A6 A7 A8 A9 R : Type} (t : A0 × A1 × A2 × A3 × A4 × A5 × A6 × A7 × A8 × A9) (f : A0 → A1 → A2 → A3 → A4 → A5 → A6 → A7 → A8 → A9 → R) : R := f t.1 t.2.1 t.2.2.1 t.2.2.2.1 t.2.2.2.2.1 t.2.2.2.2.2.1 t.2.2.2.2.2.2.1 t.2.2.2.2.2.2.2.1 t.2.2.2.2.2.2.2.2.1 t.2.2.2.2.2.2.2.2.2
theorem fl_c10_eq {A0 A1 A2 A3 A4 A5 A6 A7 A8 A9 R : Type} {t : A0 × A1 × A2 × A3 × A4 × A5 × A6 × A7 × A8 × A9} {f : A0 → A1 → A2 → A3 → A4 → A5 → A6 → A7 → A8 → A9 → R} {a0 : A0} {a1 : A1} {a2 : A2} {a3 : A3} {a4 : A4} {a5 : A5} {a6 : A6} {a7 : A7} {a8 : A8} {a9 : A9} (h : t = (a0, a1, a2, a3, a4, a5, a6, a7, a8, a9)) : fl_c10 t f = f a0 a1 a2 a3 a4 a5 a6 a7 a8 a9 := by subst h; rfl
def fl_c12 {A0 A1 A2 A3 A4 A5 A6 A7 A8 A9 A10 A11 R : Type} (t : A0 × A1 × A2 × A3 × A4 × A5 × A6 × A7 × A8 × A9 × A10 × A11) (f : A0 → A1 → A2 → A3 → A4 → A5 → A6 → A7 → A8 → A9 → A10 → A11 → R) : R := f t.1 t.2.1 t.2.2.1 t.2.2.2.1 t.2.2.2.2.1 t.2.2.2.2.2.1 t.2.2.2.2.2.2.1 t.2.2.2.2.2.2.2.1 t.2.2.2.2.2.2.2.2.1 t.2.2.2.2.2.2.2.2.2.1 t.2.2.2.2.2.2.2.2.2.2.1 t.2.2.2.2.2.2.2.2.2.2.2
theorem fl_c12_eq {A0 A1 A2 A3 A4 A5 A6 A7 A8 A9 A10 A11 R : Type} {t : A0 × A1 × A2 × A3 × A4 × A5 × A6 × A7 × A8 × A9 × A10 × A11} {f : A0 → A1 → A2 → A3 → A4 → A5 → A6 → A7 → A8 → A9 → A10 → A11 → R} {a0 : A0} {a1 : A1} {a2 : A2} {a3 : A3} {a4 : A4} {a5 : A5} {a6 : A6} {a7 : A7} {a8 : A8} {a9 : A9} {a10 : A10} {a11 : A11} (h : t = (a0, a1, a2, a3, a4, a5, a6, a7, a8, a9, a10, a11)) : fl_c12 t f = f a0 a1 a2 a3 a4 a5 a6 a7 a8 a9 a10 a11 := by subst h; rfl
def fl_c13 {A0 A1 A2 A3 A4 A5 A6 A7 A8 A9 A10 A11 A12 R : Type} (t : A0 × A1 × A2 × A3 × A4 × A5 × A6 × A7 × A8 × A9 × A10 × A11 × A12) (f : A0 → A1 → A2 → A3 → A4 → A5 → A6 → A7 → A8 → A9 → A10 → A11 → A12 → R) : R := f t.1 t.2.1 t.2.2.1 t.2.2.2.1 t.2.2.2.2.1 t.2.2.2.2.2.1 t.2.2.2.2.2.2.1 t.2.2.2.2.2.2.2.1 t.2.2.2.2.2.2.2.2.1 t.2.2.2.2.2.2.2.2.2.1 t.2.2.2.2.2.2.2.2.2.2.1 t.2.2.2.2.2.2.2.2.2.2.2.1 t.2.2.2.2.2.2.2.2.2.2.2.2
theorem fl_c13_eq {A0 A1 A2 A3 A4 A5 A6 A7 A8 A9 A10 A11 A12 R : Type} {t : A0 × A1 × A2 × A3 × A4 × A5 × A6 × A7 × A8 × A9 × A10 × A11 × A12} {f : A0 → A1 → A2 → A3 → A4 → A5 → A6 → A7 → A8 → A9 → A10 → A11 → A12 → R} {a0 : A0} {a1 : A1} {a2 : A2} {a3 : A3} {a4 : A4} {a5 : A5} {a6 : A6} {a7 : A7} {a8 : A8} {a9 : A9} {a10 : A10} {a11 : A11} {a12 : A12} (h : t = (a0, a1, a2, a3, a4, a5, a6, a7, a8, a9, a10, a11, a12)) : fl_c13 t f = f a0 a1 a2 a3 a4 a5 a6 a7 a8 a9 a10 a11 a12 := by subst h; rfl
def fl_c14 {A0 A1 A2 A3 A4 A5 A6 A7 A8 A9 A10 A11 A12 A13 R : Type} (t : A0 × A1 × A2 × A3 × A4 × A5 × A6 × A7 × A8 × A9 × A10 × A11 × A12 × A13) (f : A0 → A1 → A2 → A3 → A4 → A5 → A6 → A7 → A8 → A9 → A10 → A11 → A12 → A13 → R) : R := f t.1 t.2.1 t.2.2.1 t.2.2.2.1 t.2.2.2.2.1 t.2.2.2.2.2.1 t.2.2.2.2.2.2.1 t.2.2.2.2.2.2.2.1 t.2.2.2.2.2.2.2.2.1 t.2.2.2.2.2.2.2.2.2.1 t.2.2.2.2.2.2.2.2.2.2.1 t.2.2.2.2.2.2.2.2.2.2.2.1 t.2.2.2.2.2.2.2.2.2.2.2.2.1 t.2.2.2.2.2.2.2.2.2.2.2.2.2
theorem fl_c14_eq {A0 A1 A2 A3 A4 A5 A6 A7 A8 A9 A10 A11 A12 A13 R : Type} {t : A0 × A1 × A2 × A3 × A4 × A5 × A6 × A7 × A8 × A9 × A10 × A11 × A12 × A13} {f : A0 → A1 → A2 → A3 → A4 → A5 → A6 → A7 → A8 → A9 → A10 → A11 → A12 → A13 → R} {a0 : A0} {a1 : A1} {a2 : A2} {a3 : A3} {a4 : A4} {a5 : A5} {a6 : A6} {a7 : A7} {a8 : A8} {a9 : A9} {a10 : A10} {a11 : A11} {a12 : A12} {a13 : A13} (h : t = (a0, a1, a2, a3, a4, a5, a6, a7, a8, a9, a10, a11, a12, a13)) : fl_c14 t f = f a0 a1 a2 a3 a4 a5 a6 a7 a8 a9 a10 a11 a12 a13 := by subst h; rfl
def fl_c28 {A0 A1 A2 A3 A4 A5 A6 A7 A8 A9 A10 A11 A12 A13 A14 A15 A16 A17 A18 A19 A20 A21 A22 A23 A24 A25 A26 A27 R : Type} (t : A0 × A1 × A2 × A3 × A4 × A5 × A6 × A7 × A8 × A9 × A10 × A11 × A12 × A13 × A14 × A15 × A16 × A17 × A18 × A19 × A20 × A21 × A22 × A23 × A24 × A25 × A26 × A27) (f : A0 → A1 → A2 → A3 → A4 → A5 → A6 → A7 → A8 → A9 → A10 → A11 → A12 → A13 → A14 → A15 → A16 → A17 → A18 → A19 → A20 → A21 → A22 → A23 → A24 → A25 → A26 → A27 → R) : R := f t.1 t.2.1 t.2.2.1 t.2.2.2.1 t.2.2.2.2.1 t.2.2.2.2.2.1 t.2.2.2.2.2.2.1 t.2.2.2.2.2.2.2.1 t.2.2.2.2.2.2.2.2.1 t.2.2.2.2.2.2.2.2.2.1 t.2.2.2.2.2.2.2.2.2.2.1 t.2.2.2.2.2.2.2.2.2.2.2.1 t.2.2.2.2.2.2.2.2.2.2.2.2.1 t.2.2.2.2.2.2.2.2.2.2.2.2.2.1 t.2.2.2.2.2.2.2.2.2.2.2.2.2.2.1 t.2.2.2.2.2.2.2.2.2.2.2.2.2.2.2.1 t.2.2.2.2.2.2.2.2.2.2.2.2.2.2.2.2.1 t.2.2.2.2.2.2.2.2.2.2.2.2.2.2.2.2.2.1 t.2.2.2.2.2.2.2.2.2.2.2.2.2.2.2.2.2.2.1 t.2.2.2.2.2.2.2.2.2.2.2.2.2.2.2.2.2.2.2.1 t.2.2.2.2.2.2.2.2.2.2.2.2.2.2.2.2.2.2.2.2.1 t.2.2.2.2.2.2.2.2.2.2.2.2.2.2.2.2.2.2.2.2.2.1 t.2.2.2.2.2.2.2.2.2.2.2.2.2.2.2.2.2.2.2.2.2.2.1 t.2.2.2.2.2.2.2.2.2.2.2.2.2.2.2.2.2.2.2.2.2.2.2.1 t.2.2.2.2.2.2.2.2.2.2.2.2.2.2.2.2.2.2.2.2.2.2.2.2.1 t.2.2.2.2.2.2.2.2.2.2.2.2.2.2.2.2.2.2.2.2.2.2.2.2.2.1 t.2.2.2.2.2.2.2.2.2.2.2.2.2.2.2.2.2.2.2.2.2.2.2.2.2.2.1 t.2.2.2.2.2.2.2.2.2.2.2.2.2.2.2.2.2.2.2.2.2.2.2.2.2.2.2
theorem fl_c28_eq {A0 A1 A2 A3 A4 A5 A6 A7 A8 A9 A10 A11 A12 A13 A14 A15 A16 A17 A18 A19 A20 A21 A22 A23 A24 A25 A26 A27 R : Type} {t : A0 × A1 × A2 × A3 × A4 × A5 × A6 × A7 × A8 × A9 × A10 × A11 × A12 × A13 × A14 × A15 × A16 × A17 × A18 × A19 × A20 × A21 × A22 × A23 × A24 × A25 × A26 × A27} {f : A0 → A1 → A2 → A3 → A4 → A5 → A6 → A7 → A8 → A9 → A10 → A11 → A12 → A13 → A14 → A15 → A16 → A17 → A18 → A19 → A20 → A21 → A22 → A23 → A24 → A25 → A26 → A27 → R} {a0 : A0} {a1 : A1} {a2 : A2} {a3 : A3} {a4 : A4} {a5 : A5} {a6 : A6} {a7 : A7} {a8 : A8} {a9 : A9} {a10 : A10} {a11 : A11} {a12 : A12} {a13 : A13} {a14 : A14} {a15 : A15} {a16 : A16} {a17 : A17} {a18 : A18} {a19 : A19} {a20 : A20} {a21 : A21} {a22 : A22} {a23 : A23} {a24 : A24} {a25 : A25} {a26 : A26} {a27 : A27} (h : t = (a0, a1, a2, a3, a4, a5, a6, a7, a8, a9, a10, a11, a12, a13, a14, a15, a16, a17, a18, a19, a20, a21, a22, a23, a24, a25, a26, a27)) : fl_c28 t f = f a0 a1 a2 a3 a4 a5 a6 a7 a8 a9 a10 a11 a12 a13 a14 a15 a16 a17 a18 a19 a20 a21 a22 a23 a24 a25 a26 a27 := by subst h; rfl
def fl_c29 {A0 A1 A2 A3 A4 A5 A6 A7 A8 A9 A10 A11 A12 A13 A14 A15 A16 A17 A18 A19 A20 A21 A22 A23 A24 A25 A26 A27 A28 R : Type} (t : A0 × A1 × A2 × A3 × A4 × A5 × A6 × A7 × A8 × A9 × A10 × A11 × A12 × A13 × A14 × A15 × A16 × A17 × A18 × A19 × A20 × A21 × A22 × A23 × A24 × A25 × A26 × A27 × A28) (f : A0 → A1 → A2 → A3 → A4 → A5 → A6 → A7 → A8 → A9 → A10 → A11 → A12 → A13 → A14 → A15 → A16 → A17 → A18 → A19 → A20 → A21 → A22 → A23 → A24 → A25 → A26 → A27 → A28 → R) : R := f t.1 t.2.1 t.2.2.1 t.2.2.2.1 t.2.2.2.2.1 t.2.2.2.2.2.1 t.2.2.2.2.2.2.1 t.2.2.2.2.2.2.2.1 t.2.2.2.2.2.2.2.2.1 t.2.2.2.2.2.2.2.2.2.1 t.2.2.2.2.2.2.2.2.2.2.1 t.2.2.2.2.2.2.2.2.2.2.2.1 t.2.2.2.2.2.2.2.2.2.2.2.2.1 t.2.2.2.2.2.2.2.2.2.2.2.2.2.1 t.2.2.2.2.2.2.2.2.2.2.2.2.2.2.1 t.2.2.2.2.2.2.2.2.2.2.2.2.2.2.2.1 t.2.2.2.2.2.2.2.2.2.2.2.2.2.2.2.2.1 t.2.2.2.2.2.2.2.2.2.2.2.2.2.2.2.2.2.1 t.2.2.2.2.2.2.2.2.2.2.2.2.2.2.2.2.2.2.1 t.2.2.2.2.2.2.2.2.2.2.2.2.2.2.2.2.2.2.2.1 t.2.2.2.2.2.2.2.2.2.2.2.2.2.2.2.2.2.2.2.2.1 t.2.2.2.2.2.2.2.2.2.2.2.2.2.2.2.2.2.2.2.2.2.1 t.2.2.2.2.2.2.2.2.2.2.2.2.2.2.2.2.2.2.2.2.2.2.1 t.2.2.2.2.2.2.2.2.2.2.2.2.2.2.2.2.2.2.2.2.2.2.2.1 t.2.2.2.2.2.2.2.2.2.2.2.2.2.2.2.2.2.2.2.2.2.2.2.2.1 t.2.2.2.2.2.2.2.2.2.2.2.2.2.2.2.2.2.2.2.2.2.2.2.2.2.1 t.2.2.2.2.2.2.2.2.2.2.2.2.2.2.2.2.2.2.2.2.2.2.2.2.2.2.1 t.2.2.2.2.2.2.2.2.2.2.2.2.2.2.2.2.2.2.2.2.2.2.2.2.2.2.2.1 t.2.2.2.2.2.2.2.2.2.2.2.2.2.2.2.2.2.2.2.2.2.2.2.2.2.2.2.2
theorem fl_c29_eq {A0 A1 A2 A3 A4 A5 A6 A7 A8 A9 A10 A11 A12 A13 A14 A15 A16 A17 A18 A19 A20 A21 A22 A23 A24 A25 A26 A27 A28 R : Type} {t : A0 × A1 × A2 × A3 × A4 × A5 × A6 × A7 × A8 × A9 × A10 × A11 × A12 × A13 × A14 × A15 × A16 × A17 × A18 × A19 × A20 × A21 × A22 × A23 × A24 × A25 × A26 × A27 × A28} {f : A0 → A1 → A2 → A3 → A4 → A5 → A6 → A7 → A8 → A9 → A10 → A11 → A12 → A13 → A14 → A15 → A16 → A17 → A18 → A19 → A20 → A21 → A22 → A23 → A24 → A25 → A26 → A27 → A28 → R} {a0 : A0} {a1 : A1} {a2 : A2} {a3 : A3} {a4 : A4} {a5 : A5} {a6 : A6} {a7 : A7} {a8 : A8} {a9 : A9} {a10 : A10} {a11 : A11} {a12 : A12} {a13 : A13} {a14 : A14} {a15 : A15} {a16 : A16} {a17 : A17} {a18 : A18} {a19 : A19} {a20 : A20} {a21 : A21} {a22 : A22} {a23 : A23} {a24 : A24} {a25 : A25} {a26 : A26} {a27 : A27} {a28 : A28} (h : t = (a0, a1, a2, a3, a4, a5, a6, a7, a8, a9, a10, a11, a12, a13, a14, a15, a16, a17, a18, a19, a20, a21, a22, a23, a24, a25, a26, a27, a28)) : fl_c29 t f = f a0 a1 a2 a3 a4 a5 a6 a7 a8 a9 a10 a11 a12 a13 a14 a15 a16 a17 a18 a19 a20 a21 a22 a23 a24 a25 a26 a27 a28 := by subst h; rfl
theorem em_r (e t : Int) : e ≤ e ∧ ((e = e ∧ t = t) ∨ t ≠ 59 ∨ e < e) := ⟨Int.le_refl _, Or.inl ⟨rfl, rfl⟩⟩
theorem em_n {e0 t0 e1 t1 : Int} (h : e0 ≤ e1 ∧ (t1 ≠ 59 ∨ e0 < e1)) : e0 ≤ e1 ∧ ((e1 = e0 ∧ t1 = t0) ∨ t1 ≠ 59 ∨ e0 < e1) := ⟨h.1, Or.inr h.2⟩
theorem em_t {e0 t0 e1 t1 e2 t2 : Int} (h : e0 ≤ e1 ∧ ((e1 = e0 ∧ t1 = t0) ∨ t1 ≠ 59 ∨ e0 < e1)) (g : e1 ≤ e2 ∧ ((e2 = e1 ∧ t2 = t1) ∨ t2 ≠ 59 ∨ e1 < e2)) : e0 ≤ e2 ∧ ((e2 = e0 ∧ t2 = t0) ∨ t2 ≠ 59 ∨ e0 < e2) := by omega
end FL
end P09221_fl
section P092231_defsC
def Ff_X7_within (a1 : Int) (a2 : Int) (a3 : Int) : Int :=
  if a1 < a2 then (0) else (if a3 < a1 then (0) else (1))

def Ff_X7_hasBit (a1 : Int) (a2 : Int) : Int :=
  fl_lt (fl_shr a1 a2) (fun x2 => fl_lt (fl_and x2 1) (fun x4 => if x4 = 1 then (1) else (0)))

def Ff_J6_bitCount_0f7a4 (a1 : Int) : Int :=
  fl_lt (fl_ushr a1 1) (fun x3 => fl_lt (fl_and x3 1431655765) (fun x7 => fl_lt (fl_isub a1 x7) (fun x8 => fl_lt (fl_and x8 858993459) (fun x14 => fl_lt (fl_ushr x8 2) (fun x17 => fl_lt (fl_and x17 858993459) (fun x21 => fl_lt (fl_iadd x14 x21) (fun x22 => fl_lt (fl_ushr x22 4) (fun x27 => fl_lt (fl_iadd x22 x27) (fun x28 => fl_lt (fl_and x28 252645135) (fun x32 => fl_lt (fl_ushr x32 8) (fun x38 => fl_lt (fl_iadd x32 x38) (fun x39 => fl_lt (fl_ushr x39 16) (fun x45 => fl_lt (fl_iadd x39 x45) (fun x46 => fl_lt (fl_and x46 63) (fun x51 => x51)))))))))))))))

def Ff_X6_add (a1 : Int) (a2 : Int) (a0_0 : Int) (fa0_2 : (Nat → Int)) (fa0_3 : (Nat → Int)) : Int × (Nat → Int) × (Nat → Int) :=
  if 3 ≤ a0_0 then ((a0_0, fa0_2, fa0_3)) else (fl_lt (fl_up fa0_2 (a0_0.toNat) a1) (fun f17 => fl_lt (fl_up fa0_3 (a0_0.toNat) a2) (fun f27 => fl_lt (a0_0 + 1) (fun x34 => (x34, f17, f27)))))

def Sf_X0_clear_30_1 (j30l1 : Int) (j30a0_10_a : (Nat → Int)) (j30a0_11_a : (Nat → Int)) : Sum (Int × (Nat → Int) × (Nat → Int)) (Int × Int × Int × Int × Int × (Nat → Int) × (Nat → Int)) :=
  if 9 ≤ j30l1 then (Sum.inr ((0, 0, 0, 0, 0, j30a0_10_a, j30a0_11_a))) else (fl_lt (fl_up j30a0_10_a (j30l1.toNat) 0) (fun f42 => fl_lt (fl_up j30a0_11_a (j30l1.toNat) 0) (fun f49 => fl_lt (j30l1 + 1) (fun x50 => Sum.inl (x50, f42, f49)))))
def Ff_X0_clear (fa0_10 : (Nat → Int)) (fa0_11 : (Nat → Int)) : Int × Int × Int × Int × Int × (Nat → Int) × (Nat → Int) :=
  fl_wh (fun t9 => Sf_X0_clear_30_1  t9.1 t9.2.1 t9.2.2) (0, 0, 0, 0, 0, (fun _ => 0), (fun _ => 0)) 10 (0, fa0_10, fa0_11)

def Ff_X0_addFigure (a1 : Int) (a2 : Int) (a3 : Int) (a0_8 : Int) (fa0_10 : (Nat → Int)) (fa0_11 : (Nat → Int)) : Int × (Nat → Int) × (Nat → Int) :=
  if a1 < 0 then ((a0_8, fa0_10, fa0_11)) else (if 9 ≤ a1 then ((a0_8, fa0_10, fa0_11)) else (fl_lt (fl_shl 1 a1) (fun x17 => fl_lt (fl_or a0_8 x17) (fun x18 => fl_lt (fl_up fa0_10 (a1.toNat) a2) (fun f28 => fl_lt (fl_up fa0_11 (a1.toNat) a3) (fun f35 => (x18, f28, f35)))))))

def Ff_X0_addSeen (a1 : Int) (a2 : Int) (a0_9 : Int) (fa0_12 : (Nat → Int)) (fa0_13 : (Nat → Int)) : Int × (Nat → Int) × (Nat → Int) :=
  if 6 ≤ a0_9 then ((a0_9, fa0_12, fa0_13)) else (fl_lt (fl_up fa0_12 (a0_9.toNat) a1) (fun f18 => fl_lt (fl_up fa0_13 (a0_9.toNat) a2) (fun f28 => fl_lt (a0_9 + 1) (fun x35 => (x35, f18, f28)))))

def Sf_X0_isSeenMinute_2_1 (a1 : Int) (a0_9 : Int) (fa0_13 : (Nat → Int)) (j2l2 : Int) : Sum (Int) (Int) :=
  if a0_9 ≤ j2l2 then (Sum.inr (0)) else (fl_lt (fa0_13 (j2l2.toNat)) (fun x15 => if x15 = a1 then (Sum.inr (1)) else (fl_lt (j2l2 + 1) (fun x22 => Sum.inl x22))))
def Ff_X0_isSeenMinute (a1 : Int) (a0_9 : Int) (fa0_13 : (Nat → Int)) : Int :=
  fl_wh (Sf_X0_isSeenMinute_2_1 a1 a0_9 fa0_13) 0 7 0

def Ff_X3_fails (a1 : Int) (a0_8 : Int) : Int × Int × Int :=
  (0, a1, a0_8)

def Gf_X3_scanWord_99_1 (j5a0_9 : Int) (j5a0_11 : Int) (j99s0 : Int) : Int × Int × Int :=
  (j5a0_9, j99s0, j5a0_11)
def Gf_X3_scanWord_79_1 (a0_8 : Int) (j5a0_9 : Int) (j5a0_11 : Int) : Int × Int × Int :=
  fl_lt (j5a0_9 - a0_8) (fun x88 => if 8 < x88 then (Gf_X3_scanWord_99_1 j5a0_9 j5a0_11 4) else (Gf_X3_scanWord_99_1 j5a0_9 j5a0_11 1))
def Sf_X3_scanWord_5_1 (a0_7 : Int) (a0_8 : Int) (fa0_3 : (Nat → Int)) (j5a0_9 : Int) (j5a0_11 : Int) : Sum (Int × Int) (Int × Int × Int) :=
  if a0_7 ≤ j5a0_9 then (Sum.inr (Gf_X3_scanWord_79_1 a0_8 j5a0_9 j5a0_11)) else (fl_lt (fa0_3 (j5a0_9.toNat)) (fun x24 => if x24 < 97 then (Sum.inr (Gf_X3_scanWord_79_1 a0_8 j5a0_9 j5a0_11)) else (if 122 < x24 then (Sum.inr (Gf_X3_scanWord_79_1 a0_8 j5a0_9 j5a0_11)) else (fl_lt (fl_lshl j5a0_11 8) (fun x51 => fl_lt (x24) (fun x61 => fl_lt (fl_lor x51 x61) (fun x62 => fl_lt (j5a0_9 + 1) (fun x72 => Sum.inl (x72, x62)))))))))
def Ff_X3_scanWord (a0_7 : Int) (a0_8 : Int) (a0_9 : Int) (fa0_3 : (Nat → Int)) : Int × Int × Int :=
  fl_wh (fun t9 => Sf_X3_scanWord_5_1 a0_7 a0_8 fa0_3 t9.1 t9.2) (0, 0, 0) 901 (a0_9, 0)

def Gf_X3_scanWhole_100_1 (j5a0_9 : Int) (j5a0_12 : Int) (j100s0 : Int) : Int × Int × Int :=
  (j5a0_9, j100s0, j5a0_12)
def Gf_X3_scanWhole_81_1 (a0_8 : Int) (j5a0_9 : Int) (j5a0_12 : Int) : Int × Int × Int :=
  fl_lt (j5a0_9 - a0_8) (fun x90 => if 3 < x90 then (Gf_X3_scanWhole_100_1 j5a0_9 j5a0_12 4) else (Gf_X3_scanWhole_100_1 j5a0_9 j5a0_12 2))
def Sf_X3_scanWhole_5_1 (a0_7 : Int) (a0_8 : Int) (fa0_3 : (Nat → Int)) (j5a0_9 : Int) (j5a0_12 : Int) : Sum (Int × Int) (Int × Int × Int) :=
  if a0_7 ≤ j5a0_9 then (Sum.inr (Gf_X3_scanWhole_81_1 a0_8 j5a0_9 j5a0_12)) else (fl_lt (fa0_3 (j5a0_9.toNat)) (fun x24 => if x24 < 48 then (Sum.inr (Gf_X3_scanWhole_81_1 a0_8 j5a0_9 j5a0_12)) else (if 57 < x24 then (Sum.inr (Gf_X3_scanWhole_81_1 a0_8 j5a0_9 j5a0_12)) else (fl_lt (fl_imul 10 j5a0_12) (fun x51 => fl_lt (fl_iadd x51 x24) (fun x61 => fl_lt (fl_isub x61 48) (fun x64 => fl_lt (j5a0_9 + 1) (fun x74 => Sum.inl (x74, x64)))))))))
def Ff_X3_scanWhole (a0_7 : Int) (a0_8 : Int) (a0_9 : Int) (fa0_3 : (Nat → Int)) : Int × Int × Int :=
  fl_wh (fun t9 => Sf_X3_scanWhole_5_1 a0_7 a0_8 fa0_3 t9.1 t9.2) (0, 0, 0) 901 (a0_9, 0)

def Gf_X3_advance_167_1 (a0_11 : Int) (a0_12 : Int) (j0a0_9 : Int) : Int × Int × Int × Int × Int :=
  (j0a0_9, j0a0_9, 4, a0_11, a0_12)
def Gf_X3_advance_132_1 (a0_7 : Int) (a0_11 : Int) (a0_12 : Int) (fa0_3 : (Nat → Int)) (j0a0_9 : Int) : Int × Int × Int × Int × Int :=
  fl_lt (fa0_3 (j0a0_9.toNat)) (fun x140 => if x140 < 48 then (Gf_X3_advance_167_1 a0_11 a0_12 j0a0_9) else (if 57 < x140 then (Gf_X3_advance_167_1 a0_11 a0_12 j0a0_9) else (fl_c3 (Ff_X3_scanWhole a0_7 j0a0_9 j0a0_9 fa0_3) (fun v161na0_9 v161na0_10 v161na0_12 => (j0a0_9, v161na0_9, v161na0_10, a0_11, v161na0_12)))))
def Gf_X3_advance_38_1 (a0_7 : Int) (a0_11 : Int) (a0_12 : Int) (fa0_3 : (Nat → Int)) (j0a0_9 : Int) : Int × Int × Int × Int × Int :=
  if j0a0_9 < a0_7 then (fl_lt (fa0_3 (j0a0_9.toNat)) (fun x73 => if x73 = 59 then (fl_lt (j0a0_9 + 1) (fun x90 => (j0a0_9, x90, 3, a0_11, a0_12))) else (if x73 < 97 then (Gf_X3_advance_132_1 a0_7 a0_11 a0_12 fa0_3 j0a0_9) else (if 122 < x73 then (Gf_X3_advance_132_1 a0_7 a0_11 a0_12 fa0_3 j0a0_9) else (fl_c3 (Ff_X3_scanWord a0_7 j0a0_9 j0a0_9 fa0_3) (fun v126na0_9 v126na0_10 v126na0_11 => (j0a0_9, v126na0_9, v126na0_10, v126na0_11, a0_12))))))) else ((j0a0_9, j0a0_9, 0, a0_11, a0_12))
def Sf_X3_advance_0_1 (a0_7 : Int) (a0_11 : Int) (a0_12 : Int) (fa0_3 : (Nat → Int)) (j0a0_9 : Int) : Sum (Int) (Int × Int × Int × Int × Int) :=
  if a0_7 ≤ j0a0_9 then (Sum.inr (Gf_X3_advance_38_1 a0_7 a0_11 a0_12 fa0_3 j0a0_9)) else (fl_lt (fa0_3 (j0a0_9.toNat)) (fun x19 => if x19 = 32 then (fl_lt (j0a0_9 + 1) (fun x31 => Sum.inl x31)) else (Sum.inr (Gf_X3_advance_38_1 a0_7 a0_11 a0_12 fa0_3 j0a0_9))))
def Ff_X3_advance (a0_7 : Int) (a0_9 : Int) (a0_11 : Int) (a0_12 : Int) (fa0_3 : (Nat → Int)) : Int × Int × Int × Int × Int :=
  fl_wh (Sf_X3_advance_0_1 a0_7 a0_11 a0_12 fa0_3) (0, 0, 0, 0, 0) 901 a0_9

def Sf_X3_isWord_15_1 (a0_11 : Int) (na1 : Int) (ca1 : (Nat → Int)) (j15l4 : Int) (j15l2 : Int) : Sum (Int × Int) (Int) :=
  fl_lt (na1) (fun r18 => if r18 ≤ j15l4 then (Sum.inr (fl_lt (fl_cmp a0_11 j15l2) (fun x48 => if x48 = 0 then (1) else (0)))) else (fl_lt (fl_lshl j15l2 8) (fun x27 => fl_lt (ca1 (j15l4.toNat)) (fun r31 => fl_lt (r31) (fun x34 => fl_lt (fl_lor x27 x34) (fun x35 => fl_lt (j15l4 + 1) (fun x37 => Sum.inl (x37, x35))))))))
def Ff_X3_isWord (a0_10 : Int) (a0_11 : Int) (na1 : Int) (ca1 : (Nat → Int)) : Int :=
  if a0_10 = 1 then (fl_wh (fun t9 => Sf_X3_isWord_15_1 a0_11 na1 ca1 t9.1 t9.2) 0 9 (0, 0)) else (0)

def Ff_X3_isWholeWithin (a1 : Int) (a2 : Int) (a0_1 : Int) (a0_2 : Int) (a0_8 : Int) (a0_10 : Int) (a0_12 : Int) : Int × Int × Int :=
  if a0_10 = 2 then (fl_lt (Ff_X7_within a0_12 a1 a2) (fun r20 => if r20 = 1 then ((1, a0_1, a0_2)) else (fl_c3 (Ff_X3_fails 4 a0_8) (fun r28 v28na0_1 v28na0_2 => (0, v28na0_1, v28na0_2))))) else (fl_c3 (Ff_X3_fails 1 a0_8) (fun r10 v10na0_1 v10na0_2 => (0, v10na0_1, v10na0_2)))

def Ff_X3_takeWord (a0_1 : Int) (a0_2 : Int) (a0_7 : Int) (a0_8 : Int) (a0_9 : Int) (a0_10 : Int) (a0_11 : Int) (a0_12 : Int) (fa0_3 : (Nat → Int)) (na1 : Int) (ca1 : (Nat → Int)) : Int × Int × Int × Int × Int × Int × Int × Int :=
  fl_lt (Ff_X3_isWord a0_10 a0_11 na1 ca1) (fun r2 => if r2 = 1 then (fl_c5 (Ff_X3_advance a0_7 a0_9 a0_11 a0_12 fa0_3) (fun v15na0_8 v15na0_9 v15na0_10 v15na0_11 v15na0_12 => (1, a0_1, a0_2, v15na0_8, v15na0_9, v15na0_10, v15na0_11, v15na0_12))) else (fl_c3 (Ff_X3_fails 1 a0_8) (fun r10 v10na0_1 v10na0_2 => (0, v10na0_1, v10na0_2, a0_8, a0_9, a0_10, a0_11, a0_12))))

def Ff_X3_takeWhole (a2 : Int) (a3 : Int) (a0_1 : Int) (a0_2 : Int) (a0_7 : Int) (a0_8 : Int) (a0_9 : Int) (a0_10 : Int) (a0_11 : Int) (a0_12 : Int) (a0_13 : Int) (fa0_3 : (Nat → Int)) (na1 : Int) (ca1 : (Nat → Int)) : Int × Int × Int × Int × Int × Int × Int × Int × Int :=
  fl_lt (Ff_X3_isWord a0_10 a0_11 na1 ca1) (fun r2 => if r2 = 1 then (fl_c5 (Ff_X3_advance a0_7 a0_9 a0_11 a0_12 fa0_3) (fun v15na0_8 v15na0_9 v15na0_10 v15na0_11 v15na0_12 => fl_c3 (Ff_X3_isWholeWithin a2 a3 a0_1 a0_2 v15na0_8 v15na0_10 v15na0_12) (fun r21 v21na0_1 v21na0_2 => if r21 = 1 then (fl_c5 (Ff_X3_advance a0_7 v15na0_9 v15na0_11 v15na0_12 fa0_3) (fun v38na0_8 v38na0_9 v38na0_10 v38na0_11 v38na0_12 => (1, v21na0_1, v21na0_2, v38na0_8, v38na0_9, v38na0_10, v38na0_11, v38na0_12, v15na0_12))) else ((0, v21na0_1, v21na0_2, v15na0_8, v15na0_9, v15na0_10, v15na0_11, v15na0_12, a0_13))))) else (fl_c3 (Ff_X3_fails 1 a0_8) (fun r10 v10na0_1 v10na0_2 => (0, v10na0_1, v10na0_2, a0_8, a0_9, a0_10, a0_11, a0_12, a0_13))))

def Gf_X3_takeName_53_1 (a0_6 : Int) (a0_8 : Int) (a0_9 : Int) (a0_10 : Int) (a0_11 : Int) (a0_12 : Int) (fa0_4 : (Nat → Int)) : Int × Int × Int × Int × Int × Int × Int × Int × Int × (Nat → Int) :=
  fl_c3 (Ff_X3_fails 1 a0_8) (fun r55 v55na0_1 v55na0_2 => (0, v55na0_1, v55na0_2, a0_6, a0_8, a0_9, a0_10, a0_11, a0_12, fa0_4))
def Gf_X3_takeName_127_1 (a0_1 : Int) (a0_2 : Int) (a0_7 : Int) (a0_9 : Int) (a0_11 : Int) (a0_12 : Int) (fa0_3 : (Nat → Int)) (j127a0_6 : Int) (j127a0_4_a : (Nat → Int)) : Int × Int × Int × Int × Int × Int × Int × Int × Int × (Nat → Int) :=
  fl_c5 (Ff_X3_advance a0_7 a0_9 a0_11 a0_12 fa0_3) (fun v128na0_8 v128na0_9 v128na0_10 v128na0_11 v128na0_12 => (1, a0_1, a0_2, j127a0_6, v128na0_8, v128na0_9, v128na0_10, v128na0_11, v128na0_12, j127a0_4_a))
def Sf_X3_takeName_61_1 (a0_1 : Int) (a0_2 : Int) (a0_6 : Int) (a0_7 : Int) (a0_8 : Int) (a0_9 : Int) (a0_10 : Int) (a0_11 : Int) (a0_12 : Int) (fa0_4 : (Nat → Int)) (fa0_3 : (Nat → Int)) (j61l1 : Int) : Sum (Int) (Int × Int × Int × Int × Int × Int × Int × Int × Int × (Nat → Int)) :=
  if a0_6 ≤ j61l1 then (Sum.inr (if 12 ≤ a0_6 then (Gf_X3_takeName_127_1 a0_1 a0_2 a0_7 a0_9 a0_11 a0_12 fa0_3 a0_6 fa0_4) else (fl_lt (fl_up fa0_4 (a0_6.toNat) a0_11) (fun f116 => fl_lt (a0_6 + 1) (fun x123 => Gf_X3_takeName_127_1 a0_1 a0_2 a0_7 a0_9 a0_11 a0_12 fa0_3 x123 f116))))) else (fl_lt (fa0_4 (j61l1.toNat)) (fun x74 => fl_lt (fl_cmp x74 a0_11) (fun x79 => if x79 = 0 then (Sum.inr (fl_c3 (Ff_X3_fails 3 a0_8) (fun r85 v85na0_1 v85na0_2 => (0, v85na0_1, v85na0_2, a0_6, a0_8, a0_9, a0_10, a0_11, a0_12, fa0_4)))) else (fl_lt (j61l1 + 1) (fun x89 => Sum.inl x89)))))
def Ff_X3_takeName (a0_1 : Int) (a0_2 : Int) (a0_6 : Int) (a0_7 : Int) (a0_8 : Int) (a0_9 : Int) (a0_10 : Int) (a0_11 : Int) (a0_12 : Int) (fa0_4 : (Nat → Int)) (fa0_3 : (Nat → Int)) : Int × Int × Int × Int × Int × Int × Int × Int × Int × (Nat → Int) :=
  if a0_10 = 1 then (fl_lt (Ff_X3_isWord a0_10 a0_11 7 (fl_A (sxc 0))) (fun r11 => if r11 = 1 then (Gf_X3_takeName_53_1 a0_6 a0_8 a0_9 a0_10 a0_11 a0_12 fa0_4) else (fl_lt (Ff_X3_isWord a0_10 a0_11 3 (fl_A (sxc 1))) (fun r20 => if r20 = 1 then (Gf_X3_takeName_53_1 a0_6 a0_8 a0_9 a0_10 a0_11 a0_12 fa0_4) else (fl_lt (Ff_X3_isWord a0_10 a0_11 6 (fl_A (sxc 2))) (fun r29 => if r29 = 1 then (Gf_X3_takeName_53_1 a0_6 a0_8 a0_9 a0_10 a0_11 a0_12 fa0_4) else (fl_lt (Ff_X3_isWord a0_10 a0_11 7 (fl_A (sxc 3))) (fun r38 => if r38 = 1 then (Gf_X3_takeName_53_1 a0_6 a0_8 a0_9 a0_10 a0_11 a0_12 fa0_4) else (fl_lt (Ff_X3_isWord a0_10 a0_11 4 (fl_A (sxc 4))) (fun r47 => if r47 = 1 then (Gf_X3_takeName_53_1 a0_6 a0_8 a0_9 a0_10 a0_11 a0_12 fa0_4) else (fl_wh (Sf_X3_takeName_61_1 a0_1 a0_2 a0_6 a0_7 a0_8 a0_9 a0_10 a0_11 a0_12 fa0_4 fa0_3) (0, 0, 0, 0, 0, 0, 0, 0, 0, (fun _ => 0)) 13 0))))))))))) else (Gf_X3_takeName_53_1 a0_6 a0_8 a0_9 a0_10 a0_11 a0_12 fa0_4)

def Ff_X3_readHall (a0_1 : Int) (a0_2 : Int) (a0_7 : Int) (a0_9 : Int) (a0_11 : Int) (a0_12 : Int) (a0_13 : Int) (fa0_3 : (Nat → Int)) (a0_5_0 : Int) (a0_5_1 : Int) (a0_5_2 : Int) (a0_5_3 : Int) : Int × Int × Int × Int × Int × Int × Int × Int × Int × Int × Int × Int × Int :=
  fl_c5 (Ff_X3_advance a0_7 a0_9 a0_11 a0_12 fa0_3) (fun v1na0_8 v1na0_9 v1na0_10 v1na0_11 v1na0_12 => fl_c9 (Ff_X3_takeWhole 2 9 a0_1 a0_2 a0_7 v1na0_8 v1na0_9 v1na0_10 v1na0_11 v1na0_12 a0_13 fa0_3 7 (fl_A (sxc 5))) (fun r10 v10na0_1 v10na0_2 v10na0_8 v10na0_9 v10na0_10 v10na0_11 v10na0_12 v10na0_13 => if r10 = 1 then (fl_c9 (Ff_X3_takeWhole 1 20 v10na0_1 v10na0_2 a0_7 v10na0_8 v10na0_9 v10na0_10 v10na0_11 v10na0_12 v10na0_13 fa0_3 4 (fl_A (sxc 6))) (fun r29 v29na0_1 v29na0_2 v29na0_8 v29na0_9 v29na0_10 v29na0_11 v29na0_12 v29na0_13 => if r29 = 1 then (fl_lt (v10na0_13 - 1) (fun x54 => fl_c9 (Ff_X3_takeWhole 0 x54 v29na0_1 v29na0_2 a0_7 v29na0_8 v29na0_9 v29na0_10 v29na0_11 v29na0_12 v29na0_13 fa0_3 6 (fl_A (sxc 7))) (fun r55 v55na0_1 v55na0_2 v55na0_8 v55na0_9 v55na0_10 v55na0_11 v55na0_12 v55na0_13 => if r55 = 1 then (fl_c9 (Ff_X3_takeWhole 0 100 v55na0_1 v55na0_2 a0_7 v55na0_8 v55na0_9 v55na0_10 v55na0_11 v55na0_12 v55na0_13 fa0_3 4 (fl_A (sxc 8))) (fun r80 v80na0_1 v80na0_2 v80na0_8 v80na0_9 v80na0_10 v80na0_11 v80na0_12 v80na0_13 => if r80 = 1 then ((1, v80na0_1, v80na0_2, v80na0_8, v80na0_9, v80na0_10, v80na0_11, v80na0_12, v80na0_13, v10na0_13, v29na0_13, v55na0_13, v80na0_13)) else ((0, v80na0_1, v80na0_2, v80na0_8, v80na0_9, v80na0_10, v80na0_11, v80na0_12, v80na0_13, a0_5_0, v29na0_13, v55na0_13, a0_5_3)))) else ((0, v55na0_1, v55na0_2, v55na0_8, v55na0_9, v55na0_10, v55na0_11, v55na0_12, v55na0_13, a0_5_0, v29na0_13, a0_5_2, a0_5_3))))) else ((0, v29na0_1, v29na0_2, v29na0_8, v29na0_9, v29na0_10, v29na0_11, v29na0_12, v29na0_13, a0_5_0, a0_5_1, a0_5_2, a0_5_3)))) else ((0, v10na0_1, v10na0_2, v10na0_8, v10na0_9, v10na0_10, v10na0_11, v10na0_12, v10na0_13, a0_5_0, a0_5_1, a0_5_2, a0_5_3))))

def Ff_X3_readLaw (a0_1 : Int) (a0_2 : Int) (a0_7 : Int) (a0_9 : Int) (a0_11 : Int) (a0_12 : Int) (a0_13 : Int) (fa0_3 : (Nat → Int)) (a0_5_0 : Int) (a0_5_4 : Int) (a0_5_5 : Int) (a0_5_6 : Int) (a0_5_7 : Int) : Int × Int × Int × Int × Int × Int × Int × Int × Int × Int × Int × Int × Int :=
  fl_c5 (Ff_X3_advance a0_7 a0_9 a0_11 a0_12 fa0_3) (fun v1na0_8 v1na0_9 v1na0_10 v1na0_11 v1na0_12 => fl_lt (a0_5_0 - 1) (fun x16 => fl_c9 (Ff_X3_takeWhole 0 x16 a0_1 a0_2 a0_7 v1na0_8 v1na0_9 v1na0_10 v1na0_11 v1na0_12 a0_13 fa0_3 5 (fl_A (sxc 9))) (fun r17 v17na0_1 v17na0_2 v17na0_8 v17na0_9 v17na0_10 v17na0_11 v17na0_12 v17na0_13 => if r17 = 1 then (fl_c9 (Ff_X3_takeWhole 0 x16 v17na0_1 v17na0_2 a0_7 v17na0_8 v17na0_9 v17na0_10 v17na0_11 v17na0_12 v17na0_13 fa0_3 4 (fl_A (sxc 10))) (fun r49 v49na0_1 v49na0_2 v49na0_8 v49na0_9 v49na0_10 v49na0_11 v49na0_12 v49na0_13 => if r49 = 1 then (fl_c9 (Ff_X3_takeWhole 0 x16 v49na0_1 v49na0_2 a0_7 v49na0_8 v49na0_9 v49na0_10 v49na0_11 v49na0_12 v49na0_13 fa0_3 5 (fl_A (sxc 11))) (fun r81 v81na0_1 v81na0_2 v81na0_8 v81na0_9 v81na0_10 v81na0_11 v81na0_12 v81na0_13 => if r81 = 1 then ((1, v81na0_1, v81na0_2, v81na0_8, v81na0_9, v81na0_10, v81na0_11, v81na0_12, v81na0_13, 1, v17na0_13, v49na0_13, v81na0_13)) else ((0, v81na0_1, v81na0_2, v81na0_8, v81na0_9, v81na0_10, v81na0_11, v81na0_12, v81na0_13, a0_5_4, v17na0_13, v49na0_13, a0_5_7)))) else ((0, v49na0_1, v49na0_2, v49na0_8, v49na0_9, v49na0_10, v49na0_11, v49na0_12, v49na0_13, a0_5_4, v17na0_13, a0_5_6, a0_5_7)))) else ((0, v17na0_1, v17na0_2, v17na0_8, v17na0_9, v17na0_10, v17na0_11, v17na0_12, v17na0_13, a0_5_4, a0_5_5, a0_5_6, a0_5_7)))))

def Ff_X3_readFigure (a0_1 : Int) (a0_2 : Int) (a0_6 : Int) (a0_7 : Int) (a0_9 : Int) (a0_11 : Int) (a0_12 : Int) (a0_13 : Int) (fa0_3 : (Nat → Int)) (fa0_4 : (Nat → Int)) (a0_5_0 : Int) (a0_5_8 : Int) (fa0_5_10 : (Nat → Int)) (fa0_5_11 : (Nat → Int)) : Int × Int × Int × Int × Int × Int × Int × Int × Int × Int × (Nat → Int) × Int × (Nat → Int) × (Nat → Int) :=
  fl_c5 (Ff_X3_advance a0_7 a0_9 a0_11 a0_12 fa0_3) (fun v1na0_8 v1na0_9 v1na0_10 v1na0_11 v1na0_12 => fl_c10 (Ff_X3_takeName a0_1 a0_2 a0_6 a0_7 v1na0_8 v1na0_9 v1na0_10 v1na0_11 v1na0_12 fa0_4 fa0_3) (fun r5 v5na0_1 v5na0_2 v5na0_6 v5na0_8 v5na0_9 v5na0_10 v5na0_11 v5na0_12 v5nfa0_4 => if r5 = 1 then (fl_c8 (Ff_X3_takeWord v5na0_1 v5na0_2 a0_7 v5na0_8 v5na0_9 v5na0_10 v5na0_11 v5na0_12 fa0_3 2 (fl_A (sxc 12))) (fun r14 v14na0_1 v14na0_2 v14na0_8 v14na0_9 v14na0_10 v14na0_11 v14na0_12 => if r14 = 1 then (fl_lt (a0_5_0 - 1) (fun x30 => fl_c3 (Ff_X3_isWholeWithin 0 x30 v14na0_1 v14na0_2 v14na0_8 v14na0_10 v14na0_12) (fun r31 v31na0_1 v31na0_2 => if r31 = 1 then (fl_lt (Ff_X7_hasBit a0_5_8 v14na0_12) (fun r52 => if r52 = 1 then (fl_c3 (Ff_X3_fails 3 v14na0_8) (fun r60 v60na0_1 v60na0_2 => (0, v60na0_1, v60na0_2, v5na0_6, v14na0_8, v14na0_9, v14na0_10, v14na0_11, v14na0_12, a0_13, v5nfa0_4, a0_5_8, fa0_5_10, fa0_5_11))) else (fl_c5 (Ff_X3_advance a0_7 v14na0_9 v14na0_11 v14na0_12 fa0_3) (fun v65na0_8 v65na0_9 v65na0_10 v65na0_11 v65na0_12 => fl_lt (Ff_X3_isWord v65na0_10 v65na0_11 5 (fl_A (sxc 13))) (fun r71 => if r71 = 1 then (fl_c9 (Ff_X3_takeWhole 1 20 v31na0_1 v31na0_2 a0_7 v65na0_8 v65na0_9 v65na0_10 v65na0_11 v65na0_12 a0_13 fa0_3 5 (fl_A (sxc 13))) (fun r99 v99na0_1 v99na0_2 v99na0_8 v99na0_9 v99na0_10 v99na0_11 v99na0_12 v99na0_13 => if r99 = 1 then (fl_c3 (Ff_X0_addFigure v14na0_12 1 v99na0_13 a0_5_8 fa0_5_10 fa0_5_11) (fun v117na0_8 v117nfa0_10 v117nfa0_11 => (1, v99na0_1, v99na0_2, v5na0_6, v99na0_8, v99na0_9, v99na0_10, v99na0_11, v99na0_12, v99na0_13, v5nfa0_4, v117na0_8, v117nfa0_10, v117nfa0_11))) else ((0, v99na0_1, v99na0_2, v5na0_6, v99na0_8, v99na0_9, v99na0_10, v99na0_11, v99na0_12, v99na0_13, v5nfa0_4, a0_5_8, fa0_5_10, fa0_5_11)))) else (fl_c9 (Ff_X3_takeWhole 1 20 v31na0_1 v31na0_2 a0_7 v65na0_8 v65na0_9 v65na0_10 v65na0_11 v65na0_12 a0_13 fa0_3 6 (fl_A (sxc 14))) (fun r99 v99na0_1 v99na0_2 v99na0_8 v99na0_9 v99na0_10 v99na0_11 v99na0_12 v99na0_13 => if r99 = 1 then (fl_c3 (Ff_X0_addFigure v14na0_12 2 v99na0_13 a0_5_8 fa0_5_10 fa0_5_11) (fun v117na0_8 v117nfa0_10 v117nfa0_11 => (1, v99na0_1, v99na0_2, v5na0_6, v99na0_8, v99na0_9, v99na0_10, v99na0_11, v99na0_12, v99na0_13, v5nfa0_4, v117na0_8, v117nfa0_10, v117nfa0_11))) else ((0, v99na0_1, v99na0_2, v5na0_6, v99na0_8, v99na0_9, v99na0_10, v99na0_11, v99na0_12, v99na0_13, v5nfa0_4, a0_5_8, fa0_5_10, fa0_5_11))))))))) else ((0, v31na0_1, v31na0_2, v5na0_6, v14na0_8, v14na0_9, v14na0_10, v14na0_11, v14na0_12, a0_13, v5nfa0_4, a0_5_8, fa0_5_10, fa0_5_11))))) else ((0, v14na0_1, v14na0_2, v5na0_6, v14na0_8, v14na0_9, v14na0_10, v14na0_11, v14na0_12, a0_13, v5nfa0_4, a0_5_8, fa0_5_10, fa0_5_11)))) else ((0, v5na0_1, v5na0_2, v5na0_6, v5na0_8, v5na0_9, v5na0_10, v5na0_11, v5na0_12, a0_13, v5nfa0_4, a0_5_8, fa0_5_10, fa0_5_11))))

def Ff_X3_readWatcher (a0_1 : Int) (a0_2 : Int) (a0_6 : Int) (a0_7 : Int) (a0_9 : Int) (a0_11 : Int) (a0_12 : Int) (a0_13 : Int) (fa0_3 : (Nat → Int)) (fa0_4 : (Nat → Int)) (a0_5_0 : Int) (a0_5_14_0 : Int) (fa0_5_14_2 : (Nat → Int)) (fa0_5_14_3 : (Nat → Int)) : Int × Int × Int × Int × Int × Int × Int × Int × Int × Int × (Nat → Int) × Int × (Nat → Int) × (Nat → Int) :=
  fl_c5 (Ff_X3_advance a0_7 a0_9 a0_11 a0_12 fa0_3) (fun v1na0_8 v1na0_9 v1na0_10 v1na0_11 v1na0_12 => fl_c10 (Ff_X3_takeName a0_1 a0_2 a0_6 a0_7 v1na0_8 v1na0_9 v1na0_10 v1na0_11 v1na0_12 fa0_4 fa0_3) (fun r5 v5na0_1 v5na0_2 v5na0_6 v5na0_8 v5na0_9 v5na0_10 v5na0_11 v5na0_12 v5nfa0_4 => if r5 = 1 then (fl_lt (a0_5_0 - 1) (fun x23 => fl_c9 (Ff_X3_takeWhole 0 x23 v5na0_1 v5na0_2 a0_7 v5na0_8 v5na0_9 v5na0_10 v5na0_11 v5na0_12 a0_13 fa0_3 4 (fl_A (sxc 15))) (fun r24 v24na0_1 v24na0_2 v24na0_8 v24na0_9 v24na0_10 v24na0_11 v24na0_12 v24na0_13 => if r24 = 1 then (fl_c9 (Ff_X3_takeWhole 0 x23 v24na0_1 v24na0_2 a0_7 v24na0_8 v24na0_9 v24na0_10 v24na0_11 v24na0_12 v24na0_13 fa0_3 2 (fl_A (sxc 16))) (fun r50 v50na0_1 v50na0_2 v50na0_8 v50na0_9 v50na0_10 v50na0_11 v50na0_12 v50na0_13 => if r50 = 1 then (fl_c3 (Ff_X6_add v24na0_13 v50na0_13 a0_5_14_0 fa0_5_14_2 fa0_5_14_3) (fun v70na0_0 v70nfa0_2 v70nfa0_3 => (1, v50na0_1, v50na0_2, v5na0_6, v50na0_8, v50na0_9, v50na0_10, v50na0_11, v50na0_12, v50na0_13, v5nfa0_4, v70na0_0, v70nfa0_2, v70nfa0_3))) else ((0, v50na0_1, v50na0_2, v5na0_6, v50na0_8, v50na0_9, v50na0_10, v50na0_11, v50na0_12, v50na0_13, v5nfa0_4, a0_5_14_0, fa0_5_14_2, fa0_5_14_3)))) else ((0, v24na0_1, v24na0_2, v5na0_6, v24na0_8, v24na0_9, v24na0_10, v24na0_11, v24na0_12, v24na0_13, v5nfa0_4, a0_5_14_0, fa0_5_14_2, fa0_5_14_3))))) else ((0, v5na0_1, v5na0_2, v5na0_6, v5na0_8, v5na0_9, v5na0_10, v5na0_11, v5na0_12, a0_13, v5nfa0_4, a0_5_14_0, fa0_5_14_2, fa0_5_14_3))))

def Ff_X3_readSeen (a0_1 : Int) (a0_2 : Int) (a0_7 : Int) (a0_8 : Int) (a0_9 : Int) (a0_10 : Int) (a0_11 : Int) (a0_12 : Int) (a0_13 : Int) (a0_5_0 : Int) (a0_5_9 : Int) (fa0_3 : (Nat → Int)) (fa0_5_13 : (Nat → Int)) (fa0_5_12 : (Nat → Int)) : Int × Int × Int × Int × Int × Int × Int × Int × Int × Int × (Nat → Int) × (Nat → Int) :=
  fl_lt (a0_5_0 - 1) (fun x12 => fl_c9 (Ff_X3_takeWhole 0 x12 a0_1 a0_2 a0_7 a0_8 a0_9 a0_10 a0_11 a0_12 a0_13 fa0_3 4 (fl_A (sxc 4))) (fun r13 v13na0_1 v13na0_2 v13na0_8 v13na0_9 v13na0_10 v13na0_11 v13na0_12 v13na0_13 => if r13 = 1 then (fl_c8 (Ff_X3_takeWord v13na0_1 v13na0_2 a0_7 v13na0_8 v13na0_9 v13na0_10 v13na0_11 v13na0_12 fa0_3 2 (fl_A (sxc 17))) (fun r29 v29na0_1 v29na0_2 v29na0_8 v29na0_9 v29na0_10 v29na0_11 v29na0_12 => if r29 = 1 then (fl_c3 (Ff_X3_isWholeWithin 0 999 v29na0_1 v29na0_2 v29na0_8 v29na0_10 v29na0_12) (fun r40 v40na0_1 v40na0_2 => if r40 = 1 then (fl_lt (Ff_X0_isSeenMinute v29na0_12 a0_5_9 fa0_5_13) (fun r56 => if r56 = 1 then (fl_c3 (Ff_X3_fails 3 v29na0_8) (fun r64 v64na0_1 v64na0_2 => (0, v64na0_1, v64na0_2, v29na0_8, v29na0_9, v29na0_10, v29na0_11, v29na0_12, v13na0_13, a0_5_9, fa0_5_13, fa0_5_12))) else (fl_c3 (Ff_X0_addSeen v13na0_13 v29na0_12 a0_5_9 fa0_5_12 fa0_5_13) (fun v77na0_9 v77nfa0_12 v77nfa0_13 => fl_c5 (Ff_X3_advance a0_7 v29na0_9 v29na0_11 v29na0_12 fa0_3) (fun v81na0_8 v81na0_9 v81na0_10 v81na0_11 v81na0_12 => (1, v40na0_1, v40na0_2, v81na0_8, v81na0_9, v81na0_10, v81na0_11, v81na0_12, v13na0_13, v77na0_9, v77nfa0_13, v77nfa0_12)))))) else ((0, v40na0_1, v40na0_2, v29na0_8, v29na0_9, v29na0_10, v29na0_11, v29na0_12, v13na0_13, a0_5_9, fa0_5_13, fa0_5_12)))) else ((0, v29na0_1, v29na0_2, v29na0_8, v29na0_9, v29na0_10, v29na0_11, v29na0_12, v13na0_13, a0_5_9, fa0_5_13, fa0_5_12)))) else ((0, v13na0_1, v13na0_2, v13na0_8, v13na0_9, v13na0_10, v13na0_11, v13na0_12, v13na0_13, a0_5_9, fa0_5_13, fa0_5_12))))

def Gf_X3_readLine_74_1 (a0_1 : Int) (a0_2 : Int) (a0_6 : Int) (a0_7 : Int) (a0_8 : Int) (a0_9 : Int) (a0_10 : Int) (a0_11 : Int) (a0_12 : Int) (a0_13 : Int) (a0_5_0 : Int) (a0_5_1 : Int) (a0_5_2 : Int) (a0_5_3 : Int) (a0_5_4 : Int) (a0_5_5 : Int) (a0_5_6 : Int) (a0_5_7 : Int) (a0_5_8 : Int) (a0_5_9 : Int) (fa0_3 : (Nat → Int)) (fa0_4 : (Nat → Int)) (fa0_5_10 : (Nat → Int)) (fa0_5_11 : (Nat → Int)) (a0_5_14_0 : Int) (fa0_5_14_2 : (Nat → Int)) (fa0_5_14_3 : (Nat → Int)) (fa0_5_13 : (Nat → Int)) (fa0_5_12 : (Nat → Int)) : Int × Int × Int × Int × Int × Int × Int × Int × Int × Int × Int × Int × Int × Int × Int × Int × Int × Int × Int × Int × (Nat → Int) × (Nat → Int) × (Nat → Int) × Int × (Nat → Int) × (Nat → Int) × (Nat → Int) × (Nat → Int) :=
  if a0_5_0 = 0 then (fl_c3 (Ff_X3_fails 6 a0_8) (fun r87 v87na0_1 v87na0_2 => (0, v87na0_1, v87na0_2, a0_6, a0_8, a0_9, a0_10, a0_11, a0_12, a0_13, a0_5_0, a0_5_1, a0_5_2, a0_5_3, a0_5_4, a0_5_5, a0_5_6, a0_5_7, a0_5_8, a0_5_9, fa0_4, fa0_5_10, fa0_5_11, a0_5_14_0, fa0_5_14_2, fa0_5_14_3, fa0_5_13, fa0_5_12))) else (fl_lt (Ff_X3_isWord a0_10 a0_11 3 (fl_A (sxc 1))) (fun r94 => if r94 = 1 then (if a0_5_4 = 0 then (fl_c13 (Ff_X3_readLaw a0_1 a0_2 a0_7 a0_9 a0_11 a0_12 a0_13 fa0_3 a0_5_0 a0_5_4 a0_5_5 a0_5_6 a0_5_7) (fun r119 v119na0_1 v119na0_2 v119na0_8 v119na0_9 v119na0_10 v119na0_11 v119na0_12 v119na0_13 v119na0_5_4 v119na0_5_5 v119na0_5_6 v119na0_5_7 => if r119 = 1 then ((1, v119na0_1, v119na0_2, a0_6, v119na0_8, v119na0_9, v119na0_10, v119na0_11, v119na0_12, v119na0_13, a0_5_0, a0_5_1, a0_5_2, a0_5_3, v119na0_5_4, v119na0_5_5, v119na0_5_6, v119na0_5_7, a0_5_8, a0_5_9, fa0_4, fa0_5_10, fa0_5_11, a0_5_14_0, fa0_5_14_2, fa0_5_14_3, fa0_5_13, fa0_5_12)) else ((0, v119na0_1, v119na0_2, a0_6, v119na0_8, v119na0_9, v119na0_10, v119na0_11, v119na0_12, v119na0_13, a0_5_0, a0_5_1, a0_5_2, a0_5_3, v119na0_5_4, v119na0_5_5, v119na0_5_6, v119na0_5_7, a0_5_8, a0_5_9, fa0_4, fa0_5_10, fa0_5_11, a0_5_14_0, fa0_5_14_2, fa0_5_14_3, fa0_5_13, fa0_5_12)))) else (fl_c3 (Ff_X3_fails 3 a0_8) (fun r112 v112na0_1 v112na0_2 => (0, v112na0_1, v112na0_2, a0_6, a0_8, a0_9, a0_10, a0_11, a0_12, a0_13, a0_5_0, a0_5_1, a0_5_2, a0_5_3, a0_5_4, a0_5_5, a0_5_6, a0_5_7, a0_5_8, a0_5_9, fa0_4, fa0_5_10, fa0_5_11, a0_5_14_0, fa0_5_14_2, fa0_5_14_3, fa0_5_13, fa0_5_12)))) else (fl_lt (Ff_X3_isWord a0_10 a0_11 6 (fl_A (sxc 2))) (fun r126 => if r126 = 1 then (fl_lt (Ff_J6_bitCount_0f7a4 a0_5_8) (fun r139 => if r139 < 9 then (fl_c14 (Ff_X3_readFigure a0_1 a0_2 a0_6 a0_7 a0_9 a0_11 a0_12 a0_13 fa0_3 fa0_4 a0_5_0 a0_5_8 fa0_5_10 fa0_5_11) (fun r156 v156na0_1 v156na0_2 v156na0_6 v156na0_8 v156na0_9 v156na0_10 v156na0_11 v156na0_12 v156na0_13 v156nfa0_4 v156na0_5_8 v156nfa0_5_10 v156nfa0_5_11 => if r156 = 1 then ((1, v156na0_1, v156na0_2, v156na0_6, v156na0_8, v156na0_9, v156na0_10, v156na0_11, v156na0_12, v156na0_13, a0_5_0, a0_5_1, a0_5_2, a0_5_3, a0_5_4, a0_5_5, a0_5_6, a0_5_7, v156na0_5_8, a0_5_9, v156nfa0_4, v156nfa0_5_10, v156nfa0_5_11, a0_5_14_0, fa0_5_14_2, fa0_5_14_3, fa0_5_13, fa0_5_12)) else ((0, v156na0_1, v156na0_2, v156na0_6, v156na0_8, v156na0_9, v156na0_10, v156na0_11, v156na0_12, v156na0_13, a0_5_0, a0_5_1, a0_5_2, a0_5_3, a0_5_4, a0_5_5, a0_5_6, a0_5_7, v156na0_5_8, a0_5_9, v156nfa0_4, v156nfa0_5_10, v156nfa0_5_11, a0_5_14_0, fa0_5_14_2, fa0_5_14_3, fa0_5_13, fa0_5_12)))) else (fl_c3 (Ff_X3_fails 5 a0_8) (fun r149 v149na0_1 v149na0_2 => (0, v149na0_1, v149na0_2, a0_6, a0_8, a0_9, a0_10, a0_11, a0_12, a0_13, a0_5_0, a0_5_1, a0_5_2, a0_5_3, a0_5_4, a0_5_5, a0_5_6, a0_5_7, a0_5_8, a0_5_9, fa0_4, fa0_5_10, fa0_5_11, a0_5_14_0, fa0_5_14_2, fa0_5_14_3, fa0_5_13, fa0_5_12))))) else (fl_lt (Ff_X3_isWord a0_10 a0_11 7 (fl_A (sxc 3))) (fun r163 => if r163 = 1 then (if a0_5_14_0 < 3 then (fl_c14 (Ff_X3_readWatcher a0_1 a0_2 a0_6 a0_7 a0_9 a0_11 a0_12 a0_13 fa0_3 fa0_4 a0_5_0 a0_5_14_0 fa0_5_14_2 fa0_5_14_3) (fun r192 v192na0_1 v192na0_2 v192na0_6 v192na0_8 v192na0_9 v192na0_10 v192na0_11 v192na0_12 v192na0_13 v192nfa0_4 v192na0_5_14_0 v192nfa0_5_14_2 v192nfa0_5_14_3 => if r192 = 1 then ((1, v192na0_1, v192na0_2, v192na0_6, v192na0_8, v192na0_9, v192na0_10, v192na0_11, v192na0_12, v192na0_13, a0_5_0, a0_5_1, a0_5_2, a0_5_3, a0_5_4, a0_5_5, a0_5_6, a0_5_7, a0_5_8, a0_5_9, v192nfa0_4, fa0_5_10, fa0_5_11, v192na0_5_14_0, v192nfa0_5_14_2, v192nfa0_5_14_3, fa0_5_13, fa0_5_12)) else ((0, v192na0_1, v192na0_2, v192na0_6, v192na0_8, v192na0_9, v192na0_10, v192na0_11, v192na0_12, v192na0_13, a0_5_0, a0_5_1, a0_5_2, a0_5_3, a0_5_4, a0_5_5, a0_5_6, a0_5_7, a0_5_8, a0_5_9, v192nfa0_4, fa0_5_10, fa0_5_11, v192na0_5_14_0, v192nfa0_5_14_2, v192nfa0_5_14_3, fa0_5_13, fa0_5_12)))) else (fl_c3 (Ff_X3_fails 5 a0_8) (fun r185 v185na0_1 v185na0_2 => (0, v185na0_1, v185na0_2, a0_6, a0_8, a0_9, a0_10, a0_11, a0_12, a0_13, a0_5_0, a0_5_1, a0_5_2, a0_5_3, a0_5_4, a0_5_5, a0_5_6, a0_5_7, a0_5_8, a0_5_9, fa0_4, fa0_5_10, fa0_5_11, a0_5_14_0, fa0_5_14_2, fa0_5_14_3, fa0_5_13, fa0_5_12)))) else (if a0_5_9 < 6 then (fl_c12 (Ff_X3_readSeen a0_1 a0_2 a0_7 a0_8 a0_9 a0_10 a0_11 a0_12 a0_13 a0_5_0 a0_5_9 fa0_3 fa0_5_13 fa0_5_12) (fun r217 v217na0_1 v217na0_2 v217na0_8 v217na0_9 v217na0_10 v217na0_11 v217na0_12 v217na0_13 v217na0_5_9 v217nfa0_5_13 v217nfa0_5_12 => if r217 = 1 then ((1, v217na0_1, v217na0_2, a0_6, v217na0_8, v217na0_9, v217na0_10, v217na0_11, v217na0_12, v217na0_13, a0_5_0, a0_5_1, a0_5_2, a0_5_3, a0_5_4, a0_5_5, a0_5_6, a0_5_7, a0_5_8, v217na0_5_9, fa0_4, fa0_5_10, fa0_5_11, a0_5_14_0, fa0_5_14_2, fa0_5_14_3, v217nfa0_5_13, v217nfa0_5_12)) else ((0, v217na0_1, v217na0_2, a0_6, v217na0_8, v217na0_9, v217na0_10, v217na0_11, v217na0_12, v217na0_13, a0_5_0, a0_5_1, a0_5_2, a0_5_3, a0_5_4, a0_5_5, a0_5_6, a0_5_7, a0_5_8, v217na0_5_9, fa0_4, fa0_5_10, fa0_5_11, a0_5_14_0, fa0_5_14_2, fa0_5_14_3, v217nfa0_5_13, v217nfa0_5_12)))) else (fl_c3 (Ff_X3_fails 5 a0_8) (fun r210 v210na0_1 v210na0_2 => (0, v210na0_1, v210na0_2, a0_6, a0_8, a0_9, a0_10, a0_11, a0_12, a0_13, a0_5_0, a0_5_1, a0_5_2, a0_5_3, a0_5_4, a0_5_5, a0_5_6, a0_5_7, a0_5_8, a0_5_9, fa0_4, fa0_5_10, fa0_5_11, a0_5_14_0, fa0_5_14_2, fa0_5_14_3, fa0_5_13, fa0_5_12))))))))))
def Gf_X3_readLine_74_2 (a0_1 : Int) (a0_2 : Int) (a0_6 : Int) (a0_7 : Int) (a0_8 : Int) (a0_9 : Int) (a0_10 : Int) (a0_11 : Int) (a0_12 : Int) (a0_13 : Int) (a0_5_0 : Int) (a0_5_1 : Int) (a0_5_2 : Int) (a0_5_3 : Int) (a0_5_4 : Int) (a0_5_5 : Int) (a0_5_6 : Int) (a0_5_7 : Int) (a0_5_8 : Int) (a0_5_9 : Int) (fa0_3 : (Nat → Int)) (fa0_4 : (Nat → Int)) (fa0_5_10 : (Nat → Int)) (fa0_5_11 : (Nat → Int)) (a0_5_14_0 : Int) (fa0_5_14_2 : (Nat → Int)) (fa0_5_14_3 : (Nat → Int)) (fa0_5_13 : (Nat → Int)) (fa0_5_12 : (Nat → Int)) : Int × Int × Int × Int × Int × Int × Int × Int × Int × Int × Int × Int × Int × Int × Int × Int × Int × Int × Int × Int × (Nat → Int) × (Nat → Int) × (Nat → Int) × Int × (Nat → Int) × (Nat → Int) × (Nat → Int) × (Nat → Int) :=
  if a0_5_0 = 0 then (fl_c3 (Ff_X3_fails 6 a0_8) (fun r87 v87na0_1 v87na0_2 => (0, v87na0_1, v87na0_2, a0_6, a0_8, a0_9, a0_10, a0_11, a0_12, a0_13, a0_5_0, a0_5_1, a0_5_2, a0_5_3, a0_5_4, a0_5_5, a0_5_6, a0_5_7, a0_5_8, a0_5_9, fa0_4, fa0_5_10, fa0_5_11, a0_5_14_0, fa0_5_14_2, fa0_5_14_3, fa0_5_13, fa0_5_12))) else (fl_lt (Ff_X3_isWord a0_10 a0_11 3 (fl_A (sxc 1))) (fun r94 => if r94 = 1 then (if a0_5_4 = 0 then (fl_c13 (Ff_X3_readLaw a0_1 a0_2 a0_7 a0_9 a0_11 a0_12 a0_13 fa0_3 a0_5_0 a0_5_4 a0_5_5 a0_5_6 a0_5_7) (fun r119 v119na0_1 v119na0_2 v119na0_8 v119na0_9 v119na0_10 v119na0_11 v119na0_12 v119na0_13 v119na0_5_4 v119na0_5_5 v119na0_5_6 v119na0_5_7 => if r119 = 1 then ((1, v119na0_1, v119na0_2, a0_6, v119na0_8, v119na0_9, v119na0_10, v119na0_11, v119na0_12, v119na0_13, a0_5_0, a0_5_1, a0_5_2, a0_5_3, v119na0_5_4, v119na0_5_5, v119na0_5_6, v119na0_5_7, a0_5_8, a0_5_9, fa0_4, fa0_5_10, fa0_5_11, a0_5_14_0, fa0_5_14_2, fa0_5_14_3, fa0_5_13, fa0_5_12)) else ((0, v119na0_1, v119na0_2, a0_6, v119na0_8, v119na0_9, v119na0_10, v119na0_11, v119na0_12, v119na0_13, a0_5_0, a0_5_1, a0_5_2, a0_5_3, v119na0_5_4, v119na0_5_5, v119na0_5_6, v119na0_5_7, a0_5_8, a0_5_9, fa0_4, fa0_5_10, fa0_5_11, a0_5_14_0, fa0_5_14_2, fa0_5_14_3, fa0_5_13, fa0_5_12)))) else (fl_c3 (Ff_X3_fails 3 a0_8) (fun r112 v112na0_1 v112na0_2 => (0, v112na0_1, v112na0_2, a0_6, a0_8, a0_9, a0_10, a0_11, a0_12, a0_13, a0_5_0, a0_5_1, a0_5_2, a0_5_3, a0_5_4, a0_5_5, a0_5_6, a0_5_7, a0_5_8, a0_5_9, fa0_4, fa0_5_10, fa0_5_11, a0_5_14_0, fa0_5_14_2, fa0_5_14_3, fa0_5_13, fa0_5_12)))) else (fl_lt (Ff_X3_isWord a0_10 a0_11 6 (fl_A (sxc 2))) (fun r126 => if r126 = 1 then (fl_lt (Ff_J6_bitCount_0f7a4 a0_5_8) (fun r139 => if r139 < 9 then (fl_c14 (Ff_X3_readFigure a0_1 a0_2 a0_6 a0_7 a0_9 a0_11 a0_12 a0_13 fa0_3 fa0_4 a0_5_0 a0_5_8 fa0_5_10 fa0_5_11) (fun r156 v156na0_1 v156na0_2 v156na0_6 v156na0_8 v156na0_9 v156na0_10 v156na0_11 v156na0_12 v156na0_13 v156nfa0_4 v156na0_5_8 v156nfa0_5_10 v156nfa0_5_11 => if r156 = 1 then ((1, v156na0_1, v156na0_2, v156na0_6, v156na0_8, v156na0_9, v156na0_10, v156na0_11, v156na0_12, v156na0_13, a0_5_0, a0_5_1, a0_5_2, a0_5_3, a0_5_4, a0_5_5, a0_5_6, a0_5_7, v156na0_5_8, a0_5_9, v156nfa0_4, v156nfa0_5_10, v156nfa0_5_11, a0_5_14_0, fa0_5_14_2, fa0_5_14_3, fa0_5_13, fa0_5_12)) else ((0, v156na0_1, v156na0_2, v156na0_6, v156na0_8, v156na0_9, v156na0_10, v156na0_11, v156na0_12, v156na0_13, a0_5_0, a0_5_1, a0_5_2, a0_5_3, a0_5_4, a0_5_5, a0_5_6, a0_5_7, v156na0_5_8, a0_5_9, v156nfa0_4, v156nfa0_5_10, v156nfa0_5_11, a0_5_14_0, fa0_5_14_2, fa0_5_14_3, fa0_5_13, fa0_5_12)))) else (fl_c3 (Ff_X3_fails 5 a0_8) (fun r149 v149na0_1 v149na0_2 => (0, v149na0_1, v149na0_2, a0_6, a0_8, a0_9, a0_10, a0_11, a0_12, a0_13, a0_5_0, a0_5_1, a0_5_2, a0_5_3, a0_5_4, a0_5_5, a0_5_6, a0_5_7, a0_5_8, a0_5_9, fa0_4, fa0_5_10, fa0_5_11, a0_5_14_0, fa0_5_14_2, fa0_5_14_3, fa0_5_13, fa0_5_12))))) else (fl_lt (Ff_X3_isWord a0_10 a0_11 7 (fl_A (sxc 3))) (fun r163 => if r163 = 1 then (if a0_5_14_0 < 3 then (fl_c14 (Ff_X3_readWatcher a0_1 a0_2 a0_6 a0_7 a0_9 a0_11 a0_12 a0_13 fa0_3 fa0_4 a0_5_0 a0_5_14_0 fa0_5_14_2 fa0_5_14_3) (fun r192 v192na0_1 v192na0_2 v192na0_6 v192na0_8 v192na0_9 v192na0_10 v192na0_11 v192na0_12 v192na0_13 v192nfa0_4 v192na0_5_14_0 v192nfa0_5_14_2 v192nfa0_5_14_3 => if r192 = 1 then ((1, v192na0_1, v192na0_2, v192na0_6, v192na0_8, v192na0_9, v192na0_10, v192na0_11, v192na0_12, v192na0_13, a0_5_0, a0_5_1, a0_5_2, a0_5_3, a0_5_4, a0_5_5, a0_5_6, a0_5_7, a0_5_8, a0_5_9, v192nfa0_4, fa0_5_10, fa0_5_11, v192na0_5_14_0, v192nfa0_5_14_2, v192nfa0_5_14_3, fa0_5_13, fa0_5_12)) else ((0, v192na0_1, v192na0_2, v192na0_6, v192na0_8, v192na0_9, v192na0_10, v192na0_11, v192na0_12, v192na0_13, a0_5_0, a0_5_1, a0_5_2, a0_5_3, a0_5_4, a0_5_5, a0_5_6, a0_5_7, a0_5_8, a0_5_9, v192nfa0_4, fa0_5_10, fa0_5_11, v192na0_5_14_0, v192nfa0_5_14_2, v192nfa0_5_14_3, fa0_5_13, fa0_5_12)))) else (fl_c3 (Ff_X3_fails 5 a0_8) (fun r185 v185na0_1 v185na0_2 => (0, v185na0_1, v185na0_2, a0_6, a0_8, a0_9, a0_10, a0_11, a0_12, a0_13, a0_5_0, a0_5_1, a0_5_2, a0_5_3, a0_5_4, a0_5_5, a0_5_6, a0_5_7, a0_5_8, a0_5_9, fa0_4, fa0_5_10, fa0_5_11, a0_5_14_0, fa0_5_14_2, fa0_5_14_3, fa0_5_13, fa0_5_12)))) else (if a0_5_9 < 6 then (fl_c12 (Ff_X3_readSeen a0_1 a0_2 a0_7 a0_8 a0_9 a0_10 a0_11 a0_12 a0_13 a0_5_0 a0_5_9 fa0_3 fa0_5_13 fa0_5_12) (fun r217 v217na0_1 v217na0_2 v217na0_8 v217na0_9 v217na0_10 v217na0_11 v217na0_12 v217na0_13 v217na0_5_9 v217nfa0_5_13 v217nfa0_5_12 => if r217 = 1 then ((1, v217na0_1, v217na0_2, a0_6, v217na0_8, v217na0_9, v217na0_10, v217na0_11, v217na0_12, v217na0_13, a0_5_0, a0_5_1, a0_5_2, a0_5_3, a0_5_4, a0_5_5, a0_5_6, a0_5_7, a0_5_8, v217na0_5_9, fa0_4, fa0_5_10, fa0_5_11, a0_5_14_0, fa0_5_14_2, fa0_5_14_3, v217nfa0_5_13, v217nfa0_5_12)) else ((0, v217na0_1, v217na0_2, a0_6, v217na0_8, v217na0_9, v217na0_10, v217na0_11, v217na0_12, v217na0_13, a0_5_0, a0_5_1, a0_5_2, a0_5_3, a0_5_4, a0_5_5, a0_5_6, a0_5_7, a0_5_8, v217na0_5_9, fa0_4, fa0_5_10, fa0_5_11, a0_5_14_0, fa0_5_14_2, fa0_5_14_3, v217nfa0_5_13, v217nfa0_5_12)))) else (fl_c3 (Ff_X3_fails 5 a0_8) (fun r210 v210na0_1 v210na0_2 => (0, v210na0_1, v210na0_2, a0_6, a0_8, a0_9, a0_10, a0_11, a0_12, a0_13, a0_5_0, a0_5_1, a0_5_2, a0_5_3, a0_5_4, a0_5_5, a0_5_6, a0_5_7, a0_5_8, a0_5_9, fa0_4, fa0_5_10, fa0_5_11, a0_5_14_0, fa0_5_14_2, fa0_5_14_3, fa0_5_13, fa0_5_12))))))))))
def Ff_X3_readLine (a0_1 : Int) (a0_2 : Int) (a0_6 : Int) (a0_7 : Int) (a0_8 : Int) (a0_9 : Int) (a0_10 : Int) (a0_11 : Int) (a0_12 : Int) (a0_13 : Int) (a0_5_0 : Int) (a0_5_1 : Int) (a0_5_2 : Int) (a0_5_3 : Int) (a0_5_4 : Int) (a0_5_5 : Int) (a0_5_6 : Int) (a0_5_7 : Int) (a0_5_8 : Int) (a0_5_9 : Int) (fa0_3 : (Nat → Int)) (fa0_4 : (Nat → Int)) (fa0_5_10 : (Nat → Int)) (fa0_5_11 : (Nat → Int)) (a0_5_14_0 : Int) (fa0_5_14_2 : (Nat → Int)) (fa0_5_14_3 : (Nat → Int)) (fa0_5_13 : (Nat → Int)) (fa0_5_12 : (Nat → Int)) : Int × Int × Int × Int × Int × Int × Int × Int × Int × Int × Int × Int × Int × Int × Int × Int × Int × Int × Int × Int × (Nat → Int) × (Nat → Int) × (Nat → Int) × Int × (Nat → Int) × (Nat → Int) × (Nat → Int) × (Nat → Int) :=
  fl_lt (Ff_X3_isWord a0_10 a0_11 7 (fl_A (sxc 0))) (fun r3 => if r3 = 1 then (if a0_5_0 ≤ 0 then (fl_c13 (Ff_X3_readHall a0_1 a0_2 a0_7 a0_9 a0_11 a0_12 a0_13 fa0_3 a0_5_0 a0_5_1 a0_5_2 a0_5_3) (fun r28 v28na0_1 v28na0_2 v28na0_8 v28na0_9 v28na0_10 v28na0_11 v28na0_12 v28na0_13 v28na0_5_0 v28na0_5_1 v28na0_5_2 v28na0_5_3 => if r28 = 1 then ((1, v28na0_1, v28na0_2, a0_6, v28na0_8, v28na0_9, v28na0_10, v28na0_11, v28na0_12, v28na0_13, v28na0_5_0, v28na0_5_1, v28na0_5_2, v28na0_5_3, a0_5_4, a0_5_5, a0_5_6, a0_5_7, a0_5_8, a0_5_9, fa0_4, fa0_5_10, fa0_5_11, a0_5_14_0, fa0_5_14_2, fa0_5_14_3, fa0_5_13, fa0_5_12)) else ((0, v28na0_1, v28na0_2, a0_6, v28na0_8, v28na0_9, v28na0_10, v28na0_11, v28na0_12, v28na0_13, v28na0_5_0, v28na0_5_1, v28na0_5_2, v28na0_5_3, a0_5_4, a0_5_5, a0_5_6, a0_5_7, a0_5_8, a0_5_9, fa0_4, fa0_5_10, fa0_5_11, a0_5_14_0, fa0_5_14_2, fa0_5_14_3, fa0_5_13, fa0_5_12)))) else (fl_c3 (Ff_X3_fails 3 a0_8) (fun r21 v21na0_1 v21na0_2 => (0, v21na0_1, v21na0_2, a0_6, a0_8, a0_9, a0_10, a0_11, a0_12, a0_13, a0_5_0, a0_5_1, a0_5_2, a0_5_3, a0_5_4, a0_5_5, a0_5_6, a0_5_7, a0_5_8, a0_5_9, fa0_4, fa0_5_10, fa0_5_11, a0_5_14_0, fa0_5_14_2, fa0_5_14_3, fa0_5_13, fa0_5_12)))) else (fl_lt (Ff_X3_isWord a0_10 a0_11 3 (fl_A (sxc 1))) (fun r35 => if r35 = 1 then (Gf_X3_readLine_74_1 a0_1 a0_2 a0_6 a0_7 a0_8 a0_9 a0_10 a0_11 a0_12 a0_13 a0_5_0 a0_5_1 a0_5_2 a0_5_3 a0_5_4 a0_5_5 a0_5_6 a0_5_7 a0_5_8 a0_5_9 fa0_3 fa0_4 fa0_5_10 fa0_5_11 a0_5_14_0 fa0_5_14_2 fa0_5_14_3 fa0_5_13 fa0_5_12) else (fl_lt (Ff_X3_isWord a0_10 a0_11 6 (fl_A (sxc 2))) (fun r44 => if r44 = 1 then (Gf_X3_readLine_74_2 a0_1 a0_2 a0_6 a0_7 a0_8 a0_9 a0_10 a0_11 a0_12 a0_13 a0_5_0 a0_5_1 a0_5_2 a0_5_3 a0_5_4 a0_5_5 a0_5_6 a0_5_7 a0_5_8 a0_5_9 fa0_3 fa0_4 fa0_5_10 fa0_5_11 a0_5_14_0 fa0_5_14_2 fa0_5_14_3 fa0_5_13 fa0_5_12) else (fl_lt (Ff_X3_isWord a0_10 a0_11 7 (fl_A (sxc 3))) (fun r53 => if r53 = 1 then (Gf_X3_readLine_74_2 a0_1 a0_2 a0_6 a0_7 a0_8 a0_9 a0_10 a0_11 a0_12 a0_13 a0_5_0 a0_5_1 a0_5_2 a0_5_3 a0_5_4 a0_5_5 a0_5_6 a0_5_7 a0_5_8 a0_5_9 fa0_3 fa0_4 fa0_5_10 fa0_5_11 a0_5_14_0 fa0_5_14_2 fa0_5_14_3 fa0_5_13 fa0_5_12) else (fl_lt (Ff_X3_isWord a0_10 a0_11 4 (fl_A (sxc 4))) (fun r62 => if r62 = 1 then (Gf_X3_readLine_74_2 a0_1 a0_2 a0_6 a0_7 a0_8 a0_9 a0_10 a0_11 a0_12 a0_13 a0_5_0 a0_5_1 a0_5_2 a0_5_3 a0_5_4 a0_5_5 a0_5_6 a0_5_7 a0_5_8 a0_5_9 fa0_3 fa0_4 fa0_5_10 fa0_5_11 a0_5_14_0 fa0_5_14_2 fa0_5_14_3 fa0_5_13 fa0_5_12) else (fl_c3 (Ff_X3_fails 1 a0_8) (fun r70 v70na0_1 v70na0_2 => (0, v70na0_1, v70na0_2, a0_6, a0_8, a0_9, a0_10, a0_11, a0_12, a0_13, a0_5_0, a0_5_1, a0_5_2, a0_5_3, a0_5_4, a0_5_5, a0_5_6, a0_5_7, a0_5_8, a0_5_9, fa0_4, fa0_5_10, fa0_5_11, a0_5_14_0, fa0_5_14_2, fa0_5_14_3, fa0_5_13, fa0_5_12))))))))))))

def Gf_X3_read_89_1 (x6 : Int) (j55l2 : Int) (j55a0_1 : Int) (j55a0_2 : Int) (j55a0_6 : Int) (j55a0_8 : Int) (j55a0_9 : Int) (j55a0_10 : Int) (j55a0_11 : Int) (j55a0_12 : Int) (j55a0_13 : Int) (j55a0_5_0 : Int) (j55a0_5_1 : Int) (j55a0_5_2 : Int) (j55a0_5_3 : Int) (j55a0_5_4 : Int) (j55a0_5_5 : Int) (j55a0_5_6 : Int) (j55a0_5_7 : Int) (j55a0_5_8 : Int) (j55a0_5_9 : Int) (j55a0_5_14_0 : Int) (j55a0_5_10_a : (Nat → Int)) (j55a0_5_11_a : (Nat → Int)) (j55a0_4_a : (Nat → Int)) (j55a0_5_14_2_a : (Nat → Int)) (j55a0_5_14_3_a : (Nat → Int)) (j55a0_5_13_a : (Nat → Int)) (j55a0_5_12_a : (Nat → Int)) : Int × Int × Int × Int × Int × Int × Int × Int × Int × Int × Int × Int × Int × Int × Int × Int × Int × Int × Int × Int × Int × Int × (Nat → Int) × (Nat → Int) × (Nat → Int) × (Nat → Int) × (Nat → Int) × (Nat → Int) × (Nat → Int) :=
  if j55l2 = 0 then ((0, j55a0_1, j55a0_2, j55a0_6, x6, j55a0_8, j55a0_9, j55a0_10, j55a0_11, j55a0_12, j55a0_13, j55a0_5_0, j55a0_5_1, j55a0_5_2, j55a0_5_3, j55a0_5_4, j55a0_5_5, j55a0_5_6, j55a0_5_7, j55a0_5_8, j55a0_5_9, j55a0_5_14_0, j55a0_5_10_a, j55a0_5_11_a, j55a0_4_a, j55a0_5_14_2_a, j55a0_5_14_3_a, j55a0_5_13_a, j55a0_5_12_a)) else (if j55a0_10 = 0 then (if j55a0_5_4 = 0 then (fl_c3 (Ff_X3_fails 6 j55a0_8) (fun r121 v121na0_1 v121na0_2 => (0, v121na0_1, v121na0_2, j55a0_6, x6, j55a0_8, j55a0_9, j55a0_10, j55a0_11, j55a0_12, j55a0_13, j55a0_5_0, j55a0_5_1, j55a0_5_2, j55a0_5_3, j55a0_5_4, j55a0_5_5, j55a0_5_6, j55a0_5_7, j55a0_5_8, j55a0_5_9, j55a0_5_14_0, j55a0_5_10_a, j55a0_5_11_a, j55a0_4_a, j55a0_5_14_2_a, j55a0_5_14_3_a, j55a0_5_13_a, j55a0_5_12_a))) else ((1, j55a0_1, j55a0_2, j55a0_6, x6, j55a0_8, j55a0_9, j55a0_10, j55a0_11, j55a0_12, j55a0_13, j55a0_5_0, j55a0_5_1, j55a0_5_2, j55a0_5_3, j55a0_5_4, j55a0_5_5, j55a0_5_6, j55a0_5_7, j55a0_5_8, j55a0_5_9, j55a0_5_14_0, j55a0_5_10_a, j55a0_5_11_a, j55a0_4_a, j55a0_5_14_2_a, j55a0_5_14_3_a, j55a0_5_13_a, j55a0_5_12_a))) else (fl_c3 (Ff_X3_fails 1 j55a0_8) (fun r104 v104na0_1 v104na0_2 => (0, v104na0_1, v104na0_2, j55a0_6, x6, j55a0_8, j55a0_9, j55a0_10, j55a0_11, j55a0_12, j55a0_13, j55a0_5_0, j55a0_5_1, j55a0_5_2, j55a0_5_3, j55a0_5_4, j55a0_5_5, j55a0_5_6, j55a0_5_7, j55a0_5_8, j55a0_5_9, j55a0_5_14_0, j55a0_5_10_a, j55a0_5_11_a, j55a0_4_a, j55a0_5_14_2_a, j55a0_5_14_3_a, j55a0_5_13_a, j55a0_5_12_a))))
def Sf_X3_read_55_1 (fa0_3 : (Nat → Int)) (x6 : Int) (j55l3 : Int) (j55l2 : Int) (j55a0_1 : Int) (j55a0_2 : Int) (j55a0_6 : Int) (j55a0_8 : Int) (j55a0_9 : Int) (j55a0_10 : Int) (j55a0_11 : Int) (j55a0_12 : Int) (j55a0_13 : Int) (j55a0_5_0 : Int) (j55a0_5_1 : Int) (j55a0_5_2 : Int) (j55a0_5_3 : Int) (j55a0_5_4 : Int) (j55a0_5_5 : Int) (j55a0_5_6 : Int) (j55a0_5_7 : Int) (j55a0_5_8 : Int) (j55a0_5_9 : Int) (j55a0_5_14_0 : Int) (j55a0_5_10_a : (Nat → Int)) (j55a0_5_11_a : (Nat → Int)) (j55a0_4_a : (Nat → Int)) (j55a0_5_14_2_a : (Nat → Int)) (j55a0_5_14_3_a : (Nat → Int)) (j55a0_5_13_a : (Nat → Int)) (j55a0_5_12_a : (Nat → Int)) : Sum (Int × Int × Int × Int × Int × Int × Int × Int × Int × Int × Int × Int × Int × Int × Int × Int × Int × Int × Int × Int × Int × Int × (Nat → Int) × (Nat → Int) × (Nat → Int) × (Nat → Int) × (Nat → Int) × (Nat → Int) × (Nat → Int)) (Int × Int × Int × Int × Int × Int × Int × Int × Int × Int × Int × Int × Int × Int × Int × Int × Int × Int × Int × Int × Int × Int × (Nat → Int) × (Nat → Int) × (Nat → Int) × (Nat → Int) × (Nat → Int) × (Nat → Int) × (Nat → Int)) :=
  if j55l2 = 0 then (Sum.inr (Gf_X3_read_89_1 x6 j55l2 j55a0_1 j55a0_2 j55a0_6 j55a0_8 j55a0_9 j55a0_10 j55a0_11 j55a0_12 j55a0_13 j55a0_5_0 j55a0_5_1 j55a0_5_2 j55a0_5_3 j55a0_5_4 j55a0_5_5 j55a0_5_6 j55a0_5_7 j55a0_5_8 j55a0_5_9 j55a0_5_14_0 j55a0_5_10_a j55a0_5_11_a j55a0_4_a j55a0_5_14_2_a j55a0_5_14_3_a j55a0_5_13_a j55a0_5_12_a)) else (if j55a0_10 = 3 then (if 900 ≤ j55l3 then (Sum.inr (Gf_X3_read_89_1 x6 j55l2 j55a0_1 j55a0_2 j55a0_6 j55a0_8 j55a0_9 j55a0_10 j55a0_11 j55a0_12 j55a0_13 j55a0_5_0 j55a0_5_1 j55a0_5_2 j55a0_5_3 j55a0_5_4 j55a0_5_5 j55a0_5_6 j55a0_5_7 j55a0_5_8 j55a0_5_9 j55a0_5_14_0 j55a0_5_10_a j55a0_5_11_a j55a0_4_a j55a0_5_14_2_a j55a0_5_14_3_a j55a0_5_13_a j55a0_5_12_a)) else (fl_c5 (Ff_X3_advance x6 j55a0_9 j55a0_11 j55a0_12 fa0_3) (fun v75na0_8 v75na0_9 v75na0_10 v75na0_11 v75na0_12 => fl_c28 (Ff_X3_readLine j55a0_1 j55a0_2 j55a0_6 x6 v75na0_8 v75na0_9 v75na0_10 v75na0_11 v75na0_12 j55a0_13 j55a0_5_0 j55a0_5_1 j55a0_5_2 j55a0_5_3 j55a0_5_4 j55a0_5_5 j55a0_5_6 j55a0_5_7 j55a0_5_8 j55a0_5_9 fa0_3 j55a0_4_a j55a0_5_10_a j55a0_5_11_a j55a0_5_14_0 j55a0_5_14_2_a j55a0_5_14_3_a j55a0_5_13_a j55a0_5_12_a) (fun r79 v79na0_1 v79na0_2 v79na0_6 v79na0_8 v79na0_9 v79na0_10 v79na0_11 v79na0_12 v79na0_13 v79na0_5_0 v79na0_5_1 v79na0_5_2 v79na0_5_3 v79na0_5_4 v79na0_5_5 v79na0_5_6 v79na0_5_7 v79na0_5_8 v79na0_5_9 v79nfa0_4 v79nfa0_5_10 v79nfa0_5_11 v79na0_5_14_0 v79nfa0_5_14_2 v79nfa0_5_14_3 v79nfa0_5_13 v79nfa0_5_12 => if r79 = 1 then (fl_lt (j55l3 + 1) (fun x83 => Sum.inl (x83, 1, v79na0_1, v79na0_2, v79na0_6, v79na0_8, v79na0_9, v79na0_10, v79na0_11, v79na0_12, v79na0_13, v79na0_5_0, v79na0_5_1, v79na0_5_2, v79na0_5_3, v79na0_5_4, v79na0_5_5, v79na0_5_6, v79na0_5_7, v79na0_5_8, v79na0_5_9, v79na0_5_14_0, v79nfa0_5_10, v79nfa0_5_11, v79nfa0_4, v79nfa0_5_14_2, v79nfa0_5_14_3, v79nfa0_5_13, v79nfa0_5_12))) else (fl_lt (j55l3 + 1) (fun x83 => Sum.inl (x83, 0, v79na0_1, v79na0_2, v79na0_6, v79na0_8, v79na0_9, v79na0_10, v79na0_11, v79na0_12, v79na0_13, v79na0_5_0, v79na0_5_1, v79na0_5_2, v79na0_5_3, v79na0_5_4, v79na0_5_5, v79na0_5_6, v79na0_5_7, v79na0_5_8, v79na0_5_9, v79na0_5_14_0, v79nfa0_5_10, v79nfa0_5_11, v79nfa0_4, v79nfa0_5_14_2, v79nfa0_5_14_3, v79nfa0_5_13, v79nfa0_5_12))))))) else (Sum.inr (Gf_X3_read_89_1 x6 j55l2 j55a0_1 j55a0_2 j55a0_6 j55a0_8 j55a0_9 j55a0_10 j55a0_11 j55a0_12 j55a0_13 j55a0_5_0 j55a0_5_1 j55a0_5_2 j55a0_5_3 j55a0_5_4 j55a0_5_5 j55a0_5_6 j55a0_5_7 j55a0_5_8 j55a0_5_9 j55a0_5_14_0 j55a0_5_10_a j55a0_5_11_a j55a0_4_a j55a0_5_14_2_a j55a0_5_14_3_a j55a0_5_13_a j55a0_5_12_a)))
def Gf_X3_read_89_2 (x6 : Int) (j55l2 : Int) (j55a0_1 : Int) (j55a0_2 : Int) (j55a0_6 : Int) (j55a0_8 : Int) (j55a0_9 : Int) (j55a0_10 : Int) (j55a0_11 : Int) (j55a0_12 : Int) (j55a0_13 : Int) (j55a0_5_0 : Int) (j55a0_5_1 : Int) (j55a0_5_2 : Int) (j55a0_5_3 : Int) (j55a0_5_4 : Int) (j55a0_5_5 : Int) (j55a0_5_6 : Int) (j55a0_5_7 : Int) (j55a0_5_8 : Int) (j55a0_5_9 : Int) (j55a0_5_14_0 : Int) (j55a0_5_10_a : (Nat → Int)) (j55a0_5_11_a : (Nat → Int)) (j55a0_4_a : (Nat → Int)) (j55a0_5_14_2_a : (Nat → Int)) (j55a0_5_14_3_a : (Nat → Int)) (j55a0_5_13_a : (Nat → Int)) (j55a0_5_12_a : (Nat → Int)) : Int × Int × Int × Int × Int × Int × Int × Int × Int × Int × Int × Int × Int × Int × Int × Int × Int × Int × Int × Int × Int × Int × (Nat → Int) × (Nat → Int) × (Nat → Int) × (Nat → Int) × (Nat → Int) × (Nat → Int) × (Nat → Int) :=
  if j55l2 = 0 then ((0, j55a0_1, j55a0_2, j55a0_6, x6, j55a0_8, j55a0_9, j55a0_10, j55a0_11, j55a0_12, j55a0_13, j55a0_5_0, j55a0_5_1, j55a0_5_2, j55a0_5_3, j55a0_5_4, j55a0_5_5, j55a0_5_6, j55a0_5_7, j55a0_5_8, j55a0_5_9, j55a0_5_14_0, j55a0_5_10_a, j55a0_5_11_a, j55a0_4_a, j55a0_5_14_2_a, j55a0_5_14_3_a, j55a0_5_13_a, j55a0_5_12_a)) else (if j55a0_10 = 0 then (if j55a0_5_4 = 0 then (fl_c3 (Ff_X3_fails 6 j55a0_8) (fun r121 v121na0_1 v121na0_2 => (0, v121na0_1, v121na0_2, j55a0_6, x6, j55a0_8, j55a0_9, j55a0_10, j55a0_11, j55a0_12, j55a0_13, j55a0_5_0, j55a0_5_1, j55a0_5_2, j55a0_5_3, j55a0_5_4, j55a0_5_5, j55a0_5_6, j55a0_5_7, j55a0_5_8, j55a0_5_9, j55a0_5_14_0, j55a0_5_10_a, j55a0_5_11_a, j55a0_4_a, j55a0_5_14_2_a, j55a0_5_14_3_a, j55a0_5_13_a, j55a0_5_12_a))) else ((1, j55a0_1, j55a0_2, j55a0_6, x6, j55a0_8, j55a0_9, j55a0_10, j55a0_11, j55a0_12, j55a0_13, j55a0_5_0, j55a0_5_1, j55a0_5_2, j55a0_5_3, j55a0_5_4, j55a0_5_5, j55a0_5_6, j55a0_5_7, j55a0_5_8, j55a0_5_9, j55a0_5_14_0, j55a0_5_10_a, j55a0_5_11_a, j55a0_4_a, j55a0_5_14_2_a, j55a0_5_14_3_a, j55a0_5_13_a, j55a0_5_12_a))) else (fl_c3 (Ff_X3_fails 1 j55a0_8) (fun r104 v104na0_1 v104na0_2 => (0, v104na0_1, v104na0_2, j55a0_6, x6, j55a0_8, j55a0_9, j55a0_10, j55a0_11, j55a0_12, j55a0_13, j55a0_5_0, j55a0_5_1, j55a0_5_2, j55a0_5_3, j55a0_5_4, j55a0_5_5, j55a0_5_6, j55a0_5_7, j55a0_5_8, j55a0_5_9, j55a0_5_14_0, j55a0_5_10_a, j55a0_5_11_a, j55a0_4_a, j55a0_5_14_2_a, j55a0_5_14_3_a, j55a0_5_13_a, j55a0_5_12_a))))
def Sf_X3_read_55_2 (fa0_3 : (Nat → Int)) (x6 : Int) (j55l3 : Int) (j55l2 : Int) (j55a0_1 : Int) (j55a0_2 : Int) (j55a0_6 : Int) (j55a0_8 : Int) (j55a0_9 : Int) (j55a0_10 : Int) (j55a0_11 : Int) (j55a0_12 : Int) (j55a0_13 : Int) (j55a0_5_0 : Int) (j55a0_5_1 : Int) (j55a0_5_2 : Int) (j55a0_5_3 : Int) (j55a0_5_4 : Int) (j55a0_5_5 : Int) (j55a0_5_6 : Int) (j55a0_5_7 : Int) (j55a0_5_8 : Int) (j55a0_5_9 : Int) (j55a0_5_14_0 : Int) (j55a0_5_10_a : (Nat → Int)) (j55a0_5_11_a : (Nat → Int)) (j55a0_4_a : (Nat → Int)) (j55a0_5_14_2_a : (Nat → Int)) (j55a0_5_14_3_a : (Nat → Int)) (j55a0_5_13_a : (Nat → Int)) (j55a0_5_12_a : (Nat → Int)) : Sum (Int × Int × Int × Int × Int × Int × Int × Int × Int × Int × Int × Int × Int × Int × Int × Int × Int × Int × Int × Int × Int × Int × (Nat → Int) × (Nat → Int) × (Nat → Int) × (Nat → Int) × (Nat → Int) × (Nat → Int) × (Nat → Int)) (Int × Int × Int × Int × Int × Int × Int × Int × Int × Int × Int × Int × Int × Int × Int × Int × Int × Int × Int × Int × Int × Int × (Nat → Int) × (Nat → Int) × (Nat → Int) × (Nat → Int) × (Nat → Int) × (Nat → Int) × (Nat → Int)) :=
  if j55l2 = 0 then (Sum.inr (Gf_X3_read_89_2 x6 j55l2 j55a0_1 j55a0_2 j55a0_6 j55a0_8 j55a0_9 j55a0_10 j55a0_11 j55a0_12 j55a0_13 j55a0_5_0 j55a0_5_1 j55a0_5_2 j55a0_5_3 j55a0_5_4 j55a0_5_5 j55a0_5_6 j55a0_5_7 j55a0_5_8 j55a0_5_9 j55a0_5_14_0 j55a0_5_10_a j55a0_5_11_a j55a0_4_a j55a0_5_14_2_a j55a0_5_14_3_a j55a0_5_13_a j55a0_5_12_a)) else (if j55a0_10 = 3 then (if 900 ≤ j55l3 then (Sum.inr (Gf_X3_read_89_2 x6 j55l2 j55a0_1 j55a0_2 j55a0_6 j55a0_8 j55a0_9 j55a0_10 j55a0_11 j55a0_12 j55a0_13 j55a0_5_0 j55a0_5_1 j55a0_5_2 j55a0_5_3 j55a0_5_4 j55a0_5_5 j55a0_5_6 j55a0_5_7 j55a0_5_8 j55a0_5_9 j55a0_5_14_0 j55a0_5_10_a j55a0_5_11_a j55a0_4_a j55a0_5_14_2_a j55a0_5_14_3_a j55a0_5_13_a j55a0_5_12_a)) else (fl_c5 (Ff_X3_advance x6 j55a0_9 j55a0_11 j55a0_12 fa0_3) (fun v75na0_8 v75na0_9 v75na0_10 v75na0_11 v75na0_12 => fl_c28 (Ff_X3_readLine j55a0_1 j55a0_2 j55a0_6 x6 v75na0_8 v75na0_9 v75na0_10 v75na0_11 v75na0_12 j55a0_13 j55a0_5_0 j55a0_5_1 j55a0_5_2 j55a0_5_3 j55a0_5_4 j55a0_5_5 j55a0_5_6 j55a0_5_7 j55a0_5_8 j55a0_5_9 fa0_3 j55a0_4_a j55a0_5_10_a j55a0_5_11_a j55a0_5_14_0 j55a0_5_14_2_a j55a0_5_14_3_a j55a0_5_13_a j55a0_5_12_a) (fun r79 v79na0_1 v79na0_2 v79na0_6 v79na0_8 v79na0_9 v79na0_10 v79na0_11 v79na0_12 v79na0_13 v79na0_5_0 v79na0_5_1 v79na0_5_2 v79na0_5_3 v79na0_5_4 v79na0_5_5 v79na0_5_6 v79na0_5_7 v79na0_5_8 v79na0_5_9 v79nfa0_4 v79nfa0_5_10 v79nfa0_5_11 v79na0_5_14_0 v79nfa0_5_14_2 v79nfa0_5_14_3 v79nfa0_5_13 v79nfa0_5_12 => if r79 = 1 then (fl_lt (j55l3 + 1) (fun x83 => Sum.inl (x83, 1, v79na0_1, v79na0_2, v79na0_6, v79na0_8, v79na0_9, v79na0_10, v79na0_11, v79na0_12, v79na0_13, v79na0_5_0, v79na0_5_1, v79na0_5_2, v79na0_5_3, v79na0_5_4, v79na0_5_5, v79na0_5_6, v79na0_5_7, v79na0_5_8, v79na0_5_9, v79na0_5_14_0, v79nfa0_5_10, v79nfa0_5_11, v79nfa0_4, v79nfa0_5_14_2, v79nfa0_5_14_3, v79nfa0_5_13, v79nfa0_5_12))) else (fl_lt (j55l3 + 1) (fun x83 => Sum.inl (x83, 0, v79na0_1, v79na0_2, v79na0_6, v79na0_8, v79na0_9, v79na0_10, v79na0_11, v79na0_12, v79na0_13, v79na0_5_0, v79na0_5_1, v79na0_5_2, v79na0_5_3, v79na0_5_4, v79na0_5_5, v79na0_5_6, v79na0_5_7, v79na0_5_8, v79na0_5_9, v79na0_5_14_0, v79nfa0_5_10, v79nfa0_5_11, v79nfa0_4, v79nfa0_5_14_2, v79nfa0_5_14_3, v79nfa0_5_13, v79nfa0_5_12))))))) else (Sum.inr (Gf_X3_read_89_2 x6 j55l2 j55a0_1 j55a0_2 j55a0_6 j55a0_8 j55a0_9 j55a0_10 j55a0_11 j55a0_12 j55a0_13 j55a0_5_0 j55a0_5_1 j55a0_5_2 j55a0_5_3 j55a0_5_4 j55a0_5_5 j55a0_5_6 j55a0_5_7 j55a0_5_8 j55a0_5_9 j55a0_5_14_0 j55a0_5_10_a j55a0_5_11_a j55a0_4_a j55a0_5_14_2_a j55a0_5_14_3_a j55a0_5_13_a j55a0_5_12_a)))
def Ff_X3_read (a1 : Int) (a0_0 : Int) (a0_11 : Int) (a0_12 : Int) (a0_13 : Int) (a0_5_1 : Int) (a0_5_2 : Int) (a0_5_3 : Int) (a0_5_5 : Int) (a0_5_6 : Int) (a0_5_7 : Int) (fa0_5_10 : (Nat → Int)) (fa0_5_11 : (Nat → Int)) (fa0_3 : (Nat → Int)) (fa0_4 : (Nat → Int)) (fa0_5_14_2 : (Nat → Int)) (fa0_5_14_3 : (Nat → Int)) (fa0_5_13 : (Nat → Int)) (fa0_5_12 : (Nat → Int)) : Int × Int × Int × Int × Int × Int × Int × Int × Int × Int × Int × Int × Int × Int × Int × Int × Int × Int × Int × Int × Int × Int × (Nat → Int) × (Nat → Int) × (Nat → Int) × (Nat → Int) × (Nat → Int) × (Nat → Int) × (Nat → Int) :=
  fl_lt (fl_min a1 a0_0) (fun x6 => fl_c7 (Ff_X0_clear fa0_5_10 fa0_5_11) (fun v21na0_0 v21na0_4 v21na0_8 v21na0_9 v21na0_14_0 v21nfa0_10 v21nfa0_11 => fl_c5 (Ff_X3_advance x6 0 a0_11 a0_12 fa0_3) (fun v45na0_8 v45na0_9 v45na0_10 v45na0_11 v45na0_12 => fl_c28 (Ff_X3_readLine 0 (-1) 0 x6 v45na0_8 v45na0_9 v45na0_10 v45na0_11 v45na0_12 a0_13 v21na0_0 a0_5_1 a0_5_2 a0_5_3 v21na0_4 a0_5_5 a0_5_6 a0_5_7 v21na0_8 v21na0_9 fa0_3 fa0_4 v21nfa0_10 v21nfa0_11 v21na0_14_0 fa0_5_14_2 fa0_5_14_3 fa0_5_13 fa0_5_12) (fun r49 v49na0_1 v49na0_2 v49na0_6 v49na0_8 v49na0_9 v49na0_10 v49na0_11 v49na0_12 v49na0_13 v49na0_5_0 v49na0_5_1 v49na0_5_2 v49na0_5_3 v49na0_5_4 v49na0_5_5 v49na0_5_6 v49na0_5_7 v49na0_5_8 v49na0_5_9 v49nfa0_4 v49nfa0_5_10 v49nfa0_5_11 v49na0_5_14_0 v49nfa0_5_14_2 v49nfa0_5_14_3 v49nfa0_5_13 v49nfa0_5_12 => if r49 = 1 then (fl_wh (fun t9 => Sf_X3_read_55_1 fa0_3 x6 t9.1 t9.2.1 t9.2.2.1 t9.2.2.2.1 t9.2.2.2.2.1 t9.2.2.2.2.2.1 t9.2.2.2.2.2.2.1 t9.2.2.2.2.2.2.2.1 t9.2.2.2.2.2.2.2.2.1 t9.2.2.2.2.2.2.2.2.2.1 t9.2.2.2.2.2.2.2.2.2.2.1 t9.2.2.2.2.2.2.2.2.2.2.2.1 t9.2.2.2.2.2.2.2.2.2.2.2.2.1 t9.2.2.2.2.2.2.2.2.2.2.2.2.2.1 t9.2.2.2.2.2.2.2.2.2.2.2.2.2.2.1 t9.2.2.2.2.2.2.2.2.2.2.2.2.2.2.2.1 t9.2.2.2.2.2.2.2.2.2.2.2.2.2.2.2.2.1 t9.2.2.2.2.2.2.2.2.2.2.2.2.2.2.2.2.2.1 t9.2.2.2.2.2.2.2.2.2.2.2.2.2.2.2.2.2.2.1 t9.2.2.2.2.2.2.2.2.2.2.2.2.2.2.2.2.2.2.2.1 t9.2.2.2.2.2.2.2.2.2.2.2.2.2.2.2.2.2.2.2.2.1 t9.2.2.2.2.2.2.2.2.2.2.2.2.2.2.2.2.2.2.2.2.2.1 t9.2.2.2.2.2.2.2.2.2.2.2.2.2.2.2.2.2.2.2.2.2.2.1 t9.2.2.2.2.2.2.2.2.2.2.2.2.2.2.2.2.2.2.2.2.2.2.2.1 t9.2.2.2.2.2.2.2.2.2.2.2.2.2.2.2.2.2.2.2.2.2.2.2.2.1 t9.2.2.2.2.2.2.2.2.2.2.2.2.2.2.2.2.2.2.2.2.2.2.2.2.2.1 t9.2.2.2.2.2.2.2.2.2.2.2.2.2.2.2.2.2.2.2.2.2.2.2.2.2.2.1 t9.2.2.2.2.2.2.2.2.2.2.2.2.2.2.2.2.2.2.2.2.2.2.2.2.2.2.2.1 t9.2.2.2.2.2.2.2.2.2.2.2.2.2.2.2.2.2.2.2.2.2.2.2.2.2.2.2.2) (0, 0, 0, 0, 0, 0, 0, 0, 0, 0, 0, 0, 0, 0, 0, 0, 0, 0, 0, 0, 0, 0, (fun _ => 0), (fun _ => 0), (fun _ => 0), (fun _ => 0), (fun _ => 0), (fun _ => 0), (fun _ => 0)) 900 (1, 1, v49na0_1, v49na0_2, v49na0_6, v49na0_8, v49na0_9, v49na0_10, v49na0_11, v49na0_12, v49na0_13, v49na0_5_0, v49na0_5_1, v49na0_5_2, v49na0_5_3, v49na0_5_4, v49na0_5_5, v49na0_5_6, v49na0_5_7, v49na0_5_8, v49na0_5_9, v49na0_5_14_0, v49nfa0_5_10, v49nfa0_5_11, v49nfa0_4, v49nfa0_5_14_2, v49nfa0_5_14_3, v49nfa0_5_13, v49nfa0_5_12)) else (fl_wh (fun t9 => Sf_X3_read_55_2 fa0_3 x6 t9.1 t9.2.1 t9.2.2.1 t9.2.2.2.1 t9.2.2.2.2.1 t9.2.2.2.2.2.1 t9.2.2.2.2.2.2.1 t9.2.2.2.2.2.2.2.1 t9.2.2.2.2.2.2.2.2.1 t9.2.2.2.2.2.2.2.2.2.1 t9.2.2.2.2.2.2.2.2.2.2.1 t9.2.2.2.2.2.2.2.2.2.2.2.1 t9.2.2.2.2.2.2.2.2.2.2.2.2.1 t9.2.2.2.2.2.2.2.2.2.2.2.2.2.1 t9.2.2.2.2.2.2.2.2.2.2.2.2.2.2.1 t9.2.2.2.2.2.2.2.2.2.2.2.2.2.2.2.1 t9.2.2.2.2.2.2.2.2.2.2.2.2.2.2.2.2.1 t9.2.2.2.2.2.2.2.2.2.2.2.2.2.2.2.2.2.1 t9.2.2.2.2.2.2.2.2.2.2.2.2.2.2.2.2.2.2.1 t9.2.2.2.2.2.2.2.2.2.2.2.2.2.2.2.2.2.2.2.1 t9.2.2.2.2.2.2.2.2.2.2.2.2.2.2.2.2.2.2.2.2.1 t9.2.2.2.2.2.2.2.2.2.2.2.2.2.2.2.2.2.2.2.2.2.1 t9.2.2.2.2.2.2.2.2.2.2.2.2.2.2.2.2.2.2.2.2.2.2.1 t9.2.2.2.2.2.2.2.2.2.2.2.2.2.2.2.2.2.2.2.2.2.2.2.1 t9.2.2.2.2.2.2.2.2.2.2.2.2.2.2.2.2.2.2.2.2.2.2.2.2.1 t9.2.2.2.2.2.2.2.2.2.2.2.2.2.2.2.2.2.2.2.2.2.2.2.2.2.1 t9.2.2.2.2.2.2.2.2.2.2.2.2.2.2.2.2.2.2.2.2.2.2.2.2.2.2.1 t9.2.2.2.2.2.2.2.2.2.2.2.2.2.2.2.2.2.2.2.2.2.2.2.2.2.2.2.1 t9.2.2.2.2.2.2.2.2.2.2.2.2.2.2.2.2.2.2.2.2.2.2.2.2.2.2.2.2) (0, 0, 0, 0, 0, 0, 0, 0, 0, 0, 0, 0, 0, 0, 0, 0, 0, 0, 0, 0, 0, 0, (fun _ => 0), (fun _ => 0), (fun _ => 0), (fun _ => 0), (fun _ => 0), (fun _ => 0), (fun _ => 0)) 900 (1, 0, v49na0_1, v49na0_2, v49na0_6, v49na0_8, v49na0_9, v49na0_10, v49na0_11, v49na0_12, v49na0_13, v49na0_5_0, v49na0_5_1, v49na0_5_2, v49na0_5_3, v49na0_5_4, v49na0_5_5, v49na0_5_6, v49na0_5_7, v49na0_5_8, v49na0_5_9, v49na0_5_14_0, v49nfa0_5_10, v49nfa0_5_11, v49nfa0_4, v49nfa0_5_14_2, v49nfa0_5_14_3, v49nfa0_5_13, v49nfa0_5_12))))))
end P092231_defsC
section P092232_defsM
def Ff_X8_good : Int × Int :=
  (0, 0)

def Ff_X8_no (a1 : Int) : Int × Int :=
  ((-1), a1)

def Ff_X8_in (a1 : Int) (a2 : Int) (a3 : Int) : Int :=
  if a1 < a2 then (0) else (if a3 < a1 then (0) else (1))

def Ff_X8_isSmall (a1 : Int) : Int :=
  if a1 < 97 then (0) else (if 122 < a1 then (0) else (1))

def Ff_X8_isDigit (a1 : Int) : Int :=
  if a1 < 48 then (0) else (if 57 < a1 then (0) else (1))

def Ff_X8_see (a1 : Int) (a0_3 : Int) (fa0_1 : (Nat → Int)) : Int :=
  if a0_3 ≤ a1 then ((-1)) else (fl_lt (fa0_1 (a1.toNat)) (fun x13 => x13))

def Gf_X8_next_101_1 (j67l1 : Int) (j67a0_8 : Int) (j101a0_12_a : (Nat → Int)) : Sum (Int × Int × (Nat → Int)) (Int × Int × Int × Int × Int × (Nat → Int)) :=
  fl_lt (j67a0_8 + 1) (fun x107 => fl_lt (j67l1 + 1) (fun x111 => Sum.inl (x111, x107, j101a0_12_a)))
def Sf_X8_next_67_1 (a0_3 : Int) (fa0_1 : (Nat → Int)) (j5l1 : Int) (j67l1 : Int) (j67a0_8 : Int) (j67a0_12_a : (Nat → Int)) : Sum (Int × Int × (Nat → Int)) (Int × Int × Int × Int × Int × (Nat → Int)) :=
  fl_lt (Ff_X8_see j67l1 a0_3 fa0_1) (fun r69 => if a0_3 ≤ j67l1 then (fl_lt (Ff_X8_isSmall (-1)) (fun r72 => if r72 = 1 then ((Sum.inr (0, 0, 0, 0, 0, (fun _ => 0)))) else (Sum.inr (if j67a0_8 ≤ 8 then ((j5l1, j67l1, 2, 0, j67a0_8, j67a0_12_a)) else ((j5l1, j67l1, 1, 0, j67a0_8, j67a0_12_a)))))) else (fl_lt (Ff_X8_isSmall r69) (fun r72 => if r72 = 1 then (if 8 ≤ j67a0_8 then (Gf_X8_next_101_1 j67l1 j67a0_8 j67a0_12_a) else (fl_lt (Ff_X8_see j67l1 a0_3 fa0_1) (fun r97 => if a0_3 ≤ j67l1 then (fl_lt (fl_up j67a0_12_a (j67a0_8.toNat) (-1)) (fun f100 => Gf_X8_next_101_1 j67l1 j67a0_8 f100)) else (fl_lt (fl_up j67a0_12_a (j67a0_8.toNat) r97) (fun f100 => Gf_X8_next_101_1 j67l1 j67a0_8 f100))))) else (Sum.inr (if j67a0_8 ≤ 8 then ((j5l1, j67l1, 2, 0, j67a0_8, j67a0_12_a)) else ((j5l1, j67l1, 1, 0, j67a0_8, j67a0_12_a)))))))
def Gf_X8_next_101_2 (j67l1 : Int) (j67a0_8 : Int) (j101a0_12_a : (Nat → Int)) : Sum (Int × Int × (Nat → Int)) (Int × Int × Int × Int × Int × (Nat → Int)) :=
  fl_lt (j67a0_8 + 1) (fun x107 => fl_lt (j67l1 + 1) (fun x111 => Sum.inl (x111, x107, j101a0_12_a)))
def Sf_X8_next_67_2 (a0_3 : Int) (fa0_1 : (Nat → Int)) (j5l1 : Int) (j67l1 : Int) (j67a0_8 : Int) (j67a0_12_a : (Nat → Int)) : Sum (Int × Int × (Nat → Int)) (Int × Int × Int × Int × Int × (Nat → Int)) :=
  fl_lt (Ff_X8_see j67l1 a0_3 fa0_1) (fun r69 => if a0_3 ≤ j67l1 then (fl_lt (Ff_X8_isSmall (-1)) (fun r72 => if r72 = 1 then ((Sum.inr (0, 0, 0, 0, 0, (fun _ => 0)))) else (Sum.inr (if j67a0_8 ≤ 8 then ((j5l1, j67l1, 2, 0, j67a0_8, j67a0_12_a)) else ((j5l1, j67l1, 1, 0, j67a0_8, j67a0_12_a)))))) else (fl_lt (Ff_X8_isSmall r69) (fun r72 => if r72 = 1 then (if 8 ≤ j67a0_8 then (Gf_X8_next_101_2 j67l1 j67a0_8 j67a0_12_a) else (fl_lt (Ff_X8_see j67l1 a0_3 fa0_1) (fun r97 => if a0_3 ≤ j67l1 then (fl_lt (fl_up j67a0_12_a (j67a0_8.toNat) (-1)) (fun f100 => Gf_X8_next_101_2 j67l1 j67a0_8 f100)) else (fl_lt (fl_up j67a0_12_a (j67a0_8.toNat) r97) (fun f100 => Gf_X8_next_101_2 j67l1 j67a0_8 f100))))) else (Sum.inr (if j67a0_8 ≤ 8 then ((j5l1, j67l1, 2, 0, j67a0_8, j67a0_12_a)) else ((j5l1, j67l1, 1, 0, j67a0_8, j67a0_12_a)))))))
def Gf_X8_next_188_1 (j152l3 : Int) (j152l1 : Int) (j188a0_7 : Int) : Sum (Int × Int × Int) (Int × Int × Int × Int × Int × (Nat → Int)) :=
  fl_lt (fl_iadd j152l3 1) (fun x188 => fl_lt (j152l1 + 1) (fun x191 => Sum.inl (x188, x191, j188a0_7)))
def Sf_X8_next_152_1 (a0_3 : Int) (fa0_1 : (Nat → Int)) (fa0_12 : (Nat → Int)) (j5l1 : Int) (j152l3 : Int) (j152l1 : Int) (j152a0_7 : Int) : Sum (Int × Int × Int) (Int × Int × Int × Int × Int × (Nat → Int)) :=
  fl_lt (Ff_X8_see j152l1 a0_3 fa0_1) (fun r154 => if a0_3 ≤ j152l1 then (fl_lt (Ff_X8_isDigit (-1)) (fun r157 => if r157 = 1 then ((Sum.inr (0, 0, 0, 0, 0, (fun _ => 0)))) else (Sum.inr (if j152l3 ≤ 3 then ((j5l1, j152l1, 3, j152a0_7, 0, fa0_12)) else ((j5l1, j152l1, 1, j152a0_7, 0, fa0_12)))))) else (fl_lt (Ff_X8_isDigit r154) (fun r157 => if r157 = 1 then (if 3 ≤ j152l3 then (Gf_X8_next_188_1 j152l3 j152l1 j152a0_7) else (fl_lt (fl_imul 10 j152a0_7) (fun x175 => fl_lt (Ff_X8_see j152l1 a0_3 fa0_1) (fun r178 => if a0_3 ≤ j152l1 then (fl_lt (fl_iadd x175 (-1)) (fun x181 => fl_lt (fl_isub x181 48) (fun x184 => Gf_X8_next_188_1 j152l3 j152l1 x184))) else (fl_lt (fl_iadd x175 r178) (fun x181 => fl_lt (fl_isub x181 48) (fun x184 => Gf_X8_next_188_1 j152l3 j152l1 x184))))))) else (Sum.inr (if j152l3 ≤ 3 then ((j5l1, j152l1, 3, j152a0_7, 0, fa0_12)) else ((j5l1, j152l1, 1, j152a0_7, 0, fa0_12)))))))
def Gf_X8_next_101_3 (j67l1 : Int) (j67a0_8 : Int) (j101a0_12_a : (Nat → Int)) : Sum (Int × Int × (Nat → Int)) (Int × Int × Int × Int × Int × (Nat → Int)) :=
  fl_lt (j67a0_8 + 1) (fun x107 => fl_lt (j67l1 + 1) (fun x111 => Sum.inl (x111, x107, j101a0_12_a)))
def Sf_X8_next_67_3 (a0_3 : Int) (fa0_1 : (Nat → Int)) (j5l1 : Int) (j67l1 : Int) (j67a0_8 : Int) (j67a0_12_a : (Nat → Int)) : Sum (Int × Int × (Nat → Int)) (Int × Int × Int × Int × Int × (Nat → Int)) :=
  fl_lt (Ff_X8_see j67l1 a0_3 fa0_1) (fun r69 => if a0_3 ≤ j67l1 then (fl_lt (Ff_X8_isSmall (-1)) (fun r72 => if r72 = 1 then ((Sum.inr (0, 0, 0, 0, 0, (fun _ => 0)))) else (Sum.inr (if j67a0_8 ≤ 8 then ((j5l1, j67l1, 2, 0, j67a0_8, j67a0_12_a)) else ((j5l1, j67l1, 1, 0, j67a0_8, j67a0_12_a)))))) else (fl_lt (Ff_X8_isSmall r69) (fun r72 => if r72 = 1 then (if 8 ≤ j67a0_8 then (Gf_X8_next_101_3 j67l1 j67a0_8 j67a0_12_a) else (fl_lt (Ff_X8_see j67l1 a0_3 fa0_1) (fun r97 => if a0_3 ≤ j67l1 then (fl_lt (fl_up j67a0_12_a (j67a0_8.toNat) (-1)) (fun f100 => Gf_X8_next_101_3 j67l1 j67a0_8 f100)) else (fl_lt (fl_up j67a0_12_a (j67a0_8.toNat) r97) (fun f100 => Gf_X8_next_101_3 j67l1 j67a0_8 f100))))) else (Sum.inr (if j67a0_8 ≤ 8 then ((j5l1, j67l1, 2, 0, j67a0_8, j67a0_12_a)) else ((j5l1, j67l1, 1, 0, j67a0_8, j67a0_12_a)))))))
def Gf_X8_next_101_4 (j67l1 : Int) (j67a0_8 : Int) (j101a0_12_a : (Nat → Int)) : Sum (Int × Int × (Nat → Int)) (Int × Int × Int × Int × Int × (Nat → Int)) :=
  fl_lt (j67a0_8 + 1) (fun x107 => fl_lt (j67l1 + 1) (fun x111 => Sum.inl (x111, x107, j101a0_12_a)))
def Sf_X8_next_67_4 (a0_3 : Int) (fa0_1 : (Nat → Int)) (j5l1 : Int) (j67l1 : Int) (j67a0_8 : Int) (j67a0_12_a : (Nat → Int)) : Sum (Int × Int × (Nat → Int)) (Int × Int × Int × Int × Int × (Nat → Int)) :=
  fl_lt (Ff_X8_see j67l1 a0_3 fa0_1) (fun r69 => if a0_3 ≤ j67l1 then (fl_lt (Ff_X8_isSmall (-1)) (fun r72 => if r72 = 1 then ((Sum.inr (0, 0, 0, 0, 0, (fun _ => 0)))) else (Sum.inr (if j67a0_8 ≤ 8 then ((j5l1, j67l1, 2, 0, j67a0_8, j67a0_12_a)) else ((j5l1, j67l1, 1, 0, j67a0_8, j67a0_12_a)))))) else (fl_lt (Ff_X8_isSmall r69) (fun r72 => if r72 = 1 then (if 8 ≤ j67a0_8 then (Gf_X8_next_101_4 j67l1 j67a0_8 j67a0_12_a) else (fl_lt (Ff_X8_see j67l1 a0_3 fa0_1) (fun r97 => if a0_3 ≤ j67l1 then (fl_lt (fl_up j67a0_12_a (j67a0_8.toNat) (-1)) (fun f100 => Gf_X8_next_101_4 j67l1 j67a0_8 f100)) else (fl_lt (fl_up j67a0_12_a (j67a0_8.toNat) r97) (fun f100 => Gf_X8_next_101_4 j67l1 j67a0_8 f100))))) else (Sum.inr (if j67a0_8 ≤ 8 then ((j5l1, j67l1, 2, 0, j67a0_8, j67a0_12_a)) else ((j5l1, j67l1, 1, 0, j67a0_8, j67a0_12_a)))))))
def Gf_X8_next_188_2 (j152l3 : Int) (j152l1 : Int) (j188a0_7 : Int) : Sum (Int × Int × Int) (Int × Int × Int × Int × Int × (Nat → Int)) :=
  fl_lt (fl_iadd j152l3 1) (fun x188 => fl_lt (j152l1 + 1) (fun x191 => Sum.inl (x188, x191, j188a0_7)))
def Sf_X8_next_152_2 (a0_3 : Int) (fa0_1 : (Nat → Int)) (fa0_12 : (Nat → Int)) (j5l1 : Int) (j152l3 : Int) (j152l1 : Int) (j152a0_7 : Int) : Sum (Int × Int × Int) (Int × Int × Int × Int × Int × (Nat → Int)) :=
  fl_lt (Ff_X8_see j152l1 a0_3 fa0_1) (fun r154 => if a0_3 ≤ j152l1 then (fl_lt (Ff_X8_isDigit (-1)) (fun r157 => if r157 = 1 then ((Sum.inr (0, 0, 0, 0, 0, (fun _ => 0)))) else (Sum.inr (if j152l3 ≤ 3 then ((j5l1, j152l1, 3, j152a0_7, 0, fa0_12)) else ((j5l1, j152l1, 1, j152a0_7, 0, fa0_12)))))) else (fl_lt (Ff_X8_isDigit r154) (fun r157 => if r157 = 1 then (if 3 ≤ j152l3 then (Gf_X8_next_188_2 j152l3 j152l1 j152a0_7) else (fl_lt (fl_imul 10 j152a0_7) (fun x175 => fl_lt (Ff_X8_see j152l1 a0_3 fa0_1) (fun r178 => if a0_3 ≤ j152l1 then (fl_lt (fl_iadd x175 (-1)) (fun x181 => fl_lt (fl_isub x181 48) (fun x184 => Gf_X8_next_188_2 j152l3 j152l1 x184))) else (fl_lt (fl_iadd x175 r178) (fun x181 => fl_lt (fl_isub x181 48) (fun x184 => Gf_X8_next_188_2 j152l3 j152l1 x184))))))) else (Sum.inr (if j152l3 ≤ 3 then ((j5l1, j152l1, 3, j152a0_7, 0, fa0_12)) else ((j5l1, j152l1, 1, j152a0_7, 0, fa0_12)))))))
def Sf_X8_next_5_1 (a0_3 : Int) (fa0_1 : (Nat → Int)) (fa0_12 : (Nat → Int)) (j5l1 : Int) : Sum (Int) (Int × Int × Int × Int × Int × (Nat → Int)) :=
  fl_lt (Ff_X8_see j5l1 a0_3 fa0_1) (fun r7 => if a0_3 ≤ j5l1 then (Sum.inr (fl_lt (Ff_X8_see j5l1 a0_3 fa0_1) (fun r28 => if a0_3 ≤ j5l1 then ((j5l1, j5l1, 0, 0, 0, fa0_12)) else (if r28 = (-1) then ((j5l1, j5l1, 0, 0, 0, fa0_12)) else (fl_lt (Ff_X8_isSmall r28) (fun r61 => if r61 = 1 then (fl_wh (fun t9 => Sf_X8_next_67_1 a0_3 fa0_1 j5l1 t9.1 t9.2.1 t9.2.2) (0, 0, 0, 0, 0, (fun _ => 0)) 901 (j5l1, 0, fa0_12)) else (fl_lt (Ff_X8_isDigit r28) (fun r144 => if r144 = 1 then (fl_wh (fun t9 => Sf_X8_next_152_1 a0_3 fa0_1 fa0_12 j5l1 t9.1 t9.2.1 t9.2.2) (0, 0, 0, 0, 0, (fun _ => 0)) 901 (0, j5l1, 0)) else (fl_lt (j5l1 + 1) (fun x222 => if r28 = 59 then ((j5l1, x222, r28, 0, 0, fa0_12)) else ((j5l1, x222, 1, 0, 0, fa0_12)))))))))))) else (if r7 = 32 then (fl_lt (j5l1 + 1) (fun x15 => Sum.inl x15)) else (Sum.inr (fl_lt (Ff_X8_see j5l1 a0_3 fa0_1) (fun r28 => if a0_3 ≤ j5l1 then ((j5l1, j5l1, 0, 0, 0, fa0_12)) else (if r28 = (-1) then ((j5l1, j5l1, 0, 0, 0, fa0_12)) else (fl_lt (Ff_X8_isSmall r28) (fun r61 => if r61 = 1 then (fl_wh (fun t9 => Sf_X8_next_67_3 a0_3 fa0_1 j5l1 t9.1 t9.2.1 t9.2.2) (0, 0, 0, 0, 0, (fun _ => 0)) 901 (j5l1, 0, fa0_12)) else (fl_lt (Ff_X8_isDigit r28) (fun r144 => if r144 = 1 then (fl_wh (fun t9 => Sf_X8_next_152_2 a0_3 fa0_1 fa0_12 j5l1 t9.1 t9.2.1 t9.2.2) (0, 0, 0, 0, 0, (fun _ => 0)) 901 (0, j5l1, 0)) else (fl_lt (j5l1 + 1) (fun x222 => if r28 = 59 then ((j5l1, x222, r28, 0, 0, fa0_12)) else ((j5l1, x222, 1, 0, 0, fa0_12))))))))))))))
def Ff_X8_next (a0_3 : Int) (a0_5 : Int) (fa0_1 : (Nat → Int)) (fa0_12 : (Nat → Int)) : Int × Int × Int × Int × Int × (Nat → Int) :=
  fl_wh (Sf_X8_next_5_1 a0_3 fa0_1 fa0_12) (0, 0, 0, 0, 0, (fun _ => 0)) 901 a0_5

def FfG_X8_wrong (a1 : Int) (a2 : Int) : Int × Int :=
  (a1, a2)


def FfF_X8_isWord : Int :=
  0

def GfG_X8_isWord_63_1 (j32l3 : Int) (j63s0 : Int) : Sum (Int × Int) (Int) :=
  fl_lt (j32l3 + 1) (fun x64 => Sum.inl (x64, j63s0))
def GfG_X8_isWord_62_1 (j32l3 : Int) : Sum (Int × Int) (Int) :=
  GfG_X8_isWord_63_1 j32l3 0
def SfG_X8_isWord_32_1 (a0_8 : Int) (fa0_12 : (Nat → Int)) (ca1 : (Nat → Int)) (j32l3 : Int) (j32l2 : Int) : Sum (Int × Int) (Int) :=
  if a0_8 ≤ j32l3 then (Sum.inr (j32l2)) else (if j32l2 = 0 then (GfG_X8_isWord_62_1 j32l3) else (fl_lt (fa0_12 (j32l3.toNat)) (fun x49 => fl_lt (ca1 (j32l3.toNat)) (fun r52 => if x49 = r52 then (GfG_X8_isWord_63_1 j32l3 1) else (GfG_X8_isWord_62_1 j32l3)))))
def FfG_X8_isWord (a0_6 : Int) (a0_8 : Int) (fa0_12 : (Nat → Int)) (na1 : Int) (ca1 : (Nat → Int)) : Int :=
  if a0_6 = 2 then (fl_lt (na1) (fun r20 => if a0_8 = r20 then (fl_wh (fun t9 => SfG_X8_isWord_32_1 a0_8 fa0_12 ca1 t9.1 t9.2) 0 9 (0, 1)) else (0))) else (0)

def FfG_X8_takesWord (a0_3 : Int) (a0_4 : Int) (a0_5 : Int) (a0_6 : Int) (a0_7 : Int) (a0_8 : Int) (fa0_12 : (Nat → Int)) (fa0_1 : (Nat → Int)) (na1 : Int) (ca1 : (Nat → Int)) : Int × Int × Int × Int × Int × Int × (Nat → Int) :=
  fl_lt (FfG_X8_isWord a0_6 a0_8 fa0_12 na1 ca1) (fun r2 => if r2 = 0 then ((0, a0_4, a0_5, a0_6, a0_7, a0_8, fa0_12)) else (fl_c6 (Ff_X8_next a0_3 a0_5 fa0_1 fa0_12) (fun v11na0_4 v11na0_5 v11na0_6 v11na0_7 v11na0_8 v11nfa0_12 => (1, v11na0_4, v11na0_5, v11na0_6, v11na0_7, v11na0_8, v11nfa0_12))))


def FfG_X8_must (a0_3 : Int) (a0_4 : Int) (a0_5 : Int) (a0_6 : Int) (a0_7 : Int) (a0_8 : Int) (a0_9 : Int) (a0_10 : Int) (fa0_12 : (Nat → Int)) (fa0_1 : (Nat → Int)) (na1 : Int) (ca1 : (Nat → Int)) : Int × Int × Int × Int × Int × Int × Int × Int × (Nat → Int) :=
  fl_c7 (FfG_X8_takesWord a0_3 a0_4 a0_5 a0_6 a0_7 a0_8 fa0_12 fa0_1 na1 ca1) (fun r9 v9na0_4 v9na0_5 v9na0_6 v9na0_7 v9na0_8 v9nfa0_12 => if r9 = 1 then ((v9na0_4, v9na0_5, v9na0_6, v9na0_7, v9na0_8, a0_9, a0_10, 0, v9nfa0_12)) else (fl_c2 (FfG_X8_wrong 1 v9na0_4) (fun v21na0_9 v21na0_10 => (v9na0_4, v9na0_5, v9na0_6, v9na0_7, v9na0_8, v21na0_9, v21na0_10, 1, v9nfa0_12))))


def FfG_X8_pass (a0_3 : Int) (a0_5 : Int) (fa0_1 : (Nat → Int)) (fa0_12 : (Nat → Int)) : Int × Int × Int × Int × Int × (Nat → Int) :=
  fl_c6 (Ff_X8_next a0_3 a0_5 fa0_1 fa0_12) (fun v8na0_4 v8na0_5 v8na0_6 v8na0_7 v8na0_8 v8nfa0_12 => (v8na0_4, v8na0_5, v8na0_6, v8na0_7, v8na0_8, v8nfa0_12))

def Gf_X8_isKnown_91_1 (j2l1 : Int) (j44l2 : Int) : Sum (Int) (Int) :=
  if j44l2 = 0 then (fl_lt (j2l1 + 1) (fun x97 => Sum.inl x97)) else (Sum.inr (1))
def Gf_X8_isKnown_84_1 (j44l3 : Int) (j84s0 : Int) : Sum (Int × Int) (Sum (Int) (Int)) :=
  fl_lt (j44l3 + 1) (fun x85 => Sum.inl (x85, j84s0))
def Sf_X8_isKnown_44_1 (a0_8 : Int) (fa0_16 : (Nat → Int)) (fa0_12 : (Nat → Int)) (j2l1 : Int) (j44l3 : Int) (j44l2 : Int) : Sum (Int × Int) (Sum (Int) (Int)) :=
  if a0_8 ≤ j44l3 then (Sum.inr (Gf_X8_isKnown_91_1 j2l1 j44l2)) else (if j44l2 = 0 then (Sum.inr (Gf_X8_isKnown_91_1 j2l1 j44l2)) else (fl_lt (8 * j2l1) (fun x65 => fl_lt (60 + x65) (fun x66 => fl_lt (x66 + j44l3) (fun x68 => fl_lt (fa0_16 (x68.toNat)) (fun x69 => fl_lt (fa0_12 (j44l3.toNat)) (fun x75 => if x69 = x75 then (Gf_X8_isKnown_84_1 j44l3 1) else (Gf_X8_isKnown_84_1 j44l3 0))))))))
def Gf_X8_isKnown_41_1 (a0_8 : Int) (fa0_16 : (Nat → Int)) (fa0_12 : (Nat → Int)) (j2l1 : Int) (j41s0 : Int) : Sum (Int) (Int) :=
  fl_wh (fun t9 => Sf_X8_isKnown_44_1 a0_8 fa0_16 fa0_12 j2l1 t9.1 t9.2) (Sum.inr 0) 9 (0, j41s0)
def Gf_X8_isKnown_40_1 (a0_8 : Int) (fa0_16 : (Nat → Int)) (fa0_12 : (Nat → Int)) (j2l1 : Int) : Sum (Int) (Int) :=
  Gf_X8_isKnown_41_1 a0_8 fa0_16 fa0_12 j2l1 0
def Sf_X8_isKnown_2_1 (a0_8 : Int) (fa0_16 : (Nat → Int)) (fa0_12 : (Nat → Int)) (j2l1 : Int) : Sum (Int) (Int) :=
  if 12 ≤ j2l1 then (Sum.inr (0)) else (fl_lt (48 + j2l1) (fun x15 => fl_lt (fa0_16 (x15.toNat)) (fun x16 => if x16 ≤ 0 then (Gf_X8_isKnown_40_1 a0_8 fa0_16 fa0_12 j2l1) else (if x16 = a0_8 then (Gf_X8_isKnown_41_1 a0_8 fa0_16 fa0_12 j2l1 1) else (Gf_X8_isKnown_40_1 a0_8 fa0_16 fa0_12 j2l1)))))
def Ff_X8_isKnown (a0_8 : Int) (fa0_16 : (Nat → Int)) (fa0_12 : (Nat → Int)) : Int :=
  fl_wh (Sf_X8_isKnown_2_1 a0_8 fa0_16 fa0_12) 0 13 0


def SfG_X8_newName_103_1 (a1 : Int) (a0_3 : Int) (a0_5 : Int) (a0_8 : Int) (a0_9 : Int) (a0_10 : Int) (fa0_12 : (Nat → Int)) (fa0_1 : (Nat → Int)) (j103l2 : Int) (j103a0_16_a : (Nat → Int)) : Sum (Int × (Nat → Int)) (Int × Int × Int × Int × Int × Int × Int × Int × (Nat → Int) × (Nat → Int)) :=
  if a0_8 ≤ j103l2 then (Sum.inr (fl_lt (48 + a1) (fun x144 => fl_lt (fl_up j103a0_16_a (x144.toNat) a0_8) (fun f149 => fl_c6 (Ff_X8_next a0_3 a0_5 fa0_1 fa0_12) (fun v151na0_4 v151na0_5 v151na0_6 v151na0_7 v151na0_8 v151nfa0_12 => (v151na0_4, v151na0_5, v151na0_6, v151na0_7, v151na0_8, a0_9, a0_10, 0, v151nfa0_12, f149)))))) else (fl_lt (8 * a1) (fun x120 => fl_lt (60 + x120) (fun x121 => fl_lt (x121 + j103l2) (fun x123 => fl_lt (fa0_12 (j103l2.toNat)) (fun x129 => fl_lt (fl_up j103a0_16_a (x123.toNat) x129) (fun f130 => fl_lt (j103l2 + 1) (fun x131 => Sum.inl (x131, f130))))))))
def FfG_X8_newName (a1 : Int) (a0_3 : Int) (a0_4 : Int) (a0_5 : Int) (a0_6 : Int) (a0_7 : Int) (a0_8 : Int) (a0_9 : Int) (a0_10 : Int) (fa0_12 : (Nat → Int)) (fa0_16 : (Nat → Int)) (fa0_1 : (Nat → Int)) : Int × Int × Int × Int × Int × Int × Int × Int × (Nat → Int) × (Nat → Int) :=
  if a0_6 = 2 then (fl_lt (FfG_X8_isWord a0_6 a0_8 fa0_12 7 (fl_A (sxc 18))) (fun r19 => if r19 = 0 then (fl_lt (FfG_X8_isWord a0_6 a0_8 fa0_12 3 (fl_A (sxc 19))) (fun r28 => if r28 = 0 then (fl_lt (FfG_X8_isWord a0_6 a0_8 fa0_12 6 (fl_A (sxc 20))) (fun r37 => if r37 = 0 then (fl_lt (FfG_X8_isWord a0_6 a0_8 fa0_12 7 (fl_A (sxc 21))) (fun r46 => if r46 = 0 then (fl_lt (FfG_X8_isWord a0_6 a0_8 fa0_12 4 (fl_A (sxc 22))) (fun r55 => if r55 = 0 then (fl_lt (Ff_X8_isKnown a0_8 fa0_16 fa0_12) (fun r78 => if r78 = 1 then (fl_c2 (FfG_X8_wrong 3 a0_4) (fun v90na0_9 v90na0_10 => (a0_4, a0_5, a0_6, a0_7, a0_8, v90na0_9, v90na0_10, 1, fa0_12, fa0_16))) else (fl_wh (fun t9 => SfG_X8_newName_103_1 a1 a0_3 a0_5 a0_8 a0_9 a0_10 fa0_12 fa0_1 t9.1 t9.2) (0, 0, 0, 0, 0, 0, 0, 0, (fun _ => 0), (fun _ => 0)) 9 (0, fa0_16)))) else (fl_c2 (FfG_X8_wrong 1 a0_4) (fun v67na0_9 v67na0_10 => (a0_4, a0_5, a0_6, a0_7, a0_8, v67na0_9, v67na0_10, 1, fa0_12, fa0_16))))) else (fl_c2 (FfG_X8_wrong 1 a0_4) (fun v67na0_9 v67na0_10 => (a0_4, a0_5, a0_6, a0_7, a0_8, v67na0_9, v67na0_10, 1, fa0_12, fa0_16))))) else (fl_c2 (FfG_X8_wrong 1 a0_4) (fun v67na0_9 v67na0_10 => (a0_4, a0_5, a0_6, a0_7, a0_8, v67na0_9, v67na0_10, 1, fa0_12, fa0_16))))) else (fl_c2 (FfG_X8_wrong 1 a0_4) (fun v67na0_9 v67na0_10 => (a0_4, a0_5, a0_6, a0_7, a0_8, v67na0_9, v67na0_10, 1, fa0_12, fa0_16))))) else (fl_c2 (FfG_X8_wrong 1 a0_4) (fun v67na0_9 v67na0_10 => (a0_4, a0_5, a0_6, a0_7, a0_8, v67na0_9, v67na0_10, 1, fa0_12, fa0_16))))) else (fl_c2 (FfG_X8_wrong 1 a0_4) (fun v67na0_9 v67na0_10 => (a0_4, a0_5, a0_6, a0_7, a0_8, v67na0_9, v67na0_10, 1, fa0_12, fa0_16)))

def FfF_X8_numberHere (a1 : Int) : Int :=
  a1

def FfG_X8_numberHere (a1 : Int) (a2 : Int) (a0_4 : Int) (a0_6 : Int) (a0_7 : Int) (a0_9 : Int) (a0_10 : Int) : Int × Int × Int × Int :=
  if a0_6 = 3 then (fl_lt (Ff_X8_in a0_7 a1 a2) (fun r35 => if r35 = 1 then ((a0_7, a0_9, a0_10, 0)) else (fl_c2 (FfG_X8_wrong 4 a0_4) (fun v47na0_9 v47na0_10 => (a1, v47na0_9, v47na0_10, 1))))) else (fl_c2 (FfG_X8_wrong 1 a0_4) (fun v23na0_9 v23na0_10 => (a1, v23na0_9, v23na0_10, 1)))

def FfF_X8_number (a1 : Int) : Int :=
  fl_lt (FfF_X8_numberHere a1) (fun r3 => a1)

def FfG_X8_number (a1 : Int) (a2 : Int) (a0_3 : Int) (a0_4 : Int) (a0_5 : Int) (a0_6 : Int) (a0_7 : Int) (a0_8 : Int) (a0_9 : Int) (a0_10 : Int) (fa0_1 : (Nat → Int)) (fa0_12 : (Nat → Int)) : Int × Int × Int × Int × Int × Int × Int × Int × Int × (Nat → Int) :=
  fl_c4 (FfG_X8_numberHere a1 a2 a0_4 a0_6 a0_7 a0_9 a0_10) (fun r3 v3na0_9 v3na0_10 v3na0_13 => if v3na0_13 = 1 then ((r3, a0_4, a0_5, a0_6, a0_7, a0_8, v3na0_9, v3na0_10, 1, fa0_12)) else (fl_c6 (FfG_X8_pass a0_3 a0_5 fa0_1 fa0_12) (fun v8na0_4 v8na0_5 v8na0_6 v8na0_7 v8na0_8 v8nfa0_12 => (r3, v8na0_4, v8na0_5, v8na0_6, v8na0_7, v8na0_8, v3na0_9, v3na0_10, 0, v8nfa0_12))))

def FfF_X8_after (a2 : Int) : Int :=
  fl_lt (FfF_X8_number a2) (fun r8 => a2)

def FfG_X8_after (a2 : Int) (a3 : Int) (a0_3 : Int) (a0_4 : Int) (a0_5 : Int) (a0_6 : Int) (a0_7 : Int) (a0_8 : Int) (a0_9 : Int) (a0_10 : Int) (fa0_12 : (Nat → Int)) (fa0_1 : (Nat → Int)) (na1 : Int) (ca1 : (Nat → Int)) : Int × Int × Int × Int × Int × Int × Int × Int × Int × (Nat → Int) :=
  fl_c9 (FfG_X8_must a0_3 a0_4 a0_5 a0_6 a0_7 a0_8 a0_9 a0_10 fa0_12 fa0_1 na1 ca1) (fun v2na0_4 v2na0_5 v2na0_6 v2na0_7 v2na0_8 v2na0_9 v2na0_10 v2na0_13 v2nfa0_12 => if v2na0_13 = 1 then (fl_lt (FfF_X8_number a2) (fun r8 => (a2, v2na0_4, v2na0_5, v2na0_6, v2na0_7, v2na0_8, v2na0_9, v2na0_10, 1, v2nfa0_12))) else (fl_c10 (FfG_X8_number a2 a3 a0_3 v2na0_4 v2na0_5 v2na0_6 v2na0_7 v2na0_8 v2na0_9 v2na0_10 fa0_1 v2nfa0_12) (fun r8 v8na0_4 v8na0_5 v8na0_6 v8na0_7 v8na0_8 v8na0_9 v8na0_10 v8na0_13 v8nfa0_12 => if v8na0_13 = 1 then ((r8, v8na0_4, v8na0_5, v8na0_6, v8na0_7, v8na0_8, v8na0_9, v8na0_10, 1, v8nfa0_12)) else ((r8, v8na0_4, v8na0_5, v8na0_6, v8na0_7, v8na0_8, v8na0_9, v8na0_10, 0, v8nfa0_12)))))

def FfG_X8_begins (a2 : Int) (a0_3 : Int) (a0_4 : Int) (a0_5 : Int) (a0_6 : Int) (a0_7 : Int) (a0_8 : Int) (a0_9 : Int) (a0_10 : Int) (fa0_12 : (Nat → Int)) (fa0_16 : (Nat → Int)) (fa0_1 : (Nat → Int)) (na1 : Int) (ca1 : (Nat → Int)) : Int × Int × Int × Int × Int × Int × Int × Int × Int × (Nat → Int) :=
  fl_lt (FfG_X8_isWord a0_6 a0_8 fa0_12 na1 ca1) (fun r2 => if r2 = 0 then ((0, a0_4, a0_5, a0_6, a0_7, a0_8, a0_9, a0_10, 0, fa0_12)) else (if a2 = 0 then (fl_c2 (FfG_X8_wrong 5 a0_4) (fun v20na0_9 v20na0_10 => fl_lt (fa0_16 (11)) (fun x29 => if x29 = 0 then ((1, a0_4, a0_5, a0_6, a0_7, a0_8, v20na0_9, v20na0_10, 1, fa0_12)) else ((1, a0_4, a0_5, a0_6, a0_7, a0_8, v20na0_9, v20na0_10, 1, fa0_12))))) else (fl_lt (fa0_16 (11)) (fun x29 => if x29 = 0 then (fl_c2 (FfG_X8_wrong 6 a0_4) (fun v40na0_9 v40na0_10 => (1, a0_4, a0_5, a0_6, a0_7, a0_8, v40na0_9, v40na0_10, 1, fa0_12))) else (fl_c6 (FfG_X8_pass a0_3 a0_5 fa0_1 fa0_12) (fun v44na0_4 v44na0_5 v44na0_6 v44na0_7 v44na0_8 v44nfa0_12 => (1, v44na0_4, v44na0_5, v44na0_6, v44na0_7, v44na0_8, a0_9, a0_10, 0, v44nfa0_12)))))))

def Ff_X8_last (fa0_16 : (Nat → Int)) : Int :=
  fl_lt (fa0_16 (0)) (fun x5 => fl_lt (x5 - 1) (fun x7 => x7))

def FfG_X8_galleryLine (a0_3 : Int) (a0_4 : Int) (a0_5 : Int) (a0_6 : Int) (a0_7 : Int) (a0_8 : Int) (a0_9 : Int) (a0_10 : Int) (fa0_16 : (Nat → Int)) (fa0_1 : (Nat → Int)) (fa0_12 : (Nat → Int)) : Int × Int × Int × Int × Int × Int × Int × Int × (Nat → Int) × (Nat → Int) :=
  fl_lt (fa0_16 (11)) (fun x6 => if x6 ≤ 0 then (fl_c6 (Ff_X8_next a0_3 a0_5 fa0_1 fa0_12) (fun v28na0_4 v28na0_5 v28na0_6 v28na0_7 v28na0_8 v28nfa0_12 => fl_c10 (FfG_X8_after 2 9 a0_3 v28na0_4 v28na0_5 v28na0_6 v28na0_7 v28na0_8 a0_9 a0_10 v28nfa0_12 fa0_1 7 (fl_A (sxc 23))) (fun r42 v42na0_4 v42na0_5 v42na0_6 v42na0_7 v42na0_8 v42na0_9 v42na0_10 v42na0_13 v42nfa0_12 => if v42na0_13 = 1 then (fl_lt (fl_up fa0_16 (0) r42) (fun f45 => fl_lt (FfF_X8_after 1) (fun r57 => fl_lt (fl_up f45 (1) 1) (fun f60 => fl_lt (r42 - 1) (fun x77 => fl_lt (FfF_X8_after 0) (fun r78 => fl_lt (fl_up f60 (2) 0) (fun f81 => fl_lt (FfF_X8_after 0) (fun r93 => fl_lt (fl_up f81 (3) 0) (fun f96 => (v42na0_4, v42na0_5, v42na0_6, v42na0_7, v42na0_8, v42na0_9, v42na0_10, 1, f96, v42nfa0_12)))))))))) else (fl_lt (fl_up fa0_16 (0) r42) (fun f45 => fl_c10 (FfG_X8_after 1 20 a0_3 v42na0_4 v42na0_5 v42na0_6 v42na0_7 v42na0_8 v42na0_9 v42na0_10 v42nfa0_12 fa0_1 4 (fl_A (sxc 24))) (fun r57 v57na0_4 v57na0_5 v57na0_6 v57na0_7 v57na0_8 v57na0_9 v57na0_10 v57na0_13 v57nfa0_12 => if v57na0_13 = 1 then (fl_lt (fl_up f45 (1) r57) (fun f60 => fl_lt (r42 - 1) (fun x77 => fl_lt (FfF_X8_after 0) (fun r78 => fl_lt (fl_up f60 (2) 0) (fun f81 => fl_lt (FfF_X8_after 0) (fun r93 => fl_lt (fl_up f81 (3) 0) (fun f96 => (v57na0_4, v57na0_5, v57na0_6, v57na0_7, v57na0_8, v57na0_9, v57na0_10, 1, f96, v57nfa0_12)))))))) else (fl_lt (fl_up f45 (1) r57) (fun f60 => fl_lt (r42 - 1) (fun x77 => fl_c10 (FfG_X8_after 0 x77 a0_3 v57na0_4 v57na0_5 v57na0_6 v57na0_7 v57na0_8 v57na0_9 v57na0_10 v57nfa0_12 fa0_1 6 (fl_A (sxc 25))) (fun r78 v78na0_4 v78na0_5 v78na0_6 v78na0_7 v78na0_8 v78na0_9 v78na0_10 v78na0_13 v78nfa0_12 => if v78na0_13 = 1 then (fl_lt (fl_up f60 (2) r78) (fun f81 => fl_lt (FfF_X8_after 0) (fun r93 => fl_lt (fl_up f81 (3) 0) (fun f96 => (v78na0_4, v78na0_5, v78na0_6, v78na0_7, v78na0_8, v78na0_9, v78na0_10, 1, f96, v78nfa0_12))))) else (fl_lt (fl_up f60 (2) r78) (fun f81 => fl_c10 (FfG_X8_after 0 100 a0_3 v78na0_4 v78na0_5 v78na0_6 v78na0_7 v78na0_8 v78na0_9 v78na0_10 v78nfa0_12 fa0_1 4 (fl_A (sxc 26))) (fun r93 v93na0_4 v93na0_5 v93na0_6 v93na0_7 v93na0_8 v93na0_9 v93na0_10 v93na0_13 v93nfa0_12 => if v93na0_13 = 1 then (fl_lt (fl_up f81 (3) r93) (fun f96 => (v93na0_4, v93na0_5, v93na0_6, v93na0_7, v93na0_8, v93na0_9, v93na0_10, 1, f96, v93nfa0_12))) else (fl_lt (fl_up f81 (3) r93) (fun f96 => fl_lt (fl_up f96 (11) 1) (fun f111 => (v93na0_4, v93na0_5, v93na0_6, v93na0_7, v93na0_8, v93na0_9, v93na0_10, 0, f111, v93nfa0_12))))))))))))))))) else (fl_c2 (FfG_X8_wrong 3 a0_4) (fun v16na0_9 v16na0_10 => (a0_4, a0_5, a0_6, a0_7, a0_8, v16na0_9, v16na0_10, 1, fa0_16, fa0_12))))

def FfG_X8_lawLine (a0_3 : Int) (a0_4 : Int) (a0_5 : Int) (a0_6 : Int) (a0_7 : Int) (a0_8 : Int) (a0_9 : Int) (a0_10 : Int) (fa0_16 : (Nat → Int)) (fa0_1 : (Nat → Int)) (fa0_12 : (Nat → Int)) : Int × Int × Int × Int × Int × Int × Int × Int × (Nat → Int) × (Nat → Int) :=
  fl_lt (fa0_16 (10)) (fun x6 => if x6 ≤ 0 then (fl_lt (fa0_16 (11)) (fun x25 => if x25 = 0 then (fl_c2 (FfG_X8_wrong 6 a0_4) (fun v36na0_9 v36na0_10 => (a0_4, a0_5, a0_6, a0_7, a0_8, v36na0_9, v36na0_10, 1, fa0_16, fa0_12))) else (fl_c6 (Ff_X8_next a0_3 a0_5 fa0_1 fa0_12) (fun v48na0_4 v48na0_5 v48na0_6 v48na0_7 v48na0_8 v48nfa0_12 => fl_lt (Ff_X8_last fa0_16) (fun r62 => fl_c10 (FfG_X8_after 0 r62 a0_3 v48na0_4 v48na0_5 v48na0_6 v48na0_7 v48na0_8 a0_9 a0_10 v48nfa0_12 fa0_1 5 (fl_A (sxc 27))) (fun r65 v65na0_4 v65na0_5 v65na0_6 v65na0_7 v65na0_8 v65na0_9 v65na0_10 v65na0_13 v65nfa0_12 => if v65na0_13 = 1 then (fl_lt (fl_up fa0_16 (7) r65) (fun f68 => fl_lt (Ff_X8_last f68) (fun r80 => fl_lt (FfF_X8_after 0) (fun r83 => fl_lt (fl_up f68 (8) 0) (fun f86 => fl_lt (Ff_X8_last f86) (fun r98 => fl_lt (FfF_X8_after 0) (fun r101 => fl_lt (fl_up f86 (9) 0) (fun f104 => (v65na0_4, v65na0_5, v65na0_6, v65na0_7, v65na0_8, v65na0_9, v65na0_10, 1, f104, v65nfa0_12))))))))) else (fl_lt (fl_up fa0_16 (7) r65) (fun f68 => fl_lt (Ff_X8_last f68) (fun r80 => fl_c10 (FfG_X8_after 0 r80 a0_3 v65na0_4 v65na0_5 v65na0_6 v65na0_7 v65na0_8 v65na0_9 v65na0_10 v65nfa0_12 fa0_1 4 (fl_A (sxc 28))) (fun r83 v83na0_4 v83na0_5 v83na0_6 v83na0_7 v83na0_8 v83na0_9 v83na0_10 v83na0_13 v83nfa0_12 => if v83na0_13 = 1 then (fl_lt (fl_up f68 (8) r83) (fun f86 => fl_lt (Ff_X8_last f86) (fun r98 => fl_lt (FfF_X8_after 0) (fun r101 => fl_lt (fl_up f86 (9) 0) (fun f104 => (v83na0_4, v83na0_5, v83na0_6, v83na0_7, v83na0_8, v83na0_9, v83na0_10, 1, f104, v83nfa0_12)))))) else (fl_lt (fl_up f68 (8) r83) (fun f86 => fl_lt (Ff_X8_last f86) (fun r98 => fl_c10 (FfG_X8_after 0 r98 a0_3 v83na0_4 v83na0_5 v83na0_6 v83na0_7 v83na0_8 v83na0_9 v83na0_10 v83nfa0_12 fa0_1 5 (fl_A (sxc 29))) (fun r101 v101na0_4 v101na0_5 v101na0_6 v101na0_7 v101na0_8 v101na0_9 v101na0_10 v101na0_13 v101nfa0_12 => if v101na0_13 = 1 then (fl_lt (fl_up f86 (9) r101) (fun f104 => (v101na0_4, v101na0_5, v101na0_6, v101na0_7, v101na0_8, v101na0_9, v101na0_10, 1, f104, v101nfa0_12))) else (fl_lt (fl_up f86 (9) r101) (fun f104 => fl_lt (fl_up f104 (10) 1) (fun f119 => (v101na0_4, v101na0_5, v101na0_6, v101na0_7, v101na0_8, v101na0_9, v101na0_10, 0, f119, v101nfa0_12)))))))))))))))))) else (fl_c2 (FfG_X8_wrong 3 a0_4) (fun v16na0_9 v16na0_10 => fl_lt (fa0_16 (11)) (fun x25 => if x25 = 0 then ((a0_4, a0_5, a0_6, a0_7, a0_8, v16na0_9, v16na0_10, 1, fa0_16, fa0_12)) else ((a0_4, a0_5, a0_6, a0_7, a0_8, v16na0_9, v16na0_10, 1, fa0_16, fa0_12))))))




def FfG_X8_figureLine (a0_3 : Int) (a0_4 : Int) (a0_5 : Int) (a0_6 : Int) (a0_7 : Int) (a0_8 : Int) (a0_9 : Int) (a0_10 : Int) (fa0_16 : (Nat → Int)) (fa0_12 : (Nat → Int)) (fa0_1 : (Nat → Int)) : Int × Int × Int × Int × Int × Int × Int × Int × (Nat → Int) × (Nat → Int) :=
  fl_lt (fa0_16 (4)) (fun x14 => fl_c10 (FfG_X8_newName x14 a0_3 a0_4 a0_5 a0_6 a0_7 a0_8 a0_9 a0_10 fa0_12 fa0_16 fa0_1) (fun v15na0_4 v15na0_5 v15na0_6 v15na0_7 v15na0_8 v15na0_9 v15na0_10 v15na0_13 v15nfa0_12 v15nfa0_16 => if v15na0_13 = 1 then (fl_lt (Ff_X8_last v15nfa0_16) (fun r27 => fl_lt (FfF_X8_numberHere 0) (fun r30 => fl_lt (FfF_X8_isWord) (fun r71 => fl_lt (FfF_X8_isWord) (fun r84 => fl_lt (FfF_X8_number 1) (fun r117 => (v15na0_4, v15na0_5, v15na0_6, v15na0_7, v15na0_8, v15na0_9, v15na0_10, 1, v15nfa0_16, v15nfa0_12))))))) else (fl_c9 (FfG_X8_must a0_3 v15na0_4 v15na0_5 v15na0_6 v15na0_7 v15na0_8 v15na0_9 v15na0_10 v15nfa0_12 fa0_1 2 (fl_A (sxc 30))) (fun v21na0_4 v21na0_5 v21na0_6 v21na0_7 v21na0_8 v21na0_9 v21na0_10 v21na0_13 v21nfa0_12 => if v21na0_13 = 1 then (fl_lt (Ff_X8_last v15nfa0_16) (fun r27 => fl_lt (FfF_X8_numberHere 0) (fun r30 => fl_lt (FfF_X8_isWord) (fun r71 => fl_lt (FfF_X8_isWord) (fun r84 => fl_lt (FfF_X8_number 1) (fun r117 => (v21na0_4, v21na0_5, v21na0_6, v21na0_7, v21na0_8, v21na0_9, v21na0_10, 1, v15nfa0_16, v21nfa0_12))))))) else (fl_lt (Ff_X8_last v15nfa0_16) (fun r27 => fl_c4 (FfG_X8_numberHere 0 r27 v21na0_4 v21na0_6 v21na0_7 v21na0_9 v21na0_10) (fun r30 v30na0_9 v30na0_10 v30na0_13 => if v30na0_13 = 1 then (fl_lt (FfF_X8_isWord) (fun r71 => fl_lt (FfF_X8_isWord) (fun r84 => fl_lt (FfF_X8_number 1) (fun r117 => (v21na0_4, v21na0_5, v21na0_6, v21na0_7, v21na0_8, v30na0_9, v30na0_10, 1, v15nfa0_16, v21nfa0_12))))) else (fl_lt (2 * r30) (fun x49 => fl_lt (12 + x49) (fun x50 => fl_lt (v15nfa0_16 (x50.toNat)) (fun x51 => if x51 ≤ 0 then (fl_c6 (FfG_X8_pass a0_3 v21na0_5 fa0_1 v21nfa0_12) (fun v65na0_4 v65na0_5 v65na0_6 v65na0_7 v65na0_8 v65nfa0_12 => fl_lt (FfG_X8_isWord v65na0_6 v65na0_8 v65nfa0_12 5 (fl_A (sxc 31))) (fun r71 => if r71 = 0 then (fl_lt (FfG_X8_isWord v65na0_6 v65na0_8 v65nfa0_12 6 (fl_A (sxc 32))) (fun r84 => if r84 = 0 then (fl_c2 (FfG_X8_wrong 1 v65na0_4) (fun v106na0_9 v106na0_10 => fl_lt (FfF_X8_number 1) (fun r117 => (v65na0_4, v65na0_5, v65na0_6, v65na0_7, v65na0_8, v106na0_9, v106na0_10, 1, v15nfa0_16, v65nfa0_12)))) else (fl_c6 (FfG_X8_pass a0_3 v65na0_5 fa0_1 v65nfa0_12) (fun v110na0_4 v110na0_5 v110na0_6 v110na0_7 v110na0_8 v110nfa0_12 => fl_c10 (FfG_X8_number 1 20 a0_3 v110na0_4 v110na0_5 v110na0_6 v110na0_7 v110na0_8 v30na0_9 v30na0_10 fa0_1 v110nfa0_12) (fun r117 v117na0_4 v117na0_5 v117na0_6 v117na0_7 v117na0_8 v117na0_9 v117na0_10 v117na0_13 v117nfa0_12 => if v117na0_13 = 1 then ((v117na0_4, v117na0_5, v117na0_6, v117na0_7, v117na0_8, v117na0_9, v117na0_10, 1, v15nfa0_16, v117nfa0_12)) else (fl_lt (fl_up v15nfa0_16 (x50.toNat) 2) (fun f140 => fl_lt (x50 + 1) (fun x152 => fl_lt (fl_up f140 (x152.toNat) r117) (fun f154 => fl_lt (f154 (4)) (fun x161 => fl_lt (x161 + 1) (fun x163 => fl_lt (fl_up f154 (4) x163) (fun f164 => (v117na0_4, v117na0_5, v117na0_6, v117na0_7, v117na0_8, v117na0_9, v117na0_10, 0, f164, v117nfa0_12))))))))))))) else (fl_c6 (FfG_X8_pass a0_3 v65na0_5 fa0_1 v65nfa0_12) (fun v110na0_4 v110na0_5 v110na0_6 v110na0_7 v110na0_8 v110nfa0_12 => fl_c10 (FfG_X8_number 1 20 a0_3 v110na0_4 v110na0_5 v110na0_6 v110na0_7 v110na0_8 v30na0_9 v30na0_10 fa0_1 v110nfa0_12) (fun r117 v117na0_4 v117na0_5 v117na0_6 v117na0_7 v117na0_8 v117na0_9 v117na0_10 v117na0_13 v117nfa0_12 => if v117na0_13 = 1 then ((v117na0_4, v117na0_5, v117na0_6, v117na0_7, v117na0_8, v117na0_9, v117na0_10, 1, v15nfa0_16, v117nfa0_12)) else (fl_lt (fl_up v15nfa0_16 (x50.toNat) 1) (fun f140 => fl_lt (x50 + 1) (fun x152 => fl_lt (fl_up f140 (x152.toNat) r117) (fun f154 => fl_lt (f154 (4)) (fun x161 => fl_lt (x161 + 1) (fun x163 => fl_lt (fl_up f154 (4) x163) (fun f164 => (v117na0_4, v117na0_5, v117na0_6, v117na0_7, v117na0_8, v117na0_9, v117na0_10, 0, f164, v117nfa0_12)))))))))))))) else (fl_c2 (FfG_X8_wrong 3 v21na0_4) (fun v61na0_9 v61na0_10 => fl_lt (FfF_X8_isWord) (fun r71 => fl_lt (FfF_X8_isWord) (fun r84 => fl_lt (FfF_X8_number 1) (fun r117 => (v21na0_4, v21na0_5, v21na0_6, v21na0_7, v21na0_8, v61na0_9, v61na0_10, 1, v15nfa0_16, v21nfa0_12)))))))))))))))))

def FfG_X8_watcherLine (a0_3 : Int) (a0_4 : Int) (a0_5 : Int) (a0_6 : Int) (a0_7 : Int) (a0_8 : Int) (a0_9 : Int) (a0_10 : Int) (fa0_16 : (Nat → Int)) (fa0_12 : (Nat → Int)) (fa0_1 : (Nat → Int)) : Int × Int × Int × Int × Int × Int × Int × Int × (Nat → Int) × (Nat → Int) :=
  fl_lt (fa0_16 (5)) (fun x16 => fl_lt (2 * x16) (fun x17 => fl_lt (30 + x17) (fun x18 => fl_lt (9 + x16) (fun x29 => fl_c10 (FfG_X8_newName x29 a0_3 a0_4 a0_5 a0_6 a0_7 a0_8 a0_9 a0_10 fa0_12 fa0_16 fa0_1) (fun v30na0_4 v30na0_5 v30na0_6 v30na0_7 v30na0_8 v30na0_9 v30na0_10 v30na0_13 v30nfa0_12 v30nfa0_16 => if v30na0_13 = 1 then (fl_lt (Ff_X8_last v30nfa0_16) (fun r43 => fl_lt (FfF_X8_after 0) (fun r46 => fl_lt (fl_up v30nfa0_16 (x18.toNat) 0) (fun f49 => fl_lt (x18 + 1) (fun x56 => fl_lt (Ff_X8_last f49) (fun r62 => fl_lt (FfF_X8_after 0) (fun r65 => fl_lt (fl_up f49 (x56.toNat) 0) (fun f68 => (v30na0_4, v30na0_5, v30na0_6, v30na0_7, v30na0_8, v30na0_9, v30na0_10, 1, f68, v30nfa0_12))))))))) else (fl_lt (Ff_X8_last v30nfa0_16) (fun r43 => fl_c10 (FfG_X8_after 0 r43 a0_3 v30na0_4 v30na0_5 v30na0_6 v30na0_7 v30na0_8 v30na0_9 v30na0_10 v30nfa0_12 fa0_1 4 (fl_A (sxc 33))) (fun r46 v46na0_4 v46na0_5 v46na0_6 v46na0_7 v46na0_8 v46na0_9 v46na0_10 v46na0_13 v46nfa0_12 => if v46na0_13 = 1 then (fl_lt (fl_up v30nfa0_16 (x18.toNat) r46) (fun f49 => fl_lt (x18 + 1) (fun x56 => fl_lt (Ff_X8_last f49) (fun r62 => fl_lt (FfF_X8_after 0) (fun r65 => fl_lt (fl_up f49 (x56.toNat) 0) (fun f68 => (v46na0_4, v46na0_5, v46na0_6, v46na0_7, v46na0_8, v46na0_9, v46na0_10, 1, f68, v46nfa0_12))))))) else (fl_lt (fl_up v30nfa0_16 (x18.toNat) r46) (fun f49 => fl_lt (x18 + 1) (fun x56 => fl_lt (Ff_X8_last f49) (fun r62 => fl_c10 (FfG_X8_after 0 r62 a0_3 v46na0_4 v46na0_5 v46na0_6 v46na0_7 v46na0_8 v46na0_9 v46na0_10 v46nfa0_12 fa0_1 2 (fl_A (sxc 34))) (fun r65 v65na0_4 v65na0_5 v65na0_6 v65na0_7 v65na0_8 v65na0_9 v65na0_10 v65na0_13 v65nfa0_12 => if v65na0_13 = 1 then (fl_lt (fl_up f49 (x56.toNat) r65) (fun f68 => (v65na0_4, v65na0_5, v65na0_6, v65na0_7, v65na0_8, v65na0_9, v65na0_10, 1, f68, v65nfa0_12))) else (fl_lt (fl_up f49 (x56.toNat) r65) (fun f68 => fl_lt (f68 (5)) (fun x82 => fl_lt (x82 + 1) (fun x84 => fl_lt (fl_up f68 (5) x84) (fun f85 => (v65na0_4, v65na0_5, v65na0_6, v65na0_7, v65na0_8, v65na0_9, v65na0_10, 0, f85, v65nfa0_12)))))))))))))))))))

def SfG_X8_seenLine_49_1 (a0_3 : Int) (fa0_16 : (Nat → Int)) (fa0_1 : (Nat → Int)) (x19 : Int) (r27 : Int) (j49l4 : Int) (j49l3 : Int) (j49a0_4 : Int) (j49a0_5 : Int) (j49a0_6 : Int) (j49a0_7 : Int) (j49a0_8 : Int) (j49a0_9 : Int) (j49a0_10 : Int) (j49a0_13 : Int) (j49a0_12_a : (Nat → Int)) : Sum (Int × Int × Int × Int × Int × Int × Int × Int × Int × Int × (Nat → Int)) (Int × Int × Int × Int × Int × Int × Int × Int × (Nat → Int) × (Nat → Int)) :=
  if j49a0_13 = 0 then (fl_lt (fa0_16 (6)) (fun x57 => if x57 ≤ j49l4 then (Sum.inr (fl_c6 (FfG_X8_pass a0_3 j49a0_5 fa0_1 j49a0_12_a) (fun v102na0_4 v102na0_5 v102na0_6 v102na0_7 v102na0_8 v102nfa0_12 => fl_lt (fl_up fa0_16 (x19.toNat) r27) (fun f119 => fl_lt (x19 + 1) (fun x126 => fl_lt (fl_up f119 (x126.toNat) j49l3) (fun f128 => fl_lt (f128 (6)) (fun x136 => fl_lt (x136 + 1) (fun x138 => fl_lt (fl_up f128 (6) x138) (fun f139 => (v102na0_4, v102na0_5, v102na0_6, v102na0_7, v102na0_8, j49a0_9, j49a0_10, 0, f139, v102nfa0_12)))))))))) else (fl_lt (2 * j49l4) (fun x77 => fl_lt (36 + x77) (fun x78 => fl_lt (x78 + 1) (fun x80 => fl_lt (fa0_16 (x80.toNat)) (fun x81 => if x81 = j49l3 then (fl_c2 (FfG_X8_wrong 3 j49a0_4) (fun v92na0_9 v92na0_10 => fl_lt (j49l4 + 1) (fun x95 => Sum.inl (x95, j49l3, j49a0_4, j49a0_5, j49a0_6, j49a0_7, j49a0_8, v92na0_9, v92na0_10, 1, j49a0_12_a)))) else (fl_lt (j49l4 + 1) (fun x95 => Sum.inl (x95, j49l3, j49a0_4, j49a0_5, j49a0_6, j49a0_7, j49a0_8, j49a0_9, j49a0_10, 0, j49a0_12_a)))))))))) else (fl_lt (fa0_16 (6)) (fun x57 => if x57 ≤ j49l4 then (Sum.inr ((j49a0_4, j49a0_5, j49a0_6, j49a0_7, j49a0_8, j49a0_9, j49a0_10, 1, fa0_16, j49a0_12_a))) else (fl_lt (j49l4 + 1) (fun x95 => Sum.inl (x95, j49l3, j49a0_4, j49a0_5, j49a0_6, j49a0_7, j49a0_8, j49a0_9, j49a0_10, 1, j49a0_12_a)))))
def SfG_X8_seenLine_49_2 (a0_3 : Int) (fa0_16 : (Nat → Int)) (fa0_1 : (Nat → Int)) (x19 : Int) (r27 : Int) (j49l4 : Int) (j49l3 : Int) (j49a0_4 : Int) (j49a0_5 : Int) (j49a0_6 : Int) (j49a0_7 : Int) (j49a0_8 : Int) (j49a0_9 : Int) (j49a0_10 : Int) (j49a0_13 : Int) (j49a0_12_a : (Nat → Int)) : Sum (Int × Int × Int × Int × Int × Int × Int × Int × Int × Int × (Nat → Int)) (Int × Int × Int × Int × Int × Int × Int × Int × (Nat → Int) × (Nat → Int)) :=
  if j49a0_13 = 0 then (fl_lt (fa0_16 (6)) (fun x57 => if x57 ≤ j49l4 then (Sum.inr (fl_c6 (FfG_X8_pass a0_3 j49a0_5 fa0_1 j49a0_12_a) (fun v102na0_4 v102na0_5 v102na0_6 v102na0_7 v102na0_8 v102nfa0_12 => fl_lt (fl_up fa0_16 (x19.toNat) r27) (fun f119 => fl_lt (x19 + 1) (fun x126 => fl_lt (fl_up f119 (x126.toNat) j49l3) (fun f128 => fl_lt (f128 (6)) (fun x136 => fl_lt (x136 + 1) (fun x138 => fl_lt (fl_up f128 (6) x138) (fun f139 => (v102na0_4, v102na0_5, v102na0_6, v102na0_7, v102na0_8, j49a0_9, j49a0_10, 0, f139, v102nfa0_12)))))))))) else (fl_lt (2 * j49l4) (fun x77 => fl_lt (36 + x77) (fun x78 => fl_lt (x78 + 1) (fun x80 => fl_lt (fa0_16 (x80.toNat)) (fun x81 => if x81 = j49l3 then (fl_c2 (FfG_X8_wrong 3 j49a0_4) (fun v92na0_9 v92na0_10 => fl_lt (j49l4 + 1) (fun x95 => Sum.inl (x95, j49l3, j49a0_4, j49a0_5, j49a0_6, j49a0_7, j49a0_8, v92na0_9, v92na0_10, 1, j49a0_12_a)))) else (fl_lt (j49l4 + 1) (fun x95 => Sum.inl (x95, j49l3, j49a0_4, j49a0_5, j49a0_6, j49a0_7, j49a0_8, j49a0_9, j49a0_10, 0, j49a0_12_a)))))))))) else (fl_lt (fa0_16 (6)) (fun x57 => if x57 ≤ j49l4 then (Sum.inr ((j49a0_4, j49a0_5, j49a0_6, j49a0_7, j49a0_8, j49a0_9, j49a0_10, 1, fa0_16, j49a0_12_a))) else (fl_lt (j49l4 + 1) (fun x95 => Sum.inl (x95, j49l3, j49a0_4, j49a0_5, j49a0_6, j49a0_7, j49a0_8, j49a0_9, j49a0_10, 1, j49a0_12_a)))))
def SfG_X8_seenLine_49_3 (a0_3 : Int) (fa0_16 : (Nat → Int)) (fa0_1 : (Nat → Int)) (x19 : Int) (r27 : Int) (j49l4 : Int) (j49l3 : Int) (j49a0_4 : Int) (j49a0_5 : Int) (j49a0_6 : Int) (j49a0_7 : Int) (j49a0_8 : Int) (j49a0_9 : Int) (j49a0_10 : Int) (j49a0_13 : Int) (j49a0_12_a : (Nat → Int)) : Sum (Int × Int × Int × Int × Int × Int × Int × Int × Int × Int × (Nat → Int)) (Int × Int × Int × Int × Int × Int × Int × Int × (Nat → Int) × (Nat → Int)) :=
  if j49a0_13 = 0 then (fl_lt (fa0_16 (6)) (fun x57 => if x57 ≤ j49l4 then (Sum.inr (fl_c6 (FfG_X8_pass a0_3 j49a0_5 fa0_1 j49a0_12_a) (fun v102na0_4 v102na0_5 v102na0_6 v102na0_7 v102na0_8 v102nfa0_12 => fl_lt (fl_up fa0_16 (x19.toNat) r27) (fun f119 => fl_lt (x19 + 1) (fun x126 => fl_lt (fl_up f119 (x126.toNat) j49l3) (fun f128 => fl_lt (f128 (6)) (fun x136 => fl_lt (x136 + 1) (fun x138 => fl_lt (fl_up f128 (6) x138) (fun f139 => (v102na0_4, v102na0_5, v102na0_6, v102na0_7, v102na0_8, j49a0_9, j49a0_10, 0, f139, v102nfa0_12)))))))))) else (fl_lt (2 * j49l4) (fun x77 => fl_lt (36 + x77) (fun x78 => fl_lt (x78 + 1) (fun x80 => fl_lt (fa0_16 (x80.toNat)) (fun x81 => if x81 = j49l3 then (fl_c2 (FfG_X8_wrong 3 j49a0_4) (fun v92na0_9 v92na0_10 => fl_lt (j49l4 + 1) (fun x95 => Sum.inl (x95, j49l3, j49a0_4, j49a0_5, j49a0_6, j49a0_7, j49a0_8, v92na0_9, v92na0_10, 1, j49a0_12_a)))) else (fl_lt (j49l4 + 1) (fun x95 => Sum.inl (x95, j49l3, j49a0_4, j49a0_5, j49a0_6, j49a0_7, j49a0_8, j49a0_9, j49a0_10, 0, j49a0_12_a)))))))))) else (fl_lt (fa0_16 (6)) (fun x57 => if x57 ≤ j49l4 then (Sum.inr ((j49a0_4, j49a0_5, j49a0_6, j49a0_7, j49a0_8, j49a0_9, j49a0_10, 1, fa0_16, j49a0_12_a))) else (fl_lt (j49l4 + 1) (fun x95 => Sum.inl (x95, j49l3, j49a0_4, j49a0_5, j49a0_6, j49a0_7, j49a0_8, j49a0_9, j49a0_10, 1, j49a0_12_a)))))
def SfG_X8_seenLine_49_4 (a0_3 : Int) (fa0_16 : (Nat → Int)) (fa0_1 : (Nat → Int)) (x19 : Int) (r27 : Int) (j49l4 : Int) (j49l3 : Int) (j49a0_4 : Int) (j49a0_5 : Int) (j49a0_6 : Int) (j49a0_7 : Int) (j49a0_8 : Int) (j49a0_9 : Int) (j49a0_10 : Int) (j49a0_13 : Int) (j49a0_12_a : (Nat → Int)) : Sum (Int × Int × Int × Int × Int × Int × Int × Int × Int × Int × (Nat → Int)) (Int × Int × Int × Int × Int × Int × Int × Int × (Nat → Int) × (Nat → Int)) :=
  if j49a0_13 = 0 then (fl_lt (fa0_16 (6)) (fun x57 => if x57 ≤ j49l4 then (Sum.inr (fl_c6 (FfG_X8_pass a0_3 j49a0_5 fa0_1 j49a0_12_a) (fun v102na0_4 v102na0_5 v102na0_6 v102na0_7 v102na0_8 v102nfa0_12 => fl_lt (fl_up fa0_16 (x19.toNat) r27) (fun f119 => fl_lt (x19 + 1) (fun x126 => fl_lt (fl_up f119 (x126.toNat) j49l3) (fun f128 => fl_lt (f128 (6)) (fun x136 => fl_lt (x136 + 1) (fun x138 => fl_lt (fl_up f128 (6) x138) (fun f139 => (v102na0_4, v102na0_5, v102na0_6, v102na0_7, v102na0_8, j49a0_9, j49a0_10, 0, f139, v102nfa0_12)))))))))) else (fl_lt (2 * j49l4) (fun x77 => fl_lt (36 + x77) (fun x78 => fl_lt (x78 + 1) (fun x80 => fl_lt (fa0_16 (x80.toNat)) (fun x81 => if x81 = j49l3 then (fl_c2 (FfG_X8_wrong 3 j49a0_4) (fun v92na0_9 v92na0_10 => fl_lt (j49l4 + 1) (fun x95 => Sum.inl (x95, j49l3, j49a0_4, j49a0_5, j49a0_6, j49a0_7, j49a0_8, v92na0_9, v92na0_10, 1, j49a0_12_a)))) else (fl_lt (j49l4 + 1) (fun x95 => Sum.inl (x95, j49l3, j49a0_4, j49a0_5, j49a0_6, j49a0_7, j49a0_8, j49a0_9, j49a0_10, 0, j49a0_12_a)))))))))) else (fl_lt (fa0_16 (6)) (fun x57 => if x57 ≤ j49l4 then (Sum.inr ((j49a0_4, j49a0_5, j49a0_6, j49a0_7, j49a0_8, j49a0_9, j49a0_10, 1, fa0_16, j49a0_12_a))) else (fl_lt (j49l4 + 1) (fun x95 => Sum.inl (x95, j49l3, j49a0_4, j49a0_5, j49a0_6, j49a0_7, j49a0_8, j49a0_9, j49a0_10, 1, j49a0_12_a)))))
def FfG_X8_seenLine (a0_3 : Int) (a0_4 : Int) (a0_5 : Int) (a0_6 : Int) (a0_7 : Int) (a0_8 : Int) (a0_9 : Int) (a0_10 : Int) (fa0_16 : (Nat → Int)) (fa0_1 : (Nat → Int)) (fa0_12 : (Nat → Int)) : Int × Int × Int × Int × Int × Int × Int × Int × (Nat → Int) × (Nat → Int) :=
  fl_lt (fa0_16 (6)) (fun x17 => fl_lt (2 * x17) (fun x18 => fl_lt (36 + x18) (fun x19 => fl_lt (Ff_X8_last fa0_16) (fun r24 => fl_c10 (FfG_X8_number 0 r24 a0_3 a0_4 a0_5 a0_6 a0_7 a0_8 a0_9 a0_10 fa0_1 fa0_12) (fun r27 v27na0_4 v27na0_5 v27na0_6 v27na0_7 v27na0_8 v27na0_9 v27na0_10 v27na0_13 v27nfa0_12 => if v27na0_13 = 1 then (fl_lt (FfF_X8_numberHere 0) (fun r42 => fl_wh (fun t9 => SfG_X8_seenLine_49_1 a0_3 fa0_16 fa0_1 x19 r27 t9.1 t9.2.1 t9.2.2.1 t9.2.2.2.1 t9.2.2.2.2.1 t9.2.2.2.2.2.1 t9.2.2.2.2.2.2.1 t9.2.2.2.2.2.2.2.1 t9.2.2.2.2.2.2.2.2.1 t9.2.2.2.2.2.2.2.2.2.1 t9.2.2.2.2.2.2.2.2.2.2) (0, 0, 0, 0, 0, 0, 0, 0, (fun _ => 0), (fun _ => 0)) 6 (0, 0, v27na0_4, v27na0_5, v27na0_6, v27na0_7, v27na0_8, v27na0_9, v27na0_10, 1, v27nfa0_12))) else (fl_c9 (FfG_X8_must a0_3 v27na0_4 v27na0_5 v27na0_6 v27na0_7 v27na0_8 v27na0_9 v27na0_10 v27nfa0_12 fa0_1 2 (fl_A (sxc 35))) (fun v34na0_4 v34na0_5 v34na0_6 v34na0_7 v34na0_8 v34na0_9 v34na0_10 v34na0_13 v34nfa0_12 => if v34na0_13 = 1 then (fl_lt (FfF_X8_numberHere 0) (fun r42 => fl_wh (fun t9 => SfG_X8_seenLine_49_2 a0_3 fa0_16 fa0_1 x19 r27 t9.1 t9.2.1 t9.2.2.1 t9.2.2.2.1 t9.2.2.2.2.1 t9.2.2.2.2.2.1 t9.2.2.2.2.2.2.1 t9.2.2.2.2.2.2.2.1 t9.2.2.2.2.2.2.2.2.1 t9.2.2.2.2.2.2.2.2.2.1 t9.2.2.2.2.2.2.2.2.2.2) (0, 0, 0, 0, 0, 0, 0, 0, (fun _ => 0), (fun _ => 0)) 6 (0, 0, v34na0_4, v34na0_5, v34na0_6, v34na0_7, v34na0_8, v34na0_9, v34na0_10, 1, v34nfa0_12))) else (fl_c4 (FfG_X8_numberHere 0 999 v34na0_4 v34na0_6 v34na0_7 v34na0_9 v34na0_10) (fun r42 v42na0_9 v42na0_10 v42na0_13 => if v42na0_13 = 1 then (fl_wh (fun t9 => SfG_X8_seenLine_49_3 a0_3 fa0_16 fa0_1 x19 r27 t9.1 t9.2.1 t9.2.2.1 t9.2.2.2.1 t9.2.2.2.2.1 t9.2.2.2.2.2.1 t9.2.2.2.2.2.2.1 t9.2.2.2.2.2.2.2.1 t9.2.2.2.2.2.2.2.2.1 t9.2.2.2.2.2.2.2.2.2.1 t9.2.2.2.2.2.2.2.2.2.2) (0, 0, 0, 0, 0, 0, 0, 0, (fun _ => 0), (fun _ => 0)) 6 (0, r42, v34na0_4, v34na0_5, v34na0_6, v34na0_7, v34na0_8, v42na0_9, v42na0_10, 1, v34nfa0_12)) else (fl_wh (fun t9 => SfG_X8_seenLine_49_4 a0_3 fa0_16 fa0_1 x19 r27 t9.1 t9.2.1 t9.2.2.1 t9.2.2.2.1 t9.2.2.2.2.1 t9.2.2.2.2.2.1 t9.2.2.2.2.2.2.1 t9.2.2.2.2.2.2.2.1 t9.2.2.2.2.2.2.2.2.1 t9.2.2.2.2.2.2.2.2.2.1 t9.2.2.2.2.2.2.2.2.2.2) (0, 0, 0, 0, 0, 0, 0, 0, (fun _ => 0), (fun _ => 0)) 6 (0, r42, v34na0_4, v34na0_5, v34na0_6, v34na0_7, v34na0_8, v42na0_9, v42na0_10, 0, v34nfa0_12)))))))))))

def FfG_X8_readLine (a0_3 : Int) (a0_4 : Int) (a0_5 : Int) (a0_6 : Int) (a0_7 : Int) (a0_8 : Int) (a0_9 : Int) (a0_10 : Int) (fa0_12 : (Nat → Int)) (fa0_16 : (Nat → Int)) (fa0_1 : (Nat → Int)) : Int × Int × Int × Int × Int × Int × Int × Int × (Nat → Int) × (Nat → Int) :=
  fl_lt (FfG_X8_isWord a0_6 a0_8 fa0_12 7 (fl_A (sxc 18))) (fun r3 => if r3 = 0 then (fl_lt (FfG_X8_isWord a0_6 a0_8 fa0_12 3 (fl_A (sxc 19))) (fun r19 => if r19 = 0 then (fl_lt (fa0_16 (4)) (fun x40 => if 9 ≤ x40 then (fl_c10 (FfG_X8_begins 0 a0_3 a0_4 a0_5 a0_6 a0_7 a0_8 a0_9 a0_10 fa0_12 fa0_16 fa0_1 6 (fl_A (sxc 20))) (fun r51 v51na0_4 v51na0_5 v51na0_6 v51na0_7 v51na0_8 v51na0_9 v51na0_10 v51na0_13 v51nfa0_12 => if r51 = 0 then (fl_lt (fa0_16 (5)) (fun x72 => if 3 ≤ x72 then (fl_c10 (FfG_X8_begins 0 a0_3 v51na0_4 v51na0_5 v51na0_6 v51na0_7 v51na0_8 v51na0_9 v51na0_10 v51nfa0_12 fa0_16 fa0_1 7 (fl_A (sxc 21))) (fun r82 v82na0_4 v82na0_5 v82na0_6 v82na0_7 v82na0_8 v82na0_9 v82na0_10 v82na0_13 v82nfa0_12 => if r82 = 0 then (fl_lt (fa0_16 (6)) (fun x104 => if 6 ≤ x104 then (fl_c10 (FfG_X8_begins 0 a0_3 v82na0_4 v82na0_5 v82na0_6 v82na0_7 v82na0_8 v82na0_9 v82na0_10 v82nfa0_12 fa0_16 fa0_1 4 (fl_A (sxc 22))) (fun r115 v115na0_4 v115na0_5 v115na0_6 v115na0_7 v115na0_8 v115na0_9 v115na0_10 v115na0_13 v115nfa0_12 => if r115 = 0 then (fl_c2 (FfG_X8_wrong 1 v115na0_4) (fun v134na0_9 v134na0_10 => (v115na0_4, v115na0_5, v115na0_6, v115na0_7, v115na0_8, v134na0_9, v134na0_10, 1, v115nfa0_12, fa0_16))) else (if v115na0_13 = 1 then ((v115na0_4, v115na0_5, v115na0_6, v115na0_7, v115na0_8, v115na0_9, v115na0_10, 1, v115nfa0_12, fa0_16)) else ((0, 0, 0, 0, 0, 0, 0, 0, (fun _ => 0), (fun _ => 0)))))) else (fl_c10 (FfG_X8_begins 1 a0_3 v82na0_4 v82na0_5 v82na0_6 v82na0_7 v82na0_8 v82na0_9 v82na0_10 v82nfa0_12 fa0_16 fa0_1 4 (fl_A (sxc 22))) (fun r115 v115na0_4 v115na0_5 v115na0_6 v115na0_7 v115na0_8 v115na0_9 v115na0_10 v115na0_13 v115nfa0_12 => if r115 = 0 then (fl_c2 (FfG_X8_wrong 1 v115na0_4) (fun v134na0_9 v134na0_10 => (v115na0_4, v115na0_5, v115na0_6, v115na0_7, v115na0_8, v134na0_9, v134na0_10, 1, v115nfa0_12, fa0_16))) else (if v115na0_13 = 1 then ((v115na0_4, v115na0_5, v115na0_6, v115na0_7, v115na0_8, v115na0_9, v115na0_10, 1, v115nfa0_12, fa0_16)) else (fl_c10 (FfG_X8_seenLine a0_3 v115na0_4 v115na0_5 v115na0_6 v115na0_7 v115na0_8 v115na0_9 v115na0_10 fa0_16 fa0_1 v115nfa0_12) (fun v122na0_4 v122na0_5 v122na0_6 v122na0_7 v122na0_8 v122na0_9 v122na0_10 v122na0_13 v122nfa0_16 v122nfa0_12 => if v122na0_13 = 1 then ((v122na0_4, v122na0_5, v122na0_6, v122na0_7, v122na0_8, v122na0_9, v122na0_10, 1, v122nfa0_12, v122nfa0_16)) else ((v122na0_4, v122na0_5, v122na0_6, v122na0_7, v122na0_8, v122na0_9, v122na0_10, 0, v122nfa0_12, v122nfa0_16))))))))) else (if v82na0_13 = 1 then ((v82na0_4, v82na0_5, v82na0_6, v82na0_7, v82na0_8, v82na0_9, v82na0_10, 1, v82nfa0_12, fa0_16)) else ((0, 0, 0, 0, 0, 0, 0, 0, (fun _ => 0), (fun _ => 0)))))) else (fl_c10 (FfG_X8_begins 1 a0_3 v51na0_4 v51na0_5 v51na0_6 v51na0_7 v51na0_8 v51na0_9 v51na0_10 v51nfa0_12 fa0_16 fa0_1 7 (fl_A (sxc 21))) (fun r82 v82na0_4 v82na0_5 v82na0_6 v82na0_7 v82na0_8 v82na0_9 v82na0_10 v82na0_13 v82nfa0_12 => if r82 = 0 then (fl_lt (fa0_16 (6)) (fun x104 => if 6 ≤ x104 then (fl_c10 (FfG_X8_begins 0 a0_3 v82na0_4 v82na0_5 v82na0_6 v82na0_7 v82na0_8 v82na0_9 v82na0_10 v82nfa0_12 fa0_16 fa0_1 4 (fl_A (sxc 22))) (fun r115 v115na0_4 v115na0_5 v115na0_6 v115na0_7 v115na0_8 v115na0_9 v115na0_10 v115na0_13 v115nfa0_12 => if r115 = 0 then (fl_c2 (FfG_X8_wrong 1 v115na0_4) (fun v134na0_9 v134na0_10 => (v115na0_4, v115na0_5, v115na0_6, v115na0_7, v115na0_8, v134na0_9, v134na0_10, 1, v115nfa0_12, fa0_16))) else (if v115na0_13 = 1 then ((v115na0_4, v115na0_5, v115na0_6, v115na0_7, v115na0_8, v115na0_9, v115na0_10, 1, v115nfa0_12, fa0_16)) else ((0, 0, 0, 0, 0, 0, 0, 0, (fun _ => 0), (fun _ => 0)))))) else (fl_c10 (FfG_X8_begins 1 a0_3 v82na0_4 v82na0_5 v82na0_6 v82na0_7 v82na0_8 v82na0_9 v82na0_10 v82nfa0_12 fa0_16 fa0_1 4 (fl_A (sxc 22))) (fun r115 v115na0_4 v115na0_5 v115na0_6 v115na0_7 v115na0_8 v115na0_9 v115na0_10 v115na0_13 v115nfa0_12 => if r115 = 0 then (fl_c2 (FfG_X8_wrong 1 v115na0_4) (fun v134na0_9 v134na0_10 => (v115na0_4, v115na0_5, v115na0_6, v115na0_7, v115na0_8, v134na0_9, v134na0_10, 1, v115nfa0_12, fa0_16))) else (if v115na0_13 = 1 then ((v115na0_4, v115na0_5, v115na0_6, v115na0_7, v115na0_8, v115na0_9, v115na0_10, 1, v115nfa0_12, fa0_16)) else (fl_c10 (FfG_X8_seenLine a0_3 v115na0_4 v115na0_5 v115na0_6 v115na0_7 v115na0_8 v115na0_9 v115na0_10 fa0_16 fa0_1 v115nfa0_12) (fun v122na0_4 v122na0_5 v122na0_6 v122na0_7 v122na0_8 v122na0_9 v122na0_10 v122na0_13 v122nfa0_16 v122nfa0_12 => if v122na0_13 = 1 then ((v122na0_4, v122na0_5, v122na0_6, v122na0_7, v122na0_8, v122na0_9, v122na0_10, 1, v122nfa0_12, v122nfa0_16)) else ((v122na0_4, v122na0_5, v122na0_6, v122na0_7, v122na0_8, v122na0_9, v122na0_10, 0, v122nfa0_12, v122nfa0_16))))))))) else (if v82na0_13 = 1 then ((v82na0_4, v82na0_5, v82na0_6, v82na0_7, v82na0_8, v82na0_9, v82na0_10, 1, v82nfa0_12, fa0_16)) else (fl_c10 (FfG_X8_watcherLine a0_3 v82na0_4 v82na0_5 v82na0_6 v82na0_7 v82na0_8 v82na0_9 v82na0_10 fa0_16 v82nfa0_12 fa0_1) (fun v89na0_4 v89na0_5 v89na0_6 v89na0_7 v89na0_8 v89na0_9 v89na0_10 v89na0_13 v89nfa0_16 v89nfa0_12 => if v89na0_13 = 1 then ((v89na0_4, v89na0_5, v89na0_6, v89na0_7, v89na0_8, v89na0_9, v89na0_10, 1, v89nfa0_12, v89nfa0_16)) else ((v89na0_4, v89na0_5, v89na0_6, v89na0_7, v89na0_8, v89na0_9, v89na0_10, 0, v89nfa0_12, v89nfa0_16))))))))) else (if v51na0_13 = 1 then ((v51na0_4, v51na0_5, v51na0_6, v51na0_7, v51na0_8, v51na0_9, v51na0_10, 1, v51nfa0_12, fa0_16)) else ((0, 0, 0, 0, 0, 0, 0, 0, (fun _ => 0), (fun _ => 0)))))) else (fl_c10 (FfG_X8_begins 1 a0_3 a0_4 a0_5 a0_6 a0_7 a0_8 a0_9 a0_10 fa0_12 fa0_16 fa0_1 6 (fl_A (sxc 20))) (fun r51 v51na0_4 v51na0_5 v51na0_6 v51na0_7 v51na0_8 v51na0_9 v51na0_10 v51na0_13 v51nfa0_12 => if r51 = 0 then (fl_lt (fa0_16 (5)) (fun x72 => if 3 ≤ x72 then (fl_c10 (FfG_X8_begins 0 a0_3 v51na0_4 v51na0_5 v51na0_6 v51na0_7 v51na0_8 v51na0_9 v51na0_10 v51nfa0_12 fa0_16 fa0_1 7 (fl_A (sxc 21))) (fun r82 v82na0_4 v82na0_5 v82na0_6 v82na0_7 v82na0_8 v82na0_9 v82na0_10 v82na0_13 v82nfa0_12 => if r82 = 0 then (fl_lt (fa0_16 (6)) (fun x104 => if 6 ≤ x104 then (fl_c10 (FfG_X8_begins 0 a0_3 v82na0_4 v82na0_5 v82na0_6 v82na0_7 v82na0_8 v82na0_9 v82na0_10 v82nfa0_12 fa0_16 fa0_1 4 (fl_A (sxc 22))) (fun r115 v115na0_4 v115na0_5 v115na0_6 v115na0_7 v115na0_8 v115na0_9 v115na0_10 v115na0_13 v115nfa0_12 => if r115 = 0 then (fl_c2 (FfG_X8_wrong 1 v115na0_4) (fun v134na0_9 v134na0_10 => (v115na0_4, v115na0_5, v115na0_6, v115na0_7, v115na0_8, v134na0_9, v134na0_10, 1, v115nfa0_12, fa0_16))) else (if v115na0_13 = 1 then ((v115na0_4, v115na0_5, v115na0_6, v115na0_7, v115na0_8, v115na0_9, v115na0_10, 1, v115nfa0_12, fa0_16)) else ((0, 0, 0, 0, 0, 0, 0, 0, (fun _ => 0), (fun _ => 0)))))) else (fl_c10 (FfG_X8_begins 1 a0_3 v82na0_4 v82na0_5 v82na0_6 v82na0_7 v82na0_8 v82na0_9 v82na0_10 v82nfa0_12 fa0_16 fa0_1 4 (fl_A (sxc 22))) (fun r115 v115na0_4 v115na0_5 v115na0_6 v115na0_7 v115na0_8 v115na0_9 v115na0_10 v115na0_13 v115nfa0_12 => if r115 = 0 then (fl_c2 (FfG_X8_wrong 1 v115na0_4) (fun v134na0_9 v134na0_10 => (v115na0_4, v115na0_5, v115na0_6, v115na0_7, v115na0_8, v134na0_9, v134na0_10, 1, v115nfa0_12, fa0_16))) else (if v115na0_13 = 1 then ((v115na0_4, v115na0_5, v115na0_6, v115na0_7, v115na0_8, v115na0_9, v115na0_10, 1, v115nfa0_12, fa0_16)) else (fl_c10 (FfG_X8_seenLine a0_3 v115na0_4 v115na0_5 v115na0_6 v115na0_7 v115na0_8 v115na0_9 v115na0_10 fa0_16 fa0_1 v115nfa0_12) (fun v122na0_4 v122na0_5 v122na0_6 v122na0_7 v122na0_8 v122na0_9 v122na0_10 v122na0_13 v122nfa0_16 v122nfa0_12 => if v122na0_13 = 1 then ((v122na0_4, v122na0_5, v122na0_6, v122na0_7, v122na0_8, v122na0_9, v122na0_10, 1, v122nfa0_12, v122nfa0_16)) else ((v122na0_4, v122na0_5, v122na0_6, v122na0_7, v122na0_8, v122na0_9, v122na0_10, 0, v122nfa0_12, v122nfa0_16))))))))) else (if v82na0_13 = 1 then ((v82na0_4, v82na0_5, v82na0_6, v82na0_7, v82na0_8, v82na0_9, v82na0_10, 1, v82nfa0_12, fa0_16)) else ((0, 0, 0, 0, 0, 0, 0, 0, (fun _ => 0), (fun _ => 0)))))) else (fl_c10 (FfG_X8_begins 1 a0_3 v51na0_4 v51na0_5 v51na0_6 v51na0_7 v51na0_8 v51na0_9 v51na0_10 v51nfa0_12 fa0_16 fa0_1 7 (fl_A (sxc 21))) (fun r82 v82na0_4 v82na0_5 v82na0_6 v82na0_7 v82na0_8 v82na0_9 v82na0_10 v82na0_13 v82nfa0_12 => if r82 = 0 then (fl_lt (fa0_16 (6)) (fun x104 => if 6 ≤ x104 then (fl_c10 (FfG_X8_begins 0 a0_3 v82na0_4 v82na0_5 v82na0_6 v82na0_7 v82na0_8 v82na0_9 v82na0_10 v82nfa0_12 fa0_16 fa0_1 4 (fl_A (sxc 22))) (fun r115 v115na0_4 v115na0_5 v115na0_6 v115na0_7 v115na0_8 v115na0_9 v115na0_10 v115na0_13 v115nfa0_12 => if r115 = 0 then (fl_c2 (FfG_X8_wrong 1 v115na0_4) (fun v134na0_9 v134na0_10 => (v115na0_4, v115na0_5, v115na0_6, v115na0_7, v115na0_8, v134na0_9, v134na0_10, 1, v115nfa0_12, fa0_16))) else (if v115na0_13 = 1 then ((v115na0_4, v115na0_5, v115na0_6, v115na0_7, v115na0_8, v115na0_9, v115na0_10, 1, v115nfa0_12, fa0_16)) else ((0, 0, 0, 0, 0, 0, 0, 0, (fun _ => 0), (fun _ => 0)))))) else (fl_c10 (FfG_X8_begins 1 a0_3 v82na0_4 v82na0_5 v82na0_6 v82na0_7 v82na0_8 v82na0_9 v82na0_10 v82nfa0_12 fa0_16 fa0_1 4 (fl_A (sxc 22))) (fun r115 v115na0_4 v115na0_5 v115na0_6 v115na0_7 v115na0_8 v115na0_9 v115na0_10 v115na0_13 v115nfa0_12 => if r115 = 0 then (fl_c2 (FfG_X8_wrong 1 v115na0_4) (fun v134na0_9 v134na0_10 => (v115na0_4, v115na0_5, v115na0_6, v115na0_7, v115na0_8, v134na0_9, v134na0_10, 1, v115nfa0_12, fa0_16))) else (if v115na0_13 = 1 then ((v115na0_4, v115na0_5, v115na0_6, v115na0_7, v115na0_8, v115na0_9, v115na0_10, 1, v115nfa0_12, fa0_16)) else (fl_c10 (FfG_X8_seenLine a0_3 v115na0_4 v115na0_5 v115na0_6 v115na0_7 v115na0_8 v115na0_9 v115na0_10 fa0_16 fa0_1 v115nfa0_12) (fun v122na0_4 v122na0_5 v122na0_6 v122na0_7 v122na0_8 v122na0_9 v122na0_10 v122na0_13 v122nfa0_16 v122nfa0_12 => if v122na0_13 = 1 then ((v122na0_4, v122na0_5, v122na0_6, v122na0_7, v122na0_8, v122na0_9, v122na0_10, 1, v122nfa0_12, v122nfa0_16)) else ((v122na0_4, v122na0_5, v122na0_6, v122na0_7, v122na0_8, v122na0_9, v122na0_10, 0, v122nfa0_12, v122nfa0_16))))))))) else (if v82na0_13 = 1 then ((v82na0_4, v82na0_5, v82na0_6, v82na0_7, v82na0_8, v82na0_9, v82na0_10, 1, v82nfa0_12, fa0_16)) else (fl_c10 (FfG_X8_watcherLine a0_3 v82na0_4 v82na0_5 v82na0_6 v82na0_7 v82na0_8 v82na0_9 v82na0_10 fa0_16 v82nfa0_12 fa0_1) (fun v89na0_4 v89na0_5 v89na0_6 v89na0_7 v89na0_8 v89na0_9 v89na0_10 v89na0_13 v89nfa0_16 v89nfa0_12 => if v89na0_13 = 1 then ((v89na0_4, v89na0_5, v89na0_6, v89na0_7, v89na0_8, v89na0_9, v89na0_10, 1, v89nfa0_12, v89nfa0_16)) else ((v89na0_4, v89na0_5, v89na0_6, v89na0_7, v89na0_8, v89na0_9, v89na0_10, 0, v89nfa0_12, v89nfa0_16))))))))) else (if v51na0_13 = 1 then ((v51na0_4, v51na0_5, v51na0_6, v51na0_7, v51na0_8, v51na0_9, v51na0_10, 1, v51nfa0_12, fa0_16)) else (fl_c10 (FfG_X8_figureLine a0_3 v51na0_4 v51na0_5 v51na0_6 v51na0_7 v51na0_8 v51na0_9 v51na0_10 fa0_16 v51nfa0_12 fa0_1) (fun v58na0_4 v58na0_5 v58na0_6 v58na0_7 v58na0_8 v58na0_9 v58na0_10 v58na0_13 v58nfa0_16 v58nfa0_12 => if v58na0_13 = 1 then ((v58na0_4, v58na0_5, v58na0_6, v58na0_7, v58na0_8, v58na0_9, v58na0_10, 1, v58nfa0_12, v58nfa0_16)) else ((v58na0_4, v58na0_5, v58na0_6, v58na0_7, v58na0_8, v58na0_9, v58na0_10, 0, v58nfa0_12, v58nfa0_16))))))))) else (fl_c10 (FfG_X8_lawLine a0_3 a0_4 a0_5 a0_6 a0_7 a0_8 a0_9 a0_10 fa0_16 fa0_1 fa0_12) (fun v26na0_4 v26na0_5 v26na0_6 v26na0_7 v26na0_8 v26na0_9 v26na0_10 v26na0_13 v26nfa0_16 v26nfa0_12 => if v26na0_13 = 1 then ((v26na0_4, v26na0_5, v26na0_6, v26na0_7, v26na0_8, v26na0_9, v26na0_10, 1, v26nfa0_12, v26nfa0_16)) else ((v26na0_4, v26na0_5, v26na0_6, v26na0_7, v26na0_8, v26na0_9, v26na0_10, 0, v26nfa0_12, v26nfa0_16)))))) else (fl_c10 (FfG_X8_galleryLine a0_3 a0_4 a0_5 a0_6 a0_7 a0_8 a0_9 a0_10 fa0_16 fa0_1 fa0_12) (fun v10na0_4 v10na0_5 v10na0_6 v10na0_7 v10na0_8 v10na0_9 v10na0_10 v10na0_13 v10nfa0_16 v10nfa0_12 => if v10na0_13 = 1 then ((v10na0_4, v10na0_5, v10na0_6, v10na0_7, v10na0_8, v10na0_9, v10na0_10, 1, v10nfa0_12, v10nfa0_16)) else ((v10na0_4, v10na0_5, v10na0_6, v10na0_7, v10na0_8, v10na0_9, v10na0_10, 0, v10nfa0_12, v10nfa0_16)))))

def Gf_X8_gallery_154_1 (a1 : Int) (a0_14 : Int) (a0_21 : Int) (a0_22 : Int) (fa0_15 : (Nat → Int)) (fa0_17 : (Nat → Int)) (v1na0_0 : Int) (j77a0_4 : Int) (j77a0_5 : Int) (j77a0_6 : Int) (j77a0_7 : Int) (j77a0_8 : Int) (j77a0_16_a : (Nat → Int)) (j77a0_12_a : (Nat → Int)) : Int × Int × Int × Int × Int × Int × Int × Int × Int × Int × Int × Int × Int × Int × Int × Int × (Nat → Int) × (Nat → Int) × (Nat → Int) × (Nat → Int) :=
  fl_c2 (FfG_X8_wrong 6 j77a0_4) (fun v161na0_9 v161na0_10 => fl_c2 (Ff_X8_no 4) (fun r173 v173na0_11 => ((-1), v1na0_0, 0, a1, j77a0_4, j77a0_5, j77a0_6, j77a0_7, j77a0_8, v161na0_9, v161na0_10, v173na0_11, 1, a0_14, a0_21, a0_22, j77a0_16_a, j77a0_12_a, fa0_15, fa0_17)))
def Sf_X8_gallery_235_1 (a1 : Int) (v1na0_0 : Int) (v1na0_11 : Int) (j77a0_4 : Int) (j77a0_5 : Int) (j77a0_6 : Int) (j77a0_7 : Int) (j77a0_8 : Int) (j77a0_9 : Int) (j77a0_10 : Int) (j77a0_16_a : (Nat → Int)) (j77a0_12_a : (Nat → Int)) (v190nfa3 : (Nat → Int)) (j235l2 : Int) (j235a0_17_a : (Nat → Int)) : Sum (Int × (Nat → Int)) (Int × Int × Int × Int × Int × Int × Int × Int × Int × Int × Int × Int × Int × Int × Int × Int × (Nat → Int) × (Nat → Int) × (Nat → Int) × (Nat → Int)) :=
  if 23 ≤ j235l2 then (Sum.inr (fl_lt (v190nfa3 (9)) (fun x266 => fl_lt (fl_up j235a0_17_a (19) x266) (fun f267 => fl_lt (v190nfa3 (0)) (fun x288 => (x288, v1na0_0, 0, a1, j77a0_4, j77a0_5, j77a0_6, j77a0_7, j77a0_8, j77a0_9, j77a0_10, v1na0_11, 0, 1, 0, 0, j77a0_16_a, j77a0_12_a, v190nfa3, f267)))))) else (fl_lt (fl_up j235a0_17_a (j235l2.toNat) 0) (fun f247 => fl_lt (j235l2 + 1) (fun x248 => Sum.inl (x248, f247))))
def Gf_X8_gallery_221_1 (j195l2 : Int) (j195a0_17_a : (Nat → Int)) (j221s0 : Int) : Sum (Int × (Nat → Int)) (Int × Int × Int × Int × Int × Int × Int × Int × Int × Int × Int × Int × Int × Int × Int × Int × (Nat → Int) × (Nat → Int) × (Nat → Int) × (Nat → Int)) :=
  fl_lt (fl_up j195a0_17_a (j195l2.toNat) j221s0) (fun f221 => fl_lt (j195l2 + 1) (fun x222 => Sum.inl (x222, f221)))
def Sf_X8_gallery_195_1 (a1 : Int) (v1na0_0 : Int) (v1na0_11 : Int) (j77a0_4 : Int) (j77a0_5 : Int) (j77a0_6 : Int) (j77a0_7 : Int) (j77a0_8 : Int) (j77a0_9 : Int) (j77a0_10 : Int) (j77a0_16_a : (Nat → Int)) (j77a0_12_a : (Nat → Int)) (v190nfa3 : (Nat → Int)) (j195l2 : Int) (j195a0_17_a : (Nat → Int)) : Sum (Int × (Nat → Int)) (Int × Int × Int × Int × Int × Int × Int × Int × Int × Int × Int × Int × Int × Int × Int × Int × (Nat → Int) × (Nat → Int) × (Nat → Int) × (Nat → Int)) :=
  if 23 ≤ j195l2 then (Sum.inr (fl_lt (v190nfa3 (0)) (fun x233 => fl_wh (fun t9 => Sf_X8_gallery_235_1 a1 v1na0_0 v1na0_11 j77a0_4 j77a0_5 j77a0_6 j77a0_7 j77a0_8 j77a0_9 j77a0_10 j77a0_16_a j77a0_12_a v190nfa3 t9.1 t9.2) (0, 0, 0, 0, 0, 0, 0, 0, 0, 0, 0, 0, 0, 0, 0, 0, (fun _ => 0), (fun _ => 0), (fun _ => 0), (fun _ => 0)) 22 (x233, j195a0_17_a)))) else (fl_lt (v190nfa3 (0)) (fun x212 => if x212 ≤ j195l2 then (Gf_X8_gallery_221_1 j195l2 j195a0_17_a 0) else (Gf_X8_gallery_221_1 j195l2 j195a0_17_a j195l2)))
def Sf_X8_gallery_77_1 (a1 : Int) (a0_14 : Int) (a0_21 : Int) (a0_22 : Int) (fa0_1 : (Nat → Int)) (fa0_15 : (Nat → Int)) (fa0_17 : (Nat → Int)) (v1na0_0 : Int) (v1na0_11 : Int) (j77a0_4 : Int) (j77a0_5 : Int) (j77a0_6 : Int) (j77a0_7 : Int) (j77a0_8 : Int) (j77a0_9 : Int) (j77a0_10 : Int) (j77a0_16_a : (Nat → Int)) (j77a0_12_a : (Nat → Int)) : Sum (Int × Int × Int × Int × Int × Int × Int × (Nat → Int) × (Nat → Int)) (Int × Int × Int × Int × Int × Int × Int × Int × Int × Int × Int × Int × Int × Int × Int × Int × (Nat → Int) × (Nat → Int) × (Nat → Int) × (Nat → Int)) :=
  if j77a0_6 = 59 then (fl_c6 (Ff_X8_next a1 j77a0_5 fa0_1 j77a0_12_a) (fun v94na0_4 v94na0_5 v94na0_6 v94na0_7 v94na0_8 v94nfa0_12 => fl_c10 (FfG_X8_readLine a1 v94na0_4 v94na0_5 v94na0_6 v94na0_7 v94na0_8 j77a0_9 j77a0_10 v94nfa0_12 j77a0_16_a fa0_1) (fun v98na0_4 v98na0_5 v98na0_6 v98na0_7 v98na0_8 v98na0_9 v98na0_10 v98na0_13 v98nfa0_12 v98nfa0_16 => if v98na0_13 = 1 then (Sum.inr (fl_c2 (Ff_X8_no 4) (fun r173 v173na0_11 => ((-1), v1na0_0, 0, a1, v98na0_4, v98na0_5, v98na0_6, v98na0_7, v98na0_8, v98na0_9, v98na0_10, v173na0_11, 1, a0_14, a0_21, a0_22, v98nfa0_16, v98nfa0_12, fa0_15, fa0_17)))) else (Sum.inl (v98na0_4, v98na0_5, v98na0_6, v98na0_7, v98na0_8, v98na0_9, v98na0_10, v98nfa0_16, v98nfa0_12))))) else (Sum.inr (if j77a0_6 = 0 then (fl_lt (j77a0_16_a (11)) (fun x140 => if x140 = 0 then (Gf_X8_gallery_154_1 a1 a0_14 a0_21 a0_22 fa0_15 fa0_17 v1na0_0 j77a0_4 j77a0_5 j77a0_6 j77a0_7 j77a0_8 j77a0_16_a j77a0_12_a) else (fl_lt (j77a0_16_a (10)) (fun x150 => if x150 = 0 then (Gf_X8_gallery_154_1 a1 a0_14 a0_21 a0_22 fa0_15 fa0_17 v1na0_0 j77a0_4 j77a0_5 j77a0_6 j77a0_7 j77a0_8 j77a0_16_a j77a0_12_a) else (fl_lt (va_cpy j77a0_16_a fa0_15 (0) (0) 156) (fun v190nfa3 => fl_wh (fun t9 => Sf_X8_gallery_195_1 a1 v1na0_0 v1na0_11 j77a0_4 j77a0_5 j77a0_6 j77a0_7 j77a0_8 j77a0_9 j77a0_10 j77a0_16_a j77a0_12_a v190nfa3 t9.1 t9.2) (0, 0, 0, 0, 0, 0, 0, 0, 0, 0, 0, 0, 0, 0, 0, 0, (fun _ => 0), (fun _ => 0), (fun _ => 0), (fun _ => 0)) 24 (0, fa0_17))))))) else (fl_c2 (FfG_X8_wrong 1 j77a0_4) (fun v124na0_9 v124na0_10 => fl_c2 (Ff_X8_no 4) (fun r173 v173na0_11 => ((-1), v1na0_0, 0, a1, j77a0_4, j77a0_5, j77a0_6, j77a0_7, j77a0_8, v124na0_9, v124na0_10, v173na0_11, 1, a0_14, a0_21, a0_22, j77a0_16_a, j77a0_12_a, fa0_15, fa0_17))))))
def Sf_X8_gallery_39_1 (a1 : Int) (a0_10 : Int) (a0_14 : Int) (a0_21 : Int) (a0_22 : Int) (fa0_1 : (Nat → Int)) (fa0_12 : (Nat → Int)) (fa0_15 : (Nat → Int)) (fa0_17 : (Nat → Int)) (v1na0_0 : Int) (v1na0_11 : Int) (j39l2 : Int) (j39a0_16_a : (Nat → Int)) : Sum (Int × (Nat → Int)) (Int × Int × Int × Int × Int × Int × Int × Int × Int × Int × Int × Int × Int × Int × Int × Int × (Nat → Int) × (Nat → Int) × (Nat → Int) × (Nat → Int)) :=
  if 156 ≤ j39l2 then (Sum.inr (fl_c6 (Ff_X8_next a1 0 fa0_1 fa0_12) (fun v70na0_4 v70na0_5 v70na0_6 v70na0_7 v70na0_8 v70nfa0_12 => fl_c10 (FfG_X8_readLine a1 v70na0_4 v70na0_5 v70na0_6 v70na0_7 v70na0_8 0 a0_10 v70nfa0_12 j39a0_16_a fa0_1) (fun v74na0_4 v74na0_5 v74na0_6 v74na0_7 v74na0_8 v74na0_9 v74na0_10 v74na0_13 v74nfa0_12 v74nfa0_16 => if v74na0_13 = 1 then (fl_c2 (Ff_X8_no 4) (fun r173 v173na0_11 => ((-1), v1na0_0, 0, a1, v74na0_4, v74na0_5, v74na0_6, v74na0_7, v74na0_8, v74na0_9, v74na0_10, v173na0_11, 1, a0_14, a0_21, a0_22, v74nfa0_16, v74nfa0_12, fa0_15, fa0_17))) else (fl_wh (fun t9 => Sf_X8_gallery_77_1 a1 a0_14 a0_21 a0_22 fa0_1 fa0_15 fa0_17 v1na0_0 v1na0_11 t9.1 t9.2.1 t9.2.2.1 t9.2.2.2.1 t9.2.2.2.2.1 t9.2.2.2.2.2.1 t9.2.2.2.2.2.2.1 t9.2.2.2.2.2.2.2.1 t9.2.2.2.2.2.2.2.2) (0, 0, 0, 0, 0, 0, 0, 0, 0, 0, 0, 0, 0, 0, 0, 0, (fun _ => 0), (fun _ => 0), (fun _ => 0), (fun _ => 0)) 1804 (v74na0_4, v74na0_5, v74na0_6, v74na0_7, v74na0_8, v74na0_9, v74na0_10, v74nfa0_16, v74nfa0_12)))))) else (fl_lt (fl_up j39a0_16_a (j39l2.toNat) 0) (fun f52 => fl_lt (j39l2 + 1) (fun x53 => Sum.inl (x53, f52))))
def Ff_X8_gallery (a1 : Int) (a0_2 : Int) (a0_3 : Int) (a0_4 : Int) (a0_5 : Int) (a0_6 : Int) (a0_7 : Int) (a0_8 : Int) (a0_9 : Int) (a0_10 : Int) (a0_13 : Int) (a0_14 : Int) (a0_21 : Int) (a0_22 : Int) (fa0_16 : (Nat → Int)) (fa0_1 : (Nat → Int)) (fa0_12 : (Nat → Int)) (fa0_15 : (Nat → Int)) (fa0_17 : (Nat → Int)) : Int × Int × Int × Int × Int × Int × Int × Int × Int × Int × Int × Int × Int × Int × Int × Int × (Nat → Int) × (Nat → Int) × (Nat → Int) × (Nat → Int) :=
  fl_c2 (Ff_X8_good) (fun v1na0_0 v1na0_11 => fl_lt (Ff_X8_in a1 0 a0_2) (fun r10 => if r10 = 1 then (fl_wh (fun t9 => Sf_X8_gallery_39_1 a1 a0_10 a0_14 a0_21 a0_22 fa0_1 fa0_12 fa0_15 fa0_17 v1na0_0 v1na0_11 t9.1 t9.2) (0, 0, 0, 0, 0, 0, 0, 0, 0, 0, 0, 0, 0, 0, 0, 0, (fun _ => 0), (fun _ => 0), (fun _ => 0), (fun _ => 0)) 157 (0, fa0_16)) else (fl_c2 (Ff_X8_no 2) (fun r18 v18na0_11 => ((-1), v1na0_0, a0_2, a0_3, a0_4, a0_5, a0_6, a0_7, a0_8, a0_9, a0_10, v18na0_11, a0_13, a0_14, a0_21, a0_22, fa0_16, fa0_12, fa0_15, fa0_17)))))
end P092232_defsM
section P092233_defsG
def Ff_X7_answered (a1 : Int) : Int × Int :=
  (a1, 0)

def Ff_X7_refused (a1 : Int) : Int × Int :=
  ((-1), a1)

def Ff_X5_startTurn (a1 : Int) : Int × Int :=
  (a1, 0)

def Sf_X5_begin_17_1 (a1 : Int) (j17l2 : Int) (j17a0_5_a : (Nat → Int)) (j17a0_6_a : (Nat → Int)) : Sum (Int × (Nat → Int) × (Nat → Int)) (Int × Int × Int × Int × Int × (Nat → Int) × (Nat → Int)) :=
  if 9 ≤ j17l2 then (Sum.inr (fl_c2 (Ff_X5_startTurn a1) (fun v45na0_1 v45na0_2 => (0, v45na0_1, v45na0_2, 0, 0, j17a0_5_a, j17a0_6_a)))) else (fl_lt (fl_up j17a0_5_a (j17l2.toNat) j17l2) (fun f29 => fl_lt (fl_up j17a0_6_a (j17l2.toNat) 0) (fun f36 => fl_lt (j17l2 + 1) (fun x37 => Sum.inl (x37, f29, f36)))))
def Ff_X5_begin (a1 : Int) (fa0_5 : (Nat → Int)) (fa0_6 : (Nat → Int)) : Int × Int × Int × Int × Int × (Nat → Int) × (Nat → Int) :=
  fl_wh (fun t9 => Sf_X5_begin_17_1 a1 t9.1 t9.2.1 t9.2.2) (0, 0, 0, 0, 0, (fun _ => 0), (fun _ => 0)) 10 (0, fa0_5, fa0_6)

def Ff_X1_clear : Int × Int :=
  (0, 0)

def Ff_X2_forget : Int × Int :=
  (0, 0)


def Ff_X7_gallery (a1 : Int) (a0_9 : Int) (a0_10 : Int) (a0_0_0 : Int) (a0_0_1 : Int) (a0_0_2 : Int) (a0_0_6 : Int) (a0_0_7 : Int) (a0_0_8 : Int) (a0_0_9 : Int) (a0_0_10 : Int) (a0_0_11 : Int) (a0_0_12 : Int) (a0_0_13 : Int) (a0_0_5_0 : Int) (a0_0_5_1 : Int) (a0_0_5_2 : Int) (a0_0_5_3 : Int) (a0_0_5_4 : Int) (a0_0_5_5 : Int) (a0_0_5_6 : Int) (a0_0_5_7 : Int) (a0_0_5_8 : Int) (a0_0_5_9 : Int) (a0_0_5_14_0 : Int) (fa0_0_5_10 : (Nat → Int)) (fa0_0_5_11 : (Nat → Int)) (fa0_0_3 : (Nat → Int)) (fa0_0_4 : (Nat → Int)) (fa0_0_5_14_2 : (Nat → Int)) (fa0_0_5_14_3 : (Nat → Int)) (fa0_0_5_13 : (Nat → Int)) (fa0_0_5_12 : (Nat → Int)) (a0_1_0 : Int) (a0_1_1 : Int) (a0_1_2 : Int) (a0_1_3 : Int) (a0_1_4 : Int) (fa0_1_5 : (Nat → Int)) (fa0_1_6 : (Nat → Int)) (a0_4_0 : Int) (a0_4_1 : Int) (a0_5_5 : Int) (a0_5_6 : Int) : Int × Int × Int × Int × Int × Int × Int × Int × Int × Int × Int × Int × Int × Int × Int × Int × Int × Int × Int × Int × Int × Int × Int × Int × Int × Int × (Nat → Int) × (Nat → Int) × (Nat → Int) × (Nat → Int) × (Nat → Int) × (Nat → Int) × (Nat → Int) × Int × Int × Int × Int × Int × (Nat → Int) × (Nat → Int) × Int × Int × Int × Int × Int :=
  fl_lt (Ff_X7_within a1 0 a0_0_0) (fun r9 => if r9 = 1 then (fl_c29 (Ff_X3_read a1 a0_0_0 a0_0_11 a0_0_12 a0_0_13 a0_0_5_1 a0_0_5_2 a0_0_5_3 a0_0_5_5 a0_0_5_6 a0_0_5_7 fa0_0_5_10 fa0_0_5_11 fa0_0_3 fa0_0_4 fa0_0_5_14_2 fa0_0_5_14_3 fa0_0_5_13 fa0_0_5_12) (fun r26 v26na0_1 v26na0_2 v26na0_6 v26na0_7 v26na0_8 v26na0_9 v26na0_10 v26na0_11 v26na0_12 v26na0_13 v26na0_5_0 v26na0_5_1 v26na0_5_2 v26na0_5_3 v26na0_5_4 v26na0_5_5 v26na0_5_6 v26na0_5_7 v26na0_5_8 v26na0_5_9 v26na0_5_14_0 v26nfa0_5_10 v26nfa0_5_11 v26nfa0_4 v26nfa0_5_14_2 v26nfa0_5_14_3 v26nfa0_5_13 v26nfa0_5_12 => if r26 = 1 then (fl_c7 (Ff_X5_begin v26na0_5_7 fa0_1_5 fa0_1_6) (fun v88na0_0 v88na0_1 v88na0_2 v88na0_3 v88na0_4 v88nfa0_5 v88nfa0_6 => fl_c2 (Ff_X1_clear) (fun v95na0_0 v95na0_1 => fl_c2 (Ff_X2_forget) (fun v102na0_5 v102na0_6 => fl_c2 (Ff_X7_answered v26na0_5_0) (fun r113 v113na0_8 => (v26na0_5_0, v113na0_8, v26na0_1, v26na0_2, 0, v26na0_1, v26na0_2, v26na0_6, v26na0_7, v26na0_8, v26na0_9, v26na0_10, v26na0_11, v26na0_12, v26na0_13, v26na0_5_0, v26na0_5_1, v26na0_5_2, v26na0_5_3, v26na0_5_4, v26na0_5_5, v26na0_5_6, v26na0_5_7, v26na0_5_8, v26na0_5_9, v26na0_5_14_0, v26nfa0_5_10, v26nfa0_5_11, v26nfa0_4, v26nfa0_5_14_2, v26nfa0_5_14_3, v26nfa0_5_13, v26nfa0_5_12, v88na0_0, v88na0_1, v88na0_2, v88na0_3, v88na0_4, v88nfa0_5, v88nfa0_6, v95na0_0, v95na0_1, v102na0_5, v102na0_6, 0)))))) else (fl_c2 (Ff_X7_refused 4) (fun r58 v58na0_8 => ((-1), v58na0_8, v26na0_1, v26na0_2, 0, v26na0_1, v26na0_2, v26na0_6, v26na0_7, v26na0_8, v26na0_9, v26na0_10, v26na0_11, v26na0_12, v26na0_13, v26na0_5_0, v26na0_5_1, v26na0_5_2, v26na0_5_3, v26na0_5_4, v26na0_5_5, v26na0_5_6, v26na0_5_7, v26na0_5_8, v26na0_5_9, v26na0_5_14_0, v26nfa0_5_10, v26nfa0_5_11, v26nfa0_4, v26nfa0_5_14_2, v26nfa0_5_14_3, v26nfa0_5_13, v26nfa0_5_12, a0_1_0, a0_1_1, a0_1_2, a0_1_3, a0_1_4, fa0_1_5, fa0_1_6, a0_4_0, a0_4_1, a0_5_5, a0_5_6, 1))))) else (fl_c2 (Ff_X7_refused 2) (fun r17 v17na0_8 => ((-1), v17na0_8, a0_9, a0_10, a0_0_0, a0_0_1, a0_0_2, a0_0_6, a0_0_7, a0_0_8, a0_0_9, a0_0_10, a0_0_11, a0_0_12, a0_0_13, a0_0_5_0, a0_0_5_1, a0_0_5_2, a0_0_5_3, a0_0_5_4, a0_0_5_5, a0_0_5_6, a0_0_5_7, a0_0_5_8, a0_0_5_9, a0_0_5_14_0, fa0_0_5_10, fa0_0_5_11, fa0_0_4, fa0_0_5_14_2, fa0_0_5_14_3, fa0_0_5_13, fa0_0_5_12, a0_1_0, a0_1_1, a0_1_2, a0_1_3, a0_1_4, fa0_1_5, fa0_1_6, a0_4_0, a0_4_1, a0_5_5, a0_5_6, 1))))

def Ff_X3_appendX (a1 : Int) (a0_0 : Int) (fa0_3 : (Nat → Int)) : Int × (Nat → Int) :=
  if 900 ≤ a0_0 then ((0, (fun _ => 0))) else (fl_lt (fl_shr a1 24) (fun x27 => fl_lt (fl_i2b x27) (fun x28 => fl_lt (fl_upB fa0_3 (a0_0.toNat) x28) (fun f29 => fl_lt (a0_0 + 1) (fun x36 => if 900 ≤ x36 then ((0, (fun _ => 0))) else (fl_lt (fl_shr a1 16) (fun x27v2 => fl_lt (fl_i2b x27v2) (fun x28v2 => fl_lt (fl_upB f29 (x36.toNat) x28v2) (fun f29v2 => fl_lt (x36 + 1) (fun x36v2 => if 900 ≤ x36v2 then ((0, (fun _ => 0))) else (fl_lt (fl_shr a1 8) (fun x27v3 => fl_lt (fl_i2b x27v3) (fun x28v3 => fl_lt (fl_upB f29v2 (x36v2.toNat) x28v3) (fun f29v3 => fl_lt (x36v2 + 1) (fun x36v3 => if 900 ≤ x36v3 then ((0, (fun _ => 0))) else (fl_lt (fl_shr a1 0) (fun x27v4 => fl_lt (fl_i2b x27v4) (fun x28v4 => fl_lt (fl_upB f29v3 (x36v3.toNat) x28v4) (fun f29v4 => fl_lt (x36v3 + 1) (fun x36v4 => (x36v4, f29v4)))))))))))))))))))))

def Ff_X7_feed (a1 : Int) (a2 : Int) (a3 : Int) (a4 : Int) (a5 : Int) (a0_0_0 : Int) (fa0_0_3 : (Nat → Int)) : Int × Int × (Nat → Int) :=
  fl_lt (a0_0_0 + 20) (fun x9 => if x9 ≤ 900 then (fl_c2 (Ff_X3_appendX a1 a0_0_0 fa0_0_3) (fun v23na0_0 v23nfa0_3 => fl_c2 (Ff_X3_appendX a2 v23na0_0 v23nfa0_3) (fun v31na0_0 v31nfa0_3 => fl_c2 (Ff_X3_appendX a3 v31na0_0 v31nfa0_3) (fun v39na0_0 v39nfa0_3 => fl_c2 (Ff_X3_appendX a4 v39na0_0 v39nfa0_3) (fun v48na0_0 v48nfa0_3 => fl_c2 (Ff_X3_appendX a5 v48na0_0 v48nfa0_3) (fun v57na0_0 v57nfa0_3 => (v57na0_0, v57na0_0, v57nfa0_3))))))) else (((-1), a0_0_0, fa0_0_3)))

def Sf_X8_feed_23_1 (a1 : Int) (a2 : Int) (a3 : Int) (a4 : Int) (a5 : Int) (j23l6 : Int) (j23a0_2 : Int) (j23a0_1_a : (Nat → Int)) : Sum (Int × Int × (Nat → Int)) (Int × Int × Int × (Nat → Int)) :=
  if 20 ≤ j23l6 then (Sum.inr ((j23a0_2, 0, j23a0_2, j23a0_1_a))) else (if 4 ≤ j23l6 then (if 8 ≤ j23l6 then (if 12 ≤ j23l6 then (if 16 ≤ j23l6 then (fl_lt (j23l6 % 4) (fun x95 => fl_lt (8 * x95) (fun x96 => fl_lt (24 - x96) (fun x97 => fl_lt (fl_shr a5 x97) (fun x98 => fl_lt (fl_and x98 255) (fun x102 => fl_lt (fl_up j23a0_1_a (j23a0_2.toNat) x102) (fun f103 => fl_lt (j23a0_2 + 1) (fun x110 => fl_lt (j23l6 + 1) (fun x114 => Sum.inl (x114, x110, f103)))))))))) else (fl_lt (j23l6 % 4) (fun x95 => fl_lt (8 * x95) (fun x96 => fl_lt (24 - x96) (fun x97 => fl_lt (fl_shr a4 x97) (fun x98 => fl_lt (fl_and x98 255) (fun x102 => fl_lt (fl_up j23a0_1_a (j23a0_2.toNat) x102) (fun f103 => fl_lt (j23a0_2 + 1) (fun x110 => fl_lt (j23l6 + 1) (fun x114 => Sum.inl (x114, x110, f103))))))))))) else (fl_lt (j23l6 % 4) (fun x95 => fl_lt (8 * x95) (fun x96 => fl_lt (24 - x96) (fun x97 => fl_lt (fl_shr a3 x97) (fun x98 => fl_lt (fl_and x98 255) (fun x102 => fl_lt (fl_up j23a0_1_a (j23a0_2.toNat) x102) (fun f103 => fl_lt (j23a0_2 + 1) (fun x110 => fl_lt (j23l6 + 1) (fun x114 => Sum.inl (x114, x110, f103))))))))))) else (fl_lt (j23l6 % 4) (fun x95 => fl_lt (8 * x95) (fun x96 => fl_lt (24 - x96) (fun x97 => fl_lt (fl_shr a2 x97) (fun x98 => fl_lt (fl_and x98 255) (fun x102 => fl_lt (fl_up j23a0_1_a (j23a0_2.toNat) x102) (fun f103 => fl_lt (j23a0_2 + 1) (fun x110 => fl_lt (j23l6 + 1) (fun x114 => Sum.inl (x114, x110, f103))))))))))) else (fl_lt (j23l6 % 4) (fun x95 => fl_lt (8 * x95) (fun x96 => fl_lt (24 - x96) (fun x97 => fl_lt (fl_shr a1 x97) (fun x98 => fl_lt (fl_and x98 255) (fun x102 => fl_lt (fl_up j23a0_1_a (j23a0_2.toNat) x102) (fun f103 => fl_lt (j23a0_2 + 1) (fun x110 => fl_lt (j23l6 + 1) (fun x114 => Sum.inl (x114, x110, f103)))))))))))
def Ff_X8_feed (a1 : Int) (a2 : Int) (a3 : Int) (a4 : Int) (a5 : Int) (a0_2 : Int) (fa0_1 : (Nat → Int)) : Int × Int × Int × (Nat → Int) :=
  fl_lt (a0_2 + 20) (fun x11 => if x11 ≤ 900 then (fl_wh (fun t9 => Sf_X8_feed_23_1 a1 a2 a3 a4 a5 t9.1 t9.2.1 t9.2.2) (0, 0, 0, (fun _ => 0)) 21 (0, a0_2, fa0_1)) else (((-1), 0, a0_2, fa0_1)))
end P092233_defsG
section P092241_pure1
section PUA
/-- letters packed as a number of base 256 -/
def rp_pk (f : Nat → Int) : Nat → Int
  | 0 => 0
  | n + 1 => rp_pk f n * 256 + f n
def rp_dg (f : Nat → Int) (n : Nat) : Prop := ∀ k : Nat, k < n → 97 ≤ f k ∧ f k ≤ 122
theorem rp_dg_le {f : Nat → Int} {n m : Nat} (h : rp_dg f n) (hm : m ≤ n) : rp_dg f m := fun k hk => h k (by omega)
theorem rp_pk_lo {f : Nat → Int} {n : Nat} (h : rp_dg f n) : 0 ≤ rp_pk f n := by
  induction n with
  | zero => exact Int.le_refl _
  | succ n ih =>
    have h1 := ih (rp_dg_le h (by omega))
    have h2 := h n (by omega)
    show 0 ≤ rp_pk f n * 256 + f n
    omega
theorem rp_pk_hi {f : Nat → Int} {n : Nat} (h : rp_dg f (n + 1)) : rp_pk f (n + 1) < 123 * 256 ^ n := by
  induction n with
  | zero =>
    have h2 := h 0 (by omega)
    show 0 * 256 + f 0 < 123 * 256 ^ 0
    have e : (256 : Int) ^ 0 = 1 := rfl
    rw [e]; omega
  | succ n ih =>
    have h1 := ih (rp_dg_le h (by omega))
    have h2 := h (n + 1) (by omega)
    show rp_pk f (n + 1) * 256 + f (n + 1) < 123 * 256 ^ (n + 1)
    rw [Int.pow_succ]
    generalize (256 : Int) ^ n = q at h1 ⊢
    omega
theorem rp_pk_7 {f : Nat → Int} {n : Nat} (h : rp_dg f n) (hn : n ≤ 7) : rp_pk f n * 256 + 122 < 9223372036854775808 := by
  rcases (show n = 0 ∨ n = 1 ∨ n = 2 ∨ n = 3 ∨ n = 4 ∨ n = 5 ∨ n = 6 ∨ n = 7 by omega) with rfl | rfl | rfl | rfl | rfl | rfl | rfl | rfl
  · show (0 : Int) * 256 + 122 < 9223372036854775808
    decide
  all_goals
    have h1 := rp_pk_hi h
    simp only [Nat.reduceAdd, Int.reducePow, Int.reduceMul] at h1
    omega
theorem rp_pk_cg {f g : Nat → Int} {n : Nat} (h : ∀ k : Nat, k < n → f k = g k) : rp_pk f n = rp_pk g n := by
  induction n with
  | zero => rfl
  | succ n ih =>
    show rp_pk f n * 256 + f n = rp_pk g n * 256 + g n
    rw [ih (fun k hk => h k (by omega)), h n (by omega)]
theorem rp_pk_inj {f g : Nat → Int} : ∀ {n m : Nat}, rp_dg f n → rp_dg g m → rp_pk f n = rp_pk g m → n = m ∧ ∀ k : Nat, k < n → f k = g k := by
  intro n
  induction n with
  | zero =>
    intro m h1 h2 he
    cases m with
    | zero => exact ⟨rfl, fun k hk => by omega⟩
    | succ m =>
      have h3 := rp_pk_lo (rp_dg_le h2 (m := m) (by omega))
      have h4 := h2 m (by omega)
      have h5 : (0 : Int) = rp_pk g m * 256 + g m := he
      omega
  | succ n ih =>
    intro m h1 h2 he
    have h3 := rp_pk_lo (rp_dg_le h1 (m := n) (by omega))
    have h4 := h1 n (by omega)
    cases m with
    | zero =>
      have h5 : rp_pk f n * 256 + f n = (0 : Int) := he
      omega
    | succ m =>
      have h5 := h2 m (by omega)
      have h6 : rp_pk f n * 256 + f n = rp_pk g m * 256 + g m := he
      have h7 : rp_pk f n = rp_pk g m := by omega
      have h8 : f n = g m := by omega
      obtain ⟨e1, e2⟩ := ih (rp_dg_le h1 (by omega)) (rp_dg_le h2 (m := m) (by omega)) h7
      subst e1
      refine ⟨rfl, fun k hk => ?_⟩
      by_cases hk2 : k = n
      · subst hk2; exact h8
      · exact e2 k (by omega)
theorem rp_push {w c : Int} (hw : 0 ≤ w) (hc : 0 ≤ c) (hc2 : c < 256) (h : w * 256 + c < 9223372036854775808) : fl_lor (fl_lshl w 8) c = w * 256 + c := by
  unfold fl_lor fl_lshl
  rw [Int64.ofInt_toInt]
  have e0 : ((Int32.ofInt 8).toInt64 &&& 63 : Int64) = 8 := by decide
  rw [e0]
  have e1 : (Int64.ofInt w <<< (8 : Int64)).toBitVec = (Int64.ofInt w).toBitVec <<< (8 : Nat) := by
    rw [Int64.toBitVec_shiftLeft]; rfl
  have e2 : (Int64.ofInt w).toBitVec.toNat = w.toNat := by
    show (BitVec.ofInt 64 w).toNat = w.toNat
    rw [BitVec.toNat_ofInt]; omega
  have e3 : (Int64.ofInt c).toBitVec.toNat = c.toNat := by
    show (BitVec.ofInt 64 c).toNat = c.toNat
    rw [BitVec.toNat_ofInt]; omega
  have e4 : ((Int64.ofInt w <<< (8 : Int64)) ||| Int64.ofInt c).toBitVec.toNat = w.toNat * 256 + c.toNat := by
    rw [Int64.toBitVec_or, BitVec.toNat_or, e1, BitVec.toNat_shiftLeft, e2, e3]
    have h1 : w.toNat <<< 8 = w.toNat * 256 := by rw [Nat.shiftLeft_eq]
    have h2 : w.toNat <<< 8 % 2 ^ 64 = w.toNat <<< 8 := by
      apply Nat.mod_eq_of_lt; rw [h1]; omega
    rw [h2, ← Nat.shiftLeft_add_eq_or_of_lt (by omega : c.toNat < 2 ^ 8), h1]
  show (((Int64.ofInt w <<< (8 : Int64)) ||| Int64.ofInt c).toBitVec).toInt = _
  rw [BitVec.toInt_eq_toNat_of_lt (by rw [e4]; omega), e4]
  omega
/-- THE TAPE here and there: bytes as signed numbers, and as numbers 0 .. 255 -/
def rp_T (tp tm : Nat → Int) (e : Int) : Prop := ∀ i : Nat, (i : Int) < e → (tm i = tp i ∧ 0 ≤ tp i) ∨ (tp i < 0 ∧ 128 ≤ tm i)
theorem rp_see {tm : Nat → Int} {e p : Int} (hp : ¬ e ≤ p) : Ff_X8_see p e tm = tm p.toNat := by
  unfold Ff_X8_see; rw [if_neg hp]; rfl
theorem rp_word {tp tm : Nat → Int} {e s0 : Int} (hT : rp_T tp tm e) (h0 : 0 ≤ s0) : ∀ (n : Nat) (p w ns : Int) (lt : Nat → Int), e + 1 - p ≤ (n : Int) → s0 ≤ p → p ≤ e → ns = p - s0 → (ns ≤ 8 → rp_dg lt ns.toNat ∧ w = rp_pk lt ns.toNat) →
    ∃ be tk wd tk2 ns2 lt2, fl_wh (fun t9 => Sf_X3_scanWord_5_1 e s0 tp t9.1 t9.2) (0, 0, 0) n (p, w) = (be, tk, wd) ∧ fl_wh (fun t9 => Sf_X8_next_67_1 e tm s0 t9.1 t9.2.1 t9.2.2) (0, 0, 0, 0, 0, (fun _ => 0)) n (p, ns, lt) = (s0, be, tk2, 0, ns2, lt2) ∧ p ≤ be ∧ be ≤ e ∧ (p < e → 97 ≤ tp p.toNat → tp p.toNat ≤ 122 → p < be) ∧
      ((tk = 1 ∧ tk2 = 2 ∧ ns2 = be - s0 ∧ ns2 ≤ 8 ∧ rp_dg lt2 ns2.toNat ∧ wd = rp_pk lt2 ns2.toNat) ∨ (tk = 4 ∧ tk2 = 1)) := by
  intro n
  induction n with
  | zero => intro p w ns lt hn h1 h2 h3 h4; omega
  | succ n ih =>
    intro p w ns lt hn h1 h2 h3 h4
    have hend : ∀ (hx : ¬ (p < e ∧ 97 ≤ tp p.toNat ∧ tp p.toNat ≤ 122)) (hc : Sf_X3_scanWord_5_1 e s0 tp p w = .inr (Gf_X3_scanWord_79_1 s0 p w)) (hm : Sf_X8_next_67_1 e tm s0 p ns lt = .inr (if ns ≤ 8 then (s0, p, 2, 0, ns, lt) else (s0, p, 1, 0, ns, lt))),
        ∃ be tk wd tk2 ns2 lt2, fl_wh (fun t9 => Sf_X3_scanWord_5_1 e s0 tp t9.1 t9.2) (0, 0, 0) (n + 1) (p, w) = (be, tk, wd) ∧ fl_wh (fun t9 => Sf_X8_next_67_1 e tm s0 t9.1 t9.2.1 t9.2.2) (0, 0, 0, 0, 0, (fun _ => 0)) (n + 1) (p, ns, lt) = (s0, be, tk2, 0, ns2, lt2) ∧ p ≤ be ∧ be ≤ e ∧ (p < e → 97 ≤ tp p.toNat → tp p.toNat ≤ 122 → p < be) ∧
          ((tk = 1 ∧ tk2 = 2 ∧ ns2 = be - s0 ∧ ns2 ≤ 8 ∧ rp_dg lt2 ns2.toNat ∧ wd = rp_pk lt2 ns2.toNat) ∨ (tk = 4 ∧ tk2 = 1)) := by
      intro hx hc hm
      rw [fl_wh_r (step := fun t9 : Int × Int => Sf_X3_scanWord_5_1 e s0 tp t9.1 t9.2) (s := (p, w)) hc, fl_wh_r (step := fun t9 : Int × Int × (Nat → Int) => Sf_X8_next_67_1 e tm s0 t9.1 t9.2.1 t9.2.2) (s := (p, ns, lt)) hm]
      by_cases h8 : ns ≤ 8
      · obtain ⟨a, b⟩ := h4 h8
        refine ⟨p, 1, w, 2, ns, lt, ?_, ?_, Int.le_refl _, h2, fun x1 x2 x3 => absurd ⟨x1, x2, x3⟩ hx, Or.inl ⟨rfl, rfl, h3, h8, a, b⟩⟩
        · show (if 8 < p - s0 then (p, 4, w) else (p, 1, w)) = _
          rw [if_neg (by omega)]
        · rw [if_pos h8]
      · refine ⟨p, 4, w, 1, ns, lt, ?_, ?_, Int.le_refl _, h2, fun x1 x2 x3 => absurd ⟨x1, x2, x3⟩ hx, Or.inr ⟨rfl, rfl⟩⟩
        · show (if 8 < p - s0 then (p, 4, w) else (p, 1, w)) = _
          rw [if_pos (by omega)]
        · rw [if_neg h8]
    by_cases hp : e ≤ p
    · exact hend (fun q => by omega) (by unfold Sf_X3_scanWord_5_1; rw [if_pos hp]) (by simp [Sf_X8_next_67_1, fl_lt, Ff_X8_isSmall, hp])
    · have hlt : p < e := Int.not_le.mp hp
      have hTp := hT p.toNat (by omega)
      obtain ⟨cp, hcp⟩ : ∃ c9, tp p.toNat = c9 := ⟨_, rfl⟩
      obtain ⟨mp, hmp⟩ : ∃ c9, tm p.toNat = c9 := ⟨_, rfl⟩
      rw [hcp, hmp] at hTp
      by_cases hsm : 97 ≤ cp ∧ cp ≤ 122
      · have hme : mp = cp := by omega
        have n1 : ¬ cp < 97 := by omega
        have n2 : ¬ 122 < cp := by omega
        have hc : Sf_X3_scanWord_5_1 e s0 tp p w = .inl (p + 1, fl_lor (fl_lshl w 8) cp) := by
          simp only [Sf_X3_scanWord_5_1, fl_lt]
          rw [if_neg hp, hcp, if_neg n1, if_neg n2]
        have hm : ∃ lt', Sf_X8_next_67_1 e tm s0 p ns lt = .inl (p + 1, ns + 1, lt') ∧ (ns ≤ 7 → lt' = fl_up lt ns.toNat cp) := by
          have hs : Ff_X8_isSmall mp = 1 := by unfold Ff_X8_isSmall; rw [hme, if_neg n1, if_neg n2]
          simp only [Sf_X8_next_67_1, fl_lt]
          rw [if_neg hp, rp_see hp, hmp, hs, if_pos rfl, hme]
          by_cases h8 : 8 ≤ ns
          · rw [if_pos h8]; exact ⟨_, rfl, fun h => by omega⟩
          · rw [if_neg h8, if_neg hp]; exact ⟨_, rfl, fun _ => rfl⟩
        obtain ⟨lt', hm, hl'⟩ := hm
        rw [fl_wh_l (step := fun t9 : Int × Int => Sf_X3_scanWord_5_1 e s0 tp t9.1 t9.2) (s := (p, w)) hc, fl_wh_l (step := fun t9 : Int × Int × (Nat → Int) => Sf_X8_next_67_1 e tm s0 t9.1 t9.2.1 t9.2.2) (s := (p, ns, lt)) hm]
        obtain ⟨be, tk, wd, tk2, ns2, lt2, a1, a2, a3, a4, -, a5⟩ := ih (p + 1) (fl_lor (fl_lshl w 8) cp) (ns + 1) lt' (by omega) (by omega) (by omega) (by omega) (by
          intro h8
          obtain ⟨b1, b2⟩ := h4 (by omega)
          have b3 := hl' (by omega)
          have b4 : (ns + 1).toNat = ns.toNat + 1 := by omega
          have b5 : ∀ k : Nat, k < ns.toNat → lt' k = lt k := fun k hk => by rw [b3]; unfold fl_up; rw [if_neg (by omega)]
          have b6 : lt' ns.toNat = cp := by rw [b3]; unfold fl_up; rw [if_pos rfl]
          rw [b4]
          constructor
          · intro k hk
            by_cases hk2 : k = ns.toNat
            · rw [hk2, b6]; exact hsm
            · rw [b5 k (by omega)]; exact b1 k (by omega)
          · show _ = rp_pk lt' ns.toNat * 256 + lt' ns.toNat
            rw [b6, rp_pk_cg b5, ← b2]
            have q1 := rp_pk_lo b1
            have q2 := rp_pk_7 b1 (by omega)
            exact rp_push (by omega) (by omega) (by omega) (by omega))
        exact ⟨be, tk, wd, tk2, ns2, lt2, a1, a2, by omega, a4, fun _ _ _ => by omega, a5⟩
      · refine hend (fun q => hsm (by rw [hcp] at q; exact q.2)) ?_ ?_
        · simp only [Sf_X3_scanWord_5_1, fl_lt]
          rw [if_neg hp, hcp]
          by_cases n1 : cp < 97
          · rw [if_pos n1]
          · rw [if_neg n1, if_pos (by omega)]
        · have hs : ¬ Ff_X8_isSmall mp = 1 := by
            unfold Ff_X8_isSmall
            by_cases n1 : mp < 97
            · rw [if_pos n1]; decide
            · rw [if_neg n1, if_pos (show 122 < mp by omega)]; decide
          simp only [Sf_X8_next_67_1, fl_lt]
          rw [if_neg hp, rp_see hp, hmp, if_neg hs]
end PUA
end P092241_pure1
section P092242_pure2
section PUB
theorem rp_ofi {x : Int} (h1 : -2147483648 ≤ x) (h2 : x ≤ 2147483647) : (Int32.ofInt x).toInt = x := by
  rw [Int32.toInt_ofInt]; exact Int.bmod_eq_of_le (by have e : (Int32.size : Nat) = 4294967296 := rfl; omega) (by have e : (Int32.size : Nat) = 4294967296 := rfl; omega)
theorem rp_iadd {x y : Int} (h1 : -2147483648 ≤ x) (h2 : x ≤ 2147483647) (h3 : -2147483648 ≤ y) (h4 : y ≤ 2147483647) (h5 : -2147483648 ≤ x + y) (h6 : x + y ≤ 2147483647) : fl_iadd x y = x + y := by
  unfold fl_iadd
  rw [Int32.toInt_add, rp_ofi h1 h2, rp_ofi h3 h4]; exact Int.bmod_eq_of_le (by omega) (by omega)
theorem rp_isub {x y : Int} (h1 : -2147483648 ≤ x) (h2 : x ≤ 2147483647) (h3 : -2147483648 ≤ y) (h4 : y ≤ 2147483647) (h5 : -2147483648 ≤ x - y) (h6 : x - y ≤ 2147483647) : fl_isub x y = x - y := by
  unfold fl_isub
  rw [Int32.toInt_sub, rp_ofi h1 h2, rp_ofi h3 h4]; exact Int.bmod_eq_of_le (by omega) (by omega)
theorem rp_imul10 {y : Int} (h3 : 0 ≤ y) (h4 : y ≤ 9999) : fl_imul 10 y = 10 * y := by
  unfold fl_imul
  rw [Int32.toInt_mul, rp_ofi (by omega) (by omega), rp_ofi (by omega) (by omega)]; exact Int.bmod_eq_of_le (by omega) (by omega)
theorem rp_whole {tp tm : Nat → Int} {lt : Nat → Int} {e s0 : Int} (hT : rp_T tp tm e) (h0 : 0 ≤ s0) (he : e ≤ 900) : ∀ (n : Nat) (p w q wm : Int), e + 1 - p ≤ (n : Int) → s0 ≤ p → p ≤ e → q = p - s0 → (q ≤ 3 → w = wm ∧ 0 ≤ wm ∧ wm ≤ 999 ∧ (q ≤ 2 → wm ≤ 99) ∧ (q ≤ 1 → wm ≤ 9) ∧ (q ≤ 0 → wm = 0)) →
    ∃ be tk wd tk2 wm2, fl_wh (fun t9 => Sf_X3_scanWhole_5_1 e s0 tp t9.1 t9.2) (0, 0, 0) n (p, w) = (be, tk, wd) ∧ fl_wh (fun t9 => Sf_X8_next_152_1 e tm lt s0 t9.1 t9.2.1 t9.2.2) (0, 0, 0, 0, 0, (fun _ => 0)) n (q, p, wm) = (s0, be, tk2, wm2, 0, lt) ∧ p ≤ be ∧ be ≤ e ∧ (p < e → 48 ≤ tp p.toNat → tp p.toNat ≤ 57 → p < be) ∧
      ((tk = 2 ∧ tk2 = 3 ∧ wd = wm2 ∧ 0 ≤ wm2 ∧ wm2 ≤ 999) ∨ (tk = 4 ∧ tk2 = 1)) := by
  intro n
  induction n with
  | zero => intro p w q wm hn h1 h2 h3 h4; omega
  | succ n ih =>
    intro p w q wm hn h1 h2 h3 h4
    have hend : ∀ (hx : ¬ (p < e ∧ 48 ≤ tp p.toNat ∧ tp p.toNat ≤ 57)) (hc : Sf_X3_scanWhole_5_1 e s0 tp p w = .inr (Gf_X3_scanWhole_81_1 s0 p w)) (hm : Sf_X8_next_152_1 e tm lt s0 q p wm = .inr (if q ≤ 3 then (s0, p, 3, wm, 0, lt) else (s0, p, 1, wm, 0, lt))),
        ∃ be tk wd tk2 wm2, fl_wh (fun t9 => Sf_X3_scanWhole_5_1 e s0 tp t9.1 t9.2) (0, 0, 0) (n + 1) (p, w) = (be, tk, wd) ∧ fl_wh (fun t9 => Sf_X8_next_152_1 e tm lt s0 t9.1 t9.2.1 t9.2.2) (0, 0, 0, 0, 0, (fun _ => 0)) (n + 1) (q, p, wm) = (s0, be, tk2, wm2, 0, lt) ∧ p ≤ be ∧ be ≤ e ∧ (p < e → 48 ≤ tp p.toNat → tp p.toNat ≤ 57 → p < be) ∧
          ((tk = 2 ∧ tk2 = 3 ∧ wd = wm2 ∧ 0 ≤ wm2 ∧ wm2 ≤ 999) ∨ (tk = 4 ∧ tk2 = 1)) := by
      intro hx hc hm
      rw [fl_wh_r (step := fun t9 : Int × Int => Sf_X3_scanWhole_5_1 e s0 tp t9.1 t9.2) (s := (p, w)) hc, fl_wh_r (step := fun t9 : Int × Int × Int => Sf_X8_next_152_1 e tm lt s0 t9.1 t9.2.1 t9.2.2) (s := (q, p, wm)) hm]
      by_cases h8 : q ≤ 3
      · obtain ⟨a, b, c, -⟩ := h4 h8
        refine ⟨p, 2, w, 3, wm, ?_, ?_, Int.le_refl _, h2, fun x1 x2 x3 => absurd ⟨x1, x2, x3⟩ hx, Or.inl ⟨rfl, rfl, a, b, c⟩⟩
        · show (if 3 < p - s0 then (p, 4, w) else (p, 2, w)) = _
          rw [if_neg (by omega)]
        · rw [if_pos h8]
      · refine ⟨p, 4, w, 1, wm, ?_, ?_, Int.le_refl _, h2, fun x1 x2 x3 => absurd ⟨x1, x2, x3⟩ hx, Or.inr ⟨rfl, rfl⟩⟩
        · show (if 3 < p - s0 then (p, 4, w) else (p, 2, w)) = _
          rw [if_pos (by omega)]
        · rw [if_neg h8]
    by_cases hp : e ≤ p
    · exact hend (fun q => by omega) (by unfold Sf_X3_scanWhole_5_1; rw [if_pos hp]) (by simp [Sf_X8_next_152_1, fl_lt, Ff_X8_isDigit, hp])
    · have hlt : p < e := Int.not_le.mp hp
      have hTp := hT p.toNat (by omega)
      obtain ⟨cp, hcp⟩ : ∃ c9, tp p.toNat = c9 := ⟨_, rfl⟩
      obtain ⟨mp, hmp⟩ : ∃ c9, tm p.toNat = c9 := ⟨_, rfl⟩
      rw [hcp, hmp] at hTp
      by_cases hsm : 48 ≤ cp ∧ cp ≤ 57
      · have hme : mp = cp := by omega
        have n1 : ¬ cp < 48 := by omega
        have n2 : ¬ 57 < cp := by omega
        have hc : Sf_X3_scanWhole_5_1 e s0 tp p w = .inl (p + 1, fl_isub (fl_iadd (fl_imul 10 w) cp) 48) := by
          simp only [Sf_X3_scanWhole_5_1, fl_lt]
          rw [if_neg hp, hcp, if_neg n1, if_neg n2]
        have hq1 : fl_iadd q 1 = q + 1 := rp_iadd (by omega) (by omega) (by omega) (by omega) (by omega) (by omega)
        have hm : ∃ wm', Sf_X8_next_152_1 e tm lt s0 q p wm = .inl (q + 1, p + 1, wm') ∧ (q ≤ 2 → wm' = fl_isub (fl_iadd (fl_imul 10 wm) cp) 48) := by
          have hs : Ff_X8_isDigit mp = 1 := by unfold Ff_X8_isDigit; rw [hme, if_neg n1, if_neg n2]
          simp only [Sf_X8_next_152_1, Gf_X8_next_188_1, fl_lt]
          rw [if_neg hp, rp_see hp, hmp, hs, if_pos rfl, hme, hq1]
          by_cases h8 : 3 ≤ q
          · rw [if_pos h8]; exact ⟨_, rfl, fun h => by omega⟩
          · rw [if_neg h8, if_neg hp]; exact ⟨_, rfl, fun _ => rfl⟩
        obtain ⟨wm', hm, hl'⟩ := hm
        rw [fl_wh_l (step := fun t9 : Int × Int => Sf_X3_scanWhole_5_1 e s0 tp t9.1 t9.2) (s := (p, w)) hc, fl_wh_l (step := fun t9 : Int × Int × Int => Sf_X8_next_152_1 e tm lt s0 t9.1 t9.2.1 t9.2.2) (s := (q, p, wm)) hm]
        obtain ⟨be, tk, wd, tk2, wm2, a1, a2, a3, a4, -, a5⟩ := ih (p + 1) (fl_isub (fl_iadd (fl_imul 10 w) cp) 48) (q + 1) wm' (by omega) (by omega) (by omega) (by omega) (by
          intro h8
          obtain ⟨b1, b2, b3, b4, b5, b6⟩ := h4 (by omega)
          have b7 := hl' (by omega)
          have b8 := b4 (by omega)
          rw [b1, b7, rp_imul10 b2 (by omega), rp_iadd (by omega) (by omega) (by omega) (by omega) (by omega) (by omega), rp_isub (by omega) (by omega) (by omega) (by omega) (by omega) (by omega)]
          refine ⟨rfl, by omega, by omega, fun h => ?_, fun h => ?_, fun h => by omega⟩
          · have := b5 (by omega); omega
          · have := b6 (by omega); omega)
        exact ⟨be, tk, wd, tk2, wm2, a1, a2, by omega, a4, fun _ _ _ => by omega, a5⟩
      · refine hend (fun q => hsm (by rw [hcp] at q; exact q.2)) ?_ ?_
        · simp only [Sf_X3_scanWhole_5_1, fl_lt]
          rw [if_neg hp, hcp]
          by_cases n1 : cp < 48
          · rw [if_pos n1]
          · rw [if_neg n1, if_pos (by omega)]
        · have hs : ¬ Ff_X8_isDigit mp = 1 := by
            unfold Ff_X8_isDigit
            by_cases n1 : mp < 48
            · rw [if_pos n1]; decide
            · rw [if_neg n1, if_pos (show 57 < mp by omega)]; decide
          simp only [Sf_X8_next_152_1, fl_lt]
          rw [if_neg hp, rp_see hp, hmp, if_neg hs]
/-- a token here and there -/
def rp_K (e st be tk wd wh at_ en tk2 wm ns : Int) (lt : Nat → Int) : Prop :=
  st = at_ ∧ 0 ≤ st ∧ st ≤ e ∧ 0 ≤ be ∧ be ≤ e ∧
  ((tk = 0 ∧ tk2 = 0) ∨ (tk = 4 ∧ tk2 = 1) ∨ (tk = 3 ∧ tk2 = 59 ∧ be = en ∧ st < be) ∨
   (tk = 1 ∧ tk2 = 2 ∧ be = en ∧ st < be ∧ 1 ≤ ns ∧ ns ≤ 8 ∧ rp_dg lt ns.toNat ∧ wd = rp_pk lt ns.toNat) ∨
   (tk = 2 ∧ tk2 = 3 ∧ be = en ∧ st < be ∧ wh = wm ∧ 0 ≤ wm ∧ wm ≤ 999))
/-- the next token: advance and next -/
theorem rp_adv {tp tm : Nat → Int} {e : Int} (hT : rp_T tp tm e) (he : e ≤ 900) (b wd wh : Int) (lt : Nat → Int) (hb0 : 0 ≤ b) (hb1 : b ≤ e) :
    ∃ st be tk wd2 wh2 at_ en tk2 wm ns lt2, Ff_X3_advance e b wd wh tp = (st, be, tk, wd2, wh2) ∧ Ff_X8_next e b tm lt = (at_, en, tk2, wm, ns, lt2) ∧ rp_K e st be tk wd2 wh2 at_ en tk2 wm ns lt2 ∧ b ≤ st := by
  unfold Ff_X3_advance Ff_X8_next
  have main : ∀ (n : Nat) (p : Int), e + 1 - p ≤ (n : Int) → 0 ≤ p → p ≤ e → ∃ st be tk wd2 wh2 at_ en tk2 wm ns lt2, fl_wh (Sf_X3_advance_0_1 e wd wh tp) (0, 0, 0, 0, 0) n p = (st, be, tk, wd2, wh2) ∧ fl_wh (Sf_X8_next_5_1 e tm lt) (0, 0, 0, 0, 0, (fun _ => 0)) n p = (at_, en, tk2, wm, ns, lt2) ∧ rp_K e st be tk wd2 wh2 at_ en tk2 wm ns lt2 ∧ p ≤ st := by
    intro n
    induction n with
    | zero => intro p h1 h2 h3; omega
    | succ n ih =>
      intro p h1 h2 h3
      by_cases hp : e ≤ p
      · have hc : Sf_X3_advance_0_1 e wd wh tp p = .inr (p, p, 0, wd, wh) := by
          unfold Sf_X3_advance_0_1 Gf_X3_advance_38_1
          rw [if_pos hp, if_neg (by omega)]
        have hm : Sf_X8_next_5_1 e tm lt p = .inr (p, p, 0, 0, 0, lt) := by
          simp only [Sf_X8_next_5_1, fl_lt]
          rw [if_pos hp, if_pos hp]
        rw [fl_wh_r hc, fl_wh_r hm]
        exact ⟨p, p, 0, wd, wh, p, p, 0, 0, 0, lt, rfl, rfl, ⟨rfl, h2, h3, h2, h3, Or.inl ⟨rfl, rfl⟩⟩, Int.le_refl _⟩
      · have hTp := hT p.toNat (by omega)
        have hlt : p < e := Int.not_le.mp hp
        obtain ⟨cp, hcp⟩ : ∃ c9, tp p.toNat = c9 := ⟨_, rfl⟩
        obtain ⟨mp, hmp⟩ : ∃ c9, tm p.toNat = c9 := ⟨_, rfl⟩
        rw [hcp, hmp] at hTp
        by_cases h32 : cp = 32
        · have hc : Sf_X3_advance_0_1 e wd wh tp p = .inl (p + 1) := by
            simp only [Sf_X3_advance_0_1, fl_lt]
            rw [if_neg hp, hcp, if_pos h32]
          have hm : Sf_X8_next_5_1 e tm lt p = .inl (p + 1) := by
            simp only [Sf_X8_next_5_1, fl_lt]
            rw [if_neg hp, rp_see hp, hmp, if_pos (by omega)]
          rw [fl_wh_l hc, fl_wh_l hm]
          obtain ⟨st, be, tk, wd2, wh2, at_, en, tk2, wm, ns, lt2, a1, a2, a3, a4⟩ := ih (p + 1) (by omega) (by omega) (by omega)
          exact ⟨st, be, tk, wd2, wh2, at_, en, tk2, wm, ns, lt2, a1, a2, a3, by omega⟩
        · have hc : Sf_X3_advance_0_1 e wd wh tp p = .inr (Gf_X3_advance_38_1 e wd wh tp p) := by
            simp only [Sf_X3_advance_0_1, fl_lt]
            rw [if_neg hp, hcp, if_neg h32]
          have hm : Sf_X8_next_5_1 e tm lt p = .inr (if Ff_X8_isSmall mp = 1 then fl_wh (fun t9 => Sf_X8_next_67_1 e tm p t9.1 t9.2.1 t9.2.2) (0, 0, 0, 0, 0, (fun _ => 0)) 901 (p, 0, lt) else if Ff_X8_isDigit mp = 1 then fl_wh (fun t9 => Sf_X8_next_152_1 e tm lt p t9.1 t9.2.1 t9.2.2) (0, 0, 0, 0, 0, (fun _ => 0)) 901 (0, p, 0) else if mp = 59 then (p, p + 1, mp, 0, 0, lt) else (p, p + 1, 1, 0, 0, lt)) := by
            simp only [Sf_X8_next_5_1, fl_lt]
            rw [if_neg hp, rp_see hp, hmp, if_neg (show ¬ mp = 32 by omega), if_neg hp, if_neg (show ¬ mp = -1 by omega)]
            rfl
          rw [fl_wh_r hc, fl_wh_r hm]
          simp only [Gf_X3_advance_38_1, fl_lt]
          rw [if_pos hlt, hcp]
          by_cases h59 : cp = 59
          · have hs : ¬ Ff_X8_isSmall mp = 1 := by
              unfold Ff_X8_isSmall; rw [if_pos (show mp < 97 by omega)]; decide
            have hd : ¬ Ff_X8_isDigit mp = 1 := by
              unfold Ff_X8_isDigit; rw [if_neg (show ¬ mp < 48 by omega), if_pos (show 57 < mp by omega)]; decide
            rw [if_pos h59, if_neg hs, if_neg hd, if_pos (by omega)]
            exact ⟨_, _, _, _, _, _, _, _, _, _, _, rfl, rfl, ⟨rfl, h2, h3, by omega, by omega, Or.inr (Or.inr (Or.inl ⟨rfl, by omega, rfl, by omega⟩))⟩, Int.le_refl _⟩
          · rw [if_neg h59]
            by_cases hsm : 97 ≤ cp ∧ cp ≤ 122
            · have hs : Ff_X8_isSmall mp = 1 := by
                unfold Ff_X8_isSmall; rw [if_neg (show ¬ mp < 97 by omega), if_neg (show ¬ 122 < mp by omega)]
              rw [if_neg (by omega), if_neg (by omega), if_pos hs]
              obtain ⟨be, tk, wd', tk2, ns2, lt2, a1, a2, a3, a4, a6, a5⟩ := rp_word hT h2 901 p 0 0 lt (by omega) (Int.le_refl _) h3 (by omega) (fun _ => ⟨fun k hk => by omega, rfl⟩)
              unfold Ff_X3_scanWord
              rw [a1, a2]
              refine ⟨p, be, tk, wd', wh, p, be, tk2, 0, ns2, lt2, rfl, rfl, ⟨rfl, h2, h3, by omega, a4, ?_⟩, Int.le_refl _⟩
              rcases a5 with ⟨b1, b2, b3, b4, b5, b6⟩ | ⟨b1, b2⟩
              · have hpb := a6 hlt (by rw [hcp]; exact hsm.1) (by rw [hcp]; exact hsm.2)
                exact Or.inr (Or.inr (Or.inr (Or.inl ⟨b1, b2, rfl, hpb, by omega, b4, b5, b6⟩)))
              · exact Or.inr (Or.inl ⟨b1, b2⟩)
            · have hs : ¬ Ff_X8_isSmall mp = 1 := by
                unfold Ff_X8_isSmall
                by_cases n1 : mp < 97
                · rw [if_pos n1]; decide
                · rw [if_neg n1, if_pos (show 122 < mp by omega)]; decide
              have hg : (if cp < 97 then Gf_X3_advance_132_1 e wd wh tp p else if 122 < cp then Gf_X3_advance_132_1 e wd wh tp p else fl_c3 (Ff_X3_scanWord e p p tp) (fun v126na0_9 v126na0_10 v126na0_11 => (p, v126na0_9, v126na0_10, v126na0_11, wh))) = Gf_X3_advance_132_1 e wd wh tp p := by
                by_cases n1 : cp < 97
                · rw [if_pos n1]
                · rw [if_neg n1, if_pos (show 122 < cp by omega)]
              rw [hg, if_neg hs]
              simp only [Gf_X3_advance_132_1, fl_lt]
              rw [hcp]
              by_cases hdg : 48 ≤ cp ∧ cp ≤ 57
              · have hd : Ff_X8_isDigit mp = 1 := by
                  unfold Ff_X8_isDigit; rw [if_neg (show ¬ mp < 48 by omega), if_neg (show ¬ 57 < mp by omega)]
                rw [if_neg (by omega), if_neg (by omega), if_pos hd]
                obtain ⟨be, tk, wd', tk2, wm2, a1, a2, a3, a4, a6, a5⟩ := rp_whole (lt := lt) hT h2 he 901 p 0 0 0 (by omega) (Int.le_refl _) h3 (by omega) (fun _ => ⟨rfl, by omega, by omega, fun _ => by omega, fun _ => by omega, fun _ => rfl⟩)
                unfold Ff_X3_scanWhole
                rw [a1, a2]
                refine ⟨p, be, tk, wd, wd', p, be, tk2, wm2, 0, lt, rfl, rfl, ⟨rfl, h2, h3, by omega, a4, ?_⟩, Int.le_refl _⟩
                rcases a5 with ⟨b1, b2, b3, b4, b5⟩ | ⟨b1, b2⟩
                · refine Or.inr (Or.inr (Or.inr (Or.inr ⟨b1, b2, rfl, ?_, b3, b4, b5⟩)))
                  exact a6 hlt (by rw [hcp]; exact hdg.1) (by rw [hcp]; exact hdg.2)
                · exact Or.inr (Or.inl ⟨b1, b2⟩)
              · have hd : ¬ Ff_X8_isDigit mp = 1 := by
                  unfold Ff_X8_isDigit
                  by_cases n1 : mp < 48
                  · rw [if_pos n1]; decide
                  · rw [if_neg n1, if_pos (show 57 < mp by omega)]; decide
                have hg2 : (if cp < 48 then Gf_X3_advance_167_1 wd wh p else if 57 < cp then Gf_X3_advance_167_1 wd wh p else fl_c3 (Ff_X3_scanWhole e p p tp) (fun v161na0_9 v161na0_10 v161na0_12 => (p, v161na0_9, v161na0_10, wd, v161na0_12))) = (p, p, 4, wd, wh) := by
                  by_cases n1 : cp < 48
                  · rw [if_pos n1]; rfl
                  · rw [if_neg n1, if_pos (show 57 < cp by omega)]; rfl
                rw [hg2, if_neg hd, if_neg (show ¬ mp = 59 by omega)]
                exact ⟨_, _, _, _, _, _, _, _, _, _, _, rfl, rfl, ⟨rfl, h2, h3, h2, h3, Or.inr (Or.inl ⟨rfl, rfl⟩)⟩, Int.le_refl _⟩
  exact main 901 b (by omega) hb0 hb1
end PUB
end P092242_pure2
section P092243_pure3
section PUC
theorem rp_cmp0 {x y : Int} : fl_cmp x y = 0 ↔ x = y := by
  unfold fl_cmp
  by_cases h : y < x
  · rw [if_pos h]; constructor
    · intro q; exact absurd q (by decide)
    · intro q; omega
  · rw [if_neg h]
    by_cases h2 : x = y
    · rw [if_pos h2]; exact ⟨fun _ => h2, fun _ => rfl⟩
    · rw [if_neg h2]; constructor
      · intro q; exact absurd q (by decide)
      · intro q; exact absurd q h2
/-- is it a word, there -/
theorem rp_isc {wd nn : Int} {cs : Nat → Int} (hn0 : 0 ≤ nn) (hn : nn ≤ 8) (hd : rp_dg cs nn.toNat) : Ff_X3_isWord 1 wd nn cs = if wd = rp_pk cs nn.toNat then 1 else 0 := by
  have main : ∀ (m : Nat) (j : Int), nn + 1 - j ≤ (m : Int) → 0 ≤ j → j ≤ nn → fl_wh (fun t9 => Sf_X3_isWord_15_1 wd nn cs t9.1 t9.2) 0 m (j, rp_pk cs j.toNat) = if wd = rp_pk cs nn.toNat then 1 else 0 := by
    intro m
    induction m with
    | zero => intro j h1 h2 h3; omega
    | succ m ih =>
      intro j h1 h2 h3
      by_cases hj : nn ≤ j
      · have ej : j = nn := by omega
        subst ej
        have hc : Sf_X3_isWord_15_1 wd j cs j (rp_pk cs j.toNat) = .inr (if fl_cmp wd (rp_pk cs j.toNat) = 0 then 1 else 0) := by
          simp only [Sf_X3_isWord_15_1, fl_lt]
          rw [if_pos hj]
        rw [fl_wh_r (step := fun t9 : Int × Int => Sf_X3_isWord_15_1 wd j cs t9.1 t9.2) (s := (j, rp_pk cs j.toNat)) hc]
        by_cases q : wd = rp_pk cs j.toNat
        · rw [if_pos (rp_cmp0.mpr q), if_pos q]
        · rw [if_neg (fun h => q (rp_cmp0.mp h)), if_neg q]
      · have hd1 := rp_dg_le hd (m := j.toNat) (by omega)
        have hdj := hd j.toNat (by omega)
        have q1 := rp_pk_lo hd1
        have q2 := rp_pk_7 hd1 (by omega)
        have ep : fl_lor (fl_lshl (rp_pk cs j.toNat) 8) (cs j.toNat) = rp_pk cs (j + 1).toNat := by
          rw [rp_push (by omega) (by omega) (by omega) (by omega), show (j + 1).toNat = j.toNat + 1 by omega]; rfl
        have hc : Sf_X3_isWord_15_1 wd nn cs j (rp_pk cs j.toNat) = .inl (j + 1, rp_pk cs (j + 1).toNat) := by
          simp only [Sf_X3_isWord_15_1, fl_lt]
          rw [if_neg hj, ep]
        rw [fl_wh_l (step := fun t9 : Int × Int => Sf_X3_isWord_15_1 wd nn cs t9.1 t9.2) (s := (j, rp_pk cs j.toNat)) hc]
        exact ih (j + 1) (by omega) (by omega) (by omega)
  unfold Ff_X3_isWord
  rw [if_pos rfl]
  exact main 9 0 (by omega) (by omega) hn0
theorem rp_ism0 {ns : Int} {lt cs : Nat → Int} : ∀ (m : Nat) (j : Int), ns + 1 - j ≤ (m : Int) → j ≤ ns → fl_wh (fun t9 => SfG_X8_isWord_32_1 ns lt cs t9.1 t9.2) 0 m (j, 0) = 0 := by
  intro m
  induction m with
  | zero => intro j h1 h2; omega
  | succ m ih =>
    intro j h1 h2
    by_cases hj : ns ≤ j
    · have hc : SfG_X8_isWord_32_1 ns lt cs j 0 = .inr 0 := by
        unfold SfG_X8_isWord_32_1; rw [if_pos hj]
      rw [fl_wh_r (step := fun t9 : Int × Int => SfG_X8_isWord_32_1 ns lt cs t9.1 t9.2) (s := (j, 0)) hc]
    · have hc : SfG_X8_isWord_32_1 ns lt cs j 0 = .inl (j + 1, 0) := by
        unfold SfG_X8_isWord_32_1; rw [if_neg hj, if_pos rfl]; rfl
      rw [fl_wh_l (step := fun t9 : Int × Int => SfG_X8_isWord_32_1 ns lt cs t9.1 t9.2) (s := (j, 0)) hc]
      exact ih (j + 1) (by omega) (by omega)
theorem rp_ism1 {ns : Int} {lt cs : Nat → Int} : ∀ (m : Nat) (j : Int), ns + 1 - j ≤ (m : Int) → 0 ≤ j → j ≤ ns → (∀ k : Nat, k < j.toNat → lt k = cs k) →
    (fl_wh (fun t9 => SfG_X8_isWord_32_1 ns lt cs t9.1 t9.2) 0 m (j, 1) = 1 ∧ ∀ k : Nat, k < ns.toNat → lt k = cs k) ∨ (fl_wh (fun t9 => SfG_X8_isWord_32_1 ns lt cs t9.1 t9.2) 0 m (j, 1) = 0 ∧ ¬ ∀ k : Nat, k < ns.toNat → lt k = cs k) := by
  intro m
  induction m with
  | zero => intro j h1 h2 h3; omega
  | succ m ih =>
    intro j h1 h2 h3 h4
    by_cases hj : ns ≤ j
    · have hc : SfG_X8_isWord_32_1 ns lt cs j 1 = .inr 1 := by
        unfold SfG_X8_isWord_32_1; rw [if_pos hj]
      rw [fl_wh_r (step := fun t9 : Int × Int => SfG_X8_isWord_32_1 ns lt cs t9.1 t9.2) (s := (j, 1)) hc]
      exact Or.inl ⟨rfl, fun k hk => h4 k (by omega)⟩
    · by_cases q : lt j.toNat = cs j.toNat
      · have hc : SfG_X8_isWord_32_1 ns lt cs j 1 = .inl (j + 1, 1) := by
          simp only [SfG_X8_isWord_32_1, fl_lt]; rw [if_neg hj, if_neg (by decide), if_pos q]; rfl
        rw [fl_wh_l (step := fun t9 : Int × Int => SfG_X8_isWord_32_1 ns lt cs t9.1 t9.2) (s := (j, 1)) hc]
        refine ih (j + 1) (by omega) (by omega) (by omega) (fun k hk => ?_)
        by_cases hk2 : k = j.toNat
        · rw [hk2]; exact q
        · exact h4 k (by omega)
      · have hc : SfG_X8_isWord_32_1 ns lt cs j 1 = .inl (j + 1, 0) := by
          simp only [SfG_X8_isWord_32_1, fl_lt]; rw [if_neg hj, if_neg (by decide), if_neg q]; rfl
        rw [fl_wh_l (step := fun t9 : Int × Int => SfG_X8_isWord_32_1 ns lt cs t9.1 t9.2) (s := (j, 1)) hc]
        exact Or.inr ⟨rp_ism0 m (j + 1) (by omega) (by omega), fun h => q (h j.toNat (by omega))⟩
/-- is it that word: here as there -/
theorem rp_isw {e st be tk wd wh at_ en tk2 wm ns nn : Int} {lt cs cs' : Nat → Int} (hK : rp_K e st be tk wd wh at_ en tk2 wm ns lt) (hn0 : 0 ≤ nn) (hn : nn ≤ 8) (hd : ∀ k : Nat, k < 8 → (k : Int) < nn → 97 ≤ cs k ∧ cs k ≤ 122 ∧ cs' k = cs k) :
    (Ff_X3_isWord tk wd nn cs = 0 ∧ FfG_X8_isWord tk2 ns lt nn cs' = 0) ∨ (Ff_X3_isWord tk wd nn cs = 1 ∧ FfG_X8_isWord tk2 ns lt nn cs' = 1 ∧ tk = 1 ∧ tk2 = 2 ∧ be = en ∧ st < be) := by
  have hd1 : rp_dg cs nn.toNat := fun k hk => ⟨(hd k (by omega) (by omega)).1, (hd k (by omega) (by omega)).2.1⟩
  have z : ∀ t : Int, t ≠ 1 → Ff_X3_isWord t wd nn cs = 0 := fun t h => by unfold Ff_X3_isWord; rw [if_neg h]
  have z2 : ∀ t : Int, t ≠ 2 → FfG_X8_isWord t ns lt nn cs' = 0 := fun t h => by unfold FfG_X8_isWord; rw [if_neg h]
  obtain ⟨h1, h2, h3, h4, h5, h6⟩ := hK
  rcases h6 with ⟨a, b⟩ | ⟨a, b⟩ | ⟨a, b, -⟩ | ⟨a, b, c, d, f0, f, g, hw⟩ | ⟨a, b, -⟩
  · subst a; subst b; exact Or.inl ⟨z _ (by decide), z2 _ (by decide)⟩
  · subst a; subst b; exact Or.inl ⟨z _ (by decide), z2 _ (by decide)⟩
  · subst a; subst b; exact Or.inl ⟨z _ (by decide), z2 _ (by decide)⟩
  · subst a; subst b
    rw [rp_isc hn0 hn hd1]
    have hu : FfG_X8_isWord 2 ns lt nn cs' = if ns = nn then fl_wh (fun t9 => SfG_X8_isWord_32_1 ns lt cs' t9.1 t9.2) 0 9 (0, 1) else 0 := by unfold FfG_X8_isWord; rw [if_pos rfl]; rfl
    rw [hu]
    by_cases hl : ns = nn
    · rw [if_pos hl]
      rcases rp_ism1 (ns := ns) (lt := lt) (cs := cs') 9 0 (by omega) (by omega) (by omega) (fun k hk => by omega) with ⟨q1, q2⟩ | ⟨q1, q2⟩
      · refine Or.inr ⟨if_pos ?_, q1, rfl, rfl, c, d⟩
        rw [hw, hl]
        exact rp_pk_cg (fun k hk => by rw [q2 k (by omega)]; exact (hd k (by omega) (by omega)).2.2)
      · refine Or.inl ⟨if_neg ?_, q1⟩
        intro he
        rw [hw] at he
        obtain ⟨-, e2⟩ := rp_pk_inj g hd1 he
        exact q2 (fun k hk => by rw [e2 k hk]; exact ((hd k (by omega) (by omega)).2.2).symm)
    · rw [if_neg hl]
      refine Or.inl ⟨if_neg ?_, rfl⟩
      intro he
      rw [hw] at he
      obtain ⟨e1, -⟩ := rp_pk_inj g hd1 he
      omega
  · subst a; subst b; exact Or.inl ⟨z _ (by decide), z2 _ (by decide)⟩
theorem rp_in (x lo hi : Int) : Ff_X7_within x lo hi = Ff_X8_in x lo hi := rfl
theorem rp_in1 {x lo hi : Int} (h1 : lo ≤ x) (h2 : x ≤ hi) : Ff_X8_in x lo hi = 1 := by
  unfold Ff_X8_in; rw [if_neg (by omega), if_neg (by omega)]
theorem rp_in0 {x lo hi : Int} (h : ¬ (lo ≤ x ∧ x ≤ hi)) : Ff_X8_in x lo hi = 0 := by
  unfold Ff_X8_in
  by_cases h1 : x < lo
  · rw [if_pos h1]
  · rw [if_neg h1, if_pos (by omega)]
/-- a WHOLE within bounds: isWholeWithin and numberHere -/
theorem rp_iww {e st be tk wd wh at_ en tk2 wm ns : Int} {lt : Nat → Int} (hK : rp_K e st be tk wd wh at_ en tk2 wm ns lt) (lo hi fn fp fa pl : Int) :
    (Ff_X3_isWholeWithin lo hi fn fp st tk wh = (1, fn, fp) ∧ FfG_X8_numberHere lo hi at_ tk2 wm fa pl = (wh, fa, pl, 0) ∧ tk = 2 ∧ wh = wm ∧ lo ≤ wh ∧ wh ≤ hi ∧ be = en ∧ st < be ∧ 0 ≤ wh ∧ wh ≤ 999) ∨
    (∃ q, Ff_X3_isWholeWithin lo hi fn fp st tk wh = (0, q, st) ∧ FfG_X8_numberHere lo hi at_ tk2 wm fa pl = (lo, q, st, 1)) := by
  obtain ⟨h1, h2, h3, h4, h5, h6⟩ := hK
  subst h1
  have z : ∀ t t2 : Int, t ≠ 2 → t2 ≠ 3 → (∃ q, Ff_X3_isWholeWithin lo hi fn fp st t wh = (0, q, st) ∧ FfG_X8_numberHere lo hi st t2 wm fa pl = (lo, q, st, 1)) := by
    intro t t2 a b
    refine ⟨1, ?_, ?_⟩
    · unfold Ff_X3_isWholeWithin; rw [if_neg a]; rfl
    · unfold FfG_X8_numberHere; rw [if_neg b]; rfl
  rcases h6 with ⟨a, b⟩ | ⟨a, b⟩ | ⟨a, b, -⟩ | ⟨a, b, -⟩ | ⟨a, b, c, d, f, g, k⟩
  · subst a; subst b; exact Or.inr (z _ _ (by decide) (by decide))
  · subst a; subst b; exact Or.inr (z _ _ (by decide) (by decide))
  · subst a; subst b; exact Or.inr (z _ _ (by decide) (by decide))
  · subst a; subst b; exact Or.inr (z _ _ (by decide) (by decide))
  · subst a; subst b; subst f
    by_cases hb : lo ≤ wh ∧ wh ≤ hi
    · refine Or.inl ⟨?_, ?_, rfl, rfl, hb.1, hb.2, c, d, g, k⟩
      · simp only [Ff_X3_isWholeWithin, fl_lt, rp_in, rp_in1 hb.1 hb.2, reduceIte]
      · simp only [FfG_X8_numberHere, fl_lt, rp_in1 hb.1 hb.2, reduceIte]
    · refine Or.inr ⟨4, ?_, ?_⟩
      · simp only [Ff_X3_isWholeWithin, fl_lt, rp_in, rp_in0 hb, reduceIte, Int.reduceEq]; rfl
      · simp only [FfG_X8_numberHere, fl_lt, rp_in0 hb, reduceIte, Int.reduceEq]; rfl
end PUC
end P092243_pure3
section P092244_pure4
section PUD
/-- a given WORD: takeWord and must -/
theorem rp_tkw {tp tm : Nat → Int} {e st be tk wd wh at_ en tk2 wm ns nn : Int} {lt cs cs' : Nat → Int} (hT : rp_T tp tm e) (he : e ≤ 900) (hK : rp_K e st be tk wd wh at_ en tk2 wm ns lt) (hn0 : 0 ≤ nn) (hn : nn ≤ 8) (hd : ∀ k : Nat, k < 8 → (k : Int) < nn → 97 ≤ cs k ∧ cs k ≤ 122 ∧ cs' k = cs k) (fn fp fa pl : Int) :
    (∃ st1 be1 tk1 wd1 wh1 at1 en1 tk3 wm1 ns1 lt1, Ff_X3_takeWord fn fp e st be tk wd wh tp nn cs = (1, fn, fp, st1, be1, tk1, wd1, wh1) ∧ FfG_X8_must e at_ en tk2 wm ns fa pl lt tm nn cs' = (at1, en1, tk3, wm1, ns1, fa, pl, 0, lt1) ∧ rp_K e st1 be1 tk1 wd1 wh1 at1 en1 tk3 wm1 ns1 lt1 ∧ be ≤ st1 ∧ st < be) ∨
    (Ff_X3_takeWord fn fp e st be tk wd wh tp nn cs = (0, 1, st, st, be, tk, wd, wh) ∧ FfG_X8_must e at_ en tk2 wm ns fa pl lt tm nn cs' = (at_, en, tk2, wm, ns, 1, st, 1, lt)) := by
  have hst : st = at_ := hK.1
  have hb0 : 0 ≤ be := hK.2.2.2.1
  have hb1 : be ≤ e := hK.2.2.2.2.1
  rcases rp_isw hK hn0 hn hd with ⟨w1, w2⟩ | ⟨w1, w2, -, -, hbe, hlt⟩
  · refine Or.inr ⟨?_, ?_⟩
    · simp only [Ff_X3_takeWord, fl_lt, w1, reduceIte, Int.reduceEq]; rfl
    · simp only [FfG_X8_must, FfG_X8_takesWord, fl_lt, w2, reduceIte, Int.reduceEq, fl_c7]; rw [hst]; rfl
  · obtain ⟨st1, be1, tk1, wd1, wh1, at1, en1, tk3, wm1, ns1, lt1, a1, a2, a3, a4⟩ := rp_adv hT he be wd wh lt hb0 hb1
    rw [hbe] at a2
    refine Or.inl ⟨st1, be1, tk1, wd1, wh1, at1, en1, tk3, wm1, ns1, lt1, ?_, ?_, a3, a4, hlt⟩
    · simp only [Ff_X3_takeWord, fl_lt, w1, reduceIte, a1, fl_c5]
    · simp only [FfG_X8_must, FfG_X8_takesWord, fl_lt, w2, reduceIte, Int.reduceEq, a2, fl_c6, fl_c7]
/-- a WHOLE: within bounds, and on: isWholeWithin, advance, and number -/
theorem rp_num {tp tm : Nat → Int} {e st be tk wd wh at_ en tk2 wm ns : Int} {lt : Nat → Int} (hT : rp_T tp tm e) (he : e ≤ 900) (hK : rp_K e st be tk wd wh at_ en tk2 wm ns lt) (lo hi fn fp fa pl : Int) :
    (∃ st1 be1 tk1 wd1 wh1 at1 en1 tk3 wm1 ns1 lt1, Ff_X3_isWholeWithin lo hi fn fp st tk wh = (1, fn, fp) ∧ Ff_X3_advance e be wd wh tp = (st1, be1, tk1, wd1, wh1) ∧ FfG_X8_number lo hi e at_ en tk2 wm ns fa pl tm lt = (wh, at1, en1, tk3, wm1, ns1, fa, pl, 0, lt1) ∧ rp_K e st1 be1 tk1 wd1 wh1 at1 en1 tk3 wm1 ns1 lt1 ∧ be ≤ st1 ∧ st < be ∧ lo ≤ wh ∧ wh ≤ hi ∧ 0 ≤ wh ∧ wh ≤ 999) ∨
    (∃ q, Ff_X3_isWholeWithin lo hi fn fp st tk wh = (0, q, st) ∧ FfG_X8_number lo hi e at_ en tk2 wm ns fa pl tm lt = (lo, at_, en, tk2, wm, ns, q, st, 1, lt)) := by
  have hb0 : 0 ≤ be := hK.2.2.2.1
  have hb1 : be ≤ e := hK.2.2.2.2.1
  rcases rp_iww hK lo hi fn fp fa pl with ⟨w1, w2, -, w4, w5, w6, hbe, hlt, w7, w8⟩ | ⟨q, w1, w2⟩
  · obtain ⟨st1, be1, tk1, wd1, wh1, at1, en1, tk3, wm1, ns1, lt1, a1, a2, a3, a4⟩ := rp_adv hT he be wd wh lt hb0 hb1
    rw [hbe] at a2
    refine Or.inl ⟨st1, be1, tk1, wd1, wh1, at1, en1, tk3, wm1, ns1, lt1, w1, a1, ?_, a3, a4, hlt, w5, w6, w7, w8⟩
    simp only [FfG_X8_number, FfG_X8_pass, w2, a2, fl_c4, fl_c6, reduceIte, Int.reduceEq]
  · refine Or.inr ⟨q, w1, ?_⟩
    simp only [FfG_X8_number, w2, fl_c4, reduceIte]
/-- a WORD and the WHOLE behind it: takeWhole and after -/
theorem rp_tw {tp tm : Nat → Int} {e st be tk wd wh at_ en tk2 wm ns nn : Int} {lt cs cs' : Nat → Int} (hT : rp_T tp tm e) (he : e ≤ 900) (hK : rp_K e st be tk wd wh at_ en tk2 wm ns lt) (hn0 : 0 ≤ nn) (hn : nn ≤ 8) (hd : ∀ k : Nat, k < 8 → (k : Int) < nn → 97 ≤ cs k ∧ cs k ≤ 122 ∧ cs' k = cs k) (lo hi fn fp ta fa pl : Int) :
    (∃ v st1 be1 tk1 wd1 wh1 at1 en1 tk3 wm1 ns1 lt1, Ff_X3_takeWhole lo hi fn fp e st be tk wd wh ta tp nn cs = (1, fn, fp, st1, be1, tk1, wd1, wh1, v) ∧ FfG_X8_after lo hi e at_ en tk2 wm ns fa pl lt tm nn cs' = (v, at1, en1, tk3, wm1, ns1, fa, pl, 0, lt1) ∧ rp_K e st1 be1 tk1 wd1 wh1 at1 en1 tk3 wm1 ns1 lt1 ∧ be ≤ st1 ∧ st < be ∧ lo ≤ v ∧ v ≤ hi ∧ 0 ≤ v ∧ v ≤ 999) ∨
    (∃ q fp1 st1 be1 tk1 wd1 wh1 ta1 at1 en1 tk3 wm1 ns1 lt1, Ff_X3_takeWhole lo hi fn fp e st be tk wd wh ta tp nn cs = (0, q, fp1, st1, be1, tk1, wd1, wh1, ta1) ∧ FfG_X8_after lo hi e at_ en tk2 wm ns fa pl lt tm nn cs' = (lo, at1, en1, tk3, wm1, ns1, q, fp1, 1, lt1)) := by
  have hst : st = at_ := hK.1
  have hb0 : 0 ≤ be := hK.2.2.2.1
  have hb1 : be ≤ e := hK.2.2.2.2.1
  rcases rp_isw hK hn0 hn hd with ⟨w1, w2⟩ | ⟨w1, w2, -, -, hbe, hlt⟩
  · refine Or.inr ⟨1, st, st, be, tk, wd, wh, ta, at_, en, tk2, wm, ns, lt, ?_, ?_⟩
    · simp only [Ff_X3_takeWhole, fl_lt, w1, reduceIte, Int.reduceEq]; rfl
    · simp only [FfG_X8_after, FfG_X8_must, FfG_X8_takesWord, fl_lt, w2, reduceIte, Int.reduceEq, fl_c7]; rw [hst]; rfl
  · obtain ⟨st1, be1, tk1, wd1, wh1, at1, en1, tk3, wm1, ns1, lt1, a1, a2, a3, a4⟩ := rp_adv hT he be wd wh lt hb0 hb1
    rw [hbe] at a2
    have em : FfG_X8_must e at_ en tk2 wm ns fa pl lt tm nn cs' = (at1, en1, tk3, wm1, ns1, fa, pl, 0, lt1) := by
      simp only [FfG_X8_must, FfG_X8_takesWord, fl_lt, w2, reduceIte, Int.reduceEq, a2, fl_c6, fl_c7]
    rcases rp_num hT he a3 lo hi fn fp fa pl with ⟨st2, be2, tk4, wd2, wh2, at2, en2, tk5, wm2, ns2, lt2, b1, b2, b3, b4, b5, b6, b7, b8, b9, b10⟩ | ⟨q, b1, b2⟩
    · refine Or.inl ⟨wh1, st2, be2, tk4, wd2, wh2, at2, en2, tk5, wm2, ns2, lt2, ?_, ?_, b4, by omega, hlt, b7, b8, b9, b10⟩
      · simp only [Ff_X3_takeWhole, fl_lt, w1, reduceIte, a1, fl_c5, b1, fl_c3, b2]
      · simp only [FfG_X8_after, em, fl_c9, b3, fl_c10, reduceIte, Int.reduceEq]
    · refine Or.inr ⟨q, st1, st1, be1, tk1, wd1, wh1, ta, at1, en1, tk3, wm1, ns1, lt1, ?_, ?_⟩
      · simp only [Ff_X3_takeWhole, fl_lt, w1, reduceIte, a1, fl_c5, b1, fl_c3, Int.reduceEq]
      · simp only [FfG_X8_after, em, fl_c9, b2, fl_c10, reduceIte, Int.reduceEq]
end PUD
end P092244_pure4
section P092245_pure5
section PUE
theorem rp_sw_gallery : ∀ k : Nat, k < 8 → (k : Int) < 7 → 97 ≤ (fl_A (sxc 0)) k ∧ (fl_A (sxc 0)) k ≤ 122 ∧ (fl_A (sxc 18)) k = (fl_A (sxc 0)) k := by decide +kernel
theorem rp_sw_law : ∀ k : Nat, k < 8 → (k : Int) < 3 → 97 ≤ (fl_A (sxc 1)) k ∧ (fl_A (sxc 1)) k ≤ 122 ∧ (fl_A (sxc 19)) k = (fl_A (sxc 1)) k := by decide +kernel
theorem rp_sw_figure : ∀ k : Nat, k < 8 → (k : Int) < 6 → 97 ≤ (fl_A (sxc 2)) k ∧ (fl_A (sxc 2)) k ≤ 122 ∧ (fl_A (sxc 20)) k = (fl_A (sxc 2)) k := by decide +kernel
theorem rp_sw_watcher : ∀ k : Nat, k < 8 → (k : Int) < 7 → 97 ≤ (fl_A (sxc 3)) k ∧ (fl_A (sxc 3)) k ≤ 122 ∧ (fl_A (sxc 21)) k = (fl_A (sxc 3)) k := by decide +kernel
theorem rp_sw_seen : ∀ k : Nat, k < 8 → (k : Int) < 4 → 97 ≤ (fl_A (sxc 4)) k ∧ (fl_A (sxc 4)) k ≤ 122 ∧ (fl_A (sxc 22)) k = (fl_A (sxc 4)) k := by decide +kernel
theorem rp_sw_figures : ∀ k : Nat, k < 8 → (k : Int) < 7 → 97 ≤ (fl_A (sxc 5)) k ∧ (fl_A (sxc 5)) k ≤ 122 ∧ (fl_A (sxc 23)) k = (fl_A (sxc 5)) k := by decide +kernel
theorem rp_sw_span : ∀ k : Nat, k < 8 → (k : Int) < 4 → 97 ≤ (fl_A (sxc 6)) k ∧ (fl_A (sxc 6)) k ≤ 122 ∧ (fl_A (sxc 24)) k = (fl_A (sxc 6)) k := by decide +kernel
theorem rp_sw_stairs : ∀ k : Nat, k < 8 → (k : Int) < 6 → 97 ≤ (fl_A (sxc 7)) k ∧ (fl_A (sxc 7)) k ≤ 122 ∧ (fl_A (sxc 25)) k = (fl_A (sxc 7)) k := by decide +kernel
theorem rp_sw_shut : ∀ k : Nat, k < 8 → (k : Int) < 4 → 97 ≤ (fl_A (sxc 8)) k ∧ (fl_A (sxc 8)) k ≤ 122 ∧ (fl_A (sxc 26)) k = (fl_A (sxc 8)) k := by decide +kernel
theorem rp_sw_times : ∀ k : Nat, k < 8 → (k : Int) < 5 → 97 ≤ (fl_A (sxc 9)) k ∧ (fl_A (sxc 9)) k ≤ 122 ∧ (fl_A (sxc 27)) k = (fl_A (sxc 9)) k := by decide +kernel
theorem rp_sw_plus : ∀ k : Nat, k < 8 → (k : Int) < 4 → 97 ≤ (fl_A (sxc 10)) k ∧ (fl_A (sxc 10)) k ≤ 122 ∧ (fl_A (sxc 28)) k = (fl_A (sxc 10)) k := by decide +kernel
theorem rp_sw_first : ∀ k : Nat, k < 8 → (k : Int) < 5 → 97 ≤ (fl_A (sxc 11)) k ∧ (fl_A (sxc 11)) k ≤ 122 ∧ (fl_A (sxc 29)) k = (fl_A (sxc 11)) k := by decide +kernel
theorem rp_sw_is : ∀ k : Nat, k < 8 → (k : Int) < 2 → 97 ≤ (fl_A (sxc 12)) k ∧ (fl_A (sxc 12)) k ≤ 122 ∧ (fl_A (sxc 30)) k = (fl_A (sxc 12)) k := by decide +kernel
theorem rp_sw_walks : ∀ k : Nat, k < 8 → (k : Int) < 5 → 97 ≤ (fl_A (sxc 13)) k ∧ (fl_A (sxc 13)) k ≤ 122 ∧ (fl_A (sxc 31)) k = (fl_A (sxc 13)) k := by decide +kernel
theorem rp_sw_speaks : ∀ k : Nat, k < 8 → (k : Int) < 6 → 97 ≤ (fl_A (sxc 14)) k ∧ (fl_A (sxc 14)) k ≤ 122 ∧ (fl_A (sxc 32)) k = (fl_A (sxc 14)) k := by decide +kernel
theorem rp_sw_from : ∀ k : Nat, k < 8 → (k : Int) < 4 → 97 ≤ (fl_A (sxc 15)) k ∧ (fl_A (sxc 15)) k ≤ 122 ∧ (fl_A (sxc 33)) k = (fl_A (sxc 15)) k := by decide +kernel
theorem rp_sw_to : ∀ k : Nat, k < 8 → (k : Int) < 2 → 97 ≤ (fl_A (sxc 16)) k ∧ (fl_A (sxc 16)) k ≤ 122 ∧ (fl_A (sxc 34)) k = (fl_A (sxc 16)) k := by decide +kernel
theorem rp_sw_at : ∀ k : Nat, k < 8 → (k : Int) < 2 → 97 ≤ (fl_A (sxc 17)) k ∧ (fl_A (sxc 17)) k ≤ 122 ∧ (fl_A (sxc 35)) k = (fl_A (sxc 17)) k := by decide +kernel

/-- the names told, here and there -/
def rp_N (nm : Nat → Int) (c : Int) (fr : Nat → Int) : Prop :=
  (∀ s : Nat, s < 12 → 0 ≤ fr (48 + s) ∧ fr (48 + s) ≤ 8 ∧ rp_dg (fun k => fr (60 + 8 * s + k)) (fr (48 + s)).toNat) ∧
  (∀ i : Nat, (i : Int) < c → ∃ s : Nat, s < 12 ∧ 0 < fr (48 + s) ∧ nm i = rp_pk (fun k => fr (60 + 8 * s + k)) (fr (48 + s)).toNat) ∧
  (∀ s : Nat, s < 12 → 0 < fr (48 + s) → ∃ i : Nat, (i : Int) < c ∧ nm i = rp_pk (fun k => fr (60 + 8 * s + k)) (fr (48 + s)).toNat)
theorem rp_knc {fn fp c e st be tk wd wh : Int} {nm tp : Nat → Int} (hc0 : 0 ≤ c) (hc : c ≤ 12) : ∀ (m : Nat) (j : Int), c + 1 - j ≤ (m : Int) → 0 ≤ j → j ≤ c → (∀ i : Nat, (i : Int) < j → nm i ≠ wd) →
    ((∃ i : Nat, (i : Int) < c ∧ nm i = wd) ∧ fl_wh (Sf_X3_takeName_61_1 fn fp c e st be tk wd wh nm tp) (0, 0, 0, 0, 0, 0, 0, 0, 0, (fun _ => 0)) m j = (0, 3, st, c, st, be, tk, wd, wh, nm)) ∨
    ((∀ i : Nat, (i : Int) < c → nm i ≠ wd) ∧ fl_wh (Sf_X3_takeName_61_1 fn fp c e st be tk wd wh nm tp) (0, 0, 0, 0, 0, 0, 0, 0, 0, (fun _ => 0)) m j = if 12 ≤ c then Gf_X3_takeName_127_1 fn fp e be wd wh tp c nm else Gf_X3_takeName_127_1 fn fp e be wd wh tp (c + 1) (fl_up nm c.toNat wd)) := by
  intro m
  induction m with
  | zero => intro j h1 h2 h3; omega
  | succ m ih =>
    intro j h1 h2 h3 h4
    by_cases hj : c ≤ j
    · have hs : Sf_X3_takeName_61_1 fn fp c e st be tk wd wh nm tp j = .inr (if 12 ≤ c then Gf_X3_takeName_127_1 fn fp e be wd wh tp c nm else Gf_X3_takeName_127_1 fn fp e be wd wh tp (c + 1) (fl_up nm c.toNat wd)) := by
        simp only [Sf_X3_takeName_61_1, fl_lt]; rw [if_pos hj]
      rw [fl_wh_r hs]
      exact Or.inr ⟨fun i hi => h4 i (by omega), rfl⟩
    · by_cases q : nm j.toNat = wd
      · have hs : Sf_X3_takeName_61_1 fn fp c e st be tk wd wh nm tp j = .inr (0, 3, st, c, st, be, tk, wd, wh, nm) := by
          simp only [Sf_X3_takeName_61_1, fl_lt]; rw [if_neg hj, if_pos (rp_cmp0.mpr q)]; rfl
        rw [fl_wh_r hs]
        exact Or.inl ⟨⟨j.toNat, by omega, q⟩, rfl⟩
      · have hs : Sf_X3_takeName_61_1 fn fp c e st be tk wd wh nm tp j = .inl (j + 1) := by
          simp only [Sf_X3_takeName_61_1, fl_lt]; rw [if_neg hj, if_neg (fun h => q (rp_cmp0.mp h))]
        rw [fl_wh_l hs]
        refine ih (j + 1) (by omega) (by omega) (by omega) (fun i hi => ?_)
        by_cases hi2 : i = j.toNat
        · rw [hi2]; exact q
        · exact h4 i (by omega)
theorem rp_kin {ns : Int} {fr lt : Nat → Int} {s : Nat} (hn0 : 0 ≤ ns) : ∀ (m : Nat) (k : Int), ns + 1 - k ≤ (m : Int) → 0 ≤ k → k ≤ ns → (∀ i : Nat, i < k.toNat → fr (60 + 8 * s + i) = lt i) →
    ((∀ i : Nat, i < ns.toNat → fr (60 + 8 * s + i) = lt i) ∧ fl_wh (fun t9 => Sf_X8_isKnown_44_1 ns fr lt (s : Int) t9.1 t9.2) (Sum.inr 0) m (k, 1) = Sum.inr 1) ∨
    ((¬ ∀ i : Nat, i < ns.toNat → fr (60 + 8 * s + i) = lt i) ∧ fl_wh (fun t9 => Sf_X8_isKnown_44_1 ns fr lt (s : Int) t9.1 t9.2) (Sum.inr 0) m (k, 1) = Sum.inl ((s : Int) + 1)) := by
  intro m
  induction m with
  | zero => intro k h1 h2 h3; omega
  | succ m ih =>
    intro k h1 h2 h3 h4
    by_cases hk : ns ≤ k
    · have hs : Sf_X8_isKnown_44_1 ns fr lt (s : Int) k 1 = .inr (Sum.inr 1) := by
        unfold Sf_X8_isKnown_44_1; rw [if_pos hk]; rfl
      rw [fl_wh_r (step := fun t9 : Int × Int => Sf_X8_isKnown_44_1 ns fr lt (s : Int) t9.1 t9.2) (s := (k, 1)) hs]
      exact Or.inl ⟨fun i hi => h4 i (by omega), rfl⟩
    · have ix : (60 + 8 * (s : Int) + k).toNat = 60 + 8 * s + k.toNat := by omega
      by_cases q : fr (60 + 8 * s + k.toNat) = lt k.toNat
      · have hs : Sf_X8_isKnown_44_1 ns fr lt (s : Int) k 1 = .inl (k + 1, 1) := by
          simp only [Sf_X8_isKnown_44_1, fl_lt]; rw [if_neg hk, if_neg (by decide), ix, if_pos q]; rfl
        rw [fl_wh_l (step := fun t9 : Int × Int => Sf_X8_isKnown_44_1 ns fr lt (s : Int) t9.1 t9.2) (s := (k, 1)) hs]
        refine ih (k + 1) (by omega) (by omega) (by omega) (fun i hi => ?_)
        by_cases hi2 : i = k.toNat
        · rw [hi2]; exact q
        · exact h4 i (by omega)
      · have hs : Sf_X8_isKnown_44_1 ns fr lt (s : Int) k 1 = .inl (k + 1, 0) := by
          simp only [Sf_X8_isKnown_44_1, fl_lt]; rw [if_neg hk, if_neg (by decide), ix, if_neg q]; rfl
        rw [fl_wh_l (step := fun t9 : Int × Int => Sf_X8_isKnown_44_1 ns fr lt (s : Int) t9.1 t9.2) (s := (k, 1)) hs]
        refine Or.inr ⟨fun h => q (h k.toNat (by omega)), ?_⟩
        cases m with
        | zero => omega
        | succ m =>
          have hs2 : Sf_X8_isKnown_44_1 ns fr lt (s : Int) (k + 1) 0 = .inr (Sum.inl ((s : Int) + 1)) := by
            unfold Sf_X8_isKnown_44_1
            by_cases hk2 : ns ≤ k + 1
            · rw [if_pos hk2]; rfl
            · rw [if_neg hk2, if_pos rfl]; rfl
          rw [fl_wh_r (step := fun t9 : Int × Int => Sf_X8_isKnown_44_1 ns fr lt (s : Int) t9.1 t9.2) (s := (k + 1, 0)) hs2]
theorem rp_kn0 {ns : Int} {fr lt : Nat → Int} {s : Nat} : Gf_X8_isKnown_40_1 ns fr lt (s : Int) = Sum.inl ((s : Int) + 1) := by
  have hs2 : Sf_X8_isKnown_44_1 ns fr lt (s : Int) 0 0 = .inr (Sum.inl ((s : Int) + 1)) := by
    unfold Sf_X8_isKnown_44_1
    by_cases hk2 : ns ≤ 0
    · rw [if_pos hk2]; rfl
    · rw [if_neg hk2, if_pos rfl]; rfl
  exact fl_wh_r (n := 8) (d := Sum.inr 0) (step := fun t9 : Int × Int => Sf_X8_isKnown_44_1 ns fr lt (s : Int) t9.1 t9.2) (s := (0, 0)) hs2
/-- is the name known, there -/
theorem rp_knm {ns : Int} {fr lt : Nat → Int} (hn0 : 0 ≤ ns) (hn8 : ns ≤ 8) :
    ((∃ s : Nat, s < 12 ∧ 0 < fr (48 + s) ∧ fr (48 + s) = ns ∧ ∀ i : Nat, i < ns.toNat → fr (60 + 8 * s + i) = lt i) ∧ Ff_X8_isKnown ns fr lt = 1) ∨
    ((∀ s : Nat, s < 12 → 0 < fr (48 + s) → fr (48 + s) = ns → ¬ ∀ i : Nat, i < ns.toNat → fr (60 + 8 * s + i) = lt i) ∧ Ff_X8_isKnown ns fr lt = 0) := by
  have main : ∀ (m : Nat) (j : Nat), 13 ≤ m + j → j ≤ 12 → (∀ s : Nat, s < j → 0 < fr (48 + s) → fr (48 + s) = ns → ¬ ∀ i : Nat, i < ns.toNat → fr (60 + 8 * s + i) = lt i) →
      ((∃ s : Nat, s < 12 ∧ 0 < fr (48 + s) ∧ fr (48 + s) = ns ∧ ∀ i : Nat, i < ns.toNat → fr (60 + 8 * s + i) = lt i) ∧ fl_wh (Sf_X8_isKnown_2_1 ns fr lt) 0 m (j : Int) = 1) ∨
      ((∀ s : Nat, s < 12 → 0 < fr (48 + s) → fr (48 + s) = ns → ¬ ∀ i : Nat, i < ns.toNat → fr (60 + 8 * s + i) = lt i) ∧ fl_wh (Sf_X8_isKnown_2_1 ns fr lt) 0 m (j : Int) = 0) := by
    intro m
    induction m with
    | zero => intro j h1 h2; omega
    | succ m ih =>
      intro j h1 h2 h3
      by_cases hj : 12 ≤ (j : Int)
      · have hs : Sf_X8_isKnown_2_1 ns fr lt (j : Int) = .inr 0 := by
          unfold Sf_X8_isKnown_2_1; rw [if_pos hj]
        rw [fl_wh_r hs]
        exact Or.inr ⟨fun s hs2 => h3 s (by omega), rfl⟩
      · have ix : (48 + (j : Int)).toNat = 48 + j := by omega
        have next : Sf_X8_isKnown_2_1 ns fr lt (j : Int) = .inl ((j : Int) + 1) → (0 < fr (48 + j) → fr (48 + j) = ns → ¬ ∀ i : Nat, i < ns.toNat → fr (60 + 8 * j + i) = lt i) →
            ((∃ s : Nat, s < 12 ∧ 0 < fr (48 + s) ∧ fr (48 + s) = ns ∧ ∀ i : Nat, i < ns.toNat → fr (60 + 8 * s + i) = lt i) ∧ fl_wh (Sf_X8_isKnown_2_1 ns fr lt) 0 (m + 1) (j : Int) = 1) ∨
            ((∀ s : Nat, s < 12 → 0 < fr (48 + s) → fr (48 + s) = ns → ¬ ∀ i : Nat, i < ns.toNat → fr (60 + 8 * s + i) = lt i) ∧ fl_wh (Sf_X8_isKnown_2_1 ns fr lt) 0 (m + 1) (j : Int) = 0) := by
          intro hs hno
          rw [fl_wh_l hs]
          have := ih (j + 1) (by omega) (by omega) (fun s hs2 => by
            by_cases e : s = j
            · subst e; exact hno
            · exact h3 s (by omega))
          rw [show ((j + 1 : Nat) : Int) = (j : Int) + 1 by omega] at this
          exact this
        by_cases h0 : fr (48 + j) ≤ 0
        · refine next ?_ (fun q => by omega)
          simp only [Sf_X8_isKnown_2_1, fl_lt]; rw [if_neg hj, ix, if_pos h0]; exact rp_kn0
        · by_cases hq : fr (48 + j) = ns
          · have hun : Sf_X8_isKnown_2_1 ns fr lt (j : Int) = Gf_X8_isKnown_41_1 ns fr lt (j : Int) 1 := by
              simp only [Sf_X8_isKnown_2_1, fl_lt]; rw [if_neg hj, ix, if_neg h0, if_pos hq]
            rcases rp_kin (ns := ns) (fr := fr) (lt := lt) (s := j) hn0 9 0 (by omega) (by omega) hn0 (fun i hi => by omega) with ⟨a, b⟩ | ⟨a, b⟩
            · rw [fl_wh_r (hun.trans b)]
              exact Or.inl ⟨⟨j, by omega, by omega, hq, a⟩, rfl⟩
            · exact next (hun.trans b) (fun _ _ => a)
          · refine next ?_ (fun _ q => absurd q hq)
            simp only [Sf_X8_isKnown_2_1, fl_lt]; rw [if_neg hj, ix, if_neg h0, if_neg hq]; exact rp_kn0
  exact main 13 0 (by omega) (by omega) (fun s hs => by omega)

theorem rp_nnl {a : Nat} {e en ns fa pl : Int} {lt tm fr : Nat → Int} (hn0 : 0 ≤ ns) : ∀ (m : Nat) (j : Int) (f : Nat → Int), ns + 1 - j ≤ (m : Int) → 0 ≤ j → j ≤ ns → (∀ i : Nat, f i = if 60 + 8 * a ≤ i ∧ i < 60 + 8 * a + j.toNat then lt (i - (60 + 8 * a)) else fr i) →
    ∃ frL : Nat → Int, (∀ i : Nat, frL i = if 60 + 8 * a ≤ i ∧ i < 60 + 8 * a + ns.toNat then lt (i - (60 + 8 * a)) else fr i) ∧
      fl_wh (fun t9 => SfG_X8_newName_103_1 (a : Int) e en ns fa pl lt tm t9.1 t9.2) (0, 0, 0, 0, 0, 0, 0, 0, (fun _ => 0), (fun _ => 0)) m (j, f) = fl_c6 (Ff_X8_next e en tm lt) (fun x1 x2 x3 x4 x5 x6 => (x1, x2, x3, x4, x5, fa, pl, 0, x6, fl_up frL (48 + a) ns)) := by
  intro m
  induction m with
  | zero => intro j f h1 h2 h3; omega
  | succ m ih =>
    intro j f h1 h2 h3 h4
    by_cases hj : ns ≤ j
    · have ix : (48 + (a : Int)).toNat = 48 + a := by omega
      have ej : j = ns := by omega
      have hs : SfG_X8_newName_103_1 (a : Int) e en ns fa pl lt tm j f = .inr (fl_c6 (Ff_X8_next e en tm lt) (fun x1 x2 x3 x4 x5 x6 => (x1, x2, x3, x4, x5, fa, pl, 0, x6, fl_up f (48 + a) ns))) := by
        simp only [SfG_X8_newName_103_1, fl_lt]; rw [if_pos hj, ix]
      rw [fl_wh_r (step := fun t9 : Int × (Nat → Int) => SfG_X8_newName_103_1 (a : Int) e en ns fa pl lt tm t9.1 t9.2) (s := (j, f)) hs]
      exact ⟨f, by rw [← ej]; exact h4, rfl⟩
    · have ix : (60 + 8 * (a : Int) + j).toNat = 60 + 8 * a + j.toNat := by omega
      have hs : SfG_X8_newName_103_1 (a : Int) e en ns fa pl lt tm j f = .inl (j + 1, fl_up f (60 + 8 * a + j.toNat) (lt j.toNat)) := by
        simp only [SfG_X8_newName_103_1, fl_lt]; rw [if_neg hj, ix]
      rw [fl_wh_l (step := fun t9 : Int × (Nat → Int) => SfG_X8_newName_103_1 (a : Int) e en ns fa pl lt tm t9.1 t9.2) (s := (j, f)) hs]
      refine ih (j + 1) _ (by omega) (by omega) (by omega) (fun i => ?_)
      unfold fl_up
      by_cases hi : i = 60 + 8 * a + j.toNat
      · rw [if_pos hi, if_pos (by omega)]; exact congrArg lt (by omega)
      · rw [if_neg hi, h4 i]
        by_cases hi2 : 60 + 8 * a ≤ i ∧ i < 60 + 8 * a + j.toNat
        · rw [if_pos hi2, if_pos (by omega)]
        · rw [if_neg hi2, if_neg (by omega)]
/-- a new name: takeName and newName -/
theorem rp_nn {tp tm : Nat → Int} {e st be tk wd wh at_ en tk2 wm ns c : Int} {lt nm fr : Nat → Int} {a : Nat} (hT : rp_T tp tm e) (he : e ≤ 900) (hK : rp_K e st be tk wd wh at_ en tk2 wm ns lt) (hN : rp_N nm c fr) (ha : a < 12) (hfa : fr (48 + a) = 0) (hc0 : 0 ≤ c) (hc : c ≤ 11) (fn fp fa pl : Int) :
    (∃ nm1 st1 be1 tk1 wd1 wh1 at1 en1 tk3 wm1 ns1 lt1 fr1 z, Ff_X3_takeName fn fp c e st be tk wd wh nm tp = (1, fn, fp, c + 1, st1, be1, tk1, wd1, wh1, nm1) ∧ FfG_X8_newName (a : Int) e at_ en tk2 wm ns fa pl lt fr tm = (at1, en1, tk3, wm1, ns1, fa, pl, 0, lt1, fr1) ∧ rp_K e st1 be1 tk1 wd1 wh1 at1 en1 tk3 wm1 ns1 lt1 ∧ be ≤ st1 ∧ st < be ∧ rp_N nm1 (c + 1) fr1 ∧ (∀ i : Nat, i < 48 → fr1 i = fr i) ∧ (∀ s : Nat, s < 12 → fr1 (48 + s) = if s = a then z else fr (48 + s)) ∧ 0 ≤ z) ∨
    (∃ q st1 be1 tk1 wd1 wh1 nm1 c1 at1 en1 tk3 wm1 ns1 lt1 fr1, Ff_X3_takeName fn fp c e st be tk wd wh nm tp = (0, q, st, c1, st1, be1, tk1, wd1, wh1, nm1) ∧ FfG_X8_newName (a : Int) e at_ en tk2 wm ns fa pl lt fr tm = (at1, en1, tk3, wm1, ns1, q, st, 1, lt1, fr1)) := by
  have hst : st = at_ := hK.1
  have hb0 : 0 ≤ be := hK.2.2.2.1
  have hb1 : be ≤ e := hK.2.2.2.2.1
  have bad : ∀ (h1 : Ff_X3_takeName fn fp c e st be tk wd wh nm tp = Gf_X3_takeName_53_1 c st be tk wd wh nm) (h2 : FfG_X8_newName (a : Int) e at_ en tk2 wm ns fa pl lt fr tm = fl_c2 (FfG_X8_wrong 1 at_) (fun x y => (at_, en, tk2, wm, ns, x, y, 1, lt, fr))), (∃ q st1 be1 tk1 wd1 wh1 nm1 c1 at1 en1 tk3 wm1 ns1 lt1 fr1, Ff_X3_takeName fn fp c e st be tk wd wh nm tp = (0, q, st, c1, st1, be1, tk1, wd1, wh1, nm1) ∧ FfG_X8_newName (a : Int) e at_ en tk2 wm ns fa pl lt fr tm = (at1, en1, tk3, wm1, ns1, q, st, 1, lt1, fr1)) := by
    intro h1 h2
    refine ⟨1, st, be, tk, wd, wh, nm, c, at_, en, tk2, wm, ns, lt, fr, h1, ?_⟩
    rw [h2, hst]; rfl
  by_cases htk : tk = 1
  · have hK' := hK
    obtain ⟨-, -, -, -, -, h6⟩ := hK'
    have h7 : tk2 = 2 ∧ be = en ∧ st < be ∧ 1 ≤ ns ∧ ns ≤ 8 ∧ rp_dg lt ns.toNat ∧ wd = rp_pk lt ns.toNat := by
      rcases h6 with ⟨x, -⟩ | ⟨x, -⟩ | ⟨x, -⟩ | ⟨x, y⟩ | ⟨x, -⟩
      · omega
      · omega
      · omega
      · exact y
      · omega
    obtain ⟨h8, hbe, hlt, hn1, hn8, hdg, hwd⟩ := h7
    have hn0 : 0 ≤ ns := by omega
    have w1 := rp_isw hK (nn := 7) (by decide) (by decide) rp_sw_gallery
    have w2 := rp_isw hK (nn := 3) (by decide) (by decide) rp_sw_law
    have w3 := rp_isw hK (nn := 6) (by decide) (by decide) rp_sw_figure
    have w4 := rp_isw hK (nn := 7) (by decide) (by decide) rp_sw_watcher
    have w5 := rp_isw hK (nn := 4) (by decide) (by decide) rp_sw_seen
    have uc : Ff_X3_takeName fn fp c e st be tk wd wh nm tp = if Ff_X3_isWord tk wd 7 (fl_A (sxc 0)) = 1 then Gf_X3_takeName_53_1 c st be tk wd wh nm else if Ff_X3_isWord tk wd 3 (fl_A (sxc 1)) = 1 then Gf_X3_takeName_53_1 c st be tk wd wh nm else if Ff_X3_isWord tk wd 6 (fl_A (sxc 2)) = 1 then Gf_X3_takeName_53_1 c st be tk wd wh nm else if Ff_X3_isWord tk wd 7 (fl_A (sxc 3)) = 1 then Gf_X3_takeName_53_1 c st be tk wd wh nm else if Ff_X3_isWord tk wd 4 (fl_A (sxc 4)) = 1 then Gf_X3_takeName_53_1 c st be tk wd wh nm else fl_wh (Sf_X3_takeName_61_1 fn fp c e st be tk wd wh nm tp) (0, 0, 0, 0, 0, 0, 0, 0, 0, (fun _ => 0)) 13 0 := by
      unfold Ff_X3_takeName; rw [if_pos htk]; rfl
    have um : FfG_X8_newName (a : Int) e at_ en tk2 wm ns fa pl lt fr tm = if FfG_X8_isWord tk2 ns lt 7 (fl_A (sxc 18)) = 0 then (if FfG_X8_isWord tk2 ns lt 3 (fl_A (sxc 19)) = 0 then (if FfG_X8_isWord tk2 ns lt 6 (fl_A (sxc 20)) = 0 then (if FfG_X8_isWord tk2 ns lt 7 (fl_A (sxc 21)) = 0 then (if FfG_X8_isWord tk2 ns lt 4 (fl_A (sxc 22)) = 0 then (if Ff_X8_isKnown ns fr lt = 1 then fl_c2 (FfG_X8_wrong 3 at_) (fun x y => (at_, en, tk2, wm, ns, x, y, 1, lt, fr)) else fl_wh (fun t9 => SfG_X8_newName_103_1 (a : Int) e en ns fa pl lt tm t9.1 t9.2) (0, 0, 0, 0, 0, 0, 0, 0, (fun _ => 0), (fun _ => 0)) 9 (0, fr)) else fl_c2 (FfG_X8_wrong 1 at_) (fun x y => (at_, en, tk2, wm, ns, x, y, 1, lt, fr))) else fl_c2 (FfG_X8_wrong 1 at_) (fun x y => (at_, en, tk2, wm, ns, x, y, 1, lt, fr))) else fl_c2 (FfG_X8_wrong 1 at_) (fun x y => (at_, en, tk2, wm, ns, x, y, 1, lt, fr))) else fl_c2 (FfG_X8_wrong 1 at_) (fun x y => (at_, en, tk2, wm, ns, x, y, 1, lt, fr))) else fl_c2 (FfG_X8_wrong 1 at_) (fun x y => (at_, en, tk2, wm, ns, x, y, 1, lt, fr)) := by
      unfold FfG_X8_newName; rw [if_pos h8]; rfl
    rcases w1 with ⟨a1, b1⟩ | ⟨a1, b1, -⟩
    rotate_left
    · exact Or.inr (bad (by rw [uc, if_pos a1]) (by rw [um, b1, if_neg (by decide)]))
    rw [a1, if_neg (by decide)] at uc; rw [b1, if_pos rfl] at um
    rcases w2 with ⟨a1, b1⟩ | ⟨a1, b1, -⟩
    rotate_left
    · exact Or.inr (bad (by rw [uc, if_pos a1]) (by rw [um, b1, if_neg (by decide)]))
    rw [a1, if_neg (by decide)] at uc; rw [b1, if_pos rfl] at um
    rcases w3 with ⟨a1, b1⟩ | ⟨a1, b1, -⟩
    rotate_left
    · exact Or.inr (bad (by rw [uc, if_pos a1]) (by rw [um, b1, if_neg (by decide)]))
    rw [a1, if_neg (by decide)] at uc; rw [b1, if_pos rfl] at um
    rcases w4 with ⟨a1, b1⟩ | ⟨a1, b1, -⟩
    rotate_left
    · exact Or.inr (bad (by rw [uc, if_pos a1]) (by rw [um, b1, if_neg (by decide)]))
    rw [a1, if_neg (by decide)] at uc; rw [b1, if_pos rfl] at um
    rcases w5 with ⟨a1, b1⟩ | ⟨a1, b1, -⟩
    rotate_left
    · exact Or.inr (bad (by rw [uc, if_pos a1]) (by rw [um, b1, if_neg (by decide)]))
    rw [a1, if_neg (by decide)] at uc; rw [b1, if_pos rfl] at um
    obtain ⟨n1, n2, n3⟩ := hN
    rcases rp_knc (fn := fn) (fp := fp) (e := e) (st := st) (be := be) (tk := tk) (wd := wd) (wh := wh) (nm := nm) (tp := tp) hc0 (by omega) 13 0 (by omega) (by omega) hc0 (fun i hi => by omega) with ⟨⟨i, i1, i2⟩, kc⟩ | ⟨hno, kc⟩
    · -- told before
      rcases rp_knm (ns := ns) (fr := fr) (lt := lt) hn0 hn8 with ⟨-, km⟩ | ⟨hno, km⟩
      · rw [kc] at uc
        rw [km, if_pos rfl] at um
        refine Or.inr ⟨3, st, be, tk, wd, wh, nm, c, at_, en, tk2, wm, ns, lt, fr, uc, ?_⟩
        rw [um, hst]; rfl
      · exfalso
        obtain ⟨s, s1, s2, s3⟩ := n2 i i1
        rw [i2, hwd] at s3
        obtain ⟨e1, e2⟩ := rp_pk_inj hdg (n1 s s1).2.2 s3
        have h9 := (n1 s s1).1
        exact hno s s1 s2 (by omega) (fun k hk => (e2 k hk).symm)
    · rcases rp_knm (ns := ns) (fr := fr) (lt := lt) hn0 hn8 with ⟨⟨s, s1, s2, s3, s4⟩, km⟩ | ⟨-, km⟩
      · exfalso
        obtain ⟨i, i1, i2⟩ := n3 s s1 s2
        refine hno i i1 ?_
        rw [i2, hwd, s3]
        exact rp_pk_cg s4
      · rw [kc, if_neg (by omega)] at uc
        rw [km, if_neg (by decide)] at um
        obtain ⟨frL, f1, f2⟩ := rp_nnl (a := a) (e := e) (en := en) (ns := ns) (fa := fa) (pl := pl) (lt := lt) (tm := tm) (fr := fr) hn0 9 0 fr (by omega) (by omega) hn0 (fun i => by rw [if_neg (by omega)])
        rw [f2] at um
        obtain ⟨st1, be1, tk1, wd1, wh1, at1, en1, tk3, wm1, ns1, lt1, a1, a2, a3, a4⟩ := rp_adv hT he be wd wh lt hb0 hb1
        rw [hbe] at a2
        have u1 : ∀ s : Nat, s < 12 → fl_up frL (48 + a) ns (48 + s) = if s = a then ns else fr (48 + s) := by
          intro s hs
          unfold fl_up
          by_cases q : s = a
          · rw [if_pos (by omega), if_pos q]
          · rw [if_neg (by omega), if_neg q, f1, if_neg (by omega)]
        have u2 : ∀ s k : Nat, s < 12 → k < 8 → fl_up frL (48 + a) ns (60 + 8 * s + k) = if s = a ∧ k < ns.toNat then lt k else fr (60 + 8 * s + k) := by
          intro s k hs hk
          unfold fl_up
          rw [if_neg (by omega), f1]
          by_cases q : s = a ∧ k < ns.toNat
          · obtain ⟨q1, q2⟩ := q
            subst q1
            rw [if_pos (by omega), if_pos ⟨rfl, q2⟩]
            exact congrArg lt (by omega)
          · rw [if_neg (by omega), if_neg q]
        have u3 : ∀ s : Nat, s < 12 → s ≠ a → ∀ k : Nat, k < (fr (48 + s)).toNat → fr (60 + 8 * s + k) = fl_up frL (48 + a) ns (60 + 8 * s + k) := by
          intro s hs hne k hk
          have h9 := (n1 s hs).2.1
          rw [u2 s k hs (by omega), if_neg (fun q => hne q.1)]
        have u4 : ∀ k : Nat, k < ns.toNat → lt k = fl_up frL (48 + a) ns (60 + 8 * a + k) := by
          intro k hk
          rw [u2 a k ha (by omega), if_pos ⟨rfl, hk⟩]
        refine Or.inl ⟨fl_up nm c.toNat wd, st1, be1, tk1, wd1, wh1, at1, en1, tk3, wm1, ns1, lt1, fl_up frL (48 + a) ns, ns, ?_, ?_, a3, a4, hlt, ⟨?_, ?_, ?_⟩, ?_, u1, hn0⟩
        · rw [uc]; unfold Gf_X3_takeName_127_1; rw [a1]; rfl
        · rw [um, a2]; rfl
        · intro s hs
          rw [u1 s hs]
          by_cases q : s = a
          · rw [if_pos q]
            refine ⟨hn0, hn8, fun k hk => ?_⟩
            rw [q]
            show 97 ≤ fl_up frL (48 + a) ns (60 + 8 * a + k) ∧ fl_up frL (48 + a) ns (60 + 8 * a + k) ≤ 122
            rw [← u4 k hk]; exact hdg k hk
          · rw [if_neg q]
            refine ⟨(n1 s hs).1, (n1 s hs).2.1, fun k hk => ?_⟩
            show 97 ≤ fl_up frL (48 + a) ns (60 + 8 * s + k) ∧ fl_up frL (48 + a) ns (60 + 8 * s + k) ≤ 122
            rw [← u3 s hs q k hk]; exact (n1 s hs).2.2 k hk
        · intro i hi
          by_cases q : i = c.toNat
          · refine ⟨a, ha, ?_, ?_⟩
            · rw [u1 a ha, if_pos rfl]; omega
            · rw [u1 a ha, if_pos rfl]
              unfold fl_up; rw [if_pos q, hwd]
              exact rp_pk_cg u4
          · obtain ⟨s, s1, s2, s3⟩ := n2 i (by omega)
            have hne : s ≠ a := fun h => by rw [h, hfa] at s2; omega
            refine ⟨s, s1, ?_, ?_⟩
            · rw [u1 s s1, if_neg hne]; exact s2
            · rw [u1 s s1, if_neg hne]
              show (if i = c.toNat then wd else nm i) = _
              rw [if_neg q, s3]
              exact rp_pk_cg (u3 s s1 hne)
        · intro s hs hs2
          by_cases q : s = a
          · refine ⟨c.toNat, by omega, ?_⟩
            rw [u1 s hs, if_pos q]
            show (if c.toNat = c.toNat then wd else nm c.toNat) = _
            rw [if_pos rfl, hwd, q]
            exact rp_pk_cg u4
          · rw [u1 s hs, if_neg q] at hs2
            obtain ⟨i, i1, i2⟩ := n3 s hs hs2
            refine ⟨i, by omega, ?_⟩
            rw [u1 s hs, if_neg q]
            show (if i = c.toNat then wd else nm i) = _
            rw [if_neg (by omega), i2]
            exact rp_pk_cg (u3 s hs q)
        · intro i hi
          show (if i = 48 + a then ns else frL i) = fr i
          rw [if_neg (by omega), f1, if_neg (by omega)]
  · refine Or.inr (bad ?_ ?_)
    · unfold Ff_X3_takeName; rw [if_neg htk]
    · have h7 : tk2 ≠ 2 := by
        obtain ⟨-, -, -, -, -, h6⟩ := hK
        rcases h6 with ⟨x, y⟩ | ⟨x, y⟩ | ⟨x, y, -⟩ | ⟨x, y⟩ | ⟨x, y, -⟩
        · omega
        · omega
        · omega
        · exact absurd x htk
        · omega
      unfold FfG_X8_newName; rw [if_neg h7]
end PUE
end P092245_pure5
section P092246_pure6
section PUF

def rp_fc {A : Type} (t : Int × Int × Int × A) (q p : Int) : Prop := t.1 = 0 ∧ t.2.1 = q ∧ t.2.2.1 = p
def rp_fm {A : Type} (t : Int × Int × Int × Int × Int × Int × Int × Int × A) (q p : Int) : Prop := t.2.2.2.2.2.1 = q ∧ t.2.2.2.2.2.2.1 = p ∧ t.2.2.2.2.2.2.2.1 = 1
theorem rp_up_eq (f : Nat → Int) (i : Nat) (v : Int) : fl_up f i v i = v := if_pos rfl
theorem rp_up_ne (f : Nat → Int) {i k : Nat} (v : Int) (h : k ≠ i) : fl_up f i v k = f k := if_neg h
/-- gallery: readHall and galleryLine -/
theorem rp_hall {tp tm : Nat → Int} {e st be tk wd wh at_ en tk2 wm ns : Int} {lt fr : Nat → Int} (hT : rp_T tp tm e) (he : e ≤ 900) (hK : rp_K e st be tk wd wh at_ en tk2 wm ns lt) (hbe : be = en) (h11 : fr 11 = 0) (fn fp ta fg sp sa sh fa pl : Int) :
    (∃ v1 v2 v3 v4 st1 be1 tk1 wd1 wh1 at1 en1 tk3 wm1 ns1 lt1, Ff_X3_readHall fn fp e be wd wh ta tp fg sp sa sh = (1, fn, fp, st1, be1, tk1, wd1, wh1, v4, v1, v2, v3, v4) ∧ FfG_X8_galleryLine e at_ en tk2 wm ns fa pl fr tm lt = (at1, en1, tk3, wm1, ns1, fa, pl, 0, fl_up (fl_up (fl_up (fl_up (fl_up fr 0 v1) 1 v2) 2 v3) 3 v4) 11 1, lt1) ∧ rp_K e st1 be1 tk1 wd1 wh1 at1 en1 tk3 wm1 ns1 lt1 ∧ be ≤ st1 ∧ 2 ≤ v1 ∧ v1 ≤ 9 ∧ 1 ≤ v2 ∧ v2 ≤ 20 ∧ 0 ≤ v3 ∧ v3 ≤ v1 - 1 ∧ 0 ≤ v4 ∧ v4 ≤ 100) ∨
    (∃ q p, rp_fc (Ff_X3_readHall fn fp e be wd wh ta tp fg sp sa sh) q p ∧ rp_fm (FfG_X8_galleryLine e at_ en tk2 wm ns fa pl fr tm lt) q p) := by
  have hb0 : 0 ≤ be := hK.2.2.2.1
  have hb1 : be ≤ e := hK.2.2.2.2.1
  have h11' : fr 11 ≤ 0 := by omega
  obtain ⟨st1, be1, tk1, wd1, wh1, at1, en1, tk3, wm1, ns1, lt1, a1, a2, a3, a4⟩ := rp_adv hT he be wd wh lt hb0 hb1
  rw [hbe] at a2
  rcases rp_tw hT he a3 (nn := 7) (by decide) (by decide) rp_sw_figures 2 9 fn fp ta fa pl with ⟨v1, st2, be2, tk4, wd2, wh2, at2, en2, tk5, wm2, ns2, lt2, b1, b2, b3, b4, b5, b6, b7, b8, b9⟩ | ⟨q, p, st2, be2, tk4, wd2, wh2, ta2, at2, en2, tk5, wm2, ns2, lt2, b1, b2⟩
  rotate_left
  · refine Or.inr ⟨q, p, ?_, ?_⟩
    · simp only [Ff_X3_readHall, a1, b1, fl_lt, fl_c2, fl_c3, fl_c4, fl_c5, fl_c6, fl_c7, fl_c8, fl_c9, fl_c10, reduceIte, Int.reduceEq]; exact ⟨rfl, rfl, rfl⟩
    · simp only [FfG_X8_galleryLine, if_pos h11', a2, b2, fl_lt, fl_c2, fl_c3, fl_c4, fl_c5, fl_c6, fl_c7, fl_c8, fl_c9, fl_c10, reduceIte, Int.reduceEq]; exact ⟨rfl, rfl, rfl⟩
  rcases rp_tw hT he b3 (nn := 4) (by decide) (by decide) rp_sw_span 1 20 fn fp v1 fa pl with ⟨v2, st3, be3, tk6, wd3, wh3, at3, en3, tk7, wm3, ns3, lt3, c1, c2, c3, c4, c5, c6, c7, c8, c9⟩ | ⟨q, p, st3, be3, tk6, wd3, wh3, ta3, at3, en3, tk7, wm3, ns3, lt3, c1, c2⟩
  rotate_left
  · refine Or.inr ⟨q, p, ?_, ?_⟩
    · simp only [Ff_X3_readHall, a1, b1, c1, fl_lt, fl_c2, fl_c3, fl_c4, fl_c5, fl_c6, fl_c7, fl_c8, fl_c9, fl_c10, reduceIte, Int.reduceEq]; exact ⟨rfl, rfl, rfl⟩
    · simp only [FfG_X8_galleryLine, if_pos h11', a2, b2, c2, fl_lt, fl_c2, fl_c3, fl_c4, fl_c5, fl_c6, fl_c7, fl_c8, fl_c9, fl_c10, reduceIte, Int.reduceEq]; exact ⟨rfl, rfl, rfl⟩
  rcases rp_tw hT he c3 (nn := 6) (by decide) (by decide) rp_sw_stairs 0 (v1 - 1) fn fp v2 fa pl with ⟨v3, st4, be4, tk8, wd4, wh4, at4, en4, tk9, wm4, ns4, lt4, d1, d2, d3, d4, d5, d6, d7, d8, d9⟩ | ⟨q, p, st4, be4, tk8, wd4, wh4, ta4, at4, en4, tk9, wm4, ns4, lt4, d1, d2⟩
  rotate_left
  · refine Or.inr ⟨q, p, ?_, ?_⟩
    · simp only [Ff_X3_readHall, a1, b1, c1, d1, fl_lt, fl_c2, fl_c3, fl_c4, fl_c5, fl_c6, fl_c7, fl_c8, fl_c9, fl_c10, reduceIte, Int.reduceEq]; exact ⟨rfl, rfl, rfl⟩
    · simp only [FfG_X8_galleryLine, if_pos h11', a2, b2, c2, d2, fl_lt, fl_c2, fl_c3, fl_c4, fl_c5, fl_c6, fl_c7, fl_c8, fl_c9, fl_c10, reduceIte, Int.reduceEq]; exact ⟨rfl, rfl, rfl⟩
  rcases rp_tw hT he d3 (nn := 4) (by decide) (by decide) rp_sw_shut 0 100 fn fp v3 fa pl with ⟨v4, st5, be5, tk10, wd5, wh5, at5, en5, tk11, wm5, ns5, lt5, f1, f2, f3, f4, f5, f6, f7, f8, f9⟩ | ⟨q, p, st5, be5, tk10, wd5, wh5, ta5, at5, en5, tk11, wm5, ns5, lt5, f1, f2⟩
  rotate_left
  · refine Or.inr ⟨q, p, ?_, ?_⟩
    · simp only [Ff_X3_readHall, a1, b1, c1, d1, f1, fl_lt, fl_c2, fl_c3, fl_c4, fl_c5, fl_c6, fl_c7, fl_c8, fl_c9, fl_c10, reduceIte, Int.reduceEq]; exact ⟨rfl, rfl, rfl⟩
    · simp only [FfG_X8_galleryLine, if_pos h11', a2, b2, c2, d2, f2, fl_lt, fl_c2, fl_c3, fl_c4, fl_c5, fl_c6, fl_c7, fl_c8, fl_c9, fl_c10, reduceIte, Int.reduceEq]; exact ⟨rfl, rfl, rfl⟩
  refine Or.inl ⟨v1, v2, v3, v4, st5, be5, tk10, wd5, wh5, at5, en5, tk11, wm5, ns5, lt5, ?_, ?_, f3, by omega, b6, b7, c6, c7, d6, d7, f6, f7⟩
  · simp only [Ff_X3_readHall, a1, b1, c1, d1, f1, fl_lt, fl_c2, fl_c3, fl_c4, fl_c5, fl_c6, fl_c7, fl_c8, fl_c9, fl_c10, reduceIte, Int.reduceEq]
  · simp only [FfG_X8_galleryLine, if_pos h11', a2, b2, c2, d2, f2, fl_lt, fl_c2, fl_c3, fl_c4, fl_c5, fl_c6, fl_c7, fl_c8, fl_c9, fl_c10, reduceIte, Int.reduceEq]
/-- law: readLaw and lawLine -/
theorem rp_law {tp tm : Nat → Int} {e st be tk wd wh at_ en tk2 wm ns : Int} {lt fr : Nat → Int} (hT : rp_T tp tm e) (he : e ≤ 900) (hK : rp_K e st be tk wd wh at_ en tk2 wm ns lt) (hbe : be = en) (h10 : fr 10 = 0) (h11 : fr 11 = 1) (fn fp ta fg lw ti pu fi fa pl : Int) (hfg : fg = fr 0) :
    (∃ v1 v2 v3 st1 be1 tk1 wd1 wh1 at1 en1 tk3 wm1 ns1 lt1, Ff_X3_readLaw fn fp e be wd wh ta tp fg lw ti pu fi = (1, fn, fp, st1, be1, tk1, wd1, wh1, v3, 1, v1, v2, v3) ∧ FfG_X8_lawLine e at_ en tk2 wm ns fa pl fr tm lt = (at1, en1, tk3, wm1, ns1, fa, pl, 0, fl_up (fl_up (fl_up (fl_up fr 7 v1) 8 v2) 9 v3) 10 1, lt1) ∧ rp_K e st1 be1 tk1 wd1 wh1 at1 en1 tk3 wm1 ns1 lt1 ∧ be ≤ st1 ∧ 0 ≤ v1 ∧ v1 ≤ fg - 1 ∧ 0 ≤ v2 ∧ v2 ≤ fg - 1 ∧ 0 ≤ v3 ∧ v3 ≤ fg - 1) ∨
    (∃ q p, rp_fc (Ff_X3_readLaw fn fp e be wd wh ta tp fg lw ti pu fi) q p ∧ rp_fm (FfG_X8_lawLine e at_ en tk2 wm ns fa pl fr tm lt) q p) := by
  have hb0 : 0 ≤ be := hK.2.2.2.1
  have hb1 : be ≤ e := hK.2.2.2.2.1
  have h10' : fr 10 ≤ 0 := by omega
  have h11' : ¬ fr 11 = 0 := by omega
  have la : Ff_X8_last fr = fg - 1 := by rw [hfg]; rfl
  have lb : ∀ v, Ff_X8_last (fl_up fr 7 v) = fg - 1 := fun v => by rw [hfg]; rfl
  have lc : ∀ v w, Ff_X8_last (fl_up (fl_up fr 7 v) 8 w) = fg - 1 := fun v w => by rw [hfg]; rfl
  obtain ⟨st1, be1, tk1, wd1, wh1, at1, en1, tk3, wm1, ns1, lt1, a1, a2, a3, a4⟩ := rp_adv hT he be wd wh lt hb0 hb1
  rw [hbe] at a2
  rcases rp_tw hT he a3 (nn := 5) (by decide) (by decide) rp_sw_times 0 (fg - 1) fn fp ta fa pl with ⟨v1, st2, be2, tk4, wd2, wh2, at2, en2, tk5, wm2, ns2, lt2, b1, b2, b3, b4, b5, b6, b7, b8, b9⟩ | ⟨q, p, st2, be2, tk4, wd2, wh2, ta2, at2, en2, tk5, wm2, ns2, lt2, b1, b2⟩
  rotate_left
  · refine Or.inr ⟨q, p, ?_, ?_⟩
    · simp only [Ff_X3_readLaw, a1, b1, fl_lt, fl_c2, fl_c3, fl_c4, fl_c5, fl_c6, fl_c7, fl_c8, fl_c9, fl_c10, reduceIte, Int.reduceEq]; exact ⟨rfl, rfl, rfl⟩
    · simp only [FfG_X8_lawLine, if_pos h10', if_neg h11', a2, la, b2, fl_lt, fl_c2, fl_c3, fl_c4, fl_c5, fl_c6, fl_c7, fl_c8, fl_c9, fl_c10, reduceIte, Int.reduceEq]; exact ⟨rfl, rfl, rfl⟩
  rcases rp_tw hT he b3 (nn := 4) (by decide) (by decide) rp_sw_plus 0 (fg - 1) fn fp v1 fa pl with ⟨v2, st3, be3, tk6, wd3, wh3, at3, en3, tk7, wm3, ns3, lt3, c1, c2, c3, c4, c5, c6, c7, c8, c9⟩ | ⟨q, p, st3, be3, tk6, wd3, wh3, ta3, at3, en3, tk7, wm3, ns3, lt3, c1, c2⟩
  rotate_left
  · refine Or.inr ⟨q, p, ?_, ?_⟩
    · simp only [Ff_X3_readLaw, a1, b1, c1, fl_lt, fl_c2, fl_c3, fl_c4, fl_c5, fl_c6, fl_c7, fl_c8, fl_c9, fl_c10, reduceIte, Int.reduceEq]; exact ⟨rfl, rfl, rfl⟩
    · simp only [FfG_X8_lawLine, if_pos h10', if_neg h11', a2, la, b2, lb, c2, fl_lt, fl_c2, fl_c3, fl_c4, fl_c5, fl_c6, fl_c7, fl_c8, fl_c9, fl_c10, reduceIte, Int.reduceEq]; exact ⟨rfl, rfl, rfl⟩
  rcases rp_tw hT he c3 (nn := 5) (by decide) (by decide) rp_sw_first 0 (fg - 1) fn fp v2 fa pl with ⟨v3, st4, be4, tk8, wd4, wh4, at4, en4, tk9, wm4, ns4, lt4, d1, d2, d3, d4, d5, d6, d7, d8, d9⟩ | ⟨q, p, st4, be4, tk8, wd4, wh4, ta4, at4, en4, tk9, wm4, ns4, lt4, d1, d2⟩
  rotate_left
  · refine Or.inr ⟨q, p, ?_, ?_⟩
    · simp only [Ff_X3_readLaw, a1, b1, c1, d1, fl_lt, fl_c2, fl_c3, fl_c4, fl_c5, fl_c6, fl_c7, fl_c8, fl_c9, fl_c10, reduceIte, Int.reduceEq]; exact ⟨rfl, rfl, rfl⟩
    · simp only [FfG_X8_lawLine, if_pos h10', if_neg h11', a2, la, b2, lb, c2, lc, d2, fl_lt, fl_c2, fl_c3, fl_c4, fl_c5, fl_c6, fl_c7, fl_c8, fl_c9, fl_c10, reduceIte, Int.reduceEq]; exact ⟨rfl, rfl, rfl⟩
  refine Or.inl ⟨v1, v2, v3, st4, be4, tk8, wd4, wh4, at4, en4, tk9, wm4, ns4, lt4, ?_, ?_, d3, by omega, b6, b7, c6, c7, d6, d7⟩
  · simp only [Ff_X3_readLaw, a1, b1, c1, d1, fl_lt, fl_c2, fl_c3, fl_c4, fl_c5, fl_c6, fl_c7, fl_c8, fl_c9, fl_c10, reduceIte, Int.reduceEq]
  · simp only [FfG_X8_lawLine, if_pos h10', if_neg h11', a2, la, b2, lb, c2, lc, d2, fl_lt, fl_c2, fl_c3, fl_c4, fl_c5, fl_c6, fl_c7, fl_c8, fl_c9, fl_c10, reduceIte, Int.reduceEq]
end PUF
end P092246_pure6
section P092247_pure7
section PUG

def rp_Df (tb : Int) (kd me fr : Nat → Int) : Prop := 0 ≤ tb ∧ tb ≤ 511 ∧ (∀ f : Nat, f < 9 → kd f = fr (12 + 2 * f) ∧ me f = fr (13 + 2 * f) ∧ 0 ≤ fr (12 + 2 * f) ∧ (Ff_X7_hasBit tb (f : Int) = 1 ↔ 0 < fr (12 + 2 * f))) ∧ Ff_J6_bitCount_0f7a4 tb = fr 4 ∧ 0 ≤ fr 4 ∧ fr 4 ≤ 9
def rp_Dw (wc : Int) (wf wt fr : Nat → Int) : Prop := wc = fr 5 ∧ 0 ≤ wc ∧ wc ≤ 3 ∧ ∀ w : Nat, (w : Int) < wc → wf w = fr (30 + 2 * w) ∧ wt w = fr (31 + 2 * w)
def rp_Ds (sc : Int) (sf sm fr : Nat → Int) : Prop := sc = fr 6 ∧ 0 ≤ sc ∧ sc ≤ 6 ∧ ∀ i : Nat, (i : Int) < sc → sf i = fr (36 + 2 * i) ∧ sm i = fr (37 + 2 * i)
def rp_Dn (c : Int) (nm fr : Nat → Int) : Prop := c = fr 4 + fr 5 ∧ rp_N nm c fr ∧ ∀ s : Nat, s < 12 → 0 < fr (48 + s) → (s : Int) < fr 4 ∨ (9 ≤ s ∧ (s : Int) < 9 + fr 5)
def rp_Dh (fg sp sa sh lw ti pu fi : Int) (fr : Nat → Int) : Prop :=
  (fg = fr 0 ∧ (fr 11 = 0 ∨ fr 11 = 1) ∧ (fr 11 = 0 → fr 0 = 0 ∧ fr 10 = 0 ∧ fr 4 = 0 ∧ fr 5 = 0 ∧ fr 6 = 0) ∧ (fr 11 = 1 → 2 ≤ fr 0 ∧ fr 0 ≤ 9 ∧ sp = fr 1 ∧ sa = fr 2 ∧ sh = fr 3)) ∧
  lw = fr 10 ∧ (lw = 0 ∨ lw = 1) ∧ (lw = 1 → ti = fr 7 ∧ pu = fr 8 ∧ fi = fr 9)
/-- what is told so far, here and there -/
def rp_D (fg sp sa sh lw ti pu fi tb sc wc c : Int) (kd me sf sm wf wt nm fr : Nat → Int) : Prop :=
  rp_Dh fg sp sa sh lw ti pu fi fr ∧ rp_Df tb kd me fr ∧ rp_Dw wc wf wt fr ∧ rp_Ds sc sf sm fr ∧ rp_Dn c nm fr
theorem rp_Df_cg {tb : Int} {kd me fr fr' : Nat → Int} (h : rp_Df tb kd me fr) (q : ∀ i : Nat, (12 ≤ i ∧ i < 30) ∨ i = 4 → fr' i = fr i) : rp_Df tb kd me fr' := by
  obtain ⟨a, b, c, d, e, f⟩ := h
  have q4 := q 4 (Or.inr rfl)
  refine ⟨a, b, fun k hk => ?_, by rw [q4]; exact d, by omega, by omega⟩
  rw [q (12 + 2 * k) (Or.inl (by omega)), q (13 + 2 * k) (Or.inl (by omega))]
  exact c k hk
theorem rp_Dw_cg {wc : Int} {wf wt fr fr' : Nat → Int} (h : rp_Dw wc wf wt fr) (q : ∀ i : Nat, (30 ≤ i ∧ i < 36) ∨ i = 5 → fr' i = fr i) : rp_Dw wc wf wt fr' := by
  obtain ⟨a, b, c, d⟩ := h
  have q5 := q 5 (Or.inr rfl)
  refine ⟨by omega, b, c, fun k hk => ?_⟩
  rw [q (30 + 2 * k) (Or.inl (by omega)), q (31 + 2 * k) (Or.inl (by omega))]
  exact d k hk
theorem rp_Ds_cg {sc : Int} {sf sm fr fr' : Nat → Int} (h : rp_Ds sc sf sm fr) (q : ∀ i : Nat, (36 ≤ i ∧ i < 48) ∨ i = 6 → fr' i = fr i) : rp_Ds sc sf sm fr' := by
  obtain ⟨a, b, c, d⟩ := h
  have q6 := q 6 (Or.inr rfl)
  refine ⟨by omega, b, c, fun k hk => ?_⟩
  rw [q (36 + 2 * k) (Or.inl (by omega)), q (37 + 2 * k) (Or.inl (by omega))]
  exact d k hk
theorem rp_N_cg {nm : Nat → Int} {c : Int} {fr fr' : Nat → Int} (h : rp_N nm c fr) (q : ∀ i : Nat, 48 ≤ i ∧ i < 156 → fr' i = fr i) : rp_N nm c fr' := by
  obtain ⟨a, b, d⟩ := h
  have z : ∀ s : Nat, s < 12 → fr' (48 + s) = fr (48 + s) := fun s hs => q _ (by omega)
  have y : ∀ s : Nat, s < 12 → ∀ k : Nat, k < (fr (48 + s)).toNat → fr (60 + 8 * s + k) = fr' (60 + 8 * s + k) := fun s hs k hk => by
    have h1 := (a s hs).2.1
    exact (q _ (by omega)).symm
  refine ⟨fun s hs => ?_, fun i hi => ?_, fun s hs h0 => ?_⟩
  · rw [z s hs]
    refine ⟨(a s hs).1, (a s hs).2.1, fun k hk => ?_⟩
    show 97 ≤ fr' (60 + 8 * s + k) ∧ fr' (60 + 8 * s + k) ≤ 122
    rw [← y s hs k hk]; exact (a s hs).2.2 k hk
  · obtain ⟨s, s1, s2, s3⟩ := b i hi
    refine ⟨s, s1, by rw [z s s1]; exact s2, ?_⟩
    rw [z s s1, s3]; exact rp_pk_cg (y s s1)
  · rw [z s hs] at h0
    obtain ⟨i, i1, i2⟩ := d s hs h0
    refine ⟨i, i1, ?_⟩
    rw [z s hs, i2]; exact rp_pk_cg (y s hs)
theorem rp_Dn_cg {c : Int} {nm fr fr' : Nat → Int} (h : rp_Dn c nm fr) (q : ∀ i : Nat, (48 ≤ i ∧ i < 156) ∨ i = 4 ∨ i = 5 → fr' i = fr i) : rp_Dn c nm fr' := by
  obtain ⟨a, b, d⟩ := h
  have q4 := q 4 (Or.inr (Or.inl rfl))
  have q5 := q 5 (Or.inr (Or.inr rfl))
  refine ⟨by omega, rp_N_cg b (fun i hi => q i (Or.inl hi)), fun s hs h0 => ?_⟩
  rw [q (48 + s) (Or.inl (by omega))] at h0
  rw [q4, q5]; exact d s hs h0
/-- watcher: readWatcher and watcherLine -/
theorem rp_watch {tp tm : Nat → Int} {e be wd wh : Int} (hT : rp_T tp tm e) (he : e ≤ 900) {st1 be1 tk1 wd1 wh1 at1 en1 tk3 wm1 ns1 : Int} {lt1 : Nat → Int} (a1 : Ff_X3_advance e be wd wh tp = (st1, be1, tk1, wd1, wh1)) (a3 : rp_K e st1 be1 tk1 wd1 wh1 at1 en1 tk3 wm1 ns1 lt1)
    {fg sp sa sh lw ti pu fi tb sc wc c : Int} {kd me sf sm wf wt nm fr : Nat → Int} (hD : rp_D fg sp sa sh lw ti pu fi tb sc wc c kd me sf sm wf wt nm fr) (hw : wc < 3) (hT11 : ¬ fr 11 = 0) (fn fp ta fa pl : Int) :
    (∃ c' ta' wc' wf' wt' nm' fr' st2 be2 tk4 wd2 wh2 at2 en2 tk5 wm2 ns2 lt2, Ff_X3_readWatcher fn fp c e be wd wh ta tp nm fg wc wf wt = (1, fn, fp, c', st2, be2, tk4, wd2, wh2, ta', nm', wc', wf', wt') ∧ FfG_X8_watcherLine e at1 en1 tk3 wm1 ns1 fa pl fr lt1 tm = (at2, en2, tk5, wm2, ns2, fa, pl, 0, fr', lt2) ∧ rp_K e st2 be2 tk4 wd2 wh2 at2 en2 tk5 wm2 ns2 lt2 ∧ st1 < st2 ∧ rp_D fg sp sa sh lw ti pu fi tb sc wc' c' kd me sf sm wf' wt' nm' fr') ∨
    (∃ q p, rp_fc (Ff_X3_readWatcher fn fp c e be wd wh ta tp nm fg wc wf wt) q p ∧ rp_fm (FfG_X8_watcherLine e at1 en1 tk3 wm1 ns1 fa pl fr lt1 tm) q p) := by
  obtain ⟨hh, hf, ⟨w1, w2, w3, w4⟩, hs, n1, n2, n3⟩ := hD
  have hf' := hf
  obtain ⟨-, -, -, -, f4, f9⟩ := hf'
  have ea : (9 + fr 5) = ((9 + wc.toNat : Nat) : Int) := by omega
  have hslot : fr (48 + (9 + wc.toNat)) = 0 := by
    have h1 := (n2.1 (9 + wc.toNat) (by omega)).1
    by_cases h0 : 0 < fr (48 + (9 + wc.toNat))
    · have := n3 _ (by omega) h0; omega
    · omega
  rcases rp_nn hT he a3 n2 (a := 9 + wc.toNat) (by omega) hslot (by omega) (by omega) fn fp fa pl with ⟨nm1, st2, be2, tk4, wd2, wh2, at2, en2, tk5, wm2, ns2, lt2, fr1, z, b1, b2, b3, b4, b5, b6, b7, b8, b9⟩ | ⟨q, st2, be2, tk4, wd2, wh2, nm1, c1, at2, en2, tk5, wm2, ns2, lt2, fr1, b1, b2⟩
  rotate_left
  · rw [← ea] at b2
    refine Or.inr ⟨q, st1, ?_, ?_⟩
    · simp only [Ff_X3_readWatcher, a1, b1, fl_lt, fl_c2, fl_c3, fl_c4, fl_c5, fl_c6, fl_c7, fl_c8, fl_c9, fl_c10, reduceIte, Int.reduceEq]; exact ⟨rfl, rfl, rfl⟩
    · simp only [FfG_X8_watcherLine, b2, fl_lt, fl_c2, fl_c3, fl_c4, fl_c5, fl_c6, fl_c7, fl_c8, fl_c9, fl_c10, reduceIte, Int.reduceEq]; exact ⟨rfl, rfl, rfl⟩
  rw [← ea] at b2
  have hfg : fg = fr 0 := hh.1.1
  have la : Ff_X8_last fr1 = fg - 1 := by rw [hfg, ← b7 0 (by omega)]; rfl
  rcases rp_tw hT he b3 (nn := 4) (by decide) (by decide) rp_sw_from 0 (fg - 1) fn fp ta fa pl with ⟨v1, st3, be3, tk6, wd3, wh3, at3, en3, tk7, wm3, ns3, lt3, c1, c2, c3, c4, c5, c6, c7, c8, c9⟩ | ⟨q, p, st3, be3, tk6, wd3, wh3, ta3, at3, en3, tk7, wm3, ns3, lt3, c1, c2⟩
  rotate_left
  · refine Or.inr ⟨q, p, ?_, ?_⟩
    · simp only [Ff_X3_readWatcher, a1, b1, c1, fl_lt, fl_c2, fl_c3, fl_c4, fl_c5, fl_c6, fl_c7, fl_c8, fl_c9, fl_c10, reduceIte, Int.reduceEq]; exact ⟨rfl, rfl, rfl⟩
    · simp only [FfG_X8_watcherLine, b2, la, c2, fl_lt, fl_c2, fl_c3, fl_c4, fl_c5, fl_c6, fl_c7, fl_c8, fl_c9, fl_c10, reduceIte, Int.reduceEq]; exact ⟨rfl, rfl, rfl⟩
  have ix : (30 + 2 * fr 5).toNat = 30 + 2 * wc.toNat := by omega
  have ix2 : (30 + 2 * fr 5 + 1).toNat = 31 + 2 * wc.toNat := by omega
  have lb : Ff_X8_last (fl_up fr1 (30 + 2 * wc.toNat) v1) = fg - 1 := by
    rw [← la]; unfold Ff_X8_last; rw [rp_up_ne _ _ (by omega)]
  rcases rp_tw hT he c3 (nn := 2) (by decide) (by decide) rp_sw_to 0 (fg - 1) fn fp v1 fa pl with ⟨v2, st4, be4, tk8, wd4, wh4, at4, en4, tk9, wm4, ns4, lt4, d1, d2, d3, d4, d5, d6, d7, d8, d9⟩ | ⟨q, p, st4, be4, tk8, wd4, wh4, ta4, at4, en4, tk9, wm4, ns4, lt4, d1, d2⟩
  rotate_left
  · refine Or.inr ⟨q, p, ?_, ?_⟩
    · simp only [Ff_X3_readWatcher, a1, b1, c1, d1, fl_lt, fl_c2, fl_c3, fl_c4, fl_c5, fl_c6, fl_c7, fl_c8, fl_c9, fl_c10, reduceIte, Int.reduceEq]; exact ⟨rfl, rfl, rfl⟩
    · simp only [FfG_X8_watcherLine, b2, la, c2, ix, lb, d2, fl_lt, fl_c2, fl_c3, fl_c4, fl_c5, fl_c6, fl_c7, fl_c8, fl_c9, fl_c10, reduceIte, Int.reduceEq]; exact ⟨rfl, rfl, rfl⟩
  have hadd : Ff_X6_add v1 v2 wc wf wt = (wc + 1, fl_up wf wc.toNat v1, fl_up wt wc.toNat v2) := by
    unfold Ff_X6_add; rw [if_neg (by omega)]; rfl
  have x5 : (fl_up (fl_up fr1 (30 + 2 * wc.toNat) v1) (31 + 2 * wc.toNat) v2) 5 = fr 5 := by
    rw [rp_up_ne _ _ (by omega), rp_up_ne _ _ (by omega), b7 5 (by omega)]
  refine Or.inl ⟨c + 1, v2, wc + 1, fl_up wf wc.toNat v1, fl_up wt wc.toNat v2, nm1, fl_up (fl_up (fl_up fr1 (30 + 2 * wc.toNat) v1) (31 + 2 * wc.toNat) v2) 5 (fr 5 + 1), st4, be4, tk8, wd4, wh4, at4, en4, tk9, wm4, ns4, lt4, ?_, ?_, d3, by omega, ?_⟩
  · simp only [Ff_X3_readWatcher, a1, b1, c1, d1, hadd, fl_lt, fl_c2, fl_c3, fl_c4, fl_c5, fl_c6, fl_c7, fl_c8, fl_c9, fl_c10, reduceIte, Int.reduceEq]
  · simp only [FfG_X8_watcherLine, b2, la, c2, ix, ix2, lb, d2, x5, fl_lt, fl_c2, fl_c3, fl_c4, fl_c5, fl_c6, fl_c7, fl_c8, fl_c9, fl_c10, reduceIte, Int.reduceEq]
  · have g : ∀ i : Nat, i ≠ 5 → i ≠ 30 + 2 * wc.toNat → i ≠ 31 + 2 * wc.toNat → (fl_up (fl_up (fl_up fr1 (30 + 2 * wc.toNat) v1) (31 + 2 * wc.toNat) v2) 5 (fr 5 + 1)) i = fr1 i := fun i i1 i2 i3 => by
      rw [rp_up_ne _ _ i1, rp_up_ne _ _ i3, rp_up_ne _ _ i2]
    have g0 : ∀ i : Nat, i < 48 → i ≠ 5 → i ≠ 30 + 2 * wc.toNat → i ≠ 31 + 2 * wc.toNat → (fl_up (fl_up (fl_up fr1 (30 + 2 * wc.toNat) v1) (31 + 2 * wc.toNat) v2) 5 (fr 5 + 1)) i = fr i := fun i i0 i1 i2 i3 => by rw [g i i1 i2 i3, b7 i i0]
    refine ⟨?_, rp_Df_cg hf (fun i hi => g0 i (by omega) (by omega) (by omega) (by omega)), ⟨?_, by omega, by omega, ?_⟩, rp_Ds_cg hs (fun i hi => g0 i (by omega) (by omega) (by omega) (by omega)), ?_, ?_, ?_⟩
    · obtain ⟨⟨k1, k2, k3, k4⟩, k5, k6, k7⟩ := hh
      unfold rp_Dh
      rw [g0 0 (by omega) (by omega) (by omega) (by omega), g0 1 (by omega) (by omega) (by omega) (by omega), g0 2 (by omega) (by omega) (by omega) (by omega), g0 3 (by omega) (by omega) (by omega) (by omega), g0 4 (by omega) (by omega) (by omega) (by omega), g0 6 (by omega) (by omega) (by omega) (by omega), g0 7 (by omega) (by omega) (by omega) (by omega), g0 8 (by omega) (by omega) (by omega) (by omega), g0 9 (by omega) (by omega) (by omega) (by omega), g0 10 (by omega) (by omega) (by omega) (by omega), g0 11 (by omega) (by omega) (by omega) (by omega), rp_up_eq]
      refine ⟨⟨k1, k2, fun h => ?_, k4⟩, k5, k6, k7⟩
      exact absurd h hT11
    · rw [rp_up_eq]; omega
    · intro w hw2
      by_cases q : w = wc.toNat
      · subst q
        rw [rp_up_eq, rp_up_eq]
        constructor
        · rw [rp_up_ne _ _ (by omega), rp_up_ne _ _ (by omega), rp_up_eq]
        · rw [rp_up_ne _ _ (by omega), rp_up_eq]
      · rw [rp_up_ne _ _ q, rp_up_ne _ _ q, g0 _ (by omega) (by omega) (by omega) (by omega), g0 _ (by omega) (by omega) (by omega) (by omega)]
        exact w4 w (by omega)
    · rw [g0 4 (by omega) (by omega) (by omega) (by omega), rp_up_eq]; omega
    · exact rp_N_cg b6 (fun i hi => g i (by omega) (by omega) (by omega))
    · intro s hs2 h0
      rw [g (48 + s) (by omega) (by omega) (by omega), b8 s hs2] at h0
      rw [g0 4 (by omega) (by omega) (by omega) (by omega), rp_up_eq]
      by_cases q : s = 9 + wc.toNat
      · right; omega
      · rw [if_neg q] at h0
        have := n3 s hs2 h0; omega
end PUG
end P092247_pure7
section P0922470_pure70
section PUH0
def rp_pc (n : Nat) : Nat := (n >>> 0) % 2 + (n >>> 1) % 2 + (n >>> 2) % 2 + (n >>> 3) % 2 + (n >>> 4) % 2 + (n >>> 5) % 2 + (n >>> 6) % 2 + (n >>> 7) % 2 + (n >>> 8) % 2
set_option maxRecDepth 20000 in
theorem rp_z1 : ∀ n : Fin 512, ∀ g : Fin 9, Ff_X7_hasBit (n.val : Int) (g.val : Int) = if (n.val >>> g.val) % 2 = 1 then 1 else 0 := by decide +kernel
set_option maxRecDepth 20000 in
theorem rp_z2 : ∀ tb : Fin 512, ∀ f : Fin 9, fl_or (tb.val : Int) (fl_shl 1 (f.val : Int)) = ((tb.val ||| (1 <<< f.val) : Nat) : Int) := by decide +kernel
theorem rp_tb (x g : Nat) : ((x >>> g) % 2 = 1) ↔ x.testBit g = true := by
  rw [Nat.testBit_eq_decide_div_mod_eq, Nat.shiftRight_eq_div_pow, decide_eq_true_iff]
theorem rp_ob (x f g : Nat) : (((x ||| (1 <<< f)) >>> g) % 2 = 1) ↔ ((x >>> g) % 2 = 1 ∨ g = f) := by
  rw [rp_tb, rp_tb, Nat.testBit_or, Nat.one_shiftLeft, Nat.testBit_two_pow, Bool.or_eq_true, decide_eq_true_iff]
  exact ⟨fun h => h.elim Or.inl (fun h => Or.inr h.symm), fun h => h.elim Or.inl (fun h => Or.inr h.symm)⟩
set_option maxRecDepth 20000 in
theorem rp_z3 : ∀ tb : Fin 512, ∀ f : Fin 9, (tb.val ||| (1 <<< f.val)) < 512 ∧ ((tb.val >>> f.val) % 2 = 1 ∨ rp_pc (tb.val ||| (1 <<< f.val)) = rp_pc tb.val + 1) := by decide +kernel
set_option maxRecDepth 20000 in
theorem rp_z4 : ∀ n : Fin 512, Ff_J6_bitCount_0f7a4 (n.val : Int) = ((rp_pc n.val : Nat) : Int) := by decide +kernel
theorem rp_zi {p : Prop} [Decidable p] : ((if p then (1 : Int) else 0) = 1) ↔ p := by
  by_cases h : p
  · rw [if_pos h]; exact ⟨fun _ => h, fun _ => rfl⟩
  · rw [if_neg h]; exact ⟨fun q => absurd q (by decide), fun q => absurd q h⟩
theorem rp_bits : ∀ tb : Fin 512, ∀ f : Fin 9, (0 ≤ fl_or (tb.val : Int) (fl_shl 1 (f.val : Int)) ∧ fl_or (tb.val : Int) (fl_shl 1 (f.val : Int)) ≤ 511) ∧ (Ff_X7_hasBit (tb.val : Int) (f.val : Int) = 1 ∨ Ff_J6_bitCount_0f7a4 (fl_or (tb.val : Int) (fl_shl 1 (f.val : Int))) = Ff_J6_bitCount_0f7a4 (tb.val : Int) + 1) ∧ ∀ g : Fin 9, (Ff_X7_hasBit (fl_or (tb.val : Int) (fl_shl 1 (f.val : Int))) (g.val : Int) = 1 ↔ (Ff_X7_hasBit (tb.val : Int) (g.val : Int) = 1 ∨ g.val = f.val)) := by
  intro tb f
  obtain ⟨h1, h2⟩ := rp_z3 tb f
  have e1 := rp_z1 ⟨tb.val ||| (1 <<< f.val), h1⟩
  have e4 := rp_z4 ⟨tb.val ||| (1 <<< f.val), h1⟩
  have h5 : ∀ q : Nat, q < 512 → (0 : Int) ≤ (q : Int) ∧ (q : Int) ≤ 511 := fun q h => by omega
  rw [rp_z2 tb f]
  refine ⟨h5 _ h1, ?_, fun g => ?_⟩
  · rw [rp_z1 tb f, rp_zi]
    rcases h2 with h2 | h2
    · exact Or.inl h2
    · right
      have e5 : Ff_J6_bitCount_0f7a4 ((tb.val ||| (1 <<< f.val) : Nat) : Int) = ((rp_pc (tb.val ||| (1 <<< f.val)) : Nat) : Int) := e4
      rw [e5, rp_z4 tb, h2]
      rfl
  · have e5 : Ff_X7_hasBit ((tb.val ||| (1 <<< f.val) : Nat) : Int) (g.val : Int) = if ((tb.val ||| (1 <<< f.val)) >>> g.val) % 2 = 1 then 1 else 0 := e1 g
    rw [e5, rp_z1 tb g, rp_zi, rp_zi]
    exact rp_ob tb.val f.val g.val
end PUH0
end P0922470_pure70
