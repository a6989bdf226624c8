section P03_decode_11
theorem dX8_odds_65 : decode cX8_odds 65 = .ok (.lstore 6, 2) := zy_u1 (b1 := 6) zK_55 (by decide +kernel)
theorem dX8_odds_67 : decode cX8_odds 67 = .ok (.lload 8, 2) := zy_u1 (b1 := 8) zK_22 (by decide +kernel)
theorem dX8_odds_69 : decode cX8_odds 69 = .ok (.aload_n 0, 1) := zy_0 zK_42 (by decide +kernel)
theorem dX8_odds_70 : decode cX8_odds 70 = .ok (.getfield 20, 3) := zy_u2 (b1 := 0) (b2 := 20) zK_180 (by decide +kernel)
theorem dX8_odds_73 : decode cX8_odds 73 = .ok (.iconst 3, 1) := zy_0 zK_6 (by decide +kernel)
theorem dX8_odds_74 : decode cX8_odds 74 = .ok (.iaload, 1) := zy_0 zK_46 (by decide +kernel)
theorem dX8_odds_75 : decode cX8_odds 75 = .ok (.i2l, 1) := zy_0 zK_133 (by decide +kernel)
theorem dX8_odds_76 : decode cX8_odds 76 = .ok (.lmul, 1) := zy_0 zK_105 (by decide +kernel)
theorem dX8_odds_77 : decode cX8_odds 77 = .ok (.lstore 8, 2) := zy_u1 (b1 := 8) zK_55 (by decide +kernel)
theorem dX8_odds_79 : decode cX8_odds 79 = .ok (.iinc 10 1, 3) := zy_ii (b1 := 10) (b2 := 1) zK_132 (by decide +kernel) (by decide +kernel)
theorem dX8_odds_82 : decode cX8_odds 82 = .ok (.goto (-30), 3) := zy_s2 (b1 := 255) (b2 := 226) zK_167 (by decide +kernel) (by decide +kernel)
theorem dX8_odds_85 : decode cX8_odds 85 = .ok (.lload 6, 2) := zy_u1 (b1 := 6) zK_22 (by decide +kernel)
theorem dX8_odds_87 : decode cX8_odds 87 = .ok (.lload 8, 2) := zy_u1 (b1 := 8) zK_22 (by decide +kernel)
theorem dX8_odds_89 : decode cX8_odds 89 = .ok (.lsub, 1) := zy_0 zK_101 (by decide +kernel)
theorem dX8_odds_90 : decode cX8_odds 90 = .ok (.lload 6, 2) := zy_u1 (b1 := 6) zK_22 (by decide +kernel)
theorem dX8_odds_92 : decode cX8_odds 92 = .ok (.iload_n 3, 1) := zy_0 zK_29 (by decide +kernel)
theorem dX8_odds_93 : decode cX8_odds 93 = .ok (.invokestatic 370, 3) := zy_u2 (b1 := 1) (b2 := 114) zK_184 (by decide +kernel)
theorem dX8_odds_96 : decode cX8_odds 96 = .ok (.lreturn, 1) := zy_0 zK_173 (by decide +kernel)
theorem dX8_mean_0 : decode cX8_mean 0 = .ok (.aload_n 0, 1) := zy_0 zK_42 (by decide +kernel)
theorem dX8_mean_1 : decode cX8_mean 1 = .ok (.invokevirtual 160, 3) := zy_u2 (b1 := 0) (b2 := 160) zK_182 (by decide +kernel)
theorem dX8_mean_4 : decode cX8_mean 4 = .ok (.aload_n 0, 1) := zy_0 zK_42 (by decide +kernel)
theorem dX8_mean_5 : decode cX8_mean 5 = .ok (.aload_n 0, 1) := zy_0 zK_42 (by decide +kernel)
theorem dX8_mean_6 : decode cX8_mean 6 = .ok (.iload_n 1, 1) := zy_0 zK_27 (by decide +kernel)
theorem dX8_mean_7 : decode cX8_mean 7 = .ok (.invokevirtual 277, 3) := zy_u2 (b1 := 1) (b2 := 21) zK_182 (by decide +kernel)
theorem dX8_mean_10 : decode cX8_mean 10 = .ok (.iload_n 2, 1) := zy_0 zK_28 (by decide +kernel)
theorem dX8_mean_11 : decode cX8_mean 11 = .ok (.iconst 0, 1) := zy_0 zK_3 (by decide +kernel)
theorem dX8_mean_12 : decode cX8_mean 12 = .ok (.bipush 8, 2) := zy_s1 (b1 := 8) zK_16 (by decide +kernel) (by decide +kernel)
theorem dX8_mean_14 : decode cX8_mean 14 = .ok (.invokestatic 142, 3) := zy_u2 (b1 := 0) (b2 := 142) zK_184 (by decide +kernel)
theorem dX8_mean_17 : decode cX8_mean 17 = .ok (.invokevirtual 290, 3) := zy_u2 (b1 := 1) (b2 := 34) zK_182 (by decide +kernel)
theorem dX8_mean_20 : decode cX8_mean 20 = .ok (.istore 4, 2) := zy_u1 (b1 := 4) zK_54 (by decide +kernel)
theorem dX8_mean_22 : decode cX8_mean 22 = .ok (.iload 4, 2) := zy_u1 (b1 := 4) zK_21 (by decide +kernel)
theorem dX8_mean_24 : decode cX8_mean 24 = .ok (.ifCond .eq 11, 3) := zy_s2 (b1 := 0) (b2 := 11) zK_153 (by decide +kernel) (by decide +kernel)
theorem dX8_mean_27 : decode cX8_mean 27 = .ok (.aload_n 0, 1) := zy_0 zK_42 (by decide +kernel)
theorem dX8_mean_28 : decode cX8_mean 28 = .ok (.iload 4, 2) := zy_u1 (b1 := 4) zK_21 (by decide +kernel)
theorem dX8_mean_30 : decode cX8_mean 30 = .ok (.invokevirtual 163, 3) := zy_u2 (b1 := 0) (b2 := 163) zK_182 (by decide +kernel)
theorem dX8_mean_33 : decode cX8_mean 33 = .ok (.i2l, 1) := zy_0 zK_133 (by decide +kernel)
theorem dX8_mean_34 : decode cX8_mean 34 = .ok (.lreturn, 1) := zy_0 zK_173 (by decide +kernel)
theorem dX8_mean_35 : decode cX8_mean 35 = .ok (.aload_n 0, 1) := zy_0 zK_42 (by decide +kernel)
theorem dX8_mean_36 : decode cX8_mean 36 = .ok (.iload_n 1, 1) := zy_0 zK_27 (by decide +kernel)
theorem dX8_mean_37 : decode cX8_mean 37 = .ok (.iload_n 2, 1) := zy_0 zK_28 (by decide +kernel)
theorem dX8_mean_38 : decode cX8_mean 38 = .ok (.invokevirtual 365, 3) := zy_u2 (b1 := 1) (b2 := 109) zK_182 (by decide +kernel)
theorem dX8_mean_41 : decode cX8_mean 41 = .ok (.i2l, 1) := zy_0 zK_133 (by decide +kernel)
theorem dX8_mean_42 : decode cX8_mean 42 = .ok (.bipush 100, 2) := zy_s1 (b1 := 100) zK_16 (by decide +kernel) (by decide +kernel)
theorem dX8_mean_44 : decode cX8_mean 44 = .ok (.aload_n 0, 1) := zy_0 zK_42 (by decide +kernel)
theorem dX8_mean_45 : decode cX8_mean 45 = .ok (.getfield 20, 3) := zy_u2 (b1 := 0) (b2 := 20) zK_180 (by decide +kernel)
theorem dX8_mean_48 : decode cX8_mean 48 = .ok (.iconst 3, 1) := zy_0 zK_6 (by decide +kernel)
theorem dX8_mean_49 : decode cX8_mean 49 = .ok (.iaload, 1) := zy_0 zK_46 (by decide +kernel)
theorem dX8_mean_50 : decode cX8_mean 50 = .ok (.isub, 1) := zy_0 zK_100 (by decide +kernel)
theorem dX8_mean_51 : decode cX8_mean 51 = .ok (.i2l, 1) := zy_0 zK_133 (by decide +kernel)
theorem dX8_mean_52 : decode cX8_mean 52 = .ok (.lmul, 1) := zy_0 zK_105 (by decide +kernel)
theorem dX8_mean_53 : decode cX8_mean 53 = .ok (.ldc2_w 368, 3) := zy_u2 (b1 := 1) (b2 := 112) zK_20 (by decide +kernel)
theorem dX8_mean_56 : decode cX8_mean 56 = .ok (.iload_n 3, 1) := zy_0 zK_29 (by decide +kernel)
theorem dX8_mean_57 : decode cX8_mean 57 = .ok (.invokestatic 370, 3) := zy_u2 (b1 := 1) (b2 := 114) zK_184 (by decide +kernel)
theorem dX8_mean_60 : decode cX8_mean 60 = .ok (.lreturn, 1) := zy_0 zK_173 (by decide +kernel)
theorem dX8_drawWhy_0 : decode cX8_drawWhy 0 = .ok (.aload_n 0, 1) := zy_0 zK_42 (by decide +kernel)
theorem dX8_drawWhy_1 : decode cX8_drawWhy 1 = .ok (.iload_n 1, 1) := zy_0 zK_27 (by decide +kernel)
theorem dX8_drawWhy_2 : decode cX8_drawWhy 2 = .ok (.iload_n 3, 1) := zy_0 zK_29 (by decide +kernel)
theorem dX8_drawWhy_3 : decode cX8_drawWhy 3 = .ok (.iconst 0, 1) := zy_0 zK_3 (by decide +kernel)
theorem dX8_drawWhy_4 : decode cX8_drawWhy 4 = .ok (.ldc_w 374, 3) := zy_u2 (b1 := 1) (b2 := 118) zK_19 (by decide +kernel)
theorem dX8_drawWhy_7 : decode cX8_drawWhy 7 = .ok (.invokestatic 142, 3) := zy_u2 (b1 := 0) (b2 := 142) zK_184 (by decide +kernel)
theorem dX8_drawWhy_10 : decode cX8_drawWhy 10 = .ok (.ifCond .eq 19, 3) := zy_s2 (b1 := 0) (b2 := 19) zK_153 (by decide +kernel) (by decide +kernel)
theorem dX8_drawWhy_13 : decode cX8_drawWhy 13 = .ok (.iload 4, 2) := zy_u1 (b1 := 4) zK_21 (by decide +kernel)
theorem dX8_drawWhy_15 : decode cX8_drawWhy 15 = .ok (.iconst 0, 1) := zy_0 zK_3 (by decide +kernel)
theorem dX8_drawWhy_16 : decode cX8_drawWhy 16 = .ok (.sipush 200, 3) := zy_s2 (b1 := 0) (b2 := 200) zK_17 (by decide +kernel) (by decide +kernel)
theorem dX8_drawWhy_19 : decode cX8_drawWhy 19 = .ok (.invokestatic 142, 3) := zy_u2 (b1 := 0) (b2 := 142) zK_184 (by decide +kernel)
theorem dX8_drawWhy_22 : decode cX8_drawWhy 22 = .ok (.ifCond .eq 7, 3) := zy_s2 (b1 := 0) (b2 := 7) zK_153 (by decide +kernel) (by decide +kernel)
theorem dX8_drawWhy_25 : decode cX8_drawWhy 25 = .ok (.iconst 1, 1) := zy_0 zK_4 (by decide +kernel)
theorem dX8_drawWhy_26 : decode cX8_drawWhy 26 = .ok (.goto 4, 3) := zy_s2 (b1 := 0) (b2 := 4) zK_167 (by decide +kernel) (by decide +kernel)
theorem dX8_drawWhy_29 : decode cX8_drawWhy 29 = .ok (.iconst 0, 1) := zy_0 zK_3 (by decide +kernel)
theorem dX8_drawWhy_30 : decode cX8_drawWhy 30 = .ok (.invokevirtual 290, 3) := zy_u2 (b1 := 1) (b2 := 34) zK_182 (by decide +kernel)
theorem dX8_drawWhy_33 : decode cX8_drawWhy 33 = .ok (.istore 5, 2) := zy_u1 (b1 := 5) zK_54 (by decide +kernel)
theorem dX8_drawWhy_35 : decode cX8_drawWhy 35 = .ok (.iload 5, 2) := zy_u1 (b1 := 5) zK_21 (by decide +kernel)
theorem dX8_drawWhy_37 : decode cX8_drawWhy 37 = .ok (.ifCond .eq 6, 3) := zy_s2 (b1 := 0) (b2 := 6) zK_153 (by decide +kernel) (by decide +kernel)
theorem dX8_drawWhy_40 : decode cX8_drawWhy 40 = .ok (.iload 5, 2) := zy_u1 (b1 := 5) zK_21 (by decide +kernel)
theorem dX8_drawWhy_42 : decode cX8_drawWhy 42 = .ok (.ireturn, 1) := zy_0 zK_172 (by decide +kernel)
theorem dX8_drawWhy_43 : decode cX8_drawWhy 43 = .ok (.iload_n 3, 1) := zy_0 zK_29 (by decide +kernel)
theorem dX8_drawWhy_44 : decode cX8_drawWhy 44 = .ok (.istore 6, 2) := zy_u1 (b1 := 6) zK_54 (by decide +kernel)
theorem dX8_drawWhy_46 : decode cX8_drawWhy 46 = .ok (.aload_n 0, 1) := zy_0 zK_42 (by decide +kernel)
theorem dX8_drawWhy_47 : decode cX8_drawWhy 47 = .ok (.bipush (-2), 2) := zy_s1 (b1 := 254) zK_16 (by decide +kernel) (by decide +kernel)
theorem dX8_drawWhy_49 : decode cX8_drawWhy 49 = .ok (.putfield 375, 3) := zy_u2 (b1 := 1) (b2 := 119) zK_181 (by decide +kernel)
theorem dX8_drawWhy_52 : decode cX8_drawWhy 52 = .ok (.aload_n 0, 1) := zy_0 zK_42 (by decide +kernel)
theorem dX8_drawWhy_53 : decode cX8_drawWhy 53 = .ok (.iconst 0, 1) := zy_0 zK_3 (by decide +kernel)
theorem dX8_drawWhy_54 : decode cX8_drawWhy 54 = .ok (.putfield 378, 3) := zy_u2 (b1 := 1) (b2 := 122) zK_181 (by decide +kernel)
theorem dX8_drawWhy_57 : decode cX8_drawWhy 57 = .ok (.aload_n 0, 1) := zy_0 zK_42 (by decide +kernel)
theorem dX8_drawWhy_58 : decode cX8_drawWhy 58 = .ok (.invokevirtual 294, 3) := zy_u2 (b1 := 1) (b2 := 38) zK_182 (by decide +kernel)
theorem dX8_drawWhy_61 : decode cX8_drawWhy 61 = .ok (.iconst 1, 1) := zy_0 zK_4 (by decide +kernel)
theorem dX8_drawWhy_62 : decode cX8_drawWhy 62 = .ok (.istore 7, 2) := zy_u1 (b1 := 7) zK_54 (by decide +kernel)
theorem dX8_drawWhy_64 : decode cX8_drawWhy 64 = .ok (.iload 7, 2) := zy_u1 (b1 := 7) zK_21 (by decide +kernel)
theorem dX8_drawWhy_66 : decode cX8_drawWhy 66 = .ok (.iload 4, 2) := zy_u1 (b1 := 4) zK_21 (by decide +kernel)
theorem dX8_drawWhy_68 : decode cX8_drawWhy 68 = .ok (.if_icmp .gt 91, 3) := zy_s2 (b1 := 0) (b2 := 91) zK_163 (by decide +kernel) (by decide +kernel)
theorem dX8_drawWhy_71 : decode cX8_drawWhy 71 = .ok (.bipush 75, 2) := zy_s1 (b1 := 75) zK_16 (by decide +kernel) (by decide +kernel)
theorem dX8_drawWhy_73 : decode cX8_drawWhy 73 = .ok (.iload 6, 2) := zy_u1 (b1 := 6) zK_21 (by decide +kernel)
theorem dX8_drawWhy_75 : decode cX8_drawWhy 75 = .ok (.imul, 1) := zy_0 zK_104 (by decide +kernel)
theorem dX8_drawWhy_76 : decode cX8_drawWhy 76 = .ok (.bipush 74, 2) := zy_s1 (b1 := 74) zK_16 (by decide +kernel) (by decide +kernel)
theorem dX8_drawWhy_78 : decode cX8_drawWhy 78 = .ok (.iadd, 1) := zy_0 zK_96 (by decide +kernel)
theorem dX8_drawWhy_79 : decode cX8_drawWhy 79 = .ok (.ldc_w 381, 3) := zy_u2 (b1 := 1) (b2 := 125) zK_19 (by decide +kernel)
theorem dX8_drawWhy_82 : decode cX8_drawWhy 82 = .ok (.irem, 1) := zy_0 zK_112 (by decide +kernel)
theorem dX8_drawWhy_83 : decode cX8_drawWhy 83 = .ok (.istore 6, 2) := zy_u1 (b1 := 6) zK_54 (by decide +kernel)
theorem dX8_drawWhy_85 : decode cX8_drawWhy 85 = .ok (.iload 6, 2) := zy_u1 (b1 := 6) zK_21 (by decide +kernel)
theorem dX8_drawWhy_87 : decode cX8_drawWhy 87 = .ok (.bipush 100, 2) := zy_s1 (b1 := 100) zK_16 (by decide +kernel) (by decide +kernel)
theorem dX8_drawWhy_89 : decode cX8_drawWhy 89 = .ok (.irem, 1) := zy_0 zK_112 (by decide +kernel)
theorem dX8_drawWhy_90 : decode cX8_drawWhy 90 = .ok (.aload_n 0, 1) := zy_0 zK_42 (by decide +kernel)
theorem dX8_drawWhy_91 : decode cX8_drawWhy 91 = .ok (.getfield 20, 3) := zy_u2 (b1 := 0) (b2 := 20) zK_180 (by decide +kernel)
theorem dX8_drawWhy_94 : decode cX8_drawWhy 94 = .ok (.iconst 3, 1) := zy_0 zK_6 (by decide +kernel)
theorem dX8_drawWhy_95 : decode cX8_drawWhy 95 = .ok (.iaload, 1) := zy_0 zK_46 (by decide +kernel)
theorem dX8_drawWhy_96 : decode cX8_drawWhy 96 = .ok (.if_icmp .ge 7, 3) := zy_s2 (b1 := 0) (b2 := 7) zK_162 (by decide +kernel) (by decide +kernel)
theorem dX8_drawWhy_99 : decode cX8_drawWhy 99 = .ok (.iconst 1, 1) := zy_0 zK_4 (by decide +kernel)
theorem dX8_drawWhy_100 : decode cX8_drawWhy 100 = .ok (.goto 4, 3) := zy_s2 (b1 := 0) (b2 := 4) zK_167 (by decide +kernel) (by decide +kernel)
theorem dX8_drawWhy_103 : decode cX8_drawWhy 103 = .ok (.iconst 0, 1) := zy_0 zK_3 (by decide +kernel)
theorem dX8_drawWhy_104 : decode cX8_drawWhy 104 = .ok (.istore 8, 2) := zy_u1 (b1 := 8) zK_54 (by decide +kernel)
theorem dX8_drawWhy_106 : decode cX8_drawWhy 106 = .ok (.iload 8, 2) := zy_u1 (b1 := 8) zK_21 (by decide +kernel)
theorem dX8_drawWhy_108 : decode cX8_drawWhy 108 = .ok (.ifCond .eq 16, 3) := zy_s2 (b1 := 0) (b2 := 16) zK_153 (by decide +kernel) (by decide +kernel)
theorem dX8_drawWhy_111 : decode cX8_drawWhy 111 = .ok (.aload_n 0, 1) := zy_0 zK_42 (by decide +kernel)
theorem dX8_drawWhy_112 : decode cX8_drawWhy 112 = .ok (.getfield 375, 3) := zy_u2 (b1 := 1) (b2 := 119) zK_180 (by decide +kernel)
theorem dX8_drawWhy_115 : decode cX8_drawWhy 115 = .ok (.ifCond .ge 9, 3) := zy_s2 (b1 := 0) (b2 := 9) zK_156 (by decide +kernel) (by decide +kernel)
theorem dX8_drawWhy_118 : decode cX8_drawWhy 118 = .ok (.aload_n 0, 1) := zy_0 zK_42 (by decide +kernel)
theorem dX8_drawWhy_119 : decode cX8_drawWhy 119 = .ok (.iload 7, 2) := zy_u1 (b1 := 7) zK_21 (by decide +kernel)
theorem dX8_drawWhy_121 : decode cX8_drawWhy 121 = .ok (.putfield 375, 3) := zy_u2 (b1 := 1) (b2 := 119) zK_181 (by decide +kernel)
theorem dX8_drawWhy_124 : decode cX8_drawWhy 124 = .ok (.aload_n 0, 1) := zy_0 zK_42 (by decide +kernel)
theorem dX8_drawWhy_125 : decode cX8_drawWhy 125 = .ok (.dup, 1) := zy_0 zK_89 (by decide +kernel)
theorem dX8_drawWhy_126 : decode cX8_drawWhy 126 = .ok (.getfield 378, 3) := zy_u2 (b1 := 1) (b2 := 122) zK_180 (by decide +kernel)
theorem dX8_drawWhy_129 : decode cX8_drawWhy 129 = .ok (.iload 8, 2) := zy_u1 (b1 := 8) zK_21 (by decide +kernel)
theorem dX8_drawWhy_131 : decode cX8_drawWhy 131 = .ok (.ifCond .ne 17, 3) := zy_s2 (b1 := 0) (b2 := 17) zK_154 (by decide +kernel) (by decide +kernel)
theorem dX8_drawWhy_134 : decode cX8_drawWhy 134 = .ok (.aload_n 0, 1) := zy_0 zK_42 (by decide +kernel)
theorem dX8_drawWhy_135 : decode cX8_drawWhy 135 = .ok (.iload 7, 2) := zy_u1 (b1 := 7) zK_21 (by decide +kernel)
theorem dX8_drawWhy_137 : decode cX8_drawWhy 137 = .ok (.invokevirtual 297, 3) := zy_u2 (b1 := 1) (b2 := 41) zK_182 (by decide +kernel)
theorem dX8_drawWhy_140 : decode cX8_drawWhy 140 = .ok (.iload_n 2, 1) := zy_0 zK_28 (by decide +kernel)
theorem dX8_drawWhy_141 : decode cX8_drawWhy 141 = .ok (.if_icmp .ne 7, 3) := zy_s2 (b1 := 0) (b2 := 7) zK_160 (by decide +kernel) (by decide +kernel)
theorem dX8_drawWhy_144 : decode cX8_drawWhy 144 = .ok (.iconst 1, 1) := zy_0 zK_4 (by decide +kernel)
theorem dX8_drawWhy_145 : decode cX8_drawWhy 145 = .ok (.goto 4, 3) := zy_s2 (b1 := 0) (b2 := 4) zK_167 (by decide +kernel) (by decide +kernel)
theorem dX8_drawWhy_148 : decode cX8_drawWhy 148 = .ok (.iconst 0, 1) := zy_0 zK_3 (by decide +kernel)
theorem dX8_drawWhy_149 : decode cX8_drawWhy 149 = .ok (.iadd, 1) := zy_0 zK_96 (by decide +kernel)
theorem dX8_drawWhy_150 : decode cX8_drawWhy 150 = .ok (.putfield 378, 3) := zy_u2 (b1 := 1) (b2 := 122) zK_181 (by decide +kernel)
theorem dX8_drawWhy_153 : decode cX8_drawWhy 153 = .ok (.iinc 7 1, 3) := zy_ii (b1 := 7) (b2 := 1) zK_132 (by decide +kernel) (by decide +kernel)
theorem dX8_drawWhy_156 : decode cX8_drawWhy 156 = .ok (.goto (-92), 3) := zy_s2 (b1 := 255) (b2 := 164) zK_167 (by decide +kernel) (by decide +kernel)
theorem dX8_drawWhy_159 : decode cX8_drawWhy 159 = .ok (.iconst 0, 1) := zy_0 zK_3 (by decide +kernel)
theorem dX8_drawWhy_160 : decode cX8_drawWhy 160 = .ok (.ireturn, 1) := zy_0 zK_172 (by decide +kernel)
theorem dX8_drawn_0 : decode cX8_drawn 0 = .ok (.aload_n 0, 1) := zy_0 zK_42 (by decide +kernel)
theorem dX8_drawn_1 : decode cX8_drawn 1 = .ok (.invokevirtual 160, 3) := zy_u2 (b1 := 0) (b2 := 160) zK_182 (by decide +kernel)
theorem dX8_drawn_4 : decode cX8_drawn 4 = .ok (.aload_n 0, 1) := zy_0 zK_42 (by decide +kernel)
theorem dX8_drawn_5 : decode cX8_drawn 5 = .ok (.aload_n 0, 1) := zy_0 zK_42 (by decide +kernel)
theorem dX8_drawn_6 : decode cX8_drawn 6 = .ok (.iload_n 1, 1) := zy_0 zK_27 (by decide +kernel)
theorem dX8_drawn_7 : decode cX8_drawn 7 = .ok (.invokevirtual 277, 3) := zy_u2 (b1 := 1) (b2 := 21) zK_182 (by decide +kernel)
theorem dX8_drawn_10 : decode cX8_drawn 10 = .ok (.iload_n 1, 1) := zy_0 zK_27 (by decide +kernel)
theorem dX8_drawn_11 : decode cX8_drawn 11 = .ok (.iload_n 2, 1) := zy_0 zK_28 (by decide +kernel)
theorem dX8_drawn_12 : decode cX8_drawn 12 = .ok (.iload_n 3, 1) := zy_0 zK_29 (by decide +kernel)
theorem dX8_drawn_13 : decode cX8_drawn 13 = .ok (.invokevirtual 382, 3) := zy_u2 (b1 := 1) (b2 := 126) zK_182 (by decide +kernel)
theorem dX8_drawn_16 : decode cX8_drawn 16 = .ok (.istore 4, 2) := zy_u1 (b1 := 4) zK_54 (by decide +kernel)
theorem dX8_drawn_18 : decode cX8_drawn 18 = .ok (.iload 4, 2) := zy_u1 (b1 := 4) zK_21 (by decide +kernel)
theorem dX8_drawn_20 : decode cX8_drawn 20 = .ok (.ifCond .eq 12, 3) := zy_s2 (b1 := 0) (b2 := 12) zK_153 (by decide +kernel) (by decide +kernel)
theorem dX8_drawn_23 : decode cX8_drawn 23 = .ok (.aload_n 0, 1) := zy_0 zK_42 (by decide +kernel)
theorem dX8_drawn_24 : decode cX8_drawn 24 = .ok (.iload 4, 2) := zy_u1 (b1 := 4) zK_21 (by decide +kernel)
theorem dX8_drawn_26 : decode cX8_drawn 26 = .ok (.invokevirtual 163, 3) := zy_u2 (b1 := 0) (b2 := 163) zK_182 (by decide +kernel)
theorem dX8_drawn_29 : decode cX8_drawn 29 = .ok (.goto 7, 3) := zy_s2 (b1 := 0) (b2 := 7) zK_167 (by decide +kernel) (by decide +kernel)
theorem dX8_drawn_32 : decode cX8_drawn 32 = .ok (.aload_n 0, 1) := zy_0 zK_42 (by decide +kernel)
theorem dX8_drawn_33 : decode cX8_drawn 33 = .ok (.getfield 378, 3) := zy_u2 (b1 := 1) (b2 := 122) zK_180 (by decide +kernel)
theorem dX8_drawn_36 : decode cX8_drawn 36 = .ok (.ireturn, 1) := zy_0 zK_172 (by decide +kernel)
theorem dX8_firstShut_0 : decode cX8_firstShut 0 = .ok (.aload_n 0, 1) := zy_0 zK_42 (by decide +kernel)
theorem dX8_firstShut_1 : decode cX8_firstShut 1 = .ok (.invokevirtual 160, 3) := zy_u2 (b1 := 0) (b2 := 160) zK_182 (by decide +kernel)
theorem dX8_firstShut_4 : decode cX8_firstShut 4 = .ok (.aload_n 0, 1) := zy_0 zK_42 (by decide +kernel)
theorem dX8_firstShut_5 : decode cX8_firstShut 5 = .ok (.aload_n 0, 1) := zy_0 zK_42 (by decide +kernel)
theorem dX8_firstShut_6 : decode cX8_firstShut 6 = .ok (.getfield 173, 3) := zy_u2 (b1 := 0) (b2 := 173) zK_180 (by decide +kernel)
theorem dX8_firstShut_9 : decode cX8_firstShut 9 = .ok (.iconst (-1), 1) := zy_0 zK_2 (by decide +kernel)
theorem dX8_firstShut_10 : decode cX8_firstShut 10 = .ok (.iload_n 1, 1) := zy_0 zK_27 (by decide +kernel)
theorem dX8_firstShut_11 : decode cX8_firstShut 11 = .ok (.iload_n 2, 1) := zy_0 zK_28 (by decide +kernel)
theorem dX8_firstShut_12 : decode cX8_firstShut 12 = .ok (.invokevirtual 382, 3) := zy_u2 (b1 := 1) (b2 := 126) zK_182 (by decide +kernel)
theorem dX8_firstShut_15 : decode cX8_firstShut 15 = .ok (.istore_n 3, 1) := zy_0 zK_62 (by decide +kernel)
theorem dX8_firstShut_16 : decode cX8_firstShut 16 = .ok (.iload_n 3, 1) := zy_0 zK_29 (by decide +kernel)
theorem dX8_firstShut_17 : decode cX8_firstShut 17 = .ok (.ifCond .eq 11, 3) := zy_s2 (b1 := 0) (b2 := 11) zK_153 (by decide +kernel) (by decide +kernel)
theorem dX8_firstShut_20 : decode cX8_firstShut 20 = .ok (.aload_n 0, 1) := zy_0 zK_42 (by decide +kernel)
theorem dX8_firstShut_21 : decode cX8_firstShut 21 = .ok (.iload_n 3, 1) := zy_0 zK_29 (by decide +kernel)
theorem dX8_firstShut_22 : decode cX8_firstShut 22 = .ok (.invokevirtual 163, 3) := zy_u2 (b1 := 0) (b2 := 163) zK_182 (by decide +kernel)
theorem dX8_firstShut_25 : decode cX8_firstShut 25 = .ok (.goto 7, 3) := zy_s2 (b1 := 0) (b2 := 7) zK_167 (by decide +kernel) (by decide +kernel)
theorem dX8_firstShut_28 : decode cX8_firstShut 28 = .ok (.aload_n 0, 1) := zy_0 zK_42 (by decide +kernel)
theorem dX8_firstShut_29 : decode cX8_firstShut 29 = .ok (.getfield 375, 3) := zy_u2 (b1 := 1) (b2 := 119) zK_180 (by decide +kernel)
theorem dX8_firstShut_32 : decode cX8_firstShut 32 = .ok (.ireturn, 1) := zy_0 zK_172 (by decide +kernel)
theorem dX8_note_0 : decode cX8_note 0 = .ok (.aload_n 0, 1) := zy_0 zK_42 (by decide +kernel)
theorem dX8_note_1 : decode cX8_note 1 = .ok (.getfield 176, 3) := zy_u2 (b1 := 0) (b2 := 176) zK_180 (by decide +kernel)
theorem dX8_note_4 : decode cX8_note 4 = .ok (.bipush 16, 2) := zy_s1 (b1 := 16) zK_16 (by decide +kernel) (by decide +kernel)
theorem dX8_note_6 : decode cX8_note 6 = .ok (.if_icmp .ne 43, 3) := zy_s2 (b1 := 0) (b2 := 43) zK_160 (by decide +kernel) (by decide +kernel)
theorem dX8_note_9 : decode cX8_note 9 = .ok (.iconst 0, 1) := zy_0 zK_3 (by decide +kernel)
theorem dX8_note_10 : decode cX8_note 10 = .ok (.istore_n 1, 1) := zy_0 zK_60 (by decide +kernel)
theorem dX8_note_11 : decode cX8_note 11 = .ok (.iload_n 1, 1) := zy_0 zK_27 (by decide +kernel)
theorem dX8_note_12 : decode cX8_note 12 = .ok (.sipush 345, 3) := zy_s2 (b1 := 1) (b2 := 89) zK_17 (by decide +kernel) (by decide +kernel)
theorem dX8_note_15 : decode cX8_note 15 = .ok (.if_icmp .ge 24, 3) := zy_s2 (b1 := 0) (b2 := 24) zK_162 (by decide +kernel) (by decide +kernel)
theorem dX8_note_18 : decode cX8_note 18 = .ok (.aload_n 0, 1) := zy_0 zK_42 (by decide +kernel)
theorem dX8_note_19 : decode cX8_note 19 = .ok (.getfield 32, 3) := zy_u2 (b1 := 0) (b2 := 32) zK_180 (by decide +kernel)
theorem dX8_note_22 : decode cX8_note 22 = .ok (.iload_n 1, 1) := zy_0 zK_27 (by decide +kernel)
theorem dX8_note_23 : decode cX8_note 23 = .ok (.aload_n 0, 1) := zy_0 zK_42 (by decide +kernel)
theorem dX8_note_24 : decode cX8_note 24 = .ok (.getfield 32, 3) := zy_u2 (b1 := 0) (b2 := 32) zK_180 (by decide +kernel)
theorem dX8_note_27 : decode cX8_note 27 = .ok (.iload_n 1, 1) := zy_0 zK_27 (by decide +kernel)
theorem dX8_note_28 : decode cX8_note 28 = .ok (.bipush 23, 2) := zy_s1 (b1 := 23) zK_16 (by decide +kernel) (by decide +kernel)
theorem dX8_note_30 : decode cX8_note 30 = .ok (.iadd, 1) := zy_0 zK_96 (by decide +kernel)
theorem dX8_note_31 : decode cX8_note 31 = .ok (.iaload, 1) := zy_0 zK_46 (by decide +kernel)
theorem dX8_note_32 : decode cX8_note 32 = .ok (.iastore, 1) := zy_0 zK_79 (by decide +kernel)
theorem dX8_note_33 : decode cX8_note 33 = .ok (.iinc 1 1, 3) := zy_ii (b1 := 1) (b2 := 1) zK_132 (by decide +kernel) (by decide +kernel)
theorem dX8_note_36 : decode cX8_note 36 = .ok (.goto (-25), 3) := zy_s2 (b1 := 255) (b2 := 231) zK_167 (by decide +kernel) (by decide +kernel)
theorem dX8_note_39 : decode cX8_note 39 = .ok (.aload_n 0, 1) := zy_0 zK_42 (by decide +kernel)
theorem dX8_note_40 : decode cX8_note 40 = .ok (.dup, 1) := zy_0 zK_89 (by decide +kernel)
theorem dX8_note_41 : decode cX8_note 41 = .ok (.getfield 176, 3) := zy_u2 (b1 := 0) (b2 := 176) zK_180 (by decide +kernel)
theorem dX8_note_44 : decode cX8_note 44 = .ok (.iconst 1, 1) := zy_0 zK_4 (by decide +kernel)
theorem dX8_note_45 : decode cX8_note 45 = .ok (.isub, 1) := zy_0 zK_100 (by decide +kernel)
theorem dX8_note_46 : decode cX8_note 46 = .ok (.putfield 176, 3) := zy_u2 (b1 := 0) (b2 := 176) zK_181 (by decide +kernel)
theorem dX8_note_49 : decode cX8_note 49 = .ok (.aload_n 0, 1) := zy_0 zK_42 (by decide +kernel)
theorem dX8_note_50 : decode cX8_note 50 = .ok (.getfield 26, 3) := zy_u2 (b1 := 0) (b2 := 26) zK_180 (by decide +kernel)
theorem dX8_note_53 : decode cX8_note 53 = .ok (.iconst 0, 1) := zy_0 zK_3 (by decide +kernel)
theorem dX8_note_54 : decode cX8_note 54 = .ok (.aload_n 0, 1) := zy_0 zK_42 (by decide +kernel)
theorem dX8_note_55 : decode cX8_note 55 = .ok (.getfield 32, 3) := zy_u2 (b1 := 0) (b2 := 32) zK_180 (by decide +kernel)
theorem dX8_note_58 : decode cX8_note 58 = .ok (.bipush 23, 2) := zy_s1 (b1 := 23) zK_16 (by decide +kernel) (by decide +kernel)
theorem dX8_note_60 : decode cX8_note 60 = .ok (.aload_n 0, 1) := zy_0 zK_42 (by decide +kernel)
theorem dX8_note_61 : decode cX8_note 61 = .ok (.getfield 176, 3) := zy_u2 (b1 := 0) (b2 := 176) zK_180 (by decide +kernel)
theorem dX8_note_64 : decode cX8_note 64 = .ok (.imul, 1) := zy_0 zK_104 (by decide +kernel)
theorem dX8_note_65 : decode cX8_note 65 = .ok (.bipush 23, 2) := zy_s1 (b1 := 23) zK_16 (by decide +kernel) (by decide +kernel)
theorem dX8_note_67 : decode cX8_note 67 = .ok (.invokestatic 169, 3) := zy_u2 (b1 := 0) (b2 := 169) zK_184 (by decide +kernel)
theorem dX8_note_70 : decode cX8_note 70 = .ok (.aload_n 0, 1) := zy_0 zK_42 (by decide +kernel)
theorem dX8_note_71 : decode cX8_note 71 = .ok (.dup, 1) := zy_0 zK_89 (by decide +kernel)
theorem dX8_note_72 : decode cX8_note 72 = .ok (.getfield 176, 3) := zy_u2 (b1 := 0) (b2 := 176) zK_180 (by decide +kernel)
theorem dX8_note_75 : decode cX8_note 75 = .ok (.iconst 1, 1) := zy_0 zK_4 (by decide +kernel)
theorem dX8_note_76 : decode cX8_note 76 = .ok (.iadd, 1) := zy_0 zK_96 (by decide +kernel)
theorem dX8_note_77 : decode cX8_note 77 = .ok (.putfield 176, 3) := zy_u2 (b1 := 0) (b2 := 176) zK_181 (by decide +kernel)
theorem dX8_note_80 : decode cX8_note 80 = .ok (.return_, 1) := zy_0 zK_177 (by decide +kernel)
theorem dX8_go_0 : decode cX8_go 0 = .ok (.aload_n 0, 1) := zy_0 zK_42 (by decide +kernel)
theorem dX8_go_1 : decode cX8_go 1 = .ok (.invokevirtual 160, 3) := zy_u2 (b1 := 0) (b2 := 160) zK_182 (by decide +kernel)
theorem dX8_go_4 : decode cX8_go 4 = .ok (.aload_n 0, 1) := zy_0 zK_42 (by decide +kernel)
theorem dX8_go_5 : decode cX8_go 5 = .ok (.aload_n 0, 1) := zy_0 zK_42 (by decide +kernel)
theorem dX8_go_6 : decode cX8_go 6 = .ok (.getfield 173, 3) := zy_u2 (b1 := 0) (b2 := 173) zK_180 (by decide +kernel)
theorem dX8_go_9 : decode cX8_go 9 = .ok (.iload_n 1, 1) := zy_0 zK_27 (by decide +kernel)
theorem dX8_go_10 : decode cX8_go 10 = .ok (.iconst 1, 1) := zy_0 zK_4 (by decide +kernel)
theorem dX8_go_11 : decode cX8_go 11 = .ok (.bipush 60, 2) := zy_s1 (b1 := 60) zK_16 (by decide +kernel) (by decide +kernel)
theorem dX8_go_13 : decode cX8_go 13 = .ok (.invokestatic 142, 3) := zy_u2 (b1 := 0) (b2 := 142) zK_184 (by decide +kernel)
theorem dX8_go_16 : decode cX8_go 16 = .ok (.invokevirtual 290, 3) := zy_u2 (b1 := 1) (b2 := 34) zK_182 (by decide +kernel)
theorem dX8_go_19 : decode cX8_go 19 = .ok (.istore_n 2, 1) := zy_0 zK_61 (by decide +kernel)
theorem dX8_go_20 : decode cX8_go 20 = .ok (.iload_n 2, 1) := zy_0 zK_28 (by decide +kernel)
theorem dX8_go_21 : decode cX8_go 21 = .ok (.ifCond .ne 20, 3) := zy_s2 (b1 := 0) (b2 := 20) zK_154 (by decide +kernel) (by decide +kernel)
theorem dX8_go_24 : decode cX8_go 24 = .ok (.aload_n 0, 1) := zy_0 zK_42 (by decide +kernel)
theorem dX8_go_25 : decode cX8_go 25 = .ok (.getfield 26, 3) := zy_u2 (b1 := 0) (b2 := 26) zK_180 (by decide +kernel)
theorem dX8_go_28 : decode cX8_go 28 = .ok (.bipush 21, 2) := zy_s1 (b1 := 21) zK_16 (by decide +kernel) (by decide +kernel)
theorem dX8_go_30 : decode cX8_go 30 = .ok (.iaload, 1) := zy_0 zK_46 (by decide +kernel)
theorem dX8_go_31 : decode cX8_go 31 = .ok (.iload_n 1, 1) := zy_0 zK_27 (by decide +kernel)
theorem dX8_go_32 : decode cX8_go 32 = .ok (.iadd, 1) := zy_0 zK_96 (by decide +kernel)
theorem dX8_go_33 : decode cX8_go 33 = .ok (.sipush 9999, 3) := zy_s2 (b1 := 39) (b2 := 15) zK_17 (by decide +kernel) (by decide +kernel)
theorem dX8_go_36 : decode cX8_go 36 = .ok (.if_icmp .le 5, 3) := zy_s2 (b1 := 0) (b2 := 5) zK_164 (by decide +kernel) (by decide +kernel)
theorem dX8_go_39 : decode cX8_go 39 = .ok (.iconst 3, 1) := zy_0 zK_6 (by decide +kernel)
theorem dX8_go_40 : decode cX8_go 40 = .ok (.istore_n 2, 1) := zy_0 zK_61 (by decide +kernel)
theorem dX8_go_41 : decode cX8_go 41 = .ok (.iload_n 2, 1) := zy_0 zK_28 (by decide +kernel)
theorem dX8_go_42 : decode cX8_go 42 = .ok (.ifCond .eq 9, 3) := zy_s2 (b1 := 0) (b2 := 9) zK_153 (by decide +kernel) (by decide +kernel)
theorem dX8_go_45 : decode cX8_go 45 = .ok (.aload_n 0, 1) := zy_0 zK_42 (by decide +kernel)
theorem dX8_go_46 : decode cX8_go 46 = .ok (.iload_n 2, 1) := zy_0 zK_28 (by decide +kernel)
theorem dX8_go_47 : decode cX8_go 47 = .ok (.invokevirtual 163, 3) := zy_u2 (b1 := 0) (b2 := 163) zK_182 (by decide +kernel)
theorem dX8_go_50 : decode cX8_go 50 = .ok (.ireturn, 1) := zy_0 zK_172 (by decide +kernel)
theorem dX8_go_51 : decode cX8_go 51 = .ok (.aload_n 0, 1) := zy_0 zK_42 (by decide +kernel)
theorem dX8_go_52 : decode cX8_go 52 = .ok (.invokevirtual 386, 3) := zy_u2 (b1 := 1) (b2 := 130) zK_182 (by decide +kernel)
theorem dX8_go_55 : decode cX8_go 55 = .ok (.aload_n 0, 1) := zy_0 zK_42 (by decide +kernel)
theorem dX8_go_56 : decode cX8_go 56 = .ok (.invokevirtual 267, 3) := zy_u2 (b1 := 1) (b2 := 11) zK_182 (by decide +kernel)
theorem dX8_go_59 : decode cX8_go 59 = .ok (.aload_n 0, 1) := zy_0 zK_42 (by decide +kernel)
theorem dX8_go_60 : decode cX8_go 60 = .ok (.getfield 26, 3) := zy_u2 (b1 := 0) (b2 := 26) zK_180 (by decide +kernel)
theorem dX8_go_63 : decode cX8_go 63 = .ok (.bipush 18, 2) := zy_s1 (b1 := 18) zK_16 (by decide +kernel) (by decide +kernel)
theorem dX8_go_65 : decode cX8_go 65 = .ok (.iaload, 1) := zy_0 zK_46 (by decide +kernel)
theorem dX8_go_66 : decode cX8_go 66 = .ok (.istore_n 3, 1) := zy_0 zK_62 (by decide +kernel)
theorem dX8_go_67 : decode cX8_go 67 = .ok (.iconst 0, 1) := zy_0 zK_3 (by decide +kernel)
theorem dX8_go_68 : decode cX8_go 68 = .ok (.istore 4, 2) := zy_u1 (b1 := 4) zK_54 (by decide +kernel)
theorem dX8_go_70 : decode cX8_go 70 = .ok (.iload 4, 2) := zy_u1 (b1 := 4) zK_21 (by decide +kernel)
theorem dX8_go_72 : decode cX8_go 72 = .ok (.iload_n 1, 1) := zy_0 zK_27 (by decide +kernel)
theorem dX8_go_73 : decode cX8_go 73 = .ok (.if_icmp .ge 17, 3) := zy_s2 (b1 := 0) (b2 := 17) zK_162 (by decide +kernel) (by decide +kernel)
theorem dX8_go_76 : decode cX8_go 76 = .ok (.aload_n 0, 1) := zy_0 zK_42 (by decide +kernel)
theorem dX8_go_77 : decode cX8_go 77 = .ok (.aload_n 0, 1) := zy_0 zK_42 (by decide +kernel)
theorem dX8_go_78 : decode cX8_go 78 = .ok (.getfield 26, 3) := zy_u2 (b1 := 0) (b2 := 26) zK_180 (by decide +kernel)
theorem dX8_go_81 : decode cX8_go 81 = .ok (.invokevirtual 273, 3) := zy_u2 (b1 := 1) (b2 := 17) zK_182 (by decide +kernel)
theorem dX8_go_84 : decode cX8_go 84 = .ok (.iinc 4 1, 3) := zy_ii (b1 := 4) (b2 := 1) zK_132 (by decide +kernel) (by decide +kernel)
theorem dX8_go_87 : decode cX8_go 87 = .ok (.goto (-17), 3) := zy_s2 (b1 := 255) (b2 := 239) zK_167 (by decide +kernel) (by decide +kernel)
theorem dX8_go_90 : decode cX8_go 90 = .ok (.aload_n 0, 1) := zy_0 zK_42 (by decide +kernel)
theorem dX8_go_91 : decode cX8_go 91 = .ok (.getfield 26, 3) := zy_u2 (b1 := 0) (b2 := 26) zK_180 (by decide +kernel)
theorem dX8_go_94 : decode cX8_go 94 = .ok (.bipush 18, 2) := zy_s1 (b1 := 18) zK_16 (by decide +kernel) (by decide +kernel)
theorem dX8_go_96 : decode cX8_go 96 = .ok (.iaload, 1) := zy_0 zK_46 (by decide +kernel)
theorem dX8_go_97 : decode cX8_go 97 = .ok (.iload_n 3, 1) := zy_0 zK_29 (by decide +kernel)
theorem dX8_go_98 : decode cX8_go 98 = .ok (.iconst (-1), 1) := zy_0 zK_2 (by decide +kernel)
theorem dX8_go_99 : decode cX8_go 99 = .ok (.ixor, 1) := zy_0 zK_130 (by decide +kernel)
theorem dX8_go_100 : decode cX8_go 100 = .ok (.iand, 1) := zy_0 zK_126 (by decide +kernel)
theorem dX8_go_101 : decode cX8_go 101 = .ok (.ireturn, 1) := zy_0 zK_172 (by decide +kernel)
theorem dX8_put_0 : decode cX8_put 0 = .ok (.aload_n 0, 1) := zy_0 zK_42 (by decide +kernel)
theorem dX8_put_1 : decode cX8_put 1 = .ok (.invokevirtual 160, 3) := zy_u2 (b1 := 0) (b2 := 160) zK_182 (by decide +kernel)
theorem dX8_put_4 : decode cX8_put 4 = .ok (.aload_n 0, 1) := zy_0 zK_42 (by decide +kernel)
theorem dX8_put_5 : decode cX8_put 5 = .ok (.iload_n 1, 1) := zy_0 zK_27 (by decide +kernel)
theorem dX8_put_6 : decode cX8_put 6 = .ok (.invokevirtual 277, 3) := zy_u2 (b1 := 1) (b2 := 21) zK_182 (by decide +kernel)
theorem dX8_put_9 : decode cX8_put 9 = .ok (.ifCond .ne 9, 3) := zy_s2 (b1 := 0) (b2 := 9) zK_154 (by decide +kernel) (by decide +kernel)
theorem dX8_put_12 : decode cX8_put 12 = .ok (.aload_n 0, 1) := zy_0 zK_42 (by decide +kernel)
theorem dX8_put_13 : decode cX8_put 13 = .ok (.iconst 1, 1) := zy_0 zK_4 (by decide +kernel)
theorem dX8_put_14 : decode cX8_put 14 = .ok (.invokevirtual 163, 3) := zy_u2 (b1 := 0) (b2 := 163) zK_182 (by decide +kernel)
theorem dX8_put_17 : decode cX8_put 17 = .ok (.ireturn, 1) := zy_0 zK_172 (by decide +kernel)
theorem dX8_put_18 : decode cX8_put 18 = .ok (.aload_n 0, 1) := zy_0 zK_42 (by decide +kernel)
theorem dX8_put_19 : decode cX8_put 19 = .ok (.getfield 26, 3) := zy_u2 (b1 := 0) (b2 := 26) zK_180 (by decide +kernel)
theorem dX8_put_22 : decode cX8_put 22 = .ok (.bipush 18, 2) := zy_s1 (b1 := 18) zK_16 (by decide +kernel) (by decide +kernel)
theorem dX8_put_24 : decode cX8_put 24 = .ok (.iaload, 1) := zy_0 zK_46 (by decide +kernel)
theorem dX8_put_25 : decode cX8_put 25 = .ok (.iload_n 1, 1) := zy_0 zK_27 (by decide +kernel)
theorem dX8_put_26 : decode cX8_put 26 = .ok (.invokestatic 238, 3) := zy_u2 (b1 := 0) (b2 := 238) zK_184 (by decide +kernel)
theorem dX8_put_29 : decode cX8_put 29 = .ok (.ifCond .ne 13, 3) := zy_s2 (b1 := 0) (b2 := 13) zK_154 (by decide +kernel) (by decide +kernel)
theorem dX8_put_32 : decode cX8_put 32 = .ok (.aload_n 0, 1) := zy_0 zK_42 (by decide +kernel)
theorem dX8_put_33 : decode cX8_put 33 = .ok (.getfield 26, 3) := zy_u2 (b1 := 0) (b2 := 26) zK_180 (by decide +kernel)
theorem dX8_put_36 : decode cX8_put 36 = .ok (.iload_n 1, 1) := zy_0 zK_27 (by decide +kernel)
theorem dX8_put_37 : decode cX8_put 37 = .ok (.iaload, 1) := zy_0 zK_46 (by decide +kernel)
theorem dX8_put_38 : decode cX8_put 38 = .ok (.iload_n 1, 1) := zy_0 zK_27 (by decide +kernel)
theorem dX8_put_39 : decode cX8_put 39 = .ok (.if_icmp .ne 9, 3) := zy_s2 (b1 := 0) (b2 := 9) zK_160 (by decide +kernel) (by decide +kernel)
theorem dX8_put_42 : decode cX8_put 42 = .ok (.aload_n 0, 1) := zy_0 zK_42 (by decide +kernel)
theorem dX8_put_43 : decode cX8_put 43 = .ok (.iconst 5, 1) := zy_0 zK_8 (by decide +kernel)
theorem dX8_put_44 : decode cX8_put 44 = .ok (.invokevirtual 163, 3) := zy_u2 (b1 := 0) (b2 := 163) zK_182 (by decide +kernel)
theorem dX8_put_47 : decode cX8_put 47 = .ok (.ireturn, 1) := zy_0 zK_172 (by decide +kernel)
theorem dX8_put_48 : decode cX8_put 48 = .ok (.aload_n 0, 1) := zy_0 zK_42 (by decide +kernel)
theorem dX8_put_49 : decode cX8_put 49 = .ok (.invokevirtual 386, 3) := zy_u2 (b1 := 1) (b2 := 130) zK_182 (by decide +kernel)
theorem dX8_put_52 : decode cX8_put 52 = .ok (.aload_n 0, 1) := zy_0 zK_42 (by decide +kernel)
theorem dX8_put_53 : decode cX8_put 53 = .ok (.getfield 26, 3) := zy_u2 (b1 := 0) (b2 := 26) zK_180 (by decide +kernel)
theorem dX8_put_56 : decode cX8_put 56 = .ok (.iload_n 1, 1) := zy_0 zK_27 (by decide +kernel)
theorem dX8_put_57 : decode cX8_put 57 = .ok (.iaload, 1) := zy_0 zK_46 (by decide +kernel)
theorem dX8_put_58 : decode cX8_put 58 = .ok (.istore_n 2, 1) := zy_0 zK_61 (by decide +kernel)
theorem dX8_put_59 : decode cX8_put 59 = .ok (.aload_n 0, 1) := zy_0 zK_42 (by decide +kernel)
theorem dX8_put_60 : decode cX8_put 60 = .ok (.getfield 26, 3) := zy_u2 (b1 := 0) (b2 := 26) zK_180 (by decide +kernel)
theorem dX8_put_63 : decode cX8_put 63 = .ok (.iload_n 1, 1) := zy_0 zK_27 (by decide +kernel)
theorem dX8_put_64 : decode cX8_put 64 = .ok (.iload_n 1, 1) := zy_0 zK_27 (by decide +kernel)
theorem dX8_put_65 : decode cX8_put 65 = .ok (.iastore, 1) := zy_0 zK_79 (by decide +kernel)
theorem dX8_put_66 : decode cX8_put 66 = .ok (.iload_n 2, 1) := zy_0 zK_28 (by decide +kernel)
theorem dX8_put_67 : decode cX8_put 67 = .ok (.ireturn, 1) := zy_0 zK_172 (by decide +kernel)
theorem dX8_wind_0 : decode cX8_wind 0 = .ok (.aload_n 0, 1) := zy_0 zK_42 (by decide +kernel)
theorem dX8_wind_1 : decode cX8_wind 1 = .ok (.invokevirtual 160, 3) := zy_u2 (b1 := 0) (b2 := 160) zK_182 (by decide +kernel)
theorem dX8_wind_4 : decode cX8_wind 4 = .ok (.aload_n 0, 1) := zy_0 zK_42 (by decide +kernel)
theorem dX8_wind_5 : decode cX8_wind 5 = .ok (.iload_n 1, 1) := zy_0 zK_27 (by decide +kernel)
theorem dX8_wind_6 : decode cX8_wind 6 = .ok (.invokevirtual 277, 3) := zy_u2 (b1 := 1) (b2 := 21) zK_182 (by decide +kernel)
theorem dX8_wind_9 : decode cX8_wind 9 = .ok (.ifCond .ne 9, 3) := zy_s2 (b1 := 0) (b2 := 9) zK_154 (by decide +kernel) (by decide +kernel)
theorem dX8_wind_12 : decode cX8_wind 12 = .ok (.aload_n 0, 1) := zy_0 zK_42 (by decide +kernel)
theorem dX8_wind_13 : decode cX8_wind 13 = .ok (.iconst 1, 1) := zy_0 zK_4 (by decide +kernel)
theorem dX8_wind_14 : decode cX8_wind 14 = .ok (.invokevirtual 163, 3) := zy_u2 (b1 := 0) (b2 := 163) zK_182 (by decide +kernel)
theorem dX8_wind_17 : decode cX8_wind 17 = .ok (.ireturn, 1) := zy_0 zK_172 (by decide +kernel)
theorem dX8_wind_18 : decode cX8_wind 18 = .ok (.aload_n 0, 1) := zy_0 zK_42 (by decide +kernel)
theorem dX8_wind_19 : decode cX8_wind 19 = .ok (.getfield 26, 3) := zy_u2 (b1 := 0) (b2 := 26) zK_180 (by decide +kernel)
theorem dX8_wind_22 : decode cX8_wind 22 = .ok (.bipush 19, 2) := zy_s1 (b1 := 19) zK_16 (by decide +kernel) (by decide +kernel)
theorem dX8_wind_24 : decode cX8_wind 24 = .ok (.iaload, 1) := zy_0 zK_46 (by decide +kernel)
theorem dX8_wind_25 : decode cX8_wind 25 = .ok (.iload_n 1, 1) := zy_0 zK_27 (by decide +kernel)
theorem dX8_wind_26 : decode cX8_wind 26 = .ok (.if_icmp .ne 19, 3) := zy_s2 (b1 := 0) (b2 := 19) zK_160 (by decide +kernel) (by decide +kernel)
theorem dX8_wind_29 : decode cX8_wind 29 = .ok (.aload_n 0, 1) := zy_0 zK_42 (by decide +kernel)
theorem dX8_wind_30 : decode cX8_wind 30 = .ok (.getfield 26, 3) := zy_u2 (b1 := 0) (b2 := 26) zK_180 (by decide +kernel)
theorem dX8_wind_33 : decode cX8_wind 33 = .ok (.bipush 20, 2) := zy_s1 (b1 := 20) zK_16 (by decide +kernel) (by decide +kernel)
theorem dX8_wind_35 : decode cX8_wind 35 = .ok (.iaload, 1) := zy_0 zK_46 (by decide +kernel)
theorem dX8_wind_36 : decode cX8_wind 36 = .ok (.ifCond .ne 9, 3) := zy_s2 (b1 := 0) (b2 := 9) zK_154 (by decide +kernel) (by decide +kernel)
theorem dX8_wind_39 : decode cX8_wind 39 = .ok (.aload_n 0, 1) := zy_0 zK_42 (by decide +kernel)
theorem dX8_wind_40 : decode cX8_wind 40 = .ok (.iconst 5, 1) := zy_0 zK_8 (by decide +kernel)
theorem dX8_wind_41 : decode cX8_wind 41 = .ok (.invokevirtual 163, 3) := zy_u2 (b1 := 0) (b2 := 163) zK_182 (by decide +kernel)
theorem dX8_wind_44 : decode cX8_wind 44 = .ok (.ireturn, 1) := zy_0 zK_172 (by decide +kernel)
theorem dX8_wind_45 : decode cX8_wind 45 = .ok (.aload_n 0, 1) := zy_0 zK_42 (by decide +kernel)
theorem dX8_wind_46 : decode cX8_wind 46 = .ok (.invokevirtual 386, 3) := zy_u2 (b1 := 1) (b2 := 130) zK_182 (by decide +kernel)
theorem dX8_wind_49 : decode cX8_wind 49 = .ok (.aload_n 0, 1) := zy_0 zK_42 (by decide +kernel)
theorem dX8_wind_50 : decode cX8_wind 50 = .ok (.getfield 26, 3) := zy_u2 (b1 := 0) (b2 := 26) zK_180 (by decide +kernel)
theorem dX8_wind_53 : decode cX8_wind 53 = .ok (.bipush 19, 2) := zy_s1 (b1 := 19) zK_16 (by decide +kernel) (by decide +kernel)
theorem dX8_wind_55 : decode cX8_wind 55 = .ok (.iaload, 1) := zy_0 zK_46 (by decide +kernel)
theorem dX8_wind_56 : decode cX8_wind 56 = .ok (.istore_n 2, 1) := zy_0 zK_61 (by decide +kernel)
theorem dX8_wind_57 : decode cX8_wind 57 = .ok (.aload_n 0, 1) := zy_0 zK_42 (by decide +kernel)
theorem dX8_wind_58 : decode cX8_wind 58 = .ok (.getfield 26, 3) := zy_u2 (b1 := 0) (b2 := 26) zK_180 (by decide +kernel)
theorem dX8_wind_61 : decode cX8_wind 61 = .ok (.bipush 19, 2) := zy_s1 (b1 := 19) zK_16 (by decide +kernel) (by decide +kernel)
theorem dX8_wind_63 : decode cX8_wind 63 = .ok (.iload_n 1, 1) := zy_0 zK_27 (by decide +kernel)
theorem dX8_wind_64 : decode cX8_wind 64 = .ok (.iastore, 1) := zy_0 zK_79 (by decide +kernel)
theorem dX8_wind_65 : decode cX8_wind 65 = .ok (.aload_n 0, 1) := zy_0 zK_42 (by decide +kernel)
theorem dX8_wind_66 : decode cX8_wind 66 = .ok (.getfield 26, 3) := zy_u2 (b1 := 0) (b2 := 26) zK_180 (by decide +kernel)
theorem dX8_wind_69 : decode cX8_wind 69 = .ok (.bipush 20, 2) := zy_s1 (b1 := 20) zK_16 (by decide +kernel) (by decide +kernel)
theorem dX8_wind_71 : decode cX8_wind 71 = .ok (.iconst 0, 1) := zy_0 zK_3 (by decide +kernel)
theorem dX8_wind_72 : decode cX8_wind 72 = .ok (.iastore, 1) := zy_0 zK_79 (by decide +kernel)
theorem dX8_wind_73 : decode cX8_wind 73 = .ok (.iload_n 2, 1) := zy_0 zK_28 (by decide +kernel)
theorem dX8_wind_74 : decode cX8_wind 74 = .ok (.ireturn, 1) := zy_0 zK_172 (by decide +kernel)
theorem dX8_undo_0 : decode cX8_undo 0 = .ok (.aload_n 0, 1) := zy_0 zK_42 (by decide +kernel)
theorem dX8_undo_1 : decode cX8_undo 1 = .ok (.invokevirtual 160, 3) := zy_u2 (b1 := 0) (b2 := 160) zK_182 (by decide +kernel)
theorem dX8_undo_4 : decode cX8_undo 4 = .ok (.aload_n 0, 1) := zy_0 zK_42 (by decide +kernel)
theorem dX8_undo_5 : decode cX8_undo 5 = .ok (.getfield 176, 3) := zy_u2 (b1 := 0) (b2 := 176) zK_180 (by decide +kernel)
theorem dX8_undo_8 : decode cX8_undo 8 = .ok (.ifCond .ne 10, 3) := zy_s2 (b1 := 0) (b2 := 10) zK_154 (by decide +kernel) (by decide +kernel)
theorem dX8_undo_11 : decode cX8_undo 11 = .ok (.aload_n 0, 1) := zy_0 zK_42 (by decide +kernel)
theorem dX8_undo_12 : decode cX8_undo 12 = .ok (.bipush 6, 2) := zy_s1 (b1 := 6) zK_16 (by decide +kernel) (by decide +kernel)
theorem dX8_undo_14 : decode cX8_undo 14 = .ok (.invokevirtual 389, 3) := zy_u2 (b1 := 1) (b2 := 133) zK_182 (by decide +kernel)
theorem dX8_undo_17 : decode cX8_undo 17 = .ok (.ireturn, 1) := zy_0 zK_172 (by decide +kernel)
theorem dX8_undo_18 : decode cX8_undo 18 = .ok (.aload_n 0, 1) := zy_0 zK_42 (by decide +kernel)
theorem dX8_undo_19 : decode cX8_undo 19 = .ok (.dup, 1) := zy_0 zK_89 (by decide +kernel)
theorem dX8_undo_20 : decode cX8_undo 20 = .ok (.getfield 176, 3) := zy_u2 (b1 := 0) (b2 := 176) zK_180 (by decide +kernel)
theorem dX8_undo_23 : decode cX8_undo 23 = .ok (.iconst 1, 1) := zy_0 zK_4 (by decide +kernel)
theorem dX8_undo_24 : decode cX8_undo 24 = .ok (.isub, 1) := zy_0 zK_100 (by decide +kernel)
theorem dX8_undo_25 : decode cX8_undo 25 = .ok (.putfield 176, 3) := zy_u2 (b1 := 0) (b2 := 176) zK_181 (by decide +kernel)
theorem dX8_undo_28 : decode cX8_undo 28 = .ok (.aload_n 0, 1) := zy_0 zK_42 (by decide +kernel)
theorem dX8_undo_29 : decode cX8_undo 29 = .ok (.getfield 32, 3) := zy_u2 (b1 := 0) (b2 := 32) zK_180 (by decide +kernel)
theorem dX8_undo_32 : decode cX8_undo 32 = .ok (.bipush 23, 2) := zy_s1 (b1 := 23) zK_16 (by decide +kernel) (by decide +kernel)
theorem dX8_undo_34 : decode cX8_undo 34 = .ok (.aload_n 0, 1) := zy_0 zK_42 (by decide +kernel)
theorem dX8_undo_35 : decode cX8_undo 35 = .ok (.getfield 176, 3) := zy_u2 (b1 := 0) (b2 := 176) zK_180 (by decide +kernel)
theorem dX8_undo_38 : decode cX8_undo 38 = .ok (.imul, 1) := zy_0 zK_104 (by decide +kernel)
theorem dX8_undo_39 : decode cX8_undo 39 = .ok (.aload_n 0, 1) := zy_0 zK_42 (by decide +kernel)
theorem dX8_undo_40 : decode cX8_undo 40 = .ok (.getfield 26, 3) := zy_u2 (b1 := 0) (b2 := 26) zK_180 (by decide +kernel)
theorem dX8_undo_43 : decode cX8_undo 43 = .ok (.iconst 0, 1) := zy_0 zK_3 (by decide +kernel)
theorem dX8_undo_44 : decode cX8_undo 44 = .ok (.bipush 23, 2) := zy_s1 (b1 := 23) zK_16 (by decide +kernel) (by decide +kernel)
theorem dX8_undo_46 : decode cX8_undo 46 = .ok (.invokestatic 169, 3) := zy_u2 (b1 := 0) (b2 := 169) zK_184 (by decide +kernel)
theorem dX8_undo_49 : decode cX8_undo 49 = .ok (.iconst 1, 1) := zy_0 zK_4 (by decide +kernel)
theorem dX8_undo_50 : decode cX8_undo 50 = .ok (.ireturn, 1) := zy_0 zK_172 (by decide +kernel)
theorem dX8_image_0 : decode cX8_image 0 = .ok (.aload_n 0, 1) := zy_0 zK_42 (by decide +kernel)
theorem dX8_image_1 : decode cX8_image 1 = .ok (.invokevirtual 160, 3) := zy_u2 (b1 := 0) (b2 := 160) zK_182 (by decide +kernel)
theorem dX8_image_4 : decode cX8_image 4 = .ok (.aload_n 0, 1) := zy_0 zK_42 (by decide +kernel)
theorem dX8_image_5 : decode cX8_image 5 = .ok (.getfield 173, 3) := zy_u2 (b1 := 0) (b2 := 173) zK_180 (by decide +kernel)
theorem dX8_image_8 : decode cX8_image 8 = .ok (.ifCond .ne 9, 3) := zy_s2 (b1 := 0) (b2 := 9) zK_154 (by decide +kernel) (by decide +kernel)
theorem dX8_image_11 : decode cX8_image 11 = .ok (.aload_n 0, 1) := zy_0 zK_42 (by decide +kernel)
theorem dX8_image_12 : decode cX8_image 12 = .ok (.iconst 1, 1) := zy_0 zK_4 (by decide +kernel)
theorem dX8_image_13 : decode cX8_image 13 = .ok (.invokevirtual 163, 3) := zy_u2 (b1 := 0) (b2 := 163) zK_182 (by decide +kernel)
theorem dX8_image_16 : decode cX8_image 16 = .ok (.ireturn, 1) := zy_0 zK_172 (by decide +kernel)
theorem dX8_image_17 : decode cX8_image 17 = .ok (.aload_n 0, 1) := zy_0 zK_42 (by decide +kernel)
theorem dX8_image_18 : decode cX8_image 18 = .ok (.getfield 179, 3) := zy_u2 (b1 := 0) (b2 := 179) zK_180 (by decide +kernel)
theorem dX8_image_21 : decode cX8_image 21 = .ok (.iconst 3, 1) := zy_0 zK_6 (by decide +kernel)
theorem dX8_image_22 : decode cX8_image 22 = .ok (.if_icmp .ne 9, 3) := zy_s2 (b1 := 0) (b2 := 9) zK_160 (by decide +kernel) (by decide +kernel)
theorem dX8_image_25 : decode cX8_image 25 = .ok (.aload_n 0, 1) := zy_0 zK_42 (by decide +kernel)
theorem dX8_image_26 : decode cX8_image 26 = .ok (.iconst 3, 1) := zy_0 zK_6 (by decide +kernel)
theorem dX8_image_27 : decode cX8_image 27 = .ok (.invokevirtual 163, 3) := zy_u2 (b1 := 0) (b2 := 163) zK_182 (by decide +kernel)
theorem dX8_image_30 : decode cX8_image 30 = .ok (.ireturn, 1) := zy_0 zK_172 (by decide +kernel)
theorem dX8_image_31 : decode cX8_image 31 = .ok (.aload_n 0, 1) := zy_0 zK_42 (by decide +kernel)
theorem dX8_image_32 : decode cX8_image 32 = .ok (.getfield 26, 3) := zy_u2 (b1 := 0) (b2 := 26) zK_180 (by decide +kernel)
theorem dX8_image_35 : decode cX8_image 35 = .ok (.iconst 0, 1) := zy_0 zK_3 (by decide +kernel)
theorem dX8_image_36 : decode cX8_image 36 = .ok (.aload_n 0, 1) := zy_0 zK_42 (by decide +kernel)
theorem dX8_image_37 : decode cX8_image 37 = .ok (.getfield 35, 3) := zy_u2 (b1 := 0) (b2 := 35) zK_180 (by decide +kernel)
theorem dX8_image_40 : decode cX8_image 40 = .ok (.bipush 23, 2) := zy_s1 (b1 := 23) zK_16 (by decide +kernel) (by decide +kernel)
theorem dX8_image_42 : decode cX8_image 42 = .ok (.aload_n 0, 1) := zy_0 zK_42 (by decide +kernel)
theorem dX8_image_43 : decode cX8_image 43 = .ok (.getfield 179, 3) := zy_u2 (b1 := 0) (b2 := 179) zK_180 (by decide +kernel)
theorem dX8_image_46 : decode cX8_image 46 = .ok (.imul, 1) := zy_0 zK_104 (by decide +kernel)
theorem dX8_image_47 : decode cX8_image 47 = .ok (.bipush 23, 2) := zy_s1 (b1 := 23) zK_16 (by decide +kernel) (by decide +kernel)
theorem dX8_image_49 : decode cX8_image 49 = .ok (.invokestatic 169, 3) := zy_u2 (b1 := 0) (b2 := 169) zK_184 (by decide +kernel)
theorem dX8_image_52 : decode cX8_image 52 = .ok (.aload_n 0, 1) := zy_0 zK_42 (by decide +kernel)
theorem dX8_image_53 : decode cX8_image 53 = .ok (.dup, 1) := zy_0 zK_89 (by decide +kernel)
theorem dX8_image_54 : decode cX8_image 54 = .ok (.getfield 179, 3) := zy_u2 (b1 := 0) (b2 := 179) zK_180 (by decide +kernel)
theorem dX8_image_57 : decode cX8_image 57 = .ok (.iconst 1, 1) := zy_0 zK_4 (by decide +kernel)
theorem dX8_image_58 : decode cX8_image 58 = .ok (.iadd, 1) := zy_0 zK_96 (by decide +kernel)
theorem dX8_image_59 : decode cX8_image 59 = .ok (.putfield 179, 3) := zy_u2 (b1 := 0) (b2 := 179) zK_181 (by decide +kernel)
theorem dX8_image_62 : decode cX8_image 62 = .ok (.aload_n 0, 1) := zy_0 zK_42 (by decide +kernel)
theorem dX8_image_63 : decode cX8_image 63 = .ok (.getfield 179, 3) := zy_u2 (b1 := 0) (b2 := 179) zK_180 (by decide +kernel)
theorem dX8_image_66 : decode cX8_image 66 = .ok (.iconst 1, 1) := zy_0 zK_4 (by decide +kernel)
theorem dX8_image_67 : decode cX8_image 67 = .ok (.isub, 1) := zy_0 zK_100 (by decide +kernel)
theorem dX8_image_68 : decode cX8_image 68 = .ok (.ireturn, 1) := zy_0 zK_172 (by decide +kernel)
theorem dX8_back_0 : decode cX8_back 0 = .ok (.aload_n 0, 1) := zy_0 zK_42 (by decide +kernel)
theorem dX8_back_1 : decode cX8_back 1 = .ok (.invokevirtual 160, 3) := zy_u2 (b1 := 0) (b2 := 160) zK_182 (by decide +kernel)
theorem dX8_back_4 : decode cX8_back 4 = .ok (.iload_n 1, 1) := zy_0 zK_27 (by decide +kernel)
theorem dX8_back_5 : decode cX8_back 5 = .ok (.iconst 0, 1) := zy_0 zK_3 (by decide +kernel)
theorem dX8_back_6 : decode cX8_back 6 = .ok (.aload_n 0, 1) := zy_0 zK_42 (by decide +kernel)
theorem dX8_back_7 : decode cX8_back 7 = .ok (.getfield 179, 3) := zy_u2 (b1 := 0) (b2 := 179) zK_180 (by decide +kernel)
theorem dX8_back_10 : decode cX8_back 10 = .ok (.iconst 1, 1) := zy_0 zK_4 (by decide +kernel)
theorem dX8_back_11 : decode cX8_back 11 = .ok (.isub, 1) := zy_0 zK_100 (by decide +kernel)
theorem dX8_back_12 : decode cX8_back 12 = .ok (.invokestatic 142, 3) := zy_u2 (b1 := 0) (b2 := 142) zK_184 (by decide +kernel)
theorem dX8_back_15 : decode cX8_back 15 = .ok (.ifCond .ne 9, 3) := zy_s2 (b1 := 0) (b2 := 9) zK_154 (by decide +kernel) (by decide +kernel)
theorem dX8_back_18 : decode cX8_back 18 = .ok (.aload_n 0, 1) := zy_0 zK_42 (by decide +kernel)
theorem dX8_back_19 : decode cX8_back 19 = .ok (.iconst 1, 1) := zy_0 zK_4 (by decide +kernel)
theorem dX8_back_20 : decode cX8_back 20 = .ok (.invokevirtual 389, 3) := zy_u2 (b1 := 1) (b2 := 133) zK_182 (by decide +kernel)
theorem dX8_back_23 : decode cX8_back 23 = .ok (.ireturn, 1) := zy_0 zK_172 (by decide +kernel)
theorem dX8_back_24 : decode cX8_back 24 = .ok (.aload_n 0, 1) := zy_0 zK_42 (by decide +kernel)
theorem dX8_back_25 : decode cX8_back 25 = .ok (.getfield 35, 3) := zy_u2 (b1 := 0) (b2 := 35) zK_180 (by decide +kernel)
theorem dX8_back_28 : decode cX8_back 28 = .ok (.bipush 23, 2) := zy_s1 (b1 := 23) zK_16 (by decide +kernel) (by decide +kernel)
theorem dX8_back_30 : decode cX8_back 30 = .ok (.iload_n 1, 1) := zy_0 zK_27 (by decide +kernel)
theorem dX8_back_31 : decode cX8_back 31 = .ok (.imul, 1) := zy_0 zK_104 (by decide +kernel)
theorem dX8_back_32 : decode cX8_back 32 = .ok (.aload_n 0, 1) := zy_0 zK_42 (by decide +kernel)
theorem dX8_back_33 : decode cX8_back 33 = .ok (.getfield 26, 3) := zy_u2 (b1 := 0) (b2 := 26) zK_180 (by decide +kernel)
theorem dX8_back_36 : decode cX8_back 36 = .ok (.iconst 0, 1) := zy_0 zK_3 (by decide +kernel)
theorem dX8_back_37 : decode cX8_back 37 = .ok (.bipush 23, 2) := zy_s1 (b1 := 23) zK_16 (by decide +kernel) (by decide +kernel)
theorem dX8_back_39 : decode cX8_back 39 = .ok (.invokestatic 169, 3) := zy_u2 (b1 := 0) (b2 := 169) zK_184 (by decide +kernel)
theorem dX8_back_42 : decode cX8_back 42 = .ok (.aload_n 0, 1) := zy_0 zK_42 (by decide +kernel)
theorem dX8_back_43 : decode cX8_back 43 = .ok (.iconst 0, 1) := zy_0 zK_3 (by decide +kernel)
theorem dX8_back_44 : decode cX8_back 44 = .ok (.putfield 176, 3) := zy_u2 (b1 := 0) (b2 := 176) zK_181 (by decide +kernel)
theorem dX8_back_47 : decode cX8_back 47 = .ok (.iconst 1, 1) := zy_0 zK_4 (by decide +kernel)
theorem dX8_back_48 : decode cX8_back 48 = .ok (.ireturn, 1) := zy_0 zK_172 (by decide +kernel)
theorem dX8_led_0 : decode cX8_led 0 = .ok (.iconst 0, 1) := zy_0 zK_3 (by decide +kernel)
theorem dX8_led_1 : decode cX8_led 1 = .ok (.istore_n 2, 1) := zy_0 zK_61 (by decide +kernel)
theorem dX8_led_2 : decode cX8_led 2 = .ok (.iconst 0, 1) := zy_0 zK_3 (by decide +kernel)
theorem dX8_led_3 : decode cX8_led 3 = .ok (.istore_n 3, 1) := zy_0 zK_62 (by decide +kernel)
theorem dX8_led_4 : decode cX8_led 4 = .ok (.aload_n 0, 1) := zy_0 zK_42 (by decide +kernel)
theorem dX8_led_5 : decode cX8_led 5 = .ok (.getfield 173, 3) := zy_u2 (b1 := 0) (b2 := 173) zK_180 (by decide +kernel)
theorem dX8_led_8 : decode cX8_led 8 = .ok (.ifCond .eq 47, 3) := zy_s2 (b1 := 0) (b2 := 47) zK_153 (by decide +kernel) (by decide +kernel)
theorem dX8_led_11 : decode cX8_led 11 = .ok (.iload_n 3, 1) := zy_0 zK_29 (by decide +kernel)
theorem dX8_led_12 : decode cX8_led 12 = .ok (.aload_n 0, 1) := zy_0 zK_42 (by decide +kernel)
theorem dX8_led_13 : decode cX8_led 13 = .ok (.getfield 20, 3) := zy_u2 (b1 := 0) (b2 := 20) zK_180 (by decide +kernel)
theorem dX8_led_16 : decode cX8_led 16 = .ok (.iconst 0, 1) := zy_0 zK_3 (by decide +kernel)
theorem dX8_led_17 : decode cX8_led 17 = .ok (.iaload, 1) := zy_0 zK_46 (by decide +kernel)
theorem dX8_led_18 : decode cX8_led 18 = .ok (.if_icmp .ge 37, 3) := zy_s2 (b1 := 0) (b2 := 37) zK_162 (by decide +kernel) (by decide +kernel)
theorem dX8_led_21 : decode cX8_led 21 = .ok (.aload_n 0, 1) := zy_0 zK_42 (by decide +kernel)
theorem dX8_led_22 : decode cX8_led 22 = .ok (.getfield 26, 3) := zy_u2 (b1 := 0) (b2 := 26) zK_180 (by decide +kernel)
theorem dX8_led_25 : decode cX8_led 25 = .ok (.iload_n 3, 1) := zy_0 zK_29 (by decide +kernel)
theorem dX8_led_26 : decode cX8_led 26 = .ok (.iaload, 1) := zy_0 zK_46 (by decide +kernel)
theorem dX8_led_27 : decode cX8_led 27 = .ok (.iload_n 3, 1) := zy_0 zK_29 (by decide +kernel)
theorem dX8_led_28 : decode cX8_led 28 = .ok (.if_icmp .ne 6, 3) := zy_s2 (b1 := 0) (b2 := 6) zK_160 (by decide +kernel) (by decide +kernel)
theorem dX8_led_31 : decode cX8_led 31 = .ok (.goto 18, 3) := zy_s2 (b1 := 0) (b2 := 18) zK_167 (by decide +kernel) (by decide +kernel)
theorem dX8_led_34 : decode cX8_led 34 = .ok (.iload_n 2, 1) := zy_0 zK_28 (by decide +kernel)
theorem dX8_led_35 : decode cX8_led 35 = .ok (.iload_n 1, 1) := zy_0 zK_27 (by decide +kernel)
theorem dX8_led_36 : decode cX8_led 36 = .ok (.if_icmp .ne 10, 3) := zy_s2 (b1 := 0) (b2 := 10) zK_160 (by decide +kernel) (by decide +kernel)
theorem dX8_led_39 : decode cX8_led 39 = .ok (.aload_n 0, 1) := zy_0 zK_42 (by decide +kernel)
theorem dX8_led_40 : decode cX8_led 40 = .ok (.iconst 0, 1) := zy_0 zK_3 (by decide +kernel)
theorem dX8_led_41 : decode cX8_led 41 = .ok (.putfield 59, 3) := zy_u2 (b1 := 0) (b2 := 59) zK_181 (by decide +kernel)
theorem dX8_led_44 : decode cX8_led 44 = .ok (.iload_n 3, 1) := zy_0 zK_29 (by decide +kernel)
theorem dX8_led_45 : decode cX8_led 45 = .ok (.ireturn, 1) := zy_0 zK_172 (by decide +kernel)
theorem dX8_led_46 : decode cX8_led 46 = .ok (.iinc 2 1, 3) := zy_ii (b1 := 2) (b2 := 1) zK_132 (by decide +kernel) (by decide +kernel)
theorem dX8_led_49 : decode cX8_led 49 = .ok (.iinc 3 1, 3) := zy_ii (b1 := 3) (b2 := 1) zK_132 (by decide +kernel) (by decide +kernel)
theorem dX8_led_52 : decode cX8_led 52 = .ok (.goto (-48), 3) := zy_s2 (b1 := 255) (b2 := 208) zK_167 (by decide +kernel) (by decide +kernel)
theorem dX8_led_55 : decode cX8_led 55 = .ok (.aload_n 0, 1) := zy_0 zK_42 (by decide +kernel)
theorem dX8_led_56 : decode cX8_led 56 = .ok (.iconst 1, 1) := zy_0 zK_4 (by decide +kernel)
theorem dX8_led_57 : decode cX8_led 57 = .ok (.putfield 59, 3) := zy_u2 (b1 := 0) (b2 := 59) zK_181 (by decide +kernel)
theorem dX8_led_60 : decode cX8_led 60 = .ok (.iconst 0, 1) := zy_0 zK_3 (by decide +kernel)
theorem dX8_led_61 : decode cX8_led 61 = .ok (.ireturn, 1) := zy_0 zK_172 (by decide +kernel)
theorem dX8_size_0 : decode cX8_size 0 = .ok (.aload_n 0, 1) := zy_0 zK_42 (by decide +kernel)
theorem dX8_size_1 : decode cX8_size 1 = .ok (.iconst 0, 1) := zy_0 zK_3 (by decide +kernel)
theorem dX8_size_2 : decode cX8_size 2 = .ok (.putfield 59, 3) := zy_u2 (b1 := 0) (b2 := 59) zK_181 (by decide +kernel)
theorem dX8_size_5 : decode cX8_size 5 = .ok (.iload_n 1, 1) := zy_0 zK_27 (by decide +kernel)
theorem dX8_size_6 : decode cX8_size 6 = .ok (.bipush 13, 2) := zy_s1 (b1 := 13) zK_16 (by decide +kernel) (by decide +kernel)
theorem dX8_size_8 : decode cX8_size 8 = .ok (.if_icmp .ne 8, 3) := zy_s2 (b1 := 0) (b2 := 8) zK_160 (by decide +kernel) (by decide +kernel)
theorem dX8_size_11 : decode cX8_size 11 = .ok (.aload_n 0, 1) := zy_0 zK_42 (by decide +kernel)
theorem dX8_size_12 : decode cX8_size 12 = .ok (.getfield 65, 3) := zy_u2 (b1 := 0) (b2 := 65) zK_180 (by decide +kernel)
theorem dX8_size_15 : decode cX8_size 15 = .ok (.ireturn, 1) := zy_0 zK_172 (by decide +kernel)
theorem dX8_size_16 : decode cX8_size 16 = .ok (.aload_n 0, 1) := zy_0 zK_42 (by decide +kernel)
theorem dX8_size_17 : decode cX8_size 17 = .ok (.getfield 173, 3) := zy_u2 (b1 := 0) (b2 := 173) zK_180 (by decide +kernel)
theorem dX8_size_20 : decode cX8_size 20 = .ok (.ifCond .ne 19, 3) := zy_s2 (b1 := 0) (b2 := 19) zK_154 (by decide +kernel) (by decide +kernel)
theorem dX8_size_23 : decode cX8_size 23 = .ok (.iload_n 1, 1) := zy_0 zK_27 (by decide +kernel)
theorem dX8_size_24 : decode cX8_size 24 = .ok (.iconst 0, 1) := zy_0 zK_3 (by decide +kernel)
theorem dX8_size_25 : decode cX8_size 25 = .ok (.bipush 12, 2) := zy_s1 (b1 := 12) zK_16 (by decide +kernel) (by decide +kernel)
theorem dX8_size_27 : decode cX8_size 27 = .ok (.invokestatic 142, 3) := zy_u2 (b1 := 0) (b2 := 142) zK_184 (by decide +kernel)
theorem dX8_size_30 : decode cX8_size 30 = .ok (.ifCond .eq 7, 3) := zy_s2 (b1 := 0) (b2 := 7) zK_153 (by decide +kernel) (by decide +kernel)
theorem dX8_size_33 : decode cX8_size 33 = .ok (.iconst 0, 1) := zy_0 zK_3 (by decide +kernel)
theorem dX8_size_34 : decode cX8_size 34 = .ok (.goto 4, 3) := zy_s2 (b1 := 0) (b2 := 4) zK_167 (by decide +kernel) (by decide +kernel)
theorem dX8_size_37 : decode cX8_size 37 = .ok (.iconst (-1), 1) := zy_0 zK_2 (by decide +kernel)
theorem dX8_size_38 : decode cX8_size 38 = .ok (.ireturn, 1) := zy_0 zK_172 (by decide +kernel)
theorem dX8_size_39 : decode cX8_size 39 = .ok (.iload_n 1, 1) := zy_0 zK_27 (by decide +kernel)
theorem dX8_size_40 : decode cX8_size 40 = .ok (.iconst 0, 1) := zy_0 zK_3 (by decide +kernel)
theorem dX8_size_41 : decode cX8_size 41 = .ok (.bipush 9, 2) := zy_s1 (b1 := 9) zK_16 (by decide +kernel) (by decide +kernel)
theorem dX8_size_43 : decode cX8_size 43 = .ok (.invokestatic 142, 3) := zy_u2 (b1 := 0) (b2 := 142) zK_184 (by decide +kernel)
theorem dX8_size_46 : decode cX8_size 46 = .ok (.ifCond .eq 10, 3) := zy_s2 (b1 := 0) (b2 := 10) zK_153 (by decide +kernel) (by decide +kernel)
theorem dX8_size_49 : decode cX8_size 49 = .ok (.aload_n 0, 1) := zy_0 zK_42 (by decide +kernel)
theorem dX8_size_50 : decode cX8_size 50 = .ok (.getfield 20, 3) := zy_u2 (b1 := 0) (b2 := 20) zK_180 (by decide +kernel)
theorem dX8_size_53 : decode cX8_size 53 = .ok (.iload_n 1, 1) := zy_0 zK_27 (by decide +kernel)
theorem dX8_size_54 : decode cX8_size 54 = .ok (.iaload, 1) := zy_0 zK_46 (by decide +kernel)
theorem dX8_size_55 : decode cX8_size 55 = .ok (.ireturn, 1) := zy_0 zK_172 (by decide +kernel)
theorem dX8_size_56 : decode cX8_size 56 = .ok (.iload_n 1, 1) := zy_0 zK_27 (by decide +kernel)
theorem dX8_size_57 : decode cX8_size 57 = .ok (.bipush 10, 2) := zy_s1 (b1 := 10) zK_16 (by decide +kernel) (by decide +kernel)
theorem dX8_size_59 : decode cX8_size 59 = .ok (.if_icmp .ne 13, 3) := zy_s2 (b1 := 0) (b2 := 13) zK_160 (by decide +kernel) (by decide +kernel)
theorem dX8_size_62 : decode cX8_size 62 = .ok (.aload_n 0, 1) := zy_0 zK_42 (by decide +kernel)
theorem dX8_size_63 : decode cX8_size 63 = .ok (.getfield 26, 3) := zy_u2 (b1 := 0) (b2 := 26) zK_180 (by decide +kernel)
theorem dX8_size_66 : decode cX8_size 66 = .ok (.bipush 21, 2) := zy_s1 (b1 := 21) zK_16 (by decide +kernel) (by decide +kernel)
theorem dX8_size_68 : decode cX8_size 68 = .ok (.iaload, 1) := zy_0 zK_46 (by decide +kernel)
theorem dX8_size_69 : decode cX8_size 69 = .ok (.goto 30, 3) := zy_s2 (b1 := 0) (b2 := 30) zK_167 (by decide +kernel) (by decide +kernel)
theorem dX8_size_72 : decode cX8_size 72 = .ok (.iload_n 1, 1) := zy_0 zK_27 (by decide +kernel)
theorem dX8_size_73 : decode cX8_size 73 = .ok (.bipush 11, 2) := zy_s1 (b1 := 11) zK_16 (by decide +kernel) (by decide +kernel)
theorem dX8_size_75 : decode cX8_size 75 = .ok (.if_icmp .ne 10, 3) := zy_s2 (b1 := 0) (b2 := 10) zK_160 (by decide +kernel) (by decide +kernel)
theorem dX8_size_78 : decode cX8_size 78 = .ok (.aload_n 0, 1) := zy_0 zK_42 (by decide +kernel)
theorem dX8_size_79 : decode cX8_size 79 = .ok (.getfield 176, 3) := zy_u2 (b1 := 0) (b2 := 176) zK_180 (by decide +kernel)
theorem dX8_size_82 : decode cX8_size 82 = .ok (.goto 17, 3) := zy_s2 (b1 := 0) (b2 := 17) zK_167 (by decide +kernel) (by decide +kernel)
theorem dX8_size_85 : decode cX8_size 85 = .ok (.iload_n 1, 1) := zy_0 zK_27 (by decide +kernel)
theorem dX8_size_86 : decode cX8_size 86 = .ok (.bipush 12, 2) := zy_s1 (b1 := 12) zK_16 (by decide +kernel) (by decide +kernel)
theorem dX8_size_88 : decode cX8_size 88 = .ok (.if_icmp .ne 10, 3) := zy_s2 (b1 := 0) (b2 := 10) zK_160 (by decide +kernel) (by decide +kernel)
theorem dX8_size_91 : decode cX8_size 91 = .ok (.aload_n 0, 1) := zy_0 zK_42 (by decide +kernel)
theorem dX8_size_92 : decode cX8_size 92 = .ok (.getfield 179, 3) := zy_u2 (b1 := 0) (b2 := 179) zK_180 (by decide +kernel)
theorem dX8_size_95 : decode cX8_size 95 = .ok (.goto 4, 3) := zy_s2 (b1 := 0) (b2 := 4) zK_167 (by decide +kernel) (by decide +kernel)
theorem dX8_size_98 : decode cX8_size 98 = .ok (.iconst (-1), 1) := zy_0 zK_2 (by decide +kernel)
theorem dX8_size_99 : decode cX8_size 99 = .ok (.ireturn, 1) := zy_0 zK_172 (by decide +kernel)
theorem dX8_trouble_0 : decode cX8_trouble 0 = .ok (.aload_n 0, 1) := zy_0 zK_42 (by decide +kernel)
theorem dX8_trouble_1 : decode cX8_trouble 1 = .ok (.iconst 0, 1) := zy_0 zK_3 (by decide +kernel)
theorem dX8_trouble_2 : decode cX8_trouble 2 = .ok (.putfield 59, 3) := zy_u2 (b1 := 0) (b2 := 59) zK_181 (by decide +kernel)
theorem dX8_trouble_5 : decode cX8_trouble 5 = .ok (.aload_n 0, 1) := zy_0 zK_42 (by decide +kernel)
theorem dX8_trouble_6 : decode cX8_trouble 6 = .ok (.getfield 62, 3) := zy_u2 (b1 := 0) (b2 := 62) zK_180 (by decide +kernel)
theorem dX8_trouble_9 : decode cX8_trouble 9 = .ok (.ireturn, 1) := zy_0 zK_172 (by decide +kernel)
theorem dJ6_bitCount_0f7a4_0 : decode cJ6_bitCount_0f7a4 0 = .ok (.iload_n 0, 1) := zy_0 zK_26 (by decide +kernel)
theorem dJ6_bitCount_0f7a4_1 : decode cJ6_bitCount_0f7a4 1 = .ok (.iload_n 0, 1) := zy_0 zK_26 (by decide +kernel)
theorem dJ6_bitCount_0f7a4_2 : decode cJ6_bitCount_0f7a4 2 = .ok (.iconst 1, 1) := zy_0 zK_4 (by decide +kernel)
theorem dJ6_bitCount_0f7a4_3 : decode cJ6_bitCount_0f7a4 3 = .ok (.iushr, 1) := zy_0 zK_124 (by decide +kernel)
theorem dJ6_bitCount_0f7a4_4 : decode cJ6_bitCount_0f7a4 4 = .ok (.ldc_w 265, 3) := zy_u2 (b1 := 1) (b2 := 9) zK_19 (by decide +kernel)
theorem dJ6_bitCount_0f7a4_7 : decode cJ6_bitCount_0f7a4 7 = .ok (.iand, 1) := zy_0 zK_126 (by decide +kernel)
theorem dJ6_bitCount_0f7a4_8 : decode cJ6_bitCount_0f7a4 8 = .ok (.isub, 1) := zy_0 zK_100 (by decide +kernel)
theorem dJ6_bitCount_0f7a4_9 : decode cJ6_bitCount_0f7a4 9 = .ok (.istore_n 0, 1) := zy_0 zK_59 (by decide +kernel)
theorem dJ6_bitCount_0f7a4_10 : decode cJ6_bitCount_0f7a4 10 = .ok (.iload_n 0, 1) := zy_0 zK_26 (by decide +kernel)
theorem dJ6_bitCount_0f7a4_11 : decode cJ6_bitCount_0f7a4 11 = .ok (.ldc_w 266, 3) := zy_u2 (b1 := 1) (b2 := 10) zK_19 (by decide +kernel)
theorem dJ6_bitCount_0f7a4_14 : decode cJ6_bitCount_0f7a4 14 = .ok (.iand, 1) := zy_0 zK_126 (by decide +kernel)
theorem dJ6_bitCount_0f7a4_15 : decode cJ6_bitCount_0f7a4 15 = .ok (.iload_n 0, 1) := zy_0 zK_26 (by decide +kernel)
theorem dJ6_bitCount_0f7a4_16 : decode cJ6_bitCount_0f7a4 16 = .ok (.iconst 2, 1) := zy_0 zK_5 (by decide +kernel)
theorem dJ6_bitCount_0f7a4_17 : decode cJ6_bitCount_0f7a4 17 = .ok (.iushr, 1) := zy_0 zK_124 (by decide +kernel)
theorem dJ6_bitCount_0f7a4_18 : decode cJ6_bitCount_0f7a4 18 = .ok (.ldc_w 266, 3) := zy_u2 (b1 := 1) (b2 := 10) zK_19 (by decide +kernel)
theorem dJ6_bitCount_0f7a4_21 : decode cJ6_bitCount_0f7a4 21 = .ok (.iand, 1) := zy_0 zK_126 (by decide +kernel)
theorem dJ6_bitCount_0f7a4_22 : decode cJ6_bitCount_0f7a4 22 = .ok (.iadd, 1) := zy_0 zK_96 (by decide +kernel)
theorem dJ6_bitCount_0f7a4_23 : decode cJ6_bitCount_0f7a4 23 = .ok (.istore_n 0, 1) := zy_0 zK_59 (by decide +kernel)
theorem dJ6_bitCount_0f7a4_24 : decode cJ6_bitCount_0f7a4 24 = .ok (.iload_n 0, 1) := zy_0 zK_26 (by decide +kernel)
theorem dJ6_bitCount_0f7a4_25 : decode cJ6_bitCount_0f7a4 25 = .ok (.iload_n 0, 1) := zy_0 zK_26 (by decide +kernel)
theorem dJ6_bitCount_0f7a4_26 : decode cJ6_bitCount_0f7a4 26 = .ok (.iconst 4, 1) := zy_0 zK_7 (by decide +kernel)
theorem dJ6_bitCount_0f7a4_27 : decode cJ6_bitCount_0f7a4 27 = .ok (.iushr, 1) := zy_0 zK_124 (by decide +kernel)
theorem dJ6_bitCount_0f7a4_28 : decode cJ6_bitCount_0f7a4 28 = .ok (.iadd, 1) := zy_0 zK_96 (by decide +kernel)
theorem dJ6_bitCount_0f7a4_29 : decode cJ6_bitCount_0f7a4 29 = .ok (.ldc_w 267, 3) := zy_u2 (b1 := 1) (b2 := 11) zK_19 (by decide +kernel)
theorem dJ6_bitCount_0f7a4_32 : decode cJ6_bitCount_0f7a4 32 = .ok (.iand, 1) := zy_0 zK_126 (by decide +kernel)
theorem dJ6_bitCount_0f7a4_33 : decode cJ6_bitCount_0f7a4 33 = .ok (.istore_n 0, 1) := zy_0 zK_59 (by decide +kernel)
theorem dJ6_bitCount_0f7a4_34 : decode cJ6_bitCount_0f7a4 34 = .ok (.iload_n 0, 1) := zy_0 zK_26 (by decide +kernel)
theorem dJ6_bitCount_0f7a4_35 : decode cJ6_bitCount_0f7a4 35 = .ok (.iload_n 0, 1) := zy_0 zK_26 (by decide +kernel)
theorem dJ6_bitCount_0f7a4_36 : decode cJ6_bitCount_0f7a4 36 = .ok (.bipush 8, 2) := zy_s1 (b1 := 8) zK_16 (by decide +kernel) (by decide +kernel)
theorem dJ6_bitCount_0f7a4_38 : decode cJ6_bitCount_0f7a4 38 = .ok (.iushr, 1) := zy_0 zK_124 (by decide +kernel)
theorem dJ6_bitCount_0f7a4_39 : decode cJ6_bitCount_0f7a4 39 = .ok (.iadd, 1) := zy_0 zK_96 (by decide +kernel)
theorem dJ6_bitCount_0f7a4_40 : decode cJ6_bitCount_0f7a4 40 = .ok (.istore_n 0, 1) := zy_0 zK_59 (by decide +kernel)
theorem dJ6_bitCount_0f7a4_41 : decode cJ6_bitCount_0f7a4 41 = .ok (.iload_n 0, 1) := zy_0 zK_26 (by decide +kernel)
theorem dJ6_bitCount_0f7a4_42 : decode cJ6_bitCount_0f7a4 42 = .ok (.iload_n 0, 1) := zy_0 zK_26 (by decide +kernel)
theorem dJ6_bitCount_0f7a4_43 : decode cJ6_bitCount_0f7a4 43 = .ok (.bipush 16, 2) := zy_s1 (b1 := 16) zK_16 (by decide +kernel) (by decide +kernel)
theorem dJ6_bitCount_0f7a4_45 : decode cJ6_bitCount_0f7a4 45 = .ok (.iushr, 1) := zy_0 zK_124 (by decide +kernel)
theorem dJ6_bitCount_0f7a4_46 : decode cJ6_bitCount_0f7a4 46 = .ok (.iadd, 1) := zy_0 zK_96 (by decide +kernel)
theorem dJ6_bitCount_0f7a4_47 : decode cJ6_bitCount_0f7a4 47 = .ok (.istore_n 0, 1) := zy_0 zK_59 (by decide +kernel)
theorem dJ6_bitCount_0f7a4_48 : decode cJ6_bitCount_0f7a4 48 = .ok (.iload_n 0, 1) := zy_0 zK_26 (by decide +kernel)
theorem dJ6_bitCount_0f7a4_49 : decode cJ6_bitCount_0f7a4 49 = .ok (.bipush 63, 2) := zy_s1 (b1 := 63) zK_16 (by decide +kernel) (by decide +kernel)
theorem dJ6_bitCount_0f7a4_51 : decode cJ6_bitCount_0f7a4 51 = .ok (.iand, 1) := zy_0 zK_126 (by decide +kernel)
theorem dJ6_bitCount_0f7a4_52 : decode cJ6_bitCount_0f7a4 52 = .ok (.ireturn, 1) := zy_0 zK_172 (by decide +kernel)
theorem dJ0_length_8abf5_0 : decode cJ0_length_8abf5 0 = .ok (.aload_n 0, 1) := zy_0 zK_42 (by decide +kernel)
theorem dJ0_length_8abf5_1 : decode cJ0_length_8abf5 1 = .ok (.getfield 9, 3) := zy_u2 (b1 := 0) (b2 := 9) zK_180 (by decide +kernel)
theorem dJ0_length_8abf5_4 : decode cJ0_length_8abf5 4 = .ok (.arraylength, 1) := zy_0 zK_190 (by decide +kernel)
theorem dJ0_length_8abf5_5 : decode cJ0_length_8abf5 5 = .ok (.aload_n 0, 1) := zy_0 zK_42 (by decide +kernel)
theorem dJ0_length_8abf5_6 : decode cJ0_length_8abf5 6 = .ok (.invokevirtual 335, 3) := zy_u2 (b1 := 1) (b2 := 79) zK_182 (by decide +kernel)
theorem dJ0_length_8abf5_9 : decode cJ0_length_8abf5 9 = .ok (.ishr, 1) := zy_0 zK_122 (by decide +kernel)
theorem dJ0_length_8abf5_10 : decode cJ0_length_8abf5 10 = .ok (.ireturn, 1) := zy_0 zK_172 (by decide +kernel)
theorem dJ0_charAt_5068e_0 : decode cJ0_charAt_5068e 0 = .ok (.aload_n 0, 1) := zy_0 zK_42 (by decide +kernel)
theorem dJ0_charAt_5068e_1 : decode cJ0_charAt_5068e 1 = .ok (.invokevirtual 492, 3) := zy_u2 (b1 := 1) (b2 := 236) zK_182 (by decide +kernel)
theorem dJ0_charAt_5068e_4 : decode cJ0_charAt_5068e 4 = .ok (.ifCond .eq 12, 3) := zy_s2 (b1 := 0) (b2 := 12) zK_153 (by decide +kernel) (by decide +kernel)
theorem dJ0_charAt_5068e_7 : decode cJ0_charAt_5068e 7 = .ok (.aload_n 0, 1) := zy_0 zK_42 (by decide +kernel)
theorem dJ0_charAt_5068e_8 : decode cJ0_charAt_5068e 8 = .ok (.getfield 9, 3) := zy_u2 (b1 := 0) (b2 := 9) zK_180 (by decide +kernel)
theorem dJ0_charAt_5068e_11 : decode cJ0_charAt_5068e 11 = .ok (.iload_n 1, 1) := zy_0 zK_27 (by decide +kernel)
theorem dJ0_charAt_5068e_12 : decode cJ0_charAt_5068e 12 = .ok (.invokestatic 495, 3) := zy_u2 (b1 := 1) (b2 := 239) zK_184 (by decide +kernel)
theorem dJ0_charAt_5068e_15 : decode cJ0_charAt_5068e 15 = .ok (.ireturn, 1) := zy_0 zK_172 (by decide +kernel)
theorem dJ0_coder_7d493_0 : decode cJ0_coder_7d493 0 = .ok (.getstatic 38, 3) := zy_u2 (b1 := 0) (b2 := 38) zK_178 (by decide +kernel)
theorem dJ0_coder_7d493_3 : decode cJ0_coder_7d493 3 = .ok (.ifCond .eq 10, 3) := zy_s2 (b1 := 0) (b2 := 10) zK_153 (by decide +kernel) (by decide +kernel)
theorem dJ0_coder_7d493_6 : decode cJ0_coder_7d493 6 = .ok (.aload_n 0, 1) := zy_0 zK_42 (by decide +kernel)
theorem dJ0_coder_7d493_7 : decode cJ0_coder_7d493 7 = .ok (.getfield 15, 3) := zy_u2 (b1 := 0) (b2 := 15) zK_180 (by decide +kernel)
theorem dJ0_coder_7d493_10 : decode cJ0_coder_7d493 10 = .ok (.goto 4, 3) := zy_s2 (b1 := 0) (b2 := 4) zK_167 (by decide +kernel) (by decide +kernel)
theorem dJ0_coder_7d493_14 : decode cJ0_coder_7d493 14 = .ok (.ireturn, 1) := zy_0 zK_172 (by decide +kernel)
theorem dJ0_isLatin1_aae02_0 : decode cJ0_isLatin1_aae02 0 = .ok (.getstatic 38, 3) := zy_u2 (b1 := 0) (b2 := 38) zK_178 (by decide +kernel)
theorem dJ0_isLatin1_aae02_3 : decode cJ0_isLatin1_aae02 3 = .ok (.ifCond .eq 14, 3) := zy_s2 (b1 := 0) (b2 := 14) zK_153 (by decide +kernel) (by decide +kernel)
theorem dJ0_isLatin1_aae02_6 : decode cJ0_isLatin1_aae02 6 = .ok (.aload_n 0, 1) := zy_0 zK_42 (by decide +kernel)
theorem dJ0_isLatin1_aae02_7 : decode cJ0_isLatin1_aae02 7 = .ok (.getfield 15, 3) := zy_u2 (b1 := 0) (b2 := 15) zK_180 (by decide +kernel)
theorem dJ0_isLatin1_aae02_10 : decode cJ0_isLatin1_aae02 10 = .ok (.ifCond .ne 7, 3) := zy_s2 (b1 := 0) (b2 := 7) zK_154 (by decide +kernel) (by decide +kernel)
theorem dJ0_isLatin1_aae02_13 : decode cJ0_isLatin1_aae02 13 = .ok (.iconst 1, 1) := zy_0 zK_4 (by decide +kernel)
theorem dJ0_isLatin1_aae02_14 : decode cJ0_isLatin1_aae02 14 = .ok (.goto 4, 3) := zy_s2 (b1 := 0) (b2 := 4) zK_167 (by decide +kernel) (by decide +kernel)
theorem dJ0_isLatin1_aae02_18 : decode cJ0_isLatin1_aae02 18 = .ok (.ireturn, 1) := zy_0 zK_172 (by decide +kernel)
theorem dJ0_checkIndex_df160_0 : decode cJ0_checkIndex_df160 0 = .ok (.iload_n 0, 1) := zy_0 zK_26 (by decide +kernel)
theorem dJ0_checkIndex_df160_1 : decode cJ0_checkIndex_df160 1 = .ok (.iload_n 1, 1) := zy_0 zK_27 (by decide +kernel)
theorem dJ0_checkIndex_df160_2 : decode cJ0_checkIndex_df160 2 = .ok (.getstatic 1053, 3) := zy_u2 (b1 := 4) (b2 := 29) zK_178 (by decide +kernel)
theorem dJ0_checkIndex_df160_5 : decode cJ0_checkIndex_df160 5 = .ok (.invokestatic 1059, 3) := zy_u2 (b1 := 4) (b2 := 35) zK_184 (by decide +kernel)
theorem dJ0_checkIndex_df160_8 : decode cJ0_checkIndex_df160 8 = .ok (.pop, 1) := zy_0 zK_87 (by decide +kernel)
theorem dJ0_checkIndex_df160_9 : decode cJ0_checkIndex_df160 9 = .ok (.return_, 1) := zy_0 zK_177 (by decide +kernel)
theorem dJ1_charAt_3b067_0 : decode cJ1_charAt_3b067 0 = .ok (.iload_n 1, 1) := zy_0 zK_27 (by decide +kernel)
theorem dJ1_charAt_3b067_1 : decode cJ1_charAt_3b067 1 = .ok (.aload_n 0, 1) := zy_0 zK_42 (by decide +kernel)
theorem dJ1_charAt_3b067_2 : decode cJ1_charAt_3b067 2 = .ok (.arraylength, 1) := zy_0 zK_190 (by decide +kernel)
theorem dJ1_charAt_3b067_3 : decode cJ1_charAt_3b067 3 = .ok (.invokestatic 9, 3) := zy_u2 (b1 := 0) (b2 := 9) zK_184 (by decide +kernel)
theorem dJ1_charAt_3b067_6 : decode cJ1_charAt_3b067 6 = .ok (.aload_n 0, 1) := zy_0 zK_42 (by decide +kernel)
theorem dJ1_charAt_3b067_7 : decode cJ1_charAt_3b067 7 = .ok (.iload_n 1, 1) := zy_0 zK_27 (by decide +kernel)
theorem dJ1_charAt_3b067_8 : decode cJ1_charAt_3b067 8 = .ok (.baload, 1) := zy_0 zK_51 (by decide +kernel)
theorem dJ1_charAt_3b067_9 : decode cJ1_charAt_3b067 9 = .ok (.sipush 255, 3) := zy_s2 (b1 := 0) (b2 := 255) zK_17 (by decide +kernel) (by decide +kernel)
theorem dJ1_charAt_3b067_12 : decode cJ1_charAt_3b067 12 = .ok (.iand, 1) := zy_0 zK_126 (by decide +kernel)
theorem dJ1_charAt_3b067_13 : decode cJ1_charAt_3b067 13 = .ok (.i2c, 1) := zy_0 zK_146 (by decide +kernel)
theorem dJ1_charAt_3b067_14 : decode cJ1_charAt_3b067 14 = .ok (.ireturn, 1) := zy_0 zK_172 (by decide +kernel)
theorem dJ3_checkIndex_8e157_0 : decode cJ3_checkIndex_8e157 0 = .ok (.iload_n 0, 1) := zy_0 zK_26 (by decide +kernel)
theorem dJ3_checkIndex_8e157_1 : decode cJ3_checkIndex_8e157 1 = .ok (.ifCond .lt 8, 3) := zy_s2 (b1 := 0) (b2 := 8) zK_155 (by decide +kernel) (by decide +kernel)
theorem dJ3_checkIndex_8e157_4 : decode cJ3_checkIndex_8e157 4 = .ok (.iload_n 0, 1) := zy_0 zK_26 (by decide +kernel)
theorem dJ3_checkIndex_8e157_5 : decode cJ3_checkIndex_8e157 5 = .ok (.iload_n 1, 1) := zy_0 zK_27 (by decide +kernel)
theorem dJ3_checkIndex_8e157_6 : decode cJ3_checkIndex_8e157 6 = .ok (.if_icmp .lt 10, 3) := zy_s2 (b1 := 0) (b2 := 10) zK_161 (by decide +kernel) (by decide +kernel)
theorem dJ3_checkIndex_8e157_16 : decode cJ3_checkIndex_8e157 16 = .ok (.iload_n 0, 1) := zy_0 zK_26 (by decide +kernel)
theorem dJ3_checkIndex_8e157_17 : decode cJ3_checkIndex_8e157 17 = .ok (.ireturn, 1) := zy_0 zK_172 (by decide +kernel)
end P03_decode_11
section P04_good_00
set_option maxRecDepth 20000 in
theorem gX0_sizeTold_J6_bitCount_0f7a4 : GoodIn wsX0_sizeTold (va_wsS RX0 57 yJ6_bitCount_0f7a4 wsJ6_bitCount_0f7a4) := goodIn_s _ [(12, 7)] rfl (by decide +kernel)
set_option maxRecDepth 20000 in
theorem gX0_aliveByLaw_X7_laterTurn_n72 : GoodIn wsX0_aliveByLaw (wsX7_laterTurn) := goodIn_s _ [(5, 1)] rfl (by decide +kernel)
set_option maxRecDepth 20000 in
theorem gX0_goesLike_X0_next : GoodIn wsX0_goesLike (wsV RX0 76 RX0 yX0_next wsX0_next) := goodIn_s _ [(3, 5), (2, 1), (8, 17)] rfl (by decide +kernel)
set_option maxRecDepth 20000 in
theorem gX0_pass_X0_stepsIn : GoodIn wsX0_pass (wsV RX0 87 RX0 yX0_stepsIn wsX0_stepsIn) := goodIn_s _ [(7, 10), (76, 15)] rfl (by decide +kernel)
set_option maxRecDepth 20000 in
theorem gX0_pass_X0_step : GoodIn wsX0_pass (wsV RX0 91 RX0 yX0_step wsX0_step) := goodIn_s _ [(17, 3), (10, 1), (20, 1), (3, 2), (21, 10), (15, 1), (31, 4), (10, 1), (35, 14), (69, 26)] rfl (by decide +kernel)
set_option maxRecDepth 20000 in
theorem gX0_pass_X0_partSaid : GoodIn wsX0_pass (wsV RX0 95 RX0 yX0_partSaid wsX0_partSaid) := goodIn_s _ [(49, 3), (10, 1), (52, 1), (12, 5), (76, 15)] rfl (by decide +kernel)
set_option maxRecDepth 20000 in
theorem gX0_pass_X6_placesIn : GoodIn wsX0_pass (wsV RX0 105 RX6 yX6_placesIn wsX6_placesIn) := goodIn_s _ [(36, 10), (39, 1), (46, 3), (91, 4)] rfl (by decide +kernel)
set_option maxRecDepth 20000 in
theorem gX0_pass_X0_isHeardAt : GoodIn wsX0_pass (va_wsS RX0 108 yX0_isHeardAt wsX0_isHeardAt) := goodIn_s _ [(53, 2), (10, 1), (55, 1)] rfl (by decide +kernel)
set_option maxRecDepth 20000 in
theorem gX0_pass_X0_next : GoodIn wsX0_pass (wsV RX0 76 RX0 yX0_next wsX0_next) := goodIn_s _ [(56, 3), (10, 1), (59, 4), (76, 15)] rfl (by decide +kernel)
set_option maxRecDepth 20000 in
theorem gX0_pass_X5_startTurn : GoodIn wsX0_pass (wsV RX0 114 RX5 yX5_startTurn wsX5_startTurn) := goodIn_s _ [(63, 3), (27, 1), (66, 10)] rfl (by decide +kernel)
set_option maxRecDepth 20000 in
theorem gX0_stepsIn_X7_within_n118 : GoodIn wsX0_stepsIn (wsX7_within) := goodIn_s _ [(5, 1)] rfl (by decide +kernel)
set_option maxRecDepth 20000 in
theorem gX0_step_X5_isGone : GoodIn wsX0_step (wsV RX0 122 RX5 yX5_isGone wsX5_isGone) := goodIn_s _ [(6, 9), (33, 7)] rfl (by decide +kernel)
set_option maxRecDepth 20000 in
theorem gX0_step_X0_nearer : GoodIn wsX0_step (wsV RX0 126 RX0 yX0_nearer wsX0_nearer) := goodIn_s _ [(15, 5), (4, 1), (40, 15)] rfl (by decide +kernel)
set_option maxRecDepth 20000 in
theorem gX0_step_X6_placesIn : GoodIn wsX0_step (wsV RX0 105 RX6 yX6_placesIn wsX6_placesIn) := goodIn_s _ [(20, 10), (23, 1), (30, 3), (55, 4)] rfl (by decide +kernel)
set_option maxRecDepth 20000 in
theorem gX0_step_X7_hasBit_n129 : GoodIn wsX0_step (wsX7_hasBit) := goodIn_s _ [(14, 1)] rfl (by decide +kernel)
set_option maxRecDepth 20000 in
theorem gX0_partSaid_X7_within_n118 : GoodIn wsX0_partSaid (wsX7_within) := goodIn_s _ [(5, 1)] rfl (by decide +kernel)
set_option maxRecDepth 20000 in
theorem gX1_keep_X5_copyFrom : GoodIn wsX1_keep (wsV RX1 31 RX5 yX5_copyFrom wsX5_copyFrom) := goodIn_s _ [(8, 12), (25, 7)] rfl (by decide +kernel)
set_option maxRecDepth 20000 in
theorem gX1_takeLatest_X5_copyFrom : GoodIn wsX1_takeLatest (wsV RX1 31 RX5 yX5_copyFrom wsX5_copyFrom) := goodIn_s _ [(4, 12), (21, 7)] rfl (by decide +kernel)
set_option maxRecDepth 20000 in
theorem gX1_addImage_X5_copyFrom : GoodIn wsX1_addImage (wsV RX1 31 RX5 yX5_copyFrom wsX5_copyFrom) := goodIn_s _ [(3, 12), (20, 7)] rfl (by decide +kernel)
set_option maxRecDepth 20000 in
theorem gX1_goBack_X7_within_n41 : GoodIn wsX1_goBack (wsX7_within) := goodIn_s _ [(6, 1)] rfl (by decide +kernel)
set_option maxRecDepth 20000 in
theorem gX1_goBack_X5_copyFrom : GoodIn wsX1_goBack (wsV RX1 31 RX5 yX5_copyFrom wsX5_copyFrom) := goodIn_s _ [(7, 12), (24, 7)] rfl (by decide +kernel)
set_option maxRecDepth 20000 in
theorem gX2_list_X2_addIfFit : GoodIn wsX2_list (wsV RX2 34 RX2 yX2_addIfFit wsX2_addIfFit) := goodIn_s _ [(4, 8), (2, 1), (12, 11), (30, 15), (23, 7)] rfl (by decide +kernel)
set_option maxRecDepth 20000 in
theorem gX2_addIfFit_X0_aliveByLaw : GoodIn wsX2_addIfFit (wsV RX2 44 RX0 yX0_aliveByLaw wsX0_aliveByLaw) := goodIn_s _ [(6, 25)] rfl (by decide +kernel)
set_option maxRecDepth 20000 in
theorem gX2_chooseLook_X2_list : GoodIn wsX2_chooseLook (wsV RX2 51 RX2 yX2_list wsX2_list) := goodIn_s _ [(7, 6), (4, 1), (6, 1), (13, 3), (10, 1), (16, 15), (44, 22)] rfl (by decide +kernel)
set_option maxRecDepth 20000 in
theorem gX2_chooseLook_X2_tally : GoodIn wsX2_chooseLook (wsV RX2 64 RX2 yX2_tally wsX2_tally) := goodIn_s _ [(31, 3), (10, 1), (34, 2), (4, 1), (20, 1), (44, 7)] rfl (by decide +kernel)
set_option maxRecDepth 20000 in
theorem gX2_chooseLook_X2_mostOf : GoodIn wsX2_chooseLook (wsV RX2 68 RX2 yX2_mostOf wsX2_mostOf) := goodIn_s _ [(36, 3), (10, 1), (39, 1), (35, 1), (40, 11)] rfl (by decide +kernel)
set_option maxRecDepth 20000 in
theorem gX3_advance_X3_scanWord : GoodIn wsX3_advance (wsV RX3 75 RX3 yX3_scanWord wsX3_scanWord) := goodIn_s _ [(6, 6), (1, 5), (17, 14)] rfl (by decide +kernel)
set_option maxRecDepth 20000 in
theorem gX3_advance_X3_scanWhole : GoodIn wsX3_advance (wsV RX3 78 RX3 yX3_scanWhole wsX3_scanWhole) := goodIn_s _ [(12, 3), (9, 1), (15, 2), (1, 5), (17, 14)] rfl (by decide +kernel)
set_option maxRecDepth 20000 in
theorem gX3_isWholeWithin_X3_fails : GoodIn wsX3_isWholeWithin (wsV RX3 64 RX3 yX3_fails wsX3_fails) := goodIn_s _ [(3, 8), (14, 14)] rfl (by decide +kernel)
set_option maxRecDepth 20000 in
theorem gX3_isWholeWithin_X7_within_n223 : GoodIn wsX3_isWholeWithin (wsX7_within) := goodIn_s _ [(13, 1)] rfl (by decide +kernel)
end P04_good_00
section P04_good_01
set_option maxRecDepth 20000 in
theorem gX4_aim_X7_within_n18 : GoodIn wsX4_aim (wsX7_within) := goodIn_s _ [(4, 1)] rfl (by decide +kernel)
set_option maxRecDepth 20000 in
theorem gX4_weigh_X4_step : GoodIn wsX4_weigh (wsV RX4 32 RX4 yX4_step wsX4_step) := goodIn_s _ [(7, 5), (5, 1), (12, 3), (10, 1), (15, 1), (6, 1), (16, 4)] rfl (by decide +kernel)
set_option maxRecDepth 20000 in
theorem gX4_weigh_X4_worth : GoodIn wsX4_weigh (wsV RX4 35 RX4 yX4_worth wsX4_worth) := goodIn_s _ [(12, 3), (10, 1), (15, 1), (6, 1), (16, 4)] rfl (by decide +kernel)
set_option maxRecDepth 20000 in
theorem gX4_step_X4_worth : GoodIn wsX4_step (wsV RX4 35 RX4 yX4_worth wsX4_worth) := goodIn_s _ [(2, 10)] rfl (by decide +kernel)
set_option maxRecDepth 20000 in
theorem gX4_minutesWith_X7_within_n18 : GoodIn wsX4_minutesWith (wsX7_within) := goodIn_s _ [(5, 1)] rfl (by decide +kernel)
set_option maxRecDepth 20000 in
theorem gX4_placeIn_X4_step : GoodIn wsX4_placeIn (wsV RX4 32 RX4 yX4_step wsX4_step) := goodIn_s _ [(1, 9), (4, 1), (10, 6)] rfl (by decide +kernel)
set_option maxRecDepth 20000 in
theorem gX5_begin_X5_startTurn : GoodIn wsX5_begin (wsV RX5 28 RX5 yX5_startTurn wsX5_startTurn) := goodIn_s _ [(6, 14)] rfl (by decide +kernel)
set_option maxRecDepth 20000 in
theorem gX5_isGone_X7_hasBit_n38 : GoodIn wsX5_isGone (wsX7_hasBit) := goodIn_s _ [(4, 1)] rfl (by decide +kernel)
set_option maxRecDepth 20000 in
theorem gX6_placesIn_X6_placeOf : GoodIn wsX6_placesIn (wsV RX6 25 RX6 yX6_placeOf wsX6_placeOf) := goodIn_s _ [(3, 11)] rfl (by decide +kernel)
set_option maxRecDepth 20000 in
theorem gX7_figure_X7_isFigure : GoodIn wsX7_figure (wsV RX7 116 RX7 yX7_isFigure wsX7_isFigure) := goodIn_s _ [(7, 5), (1, 1), (12, 3), (10, 1), (15, 1), (33, 26)] rfl (by decide +kernel)
set_option maxRecDepth 20000 in
theorem gX7_figure_X7_within : GoodIn wsX7_figure (va_wsS RX7 78 yX7_within wsX7_within) := goodIn_s _ [(13, 2), (10, 1), (15, 1)] rfl (by decide +kernel)
set_option maxRecDepth 20000 in
theorem gX7_figure_X7_refused : GoodIn wsX7_figure (wsV RX7 82 RX7 yX7_refused wsX7_refused) := goodIn_s _ [(16, 3), (10, 1), (19, 2), (33, 11)] rfl (by decide +kernel)
set_option maxRecDepth 20000 in
theorem gX7_figure_X7_answered : GoodIn wsX7_figure (wsV RX7 113 RX7 yX7_answered wsX7_answered) := goodIn_s _ [(21, 3), (10, 1), (24, 1), (20, 1), (33, 11)] rfl (by decide +kernel)
set_option maxRecDepth 20000 in
theorem gX7_figure_X5_isGone : GoodIn wsX7_figure (wsV RX7 129 RX5 yX5_isGone wsX5_isGone) := goodIn_s _ [(25, 7), (10, 1), (32, 1), (59, 7)] rfl (by decide +kernel)
set_option maxRecDepth 20000 in
theorem gX7_watcher_X7_isWatcher : GoodIn wsX7_watcher (wsV RX7 135 RX7 yX7_isWatcher wsX7_isWatcher) := goodIn_s _ [(7, 5), (1, 2), (12, 3), (10, 1), (15, 1), (32, 30)] rfl (by decide +kernel)
set_option maxRecDepth 20000 in
theorem gX7_watcher_X7_within : GoodIn wsX7_watcher (va_wsS RX7 78 yX7_within wsX7_within) := goodIn_s _ [(13, 2), (10, 1), (15, 1)] rfl (by decide +kernel)
set_option maxRecDepth 20000 in
theorem gX7_watcher_X7_refused : GoodIn wsX7_watcher (wsV RX7 82 RX7 yX7_refused wsX7_refused) := goodIn_s _ [(16, 3), (10, 1), (19, 2), (32, 11)] rfl (by decide +kernel)
set_option maxRecDepth 20000 in
theorem gX7_watcher_X7_answered : GoodIn wsX7_watcher (wsV RX7 113 RX7 yX7_answered wsX7_answered) := goodIn_s _ [(21, 3), (10, 1), (24, 1), (20, 1), (32, 11)] rfl (by decide +kernel)
set_option maxRecDepth 20000 in
theorem gX7_watcher_X6_placeOf : GoodIn wsX7_watcher (wsV RX7 150 RX6 yX6_placeOf wsX6_placeOf) := goodIn_s _ [(25, 7), (58, 4)] rfl (by decide +kernel)
set_option maxRecDepth 20000 in
theorem gX7_alive_X7_hasGallery : GoodIn wsX7_alive (wsV RX7 154 RX7 yX7_hasGallery wsX7_hasGallery) := goodIn_s _ [(3, 7), (19, 11), (37, 15)] rfl (by decide +kernel)
set_option maxRecDepth 20000 in
theorem gX7_alive_X7_refused : GoodIn wsX7_alive (wsV RX7 82 RX7 yX7_refused wsX7_refused) := goodIn_s _ [(10, 3), (6, 1), (13, 2), (19, 11)] rfl (by decide +kernel)
set_option maxRecDepth 20000 in
theorem gX7_alive_X7_answered : GoodIn wsX7_alive (wsV RX7 113 RX7 yX7_answered wsX7_answered) := goodIn_s _ [(15, 3), (6, 1), (18, 1), (14, 1), (19, 11)] rfl (by decide +kernel)
set_option maxRecDepth 20000 in
theorem gX7_left_X7_hasGallery : GoodIn wsX7_left (wsV RX7 154 RX7 yX7_hasGallery wsX7_hasGallery) := goodIn_s _ [(5, 5), (1, 1), (10, 1), (20, 26)] rfl (by decide +kernel)
set_option maxRecDepth 20000 in
theorem gX7_left_X7_refused : GoodIn wsX7_left (wsV RX7 82 RX7 yX7_refused wsX7_refused) := goodIn_s _ [(11, 3), (8, 1), (14, 2), (20, 11)] rfl (by decide +kernel)
set_option maxRecDepth 20000 in
theorem gX7_left_X7_answered : GoodIn wsX7_left (wsV RX7 113 RX7 yX7_answered wsX7_answered) := goodIn_s _ [(16, 3), (8, 1), (19, 1), (15, 1), (20, 11)] rfl (by decide +kernel)
set_option maxRecDepth 20000 in
theorem gX7_caught_X7_hasGallery : GoodIn wsX7_caught (wsV RX7 154 RX7 yX7_hasGallery wsX7_hasGallery) := goodIn_s _ [(3, 7), (19, 11), (37, 15)] rfl (by decide +kernel)
set_option maxRecDepth 20000 in
theorem gX7_caught_X7_refused : GoodIn wsX7_caught (wsV RX7 82 RX7 yX7_refused wsX7_refused) := goodIn_s _ [(10, 3), (6, 1), (13, 2), (19, 11)] rfl (by decide +kernel)
set_option maxRecDepth 20000 in
theorem gX7_caught_X7_answered : GoodIn wsX7_caught (wsV RX7 113 RX7 yX7_answered wsX7_answered) := goodIn_s _ [(15, 3), (6, 1), (18, 1), (14, 1), (19, 11)] rfl (by decide +kernel)
set_option maxRecDepth 20000 in
theorem gX7_turnOf_X7_hasGallery : GoodIn wsX7_turnOf (wsV RX7 154 RX7 yX7_hasGallery wsX7_hasGallery) := goodIn_s _ [(2, 7), (32, 26)] rfl (by decide +kernel)
set_option maxRecDepth 20000 in
theorem gX7_turnOf_X7_refused : GoodIn wsX7_turnOf (wsV RX7 82 RX7 yX7_refused wsX7_refused) := goodIn_s _ [(9, 3), (5, 1), (12, 2), (32, 11)] rfl (by decide +kernel)
set_option maxRecDepth 20000 in
theorem gX7_turnOf_X7_within : GoodIn wsX7_turnOf (va_wsS RX7 78 yX7_within wsX7_within) := goodIn_s _ [(14, 2), (5, 1), (16, 1)] rfl (by decide +kernel)
set_option maxRecDepth 20000 in
theorem gX7_turnOf_X7_turnFromNow : GoodIn wsX7_turnOf (wsV RX7 171 RX7 yX7_turnFromNow wsX7_turnFromNow) := goodIn_s _ [(17, 3), (5, 1), (20, 1), (7, 2), (21, 6), (5, 1), (27, 1), (32, 33)] rfl (by decide +kernel)
set_option maxRecDepth 20000 in
theorem gX7_turnOf_X7_answered : GoodIn wsX7_turnOf (wsV RX7 113 RX7 yX7_answered wsX7_answered) := goodIn_s _ [(28, 3), (5, 1), (31, 1), (13, 1), (32, 11)] rfl (by decide +kernel)
set_option maxRecDepth 20000 in
theorem gX7_turnIn_X7_isFigure : GoodIn wsX7_turnIn (wsV RX7 116 RX7 yX7_isFigure wsX7_isFigure) := goodIn_s _ [(5, 5), (3, 2), (10, 2), (8, 1), (12, 1), (30, 11), (48, 15)] rfl (by decide +kernel)
set_option maxRecDepth 20000 in
theorem gX7_turnIn_X7_refused : GoodIn wsX7_turnIn (wsV RX7 82 RX7 yX7_refused wsX7_refused) := goodIn_s _ [(13, 3), (8, 1), (16, 2), (30, 11)] rfl (by decide +kernel)
set_option maxRecDepth 20000 in
theorem gX7_turnIn_X7_answered : GoodIn wsX7_turnIn (wsV RX7 113 RX7 yX7_answered wsX7_answered) := goodIn_s _ [(18, 3), (8, 1), (21, 1), (17, 1), (30, 11)] rfl (by decide +kernel)
set_option maxRecDepth 20000 in
theorem gX7_turnIn_X0_next : GoodIn wsX7_turnIn (wsV RX7 174 RX0 yX0_next wsX0_next) := goodIn_s _ [(22, 8), (48, 15)] rfl (by decide +kernel)
set_option maxRecDepth 20000 in
theorem gX7_settles_X7_hasGallery : GoodIn wsX7_settles (wsV RX7 154 RX7 yX7_hasGallery wsX7_hasGallery) := goodIn_s _ [(3, 5), (1, 2), (40, 26)] rfl (by decide +kernel)
set_option maxRecDepth 20000 in
theorem gX7_settles_X7_refused : GoodIn wsX7_settles (wsV RX7 82 RX7 yX7_refused wsX7_refused) := goodIn_s _ [(8, 3), (6, 1), (11, 2), (40, 11)] rfl (by decide +kernel)
set_option maxRecDepth 20000 in
theorem gX7_settles_X7_roundLength : GoodIn wsX7_settles (wsV RX7 177 RX7 yX7_roundLength wsX7_roundLength) := goodIn_s _ [(13, 3), (6, 1), (16, 1), (1, 2), (17, 3), (6, 1), (20, 16), (40, 33)] rfl (by decide +kernel)
set_option maxRecDepth 20000 in
theorem gX7_settles_X7_turnFromNow : GoodIn wsX7_settles (wsV RX7 171 RX7 yX7_turnFromNow wsX7_turnFromNow) := goodIn_s _ [(17, 3), (6, 1), (20, 1), (1, 2), (21, 6), (6, 1), (27, 1), (40, 33)] rfl (by decide +kernel)
set_option maxRecDepth 20000 in
theorem gX7_settles_X7_answered : GoodIn wsX7_settles (wsV RX7 113 RX7 yX7_answered wsX7_answered) := goodIn_s _ [(36, 3), (6, 1), (39, 1), (12, 1), (40, 11)] rfl (by decide +kernel)
set_option maxRecDepth 20000 in
theorem gX7_round_X7_hasGallery : GoodIn wsX7_round (wsV RX7 154 RX7 yX7_hasGallery wsX7_hasGallery) := goodIn_s _ [(1, 7), (40, 26)] rfl (by decide +kernel)
set_option maxRecDepth 20000 in
theorem gX7_round_X7_refused : GoodIn wsX7_round (wsV RX7 82 RX7 yX7_refused wsX7_refused) := goodIn_s _ [(8, 3), (4, 1), (11, 2), (40, 11)] rfl (by decide +kernel)
set_option maxRecDepth 20000 in
theorem gX7_round_X7_roundLength : GoodIn wsX7_round (wsV RX7 177 RX7 yX7_roundLength wsX7_roundLength) := goodIn_s _ [(13, 3), (4, 1), (16, 1), (6, 2), (17, 3), (4, 1), (20, 16), (40, 33)] rfl (by decide +kernel)
set_option maxRecDepth 20000 in
theorem gX7_round_X7_answered : GoodIn wsX7_round (wsV RX7 113 RX7 yX7_answered wsX7_answered) := goodIn_s _ [(36, 3), (4, 1), (39, 1), (12, 1), (40, 11)] rfl (by decide +kernel)
set_option maxRecDepth 20000 in
theorem gX7_called_X7_hasGallery : GoodIn wsX7_called (wsV RX7 154 RX7 yX7_hasGallery wsX7_hasGallery) := goodIn_s _ [(5, 5), (3, 2), (27, 11), (45, 15)] rfl (by decide +kernel)
set_option maxRecDepth 20000 in
theorem gX7_called_X7_refused : GoodIn wsX7_called (wsV RX7 82 RX7 yX7_refused wsX7_refused) := goodIn_s _ [(10, 3), (8, 1), (13, 2), (27, 11)] rfl (by decide +kernel)
set_option maxRecDepth 20000 in
theorem gX7_called_X0_next : GoodIn wsX7_called (wsV RX7 174 RX0 yX0_next wsX0_next) := goodIn_s _ [(15, 8), (45, 15)] rfl (by decide +kernel)
set_option maxRecDepth 20000 in
theorem gX7_called_X7_answered : GoodIn wsX7_called (wsV RX7 113 RX7 yX7_answered wsX7_answered) := goodIn_s _ [(23, 3), (8, 1), (26, 1), (14, 1), (27, 11)] rfl (by decide +kernel)
set_option maxRecDepth 20000 in
theorem gX7_minutesOf_X7_isFigure : GoodIn wsX7_minutesOf (wsV RX7 116 RX7 yX7_isFigure wsX7_isFigure) := goodIn_s _ [(6, 5), (4, 1), (11, 3), (9, 1), (14, 1), (32, 11), (50, 15)] rfl (by decide +kernel)
set_option maxRecDepth 20000 in
theorem gX7_minutesOf_X7_refused : GoodIn wsX7_minutesOf (wsV RX7 82 RX7 yX7_refused wsX7_refused) := goodIn_s _ [(15, 3), (9, 1), (18, 2), (32, 11)] rfl (by decide +kernel)
set_option maxRecDepth 20000 in
theorem gX7_minutesOf_X7_within : GoodIn wsX7_minutesOf (va_wsS RX7 78 yX7_within wsX7_within) := goodIn_s _ [(12, 2), (9, 1), (14, 1)] rfl (by decide +kernel)
set_option maxRecDepth 20000 in
theorem gX7_minutesOf_X0_next : GoodIn wsX7_minutesOf (wsV RX7 174 RX0 yX0_next wsX0_next) := goodIn_s _ [(20, 8), (50, 15)] rfl (by decide +kernel)
set_option maxRecDepth 20000 in
theorem gX7_minutesOf_X7_answered : GoodIn wsX7_minutesOf (wsV RX7 113 RX7 yX7_answered wsX7_answered) := goodIn_s _ [(28, 3), (9, 1), (31, 1), (19, 1), (32, 11)] rfl (by decide +kernel)
set_option maxRecDepth 20000 in
theorem gX7_place_X7_troubleOfFigureWithin : GoodIn wsX7_place (wsV RX7 181 RX7 yX7_troubleOfFigureWithin wsX7_troubleOfFigureWithin) := goodIn_s _ [(3, 8), (6, 1), (11, 6), (113, 11), (131, 15)] rfl (by decide +kernel)
set_option maxRecDepth 20000 in
theorem gX7_place_X7_refused : GoodIn wsX7_place (wsV RX7 82 RX7 yX7_refused wsX7_refused) := goodIn_s _ [(17, 3), (6, 1), (20, 2), (113, 11)] rfl (by decide +kernel)
set_option maxRecDepth 20000 in
theorem gX7_place_X7_runAhead : GoodIn wsX7_place (wsV RX7 185 RX7 yX7_runAhead wsX7_runAhead) := goodIn_s _ [(22, 3), (6, 1), (25, 1), (1, 1), (26, 16), (6, 1), (42, 1), (12, 1), (43, 18), (15, 2), (61, 48), (113, 37)] rfl (by decide +kernel)
set_option maxRecDepth 20000 in
theorem gX7_place_X7_answered : GoodIn wsX7_place (wsV RX7 113 RX7 yX7_answered wsX7_answered) := goodIn_s _ [(109, 3), (6, 1), (112, 1), (21, 1), (113, 11)] rfl (by decide +kernel)
set_option maxRecDepth 20000 in
theorem gX7_watch_X7_isWatcher : GoodIn wsX7_watch (wsV RX7 135 RX7 yX7_isWatcher wsX7_isWatcher) := goodIn_s _ [(5, 5), (1, 2), (10, 3), (8, 1), (13, 1), (30, 26), (63, 4)] rfl (by decide +kernel)
set_option maxRecDepth 20000 in
theorem gX7_watch_X7_refused : GoodIn wsX7_watch (wsV RX7 82 RX7 yX7_refused wsX7_refused) := goodIn_s _ [(14, 3), (8, 1), (17, 2), (30, 11)] rfl (by decide +kernel)
set_option maxRecDepth 20000 in
theorem gX7_watch_X7_within : GoodIn wsX7_watch (va_wsS RX7 78 yX7_within wsX7_within) := goodIn_s _ [(11, 2), (8, 1), (13, 1)] rfl (by decide +kernel)
set_option maxRecDepth 20000 in
theorem gX7_watch_X6_placeOf : GoodIn wsX7_watch (wsV RX7 150 RX6 yX6_placeOf wsX6_placeOf) := goodIn_s _ [(19, 7), (63, 4)] rfl (by decide +kernel)
set_option maxRecDepth 20000 in
theorem gX7_watch_X7_answered : GoodIn wsX7_watch (wsV RX7 113 RX7 yX7_answered wsX7_answered) := goodIn_s _ [(26, 3), (8, 1), (29, 1), (18, 1), (30, 11)] rfl (by decide +kernel)
set_option maxRecDepth 20000 in
theorem gX7_gone_X7_troubleOfNumber : GoodIn wsX7_gone (wsV RX7 188 RX7 yX7_troubleOfNumber wsX7_troubleOfNumber) := goodIn_s _ [(3, 8), (6, 1), (11, 6), (113, 11), (131, 15)] rfl (by decide +kernel)
set_option maxRecDepth 20000 in
theorem gX7_gone_X7_refused : GoodIn wsX7_gone (wsV RX7 82 RX7 yX7_refused wsX7_refused) := goodIn_s _ [(17, 3), (6, 1), (20, 2), (113, 11)] rfl (by decide +kernel)
set_option maxRecDepth 20000 in
theorem gX7_gone_X7_runAhead : GoodIn wsX7_gone (wsV RX7 185 RX7 yX7_runAhead wsX7_runAhead) := goodIn_s _ [(22, 3), (6, 1), (25, 1), (1, 1), (26, 16), (6, 1), (42, 1), (12, 1), (43, 18), (15, 2), (61, 48), (113, 37)] rfl (by decide +kernel)
set_option maxRecDepth 20000 in
theorem gX7_gone_X7_answered : GoodIn wsX7_gone (wsV RX7 113 RX7 yX7_answered wsX7_answered) := goodIn_s _ [(109, 3), (6, 1), (112, 1), (21, 1), (113, 11)] rfl (by decide +kernel)
set_option maxRecDepth 20000 in
theorem gX7_stairs_X7_hasGallery : GoodIn wsX7_stairs (wsV RX7 154 RX7 yX7_hasGallery wsX7_hasGallery) := goodIn_s _ [(5, 5), (3, 1), (10, 1), (104, 26)] rfl (by decide +kernel)
set_option maxRecDepth 20000 in
theorem gX7_stairs_X7_refused : GoodIn wsX7_stairs (wsV RX7 82 RX7 yX7_refused wsX7_refused) := goodIn_s _ [(11, 3), (8, 1), (14, 2), (104, 11)] rfl (by decide +kernel)
set_option maxRecDepth 20000 in
theorem gX7_stairs_X5_copyFrom : GoodIn wsX7_stairs (wsV RX7 194 RX5 yX5_copyFrom wsX5_copyFrom) := goodIn_s _ [(16, 12), (130, 7)] rfl (by decide +kernel)
set_option maxRecDepth 20000 in
theorem gX7_stairs_X7_minutesTillGone : GoodIn wsX7_stairs (wsV RX7 198 RX7 yX7_minutesTillGone wsX7_minutesTillGone) := goodIn_s _ [(28, 3), (8, 1), (31, 1), (1, 1), (32, 1), (3, 1), (33, 18), (8, 1), (51, 11), (19, 1), (62, 1), (24, 1), (63, 37), (22, 2), (104, 11), (130, 7), (115, 15), (137, 4)] rfl (by decide +kernel)
set_option maxRecDepth 20000 in
theorem gX7_stairs_X7_answered : GoodIn wsX7_stairs (wsV RX7 113 RX7 yX7_answered wsX7_answered) := goodIn_s _ [(100, 3), (8, 1), (103, 1), (15, 1), (104, 11)] rfl (by decide +kernel)
set_option maxRecDepth 20000 in
theorem gX7_catches_X7_troubleOfNumber : GoodIn wsX7_catches (wsV RX7 188 RX7 yX7_troubleOfNumber wsX7_troubleOfNumber) := goodIn_s _ [(4, 8), (7, 1), (12, 6), (113, 11), (131, 15)] rfl (by decide +kernel)
set_option maxRecDepth 20000 in
theorem gX7_catches_X7_refused : GoodIn wsX7_catches (wsV RX7 82 RX7 yX7_refused wsX7_refused) := goodIn_s _ [(18, 3), (7, 1), (21, 2), (113, 11)] rfl (by decide +kernel)
set_option maxRecDepth 20000 in
theorem gX7_catches_X7_runAhead : GoodIn wsX7_catches (wsV RX7 185 RX7 yX7_runAhead wsX7_runAhead) := goodIn_s _ [(23, 3), (7, 1), (26, 1), (1, 1), (3, 1), (27, 15), (7, 1), (42, 1), (13, 1), (43, 18), (16, 2), (61, 48), (113, 37)] rfl (by decide +kernel)
set_option maxRecDepth 20000 in
theorem gX7_catches_X7_answered : GoodIn wsX7_catches (wsV RX7 113 RX7 yX7_answered wsX7_answered) := goodIn_s _ [(109, 3), (7, 1), (112, 1), (22, 1), (113, 11)] rfl (by decide +kernel)
set_option maxRecDepth 20000 in
theorem gX7_heard_X7_troubleOfFigureWithin : GoodIn wsX7_heard (wsV RX7 181 RX7 yX7_troubleOfFigureWithin wsX7_troubleOfFigureWithin) := goodIn_s _ [(4, 8), (7, 1), (12, 6), (109, 11), (127, 15)] rfl (by decide +kernel)
set_option maxRecDepth 20000 in
theorem gX7_heard_X7_refused : GoodIn wsX7_heard (wsV RX7 82 RX7 yX7_refused wsX7_refused) := goodIn_s _ [(18, 3), (7, 1), (21, 2), (109, 11)] rfl (by decide +kernel)
set_option maxRecDepth 20000 in
theorem gX7_heard_X5_copyFrom : GoodIn wsX7_heard (wsV RX7 194 RX5 yX5_copyFrom wsX5_copyFrom) := goodIn_s _ [(23, 12), (120, 7)] rfl (by decide +kernel)
set_option maxRecDepth 20000 in
theorem gX7_heard_X7_passAhead : GoodIn wsX7_heard (wsV RX7 202 RX7 yX7_passAhead wsX7_passAhead) := goodIn_s _ [(35, 3), (7, 1), (38, 1), (13, 1), (1, 1), (39, 18), (16, 1), (7, 1), (17, 1), (57, 10), (26, 1), (67, 1), (31, 1), (68, 37), (29, 2), (109, 11), (127, 15), (120, 7), (142, 4)] rfl (by decide +kernel)
set_option maxRecDepth 20000 in
theorem gX7_heard_X7_answered : GoodIn wsX7_heard (wsV RX7 113 RX7 yX7_answered wsX7_answered) := goodIn_s _ [(105, 3), (7, 1), (108, 1), (22, 1), (109, 11)] rfl (by decide +kernel)
set_option maxRecDepth 20000 in
theorem gX7_allIn_X7_isFigure : GoodIn wsX7_allIn (wsV RX7 116 RX7 yX7_isFigure wsX7_isFigure) := goodIn_s _ [(8, 5), (1, 1), (13, 3), (11, 1), (16, 1), (103, 26)] rfl (by decide +kernel)
set_option maxRecDepth 20000 in
theorem gX7_allIn_X7_refused : GoodIn wsX7_allIn (wsV RX7 82 RX7 yX7_refused wsX7_refused) := goodIn_s _ [(17, 3), (11, 1), (20, 2), (103, 11)] rfl (by decide +kernel)
set_option maxRecDepth 20000 in
theorem gX7_allIn_X7_answered : GoodIn wsX7_allIn (wsV RX7 113 RX7 yX7_answered wsX7_answered) := goodIn_s _ [(22, 3), (11, 1), (25, 1), (21, 1), (103, 11)] rfl (by decide +kernel)
set_option maxRecDepth 20000 in
theorem gX7_allIn_X5_copyFrom : GoodIn wsX7_allIn (wsV RX7 194 RX5 yX5_copyFrom wsX5_copyFrom) := goodIn_s _ [(26, 12), (129, 7)] rfl (by decide +kernel)
set_option maxRecDepth 20000 in
theorem gX7_allIn_X0_pass : GoodIn wsX7_allIn (wsV RX7 205 RX0 yX0_pass wsX0_pass) := goodIn_s _ [(38, 14), (41, 1), (52, 3), (15, 1), (11, 1), (16, 1), (55, 10), (29, 1), (65, 1), (34, 1), (66, 37), (32, 2), (129, 7), (114, 15), (136, 4)] rfl (by decide +kernel)
set_option maxRecDepth 20000 in
theorem gX7_meets_X7_isWatcher : GoodIn wsX7_meets (wsV RX7 135 RX7 yX7_isWatcher wsX7_isWatcher) := goodIn_s _ [(6, 5), (3, 2), (11, 3), (9, 1), (14, 1), (109, 26), (142, 4)] rfl (by decide +kernel)
set_option maxRecDepth 20000 in
theorem gX7_meets_X7_refused : GoodIn wsX7_meets (wsV RX7 82 RX7 yX7_refused wsX7_refused) := goodIn_s _ [(15, 3), (9, 1), (18, 2), (109, 11)] rfl (by decide +kernel)
set_option maxRecDepth 20000 in
theorem gX7_meets_X5_copyFrom : GoodIn wsX7_meets (wsV RX7 194 RX5 yX5_copyFrom wsX5_copyFrom) := goodIn_s _ [(20, 12), (135, 7)] rfl (by decide +kernel)
set_option maxRecDepth 20000 in
theorem gX7_meets_X6_placeOf : GoodIn wsX7_meets (wsV RX7 150 RX6 yX6_placeOf wsX6_placeOf) := goodIn_s _ [(32, 7), (142, 4)] rfl (by decide +kernel)
set_option maxRecDepth 20000 in
theorem gX7_meets_X7_placeOfActing : GoodIn wsX7_meets (wsV RX7 209 RX7 yX7_placeOfActing wsX7_placeOfActing) := goodIn_s _ [(39, 3), (9, 1), (42, 1), (1, 1), (43, 1), (3, 2), (44, 18), (13, 1), (9, 1), (14, 1), (62, 10), (23, 1), (72, 1), (28, 1), (73, 9), (35, 1), (82, 4), (33, 2), (36, 3), (86, 18), (26, 2), (104, 1), (109, 11), (135, 7), (120, 15), (142, 4)] rfl (by decide +kernel)
set_option maxRecDepth 20000 in
theorem gX7_meets_X7_answered : GoodIn wsX7_meets (wsV RX7 113 RX7 yX7_answered wsX7_answered) := goodIn_s _ [(105, 3), (9, 1), (108, 1), (19, 1), (109, 11)] rfl (by decide +kernel)
set_option maxRecDepth 20000 in
theorem gX7_crowd_X7_troubleOfNumber : GoodIn wsX7_crowd (wsV RX7 188 RX7 yX7_troubleOfNumber wsX7_troubleOfNumber) := goodIn_s _ [(3, 8), (6, 1), (11, 1), (1, 2), (12, 3), (118, 26)] rfl (by decide +kernel)
set_option maxRecDepth 20000 in
theorem gX7_crowd_X7_refused : GoodIn wsX7_crowd (wsV RX7 82 RX7 yX7_refused wsX7_refused) := goodIn_s _ [(15, 3), (6, 1), (18, 2), (118, 11)] rfl (by decide +kernel)
set_option maxRecDepth 20000 in
theorem gX7_crowd_X7_runAhead : GoodIn wsX7_crowd (wsV RX7 185 RX7 yX7_runAhead wsX7_runAhead) := goodIn_s _ [(20, 3), (6, 1), (23, 18), (6, 1), (41, 1), (1, 1), (42, 18), (13, 2), (60, 48), (118, 11), (144, 7), (129, 15), (151, 4)] rfl (by decide +kernel)
set_option maxRecDepth 20000 in
theorem gX7_crowd_X7_crowdAt : GoodIn wsX7_crowd (wsV RX7 212 RX7 yX7_crowdAt wsX7_crowdAt) := goodIn_s _ [(108, 3), (6, 1), (111, 1), (1, 2), (24, 1), (112, 2), (68, 2), (29, 1), (70, 1), (34, 1), (71, 1), (6, 1), (72, 1), (118, 33)] rfl (by decide +kernel)
set_option maxRecDepth 20000 in
theorem gX7_crowd_X7_answered : GoodIn wsX7_crowd (wsV RX7 113 RX7 yX7_answered wsX7_answered) := goodIn_s _ [(114, 3), (6, 1), (117, 1), (19, 1), (118, 11)] rfl (by decide +kernel)
set_option maxRecDepth 20000 in
theorem gX7_farthest_X7_troubleOfNumber : GoodIn wsX7_farthest (wsV RX7 188 RX7 yX7_troubleOfNumber wsX7_troubleOfNumber) := goodIn_s _ [(9, 8), (12, 1), (17, 1), (1, 2), (18, 3), (117, 26)] rfl (by decide +kernel)
set_option maxRecDepth 20000 in
theorem gX7_farthest_X7_refused : GoodIn wsX7_farthest (wsV RX7 82 RX7 yX7_refused wsX7_refused) := goodIn_s _ [(21, 3), (12, 1), (24, 2), (117, 11)] rfl (by decide +kernel)
set_option maxRecDepth 20000 in
theorem gX7_farthest_X7_runAhead : GoodIn wsX7_farthest (wsV RX7 185 RX7 yX7_runAhead wsX7_runAhead) := goodIn_s _ [(26, 3), (12, 1), (29, 1), (3, 1), (30, 16), (12, 1), (46, 1), (1, 1), (47, 18), (19, 2), (65, 48), (117, 11), (143, 7), (128, 15), (150, 4)] rfl (by decide +kernel)
set_option maxRecDepth 20000 in
theorem gX7_farthest_X7_answered : GoodIn wsX7_farthest (wsV RX7 113 RX7 yX7_answered wsX7_answered) := goodIn_s _ [(113, 3), (12, 1), (116, 1), (25, 1), (117, 11)] rfl (by decide +kernel)
set_option maxRecDepth 20000 in
theorem gX7_nearBy_X7_troubleOfFigureWithin : GoodIn wsX7_nearBy (wsV RX7 181 RX7 yX7_troubleOfFigureWithin wsX7_troubleOfFigureWithin) := goodIn_s _ [(7, 8), (10, 1), (15, 1), (3, 1), (16, 4), (109, 26)] rfl (by decide +kernel)
set_option maxRecDepth 20000 in
theorem gX7_nearBy_X7_refused : GoodIn wsX7_nearBy (wsV RX7 82 RX7 yX7_refused wsX7_refused) := goodIn_s _ [(20, 3), (10, 1), (23, 2), (109, 11)] rfl (by decide +kernel)
set_option maxRecDepth 20000 in
theorem gX7_nearBy_X5_copyFrom : GoodIn wsX7_nearBy (wsV RX7 194 RX5 yX5_copyFrom wsX5_copyFrom) := goodIn_s _ [(25, 12), (135, 7)] rfl (by decide +kernel)
set_option maxRecDepth 20000 in
theorem gX7_nearBy_X6_placesIn : GoodIn wsX7_nearBy (wsV RX7 220 RX6 yX6_placesIn wsX6_placesIn) := goodIn_s _ [(37, 10), (40, 1), (47, 3), (142, 4)] rfl (by decide +kernel)
set_option maxRecDepth 20000 in
theorem gX7_nearBy_X0_pass : GoodIn wsX7_nearBy (wsV RX7 205 RX0 yX0_pass wsX0_pass) := goodIn_s _ [(50, 14), (53, 1), (64, 3), (18, 1), (10, 1), (19, 1), (67, 10), (28, 1), (77, 1), (33, 1), (78, 7), (38, 12), (85, 18), (31, 2), (135, 7), (120, 15), (142, 4)] rfl (by decide +kernel)
set_option maxRecDepth 20000 in
theorem gX7_nearBy_X5_isGone : GoodIn wsX7_nearBy (wsV RX7 129 RX5 yX5_isGone wsX5_isGone) := goodIn_s _ [(103, 1), (75, 2), (28, 1), (77, 1), (33, 1), (78, 1), (10, 1), (79, 1), (135, 7)] rfl (by decide +kernel)
set_option maxRecDepth 20000 in
theorem gX7_nearBy_X7_hasBit : GoodIn wsX7_nearBy (va_wsS RX7 223 yX7_hasBit wsX7_hasBit) := goodIn_s _ [(104, 1), (78, 1), (10, 1), (79, 1)] rfl (by decide +kernel)
set_option maxRecDepth 20000 in
theorem gX7_nearBy_X7_answered : GoodIn wsX7_nearBy (wsV RX7 113 RX7 yX7_answered wsX7_answered) := goodIn_s _ [(105, 3), (10, 1), (108, 1), (24, 1), (109, 11)] rfl (by decide +kernel)
set_option maxRecDepth 20000 in
theorem gX7_spoken_X7_troubleOfFigureWithin : GoodIn wsX7_spoken (wsV RX7 181 RX7 yX7_troubleOfFigureWithin wsX7_troubleOfFigureWithin) := goodIn_s _ [(7, 8), (10, 1), (15, 1), (4, 1), (16, 4), (107, 11), (125, 15)] rfl (by decide +kernel)
set_option maxRecDepth 20000 in
theorem gX7_spoken_X7_refused : GoodIn wsX7_spoken (wsV RX7 82 RX7 yX7_refused wsX7_refused) := goodIn_s _ [(20, 3), (10, 1), (23, 2), (107, 11)] rfl (by decide +kernel)
set_option maxRecDepth 20000 in
theorem gX7_spoken_X5_copyFrom : GoodIn wsX7_spoken (wsV RX7 194 RX5 yX5_copyFrom wsX5_copyFrom) := goodIn_s _ [(25, 12), (118, 7)] rfl (by decide +kernel)
set_option maxRecDepth 20000 in
theorem gX7_spoken_X0_partSaid : GoodIn wsX7_spoken (wsV RX7 227 RX0 yX0_partSaid wsX0_partSaid) := goodIn_s _ [(37, 7), (18, 1), (10, 1), (19, 1), (125, 15)] rfl (by decide +kernel)
set_option maxRecDepth 20000 in
theorem gX7_spoken_X0_pass : GoodIn wsX7_spoken (wsV RX7 205 RX0 yX0_pass wsX0_pass) := goodIn_s _ [(44, 3), (40, 1), (47, 10), (40, 1), (57, 1), (42, 2), (18, 1), (10, 1), (19, 1), (58, 10), (28, 1), (68, 1), (33, 1), (69, 20), (38, 2), (41, 1), (89, 14), (31, 2), (118, 26)] rfl (by decide +kernel)
set_option maxRecDepth 20000 in
theorem gX7_spoken_X7_answered : GoodIn wsX7_spoken (wsV RX7 113 RX7 yX7_answered wsX7_answered) := goodIn_s _ [(103, 3), (10, 1), (106, 1), (24, 1), (107, 11)] rfl (by decide +kernel)
set_option maxRecDepth 20000 in
theorem gX7_route_X7_isPlace : GoodIn wsX7_route (wsV RX7 230 RX7 yX7_isPlace wsX7_isPlace) := goodIn_s _ [(2, 9), (5, 1), (11, 1), (140, 26)] rfl (by decide +kernel)
set_option maxRecDepth 20000 in
theorem gX7_route_X7_refused : GoodIn wsX7_route (wsV RX7 82 RX7 yX7_refused wsX7_refused) := goodIn_s _ [(12, 3), (5, 1), (15, 2), (140, 11)] rfl (by decide +kernel)
set_option maxRecDepth 20000 in
theorem gX7_route_X7_within : GoodIn wsX7_route (va_wsS RX7 78 yX7_within wsX7_within) := goodIn_s _ [(9, 2), (5, 1), (11, 1)] rfl (by decide +kernel)
set_option maxRecDepth 20000 in
theorem gX7_route_X7_planRoutes : GoodIn wsX7_route (wsV RX7 233 RX7 yX7_planRoutes wsX7_planRoutes) := goodIn_s _ [(17, 3), (5, 1), (20, 3), (1, 1), (7, 2), (23, 15), (5, 1), (38, 21), (10, 2), (59, 73), (140, 40)] rfl (by decide +kernel)
end P04_good_01
section P04_good_02
set_option maxRecDepth 20000 in
theorem gX7_route_X4_minutesWith : GoodIn wsX7_route (wsV RX7 236 RX4 yX4_minutesWith wsX4_minutesWith) := goodIn_s _ [(132, 3), (111, 1), (135, 1), (122, 2), (10, 1), (5, 1), (11, 1), (177, 3)] rfl (by decide +kernel)
set_option maxRecDepth 20000 in
theorem gX7_route_X7_answered : GoodIn wsX7_route (wsV RX7 113 RX7 yX7_answered wsX7_answered) := goodIn_s _ [(136, 3), (5, 1), (139, 1), (16, 1), (140, 11)] rfl (by decide +kernel)
set_option maxRecDepth 20000 in
theorem gX7_routeAt_X7_isPlace : GoodIn wsX7_routeAt (wsV RX7 230 RX7 yX7_isPlace wsX7_isPlace) := goodIn_s _ [(2, 9), (5, 1), (11, 1), (140, 26)] rfl (by decide +kernel)
set_option maxRecDepth 20000 in
theorem gX7_routeAt_X7_within : GoodIn wsX7_routeAt (va_wsS RX7 78 yX7_within wsX7_within) := goodIn_s _ [(9, 2), (5, 1), (11, 1)] rfl (by decide +kernel)
set_option maxRecDepth 20000 in
theorem gX7_routeAt_X7_refused : GoodIn wsX7_routeAt (wsV RX7 82 RX7 yX7_refused wsX7_refused) := goodIn_s _ [(12, 3), (5, 1), (15, 2), (140, 11)] rfl (by decide +kernel)
set_option maxRecDepth 20000 in
theorem gX7_routeAt_X7_planRoutes : GoodIn wsX7_routeAt (wsV RX7 233 RX7 yX7_planRoutes wsX7_planRoutes) := goodIn_s _ [(17, 3), (5, 1), (20, 3), (1, 1), (7, 2), (23, 15), (5, 1), (38, 21), (10, 2), (59, 73), (140, 40)] rfl (by decide +kernel)
set_option maxRecDepth 20000 in
theorem gX7_routeAt_X4_placeIn : GoodIn wsX7_routeAt (wsV RX7 239 RX4 yX4_placeIn wsX4_placeIn) := goodIn_s _ [(132, 3), (111, 1), (135, 1), (124, 3), (111, 1), (127, 1), (122, 1), (128, 4), (123, 1), (113, 1), (177, 3)] rfl (by decide +kernel)
set_option maxRecDepth 20000 in
theorem gX7_routeAt_X7_answered : GoodIn wsX7_routeAt (wsV RX7 113 RX7 yX7_answered wsX7_answered) := goodIn_s _ [(136, 3), (5, 1), (139, 1), (16, 1), (140, 11)] rfl (by decide +kernel)
set_option maxRecDepth 20000 in
theorem gX7_stand_X7_troubleOfNumber : GoodIn wsX7_stand (wsV RX7 188 RX7 yX7_troubleOfNumber wsX7_troubleOfNumber) := goodIn_s _ [(4, 8), (7, 1), (12, 1), (1, 2), (13, 3), (144, 26)] rfl (by decide +kernel)
set_option maxRecDepth 20000 in
theorem gX7_stand_X7_refused : GoodIn wsX7_stand (wsV RX7 82 RX7 yX7_refused wsX7_refused) := goodIn_s _ [(16, 3), (7, 1), (19, 2), (144, 11)] rfl (by decide +kernel)
set_option maxRecDepth 20000 in
theorem gX7_stand_X7_planRoutes : GoodIn wsX7_stand (wsV RX7 233 RX7 yX7_planRoutes wsX7_planRoutes) := goodIn_s _ [(21, 3), (7, 1), (24, 3), (3, 1), (1, 2), (27, 15), (7, 1), (42, 21), (14, 2), (63, 73), (144, 40)] rfl (by decide +kernel)
set_option maxRecDepth 20000 in
theorem gX7_stand_X4_minutesWith : GoodIn wsX7_stand (wsV RX7 236 RX4 yX4_minutesWith wsX4_minutesWith) := goodIn_s _ [(136, 3), (115, 1), (139, 1), (126, 2), (14, 1), (7, 1), (15, 1), (181, 3)] rfl (by decide +kernel)
set_option maxRecDepth 20000 in
theorem gX7_stand_X7_answered : GoodIn wsX7_stand (wsV RX7 113 RX7 yX7_answered wsX7_answered) := goodIn_s _ [(140, 3), (7, 1), (143, 1), (20, 1), (144, 11)] rfl (by decide +kernel)
set_option maxRecDepth 20000 in
theorem gX7_guard_X7_troubleOfNumber : GoodIn wsX7_guard (wsV RX7 188 RX7 yX7_troubleOfNumber wsX7_troubleOfNumber) := goodIn_s _ [(5, 8), (8, 1), (13, 1), (2, 1), (4, 1), (14, 3), (119, 26)] rfl (by decide +kernel)
set_option maxRecDepth 20000 in
theorem gX7_guard_X7_refused : GoodIn wsX7_guard (wsV RX7 82 RX7 yX7_refused wsX7_refused) := goodIn_s _ [(17, 3), (8, 1), (20, 2), (119, 11)] rfl (by decide +kernel)
set_option maxRecDepth 20000 in
theorem gX7_guard_X6_copyFrom : GoodIn wsX7_guard (wsV RX7 242 RX6 yX6_copyFrom wsX6_copyFrom) := goodIn_s _ [(22, 9), (145, 4)] rfl (by decide +kernel)
set_option maxRecDepth 20000 in
theorem gX7_guard_X7_postsHold : GoodIn wsX7_guard (wsV RX7 245 RX7 yX7_postsHold wsX7_postsHold) := goodIn_s _ [(31, 3), (8, 1), (34, 1), (1, 1), (35, 18), (8, 1), (53, 2), (2, 1), (55, 17), (15, 2), (72, 20), (25, 1), (92, 1), (28, 1), (27, 1), (93, 4), (30, 1), (29, 1), (97, 18), (119, 11), (145, 11), (130, 15)] rfl (by decide +kernel)
set_option maxRecDepth 20000 in
theorem gX7_guard_X7_answered : GoodIn wsX7_guard (wsV RX7 113 RX7 yX7_answered wsX7_answered) := goodIn_s _ [(115, 3), (8, 1), (118, 1), (21, 1), (119, 11)] rfl (by decide +kernel)
set_option maxRecDepth 20000 in
theorem gX7_windBest_X7_hasGallery : GoodIn wsX7_windBest (wsV RX7 154 RX7 yX7_hasGallery wsX7_hasGallery) := goodIn_s _ [(6, 5), (1, 2), (105, 26)] rfl (by decide +kernel)
set_option maxRecDepth 20000 in
theorem gX7_windBest_X7_refused : GoodIn wsX7_windBest (wsV RX7 82 RX7 yX7_refused wsX7_refused) := goodIn_s _ [(11, 3), (9, 1), (14, 2), (105, 11)] rfl (by decide +kernel)
set_option maxRecDepth 20000 in
theorem gX7_windBest_X5_copyFrom : GoodIn wsX7_windBest (wsV RX7 194 RX5 yX5_copyFrom wsX5_copyFrom) := goodIn_s _ [(16, 12), (131, 7)] rfl (by decide +kernel)
set_option maxRecDepth 20000 in
theorem gX7_windBest_X5_startTurn : GoodIn wsX7_windBest (wsV RX7 248 RX5 yX5_startTurn wsX5_startTurn) := goodIn_s _ [(28, 3), (19, 1), (31, 1), (22, 2), (131, 7)] rfl (by decide +kernel)
set_option maxRecDepth 20000 in
theorem gX7_windBest_X7_minutesTillGone : GoodIn wsX7_windBest (wsV RX7 198 RX7 yX7_minutesTillGone wsX7_minutesTillGone) := goodIn_s _ [(32, 3), (9, 1), (35, 1), (3, 1), (36, 1), (1, 1), (37, 18), (9, 1), (55, 11), (19, 1), (66, 1), (24, 1), (67, 34), (29, 3), (22, 2), (105, 11), (131, 7), (116, 15), (138, 4)] rfl (by decide +kernel)
set_option maxRecDepth 20000 in
theorem gX7_windBest_X7_answered : GoodIn wsX7_windBest (wsV RX7 113 RX7 yX7_answered wsX7_answered) := goodIn_s _ [(101, 3), (9, 1), (104, 1), (15, 1), (105, 11)] rfl (by decide +kernel)
set_option maxRecDepth 20000 in
theorem gX7_patrol_X7_isWatcher : GoodIn wsX7_patrol (wsV RX7 135 RX7 yX7_isWatcher wsX7_isWatcher) := goodIn_s _ [(10, 5), (2, 2), (15, 3), (13, 1), (18, 1), (121, 30)] rfl (by decide +kernel)
set_option maxRecDepth 20000 in
theorem gX7_patrol_X7_refused : GoodIn wsX7_patrol (wsV RX7 82 RX7 yX7_refused wsX7_refused) := goodIn_s _ [(19, 3), (13, 1), (22, 2), (121, 11)] rfl (by decide +kernel)
set_option maxRecDepth 20000 in
theorem gX7_patrol_X7_within : GoodIn wsX7_patrol (va_wsS RX7 78 yX7_within wsX7_within) := goodIn_s _ [(16, 2), (13, 1), (18, 1)] rfl (by decide +kernel)
set_option maxRecDepth 20000 in
theorem gX7_patrol_X6_copyFrom : GoodIn wsX7_patrol (wsV RX7 242 RX6 yX6_copyFrom wsX6_copyFrom) := goodIn_s _ [(24, 9), (147, 4)] rfl (by decide +kernel)
set_option maxRecDepth 20000 in
theorem gX7_patrol_X7_runAheadOnTrial : GoodIn wsX7_patrol (wsV RX7 251 RX7 yX7_runAheadOnTrial wsX7_runAheadOnTrial) := goodIn_s _ [(33, 3), (13, 1), (36, 1), (7, 1), (37, 1), (2, 1), (1, 1), (38, 29), (17, 1), (13, 1), (18, 1), (67, 20), (27, 1), (87, 1), (30, 1), (29, 1), (88, 4), (32, 1), (31, 1), (92, 18), (121, 11), (151, 7), (132, 19)] rfl (by decide +kernel)
set_option maxRecDepth 20000 in
theorem gX7_patrol_J6_bitCount_0f7a4 : GoodIn wsX7_patrol (va_wsS RX7 254 yJ6_bitCount_0f7a4 wsJ6_bitCount_0f7a4) := goodIn_s _ [(110, 7)] rfl (by decide +kernel)
set_option maxRecDepth 20000 in
theorem gX7_patrol_X7_answered : GoodIn wsX7_patrol (wsV RX7 113 RX7 yX7_answered wsX7_answered) := goodIn_s _ [(117, 3), (13, 1), (120, 1), (23, 1), (121, 11)] rfl (by decide +kernel)
set_option maxRecDepth 20000 in
theorem gX7_fits_X7_hasGallery : GoodIn wsX7_fits (wsV RX7 154 RX7 yX7_hasGallery wsX7_hasGallery) := goodIn_s _ [(4, 5), (2, 1), (9, 1), (44, 11), (62, 15)] rfl (by decide +kernel)
set_option maxRecDepth 20000 in
theorem gX7_fits_X7_refused : GoodIn wsX7_fits (wsV RX7 82 RX7 yX7_refused wsX7_refused) := goodIn_s _ [(10, 3), (7, 1), (13, 2), (44, 11)] rfl (by decide +kernel)
set_option maxRecDepth 20000 in
theorem gX7_fits_X2_list : GoodIn wsX7_fits (wsV RX7 259 RX2 yX2_list wsX2_list) := goodIn_s _ [(15, 11), (18, 1), (26, 13), (7, 1), (39, 1), (55, 22)] rfl (by decide +kernel)
set_option maxRecDepth 20000 in
theorem gX7_fits_X7_answered : GoodIn wsX7_fits (wsV RX7 113 RX7 yX7_answered wsX7_answered) := goodIn_s _ [(40, 3), (7, 1), (43, 1), (14, 1), (44, 11)] rfl (by decide +kernel)
set_option maxRecDepth 20000 in
theorem gX7_fitAt_X7_hasGallery : GoodIn wsX7_fitAt (wsV RX7 154 RX7 yX7_hasGallery wsX7_hasGallery) := goodIn_s _ [(5, 5), (2, 1), (10, 1), (48, 11), (66, 15)] rfl (by decide +kernel)
set_option maxRecDepth 20000 in
theorem gX7_fitAt_X7_refused : GoodIn wsX7_fitAt (wsV RX7 82 RX7 yX7_refused wsX7_refused) := goodIn_s _ [(11, 3), (8, 1), (14, 2), (48, 11)] rfl (by decide +kernel)
set_option maxRecDepth 20000 in
theorem gX7_fitAt_X2_list : GoodIn wsX7_fitAt (wsV RX7 259 RX2 yX2_list wsX2_list) := goodIn_s _ [(16, 11), (19, 1), (27, 13), (8, 1), (40, 1), (59, 22)] rfl (by decide +kernel)
set_option maxRecDepth 20000 in
theorem gX7_fitAt_X7_within : GoodIn wsX7_fitAt (va_wsS RX7 78 yX7_within wsX7_within) := goodIn_s _ [(41, 2), (8, 1), (43, 1)] rfl (by decide +kernel)
set_option maxRecDepth 20000 in
theorem gX7_fitAt_X7_answered : GoodIn wsX7_fitAt (wsV RX7 113 RX7 yX7_answered wsX7_answered) := goodIn_s _ [(44, 3), (8, 1), (47, 1), (15, 1), (48, 11)] rfl (by decide +kernel)
set_option maxRecDepth 20000 in
theorem gX7_could_X7_troubleOfNumber : GoodIn wsX7_could (wsV RX7 188 RX7 yX7_troubleOfNumber wsX7_troubleOfNumber) := goodIn_s _ [(5, 8), (8, 1), (13, 1), (2, 1), (14, 4), (53, 11), (71, 15)] rfl (by decide +kernel)
set_option maxRecDepth 20000 in
theorem gX7_could_X7_refused : GoodIn wsX7_could (wsV RX7 82 RX7 yX7_refused wsX7_refused) := goodIn_s _ [(18, 3), (8, 1), (21, 2), (53, 11)] rfl (by decide +kernel)
set_option maxRecDepth 20000 in
theorem gX7_could_X2_list : GoodIn wsX7_could (wsV RX7 259 RX2 yX2_list wsX2_list) := goodIn_s _ [(23, 11), (26, 1), (34, 13), (8, 1), (47, 1), (64, 22)] rfl (by decide +kernel)
set_option maxRecDepth 20000 in
theorem gX7_could_X0_aliveByLaw : GoodIn wsX7_could (wsV RX7 269 RX0 yX0_aliveByLaw wsX0_aliveByLaw) := goodIn_s _ [(48, 1), (40, 7), (8, 1), (47, 1), (71, 15)] rfl (by decide +kernel)
set_option maxRecDepth 20000 in
theorem gX7_could_X7_answered : GoodIn wsX7_could (wsV RX7 113 RX7 yX7_answered wsX7_answered) := goodIn_s _ [(49, 3), (8, 1), (52, 1), (22, 1), (53, 11)] rfl (by decide +kernel)
set_option maxRecDepth 20000 in
theorem gX7_aliveBy_X7_troubleOfFigureWithin : GoodIn wsX7_aliveBy (wsV RX7 181 RX7 yX7_troubleOfFigureWithin wsX7_troubleOfFigureWithin) := goodIn_s _ [(5, 8), (8, 1), (13, 1), (2, 1), (14, 4), (53, 11), (71, 15)] rfl (by decide +kernel)
set_option maxRecDepth 20000 in
theorem gX7_aliveBy_X7_refused : GoodIn wsX7_aliveBy (wsV RX7 82 RX7 yX7_refused wsX7_refused) := goodIn_s _ [(18, 3), (8, 1), (21, 2), (53, 11)] rfl (by decide +kernel)
set_option maxRecDepth 20000 in
theorem gX7_aliveBy_X2_list : GoodIn wsX7_aliveBy (wsV RX7 259 RX2 yX2_list wsX2_list) := goodIn_s _ [(23, 11), (26, 1), (34, 13), (8, 1), (47, 1), (64, 22)] rfl (by decide +kernel)
set_option maxRecDepth 20000 in
theorem gX7_aliveBy_X0_aliveByLaw : GoodIn wsX7_aliveBy (wsV RX7 269 RX0 yX0_aliveByLaw wsX0_aliveByLaw) := goodIn_s _ [(48, 1), (40, 7), (8, 1), (47, 1), (71, 15)] rfl (by decide +kernel)
set_option maxRecDepth 20000 in
theorem gX7_aliveBy_X7_answered : GoodIn wsX7_aliveBy (wsV RX7 113 RX7 yX7_answered wsX7_answered) := goodIn_s _ [(49, 3), (8, 1), (52, 1), (22, 1), (53, 11)] rfl (by decide +kernel)
set_option maxRecDepth 20000 in
theorem gX7_look_X7_hasGallery : GoodIn wsX7_look (wsV RX7 154 RX7 yX7_hasGallery wsX7_hasGallery) := goodIn_s _ [(4, 5), (2, 1), (9, 1), (65, 11), (83, 15)] rfl (by decide +kernel)
set_option maxRecDepth 20000 in
theorem gX7_look_X7_refused : GoodIn wsX7_look (wsV RX7 82 RX7 yX7_refused wsX7_refused) := goodIn_s _ [(10, 3), (7, 1), (13, 2), (65, 11)] rfl (by decide +kernel)
set_option maxRecDepth 20000 in
theorem gX7_look_X2_chooseLook : GoodIn wsX7_look (wsV RX7 272 RX2 yX2_chooseLook wsX2_chooseLook) := goodIn_s _ [(15, 14), (18, 1), (29, 18), (7, 1), (47, 14), (76, 22)] rfl (by decide +kernel)
set_option maxRecDepth 20000 in
theorem gX7_look_X7_answered : GoodIn wsX7_look (wsV RX7 113 RX7 yX7_answered wsX7_answered) := goodIn_s _ [(61, 3), (7, 1), (64, 1), (14, 1), (65, 11)] rfl (by decide +kernel)
set_option maxRecDepth 20000 in
theorem gX7_lookLeaves_X7_hasGallery : GoodIn wsX7_lookLeaves (wsV RX7 154 RX7 yX7_hasGallery wsX7_hasGallery) := goodIn_s _ [(4, 5), (2, 1), (9, 1), (65, 11), (83, 15)] rfl (by decide +kernel)
set_option maxRecDepth 20000 in
theorem gX7_lookLeaves_X7_refused : GoodIn wsX7_lookLeaves (wsV RX7 82 RX7 yX7_refused wsX7_refused) := goodIn_s _ [(10, 3), (7, 1), (13, 2), (65, 11)] rfl (by decide +kernel)
set_option maxRecDepth 20000 in
theorem gX7_lookLeaves_X2_chooseLook : GoodIn wsX7_lookLeaves (wsV RX7 272 RX2 yX2_chooseLook wsX2_chooseLook) := goodIn_s _ [(15, 14), (18, 1), (29, 18), (7, 1), (47, 14), (76, 22)] rfl (by decide +kernel)
set_option maxRecDepth 20000 in
theorem gX7_lookLeaves_X7_answered : GoodIn wsX7_lookLeaves (wsV RX7 113 RX7 yX7_answered wsX7_answered) := goodIn_s _ [(61, 3), (7, 1), (64, 1), (14, 1), (65, 11)] rfl (by decide +kernel)
set_option maxRecDepth 20000 in
theorem gX7_lawsLike_X7_hasGallery : GoodIn wsX7_lawsLike (wsV RX7 154 RX7 yX7_hasGallery wsX7_hasGallery) := goodIn_s _ [(3, 5), (1, 2), (30, 26)] rfl (by decide +kernel)
set_option maxRecDepth 20000 in
theorem gX7_lawsLike_X7_refused : GoodIn wsX7_lawsLike (wsV RX7 82 RX7 yX7_refused wsX7_refused) := goodIn_s _ [(8, 3), (6, 1), (11, 2), (30, 11)] rfl (by decide +kernel)
set_option maxRecDepth 20000 in
theorem gX7_lawsLike_X0_goesLike : GoodIn wsX7_lawsLike (wsV RX7 281 RX0 yX0_goesLike wsX0_goesLike) := goodIn_s _ [(13, 10), (16, 1), (23, 3), (41, 15)] rfl (by decide +kernel)
set_option maxRecDepth 20000 in
theorem gX7_lawsLike_X7_answered : GoodIn wsX7_lawsLike (wsV RX7 113 RX7 yX7_answered wsX7_answered) := goodIn_s _ [(26, 3), (6, 1), (29, 1), (12, 1), (30, 11)] rfl (by decide +kernel)
set_option maxRecDepth 20000 in
theorem gX7_lawFor_X7_troubleOfFigureWithin : GoodIn wsX7_lawFor (wsV RX7 181 RX7 yX7_troubleOfFigureWithin wsX7_troubleOfFigureWithin) := goodIn_s _ [(1, 8), (4, 1), (9, 6), (24, 26)] rfl (by decide +kernel)
set_option maxRecDepth 20000 in
theorem gX7_lawFor_X7_refused : GoodIn wsX7_lawFor (wsV RX7 82 RX7 yX7_refused wsX7_refused) := goodIn_s _ [(15, 3), (4, 1), (18, 2), (24, 11)] rfl (by decide +kernel)
set_option maxRecDepth 20000 in
theorem gX7_lawFor_X7_answered : GoodIn wsX7_lawFor (wsV RX7 113 RX7 yX7_answered wsX7_answered) := goodIn_s _ [(20, 3), (4, 1), (23, 1), (19, 1), (24, 11)] rfl (by decide +kernel)
set_option maxRecDepth 20000 in
theorem gX7_judge_X7_hasGallery : GoodIn wsX7_judge (wsV RX7 154 RX7 yX7_hasGallery wsX7_hasGallery) := goodIn_s _ [(8, 5), (1, 1), (13, 1), (32, 26)] rfl (by decide +kernel)
set_option maxRecDepth 20000 in
theorem gX7_judge_X7_refused : GoodIn wsX7_judge (wsV RX7 82 RX7 yX7_refused wsX7_refused) := goodIn_s _ [(14, 3), (11, 1), (17, 2), (32, 11)] rfl (by decide +kernel)
set_option maxRecDepth 20000 in
theorem gX7_judge_X0_aliveByLaw : GoodIn wsX7_judge (wsV RX7 269 RX0 yX0_aliveByLaw wsX0_aliveByLaw) := goodIn_s _ [(19, 8), (11, 1), (27, 1), (43, 15)] rfl (by decide +kernel)
set_option maxRecDepth 20000 in
theorem gX7_judge_X7_answered : GoodIn wsX7_judge (wsV RX7 113 RX7 yX7_answered wsX7_answered) := goodIn_s _ [(28, 3), (11, 1), (31, 1), (18, 1), (32, 11)] rfl (by decide +kernel)
set_option maxRecDepth 20000 in
theorem gX7_dares_X7_troubleOfNumber : GoodIn wsX7_dares (wsV RX7 188 RX7 yX7_troubleOfNumber wsX7_troubleOfNumber) := goodIn_s _ [(2, 8), (5, 1), (10, 6), (26, 26)] rfl (by decide +kernel)
set_option maxRecDepth 20000 in
theorem gX7_dares_X7_attendantShare : GoodIn wsX7_dares (va_wsS RX7 299 yX7_attendantShare wsX7_attendantShare) := goodIn_s _ [(16, 2), (5, 1), (18, 1)] rfl (by decide +kernel)
set_option maxRecDepth 20000 in
theorem gX7_dares_X7_figureShare : GoodIn wsX7_dares (va_wsS RX7 303 yX7_figureShare wsX7_figureShare) := goodIn_s _ [(19, 2), (5, 1), (21, 1)] rfl (by decide +kernel)
set_option maxRecDepth 20000 in
theorem gX7_dares_X7_answered : GoodIn wsX7_dares (wsV RX7 113 RX7 yX7_answered wsX7_answered) := goodIn_s _ [(22, 3), (5, 1), (25, 1), (1, 1), (26, 11)] rfl (by decide +kernel)
set_option maxRecDepth 20000 in
theorem gX7_rests_X7_troubleOfNumber : GoodIn wsX7_rests (wsV RX7 188 RX7 yX7_troubleOfNumber wsX7_troubleOfNumber) := goodIn_s _ [(1, 8), (4, 1), (9, 6), (33, 26)] rfl (by decide +kernel)
set_option maxRecDepth 20000 in
theorem gX7_rests_X7_refused : GoodIn wsX7_rests (wsV RX7 82 RX7 yX7_refused wsX7_refused) := goodIn_s _ [(15, 3), (4, 1), (18, 2), (33, 11)] rfl (by decide +kernel)
set_option maxRecDepth 20000 in
theorem gX7_rests_X7_isRest : GoodIn wsX7_rests (va_wsS RX7 307 yX7_isRest wsX7_isRest) := goodIn_s _ [(20, 2), (4, 1), (22, 3), (4, 1), (25, 4)] rfl (by decide +kernel)
set_option maxRecDepth 20000 in
theorem gX7_rests_X7_answered : GoodIn wsX7_rests (wsV RX7 113 RX7 yX7_answered wsX7_answered) := goodIn_s _ [(29, 3), (4, 1), (32, 1), (19, 1), (33, 11)] rfl (by decide +kernel)
set_option maxRecDepth 20000 in
theorem gX7_rest_X7_troubleOfNumber : GoodIn wsX7_rest (wsV RX7 188 RX7 yX7_troubleOfNumber wsX7_troubleOfNumber) := goodIn_s _ [(1, 8), (4, 1), (9, 6), (33, 26)] rfl (by decide +kernel)
set_option maxRecDepth 20000 in
theorem gX7_rest_X7_refused : GoodIn wsX7_rest (wsV RX7 82 RX7 yX7_refused wsX7_refused) := goodIn_s _ [(15, 3), (4, 1), (18, 2), (33, 11)] rfl (by decide +kernel)
set_option maxRecDepth 20000 in
theorem gX7_rest_X7_isRest : GoodIn wsX7_rest (va_wsS RX7 307 yX7_isRest wsX7_isRest) := goodIn_s _ [(20, 2), (4, 1), (22, 3), (4, 1), (25, 4)] rfl (by decide +kernel)
set_option maxRecDepth 20000 in
theorem gX7_rest_X7_answered : GoodIn wsX7_rest (wsV RX7 113 RX7 yX7_answered wsX7_answered) := goodIn_s _ [(29, 3), (4, 1), (32, 1), (19, 1), (33, 11)] rfl (by decide +kernel)
set_option maxRecDepth 20000 in
theorem gX7_odds_X7_troubleOfFigureWithin : GoodIn wsX7_odds (wsV RX7 181 RX7 yX7_troubleOfFigureWithin wsX7_troubleOfFigureWithin) := goodIn_s _ [(5, 8), (8, 1), (13, 1), (2, 1), (14, 4), (39, 26)] rfl (by decide +kernel)
set_option maxRecDepth 20000 in
theorem gX7_odds_X7_refused : GoodIn wsX7_odds (wsV RX7 82 RX7 yX7_refused wsX7_refused) := goodIn_s _ [(18, 3), (8, 1), (21, 1), (4, 1), (39, 11)] rfl (by decide +kernel)
set_option maxRecDepth 20000 in
theorem gX7_odds_X7_ownTurns : GoodIn wsX7_odds (wsV RX7 311 RX7 yX7_ownTurns wsX7_ownTurns) := goodIn_s _ [(22, 3), (8, 1), (25, 3), (2, 1), (28, 8), (39, 11), (65, 7), (50, 15)] rfl (by decide +kernel)
set_option maxRecDepth 20000 in
theorem gX7_odds_X7_inLowestTerms : GoodIn wsX7_odds (va_wsS RX7 319 yX7_inLowestTerms wsX7_inLowestTerms) := goodIn_s _ [(36, 2), (8, 1), (38, 1)] rfl (by decide +kernel)
set_option maxRecDepth 20000 in
theorem gX7_mean_X7_troubleOfFigureWithin : GoodIn wsX7_mean (wsV RX7 181 RX7 yX7_troubleOfFigureWithin wsX7_troubleOfFigureWithin) := goodIn_s _ [(5, 8), (8, 1), (13, 1), (2, 1), (14, 4), (39, 26)] rfl (by decide +kernel)
set_option maxRecDepth 20000 in
theorem gX7_mean_X7_refused : GoodIn wsX7_mean (wsV RX7 82 RX7 yX7_refused wsX7_refused) := goodIn_s _ [(18, 3), (8, 1), (21, 1), (1, 1), (39, 11)] rfl (by decide +kernel)
set_option maxRecDepth 20000 in
theorem gX7_mean_X7_ownTurns : GoodIn wsX7_mean (wsV RX7 311 RX7 yX7_ownTurns wsX7_ownTurns) := goodIn_s _ [(22, 3), (8, 1), (25, 3), (2, 1), (28, 8), (39, 11), (65, 7), (50, 15)] rfl (by decide +kernel)
set_option maxRecDepth 20000 in
theorem gX7_mean_X7_inLowestTerms : GoodIn wsX7_mean (va_wsS RX7 319 yX7_inLowestTerms wsX7_inLowestTerms) := goodIn_s _ [(36, 2), (8, 1), (38, 1)] rfl (by decide +kernel)
set_option maxRecDepth 20000 in
theorem gX7_drawn_X7_isFigure : GoodIn wsX7_drawn (wsV RX7 116 RX7 yX7_isFigure wsX7_isFigure) := goodIn_s _ [(5, 5), (4, 1), (10, 3), (8, 1), (13, 1), (40, 11), (58, 15)] rfl (by decide +kernel)
set_option maxRecDepth 20000 in
theorem gX7_drawn_X7_refused : GoodIn wsX7_drawn (wsV RX7 82 RX7 yX7_refused wsX7_refused) := goodIn_s _ [(14, 3), (8, 1), (17, 2), (40, 11)] rfl (by decide +kernel)
set_option maxRecDepth 20000 in
theorem gX7_drawn_X7_within : GoodIn wsX7_drawn (va_wsS RX7 78 yX7_within wsX7_within) := goodIn_s _ [(11, 2), (8, 1), (13, 1)] rfl (by decide +kernel)
set_option maxRecDepth 20000 in
theorem gX7_drawn_X7_nextDraw : GoodIn wsX7_drawn (va_wsS RX7 324 yX7_nextDraw wsX7_nextDraw) := goodIn_s _ [(19, 2), (8, 1), (21, 2)] rfl (by decide +kernel)
set_option maxRecDepth 20000 in
theorem gX7_drawn_X0_next : GoodIn wsX7_drawn (wsV RX7 174 RX0 yX0_next wsX0_next) := goodIn_s _ [(23, 8), (58, 15)] rfl (by decide +kernel)
set_option maxRecDepth 20000 in
theorem gX7_drawn_X7_isShut : GoodIn wsX7_drawn (wsV RX7 327 RX7 yX7_isShut wsX7_isShut) := goodIn_s _ [(31, 3), (8, 1), (34, 1), (4, 1), (35, 1), (40, 11), (58, 15)] rfl (by decide +kernel)
set_option maxRecDepth 20000 in
theorem gX7_drawn_X7_answered : GoodIn wsX7_drawn (wsV RX7 113 RX7 yX7_answered wsX7_answered) := goodIn_s _ [(36, 3), (8, 1), (39, 1), (18, 1), (40, 11)] rfl (by decide +kernel)
set_option maxRecDepth 20000 in
theorem gX7_firstShut_X7_hasGallery : GoodIn wsX7_firstShut (wsV RX7 154 RX7 yX7_hasGallery wsX7_hasGallery) := goodIn_s _ [(2, 7), (30, 26)] rfl (by decide +kernel)
set_option maxRecDepth 20000 in
theorem gX7_firstShut_X7_refused : GoodIn wsX7_firstShut (wsV RX7 82 RX7 yX7_refused wsX7_refused) := goodIn_s _ [(9, 3), (5, 1), (12, 2), (30, 11)] rfl (by decide +kernel)
set_option maxRecDepth 20000 in
theorem gX7_firstShut_X7_within : GoodIn wsX7_firstShut (va_wsS RX7 78 yX7_within wsX7_within) := goodIn_s _ [(14, 2), (5, 1), (16, 1)] rfl (by decide +kernel)
set_option maxRecDepth 20000 in
theorem gX7_firstShut_X7_nextDraw : GoodIn wsX7_firstShut (va_wsS RX7 324 yX7_nextDraw wsX7_nextDraw) := goodIn_s _ [(17, 2), (5, 1), (19, 2)] rfl (by decide +kernel)
set_option maxRecDepth 20000 in
theorem gX7_firstShut_X7_isShut : GoodIn wsX7_firstShut (wsV RX7 327 RX7 yX7_isShut wsX7_isShut) := goodIn_s _ [(21, 3), (5, 1), (24, 1), (7, 1), (25, 1), (30, 26)] rfl (by decide +kernel)
set_option maxRecDepth 20000 in
theorem gX7_firstShut_X7_answered : GoodIn wsX7_firstShut (wsV RX7 113 RX7 yX7_answered wsX7_answered) := goodIn_s _ [(26, 3), (5, 1), (29, 1), (13, 1), (30, 11)] rfl (by decide +kernel)
set_option maxRecDepth 20000 in
theorem gX7_go_X7_troubleOfNumber : GoodIn wsX7_go (wsV RX7 188 RX7 yX7_troubleOfNumber wsX7_troubleOfNumber) := goodIn_s _ [(7, 8), (10, 1), (15, 1), (5, 1), (16, 4), (118, 11), (136, 15)] rfl (by decide +kernel)
set_option maxRecDepth 20000 in
theorem gX7_go_X7_refused : GoodIn wsX7_go (wsV RX7 82 RX7 yX7_refused wsX7_refused) := goodIn_s _ [(20, 3), (10, 1), (23, 2), (118, 11)] rfl (by decide +kernel)
set_option maxRecDepth 20000 in
theorem gX7_go_X1_keep : GoodIn wsX7_go (wsV RX7 330 RX1 yX1_keep wsX1_keep) := goodIn_s _ [(25, 24), (151, 5), (129, 7)] rfl (by decide +kernel)
set_option maxRecDepth 20000 in
theorem gX7_go_X0_pass : GoodIn wsX7_go (wsV RX7 205 RX0 yX0_pass wsX0_pass) := goodIn_s _ [(49, 14), (52, 1), (63, 3), (18, 1), (10, 1), (19, 1), (66, 10), (40, 1), (76, 1), (45, 1), (77, 37), (43, 2), (129, 22), (156, 4)] rfl (by decide +kernel)
set_option maxRecDepth 20000 in
theorem gX7_go_X7_answered : GoodIn wsX7_go (wsV RX7 113 RX7 yX7_answered wsX7_answered) := goodIn_s _ [(114, 3), (10, 1), (117, 1), (24, 1), (118, 11)] rfl (by decide +kernel)
set_option maxRecDepth 20000 in
theorem gX7_put_X7_isFigure : GoodIn wsX7_put (wsV RX7 116 RX7 yX7_isFigure wsX7_isFigure) := goodIn_s _ [(4, 9), (7, 1), (13, 1), (53, 11), (71, 15)] rfl (by decide +kernel)
set_option maxRecDepth 20000 in
theorem gX7_put_X7_refused : GoodIn wsX7_put (wsV RX7 82 RX7 yX7_refused wsX7_refused) := goodIn_s _ [(14, 3), (7, 1), (17, 2), (53, 11)] rfl (by decide +kernel)
set_option maxRecDepth 20000 in
theorem gX7_put_X5_isGone : GoodIn wsX7_put (wsV RX7 129 RX5 yX5_isGone wsX5_isGone) := goodIn_s _ [(19, 7), (7, 1), (26, 1), (64, 7)] rfl (by decide +kernel)
set_option maxRecDepth 20000 in
theorem gX7_put_X1_keep : GoodIn wsX7_put (wsV RX7 330 RX1 yX1_keep wsX1_keep) := goodIn_s _ [(27, 15), (22, 1), (42, 4), (24, 1), (46, 3), (86, 5), (64, 7)] rfl (by decide +kernel)
set_option maxRecDepth 20000 in
theorem gX7_put_X7_answered : GoodIn wsX7_put (wsV RX7 113 RX7 yX7_answered wsX7_answered) := goodIn_s _ [(49, 3), (7, 1), (52, 1), (18, 1), (53, 11)] rfl (by decide +kernel)
set_option maxRecDepth 20000 in
theorem gX7_wind_X7_isFigure : GoodIn wsX7_wind (wsV RX7 116 RX7 yX7_isFigure wsX7_isFigure) := goodIn_s _ [(5, 9), (8, 1), (14, 1), (52, 11), (70, 15)] rfl (by decide +kernel)
set_option maxRecDepth 20000 in
theorem gX7_wind_X7_refused : GoodIn wsX7_wind (wsV RX7 82 RX7 yX7_refused wsX7_refused) := goodIn_s _ [(15, 3), (8, 1), (18, 2), (52, 11)] rfl (by decide +kernel)
set_option maxRecDepth 20000 in
theorem gX7_wind_X1_keep : GoodIn wsX7_wind (wsV RX7 330 RX1 yX1_keep wsX1_keep) := goodIn_s _ [(20, 24), (85, 5), (63, 7)] rfl (by decide +kernel)
set_option maxRecDepth 20000 in
theorem gX7_wind_X5_startTurn : GoodIn wsX7_wind (wsV RX7 248 RX5 yX5_startTurn wsX5_startTurn) := goodIn_s _ [(44, 3), (35, 1), (47, 1), (38, 2), (63, 7)] rfl (by decide +kernel)
set_option maxRecDepth 20000 in
theorem gX7_wind_X7_answered : GoodIn wsX7_wind (wsV RX7 113 RX7 yX7_answered wsX7_answered) := goodIn_s _ [(48, 3), (8, 1), (51, 1), (19, 1), (52, 11)] rfl (by decide +kernel)
set_option maxRecDepth 20000 in
theorem gX7_undo_X1_takeLatest : GoodIn wsX7_undo (wsV RX7 333 RX1 yX1_takeLatest wsX1_takeLatest) := goodIn_s _ [(4, 20), (35, 12)] rfl (by decide +kernel)
set_option maxRecDepth 20000 in
theorem gX7_image_X7_hasGallery : GoodIn wsX7_image (wsV RX7 154 RX7 yX7_hasGallery wsX7_hasGallery) := goodIn_s _ [(4, 7), (39, 11), (55, 15)] rfl (by decide +kernel)
set_option maxRecDepth 20000 in
theorem gX7_image_X7_refused : GoodIn wsX7_image (wsV RX7 82 RX7 yX7_refused wsX7_refused) := goodIn_s _ [(11, 3), (7, 1), (14, 2), (39, 11)] rfl (by decide +kernel)
end P04_good_02
section P04_good_03
set_option maxRecDepth 20000 in
theorem gX7_image_X1_addImage : GoodIn wsX7_image (wsV RX7 340 RX1 yX1_addImage wsX1_addImage) := goodIn_s _ [(16, 19), (50, 5), (70, 7)] rfl (by decide +kernel)
set_option maxRecDepth 20000 in
theorem gX7_image_X7_answered : GoodIn wsX7_image (wsV RX7 113 RX7 yX7_answered wsX7_answered) := goodIn_s _ [(35, 3), (7, 1), (38, 1), (15, 1), (39, 11)] rfl (by decide +kernel)
set_option maxRecDepth 20000 in
theorem gX7_back_X1_goBack : GoodIn wsX7_back (wsV RX7 344 RX1 yX1_goBack wsX1_goBack) := goodIn_s _ [(4, 23), (38, 12)] rfl (by decide +kernel)
set_option maxRecDepth 20000 in
theorem gX7_size_X0_sizeTold : GoodIn wsX7_size (wsV RX7 358 RX0 yX0_sizeTold wsX0_sizeTold) := goodIn_s _ [(9, 23), (69, 19)] rfl (by decide +kernel)
set_option maxRecDepth 20000 in
theorem gX7_isFigure_X7_within : GoodIn wsX7_isFigure (va_wsS RX7 78 yX7_within wsX7_within) := goodIn_s _ [(3, 4)] rfl (by decide +kernel)
set_option maxRecDepth 20000 in
theorem gX7_isPlace_X7_within : GoodIn wsX7_isPlace (va_wsS RX7 78 yX7_within wsX7_within) := goodIn_s _ [(3, 4)] rfl (by decide +kernel)
set_option maxRecDepth 20000 in
theorem gX7_isWatcher_X7_within : GoodIn wsX7_isWatcher (va_wsS RX7 78 yX7_within wsX7_within) := goodIn_s _ [(4, 4)] rfl (by decide +kernel)
set_option maxRecDepth 20000 in
theorem gX7_troubleOfNumber_X7_hasGallery : GoodIn wsX7_troubleOfNumber (wsV RX7 154 RX7 yX7_hasGallery wsX7_hasGallery) := goodIn_s _ [(1, 7), (11, 26)] rfl (by decide +kernel)
set_option maxRecDepth 20000 in
theorem gX7_troubleOfNumber_X7_within : GoodIn wsX7_troubleOfNumber (va_wsS RX7 78 yX7_within wsX7_within) := goodIn_s _ [(8, 2), (4, 1), (10, 1)] rfl (by decide +kernel)
set_option maxRecDepth 20000 in
theorem gX7_troubleOfFigureWithin_X7_isFigure : GoodIn wsX7_troubleOfFigureWithin (wsV RX7 116 RX7 yX7_isFigure wsX7_isFigure) := goodIn_s _ [(1, 9), (4, 1), (10, 27)] rfl (by decide +kernel)
set_option maxRecDepth 20000 in
theorem gX7_troubleOfFigureWithin_X7_within : GoodIn wsX7_troubleOfFigureWithin (va_wsS RX7 78 yX7_within wsX7_within) := goodIn_s _ [(8, 2), (4, 1), (10, 1)] rfl (by decide +kernel)
set_option maxRecDepth 20000 in
theorem gX7_turnFromNow_X7_laterTurn : GoodIn wsX7_turnFromNow (va_wsS RX7 364 yX7_laterTurn wsX7_laterTurn) := goodIn_s _ [(7, 4)] rfl (by decide +kernel)
set_option maxRecDepth 20000 in
theorem gX7_roundLength_X7_turnFromNow : GoodIn wsX7_roundLength (wsV RX7 171 RX7 yX7_turnFromNow wsX7_turnFromNow) := goodIn_s _ [(3, 5), (1, 2), (8, 6), (6, 1), (14, 1), (23, 33)] rfl (by decide +kernel)
set_option maxRecDepth 20000 in
theorem gX7_roundLength_X0_next : GoodIn wsX7_roundLength (wsV RX7 174 RX0 yX0_next wsX0_next) := goodIn_s _ [(15, 8), (34, 15)] rfl (by decide +kernel)
set_option maxRecDepth 20000 in
theorem gX7_runAhead_X5_copyFrom : GoodIn wsX7_runAhead (wsV RX7 194 RX5 yX5_copyFrom wsX5_copyFrom) := goodIn_s _ [(3, 12), (100, 7)] rfl (by decide +kernel)
set_option maxRecDepth 20000 in
theorem gX7_runAhead_X7_passAhead : GoodIn wsX7_runAhead (wsV RX7 202 RX7 yX7_passAhead wsX7_passAhead) := goodIn_s _ [(15, 6), (1, 1), (21, 19), (18, 1), (40, 11), (6, 1), (51, 1), (11, 1), (52, 37), (9, 2), (89, 11), (107, 15), (100, 7), (122, 4)] rfl (by decide +kernel)
set_option maxRecDepth 20000 in
theorem gX7_passAhead_X0_pass : GoodIn wsX7_passAhead (wsV RX7 205 RX0 yX0_pass wsX0_pass) := goodIn_s _ [(4, 14), (7, 1), (18, 58), (102, 7), (87, 15), (109, 4)] rfl (by decide +kernel)
set_option maxRecDepth 20000 in
theorem gX7_runAheadOnTrial_X5_copyFrom : GoodIn wsX7_runAheadOnTrial (wsV RX7 194 RX5 yX5_copyFrom wsX5_copyFrom) := goodIn_s _ [(5, 12), (96, 7)] rfl (by decide +kernel)
set_option maxRecDepth 20000 in
theorem gX7_runAheadOnTrial_X0_pass : GoodIn wsX7_runAheadOnTrial (wsV RX7 205 RX0 yX0_pass wsX0_pass) := goodIn_s _ [(17, 14), (20, 1), (31, 16), (8, 1), (47, 1), (13, 1), (48, 37), (11, 2), (96, 26)] rfl (by decide +kernel)
set_option maxRecDepth 20000 in
theorem gX7_placeOfActing_X0_pass : GoodIn wsX7_placeOfActing (wsV RX7 205 RX0 yX0_pass wsX0_pass) := goodIn_s _ [(6, 14), (9, 1), (20, 58), (90, 26)] rfl (by decide +kernel)
set_option maxRecDepth 20000 in
theorem gX7_placeOfActing_X5_isGone : GoodIn wsX7_placeOfActing (wsV RX7 129 RX5 yX5_isGone wsX5_isGone) := goodIn_s _ [(78, 1), (34, 6), (24, 1), (40, 1), (90, 7)] rfl (by decide +kernel)
set_option maxRecDepth 20000 in
theorem gX7_minutesTillGone_X0_pass : GoodIn wsX7_minutesTillGone (wsV RX7 205 RX0 yX0_pass wsX0_pass) := goodIn_s _ [(4, 14), (7, 1), (18, 58), (87, 26)] rfl (by decide +kernel)
set_option maxRecDepth 20000 in
theorem gX7_crowdAt_X5_isGone : GoodIn wsX7_crowdAt (wsV RX7 129 RX5 yX5_isGone wsX5_isGone) := goodIn_s _ [(5, 9), (40, 7)] rfl (by decide +kernel)
set_option maxRecDepth 20000 in
theorem gX7_planRoutes_X5_copyFrom : GoodIn wsX7_planRoutes (wsV RX7 194 RX5 yX5_copyFrom wsX5_copyFrom) := goodIn_s _ [(6, 12), (144, 7)] rfl (by decide +kernel)
set_option maxRecDepth 20000 in
theorem gX7_planRoutes_X7_placeOfActing : GoodIn wsX7_planRoutes (wsV RX7 209 RX7 yX7_placeOfActing wsX7_placeOfActing) := goodIn_s _ [(18, 5), (1, 1), (23, 1), (4, 1), (24, 20), (21, 1), (44, 11), (9, 1), (55, 1), (14, 1), (56, 37), (12, 2), (93, 1), (118, 11), (144, 7), (129, 15), (151, 4)] rfl (by decide +kernel)
set_option maxRecDepth 20000 in
theorem gX7_planRoutes_X4_aim : GoodIn wsX7_planRoutes (wsV RX7 368 RX4 yX4_aim wsX4_aim) := goodIn_s _ [(94, 6), (43, 1), (21, 1), (44, 1), (155, 3)] rfl (by decide +kernel)
set_option maxRecDepth 20000 in
theorem gX7_planRoutes_X4_weigh : GoodIn wsX7_planRoutes (wsV RX7 372 RX4 yX4_weigh wsX4_weigh) := goodIn_s _ [(100, 3), (97, 1), (103, 10), (97, 1), (113, 5), (99, 1), (155, 3)] rfl (by decide +kernel)
set_option maxRecDepth 20000 in
theorem gX7_postsHold_X5_copyFrom : GoodIn wsX7_postsHold (wsV RX7 194 RX5 yX5_copyFrom wsX5_copyFrom) := goodIn_s _ [(5, 12), (106, 7)] rfl (by decide +kernel)
set_option maxRecDepth 20000 in
theorem gX7_postsHold_X7_minutesTillGone : GoodIn wsX7_postsHold (wsV RX7 198 RX7 yX7_minutesTillGone wsX7_minutesTillGone) := goodIn_s _ [(17, 5), (3, 1), (22, 20), (20, 1), (42, 11), (8, 1), (53, 1), (13, 1), (54, 37), (11, 2), (91, 11), (106, 22), (102, 4)] rfl (by decide +kernel)
set_option maxRecDepth 20000 in
theorem gX7_isRest_X7_figureShare : GoodIn wsX7_isRest (va_wsS RX7 303 yX7_figureShare wsX7_figureShare) := goodIn_s _ [(1, 4)] rfl (by decide +kernel)
set_option maxRecDepth 20000 in
theorem gX7_isRest_X7_attendantShare : GoodIn wsX7_isRest (va_wsS RX7 299 yX7_attendantShare wsX7_attendantShare) := goodIn_s _ [(5, 2), (3, 1), (7, 1)] rfl (by decide +kernel)
set_option maxRecDepth 20000 in
theorem gX7_ownTurns_X0_next : GoodIn wsX7_ownTurns (wsV RX7 174 RX0 yX0_next wsX0_next) := goodIn_s _ [(4, 8), (30, 15)] rfl (by decide +kernel)
set_option maxRecDepth 20000 in
theorem gX8_isFigure_X8_in : GoodIn wsX8_isFigure (va_wsS RX8 142 yX8_in wsX8_in) := goodIn_s _ [(3, 4)] rfl (by decide +kernel)
set_option maxRecDepth 20000 in
theorem gX8_isWatcher_X8_in : GoodIn wsX8_isWatcher (va_wsS RX8 142 yX8_in wsX8_in) := goodIn_s _ [(3, 4)] rfl (by decide +kernel)
set_option maxRecDepth 20000 in
theorem gX8_isWatched_X8_hasBit : GoodIn wsX8_isWatched (va_wsS RX8 238 yX8_hasBit wsX8_hasBit) := goodIn_s _ [(3, 4)] rfl (by decide +kernel)
set_option maxRecDepth 20000 in
theorem gX8_isWatched_X8_watcherAt : GoodIn wsX8_isWatched (wsV RX8 242 RX8 yX8_watcherAt wsX8_watcherAt) := goodIn_s _ [(7, 3), (5, 1), (10, 43)] rfl (by decide +kernel)
set_option maxRecDepth 20000 in
theorem gX8_walkOn_X8_isWatched : GoodIn wsX8_walkOn (wsV RX8 245 RX8 yX8_isWatched wsX8_isWatched) := goodIn_s _ [(2, 6), (1, 1), (8, 2), (5, 1), (10, 47)] rfl (by decide +kernel)
set_option maxRecDepth 20000 in
theorem gX8_speakOn_X8_isWatched : GoodIn wsX8_speakOn (wsV RX8 245 RX8 yX8_isWatched wsX8_isWatched) := goodIn_s _ [(3, 6), (1, 1), (9, 2), (6, 1), (11, 47)] rfl (by decide +kernel)
set_option maxRecDepth 20000 in
theorem gX8_minuteOn_X8_hasBit : GoodIn wsX8_minuteOn (va_wsS RX8 238 yX8_hasBit wsX8_hasBit) := goodIn_s _ [(5, 4)] rfl (by decide +kernel)
set_option maxRecDepth 20000 in
theorem gX8_minuteOn_X8_walkOn : GoodIn wsX8_minuteOn (wsV RX8 251 RX8 yX8_walkOn wsX8_walkOn) := goodIn_s _ [(9, 3), (7, 1), (12, 1), (2, 1), (13, 3), (7, 1), (16, 2), (5, 2), (8, 1), (18, 6), (32, 40)] rfl (by decide +kernel)
set_option maxRecDepth 20000 in
theorem gX8_minuteOn_X8_speakOn : GoodIn wsX8_minuteOn (wsV RX8 255 RX8 yX8_speakOn wsX8_speakOn) := goodIn_s _ [(24, 3), (7, 1), (27, 1), (2, 1), (1, 1), (13, 3), (7, 1), (16, 2), (5, 2), (8, 1), (18, 6), (32, 40)] rfl (by decide +kernel)
set_option maxRecDepth 20000 in
theorem gX8_minuteOn_X8_nextOf : GoodIn wsX8_minuteOn (wsV RX8 264 RX8 yX8_nextOf wsX8_nextOf) := goodIn_s _ [(28, 3), (7, 1), (31, 1), (2, 1), (32, 40)] rfl (by decide +kernel)
end P04_good_03
section P05_ax
section AX
/-- a contract's start: the heap's size, the world, the classes, and what else is known -/
def ax_C (dC : Nat → ClassId) (dI : Nat → Nat → Nat) (sz : Nat) (ws : va_W) (tys : List (ClassId × FieldType)) (E : State → Prop) (U : State) : Prop :=
  U.heap.size = sz ∧ va_P (dC, dI) vwCl ws U.heap ∧ va_K (dC, dI) vwCl tys U ∧ va_D (fun _ => True) ws ∧ E U
/-- the world behind it -/
def ax_B (dC : Nat → ClassId) (dI : Nat → Nat → Nat) (A : Nat → Prop) (ws : va_W) (tys : List (ClassId × FieldType)) (t : State) : Prop :=
  va_P (dC, dI) vwCl ws t.heap ∧ va_K (dC, dI) vwCl tys t ∧ va_D A ws
theorem ax_blind {av : List Value} {dC : Nat → ClassId} {dI : Nat → Nat → Nat} {sz : Nat} {ws : va_W} {tys : List (ClassId × FieldType)} {E : State → Prop}
    (hE : ∀ (a : Array Value) (U : State) (g : JFrame) (mk : MethodId), E U → E (U.calling g mk a)) : FrameBlind (va_Pc av (ax_C dC dI sz ws tys E)) :=
  fun a U g mk q => ⟨q.1, q.2.1, q.2.2.1, va_K.moved (u := U) (U := U.calling g mk a) (Vm.Alike.refl U.vm) q.2.2.2.1, q.2.2.2.2.1, hE a U g mk q.2.2.2.2.2⟩
theorem ax_pre {av : List Value} {s : State} {H : Heap} {A : Nat → Prop} {dC : Nat → ClassId} {dI : Nat → Nat → Nat} {ws : va_W} {tys : List (ClassId × FieldType)} {E : State → Prop}
    (hP : va_P (dC, dI) vwCl ws H) (hK : va_K (dC, dI) vwCl tys s) (hD : va_D A ws) (hE : ∀ U : State, s.WarmedH U.vm → E U) :
    ∀ U : State, U.heap = H → s.WarmedH U.vm → va_Pc av (ax_C dC dI H.size ws tys E) av.toArray U :=
  fun U hU hW => ⟨rfl, by rw [hU], by rw [hU]; exact hP, va_K.moved hW.alike hK, hD.weaken (fun _ _ _ _ => trivial), hE U hW⟩
theorem ax_ti {p : Program} {l : Launch} {e : Env} {R : Room} {s : State} {m : MethodId} {args : Array Value} {below : List Frame} {meth : Method} {c : Code} {H : Heap} {locs : List Loc} {cells slots : Nat} {Q : State → Prop} {pc : Nat} {ls : Array Slot} {rest : List Value} {x : Int32} (v : Int32) (h : x = v)
    (k : W p l e R s m args below meth c H locs cells slots Q (F0 m pc ls (.int v :: rest))) : W p l e R s m args below meth c H locs cells slots Q (F0 m pc ls (.int x :: rest)) := by
  subst h; exact k
end AX
theorem dfX0 : ∀ j, j < 15 → defaultValue (tyX0 j) = vp_V [.int 0, .int 0, .int 0, .int 0, .int 0, .int 0, .int 0, .int 0, .int 0, .int 0, .null, .null, .null, .null, .null] j := fun j hj => by
  rcases (show j = 0 ∨ j = 1 ∨ j = 2 ∨ j = 3 ∨ j = 4 ∨ j = 5 ∨ j = 6 ∨ j = 7 ∨ j = 8 ∨ j = 9 ∨ j = 10 ∨ j = 11 ∨ j = 12 ∨ j = 13 ∨ j = 14 by omega) with rfl | rfl | rfl | rfl | rfl | rfl | rfl | rfl | rfl | rfl | rfl | rfl | rfl | rfl | rfl <;> rfl
theorem dfX1 : ∀ j, j < 5 → defaultValue (tyX1 j) = vp_V [.int 0, .int 0, .int 0, .null, .null] j := fun j hj => by
  rcases (show j = 0 ∨ j = 1 ∨ j = 2 ∨ j = 3 ∨ j = 4 by omega) with rfl | rfl | rfl | rfl | rfl <;> rfl
theorem dfX2 : ∀ j, j < 7 → defaultValue (tyX2 j) = vp_V [.int 0, .int 0, .int 0, .null, .null, .int 0, .int 0] j := fun j hj => by
  rcases (show j = 0 ∨ j = 1 ∨ j = 2 ∨ j = 3 ∨ j = 4 ∨ j = 5 ∨ j = 6 by omega) with rfl | rfl | rfl | rfl | rfl | rfl | rfl <;> rfl
theorem dfX3 : ∀ j, j < 14 → defaultValue (tyX3 j) = vp_V [.int 0, .int 0, .int 0, .null, .null, .null, .int 0, .int 0, .int 0, .int 0, .int 0, .long 0, .int 0, .int 0] j := fun j hj => by
  rcases (show j = 0 ∨ j = 1 ∨ j = 2 ∨ j = 3 ∨ j = 4 ∨ j = 5 ∨ j = 6 ∨ j = 7 ∨ j = 8 ∨ j = 9 ∨ j = 10 ∨ j = 11 ∨ j = 12 ∨ j = 13 by omega) with rfl | rfl | rfl | rfl | rfl | rfl | rfl | rfl | rfl | rfl | rfl | rfl | rfl | rfl <;> rfl
theorem dfX4 : ∀ j, j < 3 → defaultValue (tyX4 j) = vp_V [.int 0, .null, .null] j := fun j hj => by
  rcases (show j = 0 ∨ j = 1 ∨ j = 2 by omega) with rfl | rfl | rfl <;> rfl
theorem dfX5 : ∀ j, j < 7 → defaultValue (tyX5 j) = vp_V [.int 0, .int 0, .int 0, .int 0, .int 0, .null, .null] j := fun j hj => by
  rcases (show j = 0 ∨ j = 1 ∨ j = 2 ∨ j = 3 ∨ j = 4 ∨ j = 5 ∨ j = 6 by omega) with rfl | rfl | rfl | rfl | rfl | rfl | rfl <;> rfl
theorem dfX6 : ∀ j, j < 4 → defaultValue (tyX6 j) = vp_V [.int 0, .int 0, .null, .null] j := fun j hj => by
  rcases (show j = 0 ∨ j = 1 ∨ j = 2 ∨ j = 3 by omega) with rfl | rfl | rfl | rfl <;> rfl
theorem dfX7 : ∀ j, j < 11 → defaultValue (tyX7 j) = vp_V [.null, .null, .null, .null, .null, .null, .null, .null, .int 0, .int 0, .int 0] j := fun j hj => by
  rcases (show j = 0 ∨ j = 1 ∨ j = 2 ∨ j = 3 ∨ j = 4 ∨ j = 5 ∨ j = 6 ∨ j = 7 ∨ j = 8 ∨ j = 9 ∨ j = 10 by omega) with rfl | rfl | rfl | rfl | rfl | rfl | rfl | rfl | rfl | rfl | rfl <;> rfl
theorem dfX8 : ∀ j, j < 40 → defaultValue (tyX8 j) = vp_V [.int 0, .null, .int 0, .int 0, .int 0, .int 0, .int 0, .int 0, .int 0, .int 0, .int 0, .int 0, .null, .int 0, .int 0, .null, .null, .null, .null, .null, .null, .int 0, .int 0, .null, .null, .int 0, .int 0, .int 0, .int 0, .null, .int 0, .int 0, .null, .null, .null, .null, .int 0, .int 0, .int 0, .int 0] j := fun j hj => by
  rcases (show j = 0 ∨ j = 1 ∨ j = 2 ∨ j = 3 ∨ j = 4 ∨ j = 5 ∨ j = 6 ∨ j = 7 ∨ j = 8 ∨ j = 9 ∨ j = 10 ∨ j = 11 ∨ j = 12 ∨ j = 13 ∨ j = 14 ∨ j = 15 ∨ j = 16 ∨ j = 17 ∨ j = 18 ∨ j = 19 ∨ j = 20 ∨ j = 21 ∨ j = 22 ∨ j = 23 ∨ j = 24 ∨ j = 25 ∨ j = 26 ∨ j = 27 ∨ j = 28 ∨ j = 29 ∨ j = 30 ∨ j = 31 ∨ j = 32 ∨ j = 33 ∨ j = 34 ∨ j = 35 ∨ j = 36 ∨ j = 37 ∨ j = 38 ∨ j = 39 by omega) with rfl | rfl | rfl | rfl | rfl | rfl | rfl | rfl | rfl | rfl | rfl | rfl | rfl | rfl | rfl | rfl | rfl | rfl | rfl | rfl | rfl | rfl | rfl | rfl | rfl | rfl | rfl | rfl | rfl | rfl | rfl | rfl | rfl | rfl | rfl | rfl | rfl | rfl | rfl | rfl <;> rfl
theorem mnX1_keep : (Cond.code Lib.Math.min.name Lib.Math.min.code 2 (some .int)) ∈ wsX1_keep := List.mem_of_getElem? (i := 7) rfl
theorem mnX4_weigh : (Cond.code Lib.Math.min.name Lib.Math.min.code 2 (some .int)) ∈ wsX4_weigh := List.mem_of_getElem? (i := 4) rfl
theorem mxX2_mostOf : (Cond.code Lib.Math.max.name Lib.Math.max.code 2 (some .int)) ∈ wsX2_mostOf := List.mem_of_getElem? (i := 5) rfl
theorem mbX7_farthest : (Cond.code Lib.Math.abs.name Lib.Math.abs.code 1 (some .int)) ∈ wsX7_farthest := List.mem_of_getElem? (i := 8) rfl
end P05_ax
section P06_ai2
theorem ai_mulpos {z x y : Int} (e : z = x * y) (h : 1 ≤ z) (hx : 0 ≤ x) : 1 ≤ x := by
  have h1 : x ≠ 0 := fun h0 => by rw [h0, Int.zero_mul] at e; omega
  omega
theorem ax_tv {p : Program} {l : Launch} {e : Env} {R : Room} {s : State} {m : MethodId} {args : Array Value} {below : List Frame} {meth : Method} {c : Code} {H : Heap} {locs : List Loc} {cells slots : Nat} {Q : State → Prop} {pc : Nat} {ls : Array Slot} {rest : List Value} {x : Value} (v : Value) (h : x = v)
    (k : W p l e R s m args below meth c H locs cells slots Q (F0 m pc ls (v :: rest))) : W p l e R s m args below meth c H locs cells slots Q (F0 m pc ls (x :: rest)) := by
  subst h; exact k
theorem ai_updm {f : Nat → Int32} {a b : Int} (h : ∀ k, a ≤ (f k).toInt ∧ (f k).toInt ≤ b ∧ (f k).toInt % 10 ≤ 8) (i : Nat) {v : Int32} (hv : a ≤ v.toInt ∧ v.toInt ≤ b ∧ v.toInt % 10 ≤ 8) : ∀ k, a ≤ (upd f i v k).toInt ∧ (upd f i v k).toInt ≤ b ∧ (upd f i v k).toInt % 10 ≤ 8 := by
  intro k; unfold upd; split
  · exact hv
  · exact h k
theorem ai_rem2 {x y z : Int32} {d : Int} (e : z = x - x / y * y) (hx : 0 ≤ x.toInt) (hy : 0 < y.toInt) (hd : y.toInt ≤ d) : z.toInt = x.toInt % y.toInt ∧ 0 ≤ z.toInt ∧ z.toInt ≤ d - 1 := by
  obtain ⟨q1, q2, q3⟩ := ai_div (rfl : x / y = x / y) ⟨hx, ai_max x⟩ hy
  have h0 := Int.emod_nonneg x.toInt (show y.toInt ≠ 0 by omega)
  have h1 := Int.emod_lt_of_pos x.toInt hy
  have h2 := Int.emod_def x.toInt y.toInt
  rw [Int.mul_comm] at h2
  have hm := ai_max x
  have hp : 0 ≤ x.toInt / y.toInt * y.toInt := Int.mul_nonneg (Int.ediv_nonneg hx (by omega)) (by omega)
  have e1 : (x / y * y).toInt = x.toInt / y.toInt * y.toInt := by
    rw [Int32.toInt_mul, q1]
    generalize x.toInt / y.toInt * y.toInt = P at h2 hp ⊢
    exact Int.bmod_eq_of_le (by omega) (by omega)
  have e2 : z.toInt = x.toInt - x.toInt / y.toInt * y.toInt := by
    subst e
    rw [Int32.toInt_sub, e1]
    generalize x.toInt / y.toInt * y.toInt = P at h2 hp ⊢
    exact Int.bmod_eq_of_le (by omega) (by omega)
  rw [← h2] at e2
  exact ⟨e2, by omega, by omega⟩
end P06_ai2
section P07_ai3
section AI3
theorem ai_natle {i : Int32} {b : Int} {n : Nat} (h : i.toInt ≤ b) (hb : b ≤ (n : Int)) : i.toNatClampNeg ≤ n := by
  have e : i.toNatClampNeg = i.toInt.toNat := rfl
  omega
theorem ai_natge {i : Int32} {a : Int} {n : Nat} (h : a ≤ i.toInt) (ha : (n : Int) ≤ a) : n ≤ i.toNatClampNeg := by
  have e : i.toNatClampNeg = i.toInt.toNat := rfl
  omega
theorem ai_rd {f : Nat → Int32} {k0 k1 : Nat} {lo hi a b : Int} {i : Int32} (h : ∀ k : Nat, k0 ≤ k → k ≤ k1 → lo ≤ (f k).toInt ∧ (f k).toInt ≤ hi) (h1 : a ≤ i.toInt) (h2 : i.toInt ≤ b) (h3 : (k0 : Int) ≤ a) (h4 : b ≤ (k1 : Int)) (_ : 0 ≤ (0 : Nat)) : lo ≤ (f i.toNatClampNeg).toInt ∧ (f i.toNatClampNeg).toInt ≤ hi := h _ (ai_natge h1 h3) (ai_natle h2 h4)
theorem ai_nlt_of {i : Int32} {a b : Int} {n : Nat} (h1 : a ≤ i.toInt) (h2 : i.toInt ≤ b) (h3 : 0 ≤ a) (h4 : b < (n : Int)) : i.toNatClampNeg < n := by
  have e : i.toNatClampNeg = i.toInt.toNat := rfl
  omega
theorem ai_ngt_of {i : Int32} {a : Int} {n : Nat} (h1 : a ≤ i.toInt) (h3 : 0 ≤ a) (h4 : (n : Int) < a) : n < i.toNatClampNeg := by
  have e : i.toNatClampNeg = i.toInt.toNat := rfl
  omega
theorem ai_updS {f : Nat → Int32} {k0 k1 : Nat} {lo hi : Int} (h : ∀ k : Nat, k0 ≤ k → k ≤ k1 → lo ≤ (f k).toInt ∧ (f k).toInt ≤ hi) (i : Nat) {v : Int32} (hv : lo ≤ v.toInt ∧ v.toInt ≤ hi) : ∀ k : Nat, k0 ≤ k → k ≤ k1 → lo ≤ (upd f i v k).toInt ∧ (upd f i v k).toInt ≤ hi := by
  intro k h1 h2; unfold upd; split
  · exact hv
  · exact h k h1 h2
theorem ai_updO {f : Nat → Int32} {k0 k1 : Nat} {lo hi : Int} (h : ∀ k : Nat, k0 ≤ k → k ≤ k1 → lo ≤ (f k).toInt ∧ (f k).toInt ≤ hi) (i : Nat) {v : Int32} (hi9 : i < k0 ∨ k1 < i) : ∀ k : Nat, k0 ≤ k → k ≤ k1 → lo ≤ (upd f i v k).toInt ∧ (upd f i v k).toInt ≤ hi := by
  intro k h1 h2; unfold upd; split
  · rename_i e; exact absurd e (by omega)
  · exact h k h1 h2
theorem ai_one {f : Nat → Int32} {n : Nat} {lo hi : Int} (h : lo ≤ (f n).toInt ∧ (f n).toInt ≤ hi) : ∀ k : Nat, n ≤ k → k ≤ n → lo ≤ (f k).toInt ∧ (f k).toInt ≤ hi := by
  intro k h1 h2
  have e : k = n := by omega
  rw [e]; exact h
theorem ai_new {f : Nat → Int32} {n i : Nat} {lo hi : Int} {v : Int32} (e : i = n) (h : lo ≤ v.toInt ∧ v.toInt ≤ hi) : ∀ k : Nat, n ≤ k → k ≤ n → lo ≤ (upd f i v k).toInt ∧ (upd f i v k).toInt ≤ hi := by
  intro k h1 h2
  have e2 : k = i := by omega
  unfold upd; rw [if_pos e2]; exact h
theorem ai_k1 {f : Nat → Int32} {n i : Nat} {v : Int32} (e : i = n) : upd f i v n = v := by
  unfold upd; rw [if_pos e.symm]
theorem ai_k2 {f : Nat → Int32} {n i : Nat} {v y : Int32} (e : i ≠ n) (h : f n = y) : upd f i v n = y := by
  unfold upd; rw [if_neg (fun q => e q.symm)]; exact h
theorem ai_neg {x z : Int32} {a : Int} (e : z = -x) (h : a ≤ x.toInt) (ha : -2147483648 < a) : z.toInt = -x.toInt := by
  have h1 := ai_max x
  subst e; rw [Int32.toInt_neg]; exact Int.bmod_eq_of_le (by omega) (by omega)
end AI3
end P07_ai3
