theorem dX8_odds_65 : decode cX8_odds 65 = .ok (.lstore 6, 2) := by decide +kernel
theorem dX8_odds_67 : decode cX8_odds 67 = .ok (.lload 8, 2) := by decide +kernel
theorem dX8_odds_69 : decode cX8_odds 69 = .ok (.aload_n 0, 1) := by decide +kernel
theorem dX8_odds_70 : decode cX8_odds 70 = .ok (.getfield 20, 3) := by decide +kernel
theorem dX8_odds_73 : decode cX8_odds 73 = .ok (.iconst 3, 1) := by decide +kernel
theorem dX8_odds_74 : decode cX8_odds 74 = .ok (.iaload, 1) := by decide +kernel
theorem dX8_odds_75 : decode cX8_odds 75 = .ok (.i2l, 1) := by decide +kernel
theorem dX8_odds_76 : decode cX8_odds 76 = .ok (.lmul, 1) := by decide +kernel
theorem dX8_odds_77 : decode cX8_odds 77 = .ok (.lstore 8, 2) := by decide +kernel
theorem dX8_odds_79 : decode cX8_odds 79 = .ok (.iinc 10 1, 3) := by decide +kernel
theorem dX8_odds_82 : decode cX8_odds 82 = .ok (.goto (-30), 3) := by decide +kernel
theorem dX8_odds_85 : decode cX8_odds 85 = .ok (.lload 6, 2) := by decide +kernel
theorem dX8_odds_87 : decode cX8_odds 87 = .ok (.lload 8, 2) := by decide +kernel
theorem dX8_odds_89 : decode cX8_odds 89 = .ok (.lsub, 1) := by decide +kernel
theorem dX8_odds_90 : decode cX8_odds 90 = .ok (.lload 6, 2) := by decide +kernel
theorem dX8_odds_92 : decode cX8_odds 92 = .ok (.iload_n 3, 1) := by decide +kernel
theorem dX8_odds_93 : decode cX8_odds 93 = .ok (.invokestatic 370, 3) := by decide +kernel
theorem dX8_odds_96 : decode cX8_odds 96 = .ok (.lreturn, 1) := by decide +kernel
theorem dX8_mean_0 : decode cX8_mean 0 = .ok (.aload_n 0, 1) := by decide +kernel
theorem dX8_mean_1 : decode cX8_mean 1 = .ok (.invokevirtual 160, 3) := by decide +kernel
theorem dX8_mean_4 : decode cX8_mean 4 = .ok (.aload_n 0, 1) := by decide +kernel
theorem dX8_mean_5 : decode cX8_mean 5 = .ok (.aload_n 0, 1) := by decide +kernel
theorem dX8_mean_6 : decode cX8_mean 6 = .ok (.iload_n 1, 1) := by decide +kernel
theorem dX8_mean_7 : decode cX8_mean 7 = .ok (.invokevirtual 277, 3) := by decide +kernel
theorem dX8_mean_10 : decode cX8_mean 10 = .ok (.iload_n 2, 1) := by decide +kernel
theorem dX8_mean_11 : decode cX8_mean 11 = .ok (.iconst 0, 1) := by decide +kernel
theorem dX8_mean_12 : decode cX8_mean 12 = .ok (.bipush 8, 2) := by decide +kernel
theorem dX8_mean_14 : decode cX8_mean 14 = .ok (.invokestatic 142, 3) := by decide +kernel
theorem dX8_mean_17 : decode cX8_mean 17 = .ok (.invokevirtual 290, 3) := by decide +kernel
theorem dX8_mean_20 : decode cX8_mean 20 = .ok (.istore 4, 2) := by decide +kernel
theorem dX8_mean_22 : decode cX8_mean 22 = .ok (.iload 4, 2) := by decide +kernel
theorem dX8_mean_24 : decode cX8_mean 24 = .ok (.ifCond .eq 11, 3) := by decide +kernel
theorem dX8_mean_27 : decode cX8_mean 27 = .ok (.aload_n 0, 1) := by decide +kernel
theorem dX8_mean_28 : decode cX8_mean 28 = .ok (.iload 4, 2) := by decide +kernel
theorem dX8_mean_30 : decode cX8_mean 30 = .ok (.invokevirtual 163, 3) := by decide +kernel
theorem dX8_mean_33 : decode cX8_mean 33 = .ok (.i2l, 1) := by decide +kernel
theorem dX8_mean_34 : decode cX8_mean 34 = .ok (.lreturn, 1) := by decide +kernel
theorem dX8_mean_35 : decode cX8_mean 35 = .ok (.aload_n 0, 1) := by decide +kernel
theorem dX8_mean_36 : decode cX8_mean 36 = .ok (.iload_n 1, 1) := by decide +kernel
theorem dX8_mean_37 : decode cX8_mean 37 = .ok (.iload_n 2, 1) := by decide +kernel
theorem dX8_mean_38 : decode cX8_mean 38 = .ok (.invokevirtual 365, 3) := by decide +kernel
theorem dX8_mean_41 : decode cX8_mean 41 = .ok (.i2l, 1) := by decide +kernel
theorem dX8_mean_42 : decode cX8_mean 42 = .ok (.bipush 100, 2) := by decide +kernel
theorem dX8_mean_44 : decode cX8_mean 44 = .ok (.aload_n 0, 1) := by decide +kernel
theorem dX8_mean_45 : decode cX8_mean 45 = .ok (.getfield 20, 3) := by decide +kernel
theorem dX8_mean_48 : decode cX8_mean 48 = .ok (.iconst 3, 1) := by decide +kernel
theorem dX8_mean_49 : decode cX8_mean 49 = .ok (.iaload, 1) := by decide +kernel
theorem dX8_mean_50 : decode cX8_mean 50 = .ok (.isub, 1) := by decide +kernel
theorem dX8_mean_51 : decode cX8_mean 51 = .ok (.i2l, 1) := by decide +kernel
theorem dX8_mean_52 : decode cX8_mean 52 = .ok (.lmul, 1) := by decide +kernel
theorem dX8_mean_53 : decode cX8_mean 53 = .ok (.ldc2_w 368, 3) := by decide +kernel
theorem dX8_mean_56 : decode cX8_mean 56 = .ok (.iload_n 3, 1) := by decide +kernel
theorem dX8_mean_57 : decode cX8_mean 57 = .ok (.invokestatic 370, 3) := by decide +kernel
theorem dX8_mean_60 : decode cX8_mean 60 = .ok (.lreturn, 1) := by decide +kernel
theorem dX8_drawWhy_0 : decode cX8_drawWhy 0 = .ok (.aload_n 0, 1) := by decide +kernel
theorem dX8_drawWhy_1 : decode cX8_drawWhy 1 = .ok (.iload_n 1, 1) := by decide +kernel
theorem dX8_drawWhy_2 : decode cX8_drawWhy 2 = .ok (.iload_n 3, 1) := by decide +kernel
theorem dX8_drawWhy_3 : decode cX8_drawWhy 3 = .ok (.iconst 0, 1) := by decide +kernel
theorem dX8_drawWhy_4 : decode cX8_drawWhy 4 = .ok (.ldc_w 374, 3) := by decide +kernel
theorem dX8_drawWhy_7 : decode cX8_drawWhy 7 = .ok (.invokestatic 142, 3) := by decide +kernel
theorem dX8_drawWhy_10 : decode cX8_drawWhy 10 = .ok (.ifCond .eq 19, 3) := by decide +kernel
theorem dX8_drawWhy_13 : decode cX8_drawWhy 13 = .ok (.iload 4, 2) := by decide +kernel
theorem dX8_drawWhy_15 : decode cX8_drawWhy 15 = .ok (.iconst 0, 1) := by decide +kernel
theorem dX8_drawWhy_16 : decode cX8_drawWhy 16 = .ok (.sipush 200, 3) := by decide +kernel
theorem dX8_drawWhy_19 : decode cX8_drawWhy 19 = .ok (.invokestatic 142, 3) := by decide +kernel
theorem dX8_drawWhy_22 : decode cX8_drawWhy 22 = .ok (.ifCond .eq 7, 3) := by decide +kernel
theorem dX8_drawWhy_25 : decode cX8_drawWhy 25 = .ok (.iconst 1, 1) := by decide +kernel
theorem dX8_drawWhy_26 : decode cX8_drawWhy 26 = .ok (.goto 4, 3) := by decide +kernel
theorem dX8_drawWhy_29 : decode cX8_drawWhy 29 = .ok (.iconst 0, 1) := by decide +kernel
theorem dX8_drawWhy_30 : decode cX8_drawWhy 30 = .ok (.invokevirtual 290, 3) := by decide +kernel
theorem dX8_drawWhy_33 : decode cX8_drawWhy 33 = .ok (.istore 5, 2) := by decide +kernel
theorem dX8_drawWhy_35 : decode cX8_drawWhy 35 = .ok (.iload 5, 2) := by decide +kernel
theorem dX8_drawWhy_37 : decode cX8_drawWhy 37 = .ok (.ifCond .eq 6, 3) := by decide +kernel
theorem dX8_drawWhy_40 : decode cX8_drawWhy 40 = .ok (.iload 5, 2) := by decide +kernel
theorem dX8_drawWhy_42 : decode cX8_drawWhy 42 = .ok (.ireturn, 1) := by decide +kernel
theorem dX8_drawWhy_43 : decode cX8_drawWhy 43 = .ok (.iload_n 3, 1) := by decide +kernel
theorem dX8_drawWhy_44 : decode cX8_drawWhy 44 = .ok (.istore 6, 2) := by decide +kernel
theorem dX8_drawWhy_46 : decode cX8_drawWhy 46 = .ok (.aload_n 0, 1) := by decide +kernel
theorem dX8_drawWhy_47 : decode cX8_drawWhy 47 = .ok (.bipush (-2), 2) := by decide +kernel
theorem dX8_drawWhy_49 : decode cX8_drawWhy 49 = .ok (.putfield 375, 3) := by decide +kernel
theorem dX8_drawWhy_52 : decode cX8_drawWhy 52 = .ok (.aload_n 0, 1) := by decide +kernel
theorem dX8_drawWhy_53 : decode cX8_drawWhy 53 = .ok (.iconst 0, 1) := by decide +kernel
theorem dX8_drawWhy_54 : decode cX8_drawWhy 54 = .ok (.putfield 378, 3) := by decide +kernel
theorem dX8_drawWhy_57 : decode cX8_drawWhy 57 = .ok (.aload_n 0, 1) := by decide +kernel
theorem dX8_drawWhy_58 : decode cX8_drawWhy 58 = .ok (.invokevirtual 294, 3) := by decide +kernel
theorem dX8_drawWhy_61 : decode cX8_drawWhy 61 = .ok (.iconst 1, 1) := by decide +kernel
theorem dX8_drawWhy_62 : decode cX8_drawWhy 62 = .ok (.istore 7, 2) := by decide +kernel
theorem dX8_drawWhy_64 : decode cX8_drawWhy 64 = .ok (.iload 7, 2) := by decide +kernel
theorem dX8_drawWhy_66 : decode cX8_drawWhy 66 = .ok (.iload 4, 2) := by decide +kernel
theorem dX8_drawWhy_68 : decode cX8_drawWhy 68 = .ok (.if_icmp .gt 91, 3) := by decide +kernel
theorem dX8_drawWhy_71 : decode cX8_drawWhy 71 = .ok (.bipush 75, 2) := by decide +kernel
theorem dX8_drawWhy_73 : decode cX8_drawWhy 73 = .ok (.iload 6, 2) := by decide +kernel
theorem dX8_drawWhy_75 : decode cX8_drawWhy 75 = .ok (.imul, 1) := by decide +kernel
theorem dX8_drawWhy_76 : decode cX8_drawWhy 76 = .ok (.bipush 74, 2) := by decide +kernel
theorem dX8_drawWhy_78 : decode cX8_drawWhy 78 = .ok (.iadd, 1) := by decide +kernel
theorem dX8_drawWhy_79 : decode cX8_drawWhy 79 = .ok (.ldc_w 381, 3) := by decide +kernel
theorem dX8_drawWhy_82 : decode cX8_drawWhy 82 = .ok (.irem, 1) := by decide +kernel
theorem dX8_drawWhy_83 : decode cX8_drawWhy 83 = .ok (.istore 6, 2) := by decide +kernel
theorem dX8_drawWhy_85 : decode cX8_drawWhy 85 = .ok (.iload 6, 2) := by decide +kernel
theorem dX8_drawWhy_87 : decode cX8_drawWhy 87 = .ok (.bipush 100, 2) := by decide +kernel
theorem dX8_drawWhy_89 : decode cX8_drawWhy 89 = .ok (.irem, 1) := by decide +kernel
theorem dX8_drawWhy_90 : decode cX8_drawWhy 90 = .ok (.aload_n 0, 1) := by decide +kernel
theorem dX8_drawWhy_91 : decode cX8_drawWhy 91 = .ok (.getfield 20, 3) := by decide +kernel
theorem dX8_drawWhy_94 : decode cX8_drawWhy 94 = .ok (.iconst 3, 1) := by decide +kernel
theorem dX8_drawWhy_95 : decode cX8_drawWhy 95 = .ok (.iaload, 1) := by decide +kernel
theorem dX8_drawWhy_96 : decode cX8_drawWhy 96 = .ok (.if_icmp .ge 7, 3) := by decide +kernel
theorem dX8_drawWhy_99 : decode cX8_drawWhy 99 = .ok (.iconst 1, 1) := by decide +kernel
theorem dX8_drawWhy_100 : decode cX8_drawWhy 100 = .ok (.goto 4, 3) := by decide +kernel
theorem dX8_drawWhy_103 : decode cX8_drawWhy 103 = .ok (.iconst 0, 1) := by decide +kernel
theorem dX8_drawWhy_104 : decode cX8_drawWhy 104 = .ok (.istore 8, 2) := by decide +kernel
theorem dX8_drawWhy_106 : decode cX8_drawWhy 106 = .ok (.iload 8, 2) := by decide +kernel
theorem dX8_drawWhy_108 : decode cX8_drawWhy 108 = .ok (.ifCond .eq 16, 3) := by decide +kernel
theorem dX8_drawWhy_111 : decode cX8_drawWhy 111 = .ok (.aload_n 0, 1) := by decide +kernel
theorem dX8_drawWhy_112 : decode cX8_drawWhy 112 = .ok (.getfield 375, 3) := by decide +kernel
theorem dX8_drawWhy_115 : decode cX8_drawWhy 115 = .ok (.ifCond .ge 9, 3) := by decide +kernel
theorem dX8_drawWhy_118 : decode cX8_drawWhy 118 = .ok (.aload_n 0, 1) := by decide +kernel
theorem dX8_drawWhy_119 : decode cX8_drawWhy 119 = .ok (.iload 7, 2) := by decide +kernel
theorem dX8_drawWhy_121 : decode cX8_drawWhy 121 = .ok (.putfield 375, 3) := by decide +kernel
theorem dX8_drawWhy_124 : decode cX8_drawWhy 124 = .ok (.aload_n 0, 1) := by decide +kernel
theorem dX8_drawWhy_125 : decode cX8_drawWhy 125 = .ok (.dup, 1) := by decide +kernel
theorem dX8_drawWhy_126 : decode cX8_drawWhy 126 = .ok (.getfield 378, 3) := by decide +kernel
theorem dX8_drawWhy_129 : decode cX8_drawWhy 129 = .ok (.iload 8, 2) := by decide +kernel
theorem dX8_drawWhy_131 : decode cX8_drawWhy 131 = .ok (.ifCond .ne 17, 3) := by decide +kernel
theorem dX8_drawWhy_134 : decode cX8_drawWhy 134 = .ok (.aload_n 0, 1) := by decide +kernel
theorem dX8_drawWhy_135 : decode cX8_drawWhy 135 = .ok (.iload 7, 2) := by decide +kernel
theorem dX8_drawWhy_137 : decode cX8_drawWhy 137 = .ok (.invokevirtual 297, 3) := by decide +kernel
theorem dX8_drawWhy_140 : decode cX8_drawWhy 140 = .ok (.iload_n 2, 1) := by decide +kernel
theorem dX8_drawWhy_141 : decode cX8_drawWhy 141 = .ok (.if_icmp .ne 7, 3) := by decide +kernel
theorem dX8_drawWhy_144 : decode cX8_drawWhy 144 = .ok (.iconst 1, 1) := by decide +kernel
theorem dX8_drawWhy_145 : decode cX8_drawWhy 145 = .ok (.goto 4, 3) := by decide +kernel
theorem dX8_drawWhy_148 : decode cX8_drawWhy 148 = .ok (.iconst 0, 1) := by decide +kernel
theorem dX8_drawWhy_149 : decode cX8_drawWhy 149 = .ok (.iadd, 1) := by decide +kernel
theorem dX8_drawWhy_150 : decode cX8_drawWhy 150 = .ok (.putfield 378, 3) := by decide +kernel
theorem dX8_drawWhy_153 : decode cX8_drawWhy 153 = .ok (.iinc 7 1, 3) := by decide +kernel
theorem dX8_drawWhy_156 : decode cX8_drawWhy 156 = .ok (.goto (-92), 3) := by decide +kernel
theorem dX8_drawWhy_159 : decode cX8_drawWhy 159 = .ok (.iconst 0, 1) := by decide +kernel
theorem dX8_drawWhy_160 : decode cX8_drawWhy 160 = .ok (.ireturn, 1) := by decide +kernel
theorem dX8_drawn_0 : decode cX8_drawn 0 = .ok (.aload_n 0, 1) := by decide +kernel
theorem dX8_drawn_1 : decode cX8_drawn 1 = .ok (.invokevirtual 160, 3) := by decide +kernel
theorem dX8_drawn_4 : decode cX8_drawn 4 = .ok (.aload_n 0, 1) := by decide +kernel
theorem dX8_drawn_5 : decode cX8_drawn 5 = .ok (.aload_n 0, 1) := by decide +kernel
theorem dX8_drawn_6 : decode cX8_drawn 6 = .ok (.iload_n 1, 1) := by decide +kernel
theorem dX8_drawn_7 : decode cX8_drawn 7 = .ok (.invokevirtual 277, 3) := by decide +kernel
theorem dX8_drawn_10 : decode cX8_drawn 10 = .ok (.iload_n 1, 1) := by decide +kernel
theorem dX8_drawn_11 : decode cX8_drawn 11 = .ok (.iload_n 2, 1) := by decide +kernel
theorem dX8_drawn_12 : decode cX8_drawn 12 = .ok (.iload_n 3, 1) := by decide +kernel
theorem dX8_drawn_13 : decode cX8_drawn 13 = .ok (.invokevirtual 382, 3) := by decide +kernel
theorem dX8_drawn_16 : decode cX8_drawn 16 = .ok (.istore 4, 2) := by decide +kernel
theorem dX8_drawn_18 : decode cX8_drawn 18 = .ok (.iload 4, 2) := by decide +kernel
theorem dX8_drawn_20 : decode cX8_drawn 20 = .ok (.ifCond .eq 12, 3) := by decide +kernel
theorem dX8_drawn_23 : decode cX8_drawn 23 = .ok (.aload_n 0, 1) := by decide +kernel
theorem dX8_drawn_24 : decode cX8_drawn 24 = .ok (.iload 4, 2) := by decide +kernel
theorem dX8_drawn_26 : decode cX8_drawn 26 = .ok (.invokevirtual 163, 3) := by decide +kernel
theorem dX8_drawn_29 : decode cX8_drawn 29 = .ok (.goto 7, 3) := by decide +kernel
theorem dX8_drawn_32 : decode cX8_drawn 32 = .ok (.aload_n 0, 1) := by decide +kernel
theorem dX8_drawn_33 : decode cX8_drawn 33 = .ok (.getfield 378, 3) := by decide +kernel
theorem dX8_drawn_36 : decode cX8_drawn 36 = .ok (.ireturn, 1) := by decide +kernel
theorem dX8_firstShut_0 : decode cX8_firstShut 0 = .ok (.aload_n 0, 1) := by decide +kernel
theorem dX8_firstShut_1 : decode cX8_firstShut 1 = .ok (.invokevirtual 160, 3) := by decide +kernel
theorem dX8_firstShut_4 : decode cX8_firstShut 4 = .ok (.aload_n 0, 1) := by decide +kernel
theorem dX8_firstShut_5 : decode cX8_firstShut 5 = .ok (.aload_n 0, 1) := by decide +kernel
theorem dX8_firstShut_6 : decode cX8_firstShut 6 = .ok (.getfield 173, 3) := by decide +kernel
theorem dX8_firstShut_9 : decode cX8_firstShut 9 = .ok (.iconst (-1), 1) := by decide +kernel
theorem dX8_firstShut_10 : decode cX8_firstShut 10 = .ok (.iload_n 1, 1) := by decide +kernel
theorem dX8_firstShut_11 : decode cX8_firstShut 11 = .ok (.iload_n 2, 1) := by decide +kernel
theorem dX8_firstShut_12 : decode cX8_firstShut 12 = .ok (.invokevirtual 382, 3) := by decide +kernel
theorem dX8_firstShut_15 : decode cX8_firstShut 15 = .ok (.istore_n 3, 1) := by decide +kernel
theorem dX8_firstShut_16 : decode cX8_firstShut 16 = .ok (.iload_n 3, 1) := by decide +kernel
theorem dX8_firstShut_17 : decode cX8_firstShut 17 = .ok (.ifCond .eq 11, 3) := by decide +kernel
theorem dX8_firstShut_20 : decode cX8_firstShut 20 = .ok (.aload_n 0, 1) := by decide +kernel
theorem dX8_firstShut_21 : decode cX8_firstShut 21 = .ok (.iload_n 3, 1) := by decide +kernel
theorem dX8_firstShut_22 : decode cX8_firstShut 22 = .ok (.invokevirtual 163, 3) := by decide +kernel
theorem dX8_firstShut_25 : decode cX8_firstShut 25 = .ok (.goto 7, 3) := by decide +kernel
theorem dX8_firstShut_28 : decode cX8_firstShut 28 = .ok (.aload_n 0, 1) := by decide +kernel
theorem dX8_firstShut_29 : decode cX8_firstShut 29 = .ok (.getfield 375, 3) := by decide +kernel
theorem dX8_firstShut_32 : decode cX8_firstShut 32 = .ok (.ireturn, 1) := by decide +kernel
theorem dX8_note_0 : decode cX8_note 0 = .ok (.aload_n 0, 1) := by decide +kernel
theorem dX8_note_1 : decode cX8_note 1 = .ok (.getfield 176, 3) := by decide +kernel
theorem dX8_note_4 : decode cX8_note 4 = .ok (.bipush 16, 2) := by decide +kernel
theorem dX8_note_6 : decode cX8_note 6 = .ok (.if_icmp .ne 43, 3) := by decide +kernel
theorem dX8_note_9 : decode cX8_note 9 = .ok (.iconst 0, 1) := by decide +kernel
theorem dX8_note_10 : decode cX8_note 10 = .ok (.istore_n 1, 1) := by decide +kernel
theorem dX8_note_11 : decode cX8_note 11 = .ok (.iload_n 1, 1) := by decide +kernel
theorem dX8_note_12 : decode cX8_note 12 = .ok (.sipush 345, 3) := by decide +kernel
theorem dX8_note_15 : decode cX8_note 15 = .ok (.if_icmp .ge 24, 3) := by decide +kernel
theorem dX8_note_18 : decode cX8_note 18 = .ok (.aload_n 0, 1) := by decide +kernel
theorem dX8_note_19 : decode cX8_note 19 = .ok (.getfield 32, 3) := by decide +kernel
theorem dX8_note_22 : decode cX8_note 22 = .ok (.iload_n 1, 1) := by decide +kernel
theorem dX8_note_23 : decode cX8_note 23 = .ok (.aload_n 0, 1) := by decide +kernel
theorem dX8_note_24 : decode cX8_note 24 = .ok (.getfield 32, 3) := by decide +kernel
theorem dX8_note_27 : decode cX8_note 27 = .ok (.iload_n 1, 1) := by decide +kernel
theorem dX8_note_28 : decode cX8_note 28 = .ok (.bipush 23, 2) := by decide +kernel
theorem dX8_note_30 : decode cX8_note 30 = .ok (.iadd, 1) := by decide +kernel
theorem dX8_note_31 : decode cX8_note 31 = .ok (.iaload, 1) := by decide +kernel
theorem dX8_note_32 : decode cX8_note 32 = .ok (.iastore, 1) := by decide +kernel
theorem dX8_note_33 : decode cX8_note 33 = .ok (.iinc 1 1, 3) := by decide +kernel
theorem dX8_note_36 : decode cX8_note 36 = .ok (.goto (-25), 3) := by decide +kernel
theorem dX8_note_39 : decode cX8_note 39 = .ok (.aload_n 0, 1) := by decide +kernel
theorem dX8_note_40 : decode cX8_note 40 = .ok (.dup, 1) := by decide +kernel
theorem dX8_note_41 : decode cX8_note 41 = .ok (.getfield 176, 3) := by decide +kernel
theorem dX8_note_44 : decode cX8_note 44 = .ok (.iconst 1, 1) := by decide +kernel
theorem dX8_note_45 : decode cX8_note 45 = .ok (.isub, 1) := by decide +kernel
theorem dX8_note_46 : decode cX8_note 46 = .ok (.putfield 176, 3) := by decide +kernel
theorem dX8_note_49 : decode cX8_note 49 = .ok (.aload_n 0, 1) := by decide +kernel
theorem dX8_note_50 : decode cX8_note 50 = .ok (.getfield 26, 3) := by decide +kernel
theorem dX8_note_53 : decode cX8_note 53 = .ok (.iconst 0, 1) := by decide +kernel
theorem dX8_note_54 : decode cX8_note 54 = .ok (.aload_n 0, 1) := by decide +kernel
theorem dX8_note_55 : decode cX8_note 55 = .ok (.getfield 32, 3) := by decide +kernel
theorem dX8_note_58 : decode cX8_note 58 = .ok (.bipush 23, 2) := by decide +kernel
theorem dX8_note_60 : decode cX8_note 60 = .ok (.aload_n 0, 1) := by decide +kernel
theorem dX8_note_61 : decode cX8_note 61 = .ok (.getfield 176, 3) := by decide +kernel
theorem dX8_note_64 : decode cX8_note 64 = .ok (.imul, 1) := by decide +kernel
theorem dX8_note_65 : decode cX8_note 65 = .ok (.bipush 23, 2) := by decide +kernel
theorem dX8_note_67 : decode cX8_note 67 = .ok (.invokestatic 169, 3) := by decide +kernel
theorem dX8_note_70 : decode cX8_note 70 = .ok (.aload_n 0, 1) := by decide +kernel
theorem dX8_note_71 : decode cX8_note 71 = .ok (.dup, 1) := by decide +kernel
theorem dX8_note_72 : decode cX8_note 72 = .ok (.getfield 176, 3) := by decide +kernel
theorem dX8_note_75 : decode cX8_note 75 = .ok (.iconst 1, 1) := by decide +kernel
theorem dX8_note_76 : decode cX8_note 76 = .ok (.iadd, 1) := by decide +kernel
theorem dX8_note_77 : decode cX8_note 77 = .ok (.putfield 176, 3) := by decide +kernel
theorem dX8_note_80 : decode cX8_note 80 = .ok (.return_, 1) := by decide +kernel
theorem dX8_go_0 : decode cX8_go 0 = .ok (.aload_n 0, 1) := by decide +kernel
theorem dX8_go_1 : decode cX8_go 1 = .ok (.invokevirtual 160, 3) := by decide +kernel
theorem dX8_go_4 : decode cX8_go 4 = .ok (.aload_n 0, 1) := by decide +kernel
theorem dX8_go_5 : decode cX8_go 5 = .ok (.aload_n 0, 1) := by decide +kernel
theorem dX8_go_6 : decode cX8_go 6 = .ok (.getfield 173, 3) := by decide +kernel
theorem dX8_go_9 : decode cX8_go 9 = .ok (.iload_n 1, 1) := by decide +kernel
theorem dX8_go_10 : decode cX8_go 10 = .ok (.iconst 1, 1) := by decide +kernel
theorem dX8_go_11 : decode cX8_go 11 = .ok (.bipush 60, 2) := by decide +kernel
theorem dX8_go_13 : decode cX8_go 13 = .ok (.invokestatic 142, 3) := by decide +kernel
theorem dX8_go_16 : decode cX8_go 16 = .ok (.invokevirtual 290, 3) := by decide +kernel
theorem dX8_go_19 : decode cX8_go 19 = .ok (.istore_n 2, 1) := by decide +kernel
theorem dX8_go_20 : decode cX8_go 20 = .ok (.iload_n 2, 1) := by decide +kernel
theorem dX8_go_21 : decode cX8_go 21 = .ok (.ifCond .ne 20, 3) := by decide +kernel
theorem dX8_go_24 : decode cX8_go 24 = .ok (.aload_n 0, 1) := by decide +kernel
theorem dX8_go_25 : decode cX8_go 25 = .ok (.getfield 26, 3) := by decide +kernel
theorem dX8_go_28 : decode cX8_go 28 = .ok (.bipush 21, 2) := by decide +kernel
theorem dX8_go_30 : decode cX8_go 30 = .ok (.iaload, 1) := by decide +kernel
theorem dX8_go_31 : decode cX8_go 31 = .ok (.iload_n 1, 1) := by decide +kernel
theorem dX8_go_32 : decode cX8_go 32 = .ok (.iadd, 1) := by decide +kernel
theorem dX8_go_33 : decode cX8_go 33 = .ok (.sipush 9999, 3) := by decide +kernel
theorem dX8_go_36 : decode cX8_go 36 = .ok (.if_icmp .le 5, 3) := by decide +kernel
theorem dX8_go_39 : decode cX8_go 39 = .ok (.iconst 3, 1) := by decide +kernel
theorem dX8_go_40 : decode cX8_go 40 = .ok (.istore_n 2, 1) := by decide +kernel
theorem dX8_go_41 : decode cX8_go 41 = .ok (.iload_n 2, 1) := by decide +kernel
theorem dX8_go_42 : decode cX8_go 42 = .ok (.ifCond .eq 9, 3) := by decide +kernel
theorem dX8_go_45 : decode cX8_go 45 = .ok (.aload_n 0, 1) := by decide +kernel
theorem dX8_go_46 : decode cX8_go 46 = .ok (.iload_n 2, 1) := by decide +kernel
theorem dX8_go_47 : decode cX8_go 47 = .ok (.invokevirtual 163, 3) := by decide +kernel
theorem dX8_go_50 : decode cX8_go 50 = .ok (.ireturn, 1) := by decide +kernel
theorem dX8_go_51 : decode cX8_go 51 = .ok (.aload_n 0, 1) := by decide +kernel
theorem dX8_go_52 : decode cX8_go 52 = .ok (.invokevirtual 386, 3) := by decide +kernel
theorem dX8_go_55 : decode cX8_go 55 = .ok (.aload_n 0, 1) := by decide +kernel
theorem dX8_go_56 : decode cX8_go 56 = .ok (.invokevirtual 267, 3) := by decide +kernel
theorem dX8_go_59 : decode cX8_go 59 = .ok (.aload_n 0, 1) := by decide +kernel
theorem dX8_go_60 : decode cX8_go 60 = .ok (.getfield 26, 3) := by decide +kernel
theorem dX8_go_63 : decode cX8_go 63 = .ok (.bipush 18, 2) := by decide +kernel
theorem dX8_go_65 : decode cX8_go 65 = .ok (.iaload, 1) := by decide +kernel
theorem dX8_go_66 : decode cX8_go 66 = .ok (.istore_n 3, 1) := by decide +kernel
theorem dX8_go_67 : decode cX8_go 67 = .ok (.iconst 0, 1) := by decide +kernel
theorem dX8_go_68 : decode cX8_go 68 = .ok (.istore 4, 2) := by decide +kernel
theorem dX8_go_70 : decode cX8_go 70 = .ok (.iload 4, 2) := by decide +kernel
theorem dX8_go_72 : decode cX8_go 72 = .ok (.iload_n 1, 1) := by decide +kernel
theorem dX8_go_73 : decode cX8_go 73 = .ok (.if_icmp .ge 17, 3) := by decide +kernel
theorem dX8_go_76 : decode cX8_go 76 = .ok (.aload_n 0, 1) := by decide +kernel
theorem dX8_go_77 : decode cX8_go 77 = .ok (.aload_n 0, 1) := by decide +kernel
theorem dX8_go_78 : decode cX8_go 78 = .ok (.getfield 26, 3) := by decide +kernel
theorem dX8_go_81 : decode cX8_go 81 = .ok (.invokevirtual 273, 3) := by decide +kernel
theorem dX8_go_84 : decode cX8_go 84 = .ok (.iinc 4 1, 3) := by decide +kernel
theorem dX8_go_87 : decode cX8_go 87 = .ok (.goto (-17), 3) := by decide +kernel
theorem dX8_go_90 : decode cX8_go 90 = .ok (.aload_n 0, 1) := by decide +kernel
theorem dX8_go_91 : decode cX8_go 91 = .ok (.getfield 26, 3) := by decide +kernel
theorem dX8_go_94 : decode cX8_go 94 = .ok (.bipush 18, 2) := by decide +kernel
theorem dX8_go_96 : decode cX8_go 96 = .ok (.iaload, 1) := by decide +kernel
theorem dX8_go_97 : decode cX8_go 97 = .ok (.iload_n 3, 1) := by decide +kernel
theorem dX8_go_98 : decode cX8_go 98 = .ok (.iconst (-1), 1) := by decide +kernel
theorem dX8_go_99 : decode cX8_go 99 = .ok (.ixor, 1) := by decide +kernel
theorem dX8_go_100 : decode cX8_go 100 = .ok (.iand, 1) := by decide +kernel
theorem dX8_go_101 : decode cX8_go 101 = .ok (.ireturn, 1) := by decide +kernel
theorem dX8_put_0 : decode cX8_put 0 = .ok (.aload_n 0, 1) := by decide +kernel
theorem dX8_put_1 : decode cX8_put 1 = .ok (.invokevirtual 160, 3) := by decide +kernel
theorem dX8_put_4 : decode cX8_put 4 = .ok (.aload_n 0, 1) := by decide +kernel
theorem dX8_put_5 : decode cX8_put 5 = .ok (.iload_n 1, 1) := by decide +kernel
theorem dX8_put_6 : decode cX8_put 6 = .ok (.invokevirtual 277, 3) := by decide +kernel
theorem dX8_put_9 : decode cX8_put 9 = .ok (.ifCond .ne 9, 3) := by decide +kernel
theorem dX8_put_12 : decode cX8_put 12 = .ok (.aload_n 0, 1) := by decide +kernel
theorem dX8_put_13 : decode cX8_put 13 = .ok (.iconst 1, 1) := by decide +kernel
theorem dX8_put_14 : decode cX8_put 14 = .ok (.invokevirtual 163, 3) := by decide +kernel
theorem dX8_put_17 : decode cX8_put 17 = .ok (.ireturn, 1) := by decide +kernel
theorem dX8_put_18 : decode cX8_put 18 = .ok (.aload_n 0, 1) := by decide +kernel
theorem dX8_put_19 : decode cX8_put 19 = .ok (.getfield 26, 3) := by decide +kernel
theorem dX8_put_22 : decode cX8_put 22 = .ok (.bipush 18, 2) := by decide +kernel
theorem dX8_put_24 : decode cX8_put 24 = .ok (.iaload, 1) := by decide +kernel
theorem dX8_put_25 : decode cX8_put 25 = .ok (.iload_n 1, 1) := by decide +kernel
theorem dX8_put_26 : decode cX8_put 26 = .ok (.invokestatic 238, 3) := by decide +kernel
theorem dX8_put_29 : decode cX8_put 29 = .ok (.ifCond .ne 13, 3) := by decide +kernel
theorem dX8_put_32 : decode cX8_put 32 = .ok (.aload_n 0, 1) := by decide +kernel
theorem dX8_put_33 : decode cX8_put 33 = .ok (.getfield 26, 3) := by decide +kernel
theorem dX8_put_36 : decode cX8_put 36 = .ok (.iload_n 1, 1) := by decide +kernel
theorem dX8_put_37 : decode cX8_put 37 = .ok (.iaload, 1) := by decide +kernel
theorem dX8_put_38 : decode cX8_put 38 = .ok (.iload_n 1, 1) := by decide +kernel
theorem dX8_put_39 : decode cX8_put 39 = .ok (.if_icmp .ne 9, 3) := by decide +kernel
theorem dX8_put_42 : decode cX8_put 42 = .ok (.aload_n 0, 1) := by decide +kernel
theorem dX8_put_43 : decode cX8_put 43 = .ok (.iconst 5, 1) := by decide +kernel
theorem dX8_put_44 : decode cX8_put 44 = .ok (.invokevirtual 163, 3) := by decide +kernel
theorem dX8_put_47 : decode cX8_put 47 = .ok (.ireturn, 1) := by decide +kernel
theorem dX8_put_48 : decode cX8_put 48 = .ok (.aload_n 0, 1) := by decide +kernel
theorem dX8_put_49 : decode cX8_put 49 = .ok (.invokevirtual 386, 3) := by decide +kernel
theorem dX8_put_52 : decode cX8_put 52 = .ok (.aload_n 0, 1) := by decide +kernel
theorem dX8_put_53 : decode cX8_put 53 = .ok (.getfield 26, 3) := by decide +kernel
theorem dX8_put_56 : decode cX8_put 56 = .ok (.iload_n 1, 1) := by decide +kernel
theorem dX8_put_57 : decode cX8_put 57 = .ok (.iaload, 1) := by decide +kernel
theorem dX8_put_58 : decode cX8_put 58 = .ok (.istore_n 2, 1) := by decide +kernel
theorem dX8_put_59 : decode cX8_put 59 = .ok (.aload_n 0, 1) := by decide +kernel
theorem dX8_put_60 : decode cX8_put 60 = .ok (.getfield 26, 3) := by decide +kernel
theorem dX8_put_63 : decode cX8_put 63 = .ok (.iload_n 1, 1) := by decide +kernel
theorem dX8_put_64 : decode cX8_put 64 = .ok (.iload_n 1, 1) := by decide +kernel
theorem dX8_put_65 : decode cX8_put 65 = .ok (.iastore, 1) := by decide +kernel
theorem dX8_put_66 : decode cX8_put 66 = .ok (.iload_n 2, 1) := by decide +kernel
theorem dX8_put_67 : decode cX8_put 67 = .ok (.ireturn, 1) := by decide +kernel
theorem dX8_wind_0 : decode cX8_wind 0 = .ok (.aload_n 0, 1) := by decide +kernel
theorem dX8_wind_1 : decode cX8_wind 1 = .ok (.invokevirtual 160, 3) := by decide +kernel
theorem dX8_wind_4 : decode cX8_wind 4 = .ok (.aload_n 0, 1) := by decide +kernel
theorem dX8_wind_5 : decode cX8_wind 5 = .ok (.iload_n 1, 1) := by decide +kernel
theorem dX8_wind_6 : decode cX8_wind 6 = .ok (.invokevirtual 277, 3) := by decide +kernel
theorem dX8_wind_9 : decode cX8_wind 9 = .ok (.ifCond .ne 9, 3) := by decide +kernel
theorem dX8_wind_12 : decode cX8_wind 12 = .ok (.aload_n 0, 1) := by decide +kernel
theorem dX8_wind_13 : decode cX8_wind 13 = .ok (.iconst 1, 1) := by decide +kernel
theorem dX8_wind_14 : decode cX8_wind 14 = .ok (.invokevirtual 163, 3) := by decide +kernel
theorem dX8_wind_17 : decode cX8_wind 17 = .ok (.ireturn, 1) := by decide +kernel
theorem dX8_wind_18 : decode cX8_wind 18 = .ok (.aload_n 0, 1) := by decide +kernel
theorem dX8_wind_19 : decode cX8_wind 19 = .ok (.getfield 26, 3) := by decide +kernel
theorem dX8_wind_22 : decode cX8_wind 22 = .ok (.bipush 19, 2) := by decide +kernel
theorem dX8_wind_24 : decode cX8_wind 24 = .ok (.iaload, 1) := by decide +kernel
theorem dX8_wind_25 : decode cX8_wind 25 = .ok (.iload_n 1, 1) := by decide +kernel
theorem dX8_wind_26 : decode cX8_wind 26 = .ok (.if_icmp .ne 19, 3) := by decide +kernel
theorem dX8_wind_29 : decode cX8_wind 29 = .ok (.aload_n 0, 1) := by decide +kernel
theorem dX8_wind_30 : decode cX8_wind 30 = .ok (.getfield 26, 3) := by decide +kernel
theorem dX8_wind_33 : decode cX8_wind 33 = .ok (.bipush 20, 2) := by decide +kernel
theorem dX8_wind_35 : decode cX8_wind 35 = .ok (.iaload, 1) := by decide +kernel
theorem dX8_wind_36 : decode cX8_wind 36 = .ok (.ifCond .ne 9, 3) := by decide +kernel
theorem dX8_wind_39 : decode cX8_wind 39 = .ok (.aload_n 0, 1) := by decide +kernel
theorem dX8_wind_40 : decode cX8_wind 40 = .ok (.iconst 5, 1) := by decide +kernel
theorem dX8_wind_41 : decode cX8_wind 41 = .ok (.invokevirtual 163, 3) := by decide +kernel
theorem dX8_wind_44 : decode cX8_wind 44 = .ok (.ireturn, 1) := by decide +kernel
theorem dX8_wind_45 : decode cX8_wind 45 = .ok (.aload_n 0, 1) := by decide +kernel
theorem dX8_wind_46 : decode cX8_wind 46 = .ok (.invokevirtual 386, 3) := by decide +kernel
theorem dX8_wind_49 : decode cX8_wind 49 = .ok (.aload_n 0, 1) := by decide +kernel
theorem dX8_wind_50 : decode cX8_wind 50 = .ok (.getfield 26, 3) := by decide +kernel
theorem dX8_wind_53 : decode cX8_wind 53 = .ok (.bipush 19, 2) := by decide +kernel
theorem dX8_wind_55 : decode cX8_wind 55 = .ok (.iaload, 1) := by decide +kernel
theorem dX8_wind_56 : decode cX8_wind 56 = .ok (.istore_n 2, 1) := by decide +kernel
theorem dX8_wind_57 : decode cX8_wind 57 = .ok (.aload_n 0, 1) := by decide +kernel
theorem dX8_wind_58 : decode cX8_wind 58 = .ok (.getfield 26, 3) := by decide +kernel
theorem dX8_wind_61 : decode cX8_wind 61 = .ok (.bipush 19, 2) := by decide +kernel
theorem dX8_wind_63 : decode cX8_wind 63 = .ok (.iload_n 1, 1) := by decide +kernel
theorem dX8_wind_64 : decode cX8_wind 64 = .ok (.iastore, 1) := by decide +kernel
theorem dX8_wind_65 : decode cX8_wind 65 = .ok (.aload_n 0, 1) := by decide +kernel
theorem dX8_wind_66 : decode cX8_wind 66 = .ok (.getfield 26, 3) := by decide +kernel
theorem dX8_wind_69 : decode cX8_wind 69 = .ok (.bipush 20, 2) := by decide +kernel
theorem dX8_wind_71 : decode cX8_wind 71 = .ok (.iconst 0, 1) := by decide +kernel
theorem dX8_wind_72 : decode cX8_wind 72 = .ok (.iastore, 1) := by decide +kernel
theorem dX8_wind_73 : decode cX8_wind 73 = .ok (.iload_n 2, 1) := by decide +kernel
theorem dX8_wind_74 : decode cX8_wind 74 = .ok (.ireturn, 1) := by decide +kernel
theorem dX8_undo_0 : decode cX8_undo 0 = .ok (.aload_n 0, 1) := by decide +kernel
theorem dX8_undo_1 : decode cX8_undo 1 = .ok (.invokevirtual 160, 3) := by decide +kernel
theorem dX8_undo_4 : decode cX8_undo 4 = .ok (.aload_n 0, 1) := by decide +kernel
theorem dX8_undo_5 : decode cX8_undo 5 = .ok (.getfield 176, 3) := by decide +kernel
theorem dX8_undo_8 : decode cX8_undo 8 = .ok (.ifCond .ne 10, 3) := by decide +kernel
theorem dX8_undo_11 : decode cX8_undo 11 = .ok (.aload_n 0, 1) := by decide +kernel
theorem dX8_undo_12 : decode cX8_undo 12 = .ok (.bipush 6, 2) := by decide +kernel
theorem dX8_undo_14 : decode cX8_undo 14 = .ok (.invokevirtual 389, 3) := by decide +kernel
theorem dX8_undo_17 : decode cX8_undo 17 = .ok (.ireturn, 1) := by decide +kernel
theorem dX8_undo_18 : decode cX8_undo 18 = .ok (.aload_n 0, 1) := by decide +kernel
theorem dX8_undo_19 : decode cX8_undo 19 = .ok (.dup, 1) := by decide +kernel
theorem dX8_undo_20 : decode cX8_undo 20 = .ok (.getfield 176, 3) := by decide +kernel
theorem dX8_undo_23 : decode cX8_undo 23 = .ok (.iconst 1, 1) := by decide +kernel
theorem dX8_undo_24 : decode cX8_undo 24 = .ok (.isub, 1) := by decide +kernel
theorem dX8_undo_25 : decode cX8_undo 25 = .ok (.putfield 176, 3) := by decide +kernel
theorem dX8_undo_28 : decode cX8_undo 28 = .ok (.aload_n 0, 1) := by decide +kernel
theorem dX8_undo_29 : decode cX8_undo 29 = .ok (.getfield 32, 3) := by decide +kernel
theorem dX8_undo_32 : decode cX8_undo 32 = .ok (.bipush 23, 2) := by decide +kernel
theorem dX8_undo_34 : decode cX8_undo 34 = .ok (.aload_n 0, 1) := by decide +kernel
theorem dX8_undo_35 : decode cX8_undo 35 = .ok (.getfield 176, 3) := by decide +kernel
theorem dX8_undo_38 : decode cX8_undo 38 = .ok (.imul, 1) := by decide +kernel
theorem dX8_undo_39 : decode cX8_undo 39 = .ok (.aload_n 0, 1) := by decide +kernel
theorem dX8_undo_40 : decode cX8_undo 40 = .ok (.getfield 26, 3) := by decide +kernel
theorem dX8_undo_43 : decode cX8_undo 43 = .ok (.iconst 0, 1) := by decide +kernel
theorem dX8_undo_44 : decode cX8_undo 44 = .ok (.bipush 23, 2) := by decide +kernel
theorem dX8_undo_46 : decode cX8_undo 46 = .ok (.invokestatic 169, 3) := by decide +kernel
theorem dX8_undo_49 : decode cX8_undo 49 = .ok (.iconst 1, 1) := by decide +kernel
theorem dX8_undo_50 : decode cX8_undo 50 = .ok (.ireturn, 1) := by decide +kernel
theorem dX8_image_0 : decode cX8_image 0 = .ok (.aload_n 0, 1) := by decide +kernel
theorem dX8_image_1 : decode cX8_image 1 = .ok (.invokevirtual 160, 3) := by decide +kernel
theorem dX8_image_4 : decode cX8_image 4 = .ok (.aload_n 0, 1) := by decide +kernel
theorem dX8_image_5 : decode cX8_image 5 = .ok (.getfield 173, 3) := by decide +kernel
theorem dX8_image_8 : decode cX8_image 8 = .ok (.ifCond .ne 9, 3) := by decide +kernel
theorem dX8_image_11 : decode cX8_image 11 = .ok (.aload_n 0, 1) := by decide +kernel
theorem dX8_image_12 : decode cX8_image 12 = .ok (.iconst 1, 1) := by decide +kernel
theorem dX8_image_13 : decode cX8_image 13 = .ok (.invokevirtual 163, 3) := by decide +kernel
theorem dX8_image_16 : decode cX8_image 16 = .ok (.ireturn, 1) := by decide +kernel
theorem dX8_image_17 : decode cX8_image 17 = .ok (.aload_n 0, 1) := by decide +kernel
theorem dX8_image_18 : decode cX8_image 18 = .ok (.getfield 179, 3) := by decide +kernel
theorem dX8_image_21 : decode cX8_image 21 = .ok (.iconst 3, 1) := by decide +kernel
theorem dX8_image_22 : decode cX8_image 22 = .ok (.if_icmp .ne 9, 3) := by decide +kernel
theorem dX8_image_25 : decode cX8_image 25 = .ok (.aload_n 0, 1) := by decide +kernel
theorem dX8_image_26 : decode cX8_image 26 = .ok (.iconst 3, 1) := by decide +kernel
theorem dX8_image_27 : decode cX8_image 27 = .ok (.invokevirtual 163, 3) := by decide +kernel
theorem dX8_image_30 : decode cX8_image 30 = .ok (.ireturn, 1) := by decide +kernel
theorem dX8_image_31 : decode cX8_image 31 = .ok (.aload_n 0, 1) := by decide +kernel
theorem dX8_image_32 : decode cX8_image 32 = .ok (.getfield 26, 3) := by decide +kernel
theorem dX8_image_35 : decode cX8_image 35 = .ok (.iconst 0, 1) := by decide +kernel
theorem dX8_image_36 : decode cX8_image 36 = .ok (.aload_n 0, 1) := by decide +kernel
theorem dX8_image_37 : decode cX8_image 37 = .ok (.getfield 35, 3) := by decide +kernel
theorem dX8_image_40 : decode cX8_image 40 = .ok (.bipush 23, 2) := by decide +kernel
theorem dX8_image_42 : decode cX8_image 42 = .ok (.aload_n 0, 1) := by decide +kernel
theorem dX8_image_43 : decode cX8_image 43 = .ok (.getfield 179, 3) := by decide +kernel
theorem dX8_image_46 : decode cX8_image 46 = .ok (.imul, 1) := by decide +kernel
theorem dX8_image_47 : decode cX8_image 47 = .ok (.bipush 23, 2) := by decide +kernel
theorem dX8_image_49 : decode cX8_image 49 = .ok (.invokestatic 169, 3) := by decide +kernel
theorem dX8_image_52 : decode cX8_image 52 = .ok (.aload_n 0, 1) := by decide +kernel
theorem dX8_image_53 : decode cX8_image 53 = .ok (.dup, 1) := by decide +kernel
theorem dX8_image_54 : decode cX8_image 54 = .ok (.getfield 179, 3) := by decide +kernel
theorem dX8_image_57 : decode cX8_image 57 = .ok (.iconst 1, 1) := by decide +kernel
theorem dX8_image_58 : decode cX8_image 58 = .ok (.iadd, 1) := by decide +kernel
theorem dX8_image_59 : decode cX8_image 59 = .ok (.putfield 179, 3) := by decide +kernel
theorem dX8_image_62 : decode cX8_image 62 = .ok (.aload_n 0, 1) := by decide +kernel
theorem dX8_image_63 : decode cX8_image 63 = .ok (.getfield 179, 3) := by decide +kernel
theorem dX8_image_66 : decode cX8_image 66 = .ok (.iconst 1, 1) := by decide +kernel
theorem dX8_image_67 : decode cX8_image 67 = .ok (.isub, 1) := by decide +kernel
theorem dX8_image_68 : decode cX8_image 68 = .ok (.ireturn, 1) := by decide +kernel
theorem dX8_back_0 : decode cX8_back 0 = .ok (.aload_n 0, 1) := by decide +kernel
theorem dX8_back_1 : decode cX8_back 1 = .ok (.invokevirtual 160, 3) := by decide +kernel
theorem dX8_back_4 : decode cX8_back 4 = .ok (.iload_n 1, 1) := by decide +kernel
theorem dX8_back_5 : decode cX8_back 5 = .ok (.iconst 0, 1) := by decide +kernel
theorem dX8_back_6 : decode cX8_back 6 = .ok (.aload_n 0, 1) := by decide +kernel
theorem dX8_back_7 : decode cX8_back 7 = .ok (.getfield 179, 3) := by decide +kernel
theorem dX8_back_10 : decode cX8_back 10 = .ok (.iconst 1, 1) := by decide +kernel
theorem dX8_back_11 : decode cX8_back 11 = .ok (.isub, 1) := by decide +kernel
theorem dX8_back_12 : decode cX8_back 12 = .ok (.invokestatic 142, 3) := by decide +kernel
theorem dX8_back_15 : decode cX8_back 15 = .ok (.ifCond .ne 9, 3) := by decide +kernel
theorem dX8_back_18 : decode cX8_back 18 = .ok (.aload_n 0, 1) := by decide +kernel
theorem dX8_back_19 : decode cX8_back 19 = .ok (.iconst 1, 1) := by decide +kernel
theorem dX8_back_20 : decode cX8_back 20 = .ok (.invokevirtual 389, 3) := by decide +kernel
theorem dX8_back_23 : decode cX8_back 23 = .ok (.ireturn, 1) := by decide +kernel
theorem dX8_back_24 : decode cX8_back 24 = .ok (.aload_n 0, 1) := by decide +kernel
theorem dX8_back_25 : decode cX8_back 25 = .ok (.getfield 35, 3) := by decide +kernel
theorem dX8_back_28 : decode cX8_back 28 = .ok (.bipush 23, 2) := by decide +kernel
theorem dX8_back_30 : decode cX8_back 30 = .ok (.iload_n 1, 1) := by decide +kernel
theorem dX8_back_31 : decode cX8_back 31 = .ok (.imul, 1) := by decide +kernel
theorem dX8_back_32 : decode cX8_back 32 = .ok (.aload_n 0, 1) := by decide +kernel
theorem dX8_back_33 : decode cX8_back 33 = .ok (.getfield 26, 3) := by decide +kernel
theorem dX8_back_36 : decode cX8_back 36 = .ok (.iconst 0, 1) := by decide +kernel
theorem dX8_back_37 : decode cX8_back 37 = .ok (.bipush 23, 2) := by decide +kernel
theorem dX8_back_39 : decode cX8_back 39 = .ok (.invokestatic 169, 3) := by decide +kernel
theorem dX8_back_42 : decode cX8_back 42 = .ok (.aload_n 0, 1) := by decide +kernel
theorem dX8_back_43 : decode cX8_back 43 = .ok (.iconst 0, 1) := by decide +kernel
theorem dX8_back_44 : decode cX8_back 44 = .ok (.putfield 176, 3) := by decide +kernel
theorem dX8_back_47 : decode cX8_back 47 = .ok (.iconst 1, 1) := by decide +kernel
theorem dX8_back_48 : decode cX8_back 48 = .ok (.ireturn, 1) := by decide +kernel
theorem dX8_led_0 : decode cX8_led 0 = .ok (.iconst 0, 1) := by decide +kernel
theorem dX8_led_1 : decode cX8_led 1 = .ok (.istore_n 2, 1) := by decide +kernel
theorem dX8_led_2 : decode cX8_led 2 = .ok (.iconst 0, 1) := by decide +kernel
theorem dX8_led_3 : decode cX8_led 3 = .ok (.istore_n 3, 1) := by decide +kernel
theorem dX8_led_4 : decode cX8_led 4 = .ok (.aload_n 0, 1) := by decide +kernel
theorem dX8_led_5 : decode cX8_led 5 = .ok (.getfield 173, 3) := by decide +kernel
theorem dX8_led_8 : decode cX8_led 8 = .ok (.ifCond .eq 47, 3) := by decide +kernel
theorem dX8_led_11 : decode cX8_led 11 = .ok (.iload_n 3, 1) := by decide +kernel
theorem dX8_led_12 : decode cX8_led 12 = .ok (.aload_n 0, 1) := by decide +kernel
theorem dX8_led_13 : decode cX8_led 13 = .ok (.getfield 20, 3) := by decide +kernel
theorem dX8_led_16 : decode cX8_led 16 = .ok (.iconst 0, 1) := by decide +kernel
theorem dX8_led_17 : decode cX8_led 17 = .ok (.iaload, 1) := by decide +kernel
theorem dX8_led_18 : decode cX8_led 18 = .ok (.if_icmp .ge 37, 3) := by decide +kernel
theorem dX8_led_21 : decode cX8_led 21 = .ok (.aload_n 0, 1) := by decide +kernel
theorem dX8_led_22 : decode cX8_led 22 = .ok (.getfield 26, 3) := by decide +kernel
theorem dX8_led_25 : decode cX8_led 25 = .ok (.iload_n 3, 1) := by decide +kernel
theorem dX8_led_26 : decode cX8_led 26 = .ok (.iaload, 1) := by decide +kernel
theorem dX8_led_27 : decode cX8_led 27 = .ok (.iload_n 3, 1) := by decide +kernel
theorem dX8_led_28 : decode cX8_led 28 = .ok (.if_icmp .ne 6, 3) := by decide +kernel
theorem dX8_led_31 : decode cX8_led 31 = .ok (.goto 18, 3) := by decide +kernel
theorem dX8_led_34 : decode cX8_led 34 = .ok (.iload_n 2, 1) := by decide +kernel
theorem dX8_led_35 : decode cX8_led 35 = .ok (.iload_n 1, 1) := by decide +kernel
theorem dX8_led_36 : decode cX8_led 36 = .ok (.if_icmp .ne 10, 3) := by decide +kernel
theorem dX8_led_39 : decode cX8_led 39 = .ok (.aload_n 0, 1) := by decide +kernel
theorem dX8_led_40 : decode cX8_led 40 = .ok (.iconst 0, 1) := by decide +kernel
theorem dX8_led_41 : decode cX8_led 41 = .ok (.putfield 59, 3) := by decide +kernel
theorem dX8_led_44 : decode cX8_led 44 = .ok (.iload_n 3, 1) := by decide +kernel
theorem dX8_led_45 : decode cX8_led 45 = .ok (.ireturn, 1) := by decide +kernel
theorem dX8_led_46 : decode cX8_led 46 = .ok (.iinc 2 1, 3) := by decide +kernel
theorem dX8_led_49 : decode cX8_led 49 = .ok (.iinc 3 1, 3) := by decide +kernel
theorem dX8_led_52 : decode cX8_led 52 = .ok (.goto (-48), 3) := by decide +kernel
theorem dX8_led_55 : decode cX8_led 55 = .ok (.aload_n 0, 1) := by decide +kernel
theorem dX8_led_56 : decode cX8_led 56 = .ok (.iconst 1, 1) := by decide +kernel
theorem dX8_led_57 : decode cX8_led 57 = .ok (.putfield 59, 3) := by decide +kernel
theorem dX8_led_60 : decode cX8_led 60 = .ok (.iconst 0, 1) := by decide +kernel
theorem dX8_led_61 : decode cX8_led 61 = .ok (.ireturn, 1) := by decide +kernel
theorem dX8_size_0 : decode cX8_size 0 = .ok (.aload_n 0, 1) := by decide +kernel
theorem dX8_size_1 : decode cX8_size 1 = .ok (.iconst 0, 1) := by decide +kernel
theorem dX8_size_2 : decode cX8_size 2 = .ok (.putfield 59, 3) := by decide +kernel
theorem dX8_size_5 : decode cX8_size 5 = .ok (.iload_n 1, 1) := by decide +kernel
theorem dX8_size_6 : decode cX8_size 6 = .ok (.bipush 13, 2) := by decide +kernel
theorem dX8_size_8 : decode cX8_size 8 = .ok (.if_icmp .ne 8, 3) := by decide +kernel
theorem dX8_size_11 : decode cX8_size 11 = .ok (.aload_n 0, 1) := by decide +kernel
theorem dX8_size_12 : decode cX8_size 12 = .ok (.getfield 65, 3) := by decide +kernel
theorem dX8_size_15 : decode cX8_size 15 = .ok (.ireturn, 1) := by decide +kernel
theorem dX8_size_16 : decode cX8_size 16 = .ok (.aload_n 0, 1) := by decide +kernel
theorem dX8_size_17 : decode cX8_size 17 = .ok (.getfield 173, 3) := by decide +kernel
theorem dX8_size_20 : decode cX8_size 20 = .ok (.ifCond .ne 19, 3) := by decide +kernel
theorem dX8_size_23 : decode cX8_size 23 = .ok (.iload_n 1, 1) := by decide +kernel
theorem dX8_size_24 : decode cX8_size 24 = .ok (.iconst 0, 1) := by decide +kernel
theorem dX8_size_25 : decode cX8_size 25 = .ok (.bipush 12, 2) := by decide +kernel
theorem dX8_size_27 : decode cX8_size 27 = .ok (.invokestatic 142, 3) := by decide +kernel
theorem dX8_size_30 : decode cX8_size 30 = .ok (.ifCond .eq 7, 3) := by decide +kernel
theorem dX8_size_33 : decode cX8_size 33 = .ok (.iconst 0, 1) := by decide +kernel
theorem dX8_size_34 : decode cX8_size 34 = .ok (.goto 4, 3) := by decide +kernel
theorem dX8_size_37 : decode cX8_size 37 = .ok (.iconst (-1), 1) := by decide +kernel
theorem dX8_size_38 : decode cX8_size 38 = .ok (.ireturn, 1) := by decide +kernel
theorem dX8_size_39 : decode cX8_size 39 = .ok (.iload_n 1, 1) := by decide +kernel
theorem dX8_size_40 : decode cX8_size 40 = .ok (.iconst 0, 1) := by decide +kernel
theorem dX8_size_41 : decode cX8_size 41 = .ok (.bipush 9, 2) := by decide +kernel
theorem dX8_size_43 : decode cX8_size 43 = .ok (.invokestatic 142, 3) := by decide +kernel
theorem dX8_size_46 : decode cX8_size 46 = .ok (.ifCond .eq 10, 3) := by decide +kernel
theorem dX8_size_49 : decode cX8_size 49 = .ok (.aload_n 0, 1) := by decide +kernel
theorem dX8_size_50 : decode cX8_size 50 = .ok (.getfield 20, 3) := by decide +kernel
theorem dX8_size_53 : decode cX8_size 53 = .ok (.iload_n 1, 1) := by decide +kernel
theorem dX8_size_54 : decode cX8_size 54 = .ok (.iaload, 1) := by decide +kernel
theorem dX8_size_55 : decode cX8_size 55 = .ok (.ireturn, 1) := by decide +kernel
theorem dX8_size_56 : decode cX8_size 56 = .ok (.iload_n 1, 1) := by decide +kernel
theorem dX8_size_57 : decode cX8_size 57 = .ok (.bipush 10, 2) := by decide +kernel
theorem dX8_size_59 : decode cX8_size 59 = .ok (.if_icmp .ne 13, 3) := by decide +kernel
theorem dX8_size_62 : decode cX8_size 62 = .ok (.aload_n 0, 1) := by decide +kernel
theorem dX8_size_63 : decode cX8_size 63 = .ok (.getfield 26, 3) := by decide +kernel
theorem dX8_size_66 : decode cX8_size 66 = .ok (.bipush 21, 2) := by decide +kernel
theorem dX8_size_68 : decode cX8_size 68 = .ok (.iaload, 1) := by decide +kernel
theorem dX8_size_69 : decode cX8_size 69 = .ok (.goto 30, 3) := by decide +kernel
theorem dX8_size_72 : decode cX8_size 72 = .ok (.iload_n 1, 1) := by decide +kernel
theorem dX8_size_73 : decode cX8_size 73 = .ok (.bipush 11, 2) := by decide +kernel
theorem dX8_size_75 : decode cX8_size 75 = .ok (.if_icmp .ne 10, 3) := by decide +kernel
theorem dX8_size_78 : decode cX8_size 78 = .ok (.aload_n 0, 1) := by decide +kernel
theorem dX8_size_79 : decode cX8_size 79 = .ok (.getfield 176, 3) := by decide +kernel
theorem dX8_size_82 : decode cX8_size 82 = .ok (.goto 17, 3) := by decide +kernel
theorem dX8_size_85 : decode cX8_size 85 = .ok (.iload_n 1, 1) := by decide +kernel
theorem dX8_size_86 : decode cX8_size 86 = .ok (.bipush 12, 2) := by decide +kernel
theorem dX8_size_88 : decode cX8_size 88 = .ok (.if_icmp .ne 10, 3) := by decide +kernel
theorem dX8_size_91 : decode cX8_size 91 = .ok (.aload_n 0, 1) := by decide +kernel
theorem dX8_size_92 : decode cX8_size 92 = .ok (.getfield 179, 3) := by decide +kernel
theorem dX8_size_95 : decode cX8_size 95 = .ok (.goto 4, 3) := by decide +kernel
theorem dX8_size_98 : decode cX8_size 98 = .ok (.iconst (-1), 1) := by decide +kernel
theorem dX8_size_99 : decode cX8_size 99 = .ok (.ireturn, 1) := by decide +kernel
theorem dX8_trouble_0 : decode cX8_trouble 0 = .ok (.aload_n 0, 1) := by decide +kernel
theorem dX8_trouble_1 : decode cX8_trouble 1 = .ok (.iconst 0, 1) := by decide +kernel
theorem dX8_trouble_2 : decode cX8_trouble 2 = .ok (.putfield 59, 3) := by decide +kernel
theorem dX8_trouble_5 : decode cX8_trouble 5 = .ok (.aload_n 0, 1) := by decide +kernel
theorem dX8_trouble_6 : decode cX8_trouble 6 = .ok (.getfield 62, 3) := by decide +kernel
theorem dX8_trouble_9 : decode cX8_trouble 9 = .ok (.ireturn, 1) := by decide +kernel
theorem dJ6_bitCount_0f7a4_0 : decode cJ6_bitCount_0f7a4 0 = .ok (.iload_n 0, 1) := by decide +kernel
theorem dJ6_bitCount_0f7a4_1 : decode cJ6_bitCount_0f7a4 1 = .ok (.iload_n 0, 1) := by decide +kernel
theorem dJ6_bitCount_0f7a4_2 : decode cJ6_bitCount_0f7a4 2 = .ok (.iconst 1, 1) := by decide +kernel
theorem dJ6_bitCount_0f7a4_3 : decode cJ6_bitCount_0f7a4 3 = .ok (.iushr, 1) := by decide +kernel
theorem dJ6_bitCount_0f7a4_4 : decode cJ6_bitCount_0f7a4 4 = .ok (.ldc_w 265, 3) := by decide +kernel
theorem dJ6_bitCount_0f7a4_7 : decode cJ6_bitCount_0f7a4 7 = .ok (.iand, 1) := by decide +kernel
theorem dJ6_bitCount_0f7a4_8 : decode cJ6_bitCount_0f7a4 8 = .ok (.isub, 1) := by decide +kernel
theorem dJ6_bitCount_0f7a4_9 : decode cJ6_bitCount_0f7a4 9 = .ok (.istore_n 0, 1) := by decide +kernel
theorem dJ6_bitCount_0f7a4_10 : decode cJ6_bitCount_0f7a4 10 = .ok (.iload_n 0, 1) := by decide +kernel
theorem dJ6_bitCount_0f7a4_11 : decode cJ6_bitCount_0f7a4 11 = .ok (.ldc_w 266, 3) := by decide +kernel
theorem dJ6_bitCount_0f7a4_14 : decode cJ6_bitCount_0f7a4 14 = .ok (.iand, 1) := by decide +kernel
theorem dJ6_bitCount_0f7a4_15 : decode cJ6_bitCount_0f7a4 15 = .ok (.iload_n 0, 1) := by decide +kernel
theorem dJ6_bitCount_0f7a4_16 : decode cJ6_bitCount_0f7a4 16 = .ok (.iconst 2, 1) := by decide +kernel
theorem dJ6_bitCount_0f7a4_17 : decode cJ6_bitCount_0f7a4 17 = .ok (.iushr, 1) := by decide +kernel
theorem dJ6_bitCount_0f7a4_18 : decode cJ6_bitCount_0f7a4 18 = .ok (.ldc_w 266, 3) := by decide +kernel
theorem dJ6_bitCount_0f7a4_21 : decode cJ6_bitCount_0f7a4 21 = .ok (.iand, 1) := by decide +kernel
theorem dJ6_bitCount_0f7a4_22 : decode cJ6_bitCount_0f7a4 22 = .ok (.iadd, 1) := by decide +kernel
theorem dJ6_bitCount_0f7a4_23 : decode cJ6_bitCount_0f7a4 23 = .ok (.istore_n 0, 1) := by decide +kernel
theorem dJ6_bitCount_0f7a4_24 : decode cJ6_bitCount_0f7a4 24 = .ok (.iload_n 0, 1) := by decide +kernel
theorem dJ6_bitCount_0f7a4_25 : decode cJ6_bitCount_0f7a4 25 = .ok (.iload_n 0, 1) := by decide +kernel
theorem dJ6_bitCount_0f7a4_26 : decode cJ6_bitCount_0f7a4 26 = .ok (.iconst 4, 1) := by decide +kernel
theorem dJ6_bitCount_0f7a4_27 : decode cJ6_bitCount_0f7a4 27 = .ok (.iushr, 1) := by decide +kernel
theorem dJ6_bitCount_0f7a4_28 : decode cJ6_bitCount_0f7a4 28 = .ok (.iadd, 1) := by decide +kernel
theorem dJ6_bitCount_0f7a4_29 : decode cJ6_bitCount_0f7a4 29 = .ok (.ldc_w 267, 3) := by decide +kernel
theorem dJ6_bitCount_0f7a4_32 : decode cJ6_bitCount_0f7a4 32 = .ok (.iand, 1) := by decide +kernel
theorem dJ6_bitCount_0f7a4_33 : decode cJ6_bitCount_0f7a4 33 = .ok (.istore_n 0, 1) := by decide +kernel
theorem dJ6_bitCount_0f7a4_34 : decode cJ6_bitCount_0f7a4 34 = .ok (.iload_n 0, 1) := by decide +kernel
theorem dJ6_bitCount_0f7a4_35 : decode cJ6_bitCount_0f7a4 35 = .ok (.iload_n 0, 1) := by decide +kernel
theorem dJ6_bitCount_0f7a4_36 : decode cJ6_bitCount_0f7a4 36 = .ok (.bipush 8, 2) := by decide +kernel
theorem dJ6_bitCount_0f7a4_38 : decode cJ6_bitCount_0f7a4 38 = .ok (.iushr, 1) := by decide +kernel
theorem dJ6_bitCount_0f7a4_39 : decode cJ6_bitCount_0f7a4 39 = .ok (.iadd, 1) := by decide +kernel
theorem dJ6_bitCount_0f7a4_40 : decode cJ6_bitCount_0f7a4 40 = .ok (.istore_n 0, 1) := by decide +kernel
theorem dJ6_bitCount_0f7a4_41 : decode cJ6_bitCount_0f7a4 41 = .ok (.iload_n 0, 1) := by decide +kernel
theorem dJ6_bitCount_0f7a4_42 : decode cJ6_bitCount_0f7a4 42 = .ok (.iload_n 0, 1) := by decide +kernel
theorem dJ6_bitCount_0f7a4_43 : decode cJ6_bitCount_0f7a4 43 = .ok (.bipush 16, 2) := by decide +kernel
theorem dJ6_bitCount_0f7a4_45 : decode cJ6_bitCount_0f7a4 45 = .ok (.iushr, 1) := by decide +kernel
theorem dJ6_bitCount_0f7a4_46 : decode cJ6_bitCount_0f7a4 46 = .ok (.iadd, 1) := by decide +kernel
theorem dJ6_bitCount_0f7a4_47 : decode cJ6_bitCount_0f7a4 47 = .ok (.istore_n 0, 1) := by decide +kernel
theorem dJ6_bitCount_0f7a4_48 : decode cJ6_bitCount_0f7a4 48 = .ok (.iload_n 0, 1) := by decide +kernel
theorem dJ6_bitCount_0f7a4_49 : decode cJ6_bitCount_0f7a4 49 = .ok (.bipush 63, 2) := by decide +kernel
theorem dJ6_bitCount_0f7a4_51 : decode cJ6_bitCount_0f7a4 51 = .ok (.iand, 1) := by decide +kernel
theorem dJ6_bitCount_0f7a4_52 : decode cJ6_bitCount_0f7a4 52 = .ok (.ireturn, 1) := by decide +kernel
theorem dJ9_abs_0f7a4_0 : decode cJ9_abs_0f7a4 0 = .ok (.iload_n 0, 1) := by decide +kernel
theorem dJ9_abs_0f7a4_1 : decode cJ9_abs_0f7a4 1 = .ok (.ifCond .ge 8, 3) := by decide +kernel
theorem dJ9_abs_0f7a4_4 : decode cJ9_abs_0f7a4 4 = .ok (.iload_n 0, 1) := by decide +kernel
theorem dJ9_abs_0f7a4_5 : decode cJ9_abs_0f7a4 5 = .ok (.ineg, 1) := by decide +kernel
theorem dJ9_abs_0f7a4_6 : decode cJ9_abs_0f7a4 6 = .ok (.goto 4, 3) := by decide +kernel
theorem dJ9_abs_0f7a4_9 : decode cJ9_abs_0f7a4 9 = .ok (.iload_n 0, 1) := by decide +kernel
theorem dJ9_abs_0f7a4_10 : decode cJ9_abs_0f7a4 10 = .ok (.ireturn, 1) := by decide +kernel
theorem dJ9_max_7cf53_0 : decode cJ9_max_7cf53 0 = .ok (.iload_n 0, 1) := by decide +kernel
theorem dJ9_max_7cf53_1 : decode cJ9_max_7cf53 1 = .ok (.iload_n 1, 1) := by decide +kernel
theorem dJ9_max_7cf53_2 : decode cJ9_max_7cf53 2 = .ok (.if_icmp .lt 7, 3) := by decide +kernel
theorem dJ9_max_7cf53_5 : decode cJ9_max_7cf53 5 = .ok (.iload_n 0, 1) := by decide +kernel
theorem dJ9_max_7cf53_6 : decode cJ9_max_7cf53 6 = .ok (.goto 4, 3) := by decide +kernel
theorem dJ9_max_7cf53_9 : decode cJ9_max_7cf53 9 = .ok (.iload_n 1, 1) := by decide +kernel
theorem dJ9_max_7cf53_10 : decode cJ9_max_7cf53 10 = .ok (.ireturn, 1) := by decide +kernel
theorem dJ9_min_7cf53_0 : decode cJ9_min_7cf53 0 = .ok (.iload_n 0, 1) := by decide +kernel
theorem dJ9_min_7cf53_1 : decode cJ9_min_7cf53 1 = .ok (.iload_n 1, 1) := by decide +kernel
theorem dJ9_min_7cf53_2 : decode cJ9_min_7cf53 2 = .ok (.if_icmp .gt 7, 3) := by decide +kernel
theorem dJ9_min_7cf53_5 : decode cJ9_min_7cf53 5 = .ok (.iload_n 0, 1) := by decide +kernel
theorem dJ9_min_7cf53_6 : decode cJ9_min_7cf53 6 = .ok (.goto 4, 3) := by decide +kernel
theorem dJ9_min_7cf53_9 : decode cJ9_min_7cf53 9 = .ok (.iload_n 1, 1) := by decide +kernel
theorem dJ9_min_7cf53_10 : decode cJ9_min_7cf53 10 = .ok (.ireturn, 1) := by decide +kernel
theorem dJ0_length_8abf5_0 : decode cJ0_length_8abf5 0 = .ok (.aload_n 0, 1) := by decide +kernel
theorem dJ0_length_8abf5_1 : decode cJ0_length_8abf5 1 = .ok (.getfield 9, 3) := by decide +kernel
theorem dJ0_length_8abf5_4 : decode cJ0_length_8abf5 4 = .ok (.arraylength, 1) := by decide +kernel
theorem dJ0_length_8abf5_5 : decode cJ0_length_8abf5 5 = .ok (.aload_n 0, 1) := by decide +kernel
theorem dJ0_length_8abf5_6 : decode cJ0_length_8abf5 6 = .ok (.invokevirtual 335, 3) := by decide +kernel
theorem dJ0_length_8abf5_9 : decode cJ0_length_8abf5 9 = .ok (.ishr, 1) := by decide +kernel
theorem dJ0_length_8abf5_10 : decode cJ0_length_8abf5 10 = .ok (.ireturn, 1) := by decide +kernel
theorem dJ0_charAt_5068e_0 : decode cJ0_charAt_5068e 0 = .ok (.aload_n 0, 1) := by decide +kernel
theorem dJ0_charAt_5068e_1 : decode cJ0_charAt_5068e 1 = .ok (.invokevirtual 492, 3) := by decide +kernel
theorem dJ0_charAt_5068e_4 : decode cJ0_charAt_5068e 4 = .ok (.ifCond .eq 12, 3) := by decide +kernel
theorem dJ0_charAt_5068e_7 : decode cJ0_charAt_5068e 7 = .ok (.aload_n 0, 1) := by decide +kernel
theorem dJ0_charAt_5068e_8 : decode cJ0_charAt_5068e 8 = .ok (.getfield 9, 3) := by decide +kernel
theorem dJ0_charAt_5068e_11 : decode cJ0_charAt_5068e 11 = .ok (.iload_n 1, 1) := by decide +kernel
theorem dJ0_charAt_5068e_12 : decode cJ0_charAt_5068e 12 = .ok (.invokestatic 495, 3) := by decide +kernel
theorem dJ0_charAt_5068e_15 : decode cJ0_charAt_5068e 15 = .ok (.ireturn, 1) := by decide +kernel
theorem dJ0_charAt_5068e_16 : decode cJ0_charAt_5068e 16 = .ok (.aload_n 0, 1) := by decide +kernel
theorem dJ0_charAt_5068e_17 : decode cJ0_charAt_5068e 17 = .ok (.getfield 9, 3) := by decide +kernel
theorem dJ0_charAt_5068e_20 : decode cJ0_charAt_5068e 20 = .ok (.iload_n 1, 1) := by decide +kernel
theorem dJ0_charAt_5068e_21 : decode cJ0_charAt_5068e 21 = .ok (.invokestatic 498, 3) := by decide +kernel
theorem dJ0_charAt_5068e_24 : decode cJ0_charAt_5068e 24 = .ok (.ireturn, 1) := by decide +kernel
theorem dJ0_coder_7d493_0 : decode cJ0_coder_7d493 0 = .ok (.getstatic 38, 3) := by decide +kernel
theorem dJ0_coder_7d493_3 : decode cJ0_coder_7d493 3 = .ok (.ifCond .eq 10, 3) := by decide +kernel
theorem dJ0_coder_7d493_6 : decode cJ0_coder_7d493 6 = .ok (.aload_n 0, 1) := by decide +kernel
theorem dJ0_coder_7d493_7 : decode cJ0_coder_7d493 7 = .ok (.getfield 15, 3) := by decide +kernel
theorem dJ0_coder_7d493_10 : decode cJ0_coder_7d493 10 = .ok (.goto 4, 3) := by decide +kernel
theorem dJ0_coder_7d493_13 : decode cJ0_coder_7d493 13 = .ok (.iconst 1, 1) := by decide +kernel
theorem dJ0_coder_7d493_14 : decode cJ0_coder_7d493 14 = .ok (.ireturn, 1) := by decide +kernel
theorem dJ0_isLatin1_aae02_0 : decode cJ0_isLatin1_aae02 0 = .ok (.getstatic 38, 3) := by decide +kernel
theorem dJ0_isLatin1_aae02_3 : decode cJ0_isLatin1_aae02 3 = .ok (.ifCond .eq 14, 3) := by decide +kernel
theorem dJ0_isLatin1_aae02_6 : decode cJ0_isLatin1_aae02 6 = .ok (.aload_n 0, 1) := by decide +kernel
theorem dJ0_isLatin1_aae02_7 : decode cJ0_isLatin1_aae02 7 = .ok (.getfield 15, 3) := by decide +kernel
theorem dJ0_isLatin1_aae02_10 : decode cJ0_isLatin1_aae02 10 = .ok (.ifCond .ne 7, 3) := by decide +kernel
theorem dJ0_isLatin1_aae02_13 : decode cJ0_isLatin1_aae02 13 = .ok (.iconst 1, 1) := by decide +kernel
theorem dJ0_isLatin1_aae02_14 : decode cJ0_isLatin1_aae02 14 = .ok (.goto 4, 3) := by decide +kernel
theorem dJ0_isLatin1_aae02_17 : decode cJ0_isLatin1_aae02 17 = .ok (.iconst 0, 1) := by decide +kernel
theorem dJ0_isLatin1_aae02_18 : decode cJ0_isLatin1_aae02 18 = .ok (.ireturn, 1) := by decide +kernel
theorem dJ0_checkIndex_df160_0 : decode cJ0_checkIndex_df160 0 = .ok (.iload_n 0, 1) := by decide +kernel
theorem dJ0_checkIndex_df160_1 : decode cJ0_checkIndex_df160 1 = .ok (.iload_n 1, 1) := by decide +kernel
theorem dJ0_checkIndex_df160_2 : decode cJ0_checkIndex_df160 2 = .ok (.getstatic 1053, 3) := by decide +kernel
theorem dJ0_checkIndex_df160_5 : decode cJ0_checkIndex_df160 5 = .ok (.invokestatic 1059, 3) := by decide +kernel
theorem dJ0_checkIndex_df160_8 : decode cJ0_checkIndex_df160 8 = .ok (.pop, 1) := by decide +kernel
theorem dJ0_checkIndex_df160_9 : decode cJ0_checkIndex_df160 9 = .ok (.return_, 1) := by decide +kernel
theorem dJ1_charAt_3b067_0 : decode cJ1_charAt_3b067 0 = .ok (.iload_n 1, 1) := by decide +kernel
theorem dJ1_charAt_3b067_1 : decode cJ1_charAt_3b067 1 = .ok (.aload_n 0, 1) := by decide +kernel
theorem dJ1_charAt_3b067_2 : decode cJ1_charAt_3b067 2 = .ok (.arraylength, 1) := by decide +kernel
theorem dJ1_charAt_3b067_3 : decode cJ1_charAt_3b067 3 = .ok (.invokestatic 9, 3) := by decide +kernel
theorem dJ1_charAt_3b067_6 : decode cJ1_charAt_3b067 6 = .ok (.aload_n 0, 1) := by decide +kernel
theorem dJ1_charAt_3b067_7 : decode cJ1_charAt_3b067 7 = .ok (.iload_n 1, 1) := by decide +kernel
theorem dJ1_charAt_3b067_8 : decode cJ1_charAt_3b067 8 = .ok (.baload, 1) := by decide +kernel
theorem dJ1_charAt_3b067_9 : decode cJ1_charAt_3b067 9 = .ok (.sipush 255, 3) := by decide +kernel
theorem dJ1_charAt_3b067_12 : decode cJ1_charAt_3b067 12 = .ok (.iand, 1) := by decide +kernel
theorem dJ1_charAt_3b067_13 : decode cJ1_charAt_3b067 13 = .ok (.i2c, 1) := by decide +kernel
theorem dJ1_charAt_3b067_14 : decode cJ1_charAt_3b067 14 = .ok (.ireturn, 1) := by decide +kernel
theorem dJ2_getChar_3b067_0 : decode cJ2_getChar_3b067 0 = .ok (.getstatic 44, 3) := by decide +kernel
theorem dJ2_getChar_3b067_3 : decode cJ2_getChar_3b067 3 = .ok (.ifCond .ne 25, 3) := by decide +kernel
theorem dJ2_getChar_3b067_6 : decode cJ2_getChar_3b067 6 = .ok (.iload_n 1, 1) := by decide +kernel
theorem dJ2_getChar_3b067_7 : decode cJ2_getChar_3b067 7 = .ok (.ifCond .lt 11, 3) := by decide +kernel
theorem dJ2_getChar_3b067_10 : decode cJ2_getChar_3b067 10 = .ok (.iload_n 1, 1) := by decide +kernel
theorem dJ2_getChar_3b067_11 : decode cJ2_getChar_3b067 11 = .ok (.aload_n 0, 1) := by decide +kernel
theorem dJ2_getChar_3b067_12 : decode cJ2_getChar_3b067 12 = .ok (.invokestatic 48, 3) := by decide +kernel
theorem dJ2_getChar_3b067_15 : decode cJ2_getChar_3b067 15 = .ok (.if_icmp .lt 13, 3) := by decide +kernel
theorem dJ2_getChar_3b067_18 : decode cJ2_getChar_3b067 18 = .ok (.new 52, 3) := by decide +kernel
theorem dJ2_getChar_3b067_21 : decode cJ2_getChar_3b067 21 = .ok (.dup, 1) := by decide +kernel
theorem dJ2_getChar_3b067_22 : decode cJ2_getChar_3b067 22 = .ok (.ldc 54, 2) := by decide +kernel
theorem dJ2_getChar_3b067_24 : decode cJ2_getChar_3b067 24 = .ok (.invokespecial 56, 3) := by decide +kernel
theorem dJ2_getChar_3b067_27 : decode cJ2_getChar_3b067 27 = .ok (.athrow, 1) := by decide +kernel
theorem dJ2_getChar_3b067_28 : decode cJ2_getChar_3b067 28 = .ok (.iload_n 1, 1) := by decide +kernel
theorem dJ2_getChar_3b067_29 : decode cJ2_getChar_3b067 29 = .ok (.iconst 1, 1) := by decide +kernel
theorem dJ2_getChar_3b067_30 : decode cJ2_getChar_3b067 30 = .ok (.ishl, 1) := by decide +kernel
theorem dJ2_getChar_3b067_31 : decode cJ2_getChar_3b067 31 = .ok (.istore_n 1, 1) := by decide +kernel
theorem dJ2_getChar_3b067_32 : decode cJ2_getChar_3b067 32 = .ok (.aload_n 0, 1) := by decide +kernel
theorem dJ2_getChar_3b067_33 : decode cJ2_getChar_3b067 33 = .ok (.iload_n 1, 1) := by decide +kernel
theorem dJ2_getChar_3b067_34 : decode cJ2_getChar_3b067 34 = .ok (.iinc 1 1, 3) := by decide +kernel
theorem dJ2_getChar_3b067_37 : decode cJ2_getChar_3b067 37 = .ok (.baload, 1) := by decide +kernel
theorem dJ2_getChar_3b067_38 : decode cJ2_getChar_3b067 38 = .ok (.sipush 255, 3) := by decide +kernel
theorem dJ2_getChar_3b067_41 : decode cJ2_getChar_3b067 41 = .ok (.iand, 1) := by decide +kernel
theorem dJ2_getChar_3b067_42 : decode cJ2_getChar_3b067 42 = .ok (.getstatic 59, 3) := by decide +kernel
theorem dJ2_getChar_3b067_45 : decode cJ2_getChar_3b067 45 = .ok (.ishl, 1) := by decide +kernel
theorem dJ2_getChar_3b067_46 : decode cJ2_getChar_3b067 46 = .ok (.aload_n 0, 1) := by decide +kernel
theorem dJ2_getChar_3b067_47 : decode cJ2_getChar_3b067 47 = .ok (.iload_n 1, 1) := by decide +kernel
theorem dJ2_getChar_3b067_48 : decode cJ2_getChar_3b067 48 = .ok (.baload, 1) := by decide +kernel
theorem dJ2_getChar_3b067_49 : decode cJ2_getChar_3b067 49 = .ok (.sipush 255, 3) := by decide +kernel
theorem dJ2_getChar_3b067_52 : decode cJ2_getChar_3b067 52 = .ok (.iand, 1) := by decide +kernel
theorem dJ2_getChar_3b067_53 : decode cJ2_getChar_3b067 53 = .ok (.getstatic 63, 3) := by decide +kernel
theorem dJ2_getChar_3b067_56 : decode cJ2_getChar_3b067 56 = .ok (.ishl, 1) := by decide +kernel
theorem dJ2_getChar_3b067_57 : decode cJ2_getChar_3b067 57 = .ok (.ior, 1) := by decide +kernel
theorem dJ2_getChar_3b067_58 : decode cJ2_getChar_3b067 58 = .ok (.i2c, 1) := by decide +kernel
theorem dJ2_getChar_3b067_59 : decode cJ2_getChar_3b067 59 = .ok (.ireturn, 1) := by decide +kernel
theorem dJ2_length_9d52b_0 : decode cJ2_length_9d52b 0 = .ok (.aload_n 0, 1) := by decide +kernel
theorem dJ2_length_9d52b_1 : decode cJ2_length_9d52b 1 = .ok (.arraylength, 1) := by decide +kernel
theorem dJ2_length_9d52b_2 : decode cJ2_length_9d52b 2 = .ok (.iconst 1, 1) := by decide +kernel
theorem dJ2_length_9d52b_3 : decode cJ2_length_9d52b 3 = .ok (.ishr, 1) := by decide +kernel
theorem dJ2_length_9d52b_4 : decode cJ2_length_9d52b 4 = .ok (.ireturn, 1) := by decide +kernel
theorem dJ2_charAt_3b067_0 : decode cJ2_charAt_3b067 0 = .ok (.iload_n 1, 1) := by decide +kernel
theorem dJ2_charAt_3b067_1 : decode cJ2_charAt_3b067 1 = .ok (.aload_n 0, 1) := by decide +kernel
theorem dJ2_charAt_3b067_2 : decode cJ2_charAt_3b067 2 = .ok (.invokestatic 67, 3) := by decide +kernel
theorem dJ2_charAt_3b067_5 : decode cJ2_charAt_3b067 5 = .ok (.aload_n 0, 1) := by decide +kernel
theorem dJ2_charAt_3b067_6 : decode cJ2_charAt_3b067 6 = .ok (.iload_n 1, 1) := by decide +kernel
theorem dJ2_charAt_3b067_7 : decode cJ2_charAt_3b067 7 = .ok (.invokestatic 71, 3) := by decide +kernel
theorem dJ2_charAt_3b067_10 : decode cJ2_charAt_3b067 10 = .ok (.ireturn, 1) := by decide +kernel
theorem dJ2_checkIndex_2214a_0 : decode cJ2_checkIndex_2214a 0 = .ok (.iload_n 0, 1) := by decide +kernel
theorem dJ2_checkIndex_2214a_1 : decode cJ2_checkIndex_2214a 1 = .ok (.aload_n 1, 1) := by decide +kernel
theorem dJ2_checkIndex_2214a_2 : decode cJ2_checkIndex_2214a 2 = .ok (.invokestatic 48, 3) := by decide +kernel
theorem dJ2_checkIndex_2214a_5 : decode cJ2_checkIndex_2214a 5 = .ok (.invokestatic 414, 3) := by decide +kernel
theorem dJ2_checkIndex_2214a_8 : decode cJ2_checkIndex_2214a 8 = .ok (.return_, 1) := by decide +kernel
theorem dJ3_checkIndex_8e157_0 : decode cJ3_checkIndex_8e157 0 = .ok (.iload_n 0, 1) := by decide +kernel
theorem dJ3_checkIndex_8e157_1 : decode cJ3_checkIndex_8e157 1 = .ok (.ifCond .lt 8, 3) := by decide +kernel
theorem dJ3_checkIndex_8e157_4 : decode cJ3_checkIndex_8e157 4 = .ok (.iload_n 0, 1) := by decide +kernel
theorem dJ3_checkIndex_8e157_5 : decode cJ3_checkIndex_8e157 5 = .ok (.iload_n 1, 1) := by decide +kernel
theorem dJ3_checkIndex_8e157_6 : decode cJ3_checkIndex_8e157 6 = .ok (.if_icmp .lt 10, 3) := by decide +kernel
theorem dJ3_checkIndex_8e157_9 : decode cJ3_checkIndex_8e157 9 = .ok (.aload_n 2, 1) := by decide +kernel
theorem dJ3_checkIndex_8e157_10 : decode cJ3_checkIndex_8e157 10 = .ok (.iload_n 0, 1) := by decide +kernel
theorem dJ3_checkIndex_8e157_11 : decode cJ3_checkIndex_8e157 11 = .ok (.iload_n 1, 1) := by decide +kernel
theorem dJ3_checkIndex_8e157_12 : decode cJ3_checkIndex_8e157 12 = .ok (.invokestatic 95, 3) := by decide +kernel
theorem dJ3_checkIndex_8e157_15 : decode cJ3_checkIndex_8e157 15 = .ok (.athrow, 1) := by decide +kernel
theorem dJ3_checkIndex_8e157_16 : decode cJ3_checkIndex_8e157 16 = .ok (.iload_n 0, 1) := by decide +kernel
theorem dJ3_checkIndex_8e157_17 : decode cJ3_checkIndex_8e157 17 = .ok (.ireturn, 1) := by decide +kernel
