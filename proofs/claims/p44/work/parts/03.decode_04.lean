theorem dX7_stand_64 : decode cX7_stand 64 = .ok (.iinc 4 1, 3) := by decide +kernel
theorem dX7_stand_67 : decode cX7_stand 67 = .ok (.goto (-38), 3) := by decide +kernel
theorem dX7_stand_70 : decode cX7_stand 70 = .ok (.aload_n 0, 1) := by decide +kernel
theorem dX7_stand_71 : decode cX7_stand 71 = .ok (.iload_n 3, 1) := by decide +kernel
theorem dX7_stand_72 : decode cX7_stand 72 = .ok (.invokevirtual 113, 3) := by decide +kernel
theorem dX7_stand_75 : decode cX7_stand 75 = .ok (.ireturn, 1) := by decide +kernel
theorem dX7_guard_0 : decode cX7_guard 0 = .ok (.aload_n 0, 1) := by decide +kernel
theorem dX7_guard_1 : decode cX7_guard 1 = .ok (.iload_n 1, 1) := by decide +kernel
theorem dX7_guard_2 : decode cX7_guard 2 = .ok (.iconst 1, 1) := by decide +kernel
theorem dX7_guard_3 : decode cX7_guard 3 = .ok (.bipush 60, 2) := by decide +kernel
theorem dX7_guard_5 : decode cX7_guard 5 = .ok (.invokevirtual 188, 3) := by decide +kernel
theorem dX7_guard_8 : decode cX7_guard 8 = .ok (.istore_n 2, 1) := by decide +kernel
theorem dX7_guard_9 : decode cX7_guard 9 = .ok (.iload_n 2, 1) := by decide +kernel
theorem dX7_guard_10 : decode cX7_guard 10 = .ok (.ifCond .eq 9, 3) := by decide +kernel
theorem dX7_guard_13 : decode cX7_guard 13 = .ok (.aload_n 0, 1) := by decide +kernel
theorem dX7_guard_14 : decode cX7_guard 14 = .ok (.iload_n 2, 1) := by decide +kernel
theorem dX7_guard_15 : decode cX7_guard 15 = .ok (.invokevirtual 82, 3) := by decide +kernel
theorem dX7_guard_18 : decode cX7_guard 18 = .ok (.ireturn, 1) := by decide +kernel
theorem dX7_guard_19 : decode cX7_guard 19 = .ok (.aload_n 0, 1) := by decide +kernel
theorem dX7_guard_20 : decode cX7_guard 20 = .ok (.getfield 29, 3) := by decide +kernel
theorem dX7_guard_23 : decode cX7_guard 23 = .ok (.aload_n 0, 1) := by decide +kernel
theorem dX7_guard_24 : decode cX7_guard 24 = .ok (.getfield 57, 3) := by decide +kernel
theorem dX7_guard_27 : decode cX7_guard 27 = .ok (.getfield 138, 3) := by decide +kernel
theorem dX7_guard_30 : decode cX7_guard 30 = .ok (.invokevirtual 242, 3) := by decide +kernel
theorem dX7_guard_33 : decode cX7_guard 33 = .ok (.aload_n 0, 1) := by decide +kernel
theorem dX7_guard_34 : decode cX7_guard 34 = .ok (.iconst 0, 1) := by decide +kernel
theorem dX7_guard_35 : decode cX7_guard 35 = .ok (.iload_n 1, 1) := by decide +kernel
theorem dX7_guard_36 : decode cX7_guard 36 = .ok (.invokevirtual 245, 3) := by decide +kernel
theorem dX7_guard_39 : decode cX7_guard 39 = .ok (.ifCond .eq 9, 3) := by decide +kernel
theorem dX7_guard_42 : decode cX7_guard 42 = .ok (.aload_n 0, 1) := by decide +kernel
theorem dX7_guard_43 : decode cX7_guard 43 = .ok (.iconst 0, 1) := by decide +kernel
theorem dX7_guard_44 : decode cX7_guard 44 = .ok (.invokevirtual 113, 3) := by decide +kernel
theorem dX7_guard_47 : decode cX7_guard 47 = .ok (.ireturn, 1) := by decide +kernel
theorem dX7_guard_48 : decode cX7_guard 48 = .ok (.iconst 0, 1) := by decide +kernel
theorem dX7_guard_49 : decode cX7_guard 49 = .ok (.istore_n 3, 1) := by decide +kernel
theorem dX7_guard_50 : decode cX7_guard 50 = .ok (.iload_n 3, 1) := by decide +kernel
theorem dX7_guard_51 : decode cX7_guard 51 = .ok (.aload_n 0, 1) := by decide +kernel
theorem dX7_guard_52 : decode cX7_guard 52 = .ok (.getfield 57, 3) := by decide +kernel
theorem dX7_guard_55 : decode cX7_guard 55 = .ok (.getfield 110, 3) := by decide +kernel
theorem dX7_guard_58 : decode cX7_guard 58 = .ok (.if_icmp .ge 28, 3) := by decide +kernel
theorem dX7_guard_61 : decode cX7_guard 61 = .ok (.aload_n 0, 1) := by decide +kernel
theorem dX7_guard_62 : decode cX7_guard 62 = .ok (.iconst 1, 1) := by decide +kernel
theorem dX7_guard_63 : decode cX7_guard 63 = .ok (.iload_n 3, 1) := by decide +kernel
theorem dX7_guard_64 : decode cX7_guard 64 = .ok (.ishl, 1) := by decide +kernel
theorem dX7_guard_65 : decode cX7_guard 65 = .ok (.iload_n 1, 1) := by decide +kernel
theorem dX7_guard_66 : decode cX7_guard 66 = .ok (.invokevirtual 245, 3) := by decide +kernel
theorem dX7_guard_69 : decode cX7_guard 69 = .ok (.ifCond .eq 11, 3) := by decide +kernel
theorem dX7_guard_72 : decode cX7_guard 72 = .ok (.aload_n 0, 1) := by decide +kernel
theorem dX7_guard_73 : decode cX7_guard 73 = .ok (.iconst 1, 1) := by decide +kernel
theorem dX7_guard_74 : decode cX7_guard 74 = .ok (.iload_n 3, 1) := by decide +kernel
theorem dX7_guard_75 : decode cX7_guard 75 = .ok (.ishl, 1) := by decide +kernel
theorem dX7_guard_76 : decode cX7_guard 76 = .ok (.invokevirtual 113, 3) := by decide +kernel
theorem dX7_guard_79 : decode cX7_guard 79 = .ok (.ireturn, 1) := by decide +kernel
theorem dX7_guard_80 : decode cX7_guard 80 = .ok (.iinc 3 1, 3) := by decide +kernel
theorem dX7_guard_83 : decode cX7_guard 83 = .ok (.goto (-33), 3) := by decide +kernel
theorem dX7_guard_86 : decode cX7_guard 86 = .ok (.aload_n 0, 1) := by decide +kernel
theorem dX7_guard_87 : decode cX7_guard 87 = .ok (.bipush (-2), 2) := by decide +kernel
theorem dX7_guard_89 : decode cX7_guard 89 = .ok (.invokevirtual 113, 3) := by decide +kernel
theorem dX7_guard_92 : decode cX7_guard 92 = .ok (.ireturn, 1) := by decide +kernel
theorem dX7_windBest_0 : decode cX7_windBest 0 = .ok (.aload_n 0, 1) := by decide +kernel
theorem dX7_windBest_1 : decode cX7_windBest 1 = .ok (.invokevirtual 154, 3) := by decide +kernel
theorem dX7_windBest_4 : decode cX7_windBest 4 = .ok (.ifCond .ne 9, 3) := by decide +kernel
theorem dX7_windBest_7 : decode cX7_windBest 7 = .ok (.aload_n 0, 1) := by decide +kernel
theorem dX7_windBest_8 : decode cX7_windBest 8 = .ok (.iconst 1, 1) := by decide +kernel
theorem dX7_windBest_9 : decode cX7_windBest 9 = .ok (.invokevirtual 82, 3) := by decide +kernel
theorem dX7_windBest_12 : decode cX7_windBest 12 = .ok (.ireturn, 1) := by decide +kernel
theorem dX7_windBest_13 : decode cX7_windBest 13 = .ok (.iconst 0, 1) := by decide +kernel
theorem dX7_windBest_14 : decode cX7_windBest 14 = .ok (.istore_n 1, 1) := by decide +kernel
theorem dX7_windBest_15 : decode cX7_windBest 15 = .ok (.iconst (-1), 1) := by decide +kernel
theorem dX7_windBest_16 : decode cX7_windBest 16 = .ok (.istore_n 2, 1) := by decide +kernel
theorem dX7_windBest_17 : decode cX7_windBest 17 = .ok (.iconst 0, 1) := by decide +kernel
theorem dX7_windBest_18 : decode cX7_windBest 18 = .ok (.istore_n 3, 1) := by decide +kernel
theorem dX7_windBest_19 : decode cX7_windBest 19 = .ok (.iload_n 3, 1) := by decide +kernel
theorem dX7_windBest_20 : decode cX7_windBest 20 = .ok (.aload_n 0, 1) := by decide +kernel
theorem dX7_windBest_21 : decode cX7_windBest 21 = .ok (.getfield 57, 3) := by decide +kernel
theorem dX7_windBest_24 : decode cX7_windBest 24 = .ok (.getfield 110, 3) := by decide +kernel
theorem dX7_windBest_27 : decode cX7_windBest 27 = .ok (.if_icmp .ge 67, 3) := by decide +kernel
theorem dX7_windBest_30 : decode cX7_windBest 30 = .ok (.aload_n 0, 1) := by decide +kernel
theorem dX7_windBest_31 : decode cX7_windBest 31 = .ok (.getfield 23, 3) := by decide +kernel
theorem dX7_windBest_34 : decode cX7_windBest 34 = .ok (.aload_n 0, 1) := by decide +kernel
theorem dX7_windBest_35 : decode cX7_windBest 35 = .ok (.getfield 19, 3) := by decide +kernel
theorem dX7_windBest_38 : decode cX7_windBest 38 = .ok (.invokevirtual 194, 3) := by decide +kernel
theorem dX7_windBest_41 : decode cX7_windBest 41 = .ok (.aload_n 0, 1) := by decide +kernel
theorem dX7_windBest_42 : decode cX7_windBest 42 = .ok (.getfield 23, 3) := by decide +kernel
theorem dX7_windBest_45 : decode cX7_windBest 45 = .ok (.iload_n 3, 1) := by decide +kernel
theorem dX7_windBest_46 : decode cX7_windBest 46 = .ok (.invokevirtual 248, 3) := by decide +kernel
theorem dX7_windBest_49 : decode cX7_windBest 49 = .ok (.aload_n 0, 1) := by decide +kernel
theorem dX7_windBest_50 : decode cX7_windBest 50 = .ok (.aload_n 0, 1) := by decide +kernel
theorem dX7_windBest_51 : decode cX7_windBest 51 = .ok (.getfield 57, 3) := by decide +kernel
theorem dX7_windBest_54 : decode cX7_windBest 54 = .ok (.getfield 138, 3) := by decide +kernel
theorem dX7_windBest_57 : decode cX7_windBest 57 = .ok (.sipush 300, 3) := by decide +kernel
theorem dX7_windBest_60 : decode cX7_windBest 60 = .ok (.invokevirtual 198, 3) := by decide +kernel
theorem dX7_windBest_63 : decode cX7_windBest 63 = .ok (.istore 4, 2) := by decide +kernel
theorem dX7_windBest_65 : decode cX7_windBest 65 = .ok (.iload 4, 2) := by decide +kernel
theorem dX7_windBest_67 : decode cX7_windBest 67 = .ok (.bipush (-2), 2) := by decide +kernel
theorem dX7_windBest_69 : decode cX7_windBest 69 = .ok (.if_icmp .ne 8, 3) := by decide +kernel
theorem dX7_windBest_72 : decode cX7_windBest 72 = .ok (.sipush 301, 3) := by decide +kernel
theorem dX7_windBest_75 : decode cX7_windBest 75 = .ok (.istore 4, 2) := by decide +kernel
theorem dX7_windBest_77 : decode cX7_windBest 77 = .ok (.iload 4, 2) := by decide +kernel
theorem dX7_windBest_79 : decode cX7_windBest 79 = .ok (.iload_n 2, 1) := by decide +kernel
theorem dX7_windBest_80 : decode cX7_windBest 80 = .ok (.if_icmp .le 8, 3) := by decide +kernel
theorem dX7_windBest_83 : decode cX7_windBest 83 = .ok (.iload 4, 2) := by decide +kernel
theorem dX7_windBest_85 : decode cX7_windBest 85 = .ok (.istore_n 2, 1) := by decide +kernel
theorem dX7_windBest_86 : decode cX7_windBest 86 = .ok (.iload_n 3, 1) := by decide +kernel
theorem dX7_windBest_87 : decode cX7_windBest 87 = .ok (.istore_n 1, 1) := by decide +kernel
theorem dX7_windBest_88 : decode cX7_windBest 88 = .ok (.iinc 3 1, 3) := by decide +kernel
theorem dX7_windBest_91 : decode cX7_windBest 91 = .ok (.goto (-72), 3) := by decide +kernel
theorem dX7_windBest_94 : decode cX7_windBest 94 = .ok (.aload_n 0, 1) := by decide +kernel
theorem dX7_windBest_95 : decode cX7_windBest 95 = .ok (.iload_n 1, 1) := by decide +kernel
theorem dX7_windBest_96 : decode cX7_windBest 96 = .ok (.invokevirtual 113, 3) := by decide +kernel
theorem dX7_windBest_99 : decode cX7_windBest 99 = .ok (.ireturn, 1) := by decide +kernel
theorem dX7_patrol_0 : decode cX7_patrol 0 = .ok (.aload_n 0, 1) := by decide +kernel
theorem dX7_patrol_1 : decode cX7_patrol 1 = .ok (.iload_n 1, 1) := by decide +kernel
theorem dX7_patrol_2 : decode cX7_patrol 2 = .ok (.invokevirtual 135, 3) := by decide +kernel
theorem dX7_patrol_5 : decode cX7_patrol 5 = .ok (.ifCond .ne 9, 3) := by decide +kernel
theorem dX7_patrol_8 : decode cX7_patrol 8 = .ok (.aload_n 0, 1) := by decide +kernel
theorem dX7_patrol_9 : decode cX7_patrol 9 = .ok (.iconst 1, 1) := by decide +kernel
theorem dX7_patrol_10 : decode cX7_patrol 10 = .ok (.invokevirtual 82, 3) := by decide +kernel
theorem dX7_patrol_13 : decode cX7_patrol 13 = .ok (.ireturn, 1) := by decide +kernel
theorem dX7_patrol_14 : decode cX7_patrol 14 = .ok (.iload_n 2, 1) := by decide +kernel
theorem dX7_patrol_15 : decode cX7_patrol 15 = .ok (.iconst 1, 1) := by decide +kernel
theorem dX7_patrol_16 : decode cX7_patrol 16 = .ok (.bipush 60, 2) := by decide +kernel
theorem dX7_patrol_18 : decode cX7_patrol 18 = .ok (.invokestatic 78, 3) := by decide +kernel
theorem dX7_patrol_21 : decode cX7_patrol 21 = .ok (.ifCond .ne 9, 3) := by decide +kernel
theorem dX7_patrol_24 : decode cX7_patrol 24 = .ok (.aload_n 0, 1) := by decide +kernel
theorem dX7_patrol_25 : decode cX7_patrol 25 = .ok (.iconst 2, 1) := by decide +kernel
theorem dX7_patrol_26 : decode cX7_patrol 26 = .ok (.invokevirtual 82, 3) := by decide +kernel
theorem dX7_patrol_29 : decode cX7_patrol 29 = .ok (.ireturn, 1) := by decide +kernel
theorem dX7_patrol_30 : decode cX7_patrol 30 = .ok (.aload_n 0, 1) := by decide +kernel
theorem dX7_patrol_31 : decode cX7_patrol 31 = .ok (.getfield 29, 3) := by decide +kernel
theorem dX7_patrol_34 : decode cX7_patrol 34 = .ok (.aload_n 0, 1) := by decide +kernel
theorem dX7_patrol_35 : decode cX7_patrol 35 = .ok (.getfield 57, 3) := by decide +kernel
theorem dX7_patrol_38 : decode cX7_patrol 38 = .ok (.getfield 138, 3) := by decide +kernel
theorem dX7_patrol_41 : decode cX7_patrol 41 = .ok (.invokevirtual 242, 3) := by decide +kernel
theorem dX7_patrol_44 : decode cX7_patrol 44 = .ok (.iconst 0, 1) := by decide +kernel
theorem dX7_patrol_45 : decode cX7_patrol 45 = .ok (.istore_n 3, 1) := by decide +kernel
theorem dX7_patrol_46 : decode cX7_patrol 46 = .ok (.bipush 10, 2) := by decide +kernel
theorem dX7_patrol_48 : decode cX7_patrol 48 = .ok (.istore 4, 2) := by decide +kernel
theorem dX7_patrol_50 : decode cX7_patrol 50 = .ok (.iconst 0, 1) := by decide +kernel
theorem dX7_patrol_51 : decode cX7_patrol 51 = .ok (.istore 5, 2) := by decide +kernel
theorem dX7_patrol_53 : decode cX7_patrol 53 = .ok (.iconst 0, 1) := by decide +kernel
theorem dX7_patrol_54 : decode cX7_patrol 54 = .ok (.istore 6, 2) := by decide +kernel
theorem dX7_patrol_56 : decode cX7_patrol 56 = .ok (.iload 6, 2) := by decide +kernel
theorem dX7_patrol_58 : decode cX7_patrol 58 = .ok (.aload_n 0, 1) := by decide +kernel
theorem dX7_patrol_59 : decode cX7_patrol 59 = .ok (.getfield 57, 3) := by decide +kernel
theorem dX7_patrol_62 : decode cX7_patrol 62 = .ok (.getfield 110, 3) := by decide +kernel
theorem dX7_patrol_65 : decode cX7_patrol 65 = .ok (.aload_n 0, 1) := by decide +kernel
theorem dX7_patrol_66 : decode cX7_patrol 66 = .ok (.getfield 57, 3) := by decide +kernel
theorem dX7_patrol_69 : decode cX7_patrol 69 = .ok (.getfield 110, 3) := by decide +kernel
theorem dX7_patrol_72 : decode cX7_patrol 72 = .ok (.imul, 1) := by decide +kernel
theorem dX7_patrol_73 : decode cX7_patrol 73 = .ok (.if_icmp .ge 138, 3) := by decide +kernel
theorem dX7_patrol_76 : decode cX7_patrol 76 = .ok (.aload_n 0, 1) := by decide +kernel
theorem dX7_patrol_77 : decode cX7_patrol 77 = .ok (.getfield 29, 3) := by decide +kernel
theorem dX7_patrol_80 : decode cX7_patrol 80 = .ok (.getfield 141, 3) := by decide +kernel
theorem dX7_patrol_83 : decode cX7_patrol 83 = .ok (.iload_n 1, 1) := by decide +kernel
theorem dX7_patrol_84 : decode cX7_patrol 84 = .ok (.iload 6, 2) := by decide +kernel
theorem dX7_patrol_86 : decode cX7_patrol 86 = .ok (.aload_n 0, 1) := by decide +kernel
theorem dX7_patrol_87 : decode cX7_patrol 87 = .ok (.getfield 57, 3) := by decide +kernel
theorem dX7_patrol_90 : decode cX7_patrol 90 = .ok (.getfield 110, 3) := by decide +kernel
theorem dX7_patrol_93 : decode cX7_patrol 93 = .ok (.idiv, 1) := by decide +kernel
theorem dX7_patrol_94 : decode cX7_patrol 94 = .ok (.iastore, 1) := by decide +kernel
theorem dX7_patrol_95 : decode cX7_patrol 95 = .ok (.aload_n 0, 1) := by decide +kernel
theorem dX7_patrol_96 : decode cX7_patrol 96 = .ok (.getfield 29, 3) := by decide +kernel
theorem dX7_patrol_99 : decode cX7_patrol 99 = .ok (.getfield 144, 3) := by decide +kernel
theorem dX7_patrol_102 : decode cX7_patrol 102 = .ok (.iload_n 1, 1) := by decide +kernel
theorem dX7_patrol_103 : decode cX7_patrol 103 = .ok (.iload 6, 2) := by decide +kernel
theorem dX7_patrol_105 : decode cX7_patrol 105 = .ok (.aload_n 0, 1) := by decide +kernel
theorem dX7_patrol_106 : decode cX7_patrol 106 = .ok (.getfield 57, 3) := by decide +kernel
theorem dX7_patrol_109 : decode cX7_patrol 109 = .ok (.getfield 110, 3) := by decide +kernel
theorem dX7_patrol_112 : decode cX7_patrol 112 = .ok (.irem, 1) := by decide +kernel
theorem dX7_patrol_113 : decode cX7_patrol 113 = .ok (.iastore, 1) := by decide +kernel
theorem dX7_patrol_114 : decode cX7_patrol 114 = .ok (.aload_n 0, 1) := by decide +kernel
theorem dX7_patrol_115 : decode cX7_patrol 115 = .ok (.iload_n 2, 1) := by decide +kernel
theorem dX7_patrol_116 : decode cX7_patrol 116 = .ok (.invokevirtual 251, 3) := by decide +kernel
theorem dX7_patrol_119 : decode cX7_patrol 119 = .ok (.aload_n 0, 1) := by decide +kernel
theorem dX7_patrol_120 : decode cX7_patrol 120 = .ok (.getfield 23, 3) := by decide +kernel
theorem dX7_patrol_123 : decode cX7_patrol 123 = .ok (.getfield 191, 3) := by decide +kernel
theorem dX7_patrol_126 : decode cX7_patrol 126 = .ok (.invokestatic 254, 3) := by decide +kernel
theorem dX7_patrol_129 : decode cX7_patrol 129 = .ok (.istore 7, 2) := by decide +kernel
theorem dX7_patrol_131 : decode cX7_patrol 131 = .ok (.iload 7, 2) := by decide +kernel
theorem dX7_patrol_133 : decode cX7_patrol 133 = .ok (.iload 4, 2) := by decide +kernel
theorem dX7_patrol_135 : decode cX7_patrol 135 = .ok (.if_icmp .ge 7, 3) := by decide +kernel
theorem dX7_patrol_138 : decode cX7_patrol 138 = .ok (.iconst 1, 1) := by decide +kernel
theorem dX7_patrol_139 : decode cX7_patrol 139 = .ok (.goto 4, 3) := by decide +kernel
theorem dX7_patrol_142 : decode cX7_patrol 142 = .ok (.iconst 0, 1) := by decide +kernel
theorem dX7_patrol_143 : decode cX7_patrol 143 = .ok (.istore 8, 2) := by decide +kernel
theorem dX7_patrol_145 : decode cX7_patrol 145 = .ok (.iload 8, 2) := by decide +kernel
theorem dX7_patrol_147 : decode cX7_patrol 147 = .ok (.ifCond .ne 22, 3) := by decide +kernel
theorem dX7_patrol_150 : decode cX7_patrol 150 = .ok (.iload 7, 2) := by decide +kernel
theorem dX7_patrol_152 : decode cX7_patrol 152 = .ok (.iload 4, 2) := by decide +kernel
theorem dX7_patrol_154 : decode cX7_patrol 154 = .ok (.if_icmp .ne 51, 3) := by decide +kernel
theorem dX7_patrol_157 : decode cX7_patrol 157 = .ok (.aload_n 0, 1) := by decide +kernel
theorem dX7_patrol_158 : decode cX7_patrol 158 = .ok (.getfield 23, 3) := by decide +kernel
theorem dX7_patrol_161 : decode cX7_patrol 161 = .ok (.getfield 167, 3) := by decide +kernel
theorem dX7_patrol_164 : decode cX7_patrol 164 = .ok (.iload 5, 2) := by decide +kernel
theorem dX7_patrol_166 : decode cX7_patrol 166 = .ok (.if_icmp .le 39, 3) := by decide +kernel
theorem dX7_patrol_169 : decode cX7_patrol 169 = .ok (.iload 7, 2) := by decide +kernel
theorem dX7_patrol_171 : decode cX7_patrol 171 = .ok (.istore 4, 2) := by decide +kernel
theorem dX7_patrol_173 : decode cX7_patrol 173 = .ok (.aload_n 0, 1) := by decide +kernel
theorem dX7_patrol_174 : decode cX7_patrol 174 = .ok (.getfield 23, 3) := by decide +kernel
theorem dX7_patrol_177 : decode cX7_patrol 177 = .ok (.getfield 167, 3) := by decide +kernel
theorem dX7_patrol_180 : decode cX7_patrol 180 = .ok (.istore 5, 2) := by decide +kernel
theorem dX7_patrol_182 : decode cX7_patrol 182 = .ok (.bipush 10, 2) := by decide +kernel
theorem dX7_patrol_184 : decode cX7_patrol 184 = .ok (.aload_n 0, 1) := by decide +kernel
theorem dX7_patrol_185 : decode cX7_patrol 185 = .ok (.getfield 29, 3) := by decide +kernel
theorem dX7_patrol_188 : decode cX7_patrol 188 = .ok (.getfield 141, 3) := by decide +kernel
theorem dX7_patrol_191 : decode cX7_patrol 191 = .ok (.iload_n 1, 1) := by decide +kernel
theorem dX7_patrol_192 : decode cX7_patrol 192 = .ok (.iaload, 1) := by decide +kernel
theorem dX7_patrol_193 : decode cX7_patrol 193 = .ok (.imul, 1) := by decide +kernel
theorem dX7_patrol_194 : decode cX7_patrol 194 = .ok (.aload_n 0, 1) := by decide +kernel
theorem dX7_patrol_195 : decode cX7_patrol 195 = .ok (.getfield 29, 3) := by decide +kernel
theorem dX7_patrol_198 : decode cX7_patrol 198 = .ok (.getfield 144, 3) := by decide +kernel
theorem dX7_patrol_201 : decode cX7_patrol 201 = .ok (.iload_n 1, 1) := by decide +kernel
theorem dX7_patrol_202 : decode cX7_patrol 202 = .ok (.iaload, 1) := by decide +kernel
theorem dX7_patrol_203 : decode cX7_patrol 203 = .ok (.iadd, 1) := by decide +kernel
theorem dX7_patrol_204 : decode cX7_patrol 204 = .ok (.istore_n 3, 1) := by decide +kernel
theorem dX7_patrol_205 : decode cX7_patrol 205 = .ok (.iinc 6 1, 3) := by decide +kernel
theorem dX7_patrol_208 : decode cX7_patrol 208 = .ok (.goto (-152), 3) := by decide +kernel
theorem dX7_patrol_211 : decode cX7_patrol 211 = .ok (.aload_n 0, 1) := by decide +kernel
theorem dX7_patrol_212 : decode cX7_patrol 212 = .ok (.iload_n 3, 1) := by decide +kernel
theorem dX7_patrol_213 : decode cX7_patrol 213 = .ok (.invokevirtual 113, 3) := by decide +kernel
theorem dX7_patrol_216 : decode cX7_patrol 216 = .ok (.ireturn, 1) := by decide +kernel
theorem dX7_fits_0 : decode cX7_fits 0 = .ok (.aload_n 0, 1) := by decide +kernel
theorem dX7_fits_1 : decode cX7_fits 1 = .ok (.invokevirtual 154, 3) := by decide +kernel
theorem dX7_fits_4 : decode cX7_fits 4 = .ok (.ifCond .ne 9, 3) := by decide +kernel
theorem dX7_fits_7 : decode cX7_fits 7 = .ok (.aload_n 0, 1) := by decide +kernel
theorem dX7_fits_8 : decode cX7_fits 8 = .ok (.iconst 1, 1) := by decide +kernel
theorem dX7_fits_9 : decode cX7_fits 9 = .ok (.invokevirtual 82, 3) := by decide +kernel
theorem dX7_fits_12 : decode cX7_fits 12 = .ok (.ireturn, 1) := by decide +kernel
theorem dX7_fits_13 : decode cX7_fits 13 = .ok (.aload_n 0, 1) := by decide +kernel
theorem dX7_fits_14 : decode cX7_fits 14 = .ok (.getfield 43, 3) := by decide +kernel
theorem dX7_fits_17 : decode cX7_fits 17 = .ok (.aload_n 0, 1) := by decide +kernel
theorem dX7_fits_18 : decode cX7_fits 18 = .ok (.getfield 57, 3) := by decide +kernel
theorem dX7_fits_21 : decode cX7_fits 21 = .ok (.invokevirtual 259, 3) := by decide +kernel
theorem dX7_fits_24 : decode cX7_fits 24 = .ok (.aload_n 0, 1) := by decide +kernel
theorem dX7_fits_25 : decode cX7_fits 25 = .ok (.aload_n 0, 1) := by decide +kernel
theorem dX7_fits_26 : decode cX7_fits 26 = .ok (.getfield 43, 3) := by decide +kernel
theorem dX7_fits_29 : decode cX7_fits 29 = .ok (.getfield 263, 3) := by decide +kernel
theorem dX7_fits_32 : decode cX7_fits 32 = .ok (.invokevirtual 113, 3) := by decide +kernel
theorem dX7_fits_35 : decode cX7_fits 35 = .ok (.ireturn, 1) := by decide +kernel
theorem dX7_fitAt_0 : decode cX7_fitAt 0 = .ok (.aload_n 0, 1) := by decide +kernel
theorem dX7_fitAt_1 : decode cX7_fitAt 1 = .ok (.invokevirtual 154, 3) := by decide +kernel
theorem dX7_fitAt_4 : decode cX7_fitAt 4 = .ok (.ifCond .ne 9, 3) := by decide +kernel
theorem dX7_fitAt_7 : decode cX7_fitAt 7 = .ok (.aload_n 0, 1) := by decide +kernel
theorem dX7_fitAt_8 : decode cX7_fitAt 8 = .ok (.iconst 1, 1) := by decide +kernel
theorem dX7_fitAt_9 : decode cX7_fitAt 9 = .ok (.invokevirtual 82, 3) := by decide +kernel
theorem dX7_fitAt_12 : decode cX7_fitAt 12 = .ok (.ireturn, 1) := by decide +kernel
theorem dX7_fitAt_13 : decode cX7_fitAt 13 = .ok (.aload_n 0, 1) := by decide +kernel
theorem dX7_fitAt_14 : decode cX7_fitAt 14 = .ok (.getfield 43, 3) := by decide +kernel
theorem dX7_fitAt_17 : decode cX7_fitAt 17 = .ok (.aload_n 0, 1) := by decide +kernel
theorem dX7_fitAt_18 : decode cX7_fitAt 18 = .ok (.getfield 57, 3) := by decide +kernel
theorem dX7_fitAt_21 : decode cX7_fitAt 21 = .ok (.invokevirtual 259, 3) := by decide +kernel
theorem dX7_fitAt_24 : decode cX7_fitAt 24 = .ok (.iload_n 1, 1) := by decide +kernel
theorem dX7_fitAt_25 : decode cX7_fitAt 25 = .ok (.iconst 0, 1) := by decide +kernel
theorem dX7_fitAt_26 : decode cX7_fitAt 26 = .ok (.aload_n 0, 1) := by decide +kernel
theorem dX7_fitAt_27 : decode cX7_fitAt 27 = .ok (.getfield 43, 3) := by decide +kernel
theorem dX7_fitAt_30 : decode cX7_fitAt 30 = .ok (.getfield 263, 3) := by decide +kernel
theorem dX7_fitAt_33 : decode cX7_fitAt 33 = .ok (.iconst 1, 1) := by decide +kernel
theorem dX7_fitAt_34 : decode cX7_fitAt 34 = .ok (.isub, 1) := by decide +kernel
theorem dX7_fitAt_35 : decode cX7_fitAt 35 = .ok (.invokestatic 78, 3) := by decide +kernel
theorem dX7_fitAt_38 : decode cX7_fitAt 38 = .ok (.ifCond .ne 9, 3) := by decide +kernel
theorem dX7_fitAt_41 : decode cX7_fitAt 41 = .ok (.aload_n 0, 1) := by decide +kernel
theorem dX7_fitAt_42 : decode cX7_fitAt 42 = .ok (.iconst 1, 1) := by decide +kernel
theorem dX7_fitAt_43 : decode cX7_fitAt 43 = .ok (.invokevirtual 82, 3) := by decide +kernel
theorem dX7_fitAt_46 : decode cX7_fitAt 46 = .ok (.ireturn, 1) := by decide +kernel
theorem dX7_fitAt_47 : decode cX7_fitAt 47 = .ok (.aload_n 0, 1) := by decide +kernel
theorem dX7_fitAt_48 : decode cX7_fitAt 48 = .ok (.aload_n 0, 1) := by decide +kernel
theorem dX7_fitAt_49 : decode cX7_fitAt 49 = .ok (.getfield 43, 3) := by decide +kernel
theorem dX7_fitAt_52 : decode cX7_fitAt 52 = .ok (.getfield 266, 3) := by decide +kernel
theorem dX7_fitAt_55 : decode cX7_fitAt 55 = .ok (.iload_n 1, 1) := by decide +kernel
theorem dX7_fitAt_56 : decode cX7_fitAt 56 = .ok (.iaload, 1) := by decide +kernel
theorem dX7_fitAt_57 : decode cX7_fitAt 57 = .ok (.invokevirtual 113, 3) := by decide +kernel
theorem dX7_fitAt_60 : decode cX7_fitAt 60 = .ok (.ireturn, 1) := by decide +kernel
theorem dX7_could_0 : decode cX7_could 0 = .ok (.aload_n 0, 1) := by decide +kernel
theorem dX7_could_1 : decode cX7_could 1 = .ok (.iload_n 1, 1) := by decide +kernel
theorem dX7_could_2 : decode cX7_could 2 = .ok (.iconst 0, 1) := by decide +kernel
theorem dX7_could_3 : decode cX7_could 3 = .ok (.sipush 999, 3) := by decide +kernel
theorem dX7_could_6 : decode cX7_could 6 = .ok (.invokevirtual 188, 3) := by decide +kernel
theorem dX7_could_9 : decode cX7_could 9 = .ok (.istore_n 2, 1) := by decide +kernel
theorem dX7_could_10 : decode cX7_could 10 = .ok (.iload_n 2, 1) := by decide +kernel
theorem dX7_could_11 : decode cX7_could 11 = .ok (.ifCond .eq 9, 3) := by decide +kernel
theorem dX7_could_14 : decode cX7_could 14 = .ok (.aload_n 0, 1) := by decide +kernel
theorem dX7_could_15 : decode cX7_could 15 = .ok (.iload_n 2, 1) := by decide +kernel
theorem dX7_could_16 : decode cX7_could 16 = .ok (.invokevirtual 82, 3) := by decide +kernel
theorem dX7_could_19 : decode cX7_could 19 = .ok (.ireturn, 1) := by decide +kernel
theorem dX7_could_20 : decode cX7_could 20 = .ok (.aload_n 0, 1) := by decide +kernel
theorem dX7_could_21 : decode cX7_could 21 = .ok (.getfield 43, 3) := by decide +kernel
theorem dX7_could_24 : decode cX7_could 24 = .ok (.aload_n 0, 1) := by decide +kernel
theorem dX7_could_25 : decode cX7_could 25 = .ok (.getfield 57, 3) := by decide +kernel
theorem dX7_could_28 : decode cX7_could 28 = .ok (.invokevirtual 259, 3) := by decide +kernel
theorem dX7_could_31 : decode cX7_could 31 = .ok (.iconst 0, 1) := by decide +kernel
theorem dX7_could_32 : decode cX7_could 32 = .ok (.istore_n 3, 1) := by decide +kernel
theorem dX7_could_33 : decode cX7_could 33 = .ok (.iconst 0, 1) := by decide +kernel
theorem dX7_could_34 : decode cX7_could 34 = .ok (.istore 4, 2) := by decide +kernel
theorem dX7_could_36 : decode cX7_could 36 = .ok (.iload 4, 2) := by decide +kernel
theorem dX7_could_38 : decode cX7_could 38 = .ok (.aload_n 0, 1) := by decide +kernel
theorem dX7_could_39 : decode cX7_could 39 = .ok (.getfield 43, 3) := by decide +kernel
theorem dX7_could_42 : decode cX7_could 42 = .ok (.getfield 263, 3) := by decide +kernel
theorem dX7_could_45 : decode cX7_could 45 = .ok (.if_icmp .ge 32, 3) := by decide +kernel
theorem dX7_could_48 : decode cX7_could 48 = .ok (.iload_n 3, 1) := by decide +kernel
theorem dX7_could_49 : decode cX7_could 49 = .ok (.iconst 1, 1) := by decide +kernel
theorem dX7_could_50 : decode cX7_could 50 = .ok (.aload_n 0, 1) := by decide +kernel
theorem dX7_could_51 : decode cX7_could 51 = .ok (.getfield 57, 3) := by decide +kernel
theorem dX7_could_54 : decode cX7_could 54 = .ok (.aload_n 0, 1) := by decide +kernel
theorem dX7_could_55 : decode cX7_could 55 = .ok (.getfield 43, 3) := by decide +kernel
theorem dX7_could_58 : decode cX7_could 58 = .ok (.getfield 266, 3) := by decide +kernel
theorem dX7_could_61 : decode cX7_could 61 = .ok (.iload 4, 2) := by decide +kernel
theorem dX7_could_63 : decode cX7_could 63 = .ok (.iaload, 1) := by decide +kernel
theorem dX7_could_64 : decode cX7_could 64 = .ok (.iload_n 1, 1) := by decide +kernel
theorem dX7_could_65 : decode cX7_could 65 = .ok (.invokevirtual 269, 3) := by decide +kernel
theorem dX7_could_68 : decode cX7_could 68 = .ok (.ishl, 1) := by decide +kernel
theorem dX7_could_69 : decode cX7_could 69 = .ok (.ior, 1) := by decide +kernel
theorem dX7_could_70 : decode cX7_could 70 = .ok (.istore_n 3, 1) := by decide +kernel
theorem dX7_could_71 : decode cX7_could 71 = .ok (.iinc 4 1, 3) := by decide +kernel
theorem dX7_could_74 : decode cX7_could 74 = .ok (.goto (-38), 3) := by decide +kernel
theorem dX7_could_77 : decode cX7_could 77 = .ok (.aload_n 0, 1) := by decide +kernel
theorem dX7_could_78 : decode cX7_could 78 = .ok (.iload_n 3, 1) := by decide +kernel
theorem dX7_could_79 : decode cX7_could 79 = .ok (.invokevirtual 113, 3) := by decide +kernel
theorem dX7_could_82 : decode cX7_could 82 = .ok (.ireturn, 1) := by decide +kernel
theorem dX7_aliveBy_0 : decode cX7_aliveBy 0 = .ok (.aload_n 0, 1) := by decide +kernel
theorem dX7_aliveBy_1 : decode cX7_aliveBy 1 = .ok (.iload_n 1, 1) := by decide +kernel
theorem dX7_aliveBy_2 : decode cX7_aliveBy 2 = .ok (.iload_n 2, 1) := by decide +kernel
theorem dX7_aliveBy_3 : decode cX7_aliveBy 3 = .ok (.sipush 999, 3) := by decide +kernel
theorem dX7_aliveBy_6 : decode cX7_aliveBy 6 = .ok (.invokevirtual 181, 3) := by decide +kernel
theorem dX7_aliveBy_9 : decode cX7_aliveBy 9 = .ok (.istore_n 3, 1) := by decide +kernel
theorem dX7_aliveBy_10 : decode cX7_aliveBy 10 = .ok (.iload_n 3, 1) := by decide +kernel
theorem dX7_aliveBy_11 : decode cX7_aliveBy 11 = .ok (.ifCond .eq 9, 3) := by decide +kernel
theorem dX7_aliveBy_14 : decode cX7_aliveBy 14 = .ok (.aload_n 0, 1) := by decide +kernel
theorem dX7_aliveBy_15 : decode cX7_aliveBy 15 = .ok (.iload_n 3, 1) := by decide +kernel
theorem dX7_aliveBy_16 : decode cX7_aliveBy 16 = .ok (.invokevirtual 82, 3) := by decide +kernel
theorem dX7_aliveBy_19 : decode cX7_aliveBy 19 = .ok (.ireturn, 1) := by decide +kernel
theorem dX7_aliveBy_20 : decode cX7_aliveBy 20 = .ok (.aload_n 0, 1) := by decide +kernel
theorem dX7_aliveBy_21 : decode cX7_aliveBy 21 = .ok (.getfield 43, 3) := by decide +kernel
theorem dX7_aliveBy_24 : decode cX7_aliveBy 24 = .ok (.aload_n 0, 1) := by decide +kernel
theorem dX7_aliveBy_25 : decode cX7_aliveBy 25 = .ok (.getfield 57, 3) := by decide +kernel
theorem dX7_aliveBy_28 : decode cX7_aliveBy 28 = .ok (.invokevirtual 259, 3) := by decide +kernel
theorem dX7_aliveBy_31 : decode cX7_aliveBy 31 = .ok (.iconst 0, 1) := by decide +kernel
theorem dX7_aliveBy_32 : decode cX7_aliveBy 32 = .ok (.istore 4, 2) := by decide +kernel
theorem dX7_aliveBy_34 : decode cX7_aliveBy 34 = .ok (.iconst 0, 1) := by decide +kernel
theorem dX7_aliveBy_35 : decode cX7_aliveBy 35 = .ok (.istore 5, 2) := by decide +kernel
theorem dX7_aliveBy_37 : decode cX7_aliveBy 37 = .ok (.iload 5, 2) := by decide +kernel
theorem dX7_aliveBy_39 : decode cX7_aliveBy 39 = .ok (.aload_n 0, 1) := by decide +kernel
theorem dX7_aliveBy_40 : decode cX7_aliveBy 40 = .ok (.getfield 43, 3) := by decide +kernel
theorem dX7_aliveBy_43 : decode cX7_aliveBy 43 = .ok (.getfield 263, 3) := by decide +kernel
theorem dX7_aliveBy_46 : decode cX7_aliveBy 46 = .ok (.if_icmp .ge 34, 3) := by decide +kernel
theorem dX7_aliveBy_49 : decode cX7_aliveBy 49 = .ok (.aload_n 0, 1) := by decide +kernel
theorem dX7_aliveBy_50 : decode cX7_aliveBy 50 = .ok (.getfield 57, 3) := by decide +kernel
theorem dX7_aliveBy_53 : decode cX7_aliveBy 53 = .ok (.aload_n 0, 1) := by decide +kernel
theorem dX7_aliveBy_54 : decode cX7_aliveBy 54 = .ok (.getfield 43, 3) := by decide +kernel
theorem dX7_aliveBy_57 : decode cX7_aliveBy 57 = .ok (.getfield 266, 3) := by decide +kernel
theorem dX7_aliveBy_60 : decode cX7_aliveBy 60 = .ok (.iload 5, 2) := by decide +kernel
theorem dX7_aliveBy_62 : decode cX7_aliveBy 62 = .ok (.iaload, 1) := by decide +kernel
theorem dX7_aliveBy_63 : decode cX7_aliveBy 63 = .ok (.iload_n 2, 1) := by decide +kernel
theorem dX7_aliveBy_64 : decode cX7_aliveBy 64 = .ok (.invokevirtual 269, 3) := by decide +kernel
theorem dX7_aliveBy_67 : decode cX7_aliveBy 67 = .ok (.iload_n 1, 1) := by decide +kernel
theorem dX7_aliveBy_68 : decode cX7_aliveBy 68 = .ok (.if_icmp .ne 6, 3) := by decide +kernel
theorem dX7_aliveBy_71 : decode cX7_aliveBy 71 = .ok (.iinc 4 1, 3) := by decide +kernel
theorem dX7_aliveBy_74 : decode cX7_aliveBy 74 = .ok (.iinc 5 1, 3) := by decide +kernel
theorem dX7_aliveBy_77 : decode cX7_aliveBy 77 = .ok (.goto (-40), 3) := by decide +kernel
theorem dX7_aliveBy_80 : decode cX7_aliveBy 80 = .ok (.aload_n 0, 1) := by decide +kernel
theorem dX7_aliveBy_81 : decode cX7_aliveBy 81 = .ok (.iload 4, 2) := by decide +kernel
theorem dX7_aliveBy_83 : decode cX7_aliveBy 83 = .ok (.invokevirtual 113, 3) := by decide +kernel
theorem dX7_aliveBy_86 : decode cX7_aliveBy 86 = .ok (.ireturn, 1) := by decide +kernel
theorem dX7_look_0 : decode cX7_look 0 = .ok (.aload_n 0, 1) := by decide +kernel
theorem dX7_look_1 : decode cX7_look 1 = .ok (.invokevirtual 154, 3) := by decide +kernel
theorem dX7_look_4 : decode cX7_look 4 = .ok (.ifCond .ne 9, 3) := by decide +kernel
theorem dX7_look_7 : decode cX7_look 7 = .ok (.aload_n 0, 1) := by decide +kernel
theorem dX7_look_8 : decode cX7_look 8 = .ok (.iconst 1, 1) := by decide +kernel
theorem dX7_look_9 : decode cX7_look 9 = .ok (.invokevirtual 82, 3) := by decide +kernel
theorem dX7_look_12 : decode cX7_look 12 = .ok (.ireturn, 1) := by decide +kernel
theorem dX7_look_13 : decode cX7_look 13 = .ok (.aload_n 0, 1) := by decide +kernel
theorem dX7_look_14 : decode cX7_look 14 = .ok (.getfield 43, 3) := by decide +kernel
theorem dX7_look_17 : decode cX7_look 17 = .ok (.aload_n 0, 1) := by decide +kernel
theorem dX7_look_18 : decode cX7_look 18 = .ok (.getfield 57, 3) := by decide +kernel
theorem dX7_look_21 : decode cX7_look 21 = .ok (.invokevirtual 272, 3) := by decide +kernel
theorem dX7_look_24 : decode cX7_look 24 = .ok (.aload_n 0, 1) := by decide +kernel
theorem dX7_look_25 : decode cX7_look 25 = .ok (.aload_n 0, 1) := by decide +kernel
theorem dX7_look_26 : decode cX7_look 26 = .ok (.getfield 43, 3) := by decide +kernel
theorem dX7_look_29 : decode cX7_look 29 = .ok (.getfield 275, 3) := by decide +kernel
theorem dX7_look_32 : decode cX7_look 32 = .ok (.invokevirtual 113, 3) := by decide +kernel
theorem dX7_look_35 : decode cX7_look 35 = .ok (.ireturn, 1) := by decide +kernel
theorem dX7_lookLeaves_0 : decode cX7_lookLeaves 0 = .ok (.aload_n 0, 1) := by decide +kernel
theorem dX7_lookLeaves_1 : decode cX7_lookLeaves 1 = .ok (.invokevirtual 154, 3) := by decide +kernel
theorem dX7_lookLeaves_4 : decode cX7_lookLeaves 4 = .ok (.ifCond .ne 9, 3) := by decide +kernel
theorem dX7_lookLeaves_7 : decode cX7_lookLeaves 7 = .ok (.aload_n 0, 1) := by decide +kernel
theorem dX7_lookLeaves_8 : decode cX7_lookLeaves 8 = .ok (.iconst 1, 1) := by decide +kernel
theorem dX7_lookLeaves_9 : decode cX7_lookLeaves 9 = .ok (.invokevirtual 82, 3) := by decide +kernel
theorem dX7_lookLeaves_12 : decode cX7_lookLeaves 12 = .ok (.ireturn, 1) := by decide +kernel
theorem dX7_lookLeaves_13 : decode cX7_lookLeaves 13 = .ok (.aload_n 0, 1) := by decide +kernel
theorem dX7_lookLeaves_14 : decode cX7_lookLeaves 14 = .ok (.getfield 43, 3) := by decide +kernel
theorem dX7_lookLeaves_17 : decode cX7_lookLeaves 17 = .ok (.aload_n 0, 1) := by decide +kernel
theorem dX7_lookLeaves_18 : decode cX7_lookLeaves 18 = .ok (.getfield 57, 3) := by decide +kernel
theorem dX7_lookLeaves_21 : decode cX7_lookLeaves 21 = .ok (.invokevirtual 272, 3) := by decide +kernel
theorem dX7_lookLeaves_24 : decode cX7_lookLeaves 24 = .ok (.aload_n 0, 1) := by decide +kernel
theorem dX7_lookLeaves_25 : decode cX7_lookLeaves 25 = .ok (.aload_n 0, 1) := by decide +kernel
theorem dX7_lookLeaves_26 : decode cX7_lookLeaves 26 = .ok (.getfield 43, 3) := by decide +kernel
theorem dX7_lookLeaves_29 : decode cX7_lookLeaves 29 = .ok (.getfield 278, 3) := by decide +kernel
theorem dX7_lookLeaves_32 : decode cX7_lookLeaves 32 = .ok (.invokevirtual 113, 3) := by decide +kernel
theorem dX7_lookLeaves_35 : decode cX7_lookLeaves 35 = .ok (.ireturn, 1) := by decide +kernel
theorem dX7_lawsLike_0 : decode cX7_lawsLike 0 = .ok (.aload_n 0, 1) := by decide +kernel
theorem dX7_lawsLike_1 : decode cX7_lawsLike 1 = .ok (.invokevirtual 154, 3) := by decide +kernel
theorem dX7_lawsLike_4 : decode cX7_lawsLike 4 = .ok (.ifCond .ne 9, 3) := by decide +kernel
theorem dX7_lawsLike_7 : decode cX7_lawsLike 7 = .ok (.aload_n 0, 1) := by decide +kernel
theorem dX7_lawsLike_8 : decode cX7_lawsLike 8 = .ok (.iconst 1, 1) := by decide +kernel
theorem dX7_lawsLike_9 : decode cX7_lawsLike 9 = .ok (.invokevirtual 82, 3) := by decide +kernel
theorem dX7_lawsLike_12 : decode cX7_lawsLike 12 = .ok (.ireturn, 1) := by decide +kernel
theorem dX7_lawsLike_13 : decode cX7_lawsLike 13 = .ok (.iconst 0, 1) := by decide +kernel
theorem dX7_lawsLike_14 : decode cX7_lawsLike 14 = .ok (.istore_n 1, 1) := by decide +kernel
theorem dX7_lawsLike_15 : decode cX7_lawsLike 15 = .ok (.iconst 0, 1) := by decide +kernel
theorem dX7_lawsLike_16 : decode cX7_lawsLike 16 = .ok (.istore_n 2, 1) := by decide +kernel
theorem dX7_lawsLike_17 : decode cX7_lawsLike 17 = .ok (.iload_n 2, 1) := by decide +kernel
theorem dX7_lawsLike_18 : decode cX7_lawsLike 18 = .ok (.aload_n 0, 1) := by decide +kernel
theorem dX7_lawsLike_19 : decode cX7_lawsLike 19 = .ok (.getfield 57, 3) := by decide +kernel
theorem dX7_lawsLike_22 : decode cX7_lawsLike 22 = .ok (.getfield 110, 3) := by decide +kernel
theorem dX7_lawsLike_25 : decode cX7_lawsLike 25 = .ok (.if_icmp .ge 43, 3) := by decide +kernel
theorem dX7_lawsLike_28 : decode cX7_lawsLike 28 = .ok (.iconst 0, 1) := by decide +kernel
theorem dX7_lawsLike_29 : decode cX7_lawsLike 29 = .ok (.istore_n 3, 1) := by decide +kernel
theorem dX7_lawsLike_30 : decode cX7_lawsLike 30 = .ok (.iload_n 3, 1) := by decide +kernel
theorem dX7_lawsLike_31 : decode cX7_lawsLike 31 = .ok (.aload_n 0, 1) := by decide +kernel
theorem dX7_lawsLike_32 : decode cX7_lawsLike 32 = .ok (.getfield 57, 3) := by decide +kernel
theorem dX7_lawsLike_35 : decode cX7_lawsLike 35 = .ok (.getfield 110, 3) := by decide +kernel
theorem dX7_lawsLike_38 : decode cX7_lawsLike 38 = .ok (.if_icmp .ge 24, 3) := by decide +kernel
theorem dX7_lawsLike_41 : decode cX7_lawsLike 41 = .ok (.aload_n 0, 1) := by decide +kernel
theorem dX7_lawsLike_42 : decode cX7_lawsLike 42 = .ok (.getfield 57, 3) := by decide +kernel
theorem dX7_lawsLike_45 : decode cX7_lawsLike 45 = .ok (.iload_n 2, 1) := by decide +kernel
theorem dX7_lawsLike_46 : decode cX7_lawsLike 46 = .ok (.iload_n 3, 1) := by decide +kernel
theorem dX7_lawsLike_47 : decode cX7_lawsLike 47 = .ok (.invokevirtual 281, 3) := by decide +kernel
theorem dX7_lawsLike_50 : decode cX7_lawsLike 50 = .ok (.ifCond .eq 6, 3) := by decide +kernel
theorem dX7_lawsLike_53 : decode cX7_lawsLike 53 = .ok (.iinc 1 1, 3) := by decide +kernel
theorem dX7_lawsLike_56 : decode cX7_lawsLike 56 = .ok (.iinc 3 1, 3) := by decide +kernel
theorem dX7_lawsLike_59 : decode cX7_lawsLike 59 = .ok (.goto (-29), 3) := by decide +kernel
theorem dX7_lawsLike_62 : decode cX7_lawsLike 62 = .ok (.iinc 2 1, 3) := by decide +kernel
theorem dX7_lawsLike_65 : decode cX7_lawsLike 65 = .ok (.goto (-48), 3) := by decide +kernel
theorem dX7_lawsLike_68 : decode cX7_lawsLike 68 = .ok (.aload_n 0, 1) := by decide +kernel
theorem dX7_lawsLike_69 : decode cX7_lawsLike 69 = .ok (.iload_n 1, 1) := by decide +kernel
theorem dX7_lawsLike_70 : decode cX7_lawsLike 70 = .ok (.invokevirtual 113, 3) := by decide +kernel
theorem dX7_lawsLike_73 : decode cX7_lawsLike 73 = .ok (.ireturn, 1) := by decide +kernel
theorem dX7_lawFor_0 : decode cX7_lawFor 0 = .ok (.aload_n 0, 1) := by decide +kernel
theorem dX7_lawFor_1 : decode cX7_lawFor 1 = .ok (.iload_n 1, 1) := by decide +kernel
theorem dX7_lawFor_2 : decode cX7_lawFor 2 = .ok (.iload_n 2, 1) := by decide +kernel
theorem dX7_lawFor_3 : decode cX7_lawFor 3 = .ok (.bipush 99, 2) := by decide +kernel
theorem dX7_lawFor_5 : decode cX7_lawFor 5 = .ok (.invokevirtual 181, 3) := by decide +kernel
theorem dX7_lawFor_8 : decode cX7_lawFor 8 = .ok (.istore_n 3, 1) := by decide +kernel
theorem dX7_lawFor_9 : decode cX7_lawFor 9 = .ok (.iload_n 3, 1) := by decide +kernel
theorem dX7_lawFor_10 : decode cX7_lawFor 10 = .ok (.ifCond .eq 9, 3) := by decide +kernel
theorem dX7_lawFor_13 : decode cX7_lawFor 13 = .ok (.aload_n 0, 1) := by decide +kernel
theorem dX7_lawFor_14 : decode cX7_lawFor 14 = .ok (.iload_n 3, 1) := by decide +kernel
theorem dX7_lawFor_15 : decode cX7_lawFor 15 = .ok (.invokevirtual 82, 3) := by decide +kernel
theorem dX7_lawFor_18 : decode cX7_lawFor 18 = .ok (.ireturn, 1) := by decide +kernel
theorem dX7_lawFor_19 : decode cX7_lawFor 19 = .ok (.aload_n 0, 1) := by decide +kernel
theorem dX7_lawFor_20 : decode cX7_lawFor 20 = .ok (.iload_n 2, 1) := by decide +kernel
theorem dX7_lawFor_21 : decode cX7_lawFor 21 = .ok (.ifCond .ne 7, 3) := by decide +kernel
theorem dX7_lawFor_24 : decode cX7_lawFor 24 = .ok (.iload_n 1, 1) := by decide +kernel
theorem dX7_lawFor_25 : decode cX7_lawFor 25 = .ok (.goto 7, 3) := by decide +kernel
theorem dX7_lawFor_28 : decode cX7_lawFor 28 = .ok (.bipush 10, 2) := by decide +kernel
theorem dX7_lawFor_30 : decode cX7_lawFor 30 = .ok (.iload_n 1, 1) := by decide +kernel
theorem dX7_lawFor_31 : decode cX7_lawFor 31 = .ok (.imul, 1) := by decide +kernel
theorem dX7_lawFor_32 : decode cX7_lawFor 32 = .ok (.invokevirtual 113, 3) := by decide +kernel
theorem dX7_lawFor_35 : decode cX7_lawFor 35 = .ok (.ireturn, 1) := by decide +kernel
theorem dX7_judge_0 : decode cX7_judge 0 = .ok (.aload_n 0, 1) := by decide +kernel
theorem dX7_judge_1 : decode cX7_judge 1 = .ok (.invokevirtual 154, 3) := by decide +kernel
theorem dX7_judge_4 : decode cX7_judge 4 = .ok (.ifCond .ne 9, 3) := by decide +kernel
theorem dX7_judge_7 : decode cX7_judge 7 = .ok (.aload_n 0, 1) := by decide +kernel
theorem dX7_judge_8 : decode cX7_judge 8 = .ok (.iconst 1, 1) := by decide +kernel
theorem dX7_judge_9 : decode cX7_judge 9 = .ok (.invokevirtual 82, 3) := by decide +kernel
theorem dX7_judge_12 : decode cX7_judge 12 = .ok (.ireturn, 1) := by decide +kernel
theorem dX7_judge_13 : decode cX7_judge 13 = .ok (.bipush 100, 2) := by decide +kernel
theorem dX7_judge_15 : decode cX7_judge 15 = .ok (.aload_n 0, 1) := by decide +kernel
theorem dX7_judge_16 : decode cX7_judge 16 = .ok (.getfield 57, 3) := by decide +kernel
theorem dX7_judge_19 : decode cX7_judge 19 = .ok (.getfield 284, 3) := by decide +kernel
theorem dX7_judge_22 : decode cX7_judge 22 = .ok (.imul, 1) := by decide +kernel
theorem dX7_judge_23 : decode cX7_judge 23 = .ok (.bipush 10, 2) := by decide +kernel
theorem dX7_judge_25 : decode cX7_judge 25 = .ok (.aload_n 0, 1) := by decide +kernel
theorem dX7_judge_26 : decode cX7_judge 26 = .ok (.getfield 57, 3) := by decide +kernel
theorem dX7_judge_29 : decode cX7_judge 29 = .ok (.getfield 287, 3) := by decide +kernel
theorem dX7_judge_32 : decode cX7_judge 32 = .ok (.imul, 1) := by decide +kernel
theorem dX7_judge_33 : decode cX7_judge 33 = .ok (.iadd, 1) := by decide +kernel
theorem dX7_judge_34 : decode cX7_judge 34 = .ok (.aload_n 0, 1) := by decide +kernel
theorem dX7_judge_35 : decode cX7_judge 35 = .ok (.getfield 57, 3) := by decide +kernel
theorem dX7_judge_38 : decode cX7_judge 38 = .ok (.getfield 98, 3) := by decide +kernel
theorem dX7_judge_41 : decode cX7_judge 41 = .ok (.iadd, 1) := by decide +kernel
theorem dX7_judge_42 : decode cX7_judge 42 = .ok (.istore_n 1, 1) := by decide +kernel
theorem dX7_judge_43 : decode cX7_judge 43 = .ok (.iconst 0, 1) := by decide +kernel
theorem dX7_judge_44 : decode cX7_judge 44 = .ok (.istore_n 2, 1) := by decide +kernel
theorem dX7_judge_45 : decode cX7_judge 45 = .ok (.iload_n 2, 1) := by decide +kernel
theorem dX7_judge_46 : decode cX7_judge 46 = .ok (.aload_n 0, 1) := by decide +kernel
theorem dX7_judge_47 : decode cX7_judge 47 = .ok (.getfield 57, 3) := by decide +kernel
theorem dX7_judge_50 : decode cX7_judge 50 = .ok (.getfield 290, 3) := by decide +kernel
theorem dX7_judge_53 : decode cX7_judge 53 = .ok (.if_icmp .ge 44, 3) := by decide +kernel
theorem dX7_judge_56 : decode cX7_judge 56 = .ok (.aload_n 0, 1) := by decide +kernel
theorem dX7_judge_57 : decode cX7_judge 57 = .ok (.getfield 57, 3) := by decide +kernel
theorem dX7_judge_60 : decode cX7_judge 60 = .ok (.iload_n 1, 1) := by decide +kernel
theorem dX7_judge_61 : decode cX7_judge 61 = .ok (.aload_n 0, 1) := by decide +kernel
theorem dX7_judge_62 : decode cX7_judge 62 = .ok (.getfield 57, 3) := by decide +kernel
theorem dX7_judge_65 : decode cX7_judge 65 = .ok (.getfield 293, 3) := by decide +kernel
theorem dX7_judge_68 : decode cX7_judge 68 = .ok (.iload_n 2, 1) := by decide +kernel
theorem dX7_judge_69 : decode cX7_judge 69 = .ok (.iaload, 1) := by decide +kernel
theorem dX7_judge_70 : decode cX7_judge 70 = .ok (.invokevirtual 269, 3) := by decide +kernel
theorem dX7_judge_73 : decode cX7_judge 73 = .ok (.aload_n 0, 1) := by decide +kernel
theorem dX7_judge_74 : decode cX7_judge 74 = .ok (.getfield 57, 3) := by decide +kernel
theorem dX7_judge_77 : decode cX7_judge 77 = .ok (.getfield 296, 3) := by decide +kernel
theorem dX7_judge_80 : decode cX7_judge 80 = .ok (.iload_n 2, 1) := by decide +kernel
theorem dX7_judge_81 : decode cX7_judge 81 = .ok (.iaload, 1) := by decide +kernel
theorem dX7_judge_82 : decode cX7_judge 82 = .ok (.if_icmp .eq 9, 3) := by decide +kernel
theorem dX7_judge_85 : decode cX7_judge 85 = .ok (.aload_n 0, 1) := by decide +kernel
theorem dX7_judge_86 : decode cX7_judge 86 = .ok (.iload_n 2, 1) := by decide +kernel
theorem dX7_judge_87 : decode cX7_judge 87 = .ok (.invokevirtual 113, 3) := by decide +kernel
theorem dX7_judge_90 : decode cX7_judge 90 = .ok (.ireturn, 1) := by decide +kernel
theorem dX7_judge_91 : decode cX7_judge 91 = .ok (.iinc 2 1, 3) := by decide +kernel
theorem dX7_judge_94 : decode cX7_judge 94 = .ok (.goto (-49), 3) := by decide +kernel
theorem dX7_judge_97 : decode cX7_judge 97 = .ok (.aload_n 0, 1) := by decide +kernel
theorem dX7_judge_98 : decode cX7_judge 98 = .ok (.bipush (-2), 2) := by decide +kernel
theorem dX7_judge_100 : decode cX7_judge 100 = .ok (.invokevirtual 113, 3) := by decide +kernel
theorem dX7_judge_103 : decode cX7_judge 103 = .ok (.ireturn, 1) := by decide +kernel
theorem dX7_dares_0 : decode cX7_dares 0 = .ok (.aload_n 0, 1) := by decide +kernel
theorem dX7_dares_1 : decode cX7_dares 1 = .ok (.iload_n 1, 1) := by decide +kernel
theorem dX7_dares_2 : decode cX7_dares 2 = .ok (.iconst 0, 1) := by decide +kernel
theorem dX7_dares_3 : decode cX7_dares 3 = .ok (.bipush 9, 2) := by decide +kernel
theorem dX7_dares_5 : decode cX7_dares 5 = .ok (.invokevirtual 188, 3) := by decide +kernel
theorem dX7_dares_8 : decode cX7_dares 8 = .ok (.istore 5, 2) := by decide +kernel
theorem dX7_dares_10 : decode cX7_dares 10 = .ok (.iload 5, 2) := by decide +kernel
theorem dX7_dares_12 : decode cX7_dares 12 = .ok (.ifCond .eq 12, 3) := by decide +kernel
theorem dX7_dares_15 : decode cX7_dares 15 = .ok (.aload_n 0, 1) := by decide +kernel
theorem dX7_dares_16 : decode cX7_dares 16 = .ok (.iload 5, 2) := by decide +kernel
theorem dX7_dares_18 : decode cX7_dares 18 = .ok (.putfield 61, 3) := by decide +kernel
theorem dX7_dares_21 : decode cX7_dares 21 = .ok (.bipush (-100), 2) := by decide +kernel
theorem dX7_dares_23 : decode cX7_dares 23 = .ok (.ireturn, 1) := by decide +kernel
theorem dX7_dares_24 : decode cX7_dares 24 = .ok (.aload_n 0, 1) := by decide +kernel
theorem dX7_dares_25 : decode cX7_dares 25 = .ok (.iload 4, 2) := by decide +kernel
theorem dX7_dares_27 : decode cX7_dares 27 = .ok (.ifCond .eq 11, 3) := by decide +kernel
theorem dX7_dares_30 : decode cX7_dares 30 = .ok (.iload_n 2, 1) := by decide +kernel
theorem dX7_dares_31 : decode cX7_dares 31 = .ok (.iload_n 3, 1) := by decide +kernel
theorem dX7_dares_32 : decode cX7_dares 32 = .ok (.invokestatic 299, 3) := by decide +kernel
theorem dX7_dares_35 : decode cX7_dares 35 = .ok (.goto 9, 3) := by decide +kernel
theorem dX7_dares_38 : decode cX7_dares 38 = .ok (.iload_n 1, 1) := by decide +kernel
theorem dX7_dares_39 : decode cX7_dares 39 = .ok (.iload_n 2, 1) := by decide +kernel
theorem dX7_dares_40 : decode cX7_dares 40 = .ok (.iload_n 3, 1) := by decide +kernel
theorem dX7_dares_41 : decode cX7_dares 41 = .ok (.invokestatic 303, 3) := by decide +kernel
theorem dX7_dares_44 : decode cX7_dares 44 = .ok (.invokevirtual 113, 3) := by decide +kernel
theorem dX7_dares_47 : decode cX7_dares 47 = .ok (.ireturn, 1) := by decide +kernel
theorem dX7_rests_0 : decode cX7_rests 0 = .ok (.aload_n 0, 1) := by decide +kernel
theorem dX7_rests_1 : decode cX7_rests 1 = .ok (.iload_n 1, 1) := by decide +kernel
theorem dX7_rests_2 : decode cX7_rests 2 = .ok (.iconst 0, 1) := by decide +kernel
theorem dX7_rests_3 : decode cX7_rests 3 = .ok (.bipush 9, 2) := by decide +kernel
theorem dX7_rests_5 : decode cX7_rests 5 = .ok (.invokevirtual 188, 3) := by decide +kernel
theorem dX7_rests_8 : decode cX7_rests 8 = .ok (.istore_n 2, 1) := by decide +kernel
theorem dX7_rests_9 : decode cX7_rests 9 = .ok (.iload_n 2, 1) := by decide +kernel
theorem dX7_rests_10 : decode cX7_rests 10 = .ok (.ifCond .eq 9, 3) := by decide +kernel
theorem dX7_rests_13 : decode cX7_rests 13 = .ok (.aload_n 0, 1) := by decide +kernel
theorem dX7_rests_14 : decode cX7_rests 14 = .ok (.iload_n 2, 1) := by decide +kernel
theorem dX7_rests_15 : decode cX7_rests 15 = .ok (.invokevirtual 82, 3) := by decide +kernel
theorem dX7_rests_18 : decode cX7_rests 18 = .ok (.ireturn, 1) := by decide +kernel
theorem dX7_rests_19 : decode cX7_rests 19 = .ok (.iconst 0, 1) := by decide +kernel
theorem dX7_rests_20 : decode cX7_rests 20 = .ok (.istore_n 3, 1) := by decide +kernel
theorem dX7_rests_21 : decode cX7_rests 21 = .ok (.iconst 0, 1) := by decide +kernel
theorem dX7_rests_22 : decode cX7_rests 22 = .ok (.istore 4, 2) := by decide +kernel
theorem dX7_rests_24 : decode cX7_rests 24 = .ok (.iload 4, 2) := by decide +kernel
theorem dX7_rests_26 : decode cX7_rests 26 = .ok (.iconst 4, 1) := by decide +kernel
theorem dX7_rests_27 : decode cX7_rests 27 = .ok (.if_icmp .ge 43, 3) := by decide +kernel
theorem dX7_rests_30 : decode cX7_rests 30 = .ok (.iload_n 1, 1) := by decide +kernel
theorem dX7_rests_31 : decode cX7_rests 31 = .ok (.iload 4, 2) := by decide +kernel
theorem dX7_rests_33 : decode cX7_rests 33 = .ok (.iconst 2, 1) := by decide +kernel
theorem dX7_rests_34 : decode cX7_rests 34 = .ok (.if_icmp .lt 7, 3) := by decide +kernel
theorem dX7_rests_37 : decode cX7_rests 37 = .ok (.iconst 1, 1) := by decide +kernel
theorem dX7_rests_38 : decode cX7_rests 38 = .ok (.goto 4, 3) := by decide +kernel
theorem dX7_rests_41 : decode cX7_rests 41 = .ok (.iconst 0, 1) := by decide +kernel
theorem dX7_rests_42 : decode cX7_rests 42 = .ok (.iload 4, 2) := by decide +kernel
theorem dX7_rests_44 : decode cX7_rests 44 = .ok (.iconst 2, 1) := by decide +kernel
theorem dX7_rests_45 : decode cX7_rests 45 = .ok (.irem, 1) := by decide +kernel
theorem dX7_rests_46 : decode cX7_rests 46 = .ok (.iconst 1, 1) := by decide +kernel
theorem dX7_rests_47 : decode cX7_rests 47 = .ok (.if_icmp .ne 7, 3) := by decide +kernel
theorem dX7_rests_50 : decode cX7_rests 50 = .ok (.iconst 1, 1) := by decide +kernel
theorem dX7_rests_51 : decode cX7_rests 51 = .ok (.goto 4, 3) := by decide +kernel
theorem dX7_rests_54 : decode cX7_rests 54 = .ok (.iconst 0, 1) := by decide +kernel
theorem dX7_rests_55 : decode cX7_rests 55 = .ok (.invokestatic 307, 3) := by decide +kernel
theorem dX7_rests_58 : decode cX7_rests 58 = .ok (.ifCond .eq 6, 3) := by decide +kernel
theorem dX7_rests_61 : decode cX7_rests 61 = .ok (.iinc 3 1, 3) := by decide +kernel
theorem dX7_rests_64 : decode cX7_rests 64 = .ok (.iinc 4 1, 3) := by decide +kernel
theorem dX7_rests_67 : decode cX7_rests 67 = .ok (.goto (-43), 3) := by decide +kernel
theorem dX7_rests_70 : decode cX7_rests 70 = .ok (.aload_n 0, 1) := by decide +kernel
theorem dX7_rests_71 : decode cX7_rests 71 = .ok (.iload_n 3, 1) := by decide +kernel
theorem dX7_rests_72 : decode cX7_rests 72 = .ok (.invokevirtual 113, 3) := by decide +kernel
theorem dX7_rests_75 : decode cX7_rests 75 = .ok (.ireturn, 1) := by decide +kernel
theorem dX7_rest_0 : decode cX7_rest 0 = .ok (.aload_n 0, 1) := by decide +kernel
theorem dX7_rest_1 : decode cX7_rest 1 = .ok (.iload_n 1, 1) := by decide +kernel
theorem dX7_rest_2 : decode cX7_rest 2 = .ok (.iconst 0, 1) := by decide +kernel
theorem dX7_rest_3 : decode cX7_rest 3 = .ok (.bipush 9, 2) := by decide +kernel
theorem dX7_rest_5 : decode cX7_rest 5 = .ok (.invokevirtual 188, 3) := by decide +kernel
theorem dX7_rest_8 : decode cX7_rest 8 = .ok (.istore_n 2, 1) := by decide +kernel
theorem dX7_rest_9 : decode cX7_rest 9 = .ok (.iload_n 2, 1) := by decide +kernel
theorem dX7_rest_10 : decode cX7_rest 10 = .ok (.ifCond .eq 9, 3) := by decide +kernel
theorem dX7_rest_13 : decode cX7_rest 13 = .ok (.aload_n 0, 1) := by decide +kernel
theorem dX7_rest_14 : decode cX7_rest 14 = .ok (.iload_n 2, 1) := by decide +kernel
theorem dX7_rest_15 : decode cX7_rest 15 = .ok (.invokevirtual 82, 3) := by decide +kernel
theorem dX7_rest_18 : decode cX7_rest 18 = .ok (.ireturn, 1) := by decide +kernel
theorem dX7_rest_19 : decode cX7_rest 19 = .ok (.iconst 0, 1) := by decide +kernel
theorem dX7_rest_20 : decode cX7_rest 20 = .ok (.istore_n 3, 1) := by decide +kernel
theorem dX7_rest_21 : decode cX7_rest 21 = .ok (.iload_n 3, 1) := by decide +kernel
theorem dX7_rest_22 : decode cX7_rest 22 = .ok (.iconst 4, 1) := by decide +kernel
theorem dX7_rest_23 : decode cX7_rest 23 = .ok (.if_icmp .ge 53, 3) := by decide +kernel
theorem dX7_rest_26 : decode cX7_rest 26 = .ok (.iload_n 1, 1) := by decide +kernel
theorem dX7_rest_27 : decode cX7_rest 27 = .ok (.iload_n 3, 1) := by decide +kernel
theorem dX7_rest_28 : decode cX7_rest 28 = .ok (.iconst 2, 1) := by decide +kernel
theorem dX7_rest_29 : decode cX7_rest 29 = .ok (.if_icmp .lt 7, 3) := by decide +kernel
theorem dX7_rest_32 : decode cX7_rest 32 = .ok (.iconst 1, 1) := by decide +kernel
theorem dX7_rest_33 : decode cX7_rest 33 = .ok (.goto 4, 3) := by decide +kernel
theorem dX7_rest_36 : decode cX7_rest 36 = .ok (.iconst 0, 1) := by decide +kernel
theorem dX7_rest_37 : decode cX7_rest 37 = .ok (.iload_n 3, 1) := by decide +kernel
theorem dX7_rest_38 : decode cX7_rest 38 = .ok (.iconst 2, 1) := by decide +kernel
theorem dX7_rest_39 : decode cX7_rest 39 = .ok (.irem, 1) := by decide +kernel
theorem dX7_rest_40 : decode cX7_rest 40 = .ok (.iconst 1, 1) := by decide +kernel
theorem dX7_rest_41 : decode cX7_rest 41 = .ok (.if_icmp .ne 7, 3) := by decide +kernel
theorem dX7_rest_44 : decode cX7_rest 44 = .ok (.iconst 1, 1) := by decide +kernel
theorem dX7_rest_45 : decode cX7_rest 45 = .ok (.goto 4, 3) := by decide +kernel
theorem dX7_rest_48 : decode cX7_rest 48 = .ok (.iconst 0, 1) := by decide +kernel
theorem dX7_rest_49 : decode cX7_rest 49 = .ok (.invokestatic 307, 3) := by decide +kernel
theorem dX7_rest_52 : decode cX7_rest 52 = .ok (.ifCond .eq 18, 3) := by decide +kernel
theorem dX7_rest_55 : decode cX7_rest 55 = .ok (.aload_n 0, 1) := by decide +kernel
theorem dX7_rest_56 : decode cX7_rest 56 = .ok (.bipush 10, 2) := by decide +kernel
theorem dX7_rest_58 : decode cX7_rest 58 = .ok (.iload_n 3, 1) := by decide +kernel
theorem dX7_rest_59 : decode cX7_rest 59 = .ok (.iconst 2, 1) := by decide +kernel
theorem dX7_rest_60 : decode cX7_rest 60 = .ok (.idiv, 1) := by decide +kernel
theorem dX7_rest_61 : decode cX7_rest 61 = .ok (.imul, 1) := by decide +kernel
theorem dX7_rest_62 : decode cX7_rest 62 = .ok (.iload_n 3, 1) := by decide +kernel
theorem dX7_rest_63 : decode cX7_rest 63 = .ok (.iconst 2, 1) := by decide +kernel
theorem dX7_rest_64 : decode cX7_rest 64 = .ok (.irem, 1) := by decide +kernel
theorem dX7_rest_65 : decode cX7_rest 65 = .ok (.iadd, 1) := by decide +kernel
theorem dX7_rest_66 : decode cX7_rest 66 = .ok (.invokevirtual 113, 3) := by decide +kernel
theorem dX7_rest_69 : decode cX7_rest 69 = .ok (.ireturn, 1) := by decide +kernel
theorem dX7_rest_70 : decode cX7_rest 70 = .ok (.iinc 3 1, 3) := by decide +kernel
theorem dX7_rest_73 : decode cX7_rest 73 = .ok (.goto (-52), 3) := by decide +kernel
theorem dX7_rest_76 : decode cX7_rest 76 = .ok (.aload_n 0, 1) := by decide +kernel
theorem dX7_rest_77 : decode cX7_rest 77 = .ok (.bipush (-2), 2) := by decide +kernel
theorem dX7_rest_79 : decode cX7_rest 79 = .ok (.invokevirtual 113, 3) := by decide +kernel
theorem dX7_rest_82 : decode cX7_rest 82 = .ok (.ireturn, 1) := by decide +kernel
theorem dX7_odds_0 : decode cX7_odds 0 = .ok (.aload_n 0, 1) := by decide +kernel
theorem dX7_odds_1 : decode cX7_odds 1 = .ok (.iload_n 1, 1) := by decide +kernel
theorem dX7_odds_2 : decode cX7_odds 2 = .ok (.iload_n 2, 1) := by decide +kernel
theorem dX7_odds_3 : decode cX7_odds 3 = .ok (.bipush 8, 2) := by decide +kernel
theorem dX7_odds_5 : decode cX7_odds 5 = .ok (.invokevirtual 181, 3) := by decide +kernel
theorem dX7_odds_8 : decode cX7_odds 8 = .ok (.istore 4, 2) := by decide +kernel
theorem dX7_odds_10 : decode cX7_odds 10 = .ok (.iload 4, 2) := by decide +kernel
theorem dX7_odds_12 : decode cX7_odds 12 = .ok (.ifCond .eq 11, 3) := by decide +kernel
theorem dX7_odds_15 : decode cX7_odds 15 = .ok (.aload_n 0, 1) := by decide +kernel
theorem dX7_odds_16 : decode cX7_odds 16 = .ok (.iload 4, 2) := by decide +kernel
theorem dX7_odds_18 : decode cX7_odds 18 = .ok (.invokevirtual 82, 3) := by decide +kernel
theorem dX7_odds_21 : decode cX7_odds 21 = .ok (.i2l, 1) := by decide +kernel
theorem dX7_odds_22 : decode cX7_odds 22 = .ok (.lreturn, 1) := by decide +kernel
theorem dX7_odds_23 : decode cX7_odds 23 = .ok (.lconst 1, 1) := by decide +kernel
theorem dX7_odds_24 : decode cX7_odds 24 = .ok (.lstore 5, 2) := by decide +kernel
theorem dX7_odds_26 : decode cX7_odds 26 = .ok (.lconst 1, 1) := by decide +kernel
theorem dX7_odds_27 : decode cX7_odds 27 = .ok (.lstore 7, 2) := by decide +kernel
theorem dX7_odds_29 : decode cX7_odds 29 = .ok (.aload_n 0, 1) := by decide +kernel
theorem dX7_odds_30 : decode cX7_odds 30 = .ok (.iload_n 1, 1) := by decide +kernel
theorem dX7_odds_31 : decode cX7_odds 31 = .ok (.iload_n 2, 1) := by decide +kernel
theorem dX7_odds_32 : decode cX7_odds 32 = .ok (.invokevirtual 311, 3) := by decide +kernel
theorem dX7_odds_35 : decode cX7_odds 35 = .ok (.istore 9, 2) := by decide +kernel
theorem dX7_odds_37 : decode cX7_odds 37 = .ok (.iconst 0, 1) := by decide +kernel
theorem dX7_odds_38 : decode cX7_odds 38 = .ok (.istore 10, 2) := by decide +kernel
theorem dX7_odds_40 : decode cX7_odds 40 = .ok (.iload 10, 2) := by decide +kernel
theorem dX7_odds_42 : decode cX7_odds 42 = .ok (.iload 9, 2) := by decide +kernel
theorem dX7_odds_44 : decode cX7_odds 44 = .ok (.if_icmp .ge 30, 3) := by decide +kernel
theorem dX7_odds_47 : decode cX7_odds 47 = .ok (.lload 5, 2) := by decide +kernel
theorem dX7_odds_49 : decode cX7_odds 49 = .ok (.ldc2_w 314, 3) := by decide +kernel
theorem dX7_odds_52 : decode cX7_odds 52 = .ok (.lmul, 1) := by decide +kernel
theorem dX7_odds_53 : decode cX7_odds 53 = .ok (.lstore 5, 2) := by decide +kernel
theorem dX7_odds_55 : decode cX7_odds 55 = .ok (.lload 7, 2) := by decide +kernel
theorem dX7_odds_57 : decode cX7_odds 57 = .ok (.aload_n 0, 1) := by decide +kernel
theorem dX7_odds_58 : decode cX7_odds 58 = .ok (.getfield 57, 3) := by decide +kernel
theorem dX7_odds_61 : decode cX7_odds 61 = .ok (.getfield 316, 3) := by decide +kernel
theorem dX7_odds_64 : decode cX7_odds 64 = .ok (.i2l, 1) := by decide +kernel
theorem dX7_odds_65 : decode cX7_odds 65 = .ok (.lmul, 1) := by decide +kernel
theorem dX7_odds_66 : decode cX7_odds 66 = .ok (.lstore 7, 2) := by decide +kernel
theorem dX7_odds_68 : decode cX7_odds 68 = .ok (.iinc 10 1, 3) := by decide +kernel
theorem dX7_odds_71 : decode cX7_odds 71 = .ok (.goto (-31), 3) := by decide +kernel
theorem dX7_odds_74 : decode cX7_odds 74 = .ok (.aload_n 0, 1) := by decide +kernel
theorem dX7_odds_75 : decode cX7_odds 75 = .ok (.iconst 0, 1) := by decide +kernel
theorem dX7_odds_76 : decode cX7_odds 76 = .ok (.putfield 61, 3) := by decide +kernel
theorem dX7_odds_79 : decode cX7_odds 79 = .ok (.lload 5, 2) := by decide +kernel
theorem dX7_odds_81 : decode cX7_odds 81 = .ok (.lload 7, 2) := by decide +kernel
theorem dX7_odds_83 : decode cX7_odds 83 = .ok (.lsub, 1) := by decide +kernel
theorem dX7_odds_84 : decode cX7_odds 84 = .ok (.lload 5, 2) := by decide +kernel
theorem dX7_odds_86 : decode cX7_odds 86 = .ok (.iload_n 3, 1) := by decide +kernel
theorem dX7_odds_87 : decode cX7_odds 87 = .ok (.invokestatic 319, 3) := by decide +kernel
theorem dX7_odds_90 : decode cX7_odds 90 = .ok (.lreturn, 1) := by decide +kernel
theorem dX7_mean_0 : decode cX7_mean 0 = .ok (.aload_n 0, 1) := by decide +kernel
theorem dX7_mean_1 : decode cX7_mean 1 = .ok (.iload_n 1, 1) := by decide +kernel
theorem dX7_mean_2 : decode cX7_mean 2 = .ok (.iload_n 2, 1) := by decide +kernel
theorem dX7_mean_3 : decode cX7_mean 3 = .ok (.bipush 8, 2) := by decide +kernel
theorem dX7_mean_5 : decode cX7_mean 5 = .ok (.invokevirtual 181, 3) := by decide +kernel
theorem dX7_mean_8 : decode cX7_mean 8 = .ok (.istore 4, 2) := by decide +kernel
theorem dX7_mean_10 : decode cX7_mean 10 = .ok (.iload 4, 2) := by decide +kernel
theorem dX7_mean_12 : decode cX7_mean 12 = .ok (.ifCond .eq 11, 3) := by decide +kernel
theorem dX7_mean_15 : decode cX7_mean 15 = .ok (.aload_n 0, 1) := by decide +kernel
theorem dX7_mean_16 : decode cX7_mean 16 = .ok (.iload 4, 2) := by decide +kernel
theorem dX7_mean_18 : decode cX7_mean 18 = .ok (.invokevirtual 82, 3) := by decide +kernel
theorem dX7_mean_21 : decode cX7_mean 21 = .ok (.i2l, 1) := by decide +kernel
theorem dX7_mean_22 : decode cX7_mean 22 = .ok (.lreturn, 1) := by decide +kernel
theorem dX7_mean_23 : decode cX7_mean 23 = .ok (.aload_n 0, 1) := by decide +kernel
theorem dX7_mean_24 : decode cX7_mean 24 = .ok (.iconst 0, 1) := by decide +kernel
theorem dX7_mean_25 : decode cX7_mean 25 = .ok (.putfield 61, 3) := by decide +kernel
theorem dX7_mean_28 : decode cX7_mean 28 = .ok (.aload_n 0, 1) := by decide +kernel
theorem dX7_mean_29 : decode cX7_mean 29 = .ok (.iload_n 1, 1) := by decide +kernel
theorem dX7_mean_30 : decode cX7_mean 30 = .ok (.iload_n 2, 1) := by decide +kernel
theorem dX7_mean_31 : decode cX7_mean 31 = .ok (.invokevirtual 311, 3) := by decide +kernel
theorem dX7_mean_34 : decode cX7_mean 34 = .ok (.i2l, 1) := by decide +kernel
theorem dX7_mean_35 : decode cX7_mean 35 = .ok (.bipush 100, 2) := by decide +kernel
theorem dX7_mean_37 : decode cX7_mean 37 = .ok (.aload_n 0, 1) := by decide +kernel
theorem dX7_mean_38 : decode cX7_mean 38 = .ok (.getfield 57, 3) := by decide +kernel
theorem dX7_mean_41 : decode cX7_mean 41 = .ok (.getfield 316, 3) := by decide +kernel
theorem dX7_mean_44 : decode cX7_mean 44 = .ok (.isub, 1) := by decide +kernel
theorem dX7_mean_45 : decode cX7_mean 45 = .ok (.i2l, 1) := by decide +kernel
theorem dX7_mean_46 : decode cX7_mean 46 = .ok (.lmul, 1) := by decide +kernel
theorem dX7_mean_47 : decode cX7_mean 47 = .ok (.ldc2_w 314, 3) := by decide +kernel
theorem dX7_mean_50 : decode cX7_mean 50 = .ok (.iload_n 3, 1) := by decide +kernel
theorem dX7_mean_51 : decode cX7_mean 51 = .ok (.invokestatic 319, 3) := by decide +kernel
theorem dX7_mean_54 : decode cX7_mean 54 = .ok (.lreturn, 1) := by decide +kernel
theorem dX7_drawn_0 : decode cX7_drawn 0 = .ok (.aload_n 0, 1) := by decide +kernel
theorem dX7_drawn_1 : decode cX7_drawn 1 = .ok (.iload_n 1, 1) := by decide +kernel
theorem dX7_drawn_2 : decode cX7_drawn 2 = .ok (.invokevirtual 116, 3) := by decide +kernel
theorem dX7_drawn_5 : decode cX7_drawn 5 = .ok (.ifCond .ne 9, 3) := by decide +kernel
theorem dX7_drawn_8 : decode cX7_drawn 8 = .ok (.aload_n 0, 1) := by decide +kernel
theorem dX7_drawn_9 : decode cX7_drawn 9 = .ok (.iconst 1, 1) := by decide +kernel
theorem dX7_drawn_10 : decode cX7_drawn 10 = .ok (.invokevirtual 82, 3) := by decide +kernel
theorem dX7_drawn_13 : decode cX7_drawn 13 = .ok (.ireturn, 1) := by decide +kernel
theorem dX7_drawn_14 : decode cX7_drawn 14 = .ok (.iload_n 2, 1) := by decide +kernel
theorem dX7_drawn_15 : decode cX7_drawn 15 = .ok (.iconst 0, 1) := by decide +kernel
theorem dX7_drawn_16 : decode cX7_drawn 16 = .ok (.ldc_w 323, 3) := by decide +kernel
theorem dX7_drawn_19 : decode cX7_drawn 19 = .ok (.invokestatic 78, 3) := by decide +kernel
theorem dX7_drawn_22 : decode cX7_drawn 22 = .ok (.ifCond .eq 14, 3) := by decide +kernel
theorem dX7_drawn_25 : decode cX7_drawn 25 = .ok (.iload_n 3, 1) := by decide +kernel
theorem dX7_drawn_26 : decode cX7_drawn 26 = .ok (.iconst 0, 1) := by decide +kernel
theorem dX7_drawn_27 : decode cX7_drawn 27 = .ok (.sipush 200, 3) := by decide +kernel
theorem dX7_drawn_30 : decode cX7_drawn 30 = .ok (.invokestatic 78, 3) := by decide +kernel
theorem dX7_drawn_33 : decode cX7_drawn 33 = .ok (.ifCond .ne 9, 3) := by decide +kernel
theorem dX7_drawn_36 : decode cX7_drawn 36 = .ok (.aload_n 0, 1) := by decide +kernel
theorem dX7_drawn_37 : decode cX7_drawn 37 = .ok (.iconst 2, 1) := by decide +kernel
theorem dX7_drawn_38 : decode cX7_drawn 38 = .ok (.invokevirtual 82, 3) := by decide +kernel
theorem dX7_drawn_41 : decode cX7_drawn 41 = .ok (.ireturn, 1) := by decide +kernel
theorem dX7_drawn_42 : decode cX7_drawn 42 = .ok (.iconst 0, 1) := by decide +kernel
theorem dX7_drawn_43 : decode cX7_drawn 43 = .ok (.istore 4, 2) := by decide +kernel
theorem dX7_drawn_45 : decode cX7_drawn 45 = .ok (.iload_n 2, 1) := by decide +kernel
theorem dX7_drawn_46 : decode cX7_drawn 46 = .ok (.istore 5, 2) := by decide +kernel
theorem dX7_drawn_48 : decode cX7_drawn 48 = .ok (.aload_n 0, 1) := by decide +kernel
theorem dX7_drawn_49 : decode cX7_drawn 49 = .ok (.getfield 19, 3) := by decide +kernel
theorem dX7_drawn_52 : decode cX7_drawn 52 = .ok (.getfield 158, 3) := by decide +kernel
theorem dX7_drawn_55 : decode cX7_drawn 55 = .ok (.istore 6, 2) := by decide +kernel
theorem dX7_drawn_57 : decode cX7_drawn 57 = .ok (.iconst 1, 1) := by decide +kernel
theorem dX7_drawn_58 : decode cX7_drawn 58 = .ok (.istore 7, 2) := by decide +kernel
theorem dX7_drawn_60 : decode cX7_drawn 60 = .ok (.iload 7, 2) := by decide +kernel
theorem dX7_drawn_62 : decode cX7_drawn 62 = .ok (.iload_n 3, 1) := by decide +kernel
theorem dX7_drawn_63 : decode cX7_drawn 63 = .ok (.if_icmp .gt 45, 3) := by decide +kernel
theorem dX7_drawn_66 : decode cX7_drawn 66 = .ok (.iload 5, 2) := by decide +kernel
theorem dX7_drawn_68 : decode cX7_drawn 68 = .ok (.invokestatic 324, 3) := by decide +kernel
theorem dX7_drawn_71 : decode cX7_drawn 71 = .ok (.istore 5, 2) := by decide +kernel
theorem dX7_drawn_73 : decode cX7_drawn 73 = .ok (.aload_n 0, 1) := by decide +kernel
theorem dX7_drawn_74 : decode cX7_drawn 74 = .ok (.getfield 57, 3) := by decide +kernel
theorem dX7_drawn_77 : decode cX7_drawn 77 = .ok (.iload 6, 2) := by decide +kernel
theorem dX7_drawn_79 : decode cX7_drawn 79 = .ok (.invokevirtual 174, 3) := by decide +kernel
theorem dX7_drawn_82 : decode cX7_drawn 82 = .ok (.istore 6, 2) := by decide +kernel
theorem dX7_drawn_84 : decode cX7_drawn 84 = .ok (.iload 6, 2) := by decide +kernel
theorem dX7_drawn_86 : decode cX7_drawn 86 = .ok (.iload_n 1, 1) := by decide +kernel
theorem dX7_drawn_87 : decode cX7_drawn 87 = .ok (.if_icmp .ne 15, 3) := by decide +kernel
theorem dX7_drawn_90 : decode cX7_drawn 90 = .ok (.aload_n 0, 1) := by decide +kernel
theorem dX7_drawn_91 : decode cX7_drawn 91 = .ok (.iload 5, 2) := by decide +kernel
theorem dX7_drawn_93 : decode cX7_drawn 93 = .ok (.invokevirtual 327, 3) := by decide +kernel
theorem dX7_drawn_96 : decode cX7_drawn 96 = .ok (.ifCond .ne 6, 3) := by decide +kernel
theorem dX7_drawn_99 : decode cX7_drawn 99 = .ok (.iinc 4 1, 3) := by decide +kernel
theorem dX7_drawn_102 : decode cX7_drawn 102 = .ok (.iinc 7 1, 3) := by decide +kernel
theorem dX7_drawn_105 : decode cX7_drawn 105 = .ok (.goto (-45), 3) := by decide +kernel
theorem dX7_drawn_108 : decode cX7_drawn 108 = .ok (.aload_n 0, 1) := by decide +kernel
theorem dX7_drawn_109 : decode cX7_drawn 109 = .ok (.iload 4, 2) := by decide +kernel
theorem dX7_drawn_111 : decode cX7_drawn 111 = .ok (.invokevirtual 113, 3) := by decide +kernel
theorem dX7_drawn_114 : decode cX7_drawn 114 = .ok (.ireturn, 1) := by decide +kernel
theorem dX7_firstShut_0 : decode cX7_firstShut 0 = .ok (.aload_n 0, 1) := by decide +kernel
theorem dX7_firstShut_1 : decode cX7_firstShut 1 = .ok (.invokevirtual 154, 3) := by decide +kernel
theorem dX7_firstShut_4 : decode cX7_firstShut 4 = .ok (.ifCond .ne 9, 3) := by decide +kernel
theorem dX7_firstShut_7 : decode cX7_firstShut 7 = .ok (.aload_n 0, 1) := by decide +kernel
theorem dX7_firstShut_8 : decode cX7_firstShut 8 = .ok (.iconst 1, 1) := by decide +kernel
theorem dX7_firstShut_9 : decode cX7_firstShut 9 = .ok (.invokevirtual 82, 3) := by decide +kernel
theorem dX7_firstShut_12 : decode cX7_firstShut 12 = .ok (.ireturn, 1) := by decide +kernel
theorem dX7_firstShut_13 : decode cX7_firstShut 13 = .ok (.iload_n 1, 1) := by decide +kernel
theorem dX7_firstShut_14 : decode cX7_firstShut 14 = .ok (.iconst 0, 1) := by decide +kernel
theorem dX7_firstShut_15 : decode cX7_firstShut 15 = .ok (.ldc_w 323, 3) := by decide +kernel
theorem dX7_firstShut_18 : decode cX7_firstShut 18 = .ok (.invokestatic 78, 3) := by decide +kernel
theorem dX7_firstShut_21 : decode cX7_firstShut 21 = .ok (.ifCond .eq 14, 3) := by decide +kernel
theorem dX7_firstShut_24 : decode cX7_firstShut 24 = .ok (.iload_n 2, 1) := by decide +kernel
theorem dX7_firstShut_25 : decode cX7_firstShut 25 = .ok (.iconst 0, 1) := by decide +kernel
theorem dX7_firstShut_26 : decode cX7_firstShut 26 = .ok (.sipush 200, 3) := by decide +kernel
theorem dX7_firstShut_29 : decode cX7_firstShut 29 = .ok (.invokestatic 78, 3) := by decide +kernel
theorem dX7_firstShut_32 : decode cX7_firstShut 32 = .ok (.ifCond .ne 9, 3) := by decide +kernel
theorem dX7_firstShut_35 : decode cX7_firstShut 35 = .ok (.aload_n 0, 1) := by decide +kernel
theorem dX7_firstShut_36 : decode cX7_firstShut 36 = .ok (.iconst 2, 1) := by decide +kernel
theorem dX7_firstShut_37 : decode cX7_firstShut 37 = .ok (.invokevirtual 82, 3) := by decide +kernel
theorem dX7_firstShut_40 : decode cX7_firstShut 40 = .ok (.ireturn, 1) := by decide +kernel
theorem dX7_firstShut_41 : decode cX7_firstShut 41 = .ok (.iload_n 1, 1) := by decide +kernel
theorem dX7_firstShut_42 : decode cX7_firstShut 42 = .ok (.istore_n 3, 1) := by decide +kernel
theorem dX7_firstShut_43 : decode cX7_firstShut 43 = .ok (.iconst 1, 1) := by decide +kernel
theorem dX7_firstShut_44 : decode cX7_firstShut 44 = .ok (.istore 4, 2) := by decide +kernel
theorem dX7_firstShut_46 : decode cX7_firstShut 46 = .ok (.iload 4, 2) := by decide +kernel
