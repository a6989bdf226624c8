theorem dX8_speakOn_91 : decode cX8_speakOn 91 = .ok (.aload_n 1, 1) := by decide +kernel
theorem dX8_speakOn_92 : decode cX8_speakOn 92 = .ok (.bipush 9, 2) := by decide +kernel
theorem dX8_speakOn_94 : decode cX8_speakOn 94 = .ok (.iload_n 2, 1) := by decide +kernel
theorem dX8_speakOn_95 : decode cX8_speakOn 95 = .ok (.iadd, 1) := by decide +kernel
theorem dX8_speakOn_96 : decode cX8_speakOn 96 = .ok (.dup2, 1) := by decide +kernel
theorem dX8_speakOn_97 : decode cX8_speakOn 97 = .ok (.iaload, 1) := by decide +kernel
theorem dX8_speakOn_98 : decode cX8_speakOn 98 = .ok (.aload_n 0, 1) := by decide +kernel
theorem dX8_speakOn_99 : decode cX8_speakOn 99 = .ok (.getfield 248, 3) := by decide +kernel
theorem dX8_speakOn_102 : decode cX8_speakOn 102 = .ok (.ior, 1) := by decide +kernel
theorem dX8_speakOn_103 : decode cX8_speakOn 103 = .ok (.iastore, 1) := by decide +kernel
theorem dX8_speakOn_104 : decode cX8_speakOn 104 = .ok (.return_, 1) := by decide +kernel
theorem dX8_minuteOn_0 : decode cX8_minuteOn 0 = .ok (.aload_n 1, 1) := by decide +kernel
theorem dX8_minuteOn_1 : decode cX8_minuteOn 1 = .ok (.bipush 19, 2) := by decide +kernel
theorem dX8_minuteOn_3 : decode cX8_minuteOn 3 = .ok (.iaload, 1) := by decide +kernel
theorem dX8_minuteOn_4 : decode cX8_minuteOn 4 = .ok (.istore_n 2, 1) := by decide +kernel
theorem dX8_minuteOn_5 : decode cX8_minuteOn 5 = .ok (.aload_n 0, 1) := by decide +kernel
theorem dX8_minuteOn_6 : decode cX8_minuteOn 6 = .ok (.iconst 0, 1) := by decide +kernel
theorem dX8_minuteOn_7 : decode cX8_minuteOn 7 = .ok (.putfield 248, 3) := by decide +kernel
theorem dX8_minuteOn_10 : decode cX8_minuteOn 10 = .ok (.aload_n 1, 1) := by decide +kernel
theorem dX8_minuteOn_11 : decode cX8_minuteOn 11 = .ok (.bipush 18, 2) := by decide +kernel
theorem dX8_minuteOn_13 : decode cX8_minuteOn 13 = .ok (.iaload, 1) := by decide +kernel
theorem dX8_minuteOn_14 : decode cX8_minuteOn 14 = .ok (.iload_n 2, 1) := by decide +kernel
theorem dX8_minuteOn_15 : decode cX8_minuteOn 15 = .ok (.invokestatic 238, 3) := by decide +kernel
theorem dX8_minuteOn_18 : decode cX8_minuteOn 18 = .ok (.ifCond .ne 48, 3) := by decide +kernel
theorem dX8_minuteOn_21 : decode cX8_minuteOn 21 = .ok (.aload_n 0, 1) := by decide +kernel
theorem dX8_minuteOn_22 : decode cX8_minuteOn 22 = .ok (.getfield 20, 3) := by decide +kernel
theorem dX8_minuteOn_25 : decode cX8_minuteOn 25 = .ok (.bipush 12, 2) := by decide +kernel
theorem dX8_minuteOn_27 : decode cX8_minuteOn 27 = .ok (.iconst 2, 1) := by decide +kernel
theorem dX8_minuteOn_28 : decode cX8_minuteOn 28 = .ok (.iload_n 2, 1) := by decide +kernel
theorem dX8_minuteOn_29 : decode cX8_minuteOn 29 = .ok (.imul, 1) := by decide +kernel
theorem dX8_minuteOn_30 : decode cX8_minuteOn 30 = .ok (.iadd, 1) := by decide +kernel
theorem dX8_minuteOn_31 : decode cX8_minuteOn 31 = .ok (.iaload, 1) := by decide +kernel
theorem dX8_minuteOn_32 : decode cX8_minuteOn 32 = .ok (.iconst 1, 1) := by decide +kernel
theorem dX8_minuteOn_33 : decode cX8_minuteOn 33 = .ok (.if_icmp .ne 12, 3) := by decide +kernel
theorem dX8_minuteOn_36 : decode cX8_minuteOn 36 = .ok (.aload_n 0, 1) := by decide +kernel
theorem dX8_minuteOn_37 : decode cX8_minuteOn 37 = .ok (.aload_n 1, 1) := by decide +kernel
theorem dX8_minuteOn_38 : decode cX8_minuteOn 38 = .ok (.iload_n 2, 1) := by decide +kernel
theorem dX8_minuteOn_39 : decode cX8_minuteOn 39 = .ok (.invokevirtual 251, 3) := by decide +kernel
theorem dX8_minuteOn_42 : decode cX8_minuteOn 42 = .ok (.goto 24, 3) := by decide +kernel
theorem dX8_minuteOn_45 : decode cX8_minuteOn 45 = .ok (.aload_n 0, 1) := by decide +kernel
theorem dX8_minuteOn_46 : decode cX8_minuteOn 46 = .ok (.getfield 20, 3) := by decide +kernel
theorem dX8_minuteOn_49 : decode cX8_minuteOn 49 = .ok (.bipush 12, 2) := by decide +kernel
theorem dX8_minuteOn_51 : decode cX8_minuteOn 51 = .ok (.iconst 2, 1) := by decide +kernel
theorem dX8_minuteOn_52 : decode cX8_minuteOn 52 = .ok (.iload_n 2, 1) := by decide +kernel
theorem dX8_minuteOn_53 : decode cX8_minuteOn 53 = .ok (.imul, 1) := by decide +kernel
theorem dX8_minuteOn_54 : decode cX8_minuteOn 54 = .ok (.iadd, 1) := by decide +kernel
theorem dX8_minuteOn_55 : decode cX8_minuteOn 55 = .ok (.iaload, 1) := by decide +kernel
theorem dX8_minuteOn_56 : decode cX8_minuteOn 56 = .ok (.iconst 2, 1) := by decide +kernel
theorem dX8_minuteOn_57 : decode cX8_minuteOn 57 = .ok (.if_icmp .ne 9, 3) := by decide +kernel
theorem dX8_minuteOn_60 : decode cX8_minuteOn 60 = .ok (.aload_n 0, 1) := by decide +kernel
theorem dX8_minuteOn_61 : decode cX8_minuteOn 61 = .ok (.aload_n 1, 1) := by decide +kernel
theorem dX8_minuteOn_62 : decode cX8_minuteOn 62 = .ok (.iload_n 2, 1) := by decide +kernel
theorem dX8_minuteOn_63 : decode cX8_minuteOn 63 = .ok (.invokevirtual 255, 3) := by decide +kernel
theorem dX8_minuteOn_66 : decode cX8_minuteOn 66 = .ok (.aload_n 0, 1) := by decide +kernel
theorem dX8_minuteOn_67 : decode cX8_minuteOn 67 = .ok (.iload_n 2, 1) := by decide +kernel
theorem dX8_minuteOn_68 : decode cX8_minuteOn 68 = .ok (.putfield 258, 3) := by decide +kernel
theorem dX8_minuteOn_71 : decode cX8_minuteOn 71 = .ok (.aload_n 0, 1) := by decide +kernel
theorem dX8_minuteOn_72 : decode cX8_minuteOn 72 = .ok (.aload_n 1, 1) := by decide +kernel
theorem dX8_minuteOn_73 : decode cX8_minuteOn 73 = .ok (.bipush 18, 2) := by decide +kernel
theorem dX8_minuteOn_75 : decode cX8_minuteOn 75 = .ok (.iaload, 1) := by decide +kernel
theorem dX8_minuteOn_76 : decode cX8_minuteOn 76 = .ok (.iload_n 2, 1) := by decide +kernel
theorem dX8_minuteOn_77 : decode cX8_minuteOn 77 = .ok (.invokestatic 238, 3) := by decide +kernel
theorem dX8_minuteOn_80 : decode cX8_minuteOn 80 = .ok (.ifCond .eq 7, 3) := by decide +kernel
theorem dX8_minuteOn_83 : decode cX8_minuteOn 83 = .ok (.iconst (-1), 1) := by decide +kernel
theorem dX8_minuteOn_84 : decode cX8_minuteOn 84 = .ok (.goto 6, 3) := by decide +kernel
theorem dX8_minuteOn_87 : decode cX8_minuteOn 87 = .ok (.aload_n 1, 1) := by decide +kernel
theorem dX8_minuteOn_88 : decode cX8_minuteOn 88 = .ok (.iload_n 2, 1) := by decide +kernel
theorem dX8_minuteOn_89 : decode cX8_minuteOn 89 = .ok (.iaload, 1) := by decide +kernel
theorem dX8_minuteOn_90 : decode cX8_minuteOn 90 = .ok (.putfield 261, 3) := by decide +kernel
theorem dX8_minuteOn_93 : decode cX8_minuteOn 93 = .ok (.aload_n 1, 1) := by decide +kernel
theorem dX8_minuteOn_94 : decode cX8_minuteOn 94 = .ok (.bipush 21, 2) := by decide +kernel
theorem dX8_minuteOn_96 : decode cX8_minuteOn 96 = .ok (.dup2, 1) := by decide +kernel
theorem dX8_minuteOn_97 : decode cX8_minuteOn 97 = .ok (.iaload, 1) := by decide +kernel
theorem dX8_minuteOn_98 : decode cX8_minuteOn 98 = .ok (.iconst 1, 1) := by decide +kernel
theorem dX8_minuteOn_99 : decode cX8_minuteOn 99 = .ok (.iadd, 1) := by decide +kernel
theorem dX8_minuteOn_100 : decode cX8_minuteOn 100 = .ok (.iastore, 1) := by decide +kernel
theorem dX8_minuteOn_101 : decode cX8_minuteOn 101 = .ok (.aload_n 1, 1) := by decide +kernel
theorem dX8_minuteOn_102 : decode cX8_minuteOn 102 = .ok (.bipush 20, 2) := by decide +kernel
theorem dX8_minuteOn_104 : decode cX8_minuteOn 104 = .ok (.dup2, 1) := by decide +kernel
theorem dX8_minuteOn_105 : decode cX8_minuteOn 105 = .ok (.iaload, 1) := by decide +kernel
theorem dX8_minuteOn_106 : decode cX8_minuteOn 106 = .ok (.iconst 1, 1) := by decide +kernel
theorem dX8_minuteOn_107 : decode cX8_minuteOn 107 = .ok (.iadd, 1) := by decide +kernel
theorem dX8_minuteOn_108 : decode cX8_minuteOn 108 = .ok (.iastore, 1) := by decide +kernel
theorem dX8_minuteOn_109 : decode cX8_minuteOn 109 = .ok (.aload_n 1, 1) := by decide +kernel
theorem dX8_minuteOn_110 : decode cX8_minuteOn 110 = .ok (.bipush 20, 2) := by decide +kernel
theorem dX8_minuteOn_112 : decode cX8_minuteOn 112 = .ok (.iaload, 1) := by decide +kernel
theorem dX8_minuteOn_113 : decode cX8_minuteOn 113 = .ok (.aload_n 0, 1) := by decide +kernel
theorem dX8_minuteOn_114 : decode cX8_minuteOn 114 = .ok (.getfield 20, 3) := by decide +kernel
theorem dX8_minuteOn_117 : decode cX8_minuteOn 117 = .ok (.iconst 1, 1) := by decide +kernel
theorem dX8_minuteOn_118 : decode cX8_minuteOn 118 = .ok (.iaload, 1) := by decide +kernel
theorem dX8_minuteOn_119 : decode cX8_minuteOn 119 = .ok (.if_icmp .ge 4, 3) := by decide +kernel
theorem dX8_minuteOn_122 : decode cX8_minuteOn 122 = .ok (.return_, 1) := by decide +kernel
theorem dX8_minuteOn_123 : decode cX8_minuteOn 123 = .ok (.aload_n 1, 1) := by decide +kernel
theorem dX8_minuteOn_124 : decode cX8_minuteOn 124 = .ok (.bipush 20, 2) := by decide +kernel
theorem dX8_minuteOn_126 : decode cX8_minuteOn 126 = .ok (.iconst 0, 1) := by decide +kernel
theorem dX8_minuteOn_127 : decode cX8_minuteOn 127 = .ok (.iastore, 1) := by decide +kernel
theorem dX8_minuteOn_128 : decode cX8_minuteOn 128 = .ok (.aload_n 1, 1) := by decide +kernel
theorem dX8_minuteOn_129 : decode cX8_minuteOn 129 = .ok (.bipush 19, 2) := by decide +kernel
theorem dX8_minuteOn_131 : decode cX8_minuteOn 131 = .ok (.aload_n 0, 1) := by decide +kernel
theorem dX8_minuteOn_132 : decode cX8_minuteOn 132 = .ok (.iload_n 2, 1) := by decide +kernel
theorem dX8_minuteOn_133 : decode cX8_minuteOn 133 = .ok (.invokevirtual 264, 3) := by decide +kernel
theorem dX8_minuteOn_136 : decode cX8_minuteOn 136 = .ok (.iastore, 1) := by decide +kernel
theorem dX8_minuteOn_137 : decode cX8_minuteOn 137 = .ok (.return_, 1) := by decide +kernel
theorem dX8_begin_0 : decode cX8_begin 0 = .ok (.aload_n 0, 1) := by decide +kernel
theorem dX8_begin_1 : decode cX8_begin 1 = .ok (.invokevirtual 267, 3) := by decide +kernel
theorem dX8_begin_4 : decode cX8_begin 4 = .ok (.aload_n 0, 1) := by decide +kernel
theorem dX8_begin_5 : decode cX8_begin 5 = .ok (.getfield 26, 3) := by decide +kernel
theorem dX8_begin_8 : decode cX8_begin 8 = .ok (.iconst 0, 1) := by decide +kernel
theorem dX8_begin_9 : decode cX8_begin 9 = .ok (.aload_n 0, 1) := by decide +kernel
theorem dX8_begin_10 : decode cX8_begin 10 = .ok (.getfield 29, 3) := by decide +kernel
theorem dX8_begin_13 : decode cX8_begin 13 = .ok (.iconst 0, 1) := by decide +kernel
theorem dX8_begin_14 : decode cX8_begin 14 = .ok (.bipush 23, 2) := by decide +kernel
theorem dX8_begin_16 : decode cX8_begin 16 = .ok (.invokestatic 169, 3) := by decide +kernel
theorem dX8_begin_19 : decode cX8_begin 19 = .ok (.return_, 1) := by decide +kernel
theorem dX8_minutesOn_0 : decode cX8_minutesOn 0 = .ok (.aload_n 0, 1) := by decide +kernel
theorem dX8_minutesOn_1 : decode cX8_minutesOn 1 = .ok (.invokevirtual 270, 3) := by decide +kernel
theorem dX8_minutesOn_4 : decode cX8_minutesOn 4 = .ok (.iconst 0, 1) := by decide +kernel
theorem dX8_minutesOn_5 : decode cX8_minutesOn 5 = .ok (.istore_n 2, 1) := by decide +kernel
theorem dX8_minutesOn_6 : decode cX8_minutesOn 6 = .ok (.iload_n 2, 1) := by decide +kernel
theorem dX8_minutesOn_7 : decode cX8_minutesOn 7 = .ok (.iload_n 1, 1) := by decide +kernel
theorem dX8_minutesOn_8 : decode cX8_minutesOn 8 = .ok (.if_icmp .ge 17, 3) := by decide +kernel
theorem dX8_minutesOn_11 : decode cX8_minutesOn 11 = .ok (.aload_n 0, 1) := by decide +kernel
theorem dX8_minutesOn_12 : decode cX8_minutesOn 12 = .ok (.aload_n 0, 1) := by decide +kernel
theorem dX8_minutesOn_13 : decode cX8_minutesOn 13 = .ok (.getfield 29, 3) := by decide +kernel
theorem dX8_minutesOn_16 : decode cX8_minutesOn 16 = .ok (.invokevirtual 273, 3) := by decide +kernel
theorem dX8_minutesOn_19 : decode cX8_minutesOn 19 = .ok (.iinc 2 1, 3) := by decide +kernel
theorem dX8_minutesOn_22 : decode cX8_minutesOn 22 = .ok (.goto (-16), 3) := by decide +kernel
theorem dX8_minutesOn_25 : decode cX8_minutesOn 25 = .ok (.return_, 1) := by decide +kernel
theorem dX8_figure_0 : decode cX8_figure 0 = .ok (.aload_n 0, 1) := by decide +kernel
theorem dX8_figure_1 : decode cX8_figure 1 = .ok (.invokevirtual 160, 3) := by decide +kernel
theorem dX8_figure_4 : decode cX8_figure 4 = .ok (.aload_n 0, 1) := by decide +kernel
theorem dX8_figure_5 : decode cX8_figure 5 = .ok (.iload_n 1, 1) := by decide +kernel
theorem dX8_figure_6 : decode cX8_figure 6 = .ok (.invokevirtual 277, 3) := by decide +kernel
theorem dX8_figure_9 : decode cX8_figure 9 = .ok (.ifCond .eq 12, 3) := by decide +kernel
theorem dX8_figure_12 : decode cX8_figure 12 = .ok (.iload_n 2, 1) := by decide +kernel
theorem dX8_figure_13 : decode cX8_figure 13 = .ok (.iconst 0, 1) := by decide +kernel
theorem dX8_figure_14 : decode cX8_figure 14 = .ok (.iconst 4, 1) := by decide +kernel
theorem dX8_figure_15 : decode cX8_figure 15 = .ok (.invokestatic 142, 3) := by decide +kernel
theorem dX8_figure_18 : decode cX8_figure 18 = .ok (.ifCond .ne 9, 3) := by decide +kernel
theorem dX8_figure_21 : decode cX8_figure 21 = .ok (.aload_n 0, 1) := by decide +kernel
theorem dX8_figure_22 : decode cX8_figure 22 = .ok (.iconst 1, 1) := by decide +kernel
theorem dX8_figure_23 : decode cX8_figure 23 = .ok (.invokevirtual 163, 3) := by decide +kernel
theorem dX8_figure_26 : decode cX8_figure 26 = .ok (.ireturn, 1) := by decide +kernel
theorem dX8_figure_27 : decode cX8_figure 27 = .ok (.iload_n 2, 1) := by decide +kernel
theorem dX8_figure_28 : decode cX8_figure 28 = .ok (.tableswitch 65 0 3 #[32, 32, 46, 53], 32) := by decide +kernel
theorem dX8_figure_60 : decode cX8_figure 60 = .ok (.aload_n 0, 1) := by decide +kernel
theorem dX8_figure_61 : decode cX8_figure 61 = .ok (.getfield 20, 3) := by decide +kernel
theorem dX8_figure_64 : decode cX8_figure 64 = .ok (.bipush 12, 2) := by decide +kernel
theorem dX8_figure_66 : decode cX8_figure 66 = .ok (.iconst 2, 1) := by decide +kernel
theorem dX8_figure_67 : decode cX8_figure 67 = .ok (.iload_n 1, 1) := by decide +kernel
theorem dX8_figure_68 : decode cX8_figure 68 = .ok (.imul, 1) := by decide +kernel
theorem dX8_figure_69 : decode cX8_figure 69 = .ok (.iadd, 1) := by decide +kernel
theorem dX8_figure_70 : decode cX8_figure 70 = .ok (.iload_n 2, 1) := by decide +kernel
theorem dX8_figure_71 : decode cX8_figure 71 = .ok (.iadd, 1) := by decide +kernel
theorem dX8_figure_72 : decode cX8_figure 72 = .ok (.iaload, 1) := by decide +kernel
theorem dX8_figure_73 : decode cX8_figure 73 = .ok (.ireturn, 1) := by decide +kernel
theorem dX8_figure_74 : decode cX8_figure 74 = .ok (.aload_n 0, 1) := by decide +kernel
theorem dX8_figure_75 : decode cX8_figure 75 = .ok (.getfield 26, 3) := by decide +kernel
theorem dX8_figure_78 : decode cX8_figure 78 = .ok (.iload_n 1, 1) := by decide +kernel
theorem dX8_figure_79 : decode cX8_figure 79 = .ok (.iaload, 1) := by decide +kernel
theorem dX8_figure_80 : decode cX8_figure 80 = .ok (.ireturn, 1) := by decide +kernel
theorem dX8_figure_81 : decode cX8_figure 81 = .ok (.aload_n 0, 1) := by decide +kernel
theorem dX8_figure_82 : decode cX8_figure 82 = .ok (.getfield 26, 3) := by decide +kernel
theorem dX8_figure_85 : decode cX8_figure 85 = .ok (.bipush 18, 2) := by decide +kernel
theorem dX8_figure_87 : decode cX8_figure 87 = .ok (.iaload, 1) := by decide +kernel
theorem dX8_figure_88 : decode cX8_figure 88 = .ok (.iload_n 1, 1) := by decide +kernel
theorem dX8_figure_89 : decode cX8_figure 89 = .ok (.ishr, 1) := by decide +kernel
theorem dX8_figure_90 : decode cX8_figure 90 = .ok (.iconst 1, 1) := by decide +kernel
theorem dX8_figure_91 : decode cX8_figure 91 = .ok (.iand, 1) := by decide +kernel
theorem dX8_figure_92 : decode cX8_figure 92 = .ok (.ireturn, 1) := by decide +kernel
theorem dX8_figure_93 : decode cX8_figure 93 = .ok (.aload_n 0, 1) := by decide +kernel
theorem dX8_figure_94 : decode cX8_figure 94 = .ok (.getfield 26, 3) := by decide +kernel
theorem dX8_figure_97 : decode cX8_figure 97 = .ok (.bipush 9, 2) := by decide +kernel
theorem dX8_figure_99 : decode cX8_figure 99 = .ok (.iload_n 1, 1) := by decide +kernel
theorem dX8_figure_100 : decode cX8_figure 100 = .ok (.iadd, 1) := by decide +kernel
theorem dX8_figure_101 : decode cX8_figure 101 = .ok (.iaload, 1) := by decide +kernel
theorem dX8_figure_102 : decode cX8_figure 102 = .ok (.ireturn, 1) := by decide +kernel
theorem dX8_watcher_0 : decode cX8_watcher 0 = .ok (.aload_n 0, 1) := by decide +kernel
theorem dX8_watcher_1 : decode cX8_watcher 1 = .ok (.invokevirtual 160, 3) := by decide +kernel
theorem dX8_watcher_4 : decode cX8_watcher 4 = .ok (.aload_n 0, 1) := by decide +kernel
theorem dX8_watcher_5 : decode cX8_watcher 5 = .ok (.iload_n 1, 1) := by decide +kernel
theorem dX8_watcher_6 : decode cX8_watcher 6 = .ok (.invokevirtual 280, 3) := by decide +kernel
theorem dX8_watcher_9 : decode cX8_watcher 9 = .ok (.ifCond .eq 12, 3) := by decide +kernel
theorem dX8_watcher_12 : decode cX8_watcher 12 = .ok (.iload_n 2, 1) := by decide +kernel
theorem dX8_watcher_13 : decode cX8_watcher 13 = .ok (.iconst 0, 1) := by decide +kernel
theorem dX8_watcher_14 : decode cX8_watcher 14 = .ok (.iconst 2, 1) := by decide +kernel
theorem dX8_watcher_15 : decode cX8_watcher 15 = .ok (.invokestatic 142, 3) := by decide +kernel
theorem dX8_watcher_18 : decode cX8_watcher 18 = .ok (.ifCond .ne 9, 3) := by decide +kernel
theorem dX8_watcher_21 : decode cX8_watcher 21 = .ok (.aload_n 0, 1) := by decide +kernel
theorem dX8_watcher_22 : decode cX8_watcher 22 = .ok (.iconst 1, 1) := by decide +kernel
theorem dX8_watcher_23 : decode cX8_watcher 23 = .ok (.invokevirtual 163, 3) := by decide +kernel
theorem dX8_watcher_26 : decode cX8_watcher 26 = .ok (.ireturn, 1) := by decide +kernel
theorem dX8_watcher_27 : decode cX8_watcher 27 = .ok (.aload_n 0, 1) := by decide +kernel
theorem dX8_watcher_28 : decode cX8_watcher 28 = .ok (.invokevirtual 267, 3) := by decide +kernel
theorem dX8_watcher_31 : decode cX8_watcher 31 = .ok (.iload_n 2, 1) := by decide +kernel
theorem dX8_watcher_32 : decode cX8_watcher 32 = .ok (.iconst 2, 1) := by decide +kernel
theorem dX8_watcher_33 : decode cX8_watcher 33 = .ok (.if_icmp .ge 19, 3) := by decide +kernel
theorem dX8_watcher_36 : decode cX8_watcher 36 = .ok (.aload_n 0, 1) := by decide +kernel
theorem dX8_watcher_37 : decode cX8_watcher 37 = .ok (.getfield 20, 3) := by decide +kernel
theorem dX8_watcher_40 : decode cX8_watcher 40 = .ok (.bipush 30, 2) := by decide +kernel
theorem dX8_watcher_42 : decode cX8_watcher 42 = .ok (.iconst 2, 1) := by decide +kernel
theorem dX8_watcher_43 : decode cX8_watcher 43 = .ok (.iload_n 1, 1) := by decide +kernel
theorem dX8_watcher_44 : decode cX8_watcher 44 = .ok (.imul, 1) := by decide +kernel
theorem dX8_watcher_45 : decode cX8_watcher 45 = .ok (.iadd, 1) := by decide +kernel
theorem dX8_watcher_46 : decode cX8_watcher 46 = .ok (.iload_n 2, 1) := by decide +kernel
theorem dX8_watcher_47 : decode cX8_watcher 47 = .ok (.iadd, 1) := by decide +kernel
theorem dX8_watcher_48 : decode cX8_watcher 48 = .ok (.iaload, 1) := by decide +kernel
theorem dX8_watcher_49 : decode cX8_watcher 49 = .ok (.goto 15, 3) := by decide +kernel
theorem dX8_watcher_52 : decode cX8_watcher 52 = .ok (.aload_n 0, 1) := by decide +kernel
theorem dX8_watcher_53 : decode cX8_watcher 53 = .ok (.iload_n 1, 1) := by decide +kernel
theorem dX8_watcher_54 : decode cX8_watcher 54 = .ok (.aload_n 0, 1) := by decide +kernel
theorem dX8_watcher_55 : decode cX8_watcher 55 = .ok (.getfield 26, 3) := by decide +kernel
theorem dX8_watcher_58 : decode cX8_watcher 58 = .ok (.bipush 21, 2) := by decide +kernel
theorem dX8_watcher_60 : decode cX8_watcher 60 = .ok (.iaload, 1) := by decide +kernel
theorem dX8_watcher_61 : decode cX8_watcher 61 = .ok (.invokevirtual 242, 3) := by decide +kernel
theorem dX8_watcher_64 : decode cX8_watcher 64 = .ok (.ireturn, 1) := by decide +kernel
theorem dX8_alive_0 : decode cX8_alive 0 = .ok (.aload_n 0, 1) := by decide +kernel
theorem dX8_alive_1 : decode cX8_alive 1 = .ok (.invokevirtual 160, 3) := by decide +kernel
theorem dX8_alive_4 : decode cX8_alive 4 = .ok (.aload_n 0, 1) := by decide +kernel
theorem dX8_alive_5 : decode cX8_alive 5 = .ok (.getfield 173, 3) := by decide +kernel
theorem dX8_alive_8 : decode cX8_alive 8 = .ok (.ifCond .eq 13, 3) := by decide +kernel
theorem dX8_alive_11 : decode cX8_alive 11 = .ok (.aload_n 0, 1) := by decide +kernel
theorem dX8_alive_12 : decode cX8_alive 12 = .ok (.getfield 26, 3) := by decide +kernel
theorem dX8_alive_15 : decode cX8_alive 15 = .ok (.bipush 19, 2) := by decide +kernel
theorem dX8_alive_17 : decode cX8_alive 17 = .ok (.iaload, 1) := by decide +kernel
theorem dX8_alive_18 : decode cX8_alive 18 = .ok (.goto 8, 3) := by decide +kernel
theorem dX8_alive_21 : decode cX8_alive 21 = .ok (.aload_n 0, 1) := by decide +kernel
theorem dX8_alive_22 : decode cX8_alive 22 = .ok (.iconst 1, 1) := by decide +kernel
theorem dX8_alive_23 : decode cX8_alive 23 = .ok (.invokevirtual 163, 3) := by decide +kernel
theorem dX8_alive_26 : decode cX8_alive 26 = .ok (.ireturn, 1) := by decide +kernel
theorem dX8_left_0 : decode cX8_left 0 = .ok (.aload_n 0, 1) := by decide +kernel
theorem dX8_left_1 : decode cX8_left 1 = .ok (.invokevirtual 160, 3) := by decide +kernel
theorem dX8_left_4 : decode cX8_left 4 = .ok (.aload_n 0, 1) := by decide +kernel
theorem dX8_left_5 : decode cX8_left 5 = .ok (.getfield 173, 3) := by decide +kernel
theorem dX8_left_8 : decode cX8_left 8 = .ok (.ifCond .eq 20, 3) := by decide +kernel
theorem dX8_left_11 : decode cX8_left 11 = .ok (.aload_n 0, 1) := by decide +kernel
theorem dX8_left_12 : decode cX8_left 12 = .ok (.getfield 20, 3) := by decide +kernel
theorem dX8_left_15 : decode cX8_left 15 = .ok (.iconst 1, 1) := by decide +kernel
theorem dX8_left_16 : decode cX8_left 16 = .ok (.iaload, 1) := by decide +kernel
theorem dX8_left_17 : decode cX8_left 17 = .ok (.aload_n 0, 1) := by decide +kernel
theorem dX8_left_18 : decode cX8_left 18 = .ok (.getfield 26, 3) := by decide +kernel
theorem dX8_left_21 : decode cX8_left 21 = .ok (.bipush 20, 2) := by decide +kernel
theorem dX8_left_23 : decode cX8_left 23 = .ok (.iaload, 1) := by decide +kernel
theorem dX8_left_24 : decode cX8_left 24 = .ok (.isub, 1) := by decide +kernel
theorem dX8_left_25 : decode cX8_left 25 = .ok (.goto 8, 3) := by decide +kernel
theorem dX8_left_28 : decode cX8_left 28 = .ok (.aload_n 0, 1) := by decide +kernel
theorem dX8_left_29 : decode cX8_left 29 = .ok (.iconst 1, 1) := by decide +kernel
theorem dX8_left_30 : decode cX8_left 30 = .ok (.invokevirtual 163, 3) := by decide +kernel
theorem dX8_left_33 : decode cX8_left 33 = .ok (.ireturn, 1) := by decide +kernel
theorem dX8_caught_0 : decode cX8_caught 0 = .ok (.aload_n 0, 1) := by decide +kernel
theorem dX8_caught_1 : decode cX8_caught 1 = .ok (.invokevirtual 160, 3) := by decide +kernel
theorem dX8_caught_4 : decode cX8_caught 4 = .ok (.aload_n 0, 1) := by decide +kernel
theorem dX8_caught_5 : decode cX8_caught 5 = .ok (.getfield 173, 3) := by decide +kernel
theorem dX8_caught_8 : decode cX8_caught 8 = .ok (.ifCond .eq 13, 3) := by decide +kernel
theorem dX8_caught_11 : decode cX8_caught 11 = .ok (.aload_n 0, 1) := by decide +kernel
theorem dX8_caught_12 : decode cX8_caught 12 = .ok (.getfield 26, 3) := by decide +kernel
theorem dX8_caught_15 : decode cX8_caught 15 = .ok (.bipush 22, 2) := by decide +kernel
theorem dX8_caught_17 : decode cX8_caught 17 = .ok (.iaload, 1) := by decide +kernel
theorem dX8_caught_18 : decode cX8_caught 18 = .ok (.goto 8, 3) := by decide +kernel
theorem dX8_caught_21 : decode cX8_caught 21 = .ok (.aload_n 0, 1) := by decide +kernel
theorem dX8_caught_22 : decode cX8_caught 22 = .ok (.iconst 1, 1) := by decide +kernel
theorem dX8_caught_23 : decode cX8_caught 23 = .ok (.invokevirtual 163, 3) := by decide +kernel
theorem dX8_caught_26 : decode cX8_caught 26 = .ok (.ireturn, 1) := by decide +kernel
theorem dX8_goRound_0 : decode cX8_goRound 0 = .ok (.iconst 0, 1) := by decide +kernel
theorem dX8_goRound_1 : decode cX8_goRound 1 = .ok (.istore_n 1, 1) := by decide +kernel
theorem dX8_goRound_2 : decode cX8_goRound 2 = .ok (.aload_n 0, 1) := by decide +kernel
theorem dX8_goRound_3 : decode cX8_goRound 3 = .ok (.getfield 26, 3) := by decide +kernel
theorem dX8_goRound_6 : decode cX8_goRound 6 = .ok (.bipush 19, 2) := by decide +kernel
theorem dX8_goRound_8 : decode cX8_goRound 8 = .ok (.iaload, 1) := by decide +kernel
theorem dX8_goRound_9 : decode cX8_goRound 9 = .ok (.istore_n 2, 1) := by decide +kernel
theorem dX8_goRound_10 : decode cX8_goRound 10 = .ok (.aload_n 0, 1) := by decide +kernel
theorem dX8_goRound_11 : decode cX8_goRound 11 = .ok (.iconst (-1), 1) := by decide +kernel
theorem dX8_goRound_12 : decode cX8_goRound 12 = .ok (.putfield 283, 3) := by decide +kernel
theorem dX8_goRound_15 : decode cX8_goRound 15 = .ok (.aload_n 0, 1) := by decide +kernel
theorem dX8_goRound_16 : decode cX8_goRound 16 = .ok (.getfield 283, 3) := by decide +kernel
theorem dX8_goRound_19 : decode cX8_goRound 19 = .ok (.ifCond .ge 60, 3) := by decide +kernel
theorem dX8_goRound_22 : decode cX8_goRound 22 = .ok (.iconst 0, 1) := by decide +kernel
theorem dX8_goRound_23 : decode cX8_goRound 23 = .ok (.istore_n 3, 1) := by decide +kernel
theorem dX8_goRound_24 : decode cX8_goRound 24 = .ok (.iload_n 3, 1) := by decide +kernel
theorem dX8_goRound_25 : decode cX8_goRound 25 = .ok (.iload_n 1, 1) := by decide +kernel
theorem dX8_goRound_26 : decode cX8_goRound 26 = .ok (.if_icmp .ge 24, 3) := by decide +kernel
theorem dX8_goRound_29 : decode cX8_goRound 29 = .ok (.aload_n 0, 1) := by decide +kernel
theorem dX8_goRound_30 : decode cX8_goRound 30 = .ok (.getfield 44, 3) := by decide +kernel
theorem dX8_goRound_33 : decode cX8_goRound 33 = .ok (.iload_n 3, 1) := by decide +kernel
theorem dX8_goRound_34 : decode cX8_goRound 34 = .ok (.iaload, 1) := by decide +kernel
theorem dX8_goRound_35 : decode cX8_goRound 35 = .ok (.iload_n 2, 1) := by decide +kernel
theorem dX8_goRound_36 : decode cX8_goRound 36 = .ok (.if_icmp .ne 8, 3) := by decide +kernel
theorem dX8_goRound_39 : decode cX8_goRound 39 = .ok (.aload_n 0, 1) := by decide +kernel
theorem dX8_goRound_40 : decode cX8_goRound 40 = .ok (.iload_n 3, 1) := by decide +kernel
theorem dX8_goRound_41 : decode cX8_goRound 41 = .ok (.putfield 283, 3) := by decide +kernel
theorem dX8_goRound_44 : decode cX8_goRound 44 = .ok (.iinc 3 1, 3) := by decide +kernel
theorem dX8_goRound_47 : decode cX8_goRound 47 = .ok (.goto (-23), 3) := by decide +kernel
theorem dX8_goRound_50 : decode cX8_goRound 50 = .ok (.aload_n 0, 1) := by decide +kernel
theorem dX8_goRound_51 : decode cX8_goRound 51 = .ok (.getfield 283, 3) := by decide +kernel
theorem dX8_goRound_54 : decode cX8_goRound 54 = .ok (.ifCond .lt 6, 3) := by decide +kernel
theorem dX8_goRound_57 : decode cX8_goRound 57 = .ok (.goto (-42), 3) := by decide +kernel
theorem dX8_goRound_60 : decode cX8_goRound 60 = .ok (.aload_n 0, 1) := by decide +kernel
theorem dX8_goRound_61 : decode cX8_goRound 61 = .ok (.getfield 44, 3) := by decide +kernel
theorem dX8_goRound_64 : decode cX8_goRound 64 = .ok (.iload_n 1, 1) := by decide +kernel
theorem dX8_goRound_65 : decode cX8_goRound 65 = .ok (.iload_n 2, 1) := by decide +kernel
theorem dX8_goRound_66 : decode cX8_goRound 66 = .ok (.iastore, 1) := by decide +kernel
theorem dX8_goRound_67 : decode cX8_goRound 67 = .ok (.iinc 1 1, 3) := by decide +kernel
theorem dX8_goRound_70 : decode cX8_goRound 70 = .ok (.aload_n 0, 1) := by decide +kernel
theorem dX8_goRound_71 : decode cX8_goRound 71 = .ok (.iload_n 2, 1) := by decide +kernel
theorem dX8_goRound_72 : decode cX8_goRound 72 = .ok (.invokevirtual 264, 3) := by decide +kernel
theorem dX8_goRound_75 : decode cX8_goRound 75 = .ok (.istore_n 2, 1) := by decide +kernel
theorem dX8_goRound_76 : decode cX8_goRound 76 = .ok (.goto (-61), 3) := by decide +kernel
theorem dX8_goRound_79 : decode cX8_goRound 79 = .ok (.aload_n 0, 1) := by decide +kernel
theorem dX8_goRound_80 : decode cX8_goRound 80 = .ok (.iload_n 1, 1) := by decide +kernel
theorem dX8_goRound_81 : decode cX8_goRound 81 = .ok (.aload_n 0, 1) := by decide +kernel
theorem dX8_goRound_82 : decode cX8_goRound 82 = .ok (.getfield 283, 3) := by decide +kernel
theorem dX8_goRound_85 : decode cX8_goRound 85 = .ok (.isub, 1) := by decide +kernel
theorem dX8_goRound_86 : decode cX8_goRound 86 = .ok (.putfield 286, 3) := by decide +kernel
theorem dX8_goRound_89 : decode cX8_goRound 89 = .ok (.return_, 1) := by decide +kernel
theorem dX8_turnAt_0 : decode cX8_turnAt 0 = .ok (.aload_n 0, 1) := by decide +kernel
theorem dX8_turnAt_1 : decode cX8_turnAt 1 = .ok (.getfield 44, 3) := by decide +kernel
theorem dX8_turnAt_4 : decode cX8_turnAt 4 = .ok (.iload_n 1, 1) := by decide +kernel
theorem dX8_turnAt_5 : decode cX8_turnAt 5 = .ok (.aload_n 0, 1) := by decide +kernel
theorem dX8_turnAt_6 : decode cX8_turnAt 6 = .ok (.getfield 283, 3) := by decide +kernel
theorem dX8_turnAt_9 : decode cX8_turnAt 9 = .ok (.if_icmp .ge 7, 3) := by decide +kernel
theorem dX8_turnAt_12 : decode cX8_turnAt 12 = .ok (.iload_n 1, 1) := by decide +kernel
theorem dX8_turnAt_13 : decode cX8_turnAt 13 = .ok (.goto 19, 3) := by decide +kernel
theorem dX8_turnAt_16 : decode cX8_turnAt 16 = .ok (.aload_n 0, 1) := by decide +kernel
theorem dX8_turnAt_17 : decode cX8_turnAt 17 = .ok (.getfield 283, 3) := by decide +kernel
theorem dX8_turnAt_20 : decode cX8_turnAt 20 = .ok (.iload_n 1, 1) := by decide +kernel
theorem dX8_turnAt_21 : decode cX8_turnAt 21 = .ok (.aload_n 0, 1) := by decide +kernel
theorem dX8_turnAt_22 : decode cX8_turnAt 22 = .ok (.getfield 283, 3) := by decide +kernel
theorem dX8_turnAt_25 : decode cX8_turnAt 25 = .ok (.isub, 1) := by decide +kernel
theorem dX8_turnAt_26 : decode cX8_turnAt 26 = .ok (.aload_n 0, 1) := by decide +kernel
theorem dX8_turnAt_27 : decode cX8_turnAt 27 = .ok (.getfield 286, 3) := by decide +kernel
theorem dX8_turnAt_30 : decode cX8_turnAt 30 = .ok (.irem, 1) := by decide +kernel
theorem dX8_turnAt_31 : decode cX8_turnAt 31 = .ok (.iadd, 1) := by decide +kernel
theorem dX8_turnAt_32 : decode cX8_turnAt 32 = .ok (.iaload, 1) := by decide +kernel
theorem dX8_turnAt_33 : decode cX8_turnAt 33 = .ok (.ireturn, 1) := by decide +kernel
theorem dX8_turnOf_0 : decode cX8_turnOf 0 = .ok (.aload_n 0, 1) := by decide +kernel
theorem dX8_turnOf_1 : decode cX8_turnOf 1 = .ok (.invokevirtual 160, 3) := by decide +kernel
theorem dX8_turnOf_4 : decode cX8_turnOf 4 = .ok (.aload_n 0, 1) := by decide +kernel
theorem dX8_turnOf_5 : decode cX8_turnOf 5 = .ok (.aload_n 0, 1) := by decide +kernel
theorem dX8_turnOf_6 : decode cX8_turnOf 6 = .ok (.getfield 173, 3) := by decide +kernel
theorem dX8_turnOf_9 : decode cX8_turnOf 9 = .ok (.iload_n 1, 1) := by decide +kernel
theorem dX8_turnOf_10 : decode cX8_turnOf 10 = .ok (.iconst 0, 1) := by decide +kernel
theorem dX8_turnOf_11 : decode cX8_turnOf 11 = .ok (.ldc_w 289, 3) := by decide +kernel
theorem dX8_turnOf_14 : decode cX8_turnOf 14 = .ok (.invokestatic 142, 3) := by decide +kernel
theorem dX8_turnOf_17 : decode cX8_turnOf 17 = .ok (.invokevirtual 290, 3) := by decide +kernel
theorem dX8_turnOf_20 : decode cX8_turnOf 20 = .ok (.istore_n 2, 1) := by decide +kernel
theorem dX8_turnOf_21 : decode cX8_turnOf 21 = .ok (.iload_n 2, 1) := by decide +kernel
theorem dX8_turnOf_22 : decode cX8_turnOf 22 = .ok (.ifCond .eq 9, 3) := by decide +kernel
theorem dX8_turnOf_25 : decode cX8_turnOf 25 = .ok (.aload_n 0, 1) := by decide +kernel
theorem dX8_turnOf_26 : decode cX8_turnOf 26 = .ok (.iload_n 2, 1) := by decide +kernel
theorem dX8_turnOf_27 : decode cX8_turnOf 27 = .ok (.invokevirtual 163, 3) := by decide +kernel
theorem dX8_turnOf_30 : decode cX8_turnOf 30 = .ok (.ireturn, 1) := by decide +kernel
theorem dX8_turnOf_31 : decode cX8_turnOf 31 = .ok (.aload_n 0, 1) := by decide +kernel
theorem dX8_turnOf_32 : decode cX8_turnOf 32 = .ok (.invokevirtual 294, 3) := by decide +kernel
theorem dX8_turnOf_35 : decode cX8_turnOf 35 = .ok (.aload_n 0, 1) := by decide +kernel
theorem dX8_turnOf_36 : decode cX8_turnOf 36 = .ok (.iload_n 1, 1) := by decide +kernel
theorem dX8_turnOf_37 : decode cX8_turnOf 37 = .ok (.invokevirtual 297, 3) := by decide +kernel
theorem dX8_turnOf_40 : decode cX8_turnOf 40 = .ok (.ireturn, 1) := by decide +kernel
theorem dX8_turnIn_0 : decode cX8_turnIn 0 = .ok (.aload_n 0, 1) := by decide +kernel
theorem dX8_turnIn_1 : decode cX8_turnIn 1 = .ok (.invokevirtual 160, 3) := by decide +kernel
theorem dX8_turnIn_4 : decode cX8_turnIn 4 = .ok (.aload_n 0, 1) := by decide +kernel
theorem dX8_turnIn_5 : decode cX8_turnIn 5 = .ok (.iload_n 1, 1) := by decide +kernel
theorem dX8_turnIn_6 : decode cX8_turnIn 6 = .ok (.invokevirtual 277, 3) := by decide +kernel
theorem dX8_turnIn_9 : decode cX8_turnIn 9 = .ok (.ifCond .ne 9, 3) := by decide +kernel
theorem dX8_turnIn_12 : decode cX8_turnIn 12 = .ok (.aload_n 0, 1) := by decide +kernel
theorem dX8_turnIn_13 : decode cX8_turnIn 13 = .ok (.iconst 1, 1) := by decide +kernel
theorem dX8_turnIn_14 : decode cX8_turnIn 14 = .ok (.invokevirtual 163, 3) := by decide +kernel
theorem dX8_turnIn_17 : decode cX8_turnIn 17 = .ok (.ireturn, 1) := by decide +kernel
theorem dX8_turnIn_18 : decode cX8_turnIn 18 = .ok (.aload_n 0, 1) := by decide +kernel
theorem dX8_turnIn_19 : decode cX8_turnIn 19 = .ok (.invokevirtual 294, 3) := by decide +kernel
theorem dX8_turnIn_22 : decode cX8_turnIn 22 = .ok (.iconst 0, 1) := by decide +kernel
theorem dX8_turnIn_23 : decode cX8_turnIn 23 = .ok (.istore_n 2, 1) := by decide +kernel
theorem dX8_turnIn_24 : decode cX8_turnIn 24 = .ok (.iload_n 2, 1) := by decide +kernel
theorem dX8_turnIn_25 : decode cX8_turnIn 25 = .ok (.aload_n 0, 1) := by decide +kernel
theorem dX8_turnIn_26 : decode cX8_turnIn 26 = .ok (.getfield 283, 3) := by decide +kernel
theorem dX8_turnIn_29 : decode cX8_turnIn 29 = .ok (.aload_n 0, 1) := by decide +kernel
theorem dX8_turnIn_30 : decode cX8_turnIn 30 = .ok (.getfield 286, 3) := by decide +kernel
theorem dX8_turnIn_33 : decode cX8_turnIn 33 = .ok (.iadd, 1) := by decide +kernel
theorem dX8_turnIn_34 : decode cX8_turnIn 34 = .ok (.if_icmp .ge 21, 3) := by decide +kernel
theorem dX8_turnIn_37 : decode cX8_turnIn 37 = .ok (.aload_n 0, 1) := by decide +kernel
theorem dX8_turnIn_38 : decode cX8_turnIn 38 = .ok (.getfield 44, 3) := by decide +kernel
theorem dX8_turnIn_41 : decode cX8_turnIn 41 = .ok (.iload_n 2, 1) := by decide +kernel
theorem dX8_turnIn_42 : decode cX8_turnIn 42 = .ok (.iaload, 1) := by decide +kernel
theorem dX8_turnIn_43 : decode cX8_turnIn 43 = .ok (.iload_n 1, 1) := by decide +kernel
theorem dX8_turnIn_44 : decode cX8_turnIn 44 = .ok (.if_icmp .ne 5, 3) := by decide +kernel
theorem dX8_turnIn_47 : decode cX8_turnIn 47 = .ok (.iload_n 2, 1) := by decide +kernel
theorem dX8_turnIn_48 : decode cX8_turnIn 48 = .ok (.ireturn, 1) := by decide +kernel
theorem dX8_turnIn_49 : decode cX8_turnIn 49 = .ok (.iinc 2 1, 3) := by decide +kernel
theorem dX8_turnIn_52 : decode cX8_turnIn 52 = .ok (.goto (-28), 3) := by decide +kernel
theorem dX8_turnIn_55 : decode cX8_turnIn 55 = .ok (.bipush (-2), 2) := by decide +kernel
theorem dX8_turnIn_57 : decode cX8_turnIn 57 = .ok (.ireturn, 1) := by decide +kernel
theorem dX8_settles_0 : decode cX8_settles 0 = .ok (.aload_n 0, 1) := by decide +kernel
theorem dX8_settles_1 : decode cX8_settles 1 = .ok (.invokevirtual 160, 3) := by decide +kernel
theorem dX8_settles_4 : decode cX8_settles 4 = .ok (.aload_n 0, 1) := by decide +kernel
theorem dX8_settles_5 : decode cX8_settles 5 = .ok (.getfield 173, 3) := by decide +kernel
theorem dX8_settles_8 : decode cX8_settles 8 = .ok (.ifCond .ne 9, 3) := by decide +kernel
theorem dX8_settles_11 : decode cX8_settles 11 = .ok (.aload_n 0, 1) := by decide +kernel
theorem dX8_settles_12 : decode cX8_settles 12 = .ok (.iconst 1, 1) := by decide +kernel
theorem dX8_settles_13 : decode cX8_settles 13 = .ok (.invokevirtual 163, 3) := by decide +kernel
theorem dX8_settles_16 : decode cX8_settles 16 = .ok (.ireturn, 1) := by decide +kernel
theorem dX8_settles_17 : decode cX8_settles 17 = .ok (.aload_n 0, 1) := by decide +kernel
theorem dX8_settles_18 : decode cX8_settles 18 = .ok (.invokevirtual 294, 3) := by decide +kernel
theorem dX8_settles_21 : decode cX8_settles 21 = .ok (.aload_n 0, 1) := by decide +kernel
theorem dX8_settles_22 : decode cX8_settles 22 = .ok (.getfield 283, 3) := by decide +kernel
theorem dX8_settles_25 : decode cX8_settles 25 = .ok (.ireturn, 1) := by decide +kernel
theorem dX8_round_0 : decode cX8_round 0 = .ok (.aload_n 0, 1) := by decide +kernel
theorem dX8_round_1 : decode cX8_round 1 = .ok (.invokevirtual 160, 3) := by decide +kernel
theorem dX8_round_4 : decode cX8_round 4 = .ok (.aload_n 0, 1) := by decide +kernel
theorem dX8_round_5 : decode cX8_round 5 = .ok (.getfield 173, 3) := by decide +kernel
theorem dX8_round_8 : decode cX8_round 8 = .ok (.ifCond .ne 9, 3) := by decide +kernel
theorem dX8_round_11 : decode cX8_round 11 = .ok (.aload_n 0, 1) := by decide +kernel
theorem dX8_round_12 : decode cX8_round 12 = .ok (.iconst 1, 1) := by decide +kernel
theorem dX8_round_13 : decode cX8_round 13 = .ok (.invokevirtual 163, 3) := by decide +kernel
theorem dX8_round_16 : decode cX8_round 16 = .ok (.ireturn, 1) := by decide +kernel
theorem dX8_round_17 : decode cX8_round 17 = .ok (.aload_n 0, 1) := by decide +kernel
theorem dX8_round_18 : decode cX8_round 18 = .ok (.invokevirtual 294, 3) := by decide +kernel
theorem dX8_round_21 : decode cX8_round 21 = .ok (.aload_n 0, 1) := by decide +kernel
theorem dX8_round_22 : decode cX8_round 22 = .ok (.getfield 286, 3) := by decide +kernel
theorem dX8_round_25 : decode cX8_round 25 = .ok (.ireturn, 1) := by decide +kernel
theorem dX8_called_0 : decode cX8_called 0 = .ok (.aload_n 0, 1) := by decide +kernel
theorem dX8_called_1 : decode cX8_called 1 = .ok (.invokevirtual 160, 3) := by decide +kernel
theorem dX8_called_4 : decode cX8_called 4 = .ok (.aload_n 0, 1) := by decide +kernel
theorem dX8_called_5 : decode cX8_called 5 = .ok (.getfield 173, 3) := by decide +kernel
theorem dX8_called_8 : decode cX8_called 8 = .ok (.ifCond .ne 9, 3) := by decide +kernel
theorem dX8_called_11 : decode cX8_called 11 = .ok (.aload_n 0, 1) := by decide +kernel
theorem dX8_called_12 : decode cX8_called 12 = .ok (.iconst 1, 1) := by decide +kernel
theorem dX8_called_13 : decode cX8_called 13 = .ok (.invokevirtual 163, 3) := by decide +kernel
theorem dX8_called_16 : decode cX8_called 16 = .ok (.ireturn, 1) := by decide +kernel
theorem dX8_called_17 : decode cX8_called 17 = .ok (.aload_n 0, 1) := by decide +kernel
theorem dX8_called_18 : decode cX8_called 18 = .ok (.invokevirtual 294, 3) := by decide +kernel
theorem dX8_called_21 : decode cX8_called 21 = .ok (.iconst 0, 1) := by decide +kernel
theorem dX8_called_22 : decode cX8_called 22 = .ok (.istore_n 1, 1) := by decide +kernel
theorem dX8_called_23 : decode cX8_called 23 = .ok (.iconst 0, 1) := by decide +kernel
theorem dX8_called_24 : decode cX8_called 24 = .ok (.istore_n 2, 1) := by decide +kernel
theorem dX8_called_25 : decode cX8_called 25 = .ok (.iload_n 2, 1) := by decide +kernel
theorem dX8_called_26 : decode cX8_called 26 = .ok (.aload_n 0, 1) := by decide +kernel
theorem dX8_called_27 : decode cX8_called 27 = .ok (.getfield 283, 3) := by decide +kernel
theorem dX8_called_30 : decode cX8_called 30 = .ok (.aload_n 0, 1) := by decide +kernel
theorem dX8_called_31 : decode cX8_called 31 = .ok (.getfield 286, 3) := by decide +kernel
theorem dX8_called_34 : decode cX8_called 34 = .ok (.iadd, 1) := by decide +kernel
theorem dX8_called_35 : decode cX8_called 35 = .ok (.if_icmp .ge 20, 3) := by decide +kernel
theorem dX8_called_38 : decode cX8_called 38 = .ok (.iload_n 1, 1) := by decide +kernel
theorem dX8_called_39 : decode cX8_called 39 = .ok (.iconst 1, 1) := by decide +kernel
theorem dX8_called_40 : decode cX8_called 40 = .ok (.aload_n 0, 1) := by decide +kernel
theorem dX8_called_41 : decode cX8_called 41 = .ok (.getfield 44, 3) := by decide +kernel
theorem dX8_called_44 : decode cX8_called 44 = .ok (.iload_n 2, 1) := by decide +kernel
theorem dX8_called_45 : decode cX8_called 45 = .ok (.iaload, 1) := by decide +kernel
theorem dX8_called_46 : decode cX8_called 46 = .ok (.ishl, 1) := by decide +kernel
theorem dX8_called_47 : decode cX8_called 47 = .ok (.ior, 1) := by decide +kernel
theorem dX8_called_48 : decode cX8_called 48 = .ok (.istore_n 1, 1) := by decide +kernel
theorem dX8_called_49 : decode cX8_called 49 = .ok (.iinc 2 1, 3) := by decide +kernel
theorem dX8_called_52 : decode cX8_called 52 = .ok (.goto (-27), 3) := by decide +kernel
theorem dX8_called_55 : decode cX8_called 55 = .ok (.iload_n 1, 1) := by decide +kernel
theorem dX8_called_56 : decode cX8_called 56 = .ok (.ireturn, 1) := by decide +kernel
theorem dX8_minutesOf_0 : decode cX8_minutesOf 0 = .ok (.aload_n 0, 1) := by decide +kernel
theorem dX8_minutesOf_1 : decode cX8_minutesOf 1 = .ok (.invokevirtual 160, 3) := by decide +kernel
theorem dX8_minutesOf_4 : decode cX8_minutesOf 4 = .ok (.aload_n 0, 1) := by decide +kernel
theorem dX8_minutesOf_5 : decode cX8_minutesOf 5 = .ok (.aload_n 0, 1) := by decide +kernel
theorem dX8_minutesOf_6 : decode cX8_minutesOf 6 = .ok (.iload_n 1, 1) := by decide +kernel
theorem dX8_minutesOf_7 : decode cX8_minutesOf 7 = .ok (.invokevirtual 277, 3) := by decide +kernel
theorem dX8_minutesOf_10 : decode cX8_minutesOf 10 = .ok (.iload_n 2, 1) := by decide +kernel
theorem dX8_minutesOf_11 : decode cX8_minutesOf 11 = .ok (.iconst 0, 1) := by decide +kernel
theorem dX8_minutesOf_12 : decode cX8_minutesOf 12 = .ok (.sipush 999, 3) := by decide +kernel
theorem dX8_minutesOf_15 : decode cX8_minutesOf 15 = .ok (.invokestatic 142, 3) := by decide +kernel
theorem dX8_minutesOf_18 : decode cX8_minutesOf 18 = .ok (.invokevirtual 290, 3) := by decide +kernel
theorem dX8_minutesOf_21 : decode cX8_minutesOf 21 = .ok (.istore_n 3, 1) := by decide +kernel
theorem dX8_minutesOf_22 : decode cX8_minutesOf 22 = .ok (.iload_n 3, 1) := by decide +kernel
theorem dX8_minutesOf_23 : decode cX8_minutesOf 23 = .ok (.ifCond .eq 9, 3) := by decide +kernel
theorem dX8_minutesOf_26 : decode cX8_minutesOf 26 = .ok (.aload_n 0, 1) := by decide +kernel
theorem dX8_minutesOf_27 : decode cX8_minutesOf 27 = .ok (.iload_n 3, 1) := by decide +kernel
theorem dX8_minutesOf_28 : decode cX8_minutesOf 28 = .ok (.invokevirtual 163, 3) := by decide +kernel
theorem dX8_minutesOf_31 : decode cX8_minutesOf 31 = .ok (.ireturn, 1) := by decide +kernel
theorem dX8_minutesOf_32 : decode cX8_minutesOf 32 = .ok (.aload_n 0, 1) := by decide +kernel
theorem dX8_minutesOf_33 : decode cX8_minutesOf 33 = .ok (.invokevirtual 294, 3) := by decide +kernel
theorem dX8_minutesOf_36 : decode cX8_minutesOf 36 = .ok (.iconst 0, 1) := by decide +kernel
theorem dX8_minutesOf_37 : decode cX8_minutesOf 37 = .ok (.istore 4, 2) := by decide +kernel
theorem dX8_minutesOf_39 : decode cX8_minutesOf 39 = .ok (.iconst 0, 1) := by decide +kernel
theorem dX8_minutesOf_40 : decode cX8_minutesOf 40 = .ok (.istore 5, 2) := by decide +kernel
theorem dX8_minutesOf_42 : decode cX8_minutesOf 42 = .ok (.iload 5, 2) := by decide +kernel
theorem dX8_minutesOf_44 : decode cX8_minutesOf 44 = .ok (.iload_n 2, 1) := by decide +kernel
theorem dX8_minutesOf_45 : decode cX8_minutesOf 45 = .ok (.if_icmp .ge 44, 3) := by decide +kernel
theorem dX8_minutesOf_48 : decode cX8_minutesOf 48 = .ok (.iload 4, 2) := by decide +kernel
theorem dX8_minutesOf_50 : decode cX8_minutesOf 50 = .ok (.aload_n 0, 1) := by decide +kernel
theorem dX8_minutesOf_51 : decode cX8_minutesOf 51 = .ok (.aload_n 0, 1) := by decide +kernel
theorem dX8_minutesOf_52 : decode cX8_minutesOf 52 = .ok (.getfield 26, 3) := by decide +kernel
theorem dX8_minutesOf_55 : decode cX8_minutesOf 55 = .ok (.bipush 20, 2) := by decide +kernel
theorem dX8_minutesOf_57 : decode cX8_minutesOf 57 = .ok (.iaload, 1) := by decide +kernel
theorem dX8_minutesOf_58 : decode cX8_minutesOf 58 = .ok (.iload 5, 2) := by decide +kernel
theorem dX8_minutesOf_60 : decode cX8_minutesOf 60 = .ok (.iadd, 1) := by decide +kernel
theorem dX8_minutesOf_61 : decode cX8_minutesOf 61 = .ok (.aload_n 0, 1) := by decide +kernel
theorem dX8_minutesOf_62 : decode cX8_minutesOf 62 = .ok (.getfield 20, 3) := by decide +kernel
theorem dX8_minutesOf_65 : decode cX8_minutesOf 65 = .ok (.iconst 1, 1) := by decide +kernel
theorem dX8_minutesOf_66 : decode cX8_minutesOf 66 = .ok (.iaload, 1) := by decide +kernel
theorem dX8_minutesOf_67 : decode cX8_minutesOf 67 = .ok (.idiv, 1) := by decide +kernel
theorem dX8_minutesOf_68 : decode cX8_minutesOf 68 = .ok (.invokevirtual 297, 3) := by decide +kernel
theorem dX8_minutesOf_71 : decode cX8_minutesOf 71 = .ok (.iload_n 1, 1) := by decide +kernel
theorem dX8_minutesOf_72 : decode cX8_minutesOf 72 = .ok (.if_icmp .ne 7, 3) := by decide +kernel
theorem dX8_minutesOf_75 : decode cX8_minutesOf 75 = .ok (.iconst 1, 1) := by decide +kernel
theorem dX8_minutesOf_76 : decode cX8_minutesOf 76 = .ok (.goto 4, 3) := by decide +kernel
theorem dX8_minutesOf_79 : decode cX8_minutesOf 79 = .ok (.iconst 0, 1) := by decide +kernel
theorem dX8_minutesOf_80 : decode cX8_minutesOf 80 = .ok (.iadd, 1) := by decide +kernel
theorem dX8_minutesOf_81 : decode cX8_minutesOf 81 = .ok (.istore 4, 2) := by decide +kernel
theorem dX8_minutesOf_83 : decode cX8_minutesOf 83 = .ok (.iinc 5 1, 3) := by decide +kernel
theorem dX8_minutesOf_86 : decode cX8_minutesOf 86 = .ok (.goto (-44), 3) := by decide +kernel
theorem dX8_minutesOf_89 : decode cX8_minutesOf 89 = .ok (.iload 4, 2) := by decide +kernel
theorem dX8_minutesOf_91 : decode cX8_minutesOf 91 = .ok (.ireturn, 1) := by decide +kernel
theorem dX8_aheadWhy_0 : decode cX8_aheadWhy 0 = .ok (.aload_n 0, 1) := by decide +kernel
theorem dX8_aheadWhy_1 : decode cX8_aheadWhy 1 = .ok (.iload_n 1, 1) := by decide +kernel
theorem dX8_aheadWhy_2 : decode cX8_aheadWhy 2 = .ok (.iload_n 3, 1) := by decide +kernel
theorem dX8_aheadWhy_3 : decode cX8_aheadWhy 3 = .ok (.iload_n 2, 1) := by decide +kernel
theorem dX8_aheadWhy_4 : decode cX8_aheadWhy 4 = .ok (.sipush 300, 3) := by decide +kernel
theorem dX8_aheadWhy_7 : decode cX8_aheadWhy 7 = .ok (.invokestatic 142, 3) := by decide +kernel
theorem dX8_aheadWhy_10 : decode cX8_aheadWhy 10 = .ok (.invokevirtual 290, 3) := by decide +kernel
theorem dX8_aheadWhy_13 : decode cX8_aheadWhy 13 = .ok (.ireturn, 1) := by decide +kernel
theorem dX8_place_0 : decode cX8_place 0 = .ok (.aload_n 0, 1) := by decide +kernel
theorem dX8_place_1 : decode cX8_place 1 = .ok (.invokevirtual 160, 3) := by decide +kernel
theorem dX8_place_4 : decode cX8_place 4 = .ok (.aload_n 0, 1) := by decide +kernel
theorem dX8_place_5 : decode cX8_place 5 = .ok (.aload_n 0, 1) := by decide +kernel
theorem dX8_place_6 : decode cX8_place 6 = .ok (.iload_n 1, 1) := by decide +kernel
theorem dX8_place_7 : decode cX8_place 7 = .ok (.invokevirtual 277, 3) := by decide +kernel
theorem dX8_place_10 : decode cX8_place 10 = .ok (.iconst 0, 1) := by decide +kernel
theorem dX8_place_11 : decode cX8_place 11 = .ok (.iload_n 2, 1) := by decide +kernel
theorem dX8_place_12 : decode cX8_place 12 = .ok (.invokevirtual 300, 3) := by decide +kernel
theorem dX8_place_15 : decode cX8_place 15 = .ok (.istore_n 3, 1) := by decide +kernel
theorem dX8_place_16 : decode cX8_place 16 = .ok (.iload_n 3, 1) := by decide +kernel
theorem dX8_place_17 : decode cX8_place 17 = .ok (.ifCond .eq 9, 3) := by decide +kernel
theorem dX8_place_20 : decode cX8_place 20 = .ok (.aload_n 0, 1) := by decide +kernel
theorem dX8_place_21 : decode cX8_place 21 = .ok (.iload_n 3, 1) := by decide +kernel
theorem dX8_place_22 : decode cX8_place 22 = .ok (.invokevirtual 163, 3) := by decide +kernel
theorem dX8_place_25 : decode cX8_place 25 = .ok (.ireturn, 1) := by decide +kernel
theorem dX8_place_26 : decode cX8_place 26 = .ok (.aload_n 0, 1) := by decide +kernel
theorem dX8_place_27 : decode cX8_place 27 = .ok (.iload_n 2, 1) := by decide +kernel
theorem dX8_place_28 : decode cX8_place 28 = .ok (.invokevirtual 304, 3) := by decide +kernel
theorem dX8_place_31 : decode cX8_place 31 = .ok (.aload_n 0, 1) := by decide +kernel
theorem dX8_place_32 : decode cX8_place 32 = .ok (.getfield 29, 3) := by decide +kernel
theorem dX8_place_35 : decode cX8_place 35 = .ok (.iload_n 1, 1) := by decide +kernel
theorem dX8_place_36 : decode cX8_place 36 = .ok (.iaload, 1) := by decide +kernel
theorem dX8_place_37 : decode cX8_place 37 = .ok (.ireturn, 1) := by decide +kernel
theorem dX8_watch_0 : decode cX8_watch 0 = .ok (.aload_n 0, 1) := by decide +kernel
theorem dX8_watch_1 : decode cX8_watch 1 = .ok (.invokevirtual 160, 3) := by decide +kernel
theorem dX8_watch_4 : decode cX8_watch 4 = .ok (.aload_n 0, 1) := by decide +kernel
theorem dX8_watch_5 : decode cX8_watch 5 = .ok (.aload_n 0, 1) := by decide +kernel
theorem dX8_watch_6 : decode cX8_watch 6 = .ok (.iload_n 1, 1) := by decide +kernel
theorem dX8_watch_7 : decode cX8_watch 7 = .ok (.invokevirtual 280, 3) := by decide +kernel
theorem dX8_watch_10 : decode cX8_watch 10 = .ok (.iconst 1, 1) := by decide +kernel
theorem dX8_watch_11 : decode cX8_watch 11 = .ok (.iload_n 2, 1) := by decide +kernel
theorem dX8_watch_12 : decode cX8_watch 12 = .ok (.invokevirtual 300, 3) := by decide +kernel
theorem dX8_watch_15 : decode cX8_watch 15 = .ok (.istore_n 3, 1) := by decide +kernel
theorem dX8_watch_16 : decode cX8_watch 16 = .ok (.iload_n 3, 1) := by decide +kernel
theorem dX8_watch_17 : decode cX8_watch 17 = .ok (.ifCond .eq 9, 3) := by decide +kernel
theorem dX8_watch_20 : decode cX8_watch 20 = .ok (.aload_n 0, 1) := by decide +kernel
theorem dX8_watch_21 : decode cX8_watch 21 = .ok (.iload_n 3, 1) := by decide +kernel
theorem dX8_watch_22 : decode cX8_watch 22 = .ok (.invokevirtual 163, 3) := by decide +kernel
theorem dX8_watch_25 : decode cX8_watch 25 = .ok (.ireturn, 1) := by decide +kernel
theorem dX8_watch_26 : decode cX8_watch 26 = .ok (.aload_n 0, 1) := by decide +kernel
theorem dX8_watch_27 : decode cX8_watch 27 = .ok (.invokevirtual 267, 3) := by decide +kernel
theorem dX8_watch_30 : decode cX8_watch 30 = .ok (.aload_n 0, 1) := by decide +kernel
theorem dX8_watch_31 : decode cX8_watch 31 = .ok (.iload_n 1, 1) := by decide +kernel
theorem dX8_watch_32 : decode cX8_watch 32 = .ok (.aload_n 0, 1) := by decide +kernel
theorem dX8_watch_33 : decode cX8_watch 33 = .ok (.getfield 26, 3) := by decide +kernel
theorem dX8_watch_36 : decode cX8_watch 36 = .ok (.bipush 21, 2) := by decide +kernel
theorem dX8_watch_38 : decode cX8_watch 38 = .ok (.iaload, 1) := by decide +kernel
theorem dX8_watch_39 : decode cX8_watch 39 = .ok (.iload_n 2, 1) := by decide +kernel
theorem dX8_watch_40 : decode cX8_watch 40 = .ok (.iadd, 1) := by decide +kernel
theorem dX8_watch_41 : decode cX8_watch 41 = .ok (.iconst 1, 1) := by decide +kernel
theorem dX8_watch_42 : decode cX8_watch 42 = .ok (.isub, 1) := by decide +kernel
theorem dX8_watch_43 : decode cX8_watch 43 = .ok (.invokevirtual 242, 3) := by decide +kernel
theorem dX8_watch_46 : decode cX8_watch 46 = .ok (.ireturn, 1) := by decide +kernel
theorem dX8_gone_0 : decode cX8_gone 0 = .ok (.aload_n 0, 1) := by decide +kernel
theorem dX8_gone_1 : decode cX8_gone 1 = .ok (.invokevirtual 160, 3) := by decide +kernel
theorem dX8_gone_4 : decode cX8_gone 4 = .ok (.aload_n 0, 1) := by decide +kernel
theorem dX8_gone_5 : decode cX8_gone 5 = .ok (.aload_n 0, 1) := by decide +kernel
theorem dX8_gone_6 : decode cX8_gone 6 = .ok (.getfield 173, 3) := by decide +kernel
theorem dX8_gone_9 : decode cX8_gone 9 = .ok (.iconst 0, 1) := by decide +kernel
theorem dX8_gone_10 : decode cX8_gone 10 = .ok (.iload_n 1, 1) := by decide +kernel
theorem dX8_gone_11 : decode cX8_gone 11 = .ok (.invokevirtual 300, 3) := by decide +kernel
theorem dX8_gone_14 : decode cX8_gone 14 = .ok (.istore_n 2, 1) := by decide +kernel
theorem dX8_gone_15 : decode cX8_gone 15 = .ok (.iload_n 2, 1) := by decide +kernel
theorem dX8_gone_16 : decode cX8_gone 16 = .ok (.ifCond .eq 9, 3) := by decide +kernel
theorem dX8_gone_19 : decode cX8_gone 19 = .ok (.aload_n 0, 1) := by decide +kernel
theorem dX8_gone_20 : decode cX8_gone 20 = .ok (.iload_n 2, 1) := by decide +kernel
theorem dX8_gone_21 : decode cX8_gone 21 = .ok (.invokevirtual 163, 3) := by decide +kernel
theorem dX8_gone_24 : decode cX8_gone 24 = .ok (.ireturn, 1) := by decide +kernel
theorem dX8_gone_25 : decode cX8_gone 25 = .ok (.aload_n 0, 1) := by decide +kernel
theorem dX8_gone_26 : decode cX8_gone 26 = .ok (.iload_n 1, 1) := by decide +kernel
theorem dX8_gone_27 : decode cX8_gone 27 = .ok (.invokevirtual 304, 3) := by decide +kernel
theorem dX8_gone_30 : decode cX8_gone 30 = .ok (.aload_n 0, 1) := by decide +kernel
theorem dX8_gone_31 : decode cX8_gone 31 = .ok (.getfield 29, 3) := by decide +kernel
theorem dX8_gone_34 : decode cX8_gone 34 = .ok (.bipush 18, 2) := by decide +kernel
theorem dX8_gone_36 : decode cX8_gone 36 = .ok (.iaload, 1) := by decide +kernel
theorem dX8_gone_37 : decode cX8_gone 37 = .ok (.ireturn, 1) := by decide +kernel
theorem dX8_nextGone_0 : decode cX8_nextGone 0 = .ok (.aload_n 0, 1) := by decide +kernel
theorem dX8_nextGone_1 : decode cX8_nextGone 1 = .ok (.getfield 29, 3) := by decide +kernel
theorem dX8_nextGone_4 : decode cX8_nextGone 4 = .ok (.bipush 18, 2) := by decide +kernel
theorem dX8_nextGone_6 : decode cX8_nextGone 6 = .ok (.iaload, 1) := by decide +kernel
theorem dX8_nextGone_7 : decode cX8_nextGone 7 = .ok (.istore_n 1, 1) := by decide +kernel
theorem dX8_nextGone_8 : decode cX8_nextGone 8 = .ok (.iconst 1, 1) := by decide +kernel
theorem dX8_nextGone_9 : decode cX8_nextGone 9 = .ok (.istore_n 2, 1) := by decide +kernel
theorem dX8_nextGone_10 : decode cX8_nextGone 10 = .ok (.iload_n 2, 1) := by decide +kernel
theorem dX8_nextGone_11 : decode cX8_nextGone 11 = .ok (.sipush 300, 3) := by decide +kernel
theorem dX8_nextGone_14 : decode cX8_nextGone 14 = .ok (.if_icmp .gt 30, 3) := by decide +kernel
theorem dX8_nextGone_17 : decode cX8_nextGone 17 = .ok (.aload_n 0, 1) := by decide +kernel
theorem dX8_nextGone_18 : decode cX8_nextGone 18 = .ok (.aload_n 0, 1) := by decide +kernel
theorem dX8_nextGone_19 : decode cX8_nextGone 19 = .ok (.getfield 29, 3) := by decide +kernel
theorem dX8_nextGone_22 : decode cX8_nextGone 22 = .ok (.invokevirtual 273, 3) := by decide +kernel
theorem dX8_nextGone_25 : decode cX8_nextGone 25 = .ok (.aload_n 0, 1) := by decide +kernel
theorem dX8_nextGone_26 : decode cX8_nextGone 26 = .ok (.getfield 29, 3) := by decide +kernel
theorem dX8_nextGone_29 : decode cX8_nextGone 29 = .ok (.bipush 18, 2) := by decide +kernel
theorem dX8_nextGone_31 : decode cX8_nextGone 31 = .ok (.iaload, 1) := by decide +kernel
theorem dX8_nextGone_32 : decode cX8_nextGone 32 = .ok (.iload_n 1, 1) := by decide +kernel
theorem dX8_nextGone_33 : decode cX8_nextGone 33 = .ok (.if_icmp .eq 5, 3) := by decide +kernel
theorem dX8_nextGone_36 : decode cX8_nextGone 36 = .ok (.iload_n 2, 1) := by decide +kernel
theorem dX8_nextGone_37 : decode cX8_nextGone 37 = .ok (.ireturn, 1) := by decide +kernel
theorem dX8_nextGone_38 : decode cX8_nextGone 38 = .ok (.iinc 2 1, 3) := by decide +kernel
theorem dX8_nextGone_41 : decode cX8_nextGone 41 = .ok (.goto (-31), 3) := by decide +kernel
theorem dX8_nextGone_44 : decode cX8_nextGone 44 = .ok (.bipush (-2), 2) := by decide +kernel
theorem dX8_nextGone_46 : decode cX8_nextGone 46 = .ok (.ireturn, 1) := by decide +kernel
theorem dX8_stairs_0 : decode cX8_stairs 0 = .ok (.aload_n 0, 1) := by decide +kernel
theorem dX8_stairs_1 : decode cX8_stairs 1 = .ok (.invokevirtual 160, 3) := by decide +kernel
theorem dX8_stairs_4 : decode cX8_stairs 4 = .ok (.aload_n 0, 1) := by decide +kernel
theorem dX8_stairs_5 : decode cX8_stairs 5 = .ok (.getfield 173, 3) := by decide +kernel
theorem dX8_stairs_8 : decode cX8_stairs 8 = .ok (.ifCond .ne 9, 3) := by decide +kernel
theorem dX8_stairs_11 : decode cX8_stairs 11 = .ok (.aload_n 0, 1) := by decide +kernel
theorem dX8_stairs_12 : decode cX8_stairs 12 = .ok (.iconst 1, 1) := by decide +kernel
theorem dX8_stairs_13 : decode cX8_stairs 13 = .ok (.invokevirtual 163, 3) := by decide +kernel
theorem dX8_stairs_16 : decode cX8_stairs 16 = .ok (.ireturn, 1) := by decide +kernel
theorem dX8_stairs_17 : decode cX8_stairs 17 = .ok (.aload_n 0, 1) := by decide +kernel
theorem dX8_stairs_18 : decode cX8_stairs 18 = .ok (.invokevirtual 270, 3) := by decide +kernel
theorem dX8_stairs_21 : decode cX8_stairs 21 = .ok (.aload_n 0, 1) := by decide +kernel
theorem dX8_stairs_22 : decode cX8_stairs 22 = .ok (.invokevirtual 307, 3) := by decide +kernel
theorem dX8_stairs_25 : decode cX8_stairs 25 = .ok (.ireturn, 1) := by decide +kernel
theorem dX8_catches_0 : decode cX8_catches 0 = .ok (.aload_n 0, 1) := by decide +kernel
theorem dX8_catches_1 : decode cX8_catches 1 = .ok (.invokevirtual 160, 3) := by decide +kernel
theorem dX8_catches_4 : decode cX8_catches 4 = .ok (.aload_n 0, 1) := by decide +kernel
theorem dX8_catches_5 : decode cX8_catches 5 = .ok (.aload_n 0, 1) := by decide +kernel
theorem dX8_catches_6 : decode cX8_catches 6 = .ok (.getfield 173, 3) := by decide +kernel
theorem dX8_catches_9 : decode cX8_catches 9 = .ok (.iconst 0, 1) := by decide +kernel
theorem dX8_catches_10 : decode cX8_catches 10 = .ok (.iload_n 1, 1) := by decide +kernel
theorem dX8_catches_11 : decode cX8_catches 11 = .ok (.invokevirtual 300, 3) := by decide +kernel
theorem dX8_catches_14 : decode cX8_catches 14 = .ok (.istore_n 2, 1) := by decide +kernel
theorem dX8_catches_15 : decode cX8_catches 15 = .ok (.iload_n 2, 1) := by decide +kernel
theorem dX8_catches_16 : decode cX8_catches 16 = .ok (.ifCond .eq 9, 3) := by decide +kernel
theorem dX8_catches_19 : decode cX8_catches 19 = .ok (.aload_n 0, 1) := by decide +kernel
theorem dX8_catches_20 : decode cX8_catches 20 = .ok (.iload_n 2, 1) := by decide +kernel
theorem dX8_catches_21 : decode cX8_catches 21 = .ok (.invokevirtual 163, 3) := by decide +kernel
theorem dX8_catches_24 : decode cX8_catches 24 = .ok (.ireturn, 1) := by decide +kernel
theorem dX8_catches_25 : decode cX8_catches 25 = .ok (.aload_n 0, 1) := by decide +kernel
theorem dX8_catches_26 : decode cX8_catches 26 = .ok (.iload_n 1, 1) := by decide +kernel
theorem dX8_catches_27 : decode cX8_catches 27 = .ok (.invokevirtual 304, 3) := by decide +kernel
theorem dX8_catches_30 : decode cX8_catches 30 = .ok (.aload_n 0, 1) := by decide +kernel
theorem dX8_catches_31 : decode cX8_catches 31 = .ok (.getfield 29, 3) := by decide +kernel
theorem dX8_catches_34 : decode cX8_catches 34 = .ok (.bipush 22, 2) := by decide +kernel
theorem dX8_catches_36 : decode cX8_catches 36 = .ok (.iaload, 1) := by decide +kernel
theorem dX8_catches_37 : decode cX8_catches 37 = .ok (.aload_n 0, 1) := by decide +kernel
theorem dX8_catches_38 : decode cX8_catches 38 = .ok (.getfield 26, 3) := by decide +kernel
theorem dX8_catches_41 : decode cX8_catches 41 = .ok (.bipush 22, 2) := by decide +kernel
theorem dX8_catches_43 : decode cX8_catches 43 = .ok (.iaload, 1) := by decide +kernel
theorem dX8_catches_44 : decode cX8_catches 44 = .ok (.isub, 1) := by decide +kernel
theorem dX8_catches_45 : decode cX8_catches 45 = .ok (.ireturn, 1) := by decide +kernel
theorem dX8_heard_0 : decode cX8_heard 0 = .ok (.aload_n 0, 1) := by decide +kernel
theorem dX8_heard_1 : decode cX8_heard 1 = .ok (.invokevirtual 160, 3) := by decide +kernel
theorem dX8_heard_4 : decode cX8_heard 4 = .ok (.aload_n 0, 1) := by decide +kernel
theorem dX8_heard_5 : decode cX8_heard 5 = .ok (.aload_n 0, 1) := by decide +kernel
theorem dX8_heard_6 : decode cX8_heard 6 = .ok (.iload_n 1, 1) := by decide +kernel
theorem dX8_heard_7 : decode cX8_heard 7 = .ok (.invokevirtual 277, 3) := by decide +kernel
theorem dX8_heard_10 : decode cX8_heard 10 = .ok (.iconst 0, 1) := by decide +kernel
theorem dX8_heard_11 : decode cX8_heard 11 = .ok (.iload_n 2, 1) := by decide +kernel
theorem dX8_heard_12 : decode cX8_heard 12 = .ok (.invokevirtual 300, 3) := by decide +kernel
theorem dX8_heard_15 : decode cX8_heard 15 = .ok (.istore_n 3, 1) := by decide +kernel
theorem dX8_heard_16 : decode cX8_heard 16 = .ok (.iload_n 3, 1) := by decide +kernel
theorem dX8_heard_17 : decode cX8_heard 17 = .ok (.ifCond .eq 9, 3) := by decide +kernel
theorem dX8_heard_20 : decode cX8_heard 20 = .ok (.aload_n 0, 1) := by decide +kernel
theorem dX8_heard_21 : decode cX8_heard 21 = .ok (.iload_n 3, 1) := by decide +kernel
theorem dX8_heard_22 : decode cX8_heard 22 = .ok (.invokevirtual 163, 3) := by decide +kernel
theorem dX8_heard_25 : decode cX8_heard 25 = .ok (.ireturn, 1) := by decide +kernel
theorem dX8_heard_26 : decode cX8_heard 26 = .ok (.aload_n 0, 1) := by decide +kernel
theorem dX8_heard_27 : decode cX8_heard 27 = .ok (.invokevirtual 270, 3) := by decide +kernel
theorem dX8_heard_30 : decode cX8_heard 30 = .ok (.aload_n 0, 1) := by decide +kernel
theorem dX8_heard_31 : decode cX8_heard 31 = .ok (.getfield 29, 3) := by decide +kernel
theorem dX8_heard_34 : decode cX8_heard 34 = .ok (.bipush 9, 2) := by decide +kernel
theorem dX8_heard_36 : decode cX8_heard 36 = .ok (.iload_n 1, 1) := by decide +kernel
theorem dX8_heard_37 : decode cX8_heard 37 = .ok (.iadd, 1) := by decide +kernel
theorem dX8_heard_38 : decode cX8_heard 38 = .ok (.iconst 0, 1) := by decide +kernel
theorem dX8_heard_39 : decode cX8_heard 39 = .ok (.iastore, 1) := by decide +kernel
theorem dX8_heard_40 : decode cX8_heard 40 = .ok (.iconst 0, 1) := by decide +kernel
theorem dX8_heard_41 : decode cX8_heard 41 = .ok (.istore 4, 2) := by decide +kernel
theorem dX8_heard_43 : decode cX8_heard 43 = .ok (.iload 4, 2) := by decide +kernel
theorem dX8_heard_45 : decode cX8_heard 45 = .ok (.iload_n 2, 1) := by decide +kernel
theorem dX8_heard_46 : decode cX8_heard 46 = .ok (.if_icmp .ge 17, 3) := by decide +kernel
theorem dX8_heard_49 : decode cX8_heard 49 = .ok (.aload_n 0, 1) := by decide +kernel
theorem dX8_heard_50 : decode cX8_heard 50 = .ok (.aload_n 0, 1) := by decide +kernel
theorem dX8_heard_51 : decode cX8_heard 51 = .ok (.getfield 29, 3) := by decide +kernel
theorem dX8_heard_54 : decode cX8_heard 54 = .ok (.invokevirtual 273, 3) := by decide +kernel
theorem dX8_heard_57 : decode cX8_heard 57 = .ok (.iinc 4 1, 3) := by decide +kernel
theorem dX8_heard_60 : decode cX8_heard 60 = .ok (.goto (-17), 3) := by decide +kernel
theorem dX8_heard_63 : decode cX8_heard 63 = .ok (.aload_n 0, 1) := by decide +kernel
theorem dX8_heard_64 : decode cX8_heard 64 = .ok (.getfield 29, 3) := by decide +kernel
theorem dX8_heard_67 : decode cX8_heard 67 = .ok (.bipush 9, 2) := by decide +kernel
theorem dX8_heard_69 : decode cX8_heard 69 = .ok (.iload_n 1, 1) := by decide +kernel
theorem dX8_heard_70 : decode cX8_heard 70 = .ok (.iadd, 1) := by decide +kernel
theorem dX8_heard_71 : decode cX8_heard 71 = .ok (.iaload, 1) := by decide +kernel
theorem dX8_heard_72 : decode cX8_heard 72 = .ok (.ireturn, 1) := by decide +kernel
theorem dX8_allIn_0 : decode cX8_allIn 0 = .ok (.aload_n 0, 1) := by decide +kernel
theorem dX8_allIn_1 : decode cX8_allIn 1 = .ok (.invokevirtual 160, 3) := by decide +kernel
theorem dX8_allIn_4 : decode cX8_allIn 4 = .ok (.aload_n 0, 1) := by decide +kernel
theorem dX8_allIn_5 : decode cX8_allIn 5 = .ok (.iload_n 1, 1) := by decide +kernel
theorem dX8_allIn_6 : decode cX8_allIn 6 = .ok (.invokevirtual 277, 3) := by decide +kernel
theorem dX8_allIn_9 : decode cX8_allIn 9 = .ok (.ifCond .ne 9, 3) := by decide +kernel
theorem dX8_allIn_12 : decode cX8_allIn 12 = .ok (.aload_n 0, 1) := by decide +kernel
theorem dX8_allIn_13 : decode cX8_allIn 13 = .ok (.iconst 1, 1) := by decide +kernel
theorem dX8_allIn_14 : decode cX8_allIn 14 = .ok (.invokevirtual 163, 3) := by decide +kernel
theorem dX8_allIn_17 : decode cX8_allIn 17 = .ok (.ireturn, 1) := by decide +kernel
theorem dX8_allIn_18 : decode cX8_allIn 18 = .ok (.aload_n 0, 1) := by decide +kernel
theorem dX8_allIn_19 : decode cX8_allIn 19 = .ok (.getfield 20, 3) := by decide +kernel
theorem dX8_allIn_22 : decode cX8_allIn 22 = .ok (.bipush 12, 2) := by decide +kernel
theorem dX8_allIn_24 : decode cX8_allIn 24 = .ok (.iconst 2, 1) := by decide +kernel
theorem dX8_allIn_25 : decode cX8_allIn 25 = .ok (.iload_n 1, 1) := by decide +kernel
theorem dX8_allIn_26 : decode cX8_allIn 26 = .ok (.imul, 1) := by decide +kernel
theorem dX8_allIn_27 : decode cX8_allIn 27 = .ok (.iadd, 1) := by decide +kernel
theorem dX8_allIn_28 : decode cX8_allIn 28 = .ok (.iaload, 1) := by decide +kernel
theorem dX8_allIn_29 : decode cX8_allIn 29 = .ok (.iconst 2, 1) := by decide +kernel
theorem dX8_allIn_30 : decode cX8_allIn 30 = .ok (.if_icmp .eq 6, 3) := by decide +kernel
theorem dX8_allIn_33 : decode cX8_allIn 33 = .ok (.bipush (-2), 2) := by decide +kernel
theorem dX8_allIn_35 : decode cX8_allIn 35 = .ok (.ireturn, 1) := by decide +kernel
theorem dX8_allIn_36 : decode cX8_allIn 36 = .ok (.iconst 1, 1) := by decide +kernel
theorem dX8_allIn_37 : decode cX8_allIn 37 = .ok (.aload_n 0, 1) := by decide +kernel
theorem dX8_allIn_38 : decode cX8_allIn 38 = .ok (.getfield 20, 3) := by decide +kernel
theorem dX8_allIn_41 : decode cX8_allIn 41 = .ok (.bipush 12, 2) := by decide +kernel
theorem dX8_allIn_43 : decode cX8_allIn 43 = .ok (.iconst 2, 1) := by decide +kernel
theorem dX8_allIn_44 : decode cX8_allIn 44 = .ok (.iload_n 1, 1) := by decide +kernel
theorem dX8_allIn_45 : decode cX8_allIn 45 = .ok (.imul, 1) := by decide +kernel
theorem dX8_allIn_46 : decode cX8_allIn 46 = .ok (.iadd, 1) := by decide +kernel
theorem dX8_allIn_47 : decode cX8_allIn 47 = .ok (.iconst 1, 1) := by decide +kernel
theorem dX8_allIn_48 : decode cX8_allIn 48 = .ok (.iadd, 1) := by decide +kernel
theorem dX8_allIn_49 : decode cX8_allIn 49 = .ok (.iaload, 1) := by decide +kernel
theorem dX8_allIn_50 : decode cX8_allIn 50 = .ok (.ishl, 1) := by decide +kernel
theorem dX8_allIn_51 : decode cX8_allIn 51 = .ok (.iconst 1, 1) := by decide +kernel
theorem dX8_allIn_52 : decode cX8_allIn 52 = .ok (.isub, 1) := by decide +kernel
theorem dX8_allIn_53 : decode cX8_allIn 53 = .ok (.istore_n 2, 1) := by decide +kernel
theorem dX8_allIn_54 : decode cX8_allIn 54 = .ok (.aload_n 0, 1) := by decide +kernel
theorem dX8_allIn_55 : decode cX8_allIn 55 = .ok (.invokevirtual 270, 3) := by decide +kernel
theorem dX8_allIn_58 : decode cX8_allIn 58 = .ok (.iconst 0, 1) := by decide +kernel
theorem dX8_allIn_59 : decode cX8_allIn 59 = .ok (.istore_n 3, 1) := by decide +kernel
theorem dX8_allIn_60 : decode cX8_allIn 60 = .ok (.iload_n 3, 1) := by decide +kernel
theorem dX8_allIn_61 : decode cX8_allIn 61 = .ok (.sipush 300, 3) := by decide +kernel
theorem dX8_allIn_64 : decode cX8_allIn 64 = .ok (.if_icmp .gt 32, 3) := by decide +kernel
theorem dX8_allIn_67 : decode cX8_allIn 67 = .ok (.aload_n 0, 1) := by decide +kernel
theorem dX8_allIn_68 : decode cX8_allIn 68 = .ok (.getfield 29, 3) := by decide +kernel
theorem dX8_allIn_71 : decode cX8_allIn 71 = .ok (.bipush 9, 2) := by decide +kernel
theorem dX8_allIn_73 : decode cX8_allIn 73 = .ok (.iload_n 1, 1) := by decide +kernel
theorem dX8_allIn_74 : decode cX8_allIn 74 = .ok (.iadd, 1) := by decide +kernel
theorem dX8_allIn_75 : decode cX8_allIn 75 = .ok (.iaload, 1) := by decide +kernel
theorem dX8_allIn_76 : decode cX8_allIn 76 = .ok (.iload_n 2, 1) := by decide +kernel
theorem dX8_allIn_77 : decode cX8_allIn 77 = .ok (.if_icmp .ne 5, 3) := by decide +kernel
theorem dX8_allIn_80 : decode cX8_allIn 80 = .ok (.iload_n 3, 1) := by decide +kernel
theorem dX8_allIn_81 : decode cX8_allIn 81 = .ok (.ireturn, 1) := by decide +kernel
theorem dX8_allIn_82 : decode cX8_allIn 82 = .ok (.aload_n 0, 1) := by decide +kernel
theorem dX8_allIn_83 : decode cX8_allIn 83 = .ok (.aload_n 0, 1) := by decide +kernel
theorem dX8_allIn_84 : decode cX8_allIn 84 = .ok (.getfield 29, 3) := by decide +kernel
theorem dX8_allIn_87 : decode cX8_allIn 87 = .ok (.invokevirtual 273, 3) := by decide +kernel
theorem dX8_allIn_90 : decode cX8_allIn 90 = .ok (.iinc 3 1, 3) := by decide +kernel
theorem dX8_allIn_93 : decode cX8_allIn 93 = .ok (.goto (-33), 3) := by decide +kernel
theorem dX8_allIn_96 : decode cX8_allIn 96 = .ok (.bipush (-2), 2) := by decide +kernel
theorem dX8_allIn_98 : decode cX8_allIn 98 = .ok (.ireturn, 1) := by decide +kernel
theorem dX8_meets_0 : decode cX8_meets 0 = .ok (.aload_n 0, 1) := by decide +kernel
theorem dX8_meets_1 : decode cX8_meets 1 = .ok (.invokevirtual 160, 3) := by decide +kernel
theorem dX8_meets_4 : decode cX8_meets 4 = .ok (.aload_n 0, 1) := by decide +kernel
theorem dX8_meets_5 : decode cX8_meets 5 = .ok (.iload_n 1, 1) := by decide +kernel
theorem dX8_meets_6 : decode cX8_meets 6 = .ok (.invokevirtual 280, 3) := by decide +kernel
theorem dX8_meets_9 : decode cX8_meets 9 = .ok (.ifCond .ne 9, 3) := by decide +kernel
theorem dX8_meets_12 : decode cX8_meets 12 = .ok (.aload_n 0, 1) := by decide +kernel
theorem dX8_meets_13 : decode cX8_meets 13 = .ok (.iconst 1, 1) := by decide +kernel
theorem dX8_meets_14 : decode cX8_meets 14 = .ok (.invokevirtual 163, 3) := by decide +kernel
theorem dX8_meets_17 : decode cX8_meets 17 = .ok (.ireturn, 1) := by decide +kernel
theorem dX8_meets_18 : decode cX8_meets 18 = .ok (.aload_n 0, 1) := by decide +kernel
theorem dX8_meets_19 : decode cX8_meets 19 = .ok (.invokevirtual 270, 3) := by decide +kernel
theorem dX8_meets_22 : decode cX8_meets 22 = .ok (.iconst 1, 1) := by decide +kernel
theorem dX8_meets_23 : decode cX8_meets 23 = .ok (.istore_n 2, 1) := by decide +kernel
theorem dX8_meets_24 : decode cX8_meets 24 = .ok (.iload_n 2, 1) := by decide +kernel
theorem dX8_meets_25 : decode cX8_meets 25 = .ok (.sipush 300, 3) := by decide +kernel
theorem dX8_meets_28 : decode cX8_meets 28 = .ok (.if_icmp .gt 40, 3) := by decide +kernel
theorem dX8_meets_31 : decode cX8_meets 31 = .ok (.aload_n 0, 1) := by decide +kernel
theorem dX8_meets_32 : decode cX8_meets 32 = .ok (.iload_n 1, 1) := by decide +kernel
theorem dX8_meets_33 : decode cX8_meets 33 = .ok (.aload_n 0, 1) := by decide +kernel
theorem dX8_meets_34 : decode cX8_meets 34 = .ok (.getfield 29, 3) := by decide +kernel
theorem dX8_meets_37 : decode cX8_meets 37 = .ok (.bipush 21, 2) := by decide +kernel
theorem dX8_meets_39 : decode cX8_meets 39 = .ok (.iaload, 1) := by decide +kernel
theorem dX8_meets_40 : decode cX8_meets 40 = .ok (.invokevirtual 242, 3) := by decide +kernel
theorem dX8_meets_43 : decode cX8_meets 43 = .ok (.istore_n 3, 1) := by decide +kernel
theorem dX8_meets_44 : decode cX8_meets 44 = .ok (.aload_n 0, 1) := by decide +kernel
theorem dX8_meets_45 : decode cX8_meets 45 = .ok (.aload_n 0, 1) := by decide +kernel
theorem dX8_meets_46 : decode cX8_meets 46 = .ok (.getfield 29, 3) := by decide +kernel
theorem dX8_meets_49 : decode cX8_meets 49 = .ok (.invokevirtual 273, 3) := by decide +kernel
theorem dX8_meets_52 : decode cX8_meets 52 = .ok (.aload_n 0, 1) := by decide +kernel
theorem dX8_meets_53 : decode cX8_meets 53 = .ok (.getfield 261, 3) := by decide +kernel
theorem dX8_meets_56 : decode cX8_meets 56 = .ok (.iload_n 3, 1) := by decide +kernel
theorem dX8_meets_57 : decode cX8_meets 57 = .ok (.if_icmp .ne 5, 3) := by decide +kernel
theorem dX8_meets_60 : decode cX8_meets 60 = .ok (.iload_n 2, 1) := by decide +kernel
theorem dX8_meets_61 : decode cX8_meets 61 = .ok (.ireturn, 1) := by decide +kernel
theorem dX8_meets_62 : decode cX8_meets 62 = .ok (.iinc 2 1, 3) := by decide +kernel
theorem dX8_meets_65 : decode cX8_meets 65 = .ok (.goto (-41), 3) := by decide +kernel
