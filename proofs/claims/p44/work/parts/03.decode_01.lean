theorem dX2_tally_99 : decode cX2_tally 99 = .ok (.iload 6, 2) := by decide +kernel
theorem dX2_tally_101 : decode cX2_tally 101 = .ok (.iadd, 1) := by decide +kernel
theorem dX2_tally_102 : decode cX2_tally 102 = .ok (.dup2, 1) := by decide +kernel
theorem dX2_tally_103 : decode cX2_tally 103 = .ok (.iaload, 1) := by decide +kernel
theorem dX2_tally_104 : decode cX2_tally 104 = .ok (.iconst 1, 1) := by decide +kernel
theorem dX2_tally_105 : decode cX2_tally 105 = .ok (.iadd, 1) := by decide +kernel
theorem dX2_tally_106 : decode cX2_tally 106 = .ok (.iastore, 1) := by decide +kernel
theorem dX2_tally_107 : decode cX2_tally 107 = .ok (.iload 6, 2) := by decide +kernel
theorem dX2_tally_109 : decode cX2_tally 109 = .ok (.iload 4, 2) := by decide +kernel
theorem dX2_tally_111 : decode cX2_tally 111 = .ok (.imul, 1) := by decide +kernel
theorem dX2_tally_112 : decode cX2_tally 112 = .ok (.iload 5, 2) := by decide +kernel
theorem dX2_tally_114 : decode cX2_tally 114 = .ok (.iadd, 1) := by decide +kernel
theorem dX2_tally_115 : decode cX2_tally 115 = .ok (.iload_n 1, 1) := by decide +kernel
theorem dX2_tally_116 : decode cX2_tally 116 = .ok (.irem, 1) := by decide +kernel
theorem dX2_tally_117 : decode cX2_tally 117 = .ok (.istore 6, 2) := by decide +kernel
theorem dX2_tally_119 : decode cX2_tally 119 = .ok (.iinc 7 1, 3) := by decide +kernel
theorem dX2_tally_122 : decode cX2_tally 122 = .ok (.goto (-38), 3) := by decide +kernel
theorem dX2_tally_125 : decode cX2_tally 125 = .ok (.iinc 3 1, 3) := by decide +kernel
theorem dX2_tally_128 : decode cX2_tally 128 = .ok (.goto (-91), 3) := by decide +kernel
theorem dX2_tally_131 : decode cX2_tally 131 = .ok (.return_, 1) := by decide +kernel
theorem dX2_mostOf_0 : decode cX2_mostOf 0 = .ok (.iconst 0, 1) := by decide +kernel
theorem dX2_mostOf_1 : decode cX2_mostOf 1 = .ok (.istore_n 2, 1) := by decide +kernel
theorem dX2_mostOf_2 : decode cX2_mostOf 2 = .ok (.iconst 0, 1) := by decide +kernel
theorem dX2_mostOf_3 : decode cX2_mostOf 3 = .ok (.istore_n 3, 1) := by decide +kernel
theorem dX2_mostOf_4 : decode cX2_mostOf 4 = .ok (.iload_n 3, 1) := by decide +kernel
theorem dX2_mostOf_5 : decode cX2_mostOf 5 = .ok (.bipush 9, 2) := by decide +kernel
theorem dX2_mostOf_7 : decode cX2_mostOf 7 = .ok (.if_icmp .ge 25, 3) := by decide +kernel
theorem dX2_mostOf_10 : decode cX2_mostOf 10 = .ok (.iload_n 2, 1) := by decide +kernel
theorem dX2_mostOf_11 : decode cX2_mostOf 11 = .ok (.aload_n 0, 1) := by decide +kernel
theorem dX2_mostOf_12 : decode cX2_mostOf 12 = .ok (.getfield 15, 3) := by decide +kernel
theorem dX2_mostOf_15 : decode cX2_mostOf 15 = .ok (.iload_n 1, 1) := by decide +kernel
theorem dX2_mostOf_16 : decode cX2_mostOf 16 = .ok (.bipush 9, 2) := by decide +kernel
theorem dX2_mostOf_18 : decode cX2_mostOf 18 = .ok (.imul, 1) := by decide +kernel
theorem dX2_mostOf_19 : decode cX2_mostOf 19 = .ok (.iload_n 3, 1) := by decide +kernel
theorem dX2_mostOf_20 : decode cX2_mostOf 20 = .ok (.iadd, 1) := by decide +kernel
theorem dX2_mostOf_21 : decode cX2_mostOf 21 = .ok (.iaload, 1) := by decide +kernel
theorem dX2_mostOf_22 : decode cX2_mostOf 22 = .ok (.invokestatic 72, 3) := by decide +kernel
theorem dX2_mostOf_25 : decode cX2_mostOf 25 = .ok (.istore_n 2, 1) := by decide +kernel
theorem dX2_mostOf_26 : decode cX2_mostOf 26 = .ok (.iinc 3 1, 3) := by decide +kernel
theorem dX2_mostOf_29 : decode cX2_mostOf 29 = .ok (.goto (-25), 3) := by decide +kernel
theorem dX2_mostOf_32 : decode cX2_mostOf 32 = .ok (.iload_n 2, 1) := by decide +kernel
theorem dX2_mostOf_33 : decode cX2_mostOf 33 = .ok (.ireturn, 1) := by decide +kernel
theorem dX3_init_0 : decode cX3_init 0 = .ok (.aload_n 0, 1) := by decide +kernel
theorem dX3_init_1 : decode cX3_init 1 = .ok (.invokespecial 3, 3) := by decide +kernel
theorem dX3_init_4 : decode cX3_init 4 = .ok (.aload_n 0, 1) := by decide +kernel
theorem dX3_init_5 : decode cX3_init 5 = .ok (.sipush 900, 3) := by decide +kernel
theorem dX3_init_8 : decode cX3_init 8 = .ok (.newarray .byte, 2) := by decide +kernel
theorem dX3_init_10 : decode cX3_init 10 = .ok (.putfield 9, 3) := by decide +kernel
theorem dX3_init_13 : decode cX3_init 13 = .ok (.aload_n 0, 1) := by decide +kernel
theorem dX3_init_14 : decode cX3_init 14 = .ok (.bipush 12, 2) := by decide +kernel
theorem dX3_init_16 : decode cX3_init 16 = .ok (.newarray .long, 2) := by decide +kernel
theorem dX3_init_18 : decode cX3_init 18 = .ok (.putfield 15, 3) := by decide +kernel
theorem dX3_init_21 : decode cX3_init 21 = .ok (.aload_n 0, 1) := by decide +kernel
theorem dX3_init_22 : decode cX3_init 22 = .ok (.new 19, 3) := by decide +kernel
theorem dX3_init_25 : decode cX3_init 25 = .ok (.dup, 1) := by decide +kernel
theorem dX3_init_26 : decode cX3_init 26 = .ok (.invokespecial 21, 3) := by decide +kernel
theorem dX3_init_29 : decode cX3_init 29 = .ok (.putfield 22, 3) := by decide +kernel
theorem dX3_init_32 : decode cX3_init 32 = .ok (.return_, 1) := by decide +kernel
theorem dX3_append_0 : decode cX3_append 0 = .ok (.bipush 24, 2) := by decide +kernel
theorem dX3_append_2 : decode cX3_append 2 = .ok (.istore_n 2, 1) := by decide +kernel
theorem dX3_append_3 : decode cX3_append 3 = .ok (.iload_n 2, 1) := by decide +kernel
theorem dX3_append_4 : decode cX3_append 4 = .ok (.ifCond .lt 42, 3) := by decide +kernel
theorem dX3_append_7 : decode cX3_append 7 = .ok (.aload_n 0, 1) := by decide +kernel
theorem dX3_append_8 : decode cX3_append 8 = .ok (.getfield 26, 3) := by decide +kernel
theorem dX3_append_11 : decode cX3_append 11 = .ok (.sipush 900, 3) := by decide +kernel
theorem dX3_append_14 : decode cX3_append 14 = .ok (.if_icmp .ge 32, 3) := by decide +kernel
theorem dX3_append_17 : decode cX3_append 17 = .ok (.aload_n 0, 1) := by decide +kernel
theorem dX3_append_18 : decode cX3_append 18 = .ok (.getfield 9, 3) := by decide +kernel
theorem dX3_append_21 : decode cX3_append 21 = .ok (.aload_n 0, 1) := by decide +kernel
theorem dX3_append_22 : decode cX3_append 22 = .ok (.getfield 26, 3) := by decide +kernel
theorem dX3_append_25 : decode cX3_append 25 = .ok (.iload_n 1, 1) := by decide +kernel
theorem dX3_append_26 : decode cX3_append 26 = .ok (.iload_n 2, 1) := by decide +kernel
theorem dX3_append_27 : decode cX3_append 27 = .ok (.ishr, 1) := by decide +kernel
theorem dX3_append_28 : decode cX3_append 28 = .ok (.i2b, 1) := by decide +kernel
theorem dX3_append_29 : decode cX3_append 29 = .ok (.bastore, 1) := by decide +kernel
theorem dX3_append_30 : decode cX3_append 30 = .ok (.aload_n 0, 1) := by decide +kernel
theorem dX3_append_31 : decode cX3_append 31 = .ok (.dup, 1) := by decide +kernel
theorem dX3_append_32 : decode cX3_append 32 = .ok (.getfield 26, 3) := by decide +kernel
theorem dX3_append_35 : decode cX3_append 35 = .ok (.iconst 1, 1) := by decide +kernel
theorem dX3_append_36 : decode cX3_append 36 = .ok (.iadd, 1) := by decide +kernel
theorem dX3_append_37 : decode cX3_append 37 = .ok (.putfield 26, 3) := by decide +kernel
theorem dX3_append_40 : decode cX3_append 40 = .ok (.iinc 2 (-8), 3) := by decide +kernel
theorem dX3_append_43 : decode cX3_append 43 = .ok (.goto (-40), 3) := by decide +kernel
theorem dX3_append_46 : decode cX3_append 46 = .ok (.return_, 1) := by decide +kernel
theorem dX3_exchange_0 : decode cX3_exchange 0 = .ok (.aload_n 0, 1) := by decide +kernel
theorem dX3_exchange_1 : decode cX3_exchange 1 = .ok (.getfield 22, 3) := by decide +kernel
theorem dX3_exchange_4 : decode cX3_exchange 4 = .ok (.astore_n 2, 1) := by decide +kernel
theorem dX3_exchange_5 : decode cX3_exchange 5 = .ok (.aload_n 0, 1) := by decide +kernel
theorem dX3_exchange_6 : decode cX3_exchange 6 = .ok (.aload_n 1, 1) := by decide +kernel
theorem dX3_exchange_7 : decode cX3_exchange 7 = .ok (.putfield 22, 3) := by decide +kernel
theorem dX3_exchange_10 : decode cX3_exchange 10 = .ok (.aload_n 2, 1) := by decide +kernel
theorem dX3_exchange_11 : decode cX3_exchange 11 = .ok (.areturn, 1) := by decide +kernel
theorem dX3_read_0 : decode cX3_read 0 = .ok (.aload_n 0, 1) := by decide +kernel
theorem dX3_read_1 : decode cX3_read 1 = .ok (.iload_n 1, 1) := by decide +kernel
theorem dX3_read_2 : decode cX3_read 2 = .ok (.aload_n 0, 1) := by decide +kernel
theorem dX3_read_3 : decode cX3_read 3 = .ok (.getfield 26, 3) := by decide +kernel
theorem dX3_read_6 : decode cX3_read 6 = .ok (.invokestatic 30, 3) := by decide +kernel
theorem dX3_read_9 : decode cX3_read 9 = .ok (.putfield 36, 3) := by decide +kernel
theorem dX3_read_12 : decode cX3_read 12 = .ok (.aload_n 0, 1) := by decide +kernel
theorem dX3_read_13 : decode cX3_read 13 = .ok (.iconst 0, 1) := by decide +kernel
theorem dX3_read_14 : decode cX3_read 14 = .ok (.putfield 26, 3) := by decide +kernel
theorem dX3_read_17 : decode cX3_read 17 = .ok (.aload_n 0, 1) := by decide +kernel
theorem dX3_read_18 : decode cX3_read 18 = .ok (.getfield 22, 3) := by decide +kernel
theorem dX3_read_21 : decode cX3_read 21 = .ok (.invokevirtual 39, 3) := by decide +kernel
theorem dX3_read_24 : decode cX3_read 24 = .ok (.aload_n 0, 1) := by decide +kernel
theorem dX3_read_25 : decode cX3_read 25 = .ok (.iconst 0, 1) := by decide +kernel
theorem dX3_read_26 : decode cX3_read 26 = .ok (.putfield 42, 3) := by decide +kernel
theorem dX3_read_29 : decode cX3_read 29 = .ok (.aload_n 0, 1) := by decide +kernel
theorem dX3_read_30 : decode cX3_read 30 = .ok (.iconst 0, 1) := by decide +kernel
theorem dX3_read_31 : decode cX3_read 31 = .ok (.putfield 45, 3) := by decide +kernel
theorem dX3_read_34 : decode cX3_read 34 = .ok (.aload_n 0, 1) := by decide +kernel
theorem dX3_read_35 : decode cX3_read 35 = .ok (.iconst (-1), 1) := by decide +kernel
theorem dX3_read_36 : decode cX3_read 36 = .ok (.putfield 48, 3) := by decide +kernel
theorem dX3_read_39 : decode cX3_read 39 = .ok (.aload_n 0, 1) := by decide +kernel
theorem dX3_read_40 : decode cX3_read 40 = .ok (.iconst 0, 1) := by decide +kernel
theorem dX3_read_41 : decode cX3_read 41 = .ok (.putfield 51, 3) := by decide +kernel
theorem dX3_read_44 : decode cX3_read 44 = .ok (.aload_n 0, 1) := by decide +kernel
theorem dX3_read_45 : decode cX3_read 45 = .ok (.invokevirtual 54, 3) := by decide +kernel
theorem dX3_read_48 : decode cX3_read 48 = .ok (.aload_n 0, 1) := by decide +kernel
theorem dX3_read_49 : decode cX3_read 49 = .ok (.invokevirtual 57, 3) := by decide +kernel
theorem dX3_read_52 : decode cX3_read 52 = .ok (.istore_n 2, 1) := by decide +kernel
theorem dX3_read_53 : decode cX3_read 53 = .ok (.iconst 1, 1) := by decide +kernel
theorem dX3_read_54 : decode cX3_read 54 = .ok (.istore_n 3, 1) := by decide +kernel
theorem dX3_read_55 : decode cX3_read 55 = .ok (.iload_n 2, 1) := by decide +kernel
theorem dX3_read_56 : decode cX3_read 56 = .ok (.ifCond .eq 33, 3) := by decide +kernel
theorem dX3_read_59 : decode cX3_read 59 = .ok (.aload_n 0, 1) := by decide +kernel
theorem dX3_read_60 : decode cX3_read 60 = .ok (.getfield 61, 3) := by decide +kernel
theorem dX3_read_63 : decode cX3_read 63 = .ok (.iconst 3, 1) := by decide +kernel
theorem dX3_read_64 : decode cX3_read 64 = .ok (.if_icmp .ne 25, 3) := by decide +kernel
theorem dX3_read_67 : decode cX3_read 67 = .ok (.iload_n 3, 1) := by decide +kernel
theorem dX3_read_68 : decode cX3_read 68 = .ok (.sipush 900, 3) := by decide +kernel
theorem dX3_read_71 : decode cX3_read 71 = .ok (.if_icmp .ge 18, 3) := by decide +kernel
theorem dX3_read_74 : decode cX3_read 74 = .ok (.aload_n 0, 1) := by decide +kernel
theorem dX3_read_75 : decode cX3_read 75 = .ok (.invokevirtual 54, 3) := by decide +kernel
theorem dX3_read_78 : decode cX3_read 78 = .ok (.aload_n 0, 1) := by decide +kernel
theorem dX3_read_79 : decode cX3_read 79 = .ok (.invokevirtual 57, 3) := by decide +kernel
theorem dX3_read_82 : decode cX3_read 82 = .ok (.istore_n 2, 1) := by decide +kernel
theorem dX3_read_83 : decode cX3_read 83 = .ok (.iinc 3 1, 3) := by decide +kernel
theorem dX3_read_86 : decode cX3_read 86 = .ok (.goto (-31), 3) := by decide +kernel
theorem dX3_read_89 : decode cX3_read 89 = .ok (.iload_n 2, 1) := by decide +kernel
theorem dX3_read_90 : decode cX3_read 90 = .ok (.ifCond .ne 5, 3) := by decide +kernel
theorem dX3_read_93 : decode cX3_read 93 = .ok (.iconst 0, 1) := by decide +kernel
theorem dX3_read_94 : decode cX3_read 94 = .ok (.ireturn, 1) := by decide +kernel
theorem dX3_read_95 : decode cX3_read 95 = .ok (.aload_n 0, 1) := by decide +kernel
theorem dX3_read_96 : decode cX3_read 96 = .ok (.getfield 61, 3) := by decide +kernel
theorem dX3_read_99 : decode cX3_read 99 = .ok (.ifCond .eq 9, 3) := by decide +kernel
theorem dX3_read_102 : decode cX3_read 102 = .ok (.aload_n 0, 1) := by decide +kernel
theorem dX3_read_103 : decode cX3_read 103 = .ok (.iconst 1, 1) := by decide +kernel
theorem dX3_read_104 : decode cX3_read 104 = .ok (.invokevirtual 64, 3) := by decide +kernel
theorem dX3_read_107 : decode cX3_read 107 = .ok (.ireturn, 1) := by decide +kernel
theorem dX3_read_108 : decode cX3_read 108 = .ok (.aload_n 0, 1) := by decide +kernel
theorem dX3_read_109 : decode cX3_read 109 = .ok (.getfield 22, 3) := by decide +kernel
theorem dX3_read_112 : decode cX3_read 112 = .ok (.getfield 68, 3) := by decide +kernel
theorem dX3_read_115 : decode cX3_read 115 = .ok (.ifCond .ne 12, 3) := by decide +kernel
theorem dX3_read_118 : decode cX3_read 118 = .ok (.aload_n 0, 1) := by decide +kernel
theorem dX3_read_119 : decode cX3_read 119 = .ok (.bipush 6, 2) := by decide +kernel
theorem dX3_read_121 : decode cX3_read 121 = .ok (.invokevirtual 64, 3) := by decide +kernel
theorem dX3_read_124 : decode cX3_read 124 = .ok (.ifCond .eq 7, 3) := by decide +kernel
theorem dX3_read_127 : decode cX3_read 127 = .ok (.iconst 1, 1) := by decide +kernel
theorem dX3_read_128 : decode cX3_read 128 = .ok (.goto 4, 3) := by decide +kernel
theorem dX3_read_131 : decode cX3_read 131 = .ok (.iconst 0, 1) := by decide +kernel
theorem dX3_read_132 : decode cX3_read 132 = .ok (.ireturn, 1) := by decide +kernel
theorem dX3_fails_0 : decode cX3_fails 0 = .ok (.aload_n 0, 1) := by decide +kernel
theorem dX3_fails_1 : decode cX3_fails 1 = .ok (.iload_n 1, 1) := by decide +kernel
theorem dX3_fails_2 : decode cX3_fails 2 = .ok (.putfield 45, 3) := by decide +kernel
theorem dX3_fails_5 : decode cX3_fails 5 = .ok (.aload_n 0, 1) := by decide +kernel
theorem dX3_fails_6 : decode cX3_fails 6 = .ok (.aload_n 0, 1) := by decide +kernel
theorem dX3_fails_7 : decode cX3_fails 7 = .ok (.getfield 72, 3) := by decide +kernel
theorem dX3_fails_10 : decode cX3_fails 10 = .ok (.putfield 48, 3) := by decide +kernel
theorem dX3_fails_13 : decode cX3_fails 13 = .ok (.iconst 0, 1) := by decide +kernel
theorem dX3_fails_14 : decode cX3_fails 14 = .ok (.ireturn, 1) := by decide +kernel
theorem dX3_advance_0 : decode cX3_advance 0 = .ok (.aload_n 0, 1) := by decide +kernel
theorem dX3_advance_1 : decode cX3_advance 1 = .ok (.getfield 51, 3) := by decide +kernel
theorem dX3_advance_4 : decode cX3_advance 4 = .ok (.aload_n 0, 1) := by decide +kernel
theorem dX3_advance_5 : decode cX3_advance 5 = .ok (.getfield 36, 3) := by decide +kernel
theorem dX3_advance_8 : decode cX3_advance 8 = .ok (.if_icmp .ge 30, 3) := by decide +kernel
theorem dX3_advance_11 : decode cX3_advance 11 = .ok (.aload_n 0, 1) := by decide +kernel
theorem dX3_advance_12 : decode cX3_advance 12 = .ok (.getfield 9, 3) := by decide +kernel
theorem dX3_advance_15 : decode cX3_advance 15 = .ok (.aload_n 0, 1) := by decide +kernel
theorem dX3_advance_16 : decode cX3_advance 16 = .ok (.getfield 51, 3) := by decide +kernel
theorem dX3_advance_19 : decode cX3_advance 19 = .ok (.baload, 1) := by decide +kernel
theorem dX3_advance_20 : decode cX3_advance 20 = .ok (.bipush 32, 2) := by decide +kernel
theorem dX3_advance_22 : decode cX3_advance 22 = .ok (.if_icmp .ne 16, 3) := by decide +kernel
theorem dX3_advance_25 : decode cX3_advance 25 = .ok (.aload_n 0, 1) := by decide +kernel
theorem dX3_advance_26 : decode cX3_advance 26 = .ok (.dup, 1) := by decide +kernel
theorem dX3_advance_27 : decode cX3_advance 27 = .ok (.getfield 51, 3) := by decide +kernel
theorem dX3_advance_30 : decode cX3_advance 30 = .ok (.iconst 1, 1) := by decide +kernel
theorem dX3_advance_31 : decode cX3_advance 31 = .ok (.iadd, 1) := by decide +kernel
theorem dX3_advance_32 : decode cX3_advance 32 = .ok (.putfield 51, 3) := by decide +kernel
theorem dX3_advance_35 : decode cX3_advance 35 = .ok (.goto (-35), 3) := by decide +kernel
theorem dX3_advance_38 : decode cX3_advance 38 = .ok (.aload_n 0, 1) := by decide +kernel
theorem dX3_advance_39 : decode cX3_advance 39 = .ok (.aload_n 0, 1) := by decide +kernel
theorem dX3_advance_40 : decode cX3_advance 40 = .ok (.getfield 51, 3) := by decide +kernel
theorem dX3_advance_43 : decode cX3_advance 43 = .ok (.putfield 72, 3) := by decide +kernel
theorem dX3_advance_46 : decode cX3_advance 46 = .ok (.aload_n 0, 1) := by decide +kernel
theorem dX3_advance_47 : decode cX3_advance 47 = .ok (.getfield 72, 3) := by decide +kernel
theorem dX3_advance_50 : decode cX3_advance 50 = .ok (.aload_n 0, 1) := by decide +kernel
theorem dX3_advance_51 : decode cX3_advance 51 = .ok (.getfield 36, 3) := by decide +kernel
theorem dX3_advance_54 : decode cX3_advance 54 = .ok (.if_icmp .lt 11, 3) := by decide +kernel
theorem dX3_advance_57 : decode cX3_advance 57 = .ok (.aload_n 0, 1) := by decide +kernel
theorem dX3_advance_58 : decode cX3_advance 58 = .ok (.iconst 0, 1) := by decide +kernel
theorem dX3_advance_59 : decode cX3_advance 59 = .ok (.putfield 61, 3) := by decide +kernel
theorem dX3_advance_62 : decode cX3_advance 62 = .ok (.goto 110, 3) := by decide +kernel
theorem dX3_advance_65 : decode cX3_advance 65 = .ok (.aload_n 0, 1) := by decide +kernel
theorem dX3_advance_66 : decode cX3_advance 66 = .ok (.getfield 9, 3) := by decide +kernel
theorem dX3_advance_69 : decode cX3_advance 69 = .ok (.aload_n 0, 1) := by decide +kernel
theorem dX3_advance_70 : decode cX3_advance 70 = .ok (.getfield 72, 3) := by decide +kernel
theorem dX3_advance_73 : decode cX3_advance 73 = .ok (.baload, 1) := by decide +kernel
theorem dX3_advance_74 : decode cX3_advance 74 = .ok (.bipush 59, 2) := by decide +kernel
theorem dX3_advance_76 : decode cX3_advance 76 = .ok (.if_icmp .ne 21, 3) := by decide +kernel
theorem dX3_advance_79 : decode cX3_advance 79 = .ok (.aload_n 0, 1) := by decide +kernel
theorem dX3_advance_80 : decode cX3_advance 80 = .ok (.iconst 3, 1) := by decide +kernel
theorem dX3_advance_81 : decode cX3_advance 81 = .ok (.putfield 61, 3) := by decide +kernel
theorem dX3_advance_84 : decode cX3_advance 84 = .ok (.aload_n 0, 1) := by decide +kernel
theorem dX3_advance_85 : decode cX3_advance 85 = .ok (.dup, 1) := by decide +kernel
theorem dX3_advance_86 : decode cX3_advance 86 = .ok (.getfield 51, 3) := by decide +kernel
theorem dX3_advance_89 : decode cX3_advance 89 = .ok (.iconst 1, 1) := by decide +kernel
theorem dX3_advance_90 : decode cX3_advance 90 = .ok (.iadd, 1) := by decide +kernel
theorem dX3_advance_91 : decode cX3_advance 91 = .ok (.putfield 51, 3) := by decide +kernel
theorem dX3_advance_94 : decode cX3_advance 94 = .ok (.goto 78, 3) := by decide +kernel
theorem dX3_advance_97 : decode cX3_advance 97 = .ok (.aload_n 0, 1) := by decide +kernel
theorem dX3_advance_98 : decode cX3_advance 98 = .ok (.getfield 9, 3) := by decide +kernel
theorem dX3_advance_101 : decode cX3_advance 101 = .ok (.aload_n 0, 1) := by decide +kernel
theorem dX3_advance_102 : decode cX3_advance 102 = .ok (.getfield 72, 3) := by decide +kernel
theorem dX3_advance_105 : decode cX3_advance 105 = .ok (.baload, 1) := by decide +kernel
theorem dX3_advance_106 : decode cX3_advance 106 = .ok (.bipush 97, 2) := by decide +kernel
theorem dX3_advance_108 : decode cX3_advance 108 = .ok (.if_icmp .lt 24, 3) := by decide +kernel
theorem dX3_advance_111 : decode cX3_advance 111 = .ok (.aload_n 0, 1) := by decide +kernel
theorem dX3_advance_112 : decode cX3_advance 112 = .ok (.getfield 9, 3) := by decide +kernel
theorem dX3_advance_115 : decode cX3_advance 115 = .ok (.aload_n 0, 1) := by decide +kernel
theorem dX3_advance_116 : decode cX3_advance 116 = .ok (.getfield 72, 3) := by decide +kernel
theorem dX3_advance_119 : decode cX3_advance 119 = .ok (.baload, 1) := by decide +kernel
theorem dX3_advance_120 : decode cX3_advance 120 = .ok (.bipush 122, 2) := by decide +kernel
theorem dX3_advance_122 : decode cX3_advance 122 = .ok (.if_icmp .gt 10, 3) := by decide +kernel
theorem dX3_advance_125 : decode cX3_advance 125 = .ok (.aload_n 0, 1) := by decide +kernel
theorem dX3_advance_126 : decode cX3_advance 126 = .ok (.invokevirtual 75, 3) := by decide +kernel
theorem dX3_advance_129 : decode cX3_advance 129 = .ok (.goto 43, 3) := by decide +kernel
theorem dX3_advance_132 : decode cX3_advance 132 = .ok (.aload_n 0, 1) := by decide +kernel
theorem dX3_advance_133 : decode cX3_advance 133 = .ok (.getfield 9, 3) := by decide +kernel
theorem dX3_advance_136 : decode cX3_advance 136 = .ok (.aload_n 0, 1) := by decide +kernel
theorem dX3_advance_137 : decode cX3_advance 137 = .ok (.getfield 72, 3) := by decide +kernel
theorem dX3_advance_140 : decode cX3_advance 140 = .ok (.baload, 1) := by decide +kernel
theorem dX3_advance_141 : decode cX3_advance 141 = .ok (.bipush 48, 2) := by decide +kernel
theorem dX3_advance_143 : decode cX3_advance 143 = .ok (.if_icmp .lt 24, 3) := by decide +kernel
theorem dX3_advance_146 : decode cX3_advance 146 = .ok (.aload_n 0, 1) := by decide +kernel
theorem dX3_advance_147 : decode cX3_advance 147 = .ok (.getfield 9, 3) := by decide +kernel
theorem dX3_advance_150 : decode cX3_advance 150 = .ok (.aload_n 0, 1) := by decide +kernel
theorem dX3_advance_151 : decode cX3_advance 151 = .ok (.getfield 72, 3) := by decide +kernel
theorem dX3_advance_154 : decode cX3_advance 154 = .ok (.baload, 1) := by decide +kernel
theorem dX3_advance_155 : decode cX3_advance 155 = .ok (.bipush 57, 2) := by decide +kernel
theorem dX3_advance_157 : decode cX3_advance 157 = .ok (.if_icmp .gt 10, 3) := by decide +kernel
theorem dX3_advance_160 : decode cX3_advance 160 = .ok (.aload_n 0, 1) := by decide +kernel
theorem dX3_advance_161 : decode cX3_advance 161 = .ok (.invokevirtual 78, 3) := by decide +kernel
theorem dX3_advance_164 : decode cX3_advance 164 = .ok (.goto 8, 3) := by decide +kernel
theorem dX3_advance_167 : decode cX3_advance 167 = .ok (.aload_n 0, 1) := by decide +kernel
theorem dX3_advance_168 : decode cX3_advance 168 = .ok (.iconst 4, 1) := by decide +kernel
theorem dX3_advance_169 : decode cX3_advance 169 = .ok (.putfield 61, 3) := by decide +kernel
theorem dX3_advance_172 : decode cX3_advance 172 = .ok (.return_, 1) := by decide +kernel
theorem dX3_scanWord_0 : decode cX3_scanWord 0 = .ok (.aload_n 0, 1) := by decide +kernel
theorem dX3_scanWord_1 : decode cX3_scanWord 1 = .ok (.lconst 0, 1) := by decide +kernel
theorem dX3_scanWord_2 : decode cX3_scanWord 2 = .ok (.putfield 81, 3) := by decide +kernel
theorem dX3_scanWord_5 : decode cX3_scanWord 5 = .ok (.aload_n 0, 1) := by decide +kernel
theorem dX3_scanWord_6 : decode cX3_scanWord 6 = .ok (.getfield 51, 3) := by decide +kernel
theorem dX3_scanWord_9 : decode cX3_scanWord 9 = .ok (.aload_n 0, 1) := by decide +kernel
theorem dX3_scanWord_10 : decode cX3_scanWord 10 = .ok (.getfield 36, 3) := by decide +kernel
theorem dX3_scanWord_13 : decode cX3_scanWord 13 = .ok (.if_icmp .ge 66, 3) := by decide +kernel
theorem dX3_scanWord_16 : decode cX3_scanWord 16 = .ok (.aload_n 0, 1) := by decide +kernel
theorem dX3_scanWord_17 : decode cX3_scanWord 17 = .ok (.getfield 9, 3) := by decide +kernel
theorem dX3_scanWord_20 : decode cX3_scanWord 20 = .ok (.aload_n 0, 1) := by decide +kernel
theorem dX3_scanWord_21 : decode cX3_scanWord 21 = .ok (.getfield 51, 3) := by decide +kernel
theorem dX3_scanWord_24 : decode cX3_scanWord 24 = .ok (.baload, 1) := by decide +kernel
theorem dX3_scanWord_25 : decode cX3_scanWord 25 = .ok (.bipush 97, 2) := by decide +kernel
theorem dX3_scanWord_27 : decode cX3_scanWord 27 = .ok (.if_icmp .lt 52, 3) := by decide +kernel
theorem dX3_scanWord_30 : decode cX3_scanWord 30 = .ok (.aload_n 0, 1) := by decide +kernel
theorem dX3_scanWord_31 : decode cX3_scanWord 31 = .ok (.getfield 9, 3) := by decide +kernel
theorem dX3_scanWord_34 : decode cX3_scanWord 34 = .ok (.aload_n 0, 1) := by decide +kernel
theorem dX3_scanWord_35 : decode cX3_scanWord 35 = .ok (.getfield 51, 3) := by decide +kernel
theorem dX3_scanWord_38 : decode cX3_scanWord 38 = .ok (.baload, 1) := by decide +kernel
theorem dX3_scanWord_39 : decode cX3_scanWord 39 = .ok (.bipush 122, 2) := by decide +kernel
theorem dX3_scanWord_41 : decode cX3_scanWord 41 = .ok (.if_icmp .gt 38, 3) := by decide +kernel
theorem dX3_scanWord_44 : decode cX3_scanWord 44 = .ok (.aload_n 0, 1) := by decide +kernel
theorem dX3_scanWord_45 : decode cX3_scanWord 45 = .ok (.aload_n 0, 1) := by decide +kernel
theorem dX3_scanWord_46 : decode cX3_scanWord 46 = .ok (.getfield 81, 3) := by decide +kernel
theorem dX3_scanWord_49 : decode cX3_scanWord 49 = .ok (.bipush 8, 2) := by decide +kernel
theorem dX3_scanWord_51 : decode cX3_scanWord 51 = .ok (.lshl, 1) := by decide +kernel
theorem dX3_scanWord_52 : decode cX3_scanWord 52 = .ok (.aload_n 0, 1) := by decide +kernel
theorem dX3_scanWord_53 : decode cX3_scanWord 53 = .ok (.getfield 9, 3) := by decide +kernel
theorem dX3_scanWord_56 : decode cX3_scanWord 56 = .ok (.aload_n 0, 1) := by decide +kernel
theorem dX3_scanWord_57 : decode cX3_scanWord 57 = .ok (.getfield 51, 3) := by decide +kernel
theorem dX3_scanWord_60 : decode cX3_scanWord 60 = .ok (.baload, 1) := by decide +kernel
theorem dX3_scanWord_61 : decode cX3_scanWord 61 = .ok (.i2l, 1) := by decide +kernel
theorem dX3_scanWord_62 : decode cX3_scanWord 62 = .ok (.lor, 1) := by decide +kernel
theorem dX3_scanWord_63 : decode cX3_scanWord 63 = .ok (.putfield 81, 3) := by decide +kernel
theorem dX3_scanWord_66 : decode cX3_scanWord 66 = .ok (.aload_n 0, 1) := by decide +kernel
theorem dX3_scanWord_67 : decode cX3_scanWord 67 = .ok (.dup, 1) := by decide +kernel
theorem dX3_scanWord_68 : decode cX3_scanWord 68 = .ok (.getfield 51, 3) := by decide +kernel
theorem dX3_scanWord_71 : decode cX3_scanWord 71 = .ok (.iconst 1, 1) := by decide +kernel
theorem dX3_scanWord_72 : decode cX3_scanWord 72 = .ok (.iadd, 1) := by decide +kernel
theorem dX3_scanWord_73 : decode cX3_scanWord 73 = .ok (.putfield 51, 3) := by decide +kernel
theorem dX3_scanWord_76 : decode cX3_scanWord 76 = .ok (.goto (-71), 3) := by decide +kernel
theorem dX3_scanWord_79 : decode cX3_scanWord 79 = .ok (.aload_n 0, 1) := by decide +kernel
theorem dX3_scanWord_80 : decode cX3_scanWord 80 = .ok (.aload_n 0, 1) := by decide +kernel
theorem dX3_scanWord_81 : decode cX3_scanWord 81 = .ok (.getfield 51, 3) := by decide +kernel
theorem dX3_scanWord_84 : decode cX3_scanWord 84 = .ok (.aload_n 0, 1) := by decide +kernel
theorem dX3_scanWord_85 : decode cX3_scanWord 85 = .ok (.getfield 72, 3) := by decide +kernel
theorem dX3_scanWord_88 : decode cX3_scanWord 88 = .ok (.isub, 1) := by decide +kernel
theorem dX3_scanWord_89 : decode cX3_scanWord 89 = .ok (.bipush 8, 2) := by decide +kernel
theorem dX3_scanWord_91 : decode cX3_scanWord 91 = .ok (.if_icmp .gt 7, 3) := by decide +kernel
theorem dX3_scanWord_94 : decode cX3_scanWord 94 = .ok (.iconst 1, 1) := by decide +kernel
theorem dX3_scanWord_95 : decode cX3_scanWord 95 = .ok (.goto 4, 3) := by decide +kernel
theorem dX3_scanWord_98 : decode cX3_scanWord 98 = .ok (.iconst 4, 1) := by decide +kernel
theorem dX3_scanWord_99 : decode cX3_scanWord 99 = .ok (.putfield 61, 3) := by decide +kernel
theorem dX3_scanWord_102 : decode cX3_scanWord 102 = .ok (.return_, 1) := by decide +kernel
theorem dX3_scanWhole_0 : decode cX3_scanWhole 0 = .ok (.aload_n 0, 1) := by decide +kernel
theorem dX3_scanWhole_1 : decode cX3_scanWhole 1 = .ok (.iconst 0, 1) := by decide +kernel
theorem dX3_scanWhole_2 : decode cX3_scanWhole 2 = .ok (.putfield 85, 3) := by decide +kernel
theorem dX3_scanWhole_5 : decode cX3_scanWhole 5 = .ok (.aload_n 0, 1) := by decide +kernel
theorem dX3_scanWhole_6 : decode cX3_scanWhole 6 = .ok (.getfield 51, 3) := by decide +kernel
theorem dX3_scanWhole_9 : decode cX3_scanWhole 9 = .ok (.aload_n 0, 1) := by decide +kernel
theorem dX3_scanWhole_10 : decode cX3_scanWhole 10 = .ok (.getfield 36, 3) := by decide +kernel
theorem dX3_scanWhole_13 : decode cX3_scanWhole 13 = .ok (.if_icmp .ge 68, 3) := by decide +kernel
theorem dX3_scanWhole_16 : decode cX3_scanWhole 16 = .ok (.aload_n 0, 1) := by decide +kernel
theorem dX3_scanWhole_17 : decode cX3_scanWhole 17 = .ok (.getfield 9, 3) := by decide +kernel
theorem dX3_scanWhole_20 : decode cX3_scanWhole 20 = .ok (.aload_n 0, 1) := by decide +kernel
theorem dX3_scanWhole_21 : decode cX3_scanWhole 21 = .ok (.getfield 51, 3) := by decide +kernel
theorem dX3_scanWhole_24 : decode cX3_scanWhole 24 = .ok (.baload, 1) := by decide +kernel
theorem dX3_scanWhole_25 : decode cX3_scanWhole 25 = .ok (.bipush 48, 2) := by decide +kernel
theorem dX3_scanWhole_27 : decode cX3_scanWhole 27 = .ok (.if_icmp .lt 54, 3) := by decide +kernel
theorem dX3_scanWhole_30 : decode cX3_scanWhole 30 = .ok (.aload_n 0, 1) := by decide +kernel
theorem dX3_scanWhole_31 : decode cX3_scanWhole 31 = .ok (.getfield 9, 3) := by decide +kernel
theorem dX3_scanWhole_34 : decode cX3_scanWhole 34 = .ok (.aload_n 0, 1) := by decide +kernel
theorem dX3_scanWhole_35 : decode cX3_scanWhole 35 = .ok (.getfield 51, 3) := by decide +kernel
theorem dX3_scanWhole_38 : decode cX3_scanWhole 38 = .ok (.baload, 1) := by decide +kernel
theorem dX3_scanWhole_39 : decode cX3_scanWhole 39 = .ok (.bipush 57, 2) := by decide +kernel
theorem dX3_scanWhole_41 : decode cX3_scanWhole 41 = .ok (.if_icmp .gt 40, 3) := by decide +kernel
theorem dX3_scanWhole_44 : decode cX3_scanWhole 44 = .ok (.aload_n 0, 1) := by decide +kernel
theorem dX3_scanWhole_45 : decode cX3_scanWhole 45 = .ok (.bipush 10, 2) := by decide +kernel
theorem dX3_scanWhole_47 : decode cX3_scanWhole 47 = .ok (.aload_n 0, 1) := by decide +kernel
theorem dX3_scanWhole_48 : decode cX3_scanWhole 48 = .ok (.getfield 85, 3) := by decide +kernel
theorem dX3_scanWhole_51 : decode cX3_scanWhole 51 = .ok (.imul, 1) := by decide +kernel
theorem dX3_scanWhole_52 : decode cX3_scanWhole 52 = .ok (.aload_n 0, 1) := by decide +kernel
theorem dX3_scanWhole_53 : decode cX3_scanWhole 53 = .ok (.getfield 9, 3) := by decide +kernel
theorem dX3_scanWhole_56 : decode cX3_scanWhole 56 = .ok (.aload_n 0, 1) := by decide +kernel
theorem dX3_scanWhole_57 : decode cX3_scanWhole 57 = .ok (.getfield 51, 3) := by decide +kernel
theorem dX3_scanWhole_60 : decode cX3_scanWhole 60 = .ok (.baload, 1) := by decide +kernel
theorem dX3_scanWhole_61 : decode cX3_scanWhole 61 = .ok (.iadd, 1) := by decide +kernel
theorem dX3_scanWhole_62 : decode cX3_scanWhole 62 = .ok (.bipush 48, 2) := by decide +kernel
theorem dX3_scanWhole_64 : decode cX3_scanWhole 64 = .ok (.isub, 1) := by decide +kernel
theorem dX3_scanWhole_65 : decode cX3_scanWhole 65 = .ok (.putfield 85, 3) := by decide +kernel
theorem dX3_scanWhole_68 : decode cX3_scanWhole 68 = .ok (.aload_n 0, 1) := by decide +kernel
theorem dX3_scanWhole_69 : decode cX3_scanWhole 69 = .ok (.dup, 1) := by decide +kernel
theorem dX3_scanWhole_70 : decode cX3_scanWhole 70 = .ok (.getfield 51, 3) := by decide +kernel
theorem dX3_scanWhole_73 : decode cX3_scanWhole 73 = .ok (.iconst 1, 1) := by decide +kernel
theorem dX3_scanWhole_74 : decode cX3_scanWhole 74 = .ok (.iadd, 1) := by decide +kernel
theorem dX3_scanWhole_75 : decode cX3_scanWhole 75 = .ok (.putfield 51, 3) := by decide +kernel
theorem dX3_scanWhole_78 : decode cX3_scanWhole 78 = .ok (.goto (-73), 3) := by decide +kernel
theorem dX3_scanWhole_81 : decode cX3_scanWhole 81 = .ok (.aload_n 0, 1) := by decide +kernel
theorem dX3_scanWhole_82 : decode cX3_scanWhole 82 = .ok (.aload_n 0, 1) := by decide +kernel
theorem dX3_scanWhole_83 : decode cX3_scanWhole 83 = .ok (.getfield 51, 3) := by decide +kernel
theorem dX3_scanWhole_86 : decode cX3_scanWhole 86 = .ok (.aload_n 0, 1) := by decide +kernel
theorem dX3_scanWhole_87 : decode cX3_scanWhole 87 = .ok (.getfield 72, 3) := by decide +kernel
theorem dX3_scanWhole_90 : decode cX3_scanWhole 90 = .ok (.isub, 1) := by decide +kernel
theorem dX3_scanWhole_91 : decode cX3_scanWhole 91 = .ok (.iconst 3, 1) := by decide +kernel
theorem dX3_scanWhole_92 : decode cX3_scanWhole 92 = .ok (.if_icmp .gt 7, 3) := by decide +kernel
theorem dX3_scanWhole_95 : decode cX3_scanWhole 95 = .ok (.iconst 2, 1) := by decide +kernel
theorem dX3_scanWhole_96 : decode cX3_scanWhole 96 = .ok (.goto 4, 3) := by decide +kernel
theorem dX3_scanWhole_99 : decode cX3_scanWhole 99 = .ok (.iconst 4, 1) := by decide +kernel
theorem dX3_scanWhole_100 : decode cX3_scanWhole 100 = .ok (.putfield 61, 3) := by decide +kernel
theorem dX3_scanWhole_103 : decode cX3_scanWhole 103 = .ok (.return_, 1) := by decide +kernel
theorem dX3_isWord_0 : decode cX3_isWord 0 = .ok (.aload_n 0, 1) := by decide +kernel
theorem dX3_isWord_1 : decode cX3_isWord 1 = .ok (.getfield 61, 3) := by decide +kernel
theorem dX3_isWord_4 : decode cX3_isWord 4 = .ok (.iconst 1, 1) := by decide +kernel
theorem dX3_isWord_5 : decode cX3_isWord 5 = .ok (.if_icmp .eq 5, 3) := by decide +kernel
theorem dX3_isWord_8 : decode cX3_isWord 8 = .ok (.iconst 0, 1) := by decide +kernel
theorem dX3_isWord_9 : decode cX3_isWord 9 = .ok (.ireturn, 1) := by decide +kernel
theorem dX3_isWord_10 : decode cX3_isWord 10 = .ok (.lconst 0, 1) := by decide +kernel
theorem dX3_isWord_11 : decode cX3_isWord 11 = .ok (.lstore_n 2, 1) := by decide +kernel
theorem dX3_isWord_12 : decode cX3_isWord 12 = .ok (.iconst 0, 1) := by decide +kernel
theorem dX3_isWord_13 : decode cX3_isWord 13 = .ok (.istore 4, 2) := by decide +kernel
theorem dX3_isWord_15 : decode cX3_isWord 15 = .ok (.iload 4, 2) := by decide +kernel
theorem dX3_isWord_17 : decode cX3_isWord 17 = .ok (.aload_n 1, 1) := by decide +kernel
theorem dX3_isWord_18 : decode cX3_isWord 18 = .ok (.invokevirtual 88, 3) := by decide +kernel
theorem dX3_isWord_21 : decode cX3_isWord 21 = .ok (.if_icmp .ge 22, 3) := by decide +kernel
theorem dX3_isWord_24 : decode cX3_isWord 24 = .ok (.lload_n 2, 1) := by decide +kernel
theorem dX3_isWord_25 : decode cX3_isWord 25 = .ok (.bipush 8, 2) := by decide +kernel
theorem dX3_isWord_27 : decode cX3_isWord 27 = .ok (.lshl, 1) := by decide +kernel
theorem dX3_isWord_28 : decode cX3_isWord 28 = .ok (.aload_n 1, 1) := by decide +kernel
theorem dX3_isWord_29 : decode cX3_isWord 29 = .ok (.iload 4, 2) := by decide +kernel
theorem dX3_isWord_31 : decode cX3_isWord 31 = .ok (.invokevirtual 94, 3) := by decide +kernel
theorem dX3_isWord_34 : decode cX3_isWord 34 = .ok (.i2l, 1) := by decide +kernel
theorem dX3_isWord_35 : decode cX3_isWord 35 = .ok (.lor, 1) := by decide +kernel
theorem dX3_isWord_36 : decode cX3_isWord 36 = .ok (.lstore_n 2, 1) := by decide +kernel
theorem dX3_isWord_37 : decode cX3_isWord 37 = .ok (.iinc 4 1, 3) := by decide +kernel
theorem dX3_isWord_40 : decode cX3_isWord 40 = .ok (.goto (-25), 3) := by decide +kernel
theorem dX3_isWord_43 : decode cX3_isWord 43 = .ok (.aload_n 0, 1) := by decide +kernel
theorem dX3_isWord_44 : decode cX3_isWord 44 = .ok (.getfield 81, 3) := by decide +kernel
theorem dX3_isWord_47 : decode cX3_isWord 47 = .ok (.lload_n 2, 1) := by decide +kernel
theorem dX3_isWord_48 : decode cX3_isWord 48 = .ok (.lcmp, 1) := by decide +kernel
theorem dX3_isWord_49 : decode cX3_isWord 49 = .ok (.ifCond .ne 7, 3) := by decide +kernel
theorem dX3_isWord_52 : decode cX3_isWord 52 = .ok (.iconst 1, 1) := by decide +kernel
theorem dX3_isWord_53 : decode cX3_isWord 53 = .ok (.goto 4, 3) := by decide +kernel
theorem dX3_isWord_56 : decode cX3_isWord 56 = .ok (.iconst 0, 1) := by decide +kernel
theorem dX3_isWord_57 : decode cX3_isWord 57 = .ok (.ireturn, 1) := by decide +kernel
theorem dX3_readLine_0 : decode cX3_readLine 0 = .ok (.aload_n 0, 1) := by decide +kernel
theorem dX3_readLine_1 : decode cX3_readLine 1 = .ok (.ldc 98, 2) := by decide +kernel
theorem dX3_readLine_3 : decode cX3_readLine 3 = .ok (.invokevirtual 100, 3) := by decide +kernel
theorem dX3_readLine_6 : decode cX3_readLine 6 = .ok (.ifCond .eq 26, 3) := by decide +kernel
theorem dX3_readLine_9 : decode cX3_readLine 9 = .ok (.aload_n 0, 1) := by decide +kernel
theorem dX3_readLine_10 : decode cX3_readLine 10 = .ok (.getfield 22, 3) := by decide +kernel
theorem dX3_readLine_13 : decode cX3_readLine 13 = .ok (.getfield 104, 3) := by decide +kernel
theorem dX3_readLine_16 : decode cX3_readLine 16 = .ok (.ifCond .le 11, 3) := by decide +kernel
theorem dX3_readLine_19 : decode cX3_readLine 19 = .ok (.aload_n 0, 1) := by decide +kernel
theorem dX3_readLine_20 : decode cX3_readLine 20 = .ok (.iconst 3, 1) := by decide +kernel
theorem dX3_readLine_21 : decode cX3_readLine 21 = .ok (.invokevirtual 64, 3) := by decide +kernel
theorem dX3_readLine_24 : decode cX3_readLine 24 = .ok (.goto 7, 3) := by decide +kernel
theorem dX3_readLine_27 : decode cX3_readLine 27 = .ok (.aload_n 0, 1) := by decide +kernel
theorem dX3_readLine_28 : decode cX3_readLine 28 = .ok (.invokevirtual 107, 3) := by decide +kernel
theorem dX3_readLine_31 : decode cX3_readLine 31 = .ok (.ireturn, 1) := by decide +kernel
theorem dX3_readLine_32 : decode cX3_readLine 32 = .ok (.aload_n 0, 1) := by decide +kernel
theorem dX3_readLine_33 : decode cX3_readLine 33 = .ok (.ldc 110, 2) := by decide +kernel
theorem dX3_readLine_35 : decode cX3_readLine 35 = .ok (.invokevirtual 100, 3) := by decide +kernel
theorem dX3_readLine_38 : decode cX3_readLine 38 = .ok (.ifCond .ne 36, 3) := by decide +kernel
theorem dX3_readLine_41 : decode cX3_readLine 41 = .ok (.aload_n 0, 1) := by decide +kernel
theorem dX3_readLine_42 : decode cX3_readLine 42 = .ok (.ldc 112, 2) := by decide +kernel
theorem dX3_readLine_44 : decode cX3_readLine 44 = .ok (.invokevirtual 100, 3) := by decide +kernel
theorem dX3_readLine_47 : decode cX3_readLine 47 = .ok (.ifCond .ne 27, 3) := by decide +kernel
theorem dX3_readLine_50 : decode cX3_readLine 50 = .ok (.aload_n 0, 1) := by decide +kernel
theorem dX3_readLine_51 : decode cX3_readLine 51 = .ok (.ldc 114, 2) := by decide +kernel
theorem dX3_readLine_53 : decode cX3_readLine 53 = .ok (.invokevirtual 100, 3) := by decide +kernel
theorem dX3_readLine_56 : decode cX3_readLine 56 = .ok (.ifCond .ne 18, 3) := by decide +kernel
theorem dX3_readLine_59 : decode cX3_readLine 59 = .ok (.aload_n 0, 1) := by decide +kernel
theorem dX3_readLine_60 : decode cX3_readLine 60 = .ok (.ldc 116, 2) := by decide +kernel
theorem dX3_readLine_62 : decode cX3_readLine 62 = .ok (.invokevirtual 100, 3) := by decide +kernel
theorem dX3_readLine_65 : decode cX3_readLine 65 = .ok (.ifCond .ne 9, 3) := by decide +kernel
theorem dX3_readLine_68 : decode cX3_readLine 68 = .ok (.aload_n 0, 1) := by decide +kernel
theorem dX3_readLine_69 : decode cX3_readLine 69 = .ok (.iconst 1, 1) := by decide +kernel
theorem dX3_readLine_70 : decode cX3_readLine 70 = .ok (.invokevirtual 64, 3) := by decide +kernel
theorem dX3_readLine_73 : decode cX3_readLine 73 = .ok (.ireturn, 1) := by decide +kernel
theorem dX3_readLine_74 : decode cX3_readLine 74 = .ok (.aload_n 0, 1) := by decide +kernel
theorem dX3_readLine_75 : decode cX3_readLine 75 = .ok (.getfield 22, 3) := by decide +kernel
theorem dX3_readLine_78 : decode cX3_readLine 78 = .ok (.getfield 104, 3) := by decide +kernel
theorem dX3_readLine_81 : decode cX3_readLine 81 = .ok (.ifCond .ne 10, 3) := by decide +kernel
theorem dX3_readLine_84 : decode cX3_readLine 84 = .ok (.aload_n 0, 1) := by decide +kernel
theorem dX3_readLine_85 : decode cX3_readLine 85 = .ok (.bipush 6, 2) := by decide +kernel
theorem dX3_readLine_87 : decode cX3_readLine 87 = .ok (.invokevirtual 64, 3) := by decide +kernel
theorem dX3_readLine_90 : decode cX3_readLine 90 = .ok (.ireturn, 1) := by decide +kernel
theorem dX3_readLine_91 : decode cX3_readLine 91 = .ok (.aload_n 0, 1) := by decide +kernel
theorem dX3_readLine_92 : decode cX3_readLine 92 = .ok (.ldc 110, 2) := by decide +kernel
theorem dX3_readLine_94 : decode cX3_readLine 94 = .ok (.invokevirtual 100, 3) := by decide +kernel
theorem dX3_readLine_97 : decode cX3_readLine 97 = .ok (.ifCond .eq 26, 3) := by decide +kernel
theorem dX3_readLine_100 : decode cX3_readLine 100 = .ok (.aload_n 0, 1) := by decide +kernel
theorem dX3_readLine_101 : decode cX3_readLine 101 = .ok (.getfield 22, 3) := by decide +kernel
theorem dX3_readLine_104 : decode cX3_readLine 104 = .ok (.getfield 68, 3) := by decide +kernel
theorem dX3_readLine_107 : decode cX3_readLine 107 = .ok (.ifCond .eq 11, 3) := by decide +kernel
theorem dX3_readLine_110 : decode cX3_readLine 110 = .ok (.aload_n 0, 1) := by decide +kernel
theorem dX3_readLine_111 : decode cX3_readLine 111 = .ok (.iconst 3, 1) := by decide +kernel
theorem dX3_readLine_112 : decode cX3_readLine 112 = .ok (.invokevirtual 64, 3) := by decide +kernel
theorem dX3_readLine_115 : decode cX3_readLine 115 = .ok (.goto 7, 3) := by decide +kernel
theorem dX3_readLine_118 : decode cX3_readLine 118 = .ok (.aload_n 0, 1) := by decide +kernel
theorem dX3_readLine_119 : decode cX3_readLine 119 = .ok (.invokevirtual 118, 3) := by decide +kernel
theorem dX3_readLine_122 : decode cX3_readLine 122 = .ok (.ireturn, 1) := by decide +kernel
theorem dX3_readLine_123 : decode cX3_readLine 123 = .ok (.aload_n 0, 1) := by decide +kernel
theorem dX3_readLine_124 : decode cX3_readLine 124 = .ok (.ldc 112, 2) := by decide +kernel
theorem dX3_readLine_126 : decode cX3_readLine 126 = .ok (.invokevirtual 100, 3) := by decide +kernel
theorem dX3_readLine_129 : decode cX3_readLine 129 = .ok (.ifCond .eq 31, 3) := by decide +kernel
theorem dX3_readLine_132 : decode cX3_readLine 132 = .ok (.aload_n 0, 1) := by decide +kernel
theorem dX3_readLine_133 : decode cX3_readLine 133 = .ok (.getfield 22, 3) := by decide +kernel
theorem dX3_readLine_136 : decode cX3_readLine 136 = .ok (.getfield 121, 3) := by decide +kernel
theorem dX3_readLine_139 : decode cX3_readLine 139 = .ok (.invokestatic 124, 3) := by decide +kernel
theorem dX3_readLine_142 : decode cX3_readLine 142 = .ok (.bipush 9, 2) := by decide +kernel
theorem dX3_readLine_144 : decode cX3_readLine 144 = .ok (.if_icmp .lt 11, 3) := by decide +kernel
theorem dX3_readLine_147 : decode cX3_readLine 147 = .ok (.aload_n 0, 1) := by decide +kernel
theorem dX3_readLine_148 : decode cX3_readLine 148 = .ok (.iconst 5, 1) := by decide +kernel
theorem dX3_readLine_149 : decode cX3_readLine 149 = .ok (.invokevirtual 64, 3) := by decide +kernel
theorem dX3_readLine_152 : decode cX3_readLine 152 = .ok (.goto 7, 3) := by decide +kernel
theorem dX3_readLine_155 : decode cX3_readLine 155 = .ok (.aload_n 0, 1) := by decide +kernel
theorem dX3_readLine_156 : decode cX3_readLine 156 = .ok (.invokevirtual 130, 3) := by decide +kernel
theorem dX3_readLine_159 : decode cX3_readLine 159 = .ok (.ireturn, 1) := by decide +kernel
theorem dX3_readLine_160 : decode cX3_readLine 160 = .ok (.aload_n 0, 1) := by decide +kernel
theorem dX3_readLine_161 : decode cX3_readLine 161 = .ok (.ldc 114, 2) := by decide +kernel
theorem dX3_readLine_163 : decode cX3_readLine 163 = .ok (.invokevirtual 100, 3) := by decide +kernel
theorem dX3_readLine_166 : decode cX3_readLine 166 = .ok (.ifCond .eq 30, 3) := by decide +kernel
theorem dX3_readLine_169 : decode cX3_readLine 169 = .ok (.aload_n 0, 1) := by decide +kernel
theorem dX3_readLine_170 : decode cX3_readLine 170 = .ok (.getfield 22, 3) := by decide +kernel
theorem dX3_readLine_173 : decode cX3_readLine 173 = .ok (.getfield 133, 3) := by decide +kernel
theorem dX3_readLine_176 : decode cX3_readLine 176 = .ok (.getfield 137, 3) := by decide +kernel
theorem dX3_readLine_179 : decode cX3_readLine 179 = .ok (.iconst 3, 1) := by decide +kernel
theorem dX3_readLine_180 : decode cX3_readLine 180 = .ok (.if_icmp .lt 11, 3) := by decide +kernel
theorem dX3_readLine_183 : decode cX3_readLine 183 = .ok (.aload_n 0, 1) := by decide +kernel
theorem dX3_readLine_184 : decode cX3_readLine 184 = .ok (.iconst 5, 1) := by decide +kernel
theorem dX3_readLine_185 : decode cX3_readLine 185 = .ok (.invokevirtual 64, 3) := by decide +kernel
theorem dX3_readLine_188 : decode cX3_readLine 188 = .ok (.goto 7, 3) := by decide +kernel
theorem dX3_readLine_191 : decode cX3_readLine 191 = .ok (.aload_n 0, 1) := by decide +kernel
theorem dX3_readLine_192 : decode cX3_readLine 192 = .ok (.invokevirtual 142, 3) := by decide +kernel
theorem dX3_readLine_195 : decode cX3_readLine 195 = .ok (.ireturn, 1) := by decide +kernel
theorem dX3_readLine_196 : decode cX3_readLine 196 = .ok (.aload_n 0, 1) := by decide +kernel
theorem dX3_readLine_197 : decode cX3_readLine 197 = .ok (.getfield 22, 3) := by decide +kernel
theorem dX3_readLine_200 : decode cX3_readLine 200 = .ok (.getfield 145, 3) := by decide +kernel
theorem dX3_readLine_203 : decode cX3_readLine 203 = .ok (.bipush 6, 2) := by decide +kernel
theorem dX3_readLine_205 : decode cX3_readLine 205 = .ok (.if_icmp .lt 11, 3) := by decide +kernel
theorem dX3_readLine_208 : decode cX3_readLine 208 = .ok (.aload_n 0, 1) := by decide +kernel
theorem dX3_readLine_209 : decode cX3_readLine 209 = .ok (.iconst 5, 1) := by decide +kernel
theorem dX3_readLine_210 : decode cX3_readLine 210 = .ok (.invokevirtual 64, 3) := by decide +kernel
theorem dX3_readLine_213 : decode cX3_readLine 213 = .ok (.goto 7, 3) := by decide +kernel
theorem dX3_readLine_216 : decode cX3_readLine 216 = .ok (.aload_n 0, 1) := by decide +kernel
theorem dX3_readLine_217 : decode cX3_readLine 217 = .ok (.invokevirtual 148, 3) := by decide +kernel
theorem dX3_readLine_220 : decode cX3_readLine 220 = .ok (.ireturn, 1) := by decide +kernel
theorem dX3_readHall_0 : decode cX3_readHall 0 = .ok (.aload_n 0, 1) := by decide +kernel
theorem dX3_readHall_1 : decode cX3_readHall 1 = .ok (.invokevirtual 54, 3) := by decide +kernel
theorem dX3_readHall_4 : decode cX3_readHall 4 = .ok (.aload_n 0, 1) := by decide +kernel
theorem dX3_readHall_5 : decode cX3_readHall 5 = .ok (.ldc 151, 2) := by decide +kernel
theorem dX3_readHall_7 : decode cX3_readHall 7 = .ok (.iconst 2, 1) := by decide +kernel
theorem dX3_readHall_8 : decode cX3_readHall 8 = .ok (.bipush 9, 2) := by decide +kernel
theorem dX3_readHall_10 : decode cX3_readHall 10 = .ok (.invokevirtual 152, 3) := by decide +kernel
theorem dX3_readHall_13 : decode cX3_readHall 13 = .ok (.ifCond .ne 5, 3) := by decide +kernel
theorem dX3_readHall_16 : decode cX3_readHall 16 = .ok (.iconst 0, 1) := by decide +kernel
theorem dX3_readHall_17 : decode cX3_readHall 17 = .ok (.ireturn, 1) := by decide +kernel
theorem dX3_readHall_18 : decode cX3_readHall 18 = .ok (.aload_n 0, 1) := by decide +kernel
theorem dX3_readHall_19 : decode cX3_readHall 19 = .ok (.getfield 156, 3) := by decide +kernel
theorem dX3_readHall_22 : decode cX3_readHall 22 = .ok (.istore_n 1, 1) := by decide +kernel
theorem dX3_readHall_23 : decode cX3_readHall 23 = .ok (.aload_n 0, 1) := by decide +kernel
theorem dX3_readHall_24 : decode cX3_readHall 24 = .ok (.ldc 159, 2) := by decide +kernel
theorem dX3_readHall_26 : decode cX3_readHall 26 = .ok (.iconst 1, 1) := by decide +kernel
theorem dX3_readHall_27 : decode cX3_readHall 27 = .ok (.bipush 20, 2) := by decide +kernel
theorem dX3_readHall_29 : decode cX3_readHall 29 = .ok (.invokevirtual 152, 3) := by decide +kernel
theorem dX3_readHall_32 : decode cX3_readHall 32 = .ok (.ifCond .ne 5, 3) := by decide +kernel
theorem dX3_readHall_35 : decode cX3_readHall 35 = .ok (.iconst 0, 1) := by decide +kernel
theorem dX3_readHall_36 : decode cX3_readHall 36 = .ok (.ireturn, 1) := by decide +kernel
theorem dX3_readHall_37 : decode cX3_readHall 37 = .ok (.aload_n 0, 1) := by decide +kernel
theorem dX3_readHall_38 : decode cX3_readHall 38 = .ok (.getfield 22, 3) := by decide +kernel
theorem dX3_readHall_41 : decode cX3_readHall 41 = .ok (.aload_n 0, 1) := by decide +kernel
theorem dX3_readHall_42 : decode cX3_readHall 42 = .ok (.getfield 156, 3) := by decide +kernel
theorem dX3_readHall_45 : decode cX3_readHall 45 = .ok (.putfield 161, 3) := by decide +kernel
theorem dX3_readHall_48 : decode cX3_readHall 48 = .ok (.aload_n 0, 1) := by decide +kernel
theorem dX3_readHall_49 : decode cX3_readHall 49 = .ok (.ldc 163, 2) := by decide +kernel
theorem dX3_readHall_51 : decode cX3_readHall 51 = .ok (.iconst 0, 1) := by decide +kernel
theorem dX3_readHall_52 : decode cX3_readHall 52 = .ok (.iload_n 1, 1) := by decide +kernel
theorem dX3_readHall_53 : decode cX3_readHall 53 = .ok (.iconst 1, 1) := by decide +kernel
theorem dX3_readHall_54 : decode cX3_readHall 54 = .ok (.isub, 1) := by decide +kernel
theorem dX3_readHall_55 : decode cX3_readHall 55 = .ok (.invokevirtual 152, 3) := by decide +kernel
theorem dX3_readHall_58 : decode cX3_readHall 58 = .ok (.ifCond .ne 5, 3) := by decide +kernel
theorem dX3_readHall_61 : decode cX3_readHall 61 = .ok (.iconst 0, 1) := by decide +kernel
theorem dX3_readHall_62 : decode cX3_readHall 62 = .ok (.ireturn, 1) := by decide +kernel
theorem dX3_readHall_63 : decode cX3_readHall 63 = .ok (.aload_n 0, 1) := by decide +kernel
theorem dX3_readHall_64 : decode cX3_readHall 64 = .ok (.getfield 22, 3) := by decide +kernel
theorem dX3_readHall_67 : decode cX3_readHall 67 = .ok (.aload_n 0, 1) := by decide +kernel
theorem dX3_readHall_68 : decode cX3_readHall 68 = .ok (.getfield 156, 3) := by decide +kernel
theorem dX3_readHall_71 : decode cX3_readHall 71 = .ok (.putfield 165, 3) := by decide +kernel
theorem dX3_readHall_74 : decode cX3_readHall 74 = .ok (.aload_n 0, 1) := by decide +kernel
theorem dX3_readHall_75 : decode cX3_readHall 75 = .ok (.ldc 168, 2) := by decide +kernel
theorem dX3_readHall_77 : decode cX3_readHall 77 = .ok (.iconst 0, 1) := by decide +kernel
theorem dX3_readHall_78 : decode cX3_readHall 78 = .ok (.bipush 100, 2) := by decide +kernel
theorem dX3_readHall_80 : decode cX3_readHall 80 = .ok (.invokevirtual 152, 3) := by decide +kernel
theorem dX3_readHall_83 : decode cX3_readHall 83 = .ok (.ifCond .ne 5, 3) := by decide +kernel
theorem dX3_readHall_86 : decode cX3_readHall 86 = .ok (.iconst 0, 1) := by decide +kernel
theorem dX3_readHall_87 : decode cX3_readHall 87 = .ok (.ireturn, 1) := by decide +kernel
theorem dX3_readHall_88 : decode cX3_readHall 88 = .ok (.aload_n 0, 1) := by decide +kernel
theorem dX3_readHall_89 : decode cX3_readHall 89 = .ok (.getfield 22, 3) := by decide +kernel
theorem dX3_readHall_92 : decode cX3_readHall 92 = .ok (.aload_n 0, 1) := by decide +kernel
theorem dX3_readHall_93 : decode cX3_readHall 93 = .ok (.getfield 156, 3) := by decide +kernel
theorem dX3_readHall_96 : decode cX3_readHall 96 = .ok (.putfield 170, 3) := by decide +kernel
theorem dX3_readHall_99 : decode cX3_readHall 99 = .ok (.aload_n 0, 1) := by decide +kernel
theorem dX3_readHall_100 : decode cX3_readHall 100 = .ok (.getfield 22, 3) := by decide +kernel
theorem dX3_readHall_103 : decode cX3_readHall 103 = .ok (.iload_n 1, 1) := by decide +kernel
theorem dX3_readHall_104 : decode cX3_readHall 104 = .ok (.putfield 104, 3) := by decide +kernel
theorem dX3_readHall_107 : decode cX3_readHall 107 = .ok (.iconst 1, 1) := by decide +kernel
theorem dX3_readHall_108 : decode cX3_readHall 108 = .ok (.ireturn, 1) := by decide +kernel
theorem dX3_readLaw_0 : decode cX3_readLaw 0 = .ok (.aload_n 0, 1) := by decide +kernel
theorem dX3_readLaw_1 : decode cX3_readLaw 1 = .ok (.invokevirtual 54, 3) := by decide +kernel
theorem dX3_readLaw_4 : decode cX3_readLaw 4 = .ok (.aload_n 0, 1) := by decide +kernel
theorem dX3_readLaw_5 : decode cX3_readLaw 5 = .ok (.ldc 172, 2) := by decide +kernel
theorem dX3_readLaw_7 : decode cX3_readLaw 7 = .ok (.iconst 0, 1) := by decide +kernel
theorem dX3_readLaw_8 : decode cX3_readLaw 8 = .ok (.aload_n 0, 1) := by decide +kernel
theorem dX3_readLaw_9 : decode cX3_readLaw 9 = .ok (.getfield 22, 3) := by decide +kernel
theorem dX3_readLaw_12 : decode cX3_readLaw 12 = .ok (.getfield 104, 3) := by decide +kernel
theorem dX3_readLaw_15 : decode cX3_readLaw 15 = .ok (.iconst 1, 1) := by decide +kernel
theorem dX3_readLaw_16 : decode cX3_readLaw 16 = .ok (.isub, 1) := by decide +kernel
theorem dX3_readLaw_17 : decode cX3_readLaw 17 = .ok (.invokevirtual 152, 3) := by decide +kernel
theorem dX3_readLaw_20 : decode cX3_readLaw 20 = .ok (.ifCond .ne 5, 3) := by decide +kernel
theorem dX3_readLaw_23 : decode cX3_readLaw 23 = .ok (.iconst 0, 1) := by decide +kernel
theorem dX3_readLaw_24 : decode cX3_readLaw 24 = .ok (.ireturn, 1) := by decide +kernel
theorem dX3_readLaw_25 : decode cX3_readLaw 25 = .ok (.aload_n 0, 1) := by decide +kernel
theorem dX3_readLaw_26 : decode cX3_readLaw 26 = .ok (.getfield 22, 3) := by decide +kernel
theorem dX3_readLaw_29 : decode cX3_readLaw 29 = .ok (.aload_n 0, 1) := by decide +kernel
theorem dX3_readLaw_30 : decode cX3_readLaw 30 = .ok (.getfield 156, 3) := by decide +kernel
theorem dX3_readLaw_33 : decode cX3_readLaw 33 = .ok (.putfield 174, 3) := by decide +kernel
theorem dX3_readLaw_36 : decode cX3_readLaw 36 = .ok (.aload_n 0, 1) := by decide +kernel
theorem dX3_readLaw_37 : decode cX3_readLaw 37 = .ok (.ldc 176, 2) := by decide +kernel
theorem dX3_readLaw_39 : decode cX3_readLaw 39 = .ok (.iconst 0, 1) := by decide +kernel
theorem dX3_readLaw_40 : decode cX3_readLaw 40 = .ok (.aload_n 0, 1) := by decide +kernel
theorem dX3_readLaw_41 : decode cX3_readLaw 41 = .ok (.getfield 22, 3) := by decide +kernel
theorem dX3_readLaw_44 : decode cX3_readLaw 44 = .ok (.getfield 104, 3) := by decide +kernel
theorem dX3_readLaw_47 : decode cX3_readLaw 47 = .ok (.iconst 1, 1) := by decide +kernel
theorem dX3_readLaw_48 : decode cX3_readLaw 48 = .ok (.isub, 1) := by decide +kernel
theorem dX3_readLaw_49 : decode cX3_readLaw 49 = .ok (.invokevirtual 152, 3) := by decide +kernel
theorem dX3_readLaw_52 : decode cX3_readLaw 52 = .ok (.ifCond .ne 5, 3) := by decide +kernel
theorem dX3_readLaw_55 : decode cX3_readLaw 55 = .ok (.iconst 0, 1) := by decide +kernel
theorem dX3_readLaw_56 : decode cX3_readLaw 56 = .ok (.ireturn, 1) := by decide +kernel
theorem dX3_readLaw_57 : decode cX3_readLaw 57 = .ok (.aload_n 0, 1) := by decide +kernel
theorem dX3_readLaw_58 : decode cX3_readLaw 58 = .ok (.getfield 22, 3) := by decide +kernel
theorem dX3_readLaw_61 : decode cX3_readLaw 61 = .ok (.aload_n 0, 1) := by decide +kernel
theorem dX3_readLaw_62 : decode cX3_readLaw 62 = .ok (.getfield 156, 3) := by decide +kernel
theorem dX3_readLaw_65 : decode cX3_readLaw 65 = .ok (.putfield 178, 3) := by decide +kernel
theorem dX3_readLaw_68 : decode cX3_readLaw 68 = .ok (.aload_n 0, 1) := by decide +kernel
theorem dX3_readLaw_69 : decode cX3_readLaw 69 = .ok (.ldc 180, 2) := by decide +kernel
theorem dX3_readLaw_71 : decode cX3_readLaw 71 = .ok (.iconst 0, 1) := by decide +kernel
theorem dX3_readLaw_72 : decode cX3_readLaw 72 = .ok (.aload_n 0, 1) := by decide +kernel
theorem dX3_readLaw_73 : decode cX3_readLaw 73 = .ok (.getfield 22, 3) := by decide +kernel
theorem dX3_readLaw_76 : decode cX3_readLaw 76 = .ok (.getfield 104, 3) := by decide +kernel
theorem dX3_readLaw_79 : decode cX3_readLaw 79 = .ok (.iconst 1, 1) := by decide +kernel
theorem dX3_readLaw_80 : decode cX3_readLaw 80 = .ok (.isub, 1) := by decide +kernel
theorem dX3_readLaw_81 : decode cX3_readLaw 81 = .ok (.invokevirtual 152, 3) := by decide +kernel
theorem dX3_readLaw_84 : decode cX3_readLaw 84 = .ok (.ifCond .ne 5, 3) := by decide +kernel
theorem dX3_readLaw_87 : decode cX3_readLaw 87 = .ok (.iconst 0, 1) := by decide +kernel
theorem dX3_readLaw_88 : decode cX3_readLaw 88 = .ok (.ireturn, 1) := by decide +kernel
theorem dX3_readLaw_89 : decode cX3_readLaw 89 = .ok (.aload_n 0, 1) := by decide +kernel
theorem dX3_readLaw_90 : decode cX3_readLaw 90 = .ok (.getfield 22, 3) := by decide +kernel
theorem dX3_readLaw_93 : decode cX3_readLaw 93 = .ok (.aload_n 0, 1) := by decide +kernel
theorem dX3_readLaw_94 : decode cX3_readLaw 94 = .ok (.getfield 156, 3) := by decide +kernel
theorem dX3_readLaw_97 : decode cX3_readLaw 97 = .ok (.putfield 182, 3) := by decide +kernel
theorem dX3_readLaw_100 : decode cX3_readLaw 100 = .ok (.aload_n 0, 1) := by decide +kernel
theorem dX3_readLaw_101 : decode cX3_readLaw 101 = .ok (.getfield 22, 3) := by decide +kernel
theorem dX3_readLaw_104 : decode cX3_readLaw 104 = .ok (.iconst 1, 1) := by decide +kernel
theorem dX3_readLaw_105 : decode cX3_readLaw 105 = .ok (.putfield 68, 3) := by decide +kernel
theorem dX3_readLaw_108 : decode cX3_readLaw 108 = .ok (.iconst 1, 1) := by decide +kernel
theorem dX3_readLaw_109 : decode cX3_readLaw 109 = .ok (.ireturn, 1) := by decide +kernel
theorem dX3_readFigure_0 : decode cX3_readFigure 0 = .ok (.aload_n 0, 1) := by decide +kernel
theorem dX3_readFigure_1 : decode cX3_readFigure 1 = .ok (.invokevirtual 54, 3) := by decide +kernel
theorem dX3_readFigure_4 : decode cX3_readFigure 4 = .ok (.aload_n 0, 1) := by decide +kernel
theorem dX3_readFigure_5 : decode cX3_readFigure 5 = .ok (.invokevirtual 184, 3) := by decide +kernel
theorem dX3_readFigure_8 : decode cX3_readFigure 8 = .ok (.ifCond .eq 29, 3) := by decide +kernel
theorem dX3_readFigure_11 : decode cX3_readFigure 11 = .ok (.aload_n 0, 1) := by decide +kernel
theorem dX3_readFigure_12 : decode cX3_readFigure 12 = .ok (.ldc 187, 2) := by decide +kernel
theorem dX3_readFigure_14 : decode cX3_readFigure 14 = .ok (.invokevirtual 189, 3) := by decide +kernel
theorem dX3_readFigure_17 : decode cX3_readFigure 17 = .ok (.ifCond .eq 20, 3) := by decide +kernel
theorem dX3_readFigure_20 : decode cX3_readFigure 20 = .ok (.aload_n 0, 1) := by decide +kernel
theorem dX3_readFigure_21 : decode cX3_readFigure 21 = .ok (.iconst 0, 1) := by decide +kernel
theorem dX3_readFigure_22 : decode cX3_readFigure 22 = .ok (.aload_n 0, 1) := by decide +kernel
theorem dX3_readFigure_23 : decode cX3_readFigure 23 = .ok (.getfield 22, 3) := by decide +kernel
theorem dX3_readFigure_26 : decode cX3_readFigure 26 = .ok (.getfield 104, 3) := by decide +kernel
theorem dX3_readFigure_29 : decode cX3_readFigure 29 = .ok (.iconst 1, 1) := by decide +kernel
theorem dX3_readFigure_30 : decode cX3_readFigure 30 = .ok (.isub, 1) := by decide +kernel
theorem dX3_readFigure_31 : decode cX3_readFigure 31 = .ok (.invokevirtual 192, 3) := by decide +kernel
theorem dX3_readFigure_34 : decode cX3_readFigure 34 = .ok (.ifCond .ne 5, 3) := by decide +kernel
theorem dX3_readFigure_37 : decode cX3_readFigure 37 = .ok (.iconst 0, 1) := by decide +kernel
theorem dX3_readFigure_38 : decode cX3_readFigure 38 = .ok (.ireturn, 1) := by decide +kernel
theorem dX3_readFigure_39 : decode cX3_readFigure 39 = .ok (.aload_n 0, 1) := by decide +kernel
theorem dX3_readFigure_40 : decode cX3_readFigure 40 = .ok (.getfield 85, 3) := by decide +kernel
theorem dX3_readFigure_43 : decode cX3_readFigure 43 = .ok (.istore_n 1, 1) := by decide +kernel
theorem dX3_readFigure_44 : decode cX3_readFigure 44 = .ok (.aload_n 0, 1) := by decide +kernel
theorem dX3_readFigure_45 : decode cX3_readFigure 45 = .ok (.getfield 22, 3) := by decide +kernel
theorem dX3_readFigure_48 : decode cX3_readFigure 48 = .ok (.getfield 121, 3) := by decide +kernel
theorem dX3_readFigure_51 : decode cX3_readFigure 51 = .ok (.iload_n 1, 1) := by decide +kernel
theorem dX3_readFigure_52 : decode cX3_readFigure 52 = .ok (.invokestatic 196, 3) := by decide +kernel
theorem dX3_readFigure_55 : decode cX3_readFigure 55 = .ok (.ifCond .eq 9, 3) := by decide +kernel
theorem dX3_readFigure_58 : decode cX3_readFigure 58 = .ok (.aload_n 0, 1) := by decide +kernel
theorem dX3_readFigure_59 : decode cX3_readFigure 59 = .ok (.iconst 3, 1) := by decide +kernel
theorem dX3_readFigure_60 : decode cX3_readFigure 60 = .ok (.invokevirtual 64, 3) := by decide +kernel
theorem dX3_readFigure_63 : decode cX3_readFigure 63 = .ok (.ireturn, 1) := by decide +kernel
theorem dX3_readFigure_64 : decode cX3_readFigure 64 = .ok (.aload_n 0, 1) := by decide +kernel
theorem dX3_readFigure_65 : decode cX3_readFigure 65 = .ok (.invokevirtual 54, 3) := by decide +kernel
theorem dX3_readFigure_68 : decode cX3_readFigure 68 = .ok (.aload_n 0, 1) := by decide +kernel
theorem dX3_readFigure_69 : decode cX3_readFigure 69 = .ok (.ldc 199, 2) := by decide +kernel
theorem dX3_readFigure_71 : decode cX3_readFigure 71 = .ok (.invokevirtual 100, 3) := by decide +kernel
theorem dX3_readFigure_74 : decode cX3_readFigure 74 = .ok (.ifCond .eq 7, 3) := by decide +kernel
theorem dX3_readFigure_77 : decode cX3_readFigure 77 = .ok (.iconst 1, 1) := by decide +kernel
theorem dX3_readFigure_78 : decode cX3_readFigure 78 = .ok (.goto 4, 3) := by decide +kernel
theorem dX3_readFigure_81 : decode cX3_readFigure 81 = .ok (.iconst 2, 1) := by decide +kernel
theorem dX3_readFigure_82 : decode cX3_readFigure 82 = .ok (.istore_n 2, 1) := by decide +kernel
theorem dX3_readFigure_83 : decode cX3_readFigure 83 = .ok (.aload_n 0, 1) := by decide +kernel
theorem dX3_readFigure_84 : decode cX3_readFigure 84 = .ok (.iload_n 2, 1) := by decide +kernel
theorem dX3_readFigure_85 : decode cX3_readFigure 85 = .ok (.iconst 1, 1) := by decide +kernel
theorem dX3_readFigure_86 : decode cX3_readFigure 86 = .ok (.if_icmp .ne 8, 3) := by decide +kernel
theorem dX3_readFigure_89 : decode cX3_readFigure 89 = .ok (.ldc 199, 2) := by decide +kernel
theorem dX3_readFigure_91 : decode cX3_readFigure 91 = .ok (.goto 5, 3) := by decide +kernel
theorem dX3_readFigure_94 : decode cX3_readFigure 94 = .ok (.ldc 201, 2) := by decide +kernel
theorem dX3_readFigure_96 : decode cX3_readFigure 96 = .ok (.iconst 1, 1) := by decide +kernel
theorem dX3_readFigure_97 : decode cX3_readFigure 97 = .ok (.bipush 20, 2) := by decide +kernel
theorem dX3_readFigure_99 : decode cX3_readFigure 99 = .ok (.invokevirtual 152, 3) := by decide +kernel
theorem dX3_readFigure_102 : decode cX3_readFigure 102 = .ok (.ifCond .ne 5, 3) := by decide +kernel
theorem dX3_readFigure_105 : decode cX3_readFigure 105 = .ok (.iconst 0, 1) := by decide +kernel
theorem dX3_readFigure_106 : decode cX3_readFigure 106 = .ok (.ireturn, 1) := by decide +kernel
theorem dX3_readFigure_107 : decode cX3_readFigure 107 = .ok (.aload_n 0, 1) := by decide +kernel
theorem dX3_readFigure_108 : decode cX3_readFigure 108 = .ok (.getfield 22, 3) := by decide +kernel
theorem dX3_readFigure_111 : decode cX3_readFigure 111 = .ok (.iload_n 1, 1) := by decide +kernel
theorem dX3_readFigure_112 : decode cX3_readFigure 112 = .ok (.iload_n 2, 1) := by decide +kernel
theorem dX3_readFigure_113 : decode cX3_readFigure 113 = .ok (.aload_n 0, 1) := by decide +kernel
theorem dX3_readFigure_114 : decode cX3_readFigure 114 = .ok (.getfield 156, 3) := by decide +kernel
theorem dX3_readFigure_117 : decode cX3_readFigure 117 = .ok (.invokevirtual 203, 3) := by decide +kernel
theorem dX3_readFigure_120 : decode cX3_readFigure 120 = .ok (.iconst 1, 1) := by decide +kernel
theorem dX3_readFigure_121 : decode cX3_readFigure 121 = .ok (.ireturn, 1) := by decide +kernel
theorem dX3_readWatcher_0 : decode cX3_readWatcher 0 = .ok (.aload_n 0, 1) := by decide +kernel
theorem dX3_readWatcher_1 : decode cX3_readWatcher 1 = .ok (.invokevirtual 54, 3) := by decide +kernel
theorem dX3_readWatcher_4 : decode cX3_readWatcher 4 = .ok (.aload_n 0, 1) := by decide +kernel
theorem dX3_readWatcher_5 : decode cX3_readWatcher 5 = .ok (.invokevirtual 184, 3) := by decide +kernel
theorem dX3_readWatcher_8 : decode cX3_readWatcher 8 = .ok (.ifCond .eq 22, 3) := by decide +kernel
theorem dX3_readWatcher_11 : decode cX3_readWatcher 11 = .ok (.aload_n 0, 1) := by decide +kernel
theorem dX3_readWatcher_12 : decode cX3_readWatcher 12 = .ok (.ldc 207, 2) := by decide +kernel
theorem dX3_readWatcher_14 : decode cX3_readWatcher 14 = .ok (.iconst 0, 1) := by decide +kernel
theorem dX3_readWatcher_15 : decode cX3_readWatcher 15 = .ok (.aload_n 0, 1) := by decide +kernel
theorem dX3_readWatcher_16 : decode cX3_readWatcher 16 = .ok (.getfield 22, 3) := by decide +kernel
theorem dX3_readWatcher_19 : decode cX3_readWatcher 19 = .ok (.getfield 104, 3) := by decide +kernel
theorem dX3_readWatcher_22 : decode cX3_readWatcher 22 = .ok (.iconst 1, 1) := by decide +kernel
theorem dX3_readWatcher_23 : decode cX3_readWatcher 23 = .ok (.isub, 1) := by decide +kernel
theorem dX3_readWatcher_24 : decode cX3_readWatcher 24 = .ok (.invokevirtual 152, 3) := by decide +kernel
theorem dX3_readWatcher_27 : decode cX3_readWatcher 27 = .ok (.ifCond .ne 5, 3) := by decide +kernel
theorem dX3_readWatcher_30 : decode cX3_readWatcher 30 = .ok (.iconst 0, 1) := by decide +kernel
theorem dX3_readWatcher_31 : decode cX3_readWatcher 31 = .ok (.ireturn, 1) := by decide +kernel
theorem dX3_readWatcher_32 : decode cX3_readWatcher 32 = .ok (.aload_n 0, 1) := by decide +kernel
theorem dX3_readWatcher_33 : decode cX3_readWatcher 33 = .ok (.getfield 156, 3) := by decide +kernel
theorem dX3_readWatcher_36 : decode cX3_readWatcher 36 = .ok (.istore_n 1, 1) := by decide +kernel
theorem dX3_readWatcher_37 : decode cX3_readWatcher 37 = .ok (.aload_n 0, 1) := by decide +kernel
theorem dX3_readWatcher_38 : decode cX3_readWatcher 38 = .ok (.ldc 209, 2) := by decide +kernel
theorem dX3_readWatcher_40 : decode cX3_readWatcher 40 = .ok (.iconst 0, 1) := by decide +kernel
theorem dX3_readWatcher_41 : decode cX3_readWatcher 41 = .ok (.aload_n 0, 1) := by decide +kernel
theorem dX3_readWatcher_42 : decode cX3_readWatcher 42 = .ok (.getfield 22, 3) := by decide +kernel
theorem dX3_readWatcher_45 : decode cX3_readWatcher 45 = .ok (.getfield 104, 3) := by decide +kernel
theorem dX3_readWatcher_48 : decode cX3_readWatcher 48 = .ok (.iconst 1, 1) := by decide +kernel
theorem dX3_readWatcher_49 : decode cX3_readWatcher 49 = .ok (.isub, 1) := by decide +kernel
theorem dX3_readWatcher_50 : decode cX3_readWatcher 50 = .ok (.invokevirtual 152, 3) := by decide +kernel
theorem dX3_readWatcher_53 : decode cX3_readWatcher 53 = .ok (.ifCond .ne 5, 3) := by decide +kernel
theorem dX3_readWatcher_56 : decode cX3_readWatcher 56 = .ok (.iconst 0, 1) := by decide +kernel
theorem dX3_readWatcher_57 : decode cX3_readWatcher 57 = .ok (.ireturn, 1) := by decide +kernel
theorem dX3_readWatcher_58 : decode cX3_readWatcher 58 = .ok (.aload_n 0, 1) := by decide +kernel
theorem dX3_readWatcher_59 : decode cX3_readWatcher 59 = .ok (.getfield 22, 3) := by decide +kernel
theorem dX3_readWatcher_62 : decode cX3_readWatcher 62 = .ok (.getfield 133, 3) := by decide +kernel
theorem dX3_readWatcher_65 : decode cX3_readWatcher 65 = .ok (.iload_n 1, 1) := by decide +kernel
theorem dX3_readWatcher_66 : decode cX3_readWatcher 66 = .ok (.aload_n 0, 1) := by decide +kernel
theorem dX3_readWatcher_67 : decode cX3_readWatcher 67 = .ok (.getfield 156, 3) := by decide +kernel
theorem dX3_readWatcher_70 : decode cX3_readWatcher 70 = .ok (.invokevirtual 211, 3) := by decide +kernel
theorem dX3_readWatcher_73 : decode cX3_readWatcher 73 = .ok (.iconst 1, 1) := by decide +kernel
theorem dX3_readWatcher_74 : decode cX3_readWatcher 74 = .ok (.ireturn, 1) := by decide +kernel
theorem dX3_readSeen_0 : decode cX3_readSeen 0 = .ok (.aload_n 0, 1) := by decide +kernel
theorem dX3_readSeen_1 : decode cX3_readSeen 1 = .ok (.ldc 116, 2) := by decide +kernel
theorem dX3_readSeen_3 : decode cX3_readSeen 3 = .ok (.iconst 0, 1) := by decide +kernel
theorem dX3_readSeen_4 : decode cX3_readSeen 4 = .ok (.aload_n 0, 1) := by decide +kernel
theorem dX3_readSeen_5 : decode cX3_readSeen 5 = .ok (.getfield 22, 3) := by decide +kernel
theorem dX3_readSeen_8 : decode cX3_readSeen 8 = .ok (.getfield 104, 3) := by decide +kernel
theorem dX3_readSeen_11 : decode cX3_readSeen 11 = .ok (.iconst 1, 1) := by decide +kernel
theorem dX3_readSeen_12 : decode cX3_readSeen 12 = .ok (.isub, 1) := by decide +kernel
theorem dX3_readSeen_13 : decode cX3_readSeen 13 = .ok (.invokevirtual 152, 3) := by decide +kernel
theorem dX3_readSeen_16 : decode cX3_readSeen 16 = .ok (.ifCond .ne 5, 3) := by decide +kernel
theorem dX3_readSeen_19 : decode cX3_readSeen 19 = .ok (.iconst 0, 1) := by decide +kernel
theorem dX3_readSeen_20 : decode cX3_readSeen 20 = .ok (.ireturn, 1) := by decide +kernel
theorem dX3_readSeen_21 : decode cX3_readSeen 21 = .ok (.aload_n 0, 1) := by decide +kernel
theorem dX3_readSeen_22 : decode cX3_readSeen 22 = .ok (.getfield 156, 3) := by decide +kernel
theorem dX3_readSeen_25 : decode cX3_readSeen 25 = .ok (.istore_n 1, 1) := by decide +kernel
theorem dX3_readSeen_26 : decode cX3_readSeen 26 = .ok (.aload_n 0, 1) := by decide +kernel
theorem dX3_readSeen_27 : decode cX3_readSeen 27 = .ok (.ldc 215, 2) := by decide +kernel
theorem dX3_readSeen_29 : decode cX3_readSeen 29 = .ok (.invokevirtual 189, 3) := by decide +kernel
theorem dX3_readSeen_32 : decode cX3_readSeen 32 = .ok (.ifCond .eq 14, 3) := by decide +kernel
theorem dX3_readSeen_35 : decode cX3_readSeen 35 = .ok (.aload_n 0, 1) := by decide +kernel
theorem dX3_readSeen_36 : decode cX3_readSeen 36 = .ok (.iconst 0, 1) := by decide +kernel
theorem dX3_readSeen_37 : decode cX3_readSeen 37 = .ok (.sipush 999, 3) := by decide +kernel
theorem dX3_readSeen_40 : decode cX3_readSeen 40 = .ok (.invokevirtual 192, 3) := by decide +kernel
theorem dX3_readSeen_43 : decode cX3_readSeen 43 = .ok (.ifCond .ne 5, 3) := by decide +kernel
theorem dX3_readSeen_46 : decode cX3_readSeen 46 = .ok (.iconst 0, 1) := by decide +kernel
theorem dX3_readSeen_47 : decode cX3_readSeen 47 = .ok (.ireturn, 1) := by decide +kernel
theorem dX3_readSeen_48 : decode cX3_readSeen 48 = .ok (.aload_n 0, 1) := by decide +kernel
theorem dX3_readSeen_49 : decode cX3_readSeen 49 = .ok (.getfield 22, 3) := by decide +kernel
theorem dX3_readSeen_52 : decode cX3_readSeen 52 = .ok (.aload_n 0, 1) := by decide +kernel
theorem dX3_readSeen_53 : decode cX3_readSeen 53 = .ok (.getfield 85, 3) := by decide +kernel
theorem dX3_readSeen_56 : decode cX3_readSeen 56 = .ok (.invokevirtual 217, 3) := by decide +kernel
theorem dX3_readSeen_59 : decode cX3_readSeen 59 = .ok (.ifCond .eq 9, 3) := by decide +kernel
theorem dX3_readSeen_62 : decode cX3_readSeen 62 = .ok (.aload_n 0, 1) := by decide +kernel
theorem dX3_readSeen_63 : decode cX3_readSeen 63 = .ok (.iconst 3, 1) := by decide +kernel
theorem dX3_readSeen_64 : decode cX3_readSeen 64 = .ok (.invokevirtual 64, 3) := by decide +kernel
theorem dX3_readSeen_67 : decode cX3_readSeen 67 = .ok (.ireturn, 1) := by decide +kernel
theorem dX3_readSeen_68 : decode cX3_readSeen 68 = .ok (.aload_n 0, 1) := by decide +kernel
theorem dX3_readSeen_69 : decode cX3_readSeen 69 = .ok (.getfield 22, 3) := by decide +kernel
theorem dX3_readSeen_72 : decode cX3_readSeen 72 = .ok (.iload_n 1, 1) := by decide +kernel
theorem dX3_readSeen_73 : decode cX3_readSeen 73 = .ok (.aload_n 0, 1) := by decide +kernel
theorem dX3_readSeen_74 : decode cX3_readSeen 74 = .ok (.getfield 85, 3) := by decide +kernel
theorem dX3_readSeen_77 : decode cX3_readSeen 77 = .ok (.invokevirtual 220, 3) := by decide +kernel
theorem dX3_readSeen_80 : decode cX3_readSeen 80 = .ok (.aload_n 0, 1) := by decide +kernel
theorem dX3_readSeen_81 : decode cX3_readSeen 81 = .ok (.invokevirtual 54, 3) := by decide +kernel
theorem dX3_readSeen_84 : decode cX3_readSeen 84 = .ok (.iconst 1, 1) := by decide +kernel
theorem dX3_readSeen_85 : decode cX3_readSeen 85 = .ok (.ireturn, 1) := by decide +kernel
theorem dX3_takeWord_0 : decode cX3_takeWord 0 = .ok (.aload_n 0, 1) := by decide +kernel
theorem dX3_takeWord_1 : decode cX3_takeWord 1 = .ok (.aload_n 1, 1) := by decide +kernel
theorem dX3_takeWord_2 : decode cX3_takeWord 2 = .ok (.invokevirtual 100, 3) := by decide +kernel
theorem dX3_takeWord_5 : decode cX3_takeWord 5 = .ok (.ifCond .ne 9, 3) := by decide +kernel
theorem dX3_takeWord_8 : decode cX3_takeWord 8 = .ok (.aload_n 0, 1) := by decide +kernel
theorem dX3_takeWord_9 : decode cX3_takeWord 9 = .ok (.iconst 1, 1) := by decide +kernel
theorem dX3_takeWord_10 : decode cX3_takeWord 10 = .ok (.invokevirtual 64, 3) := by decide +kernel
theorem dX3_takeWord_13 : decode cX3_takeWord 13 = .ok (.ireturn, 1) := by decide +kernel
theorem dX3_takeWord_14 : decode cX3_takeWord 14 = .ok (.aload_n 0, 1) := by decide +kernel
theorem dX3_takeWord_15 : decode cX3_takeWord 15 = .ok (.invokevirtual 54, 3) := by decide +kernel
theorem dX3_takeWord_18 : decode cX3_takeWord 18 = .ok (.iconst 1, 1) := by decide +kernel
theorem dX3_takeWord_19 : decode cX3_takeWord 19 = .ok (.ireturn, 1) := by decide +kernel
theorem dX3_isWholeWithin_0 : decode cX3_isWholeWithin 0 = .ok (.aload_n 0, 1) := by decide +kernel
theorem dX3_isWholeWithin_1 : decode cX3_isWholeWithin 1 = .ok (.getfield 61, 3) := by decide +kernel
theorem dX3_isWholeWithin_4 : decode cX3_isWholeWithin 4 = .ok (.iconst 2, 1) := by decide +kernel
theorem dX3_isWholeWithin_5 : decode cX3_isWholeWithin 5 = .ok (.if_icmp .eq 9, 3) := by decide +kernel
theorem dX3_isWholeWithin_8 : decode cX3_isWholeWithin 8 = .ok (.aload_n 0, 1) := by decide +kernel
theorem dX3_isWholeWithin_9 : decode cX3_isWholeWithin 9 = .ok (.iconst 1, 1) := by decide +kernel
theorem dX3_isWholeWithin_10 : decode cX3_isWholeWithin 10 = .ok (.invokevirtual 64, 3) := by decide +kernel
theorem dX3_isWholeWithin_13 : decode cX3_isWholeWithin 13 = .ok (.ireturn, 1) := by decide +kernel
theorem dX3_isWholeWithin_14 : decode cX3_isWholeWithin 14 = .ok (.aload_n 0, 1) := by decide +kernel
theorem dX3_isWholeWithin_15 : decode cX3_isWholeWithin 15 = .ok (.getfield 85, 3) := by decide +kernel
