theorem dX0_init_0 : decode cX0_init 0 = .ok (.aload_n 0, 1) := by decide +kernel
theorem dX0_init_1 : decode cX0_init 1 = .ok (.invokespecial 3, 3) := by decide +kernel
theorem dX0_init_4 : decode cX0_init 4 = .ok (.aload_n 0, 1) := by decide +kernel
theorem dX0_init_5 : decode cX0_init 5 = .ok (.bipush 9, 2) := by decide +kernel
theorem dX0_init_7 : decode cX0_init 7 = .ok (.newarray .int, 2) := by decide +kernel
theorem dX0_init_9 : decode cX0_init 9 = .ok (.putfield 9, 3) := by decide +kernel
theorem dX0_init_12 : decode cX0_init 12 = .ok (.aload_n 0, 1) := by decide +kernel
theorem dX0_init_13 : decode cX0_init 13 = .ok (.bipush 9, 2) := by decide +kernel
theorem dX0_init_15 : decode cX0_init 15 = .ok (.newarray .int, 2) := by decide +kernel
theorem dX0_init_17 : decode cX0_init 17 = .ok (.putfield 15, 3) := by decide +kernel
theorem dX0_init_20 : decode cX0_init 20 = .ok (.aload_n 0, 1) := by decide +kernel
theorem dX0_init_21 : decode cX0_init 21 = .ok (.bipush 6, 2) := by decide +kernel
theorem dX0_init_23 : decode cX0_init 23 = .ok (.newarray .int, 2) := by decide +kernel
theorem dX0_init_25 : decode cX0_init 25 = .ok (.putfield 18, 3) := by decide +kernel
theorem dX0_init_28 : decode cX0_init 28 = .ok (.aload_n 0, 1) := by decide +kernel
theorem dX0_init_29 : decode cX0_init 29 = .ok (.bipush 6, 2) := by decide +kernel
theorem dX0_init_31 : decode cX0_init 31 = .ok (.newarray .int, 2) := by decide +kernel
theorem dX0_init_33 : decode cX0_init 33 = .ok (.putfield 21, 3) := by decide +kernel
theorem dX0_init_36 : decode cX0_init 36 = .ok (.aload_n 0, 1) := by decide +kernel
theorem dX0_init_37 : decode cX0_init 37 = .ok (.new 24, 3) := by decide +kernel
theorem dX0_init_40 : decode cX0_init 40 = .ok (.dup, 1) := by decide +kernel
theorem dX0_init_41 : decode cX0_init 41 = .ok (.invokespecial 26, 3) := by decide +kernel
theorem dX0_init_44 : decode cX0_init 44 = .ok (.putfield 27, 3) := by decide +kernel
theorem dX0_init_47 : decode cX0_init 47 = .ok (.return_, 1) := by decide +kernel
theorem dX0_clear_0 : decode cX0_clear 0 = .ok (.aload_n 0, 1) := by decide +kernel
theorem dX0_clear_1 : decode cX0_clear 1 = .ok (.iconst 0, 1) := by decide +kernel
theorem dX0_clear_2 : decode cX0_clear 2 = .ok (.putfield 31, 3) := by decide +kernel
theorem dX0_clear_5 : decode cX0_clear 5 = .ok (.aload_n 0, 1) := by decide +kernel
theorem dX0_clear_6 : decode cX0_clear 6 = .ok (.iconst 0, 1) := by decide +kernel
theorem dX0_clear_7 : decode cX0_clear 7 = .ok (.putfield 35, 3) := by decide +kernel
theorem dX0_clear_10 : decode cX0_clear 10 = .ok (.aload_n 0, 1) := by decide +kernel
theorem dX0_clear_11 : decode cX0_clear 11 = .ok (.iconst 0, 1) := by decide +kernel
theorem dX0_clear_12 : decode cX0_clear 12 = .ok (.putfield 39, 3) := by decide +kernel
theorem dX0_clear_15 : decode cX0_clear 15 = .ok (.aload_n 0, 1) := by decide +kernel
theorem dX0_clear_16 : decode cX0_clear 16 = .ok (.iconst 0, 1) := by decide +kernel
theorem dX0_clear_17 : decode cX0_clear 17 = .ok (.putfield 42, 3) := by decide +kernel
theorem dX0_clear_20 : decode cX0_clear 20 = .ok (.aload_n 0, 1) := by decide +kernel
theorem dX0_clear_21 : decode cX0_clear 21 = .ok (.getfield 27, 3) := by decide +kernel
theorem dX0_clear_24 : decode cX0_clear 24 = .ok (.iconst 0, 1) := by decide +kernel
theorem dX0_clear_25 : decode cX0_clear 25 = .ok (.putfield 45, 3) := by decide +kernel
theorem dX0_clear_28 : decode cX0_clear 28 = .ok (.iconst 0, 1) := by decide +kernel
theorem dX0_clear_29 : decode cX0_clear 29 = .ok (.istore_n 1, 1) := by decide +kernel
theorem dX0_clear_30 : decode cX0_clear 30 = .ok (.iload_n 1, 1) := by decide +kernel
theorem dX0_clear_31 : decode cX0_clear 31 = .ok (.bipush 9, 2) := by decide +kernel
theorem dX0_clear_33 : decode cX0_clear 33 = .ok (.if_icmp .ge 23, 3) := by decide +kernel
theorem dX0_clear_36 : decode cX0_clear 36 = .ok (.aload_n 0, 1) := by decide +kernel
theorem dX0_clear_37 : decode cX0_clear 37 = .ok (.getfield 9, 3) := by decide +kernel
theorem dX0_clear_40 : decode cX0_clear 40 = .ok (.iload_n 1, 1) := by decide +kernel
theorem dX0_clear_41 : decode cX0_clear 41 = .ok (.iconst 0, 1) := by decide +kernel
theorem dX0_clear_42 : decode cX0_clear 42 = .ok (.iastore, 1) := by decide +kernel
theorem dX0_clear_43 : decode cX0_clear 43 = .ok (.aload_n 0, 1) := by decide +kernel
theorem dX0_clear_44 : decode cX0_clear 44 = .ok (.getfield 15, 3) := by decide +kernel
theorem dX0_clear_47 : decode cX0_clear 47 = .ok (.iload_n 1, 1) := by decide +kernel
theorem dX0_clear_48 : decode cX0_clear 48 = .ok (.iconst 0, 1) := by decide +kernel
theorem dX0_clear_49 : decode cX0_clear 49 = .ok (.iastore, 1) := by decide +kernel
theorem dX0_clear_50 : decode cX0_clear 50 = .ok (.iinc 1 1, 3) := by decide +kernel
theorem dX0_clear_53 : decode cX0_clear 53 = .ok (.goto (-23), 3) := by decide +kernel
theorem dX0_clear_56 : decode cX0_clear 56 = .ok (.return_, 1) := by decide +kernel
theorem dX0_addFigure_0 : decode cX0_addFigure 0 = .ok (.iload_n 1, 1) := by decide +kernel
theorem dX0_addFigure_1 : decode cX0_addFigure 1 = .ok (.ifCond .lt 35, 3) := by decide +kernel
theorem dX0_addFigure_4 : decode cX0_addFigure 4 = .ok (.iload_n 1, 1) := by decide +kernel
theorem dX0_addFigure_5 : decode cX0_addFigure 5 = .ok (.bipush 9, 2) := by decide +kernel
theorem dX0_addFigure_7 : decode cX0_addFigure 7 = .ok (.if_icmp .ge 29, 3) := by decide +kernel
theorem dX0_addFigure_10 : decode cX0_addFigure 10 = .ok (.aload_n 0, 1) := by decide +kernel
theorem dX0_addFigure_11 : decode cX0_addFigure 11 = .ok (.dup, 1) := by decide +kernel
theorem dX0_addFigure_12 : decode cX0_addFigure 12 = .ok (.getfield 39, 3) := by decide +kernel
theorem dX0_addFigure_15 : decode cX0_addFigure 15 = .ok (.iconst 1, 1) := by decide +kernel
theorem dX0_addFigure_16 : decode cX0_addFigure 16 = .ok (.iload_n 1, 1) := by decide +kernel
theorem dX0_addFigure_17 : decode cX0_addFigure 17 = .ok (.ishl, 1) := by decide +kernel
theorem dX0_addFigure_18 : decode cX0_addFigure 18 = .ok (.ior, 1) := by decide +kernel
theorem dX0_addFigure_19 : decode cX0_addFigure 19 = .ok (.putfield 39, 3) := by decide +kernel
theorem dX0_addFigure_22 : decode cX0_addFigure 22 = .ok (.aload_n 0, 1) := by decide +kernel
theorem dX0_addFigure_23 : decode cX0_addFigure 23 = .ok (.getfield 9, 3) := by decide +kernel
theorem dX0_addFigure_26 : decode cX0_addFigure 26 = .ok (.iload_n 1, 1) := by decide +kernel
theorem dX0_addFigure_27 : decode cX0_addFigure 27 = .ok (.iload_n 2, 1) := by decide +kernel
theorem dX0_addFigure_28 : decode cX0_addFigure 28 = .ok (.iastore, 1) := by decide +kernel
theorem dX0_addFigure_29 : decode cX0_addFigure 29 = .ok (.aload_n 0, 1) := by decide +kernel
theorem dX0_addFigure_30 : decode cX0_addFigure 30 = .ok (.getfield 15, 3) := by decide +kernel
theorem dX0_addFigure_33 : decode cX0_addFigure 33 = .ok (.iload_n 1, 1) := by decide +kernel
theorem dX0_addFigure_34 : decode cX0_addFigure 34 = .ok (.iload_n 3, 1) := by decide +kernel
theorem dX0_addFigure_35 : decode cX0_addFigure 35 = .ok (.iastore, 1) := by decide +kernel
theorem dX0_addFigure_36 : decode cX0_addFigure 36 = .ok (.return_, 1) := by decide +kernel
theorem dX0_addSeen_0 : decode cX0_addSeen 0 = .ok (.aload_n 0, 1) := by decide +kernel
theorem dX0_addSeen_1 : decode cX0_addSeen 1 = .ok (.getfield 42, 3) := by decide +kernel
theorem dX0_addSeen_4 : decode cX0_addSeen 4 = .ok (.bipush 6, 2) := by decide +kernel
theorem dX0_addSeen_6 : decode cX0_addSeen 6 = .ok (.if_icmp .ge 33, 3) := by decide +kernel
theorem dX0_addSeen_9 : decode cX0_addSeen 9 = .ok (.aload_n 0, 1) := by decide +kernel
theorem dX0_addSeen_10 : decode cX0_addSeen 10 = .ok (.getfield 18, 3) := by decide +kernel
theorem dX0_addSeen_13 : decode cX0_addSeen 13 = .ok (.aload_n 0, 1) := by decide +kernel
theorem dX0_addSeen_14 : decode cX0_addSeen 14 = .ok (.getfield 42, 3) := by decide +kernel
theorem dX0_addSeen_17 : decode cX0_addSeen 17 = .ok (.iload_n 1, 1) := by decide +kernel
theorem dX0_addSeen_18 : decode cX0_addSeen 18 = .ok (.iastore, 1) := by decide +kernel
theorem dX0_addSeen_19 : decode cX0_addSeen 19 = .ok (.aload_n 0, 1) := by decide +kernel
theorem dX0_addSeen_20 : decode cX0_addSeen 20 = .ok (.getfield 21, 3) := by decide +kernel
theorem dX0_addSeen_23 : decode cX0_addSeen 23 = .ok (.aload_n 0, 1) := by decide +kernel
theorem dX0_addSeen_24 : decode cX0_addSeen 24 = .ok (.getfield 42, 3) := by decide +kernel
theorem dX0_addSeen_27 : decode cX0_addSeen 27 = .ok (.iload_n 2, 1) := by decide +kernel
theorem dX0_addSeen_28 : decode cX0_addSeen 28 = .ok (.iastore, 1) := by decide +kernel
theorem dX0_addSeen_29 : decode cX0_addSeen 29 = .ok (.aload_n 0, 1) := by decide +kernel
theorem dX0_addSeen_30 : decode cX0_addSeen 30 = .ok (.dup, 1) := by decide +kernel
theorem dX0_addSeen_31 : decode cX0_addSeen 31 = .ok (.getfield 42, 3) := by decide +kernel
theorem dX0_addSeen_34 : decode cX0_addSeen 34 = .ok (.iconst 1, 1) := by decide +kernel
theorem dX0_addSeen_35 : decode cX0_addSeen 35 = .ok (.iadd, 1) := by decide +kernel
theorem dX0_addSeen_36 : decode cX0_addSeen 36 = .ok (.putfield 42, 3) := by decide +kernel
theorem dX0_addSeen_39 : decode cX0_addSeen 39 = .ok (.return_, 1) := by decide +kernel
theorem dX0_isSeenMinute_0 : decode cX0_isSeenMinute 0 = .ok (.iconst 0, 1) := by decide +kernel
theorem dX0_isSeenMinute_1 : decode cX0_isSeenMinute 1 = .ok (.istore_n 2, 1) := by decide +kernel
theorem dX0_isSeenMinute_2 : decode cX0_isSeenMinute 2 = .ok (.iload_n 2, 1) := by decide +kernel
theorem dX0_isSeenMinute_3 : decode cX0_isSeenMinute 3 = .ok (.aload_n 0, 1) := by decide +kernel
theorem dX0_isSeenMinute_4 : decode cX0_isSeenMinute 4 = .ok (.getfield 42, 3) := by decide +kernel
theorem dX0_isSeenMinute_7 : decode cX0_isSeenMinute 7 = .ok (.if_icmp .ge 21, 3) := by decide +kernel
theorem dX0_isSeenMinute_10 : decode cX0_isSeenMinute 10 = .ok (.aload_n 0, 1) := by decide +kernel
theorem dX0_isSeenMinute_11 : decode cX0_isSeenMinute 11 = .ok (.getfield 21, 3) := by decide +kernel
theorem dX0_isSeenMinute_14 : decode cX0_isSeenMinute 14 = .ok (.iload_n 2, 1) := by decide +kernel
theorem dX0_isSeenMinute_15 : decode cX0_isSeenMinute 15 = .ok (.iaload, 1) := by decide +kernel
theorem dX0_isSeenMinute_16 : decode cX0_isSeenMinute 16 = .ok (.iload_n 1, 1) := by decide +kernel
theorem dX0_isSeenMinute_17 : decode cX0_isSeenMinute 17 = .ok (.if_icmp .ne 5, 3) := by decide +kernel
theorem dX0_isSeenMinute_20 : decode cX0_isSeenMinute 20 = .ok (.iconst 1, 1) := by decide +kernel
theorem dX0_isSeenMinute_21 : decode cX0_isSeenMinute 21 = .ok (.ireturn, 1) := by decide +kernel
theorem dX0_isSeenMinute_22 : decode cX0_isSeenMinute 22 = .ok (.iinc 2 1, 3) := by decide +kernel
theorem dX0_isSeenMinute_25 : decode cX0_isSeenMinute 25 = .ok (.goto (-23), 3) := by decide +kernel
theorem dX0_isSeenMinute_28 : decode cX0_isSeenMinute 28 = .ok (.iconst 0, 1) := by decide +kernel
theorem dX0_isSeenMinute_29 : decode cX0_isSeenMinute 29 = .ok (.ireturn, 1) := by decide +kernel
theorem dX0_sizeTold_0 : decode cX0_sizeTold 0 = .ok (.iload_n 1, 1) := by decide +kernel
theorem dX0_sizeTold_1 : decode cX0_sizeTold 1 = .ok (.tableswitch 111 0 9 #[55, 60, 65, 70, 75, 83, 91, 96, 101, 106], 55) := by decide +kernel
theorem dX0_sizeTold_56 : decode cX0_sizeTold 56 = .ok (.aload_n 0, 1) := by decide +kernel
theorem dX0_sizeTold_57 : decode cX0_sizeTold 57 = .ok (.getfield 31, 3) := by decide +kernel
theorem dX0_sizeTold_60 : decode cX0_sizeTold 60 = .ok (.ireturn, 1) := by decide +kernel
theorem dX0_sizeTold_61 : decode cX0_sizeTold 61 = .ok (.aload_n 0, 1) := by decide +kernel
theorem dX0_sizeTold_62 : decode cX0_sizeTold 62 = .ok (.getfield 48, 3) := by decide +kernel
theorem dX0_sizeTold_65 : decode cX0_sizeTold 65 = .ok (.ireturn, 1) := by decide +kernel
theorem dX0_sizeTold_66 : decode cX0_sizeTold 66 = .ok (.aload_n 0, 1) := by decide +kernel
theorem dX0_sizeTold_67 : decode cX0_sizeTold 67 = .ok (.getfield 51, 3) := by decide +kernel
theorem dX0_sizeTold_70 : decode cX0_sizeTold 70 = .ok (.ireturn, 1) := by decide +kernel
theorem dX0_sizeTold_71 : decode cX0_sizeTold 71 = .ok (.aload_n 0, 1) := by decide +kernel
theorem dX0_sizeTold_72 : decode cX0_sizeTold 72 = .ok (.getfield 54, 3) := by decide +kernel
theorem dX0_sizeTold_75 : decode cX0_sizeTold 75 = .ok (.ireturn, 1) := by decide +kernel
theorem dX0_sizeTold_76 : decode cX0_sizeTold 76 = .ok (.aload_n 0, 1) := by decide +kernel
theorem dX0_sizeTold_77 : decode cX0_sizeTold 77 = .ok (.getfield 39, 3) := by decide +kernel
theorem dX0_sizeTold_80 : decode cX0_sizeTold 80 = .ok (.invokestatic 57, 3) := by decide +kernel
theorem dX0_sizeTold_83 : decode cX0_sizeTold 83 = .ok (.ireturn, 1) := by decide +kernel
theorem dX0_sizeTold_84 : decode cX0_sizeTold 84 = .ok (.aload_n 0, 1) := by decide +kernel
theorem dX0_sizeTold_85 : decode cX0_sizeTold 85 = .ok (.getfield 27, 3) := by decide +kernel
theorem dX0_sizeTold_88 : decode cX0_sizeTold 88 = .ok (.getfield 45, 3) := by decide +kernel
theorem dX0_sizeTold_91 : decode cX0_sizeTold 91 = .ok (.ireturn, 1) := by decide +kernel
theorem dX0_sizeTold_92 : decode cX0_sizeTold 92 = .ok (.aload_n 0, 1) := by decide +kernel
theorem dX0_sizeTold_93 : decode cX0_sizeTold 93 = .ok (.getfield 42, 3) := by decide +kernel
theorem dX0_sizeTold_96 : decode cX0_sizeTold 96 = .ok (.ireturn, 1) := by decide +kernel
theorem dX0_sizeTold_97 : decode cX0_sizeTold 97 = .ok (.aload_n 0, 1) := by decide +kernel
theorem dX0_sizeTold_98 : decode cX0_sizeTold 98 = .ok (.getfield 63, 3) := by decide +kernel
theorem dX0_sizeTold_101 : decode cX0_sizeTold 101 = .ok (.ireturn, 1) := by decide +kernel
theorem dX0_sizeTold_102 : decode cX0_sizeTold 102 = .ok (.aload_n 0, 1) := by decide +kernel
theorem dX0_sizeTold_103 : decode cX0_sizeTold 103 = .ok (.getfield 66, 3) := by decide +kernel
theorem dX0_sizeTold_106 : decode cX0_sizeTold 106 = .ok (.ireturn, 1) := by decide +kernel
theorem dX0_sizeTold_107 : decode cX0_sizeTold 107 = .ok (.aload_n 0, 1) := by decide +kernel
theorem dX0_sizeTold_108 : decode cX0_sizeTold 108 = .ok (.getfield 69, 3) := by decide +kernel
theorem dX0_sizeTold_111 : decode cX0_sizeTold 111 = .ok (.ireturn, 1) := by decide +kernel
theorem dX0_sizeTold_112 : decode cX0_sizeTold 112 = .ok (.iconst (-1), 1) := by decide +kernel
theorem dX0_sizeTold_113 : decode cX0_sizeTold 113 = .ok (.ireturn, 1) := by decide +kernel
theorem dX0_next_0 : decode cX0_next 0 = .ok (.aload_n 0, 1) := by decide +kernel
theorem dX0_next_1 : decode cX0_next 1 = .ok (.getfield 31, 3) := by decide +kernel
theorem dX0_next_4 : decode cX0_next 4 = .ok (.ifCond .gt 7, 3) := by decide +kernel
theorem dX0_next_7 : decode cX0_next 7 = .ok (.iconst 0, 1) := by decide +kernel
theorem dX0_next_8 : decode cX0_next 8 = .ok (.goto 19, 3) := by decide +kernel
theorem dX0_next_11 : decode cX0_next 11 = .ok (.iload_n 1, 1) := by decide +kernel
theorem dX0_next_12 : decode cX0_next 12 = .ok (.aload_n 0, 1) := by decide +kernel
theorem dX0_next_13 : decode cX0_next 13 = .ok (.getfield 63, 3) := by decide +kernel
theorem dX0_next_16 : decode cX0_next 16 = .ok (.imul, 1) := by decide +kernel
theorem dX0_next_17 : decode cX0_next 17 = .ok (.aload_n 0, 1) := by decide +kernel
theorem dX0_next_18 : decode cX0_next 18 = .ok (.getfield 66, 3) := by decide +kernel
theorem dX0_next_21 : decode cX0_next 21 = .ok (.iadd, 1) := by decide +kernel
theorem dX0_next_22 : decode cX0_next 22 = .ok (.aload_n 0, 1) := by decide +kernel
theorem dX0_next_23 : decode cX0_next 23 = .ok (.getfield 31, 3) := by decide +kernel
theorem dX0_next_26 : decode cX0_next 26 = .ok (.irem, 1) := by decide +kernel
theorem dX0_next_27 : decode cX0_next 27 = .ok (.ireturn, 1) := by decide +kernel
theorem dX0_aliveByLaw_0 : decode cX0_aliveByLaw 0 = .ok (.aload_n 0, 1) := by decide +kernel
theorem dX0_aliveByLaw_1 : decode cX0_aliveByLaw 1 = .ok (.getfield 48, 3) := by decide +kernel
theorem dX0_aliveByLaw_4 : decode cX0_aliveByLaw 4 = .ok (.ifCond .gt 7, 3) := by decide +kernel
theorem dX0_aliveByLaw_7 : decode cX0_aliveByLaw 7 = .ok (.iconst 0, 1) := by decide +kernel
theorem dX0_aliveByLaw_8 : decode cX0_aliveByLaw 8 = .ok (.goto 9, 3) := by decide +kernel
theorem dX0_aliveByLaw_11 : decode cX0_aliveByLaw 11 = .ok (.iload_n 2, 1) := by decide +kernel
theorem dX0_aliveByLaw_12 : decode cX0_aliveByLaw 12 = .ok (.aload_n 0, 1) := by decide +kernel
theorem dX0_aliveByLaw_13 : decode cX0_aliveByLaw 13 = .ok (.getfield 48, 3) := by decide +kernel
theorem dX0_aliveByLaw_16 : decode cX0_aliveByLaw 16 = .ok (.idiv, 1) := by decide +kernel
theorem dX0_aliveByLaw_17 : decode cX0_aliveByLaw 17 = .ok (.istore_n 3, 1) := by decide +kernel
theorem dX0_aliveByLaw_18 : decode cX0_aliveByLaw 18 = .ok (.aload_n 0, 1) := by decide +kernel
theorem dX0_aliveByLaw_19 : decode cX0_aliveByLaw 19 = .ok (.getfield 31, 3) := by decide +kernel
theorem dX0_aliveByLaw_22 : decode cX0_aliveByLaw 22 = .ok (.iload_n 1, 1) := by decide +kernel
theorem dX0_aliveByLaw_23 : decode cX0_aliveByLaw 23 = .ok (.bipush 100, 2) := by decide +kernel
theorem dX0_aliveByLaw_25 : decode cX0_aliveByLaw 25 = .ok (.idiv, 1) := by decide +kernel
theorem dX0_aliveByLaw_26 : decode cX0_aliveByLaw 26 = .ok (.iload_n 1, 1) := by decide +kernel
theorem dX0_aliveByLaw_27 : decode cX0_aliveByLaw 27 = .ok (.bipush 10, 2) := by decide +kernel
theorem dX0_aliveByLaw_29 : decode cX0_aliveByLaw 29 = .ok (.idiv, 1) := by decide +kernel
theorem dX0_aliveByLaw_30 : decode cX0_aliveByLaw 30 = .ok (.bipush 10, 2) := by decide +kernel
theorem dX0_aliveByLaw_32 : decode cX0_aliveByLaw 32 = .ok (.irem, 1) := by decide +kernel
theorem dX0_aliveByLaw_33 : decode cX0_aliveByLaw 33 = .ok (.iload_n 1, 1) := by decide +kernel
theorem dX0_aliveByLaw_34 : decode cX0_aliveByLaw 34 = .ok (.bipush 10, 2) := by decide +kernel
theorem dX0_aliveByLaw_36 : decode cX0_aliveByLaw 36 = .ok (.irem, 1) := by decide +kernel
theorem dX0_aliveByLaw_37 : decode cX0_aliveByLaw 37 = .ok (.iload_n 3, 1) := by decide +kernel
theorem dX0_aliveByLaw_38 : decode cX0_aliveByLaw 38 = .ok (.invokestatic 72, 3) := by decide +kernel
theorem dX0_aliveByLaw_41 : decode cX0_aliveByLaw 41 = .ok (.ireturn, 1) := by decide +kernel
theorem dX0_goesLike_0 : decode cX0_goesLike 0 = .ok (.aload_n 0, 1) := by decide +kernel
theorem dX0_goesLike_1 : decode cX0_goesLike 1 = .ok (.getfield 69, 3) := by decide +kernel
theorem dX0_goesLike_4 : decode cX0_goesLike 4 = .ok (.istore_n 3, 1) := by decide +kernel
theorem dX0_goesLike_5 : decode cX0_goesLike 5 = .ok (.iconst 0, 1) := by decide +kernel
theorem dX0_goesLike_6 : decode cX0_goesLike 6 = .ok (.istore 4, 2) := by decide +kernel
theorem dX0_goesLike_8 : decode cX0_goesLike 8 = .ok (.iload 4, 2) := by decide +kernel
theorem dX0_goesLike_10 : decode cX0_goesLike 10 = .ok (.aload_n 0, 1) := by decide +kernel
theorem dX0_goesLike_11 : decode cX0_goesLike 11 = .ok (.getfield 31, 3) := by decide +kernel
theorem dX0_goesLike_14 : decode cX0_goesLike 14 = .ok (.if_icmp .ge 36, 3) := by decide +kernel
theorem dX0_goesLike_17 : decode cX0_goesLike 17 = .ok (.aload_n 0, 1) := by decide +kernel
theorem dX0_goesLike_18 : decode cX0_goesLike 18 = .ok (.iload_n 3, 1) := by decide +kernel
theorem dX0_goesLike_19 : decode cX0_goesLike 19 = .ok (.invokevirtual 76, 3) := by decide +kernel
theorem dX0_goesLike_22 : decode cX0_goesLike 22 = .ok (.istore 5, 2) := by decide +kernel
theorem dX0_goesLike_24 : decode cX0_goesLike 24 = .ok (.iload_n 3, 1) := by decide +kernel
theorem dX0_goesLike_25 : decode cX0_goesLike 25 = .ok (.iload_n 1, 1) := by decide +kernel
theorem dX0_goesLike_26 : decode cX0_goesLike 26 = .ok (.imul, 1) := by decide +kernel
theorem dX0_goesLike_27 : decode cX0_goesLike 27 = .ok (.iload_n 2, 1) := by decide +kernel
theorem dX0_goesLike_28 : decode cX0_goesLike 28 = .ok (.iadd, 1) := by decide +kernel
theorem dX0_goesLike_29 : decode cX0_goesLike 29 = .ok (.aload_n 0, 1) := by decide +kernel
theorem dX0_goesLike_30 : decode cX0_goesLike 30 = .ok (.getfield 31, 3) := by decide +kernel
theorem dX0_goesLike_33 : decode cX0_goesLike 33 = .ok (.irem, 1) := by decide +kernel
theorem dX0_goesLike_34 : decode cX0_goesLike 34 = .ok (.iload 5, 2) := by decide +kernel
theorem dX0_goesLike_36 : decode cX0_goesLike 36 = .ok (.if_icmp .eq 5, 3) := by decide +kernel
theorem dX0_goesLike_39 : decode cX0_goesLike 39 = .ok (.iconst 0, 1) := by decide +kernel
theorem dX0_goesLike_40 : decode cX0_goesLike 40 = .ok (.ireturn, 1) := by decide +kernel
theorem dX0_goesLike_41 : decode cX0_goesLike 41 = .ok (.iload 5, 2) := by decide +kernel
theorem dX0_goesLike_43 : decode cX0_goesLike 43 = .ok (.istore_n 3, 1) := by decide +kernel
theorem dX0_goesLike_44 : decode cX0_goesLike 44 = .ok (.iinc 4 1, 3) := by decide +kernel
theorem dX0_goesLike_47 : decode cX0_goesLike 47 = .ok (.goto (-39), 3) := by decide +kernel
theorem dX0_goesLike_50 : decode cX0_goesLike 50 = .ok (.iconst 1, 1) := by decide +kernel
theorem dX0_goesLike_51 : decode cX0_goesLike 51 = .ok (.ireturn, 1) := by decide +kernel
theorem dX0_pass_0 : decode cX0_pass 0 = .ok (.aload_n 1, 1) := by decide +kernel
theorem dX0_pass_1 : decode cX0_pass 1 = .ok (.getfield 79, 3) := by decide +kernel
theorem dX0_pass_4 : decode cX0_pass 4 = .ok (.istore_n 3, 1) := by decide +kernel
theorem dX0_pass_5 : decode cX0_pass 5 = .ok (.aload_n 1, 1) := by decide +kernel
theorem dX0_pass_6 : decode cX0_pass 6 = .ok (.getfield 84, 3) := by decide +kernel
theorem dX0_pass_9 : decode cX0_pass 9 = .ok (.iconst 1, 1) := by decide +kernel
theorem dX0_pass_10 : decode cX0_pass 10 = .ok (.iadd, 1) := by decide +kernel
theorem dX0_pass_11 : decode cX0_pass 11 = .ok (.istore 4, 2) := by decide +kernel
theorem dX0_pass_13 : decode cX0_pass 13 = .ok (.aload_n 0, 1) := by decide +kernel
theorem dX0_pass_14 : decode cX0_pass 14 = .ok (.iload_n 3, 1) := by decide +kernel
theorem dX0_pass_15 : decode cX0_pass 15 = .ok (.iload 4, 2) := by decide +kernel
theorem dX0_pass_17 : decode cX0_pass 17 = .ok (.invokevirtual 87, 3) := by decide +kernel
theorem dX0_pass_20 : decode cX0_pass 20 = .ok (.ifCond .eq 10, 3) := by decide +kernel
theorem dX0_pass_23 : decode cX0_pass 23 = .ok (.aload_n 0, 1) := by decide +kernel
theorem dX0_pass_24 : decode cX0_pass 24 = .ok (.aload_n 1, 1) := by decide +kernel
theorem dX0_pass_25 : decode cX0_pass 25 = .ok (.iload_n 3, 1) := by decide +kernel
theorem dX0_pass_26 : decode cX0_pass 26 = .ok (.aload_n 2, 1) := by decide +kernel
theorem dX0_pass_27 : decode cX0_pass 27 = .ok (.invokevirtual 91, 3) := by decide +kernel
theorem dX0_pass_30 : decode cX0_pass 30 = .ok (.aload_n 0, 1) := by decide +kernel
theorem dX0_pass_31 : decode cX0_pass 31 = .ok (.iload_n 3, 1) := by decide +kernel
theorem dX0_pass_32 : decode cX0_pass 32 = .ok (.iload 4, 2) := by decide +kernel
theorem dX0_pass_34 : decode cX0_pass 34 = .ok (.invokevirtual 95, 3) := by decide +kernel
theorem dX0_pass_37 : decode cX0_pass 37 = .ok (.istore 5, 2) := by decide +kernel
theorem dX0_pass_39 : decode cX0_pass 39 = .ok (.iload 5, 2) := by decide +kernel
theorem dX0_pass_41 : decode cX0_pass 41 = .ok (.ifCond .eq 34, 3) := by decide +kernel
theorem dX0_pass_44 : decode cX0_pass 44 = .ok (.aload_n 1, 1) := by decide +kernel
theorem dX0_pass_45 : decode cX0_pass 45 = .ok (.getfield 99, 3) := by decide +kernel
theorem dX0_pass_48 : decode cX0_pass 48 = .ok (.iload_n 3, 1) := by decide +kernel
theorem dX0_pass_49 : decode cX0_pass 49 = .ok (.iaload, 1) := by decide +kernel
theorem dX0_pass_50 : decode cX0_pass 50 = .ok (.aload_n 2, 1) := by decide +kernel
theorem dX0_pass_51 : decode cX0_pass 51 = .ok (.aload_n 1, 1) := by decide +kernel
theorem dX0_pass_52 : decode cX0_pass 52 = .ok (.getfield 102, 3) := by decide +kernel
theorem dX0_pass_55 : decode cX0_pass 55 = .ok (.invokevirtual 105, 3) := by decide +kernel
theorem dX0_pass_58 : decode cX0_pass 58 = .ok (.invokestatic 108, 3) := by decide +kernel
theorem dX0_pass_61 : decode cX0_pass 61 = .ok (.ifCond .eq 14, 3) := by decide +kernel
theorem dX0_pass_64 : decode cX0_pass 64 = .ok (.aload_n 1, 1) := by decide +kernel
theorem dX0_pass_65 : decode cX0_pass 65 = .ok (.getfield 111, 3) := by decide +kernel
theorem dX0_pass_68 : decode cX0_pass 68 = .ok (.iload_n 3, 1) := by decide +kernel
theorem dX0_pass_69 : decode cX0_pass 69 = .ok (.dup2, 1) := by decide +kernel
theorem dX0_pass_70 : decode cX0_pass 70 = .ok (.iaload, 1) := by decide +kernel
theorem dX0_pass_71 : decode cX0_pass 71 = .ok (.iload 5, 2) := by decide +kernel
theorem dX0_pass_73 : decode cX0_pass 73 = .ok (.ior, 1) := by decide +kernel
theorem dX0_pass_74 : decode cX0_pass 74 = .ok (.iastore, 1) := by decide +kernel
theorem dX0_pass_75 : decode cX0_pass 75 = .ok (.aload_n 1, 1) := by decide +kernel
theorem dX0_pass_76 : decode cX0_pass 76 = .ok (.dup, 1) := by decide +kernel
theorem dX0_pass_77 : decode cX0_pass 77 = .ok (.getfield 102, 3) := by decide +kernel
theorem dX0_pass_80 : decode cX0_pass 80 = .ok (.iconst 1, 1) := by decide +kernel
theorem dX0_pass_81 : decode cX0_pass 81 = .ok (.iadd, 1) := by decide +kernel
theorem dX0_pass_82 : decode cX0_pass 82 = .ok (.putfield 102, 3) := by decide +kernel
theorem dX0_pass_85 : decode cX0_pass 85 = .ok (.aload_n 1, 1) := by decide +kernel
theorem dX0_pass_86 : decode cX0_pass 86 = .ok (.iload 4, 2) := by decide +kernel
theorem dX0_pass_88 : decode cX0_pass 88 = .ok (.putfield 84, 3) := by decide +kernel
theorem dX0_pass_91 : decode cX0_pass 91 = .ok (.iload 4, 2) := by decide +kernel
theorem dX0_pass_93 : decode cX0_pass 93 = .ok (.aload_n 0, 1) := by decide +kernel
theorem dX0_pass_94 : decode cX0_pass 94 = .ok (.getfield 48, 3) := by decide +kernel
theorem dX0_pass_97 : decode cX0_pass 97 = .ok (.if_icmp .lt 12, 3) := by decide +kernel
theorem dX0_pass_100 : decode cX0_pass 100 = .ok (.aload_n 1, 1) := by decide +kernel
theorem dX0_pass_101 : decode cX0_pass 101 = .ok (.aload_n 0, 1) := by decide +kernel
theorem dX0_pass_102 : decode cX0_pass 102 = .ok (.iload_n 3, 1) := by decide +kernel
theorem dX0_pass_103 : decode cX0_pass 103 = .ok (.invokevirtual 76, 3) := by decide +kernel
theorem dX0_pass_106 : decode cX0_pass 106 = .ok (.invokevirtual 114, 3) := by decide +kernel
theorem dX0_pass_109 : decode cX0_pass 109 = .ok (.return_, 1) := by decide +kernel
theorem dX0_stepsIn_0 : decode cX0_stepsIn 0 = .ok (.iload_n 1, 1) := by decide +kernel
theorem dX0_stepsIn_1 : decode cX0_stepsIn 1 = .ok (.iconst 0, 1) := by decide +kernel
theorem dX0_stepsIn_2 : decode cX0_stepsIn 2 = .ok (.bipush 8, 2) := by decide +kernel
theorem dX0_stepsIn_4 : decode cX0_stepsIn 4 = .ok (.invokestatic 118, 3) := by decide +kernel
theorem dX0_stepsIn_7 : decode cX0_stepsIn 7 = .ok (.ifCond .eq 13, 3) := by decide +kernel
theorem dX0_stepsIn_10 : decode cX0_stepsIn 10 = .ok (.aload_n 0, 1) := by decide +kernel
theorem dX0_stepsIn_11 : decode cX0_stepsIn 11 = .ok (.getfield 9, 3) := by decide +kernel
theorem dX0_stepsIn_14 : decode cX0_stepsIn 14 = .ok (.iload_n 1, 1) := by decide +kernel
theorem dX0_stepsIn_15 : decode cX0_stepsIn 15 = .ok (.iaload, 1) := by decide +kernel
theorem dX0_stepsIn_16 : decode cX0_stepsIn 16 = .ok (.iconst 1, 1) := by decide +kernel
theorem dX0_stepsIn_17 : decode cX0_stepsIn 17 = .ok (.if_icmp .eq 5, 3) := by decide +kernel
theorem dX0_stepsIn_20 : decode cX0_stepsIn 20 = .ok (.iconst 0, 1) := by decide +kernel
theorem dX0_stepsIn_21 : decode cX0_stepsIn 21 = .ok (.ireturn, 1) := by decide +kernel
theorem dX0_stepsIn_22 : decode cX0_stepsIn 22 = .ok (.aload_n 0, 1) := by decide +kernel
theorem dX0_stepsIn_23 : decode cX0_stepsIn 23 = .ok (.getfield 15, 3) := by decide +kernel
theorem dX0_stepsIn_26 : decode cX0_stepsIn 26 = .ok (.iload_n 1, 1) := by decide +kernel
theorem dX0_stepsIn_27 : decode cX0_stepsIn 27 = .ok (.iaload, 1) := by decide +kernel
theorem dX0_stepsIn_28 : decode cX0_stepsIn 28 = .ok (.istore_n 3, 1) := by decide +kernel
theorem dX0_stepsIn_29 : decode cX0_stepsIn 29 = .ok (.iload_n 3, 1) := by decide +kernel
theorem dX0_stepsIn_30 : decode cX0_stepsIn 30 = .ok (.ifCond .le 13, 3) := by decide +kernel
theorem dX0_stepsIn_33 : decode cX0_stepsIn 33 = .ok (.iload_n 2, 1) := by decide +kernel
theorem dX0_stepsIn_34 : decode cX0_stepsIn 34 = .ok (.iload_n 3, 1) := by decide +kernel
theorem dX0_stepsIn_35 : decode cX0_stepsIn 35 = .ok (.irem, 1) := by decide +kernel
theorem dX0_stepsIn_36 : decode cX0_stepsIn 36 = .ok (.ifCond .ne 7, 3) := by decide +kernel
theorem dX0_stepsIn_39 : decode cX0_stepsIn 39 = .ok (.iconst 1, 1) := by decide +kernel
theorem dX0_stepsIn_40 : decode cX0_stepsIn 40 = .ok (.goto 4, 3) := by decide +kernel
theorem dX0_stepsIn_43 : decode cX0_stepsIn 43 = .ok (.iconst 0, 1) := by decide +kernel
theorem dX0_stepsIn_44 : decode cX0_stepsIn 44 = .ok (.ireturn, 1) := by decide +kernel
theorem dX0_step_0 : decode cX0_step 0 = .ok (.aload_n 1, 1) := by decide +kernel
theorem dX0_step_1 : decode cX0_step 1 = .ok (.iload_n 2, 1) := by decide +kernel
theorem dX0_step_2 : decode cX0_step 2 = .ok (.invokevirtual 122, 3) := by decide +kernel
theorem dX0_step_5 : decode cX0_step 5 = .ok (.ifCond .eq 4, 3) := by decide +kernel
theorem dX0_step_8 : decode cX0_step 8 = .ok (.return_, 1) := by decide +kernel
theorem dX0_step_9 : decode cX0_step 9 = .ok (.aload_n 0, 1) := by decide +kernel
theorem dX0_step_10 : decode cX0_step 10 = .ok (.aload_n 1, 1) := by decide +kernel
theorem dX0_step_11 : decode cX0_step 11 = .ok (.getfield 99, 3) := by decide +kernel
theorem dX0_step_14 : decode cX0_step 14 = .ok (.iload_n 2, 1) := by decide +kernel
theorem dX0_step_15 : decode cX0_step 15 = .ok (.iaload, 1) := by decide +kernel
theorem dX0_step_16 : decode cX0_step 16 = .ok (.invokevirtual 126, 3) := by decide +kernel
theorem dX0_step_19 : decode cX0_step 19 = .ok (.istore 4, 2) := by decide +kernel
theorem dX0_step_21 : decode cX0_step 21 = .ok (.aload_n 3, 1) := by decide +kernel
theorem dX0_step_22 : decode cX0_step 22 = .ok (.aload_n 1, 1) := by decide +kernel
theorem dX0_step_23 : decode cX0_step 23 = .ok (.getfield 102, 3) := by decide +kernel
theorem dX0_step_26 : decode cX0_step 26 = .ok (.invokevirtual 105, 3) := by decide +kernel
theorem dX0_step_29 : decode cX0_step 29 = .ok (.iload 4, 2) := by decide +kernel
theorem dX0_step_31 : decode cX0_step 31 = .ok (.invokestatic 129, 3) := by decide +kernel
theorem dX0_step_34 : decode cX0_step 34 = .ok (.ifCond .eq 19, 3) := by decide +kernel
theorem dX0_step_37 : decode cX0_step 37 = .ok (.aload_n 1, 1) := by decide +kernel
theorem dX0_step_38 : decode cX0_step 38 = .ok (.dup, 1) := by decide +kernel
theorem dX0_step_39 : decode cX0_step 39 = .ok (.getfield 132, 3) := by decide +kernel
theorem dX0_step_42 : decode cX0_step 42 = .ok (.iconst 1, 1) := by decide +kernel
theorem dX0_step_43 : decode cX0_step 43 = .ok (.iadd, 1) := by decide +kernel
theorem dX0_step_44 : decode cX0_step 44 = .ok (.putfield 132, 3) := by decide +kernel
theorem dX0_step_47 : decode cX0_step 47 = .ok (.iload_n 2, 1) := by decide +kernel
theorem dX0_step_48 : decode cX0_step 48 = .ok (.istore 4, 2) := by decide +kernel
theorem dX0_step_50 : decode cX0_step 50 = .ok (.goto 24, 3) := by decide +kernel
theorem dX0_step_53 : decode cX0_step 53 = .ok (.iload 4, 2) := by decide +kernel
theorem dX0_step_55 : decode cX0_step 55 = .ok (.aload_n 0, 1) := by decide +kernel
theorem dX0_step_56 : decode cX0_step 56 = .ok (.getfield 51, 3) := by decide +kernel
theorem dX0_step_59 : decode cX0_step 59 = .ok (.if_icmp .ne 15, 3) := by decide +kernel
theorem dX0_step_62 : decode cX0_step 62 = .ok (.aload_n 1, 1) := by decide +kernel
theorem dX0_step_63 : decode cX0_step 63 = .ok (.dup, 1) := by decide +kernel
theorem dX0_step_64 : decode cX0_step 64 = .ok (.getfield 135, 3) := by decide +kernel
theorem dX0_step_67 : decode cX0_step 67 = .ok (.iconst 1, 1) := by decide +kernel
theorem dX0_step_68 : decode cX0_step 68 = .ok (.iload_n 2, 1) := by decide +kernel
theorem dX0_step_69 : decode cX0_step 69 = .ok (.ishl, 1) := by decide +kernel
theorem dX0_step_70 : decode cX0_step 70 = .ok (.ior, 1) := by decide +kernel
theorem dX0_step_71 : decode cX0_step 71 = .ok (.putfield 135, 3) := by decide +kernel
theorem dX0_step_74 : decode cX0_step 74 = .ok (.aload_n 1, 1) := by decide +kernel
theorem dX0_step_75 : decode cX0_step 75 = .ok (.getfield 99, 3) := by decide +kernel
theorem dX0_step_78 : decode cX0_step 78 = .ok (.iload_n 2, 1) := by decide +kernel
theorem dX0_step_79 : decode cX0_step 79 = .ok (.iload 4, 2) := by decide +kernel
theorem dX0_step_81 : decode cX0_step 81 = .ok (.iastore, 1) := by decide +kernel
theorem dX0_step_82 : decode cX0_step 82 = .ok (.return_, 1) := by decide +kernel
theorem dX0_nearer_0 : decode cX0_nearer 0 = .ok (.iload_n 1, 1) := by decide +kernel
theorem dX0_nearer_1 : decode cX0_nearer 1 = .ok (.aload_n 0, 1) := by decide +kernel
theorem dX0_nearer_2 : decode cX0_nearer 2 = .ok (.getfield 51, 3) := by decide +kernel
theorem dX0_nearer_5 : decode cX0_nearer 5 = .ok (.if_icmp .ne 5, 3) := by decide +kernel
theorem dX0_nearer_8 : decode cX0_nearer 8 = .ok (.iload_n 1, 1) := by decide +kernel
theorem dX0_nearer_9 : decode cX0_nearer 9 = .ok (.ireturn, 1) := by decide +kernel
theorem dX0_nearer_10 : decode cX0_nearer 10 = .ok (.iload_n 1, 1) := by decide +kernel
theorem dX0_nearer_11 : decode cX0_nearer 11 = .ok (.aload_n 0, 1) := by decide +kernel
theorem dX0_nearer_12 : decode cX0_nearer 12 = .ok (.getfield 51, 3) := by decide +kernel
theorem dX0_nearer_15 : decode cX0_nearer 15 = .ok (.if_icmp .ge 9, 3) := by decide +kernel
theorem dX0_nearer_18 : decode cX0_nearer 18 = .ok (.iload_n 1, 1) := by decide +kernel
theorem dX0_nearer_19 : decode cX0_nearer 19 = .ok (.iconst 1, 1) := by decide +kernel
theorem dX0_nearer_20 : decode cX0_nearer 20 = .ok (.iadd, 1) := by decide +kernel
theorem dX0_nearer_21 : decode cX0_nearer 21 = .ok (.goto 6, 3) := by decide +kernel
theorem dX0_nearer_24 : decode cX0_nearer 24 = .ok (.iload_n 1, 1) := by decide +kernel
theorem dX0_nearer_25 : decode cX0_nearer 25 = .ok (.iconst 1, 1) := by decide +kernel
theorem dX0_nearer_26 : decode cX0_nearer 26 = .ok (.isub, 1) := by decide +kernel
theorem dX0_nearer_27 : decode cX0_nearer 27 = .ok (.ireturn, 1) := by decide +kernel
theorem dX0_isHeardAt_0 : decode cX0_isHeardAt 0 = .ok (.iload_n 1, 1) := by decide +kernel
theorem dX0_isHeardAt_1 : decode cX0_isHeardAt 1 = .ok (.bipush 7, 2) := by decide +kernel
theorem dX0_isHeardAt_3 : decode cX0_isHeardAt 3 = .ok (.iload_n 0, 1) := by decide +kernel
theorem dX0_isHeardAt_4 : decode cX0_isHeardAt 4 = .ok (.ishl, 1) := by decide +kernel
theorem dX0_isHeardAt_5 : decode cX0_isHeardAt 5 = .ok (.iconst 1, 1) := by decide +kernel
theorem dX0_isHeardAt_6 : decode cX0_isHeardAt 6 = .ok (.ishr, 1) := by decide +kernel
theorem dX0_isHeardAt_7 : decode cX0_isHeardAt 7 = .ok (.iand, 1) := by decide +kernel
theorem dX0_isHeardAt_8 : decode cX0_isHeardAt 8 = .ok (.ifCond .eq 7, 3) := by decide +kernel
theorem dX0_isHeardAt_11 : decode cX0_isHeardAt 11 = .ok (.iconst 1, 1) := by decide +kernel
theorem dX0_isHeardAt_12 : decode cX0_isHeardAt 12 = .ok (.goto 4, 3) := by decide +kernel
theorem dX0_isHeardAt_15 : decode cX0_isHeardAt 15 = .ok (.iconst 0, 1) := by decide +kernel
theorem dX0_isHeardAt_16 : decode cX0_isHeardAt 16 = .ok (.ireturn, 1) := by decide +kernel
theorem dX0_partSaid_0 : decode cX0_partSaid 0 = .ok (.iload_n 1, 1) := by decide +kernel
theorem dX0_partSaid_1 : decode cX0_partSaid 1 = .ok (.iconst 0, 1) := by decide +kernel
theorem dX0_partSaid_2 : decode cX0_partSaid 2 = .ok (.bipush 8, 2) := by decide +kernel
theorem dX0_partSaid_4 : decode cX0_partSaid 4 = .ok (.invokestatic 118, 3) := by decide +kernel
theorem dX0_partSaid_7 : decode cX0_partSaid 7 = .ok (.ifCond .eq 17, 3) := by decide +kernel
theorem dX0_partSaid_10 : decode cX0_partSaid 10 = .ok (.aload_n 0, 1) := by decide +kernel
theorem dX0_partSaid_11 : decode cX0_partSaid 11 = .ok (.getfield 9, 3) := by decide +kernel
theorem dX0_partSaid_14 : decode cX0_partSaid 14 = .ok (.iload_n 1, 1) := by decide +kernel
theorem dX0_partSaid_15 : decode cX0_partSaid 15 = .ok (.iaload, 1) := by decide +kernel
theorem dX0_partSaid_16 : decode cX0_partSaid 16 = .ok (.iconst 2, 1) := by decide +kernel
theorem dX0_partSaid_17 : decode cX0_partSaid 17 = .ok (.if_icmp .ne 7, 3) := by decide +kernel
theorem dX0_partSaid_20 : decode cX0_partSaid 20 = .ok (.iconst 1, 1) := by decide +kernel
theorem dX0_partSaid_21 : decode cX0_partSaid 21 = .ok (.goto 4, 3) := by decide +kernel
theorem dX0_partSaid_24 : decode cX0_partSaid 24 = .ok (.iconst 0, 1) := by decide +kernel
theorem dX0_partSaid_25 : decode cX0_partSaid 25 = .ok (.istore_n 3, 1) := by decide +kernel
theorem dX0_partSaid_26 : decode cX0_partSaid 26 = .ok (.iload_n 3, 1) := by decide +kernel
theorem dX0_partSaid_27 : decode cX0_partSaid 27 = .ok (.ifCond .eq 21, 3) := by decide +kernel
theorem dX0_partSaid_30 : decode cX0_partSaid 30 = .ok (.iload_n 2, 1) := by decide +kernel
theorem dX0_partSaid_31 : decode cX0_partSaid 31 = .ok (.aload_n 0, 1) := by decide +kernel
theorem dX0_partSaid_32 : decode cX0_partSaid 32 = .ok (.getfield 15, 3) := by decide +kernel
theorem dX0_partSaid_35 : decode cX0_partSaid 35 = .ok (.iload_n 1, 1) := by decide +kernel
theorem dX0_partSaid_36 : decode cX0_partSaid 36 = .ok (.iaload, 1) := by decide +kernel
theorem dX0_partSaid_37 : decode cX0_partSaid 37 = .ok (.if_icmp .gt 11, 3) := by decide +kernel
theorem dX0_partSaid_40 : decode cX0_partSaid 40 = .ok (.iconst 1, 1) := by decide +kernel
theorem dX0_partSaid_41 : decode cX0_partSaid 41 = .ok (.iload_n 2, 1) := by decide +kernel
theorem dX0_partSaid_42 : decode cX0_partSaid 42 = .ok (.iconst 1, 1) := by decide +kernel
theorem dX0_partSaid_43 : decode cX0_partSaid 43 = .ok (.isub, 1) := by decide +kernel
theorem dX0_partSaid_44 : decode cX0_partSaid 44 = .ok (.ishl, 1) := by decide +kernel
theorem dX0_partSaid_45 : decode cX0_partSaid 45 = .ok (.goto 4, 3) := by decide +kernel
theorem dX0_partSaid_48 : decode cX0_partSaid 48 = .ok (.iconst 0, 1) := by decide +kernel
theorem dX0_partSaid_49 : decode cX0_partSaid 49 = .ok (.ireturn, 1) := by decide +kernel
theorem dX1_init_0 : decode cX1_init 0 = .ok (.aload_n 0, 1) := by decide +kernel
theorem dX1_init_1 : decode cX1_init 1 = .ok (.invokespecial 3, 3) := by decide +kernel
theorem dX1_init_4 : decode cX1_init 4 = .ok (.aload_n 0, 1) := by decide +kernel
theorem dX1_init_5 : decode cX1_init 5 = .ok (.bipush 16, 2) := by decide +kernel
theorem dX1_init_7 : decode cX1_init 7 = .ok (.anewarray 9, 3) := by decide +kernel
theorem dX1_init_10 : decode cX1_init 10 = .ok (.putfield 11, 3) := by decide +kernel
theorem dX1_init_13 : decode cX1_init 13 = .ok (.iconst 0, 1) := by decide +kernel
theorem dX1_init_14 : decode cX1_init 14 = .ok (.istore_n 1, 1) := by decide +kernel
theorem dX1_init_15 : decode cX1_init 15 = .ok (.iload_n 1, 1) := by decide +kernel
theorem dX1_init_16 : decode cX1_init 16 = .ok (.bipush 16, 2) := by decide +kernel
theorem dX1_init_18 : decode cX1_init 18 = .ok (.if_icmp .ge 22, 3) := by decide +kernel
theorem dX1_init_21 : decode cX1_init 21 = .ok (.aload_n 0, 1) := by decide +kernel
theorem dX1_init_22 : decode cX1_init 22 = .ok (.getfield 11, 3) := by decide +kernel
theorem dX1_init_25 : decode cX1_init 25 = .ok (.iload_n 1, 1) := by decide +kernel
theorem dX1_init_26 : decode cX1_init 26 = .ok (.new 9, 3) := by decide +kernel
theorem dX1_init_29 : decode cX1_init 29 = .ok (.dup, 1) := by decide +kernel
theorem dX1_init_30 : decode cX1_init 30 = .ok (.invokespecial 17, 3) := by decide +kernel
theorem dX1_init_33 : decode cX1_init 33 = .ok (.aastore, 1) := by decide +kernel
theorem dX1_init_34 : decode cX1_init 34 = .ok (.iinc 1 1, 3) := by decide +kernel
theorem dX1_init_37 : decode cX1_init 37 = .ok (.goto (-22), 3) := by decide +kernel
theorem dX1_init_40 : decode cX1_init 40 = .ok (.aload_n 0, 1) := by decide +kernel
theorem dX1_init_41 : decode cX1_init 41 = .ok (.iconst 3, 1) := by decide +kernel
theorem dX1_init_42 : decode cX1_init 42 = .ok (.anewarray 9, 3) := by decide +kernel
theorem dX1_init_45 : decode cX1_init 45 = .ok (.putfield 18, 3) := by decide +kernel
theorem dX1_init_48 : decode cX1_init 48 = .ok (.iconst 0, 1) := by decide +kernel
theorem dX1_init_49 : decode cX1_init 49 = .ok (.istore_n 1, 1) := by decide +kernel
theorem dX1_init_50 : decode cX1_init 50 = .ok (.iload_n 1, 1) := by decide +kernel
theorem dX1_init_51 : decode cX1_init 51 = .ok (.iconst 3, 1) := by decide +kernel
theorem dX1_init_52 : decode cX1_init 52 = .ok (.if_icmp .ge 22, 3) := by decide +kernel
theorem dX1_init_55 : decode cX1_init 55 = .ok (.aload_n 0, 1) := by decide +kernel
theorem dX1_init_56 : decode cX1_init 56 = .ok (.getfield 18, 3) := by decide +kernel
theorem dX1_init_59 : decode cX1_init 59 = .ok (.iload_n 1, 1) := by decide +kernel
theorem dX1_init_60 : decode cX1_init 60 = .ok (.new 9, 3) := by decide +kernel
theorem dX1_init_63 : decode cX1_init 63 = .ok (.dup, 1) := by decide +kernel
theorem dX1_init_64 : decode cX1_init 64 = .ok (.invokespecial 17, 3) := by decide +kernel
theorem dX1_init_67 : decode cX1_init 67 = .ok (.aastore, 1) := by decide +kernel
theorem dX1_init_68 : decode cX1_init 68 = .ok (.iinc 1 1, 3) := by decide +kernel
theorem dX1_init_71 : decode cX1_init 71 = .ok (.goto (-21), 3) := by decide +kernel
theorem dX1_init_74 : decode cX1_init 74 = .ok (.return_, 1) := by decide +kernel
theorem dX1_clear_0 : decode cX1_clear 0 = .ok (.aload_n 0, 1) := by decide +kernel
theorem dX1_clear_1 : decode cX1_clear 1 = .ok (.iconst 0, 1) := by decide +kernel
theorem dX1_clear_2 : decode cX1_clear 2 = .ok (.putfield 21, 3) := by decide +kernel
theorem dX1_clear_5 : decode cX1_clear 5 = .ok (.aload_n 0, 1) := by decide +kernel
theorem dX1_clear_6 : decode cX1_clear 6 = .ok (.iconst 0, 1) := by decide +kernel
theorem dX1_clear_7 : decode cX1_clear 7 = .ok (.putfield 25, 3) := by decide +kernel
theorem dX1_clear_10 : decode cX1_clear 10 = .ok (.return_, 1) := by decide +kernel
theorem dX1_keep_0 : decode cX1_keep 0 = .ok (.aload_n 0, 1) := by decide +kernel
theorem dX1_keep_1 : decode cX1_keep 1 = .ok (.aload_n 0, 1) := by decide +kernel
theorem dX1_keep_2 : decode cX1_keep 2 = .ok (.getfield 28, 3) := by decide +kernel
theorem dX1_keep_5 : decode cX1_keep 5 = .ok (.iconst 1, 1) := by decide +kernel
theorem dX1_keep_6 : decode cX1_keep 6 = .ok (.iadd, 1) := by decide +kernel
theorem dX1_keep_7 : decode cX1_keep 7 = .ok (.bipush 16, 2) := by decide +kernel
theorem dX1_keep_9 : decode cX1_keep 9 = .ok (.irem, 1) := by decide +kernel
theorem dX1_keep_10 : decode cX1_keep 10 = .ok (.putfield 28, 3) := by decide +kernel
theorem dX1_keep_13 : decode cX1_keep 13 = .ok (.aload_n 0, 1) := by decide +kernel
theorem dX1_keep_14 : decode cX1_keep 14 = .ok (.getfield 11, 3) := by decide +kernel
theorem dX1_keep_17 : decode cX1_keep 17 = .ok (.aload_n 0, 1) := by decide +kernel
theorem dX1_keep_18 : decode cX1_keep 18 = .ok (.getfield 28, 3) := by decide +kernel
theorem dX1_keep_21 : decode cX1_keep 21 = .ok (.aaload, 1) := by decide +kernel
theorem dX1_keep_22 : decode cX1_keep 22 = .ok (.aload_n 1, 1) := by decide +kernel
theorem dX1_keep_23 : decode cX1_keep 23 = .ok (.invokevirtual 31, 3) := by decide +kernel
theorem dX1_keep_26 : decode cX1_keep 26 = .ok (.aload_n 0, 1) := by decide +kernel
theorem dX1_keep_27 : decode cX1_keep 27 = .ok (.aload_n 0, 1) := by decide +kernel
theorem dX1_keep_28 : decode cX1_keep 28 = .ok (.getfield 21, 3) := by decide +kernel
theorem dX1_keep_31 : decode cX1_keep 31 = .ok (.iconst 1, 1) := by decide +kernel
theorem dX1_keep_32 : decode cX1_keep 32 = .ok (.iadd, 1) := by decide +kernel
theorem dX1_keep_33 : decode cX1_keep 33 = .ok (.bipush 16, 2) := by decide +kernel
theorem dX1_keep_35 : decode cX1_keep 35 = .ok (.invokestatic 35, 3) := by decide +kernel
theorem dX1_keep_38 : decode cX1_keep 38 = .ok (.putfield 21, 3) := by decide +kernel
theorem dX1_keep_41 : decode cX1_keep 41 = .ok (.return_, 1) := by decide +kernel
theorem dX1_takeLatest_0 : decode cX1_takeLatest 0 = .ok (.aload_n 0, 1) := by decide +kernel
theorem dX1_takeLatest_1 : decode cX1_takeLatest 1 = .ok (.getfield 21, 3) := by decide +kernel
theorem dX1_takeLatest_4 : decode cX1_takeLatest 4 = .ok (.ifCond .ne 5, 3) := by decide +kernel
theorem dX1_takeLatest_7 : decode cX1_takeLatest 7 = .ok (.iconst 0, 1) := by decide +kernel
theorem dX1_takeLatest_8 : decode cX1_takeLatest 8 = .ok (.ireturn, 1) := by decide +kernel
theorem dX1_takeLatest_9 : decode cX1_takeLatest 9 = .ok (.aload_n 1, 1) := by decide +kernel
theorem dX1_takeLatest_10 : decode cX1_takeLatest 10 = .ok (.aload_n 0, 1) := by decide +kernel
theorem dX1_takeLatest_11 : decode cX1_takeLatest 11 = .ok (.getfield 11, 3) := by decide +kernel
theorem dX1_takeLatest_14 : decode cX1_takeLatest 14 = .ok (.aload_n 0, 1) := by decide +kernel
theorem dX1_takeLatest_15 : decode cX1_takeLatest 15 = .ok (.getfield 28, 3) := by decide +kernel
theorem dX1_takeLatest_18 : decode cX1_takeLatest 18 = .ok (.aaload, 1) := by decide +kernel
theorem dX1_takeLatest_19 : decode cX1_takeLatest 19 = .ok (.invokevirtual 31, 3) := by decide +kernel
theorem dX1_takeLatest_22 : decode cX1_takeLatest 22 = .ok (.aload_n 0, 1) := by decide +kernel
theorem dX1_takeLatest_23 : decode cX1_takeLatest 23 = .ok (.aload_n 0, 1) := by decide +kernel
theorem dX1_takeLatest_24 : decode cX1_takeLatest 24 = .ok (.getfield 28, 3) := by decide +kernel
theorem dX1_takeLatest_27 : decode cX1_takeLatest 27 = .ok (.bipush 16, 2) := by decide +kernel
theorem dX1_takeLatest_29 : decode cX1_takeLatest 29 = .ok (.iadd, 1) := by decide +kernel
theorem dX1_takeLatest_30 : decode cX1_takeLatest 30 = .ok (.iconst 1, 1) := by decide +kernel
theorem dX1_takeLatest_31 : decode cX1_takeLatest 31 = .ok (.isub, 1) := by decide +kernel
theorem dX1_takeLatest_32 : decode cX1_takeLatest 32 = .ok (.bipush 16, 2) := by decide +kernel
theorem dX1_takeLatest_34 : decode cX1_takeLatest 34 = .ok (.irem, 1) := by decide +kernel
theorem dX1_takeLatest_35 : decode cX1_takeLatest 35 = .ok (.putfield 28, 3) := by decide +kernel
theorem dX1_takeLatest_38 : decode cX1_takeLatest 38 = .ok (.aload_n 0, 1) := by decide +kernel
theorem dX1_takeLatest_39 : decode cX1_takeLatest 39 = .ok (.dup, 1) := by decide +kernel
theorem dX1_takeLatest_40 : decode cX1_takeLatest 40 = .ok (.getfield 21, 3) := by decide +kernel
theorem dX1_takeLatest_43 : decode cX1_takeLatest 43 = .ok (.iconst 1, 1) := by decide +kernel
theorem dX1_takeLatest_44 : decode cX1_takeLatest 44 = .ok (.isub, 1) := by decide +kernel
theorem dX1_takeLatest_45 : decode cX1_takeLatest 45 = .ok (.putfield 21, 3) := by decide +kernel
theorem dX1_takeLatest_48 : decode cX1_takeLatest 48 = .ok (.iconst 1, 1) := by decide +kernel
theorem dX1_takeLatest_49 : decode cX1_takeLatest 49 = .ok (.ireturn, 1) := by decide +kernel
theorem dX1_addImage_0 : decode cX1_addImage 0 = .ok (.aload_n 0, 1) := by decide +kernel
theorem dX1_addImage_1 : decode cX1_addImage 1 = .ok (.getfield 25, 3) := by decide +kernel
theorem dX1_addImage_4 : decode cX1_addImage 4 = .ok (.iconst 3, 1) := by decide +kernel
theorem dX1_addImage_5 : decode cX1_addImage 5 = .ok (.if_icmp .lt 5, 3) := by decide +kernel
theorem dX1_addImage_8 : decode cX1_addImage 8 = .ok (.iconst (-1), 1) := by decide +kernel
theorem dX1_addImage_9 : decode cX1_addImage 9 = .ok (.ireturn, 1) := by decide +kernel
theorem dX1_addImage_10 : decode cX1_addImage 10 = .ok (.aload_n 0, 1) := by decide +kernel
theorem dX1_addImage_11 : decode cX1_addImage 11 = .ok (.getfield 18, 3) := by decide +kernel
theorem dX1_addImage_14 : decode cX1_addImage 14 = .ok (.aload_n 0, 1) := by decide +kernel
theorem dX1_addImage_15 : decode cX1_addImage 15 = .ok (.getfield 25, 3) := by decide +kernel
theorem dX1_addImage_18 : decode cX1_addImage 18 = .ok (.aaload, 1) := by decide +kernel
theorem dX1_addImage_19 : decode cX1_addImage 19 = .ok (.aload_n 1, 1) := by decide +kernel
theorem dX1_addImage_20 : decode cX1_addImage 20 = .ok (.invokevirtual 31, 3) := by decide +kernel
theorem dX1_addImage_23 : decode cX1_addImage 23 = .ok (.aload_n 0, 1) := by decide +kernel
theorem dX1_addImage_24 : decode cX1_addImage 24 = .ok (.dup, 1) := by decide +kernel
theorem dX1_addImage_25 : decode cX1_addImage 25 = .ok (.getfield 25, 3) := by decide +kernel
theorem dX1_addImage_28 : decode cX1_addImage 28 = .ok (.iconst 1, 1) := by decide +kernel
theorem dX1_addImage_29 : decode cX1_addImage 29 = .ok (.iadd, 1) := by decide +kernel
theorem dX1_addImage_30 : decode cX1_addImage 30 = .ok (.putfield 25, 3) := by decide +kernel
theorem dX1_addImage_33 : decode cX1_addImage 33 = .ok (.aload_n 0, 1) := by decide +kernel
theorem dX1_addImage_34 : decode cX1_addImage 34 = .ok (.getfield 25, 3) := by decide +kernel
theorem dX1_addImage_37 : decode cX1_addImage 37 = .ok (.iconst 1, 1) := by decide +kernel
theorem dX1_addImage_38 : decode cX1_addImage 38 = .ok (.isub, 1) := by decide +kernel
theorem dX1_addImage_39 : decode cX1_addImage 39 = .ok (.ireturn, 1) := by decide +kernel
theorem dX1_goBack_0 : decode cX1_goBack 0 = .ok (.iload_n 1, 1) := by decide +kernel
theorem dX1_goBack_1 : decode cX1_goBack 1 = .ok (.iconst 0, 1) := by decide +kernel
theorem dX1_goBack_2 : decode cX1_goBack 2 = .ok (.aload_n 0, 1) := by decide +kernel
theorem dX1_goBack_3 : decode cX1_goBack 3 = .ok (.getfield 25, 3) := by decide +kernel
theorem dX1_goBack_6 : decode cX1_goBack 6 = .ok (.iconst 1, 1) := by decide +kernel
theorem dX1_goBack_7 : decode cX1_goBack 7 = .ok (.isub, 1) := by decide +kernel
theorem dX1_goBack_8 : decode cX1_goBack 8 = .ok (.invokestatic 41, 3) := by decide +kernel
theorem dX1_goBack_11 : decode cX1_goBack 11 = .ok (.ifCond .ne 5, 3) := by decide +kernel
theorem dX1_goBack_14 : decode cX1_goBack 14 = .ok (.iconst 0, 1) := by decide +kernel
theorem dX1_goBack_15 : decode cX1_goBack 15 = .ok (.ireturn, 1) := by decide +kernel
theorem dX1_goBack_16 : decode cX1_goBack 16 = .ok (.aload_n 2, 1) := by decide +kernel
theorem dX1_goBack_17 : decode cX1_goBack 17 = .ok (.aload_n 0, 1) := by decide +kernel
theorem dX1_goBack_18 : decode cX1_goBack 18 = .ok (.getfield 18, 3) := by decide +kernel
theorem dX1_goBack_21 : decode cX1_goBack 21 = .ok (.iload_n 1, 1) := by decide +kernel
theorem dX1_goBack_22 : decode cX1_goBack 22 = .ok (.aaload, 1) := by decide +kernel
theorem dX1_goBack_23 : decode cX1_goBack 23 = .ok (.invokevirtual 31, 3) := by decide +kernel
theorem dX1_goBack_26 : decode cX1_goBack 26 = .ok (.aload_n 0, 1) := by decide +kernel
theorem dX1_goBack_27 : decode cX1_goBack 27 = .ok (.iconst 0, 1) := by decide +kernel
theorem dX1_goBack_28 : decode cX1_goBack 28 = .ok (.putfield 21, 3) := by decide +kernel
theorem dX1_goBack_31 : decode cX1_goBack 31 = .ok (.iconst 1, 1) := by decide +kernel
theorem dX1_goBack_32 : decode cX1_goBack 32 = .ok (.ireturn, 1) := by decide +kernel
theorem dX2_init_0 : decode cX2_init 0 = .ok (.aload_n 0, 1) := by decide +kernel
theorem dX2_init_1 : decode cX2_init 1 = .ok (.invokespecial 3, 3) := by decide +kernel
theorem dX2_init_4 : decode cX2_init 4 = .ok (.aload_n 0, 1) := by decide +kernel
theorem dX2_init_5 : decode cX2_init 5 = .ok (.sipush 729, 3) := by decide +kernel
theorem dX2_init_8 : decode cX2_init 8 = .ok (.newarray .int, 2) := by decide +kernel
theorem dX2_init_10 : decode cX2_init 10 = .ok (.putfield 9, 3) := by decide +kernel
theorem dX2_init_13 : decode cX2_init 13 = .ok (.aload_n 0, 1) := by decide +kernel
theorem dX2_init_14 : decode cX2_init 14 = .ok (.sipush 900, 3) := by decide +kernel
theorem dX2_init_17 : decode cX2_init 17 = .ok (.newarray .int, 2) := by decide +kernel
theorem dX2_init_19 : decode cX2_init 19 = .ok (.putfield 15, 3) := by decide +kernel
theorem dX2_init_22 : decode cX2_init 22 = .ok (.return_, 1) := by decide +kernel
theorem dX2_forget_0 : decode cX2_forget 0 = .ok (.aload_n 0, 1) := by decide +kernel
theorem dX2_forget_1 : decode cX2_forget 1 = .ok (.iconst 0, 1) := by decide +kernel
theorem dX2_forget_2 : decode cX2_forget 2 = .ok (.putfield 18, 3) := by decide +kernel
theorem dX2_forget_5 : decode cX2_forget 5 = .ok (.aload_n 0, 1) := by decide +kernel
theorem dX2_forget_6 : decode cX2_forget 6 = .ok (.iconst 0, 1) := by decide +kernel
theorem dX2_forget_7 : decode cX2_forget 7 = .ok (.putfield 22, 3) := by decide +kernel
theorem dX2_forget_10 : decode cX2_forget 10 = .ok (.return_, 1) := by decide +kernel
theorem dX2_list_0 : decode cX2_list 0 = .ok (.aload_n 0, 1) := by decide +kernel
theorem dX2_list_1 : decode cX2_list 1 = .ok (.getfield 18, 3) := by decide +kernel
theorem dX2_list_4 : decode cX2_list 4 = .ok (.ifCond .eq 4, 3) := by decide +kernel
theorem dX2_list_7 : decode cX2_list 7 = .ok (.return_, 1) := by decide +kernel
theorem dX2_list_8 : decode cX2_list 8 = .ok (.aload_n 0, 1) := by decide +kernel
theorem dX2_list_9 : decode cX2_list 9 = .ok (.iconst 1, 1) := by decide +kernel
theorem dX2_list_10 : decode cX2_list 10 = .ok (.putfield 18, 3) := by decide +kernel
theorem dX2_list_13 : decode cX2_list 13 = .ok (.aload_n 0, 1) := by decide +kernel
theorem dX2_list_14 : decode cX2_list 14 = .ok (.iconst 0, 1) := by decide +kernel
theorem dX2_list_15 : decode cX2_list 15 = .ok (.putfield 25, 3) := by decide +kernel
theorem dX2_list_18 : decode cX2_list 18 = .ok (.iconst 0, 1) := by decide +kernel
theorem dX2_list_19 : decode cX2_list 19 = .ok (.istore_n 2, 1) := by decide +kernel
theorem dX2_list_20 : decode cX2_list 20 = .ok (.iload_n 2, 1) := by decide +kernel
theorem dX2_list_21 : decode cX2_list 21 = .ok (.aload_n 1, 1) := by decide +kernel
theorem dX2_list_22 : decode cX2_list 22 = .ok (.getfield 29, 3) := by decide +kernel
theorem dX2_list_25 : decode cX2_list 25 = .ok (.if_icmp .ge 60, 3) := by decide +kernel
theorem dX2_list_28 : decode cX2_list 28 = .ok (.iconst 0, 1) := by decide +kernel
theorem dX2_list_29 : decode cX2_list 29 = .ok (.istore_n 3, 1) := by decide +kernel
theorem dX2_list_30 : decode cX2_list 30 = .ok (.iload_n 3, 1) := by decide +kernel
theorem dX2_list_31 : decode cX2_list 31 = .ok (.aload_n 1, 1) := by decide +kernel
theorem dX2_list_32 : decode cX2_list 32 = .ok (.getfield 29, 3) := by decide +kernel
theorem dX2_list_35 : decode cX2_list 35 = .ok (.if_icmp .ge 44, 3) := by decide +kernel
theorem dX2_list_38 : decode cX2_list 38 = .ok (.iconst 0, 1) := by decide +kernel
theorem dX2_list_39 : decode cX2_list 39 = .ok (.istore 4, 2) := by decide +kernel
theorem dX2_list_41 : decode cX2_list 41 = .ok (.iload 4, 2) := by decide +kernel
theorem dX2_list_43 : decode cX2_list 43 = .ok (.aload_n 1, 1) := by decide +kernel
theorem dX2_list_44 : decode cX2_list 44 = .ok (.getfield 29, 3) := by decide +kernel
theorem dX2_list_47 : decode cX2_list 47 = .ok (.if_icmp .ge 26, 3) := by decide +kernel
theorem dX2_list_50 : decode cX2_list 50 = .ok (.aload_n 0, 1) := by decide +kernel
theorem dX2_list_51 : decode cX2_list 51 = .ok (.aload_n 1, 1) := by decide +kernel
theorem dX2_list_52 : decode cX2_list 52 = .ok (.bipush 100, 2) := by decide +kernel
theorem dX2_list_54 : decode cX2_list 54 = .ok (.iload_n 2, 1) := by decide +kernel
theorem dX2_list_55 : decode cX2_list 55 = .ok (.imul, 1) := by decide +kernel
theorem dX2_list_56 : decode cX2_list 56 = .ok (.bipush 10, 2) := by decide +kernel
theorem dX2_list_58 : decode cX2_list 58 = .ok (.iload_n 3, 1) := by decide +kernel
theorem dX2_list_59 : decode cX2_list 59 = .ok (.imul, 1) := by decide +kernel
theorem dX2_list_60 : decode cX2_list 60 = .ok (.iadd, 1) := by decide +kernel
theorem dX2_list_61 : decode cX2_list 61 = .ok (.iload 4, 2) := by decide +kernel
theorem dX2_list_63 : decode cX2_list 63 = .ok (.iadd, 1) := by decide +kernel
theorem dX2_list_64 : decode cX2_list 64 = .ok (.invokevirtual 34, 3) := by decide +kernel
theorem dX2_list_67 : decode cX2_list 67 = .ok (.iinc 4 1, 3) := by decide +kernel
theorem dX2_list_70 : decode cX2_list 70 = .ok (.goto (-29), 3) := by decide +kernel
theorem dX2_list_73 : decode cX2_list 73 = .ok (.iinc 3 1, 3) := by decide +kernel
theorem dX2_list_76 : decode cX2_list 76 = .ok (.goto (-46), 3) := by decide +kernel
theorem dX2_list_79 : decode cX2_list 79 = .ok (.iinc 2 1, 3) := by decide +kernel
theorem dX2_list_82 : decode cX2_list 82 = .ok (.goto (-62), 3) := by decide +kernel
theorem dX2_list_85 : decode cX2_list 85 = .ok (.return_, 1) := by decide +kernel
theorem dX2_addIfFit_0 : decode cX2_addIfFit 0 = .ok (.iconst 0, 1) := by decide +kernel
theorem dX2_addIfFit_1 : decode cX2_addIfFit 1 = .ok (.istore_n 3, 1) := by decide +kernel
theorem dX2_addIfFit_2 : decode cX2_addIfFit 2 = .ok (.iload_n 3, 1) := by decide +kernel
theorem dX2_addIfFit_3 : decode cX2_addIfFit 3 = .ok (.aload_n 1, 1) := by decide +kernel
theorem dX2_addIfFit_4 : decode cX2_addIfFit 4 = .ok (.getfield 38, 3) := by decide +kernel
theorem dX2_addIfFit_7 : decode cX2_addIfFit 7 = .ok (.if_icmp .ge 30, 3) := by decide +kernel
theorem dX2_addIfFit_10 : decode cX2_addIfFit 10 = .ok (.aload_n 1, 1) := by decide +kernel
theorem dX2_addIfFit_11 : decode cX2_addIfFit 11 = .ok (.iload_n 2, 1) := by decide +kernel
theorem dX2_addIfFit_12 : decode cX2_addIfFit 12 = .ok (.aload_n 1, 1) := by decide +kernel
theorem dX2_addIfFit_13 : decode cX2_addIfFit 13 = .ok (.getfield 41, 3) := by decide +kernel
theorem dX2_addIfFit_16 : decode cX2_addIfFit 16 = .ok (.iload_n 3, 1) := by decide +kernel
theorem dX2_addIfFit_17 : decode cX2_addIfFit 17 = .ok (.iaload, 1) := by decide +kernel
theorem dX2_addIfFit_18 : decode cX2_addIfFit 18 = .ok (.invokevirtual 44, 3) := by decide +kernel
theorem dX2_addIfFit_21 : decode cX2_addIfFit 21 = .ok (.aload_n 1, 1) := by decide +kernel
theorem dX2_addIfFit_22 : decode cX2_addIfFit 22 = .ok (.getfield 48, 3) := by decide +kernel
theorem dX2_addIfFit_25 : decode cX2_addIfFit 25 = .ok (.iload_n 3, 1) := by decide +kernel
theorem dX2_addIfFit_26 : decode cX2_addIfFit 26 = .ok (.iaload, 1) := by decide +kernel
theorem dX2_addIfFit_27 : decode cX2_addIfFit 27 = .ok (.if_icmp .eq 4, 3) := by decide +kernel
theorem dX2_addIfFit_30 : decode cX2_addIfFit 30 = .ok (.return_, 1) := by decide +kernel
theorem dX2_addIfFit_31 : decode cX2_addIfFit 31 = .ok (.iinc 3 1, 3) := by decide +kernel
theorem dX2_addIfFit_34 : decode cX2_addIfFit 34 = .ok (.goto (-32), 3) := by decide +kernel
theorem dX2_addIfFit_37 : decode cX2_addIfFit 37 = .ok (.aload_n 0, 1) := by decide +kernel
theorem dX2_addIfFit_38 : decode cX2_addIfFit 38 = .ok (.getfield 25, 3) := by decide +kernel
theorem dX2_addIfFit_41 : decode cX2_addIfFit 41 = .ok (.sipush 729, 3) := by decide +kernel
theorem dX2_addIfFit_44 : decode cX2_addIfFit 44 = .ok (.if_icmp .ge 23, 3) := by decide +kernel
theorem dX2_addIfFit_47 : decode cX2_addIfFit 47 = .ok (.aload_n 0, 1) := by decide +kernel
theorem dX2_addIfFit_48 : decode cX2_addIfFit 48 = .ok (.getfield 9, 3) := by decide +kernel
theorem dX2_addIfFit_51 : decode cX2_addIfFit 51 = .ok (.aload_n 0, 1) := by decide +kernel
theorem dX2_addIfFit_52 : decode cX2_addIfFit 52 = .ok (.getfield 25, 3) := by decide +kernel
theorem dX2_addIfFit_55 : decode cX2_addIfFit 55 = .ok (.iload_n 2, 1) := by decide +kernel
theorem dX2_addIfFit_56 : decode cX2_addIfFit 56 = .ok (.iastore, 1) := by decide +kernel
theorem dX2_addIfFit_57 : decode cX2_addIfFit 57 = .ok (.aload_n 0, 1) := by decide +kernel
theorem dX2_addIfFit_58 : decode cX2_addIfFit 58 = .ok (.dup, 1) := by decide +kernel
theorem dX2_addIfFit_59 : decode cX2_addIfFit 59 = .ok (.getfield 25, 3) := by decide +kernel
theorem dX2_addIfFit_62 : decode cX2_addIfFit 62 = .ok (.iconst 1, 1) := by decide +kernel
theorem dX2_addIfFit_63 : decode cX2_addIfFit 63 = .ok (.iadd, 1) := by decide +kernel
theorem dX2_addIfFit_64 : decode cX2_addIfFit 64 = .ok (.putfield 25, 3) := by decide +kernel
theorem dX2_addIfFit_67 : decode cX2_addIfFit 67 = .ok (.return_, 1) := by decide +kernel
theorem dX2_chooseLook_0 : decode cX2_chooseLook 0 = .ok (.aload_n 0, 1) := by decide +kernel
theorem dX2_chooseLook_1 : decode cX2_chooseLook 1 = .ok (.getfield 22, 3) := by decide +kernel
theorem dX2_chooseLook_4 : decode cX2_chooseLook 4 = .ok (.ifCond .eq 4, 3) := by decide +kernel
theorem dX2_chooseLook_7 : decode cX2_chooseLook 7 = .ok (.return_, 1) := by decide +kernel
theorem dX2_chooseLook_8 : decode cX2_chooseLook 8 = .ok (.aload_n 0, 1) := by decide +kernel
theorem dX2_chooseLook_9 : decode cX2_chooseLook 9 = .ok (.aload_n 1, 1) := by decide +kernel
theorem dX2_chooseLook_10 : decode cX2_chooseLook 10 = .ok (.invokevirtual 51, 3) := by decide +kernel
theorem dX2_chooseLook_13 : decode cX2_chooseLook 13 = .ok (.aload_n 0, 1) := by decide +kernel
theorem dX2_chooseLook_14 : decode cX2_chooseLook 14 = .ok (.iconst 1, 1) := by decide +kernel
theorem dX2_chooseLook_15 : decode cX2_chooseLook 15 = .ok (.putfield 22, 3) := by decide +kernel
theorem dX2_chooseLook_18 : decode cX2_chooseLook 18 = .ok (.aload_n 0, 1) := by decide +kernel
theorem dX2_chooseLook_19 : decode cX2_chooseLook 19 = .ok (.bipush (-2), 2) := by decide +kernel
theorem dX2_chooseLook_21 : decode cX2_chooseLook 21 = .ok (.putfield 55, 3) := by decide +kernel
theorem dX2_chooseLook_24 : decode cX2_chooseLook 24 = .ok (.aload_n 0, 1) := by decide +kernel
theorem dX2_chooseLook_25 : decode cX2_chooseLook 25 = .ok (.bipush (-2), 2) := by decide +kernel
theorem dX2_chooseLook_27 : decode cX2_chooseLook 27 = .ok (.putfield 58, 3) := by decide +kernel
theorem dX2_chooseLook_30 : decode cX2_chooseLook 30 = .ok (.aload_n 0, 1) := by decide +kernel
theorem dX2_chooseLook_31 : decode cX2_chooseLook 31 = .ok (.getfield 25, 3) := by decide +kernel
theorem dX2_chooseLook_34 : decode cX2_chooseLook 34 = .ok (.ifCond .eq 10, 3) := by decide +kernel
theorem dX2_chooseLook_37 : decode cX2_chooseLook 37 = .ok (.aload_n 1, 1) := by decide +kernel
theorem dX2_chooseLook_38 : decode cX2_chooseLook 38 = .ok (.getfield 61, 3) := by decide +kernel
theorem dX2_chooseLook_41 : decode cX2_chooseLook 41 = .ok (.ifCond .gt 4, 3) := by decide +kernel
theorem dX2_chooseLook_44 : decode cX2_chooseLook 44 = .ok (.return_, 1) := by decide +kernel
theorem dX2_chooseLook_45 : decode cX2_chooseLook 45 = .ok (.bipush 99, 2) := by decide +kernel
theorem dX2_chooseLook_47 : decode cX2_chooseLook 47 = .ok (.aload_n 1, 1) := by decide +kernel
theorem dX2_chooseLook_48 : decode cX2_chooseLook 48 = .ok (.getfield 61, 3) := by decide +kernel
theorem dX2_chooseLook_51 : decode cX2_chooseLook 51 = .ok (.idiv, 1) := by decide +kernel
theorem dX2_chooseLook_52 : decode cX2_chooseLook 52 = .ok (.iconst 1, 1) := by decide +kernel
theorem dX2_chooseLook_53 : decode cX2_chooseLook 53 = .ok (.iadd, 1) := by decide +kernel
theorem dX2_chooseLook_54 : decode cX2_chooseLook 54 = .ok (.istore_n 2, 1) := by decide +kernel
theorem dX2_chooseLook_55 : decode cX2_chooseLook 55 = .ok (.aload_n 0, 1) := by decide +kernel
theorem dX2_chooseLook_56 : decode cX2_chooseLook 56 = .ok (.aload_n 1, 1) := by decide +kernel
theorem dX2_chooseLook_57 : decode cX2_chooseLook 57 = .ok (.getfield 29, 3) := by decide +kernel
theorem dX2_chooseLook_60 : decode cX2_chooseLook 60 = .ok (.iload_n 2, 1) := by decide +kernel
theorem dX2_chooseLook_61 : decode cX2_chooseLook 61 = .ok (.invokevirtual 64, 3) := by decide +kernel
theorem dX2_chooseLook_64 : decode cX2_chooseLook 64 = .ok (.iconst 0, 1) := by decide +kernel
theorem dX2_chooseLook_65 : decode cX2_chooseLook 65 = .ok (.istore_n 3, 1) := by decide +kernel
theorem dX2_chooseLook_66 : decode cX2_chooseLook 66 = .ok (.iload_n 3, 1) := by decide +kernel
theorem dX2_chooseLook_67 : decode cX2_chooseLook 67 = .ok (.iload_n 2, 1) := by decide +kernel
theorem dX2_chooseLook_68 : decode cX2_chooseLook 68 = .ok (.if_icmp .ge 50, 3) := by decide +kernel
theorem dX2_chooseLook_71 : decode cX2_chooseLook 71 = .ok (.aload_n 0, 1) := by decide +kernel
theorem dX2_chooseLook_72 : decode cX2_chooseLook 72 = .ok (.iload_n 3, 1) := by decide +kernel
theorem dX2_chooseLook_73 : decode cX2_chooseLook 73 = .ok (.invokevirtual 68, 3) := by decide +kernel
theorem dX2_chooseLook_76 : decode cX2_chooseLook 76 = .ok (.istore 4, 2) := by decide +kernel
theorem dX2_chooseLook_78 : decode cX2_chooseLook 78 = .ok (.aload_n 0, 1) := by decide +kernel
theorem dX2_chooseLook_79 : decode cX2_chooseLook 79 = .ok (.getfield 58, 3) := by decide +kernel
theorem dX2_chooseLook_82 : decode cX2_chooseLook 82 = .ok (.bipush (-2), 2) := by decide +kernel
theorem dX2_chooseLook_84 : decode cX2_chooseLook 84 = .ok (.if_icmp .eq 12, 3) := by decide +kernel
theorem dX2_chooseLook_87 : decode cX2_chooseLook 87 = .ok (.iload 4, 2) := by decide +kernel
theorem dX2_chooseLook_89 : decode cX2_chooseLook 89 = .ok (.aload_n 0, 1) := by decide +kernel
theorem dX2_chooseLook_90 : decode cX2_chooseLook 90 = .ok (.getfield 58, 3) := by decide +kernel
theorem dX2_chooseLook_93 : decode cX2_chooseLook 93 = .ok (.if_icmp .ge 19, 3) := by decide +kernel
theorem dX2_chooseLook_96 : decode cX2_chooseLook 96 = .ok (.aload_n 0, 1) := by decide +kernel
theorem dX2_chooseLook_97 : decode cX2_chooseLook 97 = .ok (.iload 4, 2) := by decide +kernel
theorem dX2_chooseLook_99 : decode cX2_chooseLook 99 = .ok (.putfield 58, 3) := by decide +kernel
theorem dX2_chooseLook_102 : decode cX2_chooseLook 102 = .ok (.aload_n 0, 1) := by decide +kernel
theorem dX2_chooseLook_103 : decode cX2_chooseLook 103 = .ok (.iload_n 3, 1) := by decide +kernel
theorem dX2_chooseLook_104 : decode cX2_chooseLook 104 = .ok (.aload_n 1, 1) := by decide +kernel
theorem dX2_chooseLook_105 : decode cX2_chooseLook 105 = .ok (.getfield 61, 3) := by decide +kernel
theorem dX2_chooseLook_108 : decode cX2_chooseLook 108 = .ok (.imul, 1) := by decide +kernel
theorem dX2_chooseLook_109 : decode cX2_chooseLook 109 = .ok (.putfield 55, 3) := by decide +kernel
theorem dX2_chooseLook_112 : decode cX2_chooseLook 112 = .ok (.iinc 3 1, 3) := by decide +kernel
theorem dX2_chooseLook_115 : decode cX2_chooseLook 115 = .ok (.goto (-49), 3) := by decide +kernel
theorem dX2_chooseLook_118 : decode cX2_chooseLook 118 = .ok (.return_, 1) := by decide +kernel
theorem dX2_tally_0 : decode cX2_tally 0 = .ok (.iconst 0, 1) := by decide +kernel
theorem dX2_tally_1 : decode cX2_tally 1 = .ok (.istore_n 3, 1) := by decide +kernel
theorem dX2_tally_2 : decode cX2_tally 2 = .ok (.iload_n 3, 1) := by decide +kernel
theorem dX2_tally_3 : decode cX2_tally 3 = .ok (.aload_n 0, 1) := by decide +kernel
theorem dX2_tally_4 : decode cX2_tally 4 = .ok (.getfield 15, 3) := by decide +kernel
theorem dX2_tally_7 : decode cX2_tally 7 = .ok (.arraylength, 1) := by decide +kernel
theorem dX2_tally_8 : decode cX2_tally 8 = .ok (.if_icmp .ge 16, 3) := by decide +kernel
theorem dX2_tally_11 : decode cX2_tally 11 = .ok (.aload_n 0, 1) := by decide +kernel
theorem dX2_tally_12 : decode cX2_tally 12 = .ok (.getfield 15, 3) := by decide +kernel
theorem dX2_tally_15 : decode cX2_tally 15 = .ok (.iload_n 3, 1) := by decide +kernel
theorem dX2_tally_16 : decode cX2_tally 16 = .ok (.iconst 0, 1) := by decide +kernel
theorem dX2_tally_17 : decode cX2_tally 17 = .ok (.iastore, 1) := by decide +kernel
theorem dX2_tally_18 : decode cX2_tally 18 = .ok (.iinc 3 1, 3) := by decide +kernel
theorem dX2_tally_21 : decode cX2_tally 21 = .ok (.goto (-19), 3) := by decide +kernel
theorem dX2_tally_24 : decode cX2_tally 24 = .ok (.iload_n 1, 1) := by decide +kernel
theorem dX2_tally_25 : decode cX2_tally 25 = .ok (.ifCond .le 9, 3) := by decide +kernel
theorem dX2_tally_28 : decode cX2_tally 28 = .ok (.iload_n 2, 1) := by decide +kernel
theorem dX2_tally_29 : decode cX2_tally 29 = .ok (.bipush 100, 2) := by decide +kernel
theorem dX2_tally_31 : decode cX2_tally 31 = .ok (.if_icmp .le 4, 3) := by decide +kernel
theorem dX2_tally_34 : decode cX2_tally 34 = .ok (.return_, 1) := by decide +kernel
theorem dX2_tally_35 : decode cX2_tally 35 = .ok (.iconst 0, 1) := by decide +kernel
theorem dX2_tally_36 : decode cX2_tally 36 = .ok (.istore_n 3, 1) := by decide +kernel
theorem dX2_tally_37 : decode cX2_tally 37 = .ok (.iload_n 3, 1) := by decide +kernel
theorem dX2_tally_38 : decode cX2_tally 38 = .ok (.aload_n 0, 1) := by decide +kernel
theorem dX2_tally_39 : decode cX2_tally 39 = .ok (.getfield 25, 3) := by decide +kernel
theorem dX2_tally_42 : decode cX2_tally 42 = .ok (.if_icmp .ge 89, 3) := by decide +kernel
theorem dX2_tally_45 : decode cX2_tally 45 = .ok (.aload_n 0, 1) := by decide +kernel
theorem dX2_tally_46 : decode cX2_tally 46 = .ok (.getfield 9, 3) := by decide +kernel
theorem dX2_tally_49 : decode cX2_tally 49 = .ok (.iload_n 3, 1) := by decide +kernel
theorem dX2_tally_50 : decode cX2_tally 50 = .ok (.iaload, 1) := by decide +kernel
theorem dX2_tally_51 : decode cX2_tally 51 = .ok (.bipush 100, 2) := by decide +kernel
theorem dX2_tally_53 : decode cX2_tally 53 = .ok (.idiv, 1) := by decide +kernel
theorem dX2_tally_54 : decode cX2_tally 54 = .ok (.istore 4, 2) := by decide +kernel
theorem dX2_tally_56 : decode cX2_tally 56 = .ok (.aload_n 0, 1) := by decide +kernel
theorem dX2_tally_57 : decode cX2_tally 57 = .ok (.getfield 9, 3) := by decide +kernel
theorem dX2_tally_60 : decode cX2_tally 60 = .ok (.iload_n 3, 1) := by decide +kernel
theorem dX2_tally_61 : decode cX2_tally 61 = .ok (.iaload, 1) := by decide +kernel
theorem dX2_tally_62 : decode cX2_tally 62 = .ok (.bipush 10, 2) := by decide +kernel
theorem dX2_tally_64 : decode cX2_tally 64 = .ok (.idiv, 1) := by decide +kernel
theorem dX2_tally_65 : decode cX2_tally 65 = .ok (.bipush 10, 2) := by decide +kernel
theorem dX2_tally_67 : decode cX2_tally 67 = .ok (.irem, 1) := by decide +kernel
theorem dX2_tally_68 : decode cX2_tally 68 = .ok (.istore 5, 2) := by decide +kernel
theorem dX2_tally_70 : decode cX2_tally 70 = .ok (.aload_n 0, 1) := by decide +kernel
theorem dX2_tally_71 : decode cX2_tally 71 = .ok (.getfield 9, 3) := by decide +kernel
theorem dX2_tally_74 : decode cX2_tally 74 = .ok (.iload_n 3, 1) := by decide +kernel
theorem dX2_tally_75 : decode cX2_tally 75 = .ok (.iaload, 1) := by decide +kernel
theorem dX2_tally_76 : decode cX2_tally 76 = .ok (.bipush 10, 2) := by decide +kernel
theorem dX2_tally_78 : decode cX2_tally 78 = .ok (.irem, 1) := by decide +kernel
theorem dX2_tally_79 : decode cX2_tally 79 = .ok (.istore 6, 2) := by decide +kernel
theorem dX2_tally_81 : decode cX2_tally 81 = .ok (.iconst 0, 1) := by decide +kernel
theorem dX2_tally_82 : decode cX2_tally 82 = .ok (.istore 7, 2) := by decide +kernel
theorem dX2_tally_84 : decode cX2_tally 84 = .ok (.iload 7, 2) := by decide +kernel
theorem dX2_tally_86 : decode cX2_tally 86 = .ok (.iload_n 2, 1) := by decide +kernel
theorem dX2_tally_87 : decode cX2_tally 87 = .ok (.if_icmp .ge 38, 3) := by decide +kernel
theorem dX2_tally_90 : decode cX2_tally 90 = .ok (.aload_n 0, 1) := by decide +kernel
theorem dX2_tally_91 : decode cX2_tally 91 = .ok (.getfield 15, 3) := by decide +kernel
theorem dX2_tally_94 : decode cX2_tally 94 = .ok (.iload 7, 2) := by decide +kernel
theorem dX2_tally_96 : decode cX2_tally 96 = .ok (.bipush 9, 2) := by decide +kernel
theorem dX2_tally_98 : decode cX2_tally 98 = .ok (.imul, 1) := by decide +kernel
