theorem dX0_init_0 : decode cX0_init 0 = .ok (.aload_n 0, 1) := by decide +kernel
theorem dX0_init_1 : decode cX0_init 1 = .ok (.invokespecial 3, 3) := by decide +kernel
theorem dX0_init_4 : decode cX0_init 4 = .ok (.aload_n 0, 1) := by decide +kernel
theorem dX0_init_5 : decode cX0_init 5 = .ok (.bipush 9, 2) := by decide +kernel
theorem dX0_init_7 : decode cX0_init 7 = .ok (.newarray .int, 2) := by decide +kernel
theorem dX0_init_9 : decode cX0_init 9 = .ok (.putfield 9, 3) := by decide +kernel
theorem dX0_init_12 : decode cX0_init 12 = .ok (.aload_n 0, 1) := by decide +kernel
theorem dX0_init_13 : decode cX0_init 13 = .ok (.bipush 9, 2) := by decide +kernel
theorem dX0_init_15 : decode cX0_init 15 = .ok (.newarray .int, 2) := by decide +kernel
theorem dX0_init_17 : decode cX0_init 17 = .ok (.putfield 15, 3) := by decide +kernel
theorem dX0_init_20 : decode cX0_init 20 = .ok (.aload_n 0, 1) := by decide +kernel
theorem dX0_init_21 : decode cX0_init 21 = .ok (.bipush 6, 2) := by decide +kernel
theorem dX0_init_23 : decode cX0_init 23 = .ok (.newarray .int, 2) := by decide +kernel
theorem dX0_init_25 : decode cX0_init 25 = .ok (.putfield 18, 3) := by decide +kernel
theorem dX0_init_28 : decode cX0_init 28 = .ok (.aload_n 0, 1) := by decide +kernel
theorem dX0_init_29 : decode cX0_init 29 = .ok (.bipush 6, 2) := by decide +kernel
theorem dX0_init_31 : decode cX0_init 31 = .ok (.newarray .int, 2) := by decide +kernel
theorem dX0_init_33 : decode cX0_init 33 = .ok (.putfield 21, 3) := by decide +kernel
theorem dX0_init_36 : decode cX0_init 36 = .ok (.aload_n 0, 1) := by decide +kernel
theorem dX0_init_37 : decode cX0_init 37 = .ok (.new 24, 3) := by decide +kernel
theorem dX0_init_40 : decode cX0_init 40 = .ok (.dup, 1) := by decide +kernel
theorem dX0_init_41 : decode cX0_init 41 = .ok (.invokespecial 26, 3) := by decide +kernel
theorem dX0_init_44 : decode cX0_init 44 = .ok (.putfield 27, 3) := by decide +kernel
theorem dX0_init_47 : decode cX0_init 47 = .ok (.return_, 1) := by decide +kernel
theorem dX0_clear_0 : decode cX0_clear 0 = .ok (.aload_n 0, 1) := by decide +kernel
theorem dX0_clear_1 : decode cX0_clear 1 = .ok (.iconst 0, 1) := by decide +kernel
theorem dX0_clear_2 : decode cX0_clear 2 = .ok (.putfield 31, 3) := by decide +kernel
theorem dX0_clear_5 : decode cX0_clear 5 = .ok (.aload_n 0, 1) := by decide +kernel
theorem dX0_clear_6 : decode cX0_clear 6 = .ok (.iconst 0, 1) := by decide +kernel
theorem dX0_clear_7 : decode cX0_clear 7 = .ok (.putfield 35, 3) := by decide +kernel
theorem dX0_clear_10 : decode cX0_clear 10 = .ok (.aload_n 0, 1) := by decide +kernel
theorem dX0_clear_11 : decode cX0_clear 11 = .ok (.iconst 0, 1) := by decide +kernel
theorem dX0_clear_12 : decode cX0_clear 12 = .ok (.putfield 39, 3) := by decide +kernel
theorem dX0_clear_15 : decode cX0_clear 15 = .ok (.aload_n 0, 1) := by decide +kernel
theorem dX0_clear_16 : decode cX0_clear 16 = .ok (.iconst 0, 1) := by decide +kernel
theorem dX0_clear_17 : decode cX0_clear 17 = .ok (.putfield 42, 3) := by decide +kernel
theorem dX0_clear_20 : decode cX0_clear 20 = .ok (.aload_n 0, 1) := by decide +kernel
theorem dX0_clear_21 : decode cX0_clear 21 = .ok (.getfield 27, 3) := by decide +kernel
theorem dX0_clear_24 : decode cX0_clear 24 = .ok (.iconst 0, 1) := by decide +kernel
theorem dX0_clear_25 : decode cX0_clear 25 = .ok (.putfield 45, 3) := by decide +kernel
theorem dX0_clear_28 : decode cX0_clear 28 = .ok (.iconst 0, 1) := by decide +kernel
theorem dX0_clear_29 : decode cX0_clear 29 = .ok (.istore_n 1, 1) := by decide +kernel
theorem dX0_clear_30 : decode cX0_clear 30 = .ok (.iload_n 1, 1) := by decide +kernel
theorem dX0_clear_31 : decode cX0_clear 31 = .ok (.bipush 9, 2) := by decide +kernel
theorem dX0_clear_33 : decode cX0_clear 33 = .ok (.if_icmp .ge 23, 3) := by decide +kernel
theorem dX0_clear_36 : decode cX0_clear 36 = .ok (.aload_n 0, 1) := by decide +kernel
theorem dX0_clear_37 : decode cX0_clear 37 = .ok (.getfield 9, 3) := by decide +kernel
theorem dX0_clear_40 : decode cX0_clear 40 = .ok (.iload_n 1, 1) := by decide +kernel
theorem dX0_clear_41 : decode cX0_clear 41 = .ok (.iconst 0, 1) := by decide +kernel
theorem dX0_clear_42 : decode cX0_clear 42 = .ok (.iastore, 1) := by decide +kernel
theorem dX0_clear_43 : decode cX0_clear 43 = .ok (.aload_n 0, 1) := by decide +kernel
theorem dX0_clear_44 : decode cX0_clear 44 = .ok (.getfield 15, 3) := by decide +kernel
theorem dX0_clear_47 : decode cX0_clear 47 = .ok (.iload_n 1, 1) := by decide +kernel
theorem dX0_clear_48 : decode cX0_clear 48 = .ok (.iconst 0, 1) := by decide +kernel
theorem dX0_clear_49 : decode cX0_clear 49 = .ok (.iastore, 1) := by decide +kernel
theorem dX0_clear_50 : decode cX0_clear 50 = .ok (.iinc 1 1, 3) := by decide +kernel
theorem dX0_clear_53 : decode cX0_clear 53 = .ok (.goto (-23), 3) := by decide +kernel
theorem dX0_clear_56 : decode cX0_clear 56 = .ok (.return_, 1) := by decide +kernel
theorem dX0_sizeTold_0 : decode cX0_sizeTold 0 = .ok (.iload_n 1, 1) := by decide +kernel
theorem dX0_sizeTold_1 : decode cX0_sizeTold 1 = .ok (.tableswitch 111 0 9 #[55, 60, 65, 70, 75, 83, 91, 96, 101, 106], 55) := by decide +kernel
theorem dX0_sizeTold_56 : decode cX0_sizeTold 56 = .ok (.aload_n 0, 1) := by decide +kernel
theorem dX0_sizeTold_57 : decode cX0_sizeTold 57 = .ok (.getfield 31, 3) := by decide +kernel
theorem dX0_sizeTold_60 : decode cX0_sizeTold 60 = .ok (.ireturn, 1) := by decide +kernel
theorem dX0_sizeTold_61 : decode cX0_sizeTold 61 = .ok (.aload_n 0, 1) := by decide +kernel
theorem dX0_sizeTold_62 : decode cX0_sizeTold 62 = .ok (.getfield 48, 3) := by decide +kernel
theorem dX0_sizeTold_65 : decode cX0_sizeTold 65 = .ok (.ireturn, 1) := by decide +kernel
theorem dX0_sizeTold_66 : decode cX0_sizeTold 66 = .ok (.aload_n 0, 1) := by decide +kernel
theorem dX0_sizeTold_67 : decode cX0_sizeTold 67 = .ok (.getfield 51, 3) := by decide +kernel
theorem dX0_sizeTold_70 : decode cX0_sizeTold 70 = .ok (.ireturn, 1) := by decide +kernel
theorem dX0_sizeTold_71 : decode cX0_sizeTold 71 = .ok (.aload_n 0, 1) := by decide +kernel
theorem dX0_sizeTold_72 : decode cX0_sizeTold 72 = .ok (.getfield 54, 3) := by decide +kernel
theorem dX0_sizeTold_75 : decode cX0_sizeTold 75 = .ok (.ireturn, 1) := by decide +kernel
theorem dX0_sizeTold_76 : decode cX0_sizeTold 76 = .ok (.aload_n 0, 1) := by decide +kernel
theorem dX0_sizeTold_77 : decode cX0_sizeTold 77 = .ok (.getfield 39, 3) := by decide +kernel
theorem dX0_sizeTold_80 : decode cX0_sizeTold 80 = .ok (.invokestatic 57, 3) := by decide +kernel
theorem dX0_sizeTold_83 : decode cX0_sizeTold 83 = .ok (.ireturn, 1) := by decide +kernel
theorem dX0_sizeTold_84 : decode cX0_sizeTold 84 = .ok (.aload_n 0, 1) := by decide +kernel
theorem dX0_sizeTold_85 : decode cX0_sizeTold 85 = .ok (.getfield 27, 3) := by decide +kernel
theorem dX0_sizeTold_88 : decode cX0_sizeTold 88 = .ok (.getfield 45, 3) := by decide +kernel
theorem dX0_sizeTold_91 : decode cX0_sizeTold 91 = .ok (.ireturn, 1) := by decide +kernel
theorem dX0_sizeTold_92 : decode cX0_sizeTold 92 = .ok (.aload_n 0, 1) := by decide +kernel
theorem dX0_sizeTold_93 : decode cX0_sizeTold 93 = .ok (.getfield 42, 3) := by decide +kernel
theorem dX0_sizeTold_96 : decode cX0_sizeTold 96 = .ok (.ireturn, 1) := by decide +kernel
theorem dX0_sizeTold_97 : decode cX0_sizeTold 97 = .ok (.aload_n 0, 1) := by decide +kernel
theorem dX0_sizeTold_98 : decode cX0_sizeTold 98 = .ok (.getfield 63, 3) := by decide +kernel
theorem dX0_sizeTold_101 : decode cX0_sizeTold 101 = .ok (.ireturn, 1) := by decide +kernel
theorem dX0_sizeTold_102 : decode cX0_sizeTold 102 = .ok (.aload_n 0, 1) := by decide +kernel
theorem dX0_sizeTold_103 : decode cX0_sizeTold 103 = .ok (.getfield 66, 3) := by decide +kernel
theorem dX0_sizeTold_106 : decode cX0_sizeTold 106 = .ok (.ireturn, 1) := by decide +kernel
theorem dX0_sizeTold_107 : decode cX0_sizeTold 107 = .ok (.aload_n 0, 1) := by decide +kernel
theorem dX0_sizeTold_108 : decode cX0_sizeTold 108 = .ok (.getfield 69, 3) := by decide +kernel
theorem dX0_sizeTold_111 : decode cX0_sizeTold 111 = .ok (.ireturn, 1) := by decide +kernel
theorem dX0_sizeTold_112 : decode cX0_sizeTold 112 = .ok (.iconst (-1), 1) := by decide +kernel
theorem dX0_sizeTold_113 : decode cX0_sizeTold 113 = .ok (.ireturn, 1) := by decide +kernel
