theorem dX7_firstShut_48 : decode cX7_firstShut 48 = .ok (.iload_n 2, 1) := by decide +kernel
theorem dX7_firstShut_49 : decode cX7_firstShut 49 = .ok (.if_icmp .gt 29, 3) := by decide +kernel
theorem dX7_firstShut_52 : decode cX7_firstShut 52 = .ok (.iload_n 3, 1) := by decide +kernel
theorem dX7_firstShut_53 : decode cX7_firstShut 53 = .ok (.invokestatic 324, 3) := by decide +kernel
theorem dX7_firstShut_56 : decode cX7_firstShut 56 = .ok (.istore_n 3, 1) := by decide +kernel
theorem dX7_firstShut_57 : decode cX7_firstShut 57 = .ok (.aload_n 0, 1) := by decide +kernel
theorem dX7_firstShut_58 : decode cX7_firstShut 58 = .ok (.iload_n 3, 1) := by decide +kernel
theorem dX7_firstShut_59 : decode cX7_firstShut 59 = .ok (.invokevirtual 327, 3) := by decide +kernel
theorem dX7_firstShut_62 : decode cX7_firstShut 62 = .ok (.ifCond .eq 10, 3) := by decide +kernel
theorem dX7_firstShut_65 : decode cX7_firstShut 65 = .ok (.aload_n 0, 1) := by decide +kernel
theorem dX7_firstShut_66 : decode cX7_firstShut 66 = .ok (.iload 4, 2) := by decide +kernel
theorem dX7_firstShut_68 : decode cX7_firstShut 68 = .ok (.invokevirtual 113, 3) := by decide +kernel
theorem dX7_firstShut_71 : decode cX7_firstShut 71 = .ok (.ireturn, 1) := by decide +kernel
theorem dX7_firstShut_72 : decode cX7_firstShut 72 = .ok (.iinc 4 1, 3) := by decide +kernel
theorem dX7_firstShut_75 : decode cX7_firstShut 75 = .ok (.goto (-29), 3) := by decide +kernel
theorem dX7_firstShut_78 : decode cX7_firstShut 78 = .ok (.aload_n 0, 1) := by decide +kernel
theorem dX7_firstShut_79 : decode cX7_firstShut 79 = .ok (.bipush (-2), 2) := by decide +kernel
theorem dX7_firstShut_81 : decode cX7_firstShut 81 = .ok (.invokevirtual 113, 3) := by decide +kernel
theorem dX7_firstShut_84 : decode cX7_firstShut 84 = .ok (.ireturn, 1) := by decide +kernel
theorem dX7_go_0 : decode cX7_go 0 = .ok (.aload_n 0, 1) := by decide +kernel
theorem dX7_go_1 : decode cX7_go 1 = .ok (.iload_n 1, 1) := by decide +kernel
theorem dX7_go_2 : decode cX7_go 2 = .ok (.iconst 1, 1) := by decide +kernel
theorem dX7_go_3 : decode cX7_go 3 = .ok (.bipush 60, 2) := by decide +kernel
theorem dX7_go_5 : decode cX7_go 5 = .ok (.invokevirtual 188, 3) := by decide +kernel
theorem dX7_go_8 : decode cX7_go 8 = .ok (.istore_n 2, 1) := by decide +kernel
theorem dX7_go_9 : decode cX7_go 9 = .ok (.iload_n 2, 1) := by decide +kernel
theorem dX7_go_10 : decode cX7_go 10 = .ok (.ifCond .eq 9, 3) := by decide +kernel
theorem dX7_go_13 : decode cX7_go 13 = .ok (.aload_n 0, 1) := by decide +kernel
theorem dX7_go_14 : decode cX7_go 14 = .ok (.iload_n 2, 1) := by decide +kernel
theorem dX7_go_15 : decode cX7_go 15 = .ok (.invokevirtual 82, 3) := by decide +kernel
theorem dX7_go_18 : decode cX7_go 18 = .ok (.ireturn, 1) := by decide +kernel
theorem dX7_go_19 : decode cX7_go 19 = .ok (.aload_n 0, 1) := by decide +kernel
theorem dX7_go_20 : decode cX7_go 20 = .ok (.getfield 19, 3) := by decide +kernel
theorem dX7_go_23 : decode cX7_go 23 = .ok (.getfield 147, 3) := by decide +kernel
theorem dX7_go_26 : decode cX7_go 26 = .ok (.iload_n 1, 1) := by decide +kernel
theorem dX7_go_27 : decode cX7_go 27 = .ok (.iadd, 1) := by decide +kernel
theorem dX7_go_28 : decode cX7_go 28 = .ok (.sipush 9999, 3) := by decide +kernel
theorem dX7_go_31 : decode cX7_go 31 = .ok (.if_icmp .le 9, 3) := by decide +kernel
theorem dX7_go_34 : decode cX7_go 34 = .ok (.aload_n 0, 1) := by decide +kernel
theorem dX7_go_35 : decode cX7_go 35 = .ok (.iconst 3, 1) := by decide +kernel
theorem dX7_go_36 : decode cX7_go 36 = .ok (.invokevirtual 82, 3) := by decide +kernel
theorem dX7_go_39 : decode cX7_go 39 = .ok (.ireturn, 1) := by decide +kernel
theorem dX7_go_40 : decode cX7_go 40 = .ok (.aload_n 0, 1) := by decide +kernel
theorem dX7_go_41 : decode cX7_go 41 = .ok (.getfield 36, 3) := by decide +kernel
theorem dX7_go_44 : decode cX7_go 44 = .ok (.aload_n 0, 1) := by decide +kernel
theorem dX7_go_45 : decode cX7_go 45 = .ok (.getfield 19, 3) := by decide +kernel
theorem dX7_go_48 : decode cX7_go 48 = .ok (.invokevirtual 330, 3) := by decide +kernel
theorem dX7_go_51 : decode cX7_go 51 = .ok (.aload_n 0, 1) := by decide +kernel
theorem dX7_go_52 : decode cX7_go 52 = .ok (.getfield 19, 3) := by decide +kernel
theorem dX7_go_55 : decode cX7_go 55 = .ok (.getfield 191, 3) := by decide +kernel
theorem dX7_go_58 : decode cX7_go 58 = .ok (.istore_n 3, 1) := by decide +kernel
theorem dX7_go_59 : decode cX7_go 59 = .ok (.iconst 0, 1) := by decide +kernel
theorem dX7_go_60 : decode cX7_go 60 = .ok (.istore 4, 2) := by decide +kernel
theorem dX7_go_62 : decode cX7_go 62 = .ok (.iload 4, 2) := by decide +kernel
theorem dX7_go_64 : decode cX7_go 64 = .ok (.iload_n 1, 1) := by decide +kernel
theorem dX7_go_65 : decode cX7_go 65 = .ok (.if_icmp .ge 27, 3) := by decide +kernel
theorem dX7_go_68 : decode cX7_go 68 = .ok (.aload_n 0, 1) := by decide +kernel
theorem dX7_go_69 : decode cX7_go 69 = .ok (.getfield 57, 3) := by decide +kernel
theorem dX7_go_72 : decode cX7_go 72 = .ok (.aload_n 0, 1) := by decide +kernel
theorem dX7_go_73 : decode cX7_go 73 = .ok (.getfield 19, 3) := by decide +kernel
theorem dX7_go_76 : decode cX7_go 76 = .ok (.aload_n 0, 1) := by decide +kernel
theorem dX7_go_77 : decode cX7_go 77 = .ok (.getfield 57, 3) := by decide +kernel
theorem dX7_go_80 : decode cX7_go 80 = .ok (.getfield 138, 3) := by decide +kernel
theorem dX7_go_83 : decode cX7_go 83 = .ok (.invokevirtual 205, 3) := by decide +kernel
theorem dX7_go_86 : decode cX7_go 86 = .ok (.iinc 4 1, 3) := by decide +kernel
theorem dX7_go_89 : decode cX7_go 89 = .ok (.goto (-27), 3) := by decide +kernel
theorem dX7_go_92 : decode cX7_go 92 = .ok (.aload_n 0, 1) := by decide +kernel
theorem dX7_go_93 : decode cX7_go 93 = .ok (.aload_n 0, 1) := by decide +kernel
theorem dX7_go_94 : decode cX7_go 94 = .ok (.getfield 19, 3) := by decide +kernel
theorem dX7_go_97 : decode cX7_go 97 = .ok (.getfield 191, 3) := by decide +kernel
theorem dX7_go_100 : decode cX7_go 100 = .ok (.iload_n 3, 1) := by decide +kernel
theorem dX7_go_101 : decode cX7_go 101 = .ok (.iconst (-1), 1) := by decide +kernel
theorem dX7_go_102 : decode cX7_go 102 = .ok (.ixor, 1) := by decide +kernel
theorem dX7_go_103 : decode cX7_go 103 = .ok (.iand, 1) := by decide +kernel
theorem dX7_go_104 : decode cX7_go 104 = .ok (.invokevirtual 113, 3) := by decide +kernel
theorem dX7_go_107 : decode cX7_go 107 = .ok (.ireturn, 1) := by decide +kernel
theorem dX7_put_0 : decode cX7_put 0 = .ok (.aload_n 0, 1) := by decide +kernel
theorem dX7_put_1 : decode cX7_put 1 = .ok (.iload_n 1, 1) := by decide +kernel
theorem dX7_put_2 : decode cX7_put 2 = .ok (.invokevirtual 116, 3) := by decide +kernel
theorem dX7_put_5 : decode cX7_put 5 = .ok (.ifCond .ne 9, 3) := by decide +kernel
theorem dX7_put_8 : decode cX7_put 8 = .ok (.aload_n 0, 1) := by decide +kernel
theorem dX7_put_9 : decode cX7_put 9 = .ok (.iconst 1, 1) := by decide +kernel
theorem dX7_put_10 : decode cX7_put 10 = .ok (.invokevirtual 82, 3) := by decide +kernel
theorem dX7_put_13 : decode cX7_put 13 = .ok (.ireturn, 1) := by decide +kernel
theorem dX7_put_14 : decode cX7_put 14 = .ok (.aload_n 0, 1) := by decide +kernel
theorem dX7_put_15 : decode cX7_put 15 = .ok (.getfield 19, 3) := by decide +kernel
theorem dX7_put_18 : decode cX7_put 18 = .ok (.iload_n 1, 1) := by decide +kernel
theorem dX7_put_19 : decode cX7_put 19 = .ok (.invokevirtual 129, 3) := by decide +kernel
theorem dX7_put_22 : decode cX7_put 22 = .ok (.ifCond .ne 16, 3) := by decide +kernel
theorem dX7_put_25 : decode cX7_put 25 = .ok (.aload_n 0, 1) := by decide +kernel
theorem dX7_put_26 : decode cX7_put 26 = .ok (.getfield 19, 3) := by decide +kernel
theorem dX7_put_29 : decode cX7_put 29 = .ok (.getfield 126, 3) := by decide +kernel
theorem dX7_put_32 : decode cX7_put 32 = .ok (.iload_n 1, 1) := by decide +kernel
theorem dX7_put_33 : decode cX7_put 33 = .ok (.iaload, 1) := by decide +kernel
theorem dX7_put_34 : decode cX7_put 34 = .ok (.iload_n 1, 1) := by decide +kernel
theorem dX7_put_35 : decode cX7_put 35 = .ok (.if_icmp .ne 9, 3) := by decide +kernel
theorem dX7_put_38 : decode cX7_put 38 = .ok (.aload_n 0, 1) := by decide +kernel
theorem dX7_put_39 : decode cX7_put 39 = .ok (.iconst 5, 1) := by decide +kernel
theorem dX7_put_40 : decode cX7_put 40 = .ok (.invokevirtual 82, 3) := by decide +kernel
theorem dX7_put_43 : decode cX7_put 43 = .ok (.ireturn, 1) := by decide +kernel
theorem dX7_put_44 : decode cX7_put 44 = .ok (.aload_n 0, 1) := by decide +kernel
theorem dX7_put_45 : decode cX7_put 45 = .ok (.getfield 36, 3) := by decide +kernel
theorem dX7_put_48 : decode cX7_put 48 = .ok (.aload_n 0, 1) := by decide +kernel
theorem dX7_put_49 : decode cX7_put 49 = .ok (.getfield 19, 3) := by decide +kernel
theorem dX7_put_52 : decode cX7_put 52 = .ok (.invokevirtual 330, 3) := by decide +kernel
theorem dX7_put_55 : decode cX7_put 55 = .ok (.aload_n 0, 1) := by decide +kernel
theorem dX7_put_56 : decode cX7_put 56 = .ok (.getfield 19, 3) := by decide +kernel
theorem dX7_put_59 : decode cX7_put 59 = .ok (.getfield 126, 3) := by decide +kernel
theorem dX7_put_62 : decode cX7_put 62 = .ok (.iload_n 1, 1) := by decide +kernel
theorem dX7_put_63 : decode cX7_put 63 = .ok (.iaload, 1) := by decide +kernel
theorem dX7_put_64 : decode cX7_put 64 = .ok (.istore_n 2, 1) := by decide +kernel
theorem dX7_put_65 : decode cX7_put 65 = .ok (.aload_n 0, 1) := by decide +kernel
theorem dX7_put_66 : decode cX7_put 66 = .ok (.getfield 19, 3) := by decide +kernel
theorem dX7_put_69 : decode cX7_put 69 = .ok (.getfield 126, 3) := by decide +kernel
theorem dX7_put_72 : decode cX7_put 72 = .ok (.iload_n 1, 1) := by decide +kernel
theorem dX7_put_73 : decode cX7_put 73 = .ok (.iload_n 1, 1) := by decide +kernel
theorem dX7_put_74 : decode cX7_put 74 = .ok (.iastore, 1) := by decide +kernel
theorem dX7_put_75 : decode cX7_put 75 = .ok (.aload_n 0, 1) := by decide +kernel
theorem dX7_put_76 : decode cX7_put 76 = .ok (.iload_n 2, 1) := by decide +kernel
theorem dX7_put_77 : decode cX7_put 77 = .ok (.invokevirtual 113, 3) := by decide +kernel
theorem dX7_put_80 : decode cX7_put 80 = .ok (.ireturn, 1) := by decide +kernel
theorem dX7_wind_0 : decode cX7_wind 0 = .ok (.aload_n 0, 1) := by decide +kernel
theorem dX7_wind_1 : decode cX7_wind 1 = .ok (.iload_n 1, 1) := by decide +kernel
theorem dX7_wind_2 : decode cX7_wind 2 = .ok (.invokevirtual 116, 3) := by decide +kernel
theorem dX7_wind_5 : decode cX7_wind 5 = .ok (.ifCond .ne 9, 3) := by decide +kernel
theorem dX7_wind_8 : decode cX7_wind 8 = .ok (.aload_n 0, 1) := by decide +kernel
theorem dX7_wind_9 : decode cX7_wind 9 = .ok (.iconst 1, 1) := by decide +kernel
theorem dX7_wind_10 : decode cX7_wind 10 = .ok (.invokevirtual 82, 3) := by decide +kernel
theorem dX7_wind_13 : decode cX7_wind 13 = .ok (.ireturn, 1) := by decide +kernel
theorem dX7_wind_14 : decode cX7_wind 14 = .ok (.aload_n 0, 1) := by decide +kernel
theorem dX7_wind_15 : decode cX7_wind 15 = .ok (.getfield 19, 3) := by decide +kernel
theorem dX7_wind_18 : decode cX7_wind 18 = .ok (.getfield 158, 3) := by decide +kernel
theorem dX7_wind_21 : decode cX7_wind 21 = .ok (.iload_n 1, 1) := by decide +kernel
theorem dX7_wind_22 : decode cX7_wind 22 = .ok (.if_icmp .ne 19, 3) := by decide +kernel
theorem dX7_wind_25 : decode cX7_wind 25 = .ok (.aload_n 0, 1) := by decide +kernel
theorem dX7_wind_26 : decode cX7_wind 26 = .ok (.getfield 19, 3) := by decide +kernel
theorem dX7_wind_29 : decode cX7_wind 29 = .ok (.getfield 164, 3) := by decide +kernel
theorem dX7_wind_32 : decode cX7_wind 32 = .ok (.ifCond .ne 9, 3) := by decide +kernel
theorem dX7_wind_35 : decode cX7_wind 35 = .ok (.aload_n 0, 1) := by decide +kernel
theorem dX7_wind_36 : decode cX7_wind 36 = .ok (.iconst 5, 1) := by decide +kernel
theorem dX7_wind_37 : decode cX7_wind 37 = .ok (.invokevirtual 82, 3) := by decide +kernel
theorem dX7_wind_40 : decode cX7_wind 40 = .ok (.ireturn, 1) := by decide +kernel
theorem dX7_wind_41 : decode cX7_wind 41 = .ok (.aload_n 0, 1) := by decide +kernel
theorem dX7_wind_42 : decode cX7_wind 42 = .ok (.getfield 36, 3) := by decide +kernel
theorem dX7_wind_45 : decode cX7_wind 45 = .ok (.aload_n 0, 1) := by decide +kernel
theorem dX7_wind_46 : decode cX7_wind 46 = .ok (.getfield 19, 3) := by decide +kernel
theorem dX7_wind_49 : decode cX7_wind 49 = .ok (.invokevirtual 330, 3) := by decide +kernel
theorem dX7_wind_52 : decode cX7_wind 52 = .ok (.aload_n 0, 1) := by decide +kernel
theorem dX7_wind_53 : decode cX7_wind 53 = .ok (.getfield 19, 3) := by decide +kernel
theorem dX7_wind_56 : decode cX7_wind 56 = .ok (.getfield 158, 3) := by decide +kernel
theorem dX7_wind_59 : decode cX7_wind 59 = .ok (.istore_n 2, 1) := by decide +kernel
theorem dX7_wind_60 : decode cX7_wind 60 = .ok (.aload_n 0, 1) := by decide +kernel
theorem dX7_wind_61 : decode cX7_wind 61 = .ok (.getfield 19, 3) := by decide +kernel
theorem dX7_wind_64 : decode cX7_wind 64 = .ok (.iload_n 1, 1) := by decide +kernel
theorem dX7_wind_65 : decode cX7_wind 65 = .ok (.invokevirtual 248, 3) := by decide +kernel
theorem dX7_wind_68 : decode cX7_wind 68 = .ok (.aload_n 0, 1) := by decide +kernel
theorem dX7_wind_69 : decode cX7_wind 69 = .ok (.iload_n 2, 1) := by decide +kernel
theorem dX7_wind_70 : decode cX7_wind 70 = .ok (.invokevirtual 113, 3) := by decide +kernel
theorem dX7_wind_73 : decode cX7_wind 73 = .ok (.ireturn, 1) := by decide +kernel
theorem dX7_undo_0 : decode cX7_undo 0 = .ok (.aload_n 0, 1) := by decide +kernel
theorem dX7_undo_1 : decode cX7_undo 1 = .ok (.getfield 36, 3) := by decide +kernel
theorem dX7_undo_4 : decode cX7_undo 4 = .ok (.aload_n 0, 1) := by decide +kernel
theorem dX7_undo_5 : decode cX7_undo 5 = .ok (.getfield 19, 3) := by decide +kernel
theorem dX7_undo_8 : decode cX7_undo 8 = .ok (.invokevirtual 333, 3) := by decide +kernel
theorem dX7_undo_11 : decode cX7_undo 11 = .ok (.istore_n 1, 1) := by decide +kernel
theorem dX7_undo_12 : decode cX7_undo 12 = .ok (.aload_n 0, 1) := by decide +kernel
theorem dX7_undo_13 : decode cX7_undo 13 = .ok (.iload_n 1, 1) := by decide +kernel
theorem dX7_undo_14 : decode cX7_undo 14 = .ok (.ifCond .eq 7, 3) := by decide +kernel
theorem dX7_undo_17 : decode cX7_undo 17 = .ok (.iconst 0, 1) := by decide +kernel
theorem dX7_undo_18 : decode cX7_undo 18 = .ok (.goto 5, 3) := by decide +kernel
theorem dX7_undo_21 : decode cX7_undo 21 = .ok (.bipush 6, 2) := by decide +kernel
theorem dX7_undo_23 : decode cX7_undo 23 = .ok (.putfield 61, 3) := by decide +kernel
theorem dX7_undo_26 : decode cX7_undo 26 = .ok (.iload_n 1, 1) := by decide +kernel
theorem dX7_undo_27 : decode cX7_undo 27 = .ok (.ireturn, 1) := by decide +kernel
theorem dX7_image_0 : decode cX7_image 0 = .ok (.aload_n 0, 1) := by decide +kernel
theorem dX7_image_1 : decode cX7_image 1 = .ok (.invokevirtual 154, 3) := by decide +kernel
theorem dX7_image_4 : decode cX7_image 4 = .ok (.ifCond .ne 9, 3) := by decide +kernel
theorem dX7_image_7 : decode cX7_image 7 = .ok (.aload_n 0, 1) := by decide +kernel
theorem dX7_image_8 : decode cX7_image 8 = .ok (.iconst 1, 1) := by decide +kernel
theorem dX7_image_9 : decode cX7_image 9 = .ok (.invokevirtual 82, 3) := by decide +kernel
theorem dX7_image_12 : decode cX7_image 12 = .ok (.ireturn, 1) := by decide +kernel
theorem dX7_image_13 : decode cX7_image 13 = .ok (.aload_n 0, 1) := by decide +kernel
theorem dX7_image_14 : decode cX7_image 14 = .ok (.getfield 36, 3) := by decide +kernel
theorem dX7_image_17 : decode cX7_image 17 = .ok (.getfield 337, 3) := by decide +kernel
theorem dX7_image_20 : decode cX7_image 20 = .ok (.iconst 3, 1) := by decide +kernel
theorem dX7_image_21 : decode cX7_image 21 = .ok (.if_icmp .lt 9, 3) := by decide +kernel
theorem dX7_image_24 : decode cX7_image 24 = .ok (.aload_n 0, 1) := by decide +kernel
theorem dX7_image_25 : decode cX7_image 25 = .ok (.iconst 3, 1) := by decide +kernel
theorem dX7_image_26 : decode cX7_image 26 = .ok (.invokevirtual 82, 3) := by decide +kernel
theorem dX7_image_29 : decode cX7_image 29 = .ok (.ireturn, 1) := by decide +kernel
theorem dX7_image_30 : decode cX7_image 30 = .ok (.aload_n 0, 1) := by decide +kernel
theorem dX7_image_31 : decode cX7_image 31 = .ok (.aload_n 0, 1) := by decide +kernel
theorem dX7_image_32 : decode cX7_image 32 = .ok (.getfield 36, 3) := by decide +kernel
theorem dX7_image_35 : decode cX7_image 35 = .ok (.aload_n 0, 1) := by decide +kernel
theorem dX7_image_36 : decode cX7_image 36 = .ok (.getfield 19, 3) := by decide +kernel
theorem dX7_image_39 : decode cX7_image 39 = .ok (.invokevirtual 340, 3) := by decide +kernel
theorem dX7_image_42 : decode cX7_image 42 = .ok (.invokevirtual 113, 3) := by decide +kernel
theorem dX7_image_45 : decode cX7_image 45 = .ok (.ireturn, 1) := by decide +kernel
theorem dX7_back_0 : decode cX7_back 0 = .ok (.aload_n 0, 1) := by decide +kernel
theorem dX7_back_1 : decode cX7_back 1 = .ok (.getfield 36, 3) := by decide +kernel
theorem dX7_back_4 : decode cX7_back 4 = .ok (.iload_n 1, 1) := by decide +kernel
theorem dX7_back_5 : decode cX7_back 5 = .ok (.aload_n 0, 1) := by decide +kernel
theorem dX7_back_6 : decode cX7_back 6 = .ok (.getfield 19, 3) := by decide +kernel
theorem dX7_back_9 : decode cX7_back 9 = .ok (.invokevirtual 344, 3) := by decide +kernel
theorem dX7_back_12 : decode cX7_back 12 = .ok (.istore_n 2, 1) := by decide +kernel
theorem dX7_back_13 : decode cX7_back 13 = .ok (.aload_n 0, 1) := by decide +kernel
theorem dX7_back_14 : decode cX7_back 14 = .ok (.iload_n 2, 1) := by decide +kernel
theorem dX7_back_15 : decode cX7_back 15 = .ok (.ifCond .eq 7, 3) := by decide +kernel
theorem dX7_back_18 : decode cX7_back 18 = .ok (.iconst 0, 1) := by decide +kernel
theorem dX7_back_19 : decode cX7_back 19 = .ok (.goto 4, 3) := by decide +kernel
theorem dX7_back_22 : decode cX7_back 22 = .ok (.iconst 1, 1) := by decide +kernel
theorem dX7_back_23 : decode cX7_back 23 = .ok (.putfield 61, 3) := by decide +kernel
theorem dX7_back_26 : decode cX7_back 26 = .ok (.iload_n 2, 1) := by decide +kernel
theorem dX7_back_27 : decode cX7_back 27 = .ok (.ireturn, 1) := by decide +kernel
theorem dX7_led_0 : decode cX7_led 0 = .ok (.iconst 0, 1) := by decide +kernel
theorem dX7_led_1 : decode cX7_led 1 = .ok (.istore_n 2, 1) := by decide +kernel
theorem dX7_led_2 : decode cX7_led 2 = .ok (.iconst 0, 1) := by decide +kernel
theorem dX7_led_3 : decode cX7_led 3 = .ok (.istore_n 3, 1) := by decide +kernel
theorem dX7_led_4 : decode cX7_led 4 = .ok (.iload_n 3, 1) := by decide +kernel
theorem dX7_led_5 : decode cX7_led 5 = .ok (.aload_n 0, 1) := by decide +kernel
theorem dX7_led_6 : decode cX7_led 6 = .ok (.getfield 57, 3) := by decide +kernel
theorem dX7_led_9 : decode cX7_led 9 = .ok (.getfield 110, 3) := by decide +kernel
theorem dX7_led_12 : decode cX7_led 12 = .ok (.if_icmp .ge 32, 3) := by decide +kernel
theorem dX7_led_15 : decode cX7_led 15 = .ok (.aload_n 0, 1) := by decide +kernel
theorem dX7_led_16 : decode cX7_led 16 = .ok (.getfield 19, 3) := by decide +kernel
theorem dX7_led_19 : decode cX7_led 19 = .ok (.getfield 126, 3) := by decide +kernel
theorem dX7_led_22 : decode cX7_led 22 = .ok (.iload_n 3, 1) := by decide +kernel
theorem dX7_led_23 : decode cX7_led 23 = .ok (.iaload, 1) := by decide +kernel
theorem dX7_led_24 : decode cX7_led 24 = .ok (.iload_n 3, 1) := by decide +kernel
theorem dX7_led_25 : decode cX7_led 25 = .ok (.if_icmp .eq 13, 3) := by decide +kernel
theorem dX7_led_28 : decode cX7_led 28 = .ok (.iload_n 2, 1) := by decide +kernel
theorem dX7_led_29 : decode cX7_led 29 = .ok (.iload_n 1, 1) := by decide +kernel
theorem dX7_led_30 : decode cX7_led 30 = .ok (.if_icmp .ne 5, 3) := by decide +kernel
theorem dX7_led_33 : decode cX7_led 33 = .ok (.iload_n 3, 1) := by decide +kernel
theorem dX7_led_34 : decode cX7_led 34 = .ok (.ireturn, 1) := by decide +kernel
theorem dX7_led_35 : decode cX7_led 35 = .ok (.iinc 2 1, 3) := by decide +kernel
theorem dX7_led_38 : decode cX7_led 38 = .ok (.iinc 3 1, 3) := by decide +kernel
theorem dX7_led_41 : decode cX7_led 41 = .ok (.goto (-37), 3) := by decide +kernel
theorem dX7_led_44 : decode cX7_led 44 = .ok (.new 348, 3) := by decide +kernel
theorem dX7_led_47 : decode cX7_led 47 = .ok (.dup, 1) := by decide +kernel
theorem dX7_led_48 : decode cX7_led 48 = .ok (.ldc_w 350, 3) := by decide +kernel
theorem dX7_led_51 : decode cX7_led 51 = .ok (.invokespecial 352, 3) := by decide +kernel
theorem dX7_led_54 : decode cX7_led 54 = .ok (.athrow, 1) := by decide +kernel
theorem dX7_size_0 : decode cX7_size 0 = .ok (.iload_n 1, 1) := by decide +kernel
theorem dX7_size_1 : decode cX7_size 1 = .ok (.tableswitch 63 10 13 #[31, 39, 47, 55], 31) := by decide +kernel
theorem dX7_size_32 : decode cX7_size 32 = .ok (.aload_n 0, 1) := by decide +kernel
theorem dX7_size_33 : decode cX7_size 33 = .ok (.getfield 19, 3) := by decide +kernel
theorem dX7_size_36 : decode cX7_size 36 = .ok (.getfield 147, 3) := by decide +kernel
theorem dX7_size_39 : decode cX7_size 39 = .ok (.ireturn, 1) := by decide +kernel
theorem dX7_size_40 : decode cX7_size 40 = .ok (.aload_n 0, 1) := by decide +kernel
theorem dX7_size_41 : decode cX7_size 41 = .ok (.getfield 36, 3) := by decide +kernel
theorem dX7_size_44 : decode cX7_size 44 = .ok (.getfield 355, 3) := by decide +kernel
theorem dX7_size_47 : decode cX7_size 47 = .ok (.ireturn, 1) := by decide +kernel
theorem dX7_size_48 : decode cX7_size 48 = .ok (.aload_n 0, 1) := by decide +kernel
theorem dX7_size_49 : decode cX7_size 49 = .ok (.getfield 36, 3) := by decide +kernel
theorem dX7_size_52 : decode cX7_size 52 = .ok (.getfield 337, 3) := by decide +kernel
theorem dX7_size_55 : decode cX7_size 55 = .ok (.ireturn, 1) := by decide +kernel
theorem dX7_size_56 : decode cX7_size 56 = .ok (.aload_n 0, 1) := by decide +kernel
theorem dX7_size_57 : decode cX7_size 57 = .ok (.getfield 12, 3) := by decide +kernel
theorem dX7_size_60 : decode cX7_size 60 = .ok (.getfield 71, 3) := by decide +kernel
theorem dX7_size_63 : decode cX7_size 63 = .ok (.ireturn, 1) := by decide +kernel
theorem dX7_size_64 : decode cX7_size 64 = .ok (.aload_n 0, 1) := by decide +kernel
theorem dX7_size_65 : decode cX7_size 65 = .ok (.getfield 57, 3) := by decide +kernel
theorem dX7_size_68 : decode cX7_size 68 = .ok (.iload_n 1, 1) := by decide +kernel
theorem dX7_size_69 : decode cX7_size 69 = .ok (.invokevirtual 358, 3) := by decide +kernel
theorem dX7_size_72 : decode cX7_size 72 = .ok (.ireturn, 1) := by decide +kernel
theorem dX7_trouble_0 : decode cX7_trouble 0 = .ok (.aload_n 0, 1) := by decide +kernel
theorem dX7_trouble_1 : decode cX7_trouble 1 = .ok (.getfield 61, 3) := by decide +kernel
theorem dX7_trouble_4 : decode cX7_trouble 4 = .ok (.ireturn, 1) := by decide +kernel
theorem dX7_answered_0 : decode cX7_answered 0 = .ok (.aload_n 0, 1) := by decide +kernel
theorem dX7_answered_1 : decode cX7_answered 1 = .ok (.iconst 0, 1) := by decide +kernel
theorem dX7_answered_2 : decode cX7_answered 2 = .ok (.putfield 61, 3) := by decide +kernel
theorem dX7_answered_5 : decode cX7_answered 5 = .ok (.iload_n 1, 1) := by decide +kernel
theorem dX7_answered_6 : decode cX7_answered 6 = .ok (.ireturn, 1) := by decide +kernel
theorem dX7_refused_0 : decode cX7_refused 0 = .ok (.aload_n 0, 1) := by decide +kernel
theorem dX7_refused_1 : decode cX7_refused 1 = .ok (.iload_n 1, 1) := by decide +kernel
theorem dX7_refused_2 : decode cX7_refused 2 = .ok (.putfield 61, 3) := by decide +kernel
theorem dX7_refused_5 : decode cX7_refused 5 = .ok (.iconst (-1), 1) := by decide +kernel
theorem dX7_refused_6 : decode cX7_refused 6 = .ok (.ireturn, 1) := by decide +kernel
theorem dX7_within_0 : decode cX7_within 0 = .ok (.iload_n 0, 1) := by decide +kernel
theorem dX7_within_1 : decode cX7_within 1 = .ok (.iload_n 1, 1) := by decide +kernel
theorem dX7_within_2 : decode cX7_within 2 = .ok (.if_icmp .lt 12, 3) := by decide +kernel
theorem dX7_within_5 : decode cX7_within 5 = .ok (.iload_n 0, 1) := by decide +kernel
theorem dX7_within_6 : decode cX7_within 6 = .ok (.iload_n 2, 1) := by decide +kernel
theorem dX7_within_7 : decode cX7_within 7 = .ok (.if_icmp .gt 7, 3) := by decide +kernel
theorem dX7_within_10 : decode cX7_within 10 = .ok (.iconst 1, 1) := by decide +kernel
theorem dX7_within_11 : decode cX7_within 11 = .ok (.goto 4, 3) := by decide +kernel
theorem dX7_within_14 : decode cX7_within 14 = .ok (.iconst 0, 1) := by decide +kernel
theorem dX7_within_15 : decode cX7_within 15 = .ok (.ireturn, 1) := by decide +kernel
theorem dX7_hasBit_0 : decode cX7_hasBit 0 = .ok (.iload_n 0, 1) := by decide +kernel
theorem dX7_hasBit_1 : decode cX7_hasBit 1 = .ok (.iload_n 1, 1) := by decide +kernel
theorem dX7_hasBit_2 : decode cX7_hasBit 2 = .ok (.ishr, 1) := by decide +kernel
theorem dX7_hasBit_3 : decode cX7_hasBit 3 = .ok (.iconst 1, 1) := by decide +kernel
theorem dX7_hasBit_4 : decode cX7_hasBit 4 = .ok (.iand, 1) := by decide +kernel
theorem dX7_hasBit_5 : decode cX7_hasBit 5 = .ok (.iconst 1, 1) := by decide +kernel
theorem dX7_hasBit_6 : decode cX7_hasBit 6 = .ok (.if_icmp .ne 7, 3) := by decide +kernel
theorem dX7_hasBit_9 : decode cX7_hasBit 9 = .ok (.iconst 1, 1) := by decide +kernel
theorem dX7_hasBit_10 : decode cX7_hasBit 10 = .ok (.goto 4, 3) := by decide +kernel
theorem dX7_hasBit_13 : decode cX7_hasBit 13 = .ok (.iconst 0, 1) := by decide +kernel
theorem dX7_hasBit_14 : decode cX7_hasBit 14 = .ok (.ireturn, 1) := by decide +kernel
theorem dX7_hasGallery_0 : decode cX7_hasGallery 0 = .ok (.aload_n 0, 1) := by decide +kernel
theorem dX7_hasGallery_1 : decode cX7_hasGallery 1 = .ok (.getfield 57, 3) := by decide +kernel
theorem dX7_hasGallery_4 : decode cX7_hasGallery 4 = .ok (.getfield 110, 3) := by decide +kernel
theorem dX7_hasGallery_7 : decode cX7_hasGallery 7 = .ok (.ifCond .le 7, 3) := by decide +kernel
theorem dX7_hasGallery_10 : decode cX7_hasGallery 10 = .ok (.iconst 1, 1) := by decide +kernel
theorem dX7_hasGallery_11 : decode cX7_hasGallery 11 = .ok (.goto 4, 3) := by decide +kernel
theorem dX7_hasGallery_14 : decode cX7_hasGallery 14 = .ok (.iconst 0, 1) := by decide +kernel
theorem dX7_hasGallery_15 : decode cX7_hasGallery 15 = .ok (.ireturn, 1) := by decide +kernel
theorem dX7_isFigure_0 : decode cX7_isFigure 0 = .ok (.iload_n 1, 1) := by decide +kernel
theorem dX7_isFigure_1 : decode cX7_isFigure 1 = .ok (.iconst 0, 1) := by decide +kernel
theorem dX7_isFigure_2 : decode cX7_isFigure 2 = .ok (.aload_n 0, 1) := by decide +kernel
theorem dX7_isFigure_3 : decode cX7_isFigure 3 = .ok (.getfield 57, 3) := by decide +kernel
theorem dX7_isFigure_6 : decode cX7_isFigure 6 = .ok (.getfield 110, 3) := by decide +kernel
theorem dX7_isFigure_9 : decode cX7_isFigure 9 = .ok (.iconst 1, 1) := by decide +kernel
theorem dX7_isFigure_10 : decode cX7_isFigure 10 = .ok (.isub, 1) := by decide +kernel
theorem dX7_isFigure_11 : decode cX7_isFigure 11 = .ok (.invokestatic 78, 3) := by decide +kernel
theorem dX7_isFigure_14 : decode cX7_isFigure 14 = .ok (.ireturn, 1) := by decide +kernel
theorem dX7_isPlace_0 : decode cX7_isPlace 0 = .ok (.iload_n 1, 1) := by decide +kernel
theorem dX7_isPlace_1 : decode cX7_isPlace 1 = .ok (.iconst 0, 1) := by decide +kernel
theorem dX7_isPlace_2 : decode cX7_isPlace 2 = .ok (.aload_n 0, 1) := by decide +kernel
theorem dX7_isPlace_3 : decode cX7_isPlace 3 = .ok (.getfield 57, 3) := by decide +kernel
theorem dX7_isPlace_6 : decode cX7_isPlace 6 = .ok (.getfield 110, 3) := by decide +kernel
theorem dX7_isPlace_9 : decode cX7_isPlace 9 = .ok (.iconst 1, 1) := by decide +kernel
theorem dX7_isPlace_10 : decode cX7_isPlace 10 = .ok (.isub, 1) := by decide +kernel
theorem dX7_isPlace_11 : decode cX7_isPlace 11 = .ok (.invokestatic 78, 3) := by decide +kernel
theorem dX7_isPlace_14 : decode cX7_isPlace 14 = .ok (.ireturn, 1) := by decide +kernel
theorem dX7_isWatcher_0 : decode cX7_isWatcher 0 = .ok (.iload_n 1, 1) := by decide +kernel
theorem dX7_isWatcher_1 : decode cX7_isWatcher 1 = .ok (.iconst 0, 1) := by decide +kernel
theorem dX7_isWatcher_2 : decode cX7_isWatcher 2 = .ok (.aload_n 0, 1) := by decide +kernel
theorem dX7_isWatcher_3 : decode cX7_isWatcher 3 = .ok (.getfield 57, 3) := by decide +kernel
theorem dX7_isWatcher_6 : decode cX7_isWatcher 6 = .ok (.getfield 138, 3) := by decide +kernel
theorem dX7_isWatcher_9 : decode cX7_isWatcher 9 = .ok (.getfield 361, 3) := by decide +kernel
theorem dX7_isWatcher_12 : decode cX7_isWatcher 12 = .ok (.iconst 1, 1) := by decide +kernel
theorem dX7_isWatcher_13 : decode cX7_isWatcher 13 = .ok (.isub, 1) := by decide +kernel
theorem dX7_isWatcher_14 : decode cX7_isWatcher 14 = .ok (.invokestatic 78, 3) := by decide +kernel
theorem dX7_isWatcher_17 : decode cX7_isWatcher 17 = .ok (.ireturn, 1) := by decide +kernel
theorem dX7_troubleOfNumber_0 : decode cX7_troubleOfNumber 0 = .ok (.aload_n 0, 1) := by decide +kernel
theorem dX7_troubleOfNumber_1 : decode cX7_troubleOfNumber 1 = .ok (.invokevirtual 154, 3) := by decide +kernel
theorem dX7_troubleOfNumber_4 : decode cX7_troubleOfNumber 4 = .ok (.ifCond .ne 5, 3) := by decide +kernel
theorem dX7_troubleOfNumber_7 : decode cX7_troubleOfNumber 7 = .ok (.iconst 1, 1) := by decide +kernel
theorem dX7_troubleOfNumber_8 : decode cX7_troubleOfNumber 8 = .ok (.ireturn, 1) := by decide +kernel
theorem dX7_troubleOfNumber_9 : decode cX7_troubleOfNumber 9 = .ok (.iload_n 1, 1) := by decide +kernel
theorem dX7_troubleOfNumber_10 : decode cX7_troubleOfNumber 10 = .ok (.iload_n 2, 1) := by decide +kernel
theorem dX7_troubleOfNumber_11 : decode cX7_troubleOfNumber 11 = .ok (.iload_n 3, 1) := by decide +kernel
theorem dX7_troubleOfNumber_12 : decode cX7_troubleOfNumber 12 = .ok (.invokestatic 78, 3) := by decide +kernel
theorem dX7_troubleOfNumber_15 : decode cX7_troubleOfNumber 15 = .ok (.ifCond .eq 7, 3) := by decide +kernel
theorem dX7_troubleOfNumber_18 : decode cX7_troubleOfNumber 18 = .ok (.iconst 0, 1) := by decide +kernel
theorem dX7_troubleOfNumber_19 : decode cX7_troubleOfNumber 19 = .ok (.goto 4, 3) := by decide +kernel
theorem dX7_troubleOfNumber_22 : decode cX7_troubleOfNumber 22 = .ok (.iconst 2, 1) := by decide +kernel
theorem dX7_troubleOfNumber_23 : decode cX7_troubleOfNumber 23 = .ok (.ireturn, 1) := by decide +kernel
theorem dX7_troubleOfFigureWithin_0 : decode cX7_troubleOfFigureWithin 0 = .ok (.aload_n 0, 1) := by decide +kernel
theorem dX7_troubleOfFigureWithin_1 : decode cX7_troubleOfFigureWithin 1 = .ok (.iload_n 1, 1) := by decide +kernel
theorem dX7_troubleOfFigureWithin_2 : decode cX7_troubleOfFigureWithin 2 = .ok (.invokevirtual 116, 3) := by decide +kernel
theorem dX7_troubleOfFigureWithin_5 : decode cX7_troubleOfFigureWithin 5 = .ok (.ifCond .ne 5, 3) := by decide +kernel
theorem dX7_troubleOfFigureWithin_8 : decode cX7_troubleOfFigureWithin 8 = .ok (.iconst 1, 1) := by decide +kernel
theorem dX7_troubleOfFigureWithin_9 : decode cX7_troubleOfFigureWithin 9 = .ok (.ireturn, 1) := by decide +kernel
theorem dX7_troubleOfFigureWithin_10 : decode cX7_troubleOfFigureWithin 10 = .ok (.iload_n 2, 1) := by decide +kernel
theorem dX7_troubleOfFigureWithin_11 : decode cX7_troubleOfFigureWithin 11 = .ok (.iconst 0, 1) := by decide +kernel
theorem dX7_troubleOfFigureWithin_12 : decode cX7_troubleOfFigureWithin 12 = .ok (.iload_n 3, 1) := by decide +kernel
theorem dX7_troubleOfFigureWithin_13 : decode cX7_troubleOfFigureWithin 13 = .ok (.invokestatic 78, 3) := by decide +kernel
theorem dX7_troubleOfFigureWithin_16 : decode cX7_troubleOfFigureWithin 16 = .ok (.ifCond .eq 7, 3) := by decide +kernel
theorem dX7_troubleOfFigureWithin_19 : decode cX7_troubleOfFigureWithin 19 = .ok (.iconst 0, 1) := by decide +kernel
theorem dX7_troubleOfFigureWithin_20 : decode cX7_troubleOfFigureWithin 20 = .ok (.goto 4, 3) := by decide +kernel
theorem dX7_troubleOfFigureWithin_23 : decode cX7_troubleOfFigureWithin 23 = .ok (.iconst 2, 1) := by decide +kernel
theorem dX7_troubleOfFigureWithin_24 : decode cX7_troubleOfFigureWithin 24 = .ok (.ireturn, 1) := by decide +kernel
theorem dX7_turnFromNow_0 : decode cX7_turnFromNow 0 = .ok (.aload_n 0, 1) := by decide +kernel
theorem dX7_turnFromNow_1 : decode cX7_turnFromNow 1 = .ok (.getfield 57, 3) := by decide +kernel
theorem dX7_turnFromNow_4 : decode cX7_turnFromNow 4 = .ok (.getfield 110, 3) := by decide +kernel
theorem dX7_turnFromNow_7 : decode cX7_turnFromNow 7 = .ok (.aload_n 0, 1) := by decide +kernel
theorem dX7_turnFromNow_8 : decode cX7_turnFromNow 8 = .ok (.getfield 57, 3) := by decide +kernel
theorem dX7_turnFromNow_11 : decode cX7_turnFromNow 11 = .ok (.getfield 284, 3) := by decide +kernel
theorem dX7_turnFromNow_14 : decode cX7_turnFromNow 14 = .ok (.aload_n 0, 1) := by decide +kernel
theorem dX7_turnFromNow_15 : decode cX7_turnFromNow 15 = .ok (.getfield 57, 3) := by decide +kernel
theorem dX7_turnFromNow_18 : decode cX7_turnFromNow 18 = .ok (.getfield 287, 3) := by decide +kernel
theorem dX7_turnFromNow_21 : decode cX7_turnFromNow 21 = .ok (.aload_n 0, 1) := by decide +kernel
theorem dX7_turnFromNow_22 : decode cX7_turnFromNow 22 = .ok (.getfield 19, 3) := by decide +kernel
theorem dX7_turnFromNow_25 : decode cX7_turnFromNow 25 = .ok (.getfield 158, 3) := by decide +kernel
theorem dX7_turnFromNow_28 : decode cX7_turnFromNow 28 = .ok (.iload_n 1, 1) := by decide +kernel
theorem dX7_turnFromNow_29 : decode cX7_turnFromNow 29 = .ok (.invokestatic 364, 3) := by decide +kernel
theorem dX7_turnFromNow_32 : decode cX7_turnFromNow 32 = .ok (.ireturn, 1) := by decide +kernel
theorem dX7_roundLength_0 : decode cX7_roundLength 0 = .ok (.aload_n 0, 1) := by decide +kernel
theorem dX7_roundLength_1 : decode cX7_roundLength 1 = .ok (.aload_n 0, 1) := by decide +kernel
theorem dX7_roundLength_2 : decode cX7_roundLength 2 = .ok (.getfield 57, 3) := by decide +kernel
theorem dX7_roundLength_5 : decode cX7_roundLength 5 = .ok (.getfield 110, 3) := by decide +kernel
theorem dX7_roundLength_8 : decode cX7_roundLength 8 = .ok (.invokevirtual 171, 3) := by decide +kernel
theorem dX7_roundLength_11 : decode cX7_roundLength 11 = .ok (.istore_n 1, 1) := by decide +kernel
theorem dX7_roundLength_12 : decode cX7_roundLength 12 = .ok (.aload_n 0, 1) := by decide +kernel
theorem dX7_roundLength_13 : decode cX7_roundLength 13 = .ok (.getfield 57, 3) := by decide +kernel
theorem dX7_roundLength_16 : decode cX7_roundLength 16 = .ok (.iload_n 1, 1) := by decide +kernel
theorem dX7_roundLength_17 : decode cX7_roundLength 17 = .ok (.invokevirtual 174, 3) := by decide +kernel
theorem dX7_roundLength_20 : decode cX7_roundLength 20 = .ok (.istore_n 2, 1) := by decide +kernel
theorem dX7_roundLength_21 : decode cX7_roundLength 21 = .ok (.iconst 1, 1) := by decide +kernel
theorem dX7_roundLength_22 : decode cX7_roundLength 22 = .ok (.istore_n 3, 1) := by decide +kernel
theorem dX7_roundLength_23 : decode cX7_roundLength 23 = .ok (.iload_n 3, 1) := by decide +kernel
theorem dX7_roundLength_24 : decode cX7_roundLength 24 = .ok (.aload_n 0, 1) := by decide +kernel
theorem dX7_roundLength_25 : decode cX7_roundLength 25 = .ok (.getfield 57, 3) := by decide +kernel
theorem dX7_roundLength_28 : decode cX7_roundLength 28 = .ok (.getfield 110, 3) := by decide +kernel
theorem dX7_roundLength_31 : decode cX7_roundLength 31 = .ok (.if_icmp .ge 23, 3) := by decide +kernel
theorem dX7_roundLength_34 : decode cX7_roundLength 34 = .ok (.iload_n 2, 1) := by decide +kernel
theorem dX7_roundLength_35 : decode cX7_roundLength 35 = .ok (.iload_n 1, 1) := by decide +kernel
theorem dX7_roundLength_36 : decode cX7_roundLength 36 = .ok (.if_icmp .eq 18, 3) := by decide +kernel
theorem dX7_roundLength_39 : decode cX7_roundLength 39 = .ok (.aload_n 0, 1) := by decide +kernel
theorem dX7_roundLength_40 : decode cX7_roundLength 40 = .ok (.getfield 57, 3) := by decide +kernel
theorem dX7_roundLength_43 : decode cX7_roundLength 43 = .ok (.iload_n 2, 1) := by decide +kernel
theorem dX7_roundLength_44 : decode cX7_roundLength 44 = .ok (.invokevirtual 174, 3) := by decide +kernel
theorem dX7_roundLength_47 : decode cX7_roundLength 47 = .ok (.istore_n 2, 1) := by decide +kernel
theorem dX7_roundLength_48 : decode cX7_roundLength 48 = .ok (.iinc 3 1, 3) := by decide +kernel
theorem dX7_roundLength_51 : decode cX7_roundLength 51 = .ok (.goto (-28), 3) := by decide +kernel
theorem dX7_roundLength_54 : decode cX7_roundLength 54 = .ok (.iload_n 3, 1) := by decide +kernel
theorem dX7_roundLength_55 : decode cX7_roundLength 55 = .ok (.ireturn, 1) := by decide +kernel
theorem dX7_laterTurn_0 : decode cX7_laterTurn 0 = .ok (.iload_n 0, 1) := by decide +kernel
theorem dX7_laterTurn_1 : decode cX7_laterTurn 1 = .ok (.ifCond .gt 5, 3) := by decide +kernel
theorem dX7_laterTurn_4 : decode cX7_laterTurn 4 = .ok (.iconst 0, 1) := by decide +kernel
theorem dX7_laterTurn_5 : decode cX7_laterTurn 5 = .ok (.ireturn, 1) := by decide +kernel
theorem dX7_laterTurn_6 : decode cX7_laterTurn 6 = .ok (.iload_n 1, 1) := by decide +kernel
theorem dX7_laterTurn_7 : decode cX7_laterTurn 7 = .ok (.istore 5, 2) := by decide +kernel
theorem dX7_laterTurn_9 : decode cX7_laterTurn 9 = .ok (.iload_n 2, 1) := by decide +kernel
theorem dX7_laterTurn_10 : decode cX7_laterTurn 10 = .ok (.istore 6, 2) := by decide +kernel
theorem dX7_laterTurn_12 : decode cX7_laterTurn 12 = .ok (.iload_n 3, 1) := by decide +kernel
theorem dX7_laterTurn_13 : decode cX7_laterTurn 13 = .ok (.istore 7, 2) := by decide +kernel
theorem dX7_laterTurn_15 : decode cX7_laterTurn 15 = .ok (.iload 4, 2) := by decide +kernel
theorem dX7_laterTurn_17 : decode cX7_laterTurn 17 = .ok (.istore 8, 2) := by decide +kernel
theorem dX7_laterTurn_19 : decode cX7_laterTurn 19 = .ok (.iload 8, 2) := by decide +kernel
theorem dX7_laterTurn_21 : decode cX7_laterTurn 21 = .ok (.ifCond .le 53, 3) := by decide +kernel
theorem dX7_laterTurn_24 : decode cX7_laterTurn 24 = .ok (.iload 8, 2) := by decide +kernel
theorem dX7_laterTurn_26 : decode cX7_laterTurn 26 = .ok (.iconst 1, 1) := by decide +kernel
theorem dX7_laterTurn_27 : decode cX7_laterTurn 27 = .ok (.iand, 1) := by decide +kernel
theorem dX7_laterTurn_28 : decode cX7_laterTurn 28 = .ok (.iconst 1, 1) := by decide +kernel
theorem dX7_laterTurn_29 : decode cX7_laterTurn 29 = .ok (.if_icmp .ne 15, 3) := by decide +kernel
theorem dX7_laterTurn_32 : decode cX7_laterTurn 32 = .ok (.iload 7, 2) := by decide +kernel
theorem dX7_laterTurn_34 : decode cX7_laterTurn 34 = .ok (.iload 5, 2) := by decide +kernel
theorem dX7_laterTurn_36 : decode cX7_laterTurn 36 = .ok (.imul, 1) := by decide +kernel
theorem dX7_laterTurn_37 : decode cX7_laterTurn 37 = .ok (.iload 6, 2) := by decide +kernel
theorem dX7_laterTurn_39 : decode cX7_laterTurn 39 = .ok (.iadd, 1) := by decide +kernel
theorem dX7_laterTurn_40 : decode cX7_laterTurn 40 = .ok (.iload_n 0, 1) := by decide +kernel
theorem dX7_laterTurn_41 : decode cX7_laterTurn 41 = .ok (.irem, 1) := by decide +kernel
theorem dX7_laterTurn_42 : decode cX7_laterTurn 42 = .ok (.istore 7, 2) := by decide +kernel
theorem dX7_laterTurn_44 : decode cX7_laterTurn 44 = .ok (.iload 6, 2) := by decide +kernel
theorem dX7_laterTurn_46 : decode cX7_laterTurn 46 = .ok (.iload 5, 2) := by decide +kernel
theorem dX7_laterTurn_48 : decode cX7_laterTurn 48 = .ok (.imul, 1) := by decide +kernel
theorem dX7_laterTurn_49 : decode cX7_laterTurn 49 = .ok (.iload 6, 2) := by decide +kernel
theorem dX7_laterTurn_51 : decode cX7_laterTurn 51 = .ok (.iadd, 1) := by decide +kernel
theorem dX7_laterTurn_52 : decode cX7_laterTurn 52 = .ok (.iload_n 0, 1) := by decide +kernel
theorem dX7_laterTurn_53 : decode cX7_laterTurn 53 = .ok (.irem, 1) := by decide +kernel
theorem dX7_laterTurn_54 : decode cX7_laterTurn 54 = .ok (.istore 6, 2) := by decide +kernel
theorem dX7_laterTurn_56 : decode cX7_laterTurn 56 = .ok (.iload 5, 2) := by decide +kernel
theorem dX7_laterTurn_58 : decode cX7_laterTurn 58 = .ok (.iload 5, 2) := by decide +kernel
theorem dX7_laterTurn_60 : decode cX7_laterTurn 60 = .ok (.imul, 1) := by decide +kernel
theorem dX7_laterTurn_61 : decode cX7_laterTurn 61 = .ok (.iload_n 0, 1) := by decide +kernel
theorem dX7_laterTurn_62 : decode cX7_laterTurn 62 = .ok (.irem, 1) := by decide +kernel
theorem dX7_laterTurn_63 : decode cX7_laterTurn 63 = .ok (.istore 5, 2) := by decide +kernel
theorem dX7_laterTurn_65 : decode cX7_laterTurn 65 = .ok (.iload 8, 2) := by decide +kernel
theorem dX7_laterTurn_67 : decode cX7_laterTurn 67 = .ok (.iconst 1, 1) := by decide +kernel
theorem dX7_laterTurn_68 : decode cX7_laterTurn 68 = .ok (.ishr, 1) := by decide +kernel
theorem dX7_laterTurn_69 : decode cX7_laterTurn 69 = .ok (.istore 8, 2) := by decide +kernel
theorem dX7_laterTurn_71 : decode cX7_laterTurn 71 = .ok (.goto (-52), 3) := by decide +kernel
theorem dX7_laterTurn_74 : decode cX7_laterTurn 74 = .ok (.iload 7, 2) := by decide +kernel
theorem dX7_laterTurn_76 : decode cX7_laterTurn 76 = .ok (.ireturn, 1) := by decide +kernel
theorem dX7_runAhead_0 : decode cX7_runAhead 0 = .ok (.aload_n 0, 1) := by decide +kernel
theorem dX7_runAhead_1 : decode cX7_runAhead 1 = .ok (.getfield 23, 3) := by decide +kernel
theorem dX7_runAhead_4 : decode cX7_runAhead 4 = .ok (.aload_n 0, 1) := by decide +kernel
theorem dX7_runAhead_5 : decode cX7_runAhead 5 = .ok (.getfield 19, 3) := by decide +kernel
theorem dX7_runAhead_8 : decode cX7_runAhead 8 = .ok (.invokevirtual 194, 3) := by decide +kernel
theorem dX7_runAhead_11 : decode cX7_runAhead 11 = .ok (.aload_n 0, 1) := by decide +kernel
theorem dX7_runAhead_12 : decode cX7_runAhead 12 = .ok (.iload_n 1, 1) := by decide +kernel
theorem dX7_runAhead_13 : decode cX7_runAhead 13 = .ok (.invokevirtual 202, 3) := by decide +kernel
theorem dX7_runAhead_16 : decode cX7_runAhead 16 = .ok (.return_, 1) := by decide +kernel
theorem dX7_passAhead_0 : decode cX7_passAhead 0 = .ok (.iconst 0, 1) := by decide +kernel
theorem dX7_passAhead_1 : decode cX7_passAhead 1 = .ok (.istore_n 2, 1) := by decide +kernel
theorem dX7_passAhead_2 : decode cX7_passAhead 2 = .ok (.iload_n 2, 1) := by decide +kernel
theorem dX7_passAhead_3 : decode cX7_passAhead 3 = .ok (.iload_n 1, 1) := by decide +kernel
theorem dX7_passAhead_4 : decode cX7_passAhead 4 = .ok (.if_icmp .ge 27, 3) := by decide +kernel
theorem dX7_passAhead_7 : decode cX7_passAhead 7 = .ok (.aload_n 0, 1) := by decide +kernel
theorem dX7_passAhead_8 : decode cX7_passAhead 8 = .ok (.getfield 57, 3) := by decide +kernel
theorem dX7_passAhead_11 : decode cX7_passAhead 11 = .ok (.aload_n 0, 1) := by decide +kernel
theorem dX7_passAhead_12 : decode cX7_passAhead 12 = .ok (.getfield 23, 3) := by decide +kernel
theorem dX7_passAhead_15 : decode cX7_passAhead 15 = .ok (.aload_n 0, 1) := by decide +kernel
theorem dX7_passAhead_16 : decode cX7_passAhead 16 = .ok (.getfield 57, 3) := by decide +kernel
theorem dX7_passAhead_19 : decode cX7_passAhead 19 = .ok (.getfield 138, 3) := by decide +kernel
theorem dX7_passAhead_22 : decode cX7_passAhead 22 = .ok (.invokevirtual 205, 3) := by decide +kernel
theorem dX7_passAhead_25 : decode cX7_passAhead 25 = .ok (.iinc 2 1, 3) := by decide +kernel
theorem dX7_passAhead_28 : decode cX7_passAhead 28 = .ok (.goto (-26), 3) := by decide +kernel
theorem dX7_passAhead_31 : decode cX7_passAhead 31 = .ok (.return_, 1) := by decide +kernel
theorem dX7_runAheadOnTrial_0 : decode cX7_runAheadOnTrial 0 = .ok (.aload_n 0, 1) := by decide +kernel
theorem dX7_runAheadOnTrial_1 : decode cX7_runAheadOnTrial 1 = .ok (.getfield 23, 3) := by decide +kernel
theorem dX7_runAheadOnTrial_4 : decode cX7_runAheadOnTrial 4 = .ok (.aload_n 0, 1) := by decide +kernel
theorem dX7_runAheadOnTrial_5 : decode cX7_runAheadOnTrial 5 = .ok (.getfield 19, 3) := by decide +kernel
theorem dX7_runAheadOnTrial_8 : decode cX7_runAheadOnTrial 8 = .ok (.invokevirtual 194, 3) := by decide +kernel
theorem dX7_runAheadOnTrial_11 : decode cX7_runAheadOnTrial 11 = .ok (.iconst 0, 1) := by decide +kernel
theorem dX7_runAheadOnTrial_12 : decode cX7_runAheadOnTrial 12 = .ok (.istore_n 2, 1) := by decide +kernel
theorem dX7_runAheadOnTrial_13 : decode cX7_runAheadOnTrial 13 = .ok (.iload_n 2, 1) := by decide +kernel
theorem dX7_runAheadOnTrial_14 : decode cX7_runAheadOnTrial 14 = .ok (.iload_n 1, 1) := by decide +kernel
theorem dX7_runAheadOnTrial_15 : decode cX7_runAheadOnTrial 15 = .ok (.if_icmp .ge 24, 3) := by decide +kernel
theorem dX7_runAheadOnTrial_18 : decode cX7_runAheadOnTrial 18 = .ok (.aload_n 0, 1) := by decide +kernel
theorem dX7_runAheadOnTrial_19 : decode cX7_runAheadOnTrial 19 = .ok (.getfield 57, 3) := by decide +kernel
theorem dX7_runAheadOnTrial_22 : decode cX7_runAheadOnTrial 22 = .ok (.aload_n 0, 1) := by decide +kernel
theorem dX7_runAheadOnTrial_23 : decode cX7_runAheadOnTrial 23 = .ok (.getfield 23, 3) := by decide +kernel
theorem dX7_runAheadOnTrial_26 : decode cX7_runAheadOnTrial 26 = .ok (.aload_n 0, 1) := by decide +kernel
theorem dX7_runAheadOnTrial_27 : decode cX7_runAheadOnTrial 27 = .ok (.getfield 29, 3) := by decide +kernel
theorem dX7_runAheadOnTrial_30 : decode cX7_runAheadOnTrial 30 = .ok (.invokevirtual 205, 3) := by decide +kernel
theorem dX7_runAheadOnTrial_33 : decode cX7_runAheadOnTrial 33 = .ok (.iinc 2 1, 3) := by decide +kernel
theorem dX7_runAheadOnTrial_36 : decode cX7_runAheadOnTrial 36 = .ok (.goto (-23), 3) := by decide +kernel
theorem dX7_runAheadOnTrial_39 : decode cX7_runAheadOnTrial 39 = .ok (.return_, 1) := by decide +kernel
theorem dX7_placeOfActing_0 : decode cX7_placeOfActing 0 = .ok (.aload_n 0, 1) := by decide +kernel
theorem dX7_placeOfActing_1 : decode cX7_placeOfActing 1 = .ok (.getfield 23, 3) := by decide +kernel
theorem dX7_placeOfActing_4 : decode cX7_placeOfActing 4 = .ok (.getfield 158, 3) := by decide +kernel
theorem dX7_placeOfActing_7 : decode cX7_placeOfActing 7 = .ok (.istore_n 1, 1) := by decide +kernel
theorem dX7_placeOfActing_8 : decode cX7_placeOfActing 8 = .ok (.aload_n 0, 1) := by decide +kernel
theorem dX7_placeOfActing_9 : decode cX7_placeOfActing 9 = .ok (.getfield 57, 3) := by decide +kernel
theorem dX7_placeOfActing_12 : decode cX7_placeOfActing 12 = .ok (.aload_n 0, 1) := by decide +kernel
theorem dX7_placeOfActing_13 : decode cX7_placeOfActing 13 = .ok (.getfield 23, 3) := by decide +kernel
theorem dX7_placeOfActing_16 : decode cX7_placeOfActing 16 = .ok (.aload_n 0, 1) := by decide +kernel
theorem dX7_placeOfActing_17 : decode cX7_placeOfActing 17 = .ok (.getfield 57, 3) := by decide +kernel
theorem dX7_placeOfActing_20 : decode cX7_placeOfActing 20 = .ok (.getfield 138, 3) := by decide +kernel
theorem dX7_placeOfActing_23 : decode cX7_placeOfActing 23 = .ok (.invokevirtual 205, 3) := by decide +kernel
theorem dX7_placeOfActing_26 : decode cX7_placeOfActing 26 = .ok (.aload_n 0, 1) := by decide +kernel
theorem dX7_placeOfActing_27 : decode cX7_placeOfActing 27 = .ok (.getfield 23, 3) := by decide +kernel
theorem dX7_placeOfActing_30 : decode cX7_placeOfActing 30 = .ok (.iload_n 1, 1) := by decide +kernel
theorem dX7_placeOfActing_31 : decode cX7_placeOfActing 31 = .ok (.invokevirtual 129, 3) := by decide +kernel
theorem dX7_placeOfActing_34 : decode cX7_placeOfActing 34 = .ok (.ifCond .eq 7, 3) := by decide +kernel
theorem dX7_placeOfActing_37 : decode cX7_placeOfActing 37 = .ok (.iconst (-1), 1) := by decide +kernel
theorem dX7_placeOfActing_38 : decode cX7_placeOfActing 38 = .ok (.goto 12, 3) := by decide +kernel
theorem dX7_placeOfActing_41 : decode cX7_placeOfActing 41 = .ok (.aload_n 0, 1) := by decide +kernel
theorem dX7_placeOfActing_42 : decode cX7_placeOfActing 42 = .ok (.getfield 23, 3) := by decide +kernel
theorem dX7_placeOfActing_45 : decode cX7_placeOfActing 45 = .ok (.getfield 126, 3) := by decide +kernel
theorem dX7_placeOfActing_48 : decode cX7_placeOfActing 48 = .ok (.iload_n 1, 1) := by decide +kernel
theorem dX7_placeOfActing_49 : decode cX7_placeOfActing 49 = .ok (.iaload, 1) := by decide +kernel
theorem dX7_placeOfActing_50 : decode cX7_placeOfActing 50 = .ok (.ireturn, 1) := by decide +kernel
theorem dX7_minutesTillGone_0 : decode cX7_minutesTillGone 0 = .ok (.aload_n 0, 1) := by decide +kernel
theorem dX7_minutesTillGone_1 : decode cX7_minutesTillGone 1 = .ok (.getfield 23, 3) := by decide +kernel
theorem dX7_minutesTillGone_4 : decode cX7_minutesTillGone 4 = .ok (.getfield 191, 3) := by decide +kernel
theorem dX7_minutesTillGone_7 : decode cX7_minutesTillGone 7 = .ok (.istore_n 3, 1) := by decide +kernel
theorem dX7_minutesTillGone_8 : decode cX7_minutesTillGone 8 = .ok (.iconst 1, 1) := by decide +kernel
theorem dX7_minutesTillGone_9 : decode cX7_minutesTillGone 9 = .ok (.istore 4, 2) := by decide +kernel
theorem dX7_minutesTillGone_11 : decode cX7_minutesTillGone 11 = .ok (.iload 4, 2) := by decide +kernel
theorem dX7_minutesTillGone_13 : decode cX7_minutesTillGone 13 = .ok (.iload_n 2, 1) := by decide +kernel
theorem dX7_minutesTillGone_14 : decode cX7_minutesTillGone 14 = .ok (.if_icmp .gt 35, 3) := by decide +kernel
theorem dX7_minutesTillGone_17 : decode cX7_minutesTillGone 17 = .ok (.aload_n 0, 1) := by decide +kernel
theorem dX7_minutesTillGone_18 : decode cX7_minutesTillGone 18 = .ok (.getfield 57, 3) := by decide +kernel
theorem dX7_minutesTillGone_21 : decode cX7_minutesTillGone 21 = .ok (.aload_n 0, 1) := by decide +kernel
theorem dX7_minutesTillGone_22 : decode cX7_minutesTillGone 22 = .ok (.getfield 23, 3) := by decide +kernel
theorem dX7_minutesTillGone_25 : decode cX7_minutesTillGone 25 = .ok (.aload_n 1, 1) := by decide +kernel
theorem dX7_minutesTillGone_26 : decode cX7_minutesTillGone 26 = .ok (.invokevirtual 205, 3) := by decide +kernel
theorem dX7_minutesTillGone_29 : decode cX7_minutesTillGone 29 = .ok (.aload_n 0, 1) := by decide +kernel
theorem dX7_minutesTillGone_30 : decode cX7_minutesTillGone 30 = .ok (.getfield 23, 3) := by decide +kernel
theorem dX7_minutesTillGone_33 : decode cX7_minutesTillGone 33 = .ok (.getfield 191, 3) := by decide +kernel
theorem dX7_minutesTillGone_36 : decode cX7_minutesTillGone 36 = .ok (.iload_n 3, 1) := by decide +kernel
theorem dX7_minutesTillGone_37 : decode cX7_minutesTillGone 37 = .ok (.if_icmp .eq 6, 3) := by decide +kernel
theorem dX7_minutesTillGone_40 : decode cX7_minutesTillGone 40 = .ok (.iload 4, 2) := by decide +kernel
theorem dX7_minutesTillGone_42 : decode cX7_minutesTillGone 42 = .ok (.ireturn, 1) := by decide +kernel
theorem dX7_minutesTillGone_43 : decode cX7_minutesTillGone 43 = .ok (.iinc 4 1, 3) := by decide +kernel
theorem dX7_minutesTillGone_46 : decode cX7_minutesTillGone 46 = .ok (.goto (-35), 3) := by decide +kernel
theorem dX7_minutesTillGone_49 : decode cX7_minutesTillGone 49 = .ok (.bipush (-2), 2) := by decide +kernel
theorem dX7_minutesTillGone_51 : decode cX7_minutesTillGone 51 = .ok (.ireturn, 1) := by decide +kernel
theorem dX7_crowdAt_0 : decode cX7_crowdAt 0 = .ok (.iconst 0, 1) := by decide +kernel
theorem dX7_crowdAt_1 : decode cX7_crowdAt 1 = .ok (.istore_n 2, 1) := by decide +kernel
theorem dX7_crowdAt_2 : decode cX7_crowdAt 2 = .ok (.iconst 0, 1) := by decide +kernel
theorem dX7_crowdAt_3 : decode cX7_crowdAt 3 = .ok (.istore_n 3, 1) := by decide +kernel
theorem dX7_crowdAt_4 : decode cX7_crowdAt 4 = .ok (.iload_n 3, 1) := by decide +kernel
theorem dX7_crowdAt_5 : decode cX7_crowdAt 5 = .ok (.aload_n 0, 1) := by decide +kernel
theorem dX7_crowdAt_6 : decode cX7_crowdAt 6 = .ok (.getfield 57, 3) := by decide +kernel
theorem dX7_crowdAt_9 : decode cX7_crowdAt 9 = .ok (.getfield 110, 3) := by decide +kernel
theorem dX7_crowdAt_12 : decode cX7_crowdAt 12 = .ok (.if_icmp .ge 36, 3) := by decide +kernel
theorem dX7_crowdAt_15 : decode cX7_crowdAt 15 = .ok (.aload_n 0, 1) := by decide +kernel
theorem dX7_crowdAt_16 : decode cX7_crowdAt 16 = .ok (.getfield 23, 3) := by decide +kernel
theorem dX7_crowdAt_19 : decode cX7_crowdAt 19 = .ok (.iload_n 3, 1) := by decide +kernel
theorem dX7_crowdAt_20 : decode cX7_crowdAt 20 = .ok (.invokevirtual 129, 3) := by decide +kernel
theorem dX7_crowdAt_23 : decode cX7_crowdAt 23 = .ok (.ifCond .ne 19, 3) := by decide +kernel
theorem dX7_crowdAt_26 : decode cX7_crowdAt 26 = .ok (.aload_n 0, 1) := by decide +kernel
theorem dX7_crowdAt_27 : decode cX7_crowdAt 27 = .ok (.getfield 23, 3) := by decide +kernel
theorem dX7_crowdAt_30 : decode cX7_crowdAt 30 = .ok (.getfield 126, 3) := by decide +kernel
theorem dX7_crowdAt_33 : decode cX7_crowdAt 33 = .ok (.iload_n 3, 1) := by decide +kernel
theorem dX7_crowdAt_34 : decode cX7_crowdAt 34 = .ok (.iaload, 1) := by decide +kernel
theorem dX7_crowdAt_35 : decode cX7_crowdAt 35 = .ok (.iload_n 1, 1) := by decide +kernel
theorem dX7_crowdAt_36 : decode cX7_crowdAt 36 = .ok (.if_icmp .ne 6, 3) := by decide +kernel
theorem dX7_crowdAt_39 : decode cX7_crowdAt 39 = .ok (.iinc 2 1, 3) := by decide +kernel
theorem dX7_crowdAt_42 : decode cX7_crowdAt 42 = .ok (.iinc 3 1, 3) := by decide +kernel
theorem dX7_crowdAt_45 : decode cX7_crowdAt 45 = .ok (.goto (-41), 3) := by decide +kernel
theorem dX7_crowdAt_48 : decode cX7_crowdAt 48 = .ok (.iload_n 2, 1) := by decide +kernel
theorem dX7_crowdAt_49 : decode cX7_crowdAt 49 = .ok (.ireturn, 1) := by decide +kernel
theorem dX7_planRoutes_0 : decode cX7_planRoutes 0 = .ok (.aload_n 0, 1) := by decide +kernel
theorem dX7_planRoutes_1 : decode cX7_planRoutes 1 = .ok (.getfield 23, 3) := by decide +kernel
theorem dX7_planRoutes_4 : decode cX7_planRoutes 4 = .ok (.aload_n 0, 1) := by decide +kernel
theorem dX7_planRoutes_5 : decode cX7_planRoutes 5 = .ok (.getfield 19, 3) := by decide +kernel
theorem dX7_planRoutes_8 : decode cX7_planRoutes 8 = .ok (.invokevirtual 194, 3) := by decide +kernel
theorem dX7_planRoutes_11 : decode cX7_planRoutes 11 = .ok (.iconst 1, 1) := by decide +kernel
theorem dX7_planRoutes_12 : decode cX7_planRoutes 12 = .ok (.istore_n 2, 1) := by decide +kernel
theorem dX7_planRoutes_13 : decode cX7_planRoutes 13 = .ok (.iload_n 2, 1) := by decide +kernel
theorem dX7_planRoutes_14 : decode cX7_planRoutes 14 = .ok (.iload_n 1, 1) := by decide +kernel
theorem dX7_planRoutes_15 : decode cX7_planRoutes 15 = .ok (.if_icmp .gt 21, 3) := by decide +kernel
theorem dX7_planRoutes_18 : decode cX7_planRoutes 18 = .ok (.aload_n 0, 1) := by decide +kernel
theorem dX7_planRoutes_19 : decode cX7_planRoutes 19 = .ok (.getfield 50, 3) := by decide +kernel
theorem dX7_planRoutes_22 : decode cX7_planRoutes 22 = .ok (.iload_n 2, 1) := by decide +kernel
theorem dX7_planRoutes_23 : decode cX7_planRoutes 23 = .ok (.aload_n 0, 1) := by decide +kernel
theorem dX7_planRoutes_24 : decode cX7_planRoutes 24 = .ok (.invokevirtual 209, 3) := by decide +kernel
theorem dX7_planRoutes_27 : decode cX7_planRoutes 27 = .ok (.invokevirtual 368, 3) := by decide +kernel
theorem dX7_planRoutes_30 : decode cX7_planRoutes 30 = .ok (.iinc 2 1, 3) := by decide +kernel
theorem dX7_planRoutes_33 : decode cX7_planRoutes 33 = .ok (.goto (-20), 3) := by decide +kernel
theorem dX7_planRoutes_36 : decode cX7_planRoutes 36 = .ok (.aload_n 0, 1) := by decide +kernel
theorem dX7_planRoutes_37 : decode cX7_planRoutes 37 = .ok (.getfield 50, 3) := by decide +kernel
theorem dX7_planRoutes_40 : decode cX7_planRoutes 40 = .ok (.iload_n 1, 1) := by decide +kernel
theorem dX7_planRoutes_41 : decode cX7_planRoutes 41 = .ok (.aload_n 0, 1) := by decide +kernel
theorem dX7_planRoutes_42 : decode cX7_planRoutes 42 = .ok (.getfield 57, 3) := by decide +kernel
theorem dX7_planRoutes_45 : decode cX7_planRoutes 45 = .ok (.getfield 110, 3) := by decide +kernel
theorem dX7_planRoutes_48 : decode cX7_planRoutes 48 = .ok (.invokevirtual 372, 3) := by decide +kernel
theorem dX7_planRoutes_51 : decode cX7_planRoutes 51 = .ok (.return_, 1) := by decide +kernel
theorem dX7_postsHold_0 : decode cX7_postsHold 0 = .ok (.aload_n 0, 1) := by decide +kernel
theorem dX7_postsHold_1 : decode cX7_postsHold 1 = .ok (.getfield 29, 3) := by decide +kernel
theorem dX7_postsHold_4 : decode cX7_postsHold 4 = .ok (.iload_n 1, 1) := by decide +kernel
theorem dX7_postsHold_5 : decode cX7_postsHold 5 = .ok (.putfield 375, 3) := by decide +kernel
theorem dX7_postsHold_8 : decode cX7_postsHold 8 = .ok (.aload_n 0, 1) := by decide +kernel
theorem dX7_postsHold_9 : decode cX7_postsHold 9 = .ok (.getfield 23, 3) := by decide +kernel
theorem dX7_postsHold_12 : decode cX7_postsHold 12 = .ok (.aload_n 0, 1) := by decide +kernel
theorem dX7_postsHold_13 : decode cX7_postsHold 13 = .ok (.getfield 19, 3) := by decide +kernel
theorem dX7_postsHold_16 : decode cX7_postsHold 16 = .ok (.invokevirtual 194, 3) := by decide +kernel
theorem dX7_postsHold_19 : decode cX7_postsHold 19 = .ok (.aload_n 0, 1) := by decide +kernel
theorem dX7_postsHold_20 : decode cX7_postsHold 20 = .ok (.aload_n 0, 1) := by decide +kernel
theorem dX7_postsHold_21 : decode cX7_postsHold 21 = .ok (.getfield 29, 3) := by decide +kernel
theorem dX7_postsHold_24 : decode cX7_postsHold 24 = .ok (.iload_n 2, 1) := by decide +kernel
theorem dX7_postsHold_25 : decode cX7_postsHold 25 = .ok (.invokevirtual 198, 3) := by decide +kernel
theorem dX7_postsHold_28 : decode cX7_postsHold 28 = .ok (.bipush (-2), 2) := by decide +kernel
theorem dX7_postsHold_30 : decode cX7_postsHold 30 = .ok (.if_icmp .ne 7, 3) := by decide +kernel
theorem dX7_postsHold_33 : decode cX7_postsHold 33 = .ok (.iconst 1, 1) := by decide +kernel
theorem dX7_postsHold_34 : decode cX7_postsHold 34 = .ok (.goto 4, 3) := by decide +kernel
theorem dX7_postsHold_37 : decode cX7_postsHold 37 = .ok (.iconst 0, 1) := by decide +kernel
theorem dX7_postsHold_38 : decode cX7_postsHold 38 = .ok (.ireturn, 1) := by decide +kernel
theorem dX7_figureShare_0 : decode cX7_figureShare 0 = .ok (.iload_n 1, 1) := by decide +kernel
theorem dX7_figureShare_1 : decode cX7_figureShare 1 = .ok (.ifCond .eq 14, 3) := by decide +kernel
theorem dX7_figureShare_4 : decode cX7_figureShare 4 = .ok (.iload_n 2, 1) := by decide +kernel
theorem dX7_figureShare_5 : decode cX7_figureShare 5 = .ok (.ifCond .eq 8, 3) := by decide +kernel
theorem dX7_figureShare_8 : decode cX7_figureShare 8 = .ok (.iload_n 0, 1) := by decide +kernel
theorem dX7_figureShare_9 : decode cX7_figureShare 9 = .ok (.ineg, 1) := by decide +kernel
theorem dX7_figureShare_10 : decode cX7_figureShare 10 = .ok (.goto 4, 3) := by decide +kernel
theorem dX7_figureShare_13 : decode cX7_figureShare 13 = .ok (.iconst 4, 1) := by decide +kernel
theorem dX7_figureShare_14 : decode cX7_figureShare 14 = .ok (.ireturn, 1) := by decide +kernel
theorem dX7_figureShare_15 : decode cX7_figureShare 15 = .ok (.iload_n 2, 1) := by decide +kernel
theorem dX7_figureShare_16 : decode cX7_figureShare 16 = .ok (.ifCond .eq 7, 3) := by decide +kernel
theorem dX7_figureShare_19 : decode cX7_figureShare 19 = .ok (.iconst 1, 1) := by decide +kernel
theorem dX7_figureShare_20 : decode cX7_figureShare 20 = .ok (.goto 4, 3) := by decide +kernel
theorem dX7_figureShare_23 : decode cX7_figureShare 23 = .ok (.iconst 0, 1) := by decide +kernel
theorem dX7_figureShare_24 : decode cX7_figureShare 24 = .ok (.ireturn, 1) := by decide +kernel
theorem dX7_attendantShare_0 : decode cX7_attendantShare 0 = .ok (.iload_n 0, 1) := by decide +kernel
theorem dX7_attendantShare_1 : decode cX7_attendantShare 1 = .ok (.ifCond .eq 13, 3) := by decide +kernel
theorem dX7_attendantShare_4 : decode cX7_attendantShare 4 = .ok (.iload_n 1, 1) := by decide +kernel
theorem dX7_attendantShare_5 : decode cX7_attendantShare 5 = .ok (.ifCond .eq 7, 3) := by decide +kernel
theorem dX7_attendantShare_8 : decode cX7_attendantShare 8 = .ok (.iconst 3, 1) := by decide +kernel
theorem dX7_attendantShare_9 : decode cX7_attendantShare 9 = .ok (.goto 4, 3) := by decide +kernel
theorem dX7_attendantShare_12 : decode cX7_attendantShare 12 = .ok (.iconst 0, 1) := by decide +kernel
theorem dX7_attendantShare_13 : decode cX7_attendantShare 13 = .ok (.ireturn, 1) := by decide +kernel
theorem dX7_attendantShare_14 : decode cX7_attendantShare 14 = .ok (.iload_n 1, 1) := by decide +kernel
theorem dX7_attendantShare_15 : decode cX7_attendantShare 15 = .ok (.ifCond .eq 7, 3) := by decide +kernel
theorem dX7_attendantShare_18 : decode cX7_attendantShare 18 = .ok (.iconst (-1), 1) := by decide +kernel
theorem dX7_attendantShare_19 : decode cX7_attendantShare 19 = .ok (.goto 4, 3) := by decide +kernel
theorem dX7_attendantShare_22 : decode cX7_attendantShare 22 = .ok (.iconst 1, 1) := by decide +kernel
theorem dX7_attendantShare_23 : decode cX7_attendantShare 23 = .ok (.ireturn, 1) := by decide +kernel
theorem dX7_isRest_0 : decode cX7_isRest 0 = .ok (.iload_n 0, 1) := by decide +kernel
theorem dX7_isRest_1 : decode cX7_isRest 1 = .ok (.iload_n 1, 1) := by decide +kernel
theorem dX7_isRest_2 : decode cX7_isRest 2 = .ok (.iload_n 2, 1) := by decide +kernel
theorem dX7_isRest_3 : decode cX7_isRest 3 = .ok (.invokestatic 303, 3) := by decide +kernel
theorem dX7_isRest_6 : decode cX7_isRest 6 = .ok (.iload_n 0, 1) := by decide +kernel
theorem dX7_isRest_7 : decode cX7_isRest 7 = .ok (.iload_n 1, 1) := by decide +kernel
theorem dX7_isRest_8 : decode cX7_isRest 8 = .ok (.ifCond .ne 7, 3) := by decide +kernel
theorem dX7_isRest_11 : decode cX7_isRest 11 = .ok (.iconst 1, 1) := by decide +kernel
theorem dX7_isRest_12 : decode cX7_isRest 12 = .ok (.goto 4, 3) := by decide +kernel
theorem dX7_isRest_15 : decode cX7_isRest 15 = .ok (.iconst 0, 1) := by decide +kernel
theorem dX7_isRest_16 : decode cX7_isRest 16 = .ok (.iload_n 2, 1) := by decide +kernel
theorem dX7_isRest_17 : decode cX7_isRest 17 = .ok (.invokestatic 303, 3) := by decide +kernel
theorem dX7_isRest_20 : decode cX7_isRest 20 = .ok (.if_icmp .lt 28, 3) := by decide +kernel
theorem dX7_isRest_23 : decode cX7_isRest 23 = .ok (.iload_n 1, 1) := by decide +kernel
theorem dX7_isRest_24 : decode cX7_isRest 24 = .ok (.iload_n 2, 1) := by decide +kernel
theorem dX7_isRest_25 : decode cX7_isRest 25 = .ok (.invokestatic 299, 3) := by decide +kernel
theorem dX7_isRest_28 : decode cX7_isRest 28 = .ok (.iload_n 1, 1) := by decide +kernel
theorem dX7_isRest_29 : decode cX7_isRest 29 = .ok (.iload_n 2, 1) := by decide +kernel
theorem dX7_isRest_30 : decode cX7_isRest 30 = .ok (.ifCond .ne 7, 3) := by decide +kernel
theorem dX7_isRest_33 : decode cX7_isRest 33 = .ok (.iconst 1, 1) := by decide +kernel
theorem dX7_isRest_34 : decode cX7_isRest 34 = .ok (.goto 4, 3) := by decide +kernel
theorem dX7_isRest_37 : decode cX7_isRest 37 = .ok (.iconst 0, 1) := by decide +kernel
theorem dX7_isRest_38 : decode cX7_isRest 38 = .ok (.invokestatic 299, 3) := by decide +kernel
theorem dX7_isRest_41 : decode cX7_isRest 41 = .ok (.if_icmp .lt 7, 3) := by decide +kernel
theorem dX7_isRest_44 : decode cX7_isRest 44 = .ok (.iconst 1, 1) := by decide +kernel
theorem dX7_isRest_45 : decode cX7_isRest 45 = .ok (.goto 4, 3) := by decide +kernel
theorem dX7_isRest_48 : decode cX7_isRest 48 = .ok (.iconst 0, 1) := by decide +kernel
theorem dX7_isRest_49 : decode cX7_isRest 49 = .ok (.ireturn, 1) := by decide +kernel
theorem dX7_ownTurns_0 : decode cX7_ownTurns 0 = .ok (.iconst 0, 1) := by decide +kernel
theorem dX7_ownTurns_1 : decode cX7_ownTurns 1 = .ok (.istore_n 3, 1) := by decide +kernel
theorem dX7_ownTurns_2 : decode cX7_ownTurns 2 = .ok (.aload_n 0, 1) := by decide +kernel
theorem dX7_ownTurns_3 : decode cX7_ownTurns 3 = .ok (.getfield 19, 3) := by decide +kernel
theorem dX7_ownTurns_6 : decode cX7_ownTurns 6 = .ok (.getfield 158, 3) := by decide +kernel
theorem dX7_ownTurns_9 : decode cX7_ownTurns 9 = .ok (.istore 4, 2) := by decide +kernel
theorem dX7_ownTurns_11 : decode cX7_ownTurns 11 = .ok (.iconst 0, 1) := by decide +kernel
theorem dX7_ownTurns_12 : decode cX7_ownTurns 12 = .ok (.istore 5, 2) := by decide +kernel
theorem dX7_ownTurns_14 : decode cX7_ownTurns 14 = .ok (.iload 5, 2) := by decide +kernel
theorem dX7_ownTurns_16 : decode cX7_ownTurns 16 = .ok (.iload_n 2, 1) := by decide +kernel
theorem dX7_ownTurns_17 : decode cX7_ownTurns 17 = .ok (.if_icmp .ge 29, 3) := by decide +kernel
theorem dX7_ownTurns_20 : decode cX7_ownTurns 20 = .ok (.aload_n 0, 1) := by decide +kernel
theorem dX7_ownTurns_21 : decode cX7_ownTurns 21 = .ok (.getfield 57, 3) := by decide +kernel
theorem dX7_ownTurns_24 : decode cX7_ownTurns 24 = .ok (.iload 4, 2) := by decide +kernel
theorem dX7_ownTurns_26 : decode cX7_ownTurns 26 = .ok (.invokevirtual 174, 3) := by decide +kernel
theorem dX7_ownTurns_29 : decode cX7_ownTurns 29 = .ok (.istore 4, 2) := by decide +kernel
theorem dX7_ownTurns_31 : decode cX7_ownTurns 31 = .ok (.iload 4, 2) := by decide +kernel
theorem dX7_ownTurns_33 : decode cX7_ownTurns 33 = .ok (.iload_n 1, 1) := by decide +kernel
theorem dX7_ownTurns_34 : decode cX7_ownTurns 34 = .ok (.if_icmp .ne 6, 3) := by decide +kernel
theorem dX7_ownTurns_37 : decode cX7_ownTurns 37 = .ok (.iinc 3 1, 3) := by decide +kernel
theorem dX7_ownTurns_40 : decode cX7_ownTurns 40 = .ok (.iinc 5 1, 3) := by decide +kernel
theorem dX7_ownTurns_43 : decode cX7_ownTurns 43 = .ok (.goto (-29), 3) := by decide +kernel
theorem dX7_ownTurns_46 : decode cX7_ownTurns 46 = .ok (.iload_n 3, 1) := by decide +kernel
theorem dX7_ownTurns_47 : decode cX7_ownTurns 47 = .ok (.ireturn, 1) := by decide +kernel
theorem dX7_inLowestTerms_0 : decode cX7_inLowestTerms 0 = .ok (.lload_n 2, 1) := by decide +kernel
theorem dX7_inLowestTerms_1 : decode cX7_inLowestTerms 1 = .ok (.lstore 5, 2) := by decide +kernel
theorem dX7_inLowestTerms_3 : decode cX7_inLowestTerms 3 = .ok (.lload_n 0, 1) := by decide +kernel
theorem dX7_inLowestTerms_4 : decode cX7_inLowestTerms 4 = .ok (.lstore 7, 2) := by decide +kernel
theorem dX7_inLowestTerms_6 : decode cX7_inLowestTerms 6 = .ok (.iconst 0, 1) := by decide +kernel
theorem dX7_inLowestTerms_7 : decode cX7_inLowestTerms 7 = .ok (.istore 9, 2) := by decide +kernel
theorem dX7_inLowestTerms_9 : decode cX7_inLowestTerms 9 = .ok (.iload 9, 2) := by decide +kernel
theorem dX7_inLowestTerms_11 : decode cX7_inLowestTerms 11 = .ok (.sipush 200, 3) := by decide +kernel
theorem dX7_inLowestTerms_14 : decode cX7_inLowestTerms 14 = .ok (.if_icmp .ge 31, 3) := by decide +kernel
theorem dX7_inLowestTerms_17 : decode cX7_inLowestTerms 17 = .ok (.lload 7, 2) := by decide +kernel
theorem dX7_inLowestTerms_19 : decode cX7_inLowestTerms 19 = .ok (.lconst 0, 1) := by decide +kernel
theorem dX7_inLowestTerms_20 : decode cX7_inLowestTerms 20 = .ok (.lcmp, 1) := by decide +kernel
theorem dX7_inLowestTerms_21 : decode cX7_inLowestTerms 21 = .ok (.ifCond .eq 24, 3) := by decide +kernel
theorem dX7_inLowestTerms_24 : decode cX7_inLowestTerms 24 = .ok (.lload 5, 2) := by decide +kernel
theorem dX7_inLowestTerms_26 : decode cX7_inLowestTerms 26 = .ok (.lload 7, 2) := by decide +kernel
theorem dX7_inLowestTerms_28 : decode cX7_inLowestTerms 28 = .ok (.lrem, 1) := by decide +kernel
theorem dX7_inLowestTerms_29 : decode cX7_inLowestTerms 29 = .ok (.lstore 10, 2) := by decide +kernel
theorem dX7_inLowestTerms_31 : decode cX7_inLowestTerms 31 = .ok (.lload 7, 2) := by decide +kernel
theorem dX7_inLowestTerms_33 : decode cX7_inLowestTerms 33 = .ok (.lstore 5, 2) := by decide +kernel
theorem dX7_inLowestTerms_35 : decode cX7_inLowestTerms 35 = .ok (.lload 10, 2) := by decide +kernel
theorem dX7_inLowestTerms_37 : decode cX7_inLowestTerms 37 = .ok (.lstore 7, 2) := by decide +kernel
theorem dX7_inLowestTerms_39 : decode cX7_inLowestTerms 39 = .ok (.iinc 9 1, 3) := by decide +kernel
theorem dX7_inLowestTerms_42 : decode cX7_inLowestTerms 42 = .ok (.goto (-33), 3) := by decide +kernel
theorem dX7_inLowestTerms_45 : decode cX7_inLowestTerms 45 = .ok (.iload 4, 2) := by decide +kernel
theorem dX7_inLowestTerms_47 : decode cX7_inLowestTerms 47 = .ok (.ifCond .eq 7, 3) := by decide +kernel
theorem dX7_inLowestTerms_50 : decode cX7_inLowestTerms 50 = .ok (.lload_n 2, 1) := by decide +kernel
theorem dX7_inLowestTerms_51 : decode cX7_inLowestTerms 51 = .ok (.goto 4, 3) := by decide +kernel
theorem dX7_inLowestTerms_54 : decode cX7_inLowestTerms 54 = .ok (.lload_n 0, 1) := by decide +kernel
theorem dX7_inLowestTerms_55 : decode cX7_inLowestTerms 55 = .ok (.lstore 9, 2) := by decide +kernel
theorem dX7_inLowestTerms_57 : decode cX7_inLowestTerms 57 = .ok (.lload 5, 2) := by decide +kernel
theorem dX7_inLowestTerms_59 : decode cX7_inLowestTerms 59 = .ok (.lconst 0, 1) := by decide +kernel
theorem dX7_inLowestTerms_60 : decode cX7_inLowestTerms 60 = .ok (.lcmp, 1) := by decide +kernel
theorem dX7_inLowestTerms_61 : decode cX7_inLowestTerms 61 = .ok (.ifCond .ne 8, 3) := by decide +kernel
theorem dX7_inLowestTerms_64 : decode cX7_inLowestTerms 64 = .ok (.lload 9, 2) := by decide +kernel
theorem dX7_inLowestTerms_66 : decode cX7_inLowestTerms 66 = .ok (.goto 8, 3) := by decide +kernel
theorem dX7_inLowestTerms_69 : decode cX7_inLowestTerms 69 = .ok (.lload 9, 2) := by decide +kernel
theorem dX7_inLowestTerms_71 : decode cX7_inLowestTerms 71 = .ok (.lload 5, 2) := by decide +kernel
theorem dX7_inLowestTerms_73 : decode cX7_inLowestTerms 73 = .ok (.ldiv, 1) := by decide +kernel
theorem dX7_inLowestTerms_74 : decode cX7_inLowestTerms 74 = .ok (.lreturn, 1) := by decide +kernel
theorem dX7_nextDraw_0 : decode cX7_nextDraw 0 = .ok (.bipush 75, 2) := by decide +kernel
theorem dX7_nextDraw_2 : decode cX7_nextDraw 2 = .ok (.iload_n 0, 1) := by decide +kernel
theorem dX7_nextDraw_3 : decode cX7_nextDraw 3 = .ok (.imul, 1) := by decide +kernel
theorem dX7_nextDraw_4 : decode cX7_nextDraw 4 = .ok (.bipush 74, 2) := by decide +kernel
theorem dX7_nextDraw_6 : decode cX7_nextDraw 6 = .ok (.iadd, 1) := by decide +kernel
theorem dX7_nextDraw_7 : decode cX7_nextDraw 7 = .ok (.ldc_w 378, 3) := by decide +kernel
theorem dX7_nextDraw_10 : decode cX7_nextDraw 10 = .ok (.irem, 1) := by decide +kernel
theorem dX7_nextDraw_11 : decode cX7_nextDraw 11 = .ok (.ireturn, 1) := by decide +kernel
theorem dX7_isShut_0 : decode cX7_isShut 0 = .ok (.iload_n 1, 1) := by decide +kernel
theorem dX7_isShut_1 : decode cX7_isShut 1 = .ok (.bipush 100, 2) := by decide +kernel
theorem dX7_isShut_3 : decode cX7_isShut 3 = .ok (.irem, 1) := by decide +kernel
theorem dX7_isShut_4 : decode cX7_isShut 4 = .ok (.aload_n 0, 1) := by decide +kernel
theorem dX7_isShut_5 : decode cX7_isShut 5 = .ok (.getfield 57, 3) := by decide +kernel
theorem dX7_isShut_8 : decode cX7_isShut 8 = .ok (.getfield 316, 3) := by decide +kernel
theorem dX7_isShut_11 : decode cX7_isShut 11 = .ok (.if_icmp .ge 7, 3) := by decide +kernel
theorem dX7_isShut_14 : decode cX7_isShut 14 = .ok (.iconst 1, 1) := by decide +kernel
theorem dX7_isShut_15 : decode cX7_isShut 15 = .ok (.goto 4, 3) := by decide +kernel
theorem dX7_isShut_18 : decode cX7_isShut 18 = .ok (.iconst 0, 1) := by decide +kernel
theorem dX7_isShut_19 : decode cX7_isShut 19 = .ok (.ireturn, 1) := by decide +kernel
theorem dX8_init_0 : decode cX8_init 0 = .ok (.aload_n 0, 1) := by decide +kernel
theorem dX8_init_1 : decode cX8_init 1 = .ok (.invokespecial 1, 3) := by decide +kernel
theorem dX8_init_4 : decode cX8_init 4 = .ok (.aload_n 0, 1) := by decide +kernel
theorem dX8_init_5 : decode cX8_init 5 = .ok (.sipush 900, 3) := by decide +kernel
theorem dX8_init_8 : decode cX8_init 8 = .ok (.newarray .int, 2) := by decide +kernel
theorem dX8_init_10 : decode cX8_init 10 = .ok (.putfield 7, 3) := by decide +kernel
theorem dX8_init_13 : decode cX8_init 13 = .ok (.aload_n 0, 1) := by decide +kernel
theorem dX8_init_14 : decode cX8_init 14 = .ok (.iconst (-1), 1) := by decide +kernel
theorem dX8_init_15 : decode cX8_init 15 = .ok (.putfield 13, 3) := by decide +kernel
theorem dX8_init_18 : decode cX8_init 18 = .ok (.aload_n 0, 1) := by decide +kernel
theorem dX8_init_19 : decode cX8_init 19 = .ok (.bipush 8, 2) := by decide +kernel
theorem dX8_init_21 : decode cX8_init 21 = .ok (.newarray .int, 2) := by decide +kernel
theorem dX8_init_23 : decode cX8_init 23 = .ok (.putfield 17, 3) := by decide +kernel
theorem dX8_init_26 : decode cX8_init 26 = .ok (.aload_n 0, 1) := by decide +kernel
theorem dX8_init_27 : decode cX8_init 27 = .ok (.sipush 156, 3) := by decide +kernel
theorem dX8_init_30 : decode cX8_init 30 = .ok (.newarray .int, 2) := by decide +kernel
theorem dX8_init_32 : decode cX8_init 32 = .ok (.putfield 20, 3) := by decide +kernel
theorem dX8_init_35 : decode cX8_init 35 = .ok (.aload_n 0, 1) := by decide +kernel
theorem dX8_init_36 : decode cX8_init 36 = .ok (.sipush 156, 3) := by decide +kernel
theorem dX8_init_39 : decode cX8_init 39 = .ok (.newarray .int, 2) := by decide +kernel
theorem dX8_init_41 : decode cX8_init 41 = .ok (.putfield 23, 3) := by decide +kernel
theorem dX8_init_44 : decode cX8_init 44 = .ok (.aload_n 0, 1) := by decide +kernel
theorem dX8_init_45 : decode cX8_init 45 = .ok (.bipush 23, 2) := by decide +kernel
theorem dX8_init_47 : decode cX8_init 47 = .ok (.newarray .int, 2) := by decide +kernel
theorem dX8_init_49 : decode cX8_init 49 = .ok (.putfield 26, 3) := by decide +kernel
theorem dX8_init_52 : decode cX8_init 52 = .ok (.aload_n 0, 1) := by decide +kernel
theorem dX8_init_53 : decode cX8_init 53 = .ok (.bipush 23, 2) := by decide +kernel
theorem dX8_init_55 : decode cX8_init 55 = .ok (.newarray .int, 2) := by decide +kernel
theorem dX8_init_57 : decode cX8_init 57 = .ok (.putfield 29, 3) := by decide +kernel
theorem dX8_init_60 : decode cX8_init 60 = .ok (.aload_n 0, 1) := by decide +kernel
theorem dX8_init_61 : decode cX8_init 61 = .ok (.sipush 368, 3) := by decide +kernel
theorem dX8_init_64 : decode cX8_init 64 = .ok (.newarray .int, 2) := by decide +kernel
theorem dX8_init_66 : decode cX8_init 66 = .ok (.putfield 32, 3) := by decide +kernel
theorem dX8_init_69 : decode cX8_init 69 = .ok (.aload_n 0, 1) := by decide +kernel
theorem dX8_init_70 : decode cX8_init 70 = .ok (.bipush 69, 2) := by decide +kernel
