theorem dX8_begins_20 : decode cX8_begins 20 = .ok (.invokevirtual 124, 3) := by decide +kernel
theorem dX8_begins_23 : decode cX8_begins 23 = .ok (.aload_n 0, 1) := by decide +kernel
theorem dX8_begins_24 : decode cX8_begins 24 = .ok (.getfield 23, 3) := by decide +kernel
theorem dX8_begins_27 : decode cX8_begins 27 = .ok (.bipush 11, 2) := by decide +kernel
theorem dX8_begins_29 : decode cX8_begins 29 = .ok (.iaload, 1) := by decide +kernel
theorem dX8_begins_30 : decode cX8_begins 30 = .ok (.ifCond .ne 13, 3) := by decide +kernel
theorem dX8_begins_33 : decode cX8_begins 33 = .ok (.aload_n 0, 1) := by decide +kernel
theorem dX8_begins_34 : decode cX8_begins 34 = .ok (.bipush 6, 2) := by decide +kernel
theorem dX8_begins_36 : decode cX8_begins 36 = .ok (.aload_n 0, 1) := by decide +kernel
theorem dX8_begins_37 : decode cX8_begins 37 = .ok (.getfield 78, 3) := by decide +kernel
theorem dX8_begins_40 : decode cX8_begins 40 = .ok (.invokevirtual 124, 3) := by decide +kernel
theorem dX8_begins_43 : decode cX8_begins 43 = .ok (.aload_n 0, 1) := by decide +kernel
theorem dX8_begins_44 : decode cX8_begins 44 = .ok (.invokevirtual 150, 3) := by decide +kernel
theorem dX8_begins_47 : decode cX8_begins 47 = .ok (.iconst 1, 1) := by decide +kernel
theorem dX8_begins_48 : decode cX8_begins 48 = .ok (.ireturn, 1) := by decide +kernel
theorem dX8_readLine_0 : decode cX8_readLine 0 = .ok (.aload_n 0, 1) := by decide +kernel
theorem dX8_readLine_1 : decode cX8_readLine 1 = .ok (.ldc 128, 2) := by decide +kernel
theorem dX8_readLine_3 : decode cX8_readLine 3 = .ok (.invokevirtual 114, 3) := by decide +kernel
theorem dX8_readLine_6 : decode cX8_readLine 6 = .ok (.ifCond .eq 10, 3) := by decide +kernel
theorem dX8_readLine_9 : decode cX8_readLine 9 = .ok (.aload_n 0, 1) := by decide +kernel
theorem dX8_readLine_10 : decode cX8_readLine 10 = .ok (.invokevirtual 182, 3) := by decide +kernel
theorem dX8_readLine_13 : decode cX8_readLine 13 = .ok (.goto 124, 3) := by decide +kernel
theorem dX8_readLine_16 : decode cX8_readLine 16 = .ok (.aload_n 0, 1) := by decide +kernel
theorem dX8_readLine_17 : decode cX8_readLine 17 = .ok (.ldc 130, 2) := by decide +kernel
theorem dX8_readLine_19 : decode cX8_readLine 19 = .ok (.invokevirtual 114, 3) := by decide +kernel
theorem dX8_readLine_22 : decode cX8_readLine 22 = .ok (.ifCond .eq 10, 3) := by decide +kernel
theorem dX8_readLine_25 : decode cX8_readLine 25 = .ok (.aload_n 0, 1) := by decide +kernel
theorem dX8_readLine_26 : decode cX8_readLine 26 = .ok (.invokevirtual 185, 3) := by decide +kernel
theorem dX8_readLine_29 : decode cX8_readLine 29 = .ok (.goto 108, 3) := by decide +kernel
theorem dX8_readLine_32 : decode cX8_readLine 32 = .ok (.aload_n 0, 1) := by decide +kernel
theorem dX8_readLine_33 : decode cX8_readLine 33 = .ok (.ldc 132, 2) := by decide +kernel
theorem dX8_readLine_35 : decode cX8_readLine 35 = .ok (.aload_n 0, 1) := by decide +kernel
theorem dX8_readLine_36 : decode cX8_readLine 36 = .ok (.getfield 23, 3) := by decide +kernel
theorem dX8_readLine_39 : decode cX8_readLine 39 = .ok (.iconst 4, 1) := by decide +kernel
theorem dX8_readLine_40 : decode cX8_readLine 40 = .ok (.iaload, 1) := by decide +kernel
theorem dX8_readLine_41 : decode cX8_readLine 41 = .ok (.bipush 9, 2) := by decide +kernel
theorem dX8_readLine_43 : decode cX8_readLine 43 = .ok (.if_icmp .ge 7, 3) := by decide +kernel
theorem dX8_readLine_46 : decode cX8_readLine 46 = .ok (.iconst 1, 1) := by decide +kernel
theorem dX8_readLine_47 : decode cX8_readLine 47 = .ok (.goto 4, 3) := by decide +kernel
theorem dX8_readLine_50 : decode cX8_readLine 50 = .ok (.iconst 0, 1) := by decide +kernel
theorem dX8_readLine_51 : decode cX8_readLine 51 = .ok (.invokevirtual 188, 3) := by decide +kernel
theorem dX8_readLine_54 : decode cX8_readLine 54 = .ok (.ifCond .eq 10, 3) := by decide +kernel
theorem dX8_readLine_57 : decode cX8_readLine 57 = .ok (.aload_n 0, 1) := by decide +kernel
theorem dX8_readLine_58 : decode cX8_readLine 58 = .ok (.invokevirtual 192, 3) := by decide +kernel
theorem dX8_readLine_61 : decode cX8_readLine 61 = .ok (.goto 76, 3) := by decide +kernel
theorem dX8_readLine_64 : decode cX8_readLine 64 = .ok (.aload_n 0, 1) := by decide +kernel
theorem dX8_readLine_65 : decode cX8_readLine 65 = .ok (.ldc 134, 2) := by decide +kernel
theorem dX8_readLine_67 : decode cX8_readLine 67 = .ok (.aload_n 0, 1) := by decide +kernel
theorem dX8_readLine_68 : decode cX8_readLine 68 = .ok (.getfield 23, 3) := by decide +kernel
theorem dX8_readLine_71 : decode cX8_readLine 71 = .ok (.iconst 5, 1) := by decide +kernel
theorem dX8_readLine_72 : decode cX8_readLine 72 = .ok (.iaload, 1) := by decide +kernel
theorem dX8_readLine_73 : decode cX8_readLine 73 = .ok (.iconst 3, 1) := by decide +kernel
theorem dX8_readLine_74 : decode cX8_readLine 74 = .ok (.if_icmp .ge 7, 3) := by decide +kernel
theorem dX8_readLine_77 : decode cX8_readLine 77 = .ok (.iconst 1, 1) := by decide +kernel
theorem dX8_readLine_78 : decode cX8_readLine 78 = .ok (.goto 4, 3) := by decide +kernel
theorem dX8_readLine_81 : decode cX8_readLine 81 = .ok (.iconst 0, 1) := by decide +kernel
theorem dX8_readLine_82 : decode cX8_readLine 82 = .ok (.invokevirtual 188, 3) := by decide +kernel
theorem dX8_readLine_85 : decode cX8_readLine 85 = .ok (.ifCond .eq 10, 3) := by decide +kernel
theorem dX8_readLine_88 : decode cX8_readLine 88 = .ok (.aload_n 0, 1) := by decide +kernel
theorem dX8_readLine_89 : decode cX8_readLine 89 = .ok (.invokevirtual 195, 3) := by decide +kernel
theorem dX8_readLine_92 : decode cX8_readLine 92 = .ok (.goto 45, 3) := by decide +kernel
theorem dX8_readLine_95 : decode cX8_readLine 95 = .ok (.aload_n 0, 1) := by decide +kernel
theorem dX8_readLine_96 : decode cX8_readLine 96 = .ok (.ldc 136, 2) := by decide +kernel
theorem dX8_readLine_98 : decode cX8_readLine 98 = .ok (.aload_n 0, 1) := by decide +kernel
theorem dX8_readLine_99 : decode cX8_readLine 99 = .ok (.getfield 23, 3) := by decide +kernel
theorem dX8_readLine_102 : decode cX8_readLine 102 = .ok (.bipush 6, 2) := by decide +kernel
theorem dX8_readLine_104 : decode cX8_readLine 104 = .ok (.iaload, 1) := by decide +kernel
theorem dX8_readLine_105 : decode cX8_readLine 105 = .ok (.bipush 6, 2) := by decide +kernel
theorem dX8_readLine_107 : decode cX8_readLine 107 = .ok (.if_icmp .ge 7, 3) := by decide +kernel
theorem dX8_readLine_110 : decode cX8_readLine 110 = .ok (.iconst 1, 1) := by decide +kernel
theorem dX8_readLine_111 : decode cX8_readLine 111 = .ok (.goto 4, 3) := by decide +kernel
theorem dX8_readLine_114 : decode cX8_readLine 114 = .ok (.iconst 0, 1) := by decide +kernel
theorem dX8_readLine_115 : decode cX8_readLine 115 = .ok (.invokevirtual 188, 3) := by decide +kernel
theorem dX8_readLine_118 : decode cX8_readLine 118 = .ok (.ifCond .eq 10, 3) := by decide +kernel
theorem dX8_readLine_121 : decode cX8_readLine 121 = .ok (.aload_n 0, 1) := by decide +kernel
theorem dX8_readLine_122 : decode cX8_readLine 122 = .ok (.invokevirtual 198, 3) := by decide +kernel
theorem dX8_readLine_125 : decode cX8_readLine 125 = .ok (.goto 12, 3) := by decide +kernel
theorem dX8_readLine_128 : decode cX8_readLine 128 = .ok (.aload_n 0, 1) := by decide +kernel
theorem dX8_readLine_129 : decode cX8_readLine 129 = .ok (.iconst 1, 1) := by decide +kernel
theorem dX8_readLine_130 : decode cX8_readLine 130 = .ok (.aload_n 0, 1) := by decide +kernel
theorem dX8_readLine_131 : decode cX8_readLine 131 = .ok (.getfield 78, 3) := by decide +kernel
theorem dX8_readLine_134 : decode cX8_readLine 134 = .ok (.invokevirtual 124, 3) := by decide +kernel
theorem dX8_readLine_137 : decode cX8_readLine 137 = .ok (.return_, 1) := by decide +kernel
theorem dX8_galleryLine_0 : decode cX8_galleryLine 0 = .ok (.aload_n 0, 1) := by decide +kernel
theorem dX8_galleryLine_1 : decode cX8_galleryLine 1 = .ok (.getfield 23, 3) := by decide +kernel
theorem dX8_galleryLine_4 : decode cX8_galleryLine 4 = .ok (.bipush 11, 2) := by decide +kernel
theorem dX8_galleryLine_6 : decode cX8_galleryLine 6 = .ok (.iaload, 1) := by decide +kernel
theorem dX8_galleryLine_7 : decode cX8_galleryLine 7 = .ok (.ifCond .le 12, 3) := by decide +kernel
theorem dX8_galleryLine_10 : decode cX8_galleryLine 10 = .ok (.aload_n 0, 1) := by decide +kernel
theorem dX8_galleryLine_11 : decode cX8_galleryLine 11 = .ok (.iconst 3, 1) := by decide +kernel
theorem dX8_galleryLine_12 : decode cX8_galleryLine 12 = .ok (.aload_n 0, 1) := by decide +kernel
theorem dX8_galleryLine_13 : decode cX8_galleryLine 13 = .ok (.getfield 78, 3) := by decide +kernel
theorem dX8_galleryLine_16 : decode cX8_galleryLine 16 = .ok (.invokevirtual 124, 3) := by decide +kernel
theorem dX8_galleryLine_19 : decode cX8_galleryLine 19 = .ok (.aload_n 0, 1) := by decide +kernel
theorem dX8_galleryLine_20 : decode cX8_galleryLine 20 = .ok (.getfield 97, 3) := by decide +kernel
theorem dX8_galleryLine_23 : decode cX8_galleryLine 23 = .ok (.ifCond .eq 4, 3) := by decide +kernel
theorem dX8_galleryLine_26 : decode cX8_galleryLine 26 = .ok (.return_, 1) := by decide +kernel
theorem dX8_galleryLine_27 : decode cX8_galleryLine 27 = .ok (.aload_n 0, 1) := by decide +kernel
theorem dX8_galleryLine_28 : decode cX8_galleryLine 28 = .ok (.invokevirtual 118, 3) := by decide +kernel
theorem dX8_galleryLine_31 : decode cX8_galleryLine 31 = .ok (.aload_n 0, 1) := by decide +kernel
theorem dX8_galleryLine_32 : decode cX8_galleryLine 32 = .ok (.getfield 23, 3) := by decide +kernel
theorem dX8_galleryLine_35 : decode cX8_galleryLine 35 = .ok (.iconst 0, 1) := by decide +kernel
theorem dX8_galleryLine_36 : decode cX8_galleryLine 36 = .ok (.aload_n 0, 1) := by decide +kernel
theorem dX8_galleryLine_37 : decode cX8_galleryLine 37 = .ok (.ldc 201, 2) := by decide +kernel
theorem dX8_galleryLine_39 : decode cX8_galleryLine 39 = .ok (.iconst 2, 1) := by decide +kernel
theorem dX8_galleryLine_40 : decode cX8_galleryLine 40 = .ok (.bipush 9, 2) := by decide +kernel
theorem dX8_galleryLine_42 : decode cX8_galleryLine 42 = .ok (.invokevirtual 203, 3) := by decide +kernel
theorem dX8_galleryLine_45 : decode cX8_galleryLine 45 = .ok (.iastore, 1) := by decide +kernel
theorem dX8_galleryLine_46 : decode cX8_galleryLine 46 = .ok (.aload_n 0, 1) := by decide +kernel
theorem dX8_galleryLine_47 : decode cX8_galleryLine 47 = .ok (.getfield 23, 3) := by decide +kernel
theorem dX8_galleryLine_50 : decode cX8_galleryLine 50 = .ok (.iconst 1, 1) := by decide +kernel
theorem dX8_galleryLine_51 : decode cX8_galleryLine 51 = .ok (.aload_n 0, 1) := by decide +kernel
theorem dX8_galleryLine_52 : decode cX8_galleryLine 52 = .ok (.ldc 207, 2) := by decide +kernel
theorem dX8_galleryLine_54 : decode cX8_galleryLine 54 = .ok (.iconst 1, 1) := by decide +kernel
theorem dX8_galleryLine_55 : decode cX8_galleryLine 55 = .ok (.bipush 20, 2) := by decide +kernel
theorem dX8_galleryLine_57 : decode cX8_galleryLine 57 = .ok (.invokevirtual 203, 3) := by decide +kernel
theorem dX8_galleryLine_60 : decode cX8_galleryLine 60 = .ok (.iastore, 1) := by decide +kernel
theorem dX8_galleryLine_61 : decode cX8_galleryLine 61 = .ok (.aload_n 0, 1) := by decide +kernel
theorem dX8_galleryLine_62 : decode cX8_galleryLine 62 = .ok (.getfield 23, 3) := by decide +kernel
theorem dX8_galleryLine_65 : decode cX8_galleryLine 65 = .ok (.iconst 2, 1) := by decide +kernel
theorem dX8_galleryLine_66 : decode cX8_galleryLine 66 = .ok (.aload_n 0, 1) := by decide +kernel
theorem dX8_galleryLine_67 : decode cX8_galleryLine 67 = .ok (.ldc 209, 2) := by decide +kernel
theorem dX8_galleryLine_69 : decode cX8_galleryLine 69 = .ok (.iconst 0, 1) := by decide +kernel
theorem dX8_galleryLine_70 : decode cX8_galleryLine 70 = .ok (.aload_n 0, 1) := by decide +kernel
theorem dX8_galleryLine_71 : decode cX8_galleryLine 71 = .ok (.getfield 23, 3) := by decide +kernel
theorem dX8_galleryLine_74 : decode cX8_galleryLine 74 = .ok (.iconst 0, 1) := by decide +kernel
theorem dX8_galleryLine_75 : decode cX8_galleryLine 75 = .ok (.iaload, 1) := by decide +kernel
theorem dX8_galleryLine_76 : decode cX8_galleryLine 76 = .ok (.iconst 1, 1) := by decide +kernel
theorem dX8_galleryLine_77 : decode cX8_galleryLine 77 = .ok (.isub, 1) := by decide +kernel
theorem dX8_galleryLine_78 : decode cX8_galleryLine 78 = .ok (.invokevirtual 203, 3) := by decide +kernel
theorem dX8_galleryLine_81 : decode cX8_galleryLine 81 = .ok (.iastore, 1) := by decide +kernel
theorem dX8_galleryLine_82 : decode cX8_galleryLine 82 = .ok (.aload_n 0, 1) := by decide +kernel
theorem dX8_galleryLine_83 : decode cX8_galleryLine 83 = .ok (.getfield 23, 3) := by decide +kernel
theorem dX8_galleryLine_86 : decode cX8_galleryLine 86 = .ok (.iconst 3, 1) := by decide +kernel
theorem dX8_galleryLine_87 : decode cX8_galleryLine 87 = .ok (.aload_n 0, 1) := by decide +kernel
theorem dX8_galleryLine_88 : decode cX8_galleryLine 88 = .ok (.ldc 211, 2) := by decide +kernel
theorem dX8_galleryLine_90 : decode cX8_galleryLine 90 = .ok (.iconst 0, 1) := by decide +kernel
theorem dX8_galleryLine_91 : decode cX8_galleryLine 91 = .ok (.bipush 100, 2) := by decide +kernel
theorem dX8_galleryLine_93 : decode cX8_galleryLine 93 = .ok (.invokevirtual 203, 3) := by decide +kernel
theorem dX8_galleryLine_96 : decode cX8_galleryLine 96 = .ok (.iastore, 1) := by decide +kernel
theorem dX8_galleryLine_97 : decode cX8_galleryLine 97 = .ok (.aload_n 0, 1) := by decide +kernel
theorem dX8_galleryLine_98 : decode cX8_galleryLine 98 = .ok (.getfield 97, 3) := by decide +kernel
theorem dX8_galleryLine_101 : decode cX8_galleryLine 101 = .ok (.ifCond .ne 11, 3) := by decide +kernel
theorem dX8_galleryLine_104 : decode cX8_galleryLine 104 = .ok (.aload_n 0, 1) := by decide +kernel
theorem dX8_galleryLine_105 : decode cX8_galleryLine 105 = .ok (.getfield 23, 3) := by decide +kernel
theorem dX8_galleryLine_108 : decode cX8_galleryLine 108 = .ok (.bipush 11, 2) := by decide +kernel
theorem dX8_galleryLine_110 : decode cX8_galleryLine 110 = .ok (.iconst 1, 1) := by decide +kernel
theorem dX8_galleryLine_111 : decode cX8_galleryLine 111 = .ok (.iastore, 1) := by decide +kernel
theorem dX8_galleryLine_112 : decode cX8_galleryLine 112 = .ok (.return_, 1) := by decide +kernel
theorem dX8_last_0 : decode cX8_last 0 = .ok (.aload_n 0, 1) := by decide +kernel
theorem dX8_last_1 : decode cX8_last 1 = .ok (.getfield 23, 3) := by decide +kernel
theorem dX8_last_4 : decode cX8_last 4 = .ok (.iconst 0, 1) := by decide +kernel
theorem dX8_last_5 : decode cX8_last 5 = .ok (.iaload, 1) := by decide +kernel
theorem dX8_last_6 : decode cX8_last 6 = .ok (.iconst 1, 1) := by decide +kernel
theorem dX8_last_7 : decode cX8_last 7 = .ok (.isub, 1) := by decide +kernel
theorem dX8_last_8 : decode cX8_last 8 = .ok (.ireturn, 1) := by decide +kernel
theorem dX8_lawLine_0 : decode cX8_lawLine 0 = .ok (.aload_n 0, 1) := by decide +kernel
theorem dX8_lawLine_1 : decode cX8_lawLine 1 = .ok (.getfield 23, 3) := by decide +kernel
theorem dX8_lawLine_4 : decode cX8_lawLine 4 = .ok (.bipush 10, 2) := by decide +kernel
theorem dX8_lawLine_6 : decode cX8_lawLine 6 = .ok (.iaload, 1) := by decide +kernel
theorem dX8_lawLine_7 : decode cX8_lawLine 7 = .ok (.ifCond .le 12, 3) := by decide +kernel
theorem dX8_lawLine_10 : decode cX8_lawLine 10 = .ok (.aload_n 0, 1) := by decide +kernel
theorem dX8_lawLine_11 : decode cX8_lawLine 11 = .ok (.iconst 3, 1) := by decide +kernel
theorem dX8_lawLine_12 : decode cX8_lawLine 12 = .ok (.aload_n 0, 1) := by decide +kernel
theorem dX8_lawLine_13 : decode cX8_lawLine 13 = .ok (.getfield 78, 3) := by decide +kernel
theorem dX8_lawLine_16 : decode cX8_lawLine 16 = .ok (.invokevirtual 124, 3) := by decide +kernel
theorem dX8_lawLine_19 : decode cX8_lawLine 19 = .ok (.aload_n 0, 1) := by decide +kernel
theorem dX8_lawLine_20 : decode cX8_lawLine 20 = .ok (.getfield 23, 3) := by decide +kernel
theorem dX8_lawLine_23 : decode cX8_lawLine 23 = .ok (.bipush 11, 2) := by decide +kernel
theorem dX8_lawLine_25 : decode cX8_lawLine 25 = .ok (.iaload, 1) := by decide +kernel
theorem dX8_lawLine_26 : decode cX8_lawLine 26 = .ok (.ifCond .ne 13, 3) := by decide +kernel
theorem dX8_lawLine_29 : decode cX8_lawLine 29 = .ok (.aload_n 0, 1) := by decide +kernel
theorem dX8_lawLine_30 : decode cX8_lawLine 30 = .ok (.bipush 6, 2) := by decide +kernel
theorem dX8_lawLine_32 : decode cX8_lawLine 32 = .ok (.aload_n 0, 1) := by decide +kernel
theorem dX8_lawLine_33 : decode cX8_lawLine 33 = .ok (.getfield 78, 3) := by decide +kernel
theorem dX8_lawLine_36 : decode cX8_lawLine 36 = .ok (.invokevirtual 124, 3) := by decide +kernel
theorem dX8_lawLine_39 : decode cX8_lawLine 39 = .ok (.aload_n 0, 1) := by decide +kernel
theorem dX8_lawLine_40 : decode cX8_lawLine 40 = .ok (.getfield 97, 3) := by decide +kernel
theorem dX8_lawLine_43 : decode cX8_lawLine 43 = .ok (.ifCond .eq 4, 3) := by decide +kernel
theorem dX8_lawLine_46 : decode cX8_lawLine 46 = .ok (.return_, 1) := by decide +kernel
theorem dX8_lawLine_47 : decode cX8_lawLine 47 = .ok (.aload_n 0, 1) := by decide +kernel
theorem dX8_lawLine_48 : decode cX8_lawLine 48 = .ok (.invokevirtual 118, 3) := by decide +kernel
theorem dX8_lawLine_51 : decode cX8_lawLine 51 = .ok (.aload_n 0, 1) := by decide +kernel
theorem dX8_lawLine_52 : decode cX8_lawLine 52 = .ok (.getfield 23, 3) := by decide +kernel
theorem dX8_lawLine_55 : decode cX8_lawLine 55 = .ok (.bipush 7, 2) := by decide +kernel
theorem dX8_lawLine_57 : decode cX8_lawLine 57 = .ok (.aload_n 0, 1) := by decide +kernel
theorem dX8_lawLine_58 : decode cX8_lawLine 58 = .ok (.ldc 213, 2) := by decide +kernel
theorem dX8_lawLine_60 : decode cX8_lawLine 60 = .ok (.iconst 0, 1) := by decide +kernel
theorem dX8_lawLine_61 : decode cX8_lawLine 61 = .ok (.aload_n 0, 1) := by decide +kernel
theorem dX8_lawLine_62 : decode cX8_lawLine 62 = .ok (.invokevirtual 215, 3) := by decide +kernel
theorem dX8_lawLine_65 : decode cX8_lawLine 65 = .ok (.invokevirtual 203, 3) := by decide +kernel
theorem dX8_lawLine_68 : decode cX8_lawLine 68 = .ok (.iastore, 1) := by decide +kernel
theorem dX8_lawLine_69 : decode cX8_lawLine 69 = .ok (.aload_n 0, 1) := by decide +kernel
theorem dX8_lawLine_70 : decode cX8_lawLine 70 = .ok (.getfield 23, 3) := by decide +kernel
theorem dX8_lawLine_73 : decode cX8_lawLine 73 = .ok (.bipush 8, 2) := by decide +kernel
theorem dX8_lawLine_75 : decode cX8_lawLine 75 = .ok (.aload_n 0, 1) := by decide +kernel
theorem dX8_lawLine_76 : decode cX8_lawLine 76 = .ok (.ldc 218, 2) := by decide +kernel
theorem dX8_lawLine_78 : decode cX8_lawLine 78 = .ok (.iconst 0, 1) := by decide +kernel
theorem dX8_lawLine_79 : decode cX8_lawLine 79 = .ok (.aload_n 0, 1) := by decide +kernel
theorem dX8_lawLine_80 : decode cX8_lawLine 80 = .ok (.invokevirtual 215, 3) := by decide +kernel
theorem dX8_lawLine_83 : decode cX8_lawLine 83 = .ok (.invokevirtual 203, 3) := by decide +kernel
theorem dX8_lawLine_86 : decode cX8_lawLine 86 = .ok (.iastore, 1) := by decide +kernel
theorem dX8_lawLine_87 : decode cX8_lawLine 87 = .ok (.aload_n 0, 1) := by decide +kernel
theorem dX8_lawLine_88 : decode cX8_lawLine 88 = .ok (.getfield 23, 3) := by decide +kernel
theorem dX8_lawLine_91 : decode cX8_lawLine 91 = .ok (.bipush 9, 2) := by decide +kernel
theorem dX8_lawLine_93 : decode cX8_lawLine 93 = .ok (.aload_n 0, 1) := by decide +kernel
theorem dX8_lawLine_94 : decode cX8_lawLine 94 = .ok (.ldc 220, 2) := by decide +kernel
theorem dX8_lawLine_96 : decode cX8_lawLine 96 = .ok (.iconst 0, 1) := by decide +kernel
theorem dX8_lawLine_97 : decode cX8_lawLine 97 = .ok (.aload_n 0, 1) := by decide +kernel
theorem dX8_lawLine_98 : decode cX8_lawLine 98 = .ok (.invokevirtual 215, 3) := by decide +kernel
theorem dX8_lawLine_101 : decode cX8_lawLine 101 = .ok (.invokevirtual 203, 3) := by decide +kernel
theorem dX8_lawLine_104 : decode cX8_lawLine 104 = .ok (.iastore, 1) := by decide +kernel
theorem dX8_lawLine_105 : decode cX8_lawLine 105 = .ok (.aload_n 0, 1) := by decide +kernel
theorem dX8_lawLine_106 : decode cX8_lawLine 106 = .ok (.getfield 97, 3) := by decide +kernel
theorem dX8_lawLine_109 : decode cX8_lawLine 109 = .ok (.ifCond .ne 11, 3) := by decide +kernel
theorem dX8_lawLine_112 : decode cX8_lawLine 112 = .ok (.aload_n 0, 1) := by decide +kernel
theorem dX8_lawLine_113 : decode cX8_lawLine 113 = .ok (.getfield 23, 3) := by decide +kernel
theorem dX8_lawLine_116 : decode cX8_lawLine 116 = .ok (.bipush 10, 2) := by decide +kernel
theorem dX8_lawLine_118 : decode cX8_lawLine 118 = .ok (.iconst 1, 1) := by decide +kernel
theorem dX8_lawLine_119 : decode cX8_lawLine 119 = .ok (.iastore, 1) := by decide +kernel
theorem dX8_lawLine_120 : decode cX8_lawLine 120 = .ok (.return_, 1) := by decide +kernel
theorem dX8_figureLine_0 : decode cX8_figureLine 0 = .ok (.aload_n 0, 1) := by decide +kernel
theorem dX8_figureLine_1 : decode cX8_figureLine 1 = .ok (.getfield 97, 3) := by decide +kernel
theorem dX8_figureLine_4 : decode cX8_figureLine 4 = .ok (.ifCond .eq 4, 3) := by decide +kernel
theorem dX8_figureLine_7 : decode cX8_figureLine 7 = .ok (.return_, 1) := by decide +kernel
theorem dX8_figureLine_8 : decode cX8_figureLine 8 = .ok (.aload_n 0, 1) := by decide +kernel
theorem dX8_figureLine_9 : decode cX8_figureLine 9 = .ok (.aload_n 0, 1) := by decide +kernel
theorem dX8_figureLine_10 : decode cX8_figureLine 10 = .ok (.getfield 23, 3) := by decide +kernel
theorem dX8_figureLine_13 : decode cX8_figureLine 13 = .ok (.iconst 4, 1) := by decide +kernel
theorem dX8_figureLine_14 : decode cX8_figureLine 14 = .ok (.iaload, 1) := by decide +kernel
theorem dX8_figureLine_15 : decode cX8_figureLine 15 = .ok (.invokevirtual 222, 3) := by decide +kernel
theorem dX8_figureLine_18 : decode cX8_figureLine 18 = .ok (.aload_n 0, 1) := by decide +kernel
theorem dX8_figureLine_19 : decode cX8_figureLine 19 = .ok (.ldc 226, 2) := by decide +kernel
theorem dX8_figureLine_21 : decode cX8_figureLine 21 = .ok (.invokevirtual 153, 3) := by decide +kernel
theorem dX8_figureLine_24 : decode cX8_figureLine 24 = .ok (.aload_n 0, 1) := by decide +kernel
theorem dX8_figureLine_25 : decode cX8_figureLine 25 = .ok (.iconst 0, 1) := by decide +kernel
theorem dX8_figureLine_26 : decode cX8_figureLine 26 = .ok (.aload_n 0, 1) := by decide +kernel
theorem dX8_figureLine_27 : decode cX8_figureLine 27 = .ok (.invokevirtual 215, 3) := by decide +kernel
theorem dX8_figureLine_30 : decode cX8_figureLine 30 = .ok (.invokevirtual 146, 3) := by decide +kernel
theorem dX8_figureLine_33 : decode cX8_figureLine 33 = .ok (.istore_n 1, 1) := by decide +kernel
theorem dX8_figureLine_34 : decode cX8_figureLine 34 = .ok (.aload_n 0, 1) := by decide +kernel
theorem dX8_figureLine_35 : decode cX8_figureLine 35 = .ok (.getfield 97, 3) := by decide +kernel
theorem dX8_figureLine_38 : decode cX8_figureLine 38 = .ok (.ifCond .ne 26, 3) := by decide +kernel
theorem dX8_figureLine_41 : decode cX8_figureLine 41 = .ok (.aload_n 0, 1) := by decide +kernel
theorem dX8_figureLine_42 : decode cX8_figureLine 42 = .ok (.getfield 23, 3) := by decide +kernel
theorem dX8_figureLine_45 : decode cX8_figureLine 45 = .ok (.bipush 12, 2) := by decide +kernel
theorem dX8_figureLine_47 : decode cX8_figureLine 47 = .ok (.iconst 2, 1) := by decide +kernel
theorem dX8_figureLine_48 : decode cX8_figureLine 48 = .ok (.iload_n 1, 1) := by decide +kernel
theorem dX8_figureLine_49 : decode cX8_figureLine 49 = .ok (.imul, 1) := by decide +kernel
theorem dX8_figureLine_50 : decode cX8_figureLine 50 = .ok (.iadd, 1) := by decide +kernel
theorem dX8_figureLine_51 : decode cX8_figureLine 51 = .ok (.iaload, 1) := by decide +kernel
theorem dX8_figureLine_52 : decode cX8_figureLine 52 = .ok (.ifCond .le 12, 3) := by decide +kernel
theorem dX8_figureLine_55 : decode cX8_figureLine 55 = .ok (.aload_n 0, 1) := by decide +kernel
theorem dX8_figureLine_56 : decode cX8_figureLine 56 = .ok (.iconst 3, 1) := by decide +kernel
theorem dX8_figureLine_57 : decode cX8_figureLine 57 = .ok (.aload_n 0, 1) := by decide +kernel
theorem dX8_figureLine_58 : decode cX8_figureLine 58 = .ok (.getfield 78, 3) := by decide +kernel
theorem dX8_figureLine_61 : decode cX8_figureLine 61 = .ok (.invokevirtual 124, 3) := by decide +kernel
theorem dX8_figureLine_64 : decode cX8_figureLine 64 = .ok (.aload_n 0, 1) := by decide +kernel
theorem dX8_figureLine_65 : decode cX8_figureLine 65 = .ok (.invokevirtual 150, 3) := by decide +kernel
theorem dX8_figureLine_68 : decode cX8_figureLine 68 = .ok (.aload_n 0, 1) := by decide +kernel
theorem dX8_figureLine_69 : decode cX8_figureLine 69 = .ok (.ldc 228, 2) := by decide +kernel
theorem dX8_figureLine_71 : decode cX8_figureLine 71 = .ok (.invokevirtual 114, 3) := by decide +kernel
theorem dX8_figureLine_74 : decode cX8_figureLine 74 = .ok (.ifCond .eq 7, 3) := by decide +kernel
theorem dX8_figureLine_77 : decode cX8_figureLine 77 = .ok (.iconst 1, 1) := by decide +kernel
theorem dX8_figureLine_78 : decode cX8_figureLine 78 = .ok (.goto 17, 3) := by decide +kernel
theorem dX8_figureLine_81 : decode cX8_figureLine 81 = .ok (.aload_n 0, 1) := by decide +kernel
theorem dX8_figureLine_82 : decode cX8_figureLine 82 = .ok (.ldc 230, 2) := by decide +kernel
theorem dX8_figureLine_84 : decode cX8_figureLine 84 = .ok (.invokevirtual 114, 3) := by decide +kernel
theorem dX8_figureLine_87 : decode cX8_figureLine 87 = .ok (.ifCond .eq 7, 3) := by decide +kernel
theorem dX8_figureLine_90 : decode cX8_figureLine 90 = .ok (.iconst 2, 1) := by decide +kernel
theorem dX8_figureLine_91 : decode cX8_figureLine 91 = .ok (.goto 4, 3) := by decide +kernel
theorem dX8_figureLine_94 : decode cX8_figureLine 94 = .ok (.iconst (-1), 1) := by decide +kernel
theorem dX8_figureLine_95 : decode cX8_figureLine 95 = .ok (.istore_n 2, 1) := by decide +kernel
theorem dX8_figureLine_96 : decode cX8_figureLine 96 = .ok (.iload_n 2, 1) := by decide +kernel
theorem dX8_figureLine_97 : decode cX8_figureLine 97 = .ok (.ifCond .ge 12, 3) := by decide +kernel
theorem dX8_figureLine_100 : decode cX8_figureLine 100 = .ok (.aload_n 0, 1) := by decide +kernel
theorem dX8_figureLine_101 : decode cX8_figureLine 101 = .ok (.iconst 1, 1) := by decide +kernel
theorem dX8_figureLine_102 : decode cX8_figureLine 102 = .ok (.aload_n 0, 1) := by decide +kernel
theorem dX8_figureLine_103 : decode cX8_figureLine 103 = .ok (.getfield 78, 3) := by decide +kernel
theorem dX8_figureLine_106 : decode cX8_figureLine 106 = .ok (.invokevirtual 124, 3) := by decide +kernel
theorem dX8_figureLine_109 : decode cX8_figureLine 109 = .ok (.aload_n 0, 1) := by decide +kernel
theorem dX8_figureLine_110 : decode cX8_figureLine 110 = .ok (.invokevirtual 150, 3) := by decide +kernel
theorem dX8_figureLine_113 : decode cX8_figureLine 113 = .ok (.aload_n 0, 1) := by decide +kernel
theorem dX8_figureLine_114 : decode cX8_figureLine 114 = .ok (.iconst 1, 1) := by decide +kernel
theorem dX8_figureLine_115 : decode cX8_figureLine 115 = .ok (.bipush 20, 2) := by decide +kernel
theorem dX8_figureLine_117 : decode cX8_figureLine 117 = .ok (.invokevirtual 157, 3) := by decide +kernel
theorem dX8_figureLine_120 : decode cX8_figureLine 120 = .ok (.istore_n 3, 1) := by decide +kernel
theorem dX8_figureLine_121 : decode cX8_figureLine 121 = .ok (.aload_n 0, 1) := by decide +kernel
theorem dX8_figureLine_122 : decode cX8_figureLine 122 = .ok (.getfield 97, 3) := by decide +kernel
theorem dX8_figureLine_125 : decode cX8_figureLine 125 = .ok (.ifCond .eq 4, 3) := by decide +kernel
theorem dX8_figureLine_128 : decode cX8_figureLine 128 = .ok (.return_, 1) := by decide +kernel
theorem dX8_figureLine_129 : decode cX8_figureLine 129 = .ok (.aload_n 0, 1) := by decide +kernel
theorem dX8_figureLine_130 : decode cX8_figureLine 130 = .ok (.getfield 23, 3) := by decide +kernel
theorem dX8_figureLine_133 : decode cX8_figureLine 133 = .ok (.bipush 12, 2) := by decide +kernel
theorem dX8_figureLine_135 : decode cX8_figureLine 135 = .ok (.iconst 2, 1) := by decide +kernel
theorem dX8_figureLine_136 : decode cX8_figureLine 136 = .ok (.iload_n 1, 1) := by decide +kernel
theorem dX8_figureLine_137 : decode cX8_figureLine 137 = .ok (.imul, 1) := by decide +kernel
theorem dX8_figureLine_138 : decode cX8_figureLine 138 = .ok (.iadd, 1) := by decide +kernel
theorem dX8_figureLine_139 : decode cX8_figureLine 139 = .ok (.iload_n 2, 1) := by decide +kernel
theorem dX8_figureLine_140 : decode cX8_figureLine 140 = .ok (.iastore, 1) := by decide +kernel
theorem dX8_figureLine_141 : decode cX8_figureLine 141 = .ok (.aload_n 0, 1) := by decide +kernel
theorem dX8_figureLine_142 : decode cX8_figureLine 142 = .ok (.getfield 23, 3) := by decide +kernel
theorem dX8_figureLine_145 : decode cX8_figureLine 145 = .ok (.bipush 12, 2) := by decide +kernel
theorem dX8_figureLine_147 : decode cX8_figureLine 147 = .ok (.iconst 2, 1) := by decide +kernel
theorem dX8_figureLine_148 : decode cX8_figureLine 148 = .ok (.iload_n 1, 1) := by decide +kernel
theorem dX8_figureLine_149 : decode cX8_figureLine 149 = .ok (.imul, 1) := by decide +kernel
theorem dX8_figureLine_150 : decode cX8_figureLine 150 = .ok (.iadd, 1) := by decide +kernel
theorem dX8_figureLine_151 : decode cX8_figureLine 151 = .ok (.iconst 1, 1) := by decide +kernel
theorem dX8_figureLine_152 : decode cX8_figureLine 152 = .ok (.iadd, 1) := by decide +kernel
theorem dX8_figureLine_153 : decode cX8_figureLine 153 = .ok (.iload_n 3, 1) := by decide +kernel
theorem dX8_figureLine_154 : decode cX8_figureLine 154 = .ok (.iastore, 1) := by decide +kernel
theorem dX8_figureLine_155 : decode cX8_figureLine 155 = .ok (.aload_n 0, 1) := by decide +kernel
theorem dX8_figureLine_156 : decode cX8_figureLine 156 = .ok (.getfield 23, 3) := by decide +kernel
theorem dX8_figureLine_159 : decode cX8_figureLine 159 = .ok (.iconst 4, 1) := by decide +kernel
theorem dX8_figureLine_160 : decode cX8_figureLine 160 = .ok (.dup2, 1) := by decide +kernel
theorem dX8_figureLine_161 : decode cX8_figureLine 161 = .ok (.iaload, 1) := by decide +kernel
theorem dX8_figureLine_162 : decode cX8_figureLine 162 = .ok (.iconst 1, 1) := by decide +kernel
theorem dX8_figureLine_163 : decode cX8_figureLine 163 = .ok (.iadd, 1) := by decide +kernel
theorem dX8_figureLine_164 : decode cX8_figureLine 164 = .ok (.iastore, 1) := by decide +kernel
theorem dX8_figureLine_165 : decode cX8_figureLine 165 = .ok (.return_, 1) := by decide +kernel
theorem dX8_watcherLine_0 : decode cX8_watcherLine 0 = .ok (.aload_n 0, 1) := by decide +kernel
theorem dX8_watcherLine_1 : decode cX8_watcherLine 1 = .ok (.getfield 97, 3) := by decide +kernel
theorem dX8_watcherLine_4 : decode cX8_watcherLine 4 = .ok (.ifCond .eq 4, 3) := by decide +kernel
theorem dX8_watcherLine_7 : decode cX8_watcherLine 7 = .ok (.return_, 1) := by decide +kernel
theorem dX8_watcherLine_8 : decode cX8_watcherLine 8 = .ok (.bipush 30, 2) := by decide +kernel
theorem dX8_watcherLine_10 : decode cX8_watcherLine 10 = .ok (.iconst 2, 1) := by decide +kernel
theorem dX8_watcherLine_11 : decode cX8_watcherLine 11 = .ok (.aload_n 0, 1) := by decide +kernel
theorem dX8_watcherLine_12 : decode cX8_watcherLine 12 = .ok (.getfield 23, 3) := by decide +kernel
theorem dX8_watcherLine_15 : decode cX8_watcherLine 15 = .ok (.iconst 5, 1) := by decide +kernel
theorem dX8_watcherLine_16 : decode cX8_watcherLine 16 = .ok (.iaload, 1) := by decide +kernel
theorem dX8_watcherLine_17 : decode cX8_watcherLine 17 = .ok (.imul, 1) := by decide +kernel
theorem dX8_watcherLine_18 : decode cX8_watcherLine 18 = .ok (.iadd, 1) := by decide +kernel
theorem dX8_watcherLine_19 : decode cX8_watcherLine 19 = .ok (.istore_n 1, 1) := by decide +kernel
theorem dX8_watcherLine_20 : decode cX8_watcherLine 20 = .ok (.aload_n 0, 1) := by decide +kernel
theorem dX8_watcherLine_21 : decode cX8_watcherLine 21 = .ok (.bipush 9, 2) := by decide +kernel
theorem dX8_watcherLine_23 : decode cX8_watcherLine 23 = .ok (.aload_n 0, 1) := by decide +kernel
theorem dX8_watcherLine_24 : decode cX8_watcherLine 24 = .ok (.getfield 23, 3) := by decide +kernel
theorem dX8_watcherLine_27 : decode cX8_watcherLine 27 = .ok (.iconst 5, 1) := by decide +kernel
theorem dX8_watcherLine_28 : decode cX8_watcherLine 28 = .ok (.iaload, 1) := by decide +kernel
theorem dX8_watcherLine_29 : decode cX8_watcherLine 29 = .ok (.iadd, 1) := by decide +kernel
theorem dX8_watcherLine_30 : decode cX8_watcherLine 30 = .ok (.invokevirtual 222, 3) := by decide +kernel
theorem dX8_watcherLine_33 : decode cX8_watcherLine 33 = .ok (.aload_n 0, 1) := by decide +kernel
theorem dX8_watcherLine_34 : decode cX8_watcherLine 34 = .ok (.getfield 23, 3) := by decide +kernel
theorem dX8_watcherLine_37 : decode cX8_watcherLine 37 = .ok (.iload_n 1, 1) := by decide +kernel
theorem dX8_watcherLine_38 : decode cX8_watcherLine 38 = .ok (.aload_n 0, 1) := by decide +kernel
theorem dX8_watcherLine_39 : decode cX8_watcherLine 39 = .ok (.ldc 232, 2) := by decide +kernel
theorem dX8_watcherLine_41 : decode cX8_watcherLine 41 = .ok (.iconst 0, 1) := by decide +kernel
theorem dX8_watcherLine_42 : decode cX8_watcherLine 42 = .ok (.aload_n 0, 1) := by decide +kernel
theorem dX8_watcherLine_43 : decode cX8_watcherLine 43 = .ok (.invokevirtual 215, 3) := by decide +kernel
theorem dX8_watcherLine_46 : decode cX8_watcherLine 46 = .ok (.invokevirtual 203, 3) := by decide +kernel
theorem dX8_watcherLine_49 : decode cX8_watcherLine 49 = .ok (.iastore, 1) := by decide +kernel
theorem dX8_watcherLine_50 : decode cX8_watcherLine 50 = .ok (.aload_n 0, 1) := by decide +kernel
theorem dX8_watcherLine_51 : decode cX8_watcherLine 51 = .ok (.getfield 23, 3) := by decide +kernel
theorem dX8_watcherLine_54 : decode cX8_watcherLine 54 = .ok (.iload_n 1, 1) := by decide +kernel
theorem dX8_watcherLine_55 : decode cX8_watcherLine 55 = .ok (.iconst 1, 1) := by decide +kernel
theorem dX8_watcherLine_56 : decode cX8_watcherLine 56 = .ok (.iadd, 1) := by decide +kernel
theorem dX8_watcherLine_57 : decode cX8_watcherLine 57 = .ok (.aload_n 0, 1) := by decide +kernel
theorem dX8_watcherLine_58 : decode cX8_watcherLine 58 = .ok (.ldc 233, 2) := by decide +kernel
theorem dX8_watcherLine_60 : decode cX8_watcherLine 60 = .ok (.iconst 0, 1) := by decide +kernel
theorem dX8_watcherLine_61 : decode cX8_watcherLine 61 = .ok (.aload_n 0, 1) := by decide +kernel
theorem dX8_watcherLine_62 : decode cX8_watcherLine 62 = .ok (.invokevirtual 215, 3) := by decide +kernel
theorem dX8_watcherLine_65 : decode cX8_watcherLine 65 = .ok (.invokevirtual 203, 3) := by decide +kernel
theorem dX8_watcherLine_68 : decode cX8_watcherLine 68 = .ok (.iastore, 1) := by decide +kernel
theorem dX8_watcherLine_69 : decode cX8_watcherLine 69 = .ok (.aload_n 0, 1) := by decide +kernel
theorem dX8_watcherLine_70 : decode cX8_watcherLine 70 = .ok (.getfield 97, 3) := by decide +kernel
theorem dX8_watcherLine_73 : decode cX8_watcherLine 73 = .ok (.ifCond .ne 13, 3) := by decide +kernel
theorem dX8_watcherLine_76 : decode cX8_watcherLine 76 = .ok (.aload_n 0, 1) := by decide +kernel
theorem dX8_watcherLine_77 : decode cX8_watcherLine 77 = .ok (.getfield 23, 3) := by decide +kernel
theorem dX8_watcherLine_80 : decode cX8_watcherLine 80 = .ok (.iconst 5, 1) := by decide +kernel
theorem dX8_watcherLine_81 : decode cX8_watcherLine 81 = .ok (.dup2, 1) := by decide +kernel
theorem dX8_watcherLine_82 : decode cX8_watcherLine 82 = .ok (.iaload, 1) := by decide +kernel
theorem dX8_watcherLine_83 : decode cX8_watcherLine 83 = .ok (.iconst 1, 1) := by decide +kernel
theorem dX8_watcherLine_84 : decode cX8_watcherLine 84 = .ok (.iadd, 1) := by decide +kernel
theorem dX8_watcherLine_85 : decode cX8_watcherLine 85 = .ok (.iastore, 1) := by decide +kernel
theorem dX8_watcherLine_86 : decode cX8_watcherLine 86 = .ok (.return_, 1) := by decide +kernel
theorem dX8_seenLine_0 : decode cX8_seenLine 0 = .ok (.aload_n 0, 1) := by decide +kernel
theorem dX8_seenLine_1 : decode cX8_seenLine 1 = .ok (.getfield 97, 3) := by decide +kernel
theorem dX8_seenLine_4 : decode cX8_seenLine 4 = .ok (.ifCond .eq 4, 3) := by decide +kernel
theorem dX8_seenLine_7 : decode cX8_seenLine 7 = .ok (.return_, 1) := by decide +kernel
theorem dX8_seenLine_8 : decode cX8_seenLine 8 = .ok (.bipush 36, 2) := by decide +kernel
theorem dX8_seenLine_10 : decode cX8_seenLine 10 = .ok (.iconst 2, 1) := by decide +kernel
theorem dX8_seenLine_11 : decode cX8_seenLine 11 = .ok (.aload_n 0, 1) := by decide +kernel
theorem dX8_seenLine_12 : decode cX8_seenLine 12 = .ok (.getfield 23, 3) := by decide +kernel
theorem dX8_seenLine_15 : decode cX8_seenLine 15 = .ok (.bipush 6, 2) := by decide +kernel
theorem dX8_seenLine_17 : decode cX8_seenLine 17 = .ok (.iaload, 1) := by decide +kernel
theorem dX8_seenLine_18 : decode cX8_seenLine 18 = .ok (.imul, 1) := by decide +kernel
theorem dX8_seenLine_19 : decode cX8_seenLine 19 = .ok (.iadd, 1) := by decide +kernel
theorem dX8_seenLine_20 : decode cX8_seenLine 20 = .ok (.istore_n 1, 1) := by decide +kernel
theorem dX8_seenLine_21 : decode cX8_seenLine 21 = .ok (.aload_n 0, 1) := by decide +kernel
theorem dX8_seenLine_22 : decode cX8_seenLine 22 = .ok (.iconst 0, 1) := by decide +kernel
theorem dX8_seenLine_23 : decode cX8_seenLine 23 = .ok (.aload_n 0, 1) := by decide +kernel
theorem dX8_seenLine_24 : decode cX8_seenLine 24 = .ok (.invokevirtual 215, 3) := by decide +kernel
theorem dX8_seenLine_27 : decode cX8_seenLine 27 = .ok (.invokevirtual 157, 3) := by decide +kernel
theorem dX8_seenLine_30 : decode cX8_seenLine 30 = .ok (.istore_n 2, 1) := by decide +kernel
theorem dX8_seenLine_31 : decode cX8_seenLine 31 = .ok (.aload_n 0, 1) := by decide +kernel
theorem dX8_seenLine_32 : decode cX8_seenLine 32 = .ok (.ldc 234, 2) := by decide +kernel
theorem dX8_seenLine_34 : decode cX8_seenLine 34 = .ok (.invokevirtual 153, 3) := by decide +kernel
theorem dX8_seenLine_37 : decode cX8_seenLine 37 = .ok (.aload_n 0, 1) := by decide +kernel
theorem dX8_seenLine_38 : decode cX8_seenLine 38 = .ok (.iconst 0, 1) := by decide +kernel
theorem dX8_seenLine_39 : decode cX8_seenLine 39 = .ok (.sipush 999, 3) := by decide +kernel
theorem dX8_seenLine_42 : decode cX8_seenLine 42 = .ok (.invokevirtual 146, 3) := by decide +kernel
theorem dX8_seenLine_45 : decode cX8_seenLine 45 = .ok (.istore_n 3, 1) := by decide +kernel
theorem dX8_seenLine_46 : decode cX8_seenLine 46 = .ok (.iconst 0, 1) := by decide +kernel
theorem dX8_seenLine_47 : decode cX8_seenLine 47 = .ok (.istore 4, 2) := by decide +kernel
theorem dX8_seenLine_49 : decode cX8_seenLine 49 = .ok (.iload 4, 2) := by decide +kernel
theorem dX8_seenLine_51 : decode cX8_seenLine 51 = .ok (.aload_n 0, 1) := by decide +kernel
theorem dX8_seenLine_52 : decode cX8_seenLine 52 = .ok (.getfield 23, 3) := by decide +kernel
theorem dX8_seenLine_55 : decode cX8_seenLine 55 = .ok (.bipush 6, 2) := by decide +kernel
theorem dX8_seenLine_57 : decode cX8_seenLine 57 = .ok (.iaload, 1) := by decide +kernel
theorem dX8_seenLine_58 : decode cX8_seenLine 58 = .ok (.if_icmp .ge 43, 3) := by decide +kernel
theorem dX8_seenLine_61 : decode cX8_seenLine 61 = .ok (.aload_n 0, 1) := by decide +kernel
theorem dX8_seenLine_62 : decode cX8_seenLine 62 = .ok (.getfield 97, 3) := by decide +kernel
theorem dX8_seenLine_65 : decode cX8_seenLine 65 = .ok (.ifCond .ne 30, 3) := by decide +kernel
theorem dX8_seenLine_68 : decode cX8_seenLine 68 = .ok (.aload_n 0, 1) := by decide +kernel
theorem dX8_seenLine_69 : decode cX8_seenLine 69 = .ok (.getfield 23, 3) := by decide +kernel
theorem dX8_seenLine_72 : decode cX8_seenLine 72 = .ok (.bipush 36, 2) := by decide +kernel
theorem dX8_seenLine_74 : decode cX8_seenLine 74 = .ok (.iconst 2, 1) := by decide +kernel
theorem dX8_seenLine_75 : decode cX8_seenLine 75 = .ok (.iload 4, 2) := by decide +kernel
theorem dX8_seenLine_77 : decode cX8_seenLine 77 = .ok (.imul, 1) := by decide +kernel
theorem dX8_seenLine_78 : decode cX8_seenLine 78 = .ok (.iadd, 1) := by decide +kernel
theorem dX8_seenLine_79 : decode cX8_seenLine 79 = .ok (.iconst 1, 1) := by decide +kernel
theorem dX8_seenLine_80 : decode cX8_seenLine 80 = .ok (.iadd, 1) := by decide +kernel
theorem dX8_seenLine_81 : decode cX8_seenLine 81 = .ok (.iaload, 1) := by decide +kernel
theorem dX8_seenLine_82 : decode cX8_seenLine 82 = .ok (.iload_n 3, 1) := by decide +kernel
theorem dX8_seenLine_83 : decode cX8_seenLine 83 = .ok (.if_icmp .ne 12, 3) := by decide +kernel
theorem dX8_seenLine_86 : decode cX8_seenLine 86 = .ok (.aload_n 0, 1) := by decide +kernel
theorem dX8_seenLine_87 : decode cX8_seenLine 87 = .ok (.iconst 3, 1) := by decide +kernel
theorem dX8_seenLine_88 : decode cX8_seenLine 88 = .ok (.aload_n 0, 1) := by decide +kernel
theorem dX8_seenLine_89 : decode cX8_seenLine 89 = .ok (.getfield 78, 3) := by decide +kernel
theorem dX8_seenLine_92 : decode cX8_seenLine 92 = .ok (.invokevirtual 124, 3) := by decide +kernel
theorem dX8_seenLine_95 : decode cX8_seenLine 95 = .ok (.iinc 4 1, 3) := by decide +kernel
theorem dX8_seenLine_98 : decode cX8_seenLine 98 = .ok (.goto (-49), 3) := by decide +kernel
theorem dX8_seenLine_101 : decode cX8_seenLine 101 = .ok (.aload_n 0, 1) := by decide +kernel
theorem dX8_seenLine_102 : decode cX8_seenLine 102 = .ok (.invokevirtual 150, 3) := by decide +kernel
theorem dX8_seenLine_105 : decode cX8_seenLine 105 = .ok (.aload_n 0, 1) := by decide +kernel
theorem dX8_seenLine_106 : decode cX8_seenLine 106 = .ok (.getfield 97, 3) := by decide +kernel
theorem dX8_seenLine_109 : decode cX8_seenLine 109 = .ok (.ifCond .eq 4, 3) := by decide +kernel
theorem dX8_seenLine_112 : decode cX8_seenLine 112 = .ok (.return_, 1) := by decide +kernel
theorem dX8_seenLine_113 : decode cX8_seenLine 113 = .ok (.aload_n 0, 1) := by decide +kernel
theorem dX8_seenLine_114 : decode cX8_seenLine 114 = .ok (.getfield 23, 3) := by decide +kernel
theorem dX8_seenLine_117 : decode cX8_seenLine 117 = .ok (.iload_n 1, 1) := by decide +kernel
theorem dX8_seenLine_118 : decode cX8_seenLine 118 = .ok (.iload_n 2, 1) := by decide +kernel
theorem dX8_seenLine_119 : decode cX8_seenLine 119 = .ok (.iastore, 1) := by decide +kernel
theorem dX8_seenLine_120 : decode cX8_seenLine 120 = .ok (.aload_n 0, 1) := by decide +kernel
theorem dX8_seenLine_121 : decode cX8_seenLine 121 = .ok (.getfield 23, 3) := by decide +kernel
theorem dX8_seenLine_124 : decode cX8_seenLine 124 = .ok (.iload_n 1, 1) := by decide +kernel
theorem dX8_seenLine_125 : decode cX8_seenLine 125 = .ok (.iconst 1, 1) := by decide +kernel
theorem dX8_seenLine_126 : decode cX8_seenLine 126 = .ok (.iadd, 1) := by decide +kernel
theorem dX8_seenLine_127 : decode cX8_seenLine 127 = .ok (.iload_n 3, 1) := by decide +kernel
theorem dX8_seenLine_128 : decode cX8_seenLine 128 = .ok (.iastore, 1) := by decide +kernel
theorem dX8_seenLine_129 : decode cX8_seenLine 129 = .ok (.aload_n 0, 1) := by decide +kernel
theorem dX8_seenLine_130 : decode cX8_seenLine 130 = .ok (.getfield 23, 3) := by decide +kernel
theorem dX8_seenLine_133 : decode cX8_seenLine 133 = .ok (.bipush 6, 2) := by decide +kernel
theorem dX8_seenLine_135 : decode cX8_seenLine 135 = .ok (.dup2, 1) := by decide +kernel
theorem dX8_seenLine_136 : decode cX8_seenLine 136 = .ok (.iaload, 1) := by decide +kernel
theorem dX8_seenLine_137 : decode cX8_seenLine 137 = .ok (.iconst 1, 1) := by decide +kernel
theorem dX8_seenLine_138 : decode cX8_seenLine 138 = .ok (.iadd, 1) := by decide +kernel
theorem dX8_seenLine_139 : decode cX8_seenLine 139 = .ok (.iastore, 1) := by decide +kernel
theorem dX8_seenLine_140 : decode cX8_seenLine 140 = .ok (.return_, 1) := by decide +kernel
theorem dX8_fault_0 : decode cX8_fault 0 = .ok (.aload_n 0, 1) := by decide +kernel
theorem dX8_fault_1 : decode cX8_fault 1 = .ok (.iconst 0, 1) := by decide +kernel
theorem dX8_fault_2 : decode cX8_fault 2 = .ok (.putfield 59, 3) := by decide +kernel
theorem dX8_fault_5 : decode cX8_fault 5 = .ok (.aload_n 0, 1) := by decide +kernel
theorem dX8_fault_6 : decode cX8_fault 6 = .ok (.getfield 101, 3) := by decide +kernel
theorem dX8_fault_9 : decode cX8_fault 9 = .ok (.ireturn, 1) := by decide +kernel
theorem dX8_where_0 : decode cX8_where 0 = .ok (.aload_n 0, 1) := by decide +kernel
theorem dX8_where_1 : decode cX8_where 1 = .ok (.iconst 0, 1) := by decide +kernel
theorem dX8_where_2 : decode cX8_where 2 = .ok (.putfield 59, 3) := by decide +kernel
theorem dX8_where_5 : decode cX8_where 5 = .ok (.aload_n 0, 1) := by decide +kernel
theorem dX8_where_6 : decode cX8_where 6 = .ok (.getfield 62, 3) := by decide +kernel
theorem dX8_where_9 : decode cX8_where 9 = .ok (.iconst 4, 1) := by decide +kernel
theorem dX8_where_10 : decode cX8_where 10 = .ok (.if_icmp .ne 10, 3) := by decide +kernel
theorem dX8_where_13 : decode cX8_where 13 = .ok (.aload_n 0, 1) := by decide +kernel
theorem dX8_where_14 : decode cX8_where 14 = .ok (.getfield 13, 3) := by decide +kernel
theorem dX8_where_17 : decode cX8_where 17 = .ok (.goto 4, 3) := by decide +kernel
theorem dX8_where_20 : decode cX8_where 20 = .ok (.iconst (-1), 1) := by decide +kernel
theorem dX8_where_21 : decode cX8_where 21 = .ok (.ireturn, 1) := by decide +kernel
theorem dX8_isFigure_0 : decode cX8_isFigure 0 = .ok (.aload_n 0, 1) := by decide +kernel
theorem dX8_isFigure_1 : decode cX8_isFigure 1 = .ok (.getfield 173, 3) := by decide +kernel
theorem dX8_isFigure_4 : decode cX8_isFigure 4 = .ok (.ifCond .eq 23, 3) := by decide +kernel
theorem dX8_isFigure_7 : decode cX8_isFigure 7 = .ok (.iload_n 1, 1) := by decide +kernel
theorem dX8_isFigure_8 : decode cX8_isFigure 8 = .ok (.iconst 0, 1) := by decide +kernel
theorem dX8_isFigure_9 : decode cX8_isFigure 9 = .ok (.aload_n 0, 1) := by decide +kernel
theorem dX8_isFigure_10 : decode cX8_isFigure 10 = .ok (.getfield 20, 3) := by decide +kernel
theorem dX8_isFigure_13 : decode cX8_isFigure 13 = .ok (.iconst 0, 1) := by decide +kernel
theorem dX8_isFigure_14 : decode cX8_isFigure 14 = .ok (.iaload, 1) := by decide +kernel
theorem dX8_isFigure_15 : decode cX8_isFigure 15 = .ok (.iconst 1, 1) := by decide +kernel
theorem dX8_isFigure_16 : decode cX8_isFigure 16 = .ok (.isub, 1) := by decide +kernel
theorem dX8_isFigure_17 : decode cX8_isFigure 17 = .ok (.invokestatic 142, 3) := by decide +kernel
theorem dX8_isFigure_20 : decode cX8_isFigure 20 = .ok (.ifCond .eq 7, 3) := by decide +kernel
theorem dX8_isFigure_23 : decode cX8_isFigure 23 = .ok (.iconst 1, 1) := by decide +kernel
theorem dX8_isFigure_24 : decode cX8_isFigure 24 = .ok (.goto 4, 3) := by decide +kernel
theorem dX8_isFigure_27 : decode cX8_isFigure 27 = .ok (.iconst 0, 1) := by decide +kernel
theorem dX8_isFigure_28 : decode cX8_isFigure 28 = .ok (.ireturn, 1) := by decide +kernel
theorem dX8_isWatcher_0 : decode cX8_isWatcher 0 = .ok (.aload_n 0, 1) := by decide +kernel
theorem dX8_isWatcher_1 : decode cX8_isWatcher 1 = .ok (.getfield 173, 3) := by decide +kernel
theorem dX8_isWatcher_4 : decode cX8_isWatcher 4 = .ok (.ifCond .eq 23, 3) := by decide +kernel
theorem dX8_isWatcher_7 : decode cX8_isWatcher 7 = .ok (.iload_n 1, 1) := by decide +kernel
theorem dX8_isWatcher_8 : decode cX8_isWatcher 8 = .ok (.iconst 0, 1) := by decide +kernel
theorem dX8_isWatcher_9 : decode cX8_isWatcher 9 = .ok (.aload_n 0, 1) := by decide +kernel
theorem dX8_isWatcher_10 : decode cX8_isWatcher 10 = .ok (.getfield 20, 3) := by decide +kernel
theorem dX8_isWatcher_13 : decode cX8_isWatcher 13 = .ok (.iconst 5, 1) := by decide +kernel
theorem dX8_isWatcher_14 : decode cX8_isWatcher 14 = .ok (.iaload, 1) := by decide +kernel
theorem dX8_isWatcher_15 : decode cX8_isWatcher 15 = .ok (.iconst 1, 1) := by decide +kernel
theorem dX8_isWatcher_16 : decode cX8_isWatcher 16 = .ok (.isub, 1) := by decide +kernel
theorem dX8_isWatcher_17 : decode cX8_isWatcher 17 = .ok (.invokestatic 142, 3) := by decide +kernel
theorem dX8_isWatcher_20 : decode cX8_isWatcher 20 = .ok (.ifCond .eq 7, 3) := by decide +kernel
theorem dX8_isWatcher_23 : decode cX8_isWatcher 23 = .ok (.iconst 1, 1) := by decide +kernel
theorem dX8_isWatcher_24 : decode cX8_isWatcher 24 = .ok (.goto 4, 3) := by decide +kernel
theorem dX8_isWatcher_27 : decode cX8_isWatcher 27 = .ok (.iconst 0, 1) := by decide +kernel
theorem dX8_isWatcher_28 : decode cX8_isWatcher 28 = .ok (.ireturn, 1) := by decide +kernel
theorem dX8_why_0 : decode cX8_why 0 = .ok (.iload_n 1, 1) := by decide +kernel
theorem dX8_why_1 : decode cX8_why 1 = .ok (.ifCond .ne 7, 3) := by decide +kernel
theorem dX8_why_4 : decode cX8_why 4 = .ok (.iconst 1, 1) := by decide +kernel
theorem dX8_why_5 : decode cX8_why 5 = .ok (.goto 12, 3) := by decide +kernel
theorem dX8_why_8 : decode cX8_why 8 = .ok (.iload_n 2, 1) := by decide +kernel
theorem dX8_why_9 : decode cX8_why 9 = .ok (.ifCond .eq 7, 3) := by decide +kernel
theorem dX8_why_12 : decode cX8_why 12 = .ok (.iconst 0, 1) := by decide +kernel
theorem dX8_why_13 : decode cX8_why 13 = .ok (.goto 4, 3) := by decide +kernel
theorem dX8_why_16 : decode cX8_why 16 = .ok (.iconst 2, 1) := by decide +kernel
theorem dX8_why_17 : decode cX8_why 17 = .ok (.ireturn, 1) := by decide +kernel
theorem dX8_watchAsTold_0 : decode cX8_watchAsTold 0 = .ok (.iconst 0, 1) := by decide +kernel
theorem dX8_watchAsTold_1 : decode cX8_watchAsTold 1 = .ok (.istore_n 1, 1) := by decide +kernel
theorem dX8_watchAsTold_2 : decode cX8_watchAsTold 2 = .ok (.iload_n 1, 1) := by decide +kernel
theorem dX8_watchAsTold_3 : decode cX8_watchAsTold 3 = .ok (.aload_n 0, 1) := by decide +kernel
theorem dX8_watchAsTold_4 : decode cX8_watchAsTold 4 = .ok (.getfield 20, 3) := by decide +kernel
theorem dX8_watchAsTold_7 : decode cX8_watchAsTold 7 = .ok (.iconst 5, 1) := by decide +kernel
theorem dX8_watchAsTold_8 : decode cX8_watchAsTold 8 = .ok (.iaload, 1) := by decide +kernel
theorem dX8_watchAsTold_9 : decode cX8_watchAsTold 9 = .ok (.if_icmp .ge 45, 3) := by decide +kernel
theorem dX8_watchAsTold_12 : decode cX8_watchAsTold 12 = .ok (.aload_n 0, 1) := by decide +kernel
theorem dX8_watchAsTold_13 : decode cX8_watchAsTold 13 = .ok (.getfield 38, 3) := by decide +kernel
theorem dX8_watchAsTold_16 : decode cX8_watchAsTold 16 = .ok (.iload_n 1, 1) := by decide +kernel
theorem dX8_watchAsTold_17 : decode cX8_watchAsTold 17 = .ok (.aload_n 0, 1) := by decide +kernel
theorem dX8_watchAsTold_18 : decode cX8_watchAsTold 18 = .ok (.getfield 20, 3) := by decide +kernel
theorem dX8_watchAsTold_21 : decode cX8_watchAsTold 21 = .ok (.bipush 30, 2) := by decide +kernel
theorem dX8_watchAsTold_23 : decode cX8_watchAsTold 23 = .ok (.iconst 2, 1) := by decide +kernel
theorem dX8_watchAsTold_24 : decode cX8_watchAsTold 24 = .ok (.iload_n 1, 1) := by decide +kernel
theorem dX8_watchAsTold_25 : decode cX8_watchAsTold 25 = .ok (.imul, 1) := by decide +kernel
theorem dX8_watchAsTold_26 : decode cX8_watchAsTold 26 = .ok (.iadd, 1) := by decide +kernel
theorem dX8_watchAsTold_27 : decode cX8_watchAsTold 27 = .ok (.iaload, 1) := by decide +kernel
theorem dX8_watchAsTold_28 : decode cX8_watchAsTold 28 = .ok (.iastore, 1) := by decide +kernel
theorem dX8_watchAsTold_29 : decode cX8_watchAsTold 29 = .ok (.aload_n 0, 1) := by decide +kernel
theorem dX8_watchAsTold_30 : decode cX8_watchAsTold 30 = .ok (.getfield 41, 3) := by decide +kernel
theorem dX8_watchAsTold_33 : decode cX8_watchAsTold 33 = .ok (.iload_n 1, 1) := by decide +kernel
theorem dX8_watchAsTold_34 : decode cX8_watchAsTold 34 = .ok (.aload_n 0, 1) := by decide +kernel
theorem dX8_watchAsTold_35 : decode cX8_watchAsTold 35 = .ok (.getfield 20, 3) := by decide +kernel
theorem dX8_watchAsTold_38 : decode cX8_watchAsTold 38 = .ok (.bipush 30, 2) := by decide +kernel
theorem dX8_watchAsTold_40 : decode cX8_watchAsTold 40 = .ok (.iconst 2, 1) := by decide +kernel
theorem dX8_watchAsTold_41 : decode cX8_watchAsTold 41 = .ok (.iload_n 1, 1) := by decide +kernel
theorem dX8_watchAsTold_42 : decode cX8_watchAsTold 42 = .ok (.imul, 1) := by decide +kernel
theorem dX8_watchAsTold_43 : decode cX8_watchAsTold 43 = .ok (.iadd, 1) := by decide +kernel
theorem dX8_watchAsTold_44 : decode cX8_watchAsTold 44 = .ok (.iconst 1, 1) := by decide +kernel
theorem dX8_watchAsTold_45 : decode cX8_watchAsTold 45 = .ok (.iadd, 1) := by decide +kernel
theorem dX8_watchAsTold_46 : decode cX8_watchAsTold 46 = .ok (.iaload, 1) := by decide +kernel
theorem dX8_watchAsTold_47 : decode cX8_watchAsTold 47 = .ok (.iastore, 1) := by decide +kernel
theorem dX8_watchAsTold_48 : decode cX8_watchAsTold 48 = .ok (.iinc 1 1, 3) := by decide +kernel
theorem dX8_watchAsTold_51 : decode cX8_watchAsTold 51 = .ok (.goto (-49), 3) := by decide +kernel
theorem dX8_watchAsTold_54 : decode cX8_watchAsTold 54 = .ok (.aload_n 0, 1) := by decide +kernel
theorem dX8_watchAsTold_55 : decode cX8_watchAsTold 55 = .ok (.iconst 0, 1) := by decide +kernel
theorem dX8_watchAsTold_56 : decode cX8_watchAsTold 56 = .ok (.putfield 235, 3) := by decide +kernel
theorem dX8_watchAsTold_59 : decode cX8_watchAsTold 59 = .ok (.return_, 1) := by decide +kernel
theorem dX8_watcherAt_0 : decode cX8_watcherAt 0 = .ok (.aload_n 0, 1) := by decide +kernel
theorem dX8_watcherAt_1 : decode cX8_watcherAt 1 = .ok (.getfield 41, 3) := by decide +kernel
theorem dX8_watcherAt_4 : decode cX8_watcherAt 4 = .ok (.iload_n 1, 1) := by decide +kernel
theorem dX8_watcherAt_5 : decode cX8_watcherAt 5 = .ok (.iaload, 1) := by decide +kernel
theorem dX8_watcherAt_6 : decode cX8_watcherAt 6 = .ok (.aload_n 0, 1) := by decide +kernel
theorem dX8_watcherAt_7 : decode cX8_watcherAt 7 = .ok (.getfield 38, 3) := by decide +kernel
theorem dX8_watcherAt_10 : decode cX8_watcherAt 10 = .ok (.iload_n 1, 1) := by decide +kernel
theorem dX8_watcherAt_11 : decode cX8_watcherAt 11 = .ok (.iaload, 1) := by decide +kernel
theorem dX8_watcherAt_12 : decode cX8_watcherAt 12 = .ok (.isub, 1) := by decide +kernel
theorem dX8_watcherAt_13 : decode cX8_watcherAt 13 = .ok (.istore_n 3, 1) := by decide +kernel
theorem dX8_watcherAt_14 : decode cX8_watcherAt 14 = .ok (.iload_n 3, 1) := by decide +kernel
theorem dX8_watcherAt_15 : decode cX8_watcherAt 15 = .ok (.ifCond .ge 8, 3) := by decide +kernel
theorem dX8_watcherAt_18 : decode cX8_watcherAt 18 = .ok (.iload_n 3, 1) := by decide +kernel
theorem dX8_watcherAt_19 : decode cX8_watcherAt 19 = .ok (.ineg, 1) := by decide +kernel
theorem dX8_watcherAt_20 : decode cX8_watcherAt 20 = .ok (.goto 4, 3) := by decide +kernel
theorem dX8_watcherAt_23 : decode cX8_watcherAt 23 = .ok (.iload_n 3, 1) := by decide +kernel
theorem dX8_watcherAt_24 : decode cX8_watcherAt 24 = .ok (.istore 4, 2) := by decide +kernel
theorem dX8_watcherAt_26 : decode cX8_watcherAt 26 = .ok (.iload 4, 2) := by decide +kernel
theorem dX8_watcherAt_28 : decode cX8_watcherAt 28 = .ok (.ifCond .ne 10, 3) := by decide +kernel
theorem dX8_watcherAt_31 : decode cX8_watcherAt 31 = .ok (.aload_n 0, 1) := by decide +kernel
theorem dX8_watcherAt_32 : decode cX8_watcherAt 32 = .ok (.getfield 38, 3) := by decide +kernel
theorem dX8_watcherAt_35 : decode cX8_watcherAt 35 = .ok (.iload_n 1, 1) := by decide +kernel
theorem dX8_watcherAt_36 : decode cX8_watcherAt 36 = .ok (.iaload, 1) := by decide +kernel
theorem dX8_watcherAt_37 : decode cX8_watcherAt 37 = .ok (.ireturn, 1) := by decide +kernel
theorem dX8_watcherAt_38 : decode cX8_watcherAt 38 = .ok (.iload_n 2, 1) := by decide +kernel
theorem dX8_watcherAt_39 : decode cX8_watcherAt 39 = .ok (.iconst 2, 1) := by decide +kernel
theorem dX8_watcherAt_40 : decode cX8_watcherAt 40 = .ok (.iload 4, 2) := by decide +kernel
theorem dX8_watcherAt_42 : decode cX8_watcherAt 42 = .ok (.imul, 1) := by decide +kernel
theorem dX8_watcherAt_43 : decode cX8_watcherAt 43 = .ok (.irem, 1) := by decide +kernel
theorem dX8_watcherAt_44 : decode cX8_watcherAt 44 = .ok (.istore 5, 2) := by decide +kernel
theorem dX8_watcherAt_46 : decode cX8_watcherAt 46 = .ok (.iload 5, 2) := by decide +kernel
theorem dX8_watcherAt_48 : decode cX8_watcherAt 48 = .ok (.iload 4, 2) := by decide +kernel
theorem dX8_watcherAt_50 : decode cX8_watcherAt 50 = .ok (.if_icmp .le 12, 3) := by decide +kernel
theorem dX8_watcherAt_53 : decode cX8_watcherAt 53 = .ok (.iconst 2, 1) := by decide +kernel
theorem dX8_watcherAt_54 : decode cX8_watcherAt 54 = .ok (.iload 4, 2) := by decide +kernel
theorem dX8_watcherAt_56 : decode cX8_watcherAt 56 = .ok (.imul, 1) := by decide +kernel
theorem dX8_watcherAt_57 : decode cX8_watcherAt 57 = .ok (.iload 5, 2) := by decide +kernel
theorem dX8_watcherAt_59 : decode cX8_watcherAt 59 = .ok (.isub, 1) := by decide +kernel
theorem dX8_watcherAt_60 : decode cX8_watcherAt 60 = .ok (.istore 5, 2) := by decide +kernel
theorem dX8_watcherAt_62 : decode cX8_watcherAt 62 = .ok (.iload_n 3, 1) := by decide +kernel
theorem dX8_watcherAt_63 : decode cX8_watcherAt 63 = .ok (.ifCond .ge 15, 3) := by decide +kernel
theorem dX8_watcherAt_66 : decode cX8_watcherAt 66 = .ok (.aload_n 0, 1) := by decide +kernel
theorem dX8_watcherAt_67 : decode cX8_watcherAt 67 = .ok (.getfield 38, 3) := by decide +kernel
theorem dX8_watcherAt_70 : decode cX8_watcherAt 70 = .ok (.iload_n 1, 1) := by decide +kernel
theorem dX8_watcherAt_71 : decode cX8_watcherAt 71 = .ok (.iaload, 1) := by decide +kernel
theorem dX8_watcherAt_72 : decode cX8_watcherAt 72 = .ok (.iload 5, 2) := by decide +kernel
theorem dX8_watcherAt_74 : decode cX8_watcherAt 74 = .ok (.isub, 1) := by decide +kernel
theorem dX8_watcherAt_75 : decode cX8_watcherAt 75 = .ok (.goto 12, 3) := by decide +kernel
theorem dX8_watcherAt_78 : decode cX8_watcherAt 78 = .ok (.aload_n 0, 1) := by decide +kernel
theorem dX8_watcherAt_79 : decode cX8_watcherAt 79 = .ok (.getfield 38, 3) := by decide +kernel
theorem dX8_watcherAt_82 : decode cX8_watcherAt 82 = .ok (.iload_n 1, 1) := by decide +kernel
theorem dX8_watcherAt_83 : decode cX8_watcherAt 83 = .ok (.iaload, 1) := by decide +kernel
theorem dX8_watcherAt_84 : decode cX8_watcherAt 84 = .ok (.iload 5, 2) := by decide +kernel
theorem dX8_watcherAt_86 : decode cX8_watcherAt 86 = .ok (.iadd, 1) := by decide +kernel
theorem dX8_watcherAt_87 : decode cX8_watcherAt 87 = .ok (.ireturn, 1) := by decide +kernel
theorem dX8_isWatched_0 : decode cX8_isWatched 0 = .ok (.aload_n 0, 1) := by decide +kernel
theorem dX8_isWatched_1 : decode cX8_isWatched 1 = .ok (.getfield 235, 3) := by decide +kernel
theorem dX8_isWatched_4 : decode cX8_isWatched 4 = .ok (.iload_n 1, 1) := by decide +kernel
theorem dX8_isWatched_5 : decode cX8_isWatched 5 = .ok (.invokestatic 238, 3) := by decide +kernel
theorem dX8_isWatched_8 : decode cX8_isWatched 8 = .ok (.ifCond .eq 5, 3) := by decide +kernel
theorem dX8_isWatched_11 : decode cX8_isWatched 11 = .ok (.iconst 1, 1) := by decide +kernel
theorem dX8_isWatched_12 : decode cX8_isWatched 12 = .ok (.ireturn, 1) := by decide +kernel
theorem dX8_isWatched_13 : decode cX8_isWatched 13 = .ok (.iconst 0, 1) := by decide +kernel
theorem dX8_isWatched_14 : decode cX8_isWatched 14 = .ok (.istore_n 3, 1) := by decide +kernel
theorem dX8_isWatched_15 : decode cX8_isWatched 15 = .ok (.iload_n 3, 1) := by decide +kernel
theorem dX8_isWatched_16 : decode cX8_isWatched 16 = .ok (.aload_n 0, 1) := by decide +kernel
theorem dX8_isWatched_17 : decode cX8_isWatched 17 = .ok (.getfield 20, 3) := by decide +kernel
theorem dX8_isWatched_20 : decode cX8_isWatched 20 = .ok (.iconst 5, 1) := by decide +kernel
theorem dX8_isWatched_21 : decode cX8_isWatched 21 = .ok (.iaload, 1) := by decide +kernel
theorem dX8_isWatched_22 : decode cX8_isWatched 22 = .ok (.if_icmp .ge 21, 3) := by decide +kernel
theorem dX8_isWatched_25 : decode cX8_isWatched 25 = .ok (.aload_n 0, 1) := by decide +kernel
theorem dX8_isWatched_26 : decode cX8_isWatched 26 = .ok (.iload_n 3, 1) := by decide +kernel
theorem dX8_isWatched_27 : decode cX8_isWatched 27 = .ok (.iload_n 2, 1) := by decide +kernel
theorem dX8_isWatched_28 : decode cX8_isWatched 28 = .ok (.invokevirtual 242, 3) := by decide +kernel
theorem dX8_isWatched_31 : decode cX8_isWatched 31 = .ok (.iload_n 1, 1) := by decide +kernel
theorem dX8_isWatched_32 : decode cX8_isWatched 32 = .ok (.if_icmp .ne 5, 3) := by decide +kernel
theorem dX8_isWatched_35 : decode cX8_isWatched 35 = .ok (.iconst 1, 1) := by decide +kernel
theorem dX8_isWatched_36 : decode cX8_isWatched 36 = .ok (.ireturn, 1) := by decide +kernel
theorem dX8_isWatched_37 : decode cX8_isWatched 37 = .ok (.iinc 3 1, 3) := by decide +kernel
theorem dX8_isWatched_40 : decode cX8_isWatched 40 = .ok (.goto (-25), 3) := by decide +kernel
theorem dX8_isWatched_43 : decode cX8_isWatched 43 = .ok (.iconst 0, 1) := by decide +kernel
theorem dX8_isWatched_44 : decode cX8_isWatched 44 = .ok (.ireturn, 1) := by decide +kernel
theorem dX8_nextOf_0 : decode cX8_nextOf 0 = .ok (.aload_n 0, 1) := by decide +kernel
theorem dX8_nextOf_1 : decode cX8_nextOf 1 = .ok (.getfield 20, 3) := by decide +kernel
theorem dX8_nextOf_4 : decode cX8_nextOf 4 = .ok (.bipush 7, 2) := by decide +kernel
theorem dX8_nextOf_6 : decode cX8_nextOf 6 = .ok (.iaload, 1) := by decide +kernel
theorem dX8_nextOf_7 : decode cX8_nextOf 7 = .ok (.iload_n 1, 1) := by decide +kernel
theorem dX8_nextOf_8 : decode cX8_nextOf 8 = .ok (.imul, 1) := by decide +kernel
theorem dX8_nextOf_9 : decode cX8_nextOf 9 = .ok (.aload_n 0, 1) := by decide +kernel
theorem dX8_nextOf_10 : decode cX8_nextOf 10 = .ok (.getfield 20, 3) := by decide +kernel
theorem dX8_nextOf_13 : decode cX8_nextOf 13 = .ok (.bipush 8, 2) := by decide +kernel
theorem dX8_nextOf_15 : decode cX8_nextOf 15 = .ok (.iaload, 1) := by decide +kernel
theorem dX8_nextOf_16 : decode cX8_nextOf 16 = .ok (.iadd, 1) := by decide +kernel
theorem dX8_nextOf_17 : decode cX8_nextOf 17 = .ok (.aload_n 0, 1) := by decide +kernel
theorem dX8_nextOf_18 : decode cX8_nextOf 18 = .ok (.getfield 20, 3) := by decide +kernel
theorem dX8_nextOf_21 : decode cX8_nextOf 21 = .ok (.iconst 0, 1) := by decide +kernel
theorem dX8_nextOf_22 : decode cX8_nextOf 22 = .ok (.iaload, 1) := by decide +kernel
theorem dX8_nextOf_23 : decode cX8_nextOf 23 = .ok (.irem, 1) := by decide +kernel
theorem dX8_nextOf_24 : decode cX8_nextOf 24 = .ok (.ireturn, 1) := by decide +kernel
theorem dX8_walkOn_0 : decode cX8_walkOn 0 = .ok (.aload_n 1, 1) := by decide +kernel
theorem dX8_walkOn_1 : decode cX8_walkOn 1 = .ok (.bipush 20, 2) := by decide +kernel
theorem dX8_walkOn_3 : decode cX8_walkOn 3 = .ok (.iaload, 1) := by decide +kernel
theorem dX8_walkOn_4 : decode cX8_walkOn 4 = .ok (.iconst 1, 1) := by decide +kernel
theorem dX8_walkOn_5 : decode cX8_walkOn 5 = .ok (.iadd, 1) := by decide +kernel
theorem dX8_walkOn_6 : decode cX8_walkOn 6 = .ok (.aload_n 0, 1) := by decide +kernel
theorem dX8_walkOn_7 : decode cX8_walkOn 7 = .ok (.getfield 20, 3) := by decide +kernel
theorem dX8_walkOn_10 : decode cX8_walkOn 10 = .ok (.bipush 12, 2) := by decide +kernel
theorem dX8_walkOn_12 : decode cX8_walkOn 12 = .ok (.iconst 2, 1) := by decide +kernel
theorem dX8_walkOn_13 : decode cX8_walkOn 13 = .ok (.iload_n 2, 1) := by decide +kernel
theorem dX8_walkOn_14 : decode cX8_walkOn 14 = .ok (.imul, 1) := by decide +kernel
theorem dX8_walkOn_15 : decode cX8_walkOn 15 = .ok (.iadd, 1) := by decide +kernel
theorem dX8_walkOn_16 : decode cX8_walkOn 16 = .ok (.iconst 1, 1) := by decide +kernel
theorem dX8_walkOn_17 : decode cX8_walkOn 17 = .ok (.iadd, 1) := by decide +kernel
theorem dX8_walkOn_18 : decode cX8_walkOn 18 = .ok (.iaload, 1) := by decide +kernel
theorem dX8_walkOn_19 : decode cX8_walkOn 19 = .ok (.irem, 1) := by decide +kernel
theorem dX8_walkOn_20 : decode cX8_walkOn 20 = .ok (.ifCond .eq 4, 3) := by decide +kernel
theorem dX8_walkOn_23 : decode cX8_walkOn 23 = .ok (.return_, 1) := by decide +kernel
theorem dX8_walkOn_24 : decode cX8_walkOn 24 = .ok (.aload_n 1, 1) := by decide +kernel
theorem dX8_walkOn_25 : decode cX8_walkOn 25 = .ok (.iload_n 2, 1) := by decide +kernel
theorem dX8_walkOn_26 : decode cX8_walkOn 26 = .ok (.dup2, 1) := by decide +kernel
theorem dX8_walkOn_27 : decode cX8_walkOn 27 = .ok (.iaload, 1) := by decide +kernel
theorem dX8_walkOn_28 : decode cX8_walkOn 28 = .ok (.aload_n 1, 1) := by decide +kernel
theorem dX8_walkOn_29 : decode cX8_walkOn 29 = .ok (.iload_n 2, 1) := by decide +kernel
theorem dX8_walkOn_30 : decode cX8_walkOn 30 = .ok (.iaload, 1) := by decide +kernel
theorem dX8_walkOn_31 : decode cX8_walkOn 31 = .ok (.aload_n 0, 1) := by decide +kernel
theorem dX8_walkOn_32 : decode cX8_walkOn 32 = .ok (.getfield 20, 3) := by decide +kernel
theorem dX8_walkOn_35 : decode cX8_walkOn 35 = .ok (.iconst 2, 1) := by decide +kernel
theorem dX8_walkOn_36 : decode cX8_walkOn 36 = .ok (.iaload, 1) := by decide +kernel
theorem dX8_walkOn_37 : decode cX8_walkOn 37 = .ok (.if_icmp .ge 7, 3) := by decide +kernel
theorem dX8_walkOn_40 : decode cX8_walkOn 40 = .ok (.iconst 1, 1) := by decide +kernel
theorem dX8_walkOn_41 : decode cX8_walkOn 41 = .ok (.goto 20, 3) := by decide +kernel
theorem dX8_walkOn_44 : decode cX8_walkOn 44 = .ok (.aload_n 1, 1) := by decide +kernel
theorem dX8_walkOn_45 : decode cX8_walkOn 45 = .ok (.iload_n 2, 1) := by decide +kernel
theorem dX8_walkOn_46 : decode cX8_walkOn 46 = .ok (.iaload, 1) := by decide +kernel
theorem dX8_walkOn_47 : decode cX8_walkOn 47 = .ok (.aload_n 0, 1) := by decide +kernel
theorem dX8_walkOn_48 : decode cX8_walkOn 48 = .ok (.getfield 20, 3) := by decide +kernel
theorem dX8_walkOn_51 : decode cX8_walkOn 51 = .ok (.iconst 2, 1) := by decide +kernel
theorem dX8_walkOn_52 : decode cX8_walkOn 52 = .ok (.iaload, 1) := by decide +kernel
theorem dX8_walkOn_53 : decode cX8_walkOn 53 = .ok (.if_icmp .le 7, 3) := by decide +kernel
theorem dX8_walkOn_56 : decode cX8_walkOn 56 = .ok (.iconst (-1), 1) := by decide +kernel
theorem dX8_walkOn_57 : decode cX8_walkOn 57 = .ok (.goto 4, 3) := by decide +kernel
theorem dX8_walkOn_60 : decode cX8_walkOn 60 = .ok (.iconst 0, 1) := by decide +kernel
theorem dX8_walkOn_61 : decode cX8_walkOn 61 = .ok (.iadd, 1) := by decide +kernel
theorem dX8_walkOn_62 : decode cX8_walkOn 62 = .ok (.iastore, 1) := by decide +kernel
theorem dX8_walkOn_63 : decode cX8_walkOn 63 = .ok (.aload_n 0, 1) := by decide +kernel
theorem dX8_walkOn_64 : decode cX8_walkOn 64 = .ok (.aload_n 1, 1) := by decide +kernel
theorem dX8_walkOn_65 : decode cX8_walkOn 65 = .ok (.iload_n 2, 1) := by decide +kernel
theorem dX8_walkOn_66 : decode cX8_walkOn 66 = .ok (.iaload, 1) := by decide +kernel
theorem dX8_walkOn_67 : decode cX8_walkOn 67 = .ok (.aload_n 1, 1) := by decide +kernel
theorem dX8_walkOn_68 : decode cX8_walkOn 68 = .ok (.bipush 21, 2) := by decide +kernel
theorem dX8_walkOn_70 : decode cX8_walkOn 70 = .ok (.iaload, 1) := by decide +kernel
theorem dX8_walkOn_71 : decode cX8_walkOn 71 = .ok (.invokevirtual 245, 3) := by decide +kernel
theorem dX8_walkOn_74 : decode cX8_walkOn 74 = .ok (.ifCond .eq 18, 3) := by decide +kernel
theorem dX8_walkOn_77 : decode cX8_walkOn 77 = .ok (.aload_n 1, 1) := by decide +kernel
theorem dX8_walkOn_78 : decode cX8_walkOn 78 = .ok (.iload_n 2, 1) := by decide +kernel
theorem dX8_walkOn_79 : decode cX8_walkOn 79 = .ok (.iload_n 2, 1) := by decide +kernel
theorem dX8_walkOn_80 : decode cX8_walkOn 80 = .ok (.iastore, 1) := by decide +kernel
theorem dX8_walkOn_81 : decode cX8_walkOn 81 = .ok (.aload_n 1, 1) := by decide +kernel
theorem dX8_walkOn_82 : decode cX8_walkOn 82 = .ok (.bipush 22, 2) := by decide +kernel
theorem dX8_walkOn_84 : decode cX8_walkOn 84 = .ok (.dup2, 1) := by decide +kernel
theorem dX8_walkOn_85 : decode cX8_walkOn 85 = .ok (.iaload, 1) := by decide +kernel
theorem dX8_walkOn_86 : decode cX8_walkOn 86 = .ok (.iconst 1, 1) := by decide +kernel
theorem dX8_walkOn_87 : decode cX8_walkOn 87 = .ok (.iadd, 1) := by decide +kernel
theorem dX8_walkOn_88 : decode cX8_walkOn 88 = .ok (.iastore, 1) := by decide +kernel
theorem dX8_walkOn_89 : decode cX8_walkOn 89 = .ok (.goto 25, 3) := by decide +kernel
theorem dX8_walkOn_92 : decode cX8_walkOn 92 = .ok (.aload_n 1, 1) := by decide +kernel
theorem dX8_walkOn_93 : decode cX8_walkOn 93 = .ok (.iload_n 2, 1) := by decide +kernel
theorem dX8_walkOn_94 : decode cX8_walkOn 94 = .ok (.iaload, 1) := by decide +kernel
theorem dX8_walkOn_95 : decode cX8_walkOn 95 = .ok (.aload_n 0, 1) := by decide +kernel
theorem dX8_walkOn_96 : decode cX8_walkOn 96 = .ok (.getfield 20, 3) := by decide +kernel
theorem dX8_walkOn_99 : decode cX8_walkOn 99 = .ok (.iconst 2, 1) := by decide +kernel
theorem dX8_walkOn_100 : decode cX8_walkOn 100 = .ok (.iaload, 1) := by decide +kernel
theorem dX8_walkOn_101 : decode cX8_walkOn 101 = .ok (.if_icmp .ne 13, 3) := by decide +kernel
theorem dX8_walkOn_104 : decode cX8_walkOn 104 = .ok (.aload_n 1, 1) := by decide +kernel
theorem dX8_walkOn_105 : decode cX8_walkOn 105 = .ok (.bipush 18, 2) := by decide +kernel
theorem dX8_walkOn_107 : decode cX8_walkOn 107 = .ok (.dup2, 1) := by decide +kernel
theorem dX8_walkOn_108 : decode cX8_walkOn 108 = .ok (.iaload, 1) := by decide +kernel
theorem dX8_walkOn_109 : decode cX8_walkOn 109 = .ok (.iconst 1, 1) := by decide +kernel
theorem dX8_walkOn_110 : decode cX8_walkOn 110 = .ok (.iload_n 2, 1) := by decide +kernel
theorem dX8_walkOn_111 : decode cX8_walkOn 111 = .ok (.ishl, 1) := by decide +kernel
theorem dX8_walkOn_112 : decode cX8_walkOn 112 = .ok (.ior, 1) := by decide +kernel
theorem dX8_walkOn_113 : decode cX8_walkOn 113 = .ok (.iastore, 1) := by decide +kernel
theorem dX8_walkOn_114 : decode cX8_walkOn 114 = .ok (.return_, 1) := by decide +kernel
theorem dX8_speakOn_0 : decode cX8_speakOn 0 = .ok (.aload_n 1, 1) := by decide +kernel
theorem dX8_speakOn_1 : decode cX8_speakOn 1 = .ok (.bipush 20, 2) := by decide +kernel
theorem dX8_speakOn_3 : decode cX8_speakOn 3 = .ok (.iaload, 1) := by decide +kernel
theorem dX8_speakOn_4 : decode cX8_speakOn 4 = .ok (.istore_n 3, 1) := by decide +kernel
theorem dX8_speakOn_5 : decode cX8_speakOn 5 = .ok (.iload_n 3, 1) := by decide +kernel
theorem dX8_speakOn_6 : decode cX8_speakOn 6 = .ok (.aload_n 0, 1) := by decide +kernel
theorem dX8_speakOn_7 : decode cX8_speakOn 7 = .ok (.getfield 20, 3) := by decide +kernel
theorem dX8_speakOn_10 : decode cX8_speakOn 10 = .ok (.bipush 12, 2) := by decide +kernel
theorem dX8_speakOn_12 : decode cX8_speakOn 12 = .ok (.iconst 2, 1) := by decide +kernel
theorem dX8_speakOn_13 : decode cX8_speakOn 13 = .ok (.iload_n 2, 1) := by decide +kernel
theorem dX8_speakOn_14 : decode cX8_speakOn 14 = .ok (.imul, 1) := by decide +kernel
theorem dX8_speakOn_15 : decode cX8_speakOn 15 = .ok (.iadd, 1) := by decide +kernel
theorem dX8_speakOn_16 : decode cX8_speakOn 16 = .ok (.iconst 1, 1) := by decide +kernel
theorem dX8_speakOn_17 : decode cX8_speakOn 17 = .ok (.iadd, 1) := by decide +kernel
theorem dX8_speakOn_18 : decode cX8_speakOn 18 = .ok (.iaload, 1) := by decide +kernel
theorem dX8_speakOn_19 : decode cX8_speakOn 19 = .ok (.if_icmp .lt 4, 3) := by decide +kernel
theorem dX8_speakOn_22 : decode cX8_speakOn 22 = .ok (.return_, 1) := by decide +kernel
theorem dX8_speakOn_23 : decode cX8_speakOn 23 = .ok (.aload_n 0, 1) := by decide +kernel
theorem dX8_speakOn_24 : decode cX8_speakOn 24 = .ok (.iconst 1, 1) := by decide +kernel
theorem dX8_speakOn_25 : decode cX8_speakOn 25 = .ok (.iload_n 3, 1) := by decide +kernel
theorem dX8_speakOn_26 : decode cX8_speakOn 26 = .ok (.ishl, 1) := by decide +kernel
theorem dX8_speakOn_27 : decode cX8_speakOn 27 = .ok (.putfield 248, 3) := by decide +kernel
theorem dX8_speakOn_30 : decode cX8_speakOn 30 = .ok (.iconst 0, 1) := by decide +kernel
theorem dX8_speakOn_31 : decode cX8_speakOn 31 = .ok (.istore 4, 2) := by decide +kernel
theorem dX8_speakOn_33 : decode cX8_speakOn 33 = .ok (.aload_n 1, 1) := by decide +kernel
theorem dX8_speakOn_34 : decode cX8_speakOn 34 = .ok (.iload_n 2, 1) := by decide +kernel
theorem dX8_speakOn_35 : decode cX8_speakOn 35 = .ok (.iaload, 1) := by decide +kernel
theorem dX8_speakOn_36 : decode cX8_speakOn 36 = .ok (.iconst 1, 1) := by decide +kernel
theorem dX8_speakOn_37 : decode cX8_speakOn 37 = .ok (.isub, 1) := by decide +kernel
theorem dX8_speakOn_38 : decode cX8_speakOn 38 = .ok (.istore 5, 2) := by decide +kernel
theorem dX8_speakOn_40 : decode cX8_speakOn 40 = .ok (.iload 5, 2) := by decide +kernel
theorem dX8_speakOn_42 : decode cX8_speakOn 42 = .ok (.aload_n 1, 1) := by decide +kernel
theorem dX8_speakOn_43 : decode cX8_speakOn 43 = .ok (.iload_n 2, 1) := by decide +kernel
theorem dX8_speakOn_44 : decode cX8_speakOn 44 = .ok (.iaload, 1) := by decide +kernel
theorem dX8_speakOn_45 : decode cX8_speakOn 45 = .ok (.iconst 1, 1) := by decide +kernel
theorem dX8_speakOn_46 : decode cX8_speakOn 46 = .ok (.iadd, 1) := by decide +kernel
theorem dX8_speakOn_47 : decode cX8_speakOn 47 = .ok (.if_icmp .gt 39, 3) := by decide +kernel
theorem dX8_speakOn_50 : decode cX8_speakOn 50 = .ok (.iload 4, 2) := by decide +kernel
theorem dX8_speakOn_52 : decode cX8_speakOn 52 = .ok (.ifCond .ne 21, 3) := by decide +kernel
theorem dX8_speakOn_55 : decode cX8_speakOn 55 = .ok (.iload 5, 2) := by decide +kernel
theorem dX8_speakOn_57 : decode cX8_speakOn 57 = .ok (.ifCond .lt 20, 3) := by decide +kernel
theorem dX8_speakOn_60 : decode cX8_speakOn 60 = .ok (.aload_n 0, 1) := by decide +kernel
theorem dX8_speakOn_61 : decode cX8_speakOn 61 = .ok (.iload 5, 2) := by decide +kernel
theorem dX8_speakOn_63 : decode cX8_speakOn 63 = .ok (.aload_n 1, 1) := by decide +kernel
theorem dX8_speakOn_64 : decode cX8_speakOn 64 = .ok (.bipush 21, 2) := by decide +kernel
theorem dX8_speakOn_66 : decode cX8_speakOn 66 = .ok (.iaload, 1) := by decide +kernel
theorem dX8_speakOn_67 : decode cX8_speakOn 67 = .ok (.invokevirtual 245, 3) := by decide +kernel
theorem dX8_speakOn_70 : decode cX8_speakOn 70 = .ok (.ifCond .eq 7, 3) := by decide +kernel
theorem dX8_speakOn_73 : decode cX8_speakOn 73 = .ok (.iconst 1, 1) := by decide +kernel
theorem dX8_speakOn_74 : decode cX8_speakOn 74 = .ok (.goto 4, 3) := by decide +kernel
theorem dX8_speakOn_77 : decode cX8_speakOn 77 = .ok (.iconst 0, 1) := by decide +kernel
theorem dX8_speakOn_78 : decode cX8_speakOn 78 = .ok (.istore 4, 2) := by decide +kernel
theorem dX8_speakOn_80 : decode cX8_speakOn 80 = .ok (.iinc 5 1, 3) := by decide +kernel
theorem dX8_speakOn_83 : decode cX8_speakOn 83 = .ok (.goto (-43), 3) := by decide +kernel
theorem dX8_speakOn_86 : decode cX8_speakOn 86 = .ok (.iload 4, 2) := by decide +kernel
theorem dX8_speakOn_88 : decode cX8_speakOn 88 = .ok (.ifCond .eq 16, 3) := by decide +kernel
