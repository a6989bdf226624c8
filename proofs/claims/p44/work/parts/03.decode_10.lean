theorem dX8_turnBy_126 : decode cX8_turnBy 126 = .ok (.iconst 0, 1) := by decide +kernel
theorem dX8_turnBy_127 : decode cX8_turnBy 127 = .ok (.iaload, 1) := by decide +kernel
theorem dX8_turnBy_128 : decode cX8_turnBy 128 = .ok (.irem, 1) := by decide +kernel
theorem dX8_turnBy_129 : decode cX8_turnBy 129 = .ok (.istore 5, 2) := by decide +kernel
theorem dX8_turnBy_131 : decode cX8_turnBy 131 = .ok (.iinc 8 1, 3) := by decide +kernel
theorem dX8_turnBy_134 : decode cX8_turnBy 134 = .ok (.goto (-25), 3) := by decide +kernel
theorem dX8_turnBy_137 : decode cX8_turnBy 137 = .ok (.iload 5, 2) := by decide +kernel
theorem dX8_turnBy_139 : decode cX8_turnBy 139 = .ok (.ireturn, 1) := by decide +kernel
theorem dX8_codes_0 : decode cX8_codes 0 = .ok (.aload_n 0, 1) := by decide +kernel
theorem dX8_codes_1 : decode cX8_codes 1 = .ok (.getfield 20, 3) := by decide +kernel
theorem dX8_codes_4 : decode cX8_codes 4 = .ok (.iconst 0, 1) := by decide +kernel
theorem dX8_codes_5 : decode cX8_codes 5 = .ok (.iaload, 1) := by decide +kernel
theorem dX8_codes_6 : decode cX8_codes 6 = .ok (.aload_n 0, 1) := by decide +kernel
theorem dX8_codes_7 : decode cX8_codes 7 = .ok (.getfield 20, 3) := by decide +kernel
theorem dX8_codes_10 : decode cX8_codes 10 = .ok (.iconst 0, 1) := by decide +kernel
theorem dX8_codes_11 : decode cX8_codes 11 = .ok (.iaload, 1) := by decide +kernel
theorem dX8_codes_12 : decode cX8_codes 12 = .ok (.imul, 1) := by decide +kernel
theorem dX8_codes_13 : decode cX8_codes 13 = .ok (.aload_n 0, 1) := by decide +kernel
theorem dX8_codes_14 : decode cX8_codes 14 = .ok (.getfield 20, 3) := by decide +kernel
theorem dX8_codes_17 : decode cX8_codes 17 = .ok (.iconst 0, 1) := by decide +kernel
theorem dX8_codes_18 : decode cX8_codes 18 = .ok (.iaload, 1) := by decide +kernel
theorem dX8_codes_19 : decode cX8_codes 19 = .ok (.imul, 1) := by decide +kernel
theorem dX8_codes_20 : decode cX8_codes 20 = .ok (.ireturn, 1) := by decide +kernel
theorem dX8_byCode_0 : decode cX8_byCode 0 = .ok (.aload_n 0, 1) := by decide +kernel
theorem dX8_byCode_1 : decode cX8_byCode 1 = .ok (.iload_n 1, 1) := by decide +kernel
theorem dX8_byCode_2 : decode cX8_byCode 2 = .ok (.aload_n 0, 1) := by decide +kernel
theorem dX8_byCode_3 : decode cX8_byCode 3 = .ok (.getfield 20, 3) := by decide +kernel
theorem dX8_byCode_6 : decode cX8_byCode 6 = .ok (.iconst 0, 1) := by decide +kernel
theorem dX8_byCode_7 : decode cX8_byCode 7 = .ok (.iaload, 1) := by decide +kernel
theorem dX8_byCode_8 : decode cX8_byCode 8 = .ok (.aload_n 0, 1) := by decide +kernel
theorem dX8_byCode_9 : decode cX8_byCode 9 = .ok (.getfield 20, 3) := by decide +kernel
theorem dX8_byCode_12 : decode cX8_byCode 12 = .ok (.iconst 0, 1) := by decide +kernel
theorem dX8_byCode_13 : decode cX8_byCode 13 = .ok (.iaload, 1) := by decide +kernel
theorem dX8_byCode_14 : decode cX8_byCode 14 = .ok (.imul, 1) := by decide +kernel
theorem dX8_byCode_15 : decode cX8_byCode 15 = .ok (.idiv, 1) := by decide +kernel
theorem dX8_byCode_16 : decode cX8_byCode 16 = .ok (.iload_n 1, 1) := by decide +kernel
theorem dX8_byCode_17 : decode cX8_byCode 17 = .ok (.aload_n 0, 1) := by decide +kernel
theorem dX8_byCode_18 : decode cX8_byCode 18 = .ok (.getfield 20, 3) := by decide +kernel
theorem dX8_byCode_21 : decode cX8_byCode 21 = .ok (.iconst 0, 1) := by decide +kernel
theorem dX8_byCode_22 : decode cX8_byCode 22 = .ok (.iaload, 1) := by decide +kernel
theorem dX8_byCode_23 : decode cX8_byCode 23 = .ok (.idiv, 1) := by decide +kernel
theorem dX8_byCode_24 : decode cX8_byCode 24 = .ok (.aload_n 0, 1) := by decide +kernel
theorem dX8_byCode_25 : decode cX8_byCode 25 = .ok (.getfield 20, 3) := by decide +kernel
theorem dX8_byCode_28 : decode cX8_byCode 28 = .ok (.iconst 0, 1) := by decide +kernel
theorem dX8_byCode_29 : decode cX8_byCode 29 = .ok (.iaload, 1) := by decide +kernel
theorem dX8_byCode_30 : decode cX8_byCode 30 = .ok (.irem, 1) := by decide +kernel
theorem dX8_byCode_31 : decode cX8_byCode 31 = .ok (.iload_n 1, 1) := by decide +kernel
theorem dX8_byCode_32 : decode cX8_byCode 32 = .ok (.aload_n 0, 1) := by decide +kernel
theorem dX8_byCode_33 : decode cX8_byCode 33 = .ok (.getfield 20, 3) := by decide +kernel
theorem dX8_byCode_36 : decode cX8_byCode 36 = .ok (.iconst 0, 1) := by decide +kernel
theorem dX8_byCode_37 : decode cX8_byCode 37 = .ok (.iaload, 1) := by decide +kernel
theorem dX8_byCode_38 : decode cX8_byCode 38 = .ok (.irem, 1) := by decide +kernel
theorem dX8_byCode_39 : decode cX8_byCode 39 = .ok (.iload_n 2, 1) := by decide +kernel
theorem dX8_byCode_40 : decode cX8_byCode 40 = .ok (.invokevirtual 327, 3) := by decide +kernel
theorem dX8_byCode_43 : decode cX8_byCode 43 = .ok (.ireturn, 1) := by decide +kernel
theorem dX8_numberOf_0 : decode cX8_numberOf 0 = .ok (.bipush 100, 2) := by decide +kernel
theorem dX8_numberOf_2 : decode cX8_numberOf 2 = .ok (.iload_n 1, 1) := by decide +kernel
theorem dX8_numberOf_3 : decode cX8_numberOf 3 = .ok (.aload_n 0, 1) := by decide +kernel
theorem dX8_numberOf_4 : decode cX8_numberOf 4 = .ok (.getfield 20, 3) := by decide +kernel
theorem dX8_numberOf_7 : decode cX8_numberOf 7 = .ok (.iconst 0, 1) := by decide +kernel
theorem dX8_numberOf_8 : decode cX8_numberOf 8 = .ok (.iaload, 1) := by decide +kernel
theorem dX8_numberOf_9 : decode cX8_numberOf 9 = .ok (.aload_n 0, 1) := by decide +kernel
theorem dX8_numberOf_10 : decode cX8_numberOf 10 = .ok (.getfield 20, 3) := by decide +kernel
theorem dX8_numberOf_13 : decode cX8_numberOf 13 = .ok (.iconst 0, 1) := by decide +kernel
theorem dX8_numberOf_14 : decode cX8_numberOf 14 = .ok (.iaload, 1) := by decide +kernel
theorem dX8_numberOf_15 : decode cX8_numberOf 15 = .ok (.imul, 1) := by decide +kernel
theorem dX8_numberOf_16 : decode cX8_numberOf 16 = .ok (.idiv, 1) := by decide +kernel
theorem dX8_numberOf_17 : decode cX8_numberOf 17 = .ok (.imul, 1) := by decide +kernel
theorem dX8_numberOf_18 : decode cX8_numberOf 18 = .ok (.bipush 10, 2) := by decide +kernel
theorem dX8_numberOf_20 : decode cX8_numberOf 20 = .ok (.iload_n 1, 1) := by decide +kernel
theorem dX8_numberOf_21 : decode cX8_numberOf 21 = .ok (.aload_n 0, 1) := by decide +kernel
theorem dX8_numberOf_22 : decode cX8_numberOf 22 = .ok (.getfield 20, 3) := by decide +kernel
theorem dX8_numberOf_25 : decode cX8_numberOf 25 = .ok (.iconst 0, 1) := by decide +kernel
theorem dX8_numberOf_26 : decode cX8_numberOf 26 = .ok (.iaload, 1) := by decide +kernel
theorem dX8_numberOf_27 : decode cX8_numberOf 27 = .ok (.idiv, 1) := by decide +kernel
theorem dX8_numberOf_28 : decode cX8_numberOf 28 = .ok (.aload_n 0, 1) := by decide +kernel
theorem dX8_numberOf_29 : decode cX8_numberOf 29 = .ok (.getfield 20, 3) := by decide +kernel
theorem dX8_numberOf_32 : decode cX8_numberOf 32 = .ok (.iconst 0, 1) := by decide +kernel
theorem dX8_numberOf_33 : decode cX8_numberOf 33 = .ok (.iaload, 1) := by decide +kernel
theorem dX8_numberOf_34 : decode cX8_numberOf 34 = .ok (.irem, 1) := by decide +kernel
theorem dX8_numberOf_35 : decode cX8_numberOf 35 = .ok (.imul, 1) := by decide +kernel
theorem dX8_numberOf_36 : decode cX8_numberOf 36 = .ok (.iadd, 1) := by decide +kernel
theorem dX8_numberOf_37 : decode cX8_numberOf 37 = .ok (.iload_n 1, 1) := by decide +kernel
theorem dX8_numberOf_38 : decode cX8_numberOf 38 = .ok (.aload_n 0, 1) := by decide +kernel
theorem dX8_numberOf_39 : decode cX8_numberOf 39 = .ok (.getfield 20, 3) := by decide +kernel
theorem dX8_numberOf_42 : decode cX8_numberOf 42 = .ok (.iconst 0, 1) := by decide +kernel
theorem dX8_numberOf_43 : decode cX8_numberOf 43 = .ok (.iaload, 1) := by decide +kernel
theorem dX8_numberOf_44 : decode cX8_numberOf 44 = .ok (.irem, 1) := by decide +kernel
theorem dX8_numberOf_45 : decode cX8_numberOf 45 = .ok (.iadd, 1) := by decide +kernel
theorem dX8_numberOf_46 : decode cX8_numberOf 46 = .ok (.ireturn, 1) := by decide +kernel
theorem dX8_doesFit_0 : decode cX8_doesFit 0 = .ok (.iconst 0, 1) := by decide +kernel
theorem dX8_doesFit_1 : decode cX8_doesFit 1 = .ok (.istore_n 2, 1) := by decide +kernel
theorem dX8_doesFit_2 : decode cX8_doesFit 2 = .ok (.iload_n 2, 1) := by decide +kernel
theorem dX8_doesFit_3 : decode cX8_doesFit 3 = .ok (.aload_n 0, 1) := by decide +kernel
theorem dX8_doesFit_4 : decode cX8_doesFit 4 = .ok (.getfield 20, 3) := by decide +kernel
theorem dX8_doesFit_7 : decode cX8_doesFit 7 = .ok (.bipush 6, 2) := by decide +kernel
theorem dX8_doesFit_9 : decode cX8_doesFit 9 = .ok (.iaload, 1) := by decide +kernel
theorem dX8_doesFit_10 : decode cX8_doesFit 10 = .ok (.if_icmp .ge 50, 3) := by decide +kernel
theorem dX8_doesFit_13 : decode cX8_doesFit 13 = .ok (.aload_n 0, 1) := by decide +kernel
theorem dX8_doesFit_14 : decode cX8_doesFit 14 = .ok (.iload_n 1, 1) := by decide +kernel
theorem dX8_doesFit_15 : decode cX8_doesFit 15 = .ok (.aload_n 0, 1) := by decide +kernel
theorem dX8_doesFit_16 : decode cX8_doesFit 16 = .ok (.getfield 20, 3) := by decide +kernel
theorem dX8_doesFit_19 : decode cX8_doesFit 19 = .ok (.bipush 36, 2) := by decide +kernel
theorem dX8_doesFit_21 : decode cX8_doesFit 21 = .ok (.iconst 2, 1) := by decide +kernel
theorem dX8_doesFit_22 : decode cX8_doesFit 22 = .ok (.iload_n 2, 1) := by decide +kernel
theorem dX8_doesFit_23 : decode cX8_doesFit 23 = .ok (.imul, 1) := by decide +kernel
theorem dX8_doesFit_24 : decode cX8_doesFit 24 = .ok (.iadd, 1) := by decide +kernel
theorem dX8_doesFit_25 : decode cX8_doesFit 25 = .ok (.iconst 1, 1) := by decide +kernel
theorem dX8_doesFit_26 : decode cX8_doesFit 26 = .ok (.iadd, 1) := by decide +kernel
theorem dX8_doesFit_27 : decode cX8_doesFit 27 = .ok (.iaload, 1) := by decide +kernel
theorem dX8_doesFit_28 : decode cX8_doesFit 28 = .ok (.aload_n 0, 1) := by decide +kernel
theorem dX8_doesFit_29 : decode cX8_doesFit 29 = .ok (.getfield 20, 3) := by decide +kernel
theorem dX8_doesFit_32 : decode cX8_doesFit 32 = .ok (.iconst 1, 1) := by decide +kernel
theorem dX8_doesFit_33 : decode cX8_doesFit 33 = .ok (.iaload, 1) := by decide +kernel
theorem dX8_doesFit_34 : decode cX8_doesFit 34 = .ok (.idiv, 1) := by decide +kernel
theorem dX8_doesFit_35 : decode cX8_doesFit 35 = .ok (.invokevirtual 331, 3) := by decide +kernel
theorem dX8_doesFit_38 : decode cX8_doesFit 38 = .ok (.aload_n 0, 1) := by decide +kernel
theorem dX8_doesFit_39 : decode cX8_doesFit 39 = .ok (.getfield 20, 3) := by decide +kernel
theorem dX8_doesFit_42 : decode cX8_doesFit 42 = .ok (.bipush 36, 2) := by decide +kernel
theorem dX8_doesFit_44 : decode cX8_doesFit 44 = .ok (.iconst 2, 1) := by decide +kernel
theorem dX8_doesFit_45 : decode cX8_doesFit 45 = .ok (.iload_n 2, 1) := by decide +kernel
theorem dX8_doesFit_46 : decode cX8_doesFit 46 = .ok (.imul, 1) := by decide +kernel
theorem dX8_doesFit_47 : decode cX8_doesFit 47 = .ok (.iadd, 1) := by decide +kernel
theorem dX8_doesFit_48 : decode cX8_doesFit 48 = .ok (.iaload, 1) := by decide +kernel
theorem dX8_doesFit_49 : decode cX8_doesFit 49 = .ok (.if_icmp .eq 5, 3) := by decide +kernel
theorem dX8_doesFit_52 : decode cX8_doesFit 52 = .ok (.iconst 0, 1) := by decide +kernel
theorem dX8_doesFit_53 : decode cX8_doesFit 53 = .ok (.ireturn, 1) := by decide +kernel
theorem dX8_doesFit_54 : decode cX8_doesFit 54 = .ok (.iinc 2 1, 3) := by decide +kernel
theorem dX8_doesFit_57 : decode cX8_doesFit 57 = .ok (.goto (-55), 3) := by decide +kernel
theorem dX8_doesFit_60 : decode cX8_doesFit 60 = .ok (.iconst 1, 1) := by decide +kernel
theorem dX8_doesFit_61 : decode cX8_doesFit 61 = .ok (.ireturn, 1) := by decide +kernel
theorem dX8_fits_0 : decode cX8_fits 0 = .ok (.aload_n 0, 1) := by decide +kernel
theorem dX8_fits_1 : decode cX8_fits 1 = .ok (.invokevirtual 160, 3) := by decide +kernel
theorem dX8_fits_4 : decode cX8_fits 4 = .ok (.aload_n 0, 1) := by decide +kernel
theorem dX8_fits_5 : decode cX8_fits 5 = .ok (.getfield 173, 3) := by decide +kernel
theorem dX8_fits_8 : decode cX8_fits 8 = .ok (.ifCond .ne 9, 3) := by decide +kernel
theorem dX8_fits_11 : decode cX8_fits 11 = .ok (.aload_n 0, 1) := by decide +kernel
theorem dX8_fits_12 : decode cX8_fits 12 = .ok (.iconst 1, 1) := by decide +kernel
theorem dX8_fits_13 : decode cX8_fits 13 = .ok (.invokevirtual 163, 3) := by decide +kernel
theorem dX8_fits_16 : decode cX8_fits 16 = .ok (.ireturn, 1) := by decide +kernel
theorem dX8_fits_17 : decode cX8_fits 17 = .ok (.iconst 0, 1) := by decide +kernel
theorem dX8_fits_18 : decode cX8_fits 18 = .ok (.istore_n 1, 1) := by decide +kernel
theorem dX8_fits_19 : decode cX8_fits 19 = .ok (.iconst 0, 1) := by decide +kernel
theorem dX8_fits_20 : decode cX8_fits 20 = .ok (.istore_n 2, 1) := by decide +kernel
theorem dX8_fits_21 : decode cX8_fits 21 = .ok (.iload_n 2, 1) := by decide +kernel
theorem dX8_fits_22 : decode cX8_fits 22 = .ok (.aload_n 0, 1) := by decide +kernel
theorem dX8_fits_23 : decode cX8_fits 23 = .ok (.invokevirtual 334, 3) := by decide +kernel
theorem dX8_fits_26 : decode cX8_fits 26 = .ok (.if_icmp .ge 25, 3) := by decide +kernel
theorem dX8_fits_29 : decode cX8_fits 29 = .ok (.iload_n 1, 1) := by decide +kernel
theorem dX8_fits_30 : decode cX8_fits 30 = .ok (.aload_n 0, 1) := by decide +kernel
theorem dX8_fits_31 : decode cX8_fits 31 = .ok (.iload_n 2, 1) := by decide +kernel
theorem dX8_fits_32 : decode cX8_fits 32 = .ok (.invokevirtual 337, 3) := by decide +kernel
theorem dX8_fits_35 : decode cX8_fits 35 = .ok (.ifCond .eq 7, 3) := by decide +kernel
theorem dX8_fits_38 : decode cX8_fits 38 = .ok (.iconst 1, 1) := by decide +kernel
theorem dX8_fits_39 : decode cX8_fits 39 = .ok (.goto 4, 3) := by decide +kernel
theorem dX8_fits_42 : decode cX8_fits 42 = .ok (.iconst 0, 1) := by decide +kernel
theorem dX8_fits_43 : decode cX8_fits 43 = .ok (.iadd, 1) := by decide +kernel
theorem dX8_fits_44 : decode cX8_fits 44 = .ok (.istore_n 1, 1) := by decide +kernel
theorem dX8_fits_45 : decode cX8_fits 45 = .ok (.iinc 2 1, 3) := by decide +kernel
theorem dX8_fits_48 : decode cX8_fits 48 = .ok (.goto (-27), 3) := by decide +kernel
theorem dX8_fits_51 : decode cX8_fits 51 = .ok (.iload_n 1, 1) := by decide +kernel
theorem dX8_fits_52 : decode cX8_fits 52 = .ok (.ireturn, 1) := by decide +kernel
theorem dX8_fitAt_0 : decode cX8_fitAt 0 = .ok (.aload_n 0, 1) := by decide +kernel
theorem dX8_fitAt_1 : decode cX8_fitAt 1 = .ok (.invokevirtual 160, 3) := by decide +kernel
theorem dX8_fitAt_4 : decode cX8_fitAt 4 = .ok (.aload_n 0, 1) := by decide +kernel
theorem dX8_fitAt_5 : decode cX8_fitAt 5 = .ok (.getfield 173, 3) := by decide +kernel
theorem dX8_fitAt_8 : decode cX8_fitAt 8 = .ok (.ifCond .ne 9, 3) := by decide +kernel
theorem dX8_fitAt_11 : decode cX8_fitAt 11 = .ok (.aload_n 0, 1) := by decide +kernel
theorem dX8_fitAt_12 : decode cX8_fitAt 12 = .ok (.iconst 1, 1) := by decide +kernel
theorem dX8_fitAt_13 : decode cX8_fitAt 13 = .ok (.invokevirtual 163, 3) := by decide +kernel
theorem dX8_fitAt_16 : decode cX8_fitAt 16 = .ok (.ireturn, 1) := by decide +kernel
theorem dX8_fitAt_17 : decode cX8_fitAt 17 = .ok (.iconst 0, 1) := by decide +kernel
theorem dX8_fitAt_18 : decode cX8_fitAt 18 = .ok (.istore_n 2, 1) := by decide +kernel
theorem dX8_fitAt_19 : decode cX8_fitAt 19 = .ok (.iconst 0, 1) := by decide +kernel
theorem dX8_fitAt_20 : decode cX8_fitAt 20 = .ok (.istore_n 3, 1) := by decide +kernel
theorem dX8_fitAt_21 : decode cX8_fitAt 21 = .ok (.iload_n 3, 1) := by decide +kernel
theorem dX8_fitAt_22 : decode cX8_fitAt 22 = .ok (.aload_n 0, 1) := by decide +kernel
theorem dX8_fitAt_23 : decode cX8_fitAt 23 = .ok (.invokevirtual 334, 3) := by decide +kernel
theorem dX8_fitAt_26 : decode cX8_fitAt 26 = .ok (.if_icmp .ge 34, 3) := by decide +kernel
theorem dX8_fitAt_29 : decode cX8_fitAt 29 = .ok (.aload_n 0, 1) := by decide +kernel
theorem dX8_fitAt_30 : decode cX8_fitAt 30 = .ok (.iload_n 3, 1) := by decide +kernel
theorem dX8_fitAt_31 : decode cX8_fitAt 31 = .ok (.invokevirtual 337, 3) := by decide +kernel
theorem dX8_fitAt_34 : decode cX8_fitAt 34 = .ok (.ifCond .ne 6, 3) := by decide +kernel
theorem dX8_fitAt_37 : decode cX8_fitAt 37 = .ok (.goto 17, 3) := by decide +kernel
theorem dX8_fitAt_40 : decode cX8_fitAt 40 = .ok (.iload_n 2, 1) := by decide +kernel
theorem dX8_fitAt_41 : decode cX8_fitAt 41 = .ok (.iload_n 1, 1) := by decide +kernel
theorem dX8_fitAt_42 : decode cX8_fitAt 42 = .ok (.if_icmp .ne 9, 3) := by decide +kernel
theorem dX8_fitAt_45 : decode cX8_fitAt 45 = .ok (.aload_n 0, 1) := by decide +kernel
theorem dX8_fitAt_46 : decode cX8_fitAt 46 = .ok (.iload_n 3, 1) := by decide +kernel
theorem dX8_fitAt_47 : decode cX8_fitAt 47 = .ok (.invokevirtual 340, 3) := by decide +kernel
theorem dX8_fitAt_50 : decode cX8_fitAt 50 = .ok (.ireturn, 1) := by decide +kernel
theorem dX8_fitAt_51 : decode cX8_fitAt 51 = .ok (.iinc 2 1, 3) := by decide +kernel
theorem dX8_fitAt_54 : decode cX8_fitAt 54 = .ok (.iinc 3 1, 3) := by decide +kernel
theorem dX8_fitAt_57 : decode cX8_fitAt 57 = .ok (.goto (-36), 3) := by decide +kernel
theorem dX8_fitAt_60 : decode cX8_fitAt 60 = .ok (.aload_n 0, 1) := by decide +kernel
theorem dX8_fitAt_61 : decode cX8_fitAt 61 = .ok (.iconst 1, 1) := by decide +kernel
theorem dX8_fitAt_62 : decode cX8_fitAt 62 = .ok (.invokevirtual 163, 3) := by decide +kernel
theorem dX8_fitAt_65 : decode cX8_fitAt 65 = .ok (.ireturn, 1) := by decide +kernel
theorem dX8_layOften_0 : decode cX8_layOften 0 = .ok (.iconst 0, 1) := by decide +kernel
theorem dX8_layOften_1 : decode cX8_layOften 1 = .ok (.istore_n 2, 1) := by decide +kernel
theorem dX8_layOften_2 : decode cX8_layOften 2 = .ok (.iload_n 2, 1) := by decide +kernel
theorem dX8_layOften_3 : decode cX8_layOften 3 = .ok (.bipush 9, 2) := by decide +kernel
theorem dX8_layOften_5 : decode cX8_layOften 5 = .ok (.if_icmp .ge 16, 3) := by decide +kernel
theorem dX8_layOften_8 : decode cX8_layOften 8 = .ok (.aload_n 0, 1) := by decide +kernel
theorem dX8_layOften_9 : decode cX8_layOften 9 = .ok (.getfield 56, 3) := by decide +kernel
theorem dX8_layOften_12 : decode cX8_layOften 12 = .ok (.iload_n 2, 1) := by decide +kernel
theorem dX8_layOften_13 : decode cX8_layOften 13 = .ok (.iconst 0, 1) := by decide +kernel
theorem dX8_layOften_14 : decode cX8_layOften 14 = .ok (.iastore, 1) := by decide +kernel
theorem dX8_layOften_15 : decode cX8_layOften 15 = .ok (.iinc 2 1, 3) := by decide +kernel
theorem dX8_layOften_18 : decode cX8_layOften 18 = .ok (.goto (-16), 3) := by decide +kernel
theorem dX8_layOften_21 : decode cX8_layOften 21 = .ok (.iconst 0, 1) := by decide +kernel
theorem dX8_layOften_22 : decode cX8_layOften 22 = .ok (.istore_n 2, 1) := by decide +kernel
theorem dX8_layOften_23 : decode cX8_layOften 23 = .ok (.iload_n 2, 1) := by decide +kernel
theorem dX8_layOften_24 : decode cX8_layOften 24 = .ok (.aload_n 0, 1) := by decide +kernel
theorem dX8_layOften_25 : decode cX8_layOften 25 = .ok (.invokevirtual 334, 3) := by decide +kernel
theorem dX8_layOften_28 : decode cX8_layOften 28 = .ok (.if_icmp .ge 32, 3) := by decide +kernel
theorem dX8_layOften_31 : decode cX8_layOften 31 = .ok (.aload_n 0, 1) := by decide +kernel
theorem dX8_layOften_32 : decode cX8_layOften 32 = .ok (.iload_n 2, 1) := by decide +kernel
theorem dX8_layOften_33 : decode cX8_layOften 33 = .ok (.invokevirtual 337, 3) := by decide +kernel
theorem dX8_layOften_36 : decode cX8_layOften 36 = .ok (.ifCond .eq 18, 3) := by decide +kernel
theorem dX8_layOften_39 : decode cX8_layOften 39 = .ok (.aload_n 0, 1) := by decide +kernel
theorem dX8_layOften_40 : decode cX8_layOften 40 = .ok (.getfield 56, 3) := by decide +kernel
theorem dX8_layOften_43 : decode cX8_layOften 43 = .ok (.aload_n 0, 1) := by decide +kernel
theorem dX8_layOften_44 : decode cX8_layOften 44 = .ok (.iload_n 2, 1) := by decide +kernel
theorem dX8_layOften_45 : decode cX8_layOften 45 = .ok (.iload_n 1, 1) := by decide +kernel
theorem dX8_layOften_46 : decode cX8_layOften 46 = .ok (.invokevirtual 331, 3) := by decide +kernel
theorem dX8_layOften_49 : decode cX8_layOften 49 = .ok (.dup2, 1) := by decide +kernel
theorem dX8_layOften_50 : decode cX8_layOften 50 = .ok (.iaload, 1) := by decide +kernel
theorem dX8_layOften_51 : decode cX8_layOften 51 = .ok (.iconst 1, 1) := by decide +kernel
theorem dX8_layOften_52 : decode cX8_layOften 52 = .ok (.iadd, 1) := by decide +kernel
theorem dX8_layOften_53 : decode cX8_layOften 53 = .ok (.iastore, 1) := by decide +kernel
theorem dX8_layOften_54 : decode cX8_layOften 54 = .ok (.iinc 2 1, 3) := by decide +kernel
theorem dX8_layOften_57 : decode cX8_layOften 57 = .ok (.goto (-34), 3) := by decide +kernel
theorem dX8_layOften_60 : decode cX8_layOften 60 = .ok (.return_, 1) := by decide +kernel
theorem dX8_could_0 : decode cX8_could 0 = .ok (.aload_n 0, 1) := by decide +kernel
theorem dX8_could_1 : decode cX8_could 1 = .ok (.invokevirtual 160, 3) := by decide +kernel
theorem dX8_could_4 : decode cX8_could 4 = .ok (.aload_n 0, 1) := by decide +kernel
theorem dX8_could_5 : decode cX8_could 5 = .ok (.aload_n 0, 1) := by decide +kernel
theorem dX8_could_6 : decode cX8_could 6 = .ok (.getfield 173, 3) := by decide +kernel
theorem dX8_could_9 : decode cX8_could 9 = .ok (.iload_n 1, 1) := by decide +kernel
theorem dX8_could_10 : decode cX8_could 10 = .ok (.iconst 0, 1) := by decide +kernel
theorem dX8_could_11 : decode cX8_could 11 = .ok (.sipush 999, 3) := by decide +kernel
theorem dX8_could_14 : decode cX8_could 14 = .ok (.invokestatic 142, 3) := by decide +kernel
theorem dX8_could_17 : decode cX8_could 17 = .ok (.invokevirtual 290, 3) := by decide +kernel
theorem dX8_could_20 : decode cX8_could 20 = .ok (.istore_n 2, 1) := by decide +kernel
theorem dX8_could_21 : decode cX8_could 21 = .ok (.iload_n 2, 1) := by decide +kernel
theorem dX8_could_22 : decode cX8_could 22 = .ok (.ifCond .eq 9, 3) := by decide +kernel
theorem dX8_could_25 : decode cX8_could 25 = .ok (.aload_n 0, 1) := by decide +kernel
theorem dX8_could_26 : decode cX8_could 26 = .ok (.iload_n 2, 1) := by decide +kernel
theorem dX8_could_27 : decode cX8_could 27 = .ok (.invokevirtual 163, 3) := by decide +kernel
theorem dX8_could_30 : decode cX8_could 30 = .ok (.ireturn, 1) := by decide +kernel
theorem dX8_could_31 : decode cX8_could 31 = .ok (.aload_n 0, 1) := by decide +kernel
theorem dX8_could_32 : decode cX8_could 32 = .ok (.iload_n 1, 1) := by decide +kernel
theorem dX8_could_33 : decode cX8_could 33 = .ok (.aload_n 0, 1) := by decide +kernel
theorem dX8_could_34 : decode cX8_could 34 = .ok (.getfield 20, 3) := by decide +kernel
theorem dX8_could_37 : decode cX8_could 37 = .ok (.iconst 1, 1) := by decide +kernel
theorem dX8_could_38 : decode cX8_could 38 = .ok (.iaload, 1) := by decide +kernel
theorem dX8_could_39 : decode cX8_could 39 = .ok (.idiv, 1) := by decide +kernel
theorem dX8_could_40 : decode cX8_could 40 = .ok (.invokevirtual 343, 3) := by decide +kernel
theorem dX8_could_43 : decode cX8_could 43 = .ok (.iconst 0, 1) := by decide +kernel
theorem dX8_could_44 : decode cX8_could 44 = .ok (.istore_n 3, 1) := by decide +kernel
theorem dX8_could_45 : decode cX8_could 45 = .ok (.iconst 0, 1) := by decide +kernel
theorem dX8_could_46 : decode cX8_could 46 = .ok (.istore 4, 2) := by decide +kernel
theorem dX8_could_48 : decode cX8_could 48 = .ok (.iload 4, 2) := by decide +kernel
theorem dX8_could_50 : decode cX8_could 50 = .ok (.aload_n 0, 1) := by decide +kernel
theorem dX8_could_51 : decode cX8_could 51 = .ok (.getfield 20, 3) := by decide +kernel
theorem dX8_could_54 : decode cX8_could 54 = .ok (.iconst 0, 1) := by decide +kernel
theorem dX8_could_55 : decode cX8_could 55 = .ok (.iaload, 1) := by decide +kernel
theorem dX8_could_56 : decode cX8_could 56 = .ok (.if_icmp .ge 30, 3) := by decide +kernel
theorem dX8_could_59 : decode cX8_could 59 = .ok (.iload_n 3, 1) := by decide +kernel
theorem dX8_could_60 : decode cX8_could 60 = .ok (.aload_n 0, 1) := by decide +kernel
theorem dX8_could_61 : decode cX8_could 61 = .ok (.getfield 56, 3) := by decide +kernel
theorem dX8_could_64 : decode cX8_could 64 = .ok (.iload 4, 2) := by decide +kernel
theorem dX8_could_66 : decode cX8_could 66 = .ok (.iaload, 1) := by decide +kernel
theorem dX8_could_67 : decode cX8_could 67 = .ok (.ifCond .le 10, 3) := by decide +kernel
theorem dX8_could_70 : decode cX8_could 70 = .ok (.iconst 1, 1) := by decide +kernel
theorem dX8_could_71 : decode cX8_could 71 = .ok (.iload 4, 2) := by decide +kernel
theorem dX8_could_73 : decode cX8_could 73 = .ok (.ishl, 1) := by decide +kernel
theorem dX8_could_74 : decode cX8_could 74 = .ok (.goto 4, 3) := by decide +kernel
theorem dX8_could_77 : decode cX8_could 77 = .ok (.iconst 0, 1) := by decide +kernel
theorem dX8_could_78 : decode cX8_could 78 = .ok (.ior, 1) := by decide +kernel
theorem dX8_could_79 : decode cX8_could 79 = .ok (.istore_n 3, 1) := by decide +kernel
theorem dX8_could_80 : decode cX8_could 80 = .ok (.iinc 4 1, 3) := by decide +kernel
theorem dX8_could_83 : decode cX8_could 83 = .ok (.goto (-35), 3) := by decide +kernel
theorem dX8_could_86 : decode cX8_could 86 = .ok (.iload_n 3, 1) := by decide +kernel
theorem dX8_could_87 : decode cX8_could 87 = .ok (.ireturn, 1) := by decide +kernel
theorem dX8_aliveBy_0 : decode cX8_aliveBy 0 = .ok (.aload_n 0, 1) := by decide +kernel
theorem dX8_aliveBy_1 : decode cX8_aliveBy 1 = .ok (.invokevirtual 160, 3) := by decide +kernel
theorem dX8_aliveBy_4 : decode cX8_aliveBy 4 = .ok (.aload_n 0, 1) := by decide +kernel
theorem dX8_aliveBy_5 : decode cX8_aliveBy 5 = .ok (.aload_n 0, 1) := by decide +kernel
theorem dX8_aliveBy_6 : decode cX8_aliveBy 6 = .ok (.iload_n 1, 1) := by decide +kernel
theorem dX8_aliveBy_7 : decode cX8_aliveBy 7 = .ok (.invokevirtual 277, 3) := by decide +kernel
theorem dX8_aliveBy_10 : decode cX8_aliveBy 10 = .ok (.iload_n 2, 1) := by decide +kernel
theorem dX8_aliveBy_11 : decode cX8_aliveBy 11 = .ok (.iconst 0, 1) := by decide +kernel
theorem dX8_aliveBy_12 : decode cX8_aliveBy 12 = .ok (.sipush 999, 3) := by decide +kernel
theorem dX8_aliveBy_15 : decode cX8_aliveBy 15 = .ok (.invokestatic 142, 3) := by decide +kernel
theorem dX8_aliveBy_18 : decode cX8_aliveBy 18 = .ok (.invokevirtual 290, 3) := by decide +kernel
theorem dX8_aliveBy_21 : decode cX8_aliveBy 21 = .ok (.istore_n 3, 1) := by decide +kernel
theorem dX8_aliveBy_22 : decode cX8_aliveBy 22 = .ok (.iload_n 3, 1) := by decide +kernel
theorem dX8_aliveBy_23 : decode cX8_aliveBy 23 = .ok (.ifCond .eq 9, 3) := by decide +kernel
theorem dX8_aliveBy_26 : decode cX8_aliveBy 26 = .ok (.aload_n 0, 1) := by decide +kernel
theorem dX8_aliveBy_27 : decode cX8_aliveBy 27 = .ok (.iload_n 3, 1) := by decide +kernel
theorem dX8_aliveBy_28 : decode cX8_aliveBy 28 = .ok (.invokevirtual 163, 3) := by decide +kernel
theorem dX8_aliveBy_31 : decode cX8_aliveBy 31 = .ok (.ireturn, 1) := by decide +kernel
theorem dX8_aliveBy_32 : decode cX8_aliveBy 32 = .ok (.aload_n 0, 1) := by decide +kernel
theorem dX8_aliveBy_33 : decode cX8_aliveBy 33 = .ok (.iload_n 2, 1) := by decide +kernel
theorem dX8_aliveBy_34 : decode cX8_aliveBy 34 = .ok (.aload_n 0, 1) := by decide +kernel
theorem dX8_aliveBy_35 : decode cX8_aliveBy 35 = .ok (.getfield 20, 3) := by decide +kernel
theorem dX8_aliveBy_38 : decode cX8_aliveBy 38 = .ok (.iconst 1, 1) := by decide +kernel
theorem dX8_aliveBy_39 : decode cX8_aliveBy 39 = .ok (.iaload, 1) := by decide +kernel
theorem dX8_aliveBy_40 : decode cX8_aliveBy 40 = .ok (.idiv, 1) := by decide +kernel
theorem dX8_aliveBy_41 : decode cX8_aliveBy 41 = .ok (.invokevirtual 343, 3) := by decide +kernel
theorem dX8_aliveBy_44 : decode cX8_aliveBy 44 = .ok (.aload_n 0, 1) := by decide +kernel
theorem dX8_aliveBy_45 : decode cX8_aliveBy 45 = .ok (.getfield 56, 3) := by decide +kernel
theorem dX8_aliveBy_48 : decode cX8_aliveBy 48 = .ok (.iload_n 1, 1) := by decide +kernel
theorem dX8_aliveBy_49 : decode cX8_aliveBy 49 = .ok (.iaload, 1) := by decide +kernel
theorem dX8_aliveBy_50 : decode cX8_aliveBy 50 = .ok (.ireturn, 1) := by decide +kernel
theorem dX8_lookOf_0 : decode cX8_lookOf 0 = .ok (.bipush (-2), 2) := by decide +kernel
theorem dX8_lookOf_2 : decode cX8_lookOf 2 = .ok (.istore_n 1, 1) := by decide +kernel
theorem dX8_lookOf_3 : decode cX8_lookOf 3 = .ok (.aload_n 0, 1) := by decide +kernel
theorem dX8_lookOf_4 : decode cX8_lookOf 4 = .ok (.bipush (-2), 2) := by decide +kernel
theorem dX8_lookOf_6 : decode cX8_lookOf 6 = .ok (.putfield 346, 3) := by decide +kernel
theorem dX8_lookOf_9 : decode cX8_lookOf 9 = .ok (.iconst 0, 1) := by decide +kernel
theorem dX8_lookOf_10 : decode cX8_lookOf 10 = .ok (.istore_n 2, 1) := by decide +kernel
theorem dX8_lookOf_11 : decode cX8_lookOf 11 = .ok (.iload_n 2, 1) := by decide +kernel
theorem dX8_lookOf_12 : decode cX8_lookOf 12 = .ok (.bipush 100, 2) := by decide +kernel
theorem dX8_lookOf_14 : decode cX8_lookOf 14 = .ok (.if_icmp .ge 98, 3) := by decide +kernel
theorem dX8_lookOf_17 : decode cX8_lookOf 17 = .ok (.aload_n 0, 1) := by decide +kernel
theorem dX8_lookOf_18 : decode cX8_lookOf 18 = .ok (.iload_n 2, 1) := by decide +kernel
theorem dX8_lookOf_19 : decode cX8_lookOf 19 = .ok (.aload_n 0, 1) := by decide +kernel
theorem dX8_lookOf_20 : decode cX8_lookOf 20 = .ok (.getfield 20, 3) := by decide +kernel
theorem dX8_lookOf_23 : decode cX8_lookOf 23 = .ok (.iconst 1, 1) := by decide +kernel
theorem dX8_lookOf_24 : decode cX8_lookOf 24 = .ok (.iaload, 1) := by decide +kernel
theorem dX8_lookOf_25 : decode cX8_lookOf 25 = .ok (.idiv, 1) := by decide +kernel
theorem dX8_lookOf_26 : decode cX8_lookOf 26 = .ok (.invokevirtual 343, 3) := by decide +kernel
theorem dX8_lookOf_29 : decode cX8_lookOf 29 = .ok (.iconst 0, 1) := by decide +kernel
theorem dX8_lookOf_30 : decode cX8_lookOf 30 = .ok (.istore_n 3, 1) := by decide +kernel
theorem dX8_lookOf_31 : decode cX8_lookOf 31 = .ok (.iconst 0, 1) := by decide +kernel
theorem dX8_lookOf_32 : decode cX8_lookOf 32 = .ok (.istore 4, 2) := by decide +kernel
theorem dX8_lookOf_34 : decode cX8_lookOf 34 = .ok (.iload 4, 2) := by decide +kernel
theorem dX8_lookOf_36 : decode cX8_lookOf 36 = .ok (.aload_n 0, 1) := by decide +kernel
theorem dX8_lookOf_37 : decode cX8_lookOf 37 = .ok (.getfield 20, 3) := by decide +kernel
theorem dX8_lookOf_40 : decode cX8_lookOf 40 = .ok (.iconst 0, 1) := by decide +kernel
theorem dX8_lookOf_41 : decode cX8_lookOf 41 = .ok (.iaload, 1) := by decide +kernel
theorem dX8_lookOf_42 : decode cX8_lookOf 42 = .ok (.if_icmp .ge 32, 3) := by decide +kernel
theorem dX8_lookOf_45 : decode cX8_lookOf 45 = .ok (.aload_n 0, 1) := by decide +kernel
theorem dX8_lookOf_46 : decode cX8_lookOf 46 = .ok (.getfield 56, 3) := by decide +kernel
theorem dX8_lookOf_49 : decode cX8_lookOf 49 = .ok (.iload 4, 2) := by decide +kernel
theorem dX8_lookOf_51 : decode cX8_lookOf 51 = .ok (.iaload, 1) := by decide +kernel
theorem dX8_lookOf_52 : decode cX8_lookOf 52 = .ok (.iload_n 3, 1) := by decide +kernel
theorem dX8_lookOf_53 : decode cX8_lookOf 53 = .ok (.if_icmp .le 13, 3) := by decide +kernel
theorem dX8_lookOf_56 : decode cX8_lookOf 56 = .ok (.aload_n 0, 1) := by decide +kernel
theorem dX8_lookOf_57 : decode cX8_lookOf 57 = .ok (.getfield 56, 3) := by decide +kernel
theorem dX8_lookOf_60 : decode cX8_lookOf 60 = .ok (.iload 4, 2) := by decide +kernel
theorem dX8_lookOf_62 : decode cX8_lookOf 62 = .ok (.iaload, 1) := by decide +kernel
theorem dX8_lookOf_63 : decode cX8_lookOf 63 = .ok (.goto 4, 3) := by decide +kernel
theorem dX8_lookOf_66 : decode cX8_lookOf 66 = .ok (.iload_n 3, 1) := by decide +kernel
theorem dX8_lookOf_67 : decode cX8_lookOf 67 = .ok (.istore_n 3, 1) := by decide +kernel
theorem dX8_lookOf_68 : decode cX8_lookOf 68 = .ok (.iinc 4 1, 3) := by decide +kernel
theorem dX8_lookOf_71 : decode cX8_lookOf 71 = .ok (.goto (-37), 3) := by decide +kernel
theorem dX8_lookOf_74 : decode cX8_lookOf 74 = .ok (.iload_n 3, 1) := by decide +kernel
theorem dX8_lookOf_75 : decode cX8_lookOf 75 = .ok (.ifCond .eq 25, 3) := by decide +kernel
theorem dX8_lookOf_78 : decode cX8_lookOf 78 = .ok (.iload_n 1, 1) := by decide +kernel
theorem dX8_lookOf_79 : decode cX8_lookOf 79 = .ok (.ifCond .lt 14, 3) := by decide +kernel
theorem dX8_lookOf_82 : decode cX8_lookOf 82 = .ok (.iload_n 3, 1) := by decide +kernel
theorem dX8_lookOf_83 : decode cX8_lookOf 83 = .ok (.aload_n 0, 1) := by decide +kernel
theorem dX8_lookOf_84 : decode cX8_lookOf 84 = .ok (.getfield 346, 3) := by decide +kernel
theorem dX8_lookOf_87 : decode cX8_lookOf 87 = .ok (.if_icmp .lt 6, 3) := by decide +kernel
theorem dX8_lookOf_90 : decode cX8_lookOf 90 = .ok (.goto 10, 3) := by decide +kernel
theorem dX8_lookOf_93 : decode cX8_lookOf 93 = .ok (.iload_n 2, 1) := by decide +kernel
theorem dX8_lookOf_94 : decode cX8_lookOf 94 = .ok (.istore_n 1, 1) := by decide +kernel
theorem dX8_lookOf_95 : decode cX8_lookOf 95 = .ok (.aload_n 0, 1) := by decide +kernel
theorem dX8_lookOf_96 : decode cX8_lookOf 96 = .ok (.iload_n 3, 1) := by decide +kernel
theorem dX8_lookOf_97 : decode cX8_lookOf 97 = .ok (.putfield 346, 3) := by decide +kernel
theorem dX8_lookOf_100 : decode cX8_lookOf 100 = .ok (.iload_n 2, 1) := by decide +kernel
theorem dX8_lookOf_101 : decode cX8_lookOf 101 = .ok (.aload_n 0, 1) := by decide +kernel
theorem dX8_lookOf_102 : decode cX8_lookOf 102 = .ok (.getfield 20, 3) := by decide +kernel
theorem dX8_lookOf_105 : decode cX8_lookOf 105 = .ok (.iconst 1, 1) := by decide +kernel
theorem dX8_lookOf_106 : decode cX8_lookOf 106 = .ok (.iaload, 1) := by decide +kernel
theorem dX8_lookOf_107 : decode cX8_lookOf 107 = .ok (.iadd, 1) := by decide +kernel
theorem dX8_lookOf_108 : decode cX8_lookOf 108 = .ok (.istore_n 2, 1) := by decide +kernel
theorem dX8_lookOf_109 : decode cX8_lookOf 109 = .ok (.goto (-98), 3) := by decide +kernel
theorem dX8_lookOf_112 : decode cX8_lookOf 112 = .ok (.iload_n 1, 1) := by decide +kernel
theorem dX8_lookOf_113 : decode cX8_lookOf 113 = .ok (.ireturn, 1) := by decide +kernel
theorem dX8_look_0 : decode cX8_look 0 = .ok (.aload_n 0, 1) := by decide +kernel
theorem dX8_look_1 : decode cX8_look 1 = .ok (.invokevirtual 160, 3) := by decide +kernel
theorem dX8_look_4 : decode cX8_look 4 = .ok (.aload_n 0, 1) := by decide +kernel
theorem dX8_look_5 : decode cX8_look 5 = .ok (.getfield 173, 3) := by decide +kernel
theorem dX8_look_8 : decode cX8_look 8 = .ok (.ifCond .eq 10, 3) := by decide +kernel
theorem dX8_look_11 : decode cX8_look 11 = .ok (.aload_n 0, 1) := by decide +kernel
theorem dX8_look_12 : decode cX8_look 12 = .ok (.invokevirtual 349, 3) := by decide +kernel
theorem dX8_look_15 : decode cX8_look 15 = .ok (.goto 8, 3) := by decide +kernel
theorem dX8_look_18 : decode cX8_look 18 = .ok (.aload_n 0, 1) := by decide +kernel
theorem dX8_look_19 : decode cX8_look 19 = .ok (.iconst 1, 1) := by decide +kernel
theorem dX8_look_20 : decode cX8_look 20 = .ok (.invokevirtual 163, 3) := by decide +kernel
theorem dX8_look_23 : decode cX8_look 23 = .ok (.ireturn, 1) := by decide +kernel
theorem dX8_lookLeaves_0 : decode cX8_lookLeaves 0 = .ok (.aload_n 0, 1) := by decide +kernel
theorem dX8_lookLeaves_1 : decode cX8_lookLeaves 1 = .ok (.invokevirtual 160, 3) := by decide +kernel
theorem dX8_lookLeaves_4 : decode cX8_lookLeaves 4 = .ok (.aload_n 0, 1) := by decide +kernel
theorem dX8_lookLeaves_5 : decode cX8_lookLeaves 5 = .ok (.getfield 173, 3) := by decide +kernel
theorem dX8_lookLeaves_8 : decode cX8_lookLeaves 8 = .ok (.ifCond .ne 9, 3) := by decide +kernel
theorem dX8_lookLeaves_11 : decode cX8_lookLeaves 11 = .ok (.aload_n 0, 1) := by decide +kernel
theorem dX8_lookLeaves_12 : decode cX8_lookLeaves 12 = .ok (.iconst 1, 1) := by decide +kernel
theorem dX8_lookLeaves_13 : decode cX8_lookLeaves 13 = .ok (.invokevirtual 163, 3) := by decide +kernel
theorem dX8_lookLeaves_16 : decode cX8_lookLeaves 16 = .ok (.ireturn, 1) := by decide +kernel
theorem dX8_lookLeaves_17 : decode cX8_lookLeaves 17 = .ok (.aload_n 0, 1) := by decide +kernel
theorem dX8_lookLeaves_18 : decode cX8_lookLeaves 18 = .ok (.invokevirtual 349, 3) := by decide +kernel
theorem dX8_lookLeaves_21 : decode cX8_lookLeaves 21 = .ok (.pop, 1) := by decide +kernel
theorem dX8_lookLeaves_22 : decode cX8_lookLeaves 22 = .ok (.aload_n 0, 1) := by decide +kernel
theorem dX8_lookLeaves_23 : decode cX8_lookLeaves 23 = .ok (.getfield 346, 3) := by decide +kernel
theorem dX8_lookLeaves_26 : decode cX8_lookLeaves 26 = .ok (.ireturn, 1) := by decide +kernel
theorem dX8_judge_0 : decode cX8_judge 0 = .ok (.aload_n 0, 1) := by decide +kernel
theorem dX8_judge_1 : decode cX8_judge 1 = .ok (.invokevirtual 160, 3) := by decide +kernel
theorem dX8_judge_4 : decode cX8_judge 4 = .ok (.aload_n 0, 1) := by decide +kernel
theorem dX8_judge_5 : decode cX8_judge 5 = .ok (.getfield 173, 3) := by decide +kernel
theorem dX8_judge_8 : decode cX8_judge 8 = .ok (.ifCond .ne 9, 3) := by decide +kernel
theorem dX8_judge_11 : decode cX8_judge 11 = .ok (.aload_n 0, 1) := by decide +kernel
theorem dX8_judge_12 : decode cX8_judge 12 = .ok (.iconst 1, 1) := by decide +kernel
theorem dX8_judge_13 : decode cX8_judge 13 = .ok (.invokevirtual 163, 3) := by decide +kernel
theorem dX8_judge_16 : decode cX8_judge 16 = .ok (.ireturn, 1) := by decide +kernel
theorem dX8_judge_17 : decode cX8_judge 17 = .ok (.iconst 0, 1) := by decide +kernel
theorem dX8_judge_18 : decode cX8_judge 18 = .ok (.istore_n 1, 1) := by decide +kernel
theorem dX8_judge_19 : decode cX8_judge 19 = .ok (.iload_n 1, 1) := by decide +kernel
theorem dX8_judge_20 : decode cX8_judge 20 = .ok (.aload_n 0, 1) := by decide +kernel
theorem dX8_judge_21 : decode cX8_judge 21 = .ok (.getfield 20, 3) := by decide +kernel
theorem dX8_judge_24 : decode cX8_judge 24 = .ok (.bipush 6, 2) := by decide +kernel
theorem dX8_judge_26 : decode cX8_judge 26 = .ok (.iaload, 1) := by decide +kernel
theorem dX8_judge_27 : decode cX8_judge 27 = .ok (.if_icmp .ge 70, 3) := by decide +kernel
theorem dX8_judge_30 : decode cX8_judge 30 = .ok (.aload_n 0, 1) := by decide +kernel
theorem dX8_judge_31 : decode cX8_judge 31 = .ok (.aload_n 0, 1) := by decide +kernel
theorem dX8_judge_32 : decode cX8_judge 32 = .ok (.getfield 20, 3) := by decide +kernel
theorem dX8_judge_35 : decode cX8_judge 35 = .ok (.bipush 7, 2) := by decide +kernel
theorem dX8_judge_37 : decode cX8_judge 37 = .ok (.iaload, 1) := by decide +kernel
theorem dX8_judge_38 : decode cX8_judge 38 = .ok (.aload_n 0, 1) := by decide +kernel
theorem dX8_judge_39 : decode cX8_judge 39 = .ok (.getfield 20, 3) := by decide +kernel
theorem dX8_judge_42 : decode cX8_judge 42 = .ok (.bipush 8, 2) := by decide +kernel
theorem dX8_judge_44 : decode cX8_judge 44 = .ok (.iaload, 1) := by decide +kernel
theorem dX8_judge_45 : decode cX8_judge 45 = .ok (.aload_n 0, 1) := by decide +kernel
theorem dX8_judge_46 : decode cX8_judge 46 = .ok (.getfield 20, 3) := by decide +kernel
theorem dX8_judge_49 : decode cX8_judge 49 = .ok (.bipush 9, 2) := by decide +kernel
theorem dX8_judge_51 : decode cX8_judge 51 = .ok (.iaload, 1) := by decide +kernel
theorem dX8_judge_52 : decode cX8_judge 52 = .ok (.aload_n 0, 1) := by decide +kernel
theorem dX8_judge_53 : decode cX8_judge 53 = .ok (.getfield 20, 3) := by decide +kernel
theorem dX8_judge_56 : decode cX8_judge 56 = .ok (.bipush 36, 2) := by decide +kernel
theorem dX8_judge_58 : decode cX8_judge 58 = .ok (.iconst 2, 1) := by decide +kernel
theorem dX8_judge_59 : decode cX8_judge 59 = .ok (.iload_n 1, 1) := by decide +kernel
theorem dX8_judge_60 : decode cX8_judge 60 = .ok (.imul, 1) := by decide +kernel
theorem dX8_judge_61 : decode cX8_judge 61 = .ok (.iadd, 1) := by decide +kernel
theorem dX8_judge_62 : decode cX8_judge 62 = .ok (.iconst 1, 1) := by decide +kernel
theorem dX8_judge_63 : decode cX8_judge 63 = .ok (.iadd, 1) := by decide +kernel
theorem dX8_judge_64 : decode cX8_judge 64 = .ok (.iaload, 1) := by decide +kernel
theorem dX8_judge_65 : decode cX8_judge 65 = .ok (.aload_n 0, 1) := by decide +kernel
theorem dX8_judge_66 : decode cX8_judge 66 = .ok (.getfield 20, 3) := by decide +kernel
theorem dX8_judge_69 : decode cX8_judge 69 = .ok (.iconst 1, 1) := by decide +kernel
theorem dX8_judge_70 : decode cX8_judge 70 = .ok (.iaload, 1) := by decide +kernel
theorem dX8_judge_71 : decode cX8_judge 71 = .ok (.idiv, 1) := by decide +kernel
theorem dX8_judge_72 : decode cX8_judge 72 = .ok (.invokevirtual 327, 3) := by decide +kernel
theorem dX8_judge_75 : decode cX8_judge 75 = .ok (.aload_n 0, 1) := by decide +kernel
theorem dX8_judge_76 : decode cX8_judge 76 = .ok (.getfield 20, 3) := by decide +kernel
theorem dX8_judge_79 : decode cX8_judge 79 = .ok (.bipush 36, 2) := by decide +kernel
theorem dX8_judge_81 : decode cX8_judge 81 = .ok (.iconst 2, 1) := by decide +kernel
theorem dX8_judge_82 : decode cX8_judge 82 = .ok (.iload_n 1, 1) := by decide +kernel
theorem dX8_judge_83 : decode cX8_judge 83 = .ok (.imul, 1) := by decide +kernel
theorem dX8_judge_84 : decode cX8_judge 84 = .ok (.iadd, 1) := by decide +kernel
theorem dX8_judge_85 : decode cX8_judge 85 = .ok (.iaload, 1) := by decide +kernel
theorem dX8_judge_86 : decode cX8_judge 86 = .ok (.if_icmp .eq 5, 3) := by decide +kernel
theorem dX8_judge_89 : decode cX8_judge 89 = .ok (.iload_n 1, 1) := by decide +kernel
theorem dX8_judge_90 : decode cX8_judge 90 = .ok (.ireturn, 1) := by decide +kernel
theorem dX8_judge_91 : decode cX8_judge 91 = .ok (.iinc 1 1, 3) := by decide +kernel
theorem dX8_judge_94 : decode cX8_judge 94 = .ok (.goto (-75), 3) := by decide +kernel
theorem dX8_judge_97 : decode cX8_judge 97 = .ok (.bipush (-2), 2) := by decide +kernel
theorem dX8_judge_99 : decode cX8_judge 99 = .ok (.ireturn, 1) := by decide +kernel
theorem dX8_lawsLike_0 : decode cX8_lawsLike 0 = .ok (.aload_n 0, 1) := by decide +kernel
theorem dX8_lawsLike_1 : decode cX8_lawsLike 1 = .ok (.invokevirtual 160, 3) := by decide +kernel
theorem dX8_lawsLike_4 : decode cX8_lawsLike 4 = .ok (.aload_n 0, 1) := by decide +kernel
theorem dX8_lawsLike_5 : decode cX8_lawsLike 5 = .ok (.getfield 173, 3) := by decide +kernel
theorem dX8_lawsLike_8 : decode cX8_lawsLike 8 = .ok (.ifCond .ne 9, 3) := by decide +kernel
theorem dX8_lawsLike_11 : decode cX8_lawsLike 11 = .ok (.aload_n 0, 1) := by decide +kernel
theorem dX8_lawsLike_12 : decode cX8_lawsLike 12 = .ok (.iconst 1, 1) := by decide +kernel
theorem dX8_lawsLike_13 : decode cX8_lawsLike 13 = .ok (.invokevirtual 163, 3) := by decide +kernel
theorem dX8_lawsLike_16 : decode cX8_lawsLike 16 = .ok (.ireturn, 1) := by decide +kernel
theorem dX8_lawsLike_17 : decode cX8_lawsLike 17 = .ok (.iconst 0, 1) := by decide +kernel
theorem dX8_lawsLike_18 : decode cX8_lawsLike 18 = .ok (.istore_n 1, 1) := by decide +kernel
theorem dX8_lawsLike_19 : decode cX8_lawsLike 19 = .ok (.iconst 0, 1) := by decide +kernel
theorem dX8_lawsLike_20 : decode cX8_lawsLike 20 = .ok (.istore_n 2, 1) := by decide +kernel
theorem dX8_lawsLike_21 : decode cX8_lawsLike 21 = .ok (.iload_n 2, 1) := by decide +kernel
theorem dX8_lawsLike_22 : decode cX8_lawsLike 22 = .ok (.aload_n 0, 1) := by decide +kernel
theorem dX8_lawsLike_23 : decode cX8_lawsLike 23 = .ok (.invokevirtual 334, 3) := by decide +kernel
theorem dX8_lawsLike_26 : decode cX8_lawsLike 26 = .ok (.if_icmp .ge 86, 3) := by decide +kernel
theorem dX8_lawsLike_29 : decode cX8_lawsLike 29 = .ok (.iconst 1, 1) := by decide +kernel
theorem dX8_lawsLike_30 : decode cX8_lawsLike 30 = .ok (.istore_n 3, 1) := by decide +kernel
theorem dX8_lawsLike_31 : decode cX8_lawsLike 31 = .ok (.iconst 0, 1) := by decide +kernel
theorem dX8_lawsLike_32 : decode cX8_lawsLike 32 = .ok (.istore 4, 2) := by decide +kernel
theorem dX8_lawsLike_34 : decode cX8_lawsLike 34 = .ok (.iload 4, 2) := by decide +kernel
theorem dX8_lawsLike_36 : decode cX8_lawsLike 36 = .ok (.bipush 20, 2) := by decide +kernel
theorem dX8_lawsLike_38 : decode cX8_lawsLike 38 = .ok (.if_icmp .ge 56, 3) := by decide +kernel
theorem dX8_lawsLike_41 : decode cX8_lawsLike 41 = .ok (.iload_n 3, 1) := by decide +kernel
theorem dX8_lawsLike_42 : decode cX8_lawsLike 42 = .ok (.ifCond .eq 52, 3) := by decide +kernel
theorem dX8_lawsLike_45 : decode cX8_lawsLike 45 = .ok (.aload_n 0, 1) := by decide +kernel
theorem dX8_lawsLike_46 : decode cX8_lawsLike 46 = .ok (.iload_n 2, 1) := by decide +kernel
theorem dX8_lawsLike_47 : decode cX8_lawsLike 47 = .ok (.iload 4, 2) := by decide +kernel
theorem dX8_lawsLike_49 : decode cX8_lawsLike 49 = .ok (.invokevirtual 331, 3) := by decide +kernel
theorem dX8_lawsLike_52 : decode cX8_lawsLike 52 = .ok (.aload_n 0, 1) := by decide +kernel
theorem dX8_lawsLike_53 : decode cX8_lawsLike 53 = .ok (.aload_n 0, 1) := by decide +kernel
theorem dX8_lawsLike_54 : decode cX8_lawsLike 54 = .ok (.getfield 20, 3) := by decide +kernel
theorem dX8_lawsLike_57 : decode cX8_lawsLike 57 = .ok (.bipush 7, 2) := by decide +kernel
theorem dX8_lawsLike_59 : decode cX8_lawsLike 59 = .ok (.iaload, 1) := by decide +kernel
theorem dX8_lawsLike_60 : decode cX8_lawsLike 60 = .ok (.aload_n 0, 1) := by decide +kernel
theorem dX8_lawsLike_61 : decode cX8_lawsLike 61 = .ok (.getfield 20, 3) := by decide +kernel
theorem dX8_lawsLike_64 : decode cX8_lawsLike 64 = .ok (.bipush 8, 2) := by decide +kernel
theorem dX8_lawsLike_66 : decode cX8_lawsLike 66 = .ok (.iaload, 1) := by decide +kernel
theorem dX8_lawsLike_67 : decode cX8_lawsLike 67 = .ok (.aload_n 0, 1) := by decide +kernel
theorem dX8_lawsLike_68 : decode cX8_lawsLike 68 = .ok (.getfield 20, 3) := by decide +kernel
theorem dX8_lawsLike_71 : decode cX8_lawsLike 71 = .ok (.bipush 9, 2) := by decide +kernel
theorem dX8_lawsLike_73 : decode cX8_lawsLike 73 = .ok (.iaload, 1) := by decide +kernel
theorem dX8_lawsLike_74 : decode cX8_lawsLike 74 = .ok (.iload 4, 2) := by decide +kernel
theorem dX8_lawsLike_76 : decode cX8_lawsLike 76 = .ok (.invokevirtual 327, 3) := by decide +kernel
theorem dX8_lawsLike_79 : decode cX8_lawsLike 79 = .ok (.if_icmp .ne 7, 3) := by decide +kernel
theorem dX8_lawsLike_82 : decode cX8_lawsLike 82 = .ok (.iconst 1, 1) := by decide +kernel
theorem dX8_lawsLike_83 : decode cX8_lawsLike 83 = .ok (.goto 4, 3) := by decide +kernel
theorem dX8_lawsLike_86 : decode cX8_lawsLike 86 = .ok (.iconst 0, 1) := by decide +kernel
theorem dX8_lawsLike_87 : decode cX8_lawsLike 87 = .ok (.istore_n 3, 1) := by decide +kernel
theorem dX8_lawsLike_88 : decode cX8_lawsLike 88 = .ok (.iinc 4 1, 3) := by decide +kernel
theorem dX8_lawsLike_91 : decode cX8_lawsLike 91 = .ok (.goto (-57), 3) := by decide +kernel
theorem dX8_lawsLike_94 : decode cX8_lawsLike 94 = .ok (.iload_n 1, 1) := by decide +kernel
theorem dX8_lawsLike_95 : decode cX8_lawsLike 95 = .ok (.iload_n 3, 1) := by decide +kernel
theorem dX8_lawsLike_96 : decode cX8_lawsLike 96 = .ok (.ifCond .eq 7, 3) := by decide +kernel
theorem dX8_lawsLike_99 : decode cX8_lawsLike 99 = .ok (.iconst 1, 1) := by decide +kernel
theorem dX8_lawsLike_100 : decode cX8_lawsLike 100 = .ok (.goto 4, 3) := by decide +kernel
theorem dX8_lawsLike_103 : decode cX8_lawsLike 103 = .ok (.iconst 0, 1) := by decide +kernel
theorem dX8_lawsLike_104 : decode cX8_lawsLike 104 = .ok (.iadd, 1) := by decide +kernel
theorem dX8_lawsLike_105 : decode cX8_lawsLike 105 = .ok (.istore_n 1, 1) := by decide +kernel
theorem dX8_lawsLike_106 : decode cX8_lawsLike 106 = .ok (.iinc 2 1, 3) := by decide +kernel
theorem dX8_lawsLike_109 : decode cX8_lawsLike 109 = .ok (.goto (-88), 3) := by decide +kernel
theorem dX8_lawsLike_112 : decode cX8_lawsLike 112 = .ok (.iload_n 1, 1) := by decide +kernel
theorem dX8_lawsLike_113 : decode cX8_lawsLike 113 = .ok (.ireturn, 1) := by decide +kernel
theorem dX8_lawFor_0 : decode cX8_lawFor 0 = .ok (.aload_n 0, 1) := by decide +kernel
theorem dX8_lawFor_1 : decode cX8_lawFor 1 = .ok (.invokevirtual 160, 3) := by decide +kernel
theorem dX8_lawFor_4 : decode cX8_lawFor 4 = .ok (.aload_n 0, 1) := by decide +kernel
theorem dX8_lawFor_5 : decode cX8_lawFor 5 = .ok (.aload_n 0, 1) := by decide +kernel
theorem dX8_lawFor_6 : decode cX8_lawFor 6 = .ok (.iload_n 1, 1) := by decide +kernel
theorem dX8_lawFor_7 : decode cX8_lawFor 7 = .ok (.invokevirtual 277, 3) := by decide +kernel
theorem dX8_lawFor_10 : decode cX8_lawFor 10 = .ok (.iload_n 2, 1) := by decide +kernel
theorem dX8_lawFor_11 : decode cX8_lawFor 11 = .ok (.iconst 0, 1) := by decide +kernel
theorem dX8_lawFor_12 : decode cX8_lawFor 12 = .ok (.bipush 99, 2) := by decide +kernel
theorem dX8_lawFor_14 : decode cX8_lawFor 14 = .ok (.invokestatic 142, 3) := by decide +kernel
theorem dX8_lawFor_17 : decode cX8_lawFor 17 = .ok (.invokevirtual 290, 3) := by decide +kernel
theorem dX8_lawFor_20 : decode cX8_lawFor 20 = .ok (.istore_n 3, 1) := by decide +kernel
theorem dX8_lawFor_21 : decode cX8_lawFor 21 = .ok (.iload_n 3, 1) := by decide +kernel
theorem dX8_lawFor_22 : decode cX8_lawFor 22 = .ok (.ifCond .eq 9, 3) := by decide +kernel
theorem dX8_lawFor_25 : decode cX8_lawFor 25 = .ok (.aload_n 0, 1) := by decide +kernel
theorem dX8_lawFor_26 : decode cX8_lawFor 26 = .ok (.iload_n 3, 1) := by decide +kernel
theorem dX8_lawFor_27 : decode cX8_lawFor 27 = .ok (.invokevirtual 163, 3) := by decide +kernel
theorem dX8_lawFor_30 : decode cX8_lawFor 30 = .ok (.ireturn, 1) := by decide +kernel
theorem dX8_lawFor_31 : decode cX8_lawFor 31 = .ok (.iconst 0, 1) := by decide +kernel
theorem dX8_lawFor_32 : decode cX8_lawFor 32 = .ok (.istore 4, 2) := by decide +kernel
theorem dX8_lawFor_34 : decode cX8_lawFor 34 = .ok (.aload_n 0, 1) := by decide +kernel
theorem dX8_lawFor_35 : decode cX8_lawFor 35 = .ok (.iload 4, 2) := by decide +kernel
theorem dX8_lawFor_37 : decode cX8_lawFor 37 = .ok (.iload_n 2, 1) := by decide +kernel
theorem dX8_lawFor_38 : decode cX8_lawFor 38 = .ok (.invokevirtual 331, 3) := by decide +kernel
theorem dX8_lawFor_41 : decode cX8_lawFor 41 = .ok (.iload_n 1, 1) := by decide +kernel
theorem dX8_lawFor_42 : decode cX8_lawFor 42 = .ok (.if_icmp .eq 9, 3) := by decide +kernel
theorem dX8_lawFor_45 : decode cX8_lawFor 45 = .ok (.iinc 4 1, 3) := by decide +kernel
theorem dX8_lawFor_48 : decode cX8_lawFor 48 = .ok (.goto (-14), 3) := by decide +kernel
theorem dX8_lawFor_51 : decode cX8_lawFor 51 = .ok (.aload_n 0, 1) := by decide +kernel
theorem dX8_lawFor_52 : decode cX8_lawFor 52 = .ok (.iload 4, 2) := by decide +kernel
theorem dX8_lawFor_54 : decode cX8_lawFor 54 = .ok (.invokevirtual 340, 3) := by decide +kernel
theorem dX8_lawFor_57 : decode cX8_lawFor 57 = .ok (.ireturn, 1) := by decide +kernel
theorem dX8_figureHas_0 : decode cX8_figureHas 0 = .ok (.iload_n 1, 1) := by decide +kernel
theorem dX8_figureHas_1 : decode cX8_figureHas 1 = .ok (.ifCond .eq 16, 3) := by decide +kernel
theorem dX8_figureHas_4 : decode cX8_figureHas 4 = .ok (.iload_n 2, 1) := by decide +kernel
theorem dX8_figureHas_5 : decode cX8_figureHas 5 = .ok (.ifCond .eq 8, 3) := by decide +kernel
theorem dX8_figureHas_8 : decode cX8_figureHas 8 = .ok (.iload_n 0, 1) := by decide +kernel
theorem dX8_figureHas_9 : decode cX8_figureHas 9 = .ok (.ineg, 1) := by decide +kernel
theorem dX8_figureHas_10 : decode cX8_figureHas 10 = .ok (.goto 16, 3) := by decide +kernel
theorem dX8_figureHas_13 : decode cX8_figureHas 13 = .ok (.iconst 4, 1) := by decide +kernel
theorem dX8_figureHas_14 : decode cX8_figureHas 14 = .ok (.goto 12, 3) := by decide +kernel
theorem dX8_figureHas_17 : decode cX8_figureHas 17 = .ok (.iload_n 2, 1) := by decide +kernel
theorem dX8_figureHas_18 : decode cX8_figureHas 18 = .ok (.ifCond .eq 7, 3) := by decide +kernel
theorem dX8_figureHas_21 : decode cX8_figureHas 21 = .ok (.iconst 1, 1) := by decide +kernel
theorem dX8_figureHas_22 : decode cX8_figureHas 22 = .ok (.goto 4, 3) := by decide +kernel
theorem dX8_figureHas_25 : decode cX8_figureHas 25 = .ok (.iconst 0, 1) := by decide +kernel
theorem dX8_figureHas_26 : decode cX8_figureHas 26 = .ok (.ireturn, 1) := by decide +kernel
theorem dX8_otherHas_0 : decode cX8_otherHas 0 = .ok (.iload_n 0, 1) := by decide +kernel
theorem dX8_otherHas_1 : decode cX8_otherHas 1 = .ok (.ifCond .eq 15, 3) := by decide +kernel
theorem dX8_otherHas_4 : decode cX8_otherHas 4 = .ok (.iload_n 1, 1) := by decide +kernel
theorem dX8_otherHas_5 : decode cX8_otherHas 5 = .ok (.ifCond .eq 7, 3) := by decide +kernel
theorem dX8_otherHas_8 : decode cX8_otherHas 8 = .ok (.iconst 3, 1) := by decide +kernel
theorem dX8_otherHas_9 : decode cX8_otherHas 9 = .ok (.goto 16, 3) := by decide +kernel
theorem dX8_otherHas_12 : decode cX8_otherHas 12 = .ok (.iconst 0, 1) := by decide +kernel
theorem dX8_otherHas_13 : decode cX8_otherHas 13 = .ok (.goto 12, 3) := by decide +kernel
theorem dX8_otherHas_16 : decode cX8_otherHas 16 = .ok (.iload_n 1, 1) := by decide +kernel
theorem dX8_otherHas_17 : decode cX8_otherHas 17 = .ok (.ifCond .eq 7, 3) := by decide +kernel
theorem dX8_otherHas_20 : decode cX8_otherHas 20 = .ok (.iconst (-1), 1) := by decide +kernel
theorem dX8_otherHas_21 : decode cX8_otherHas 21 = .ok (.goto 4, 3) := by decide +kernel
theorem dX8_otherHas_24 : decode cX8_otherHas 24 = .ok (.iconst 1, 1) := by decide +kernel
theorem dX8_otherHas_25 : decode cX8_otherHas 25 = .ok (.ireturn, 1) := by decide +kernel
theorem dX8_dares_0 : decode cX8_dares 0 = .ok (.aload_n 0, 1) := by decide +kernel
theorem dX8_dares_1 : decode cX8_dares 1 = .ok (.invokevirtual 160, 3) := by decide +kernel
theorem dX8_dares_4 : decode cX8_dares 4 = .ok (.aload_n 0, 1) := by decide +kernel
theorem dX8_dares_5 : decode cX8_dares 5 = .ok (.aload_n 0, 1) := by decide +kernel
theorem dX8_dares_6 : decode cX8_dares 6 = .ok (.getfield 173, 3) := by decide +kernel
theorem dX8_dares_9 : decode cX8_dares 9 = .ok (.iload_n 1, 1) := by decide +kernel
theorem dX8_dares_10 : decode cX8_dares 10 = .ok (.iconst 0, 1) := by decide +kernel
theorem dX8_dares_11 : decode cX8_dares 11 = .ok (.bipush 9, 2) := by decide +kernel
theorem dX8_dares_13 : decode cX8_dares 13 = .ok (.invokestatic 142, 3) := by decide +kernel
theorem dX8_dares_16 : decode cX8_dares 16 = .ok (.invokevirtual 290, 3) := by decide +kernel
theorem dX8_dares_19 : decode cX8_dares 19 = .ok (.istore 5, 2) := by decide +kernel
theorem dX8_dares_21 : decode cX8_dares 21 = .ok (.iload 5, 2) := by decide +kernel
theorem dX8_dares_23 : decode cX8_dares 23 = .ok (.ifCond .ne 23, 3) := by decide +kernel
theorem dX8_dares_26 : decode cX8_dares 26 = .ok (.iload 4, 2) := by decide +kernel
theorem dX8_dares_28 : decode cX8_dares 28 = .ok (.ifCond .eq 11, 3) := by decide +kernel
theorem dX8_dares_31 : decode cX8_dares 31 = .ok (.iload_n 2, 1) := by decide +kernel
theorem dX8_dares_32 : decode cX8_dares 32 = .ok (.iload_n 3, 1) := by decide +kernel
theorem dX8_dares_33 : decode cX8_dares 33 = .ok (.invokestatic 352, 3) := by decide +kernel
theorem dX8_dares_36 : decode cX8_dares 36 = .ok (.goto 9, 3) := by decide +kernel
theorem dX8_dares_39 : decode cX8_dares 39 = .ok (.iload_n 1, 1) := by decide +kernel
theorem dX8_dares_40 : decode cX8_dares 40 = .ok (.iload_n 2, 1) := by decide +kernel
theorem dX8_dares_41 : decode cX8_dares 41 = .ok (.iload_n 3, 1) := by decide +kernel
theorem dX8_dares_42 : decode cX8_dares 42 = .ok (.invokestatic 355, 3) := by decide +kernel
theorem dX8_dares_45 : decode cX8_dares 45 = .ok (.ireturn, 1) := by decide +kernel
theorem dX8_dares_46 : decode cX8_dares 46 = .ok (.aload_n 0, 1) := by decide +kernel
theorem dX8_dares_47 : decode cX8_dares 47 = .ok (.iload 5, 2) := by decide +kernel
theorem dX8_dares_49 : decode cX8_dares 49 = .ok (.putfield 62, 3) := by decide +kernel
theorem dX8_dares_52 : decode cX8_dares 52 = .ok (.bipush (-100), 2) := by decide +kernel
theorem dX8_dares_54 : decode cX8_dares 54 = .ok (.ireturn, 1) := by decide +kernel
theorem dX8_seekRests_0 : decode cX8_seekRests 0 = .ok (.iconst 0, 1) := by decide +kernel
theorem dX8_seekRests_1 : decode cX8_seekRests 1 = .ok (.istore_n 2, 1) := by decide +kernel
theorem dX8_seekRests_2 : decode cX8_seekRests 2 = .ok (.aload_n 0, 1) := by decide +kernel
theorem dX8_seekRests_3 : decode cX8_seekRests 3 = .ok (.bipush (-2), 2) := by decide +kernel
theorem dX8_seekRests_5 : decode cX8_seekRests 5 = .ok (.putfield 359, 3) := by decide +kernel
theorem dX8_seekRests_8 : decode cX8_seekRests 8 = .ok (.iconst 0, 1) := by decide +kernel
theorem dX8_seekRests_9 : decode cX8_seekRests 9 = .ok (.istore_n 3, 1) := by decide +kernel
theorem dX8_seekRests_10 : decode cX8_seekRests 10 = .ok (.iload_n 3, 1) := by decide +kernel
theorem dX8_seekRests_11 : decode cX8_seekRests 11 = .ok (.iconst 4, 1) := by decide +kernel
theorem dX8_seekRests_12 : decode cX8_seekRests 12 = .ok (.if_icmp .ge 111, 3) := by decide +kernel
theorem dX8_seekRests_15 : decode cX8_seekRests 15 = .ok (.iload_n 3, 1) := by decide +kernel
theorem dX8_seekRests_16 : decode cX8_seekRests 16 = .ok (.iconst 1, 1) := by decide +kernel
theorem dX8_seekRests_17 : decode cX8_seekRests 17 = .ok (.if_icmp .le 7, 3) := by decide +kernel
theorem dX8_seekRests_20 : decode cX8_seekRests 20 = .ok (.iconst 1, 1) := by decide +kernel
theorem dX8_seekRests_21 : decode cX8_seekRests 21 = .ok (.goto 4, 3) := by decide +kernel
theorem dX8_seekRests_24 : decode cX8_seekRests 24 = .ok (.iconst 0, 1) := by decide +kernel
theorem dX8_seekRests_25 : decode cX8_seekRests 25 = .ok (.istore 4, 2) := by decide +kernel
theorem dX8_seekRests_27 : decode cX8_seekRests 27 = .ok (.iload_n 3, 1) := by decide +kernel
theorem dX8_seekRests_28 : decode cX8_seekRests 28 = .ok (.iconst 2, 1) := by decide +kernel
theorem dX8_seekRests_29 : decode cX8_seekRests 29 = .ok (.irem, 1) := by decide +kernel
theorem dX8_seekRests_30 : decode cX8_seekRests 30 = .ok (.iconst 1, 1) := by decide +kernel
theorem dX8_seekRests_31 : decode cX8_seekRests 31 = .ok (.if_icmp .ne 7, 3) := by decide +kernel
theorem dX8_seekRests_34 : decode cX8_seekRests 34 = .ok (.iconst 1, 1) := by decide +kernel
theorem dX8_seekRests_35 : decode cX8_seekRests 35 = .ok (.goto 4, 3) := by decide +kernel
theorem dX8_seekRests_38 : decode cX8_seekRests 38 = .ok (.iconst 0, 1) := by decide +kernel
theorem dX8_seekRests_39 : decode cX8_seekRests 39 = .ok (.istore 5, 2) := by decide +kernel
theorem dX8_seekRests_41 : decode cX8_seekRests 41 = .ok (.iload_n 1, 1) := by decide +kernel
theorem dX8_seekRests_42 : decode cX8_seekRests 42 = .ok (.iload 4, 2) := by decide +kernel
theorem dX8_seekRests_44 : decode cX8_seekRests 44 = .ok (.ifCond .ne 7, 3) := by decide +kernel
theorem dX8_seekRests_47 : decode cX8_seekRests 47 = .ok (.iconst 1, 1) := by decide +kernel
theorem dX8_seekRests_48 : decode cX8_seekRests 48 = .ok (.goto 4, 3) := by decide +kernel
theorem dX8_seekRests_51 : decode cX8_seekRests 51 = .ok (.iconst 0, 1) := by decide +kernel
theorem dX8_seekRests_52 : decode cX8_seekRests 52 = .ok (.iload 5, 2) := by decide +kernel
theorem dX8_seekRests_54 : decode cX8_seekRests 54 = .ok (.invokestatic 355, 3) := by decide +kernel
theorem dX8_seekRests_57 : decode cX8_seekRests 57 = .ok (.iload_n 1, 1) := by decide +kernel
theorem dX8_seekRests_58 : decode cX8_seekRests 58 = .ok (.iload 4, 2) := by decide +kernel
theorem dX8_seekRests_60 : decode cX8_seekRests 60 = .ok (.iload 5, 2) := by decide +kernel
theorem dX8_seekRests_62 : decode cX8_seekRests 62 = .ok (.invokestatic 355, 3) := by decide +kernel
theorem dX8_seekRests_65 : decode cX8_seekRests 65 = .ok (.if_icmp .gt 52, 3) := by decide +kernel
theorem dX8_seekRests_68 : decode cX8_seekRests 68 = .ok (.iload 4, 2) := by decide +kernel
theorem dX8_seekRests_70 : decode cX8_seekRests 70 = .ok (.iload 5, 2) := by decide +kernel
theorem dX8_seekRests_72 : decode cX8_seekRests 72 = .ok (.ifCond .ne 7, 3) := by decide +kernel
theorem dX8_seekRests_75 : decode cX8_seekRests 75 = .ok (.iconst 1, 1) := by decide +kernel
theorem dX8_seekRests_76 : decode cX8_seekRests 76 = .ok (.goto 4, 3) := by decide +kernel
theorem dX8_seekRests_79 : decode cX8_seekRests 79 = .ok (.iconst 0, 1) := by decide +kernel
theorem dX8_seekRests_80 : decode cX8_seekRests 80 = .ok (.invokestatic 352, 3) := by decide +kernel
theorem dX8_seekRests_83 : decode cX8_seekRests 83 = .ok (.iload 4, 2) := by decide +kernel
theorem dX8_seekRests_85 : decode cX8_seekRests 85 = .ok (.iload 5, 2) := by decide +kernel
theorem dX8_seekRests_87 : decode cX8_seekRests 87 = .ok (.invokestatic 352, 3) := by decide +kernel
theorem dX8_seekRests_90 : decode cX8_seekRests 90 = .ok (.if_icmp .le 6, 3) := by decide +kernel
theorem dX8_seekRests_93 : decode cX8_seekRests 93 = .ok (.goto 24, 3) := by decide +kernel
theorem dX8_seekRests_96 : decode cX8_seekRests 96 = .ok (.iload_n 2, 1) := by decide +kernel
theorem dX8_seekRests_97 : decode cX8_seekRests 97 = .ok (.ifCond .ne 17, 3) := by decide +kernel
theorem dX8_seekRests_100 : decode cX8_seekRests 100 = .ok (.aload_n 0, 1) := by decide +kernel
theorem dX8_seekRests_101 : decode cX8_seekRests 101 = .ok (.bipush 10, 2) := by decide +kernel
theorem dX8_seekRests_103 : decode cX8_seekRests 103 = .ok (.iload_n 3, 1) := by decide +kernel
theorem dX8_seekRests_104 : decode cX8_seekRests 104 = .ok (.iconst 2, 1) := by decide +kernel
theorem dX8_seekRests_105 : decode cX8_seekRests 105 = .ok (.idiv, 1) := by decide +kernel
theorem dX8_seekRests_106 : decode cX8_seekRests 106 = .ok (.imul, 1) := by decide +kernel
theorem dX8_seekRests_107 : decode cX8_seekRests 107 = .ok (.iload_n 3, 1) := by decide +kernel
theorem dX8_seekRests_108 : decode cX8_seekRests 108 = .ok (.iconst 2, 1) := by decide +kernel
theorem dX8_seekRests_109 : decode cX8_seekRests 109 = .ok (.irem, 1) := by decide +kernel
theorem dX8_seekRests_110 : decode cX8_seekRests 110 = .ok (.iadd, 1) := by decide +kernel
theorem dX8_seekRests_111 : decode cX8_seekRests 111 = .ok (.putfield 359, 3) := by decide +kernel
theorem dX8_seekRests_114 : decode cX8_seekRests 114 = .ok (.iinc 2 1, 3) := by decide +kernel
theorem dX8_seekRests_117 : decode cX8_seekRests 117 = .ok (.iinc 3 1, 3) := by decide +kernel
theorem dX8_seekRests_120 : decode cX8_seekRests 120 = .ok (.goto (-110), 3) := by decide +kernel
theorem dX8_seekRests_123 : decode cX8_seekRests 123 = .ok (.iload_n 2, 1) := by decide +kernel
theorem dX8_seekRests_124 : decode cX8_seekRests 124 = .ok (.ireturn, 1) := by decide +kernel
theorem dX8_rests_0 : decode cX8_rests 0 = .ok (.aload_n 0, 1) := by decide +kernel
theorem dX8_rests_1 : decode cX8_rests 1 = .ok (.invokevirtual 160, 3) := by decide +kernel
theorem dX8_rests_4 : decode cX8_rests 4 = .ok (.aload_n 0, 1) := by decide +kernel
theorem dX8_rests_5 : decode cX8_rests 5 = .ok (.aload_n 0, 1) := by decide +kernel
theorem dX8_rests_6 : decode cX8_rests 6 = .ok (.getfield 173, 3) := by decide +kernel
theorem dX8_rests_9 : decode cX8_rests 9 = .ok (.iload_n 1, 1) := by decide +kernel
theorem dX8_rests_10 : decode cX8_rests 10 = .ok (.iconst 0, 1) := by decide +kernel
theorem dX8_rests_11 : decode cX8_rests 11 = .ok (.bipush 9, 2) := by decide +kernel
theorem dX8_rests_13 : decode cX8_rests 13 = .ok (.invokestatic 142, 3) := by decide +kernel
theorem dX8_rests_16 : decode cX8_rests 16 = .ok (.invokevirtual 290, 3) := by decide +kernel
theorem dX8_rests_19 : decode cX8_rests 19 = .ok (.istore_n 2, 1) := by decide +kernel
theorem dX8_rests_20 : decode cX8_rests 20 = .ok (.iload_n 2, 1) := by decide +kernel
theorem dX8_rests_21 : decode cX8_rests 21 = .ok (.ifCond .eq 11, 3) := by decide +kernel
theorem dX8_rests_24 : decode cX8_rests 24 = .ok (.aload_n 0, 1) := by decide +kernel
theorem dX8_rests_25 : decode cX8_rests 25 = .ok (.iload_n 2, 1) := by decide +kernel
theorem dX8_rests_26 : decode cX8_rests 26 = .ok (.invokevirtual 163, 3) := by decide +kernel
theorem dX8_rests_29 : decode cX8_rests 29 = .ok (.goto 8, 3) := by decide +kernel
theorem dX8_rests_32 : decode cX8_rests 32 = .ok (.aload_n 0, 1) := by decide +kernel
theorem dX8_rests_33 : decode cX8_rests 33 = .ok (.iload_n 1, 1) := by decide +kernel
theorem dX8_rests_34 : decode cX8_rests 34 = .ok (.invokevirtual 362, 3) := by decide +kernel
theorem dX8_rests_37 : decode cX8_rests 37 = .ok (.ireturn, 1) := by decide +kernel
theorem dX8_rest_0 : decode cX8_rest 0 = .ok (.aload_n 0, 1) := by decide +kernel
theorem dX8_rest_1 : decode cX8_rest 1 = .ok (.invokevirtual 160, 3) := by decide +kernel
theorem dX8_rest_4 : decode cX8_rest 4 = .ok (.aload_n 0, 1) := by decide +kernel
theorem dX8_rest_5 : decode cX8_rest 5 = .ok (.aload_n 0, 1) := by decide +kernel
theorem dX8_rest_6 : decode cX8_rest 6 = .ok (.getfield 173, 3) := by decide +kernel
theorem dX8_rest_9 : decode cX8_rest 9 = .ok (.iload_n 1, 1) := by decide +kernel
theorem dX8_rest_10 : decode cX8_rest 10 = .ok (.iconst 0, 1) := by decide +kernel
theorem dX8_rest_11 : decode cX8_rest 11 = .ok (.bipush 9, 2) := by decide +kernel
theorem dX8_rest_13 : decode cX8_rest 13 = .ok (.invokestatic 142, 3) := by decide +kernel
theorem dX8_rest_16 : decode cX8_rest 16 = .ok (.invokevirtual 290, 3) := by decide +kernel
theorem dX8_rest_19 : decode cX8_rest 19 = .ok (.istore_n 2, 1) := by decide +kernel
theorem dX8_rest_20 : decode cX8_rest 20 = .ok (.iload_n 2, 1) := by decide +kernel
theorem dX8_rest_21 : decode cX8_rest 21 = .ok (.ifCond .eq 9, 3) := by decide +kernel
theorem dX8_rest_24 : decode cX8_rest 24 = .ok (.aload_n 0, 1) := by decide +kernel
theorem dX8_rest_25 : decode cX8_rest 25 = .ok (.iload_n 2, 1) := by decide +kernel
theorem dX8_rest_26 : decode cX8_rest 26 = .ok (.invokevirtual 163, 3) := by decide +kernel
theorem dX8_rest_29 : decode cX8_rest 29 = .ok (.ireturn, 1) := by decide +kernel
theorem dX8_rest_30 : decode cX8_rest 30 = .ok (.aload_n 0, 1) := by decide +kernel
theorem dX8_rest_31 : decode cX8_rest 31 = .ok (.iload_n 1, 1) := by decide +kernel
theorem dX8_rest_32 : decode cX8_rest 32 = .ok (.invokevirtual 362, 3) := by decide +kernel
theorem dX8_rest_35 : decode cX8_rest 35 = .ok (.pop, 1) := by decide +kernel
theorem dX8_rest_36 : decode cX8_rest 36 = .ok (.aload_n 0, 1) := by decide +kernel
theorem dX8_rest_37 : decode cX8_rest 37 = .ok (.getfield 359, 3) := by decide +kernel
theorem dX8_rest_40 : decode cX8_rest 40 = .ok (.ireturn, 1) := by decide +kernel
theorem dX8_turnsOf_0 : decode cX8_turnsOf 0 = .ok (.aload_n 0, 1) := by decide +kernel
theorem dX8_turnsOf_1 : decode cX8_turnsOf 1 = .ok (.invokevirtual 294, 3) := by decide +kernel
theorem dX8_turnsOf_4 : decode cX8_turnsOf 4 = .ok (.iconst 0, 1) := by decide +kernel
theorem dX8_turnsOf_5 : decode cX8_turnsOf 5 = .ok (.istore_n 3, 1) := by decide +kernel
theorem dX8_turnsOf_6 : decode cX8_turnsOf 6 = .ok (.iconst 1, 1) := by decide +kernel
theorem dX8_turnsOf_7 : decode cX8_turnsOf 7 = .ok (.istore 4, 2) := by decide +kernel
theorem dX8_turnsOf_9 : decode cX8_turnsOf 9 = .ok (.iload 4, 2) := by decide +kernel
theorem dX8_turnsOf_11 : decode cX8_turnsOf 11 = .ok (.iload_n 2, 1) := by decide +kernel
theorem dX8_turnsOf_12 : decode cX8_turnsOf 12 = .ok (.if_icmp .gt 27, 3) := by decide +kernel
theorem dX8_turnsOf_15 : decode cX8_turnsOf 15 = .ok (.iload_n 3, 1) := by decide +kernel
theorem dX8_turnsOf_16 : decode cX8_turnsOf 16 = .ok (.aload_n 0, 1) := by decide +kernel
theorem dX8_turnsOf_17 : decode cX8_turnsOf 17 = .ok (.iload 4, 2) := by decide +kernel
theorem dX8_turnsOf_19 : decode cX8_turnsOf 19 = .ok (.invokevirtual 297, 3) := by decide +kernel
theorem dX8_turnsOf_22 : decode cX8_turnsOf 22 = .ok (.iload_n 1, 1) := by decide +kernel
theorem dX8_turnsOf_23 : decode cX8_turnsOf 23 = .ok (.if_icmp .ne 7, 3) := by decide +kernel
theorem dX8_turnsOf_26 : decode cX8_turnsOf 26 = .ok (.iconst 1, 1) := by decide +kernel
theorem dX8_turnsOf_27 : decode cX8_turnsOf 27 = .ok (.goto 4, 3) := by decide +kernel
theorem dX8_turnsOf_30 : decode cX8_turnsOf 30 = .ok (.iconst 0, 1) := by decide +kernel
theorem dX8_turnsOf_31 : decode cX8_turnsOf 31 = .ok (.iadd, 1) := by decide +kernel
theorem dX8_turnsOf_32 : decode cX8_turnsOf 32 = .ok (.istore_n 3, 1) := by decide +kernel
theorem dX8_turnsOf_33 : decode cX8_turnsOf 33 = .ok (.iinc 4 1, 3) := by decide +kernel
theorem dX8_turnsOf_36 : decode cX8_turnsOf 36 = .ok (.goto (-27), 3) := by decide +kernel
theorem dX8_turnsOf_39 : decode cX8_turnsOf 39 = .ok (.iload_n 3, 1) := by decide +kernel
theorem dX8_turnsOf_40 : decode cX8_turnsOf 40 = .ok (.ireturn, 1) := by decide +kernel
theorem dX8_odds_0 : decode cX8_odds 0 = .ok (.aload_n 0, 1) := by decide +kernel
theorem dX8_odds_1 : decode cX8_odds 1 = .ok (.invokevirtual 160, 3) := by decide +kernel
theorem dX8_odds_4 : decode cX8_odds 4 = .ok (.aload_n 0, 1) := by decide +kernel
theorem dX8_odds_5 : decode cX8_odds 5 = .ok (.aload_n 0, 1) := by decide +kernel
theorem dX8_odds_6 : decode cX8_odds 6 = .ok (.iload_n 1, 1) := by decide +kernel
theorem dX8_odds_7 : decode cX8_odds 7 = .ok (.invokevirtual 277, 3) := by decide +kernel
theorem dX8_odds_10 : decode cX8_odds 10 = .ok (.iload_n 2, 1) := by decide +kernel
theorem dX8_odds_11 : decode cX8_odds 11 = .ok (.iconst 0, 1) := by decide +kernel
theorem dX8_odds_12 : decode cX8_odds 12 = .ok (.bipush 8, 2) := by decide +kernel
theorem dX8_odds_14 : decode cX8_odds 14 = .ok (.invokestatic 142, 3) := by decide +kernel
theorem dX8_odds_17 : decode cX8_odds 17 = .ok (.invokevirtual 290, 3) := by decide +kernel
theorem dX8_odds_20 : decode cX8_odds 20 = .ok (.istore 4, 2) := by decide +kernel
theorem dX8_odds_22 : decode cX8_odds 22 = .ok (.iload 4, 2) := by decide +kernel
theorem dX8_odds_24 : decode cX8_odds 24 = .ok (.ifCond .eq 11, 3) := by decide +kernel
theorem dX8_odds_27 : decode cX8_odds 27 = .ok (.aload_n 0, 1) := by decide +kernel
theorem dX8_odds_28 : decode cX8_odds 28 = .ok (.iload 4, 2) := by decide +kernel
theorem dX8_odds_30 : decode cX8_odds 30 = .ok (.invokevirtual 163, 3) := by decide +kernel
theorem dX8_odds_33 : decode cX8_odds 33 = .ok (.i2l, 1) := by decide +kernel
theorem dX8_odds_34 : decode cX8_odds 34 = .ok (.lreturn, 1) := by decide +kernel
theorem dX8_odds_35 : decode cX8_odds 35 = .ok (.aload_n 0, 1) := by decide +kernel
theorem dX8_odds_36 : decode cX8_odds 36 = .ok (.iload_n 1, 1) := by decide +kernel
theorem dX8_odds_37 : decode cX8_odds 37 = .ok (.iload_n 2, 1) := by decide +kernel
theorem dX8_odds_38 : decode cX8_odds 38 = .ok (.invokevirtual 365, 3) := by decide +kernel
theorem dX8_odds_41 : decode cX8_odds 41 = .ok (.istore 5, 2) := by decide +kernel
theorem dX8_odds_43 : decode cX8_odds 43 = .ok (.lconst 1, 1) := by decide +kernel
theorem dX8_odds_44 : decode cX8_odds 44 = .ok (.lstore 6, 2) := by decide +kernel
theorem dX8_odds_46 : decode cX8_odds 46 = .ok (.lconst 1, 1) := by decide +kernel
theorem dX8_odds_47 : decode cX8_odds 47 = .ok (.lstore 8, 2) := by decide +kernel
theorem dX8_odds_49 : decode cX8_odds 49 = .ok (.iconst 0, 1) := by decide +kernel
theorem dX8_odds_50 : decode cX8_odds 50 = .ok (.istore 10, 2) := by decide +kernel
theorem dX8_odds_52 : decode cX8_odds 52 = .ok (.iload 10, 2) := by decide +kernel
theorem dX8_odds_54 : decode cX8_odds 54 = .ok (.iload 5, 2) := by decide +kernel
theorem dX8_odds_56 : decode cX8_odds 56 = .ok (.if_icmp .ge 29, 3) := by decide +kernel
theorem dX8_odds_59 : decode cX8_odds 59 = .ok (.lload 6, 2) := by decide +kernel
theorem dX8_odds_61 : decode cX8_odds 61 = .ok (.ldc2_w 368, 3) := by decide +kernel
theorem dX8_odds_64 : decode cX8_odds 64 = .ok (.lmul, 1) := by decide +kernel
