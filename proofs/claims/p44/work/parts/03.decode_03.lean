theorem dX7_alive_4 : decode cX7_alive 4 = .ok (.ifCond .ne 9, 3) := by decide +kernel
theorem dX7_alive_7 : decode cX7_alive 7 = .ok (.aload_n 0, 1) := by decide +kernel
theorem dX7_alive_8 : decode cX7_alive 8 = .ok (.iconst 1, 1) := by decide +kernel
theorem dX7_alive_9 : decode cX7_alive 9 = .ok (.invokevirtual 82, 3) := by decide +kernel
theorem dX7_alive_12 : decode cX7_alive 12 = .ok (.ireturn, 1) := by decide +kernel
theorem dX7_alive_13 : decode cX7_alive 13 = .ok (.aload_n 0, 1) := by decide +kernel
theorem dX7_alive_14 : decode cX7_alive 14 = .ok (.aload_n 0, 1) := by decide +kernel
theorem dX7_alive_15 : decode cX7_alive 15 = .ok (.getfield 19, 3) := by decide +kernel
theorem dX7_alive_18 : decode cX7_alive 18 = .ok (.getfield 158, 3) := by decide +kernel
theorem dX7_alive_21 : decode cX7_alive 21 = .ok (.invokevirtual 113, 3) := by decide +kernel
theorem dX7_alive_24 : decode cX7_alive 24 = .ok (.ireturn, 1) := by decide +kernel
theorem dX7_left_0 : decode cX7_left 0 = .ok (.aload_n 0, 1) := by decide +kernel
theorem dX7_left_1 : decode cX7_left 1 = .ok (.invokevirtual 154, 3) := by decide +kernel
theorem dX7_left_4 : decode cX7_left 4 = .ok (.ifCond .ne 9, 3) := by decide +kernel
theorem dX7_left_7 : decode cX7_left 7 = .ok (.aload_n 0, 1) := by decide +kernel
theorem dX7_left_8 : decode cX7_left 8 = .ok (.iconst 1, 1) := by decide +kernel
theorem dX7_left_9 : decode cX7_left 9 = .ok (.invokevirtual 82, 3) := by decide +kernel
theorem dX7_left_12 : decode cX7_left 12 = .ok (.ireturn, 1) := by decide +kernel
theorem dX7_left_13 : decode cX7_left 13 = .ok (.aload_n 0, 1) := by decide +kernel
theorem dX7_left_14 : decode cX7_left 14 = .ok (.aload_n 0, 1) := by decide +kernel
theorem dX7_left_15 : decode cX7_left 15 = .ok (.getfield 57, 3) := by decide +kernel
theorem dX7_left_18 : decode cX7_left 18 = .ok (.getfield 161, 3) := by decide +kernel
theorem dX7_left_21 : decode cX7_left 21 = .ok (.aload_n 0, 1) := by decide +kernel
theorem dX7_left_22 : decode cX7_left 22 = .ok (.getfield 19, 3) := by decide +kernel
theorem dX7_left_25 : decode cX7_left 25 = .ok (.getfield 164, 3) := by decide +kernel
theorem dX7_left_28 : decode cX7_left 28 = .ok (.isub, 1) := by decide +kernel
theorem dX7_left_29 : decode cX7_left 29 = .ok (.invokevirtual 113, 3) := by decide +kernel
theorem dX7_left_32 : decode cX7_left 32 = .ok (.ireturn, 1) := by decide +kernel
theorem dX7_caught_0 : decode cX7_caught 0 = .ok (.aload_n 0, 1) := by decide +kernel
theorem dX7_caught_1 : decode cX7_caught 1 = .ok (.invokevirtual 154, 3) := by decide +kernel
theorem dX7_caught_4 : decode cX7_caught 4 = .ok (.ifCond .ne 9, 3) := by decide +kernel
theorem dX7_caught_7 : decode cX7_caught 7 = .ok (.aload_n 0, 1) := by decide +kernel
theorem dX7_caught_8 : decode cX7_caught 8 = .ok (.iconst 1, 1) := by decide +kernel
theorem dX7_caught_9 : decode cX7_caught 9 = .ok (.invokevirtual 82, 3) := by decide +kernel
theorem dX7_caught_12 : decode cX7_caught 12 = .ok (.ireturn, 1) := by decide +kernel
theorem dX7_caught_13 : decode cX7_caught 13 = .ok (.aload_n 0, 1) := by decide +kernel
theorem dX7_caught_14 : decode cX7_caught 14 = .ok (.aload_n 0, 1) := by decide +kernel
theorem dX7_caught_15 : decode cX7_caught 15 = .ok (.getfield 19, 3) := by decide +kernel
theorem dX7_caught_18 : decode cX7_caught 18 = .ok (.getfield 167, 3) := by decide +kernel
theorem dX7_caught_21 : decode cX7_caught 21 = .ok (.invokevirtual 113, 3) := by decide +kernel
theorem dX7_caught_24 : decode cX7_caught 24 = .ok (.ireturn, 1) := by decide +kernel
theorem dX7_turnOf_0 : decode cX7_turnOf 0 = .ok (.aload_n 0, 1) := by decide +kernel
theorem dX7_turnOf_1 : decode cX7_turnOf 1 = .ok (.invokevirtual 154, 3) := by decide +kernel
theorem dX7_turnOf_4 : decode cX7_turnOf 4 = .ok (.ifCond .ne 9, 3) := by decide +kernel
theorem dX7_turnOf_7 : decode cX7_turnOf 7 = .ok (.aload_n 0, 1) := by decide +kernel
theorem dX7_turnOf_8 : decode cX7_turnOf 8 = .ok (.iconst 1, 1) := by decide +kernel
theorem dX7_turnOf_9 : decode cX7_turnOf 9 = .ok (.invokevirtual 82, 3) := by decide +kernel
theorem dX7_turnOf_12 : decode cX7_turnOf 12 = .ok (.ireturn, 1) := by decide +kernel
theorem dX7_turnOf_13 : decode cX7_turnOf 13 = .ok (.iload_n 1, 1) := by decide +kernel
theorem dX7_turnOf_14 : decode cX7_turnOf 14 = .ok (.iconst 0, 1) := by decide +kernel
theorem dX7_turnOf_15 : decode cX7_turnOf 15 = .ok (.ldc 170, 2) := by decide +kernel
theorem dX7_turnOf_17 : decode cX7_turnOf 17 = .ok (.invokestatic 78, 3) := by decide +kernel
theorem dX7_turnOf_20 : decode cX7_turnOf 20 = .ok (.ifCond .ne 9, 3) := by decide +kernel
theorem dX7_turnOf_23 : decode cX7_turnOf 23 = .ok (.aload_n 0, 1) := by decide +kernel
theorem dX7_turnOf_24 : decode cX7_turnOf 24 = .ok (.iconst 2, 1) := by decide +kernel
theorem dX7_turnOf_25 : decode cX7_turnOf 25 = .ok (.invokevirtual 82, 3) := by decide +kernel
theorem dX7_turnOf_28 : decode cX7_turnOf 28 = .ok (.ireturn, 1) := by decide +kernel
theorem dX7_turnOf_29 : decode cX7_turnOf 29 = .ok (.aload_n 0, 1) := by decide +kernel
theorem dX7_turnOf_30 : decode cX7_turnOf 30 = .ok (.aload_n 0, 1) := by decide +kernel
theorem dX7_turnOf_31 : decode cX7_turnOf 31 = .ok (.iload_n 1, 1) := by decide +kernel
theorem dX7_turnOf_32 : decode cX7_turnOf 32 = .ok (.invokevirtual 171, 3) := by decide +kernel
theorem dX7_turnOf_35 : decode cX7_turnOf 35 = .ok (.invokevirtual 113, 3) := by decide +kernel
theorem dX7_turnOf_38 : decode cX7_turnOf 38 = .ok (.ireturn, 1) := by decide +kernel
theorem dX7_turnIn_0 : decode cX7_turnIn 0 = .ok (.aload_n 0, 1) := by decide +kernel
theorem dX7_turnIn_1 : decode cX7_turnIn 1 = .ok (.iload_n 1, 1) := by decide +kernel
theorem dX7_turnIn_2 : decode cX7_turnIn 2 = .ok (.invokevirtual 116, 3) := by decide +kernel
theorem dX7_turnIn_5 : decode cX7_turnIn 5 = .ok (.ifCond .ne 9, 3) := by decide +kernel
theorem dX7_turnIn_8 : decode cX7_turnIn 8 = .ok (.aload_n 0, 1) := by decide +kernel
theorem dX7_turnIn_9 : decode cX7_turnIn 9 = .ok (.iconst 1, 1) := by decide +kernel
theorem dX7_turnIn_10 : decode cX7_turnIn 10 = .ok (.invokevirtual 82, 3) := by decide +kernel
theorem dX7_turnIn_13 : decode cX7_turnIn 13 = .ok (.ireturn, 1) := by decide +kernel
theorem dX7_turnIn_14 : decode cX7_turnIn 14 = .ok (.aload_n 0, 1) := by decide +kernel
theorem dX7_turnIn_15 : decode cX7_turnIn 15 = .ok (.getfield 19, 3) := by decide +kernel
theorem dX7_turnIn_18 : decode cX7_turnIn 18 = .ok (.getfield 158, 3) := by decide +kernel
theorem dX7_turnIn_21 : decode cX7_turnIn 21 = .ok (.istore_n 2, 1) := by decide +kernel
theorem dX7_turnIn_22 : decode cX7_turnIn 22 = .ok (.iconst 0, 1) := by decide +kernel
theorem dX7_turnIn_23 : decode cX7_turnIn 23 = .ok (.istore_n 3, 1) := by decide +kernel
theorem dX7_turnIn_24 : decode cX7_turnIn 24 = .ok (.iload_n 3, 1) := by decide +kernel
theorem dX7_turnIn_25 : decode cX7_turnIn 25 = .ok (.aload_n 0, 1) := by decide +kernel
theorem dX7_turnIn_26 : decode cX7_turnIn 26 = .ok (.getfield 57, 3) := by decide +kernel
theorem dX7_turnIn_29 : decode cX7_turnIn 29 = .ok (.getfield 110, 3) := by decide +kernel
theorem dX7_turnIn_32 : decode cX7_turnIn 32 = .ok (.if_icmp .ge 29, 3) := by decide +kernel
theorem dX7_turnIn_35 : decode cX7_turnIn 35 = .ok (.iload_n 2, 1) := by decide +kernel
theorem dX7_turnIn_36 : decode cX7_turnIn 36 = .ok (.iload_n 1, 1) := by decide +kernel
theorem dX7_turnIn_37 : decode cX7_turnIn 37 = .ok (.if_icmp .ne 9, 3) := by decide +kernel
theorem dX7_turnIn_40 : decode cX7_turnIn 40 = .ok (.aload_n 0, 1) := by decide +kernel
theorem dX7_turnIn_41 : decode cX7_turnIn 41 = .ok (.iload_n 3, 1) := by decide +kernel
theorem dX7_turnIn_42 : decode cX7_turnIn 42 = .ok (.invokevirtual 113, 3) := by decide +kernel
theorem dX7_turnIn_45 : decode cX7_turnIn 45 = .ok (.ireturn, 1) := by decide +kernel
theorem dX7_turnIn_46 : decode cX7_turnIn 46 = .ok (.aload_n 0, 1) := by decide +kernel
theorem dX7_turnIn_47 : decode cX7_turnIn 47 = .ok (.getfield 57, 3) := by decide +kernel
theorem dX7_turnIn_50 : decode cX7_turnIn 50 = .ok (.iload_n 2, 1) := by decide +kernel
theorem dX7_turnIn_51 : decode cX7_turnIn 51 = .ok (.invokevirtual 174, 3) := by decide +kernel
theorem dX7_turnIn_54 : decode cX7_turnIn 54 = .ok (.istore_n 2, 1) := by decide +kernel
theorem dX7_turnIn_55 : decode cX7_turnIn 55 = .ok (.iinc 3 1, 3) := by decide +kernel
theorem dX7_turnIn_58 : decode cX7_turnIn 58 = .ok (.goto (-34), 3) := by decide +kernel
theorem dX7_turnIn_61 : decode cX7_turnIn 61 = .ok (.aload_n 0, 1) := by decide +kernel
theorem dX7_turnIn_62 : decode cX7_turnIn 62 = .ok (.bipush (-2), 2) := by decide +kernel
theorem dX7_turnIn_64 : decode cX7_turnIn 64 = .ok (.invokevirtual 113, 3) := by decide +kernel
theorem dX7_turnIn_67 : decode cX7_turnIn 67 = .ok (.ireturn, 1) := by decide +kernel
theorem dX7_settles_0 : decode cX7_settles 0 = .ok (.aload_n 0, 1) := by decide +kernel
theorem dX7_settles_1 : decode cX7_settles 1 = .ok (.invokevirtual 154, 3) := by decide +kernel
theorem dX7_settles_4 : decode cX7_settles 4 = .ok (.ifCond .ne 9, 3) := by decide +kernel
theorem dX7_settles_7 : decode cX7_settles 7 = .ok (.aload_n 0, 1) := by decide +kernel
theorem dX7_settles_8 : decode cX7_settles 8 = .ok (.iconst 1, 1) := by decide +kernel
theorem dX7_settles_9 : decode cX7_settles 9 = .ok (.invokevirtual 82, 3) := by decide +kernel
theorem dX7_settles_12 : decode cX7_settles 12 = .ok (.ireturn, 1) := by decide +kernel
theorem dX7_settles_13 : decode cX7_settles 13 = .ok (.aload_n 0, 1) := by decide +kernel
theorem dX7_settles_14 : decode cX7_settles 14 = .ok (.invokevirtual 177, 3) := by decide +kernel
theorem dX7_settles_17 : decode cX7_settles 17 = .ok (.istore_n 1, 1) := by decide +kernel
theorem dX7_settles_18 : decode cX7_settles 18 = .ok (.iconst 0, 1) := by decide +kernel
theorem dX7_settles_19 : decode cX7_settles 19 = .ok (.istore_n 2, 1) := by decide +kernel
theorem dX7_settles_20 : decode cX7_settles 20 = .ok (.iload_n 2, 1) := by decide +kernel
theorem dX7_settles_21 : decode cX7_settles 21 = .ok (.aload_n 0, 1) := by decide +kernel
theorem dX7_settles_22 : decode cX7_settles 22 = .ok (.getfield 57, 3) := by decide +kernel
theorem dX7_settles_25 : decode cX7_settles 25 = .ok (.getfield 110, 3) := by decide +kernel
theorem dX7_settles_28 : decode cX7_settles 28 = .ok (.if_icmp .ge 24, 3) := by decide +kernel
theorem dX7_settles_31 : decode cX7_settles 31 = .ok (.aload_n 0, 1) := by decide +kernel
theorem dX7_settles_32 : decode cX7_settles 32 = .ok (.iload_n 2, 1) := by decide +kernel
theorem dX7_settles_33 : decode cX7_settles 33 = .ok (.invokevirtual 171, 3) := by decide +kernel
theorem dX7_settles_36 : decode cX7_settles 36 = .ok (.aload_n 0, 1) := by decide +kernel
theorem dX7_settles_37 : decode cX7_settles 37 = .ok (.iload_n 2, 1) := by decide +kernel
theorem dX7_settles_38 : decode cX7_settles 38 = .ok (.iload_n 1, 1) := by decide +kernel
theorem dX7_settles_39 : decode cX7_settles 39 = .ok (.iadd, 1) := by decide +kernel
theorem dX7_settles_40 : decode cX7_settles 40 = .ok (.invokevirtual 171, 3) := by decide +kernel
theorem dX7_settles_43 : decode cX7_settles 43 = .ok (.if_icmp .eq 9, 3) := by decide +kernel
theorem dX7_settles_46 : decode cX7_settles 46 = .ok (.iinc 2 1, 3) := by decide +kernel
theorem dX7_settles_49 : decode cX7_settles 49 = .ok (.goto (-29), 3) := by decide +kernel
theorem dX7_settles_52 : decode cX7_settles 52 = .ok (.aload_n 0, 1) := by decide +kernel
theorem dX7_settles_53 : decode cX7_settles 53 = .ok (.iload_n 2, 1) := by decide +kernel
theorem dX7_settles_54 : decode cX7_settles 54 = .ok (.invokevirtual 113, 3) := by decide +kernel
theorem dX7_settles_57 : decode cX7_settles 57 = .ok (.ireturn, 1) := by decide +kernel
theorem dX7_round_0 : decode cX7_round 0 = .ok (.aload_n 0, 1) := by decide +kernel
theorem dX7_round_1 : decode cX7_round 1 = .ok (.invokevirtual 154, 3) := by decide +kernel
theorem dX7_round_4 : decode cX7_round 4 = .ok (.ifCond .ne 9, 3) := by decide +kernel
theorem dX7_round_7 : decode cX7_round 7 = .ok (.aload_n 0, 1) := by decide +kernel
theorem dX7_round_8 : decode cX7_round 8 = .ok (.iconst 1, 1) := by decide +kernel
theorem dX7_round_9 : decode cX7_round 9 = .ok (.invokevirtual 82, 3) := by decide +kernel
theorem dX7_round_12 : decode cX7_round 12 = .ok (.ireturn, 1) := by decide +kernel
theorem dX7_round_13 : decode cX7_round 13 = .ok (.aload_n 0, 1) := by decide +kernel
theorem dX7_round_14 : decode cX7_round 14 = .ok (.aload_n 0, 1) := by decide +kernel
theorem dX7_round_15 : decode cX7_round 15 = .ok (.invokevirtual 177, 3) := by decide +kernel
theorem dX7_round_18 : decode cX7_round 18 = .ok (.invokevirtual 113, 3) := by decide +kernel
theorem dX7_round_21 : decode cX7_round 21 = .ok (.ireturn, 1) := by decide +kernel
theorem dX7_called_0 : decode cX7_called 0 = .ok (.aload_n 0, 1) := by decide +kernel
theorem dX7_called_1 : decode cX7_called 1 = .ok (.invokevirtual 154, 3) := by decide +kernel
theorem dX7_called_4 : decode cX7_called 4 = .ok (.ifCond .ne 9, 3) := by decide +kernel
theorem dX7_called_7 : decode cX7_called 7 = .ok (.aload_n 0, 1) := by decide +kernel
theorem dX7_called_8 : decode cX7_called 8 = .ok (.iconst 1, 1) := by decide +kernel
theorem dX7_called_9 : decode cX7_called 9 = .ok (.invokevirtual 82, 3) := by decide +kernel
theorem dX7_called_12 : decode cX7_called 12 = .ok (.ireturn, 1) := by decide +kernel
theorem dX7_called_13 : decode cX7_called 13 = .ok (.iconst 0, 1) := by decide +kernel
theorem dX7_called_14 : decode cX7_called 14 = .ok (.istore_n 1, 1) := by decide +kernel
theorem dX7_called_15 : decode cX7_called 15 = .ok (.aload_n 0, 1) := by decide +kernel
theorem dX7_called_16 : decode cX7_called 16 = .ok (.getfield 19, 3) := by decide +kernel
theorem dX7_called_19 : decode cX7_called 19 = .ok (.getfield 158, 3) := by decide +kernel
theorem dX7_called_22 : decode cX7_called 22 = .ok (.istore_n 2, 1) := by decide +kernel
theorem dX7_called_23 : decode cX7_called 23 = .ok (.iconst 0, 1) := by decide +kernel
theorem dX7_called_24 : decode cX7_called 24 = .ok (.istore_n 3, 1) := by decide +kernel
theorem dX7_called_25 : decode cX7_called 25 = .ok (.iload_n 3, 1) := by decide +kernel
theorem dX7_called_26 : decode cX7_called 26 = .ok (.aload_n 0, 1) := by decide +kernel
theorem dX7_called_27 : decode cX7_called 27 = .ok (.getfield 57, 3) := by decide +kernel
theorem dX7_called_30 : decode cX7_called 30 = .ok (.getfield 110, 3) := by decide +kernel
theorem dX7_called_33 : decode cX7_called 33 = .ok (.if_icmp .ge 24, 3) := by decide +kernel
theorem dX7_called_36 : decode cX7_called 36 = .ok (.iload_n 1, 1) := by decide +kernel
theorem dX7_called_37 : decode cX7_called 37 = .ok (.iconst 1, 1) := by decide +kernel
theorem dX7_called_38 : decode cX7_called 38 = .ok (.iload_n 2, 1) := by decide +kernel
theorem dX7_called_39 : decode cX7_called 39 = .ok (.ishl, 1) := by decide +kernel
theorem dX7_called_40 : decode cX7_called 40 = .ok (.ior, 1) := by decide +kernel
theorem dX7_called_41 : decode cX7_called 41 = .ok (.istore_n 1, 1) := by decide +kernel
theorem dX7_called_42 : decode cX7_called 42 = .ok (.aload_n 0, 1) := by decide +kernel
theorem dX7_called_43 : decode cX7_called 43 = .ok (.getfield 57, 3) := by decide +kernel
theorem dX7_called_46 : decode cX7_called 46 = .ok (.iload_n 2, 1) := by decide +kernel
theorem dX7_called_47 : decode cX7_called 47 = .ok (.invokevirtual 174, 3) := by decide +kernel
theorem dX7_called_50 : decode cX7_called 50 = .ok (.istore_n 2, 1) := by decide +kernel
theorem dX7_called_51 : decode cX7_called 51 = .ok (.iinc 3 1, 3) := by decide +kernel
theorem dX7_called_54 : decode cX7_called 54 = .ok (.goto (-29), 3) := by decide +kernel
theorem dX7_called_57 : decode cX7_called 57 = .ok (.aload_n 0, 1) := by decide +kernel
theorem dX7_called_58 : decode cX7_called 58 = .ok (.iload_n 1, 1) := by decide +kernel
theorem dX7_called_59 : decode cX7_called 59 = .ok (.invokevirtual 113, 3) := by decide +kernel
theorem dX7_called_62 : decode cX7_called 62 = .ok (.ireturn, 1) := by decide +kernel
theorem dX7_minutesOf_0 : decode cX7_minutesOf 0 = .ok (.aload_n 0, 1) := by decide +kernel
theorem dX7_minutesOf_1 : decode cX7_minutesOf 1 = .ok (.iload_n 1, 1) := by decide +kernel
theorem dX7_minutesOf_2 : decode cX7_minutesOf 2 = .ok (.invokevirtual 116, 3) := by decide +kernel
theorem dX7_minutesOf_5 : decode cX7_minutesOf 5 = .ok (.ifCond .ne 9, 3) := by decide +kernel
theorem dX7_minutesOf_8 : decode cX7_minutesOf 8 = .ok (.aload_n 0, 1) := by decide +kernel
theorem dX7_minutesOf_9 : decode cX7_minutesOf 9 = .ok (.iconst 1, 1) := by decide +kernel
theorem dX7_minutesOf_10 : decode cX7_minutesOf 10 = .ok (.invokevirtual 82, 3) := by decide +kernel
theorem dX7_minutesOf_13 : decode cX7_minutesOf 13 = .ok (.ireturn, 1) := by decide +kernel
theorem dX7_minutesOf_14 : decode cX7_minutesOf 14 = .ok (.iload_n 2, 1) := by decide +kernel
theorem dX7_minutesOf_15 : decode cX7_minutesOf 15 = .ok (.iconst 0, 1) := by decide +kernel
theorem dX7_minutesOf_16 : decode cX7_minutesOf 16 = .ok (.sipush 999, 3) := by decide +kernel
theorem dX7_minutesOf_19 : decode cX7_minutesOf 19 = .ok (.invokestatic 78, 3) := by decide +kernel
theorem dX7_minutesOf_22 : decode cX7_minutesOf 22 = .ok (.ifCond .ne 9, 3) := by decide +kernel
theorem dX7_minutesOf_25 : decode cX7_minutesOf 25 = .ok (.aload_n 0, 1) := by decide +kernel
theorem dX7_minutesOf_26 : decode cX7_minutesOf 26 = .ok (.iconst 2, 1) := by decide +kernel
theorem dX7_minutesOf_27 : decode cX7_minutesOf 27 = .ok (.invokevirtual 82, 3) := by decide +kernel
theorem dX7_minutesOf_30 : decode cX7_minutesOf 30 = .ok (.ireturn, 1) := by decide +kernel
theorem dX7_minutesOf_31 : decode cX7_minutesOf 31 = .ok (.iconst 0, 1) := by decide +kernel
theorem dX7_minutesOf_32 : decode cX7_minutesOf 32 = .ok (.istore_n 3, 1) := by decide +kernel
theorem dX7_minutesOf_33 : decode cX7_minutesOf 33 = .ok (.aload_n 0, 1) := by decide +kernel
theorem dX7_minutesOf_34 : decode cX7_minutesOf 34 = .ok (.getfield 19, 3) := by decide +kernel
theorem dX7_minutesOf_37 : decode cX7_minutesOf 37 = .ok (.getfield 158, 3) := by decide +kernel
theorem dX7_minutesOf_40 : decode cX7_minutesOf 40 = .ok (.istore 4, 2) := by decide +kernel
theorem dX7_minutesOf_42 : decode cX7_minutesOf 42 = .ok (.aload_n 0, 1) := by decide +kernel
theorem dX7_minutesOf_43 : decode cX7_minutesOf 43 = .ok (.getfield 19, 3) := by decide +kernel
theorem dX7_minutesOf_46 : decode cX7_minutesOf 46 = .ok (.getfield 164, 3) := by decide +kernel
theorem dX7_minutesOf_49 : decode cX7_minutesOf 49 = .ok (.istore 5, 2) := by decide +kernel
theorem dX7_minutesOf_51 : decode cX7_minutesOf 51 = .ok (.iconst 0, 1) := by decide +kernel
theorem dX7_minutesOf_52 : decode cX7_minutesOf 52 = .ok (.istore 6, 2) := by decide +kernel
theorem dX7_minutesOf_54 : decode cX7_minutesOf 54 = .ok (.iload 6, 2) := by decide +kernel
theorem dX7_minutesOf_56 : decode cX7_minutesOf 56 = .ok (.iload_n 2, 1) := by decide +kernel
theorem dX7_minutesOf_57 : decode cX7_minutesOf 57 = .ok (.if_icmp .ge 47, 3) := by decide +kernel
theorem dX7_minutesOf_60 : decode cX7_minutesOf 60 = .ok (.iload 4, 2) := by decide +kernel
theorem dX7_minutesOf_62 : decode cX7_minutesOf 62 = .ok (.iload_n 1, 1) := by decide +kernel
theorem dX7_minutesOf_63 : decode cX7_minutesOf 63 = .ok (.if_icmp .ne 6, 3) := by decide +kernel
theorem dX7_minutesOf_66 : decode cX7_minutesOf 66 = .ok (.iinc 3 1, 3) := by decide +kernel
theorem dX7_minutesOf_69 : decode cX7_minutesOf 69 = .ok (.iinc 5 1, 3) := by decide +kernel
theorem dX7_minutesOf_72 : decode cX7_minutesOf 72 = .ok (.iload 5, 2) := by decide +kernel
theorem dX7_minutesOf_74 : decode cX7_minutesOf 74 = .ok (.aload_n 0, 1) := by decide +kernel
theorem dX7_minutesOf_75 : decode cX7_minutesOf 75 = .ok (.getfield 57, 3) := by decide +kernel
theorem dX7_minutesOf_78 : decode cX7_minutesOf 78 = .ok (.getfield 161, 3) := by decide +kernel
theorem dX7_minutesOf_81 : decode cX7_minutesOf 81 = .ok (.if_icmp .lt 17, 3) := by decide +kernel
theorem dX7_minutesOf_84 : decode cX7_minutesOf 84 = .ok (.iconst 0, 1) := by decide +kernel
theorem dX7_minutesOf_85 : decode cX7_minutesOf 85 = .ok (.istore 5, 2) := by decide +kernel
theorem dX7_minutesOf_87 : decode cX7_minutesOf 87 = .ok (.aload_n 0, 1) := by decide +kernel
theorem dX7_minutesOf_88 : decode cX7_minutesOf 88 = .ok (.getfield 57, 3) := by decide +kernel
theorem dX7_minutesOf_91 : decode cX7_minutesOf 91 = .ok (.iload 4, 2) := by decide +kernel
theorem dX7_minutesOf_93 : decode cX7_minutesOf 93 = .ok (.invokevirtual 174, 3) := by decide +kernel
theorem dX7_minutesOf_96 : decode cX7_minutesOf 96 = .ok (.istore 4, 2) := by decide +kernel
theorem dX7_minutesOf_98 : decode cX7_minutesOf 98 = .ok (.iinc 6 1, 3) := by decide +kernel
theorem dX7_minutesOf_101 : decode cX7_minutesOf 101 = .ok (.goto (-47), 3) := by decide +kernel
theorem dX7_minutesOf_104 : decode cX7_minutesOf 104 = .ok (.aload_n 0, 1) := by decide +kernel
theorem dX7_minutesOf_105 : decode cX7_minutesOf 105 = .ok (.iload_n 3, 1) := by decide +kernel
theorem dX7_minutesOf_106 : decode cX7_minutesOf 106 = .ok (.invokevirtual 113, 3) := by decide +kernel
theorem dX7_minutesOf_109 : decode cX7_minutesOf 109 = .ok (.ireturn, 1) := by decide +kernel
theorem dX7_place_0 : decode cX7_place 0 = .ok (.aload_n 0, 1) := by decide +kernel
theorem dX7_place_1 : decode cX7_place 1 = .ok (.iload_n 1, 1) := by decide +kernel
theorem dX7_place_2 : decode cX7_place 2 = .ok (.iload_n 2, 1) := by decide +kernel
theorem dX7_place_3 : decode cX7_place 3 = .ok (.sipush 300, 3) := by decide +kernel
theorem dX7_place_6 : decode cX7_place 6 = .ok (.invokevirtual 181, 3) := by decide +kernel
theorem dX7_place_9 : decode cX7_place 9 = .ok (.istore_n 3, 1) := by decide +kernel
theorem dX7_place_10 : decode cX7_place 10 = .ok (.iload_n 3, 1) := by decide +kernel
theorem dX7_place_11 : decode cX7_place 11 = .ok (.ifCond .eq 9, 3) := by decide +kernel
theorem dX7_place_14 : decode cX7_place 14 = .ok (.aload_n 0, 1) := by decide +kernel
theorem dX7_place_15 : decode cX7_place 15 = .ok (.iload_n 3, 1) := by decide +kernel
theorem dX7_place_16 : decode cX7_place 16 = .ok (.invokevirtual 82, 3) := by decide +kernel
theorem dX7_place_19 : decode cX7_place 19 = .ok (.ireturn, 1) := by decide +kernel
theorem dX7_place_20 : decode cX7_place 20 = .ok (.aload_n 0, 1) := by decide +kernel
theorem dX7_place_21 : decode cX7_place 21 = .ok (.iload_n 2, 1) := by decide +kernel
theorem dX7_place_22 : decode cX7_place 22 = .ok (.invokevirtual 185, 3) := by decide +kernel
theorem dX7_place_25 : decode cX7_place 25 = .ok (.aload_n 0, 1) := by decide +kernel
theorem dX7_place_26 : decode cX7_place 26 = .ok (.aload_n 0, 1) := by decide +kernel
theorem dX7_place_27 : decode cX7_place 27 = .ok (.getfield 23, 3) := by decide +kernel
theorem dX7_place_30 : decode cX7_place 30 = .ok (.getfield 126, 3) := by decide +kernel
theorem dX7_place_33 : decode cX7_place 33 = .ok (.iload_n 1, 1) := by decide +kernel
theorem dX7_place_34 : decode cX7_place 34 = .ok (.iaload, 1) := by decide +kernel
theorem dX7_place_35 : decode cX7_place 35 = .ok (.invokevirtual 113, 3) := by decide +kernel
theorem dX7_place_38 : decode cX7_place 38 = .ok (.ireturn, 1) := by decide +kernel
theorem dX7_watch_0 : decode cX7_watch 0 = .ok (.aload_n 0, 1) := by decide +kernel
theorem dX7_watch_1 : decode cX7_watch 1 = .ok (.iload_n 1, 1) := by decide +kernel
theorem dX7_watch_2 : decode cX7_watch 2 = .ok (.invokevirtual 135, 3) := by decide +kernel
theorem dX7_watch_5 : decode cX7_watch 5 = .ok (.ifCond .ne 9, 3) := by decide +kernel
theorem dX7_watch_8 : decode cX7_watch 8 = .ok (.aload_n 0, 1) := by decide +kernel
theorem dX7_watch_9 : decode cX7_watch 9 = .ok (.iconst 1, 1) := by decide +kernel
theorem dX7_watch_10 : decode cX7_watch 10 = .ok (.invokevirtual 82, 3) := by decide +kernel
theorem dX7_watch_13 : decode cX7_watch 13 = .ok (.ireturn, 1) := by decide +kernel
theorem dX7_watch_14 : decode cX7_watch 14 = .ok (.iload_n 2, 1) := by decide +kernel
theorem dX7_watch_15 : decode cX7_watch 15 = .ok (.iconst 1, 1) := by decide +kernel
theorem dX7_watch_16 : decode cX7_watch 16 = .ok (.sipush 300, 3) := by decide +kernel
theorem dX7_watch_19 : decode cX7_watch 19 = .ok (.invokestatic 78, 3) := by decide +kernel
theorem dX7_watch_22 : decode cX7_watch 22 = .ok (.ifCond .ne 9, 3) := by decide +kernel
theorem dX7_watch_25 : decode cX7_watch 25 = .ok (.aload_n 0, 1) := by decide +kernel
theorem dX7_watch_26 : decode cX7_watch 26 = .ok (.iconst 2, 1) := by decide +kernel
theorem dX7_watch_27 : decode cX7_watch 27 = .ok (.invokevirtual 82, 3) := by decide +kernel
theorem dX7_watch_30 : decode cX7_watch 30 = .ok (.ireturn, 1) := by decide +kernel
theorem dX7_watch_31 : decode cX7_watch 31 = .ok (.aload_n 0, 1) := by decide +kernel
theorem dX7_watch_32 : decode cX7_watch 32 = .ok (.aload_n 0, 1) := by decide +kernel
theorem dX7_watch_33 : decode cX7_watch 33 = .ok (.getfield 57, 3) := by decide +kernel
theorem dX7_watch_36 : decode cX7_watch 36 = .ok (.getfield 138, 3) := by decide +kernel
theorem dX7_watch_39 : decode cX7_watch 39 = .ok (.iload_n 1, 1) := by decide +kernel
theorem dX7_watch_40 : decode cX7_watch 40 = .ok (.aload_n 0, 1) := by decide +kernel
theorem dX7_watch_41 : decode cX7_watch 41 = .ok (.getfield 19, 3) := by decide +kernel
theorem dX7_watch_44 : decode cX7_watch 44 = .ok (.getfield 147, 3) := by decide +kernel
theorem dX7_watch_47 : decode cX7_watch 47 = .ok (.iload_n 2, 1) := by decide +kernel
theorem dX7_watch_48 : decode cX7_watch 48 = .ok (.iadd, 1) := by decide +kernel
theorem dX7_watch_49 : decode cX7_watch 49 = .ok (.iconst 1, 1) := by decide +kernel
theorem dX7_watch_50 : decode cX7_watch 50 = .ok (.isub, 1) := by decide +kernel
theorem dX7_watch_51 : decode cX7_watch 51 = .ok (.invokevirtual 150, 3) := by decide +kernel
theorem dX7_watch_54 : decode cX7_watch 54 = .ok (.invokevirtual 113, 3) := by decide +kernel
theorem dX7_watch_57 : decode cX7_watch 57 = .ok (.ireturn, 1) := by decide +kernel
theorem dX7_gone_0 : decode cX7_gone 0 = .ok (.aload_n 0, 1) := by decide +kernel
theorem dX7_gone_1 : decode cX7_gone 1 = .ok (.iload_n 1, 1) := by decide +kernel
theorem dX7_gone_2 : decode cX7_gone 2 = .ok (.iconst 0, 1) := by decide +kernel
theorem dX7_gone_3 : decode cX7_gone 3 = .ok (.sipush 300, 3) := by decide +kernel
theorem dX7_gone_6 : decode cX7_gone 6 = .ok (.invokevirtual 188, 3) := by decide +kernel
theorem dX7_gone_9 : decode cX7_gone 9 = .ok (.istore_n 2, 1) := by decide +kernel
theorem dX7_gone_10 : decode cX7_gone 10 = .ok (.iload_n 2, 1) := by decide +kernel
theorem dX7_gone_11 : decode cX7_gone 11 = .ok (.ifCond .eq 9, 3) := by decide +kernel
theorem dX7_gone_14 : decode cX7_gone 14 = .ok (.aload_n 0, 1) := by decide +kernel
theorem dX7_gone_15 : decode cX7_gone 15 = .ok (.iload_n 2, 1) := by decide +kernel
theorem dX7_gone_16 : decode cX7_gone 16 = .ok (.invokevirtual 82, 3) := by decide +kernel
theorem dX7_gone_19 : decode cX7_gone 19 = .ok (.ireturn, 1) := by decide +kernel
theorem dX7_gone_20 : decode cX7_gone 20 = .ok (.aload_n 0, 1) := by decide +kernel
theorem dX7_gone_21 : decode cX7_gone 21 = .ok (.iload_n 1, 1) := by decide +kernel
theorem dX7_gone_22 : decode cX7_gone 22 = .ok (.invokevirtual 185, 3) := by decide +kernel
theorem dX7_gone_25 : decode cX7_gone 25 = .ok (.aload_n 0, 1) := by decide +kernel
theorem dX7_gone_26 : decode cX7_gone 26 = .ok (.aload_n 0, 1) := by decide +kernel
theorem dX7_gone_27 : decode cX7_gone 27 = .ok (.getfield 23, 3) := by decide +kernel
theorem dX7_gone_30 : decode cX7_gone 30 = .ok (.getfield 191, 3) := by decide +kernel
theorem dX7_gone_33 : decode cX7_gone 33 = .ok (.invokevirtual 113, 3) := by decide +kernel
theorem dX7_gone_36 : decode cX7_gone 36 = .ok (.ireturn, 1) := by decide +kernel
theorem dX7_stairs_0 : decode cX7_stairs 0 = .ok (.aload_n 0, 1) := by decide +kernel
theorem dX7_stairs_1 : decode cX7_stairs 1 = .ok (.invokevirtual 154, 3) := by decide +kernel
theorem dX7_stairs_4 : decode cX7_stairs 4 = .ok (.ifCond .ne 9, 3) := by decide +kernel
theorem dX7_stairs_7 : decode cX7_stairs 7 = .ok (.aload_n 0, 1) := by decide +kernel
theorem dX7_stairs_8 : decode cX7_stairs 8 = .ok (.iconst 1, 1) := by decide +kernel
theorem dX7_stairs_9 : decode cX7_stairs 9 = .ok (.invokevirtual 82, 3) := by decide +kernel
theorem dX7_stairs_12 : decode cX7_stairs 12 = .ok (.ireturn, 1) := by decide +kernel
theorem dX7_stairs_13 : decode cX7_stairs 13 = .ok (.aload_n 0, 1) := by decide +kernel
theorem dX7_stairs_14 : decode cX7_stairs 14 = .ok (.getfield 23, 3) := by decide +kernel
theorem dX7_stairs_17 : decode cX7_stairs 17 = .ok (.aload_n 0, 1) := by decide +kernel
theorem dX7_stairs_18 : decode cX7_stairs 18 = .ok (.getfield 19, 3) := by decide +kernel
theorem dX7_stairs_21 : decode cX7_stairs 21 = .ok (.invokevirtual 194, 3) := by decide +kernel
theorem dX7_stairs_24 : decode cX7_stairs 24 = .ok (.aload_n 0, 1) := by decide +kernel
theorem dX7_stairs_25 : decode cX7_stairs 25 = .ok (.aload_n 0, 1) := by decide +kernel
theorem dX7_stairs_26 : decode cX7_stairs 26 = .ok (.aload_n 0, 1) := by decide +kernel
theorem dX7_stairs_27 : decode cX7_stairs 27 = .ok (.getfield 57, 3) := by decide +kernel
theorem dX7_stairs_30 : decode cX7_stairs 30 = .ok (.getfield 138, 3) := by decide +kernel
theorem dX7_stairs_33 : decode cX7_stairs 33 = .ok (.sipush 300, 3) := by decide +kernel
theorem dX7_stairs_36 : decode cX7_stairs 36 = .ok (.invokevirtual 198, 3) := by decide +kernel
theorem dX7_stairs_39 : decode cX7_stairs 39 = .ok (.invokevirtual 113, 3) := by decide +kernel
theorem dX7_stairs_42 : decode cX7_stairs 42 = .ok (.ireturn, 1) := by decide +kernel
theorem dX7_catches_0 : decode cX7_catches 0 = .ok (.aload_n 0, 1) := by decide +kernel
theorem dX7_catches_1 : decode cX7_catches 1 = .ok (.iload_n 1, 1) := by decide +kernel
theorem dX7_catches_2 : decode cX7_catches 2 = .ok (.iconst 0, 1) := by decide +kernel
theorem dX7_catches_3 : decode cX7_catches 3 = .ok (.sipush 300, 3) := by decide +kernel
theorem dX7_catches_6 : decode cX7_catches 6 = .ok (.invokevirtual 188, 3) := by decide +kernel
theorem dX7_catches_9 : decode cX7_catches 9 = .ok (.istore_n 2, 1) := by decide +kernel
theorem dX7_catches_10 : decode cX7_catches 10 = .ok (.iload_n 2, 1) := by decide +kernel
theorem dX7_catches_11 : decode cX7_catches 11 = .ok (.ifCond .eq 9, 3) := by decide +kernel
theorem dX7_catches_14 : decode cX7_catches 14 = .ok (.aload_n 0, 1) := by decide +kernel
theorem dX7_catches_15 : decode cX7_catches 15 = .ok (.iload_n 2, 1) := by decide +kernel
theorem dX7_catches_16 : decode cX7_catches 16 = .ok (.invokevirtual 82, 3) := by decide +kernel
theorem dX7_catches_19 : decode cX7_catches 19 = .ok (.ireturn, 1) := by decide +kernel
theorem dX7_catches_20 : decode cX7_catches 20 = .ok (.aload_n 0, 1) := by decide +kernel
theorem dX7_catches_21 : decode cX7_catches 21 = .ok (.iload_n 1, 1) := by decide +kernel
theorem dX7_catches_22 : decode cX7_catches 22 = .ok (.invokevirtual 185, 3) := by decide +kernel
theorem dX7_catches_25 : decode cX7_catches 25 = .ok (.aload_n 0, 1) := by decide +kernel
theorem dX7_catches_26 : decode cX7_catches 26 = .ok (.aload_n 0, 1) := by decide +kernel
theorem dX7_catches_27 : decode cX7_catches 27 = .ok (.getfield 23, 3) := by decide +kernel
theorem dX7_catches_30 : decode cX7_catches 30 = .ok (.getfield 167, 3) := by decide +kernel
theorem dX7_catches_33 : decode cX7_catches 33 = .ok (.aload_n 0, 1) := by decide +kernel
theorem dX7_catches_34 : decode cX7_catches 34 = .ok (.getfield 19, 3) := by decide +kernel
theorem dX7_catches_37 : decode cX7_catches 37 = .ok (.getfield 167, 3) := by decide +kernel
theorem dX7_catches_40 : decode cX7_catches 40 = .ok (.isub, 1) := by decide +kernel
theorem dX7_catches_41 : decode cX7_catches 41 = .ok (.invokevirtual 113, 3) := by decide +kernel
theorem dX7_catches_44 : decode cX7_catches 44 = .ok (.ireturn, 1) := by decide +kernel
theorem dX7_heard_0 : decode cX7_heard 0 = .ok (.aload_n 0, 1) := by decide +kernel
theorem dX7_heard_1 : decode cX7_heard 1 = .ok (.iload_n 1, 1) := by decide +kernel
theorem dX7_heard_2 : decode cX7_heard 2 = .ok (.iload_n 2, 1) := by decide +kernel
theorem dX7_heard_3 : decode cX7_heard 3 = .ok (.sipush 300, 3) := by decide +kernel
theorem dX7_heard_6 : decode cX7_heard 6 = .ok (.invokevirtual 181, 3) := by decide +kernel
theorem dX7_heard_9 : decode cX7_heard 9 = .ok (.istore_n 3, 1) := by decide +kernel
theorem dX7_heard_10 : decode cX7_heard 10 = .ok (.iload_n 3, 1) := by decide +kernel
theorem dX7_heard_11 : decode cX7_heard 11 = .ok (.ifCond .eq 9, 3) := by decide +kernel
theorem dX7_heard_14 : decode cX7_heard 14 = .ok (.aload_n 0, 1) := by decide +kernel
theorem dX7_heard_15 : decode cX7_heard 15 = .ok (.iload_n 3, 1) := by decide +kernel
theorem dX7_heard_16 : decode cX7_heard 16 = .ok (.invokevirtual 82, 3) := by decide +kernel
theorem dX7_heard_19 : decode cX7_heard 19 = .ok (.ireturn, 1) := by decide +kernel
theorem dX7_heard_20 : decode cX7_heard 20 = .ok (.aload_n 0, 1) := by decide +kernel
theorem dX7_heard_21 : decode cX7_heard 21 = .ok (.getfield 23, 3) := by decide +kernel
theorem dX7_heard_24 : decode cX7_heard 24 = .ok (.aload_n 0, 1) := by decide +kernel
theorem dX7_heard_25 : decode cX7_heard 25 = .ok (.getfield 19, 3) := by decide +kernel
theorem dX7_heard_28 : decode cX7_heard 28 = .ok (.invokevirtual 194, 3) := by decide +kernel
theorem dX7_heard_31 : decode cX7_heard 31 = .ok (.aload_n 0, 1) := by decide +kernel
theorem dX7_heard_32 : decode cX7_heard 32 = .ok (.getfield 23, 3) := by decide +kernel
theorem dX7_heard_35 : decode cX7_heard 35 = .ok (.getfield 132, 3) := by decide +kernel
theorem dX7_heard_38 : decode cX7_heard 38 = .ok (.iload_n 1, 1) := by decide +kernel
theorem dX7_heard_39 : decode cX7_heard 39 = .ok (.iconst 0, 1) := by decide +kernel
theorem dX7_heard_40 : decode cX7_heard 40 = .ok (.iastore, 1) := by decide +kernel
theorem dX7_heard_41 : decode cX7_heard 41 = .ok (.aload_n 0, 1) := by decide +kernel
theorem dX7_heard_42 : decode cX7_heard 42 = .ok (.iload_n 2, 1) := by decide +kernel
theorem dX7_heard_43 : decode cX7_heard 43 = .ok (.invokevirtual 202, 3) := by decide +kernel
theorem dX7_heard_46 : decode cX7_heard 46 = .ok (.aload_n 0, 1) := by decide +kernel
theorem dX7_heard_47 : decode cX7_heard 47 = .ok (.aload_n 0, 1) := by decide +kernel
theorem dX7_heard_48 : decode cX7_heard 48 = .ok (.getfield 23, 3) := by decide +kernel
theorem dX7_heard_51 : decode cX7_heard 51 = .ok (.getfield 132, 3) := by decide +kernel
theorem dX7_heard_54 : decode cX7_heard 54 = .ok (.iload_n 1, 1) := by decide +kernel
theorem dX7_heard_55 : decode cX7_heard 55 = .ok (.iaload, 1) := by decide +kernel
theorem dX7_heard_56 : decode cX7_heard 56 = .ok (.invokevirtual 113, 3) := by decide +kernel
theorem dX7_heard_59 : decode cX7_heard 59 = .ok (.ireturn, 1) := by decide +kernel
theorem dX7_allIn_0 : decode cX7_allIn 0 = .ok (.aload_n 0, 1) := by decide +kernel
theorem dX7_allIn_1 : decode cX7_allIn 1 = .ok (.iload_n 1, 1) := by decide +kernel
theorem dX7_allIn_2 : decode cX7_allIn 2 = .ok (.invokevirtual 116, 3) := by decide +kernel
theorem dX7_allIn_5 : decode cX7_allIn 5 = .ok (.ifCond .ne 9, 3) := by decide +kernel
theorem dX7_allIn_8 : decode cX7_allIn 8 = .ok (.aload_n 0, 1) := by decide +kernel
theorem dX7_allIn_9 : decode cX7_allIn 9 = .ok (.iconst 1, 1) := by decide +kernel
theorem dX7_allIn_10 : decode cX7_allIn 10 = .ok (.invokevirtual 82, 3) := by decide +kernel
theorem dX7_allIn_13 : decode cX7_allIn 13 = .ok (.ireturn, 1) := by decide +kernel
theorem dX7_allIn_14 : decode cX7_allIn 14 = .ok (.aload_n 0, 1) := by decide +kernel
theorem dX7_allIn_15 : decode cX7_allIn 15 = .ok (.getfield 57, 3) := by decide +kernel
theorem dX7_allIn_18 : decode cX7_allIn 18 = .ok (.getfield 119, 3) := by decide +kernel
theorem dX7_allIn_21 : decode cX7_allIn 21 = .ok (.iload_n 1, 1) := by decide +kernel
theorem dX7_allIn_22 : decode cX7_allIn 22 = .ok (.iaload, 1) := by decide +kernel
theorem dX7_allIn_23 : decode cX7_allIn 23 = .ok (.iconst 2, 1) := by decide +kernel
theorem dX7_allIn_24 : decode cX7_allIn 24 = .ok (.if_icmp .eq 10, 3) := by decide +kernel
theorem dX7_allIn_27 : decode cX7_allIn 27 = .ok (.aload_n 0, 1) := by decide +kernel
theorem dX7_allIn_28 : decode cX7_allIn 28 = .ok (.bipush (-2), 2) := by decide +kernel
theorem dX7_allIn_30 : decode cX7_allIn 30 = .ok (.invokevirtual 113, 3) := by decide +kernel
theorem dX7_allIn_33 : decode cX7_allIn 33 = .ok (.ireturn, 1) := by decide +kernel
theorem dX7_allIn_34 : decode cX7_allIn 34 = .ok (.iconst 1, 1) := by decide +kernel
theorem dX7_allIn_35 : decode cX7_allIn 35 = .ok (.aload_n 0, 1) := by decide +kernel
theorem dX7_allIn_36 : decode cX7_allIn 36 = .ok (.getfield 57, 3) := by decide +kernel
theorem dX7_allIn_39 : decode cX7_allIn 39 = .ok (.getfield 123, 3) := by decide +kernel
theorem dX7_allIn_42 : decode cX7_allIn 42 = .ok (.iload_n 1, 1) := by decide +kernel
theorem dX7_allIn_43 : decode cX7_allIn 43 = .ok (.iaload, 1) := by decide +kernel
theorem dX7_allIn_44 : decode cX7_allIn 44 = .ok (.ishl, 1) := by decide +kernel
theorem dX7_allIn_45 : decode cX7_allIn 45 = .ok (.iconst 1, 1) := by decide +kernel
theorem dX7_allIn_46 : decode cX7_allIn 46 = .ok (.isub, 1) := by decide +kernel
theorem dX7_allIn_47 : decode cX7_allIn 47 = .ok (.istore_n 2, 1) := by decide +kernel
theorem dX7_allIn_48 : decode cX7_allIn 48 = .ok (.aload_n 0, 1) := by decide +kernel
theorem dX7_allIn_49 : decode cX7_allIn 49 = .ok (.getfield 23, 3) := by decide +kernel
theorem dX7_allIn_52 : decode cX7_allIn 52 = .ok (.aload_n 0, 1) := by decide +kernel
theorem dX7_allIn_53 : decode cX7_allIn 53 = .ok (.getfield 19, 3) := by decide +kernel
theorem dX7_allIn_56 : decode cX7_allIn 56 = .ok (.invokevirtual 194, 3) := by decide +kernel
theorem dX7_allIn_59 : decode cX7_allIn 59 = .ok (.iconst 0, 1) := by decide +kernel
theorem dX7_allIn_60 : decode cX7_allIn 60 = .ok (.istore_n 3, 1) := by decide +kernel
theorem dX7_allIn_61 : decode cX7_allIn 61 = .ok (.iload_n 3, 1) := by decide +kernel
theorem dX7_allIn_62 : decode cX7_allIn 62 = .ok (.sipush 300, 3) := by decide +kernel
theorem dX7_allIn_65 : decode cX7_allIn 65 = .ok (.if_icmp .ge 40, 3) := by decide +kernel
theorem dX7_allIn_68 : decode cX7_allIn 68 = .ok (.aload_n 0, 1) := by decide +kernel
theorem dX7_allIn_69 : decode cX7_allIn 69 = .ok (.getfield 23, 3) := by decide +kernel
theorem dX7_allIn_72 : decode cX7_allIn 72 = .ok (.getfield 132, 3) := by decide +kernel
theorem dX7_allIn_75 : decode cX7_allIn 75 = .ok (.iload_n 1, 1) := by decide +kernel
theorem dX7_allIn_76 : decode cX7_allIn 76 = .ok (.iaload, 1) := by decide +kernel
theorem dX7_allIn_77 : decode cX7_allIn 77 = .ok (.iload_n 2, 1) := by decide +kernel
theorem dX7_allIn_78 : decode cX7_allIn 78 = .ok (.if_icmp .eq 27, 3) := by decide +kernel
theorem dX7_allIn_81 : decode cX7_allIn 81 = .ok (.aload_n 0, 1) := by decide +kernel
theorem dX7_allIn_82 : decode cX7_allIn 82 = .ok (.getfield 57, 3) := by decide +kernel
theorem dX7_allIn_85 : decode cX7_allIn 85 = .ok (.aload_n 0, 1) := by decide +kernel
theorem dX7_allIn_86 : decode cX7_allIn 86 = .ok (.getfield 23, 3) := by decide +kernel
theorem dX7_allIn_89 : decode cX7_allIn 89 = .ok (.aload_n 0, 1) := by decide +kernel
theorem dX7_allIn_90 : decode cX7_allIn 90 = .ok (.getfield 57, 3) := by decide +kernel
theorem dX7_allIn_93 : decode cX7_allIn 93 = .ok (.getfield 138, 3) := by decide +kernel
theorem dX7_allIn_96 : decode cX7_allIn 96 = .ok (.invokevirtual 205, 3) := by decide +kernel
theorem dX7_allIn_99 : decode cX7_allIn 99 = .ok (.iinc 3 1, 3) := by decide +kernel
theorem dX7_allIn_102 : decode cX7_allIn 102 = .ok (.goto (-41), 3) := by decide +kernel
theorem dX7_allIn_105 : decode cX7_allIn 105 = .ok (.aload_n 0, 1) := by decide +kernel
theorem dX7_allIn_106 : decode cX7_allIn 106 = .ok (.aload_n 0, 1) := by decide +kernel
theorem dX7_allIn_107 : decode cX7_allIn 107 = .ok (.getfield 23, 3) := by decide +kernel
theorem dX7_allIn_110 : decode cX7_allIn 110 = .ok (.getfield 132, 3) := by decide +kernel
theorem dX7_allIn_113 : decode cX7_allIn 113 = .ok (.iload_n 1, 1) := by decide +kernel
theorem dX7_allIn_114 : decode cX7_allIn 114 = .ok (.iaload, 1) := by decide +kernel
theorem dX7_allIn_115 : decode cX7_allIn 115 = .ok (.iload_n 2, 1) := by decide +kernel
theorem dX7_allIn_116 : decode cX7_allIn 116 = .ok (.if_icmp .ne 7, 3) := by decide +kernel
theorem dX7_allIn_119 : decode cX7_allIn 119 = .ok (.iload_n 3, 1) := by decide +kernel
theorem dX7_allIn_120 : decode cX7_allIn 120 = .ok (.goto 5, 3) := by decide +kernel
theorem dX7_allIn_123 : decode cX7_allIn 123 = .ok (.bipush (-2), 2) := by decide +kernel
theorem dX7_allIn_125 : decode cX7_allIn 125 = .ok (.invokevirtual 113, 3) := by decide +kernel
theorem dX7_allIn_128 : decode cX7_allIn 128 = .ok (.ireturn, 1) := by decide +kernel
theorem dX7_meets_0 : decode cX7_meets 0 = .ok (.aload_n 0, 1) := by decide +kernel
theorem dX7_meets_1 : decode cX7_meets 1 = .ok (.iload_n 1, 1) := by decide +kernel
theorem dX7_meets_2 : decode cX7_meets 2 = .ok (.invokevirtual 135, 3) := by decide +kernel
theorem dX7_meets_5 : decode cX7_meets 5 = .ok (.ifCond .ne 9, 3) := by decide +kernel
theorem dX7_meets_8 : decode cX7_meets 8 = .ok (.aload_n 0, 1) := by decide +kernel
theorem dX7_meets_9 : decode cX7_meets 9 = .ok (.iconst 1, 1) := by decide +kernel
theorem dX7_meets_10 : decode cX7_meets 10 = .ok (.invokevirtual 82, 3) := by decide +kernel
theorem dX7_meets_13 : decode cX7_meets 13 = .ok (.ireturn, 1) := by decide +kernel
theorem dX7_meets_14 : decode cX7_meets 14 = .ok (.aload_n 0, 1) := by decide +kernel
theorem dX7_meets_15 : decode cX7_meets 15 = .ok (.getfield 23, 3) := by decide +kernel
theorem dX7_meets_18 : decode cX7_meets 18 = .ok (.aload_n 0, 1) := by decide +kernel
theorem dX7_meets_19 : decode cX7_meets 19 = .ok (.getfield 19, 3) := by decide +kernel
theorem dX7_meets_22 : decode cX7_meets 22 = .ok (.invokevirtual 194, 3) := by decide +kernel
theorem dX7_meets_25 : decode cX7_meets 25 = .ok (.iconst 1, 1) := by decide +kernel
theorem dX7_meets_26 : decode cX7_meets 26 = .ok (.istore_n 2, 1) := by decide +kernel
theorem dX7_meets_27 : decode cX7_meets 27 = .ok (.iload_n 2, 1) := by decide +kernel
theorem dX7_meets_28 : decode cX7_meets 28 = .ok (.sipush 300, 3) := by decide +kernel
theorem dX7_meets_31 : decode cX7_meets 31 = .ok (.if_icmp .gt 42, 3) := by decide +kernel
theorem dX7_meets_34 : decode cX7_meets 34 = .ok (.aload_n 0, 1) := by decide +kernel
theorem dX7_meets_35 : decode cX7_meets 35 = .ok (.getfield 57, 3) := by decide +kernel
theorem dX7_meets_38 : decode cX7_meets 38 = .ok (.getfield 138, 3) := by decide +kernel
theorem dX7_meets_41 : decode cX7_meets 41 = .ok (.iload_n 1, 1) := by decide +kernel
theorem dX7_meets_42 : decode cX7_meets 42 = .ok (.aload_n 0, 1) := by decide +kernel
theorem dX7_meets_43 : decode cX7_meets 43 = .ok (.getfield 23, 3) := by decide +kernel
theorem dX7_meets_46 : decode cX7_meets 46 = .ok (.getfield 147, 3) := by decide +kernel
theorem dX7_meets_49 : decode cX7_meets 49 = .ok (.invokevirtual 150, 3) := by decide +kernel
theorem dX7_meets_52 : decode cX7_meets 52 = .ok (.istore_n 3, 1) := by decide +kernel
theorem dX7_meets_53 : decode cX7_meets 53 = .ok (.iload_n 3, 1) := by decide +kernel
theorem dX7_meets_54 : decode cX7_meets 54 = .ok (.aload_n 0, 1) := by decide +kernel
theorem dX7_meets_55 : decode cX7_meets 55 = .ok (.invokevirtual 209, 3) := by decide +kernel
theorem dX7_meets_58 : decode cX7_meets 58 = .ok (.if_icmp .ne 9, 3) := by decide +kernel
theorem dX7_meets_61 : decode cX7_meets 61 = .ok (.aload_n 0, 1) := by decide +kernel
theorem dX7_meets_62 : decode cX7_meets 62 = .ok (.iload_n 2, 1) := by decide +kernel
theorem dX7_meets_63 : decode cX7_meets 63 = .ok (.invokevirtual 113, 3) := by decide +kernel
theorem dX7_meets_66 : decode cX7_meets 66 = .ok (.ireturn, 1) := by decide +kernel
theorem dX7_meets_67 : decode cX7_meets 67 = .ok (.iinc 2 1, 3) := by decide +kernel
theorem dX7_meets_70 : decode cX7_meets 70 = .ok (.goto (-43), 3) := by decide +kernel
theorem dX7_meets_73 : decode cX7_meets 73 = .ok (.aload_n 0, 1) := by decide +kernel
theorem dX7_meets_74 : decode cX7_meets 74 = .ok (.bipush (-2), 2) := by decide +kernel
theorem dX7_meets_76 : decode cX7_meets 76 = .ok (.invokevirtual 113, 3) := by decide +kernel
theorem dX7_meets_79 : decode cX7_meets 79 = .ok (.ireturn, 1) := by decide +kernel
theorem dX7_crowd_0 : decode cX7_crowd 0 = .ok (.aload_n 0, 1) := by decide +kernel
theorem dX7_crowd_1 : decode cX7_crowd 1 = .ok (.iload_n 1, 1) := by decide +kernel
theorem dX7_crowd_2 : decode cX7_crowd 2 = .ok (.iconst 0, 1) := by decide +kernel
theorem dX7_crowd_3 : decode cX7_crowd 3 = .ok (.sipush 300, 3) := by decide +kernel
theorem dX7_crowd_6 : decode cX7_crowd 6 = .ok (.invokevirtual 188, 3) := by decide +kernel
theorem dX7_crowd_9 : decode cX7_crowd 9 = .ok (.istore_n 2, 1) := by decide +kernel
theorem dX7_crowd_10 : decode cX7_crowd 10 = .ok (.iload_n 2, 1) := by decide +kernel
theorem dX7_crowd_11 : decode cX7_crowd 11 = .ok (.ifCond .eq 9, 3) := by decide +kernel
theorem dX7_crowd_14 : decode cX7_crowd 14 = .ok (.aload_n 0, 1) := by decide +kernel
theorem dX7_crowd_15 : decode cX7_crowd 15 = .ok (.iload_n 2, 1) := by decide +kernel
theorem dX7_crowd_16 : decode cX7_crowd 16 = .ok (.invokevirtual 82, 3) := by decide +kernel
theorem dX7_crowd_19 : decode cX7_crowd 19 = .ok (.ireturn, 1) := by decide +kernel
theorem dX7_crowd_20 : decode cX7_crowd 20 = .ok (.aload_n 0, 1) := by decide +kernel
theorem dX7_crowd_21 : decode cX7_crowd 21 = .ok (.iload_n 1, 1) := by decide +kernel
theorem dX7_crowd_22 : decode cX7_crowd 22 = .ok (.invokevirtual 185, 3) := by decide +kernel
theorem dX7_crowd_25 : decode cX7_crowd 25 = .ok (.iconst 0, 1) := by decide +kernel
theorem dX7_crowd_26 : decode cX7_crowd 26 = .ok (.istore_n 3, 1) := by decide +kernel
theorem dX7_crowd_27 : decode cX7_crowd 27 = .ok (.iconst 1, 1) := by decide +kernel
theorem dX7_crowd_28 : decode cX7_crowd 28 = .ok (.istore 4, 2) := by decide +kernel
theorem dX7_crowd_30 : decode cX7_crowd 30 = .ok (.iload 4, 2) := by decide +kernel
theorem dX7_crowd_32 : decode cX7_crowd 32 = .ok (.aload_n 0, 1) := by decide +kernel
theorem dX7_crowd_33 : decode cX7_crowd 33 = .ok (.getfield 57, 3) := by decide +kernel
theorem dX7_crowd_36 : decode cX7_crowd 36 = .ok (.getfield 110, 3) := by decide +kernel
theorem dX7_crowd_39 : decode cX7_crowd 39 = .ok (.if_icmp .ge 26, 3) := by decide +kernel
theorem dX7_crowd_42 : decode cX7_crowd 42 = .ok (.aload_n 0, 1) := by decide +kernel
theorem dX7_crowd_43 : decode cX7_crowd 43 = .ok (.iload 4, 2) := by decide +kernel
theorem dX7_crowd_45 : decode cX7_crowd 45 = .ok (.invokevirtual 212, 3) := by decide +kernel
theorem dX7_crowd_48 : decode cX7_crowd 48 = .ok (.aload_n 0, 1) := by decide +kernel
theorem dX7_crowd_49 : decode cX7_crowd 49 = .ok (.iload_n 3, 1) := by decide +kernel
theorem dX7_crowd_50 : decode cX7_crowd 50 = .ok (.invokevirtual 212, 3) := by decide +kernel
theorem dX7_crowd_53 : decode cX7_crowd 53 = .ok (.if_icmp .le 6, 3) := by decide +kernel
theorem dX7_crowd_56 : decode cX7_crowd 56 = .ok (.iload 4, 2) := by decide +kernel
theorem dX7_crowd_58 : decode cX7_crowd 58 = .ok (.istore_n 3, 1) := by decide +kernel
theorem dX7_crowd_59 : decode cX7_crowd 59 = .ok (.iinc 4 1, 3) := by decide +kernel
theorem dX7_crowd_62 : decode cX7_crowd 62 = .ok (.goto (-32), 3) := by decide +kernel
theorem dX7_crowd_65 : decode cX7_crowd 65 = .ok (.aload_n 0, 1) := by decide +kernel
theorem dX7_crowd_66 : decode cX7_crowd 66 = .ok (.iload_n 3, 1) := by decide +kernel
theorem dX7_crowd_67 : decode cX7_crowd 67 = .ok (.invokevirtual 113, 3) := by decide +kernel
theorem dX7_crowd_70 : decode cX7_crowd 70 = .ok (.ireturn, 1) := by decide +kernel
theorem dX7_farthest_0 : decode cX7_farthest 0 = .ok (.aload_n 0, 1) := by decide +kernel
theorem dX7_farthest_1 : decode cX7_farthest 1 = .ok (.iload_n 1, 1) := by decide +kernel
theorem dX7_farthest_2 : decode cX7_farthest 2 = .ok (.iconst 0, 1) := by decide +kernel
theorem dX7_farthest_3 : decode cX7_farthest 3 = .ok (.sipush 300, 3) := by decide +kernel
theorem dX7_farthest_6 : decode cX7_farthest 6 = .ok (.invokevirtual 188, 3) := by decide +kernel
theorem dX7_farthest_9 : decode cX7_farthest 9 = .ok (.istore_n 2, 1) := by decide +kernel
theorem dX7_farthest_10 : decode cX7_farthest 10 = .ok (.iload_n 2, 1) := by decide +kernel
theorem dX7_farthest_11 : decode cX7_farthest 11 = .ok (.ifCond .eq 9, 3) := by decide +kernel
theorem dX7_farthest_14 : decode cX7_farthest 14 = .ok (.aload_n 0, 1) := by decide +kernel
theorem dX7_farthest_15 : decode cX7_farthest 15 = .ok (.iload_n 2, 1) := by decide +kernel
theorem dX7_farthest_16 : decode cX7_farthest 16 = .ok (.invokevirtual 82, 3) := by decide +kernel
theorem dX7_farthest_19 : decode cX7_farthest 19 = .ok (.ireturn, 1) := by decide +kernel
theorem dX7_farthest_20 : decode cX7_farthest 20 = .ok (.aload_n 0, 1) := by decide +kernel
theorem dX7_farthest_21 : decode cX7_farthest 21 = .ok (.iload_n 1, 1) := by decide +kernel
theorem dX7_farthest_22 : decode cX7_farthest 22 = .ok (.invokevirtual 185, 3) := by decide +kernel
theorem dX7_farthest_25 : decode cX7_farthest 25 = .ok (.iconst 0, 1) := by decide +kernel
theorem dX7_farthest_26 : decode cX7_farthest 26 = .ok (.istore_n 3, 1) := by decide +kernel
theorem dX7_farthest_27 : decode cX7_farthest 27 = .ok (.iconst 1, 1) := by decide +kernel
theorem dX7_farthest_28 : decode cX7_farthest 28 = .ok (.istore 4, 2) := by decide +kernel
theorem dX7_farthest_30 : decode cX7_farthest 30 = .ok (.iload 4, 2) := by decide +kernel
theorem dX7_farthest_32 : decode cX7_farthest 32 = .ok (.aload_n 0, 1) := by decide +kernel
theorem dX7_farthest_33 : decode cX7_farthest 33 = .ok (.getfield 57, 3) := by decide +kernel
theorem dX7_farthest_36 : decode cX7_farthest 36 = .ok (.getfield 110, 3) := by decide +kernel
theorem dX7_farthest_39 : decode cX7_farthest 39 = .ok (.if_icmp .ge 45, 3) := by decide +kernel
theorem dX7_farthest_42 : decode cX7_farthest 42 = .ok (.aload_n 0, 1) := by decide +kernel
theorem dX7_farthest_43 : decode cX7_farthest 43 = .ok (.getfield 23, 3) := by decide +kernel
theorem dX7_farthest_46 : decode cX7_farthest 46 = .ok (.getfield 126, 3) := by decide +kernel
theorem dX7_farthest_49 : decode cX7_farthest 49 = .ok (.iload 4, 2) := by decide +kernel
theorem dX7_farthest_51 : decode cX7_farthest 51 = .ok (.iaload, 1) := by decide +kernel
theorem dX7_farthest_52 : decode cX7_farthest 52 = .ok (.iload 4, 2) := by decide +kernel
theorem dX7_farthest_54 : decode cX7_farthest 54 = .ok (.isub, 1) := by decide +kernel
theorem dX7_farthest_55 : decode cX7_farthest 55 = .ok (.invokestatic 215, 3) := by decide +kernel
theorem dX7_farthest_58 : decode cX7_farthest 58 = .ok (.aload_n 0, 1) := by decide +kernel
theorem dX7_farthest_59 : decode cX7_farthest 59 = .ok (.getfield 23, 3) := by decide +kernel
theorem dX7_farthest_62 : decode cX7_farthest 62 = .ok (.getfield 126, 3) := by decide +kernel
theorem dX7_farthest_65 : decode cX7_farthest 65 = .ok (.iload_n 3, 1) := by decide +kernel
theorem dX7_farthest_66 : decode cX7_farthest 66 = .ok (.iaload, 1) := by decide +kernel
theorem dX7_farthest_67 : decode cX7_farthest 67 = .ok (.iload_n 3, 1) := by decide +kernel
theorem dX7_farthest_68 : decode cX7_farthest 68 = .ok (.isub, 1) := by decide +kernel
theorem dX7_farthest_69 : decode cX7_farthest 69 = .ok (.invokestatic 215, 3) := by decide +kernel
theorem dX7_farthest_72 : decode cX7_farthest 72 = .ok (.if_icmp .le 6, 3) := by decide +kernel
theorem dX7_farthest_75 : decode cX7_farthest 75 = .ok (.iload 4, 2) := by decide +kernel
theorem dX7_farthest_77 : decode cX7_farthest 77 = .ok (.istore_n 3, 1) := by decide +kernel
theorem dX7_farthest_78 : decode cX7_farthest 78 = .ok (.iinc 4 1, 3) := by decide +kernel
theorem dX7_farthest_81 : decode cX7_farthest 81 = .ok (.goto (-51), 3) := by decide +kernel
theorem dX7_farthest_84 : decode cX7_farthest 84 = .ok (.aload_n 0, 1) := by decide +kernel
theorem dX7_farthest_85 : decode cX7_farthest 85 = .ok (.iload_n 3, 1) := by decide +kernel
theorem dX7_farthest_86 : decode cX7_farthest 86 = .ok (.invokevirtual 113, 3) := by decide +kernel
theorem dX7_farthest_89 : decode cX7_farthest 89 = .ok (.ireturn, 1) := by decide +kernel
theorem dX7_nearBy_0 : decode cX7_nearBy 0 = .ok (.aload_n 0, 1) := by decide +kernel
theorem dX7_nearBy_1 : decode cX7_nearBy 1 = .ok (.iload_n 1, 1) := by decide +kernel
theorem dX7_nearBy_2 : decode cX7_nearBy 2 = .ok (.iload_n 2, 1) := by decide +kernel
theorem dX7_nearBy_3 : decode cX7_nearBy 3 = .ok (.sipush 300, 3) := by decide +kernel
theorem dX7_nearBy_6 : decode cX7_nearBy 6 = .ok (.invokevirtual 181, 3) := by decide +kernel
theorem dX7_nearBy_9 : decode cX7_nearBy 9 = .ok (.istore_n 3, 1) := by decide +kernel
theorem dX7_nearBy_10 : decode cX7_nearBy 10 = .ok (.iload_n 3, 1) := by decide +kernel
theorem dX7_nearBy_11 : decode cX7_nearBy 11 = .ok (.ifCond .eq 9, 3) := by decide +kernel
theorem dX7_nearBy_14 : decode cX7_nearBy 14 = .ok (.aload_n 0, 1) := by decide +kernel
theorem dX7_nearBy_15 : decode cX7_nearBy 15 = .ok (.iload_n 3, 1) := by decide +kernel
theorem dX7_nearBy_16 : decode cX7_nearBy 16 = .ok (.invokevirtual 82, 3) := by decide +kernel
theorem dX7_nearBy_19 : decode cX7_nearBy 19 = .ok (.ireturn, 1) := by decide +kernel
theorem dX7_nearBy_20 : decode cX7_nearBy 20 = .ok (.aload_n 0, 1) := by decide +kernel
theorem dX7_nearBy_21 : decode cX7_nearBy 21 = .ok (.getfield 23, 3) := by decide +kernel
theorem dX7_nearBy_24 : decode cX7_nearBy 24 = .ok (.aload_n 0, 1) := by decide +kernel
theorem dX7_nearBy_25 : decode cX7_nearBy 25 = .ok (.getfield 19, 3) := by decide +kernel
theorem dX7_nearBy_28 : decode cX7_nearBy 28 = .ok (.invokevirtual 194, 3) := by decide +kernel
theorem dX7_nearBy_31 : decode cX7_nearBy 31 = .ok (.iconst 0, 1) := by decide +kernel
theorem dX7_nearBy_32 : decode cX7_nearBy 32 = .ok (.istore 4, 2) := by decide +kernel
theorem dX7_nearBy_34 : decode cX7_nearBy 34 = .ok (.iconst 0, 1) := by decide +kernel
theorem dX7_nearBy_35 : decode cX7_nearBy 35 = .ok (.istore 5, 2) := by decide +kernel
theorem dX7_nearBy_37 : decode cX7_nearBy 37 = .ok (.iload 5, 2) := by decide +kernel
theorem dX7_nearBy_39 : decode cX7_nearBy 39 = .ok (.iload_n 2, 1) := by decide +kernel
theorem dX7_nearBy_40 : decode cX7_nearBy 40 = .ok (.if_icmp .ge 77, 3) := by decide +kernel
theorem dX7_nearBy_43 : decode cX7_nearBy 43 = .ok (.aload_n 0, 1) := by decide +kernel
theorem dX7_nearBy_44 : decode cX7_nearBy 44 = .ok (.getfield 57, 3) := by decide +kernel
theorem dX7_nearBy_47 : decode cX7_nearBy 47 = .ok (.getfield 138, 3) := by decide +kernel
theorem dX7_nearBy_50 : decode cX7_nearBy 50 = .ok (.aload_n 0, 1) := by decide +kernel
theorem dX7_nearBy_51 : decode cX7_nearBy 51 = .ok (.getfield 23, 3) := by decide +kernel
theorem dX7_nearBy_54 : decode cX7_nearBy 54 = .ok (.getfield 147, 3) := by decide +kernel
theorem dX7_nearBy_57 : decode cX7_nearBy 57 = .ok (.invokevirtual 220, 3) := by decide +kernel
theorem dX7_nearBy_60 : decode cX7_nearBy 60 = .ok (.istore 6, 2) := by decide +kernel
theorem dX7_nearBy_62 : decode cX7_nearBy 62 = .ok (.aload_n 0, 1) := by decide +kernel
theorem dX7_nearBy_63 : decode cX7_nearBy 63 = .ok (.getfield 57, 3) := by decide +kernel
theorem dX7_nearBy_66 : decode cX7_nearBy 66 = .ok (.aload_n 0, 1) := by decide +kernel
theorem dX7_nearBy_67 : decode cX7_nearBy 67 = .ok (.getfield 23, 3) := by decide +kernel
theorem dX7_nearBy_70 : decode cX7_nearBy 70 = .ok (.aload_n 0, 1) := by decide +kernel
theorem dX7_nearBy_71 : decode cX7_nearBy 71 = .ok (.getfield 57, 3) := by decide +kernel
theorem dX7_nearBy_74 : decode cX7_nearBy 74 = .ok (.getfield 138, 3) := by decide +kernel
theorem dX7_nearBy_77 : decode cX7_nearBy 77 = .ok (.invokevirtual 205, 3) := by decide +kernel
theorem dX7_nearBy_80 : decode cX7_nearBy 80 = .ok (.aload_n 0, 1) := by decide +kernel
theorem dX7_nearBy_81 : decode cX7_nearBy 81 = .ok (.getfield 23, 3) := by decide +kernel
theorem dX7_nearBy_84 : decode cX7_nearBy 84 = .ok (.iload_n 1, 1) := by decide +kernel
theorem dX7_nearBy_85 : decode cX7_nearBy 85 = .ok (.invokevirtual 129, 3) := by decide +kernel
theorem dX7_nearBy_88 : decode cX7_nearBy 88 = .ok (.ifCond .ne 23, 3) := by decide +kernel
theorem dX7_nearBy_91 : decode cX7_nearBy 91 = .ok (.iload 6, 2) := by decide +kernel
theorem dX7_nearBy_93 : decode cX7_nearBy 93 = .ok (.aload_n 0, 1) := by decide +kernel
theorem dX7_nearBy_94 : decode cX7_nearBy 94 = .ok (.getfield 23, 3) := by decide +kernel
theorem dX7_nearBy_97 : decode cX7_nearBy 97 = .ok (.getfield 126, 3) := by decide +kernel
theorem dX7_nearBy_100 : decode cX7_nearBy 100 = .ok (.iload_n 1, 1) := by decide +kernel
theorem dX7_nearBy_101 : decode cX7_nearBy 101 = .ok (.iaload, 1) := by decide +kernel
theorem dX7_nearBy_102 : decode cX7_nearBy 102 = .ok (.invokestatic 223, 3) := by decide +kernel
theorem dX7_nearBy_105 : decode cX7_nearBy 105 = .ok (.ifCond .eq 6, 3) := by decide +kernel
theorem dX7_nearBy_108 : decode cX7_nearBy 108 = .ok (.iinc 4 1, 3) := by decide +kernel
theorem dX7_nearBy_111 : decode cX7_nearBy 111 = .ok (.iinc 5 1, 3) := by decide +kernel
theorem dX7_nearBy_114 : decode cX7_nearBy 114 = .ok (.goto (-77), 3) := by decide +kernel
theorem dX7_nearBy_117 : decode cX7_nearBy 117 = .ok (.aload_n 0, 1) := by decide +kernel
theorem dX7_nearBy_118 : decode cX7_nearBy 118 = .ok (.iload 4, 2) := by decide +kernel
theorem dX7_nearBy_120 : decode cX7_nearBy 120 = .ok (.invokevirtual 113, 3) := by decide +kernel
theorem dX7_nearBy_123 : decode cX7_nearBy 123 = .ok (.ireturn, 1) := by decide +kernel
theorem dX7_spoken_0 : decode cX7_spoken 0 = .ok (.aload_n 0, 1) := by decide +kernel
theorem dX7_spoken_1 : decode cX7_spoken 1 = .ok (.iload_n 1, 1) := by decide +kernel
theorem dX7_spoken_2 : decode cX7_spoken 2 = .ok (.iload_n 2, 1) := by decide +kernel
theorem dX7_spoken_3 : decode cX7_spoken 3 = .ok (.sipush 300, 3) := by decide +kernel
theorem dX7_spoken_6 : decode cX7_spoken 6 = .ok (.invokevirtual 181, 3) := by decide +kernel
theorem dX7_spoken_9 : decode cX7_spoken 9 = .ok (.istore_n 3, 1) := by decide +kernel
theorem dX7_spoken_10 : decode cX7_spoken 10 = .ok (.iload_n 3, 1) := by decide +kernel
theorem dX7_spoken_11 : decode cX7_spoken 11 = .ok (.ifCond .eq 9, 3) := by decide +kernel
theorem dX7_spoken_14 : decode cX7_spoken 14 = .ok (.aload_n 0, 1) := by decide +kernel
theorem dX7_spoken_15 : decode cX7_spoken 15 = .ok (.iload_n 3, 1) := by decide +kernel
theorem dX7_spoken_16 : decode cX7_spoken 16 = .ok (.invokevirtual 82, 3) := by decide +kernel
theorem dX7_spoken_19 : decode cX7_spoken 19 = .ok (.ireturn, 1) := by decide +kernel
theorem dX7_spoken_20 : decode cX7_spoken 20 = .ok (.aload_n 0, 1) := by decide +kernel
theorem dX7_spoken_21 : decode cX7_spoken 21 = .ok (.getfield 23, 3) := by decide +kernel
theorem dX7_spoken_24 : decode cX7_spoken 24 = .ok (.aload_n 0, 1) := by decide +kernel
theorem dX7_spoken_25 : decode cX7_spoken 25 = .ok (.getfield 19, 3) := by decide +kernel
theorem dX7_spoken_28 : decode cX7_spoken 28 = .ok (.invokevirtual 194, 3) := by decide +kernel
theorem dX7_spoken_31 : decode cX7_spoken 31 = .ok (.iconst 0, 1) := by decide +kernel
theorem dX7_spoken_32 : decode cX7_spoken 32 = .ok (.istore 4, 2) := by decide +kernel
theorem dX7_spoken_34 : decode cX7_spoken 34 = .ok (.iconst 0, 1) := by decide +kernel
theorem dX7_spoken_35 : decode cX7_spoken 35 = .ok (.istore 5, 2) := by decide +kernel
theorem dX7_spoken_37 : decode cX7_spoken 37 = .ok (.iload 5, 2) := by decide +kernel
theorem dX7_spoken_39 : decode cX7_spoken 39 = .ok (.iload_n 2, 1) := by decide +kernel
theorem dX7_spoken_40 : decode cX7_spoken 40 = .ok (.if_icmp .ge 60, 3) := by decide +kernel
theorem dX7_spoken_43 : decode cX7_spoken 43 = .ok (.aload_n 0, 1) := by decide +kernel
theorem dX7_spoken_44 : decode cX7_spoken 44 = .ok (.getfield 23, 3) := by decide +kernel
theorem dX7_spoken_47 : decode cX7_spoken 47 = .ok (.getfield 158, 3) := by decide +kernel
theorem dX7_spoken_50 : decode cX7_spoken 50 = .ok (.iload_n 1, 1) := by decide +kernel
theorem dX7_spoken_51 : decode cX7_spoken 51 = .ok (.if_icmp .ne 25, 3) := by decide +kernel
theorem dX7_spoken_54 : decode cX7_spoken 54 = .ok (.iload 4, 2) := by decide +kernel
theorem dX7_spoken_56 : decode cX7_spoken 56 = .ok (.aload_n 0, 1) := by decide +kernel
theorem dX7_spoken_57 : decode cX7_spoken 57 = .ok (.getfield 57, 3) := by decide +kernel
theorem dX7_spoken_60 : decode cX7_spoken 60 = .ok (.iload_n 1, 1) := by decide +kernel
theorem dX7_spoken_61 : decode cX7_spoken 61 = .ok (.aload_n 0, 1) := by decide +kernel
theorem dX7_spoken_62 : decode cX7_spoken 62 = .ok (.getfield 23, 3) := by decide +kernel
theorem dX7_spoken_65 : decode cX7_spoken 65 = .ok (.getfield 164, 3) := by decide +kernel
theorem dX7_spoken_68 : decode cX7_spoken 68 = .ok (.iconst 1, 1) := by decide +kernel
theorem dX7_spoken_69 : decode cX7_spoken 69 = .ok (.iadd, 1) := by decide +kernel
theorem dX7_spoken_70 : decode cX7_spoken 70 = .ok (.invokevirtual 227, 3) := by decide +kernel
theorem dX7_spoken_73 : decode cX7_spoken 73 = .ok (.ior, 1) := by decide +kernel
theorem dX7_spoken_74 : decode cX7_spoken 74 = .ok (.istore 4, 2) := by decide +kernel
theorem dX7_spoken_76 : decode cX7_spoken 76 = .ok (.aload_n 0, 1) := by decide +kernel
theorem dX7_spoken_77 : decode cX7_spoken 77 = .ok (.getfield 57, 3) := by decide +kernel
theorem dX7_spoken_80 : decode cX7_spoken 80 = .ok (.aload_n 0, 1) := by decide +kernel
theorem dX7_spoken_81 : decode cX7_spoken 81 = .ok (.getfield 23, 3) := by decide +kernel
theorem dX7_spoken_84 : decode cX7_spoken 84 = .ok (.aload_n 0, 1) := by decide +kernel
theorem dX7_spoken_85 : decode cX7_spoken 85 = .ok (.getfield 57, 3) := by decide +kernel
theorem dX7_spoken_88 : decode cX7_spoken 88 = .ok (.getfield 138, 3) := by decide +kernel
theorem dX7_spoken_91 : decode cX7_spoken 91 = .ok (.invokevirtual 205, 3) := by decide +kernel
theorem dX7_spoken_94 : decode cX7_spoken 94 = .ok (.iinc 5 1, 3) := by decide +kernel
theorem dX7_spoken_97 : decode cX7_spoken 97 = .ok (.goto (-60), 3) := by decide +kernel
theorem dX7_spoken_100 : decode cX7_spoken 100 = .ok (.aload_n 0, 1) := by decide +kernel
theorem dX7_spoken_101 : decode cX7_spoken 101 = .ok (.iload 4, 2) := by decide +kernel
theorem dX7_spoken_103 : decode cX7_spoken 103 = .ok (.invokevirtual 113, 3) := by decide +kernel
theorem dX7_spoken_106 : decode cX7_spoken 106 = .ok (.ireturn, 1) := by decide +kernel
theorem dX7_route_0 : decode cX7_route 0 = .ok (.aload_n 0, 1) := by decide +kernel
theorem dX7_route_1 : decode cX7_route 1 = .ok (.iload_n 1, 1) := by decide +kernel
theorem dX7_route_2 : decode cX7_route 2 = .ok (.invokevirtual 230, 3) := by decide +kernel
theorem dX7_route_5 : decode cX7_route 5 = .ok (.ifCond .ne 9, 3) := by decide +kernel
theorem dX7_route_8 : decode cX7_route 8 = .ok (.aload_n 0, 1) := by decide +kernel
theorem dX7_route_9 : decode cX7_route 9 = .ok (.iconst 1, 1) := by decide +kernel
theorem dX7_route_10 : decode cX7_route 10 = .ok (.invokevirtual 82, 3) := by decide +kernel
theorem dX7_route_13 : decode cX7_route 13 = .ok (.ireturn, 1) := by decide +kernel
theorem dX7_route_14 : decode cX7_route 14 = .ok (.iload_n 2, 1) := by decide +kernel
theorem dX7_route_15 : decode cX7_route 15 = .ok (.iconst 1, 1) := by decide +kernel
theorem dX7_route_16 : decode cX7_route 16 = .ok (.bipush 60, 2) := by decide +kernel
theorem dX7_route_18 : decode cX7_route 18 = .ok (.invokestatic 78, 3) := by decide +kernel
theorem dX7_route_21 : decode cX7_route 21 = .ok (.ifCond .ne 9, 3) := by decide +kernel
theorem dX7_route_24 : decode cX7_route 24 = .ok (.aload_n 0, 1) := by decide +kernel
theorem dX7_route_25 : decode cX7_route 25 = .ok (.iconst 2, 1) := by decide +kernel
theorem dX7_route_26 : decode cX7_route 26 = .ok (.invokevirtual 82, 3) := by decide +kernel
theorem dX7_route_29 : decode cX7_route 29 = .ok (.ireturn, 1) := by decide +kernel
theorem dX7_route_30 : decode cX7_route 30 = .ok (.aload_n 0, 1) := by decide +kernel
theorem dX7_route_31 : decode cX7_route 31 = .ok (.iload_n 2, 1) := by decide +kernel
theorem dX7_route_32 : decode cX7_route 32 = .ok (.invokevirtual 233, 3) := by decide +kernel
theorem dX7_route_35 : decode cX7_route 35 = .ok (.aload_n 0, 1) := by decide +kernel
theorem dX7_route_36 : decode cX7_route 36 = .ok (.aload_n 0, 1) := by decide +kernel
theorem dX7_route_37 : decode cX7_route 37 = .ok (.getfield 50, 3) := by decide +kernel
theorem dX7_route_40 : decode cX7_route 40 = .ok (.iload_n 1, 1) := by decide +kernel
theorem dX7_route_41 : decode cX7_route 41 = .ok (.invokevirtual 236, 3) := by decide +kernel
theorem dX7_route_44 : decode cX7_route 44 = .ok (.invokevirtual 113, 3) := by decide +kernel
theorem dX7_route_47 : decode cX7_route 47 = .ok (.ireturn, 1) := by decide +kernel
theorem dX7_routeAt_0 : decode cX7_routeAt 0 = .ok (.aload_n 0, 1) := by decide +kernel
theorem dX7_routeAt_1 : decode cX7_routeAt 1 = .ok (.iload_n 1, 1) := by decide +kernel
theorem dX7_routeAt_2 : decode cX7_routeAt 2 = .ok (.invokevirtual 230, 3) := by decide +kernel
theorem dX7_routeAt_5 : decode cX7_routeAt 5 = .ok (.ifCond .eq 12, 3) := by decide +kernel
theorem dX7_routeAt_8 : decode cX7_routeAt 8 = .ok (.iload_n 3, 1) := by decide +kernel
theorem dX7_routeAt_9 : decode cX7_routeAt 9 = .ok (.iconst 1, 1) := by decide +kernel
theorem dX7_routeAt_10 : decode cX7_routeAt 10 = .ok (.iload_n 2, 1) := by decide +kernel
theorem dX7_routeAt_11 : decode cX7_routeAt 11 = .ok (.invokestatic 78, 3) := by decide +kernel
theorem dX7_routeAt_14 : decode cX7_routeAt 14 = .ok (.ifCond .ne 9, 3) := by decide +kernel
theorem dX7_routeAt_17 : decode cX7_routeAt 17 = .ok (.aload_n 0, 1) := by decide +kernel
theorem dX7_routeAt_18 : decode cX7_routeAt 18 = .ok (.iconst 1, 1) := by decide +kernel
theorem dX7_routeAt_19 : decode cX7_routeAt 19 = .ok (.invokevirtual 82, 3) := by decide +kernel
theorem dX7_routeAt_22 : decode cX7_routeAt 22 = .ok (.ireturn, 1) := by decide +kernel
theorem dX7_routeAt_23 : decode cX7_routeAt 23 = .ok (.iload_n 2, 1) := by decide +kernel
theorem dX7_routeAt_24 : decode cX7_routeAt 24 = .ok (.iconst 1, 1) := by decide +kernel
theorem dX7_routeAt_25 : decode cX7_routeAt 25 = .ok (.bipush 60, 2) := by decide +kernel
theorem dX7_routeAt_27 : decode cX7_routeAt 27 = .ok (.invokestatic 78, 3) := by decide +kernel
theorem dX7_routeAt_30 : decode cX7_routeAt 30 = .ok (.ifCond .ne 9, 3) := by decide +kernel
theorem dX7_routeAt_33 : decode cX7_routeAt 33 = .ok (.aload_n 0, 1) := by decide +kernel
theorem dX7_routeAt_34 : decode cX7_routeAt 34 = .ok (.iconst 2, 1) := by decide +kernel
theorem dX7_routeAt_35 : decode cX7_routeAt 35 = .ok (.invokevirtual 82, 3) := by decide +kernel
theorem dX7_routeAt_38 : decode cX7_routeAt 38 = .ok (.ireturn, 1) := by decide +kernel
theorem dX7_routeAt_39 : decode cX7_routeAt 39 = .ok (.aload_n 0, 1) := by decide +kernel
theorem dX7_routeAt_40 : decode cX7_routeAt 40 = .ok (.iload_n 2, 1) := by decide +kernel
theorem dX7_routeAt_41 : decode cX7_routeAt 41 = .ok (.invokevirtual 233, 3) := by decide +kernel
theorem dX7_routeAt_44 : decode cX7_routeAt 44 = .ok (.aload_n 0, 1) := by decide +kernel
theorem dX7_routeAt_45 : decode cX7_routeAt 45 = .ok (.aload_n 0, 1) := by decide +kernel
theorem dX7_routeAt_46 : decode cX7_routeAt 46 = .ok (.getfield 50, 3) := by decide +kernel
theorem dX7_routeAt_49 : decode cX7_routeAt 49 = .ok (.iload_n 3, 1) := by decide +kernel
theorem dX7_routeAt_50 : decode cX7_routeAt 50 = .ok (.iload_n 1, 1) := by decide +kernel
theorem dX7_routeAt_51 : decode cX7_routeAt 51 = .ok (.invokevirtual 239, 3) := by decide +kernel
theorem dX7_routeAt_54 : decode cX7_routeAt 54 = .ok (.invokevirtual 113, 3) := by decide +kernel
theorem dX7_routeAt_57 : decode cX7_routeAt 57 = .ok (.ireturn, 1) := by decide +kernel
theorem dX7_stand_0 : decode cX7_stand 0 = .ok (.aload_n 0, 1) := by decide +kernel
theorem dX7_stand_1 : decode cX7_stand 1 = .ok (.iload_n 1, 1) := by decide +kernel
theorem dX7_stand_2 : decode cX7_stand 2 = .ok (.iconst 1, 1) := by decide +kernel
theorem dX7_stand_3 : decode cX7_stand 3 = .ok (.bipush 60, 2) := by decide +kernel
theorem dX7_stand_5 : decode cX7_stand 5 = .ok (.invokevirtual 188, 3) := by decide +kernel
theorem dX7_stand_8 : decode cX7_stand 8 = .ok (.istore_n 2, 1) := by decide +kernel
theorem dX7_stand_9 : decode cX7_stand 9 = .ok (.iload_n 2, 1) := by decide +kernel
theorem dX7_stand_10 : decode cX7_stand 10 = .ok (.ifCond .eq 9, 3) := by decide +kernel
theorem dX7_stand_13 : decode cX7_stand 13 = .ok (.aload_n 0, 1) := by decide +kernel
theorem dX7_stand_14 : decode cX7_stand 14 = .ok (.iload_n 2, 1) := by decide +kernel
theorem dX7_stand_15 : decode cX7_stand 15 = .ok (.invokevirtual 82, 3) := by decide +kernel
theorem dX7_stand_18 : decode cX7_stand 18 = .ok (.ireturn, 1) := by decide +kernel
theorem dX7_stand_19 : decode cX7_stand 19 = .ok (.aload_n 0, 1) := by decide +kernel
theorem dX7_stand_20 : decode cX7_stand 20 = .ok (.iload_n 1, 1) := by decide +kernel
theorem dX7_stand_21 : decode cX7_stand 21 = .ok (.invokevirtual 233, 3) := by decide +kernel
theorem dX7_stand_24 : decode cX7_stand 24 = .ok (.iconst 0, 1) := by decide +kernel
theorem dX7_stand_25 : decode cX7_stand 25 = .ok (.istore_n 3, 1) := by decide +kernel
theorem dX7_stand_26 : decode cX7_stand 26 = .ok (.iconst 1, 1) := by decide +kernel
theorem dX7_stand_27 : decode cX7_stand 27 = .ok (.istore 4, 2) := by decide +kernel
theorem dX7_stand_29 : decode cX7_stand 29 = .ok (.iload 4, 2) := by decide +kernel
theorem dX7_stand_31 : decode cX7_stand 31 = .ok (.aload_n 0, 1) := by decide +kernel
theorem dX7_stand_32 : decode cX7_stand 32 = .ok (.getfield 57, 3) := by decide +kernel
theorem dX7_stand_35 : decode cX7_stand 35 = .ok (.getfield 110, 3) := by decide +kernel
theorem dX7_stand_38 : decode cX7_stand 38 = .ok (.if_icmp .ge 32, 3) := by decide +kernel
theorem dX7_stand_41 : decode cX7_stand 41 = .ok (.aload_n 0, 1) := by decide +kernel
theorem dX7_stand_42 : decode cX7_stand 42 = .ok (.getfield 50, 3) := by decide +kernel
theorem dX7_stand_45 : decode cX7_stand 45 = .ok (.iload 4, 2) := by decide +kernel
theorem dX7_stand_47 : decode cX7_stand 47 = .ok (.invokevirtual 236, 3) := by decide +kernel
theorem dX7_stand_50 : decode cX7_stand 50 = .ok (.aload_n 0, 1) := by decide +kernel
theorem dX7_stand_51 : decode cX7_stand 51 = .ok (.getfield 50, 3) := by decide +kernel
theorem dX7_stand_54 : decode cX7_stand 54 = .ok (.iload_n 3, 1) := by decide +kernel
theorem dX7_stand_55 : decode cX7_stand 55 = .ok (.invokevirtual 236, 3) := by decide +kernel
theorem dX7_stand_58 : decode cX7_stand 58 = .ok (.if_icmp .le 6, 3) := by decide +kernel
theorem dX7_stand_61 : decode cX7_stand 61 = .ok (.iload 4, 2) := by decide +kernel
theorem dX7_stand_63 : decode cX7_stand 63 = .ok (.istore_n 3, 1) := by decide +kernel
