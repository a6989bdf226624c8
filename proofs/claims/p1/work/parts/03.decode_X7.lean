theorem dX7_init_0 : decode cX7_init 0 = .ok (.aload_n 0, 1) := by decide +kernel
theorem dX7_init_1 : decode cX7_init 1 = .ok (.invokespecial 3, 3) := by decide +kernel
theorem dX7_init_4 : decode cX7_init 4 = .ok (.aload_n 0, 1) := by decide +kernel
theorem dX7_init_5 : decode cX7_init 5 = .ok (.new 9, 3) := by decide +kernel
theorem dX7_init_8 : decode cX7_init 8 = .ok (.dup, 1) := by decide +kernel
theorem dX7_init_9 : decode cX7_init 9 = .ok (.invokespecial 11, 3) := by decide +kernel
theorem dX7_init_12 : decode cX7_init 12 = .ok (.putfield 12, 3) := by decide +kernel
theorem dX7_init_15 : decode cX7_init 15 = .ok (.aload_n 0, 1) := by decide +kernel
theorem dX7_init_16 : decode cX7_init 16 = .ok (.new 16, 3) := by decide +kernel
theorem dX7_init_19 : decode cX7_init 19 = .ok (.dup, 1) := by decide +kernel
theorem dX7_init_20 : decode cX7_init 20 = .ok (.invokespecial 18, 3) := by decide +kernel
theorem dX7_init_23 : decode cX7_init 23 = .ok (.putfield 19, 3) := by decide +kernel
theorem dX7_init_26 : decode cX7_init 26 = .ok (.aload_n 0, 1) := by decide +kernel
theorem dX7_init_27 : decode cX7_init 27 = .ok (.new 16, 3) := by decide +kernel
theorem dX7_init_30 : decode cX7_init 30 = .ok (.dup, 1) := by decide +kernel
theorem dX7_init_31 : decode cX7_init 31 = .ok (.invokespecial 18, 3) := by decide +kernel
theorem dX7_init_34 : decode cX7_init 34 = .ok (.putfield 23, 3) := by decide +kernel
theorem dX7_init_37 : decode cX7_init 37 = .ok (.aload_n 0, 1) := by decide +kernel
theorem dX7_init_38 : decode cX7_init 38 = .ok (.new 26, 3) := by decide +kernel
theorem dX7_init_41 : decode cX7_init 41 = .ok (.dup, 1) := by decide +kernel
theorem dX7_init_42 : decode cX7_init 42 = .ok (.invokespecial 28, 3) := by decide +kernel
theorem dX7_init_45 : decode cX7_init 45 = .ok (.putfield 29, 3) := by decide +kernel
theorem dX7_init_48 : decode cX7_init 48 = .ok (.aload_n 0, 1) := by decide +kernel
theorem dX7_init_49 : decode cX7_init 49 = .ok (.new 33, 3) := by decide +kernel
theorem dX7_init_52 : decode cX7_init 52 = .ok (.dup, 1) := by decide +kernel
theorem dX7_init_53 : decode cX7_init 53 = .ok (.invokespecial 35, 3) := by decide +kernel
theorem dX7_init_56 : decode cX7_init 56 = .ok (.putfield 36, 3) := by decide +kernel
theorem dX7_init_59 : decode cX7_init 59 = .ok (.aload_n 0, 1) := by decide +kernel
theorem dX7_init_60 : decode cX7_init 60 = .ok (.new 40, 3) := by decide +kernel
theorem dX7_init_63 : decode cX7_init 63 = .ok (.dup, 1) := by decide +kernel
theorem dX7_init_64 : decode cX7_init 64 = .ok (.invokespecial 42, 3) := by decide +kernel
theorem dX7_init_67 : decode cX7_init 67 = .ok (.putfield 43, 3) := by decide +kernel
theorem dX7_init_70 : decode cX7_init 70 = .ok (.aload_n 0, 1) := by decide +kernel
theorem dX7_init_71 : decode cX7_init 71 = .ok (.new 47, 3) := by decide +kernel
theorem dX7_init_74 : decode cX7_init 74 = .ok (.dup, 1) := by decide +kernel
theorem dX7_init_75 : decode cX7_init 75 = .ok (.invokespecial 49, 3) := by decide +kernel
theorem dX7_init_78 : decode cX7_init 78 = .ok (.putfield 50, 3) := by decide +kernel
theorem dX7_init_81 : decode cX7_init 81 = .ok (.aload_n 0, 1) := by decide +kernel
theorem dX7_init_82 : decode cX7_init 82 = .ok (.new 54, 3) := by decide +kernel
theorem dX7_init_85 : decode cX7_init 85 = .ok (.dup, 1) := by decide +kernel
theorem dX7_init_86 : decode cX7_init 86 = .ok (.invokespecial 56, 3) := by decide +kernel
theorem dX7_init_89 : decode cX7_init 89 = .ok (.putfield 57, 3) := by decide +kernel
theorem dX7_init_92 : decode cX7_init 92 = .ok (.aload_n 0, 1) := by decide +kernel
theorem dX7_init_93 : decode cX7_init 93 = .ok (.iconst 0, 1) := by decide +kernel
theorem dX7_init_94 : decode cX7_init 94 = .ok (.putfield 61, 3) := by decide +kernel
theorem dX7_init_97 : decode cX7_init 97 = .ok (.aload_n 0, 1) := by decide +kernel
theorem dX7_init_98 : decode cX7_init 98 = .ok (.iconst 0, 1) := by decide +kernel
theorem dX7_init_99 : decode cX7_init 99 = .ok (.putfield 65, 3) := by decide +kernel
theorem dX7_init_102 : decode cX7_init 102 = .ok (.aload_n 0, 1) := by decide +kernel
theorem dX7_init_103 : decode cX7_init 103 = .ok (.iconst (-1), 1) := by decide +kernel
theorem dX7_init_104 : decode cX7_init 104 = .ok (.putfield 68, 3) := by decide +kernel
theorem dX7_init_107 : decode cX7_init 107 = .ok (.return_, 1) := by decide +kernel
theorem dX7_feed_0 : decode cX7_feed 0 = .ok (.aload_n 0, 1) := by decide +kernel
theorem dX7_feed_1 : decode cX7_feed 1 = .ok (.getfield 12, 3) := by decide +kernel
theorem dX7_feed_4 : decode cX7_feed 4 = .ok (.getfield 71, 3) := by decide +kernel
theorem dX7_feed_7 : decode cX7_feed 7 = .ok (.bipush 20, 2) := by decide +kernel
theorem dX7_feed_9 : decode cX7_feed 9 = .ok (.iadd, 1) := by decide +kernel
theorem dX7_feed_10 : decode cX7_feed 10 = .ok (.sipush 900, 3) := by decide +kernel
theorem dX7_feed_13 : decode cX7_feed 13 = .ok (.if_icmp .le 5, 3) := by decide +kernel
theorem dX7_feed_18 : decode cX7_feed 18 = .ok (.aload_n 0, 1) := by decide +kernel
theorem dX7_feed_19 : decode cX7_feed 19 = .ok (.getfield 12, 3) := by decide +kernel
theorem dX7_feed_22 : decode cX7_feed 22 = .ok (.iload_n 1, 1) := by decide +kernel
theorem dX7_feed_23 : decode cX7_feed 23 = .ok (.invokevirtual 74, 3) := by decide +kernel
theorem dX7_feed_26 : decode cX7_feed 26 = .ok (.aload_n 0, 1) := by decide +kernel
theorem dX7_feed_27 : decode cX7_feed 27 = .ok (.getfield 12, 3) := by decide +kernel
theorem dX7_feed_30 : decode cX7_feed 30 = .ok (.iload_n 2, 1) := by decide +kernel
theorem dX7_feed_31 : decode cX7_feed 31 = .ok (.invokevirtual 74, 3) := by decide +kernel
theorem dX7_feed_34 : decode cX7_feed 34 = .ok (.aload_n 0, 1) := by decide +kernel
theorem dX7_feed_35 : decode cX7_feed 35 = .ok (.getfield 12, 3) := by decide +kernel
theorem dX7_feed_38 : decode cX7_feed 38 = .ok (.iload_n 3, 1) := by decide +kernel
theorem dX7_feed_39 : decode cX7_feed 39 = .ok (.invokevirtual 74, 3) := by decide +kernel
theorem dX7_feed_42 : decode cX7_feed 42 = .ok (.aload_n 0, 1) := by decide +kernel
theorem dX7_feed_43 : decode cX7_feed 43 = .ok (.getfield 12, 3) := by decide +kernel
theorem dX7_feed_46 : decode cX7_feed 46 = .ok (.iload 4, 2) := by decide +kernel
theorem dX7_feed_48 : decode cX7_feed 48 = .ok (.invokevirtual 74, 3) := by decide +kernel
theorem dX7_feed_51 : decode cX7_feed 51 = .ok (.aload_n 0, 1) := by decide +kernel
theorem dX7_feed_52 : decode cX7_feed 52 = .ok (.getfield 12, 3) := by decide +kernel
theorem dX7_feed_55 : decode cX7_feed 55 = .ok (.iload 5, 2) := by decide +kernel
theorem dX7_feed_57 : decode cX7_feed 57 = .ok (.invokevirtual 74, 3) := by decide +kernel
theorem dX7_feed_60 : decode cX7_feed 60 = .ok (.aload_n 0, 1) := by decide +kernel
theorem dX7_feed_61 : decode cX7_feed 61 = .ok (.getfield 12, 3) := by decide +kernel
theorem dX7_feed_64 : decode cX7_feed 64 = .ok (.getfield 71, 3) := by decide +kernel
theorem dX7_feed_67 : decode cX7_feed 67 = .ok (.ireturn, 1) := by decide +kernel
theorem dX7_gallery_0 : decode cX7_gallery 0 = .ok (.iload_n 1, 1) := by decide +kernel
theorem dX7_gallery_1 : decode cX7_gallery 1 = .ok (.iconst 0, 1) := by decide +kernel
theorem dX7_gallery_2 : decode cX7_gallery 2 = .ok (.aload_n 0, 1) := by decide +kernel
theorem dX7_gallery_3 : decode cX7_gallery 3 = .ok (.getfield 12, 3) := by decide +kernel
theorem dX7_gallery_6 : decode cX7_gallery 6 = .ok (.getfield 71, 3) := by decide +kernel
theorem dX7_gallery_9 : decode cX7_gallery 9 = .ok (.invokestatic 78, 3) := by decide +kernel
theorem dX7_gallery_12 : decode cX7_gallery 12 = .ok (.ifCond .ne 9, 3) := by decide +kernel
theorem dX7_gallery_15 : decode cX7_gallery 15 = .ok (.aload_n 0, 1) := by decide +kernel
theorem dX7_gallery_16 : decode cX7_gallery 16 = .ok (.iconst 2, 1) := by decide +kernel
theorem dX7_gallery_17 : decode cX7_gallery 17 = .ok (.invokevirtual 82, 3) := by decide +kernel
theorem dX7_gallery_20 : decode cX7_gallery 20 = .ok (.ireturn, 1) := by decide +kernel
theorem dX7_gallery_21 : decode cX7_gallery 21 = .ok (.aload_n 0, 1) := by decide +kernel
theorem dX7_gallery_22 : decode cX7_gallery 22 = .ok (.getfield 12, 3) := by decide +kernel
theorem dX7_gallery_25 : decode cX7_gallery 25 = .ok (.iload_n 1, 1) := by decide +kernel
theorem dX7_gallery_26 : decode cX7_gallery 26 = .ok (.invokevirtual 86, 3) := by decide +kernel
theorem dX7_gallery_29 : decode cX7_gallery 29 = .ok (.istore_n 2, 1) := by decide +kernel
theorem dX7_gallery_30 : decode cX7_gallery 30 = .ok (.aload_n 0, 1) := by decide +kernel
theorem dX7_gallery_31 : decode cX7_gallery 31 = .ok (.aload_n 0, 1) := by decide +kernel
theorem dX7_gallery_32 : decode cX7_gallery 32 = .ok (.getfield 12, 3) := by decide +kernel
theorem dX7_gallery_35 : decode cX7_gallery 35 = .ok (.getfield 90, 3) := by decide +kernel
theorem dX7_gallery_38 : decode cX7_gallery 38 = .ok (.putfield 65, 3) := by decide +kernel
theorem dX7_gallery_41 : decode cX7_gallery 41 = .ok (.aload_n 0, 1) := by decide +kernel
theorem dX7_gallery_42 : decode cX7_gallery 42 = .ok (.aload_n 0, 1) := by decide +kernel
theorem dX7_gallery_43 : decode cX7_gallery 43 = .ok (.getfield 12, 3) := by decide +kernel
theorem dX7_gallery_46 : decode cX7_gallery 46 = .ok (.getfield 93, 3) := by decide +kernel
theorem dX7_gallery_49 : decode cX7_gallery 49 = .ok (.putfield 68, 3) := by decide +kernel
theorem dX7_gallery_52 : decode cX7_gallery 52 = .ok (.iload_n 2, 1) := by decide +kernel
theorem dX7_gallery_53 : decode cX7_gallery 53 = .ok (.ifCond .ne 9, 3) := by decide +kernel
theorem dX7_gallery_56 : decode cX7_gallery 56 = .ok (.aload_n 0, 1) := by decide +kernel
theorem dX7_gallery_57 : decode cX7_gallery 57 = .ok (.iconst 4, 1) := by decide +kernel
theorem dX7_gallery_58 : decode cX7_gallery 58 = .ok (.invokevirtual 82, 3) := by decide +kernel
theorem dX7_gallery_61 : decode cX7_gallery 61 = .ok (.ireturn, 1) := by decide +kernel
theorem dX7_fault_0 : decode cX7_fault 0 = .ok (.aload_n 0, 1) := by decide +kernel
theorem dX7_fault_1 : decode cX7_fault 1 = .ok (.getfield 65, 3) := by decide +kernel
theorem dX7_fault_4 : decode cX7_fault 4 = .ok (.ireturn, 1) := by decide +kernel
theorem dX7_where_0 : decode cX7_where 0 = .ok (.aload_n 0, 1) := by decide +kernel
theorem dX7_where_1 : decode cX7_where 1 = .ok (.getfield 61, 3) := by decide +kernel
theorem dX7_where_4 : decode cX7_where 4 = .ok (.iconst 4, 1) := by decide +kernel
theorem dX7_where_5 : decode cX7_where 5 = .ok (.if_icmp .ne 10, 3) := by decide +kernel
theorem dX7_where_15 : decode cX7_where 15 = .ok (.iconst (-1), 1) := by decide +kernel
theorem dX7_where_16 : decode cX7_where 16 = .ok (.ireturn, 1) := by decide +kernel
theorem dX7_figure_0 : decode cX7_figure 0 = .ok (.aload_n 0, 1) := by decide +kernel
theorem dX7_figure_1 : decode cX7_figure 1 = .ok (.iload_n 1, 1) := by decide +kernel
theorem dX7_figure_2 : decode cX7_figure 2 = .ok (.invokevirtual 116, 3) := by decide +kernel
theorem dX7_figure_5 : decode cX7_figure 5 = .ok (.ifCond .eq 12, 3) := by decide +kernel
theorem dX7_figure_17 : decode cX7_figure 17 = .ok (.aload_n 0, 1) := by decide +kernel
theorem dX7_figure_18 : decode cX7_figure 18 = .ok (.iconst 1, 1) := by decide +kernel
theorem dX7_figure_19 : decode cX7_figure 19 = .ok (.invokevirtual 82, 3) := by decide +kernel
theorem dX7_figure_22 : decode cX7_figure 22 = .ok (.ireturn, 1) := by decide +kernel
theorem dX7_watcher_0 : decode cX7_watcher 0 = .ok (.aload_n 0, 1) := by decide +kernel
theorem dX7_watcher_1 : decode cX7_watcher 1 = .ok (.iload_n 1, 1) := by decide +kernel
theorem dX7_watcher_2 : decode cX7_watcher 2 = .ok (.invokevirtual 135, 3) := by decide +kernel
theorem dX7_watcher_5 : decode cX7_watcher 5 = .ok (.ifCond .eq 12, 3) := by decide +kernel
theorem dX7_watcher_17 : decode cX7_watcher 17 = .ok (.aload_n 0, 1) := by decide +kernel
theorem dX7_watcher_18 : decode cX7_watcher 18 = .ok (.iconst 1, 1) := by decide +kernel
theorem dX7_watcher_19 : decode cX7_watcher 19 = .ok (.invokevirtual 82, 3) := by decide +kernel
theorem dX7_watcher_22 : decode cX7_watcher 22 = .ok (.ireturn, 1) := by decide +kernel
theorem dX7_alive_0 : decode cX7_alive 0 = .ok (.aload_n 0, 1) := by decide +kernel
theorem dX7_alive_1 : decode cX7_alive 1 = .ok (.invokevirtual 154, 3) := by decide +kernel
theorem dX7_alive_4 : decode cX7_alive 4 = .ok (.ifCond .ne 9, 3) := by decide +kernel
theorem dX7_alive_7 : decode cX7_alive 7 = .ok (.aload_n 0, 1) := by decide +kernel
theorem dX7_alive_8 : decode cX7_alive 8 = .ok (.iconst 1, 1) := by decide +kernel
theorem dX7_alive_9 : decode cX7_alive 9 = .ok (.invokevirtual 82, 3) := by decide +kernel
theorem dX7_alive_12 : decode cX7_alive 12 = .ok (.ireturn, 1) := by decide +kernel
theorem dX7_left_0 : decode cX7_left 0 = .ok (.aload_n 0, 1) := by decide +kernel
theorem dX7_left_1 : decode cX7_left 1 = .ok (.invokevirtual 154, 3) := by decide +kernel
theorem dX7_left_4 : decode cX7_left 4 = .ok (.ifCond .ne 9, 3) := by decide +kernel
theorem dX7_left_7 : decode cX7_left 7 = .ok (.aload_n 0, 1) := by decide +kernel
theorem dX7_left_8 : decode cX7_left 8 = .ok (.iconst 1, 1) := by decide +kernel
theorem dX7_left_9 : decode cX7_left 9 = .ok (.invokevirtual 82, 3) := by decide +kernel
theorem dX7_left_12 : decode cX7_left 12 = .ok (.ireturn, 1) := by decide +kernel
theorem dX7_caught_0 : decode cX7_caught 0 = .ok (.aload_n 0, 1) := by decide +kernel
theorem dX7_caught_1 : decode cX7_caught 1 = .ok (.invokevirtual 154, 3) := by decide +kernel
theorem dX7_caught_4 : decode cX7_caught 4 = .ok (.ifCond .ne 9, 3) := by decide +kernel
theorem dX7_caught_7 : decode cX7_caught 7 = .ok (.aload_n 0, 1) := by decide +kernel
theorem dX7_caught_8 : decode cX7_caught 8 = .ok (.iconst 1, 1) := by decide +kernel
theorem dX7_caught_9 : decode cX7_caught 9 = .ok (.invokevirtual 82, 3) := by decide +kernel
theorem dX7_caught_12 : decode cX7_caught 12 = .ok (.ireturn, 1) := by decide +kernel
theorem dX7_turnOf_0 : decode cX7_turnOf 0 = .ok (.aload_n 0, 1) := by decide +kernel
theorem dX7_turnOf_1 : decode cX7_turnOf 1 = .ok (.invokevirtual 154, 3) := by decide +kernel
theorem dX7_turnOf_4 : decode cX7_turnOf 4 = .ok (.ifCond .ne 9, 3) := by decide +kernel
theorem dX7_turnOf_7 : decode cX7_turnOf 7 = .ok (.aload_n 0, 1) := by decide +kernel
theorem dX7_turnOf_8 : decode cX7_turnOf 8 = .ok (.iconst 1, 1) := by decide +kernel
theorem dX7_turnOf_9 : decode cX7_turnOf 9 = .ok (.invokevirtual 82, 3) := by decide +kernel
theorem dX7_turnOf_12 : decode cX7_turnOf 12 = .ok (.ireturn, 1) := by decide +kernel
theorem dX7_turnIn_0 : decode cX7_turnIn 0 = .ok (.aload_n 0, 1) := by decide +kernel
theorem dX7_turnIn_1 : decode cX7_turnIn 1 = .ok (.iload_n 1, 1) := by decide +kernel
theorem dX7_turnIn_2 : decode cX7_turnIn 2 = .ok (.invokevirtual 116, 3) := by decide +kernel
theorem dX7_turnIn_5 : decode cX7_turnIn 5 = .ok (.ifCond .ne 9, 3) := by decide +kernel
theorem dX7_turnIn_8 : decode cX7_turnIn 8 = .ok (.aload_n 0, 1) := by decide +kernel
theorem dX7_turnIn_9 : decode cX7_turnIn 9 = .ok (.iconst 1, 1) := by decide +kernel
theorem dX7_turnIn_10 : decode cX7_turnIn 10 = .ok (.invokevirtual 82, 3) := by decide +kernel
theorem dX7_turnIn_13 : decode cX7_turnIn 13 = .ok (.ireturn, 1) := by decide +kernel
theorem dX7_settles_0 : decode cX7_settles 0 = .ok (.aload_n 0, 1) := by decide +kernel
theorem dX7_settles_1 : decode cX7_settles 1 = .ok (.invokevirtual 154, 3) := by decide +kernel
theorem dX7_settles_4 : decode cX7_settles 4 = .ok (.ifCond .ne 9, 3) := by decide +kernel
theorem dX7_settles_7 : decode cX7_settles 7 = .ok (.aload_n 0, 1) := by decide +kernel
theorem dX7_settles_8 : decode cX7_settles 8 = .ok (.iconst 1, 1) := by decide +kernel
theorem dX7_settles_9 : decode cX7_settles 9 = .ok (.invokevirtual 82, 3) := by decide +kernel
theorem dX7_settles_12 : decode cX7_settles 12 = .ok (.ireturn, 1) := by decide +kernel
theorem dX7_round_0 : decode cX7_round 0 = .ok (.aload_n 0, 1) := by decide +kernel
theorem dX7_round_1 : decode cX7_round 1 = .ok (.invokevirtual 154, 3) := by decide +kernel
theorem dX7_round_4 : decode cX7_round 4 = .ok (.ifCond .ne 9, 3) := by decide +kernel
theorem dX7_round_7 : decode cX7_round 7 = .ok (.aload_n 0, 1) := by decide +kernel
theorem dX7_round_8 : decode cX7_round 8 = .ok (.iconst 1, 1) := by decide +kernel
theorem dX7_round_9 : decode cX7_round 9 = .ok (.invokevirtual 82, 3) := by decide +kernel
theorem dX7_round_12 : decode cX7_round 12 = .ok (.ireturn, 1) := by decide +kernel
theorem dX7_called_0 : decode cX7_called 0 = .ok (.aload_n 0, 1) := by decide +kernel
theorem dX7_called_1 : decode cX7_called 1 = .ok (.invokevirtual 154, 3) := by decide +kernel
theorem dX7_called_4 : decode cX7_called 4 = .ok (.ifCond .ne 9, 3) := by decide +kernel
theorem dX7_called_7 : decode cX7_called 7 = .ok (.aload_n 0, 1) := by decide +kernel
theorem dX7_called_8 : decode cX7_called 8 = .ok (.iconst 1, 1) := by decide +kernel
theorem dX7_called_9 : decode cX7_called 9 = .ok (.invokevirtual 82, 3) := by decide +kernel
theorem dX7_called_12 : decode cX7_called 12 = .ok (.ireturn, 1) := by decide +kernel
theorem dX7_minutesOf_0 : decode cX7_minutesOf 0 = .ok (.aload_n 0, 1) := by decide +kernel
theorem dX7_minutesOf_1 : decode cX7_minutesOf 1 = .ok (.iload_n 1, 1) := by decide +kernel
theorem dX7_minutesOf_2 : decode cX7_minutesOf 2 = .ok (.invokevirtual 116, 3) := by decide +kernel
theorem dX7_minutesOf_5 : decode cX7_minutesOf 5 = .ok (.ifCond .ne 9, 3) := by decide +kernel
theorem dX7_minutesOf_8 : decode cX7_minutesOf 8 = .ok (.aload_n 0, 1) := by decide +kernel
theorem dX7_minutesOf_9 : decode cX7_minutesOf 9 = .ok (.iconst 1, 1) := by decide +kernel
theorem dX7_minutesOf_10 : decode cX7_minutesOf 10 = .ok (.invokevirtual 82, 3) := by decide +kernel
theorem dX7_minutesOf_13 : decode cX7_minutesOf 13 = .ok (.ireturn, 1) := by decide +kernel
theorem dX7_place_0 : decode cX7_place 0 = .ok (.aload_n 0, 1) := by decide +kernel
theorem dX7_place_1 : decode cX7_place 1 = .ok (.iload_n 1, 1) := by decide +kernel
theorem dX7_place_2 : decode cX7_place 2 = .ok (.iload_n 2, 1) := by decide +kernel
theorem dX7_place_3 : decode cX7_place 3 = .ok (.sipush 300, 3) := by decide +kernel
theorem dX7_place_6 : decode cX7_place 6 = .ok (.invokevirtual 181, 3) := by decide +kernel
theorem dX7_place_9 : decode cX7_place 9 = .ok (.istore_n 3, 1) := by decide +kernel
theorem dX7_place_10 : decode cX7_place 10 = .ok (.iload_n 3, 1) := by decide +kernel
theorem dX7_place_11 : decode cX7_place 11 = .ok (.ifCond .eq 9, 3) := by decide +kernel
theorem dX7_place_14 : decode cX7_place 14 = .ok (.aload_n 0, 1) := by decide +kernel
theorem dX7_place_15 : decode cX7_place 15 = .ok (.iload_n 3, 1) := by decide +kernel
theorem dX7_place_16 : decode cX7_place 16 = .ok (.invokevirtual 82, 3) := by decide +kernel
theorem dX7_place_19 : decode cX7_place 19 = .ok (.ireturn, 1) := by decide +kernel
theorem dX7_watch_0 : decode cX7_watch 0 = .ok (.aload_n 0, 1) := by decide +kernel
theorem dX7_watch_1 : decode cX7_watch 1 = .ok (.iload_n 1, 1) := by decide +kernel
theorem dX7_watch_2 : decode cX7_watch 2 = .ok (.invokevirtual 135, 3) := by decide +kernel
theorem dX7_watch_5 : decode cX7_watch 5 = .ok (.ifCond .ne 9, 3) := by decide +kernel
theorem dX7_watch_8 : decode cX7_watch 8 = .ok (.aload_n 0, 1) := by decide +kernel
theorem dX7_watch_9 : decode cX7_watch 9 = .ok (.iconst 1, 1) := by decide +kernel
theorem dX7_watch_10 : decode cX7_watch 10 = .ok (.invokevirtual 82, 3) := by decide +kernel
theorem dX7_watch_13 : decode cX7_watch 13 = .ok (.ireturn, 1) := by decide +kernel
theorem dX7_gone_0 : decode cX7_gone 0 = .ok (.aload_n 0, 1) := by decide +kernel
theorem dX7_gone_1 : decode cX7_gone 1 = .ok (.iload_n 1, 1) := by decide +kernel
theorem dX7_gone_2 : decode cX7_gone 2 = .ok (.iconst 0, 1) := by decide +kernel
theorem dX7_gone_3 : decode cX7_gone 3 = .ok (.sipush 300, 3) := by decide +kernel
theorem dX7_gone_6 : decode cX7_gone 6 = .ok (.invokevirtual 188, 3) := by decide +kernel
theorem dX7_gone_9 : decode cX7_gone 9 = .ok (.istore_n 2, 1) := by decide +kernel
theorem dX7_gone_10 : decode cX7_gone 10 = .ok (.iload_n 2, 1) := by decide +kernel
theorem dX7_gone_11 : decode cX7_gone 11 = .ok (.ifCond .eq 9, 3) := by decide +kernel
theorem dX7_gone_14 : decode cX7_gone 14 = .ok (.aload_n 0, 1) := by decide +kernel
theorem dX7_gone_15 : decode cX7_gone 15 = .ok (.iload_n 2, 1) := by decide +kernel
theorem dX7_gone_16 : decode cX7_gone 16 = .ok (.invokevirtual 82, 3) := by decide +kernel
theorem dX7_gone_19 : decode cX7_gone 19 = .ok (.ireturn, 1) := by decide +kernel
theorem dX7_stairs_0 : decode cX7_stairs 0 = .ok (.aload_n 0, 1) := by decide +kernel
theorem dX7_stairs_1 : decode cX7_stairs 1 = .ok (.invokevirtual 154, 3) := by decide +kernel
theorem dX7_stairs_4 : decode cX7_stairs 4 = .ok (.ifCond .ne 9, 3) := by decide +kernel
theorem dX7_stairs_7 : decode cX7_stairs 7 = .ok (.aload_n 0, 1) := by decide +kernel
theorem dX7_stairs_8 : decode cX7_stairs 8 = .ok (.iconst 1, 1) := by decide +kernel
theorem dX7_stairs_9 : decode cX7_stairs 9 = .ok (.invokevirtual 82, 3) := by decide +kernel
theorem dX7_stairs_12 : decode cX7_stairs 12 = .ok (.ireturn, 1) := by decide +kernel
theorem dX7_catches_0 : decode cX7_catches 0 = .ok (.aload_n 0, 1) := by decide +kernel
theorem dX7_catches_1 : decode cX7_catches 1 = .ok (.iload_n 1, 1) := by decide +kernel
theorem dX7_catches_2 : decode cX7_catches 2 = .ok (.iconst 0, 1) := by decide +kernel
theorem dX7_catches_3 : decode cX7_catches 3 = .ok (.sipush 300, 3) := by decide +kernel
theorem dX7_catches_6 : decode cX7_catches 6 = .ok (.invokevirtual 188, 3) := by decide +kernel
theorem dX7_catches_9 : decode cX7_catches 9 = .ok (.istore_n 2, 1) := by decide +kernel
theorem dX7_catches_10 : decode cX7_catches 10 = .ok (.iload_n 2, 1) := by decide +kernel
theorem dX7_catches_11 : decode cX7_catches 11 = .ok (.ifCond .eq 9, 3) := by decide +kernel
theorem dX7_catches_14 : decode cX7_catches 14 = .ok (.aload_n 0, 1) := by decide +kernel
theorem dX7_catches_15 : decode cX7_catches 15 = .ok (.iload_n 2, 1) := by decide +kernel
theorem dX7_catches_16 : decode cX7_catches 16 = .ok (.invokevirtual 82, 3) := by decide +kernel
theorem dX7_catches_19 : decode cX7_catches 19 = .ok (.ireturn, 1) := by decide +kernel
theorem dX7_heard_0 : decode cX7_heard 0 = .ok (.aload_n 0, 1) := by decide +kernel
theorem dX7_heard_1 : decode cX7_heard 1 = .ok (.iload_n 1, 1) := by decide +kernel
theorem dX7_heard_2 : decode cX7_heard 2 = .ok (.iload_n 2, 1) := by decide +kernel
theorem dX7_heard_3 : decode cX7_heard 3 = .ok (.sipush 300, 3) := by decide +kernel
theorem dX7_heard_6 : decode cX7_heard 6 = .ok (.invokevirtual 181, 3) := by decide +kernel
theorem dX7_heard_9 : decode cX7_heard 9 = .ok (.istore_n 3, 1) := by decide +kernel
theorem dX7_heard_10 : decode cX7_heard 10 = .ok (.iload_n 3, 1) := by decide +kernel
theorem dX7_heard_11 : decode cX7_heard 11 = .ok (.ifCond .eq 9, 3) := by decide +kernel
theorem dX7_heard_14 : decode cX7_heard 14 = .ok (.aload_n 0, 1) := by decide +kernel
theorem dX7_heard_15 : decode cX7_heard 15 = .ok (.iload_n 3, 1) := by decide +kernel
theorem dX7_heard_16 : decode cX7_heard 16 = .ok (.invokevirtual 82, 3) := by decide +kernel
theorem dX7_heard_19 : decode cX7_heard 19 = .ok (.ireturn, 1) := by decide +kernel
theorem dX7_allIn_0 : decode cX7_allIn 0 = .ok (.aload_n 0, 1) := by decide +kernel
theorem dX7_allIn_1 : decode cX7_allIn 1 = .ok (.iload_n 1, 1) := by decide +kernel
theorem dX7_allIn_2 : decode cX7_allIn 2 = .ok (.invokevirtual 116, 3) := by decide +kernel
theorem dX7_allIn_5 : decode cX7_allIn 5 = .ok (.ifCond .ne 9, 3) := by decide +kernel
theorem dX7_allIn_8 : decode cX7_allIn 8 = .ok (.aload_n 0, 1) := by decide +kernel
theorem dX7_allIn_9 : decode cX7_allIn 9 = .ok (.iconst 1, 1) := by decide +kernel
theorem dX7_allIn_10 : decode cX7_allIn 10 = .ok (.invokevirtual 82, 3) := by decide +kernel
theorem dX7_allIn_13 : decode cX7_allIn 13 = .ok (.ireturn, 1) := by decide +kernel
theorem dX7_meets_0 : decode cX7_meets 0 = .ok (.aload_n 0, 1) := by decide +kernel
theorem dX7_meets_1 : decode cX7_meets 1 = .ok (.iload_n 1, 1) := by decide +kernel
theorem dX7_meets_2 : decode cX7_meets 2 = .ok (.invokevirtual 135, 3) := by decide +kernel
theorem dX7_meets_5 : decode cX7_meets 5 = .ok (.ifCond .ne 9, 3) := by decide +kernel
theorem dX7_meets_8 : decode cX7_meets 8 = .ok (.aload_n 0, 1) := by decide +kernel
theorem dX7_meets_9 : decode cX7_meets 9 = .ok (.iconst 1, 1) := by decide +kernel
theorem dX7_meets_10 : decode cX7_meets 10 = .ok (.invokevirtual 82, 3) := by decide +kernel
theorem dX7_meets_13 : decode cX7_meets 13 = .ok (.ireturn, 1) := by decide +kernel
theorem dX7_crowd_0 : decode cX7_crowd 0 = .ok (.aload_n 0, 1) := by decide +kernel
theorem dX7_crowd_1 : decode cX7_crowd 1 = .ok (.iload_n 1, 1) := by decide +kernel
theorem dX7_crowd_2 : decode cX7_crowd 2 = .ok (.iconst 0, 1) := by decide +kernel
theorem dX7_crowd_3 : decode cX7_crowd 3 = .ok (.sipush 300, 3) := by decide +kernel
theorem dX7_crowd_6 : decode cX7_crowd 6 = .ok (.invokevirtual 188, 3) := by decide +kernel
theorem dX7_crowd_9 : decode cX7_crowd 9 = .ok (.istore_n 2, 1) := by decide +kernel
theorem dX7_crowd_10 : decode cX7_crowd 10 = .ok (.iload_n 2, 1) := by decide +kernel
theorem dX7_crowd_11 : decode cX7_crowd 11 = .ok (.ifCond .eq 9, 3) := by decide +kernel
theorem dX7_crowd_14 : decode cX7_crowd 14 = .ok (.aload_n 0, 1) := by decide +kernel
theorem dX7_crowd_15 : decode cX7_crowd 15 = .ok (.iload_n 2, 1) := by decide +kernel
theorem dX7_crowd_16 : decode cX7_crowd 16 = .ok (.invokevirtual 82, 3) := by decide +kernel
theorem dX7_crowd_19 : decode cX7_crowd 19 = .ok (.ireturn, 1) := by decide +kernel
theorem dX7_farthest_0 : decode cX7_farthest 0 = .ok (.aload_n 0, 1) := by decide +kernel
theorem dX7_farthest_1 : decode cX7_farthest 1 = .ok (.iload_n 1, 1) := by decide +kernel
theorem dX7_farthest_2 : decode cX7_farthest 2 = .ok (.iconst 0, 1) := by decide +kernel
theorem dX7_farthest_3 : decode cX7_farthest 3 = .ok (.sipush 300, 3) := by decide +kernel
theorem dX7_farthest_6 : decode cX7_farthest 6 = .ok (.invokevirtual 188, 3) := by decide +kernel
theorem dX7_farthest_9 : decode cX7_farthest 9 = .ok (.istore_n 2, 1) := by decide +kernel
theorem dX7_farthest_10 : decode cX7_farthest 10 = .ok (.iload_n 2, 1) := by decide +kernel
theorem dX7_farthest_11 : decode cX7_farthest 11 = .ok (.ifCond .eq 9, 3) := by decide +kernel
theorem dX7_farthest_14 : decode cX7_farthest 14 = .ok (.aload_n 0, 1) := by decide +kernel
theorem dX7_farthest_15 : decode cX7_farthest 15 = .ok (.iload_n 2, 1) := by decide +kernel
theorem dX7_farthest_16 : decode cX7_farthest 16 = .ok (.invokevirtual 82, 3) := by decide +kernel
theorem dX7_farthest_19 : decode cX7_farthest 19 = .ok (.ireturn, 1) := by decide +kernel
theorem dX7_nearBy_0 : decode cX7_nearBy 0 = .ok (.aload_n 0, 1) := by decide +kernel
theorem dX7_nearBy_1 : decode cX7_nearBy 1 = .ok (.iload_n 1, 1) := by decide +kernel
theorem dX7_nearBy_2 : decode cX7_nearBy 2 = .ok (.iload_n 2, 1) := by decide +kernel
theorem dX7_nearBy_3 : decode cX7_nearBy 3 = .ok (.sipush 300, 3) := by decide +kernel
theorem dX7_nearBy_6 : decode cX7_nearBy 6 = .ok (.invokevirtual 181, 3) := by decide +kernel
theorem dX7_nearBy_9 : decode cX7_nearBy 9 = .ok (.istore_n 3, 1) := by decide +kernel
theorem dX7_nearBy_10 : decode cX7_nearBy 10 = .ok (.iload_n 3, 1) := by decide +kernel
theorem dX7_nearBy_11 : decode cX7_nearBy 11 = .ok (.ifCond .eq 9, 3) := by decide +kernel
theorem dX7_nearBy_14 : decode cX7_nearBy 14 = .ok (.aload_n 0, 1) := by decide +kernel
theorem dX7_nearBy_15 : decode cX7_nearBy 15 = .ok (.iload_n 3, 1) := by decide +kernel
theorem dX7_nearBy_16 : decode cX7_nearBy 16 = .ok (.invokevirtual 82, 3) := by decide +kernel
theorem dX7_nearBy_19 : decode cX7_nearBy 19 = .ok (.ireturn, 1) := by decide +kernel
theorem dX7_spoken_0 : decode cX7_spoken 0 = .ok (.aload_n 0, 1) := by decide +kernel
theorem dX7_spoken_1 : decode cX7_spoken 1 = .ok (.iload_n 1, 1) := by decide +kernel
theorem dX7_spoken_2 : decode cX7_spoken 2 = .ok (.iload_n 2, 1) := by decide +kernel
theorem dX7_spoken_3 : decode cX7_spoken 3 = .ok (.sipush 300, 3) := by decide +kernel
theorem dX7_spoken_6 : decode cX7_spoken 6 = .ok (.invokevirtual 181, 3) := by decide +kernel
theorem dX7_spoken_9 : decode cX7_spoken 9 = .ok (.istore_n 3, 1) := by decide +kernel
theorem dX7_spoken_10 : decode cX7_spoken 10 = .ok (.iload_n 3, 1) := by decide +kernel
theorem dX7_spoken_11 : decode cX7_spoken 11 = .ok (.ifCond .eq 9, 3) := by decide +kernel
theorem dX7_spoken_14 : decode cX7_spoken 14 = .ok (.aload_n 0, 1) := by decide +kernel
theorem dX7_spoken_15 : decode cX7_spoken 15 = .ok (.iload_n 3, 1) := by decide +kernel
theorem dX7_spoken_16 : decode cX7_spoken 16 = .ok (.invokevirtual 82, 3) := by decide +kernel
theorem dX7_spoken_19 : decode cX7_spoken 19 = .ok (.ireturn, 1) := by decide +kernel
theorem dX7_route_0 : decode cX7_route 0 = .ok (.aload_n 0, 1) := by decide +kernel
theorem dX7_route_1 : decode cX7_route 1 = .ok (.iload_n 1, 1) := by decide +kernel
theorem dX7_route_2 : decode cX7_route 2 = .ok (.invokevirtual 230, 3) := by decide +kernel
theorem dX7_route_5 : decode cX7_route 5 = .ok (.ifCond .ne 9, 3) := by decide +kernel
theorem dX7_route_8 : decode cX7_route 8 = .ok (.aload_n 0, 1) := by decide +kernel
theorem dX7_route_9 : decode cX7_route 9 = .ok (.iconst 1, 1) := by decide +kernel
theorem dX7_route_10 : decode cX7_route 10 = .ok (.invokevirtual 82, 3) := by decide +kernel
theorem dX7_route_13 : decode cX7_route 13 = .ok (.ireturn, 1) := by decide +kernel
theorem dX7_routeAt_0 : decode cX7_routeAt 0 = .ok (.aload_n 0, 1) := by decide +kernel
theorem dX7_routeAt_1 : decode cX7_routeAt 1 = .ok (.iload_n 1, 1) := by decide +kernel
theorem dX7_routeAt_2 : decode cX7_routeAt 2 = .ok (.invokevirtual 230, 3) := by decide +kernel
theorem dX7_routeAt_5 : decode cX7_routeAt 5 = .ok (.ifCond .eq 12, 3) := by decide +kernel
theorem dX7_routeAt_17 : decode cX7_routeAt 17 = .ok (.aload_n 0, 1) := by decide +kernel
theorem dX7_routeAt_18 : decode cX7_routeAt 18 = .ok (.iconst 1, 1) := by decide +kernel
theorem dX7_routeAt_19 : decode cX7_routeAt 19 = .ok (.invokevirtual 82, 3) := by decide +kernel
theorem dX7_routeAt_22 : decode cX7_routeAt 22 = .ok (.ireturn, 1) := by decide +kernel
theorem dX7_stand_0 : decode cX7_stand 0 = .ok (.aload_n 0, 1) := by decide +kernel
theorem dX7_stand_1 : decode cX7_stand 1 = .ok (.iload_n 1, 1) := by decide +kernel
theorem dX7_stand_2 : decode cX7_stand 2 = .ok (.iconst 1, 1) := by decide +kernel
theorem dX7_stand_3 : decode cX7_stand 3 = .ok (.bipush 60, 2) := by decide +kernel
theorem dX7_stand_5 : decode cX7_stand 5 = .ok (.invokevirtual 188, 3) := by decide +kernel
theorem dX7_stand_8 : decode cX7_stand 8 = .ok (.istore_n 2, 1) := by decide +kernel
theorem dX7_stand_9 : decode cX7_stand 9 = .ok (.iload_n 2, 1) := by decide +kernel
theorem dX7_stand_10 : decode cX7_stand 10 = .ok (.ifCond .eq 9, 3) := by decide +kernel
theorem dX7_stand_13 : decode cX7_stand 13 = .ok (.aload_n 0, 1) := by decide +kernel
theorem dX7_stand_14 : decode cX7_stand 14 = .ok (.iload_n 2, 1) := by decide +kernel
theorem dX7_stand_15 : decode cX7_stand 15 = .ok (.invokevirtual 82, 3) := by decide +kernel
theorem dX7_stand_18 : decode cX7_stand 18 = .ok (.ireturn, 1) := by decide +kernel
theorem dX7_guard_0 : decode cX7_guard 0 = .ok (.aload_n 0, 1) := by decide +kernel
theorem dX7_guard_1 : decode cX7_guard 1 = .ok (.iload_n 1, 1) := by decide +kernel
theorem dX7_guard_2 : decode cX7_guard 2 = .ok (.iconst 1, 1) := by decide +kernel
theorem dX7_guard_3 : decode cX7_guard 3 = .ok (.bipush 60, 2) := by decide +kernel
theorem dX7_guard_5 : decode cX7_guard 5 = .ok (.invokevirtual 188, 3) := by decide +kernel
theorem dX7_guard_8 : decode cX7_guard 8 = .ok (.istore_n 2, 1) := by decide +kernel
theorem dX7_guard_9 : decode cX7_guard 9 = .ok (.iload_n 2, 1) := by decide +kernel
theorem dX7_guard_10 : decode cX7_guard 10 = .ok (.ifCond .eq 9, 3) := by decide +kernel
theorem dX7_guard_13 : decode cX7_guard 13 = .ok (.aload_n 0, 1) := by decide +kernel
theorem dX7_guard_14 : decode cX7_guard 14 = .ok (.iload_n 2, 1) := by decide +kernel
theorem dX7_guard_15 : decode cX7_guard 15 = .ok (.invokevirtual 82, 3) := by decide +kernel
theorem dX7_guard_18 : decode cX7_guard 18 = .ok (.ireturn, 1) := by decide +kernel
theorem dX7_windBest_0 : decode cX7_windBest 0 = .ok (.aload_n 0, 1) := by decide +kernel
theorem dX7_windBest_1 : decode cX7_windBest 1 = .ok (.invokevirtual 154, 3) := by decide +kernel
theorem dX7_windBest_4 : decode cX7_windBest 4 = .ok (.ifCond .ne 9, 3) := by decide +kernel
theorem dX7_windBest_7 : decode cX7_windBest 7 = .ok (.aload_n 0, 1) := by decide +kernel
theorem dX7_windBest_8 : decode cX7_windBest 8 = .ok (.iconst 1, 1) := by decide +kernel
theorem dX7_windBest_9 : decode cX7_windBest 9 = .ok (.invokevirtual 82, 3) := by decide +kernel
theorem dX7_windBest_12 : decode cX7_windBest 12 = .ok (.ireturn, 1) := by decide +kernel
theorem dX7_patrol_0 : decode cX7_patrol 0 = .ok (.aload_n 0, 1) := by decide +kernel
theorem dX7_patrol_1 : decode cX7_patrol 1 = .ok (.iload_n 1, 1) := by decide +kernel
theorem dX7_patrol_2 : decode cX7_patrol 2 = .ok (.invokevirtual 135, 3) := by decide +kernel
theorem dX7_patrol_5 : decode cX7_patrol 5 = .ok (.ifCond .ne 9, 3) := by decide +kernel
theorem dX7_patrol_8 : decode cX7_patrol 8 = .ok (.aload_n 0, 1) := by decide +kernel
theorem dX7_patrol_9 : decode cX7_patrol 9 = .ok (.iconst 1, 1) := by decide +kernel
theorem dX7_patrol_10 : decode cX7_patrol 10 = .ok (.invokevirtual 82, 3) := by decide +kernel
theorem dX7_patrol_13 : decode cX7_patrol 13 = .ok (.ireturn, 1) := by decide +kernel
theorem dX7_fits_0 : decode cX7_fits 0 = .ok (.aload_n 0, 1) := by decide +kernel
theorem dX7_fits_1 : decode cX7_fits 1 = .ok (.invokevirtual 154, 3) := by decide +kernel
theorem dX7_fits_4 : decode cX7_fits 4 = .ok (.ifCond .ne 9, 3) := by decide +kernel
theorem dX7_fits_7 : decode cX7_fits 7 = .ok (.aload_n 0, 1) := by decide +kernel
theorem dX7_fits_8 : decode cX7_fits 8 = .ok (.iconst 1, 1) := by decide +kernel
theorem dX7_fits_9 : decode cX7_fits 9 = .ok (.invokevirtual 82, 3) := by decide +kernel
theorem dX7_fits_12 : decode cX7_fits 12 = .ok (.ireturn, 1) := by decide +kernel
theorem dX7_fitAt_0 : decode cX7_fitAt 0 = .ok (.aload_n 0, 1) := by decide +kernel
theorem dX7_fitAt_1 : decode cX7_fitAt 1 = .ok (.invokevirtual 154, 3) := by decide +kernel
theorem dX7_fitAt_4 : decode cX7_fitAt 4 = .ok (.ifCond .ne 9, 3) := by decide +kernel
theorem dX7_fitAt_7 : decode cX7_fitAt 7 = .ok (.aload_n 0, 1) := by decide +kernel
theorem dX7_fitAt_8 : decode cX7_fitAt 8 = .ok (.iconst 1, 1) := by decide +kernel
theorem dX7_fitAt_9 : decode cX7_fitAt 9 = .ok (.invokevirtual 82, 3) := by decide +kernel
theorem dX7_fitAt_12 : decode cX7_fitAt 12 = .ok (.ireturn, 1) := by decide +kernel
theorem dX7_could_0 : decode cX7_could 0 = .ok (.aload_n 0, 1) := by decide +kernel
theorem dX7_could_1 : decode cX7_could 1 = .ok (.iload_n 1, 1) := by decide +kernel
theorem dX7_could_2 : decode cX7_could 2 = .ok (.iconst 0, 1) := by decide +kernel
theorem dX7_could_3 : decode cX7_could 3 = .ok (.sipush 999, 3) := by decide +kernel
theorem dX7_could_6 : decode cX7_could 6 = .ok (.invokevirtual 188, 3) := by decide +kernel
theorem dX7_could_9 : decode cX7_could 9 = .ok (.istore_n 2, 1) := by decide +kernel
theorem dX7_could_10 : decode cX7_could 10 = .ok (.iload_n 2, 1) := by decide +kernel
theorem dX7_could_11 : decode cX7_could 11 = .ok (.ifCond .eq 9, 3) := by decide +kernel
theorem dX7_could_14 : decode cX7_could 14 = .ok (.aload_n 0, 1) := by decide +kernel
theorem dX7_could_15 : decode cX7_could 15 = .ok (.iload_n 2, 1) := by decide +kernel
theorem dX7_could_16 : decode cX7_could 16 = .ok (.invokevirtual 82, 3) := by decide +kernel
theorem dX7_could_19 : decode cX7_could 19 = .ok (.ireturn, 1) := by decide +kernel
theorem dX7_aliveBy_0 : decode cX7_aliveBy 0 = .ok (.aload_n 0, 1) := by decide +kernel
theorem dX7_aliveBy_1 : decode cX7_aliveBy 1 = .ok (.iload_n 1, 1) := by decide +kernel
theorem dX7_aliveBy_2 : decode cX7_aliveBy 2 = .ok (.iload_n 2, 1) := by decide +kernel
theorem dX7_aliveBy_3 : decode cX7_aliveBy 3 = .ok (.sipush 999, 3) := by decide +kernel
theorem dX7_aliveBy_6 : decode cX7_aliveBy 6 = .ok (.invokevirtual 181, 3) := by decide +kernel
theorem dX7_aliveBy_9 : decode cX7_aliveBy 9 = .ok (.istore_n 3, 1) := by decide +kernel
theorem dX7_aliveBy_10 : decode cX7_aliveBy 10 = .ok (.iload_n 3, 1) := by decide +kernel
theorem dX7_aliveBy_11 : decode cX7_aliveBy 11 = .ok (.ifCond .eq 9, 3) := by decide +kernel
theorem dX7_aliveBy_14 : decode cX7_aliveBy 14 = .ok (.aload_n 0, 1) := by decide +kernel
theorem dX7_aliveBy_15 : decode cX7_aliveBy 15 = .ok (.iload_n 3, 1) := by decide +kernel
theorem dX7_aliveBy_16 : decode cX7_aliveBy 16 = .ok (.invokevirtual 82, 3) := by decide +kernel
theorem dX7_aliveBy_19 : decode cX7_aliveBy 19 = .ok (.ireturn, 1) := by decide +kernel
theorem dX7_look_0 : decode cX7_look 0 = .ok (.aload_n 0, 1) := by decide +kernel
theorem dX7_look_1 : decode cX7_look 1 = .ok (.invokevirtual 154, 3) := by decide +kernel
theorem dX7_look_4 : decode cX7_look 4 = .ok (.ifCond .ne 9, 3) := by decide +kernel
theorem dX7_look_7 : decode cX7_look 7 = .ok (.aload_n 0, 1) := by decide +kernel
theorem dX7_look_8 : decode cX7_look 8 = .ok (.iconst 1, 1) := by decide +kernel
theorem dX7_look_9 : decode cX7_look 9 = .ok (.invokevirtual 82, 3) := by decide +kernel
theorem dX7_look_12 : decode cX7_look 12 = .ok (.ireturn, 1) := by decide +kernel
theorem dX7_lookLeaves_0 : decode cX7_lookLeaves 0 = .ok (.aload_n 0, 1) := by decide +kernel
theorem dX7_lookLeaves_1 : decode cX7_lookLeaves 1 = .ok (.invokevirtual 154, 3) := by decide +kernel
theorem dX7_lookLeaves_4 : decode cX7_lookLeaves 4 = .ok (.ifCond .ne 9, 3) := by decide +kernel
theorem dX7_lookLeaves_7 : decode cX7_lookLeaves 7 = .ok (.aload_n 0, 1) := by decide +kernel
theorem dX7_lookLeaves_8 : decode cX7_lookLeaves 8 = .ok (.iconst 1, 1) := by decide +kernel
theorem dX7_lookLeaves_9 : decode cX7_lookLeaves 9 = .ok (.invokevirtual 82, 3) := by decide +kernel
theorem dX7_lookLeaves_12 : decode cX7_lookLeaves 12 = .ok (.ireturn, 1) := by decide +kernel
theorem dX7_lawsLike_0 : decode cX7_lawsLike 0 = .ok (.aload_n 0, 1) := by decide +kernel
theorem dX7_lawsLike_1 : decode cX7_lawsLike 1 = .ok (.invokevirtual 154, 3) := by decide +kernel
theorem dX7_lawsLike_4 : decode cX7_lawsLike 4 = .ok (.ifCond .ne 9, 3) := by decide +kernel
theorem dX7_lawsLike_7 : decode cX7_lawsLike 7 = .ok (.aload_n 0, 1) := by decide +kernel
theorem dX7_lawsLike_8 : decode cX7_lawsLike 8 = .ok (.iconst 1, 1) := by decide +kernel
theorem dX7_lawsLike_9 : decode cX7_lawsLike 9 = .ok (.invokevirtual 82, 3) := by decide +kernel
theorem dX7_lawsLike_12 : decode cX7_lawsLike 12 = .ok (.ireturn, 1) := by decide +kernel
theorem dX7_lawFor_0 : decode cX7_lawFor 0 = .ok (.aload_n 0, 1) := by decide +kernel
theorem dX7_lawFor_1 : decode cX7_lawFor 1 = .ok (.iload_n 1, 1) := by decide +kernel
theorem dX7_lawFor_2 : decode cX7_lawFor 2 = .ok (.iload_n 2, 1) := by decide +kernel
theorem dX7_lawFor_3 : decode cX7_lawFor 3 = .ok (.bipush 99, 2) := by decide +kernel
theorem dX7_lawFor_5 : decode cX7_lawFor 5 = .ok (.invokevirtual 181, 3) := by decide +kernel
theorem dX7_lawFor_8 : decode cX7_lawFor 8 = .ok (.istore_n 3, 1) := by decide +kernel
theorem dX7_lawFor_9 : decode cX7_lawFor 9 = .ok (.iload_n 3, 1) := by decide +kernel
theorem dX7_lawFor_10 : decode cX7_lawFor 10 = .ok (.ifCond .eq 9, 3) := by decide +kernel
theorem dX7_lawFor_13 : decode cX7_lawFor 13 = .ok (.aload_n 0, 1) := by decide +kernel
theorem dX7_lawFor_14 : decode cX7_lawFor 14 = .ok (.iload_n 3, 1) := by decide +kernel
theorem dX7_lawFor_15 : decode cX7_lawFor 15 = .ok (.invokevirtual 82, 3) := by decide +kernel
theorem dX7_lawFor_18 : decode cX7_lawFor 18 = .ok (.ireturn, 1) := by decide +kernel
theorem dX7_judge_0 : decode cX7_judge 0 = .ok (.aload_n 0, 1) := by decide +kernel
theorem dX7_judge_1 : decode cX7_judge 1 = .ok (.invokevirtual 154, 3) := by decide +kernel
theorem dX7_judge_4 : decode cX7_judge 4 = .ok (.ifCond .ne 9, 3) := by decide +kernel
theorem dX7_judge_7 : decode cX7_judge 7 = .ok (.aload_n 0, 1) := by decide +kernel
theorem dX7_judge_8 : decode cX7_judge 8 = .ok (.iconst 1, 1) := by decide +kernel
theorem dX7_judge_9 : decode cX7_judge 9 = .ok (.invokevirtual 82, 3) := by decide +kernel
theorem dX7_judge_12 : decode cX7_judge 12 = .ok (.ireturn, 1) := by decide +kernel
theorem dX7_dares_0 : decode cX7_dares 0 = .ok (.aload_n 0, 1) := by decide +kernel
theorem dX7_dares_1 : decode cX7_dares 1 = .ok (.iload_n 1, 1) := by decide +kernel
theorem dX7_dares_2 : decode cX7_dares 2 = .ok (.iconst 0, 1) := by decide +kernel
theorem dX7_dares_3 : decode cX7_dares 3 = .ok (.bipush 9, 2) := by decide +kernel
theorem dX7_dares_5 : decode cX7_dares 5 = .ok (.invokevirtual 188, 3) := by decide +kernel
theorem dX7_dares_8 : decode cX7_dares 8 = .ok (.istore 5, 2) := by decide +kernel
theorem dX7_dares_10 : decode cX7_dares 10 = .ok (.iload 5, 2) := by decide +kernel
theorem dX7_dares_12 : decode cX7_dares 12 = .ok (.ifCond .eq 12, 3) := by decide +kernel
theorem dX7_dares_15 : decode cX7_dares 15 = .ok (.aload_n 0, 1) := by decide +kernel
theorem dX7_dares_16 : decode cX7_dares 16 = .ok (.iload 5, 2) := by decide +kernel
theorem dX7_dares_18 : decode cX7_dares 18 = .ok (.putfield 61, 3) := by decide +kernel
theorem dX7_dares_21 : decode cX7_dares 21 = .ok (.bipush (-100), 2) := by decide +kernel
theorem dX7_dares_23 : decode cX7_dares 23 = .ok (.ireturn, 1) := by decide +kernel
theorem dX7_rests_0 : decode cX7_rests 0 = .ok (.aload_n 0, 1) := by decide +kernel
theorem dX7_rests_1 : decode cX7_rests 1 = .ok (.iload_n 1, 1) := by decide +kernel
theorem dX7_rests_2 : decode cX7_rests 2 = .ok (.iconst 0, 1) := by decide +kernel
theorem dX7_rests_3 : decode cX7_rests 3 = .ok (.bipush 9, 2) := by decide +kernel
theorem dX7_rests_5 : decode cX7_rests 5 = .ok (.invokevirtual 188, 3) := by decide +kernel
theorem dX7_rests_8 : decode cX7_rests 8 = .ok (.istore_n 2, 1) := by decide +kernel
theorem dX7_rests_9 : decode cX7_rests 9 = .ok (.iload_n 2, 1) := by decide +kernel
theorem dX7_rests_10 : decode cX7_rests 10 = .ok (.ifCond .eq 9, 3) := by decide +kernel
theorem dX7_rests_13 : decode cX7_rests 13 = .ok (.aload_n 0, 1) := by decide +kernel
theorem dX7_rests_14 : decode cX7_rests 14 = .ok (.iload_n 2, 1) := by decide +kernel
theorem dX7_rests_15 : decode cX7_rests 15 = .ok (.invokevirtual 82, 3) := by decide +kernel
theorem dX7_rests_18 : decode cX7_rests 18 = .ok (.ireturn, 1) := by decide +kernel
theorem dX7_rest_0 : decode cX7_rest 0 = .ok (.aload_n 0, 1) := by decide +kernel
theorem dX7_rest_1 : decode cX7_rest 1 = .ok (.iload_n 1, 1) := by decide +kernel
theorem dX7_rest_2 : decode cX7_rest 2 = .ok (.iconst 0, 1) := by decide +kernel
theorem dX7_rest_3 : decode cX7_rest 3 = .ok (.bipush 9, 2) := by decide +kernel
theorem dX7_rest_5 : decode cX7_rest 5 = .ok (.invokevirtual 188, 3) := by decide +kernel
theorem dX7_rest_8 : decode cX7_rest 8 = .ok (.istore_n 2, 1) := by decide +kernel
theorem dX7_rest_9 : decode cX7_rest 9 = .ok (.iload_n 2, 1) := by decide +kernel
theorem dX7_rest_10 : decode cX7_rest 10 = .ok (.ifCond .eq 9, 3) := by decide +kernel
theorem dX7_rest_13 : decode cX7_rest 13 = .ok (.aload_n 0, 1) := by decide +kernel
theorem dX7_rest_14 : decode cX7_rest 14 = .ok (.iload_n 2, 1) := by decide +kernel
theorem dX7_rest_15 : decode cX7_rest 15 = .ok (.invokevirtual 82, 3) := by decide +kernel
theorem dX7_rest_18 : decode cX7_rest 18 = .ok (.ireturn, 1) := by decide +kernel
theorem dX7_odds_0 : decode cX7_odds 0 = .ok (.aload_n 0, 1) := by decide +kernel
theorem dX7_odds_1 : decode cX7_odds 1 = .ok (.iload_n 1, 1) := by decide +kernel
theorem dX7_odds_2 : decode cX7_odds 2 = .ok (.iload_n 2, 1) := by decide +kernel
theorem dX7_odds_3 : decode cX7_odds 3 = .ok (.bipush 8, 2) := by decide +kernel
theorem dX7_odds_5 : decode cX7_odds 5 = .ok (.invokevirtual 181, 3) := by decide +kernel
theorem dX7_odds_8 : decode cX7_odds 8 = .ok (.istore 4, 2) := by decide +kernel
theorem dX7_odds_10 : decode cX7_odds 10 = .ok (.iload 4, 2) := by decide +kernel
theorem dX7_odds_12 : decode cX7_odds 12 = .ok (.ifCond .eq 11, 3) := by decide +kernel
theorem dX7_odds_15 : decode cX7_odds 15 = .ok (.aload_n 0, 1) := by decide +kernel
theorem dX7_odds_16 : decode cX7_odds 16 = .ok (.iload 4, 2) := by decide +kernel
theorem dX7_odds_18 : decode cX7_odds 18 = .ok (.invokevirtual 82, 3) := by decide +kernel
theorem dX7_odds_21 : decode cX7_odds 21 = .ok (.i2l, 1) := by decide +kernel
theorem dX7_odds_22 : decode cX7_odds 22 = .ok (.lreturn, 1) := by decide +kernel
theorem dX7_mean_0 : decode cX7_mean 0 = .ok (.aload_n 0, 1) := by decide +kernel
theorem dX7_mean_1 : decode cX7_mean 1 = .ok (.iload_n 1, 1) := by decide +kernel
theorem dX7_mean_2 : decode cX7_mean 2 = .ok (.iload_n 2, 1) := by decide +kernel
theorem dX7_mean_3 : decode cX7_mean 3 = .ok (.bipush 8, 2) := by decide +kernel
theorem dX7_mean_5 : decode cX7_mean 5 = .ok (.invokevirtual 181, 3) := by decide +kernel
theorem dX7_mean_8 : decode cX7_mean 8 = .ok (.istore 4, 2) := by decide +kernel
theorem dX7_mean_10 : decode cX7_mean 10 = .ok (.iload 4, 2) := by decide +kernel
theorem dX7_mean_12 : decode cX7_mean 12 = .ok (.ifCond .eq 11, 3) := by decide +kernel
theorem dX7_mean_15 : decode cX7_mean 15 = .ok (.aload_n 0, 1) := by decide +kernel
theorem dX7_mean_16 : decode cX7_mean 16 = .ok (.iload 4, 2) := by decide +kernel
theorem dX7_mean_18 : decode cX7_mean 18 = .ok (.invokevirtual 82, 3) := by decide +kernel
theorem dX7_mean_21 : decode cX7_mean 21 = .ok (.i2l, 1) := by decide +kernel
theorem dX7_mean_22 : decode cX7_mean 22 = .ok (.lreturn, 1) := by decide +kernel
theorem dX7_drawn_0 : decode cX7_drawn 0 = .ok (.aload_n 0, 1) := by decide +kernel
theorem dX7_drawn_1 : decode cX7_drawn 1 = .ok (.iload_n 1, 1) := by decide +kernel
theorem dX7_drawn_2 : decode cX7_drawn 2 = .ok (.invokevirtual 116, 3) := by decide +kernel
theorem dX7_drawn_5 : decode cX7_drawn 5 = .ok (.ifCond .ne 9, 3) := by decide +kernel
theorem dX7_drawn_8 : decode cX7_drawn 8 = .ok (.aload_n 0, 1) := by decide +kernel
theorem dX7_drawn_9 : decode cX7_drawn 9 = .ok (.iconst 1, 1) := by decide +kernel
theorem dX7_drawn_10 : decode cX7_drawn 10 = .ok (.invokevirtual 82, 3) := by decide +kernel
theorem dX7_drawn_13 : decode cX7_drawn 13 = .ok (.ireturn, 1) := by decide +kernel
theorem dX7_firstShut_0 : decode cX7_firstShut 0 = .ok (.aload_n 0, 1) := by decide +kernel
theorem dX7_firstShut_1 : decode cX7_firstShut 1 = .ok (.invokevirtual 154, 3) := by decide +kernel
theorem dX7_firstShut_4 : decode cX7_firstShut 4 = .ok (.ifCond .ne 9, 3) := by decide +kernel
theorem dX7_firstShut_7 : decode cX7_firstShut 7 = .ok (.aload_n 0, 1) := by decide +kernel
theorem dX7_firstShut_8 : decode cX7_firstShut 8 = .ok (.iconst 1, 1) := by decide +kernel
theorem dX7_firstShut_9 : decode cX7_firstShut 9 = .ok (.invokevirtual 82, 3) := by decide +kernel
theorem dX7_firstShut_12 : decode cX7_firstShut 12 = .ok (.ireturn, 1) := by decide +kernel
theorem dX7_go_0 : decode cX7_go 0 = .ok (.aload_n 0, 1) := by decide +kernel
theorem dX7_go_1 : decode cX7_go 1 = .ok (.iload_n 1, 1) := by decide +kernel
theorem dX7_go_2 : decode cX7_go 2 = .ok (.iconst 1, 1) := by decide +kernel
theorem dX7_go_3 : decode cX7_go 3 = .ok (.bipush 60, 2) := by decide +kernel
theorem dX7_go_5 : decode cX7_go 5 = .ok (.invokevirtual 188, 3) := by decide +kernel
theorem dX7_go_8 : decode cX7_go 8 = .ok (.istore_n 2, 1) := by decide +kernel
theorem dX7_go_9 : decode cX7_go 9 = .ok (.iload_n 2, 1) := by decide +kernel
theorem dX7_go_10 : decode cX7_go 10 = .ok (.ifCond .eq 9, 3) := by decide +kernel
theorem dX7_go_13 : decode cX7_go 13 = .ok (.aload_n 0, 1) := by decide +kernel
theorem dX7_go_14 : decode cX7_go 14 = .ok (.iload_n 2, 1) := by decide +kernel
theorem dX7_go_15 : decode cX7_go 15 = .ok (.invokevirtual 82, 3) := by decide +kernel
theorem dX7_go_18 : decode cX7_go 18 = .ok (.ireturn, 1) := by decide +kernel
theorem dX7_put_0 : decode cX7_put 0 = .ok (.aload_n 0, 1) := by decide +kernel
theorem dX7_put_1 : decode cX7_put 1 = .ok (.iload_n 1, 1) := by decide +kernel
theorem dX7_put_2 : decode cX7_put 2 = .ok (.invokevirtual 116, 3) := by decide +kernel
theorem dX7_put_5 : decode cX7_put 5 = .ok (.ifCond .ne 9, 3) := by decide +kernel
theorem dX7_put_8 : decode cX7_put 8 = .ok (.aload_n 0, 1) := by decide +kernel
theorem dX7_put_9 : decode cX7_put 9 = .ok (.iconst 1, 1) := by decide +kernel
theorem dX7_put_10 : decode cX7_put 10 = .ok (.invokevirtual 82, 3) := by decide +kernel
theorem dX7_put_13 : decode cX7_put 13 = .ok (.ireturn, 1) := by decide +kernel
theorem dX7_wind_0 : decode cX7_wind 0 = .ok (.aload_n 0, 1) := by decide +kernel
theorem dX7_wind_1 : decode cX7_wind 1 = .ok (.iload_n 1, 1) := by decide +kernel
theorem dX7_wind_2 : decode cX7_wind 2 = .ok (.invokevirtual 116, 3) := by decide +kernel
theorem dX7_wind_5 : decode cX7_wind 5 = .ok (.ifCond .ne 9, 3) := by decide +kernel
theorem dX7_wind_8 : decode cX7_wind 8 = .ok (.aload_n 0, 1) := by decide +kernel
theorem dX7_wind_9 : decode cX7_wind 9 = .ok (.iconst 1, 1) := by decide +kernel
theorem dX7_wind_10 : decode cX7_wind 10 = .ok (.invokevirtual 82, 3) := by decide +kernel
theorem dX7_wind_13 : decode cX7_wind 13 = .ok (.ireturn, 1) := by decide +kernel
theorem dX7_undo_0 : decode cX7_undo 0 = .ok (.aload_n 0, 1) := by decide +kernel
theorem dX7_undo_1 : decode cX7_undo 1 = .ok (.getfield 36, 3) := by decide +kernel
theorem dX7_undo_4 : decode cX7_undo 4 = .ok (.aload_n 0, 1) := by decide +kernel
theorem dX7_undo_5 : decode cX7_undo 5 = .ok (.getfield 19, 3) := by decide +kernel
theorem dX7_undo_8 : decode cX7_undo 8 = .ok (.invokevirtual 333, 3) := by decide +kernel
theorem dX7_undo_11 : decode cX7_undo 11 = .ok (.istore_n 1, 1) := by decide +kernel
theorem dX7_undo_12 : decode cX7_undo 12 = .ok (.aload_n 0, 1) := by decide +kernel
theorem dX7_undo_13 : decode cX7_undo 13 = .ok (.iload_n 1, 1) := by decide +kernel
theorem dX7_undo_14 : decode cX7_undo 14 = .ok (.ifCond .eq 7, 3) := by decide +kernel
theorem dX7_undo_21 : decode cX7_undo 21 = .ok (.bipush 6, 2) := by decide +kernel
theorem dX7_undo_23 : decode cX7_undo 23 = .ok (.putfield 61, 3) := by decide +kernel
theorem dX7_undo_26 : decode cX7_undo 26 = .ok (.iload_n 1, 1) := by decide +kernel
theorem dX7_undo_27 : decode cX7_undo 27 = .ok (.ireturn, 1) := by decide +kernel
theorem dX7_image_0 : decode cX7_image 0 = .ok (.aload_n 0, 1) := by decide +kernel
theorem dX7_image_1 : decode cX7_image 1 = .ok (.invokevirtual 154, 3) := by decide +kernel
theorem dX7_image_4 : decode cX7_image 4 = .ok (.ifCond .ne 9, 3) := by decide +kernel
theorem dX7_image_7 : decode cX7_image 7 = .ok (.aload_n 0, 1) := by decide +kernel
theorem dX7_image_8 : decode cX7_image 8 = .ok (.iconst 1, 1) := by decide +kernel
theorem dX7_image_9 : decode cX7_image 9 = .ok (.invokevirtual 82, 3) := by decide +kernel
theorem dX7_image_12 : decode cX7_image 12 = .ok (.ireturn, 1) := by decide +kernel
theorem dX7_back_0 : decode cX7_back 0 = .ok (.aload_n 0, 1) := by decide +kernel
theorem dX7_back_1 : decode cX7_back 1 = .ok (.getfield 36, 3) := by decide +kernel
theorem dX7_back_4 : decode cX7_back 4 = .ok (.iload_n 1, 1) := by decide +kernel
theorem dX7_back_5 : decode cX7_back 5 = .ok (.aload_n 0, 1) := by decide +kernel
theorem dX7_back_6 : decode cX7_back 6 = .ok (.getfield 19, 3) := by decide +kernel
theorem dX7_back_9 : decode cX7_back 9 = .ok (.invokevirtual 344, 3) := by decide +kernel
theorem dX7_back_12 : decode cX7_back 12 = .ok (.istore_n 2, 1) := by decide +kernel
theorem dX7_back_13 : decode cX7_back 13 = .ok (.aload_n 0, 1) := by decide +kernel
theorem dX7_back_14 : decode cX7_back 14 = .ok (.iload_n 2, 1) := by decide +kernel
theorem dX7_back_15 : decode cX7_back 15 = .ok (.ifCond .eq 7, 3) := by decide +kernel
theorem dX7_back_22 : decode cX7_back 22 = .ok (.iconst 1, 1) := by decide +kernel
theorem dX7_back_23 : decode cX7_back 23 = .ok (.putfield 61, 3) := by decide +kernel
theorem dX7_back_26 : decode cX7_back 26 = .ok (.iload_n 2, 1) := by decide +kernel
theorem dX7_back_27 : decode cX7_back 27 = .ok (.ireturn, 1) := by decide +kernel
theorem dX7_size_0 : decode cX7_size 0 = .ok (.iload_n 1, 1) := by decide +kernel
theorem dX7_size_1 : decode cX7_size 1 = .ok (.tableswitch 63 10 13 #[31, 39, 47, 55], 31) := by decide +kernel
theorem dX7_size_32 : decode cX7_size 32 = .ok (.aload_n 0, 1) := by decide +kernel
theorem dX7_size_33 : decode cX7_size 33 = .ok (.getfield 19, 3) := by decide +kernel
theorem dX7_size_36 : decode cX7_size 36 = .ok (.getfield 147, 3) := by decide +kernel
theorem dX7_size_39 : decode cX7_size 39 = .ok (.ireturn, 1) := by decide +kernel
theorem dX7_size_40 : decode cX7_size 40 = .ok (.aload_n 0, 1) := by decide +kernel
theorem dX7_size_41 : decode cX7_size 41 = .ok (.getfield 36, 3) := by decide +kernel
theorem dX7_size_44 : decode cX7_size 44 = .ok (.getfield 355, 3) := by decide +kernel
theorem dX7_size_47 : decode cX7_size 47 = .ok (.ireturn, 1) := by decide +kernel
theorem dX7_size_48 : decode cX7_size 48 = .ok (.aload_n 0, 1) := by decide +kernel
theorem dX7_size_49 : decode cX7_size 49 = .ok (.getfield 36, 3) := by decide +kernel
theorem dX7_size_52 : decode cX7_size 52 = .ok (.getfield 337, 3) := by decide +kernel
theorem dX7_size_55 : decode cX7_size 55 = .ok (.ireturn, 1) := by decide +kernel
theorem dX7_size_56 : decode cX7_size 56 = .ok (.aload_n 0, 1) := by decide +kernel
theorem dX7_size_57 : decode cX7_size 57 = .ok (.getfield 12, 3) := by decide +kernel
theorem dX7_size_60 : decode cX7_size 60 = .ok (.getfield 71, 3) := by decide +kernel
theorem dX7_size_63 : decode cX7_size 63 = .ok (.ireturn, 1) := by decide +kernel
theorem dX7_size_64 : decode cX7_size 64 = .ok (.aload_n 0, 1) := by decide +kernel
theorem dX7_size_65 : decode cX7_size 65 = .ok (.getfield 57, 3) := by decide +kernel
theorem dX7_size_68 : decode cX7_size 68 = .ok (.iload_n 1, 1) := by decide +kernel
theorem dX7_size_69 : decode cX7_size 69 = .ok (.invokevirtual 358, 3) := by decide +kernel
theorem dX7_size_72 : decode cX7_size 72 = .ok (.ireturn, 1) := by decide +kernel
theorem dX7_trouble_0 : decode cX7_trouble 0 = .ok (.aload_n 0, 1) := by decide +kernel
theorem dX7_trouble_1 : decode cX7_trouble 1 = .ok (.getfield 61, 3) := by decide +kernel
theorem dX7_trouble_4 : decode cX7_trouble 4 = .ok (.ireturn, 1) := by decide +kernel
theorem dX7_refused_0 : decode cX7_refused 0 = .ok (.aload_n 0, 1) := by decide +kernel
theorem dX7_refused_1 : decode cX7_refused 1 = .ok (.iload_n 1, 1) := by decide +kernel
theorem dX7_refused_2 : decode cX7_refused 2 = .ok (.putfield 61, 3) := by decide +kernel
theorem dX7_refused_5 : decode cX7_refused 5 = .ok (.iconst (-1), 1) := by decide +kernel
theorem dX7_refused_6 : decode cX7_refused 6 = .ok (.ireturn, 1) := by decide +kernel
theorem dX7_within_0 : decode cX7_within 0 = .ok (.iload_n 0, 1) := by decide +kernel
theorem dX7_within_1 : decode cX7_within 1 = .ok (.iload_n 1, 1) := by decide +kernel
theorem dX7_within_2 : decode cX7_within 2 = .ok (.if_icmp .lt 12, 3) := by decide +kernel
theorem dX7_within_5 : decode cX7_within 5 = .ok (.iload_n 0, 1) := by decide +kernel
theorem dX7_within_6 : decode cX7_within 6 = .ok (.iload_n 2, 1) := by decide +kernel
theorem dX7_within_7 : decode cX7_within 7 = .ok (.if_icmp .gt 7, 3) := by decide +kernel
theorem dX7_within_10 : decode cX7_within 10 = .ok (.iconst 1, 1) := by decide +kernel
theorem dX7_within_11 : decode cX7_within 11 = .ok (.goto 4, 3) := by decide +kernel
theorem dX7_within_14 : decode cX7_within 14 = .ok (.iconst 0, 1) := by decide +kernel
theorem dX7_within_15 : decode cX7_within 15 = .ok (.ireturn, 1) := by decide +kernel
theorem dX7_hasGallery_0 : decode cX7_hasGallery 0 = .ok (.aload_n 0, 1) := by decide +kernel
theorem dX7_hasGallery_1 : decode cX7_hasGallery 1 = .ok (.getfield 57, 3) := by decide +kernel
theorem dX7_hasGallery_4 : decode cX7_hasGallery 4 = .ok (.getfield 110, 3) := by decide +kernel
theorem dX7_hasGallery_7 : decode cX7_hasGallery 7 = .ok (.ifCond .le 7, 3) := by decide +kernel
theorem dX7_hasGallery_14 : decode cX7_hasGallery 14 = .ok (.iconst 0, 1) := by decide +kernel
theorem dX7_hasGallery_15 : decode cX7_hasGallery 15 = .ok (.ireturn, 1) := by decide +kernel
theorem dX7_isFigure_0 : decode cX7_isFigure 0 = .ok (.iload_n 1, 1) := by decide +kernel
theorem dX7_isFigure_1 : decode cX7_isFigure 1 = .ok (.iconst 0, 1) := by decide +kernel
theorem dX7_isFigure_2 : decode cX7_isFigure 2 = .ok (.aload_n 0, 1) := by decide +kernel
theorem dX7_isFigure_3 : decode cX7_isFigure 3 = .ok (.getfield 57, 3) := by decide +kernel
theorem dX7_isFigure_6 : decode cX7_isFigure 6 = .ok (.getfield 110, 3) := by decide +kernel
theorem dX7_isFigure_9 : decode cX7_isFigure 9 = .ok (.iconst 1, 1) := by decide +kernel
theorem dX7_isFigure_10 : decode cX7_isFigure 10 = .ok (.isub, 1) := by decide +kernel
theorem dX7_isFigure_11 : decode cX7_isFigure 11 = .ok (.invokestatic 78, 3) := by decide +kernel
theorem dX7_isFigure_14 : decode cX7_isFigure 14 = .ok (.ireturn, 1) := by decide +kernel
theorem dX7_isPlace_0 : decode cX7_isPlace 0 = .ok (.iload_n 1, 1) := by decide +kernel
theorem dX7_isPlace_1 : decode cX7_isPlace 1 = .ok (.iconst 0, 1) := by decide +kernel
theorem dX7_isPlace_2 : decode cX7_isPlace 2 = .ok (.aload_n 0, 1) := by decide +kernel
theorem dX7_isPlace_3 : decode cX7_isPlace 3 = .ok (.getfield 57, 3) := by decide +kernel
theorem dX7_isPlace_6 : decode cX7_isPlace 6 = .ok (.getfield 110, 3) := by decide +kernel
theorem dX7_isPlace_9 : decode cX7_isPlace 9 = .ok (.iconst 1, 1) := by decide +kernel
theorem dX7_isPlace_10 : decode cX7_isPlace 10 = .ok (.isub, 1) := by decide +kernel
theorem dX7_isPlace_11 : decode cX7_isPlace 11 = .ok (.invokestatic 78, 3) := by decide +kernel
theorem dX7_isPlace_14 : decode cX7_isPlace 14 = .ok (.ireturn, 1) := by decide +kernel
theorem dX7_isWatcher_0 : decode cX7_isWatcher 0 = .ok (.iload_n 1, 1) := by decide +kernel
theorem dX7_isWatcher_1 : decode cX7_isWatcher 1 = .ok (.iconst 0, 1) := by decide +kernel
theorem dX7_isWatcher_2 : decode cX7_isWatcher 2 = .ok (.aload_n 0, 1) := by decide +kernel
theorem dX7_isWatcher_3 : decode cX7_isWatcher 3 = .ok (.getfield 57, 3) := by decide +kernel
theorem dX7_isWatcher_6 : decode cX7_isWatcher 6 = .ok (.getfield 138, 3) := by decide +kernel
theorem dX7_isWatcher_9 : decode cX7_isWatcher 9 = .ok (.getfield 361, 3) := by decide +kernel
theorem dX7_isWatcher_12 : decode cX7_isWatcher 12 = .ok (.iconst 1, 1) := by decide +kernel
theorem dX7_isWatcher_13 : decode cX7_isWatcher 13 = .ok (.isub, 1) := by decide +kernel
theorem dX7_isWatcher_14 : decode cX7_isWatcher 14 = .ok (.invokestatic 78, 3) := by decide +kernel
theorem dX7_isWatcher_17 : decode cX7_isWatcher 17 = .ok (.ireturn, 1) := by decide +kernel
theorem dX7_troubleOfNumber_0 : decode cX7_troubleOfNumber 0 = .ok (.aload_n 0, 1) := by decide +kernel
theorem dX7_troubleOfNumber_1 : decode cX7_troubleOfNumber 1 = .ok (.invokevirtual 154, 3) := by decide +kernel
theorem dX7_troubleOfNumber_4 : decode cX7_troubleOfNumber 4 = .ok (.ifCond .ne 5, 3) := by decide +kernel
theorem dX7_troubleOfNumber_7 : decode cX7_troubleOfNumber 7 = .ok (.iconst 1, 1) := by decide +kernel
theorem dX7_troubleOfNumber_8 : decode cX7_troubleOfNumber 8 = .ok (.ireturn, 1) := by decide +kernel
theorem dX7_troubleOfFigureWithin_0 : decode cX7_troubleOfFigureWithin 0 = .ok (.aload_n 0, 1) := by decide +kernel
theorem dX7_troubleOfFigureWithin_1 : decode cX7_troubleOfFigureWithin 1 = .ok (.iload_n 1, 1) := by decide +kernel
theorem dX7_troubleOfFigureWithin_2 : decode cX7_troubleOfFigureWithin 2 = .ok (.invokevirtual 116, 3) := by decide +kernel
theorem dX7_troubleOfFigureWithin_5 : decode cX7_troubleOfFigureWithin 5 = .ok (.ifCond .ne 5, 3) := by decide +kernel
theorem dX7_troubleOfFigureWithin_8 : decode cX7_troubleOfFigureWithin 8 = .ok (.iconst 1, 1) := by decide +kernel
theorem dX7_troubleOfFigureWithin_9 : decode cX7_troubleOfFigureWithin 9 = .ok (.ireturn, 1) := by decide +kernel
