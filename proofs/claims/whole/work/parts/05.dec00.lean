theorem d_S_init_0 : decode b_S_init 0 = .ok (.aload_n 0, 1) := by decide +kernel
theorem d_S_init_1 : decode b_S_init 1 = .ok (.invokespecial 1, 3) := by decide +kernel
theorem d_S_init_4 : decode b_S_init 4 = .ok (.aload_n 0, 1) := by decide +kernel
theorem d_S_init_5 : decode b_S_init 5 = .ok (.sipush 1024, 3) := by decide +kernel
theorem d_S_init_8 : decode b_S_init 8 = .ok (.invokevirtual 9, 3) := by decide +kernel
theorem d_S_init_11 : decode b_S_init 11 = .ok (.return_, 1) := by decide +kernel
theorem d_S_space_0 : decode b_S_space 0 = .ok (.iload_n 1, 1) := by decide +kernel
theorem d_S_space_1 : decode b_S_space 1 = .ok (.bipush 16, 2) := by decide +kernel
theorem d_S_space_3 : decode b_S_space 3 = .ok (.if_icmp .lt 10, 3) := by decide +kernel
theorem d_S_space_6 : decode b_S_space 6 = .ok (.iload_n 1, 1) := by decide +kernel
theorem d_S_space_7 : decode b_S_space 7 = .ok (.sipush 16384, 3) := by decide +kernel
theorem d_S_space_10 : decode b_S_space 10 = .ok (.if_icmp .le 13, 3) := by decide +kernel
theorem d_S_space_13 : decode b_S_space 13 = .ok (.new 13, 3) := by decide +kernel
theorem d_S_space_16 : decode b_S_space 16 = .ok (.dup, 1) := by decide +kernel
theorem d_S_space_17 : decode b_S_space 17 = .ok (.ldc 15, 2) := by decide +kernel
theorem d_S_space_19 : decode b_S_space 19 = .ok (.invokespecial 17, 3) := by decide +kernel
theorem d_S_space_22 : decode b_S_space 22 = .ok (.athrow, 1) := by decide +kernel
theorem d_S_space_23 : decode b_S_space 23 = .ok (.aload_n 0, 1) := by decide +kernel
theorem d_S_space_24 : decode b_S_space 24 = .ok (.getfield 20, 3) := by decide +kernel
theorem d_S_space_27 : decode b_S_space 27 = .ok (.istore_n 2, 1) := by decide +kernel
theorem d_S_space_28 : decode b_S_space 28 = .ok (.aload_n 0, 1) := by decide +kernel
theorem d_S_space_29 : decode b_S_space 29 = .ok (.iload_n 1, 1) := by decide +kernel
theorem d_S_space_30 : decode b_S_space 30 = .ok (.invokevirtual 9, 3) := by decide +kernel
theorem d_S_space_33 : decode b_S_space 33 = .ok (.iload_n 2, 1) := by decide +kernel
theorem d_S_space_34 : decode b_S_space 34 = .ok (.ireturn, 1) := by decide +kernel
theorem d_S_take_0 : decode b_S_take 0 = .ok (.iload_n 1, 1) := by decide +kernel
theorem d_S_take_1 : decode b_S_take 1 = .ok (.iconst 3, 1) := by decide +kernel
theorem d_S_take_2 : decode b_S_take 2 = .ok (.if_icmp .lt 10, 3) := by decide +kernel
theorem d_S_take_5 : decode b_S_take 5 = .ok (.iload_n 1, 1) := by decide +kernel
theorem d_S_take_6 : decode b_S_take 6 = .ok (.sipush 2000, 3) := by decide +kernel
theorem d_S_take_9 : decode b_S_take 9 = .ok (.if_icmp .le 13, 3) := by decide +kernel
theorem d_S_take_12 : decode b_S_take 12 = .ok (.new 13, 3) := by decide +kernel
theorem d_S_take_15 : decode b_S_take 15 = .ok (.dup, 1) := by decide +kernel
theorem d_S_take_16 : decode b_S_take 16 = .ok (.ldc 24, 2) := by decide +kernel
theorem d_S_take_18 : decode b_S_take 18 = .ok (.invokespecial 17, 3) := by decide +kernel
theorem d_S_take_21 : decode b_S_take 21 = .ok (.athrow, 1) := by decide +kernel
theorem d_S_take_22 : decode b_S_take 22 = .ok (.aload_n 0, 1) := by decide +kernel
theorem d_S_take_23 : decode b_S_take 23 = .ok (.iload_n 1, 1) := by decide +kernel
theorem d_S_take_24 : decode b_S_take 24 = .ok (.invokevirtual 26, 3) := by decide +kernel
theorem d_S_take_27 : decode b_S_take 27 = .ok (.astore_n 2, 1) := by decide +kernel
theorem d_S_take_28 : decode b_S_take 28 = .ok (.aload_n 2, 1) := by decide +kernel
theorem d_S_take_29 : decode b_S_take 29 = .ok (.ifnonnull 15, 3) := by decide +kernel
theorem d_S_take_32 : decode b_S_take 32 = .ok (.aload_n 0, 1) := by decide +kernel
theorem d_S_take_33 : decode b_S_take 33 = .ok (.dup, 1) := by decide +kernel
theorem d_S_take_34 : decode b_S_take 34 = .ok (.getfield 30, 3) := by decide +kernel
theorem d_S_take_37 : decode b_S_take 37 = .ok (.iconst 1, 1) := by decide +kernel
theorem d_S_take_38 : decode b_S_take 38 = .ok (.iadd, 1) := by decide +kernel
theorem d_S_take_39 : decode b_S_take 39 = .ok (.putfield 30, 3) := by decide +kernel
theorem d_S_take_42 : decode b_S_take 42 = .ok (.iconst 0, 1) := by decide +kernel
theorem d_S_take_43 : decode b_S_take 43 = .ok (.ireturn, 1) := by decide +kernel
theorem d_S_take_44 : decode b_S_take 44 = .ok (.aload_n 0, 1) := by decide +kernel
theorem d_S_take_45 : decode b_S_take 45 = .ok (.aload_n 2, 1) := by decide +kernel
theorem d_S_take_46 : decode b_S_take 46 = .ok (.iload_n 1, 1) := by decide +kernel
theorem d_S_take_47 : decode b_S_take 47 = .ok (.invokevirtual 33, 3) := by decide +kernel
theorem d_S_take_50 : decode b_S_take 50 = .ok (.aload_n 2, 1) := by decide +kernel
theorem d_S_take_51 : decode b_S_take 51 = .ok (.iconst 1, 1) := by decide +kernel
theorem d_S_take_52 : decode b_S_take 52 = .ok (.putfield 37, 3) := by decide +kernel
theorem d_S_take_55 : decode b_S_take 55 = .ok (.aload_n 2, 1) := by decide +kernel
theorem d_S_take_56 : decode b_S_take 56 = .ok (.aload_n 0, 1) := by decide +kernel
theorem d_S_take_57 : decode b_S_take 57 = .ok (.getfield 43, 3) := by decide +kernel
theorem d_S_take_60 : decode b_S_take 60 = .ok (.ifnull 21, 3) := by decide +kernel
theorem d_S_take_63 : decode b_S_take 63 = .ok (.aload_n 2, 1) := by decide +kernel
theorem d_S_take_64 : decode b_S_take 64 = .ok (.getfield 47, 3) := by decide +kernel
theorem d_S_take_67 : decode b_S_take 67 = .ok (.aload_n 0, 1) := by decide +kernel
theorem d_S_take_68 : decode b_S_take 68 = .ok (.getfield 43, 3) := by decide +kernel
theorem d_S_take_71 : decode b_S_take 71 = .ok (.getfield 47, 3) := by decide +kernel
theorem d_S_take_74 : decode b_S_take 74 = .ok (.if_icmp .lt 7, 3) := by decide +kernel
theorem d_S_take_77 : decode b_S_take 77 = .ok (.iconst 1, 1) := by decide +kernel
theorem d_S_take_78 : decode b_S_take 78 = .ok (.goto 4, 3) := by decide +kernel
theorem d_S_take_81 : decode b_S_take 81 = .ok (.iconst 0, 1) := by decide +kernel
theorem d_S_take_82 : decode b_S_take 82 = .ok (.putfield 50, 3) := by decide +kernel
theorem d_S_take_85 : decode b_S_take 85 = .ok (.aload_n 2, 1) := by decide +kernel
theorem d_S_take_86 : decode b_S_take 86 = .ok (.getfield 47, 3) := by decide +kernel
theorem d_S_take_89 : decode b_S_take 89 = .ok (.ireturn, 1) := by decide +kernel
theorem d_S_give_0 : decode b_S_give 0 = .ok (.aload_n 0, 1) := by decide +kernel
theorem d_S_give_1 : decode b_S_give 1 = .ok (.iload_n 1, 1) := by decide +kernel
theorem d_S_give_2 : decode b_S_give 2 = .ok (.invokevirtual 53, 3) := by decide +kernel
theorem d_S_give_5 : decode b_S_give 5 = .ok (.astore_n 2, 1) := by decide +kernel
theorem d_S_give_6 : decode b_S_give 6 = .ok (.aload_n 0, 1) := by decide +kernel
theorem d_S_give_7 : decode b_S_give 7 = .ok (.aload_n 2, 1) := by decide +kernel
theorem d_S_give_8 : decode b_S_give 8 = .ok (.invokevirtual 56, 3) := by decide +kernel
theorem d_S_give_11 : decode b_S_give 11 = .ok (.aload_n 2, 1) := by decide +kernel
theorem d_S_give_12 : decode b_S_give 12 = .ok (.getfield 60, 3) := by decide +kernel
theorem d_S_give_15 : decode b_S_give 15 = .ok (.ireturn, 1) := by decide +kernel
theorem d_S_mark_0 : decode b_S_mark 0 = .ok (.aload_n 0, 1) := by decide +kernel
theorem d_S_mark_1 : decode b_S_mark 1 = .ok (.iload_n 1, 1) := by decide +kernel
theorem d_S_mark_2 : decode b_S_mark 2 = .ok (.invokevirtual 53, 3) := by decide +kernel
theorem d_S_mark_5 : decode b_S_mark 5 = .ok (.astore_n 2, 1) := by decide +kernel
theorem d_S_mark_6 : decode b_S_mark 6 = .ok (.aload_n 0, 1) := by decide +kernel
theorem d_S_mark_7 : decode b_S_mark 7 = .ok (.invokevirtual 63, 3) := by decide +kernel
theorem d_S_mark_10 : decode b_S_mark 10 = .ok (.aload_n 2, 1) := by decide +kernel
theorem d_S_mark_11 : decode b_S_mark 11 = .ok (.getfield 50, 3) := by decide +kernel
theorem d_S_mark_14 : decode b_S_mark 14 = .ok (.ifCond .ne 7, 3) := by decide +kernel
theorem d_S_mark_17 : decode b_S_mark 17 = .ok (.iconst 1, 1) := by decide +kernel
theorem d_S_mark_18 : decode b_S_mark 18 = .ok (.goto 4, 3) := by decide +kernel
theorem d_S_mark_21 : decode b_S_mark 21 = .ok (.iconst 0, 1) := by decide +kernel
theorem d_S_mark_22 : decode b_S_mark 22 = .ok (.istore_n 3, 1) := by decide +kernel
theorem d_S_mark_23 : decode b_S_mark 23 = .ok (.aload_n 2, 1) := by decide +kernel
theorem d_S_mark_24 : decode b_S_mark 24 = .ok (.iconst 1, 1) := by decide +kernel
theorem d_S_mark_25 : decode b_S_mark 25 = .ok (.putfield 50, 3) := by decide +kernel
theorem d_S_mark_28 : decode b_S_mark 28 = .ok (.iload_n 3, 1) := by decide +kernel
theorem d_S_mark_29 : decode b_S_mark 29 = .ok (.ireturn, 1) := by decide +kernel
theorem d_S_unmark_0 : decode b_S_unmark 0 = .ok (.aload_n 0, 1) := by decide +kernel
theorem d_S_unmark_1 : decode b_S_unmark 1 = .ok (.invokevirtual 63, 3) := by decide +kernel
theorem d_S_unmark_4 : decode b_S_unmark 4 = .ok (.iconst 0, 1) := by decide +kernel
theorem d_S_unmark_5 : decode b_S_unmark 5 = .ok (.istore_n 1, 1) := by decide +kernel
theorem d_S_unmark_6 : decode b_S_unmark 6 = .ok (.aload_n 0, 1) := by decide +kernel
theorem d_S_unmark_7 : decode b_S_unmark 7 = .ok (.getfield 66, 3) := by decide +kernel
theorem d_S_unmark_10 : decode b_S_unmark 10 = .ok (.astore_n 2, 1) := by decide +kernel
theorem d_S_unmark_11 : decode b_S_unmark 11 = .ok (.aload_n 2, 1) := by decide +kernel
theorem d_S_unmark_12 : decode b_S_unmark 12 = .ok (.ifnull 26, 3) := by decide +kernel
theorem d_S_unmark_15 : decode b_S_unmark 15 = .ok (.aload_n 2, 1) := by decide +kernel
theorem d_S_unmark_16 : decode b_S_unmark 16 = .ok (.getfield 50, 3) := by decide +kernel
theorem d_S_unmark_19 : decode b_S_unmark 19 = .ok (.ifCond .eq 11, 3) := by decide +kernel
theorem d_S_unmark_22 : decode b_S_unmark 22 = .ok (.aload_n 2, 1) := by decide +kernel
theorem d_S_unmark_23 : decode b_S_unmark 23 = .ok (.iconst 0, 1) := by decide +kernel
theorem d_S_unmark_24 : decode b_S_unmark 24 = .ok (.putfield 50, 3) := by decide +kernel
theorem d_S_unmark_27 : decode b_S_unmark 27 = .ok (.iinc 1 1, 3) := by decide +kernel
theorem d_S_unmark_30 : decode b_S_unmark 30 = .ok (.aload_n 2, 1) := by decide +kernel
theorem d_S_unmark_31 : decode b_S_unmark 31 = .ok (.getfield 69, 3) := by decide +kernel
theorem d_S_unmark_34 : decode b_S_unmark 34 = .ok (.astore_n 2, 1) := by decide +kernel
theorem d_S_unmark_35 : decode b_S_unmark 35 = .ok (.goto (-24), 3) := by decide +kernel
theorem d_S_unmark_38 : decode b_S_unmark 38 = .ok (.iload_n 1, 1) := by decide +kernel
theorem d_S_unmark_39 : decode b_S_unmark 39 = .ok (.ireturn, 1) := by decide +kernel
theorem d_S_begin_0 : decode b_S_begin 0 = .ok (.aload_n 0, 1) := by decide +kernel
theorem d_S_begin_1 : decode b_S_begin 1 = .ok (.invokevirtual 63, 3) := by decide +kernel
theorem d_S_begin_4 : decode b_S_begin 4 = .ok (.aload_n 0, 1) := by decide +kernel
theorem d_S_begin_5 : decode b_S_begin 5 = .ok (.aload_n 0, 1) := by decide +kernel
theorem d_S_begin_6 : decode b_S_begin 6 = .ok (.getfield 66, 3) := by decide +kernel
theorem d_S_begin_9 : decode b_S_begin 9 = .ok (.putfield 43, 3) := by decide +kernel
theorem d_S_begin_12 : decode b_S_begin 12 = .ok (.return_, 1) := by decide +kernel
theorem d_S_sweep_0 : decode b_S_sweep 0 = .ok (.iload_n 1, 1) := by decide +kernel
theorem d_S_sweep_1 : decode b_S_sweep 1 = .ok (.ifCond .lt 10, 3) := by decide +kernel
theorem d_S_sweep_4 : decode b_S_sweep 4 = .ok (.iload_n 1, 1) := by decide +kernel
theorem d_S_sweep_5 : decode b_S_sweep 5 = .ok (.sipush 5000, 3) := by decide +kernel
theorem d_S_sweep_8 : decode b_S_sweep 8 = .ok (.if_icmp .le 13, 3) := by decide +kernel
theorem d_S_sweep_11 : decode b_S_sweep 11 = .ok (.new 13, 3) := by decide +kernel
theorem d_S_sweep_14 : decode b_S_sweep 14 = .ok (.dup, 1) := by decide +kernel
theorem d_S_sweep_15 : decode b_S_sweep 15 = .ok (.ldc 72, 2) := by decide +kernel
theorem d_S_sweep_17 : decode b_S_sweep 17 = .ok (.invokespecial 17, 3) := by decide +kernel
theorem d_S_sweep_20 : decode b_S_sweep 20 = .ok (.athrow, 1) := by decide +kernel
theorem d_S_sweep_21 : decode b_S_sweep 21 = .ok (.iconst 0, 1) := by decide +kernel
theorem d_S_sweep_22 : decode b_S_sweep 22 = .ok (.istore_n 2, 1) := by decide +kernel
theorem d_S_sweep_23 : decode b_S_sweep 23 = .ok (.iload_n 2, 1) := by decide +kernel
theorem d_S_sweep_24 : decode b_S_sweep 24 = .ok (.iload_n 1, 1) := by decide +kernel
theorem d_S_sweep_25 : decode b_S_sweep 25 = .ok (.if_icmp .ge 24, 3) := by decide +kernel
theorem d_S_sweep_28 : decode b_S_sweep 28 = .ok (.aload_n 0, 1) := by decide +kernel
theorem d_S_sweep_29 : decode b_S_sweep 29 = .ok (.getfield 43, 3) := by decide +kernel
theorem d_S_sweep_32 : decode b_S_sweep 32 = .ok (.ifnull 17, 3) := by decide +kernel
theorem d_S_sweep_35 : decode b_S_sweep 35 = .ok (.aload_n 0, 1) := by decide +kernel
theorem d_S_sweep_36 : decode b_S_sweep 36 = .ok (.aload_n 0, 1) := by decide +kernel
theorem d_S_sweep_37 : decode b_S_sweep 37 = .ok (.getfield 43, 3) := by decide +kernel
theorem d_S_sweep_40 : decode b_S_sweep 40 = .ok (.invokevirtual 74, 3) := by decide +kernel
theorem d_S_sweep_43 : decode b_S_sweep 43 = .ok (.iinc 2 1, 3) := by decide +kernel
theorem d_S_sweep_46 : decode b_S_sweep 46 = .ok (.goto (-23), 3) := by decide +kernel
theorem d_S_sweep_49 : decode b_S_sweep 49 = .ok (.iload_n 2, 1) := by decide +kernel
theorem d_S_sweep_50 : decode b_S_sweep 50 = .ok (.ireturn, 1) := by decide +kernel
theorem d_S_hand_0 : decode b_S_hand 0 = .ok (.aload_n 0, 1) := by decide +kernel
theorem d_S_hand_1 : decode b_S_hand 1 = .ok (.getfield 43, 3) := by decide +kernel
theorem d_S_hand_4 : decode b_S_hand 4 = .ok (.ifnonnull 7, 3) := by decide +kernel
theorem d_S_hand_7 : decode b_S_hand 7 = .ok (.iconst 0, 1) := by decide +kernel
theorem d_S_hand_8 : decode b_S_hand 8 = .ok (.goto 10, 3) := by decide +kernel
theorem d_S_hand_11 : decode b_S_hand 11 = .ok (.aload_n 0, 1) := by decide +kernel
theorem d_S_hand_12 : decode b_S_hand 12 = .ok (.getfield 43, 3) := by decide +kernel
theorem d_S_hand_15 : decode b_S_hand 15 = .ok (.getfield 47, 3) := by decide +kernel
theorem d_S_hand_18 : decode b_S_hand 18 = .ok (.ireturn, 1) := by decide +kernel
theorem d_S_piece_0 : decode b_S_piece 0 = .ok (.aload_n 0, 1) := by decide +kernel
theorem d_S_piece_1 : decode b_S_piece 1 = .ok (.iload_n 1, 1) := by decide +kernel
theorem d_S_piece_2 : decode b_S_piece 2 = .ok (.invokevirtual 77, 3) := by decide +kernel
theorem d_S_piece_5 : decode b_S_piece 5 = .ok (.astore_n 2, 1) := by decide +kernel
theorem d_S_piece_6 : decode b_S_piece 6 = .ok (.aload_n 2, 1) := by decide +kernel
theorem d_S_piece_7 : decode b_S_piece 7 = .ok (.ifnonnull 5, 3) := by decide +kernel
theorem d_S_piece_10 : decode b_S_piece 10 = .ok (.iconst 0, 1) := by decide +kernel
theorem d_S_piece_11 : decode b_S_piece 11 = .ok (.ireturn, 1) := by decide +kernel
theorem d_S_piece_12 : decode b_S_piece 12 = .ok (.aload_n 2, 1) := by decide +kernel
theorem d_S_piece_13 : decode b_S_piece 13 = .ok (.getfield 37, 3) := by decide +kernel
theorem d_S_piece_16 : decode b_S_piece 16 = .ok (.ifCond .eq 10, 3) := by decide +kernel
theorem d_S_piece_19 : decode b_S_piece 19 = .ok (.aload_n 2, 1) := by decide +kernel
theorem d_S_piece_20 : decode b_S_piece 20 = .ok (.getfield 60, 3) := by decide +kernel
theorem d_S_piece_23 : decode b_S_piece 23 = .ok (.goto 8, 3) := by decide +kernel
theorem d_S_piece_26 : decode b_S_piece 26 = .ok (.aload_n 2, 1) := by decide +kernel
theorem d_S_piece_27 : decode b_S_piece 27 = .ok (.getfield 60, 3) := by decide +kernel
theorem d_S_piece_30 : decode b_S_piece 30 = .ok (.ineg, 1) := by decide +kernel
theorem d_S_piece_31 : decode b_S_piece 31 = .ok (.ireturn, 1) := by decide +kernel
theorem d_S_marked_0 : decode b_S_marked 0 = .ok (.aload_n 0, 1) := by decide +kernel
theorem d_S_marked_1 : decode b_S_marked 1 = .ok (.iload_n 1, 1) := by decide +kernel
theorem d_S_marked_2 : decode b_S_marked 2 = .ok (.invokevirtual 77, 3) := by decide +kernel
theorem d_S_marked_5 : decode b_S_marked 5 = .ok (.astore_n 2, 1) := by decide +kernel
theorem d_S_marked_6 : decode b_S_marked 6 = .ok (.aload_n 2, 1) := by decide +kernel
theorem d_S_marked_7 : decode b_S_marked 7 = .ok (.ifnull 14, 3) := by decide +kernel
theorem d_S_marked_10 : decode b_S_marked 10 = .ok (.aload_n 2, 1) := by decide +kernel
theorem d_S_marked_11 : decode b_S_marked 11 = .ok (.getfield 50, 3) := by decide +kernel
theorem d_S_marked_14 : decode b_S_marked 14 = .ok (.ifCond .eq 7, 3) := by decide +kernel
theorem d_S_marked_17 : decode b_S_marked 17 = .ok (.iconst 1, 1) := by decide +kernel
theorem d_S_marked_18 : decode b_S_marked 18 = .ok (.goto 4, 3) := by decide +kernel
theorem d_S_marked_21 : decode b_S_marked 21 = .ok (.iconst 0, 1) := by decide +kernel
theorem d_S_marked_22 : decode b_S_marked 22 = .ok (.ireturn, 1) := by decide +kernel
theorem d_S_count_0 : decode b_S_count 0 = .ok (.iload_n 1, 1) := by decide +kernel
theorem d_S_count_1 : decode b_S_count 1 = .ok (.tableswitch 90 0 10 #[59, 59, 59, 59, 59, 65, 70, 75, 59, 80, 85], 59) := by decide +kernel
theorem d_S_count_60 : decode b_S_count 60 = .ok (.aload_n 0, 1) := by decide +kernel
theorem d_S_count_61 : decode b_S_count 61 = .ok (.iload_n 1, 1) := by decide +kernel
theorem d_S_count_62 : decode b_S_count 62 = .ok (.invokevirtual 80, 3) := by decide +kernel
theorem d_S_count_65 : decode b_S_count 65 = .ok (.ireturn, 1) := by decide +kernel
theorem d_S_count_66 : decode b_S_count 66 = .ok (.aload_n 0, 1) := by decide +kernel
theorem d_S_count_67 : decode b_S_count 67 = .ok (.invokevirtual 84, 3) := by decide +kernel
theorem d_S_count_70 : decode b_S_count 70 = .ok (.ireturn, 1) := by decide +kernel
theorem d_S_count_71 : decode b_S_count 71 = .ok (.aload_n 0, 1) := by decide +kernel
theorem d_S_count_72 : decode b_S_count 72 = .ok (.getfield 30, 3) := by decide +kernel
theorem d_S_count_75 : decode b_S_count 75 = .ok (.ireturn, 1) := by decide +kernel
theorem d_S_count_76 : decode b_S_count 76 = .ok (.aload_n 0, 1) := by decide +kernel
theorem d_S_count_77 : decode b_S_count 77 = .ok (.getfield 20, 3) := by decide +kernel
theorem d_S_count_80 : decode b_S_count 80 = .ok (.ireturn, 1) := by decide +kernel
theorem d_S_count_81 : decode b_S_count 81 = .ok (.aload_n 0, 1) := by decide +kernel
theorem d_S_count_82 : decode b_S_count 82 = .ok (.getfield 88, 3) := by decide +kernel
theorem d_S_count_85 : decode b_S_count 85 = .ok (.ireturn, 1) := by decide +kernel
theorem d_S_count_86 : decode b_S_count 86 = .ok (.aload_n 0, 1) := by decide +kernel
theorem d_S_count_87 : decode b_S_count 87 = .ok (.getfield 91, 3) := by decide +kernel
theorem d_S_count_90 : decode b_S_count 90 = .ok (.ireturn, 1) := by decide +kernel
theorem d_S_count_91 : decode b_S_count 91 = .ok (.new 13, 3) := by decide +kernel
theorem d_S_count_94 : decode b_S_count 94 = .ok (.dup, 1) := by decide +kernel
theorem d_S_count_95 : decode b_S_count 95 = .ok (.ldc 94, 2) := by decide +kernel
theorem d_S_count_97 : decode b_S_count 97 = .ok (.invokespecial 17, 3) := by decide +kernel
theorem d_S_count_100 : decode b_S_count 100 = .ok (.athrow, 1) := by decide +kernel
theorem d_S_faults_0 : decode b_S_faults 0 = .ok (.iconst 0, 1) := by decide +kernel
theorem d_S_faults_1 : decode b_S_faults 1 = .ok (.istore_n 1, 1) := by decide +kernel
theorem d_S_faults_2 : decode b_S_faults 2 = .ok (.iconst 1, 1) := by decide +kernel
theorem d_S_faults_3 : decode b_S_faults 3 = .ok (.istore_n 2, 1) := by decide +kernel
theorem d_S_faults_4 : decode b_S_faults 4 = .ok (.aload_n 0, 1) := by decide +kernel
theorem d_S_faults_5 : decode b_S_faults 5 = .ok (.getfield 43, 3) := by decide +kernel
theorem d_S_faults_8 : decode b_S_faults 8 = .ok (.ifnonnull 7, 3) := by decide +kernel
theorem d_S_faults_11 : decode b_S_faults 11 = .ok (.iconst 1, 1) := by decide +kernel
theorem d_S_faults_12 : decode b_S_faults 12 = .ok (.goto 4, 3) := by decide +kernel
theorem d_S_faults_15 : decode b_S_faults 15 = .ok (.iconst 0, 1) := by decide +kernel
theorem d_S_faults_16 : decode b_S_faults 16 = .ok (.istore_n 3, 1) := by decide +kernel
theorem d_S_faults_17 : decode b_S_faults 17 = .ok (.aload_n 0, 1) := by decide +kernel
theorem d_S_faults_18 : decode b_S_faults 18 = .ok (.getfield 66, 3) := by decide +kernel
theorem d_S_faults_21 : decode b_S_faults 21 = .ok (.astore 4, 2) := by decide +kernel
theorem d_S_faults_23 : decode b_S_faults 23 = .ok (.aload 4, 2) := by decide +kernel
theorem d_S_faults_25 : decode b_S_faults 25 = .ok (.ifnull 106, 3) := by decide +kernel
theorem d_S_faults_28 : decode b_S_faults 28 = .ok (.iload_n 3, 1) := by decide +kernel
theorem d_S_faults_29 : decode b_S_faults 29 = .ok (.ifCond .ne 12, 3) := by decide +kernel
theorem d_S_faults_32 : decode b_S_faults 32 = .ok (.aload 4, 2) := by decide +kernel
theorem d_S_faults_34 : decode b_S_faults 34 = .ok (.aload_n 0, 1) := by decide +kernel
theorem d_S_faults_35 : decode b_S_faults 35 = .ok (.getfield 43, 3) := by decide +kernel
theorem d_S_faults_38 : decode b_S_faults 38 = .ok (.if_acmp .ne 7, 3) := by decide +kernel
theorem d_S_faults_41 : decode b_S_faults 41 = .ok (.iconst 1, 1) := by decide +kernel
theorem d_S_faults_42 : decode b_S_faults 42 = .ok (.goto 4, 3) := by decide +kernel
theorem d_S_faults_45 : decode b_S_faults 45 = .ok (.iconst 0, 1) := by decide +kernel
theorem d_S_faults_46 : decode b_S_faults 46 = .ok (.istore_n 3, 1) := by decide +kernel
theorem d_S_faults_47 : decode b_S_faults 47 = .ok (.iload_n 1, 1) := by decide +kernel
theorem d_S_faults_48 : decode b_S_faults 48 = .ok (.aload 4, 2) := by decide +kernel
theorem d_S_faults_50 : decode b_S_faults 50 = .ok (.getfield 47, 3) := by decide +kernel
theorem d_S_faults_53 : decode b_S_faults 53 = .ok (.iload_n 2, 1) := by decide +kernel
theorem d_S_faults_54 : decode b_S_faults 54 = .ok (.if_icmp .ne 7, 3) := by decide +kernel
theorem d_S_faults_57 : decode b_S_faults 57 = .ok (.iconst 0, 1) := by decide +kernel
theorem d_S_faults_58 : decode b_S_faults 58 = .ok (.goto 4, 3) := by decide +kernel
theorem d_S_faults_61 : decode b_S_faults 61 = .ok (.iconst 1, 1) := by decide +kernel
theorem d_S_faults_62 : decode b_S_faults 62 = .ok (.iadd, 1) := by decide +kernel
theorem d_S_faults_63 : decode b_S_faults 63 = .ok (.istore_n 1, 1) := by decide +kernel
theorem d_S_faults_64 : decode b_S_faults 64 = .ok (.iload_n 1, 1) := by decide +kernel
theorem d_S_faults_65 : decode b_S_faults 65 = .ok (.aload 4, 2) := by decide +kernel
theorem d_S_faults_67 : decode b_S_faults 67 = .ok (.getfield 60, 3) := by decide +kernel
theorem d_S_faults_70 : decode b_S_faults 70 = .ok (.iconst 1, 1) := by decide +kernel
theorem d_S_faults_71 : decode b_S_faults 71 = .ok (.if_icmp .lt 7, 3) := by decide +kernel
theorem d_S_faults_74 : decode b_S_faults 74 = .ok (.iconst 0, 1) := by decide +kernel
theorem d_S_faults_75 : decode b_S_faults 75 = .ok (.goto 4, 3) := by decide +kernel
theorem d_S_faults_78 : decode b_S_faults 78 = .ok (.iconst 1, 1) := by decide +kernel
theorem d_S_faults_79 : decode b_S_faults 79 = .ok (.iadd, 1) := by decide +kernel
theorem d_S_faults_80 : decode b_S_faults 80 = .ok (.istore_n 1, 1) := by decide +kernel
theorem d_S_faults_81 : decode b_S_faults 81 = .ok (.iload_n 1, 1) := by decide +kernel
theorem d_S_faults_82 : decode b_S_faults 82 = .ok (.aload 4, 2) := by decide +kernel
theorem d_S_faults_84 : decode b_S_faults 84 = .ok (.iload_n 3, 1) := by decide +kernel
theorem d_S_faults_85 : decode b_S_faults 85 = .ok (.invokestatic 96, 3) := by decide +kernel
theorem d_S_faults_88 : decode b_S_faults 88 = .ok (.ifCond .eq 7, 3) := by decide +kernel
theorem d_S_faults_91 : decode b_S_faults 91 = .ok (.iconst 0, 1) := by decide +kernel
theorem d_S_faults_92 : decode b_S_faults 92 = .ok (.goto 4, 3) := by decide +kernel
theorem d_S_faults_95 : decode b_S_faults 95 = .ok (.iconst 1, 1) := by decide +kernel
theorem d_S_faults_96 : decode b_S_faults 96 = .ok (.iadd, 1) := by decide +kernel
theorem d_S_faults_97 : decode b_S_faults 97 = .ok (.istore_n 1, 1) := by decide +kernel
theorem d_S_faults_98 : decode b_S_faults 98 = .ok (.iload_n 1, 1) := by decide +kernel
theorem d_S_faults_99 : decode b_S_faults 99 = .ok (.aload_n 0, 1) := by decide +kernel
theorem d_S_faults_100 : decode b_S_faults 100 = .ok (.aload 4, 2) := by decide +kernel
theorem d_S_faults_102 : decode b_S_faults 102 = .ok (.invokevirtual 100, 3) := by decide +kernel
theorem d_S_faults_105 : decode b_S_faults 105 = .ok (.ifCond .eq 7, 3) := by decide +kernel
theorem d_S_faults_108 : decode b_S_faults 108 = .ok (.iconst 0, 1) := by decide +kernel
theorem d_S_faults_109 : decode b_S_faults 109 = .ok (.goto 4, 3) := by decide +kernel
theorem d_S_faults_112 : decode b_S_faults 112 = .ok (.iconst 1, 1) := by decide +kernel
theorem d_S_faults_113 : decode b_S_faults 113 = .ok (.iadd, 1) := by decide +kernel
theorem d_S_faults_114 : decode b_S_faults 114 = .ok (.istore_n 1, 1) := by decide +kernel
theorem d_S_faults_115 : decode b_S_faults 115 = .ok (.aload 4, 2) := by decide +kernel
theorem d_S_faults_117 : decode b_S_faults 117 = .ok (.invokevirtual 104, 3) := by decide +kernel
theorem d_S_faults_120 : decode b_S_faults 120 = .ok (.istore_n 2, 1) := by decide +kernel
theorem d_S_faults_121 : decode b_S_faults 121 = .ok (.aload 4, 2) := by decide +kernel
theorem d_S_faults_123 : decode b_S_faults 123 = .ok (.getfield 69, 3) := by decide +kernel
theorem d_S_faults_126 : decode b_S_faults 126 = .ok (.astore 4, 2) := by decide +kernel
theorem d_S_faults_128 : decode b_S_faults 128 = .ok (.goto (-105), 3) := by decide +kernel
theorem d_S_faults_131 : decode b_S_faults 131 = .ok (.iload_n 1, 1) := by decide +kernel
theorem d_S_faults_132 : decode b_S_faults 132 = .ok (.iload_n 2, 1) := by decide +kernel
theorem d_S_faults_133 : decode b_S_faults 133 = .ok (.iconst 1, 1) := by decide +kernel
theorem d_S_faults_134 : decode b_S_faults 134 = .ok (.aload_n 0, 1) := by decide +kernel
theorem d_S_faults_135 : decode b_S_faults 135 = .ok (.getfield 20, 3) := by decide +kernel
theorem d_S_faults_138 : decode b_S_faults 138 = .ok (.iadd, 1) := by decide +kernel
theorem d_S_faults_139 : decode b_S_faults 139 = .ok (.if_icmp .ne 7, 3) := by decide +kernel
theorem d_S_faults_142 : decode b_S_faults 142 = .ok (.iconst 0, 1) := by decide +kernel
theorem d_S_faults_143 : decode b_S_faults 143 = .ok (.goto 4, 3) := by decide +kernel
theorem d_S_faults_146 : decode b_S_faults 146 = .ok (.iconst 1, 1) := by decide +kernel
theorem d_S_faults_147 : decode b_S_faults 147 = .ok (.iadd, 1) := by decide +kernel
theorem d_S_faults_148 : decode b_S_faults 148 = .ok (.istore_n 1, 1) := by decide +kernel
theorem d_S_faults_149 : decode b_S_faults 149 = .ok (.iload_n 1, 1) := by decide +kernel
theorem d_S_faults_150 : decode b_S_faults 150 = .ok (.iload_n 3, 1) := by decide +kernel
theorem d_S_faults_151 : decode b_S_faults 151 = .ok (.ifCond .eq 7, 3) := by decide +kernel
theorem d_S_faults_154 : decode b_S_faults 154 = .ok (.iconst 0, 1) := by decide +kernel
theorem d_S_faults_155 : decode b_S_faults 155 = .ok (.goto 4, 3) := by decide +kernel
theorem d_S_faults_158 : decode b_S_faults 158 = .ok (.iconst 1, 1) := by decide +kernel
theorem d_S_faults_159 : decode b_S_faults 159 = .ok (.iadd, 1) := by decide +kernel
theorem d_S_faults_160 : decode b_S_faults 160 = .ok (.istore_n 1, 1) := by decide +kernel
theorem d_S_faults_161 : decode b_S_faults 161 = .ok (.iload_n 1, 1) := by decide +kernel
theorem d_S_faults_162 : decode b_S_faults 162 = .ok (.ireturn, 1) := by decide +kernel
theorem d_S_startAnew_0 : decode b_S_startAnew 0 = .ok (.aload_n 0, 1) := by decide +kernel
theorem d_S_startAnew_1 : decode b_S_startAnew 1 = .ok (.iload_n 1, 1) := by decide +kernel
theorem d_S_startAnew_2 : decode b_S_startAnew 2 = .ok (.putfield 20, 3) := by decide +kernel
theorem d_S_startAnew_5 : decode b_S_startAnew 5 = .ok (.aload_n 0, 1) := by decide +kernel
theorem d_S_startAnew_6 : decode b_S_startAnew 6 = .ok (.new 38, 3) := by decide +kernel
theorem d_S_startAnew_9 : decode b_S_startAnew 9 = .ok (.dup, 1) := by decide +kernel
theorem d_S_startAnew_10 : decode b_S_startAnew 10 = .ok (.iconst 1, 1) := by decide +kernel
theorem d_S_startAnew_11 : decode b_S_startAnew 11 = .ok (.iload_n 1, 1) := by decide +kernel
theorem d_S_startAnew_12 : decode b_S_startAnew 12 = .ok (.aconst_null, 1) := by decide +kernel
theorem d_S_startAnew_13 : decode b_S_startAnew 13 = .ok (.invokespecial 107, 3) := by decide +kernel
theorem d_S_startAnew_16 : decode b_S_startAnew 16 = .ok (.putfield 66, 3) := by decide +kernel
theorem d_S_startAnew_19 : decode b_S_startAnew 19 = .ok (.aload_n 0, 1) := by decide +kernel
