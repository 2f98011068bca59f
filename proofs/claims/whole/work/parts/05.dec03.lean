theorem d_M_give_2 : decode b_M_give 2 = .ok (.iload_n 1, 1) := by decide +kernel
theorem d_M_give_3 : decode b_M_give 3 = .ok (.invokevirtual 57, 3) := by decide +kernel
theorem d_M_give_6 : decode b_M_give 6 = .ok (.iconst 1, 1) := by decide +kernel
theorem d_M_give_7 : decode b_M_give 7 = .ok (.invokevirtual 30, 3) := by decide +kernel
theorem d_M_give_10 : decode b_M_give 10 = .ok (.ifCond .ne 5, 3) := by decide +kernel
theorem d_M_give_13 : decode b_M_give 13 = .ok (.iconst 0, 1) := by decide +kernel
theorem d_M_give_14 : decode b_M_give 14 = .ok (.ireturn, 1) := by decide +kernel
theorem d_M_give_15 : decode b_M_give 15 = .ok (.aload_n 0, 1) := by decide +kernel
theorem d_M_give_16 : decode b_M_give 16 = .ok (.getfield 13, 3) := by decide +kernel
theorem d_M_give_19 : decode b_M_give 19 = .ok (.iload_n 1, 1) := by decide +kernel
theorem d_M_give_20 : decode b_M_give 20 = .ok (.iaload, 1) := by decide +kernel
theorem d_M_give_21 : decode b_M_give 21 = .ok (.istore_n 2, 1) := by decide +kernel
theorem d_M_give_22 : decode b_M_give 22 = .ok (.aload_n 0, 1) := by decide +kernel
theorem d_M_give_23 : decode b_M_give 23 = .ok (.iload_n 1, 1) := by decide +kernel
theorem d_M_give_24 : decode b_M_give 24 = .ok (.iload_n 2, 1) := by decide +kernel
theorem d_M_give_25 : decode b_M_give 25 = .ok (.invokevirtual 46, 3) := by decide +kernel
theorem d_M_give_28 : decode b_M_give 28 = .ok (.iload_n 2, 1) := by decide +kernel
theorem d_M_give_29 : decode b_M_give 29 = .ok (.ireturn, 1) := by decide +kernel
theorem d_M_mark_0 : decode b_M_mark 0 = .ok (.aload_n 0, 1) := by decide +kernel
theorem d_M_mark_1 : decode b_M_mark 1 = .ok (.aload_n 0, 1) := by decide +kernel
theorem d_M_mark_2 : decode b_M_mark 2 = .ok (.iload_n 1, 1) := by decide +kernel
theorem d_M_mark_3 : decode b_M_mark 3 = .ok (.invokevirtual 57, 3) := by decide +kernel
theorem d_M_mark_6 : decode b_M_mark 6 = .ok (.aload_n 0, 1) := by decide +kernel
theorem d_M_mark_7 : decode b_M_mark 7 = .ok (.getfield 43, 3) := by decide +kernel
theorem d_M_mark_10 : decode b_M_mark 10 = .ok (.ifCond .ne 7, 3) := by decide +kernel
theorem d_M_mark_13 : decode b_M_mark 13 = .ok (.iconst 1, 1) := by decide +kernel
theorem d_M_mark_14 : decode b_M_mark 14 = .ok (.goto 4, 3) := by decide +kernel
theorem d_M_mark_17 : decode b_M_mark 17 = .ok (.iconst 0, 1) := by decide +kernel
theorem d_M_mark_18 : decode b_M_mark 18 = .ok (.invokevirtual 30, 3) := by decide +kernel
theorem d_M_mark_21 : decode b_M_mark 21 = .ok (.ifCond .ne 5, 3) := by decide +kernel
theorem d_M_mark_24 : decode b_M_mark 24 = .ok (.iconst 0, 1) := by decide +kernel
theorem d_M_mark_25 : decode b_M_mark 25 = .ok (.ireturn, 1) := by decide +kernel
theorem d_M_mark_26 : decode b_M_mark 26 = .ok (.aload_n 0, 1) := by decide +kernel
theorem d_M_mark_27 : decode b_M_mark 27 = .ok (.getfield 20, 3) := by decide +kernel
theorem d_M_mark_30 : decode b_M_mark 30 = .ok (.iload_n 1, 1) := by decide +kernel
theorem d_M_mark_31 : decode b_M_mark 31 = .ok (.baload, 1) := by decide +kernel
theorem d_M_mark_32 : decode b_M_mark 32 = .ok (.ifCond .ne 7, 3) := by decide +kernel
theorem d_M_mark_35 : decode b_M_mark 35 = .ok (.iconst 1, 1) := by decide +kernel
theorem d_M_mark_36 : decode b_M_mark 36 = .ok (.goto 4, 3) := by decide +kernel
theorem d_M_mark_39 : decode b_M_mark 39 = .ok (.iconst 0, 1) := by decide +kernel
theorem d_M_mark_40 : decode b_M_mark 40 = .ok (.istore_n 2, 1) := by decide +kernel
theorem d_M_mark_41 : decode b_M_mark 41 = .ok (.aload_n 0, 1) := by decide +kernel
theorem d_M_mark_42 : decode b_M_mark 42 = .ok (.getfield 20, 3) := by decide +kernel
theorem d_M_mark_45 : decode b_M_mark 45 = .ok (.iload_n 1, 1) := by decide +kernel
theorem d_M_mark_46 : decode b_M_mark 46 = .ok (.iconst 1, 1) := by decide +kernel
theorem d_M_mark_47 : decode b_M_mark 47 = .ok (.bastore, 1) := by decide +kernel
theorem d_M_mark_48 : decode b_M_mark 48 = .ok (.iload_n 2, 1) := by decide +kernel
theorem d_M_mark_49 : decode b_M_mark 49 = .ok (.ireturn, 1) := by decide +kernel
theorem d_M_marks_0 : decode b_M_marks 0 = .ok (.iconst 0, 1) := by decide +kernel
theorem d_M_marks_1 : decode b_M_marks 1 = .ok (.istore_n 1, 1) := by decide +kernel
theorem d_M_marks_2 : decode b_M_marks 2 = .ok (.iconst 1, 1) := by decide +kernel
theorem d_M_marks_3 : decode b_M_marks 3 = .ok (.istore_n 2, 1) := by decide +kernel
theorem d_M_marks_4 : decode b_M_marks 4 = .ok (.iload_n 2, 1) := by decide +kernel
theorem d_M_marks_5 : decode b_M_marks 5 = .ok (.aload_n 0, 1) := by decide +kernel
theorem d_M_marks_6 : decode b_M_marks 6 = .ok (.getfield 7, 3) := by decide +kernel
theorem d_M_marks_9 : decode b_M_marks 9 = .ok (.if_icmp .gt 31, 3) := by decide +kernel
theorem d_M_marks_12 : decode b_M_marks 12 = .ok (.aload_n 0, 1) := by decide +kernel
theorem d_M_marks_13 : decode b_M_marks 13 = .ok (.getfield 20, 3) := by decide +kernel
theorem d_M_marks_16 : decode b_M_marks 16 = .ok (.iload_n 2, 1) := by decide +kernel
theorem d_M_marks_17 : decode b_M_marks 17 = .ok (.baload, 1) := by decide +kernel
theorem d_M_marks_18 : decode b_M_marks 18 = .ok (.ifCond .eq 9, 3) := by decide +kernel
theorem d_M_marks_21 : decode b_M_marks 21 = .ok (.iload_n 1, 1) := by decide +kernel
theorem d_M_marks_22 : decode b_M_marks 22 = .ok (.iconst 1, 1) := by decide +kernel
theorem d_M_marks_23 : decode b_M_marks 23 = .ok (.iadd, 1) := by decide +kernel
theorem d_M_marks_24 : decode b_M_marks 24 = .ok (.goto 4, 3) := by decide +kernel
theorem d_M_marks_27 : decode b_M_marks 27 = .ok (.iload_n 1, 1) := by decide +kernel
theorem d_M_marks_28 : decode b_M_marks 28 = .ok (.istore_n 1, 1) := by decide +kernel
theorem d_M_marks_29 : decode b_M_marks 29 = .ok (.iload_n 2, 1) := by decide +kernel
theorem d_M_marks_30 : decode b_M_marks 30 = .ok (.aload_n 0, 1) := by decide +kernel
theorem d_M_marks_31 : decode b_M_marks 31 = .ok (.iload_n 2, 1) := by decide +kernel
theorem d_M_marks_32 : decode b_M_marks 32 = .ok (.invokevirtual 50, 3) := by decide +kernel
theorem d_M_marks_35 : decode b_M_marks 35 = .ok (.iadd, 1) := by decide +kernel
theorem d_M_marks_36 : decode b_M_marks 36 = .ok (.istore_n 2, 1) := by decide +kernel
theorem d_M_marks_37 : decode b_M_marks 37 = .ok (.goto (-33), 3) := by decide +kernel
theorem d_M_marks_40 : decode b_M_marks 40 = .ok (.iload_n 1, 1) := by decide +kernel
theorem d_M_marks_41 : decode b_M_marks 41 = .ok (.ireturn, 1) := by decide +kernel
theorem d_M_unmark_0 : decode b_M_unmark 0 = .ok (.aload_n 0, 1) := by decide +kernel
theorem d_M_unmark_1 : decode b_M_unmark 1 = .ok (.aload_n 0, 1) := by decide +kernel
theorem d_M_unmark_2 : decode b_M_unmark 2 = .ok (.getfield 43, 3) := by decide +kernel
theorem d_M_unmark_5 : decode b_M_unmark 5 = .ok (.ifCond .ne 7, 3) := by decide +kernel
theorem d_M_unmark_8 : decode b_M_unmark 8 = .ok (.iconst 1, 1) := by decide +kernel
theorem d_M_unmark_9 : decode b_M_unmark 9 = .ok (.goto 4, 3) := by decide +kernel
theorem d_M_unmark_12 : decode b_M_unmark 12 = .ok (.iconst 0, 1) := by decide +kernel
theorem d_M_unmark_13 : decode b_M_unmark 13 = .ok (.iconst 1, 1) := by decide +kernel
theorem d_M_unmark_14 : decode b_M_unmark 14 = .ok (.invokevirtual 30, 3) := by decide +kernel
theorem d_M_unmark_17 : decode b_M_unmark 17 = .ok (.ifCond .ne 5, 3) := by decide +kernel
theorem d_M_unmark_20 : decode b_M_unmark 20 = .ok (.iconst 0, 1) := by decide +kernel
theorem d_M_unmark_21 : decode b_M_unmark 21 = .ok (.ireturn, 1) := by decide +kernel
theorem d_M_unmark_22 : decode b_M_unmark 22 = .ok (.aload_n 0, 1) := by decide +kernel
theorem d_M_unmark_23 : decode b_M_unmark 23 = .ok (.invokevirtual 61, 3) := by decide +kernel
theorem d_M_unmark_26 : decode b_M_unmark 26 = .ok (.istore_n 1, 1) := by decide +kernel
theorem d_M_unmark_27 : decode b_M_unmark 27 = .ok (.iconst 1, 1) := by decide +kernel
theorem d_M_unmark_28 : decode b_M_unmark 28 = .ok (.istore_n 2, 1) := by decide +kernel
theorem d_M_unmark_29 : decode b_M_unmark 29 = .ok (.iload_n 2, 1) := by decide +kernel
theorem d_M_unmark_30 : decode b_M_unmark 30 = .ok (.aload_n 0, 1) := by decide +kernel
theorem d_M_unmark_31 : decode b_M_unmark 31 = .ok (.getfield 7, 3) := by decide +kernel
theorem d_M_unmark_34 : decode b_M_unmark 34 = .ok (.if_icmp .gt 21, 3) := by decide +kernel
theorem d_M_unmark_37 : decode b_M_unmark 37 = .ok (.aload_n 0, 1) := by decide +kernel
theorem d_M_unmark_38 : decode b_M_unmark 38 = .ok (.getfield 20, 3) := by decide +kernel
theorem d_M_unmark_41 : decode b_M_unmark 41 = .ok (.iload_n 2, 1) := by decide +kernel
theorem d_M_unmark_42 : decode b_M_unmark 42 = .ok (.iconst 0, 1) := by decide +kernel
theorem d_M_unmark_43 : decode b_M_unmark 43 = .ok (.bastore, 1) := by decide +kernel
theorem d_M_unmark_44 : decode b_M_unmark 44 = .ok (.iload_n 2, 1) := by decide +kernel
theorem d_M_unmark_45 : decode b_M_unmark 45 = .ok (.aload_n 0, 1) := by decide +kernel
theorem d_M_unmark_46 : decode b_M_unmark 46 = .ok (.iload_n 2, 1) := by decide +kernel
theorem d_M_unmark_47 : decode b_M_unmark 47 = .ok (.invokevirtual 50, 3) := by decide +kernel
theorem d_M_unmark_50 : decode b_M_unmark 50 = .ok (.iadd, 1) := by decide +kernel
theorem d_M_unmark_51 : decode b_M_unmark 51 = .ok (.istore_n 2, 1) := by decide +kernel
theorem d_M_unmark_52 : decode b_M_unmark 52 = .ok (.goto (-23), 3) := by decide +kernel
theorem d_M_unmark_55 : decode b_M_unmark 55 = .ok (.iload_n 1, 1) := by decide +kernel
theorem d_M_unmark_56 : decode b_M_unmark 56 = .ok (.ireturn, 1) := by decide +kernel
theorem d_M_begin_0 : decode b_M_begin 0 = .ok (.aload_n 0, 1) := by decide +kernel
theorem d_M_begin_1 : decode b_M_begin 1 = .ok (.aload_n 0, 1) := by decide +kernel
theorem d_M_begin_2 : decode b_M_begin 2 = .ok (.getfield 43, 3) := by decide +kernel
theorem d_M_begin_5 : decode b_M_begin 5 = .ok (.ifCond .ne 7, 3) := by decide +kernel
theorem d_M_begin_8 : decode b_M_begin 8 = .ok (.iconst 1, 1) := by decide +kernel
theorem d_M_begin_9 : decode b_M_begin 9 = .ok (.goto 4, 3) := by decide +kernel
theorem d_M_begin_12 : decode b_M_begin 12 = .ok (.iconst 0, 1) := by decide +kernel
theorem d_M_begin_13 : decode b_M_begin 13 = .ok (.iconst 1, 1) := by decide +kernel
theorem d_M_begin_14 : decode b_M_begin 14 = .ok (.invokevirtual 30, 3) := by decide +kernel
theorem d_M_begin_17 : decode b_M_begin 17 = .ok (.ifCond .eq 8, 3) := by decide +kernel
theorem d_M_begin_20 : decode b_M_begin 20 = .ok (.aload_n 0, 1) := by decide +kernel
theorem d_M_begin_21 : decode b_M_begin 21 = .ok (.iconst 1, 1) := by decide +kernel
theorem d_M_begin_22 : decode b_M_begin 22 = .ok (.putfield 43, 3) := by decide +kernel
theorem d_M_begin_25 : decode b_M_begin 25 = .ok (.return_, 1) := by decide +kernel
theorem d_M_step_0 : decode b_M_step 0 = .ok (.aload_n 0, 1) := by decide +kernel
theorem d_M_step_1 : decode b_M_step 1 = .ok (.getfield 43, 3) := by decide +kernel
theorem d_M_step_4 : decode b_M_step 4 = .ok (.istore_n 1, 1) := by decide +kernel
theorem d_M_step_5 : decode b_M_step 5 = .ok (.aload_n 0, 1) := by decide +kernel
theorem d_M_step_6 : decode b_M_step 6 = .ok (.getfield 20, 3) := by decide +kernel
theorem d_M_step_9 : decode b_M_step 9 = .ok (.iload_n 1, 1) := by decide +kernel
theorem d_M_step_10 : decode b_M_step 10 = .ok (.baload, 1) := by decide +kernel
theorem d_M_step_11 : decode b_M_step 11 = .ok (.ifCond .eq 22, 3) := by decide +kernel
theorem d_M_step_14 : decode b_M_step 14 = .ok (.aload_n 0, 1) := by decide +kernel
theorem d_M_step_15 : decode b_M_step 15 = .ok (.getfield 20, 3) := by decide +kernel
theorem d_M_step_18 : decode b_M_step 18 = .ok (.iload_n 1, 1) := by decide +kernel
theorem d_M_step_19 : decode b_M_step 19 = .ok (.iconst 0, 1) := by decide +kernel
theorem d_M_step_20 : decode b_M_step 20 = .ok (.bastore, 1) := by decide +kernel
theorem d_M_step_21 : decode b_M_step 21 = .ok (.aload_n 0, 1) := by decide +kernel
theorem d_M_step_22 : decode b_M_step 22 = .ok (.iload_n 1, 1) := by decide +kernel
theorem d_M_step_23 : decode b_M_step 23 = .ok (.aload_n 0, 1) := by decide +kernel
theorem d_M_step_24 : decode b_M_step 24 = .ok (.iload_n 1, 1) := by decide +kernel
theorem d_M_step_25 : decode b_M_step 25 = .ok (.invokevirtual 50, 3) := by decide +kernel
theorem d_M_step_28 : decode b_M_step 28 = .ok (.iadd, 1) := by decide +kernel
theorem d_M_step_29 : decode b_M_step 29 = .ok (.putfield 43, 3) := by decide +kernel
theorem d_M_step_32 : decode b_M_step 32 = .ok (.return_, 1) := by decide +kernel
theorem d_M_step_33 : decode b_M_step 33 = .ok (.iload_n 1, 1) := by decide +kernel
theorem d_M_step_34 : decode b_M_step 34 = .ok (.istore_n 2, 1) := by decide +kernel
theorem d_M_step_35 : decode b_M_step 35 = .ok (.iconst 0, 1) := by decide +kernel
theorem d_M_step_36 : decode b_M_step 36 = .ok (.istore_n 3, 1) := by decide +kernel
theorem d_M_step_37 : decode b_M_step 37 = .ok (.aload_n 0, 1) := by decide +kernel
theorem d_M_step_38 : decode b_M_step 38 = .ok (.getfield 13, 3) := by decide +kernel
theorem d_M_step_41 : decode b_M_step 41 = .ok (.iload_n 1, 1) := by decide +kernel
theorem d_M_step_42 : decode b_M_step 42 = .ok (.iaload, 1) := by decide +kernel
theorem d_M_step_43 : decode b_M_step 43 = .ok (.ifCond .ge 7, 3) := by decide +kernel
theorem d_M_step_46 : decode b_M_step 46 = .ok (.iconst 1, 1) := by decide +kernel
theorem d_M_step_47 : decode b_M_step 47 = .ok (.goto 4, 3) := by decide +kernel
theorem d_M_step_50 : decode b_M_step 50 = .ok (.iconst 0, 1) := by decide +kernel
theorem d_M_step_51 : decode b_M_step 51 = .ok (.istore 4, 2) := by decide +kernel
theorem d_M_step_53 : decode b_M_step 53 = .ok (.iload_n 2, 1) := by decide +kernel
theorem d_M_step_54 : decode b_M_step 54 = .ok (.aload_n 0, 1) := by decide +kernel
theorem d_M_step_55 : decode b_M_step 55 = .ok (.getfield 7, 3) := by decide +kernel
theorem d_M_step_58 : decode b_M_step 58 = .ok (.if_icmp .gt 77, 3) := by decide +kernel
theorem d_M_step_61 : decode b_M_step 61 = .ok (.aload_n 0, 1) := by decide +kernel
theorem d_M_step_62 : decode b_M_step 62 = .ok (.getfield 20, 3) := by decide +kernel
theorem d_M_step_65 : decode b_M_step 65 = .ok (.iload_n 2, 1) := by decide +kernel
theorem d_M_step_66 : decode b_M_step 66 = .ok (.baload, 1) := by decide +kernel
theorem d_M_step_67 : decode b_M_step 67 = .ok (.ifCond .ne 68, 3) := by decide +kernel
theorem d_M_step_70 : decode b_M_step 70 = .ok (.aload_n 0, 1) := by decide +kernel
theorem d_M_step_71 : decode b_M_step 71 = .ok (.iload_n 2, 1) := by decide +kernel
theorem d_M_step_72 : decode b_M_step 72 = .ok (.invokevirtual 50, 3) := by decide +kernel
theorem d_M_step_75 : decode b_M_step 75 = .ok (.istore 5, 2) := by decide +kernel
theorem d_M_step_77 : decode b_M_step 77 = .ok (.aload_n 0, 1) := by decide +kernel
theorem d_M_step_78 : decode b_M_step 78 = .ok (.aload_n 0, 1) := by decide +kernel
theorem d_M_step_79 : decode b_M_step 79 = .ok (.getfield 13, 3) := by decide +kernel
theorem d_M_step_82 : decode b_M_step 82 = .ok (.iload_n 2, 1) := by decide +kernel
theorem d_M_step_83 : decode b_M_step 83 = .ok (.iaload, 1) := by decide +kernel
theorem d_M_step_84 : decode b_M_step 84 = .ok (.ifCond .le 12, 3) := by decide +kernel
theorem d_M_step_87 : decode b_M_step 87 = .ok (.aload_n 0, 1) := by decide +kernel
theorem d_M_step_88 : decode b_M_step 88 = .ok (.getfield 37, 3) := by decide +kernel
theorem d_M_step_91 : decode b_M_step 91 = .ok (.iconst 1, 1) := by decide +kernel
theorem d_M_step_92 : decode b_M_step 92 = .ok (.iadd, 1) := by decide +kernel
theorem d_M_step_93 : decode b_M_step 93 = .ok (.goto 7, 3) := by decide +kernel
theorem d_M_step_96 : decode b_M_step 96 = .ok (.aload_n 0, 1) := by decide +kernel
theorem d_M_step_97 : decode b_M_step 97 = .ok (.getfield 37, 3) := by decide +kernel
theorem d_M_step_100 : decode b_M_step 100 = .ok (.putfield 37, 3) := by decide +kernel
theorem d_M_step_103 : decode b_M_step 103 = .ok (.aload_n 0, 1) := by decide +kernel
theorem d_M_step_104 : decode b_M_step 104 = .ok (.getfield 13, 3) := by decide +kernel
theorem d_M_step_107 : decode b_M_step 107 = .ok (.iload_n 2, 1) := by decide +kernel
theorem d_M_step_108 : decode b_M_step 108 = .ok (.iload_n 2, 1) := by decide +kernel
theorem d_M_step_109 : decode b_M_step 109 = .ok (.iload_n 1, 1) := by decide +kernel
theorem d_M_step_110 : decode b_M_step 110 = .ok (.if_icmp .ne 12, 3) := by decide +kernel
theorem d_M_step_113 : decode b_M_step 113 = .ok (.aload_n 0, 1) := by decide +kernel
theorem d_M_step_114 : decode b_M_step 114 = .ok (.getfield 13, 3) := by decide +kernel
theorem d_M_step_117 : decode b_M_step 117 = .ok (.iload_n 2, 1) := by decide +kernel
theorem d_M_step_118 : decode b_M_step 118 = .ok (.iaload, 1) := by decide +kernel
theorem d_M_step_119 : decode b_M_step 119 = .ok (.goto 4, 3) := by decide +kernel
theorem d_M_step_122 : decode b_M_step 122 = .ok (.iconst 0, 1) := by decide +kernel
theorem d_M_step_123 : decode b_M_step 123 = .ok (.iastore, 1) := by decide +kernel
theorem d_M_step_124 : decode b_M_step 124 = .ok (.iinc 3 1, 3) := by decide +kernel
theorem d_M_step_127 : decode b_M_step 127 = .ok (.iload_n 2, 1) := by decide +kernel
theorem d_M_step_128 : decode b_M_step 128 = .ok (.iload 5, 2) := by decide +kernel
theorem d_M_step_130 : decode b_M_step 130 = .ok (.iadd, 1) := by decide +kernel
theorem d_M_step_131 : decode b_M_step 131 = .ok (.istore_n 2, 1) := by decide +kernel
theorem d_M_step_132 : decode b_M_step 132 = .ok (.goto (-79), 3) := by decide +kernel
theorem d_M_step_135 : decode b_M_step 135 = .ok (.iload_n 3, 1) := by decide +kernel
theorem d_M_step_136 : decode b_M_step 136 = .ok (.iconst 1, 1) := by decide +kernel
theorem d_M_step_137 : decode b_M_step 137 = .ok (.if_icmp .gt 8, 3) := by decide +kernel
theorem d_M_step_140 : decode b_M_step 140 = .ok (.iload 4, 2) := by decide +kernel
theorem d_M_step_142 : decode b_M_step 142 = .ok (.ifCond .ne 11, 3) := by decide +kernel
theorem d_M_step_145 : decode b_M_step 145 = .ok (.aload_n 0, 1) := by decide +kernel
theorem d_M_step_146 : decode b_M_step 146 = .ok (.iload_n 1, 1) := by decide +kernel
theorem d_M_step_147 : decode b_M_step 147 = .ok (.iload_n 2, 1) := by decide +kernel
theorem d_M_step_148 : decode b_M_step 148 = .ok (.iload_n 1, 1) := by decide +kernel
theorem d_M_step_149 : decode b_M_step 149 = .ok (.isub, 1) := by decide +kernel
theorem d_M_step_150 : decode b_M_step 150 = .ok (.invokevirtual 46, 3) := by decide +kernel
theorem d_M_step_153 : decode b_M_step 153 = .ok (.aload_n 0, 1) := by decide +kernel
theorem d_M_step_154 : decode b_M_step 154 = .ok (.iload_n 2, 1) := by decide +kernel
theorem d_M_step_155 : decode b_M_step 155 = .ok (.putfield 43, 3) := by decide +kernel
theorem d_M_step_158 : decode b_M_step 158 = .ok (.return_, 1) := by decide +kernel
theorem d_M_sweep_0 : decode b_M_sweep 0 = .ok (.aload_n 0, 1) := by decide +kernel
theorem d_M_sweep_1 : decode b_M_sweep 1 = .ok (.iload_n 1, 1) := by decide +kernel
theorem d_M_sweep_2 : decode b_M_sweep 2 = .ok (.ifCond .lt 14, 3) := by decide +kernel
theorem d_M_sweep_5 : decode b_M_sweep 5 = .ok (.iload_n 1, 1) := by decide +kernel
theorem d_M_sweep_6 : decode b_M_sweep 6 = .ok (.sipush 5000, 3) := by decide +kernel
theorem d_M_sweep_9 : decode b_M_sweep 9 = .ok (.if_icmp .gt 7, 3) := by decide +kernel
theorem d_M_sweep_12 : decode b_M_sweep 12 = .ok (.iconst 1, 1) := by decide +kernel
theorem d_M_sweep_13 : decode b_M_sweep 13 = .ok (.goto 4, 3) := by decide +kernel
theorem d_M_sweep_16 : decode b_M_sweep 16 = .ok (.iconst 0, 1) := by decide +kernel
theorem d_M_sweep_17 : decode b_M_sweep 17 = .ok (.iconst 1, 1) := by decide +kernel
theorem d_M_sweep_18 : decode b_M_sweep 18 = .ok (.invokevirtual 30, 3) := by decide +kernel
theorem d_M_sweep_21 : decode b_M_sweep 21 = .ok (.ifCond .ne 5, 3) := by decide +kernel
theorem d_M_sweep_24 : decode b_M_sweep 24 = .ok (.iconst 0, 1) := by decide +kernel
theorem d_M_sweep_25 : decode b_M_sweep 25 = .ok (.ireturn, 1) := by decide +kernel
theorem d_M_sweep_26 : decode b_M_sweep 26 = .ok (.iconst 0, 1) := by decide +kernel
theorem d_M_sweep_27 : decode b_M_sweep 27 = .ok (.istore_n 2, 1) := by decide +kernel
theorem d_M_sweep_28 : decode b_M_sweep 28 = .ok (.iload_n 2, 1) := by decide +kernel
theorem d_M_sweep_29 : decode b_M_sweep 29 = .ok (.iload_n 1, 1) := by decide +kernel
theorem d_M_sweep_30 : decode b_M_sweep 30 = .ok (.if_icmp .ge 46, 3) := by decide +kernel
theorem d_M_sweep_33 : decode b_M_sweep 33 = .ok (.aload_n 0, 1) := by decide +kernel
theorem d_M_sweep_34 : decode b_M_sweep 34 = .ok (.getfield 43, 3) := by decide +kernel
theorem d_M_sweep_37 : decode b_M_sweep 37 = .ok (.ifCond .le 39, 3) := by decide +kernel
theorem d_M_sweep_40 : decode b_M_sweep 40 = .ok (.aload_n 0, 1) := by decide +kernel
theorem d_M_sweep_41 : decode b_M_sweep 41 = .ok (.invokevirtual 64, 3) := by decide +kernel
theorem d_M_sweep_44 : decode b_M_sweep 44 = .ok (.iinc 2 1, 3) := by decide +kernel
theorem d_M_sweep_47 : decode b_M_sweep 47 = .ok (.aload_n 0, 1) := by decide +kernel
theorem d_M_sweep_48 : decode b_M_sweep 48 = .ok (.getfield 43, 3) := by decide +kernel
theorem d_M_sweep_51 : decode b_M_sweep 51 = .ok (.aload_n 0, 1) := by decide +kernel
theorem d_M_sweep_52 : decode b_M_sweep 52 = .ok (.getfield 7, 3) := by decide +kernel
theorem d_M_sweep_55 : decode b_M_sweep 55 = .ok (.if_icmp .le (-27), 3) := by decide +kernel
theorem d_M_sweep_58 : decode b_M_sweep 58 = .ok (.aload_n 0, 1) := by decide +kernel
theorem d_M_sweep_59 : decode b_M_sweep 59 = .ok (.iconst 0, 1) := by decide +kernel
theorem d_M_sweep_60 : decode b_M_sweep 60 = .ok (.putfield 43, 3) := by decide +kernel
theorem d_M_sweep_63 : decode b_M_sweep 63 = .ok (.aload_n 0, 1) := by decide +kernel
theorem d_M_sweep_64 : decode b_M_sweep 64 = .ok (.dup, 1) := by decide +kernel
theorem d_M_sweep_65 : decode b_M_sweep 65 = .ok (.getfield 40, 3) := by decide +kernel
theorem d_M_sweep_68 : decode b_M_sweep 68 = .ok (.iconst 1, 1) := by decide +kernel
theorem d_M_sweep_69 : decode b_M_sweep 69 = .ok (.iadd, 1) := by decide +kernel
theorem d_M_sweep_70 : decode b_M_sweep 70 = .ok (.putfield 40, 3) := by decide +kernel
theorem d_M_sweep_73 : decode b_M_sweep 73 = .ok (.goto (-45), 3) := by decide +kernel
theorem d_M_sweep_76 : decode b_M_sweep 76 = .ok (.iload_n 2, 1) := by decide +kernel
theorem d_M_sweep_77 : decode b_M_sweep 77 = .ok (.ireturn, 1) := by decide +kernel
theorem d_M_hand_0 : decode b_M_hand 0 = .ok (.aload_n 0, 1) := by decide +kernel
theorem d_M_hand_1 : decode b_M_hand 1 = .ok (.iconst 0, 1) := by decide +kernel
theorem d_M_hand_2 : decode b_M_hand 2 = .ok (.putfield 24, 3) := by decide +kernel
theorem d_M_hand_5 : decode b_M_hand 5 = .ok (.aload_n 0, 1) := by decide +kernel
theorem d_M_hand_6 : decode b_M_hand 6 = .ok (.getfield 43, 3) := by decide +kernel
theorem d_M_hand_9 : decode b_M_hand 9 = .ok (.ireturn, 1) := by decide +kernel
theorem d_M_piece_0 : decode b_M_piece 0 = .ok (.aload_n 0, 1) := by decide +kernel
theorem d_M_piece_1 : decode b_M_piece 1 = .ok (.iconst 0, 1) := by decide +kernel
theorem d_M_piece_2 : decode b_M_piece 2 = .ok (.putfield 24, 3) := by decide +kernel
theorem d_M_piece_5 : decode b_M_piece 5 = .ok (.iload_n 1, 1) := by decide +kernel
theorem d_M_piece_6 : decode b_M_piece 6 = .ok (.iconst 1, 1) := by decide +kernel
theorem d_M_piece_7 : decode b_M_piece 7 = .ok (.if_icmp .lt 20, 3) := by decide +kernel
theorem d_M_piece_10 : decode b_M_piece 10 = .ok (.iload_n 1, 1) := by decide +kernel
theorem d_M_piece_11 : decode b_M_piece 11 = .ok (.aload_n 0, 1) := by decide +kernel
theorem d_M_piece_12 : decode b_M_piece 12 = .ok (.getfield 7, 3) := by decide +kernel
theorem d_M_piece_15 : decode b_M_piece 15 = .ok (.if_icmp .gt 12, 3) := by decide +kernel
theorem d_M_piece_18 : decode b_M_piece 18 = .ok (.aload_n 0, 1) := by decide +kernel
theorem d_M_piece_19 : decode b_M_piece 19 = .ok (.getfield 13, 3) := by decide +kernel
theorem d_M_piece_22 : decode b_M_piece 22 = .ok (.iload_n 1, 1) := by decide +kernel
theorem d_M_piece_23 : decode b_M_piece 23 = .ok (.iaload, 1) := by decide +kernel
theorem d_M_piece_24 : decode b_M_piece 24 = .ok (.goto 4, 3) := by decide +kernel
theorem d_M_piece_27 : decode b_M_piece 27 = .ok (.iconst 0, 1) := by decide +kernel
theorem d_M_piece_28 : decode b_M_piece 28 = .ok (.ireturn, 1) := by decide +kernel
theorem d_M_marked_0 : decode b_M_marked 0 = .ok (.aload_n 0, 1) := by decide +kernel
theorem d_M_marked_1 : decode b_M_marked 1 = .ok (.iconst 0, 1) := by decide +kernel
theorem d_M_marked_2 : decode b_M_marked 2 = .ok (.putfield 24, 3) := by decide +kernel
theorem d_M_marked_5 : decode b_M_marked 5 = .ok (.iload_n 1, 1) := by decide +kernel
theorem d_M_marked_6 : decode b_M_marked 6 = .ok (.iconst 1, 1) := by decide +kernel
theorem d_M_marked_7 : decode b_M_marked 7 = .ok (.if_icmp .lt 24, 3) := by decide +kernel
theorem d_M_marked_10 : decode b_M_marked 10 = .ok (.iload_n 1, 1) := by decide +kernel
theorem d_M_marked_11 : decode b_M_marked 11 = .ok (.aload_n 0, 1) := by decide +kernel
theorem d_M_marked_12 : decode b_M_marked 12 = .ok (.getfield 7, 3) := by decide +kernel
theorem d_M_marked_15 : decode b_M_marked 15 = .ok (.if_icmp .gt 16, 3) := by decide +kernel
theorem d_M_marked_18 : decode b_M_marked 18 = .ok (.aload_n 0, 1) := by decide +kernel
theorem d_M_marked_19 : decode b_M_marked 19 = .ok (.getfield 20, 3) := by decide +kernel
theorem d_M_marked_22 : decode b_M_marked 22 = .ok (.iload_n 1, 1) := by decide +kernel
theorem d_M_marked_23 : decode b_M_marked 23 = .ok (.baload, 1) := by decide +kernel
theorem d_M_marked_24 : decode b_M_marked 24 = .ok (.ifCond .eq 7, 3) := by decide +kernel
theorem d_M_marked_27 : decode b_M_marked 27 = .ok (.iconst 1, 1) := by decide +kernel
theorem d_M_marked_28 : decode b_M_marked 28 = .ok (.goto 4, 3) := by decide +kernel
theorem d_M_marked_31 : decode b_M_marked 31 = .ok (.iconst 0, 1) := by decide +kernel
theorem d_M_marked_32 : decode b_M_marked 32 = .ok (.ireturn, 1) := by decide +kernel
theorem d_M_greatest_0 : decode b_M_greatest 0 = .ok (.iconst 0, 1) := by decide +kernel
theorem d_M_greatest_1 : decode b_M_greatest 1 = .ok (.istore_n 1, 1) := by decide +kernel
theorem d_M_greatest_2 : decode b_M_greatest 2 = .ok (.iconst 1, 1) := by decide +kernel
theorem d_M_greatest_3 : decode b_M_greatest 3 = .ok (.istore_n 2, 1) := by decide +kernel
theorem d_M_greatest_4 : decode b_M_greatest 4 = .ok (.iload_n 2, 1) := by decide +kernel
theorem d_M_greatest_5 : decode b_M_greatest 5 = .ok (.aload_n 0, 1) := by decide +kernel
theorem d_M_greatest_6 : decode b_M_greatest 6 = .ok (.getfield 7, 3) := by decide +kernel
theorem d_M_greatest_9 : decode b_M_greatest 9 = .ok (.if_icmp .gt 42, 3) := by decide +kernel
theorem d_M_greatest_12 : decode b_M_greatest 12 = .ok (.aload_n 0, 1) := by decide +kernel
theorem d_M_greatest_13 : decode b_M_greatest 13 = .ok (.getfield 13, 3) := by decide +kernel
theorem d_M_greatest_16 : decode b_M_greatest 16 = .ok (.iload_n 2, 1) := by decide +kernel
theorem d_M_greatest_17 : decode b_M_greatest 17 = .ok (.iaload, 1) := by decide +kernel
theorem d_M_greatest_18 : decode b_M_greatest 18 = .ok (.ifCond .ge 20, 3) := by decide +kernel
theorem d_M_greatest_21 : decode b_M_greatest 21 = .ok (.aload_n 0, 1) := by decide +kernel
theorem d_M_greatest_22 : decode b_M_greatest 22 = .ok (.iload_n 2, 1) := by decide +kernel
theorem d_M_greatest_23 : decode b_M_greatest 23 = .ok (.invokevirtual 50, 3) := by decide +kernel
theorem d_M_greatest_26 : decode b_M_greatest 26 = .ok (.iload_n 1, 1) := by decide +kernel
theorem d_M_greatest_27 : decode b_M_greatest 27 = .ok (.if_icmp .le 11, 3) := by decide +kernel
theorem d_M_greatest_30 : decode b_M_greatest 30 = .ok (.aload_n 0, 1) := by decide +kernel
theorem d_M_greatest_31 : decode b_M_greatest 31 = .ok (.iload_n 2, 1) := by decide +kernel
theorem d_M_greatest_32 : decode b_M_greatest 32 = .ok (.invokevirtual 50, 3) := by decide +kernel
theorem d_M_greatest_35 : decode b_M_greatest 35 = .ok (.goto 4, 3) := by decide +kernel
theorem d_M_greatest_38 : decode b_M_greatest 38 = .ok (.iload_n 1, 1) := by decide +kernel
theorem d_M_greatest_39 : decode b_M_greatest 39 = .ok (.istore_n 1, 1) := by decide +kernel
theorem d_M_greatest_40 : decode b_M_greatest 40 = .ok (.iload_n 2, 1) := by decide +kernel
theorem d_M_greatest_41 : decode b_M_greatest 41 = .ok (.aload_n 0, 1) := by decide +kernel
