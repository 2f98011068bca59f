theorem d_S_greatestFree_30 : decode b_S_greatestFree 30 = .ok (.istore_n 1, 1) := by decide +kernel
theorem d_S_greatestFree_31 : decode b_S_greatestFree 31 = .ok (.aload_n 2, 1) := by decide +kernel
theorem d_S_greatestFree_32 : decode b_S_greatestFree 32 = .ok (.getfield 69, 3) := by decide +kernel
theorem d_S_greatestFree_35 : decode b_S_greatestFree 35 = .ok (.astore_n 2, 1) := by decide +kernel
theorem d_S_greatestFree_36 : decode b_S_greatestFree 36 = .ok (.goto (-29), 3) := by decide +kernel
theorem d_S_greatestFree_39 : decode b_S_greatestFree 39 = .ok (.iload_n 1, 1) := by decide +kernel
theorem d_S_greatestFree_40 : decode b_S_greatestFree 40 = .ok (.ireturn, 1) := by decide +kernel
theorem d_S_isMarkRight_0 : decode b_S_isMarkRight 0 = .ok (.aload_n 0, 1) := by decide +kernel
theorem d_S_isMarkRight_1 : decode b_S_isMarkRight 1 = .ok (.getfield 50, 3) := by decide +kernel
theorem d_S_isMarkRight_4 : decode b_S_isMarkRight 4 = .ok (.ifCond .eq 14, 3) := by decide +kernel
theorem d_S_isMarkRight_7 : decode b_S_isMarkRight 7 = .ok (.aload_n 0, 1) := by decide +kernel
theorem d_S_isMarkRight_8 : decode b_S_isMarkRight 8 = .ok (.getfield 37, 3) := by decide +kernel
theorem d_S_isMarkRight_11 : decode b_S_isMarkRight 11 = .ok (.ifCond .eq 11, 3) := by decide +kernel
theorem d_S_isMarkRight_14 : decode b_S_isMarkRight 14 = .ok (.iload_n 1, 1) := by decide +kernel
theorem d_S_isMarkRight_15 : decode b_S_isMarkRight 15 = .ok (.ifCond .eq 7, 3) := by decide +kernel
theorem d_S_isMarkRight_18 : decode b_S_isMarkRight 18 = .ok (.iconst 1, 1) := by decide +kernel
theorem d_S_isMarkRight_19 : decode b_S_isMarkRight 19 = .ok (.goto 4, 3) := by decide +kernel
theorem d_S_isMarkRight_22 : decode b_S_isMarkRight 22 = .ok (.iconst 0, 1) := by decide +kernel
theorem d_S_isMarkRight_23 : decode b_S_isMarkRight 23 = .ok (.ireturn, 1) := by decide +kernel
theorem d_S_isTimeRight_0 : decode b_S_isTimeRight 0 = .ok (.aload_n 1, 1) := by decide +kernel
theorem d_S_isTimeRight_1 : decode b_S_isTimeRight 1 = .ok (.getfield 37, 3) := by decide +kernel
theorem d_S_isTimeRight_4 : decode b_S_isTimeRight 4 = .ok (.ifCond .ne 24, 3) := by decide +kernel
theorem d_S_isTimeRight_7 : decode b_S_isTimeRight 7 = .ok (.aload_n 1, 1) := by decide +kernel
theorem d_S_isTimeRight_8 : decode b_S_isTimeRight 8 = .ok (.getfield 114, 3) := by decide +kernel
theorem d_S_isTimeRight_11 : decode b_S_isTimeRight 11 = .ok (.lconst 1, 1) := by decide +kernel
theorem d_S_isTimeRight_12 : decode b_S_isTimeRight 12 = .ok (.lcmp, 1) := by decide +kernel
theorem d_S_isTimeRight_13 : decode b_S_isTimeRight 13 = .ok (.ifCond .lt 19, 3) := by decide +kernel
theorem d_S_isTimeRight_16 : decode b_S_isTimeRight 16 = .ok (.aload_n 1, 1) := by decide +kernel
theorem d_S_isTimeRight_17 : decode b_S_isTimeRight 17 = .ok (.getfield 114, 3) := by decide +kernel
theorem d_S_isTimeRight_20 : decode b_S_isTimeRight 20 = .ok (.aload_n 0, 1) := by decide +kernel
theorem d_S_isTimeRight_21 : decode b_S_isTimeRight 21 = .ok (.getfield 110, 3) := by decide +kernel
theorem d_S_isTimeRight_24 : decode b_S_isTimeRight 24 = .ok (.lcmp, 1) := by decide +kernel
theorem d_S_isTimeRight_25 : decode b_S_isTimeRight 25 = .ok (.ifCond .gt 7, 3) := by decide +kernel
theorem d_S_isTimeRight_28 : decode b_S_isTimeRight 28 = .ok (.iconst 1, 1) := by decide +kernel
theorem d_S_isTimeRight_29 : decode b_S_isTimeRight 29 = .ok (.goto 4, 3) := by decide +kernel
theorem d_S_isTimeRight_32 : decode b_S_isTimeRight 32 = .ok (.iconst 0, 1) := by decide +kernel
theorem d_S_isTimeRight_33 : decode b_S_isTimeRight 33 = .ok (.ireturn, 1) := by decide +kernel
theorem d_M_init_0 : decode b_M_init 0 = .ok (.aload_n 0, 1) := by decide +kernel
theorem d_M_init_1 : decode b_M_init 1 = .ok (.invokespecial 1, 3) := by decide +kernel
theorem d_M_init_4 : decode b_M_init 4 = .ok (.aload_n 0, 1) := by decide +kernel
theorem d_M_init_5 : decode b_M_init 5 = .ok (.sipush 1024, 3) := by decide +kernel
theorem d_M_init_8 : decode b_M_init 8 = .ok (.putfield 7, 3) := by decide +kernel
theorem d_M_init_11 : decode b_M_init 11 = .ok (.aload_n 0, 1) := by decide +kernel
theorem d_M_init_12 : decode b_M_init 12 = .ok (.sipush 16386, 3) := by decide +kernel
theorem d_M_init_15 : decode b_M_init 15 = .ok (.newarray .int, 2) := by decide +kernel
theorem d_M_init_17 : decode b_M_init 17 = .ok (.putfield 13, 3) := by decide +kernel
theorem d_M_init_20 : decode b_M_init 20 = .ok (.aload_n 0, 1) := by decide +kernel
theorem d_M_init_21 : decode b_M_init 21 = .ok (.sipush 16386, 3) := by decide +kernel
theorem d_M_init_24 : decode b_M_init 24 = .ok (.newarray .int, 2) := by decide +kernel
theorem d_M_init_26 : decode b_M_init 26 = .ok (.putfield 17, 3) := by decide +kernel
theorem d_M_init_29 : decode b_M_init 29 = .ok (.aload_n 0, 1) := by decide +kernel
theorem d_M_init_30 : decode b_M_init 30 = .ok (.sipush 16386, 3) := by decide +kernel
theorem d_M_init_33 : decode b_M_init 33 = .ok (.newarray .boolean, 2) := by decide +kernel
theorem d_M_init_35 : decode b_M_init 35 = .ok (.putfield 20, 3) := by decide +kernel
theorem d_M_init_38 : decode b_M_init 38 = .ok (.aload_n 0, 1) := by decide +kernel
theorem d_M_init_39 : decode b_M_init 39 = .ok (.getfield 13, 3) := by decide +kernel
theorem d_M_init_42 : decode b_M_init 42 = .ok (.iconst 1, 1) := by decide +kernel
theorem d_M_init_43 : decode b_M_init 43 = .ok (.sipush (-1024), 3) := by decide +kernel
theorem d_M_init_46 : decode b_M_init 46 = .ok (.iastore, 1) := by decide +kernel
theorem d_M_init_47 : decode b_M_init 47 = .ok (.return_, 1) := by decide +kernel
theorem d_M_thrown_0 : decode b_M_thrown 0 = .ok (.aload_n 0, 1) := by decide +kernel
theorem d_M_thrown_1 : decode b_M_thrown 1 = .ok (.getfield 24, 3) := by decide +kernel
theorem d_M_thrown_4 : decode b_M_thrown 4 = .ok (.ireturn, 1) := by decide +kernel
theorem d_M_goes_0 : decode b_M_goes 0 = .ok (.aload_n 0, 1) := by decide +kernel
theorem d_M_goes_1 : decode b_M_goes 1 = .ok (.iload_n 1, 1) := by decide +kernel
theorem d_M_goes_2 : decode b_M_goes 2 = .ok (.ifCond .ne 7, 3) := by decide +kernel
theorem d_M_goes_5 : decode b_M_goes 5 = .ok (.iconst 1, 1) := by decide +kernel
theorem d_M_goes_6 : decode b_M_goes 6 = .ok (.goto 12, 3) := by decide +kernel
theorem d_M_goes_9 : decode b_M_goes 9 = .ok (.iload_n 2, 1) := by decide +kernel
theorem d_M_goes_10 : decode b_M_goes 10 = .ok (.ifCond .ne 7, 3) := by decide +kernel
theorem d_M_goes_13 : decode b_M_goes 13 = .ok (.iconst 2, 1) := by decide +kernel
theorem d_M_goes_14 : decode b_M_goes 14 = .ok (.goto 4, 3) := by decide +kernel
theorem d_M_goes_17 : decode b_M_goes 17 = .ok (.iconst 0, 1) := by decide +kernel
theorem d_M_goes_18 : decode b_M_goes 18 = .ok (.putfield 24, 3) := by decide +kernel
theorem d_M_goes_21 : decode b_M_goes 21 = .ok (.aload_n 0, 1) := by decide +kernel
theorem d_M_goes_22 : decode b_M_goes 22 = .ok (.getfield 24, 3) := by decide +kernel
theorem d_M_goes_25 : decode b_M_goes 25 = .ok (.ifCond .ne 7, 3) := by decide +kernel
theorem d_M_goes_28 : decode b_M_goes 28 = .ok (.iconst 1, 1) := by decide +kernel
theorem d_M_goes_29 : decode b_M_goes 29 = .ok (.goto 4, 3) := by decide +kernel
theorem d_M_goes_32 : decode b_M_goes 32 = .ok (.iconst 0, 1) := by decide +kernel
theorem d_M_goes_33 : decode b_M_goes 33 = .ok (.ireturn, 1) := by decide +kernel
theorem d_M_length_0 : decode b_M_length 0 = .ok (.aload_n 0, 1) := by decide +kernel
theorem d_M_length_1 : decode b_M_length 1 = .ok (.getfield 13, 3) := by decide +kernel
theorem d_M_length_4 : decode b_M_length 4 = .ok (.iload_n 1, 1) := by decide +kernel
theorem d_M_length_5 : decode b_M_length 5 = .ok (.iaload, 1) := by decide +kernel
theorem d_M_length_6 : decode b_M_length 6 = .ok (.ifCond .ge 14, 3) := by decide +kernel
theorem d_M_length_9 : decode b_M_length 9 = .ok (.iconst 0, 1) := by decide +kernel
theorem d_M_length_10 : decode b_M_length 10 = .ok (.aload_n 0, 1) := by decide +kernel
theorem d_M_length_11 : decode b_M_length 11 = .ok (.getfield 13, 3) := by decide +kernel
theorem d_M_length_14 : decode b_M_length 14 = .ok (.iload_n 1, 1) := by decide +kernel
theorem d_M_length_15 : decode b_M_length 15 = .ok (.iaload, 1) := by decide +kernel
theorem d_M_length_16 : decode b_M_length 16 = .ok (.isub, 1) := by decide +kernel
theorem d_M_length_17 : decode b_M_length 17 = .ok (.goto 9, 3) := by decide +kernel
theorem d_M_length_20 : decode b_M_length 20 = .ok (.aload_n 0, 1) := by decide +kernel
theorem d_M_length_21 : decode b_M_length 21 = .ok (.getfield 13, 3) := by decide +kernel
theorem d_M_length_24 : decode b_M_length 24 = .ok (.iload_n 1, 1) := by decide +kernel
theorem d_M_length_25 : decode b_M_length 25 = .ok (.iaload, 1) := by decide +kernel
theorem d_M_length_26 : decode b_M_length 26 = .ok (.ireturn, 1) := by decide +kernel
theorem d_M_release_0 : decode b_M_release 0 = .ok (.aload_n 0, 1) := by decide +kernel
theorem d_M_release_1 : decode b_M_release 1 = .ok (.dup, 1) := by decide +kernel
theorem d_M_release_2 : decode b_M_release 2 = .ok (.getfield 27, 3) := by decide +kernel
theorem d_M_release_5 : decode b_M_release 5 = .ok (.iconst 1, 1) := by decide +kernel
theorem d_M_release_6 : decode b_M_release 6 = .ok (.iadd, 1) := by decide +kernel
theorem d_M_release_7 : decode b_M_release 7 = .ok (.putfield 27, 3) := by decide +kernel
theorem d_M_release_10 : decode b_M_release 10 = .ok (.aload_n 0, 1) := by decide +kernel
theorem d_M_release_11 : decode b_M_release 11 = .ok (.getfield 13, 3) := by decide +kernel
theorem d_M_release_14 : decode b_M_release 14 = .ok (.iload_n 1, 1) := by decide +kernel
theorem d_M_release_15 : decode b_M_release 15 = .ok (.iconst 0, 1) := by decide +kernel
theorem d_M_release_16 : decode b_M_release 16 = .ok (.iload_n 2, 1) := by decide +kernel
theorem d_M_release_17 : decode b_M_release 17 = .ok (.isub, 1) := by decide +kernel
theorem d_M_release_18 : decode b_M_release 18 = .ok (.iastore, 1) := by decide +kernel
theorem d_M_release_19 : decode b_M_release 19 = .ok (.aload_n 0, 1) := by decide +kernel
theorem d_M_release_20 : decode b_M_release 20 = .ok (.getfield 17, 3) := by decide +kernel
theorem d_M_release_23 : decode b_M_release 23 = .ok (.iload_n 1, 1) := by decide +kernel
theorem d_M_release_24 : decode b_M_release 24 = .ok (.aload_n 0, 1) := by decide +kernel
theorem d_M_release_25 : decode b_M_release 25 = .ok (.getfield 27, 3) := by decide +kernel
theorem d_M_release_28 : decode b_M_release 28 = .ok (.iastore, 1) := by decide +kernel
theorem d_M_release_29 : decode b_M_release 29 = .ok (.aload_n 0, 1) := by decide +kernel
theorem d_M_release_30 : decode b_M_release 30 = .ok (.getfield 20, 3) := by decide +kernel
theorem d_M_release_33 : decode b_M_release 33 = .ok (.iload_n 1, 1) := by decide +kernel
theorem d_M_release_34 : decode b_M_release 34 = .ok (.iconst 0, 1) := by decide +kernel
theorem d_M_release_35 : decode b_M_release 35 = .ok (.bastore, 1) := by decide +kernel
theorem d_M_release_36 : decode b_M_release 36 = .ok (.return_, 1) := by decide +kernel
theorem d_M_space_0 : decode b_M_space 0 = .ok (.aload_n 0, 1) := by decide +kernel
theorem d_M_space_1 : decode b_M_space 1 = .ok (.iload_n 1, 1) := by decide +kernel
theorem d_M_space_2 : decode b_M_space 2 = .ok (.bipush 16, 2) := by decide +kernel
theorem d_M_space_4 : decode b_M_space 4 = .ok (.if_icmp .lt 14, 3) := by decide +kernel
theorem d_M_space_7 : decode b_M_space 7 = .ok (.iload_n 1, 1) := by decide +kernel
theorem d_M_space_8 : decode b_M_space 8 = .ok (.sipush 16384, 3) := by decide +kernel
theorem d_M_space_11 : decode b_M_space 11 = .ok (.if_icmp .gt 7, 3) := by decide +kernel
theorem d_M_space_14 : decode b_M_space 14 = .ok (.iconst 1, 1) := by decide +kernel
theorem d_M_space_15 : decode b_M_space 15 = .ok (.goto 4, 3) := by decide +kernel
theorem d_M_space_18 : decode b_M_space 18 = .ok (.iconst 0, 1) := by decide +kernel
theorem d_M_space_19 : decode b_M_space 19 = .ok (.iconst 1, 1) := by decide +kernel
theorem d_M_space_20 : decode b_M_space 20 = .ok (.invokevirtual 30, 3) := by decide +kernel
theorem d_M_space_23 : decode b_M_space 23 = .ok (.ifCond .ne 5, 3) := by decide +kernel
theorem d_M_space_26 : decode b_M_space 26 = .ok (.iconst 0, 1) := by decide +kernel
theorem d_M_space_27 : decode b_M_space 27 = .ok (.ireturn, 1) := by decide +kernel
theorem d_M_space_28 : decode b_M_space 28 = .ok (.aload_n 0, 1) := by decide +kernel
theorem d_M_space_29 : decode b_M_space 29 = .ok (.getfield 7, 3) := by decide +kernel
theorem d_M_space_32 : decode b_M_space 32 = .ok (.istore_n 2, 1) := by decide +kernel
theorem d_M_space_33 : decode b_M_space 33 = .ok (.iconst 1, 1) := by decide +kernel
theorem d_M_space_34 : decode b_M_space 34 = .ok (.istore_n 3, 1) := by decide +kernel
theorem d_M_space_35 : decode b_M_space 35 = .ok (.iload_n 3, 1) := by decide +kernel
theorem d_M_space_36 : decode b_M_space 36 = .ok (.sipush 16384, 3) := by decide +kernel
theorem d_M_space_39 : decode b_M_space 39 = .ok (.if_icmp .gt 23, 3) := by decide +kernel
theorem d_M_space_42 : decode b_M_space 42 = .ok (.aload_n 0, 1) := by decide +kernel
theorem d_M_space_43 : decode b_M_space 43 = .ok (.getfield 13, 3) := by decide +kernel
theorem d_M_space_46 : decode b_M_space 46 = .ok (.iload_n 3, 1) := by decide +kernel
theorem d_M_space_47 : decode b_M_space 47 = .ok (.iconst 0, 1) := by decide +kernel
theorem d_M_space_48 : decode b_M_space 48 = .ok (.iastore, 1) := by decide +kernel
theorem d_M_space_49 : decode b_M_space 49 = .ok (.aload_n 0, 1) := by decide +kernel
theorem d_M_space_50 : decode b_M_space 50 = .ok (.getfield 20, 3) := by decide +kernel
theorem d_M_space_53 : decode b_M_space 53 = .ok (.iload_n 3, 1) := by decide +kernel
theorem d_M_space_54 : decode b_M_space 54 = .ok (.iconst 0, 1) := by decide +kernel
theorem d_M_space_55 : decode b_M_space 55 = .ok (.bastore, 1) := by decide +kernel
theorem d_M_space_56 : decode b_M_space 56 = .ok (.iinc 3 1, 3) := by decide +kernel
theorem d_M_space_59 : decode b_M_space 59 = .ok (.goto (-24), 3) := by decide +kernel
theorem d_M_space_62 : decode b_M_space 62 = .ok (.aload_n 0, 1) := by decide +kernel
theorem d_M_space_63 : decode b_M_space 63 = .ok (.iload_n 1, 1) := by decide +kernel
theorem d_M_space_64 : decode b_M_space 64 = .ok (.putfield 7, 3) := by decide +kernel
theorem d_M_space_67 : decode b_M_space 67 = .ok (.aload_n 0, 1) := by decide +kernel
theorem d_M_space_68 : decode b_M_space 68 = .ok (.iconst 0, 1) := by decide +kernel
theorem d_M_space_69 : decode b_M_space 69 = .ok (.putfield 34, 3) := by decide +kernel
theorem d_M_space_72 : decode b_M_space 72 = .ok (.aload_n 0, 1) := by decide +kernel
theorem d_M_space_73 : decode b_M_space 73 = .ok (.iconst 0, 1) := by decide +kernel
theorem d_M_space_74 : decode b_M_space 74 = .ok (.putfield 37, 3) := by decide +kernel
theorem d_M_space_77 : decode b_M_space 77 = .ok (.aload_n 0, 1) := by decide +kernel
theorem d_M_space_78 : decode b_M_space 78 = .ok (.iconst 0, 1) := by decide +kernel
theorem d_M_space_79 : decode b_M_space 79 = .ok (.putfield 40, 3) := by decide +kernel
theorem d_M_space_82 : decode b_M_space 82 = .ok (.aload_n 0, 1) := by decide +kernel
theorem d_M_space_83 : decode b_M_space 83 = .ok (.iconst 0, 1) := by decide +kernel
theorem d_M_space_84 : decode b_M_space 84 = .ok (.putfield 43, 3) := by decide +kernel
theorem d_M_space_87 : decode b_M_space 87 = .ok (.aload_n 0, 1) := by decide +kernel
theorem d_M_space_88 : decode b_M_space 88 = .ok (.iconst 1, 1) := by decide +kernel
theorem d_M_space_89 : decode b_M_space 89 = .ok (.iload_n 1, 1) := by decide +kernel
theorem d_M_space_90 : decode b_M_space 90 = .ok (.invokevirtual 46, 3) := by decide +kernel
theorem d_M_space_93 : decode b_M_space 93 = .ok (.iload_n 2, 1) := by decide +kernel
theorem d_M_space_94 : decode b_M_space 94 = .ok (.ireturn, 1) := by decide +kernel
theorem d_M_best_0 : decode b_M_best 0 = .ok (.iconst 0, 1) := by decide +kernel
theorem d_M_best_1 : decode b_M_best 1 = .ok (.istore_n 2, 1) := by decide +kernel
theorem d_M_best_2 : decode b_M_best 2 = .ok (.iconst 1, 1) := by decide +kernel
theorem d_M_best_3 : decode b_M_best 3 = .ok (.istore_n 3, 1) := by decide +kernel
theorem d_M_best_4 : decode b_M_best 4 = .ok (.iload_n 3, 1) := by decide +kernel
theorem d_M_best_5 : decode b_M_best 5 = .ok (.aload_n 0, 1) := by decide +kernel
theorem d_M_best_6 : decode b_M_best 6 = .ok (.getfield 7, 3) := by decide +kernel
theorem d_M_best_9 : decode b_M_best 9 = .ok (.if_icmp .gt 109, 3) := by decide +kernel
theorem d_M_best_12 : decode b_M_best 12 = .ok (.aload_n 0, 1) := by decide +kernel
theorem d_M_best_13 : decode b_M_best 13 = .ok (.getfield 13, 3) := by decide +kernel
theorem d_M_best_16 : decode b_M_best 16 = .ok (.iload_n 3, 1) := by decide +kernel
theorem d_M_best_17 : decode b_M_best 17 = .ok (.iaload, 1) := by decide +kernel
theorem d_M_best_18 : decode b_M_best 18 = .ok (.bipush (-3), 2) := by decide +kernel
theorem d_M_best_20 : decode b_M_best 20 = .ok (.if_icmp .gt 16, 3) := by decide +kernel
theorem d_M_best_23 : decode b_M_best 23 = .ok (.aload_n 0, 1) := by decide +kernel
theorem d_M_best_24 : decode b_M_best 24 = .ok (.iload_n 3, 1) := by decide +kernel
theorem d_M_best_25 : decode b_M_best 25 = .ok (.invokevirtual 50, 3) := by decide +kernel
theorem d_M_best_28 : decode b_M_best 28 = .ok (.iload_n 1, 1) := by decide +kernel
theorem d_M_best_29 : decode b_M_best 29 = .ok (.if_icmp .lt 7, 3) := by decide +kernel
theorem d_M_best_32 : decode b_M_best 32 = .ok (.iconst 1, 1) := by decide +kernel
theorem d_M_best_33 : decode b_M_best 33 = .ok (.goto 4, 3) := by decide +kernel
theorem d_M_best_36 : decode b_M_best 36 = .ok (.iconst 0, 1) := by decide +kernel
theorem d_M_best_37 : decode b_M_best 37 = .ok (.istore 4, 2) := by decide +kernel
theorem d_M_best_39 : decode b_M_best 39 = .ok (.iload_n 2, 1) := by decide +kernel
theorem d_M_best_40 : decode b_M_best 40 = .ok (.ifCond .eq 44, 3) := by decide +kernel
theorem d_M_best_43 : decode b_M_best 43 = .ok (.aload_n 0, 1) := by decide +kernel
theorem d_M_best_44 : decode b_M_best 44 = .ok (.iload_n 3, 1) := by decide +kernel
theorem d_M_best_45 : decode b_M_best 45 = .ok (.invokevirtual 50, 3) := by decide +kernel
theorem d_M_best_48 : decode b_M_best 48 = .ok (.aload_n 0, 1) := by decide +kernel
theorem d_M_best_49 : decode b_M_best 49 = .ok (.iload_n 2, 1) := by decide +kernel
theorem d_M_best_50 : decode b_M_best 50 = .ok (.invokevirtual 50, 3) := by decide +kernel
theorem d_M_best_53 : decode b_M_best 53 = .ok (.if_icmp .lt 31, 3) := by decide +kernel
theorem d_M_best_56 : decode b_M_best 56 = .ok (.aload_n 0, 1) := by decide +kernel
theorem d_M_best_57 : decode b_M_best 57 = .ok (.iload_n 3, 1) := by decide +kernel
theorem d_M_best_58 : decode b_M_best 58 = .ok (.invokevirtual 50, 3) := by decide +kernel
theorem d_M_best_61 : decode b_M_best 61 = .ok (.aload_n 0, 1) := by decide +kernel
theorem d_M_best_62 : decode b_M_best 62 = .ok (.iload_n 2, 1) := by decide +kernel
theorem d_M_best_63 : decode b_M_best 63 = .ok (.invokevirtual 50, 3) := by decide +kernel
theorem d_M_best_66 : decode b_M_best 66 = .ok (.if_icmp .ne 22, 3) := by decide +kernel
theorem d_M_best_69 : decode b_M_best 69 = .ok (.aload_n 0, 1) := by decide +kernel
theorem d_M_best_70 : decode b_M_best 70 = .ok (.getfield 17, 3) := by decide +kernel
theorem d_M_best_73 : decode b_M_best 73 = .ok (.iload_n 3, 1) := by decide +kernel
theorem d_M_best_74 : decode b_M_best 74 = .ok (.iaload, 1) := by decide +kernel
theorem d_M_best_75 : decode b_M_best 75 = .ok (.aload_n 0, 1) := by decide +kernel
theorem d_M_best_76 : decode b_M_best 76 = .ok (.getfield 17, 3) := by decide +kernel
theorem d_M_best_79 : decode b_M_best 79 = .ok (.iload_n 2, 1) := by decide +kernel
theorem d_M_best_80 : decode b_M_best 80 = .ok (.iaload, 1) := by decide +kernel
theorem d_M_best_81 : decode b_M_best 81 = .ok (.if_icmp .le 7, 3) := by decide +kernel
theorem d_M_best_84 : decode b_M_best 84 = .ok (.iconst 1, 1) := by decide +kernel
theorem d_M_best_85 : decode b_M_best 85 = .ok (.goto 4, 3) := by decide +kernel
theorem d_M_best_88 : decode b_M_best 88 = .ok (.iconst 0, 1) := by decide +kernel
theorem d_M_best_89 : decode b_M_best 89 = .ok (.istore 5, 2) := by decide +kernel
theorem d_M_best_91 : decode b_M_best 91 = .ok (.iload 4, 2) := by decide +kernel
theorem d_M_best_93 : decode b_M_best 93 = .ok (.ifCond .eq 12, 3) := by decide +kernel
theorem d_M_best_96 : decode b_M_best 96 = .ok (.iload 5, 2) := by decide +kernel
theorem d_M_best_98 : decode b_M_best 98 = .ok (.ifCond .eq 7, 3) := by decide +kernel
theorem d_M_best_101 : decode b_M_best 101 = .ok (.iload_n 3, 1) := by decide +kernel
theorem d_M_best_102 : decode b_M_best 102 = .ok (.goto 4, 3) := by decide +kernel
theorem d_M_best_105 : decode b_M_best 105 = .ok (.iload_n 2, 1) := by decide +kernel
theorem d_M_best_106 : decode b_M_best 106 = .ok (.istore_n 2, 1) := by decide +kernel
theorem d_M_best_107 : decode b_M_best 107 = .ok (.iload_n 3, 1) := by decide +kernel
theorem d_M_best_108 : decode b_M_best 108 = .ok (.aload_n 0, 1) := by decide +kernel
theorem d_M_best_109 : decode b_M_best 109 = .ok (.iload_n 3, 1) := by decide +kernel
theorem d_M_best_110 : decode b_M_best 110 = .ok (.invokevirtual 50, 3) := by decide +kernel
theorem d_M_best_113 : decode b_M_best 113 = .ok (.iadd, 1) := by decide +kernel
theorem d_M_best_114 : decode b_M_best 114 = .ok (.istore_n 3, 1) := by decide +kernel
theorem d_M_best_115 : decode b_M_best 115 = .ok (.goto (-111), 3) := by decide +kernel
theorem d_M_best_118 : decode b_M_best 118 = .ok (.iload_n 2, 1) := by decide +kernel
theorem d_M_best_119 : decode b_M_best 119 = .ok (.ireturn, 1) := by decide +kernel
theorem d_M_take_0 : decode b_M_take 0 = .ok (.aload_n 0, 1) := by decide +kernel
theorem d_M_take_1 : decode b_M_take 1 = .ok (.iload_n 1, 1) := by decide +kernel
theorem d_M_take_2 : decode b_M_take 2 = .ok (.iconst 3, 1) := by decide +kernel
theorem d_M_take_3 : decode b_M_take 3 = .ok (.if_icmp .lt 14, 3) := by decide +kernel
theorem d_M_take_6 : decode b_M_take 6 = .ok (.iload_n 1, 1) := by decide +kernel
theorem d_M_take_7 : decode b_M_take 7 = .ok (.sipush 2000, 3) := by decide +kernel
theorem d_M_take_10 : decode b_M_take 10 = .ok (.if_icmp .gt 7, 3) := by decide +kernel
theorem d_M_take_13 : decode b_M_take 13 = .ok (.iconst 1, 1) := by decide +kernel
theorem d_M_take_14 : decode b_M_take 14 = .ok (.goto 4, 3) := by decide +kernel
theorem d_M_take_17 : decode b_M_take 17 = .ok (.iconst 0, 1) := by decide +kernel
theorem d_M_take_18 : decode b_M_take 18 = .ok (.iconst 1, 1) := by decide +kernel
theorem d_M_take_19 : decode b_M_take 19 = .ok (.invokevirtual 30, 3) := by decide +kernel
theorem d_M_take_22 : decode b_M_take 22 = .ok (.ifCond .ne 5, 3) := by decide +kernel
theorem d_M_take_25 : decode b_M_take 25 = .ok (.iconst 0, 1) := by decide +kernel
theorem d_M_take_26 : decode b_M_take 26 = .ok (.ireturn, 1) := by decide +kernel
theorem d_M_take_27 : decode b_M_take 27 = .ok (.aload_n 0, 1) := by decide +kernel
theorem d_M_take_28 : decode b_M_take 28 = .ok (.iload_n 1, 1) := by decide +kernel
theorem d_M_take_29 : decode b_M_take 29 = .ok (.invokevirtual 54, 3) := by decide +kernel
theorem d_M_take_32 : decode b_M_take 32 = .ok (.istore_n 2, 1) := by decide +kernel
theorem d_M_take_33 : decode b_M_take 33 = .ok (.iload_n 2, 1) := by decide +kernel
theorem d_M_take_34 : decode b_M_take 34 = .ok (.ifCond .ne 15, 3) := by decide +kernel
theorem d_M_take_37 : decode b_M_take 37 = .ok (.aload_n 0, 1) := by decide +kernel
theorem d_M_take_38 : decode b_M_take 38 = .ok (.dup, 1) := by decide +kernel
theorem d_M_take_39 : decode b_M_take 39 = .ok (.getfield 34, 3) := by decide +kernel
theorem d_M_take_42 : decode b_M_take 42 = .ok (.iconst 1, 1) := by decide +kernel
theorem d_M_take_43 : decode b_M_take 43 = .ok (.iadd, 1) := by decide +kernel
theorem d_M_take_44 : decode b_M_take 44 = .ok (.putfield 34, 3) := by decide +kernel
theorem d_M_take_47 : decode b_M_take 47 = .ok (.iconst 0, 1) := by decide +kernel
theorem d_M_take_48 : decode b_M_take 48 = .ok (.ireturn, 1) := by decide +kernel
theorem d_M_take_49 : decode b_M_take 49 = .ok (.aload_n 0, 1) := by decide +kernel
theorem d_M_take_50 : decode b_M_take 50 = .ok (.iload_n 2, 1) := by decide +kernel
theorem d_M_take_51 : decode b_M_take 51 = .ok (.invokevirtual 50, 3) := by decide +kernel
theorem d_M_take_54 : decode b_M_take 54 = .ok (.iload_n 1, 1) := by decide +kernel
theorem d_M_take_55 : decode b_M_take 55 = .ok (.isub, 1) := by decide +kernel
theorem d_M_take_56 : decode b_M_take 56 = .ok (.istore_n 3, 1) := by decide +kernel
theorem d_M_take_57 : decode b_M_take 57 = .ok (.aload_n 0, 1) := by decide +kernel
theorem d_M_take_58 : decode b_M_take 58 = .ok (.getfield 13, 3) := by decide +kernel
theorem d_M_take_61 : decode b_M_take 61 = .ok (.iload_n 2, 1) := by decide +kernel
theorem d_M_take_62 : decode b_M_take 62 = .ok (.iload_n 1, 1) := by decide +kernel
theorem d_M_take_63 : decode b_M_take 63 = .ok (.iastore, 1) := by decide +kernel
theorem d_M_take_64 : decode b_M_take 64 = .ok (.aload_n 0, 1) := by decide +kernel
theorem d_M_take_65 : decode b_M_take 65 = .ok (.getfield 20, 3) := by decide +kernel
theorem d_M_take_68 : decode b_M_take 68 = .ok (.iload_n 2, 1) := by decide +kernel
theorem d_M_take_69 : decode b_M_take 69 = .ok (.aload_n 0, 1) := by decide +kernel
theorem d_M_take_70 : decode b_M_take 70 = .ok (.getfield 43, 3) := by decide +kernel
theorem d_M_take_73 : decode b_M_take 73 = .ok (.ifCond .le 15, 3) := by decide +kernel
theorem d_M_take_76 : decode b_M_take 76 = .ok (.iload_n 2, 1) := by decide +kernel
theorem d_M_take_77 : decode b_M_take 77 = .ok (.aload_n 0, 1) := by decide +kernel
theorem d_M_take_78 : decode b_M_take 78 = .ok (.getfield 43, 3) := by decide +kernel
theorem d_M_take_81 : decode b_M_take 81 = .ok (.if_icmp .lt 7, 3) := by decide +kernel
theorem d_M_take_84 : decode b_M_take 84 = .ok (.iconst 1, 1) := by decide +kernel
theorem d_M_take_85 : decode b_M_take 85 = .ok (.goto 4, 3) := by decide +kernel
theorem d_M_take_88 : decode b_M_take 88 = .ok (.iconst 0, 1) := by decide +kernel
theorem d_M_take_89 : decode b_M_take 89 = .ok (.bastore, 1) := by decide +kernel
theorem d_M_take_90 : decode b_M_take 90 = .ok (.iload_n 3, 1) := by decide +kernel
theorem d_M_take_91 : decode b_M_take 91 = .ok (.ifCond .le 11, 3) := by decide +kernel
theorem d_M_take_94 : decode b_M_take 94 = .ok (.aload_n 0, 1) := by decide +kernel
theorem d_M_take_95 : decode b_M_take 95 = .ok (.iload_n 2, 1) := by decide +kernel
theorem d_M_take_96 : decode b_M_take 96 = .ok (.iload_n 1, 1) := by decide +kernel
theorem d_M_take_97 : decode b_M_take 97 = .ok (.iadd, 1) := by decide +kernel
theorem d_M_take_98 : decode b_M_take 98 = .ok (.iload_n 3, 1) := by decide +kernel
theorem d_M_take_99 : decode b_M_take 99 = .ok (.invokevirtual 46, 3) := by decide +kernel
theorem d_M_take_102 : decode b_M_take 102 = .ok (.iload_n 2, 1) := by decide +kernel
theorem d_M_take_103 : decode b_M_take 103 = .ok (.ireturn, 1) := by decide +kernel
theorem d_M_used_0 : decode b_M_used 0 = .ok (.iload_n 1, 1) := by decide +kernel
theorem d_M_used_1 : decode b_M_used 1 = .ok (.iconst 1, 1) := by decide +kernel
theorem d_M_used_2 : decode b_M_used 2 = .ok (.if_icmp .lt 24, 3) := by decide +kernel
theorem d_M_used_5 : decode b_M_used 5 = .ok (.iload_n 1, 1) := by decide +kernel
theorem d_M_used_6 : decode b_M_used 6 = .ok (.aload_n 0, 1) := by decide +kernel
theorem d_M_used_7 : decode b_M_used 7 = .ok (.getfield 7, 3) := by decide +kernel
theorem d_M_used_10 : decode b_M_used 10 = .ok (.if_icmp .gt 16, 3) := by decide +kernel
theorem d_M_used_13 : decode b_M_used 13 = .ok (.aload_n 0, 1) := by decide +kernel
theorem d_M_used_14 : decode b_M_used 14 = .ok (.getfield 13, 3) := by decide +kernel
theorem d_M_used_17 : decode b_M_used 17 = .ok (.iload_n 1, 1) := by decide +kernel
theorem d_M_used_18 : decode b_M_used 18 = .ok (.iaload, 1) := by decide +kernel
theorem d_M_used_19 : decode b_M_used 19 = .ok (.ifCond .le 7, 3) := by decide +kernel
theorem d_M_used_22 : decode b_M_used 22 = .ok (.iconst 1, 1) := by decide +kernel
theorem d_M_used_23 : decode b_M_used 23 = .ok (.goto 4, 3) := by decide +kernel
theorem d_M_used_26 : decode b_M_used 26 = .ok (.iconst 0, 1) := by decide +kernel
theorem d_M_used_27 : decode b_M_used 27 = .ok (.ireturn, 1) := by decide +kernel
theorem d_M_give_0 : decode b_M_give 0 = .ok (.aload_n 0, 1) := by decide +kernel
theorem d_M_give_1 : decode b_M_give 1 = .ok (.aload_n 0, 1) := by decide +kernel
