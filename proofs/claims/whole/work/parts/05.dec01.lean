theorem d_S_startAnew_20 : decode b_S_startAnew 20 = .ok (.aconst_null, 1) := by decide +kernel
theorem d_S_startAnew_21 : decode b_S_startAnew 21 = .ok (.putfield 43, 3) := by decide +kernel
theorem d_S_startAnew_24 : decode b_S_startAnew 24 = .ok (.aload_n 0, 1) := by decide +kernel
theorem d_S_startAnew_25 : decode b_S_startAnew 25 = .ok (.lconst 0, 1) := by decide +kernel
theorem d_S_startAnew_26 : decode b_S_startAnew 26 = .ok (.putfield 110, 3) := by decide +kernel
theorem d_S_startAnew_29 : decode b_S_startAnew 29 = .ok (.aload_n 0, 1) := by decide +kernel
theorem d_S_startAnew_30 : decode b_S_startAnew 30 = .ok (.iconst 0, 1) := by decide +kernel
theorem d_S_startAnew_31 : decode b_S_startAnew 31 = .ok (.putfield 30, 3) := by decide +kernel
theorem d_S_startAnew_34 : decode b_S_startAnew 34 = .ok (.aload_n 0, 1) := by decide +kernel
theorem d_S_startAnew_35 : decode b_S_startAnew 35 = .ok (.iconst 0, 1) := by decide +kernel
theorem d_S_startAnew_36 : decode b_S_startAnew 36 = .ok (.putfield 88, 3) := by decide +kernel
theorem d_S_startAnew_39 : decode b_S_startAnew 39 = .ok (.aload_n 0, 1) := by decide +kernel
theorem d_S_startAnew_40 : decode b_S_startAnew 40 = .ok (.iconst 0, 1) := by decide +kernel
theorem d_S_startAnew_41 : decode b_S_startAnew 41 = .ok (.putfield 91, 3) := by decide +kernel
theorem d_S_startAnew_44 : decode b_S_startAnew 44 = .ok (.aload_n 0, 1) := by decide +kernel
theorem d_S_startAnew_45 : decode b_S_startAnew 45 = .ok (.aload_n 0, 1) := by decide +kernel
theorem d_S_startAnew_46 : decode b_S_startAnew 46 = .ok (.getfield 66, 3) := by decide +kernel
theorem d_S_startAnew_49 : decode b_S_startAnew 49 = .ok (.invokevirtual 56, 3) := by decide +kernel
theorem d_S_startAnew_52 : decode b_S_startAnew 52 = .ok (.return_, 1) := by decide +kernel
theorem d_S_comeToBeFree_0 : decode b_S_comeToBeFree 0 = .ok (.aload_n 1, 1) := by decide +kernel
theorem d_S_comeToBeFree_1 : decode b_S_comeToBeFree 1 = .ok (.iconst 0, 1) := by decide +kernel
theorem d_S_comeToBeFree_2 : decode b_S_comeToBeFree 2 = .ok (.putfield 37, 3) := by decide +kernel
theorem d_S_comeToBeFree_5 : decode b_S_comeToBeFree 5 = .ok (.aload_n 1, 1) := by decide +kernel
theorem d_S_comeToBeFree_6 : decode b_S_comeToBeFree 6 = .ok (.iconst 0, 1) := by decide +kernel
theorem d_S_comeToBeFree_7 : decode b_S_comeToBeFree 7 = .ok (.putfield 50, 3) := by decide +kernel
theorem d_S_comeToBeFree_10 : decode b_S_comeToBeFree 10 = .ok (.aload_n 0, 1) := by decide +kernel
theorem d_S_comeToBeFree_11 : decode b_S_comeToBeFree 11 = .ok (.dup, 1) := by decide +kernel
theorem d_S_comeToBeFree_12 : decode b_S_comeToBeFree 12 = .ok (.getfield 110, 3) := by decide +kernel
theorem d_S_comeToBeFree_15 : decode b_S_comeToBeFree 15 = .ok (.lconst 1, 1) := by decide +kernel
theorem d_S_comeToBeFree_16 : decode b_S_comeToBeFree 16 = .ok (.ladd, 1) := by decide +kernel
theorem d_S_comeToBeFree_17 : decode b_S_comeToBeFree 17 = .ok (.putfield 110, 3) := by decide +kernel
theorem d_S_comeToBeFree_20 : decode b_S_comeToBeFree 20 = .ok (.aload_n 1, 1) := by decide +kernel
theorem d_S_comeToBeFree_21 : decode b_S_comeToBeFree 21 = .ok (.aload_n 0, 1) := by decide +kernel
theorem d_S_comeToBeFree_22 : decode b_S_comeToBeFree 22 = .ok (.getfield 110, 3) := by decide +kernel
theorem d_S_comeToBeFree_25 : decode b_S_comeToBeFree 25 = .ok (.putfield 114, 3) := by decide +kernel
theorem d_S_comeToBeFree_28 : decode b_S_comeToBeFree 28 = .ok (.return_, 1) := by decide +kernel
theorem d_S_refuseDuringSweep_0 : decode b_S_refuseDuringSweep 0 = .ok (.aload_n 0, 1) := by decide +kernel
theorem d_S_refuseDuringSweep_1 : decode b_S_refuseDuringSweep 1 = .ok (.getfield 43, 3) := by decide +kernel
theorem d_S_refuseDuringSweep_4 : decode b_S_refuseDuringSweep 4 = .ok (.ifnull 13, 3) := by decide +kernel
theorem d_S_refuseDuringSweep_7 : decode b_S_refuseDuringSweep 7 = .ok (.new 117, 3) := by decide +kernel
theorem d_S_refuseDuringSweep_10 : decode b_S_refuseDuringSweep 10 = .ok (.dup, 1) := by decide +kernel
theorem d_S_refuseDuringSweep_11 : decode b_S_refuseDuringSweep 11 = .ok (.ldc 119, 2) := by decide +kernel
theorem d_S_refuseDuringSweep_13 : decode b_S_refuseDuringSweep 13 = .ok (.invokespecial 121, 3) := by decide +kernel
theorem d_S_refuseDuringSweep_16 : decode b_S_refuseDuringSweep 16 = .ok (.athrow, 1) := by decide +kernel
theorem d_S_refuseDuringSweep_17 : decode b_S_refuseDuringSweep 17 = .ok (.return_, 1) := by decide +kernel
theorem d_S_pieceAt_0 : decode b_S_pieceAt 0 = .ok (.aload_n 0, 1) := by decide +kernel
theorem d_S_pieceAt_1 : decode b_S_pieceAt 1 = .ok (.getfield 66, 3) := by decide +kernel
theorem d_S_pieceAt_4 : decode b_S_pieceAt 4 = .ok (.astore_n 2, 1) := by decide +kernel
theorem d_S_pieceAt_5 : decode b_S_pieceAt 5 = .ok (.aload_n 2, 1) := by decide +kernel
theorem d_S_pieceAt_6 : decode b_S_pieceAt 6 = .ok (.ifnull 29, 3) := by decide +kernel
theorem d_S_pieceAt_9 : decode b_S_pieceAt 9 = .ok (.aload_n 2, 1) := by decide +kernel
theorem d_S_pieceAt_10 : decode b_S_pieceAt 10 = .ok (.getfield 47, 3) := by decide +kernel
theorem d_S_pieceAt_13 : decode b_S_pieceAt 13 = .ok (.iload_n 1, 1) := by decide +kernel
theorem d_S_pieceAt_14 : decode b_S_pieceAt 14 = .ok (.if_icmp .gt 21, 3) := by decide +kernel
theorem d_S_pieceAt_17 : decode b_S_pieceAt 17 = .ok (.aload_n 2, 1) := by decide +kernel
theorem d_S_pieceAt_18 : decode b_S_pieceAt 18 = .ok (.getfield 47, 3) := by decide +kernel
theorem d_S_pieceAt_21 : decode b_S_pieceAt 21 = .ok (.iload_n 1, 1) := by decide +kernel
theorem d_S_pieceAt_22 : decode b_S_pieceAt 22 = .ok (.if_icmp .ne 5, 3) := by decide +kernel
theorem d_S_pieceAt_25 : decode b_S_pieceAt 25 = .ok (.aload_n 2, 1) := by decide +kernel
theorem d_S_pieceAt_26 : decode b_S_pieceAt 26 = .ok (.areturn, 1) := by decide +kernel
theorem d_S_pieceAt_27 : decode b_S_pieceAt 27 = .ok (.aload_n 2, 1) := by decide +kernel
theorem d_S_pieceAt_28 : decode b_S_pieceAt 28 = .ok (.getfield 69, 3) := by decide +kernel
theorem d_S_pieceAt_31 : decode b_S_pieceAt 31 = .ok (.astore_n 2, 1) := by decide +kernel
theorem d_S_pieceAt_32 : decode b_S_pieceAt 32 = .ok (.goto (-27), 3) := by decide +kernel
theorem d_S_pieceAt_35 : decode b_S_pieceAt 35 = .ok (.aconst_null, 1) := by decide +kernel
theorem d_S_pieceAt_36 : decode b_S_pieceAt 36 = .ok (.areturn, 1) := by decide +kernel
theorem d_S_usedPieceAt_0 : decode b_S_usedPieceAt 0 = .ok (.aload_n 0, 1) := by decide +kernel
theorem d_S_usedPieceAt_1 : decode b_S_usedPieceAt 1 = .ok (.iload_n 1, 1) := by decide +kernel
theorem d_S_usedPieceAt_2 : decode b_S_usedPieceAt 2 = .ok (.invokevirtual 77, 3) := by decide +kernel
theorem d_S_usedPieceAt_5 : decode b_S_usedPieceAt 5 = .ok (.astore_n 2, 1) := by decide +kernel
theorem d_S_usedPieceAt_6 : decode b_S_usedPieceAt 6 = .ok (.aload_n 2, 1) := by decide +kernel
theorem d_S_usedPieceAt_7 : decode b_S_usedPieceAt 7 = .ok (.ifnull 10, 3) := by decide +kernel
theorem d_S_usedPieceAt_10 : decode b_S_usedPieceAt 10 = .ok (.aload_n 2, 1) := by decide +kernel
theorem d_S_usedPieceAt_11 : decode b_S_usedPieceAt 11 = .ok (.getfield 37, 3) := by decide +kernel
theorem d_S_usedPieceAt_14 : decode b_S_usedPieceAt 14 = .ok (.ifCond .ne 13, 3) := by decide +kernel
theorem d_S_usedPieceAt_17 : decode b_S_usedPieceAt 17 = .ok (.new 122, 3) := by decide +kernel
theorem d_S_usedPieceAt_20 : decode b_S_usedPieceAt 20 = .ok (.dup, 1) := by decide +kernel
theorem d_S_usedPieceAt_21 : decode b_S_usedPieceAt 21 = .ok (.ldc 124, 2) := by decide +kernel
theorem d_S_usedPieceAt_23 : decode b_S_usedPieceAt 23 = .ok (.invokespecial 126, 3) := by decide +kernel
theorem d_S_usedPieceAt_26 : decode b_S_usedPieceAt 26 = .ok (.athrow, 1) := by decide +kernel
theorem d_S_usedPieceAt_27 : decode b_S_usedPieceAt 27 = .ok (.aload_n 2, 1) := by decide +kernel
theorem d_S_usedPieceAt_28 : decode b_S_usedPieceAt 28 = .ok (.areturn, 1) := by decide +kernel
theorem d_S_whatIsTakenFor_0 : decode b_S_whatIsTakenFor 0 = .ok (.aconst_null, 1) := by decide +kernel
theorem d_S_whatIsTakenFor_1 : decode b_S_whatIsTakenFor 1 = .ok (.astore_n 2, 1) := by decide +kernel
theorem d_S_whatIsTakenFor_2 : decode b_S_whatIsTakenFor 2 = .ok (.aload_n 0, 1) := by decide +kernel
theorem d_S_whatIsTakenFor_3 : decode b_S_whatIsTakenFor 3 = .ok (.getfield 66, 3) := by decide +kernel
theorem d_S_whatIsTakenFor_6 : decode b_S_whatIsTakenFor 6 = .ok (.astore_n 3, 1) := by decide +kernel
theorem d_S_whatIsTakenFor_7 : decode b_S_whatIsTakenFor 7 = .ok (.aload_n 3, 1) := by decide +kernel
theorem d_S_whatIsTakenFor_8 : decode b_S_whatIsTakenFor 8 = .ok (.ifnull 40, 3) := by decide +kernel
theorem d_S_whatIsTakenFor_11 : decode b_S_whatIsTakenFor 11 = .ok (.aload_n 3, 1) := by decide +kernel
theorem d_S_whatIsTakenFor_12 : decode b_S_whatIsTakenFor 12 = .ok (.invokevirtual 127, 3) := by decide +kernel
theorem d_S_whatIsTakenFor_15 : decode b_S_whatIsTakenFor 15 = .ok (.ifCond .eq 25, 3) := by decide +kernel
theorem d_S_whatIsTakenFor_18 : decode b_S_whatIsTakenFor 18 = .ok (.aload_n 3, 1) := by decide +kernel
theorem d_S_whatIsTakenFor_19 : decode b_S_whatIsTakenFor 19 = .ok (.getfield 60, 3) := by decide +kernel
theorem d_S_whatIsTakenFor_22 : decode b_S_whatIsTakenFor 22 = .ok (.iload_n 1, 1) := by decide +kernel
theorem d_S_whatIsTakenFor_23 : decode b_S_whatIsTakenFor 23 = .ok (.if_icmp .lt 17, 3) := by decide +kernel
theorem d_S_whatIsTakenFor_26 : decode b_S_whatIsTakenFor 26 = .ok (.aload_n 2, 1) := by decide +kernel
theorem d_S_whatIsTakenFor_27 : decode b_S_whatIsTakenFor 27 = .ok (.ifnull 11, 3) := by decide +kernel
theorem d_S_whatIsTakenFor_30 : decode b_S_whatIsTakenFor 30 = .ok (.aload_n 3, 1) := by decide +kernel
theorem d_S_whatIsTakenFor_31 : decode b_S_whatIsTakenFor 31 = .ok (.aload_n 2, 1) := by decide +kernel
theorem d_S_whatIsTakenFor_32 : decode b_S_whatIsTakenFor 32 = .ok (.invokestatic 131, 3) := by decide +kernel
theorem d_S_whatIsTakenFor_35 : decode b_S_whatIsTakenFor 35 = .ok (.ifCond .eq 5, 3) := by decide +kernel
theorem d_S_whatIsTakenFor_38 : decode b_S_whatIsTakenFor 38 = .ok (.aload_n 3, 1) := by decide +kernel
theorem d_S_whatIsTakenFor_39 : decode b_S_whatIsTakenFor 39 = .ok (.astore_n 2, 1) := by decide +kernel
theorem d_S_whatIsTakenFor_40 : decode b_S_whatIsTakenFor 40 = .ok (.aload_n 3, 1) := by decide +kernel
theorem d_S_whatIsTakenFor_41 : decode b_S_whatIsTakenFor 41 = .ok (.getfield 69, 3) := by decide +kernel
theorem d_S_whatIsTakenFor_44 : decode b_S_whatIsTakenFor 44 = .ok (.astore_n 3, 1) := by decide +kernel
theorem d_S_whatIsTakenFor_45 : decode b_S_whatIsTakenFor 45 = .ok (.goto (-38), 3) := by decide +kernel
theorem d_S_whatIsTakenFor_48 : decode b_S_whatIsTakenFor 48 = .ok (.aload_n 2, 1) := by decide +kernel
theorem d_S_whatIsTakenFor_49 : decode b_S_whatIsTakenFor 49 = .ok (.areturn, 1) := by decide +kernel
theorem d_S_isTakenBefore_0 : decode b_S_isTakenBefore 0 = .ok (.aload_n 0, 1) := by decide +kernel
theorem d_S_isTakenBefore_1 : decode b_S_isTakenBefore 1 = .ok (.getfield 60, 3) := by decide +kernel
theorem d_S_isTakenBefore_4 : decode b_S_isTakenBefore 4 = .ok (.aload_n 1, 1) := by decide +kernel
theorem d_S_isTakenBefore_5 : decode b_S_isTakenBefore 5 = .ok (.getfield 60, 3) := by decide +kernel
theorem d_S_isTakenBefore_8 : decode b_S_isTakenBefore 8 = .ok (.if_icmp .eq 20, 3) := by decide +kernel
theorem d_S_isTakenBefore_11 : decode b_S_isTakenBefore 11 = .ok (.aload_n 0, 1) := by decide +kernel
theorem d_S_isTakenBefore_12 : decode b_S_isTakenBefore 12 = .ok (.getfield 60, 3) := by decide +kernel
theorem d_S_isTakenBefore_15 : decode b_S_isTakenBefore 15 = .ok (.aload_n 1, 1) := by decide +kernel
theorem d_S_isTakenBefore_16 : decode b_S_isTakenBefore 16 = .ok (.getfield 60, 3) := by decide +kernel
theorem d_S_isTakenBefore_19 : decode b_S_isTakenBefore 19 = .ok (.if_icmp .ge 7, 3) := by decide +kernel
theorem d_S_isTakenBefore_22 : decode b_S_isTakenBefore 22 = .ok (.iconst 1, 1) := by decide +kernel
theorem d_S_isTakenBefore_23 : decode b_S_isTakenBefore 23 = .ok (.goto 4, 3) := by decide +kernel
theorem d_S_isTakenBefore_26 : decode b_S_isTakenBefore 26 = .ok (.iconst 0, 1) := by decide +kernel
theorem d_S_isTakenBefore_27 : decode b_S_isTakenBefore 27 = .ok (.ireturn, 1) := by decide +kernel
theorem d_S_isTakenBefore_28 : decode b_S_isTakenBefore 28 = .ok (.aload_n 0, 1) := by decide +kernel
theorem d_S_isTakenBefore_29 : decode b_S_isTakenBefore 29 = .ok (.getfield 114, 3) := by decide +kernel
theorem d_S_isTakenBefore_32 : decode b_S_isTakenBefore 32 = .ok (.aload_n 1, 1) := by decide +kernel
theorem d_S_isTakenBefore_33 : decode b_S_isTakenBefore 33 = .ok (.getfield 114, 3) := by decide +kernel
theorem d_S_isTakenBefore_36 : decode b_S_isTakenBefore 36 = .ok (.lcmp, 1) := by decide +kernel
theorem d_S_isTakenBefore_37 : decode b_S_isTakenBefore 37 = .ok (.ifCond .le 7, 3) := by decide +kernel
theorem d_S_isTakenBefore_40 : decode b_S_isTakenBefore 40 = .ok (.iconst 1, 1) := by decide +kernel
theorem d_S_isTakenBefore_41 : decode b_S_isTakenBefore 41 = .ok (.goto 4, 3) := by decide +kernel
theorem d_S_isTakenBefore_44 : decode b_S_isTakenBefore 44 = .ok (.iconst 0, 1) := by decide +kernel
theorem d_S_isTakenBefore_45 : decode b_S_isTakenBefore 45 = .ok (.ireturn, 1) := by decide +kernel
theorem d_S_cutTo_0 : decode b_S_cutTo 0 = .ok (.aload_n 1, 1) := by decide +kernel
theorem d_S_cutTo_1 : decode b_S_cutTo 1 = .ok (.getfield 60, 3) := by decide +kernel
theorem d_S_cutTo_4 : decode b_S_cutTo 4 = .ok (.iload_n 2, 1) := by decide +kernel
theorem d_S_cutTo_5 : decode b_S_cutTo 5 = .ok (.if_icmp .gt 4, 3) := by decide +kernel
theorem d_S_cutTo_8 : decode b_S_cutTo 8 = .ok (.return_, 1) := by decide +kernel
theorem d_S_cutTo_9 : decode b_S_cutTo 9 = .ok (.new 38, 3) := by decide +kernel
theorem d_S_cutTo_12 : decode b_S_cutTo 12 = .ok (.dup, 1) := by decide +kernel
theorem d_S_cutTo_13 : decode b_S_cutTo 13 = .ok (.aload_n 1, 1) := by decide +kernel
theorem d_S_cutTo_14 : decode b_S_cutTo 14 = .ok (.getfield 47, 3) := by decide +kernel
theorem d_S_cutTo_17 : decode b_S_cutTo 17 = .ok (.iload_n 2, 1) := by decide +kernel
theorem d_S_cutTo_18 : decode b_S_cutTo 18 = .ok (.iadd, 1) := by decide +kernel
theorem d_S_cutTo_19 : decode b_S_cutTo 19 = .ok (.aload_n 1, 1) := by decide +kernel
theorem d_S_cutTo_20 : decode b_S_cutTo 20 = .ok (.getfield 60, 3) := by decide +kernel
theorem d_S_cutTo_23 : decode b_S_cutTo 23 = .ok (.iload_n 2, 1) := by decide +kernel
theorem d_S_cutTo_24 : decode b_S_cutTo 24 = .ok (.isub, 1) := by decide +kernel
theorem d_S_cutTo_25 : decode b_S_cutTo 25 = .ok (.aload_n 1, 1) := by decide +kernel
theorem d_S_cutTo_26 : decode b_S_cutTo 26 = .ok (.getfield 69, 3) := by decide +kernel
theorem d_S_cutTo_29 : decode b_S_cutTo 29 = .ok (.invokespecial 107, 3) := by decide +kernel
theorem d_S_cutTo_32 : decode b_S_cutTo 32 = .ok (.astore_n 3, 1) := by decide +kernel
theorem d_S_cutTo_33 : decode b_S_cutTo 33 = .ok (.aload_n 1, 1) := by decide +kernel
theorem d_S_cutTo_34 : decode b_S_cutTo 34 = .ok (.iload_n 2, 1) := by decide +kernel
theorem d_S_cutTo_35 : decode b_S_cutTo 35 = .ok (.putfield 60, 3) := by decide +kernel
theorem d_S_cutTo_38 : decode b_S_cutTo 38 = .ok (.aload_n 1, 1) := by decide +kernel
theorem d_S_cutTo_39 : decode b_S_cutTo 39 = .ok (.aload_n 3, 1) := by decide +kernel
theorem d_S_cutTo_40 : decode b_S_cutTo 40 = .ok (.putfield 69, 3) := by decide +kernel
theorem d_S_cutTo_43 : decode b_S_cutTo 43 = .ok (.aload_n 0, 1) := by decide +kernel
theorem d_S_cutTo_44 : decode b_S_cutTo 44 = .ok (.aload_n 3, 1) := by decide +kernel
theorem d_S_cutTo_45 : decode b_S_cutTo 45 = .ok (.invokevirtual 56, 3) := by decide +kernel
theorem d_S_cutTo_48 : decode b_S_cutTo 48 = .ok (.return_, 1) := by decide +kernel
theorem d_S_stepFrom_0 : decode b_S_stepFrom 0 = .ok (.aload_n 1, 1) := by decide +kernel
theorem d_S_stepFrom_1 : decode b_S_stepFrom 1 = .ok (.invokevirtual 135, 3) := by decide +kernel
theorem d_S_stepFrom_4 : decode b_S_stepFrom 4 = .ok (.ifCond .eq 11, 3) := by decide +kernel
theorem d_S_stepFrom_7 : decode b_S_stepFrom 7 = .ok (.aload_n 1, 1) := by decide +kernel
theorem d_S_stepFrom_8 : decode b_S_stepFrom 8 = .ok (.iconst 0, 1) := by decide +kernel
theorem d_S_stepFrom_9 : decode b_S_stepFrom 9 = .ok (.putfield 50, 3) := by decide +kernel
theorem d_S_stepFrom_12 : decode b_S_stepFrom 12 = .ok (.goto 8, 3) := by decide +kernel
theorem d_S_stepFrom_15 : decode b_S_stepFrom 15 = .ok (.aload_n 0, 1) := by decide +kernel
theorem d_S_stepFrom_16 : decode b_S_stepFrom 16 = .ok (.aload_n 1, 1) := by decide +kernel
theorem d_S_stepFrom_17 : decode b_S_stepFrom 17 = .ok (.invokevirtual 138, 3) := by decide +kernel
theorem d_S_stepFrom_20 : decode b_S_stepFrom 20 = .ok (.aload_n 0, 1) := by decide +kernel
theorem d_S_stepFrom_21 : decode b_S_stepFrom 21 = .ok (.aload_n 1, 1) := by decide +kernel
theorem d_S_stepFrom_22 : decode b_S_stepFrom 22 = .ok (.getfield 69, 3) := by decide +kernel
theorem d_S_stepFrom_25 : decode b_S_stepFrom 25 = .ok (.putfield 43, 3) := by decide +kernel
theorem d_S_stepFrom_28 : decode b_S_stepFrom 28 = .ok (.aload_n 0, 1) := by decide +kernel
theorem d_S_stepFrom_29 : decode b_S_stepFrom 29 = .ok (.getfield 43, 3) := by decide +kernel
theorem d_S_stepFrom_32 : decode b_S_stepFrom 32 = .ok (.ifnonnull 13, 3) := by decide +kernel
theorem d_S_stepFrom_35 : decode b_S_stepFrom 35 = .ok (.aload_n 0, 1) := by decide +kernel
theorem d_S_stepFrom_36 : decode b_S_stepFrom 36 = .ok (.dup, 1) := by decide +kernel
theorem d_S_stepFrom_37 : decode b_S_stepFrom 37 = .ok (.getfield 91, 3) := by decide +kernel
theorem d_S_stepFrom_40 : decode b_S_stepFrom 40 = .ok (.iconst 1, 1) := by decide +kernel
theorem d_S_stepFrom_41 : decode b_S_stepFrom 41 = .ok (.iadd, 1) := by decide +kernel
theorem d_S_stepFrom_42 : decode b_S_stepFrom 42 = .ok (.putfield 91, 3) := by decide +kernel
theorem d_S_stepFrom_45 : decode b_S_stepFrom 45 = .ok (.return_, 1) := by decide +kernel
theorem d_S_gatherFrom_0 : decode b_S_gatherFrom 0 = .ok (.aload_n 1, 1) := by decide +kernel
theorem d_S_gatherFrom_1 : decode b_S_gatherFrom 1 = .ok (.getfield 37, 3) := by decide +kernel
theorem d_S_gatherFrom_4 : decode b_S_gatherFrom 4 = .ok (.ifCond .eq 7, 3) := by decide +kernel
theorem d_S_gatherFrom_7 : decode b_S_gatherFrom 7 = .ok (.iconst 1, 1) := by decide +kernel
theorem d_S_gatherFrom_8 : decode b_S_gatherFrom 8 = .ok (.goto 4, 3) := by decide +kernel
theorem d_S_gatherFrom_11 : decode b_S_gatherFrom 11 = .ok (.iconst 0, 1) := by decide +kernel
theorem d_S_gatherFrom_12 : decode b_S_gatherFrom 12 = .ok (.istore_n 2, 1) := by decide +kernel
theorem d_S_gatherFrom_13 : decode b_S_gatherFrom 13 = .ok (.aload_n 1, 1) := by decide +kernel
theorem d_S_gatherFrom_14 : decode b_S_gatherFrom 14 = .ok (.getfield 60, 3) := by decide +kernel
theorem d_S_gatherFrom_17 : decode b_S_gatherFrom 17 = .ok (.istore_n 3, 1) := by decide +kernel
theorem d_S_gatherFrom_18 : decode b_S_gatherFrom 18 = .ok (.aload_n 1, 1) := by decide +kernel
theorem d_S_gatherFrom_19 : decode b_S_gatherFrom 19 = .ok (.getfield 69, 3) := by decide +kernel
theorem d_S_gatherFrom_22 : decode b_S_gatherFrom 22 = .ok (.astore 4, 2) := by decide +kernel
theorem d_S_gatherFrom_24 : decode b_S_gatherFrom 24 = .ok (.aload 4, 2) := by decide +kernel
theorem d_S_gatherFrom_26 : decode b_S_gatherFrom 26 = .ok (.ifnull 45, 3) := by decide +kernel
theorem d_S_gatherFrom_29 : decode b_S_gatherFrom 29 = .ok (.aload 4, 2) := by decide +kernel
theorem d_S_gatherFrom_31 : decode b_S_gatherFrom 31 = .ok (.invokevirtual 135, 3) := by decide +kernel
theorem d_S_gatherFrom_34 : decode b_S_gatherFrom 34 = .ok (.ifCond .ne 37, 3) := by decide +kernel
theorem d_S_gatherFrom_37 : decode b_S_gatherFrom 37 = .ok (.iload_n 2, 1) := by decide +kernel
theorem d_S_gatherFrom_38 : decode b_S_gatherFrom 38 = .ok (.aload 4, 2) := by decide +kernel
theorem d_S_gatherFrom_40 : decode b_S_gatherFrom 40 = .ok (.getfield 37, 3) := by decide +kernel
theorem d_S_gatherFrom_43 : decode b_S_gatherFrom 43 = .ok (.ifCond .eq 7, 3) := by decide +kernel
theorem d_S_gatherFrom_46 : decode b_S_gatherFrom 46 = .ok (.iconst 1, 1) := by decide +kernel
theorem d_S_gatherFrom_47 : decode b_S_gatherFrom 47 = .ok (.goto 4, 3) := by decide +kernel
theorem d_S_gatherFrom_50 : decode b_S_gatherFrom 50 = .ok (.iconst 0, 1) := by decide +kernel
theorem d_S_gatherFrom_51 : decode b_S_gatherFrom 51 = .ok (.iadd, 1) := by decide +kernel
theorem d_S_gatherFrom_52 : decode b_S_gatherFrom 52 = .ok (.istore_n 2, 1) := by decide +kernel
theorem d_S_gatherFrom_53 : decode b_S_gatherFrom 53 = .ok (.iload_n 3, 1) := by decide +kernel
theorem d_S_gatherFrom_54 : decode b_S_gatherFrom 54 = .ok (.aload 4, 2) := by decide +kernel
theorem d_S_gatherFrom_56 : decode b_S_gatherFrom 56 = .ok (.getfield 60, 3) := by decide +kernel
theorem d_S_gatherFrom_59 : decode b_S_gatherFrom 59 = .ok (.iadd, 1) := by decide +kernel
theorem d_S_gatherFrom_60 : decode b_S_gatherFrom 60 = .ok (.istore_n 3, 1) := by decide +kernel
theorem d_S_gatherFrom_61 : decode b_S_gatherFrom 61 = .ok (.aload 4, 2) := by decide +kernel
theorem d_S_gatherFrom_63 : decode b_S_gatherFrom 63 = .ok (.getfield 69, 3) := by decide +kernel
theorem d_S_gatherFrom_66 : decode b_S_gatherFrom 66 = .ok (.astore 4, 2) := by decide +kernel
theorem d_S_gatherFrom_68 : decode b_S_gatherFrom 68 = .ok (.goto (-44), 3) := by decide +kernel
theorem d_S_gatherFrom_71 : decode b_S_gatherFrom 71 = .ok (.aload_n 1, 1) := by decide +kernel
theorem d_S_gatherFrom_72 : decode b_S_gatherFrom 72 = .ok (.getfield 37, 3) := by decide +kernel
theorem d_S_gatherFrom_75 : decode b_S_gatherFrom 75 = .ok (.ifCond .ne 13, 3) := by decide +kernel
theorem d_S_gatherFrom_78 : decode b_S_gatherFrom 78 = .ok (.aload 4, 2) := by decide +kernel
theorem d_S_gatherFrom_80 : decode b_S_gatherFrom 80 = .ok (.aload_n 1, 1) := by decide +kernel
theorem d_S_gatherFrom_81 : decode b_S_gatherFrom 81 = .ok (.getfield 69, 3) := by decide +kernel
theorem d_S_gatherFrom_84 : decode b_S_gatherFrom 84 = .ok (.if_acmp .ne 4, 3) := by decide +kernel
theorem d_S_gatherFrom_87 : decode b_S_gatherFrom 87 = .ok (.return_, 1) := by decide +kernel
theorem d_S_gatherFrom_88 : decode b_S_gatherFrom 88 = .ok (.aload_n 1, 1) := by decide +kernel
theorem d_S_gatherFrom_89 : decode b_S_gatherFrom 89 = .ok (.iload_n 3, 1) := by decide +kernel
theorem d_S_gatherFrom_90 : decode b_S_gatherFrom 90 = .ok (.putfield 60, 3) := by decide +kernel
theorem d_S_gatherFrom_93 : decode b_S_gatherFrom 93 = .ok (.aload_n 1, 1) := by decide +kernel
theorem d_S_gatherFrom_94 : decode b_S_gatherFrom 94 = .ok (.aload 4, 2) := by decide +kernel
theorem d_S_gatherFrom_96 : decode b_S_gatherFrom 96 = .ok (.putfield 69, 3) := by decide +kernel
theorem d_S_gatherFrom_99 : decode b_S_gatherFrom 99 = .ok (.aload_n 0, 1) := by decide +kernel
theorem d_S_gatherFrom_100 : decode b_S_gatherFrom 100 = .ok (.aload_n 1, 1) := by decide +kernel
theorem d_S_gatherFrom_101 : decode b_S_gatherFrom 101 = .ok (.invokevirtual 56, 3) := by decide +kernel
theorem d_S_gatherFrom_104 : decode b_S_gatherFrom 104 = .ok (.aload_n 0, 1) := by decide +kernel
theorem d_S_gatherFrom_105 : decode b_S_gatherFrom 105 = .ok (.dup, 1) := by decide +kernel
theorem d_S_gatherFrom_106 : decode b_S_gatherFrom 106 = .ok (.getfield 88, 3) := by decide +kernel
theorem d_S_gatherFrom_109 : decode b_S_gatherFrom 109 = .ok (.iload_n 2, 1) := by decide +kernel
theorem d_S_gatherFrom_110 : decode b_S_gatherFrom 110 = .ok (.iadd, 1) := by decide +kernel
theorem d_S_gatherFrom_111 : decode b_S_gatherFrom 111 = .ok (.putfield 88, 3) := by decide +kernel
theorem d_S_gatherFrom_114 : decode b_S_gatherFrom 114 = .ok (.return_, 1) := by decide +kernel
theorem d_S_sumOverPieces_0 : decode b_S_sumOverPieces 0 = .ok (.iconst 0, 1) := by decide +kernel
theorem d_S_sumOverPieces_1 : decode b_S_sumOverPieces 1 = .ok (.istore_n 2, 1) := by decide +kernel
theorem d_S_sumOverPieces_2 : decode b_S_sumOverPieces 2 = .ok (.aload_n 0, 1) := by decide +kernel
theorem d_S_sumOverPieces_3 : decode b_S_sumOverPieces 3 = .ok (.getfield 66, 3) := by decide +kernel
theorem d_S_sumOverPieces_6 : decode b_S_sumOverPieces 6 = .ok (.astore_n 3, 1) := by decide +kernel
theorem d_S_sumOverPieces_7 : decode b_S_sumOverPieces 7 = .ok (.aload_n 3, 1) := by decide +kernel
theorem d_S_sumOverPieces_8 : decode b_S_sumOverPieces 8 = .ok (.ifnull 19, 3) := by decide +kernel
theorem d_S_sumOverPieces_11 : decode b_S_sumOverPieces 11 = .ok (.iload_n 2, 1) := by decide +kernel
theorem d_S_sumOverPieces_12 : decode b_S_sumOverPieces 12 = .ok (.aload_n 3, 1) := by decide +kernel
theorem d_S_sumOverPieces_13 : decode b_S_sumOverPieces 13 = .ok (.iload_n 1, 1) := by decide +kernel
theorem d_S_sumOverPieces_14 : decode b_S_sumOverPieces 14 = .ok (.invokestatic 141, 3) := by decide +kernel
theorem d_S_sumOverPieces_17 : decode b_S_sumOverPieces 17 = .ok (.iadd, 1) := by decide +kernel
theorem d_S_sumOverPieces_18 : decode b_S_sumOverPieces 18 = .ok (.istore_n 2, 1) := by decide +kernel
theorem d_S_sumOverPieces_19 : decode b_S_sumOverPieces 19 = .ok (.aload_n 3, 1) := by decide +kernel
theorem d_S_sumOverPieces_20 : decode b_S_sumOverPieces 20 = .ok (.getfield 69, 3) := by decide +kernel
theorem d_S_sumOverPieces_23 : decode b_S_sumOverPieces 23 = .ok (.astore_n 3, 1) := by decide +kernel
theorem d_S_sumOverPieces_24 : decode b_S_sumOverPieces 24 = .ok (.goto (-17), 3) := by decide +kernel
theorem d_S_sumOverPieces_27 : decode b_S_sumOverPieces 27 = .ok (.iload_n 2, 1) := by decide +kernel
theorem d_S_sumOverPieces_28 : decode b_S_sumOverPieces 28 = .ok (.ireturn, 1) := by decide +kernel
theorem d_S_shareOf_0 : decode b_S_shareOf 0 = .ok (.iload_n 1, 1) := by decide +kernel
theorem d_S_shareOf_1 : decode b_S_shareOf 1 = .ok (.tableswitch 135 0 8 #[51, 67, 83, 96, 109, 135, 135, 135, 122], 51) := by decide +kernel
theorem d_S_shareOf_52 : decode b_S_shareOf 52 = .ok (.aload_n 0, 1) := by decide +kernel
theorem d_S_shareOf_53 : decode b_S_shareOf 53 = .ok (.getfield 37, 3) := by decide +kernel
theorem d_S_shareOf_56 : decode b_S_shareOf 56 = .ok (.ifCond .eq 7, 3) := by decide +kernel
theorem d_S_shareOf_59 : decode b_S_shareOf 59 = .ok (.iconst 0, 1) := by decide +kernel
theorem d_S_shareOf_60 : decode b_S_shareOf 60 = .ok (.goto 7, 3) := by decide +kernel
theorem d_S_shareOf_63 : decode b_S_shareOf 63 = .ok (.aload_n 0, 1) := by decide +kernel
theorem d_S_shareOf_64 : decode b_S_shareOf 64 = .ok (.getfield 60, 3) := by decide +kernel
theorem d_S_shareOf_67 : decode b_S_shareOf 67 = .ok (.ireturn, 1) := by decide +kernel
theorem d_S_shareOf_68 : decode b_S_shareOf 68 = .ok (.aload_n 0, 1) := by decide +kernel
theorem d_S_shareOf_69 : decode b_S_shareOf 69 = .ok (.invokevirtual 145, 3) := by decide +kernel
theorem d_S_shareOf_72 : decode b_S_shareOf 72 = .ok (.ifCond .eq 10, 3) := by decide +kernel
theorem d_S_shareOf_75 : decode b_S_shareOf 75 = .ok (.aload_n 0, 1) := by decide +kernel
theorem d_S_shareOf_76 : decode b_S_shareOf 76 = .ok (.getfield 60, 3) := by decide +kernel
theorem d_S_shareOf_79 : decode b_S_shareOf 79 = .ok (.goto 4, 3) := by decide +kernel
theorem d_S_shareOf_82 : decode b_S_shareOf 82 = .ok (.iconst 0, 1) := by decide +kernel
theorem d_S_shareOf_83 : decode b_S_shareOf 83 = .ok (.ireturn, 1) := by decide +kernel
theorem d_S_shareOf_84 : decode b_S_shareOf 84 = .ok (.aload_n 0, 1) := by decide +kernel
theorem d_S_shareOf_85 : decode b_S_shareOf 85 = .ok (.getfield 37, 3) := by decide +kernel
theorem d_S_shareOf_88 : decode b_S_shareOf 88 = .ok (.ifCond .eq 7, 3) := by decide +kernel
theorem d_S_shareOf_91 : decode b_S_shareOf 91 = .ok (.iconst 1, 1) := by decide +kernel
theorem d_S_shareOf_92 : decode b_S_shareOf 92 = .ok (.goto 4, 3) := by decide +kernel
theorem d_S_shareOf_95 : decode b_S_shareOf 95 = .ok (.iconst 0, 1) := by decide +kernel
theorem d_S_shareOf_96 : decode b_S_shareOf 96 = .ok (.ireturn, 1) := by decide +kernel
theorem d_S_shareOf_97 : decode b_S_shareOf 97 = .ok (.aload_n 0, 1) := by decide +kernel
theorem d_S_shareOf_98 : decode b_S_shareOf 98 = .ok (.invokevirtual 127, 3) := by decide +kernel
theorem d_S_shareOf_101 : decode b_S_shareOf 101 = .ok (.ifCond .eq 7, 3) := by decide +kernel
theorem d_S_shareOf_104 : decode b_S_shareOf 104 = .ok (.iconst 1, 1) := by decide +kernel
theorem d_S_shareOf_105 : decode b_S_shareOf 105 = .ok (.goto 4, 3) := by decide +kernel
theorem d_S_shareOf_108 : decode b_S_shareOf 108 = .ok (.iconst 0, 1) := by decide +kernel
theorem d_S_shareOf_109 : decode b_S_shareOf 109 = .ok (.ireturn, 1) := by decide +kernel
theorem d_S_shareOf_110 : decode b_S_shareOf 110 = .ok (.aload_n 0, 1) := by decide +kernel
theorem d_S_shareOf_111 : decode b_S_shareOf 111 = .ok (.invokevirtual 145, 3) := by decide +kernel
theorem d_S_shareOf_114 : decode b_S_shareOf 114 = .ok (.ifCond .eq 7, 3) := by decide +kernel
theorem d_S_shareOf_117 : decode b_S_shareOf 117 = .ok (.iconst 1, 1) := by decide +kernel
theorem d_S_shareOf_118 : decode b_S_shareOf 118 = .ok (.goto 4, 3) := by decide +kernel
theorem d_S_shareOf_121 : decode b_S_shareOf 121 = .ok (.iconst 0, 1) := by decide +kernel
theorem d_S_shareOf_122 : decode b_S_shareOf 122 = .ok (.ireturn, 1) := by decide +kernel
theorem d_S_shareOf_123 : decode b_S_shareOf 123 = .ok (.aload_n 0, 1) := by decide +kernel
theorem d_S_shareOf_124 : decode b_S_shareOf 124 = .ok (.getfield 50, 3) := by decide +kernel
theorem d_S_shareOf_127 : decode b_S_shareOf 127 = .ok (.ifCond .eq 7, 3) := by decide +kernel
theorem d_S_shareOf_130 : decode b_S_shareOf 130 = .ok (.iconst 1, 1) := by decide +kernel
theorem d_S_shareOf_131 : decode b_S_shareOf 131 = .ok (.goto 4, 3) := by decide +kernel
theorem d_S_shareOf_134 : decode b_S_shareOf 134 = .ok (.iconst 0, 1) := by decide +kernel
theorem d_S_shareOf_135 : decode b_S_shareOf 135 = .ok (.ireturn, 1) := by decide +kernel
theorem d_S_shareOf_136 : decode b_S_shareOf 136 = .ok (.iconst 0, 1) := by decide +kernel
theorem d_S_shareOf_137 : decode b_S_shareOf 137 = .ok (.ireturn, 1) := by decide +kernel
theorem d_S_greatestFree_0 : decode b_S_greatestFree 0 = .ok (.iconst 0, 1) := by decide +kernel
theorem d_S_greatestFree_1 : decode b_S_greatestFree 1 = .ok (.istore_n 1, 1) := by decide +kernel
theorem d_S_greatestFree_2 : decode b_S_greatestFree 2 = .ok (.aload_n 0, 1) := by decide +kernel
theorem d_S_greatestFree_3 : decode b_S_greatestFree 3 = .ok (.getfield 66, 3) := by decide +kernel
theorem d_S_greatestFree_6 : decode b_S_greatestFree 6 = .ok (.astore_n 2, 1) := by decide +kernel
theorem d_S_greatestFree_7 : decode b_S_greatestFree 7 = .ok (.aload_n 2, 1) := by decide +kernel
theorem d_S_greatestFree_8 : decode b_S_greatestFree 8 = .ok (.ifnull 31, 3) := by decide +kernel
theorem d_S_greatestFree_11 : decode b_S_greatestFree 11 = .ok (.aload_n 2, 1) := by decide +kernel
theorem d_S_greatestFree_12 : decode b_S_greatestFree 12 = .ok (.getfield 37, 3) := by decide +kernel
theorem d_S_greatestFree_15 : decode b_S_greatestFree 15 = .ok (.ifCond .ne 16, 3) := by decide +kernel
theorem d_S_greatestFree_18 : decode b_S_greatestFree 18 = .ok (.aload_n 2, 1) := by decide +kernel
theorem d_S_greatestFree_19 : decode b_S_greatestFree 19 = .ok (.getfield 60, 3) := by decide +kernel
theorem d_S_greatestFree_22 : decode b_S_greatestFree 22 = .ok (.iload_n 1, 1) := by decide +kernel
theorem d_S_greatestFree_23 : decode b_S_greatestFree 23 = .ok (.if_icmp .le 8, 3) := by decide +kernel
theorem d_S_greatestFree_26 : decode b_S_greatestFree 26 = .ok (.aload_n 2, 1) := by decide +kernel
theorem d_S_greatestFree_27 : decode b_S_greatestFree 27 = .ok (.getfield 60, 3) := by decide +kernel
