theorem d_R_init_0 : decode b_R_init 0 = .ok (.aload_n 0, 1) := by decide +kernel
theorem d_R_init_1 : decode b_R_init 1 = .ok (.invokespecial 3, 3) := by decide +kernel
theorem d_R_init_4 : decode b_R_init 4 = .ok (.aload_n 0, 1) := by decide +kernel
theorem d_R_init_5 : decode b_R_init 5 = .ok (.iload_n 1, 1) := by decide +kernel
theorem d_R_init_6 : decode b_R_init 6 = .ok (.newarray .char, 2) := by decide +kernel
theorem d_R_init_8 : decode b_R_init 8 = .ok (.putfield 9, 3) := by decide +kernel
theorem d_R_init_11 : decode b_R_init 11 = .ok (.aload_n 0, 1) := by decide +kernel
theorem d_R_init_12 : decode b_R_init 12 = .ok (.iconst 0, 1) := by decide +kernel
theorem d_R_init_13 : decode b_R_init 13 = .ok (.putfield 15, 3) := by decide +kernel
theorem d_R_init_16 : decode b_R_init 16 = .ok (.return_, 1) := by decide +kernel
theorem d_R_hasPosition_0 : decode b_R_hasPosition 0 = .ok (.iload_n 1, 1) := by decide +kernel
theorem d_R_hasPosition_1 : decode b_R_hasPosition 1 = .ok (.ifCond .lt 15, 3) := by decide +kernel
theorem d_R_hasPosition_4 : decode b_R_hasPosition 4 = .ok (.iload_n 1, 1) := by decide +kernel
theorem d_R_hasPosition_5 : decode b_R_hasPosition 5 = .ok (.aload_n 0, 1) := by decide +kernel
theorem d_R_hasPosition_6 : decode b_R_hasPosition 6 = .ok (.getfield 15, 3) := by decide +kernel
theorem d_R_hasPosition_9 : decode b_R_hasPosition 9 = .ok (.if_icmp .gt 7, 3) := by decide +kernel
theorem d_R_hasPosition_12 : decode b_R_hasPosition 12 = .ok (.iconst 1, 1) := by decide +kernel
theorem d_R_hasPosition_13 : decode b_R_hasPosition 13 = .ok (.goto 4, 3) := by decide +kernel
theorem d_R_hasPosition_16 : decode b_R_hasPosition 16 = .ok (.iconst 0, 1) := by decide +kernel
theorem d_R_hasPosition_17 : decode b_R_hasPosition 17 = .ok (.ireturn, 1) := by decide +kernel
theorem d_R_hasStretch_0 : decode b_R_hasStretch 0 = .ok (.aload_n 0, 1) := by decide +kernel
theorem d_R_hasStretch_1 : decode b_R_hasStretch 1 = .ok (.iload_n 1, 1) := by decide +kernel
theorem d_R_hasStretch_2 : decode b_R_hasStretch 2 = .ok (.invokevirtual 19, 3) := by decide +kernel
theorem d_R_hasStretch_5 : decode b_R_hasStretch 5 = .ok (.ifCond .eq 21, 3) := by decide +kernel
theorem d_R_hasStretch_8 : decode b_R_hasStretch 8 = .ok (.iload_n 2, 1) := by decide +kernel
theorem d_R_hasStretch_9 : decode b_R_hasStretch 9 = .ok (.ifCond .lt 17, 3) := by decide +kernel
theorem d_R_hasStretch_12 : decode b_R_hasStretch 12 = .ok (.iload_n 2, 1) := by decide +kernel
theorem d_R_hasStretch_13 : decode b_R_hasStretch 13 = .ok (.aload_n 0, 1) := by decide +kernel
theorem d_R_hasStretch_14 : decode b_R_hasStretch 14 = .ok (.getfield 15, 3) := by decide +kernel
theorem d_R_hasStretch_17 : decode b_R_hasStretch 17 = .ok (.iload_n 1, 1) := by decide +kernel
theorem d_R_hasStretch_18 : decode b_R_hasStretch 18 = .ok (.isub, 1) := by decide +kernel
theorem d_R_hasStretch_19 : decode b_R_hasStretch 19 = .ok (.if_icmp .gt 7, 3) := by decide +kernel
theorem d_R_hasStretch_22 : decode b_R_hasStretch 22 = .ok (.iconst 1, 1) := by decide +kernel
theorem d_R_hasStretch_23 : decode b_R_hasStretch 23 = .ok (.goto 4, 3) := by decide +kernel
theorem d_R_hasStretch_26 : decode b_R_hasStretch 26 = .ok (.iconst 0, 1) := by decide +kernel
theorem d_R_hasStretch_27 : decode b_R_hasStretch 27 = .ok (.ireturn, 1) := by decide +kernel
theorem d_R_pieceOf_0 : decode b_R_pieceOf 0 = .ok (.iload_n 2, 1) := by decide +kernel
theorem d_R_pieceOf_1 : decode b_R_pieceOf 1 = .ok (.newarray .char, 2) := by decide +kernel
theorem d_R_pieceOf_3 : decode b_R_pieceOf 3 = .ok (.astore_n 3, 1) := by decide +kernel
theorem d_R_pieceOf_4 : decode b_R_pieceOf 4 = .ok (.aload_n 0, 1) := by decide +kernel
theorem d_R_pieceOf_5 : decode b_R_pieceOf 5 = .ok (.getfield 9, 3) := by decide +kernel
theorem d_R_pieceOf_8 : decode b_R_pieceOf 8 = .ok (.iload_n 1, 1) := by decide +kernel
theorem d_R_pieceOf_9 : decode b_R_pieceOf 9 = .ok (.aload_n 3, 1) := by decide +kernel
theorem d_R_pieceOf_10 : decode b_R_pieceOf 10 = .ok (.iconst 0, 1) := by decide +kernel
theorem d_R_pieceOf_11 : decode b_R_pieceOf 11 = .ok (.iload_n 2, 1) := by decide +kernel
theorem d_R_pieceOf_12 : decode b_R_pieceOf 12 = .ok (.invokestatic 23, 3) := by decide +kernel
theorem d_R_pieceOf_15 : decode b_R_pieceOf 15 = .ok (.aload_n 3, 1) := by decide +kernel
theorem d_R_pieceOf_16 : decode b_R_pieceOf 16 = .ok (.areturn, 1) := by decide +kernel
theorem d_R_open_0 : decode b_R_open 0 = .ok (.aload_n 0, 1) := by decide +kernel
theorem d_R_open_1 : decode b_R_open 1 = .ok (.getfield 9, 3) := by decide +kernel
theorem d_R_open_4 : decode b_R_open 4 = .ok (.iload_n 1, 1) := by decide +kernel
theorem d_R_open_5 : decode b_R_open 5 = .ok (.aload_n 0, 1) := by decide +kernel
theorem d_R_open_6 : decode b_R_open 6 = .ok (.getfield 9, 3) := by decide +kernel
theorem d_R_open_9 : decode b_R_open 9 = .ok (.iload_n 1, 1) := by decide +kernel
theorem d_R_open_10 : decode b_R_open 10 = .ok (.aload_n 2, 1) := by decide +kernel
theorem d_R_open_11 : decode b_R_open 11 = .ok (.arraylength, 1) := by decide +kernel
theorem d_R_open_12 : decode b_R_open 12 = .ok (.iadd, 1) := by decide +kernel
theorem d_R_open_13 : decode b_R_open 13 = .ok (.aload_n 0, 1) := by decide +kernel
theorem d_R_open_14 : decode b_R_open 14 = .ok (.getfield 15, 3) := by decide +kernel
theorem d_R_open_17 : decode b_R_open 17 = .ok (.iload_n 1, 1) := by decide +kernel
theorem d_R_open_18 : decode b_R_open 18 = .ok (.isub, 1) := by decide +kernel
theorem d_R_open_19 : decode b_R_open 19 = .ok (.invokestatic 23, 3) := by decide +kernel
theorem d_R_open_22 : decode b_R_open 22 = .ok (.aload_n 2, 1) := by decide +kernel
theorem d_R_open_23 : decode b_R_open 23 = .ok (.iconst 0, 1) := by decide +kernel
theorem d_R_open_24 : decode b_R_open 24 = .ok (.aload_n 0, 1) := by decide +kernel
theorem d_R_open_25 : decode b_R_open 25 = .ok (.getfield 9, 3) := by decide +kernel
theorem d_R_open_28 : decode b_R_open 28 = .ok (.iload_n 1, 1) := by decide +kernel
theorem d_R_open_29 : decode b_R_open 29 = .ok (.aload_n 2, 1) := by decide +kernel
theorem d_R_open_30 : decode b_R_open 30 = .ok (.arraylength, 1) := by decide +kernel
theorem d_R_open_31 : decode b_R_open 31 = .ok (.invokestatic 23, 3) := by decide +kernel
theorem d_R_open_34 : decode b_R_open 34 = .ok (.aload_n 0, 1) := by decide +kernel
theorem d_R_open_35 : decode b_R_open 35 = .ok (.dup, 1) := by decide +kernel
theorem d_R_open_36 : decode b_R_open 36 = .ok (.getfield 15, 3) := by decide +kernel
theorem d_R_open_39 : decode b_R_open 39 = .ok (.aload_n 2, 1) := by decide +kernel
theorem d_R_open_40 : decode b_R_open 40 = .ok (.arraylength, 1) := by decide +kernel
theorem d_R_open_41 : decode b_R_open 41 = .ok (.iadd, 1) := by decide +kernel
theorem d_R_open_42 : decode b_R_open 42 = .ok (.putfield 15, 3) := by decide +kernel
theorem d_R_open_45 : decode b_R_open 45 = .ok (.return_, 1) := by decide +kernel
theorem d_R_close_0 : decode b_R_close 0 = .ok (.iload_n 1, 1) := by decide +kernel
theorem d_R_close_1 : decode b_R_close 1 = .ok (.iload_n 2, 1) := by decide +kernel
theorem d_R_close_2 : decode b_R_close 2 = .ok (.iadd, 1) := by decide +kernel
theorem d_R_close_3 : decode b_R_close 3 = .ok (.istore_n 3, 1) := by decide +kernel
theorem d_R_close_4 : decode b_R_close 4 = .ok (.aload_n 0, 1) := by decide +kernel
theorem d_R_close_5 : decode b_R_close 5 = .ok (.getfield 9, 3) := by decide +kernel
theorem d_R_close_8 : decode b_R_close 8 = .ok (.iload_n 3, 1) := by decide +kernel
theorem d_R_close_9 : decode b_R_close 9 = .ok (.aload_n 0, 1) := by decide +kernel
theorem d_R_close_10 : decode b_R_close 10 = .ok (.getfield 9, 3) := by decide +kernel
theorem d_R_close_13 : decode b_R_close 13 = .ok (.iload_n 1, 1) := by decide +kernel
theorem d_R_close_14 : decode b_R_close 14 = .ok (.aload_n 0, 1) := by decide +kernel
theorem d_R_close_15 : decode b_R_close 15 = .ok (.getfield 15, 3) := by decide +kernel
theorem d_R_close_18 : decode b_R_close 18 = .ok (.iload_n 3, 1) := by decide +kernel
theorem d_R_close_19 : decode b_R_close 19 = .ok (.isub, 1) := by decide +kernel
theorem d_R_close_20 : decode b_R_close 20 = .ok (.invokestatic 23, 3) := by decide +kernel
theorem d_R_close_23 : decode b_R_close 23 = .ok (.aload_n 0, 1) := by decide +kernel
theorem d_R_close_24 : decode b_R_close 24 = .ok (.dup, 1) := by decide +kernel
theorem d_R_close_25 : decode b_R_close 25 = .ok (.getfield 15, 3) := by decide +kernel
theorem d_R_close_28 : decode b_R_close 28 = .ok (.iload_n 2, 1) := by decide +kernel
theorem d_R_close_29 : decode b_R_close 29 = .ok (.isub, 1) := by decide +kernel
theorem d_R_close_30 : decode b_R_close 30 = .ok (.putfield 15, 3) := by decide +kernel
theorem d_R_close_33 : decode b_R_close 33 = .ok (.return_, 1) := by decide +kernel
theorem d_R_newlinesBefore_0 : decode b_R_newlinesBefore 0 = .ok (.iconst 0, 1) := by decide +kernel
theorem d_R_newlinesBefore_1 : decode b_R_newlinesBefore 1 = .ok (.istore_n 2, 1) := by decide +kernel
theorem d_R_newlinesBefore_2 : decode b_R_newlinesBefore 2 = .ok (.iconst 0, 1) := by decide +kernel
theorem d_R_newlinesBefore_3 : decode b_R_newlinesBefore 3 = .ok (.istore_n 3, 1) := by decide +kernel
theorem d_R_newlinesBefore_4 : decode b_R_newlinesBefore 4 = .ok (.iload_n 3, 1) := by decide +kernel
theorem d_R_newlinesBefore_5 : decode b_R_newlinesBefore 5 = .ok (.iload_n 1, 1) := by decide +kernel
theorem d_R_newlinesBefore_6 : decode b_R_newlinesBefore 6 = .ok (.if_icmp .ge 23, 3) := by decide +kernel
theorem d_R_newlinesBefore_9 : decode b_R_newlinesBefore 9 = .ok (.aload_n 0, 1) := by decide +kernel
theorem d_R_newlinesBefore_10 : decode b_R_newlinesBefore 10 = .ok (.getfield 9, 3) := by decide +kernel
theorem d_R_newlinesBefore_13 : decode b_R_newlinesBefore 13 = .ok (.iload_n 3, 1) := by decide +kernel
theorem d_R_newlinesBefore_14 : decode b_R_newlinesBefore 14 = .ok (.caload, 1) := by decide +kernel
theorem d_R_newlinesBefore_15 : decode b_R_newlinesBefore 15 = .ok (.bipush 10, 2) := by decide +kernel
theorem d_R_newlinesBefore_17 : decode b_R_newlinesBefore 17 = .ok (.if_icmp .ne 6, 3) := by decide +kernel
theorem d_R_newlinesBefore_20 : decode b_R_newlinesBefore 20 = .ok (.iinc 2 1, 3) := by decide +kernel
theorem d_R_newlinesBefore_23 : decode b_R_newlinesBefore 23 = .ok (.iinc 3 1, 3) := by decide +kernel
theorem d_R_newlinesBefore_26 : decode b_R_newlinesBefore 26 = .ok (.goto (-22), 3) := by decide +kernel
theorem d_R_newlinesBefore_29 : decode b_R_newlinesBefore 29 = .ok (.iload_n 2, 1) := by decide +kernel
theorem d_R_newlinesBefore_30 : decode b_R_newlinesBefore 30 = .ok (.ireturn, 1) := by decide +kernel
theorem d_R_behindNewline_0 : decode b_R_behindNewline 0 = .ok (.iconst 0, 1) := by decide +kernel
theorem d_R_behindNewline_1 : decode b_R_behindNewline 1 = .ok (.istore_n 2, 1) := by decide +kernel
theorem d_R_behindNewline_2 : decode b_R_behindNewline 2 = .ok (.iconst 0, 1) := by decide +kernel
theorem d_R_behindNewline_3 : decode b_R_behindNewline 3 = .ok (.istore_n 3, 1) := by decide +kernel
theorem d_R_behindNewline_4 : decode b_R_behindNewline 4 = .ok (.iload_n 3, 1) := by decide +kernel
theorem d_R_behindNewline_5 : decode b_R_behindNewline 5 = .ok (.aload_n 0, 1) := by decide +kernel
theorem d_R_behindNewline_6 : decode b_R_behindNewline 6 = .ok (.getfield 15, 3) := by decide +kernel
theorem d_R_behindNewline_9 : decode b_R_behindNewline 9 = .ok (.if_icmp .ge 32, 3) := by decide +kernel
theorem d_R_behindNewline_12 : decode b_R_behindNewline 12 = .ok (.aload_n 0, 1) := by decide +kernel
theorem d_R_behindNewline_13 : decode b_R_behindNewline 13 = .ok (.getfield 9, 3) := by decide +kernel
theorem d_R_behindNewline_16 : decode b_R_behindNewline 16 = .ok (.iload_n 3, 1) := by decide +kernel
theorem d_R_behindNewline_17 : decode b_R_behindNewline 17 = .ok (.caload, 1) := by decide +kernel
theorem d_R_behindNewline_18 : decode b_R_behindNewline 18 = .ok (.bipush 10, 2) := by decide +kernel
theorem d_R_behindNewline_20 : decode b_R_behindNewline 20 = .ok (.if_icmp .ne 15, 3) := by decide +kernel
theorem d_R_behindNewline_23 : decode b_R_behindNewline 23 = .ok (.iinc 2 1, 3) := by decide +kernel
theorem d_R_behindNewline_26 : decode b_R_behindNewline 26 = .ok (.iload_n 2, 1) := by decide +kernel
theorem d_R_behindNewline_27 : decode b_R_behindNewline 27 = .ok (.iload_n 1, 1) := by decide +kernel
theorem d_R_behindNewline_28 : decode b_R_behindNewline 28 = .ok (.if_icmp .ne 7, 3) := by decide +kernel
theorem d_R_behindNewline_31 : decode b_R_behindNewline 31 = .ok (.iload_n 3, 1) := by decide +kernel
theorem d_R_behindNewline_32 : decode b_R_behindNewline 32 = .ok (.iconst 1, 1) := by decide +kernel
theorem d_R_behindNewline_33 : decode b_R_behindNewline 33 = .ok (.iadd, 1) := by decide +kernel
theorem d_R_behindNewline_34 : decode b_R_behindNewline 34 = .ok (.ireturn, 1) := by decide +kernel
theorem d_R_behindNewline_35 : decode b_R_behindNewline 35 = .ok (.iinc 3 1, 3) := by decide +kernel
theorem d_R_behindNewline_38 : decode b_R_behindNewline 38 = .ok (.goto (-34), 3) := by decide +kernel
theorem d_R_behindNewline_41 : decode b_R_behindNewline 41 = .ok (.iconst (-1), 1) := by decide +kernel
theorem d_R_behindNewline_42 : decode b_R_behindNewline 42 = .ok (.ireturn, 1) := by decide +kernel
theorem d_R_readsAt_0 : decode b_R_readsAt 0 = .ok (.iconst 0, 1) := by decide +kernel
theorem d_R_readsAt_1 : decode b_R_readsAt 1 = .ok (.istore_n 3, 1) := by decide +kernel
theorem d_R_readsAt_2 : decode b_R_readsAt 2 = .ok (.iload_n 3, 1) := by decide +kernel
theorem d_R_readsAt_3 : decode b_R_readsAt 3 = .ok (.aload_n 2, 1) := by decide +kernel
theorem d_R_readsAt_4 : decode b_R_readsAt 4 = .ok (.getfield 15, 3) := by decide +kernel
theorem d_R_readsAt_7 : decode b_R_readsAt 7 = .ok (.if_icmp .ge 28, 3) := by decide +kernel
theorem d_R_readsAt_10 : decode b_R_readsAt 10 = .ok (.aload_n 0, 1) := by decide +kernel
theorem d_R_readsAt_11 : decode b_R_readsAt 11 = .ok (.getfield 9, 3) := by decide +kernel
theorem d_R_readsAt_14 : decode b_R_readsAt 14 = .ok (.iload_n 1, 1) := by decide +kernel
theorem d_R_readsAt_15 : decode b_R_readsAt 15 = .ok (.iload_n 3, 1) := by decide +kernel
theorem d_R_readsAt_16 : decode b_R_readsAt 16 = .ok (.iadd, 1) := by decide +kernel
theorem d_R_readsAt_17 : decode b_R_readsAt 17 = .ok (.caload, 1) := by decide +kernel
theorem d_R_readsAt_18 : decode b_R_readsAt 18 = .ok (.aload_n 2, 1) := by decide +kernel
theorem d_R_readsAt_19 : decode b_R_readsAt 19 = .ok (.getfield 9, 3) := by decide +kernel
theorem d_R_readsAt_22 : decode b_R_readsAt 22 = .ok (.iload_n 3, 1) := by decide +kernel
theorem d_R_readsAt_23 : decode b_R_readsAt 23 = .ok (.caload, 1) := by decide +kernel
theorem d_R_readsAt_24 : decode b_R_readsAt 24 = .ok (.if_icmp .eq 5, 3) := by decide +kernel
theorem d_R_readsAt_27 : decode b_R_readsAt 27 = .ok (.iconst 0, 1) := by decide +kernel
theorem d_R_readsAt_28 : decode b_R_readsAt 28 = .ok (.ireturn, 1) := by decide +kernel
theorem d_R_readsAt_29 : decode b_R_readsAt 29 = .ok (.iinc 3 1, 3) := by decide +kernel
theorem d_R_readsAt_32 : decode b_R_readsAt 32 = .ok (.goto (-30), 3) := by decide +kernel
theorem d_R_readsAt_35 : decode b_R_readsAt 35 = .ok (.iconst 1, 1) := by decide +kernel
theorem d_R_readsAt_36 : decode b_R_readsAt 36 = .ok (.ireturn, 1) := by decide +kernel
theorem d_M_init_0 : decode b_M_init 0 = .ok (.aload_n 0, 1) := by decide +kernel
theorem d_M_init_1 : decode b_M_init 1 = .ok (.invokespecial 3, 3) := by decide +kernel
theorem d_M_init_4 : decode b_M_init 4 = .ok (.aload_n 0, 1) := by decide +kernel
theorem d_M_init_5 : decode b_M_init 5 = .ok (.bipush 6, 2) := by decide +kernel
theorem d_M_init_7 : decode b_M_init 7 = .ok (.newarray .int, 2) := by decide +kernel
theorem d_M_init_9 : decode b_M_init 9 = .ok (.putfield 9, 3) := by decide +kernel
theorem d_M_init_12 : decode b_M_init 12 = .ok (.aload_n 0, 1) := by decide +kernel
theorem d_M_init_13 : decode b_M_init 13 = .ok (.bipush 6, 2) := by decide +kernel
theorem d_M_init_15 : decode b_M_init 15 = .ok (.newarray .boolean, 2) := by decide +kernel
theorem d_M_init_17 : decode b_M_init 17 = .ok (.putfield 15, 3) := by decide +kernel
theorem d_M_init_20 : decode b_M_init 20 = .ok (.iconst 0, 1) := by decide +kernel
theorem d_M_init_21 : decode b_M_init 21 = .ok (.istore_n 1, 1) := by decide +kernel
theorem d_M_init_22 : decode b_M_init 22 = .ok (.iload_n 1, 1) := by decide +kernel
theorem d_M_init_23 : decode b_M_init 23 = .ok (.bipush 6, 2) := by decide +kernel
theorem d_M_init_25 : decode b_M_init 25 = .ok (.if_icmp .ge 16, 3) := by decide +kernel
theorem d_M_init_28 : decode b_M_init 28 = .ok (.aload_n 0, 1) := by decide +kernel
theorem d_M_init_29 : decode b_M_init 29 = .ok (.getfield 9, 3) := by decide +kernel
theorem d_M_init_32 : decode b_M_init 32 = .ok (.iload_n 1, 1) := by decide +kernel
theorem d_M_init_33 : decode b_M_init 33 = .ok (.iconst (-1), 1) := by decide +kernel
theorem d_M_init_34 : decode b_M_init 34 = .ok (.iastore, 1) := by decide +kernel
theorem d_M_init_35 : decode b_M_init 35 = .ok (.iinc 1 1, 3) := by decide +kernel
theorem d_M_init_38 : decode b_M_init 38 = .ok (.goto (-16), 3) := by decide +kernel
theorem d_M_init_41 : decode b_M_init 41 = .ok (.return_, 1) := by decide +kernel
theorem d_M_moveForComing_0 : decode b_M_moveForComing 0 = .ok (.iconst 0, 1) := by decide +kernel
theorem d_M_moveForComing_1 : decode b_M_moveForComing 1 = .ok (.istore_n 3, 1) := by decide +kernel
theorem d_M_moveForComing_2 : decode b_M_moveForComing 2 = .ok (.iload_n 3, 1) := by decide +kernel
theorem d_M_moveForComing_3 : decode b_M_moveForComing 3 = .ok (.bipush 6, 2) := by decide +kernel
theorem d_M_moveForComing_5 : decode b_M_moveForComing 5 = .ok (.if_icmp .ge 48, 3) := by decide +kernel
theorem d_M_moveForComing_8 : decode b_M_moveForComing 8 = .ok (.aload_n 0, 1) := by decide +kernel
theorem d_M_moveForComing_9 : decode b_M_moveForComing 9 = .ok (.getfield 9, 3) := by decide +kernel
theorem d_M_moveForComing_12 : decode b_M_moveForComing 12 = .ok (.iload_n 3, 1) := by decide +kernel
theorem d_M_moveForComing_13 : decode b_M_moveForComing 13 = .ok (.iaload, 1) := by decide +kernel
theorem d_M_moveForComing_14 : decode b_M_moveForComing 14 = .ok (.iload_n 1, 1) := by decide +kernel
theorem d_M_moveForComing_15 : decode b_M_moveForComing 15 = .ok (.if_icmp .gt 22, 3) := by decide +kernel
theorem d_M_moveForComing_18 : decode b_M_moveForComing 18 = .ok (.aload_n 0, 1) := by decide +kernel
theorem d_M_moveForComing_19 : decode b_M_moveForComing 19 = .ok (.getfield 9, 3) := by decide +kernel
theorem d_M_moveForComing_22 : decode b_M_moveForComing 22 = .ok (.iload_n 3, 1) := by decide +kernel
theorem d_M_moveForComing_23 : decode b_M_moveForComing 23 = .ok (.iaload, 1) := by decide +kernel
theorem d_M_moveForComing_24 : decode b_M_moveForComing 24 = .ok (.iload_n 1, 1) := by decide +kernel
theorem d_M_moveForComing_25 : decode b_M_moveForComing 25 = .ok (.if_icmp .ne 22, 3) := by decide +kernel
theorem d_M_moveForComing_28 : decode b_M_moveForComing 28 = .ok (.aload_n 0, 1) := by decide +kernel
theorem d_M_moveForComing_29 : decode b_M_moveForComing 29 = .ok (.getfield 15, 3) := by decide +kernel
theorem d_M_moveForComing_32 : decode b_M_moveForComing 32 = .ok (.iload_n 3, 1) := by decide +kernel
theorem d_M_moveForComing_33 : decode b_M_moveForComing 33 = .ok (.baload, 1) := by decide +kernel
theorem d_M_moveForComing_34 : decode b_M_moveForComing 34 = .ok (.ifCond .eq 13, 3) := by decide +kernel
theorem d_M_moveForComing_37 : decode b_M_moveForComing 37 = .ok (.aload_n 0, 1) := by decide +kernel
theorem d_M_moveForComing_38 : decode b_M_moveForComing 38 = .ok (.getfield 9, 3) := by decide +kernel
theorem d_M_moveForComing_41 : decode b_M_moveForComing 41 = .ok (.iload_n 3, 1) := by decide +kernel
theorem d_M_moveForComing_42 : decode b_M_moveForComing 42 = .ok (.dup2, 1) := by decide +kernel
theorem d_M_moveForComing_43 : decode b_M_moveForComing 43 = .ok (.iaload, 1) := by decide +kernel
theorem d_M_moveForComing_44 : decode b_M_moveForComing 44 = .ok (.iload_n 2, 1) := by decide +kernel
theorem d_M_moveForComing_45 : decode b_M_moveForComing 45 = .ok (.iadd, 1) := by decide +kernel
theorem d_M_moveForComing_46 : decode b_M_moveForComing 46 = .ok (.iastore, 1) := by decide +kernel
theorem d_M_moveForComing_47 : decode b_M_moveForComing 47 = .ok (.iinc 3 1, 3) := by decide +kernel
theorem d_M_moveForComing_50 : decode b_M_moveForComing 50 = .ok (.goto (-48), 3) := by decide +kernel
theorem d_M_moveForComing_53 : decode b_M_moveForComing 53 = .ok (.return_, 1) := by decide +kernel
theorem d_M_moveForGoing_0 : decode b_M_moveForGoing 0 = .ok (.iconst 0, 1) := by decide +kernel
theorem d_M_moveForGoing_1 : decode b_M_moveForGoing 1 = .ok (.istore_n 3, 1) := by decide +kernel
theorem d_M_moveForGoing_2 : decode b_M_moveForGoing 2 = .ok (.iload_n 3, 1) := by decide +kernel
theorem d_M_moveForGoing_3 : decode b_M_moveForGoing 3 = .ok (.bipush 6, 2) := by decide +kernel
theorem d_M_moveForGoing_5 : decode b_M_moveForGoing 5 = .ok (.if_icmp .ge 51, 3) := by decide +kernel
theorem d_M_moveForGoing_8 : decode b_M_moveForGoing 8 = .ok (.aload_n 0, 1) := by decide +kernel
theorem d_M_moveForGoing_9 : decode b_M_moveForGoing 9 = .ok (.getfield 9, 3) := by decide +kernel
theorem d_M_moveForGoing_12 : decode b_M_moveForGoing 12 = .ok (.iload_n 3, 1) := by decide +kernel
theorem d_M_moveForGoing_13 : decode b_M_moveForGoing 13 = .ok (.iaload, 1) := by decide +kernel
theorem d_M_moveForGoing_14 : decode b_M_moveForGoing 14 = .ok (.iload_n 1, 1) := by decide +kernel
theorem d_M_moveForGoing_15 : decode b_M_moveForGoing 15 = .ok (.iload_n 2, 1) := by decide +kernel
theorem d_M_moveForGoing_16 : decode b_M_moveForGoing 16 = .ok (.iadd, 1) := by decide +kernel
theorem d_M_moveForGoing_17 : decode b_M_moveForGoing 17 = .ok (.if_icmp .lt 16, 3) := by decide +kernel
theorem d_M_moveForGoing_20 : decode b_M_moveForGoing 20 = .ok (.aload_n 0, 1) := by decide +kernel
theorem d_M_moveForGoing_21 : decode b_M_moveForGoing 21 = .ok (.getfield 9, 3) := by decide +kernel
theorem d_M_moveForGoing_24 : decode b_M_moveForGoing 24 = .ok (.iload_n 3, 1) := by decide +kernel
theorem d_M_moveForGoing_25 : decode b_M_moveForGoing 25 = .ok (.dup2, 1) := by decide +kernel
theorem d_M_moveForGoing_26 : decode b_M_moveForGoing 26 = .ok (.iaload, 1) := by decide +kernel
theorem d_M_moveForGoing_27 : decode b_M_moveForGoing 27 = .ok (.iload_n 2, 1) := by decide +kernel
theorem d_M_moveForGoing_28 : decode b_M_moveForGoing 28 = .ok (.isub, 1) := by decide +kernel
theorem d_M_moveForGoing_29 : decode b_M_moveForGoing 29 = .ok (.iastore, 1) := by decide +kernel
theorem d_M_moveForGoing_30 : decode b_M_moveForGoing 30 = .ok (.goto 20, 3) := by decide +kernel
theorem d_M_moveForGoing_33 : decode b_M_moveForGoing 33 = .ok (.aload_n 0, 1) := by decide +kernel
theorem d_M_moveForGoing_34 : decode b_M_moveForGoing 34 = .ok (.getfield 9, 3) := by decide +kernel
theorem d_M_moveForGoing_37 : decode b_M_moveForGoing 37 = .ok (.iload_n 3, 1) := by decide +kernel
theorem d_M_moveForGoing_38 : decode b_M_moveForGoing 38 = .ok (.iaload, 1) := by decide +kernel
theorem d_M_moveForGoing_39 : decode b_M_moveForGoing 39 = .ok (.iload_n 1, 1) := by decide +kernel
theorem d_M_moveForGoing_40 : decode b_M_moveForGoing 40 = .ok (.if_icmp .le 10, 3) := by decide +kernel
theorem d_M_moveForGoing_43 : decode b_M_moveForGoing 43 = .ok (.aload_n 0, 1) := by decide +kernel
theorem d_M_moveForGoing_44 : decode b_M_moveForGoing 44 = .ok (.getfield 9, 3) := by decide +kernel
theorem d_M_moveForGoing_47 : decode b_M_moveForGoing 47 = .ok (.iload_n 3, 1) := by decide +kernel
theorem d_M_moveForGoing_48 : decode b_M_moveForGoing 48 = .ok (.iload_n 1, 1) := by decide +kernel
theorem d_M_moveForGoing_49 : decode b_M_moveForGoing 49 = .ok (.iastore, 1) := by decide +kernel
theorem d_M_moveForGoing_50 : decode b_M_moveForGoing 50 = .ok (.iinc 3 1, 3) := by decide +kernel
theorem d_M_moveForGoing_53 : decode b_M_moveForGoing 53 = .ok (.goto (-51), 3) := by decide +kernel
theorem d_M_moveForGoing_56 : decode b_M_moveForGoing 56 = .ok (.return_, 1) := by decide +kernel
theorem d_M_firstFrom_0 : decode b_M_firstFrom 0 = .ok (.iconst (-1), 1) := by decide +kernel
theorem d_M_firstFrom_1 : decode b_M_firstFrom 1 = .ok (.istore_n 2, 1) := by decide +kernel
theorem d_M_firstFrom_2 : decode b_M_firstFrom 2 = .ok (.iconst 0, 1) := by decide +kernel
theorem d_M_firstFrom_3 : decode b_M_firstFrom 3 = .ok (.istore_n 3, 1) := by decide +kernel
theorem d_M_firstFrom_4 : decode b_M_firstFrom 4 = .ok (.iload_n 3, 1) := by decide +kernel
theorem d_M_firstFrom_5 : decode b_M_firstFrom 5 = .ok (.bipush 6, 2) := by decide +kernel
theorem d_M_firstFrom_7 : decode b_M_firstFrom 7 = .ok (.if_icmp .ge 41, 3) := by decide +kernel
theorem d_M_firstFrom_10 : decode b_M_firstFrom 10 = .ok (.aload_n 0, 1) := by decide +kernel
theorem d_M_firstFrom_11 : decode b_M_firstFrom 11 = .ok (.getfield 9, 3) := by decide +kernel
theorem d_M_firstFrom_14 : decode b_M_firstFrom 14 = .ok (.iload_n 3, 1) := by decide +kernel
theorem d_M_firstFrom_15 : decode b_M_firstFrom 15 = .ok (.iaload, 1) := by decide +kernel
theorem d_M_firstFrom_16 : decode b_M_firstFrom 16 = .ok (.iload_n 1, 1) := by decide +kernel
theorem d_M_firstFrom_17 : decode b_M_firstFrom 17 = .ok (.if_icmp .lt 25, 3) := by decide +kernel
theorem d_M_firstFrom_20 : decode b_M_firstFrom 20 = .ok (.iload_n 2, 1) := by decide +kernel
theorem d_M_firstFrom_21 : decode b_M_firstFrom 21 = .ok (.iconst (-1), 1) := by decide +kernel
theorem d_M_firstFrom_22 : decode b_M_firstFrom 22 = .ok (.if_icmp .eq 18, 3) := by decide +kernel
theorem d_M_firstFrom_25 : decode b_M_firstFrom 25 = .ok (.aload_n 0, 1) := by decide +kernel
theorem d_M_firstFrom_26 : decode b_M_firstFrom 26 = .ok (.getfield 9, 3) := by decide +kernel
theorem d_M_firstFrom_29 : decode b_M_firstFrom 29 = .ok (.iload_n 3, 1) := by decide +kernel
theorem d_M_firstFrom_30 : decode b_M_firstFrom 30 = .ok (.iaload, 1) := by decide +kernel
theorem d_M_firstFrom_31 : decode b_M_firstFrom 31 = .ok (.aload_n 0, 1) := by decide +kernel
theorem d_M_firstFrom_32 : decode b_M_firstFrom 32 = .ok (.getfield 9, 3) := by decide +kernel
theorem d_M_firstFrom_35 : decode b_M_firstFrom 35 = .ok (.iload_n 2, 1) := by decide +kernel
theorem d_M_firstFrom_36 : decode b_M_firstFrom 36 = .ok (.iaload, 1) := by decide +kernel
theorem d_M_firstFrom_37 : decode b_M_firstFrom 37 = .ok (.if_icmp .ge 5, 3) := by decide +kernel
theorem d_M_firstFrom_40 : decode b_M_firstFrom 40 = .ok (.iload_n 3, 1) := by decide +kernel
theorem d_M_firstFrom_41 : decode b_M_firstFrom 41 = .ok (.istore_n 2, 1) := by decide +kernel
theorem d_M_firstFrom_42 : decode b_M_firstFrom 42 = .ok (.iinc 3 1, 3) := by decide +kernel
theorem d_M_firstFrom_45 : decode b_M_firstFrom 45 = .ok (.goto (-41), 3) := by decide +kernel
theorem d_M_firstFrom_48 : decode b_M_firstFrom 48 = .ok (.iload_n 2, 1) := by decide +kernel
theorem d_M_firstFrom_49 : decode b_M_firstFrom 49 = .ok (.ireturn, 1) := by decide +kernel
theorem d_V_init_0 : decode b_V_init 0 = .ok (.aload_n 0, 1) := by decide +kernel
theorem d_V_init_1 : decode b_V_init 1 = .ok (.invokespecial 1, 3) := by decide +kernel
theorem d_V_init_4 : decode b_V_init 4 = .ok (.aload_n 0, 1) := by decide +kernel
theorem d_V_init_5 : decode b_V_init 5 = .ok (.iload_n 1, 1) := by decide +kernel
theorem d_V_init_6 : decode b_V_init 6 = .ok (.putfield 7, 3) := by decide +kernel
theorem d_V_init_9 : decode b_V_init 9 = .ok (.aload_n 0, 1) := by decide +kernel
theorem d_V_init_10 : decode b_V_init 10 = .ok (.aload_n 2, 1) := by decide +kernel
theorem d_V_init_11 : decode b_V_init 11 = .ok (.putfield 13, 3) := by decide +kernel
theorem d_V_init_14 : decode b_V_init 14 = .ok (.aload_n 0, 1) := by decide +kernel
theorem d_V_init_15 : decode b_V_init 15 = .ok (.iload_n 3, 1) := by decide +kernel
theorem d_V_init_16 : decode b_V_init 16 = .ok (.putfield 17, 3) := by decide +kernel
theorem d_V_init_19 : decode b_V_init 19 = .ok (.aload_n 0, 1) := by decide +kernel
theorem d_V_init_20 : decode b_V_init 20 = .ok (.iload 4, 2) := by decide +kernel
theorem d_V_init_22 : decode b_V_init 22 = .ok (.putfield 21, 3) := by decide +kernel
theorem d_V_init_25 : decode b_V_init 25 = .ok (.aload_n 0, 1) := by decide +kernel
theorem d_V_init_26 : decode b_V_init 26 = .ok (.aload 5, 2) := by decide +kernel
theorem d_V_init_28 : decode b_V_init 28 = .ok (.putfield 24, 3) := by decide +kernel
theorem d_V_init_31 : decode b_V_init 31 = .ok (.aload_n 0, 1) := by decide +kernel
theorem d_V_init_32 : decode b_V_init 32 = .ok (.iconst 0, 1) := by decide +kernel
theorem d_V_init_33 : decode b_V_init 33 = .ok (.putfield 28, 3) := by decide +kernel
theorem d_V_init_36 : decode b_V_init 36 = .ok (.aload_n 0, 1) := by decide +kernel
theorem d_V_init_37 : decode b_V_init 37 = .ok (.aconst_null, 1) := by decide +kernel
theorem d_V_init_38 : decode b_V_init 38 = .ok (.putfield 31, 3) := by decide +kernel
theorem d_V_init_41 : decode b_V_init 41 = .ok (.return_, 1) := by decide +kernel
theorem d_B_init_0 : decode b_B_init 0 = .ok (.aload_n 0, 1) := by decide +kernel
theorem d_B_init_1 : decode b_B_init 1 = .ok (.invokespecial 1, 3) := by decide +kernel
theorem d_B_init_4 : decode b_B_init 4 = .ok (.aload_n 0, 1) := by decide +kernel
theorem d_B_init_5 : decode b_B_init 5 = .ok (.new 7, 3) := by decide +kernel
theorem d_B_init_8 : decode b_B_init 8 = .ok (.dup, 1) := by decide +kernel
theorem d_B_init_9 : decode b_B_init 9 = .ok (.sipush 2000, 3) := by decide +kernel
theorem d_B_init_12 : decode b_B_init 12 = .ok (.invokespecial 11, 3) := by decide +kernel
theorem d_B_init_15 : decode b_B_init 15 = .ok (.putfield 14, 3) := by decide +kernel
theorem d_B_init_18 : decode b_B_init 18 = .ok (.aload_n 0, 1) := by decide +kernel
theorem d_B_init_19 : decode b_B_init 19 = .ok (.new 7, 3) := by decide +kernel
theorem d_B_init_22 : decode b_B_init 22 = .ok (.dup, 1) := by decide +kernel
theorem d_B_init_23 : decode b_B_init 23 = .ok (.bipush 40, 2) := by decide +kernel
theorem d_B_init_25 : decode b_B_init 25 = .ok (.invokespecial 11, 3) := by decide +kernel
theorem d_B_init_28 : decode b_B_init 28 = .ok (.putfield 18, 3) := by decide +kernel
theorem d_B_init_31 : decode b_B_init 31 = .ok (.aload_n 0, 1) := by decide +kernel
theorem d_B_init_32 : decode b_B_init 32 = .ok (.new 21, 3) := by decide +kernel
theorem d_B_init_35 : decode b_B_init 35 = .ok (.dup, 1) := by decide +kernel
theorem d_B_init_36 : decode b_B_init 36 = .ok (.invokespecial 23, 3) := by decide +kernel
theorem d_B_init_39 : decode b_B_init 39 = .ok (.putfield 24, 3) := by decide +kernel
theorem d_B_init_42 : decode b_B_init 42 = .ok (.aload_n 0, 1) := by decide +kernel
theorem d_B_init_43 : decode b_B_init 43 = .ok (.bipush 122, 2) := by decide +kernel
theorem d_B_init_45 : decode b_B_init 45 = .ok (.anewarray 28, 3) := by decide +kernel
theorem d_B_init_48 : decode b_B_init 48 = .ok (.putfield 30, 3) := by decide +kernel
theorem d_B_init_51 : decode b_B_init 51 = .ok (.aload_n 0, 1) := by decide +kernel
theorem d_B_init_52 : decode b_B_init 52 = .ok (.bipush 122, 2) := by decide +kernel
theorem d_B_init_54 : decode b_B_init 54 = .ok (.anewarray 28, 3) := by decide +kernel
theorem d_B_init_57 : decode b_B_init 57 = .ok (.putfield 34, 3) := by decide +kernel
theorem d_B_init_60 : decode b_B_init 60 = .ok (.aload_n 0, 1) := by decide +kernel
theorem d_B_init_61 : decode b_B_init 61 = .ok (.new 28, 3) := by decide +kernel
theorem d_B_init_64 : decode b_B_init 64 = .ok (.dup, 1) := by decide +kernel
theorem d_B_init_65 : decode b_B_init 65 = .ok (.iconst 0, 1) := by decide +kernel
theorem d_B_init_66 : decode b_B_init 66 = .ok (.aconst_null, 1) := by decide +kernel
theorem d_B_init_67 : decode b_B_init 67 = .ok (.iconst 0, 1) := by decide +kernel
theorem d_B_init_68 : decode b_B_init 68 = .ok (.iconst 0, 1) := by decide +kernel
theorem d_B_init_69 : decode b_B_init 69 = .ok (.iconst 0, 1) := by decide +kernel
theorem d_B_init_70 : decode b_B_init 70 = .ok (.newarray .char, 2) := by decide +kernel
theorem d_B_init_72 : decode b_B_init 72 = .ok (.invokespecial 37, 3) := by decide +kernel
theorem d_B_init_75 : decode b_B_init 75 = .ok (.putfield 40, 3) := by decide +kernel
theorem d_B_init_78 : decode b_B_init 78 = .ok (.aload_n 0, 1) := by decide +kernel
theorem d_B_init_79 : decode b_B_init 79 = .ok (.getfield 30, 3) := by decide +kernel
theorem d_B_init_82 : decode b_B_init 82 = .ok (.iconst 0, 1) := by decide +kernel
theorem d_B_init_83 : decode b_B_init 83 = .ok (.aload_n 0, 1) := by decide +kernel
theorem d_B_init_84 : decode b_B_init 84 = .ok (.getfield 40, 3) := by decide +kernel
theorem d_B_init_87 : decode b_B_init 87 = .ok (.aastore, 1) := by decide +kernel
theorem d_B_init_88 : decode b_B_init 88 = .ok (.aload_n 0, 1) := by decide +kernel
theorem d_B_init_89 : decode b_B_init 89 = .ok (.iconst 1, 1) := by decide +kernel
theorem d_B_init_90 : decode b_B_init 90 = .ok (.putfield 44, 3) := by decide +kernel
theorem d_B_init_93 : decode b_B_init 93 = .ok (.aload_n 0, 1) := by decide +kernel
theorem d_B_init_94 : decode b_B_init 94 = .ok (.iconst 0, 1) := by decide +kernel
theorem d_B_init_95 : decode b_B_init 95 = .ok (.putfield 48, 3) := by decide +kernel
theorem d_B_init_98 : decode b_B_init 98 = .ok (.return_, 1) := by decide +kernel
theorem d_B_type_0 : decode b_B_type 0 = .ok (.iload_n 1, 1) := by decide +kernel
theorem d_B_type_1 : decode b_B_type 1 = .ok (.invokestatic 51, 3) := by decide +kernel
theorem d_B_type_4 : decode b_B_type 4 = .ok (.ifCond .eq 15, 3) := by decide +kernel
theorem d_B_type_7 : decode b_B_type 7 = .ok (.aload_n 0, 1) := by decide +kernel
theorem d_B_type_8 : decode b_B_type 8 = .ok (.getfield 18, 3) := by decide +kernel
theorem d_B_type_11 : decode b_B_type 11 = .ok (.getfield 55, 3) := by decide +kernel
theorem d_B_type_14 : decode b_B_type 14 = .ok (.bipush 40, 2) := by decide +kernel
theorem d_B_type_16 : decode b_B_type 16 = .ok (.if_icmp .ne 5, 3) := by decide +kernel
theorem d_B_type_19 : decode b_B_type 19 = .ok (.iconst 0, 1) := by decide +kernel
theorem d_B_type_20 : decode b_B_type 20 = .ok (.ireturn, 1) := by decide +kernel
theorem d_B_type_21 : decode b_B_type 21 = .ok (.aload_n 0, 1) := by decide +kernel
theorem d_B_type_22 : decode b_B_type 22 = .ok (.getfield 18, 3) := by decide +kernel
theorem d_B_type_25 : decode b_B_type 25 = .ok (.getfield 58, 3) := by decide +kernel
theorem d_B_type_28 : decode b_B_type 28 = .ok (.aload_n 0, 1) := by decide +kernel
theorem d_B_type_29 : decode b_B_type 29 = .ok (.getfield 18, 3) := by decide +kernel
theorem d_B_type_32 : decode b_B_type 32 = .ok (.getfield 55, 3) := by decide +kernel
theorem d_B_type_35 : decode b_B_type 35 = .ok (.iload_n 1, 1) := by decide +kernel
theorem d_B_type_36 : decode b_B_type 36 = .ok (.castore, 1) := by decide +kernel
theorem d_B_type_37 : decode b_B_type 37 = .ok (.aload_n 0, 1) := by decide +kernel
theorem d_B_type_38 : decode b_B_type 38 = .ok (.getfield 18, 3) := by decide +kernel
theorem d_B_type_41 : decode b_B_type 41 = .ok (.dup, 1) := by decide +kernel
theorem d_B_type_42 : decode b_B_type 42 = .ok (.getfield 55, 3) := by decide +kernel
theorem d_B_type_45 : decode b_B_type 45 = .ok (.iconst 1, 1) := by decide +kernel
theorem d_B_type_46 : decode b_B_type 46 = .ok (.iadd, 1) := by decide +kernel
theorem d_B_type_47 : decode b_B_type 47 = .ok (.putfield 55, 3) := by decide +kernel
theorem d_B_type_50 : decode b_B_type 50 = .ok (.iconst 1, 1) := by decide +kernel
theorem d_B_type_51 : decode b_B_type 51 = .ok (.ireturn, 1) := by decide +kernel
theorem d_B_wipe_0 : decode b_B_wipe 0 = .ok (.aload_n 0, 1) := by decide +kernel
theorem d_B_wipe_1 : decode b_B_wipe 1 = .ok (.getfield 18, 3) := by decide +kernel
theorem d_B_wipe_4 : decode b_B_wipe 4 = .ok (.iconst 0, 1) := by decide +kernel
theorem d_B_wipe_5 : decode b_B_wipe 5 = .ok (.putfield 55, 3) := by decide +kernel
theorem d_B_wipe_8 : decode b_B_wipe 8 = .ok (.return_, 1) := by decide +kernel
theorem d_B_scratch_0 : decode b_B_scratch 0 = .ok (.aload_n 0, 1) := by decide +kernel
theorem d_B_scratch_1 : decode b_B_scratch 1 = .ok (.getfield 18, 3) := by decide +kernel
theorem d_B_scratch_4 : decode b_B_scratch 4 = .ok (.getfield 55, 3) := by decide +kernel
theorem d_B_scratch_7 : decode b_B_scratch 7 = .ok (.ireturn, 1) := by decide +kernel
theorem d_B_copy_0 : decode b_B_copy 0 = .ok (.aload_n 0, 1) := by decide +kernel
theorem d_B_copy_1 : decode b_B_copy 1 = .ok (.getfield 14, 3) := by decide +kernel
theorem d_B_copy_4 : decode b_B_copy 4 = .ok (.iload_n 1, 1) := by decide +kernel
theorem d_B_copy_5 : decode b_B_copy 5 = .ok (.iload_n 2, 1) := by decide +kernel
theorem d_B_copy_6 : decode b_B_copy 6 = .ok (.invokevirtual 62, 3) := by decide +kernel
theorem d_B_copy_9 : decode b_B_copy 9 = .ok (.ifCond .eq 9, 3) := by decide +kernel
theorem d_B_copy_12 : decode b_B_copy 12 = .ok (.iload_n 2, 1) := by decide +kernel
theorem d_B_copy_13 : decode b_B_copy 13 = .ok (.bipush 40, 2) := by decide +kernel
theorem d_B_copy_15 : decode b_B_copy 15 = .ok (.if_icmp .le 5, 3) := by decide +kernel
theorem d_B_copy_18 : decode b_B_copy 18 = .ok (.iconst (-1), 1) := by decide +kernel
theorem d_B_copy_19 : decode b_B_copy 19 = .ok (.ireturn, 1) := by decide +kernel
theorem d_B_copy_20 : decode b_B_copy 20 = .ok (.aload_n 0, 1) := by decide +kernel
theorem d_B_copy_21 : decode b_B_copy 21 = .ok (.getfield 14, 3) := by decide +kernel
theorem d_B_copy_24 : decode b_B_copy 24 = .ok (.getfield 58, 3) := by decide +kernel
theorem d_B_copy_27 : decode b_B_copy 27 = .ok (.iload_n 1, 1) := by decide +kernel
theorem d_B_copy_28 : decode b_B_copy 28 = .ok (.aload_n 0, 1) := by decide +kernel
theorem d_B_copy_29 : decode b_B_copy 29 = .ok (.getfield 18, 3) := by decide +kernel
theorem d_B_copy_32 : decode b_B_copy 32 = .ok (.getfield 58, 3) := by decide +kernel
theorem d_B_copy_35 : decode b_B_copy 35 = .ok (.iconst 0, 1) := by decide +kernel
theorem d_B_copy_36 : decode b_B_copy 36 = .ok (.iload_n 2, 1) := by decide +kernel
theorem d_B_copy_37 : decode b_B_copy 37 = .ok (.invokestatic 66, 3) := by decide +kernel
theorem d_B_copy_40 : decode b_B_copy 40 = .ok (.aload_n 0, 1) := by decide +kernel
theorem d_B_copy_41 : decode b_B_copy 41 = .ok (.getfield 18, 3) := by decide +kernel
theorem d_B_copy_44 : decode b_B_copy 44 = .ok (.iload_n 2, 1) := by decide +kernel
theorem d_B_copy_45 : decode b_B_copy 45 = .ok (.putfield 55, 3) := by decide +kernel
theorem d_B_copy_48 : decode b_B_copy 48 = .ok (.iload_n 2, 1) := by decide +kernel
theorem d_B_copy_49 : decode b_B_copy 49 = .ok (.ireturn, 1) := by decide +kernel
theorem d_B_insert_0 : decode b_B_insert 0 = .ok (.aload_n 0, 1) := by decide +kernel
theorem d_B_insert_1 : decode b_B_insert 1 = .ok (.getfield 14, 3) := by decide +kernel
theorem d_B_insert_4 : decode b_B_insert 4 = .ok (.iload_n 1, 1) := by decide +kernel
theorem d_B_insert_5 : decode b_B_insert 5 = .ok (.invokevirtual 72, 3) := by decide +kernel
theorem d_B_insert_8 : decode b_B_insert 8 = .ok (.ifCond .ne 5, 3) := by decide +kernel
theorem d_B_insert_11 : decode b_B_insert 11 = .ok (.iconst (-1), 1) := by decide +kernel
theorem d_B_insert_12 : decode b_B_insert 12 = .ok (.ireturn, 1) := by decide +kernel
theorem d_B_insert_13 : decode b_B_insert 13 = .ok (.aload_n 0, 1) := by decide +kernel
theorem d_B_insert_14 : decode b_B_insert 14 = .ok (.getfield 18, 3) := by decide +kernel
theorem d_B_insert_17 : decode b_B_insert 17 = .ok (.getfield 55, 3) := by decide +kernel
theorem d_B_insert_20 : decode b_B_insert 20 = .ok (.ifCond .ne 6, 3) := by decide +kernel
theorem d_B_insert_23 : decode b_B_insert 23 = .ok (.bipush (-2), 2) := by decide +kernel
theorem d_B_insert_25 : decode b_B_insert 25 = .ok (.ireturn, 1) := by decide +kernel
theorem d_B_insert_26 : decode b_B_insert 26 = .ok (.aload_n 0, 1) := by decide +kernel
theorem d_B_insert_27 : decode b_B_insert 27 = .ok (.getfield 44, 3) := by decide +kernel
theorem d_B_insert_30 : decode b_B_insert 30 = .ok (.bipush 122, 2) := by decide +kernel
theorem d_B_insert_32 : decode b_B_insert 32 = .ok (.if_icmp .eq 21, 3) := by decide +kernel
theorem d_B_insert_35 : decode b_B_insert 35 = .ok (.aload_n 0, 1) := by decide +kernel
theorem d_B_insert_36 : decode b_B_insert 36 = .ok (.getfield 48, 3) := by decide +kernel
theorem d_B_insert_39 : decode b_B_insert 39 = .ok (.aload_n 0, 1) := by decide +kernel
theorem d_B_insert_40 : decode b_B_insert 40 = .ok (.getfield 18, 3) := by decide +kernel
theorem d_B_insert_43 : decode b_B_insert 43 = .ok (.getfield 55, 3) := by decide +kernel
theorem d_B_insert_46 : decode b_B_insert 46 = .ok (.iadd, 1) := by decide +kernel
theorem d_B_insert_47 : decode b_B_insert 47 = .ok (.sipush 2000, 3) := by decide +kernel
theorem d_B_insert_50 : decode b_B_insert 50 = .ok (.if_icmp .le 6, 3) := by decide +kernel
theorem d_B_insert_53 : decode b_B_insert 53 = .ok (.bipush (-3), 2) := by decide +kernel
theorem d_B_insert_55 : decode b_B_insert 55 = .ok (.ireturn, 1) := by decide +kernel
theorem d_B_insert_56 : decode b_B_insert 56 = .ok (.aload_n 0, 1) := by decide +kernel
theorem d_B_insert_57 : decode b_B_insert 57 = .ok (.dup, 1) := by decide +kernel
theorem d_B_insert_58 : decode b_B_insert 58 = .ok (.getfield 48, 3) := by decide +kernel
theorem d_B_insert_61 : decode b_B_insert 61 = .ok (.aload_n 0, 1) := by decide +kernel
theorem d_B_insert_62 : decode b_B_insert 62 = .ok (.getfield 18, 3) := by decide +kernel
theorem d_B_insert_65 : decode b_B_insert 65 = .ok (.getfield 55, 3) := by decide +kernel
theorem d_B_insert_68 : decode b_B_insert 68 = .ok (.iadd, 1) := by decide +kernel
theorem d_B_insert_69 : decode b_B_insert 69 = .ok (.putfield 48, 3) := by decide +kernel
theorem d_B_insert_72 : decode b_B_insert 72 = .ok (.aload_n 0, 1) := by decide +kernel
theorem d_B_insert_73 : decode b_B_insert 73 = .ok (.iconst 1, 1) := by decide +kernel
theorem d_B_insert_74 : decode b_B_insert 74 = .ok (.iload_n 1, 1) := by decide +kernel
theorem d_B_insert_75 : decode b_B_insert 75 = .ok (.aload_n 0, 1) := by decide +kernel
theorem d_B_insert_76 : decode b_B_insert 76 = .ok (.getfield 18, 3) := by decide +kernel
theorem d_B_insert_79 : decode b_B_insert 79 = .ok (.iconst 0, 1) := by decide +kernel
theorem d_B_insert_80 : decode b_B_insert 80 = .ok (.aload_n 0, 1) := by decide +kernel
theorem d_B_insert_81 : decode b_B_insert 81 = .ok (.getfield 18, 3) := by decide +kernel
theorem d_B_insert_84 : decode b_B_insert 84 = .ok (.getfield 55, 3) := by decide +kernel
theorem d_B_insert_87 : decode b_B_insert 87 = .ok (.invokevirtual 76, 3) := by decide +kernel
theorem d_B_insert_90 : decode b_B_insert 90 = .ok (.invokevirtual 80, 3) := by decide +kernel
theorem d_B_insert_93 : decode b_B_insert 93 = .ok (.ireturn, 1) := by decide +kernel
theorem d_B_delete_0 : decode b_B_delete 0 = .ok (.aload_n 0, 1) := by decide +kernel
theorem d_B_delete_1 : decode b_B_delete 1 = .ok (.getfield 14, 3) := by decide +kernel
theorem d_B_delete_4 : decode b_B_delete 4 = .ok (.iload_n 1, 1) := by decide +kernel
theorem d_B_delete_5 : decode b_B_delete 5 = .ok (.iload_n 2, 1) := by decide +kernel
theorem d_B_delete_6 : decode b_B_delete 6 = .ok (.invokevirtual 62, 3) := by decide +kernel
theorem d_B_delete_9 : decode b_B_delete 9 = .ok (.ifCond .ne 5, 3) := by decide +kernel
theorem d_B_delete_12 : decode b_B_delete 12 = .ok (.iconst (-1), 1) := by decide +kernel
theorem d_B_delete_13 : decode b_B_delete 13 = .ok (.ireturn, 1) := by decide +kernel
theorem d_B_delete_14 : decode b_B_delete 14 = .ok (.iload_n 2, 1) := by decide +kernel
theorem d_B_delete_15 : decode b_B_delete 15 = .ok (.ifCond .ne 6, 3) := by decide +kernel
theorem d_B_delete_18 : decode b_B_delete 18 = .ok (.bipush (-2), 2) := by decide +kernel
theorem d_B_delete_20 : decode b_B_delete 20 = .ok (.ireturn, 1) := by decide +kernel
theorem d_B_delete_21 : decode b_B_delete 21 = .ok (.aload_n 0, 1) := by decide +kernel
theorem d_B_delete_22 : decode b_B_delete 22 = .ok (.getfield 44, 3) := by decide +kernel
theorem d_B_delete_25 : decode b_B_delete 25 = .ok (.bipush 122, 2) := by decide +kernel
theorem d_B_delete_27 : decode b_B_delete 27 = .ok (.if_icmp .ne 6, 3) := by decide +kernel
theorem d_B_delete_30 : decode b_B_delete 30 = .ok (.bipush (-3), 2) := by decide +kernel
theorem d_B_delete_32 : decode b_B_delete 32 = .ok (.ireturn, 1) := by decide +kernel
theorem d_B_delete_33 : decode b_B_delete 33 = .ok (.aload_n 0, 1) := by decide +kernel
theorem d_B_delete_34 : decode b_B_delete 34 = .ok (.iconst 0, 1) := by decide +kernel
theorem d_B_delete_35 : decode b_B_delete 35 = .ok (.iload_n 1, 1) := by decide +kernel
theorem d_B_delete_36 : decode b_B_delete 36 = .ok (.aload_n 0, 1) := by decide +kernel
theorem d_B_delete_37 : decode b_B_delete 37 = .ok (.getfield 14, 3) := by decide +kernel
theorem d_B_delete_40 : decode b_B_delete 40 = .ok (.iload_n 1, 1) := by decide +kernel
theorem d_B_delete_41 : decode b_B_delete 41 = .ok (.iload_n 2, 1) := by decide +kernel
theorem d_B_delete_42 : decode b_B_delete 42 = .ok (.invokevirtual 76, 3) := by decide +kernel
theorem d_B_delete_45 : decode b_B_delete 45 = .ok (.invokevirtual 80, 3) := by decide +kernel
theorem d_B_delete_48 : decode b_B_delete 48 = .ok (.ireturn, 1) := by decide +kernel
theorem d_B_undo_0 : decode b_B_undo 0 = .ok (.aload_n 0, 1) := by decide +kernel
theorem d_B_undo_1 : decode b_B_undo 1 = .ok (.getfield 40, 3) := by decide +kernel
theorem d_B_undo_4 : decode b_B_undo 4 = .ok (.getfield 84, 3) := by decide +kernel
theorem d_B_undo_7 : decode b_B_undo 7 = .ok (.astore_n 1, 1) := by decide +kernel
theorem d_B_undo_8 : decode b_B_undo 8 = .ok (.aload_n 1, 1) := by decide +kernel
theorem d_B_undo_9 : decode b_B_undo 9 = .ok (.ifnonnull 5, 3) := by decide +kernel
theorem d_B_undo_12 : decode b_B_undo 12 = .ok (.iconst (-1), 1) := by decide +kernel
theorem d_B_undo_13 : decode b_B_undo 13 = .ok (.ireturn, 1) := by decide +kernel
theorem d_B_undo_14 : decode b_B_undo 14 = .ok (.aload_n 0, 1) := by decide +kernel
theorem d_B_undo_15 : decode b_B_undo 15 = .ok (.aload_n 1, 1) := by decide +kernel
theorem d_B_undo_16 : decode b_B_undo 16 = .ok (.invokevirtual 87, 3) := by decide +kernel
theorem d_B_undo_19 : decode b_B_undo 19 = .ok (.aload_n 0, 1) := by decide +kernel
theorem d_B_undo_20 : decode b_B_undo 20 = .ok (.getfield 40, 3) := by decide +kernel
theorem d_B_undo_23 : decode b_B_undo 23 = .ok (.getfield 91, 3) := by decide +kernel
theorem d_B_undo_26 : decode b_B_undo 26 = .ok (.ireturn, 1) := by decide +kernel
theorem d_B_redo_0 : decode b_B_redo 0 = .ok (.aload_n 0, 1) := by decide +kernel
theorem d_B_redo_1 : decode b_B_redo 1 = .ok (.getfield 40, 3) := by decide +kernel
theorem d_B_redo_4 : decode b_B_redo 4 = .ok (.getfield 94, 3) := by decide +kernel
theorem d_B_redo_7 : decode b_B_redo 7 = .ok (.astore_n 1, 1) := by decide +kernel
theorem d_B_redo_8 : decode b_B_redo 8 = .ok (.aload_n 1, 1) := by decide +kernel
theorem d_B_redo_9 : decode b_B_redo 9 = .ok (.ifnonnull 5, 3) := by decide +kernel
theorem d_B_redo_12 : decode b_B_redo 12 = .ok (.iconst (-1), 1) := by decide +kernel
theorem d_B_redo_13 : decode b_B_redo 13 = .ok (.ireturn, 1) := by decide +kernel
theorem d_B_redo_14 : decode b_B_redo 14 = .ok (.aload_n 0, 1) := by decide +kernel
theorem d_B_redo_15 : decode b_B_redo 15 = .ok (.aload_n 1, 1) := by decide +kernel
theorem d_B_redo_16 : decode b_B_redo 16 = .ok (.invokevirtual 97, 3) := by decide +kernel
theorem d_B_redo_19 : decode b_B_redo 19 = .ok (.aload_n 0, 1) := by decide +kernel
theorem d_B_redo_20 : decode b_B_redo 20 = .ok (.getfield 40, 3) := by decide +kernel
theorem d_B_redo_23 : decode b_B_redo 23 = .ok (.getfield 91, 3) := by decide +kernel
theorem d_B_redo_26 : decode b_B_redo 26 = .ok (.ireturn, 1) := by decide +kernel
theorem d_B_goTo_0 : decode b_B_goTo 0 = .ok (.aload_n 0, 1) := by decide +kernel
theorem d_B_goTo_1 : decode b_B_goTo 1 = .ok (.iload_n 1, 1) := by decide +kernel
theorem d_B_goTo_2 : decode b_B_goTo 2 = .ok (.invokevirtual 100, 3) := by decide +kernel
theorem d_B_goTo_5 : decode b_B_goTo 5 = .ok (.astore_n 2, 1) := by decide +kernel
theorem d_B_goTo_6 : decode b_B_goTo 6 = .ok (.aload_n 2, 1) := by decide +kernel
theorem d_B_goTo_7 : decode b_B_goTo 7 = .ok (.ifnonnull 5, 3) := by decide +kernel
theorem d_B_goTo_10 : decode b_B_goTo 10 = .ok (.iconst (-1), 1) := by decide +kernel
theorem d_B_goTo_11 : decode b_B_goTo 11 = .ok (.ireturn, 1) := by decide +kernel
theorem d_B_goTo_12 : decode b_B_goTo 12 = .ok (.iconst 0, 1) := by decide +kernel
theorem d_B_goTo_13 : decode b_B_goTo 13 = .ok (.istore_n 3, 1) := by decide +kernel
theorem d_B_goTo_14 : decode b_B_goTo 14 = .ok (.iconst 0, 1) := by decide +kernel
theorem d_B_goTo_15 : decode b_B_goTo 15 = .ok (.istore 4, 2) := by decide +kernel
theorem d_B_goTo_17 : decode b_B_goTo 17 = .ok (.aload_n 0, 1) := by decide +kernel
theorem d_B_goTo_18 : decode b_B_goTo 18 = .ok (.getfield 40, 3) := by decide +kernel
theorem d_B_goTo_21 : decode b_B_goTo 21 = .ok (.aload_n 2, 1) := by decide +kernel
theorem d_B_goTo_22 : decode b_B_goTo 22 = .ok (.if_acmp .eq 97, 3) := by decide +kernel
theorem d_B_goTo_25 : decode b_B_goTo 25 = .ok (.iload_n 3, 1) := by decide +kernel
theorem d_B_goTo_26 : decode b_B_goTo 26 = .ok (.bipush 122, 2) := by decide +kernel
theorem d_B_goTo_28 : decode b_B_goTo 28 = .ok (.if_icmp .ge 91, 3) := by decide +kernel
theorem d_B_goTo_31 : decode b_B_goTo 31 = .ok (.iload 4, 2) := by decide +kernel
theorem d_B_goTo_33 : decode b_B_goTo 33 = .ok (.bipush 122, 2) := by decide +kernel
theorem d_B_goTo_35 : decode b_B_goTo 35 = .ok (.if_icmp .ge 84, 3) := by decide +kernel
theorem d_B_goTo_38 : decode b_B_goTo 38 = .ok (.aload_n 0, 1) := by decide +kernel
theorem d_B_goTo_39 : decode b_B_goTo 39 = .ok (.getfield 40, 3) := by decide +kernel
theorem d_B_goTo_42 : decode b_B_goTo 42 = .ok (.getfield 91, 3) := by decide +kernel
theorem d_B_goTo_45 : decode b_B_goTo 45 = .ok (.aload_n 2, 1) := by decide +kernel
theorem d_B_goTo_46 : decode b_B_goTo 46 = .ok (.getfield 91, 3) := by decide +kernel
theorem d_B_goTo_49 : decode b_B_goTo 49 = .ok (.if_icmp .le 13, 3) := by decide +kernel
theorem d_B_goTo_52 : decode b_B_goTo 52 = .ok (.aload_n 0, 1) := by decide +kernel
theorem d_B_goTo_53 : decode b_B_goTo 53 = .ok (.getfield 40, 3) := by decide +kernel
theorem d_B_goTo_56 : decode b_B_goTo 56 = .ok (.getfield 84, 3) := by decide +kernel
theorem d_B_goTo_59 : decode b_B_goTo 59 = .ok (.goto 7, 3) := by decide +kernel
theorem d_B_goTo_62 : decode b_B_goTo 62 = .ok (.aload_n 2, 1) := by decide +kernel
theorem d_B_goTo_63 : decode b_B_goTo 63 = .ok (.getfield 84, 3) := by decide +kernel
theorem d_B_goTo_66 : decode b_B_goTo 66 = .ok (.astore 5, 2) := by decide +kernel
theorem d_B_goTo_68 : decode b_B_goTo 68 = .ok (.aload 5, 2) := by decide +kernel
theorem d_B_goTo_70 : decode b_B_goTo 70 = .ok (.ifnonnull 6, 3) := by decide +kernel
theorem d_B_goTo_73 : decode b_B_goTo 73 = .ok (.goto 46, 3) := by decide +kernel
theorem d_B_goTo_76 : decode b_B_goTo 76 = .ok (.aload_n 0, 1) := by decide +kernel
theorem d_B_goTo_77 : decode b_B_goTo 77 = .ok (.getfield 40, 3) := by decide +kernel
theorem d_B_goTo_80 : decode b_B_goTo 80 = .ok (.getfield 91, 3) := by decide +kernel
theorem d_B_goTo_83 : decode b_B_goTo 83 = .ok (.aload_n 2, 1) := by decide +kernel
theorem d_B_goTo_84 : decode b_B_goTo 84 = .ok (.getfield 91, 3) := by decide +kernel
theorem d_B_goTo_87 : decode b_B_goTo 87 = .ok (.if_icmp .le 15, 3) := by decide +kernel
theorem d_B_goTo_90 : decode b_B_goTo 90 = .ok (.aload_n 0, 1) := by decide +kernel
theorem d_B_goTo_91 : decode b_B_goTo 91 = .ok (.aload 5, 2) := by decide +kernel
theorem d_B_goTo_93 : decode b_B_goTo 93 = .ok (.invokevirtual 87, 3) := by decide +kernel
theorem d_B_goTo_96 : decode b_B_goTo 96 = .ok (.iinc 3 1, 3) := by decide +kernel
theorem d_B_goTo_99 : decode b_B_goTo 99 = .ok (.goto 17, 3) := by decide +kernel
theorem d_B_goTo_102 : decode b_B_goTo 102 = .ok (.aload_n 0, 1) := by decide +kernel
theorem d_B_goTo_103 : decode b_B_goTo 103 = .ok (.getfield 34, 3) := by decide +kernel
theorem d_B_goTo_106 : decode b_B_goTo 106 = .ok (.iload 4, 2) := by decide +kernel
theorem d_B_goTo_108 : decode b_B_goTo 108 = .ok (.aload_n 2, 1) := by decide +kernel
theorem d_B_goTo_109 : decode b_B_goTo 109 = .ok (.aastore, 1) := by decide +kernel
theorem d_B_goTo_110 : decode b_B_goTo 110 = .ok (.iinc 4 1, 3) := by decide +kernel
theorem d_B_goTo_113 : decode b_B_goTo 113 = .ok (.aload 5, 2) := by decide +kernel
theorem d_B_goTo_115 : decode b_B_goTo 115 = .ok (.astore_n 2, 1) := by decide +kernel
theorem d_B_goTo_116 : decode b_B_goTo 116 = .ok (.goto (-99), 3) := by decide +kernel
theorem d_B_goTo_119 : decode b_B_goTo 119 = .ok (.aload_n 0, 1) := by decide +kernel
theorem d_B_goTo_120 : decode b_B_goTo 120 = .ok (.iload 4, 2) := by decide +kernel
theorem d_B_goTo_122 : decode b_B_goTo 122 = .ok (.invokevirtual 104, 3) := by decide +kernel
theorem d_B_goTo_125 : decode b_B_goTo 125 = .ok (.iload_n 3, 1) := by decide +kernel
theorem d_B_goTo_126 : decode b_B_goTo 126 = .ok (.iload 4, 2) := by decide +kernel
theorem d_B_goTo_128 : decode b_B_goTo 128 = .ok (.iadd, 1) := by decide +kernel
theorem d_B_goTo_129 : decode b_B_goTo 129 = .ok (.ireturn, 1) := by decide +kernel
theorem d_B_version_0 : decode b_B_version 0 = .ok (.aload_n 0, 1) := by decide +kernel
theorem d_B_version_1 : decode b_B_version 1 = .ok (.getfield 40, 3) := by decide +kernel
theorem d_B_version_4 : decode b_B_version 4 = .ok (.getfield 91, 3) := by decide +kernel
theorem d_B_version_7 : decode b_B_version 7 = .ok (.ireturn, 1) := by decide +kernel
theorem d_B_versions_0 : decode b_B_versions 0 = .ok (.aload_n 0, 1) := by decide +kernel
theorem d_B_versions_1 : decode b_B_versions 1 = .ok (.getfield 44, 3) := by decide +kernel
theorem d_B_versions_4 : decode b_B_versions 4 = .ok (.ireturn, 1) := by decide +kernel
theorem d_B_parent_0 : decode b_B_parent 0 = .ok (.aload_n 0, 1) := by decide +kernel
theorem d_B_parent_1 : decode b_B_parent 1 = .ok (.iload_n 1, 1) := by decide +kernel
theorem d_B_parent_2 : decode b_B_parent 2 = .ok (.invokevirtual 100, 3) := by decide +kernel
theorem d_B_parent_5 : decode b_B_parent 5 = .ok (.astore_n 2, 1) := by decide +kernel
theorem d_B_parent_6 : decode b_B_parent 6 = .ok (.aload_n 2, 1) := by decide +kernel
theorem d_B_parent_7 : decode b_B_parent 7 = .ok (.ifnull 10, 3) := by decide +kernel
theorem d_B_parent_10 : decode b_B_parent 10 = .ok (.aload_n 2, 1) := by decide +kernel
theorem d_B_parent_11 : decode b_B_parent 11 = .ok (.getfield 84, 3) := by decide +kernel
theorem d_B_parent_14 : decode b_B_parent 14 = .ok (.ifnonnull 5, 3) := by decide +kernel
theorem d_B_parent_17 : decode b_B_parent 17 = .ok (.iconst (-1), 1) := by decide +kernel
theorem d_B_parent_18 : decode b_B_parent 18 = .ok (.ireturn, 1) := by decide +kernel
theorem d_B_parent_19 : decode b_B_parent 19 = .ok (.aload_n 2, 1) := by decide +kernel
theorem d_B_parent_20 : decode b_B_parent 20 = .ok (.getfield 84, 3) := by decide +kernel
theorem d_B_parent_23 : decode b_B_parent 23 = .ok (.getfield 91, 3) := by decide +kernel
theorem d_B_parent_26 : decode b_B_parent 26 = .ok (.ireturn, 1) := by decide +kernel
theorem d_B_children_0 : decode b_B_children 0 = .ok (.aload_n 0, 1) := by decide +kernel
theorem d_B_children_1 : decode b_B_children 1 = .ok (.iload_n 1, 1) := by decide +kernel
theorem d_B_children_2 : decode b_B_children 2 = .ok (.invokevirtual 100, 3) := by decide +kernel
theorem d_B_children_5 : decode b_B_children 5 = .ok (.astore_n 2, 1) := by decide +kernel
theorem d_B_children_6 : decode b_B_children 6 = .ok (.aload_n 2, 1) := by decide +kernel
theorem d_B_children_7 : decode b_B_children 7 = .ok (.ifnonnull 7, 3) := by decide +kernel
theorem d_B_children_10 : decode b_B_children 10 = .ok (.iconst (-1), 1) := by decide +kernel
theorem d_B_children_11 : decode b_B_children 11 = .ok (.goto 7, 3) := by decide +kernel
theorem d_B_children_14 : decode b_B_children 14 = .ok (.aload_n 2, 1) := by decide +kernel
theorem d_B_children_15 : decode b_B_children 15 = .ok (.getfield 107, 3) := by decide +kernel
theorem d_B_children_18 : decode b_B_children 18 = .ok (.ireturn, 1) := by decide +kernel
theorem d_B_length_0 : decode b_B_length 0 = .ok (.aload_n 0, 1) := by decide +kernel
theorem d_B_length_1 : decode b_B_length 1 = .ok (.getfield 14, 3) := by decide +kernel
theorem d_B_length_4 : decode b_B_length 4 = .ok (.getfield 55, 3) := by decide +kernel
theorem d_B_length_7 : decode b_B_length 7 = .ok (.ireturn, 1) := by decide +kernel
theorem d_B_at_0 : decode b_B_at 0 = .ok (.iload_n 1, 1) := by decide +kernel
theorem d_B_at_1 : decode b_B_at 1 = .ok (.ifCond .lt 26, 3) := by decide +kernel
theorem d_B_at_4 : decode b_B_at 4 = .ok (.iload_n 1, 1) := by decide +kernel
theorem d_B_at_5 : decode b_B_at 5 = .ok (.aload_n 0, 1) := by decide +kernel
theorem d_B_at_6 : decode b_B_at 6 = .ok (.getfield 14, 3) := by decide +kernel
theorem d_B_at_9 : decode b_B_at 9 = .ok (.getfield 55, 3) := by decide +kernel
theorem d_B_at_12 : decode b_B_at 12 = .ok (.if_icmp .ge 15, 3) := by decide +kernel
theorem d_B_at_15 : decode b_B_at 15 = .ok (.aload_n 0, 1) := by decide +kernel
theorem d_B_at_16 : decode b_B_at 16 = .ok (.getfield 14, 3) := by decide +kernel
theorem d_B_at_19 : decode b_B_at 19 = .ok (.getfield 58, 3) := by decide +kernel
theorem d_B_at_22 : decode b_B_at 22 = .ok (.iload_n 1, 1) := by decide +kernel
theorem d_B_at_23 : decode b_B_at 23 = .ok (.caload, 1) := by decide +kernel
theorem d_B_at_24 : decode b_B_at 24 = .ok (.goto 4, 3) := by decide +kernel
theorem d_B_at_27 : decode b_B_at 27 = .ok (.iconst 0, 1) := by decide +kernel
theorem d_B_at_28 : decode b_B_at 28 = .ok (.ireturn, 1) := by decide +kernel
theorem d_B_lines_0 : decode b_B_lines 0 = .ok (.aload_n 0, 1) := by decide +kernel
theorem d_B_lines_1 : decode b_B_lines 1 = .ok (.getfield 14, 3) := by decide +kernel
theorem d_B_lines_4 : decode b_B_lines 4 = .ok (.aload_n 0, 1) := by decide +kernel
theorem d_B_lines_5 : decode b_B_lines 5 = .ok (.getfield 14, 3) := by decide +kernel
theorem d_B_lines_8 : decode b_B_lines 8 = .ok (.getfield 55, 3) := by decide +kernel
theorem d_B_lines_11 : decode b_B_lines 11 = .ok (.invokevirtual 110, 3) := by decide +kernel
theorem d_B_lines_14 : decode b_B_lines 14 = .ok (.iconst 1, 1) := by decide +kernel
theorem d_B_lines_15 : decode b_B_lines 15 = .ok (.iadd, 1) := by decide +kernel
theorem d_B_lines_16 : decode b_B_lines 16 = .ok (.ireturn, 1) := by decide +kernel
theorem d_B_lineStart_0 : decode b_B_lineStart 0 = .ok (.iload_n 1, 1) := by decide +kernel
theorem d_B_lineStart_1 : decode b_B_lineStart 1 = .ok (.ifCond .ge 5, 3) := by decide +kernel
theorem d_B_lineStart_4 : decode b_B_lineStart 4 = .ok (.iconst (-1), 1) := by decide +kernel
theorem d_B_lineStart_5 : decode b_B_lineStart 5 = .ok (.ireturn, 1) := by decide +kernel
theorem d_B_lineStart_6 : decode b_B_lineStart 6 = .ok (.iload_n 1, 1) := by decide +kernel
theorem d_B_lineStart_7 : decode b_B_lineStart 7 = .ok (.ifCond .ne 7, 3) := by decide +kernel
theorem d_B_lineStart_10 : decode b_B_lineStart 10 = .ok (.iconst 0, 1) := by decide +kernel
theorem d_B_lineStart_11 : decode b_B_lineStart 11 = .ok (.goto 11, 3) := by decide +kernel
theorem d_B_lineStart_14 : decode b_B_lineStart 14 = .ok (.aload_n 0, 1) := by decide +kernel
theorem d_B_lineStart_15 : decode b_B_lineStart 15 = .ok (.getfield 14, 3) := by decide +kernel
theorem d_B_lineStart_18 : decode b_B_lineStart 18 = .ok (.iload_n 1, 1) := by decide +kernel
theorem d_B_lineStart_19 : decode b_B_lineStart 19 = .ok (.invokevirtual 114, 3) := by decide +kernel
theorem d_B_lineStart_22 : decode b_B_lineStart 22 = .ok (.ireturn, 1) := by decide +kernel
theorem d_B_lineOf_0 : decode b_B_lineOf 0 = .ok (.aload_n 0, 1) := by decide +kernel
theorem d_B_lineOf_1 : decode b_B_lineOf 1 = .ok (.getfield 14, 3) := by decide +kernel
theorem d_B_lineOf_4 : decode b_B_lineOf 4 = .ok (.iload_n 1, 1) := by decide +kernel
theorem d_B_lineOf_5 : decode b_B_lineOf 5 = .ok (.invokevirtual 72, 3) := by decide +kernel
theorem d_B_lineOf_8 : decode b_B_lineOf 8 = .ok (.ifCond .eq 14, 3) := by decide +kernel
theorem d_B_lineOf_11 : decode b_B_lineOf 11 = .ok (.aload_n 0, 1) := by decide +kernel
theorem d_B_lineOf_12 : decode b_B_lineOf 12 = .ok (.getfield 14, 3) := by decide +kernel
theorem d_B_lineOf_15 : decode b_B_lineOf 15 = .ok (.iload_n 1, 1) := by decide +kernel
theorem d_B_lineOf_16 : decode b_B_lineOf 16 = .ok (.invokevirtual 110, 3) := by decide +kernel
theorem d_B_lineOf_19 : decode b_B_lineOf 19 = .ok (.goto 4, 3) := by decide +kernel
theorem d_B_lineOf_22 : decode b_B_lineOf 22 = .ok (.iconst (-1), 1) := by decide +kernel
theorem d_B_lineOf_23 : decode b_B_lineOf 23 = .ok (.ireturn, 1) := by decide +kernel
theorem d_B_find_0 : decode b_B_find 0 = .ok (.aload_n 0, 1) := by decide +kernel
theorem d_B_find_1 : decode b_B_find 1 = .ok (.getfield 14, 3) := by decide +kernel
theorem d_B_find_4 : decode b_B_find 4 = .ok (.iload_n 1, 1) := by decide +kernel
theorem d_B_find_5 : decode b_B_find 5 = .ok (.invokevirtual 72, 3) := by decide +kernel
theorem d_B_find_8 : decode b_B_find 8 = .ok (.ifCond .ne 5, 3) := by decide +kernel
theorem d_B_find_11 : decode b_B_find 11 = .ok (.iconst (-1), 1) := by decide +kernel
theorem d_B_find_12 : decode b_B_find 12 = .ok (.ireturn, 1) := by decide +kernel
theorem d_B_find_13 : decode b_B_find 13 = .ok (.aload_n 0, 1) := by decide +kernel
theorem d_B_find_14 : decode b_B_find 14 = .ok (.getfield 18, 3) := by decide +kernel
theorem d_B_find_17 : decode b_B_find 17 = .ok (.getfield 55, 3) := by decide +kernel
theorem d_B_find_20 : decode b_B_find 20 = .ok (.ifCond .ne 6, 3) := by decide +kernel
theorem d_B_find_23 : decode b_B_find 23 = .ok (.bipush (-2), 2) := by decide +kernel
theorem d_B_find_25 : decode b_B_find 25 = .ok (.ireturn, 1) := by decide +kernel
theorem d_B_find_26 : decode b_B_find 26 = .ok (.iload_n 1, 1) := by decide +kernel
theorem d_B_find_27 : decode b_B_find 27 = .ok (.istore_n 2, 1) := by decide +kernel
theorem d_B_find_28 : decode b_B_find 28 = .ok (.iload_n 2, 1) := by decide +kernel
theorem d_B_find_29 : decode b_B_find 29 = .ok (.aload_n 0, 1) := by decide +kernel
theorem d_B_find_30 : decode b_B_find 30 = .ok (.getfield 14, 3) := by decide +kernel
theorem d_B_find_33 : decode b_B_find 33 = .ok (.getfield 55, 3) := by decide +kernel
theorem d_B_find_36 : decode b_B_find 36 = .ok (.aload_n 0, 1) := by decide +kernel
theorem d_B_find_37 : decode b_B_find 37 = .ok (.getfield 18, 3) := by decide +kernel
theorem d_B_find_40 : decode b_B_find 40 = .ok (.getfield 55, 3) := by decide +kernel
theorem d_B_find_43 : decode b_B_find 43 = .ok (.isub, 1) := by decide +kernel
theorem d_B_find_44 : decode b_B_find 44 = .ok (.if_icmp .gt 26, 3) := by decide +kernel
theorem d_B_find_47 : decode b_B_find 47 = .ok (.aload_n 0, 1) := by decide +kernel
theorem d_B_find_48 : decode b_B_find 48 = .ok (.getfield 14, 3) := by decide +kernel
theorem d_B_find_51 : decode b_B_find 51 = .ok (.iload_n 2, 1) := by decide +kernel
theorem d_B_find_52 : decode b_B_find 52 = .ok (.aload_n 0, 1) := by decide +kernel
theorem d_B_find_53 : decode b_B_find 53 = .ok (.getfield 18, 3) := by decide +kernel
theorem d_B_find_56 : decode b_B_find 56 = .ok (.invokevirtual 117, 3) := by decide +kernel
theorem d_B_find_59 : decode b_B_find 59 = .ok (.ifCond .eq 5, 3) := by decide +kernel
theorem d_B_find_62 : decode b_B_find 62 = .ok (.iload_n 2, 1) := by decide +kernel
theorem d_B_find_63 : decode b_B_find 63 = .ok (.ireturn, 1) := by decide +kernel
theorem d_B_find_64 : decode b_B_find 64 = .ok (.iinc 2 1, 3) := by decide +kernel
theorem d_B_find_67 : decode b_B_find 67 = .ok (.goto (-39), 3) := by decide +kernel
theorem d_B_find_70 : decode b_B_find 70 = .ok (.bipush (-4), 2) := by decide +kernel
theorem d_B_find_72 : decode b_B_find 72 = .ok (.ireturn, 1) := by decide +kernel
theorem d_B_mark_0 : decode b_B_mark 0 = .ok (.iload_n 1, 1) := by decide +kernel
theorem d_B_mark_1 : decode b_B_mark 1 = .ok (.invokestatic 121, 3) := by decide +kernel
theorem d_B_mark_4 : decode b_B_mark 4 = .ok (.ifCond .eq 14, 3) := by decide +kernel
theorem d_B_mark_7 : decode b_B_mark 7 = .ok (.aload_n 0, 1) := by decide +kernel
theorem d_B_mark_8 : decode b_B_mark 8 = .ok (.getfield 14, 3) := by decide +kernel
theorem d_B_mark_11 : decode b_B_mark 11 = .ok (.iload_n 2, 1) := by decide +kernel
theorem d_B_mark_12 : decode b_B_mark 12 = .ok (.invokevirtual 72, 3) := by decide +kernel
theorem d_B_mark_15 : decode b_B_mark 15 = .ok (.ifCond .ne 5, 3) := by decide +kernel
theorem d_B_mark_18 : decode b_B_mark 18 = .ok (.iconst 0, 1) := by decide +kernel
theorem d_B_mark_19 : decode b_B_mark 19 = .ok (.ireturn, 1) := by decide +kernel
theorem d_B_mark_20 : decode b_B_mark 20 = .ok (.aload_n 0, 1) := by decide +kernel
theorem d_B_mark_21 : decode b_B_mark 21 = .ok (.getfield 24, 3) := by decide +kernel
theorem d_B_mark_24 : decode b_B_mark 24 = .ok (.getfield 124, 3) := by decide +kernel
theorem d_B_mark_27 : decode b_B_mark 27 = .ok (.iload_n 1, 1) := by decide +kernel
theorem d_B_mark_28 : decode b_B_mark 28 = .ok (.iload_n 2, 1) := by decide +kernel
theorem d_B_mark_29 : decode b_B_mark 29 = .ok (.iastore, 1) := by decide +kernel
theorem d_B_mark_30 : decode b_B_mark 30 = .ok (.aload_n 0, 1) := by decide +kernel
theorem d_B_mark_31 : decode b_B_mark 31 = .ok (.getfield 24, 3) := by decide +kernel
theorem d_B_mark_34 : decode b_B_mark 34 = .ok (.getfield 128, 3) := by decide +kernel
theorem d_B_mark_37 : decode b_B_mark 37 = .ok (.iload_n 1, 1) := by decide +kernel
theorem d_B_mark_38 : decode b_B_mark 38 = .ok (.iload_n 3, 1) := by decide +kernel
theorem d_B_mark_39 : decode b_B_mark 39 = .ok (.bastore, 1) := by decide +kernel
theorem d_B_mark_40 : decode b_B_mark 40 = .ok (.iconst 1, 1) := by decide +kernel
theorem d_B_mark_41 : decode b_B_mark 41 = .ok (.ireturn, 1) := by decide +kernel
theorem d_B_unmark_0 : decode b_B_unmark 0 = .ok (.iload_n 1, 1) := by decide +kernel
theorem d_B_unmark_1 : decode b_B_unmark 1 = .ok (.invokestatic 121, 3) := by decide +kernel
theorem d_B_unmark_4 : decode b_B_unmark 4 = .ok (.ifCond .eq 16, 3) := by decide +kernel
theorem d_B_unmark_7 : decode b_B_unmark 7 = .ok (.aload_n 0, 1) := by decide +kernel
theorem d_B_unmark_8 : decode b_B_unmark 8 = .ok (.getfield 24, 3) := by decide +kernel
theorem d_B_unmark_11 : decode b_B_unmark 11 = .ok (.getfield 124, 3) := by decide +kernel
theorem d_B_unmark_14 : decode b_B_unmark 14 = .ok (.iload_n 1, 1) := by decide +kernel
theorem d_B_unmark_15 : decode b_B_unmark 15 = .ok (.iaload, 1) := by decide +kernel
theorem d_B_unmark_16 : decode b_B_unmark 16 = .ok (.iconst (-1), 1) := by decide +kernel
theorem d_B_unmark_17 : decode b_B_unmark 17 = .ok (.if_icmp .ne 5, 3) := by decide +kernel
theorem d_B_unmark_20 : decode b_B_unmark 20 = .ok (.iconst 0, 1) := by decide +kernel
theorem d_B_unmark_21 : decode b_B_unmark 21 = .ok (.ireturn, 1) := by decide +kernel
theorem d_B_unmark_22 : decode b_B_unmark 22 = .ok (.aload_n 0, 1) := by decide +kernel
theorem d_B_unmark_23 : decode b_B_unmark 23 = .ok (.getfield 24, 3) := by decide +kernel
theorem d_B_unmark_26 : decode b_B_unmark 26 = .ok (.getfield 124, 3) := by decide +kernel
theorem d_B_unmark_29 : decode b_B_unmark 29 = .ok (.iload_n 1, 1) := by decide +kernel
theorem d_B_unmark_30 : decode b_B_unmark 30 = .ok (.iconst (-1), 1) := by decide +kernel
theorem d_B_unmark_31 : decode b_B_unmark 31 = .ok (.iastore, 1) := by decide +kernel
theorem d_B_unmark_32 : decode b_B_unmark 32 = .ok (.iconst 1, 1) := by decide +kernel
theorem d_B_unmark_33 : decode b_B_unmark 33 = .ok (.ireturn, 1) := by decide +kernel
theorem d_B_where_0 : decode b_B_where 0 = .ok (.iload_n 1, 1) := by decide +kernel
theorem d_B_where_1 : decode b_B_where 1 = .ok (.invokestatic 121, 3) := by decide +kernel
theorem d_B_where_4 : decode b_B_where 4 = .ok (.ifCond .eq 16, 3) := by decide +kernel
theorem d_B_where_7 : decode b_B_where 7 = .ok (.aload_n 0, 1) := by decide +kernel
theorem d_B_where_8 : decode b_B_where 8 = .ok (.getfield 24, 3) := by decide +kernel
theorem d_B_where_11 : decode b_B_where 11 = .ok (.getfield 124, 3) := by decide +kernel
theorem d_B_where_14 : decode b_B_where 14 = .ok (.iload_n 1, 1) := by decide +kernel
theorem d_B_where_15 : decode b_B_where 15 = .ok (.iaload, 1) := by decide +kernel
theorem d_B_where_16 : decode b_B_where 16 = .ok (.iconst (-1), 1) := by decide +kernel
theorem d_B_where_17 : decode b_B_where 17 = .ok (.if_icmp .ne 5, 3) := by decide +kernel
theorem d_B_where_20 : decode b_B_where 20 = .ok (.iconst (-1), 1) := by decide +kernel
theorem d_B_where_21 : decode b_B_where 21 = .ok (.ireturn, 1) := by decide +kernel
theorem d_B_where_22 : decode b_B_where 22 = .ok (.aload_n 0, 1) := by decide +kernel
theorem d_B_where_23 : decode b_B_where 23 = .ok (.getfield 24, 3) := by decide +kernel
theorem d_B_where_26 : decode b_B_where 26 = .ok (.getfield 124, 3) := by decide +kernel
theorem d_B_where_29 : decode b_B_where 29 = .ok (.iload_n 1, 1) := by decide +kernel
theorem d_B_where_30 : decode b_B_where 30 = .ok (.iaload, 1) := by decide +kernel
theorem d_B_where_31 : decode b_B_where 31 = .ok (.ireturn, 1) := by decide +kernel
theorem d_B_nextMark_0 : decode b_B_nextMark 0 = .ok (.aload_n 0, 1) := by decide +kernel
theorem d_B_nextMark_1 : decode b_B_nextMark 1 = .ok (.getfield 14, 3) := by decide +kernel
theorem d_B_nextMark_4 : decode b_B_nextMark 4 = .ok (.iload_n 1, 1) := by decide +kernel
theorem d_B_nextMark_5 : decode b_B_nextMark 5 = .ok (.invokevirtual 72, 3) := by decide +kernel
theorem d_B_nextMark_8 : decode b_B_nextMark 8 = .ok (.ifCond .eq 14, 3) := by decide +kernel
theorem d_B_nextMark_11 : decode b_B_nextMark 11 = .ok (.aload_n 0, 1) := by decide +kernel
theorem d_B_nextMark_12 : decode b_B_nextMark 12 = .ok (.getfield 24, 3) := by decide +kernel
theorem d_B_nextMark_15 : decode b_B_nextMark 15 = .ok (.iload_n 1, 1) := by decide +kernel
theorem d_B_nextMark_16 : decode b_B_nextMark 16 = .ok (.invokevirtual 132, 3) := by decide +kernel
theorem d_B_nextMark_19 : decode b_B_nextMark 19 = .ok (.goto 4, 3) := by decide +kernel
theorem d_B_nextMark_22 : decode b_B_nextMark 22 = .ok (.iconst (-1), 1) := by decide +kernel
theorem d_B_nextMark_23 : decode b_B_nextMark 23 = .ok (.ireturn, 1) := by decide +kernel
theorem d_B_isCharacter_0 : decode b_B_isCharacter 0 = .ok (.iload_n 0, 1) := by decide +kernel
theorem d_B_isCharacter_1 : decode b_B_isCharacter 1 = .ok (.bipush 10, 2) := by decide +kernel
theorem d_B_isCharacter_3 : decode b_B_isCharacter 3 = .ok (.if_icmp .eq 15, 3) := by decide +kernel
theorem d_B_isCharacter_6 : decode b_B_isCharacter 6 = .ok (.iload_n 0, 1) := by decide +kernel
theorem d_B_isCharacter_7 : decode b_B_isCharacter 7 = .ok (.bipush 32, 2) := by decide +kernel
theorem d_B_isCharacter_9 : decode b_B_isCharacter 9 = .ok (.if_icmp .lt 13, 3) := by decide +kernel
theorem d_B_isCharacter_12 : decode b_B_isCharacter 12 = .ok (.iload_n 0, 1) := by decide +kernel
theorem d_B_isCharacter_13 : decode b_B_isCharacter 13 = .ok (.bipush 126, 2) := by decide +kernel
theorem d_B_isCharacter_15 : decode b_B_isCharacter 15 = .ok (.if_icmp .gt 7, 3) := by decide +kernel
theorem d_B_isCharacter_18 : decode b_B_isCharacter 18 = .ok (.iconst 1, 1) := by decide +kernel
theorem d_B_isCharacter_19 : decode b_B_isCharacter 19 = .ok (.goto 4, 3) := by decide +kernel
theorem d_B_isCharacter_22 : decode b_B_isCharacter 22 = .ok (.iconst 0, 1) := by decide +kernel
theorem d_B_isCharacter_23 : decode b_B_isCharacter 23 = .ok (.ireturn, 1) := by decide +kernel
theorem d_B_isMark_0 : decode b_B_isMark 0 = .ok (.iload_n 0, 1) := by decide +kernel
theorem d_B_isMark_1 : decode b_B_isMark 1 = .ok (.ifCond .lt 13, 3) := by decide +kernel
theorem d_B_isMark_4 : decode b_B_isMark 4 = .ok (.iload_n 0, 1) := by decide +kernel
theorem d_B_isMark_5 : decode b_B_isMark 5 = .ok (.bipush 6, 2) := by decide +kernel
theorem d_B_isMark_7 : decode b_B_isMark 7 = .ok (.if_icmp .ge 7, 3) := by decide +kernel
theorem d_B_isMark_10 : decode b_B_isMark 10 = .ok (.iconst 1, 1) := by decide +kernel
theorem d_B_isMark_11 : decode b_B_isMark 11 = .ok (.goto 4, 3) := by decide +kernel
theorem d_B_isMark_14 : decode b_B_isMark 14 = .ok (.iconst 0, 1) := by decide +kernel
theorem d_B_isMark_15 : decode b_B_isMark 15 = .ok (.ireturn, 1) := by decide +kernel
theorem d_B_numbered_0 : decode b_B_numbered 0 = .ok (.iload_n 1, 1) := by decide +kernel
theorem d_B_numbered_1 : decode b_B_numbered 1 = .ok (.ifCond .lt 20, 3) := by decide +kernel
theorem d_B_numbered_4 : decode b_B_numbered 4 = .ok (.iload_n 1, 1) := by decide +kernel
theorem d_B_numbered_5 : decode b_B_numbered 5 = .ok (.aload_n 0, 1) := by decide +kernel
theorem d_B_numbered_6 : decode b_B_numbered 6 = .ok (.getfield 44, 3) := by decide +kernel
theorem d_B_numbered_9 : decode b_B_numbered 9 = .ok (.if_icmp .ge 12, 3) := by decide +kernel
theorem d_B_numbered_12 : decode b_B_numbered 12 = .ok (.aload_n 0, 1) := by decide +kernel
theorem d_B_numbered_13 : decode b_B_numbered 13 = .ok (.getfield 30, 3) := by decide +kernel
theorem d_B_numbered_16 : decode b_B_numbered 16 = .ok (.iload_n 1, 1) := by decide +kernel
theorem d_B_numbered_17 : decode b_B_numbered 17 = .ok (.aaload, 1) := by decide +kernel
theorem d_B_numbered_18 : decode b_B_numbered 18 = .ok (.goto 4, 3) := by decide +kernel
theorem d_B_numbered_21 : decode b_B_numbered 21 = .ok (.aconst_null, 1) := by decide +kernel
theorem d_B_numbered_22 : decode b_B_numbered 22 = .ok (.areturn, 1) := by decide +kernel
theorem d_B_makeChild_0 : decode b_B_makeChild 0 = .ok (.new 28, 3) := by decide +kernel
theorem d_B_makeChild_3 : decode b_B_makeChild 3 = .ok (.dup, 1) := by decide +kernel
theorem d_B_makeChild_4 : decode b_B_makeChild 4 = .ok (.aload_n 0, 1) := by decide +kernel
theorem d_B_makeChild_5 : decode b_B_makeChild 5 = .ok (.getfield 44, 3) := by decide +kernel
theorem d_B_makeChild_8 : decode b_B_makeChild 8 = .ok (.aload_n 0, 1) := by decide +kernel
theorem d_B_makeChild_9 : decode b_B_makeChild 9 = .ok (.getfield 40, 3) := by decide +kernel
theorem d_B_makeChild_12 : decode b_B_makeChild 12 = .ok (.iload_n 1, 1) := by decide +kernel
theorem d_B_makeChild_13 : decode b_B_makeChild 13 = .ok (.iload_n 2, 1) := by decide +kernel
theorem d_B_makeChild_14 : decode b_B_makeChild 14 = .ok (.aload_n 3, 1) := by decide +kernel
theorem d_B_makeChild_15 : decode b_B_makeChild 15 = .ok (.invokespecial 37, 3) := by decide +kernel
theorem d_B_makeChild_18 : decode b_B_makeChild 18 = .ok (.astore 4, 2) := by decide +kernel
theorem d_B_makeChild_20 : decode b_B_makeChild 20 = .ok (.aload_n 0, 1) := by decide +kernel
theorem d_B_makeChild_21 : decode b_B_makeChild 21 = .ok (.getfield 30, 3) := by decide +kernel
theorem d_B_makeChild_24 : decode b_B_makeChild 24 = .ok (.aload_n 0, 1) := by decide +kernel
theorem d_B_makeChild_25 : decode b_B_makeChild 25 = .ok (.getfield 44, 3) := by decide +kernel
theorem d_B_makeChild_28 : decode b_B_makeChild 28 = .ok (.aload 4, 2) := by decide +kernel
theorem d_B_makeChild_30 : decode b_B_makeChild 30 = .ok (.aastore, 1) := by decide +kernel
theorem d_B_makeChild_31 : decode b_B_makeChild 31 = .ok (.aload_n 0, 1) := by decide +kernel
theorem d_B_makeChild_32 : decode b_B_makeChild 32 = .ok (.dup, 1) := by decide +kernel
theorem d_B_makeChild_33 : decode b_B_makeChild 33 = .ok (.getfield 44, 3) := by decide +kernel
theorem d_B_makeChild_36 : decode b_B_makeChild 36 = .ok (.iconst 1, 1) := by decide +kernel
theorem d_B_makeChild_37 : decode b_B_makeChild 37 = .ok (.iadd, 1) := by decide +kernel
theorem d_B_makeChild_38 : decode b_B_makeChild 38 = .ok (.putfield 44, 3) := by decide +kernel
theorem d_B_makeChild_41 : decode b_B_makeChild 41 = .ok (.aload_n 0, 1) := by decide +kernel
theorem d_B_makeChild_42 : decode b_B_makeChild 42 = .ok (.getfield 40, 3) := by decide +kernel
theorem d_B_makeChild_45 : decode b_B_makeChild 45 = .ok (.dup, 1) := by decide +kernel
theorem d_B_makeChild_46 : decode b_B_makeChild 46 = .ok (.getfield 107, 3) := by decide +kernel
theorem d_B_makeChild_49 : decode b_B_makeChild 49 = .ok (.iconst 1, 1) := by decide +kernel
theorem d_B_makeChild_50 : decode b_B_makeChild 50 = .ok (.iadd, 1) := by decide +kernel
theorem d_B_makeChild_51 : decode b_B_makeChild 51 = .ok (.putfield 107, 3) := by decide +kernel
theorem d_B_makeChild_54 : decode b_B_makeChild 54 = .ok (.aload_n 0, 1) := by decide +kernel
theorem d_B_makeChild_55 : decode b_B_makeChild 55 = .ok (.getfield 40, 3) := by decide +kernel
theorem d_B_makeChild_58 : decode b_B_makeChild 58 = .ok (.aload 4, 2) := by decide +kernel
theorem d_B_makeChild_60 : decode b_B_makeChild 60 = .ok (.putfield 94, 3) := by decide +kernel
theorem d_B_makeChild_63 : decode b_B_makeChild 63 = .ok (.aload_n 0, 1) := by decide +kernel
theorem d_B_makeChild_64 : decode b_B_makeChild 64 = .ok (.aload 4, 2) := by decide +kernel
theorem d_B_makeChild_66 : decode b_B_makeChild 66 = .ok (.invokevirtual 97, 3) := by decide +kernel
theorem d_B_makeChild_69 : decode b_B_makeChild 69 = .ok (.aload 4, 2) := by decide +kernel
theorem d_B_makeChild_71 : decode b_B_makeChild 71 = .ok (.getfield 91, 3) := by decide +kernel
theorem d_B_makeChild_74 : decode b_B_makeChild 74 = .ok (.ireturn, 1) := by decide +kernel
theorem d_B_stepBackTo_0 : decode b_B_stepBackTo 0 = .ok (.aload_n 0, 1) := by decide +kernel
theorem d_B_stepBackTo_1 : decode b_B_stepBackTo 1 = .ok (.getfield 40, 3) := by decide +kernel
theorem d_B_stepBackTo_4 : decode b_B_stepBackTo 4 = .ok (.getfield 135, 3) := by decide +kernel
theorem d_B_stepBackTo_7 : decode b_B_stepBackTo 7 = .ok (.ifCond .eq 25, 3) := by decide +kernel
theorem d_B_stepBackTo_10 : decode b_B_stepBackTo 10 = .ok (.aload_n 0, 1) := by decide +kernel
theorem d_B_stepBackTo_11 : decode b_B_stepBackTo 11 = .ok (.aload_n 0, 1) := by decide +kernel
theorem d_B_stepBackTo_12 : decode b_B_stepBackTo 12 = .ok (.getfield 40, 3) := by decide +kernel
theorem d_B_stepBackTo_15 : decode b_B_stepBackTo 15 = .ok (.getfield 139, 3) := by decide +kernel
theorem d_B_stepBackTo_18 : decode b_B_stepBackTo 18 = .ok (.aload_n 0, 1) := by decide +kernel
theorem d_B_stepBackTo_19 : decode b_B_stepBackTo 19 = .ok (.getfield 40, 3) := by decide +kernel
theorem d_B_stepBackTo_22 : decode b_B_stepBackTo 22 = .ok (.getfield 142, 3) := by decide +kernel
theorem d_B_stepBackTo_25 : decode b_B_stepBackTo 25 = .ok (.arraylength, 1) := by decide +kernel
theorem d_B_stepBackTo_26 : decode b_B_stepBackTo 26 = .ok (.invokevirtual 145, 3) := by decide +kernel
theorem d_B_stepBackTo_29 : decode b_B_stepBackTo 29 = .ok (.goto 21, 3) := by decide +kernel
theorem d_B_stepBackTo_32 : decode b_B_stepBackTo 32 = .ok (.aload_n 0, 1) := by decide +kernel
theorem d_B_stepBackTo_33 : decode b_B_stepBackTo 33 = .ok (.aload_n 0, 1) := by decide +kernel
theorem d_B_stepBackTo_34 : decode b_B_stepBackTo 34 = .ok (.getfield 40, 3) := by decide +kernel
theorem d_B_stepBackTo_37 : decode b_B_stepBackTo 37 = .ok (.getfield 139, 3) := by decide +kernel
theorem d_B_stepBackTo_40 : decode b_B_stepBackTo 40 = .ok (.aload_n 0, 1) := by decide +kernel
theorem d_B_stepBackTo_41 : decode b_B_stepBackTo 41 = .ok (.getfield 40, 3) := by decide +kernel
theorem d_B_stepBackTo_44 : decode b_B_stepBackTo 44 = .ok (.getfield 142, 3) := by decide +kernel
theorem d_B_stepBackTo_47 : decode b_B_stepBackTo 47 = .ok (.invokevirtual 149, 3) := by decide +kernel
theorem d_B_stepBackTo_50 : decode b_B_stepBackTo 50 = .ok (.aload_n 0, 1) := by decide +kernel
theorem d_B_stepBackTo_51 : decode b_B_stepBackTo 51 = .ok (.aload_n 1, 1) := by decide +kernel
theorem d_B_stepBackTo_52 : decode b_B_stepBackTo 52 = .ok (.putfield 40, 3) := by decide +kernel
theorem d_B_stepBackTo_55 : decode b_B_stepBackTo 55 = .ok (.return_, 1) := by decide +kernel
theorem d_B_stepOnTo_0 : decode b_B_stepOnTo 0 = .ok (.aload_n 1, 1) := by decide +kernel
theorem d_B_stepOnTo_1 : decode b_B_stepOnTo 1 = .ok (.getfield 135, 3) := by decide +kernel
theorem d_B_stepOnTo_4 : decode b_B_stepOnTo 4 = .ok (.ifCond .eq 18, 3) := by decide +kernel
theorem d_B_stepOnTo_7 : decode b_B_stepOnTo 7 = .ok (.aload_n 0, 1) := by decide +kernel
theorem d_B_stepOnTo_8 : decode b_B_stepOnTo 8 = .ok (.aload_n 1, 1) := by decide +kernel
theorem d_B_stepOnTo_9 : decode b_B_stepOnTo 9 = .ok (.getfield 139, 3) := by decide +kernel
theorem d_B_stepOnTo_12 : decode b_B_stepOnTo 12 = .ok (.aload_n 1, 1) := by decide +kernel
theorem d_B_stepOnTo_13 : decode b_B_stepOnTo 13 = .ok (.getfield 142, 3) := by decide +kernel
theorem d_B_stepOnTo_16 : decode b_B_stepOnTo 16 = .ok (.invokevirtual 149, 3) := by decide +kernel
theorem d_B_stepOnTo_19 : decode b_B_stepOnTo 19 = .ok (.goto 16, 3) := by decide +kernel
theorem d_B_stepOnTo_22 : decode b_B_stepOnTo 22 = .ok (.aload_n 0, 1) := by decide +kernel
theorem d_B_stepOnTo_23 : decode b_B_stepOnTo 23 = .ok (.aload_n 1, 1) := by decide +kernel
theorem d_B_stepOnTo_24 : decode b_B_stepOnTo 24 = .ok (.getfield 139, 3) := by decide +kernel
theorem d_B_stepOnTo_27 : decode b_B_stepOnTo 27 = .ok (.aload_n 1, 1) := by decide +kernel
theorem d_B_stepOnTo_28 : decode b_B_stepOnTo 28 = .ok (.getfield 142, 3) := by decide +kernel
theorem d_B_stepOnTo_31 : decode b_B_stepOnTo 31 = .ok (.arraylength, 1) := by decide +kernel
theorem d_B_stepOnTo_32 : decode b_B_stepOnTo 32 = .ok (.invokevirtual 145, 3) := by decide +kernel
theorem d_B_stepOnTo_35 : decode b_B_stepOnTo 35 = .ok (.aload_n 0, 1) := by decide +kernel
theorem d_B_stepOnTo_36 : decode b_B_stepOnTo 36 = .ok (.aload_n 1, 1) := by decide +kernel
theorem d_B_stepOnTo_37 : decode b_B_stepOnTo 37 = .ok (.putfield 40, 3) := by decide +kernel
theorem d_B_stepOnTo_40 : decode b_B_stepOnTo 40 = .ok (.return_, 1) := by decide +kernel
theorem d_B_stepAlongWay_0 : decode b_B_stepAlongWay 0 = .ok (.iload_n 1, 1) := by decide +kernel
theorem d_B_stepAlongWay_1 : decode b_B_stepAlongWay 1 = .ok (.iconst 1, 1) := by decide +kernel
theorem d_B_stepAlongWay_2 : decode b_B_stepAlongWay 2 = .ok (.isub, 1) := by decide +kernel
theorem d_B_stepAlongWay_3 : decode b_B_stepAlongWay 3 = .ok (.istore_n 2, 1) := by decide +kernel
theorem d_B_stepAlongWay_4 : decode b_B_stepAlongWay 4 = .ok (.iload_n 2, 1) := by decide +kernel
theorem d_B_stepAlongWay_5 : decode b_B_stepAlongWay 5 = .ok (.ifCond .lt 25, 3) := by decide +kernel
theorem d_B_stepAlongWay_8 : decode b_B_stepAlongWay 8 = .ok (.aload_n 0, 1) := by decide +kernel
theorem d_B_stepAlongWay_9 : decode b_B_stepAlongWay 9 = .ok (.getfield 34, 3) := by decide +kernel
theorem d_B_stepAlongWay_12 : decode b_B_stepAlongWay 12 = .ok (.iload_n 2, 1) := by decide +kernel
theorem d_B_stepAlongWay_13 : decode b_B_stepAlongWay 13 = .ok (.aaload, 1) := by decide +kernel
theorem d_B_stepAlongWay_14 : decode b_B_stepAlongWay 14 = .ok (.astore_n 3, 1) := by decide +kernel
theorem d_B_stepAlongWay_15 : decode b_B_stepAlongWay 15 = .ok (.aload_n 3, 1) := by decide +kernel
theorem d_B_stepAlongWay_16 : decode b_B_stepAlongWay 16 = .ok (.ifnull 8, 3) := by decide +kernel
theorem d_B_stepAlongWay_19 : decode b_B_stepAlongWay 19 = .ok (.aload_n 0, 1) := by decide +kernel
theorem d_B_stepAlongWay_20 : decode b_B_stepAlongWay 20 = .ok (.aload_n 3, 1) := by decide +kernel
theorem d_B_stepAlongWay_21 : decode b_B_stepAlongWay 21 = .ok (.invokevirtual 97, 3) := by decide +kernel
theorem d_B_stepAlongWay_24 : decode b_B_stepAlongWay 24 = .ok (.iinc 2 (-1), 3) := by decide +kernel
theorem d_B_stepAlongWay_27 : decode b_B_stepAlongWay 27 = .ok (.goto (-23), 3) := by decide +kernel
theorem d_B_stepAlongWay_30 : decode b_B_stepAlongWay 30 = .ok (.return_, 1) := by decide +kernel
theorem d_B_putIn_0 : decode b_B_putIn 0 = .ok (.aload_n 0, 1) := by decide +kernel
theorem d_B_putIn_1 : decode b_B_putIn 1 = .ok (.getfield 14, 3) := by decide +kernel
theorem d_B_putIn_4 : decode b_B_putIn 4 = .ok (.iload_n 1, 1) := by decide +kernel
theorem d_B_putIn_5 : decode b_B_putIn 5 = .ok (.aload_n 2, 1) := by decide +kernel
theorem d_B_putIn_6 : decode b_B_putIn 6 = .ok (.invokevirtual 153, 3) := by decide +kernel
theorem d_B_putIn_9 : decode b_B_putIn 9 = .ok (.aload_n 0, 1) := by decide +kernel
theorem d_B_putIn_10 : decode b_B_putIn 10 = .ok (.getfield 24, 3) := by decide +kernel
theorem d_B_putIn_13 : decode b_B_putIn 13 = .ok (.iload_n 1, 1) := by decide +kernel
theorem d_B_putIn_14 : decode b_B_putIn 14 = .ok (.aload_n 2, 1) := by decide +kernel
theorem d_B_putIn_15 : decode b_B_putIn 15 = .ok (.arraylength, 1) := by decide +kernel
theorem d_B_putIn_16 : decode b_B_putIn 16 = .ok (.invokevirtual 156, 3) := by decide +kernel
theorem d_B_putIn_19 : decode b_B_putIn 19 = .ok (.return_, 1) := by decide +kernel
theorem d_B_takeOut_0 : decode b_B_takeOut 0 = .ok (.aload_n 0, 1) := by decide +kernel
theorem d_B_takeOut_1 : decode b_B_takeOut 1 = .ok (.getfield 14, 3) := by decide +kernel
theorem d_B_takeOut_4 : decode b_B_takeOut 4 = .ok (.iload_n 1, 1) := by decide +kernel
theorem d_B_takeOut_5 : decode b_B_takeOut 5 = .ok (.iload_n 2, 1) := by decide +kernel
theorem d_B_takeOut_6 : decode b_B_takeOut 6 = .ok (.invokevirtual 159, 3) := by decide +kernel
theorem d_B_takeOut_9 : decode b_B_takeOut 9 = .ok (.aload_n 0, 1) := by decide +kernel
theorem d_B_takeOut_10 : decode b_B_takeOut 10 = .ok (.getfield 24, 3) := by decide +kernel
theorem d_B_takeOut_13 : decode b_B_takeOut 13 = .ok (.iload_n 1, 1) := by decide +kernel
theorem d_B_takeOut_14 : decode b_B_takeOut 14 = .ok (.iload_n 2, 1) := by decide +kernel
theorem d_B_takeOut_15 : decode b_B_takeOut 15 = .ok (.invokevirtual 162, 3) := by decide +kernel
theorem d_B_takeOut_18 : decode b_B_takeOut 18 = .ok (.return_, 1) := by decide +kernel
