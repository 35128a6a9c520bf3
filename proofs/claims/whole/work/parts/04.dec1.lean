theorem dX3_readCommand_77 : decode cX3_readCommand 77 = .ok (.ireturn, 1) := by decide +kernel
theorem dX3_readCommand_78 : decode cX3_readCommand 78 = .ok (.aload_n 0, 1) := by decide +kernel
theorem dX3_readCommand_79 : decode cX3_readCommand 79 = .ok (.iload_n 1, 1) := by decide +kernel
theorem dX3_readCommand_80 : decode cX3_readCommand 80 = .ok (.iload_n 2, 1) := by decide +kernel
theorem dX3_readCommand_81 : decode cX3_readCommand 81 = .ok (.iload_n 3, 1) := by decide +kernel
theorem dX3_readCommand_82 : decode cX3_readCommand 82 = .ok (.invokevirtual 54, 3) := by decide +kernel
theorem dX3_readCommand_85 : decode cX3_readCommand 85 = .ok (.iconst 1, 1) := by decide +kernel
theorem dX3_readCommand_86 : decode cX3_readCommand 86 = .ok (.ireturn, 1) := by decide +kernel
theorem dX3_parse_0 : decode cX3_parse 0 = .ok (.aload_n 0, 1) := by decide +kernel
theorem dX3_parse_1 : decode cX3_parse 1 = .ok (.iconst 0, 1) := by decide +kernel
theorem dX3_parse_2 : decode cX3_parse 2 = .ok (.putfield 19, 3) := by decide +kernel
theorem dX3_parse_5 : decode cX3_parse 5 = .ok (.aload_n 0, 1) := by decide +kernel
theorem dX3_parse_6 : decode cX3_parse 6 = .ok (.iconst 0, 1) := by decide +kernel
theorem dX3_parse_7 : decode cX3_parse 7 = .ok (.putfield 32, 3) := by decide +kernel
theorem dX3_parse_10 : decode cX3_parse 10 = .ok (.iconst 0, 1) := by decide +kernel
theorem dX3_parse_11 : decode cX3_parse 11 = .ok (.istore_n 1, 1) := by decide +kernel
theorem dX3_parse_12 : decode cX3_parse 12 = .ok (.iload_n 1, 1) := by decide +kernel
theorem dX3_parse_13 : decode cX3_parse 13 = .ok (.bipush 20, 2) := by decide +kernel
theorem dX3_parse_15 : decode cX3_parse 15 = .ok (.if_icmp .ge 34, 3) := by decide +kernel
theorem dX3_parse_18 : decode cX3_parse 18 = .ok (.aload_n 0, 1) := by decide +kernel
theorem dX3_parse_19 : decode cX3_parse 19 = .ok (.invokevirtual 35, 3) := by decide +kernel
theorem dX3_parse_22 : decode cX3_parse 22 = .ok (.ifCond .ne 8, 3) := by decide +kernel
theorem dX3_parse_25 : decode cX3_parse 25 = .ok (.aload_n 0, 1) := by decide +kernel
theorem dX3_parse_26 : decode cX3_parse 26 = .ok (.getfield 19, 3) := by decide +kernel
theorem dX3_parse_29 : decode cX3_parse 29 = .ok (.ireturn, 1) := by decide +kernel
theorem dX3_parse_30 : decode cX3_parse 30 = .ok (.aload_n 0, 1) := by decide +kernel
theorem dX3_parse_31 : decode cX3_parse 31 = .ok (.getfield 19, 3) := by decide +kernel
theorem dX3_parse_34 : decode cX3_parse 34 = .ok (.aload_n 0, 1) := by decide +kernel
theorem dX3_parse_35 : decode cX3_parse 35 = .ok (.getfield 15, 3) := by decide +kernel
theorem dX3_parse_38 : decode cX3_parse 38 = .ok (.if_icmp .lt 5, 3) := by decide +kernel
theorem dX3_parse_41 : decode cX3_parse 41 = .ok (.iconst (-1), 1) := by decide +kernel
theorem dX3_parse_42 : decode cX3_parse 42 = .ok (.ireturn, 1) := by decide +kernel
theorem dX3_parse_43 : decode cX3_parse 43 = .ok (.iinc 1 1, 3) := by decide +kernel
theorem dX3_parse_46 : decode cX3_parse 46 = .ok (.goto (-34), 3) := by decide +kernel
theorem dX3_parse_49 : decode cX3_parse 49 = .ok (.aload_n 0, 1) := by decide +kernel
theorem dX3_parse_50 : decode cX3_parse 50 = .ok (.getfield 19, 3) := by decide +kernel
theorem dX3_parse_53 : decode cX3_parse 53 = .ok (.ireturn, 1) := by decide +kernel
theorem dX4_time_0 : decode cX4_time 0 = .ok (.aload_n 0, 1) := by decide +kernel
theorem dX4_time_1 : decode cX4_time 1 = .ok (.getfield 27, 3) := by decide +kernel
theorem dX4_time_4 : decode cX4_time 4 = .ok (.iconst 0, 1) := by decide +kernel
theorem dX4_time_5 : decode cX4_time 5 = .ok (.iaload, 1) := by decide +kernel
theorem dX4_time_6 : decode cX4_time 6 = .ok (.ireturn, 1) := by decide +kernel
theorem dX4_isPresent_0 : decode cX4_isPresent 0 = .ok (.aload_n 0, 1) := by decide +kernel
theorem dX4_isPresent_1 : decode cX4_isPresent 1 = .ok (.iload_n 1, 1) := by decide +kernel
theorem dX4_isPresent_2 : decode cX4_isPresent 2 = .ok (.invokevirtual 62, 3) := by decide +kernel
theorem dX4_isPresent_5 : decode cX4_isPresent 5 = .ok (.ifCond .eq 7, 3) := by decide +kernel
theorem dX4_isPresent_8 : decode cX4_isPresent 8 = .ok (.iconst 1, 1) := by decide +kernel
theorem dX4_isPresent_9 : decode cX4_isPresent 9 = .ok (.goto 4, 3) := by decide +kernel
theorem dX4_isPresent_12 : decode cX4_isPresent 12 = .ok (.iconst 0, 1) := by decide +kernel
theorem dX4_isPresent_13 : decode cX4_isPresent 13 = .ok (.ireturn, 1) := by decide +kernel
theorem dX4_canDrain_0 : decode cX4_canDrain 0 = .ok (.aload_n 0, 1) := by decide +kernel
theorem dX4_canDrain_1 : decode cX4_canDrain 1 = .ok (.iload_n 1, 1) := by decide +kernel
theorem dX4_canDrain_2 : decode cX4_canDrain 2 = .ok (.invokevirtual 62, 3) := by decide +kernel
theorem dX4_canDrain_5 : decode cX4_canDrain 5 = .ok (.iconst 1, 1) := by decide +kernel
theorem dX4_canDrain_6 : decode cX4_canDrain 6 = .ok (.if_icmp .ne 7, 3) := by decide +kernel
theorem dX4_canDrain_9 : decode cX4_canDrain 9 = .ok (.iconst 1, 1) := by decide +kernel
theorem dX4_canDrain_10 : decode cX4_canDrain 10 = .ok (.goto 4, 3) := by decide +kernel
theorem dX4_canDrain_13 : decode cX4_canDrain 13 = .ok (.iconst 0, 1) := by decide +kernel
theorem dX4_canDrain_14 : decode cX4_canDrain 14 = .ok (.ireturn, 1) := by decide +kernel
theorem dX4_canFail_0 : decode cX4_canFail 0 = .ok (.aload_n 0, 1) := by decide +kernel
theorem dX4_canFail_1 : decode cX4_canFail 1 = .ok (.iload_n 1, 1) := by decide +kernel
theorem dX4_canFail_2 : decode cX4_canFail 2 = .ok (.invokevirtual 62, 3) := by decide +kernel
theorem dX4_canFail_5 : decode cX4_canFail 5 = .ok (.iconst 1, 1) := by decide +kernel
theorem dX4_canFail_6 : decode cX4_canFail 6 = .ok (.if_icmp .eq 12, 3) := by decide +kernel
theorem dX4_canFail_9 : decode cX4_canFail 9 = .ok (.aload_n 0, 1) := by decide +kernel
theorem dX4_canFail_10 : decode cX4_canFail 10 = .ok (.iload_n 1, 1) := by decide +kernel
theorem dX4_canFail_11 : decode cX4_canFail 11 = .ok (.invokevirtual 62, 3) := by decide +kernel
theorem dX4_canFail_14 : decode cX4_canFail 14 = .ok (.iconst 2, 1) := by decide +kernel
theorem dX4_canFail_15 : decode cX4_canFail 15 = .ok (.if_icmp .ne 7, 3) := by decide +kernel
theorem dX4_canFail_18 : decode cX4_canFail 18 = .ok (.iconst 1, 1) := by decide +kernel
theorem dX4_canFail_19 : decode cX4_canFail 19 = .ok (.goto 4, 3) := by decide +kernel
theorem dX4_canFail_22 : decode cX4_canFail 22 = .ok (.iconst 0, 1) := by decide +kernel
theorem dX4_canFail_23 : decode cX4_canFail 23 = .ok (.ireturn, 1) := by decide +kernel
theorem dX4_canRecover_0 : decode cX4_canRecover 0 = .ok (.aload_n 0, 1) := by decide +kernel
theorem dX4_canRecover_1 : decode cX4_canRecover 1 = .ok (.iload_n 1, 1) := by decide +kernel
theorem dX4_canRecover_2 : decode cX4_canRecover 2 = .ok (.invokevirtual 62, 3) := by decide +kernel
theorem dX4_canRecover_5 : decode cX4_canRecover 5 = .ok (.iconst 2, 1) := by decide +kernel
theorem dX4_canRecover_6 : decode cX4_canRecover 6 = .ok (.if_icmp .eq 12, 3) := by decide +kernel
theorem dX4_canRecover_9 : decode cX4_canRecover 9 = .ok (.aload_n 0, 1) := by decide +kernel
theorem dX4_canRecover_10 : decode cX4_canRecover 10 = .ok (.iload_n 1, 1) := by decide +kernel
theorem dX4_canRecover_11 : decode cX4_canRecover 11 = .ok (.invokevirtual 62, 3) := by decide +kernel
theorem dX4_canRecover_14 : decode cX4_canRecover 14 = .ok (.iconst 3, 1) := by decide +kernel
theorem dX4_canRecover_15 : decode cX4_canRecover 15 = .ok (.if_icmp .ne 7, 3) := by decide +kernel
theorem dX4_canRecover_18 : decode cX4_canRecover 18 = .ok (.iconst 1, 1) := by decide +kernel
theorem dX4_canRecover_19 : decode cX4_canRecover 19 = .ok (.goto 4, 3) := by decide +kernel
theorem dX4_canRecover_22 : decode cX4_canRecover 22 = .ok (.iconst 0, 1) := by decide +kernel
theorem dX4_canRecover_23 : decode cX4_canRecover 23 = .ok (.ireturn, 1) := by decide +kernel
theorem dX4_lowestAbsent_0 : decode cX4_lowestAbsent 0 = .ok (.iconst 0, 1) := by decide +kernel
theorem dX4_lowestAbsent_1 : decode cX4_lowestAbsent 1 = .ok (.istore_n 1, 1) := by decide +kernel
theorem dX4_lowestAbsent_2 : decode cX4_lowestAbsent 2 = .ok (.iload_n 1, 1) := by decide +kernel
theorem dX4_lowestAbsent_3 : decode cX4_lowestAbsent 3 = .ok (.bipush 8, 2) := by decide +kernel
theorem dX4_lowestAbsent_5 : decode cX4_lowestAbsent 5 = .ok (.if_icmp .ge 20, 3) := by decide +kernel
theorem dX4_lowestAbsent_8 : decode cX4_lowestAbsent 8 = .ok (.aload_n 0, 1) := by decide +kernel
theorem dX4_lowestAbsent_9 : decode cX4_lowestAbsent 9 = .ok (.getfield 9, 3) := by decide +kernel
theorem dX4_lowestAbsent_12 : decode cX4_lowestAbsent 12 = .ok (.iload_n 1, 1) := by decide +kernel
theorem dX4_lowestAbsent_13 : decode cX4_lowestAbsent 13 = .ok (.iaload, 1) := by decide +kernel
theorem dX4_lowestAbsent_14 : decode cX4_lowestAbsent 14 = .ok (.ifCond .ne 5, 3) := by decide +kernel
theorem dX4_lowestAbsent_17 : decode cX4_lowestAbsent 17 = .ok (.iload_n 1, 1) := by decide +kernel
theorem dX4_lowestAbsent_18 : decode cX4_lowestAbsent 18 = .ok (.ireturn, 1) := by decide +kernel
theorem dX4_lowestAbsent_19 : decode cX4_lowestAbsent 19 = .ok (.iinc 1 1, 3) := by decide +kernel
theorem dX4_lowestAbsent_22 : decode cX4_lowestAbsent 22 = .ok (.goto (-20), 3) := by decide +kernel
theorem dX4_lowestAbsent_25 : decode cX4_lowestAbsent 25 = .ok (.iconst (-1), 1) := by decide +kernel
theorem dX4_lowestAbsent_26 : decode cX4_lowestAbsent 26 = .ok (.ireturn, 1) := by decide +kernel
theorem dX4_nodesInState_0 : decode cX4_nodesInState 0 = .ok (.iconst 0, 1) := by decide +kernel
theorem dX4_nodesInState_1 : decode cX4_nodesInState 1 = .ok (.istore_n 2, 1) := by decide +kernel
theorem dX4_nodesInState_2 : decode cX4_nodesInState 2 = .ok (.iconst 0, 1) := by decide +kernel
theorem dX4_nodesInState_3 : decode cX4_nodesInState 3 = .ok (.istore_n 3, 1) := by decide +kernel
theorem dX4_nodesInState_4 : decode cX4_nodesInState 4 = .ok (.iload_n 3, 1) := by decide +kernel
theorem dX4_nodesInState_5 : decode cX4_nodesInState 5 = .ok (.bipush 8, 2) := by decide +kernel
theorem dX4_nodesInState_7 : decode cX4_nodesInState 7 = .ok (.if_icmp .ge 25, 3) := by decide +kernel
theorem dX4_nodesInState_10 : decode cX4_nodesInState 10 = .ok (.aload_n 0, 1) := by decide +kernel
theorem dX4_nodesInState_11 : decode cX4_nodesInState 11 = .ok (.getfield 9, 3) := by decide +kernel
theorem dX4_nodesInState_14 : decode cX4_nodesInState 14 = .ok (.iload_n 3, 1) := by decide +kernel
theorem dX4_nodesInState_15 : decode cX4_nodesInState 15 = .ok (.iaload, 1) := by decide +kernel
theorem dX4_nodesInState_16 : decode cX4_nodesInState 16 = .ok (.iload_n 1, 1) := by decide +kernel
theorem dX4_nodesInState_17 : decode cX4_nodesInState 17 = .ok (.if_icmp .ne 9, 3) := by decide +kernel
theorem dX4_nodesInState_20 : decode cX4_nodesInState 20 = .ok (.iload_n 2, 1) := by decide +kernel
theorem dX4_nodesInState_21 : decode cX4_nodesInState 21 = .ok (.iconst 1, 1) := by decide +kernel
theorem dX4_nodesInState_22 : decode cX4_nodesInState 22 = .ok (.iload_n 3, 1) := by decide +kernel
theorem dX4_nodesInState_23 : decode cX4_nodesInState 23 = .ok (.ishl, 1) := by decide +kernel
theorem dX4_nodesInState_24 : decode cX4_nodesInState 24 = .ok (.ior, 1) := by decide +kernel
theorem dX4_nodesInState_25 : decode cX4_nodesInState 25 = .ok (.istore_n 2, 1) := by decide +kernel
theorem dX4_nodesInState_26 : decode cX4_nodesInState 26 = .ok (.iinc 3 1, 3) := by decide +kernel
theorem dX4_nodesInState_29 : decode cX4_nodesInState 29 = .ok (.goto (-25), 3) := by decide +kernel
theorem dX4_nodesInState_32 : decode cX4_nodesInState 32 = .ok (.iload_n 2, 1) := by decide +kernel
theorem dX4_nodesInState_33 : decode cX4_nodesInState 33 = .ok (.ireturn, 1) := by decide +kernel
theorem dJ6_bitCount_0f7a4_0 : decode cJ6_bitCount_0f7a4 0 = .ok (.iload_n 0, 1) := by decide +kernel
theorem dJ6_bitCount_0f7a4_1 : decode cJ6_bitCount_0f7a4 1 = .ok (.iload_n 0, 1) := by decide +kernel
theorem dJ6_bitCount_0f7a4_2 : decode cJ6_bitCount_0f7a4 2 = .ok (.iconst 1, 1) := by decide +kernel
theorem dJ6_bitCount_0f7a4_3 : decode cJ6_bitCount_0f7a4 3 = .ok (.iushr, 1) := by decide +kernel
theorem dJ6_bitCount_0f7a4_4 : decode cJ6_bitCount_0f7a4 4 = .ok (.ldc_w 265, 3) := by decide +kernel
theorem dJ6_bitCount_0f7a4_7 : decode cJ6_bitCount_0f7a4 7 = .ok (.iand, 1) := by decide +kernel
theorem dJ6_bitCount_0f7a4_8 : decode cJ6_bitCount_0f7a4 8 = .ok (.isub, 1) := by decide +kernel
theorem dJ6_bitCount_0f7a4_9 : decode cJ6_bitCount_0f7a4 9 = .ok (.istore_n 0, 1) := by decide +kernel
theorem dJ6_bitCount_0f7a4_10 : decode cJ6_bitCount_0f7a4 10 = .ok (.iload_n 0, 1) := by decide +kernel
theorem dJ6_bitCount_0f7a4_11 : decode cJ6_bitCount_0f7a4 11 = .ok (.ldc_w 266, 3) := by decide +kernel
theorem dJ6_bitCount_0f7a4_14 : decode cJ6_bitCount_0f7a4 14 = .ok (.iand, 1) := by decide +kernel
theorem dJ6_bitCount_0f7a4_15 : decode cJ6_bitCount_0f7a4 15 = .ok (.iload_n 0, 1) := by decide +kernel
theorem dJ6_bitCount_0f7a4_16 : decode cJ6_bitCount_0f7a4 16 = .ok (.iconst 2, 1) := by decide +kernel
theorem dJ6_bitCount_0f7a4_17 : decode cJ6_bitCount_0f7a4 17 = .ok (.iushr, 1) := by decide +kernel
theorem dJ6_bitCount_0f7a4_18 : decode cJ6_bitCount_0f7a4 18 = .ok (.ldc_w 266, 3) := by decide +kernel
theorem dJ6_bitCount_0f7a4_21 : decode cJ6_bitCount_0f7a4 21 = .ok (.iand, 1) := by decide +kernel
theorem dJ6_bitCount_0f7a4_22 : decode cJ6_bitCount_0f7a4 22 = .ok (.iadd, 1) := by decide +kernel
theorem dJ6_bitCount_0f7a4_23 : decode cJ6_bitCount_0f7a4 23 = .ok (.istore_n 0, 1) := by decide +kernel
theorem dJ6_bitCount_0f7a4_24 : decode cJ6_bitCount_0f7a4 24 = .ok (.iload_n 0, 1) := by decide +kernel
theorem dJ6_bitCount_0f7a4_25 : decode cJ6_bitCount_0f7a4 25 = .ok (.iload_n 0, 1) := by decide +kernel
theorem dJ6_bitCount_0f7a4_26 : decode cJ6_bitCount_0f7a4 26 = .ok (.iconst 4, 1) := by decide +kernel
theorem dJ6_bitCount_0f7a4_27 : decode cJ6_bitCount_0f7a4 27 = .ok (.iushr, 1) := by decide +kernel
theorem dJ6_bitCount_0f7a4_28 : decode cJ6_bitCount_0f7a4 28 = .ok (.iadd, 1) := by decide +kernel
theorem dJ6_bitCount_0f7a4_29 : decode cJ6_bitCount_0f7a4 29 = .ok (.ldc_w 267, 3) := by decide +kernel
theorem dJ6_bitCount_0f7a4_32 : decode cJ6_bitCount_0f7a4 32 = .ok (.iand, 1) := by decide +kernel
theorem dJ6_bitCount_0f7a4_33 : decode cJ6_bitCount_0f7a4 33 = .ok (.istore_n 0, 1) := by decide +kernel
theorem dJ6_bitCount_0f7a4_34 : decode cJ6_bitCount_0f7a4 34 = .ok (.iload_n 0, 1) := by decide +kernel
theorem dJ6_bitCount_0f7a4_35 : decode cJ6_bitCount_0f7a4 35 = .ok (.iload_n 0, 1) := by decide +kernel
theorem dJ6_bitCount_0f7a4_36 : decode cJ6_bitCount_0f7a4 36 = .ok (.bipush 8, 2) := by decide +kernel
theorem dJ6_bitCount_0f7a4_38 : decode cJ6_bitCount_0f7a4 38 = .ok (.iushr, 1) := by decide +kernel
theorem dJ6_bitCount_0f7a4_39 : decode cJ6_bitCount_0f7a4 39 = .ok (.iadd, 1) := by decide +kernel
theorem dJ6_bitCount_0f7a4_40 : decode cJ6_bitCount_0f7a4 40 = .ok (.istore_n 0, 1) := by decide +kernel
theorem dJ6_bitCount_0f7a4_41 : decode cJ6_bitCount_0f7a4 41 = .ok (.iload_n 0, 1) := by decide +kernel
theorem dJ6_bitCount_0f7a4_42 : decode cJ6_bitCount_0f7a4 42 = .ok (.iload_n 0, 1) := by decide +kernel
theorem dJ6_bitCount_0f7a4_43 : decode cJ6_bitCount_0f7a4 43 = .ok (.bipush 16, 2) := by decide +kernel
theorem dJ6_bitCount_0f7a4_45 : decode cJ6_bitCount_0f7a4 45 = .ok (.iushr, 1) := by decide +kernel
theorem dJ6_bitCount_0f7a4_46 : decode cJ6_bitCount_0f7a4 46 = .ok (.iadd, 1) := by decide +kernel
theorem dJ6_bitCount_0f7a4_47 : decode cJ6_bitCount_0f7a4 47 = .ok (.istore_n 0, 1) := by decide +kernel
theorem dJ6_bitCount_0f7a4_48 : decode cJ6_bitCount_0f7a4 48 = .ok (.iload_n 0, 1) := by decide +kernel
theorem dJ6_bitCount_0f7a4_49 : decode cJ6_bitCount_0f7a4 49 = .ok (.bipush 63, 2) := by decide +kernel
theorem dJ6_bitCount_0f7a4_51 : decode cJ6_bitCount_0f7a4 51 = .ok (.iand, 1) := by decide +kernel
theorem dJ6_bitCount_0f7a4_52 : decode cJ6_bitCount_0f7a4 52 = .ok (.ireturn, 1) := by decide +kernel
theorem dX4_presentNodes_0 : decode cX4_presentNodes 0 = .ok (.bipush 8, 2) := by decide +kernel
theorem dX4_presentNodes_2 : decode cX4_presentNodes 2 = .ok (.aload_n 0, 1) := by decide +kernel
theorem dX4_presentNodes_3 : decode cX4_presentNodes 3 = .ok (.iconst 0, 1) := by decide +kernel
theorem dX4_presentNodes_4 : decode cX4_presentNodes 4 = .ok (.invokevirtual 66, 3) := by decide +kernel
theorem dX4_presentNodes_7 : decode cX4_presentNodes 7 = .ok (.invokestatic 69, 3) := by decide +kernel
theorem dX4_presentNodes_10 : decode cX4_presentNodes 10 = .ok (.isub, 1) := by decide +kernel
theorem dX4_presentNodes_11 : decode cX4_presentNodes 11 = .ok (.ireturn, 1) := by decide +kernel
theorem dX4_putState_0 : decode cX4_putState 0 = .ok (.iload_n 1, 1) := by decide +kernel
theorem dX4_putState_1 : decode cX4_putState 1 = .ok (.invokestatic 58, 3) := by decide +kernel
theorem dX4_putState_4 : decode cX4_putState 4 = .ok (.ifCond .ne 5, 3) := by decide +kernel
theorem dX4_putState_7 : decode cX4_putState 7 = .ok (.iconst 0, 1) := by decide +kernel
theorem dX4_putState_8 : decode cX4_putState 8 = .ok (.ireturn, 1) := by decide +kernel
theorem dX4_putState_9 : decode cX4_putState 9 = .ok (.aload_n 0, 1) := by decide +kernel
theorem dX4_putState_10 : decode cX4_putState 10 = .ok (.getfield 9, 3) := by decide +kernel
theorem dX4_putState_13 : decode cX4_putState 13 = .ok (.iload_n 1, 1) := by decide +kernel
theorem dX4_putState_14 : decode cX4_putState 14 = .ok (.iload_n 2, 1) := by decide +kernel
theorem dX4_putState_15 : decode cX4_putState 15 = .ok (.iastore, 1) := by decide +kernel
theorem dX4_putState_16 : decode cX4_putState 16 = .ok (.iconst 1, 1) := by decide +kernel
theorem dX4_putState_17 : decode cX4_putState 17 = .ok (.ireturn, 1) := by decide +kernel
theorem dX4_putWeight_0 : decode cX4_putWeight 0 = .ok (.iload_n 1, 1) := by decide +kernel
theorem dX4_putWeight_1 : decode cX4_putWeight 1 = .ok (.invokestatic 58, 3) := by decide +kernel
theorem dX4_putWeight_4 : decode cX4_putWeight 4 = .ok (.ifCond .ne 5, 3) := by decide +kernel
theorem dX4_putWeight_7 : decode cX4_putWeight 7 = .ok (.iconst 0, 1) := by decide +kernel
theorem dX4_putWeight_8 : decode cX4_putWeight 8 = .ok (.ireturn, 1) := by decide +kernel
theorem dX4_putWeight_9 : decode cX4_putWeight 9 = .ok (.aload_n 0, 1) := by decide +kernel
theorem dX4_putWeight_10 : decode cX4_putWeight 10 = .ok (.getfield 15, 3) := by decide +kernel
theorem dX4_putWeight_13 : decode cX4_putWeight 13 = .ok (.iload_n 1, 1) := by decide +kernel
theorem dX4_putWeight_14 : decode cX4_putWeight 14 = .ok (.iload_n 2, 1) := by decide +kernel
theorem dX4_putWeight_15 : decode cX4_putWeight 15 = .ok (.iastore, 1) := by decide +kernel
theorem dX4_putWeight_16 : decode cX4_putWeight 16 = .ok (.iconst 1, 1) := by decide +kernel
theorem dX4_putWeight_17 : decode cX4_putWeight 17 = .ok (.ireturn, 1) := by decide +kernel
theorem dX4_enter_0 : decode cX4_enter 0 = .ok (.aload_n 0, 1) := by decide +kernel
theorem dX4_enter_1 : decode cX4_enter 1 = .ok (.iload_n 1, 1) := by decide +kernel
theorem dX4_enter_2 : decode cX4_enter 2 = .ok (.iconst 1, 1) := by decide +kernel
theorem dX4_enter_3 : decode cX4_enter 3 = .ok (.invokevirtual 74, 3) := by decide +kernel
theorem dX4_enter_6 : decode cX4_enter 6 = .ok (.ifCond .eq 16, 3) := by decide +kernel
theorem dX4_enter_9 : decode cX4_enter 9 = .ok (.aload_n 0, 1) := by decide +kernel
theorem dX4_enter_10 : decode cX4_enter 10 = .ok (.iload_n 1, 1) := by decide +kernel
theorem dX4_enter_11 : decode cX4_enter 11 = .ok (.iload_n 2, 1) := by decide +kernel
theorem dX4_enter_12 : decode cX4_enter 12 = .ok (.invokevirtual 78, 3) := by decide +kernel
theorem dX4_enter_15 : decode cX4_enter 15 = .ok (.ifCond .eq 7, 3) := by decide +kernel
theorem dX4_enter_18 : decode cX4_enter 18 = .ok (.iconst 1, 1) := by decide +kernel
theorem dX4_enter_19 : decode cX4_enter 19 = .ok (.goto 4, 3) := by decide +kernel
theorem dX4_enter_22 : decode cX4_enter 22 = .ok (.iconst 0, 1) := by decide +kernel
theorem dX4_enter_23 : decode cX4_enter 23 = .ok (.ireturn, 1) := by decide +kernel
theorem dX6_isWeight_0 : decode cX6_isWeight 0 = .ok (.iload_n 0, 1) := by decide +kernel
theorem dX6_isWeight_1 : decode cX6_isWeight 1 = .ok (.iconst 1, 1) := by decide +kernel
theorem dX6_isWeight_2 : decode cX6_isWeight 2 = .ok (.if_icmp .lt 12, 3) := by decide +kernel
theorem dX6_isWeight_5 : decode cX6_isWeight 5 = .ok (.iload_n 0, 1) := by decide +kernel
theorem dX6_isWeight_6 : decode cX6_isWeight 6 = .ok (.iconst 5, 1) := by decide +kernel
theorem dX6_isWeight_7 : decode cX6_isWeight 7 = .ok (.if_icmp .gt 7, 3) := by decide +kernel
theorem dX6_isWeight_10 : decode cX6_isWeight 10 = .ok (.iconst 1, 1) := by decide +kernel
theorem dX6_isWeight_11 : decode cX6_isWeight 11 = .ok (.goto 4, 3) := by decide +kernel
theorem dX6_isWeight_14 : decode cX6_isWeight 14 = .ok (.iconst 0, 1) := by decide +kernel
theorem dX6_isWeight_15 : decode cX6_isWeight 15 = .ok (.ireturn, 1) := by decide +kernel
theorem dX4_tryToEnter_0 : decode cX4_tryToEnter 0 = .ok (.iload_n 1, 1) := by decide +kernel
theorem dX4_tryToEnter_1 : decode cX4_tryToEnter 1 = .ok (.invokestatic 81, 3) := by decide +kernel
theorem dX4_tryToEnter_4 : decode cX4_tryToEnter 4 = .ok (.ifCond .eq 19, 3) := by decide +kernel
theorem dX4_tryToEnter_7 : decode cX4_tryToEnter 7 = .ok (.aload_n 0, 1) := by decide +kernel
theorem dX4_tryToEnter_8 : decode cX4_tryToEnter 8 = .ok (.aload_n 0, 1) := by decide +kernel
theorem dX4_tryToEnter_9 : decode cX4_tryToEnter 9 = .ok (.invokevirtual 84, 3) := by decide +kernel
theorem dX4_tryToEnter_12 : decode cX4_tryToEnter 12 = .ok (.iload_n 1, 1) := by decide +kernel
theorem dX4_tryToEnter_13 : decode cX4_tryToEnter 13 = .ok (.invokevirtual 88, 3) := by decide +kernel
theorem dX4_tryToEnter_16 : decode cX4_tryToEnter 16 = .ok (.ifCond .eq 7, 3) := by decide +kernel
theorem dX4_tryToEnter_19 : decode cX4_tryToEnter 19 = .ok (.iconst 1, 1) := by decide +kernel
theorem dX4_tryToEnter_20 : decode cX4_tryToEnter 20 = .ok (.goto 4, 3) := by decide +kernel
theorem dX4_tryToEnter_23 : decode cX4_tryToEnter 23 = .ok (.iconst 0, 1) := by decide +kernel
theorem dX4_tryToEnter_24 : decode cX4_tryToEnter 24 = .ok (.ireturn, 1) := by decide +kernel
theorem dX4_leave_0 : decode cX4_leave 0 = .ok (.aload_n 0, 1) := by decide +kernel
theorem dX4_leave_1 : decode cX4_leave 1 = .ok (.iload_n 1, 1) := by decide +kernel
theorem dX4_leave_2 : decode cX4_leave 2 = .ok (.iconst 0, 1) := by decide +kernel
theorem dX4_leave_3 : decode cX4_leave 3 = .ok (.invokevirtual 74, 3) := by decide +kernel
theorem dX4_leave_6 : decode cX4_leave 6 = .ok (.pop, 1) := by decide +kernel
theorem dX4_leave_7 : decode cX4_leave 7 = .ok (.aload_n 0, 1) := by decide +kernel
theorem dX4_leave_8 : decode cX4_leave 8 = .ok (.iload_n 1, 1) := by decide +kernel
theorem dX4_leave_9 : decode cX4_leave 9 = .ok (.iconst 0, 1) := by decide +kernel
theorem dX4_leave_10 : decode cX4_leave 10 = .ok (.invokevirtual 78, 3) := by decide +kernel
theorem dX4_leave_13 : decode cX4_leave 13 = .ok (.pop, 1) := by decide +kernel
theorem dX4_leave_14 : decode cX4_leave 14 = .ok (.return_, 1) := by decide +kernel
theorem dX4_leaseOf_0 : decode cX4_leaseOf 0 = .ok (.iload_n 1, 1) := by decide +kernel
theorem dX4_leaseOf_1 : decode cX4_leaseOf 1 = .ok (.invokestatic 91, 3) := by decide +kernel
theorem dX4_leaseOf_4 : decode cX4_leaseOf 4 = .ok (.ifCond .eq 12, 3) := by decide +kernel
theorem dX4_leaseOf_7 : decode cX4_leaseOf 7 = .ok (.aload_n 0, 1) := by decide +kernel
theorem dX4_leaseOf_8 : decode cX4_leaseOf 8 = .ok (.getfield 21, 3) := by decide +kernel
theorem dX4_leaseOf_11 : decode cX4_leaseOf 11 = .ok (.iload_n 1, 1) := by decide +kernel
theorem dX4_leaseOf_12 : decode cX4_leaseOf 12 = .ok (.iaload, 1) := by decide +kernel
theorem dX4_leaseOf_13 : decode cX4_leaseOf 13 = .ok (.goto 4, 3) := by decide +kernel
theorem dX4_leaseOf_16 : decode cX4_leaseOf 16 = .ok (.iconst (-1), 1) := by decide +kernel
theorem dX4_leaseOf_17 : decode cX4_leaseOf 17 = .ok (.ireturn, 1) := by decide +kernel
theorem dX4_isServed_0 : decode cX4_isServed 0 = .ok (.aload_n 0, 1) := by decide +kernel
theorem dX4_isServed_1 : decode cX4_isServed 1 = .ok (.aload_n 0, 1) := by decide +kernel
theorem dX4_isServed_2 : decode cX4_isServed 2 = .ok (.iload_n 1, 1) := by decide +kernel
theorem dX4_isServed_3 : decode cX4_isServed 3 = .ok (.invokevirtual 94, 3) := by decide +kernel
theorem dX4_isServed_6 : decode cX4_isServed 6 = .ok (.invokevirtual 62, 3) := by decide +kernel
theorem dX4_isServed_9 : decode cX4_isServed 9 = .ok (.istore_n 2, 1) := by decide +kernel
theorem dX4_isServed_10 : decode cX4_isServed 10 = .ok (.iload_n 2, 1) := by decide +kernel
theorem dX4_isServed_11 : decode cX4_isServed 11 = .ok (.iconst 1, 1) := by decide +kernel
theorem dX4_isServed_12 : decode cX4_isServed 12 = .ok (.if_icmp .eq 8, 3) := by decide +kernel
theorem dX4_isServed_15 : decode cX4_isServed 15 = .ok (.iload_n 2, 1) := by decide +kernel
theorem dX4_isServed_16 : decode cX4_isServed 16 = .ok (.iconst 2, 1) := by decide +kernel
theorem dX4_isServed_17 : decode cX4_isServed 17 = .ok (.if_icmp .ne 7, 3) := by decide +kernel
theorem dX4_isServed_20 : decode cX4_isServed 20 = .ok (.iconst 1, 1) := by decide +kernel
theorem dX4_isServed_21 : decode cX4_isServed 21 = .ok (.goto 4, 3) := by decide +kernel
theorem dX4_isServed_24 : decode cX4_isServed 24 = .ok (.iconst 0, 1) := by decide +kernel
theorem dX4_isServed_25 : decode cX4_isServed 25 = .ok (.ireturn, 1) := by decide +kernel
theorem dX4_ownedShards_0 : decode cX4_ownedShards 0 = .ok (.iconst 0, 1) := by decide +kernel
theorem dX4_ownedShards_1 : decode cX4_ownedShards 1 = .ok (.istore_n 2, 1) := by decide +kernel
theorem dX4_ownedShards_2 : decode cX4_ownedShards 2 = .ok (.iconst 0, 1) := by decide +kernel
theorem dX4_ownedShards_3 : decode cX4_ownedShards 3 = .ok (.istore_n 3, 1) := by decide +kernel
theorem dX4_ownedShards_4 : decode cX4_ownedShards 4 = .ok (.iload_n 3, 1) := by decide +kernel
theorem dX4_ownedShards_5 : decode cX4_ownedShards 5 = .ok (.bipush 32, 2) := by decide +kernel
theorem dX4_ownedShards_7 : decode cX4_ownedShards 7 = .ok (.if_icmp .ge 22, 3) := by decide +kernel
theorem dX4_ownedShards_10 : decode cX4_ownedShards 10 = .ok (.aload_n 0, 1) := by decide +kernel
theorem dX4_ownedShards_11 : decode cX4_ownedShards 11 = .ok (.getfield 18, 3) := by decide +kernel
theorem dX4_ownedShards_14 : decode cX4_ownedShards 14 = .ok (.iload_n 3, 1) := by decide +kernel
theorem dX4_ownedShards_15 : decode cX4_ownedShards 15 = .ok (.iaload, 1) := by decide +kernel
theorem dX4_ownedShards_16 : decode cX4_ownedShards 16 = .ok (.iload_n 1, 1) := by decide +kernel
theorem dX4_ownedShards_17 : decode cX4_ownedShards 17 = .ok (.if_icmp .ne 6, 3) := by decide +kernel
theorem dX4_ownedShards_20 : decode cX4_ownedShards 20 = .ok (.iinc 2 1, 3) := by decide +kernel
theorem dX4_ownedShards_23 : decode cX4_ownedShards 23 = .ok (.iinc 3 1, 3) := by decide +kernel
theorem dX4_ownedShards_26 : decode cX4_ownedShards 26 = .ok (.goto (-22), 3) := by decide +kernel
theorem dX4_ownedShards_29 : decode cX4_ownedShards 29 = .ok (.iload_n 2, 1) := by decide +kernel
theorem dX4_ownedShards_30 : decode cX4_ownedShards 30 = .ok (.ireturn, 1) := by decide +kernel
theorem dX6_sizeOfShard_0 : decode cX6_sizeOfShard 0 = .ok (.iconst 1, 1) := by decide +kernel
theorem dX6_sizeOfShard_1 : decode cX6_sizeOfShard 1 = .ok (.sipush 2000, 3) := by decide +kernel
theorem dX6_sizeOfShard_4 : decode cX6_sizeOfShard 4 = .ok (.iload_n 0, 1) := by decide +kernel
theorem dX6_sizeOfShard_5 : decode cX6_sizeOfShard 5 = .ok (.iadd, 1) := by decide +kernel
theorem dX6_sizeOfShard_6 : decode cX6_sizeOfShard 6 = .ok (.invokestatic 224, 3) := by decide +kernel
theorem dX6_sizeOfShard_9 : decode cX6_sizeOfShard 9 = .ok (.bipush 9, 2) := by decide +kernel
theorem dX6_sizeOfShard_11 : decode cX6_sizeOfShard 11 = .ok (.irem, 1) := by decide +kernel
theorem dX6_sizeOfShard_12 : decode cX6_sizeOfShard 12 = .ok (.iadd, 1) := by decide +kernel
theorem dX6_sizeOfShard_13 : decode cX6_sizeOfShard 13 = .ok (.ireturn, 1) := by decide +kernel
theorem dX4_ownedSizes_0 : decode cX4_ownedSizes 0 = .ok (.iconst 0, 1) := by decide +kernel
theorem dX4_ownedSizes_1 : decode cX4_ownedSizes 1 = .ok (.istore_n 2, 1) := by decide +kernel
theorem dX4_ownedSizes_2 : decode cX4_ownedSizes 2 = .ok (.iconst 0, 1) := by decide +kernel
theorem dX4_ownedSizes_3 : decode cX4_ownedSizes 3 = .ok (.istore_n 3, 1) := by decide +kernel
theorem dX4_ownedSizes_4 : decode cX4_ownedSizes 4 = .ok (.iload_n 3, 1) := by decide +kernel
theorem dX4_ownedSizes_5 : decode cX4_ownedSizes 5 = .ok (.bipush 32, 2) := by decide +kernel
theorem dX4_ownedSizes_7 : decode cX4_ownedSizes 7 = .ok (.if_icmp .ge 26, 3) := by decide +kernel
theorem dX4_ownedSizes_10 : decode cX4_ownedSizes 10 = .ok (.aload_n 0, 1) := by decide +kernel
theorem dX4_ownedSizes_11 : decode cX4_ownedSizes 11 = .ok (.getfield 18, 3) := by decide +kernel
theorem dX4_ownedSizes_14 : decode cX4_ownedSizes 14 = .ok (.iload_n 3, 1) := by decide +kernel
theorem dX4_ownedSizes_15 : decode cX4_ownedSizes 15 = .ok (.iaload, 1) := by decide +kernel
theorem dX4_ownedSizes_16 : decode cX4_ownedSizes 16 = .ok (.iload_n 1, 1) := by decide +kernel
theorem dX4_ownedSizes_17 : decode cX4_ownedSizes 17 = .ok (.if_icmp .ne 10, 3) := by decide +kernel
theorem dX4_ownedSizes_20 : decode cX4_ownedSizes 20 = .ok (.iload_n 2, 1) := by decide +kernel
theorem dX4_ownedSizes_21 : decode cX4_ownedSizes 21 = .ok (.iload_n 3, 1) := by decide +kernel
theorem dX4_ownedSizes_22 : decode cX4_ownedSizes 22 = .ok (.invokestatic 97, 3) := by decide +kernel
theorem dX4_ownedSizes_25 : decode cX4_ownedSizes 25 = .ok (.iadd, 1) := by decide +kernel
theorem dX4_ownedSizes_26 : decode cX4_ownedSizes 26 = .ok (.istore_n 2, 1) := by decide +kernel
theorem dX4_ownedSizes_27 : decode cX4_ownedSizes 27 = .ok (.iinc 3 1, 3) := by decide +kernel
theorem dX4_ownedSizes_30 : decode cX4_ownedSizes 30 = .ok (.goto (-26), 3) := by decide +kernel
theorem dX4_ownedSizes_33 : decode cX4_ownedSizes 33 = .ok (.iload_n 2, 1) := by decide +kernel
theorem dX4_ownedSizes_34 : decode cX4_ownedSizes 34 = .ok (.ireturn, 1) := by decide +kernel
theorem dX4_unservedShards_0 : decode cX4_unservedShards 0 = .ok (.iconst 0, 1) := by decide +kernel
theorem dX4_unservedShards_1 : decode cX4_unservedShards 1 = .ok (.istore_n 1, 1) := by decide +kernel
theorem dX4_unservedShards_2 : decode cX4_unservedShards 2 = .ok (.iconst 0, 1) := by decide +kernel
theorem dX4_unservedShards_3 : decode cX4_unservedShards 3 = .ok (.istore_n 2, 1) := by decide +kernel
theorem dX4_unservedShards_4 : decode cX4_unservedShards 4 = .ok (.iload_n 2, 1) := by decide +kernel
theorem dX4_unservedShards_5 : decode cX4_unservedShards 5 = .ok (.bipush 32, 2) := by decide +kernel
theorem dX4_unservedShards_7 : decode cX4_unservedShards 7 = .ok (.if_icmp .ge 20, 3) := by decide +kernel
theorem dX4_unservedShards_10 : decode cX4_unservedShards 10 = .ok (.aload_n 0, 1) := by decide +kernel
theorem dX4_unservedShards_11 : decode cX4_unservedShards 11 = .ok (.iload_n 2, 1) := by decide +kernel
theorem dX4_unservedShards_12 : decode cX4_unservedShards 12 = .ok (.invokevirtual 100, 3) := by decide +kernel
theorem dX4_unservedShards_15 : decode cX4_unservedShards 15 = .ok (.ifCond .ne 6, 3) := by decide +kernel
theorem dX4_unservedShards_18 : decode cX4_unservedShards 18 = .ok (.iinc 1 1, 3) := by decide +kernel
theorem dX4_unservedShards_21 : decode cX4_unservedShards 21 = .ok (.iinc 2 1, 3) := by decide +kernel
theorem dX4_unservedShards_24 : decode cX4_unservedShards 24 = .ok (.goto (-20), 3) := by decide +kernel
theorem dX4_unservedShards_27 : decode cX4_unservedShards 27 = .ok (.iload_n 1, 1) := by decide +kernel
theorem dX4_unservedShards_28 : decode cX4_unservedShards 28 = .ok (.ireturn, 1) := by decide +kernel
theorem dX4_grant_0 : decode cX4_grant 0 = .ok (.iload_n 1, 1) := by decide +kernel
theorem dX4_grant_1 : decode cX4_grant 1 = .ok (.invokestatic 91, 3) := by decide +kernel
theorem dX4_grant_4 : decode cX4_grant 4 = .ok (.ifCond .eq 27, 3) := by decide +kernel
theorem dX4_grant_7 : decode cX4_grant 7 = .ok (.aload_n 0, 1) := by decide +kernel
theorem dX4_grant_8 : decode cX4_grant 8 = .ok (.getfield 18, 3) := by decide +kernel
theorem dX4_grant_11 : decode cX4_grant 11 = .ok (.iload_n 1, 1) := by decide +kernel
theorem dX4_grant_12 : decode cX4_grant 12 = .ok (.iload_n 2, 1) := by decide +kernel
theorem dX4_grant_13 : decode cX4_grant 13 = .ok (.iastore, 1) := by decide +kernel
theorem dX4_grant_14 : decode cX4_grant 14 = .ok (.aload_n 0, 1) := by decide +kernel
theorem dX4_grant_15 : decode cX4_grant 15 = .ok (.getfield 21, 3) := by decide +kernel
theorem dX4_grant_18 : decode cX4_grant 18 = .ok (.iload_n 1, 1) := by decide +kernel
theorem dX4_grant_19 : decode cX4_grant 19 = .ok (.aload_n 0, 1) := by decide +kernel
theorem dX4_grant_20 : decode cX4_grant 20 = .ok (.invokevirtual 103, 3) := by decide +kernel
theorem dX4_grant_23 : decode cX4_grant 23 = .ok (.aload_n 0, 1) := by decide +kernel
theorem dX4_grant_24 : decode cX4_grant 24 = .ok (.getfield 24, 3) := by decide +kernel
theorem dX4_grant_27 : decode cX4_grant 27 = .ok (.iconst 2, 1) := by decide +kernel
theorem dX4_grant_28 : decode cX4_grant 28 = .ok (.iaload, 1) := by decide +kernel
theorem dX4_grant_29 : decode cX4_grant 29 = .ok (.iadd, 1) := by decide +kernel
theorem dX4_grant_30 : decode cX4_grant 30 = .ok (.iastore, 1) := by decide +kernel
theorem dX4_grant_31 : decode cX4_grant 31 = .ok (.return_, 1) := by decide +kernel
theorem dX4_release_0 : decode cX4_release 0 = .ok (.iload_n 1, 1) := by decide +kernel
theorem dX4_release_1 : decode cX4_release 1 = .ok (.invokestatic 91, 3) := by decide +kernel
theorem dX4_release_4 : decode cX4_release 4 = .ok (.ifCond .eq 17, 3) := by decide +kernel
theorem dX4_release_7 : decode cX4_release 7 = .ok (.aload_n 0, 1) := by decide +kernel
theorem dX4_release_8 : decode cX4_release 8 = .ok (.getfield 18, 3) := by decide +kernel
theorem dX4_release_11 : decode cX4_release 11 = .ok (.iload_n 1, 1) := by decide +kernel
theorem dX4_release_12 : decode cX4_release 12 = .ok (.iconst (-1), 1) := by decide +kernel
theorem dX4_release_13 : decode cX4_release 13 = .ok (.iastore, 1) := by decide +kernel
theorem dX4_release_14 : decode cX4_release 14 = .ok (.aload_n 0, 1) := by decide +kernel
theorem dX4_release_15 : decode cX4_release 15 = .ok (.getfield 21, 3) := by decide +kernel
theorem dX4_release_18 : decode cX4_release 18 = .ok (.iload_n 1, 1) := by decide +kernel
theorem dX4_release_19 : decode cX4_release 19 = .ok (.iconst (-1), 1) := by decide +kernel
theorem dX4_release_20 : decode cX4_release 20 = .ok (.iastore, 1) := by decide +kernel
theorem dX4_release_21 : decode cX4_release 21 = .ok (.return_, 1) := by decide +kernel
theorem dX4_note_0 : decode cX4_note 0 = .ok (.aload_n 0, 1) := by decide +kernel
theorem dX4_note_1 : decode cX4_note 1 = .ok (.getfield 39, 3) := by decide +kernel
theorem dX4_note_4 : decode cX4_note 4 = .ok (.aload_n 0, 1) := by decide +kernel
theorem dX4_note_5 : decode cX4_note 5 = .ok (.invokevirtual 103, 3) := by decide +kernel
theorem dX4_note_8 : decode cX4_note 8 = .ok (.iload_n 1, 1) := by decide +kernel
theorem dX4_note_9 : decode cX4_note 9 = .ok (.iload_n 2, 1) := by decide +kernel
theorem dX4_note_10 : decode cX4_note 10 = .ok (.iload_n 3, 1) := by decide +kernel
theorem dX4_note_11 : decode cX4_note 11 = .ok (.invokevirtual 106, 3) := by decide +kernel
theorem dX4_note_14 : decode cX4_note 14 = .ok (.return_, 1) := by decide +kernel
theorem dX5_attendToLeases_0 : decode cX5_attendToLeases 0 = .ok (.iconst 0, 1) := by decide +kernel
theorem dX5_attendToLeases_1 : decode cX5_attendToLeases 1 = .ok (.istore_n 1, 1) := by decide +kernel
theorem dX5_attendToLeases_2 : decode cX5_attendToLeases 2 = .ok (.iload_n 1, 1) := by decide +kernel
theorem dX5_attendToLeases_3 : decode cX5_attendToLeases 3 = .ok (.bipush 32, 2) := by decide +kernel
theorem dX5_attendToLeases_5 : decode cX5_attendToLeases 5 = .ok (.if_icmp .ge 77, 3) := by decide +kernel
theorem dX5_attendToLeases_8 : decode cX5_attendToLeases 8 = .ok (.aload_n 0, 1) := by decide +kernel
theorem dX5_attendToLeases_9 : decode cX5_attendToLeases 9 = .ok (.iload_n 1, 1) := by decide +kernel
theorem dX5_attendToLeases_10 : decode cX5_attendToLeases 10 = .ok (.invokevirtual 45, 3) := by decide +kernel
theorem dX5_attendToLeases_13 : decode cX5_attendToLeases 13 = .ok (.istore_n 2, 1) := by decide +kernel
theorem dX5_attendToLeases_14 : decode cX5_attendToLeases 14 = .ok (.iload_n 2, 1) := by decide +kernel
theorem dX5_attendToLeases_15 : decode cX5_attendToLeases 15 = .ok (.iconst (-1), 1) := by decide +kernel
theorem dX5_attendToLeases_16 : decode cX5_attendToLeases 16 = .ok (.if_icmp .eq 20, 3) := by decide +kernel
theorem dX5_attendToLeases_19 : decode cX5_attendToLeases 19 = .ok (.aload_n 0, 1) := by decide +kernel
theorem dX5_attendToLeases_20 : decode cX5_attendToLeases 20 = .ok (.iload_n 1, 1) := by decide +kernel
theorem dX5_attendToLeases_21 : decode cX5_attendToLeases 21 = .ok (.invokevirtual 49, 3) := by decide +kernel
theorem dX5_attendToLeases_24 : decode cX5_attendToLeases 24 = .ok (.ifCond .eq 12, 3) := by decide +kernel
theorem dX5_attendToLeases_27 : decode cX5_attendToLeases 27 = .ok (.aload_n 0, 1) := by decide +kernel
theorem dX5_attendToLeases_28 : decode cX5_attendToLeases 28 = .ok (.iload_n 1, 1) := by decide +kernel
theorem dX5_attendToLeases_29 : decode cX5_attendToLeases 29 = .ok (.iload_n 2, 1) := by decide +kernel
theorem dX5_attendToLeases_30 : decode cX5_attendToLeases 30 = .ok (.invokevirtual 53, 3) := by decide +kernel
theorem dX5_attendToLeases_33 : decode cX5_attendToLeases 33 = .ok (.goto 43, 3) := by decide +kernel
theorem dX5_attendToLeases_36 : decode cX5_attendToLeases 36 = .ok (.iload_n 2, 1) := by decide +kernel
theorem dX5_attendToLeases_37 : decode cX5_attendToLeases 37 = .ok (.iconst (-1), 1) := by decide +kernel
theorem dX5_attendToLeases_38 : decode cX5_attendToLeases 38 = .ok (.if_icmp .eq 38, 3) := by decide +kernel
theorem dX5_attendToLeases_41 : decode cX5_attendToLeases 41 = .ok (.aload_n 0, 1) := by decide +kernel
theorem dX5_attendToLeases_42 : decode cX5_attendToLeases 42 = .ok (.iload_n 1, 1) := by decide +kernel
theorem dX5_attendToLeases_43 : decode cX5_attendToLeases 43 = .ok (.invokevirtual 57, 3) := by decide +kernel
theorem dX5_attendToLeases_46 : decode cX5_attendToLeases 46 = .ok (.aload_n 0, 1) := by decide +kernel
theorem dX5_attendToLeases_47 : decode cX5_attendToLeases 47 = .ok (.invokevirtual 60, 3) := by decide +kernel
theorem dX5_attendToLeases_50 : decode cX5_attendToLeases 50 = .ok (.if_icmp .gt 26, 3) := by decide +kernel
theorem dX5_attendToLeases_53 : decode cX5_attendToLeases 53 = .ok (.aload_n 0, 1) := by decide +kernel
theorem dX5_attendToLeases_54 : decode cX5_attendToLeases 54 = .ok (.iload_n 1, 1) := by decide +kernel
theorem dX5_attendToLeases_55 : decode cX5_attendToLeases 55 = .ok (.invokevirtual 63, 3) := by decide +kernel
theorem dX5_attendToLeases_58 : decode cX5_attendToLeases 58 = .ok (.aload_n 0, 1) := by decide +kernel
theorem dX5_attendToLeases_59 : decode cX5_attendToLeases 59 = .ok (.getfield 9, 3) := by decide +kernel
theorem dX5_attendToLeases_62 : decode cX5_attendToLeases 62 = .ok (.bipush 6, 2) := by decide +kernel
theorem dX5_attendToLeases_64 : decode cX5_attendToLeases 64 = .ok (.dup2, 1) := by decide +kernel
theorem dX5_attendToLeases_65 : decode cX5_attendToLeases 65 = .ok (.iaload, 1) := by decide +kernel
theorem dX5_attendToLeases_66 : decode cX5_attendToLeases 66 = .ok (.iconst 1, 1) := by decide +kernel
theorem dX5_attendToLeases_67 : decode cX5_attendToLeases 67 = .ok (.iadd, 1) := by decide +kernel
theorem dX5_attendToLeases_68 : decode cX5_attendToLeases 68 = .ok (.iastore, 1) := by decide +kernel
theorem dX5_attendToLeases_69 : decode cX5_attendToLeases 69 = .ok (.aload_n 0, 1) := by decide +kernel
theorem dX5_attendToLeases_70 : decode cX5_attendToLeases 70 = .ok (.iconst 3, 1) := by decide +kernel
theorem dX5_attendToLeases_71 : decode cX5_attendToLeases 71 = .ok (.iload_n 1, 1) := by decide +kernel
theorem dX5_attendToLeases_72 : decode cX5_attendToLeases 72 = .ok (.iload_n 2, 1) := by decide +kernel
theorem dX5_attendToLeases_73 : decode cX5_attendToLeases 73 = .ok (.invokevirtual 67, 3) := by decide +kernel
theorem dX5_attendToLeases_76 : decode cX5_attendToLeases 76 = .ok (.iinc 1 1, 3) := by decide +kernel
theorem dX5_attendToLeases_79 : decode cX5_attendToLeases 79 = .ok (.goto (-77), 3) := by decide +kernel
theorem dX5_attendToLeases_82 : decode cX5_attendToLeases 82 = .ok (.return_, 1) := by decide +kernel
theorem dX5_mustCancel_0 : decode cX5_mustCancel 0 = .ok (.aload_n 0, 1) := by decide +kernel
theorem dX5_mustCancel_1 : decode cX5_mustCancel 1 = .ok (.getfield 71, 3) := by decide +kernel
theorem dX5_mustCancel_4 : decode cX5_mustCancel 4 = .ok (.iload_n 2, 1) := by decide +kernel
theorem dX5_mustCancel_5 : decode cX5_mustCancel 5 = .ok (.iconst 0, 1) := by decide +kernel
theorem dX5_mustCancel_6 : decode cX5_mustCancel 6 = .ok (.invokevirtual 89, 3) := by decide +kernel
theorem dX5_mustCancel_9 : decode cX5_mustCancel 9 = .ok (.istore_n 3, 1) := by decide +kernel
theorem dX5_mustCancel_10 : decode cX5_mustCancel 10 = .ok (.aload_n 0, 1) := by decide +kernel
theorem dX5_mustCancel_11 : decode cX5_mustCancel 11 = .ok (.getfield 71, 3) := by decide +kernel
theorem dX5_mustCancel_14 : decode cX5_mustCancel 14 = .ok (.iload_n 2, 1) := by decide +kernel
theorem dX5_mustCancel_15 : decode cX5_mustCancel 15 = .ok (.iconst 1, 1) := by decide +kernel
theorem dX5_mustCancel_16 : decode cX5_mustCancel 16 = .ok (.invokevirtual 89, 3) := by decide +kernel
theorem dX5_mustCancel_19 : decode cX5_mustCancel 19 = .ok (.istore 4, 2) := by decide +kernel
theorem dX5_mustCancel_21 : decode cX5_mustCancel 21 = .ok (.aload_n 0, 1) := by decide +kernel
theorem dX5_mustCancel_22 : decode cX5_mustCancel 22 = .ok (.getfield 71, 3) := by decide +kernel
theorem dX5_mustCancel_25 : decode cX5_mustCancel 25 = .ok (.iload_n 2, 1) := by decide +kernel
theorem dX5_mustCancel_26 : decode cX5_mustCancel 26 = .ok (.iconst 2, 1) := by decide +kernel
theorem dX5_mustCancel_27 : decode cX5_mustCancel 27 = .ok (.invokevirtual 89, 3) := by decide +kernel
theorem dX5_mustCancel_30 : decode cX5_mustCancel 30 = .ok (.aload_n 1, 1) := by decide +kernel
theorem dX5_mustCancel_31 : decode cX5_mustCancel 31 = .ok (.iload_n 3, 1) := by decide +kernel
theorem dX5_mustCancel_32 : decode cX5_mustCancel 32 = .ok (.invokevirtual 102, 3) := by decide +kernel
theorem dX5_mustCancel_35 : decode cX5_mustCancel 35 = .ok (.if_icmp .eq 5, 3) := by decide +kernel
theorem dX5_mustCancel_38 : decode cX5_mustCancel 38 = .ok (.iconst 1, 1) := by decide +kernel
theorem dX5_mustCancel_39 : decode cX5_mustCancel 39 = .ok (.ireturn, 1) := by decide +kernel
theorem dX5_mustCancel_40 : decode cX5_mustCancel 40 = .ok (.iload 4, 2) := by decide +kernel
theorem dX5_mustCancel_42 : decode cX5_mustCancel 42 = .ok (.iconst (-1), 1) := by decide +kernel
theorem dX5_mustCancel_43 : decode cX5_mustCancel 43 = .ok (.if_icmp .eq 27, 3) := by decide +kernel
theorem dX5_mustCancel_46 : decode cX5_mustCancel 46 = .ok (.iload 4, 2) := by decide +kernel
theorem dX5_mustCancel_48 : decode cX5_mustCancel 48 = .ok (.aload_n 0, 1) := by decide +kernel
theorem dX5_mustCancel_49 : decode cX5_mustCancel 49 = .ok (.iload_n 3, 1) := by decide +kernel
theorem dX5_mustCancel_50 : decode cX5_mustCancel 50 = .ok (.invokevirtual 45, 3) := by decide +kernel
theorem dX5_mustCancel_53 : decode cX5_mustCancel 53 = .ok (.if_icmp .ne 13, 3) := by decide +kernel
theorem dX5_mustCancel_56 : decode cX5_mustCancel 56 = .ok (.aload_n 0, 1) := by decide +kernel
theorem dX5_mustCancel_57 : decode cX5_mustCancel 57 = .ok (.iload 4, 2) := by decide +kernel
theorem dX5_mustCancel_59 : decode cX5_mustCancel 59 = .ok (.invokevirtual 105, 3) := by decide +kernel
theorem dX5_mustCancel_62 : decode cX5_mustCancel 62 = .ok (.iconst 3, 1) := by decide +kernel
theorem dX5_mustCancel_63 : decode cX5_mustCancel 63 = .ok (.if_icmp .ne 7, 3) := by decide +kernel
theorem dX5_mustCancel_66 : decode cX5_mustCancel 66 = .ok (.iconst 1, 1) := by decide +kernel
theorem dX5_mustCancel_67 : decode cX5_mustCancel 67 = .ok (.goto 4, 3) := by decide +kernel
theorem dX5_mustCancel_70 : decode cX5_mustCancel 70 = .ok (.iconst 0, 1) := by decide +kernel
theorem dX5_mustCancel_71 : decode cX5_mustCancel 71 = .ok (.ireturn, 1) := by decide +kernel
theorem dX5_cancelMove_0 : decode cX5_cancelMove 0 = .ok (.aload_n 0, 1) := by decide +kernel
theorem dX5_cancelMove_1 : decode cX5_cancelMove 1 = .ok (.getfield 71, 3) := by decide +kernel
theorem dX5_cancelMove_4 : decode cX5_cancelMove 4 = .ok (.iload_n 1, 1) := by decide +kernel
theorem dX5_cancelMove_5 : decode cX5_cancelMove 5 = .ok (.iconst 0, 1) := by decide +kernel
theorem dX5_cancelMove_6 : decode cX5_cancelMove 6 = .ok (.invokevirtual 89, 3) := by decide +kernel
theorem dX5_cancelMove_9 : decode cX5_cancelMove 9 = .ok (.istore_n 2, 1) := by decide +kernel
theorem dX5_cancelMove_10 : decode cX5_cancelMove 10 = .ok (.aload_n 0, 1) := by decide +kernel
theorem dX5_cancelMove_11 : decode cX5_cancelMove 11 = .ok (.getfield 71, 3) := by decide +kernel
theorem dX5_cancelMove_14 : decode cX5_cancelMove 14 = .ok (.iload_n 1, 1) := by decide +kernel
theorem dX5_cancelMove_15 : decode cX5_cancelMove 15 = .ok (.iconst 2, 1) := by decide +kernel
theorem dX5_cancelMove_16 : decode cX5_cancelMove 16 = .ok (.invokevirtual 89, 3) := by decide +kernel
theorem dX5_cancelMove_19 : decode cX5_cancelMove 19 = .ok (.istore_n 3, 1) := by decide +kernel
theorem dX5_cancelMove_20 : decode cX5_cancelMove 20 = .ok (.aload_n 0, 1) := by decide +kernel
theorem dX5_cancelMove_21 : decode cX5_cancelMove 21 = .ok (.getfield 9, 3) := by decide +kernel
theorem dX5_cancelMove_24 : decode cX5_cancelMove 24 = .ok (.iconst 3, 1) := by decide +kernel
theorem dX5_cancelMove_25 : decode cX5_cancelMove 25 = .ok (.dup2, 1) := by decide +kernel
theorem dX5_cancelMove_26 : decode cX5_cancelMove 26 = .ok (.iaload, 1) := by decide +kernel
theorem dX5_cancelMove_27 : decode cX5_cancelMove 27 = .ok (.iconst 1, 1) := by decide +kernel
theorem dX5_cancelMove_28 : decode cX5_cancelMove 28 = .ok (.iadd, 1) := by decide +kernel
theorem dX5_cancelMove_29 : decode cX5_cancelMove 29 = .ok (.iastore, 1) := by decide +kernel
theorem dX5_cancelMove_30 : decode cX5_cancelMove 30 = .ok (.aload_n 0, 1) := by decide +kernel
theorem dX5_cancelMove_31 : decode cX5_cancelMove 31 = .ok (.iconst 2, 1) := by decide +kernel
theorem dX5_cancelMove_32 : decode cX5_cancelMove 32 = .ok (.iload_n 2, 1) := by decide +kernel
theorem dX5_cancelMove_33 : decode cX5_cancelMove 33 = .ok (.iload_n 3, 1) := by decide +kernel
theorem dX5_cancelMove_34 : decode cX5_cancelMove 34 = .ok (.invokevirtual 67, 3) := by decide +kernel
theorem dX5_cancelMove_37 : decode cX5_cancelMove 37 = .ok (.aload_n 0, 1) := by decide +kernel
theorem dX5_cancelMove_38 : decode cX5_cancelMove 38 = .ok (.getfield 71, 3) := by decide +kernel
theorem dX5_cancelMove_41 : decode cX5_cancelMove 41 = .ok (.iload_n 1, 1) := by decide +kernel
theorem dX5_cancelMove_42 : decode cX5_cancelMove 42 = .ok (.invokevirtual 108, 3) := by decide +kernel
theorem dX5_cancelMove_45 : decode cX5_cancelMove 45 = .ok (.return_, 1) := by decide +kernel
theorem dX5_endMove_0 : decode cX5_endMove 0 = .ok (.aload_n 0, 1) := by decide +kernel
theorem dX5_endMove_1 : decode cX5_endMove 1 = .ok (.getfield 71, 3) := by decide +kernel
theorem dX5_endMove_4 : decode cX5_endMove 4 = .ok (.iload_n 1, 1) := by decide +kernel
theorem dX5_endMove_5 : decode cX5_endMove 5 = .ok (.iconst 0, 1) := by decide +kernel
theorem dX5_endMove_6 : decode cX5_endMove 6 = .ok (.invokevirtual 89, 3) := by decide +kernel
theorem dX5_endMove_9 : decode cX5_endMove 9 = .ok (.istore_n 2, 1) := by decide +kernel
theorem dX5_endMove_10 : decode cX5_endMove 10 = .ok (.aload_n 0, 1) := by decide +kernel
theorem dX5_endMove_11 : decode cX5_endMove 11 = .ok (.getfield 71, 3) := by decide +kernel
theorem dX5_endMove_14 : decode cX5_endMove 14 = .ok (.iload_n 1, 1) := by decide +kernel
theorem dX5_endMove_15 : decode cX5_endMove 15 = .ok (.iconst 2, 1) := by decide +kernel
theorem dX5_endMove_16 : decode cX5_endMove 16 = .ok (.invokevirtual 89, 3) := by decide +kernel
theorem dX5_endMove_19 : decode cX5_endMove 19 = .ok (.istore_n 3, 1) := by decide +kernel
theorem dX5_endMove_20 : decode cX5_endMove 20 = .ok (.aload_n 0, 1) := by decide +kernel
theorem dX5_endMove_21 : decode cX5_endMove 21 = .ok (.iload_n 2, 1) := by decide +kernel
theorem dX5_endMove_22 : decode cX5_endMove 22 = .ok (.iload_n 3, 1) := by decide +kernel
theorem dX5_endMove_23 : decode cX5_endMove 23 = .ok (.invokevirtual 53, 3) := by decide +kernel
theorem dX5_endMove_26 : decode cX5_endMove 26 = .ok (.aload_n 0, 1) := by decide +kernel
theorem dX5_endMove_27 : decode cX5_endMove 27 = .ok (.getfield 9, 3) := by decide +kernel
theorem dX5_endMove_30 : decode cX5_endMove 30 = .ok (.iconst 2, 1) := by decide +kernel
theorem dX5_endMove_31 : decode cX5_endMove 31 = .ok (.dup2, 1) := by decide +kernel
theorem dX5_endMove_32 : decode cX5_endMove 32 = .ok (.iaload, 1) := by decide +kernel
theorem dX5_endMove_33 : decode cX5_endMove 33 = .ok (.iconst 1, 1) := by decide +kernel
theorem dX5_endMove_34 : decode cX5_endMove 34 = .ok (.iadd, 1) := by decide +kernel
theorem dX5_endMove_35 : decode cX5_endMove 35 = .ok (.iastore, 1) := by decide +kernel
theorem dX5_endMove_36 : decode cX5_endMove 36 = .ok (.aload_n 0, 1) := by decide +kernel
theorem dX5_endMove_37 : decode cX5_endMove 37 = .ok (.getfield 9, 3) := by decide +kernel
theorem dX5_endMove_40 : decode cX5_endMove 40 = .ok (.iconst 4, 1) := by decide +kernel
theorem dX5_endMove_41 : decode cX5_endMove 41 = .ok (.dup2, 1) := by decide +kernel
theorem dX5_endMove_42 : decode cX5_endMove 42 = .ok (.iaload, 1) := by decide +kernel
theorem dX5_endMove_43 : decode cX5_endMove 43 = .ok (.iload_n 2, 1) := by decide +kernel
theorem dX5_endMove_44 : decode cX5_endMove 44 = .ok (.invokestatic 93, 3) := by decide +kernel
theorem dX5_endMove_47 : decode cX5_endMove 47 = .ok (.iadd, 1) := by decide +kernel
theorem dX5_endMove_48 : decode cX5_endMove 48 = .ok (.iastore, 1) := by decide +kernel
theorem dX5_endMove_49 : decode cX5_endMove 49 = .ok (.aload_n 0, 1) := by decide +kernel
theorem dX5_endMove_50 : decode cX5_endMove 50 = .ok (.iconst 1, 1) := by decide +kernel
theorem dX5_endMove_51 : decode cX5_endMove 51 = .ok (.iload_n 2, 1) := by decide +kernel
theorem dX5_endMove_52 : decode cX5_endMove 52 = .ok (.iload_n 3, 1) := by decide +kernel
theorem dX5_endMove_53 : decode cX5_endMove 53 = .ok (.invokevirtual 67, 3) := by decide +kernel
theorem dX5_endMove_56 : decode cX5_endMove 56 = .ok (.aload_n 0, 1) := by decide +kernel
theorem dX5_endMove_57 : decode cX5_endMove 57 = .ok (.getfield 71, 3) := by decide +kernel
theorem dX5_endMove_60 : decode cX5_endMove 60 = .ok (.iload_n 1, 1) := by decide +kernel
theorem dX5_endMove_61 : decode cX5_endMove 61 = .ok (.invokevirtual 108, 3) := by decide +kernel
theorem dX5_endMove_64 : decode cX5_endMove 64 = .ok (.return_, 1) := by decide +kernel
theorem dX5_advanceMoves_0 : decode cX5_advanceMoves 0 = .ok (.aload_n 0, 1) := by decide +kernel
theorem dX5_advanceMoves_1 : decode cX5_advanceMoves 1 = .ok (.getfield 71, 3) := by decide +kernel
theorem dX5_advanceMoves_4 : decode cX5_advanceMoves 4 = .ok (.astore_n 2, 1) := by decide +kernel
theorem dX5_advanceMoves_5 : decode cX5_advanceMoves 5 = .ok (.aload_n 2, 1) := by decide +kernel
theorem dX5_advanceMoves_6 : decode cX5_advanceMoves 6 = .ok (.getfield 75, 3) := by decide +kernel
theorem dX5_advanceMoves_9 : decode cX5_advanceMoves 9 = .ok (.istore_n 3, 1) := by decide +kernel
theorem dX5_advanceMoves_10 : decode cX5_advanceMoves 10 = .ok (.iconst 0, 1) := by decide +kernel
theorem dX5_advanceMoves_11 : decode cX5_advanceMoves 11 = .ok (.istore 4, 2) := by decide +kernel
theorem dX5_advanceMoves_13 : decode cX5_advanceMoves 13 = .ok (.iconst 0, 1) := by decide +kernel
theorem dX5_advanceMoves_14 : decode cX5_advanceMoves 14 = .ok (.istore 5, 2) := by decide +kernel
theorem dX5_advanceMoves_16 : decode cX5_advanceMoves 16 = .ok (.iload 5, 2) := by decide +kernel
theorem dX5_advanceMoves_18 : decode cX5_advanceMoves 18 = .ok (.iload_n 3, 1) := by decide +kernel
theorem dX5_advanceMoves_19 : decode cX5_advanceMoves 19 = .ok (.if_icmp .ge 78, 3) := by decide +kernel
theorem dX5_advanceMoves_22 : decode cX5_advanceMoves 22 = .ok (.aload_n 0, 1) := by decide +kernel
theorem dX5_advanceMoves_23 : decode cX5_advanceMoves 23 = .ok (.aload_n 1, 1) := by decide +kernel
theorem dX5_advanceMoves_24 : decode cX5_advanceMoves 24 = .ok (.iload 4, 2) := by decide +kernel
theorem dX5_advanceMoves_26 : decode cX5_advanceMoves 26 = .ok (.invokestatic 81, 3) := by decide +kernel
theorem dX5_advanceMoves_29 : decode cX5_advanceMoves 29 = .ok (.ifCond .eq 12, 3) := by decide +kernel
theorem dX5_advanceMoves_32 : decode cX5_advanceMoves 32 = .ok (.aload_n 0, 1) := by decide +kernel
theorem dX5_advanceMoves_33 : decode cX5_advanceMoves 33 = .ok (.iload 4, 2) := by decide +kernel
theorem dX5_advanceMoves_35 : decode cX5_advanceMoves 35 = .ok (.invokestatic 85, 3) := by decide +kernel
theorem dX5_advanceMoves_38 : decode cX5_advanceMoves 38 = .ok (.goto 53, 3) := by decide +kernel
theorem dX5_advanceMoves_41 : decode cX5_advanceMoves 41 = .ok (.aload_n 2, 1) := by decide +kernel
theorem dX5_advanceMoves_42 : decode cX5_advanceMoves 42 = .ok (.iload 4, 2) := by decide +kernel
theorem dX5_advanceMoves_44 : decode cX5_advanceMoves 44 = .ok (.iconst 3, 1) := by decide +kernel
theorem dX5_advanceMoves_45 : decode cX5_advanceMoves 45 = .ok (.invokevirtual 89, 3) := by decide +kernel
theorem dX5_advanceMoves_48 : decode cX5_advanceMoves 48 = .ok (.iconst 1, 1) := by decide +kernel
theorem dX5_advanceMoves_49 : decode cX5_advanceMoves 49 = .ok (.iadd, 1) := by decide +kernel
theorem dX5_advanceMoves_50 : decode cX5_advanceMoves 50 = .ok (.aload_n 2, 1) := by decide +kernel
theorem dX5_advanceMoves_51 : decode cX5_advanceMoves 51 = .ok (.iload 4, 2) := by decide +kernel
theorem dX5_advanceMoves_53 : decode cX5_advanceMoves 53 = .ok (.iconst 0, 1) := by decide +kernel
theorem dX5_advanceMoves_54 : decode cX5_advanceMoves 54 = .ok (.invokevirtual 89, 3) := by decide +kernel
theorem dX5_advanceMoves_57 : decode cX5_advanceMoves 57 = .ok (.invokestatic 93, 3) := by decide +kernel
theorem dX5_advanceMoves_60 : decode cX5_advanceMoves 60 = .ok (.if_icmp .lt 12, 3) := by decide +kernel
theorem dX5_advanceMoves_63 : decode cX5_advanceMoves 63 = .ok (.aload_n 0, 1) := by decide +kernel
theorem dX5_advanceMoves_64 : decode cX5_advanceMoves 64 = .ok (.iload 4, 2) := by decide +kernel
theorem dX5_advanceMoves_66 : decode cX5_advanceMoves 66 = .ok (.invokestatic 96, 3) := by decide +kernel
theorem dX5_advanceMoves_69 : decode cX5_advanceMoves 69 = .ok (.goto 22, 3) := by decide +kernel
theorem dX5_advanceMoves_72 : decode cX5_advanceMoves 72 = .ok (.aload_n 2, 1) := by decide +kernel
theorem dX5_advanceMoves_73 : decode cX5_advanceMoves 73 = .ok (.iload 4, 2) := by decide +kernel
theorem dX5_advanceMoves_75 : decode cX5_advanceMoves 75 = .ok (.iconst 3, 1) := by decide +kernel
theorem dX5_advanceMoves_76 : decode cX5_advanceMoves 76 = .ok (.aload_n 2, 1) := by decide +kernel
theorem dX5_advanceMoves_77 : decode cX5_advanceMoves 77 = .ok (.iload 4, 2) := by decide +kernel
theorem dX5_advanceMoves_79 : decode cX5_advanceMoves 79 = .ok (.iconst 3, 1) := by decide +kernel
theorem dX5_advanceMoves_80 : decode cX5_advanceMoves 80 = .ok (.invokevirtual 89, 3) := by decide +kernel
theorem dX5_advanceMoves_83 : decode cX5_advanceMoves 83 = .ok (.iconst 1, 1) := by decide +kernel
theorem dX5_advanceMoves_84 : decode cX5_advanceMoves 84 = .ok (.iadd, 1) := by decide +kernel
theorem dX5_advanceMoves_85 : decode cX5_advanceMoves 85 = .ok (.invokevirtual 99, 3) := by decide +kernel
theorem dX5_advanceMoves_88 : decode cX5_advanceMoves 88 = .ok (.iinc 4 1, 3) := by decide +kernel
theorem dX5_advanceMoves_91 : decode cX5_advanceMoves 91 = .ok (.iinc 5 1, 3) := by decide +kernel
theorem dX5_advanceMoves_94 : decode cX5_advanceMoves 94 = .ok (.goto (-78), 3) := by decide +kernel
theorem dX5_advanceMoves_97 : decode cX5_advanceMoves 97 = .ok (.return_, 1) := by decide +kernel
theorem dX5_isCandidate_0 : decode cX5_isCandidate 0 = .ok (.aload_n 0, 1) := by decide +kernel
theorem dX5_isCandidate_1 : decode cX5_isCandidate 1 = .ok (.iload_n 2, 1) := by decide +kernel
theorem dX5_isCandidate_2 : decode cX5_isCandidate 2 = .ok (.invokevirtual 45, 3) := by decide +kernel
theorem dX5_isCandidate_5 : decode cX5_isCandidate 5 = .ok (.istore_n 3, 1) := by decide +kernel
theorem dX5_isCandidate_6 : decode cX5_isCandidate 6 = .ok (.aload_n 1, 1) := by decide +kernel
theorem dX5_isCandidate_7 : decode cX5_isCandidate 7 = .ok (.iload_n 2, 1) := by decide +kernel
theorem dX5_isCandidate_8 : decode cX5_isCandidate 8 = .ok (.invokevirtual 102, 3) := by decide +kernel
theorem dX5_isCandidate_11 : decode cX5_isCandidate 11 = .ok (.istore 4, 2) := by decide +kernel
theorem dX5_isCandidate_13 : decode cX5_isCandidate 13 = .ok (.iload 4, 2) := by decide +kernel
theorem dX5_isCandidate_15 : decode cX5_isCandidate 15 = .ok (.iconst (-1), 1) := by decide +kernel
theorem dX5_isCandidate_16 : decode cX5_isCandidate 16 = .ok (.if_icmp .eq 49, 3) := by decide +kernel
theorem dX5_isCandidate_19 : decode cX5_isCandidate 19 = .ok (.iload 4, 2) := by decide +kernel
theorem dX5_isCandidate_21 : decode cX5_isCandidate 21 = .ok (.iload_n 3, 1) := by decide +kernel
theorem dX5_isCandidate_22 : decode cX5_isCandidate 22 = .ok (.if_icmp .eq 43, 3) := by decide +kernel
theorem dX5_isCandidate_25 : decode cX5_isCandidate 25 = .ok (.aload_n 0, 1) := by decide +kernel
theorem dX5_isCandidate_26 : decode cX5_isCandidate 26 = .ok (.iload_n 3, 1) := by decide +kernel
theorem dX5_isCandidate_27 : decode cX5_isCandidate 27 = .ok (.invokevirtual 105, 3) := by decide +kernel
theorem dX5_isCandidate_30 : decode cX5_isCandidate 30 = .ok (.iconst 3, 1) := by decide +kernel
theorem dX5_isCandidate_31 : decode cX5_isCandidate 31 = .ok (.if_icmp .eq 34, 3) := by decide +kernel
theorem dX5_isCandidate_34 : decode cX5_isCandidate 34 = .ok (.aload_n 0, 1) := by decide +kernel
theorem dX5_isCandidate_35 : decode cX5_isCandidate 35 = .ok (.getfield 71, 3) := by decide +kernel
theorem dX5_isCandidate_38 : decode cX5_isCandidate 38 = .ok (.iconst 0, 1) := by decide +kernel
theorem dX5_isCandidate_39 : decode cX5_isCandidate 39 = .ok (.iload_n 2, 1) := by decide +kernel
theorem dX5_isCandidate_40 : decode cX5_isCandidate 40 = .ok (.invokevirtual 129, 3) := by decide +kernel
theorem dX5_isCandidate_43 : decode cX5_isCandidate 43 = .ok (.iconst (-1), 1) := by decide +kernel
theorem dX5_isCandidate_44 : decode cX5_isCandidate 44 = .ok (.if_icmp .ne 21, 3) := by decide +kernel
theorem dX5_isCandidate_47 : decode cX5_isCandidate 47 = .ok (.aload_n 0, 1) := by decide +kernel
theorem dX5_isCandidate_48 : decode cX5_isCandidate 48 = .ok (.getfield 71, 3) := by decide +kernel
theorem dX5_isCandidate_51 : decode cX5_isCandidate 51 = .ok (.iconst 2, 1) := by decide +kernel
theorem dX5_isCandidate_52 : decode cX5_isCandidate 52 = .ok (.iload 4, 2) := by decide +kernel
theorem dX5_isCandidate_54 : decode cX5_isCandidate 54 = .ok (.invokevirtual 132, 3) := by decide +kernel
theorem dX5_isCandidate_57 : decode cX5_isCandidate 57 = .ok (.iconst 2, 1) := by decide +kernel
theorem dX5_isCandidate_58 : decode cX5_isCandidate 58 = .ok (.if_icmp .ge 7, 3) := by decide +kernel
theorem dX5_isCandidate_61 : decode cX5_isCandidate 61 = .ok (.iconst 1, 1) := by decide +kernel
theorem dX5_isCandidate_62 : decode cX5_isCandidate 62 = .ok (.goto 4, 3) := by decide +kernel
theorem dX5_isCandidate_65 : decode cX5_isCandidate 65 = .ok (.iconst 0, 1) := by decide +kernel
theorem dX5_isCandidate_66 : decode cX5_isCandidate 66 = .ok (.ireturn, 1) := by decide +kernel
theorem dX5_rankOf_0 : decode cX5_rankOf 0 = .ok (.aload_n 0, 1) := by decide +kernel
theorem dX5_rankOf_1 : decode cX5_rankOf 1 = .ok (.iload_n 1, 1) := by decide +kernel
theorem dX5_rankOf_2 : decode cX5_rankOf 2 = .ok (.invokevirtual 45, 3) := by decide +kernel
theorem dX5_rankOf_5 : decode cX5_rankOf 5 = .ok (.istore_n 2, 1) := by decide +kernel
theorem dX5_rankOf_6 : decode cX5_rankOf 6 = .ok (.iconst 2, 1) := by decide +kernel
theorem dX5_rankOf_7 : decode cX5_rankOf 7 = .ok (.istore_n 3, 1) := by decide +kernel
theorem dX5_rankOf_8 : decode cX5_rankOf 8 = .ok (.iload_n 2, 1) := by decide +kernel
theorem dX5_rankOf_9 : decode cX5_rankOf 9 = .ok (.iconst (-1), 1) := by decide +kernel
theorem dX5_rankOf_10 : decode cX5_rankOf 10 = .ok (.if_icmp .ne 8, 3) := by decide +kernel
theorem dX5_rankOf_13 : decode cX5_rankOf 13 = .ok (.iconst 0, 1) := by decide +kernel
theorem dX5_rankOf_14 : decode cX5_rankOf 14 = .ok (.istore_n 3, 1) := by decide +kernel
theorem dX5_rankOf_15 : decode cX5_rankOf 15 = .ok (.goto 14, 3) := by decide +kernel
theorem dX5_rankOf_18 : decode cX5_rankOf 18 = .ok (.aload_n 0, 1) := by decide +kernel
theorem dX5_rankOf_19 : decode cX5_rankOf 19 = .ok (.iload_n 2, 1) := by decide +kernel
theorem dX5_rankOf_20 : decode cX5_rankOf 20 = .ok (.invokevirtual 105, 3) := by decide +kernel
theorem dX5_rankOf_23 : decode cX5_rankOf 23 = .ok (.iconst 2, 1) := by decide +kernel
theorem dX5_rankOf_24 : decode cX5_rankOf 24 = .ok (.if_icmp .ne 5, 3) := by decide +kernel
theorem dX5_rankOf_27 : decode cX5_rankOf 27 = .ok (.iconst 1, 1) := by decide +kernel
theorem dX5_rankOf_28 : decode cX5_rankOf 28 = .ok (.istore_n 3, 1) := by decide +kernel
theorem dX5_rankOf_29 : decode cX5_rankOf 29 = .ok (.iload_n 3, 1) := by decide +kernel
theorem dX5_rankOf_30 : decode cX5_rankOf 30 = .ok (.bipush 10, 2) := by decide +kernel
theorem dX5_rankOf_32 : decode cX5_rankOf 32 = .ok (.imul, 1) := by decide +kernel
theorem dX5_rankOf_33 : decode cX5_rankOf 33 = .ok (.iload_n 1, 1) := by decide +kernel
theorem dX5_rankOf_34 : decode cX5_rankOf 34 = .ok (.invokestatic 93, 3) := by decide +kernel
theorem dX5_rankOf_37 : decode cX5_rankOf 37 = .ok (.iadd, 1) := by decide +kernel
theorem dX5_rankOf_38 : decode cX5_rankOf 38 = .ok (.ireturn, 1) := by decide +kernel
theorem dX5_bestCandidate_0 : decode cX5_bestCandidate 0 = .ok (.iconst (-1), 1) := by decide +kernel
theorem dX5_bestCandidate_1 : decode cX5_bestCandidate 1 = .ok (.istore_n 2, 1) := by decide +kernel
theorem dX5_bestCandidate_2 : decode cX5_bestCandidate 2 = .ok (.iconst 0, 1) := by decide +kernel
theorem dX5_bestCandidate_3 : decode cX5_bestCandidate 3 = .ok (.istore_n 3, 1) := by decide +kernel
theorem dX5_bestCandidate_4 : decode cX5_bestCandidate 4 = .ok (.iconst 0, 1) := by decide +kernel
theorem dX5_bestCandidate_5 : decode cX5_bestCandidate 5 = .ok (.istore 4, 2) := by decide +kernel
theorem dX5_bestCandidate_7 : decode cX5_bestCandidate 7 = .ok (.iload 4, 2) := by decide +kernel
theorem dX5_bestCandidate_9 : decode cX5_bestCandidate 9 = .ok (.bipush 32, 2) := by decide +kernel
theorem dX5_bestCandidate_11 : decode cX5_bestCandidate 11 = .ok (.if_icmp .ge 44, 3) := by decide +kernel
theorem dX5_bestCandidate_14 : decode cX5_bestCandidate 14 = .ok (.aload_n 0, 1) := by decide +kernel
theorem dX5_bestCandidate_15 : decode cX5_bestCandidate 15 = .ok (.aload_n 1, 1) := by decide +kernel
theorem dX5_bestCandidate_16 : decode cX5_bestCandidate 16 = .ok (.iload 4, 2) := by decide +kernel
theorem dX5_bestCandidate_18 : decode cX5_bestCandidate 18 = .ok (.invokestatic 122, 3) := by decide +kernel
theorem dX5_bestCandidate_21 : decode cX5_bestCandidate 21 = .ok (.ifCond .eq 28, 3) := by decide +kernel
theorem dX5_bestCandidate_24 : decode cX5_bestCandidate 24 = .ok (.aload_n 0, 1) := by decide +kernel
theorem dX5_bestCandidate_25 : decode cX5_bestCandidate 25 = .ok (.iload 4, 2) := by decide +kernel
theorem dX5_bestCandidate_27 : decode cX5_bestCandidate 27 = .ok (.invokestatic 125, 3) := by decide +kernel
theorem dX5_bestCandidate_30 : decode cX5_bestCandidate 30 = .ok (.istore 5, 2) := by decide +kernel
theorem dX5_bestCandidate_32 : decode cX5_bestCandidate 32 = .ok (.iload_n 2, 1) := by decide +kernel
theorem dX5_bestCandidate_33 : decode cX5_bestCandidate 33 = .ok (.iconst (-1), 1) := by decide +kernel
theorem dX5_bestCandidate_34 : decode cX5_bestCandidate 34 = .ok (.if_icmp .eq 9, 3) := by decide +kernel
theorem dX5_bestCandidate_37 : decode cX5_bestCandidate 37 = .ok (.iload 5, 2) := by decide +kernel
theorem dX5_bestCandidate_39 : decode cX5_bestCandidate 39 = .ok (.iload_n 3, 1) := by decide +kernel
theorem dX5_bestCandidate_40 : decode cX5_bestCandidate 40 = .ok (.if_icmp .ge 9, 3) := by decide +kernel
theorem dX5_bestCandidate_43 : decode cX5_bestCandidate 43 = .ok (.iload 4, 2) := by decide +kernel
theorem dX5_bestCandidate_45 : decode cX5_bestCandidate 45 = .ok (.istore_n 2, 1) := by decide +kernel
theorem dX5_bestCandidate_46 : decode cX5_bestCandidate 46 = .ok (.iload 5, 2) := by decide +kernel
theorem dX5_bestCandidate_48 : decode cX5_bestCandidate 48 = .ok (.istore_n 3, 1) := by decide +kernel
theorem dX5_bestCandidate_49 : decode cX5_bestCandidate 49 = .ok (.iinc 4 1, 3) := by decide +kernel
theorem dX5_bestCandidate_52 : decode cX5_bestCandidate 52 = .ok (.goto (-45), 3) := by decide +kernel
theorem dX5_bestCandidate_55 : decode cX5_bestCandidate 55 = .ok (.iload_n 2, 1) := by decide +kernel
theorem dX5_bestCandidate_56 : decode cX5_bestCandidate 56 = .ok (.ireturn, 1) := by decide +kernel
theorem dX5_beginMoves_0 : decode cX5_beginMoves 0 = .ok (.aload_n 0, 1) := by decide +kernel
theorem dX5_beginMoves_1 : decode cX5_beginMoves 1 = .ok (.getfield 111, 3) := by decide +kernel
theorem dX5_beginMoves_4 : decode cX5_beginMoves 4 = .ok (.iconst 1, 1) := by decide +kernel
theorem dX5_beginMoves_5 : decode cX5_beginMoves 5 = .ok (.iaload, 1) := by decide +kernel
theorem dX5_beginMoves_6 : decode cX5_beginMoves 6 = .ok (.istore_n 2, 1) := by decide +kernel
theorem dX5_beginMoves_7 : decode cX5_beginMoves 7 = .ok (.aload_n 0, 1) := by decide +kernel
theorem dX5_beginMoves_8 : decode cX5_beginMoves 8 = .ok (.getfield 71, 3) := by decide +kernel
theorem dX5_beginMoves_11 : decode cX5_beginMoves 11 = .ok (.getfield 75, 3) := by decide +kernel
theorem dX5_beginMoves_14 : decode cX5_beginMoves 14 = .ok (.istore_n 3, 1) := by decide +kernel
theorem dX5_beginMoves_15 : decode cX5_beginMoves 15 = .ok (.iload_n 3, 1) := by decide +kernel
theorem dX5_beginMoves_16 : decode cX5_beginMoves 16 = .ok (.iload_n 2, 1) := by decide +kernel
theorem dX5_beginMoves_17 : decode cX5_beginMoves 17 = .ok (.if_icmp .ge 68, 3) := by decide +kernel
theorem dX5_beginMoves_20 : decode cX5_beginMoves 20 = .ok (.aload_n 0, 1) := by decide +kernel
theorem dX5_beginMoves_21 : decode cX5_beginMoves 21 = .ok (.aload_n 1, 1) := by decide +kernel
theorem dX5_beginMoves_22 : decode cX5_beginMoves 22 = .ok (.invokestatic 114, 3) := by decide +kernel
theorem dX5_beginMoves_25 : decode cX5_beginMoves 25 = .ok (.istore 4, 2) := by decide +kernel
theorem dX5_beginMoves_27 : decode cX5_beginMoves 27 = .ok (.iload 4, 2) := by decide +kernel
theorem dX5_beginMoves_29 : decode cX5_beginMoves 29 = .ok (.iconst (-1), 1) := by decide +kernel
theorem dX5_beginMoves_30 : decode cX5_beginMoves 30 = .ok (.if_icmp .ne 4, 3) := by decide +kernel
theorem dX5_beginMoves_33 : decode cX5_beginMoves 33 = .ok (.return_, 1) := by decide +kernel
theorem dX5_beginMoves_34 : decode cX5_beginMoves 34 = .ok (.aload_n 1, 1) := by decide +kernel
theorem dX5_beginMoves_35 : decode cX5_beginMoves 35 = .ok (.iload 4, 2) := by decide +kernel
theorem dX5_beginMoves_37 : decode cX5_beginMoves 37 = .ok (.invokevirtual 102, 3) := by decide +kernel
theorem dX5_beginMoves_40 : decode cX5_beginMoves 40 = .ok (.istore 5, 2) := by decide +kernel
theorem dX5_beginMoves_42 : decode cX5_beginMoves 42 = .ok (.aload_n 0, 1) := by decide +kernel
theorem dX5_beginMoves_43 : decode cX5_beginMoves 43 = .ok (.getfield 71, 3) := by decide +kernel
theorem dX5_beginMoves_46 : decode cX5_beginMoves 46 = .ok (.iload 4, 2) := by decide +kernel
theorem dX5_beginMoves_48 : decode cX5_beginMoves 48 = .ok (.aload_n 0, 1) := by decide +kernel
theorem dX5_beginMoves_49 : decode cX5_beginMoves 49 = .ok (.iload 4, 2) := by decide +kernel
theorem dX5_beginMoves_51 : decode cX5_beginMoves 51 = .ok (.invokevirtual 45, 3) := by decide +kernel
theorem dX5_beginMoves_54 : decode cX5_beginMoves 54 = .ok (.iload 5, 2) := by decide +kernel
theorem dX5_beginMoves_56 : decode cX5_beginMoves 56 = .ok (.iconst 0, 1) := by decide +kernel
theorem dX5_beginMoves_57 : decode cX5_beginMoves 57 = .ok (.invokevirtual 118, 3) := by decide +kernel
theorem dX5_beginMoves_60 : decode cX5_beginMoves 60 = .ok (.aload_n 0, 1) := by decide +kernel
theorem dX5_beginMoves_61 : decode cX5_beginMoves 61 = .ok (.getfield 9, 3) := by decide +kernel
theorem dX5_beginMoves_64 : decode cX5_beginMoves 64 = .ok (.iconst 1, 1) := by decide +kernel
theorem dX5_beginMoves_65 : decode cX5_beginMoves 65 = .ok (.dup2, 1) := by decide +kernel
theorem dX5_beginMoves_66 : decode cX5_beginMoves 66 = .ok (.iaload, 1) := by decide +kernel
theorem dX5_beginMoves_67 : decode cX5_beginMoves 67 = .ok (.iconst 1, 1) := by decide +kernel
theorem dX5_beginMoves_68 : decode cX5_beginMoves 68 = .ok (.iadd, 1) := by decide +kernel
theorem dX5_beginMoves_69 : decode cX5_beginMoves 69 = .ok (.iastore, 1) := by decide +kernel
theorem dX5_beginMoves_70 : decode cX5_beginMoves 70 = .ok (.aload_n 0, 1) := by decide +kernel
theorem dX5_beginMoves_71 : decode cX5_beginMoves 71 = .ok (.iconst 0, 1) := by decide +kernel
theorem dX5_beginMoves_72 : decode cX5_beginMoves 72 = .ok (.iload 4, 2) := by decide +kernel
theorem dX5_beginMoves_74 : decode cX5_beginMoves 74 = .ok (.iload 5, 2) := by decide +kernel
theorem dX5_beginMoves_76 : decode cX5_beginMoves 76 = .ok (.invokevirtual 67, 3) := by decide +kernel
theorem dX5_beginMoves_79 : decode cX5_beginMoves 79 = .ok (.iinc 3 1, 3) := by decide +kernel
theorem dX5_beginMoves_82 : decode cX5_beginMoves 82 = .ok (.goto (-67), 3) := by decide +kernel
theorem dX5_beginMoves_85 : decode cX5_beginMoves 85 = .ok (.return_, 1) := by decide +kernel
theorem dX5_dismissEmptyNodes_0 : decode cX5_dismissEmptyNodes 0 = .ok (.iconst 0, 1) := by decide +kernel
theorem dX5_dismissEmptyNodes_1 : decode cX5_dismissEmptyNodes 1 = .ok (.istore_n 1, 1) := by decide +kernel
theorem dX5_dismissEmptyNodes_2 : decode cX5_dismissEmptyNodes 2 = .ok (.iload_n 1, 1) := by decide +kernel
theorem dX5_dismissEmptyNodes_3 : decode cX5_dismissEmptyNodes 3 = .ok (.bipush 8, 2) := by decide +kernel
theorem dX5_dismissEmptyNodes_5 : decode cX5_dismissEmptyNodes 5 = .ok (.if_icmp .ge 38, 3) := by decide +kernel
theorem dX5_dismissEmptyNodes_8 : decode cX5_dismissEmptyNodes 8 = .ok (.aload_n 0, 1) := by decide +kernel
theorem dX5_dismissEmptyNodes_9 : decode cX5_dismissEmptyNodes 9 = .ok (.iload_n 1, 1) := by decide +kernel
theorem dX5_dismissEmptyNodes_10 : decode cX5_dismissEmptyNodes 10 = .ok (.invokevirtual 105, 3) := by decide +kernel
theorem dX5_dismissEmptyNodes_13 : decode cX5_dismissEmptyNodes 13 = .ok (.iconst 2, 1) := by decide +kernel
theorem dX5_dismissEmptyNodes_14 : decode cX5_dismissEmptyNodes 14 = .ok (.if_icmp .ne 23, 3) := by decide +kernel
theorem dX5_dismissEmptyNodes_17 : decode cX5_dismissEmptyNodes 17 = .ok (.aload_n 0, 1) := by decide +kernel
theorem dX5_dismissEmptyNodes_18 : decode cX5_dismissEmptyNodes 18 = .ok (.iload_n 1, 1) := by decide +kernel
theorem dX5_dismissEmptyNodes_19 : decode cX5_dismissEmptyNodes 19 = .ok (.invokevirtual 135, 3) := by decide +kernel
theorem dX5_dismissEmptyNodes_22 : decode cX5_dismissEmptyNodes 22 = .ok (.ifCond .ne 15, 3) := by decide +kernel
theorem dX5_dismissEmptyNodes_25 : decode cX5_dismissEmptyNodes 25 = .ok (.aload_n 0, 1) := by decide +kernel
theorem dX5_dismissEmptyNodes_26 : decode cX5_dismissEmptyNodes 26 = .ok (.iload_n 1, 1) := by decide +kernel
theorem dX5_dismissEmptyNodes_27 : decode cX5_dismissEmptyNodes 27 = .ok (.invokevirtual 138, 3) := by decide +kernel
theorem dX5_dismissEmptyNodes_30 : decode cX5_dismissEmptyNodes 30 = .ok (.aload_n 0, 1) := by decide +kernel
theorem dX5_dismissEmptyNodes_31 : decode cX5_dismissEmptyNodes 31 = .ok (.iconst 4, 1) := by decide +kernel
theorem dX5_dismissEmptyNodes_32 : decode cX5_dismissEmptyNodes 32 = .ok (.iconst (-1), 1) := by decide +kernel
theorem dX5_dismissEmptyNodes_33 : decode cX5_dismissEmptyNodes 33 = .ok (.iload_n 1, 1) := by decide +kernel
theorem dX5_dismissEmptyNodes_34 : decode cX5_dismissEmptyNodes 34 = .ok (.invokevirtual 67, 3) := by decide +kernel
theorem dX5_dismissEmptyNodes_37 : decode cX5_dismissEmptyNodes 37 = .ok (.iinc 1 1, 3) := by decide +kernel
theorem dX5_dismissEmptyNodes_40 : decode cX5_dismissEmptyNodes 40 = .ok (.goto (-38), 3) := by decide +kernel
theorem dX5_dismissEmptyNodes_43 : decode cX5_dismissEmptyNodes 43 = .ok (.return_, 1) := by decide +kernel
theorem dX5_makeTicks_0 : decode cX5_makeTicks 0 = .ok (.iconst 0, 1) := by decide +kernel
theorem dX5_makeTicks_1 : decode cX5_makeTicks 1 = .ok (.istore_n 3, 1) := by decide +kernel
theorem dX5_makeTicks_2 : decode cX5_makeTicks 2 = .ok (.iload_n 3, 1) := by decide +kernel
theorem dX5_makeTicks_3 : decode cX5_makeTicks 3 = .ok (.iload_n 2, 1) := by decide +kernel
theorem dX5_makeTicks_4 : decode cX5_makeTicks 4 = .ok (.if_icmp .ge 50, 3) := by decide +kernel
theorem dX5_makeTicks_7 : decode cX5_makeTicks 7 = .ok (.aload_n 0, 1) := by decide +kernel
theorem dX5_makeTicks_8 : decode cX5_makeTicks 8 = .ok (.getfield 9, 3) := by decide +kernel
theorem dX5_makeTicks_11 : decode cX5_makeTicks 11 = .ok (.iconst 0, 1) := by decide +kernel
theorem dX5_makeTicks_12 : decode cX5_makeTicks 12 = .ok (.dup2, 1) := by decide +kernel
theorem dX5_makeTicks_13 : decode cX5_makeTicks 13 = .ok (.iaload, 1) := by decide +kernel
theorem dX5_makeTicks_14 : decode cX5_makeTicks 14 = .ok (.iconst 1, 1) := by decide +kernel
theorem dX5_makeTicks_15 : decode cX5_makeTicks 15 = .ok (.iadd, 1) := by decide +kernel
theorem dX5_makeTicks_16 : decode cX5_makeTicks 16 = .ok (.iastore, 1) := by decide +kernel
theorem dX5_makeTicks_17 : decode cX5_makeTicks 17 = .ok (.aload_n 0, 1) := by decide +kernel
theorem dX5_makeTicks_18 : decode cX5_makeTicks 18 = .ok (.invokestatic 15, 3) := by decide +kernel
theorem dX5_makeTicks_21 : decode cX5_makeTicks 21 = .ok (.aload_n 0, 1) := by decide +kernel
theorem dX5_makeTicks_22 : decode cX5_makeTicks 22 = .ok (.aload_n 1, 1) := by decide +kernel
theorem dX5_makeTicks_23 : decode cX5_makeTicks 23 = .ok (.invokestatic 21, 3) := by decide +kernel
theorem dX5_makeTicks_26 : decode cX5_makeTicks 26 = .ok (.aload_n 0, 1) := by decide +kernel
theorem dX5_makeTicks_27 : decode cX5_makeTicks 27 = .ok (.aload_n 1, 1) := by decide +kernel
theorem dX5_makeTicks_28 : decode cX5_makeTicks 28 = .ok (.invokestatic 25, 3) := by decide +kernel
theorem dX5_makeTicks_31 : decode cX5_makeTicks 31 = .ok (.aload_n 0, 1) := by decide +kernel
theorem dX5_makeTicks_32 : decode cX5_makeTicks 32 = .ok (.invokestatic 28, 3) := by decide +kernel
theorem dX5_makeTicks_35 : decode cX5_makeTicks 35 = .ok (.aload_n 0, 1) := by decide +kernel
theorem dX5_makeTicks_36 : decode cX5_makeTicks 36 = .ok (.getfield 9, 3) := by decide +kernel
theorem dX5_makeTicks_39 : decode cX5_makeTicks 39 = .ok (.iconst 5, 1) := by decide +kernel
theorem dX5_makeTicks_40 : decode cX5_makeTicks 40 = .ok (.dup2, 1) := by decide +kernel
theorem dX5_makeTicks_41 : decode cX5_makeTicks 41 = .ok (.iaload, 1) := by decide +kernel
theorem dX5_makeTicks_42 : decode cX5_makeTicks 42 = .ok (.aload_n 0, 1) := by decide +kernel
theorem dX5_makeTicks_43 : decode cX5_makeTicks 43 = .ok (.invokevirtual 31, 3) := by decide +kernel
theorem dX5_makeTicks_46 : decode cX5_makeTicks 46 = .ok (.iadd, 1) := by decide +kernel
theorem dX5_makeTicks_47 : decode cX5_makeTicks 47 = .ok (.iastore, 1) := by decide +kernel
theorem dX5_makeTicks_48 : decode cX5_makeTicks 48 = .ok (.iinc 3 1, 3) := by decide +kernel
theorem dX5_makeTicks_51 : decode cX5_makeTicks 51 = .ok (.goto (-49), 3) := by decide +kernel
theorem dX5_makeTicks_54 : decode cX5_makeTicks 54 = .ok (.return_, 1) := by decide +kernel
theorem dX5_ticksUntilNoneIsMisplaced_0 : decode cX5_ticksUntilNoneIsMisplaced 0 = .ok (.aload_n 1, 1) := by decide +kernel
theorem dX5_ticksUntilNoneIsMisplaced_1 : decode cX5_ticksUntilNoneIsMisplaced 1 = .ok (.aload_n 0, 1) := by decide +kernel
theorem dX5_ticksUntilNoneIsMisplaced_2 : decode cX5_ticksUntilNoneIsMisplaced 2 = .ok (.invokevirtual 35, 3) := by decide +kernel
theorem dX5_ticksUntilNoneIsMisplaced_5 : decode cX5_ticksUntilNoneIsMisplaced 5 = .ok (.ifCond .ne 5, 3) := by decide +kernel
theorem dX5_ticksUntilNoneIsMisplaced_8 : decode cX5_ticksUntilNoneIsMisplaced 8 = .ok (.iconst 0, 1) := by decide +kernel
theorem dX5_ticksUntilNoneIsMisplaced_9 : decode cX5_ticksUntilNoneIsMisplaced 9 = .ok (.ireturn, 1) := by decide +kernel
theorem dX5_ticksUntilNoneIsMisplaced_10 : decode cX5_ticksUntilNoneIsMisplaced 10 = .ok (.iconst 1, 1) := by decide +kernel
theorem dX5_ticksUntilNoneIsMisplaced_11 : decode cX5_ticksUntilNoneIsMisplaced 11 = .ok (.istore_n 2, 1) := by decide +kernel
theorem dX5_ticksUntilNoneIsMisplaced_12 : decode cX5_ticksUntilNoneIsMisplaced 12 = .ok (.iload_n 2, 1) := by decide +kernel
theorem dX5_ticksUntilNoneIsMisplaced_13 : decode cX5_ticksUntilNoneIsMisplaced 13 = .ok (.sipush 300, 3) := by decide +kernel
theorem dX5_ticksUntilNoneIsMisplaced_16 : decode cX5_ticksUntilNoneIsMisplaced 16 = .ok (.if_icmp .gt 25, 3) := by decide +kernel
theorem dX5_ticksUntilNoneIsMisplaced_19 : decode cX5_ticksUntilNoneIsMisplaced 19 = .ok (.aload_n 0, 1) := by decide +kernel
theorem dX5_ticksUntilNoneIsMisplaced_20 : decode cX5_ticksUntilNoneIsMisplaced 20 = .ok (.aload_n 1, 1) := by decide +kernel
theorem dX5_ticksUntilNoneIsMisplaced_21 : decode cX5_ticksUntilNoneIsMisplaced 21 = .ok (.iconst 1, 1) := by decide +kernel
theorem dX5_ticksUntilNoneIsMisplaced_22 : decode cX5_ticksUntilNoneIsMisplaced 22 = .ok (.invokestatic 41, 3) := by decide +kernel
theorem dX5_ticksUntilNoneIsMisplaced_25 : decode cX5_ticksUntilNoneIsMisplaced 25 = .ok (.aload_n 1, 1) := by decide +kernel
theorem dX5_ticksUntilNoneIsMisplaced_26 : decode cX5_ticksUntilNoneIsMisplaced 26 = .ok (.aload_n 0, 1) := by decide +kernel
theorem dX5_ticksUntilNoneIsMisplaced_27 : decode cX5_ticksUntilNoneIsMisplaced 27 = .ok (.invokevirtual 35, 3) := by decide +kernel
theorem dX5_ticksUntilNoneIsMisplaced_30 : decode cX5_ticksUntilNoneIsMisplaced 30 = .ok (.ifCond .ne 5, 3) := by decide +kernel
theorem dX5_ticksUntilNoneIsMisplaced_33 : decode cX5_ticksUntilNoneIsMisplaced 33 = .ok (.iload_n 2, 1) := by decide +kernel
theorem dX5_ticksUntilNoneIsMisplaced_34 : decode cX5_ticksUntilNoneIsMisplaced 34 = .ok (.ireturn, 1) := by decide +kernel
theorem dX5_ticksUntilNoneIsMisplaced_35 : decode cX5_ticksUntilNoneIsMisplaced 35 = .ok (.iinc 2 1, 3) := by decide +kernel
theorem dX5_ticksUntilNoneIsMisplaced_38 : decode cX5_ticksUntilNoneIsMisplaced 38 = .ok (.goto (-26), 3) := by decide +kernel
theorem dX5_ticksUntilNoneIsMisplaced_41 : decode cX5_ticksUntilNoneIsMisplaced 41 = .ok (.iconst (-1), 1) := by decide +kernel
theorem dX5_ticksUntilNoneIsMisplaced_42 : decode cX5_ticksUntilNoneIsMisplaced 42 = .ok (.ireturn, 1) := by decide +kernel
theorem dX6_codeOfPoint_0 : decode cX6_codeOfPoint 0 = .ok (.bipush 64, 2) := by decide +kernel
theorem dX6_codeOfPoint_2 : decode cX6_codeOfPoint 2 = .ok (.iload_n 0, 1) := by decide +kernel
theorem dX6_codeOfPoint_3 : decode cX6_codeOfPoint 3 = .ok (.imul, 1) := by decide +kernel
theorem dX6_codeOfPoint_4 : decode cX6_codeOfPoint 4 = .ok (.iload_n 1, 1) := by decide +kernel
theorem dX6_codeOfPoint_5 : decode cX6_codeOfPoint 5 = .ok (.iadd, 1) := by decide +kernel
theorem dX6_codeOfPoint_6 : decode cX6_codeOfPoint 6 = .ok (.invokestatic 224, 3) := by decide +kernel
theorem dX6_codeOfPoint_9 : decode cX6_codeOfPoint 9 = .ok (.bipush 8, 2) := by decide +kernel
theorem dX6_codeOfPoint_11 : decode cX6_codeOfPoint 11 = .ok (.ishl, 1) := by decide +kernel
theorem dX6_codeOfPoint_12 : decode cX6_codeOfPoint 12 = .ok (.iload_n 0, 1) := by decide +kernel
theorem dX6_codeOfPoint_13 : decode cX6_codeOfPoint 13 = .ok (.iconst 5, 1) := by decide +kernel
theorem dX6_codeOfPoint_14 : decode cX6_codeOfPoint 14 = .ok (.ishl, 1) := by decide +kernel
theorem dX6_codeOfPoint_15 : decode cX6_codeOfPoint 15 = .ok (.ior, 1) := by decide +kernel
theorem dX6_codeOfPoint_16 : decode cX6_codeOfPoint 16 = .ok (.iload_n 1, 1) := by decide +kernel
theorem dX6_codeOfPoint_17 : decode cX6_codeOfPoint 17 = .ok (.ior, 1) := by decide +kernel
theorem dX6_codeOfPoint_18 : decode cX6_codeOfPoint 18 = .ok (.ireturn, 1) := by decide +kernel
theorem dX6_allPointsInOrder_0 : decode cX6_allPointsInOrder 0 = .ok (.sipush 160, 3) := by decide +kernel
theorem dX6_allPointsInOrder_3 : decode cX6_allPointsInOrder 3 = .ok (.newarray .int, 2) := by decide +kernel
theorem dX6_allPointsInOrder_5 : decode cX6_allPointsInOrder 5 = .ok (.astore_n 0, 1) := by decide +kernel
theorem dX6_allPointsInOrder_6 : decode cX6_allPointsInOrder 6 = .ok (.iconst 0, 1) := by decide +kernel
theorem dX6_allPointsInOrder_7 : decode cX6_allPointsInOrder 7 = .ok (.istore_n 1, 1) := by decide +kernel
theorem dX6_allPointsInOrder_8 : decode cX6_allPointsInOrder 8 = .ok (.iload_n 1, 1) := by decide +kernel
theorem dX6_allPointsInOrder_9 : decode cX6_allPointsInOrder 9 = .ok (.sipush 160, 3) := by decide +kernel
theorem dX6_allPointsInOrder_12 : decode cX6_allPointsInOrder 12 = .ok (.if_icmp .ge 54, 3) := by decide +kernel
theorem dX6_allPointsInOrder_15 : decode cX6_allPointsInOrder 15 = .ok (.iload_n 1, 1) := by decide +kernel
theorem dX6_allPointsInOrder_16 : decode cX6_allPointsInOrder 16 = .ok (.bipush 20, 2) := by decide +kernel
theorem dX6_allPointsInOrder_18 : decode cX6_allPointsInOrder 18 = .ok (.idiv, 1) := by decide +kernel
theorem dX6_allPointsInOrder_19 : decode cX6_allPointsInOrder 19 = .ok (.iload_n 1, 1) := by decide +kernel
theorem dX6_allPointsInOrder_20 : decode cX6_allPointsInOrder 20 = .ok (.bipush 20, 2) := by decide +kernel
theorem dX6_allPointsInOrder_22 : decode cX6_allPointsInOrder 22 = .ok (.irem, 1) := by decide +kernel
theorem dX6_allPointsInOrder_23 : decode cX6_allPointsInOrder 23 = .ok (.invokestatic 362, 3) := by decide +kernel
theorem dX6_allPointsInOrder_26 : decode cX6_allPointsInOrder 26 = .ok (.istore_n 2, 1) := by decide +kernel
theorem dX6_allPointsInOrder_27 : decode cX6_allPointsInOrder 27 = .ok (.iload_n 1, 1) := by decide +kernel
theorem dX6_allPointsInOrder_28 : decode cX6_allPointsInOrder 28 = .ok (.istore_n 3, 1) := by decide +kernel
theorem dX6_allPointsInOrder_29 : decode cX6_allPointsInOrder 29 = .ok (.iload_n 3, 1) := by decide +kernel
theorem dX6_allPointsInOrder_30 : decode cX6_allPointsInOrder 30 = .ok (.ifCond .le 26, 3) := by decide +kernel
theorem dX6_allPointsInOrder_33 : decode cX6_allPointsInOrder 33 = .ok (.aload_n 0, 1) := by decide +kernel
theorem dX6_allPointsInOrder_34 : decode cX6_allPointsInOrder 34 = .ok (.iload_n 3, 1) := by decide +kernel
theorem dX6_allPointsInOrder_35 : decode cX6_allPointsInOrder 35 = .ok (.iconst 1, 1) := by decide +kernel
theorem dX6_allPointsInOrder_36 : decode cX6_allPointsInOrder 36 = .ok (.isub, 1) := by decide +kernel
theorem dX6_allPointsInOrder_37 : decode cX6_allPointsInOrder 37 = .ok (.iaload, 1) := by decide +kernel
theorem dX6_allPointsInOrder_38 : decode cX6_allPointsInOrder 38 = .ok (.iload_n 2, 1) := by decide +kernel
theorem dX6_allPointsInOrder_39 : decode cX6_allPointsInOrder 39 = .ok (.if_icmp .le 17, 3) := by decide +kernel
theorem dX6_allPointsInOrder_42 : decode cX6_allPointsInOrder 42 = .ok (.aload_n 0, 1) := by decide +kernel
theorem dX6_allPointsInOrder_43 : decode cX6_allPointsInOrder 43 = .ok (.iload_n 3, 1) := by decide +kernel
theorem dX6_allPointsInOrder_44 : decode cX6_allPointsInOrder 44 = .ok (.aload_n 0, 1) := by decide +kernel
theorem dX6_allPointsInOrder_45 : decode cX6_allPointsInOrder 45 = .ok (.iload_n 3, 1) := by decide +kernel
theorem dX6_allPointsInOrder_46 : decode cX6_allPointsInOrder 46 = .ok (.iconst 1, 1) := by decide +kernel
theorem dX6_allPointsInOrder_47 : decode cX6_allPointsInOrder 47 = .ok (.isub, 1) := by decide +kernel
theorem dX6_allPointsInOrder_48 : decode cX6_allPointsInOrder 48 = .ok (.iaload, 1) := by decide +kernel
theorem dX6_allPointsInOrder_49 : decode cX6_allPointsInOrder 49 = .ok (.iastore, 1) := by decide +kernel
theorem dX6_allPointsInOrder_50 : decode cX6_allPointsInOrder 50 = .ok (.iinc 3 (-1), 3) := by decide +kernel
theorem dX6_allPointsInOrder_53 : decode cX6_allPointsInOrder 53 = .ok (.goto (-24), 3) := by decide +kernel
theorem dX6_allPointsInOrder_56 : decode cX6_allPointsInOrder 56 = .ok (.aload_n 0, 1) := by decide +kernel
theorem dX6_allPointsInOrder_57 : decode cX6_allPointsInOrder 57 = .ok (.iload_n 3, 1) := by decide +kernel
theorem dX6_allPointsInOrder_58 : decode cX6_allPointsInOrder 58 = .ok (.iload_n 2, 1) := by decide +kernel
theorem dX6_allPointsInOrder_59 : decode cX6_allPointsInOrder 59 = .ok (.iastore, 1) := by decide +kernel
theorem dX6_allPointsInOrder_60 : decode cX6_allPointsInOrder 60 = .ok (.iinc 1 1, 3) := by decide +kernel
theorem dX6_allPointsInOrder_63 : decode cX6_allPointsInOrder 63 = .ok (.goto (-55), 3) := by decide +kernel
theorem dX6_allPointsInOrder_66 : decode cX6_allPointsInOrder 66 = .ok (.aload_n 0, 1) := by decide +kernel
theorem dX6_allPointsInOrder_67 : decode cX6_allPointsInOrder 67 = .ok (.areturn, 1) := by decide +kernel
theorem dX6_init_0 : decode cX6_init 0 = .ok (.aload_n 0, 1) := by decide +kernel
theorem dX6_init_1 : decode cX6_init 1 = .ok (.invokespecial 3, 3) := by decide +kernel
theorem dX6_init_4 : decode cX6_init 4 = .ok (.aload_n 0, 1) := by decide +kernel
theorem dX6_init_5 : decode cX6_init 5 = .ok (.new 9, 3) := by decide +kernel
theorem dX6_init_8 : decode cX6_init 8 = .ok (.dup, 1) := by decide +kernel
theorem dX6_init_9 : decode cX6_init 9 = .ok (.invokespecial 11, 3) := by decide +kernel
theorem dX6_init_12 : decode cX6_init 12 = .ok (.putfield 12, 3) := by decide +kernel
theorem dX6_init_15 : decode cX6_init 15 = .ok (.aload_n 0, 1) := by decide +kernel
theorem dX6_init_16 : decode cX6_init 16 = .ok (.new 9, 3) := by decide +kernel
theorem dX6_init_19 : decode cX6_init 19 = .ok (.dup, 1) := by decide +kernel
theorem dX6_init_20 : decode cX6_init 20 = .ok (.invokespecial 11, 3) := by decide +kernel
theorem dX6_init_23 : decode cX6_init 23 = .ok (.putfield 16, 3) := by decide +kernel
theorem dX6_init_26 : decode cX6_init 26 = .ok (.aload_n 0, 1) := by decide +kernel
theorem dX6_init_27 : decode cX6_init 27 = .ok (.new 9, 3) := by decide +kernel
theorem dX6_init_30 : decode cX6_init 30 = .ok (.dup, 1) := by decide +kernel
theorem dX6_init_31 : decode cX6_init 31 = .ok (.invokespecial 11, 3) := by decide +kernel
theorem dX6_init_34 : decode cX6_init 34 = .ok (.putfield 19, 3) := by decide +kernel
theorem dX6_init_37 : decode cX6_init 37 = .ok (.aload_n 0, 1) := by decide +kernel
theorem dX6_init_38 : decode cX6_init 38 = .ok (.new 22, 3) := by decide +kernel
theorem dX6_init_41 : decode cX6_init 41 = .ok (.dup, 1) := by decide +kernel
theorem dX6_init_42 : decode cX6_init 42 = .ok (.invokespecial 24, 3) := by decide +kernel
theorem dX6_init_45 : decode cX6_init 45 = .ok (.putfield 25, 3) := by decide +kernel
theorem dX6_init_48 : decode cX6_init 48 = .ok (.aload_n 0, 1) := by decide +kernel
theorem dX6_init_49 : decode cX6_init 49 = .ok (.new 29, 3) := by decide +kernel
theorem dX6_init_52 : decode cX6_init 52 = .ok (.dup, 1) := by decide +kernel
theorem dX6_init_53 : decode cX6_init 53 = .ok (.invokespecial 31, 3) := by decide +kernel
theorem dX6_init_56 : decode cX6_init 56 = .ok (.putfield 32, 3) := by decide +kernel
theorem dX6_init_59 : decode cX6_init 59 = .ok (.aload_n 0, 1) := by decide +kernel
theorem dX6_init_60 : decode cX6_init 60 = .ok (.iconst 1, 1) := by decide +kernel
theorem dX6_init_61 : decode cX6_init 61 = .ok (.putfield 36, 3) := by decide +kernel
theorem dX6_init_64 : decode cX6_init 64 = .ok (.aload_n 0, 1) := by decide +kernel
theorem dX6_init_65 : decode cX6_init 65 = .ok (.iconst 0, 1) := by decide +kernel
theorem dX6_init_66 : decode cX6_init 66 = .ok (.putfield 40, 3) := by decide +kernel
theorem dX6_init_69 : decode cX6_init 69 = .ok (.invokestatic 43, 3) := by decide +kernel
theorem dX6_init_72 : decode cX6_init 72 = .ok (.astore_n 1, 1) := by decide +kernel
theorem dX6_init_73 : decode cX6_init 73 = .ok (.aload_n 0, 1) := by decide +kernel
theorem dX6_init_74 : decode cX6_init 74 = .ok (.new 47, 3) := by decide +kernel
theorem dX6_init_77 : decode cX6_init 77 = .ok (.dup, 1) := by decide +kernel
theorem dX6_init_78 : decode cX6_init 78 = .ok (.aload_n 1, 1) := by decide +kernel
theorem dX6_init_79 : decode cX6_init 79 = .ok (.invokespecial 49, 3) := by decide +kernel
theorem dX6_init_82 : decode cX6_init 82 = .ok (.putfield 52, 3) := by decide +kernel
theorem dX6_init_85 : decode cX6_init 85 = .ok (.aload_n 0, 1) := by decide +kernel
theorem dX6_init_86 : decode cX6_init 86 = .ok (.new 47, 3) := by decide +kernel
theorem dX6_init_89 : decode cX6_init 89 = .ok (.dup, 1) := by decide +kernel
theorem dX6_init_90 : decode cX6_init 90 = .ok (.aload_n 1, 1) := by decide +kernel
theorem dX6_init_91 : decode cX6_init 91 = .ok (.invokespecial 49, 3) := by decide +kernel
theorem dX6_init_94 : decode cX6_init 94 = .ok (.putfield 56, 3) := by decide +kernel
theorem dX6_init_97 : decode cX6_init 97 = .ok (.return_, 1) := by decide +kernel
theorem dX6_beginChange_0 : decode cX6_beginChange 0 = .ok (.aload_n 0, 1) := by decide +kernel
theorem dX6_beginChange_1 : decode cX6_beginChange 1 = .ok (.getfield 25, 3) := by decide +kernel
theorem dX6_beginChange_4 : decode cX6_beginChange 4 = .ok (.aload_n 0, 1) := by decide +kernel
theorem dX6_beginChange_5 : decode cX6_beginChange 5 = .ok (.getfield 12, 3) := by decide +kernel
theorem dX6_beginChange_8 : decode cX6_beginChange 8 = .ok (.invokevirtual 354, 3) := by decide +kernel
theorem dX6_beginChange_11 : decode cX6_beginChange 11 = .ok (.aload_n 0, 1) := by decide +kernel
theorem dX6_beginChange_12 : decode cX6_beginChange 12 = .ok (.iconst 1, 1) := by decide +kernel
theorem dX6_beginChange_13 : decode cX6_beginChange 13 = .ok (.putfield 36, 3) := by decide +kernel
theorem dX6_beginChange_16 : decode cX6_beginChange 16 = .ok (.return_, 1) := by decide +kernel
theorem dX6_addNode_0 : decode cX6_addNode 0 = .ok (.iload_n 1, 1) := by decide +kernel
theorem dX6_addNode_1 : decode cX6_addNode 1 = .ok (.invokestatic 59, 3) := by decide +kernel
theorem dX6_addNode_4 : decode cX6_addNode 4 = .ok (.ifCond .ne 13, 3) := by decide +kernel
theorem dX6_addNode_7 : decode cX6_addNode 7 = .ok (.new 63, 3) := by decide +kernel
theorem dX6_addNode_10 : decode cX6_addNode 10 = .ok (.dup, 1) := by decide +kernel
theorem dX6_addNode_11 : decode cX6_addNode 11 = .ok (.ldc 65, 2) := by decide +kernel
theorem dX6_addNode_13 : decode cX6_addNode 13 = .ok (.invokespecial 67, 3) := by decide +kernel
theorem dX6_addNode_16 : decode cX6_addNode 16 = .ok (.athrow, 1) := by decide +kernel
theorem dX6_addNode_17 : decode cX6_addNode 17 = .ok (.aload_n 0, 1) := by decide +kernel
theorem dX6_addNode_18 : decode cX6_addNode 18 = .ok (.getfield 12, 3) := by decide +kernel
theorem dX6_addNode_21 : decode cX6_addNode 21 = .ok (.invokevirtual 70, 3) := by decide +kernel
theorem dX6_addNode_24 : decode cX6_addNode 24 = .ok (.istore_n 2, 1) := by decide +kernel
theorem dX6_addNode_25 : decode cX6_addNode 25 = .ok (.iload_n 2, 1) := by decide +kernel
theorem dX6_addNode_26 : decode cX6_addNode 26 = .ok (.iconst (-1), 1) := by decide +kernel
theorem dX6_addNode_27 : decode cX6_addNode 27 = .ok (.if_icmp .ne 13, 3) := by decide +kernel
theorem dX6_addNode_30 : decode cX6_addNode 30 = .ok (.new 74, 3) := by decide +kernel
theorem dX6_addNode_33 : decode cX6_addNode 33 = .ok (.dup, 1) := by decide +kernel
theorem dX6_addNode_34 : decode cX6_addNode 34 = .ok (.ldc 76, 2) := by decide +kernel
theorem dX6_addNode_36 : decode cX6_addNode 36 = .ok (.invokespecial 78, 3) := by decide +kernel
theorem dX6_addNode_39 : decode cX6_addNode 39 = .ok (.athrow, 1) := by decide +kernel
theorem dX6_addNode_40 : decode cX6_addNode 40 = .ok (.aload_n 0, 1) := by decide +kernel
theorem dX6_addNode_41 : decode cX6_addNode 41 = .ok (.invokevirtual 79, 3) := by decide +kernel
theorem dX6_addNode_44 : decode cX6_addNode 44 = .ok (.aload_n 0, 1) := by decide +kernel
theorem dX6_addNode_45 : decode cX6_addNode 45 = .ok (.getfield 12, 3) := by decide +kernel
theorem dX6_addNode_48 : decode cX6_addNode 48 = .ok (.iload_n 2, 1) := by decide +kernel
theorem dX6_addNode_49 : decode cX6_addNode 49 = .ok (.iload_n 1, 1) := by decide +kernel
theorem dX6_addNode_50 : decode cX6_addNode 50 = .ok (.invokevirtual 82, 3) := by decide +kernel
theorem dX6_addNode_53 : decode cX6_addNode 53 = .ok (.pop, 1) := by decide +kernel
theorem dX6_addNode_54 : decode cX6_addNode 54 = .ok (.iload_n 2, 1) := by decide +kernel
theorem dX6_addNode_55 : decode cX6_addNode 55 = .ok (.ireturn, 1) := by decide +kernel
theorem dX6_drain_0 : decode cX6_drain 0 = .ok (.aload_n 0, 1) := by decide +kernel
theorem dX6_drain_1 : decode cX6_drain 1 = .ok (.getfield 12, 3) := by decide +kernel
theorem dX6_drain_4 : decode cX6_drain 4 = .ok (.iload_n 1, 1) := by decide +kernel
theorem dX6_drain_5 : decode cX6_drain 5 = .ok (.invokevirtual 86, 3) := by decide +kernel
theorem dX6_drain_8 : decode cX6_drain 8 = .ok (.ifCond .ne 13, 3) := by decide +kernel
theorem dX6_drain_11 : decode cX6_drain 11 = .ok (.new 89, 3) := by decide +kernel
theorem dX6_drain_14 : decode cX6_drain 14 = .ok (.dup, 1) := by decide +kernel
theorem dX6_drain_15 : decode cX6_drain 15 = .ok (.ldc 91, 2) := by decide +kernel
theorem dX6_drain_17 : decode cX6_drain 17 = .ok (.invokespecial 93, 3) := by decide +kernel
theorem dX6_drain_20 : decode cX6_drain 20 = .ok (.athrow, 1) := by decide +kernel
theorem dX6_drain_21 : decode cX6_drain 21 = .ok (.aload_n 0, 1) := by decide +kernel
theorem dX6_drain_22 : decode cX6_drain 22 = .ok (.getfield 12, 3) := by decide +kernel
theorem dX6_drain_25 : decode cX6_drain 25 = .ok (.iload_n 1, 1) := by decide +kernel
theorem dX6_drain_26 : decode cX6_drain 26 = .ok (.invokevirtual 94, 3) := by decide +kernel
theorem dX6_drain_29 : decode cX6_drain 29 = .ok (.ifCond .ne 13, 3) := by decide +kernel
theorem dX6_drain_32 : decode cX6_drain 32 = .ok (.new 74, 3) := by decide +kernel
theorem dX6_drain_35 : decode cX6_drain 35 = .ok (.dup, 1) := by decide +kernel
theorem dX6_drain_36 : decode cX6_drain 36 = .ok (.ldc 97, 2) := by decide +kernel
theorem dX6_drain_38 : decode cX6_drain 38 = .ok (.invokespecial 78, 3) := by decide +kernel
theorem dX6_drain_41 : decode cX6_drain 41 = .ok (.athrow, 1) := by decide +kernel
theorem dX6_drain_42 : decode cX6_drain 42 = .ok (.aload_n 0, 1) := by decide +kernel
theorem dX6_drain_43 : decode cX6_drain 43 = .ok (.invokevirtual 79, 3) := by decide +kernel
theorem dX6_drain_46 : decode cX6_drain 46 = .ok (.aload_n 0, 1) := by decide +kernel
theorem dX6_drain_47 : decode cX6_drain 47 = .ok (.getfield 12, 3) := by decide +kernel
theorem dX6_drain_50 : decode cX6_drain 50 = .ok (.iload_n 1, 1) := by decide +kernel
theorem dX6_drain_51 : decode cX6_drain 51 = .ok (.iconst 2, 1) := by decide +kernel
theorem dX6_drain_52 : decode cX6_drain 52 = .ok (.invokevirtual 99, 3) := by decide +kernel
theorem dX6_drain_55 : decode cX6_drain 55 = .ok (.pop, 1) := by decide +kernel
theorem dX6_drain_56 : decode cX6_drain 56 = .ok (.aload_n 0, 1) := by decide +kernel
theorem dX6_drain_57 : decode cX6_drain 57 = .ok (.getfield 12, 3) := by decide +kernel
theorem dX6_drain_60 : decode cX6_drain 60 = .ok (.iload_n 1, 1) := by decide +kernel
theorem dX6_drain_61 : decode cX6_drain 61 = .ok (.invokevirtual 102, 3) := by decide +kernel
theorem dX6_drain_64 : decode cX6_drain 64 = .ok (.ireturn, 1) := by decide +kernel
theorem dX6_fail_0 : decode cX6_fail 0 = .ok (.aload_n 0, 1) := by decide +kernel
theorem dX6_fail_1 : decode cX6_fail 1 = .ok (.getfield 12, 3) := by decide +kernel
theorem dX6_fail_4 : decode cX6_fail 4 = .ok (.iload_n 1, 1) := by decide +kernel
theorem dX6_fail_5 : decode cX6_fail 5 = .ok (.invokevirtual 86, 3) := by decide +kernel
theorem dX6_fail_8 : decode cX6_fail 8 = .ok (.ifCond .ne 13, 3) := by decide +kernel
theorem dX6_fail_11 : decode cX6_fail 11 = .ok (.new 89, 3) := by decide +kernel
theorem dX6_fail_14 : decode cX6_fail 14 = .ok (.dup, 1) := by decide +kernel
theorem dX6_fail_15 : decode cX6_fail 15 = .ok (.ldc 91, 2) := by decide +kernel
theorem dX6_fail_17 : decode cX6_fail 17 = .ok (.invokespecial 93, 3) := by decide +kernel
theorem dX6_fail_20 : decode cX6_fail 20 = .ok (.athrow, 1) := by decide +kernel
theorem dX6_fail_21 : decode cX6_fail 21 = .ok (.aload_n 0, 1) := by decide +kernel
theorem dX6_fail_22 : decode cX6_fail 22 = .ok (.getfield 12, 3) := by decide +kernel
theorem dX6_fail_25 : decode cX6_fail 25 = .ok (.iload_n 1, 1) := by decide +kernel
theorem dX6_fail_26 : decode cX6_fail 26 = .ok (.invokevirtual 106, 3) := by decide +kernel
theorem dX6_fail_29 : decode cX6_fail 29 = .ok (.ifCond .ne 13, 3) := by decide +kernel
theorem dX6_fail_32 : decode cX6_fail 32 = .ok (.new 74, 3) := by decide +kernel
theorem dX6_fail_35 : decode cX6_fail 35 = .ok (.dup, 1) := by decide +kernel
theorem dX6_fail_36 : decode cX6_fail 36 = .ok (.ldc 109, 2) := by decide +kernel
theorem dX6_fail_38 : decode cX6_fail 38 = .ok (.invokespecial 78, 3) := by decide +kernel
theorem dX6_fail_41 : decode cX6_fail 41 = .ok (.athrow, 1) := by decide +kernel
theorem dX6_fail_42 : decode cX6_fail 42 = .ok (.aload_n 0, 1) := by decide +kernel
theorem dX6_fail_43 : decode cX6_fail 43 = .ok (.invokevirtual 79, 3) := by decide +kernel
theorem dX6_fail_46 : decode cX6_fail 46 = .ok (.aload_n 0, 1) := by decide +kernel
theorem dX6_fail_47 : decode cX6_fail 47 = .ok (.getfield 12, 3) := by decide +kernel
theorem dX6_fail_50 : decode cX6_fail 50 = .ok (.iload_n 1, 1) := by decide +kernel
theorem dX6_fail_51 : decode cX6_fail 51 = .ok (.iconst 3, 1) := by decide +kernel
theorem dX6_fail_52 : decode cX6_fail 52 = .ok (.invokevirtual 99, 3) := by decide +kernel
theorem dX6_fail_55 : decode cX6_fail 55 = .ok (.pop, 1) := by decide +kernel
theorem dX6_fail_56 : decode cX6_fail 56 = .ok (.aload_n 0, 1) := by decide +kernel
theorem dX6_fail_57 : decode cX6_fail 57 = .ok (.getfield 12, 3) := by decide +kernel
theorem dX6_fail_60 : decode cX6_fail 60 = .ok (.iload_n 1, 1) := by decide +kernel
theorem dX6_fail_61 : decode cX6_fail 61 = .ok (.invokevirtual 102, 3) := by decide +kernel
theorem dX6_fail_64 : decode cX6_fail 64 = .ok (.ireturn, 1) := by decide +kernel
theorem dX6_recover_0 : decode cX6_recover 0 = .ok (.aload_n 0, 1) := by decide +kernel
theorem dX6_recover_1 : decode cX6_recover 1 = .ok (.getfield 12, 3) := by decide +kernel
theorem dX6_recover_4 : decode cX6_recover 4 = .ok (.iload_n 1, 1) := by decide +kernel
theorem dX6_recover_5 : decode cX6_recover 5 = .ok (.invokevirtual 86, 3) := by decide +kernel
theorem dX6_recover_8 : decode cX6_recover 8 = .ok (.ifCond .ne 13, 3) := by decide +kernel
theorem dX6_recover_11 : decode cX6_recover 11 = .ok (.new 89, 3) := by decide +kernel
theorem dX6_recover_14 : decode cX6_recover 14 = .ok (.dup, 1) := by decide +kernel
theorem dX6_recover_15 : decode cX6_recover 15 = .ok (.ldc 91, 2) := by decide +kernel
theorem dX6_recover_17 : decode cX6_recover 17 = .ok (.invokespecial 93, 3) := by decide +kernel
theorem dX6_recover_20 : decode cX6_recover 20 = .ok (.athrow, 1) := by decide +kernel
theorem dX6_recover_21 : decode cX6_recover 21 = .ok (.aload_n 0, 1) := by decide +kernel
theorem dX6_recover_22 : decode cX6_recover 22 = .ok (.getfield 12, 3) := by decide +kernel
theorem dX6_recover_25 : decode cX6_recover 25 = .ok (.iload_n 1, 1) := by decide +kernel
theorem dX6_recover_26 : decode cX6_recover 26 = .ok (.invokevirtual 111, 3) := by decide +kernel
theorem dX6_recover_29 : decode cX6_recover 29 = .ok (.ifCond .ne 13, 3) := by decide +kernel
theorem dX6_recover_32 : decode cX6_recover 32 = .ok (.new 74, 3) := by decide +kernel
theorem dX6_recover_35 : decode cX6_recover 35 = .ok (.dup, 1) := by decide +kernel
theorem dX6_recover_36 : decode cX6_recover 36 = .ok (.ldc 114, 2) := by decide +kernel
theorem dX6_recover_38 : decode cX6_recover 38 = .ok (.invokespecial 78, 3) := by decide +kernel
theorem dX6_recover_41 : decode cX6_recover 41 = .ok (.athrow, 1) := by decide +kernel
theorem dX6_recover_42 : decode cX6_recover 42 = .ok (.aload_n 0, 1) := by decide +kernel
theorem dX6_recover_43 : decode cX6_recover 43 = .ok (.invokevirtual 79, 3) := by decide +kernel
theorem dX6_recover_46 : decode cX6_recover 46 = .ok (.aload_n 0, 1) := by decide +kernel
theorem dX6_recover_47 : decode cX6_recover 47 = .ok (.getfield 12, 3) := by decide +kernel
theorem dX6_recover_50 : decode cX6_recover 50 = .ok (.iload_n 1, 1) := by decide +kernel
theorem dX6_recover_51 : decode cX6_recover 51 = .ok (.invokevirtual 116, 3) := by decide +kernel
theorem dX6_recover_54 : decode cX6_recover 54 = .ok (.istore_n 2, 1) := by decide +kernel
theorem dX6_recover_55 : decode cX6_recover 55 = .ok (.aload_n 0, 1) := by decide +kernel
theorem dX6_recover_56 : decode cX6_recover 56 = .ok (.getfield 12, 3) := by decide +kernel
theorem dX6_recover_59 : decode cX6_recover 59 = .ok (.iload_n 1, 1) := by decide +kernel
theorem dX6_recover_60 : decode cX6_recover 60 = .ok (.iconst 1, 1) := by decide +kernel
theorem dX6_recover_61 : decode cX6_recover 61 = .ok (.invokevirtual 99, 3) := by decide +kernel
theorem dX6_recover_64 : decode cX6_recover 64 = .ok (.pop, 1) := by decide +kernel
theorem dX6_recover_65 : decode cX6_recover 65 = .ok (.iload_n 2, 1) := by decide +kernel
theorem dX6_recover_66 : decode cX6_recover 66 = .ok (.ireturn, 1) := by decide +kernel
theorem dX6_setWeight_0 : decode cX6_setWeight 0 = .ok (.aload_n 0, 1) := by decide +kernel
theorem dX6_setWeight_1 : decode cX6_setWeight 1 = .ok (.getfield 12, 3) := by decide +kernel
theorem dX6_setWeight_4 : decode cX6_setWeight 4 = .ok (.iload_n 1, 1) := by decide +kernel
theorem dX6_setWeight_5 : decode cX6_setWeight 5 = .ok (.invokevirtual 86, 3) := by decide +kernel
theorem dX6_setWeight_8 : decode cX6_setWeight 8 = .ok (.ifCond .ne 13, 3) := by decide +kernel
theorem dX6_setWeight_11 : decode cX6_setWeight 11 = .ok (.new 89, 3) := by decide +kernel
theorem dX6_setWeight_14 : decode cX6_setWeight 14 = .ok (.dup, 1) := by decide +kernel
theorem dX6_setWeight_15 : decode cX6_setWeight 15 = .ok (.ldc 91, 2) := by decide +kernel
theorem dX6_setWeight_17 : decode cX6_setWeight 17 = .ok (.invokespecial 93, 3) := by decide +kernel
theorem dX6_setWeight_20 : decode cX6_setWeight 20 = .ok (.athrow, 1) := by decide +kernel
theorem dX6_setWeight_21 : decode cX6_setWeight 21 = .ok (.iload_n 2, 1) := by decide +kernel
theorem dX6_setWeight_22 : decode cX6_setWeight 22 = .ok (.invokestatic 59, 3) := by decide +kernel
theorem dX6_setWeight_25 : decode cX6_setWeight 25 = .ok (.ifCond .ne 13, 3) := by decide +kernel
theorem dX6_setWeight_28 : decode cX6_setWeight 28 = .ok (.new 63, 3) := by decide +kernel
theorem dX6_setWeight_31 : decode cX6_setWeight 31 = .ok (.dup, 1) := by decide +kernel
theorem dX6_setWeight_32 : decode cX6_setWeight 32 = .ok (.ldc 65, 2) := by decide +kernel
theorem dX6_setWeight_34 : decode cX6_setWeight 34 = .ok (.invokespecial 67, 3) := by decide +kernel
theorem dX6_setWeight_37 : decode cX6_setWeight 37 = .ok (.athrow, 1) := by decide +kernel
theorem dX6_setWeight_38 : decode cX6_setWeight 38 = .ok (.aload_n 0, 1) := by decide +kernel
theorem dX6_setWeight_39 : decode cX6_setWeight 39 = .ok (.invokevirtual 79, 3) := by decide +kernel
theorem dX6_setWeight_42 : decode cX6_setWeight 42 = .ok (.aload_n 0, 1) := by decide +kernel
theorem dX6_setWeight_43 : decode cX6_setWeight 43 = .ok (.getfield 12, 3) := by decide +kernel
theorem dX6_setWeight_46 : decode cX6_setWeight 46 = .ok (.iload_n 1, 1) := by decide +kernel
theorem dX6_setWeight_47 : decode cX6_setWeight 47 = .ok (.invokevirtual 119, 3) := by decide +kernel
theorem dX6_setWeight_50 : decode cX6_setWeight 50 = .ok (.istore_n 3, 1) := by decide +kernel
theorem dX6_setWeight_51 : decode cX6_setWeight 51 = .ok (.aload_n 0, 1) := by decide +kernel
theorem dX6_setWeight_52 : decode cX6_setWeight 52 = .ok (.getfield 12, 3) := by decide +kernel
theorem dX6_setWeight_55 : decode cX6_setWeight 55 = .ok (.iload_n 1, 1) := by decide +kernel
theorem dX6_setWeight_56 : decode cX6_setWeight 56 = .ok (.iload_n 2, 1) := by decide +kernel
theorem dX6_setWeight_57 : decode cX6_setWeight 57 = .ok (.invokevirtual 122, 3) := by decide +kernel
theorem dX6_setWeight_60 : decode cX6_setWeight 60 = .ok (.pop, 1) := by decide +kernel
theorem dX6_setWeight_61 : decode cX6_setWeight 61 = .ok (.iload_n 3, 1) := by decide +kernel
theorem dX6_setWeight_62 : decode cX6_setWeight 62 = .ok (.ireturn, 1) := by decide +kernel
theorem dX6_currentPlacement_0 : decode cX6_currentPlacement 0 = .ok (.aload_n 0, 1) := by decide +kernel
theorem dX6_currentPlacement_1 : decode cX6_currentPlacement 1 = .ok (.getfield 36, 3) := by decide +kernel
theorem dX6_currentPlacement_4 : decode cX6_currentPlacement 4 = .ok (.ifCond .eq 19, 3) := by decide +kernel
theorem dX6_currentPlacement_7 : decode cX6_currentPlacement 7 = .ok (.aload_n 0, 1) := by decide +kernel
theorem dX6_currentPlacement_8 : decode cX6_currentPlacement 8 = .ok (.getfield 52, 3) := by decide +kernel
theorem dX6_currentPlacement_11 : decode cX6_currentPlacement 11 = .ok (.aload_n 0, 1) := by decide +kernel
theorem dX6_currentPlacement_12 : decode cX6_currentPlacement 12 = .ok (.getfield 12, 3) := by decide +kernel
theorem dX6_currentPlacement_15 : decode cX6_currentPlacement 15 = .ok (.invokevirtual 241, 3) := by decide +kernel
theorem dX6_currentPlacement_18 : decode cX6_currentPlacement 18 = .ok (.aload_n 0, 1) := by decide +kernel
theorem dX6_currentPlacement_19 : decode cX6_currentPlacement 19 = .ok (.iconst 0, 1) := by decide +kernel
theorem dX6_currentPlacement_20 : decode cX6_currentPlacement 20 = .ok (.putfield 36, 3) := by decide +kernel
theorem dX6_currentPlacement_23 : decode cX6_currentPlacement 23 = .ok (.aload_n 0, 1) := by decide +kernel
theorem dX6_currentPlacement_24 : decode cX6_currentPlacement 24 = .ok (.getfield 52, 3) := by decide +kernel
theorem dX6_currentPlacement_27 : decode cX6_currentPlacement 27 = .ok (.areturn, 1) := by decide +kernel
theorem dX6_node_0 : decode cX6_node 0 = .ok (.iload_n 1, 1) := by decide +kernel
theorem dX6_node_1 : decode cX6_node 1 = .ok (.invokestatic 125, 3) := by decide +kernel
theorem dX6_node_4 : decode cX6_node 4 = .ok (.ifCond .ne 13, 3) := by decide +kernel
theorem dX6_node_7 : decode cX6_node 7 = .ok (.new 89, 3) := by decide +kernel
theorem dX6_node_10 : decode cX6_node 10 = .ok (.dup, 1) := by decide +kernel
theorem dX6_node_11 : decode cX6_node 11 = .ok (.ldc 91, 2) := by decide +kernel
theorem dX6_node_13 : decode cX6_node 13 = .ok (.invokespecial 93, 3) := by decide +kernel
theorem dX6_node_16 : decode cX6_node 16 = .ok (.athrow, 1) := by decide +kernel
theorem dX6_node_17 : decode cX6_node 17 = .ok (.iload_n 2, 1) := by decide +kernel
theorem dX6_node_18 : decode cX6_node 18 = .ok (.tableswitch 109 0 6 #[42, 51, 60, 69, 78, 87, 96], 42) := by decide +kernel
theorem dX6_node_60 : decode cX6_node 60 = .ok (.aload_n 0, 1) := by decide +kernel
theorem dX6_node_61 : decode cX6_node 61 = .ok (.getfield 12, 3) := by decide +kernel
theorem dX6_node_64 : decode cX6_node 64 = .ok (.iload_n 1, 1) := by decide +kernel
theorem dX6_node_65 : decode cX6_node 65 = .ok (.invokevirtual 116, 3) := by decide +kernel
theorem dX6_node_68 : decode cX6_node 68 = .ok (.ireturn, 1) := by decide +kernel
theorem dX6_node_69 : decode cX6_node 69 = .ok (.aload_n 0, 1) := by decide +kernel
theorem dX6_node_70 : decode cX6_node 70 = .ok (.getfield 12, 3) := by decide +kernel
theorem dX6_node_73 : decode cX6_node 73 = .ok (.iload_n 1, 1) := by decide +kernel
theorem dX6_node_74 : decode cX6_node 74 = .ok (.invokevirtual 119, 3) := by decide +kernel
theorem dX6_node_77 : decode cX6_node 77 = .ok (.ireturn, 1) := by decide +kernel
theorem dX6_node_78 : decode cX6_node 78 = .ok (.aload_n 0, 1) := by decide +kernel
theorem dX6_node_79 : decode cX6_node 79 = .ok (.invokevirtual 128, 3) := by decide +kernel
theorem dX6_node_82 : decode cX6_node 82 = .ok (.iload_n 1, 1) := by decide +kernel
theorem dX6_node_83 : decode cX6_node 83 = .ok (.invokevirtual 132, 3) := by decide +kernel
theorem dX6_node_86 : decode cX6_node 86 = .ok (.ireturn, 1) := by decide +kernel
theorem dX6_node_87 : decode cX6_node 87 = .ok (.aload_n 0, 1) := by decide +kernel
theorem dX6_node_88 : decode cX6_node 88 = .ok (.getfield 12, 3) := by decide +kernel
theorem dX6_node_91 : decode cX6_node 91 = .ok (.iload_n 1, 1) := by decide +kernel
theorem dX6_node_92 : decode cX6_node 92 = .ok (.invokevirtual 102, 3) := by decide +kernel
theorem dX6_node_95 : decode cX6_node 95 = .ok (.ireturn, 1) := by decide +kernel
theorem dX6_node_96 : decode cX6_node 96 = .ok (.aload_n 0, 1) := by decide +kernel
theorem dX6_node_97 : decode cX6_node 97 = .ok (.invokevirtual 128, 3) := by decide +kernel
theorem dX6_node_100 : decode cX6_node 100 = .ok (.iload_n 1, 1) := by decide +kernel
theorem dX6_node_101 : decode cX6_node 101 = .ok (.invokevirtual 135, 3) := by decide +kernel
theorem dX6_node_104 : decode cX6_node 104 = .ok (.ireturn, 1) := by decide +kernel
theorem dX6_node_105 : decode cX6_node 105 = .ok (.aload_n 0, 1) := by decide +kernel
theorem dX6_node_106 : decode cX6_node 106 = .ok (.getfield 12, 3) := by decide +kernel
theorem dX6_node_109 : decode cX6_node 109 = .ok (.iload_n 1, 1) := by decide +kernel
theorem dX6_node_110 : decode cX6_node 110 = .ok (.invokevirtual 138, 3) := by decide +kernel
theorem dX6_node_113 : decode cX6_node 113 = .ok (.ireturn, 1) := by decide +kernel
theorem dX6_node_114 : decode cX6_node 114 = .ok (.aload_n 0, 1) := by decide +kernel
theorem dX6_node_115 : decode cX6_node 115 = .ok (.getfield 12, 3) := by decide +kernel
theorem dX6_node_118 : decode cX6_node 118 = .ok (.getfield 141, 3) := by decide +kernel
theorem dX6_node_121 : decode cX6_node 121 = .ok (.iconst 2, 1) := by decide +kernel
theorem dX6_node_122 : decode cX6_node 122 = .ok (.iload_n 1, 1) := by decide +kernel
theorem dX6_node_123 : decode cX6_node 123 = .ok (.invokevirtual 145, 3) := by decide +kernel
theorem dX6_node_126 : decode cX6_node 126 = .ok (.ireturn, 1) := by decide +kernel
theorem dX6_node_127 : decode cX6_node 127 = .ok (.new 63, 3) := by decide +kernel
theorem dX6_node_130 : decode cX6_node 130 = .ok (.dup, 1) := by decide +kernel
theorem dX6_node_131 : decode cX6_node 131 = .ok (.ldc 151, 2) := by decide +kernel
theorem dX6_node_133 : decode cX6_node 133 = .ok (.invokespecial 67, 3) := by decide +kernel
theorem dX6_node_136 : decode cX6_node 136 = .ok (.athrow, 1) := by decide +kernel
theorem dX6_nodes_0 : decode cX6_nodes 0 = .ok (.iload_n 1, 1) := by decide +kernel
theorem dX6_nodes_1 : decode cX6_nodes 1 = .ok (.ifCond .lt 8, 3) := by decide +kernel
theorem dX6_nodes_4 : decode cX6_nodes 4 = .ok (.iload_n 1, 1) := by decide +kernel
theorem dX6_nodes_5 : decode cX6_nodes 5 = .ok (.iconst 3, 1) := by decide +kernel
theorem dX6_nodes_6 : decode cX6_nodes 6 = .ok (.if_icmp .le 13, 3) := by decide +kernel
theorem dX6_nodes_9 : decode cX6_nodes 9 = .ok (.new 63, 3) := by decide +kernel
theorem dX6_nodes_12 : decode cX6_nodes 12 = .ok (.dup, 1) := by decide +kernel
theorem dX6_nodes_13 : decode cX6_nodes 13 = .ok (.ldc 153, 2) := by decide +kernel
theorem dX6_nodes_15 : decode cX6_nodes 15 = .ok (.invokespecial 67, 3) := by decide +kernel
theorem dX6_nodes_18 : decode cX6_nodes 18 = .ok (.athrow, 1) := by decide +kernel
theorem dX6_nodes_19 : decode cX6_nodes 19 = .ok (.aload_n 0, 1) := by decide +kernel
theorem dX6_nodes_20 : decode cX6_nodes 20 = .ok (.getfield 12, 3) := by decide +kernel
theorem dX6_nodes_23 : decode cX6_nodes 23 = .ok (.iload_n 1, 1) := by decide +kernel
theorem dX6_nodes_24 : decode cX6_nodes 24 = .ok (.invokevirtual 155, 3) := by decide +kernel
theorem dX6_nodes_27 : decode cX6_nodes 27 = .ok (.ireturn, 1) := by decide +kernel
theorem dX6_isAllowed_0 : decode cX6_isAllowed 0 = .ok (.iload_n 0, 1) := by decide +kernel
theorem dX6_isAllowed_1 : decode cX6_isAllowed 1 = .ok (.tableswitch 77 0 2 #[27, 43, 60], 27) := by decide +kernel
theorem dX6_isAllowed_28 : decode cX6_isAllowed 28 = .ok (.iload_n 1, 1) := by decide +kernel
theorem dX6_isAllowed_29 : decode cX6_isAllowed 29 = .ok (.ifCond .lt 13, 3) := by decide +kernel
theorem dX6_isAllowed_32 : decode cX6_isAllowed 32 = .ok (.iload_n 1, 1) := by decide +kernel
theorem dX6_isAllowed_33 : decode cX6_isAllowed 33 = .ok (.bipush 100, 2) := by decide +kernel
theorem dX6_isAllowed_35 : decode cX6_isAllowed 35 = .ok (.if_icmp .gt 7, 3) := by decide +kernel
theorem dX6_isAllowed_38 : decode cX6_isAllowed 38 = .ok (.iconst 1, 1) := by decide +kernel
theorem dX6_isAllowed_39 : decode cX6_isAllowed 39 = .ok (.goto 4, 3) := by decide +kernel
theorem dX6_isAllowed_42 : decode cX6_isAllowed 42 = .ok (.iconst 0, 1) := by decide +kernel
theorem dX6_isAllowed_43 : decode cX6_isAllowed 43 = .ok (.ireturn, 1) := by decide +kernel
theorem dX6_isAllowed_44 : decode cX6_isAllowed 44 = .ok (.iload_n 1, 1) := by decide +kernel
theorem dX6_isAllowed_45 : decode cX6_isAllowed 45 = .ok (.iconst 1, 1) := by decide +kernel
theorem dX6_isAllowed_46 : decode cX6_isAllowed 46 = .ok (.if_icmp .lt 13, 3) := by decide +kernel
theorem dX6_isAllowed_49 : decode cX6_isAllowed 49 = .ok (.iload_n 1, 1) := by decide +kernel
theorem dX6_isAllowed_50 : decode cX6_isAllowed 50 = .ok (.bipush 8, 2) := by decide +kernel
theorem dX6_isAllowed_52 : decode cX6_isAllowed 52 = .ok (.if_icmp .gt 7, 3) := by decide +kernel
theorem dX6_isAllowed_55 : decode cX6_isAllowed 55 = .ok (.iconst 1, 1) := by decide +kernel
theorem dX6_isAllowed_56 : decode cX6_isAllowed 56 = .ok (.goto 4, 3) := by decide +kernel
theorem dX6_isAllowed_59 : decode cX6_isAllowed 59 = .ok (.iconst 0, 1) := by decide +kernel
theorem dX6_isAllowed_60 : decode cX6_isAllowed 60 = .ok (.ireturn, 1) := by decide +kernel
theorem dX6_isAllowed_61 : decode cX6_isAllowed 61 = .ok (.iload_n 1, 1) := by decide +kernel
theorem dX6_isAllowed_62 : decode cX6_isAllowed 62 = .ok (.iconst 1, 1) := by decide +kernel
theorem dX6_isAllowed_63 : decode cX6_isAllowed 63 = .ok (.if_icmp .lt 13, 3) := by decide +kernel
theorem dX6_isAllowed_66 : decode cX6_isAllowed 66 = .ok (.iload_n 1, 1) := by decide +kernel
theorem dX6_isAllowed_67 : decode cX6_isAllowed 67 = .ok (.bipush 20, 2) := by decide +kernel
theorem dX6_isAllowed_69 : decode cX6_isAllowed 69 = .ok (.if_icmp .gt 7, 3) := by decide +kernel
theorem dX6_isAllowed_72 : decode cX6_isAllowed 72 = .ok (.iconst 1, 1) := by decide +kernel
theorem dX6_isAllowed_73 : decode cX6_isAllowed 73 = .ok (.goto 4, 3) := by decide +kernel
theorem dX6_isAllowed_76 : decode cX6_isAllowed 76 = .ok (.iconst 0, 1) := by decide +kernel
theorem dX6_isAllowed_77 : decode cX6_isAllowed 77 = .ok (.ireturn, 1) := by decide +kernel
theorem dX6_isAllowed_78 : decode cX6_isAllowed 78 = .ok (.iconst 0, 1) := by decide +kernel
theorem dX6_isAllowed_79 : decode cX6_isAllowed 79 = .ok (.ireturn, 1) := by decide +kernel
theorem dX6_set_0 : decode cX6_set 0 = .ok (.iload_n 1, 1) := by decide +kernel
theorem dX6_set_1 : decode cX6_set 1 = .ok (.ifCond .lt 16, 3) := by decide +kernel
theorem dX6_set_4 : decode cX6_set 4 = .ok (.iload_n 1, 1) := by decide +kernel
theorem dX6_set_5 : decode cX6_set 5 = .ok (.iconst 3, 1) := by decide +kernel
theorem dX6_set_6 : decode cX6_set 6 = .ok (.if_icmp .ge 11, 3) := by decide +kernel
theorem dX6_set_9 : decode cX6_set 9 = .ok (.iload_n 1, 1) := by decide +kernel
theorem dX6_set_10 : decode cX6_set 10 = .ok (.iload_n 2, 1) := by decide +kernel
theorem dX6_set_11 : decode cX6_set 11 = .ok (.invokestatic 158, 3) := by decide +kernel
theorem dX6_set_14 : decode cX6_set 14 = .ok (.ifCond .ne 13, 3) := by decide +kernel
theorem dX6_set_17 : decode cX6_set 17 = .ok (.new 63, 3) := by decide +kernel
theorem dX6_set_20 : decode cX6_set 20 = .ok (.dup, 1) := by decide +kernel
theorem dX6_set_21 : decode cX6_set 21 = .ok (.ldc 161, 2) := by decide +kernel
theorem dX6_set_23 : decode cX6_set 23 = .ok (.invokespecial 67, 3) := by decide +kernel
theorem dX6_set_26 : decode cX6_set 26 = .ok (.athrow, 1) := by decide +kernel
theorem dX6_set_27 : decode cX6_set 27 = .ok (.aload_n 0, 1) := by decide +kernel
theorem dX6_set_28 : decode cX6_set 28 = .ok (.invokevirtual 79, 3) := by decide +kernel
theorem dX6_set_31 : decode cX6_set 31 = .ok (.aload_n 0, 1) := by decide +kernel
theorem dX6_set_32 : decode cX6_set 32 = .ok (.getfield 12, 3) := by decide +kernel
theorem dX6_set_35 : decode cX6_set 35 = .ok (.getfield 163, 3) := by decide +kernel
theorem dX6_set_38 : decode cX6_set 38 = .ok (.iload_n 1, 1) := by decide +kernel
theorem dX6_set_39 : decode cX6_set 39 = .ok (.iaload, 1) := by decide +kernel
theorem dX6_set_40 : decode cX6_set 40 = .ok (.istore_n 3, 1) := by decide +kernel
theorem dX6_set_41 : decode cX6_set 41 = .ok (.aload_n 0, 1) := by decide +kernel
theorem dX6_set_42 : decode cX6_set 42 = .ok (.getfield 12, 3) := by decide +kernel
theorem dX6_set_45 : decode cX6_set 45 = .ok (.getfield 163, 3) := by decide +kernel
theorem dX6_set_48 : decode cX6_set 48 = .ok (.iload_n 1, 1) := by decide +kernel
theorem dX6_set_49 : decode cX6_set 49 = .ok (.iload_n 2, 1) := by decide +kernel
theorem dX6_set_50 : decode cX6_set 50 = .ok (.iastore, 1) := by decide +kernel
theorem dX6_set_51 : decode cX6_set 51 = .ok (.iload_n 3, 1) := by decide +kernel
theorem dX6_set_52 : decode cX6_set 52 = .ok (.ireturn, 1) := by decide +kernel
theorem dX6_points_0 : decode cX6_points 0 = .ok (.aload_n 0, 1) := by decide +kernel
