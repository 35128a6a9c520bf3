theorem dX6_points_1 : decode cX6_points 1 = .ok (.invokevirtual 128, 3) := by decide +kernel
theorem dX6_points_4 : decode cX6_points 4 = .ok (.getfield 167, 3) := by decide +kernel
theorem dX6_points_7 : decode cX6_points 7 = .ok (.ireturn, 1) := by decide +kernel
theorem dX6_point_0 : decode cX6_point 0 = .ok (.aload_n 0, 1) := by decide +kernel
theorem dX6_point_1 : decode cX6_point 1 = .ok (.invokevirtual 128, 3) := by decide +kernel
theorem dX6_point_4 : decode cX6_point 4 = .ok (.astore_n 3, 1) := by decide +kernel
theorem dX6_point_5 : decode cX6_point 5 = .ok (.iload_n 1, 1) := by decide +kernel
theorem dX6_point_6 : decode cX6_point 6 = .ok (.ifCond .lt 11, 3) := by decide +kernel
theorem dX6_point_9 : decode cX6_point 9 = .ok (.iload_n 1, 1) := by decide +kernel
theorem dX6_point_10 : decode cX6_point 10 = .ok (.aload_n 3, 1) := by decide +kernel
theorem dX6_point_11 : decode cX6_point 11 = .ok (.getfield 167, 3) := by decide +kernel
theorem dX6_point_14 : decode cX6_point 14 = .ok (.if_icmp .lt 13, 3) := by decide +kernel
theorem dX6_point_17 : decode cX6_point 17 = .ok (.new 89, 3) := by decide +kernel
theorem dX6_point_20 : decode cX6_point 20 = .ok (.dup, 1) := by decide +kernel
theorem dX6_point_21 : decode cX6_point 21 = .ok (.ldc 171, 2) := by decide +kernel
theorem dX6_point_23 : decode cX6_point 23 = .ok (.invokespecial 93, 3) := by decide +kernel
theorem dX6_point_26 : decode cX6_point 26 = .ok (.athrow, 1) := by decide +kernel
theorem dX6_point_27 : decode cX6_point 27 = .ok (.aload_n 3, 1) := by decide +kernel
theorem dX6_point_28 : decode cX6_point 28 = .ok (.iload_n 1, 1) := by decide +kernel
theorem dX6_point_29 : decode cX6_point 29 = .ok (.invokevirtual 173, 3) := by decide +kernel
theorem dX6_point_32 : decode cX6_point 32 = .ok (.istore 4, 2) := by decide +kernel
theorem dX6_point_34 : decode cX6_point 34 = .ok (.iload_n 2, 1) := by decide +kernel
theorem dX6_point_35 : decode cX6_point 35 = .ok (.tableswitch 43 0 2 #[25, 31, 37], 25) := by decide +kernel
theorem dX6_point_60 : decode cX6_point 60 = .ok (.iload 4, 2) := by decide +kernel
theorem dX6_point_62 : decode cX6_point 62 = .ok (.invokestatic 176, 3) := by decide +kernel
theorem dX6_point_65 : decode cX6_point 65 = .ok (.ireturn, 1) := by decide +kernel
theorem dX6_point_66 : decode cX6_point 66 = .ok (.iload 4, 2) := by decide +kernel
theorem dX6_point_68 : decode cX6_point 68 = .ok (.invokestatic 179, 3) := by decide +kernel
theorem dX6_point_71 : decode cX6_point 71 = .ok (.ireturn, 1) := by decide +kernel
theorem dX6_point_72 : decode cX6_point 72 = .ok (.iload 4, 2) := by decide +kernel
theorem dX6_point_74 : decode cX6_point 74 = .ok (.invokestatic 182, 3) := by decide +kernel
theorem dX6_point_77 : decode cX6_point 77 = .ok (.ireturn, 1) := by decide +kernel
theorem dX6_point_78 : decode cX6_point 78 = .ok (.new 63, 3) := by decide +kernel
theorem dX6_point_81 : decode cX6_point 81 = .ok (.dup, 1) := by decide +kernel
theorem dX6_point_82 : decode cX6_point 82 = .ok (.ldc 151, 2) := by decide +kernel
theorem dX6_point_84 : decode cX6_point 84 = .ok (.invokespecial 67, 3) := by decide +kernel
theorem dX6_point_87 : decode cX6_point 87 = .ok (.athrow, 1) := by decide +kernel
theorem dX6_successor_0 : decode cX6_successor 0 = .ok (.iload_n 1, 1) := by decide +kernel
theorem dX6_successor_1 : decode cX6_successor 1 = .ok (.ifCond .lt 10, 3) := by decide +kernel
theorem dX6_successor_4 : decode cX6_successor 4 = .ok (.iload_n 1, 1) := by decide +kernel
theorem dX6_successor_5 : decode cX6_successor 5 = .ok (.sipush 1023, 3) := by decide +kernel
theorem dX6_successor_8 : decode cX6_successor 8 = .ok (.if_icmp .le 13, 3) := by decide +kernel
theorem dX6_successor_11 : decode cX6_successor 11 = .ok (.new 63, 3) := by decide +kernel
theorem dX6_successor_14 : decode cX6_successor 14 = .ok (.dup, 1) := by decide +kernel
theorem dX6_successor_15 : decode cX6_successor 15 = .ok (.ldc 185, 2) := by decide +kernel
theorem dX6_successor_17 : decode cX6_successor 17 = .ok (.invokespecial 67, 3) := by decide +kernel
theorem dX6_successor_20 : decode cX6_successor 20 = .ok (.athrow, 1) := by decide +kernel
theorem dX6_successor_21 : decode cX6_successor 21 = .ok (.aload_n 0, 1) := by decide +kernel
theorem dX6_successor_22 : decode cX6_successor 22 = .ok (.invokevirtual 128, 3) := by decide +kernel
theorem dX6_successor_25 : decode cX6_successor 25 = .ok (.astore_n 2, 1) := by decide +kernel
theorem dX6_successor_26 : decode cX6_successor 26 = .ok (.aload_n 2, 1) := by decide +kernel
theorem dX6_successor_27 : decode cX6_successor 27 = .ok (.getfield 167, 3) := by decide +kernel
theorem dX6_successor_30 : decode cX6_successor 30 = .ok (.ifCond .ne 13, 3) := by decide +kernel
theorem dX6_successor_33 : decode cX6_successor 33 = .ok (.new 187, 3) := by decide +kernel
theorem dX6_successor_36 : decode cX6_successor 36 = .ok (.dup, 1) := by decide +kernel
theorem dX6_successor_37 : decode cX6_successor 37 = .ok (.ldc 189, 2) := by decide +kernel
theorem dX6_successor_39 : decode cX6_successor 39 = .ok (.invokespecial 191, 3) := by decide +kernel
theorem dX6_successor_42 : decode cX6_successor 42 = .ok (.athrow, 1) := by decide +kernel
theorem dX6_successor_43 : decode cX6_successor 43 = .ok (.aload_n 2, 1) := by decide +kernel
theorem dX6_successor_44 : decode cX6_successor 44 = .ok (.iload_n 1, 1) := by decide +kernel
theorem dX6_successor_45 : decode cX6_successor 45 = .ok (.invokevirtual 192, 3) := by decide +kernel
theorem dX6_successor_48 : decode cX6_successor 48 = .ok (.ireturn, 1) := by decide +kernel
theorem dX6_shard_0 : decode cX6_shard 0 = .ok (.iload_n 1, 1) := by decide +kernel
theorem dX6_shard_1 : decode cX6_shard 1 = .ok (.invokestatic 195, 3) := by decide +kernel
theorem dX6_shard_4 : decode cX6_shard 4 = .ok (.ifCond .ne 13, 3) := by decide +kernel
theorem dX6_shard_7 : decode cX6_shard 7 = .ok (.new 89, 3) := by decide +kernel
theorem dX6_shard_10 : decode cX6_shard 10 = .ok (.dup, 1) := by decide +kernel
theorem dX6_shard_11 : decode cX6_shard 11 = .ok (.ldc 198, 2) := by decide +kernel
theorem dX6_shard_13 : decode cX6_shard 13 = .ok (.invokespecial 93, 3) := by decide +kernel
theorem dX6_shard_16 : decode cX6_shard 16 = .ok (.athrow, 1) := by decide +kernel
theorem dX6_shard_17 : decode cX6_shard 17 = .ok (.iload_n 2, 1) := by decide +kernel
theorem dX6_shard_18 : decode cX6_shard 18 = .ok (.tableswitch 122 0 7 #[46, 51, 56, 65, 74, 83, 100, 113], 46) := by decide +kernel
theorem dX6_shard_64 : decode cX6_shard 64 = .ok (.iload_n 1, 1) := by decide +kernel
theorem dX6_shard_65 : decode cX6_shard 65 = .ok (.invokestatic 200, 3) := by decide +kernel
theorem dX6_shard_68 : decode cX6_shard 68 = .ok (.ireturn, 1) := by decide +kernel
theorem dX6_shard_69 : decode cX6_shard 69 = .ok (.iload_n 1, 1) := by decide +kernel
theorem dX6_shard_70 : decode cX6_shard 70 = .ok (.invokestatic 203, 3) := by decide +kernel
theorem dX6_shard_73 : decode cX6_shard 73 = .ok (.ireturn, 1) := by decide +kernel
theorem dX6_shard_74 : decode cX6_shard 74 = .ok (.aload_n 0, 1) := by decide +kernel
theorem dX6_shard_75 : decode cX6_shard 75 = .ok (.invokevirtual 128, 3) := by decide +kernel
theorem dX6_shard_78 : decode cX6_shard 78 = .ok (.iload_n 1, 1) := by decide +kernel
theorem dX6_shard_79 : decode cX6_shard 79 = .ok (.invokevirtual 206, 3) := by decide +kernel
theorem dX6_shard_82 : decode cX6_shard 82 = .ok (.ireturn, 1) := by decide +kernel
theorem dX6_shard_83 : decode cX6_shard 83 = .ok (.aload_n 0, 1) := by decide +kernel
theorem dX6_shard_84 : decode cX6_shard 84 = .ok (.getfield 12, 3) := by decide +kernel
theorem dX6_shard_87 : decode cX6_shard 87 = .ok (.iload_n 1, 1) := by decide +kernel
theorem dX6_shard_88 : decode cX6_shard 88 = .ok (.invokevirtual 209, 3) := by decide +kernel
theorem dX6_shard_91 : decode cX6_shard 91 = .ok (.ireturn, 1) := by decide +kernel
theorem dX6_shard_92 : decode cX6_shard 92 = .ok (.aload_n 0, 1) := by decide +kernel
theorem dX6_shard_93 : decode cX6_shard 93 = .ok (.getfield 12, 3) := by decide +kernel
theorem dX6_shard_96 : decode cX6_shard 96 = .ok (.iload_n 1, 1) := by decide +kernel
theorem dX6_shard_97 : decode cX6_shard 97 = .ok (.invokevirtual 212, 3) := by decide +kernel
theorem dX6_shard_100 : decode cX6_shard 100 = .ok (.ireturn, 1) := by decide +kernel
theorem dX6_shard_101 : decode cX6_shard 101 = .ok (.aload_n 0, 1) := by decide +kernel
theorem dX6_shard_102 : decode cX6_shard 102 = .ok (.getfield 12, 3) := by decide +kernel
theorem dX6_shard_105 : decode cX6_shard 105 = .ok (.iload_n 1, 1) := by decide +kernel
theorem dX6_shard_106 : decode cX6_shard 106 = .ok (.invokevirtual 215, 3) := by decide +kernel
theorem dX6_shard_109 : decode cX6_shard 109 = .ok (.ifCond .eq 7, 3) := by decide +kernel
theorem dX6_shard_112 : decode cX6_shard 112 = .ok (.iconst 1, 1) := by decide +kernel
theorem dX6_shard_113 : decode cX6_shard 113 = .ok (.goto 4, 3) := by decide +kernel
theorem dX6_shard_116 : decode cX6_shard 116 = .ok (.iconst 0, 1) := by decide +kernel
theorem dX6_shard_117 : decode cX6_shard 117 = .ok (.ireturn, 1) := by decide +kernel
theorem dX6_shard_118 : decode cX6_shard 118 = .ok (.aload_n 0, 1) := by decide +kernel
theorem dX6_shard_119 : decode cX6_shard 119 = .ok (.getfield 12, 3) := by decide +kernel
theorem dX6_shard_122 : decode cX6_shard 122 = .ok (.getfield 141, 3) := by decide +kernel
theorem dX6_shard_125 : decode cX6_shard 125 = .ok (.iconst 0, 1) := by decide +kernel
theorem dX6_shard_126 : decode cX6_shard 126 = .ok (.iload_n 1, 1) := by decide +kernel
theorem dX6_shard_127 : decode cX6_shard 127 = .ok (.invokevirtual 218, 3) := by decide +kernel
theorem dX6_shard_130 : decode cX6_shard 130 = .ok (.ireturn, 1) := by decide +kernel
theorem dX6_shard_131 : decode cX6_shard 131 = .ok (.aload_n 0, 1) := by decide +kernel
theorem dX6_shard_132 : decode cX6_shard 132 = .ok (.invokevirtual 128, 3) := by decide +kernel
theorem dX6_shard_135 : decode cX6_shard 135 = .ok (.iload_n 1, 1) := by decide +kernel
theorem dX6_shard_136 : decode cX6_shard 136 = .ok (.invokevirtual 221, 3) := by decide +kernel
theorem dX6_shard_139 : decode cX6_shard 139 = .ok (.ireturn, 1) := by decide +kernel
theorem dX6_shard_140 : decode cX6_shard 140 = .ok (.new 63, 3) := by decide +kernel
theorem dX6_shard_143 : decode cX6_shard 143 = .ok (.dup, 1) := by decide +kernel
theorem dX6_shard_144 : decode cX6_shard 144 = .ok (.ldc 151, 2) := by decide +kernel
theorem dX6_shard_146 : decode cX6_shard 146 = .ok (.invokespecial 67, 3) := by decide +kernel
theorem dX6_shard_149 : decode cX6_shard 149 = .ok (.athrow, 1) := by decide +kernel
theorem dX6_route_0 : decode cX6_route 0 = .ok (.iload_n 1, 1) := by decide +kernel
theorem dX6_route_1 : decode cX6_route 1 = .ok (.invokestatic 224, 3) := by decide +kernel
theorem dX6_route_4 : decode cX6_route 4 = .ok (.bipush 32, 2) := by decide +kernel
theorem dX6_route_6 : decode cX6_route 6 = .ok (.irem, 1) := by decide +kernel
theorem dX6_route_7 : decode cX6_route 7 = .ok (.istore_n 2, 1) := by decide +kernel
theorem dX6_route_8 : decode cX6_route 8 = .ok (.aload_n 0, 1) := by decide +kernel
theorem dX6_route_9 : decode cX6_route 9 = .ok (.getfield 12, 3) := by decide +kernel
theorem dX6_route_12 : decode cX6_route 12 = .ok (.iload_n 2, 1) := by decide +kernel
theorem dX6_route_13 : decode cX6_route 13 = .ok (.invokevirtual 215, 3) := by decide +kernel
theorem dX6_route_16 : decode cX6_route 16 = .ok (.ifCond .ne 13, 3) := by decide +kernel
theorem dX6_route_19 : decode cX6_route 19 = .ok (.new 187, 3) := by decide +kernel
theorem dX6_route_22 : decode cX6_route 22 = .ok (.dup, 1) := by decide +kernel
theorem dX6_route_23 : decode cX6_route 23 = .ok (.ldc 227, 2) := by decide +kernel
theorem dX6_route_25 : decode cX6_route 25 = .ok (.invokespecial 191, 3) := by decide +kernel
theorem dX6_route_28 : decode cX6_route 28 = .ok (.athrow, 1) := by decide +kernel
theorem dX6_route_29 : decode cX6_route 29 = .ok (.aload_n 0, 1) := by decide +kernel
theorem dX6_route_30 : decode cX6_route 30 = .ok (.getfield 12, 3) := by decide +kernel
theorem dX6_route_33 : decode cX6_route 33 = .ok (.iload_n 2, 1) := by decide +kernel
theorem dX6_route_34 : decode cX6_route 34 = .ok (.invokevirtual 209, 3) := by decide +kernel
theorem dX6_route_37 : decode cX6_route 37 = .ok (.ireturn, 1) := by decide +kernel
theorem dX6_pending_0 : decode cX6_pending 0 = .ok (.aload_n 0, 1) := by decide +kernel
theorem dX6_pending_1 : decode cX6_pending 1 = .ok (.invokevirtual 128, 3) := by decide +kernel
theorem dX6_pending_4 : decode cX6_pending 4 = .ok (.aload_n 0, 1) := by decide +kernel
theorem dX6_pending_5 : decode cX6_pending 5 = .ok (.getfield 12, 3) := by decide +kernel
theorem dX6_pending_8 : decode cX6_pending 8 = .ok (.invokevirtual 229, 3) := by decide +kernel
theorem dX6_pending_11 : decode cX6_pending 11 = .ok (.ireturn, 1) := by decide +kernel
theorem dX6_changedIf_0 : decode cX6_changedIf 0 = .ok (.iload_n 1, 1) := by decide +kernel
theorem dX6_changedIf_1 : decode cX6_changedIf 1 = .ok (.invokestatic 125, 3) := by decide +kernel
theorem dX6_changedIf_4 : decode cX6_changedIf 4 = .ok (.ifCond .ne 13, 3) := by decide +kernel
theorem dX6_changedIf_7 : decode cX6_changedIf 7 = .ok (.new 89, 3) := by decide +kernel
theorem dX6_changedIf_10 : decode cX6_changedIf 10 = .ok (.dup, 1) := by decide +kernel
theorem dX6_changedIf_11 : decode cX6_changedIf 11 = .ok (.ldc 91, 2) := by decide +kernel
theorem dX6_changedIf_13 : decode cX6_changedIf 13 = .ok (.invokespecial 93, 3) := by decide +kernel
theorem dX6_changedIf_16 : decode cX6_changedIf 16 = .ok (.athrow, 1) := by decide +kernel
theorem dX6_changedIf_17 : decode cX6_changedIf 17 = .ok (.iload_n 2, 1) := by decide +kernel
theorem dX6_changedIf_18 : decode cX6_changedIf 18 = .ok (.ifCond .eq 20, 3) := by decide +kernel
theorem dX6_changedIf_21 : decode cX6_changedIf 21 = .ok (.iload_n 2, 1) := by decide +kernel
theorem dX6_changedIf_22 : decode cX6_changedIf 22 = .ok (.invokestatic 59, 3) := by decide +kernel
theorem dX6_changedIf_25 : decode cX6_changedIf 25 = .ok (.ifCond .ne 13, 3) := by decide +kernel
theorem dX6_changedIf_28 : decode cX6_changedIf 28 = .ok (.new 63, 3) := by decide +kernel
theorem dX6_changedIf_31 : decode cX6_changedIf 31 = .ok (.dup, 1) := by decide +kernel
theorem dX6_changedIf_32 : decode cX6_changedIf 32 = .ok (.ldc 65, 2) := by decide +kernel
theorem dX6_changedIf_34 : decode cX6_changedIf 34 = .ok (.invokespecial 67, 3) := by decide +kernel
theorem dX6_changedIf_37 : decode cX6_changedIf 37 = .ok (.athrow, 1) := by decide +kernel
theorem dX6_changedIf_38 : decode cX6_changedIf 38 = .ok (.aload_n 0, 1) := by decide +kernel
theorem dX6_changedIf_39 : decode cX6_changedIf 39 = .ok (.getfield 12, 3) := by decide +kernel
theorem dX6_changedIf_42 : decode cX6_changedIf 42 = .ok (.iload_n 1, 1) := by decide +kernel
theorem dX6_changedIf_43 : decode cX6_changedIf 43 = .ok (.invokevirtual 116, 3) := by decide +kernel
theorem dX6_changedIf_46 : decode cX6_changedIf 46 = .ok (.iconst 1, 1) := by decide +kernel
theorem dX6_changedIf_47 : decode cX6_changedIf 47 = .ok (.if_icmp .eq 13, 3) := by decide +kernel
theorem dX6_changedIf_50 : decode cX6_changedIf 50 = .ok (.new 74, 3) := by decide +kernel
theorem dX6_changedIf_53 : decode cX6_changedIf 53 = .ok (.dup, 1) := by decide +kernel
theorem dX6_changedIf_54 : decode cX6_changedIf 54 = .ok (.ldc 97, 2) := by decide +kernel
theorem dX6_changedIf_56 : decode cX6_changedIf 56 = .ok (.invokespecial 78, 3) := by decide +kernel
theorem dX6_changedIf_59 : decode cX6_changedIf 59 = .ok (.athrow, 1) := by decide +kernel
theorem dX6_changedIf_60 : decode cX6_changedIf 60 = .ok (.aload_n 0, 1) := by decide +kernel
theorem dX6_changedIf_61 : decode cX6_changedIf 61 = .ok (.getfield 16, 3) := by decide +kernel
theorem dX6_changedIf_64 : decode cX6_changedIf 64 = .ok (.aload_n 0, 1) := by decide +kernel
theorem dX6_changedIf_65 : decode cX6_changedIf 65 = .ok (.getfield 12, 3) := by decide +kernel
theorem dX6_changedIf_68 : decode cX6_changedIf 68 = .ok (.invokevirtual 233, 3) := by decide +kernel
theorem dX6_changedIf_71 : decode cX6_changedIf 71 = .ok (.iload_n 2, 1) := by decide +kernel
theorem dX6_changedIf_72 : decode cX6_changedIf 72 = .ok (.ifCond .ne 14, 3) := by decide +kernel
theorem dX6_changedIf_75 : decode cX6_changedIf 75 = .ok (.aload_n 0, 1) := by decide +kernel
theorem dX6_changedIf_76 : decode cX6_changedIf 76 = .ok (.getfield 16, 3) := by decide +kernel
theorem dX6_changedIf_79 : decode cX6_changedIf 79 = .ok (.iload_n 1, 1) := by decide +kernel
theorem dX6_changedIf_80 : decode cX6_changedIf 80 = .ok (.invokevirtual 237, 3) := by decide +kernel
theorem dX6_changedIf_83 : decode cX6_changedIf 83 = .ok (.goto 13, 3) := by decide +kernel
theorem dX6_changedIf_86 : decode cX6_changedIf 86 = .ok (.aload_n 0, 1) := by decide +kernel
theorem dX6_changedIf_87 : decode cX6_changedIf 87 = .ok (.getfield 16, 3) := by decide +kernel
theorem dX6_changedIf_90 : decode cX6_changedIf 90 = .ok (.iload_n 1, 1) := by decide +kernel
theorem dX6_changedIf_91 : decode cX6_changedIf 91 = .ok (.iload_n 2, 1) := by decide +kernel
theorem dX6_changedIf_92 : decode cX6_changedIf 92 = .ok (.invokevirtual 122, 3) := by decide +kernel
theorem dX6_changedIf_95 : decode cX6_changedIf 95 = .ok (.pop, 1) := by decide +kernel
theorem dX6_changedIf_96 : decode cX6_changedIf 96 = .ok (.aload_n 0, 1) := by decide +kernel
theorem dX6_changedIf_97 : decode cX6_changedIf 97 = .ok (.getfield 56, 3) := by decide +kernel
theorem dX6_changedIf_100 : decode cX6_changedIf 100 = .ok (.aload_n 0, 1) := by decide +kernel
theorem dX6_changedIf_101 : decode cX6_changedIf 101 = .ok (.getfield 16, 3) := by decide +kernel
theorem dX6_changedIf_104 : decode cX6_changedIf 104 = .ok (.invokevirtual 241, 3) := by decide +kernel
theorem dX6_changedIf_107 : decode cX6_changedIf 107 = .ok (.aload_n 0, 1) := by decide +kernel
theorem dX6_changedIf_108 : decode cX6_changedIf 108 = .ok (.getfield 56, 3) := by decide +kernel
theorem dX6_changedIf_111 : decode cX6_changedIf 111 = .ok (.aload_n 0, 1) := by decide +kernel
theorem dX6_changedIf_112 : decode cX6_changedIf 112 = .ok (.invokevirtual 128, 3) := by decide +kernel
theorem dX6_changedIf_115 : decode cX6_changedIf 115 = .ok (.invokevirtual 244, 3) := by decide +kernel
theorem dX6_changedIf_118 : decode cX6_changedIf 118 = .ok (.ireturn, 1) := by decide +kernel
theorem dX6_leastSlack_0 : decode cX6_leastSlack 0 = .ok (.aload_n 0, 1) := by decide +kernel
theorem dX6_leastSlack_1 : decode cX6_leastSlack 1 = .ok (.invokevirtual 128, 3) := by decide +kernel
theorem dX6_leastSlack_4 : decode cX6_leastSlack 4 = .ok (.astore_n 1, 1) := by decide +kernel
theorem dX6_leastSlack_5 : decode cX6_leastSlack 5 = .ok (.aload_n 1, 1) := by decide +kernel
theorem dX6_leastSlack_6 : decode cX6_leastSlack 6 = .ok (.getfield 167, 3) := by decide +kernel
theorem dX6_leastSlack_9 : decode cX6_leastSlack 9 = .ok (.ifCond .ne 13, 3) := by decide +kernel
theorem dX6_leastSlack_12 : decode cX6_leastSlack 12 = .ok (.new 74, 3) := by decide +kernel
theorem dX6_leastSlack_15 : decode cX6_leastSlack 15 = .ok (.dup, 1) := by decide +kernel
theorem dX6_leastSlack_16 : decode cX6_leastSlack 16 = .ok (.ldc 248, 2) := by decide +kernel
theorem dX6_leastSlack_18 : decode cX6_leastSlack 18 = .ok (.invokespecial 78, 3) := by decide +kernel
theorem dX6_leastSlack_21 : decode cX6_leastSlack 21 = .ok (.athrow, 1) := by decide +kernel
theorem dX6_leastSlack_22 : decode cX6_leastSlack 22 = .ok (.aload_n 1, 1) := by decide +kernel
theorem dX6_leastSlack_23 : decode cX6_leastSlack 23 = .ok (.aload_n 0, 1) := by decide +kernel
theorem dX6_leastSlack_24 : decode cX6_leastSlack 24 = .ok (.getfield 12, 3) := by decide +kernel
theorem dX6_leastSlack_27 : decode cX6_leastSlack 27 = .ok (.invokevirtual 250, 3) := by decide +kernel
theorem dX6_leastSlack_30 : decode cX6_leastSlack 30 = .ok (.istore_n 2, 1) := by decide +kernel
theorem dX6_leastSlack_31 : decode cX6_leastSlack 31 = .ok (.iload_n 2, 1) := by decide +kernel
theorem dX6_leastSlack_32 : decode cX6_leastSlack 32 = .ok (.iconst (-1), 1) := by decide +kernel
theorem dX6_leastSlack_33 : decode cX6_leastSlack 33 = .ok (.if_icmp .ne 13, 3) := by decide +kernel
theorem dX6_leastSlack_36 : decode cX6_leastSlack 36 = .ok (.new 187, 3) := by decide +kernel
theorem dX6_leastSlack_39 : decode cX6_leastSlack 39 = .ok (.dup, 1) := by decide +kernel
theorem dX6_leastSlack_40 : decode cX6_leastSlack 40 = .ok (.ldc 253, 2) := by decide +kernel
theorem dX6_leastSlack_42 : decode cX6_leastSlack 42 = .ok (.invokespecial 191, 3) := by decide +kernel
theorem dX6_leastSlack_45 : decode cX6_leastSlack 45 = .ok (.athrow, 1) := by decide +kernel
theorem dX6_leastSlack_46 : decode cX6_leastSlack 46 = .ok (.iload_n 2, 1) := by decide +kernel
theorem dX6_leastSlack_47 : decode cX6_leastSlack 47 = .ok (.ireturn, 1) := by decide +kernel
theorem dX6_isTickCount_0 : decode cX6_isTickCount 0 = .ok (.iload_n 0, 1) := by decide +kernel
theorem dX6_isTickCount_1 : decode cX6_isTickCount 1 = .ok (.iconst 1, 1) := by decide +kernel
theorem dX6_isTickCount_2 : decode cX6_isTickCount 2 = .ok (.if_icmp .lt 13, 3) := by decide +kernel
theorem dX6_isTickCount_5 : decode cX6_isTickCount 5 = .ok (.iload_n 0, 1) := by decide +kernel
theorem dX6_isTickCount_6 : decode cX6_isTickCount 6 = .ok (.bipush 50, 2) := by decide +kernel
theorem dX6_isTickCount_8 : decode cX6_isTickCount 8 = .ok (.if_icmp .gt 7, 3) := by decide +kernel
theorem dX6_isTickCount_11 : decode cX6_isTickCount 11 = .ok (.iconst 1, 1) := by decide +kernel
theorem dX6_isTickCount_12 : decode cX6_isTickCount 12 = .ok (.goto 4, 3) := by decide +kernel
theorem dX6_isTickCount_15 : decode cX6_isTickCount 15 = .ok (.iconst 0, 1) := by decide +kernel
theorem dX6_isTickCount_16 : decode cX6_isTickCount 16 = .ok (.ireturn, 1) := by decide +kernel
theorem dX6_tick_0 : decode cX6_tick 0 = .ok (.iload_n 1, 1) := by decide +kernel
theorem dX6_tick_1 : decode cX6_tick 1 = .ok (.invokestatic 258, 3) := by decide +kernel
theorem dX6_tick_4 : decode cX6_tick 4 = .ok (.ifCond .ne 14, 3) := by decide +kernel
theorem dX6_tick_7 : decode cX6_tick 7 = .ok (.new 63, 3) := by decide +kernel
theorem dX6_tick_10 : decode cX6_tick 10 = .ok (.dup, 1) := by decide +kernel
theorem dX6_tick_11 : decode cX6_tick 11 = .ok (.ldc_w 261, 3) := by decide +kernel
theorem dX6_tick_14 : decode cX6_tick 14 = .ok (.invokespecial 67, 3) := by decide +kernel
theorem dX6_tick_17 : decode cX6_tick 17 = .ok (.athrow, 1) := by decide +kernel
theorem dX6_tick_18 : decode cX6_tick 18 = .ok (.aload_n 0, 1) := by decide +kernel
theorem dX6_tick_19 : decode cX6_tick 19 = .ok (.invokevirtual 128, 3) := by decide +kernel
theorem dX6_tick_22 : decode cX6_tick 22 = .ok (.astore_n 2, 1) := by decide +kernel
theorem dX6_tick_23 : decode cX6_tick 23 = .ok (.aload_n 0, 1) := by decide +kernel
theorem dX6_tick_24 : decode cX6_tick 24 = .ok (.invokevirtual 79, 3) := by decide +kernel
theorem dX6_tick_27 : decode cX6_tick 27 = .ok (.aload_n 0, 1) := by decide +kernel
theorem dX6_tick_28 : decode cX6_tick 28 = .ok (.getfield 12, 3) := by decide +kernel
theorem dX6_tick_31 : decode cX6_tick 31 = .ok (.aload_n 2, 1) := by decide +kernel
theorem dX6_tick_32 : decode cX6_tick 32 = .ok (.iload_n 1, 1) := by decide +kernel
theorem dX6_tick_33 : decode cX6_tick 33 = .ok (.invokestatic 263, 3) := by decide +kernel
theorem dX6_tick_36 : decode cX6_tick 36 = .ok (.aload_n 0, 1) := by decide +kernel
theorem dX6_tick_37 : decode cX6_tick 37 = .ok (.getfield 12, 3) := by decide +kernel
theorem dX6_tick_40 : decode cX6_tick 40 = .ok (.invokevirtual 269, 3) := by decide +kernel
theorem dX6_tick_43 : decode cX6_tick 43 = .ok (.ireturn, 1) := by decide +kernel
theorem dX6_moves_0 : decode cX6_moves 0 = .ok (.aload_n 0, 1) := by decide +kernel
theorem dX6_moves_1 : decode cX6_moves 1 = .ok (.getfield 12, 3) := by decide +kernel
theorem dX6_moves_4 : decode cX6_moves 4 = .ok (.getfield 141, 3) := by decide +kernel
theorem dX6_moves_7 : decode cX6_moves 7 = .ok (.getfield 272, 3) := by decide +kernel
theorem dX6_moves_10 : decode cX6_moves 10 = .ok (.ireturn, 1) := by decide +kernel
theorem dX6_isPart_0 : decode cX6_isPart 0 = .ok (.iload_n 0, 1) := by decide +kernel
theorem dX6_isPart_1 : decode cX6_isPart 1 = .ok (.ifCond .lt 12, 3) := by decide +kernel
theorem dX6_isPart_4 : decode cX6_isPart 4 = .ok (.iload_n 0, 1) := by decide +kernel
theorem dX6_isPart_5 : decode cX6_isPart 5 = .ok (.iconst 4, 1) := by decide +kernel
theorem dX6_isPart_6 : decode cX6_isPart 6 = .ok (.if_icmp .ge 7, 3) := by decide +kernel
theorem dX6_isPart_9 : decode cX6_isPart 9 = .ok (.iconst 1, 1) := by decide +kernel
theorem dX6_isPart_10 : decode cX6_isPart 10 = .ok (.goto 4, 3) := by decide +kernel
theorem dX6_isPart_13 : decode cX6_isPart 13 = .ok (.iconst 0, 1) := by decide +kernel
theorem dX6_isPart_14 : decode cX6_isPart 14 = .ok (.ireturn, 1) := by decide +kernel
theorem dX6_move_0 : decode cX6_move 0 = .ok (.aload_n 0, 1) := by decide +kernel
theorem dX6_move_1 : decode cX6_move 1 = .ok (.getfield 12, 3) := by decide +kernel
theorem dX6_move_4 : decode cX6_move 4 = .ok (.getfield 141, 3) := by decide +kernel
theorem dX6_move_7 : decode cX6_move 7 = .ok (.iload_n 1, 1) := by decide +kernel
theorem dX6_move_8 : decode cX6_move 8 = .ok (.invokevirtual 275, 3) := by decide +kernel
theorem dX6_move_11 : decode cX6_move 11 = .ok (.ifCond .ne 14, 3) := by decide +kernel
theorem dX6_move_14 : decode cX6_move 14 = .ok (.new 89, 3) := by decide +kernel
theorem dX6_move_17 : decode cX6_move 17 = .ok (.dup, 1) := by decide +kernel
theorem dX6_move_18 : decode cX6_move 18 = .ok (.ldc_w 278, 3) := by decide +kernel
theorem dX6_move_21 : decode cX6_move 21 = .ok (.invokespecial 93, 3) := by decide +kernel
theorem dX6_move_24 : decode cX6_move 24 = .ok (.athrow, 1) := by decide +kernel
theorem dX6_move_25 : decode cX6_move 25 = .ok (.iload_n 2, 1) := by decide +kernel
theorem dX6_move_26 : decode cX6_move 26 = .ok (.invokestatic 280, 3) := by decide +kernel
theorem dX6_move_29 : decode cX6_move 29 = .ok (.ifCond .ne 13, 3) := by decide +kernel
theorem dX6_move_32 : decode cX6_move 32 = .ok (.new 63, 3) := by decide +kernel
theorem dX6_move_35 : decode cX6_move 35 = .ok (.dup, 1) := by decide +kernel
theorem dX6_move_36 : decode cX6_move 36 = .ok (.ldc 151, 2) := by decide +kernel
theorem dX6_move_38 : decode cX6_move 38 = .ok (.invokespecial 67, 3) := by decide +kernel
theorem dX6_move_41 : decode cX6_move 41 = .ok (.athrow, 1) := by decide +kernel
theorem dX6_move_42 : decode cX6_move 42 = .ok (.aload_n 0, 1) := by decide +kernel
theorem dX6_move_43 : decode cX6_move 43 = .ok (.getfield 12, 3) := by decide +kernel
theorem dX6_move_46 : decode cX6_move 46 = .ok (.getfield 141, 3) := by decide +kernel
theorem dX6_move_49 : decode cX6_move 49 = .ok (.iload_n 1, 1) := by decide +kernel
theorem dX6_move_50 : decode cX6_move 50 = .ok (.iload_n 2, 1) := by decide +kernel
theorem dX6_move_51 : decode cX6_move 51 = .ok (.invokevirtual 283, 3) := by decide +kernel
theorem dX6_move_54 : decode cX6_move 54 = .ok (.ireturn, 1) := by decide +kernel
theorem dX6_forecast_0 : decode cX6_forecast 0 = .ok (.aload_n 0, 1) := by decide +kernel
theorem dX6_forecast_1 : decode cX6_forecast 1 = .ok (.invokevirtual 128, 3) := by decide +kernel
theorem dX6_forecast_4 : decode cX6_forecast 4 = .ok (.astore_n 1, 1) := by decide +kernel
theorem dX6_forecast_5 : decode cX6_forecast 5 = .ok (.aload_n 0, 1) := by decide +kernel
theorem dX6_forecast_6 : decode cX6_forecast 6 = .ok (.getfield 16, 3) := by decide +kernel
theorem dX6_forecast_9 : decode cX6_forecast 9 = .ok (.aload_n 0, 1) := by decide +kernel
theorem dX6_forecast_10 : decode cX6_forecast 10 = .ok (.getfield 12, 3) := by decide +kernel
theorem dX6_forecast_13 : decode cX6_forecast 13 = .ok (.invokevirtual 233, 3) := by decide +kernel
theorem dX6_forecast_16 : decode cX6_forecast 16 = .ok (.aload_n 0, 1) := by decide +kernel
theorem dX6_forecast_17 : decode cX6_forecast 17 = .ok (.getfield 16, 3) := by decide +kernel
theorem dX6_forecast_20 : decode cX6_forecast 20 = .ok (.aload_n 1, 1) := by decide +kernel
theorem dX6_forecast_21 : decode cX6_forecast 21 = .ok (.invokestatic 286, 3) := by decide +kernel
theorem dX6_forecast_24 : decode cX6_forecast 24 = .ok (.istore_n 2, 1) := by decide +kernel
theorem dX6_forecast_25 : decode cX6_forecast 25 = .ok (.iload_n 2, 1) := by decide +kernel
theorem dX6_forecast_26 : decode cX6_forecast 26 = .ok (.iconst (-1), 1) := by decide +kernel
theorem dX6_forecast_27 : decode cX6_forecast 27 = .ok (.if_icmp .ne 14, 3) := by decide +kernel
theorem dX6_forecast_30 : decode cX6_forecast 30 = .ok (.new 187, 3) := by decide +kernel
theorem dX6_forecast_33 : decode cX6_forecast 33 = .ok (.dup, 1) := by decide +kernel
theorem dX6_forecast_34 : decode cX6_forecast 34 = .ok (.ldc_w 290, 3) := by decide +kernel
theorem dX6_forecast_37 : decode cX6_forecast 37 = .ok (.invokespecial 191, 3) := by decide +kernel
theorem dX6_forecast_40 : decode cX6_forecast 40 = .ok (.athrow, 1) := by decide +kernel
theorem dX6_forecast_41 : decode cX6_forecast 41 = .ok (.iload_n 2, 1) := by decide +kernel
theorem dX6_forecast_42 : decode cX6_forecast 42 = .ok (.ireturn, 1) := by decide +kernel
theorem dX6_statistic_0 : decode cX6_statistic 0 = .ok (.iload_n 1, 1) := by decide +kernel
theorem dX6_statistic_1 : decode cX6_statistic 1 = .ok (.ifCond .lt 9, 3) := by decide +kernel
theorem dX6_statistic_4 : decode cX6_statistic 4 = .ok (.iload_n 1, 1) := by decide +kernel
theorem dX6_statistic_5 : decode cX6_statistic 5 = .ok (.bipush 7, 2) := by decide +kernel
theorem dX6_statistic_7 : decode cX6_statistic 7 = .ok (.if_icmp .lt 13, 3) := by decide +kernel
theorem dX6_statistic_10 : decode cX6_statistic 10 = .ok (.new 63, 3) := by decide +kernel
theorem dX6_statistic_13 : decode cX6_statistic 13 = .ok (.dup, 1) := by decide +kernel
theorem dX6_statistic_14 : decode cX6_statistic 14 = .ok (.ldc 151, 2) := by decide +kernel
theorem dX6_statistic_16 : decode cX6_statistic 16 = .ok (.invokespecial 67, 3) := by decide +kernel
theorem dX6_statistic_19 : decode cX6_statistic 19 = .ok (.athrow, 1) := by decide +kernel
theorem dX6_statistic_20 : decode cX6_statistic 20 = .ok (.aload_n 0, 1) := by decide +kernel
theorem dX6_statistic_21 : decode cX6_statistic 21 = .ok (.getfield 12, 3) := by decide +kernel
theorem dX6_statistic_24 : decode cX6_statistic 24 = .ok (.getfield 292, 3) := by decide +kernel
theorem dX6_statistic_27 : decode cX6_statistic 27 = .ok (.iload_n 1, 1) := by decide +kernel
theorem dX6_statistic_28 : decode cX6_statistic 28 = .ok (.iaload, 1) := by decide +kernel
theorem dX6_statistic_29 : decode cX6_statistic 29 = .ok (.ireturn, 1) := by decide +kernel
theorem dX6_events_0 : decode cX6_events 0 = .ok (.aload_n 0, 1) := by decide +kernel
theorem dX6_events_1 : decode cX6_events 1 = .ok (.getfield 12, 3) := by decide +kernel
theorem dX6_events_4 : decode cX6_events 4 = .ok (.getfield 295, 3) := by decide +kernel
theorem dX6_events_7 : decode cX6_events 7 = .ok (.getfield 272, 3) := by decide +kernel
theorem dX6_events_10 : decode cX6_events 10 = .ok (.ireturn, 1) := by decide +kernel
theorem dX6_event_0 : decode cX6_event 0 = .ok (.aload_n 0, 1) := by decide +kernel
theorem dX6_event_1 : decode cX6_event 1 = .ok (.getfield 12, 3) := by decide +kernel
theorem dX6_event_4 : decode cX6_event 4 = .ok (.getfield 295, 3) := by decide +kernel
theorem dX6_event_7 : decode cX6_event 7 = .ok (.iload_n 1, 1) := by decide +kernel
theorem dX6_event_8 : decode cX6_event 8 = .ok (.invokevirtual 275, 3) := by decide +kernel
theorem dX6_event_11 : decode cX6_event 11 = .ok (.ifCond .ne 14, 3) := by decide +kernel
theorem dX6_event_14 : decode cX6_event 14 = .ok (.new 89, 3) := by decide +kernel
theorem dX6_event_17 : decode cX6_event 17 = .ok (.dup, 1) := by decide +kernel
theorem dX6_event_18 : decode cX6_event 18 = .ok (.ldc_w 298, 3) := by decide +kernel
theorem dX6_event_21 : decode cX6_event 21 = .ok (.invokespecial 93, 3) := by decide +kernel
theorem dX6_event_24 : decode cX6_event 24 = .ok (.athrow, 1) := by decide +kernel
theorem dX6_event_25 : decode cX6_event 25 = .ok (.iload_n 2, 1) := by decide +kernel
theorem dX6_event_26 : decode cX6_event 26 = .ok (.invokestatic 280, 3) := by decide +kernel
theorem dX6_event_29 : decode cX6_event 29 = .ok (.ifCond .ne 13, 3) := by decide +kernel
theorem dX6_event_32 : decode cX6_event 32 = .ok (.new 63, 3) := by decide +kernel
theorem dX6_event_35 : decode cX6_event 35 = .ok (.dup, 1) := by decide +kernel
theorem dX6_event_36 : decode cX6_event 36 = .ok (.ldc 151, 2) := by decide +kernel
theorem dX6_event_38 : decode cX6_event 38 = .ok (.invokespecial 67, 3) := by decide +kernel
theorem dX6_event_41 : decode cX6_event 41 = .ok (.athrow, 1) := by decide +kernel
theorem dX6_event_42 : decode cX6_event 42 = .ok (.aload_n 0, 1) := by decide +kernel
theorem dX6_event_43 : decode cX6_event 43 = .ok (.getfield 12, 3) := by decide +kernel
theorem dX6_event_46 : decode cX6_event 46 = .ok (.getfield 295, 3) := by decide +kernel
theorem dX6_event_49 : decode cX6_event 49 = .ok (.iload_n 1, 1) := by decide +kernel
theorem dX6_event_50 : decode cX6_event 50 = .ok (.iload_n 2, 1) := by decide +kernel
theorem dX6_event_51 : decode cX6_event 51 = .ok (.invokevirtual 283, 3) := by decide +kernel
theorem dX6_event_54 : decode cX6_event 54 = .ok (.ireturn, 1) := by decide +kernel
theorem dX6_forget_0 : decode cX6_forget 0 = .ok (.iload_n 1, 1) := by decide +kernel
theorem dX6_forget_1 : decode cX6_forget 1 = .ok (.invokestatic 195, 3) := by decide +kernel
theorem dX6_forget_4 : decode cX6_forget 4 = .ok (.ifCond .ne 13, 3) := by decide +kernel
theorem dX6_forget_7 : decode cX6_forget 7 = .ok (.new 89, 3) := by decide +kernel
theorem dX6_forget_10 : decode cX6_forget 10 = .ok (.dup, 1) := by decide +kernel
theorem dX6_forget_11 : decode cX6_forget 11 = .ok (.ldc 198, 2) := by decide +kernel
theorem dX6_forget_13 : decode cX6_forget 13 = .ok (.invokespecial 93, 3) := by decide +kernel
theorem dX6_forget_16 : decode cX6_forget 16 = .ok (.athrow, 1) := by decide +kernel
theorem dX6_forget_17 : decode cX6_forget 17 = .ok (.aload_n 0, 1) := by decide +kernel
theorem dX6_forget_18 : decode cX6_forget 18 = .ok (.invokevirtual 79, 3) := by decide +kernel
theorem dX6_forget_21 : decode cX6_forget 21 = .ok (.aload_n 0, 1) := by decide +kernel
theorem dX6_forget_22 : decode cX6_forget 22 = .ok (.getfield 12, 3) := by decide +kernel
theorem dX6_forget_25 : decode cX6_forget 25 = .ok (.getfield 295, 3) := by decide +kernel
theorem dX6_forget_28 : decode cX6_forget 28 = .ok (.iconst 2, 1) := by decide +kernel
theorem dX6_forget_29 : decode cX6_forget 29 = .ok (.iload_n 1, 1) := by decide +kernel
theorem dX6_forget_30 : decode cX6_forget 30 = .ok (.invokevirtual 300, 3) := by decide +kernel
theorem dX6_forget_33 : decode cX6_forget 33 = .ok (.ireturn, 1) := by decide +kernel
theorem dX6_feed_0 : decode cX6_feed 0 = .ok (.aload_n 0, 1) := by decide +kernel
theorem dX6_feed_1 : decode cX6_feed 1 = .ok (.getfield 32, 3) := by decide +kernel
theorem dX6_feed_4 : decode cX6_feed 4 = .ok (.invokevirtual 303, 3) := by decide +kernel
theorem dX6_feed_7 : decode cX6_feed 7 = .ok (.ifCond .eq 14, 3) := by decide +kernel
theorem dX6_feed_10 : decode cX6_feed 10 = .ok (.new 74, 3) := by decide +kernel
theorem dX6_feed_13 : decode cX6_feed 13 = .ok (.dup, 1) := by decide +kernel
theorem dX6_feed_14 : decode cX6_feed 14 = .ok (.ldc_w 307, 3) := by decide +kernel
theorem dX6_feed_17 : decode cX6_feed 17 = .ok (.invokespecial 78, 3) := by decide +kernel
theorem dX6_feed_20 : decode cX6_feed 20 = .ok (.athrow, 1) := by decide +kernel
theorem dX6_feed_21 : decode cX6_feed 21 = .ok (.aload_n 0, 1) := by decide +kernel
theorem dX6_feed_22 : decode cX6_feed 22 = .ok (.getfield 32, 3) := by decide +kernel
theorem dX6_feed_25 : decode cX6_feed 25 = .ok (.iload_n 1, 1) := by decide +kernel
theorem dX6_feed_26 : decode cX6_feed 26 = .ok (.invokevirtual 309, 3) := by decide +kernel
theorem dX6_feed_29 : decode cX6_feed 29 = .ok (.ireturn, 1) := by decide +kernel
theorem dX6_obey_0 : decode cX6_obey 0 = .ok (.iload_n 1, 1) := by decide +kernel
theorem dX6_obey_1 : decode cX6_obey 1 = .ok (.tableswitch 261 100 119 #[104, 261, 133, 261, 261, 261, 261, 261, 261, 261, 95, 261, 261, 261, 162, 261, 227, 261, 261, 191], 95) := by decide +kernel
theorem dX6_obey_96 : decode cX6_obey 96 = .ok (.aload_n 0, 1) := by decide +kernel
theorem dX6_obey_97 : decode cX6_obey 97 = .ok (.getfield 16, 3) := by decide +kernel
theorem dX6_obey_100 : decode cX6_obey 100 = .ok (.iload_n 2, 1) := by decide +kernel
theorem dX6_obey_101 : decode cX6_obey 101 = .ok (.invokevirtual 357, 3) := by decide +kernel
theorem dX6_obey_104 : decode cX6_obey 104 = .ok (.ireturn, 1) := by decide +kernel
theorem dX6_obey_105 : decode cX6_obey 105 = .ok (.aload_n 0, 1) := by decide +kernel
theorem dX6_obey_106 : decode cX6_obey 106 = .ok (.getfield 16, 3) := by decide +kernel
theorem dX6_obey_109 : decode cX6_obey 109 = .ok (.iload_n 2, 1) := by decide +kernel
theorem dX6_obey_110 : decode cX6_obey 110 = .ok (.invokevirtual 94, 3) := by decide +kernel
theorem dX6_obey_113 : decode cX6_obey 113 = .ok (.ifCond .eq 19, 3) := by decide +kernel
theorem dX6_obey_116 : decode cX6_obey 116 = .ok (.aload_n 0, 1) := by decide +kernel
theorem dX6_obey_117 : decode cX6_obey 117 = .ok (.getfield 16, 3) := by decide +kernel
theorem dX6_obey_120 : decode cX6_obey 120 = .ok (.iload_n 2, 1) := by decide +kernel
theorem dX6_obey_121 : decode cX6_obey 121 = .ok (.iconst 2, 1) := by decide +kernel
theorem dX6_obey_122 : decode cX6_obey 122 = .ok (.invokevirtual 99, 3) := by decide +kernel
theorem dX6_obey_125 : decode cX6_obey 125 = .ok (.ifCond .eq 7, 3) := by decide +kernel
theorem dX6_obey_128 : decode cX6_obey 128 = .ok (.iconst 1, 1) := by decide +kernel
theorem dX6_obey_129 : decode cX6_obey 129 = .ok (.goto 4, 3) := by decide +kernel
theorem dX6_obey_132 : decode cX6_obey 132 = .ok (.iconst 0, 1) := by decide +kernel
theorem dX6_obey_133 : decode cX6_obey 133 = .ok (.ireturn, 1) := by decide +kernel
theorem dX6_obey_134 : decode cX6_obey 134 = .ok (.aload_n 0, 1) := by decide +kernel
theorem dX6_obey_135 : decode cX6_obey 135 = .ok (.getfield 16, 3) := by decide +kernel
theorem dX6_obey_138 : decode cX6_obey 138 = .ok (.iload_n 2, 1) := by decide +kernel
theorem dX6_obey_139 : decode cX6_obey 139 = .ok (.invokevirtual 106, 3) := by decide +kernel
theorem dX6_obey_142 : decode cX6_obey 142 = .ok (.ifCond .eq 19, 3) := by decide +kernel
theorem dX6_obey_145 : decode cX6_obey 145 = .ok (.aload_n 0, 1) := by decide +kernel
theorem dX6_obey_146 : decode cX6_obey 146 = .ok (.getfield 16, 3) := by decide +kernel
theorem dX6_obey_149 : decode cX6_obey 149 = .ok (.iload_n 2, 1) := by decide +kernel
theorem dX6_obey_150 : decode cX6_obey 150 = .ok (.iconst 3, 1) := by decide +kernel
theorem dX6_obey_151 : decode cX6_obey 151 = .ok (.invokevirtual 99, 3) := by decide +kernel
theorem dX6_obey_154 : decode cX6_obey 154 = .ok (.ifCond .eq 7, 3) := by decide +kernel
theorem dX6_obey_157 : decode cX6_obey 157 = .ok (.iconst 1, 1) := by decide +kernel
theorem dX6_obey_158 : decode cX6_obey 158 = .ok (.goto 4, 3) := by decide +kernel
theorem dX6_obey_161 : decode cX6_obey 161 = .ok (.iconst 0, 1) := by decide +kernel
theorem dX6_obey_162 : decode cX6_obey 162 = .ok (.ireturn, 1) := by decide +kernel
theorem dX6_obey_163 : decode cX6_obey 163 = .ok (.aload_n 0, 1) := by decide +kernel
theorem dX6_obey_164 : decode cX6_obey 164 = .ok (.getfield 16, 3) := by decide +kernel
theorem dX6_obey_167 : decode cX6_obey 167 = .ok (.iload_n 2, 1) := by decide +kernel
theorem dX6_obey_168 : decode cX6_obey 168 = .ok (.invokevirtual 111, 3) := by decide +kernel
theorem dX6_obey_171 : decode cX6_obey 171 = .ok (.ifCond .eq 19, 3) := by decide +kernel
theorem dX6_obey_174 : decode cX6_obey 174 = .ok (.aload_n 0, 1) := by decide +kernel
theorem dX6_obey_175 : decode cX6_obey 175 = .ok (.getfield 16, 3) := by decide +kernel
theorem dX6_obey_178 : decode cX6_obey 178 = .ok (.iload_n 2, 1) := by decide +kernel
theorem dX6_obey_179 : decode cX6_obey 179 = .ok (.iconst 1, 1) := by decide +kernel
theorem dX6_obey_180 : decode cX6_obey 180 = .ok (.invokevirtual 99, 3) := by decide +kernel
theorem dX6_obey_183 : decode cX6_obey 183 = .ok (.ifCond .eq 7, 3) := by decide +kernel
theorem dX6_obey_186 : decode cX6_obey 186 = .ok (.iconst 1, 1) := by decide +kernel
theorem dX6_obey_187 : decode cX6_obey 187 = .ok (.goto 4, 3) := by decide +kernel
theorem dX6_obey_190 : decode cX6_obey 190 = .ok (.iconst 0, 1) := by decide +kernel
theorem dX6_obey_191 : decode cX6_obey 191 = .ok (.ireturn, 1) := by decide +kernel
theorem dX6_obey_192 : decode cX6_obey 192 = .ok (.aload_n 0, 1) := by decide +kernel
theorem dX6_obey_193 : decode cX6_obey 193 = .ok (.getfield 16, 3) := by decide +kernel
theorem dX6_obey_196 : decode cX6_obey 196 = .ok (.iload_n 2, 1) := by decide +kernel
theorem dX6_obey_197 : decode cX6_obey 197 = .ok (.invokevirtual 86, 3) := by decide +kernel
theorem dX6_obey_200 : decode cX6_obey 200 = .ok (.ifCond .eq 26, 3) := by decide +kernel
theorem dX6_obey_203 : decode cX6_obey 203 = .ok (.iload_n 3, 1) := by decide +kernel
theorem dX6_obey_204 : decode cX6_obey 204 = .ok (.invokestatic 59, 3) := by decide +kernel
theorem dX6_obey_207 : decode cX6_obey 207 = .ok (.ifCond .eq 19, 3) := by decide +kernel
theorem dX6_obey_210 : decode cX6_obey 210 = .ok (.aload_n 0, 1) := by decide +kernel
theorem dX6_obey_211 : decode cX6_obey 211 = .ok (.getfield 16, 3) := by decide +kernel
theorem dX6_obey_214 : decode cX6_obey 214 = .ok (.iload_n 2, 1) := by decide +kernel
theorem dX6_obey_215 : decode cX6_obey 215 = .ok (.iload_n 3, 1) := by decide +kernel
theorem dX6_obey_216 : decode cX6_obey 216 = .ok (.invokevirtual 122, 3) := by decide +kernel
theorem dX6_obey_219 : decode cX6_obey 219 = .ok (.ifCond .eq 7, 3) := by decide +kernel
theorem dX6_obey_222 : decode cX6_obey 222 = .ok (.iconst 1, 1) := by decide +kernel
theorem dX6_obey_223 : decode cX6_obey 223 = .ok (.goto 4, 3) := by decide +kernel
theorem dX6_obey_226 : decode cX6_obey 226 = .ok (.iconst 0, 1) := by decide +kernel
theorem dX6_obey_227 : decode cX6_obey 227 = .ok (.ireturn, 1) := by decide +kernel
theorem dX6_obey_228 : decode cX6_obey 228 = .ok (.iload_n 2, 1) := by decide +kernel
theorem dX6_obey_229 : decode cX6_obey 229 = .ok (.invokestatic 258, 3) := by decide +kernel
theorem dX6_obey_232 : decode cX6_obey 232 = .ok (.ifCond .ne 5, 3) := by decide +kernel
theorem dX6_obey_235 : decode cX6_obey 235 = .ok (.iconst 0, 1) := by decide +kernel
theorem dX6_obey_236 : decode cX6_obey 236 = .ok (.ireturn, 1) := by decide +kernel
theorem dX6_obey_237 : decode cX6_obey 237 = .ok (.aload_n 0, 1) := by decide +kernel
theorem dX6_obey_238 : decode cX6_obey 238 = .ok (.getfield 56, 3) := by decide +kernel
theorem dX6_obey_241 : decode cX6_obey 241 = .ok (.aload_n 0, 1) := by decide +kernel
theorem dX6_obey_242 : decode cX6_obey 242 = .ok (.getfield 16, 3) := by decide +kernel
theorem dX6_obey_245 : decode cX6_obey 245 = .ok (.invokevirtual 241, 3) := by decide +kernel
theorem dX6_obey_248 : decode cX6_obey 248 = .ok (.aload_n 0, 1) := by decide +kernel
theorem dX6_obey_249 : decode cX6_obey 249 = .ok (.getfield 16, 3) := by decide +kernel
theorem dX6_obey_252 : decode cX6_obey 252 = .ok (.aload_n 0, 1) := by decide +kernel
theorem dX6_obey_253 : decode cX6_obey 253 = .ok (.getfield 56, 3) := by decide +kernel
theorem dX6_obey_256 : decode cX6_obey 256 = .ok (.iload_n 2, 1) := by decide +kernel
theorem dX6_obey_257 : decode cX6_obey 257 = .ok (.invokestatic 263, 3) := by decide +kernel
theorem dX6_obey_260 : decode cX6_obey 260 = .ok (.iconst 1, 1) := by decide +kernel
theorem dX6_obey_261 : decode cX6_obey 261 = .ok (.ireturn, 1) := by decide +kernel
theorem dX6_obey_262 : decode cX6_obey 262 = .ok (.iconst 0, 1) := by decide +kernel
theorem dX6_obey_263 : decode cX6_obey 263 = .ok (.ireturn, 1) := by decide +kernel
theorem dX6_perform_0 : decode cX6_perform 0 = .ok (.aload_n 0, 1) := by decide +kernel
theorem dX6_perform_1 : decode cX6_perform 1 = .ok (.getfield 32, 3) := by decide +kernel
theorem dX6_perform_4 : decode cX6_perform 4 = .ok (.invokevirtual 313, 3) := by decide +kernel
theorem dX6_perform_7 : decode cX6_perform 7 = .ok (.istore_n 1, 1) := by decide +kernel
theorem dX6_perform_8 : decode cX6_perform 8 = .ok (.aload_n 0, 1) := by decide +kernel
theorem dX6_perform_9 : decode cX6_perform 9 = .ok (.getfield 32, 3) := by decide +kernel
theorem dX6_perform_12 : decode cX6_perform 12 = .ok (.invokevirtual 316, 3) := by decide +kernel
theorem dX6_perform_15 : decode cX6_perform 15 = .ok (.iload_n 1, 1) := by decide +kernel
theorem dX6_perform_16 : decode cX6_perform 16 = .ok (.iconst (-1), 1) := by decide +kernel
theorem dX6_perform_17 : decode cX6_perform 17 = .ok (.if_icmp .eq 8, 3) := by decide +kernel
theorem dX6_perform_20 : decode cX6_perform 20 = .ok (.bipush (-100), 2) := by decide +kernel
theorem dX6_perform_22 : decode cX6_perform 22 = .ok (.iload_n 1, 1) := by decide +kernel
theorem dX6_perform_23 : decode cX6_perform 23 = .ok (.isub, 1) := by decide +kernel
theorem dX6_perform_24 : decode cX6_perform 24 = .ok (.ireturn, 1) := by decide +kernel
theorem dX6_perform_25 : decode cX6_perform 25 = .ok (.aload_n 0, 1) := by decide +kernel
theorem dX6_perform_26 : decode cX6_perform 26 = .ok (.getfield 16, 3) := by decide +kernel
theorem dX6_perform_29 : decode cX6_perform 29 = .ok (.aload_n 0, 1) := by decide +kernel
theorem dX6_perform_30 : decode cX6_perform 30 = .ok (.getfield 12, 3) := by decide +kernel
theorem dX6_perform_33 : decode cX6_perform 33 = .ok (.invokevirtual 233, 3) := by decide +kernel
theorem dX6_perform_36 : decode cX6_perform 36 = .ok (.iconst 0, 1) := by decide +kernel
theorem dX6_perform_37 : decode cX6_perform 37 = .ok (.istore_n 2, 1) := by decide +kernel
theorem dX6_perform_38 : decode cX6_perform 38 = .ok (.iload_n 2, 1) := by decide +kernel
theorem dX6_perform_39 : decode cX6_perform 39 = .ok (.aload_n 0, 1) := by decide +kernel
theorem dX6_perform_40 : decode cX6_perform 40 = .ok (.getfield 32, 3) := by decide +kernel
theorem dX6_perform_43 : decode cX6_perform 43 = .ok (.getfield 319, 3) := by decide +kernel
theorem dX6_perform_46 : decode cX6_perform 46 = .ok (.if_icmp .ge 60, 3) := by decide +kernel
theorem dX6_perform_49 : decode cX6_perform 49 = .ok (.iload_n 2, 1) := by decide +kernel
theorem dX6_perform_50 : decode cX6_perform 50 = .ok (.bipush 20, 2) := by decide +kernel
theorem dX6_perform_52 : decode cX6_perform 52 = .ok (.if_icmp .ge 54, 3) := by decide +kernel
theorem dX6_perform_55 : decode cX6_perform 55 = .ok (.aload_n 0, 1) := by decide +kernel
theorem dX6_perform_56 : decode cX6_perform 56 = .ok (.aload_n 0, 1) := by decide +kernel
theorem dX6_perform_57 : decode cX6_perform 57 = .ok (.getfield 32, 3) := by decide +kernel
theorem dX6_perform_60 : decode cX6_perform 60 = .ok (.getfield 322, 3) := by decide +kernel
theorem dX6_perform_63 : decode cX6_perform 63 = .ok (.iload_n 2, 1) := by decide +kernel
theorem dX6_perform_64 : decode cX6_perform 64 = .ok (.iaload, 1) := by decide +kernel
theorem dX6_perform_65 : decode cX6_perform 65 = .ok (.aload_n 0, 1) := by decide +kernel
theorem dX6_perform_66 : decode cX6_perform 66 = .ok (.getfield 32, 3) := by decide +kernel
theorem dX6_perform_69 : decode cX6_perform 69 = .ok (.getfield 325, 3) := by decide +kernel
theorem dX6_perform_72 : decode cX6_perform 72 = .ok (.iload_n 2, 1) := by decide +kernel
theorem dX6_perform_73 : decode cX6_perform 73 = .ok (.iaload, 1) := by decide +kernel
theorem dX6_perform_74 : decode cX6_perform 74 = .ok (.aload_n 0, 1) := by decide +kernel
theorem dX6_perform_75 : decode cX6_perform 75 = .ok (.getfield 32, 3) := by decide +kernel
theorem dX6_perform_78 : decode cX6_perform 78 = .ok (.getfield 328, 3) := by decide +kernel
theorem dX6_perform_81 : decode cX6_perform 81 = .ok (.iload_n 2, 1) := by decide +kernel
theorem dX6_perform_82 : decode cX6_perform 82 = .ok (.iaload, 1) := by decide +kernel
theorem dX6_perform_83 : decode cX6_perform 83 = .ok (.invokevirtual 331, 3) := by decide +kernel
theorem dX6_perform_86 : decode cX6_perform 86 = .ok (.ifCond .ne 14, 3) := by decide +kernel
theorem dX6_perform_89 : decode cX6_perform 89 = .ok (.new 335, 3) := by decide +kernel
theorem dX6_perform_92 : decode cX6_perform 92 = .ok (.dup, 1) := by decide +kernel
theorem dX6_perform_93 : decode cX6_perform 93 = .ok (.ldc_w 337, 3) := by decide +kernel
theorem dX6_perform_96 : decode cX6_perform 96 = .ok (.invokespecial 339, 3) := by decide +kernel
theorem dX6_perform_99 : decode cX6_perform 99 = .ok (.athrow, 1) := by decide +kernel
theorem dX6_perform_100 : decode cX6_perform 100 = .ok (.iinc 2 1, 3) := by decide +kernel
theorem dX6_perform_103 : decode cX6_perform 103 = .ok (.goto (-65), 3) := by decide +kernel
theorem dX6_perform_106 : decode cX6_perform 106 = .ok (.aload_n 0, 1) := by decide +kernel
theorem dX6_perform_107 : decode cX6_perform 107 = .ok (.invokevirtual 79, 3) := by decide +kernel
theorem dX6_perform_110 : decode cX6_perform 110 = .ok (.aload_n 0, 1) := by decide +kernel
theorem dX6_perform_111 : decode cX6_perform 111 = .ok (.getfield 12, 3) := by decide +kernel
theorem dX6_perform_114 : decode cX6_perform 114 = .ok (.aload_n 0, 1) := by decide +kernel
theorem dX6_perform_115 : decode cX6_perform 115 = .ok (.getfield 16, 3) := by decide +kernel
theorem dX6_perform_118 : decode cX6_perform 118 = .ok (.invokevirtual 233, 3) := by decide +kernel
theorem dX6_perform_121 : decode cX6_perform 121 = .ok (.aload_n 0, 1) := by decide +kernel
theorem dX6_perform_122 : decode cX6_perform 122 = .ok (.getfield 32, 3) := by decide +kernel
theorem dX6_perform_125 : decode cX6_perform 125 = .ok (.getfield 319, 3) := by decide +kernel
theorem dX6_perform_128 : decode cX6_perform 128 = .ok (.ireturn, 1) := by decide +kernel
theorem dX6_undo_0 : decode cX6_undo 0 = .ok (.aload_n 0, 1) := by decide +kernel
theorem dX6_undo_1 : decode cX6_undo 1 = .ok (.getfield 25, 3) := by decide +kernel
theorem dX6_undo_4 : decode cX6_undo 4 = .ok (.getfield 340, 3) := by decide +kernel
theorem dX6_undo_7 : decode cX6_undo 7 = .ok (.ifCond .ne 14, 3) := by decide +kernel
theorem dX6_undo_10 : decode cX6_undo 10 = .ok (.new 74, 3) := by decide +kernel
theorem dX6_undo_13 : decode cX6_undo 13 = .ok (.dup, 1) := by decide +kernel
theorem dX6_undo_14 : decode cX6_undo 14 = .ok (.ldc_w 341, 3) := by decide +kernel
theorem dX6_undo_17 : decode cX6_undo 17 = .ok (.invokespecial 78, 3) := by decide +kernel
theorem dX6_undo_20 : decode cX6_undo 20 = .ok (.athrow, 1) := by decide +kernel
theorem dX6_undo_21 : decode cX6_undo 21 = .ok (.aload_n 0, 1) := by decide +kernel
theorem dX6_undo_22 : decode cX6_undo 22 = .ok (.getfield 25, 3) := by decide +kernel
theorem dX6_undo_25 : decode cX6_undo 25 = .ok (.aload_n 0, 1) := by decide +kernel
theorem dX6_undo_26 : decode cX6_undo 26 = .ok (.getfield 12, 3) := by decide +kernel
theorem dX6_undo_29 : decode cX6_undo 29 = .ok (.invokevirtual 343, 3) := by decide +kernel
theorem dX6_undo_32 : decode cX6_undo 32 = .ok (.aload_n 0, 1) := by decide +kernel
theorem dX6_undo_33 : decode cX6_undo 33 = .ok (.iconst 1, 1) := by decide +kernel
theorem dX6_undo_34 : decode cX6_undo 34 = .ok (.putfield 36, 3) := by decide +kernel
theorem dX6_undo_37 : decode cX6_undo 37 = .ok (.aload_n 0, 1) := by decide +kernel
theorem dX6_undo_38 : decode cX6_undo 38 = .ok (.getfield 25, 3) := by decide +kernel
theorem dX6_undo_41 : decode cX6_undo 41 = .ok (.getfield 340, 3) := by decide +kernel
theorem dX6_undo_44 : decode cX6_undo 44 = .ok (.ireturn, 1) := by decide +kernel
theorem dX6_save_0 : decode cX6_save 0 = .ok (.aload_n 0, 1) := by decide +kernel
theorem dX6_save_1 : decode cX6_save 1 = .ok (.getfield 19, 3) := by decide +kernel
theorem dX6_save_4 : decode cX6_save 4 = .ok (.aload_n 0, 1) := by decide +kernel
theorem dX6_save_5 : decode cX6_save 5 = .ok (.getfield 12, 3) := by decide +kernel
theorem dX6_save_8 : decode cX6_save 8 = .ok (.invokevirtual 233, 3) := by decide +kernel
theorem dX6_save_11 : decode cX6_save 11 = .ok (.aload_n 0, 1) := by decide +kernel
theorem dX6_save_12 : decode cX6_save 12 = .ok (.iconst 1, 1) := by decide +kernel
theorem dX6_save_13 : decode cX6_save 13 = .ok (.putfield 40, 3) := by decide +kernel
theorem dX6_save_16 : decode cX6_save 16 = .ok (.aload_n 0, 1) := by decide +kernel
theorem dX6_save_17 : decode cX6_save 17 = .ok (.getfield 12, 3) := by decide +kernel
theorem dX6_save_20 : decode cX6_save 20 = .ok (.invokevirtual 346, 3) := by decide +kernel
theorem dX6_save_23 : decode cX6_save 23 = .ok (.ireturn, 1) := by decide +kernel
theorem dX6_restore_0 : decode cX6_restore 0 = .ok (.aload_n 0, 1) := by decide +kernel
theorem dX6_restore_1 : decode cX6_restore 1 = .ok (.getfield 40, 3) := by decide +kernel
theorem dX6_restore_4 : decode cX6_restore 4 = .ok (.ifCond .ne 14, 3) := by decide +kernel
theorem dX6_restore_7 : decode cX6_restore 7 = .ok (.new 74, 3) := by decide +kernel
theorem dX6_restore_10 : decode cX6_restore 10 = .ok (.dup, 1) := by decide +kernel
theorem dX6_restore_11 : decode cX6_restore 11 = .ok (.ldc_w 349, 3) := by decide +kernel
theorem dX6_restore_14 : decode cX6_restore 14 = .ok (.invokespecial 78, 3) := by decide +kernel
theorem dX6_restore_17 : decode cX6_restore 17 = .ok (.athrow, 1) := by decide +kernel
theorem dX6_restore_18 : decode cX6_restore 18 = .ok (.aload_n 0, 1) := by decide +kernel
theorem dX6_restore_19 : decode cX6_restore 19 = .ok (.getfield 12, 3) := by decide +kernel
theorem dX6_restore_22 : decode cX6_restore 22 = .ok (.aload_n 0, 1) := by decide +kernel
theorem dX6_restore_23 : decode cX6_restore 23 = .ok (.getfield 19, 3) := by decide +kernel
theorem dX6_restore_26 : decode cX6_restore 26 = .ok (.invokevirtual 233, 3) := by decide +kernel
theorem dX6_restore_29 : decode cX6_restore 29 = .ok (.aload_n 0, 1) := by decide +kernel
theorem dX6_restore_30 : decode cX6_restore 30 = .ok (.getfield 25, 3) := by decide +kernel
theorem dX6_restore_33 : decode cX6_restore 33 = .ok (.invokevirtual 351, 3) := by decide +kernel
theorem dX6_restore_36 : decode cX6_restore 36 = .ok (.aload_n 0, 1) := by decide +kernel
theorem dX6_restore_37 : decode cX6_restore 37 = .ok (.iconst 1, 1) := by decide +kernel
theorem dX6_restore_38 : decode cX6_restore 38 = .ok (.putfield 36, 3) := by decide +kernel
theorem dX6_restore_41 : decode cX6_restore 41 = .ok (.aload_n 0, 1) := by decide +kernel
theorem dX6_restore_42 : decode cX6_restore 42 = .ok (.getfield 12, 3) := by decide +kernel
theorem dX6_restore_45 : decode cX6_restore 45 = .ok (.invokevirtual 346, 3) := by decide +kernel
theorem dX6_restore_48 : decode cX6_restore 48 = .ok (.ireturn, 1) := by decide +kernel
theorem dX7_placeOf_0 : decode cX7_placeOf 0 = .ok (.iload_n 0, 1) := by decide +kernel
theorem dX7_placeOf_1 : decode cX7_placeOf 1 = .ok (.ldc 66, 2) := by decide +kernel
theorem dX7_placeOf_3 : decode cX7_placeOf 3 = .ok (.imul, 1) := by decide +kernel
theorem dX7_placeOf_4 : decode cX7_placeOf 4 = .ok (.istore_n 1, 1) := by decide +kernel
theorem dX7_placeOf_5 : decode cX7_placeOf 5 = .ok (.iload_n 1, 1) := by decide +kernel
theorem dX7_placeOf_6 : decode cX7_placeOf 6 = .ok (.iload_n 1, 1) := by decide +kernel
theorem dX7_placeOf_7 : decode cX7_placeOf 7 = .ok (.bipush 15, 2) := by decide +kernel
theorem dX7_placeOf_9 : decode cX7_placeOf 9 = .ok (.iushr, 1) := by decide +kernel
theorem dX7_placeOf_10 : decode cX7_placeOf 10 = .ok (.ixor, 1) := by decide +kernel
theorem dX7_placeOf_11 : decode cX7_placeOf 11 = .ok (.istore_n 1, 1) := by decide +kernel
theorem dX7_placeOf_12 : decode cX7_placeOf 12 = .ok (.iload_n 1, 1) := by decide +kernel
theorem dX7_placeOf_13 : decode cX7_placeOf 13 = .ok (.ldc 67, 2) := by decide +kernel
theorem dX7_placeOf_15 : decode cX7_placeOf 15 = .ok (.imul, 1) := by decide +kernel
theorem dX7_placeOf_16 : decode cX7_placeOf 16 = .ok (.istore_n 1, 1) := by decide +kernel
theorem dX7_placeOf_17 : decode cX7_placeOf 17 = .ok (.iload_n 1, 1) := by decide +kernel
theorem dX7_placeOf_18 : decode cX7_placeOf 18 = .ok (.iload_n 1, 1) := by decide +kernel
theorem dX7_placeOf_19 : decode cX7_placeOf 19 = .ok (.bipush 13, 2) := by decide +kernel
theorem dX7_placeOf_21 : decode cX7_placeOf 21 = .ok (.iushr, 1) := by decide +kernel
theorem dX7_placeOf_22 : decode cX7_placeOf 22 = .ok (.ixor, 1) := by decide +kernel
theorem dX7_placeOf_23 : decode cX7_placeOf 23 = .ok (.istore_n 1, 1) := by decide +kernel
theorem dX7_placeOf_24 : decode cX7_placeOf 24 = .ok (.iload_n 1, 1) := by decide +kernel
theorem dX7_placeOf_25 : decode cX7_placeOf 25 = .ok (.sipush 1023, 3) := by decide +kernel
theorem dX7_placeOf_28 : decode cX7_placeOf 28 = .ok (.iand, 1) := by decide +kernel
theorem dX7_placeOf_29 : decode cX7_placeOf 29 = .ok (.ireturn, 1) := by decide +kernel
theorem dX7_init_0 : decode cX7_init 0 = .ok (.aload_n 0, 1) := by decide +kernel
theorem dX7_init_1 : decode cX7_init 1 = .ok (.invokespecial 1, 3) := by decide +kernel
theorem dX7_init_4 : decode cX7_init 4 = .ok (.aload_n 0, 1) := by decide +kernel
theorem dX7_init_5 : decode cX7_init 5 = .ok (.sipush 340, 3) := by decide +kernel
theorem dX7_init_8 : decode cX7_init 8 = .ok (.newarray .int, 2) := by decide +kernel
theorem dX7_init_10 : decode cX7_init 10 = .ok (.putfield 9, 3) := by decide +kernel
theorem dX7_init_13 : decode cX7_init 13 = .ok (.aload_n 0, 1) := by decide +kernel
theorem dX7_init_14 : decode cX7_init 14 = .ok (.sipush 340, 3) := by decide +kernel
theorem dX7_init_17 : decode cX7_init 17 = .ok (.newarray .int, 2) := by decide +kernel
theorem dX7_init_19 : decode cX7_init 19 = .ok (.putfield 13, 3) := by decide +kernel
theorem dX7_init_22 : decode cX7_init 22 = .ok (.aload_n 0, 1) := by decide +kernel
theorem dX7_init_23 : decode cX7_init 23 = .ok (.sipush 340, 3) := by decide +kernel
theorem dX7_init_26 : decode cX7_init 26 = .ok (.newarray .int, 2) := by decide +kernel
theorem dX7_init_28 : decode cX7_init 28 = .ok (.putfield 16, 3) := by decide +kernel
theorem dX7_init_31 : decode cX7_init 31 = .ok (.aload_n 0, 1) := by decide +kernel
theorem dX7_init_32 : decode cX7_init 32 = .ok (.sipush 2040, 3) := by decide +kernel
theorem dX7_init_35 : decode cX7_init 35 = .ok (.newarray .int, 2) := by decide +kernel
theorem dX7_init_37 : decode cX7_init 37 = .ok (.putfield 19, 3) := by decide +kernel
theorem dX7_init_40 : decode cX7_init 40 = .ok (.aload_n 0, 1) := by decide +kernel
theorem dX7_init_41 : decode cX7_init 41 = .ok (.bipush 32, 2) := by decide +kernel
theorem dX7_init_43 : decode cX7_init 43 = .ok (.newarray .int, 2) := by decide +kernel
theorem dX7_init_45 : decode cX7_init 45 = .ok (.putfield 22, 3) := by decide +kernel
theorem dX7_init_48 : decode cX7_init 48 = .ok (.aload_n 0, 1) := by decide +kernel
theorem dX7_init_49 : decode cX7_init 49 = .ok (.bipush 32, 2) := by decide +kernel
theorem dX7_init_51 : decode cX7_init 51 = .ok (.newarray .int, 2) := by decide +kernel
theorem dX7_init_53 : decode cX7_init 53 = .ok (.putfield 25, 3) := by decide +kernel
theorem dX7_init_56 : decode cX7_init 56 = .ok (.aload_n 0, 1) := by decide +kernel
theorem dX7_init_57 : decode cX7_init 57 = .ok (.sipush 160, 3) := by decide +kernel
theorem dX7_init_60 : decode cX7_init 60 = .ok (.newarray .int, 2) := by decide +kernel
theorem dX7_init_62 : decode cX7_init 62 = .ok (.putfield 28, 3) := by decide +kernel
theorem dX7_init_65 : decode cX7_init 65 = .ok (.aload_n 0, 1) := by decide +kernel
theorem dX7_init_66 : decode cX7_init 66 = .ok (.sipush 160, 3) := by decide +kernel
theorem dX7_init_69 : decode cX7_init 69 = .ok (.newarray .int, 2) := by decide +kernel
theorem dX7_init_71 : decode cX7_init 71 = .ok (.putfield 31, 3) := by decide +kernel
theorem dX7_init_74 : decode cX7_init 74 = .ok (.aload_n 0, 1) := by decide +kernel
theorem dX7_init_75 : decode cX7_init 75 = .ok (.sipush 160, 3) := by decide +kernel
theorem dX7_init_78 : decode cX7_init 78 = .ok (.newarray .int, 2) := by decide +kernel
theorem dX7_init_80 : decode cX7_init 80 = .ok (.putfield 34, 3) := by decide +kernel
theorem dX7_init_83 : decode cX7_init 83 = .ok (.aload_n 0, 1) := by decide +kernel
theorem dX7_init_84 : decode cX7_init 84 = .ok (.bipush 8, 2) := by decide +kernel
theorem dX7_init_86 : decode cX7_init 86 = .ok (.newarray .int, 2) := by decide +kernel
theorem dX7_init_88 : decode cX7_init 88 = .ok (.putfield 37, 3) := by decide +kernel
theorem dX7_init_91 : decode cX7_init 91 = .ok (.aload_n 0, 1) := by decide +kernel
theorem dX7_init_92 : decode cX7_init 92 = .ok (.bipush 32, 2) := by decide +kernel
theorem dX7_init_94 : decode cX7_init 94 = .ok (.newarray .int, 2) := by decide +kernel
theorem dX7_init_96 : decode cX7_init 96 = .ok (.putfield 40, 3) := by decide +kernel
theorem dX7_init_99 : decode cX7_init 99 = .ok (.aload_n 0, 1) := by decide +kernel
theorem dX7_init_100 : decode cX7_init 100 = .ok (.bipush 32, 2) := by decide +kernel
theorem dX7_init_102 : decode cX7_init 102 = .ok (.newarray .int, 2) := by decide +kernel
theorem dX7_init_104 : decode cX7_init 104 = .ok (.putfield 43, 3) := by decide +kernel
theorem dX7_init_107 : decode cX7_init 107 = .ok (.aload_n 0, 1) := by decide +kernel
theorem dX7_init_108 : decode cX7_init 108 = .ok (.bipush 8, 2) := by decide +kernel
theorem dX7_init_110 : decode cX7_init 110 = .ok (.newarray .int, 2) := by decide +kernel
theorem dX7_init_112 : decode cX7_init 112 = .ok (.putfield 46, 3) := by decide +kernel
theorem dX7_init_115 : decode cX7_init 115 = .ok (.aload_n 0, 1) := by decide +kernel
theorem dX7_init_116 : decode cX7_init 116 = .ok (.bipush 32, 2) := by decide +kernel
theorem dX7_init_118 : decode cX7_init 118 = .ok (.newarray .int, 2) := by decide +kernel
theorem dX7_init_120 : decode cX7_init 120 = .ok (.putfield 49, 3) := by decide +kernel
theorem dX7_init_123 : decode cX7_init 123 = .ok (.aload_n 0, 1) := by decide +kernel
theorem dX7_init_124 : decode cX7_init 124 = .ok (.bipush 60, 2) := by decide +kernel
theorem dX7_init_126 : decode cX7_init 126 = .ok (.newarray .int, 2) := by decide +kernel
theorem dX7_init_128 : decode cX7_init 128 = .ok (.putfield 52, 3) := by decide +kernel
theorem dX7_init_131 : decode cX7_init 131 = .ok (.aload_n 0, 1) := by decide +kernel
theorem dX7_init_132 : decode cX7_init 132 = .ok (.sipush 180, 3) := by decide +kernel
theorem dX7_init_135 : decode cX7_init 135 = .ok (.newarray .int, 2) := by decide +kernel
theorem dX7_init_137 : decode cX7_init 137 = .ok (.putfield 55, 3) := by decide +kernel
theorem dX7_init_140 : decode cX7_init 140 = .ok (.aload_n 0, 1) := by decide +kernel
theorem dX7_init_141 : decode cX7_init 141 = .ok (.getfield 9, 3) := by decide +kernel
theorem dX7_init_144 : decode cX7_init 144 = .ok (.iconst 0, 1) := by decide +kernel
theorem dX7_init_145 : decode cX7_init 145 = .ok (.bipush 25, 2) := by decide +kernel
theorem dX7_init_147 : decode cX7_init 147 = .ok (.iastore, 1) := by decide +kernel
theorem dX7_init_148 : decode cX7_init 148 = .ok (.aload_n 0, 1) := by decide +kernel
theorem dX7_init_149 : decode cX7_init 149 = .ok (.getfield 9, 3) := by decide +kernel
theorem dX7_init_152 : decode cX7_init 152 = .ok (.iconst 1, 1) := by decide +kernel
theorem dX7_init_153 : decode cX7_init 153 = .ok (.iconst 3, 1) := by decide +kernel
theorem dX7_init_154 : decode cX7_init 154 = .ok (.iastore, 1) := by decide +kernel
theorem dX7_init_155 : decode cX7_init 155 = .ok (.aload_n 0, 1) := by decide +kernel
theorem dX7_init_156 : decode cX7_init 156 = .ok (.getfield 9, 3) := by decide +kernel
theorem dX7_init_159 : decode cX7_init 159 = .ok (.iconst 2, 1) := by decide +kernel
theorem dX7_init_160 : decode cX7_init 160 = .ok (.iconst 5, 1) := by decide +kernel
theorem dX7_init_161 : decode cX7_init 161 = .ok (.iastore, 1) := by decide +kernel
theorem dX7_init_162 : decode cX7_init 162 = .ok (.iconst 0, 1) := by decide +kernel
theorem dX7_init_163 : decode cX7_init 163 = .ok (.istore_n 1, 1) := by decide +kernel
theorem dX7_init_164 : decode cX7_init 164 = .ok (.iload_n 1, 1) := by decide +kernel
theorem dX7_init_165 : decode cX7_init 165 = .ok (.bipush 32, 2) := by decide +kernel
theorem dX7_init_167 : decode cX7_init 167 = .ok (.if_icmp .ge 52, 3) := by decide +kernel
theorem dX7_init_170 : decode cX7_init 170 = .ok (.aload_n 0, 1) := by decide +kernel
theorem dX7_init_171 : decode cX7_init 171 = .ok (.getfield 9, 3) := by decide +kernel
theorem dX7_init_174 : decode cX7_init 174 = .ok (.bipush 28, 2) := by decide +kernel
theorem dX7_init_176 : decode cX7_init 176 = .ok (.iload_n 1, 1) := by decide +kernel
theorem dX7_init_177 : decode cX7_init 177 = .ok (.iadd, 1) := by decide +kernel
theorem dX7_init_178 : decode cX7_init 178 = .ok (.iconst (-1), 1) := by decide +kernel
theorem dX7_init_179 : decode cX7_init 179 = .ok (.iastore, 1) := by decide +kernel
theorem dX7_init_180 : decode cX7_init 180 = .ok (.aload_n 0, 1) := by decide +kernel
theorem dX7_init_181 : decode cX7_init 181 = .ok (.getfield 25, 3) := by decide +kernel
theorem dX7_init_184 : decode cX7_init 184 = .ok (.iload_n 1, 1) := by decide +kernel
theorem dX7_init_185 : decode cX7_init 185 = .ok (.sipush 1000, 3) := by decide +kernel
theorem dX7_init_188 : decode cX7_init 188 = .ok (.iload_n 1, 1) := by decide +kernel
theorem dX7_init_189 : decode cX7_init 189 = .ok (.iadd, 1) := by decide +kernel
theorem dX7_init_190 : decode cX7_init 190 = .ok (.invokestatic 58, 3) := by decide +kernel
theorem dX7_init_193 : decode cX7_init 193 = .ok (.iastore, 1) := by decide +kernel
theorem dX7_init_194 : decode cX7_init 194 = .ok (.aload_n 0, 1) := by decide +kernel
theorem dX7_init_195 : decode cX7_init 195 = .ok (.getfield 22, 3) := by decide +kernel
theorem dX7_init_198 : decode cX7_init 198 = .ok (.iload_n 1, 1) := by decide +kernel
theorem dX7_init_199 : decode cX7_init 199 = .ok (.iconst 1, 1) := by decide +kernel
theorem dX7_init_200 : decode cX7_init 200 = .ok (.sipush 2000, 3) := by decide +kernel
theorem dX7_init_203 : decode cX7_init 203 = .ok (.iload_n 1, 1) := by decide +kernel
theorem dX7_init_204 : decode cX7_init 204 = .ok (.iadd, 1) := by decide +kernel
theorem dX7_init_205 : decode cX7_init 205 = .ok (.invokestatic 58, 3) := by decide +kernel
theorem dX7_init_208 : decode cX7_init 208 = .ok (.bipush 9, 2) := by decide +kernel
theorem dX7_init_210 : decode cX7_init 210 = .ok (.irem, 1) := by decide +kernel
theorem dX7_init_211 : decode cX7_init 211 = .ok (.iadd, 1) := by decide +kernel
theorem dX7_init_212 : decode cX7_init 212 = .ok (.iastore, 1) := by decide +kernel
theorem dX7_init_213 : decode cX7_init 213 = .ok (.iinc 1 1, 3) := by decide +kernel
theorem dX7_init_216 : decode cX7_init 216 = .ok (.goto (-52), 3) := by decide +kernel
theorem dX7_init_219 : decode cX7_init 219 = .ok (.return_, 1) := by decide +kernel
theorem dX7_thrown_0 : decode cX7_thrown 0 = .ok (.aload_n 0, 1) := by decide +kernel
theorem dX7_thrown_1 : decode cX7_thrown 1 = .ok (.getfield 62, 3) := by decide +kernel
theorem dX7_thrown_4 : decode cX7_thrown 4 = .ok (.ireturn, 1) := by decide +kernel
theorem dX7_in_0 : decode cX7_in 0 = .ok (.iload_n 0, 1) := by decide +kernel
theorem dX7_in_1 : decode cX7_in 1 = .ok (.iload_n 1, 1) := by decide +kernel
theorem dX7_in_2 : decode cX7_in 2 = .ok (.if_icmp .lt 12, 3) := by decide +kernel
theorem dX7_in_5 : decode cX7_in 5 = .ok (.iload_n 0, 1) := by decide +kernel
theorem dX7_in_6 : decode cX7_in 6 = .ok (.iload_n 2, 1) := by decide +kernel
theorem dX7_in_7 : decode cX7_in 7 = .ok (.if_icmp .gt 7, 3) := by decide +kernel
theorem dX7_in_10 : decode cX7_in 10 = .ok (.iconst 1, 1) := by decide +kernel
theorem dX7_in_11 : decode cX7_in 11 = .ok (.goto 4, 3) := by decide +kernel
theorem dX7_in_14 : decode cX7_in 14 = .ok (.iconst 0, 1) := by decide +kernel
theorem dX7_in_15 : decode cX7_in 15 = .ok (.ireturn, 1) := by decide +kernel
theorem dX7_refuse_0 : decode cX7_refuse 0 = .ok (.aload_n 0, 1) := by decide +kernel
theorem dX7_refuse_1 : decode cX7_refuse 1 = .ok (.iload_n 1, 1) := by decide +kernel
theorem dX7_refuse_2 : decode cX7_refuse 2 = .ok (.putfield 62, 3) := by decide +kernel
theorem dX7_refuse_5 : decode cX7_refuse 5 = .ok (.iconst 0, 1) := by decide +kernel
theorem dX7_refuse_6 : decode cX7_refuse 6 = .ok (.ireturn, 1) := by decide +kernel
theorem dX7_isNode_0 : decode cX7_isNode 0 = .ok (.iload_n 0, 1) := by decide +kernel
theorem dX7_isNode_1 : decode cX7_isNode 1 = .ok (.iconst 0, 1) := by decide +kernel
theorem dX7_isNode_2 : decode cX7_isNode 2 = .ok (.bipush 7, 2) := by decide +kernel
theorem dX7_isNode_4 : decode cX7_isNode 4 = .ok (.invokestatic 68, 3) := by decide +kernel
theorem dX7_isNode_7 : decode cX7_isNode 7 = .ok (.ireturn, 1) := by decide +kernel
theorem dX7_isThere_0 : decode cX7_isThere 0 = .ok (.iload_n 1, 1) := by decide +kernel
theorem dX7_isThere_1 : decode cX7_isThere 1 = .ok (.invokestatic 72, 3) := by decide +kernel
theorem dX7_isThere_4 : decode cX7_isThere 4 = .ok (.ifCond .eq 19, 3) := by decide +kernel
theorem dX7_isThere_7 : decode cX7_isThere 7 = .ok (.aload_n 0, 1) := by decide +kernel
theorem dX7_isThere_8 : decode cX7_isThere 8 = .ok (.getfield 9, 3) := by decide +kernel
theorem dX7_isThere_11 : decode cX7_isThere 11 = .ok (.bipush 12, 2) := by decide +kernel
theorem dX7_isThere_13 : decode cX7_isThere 13 = .ok (.iload_n 1, 1) := by decide +kernel
theorem dX7_isThere_14 : decode cX7_isThere 14 = .ok (.iadd, 1) := by decide +kernel
theorem dX7_isThere_15 : decode cX7_isThere 15 = .ok (.iaload, 1) := by decide +kernel
theorem dX7_isThere_16 : decode cX7_isThere 16 = .ok (.ifCond .eq 7, 3) := by decide +kernel
theorem dX7_isThere_19 : decode cX7_isThere 19 = .ok (.iconst 1, 1) := by decide +kernel
theorem dX7_isThere_20 : decode cX7_isThere 20 = .ok (.goto 4, 3) := by decide +kernel
theorem dX7_isThere_23 : decode cX7_isThere 23 = .ok (.iconst 0, 1) := by decide +kernel
theorem dX7_isThere_24 : decode cX7_isThere 24 = .ok (.ireturn, 1) := by decide +kernel
theorem dX7_is_0 : decode cX7_is 0 = .ok (.aload_n 0, 1) := by decide +kernel
theorem dX7_is_1 : decode cX7_is 1 = .ok (.getfield 9, 3) := by decide +kernel
theorem dX7_is_4 : decode cX7_is 4 = .ok (.bipush 12, 2) := by decide +kernel
theorem dX7_is_6 : decode cX7_is 6 = .ok (.iload_n 1, 1) := by decide +kernel
theorem dX7_is_7 : decode cX7_is 7 = .ok (.iadd, 1) := by decide +kernel
theorem dX7_is_8 : decode cX7_is 8 = .ok (.iaload, 1) := by decide +kernel
theorem dX7_is_9 : decode cX7_is 9 = .ok (.iload_n 2, 1) := by decide +kernel
theorem dX7_is_10 : decode cX7_is 10 = .ok (.if_icmp .ne 7, 3) := by decide +kernel
theorem dX7_is_13 : decode cX7_is 13 = .ok (.iconst 1, 1) := by decide +kernel
theorem dX7_is_14 : decode cX7_is 14 = .ok (.goto 4, 3) := by decide +kernel
theorem dX7_is_17 : decode cX7_is 17 = .ok (.iconst 0, 1) := by decide +kernel
theorem dX7_is_18 : decode cX7_is 18 = .ok (.ireturn, 1) := by decide +kernel
theorem dX7_keepAs_0 : decode cX7_keepAs 0 = .ok (.aload_n 0, 1) := by decide +kernel
theorem dX7_keepAs_1 : decode cX7_keepAs 1 = .ok (.getfield 76, 3) := by decide +kernel
theorem dX7_keepAs_4 : decode cX7_keepAs 4 = .ok (.bipush 6, 2) := by decide +kernel
theorem dX7_keepAs_6 : decode cX7_keepAs 6 = .ok (.if_icmp .ne 44, 3) := by decide +kernel
theorem dX7_keepAs_9 : decode cX7_keepAs 9 = .ok (.iconst 0, 1) := by decide +kernel
theorem dX7_keepAs_10 : decode cX7_keepAs 10 = .ok (.istore_n 2, 1) := by decide +kernel
theorem dX7_keepAs_11 : decode cX7_keepAs 11 = .ok (.iload_n 2, 1) := by decide +kernel
theorem dX7_keepAs_12 : decode cX7_keepAs 12 = .ok (.sipush 1700, 3) := by decide +kernel
theorem dX7_keepAs_15 : decode cX7_keepAs 15 = .ok (.if_icmp .ge 25, 3) := by decide +kernel
theorem dX7_keepAs_18 : decode cX7_keepAs 18 = .ok (.aload_n 0, 1) := by decide +kernel
theorem dX7_keepAs_19 : decode cX7_keepAs 19 = .ok (.getfield 19, 3) := by decide +kernel
theorem dX7_keepAs_22 : decode cX7_keepAs 22 = .ok (.iload_n 2, 1) := by decide +kernel
theorem dX7_keepAs_23 : decode cX7_keepAs 23 = .ok (.aload_n 0, 1) := by decide +kernel
theorem dX7_keepAs_24 : decode cX7_keepAs 24 = .ok (.getfield 19, 3) := by decide +kernel
theorem dX7_keepAs_27 : decode cX7_keepAs 27 = .ok (.iload_n 2, 1) := by decide +kernel
theorem dX7_keepAs_28 : decode cX7_keepAs 28 = .ok (.sipush 340, 3) := by decide +kernel
theorem dX7_keepAs_31 : decode cX7_keepAs 31 = .ok (.iadd, 1) := by decide +kernel
theorem dX7_keepAs_32 : decode cX7_keepAs 32 = .ok (.iaload, 1) := by decide +kernel
theorem dX7_keepAs_33 : decode cX7_keepAs 33 = .ok (.iastore, 1) := by decide +kernel
theorem dX7_keepAs_34 : decode cX7_keepAs 34 = .ok (.iinc 2 1, 3) := by decide +kernel
theorem dX7_keepAs_37 : decode cX7_keepAs 37 = .ok (.goto (-26), 3) := by decide +kernel
theorem dX7_keepAs_40 : decode cX7_keepAs 40 = .ok (.aload_n 0, 1) := by decide +kernel
theorem dX7_keepAs_41 : decode cX7_keepAs 41 = .ok (.dup, 1) := by decide +kernel
theorem dX7_keepAs_42 : decode cX7_keepAs 42 = .ok (.getfield 76, 3) := by decide +kernel
theorem dX7_keepAs_45 : decode cX7_keepAs 45 = .ok (.iconst 1, 1) := by decide +kernel
theorem dX7_keepAs_46 : decode cX7_keepAs 46 = .ok (.isub, 1) := by decide +kernel
theorem dX7_keepAs_47 : decode cX7_keepAs 47 = .ok (.putfield 76, 3) := by decide +kernel
theorem dX7_keepAs_50 : decode cX7_keepAs 50 = .ok (.iconst 0, 1) := by decide +kernel
theorem dX7_keepAs_51 : decode cX7_keepAs 51 = .ok (.istore_n 2, 1) := by decide +kernel
theorem dX7_keepAs_52 : decode cX7_keepAs 52 = .ok (.iload_n 2, 1) := by decide +kernel
theorem dX7_keepAs_53 : decode cX7_keepAs 53 = .ok (.sipush 340, 3) := by decide +kernel
theorem dX7_keepAs_56 : decode cX7_keepAs 56 = .ok (.if_icmp .ge 27, 3) := by decide +kernel
theorem dX7_keepAs_59 : decode cX7_keepAs 59 = .ok (.aload_n 0, 1) := by decide +kernel
theorem dX7_keepAs_60 : decode cX7_keepAs 60 = .ok (.getfield 19, 3) := by decide +kernel
theorem dX7_keepAs_63 : decode cX7_keepAs 63 = .ok (.sipush 340, 3) := by decide +kernel
theorem dX7_keepAs_66 : decode cX7_keepAs 66 = .ok (.aload_n 0, 1) := by decide +kernel
theorem dX7_keepAs_67 : decode cX7_keepAs 67 = .ok (.getfield 76, 3) := by decide +kernel
theorem dX7_keepAs_70 : decode cX7_keepAs 70 = .ok (.imul, 1) := by decide +kernel
theorem dX7_keepAs_71 : decode cX7_keepAs 71 = .ok (.iload_n 2, 1) := by decide +kernel
theorem dX7_keepAs_72 : decode cX7_keepAs 72 = .ok (.iadd, 1) := by decide +kernel
theorem dX7_keepAs_73 : decode cX7_keepAs 73 = .ok (.aload_n 1, 1) := by decide +kernel
theorem dX7_keepAs_74 : decode cX7_keepAs 74 = .ok (.iload_n 2, 1) := by decide +kernel
theorem dX7_keepAs_75 : decode cX7_keepAs 75 = .ok (.iaload, 1) := by decide +kernel
theorem dX7_keepAs_76 : decode cX7_keepAs 76 = .ok (.iastore, 1) := by decide +kernel
theorem dX7_keepAs_77 : decode cX7_keepAs 77 = .ok (.iinc 2 1, 3) := by decide +kernel
theorem dX7_keepAs_80 : decode cX7_keepAs 80 = .ok (.goto (-28), 3) := by decide +kernel
theorem dX7_keepAs_83 : decode cX7_keepAs 83 = .ok (.aload_n 0, 1) := by decide +kernel
theorem dX7_keepAs_84 : decode cX7_keepAs 84 = .ok (.dup, 1) := by decide +kernel
theorem dX7_keepAs_85 : decode cX7_keepAs 85 = .ok (.getfield 76, 3) := by decide +kernel
theorem dX7_keepAs_88 : decode cX7_keepAs 88 = .ok (.iconst 1, 1) := by decide +kernel
theorem dX7_keepAs_89 : decode cX7_keepAs 89 = .ok (.iadd, 1) := by decide +kernel
theorem dX7_keepAs_90 : decode cX7_keepAs 90 = .ok (.putfield 76, 3) := by decide +kernel
theorem dX7_keepAs_93 : decode cX7_keepAs 93 = .ok (.return_, 1) := by decide +kernel
theorem dX7_putAside_0 : decode cX7_putAside 0 = .ok (.iconst 0, 1) := by decide +kernel
theorem dX7_putAside_1 : decode cX7_putAside 1 = .ok (.istore_n 1, 1) := by decide +kernel
theorem dX7_putAside_2 : decode cX7_putAside 2 = .ok (.iload_n 1, 1) := by decide +kernel
theorem dX7_putAside_3 : decode cX7_putAside 3 = .ok (.sipush 340, 3) := by decide +kernel
theorem dX7_putAside_6 : decode cX7_putAside 6 = .ok (.if_icmp .ge 21, 3) := by decide +kernel
theorem dX7_putAside_9 : decode cX7_putAside 9 = .ok (.aload_n 0, 1) := by decide +kernel
theorem dX7_putAside_10 : decode cX7_putAside 10 = .ok (.getfield 16, 3) := by decide +kernel
theorem dX7_putAside_13 : decode cX7_putAside 13 = .ok (.iload_n 1, 1) := by decide +kernel
theorem dX7_putAside_14 : decode cX7_putAside 14 = .ok (.aload_n 0, 1) := by decide +kernel
theorem dX7_putAside_15 : decode cX7_putAside 15 = .ok (.getfield 9, 3) := by decide +kernel
theorem dX7_putAside_18 : decode cX7_putAside 18 = .ok (.iload_n 1, 1) := by decide +kernel
theorem dX7_putAside_19 : decode cX7_putAside 19 = .ok (.iaload, 1) := by decide +kernel
theorem dX7_putAside_20 : decode cX7_putAside 20 = .ok (.iastore, 1) := by decide +kernel
theorem dX7_putAside_21 : decode cX7_putAside 21 = .ok (.iinc 1 1, 3) := by decide +kernel
theorem dX7_putAside_24 : decode cX7_putAside 24 = .ok (.goto (-22), 3) := by decide +kernel
theorem dX7_putAside_27 : decode cX7_putAside 27 = .ok (.return_, 1) := by decide +kernel
theorem dX7_takeBack_0 : decode cX7_takeBack 0 = .ok (.iconst 0, 1) := by decide +kernel
theorem dX7_takeBack_1 : decode cX7_takeBack 1 = .ok (.istore_n 1, 1) := by decide +kernel
theorem dX7_takeBack_2 : decode cX7_takeBack 2 = .ok (.iload_n 1, 1) := by decide +kernel
theorem dX7_takeBack_3 : decode cX7_takeBack 3 = .ok (.sipush 340, 3) := by decide +kernel
theorem dX7_takeBack_6 : decode cX7_takeBack 6 = .ok (.if_icmp .ge 21, 3) := by decide +kernel
theorem dX7_takeBack_9 : decode cX7_takeBack 9 = .ok (.aload_n 0, 1) := by decide +kernel
theorem dX7_takeBack_10 : decode cX7_takeBack 10 = .ok (.getfield 9, 3) := by decide +kernel
theorem dX7_takeBack_13 : decode cX7_takeBack 13 = .ok (.iload_n 1, 1) := by decide +kernel
theorem dX7_takeBack_14 : decode cX7_takeBack 14 = .ok (.aload_n 0, 1) := by decide +kernel
theorem dX7_takeBack_15 : decode cX7_takeBack 15 = .ok (.getfield 16, 3) := by decide +kernel
theorem dX7_takeBack_18 : decode cX7_takeBack 18 = .ok (.iload_n 1, 1) := by decide +kernel
theorem dX7_takeBack_19 : decode cX7_takeBack 19 = .ok (.iaload, 1) := by decide +kernel
theorem dX7_takeBack_20 : decode cX7_takeBack 20 = .ok (.iastore, 1) := by decide +kernel
theorem dX7_takeBack_21 : decode cX7_takeBack 21 = .ok (.iinc 1 1, 3) := by decide +kernel
theorem dX7_takeBack_24 : decode cX7_takeBack 24 = .ok (.goto (-22), 3) := by decide +kernel
theorem dX7_takeBack_27 : decode cX7_takeBack 27 = .ok (.return_, 1) := by decide +kernel
theorem dX7_freeNode_0 : decode cX7_freeNode 0 = .ok (.iconst 0, 1) := by decide +kernel
theorem dX7_freeNode_1 : decode cX7_freeNode 1 = .ok (.istore_n 1, 1) := by decide +kernel
theorem dX7_freeNode_2 : decode cX7_freeNode 2 = .ok (.iload_n 1, 1) := by decide +kernel
theorem dX7_freeNode_3 : decode cX7_freeNode 3 = .ok (.bipush 8, 2) := by decide +kernel
theorem dX7_freeNode_5 : decode cX7_freeNode 5 = .ok (.if_icmp .ge 18, 3) := by decide +kernel
theorem dX7_freeNode_8 : decode cX7_freeNode 8 = .ok (.aload_n 0, 1) := by decide +kernel
theorem dX7_freeNode_9 : decode cX7_freeNode 9 = .ok (.iload_n 1, 1) := by decide +kernel
theorem dX7_freeNode_10 : decode cX7_freeNode 10 = .ok (.iconst 0, 1) := by decide +kernel
theorem dX7_freeNode_11 : decode cX7_freeNode 11 = .ok (.invokevirtual 79, 3) := by decide +kernel
theorem dX7_freeNode_14 : decode cX7_freeNode 14 = .ok (.ifCond .ne 9, 3) := by decide +kernel
theorem dX7_freeNode_17 : decode cX7_freeNode 17 = .ok (.iinc 1 1, 3) := by decide +kernel
theorem dX7_freeNode_20 : decode cX7_freeNode 20 = .ok (.goto (-18), 3) := by decide +kernel
theorem dX7_freeNode_23 : decode cX7_freeNode 23 = .ok (.iload_n 1, 1) := by decide +kernel
theorem dX7_freeNode_24 : decode cX7_freeNode 24 = .ok (.ireturn, 1) := by decide +kernel
theorem dX7_adds_0 : decode cX7_adds 0 = .ok (.iload_n 1, 1) := by decide +kernel
theorem dX7_adds_1 : decode cX7_adds 1 = .ok (.iconst 1, 1) := by decide +kernel
theorem dX7_adds_2 : decode cX7_adds 2 = .ok (.iconst 5, 1) := by decide +kernel
theorem dX7_adds_3 : decode cX7_adds 3 = .ok (.invokestatic 68, 3) := by decide +kernel
theorem dX7_adds_6 : decode cX7_adds 6 = .ok (.ifCond .ne 5, 3) := by decide +kernel
theorem dX7_adds_9 : decode cX7_adds 9 = .ok (.iconst 1, 1) := by decide +kernel
theorem dX7_adds_10 : decode cX7_adds 10 = .ok (.ireturn, 1) := by decide +kernel
theorem dX7_adds_11 : decode cX7_adds 11 = .ok (.aload_n 0, 1) := by decide +kernel
theorem dX7_adds_12 : decode cX7_adds 12 = .ok (.invokevirtual 83, 3) := by decide +kernel
theorem dX7_adds_15 : decode cX7_adds 15 = .ok (.istore_n 2, 1) := by decide +kernel
theorem dX7_adds_16 : decode cX7_adds 16 = .ok (.iload_n 2, 1) := by decide +kernel
theorem dX7_adds_17 : decode cX7_adds 17 = .ok (.bipush 8, 2) := by decide +kernel
theorem dX7_adds_19 : decode cX7_adds 19 = .ok (.if_icmp .ne 5, 3) := by decide +kernel
theorem dX7_adds_22 : decode cX7_adds 22 = .ok (.iconst 2, 1) := by decide +kernel
theorem dX7_adds_23 : decode cX7_adds 23 = .ok (.ireturn, 1) := by decide +kernel
theorem dX7_adds_24 : decode cX7_adds 24 = .ok (.aload_n 0, 1) := by decide +kernel
theorem dX7_adds_25 : decode cX7_adds 25 = .ok (.getfield 9, 3) := by decide +kernel
theorem dX7_adds_28 : decode cX7_adds 28 = .ok (.bipush 12, 2) := by decide +kernel
theorem dX7_adds_30 : decode cX7_adds 30 = .ok (.iload_n 2, 1) := by decide +kernel
theorem dX7_adds_31 : decode cX7_adds 31 = .ok (.iadd, 1) := by decide +kernel
theorem dX7_adds_32 : decode cX7_adds 32 = .ok (.iconst 1, 1) := by decide +kernel
theorem dX7_adds_33 : decode cX7_adds 33 = .ok (.iastore, 1) := by decide +kernel
theorem dX7_adds_34 : decode cX7_adds 34 = .ok (.aload_n 0, 1) := by decide +kernel
theorem dX7_adds_35 : decode cX7_adds 35 = .ok (.getfield 9, 3) := by decide +kernel
theorem dX7_adds_38 : decode cX7_adds 38 = .ok (.bipush 20, 2) := by decide +kernel
theorem dX7_adds_40 : decode cX7_adds 40 = .ok (.iload_n 2, 1) := by decide +kernel
theorem dX7_adds_41 : decode cX7_adds 41 = .ok (.iadd, 1) := by decide +kernel
theorem dX7_adds_42 : decode cX7_adds 42 = .ok (.iload_n 1, 1) := by decide +kernel
theorem dX7_adds_43 : decode cX7_adds 43 = .ok (.iastore, 1) := by decide +kernel
theorem dX7_adds_44 : decode cX7_adds 44 = .ok (.iconst 0, 1) := by decide +kernel
theorem dX7_adds_45 : decode cX7_adds 45 = .ok (.ireturn, 1) := by decide +kernel
theorem dX7_drains_0 : decode cX7_drains 0 = .ok (.aload_n 0, 1) := by decide +kernel
theorem dX7_drains_1 : decode cX7_drains 1 = .ok (.iload_n 1, 1) := by decide +kernel
theorem dX7_drains_2 : decode cX7_drains 2 = .ok (.invokevirtual 87, 3) := by decide +kernel
theorem dX7_drains_5 : decode cX7_drains 5 = .ok (.ifCond .eq 12, 3) := by decide +kernel
theorem dX7_drains_8 : decode cX7_drains 8 = .ok (.aload_n 0, 1) := by decide +kernel
theorem dX7_drains_9 : decode cX7_drains 9 = .ok (.iload_n 1, 1) := by decide +kernel
theorem dX7_drains_10 : decode cX7_drains 10 = .ok (.iconst 1, 1) := by decide +kernel
theorem dX7_drains_11 : decode cX7_drains 11 = .ok (.invokevirtual 79, 3) := by decide +kernel
theorem dX7_drains_14 : decode cX7_drains 14 = .ok (.ifCond .ne 17, 3) := by decide +kernel
theorem dX7_drains_17 : decode cX7_drains 17 = .ok (.aload_n 0, 1) := by decide +kernel
theorem dX7_drains_18 : decode cX7_drains 18 = .ok (.iload_n 1, 1) := by decide +kernel
theorem dX7_drains_19 : decode cX7_drains 19 = .ok (.invokevirtual 87, 3) := by decide +kernel
theorem dX7_drains_22 : decode cX7_drains 22 = .ok (.ifCond .eq 7, 3) := by decide +kernel
theorem dX7_drains_25 : decode cX7_drains 25 = .ok (.iconst 2, 1) := by decide +kernel
theorem dX7_drains_26 : decode cX7_drains 26 = .ok (.goto 4, 3) := by decide +kernel
theorem dX7_drains_29 : decode cX7_drains 29 = .ok (.iconst 1, 1) := by decide +kernel
theorem dX7_drains_30 : decode cX7_drains 30 = .ok (.ireturn, 1) := by decide +kernel
theorem dX7_drains_31 : decode cX7_drains 31 = .ok (.aload_n 0, 1) := by decide +kernel
theorem dX7_drains_32 : decode cX7_drains 32 = .ok (.getfield 9, 3) := by decide +kernel
theorem dX7_drains_35 : decode cX7_drains 35 = .ok (.bipush 12, 2) := by decide +kernel
theorem dX7_drains_37 : decode cX7_drains 37 = .ok (.iload_n 1, 1) := by decide +kernel
theorem dX7_drains_38 : decode cX7_drains 38 = .ok (.iadd, 1) := by decide +kernel
theorem dX7_drains_39 : decode cX7_drains 39 = .ok (.iconst 2, 1) := by decide +kernel
theorem dX7_drains_40 : decode cX7_drains 40 = .ok (.iastore, 1) := by decide +kernel
theorem dX7_drains_41 : decode cX7_drains 41 = .ok (.iconst 0, 1) := by decide +kernel
theorem dX7_drains_42 : decode cX7_drains 42 = .ok (.ireturn, 1) := by decide +kernel
theorem dX7_fails_0 : decode cX7_fails 0 = .ok (.aload_n 0, 1) := by decide +kernel
theorem dX7_fails_1 : decode cX7_fails 1 = .ok (.iload_n 1, 1) := by decide +kernel
theorem dX7_fails_2 : decode cX7_fails 2 = .ok (.invokevirtual 87, 3) := by decide +kernel
theorem dX7_fails_5 : decode cX7_fails 5 = .ok (.ifCond .eq 12, 3) := by decide +kernel
theorem dX7_fails_8 : decode cX7_fails 8 = .ok (.aload_n 0, 1) := by decide +kernel
theorem dX7_fails_9 : decode cX7_fails 9 = .ok (.iload_n 1, 1) := by decide +kernel
theorem dX7_fails_10 : decode cX7_fails 10 = .ok (.iconst 3, 1) := by decide +kernel
theorem dX7_fails_11 : decode cX7_fails 11 = .ok (.invokevirtual 79, 3) := by decide +kernel
theorem dX7_fails_14 : decode cX7_fails 14 = .ok (.ifCond .eq 17, 3) := by decide +kernel
theorem dX7_fails_17 : decode cX7_fails 17 = .ok (.aload_n 0, 1) := by decide +kernel
theorem dX7_fails_18 : decode cX7_fails 18 = .ok (.iload_n 1, 1) := by decide +kernel
theorem dX7_fails_19 : decode cX7_fails 19 = .ok (.invokevirtual 87, 3) := by decide +kernel
theorem dX7_fails_22 : decode cX7_fails 22 = .ok (.ifCond .eq 7, 3) := by decide +kernel
theorem dX7_fails_25 : decode cX7_fails 25 = .ok (.iconst 2, 1) := by decide +kernel
theorem dX7_fails_26 : decode cX7_fails 26 = .ok (.goto 4, 3) := by decide +kernel
theorem dX7_fails_29 : decode cX7_fails 29 = .ok (.iconst 1, 1) := by decide +kernel
theorem dX7_fails_30 : decode cX7_fails 30 = .ok (.ireturn, 1) := by decide +kernel
theorem dX7_fails_31 : decode cX7_fails 31 = .ok (.aload_n 0, 1) := by decide +kernel
theorem dX7_fails_32 : decode cX7_fails 32 = .ok (.getfield 9, 3) := by decide +kernel
theorem dX7_fails_35 : decode cX7_fails 35 = .ok (.bipush 12, 2) := by decide +kernel
theorem dX7_fails_37 : decode cX7_fails 37 = .ok (.iload_n 1, 1) := by decide +kernel
theorem dX7_fails_38 : decode cX7_fails 38 = .ok (.iadd, 1) := by decide +kernel
theorem dX7_fails_39 : decode cX7_fails 39 = .ok (.iconst 3, 1) := by decide +kernel
theorem dX7_fails_40 : decode cX7_fails 40 = .ok (.iastore, 1) := by decide +kernel
theorem dX7_fails_41 : decode cX7_fails 41 = .ok (.iconst 0, 1) := by decide +kernel
theorem dX7_fails_42 : decode cX7_fails 42 = .ok (.ireturn, 1) := by decide +kernel
theorem dX7_recovers_0 : decode cX7_recovers 0 = .ok (.aload_n 0, 1) := by decide +kernel
theorem dX7_recovers_1 : decode cX7_recovers 1 = .ok (.iload_n 1, 1) := by decide +kernel
theorem dX7_recovers_2 : decode cX7_recovers 2 = .ok (.invokevirtual 87, 3) := by decide +kernel
theorem dX7_recovers_5 : decode cX7_recovers 5 = .ok (.ifCond .eq 12, 3) := by decide +kernel
theorem dX7_recovers_8 : decode cX7_recovers 8 = .ok (.aload_n 0, 1) := by decide +kernel
theorem dX7_recovers_9 : decode cX7_recovers 9 = .ok (.iload_n 1, 1) := by decide +kernel
theorem dX7_recovers_10 : decode cX7_recovers 10 = .ok (.iconst 1, 1) := by decide +kernel
theorem dX7_recovers_11 : decode cX7_recovers 11 = .ok (.invokevirtual 79, 3) := by decide +kernel
theorem dX7_recovers_14 : decode cX7_recovers 14 = .ok (.ifCond .eq 17, 3) := by decide +kernel
theorem dX7_recovers_17 : decode cX7_recovers 17 = .ok (.aload_n 0, 1) := by decide +kernel
theorem dX7_recovers_18 : decode cX7_recovers 18 = .ok (.iload_n 1, 1) := by decide +kernel
theorem dX7_recovers_19 : decode cX7_recovers 19 = .ok (.invokevirtual 87, 3) := by decide +kernel
theorem dX7_recovers_22 : decode cX7_recovers 22 = .ok (.ifCond .eq 7, 3) := by decide +kernel
theorem dX7_recovers_25 : decode cX7_recovers 25 = .ok (.iconst 2, 1) := by decide +kernel
theorem dX7_recovers_26 : decode cX7_recovers 26 = .ok (.goto 4, 3) := by decide +kernel
theorem dX7_recovers_29 : decode cX7_recovers 29 = .ok (.iconst 1, 1) := by decide +kernel
theorem dX7_recovers_30 : decode cX7_recovers 30 = .ok (.ireturn, 1) := by decide +kernel
theorem dX7_recovers_31 : decode cX7_recovers 31 = .ok (.aload_n 0, 1) := by decide +kernel
theorem dX7_recovers_32 : decode cX7_recovers 32 = .ok (.getfield 9, 3) := by decide +kernel
theorem dX7_recovers_35 : decode cX7_recovers 35 = .ok (.bipush 12, 2) := by decide +kernel
theorem dX7_recovers_37 : decode cX7_recovers 37 = .ok (.iload_n 1, 1) := by decide +kernel
theorem dX7_recovers_38 : decode cX7_recovers 38 = .ok (.iadd, 1) := by decide +kernel
theorem dX7_recovers_39 : decode cX7_recovers 39 = .ok (.iconst 1, 1) := by decide +kernel
theorem dX7_recovers_40 : decode cX7_recovers 40 = .ok (.iastore, 1) := by decide +kernel
theorem dX7_recovers_41 : decode cX7_recovers 41 = .ok (.iconst 0, 1) := by decide +kernel
theorem dX7_recovers_42 : decode cX7_recovers 42 = .ok (.ireturn, 1) := by decide +kernel
theorem dX7_weighs_0 : decode cX7_weighs 0 = .ok (.aload_n 0, 1) := by decide +kernel
theorem dX7_weighs_1 : decode cX7_weighs 1 = .ok (.iload_n 1, 1) := by decide +kernel
theorem dX7_weighs_2 : decode cX7_weighs 2 = .ok (.invokevirtual 87, 3) := by decide +kernel
theorem dX7_weighs_5 : decode cX7_weighs 5 = .ok (.ifCond .eq 12, 3) := by decide +kernel
theorem dX7_weighs_8 : decode cX7_weighs 8 = .ok (.iload_n 2, 1) := by decide +kernel
theorem dX7_weighs_9 : decode cX7_weighs 9 = .ok (.iconst 1, 1) := by decide +kernel
theorem dX7_weighs_10 : decode cX7_weighs 10 = .ok (.iconst 5, 1) := by decide +kernel
theorem dX7_weighs_11 : decode cX7_weighs 11 = .ok (.invokestatic 68, 3) := by decide +kernel
theorem dX7_weighs_14 : decode cX7_weighs 14 = .ok (.ifCond .ne 17, 3) := by decide +kernel
theorem dX7_weighs_17 : decode cX7_weighs 17 = .ok (.aload_n 0, 1) := by decide +kernel
theorem dX7_weighs_18 : decode cX7_weighs 18 = .ok (.iload_n 1, 1) := by decide +kernel
theorem dX7_weighs_19 : decode cX7_weighs 19 = .ok (.invokevirtual 87, 3) := by decide +kernel
theorem dX7_weighs_22 : decode cX7_weighs 22 = .ok (.ifCond .eq 7, 3) := by decide +kernel
theorem dX7_weighs_25 : decode cX7_weighs 25 = .ok (.iconst 2, 1) := by decide +kernel
theorem dX7_weighs_26 : decode cX7_weighs 26 = .ok (.goto 4, 3) := by decide +kernel
theorem dX7_weighs_29 : decode cX7_weighs 29 = .ok (.iconst 1, 1) := by decide +kernel
theorem dX7_weighs_30 : decode cX7_weighs 30 = .ok (.ireturn, 1) := by decide +kernel
theorem dX7_weighs_31 : decode cX7_weighs 31 = .ok (.aload_n 0, 1) := by decide +kernel
theorem dX7_weighs_32 : decode cX7_weighs 32 = .ok (.getfield 9, 3) := by decide +kernel
theorem dX7_weighs_35 : decode cX7_weighs 35 = .ok (.bipush 20, 2) := by decide +kernel
theorem dX7_weighs_37 : decode cX7_weighs 37 = .ok (.iload_n 1, 1) := by decide +kernel
theorem dX7_weighs_38 : decode cX7_weighs 38 = .ok (.iadd, 1) := by decide +kernel
theorem dX7_weighs_39 : decode cX7_weighs 39 = .ok (.iload_n 2, 1) := by decide +kernel
theorem dX7_weighs_40 : decode cX7_weighs 40 = .ok (.iastore, 1) := by decide +kernel
theorem dX7_weighs_41 : decode cX7_weighs 41 = .ok (.iconst 0, 1) := by decide +kernel
theorem dX7_weighs_42 : decode cX7_weighs 42 = .ok (.ireturn, 1) := by decide +kernel
theorem dX7_putPoint_0 : decode cX7_putPoint 0 = .ok (.aload_n 0, 1) := by decide +kernel
theorem dX7_putPoint_1 : decode cX7_putPoint 1 = .ok (.getfield 125, 3) := by decide +kernel
theorem dX7_putPoint_4 : decode cX7_putPoint 4 = .ok (.istore 4, 2) := by decide +kernel
theorem dX7_putPoint_6 : decode cX7_putPoint 6 = .ok (.iload 4, 2) := by decide +kernel
theorem dX7_putPoint_8 : decode cX7_putPoint 8 = .ok (.ifCond .le 70, 3) := by decide +kernel
theorem dX7_putPoint_11 : decode cX7_putPoint 11 = .ok (.aload_n 0, 1) := by decide +kernel
theorem dX7_putPoint_12 : decode cX7_putPoint 12 = .ok (.getfield 28, 3) := by decide +kernel
theorem dX7_putPoint_15 : decode cX7_putPoint 15 = .ok (.iload 4, 2) := by decide +kernel
theorem dX7_putPoint_17 : decode cX7_putPoint 17 = .ok (.iconst 1, 1) := by decide +kernel
theorem dX7_putPoint_18 : decode cX7_putPoint 18 = .ok (.isub, 1) := by decide +kernel
theorem dX7_putPoint_19 : decode cX7_putPoint 19 = .ok (.iaload, 1) := by decide +kernel
theorem dX7_putPoint_20 : decode cX7_putPoint 20 = .ok (.iload_n 1, 1) := by decide +kernel
theorem dX7_putPoint_21 : decode cX7_putPoint 21 = .ok (.if_icmp .le 57, 3) := by decide +kernel
theorem dX7_putPoint_24 : decode cX7_putPoint 24 = .ok (.aload_n 0, 1) := by decide +kernel
theorem dX7_putPoint_25 : decode cX7_putPoint 25 = .ok (.getfield 28, 3) := by decide +kernel
theorem dX7_putPoint_28 : decode cX7_putPoint 28 = .ok (.iload 4, 2) := by decide +kernel
theorem dX7_putPoint_30 : decode cX7_putPoint 30 = .ok (.aload_n 0, 1) := by decide +kernel
theorem dX7_putPoint_31 : decode cX7_putPoint 31 = .ok (.getfield 28, 3) := by decide +kernel
theorem dX7_putPoint_34 : decode cX7_putPoint 34 = .ok (.iload 4, 2) := by decide +kernel
theorem dX7_putPoint_36 : decode cX7_putPoint 36 = .ok (.iconst 1, 1) := by decide +kernel
theorem dX7_putPoint_37 : decode cX7_putPoint 37 = .ok (.isub, 1) := by decide +kernel
theorem dX7_putPoint_38 : decode cX7_putPoint 38 = .ok (.iaload, 1) := by decide +kernel
theorem dX7_putPoint_39 : decode cX7_putPoint 39 = .ok (.iastore, 1) := by decide +kernel
theorem dX7_putPoint_40 : decode cX7_putPoint 40 = .ok (.aload_n 0, 1) := by decide +kernel
theorem dX7_putPoint_41 : decode cX7_putPoint 41 = .ok (.getfield 31, 3) := by decide +kernel
theorem dX7_putPoint_44 : decode cX7_putPoint 44 = .ok (.iload 4, 2) := by decide +kernel
theorem dX7_putPoint_46 : decode cX7_putPoint 46 = .ok (.aload_n 0, 1) := by decide +kernel
theorem dX7_putPoint_47 : decode cX7_putPoint 47 = .ok (.getfield 31, 3) := by decide +kernel
theorem dX7_putPoint_50 : decode cX7_putPoint 50 = .ok (.iload 4, 2) := by decide +kernel
theorem dX7_putPoint_52 : decode cX7_putPoint 52 = .ok (.iconst 1, 1) := by decide +kernel
theorem dX7_putPoint_53 : decode cX7_putPoint 53 = .ok (.isub, 1) := by decide +kernel
theorem dX7_putPoint_54 : decode cX7_putPoint 54 = .ok (.iaload, 1) := by decide +kernel
theorem dX7_putPoint_55 : decode cX7_putPoint 55 = .ok (.iastore, 1) := by decide +kernel
theorem dX7_putPoint_56 : decode cX7_putPoint 56 = .ok (.aload_n 0, 1) := by decide +kernel
theorem dX7_putPoint_57 : decode cX7_putPoint 57 = .ok (.getfield 34, 3) := by decide +kernel
theorem dX7_putPoint_60 : decode cX7_putPoint 60 = .ok (.iload 4, 2) := by decide +kernel
theorem dX7_putPoint_62 : decode cX7_putPoint 62 = .ok (.aload_n 0, 1) := by decide +kernel
theorem dX7_putPoint_63 : decode cX7_putPoint 63 = .ok (.getfield 34, 3) := by decide +kernel
theorem dX7_putPoint_66 : decode cX7_putPoint 66 = .ok (.iload 4, 2) := by decide +kernel
theorem dX7_putPoint_68 : decode cX7_putPoint 68 = .ok (.iconst 1, 1) := by decide +kernel
theorem dX7_putPoint_69 : decode cX7_putPoint 69 = .ok (.isub, 1) := by decide +kernel
theorem dX7_putPoint_70 : decode cX7_putPoint 70 = .ok (.iaload, 1) := by decide +kernel
theorem dX7_putPoint_71 : decode cX7_putPoint 71 = .ok (.iastore, 1) := by decide +kernel
theorem dX7_putPoint_72 : decode cX7_putPoint 72 = .ok (.iinc 4 (-1), 3) := by decide +kernel
theorem dX7_putPoint_75 : decode cX7_putPoint 75 = .ok (.goto (-69), 3) := by decide +kernel
theorem dX7_putPoint_78 : decode cX7_putPoint 78 = .ok (.aload_n 0, 1) := by decide +kernel
theorem dX7_putPoint_79 : decode cX7_putPoint 79 = .ok (.getfield 28, 3) := by decide +kernel
theorem dX7_putPoint_82 : decode cX7_putPoint 82 = .ok (.iload 4, 2) := by decide +kernel
theorem dX7_putPoint_84 : decode cX7_putPoint 84 = .ok (.iload_n 1, 1) := by decide +kernel
theorem dX7_putPoint_85 : decode cX7_putPoint 85 = .ok (.iastore, 1) := by decide +kernel
theorem dX7_putPoint_86 : decode cX7_putPoint 86 = .ok (.aload_n 0, 1) := by decide +kernel
theorem dX7_putPoint_87 : decode cX7_putPoint 87 = .ok (.getfield 31, 3) := by decide +kernel
theorem dX7_putPoint_90 : decode cX7_putPoint 90 = .ok (.iload 4, 2) := by decide +kernel
theorem dX7_putPoint_92 : decode cX7_putPoint 92 = .ok (.iload_n 2, 1) := by decide +kernel
theorem dX7_putPoint_93 : decode cX7_putPoint 93 = .ok (.iastore, 1) := by decide +kernel
theorem dX7_putPoint_94 : decode cX7_putPoint 94 = .ok (.aload_n 0, 1) := by decide +kernel
theorem dX7_putPoint_95 : decode cX7_putPoint 95 = .ok (.getfield 34, 3) := by decide +kernel
theorem dX7_putPoint_98 : decode cX7_putPoint 98 = .ok (.iload 4, 2) := by decide +kernel
theorem dX7_putPoint_100 : decode cX7_putPoint 100 = .ok (.iload_n 3, 1) := by decide +kernel
theorem dX7_putPoint_101 : decode cX7_putPoint 101 = .ok (.iastore, 1) := by decide +kernel
theorem dX7_putPoint_102 : decode cX7_putPoint 102 = .ok (.aload_n 0, 1) := by decide +kernel
theorem dX7_putPoint_103 : decode cX7_putPoint 103 = .ok (.dup, 1) := by decide +kernel
theorem dX7_putPoint_104 : decode cX7_putPoint 104 = .ok (.getfield 125, 3) := by decide +kernel
theorem dX7_putPoint_107 : decode cX7_putPoint 107 = .ok (.iconst 1, 1) := by decide +kernel
theorem dX7_putPoint_108 : decode cX7_putPoint 108 = .ok (.iadd, 1) := by decide +kernel
theorem dX7_putPoint_109 : decode cX7_putPoint 109 = .ok (.putfield 125, 3) := by decide +kernel
theorem dX7_putPoint_112 : decode cX7_putPoint 112 = .ok (.return_, 1) := by decide +kernel
theorem dX7_layRing_0 : decode cX7_layRing 0 = .ok (.aload_n 0, 1) := by decide +kernel
theorem dX7_layRing_1 : decode cX7_layRing 1 = .ok (.iconst 0, 1) := by decide +kernel
theorem dX7_layRing_2 : decode cX7_layRing 2 = .ok (.putfield 125, 3) := by decide +kernel
theorem dX7_layRing_5 : decode cX7_layRing 5 = .ok (.iconst 0, 1) := by decide +kernel
theorem dX7_layRing_6 : decode cX7_layRing 6 = .ok (.istore_n 1, 1) := by decide +kernel
theorem dX7_layRing_7 : decode cX7_layRing 7 = .ok (.iload_n 1, 1) := by decide +kernel
theorem dX7_layRing_8 : decode cX7_layRing 8 = .ok (.bipush 8, 2) := by decide +kernel
theorem dX7_layRing_10 : decode cX7_layRing 10 = .ok (.if_icmp .ge 56, 3) := by decide +kernel
theorem dX7_layRing_13 : decode cX7_layRing 13 = .ok (.iconst 0, 1) := by decide +kernel
theorem dX7_layRing_14 : decode cX7_layRing 14 = .ok (.istore_n 2, 1) := by decide +kernel
theorem dX7_layRing_15 : decode cX7_layRing 15 = .ok (.iload_n 2, 1) := by decide +kernel
theorem dX7_layRing_16 : decode cX7_layRing 16 = .ok (.iconst 4, 1) := by decide +kernel
theorem dX7_layRing_17 : decode cX7_layRing 17 = .ok (.aload_n 0, 1) := by decide +kernel
theorem dX7_layRing_18 : decode cX7_layRing 18 = .ok (.getfield 9, 3) := by decide +kernel
theorem dX7_layRing_21 : decode cX7_layRing 21 = .ok (.bipush 20, 2) := by decide +kernel
theorem dX7_layRing_23 : decode cX7_layRing 23 = .ok (.iload_n 1, 1) := by decide +kernel
theorem dX7_layRing_24 : decode cX7_layRing 24 = .ok (.iadd, 1) := by decide +kernel
theorem dX7_layRing_25 : decode cX7_layRing 25 = .ok (.iaload, 1) := by decide +kernel
theorem dX7_layRing_26 : decode cX7_layRing 26 = .ok (.imul, 1) := by decide +kernel
theorem dX7_layRing_27 : decode cX7_layRing 27 = .ok (.if_icmp .ge 33, 3) := by decide +kernel
theorem dX7_layRing_30 : decode cX7_layRing 30 = .ok (.aload_n 0, 1) := by decide +kernel
theorem dX7_layRing_31 : decode cX7_layRing 31 = .ok (.iload_n 1, 1) := by decide +kernel
theorem dX7_layRing_32 : decode cX7_layRing 32 = .ok (.iconst 1, 1) := by decide +kernel
theorem dX7_layRing_33 : decode cX7_layRing 33 = .ok (.invokevirtual 79, 3) := by decide +kernel
theorem dX7_layRing_36 : decode cX7_layRing 36 = .ok (.ifCond .eq 24, 3) := by decide +kernel
theorem dX7_layRing_39 : decode cX7_layRing 39 = .ok (.aload_n 0, 1) := by decide +kernel
theorem dX7_layRing_40 : decode cX7_layRing 40 = .ok (.bipush 64, 2) := by decide +kernel
theorem dX7_layRing_42 : decode cX7_layRing 42 = .ok (.iload_n 1, 1) := by decide +kernel
theorem dX7_layRing_43 : decode cX7_layRing 43 = .ok (.imul, 1) := by decide +kernel
theorem dX7_layRing_44 : decode cX7_layRing 44 = .ok (.iload_n 2, 1) := by decide +kernel
theorem dX7_layRing_45 : decode cX7_layRing 45 = .ok (.iadd, 1) := by decide +kernel
theorem dX7_layRing_46 : decode cX7_layRing 46 = .ok (.invokestatic 58, 3) := by decide +kernel
theorem dX7_layRing_49 : decode cX7_layRing 49 = .ok (.iload_n 1, 1) := by decide +kernel
theorem dX7_layRing_50 : decode cX7_layRing 50 = .ok (.iload_n 2, 1) := by decide +kernel
theorem dX7_layRing_51 : decode cX7_layRing 51 = .ok (.invokevirtual 128, 3) := by decide +kernel
theorem dX7_layRing_54 : decode cX7_layRing 54 = .ok (.iinc 2 1, 3) := by decide +kernel
theorem dX7_layRing_57 : decode cX7_layRing 57 = .ok (.goto (-42), 3) := by decide +kernel
theorem dX7_layRing_60 : decode cX7_layRing 60 = .ok (.iinc 1 1, 3) := by decide +kernel
theorem dX7_layRing_63 : decode cX7_layRing 63 = .ok (.goto (-56), 3) := by decide +kernel
theorem dX7_layRing_66 : decode cX7_layRing 66 = .ok (.return_, 1) := by decide +kernel
theorem dX7_successorOf_0 : decode cX7_successorOf 0 = .ok (.iconst 0, 1) := by decide +kernel
theorem dX7_successorOf_1 : decode cX7_successorOf 1 = .ok (.istore_n 2, 1) := by decide +kernel
theorem dX7_successorOf_2 : decode cX7_successorOf 2 = .ok (.iload_n 2, 1) := by decide +kernel
theorem dX7_successorOf_3 : decode cX7_successorOf 3 = .ok (.aload_n 0, 1) := by decide +kernel
theorem dX7_successorOf_4 : decode cX7_successorOf 4 = .ok (.getfield 125, 3) := by decide +kernel
theorem dX7_successorOf_7 : decode cX7_successorOf 7 = .ok (.if_icmp .ge 19, 3) := by decide +kernel
theorem dX7_successorOf_10 : decode cX7_successorOf 10 = .ok (.aload_n 0, 1) := by decide +kernel
theorem dX7_successorOf_11 : decode cX7_successorOf 11 = .ok (.getfield 28, 3) := by decide +kernel
theorem dX7_successorOf_14 : decode cX7_successorOf 14 = .ok (.iload_n 2, 1) := by decide +kernel
theorem dX7_successorOf_15 : decode cX7_successorOf 15 = .ok (.iaload, 1) := by decide +kernel
theorem dX7_successorOf_16 : decode cX7_successorOf 16 = .ok (.iload_n 1, 1) := by decide +kernel
theorem dX7_successorOf_17 : decode cX7_successorOf 17 = .ok (.if_icmp .ge 9, 3) := by decide +kernel
theorem dX7_successorOf_20 : decode cX7_successorOf 20 = .ok (.iinc 2 1, 3) := by decide +kernel
theorem dX7_successorOf_23 : decode cX7_successorOf 23 = .ok (.goto (-21), 3) := by decide +kernel
theorem dX7_successorOf_26 : decode cX7_successorOf 26 = .ok (.iload_n 2, 1) := by decide +kernel
theorem dX7_successorOf_27 : decode cX7_successorOf 27 = .ok (.aload_n 0, 1) := by decide +kernel
theorem dX7_successorOf_28 : decode cX7_successorOf 28 = .ok (.getfield 125, 3) := by decide +kernel
theorem dX7_successorOf_31 : decode cX7_successorOf 31 = .ok (.if_icmp .ne 7, 3) := by decide +kernel
theorem dX7_successorOf_34 : decode cX7_successorOf 34 = .ok (.iconst 0, 1) := by decide +kernel
theorem dX7_successorOf_35 : decode cX7_successorOf 35 = .ok (.goto 4, 3) := by decide +kernel
theorem dX7_successorOf_38 : decode cX7_successorOf 38 = .ok (.iload_n 2, 1) := by decide +kernel
theorem dX7_successorOf_39 : decode cX7_successorOf 39 = .ok (.ireturn, 1) := by decide +kernel
theorem dX7_layTargets_0 : decode cX7_layTargets 0 = .ok (.aload_n 0, 1) := by decide +kernel
theorem dX7_layTargets_1 : decode cX7_layTargets 1 = .ok (.invokevirtual 132, 3) := by decide +kernel
theorem dX7_layTargets_4 : decode cX7_layTargets 4 = .ok (.iconst 0, 1) := by decide +kernel
theorem dX7_layTargets_5 : decode cX7_layTargets 5 = .ok (.istore_n 1, 1) := by decide +kernel
theorem dX7_layTargets_6 : decode cX7_layTargets 6 = .ok (.iconst 0, 1) := by decide +kernel
theorem dX7_layTargets_7 : decode cX7_layTargets 7 = .ok (.istore_n 2, 1) := by decide +kernel
theorem dX7_layTargets_8 : decode cX7_layTargets 8 = .ok (.iload_n 2, 1) := by decide +kernel
theorem dX7_layTargets_9 : decode cX7_layTargets 9 = .ok (.bipush 8, 2) := by decide +kernel
theorem dX7_layTargets_11 : decode cX7_layTargets 11 = .ok (.if_icmp .ge 34, 3) := by decide +kernel
theorem dX7_layTargets_14 : decode cX7_layTargets 14 = .ok (.iload_n 1, 1) := by decide +kernel
theorem dX7_layTargets_15 : decode cX7_layTargets 15 = .ok (.aload_n 0, 1) := by decide +kernel
theorem dX7_layTargets_16 : decode cX7_layTargets 16 = .ok (.iload_n 2, 1) := by decide +kernel
theorem dX7_layTargets_17 : decode cX7_layTargets 17 = .ok (.iconst 1, 1) := by decide +kernel
theorem dX7_layTargets_18 : decode cX7_layTargets 18 = .ok (.invokevirtual 79, 3) := by decide +kernel
theorem dX7_layTargets_21 : decode cX7_layTargets 21 = .ok (.ifCond .eq 15, 3) := by decide +kernel
theorem dX7_layTargets_24 : decode cX7_layTargets 24 = .ok (.aload_n 0, 1) := by decide +kernel
theorem dX7_layTargets_25 : decode cX7_layTargets 25 = .ok (.getfield 9, 3) := by decide +kernel
theorem dX7_layTargets_28 : decode cX7_layTargets 28 = .ok (.bipush 20, 2) := by decide +kernel
theorem dX7_layTargets_30 : decode cX7_layTargets 30 = .ok (.iload_n 2, 1) := by decide +kernel
theorem dX7_layTargets_31 : decode cX7_layTargets 31 = .ok (.iadd, 1) := by decide +kernel
theorem dX7_layTargets_32 : decode cX7_layTargets 32 = .ok (.iaload, 1) := by decide +kernel
theorem dX7_layTargets_33 : decode cX7_layTargets 33 = .ok (.goto 4, 3) := by decide +kernel
theorem dX7_layTargets_36 : decode cX7_layTargets 36 = .ok (.iconst 0, 1) := by decide +kernel
theorem dX7_layTargets_37 : decode cX7_layTargets 37 = .ok (.iadd, 1) := by decide +kernel
theorem dX7_layTargets_38 : decode cX7_layTargets 38 = .ok (.istore_n 1, 1) := by decide +kernel
theorem dX7_layTargets_39 : decode cX7_layTargets 39 = .ok (.iinc 2 1, 3) := by decide +kernel
theorem dX7_layTargets_42 : decode cX7_layTargets 42 = .ok (.goto (-34), 3) := by decide +kernel
theorem dX7_layTargets_45 : decode cX7_layTargets 45 = .ok (.iconst 0, 1) := by decide +kernel
theorem dX7_layTargets_46 : decode cX7_layTargets 46 = .ok (.istore_n 2, 1) := by decide +kernel
theorem dX7_layTargets_47 : decode cX7_layTargets 47 = .ok (.iload_n 2, 1) := by decide +kernel
theorem dX7_layTargets_48 : decode cX7_layTargets 48 = .ok (.bipush 8, 2) := by decide +kernel
theorem dX7_layTargets_50 : decode cX7_layTargets 50 = .ok (.if_icmp .ge 64, 3) := by decide +kernel
theorem dX7_layTargets_53 : decode cX7_layTargets 53 = .ok (.aload_n 0, 1) := by decide +kernel
theorem dX7_layTargets_54 : decode cX7_layTargets 54 = .ok (.getfield 37, 3) := by decide +kernel
theorem dX7_layTargets_57 : decode cX7_layTargets 57 = .ok (.iload_n 2, 1) := by decide +kernel
theorem dX7_layTargets_58 : decode cX7_layTargets 58 = .ok (.aload_n 0, 1) := by decide +kernel
theorem dX7_layTargets_59 : decode cX7_layTargets 59 = .ok (.iload_n 2, 1) := by decide +kernel
theorem dX7_layTargets_60 : decode cX7_layTargets 60 = .ok (.iconst 1, 1) := by decide +kernel
theorem dX7_layTargets_61 : decode cX7_layTargets 61 = .ok (.invokevirtual 79, 3) := by decide +kernel
theorem dX7_layTargets_64 : decode cX7_layTargets 64 = .ok (.ifCond .eq 35, 3) := by decide +kernel
theorem dX7_layTargets_67 : decode cX7_layTargets 67 = .ok (.iconst 1, 1) := by decide +kernel
theorem dX7_layTargets_68 : decode cX7_layTargets 68 = .ok (.bipush 32, 2) := by decide +kernel
theorem dX7_layTargets_70 : decode cX7_layTargets 70 = .ok (.aload_n 0, 1) := by decide +kernel
theorem dX7_layTargets_71 : decode cX7_layTargets 71 = .ok (.getfield 9, 3) := by decide +kernel
theorem dX7_layTargets_74 : decode cX7_layTargets 74 = .ok (.bipush 20, 2) := by decide +kernel
theorem dX7_layTargets_76 : decode cX7_layTargets 76 = .ok (.iload_n 2, 1) := by decide +kernel
theorem dX7_layTargets_77 : decode cX7_layTargets 77 = .ok (.iadd, 1) := by decide +kernel
theorem dX7_layTargets_78 : decode cX7_layTargets 78 = .ok (.iaload, 1) := by decide +kernel
theorem dX7_layTargets_79 : decode cX7_layTargets 79 = .ok (.imul, 1) := by decide +kernel
theorem dX7_layTargets_80 : decode cX7_layTargets 80 = .ok (.bipush 100, 2) := by decide +kernel
theorem dX7_layTargets_82 : decode cX7_layTargets 82 = .ok (.aload_n 0, 1) := by decide +kernel
theorem dX7_layTargets_83 : decode cX7_layTargets 83 = .ok (.getfield 9, 3) := by decide +kernel
theorem dX7_layTargets_86 : decode cX7_layTargets 86 = .ok (.iconst 0, 1) := by decide +kernel
theorem dX7_layTargets_87 : decode cX7_layTargets 87 = .ok (.iaload, 1) := by decide +kernel
theorem dX7_layTargets_88 : decode cX7_layTargets 88 = .ok (.iadd, 1) := by decide +kernel
theorem dX7_layTargets_89 : decode cX7_layTargets 89 = .ok (.imul, 1) := by decide +kernel
theorem dX7_layTargets_90 : decode cX7_layTargets 90 = .ok (.bipush 100, 2) := by decide +kernel
theorem dX7_layTargets_92 : decode cX7_layTargets 92 = .ok (.iload_n 1, 1) := by decide +kernel
theorem dX7_layTargets_93 : decode cX7_layTargets 93 = .ok (.imul, 1) := by decide +kernel
theorem dX7_layTargets_94 : decode cX7_layTargets 94 = .ok (.idiv, 1) := by decide +kernel
theorem dX7_layTargets_95 : decode cX7_layTargets 95 = .ok (.iadd, 1) := by decide +kernel
theorem dX7_layTargets_96 : decode cX7_layTargets 96 = .ok (.goto 4, 3) := by decide +kernel
theorem dX7_layTargets_99 : decode cX7_layTargets 99 = .ok (.iconst 0, 1) := by decide +kernel
theorem dX7_layTargets_100 : decode cX7_layTargets 100 = .ok (.iastore, 1) := by decide +kernel
theorem dX7_layTargets_101 : decode cX7_layTargets 101 = .ok (.aload_n 0, 1) := by decide +kernel
theorem dX7_layTargets_102 : decode cX7_layTargets 102 = .ok (.getfield 46, 3) := by decide +kernel
theorem dX7_layTargets_105 : decode cX7_layTargets 105 = .ok (.iload_n 2, 1) := by decide +kernel
theorem dX7_layTargets_106 : decode cX7_layTargets 106 = .ok (.iconst 0, 1) := by decide +kernel
theorem dX7_layTargets_107 : decode cX7_layTargets 107 = .ok (.iastore, 1) := by decide +kernel
theorem dX7_layTargets_108 : decode cX7_layTargets 108 = .ok (.iinc 2 1, 3) := by decide +kernel
theorem dX7_layTargets_111 : decode cX7_layTargets 111 = .ok (.goto (-64), 3) := by decide +kernel
theorem dX7_layTargets_114 : decode cX7_layTargets 114 = .ok (.iconst 0, 1) := by decide +kernel
theorem dX7_layTargets_115 : decode cX7_layTargets 115 = .ok (.istore_n 2, 1) := by decide +kernel
theorem dX7_layTargets_116 : decode cX7_layTargets 116 = .ok (.iload_n 2, 1) := by decide +kernel
theorem dX7_layTargets_117 : decode cX7_layTargets 117 = .ok (.bipush 32, 2) := by decide +kernel
theorem dX7_layTargets_119 : decode cX7_layTargets 119 = .ok (.if_icmp .ge 129, 3) := by decide +kernel
theorem dX7_layTargets_122 : decode cX7_layTargets 122 = .ok (.aload_n 0, 1) := by decide +kernel
theorem dX7_layTargets_123 : decode cX7_layTargets 123 = .ok (.getfield 40, 3) := by decide +kernel
theorem dX7_layTargets_126 : decode cX7_layTargets 126 = .ok (.iload_n 2, 1) := by decide +kernel
theorem dX7_layTargets_127 : decode cX7_layTargets 127 = .ok (.iconst (-1), 1) := by decide +kernel
theorem dX7_layTargets_128 : decode cX7_layTargets 128 = .ok (.iastore, 1) := by decide +kernel
theorem dX7_layTargets_129 : decode cX7_layTargets 129 = .ok (.aload_n 0, 1) := by decide +kernel
theorem dX7_layTargets_130 : decode cX7_layTargets 130 = .ok (.getfield 43, 3) := by decide +kernel
theorem dX7_layTargets_133 : decode cX7_layTargets 133 = .ok (.iload_n 2, 1) := by decide +kernel
theorem dX7_layTargets_134 : decode cX7_layTargets 134 = .ok (.iconst 0, 1) := by decide +kernel
