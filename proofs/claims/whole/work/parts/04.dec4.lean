theorem dX7_shard_103 : decode cX7_shard 103 = .ok (.getfield 40, 3) := by decide +kernel
theorem dX7_shard_106 : decode cX7_shard 106 = .ok (.iload_n 1, 1) := by decide +kernel
theorem dX7_shard_107 : decode cX7_shard 107 = .ok (.iaload, 1) := by decide +kernel
theorem dX7_shard_108 : decode cX7_shard 108 = .ok (.ireturn, 1) := by decide +kernel
theorem dX7_shard_109 : decode cX7_shard 109 = .ok (.aload_n 0, 1) := by decide +kernel
theorem dX7_shard_110 : decode cX7_shard 110 = .ok (.getfield 9, 3) := by decide +kernel
theorem dX7_shard_113 : decode cX7_shard 113 = .ok (.bipush 28, 2) := by decide +kernel
theorem dX7_shard_115 : decode cX7_shard 115 = .ok (.iload_n 1, 1) := by decide +kernel
theorem dX7_shard_116 : decode cX7_shard 116 = .ok (.iadd, 1) := by decide +kernel
theorem dX7_shard_117 : decode cX7_shard 117 = .ok (.iaload, 1) := by decide +kernel
theorem dX7_shard_118 : decode cX7_shard 118 = .ok (.ireturn, 1) := by decide +kernel
theorem dX7_shard_119 : decode cX7_shard 119 = .ok (.aload_n 0, 1) := by decide +kernel
theorem dX7_shard_120 : decode cX7_shard 120 = .ok (.getfield 9, 3) := by decide +kernel
theorem dX7_shard_123 : decode cX7_shard 123 = .ok (.bipush 28, 2) := by decide +kernel
theorem dX7_shard_125 : decode cX7_shard 125 = .ok (.iload_n 1, 1) := by decide +kernel
theorem dX7_shard_126 : decode cX7_shard 126 = .ok (.iadd, 1) := by decide +kernel
theorem dX7_shard_127 : decode cX7_shard 127 = .ok (.iaload, 1) := by decide +kernel
theorem dX7_shard_128 : decode cX7_shard 128 = .ok (.ifCond .ge 7, 3) := by decide +kernel
theorem dX7_shard_131 : decode cX7_shard 131 = .ok (.iconst (-1), 1) := by decide +kernel
theorem dX7_shard_132 : decode cX7_shard 132 = .ok (.goto 12, 3) := by decide +kernel
theorem dX7_shard_135 : decode cX7_shard 135 = .ok (.aload_n 0, 1) := by decide +kernel
theorem dX7_shard_136 : decode cX7_shard 136 = .ok (.getfield 9, 3) := by decide +kernel
theorem dX7_shard_139 : decode cX7_shard 139 = .ok (.bipush 60, 2) := by decide +kernel
theorem dX7_shard_141 : decode cX7_shard 141 = .ok (.iload_n 1, 1) := by decide +kernel
theorem dX7_shard_142 : decode cX7_shard 142 = .ok (.iadd, 1) := by decide +kernel
theorem dX7_shard_143 : decode cX7_shard 143 = .ok (.iaload, 1) := by decide +kernel
theorem dX7_shard_144 : decode cX7_shard 144 = .ok (.ireturn, 1) := by decide +kernel
theorem dX7_shard_145 : decode cX7_shard 145 = .ok (.aload_n 0, 1) := by decide +kernel
theorem dX7_shard_146 : decode cX7_shard 146 = .ok (.iload_n 1, 1) := by decide +kernel
theorem dX7_shard_147 : decode cX7_shard 147 = .ok (.invokevirtual 141, 3) := by decide +kernel
theorem dX7_shard_150 : decode cX7_shard 150 = .ok (.ifCond .eq 7, 3) := by decide +kernel
theorem dX7_shard_153 : decode cX7_shard 153 = .ok (.iconst 1, 1) := by decide +kernel
theorem dX7_shard_154 : decode cX7_shard 154 = .ok (.goto 4, 3) := by decide +kernel
theorem dX7_shard_157 : decode cX7_shard 157 = .ok (.iconst 0, 1) := by decide +kernel
theorem dX7_shard_158 : decode cX7_shard 158 = .ok (.ireturn, 1) := by decide +kernel
theorem dX7_shard_159 : decode cX7_shard 159 = .ok (.aload_n 0, 1) := by decide +kernel
theorem dX7_shard_160 : decode cX7_shard 160 = .ok (.iload_n 1, 1) := by decide +kernel
theorem dX7_shard_161 : decode cX7_shard 161 = .ok (.invokevirtual 157, 3) := by decide +kernel
theorem dX7_shard_164 : decode cX7_shard 164 = .ok (.ireturn, 1) := by decide +kernel
theorem dX7_shard_165 : decode cX7_shard 165 = .ok (.aload_n 0, 1) := by decide +kernel
theorem dX7_shard_166 : decode cX7_shard 166 = .ok (.getfield 43, 3) := by decide +kernel
theorem dX7_shard_169 : decode cX7_shard 169 = .ok (.iload_n 1, 1) := by decide +kernel
theorem dX7_shard_170 : decode cX7_shard 170 = .ok (.iaload, 1) := by decide +kernel
theorem dX7_shard_171 : decode cX7_shard 171 = .ok (.ireturn, 1) := by decide +kernel
theorem dX7_route_0 : decode cX7_route 0 = .ok (.iload_n 1, 1) := by decide +kernel
theorem dX7_route_1 : decode cX7_route 1 = .ok (.invokestatic 58, 3) := by decide +kernel
theorem dX7_route_4 : decode cX7_route 4 = .ok (.bipush 32, 2) := by decide +kernel
theorem dX7_route_6 : decode cX7_route 6 = .ok (.irem, 1) := by decide +kernel
theorem dX7_route_7 : decode cX7_route 7 = .ok (.istore_n 2, 1) := by decide +kernel
theorem dX7_route_8 : decode cX7_route 8 = .ok (.aload_n 0, 1) := by decide +kernel
theorem dX7_route_9 : decode cX7_route 9 = .ok (.aload_n 0, 1) := by decide +kernel
theorem dX7_route_10 : decode cX7_route 10 = .ok (.iload_n 2, 1) := by decide +kernel
theorem dX7_route_11 : decode cX7_route 11 = .ok (.invokevirtual 141, 3) := by decide +kernel
theorem dX7_route_14 : decode cX7_route 14 = .ok (.ifCond .eq 7, 3) := by decide +kernel
theorem dX7_route_17 : decode cX7_route 17 = .ok (.iconst 0, 1) := by decide +kernel
theorem dX7_route_18 : decode cX7_route 18 = .ok (.goto 4, 3) := by decide +kernel
theorem dX7_route_21 : decode cX7_route 21 = .ok (.iconst 1, 1) := by decide +kernel
theorem dX7_route_22 : decode cX7_route 22 = .ok (.putfield 62, 3) := by decide +kernel
theorem dX7_route_25 : decode cX7_route 25 = .ok (.aload_n 0, 1) := by decide +kernel
theorem dX7_route_26 : decode cX7_route 26 = .ok (.getfield 62, 3) := by decide +kernel
theorem dX7_route_29 : decode cX7_route 29 = .ok (.ifCond .le 7, 3) := by decide +kernel
theorem dX7_route_32 : decode cX7_route 32 = .ok (.iconst 0, 1) := by decide +kernel
theorem dX7_route_33 : decode cX7_route 33 = .ok (.goto 12, 3) := by decide +kernel
theorem dX7_route_36 : decode cX7_route 36 = .ok (.aload_n 0, 1) := by decide +kernel
theorem dX7_route_37 : decode cX7_route 37 = .ok (.getfield 9, 3) := by decide +kernel
theorem dX7_route_40 : decode cX7_route 40 = .ok (.bipush 28, 2) := by decide +kernel
theorem dX7_route_42 : decode cX7_route 42 = .ok (.iload_n 2, 1) := by decide +kernel
theorem dX7_route_43 : decode cX7_route 43 = .ok (.iadd, 1) := by decide +kernel
theorem dX7_route_44 : decode cX7_route 44 = .ok (.iaload, 1) := by decide +kernel
theorem dX7_route_45 : decode cX7_route 45 = .ok (.ireturn, 1) := by decide +kernel
theorem dX7_pending_0 : decode cX7_pending 0 = .ok (.aload_n 0, 1) := by decide +kernel
theorem dX7_pending_1 : decode cX7_pending 1 = .ok (.iconst 0, 1) := by decide +kernel
theorem dX7_pending_2 : decode cX7_pending 2 = .ok (.putfield 62, 3) := by decide +kernel
theorem dX7_pending_5 : decode cX7_pending 5 = .ok (.aload_n 0, 1) := by decide +kernel
theorem dX7_pending_6 : decode cX7_pending 6 = .ok (.invokevirtual 178, 3) := by decide +kernel
theorem dX7_pending_9 : decode cX7_pending 9 = .ok (.ireturn, 1) := by decide +kernel
theorem dX7_changedIf_0 : decode cX7_changedIf 0 = .ok (.aload_n 0, 1) := by decide +kernel
theorem dX7_changedIf_1 : decode cX7_changedIf 1 = .ok (.iload_n 1, 1) := by decide +kernel
theorem dX7_changedIf_2 : decode cX7_changedIf 2 = .ok (.invokestatic 72, 3) := by decide +kernel
theorem dX7_changedIf_5 : decode cX7_changedIf 5 = .ok (.ifCond .ne 7, 3) := by decide +kernel
theorem dX7_changedIf_8 : decode cX7_changedIf 8 = .ok (.iconst 1, 1) := by decide +kernel
theorem dX7_changedIf_9 : decode cX7_changedIf 9 = .ok (.goto 30, 3) := by decide +kernel
theorem dX7_changedIf_12 : decode cX7_changedIf 12 = .ok (.iload_n 2, 1) := by decide +kernel
theorem dX7_changedIf_13 : decode cX7_changedIf 13 = .ok (.iconst 0, 1) := by decide +kernel
theorem dX7_changedIf_14 : decode cX7_changedIf 14 = .ok (.iconst 5, 1) := by decide +kernel
theorem dX7_changedIf_15 : decode cX7_changedIf 15 = .ok (.invokestatic 68, 3) := by decide +kernel
theorem dX7_changedIf_18 : decode cX7_changedIf 18 = .ok (.ifCond .ne 7, 3) := by decide +kernel
theorem dX7_changedIf_21 : decode cX7_changedIf 21 = .ok (.iconst 2, 1) := by decide +kernel
theorem dX7_changedIf_22 : decode cX7_changedIf 22 = .ok (.goto 17, 3) := by decide +kernel
theorem dX7_changedIf_25 : decode cX7_changedIf 25 = .ok (.aload_n 0, 1) := by decide +kernel
theorem dX7_changedIf_26 : decode cX7_changedIf 26 = .ok (.iload_n 1, 1) := by decide +kernel
theorem dX7_changedIf_27 : decode cX7_changedIf 27 = .ok (.iconst 1, 1) := by decide +kernel
theorem dX7_changedIf_28 : decode cX7_changedIf 28 = .ok (.invokevirtual 79, 3) := by decide +kernel
theorem dX7_changedIf_31 : decode cX7_changedIf 31 = .ok (.ifCond .ne 7, 3) := by decide +kernel
theorem dX7_changedIf_34 : decode cX7_changedIf 34 = .ok (.iconst 3, 1) := by decide +kernel
theorem dX7_changedIf_35 : decode cX7_changedIf 35 = .ok (.goto 4, 3) := by decide +kernel
theorem dX7_changedIf_38 : decode cX7_changedIf 38 = .ok (.iconst 0, 1) := by decide +kernel
theorem dX7_changedIf_39 : decode cX7_changedIf 39 = .ok (.putfield 62, 3) := by decide +kernel
theorem dX7_changedIf_42 : decode cX7_changedIf 42 = .ok (.aload_n 0, 1) := by decide +kernel
theorem dX7_changedIf_43 : decode cX7_changedIf 43 = .ok (.getfield 62, 3) := by decide +kernel
theorem dX7_changedIf_46 : decode cX7_changedIf 46 = .ok (.ifCond .le 5, 3) := by decide +kernel
theorem dX7_changedIf_49 : decode cX7_changedIf 49 = .ok (.iconst 0, 1) := by decide +kernel
theorem dX7_changedIf_50 : decode cX7_changedIf 50 = .ok (.ireturn, 1) := by decide +kernel
theorem dX7_changedIf_51 : decode cX7_changedIf 51 = .ok (.aload_n 0, 1) := by decide +kernel
theorem dX7_changedIf_52 : decode cX7_changedIf 52 = .ok (.invokevirtual 138, 3) := by decide +kernel
theorem dX7_changedIf_55 : decode cX7_changedIf 55 = .ok (.iconst 0, 1) := by decide +kernel
theorem dX7_changedIf_56 : decode cX7_changedIf 56 = .ok (.istore_n 3, 1) := by decide +kernel
theorem dX7_changedIf_57 : decode cX7_changedIf 57 = .ok (.iload_n 3, 1) := by decide +kernel
theorem dX7_changedIf_58 : decode cX7_changedIf 58 = .ok (.bipush 32, 2) := by decide +kernel
theorem dX7_changedIf_60 : decode cX7_changedIf 60 = .ok (.if_icmp .ge 21, 3) := by decide +kernel
theorem dX7_changedIf_63 : decode cX7_changedIf 63 = .ok (.aload_n 0, 1) := by decide +kernel
theorem dX7_changedIf_64 : decode cX7_changedIf 64 = .ok (.getfield 49, 3) := by decide +kernel
theorem dX7_changedIf_67 : decode cX7_changedIf 67 = .ok (.iload_n 3, 1) := by decide +kernel
theorem dX7_changedIf_68 : decode cX7_changedIf 68 = .ok (.aload_n 0, 1) := by decide +kernel
theorem dX7_changedIf_69 : decode cX7_changedIf 69 = .ok (.getfield 40, 3) := by decide +kernel
theorem dX7_changedIf_72 : decode cX7_changedIf 72 = .ok (.iload_n 3, 1) := by decide +kernel
theorem dX7_changedIf_73 : decode cX7_changedIf 73 = .ok (.iaload, 1) := by decide +kernel
theorem dX7_changedIf_74 : decode cX7_changedIf 74 = .ok (.iastore, 1) := by decide +kernel
theorem dX7_changedIf_75 : decode cX7_changedIf 75 = .ok (.iinc 3 1, 3) := by decide +kernel
theorem dX7_changedIf_78 : decode cX7_changedIf 78 = .ok (.goto (-21), 3) := by decide +kernel
theorem dX7_changedIf_81 : decode cX7_changedIf 81 = .ok (.aload_n 0, 1) := by decide +kernel
theorem dX7_changedIf_82 : decode cX7_changedIf 82 = .ok (.getfield 9, 3) := by decide +kernel
theorem dX7_changedIf_85 : decode cX7_changedIf 85 = .ok (.bipush 20, 2) := by decide +kernel
theorem dX7_changedIf_87 : decode cX7_changedIf 87 = .ok (.iload_n 1, 1) := by decide +kernel
theorem dX7_changedIf_88 : decode cX7_changedIf 88 = .ok (.iadd, 1) := by decide +kernel
theorem dX7_changedIf_89 : decode cX7_changedIf 89 = .ok (.iaload, 1) := by decide +kernel
theorem dX7_changedIf_90 : decode cX7_changedIf 90 = .ok (.istore_n 3, 1) := by decide +kernel
theorem dX7_changedIf_91 : decode cX7_changedIf 91 = .ok (.aload_n 0, 1) := by decide +kernel
theorem dX7_changedIf_92 : decode cX7_changedIf 92 = .ok (.getfield 9, 3) := by decide +kernel
theorem dX7_changedIf_95 : decode cX7_changedIf 95 = .ok (.bipush 20, 2) := by decide +kernel
theorem dX7_changedIf_97 : decode cX7_changedIf 97 = .ok (.iload_n 1, 1) := by decide +kernel
theorem dX7_changedIf_98 : decode cX7_changedIf 98 = .ok (.iadd, 1) := by decide +kernel
theorem dX7_changedIf_99 : decode cX7_changedIf 99 = .ok (.iload_n 2, 1) := by decide +kernel
theorem dX7_changedIf_100 : decode cX7_changedIf 100 = .ok (.iastore, 1) := by decide +kernel
theorem dX7_changedIf_101 : decode cX7_changedIf 101 = .ok (.aload_n 0, 1) := by decide +kernel
theorem dX7_changedIf_102 : decode cX7_changedIf 102 = .ok (.getfield 9, 3) := by decide +kernel
theorem dX7_changedIf_105 : decode cX7_changedIf 105 = .ok (.bipush 12, 2) := by decide +kernel
theorem dX7_changedIf_107 : decode cX7_changedIf 107 = .ok (.iload_n 1, 1) := by decide +kernel
theorem dX7_changedIf_108 : decode cX7_changedIf 108 = .ok (.iadd, 1) := by decide +kernel
theorem dX7_changedIf_109 : decode cX7_changedIf 109 = .ok (.iload_n 2, 1) := by decide +kernel
theorem dX7_changedIf_110 : decode cX7_changedIf 110 = .ok (.ifCond .ne 7, 3) := by decide +kernel
theorem dX7_changedIf_113 : decode cX7_changedIf 113 = .ok (.iconst 0, 1) := by decide +kernel
theorem dX7_changedIf_114 : decode cX7_changedIf 114 = .ok (.goto 4, 3) := by decide +kernel
theorem dX7_changedIf_117 : decode cX7_changedIf 117 = .ok (.iconst 1, 1) := by decide +kernel
theorem dX7_changedIf_118 : decode cX7_changedIf 118 = .ok (.iastore, 1) := by decide +kernel
theorem dX7_changedIf_119 : decode cX7_changedIf 119 = .ok (.aload_n 0, 1) := by decide +kernel
theorem dX7_changedIf_120 : decode cX7_changedIf 120 = .ok (.invokevirtual 138, 3) := by decide +kernel
theorem dX7_changedIf_123 : decode cX7_changedIf 123 = .ok (.aload_n 0, 1) := by decide +kernel
theorem dX7_changedIf_124 : decode cX7_changedIf 124 = .ok (.getfield 9, 3) := by decide +kernel
theorem dX7_changedIf_127 : decode cX7_changedIf 127 = .ok (.bipush 20, 2) := by decide +kernel
theorem dX7_changedIf_129 : decode cX7_changedIf 129 = .ok (.iload_n 1, 1) := by decide +kernel
theorem dX7_changedIf_130 : decode cX7_changedIf 130 = .ok (.iadd, 1) := by decide +kernel
theorem dX7_changedIf_131 : decode cX7_changedIf 131 = .ok (.iload_n 3, 1) := by decide +kernel
theorem dX7_changedIf_132 : decode cX7_changedIf 132 = .ok (.iastore, 1) := by decide +kernel
theorem dX7_changedIf_133 : decode cX7_changedIf 133 = .ok (.aload_n 0, 1) := by decide +kernel
theorem dX7_changedIf_134 : decode cX7_changedIf 134 = .ok (.getfield 9, 3) := by decide +kernel
theorem dX7_changedIf_137 : decode cX7_changedIf 137 = .ok (.bipush 12, 2) := by decide +kernel
theorem dX7_changedIf_139 : decode cX7_changedIf 139 = .ok (.iload_n 1, 1) := by decide +kernel
theorem dX7_changedIf_140 : decode cX7_changedIf 140 = .ok (.iadd, 1) := by decide +kernel
theorem dX7_changedIf_141 : decode cX7_changedIf 141 = .ok (.iconst 1, 1) := by decide +kernel
theorem dX7_changedIf_142 : decode cX7_changedIf 142 = .ok (.iastore, 1) := by decide +kernel
theorem dX7_changedIf_143 : decode cX7_changedIf 143 = .ok (.iconst 0, 1) := by decide +kernel
theorem dX7_changedIf_144 : decode cX7_changedIf 144 = .ok (.istore 4, 2) := by decide +kernel
theorem dX7_changedIf_146 : decode cX7_changedIf 146 = .ok (.iconst 0, 1) := by decide +kernel
theorem dX7_changedIf_147 : decode cX7_changedIf 147 = .ok (.istore 5, 2) := by decide +kernel
theorem dX7_changedIf_149 : decode cX7_changedIf 149 = .ok (.iload 5, 2) := by decide +kernel
theorem dX7_changedIf_151 : decode cX7_changedIf 151 = .ok (.bipush 32, 2) := by decide +kernel
theorem dX7_changedIf_153 : decode cX7_changedIf 153 = .ok (.if_icmp .ge 36, 3) := by decide +kernel
theorem dX7_changedIf_156 : decode cX7_changedIf 156 = .ok (.iload 4, 2) := by decide +kernel
theorem dX7_changedIf_158 : decode cX7_changedIf 158 = .ok (.aload_n 0, 1) := by decide +kernel
theorem dX7_changedIf_159 : decode cX7_changedIf 159 = .ok (.getfield 40, 3) := by decide +kernel
theorem dX7_changedIf_162 : decode cX7_changedIf 162 = .ok (.iload 5, 2) := by decide +kernel
theorem dX7_changedIf_164 : decode cX7_changedIf 164 = .ok (.iaload, 1) := by decide +kernel
theorem dX7_changedIf_165 : decode cX7_changedIf 165 = .ok (.aload_n 0, 1) := by decide +kernel
theorem dX7_changedIf_166 : decode cX7_changedIf 166 = .ok (.getfield 49, 3) := by decide +kernel
theorem dX7_changedIf_169 : decode cX7_changedIf 169 = .ok (.iload 5, 2) := by decide +kernel
theorem dX7_changedIf_171 : decode cX7_changedIf 171 = .ok (.iaload, 1) := by decide +kernel
theorem dX7_changedIf_172 : decode cX7_changedIf 172 = .ok (.if_icmp .eq 7, 3) := by decide +kernel
theorem dX7_changedIf_175 : decode cX7_changedIf 175 = .ok (.iconst 1, 1) := by decide +kernel
theorem dX7_changedIf_176 : decode cX7_changedIf 176 = .ok (.goto 4, 3) := by decide +kernel
theorem dX7_changedIf_179 : decode cX7_changedIf 179 = .ok (.iconst 0, 1) := by decide +kernel
theorem dX7_changedIf_180 : decode cX7_changedIf 180 = .ok (.iadd, 1) := by decide +kernel
theorem dX7_changedIf_181 : decode cX7_changedIf 181 = .ok (.istore 4, 2) := by decide +kernel
theorem dX7_changedIf_183 : decode cX7_changedIf 183 = .ok (.iinc 5 1, 3) := by decide +kernel
theorem dX7_changedIf_186 : decode cX7_changedIf 186 = .ok (.goto (-37), 3) := by decide +kernel
theorem dX7_changedIf_189 : decode cX7_changedIf 189 = .ok (.iload 4, 2) := by decide +kernel
theorem dX7_changedIf_191 : decode cX7_changedIf 191 = .ok (.ireturn, 1) := by decide +kernel
theorem dX7_isSkipping_0 : decode cX7_isSkipping 0 = .ok (.aload_n 0, 1) := by decide +kernel
theorem dX7_isSkipping_1 : decode cX7_isSkipping 1 = .ok (.invokevirtual 138, 3) := by decide +kernel
theorem dX7_isSkipping_4 : decode cX7_isSkipping 4 = .ok (.iconst 0, 1) := by decide +kernel
theorem dX7_isSkipping_5 : decode cX7_isSkipping 5 = .ok (.istore_n 1, 1) := by decide +kernel
theorem dX7_isSkipping_6 : decode cX7_isSkipping 6 = .ok (.iconst 0, 1) := by decide +kernel
theorem dX7_isSkipping_7 : decode cX7_isSkipping 7 = .ok (.istore_n 2, 1) := by decide +kernel
theorem dX7_isSkipping_8 : decode cX7_isSkipping 8 = .ok (.iload_n 2, 1) := by decide +kernel
theorem dX7_isSkipping_9 : decode cX7_isSkipping 9 = .ok (.bipush 32, 2) := by decide +kernel
theorem dX7_isSkipping_11 : decode cX7_isSkipping 11 = .ok (.if_icmp .ge 26, 3) := by decide +kernel
theorem dX7_isSkipping_14 : decode cX7_isSkipping 14 = .ok (.iload_n 1, 1) := by decide +kernel
theorem dX7_isSkipping_15 : decode cX7_isSkipping 15 = .ok (.aload_n 0, 1) := by decide +kernel
theorem dX7_isSkipping_16 : decode cX7_isSkipping 16 = .ok (.getfield 43, 3) := by decide +kernel
theorem dX7_isSkipping_19 : decode cX7_isSkipping 19 = .ok (.iload_n 2, 1) := by decide +kernel
theorem dX7_isSkipping_20 : decode cX7_isSkipping 20 = .ok (.iaload, 1) := by decide +kernel
theorem dX7_isSkipping_21 : decode cX7_isSkipping 21 = .ok (.ifCond .eq 7, 3) := by decide +kernel
theorem dX7_isSkipping_24 : decode cX7_isSkipping 24 = .ok (.iconst 1, 1) := by decide +kernel
theorem dX7_isSkipping_25 : decode cX7_isSkipping 25 = .ok (.goto 4, 3) := by decide +kernel
theorem dX7_isSkipping_28 : decode cX7_isSkipping 28 = .ok (.iconst 0, 1) := by decide +kernel
theorem dX7_isSkipping_29 : decode cX7_isSkipping 29 = .ok (.ior, 1) := by decide +kernel
theorem dX7_isSkipping_30 : decode cX7_isSkipping 30 = .ok (.istore_n 1, 1) := by decide +kernel
theorem dX7_isSkipping_31 : decode cX7_isSkipping 31 = .ok (.iinc 2 1, 3) := by decide +kernel
theorem dX7_isSkipping_34 : decode cX7_isSkipping 34 = .ok (.goto (-26), 3) := by decide +kernel
theorem dX7_isSkipping_37 : decode cX7_isSkipping 37 = .ok (.iload_n 1, 1) := by decide +kernel
theorem dX7_isSkipping_38 : decode cX7_isSkipping 38 = .ok (.ireturn, 1) := by decide +kernel
theorem dX7_leastSlack_0 : decode cX7_leastSlack 0 = .ok (.aload_n 0, 1) := by decide +kernel
theorem dX7_leastSlack_1 : decode cX7_leastSlack 1 = .ok (.iconst 0, 1) := by decide +kernel
theorem dX7_leastSlack_2 : decode cX7_leastSlack 2 = .ok (.putfield 62, 3) := by decide +kernel
theorem dX7_leastSlack_5 : decode cX7_leastSlack 5 = .ok (.aload_n 0, 1) := by decide +kernel
theorem dX7_leastSlack_6 : decode cX7_leastSlack 6 = .ok (.invokevirtual 132, 3) := by decide +kernel
theorem dX7_leastSlack_9 : decode cX7_leastSlack 9 = .ok (.aload_n 0, 1) := by decide +kernel
theorem dX7_leastSlack_10 : decode cX7_leastSlack 10 = .ok (.getfield 9, 3) := by decide +kernel
theorem dX7_leastSlack_13 : decode cX7_leastSlack 13 = .ok (.iconst 0, 1) := by decide +kernel
theorem dX7_leastSlack_14 : decode cX7_leastSlack 14 = .ok (.iaload, 1) := by decide +kernel
theorem dX7_leastSlack_15 : decode cX7_leastSlack 15 = .ok (.istore_n 1, 1) := by decide +kernel
theorem dX7_leastSlack_16 : decode cX7_leastSlack 16 = .ok (.iconst 0, 1) := by decide +kernel
theorem dX7_leastSlack_17 : decode cX7_leastSlack 17 = .ok (.istore_n 2, 1) := by decide +kernel
theorem dX7_leastSlack_18 : decode cX7_leastSlack 18 = .ok (.aload_n 0, 1) := by decide +kernel
theorem dX7_leastSlack_19 : decode cX7_leastSlack 19 = .ok (.getfield 9, 3) := by decide +kernel
theorem dX7_leastSlack_22 : decode cX7_leastSlack 22 = .ok (.iconst 0, 1) := by decide +kernel
theorem dX7_leastSlack_23 : decode cX7_leastSlack 23 = .ok (.iconst 0, 1) := by decide +kernel
theorem dX7_leastSlack_24 : decode cX7_leastSlack 24 = .ok (.iastore, 1) := by decide +kernel
theorem dX7_leastSlack_25 : decode cX7_leastSlack 25 = .ok (.aload_n 0, 1) := by decide +kernel
theorem dX7_leastSlack_26 : decode cX7_leastSlack 26 = .ok (.getfield 125, 3) := by decide +kernel
theorem dX7_leastSlack_29 : decode cX7_leastSlack 29 = .ok (.ifCond .le 29, 3) := by decide +kernel
theorem dX7_leastSlack_32 : decode cX7_leastSlack 32 = .ok (.iload_n 2, 1) := by decide +kernel
theorem dX7_leastSlack_33 : decode cX7_leastSlack 33 = .ok (.bipush 100, 2) := by decide +kernel
theorem dX7_leastSlack_35 : decode cX7_leastSlack 35 = .ok (.if_icmp .gt 23, 3) := by decide +kernel
theorem dX7_leastSlack_38 : decode cX7_leastSlack 38 = .ok (.aload_n 0, 1) := by decide +kernel
theorem dX7_leastSlack_39 : decode cX7_leastSlack 39 = .ok (.invokevirtual 181, 3) := by decide +kernel
theorem dX7_leastSlack_42 : decode cX7_leastSlack 42 = .ok (.ifCond .eq 16, 3) := by decide +kernel
theorem dX7_leastSlack_45 : decode cX7_leastSlack 45 = .ok (.iinc 2 1, 3) := by decide +kernel
theorem dX7_leastSlack_48 : decode cX7_leastSlack 48 = .ok (.aload_n 0, 1) := by decide +kernel
theorem dX7_leastSlack_49 : decode cX7_leastSlack 49 = .ok (.getfield 9, 3) := by decide +kernel
theorem dX7_leastSlack_52 : decode cX7_leastSlack 52 = .ok (.iconst 0, 1) := by decide +kernel
theorem dX7_leastSlack_53 : decode cX7_leastSlack 53 = .ok (.iload_n 2, 1) := by decide +kernel
theorem dX7_leastSlack_54 : decode cX7_leastSlack 54 = .ok (.iastore, 1) := by decide +kernel
theorem dX7_leastSlack_55 : decode cX7_leastSlack 55 = .ok (.goto (-30), 3) := by decide +kernel
theorem dX7_leastSlack_58 : decode cX7_leastSlack 58 = .ok (.aload_n 0, 1) := by decide +kernel
theorem dX7_leastSlack_59 : decode cX7_leastSlack 59 = .ok (.getfield 9, 3) := by decide +kernel
theorem dX7_leastSlack_62 : decode cX7_leastSlack 62 = .ok (.iconst 0, 1) := by decide +kernel
theorem dX7_leastSlack_63 : decode cX7_leastSlack 63 = .ok (.iload_n 1, 1) := by decide +kernel
theorem dX7_leastSlack_64 : decode cX7_leastSlack 64 = .ok (.iastore, 1) := by decide +kernel
theorem dX7_leastSlack_65 : decode cX7_leastSlack 65 = .ok (.aload_n 0, 1) := by decide +kernel
theorem dX7_leastSlack_66 : decode cX7_leastSlack 66 = .ok (.invokevirtual 132, 3) := by decide +kernel
theorem dX7_leastSlack_69 : decode cX7_leastSlack 69 = .ok (.aload_n 0, 1) := by decide +kernel
theorem dX7_leastSlack_70 : decode cX7_leastSlack 70 = .ok (.getfield 125, 3) := by decide +kernel
theorem dX7_leastSlack_73 : decode cX7_leastSlack 73 = .ok (.ifCond .ne 11, 3) := by decide +kernel
theorem dX7_leastSlack_76 : decode cX7_leastSlack 76 = .ok (.aload_n 0, 1) := by decide +kernel
theorem dX7_leastSlack_77 : decode cX7_leastSlack 77 = .ok (.iconst 2, 1) := by decide +kernel
theorem dX7_leastSlack_78 : decode cX7_leastSlack 78 = .ok (.invokevirtual 122, 3) := by decide +kernel
theorem dX7_leastSlack_81 : decode cX7_leastSlack 81 = .ok (.goto 18, 3) := by decide +kernel
theorem dX7_leastSlack_84 : decode cX7_leastSlack 84 = .ok (.iload_n 2, 1) := by decide +kernel
theorem dX7_leastSlack_85 : decode cX7_leastSlack 85 = .ok (.bipush 100, 2) := by decide +kernel
theorem dX7_leastSlack_87 : decode cX7_leastSlack 87 = .ok (.if_icmp .le 11, 3) := by decide +kernel
theorem dX7_leastSlack_90 : decode cX7_leastSlack 90 = .ok (.aload_n 0, 1) := by decide +kernel
theorem dX7_leastSlack_91 : decode cX7_leastSlack 91 = .ok (.iconst 1, 1) := by decide +kernel
theorem dX7_leastSlack_92 : decode cX7_leastSlack 92 = .ok (.invokevirtual 122, 3) := by decide +kernel
theorem dX7_leastSlack_95 : decode cX7_leastSlack 95 = .ok (.goto 4, 3) := by decide +kernel
theorem dX7_leastSlack_98 : decode cX7_leastSlack 98 = .ok (.iload_n 2, 1) := by decide +kernel
theorem dX7_leastSlack_99 : decode cX7_leastSlack 99 = .ok (.ireturn, 1) := by decide +kernel
theorem dX7_moves_0 : decode cX7_moves 0 = .ok (.aload_n 0, 1) := by decide +kernel
theorem dX7_moves_1 : decode cX7_moves 1 = .ok (.iconst 0, 1) := by decide +kernel
theorem dX7_moves_2 : decode cX7_moves 2 = .ok (.putfield 62, 3) := by decide +kernel
theorem dX7_moves_5 : decode cX7_moves 5 = .ok (.aload_n 0, 1) := by decide +kernel
theorem dX7_moves_6 : decode cX7_moves 6 = .ok (.getfield 9, 3) := by decide +kernel
theorem dX7_moves_9 : decode cX7_moves 9 = .ok (.bipush 10, 2) := by decide +kernel
theorem dX7_moves_11 : decode cX7_moves 11 = .ok (.iaload, 1) := by decide +kernel
theorem dX7_moves_12 : decode cX7_moves 12 = .ok (.ireturn, 1) := by decide +kernel
theorem dX7_move_0 : decode cX7_move 0 = .ok (.aload_n 0, 1) := by decide +kernel
theorem dX7_move_1 : decode cX7_move 1 = .ok (.iload_n 1, 1) := by decide +kernel
theorem dX7_move_2 : decode cX7_move 2 = .ok (.iconst 0, 1) := by decide +kernel
theorem dX7_move_3 : decode cX7_move 3 = .ok (.aload_n 0, 1) := by decide +kernel
theorem dX7_move_4 : decode cX7_move 4 = .ok (.getfield 9, 3) := by decide +kernel
theorem dX7_move_7 : decode cX7_move 7 = .ok (.bipush 10, 2) := by decide +kernel
theorem dX7_move_9 : decode cX7_move 9 = .ok (.iaload, 1) := by decide +kernel
theorem dX7_move_10 : decode cX7_move 10 = .ok (.iconst 1, 1) := by decide +kernel
theorem dX7_move_11 : decode cX7_move 11 = .ok (.isub, 1) := by decide +kernel
theorem dX7_move_12 : decode cX7_move 12 = .ok (.invokestatic 68, 3) := by decide +kernel
theorem dX7_move_15 : decode cX7_move 15 = .ok (.ifCond .ne 7, 3) := by decide +kernel
theorem dX7_move_18 : decode cX7_move 18 = .ok (.iconst 1, 1) := by decide +kernel
theorem dX7_move_19 : decode cX7_move 19 = .ok (.goto 17, 3) := by decide +kernel
theorem dX7_move_22 : decode cX7_move 22 = .ok (.iload_n 2, 1) := by decide +kernel
theorem dX7_move_23 : decode cX7_move 23 = .ok (.iconst 0, 1) := by decide +kernel
theorem dX7_move_24 : decode cX7_move 24 = .ok (.iconst 3, 1) := by decide +kernel
theorem dX7_move_25 : decode cX7_move 25 = .ok (.invokestatic 68, 3) := by decide +kernel
theorem dX7_move_28 : decode cX7_move 28 = .ok (.ifCond .ne 7, 3) := by decide +kernel
theorem dX7_move_31 : decode cX7_move 31 = .ok (.iconst 2, 1) := by decide +kernel
theorem dX7_move_32 : decode cX7_move 32 = .ok (.goto 4, 3) := by decide +kernel
theorem dX7_move_35 : decode cX7_move 35 = .ok (.iconst 0, 1) := by decide +kernel
theorem dX7_move_36 : decode cX7_move 36 = .ok (.putfield 62, 3) := by decide +kernel
theorem dX7_move_39 : decode cX7_move 39 = .ok (.aload_n 0, 1) := by decide +kernel
theorem dX7_move_40 : decode cX7_move 40 = .ok (.getfield 62, 3) := by decide +kernel
theorem dX7_move_43 : decode cX7_move 43 = .ok (.ifCond .le 7, 3) := by decide +kernel
theorem dX7_move_46 : decode cX7_move 46 = .ok (.iconst 0, 1) := by decide +kernel
theorem dX7_move_47 : decode cX7_move 47 = .ok (.goto 9, 3) := by decide +kernel
theorem dX7_move_50 : decode cX7_move 50 = .ok (.aload_n 0, 1) := by decide +kernel
theorem dX7_move_51 : decode cX7_move 51 = .ok (.iload_n 1, 1) := by decide +kernel
theorem dX7_move_52 : decode cX7_move 52 = .ok (.iload_n 2, 1) := by decide +kernel
theorem dX7_move_53 : decode cX7_move 53 = .ok (.invokevirtual 147, 3) := by decide +kernel
theorem dX7_move_56 : decode cX7_move 56 = .ok (.ireturn, 1) := by decide +kernel
theorem dX7_forecast_0 : decode cX7_forecast 0 = .ok (.aload_n 0, 1) := by decide +kernel
theorem dX7_forecast_1 : decode cX7_forecast 1 = .ok (.iconst 0, 1) := by decide +kernel
theorem dX7_forecast_2 : decode cX7_forecast 2 = .ok (.putfield 62, 3) := by decide +kernel
theorem dX7_forecast_5 : decode cX7_forecast 5 = .ok (.aload_n 0, 1) := by decide +kernel
theorem dX7_forecast_6 : decode cX7_forecast 6 = .ok (.invokevirtual 97, 3) := by decide +kernel
theorem dX7_forecast_9 : decode cX7_forecast 9 = .ok (.iconst 0, 1) := by decide +kernel
theorem dX7_forecast_10 : decode cX7_forecast 10 = .ok (.istore_n 1, 1) := by decide +kernel
theorem dX7_forecast_11 : decode cX7_forecast 11 = .ok (.iload_n 1, 1) := by decide +kernel
theorem dX7_forecast_12 : decode cX7_forecast 12 = .ok (.sipush 300, 3) := by decide +kernel
theorem dX7_forecast_15 : decode cX7_forecast 15 = .ok (.if_icmp .gt 20, 3) := by decide +kernel
theorem dX7_forecast_18 : decode cX7_forecast 18 = .ok (.aload_n 0, 1) := by decide +kernel
theorem dX7_forecast_19 : decode cX7_forecast 19 = .ok (.invokevirtual 178, 3) := by decide +kernel
theorem dX7_forecast_22 : decode cX7_forecast 22 = .ok (.ifCond .le 13, 3) := by decide +kernel
theorem dX7_forecast_25 : decode cX7_forecast 25 = .ok (.aload_n 0, 1) := by decide +kernel
theorem dX7_forecast_26 : decode cX7_forecast 26 = .ok (.invokevirtual 90, 3) := by decide +kernel
theorem dX7_forecast_29 : decode cX7_forecast 29 = .ok (.iinc 1 1, 3) := by decide +kernel
theorem dX7_forecast_32 : decode cX7_forecast 32 = .ok (.goto (-21), 3) := by decide +kernel
theorem dX7_forecast_35 : decode cX7_forecast 35 = .ok (.aload_n 0, 1) := by decide +kernel
theorem dX7_forecast_36 : decode cX7_forecast 36 = .ok (.invokevirtual 185, 3) := by decide +kernel
theorem dX7_forecast_39 : decode cX7_forecast 39 = .ok (.iload_n 1, 1) := by decide +kernel
theorem dX7_forecast_40 : decode cX7_forecast 40 = .ok (.sipush 300, 3) := by decide +kernel
theorem dX7_forecast_43 : decode cX7_forecast 43 = .ok (.if_icmp .le 11, 3) := by decide +kernel
theorem dX7_forecast_46 : decode cX7_forecast 46 = .ok (.aload_n 0, 1) := by decide +kernel
theorem dX7_forecast_47 : decode cX7_forecast 47 = .ok (.iconst 1, 1) := by decide +kernel
theorem dX7_forecast_48 : decode cX7_forecast 48 = .ok (.invokevirtual 122, 3) := by decide +kernel
theorem dX7_forecast_51 : decode cX7_forecast 51 = .ok (.goto 4, 3) := by decide +kernel
theorem dX7_forecast_54 : decode cX7_forecast 54 = .ok (.iload_n 1, 1) := by decide +kernel
theorem dX7_forecast_55 : decode cX7_forecast 55 = .ok (.ireturn, 1) := by decide +kernel
theorem dX7_statistic_0 : decode cX7_statistic 0 = .ok (.aload_n 0, 1) := by decide +kernel
theorem dX7_statistic_1 : decode cX7_statistic 1 = .ok (.iload_n 1, 1) := by decide +kernel
theorem dX7_statistic_2 : decode cX7_statistic 2 = .ok (.iconst 0, 1) := by decide +kernel
theorem dX7_statistic_3 : decode cX7_statistic 3 = .ok (.bipush 6, 2) := by decide +kernel
theorem dX7_statistic_5 : decode cX7_statistic 5 = .ok (.invokestatic 68, 3) := by decide +kernel
theorem dX7_statistic_8 : decode cX7_statistic 8 = .ok (.ifCond .eq 7, 3) := by decide +kernel
theorem dX7_statistic_11 : decode cX7_statistic 11 = .ok (.iconst 0, 1) := by decide +kernel
theorem dX7_statistic_12 : decode cX7_statistic 12 = .ok (.goto 4, 3) := by decide +kernel
theorem dX7_statistic_15 : decode cX7_statistic 15 = .ok (.iconst 1, 1) := by decide +kernel
theorem dX7_statistic_16 : decode cX7_statistic 16 = .ok (.putfield 62, 3) := by decide +kernel
theorem dX7_statistic_19 : decode cX7_statistic 19 = .ok (.aload_n 0, 1) := by decide +kernel
theorem dX7_statistic_20 : decode cX7_statistic 20 = .ok (.getfield 62, 3) := by decide +kernel
theorem dX7_statistic_23 : decode cX7_statistic 23 = .ok (.ifCond .le 7, 3) := by decide +kernel
theorem dX7_statistic_26 : decode cX7_statistic 26 = .ok (.iconst 0, 1) := by decide +kernel
theorem dX7_statistic_27 : decode cX7_statistic 27 = .ok (.goto 11, 3) := by decide +kernel
theorem dX7_statistic_30 : decode cX7_statistic 30 = .ok (.aload_n 0, 1) := by decide +kernel
theorem dX7_statistic_31 : decode cX7_statistic 31 = .ok (.getfield 9, 3) := by decide +kernel
theorem dX7_statistic_34 : decode cX7_statistic 34 = .ok (.iconst 3, 1) := by decide +kernel
theorem dX7_statistic_35 : decode cX7_statistic 35 = .ok (.iload_n 1, 1) := by decide +kernel
theorem dX7_statistic_36 : decode cX7_statistic 36 = .ok (.iadd, 1) := by decide +kernel
theorem dX7_statistic_37 : decode cX7_statistic 37 = .ok (.iaload, 1) := by decide +kernel
theorem dX7_statistic_38 : decode cX7_statistic 38 = .ok (.ireturn, 1) := by decide +kernel
theorem dX7_events_0 : decode cX7_events 0 = .ok (.aload_n 0, 1) := by decide +kernel
theorem dX7_events_1 : decode cX7_events 1 = .ok (.iconst 0, 1) := by decide +kernel
theorem dX7_events_2 : decode cX7_events 2 = .ok (.putfield 62, 3) := by decide +kernel
theorem dX7_events_5 : decode cX7_events 5 = .ok (.aload_n 0, 1) := by decide +kernel
theorem dX7_events_6 : decode cX7_events 6 = .ok (.getfield 9, 3) := by decide +kernel
theorem dX7_events_9 : decode cX7_events 9 = .ok (.bipush 11, 2) := by decide +kernel
theorem dX7_events_11 : decode cX7_events 11 = .ok (.iaload, 1) := by decide +kernel
theorem dX7_events_12 : decode cX7_events 12 = .ok (.ireturn, 1) := by decide +kernel
theorem dX7_event_0 : decode cX7_event 0 = .ok (.aload_n 0, 1) := by decide +kernel
theorem dX7_event_1 : decode cX7_event 1 = .ok (.iload_n 1, 1) := by decide +kernel
theorem dX7_event_2 : decode cX7_event 2 = .ok (.iconst 0, 1) := by decide +kernel
theorem dX7_event_3 : decode cX7_event 3 = .ok (.aload_n 0, 1) := by decide +kernel
theorem dX7_event_4 : decode cX7_event 4 = .ok (.getfield 9, 3) := by decide +kernel
theorem dX7_event_7 : decode cX7_event 7 = .ok (.bipush 11, 2) := by decide +kernel
theorem dX7_event_9 : decode cX7_event 9 = .ok (.iaload, 1) := by decide +kernel
theorem dX7_event_10 : decode cX7_event 10 = .ok (.iconst 1, 1) := by decide +kernel
theorem dX7_event_11 : decode cX7_event 11 = .ok (.isub, 1) := by decide +kernel
theorem dX7_event_12 : decode cX7_event 12 = .ok (.invokestatic 68, 3) := by decide +kernel
theorem dX7_event_15 : decode cX7_event 15 = .ok (.ifCond .ne 7, 3) := by decide +kernel
theorem dX7_event_18 : decode cX7_event 18 = .ok (.iconst 1, 1) := by decide +kernel
theorem dX7_event_19 : decode cX7_event 19 = .ok (.goto 17, 3) := by decide +kernel
theorem dX7_event_22 : decode cX7_event 22 = .ok (.iload_n 2, 1) := by decide +kernel
theorem dX7_event_23 : decode cX7_event 23 = .ok (.iconst 0, 1) := by decide +kernel
theorem dX7_event_24 : decode cX7_event 24 = .ok (.iconst 3, 1) := by decide +kernel
theorem dX7_event_25 : decode cX7_event 25 = .ok (.invokestatic 68, 3) := by decide +kernel
theorem dX7_event_28 : decode cX7_event 28 = .ok (.ifCond .ne 7, 3) := by decide +kernel
theorem dX7_event_31 : decode cX7_event 31 = .ok (.iconst 2, 1) := by decide +kernel
theorem dX7_event_32 : decode cX7_event 32 = .ok (.goto 4, 3) := by decide +kernel
theorem dX7_event_35 : decode cX7_event 35 = .ok (.iconst 0, 1) := by decide +kernel
theorem dX7_event_36 : decode cX7_event 36 = .ok (.putfield 62, 3) := by decide +kernel
theorem dX7_event_39 : decode cX7_event 39 = .ok (.aload_n 0, 1) := by decide +kernel
theorem dX7_event_40 : decode cX7_event 40 = .ok (.getfield 62, 3) := by decide +kernel
theorem dX7_event_43 : decode cX7_event 43 = .ok (.ifCond .le 7, 3) := by decide +kernel
theorem dX7_event_46 : decode cX7_event 46 = .ok (.iconst 0, 1) := by decide +kernel
theorem dX7_event_47 : decode cX7_event 47 = .ok (.goto 17, 3) := by decide +kernel
theorem dX7_event_50 : decode cX7_event 50 = .ok (.aload_n 0, 1) := by decide +kernel
theorem dX7_event_51 : decode cX7_event 51 = .ok (.getfield 9, 3) := by decide +kernel
theorem dX7_event_54 : decode cX7_event 54 = .ok (.sipush 220, 3) := by decide +kernel
theorem dX7_event_57 : decode cX7_event 57 = .ok (.iconst 4, 1) := by decide +kernel
theorem dX7_event_58 : decode cX7_event 58 = .ok (.iload_n 1, 1) := by decide +kernel
theorem dX7_event_59 : decode cX7_event 59 = .ok (.imul, 1) := by decide +kernel
theorem dX7_event_60 : decode cX7_event 60 = .ok (.iadd, 1) := by decide +kernel
theorem dX7_event_61 : decode cX7_event 61 = .ok (.iload_n 2, 1) := by decide +kernel
theorem dX7_event_62 : decode cX7_event 62 = .ok (.iadd, 1) := by decide +kernel
theorem dX7_event_63 : decode cX7_event 63 = .ok (.iaload, 1) := by decide +kernel
theorem dX7_event_64 : decode cX7_event 64 = .ok (.ireturn, 1) := by decide +kernel
theorem dX7_forget_0 : decode cX7_forget 0 = .ok (.aload_n 0, 1) := by decide +kernel
theorem dX7_forget_1 : decode cX7_forget 1 = .ok (.iconst 0, 1) := by decide +kernel
theorem dX7_forget_2 : decode cX7_forget 2 = .ok (.putfield 62, 3) := by decide +kernel
theorem dX7_forget_5 : decode cX7_forget 5 = .ok (.iload_n 1, 1) := by decide +kernel
theorem dX7_forget_6 : decode cX7_forget 6 = .ok (.iconst 0, 1) := by decide +kernel
theorem dX7_forget_7 : decode cX7_forget 7 = .ok (.bipush 31, 2) := by decide +kernel
theorem dX7_forget_9 : decode cX7_forget 9 = .ok (.invokestatic 68, 3) := by decide +kernel
theorem dX7_forget_12 : decode cX7_forget 12 = .ok (.ifCond .ne 9, 3) := by decide +kernel
theorem dX7_forget_15 : decode cX7_forget 15 = .ok (.aload_n 0, 1) := by decide +kernel
theorem dX7_forget_16 : decode cX7_forget 16 = .ok (.iconst 1, 1) := by decide +kernel
theorem dX7_forget_17 : decode cX7_forget 17 = .ok (.invokevirtual 122, 3) := by decide +kernel
theorem dX7_forget_20 : decode cX7_forget 20 = .ok (.ireturn, 1) := by decide +kernel
theorem dX7_forget_21 : decode cX7_forget 21 = .ok (.aload_n 0, 1) := by decide +kernel
theorem dX7_forget_22 : decode cX7_forget 22 = .ok (.aload_n 0, 1) := by decide +kernel
theorem dX7_forget_23 : decode cX7_forget 23 = .ok (.getfield 9, 3) := by decide +kernel
theorem dX7_forget_26 : decode cX7_forget 26 = .ok (.invokevirtual 93, 3) := by decide +kernel
theorem dX7_forget_29 : decode cX7_forget 29 = .ok (.iconst 0, 1) := by decide +kernel
theorem dX7_forget_30 : decode cX7_forget 30 = .ok (.istore_n 2, 1) := by decide +kernel
theorem dX7_forget_31 : decode cX7_forget 31 = .ok (.iconst 0, 1) := by decide +kernel
theorem dX7_forget_32 : decode cX7_forget 32 = .ok (.istore_n 3, 1) := by decide +kernel
theorem dX7_forget_33 : decode cX7_forget 33 = .ok (.iload_n 3, 1) := by decide +kernel
theorem dX7_forget_34 : decode cX7_forget 34 = .ok (.aload_n 0, 1) := by decide +kernel
theorem dX7_forget_35 : decode cX7_forget 35 = .ok (.getfield 9, 3) := by decide +kernel
theorem dX7_forget_38 : decode cX7_forget 38 = .ok (.bipush 11, 2) := by decide +kernel
theorem dX7_forget_40 : decode cX7_forget 40 = .ok (.iaload, 1) := by decide +kernel
theorem dX7_forget_41 : decode cX7_forget 41 = .ok (.if_icmp .ge 97, 3) := by decide +kernel
theorem dX7_forget_44 : decode cX7_forget 44 = .ok (.aload_n 0, 1) := by decide +kernel
theorem dX7_forget_45 : decode cX7_forget 45 = .ok (.getfield 9, 3) := by decide +kernel
theorem dX7_forget_48 : decode cX7_forget 48 = .ok (.sipush 220, 3) := by decide +kernel
theorem dX7_forget_51 : decode cX7_forget 51 = .ok (.iconst 4, 1) := by decide +kernel
theorem dX7_forget_52 : decode cX7_forget 52 = .ok (.iload_n 3, 1) := by decide +kernel
theorem dX7_forget_53 : decode cX7_forget 53 = .ok (.imul, 1) := by decide +kernel
theorem dX7_forget_54 : decode cX7_forget 54 = .ok (.iadd, 1) := by decide +kernel
theorem dX7_forget_55 : decode cX7_forget 55 = .ok (.iconst 2, 1) := by decide +kernel
theorem dX7_forget_56 : decode cX7_forget 56 = .ok (.iadd, 1) := by decide +kernel
theorem dX7_forget_57 : decode cX7_forget 57 = .ok (.iaload, 1) := by decide +kernel
theorem dX7_forget_58 : decode cX7_forget 58 = .ok (.iload_n 1, 1) := by decide +kernel
theorem dX7_forget_59 : decode cX7_forget 59 = .ok (.if_icmp .ne 7, 3) := by decide +kernel
theorem dX7_forget_62 : decode cX7_forget 62 = .ok (.iconst 1, 1) := by decide +kernel
theorem dX7_forget_63 : decode cX7_forget 63 = .ok (.goto 4, 3) := by decide +kernel
theorem dX7_forget_66 : decode cX7_forget 66 = .ok (.iconst 0, 1) := by decide +kernel
theorem dX7_forget_67 : decode cX7_forget 67 = .ok (.istore 4, 2) := by decide +kernel
theorem dX7_forget_69 : decode cX7_forget 69 = .ok (.iconst 0, 1) := by decide +kernel
theorem dX7_forget_70 : decode cX7_forget 70 = .ok (.istore 5, 2) := by decide +kernel
theorem dX7_forget_72 : decode cX7_forget 72 = .ok (.iload 5, 2) := by decide +kernel
theorem dX7_forget_74 : decode cX7_forget 74 = .ok (.iconst 4, 1) := by decide +kernel
theorem dX7_forget_75 : decode cX7_forget 75 = .ok (.if_icmp .ge 44, 3) := by decide +kernel
theorem dX7_forget_78 : decode cX7_forget 78 = .ok (.iload 4, 2) := by decide +kernel
theorem dX7_forget_80 : decode cX7_forget 80 = .ok (.ifCond .ne 39, 3) := by decide +kernel
theorem dX7_forget_83 : decode cX7_forget 83 = .ok (.aload_n 0, 1) := by decide +kernel
theorem dX7_forget_84 : decode cX7_forget 84 = .ok (.getfield 9, 3) := by decide +kernel
theorem dX7_forget_87 : decode cX7_forget 87 = .ok (.sipush 220, 3) := by decide +kernel
theorem dX7_forget_90 : decode cX7_forget 90 = .ok (.iconst 4, 1) := by decide +kernel
theorem dX7_forget_91 : decode cX7_forget 91 = .ok (.iload_n 2, 1) := by decide +kernel
theorem dX7_forget_92 : decode cX7_forget 92 = .ok (.imul, 1) := by decide +kernel
theorem dX7_forget_93 : decode cX7_forget 93 = .ok (.iadd, 1) := by decide +kernel
theorem dX7_forget_94 : decode cX7_forget 94 = .ok (.iload 5, 2) := by decide +kernel
theorem dX7_forget_96 : decode cX7_forget 96 = .ok (.iadd, 1) := by decide +kernel
theorem dX7_forget_97 : decode cX7_forget 97 = .ok (.aload_n 0, 1) := by decide +kernel
theorem dX7_forget_98 : decode cX7_forget 98 = .ok (.getfield 9, 3) := by decide +kernel
theorem dX7_forget_101 : decode cX7_forget 101 = .ok (.sipush 220, 3) := by decide +kernel
theorem dX7_forget_104 : decode cX7_forget 104 = .ok (.iconst 4, 1) := by decide +kernel
theorem dX7_forget_105 : decode cX7_forget 105 = .ok (.iload_n 3, 1) := by decide +kernel
theorem dX7_forget_106 : decode cX7_forget 106 = .ok (.imul, 1) := by decide +kernel
theorem dX7_forget_107 : decode cX7_forget 107 = .ok (.iadd, 1) := by decide +kernel
theorem dX7_forget_108 : decode cX7_forget 108 = .ok (.iload 5, 2) := by decide +kernel
theorem dX7_forget_110 : decode cX7_forget 110 = .ok (.iadd, 1) := by decide +kernel
theorem dX7_forget_111 : decode cX7_forget 111 = .ok (.iaload, 1) := by decide +kernel
theorem dX7_forget_112 : decode cX7_forget 112 = .ok (.iastore, 1) := by decide +kernel
theorem dX7_forget_113 : decode cX7_forget 113 = .ok (.iinc 5 1, 3) := by decide +kernel
theorem dX7_forget_116 : decode cX7_forget 116 = .ok (.goto (-44), 3) := by decide +kernel
theorem dX7_forget_119 : decode cX7_forget 119 = .ok (.iload_n 2, 1) := by decide +kernel
theorem dX7_forget_120 : decode cX7_forget 120 = .ok (.iload 4, 2) := by decide +kernel
theorem dX7_forget_122 : decode cX7_forget 122 = .ok (.ifCond .eq 7, 3) := by decide +kernel
theorem dX7_forget_125 : decode cX7_forget 125 = .ok (.iconst 0, 1) := by decide +kernel
theorem dX7_forget_126 : decode cX7_forget 126 = .ok (.goto 4, 3) := by decide +kernel
theorem dX7_forget_129 : decode cX7_forget 129 = .ok (.iconst 1, 1) := by decide +kernel
theorem dX7_forget_130 : decode cX7_forget 130 = .ok (.iadd, 1) := by decide +kernel
theorem dX7_forget_131 : decode cX7_forget 131 = .ok (.istore_n 2, 1) := by decide +kernel
theorem dX7_forget_132 : decode cX7_forget 132 = .ok (.iinc 3 1, 3) := by decide +kernel
theorem dX7_forget_135 : decode cX7_forget 135 = .ok (.goto (-102), 3) := by decide +kernel
theorem dX7_forget_138 : decode cX7_forget 138 = .ok (.aload_n 0, 1) := by decide +kernel
theorem dX7_forget_139 : decode cX7_forget 139 = .ok (.getfield 9, 3) := by decide +kernel
theorem dX7_forget_142 : decode cX7_forget 142 = .ok (.bipush 11, 2) := by decide +kernel
theorem dX7_forget_144 : decode cX7_forget 144 = .ok (.iaload, 1) := by decide +kernel
theorem dX7_forget_145 : decode cX7_forget 145 = .ok (.iload_n 2, 1) := by decide +kernel
theorem dX7_forget_146 : decode cX7_forget 146 = .ok (.isub, 1) := by decide +kernel
theorem dX7_forget_147 : decode cX7_forget 147 = .ok (.istore_n 3, 1) := by decide +kernel
theorem dX7_forget_148 : decode cX7_forget 148 = .ok (.aload_n 0, 1) := by decide +kernel
theorem dX7_forget_149 : decode cX7_forget 149 = .ok (.getfield 9, 3) := by decide +kernel
theorem dX7_forget_152 : decode cX7_forget 152 = .ok (.bipush 11, 2) := by decide +kernel
theorem dX7_forget_154 : decode cX7_forget 154 = .ok (.iload_n 2, 1) := by decide +kernel
theorem dX7_forget_155 : decode cX7_forget 155 = .ok (.iastore, 1) := by decide +kernel
theorem dX7_forget_156 : decode cX7_forget 156 = .ok (.iload_n 3, 1) := by decide +kernel
theorem dX7_forget_157 : decode cX7_forget 157 = .ok (.ireturn, 1) := by decide +kernel
theorem dX7_feed_0 : decode cX7_feed 0 = .ok (.aload_n 0, 1) := by decide +kernel
theorem dX7_feed_1 : decode cX7_feed 1 = .ok (.iconst 0, 1) := by decide +kernel
theorem dX7_feed_2 : decode cX7_feed 2 = .ok (.putfield 62, 3) := by decide +kernel
theorem dX7_feed_5 : decode cX7_feed 5 = .ok (.aload_n 0, 1) := by decide +kernel
theorem dX7_feed_6 : decode cX7_feed 6 = .ok (.getfield 188, 3) := by decide +kernel
theorem dX7_feed_9 : decode cX7_feed 9 = .ok (.bipush 60, 2) := by decide +kernel
theorem dX7_feed_11 : decode cX7_feed 11 = .ok (.if_icmp .ne 9, 3) := by decide +kernel
theorem dX7_feed_14 : decode cX7_feed 14 = .ok (.aload_n 0, 1) := by decide +kernel
theorem dX7_feed_15 : decode cX7_feed 15 = .ok (.iconst 1, 1) := by decide +kernel
theorem dX7_feed_16 : decode cX7_feed 16 = .ok (.invokevirtual 122, 3) := by decide +kernel
theorem dX7_feed_19 : decode cX7_feed 19 = .ok (.ireturn, 1) := by decide +kernel
theorem dX7_feed_20 : decode cX7_feed 20 = .ok (.aload_n 0, 1) := by decide +kernel
theorem dX7_feed_21 : decode cX7_feed 21 = .ok (.getfield 52, 3) := by decide +kernel
theorem dX7_feed_24 : decode cX7_feed 24 = .ok (.aload_n 0, 1) := by decide +kernel
theorem dX7_feed_25 : decode cX7_feed 25 = .ok (.getfield 188, 3) := by decide +kernel
theorem dX7_feed_28 : decode cX7_feed 28 = .ok (.iload_n 1, 1) := by decide +kernel
theorem dX7_feed_29 : decode cX7_feed 29 = .ok (.iastore, 1) := by decide +kernel
theorem dX7_feed_30 : decode cX7_feed 30 = .ok (.aload_n 0, 1) := by decide +kernel
theorem dX7_feed_31 : decode cX7_feed 31 = .ok (.dup, 1) := by decide +kernel
theorem dX7_feed_32 : decode cX7_feed 32 = .ok (.getfield 188, 3) := by decide +kernel
theorem dX7_feed_35 : decode cX7_feed 35 = .ok (.iconst 1, 1) := by decide +kernel
theorem dX7_feed_36 : decode cX7_feed 36 = .ok (.iadd, 1) := by decide +kernel
theorem dX7_feed_37 : decode cX7_feed 37 = .ok (.putfield 188, 3) := by decide +kernel
theorem dX7_feed_40 : decode cX7_feed 40 = .ok (.aload_n 0, 1) := by decide +kernel
theorem dX7_feed_41 : decode cX7_feed 41 = .ok (.getfield 188, 3) := by decide +kernel
theorem dX7_feed_44 : decode cX7_feed 44 = .ok (.ireturn, 1) := by decide +kernel
theorem dX7_here_0 : decode cX7_here 0 = .ok (.aload_n 0, 1) := by decide +kernel
theorem dX7_here_1 : decode cX7_here 1 = .ok (.getfield 191, 3) := by decide +kernel
theorem dX7_here_4 : decode cX7_here 4 = .ok (.aload_n 0, 1) := by decide +kernel
theorem dX7_here_5 : decode cX7_here 5 = .ok (.getfield 188, 3) := by decide +kernel
theorem dX7_here_8 : decode cX7_here 8 = .ok (.if_icmp .ge 15, 3) := by decide +kernel
theorem dX7_here_11 : decode cX7_here 11 = .ok (.aload_n 0, 1) := by decide +kernel
theorem dX7_here_12 : decode cX7_here 12 = .ok (.getfield 52, 3) := by decide +kernel
theorem dX7_here_15 : decode cX7_here 15 = .ok (.aload_n 0, 1) := by decide +kernel
theorem dX7_here_16 : decode cX7_here 16 = .ok (.getfield 191, 3) := by decide +kernel
theorem dX7_here_19 : decode cX7_here 19 = .ok (.iaload, 1) := by decide +kernel
theorem dX7_here_20 : decode cX7_here 20 = .ok (.goto 4, 3) := by decide +kernel
theorem dX7_here_23 : decode cX7_here 23 = .ok (.iconst (-1), 1) := by decide +kernel
theorem dX7_here_24 : decode cX7_here 24 = .ok (.ireturn, 1) := by decide +kernel
theorem dX7_number_0 : decode cX7_number 0 = .ok (.aload_n 0, 1) := by decide +kernel
theorem dX7_number_1 : decode cX7_number 1 = .ok (.getfield 194, 3) := by decide +kernel
theorem dX7_number_4 : decode cX7_number 4 = .ok (.ifCond .ne 17, 3) := by decide +kernel
theorem dX7_number_7 : decode cX7_number 7 = .ok (.aload_n 0, 1) := by decide +kernel
theorem dX7_number_8 : decode cX7_number 8 = .ok (.invokevirtual 198, 3) := by decide +kernel
theorem dX7_number_11 : decode cX7_number 11 = .ok (.bipush 48, 2) := by decide +kernel
theorem dX7_number_13 : decode cX7_number 13 = .ok (.bipush 57, 2) := by decide +kernel
theorem dX7_number_15 : decode cX7_number 15 = .ok (.invokestatic 68, 3) := by decide +kernel
theorem dX7_number_18 : decode cX7_number 18 = .ok (.ifCond .ne 10, 3) := by decide +kernel
theorem dX7_number_21 : decode cX7_number 21 = .ok (.aload_n 0, 1) := by decide +kernel
theorem dX7_number_22 : decode cX7_number 22 = .ok (.iconst 1, 1) := by decide +kernel
theorem dX7_number_23 : decode cX7_number 23 = .ok (.putfield 194, 3) := by decide +kernel
theorem dX7_number_26 : decode cX7_number 26 = .ok (.iconst 0, 1) := by decide +kernel
theorem dX7_number_27 : decode cX7_number 27 = .ok (.ireturn, 1) := by decide +kernel
theorem dX7_number_28 : decode cX7_number 28 = .ok (.aload_n 0, 1) := by decide +kernel
theorem dX7_number_29 : decode cX7_number 29 = .ok (.invokevirtual 198, 3) := by decide +kernel
theorem dX7_number_32 : decode cX7_number 32 = .ok (.bipush 48, 2) := by decide +kernel
theorem dX7_number_34 : decode cX7_number 34 = .ok (.isub, 1) := by decide +kernel
theorem dX7_number_35 : decode cX7_number 35 = .ok (.istore_n 1, 1) := by decide +kernel
theorem dX7_number_36 : decode cX7_number 36 = .ok (.aload_n 0, 1) := by decide +kernel
theorem dX7_number_37 : decode cX7_number 37 = .ok (.dup, 1) := by decide +kernel
theorem dX7_number_38 : decode cX7_number 38 = .ok (.getfield 191, 3) := by decide +kernel
theorem dX7_number_41 : decode cX7_number 41 = .ok (.iconst 1, 1) := by decide +kernel
theorem dX7_number_42 : decode cX7_number 42 = .ok (.iadd, 1) := by decide +kernel
theorem dX7_number_43 : decode cX7_number 43 = .ok (.putfield 191, 3) := by decide +kernel
theorem dX7_number_46 : decode cX7_number 46 = .ok (.aload_n 0, 1) := by decide +kernel
theorem dX7_number_47 : decode cX7_number 47 = .ok (.invokevirtual 198, 3) := by decide +kernel
theorem dX7_number_50 : decode cX7_number 50 = .ok (.bipush 48, 2) := by decide +kernel
theorem dX7_number_52 : decode cX7_number 52 = .ok (.bipush 57, 2) := by decide +kernel
theorem dX7_number_54 : decode cX7_number 54 = .ok (.invokestatic 68, 3) := by decide +kernel
theorem dX7_number_57 : decode cX7_number 57 = .ok (.ifCond .eq 26, 3) := by decide +kernel
theorem dX7_number_60 : decode cX7_number 60 = .ok (.bipush 10, 2) := by decide +kernel
theorem dX7_number_62 : decode cX7_number 62 = .ok (.iload_n 1, 1) := by decide +kernel
theorem dX7_number_63 : decode cX7_number 63 = .ok (.imul, 1) := by decide +kernel
theorem dX7_number_64 : decode cX7_number 64 = .ok (.aload_n 0, 1) := by decide +kernel
theorem dX7_number_65 : decode cX7_number 65 = .ok (.invokevirtual 198, 3) := by decide +kernel
theorem dX7_number_68 : decode cX7_number 68 = .ok (.iadd, 1) := by decide +kernel
theorem dX7_number_69 : decode cX7_number 69 = .ok (.bipush 48, 2) := by decide +kernel
theorem dX7_number_71 : decode cX7_number 71 = .ok (.isub, 1) := by decide +kernel
theorem dX7_number_72 : decode cX7_number 72 = .ok (.istore_n 1, 1) := by decide +kernel
theorem dX7_number_73 : decode cX7_number 73 = .ok (.aload_n 0, 1) := by decide +kernel
theorem dX7_number_74 : decode cX7_number 74 = .ok (.dup, 1) := by decide +kernel
theorem dX7_number_75 : decode cX7_number 75 = .ok (.getfield 191, 3) := by decide +kernel
theorem dX7_number_78 : decode cX7_number 78 = .ok (.iconst 1, 1) := by decide +kernel
theorem dX7_number_79 : decode cX7_number 79 = .ok (.iadd, 1) := by decide +kernel
theorem dX7_number_80 : decode cX7_number 80 = .ok (.putfield 191, 3) := by decide +kernel
theorem dX7_number_83 : decode cX7_number 83 = .ok (.iload_n 1, 1) := by decide +kernel
theorem dX7_number_84 : decode cX7_number 84 = .ok (.ireturn, 1) := by decide +kernel
theorem dX7_take_0 : decode cX7_take 0 = .ok (.aload_n 0, 1) := by decide +kernel
theorem dX7_take_1 : decode cX7_take 1 = .ok (.getfield 194, 3) := by decide +kernel
theorem dX7_take_4 : decode cX7_take 4 = .ok (.ifCond .ne 24, 3) := by decide +kernel
theorem dX7_take_7 : decode cX7_take 7 = .ok (.aload_n 0, 1) := by decide +kernel
theorem dX7_take_8 : decode cX7_take 8 = .ok (.invokevirtual 198, 3) := by decide +kernel
theorem dX7_take_11 : decode cX7_take 11 = .ok (.iload_n 1, 1) := by decide +kernel
theorem dX7_take_12 : decode cX7_take 12 = .ok (.if_icmp .ne 16, 3) := by decide +kernel
theorem dX7_take_15 : decode cX7_take 15 = .ok (.aload_n 0, 1) := by decide +kernel
theorem dX7_take_16 : decode cX7_take 16 = .ok (.dup, 1) := by decide +kernel
theorem dX7_take_17 : decode cX7_take 17 = .ok (.getfield 191, 3) := by decide +kernel
theorem dX7_take_20 : decode cX7_take 20 = .ok (.iconst 1, 1) := by decide +kernel
theorem dX7_take_21 : decode cX7_take 21 = .ok (.iadd, 1) := by decide +kernel
theorem dX7_take_22 : decode cX7_take 22 = .ok (.putfield 191, 3) := by decide +kernel
theorem dX7_take_25 : decode cX7_take 25 = .ok (.goto 8, 3) := by decide +kernel
theorem dX7_take_28 : decode cX7_take 28 = .ok (.aload_n 0, 1) := by decide +kernel
theorem dX7_take_29 : decode cX7_take 29 = .ok (.iconst 1, 1) := by decide +kernel
theorem dX7_take_30 : decode cX7_take 30 = .ok (.putfield 194, 3) := by decide +kernel
theorem dX7_take_33 : decode cX7_take 33 = .ok (.return_, 1) := by decide +kernel
theorem dX7_readCommand_0 : decode cX7_readCommand 0 = .ok (.aload_n 0, 1) := by decide +kernel
theorem dX7_readCommand_1 : decode cX7_readCommand 1 = .ok (.invokevirtual 198, 3) := by decide +kernel
theorem dX7_readCommand_4 : decode cX7_readCommand 4 = .ok (.istore_n 1, 1) := by decide +kernel
theorem dX7_readCommand_5 : decode cX7_readCommand 5 = .ok (.aload_n 0, 1) := by decide +kernel
theorem dX7_readCommand_6 : decode cX7_readCommand 6 = .ok (.iload_n 1, 1) := by decide +kernel
theorem dX7_readCommand_7 : decode cX7_readCommand 7 = .ok (.bipush 110, 2) := by decide +kernel
theorem dX7_readCommand_9 : decode cX7_readCommand 9 = .ok (.if_icmp .eq 37, 3) := by decide +kernel
theorem dX7_readCommand_12 : decode cX7_readCommand 12 = .ok (.iload_n 1, 1) := by decide +kernel
theorem dX7_readCommand_13 : decode cX7_readCommand 13 = .ok (.bipush 100, 2) := by decide +kernel
theorem dX7_readCommand_15 : decode cX7_readCommand 15 = .ok (.if_icmp .eq 31, 3) := by decide +kernel
theorem dX7_readCommand_18 : decode cX7_readCommand 18 = .ok (.iload_n 1, 1) := by decide +kernel
theorem dX7_readCommand_19 : decode cX7_readCommand 19 = .ok (.bipush 102, 2) := by decide +kernel
theorem dX7_readCommand_21 : decode cX7_readCommand 21 = .ok (.if_icmp .eq 25, 3) := by decide +kernel
theorem dX7_readCommand_24 : decode cX7_readCommand 24 = .ok (.iload_n 1, 1) := by decide +kernel
theorem dX7_readCommand_25 : decode cX7_readCommand 25 = .ok (.bipush 114, 2) := by decide +kernel
theorem dX7_readCommand_27 : decode cX7_readCommand 27 = .ok (.if_icmp .eq 19, 3) := by decide +kernel
theorem dX7_readCommand_30 : decode cX7_readCommand 30 = .ok (.iload_n 1, 1) := by decide +kernel
theorem dX7_readCommand_31 : decode cX7_readCommand 31 = .ok (.bipush 119, 2) := by decide +kernel
theorem dX7_readCommand_33 : decode cX7_readCommand 33 = .ok (.if_icmp .eq 13, 3) := by decide +kernel
theorem dX7_readCommand_36 : decode cX7_readCommand 36 = .ok (.iload_n 1, 1) := by decide +kernel
theorem dX7_readCommand_37 : decode cX7_readCommand 37 = .ok (.bipush 116, 2) := by decide +kernel
theorem dX7_readCommand_39 : decode cX7_readCommand 39 = .ok (.if_icmp .eq 7, 3) := by decide +kernel
theorem dX7_readCommand_42 : decode cX7_readCommand 42 = .ok (.iconst 1, 1) := by decide +kernel
theorem dX7_readCommand_43 : decode cX7_readCommand 43 = .ok (.goto 4, 3) := by decide +kernel
theorem dX7_readCommand_46 : decode cX7_readCommand 46 = .ok (.iconst 0, 1) := by decide +kernel
theorem dX7_readCommand_47 : decode cX7_readCommand 47 = .ok (.putfield 194, 3) := by decide +kernel
theorem dX7_readCommand_50 : decode cX7_readCommand 50 = .ok (.aload_n 0, 1) := by decide +kernel
theorem dX7_readCommand_51 : decode cX7_readCommand 51 = .ok (.dup, 1) := by decide +kernel
theorem dX7_readCommand_52 : decode cX7_readCommand 52 = .ok (.getfield 191, 3) := by decide +kernel
theorem dX7_readCommand_55 : decode cX7_readCommand 55 = .ok (.aload_n 0, 1) := by decide +kernel
theorem dX7_readCommand_56 : decode cX7_readCommand 56 = .ok (.getfield 194, 3) := by decide +kernel
theorem dX7_readCommand_59 : decode cX7_readCommand 59 = .ok (.ifCond .eq 7, 3) := by decide +kernel
theorem dX7_readCommand_62 : decode cX7_readCommand 62 = .ok (.iconst 0, 1) := by decide +kernel
theorem dX7_readCommand_63 : decode cX7_readCommand 63 = .ok (.goto 4, 3) := by decide +kernel
theorem dX7_readCommand_66 : decode cX7_readCommand 66 = .ok (.iconst 1, 1) := by decide +kernel
theorem dX7_readCommand_67 : decode cX7_readCommand 67 = .ok (.iadd, 1) := by decide +kernel
theorem dX7_readCommand_68 : decode cX7_readCommand 68 = .ok (.putfield 191, 3) := by decide +kernel
theorem dX7_readCommand_71 : decode cX7_readCommand 71 = .ok (.aload_n 0, 1) := by decide +kernel
theorem dX7_readCommand_72 : decode cX7_readCommand 72 = .ok (.getfield 55, 3) := by decide +kernel
theorem dX7_readCommand_75 : decode cX7_readCommand 75 = .ok (.iconst 3, 1) := by decide +kernel
theorem dX7_readCommand_76 : decode cX7_readCommand 76 = .ok (.aload_n 0, 1) := by decide +kernel
theorem dX7_readCommand_77 : decode cX7_readCommand 77 = .ok (.getfield 201, 3) := by decide +kernel
theorem dX7_readCommand_80 : decode cX7_readCommand 80 = .ok (.imul, 1) := by decide +kernel
theorem dX7_readCommand_81 : decode cX7_readCommand 81 = .ok (.iload_n 1, 1) := by decide +kernel
theorem dX7_readCommand_82 : decode cX7_readCommand 82 = .ok (.iastore, 1) := by decide +kernel
theorem dX7_readCommand_83 : decode cX7_readCommand 83 = .ok (.aload_n 0, 1) := by decide +kernel
theorem dX7_readCommand_84 : decode cX7_readCommand 84 = .ok (.getfield 55, 3) := by decide +kernel
theorem dX7_readCommand_87 : decode cX7_readCommand 87 = .ok (.iconst 3, 1) := by decide +kernel
theorem dX7_readCommand_88 : decode cX7_readCommand 88 = .ok (.aload_n 0, 1) := by decide +kernel
theorem dX7_readCommand_89 : decode cX7_readCommand 89 = .ok (.getfield 201, 3) := by decide +kernel
theorem dX7_readCommand_92 : decode cX7_readCommand 92 = .ok (.imul, 1) := by decide +kernel
theorem dX7_readCommand_93 : decode cX7_readCommand 93 = .ok (.iconst 1, 1) := by decide +kernel
theorem dX7_readCommand_94 : decode cX7_readCommand 94 = .ok (.iadd, 1) := by decide +kernel
theorem dX7_readCommand_95 : decode cX7_readCommand 95 = .ok (.aload_n 0, 1) := by decide +kernel
theorem dX7_readCommand_96 : decode cX7_readCommand 96 = .ok (.invokevirtual 204, 3) := by decide +kernel
theorem dX7_readCommand_99 : decode cX7_readCommand 99 = .ok (.iastore, 1) := by decide +kernel
theorem dX7_readCommand_100 : decode cX7_readCommand 100 = .ok (.iload_n 1, 1) := by decide +kernel
theorem dX7_readCommand_101 : decode cX7_readCommand 101 = .ok (.bipush 119, 2) := by decide +kernel
theorem dX7_readCommand_103 : decode cX7_readCommand 103 = .ok (.if_icmp .ne 26, 3) := by decide +kernel
theorem dX7_readCommand_106 : decode cX7_readCommand 106 = .ok (.aload_n 0, 1) := by decide +kernel
theorem dX7_readCommand_107 : decode cX7_readCommand 107 = .ok (.bipush 61, 2) := by decide +kernel
theorem dX7_readCommand_109 : decode cX7_readCommand 109 = .ok (.invokevirtual 207, 3) := by decide +kernel
theorem dX7_readCommand_112 : decode cX7_readCommand 112 = .ok (.aload_n 0, 1) := by decide +kernel
theorem dX7_readCommand_113 : decode cX7_readCommand 113 = .ok (.getfield 55, 3) := by decide +kernel
theorem dX7_readCommand_116 : decode cX7_readCommand 116 = .ok (.iconst 3, 1) := by decide +kernel
theorem dX7_readCommand_117 : decode cX7_readCommand 117 = .ok (.aload_n 0, 1) := by decide +kernel
theorem dX7_readCommand_118 : decode cX7_readCommand 118 = .ok (.getfield 201, 3) := by decide +kernel
theorem dX7_readCommand_121 : decode cX7_readCommand 121 = .ok (.imul, 1) := by decide +kernel
theorem dX7_readCommand_122 : decode cX7_readCommand 122 = .ok (.iconst 2, 1) := by decide +kernel
theorem dX7_readCommand_123 : decode cX7_readCommand 123 = .ok (.iadd, 1) := by decide +kernel
theorem dX7_readCommand_124 : decode cX7_readCommand 124 = .ok (.aload_n 0, 1) := by decide +kernel
theorem dX7_readCommand_125 : decode cX7_readCommand 125 = .ok (.invokevirtual 204, 3) := by decide +kernel
theorem dX7_readCommand_128 : decode cX7_readCommand 128 = .ok (.iastore, 1) := by decide +kernel
theorem dX7_readCommand_129 : decode cX7_readCommand 129 = .ok (.aload_n 0, 1) := by decide +kernel
theorem dX7_readCommand_130 : decode cX7_readCommand 130 = .ok (.bipush 59, 2) := by decide +kernel
theorem dX7_readCommand_132 : decode cX7_readCommand 132 = .ok (.invokevirtual 207, 3) := by decide +kernel
theorem dX7_readCommand_135 : decode cX7_readCommand 135 = .ok (.aload_n 0, 1) := by decide +kernel
theorem dX7_readCommand_136 : decode cX7_readCommand 136 = .ok (.dup, 1) := by decide +kernel
theorem dX7_readCommand_137 : decode cX7_readCommand 137 = .ok (.getfield 201, 3) := by decide +kernel
theorem dX7_readCommand_140 : decode cX7_readCommand 140 = .ok (.iconst 1, 1) := by decide +kernel
theorem dX7_readCommand_141 : decode cX7_readCommand 141 = .ok (.iadd, 1) := by decide +kernel
theorem dX7_readCommand_142 : decode cX7_readCommand 142 = .ok (.putfield 201, 3) := by decide +kernel
theorem dX7_readCommand_145 : decode cX7_readCommand 145 = .ok (.return_, 1) := by decide +kernel
theorem dX7_performs_0 : decode cX7_performs 0 = .ok (.aload_n 0, 1) := by decide +kernel
theorem dX7_performs_1 : decode cX7_performs 1 = .ok (.getfield 55, 3) := by decide +kernel
theorem dX7_performs_4 : decode cX7_performs 4 = .ok (.iconst 3, 1) := by decide +kernel
theorem dX7_performs_5 : decode cX7_performs 5 = .ok (.iload_n 1, 1) := by decide +kernel
theorem dX7_performs_6 : decode cX7_performs 6 = .ok (.imul, 1) := by decide +kernel
theorem dX7_performs_7 : decode cX7_performs 7 = .ok (.iconst 1, 1) := by decide +kernel
theorem dX7_performs_8 : decode cX7_performs 8 = .ok (.iadd, 1) := by decide +kernel
theorem dX7_performs_9 : decode cX7_performs 9 = .ok (.iaload, 1) := by decide +kernel
theorem dX7_performs_10 : decode cX7_performs 10 = .ok (.istore_n 2, 1) := by decide +kernel
theorem dX7_performs_11 : decode cX7_performs 11 = .ok (.aload_n 0, 1) := by decide +kernel
theorem dX7_performs_12 : decode cX7_performs 12 = .ok (.getfield 55, 3) := by decide +kernel
theorem dX7_performs_15 : decode cX7_performs 15 = .ok (.iconst 3, 1) := by decide +kernel
theorem dX7_performs_16 : decode cX7_performs 16 = .ok (.iload_n 1, 1) := by decide +kernel
theorem dX7_performs_17 : decode cX7_performs 17 = .ok (.imul, 1) := by decide +kernel
theorem dX7_performs_18 : decode cX7_performs 18 = .ok (.iaload, 1) := by decide +kernel
theorem dX7_performs_19 : decode cX7_performs 19 = .ok (.lookupswitch 89 #[(100, 55), (102, 61), (110, 49), (114, 67), (119, 73)], 49) := by decide +kernel
theorem dX7_performs_68 : decode cX7_performs 68 = .ok (.aload_n 0, 1) := by decide +kernel
theorem dX7_performs_69 : decode cX7_performs 69 = .ok (.iload_n 2, 1) := by decide +kernel
theorem dX7_performs_70 : decode cX7_performs 70 = .ok (.invokevirtual 100, 3) := by decide +kernel
theorem dX7_performs_73 : decode cX7_performs 73 = .ok (.ireturn, 1) := by decide +kernel
theorem dX7_performs_74 : decode cX7_performs 74 = .ok (.aload_n 0, 1) := by decide +kernel
theorem dX7_performs_75 : decode cX7_performs 75 = .ok (.iload_n 2, 1) := by decide +kernel
theorem dX7_performs_76 : decode cX7_performs 76 = .ok (.invokevirtual 106, 3) := by decide +kernel
theorem dX7_performs_79 : decode cX7_performs 79 = .ok (.ireturn, 1) := by decide +kernel
theorem dX7_performs_80 : decode cX7_performs 80 = .ok (.aload_n 0, 1) := by decide +kernel
theorem dX7_performs_81 : decode cX7_performs 81 = .ok (.iload_n 2, 1) := by decide +kernel
theorem dX7_performs_82 : decode cX7_performs 82 = .ok (.invokevirtual 112, 3) := by decide +kernel
theorem dX7_performs_85 : decode cX7_performs 85 = .ok (.ireturn, 1) := by decide +kernel
theorem dX7_performs_86 : decode cX7_performs 86 = .ok (.aload_n 0, 1) := by decide +kernel
theorem dX7_performs_87 : decode cX7_performs 87 = .ok (.iload_n 2, 1) := by decide +kernel
theorem dX7_performs_88 : decode cX7_performs 88 = .ok (.invokevirtual 115, 3) := by decide +kernel
theorem dX7_performs_91 : decode cX7_performs 91 = .ok (.ireturn, 1) := by decide +kernel
theorem dX7_performs_92 : decode cX7_performs 92 = .ok (.aload_n 0, 1) := by decide +kernel
theorem dX7_performs_93 : decode cX7_performs 93 = .ok (.iload_n 2, 1) := by decide +kernel
theorem dX7_performs_94 : decode cX7_performs 94 = .ok (.aload_n 0, 1) := by decide +kernel
theorem dX7_performs_95 : decode cX7_performs 95 = .ok (.getfield 55, 3) := by decide +kernel
theorem dX7_performs_98 : decode cX7_performs 98 = .ok (.iconst 3, 1) := by decide +kernel
theorem dX7_performs_99 : decode cX7_performs 99 = .ok (.iload_n 1, 1) := by decide +kernel
theorem dX7_performs_100 : decode cX7_performs 100 = .ok (.imul, 1) := by decide +kernel
theorem dX7_performs_101 : decode cX7_performs 101 = .ok (.iconst 2, 1) := by decide +kernel
theorem dX7_performs_102 : decode cX7_performs 102 = .ok (.iadd, 1) := by decide +kernel
theorem dX7_performs_103 : decode cX7_performs 103 = .ok (.iaload, 1) := by decide +kernel
theorem dX7_performs_104 : decode cX7_performs 104 = .ok (.invokevirtual 118, 3) := by decide +kernel
theorem dX7_performs_107 : decode cX7_performs 107 = .ok (.ireturn, 1) := by decide +kernel
theorem dX7_performs_108 : decode cX7_performs 108 = .ok (.aload_n 0, 1) := by decide +kernel
theorem dX7_performs_109 : decode cX7_performs 109 = .ok (.iload_n 2, 1) := by decide +kernel
theorem dX7_performs_110 : decode cX7_performs 110 = .ok (.invokevirtual 175, 3) := by decide +kernel
theorem dX7_performs_113 : decode cX7_performs 113 = .ok (.ireturn, 1) := by decide +kernel
theorem dX7_perform_0 : decode cX7_perform 0 = .ok (.aload_n 0, 1) := by decide +kernel
theorem dX7_perform_1 : decode cX7_perform 1 = .ok (.iconst 0, 1) := by decide +kernel
theorem dX7_perform_2 : decode cX7_perform 2 = .ok (.putfield 62, 3) := by decide +kernel
theorem dX7_perform_5 : decode cX7_perform 5 = .ok (.aload_n 0, 1) := by decide +kernel
theorem dX7_perform_6 : decode cX7_perform 6 = .ok (.iconst 0, 1) := by decide +kernel
theorem dX7_perform_7 : decode cX7_perform 7 = .ok (.putfield 191, 3) := by decide +kernel
theorem dX7_perform_10 : decode cX7_perform 10 = .ok (.aload_n 0, 1) := by decide +kernel
theorem dX7_perform_11 : decode cX7_perform 11 = .ok (.iconst 0, 1) := by decide +kernel
theorem dX7_perform_12 : decode cX7_perform 12 = .ok (.putfield 201, 3) := by decide +kernel
theorem dX7_perform_15 : decode cX7_perform 15 = .ok (.aload_n 0, 1) := by decide +kernel
theorem dX7_perform_16 : decode cX7_perform 16 = .ok (.iconst 0, 1) := by decide +kernel
theorem dX7_perform_17 : decode cX7_perform 17 = .ok (.putfield 194, 3) := by decide +kernel
theorem dX7_perform_20 : decode cX7_perform 20 = .ok (.aload_n 0, 1) := by decide +kernel
theorem dX7_perform_21 : decode cX7_perform 21 = .ok (.invokevirtual 210, 3) := by decide +kernel
theorem dX7_perform_24 : decode cX7_perform 24 = .ok (.aload_n 0, 1) := by decide +kernel
theorem dX7_perform_25 : decode cX7_perform 25 = .ok (.getfield 194, 3) := by decide +kernel
theorem dX7_perform_28 : decode cX7_perform 28 = .ok (.ifCond .ne 21, 3) := by decide +kernel
theorem dX7_perform_31 : decode cX7_perform 31 = .ok (.aload_n 0, 1) := by decide +kernel
theorem dX7_perform_32 : decode cX7_perform 32 = .ok (.getfield 191, 3) := by decide +kernel
theorem dX7_perform_35 : decode cX7_perform 35 = .ok (.aload_n 0, 1) := by decide +kernel
theorem dX7_perform_36 : decode cX7_perform 36 = .ok (.getfield 188, 3) := by decide +kernel
theorem dX7_perform_39 : decode cX7_perform 39 = .ok (.if_icmp .ge 10, 3) := by decide +kernel
theorem dX7_perform_42 : decode cX7_perform 42 = .ok (.aload_n 0, 1) := by decide +kernel
theorem dX7_perform_43 : decode cX7_perform 43 = .ok (.invokevirtual 210, 3) := by decide +kernel
theorem dX7_perform_46 : decode cX7_perform 46 = .ok (.goto (-22), 3) := by decide +kernel
theorem dX7_perform_49 : decode cX7_perform 49 = .ok (.aload_n 0, 1) := by decide +kernel
theorem dX7_perform_50 : decode cX7_perform 50 = .ok (.iconst 0, 1) := by decide +kernel
theorem dX7_perform_51 : decode cX7_perform 51 = .ok (.putfield 188, 3) := by decide +kernel
theorem dX7_perform_54 : decode cX7_perform 54 = .ok (.aload_n 0, 1) := by decide +kernel
theorem dX7_perform_55 : decode cX7_perform 55 = .ok (.getfield 194, 3) := by decide +kernel
theorem dX7_perform_58 : decode cX7_perform 58 = .ok (.ifCond .eq 11, 3) := by decide +kernel
theorem dX7_perform_61 : decode cX7_perform 61 = .ok (.bipush (-100), 2) := by decide +kernel
theorem dX7_perform_63 : decode cX7_perform 63 = .ok (.aload_n 0, 1) := by decide +kernel
theorem dX7_perform_64 : decode cX7_perform 64 = .ok (.getfield 191, 3) := by decide +kernel
theorem dX7_perform_67 : decode cX7_perform 67 = .ok (.isub, 1) := by decide +kernel
theorem dX7_perform_68 : decode cX7_perform 68 = .ok (.ireturn, 1) := by decide +kernel
theorem dX7_perform_69 : decode cX7_perform 69 = .ok (.aload_n 0, 1) := by decide +kernel
theorem dX7_perform_70 : decode cX7_perform 70 = .ok (.invokevirtual 97, 3) := by decide +kernel
theorem dX7_perform_73 : decode cX7_perform 73 = .ok (.iconst 0, 1) := by decide +kernel
theorem dX7_perform_74 : decode cX7_perform 74 = .ok (.istore_n 1, 1) := by decide +kernel
theorem dX7_perform_75 : decode cX7_perform 75 = .ok (.iconst 0, 1) := by decide +kernel
theorem dX7_perform_76 : decode cX7_perform 76 = .ok (.istore_n 2, 1) := by decide +kernel
theorem dX7_perform_77 : decode cX7_perform 77 = .ok (.iload_n 2, 1) := by decide +kernel
theorem dX7_perform_78 : decode cX7_perform 78 = .ok (.aload_n 0, 1) := by decide +kernel
theorem dX7_perform_79 : decode cX7_perform 79 = .ok (.getfield 201, 3) := by decide +kernel
theorem dX7_perform_82 : decode cX7_perform 82 = .ok (.if_icmp .ge 19, 3) := by decide +kernel
theorem dX7_perform_85 : decode cX7_perform 85 = .ok (.iload_n 1, 1) := by decide +kernel
theorem dX7_perform_86 : decode cX7_perform 86 = .ok (.ifCond .ne 15, 3) := by decide +kernel
theorem dX7_perform_89 : decode cX7_perform 89 = .ok (.aload_n 0, 1) := by decide +kernel
theorem dX7_perform_90 : decode cX7_perform 90 = .ok (.iload_n 2, 1) := by decide +kernel
theorem dX7_perform_91 : decode cX7_perform 91 = .ok (.invokevirtual 213, 3) := by decide +kernel
theorem dX7_perform_94 : decode cX7_perform 94 = .ok (.istore_n 1, 1) := by decide +kernel
theorem dX7_perform_95 : decode cX7_perform 95 = .ok (.iinc 2 1, 3) := by decide +kernel
theorem dX7_perform_98 : decode cX7_perform 98 = .ok (.goto (-21), 3) := by decide +kernel
theorem dX7_perform_101 : decode cX7_perform 101 = .ok (.iload_n 1, 1) := by decide +kernel
theorem dX7_perform_102 : decode cX7_perform 102 = .ok (.ifCond .le 13, 3) := by decide +kernel
theorem dX7_perform_105 : decode cX7_perform 105 = .ok (.aload_n 0, 1) := by decide +kernel
theorem dX7_perform_106 : decode cX7_perform 106 = .ok (.invokevirtual 185, 3) := by decide +kernel
theorem dX7_perform_109 : decode cX7_perform 109 = .ok (.aload_n 0, 1) := by decide +kernel
theorem dX7_perform_110 : decode cX7_perform 110 = .ok (.iconst 1, 1) := by decide +kernel
theorem dX7_perform_111 : decode cX7_perform 111 = .ok (.invokevirtual 122, 3) := by decide +kernel
theorem dX7_perform_114 : decode cX7_perform 114 = .ok (.ireturn, 1) := by decide +kernel
theorem dX7_perform_115 : decode cX7_perform 115 = .ok (.aload_n 0, 1) := by decide +kernel
theorem dX7_perform_116 : decode cX7_perform 116 = .ok (.aload_n 0, 1) := by decide +kernel
theorem dX7_perform_117 : decode cX7_perform 117 = .ok (.getfield 16, 3) := by decide +kernel
theorem dX7_perform_120 : decode cX7_perform 120 = .ok (.invokevirtual 93, 3) := by decide +kernel
theorem dX7_perform_123 : decode cX7_perform 123 = .ok (.aload_n 0, 1) := by decide +kernel
theorem dX7_perform_124 : decode cX7_perform 124 = .ok (.getfield 201, 3) := by decide +kernel
theorem dX7_perform_127 : decode cX7_perform 127 = .ok (.ireturn, 1) := by decide +kernel
theorem dX7_undo_0 : decode cX7_undo 0 = .ok (.aload_n 0, 1) := by decide +kernel
theorem dX7_undo_1 : decode cX7_undo 1 = .ok (.iconst 0, 1) := by decide +kernel
theorem dX7_undo_2 : decode cX7_undo 2 = .ok (.putfield 62, 3) := by decide +kernel
theorem dX7_undo_5 : decode cX7_undo 5 = .ok (.aload_n 0, 1) := by decide +kernel
theorem dX7_undo_6 : decode cX7_undo 6 = .ok (.getfield 76, 3) := by decide +kernel
theorem dX7_undo_9 : decode cX7_undo 9 = .ok (.ifCond .ne 9, 3) := by decide +kernel
theorem dX7_undo_12 : decode cX7_undo 12 = .ok (.aload_n 0, 1) := by decide +kernel
theorem dX7_undo_13 : decode cX7_undo 13 = .ok (.iconst 1, 1) := by decide +kernel
theorem dX7_undo_14 : decode cX7_undo 14 = .ok (.invokevirtual 122, 3) := by decide +kernel
theorem dX7_undo_17 : decode cX7_undo 17 = .ok (.ireturn, 1) := by decide +kernel
theorem dX7_undo_18 : decode cX7_undo 18 = .ok (.aload_n 0, 1) := by decide +kernel
theorem dX7_undo_19 : decode cX7_undo 19 = .ok (.dup, 1) := by decide +kernel
theorem dX7_undo_20 : decode cX7_undo 20 = .ok (.getfield 76, 3) := by decide +kernel
theorem dX7_undo_23 : decode cX7_undo 23 = .ok (.iconst 1, 1) := by decide +kernel
theorem dX7_undo_24 : decode cX7_undo 24 = .ok (.isub, 1) := by decide +kernel
theorem dX7_undo_25 : decode cX7_undo 25 = .ok (.putfield 76, 3) := by decide +kernel
theorem dX7_undo_28 : decode cX7_undo 28 = .ok (.iconst 0, 1) := by decide +kernel
theorem dX7_undo_29 : decode cX7_undo 29 = .ok (.istore_n 1, 1) := by decide +kernel
theorem dX7_undo_30 : decode cX7_undo 30 = .ok (.iload_n 1, 1) := by decide +kernel
theorem dX7_undo_31 : decode cX7_undo 31 = .ok (.sipush 340, 3) := by decide +kernel
theorem dX7_undo_34 : decode cX7_undo 34 = .ok (.if_icmp .ge 30, 3) := by decide +kernel
theorem dX7_undo_37 : decode cX7_undo 37 = .ok (.aload_n 0, 1) := by decide +kernel
theorem dX7_undo_38 : decode cX7_undo 38 = .ok (.getfield 9, 3) := by decide +kernel
theorem dX7_undo_41 : decode cX7_undo 41 = .ok (.iload_n 1, 1) := by decide +kernel
theorem dX7_undo_42 : decode cX7_undo 42 = .ok (.aload_n 0, 1) := by decide +kernel
theorem dX7_undo_43 : decode cX7_undo 43 = .ok (.getfield 19, 3) := by decide +kernel
theorem dX7_undo_46 : decode cX7_undo 46 = .ok (.sipush 340, 3) := by decide +kernel
theorem dX7_undo_49 : decode cX7_undo 49 = .ok (.aload_n 0, 1) := by decide +kernel
theorem dX7_undo_50 : decode cX7_undo 50 = .ok (.getfield 76, 3) := by decide +kernel
theorem dX7_undo_53 : decode cX7_undo 53 = .ok (.imul, 1) := by decide +kernel
theorem dX7_undo_54 : decode cX7_undo 54 = .ok (.iload_n 1, 1) := by decide +kernel
theorem dX7_undo_55 : decode cX7_undo 55 = .ok (.iadd, 1) := by decide +kernel
theorem dX7_undo_56 : decode cX7_undo 56 = .ok (.iaload, 1) := by decide +kernel
theorem dX7_undo_57 : decode cX7_undo 57 = .ok (.iastore, 1) := by decide +kernel
theorem dX7_undo_58 : decode cX7_undo 58 = .ok (.iinc 1 1, 3) := by decide +kernel
theorem dX7_undo_61 : decode cX7_undo 61 = .ok (.goto (-31), 3) := by decide +kernel
theorem dX7_undo_64 : decode cX7_undo 64 = .ok (.aload_n 0, 1) := by decide +kernel
theorem dX7_undo_65 : decode cX7_undo 65 = .ok (.getfield 76, 3) := by decide +kernel
theorem dX7_undo_68 : decode cX7_undo 68 = .ok (.ireturn, 1) := by decide +kernel
theorem dX7_there_0 : decode cX7_there 0 = .ok (.iconst 0, 1) := by decide +kernel
theorem dX7_there_1 : decode cX7_there 1 = .ok (.istore_n 1, 1) := by decide +kernel
theorem dX7_there_2 : decode cX7_there 2 = .ok (.iconst 0, 1) := by decide +kernel
theorem dX7_there_3 : decode cX7_there 3 = .ok (.istore_n 2, 1) := by decide +kernel
theorem dX7_there_4 : decode cX7_there 4 = .ok (.iload_n 2, 1) := by decide +kernel
theorem dX7_there_5 : decode cX7_there 5 = .ok (.bipush 8, 2) := by decide +kernel
theorem dX7_there_7 : decode cX7_there 7 = .ok (.if_icmp .ge 26, 3) := by decide +kernel
theorem dX7_there_10 : decode cX7_there 10 = .ok (.iload_n 1, 1) := by decide +kernel
theorem dX7_there_11 : decode cX7_there 11 = .ok (.aload_n 0, 1) := by decide +kernel
theorem dX7_there_12 : decode cX7_there 12 = .ok (.iload_n 2, 1) := by decide +kernel
theorem dX7_there_13 : decode cX7_there 13 = .ok (.iconst 0, 1) := by decide +kernel
theorem dX7_there_14 : decode cX7_there 14 = .ok (.invokevirtual 79, 3) := by decide +kernel
theorem dX7_there_17 : decode cX7_there 17 = .ok (.ifCond .eq 7, 3) := by decide +kernel
theorem dX7_there_20 : decode cX7_there 20 = .ok (.iconst 0, 1) := by decide +kernel
theorem dX7_there_21 : decode cX7_there 21 = .ok (.goto 4, 3) := by decide +kernel
theorem dX7_there_24 : decode cX7_there 24 = .ok (.iconst 1, 1) := by decide +kernel
theorem dX7_there_25 : decode cX7_there 25 = .ok (.iadd, 1) := by decide +kernel
theorem dX7_there_26 : decode cX7_there 26 = .ok (.istore_n 1, 1) := by decide +kernel
theorem dX7_there_27 : decode cX7_there 27 = .ok (.iinc 2 1, 3) := by decide +kernel
theorem dX7_there_30 : decode cX7_there 30 = .ok (.goto (-26), 3) := by decide +kernel
theorem dX7_there_33 : decode cX7_there 33 = .ok (.iload_n 1, 1) := by decide +kernel
theorem dX7_there_34 : decode cX7_there 34 = .ok (.ireturn, 1) := by decide +kernel
theorem dX7_save_0 : decode cX7_save 0 = .ok (.aload_n 0, 1) := by decide +kernel
theorem dX7_save_1 : decode cX7_save 1 = .ok (.iconst 0, 1) := by decide +kernel
theorem dX7_save_2 : decode cX7_save 2 = .ok (.putfield 62, 3) := by decide +kernel
theorem dX7_save_5 : decode cX7_save 5 = .ok (.iconst 0, 1) := by decide +kernel
theorem dX7_save_6 : decode cX7_save 6 = .ok (.istore_n 1, 1) := by decide +kernel
theorem dX7_save_7 : decode cX7_save 7 = .ok (.iload_n 1, 1) := by decide +kernel
theorem dX7_save_8 : decode cX7_save 8 = .ok (.sipush 340, 3) := by decide +kernel
theorem dX7_save_11 : decode cX7_save 11 = .ok (.if_icmp .ge 21, 3) := by decide +kernel
theorem dX7_save_14 : decode cX7_save 14 = .ok (.aload_n 0, 1) := by decide +kernel
theorem dX7_save_15 : decode cX7_save 15 = .ok (.getfield 13, 3) := by decide +kernel
theorem dX7_save_18 : decode cX7_save 18 = .ok (.iload_n 1, 1) := by decide +kernel
theorem dX7_save_19 : decode cX7_save 19 = .ok (.aload_n 0, 1) := by decide +kernel
theorem dX7_save_20 : decode cX7_save 20 = .ok (.getfield 9, 3) := by decide +kernel
theorem dX7_save_23 : decode cX7_save 23 = .ok (.iload_n 1, 1) := by decide +kernel
theorem dX7_save_24 : decode cX7_save 24 = .ok (.iaload, 1) := by decide +kernel
theorem dX7_save_25 : decode cX7_save 25 = .ok (.iastore, 1) := by decide +kernel
theorem dX7_save_26 : decode cX7_save 26 = .ok (.iinc 1 1, 3) := by decide +kernel
theorem dX7_save_29 : decode cX7_save 29 = .ok (.goto (-22), 3) := by decide +kernel
theorem dX7_save_32 : decode cX7_save 32 = .ok (.aload_n 0, 1) := by decide +kernel
theorem dX7_save_33 : decode cX7_save 33 = .ok (.iconst 1, 1) := by decide +kernel
theorem dX7_save_34 : decode cX7_save 34 = .ok (.putfield 216, 3) := by decide +kernel
theorem dX7_save_37 : decode cX7_save 37 = .ok (.aload_n 0, 1) := by decide +kernel
theorem dX7_save_38 : decode cX7_save 38 = .ok (.invokevirtual 219, 3) := by decide +kernel
theorem dX7_save_41 : decode cX7_save 41 = .ok (.ireturn, 1) := by decide +kernel
theorem dX7_restore_0 : decode cX7_restore 0 = .ok (.aload_n 0, 1) := by decide +kernel
theorem dX7_restore_1 : decode cX7_restore 1 = .ok (.iconst 0, 1) := by decide +kernel
theorem dX7_restore_2 : decode cX7_restore 2 = .ok (.putfield 62, 3) := by decide +kernel
theorem dX7_restore_5 : decode cX7_restore 5 = .ok (.aload_n 0, 1) := by decide +kernel
theorem dX7_restore_6 : decode cX7_restore 6 = .ok (.getfield 216, 3) := by decide +kernel
theorem dX7_restore_9 : decode cX7_restore 9 = .ok (.ifCond .ne 9, 3) := by decide +kernel
theorem dX7_restore_12 : decode cX7_restore 12 = .ok (.aload_n 0, 1) := by decide +kernel
theorem dX7_restore_13 : decode cX7_restore 13 = .ok (.iconst 1, 1) := by decide +kernel
theorem dX7_restore_14 : decode cX7_restore 14 = .ok (.invokevirtual 122, 3) := by decide +kernel
theorem dX7_restore_17 : decode cX7_restore 17 = .ok (.ireturn, 1) := by decide +kernel
theorem dX7_restore_18 : decode cX7_restore 18 = .ok (.iconst 0, 1) := by decide +kernel
theorem dX7_restore_19 : decode cX7_restore 19 = .ok (.istore_n 1, 1) := by decide +kernel
theorem dX7_restore_20 : decode cX7_restore 20 = .ok (.iload_n 1, 1) := by decide +kernel
theorem dX7_restore_21 : decode cX7_restore 21 = .ok (.sipush 340, 3) := by decide +kernel
theorem dX7_restore_24 : decode cX7_restore 24 = .ok (.if_icmp .ge 21, 3) := by decide +kernel
theorem dX7_restore_27 : decode cX7_restore 27 = .ok (.aload_n 0, 1) := by decide +kernel
theorem dX7_restore_28 : decode cX7_restore 28 = .ok (.getfield 9, 3) := by decide +kernel
theorem dX7_restore_31 : decode cX7_restore 31 = .ok (.iload_n 1, 1) := by decide +kernel
theorem dX7_restore_32 : decode cX7_restore 32 = .ok (.aload_n 0, 1) := by decide +kernel
theorem dX7_restore_33 : decode cX7_restore 33 = .ok (.getfield 13, 3) := by decide +kernel
theorem dX7_restore_36 : decode cX7_restore 36 = .ok (.iload_n 1, 1) := by decide +kernel
theorem dX7_restore_37 : decode cX7_restore 37 = .ok (.iaload, 1) := by decide +kernel
theorem dX7_restore_38 : decode cX7_restore 38 = .ok (.iastore, 1) := by decide +kernel
theorem dX7_restore_39 : decode cX7_restore 39 = .ok (.iinc 1 1, 3) := by decide +kernel
theorem dX7_restore_42 : decode cX7_restore 42 = .ok (.goto (-22), 3) := by decide +kernel
theorem dX7_restore_45 : decode cX7_restore 45 = .ok (.aload_n 0, 1) := by decide +kernel
theorem dX7_restore_46 : decode cX7_restore 46 = .ok (.iconst 0, 1) := by decide +kernel
theorem dX7_restore_47 : decode cX7_restore 47 = .ok (.putfield 76, 3) := by decide +kernel
theorem dX7_restore_50 : decode cX7_restore 50 = .ok (.aload_n 0, 1) := by decide +kernel
theorem dX7_restore_51 : decode cX7_restore 51 = .ok (.invokevirtual 219, 3) := by decide +kernel
theorem dX7_restore_54 : decode cX7_restore 54 = .ok (.ireturn, 1) := by decide +kernel
theorem dX6_greatestFill_0 : decode cX6_greatestFill 0 = .ok (.aload_n 0, 1) := by decide +kernel
theorem dX6_greatestFill_1 : decode cX6_greatestFill 1 = .ok (.invokevirtual 128, 3) := by decide +kernel
theorem dX6_greatestFill_4 : decode cX6_greatestFill 4 = .ok (.astore_n 1, 1) := by decide +kernel
theorem dX6_greatestFill_5 : decode cX6_greatestFill 5 = .ok (.aload_n 1, 1) := by decide +kernel
theorem dX6_greatestFill_6 : decode cX6_greatestFill 6 = .ok (.getfield 167, 3) := by decide +kernel
theorem dX6_greatestFill_9 : decode cX6_greatestFill 9 = .ok (.ifCond .ne 13, 3) := by decide +kernel
theorem dX6_greatestFill_12 : decode cX6_greatestFill 12 = .ok (.new 255, 3) := by decide +kernel
theorem dX6_greatestFill_15 : decode cX6_greatestFill 15 = .ok (.dup, 1) := by decide +kernel
theorem dX6_greatestFill_16 : decode cX6_greatestFill 16 = .ok (.ldc 248, 2) := by decide +kernel
theorem dX6_greatestFill_18 : decode cX6_greatestFill 18 = .ok (.invokespecial 257, 3) := by decide +kernel
theorem dX6_greatestFill_21 : decode cX6_greatestFill 21 = .ok (.athrow, 1) := by decide +kernel
theorem dX6_greatestFill_22 : decode cX6_greatestFill 22 = .ok (.dconst 0, 1) := by decide +kernel
theorem dX6_greatestFill_23 : decode cX6_greatestFill 23 = .ok (.dstore_n 2, 1) := by decide +kernel
theorem dX6_greatestFill_24 : decode cX6_greatestFill 24 = .ok (.iconst 0, 1) := by decide +kernel
theorem dX6_greatestFill_25 : decode cX6_greatestFill 25 = .ok (.istore 4, 2) := by decide +kernel
theorem dX6_greatestFill_27 : decode cX6_greatestFill 27 = .ok (.iload 4, 2) := by decide +kernel
theorem dX6_greatestFill_29 : decode cX6_greatestFill 29 = .ok (.bipush 8, 2) := by decide +kernel
theorem dX6_greatestFill_31 : decode cX6_greatestFill 31 = .ok (.if_icmp .ge 52, 3) := by decide +kernel
theorem dX6_greatestFill_34 : decode cX6_greatestFill 34 = .ok (.aload_n 1, 1) := by decide +kernel
theorem dX6_greatestFill_35 : decode cX6_greatestFill 35 = .ok (.iload 4, 2) := by decide +kernel
theorem dX6_greatestFill_37 : decode cX6_greatestFill 37 = .ok (.invokevirtual 132, 3) := by decide +kernel
theorem dX6_greatestFill_40 : decode cX6_greatestFill 40 = .ok (.istore 5, 2) := by decide +kernel
theorem dX6_greatestFill_42 : decode cX6_greatestFill 42 = .ok (.iload 5, 2) := by decide +kernel
theorem dX6_greatestFill_44 : decode cX6_greatestFill 44 = .ok (.ifCond .le 33, 3) := by decide +kernel
theorem dX6_greatestFill_47 : decode cX6_greatestFill 47 = .ok (.aload_n 0, 1) := by decide +kernel
theorem dX6_greatestFill_48 : decode cX6_greatestFill 48 = .ok (.getfield 12, 3) := by decide +kernel
theorem dX6_greatestFill_51 : decode cX6_greatestFill 51 = .ok (.iload 4, 2) := by decide +kernel
theorem dX6_greatestFill_53 : decode cX6_greatestFill 53 = .ok (.invokevirtual 102, 3) := by decide +kernel
theorem dX6_greatestFill_56 : decode cX6_greatestFill 56 = .ok (.i2d, 1) := by decide +kernel
theorem dX6_greatestFill_57 : decode cX6_greatestFill 57 = .ok (.iload 5, 2) := by decide +kernel
theorem dX6_greatestFill_59 : decode cX6_greatestFill 59 = .ok (.i2d, 1) := by decide +kernel
theorem dX6_greatestFill_60 : decode cX6_greatestFill 60 = .ok (.ddiv, 1) := by decide +kernel
theorem dX6_greatestFill_61 : decode cX6_greatestFill 61 = .ok (.dstore 6, 2) := by decide +kernel
theorem dX6_greatestFill_63 : decode cX6_greatestFill 63 = .ok (.dload 6, 2) := by decide +kernel
theorem dX6_greatestFill_65 : decode cX6_greatestFill 65 = .ok (.dload_n 2, 1) := by decide +kernel
theorem dX6_greatestFill_66 : decode cX6_greatestFill 66 = .ok (.dcmp .l, 1) := by decide +kernel
theorem dX6_greatestFill_67 : decode cX6_greatestFill 67 = .ok (.ifCond .le 8, 3) := by decide +kernel
theorem dX6_greatestFill_70 : decode cX6_greatestFill 70 = .ok (.dload 6, 2) := by decide +kernel
theorem dX6_greatestFill_72 : decode cX6_greatestFill 72 = .ok (.goto 4, 3) := by decide +kernel
theorem dX6_greatestFill_75 : decode cX6_greatestFill 75 = .ok (.dload_n 2, 1) := by decide +kernel
theorem dX6_greatestFill_76 : decode cX6_greatestFill 76 = .ok (.dstore_n 2, 1) := by decide +kernel
theorem dX6_greatestFill_77 : decode cX6_greatestFill 77 = .ok (.iinc 4 1, 3) := by decide +kernel
theorem dX6_greatestFill_80 : decode cX6_greatestFill 80 = .ok (.goto (-53), 3) := by decide +kernel
theorem dX6_greatestFill_83 : decode cX6_greatestFill 83 = .ok (.dload_n 2, 1) := by decide +kernel
theorem dX6_greatestFill_84 : decode cX6_greatestFill 84 = .ok (.dreturn, 1) := by decide +kernel
theorem dX7_greatestFill_0 : decode cX7_greatestFill 0 = .ok (.aload_n 0, 1) := by decide +kernel
theorem dX7_greatestFill_1 : decode cX7_greatestFill 1 = .ok (.invokevirtual 138, 3) := by decide +kernel
theorem dX7_greatestFill_4 : decode cX7_greatestFill 4 = .ok (.aload_n 0, 1) := by decide +kernel
theorem dX7_greatestFill_5 : decode cX7_greatestFill 5 = .ok (.aload_n 0, 1) := by decide +kernel
theorem dX7_greatestFill_6 : decode cX7_greatestFill 6 = .ok (.getfield 125, 3) := by decide +kernel
theorem dX7_greatestFill_9 : decode cX7_greatestFill 9 = .ok (.ifCond .ne 7, 3) := by decide +kernel
theorem dX7_greatestFill_12 : decode cX7_greatestFill 12 = .ok (.iconst 1, 1) := by decide +kernel
theorem dX7_greatestFill_13 : decode cX7_greatestFill 13 = .ok (.goto 4, 3) := by decide +kernel
theorem dX7_greatestFill_16 : decode cX7_greatestFill 16 = .ok (.iconst 0, 1) := by decide +kernel
theorem dX7_greatestFill_17 : decode cX7_greatestFill 17 = .ok (.putfield 62, 3) := by decide +kernel
theorem dX7_greatestFill_20 : decode cX7_greatestFill 20 = .ok (.dconst 0, 1) := by decide +kernel
theorem dX7_greatestFill_21 : decode cX7_greatestFill 21 = .ok (.dstore_n 1, 1) := by decide +kernel
theorem dX7_greatestFill_22 : decode cX7_greatestFill 22 = .ok (.iconst 0, 1) := by decide +kernel
theorem dX7_greatestFill_23 : decode cX7_greatestFill 23 = .ok (.istore_n 3, 1) := by decide +kernel
theorem dX7_greatestFill_24 : decode cX7_greatestFill 24 = .ok (.iload_n 3, 1) := by decide +kernel
theorem dX7_greatestFill_25 : decode cX7_greatestFill 25 = .ok (.bipush 8, 2) := by decide +kernel
theorem dX7_greatestFill_27 : decode cX7_greatestFill 27 = .ok (.if_icmp .ge 59, 3) := by decide +kernel
theorem dX7_greatestFill_30 : decode cX7_greatestFill 30 = .ok (.aload_n 0, 1) := by decide +kernel
theorem dX7_greatestFill_31 : decode cX7_greatestFill 31 = .ok (.getfield 62, 3) := by decide +kernel
theorem dX7_greatestFill_34 : decode cX7_greatestFill 34 = .ok (.ifCond .ne 52, 3) := by decide +kernel
theorem dX7_greatestFill_37 : decode cX7_greatestFill 37 = .ok (.aload_n 0, 1) := by decide +kernel
theorem dX7_greatestFill_38 : decode cX7_greatestFill 38 = .ok (.iload_n 3, 1) := by decide +kernel
theorem dX7_greatestFill_39 : decode cX7_greatestFill 39 = .ok (.iconst 1, 1) := by decide +kernel
theorem dX7_greatestFill_40 : decode cX7_greatestFill 40 = .ok (.invokevirtual 79, 3) := by decide +kernel
theorem dX7_greatestFill_43 : decode cX7_greatestFill 43 = .ok (.ifCond .eq 20, 3) := by decide +kernel
theorem dX7_greatestFill_46 : decode cX7_greatestFill 46 = .ok (.aload_n 0, 1) := by decide +kernel
theorem dX7_greatestFill_47 : decode cX7_greatestFill 47 = .ok (.iload_n 3, 1) := by decide +kernel
theorem dX7_greatestFill_48 : decode cX7_greatestFill 48 = .ok (.invokevirtual 109, 3) := by decide +kernel
theorem dX7_greatestFill_51 : decode cX7_greatestFill 51 = .ok (.i2d, 1) := by decide +kernel
theorem dX7_greatestFill_52 : decode cX7_greatestFill 52 = .ok (.aload_n 0, 1) := by decide +kernel
theorem dX7_greatestFill_53 : decode cX7_greatestFill 53 = .ok (.getfield 37, 3) := by decide +kernel
theorem dX7_greatestFill_56 : decode cX7_greatestFill 56 = .ok (.iload_n 3, 1) := by decide +kernel
theorem dX7_greatestFill_57 : decode cX7_greatestFill 57 = .ok (.iaload, 1) := by decide +kernel
theorem dX7_greatestFill_58 : decode cX7_greatestFill 58 = .ok (.i2d, 1) := by decide +kernel
theorem dX7_greatestFill_59 : decode cX7_greatestFill 59 = .ok (.ddiv, 1) := by decide +kernel
theorem dX7_greatestFill_60 : decode cX7_greatestFill 60 = .ok (.goto 4, 3) := by decide +kernel
theorem dX7_greatestFill_63 : decode cX7_greatestFill 63 = .ok (.dconst 0, 1) := by decide +kernel
theorem dX7_greatestFill_64 : decode cX7_greatestFill 64 = .ok (.dstore 4, 2) := by decide +kernel
theorem dX7_greatestFill_66 : decode cX7_greatestFill 66 = .ok (.dload 4, 2) := by decide +kernel
theorem dX7_greatestFill_68 : decode cX7_greatestFill 68 = .ok (.dload_n 1, 1) := by decide +kernel
theorem dX7_greatestFill_69 : decode cX7_greatestFill 69 = .ok (.dcmp .l, 1) := by decide +kernel
theorem dX7_greatestFill_70 : decode cX7_greatestFill 70 = .ok (.ifCond .le 8, 3) := by decide +kernel
theorem dX7_greatestFill_73 : decode cX7_greatestFill 73 = .ok (.dload 4, 2) := by decide +kernel
theorem dX7_greatestFill_75 : decode cX7_greatestFill 75 = .ok (.goto 4, 3) := by decide +kernel
theorem dX7_greatestFill_78 : decode cX7_greatestFill 78 = .ok (.dload_n 1, 1) := by decide +kernel
theorem dX7_greatestFill_79 : decode cX7_greatestFill 79 = .ok (.dstore_n 1, 1) := by decide +kernel
theorem dX7_greatestFill_80 : decode cX7_greatestFill 80 = .ok (.iinc 3 1, 3) := by decide +kernel
theorem dX7_greatestFill_83 : decode cX7_greatestFill 83 = .ok (.goto (-59), 3) := by decide +kernel
theorem dX7_greatestFill_86 : decode cX7_greatestFill 86 = .ok (.dload_n 1, 1) := by decide +kernel
theorem dX7_greatestFill_87 : decode cX7_greatestFill 87 = .ok (.dreturn, 1) := by decide +kernel
