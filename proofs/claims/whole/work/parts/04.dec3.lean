theorem dX7_layTargets_135 : decode cX7_layTargets 135 = .ok (.iastore, 1) := by decide +kernel
theorem dX7_layTargets_136 : decode cX7_layTargets 136 = .ok (.aload_n 0, 1) := by decide +kernel
theorem dX7_layTargets_137 : decode cX7_layTargets 137 = .ok (.aload_n 0, 1) := by decide +kernel
theorem dX7_layTargets_138 : decode cX7_layTargets 138 = .ok (.getfield 25, 3) := by decide +kernel
theorem dX7_layTargets_141 : decode cX7_layTargets 141 = .ok (.iload_n 2, 1) := by decide +kernel
theorem dX7_layTargets_142 : decode cX7_layTargets 142 = .ok (.iaload, 1) := by decide +kernel
theorem dX7_layTargets_143 : decode cX7_layTargets 143 = .ok (.invokevirtual 135, 3) := by decide +kernel
theorem dX7_layTargets_146 : decode cX7_layTargets 146 = .ok (.istore_n 3, 1) := by decide +kernel
theorem dX7_layTargets_147 : decode cX7_layTargets 147 = .ok (.iconst 0, 1) := by decide +kernel
theorem dX7_layTargets_148 : decode cX7_layTargets 148 = .ok (.istore 4, 2) := by decide +kernel
theorem dX7_layTargets_150 : decode cX7_layTargets 150 = .ok (.iload 4, 2) := by decide +kernel
theorem dX7_layTargets_152 : decode cX7_layTargets 152 = .ok (.aload_n 0, 1) := by decide +kernel
theorem dX7_layTargets_153 : decode cX7_layTargets 153 = .ok (.getfield 125, 3) := by decide +kernel
theorem dX7_layTargets_156 : decode cX7_layTargets 156 = .ok (.if_icmp .ge 86, 3) := by decide +kernel
theorem dX7_layTargets_159 : decode cX7_layTargets 159 = .ok (.aload_n 0, 1) := by decide +kernel
theorem dX7_layTargets_160 : decode cX7_layTargets 160 = .ok (.getfield 40, 3) := by decide +kernel
theorem dX7_layTargets_163 : decode cX7_layTargets 163 = .ok (.iload_n 2, 1) := by decide +kernel
theorem dX7_layTargets_164 : decode cX7_layTargets 164 = .ok (.iaload, 1) := by decide +kernel
theorem dX7_layTargets_165 : decode cX7_layTargets 165 = .ok (.ifCond .ge 77, 3) := by decide +kernel
theorem dX7_layTargets_168 : decode cX7_layTargets 168 = .ok (.aload_n 0, 1) := by decide +kernel
theorem dX7_layTargets_169 : decode cX7_layTargets 169 = .ok (.getfield 31, 3) := by decide +kernel
theorem dX7_layTargets_172 : decode cX7_layTargets 172 = .ok (.iload_n 3, 1) := by decide +kernel
theorem dX7_layTargets_173 : decode cX7_layTargets 173 = .ok (.iload 4, 2) := by decide +kernel
theorem dX7_layTargets_175 : decode cX7_layTargets 175 = .ok (.iadd, 1) := by decide +kernel
theorem dX7_layTargets_176 : decode cX7_layTargets 176 = .ok (.aload_n 0, 1) := by decide +kernel
theorem dX7_layTargets_177 : decode cX7_layTargets 177 = .ok (.getfield 125, 3) := by decide +kernel
theorem dX7_layTargets_180 : decode cX7_layTargets 180 = .ok (.irem, 1) := by decide +kernel
theorem dX7_layTargets_181 : decode cX7_layTargets 181 = .ok (.iaload, 1) := by decide +kernel
theorem dX7_layTargets_182 : decode cX7_layTargets 182 = .ok (.istore 5, 2) := by decide +kernel
theorem dX7_layTargets_184 : decode cX7_layTargets 184 = .ok (.aload_n 0, 1) := by decide +kernel
theorem dX7_layTargets_185 : decode cX7_layTargets 185 = .ok (.getfield 46, 3) := by decide +kernel
theorem dX7_layTargets_188 : decode cX7_layTargets 188 = .ok (.iload 5, 2) := by decide +kernel
theorem dX7_layTargets_190 : decode cX7_layTargets 190 = .ok (.iaload, 1) := by decide +kernel
theorem dX7_layTargets_191 : decode cX7_layTargets 191 = .ok (.aload_n 0, 1) := by decide +kernel
theorem dX7_layTargets_192 : decode cX7_layTargets 192 = .ok (.getfield 37, 3) := by decide +kernel
theorem dX7_layTargets_195 : decode cX7_layTargets 195 = .ok (.iload 5, 2) := by decide +kernel
theorem dX7_layTargets_197 : decode cX7_layTargets 197 = .ok (.iaload, 1) := by decide +kernel
theorem dX7_layTargets_198 : decode cX7_layTargets 198 = .ok (.if_icmp .ge 25, 3) := by decide +kernel
theorem dX7_layTargets_201 : decode cX7_layTargets 201 = .ok (.aload_n 0, 1) := by decide +kernel
theorem dX7_layTargets_202 : decode cX7_layTargets 202 = .ok (.getfield 40, 3) := by decide +kernel
theorem dX7_layTargets_205 : decode cX7_layTargets 205 = .ok (.iload_n 2, 1) := by decide +kernel
theorem dX7_layTargets_206 : decode cX7_layTargets 206 = .ok (.iload 5, 2) := by decide +kernel
theorem dX7_layTargets_208 : decode cX7_layTargets 208 = .ok (.iastore, 1) := by decide +kernel
theorem dX7_layTargets_209 : decode cX7_layTargets 209 = .ok (.aload_n 0, 1) := by decide +kernel
theorem dX7_layTargets_210 : decode cX7_layTargets 210 = .ok (.getfield 46, 3) := by decide +kernel
theorem dX7_layTargets_213 : decode cX7_layTargets 213 = .ok (.iload 5, 2) := by decide +kernel
theorem dX7_layTargets_215 : decode cX7_layTargets 215 = .ok (.dup2, 1) := by decide +kernel
theorem dX7_layTargets_216 : decode cX7_layTargets 216 = .ok (.iaload, 1) := by decide +kernel
theorem dX7_layTargets_217 : decode cX7_layTargets 217 = .ok (.iconst 1, 1) := by decide +kernel
theorem dX7_layTargets_218 : decode cX7_layTargets 218 = .ok (.iadd, 1) := by decide +kernel
theorem dX7_layTargets_219 : decode cX7_layTargets 219 = .ok (.iastore, 1) := by decide +kernel
theorem dX7_layTargets_220 : decode cX7_layTargets 220 = .ok (.goto 16, 3) := by decide +kernel
theorem dX7_layTargets_223 : decode cX7_layTargets 223 = .ok (.aload_n 0, 1) := by decide +kernel
theorem dX7_layTargets_224 : decode cX7_layTargets 224 = .ok (.getfield 43, 3) := by decide +kernel
theorem dX7_layTargets_227 : decode cX7_layTargets 227 = .ok (.iload_n 2, 1) := by decide +kernel
theorem dX7_layTargets_228 : decode cX7_layTargets 228 = .ok (.dup2, 1) := by decide +kernel
theorem dX7_layTargets_229 : decode cX7_layTargets 229 = .ok (.iaload, 1) := by decide +kernel
theorem dX7_layTargets_230 : decode cX7_layTargets 230 = .ok (.iconst 1, 1) := by decide +kernel
theorem dX7_layTargets_231 : decode cX7_layTargets 231 = .ok (.iload 5, 2) := by decide +kernel
theorem dX7_layTargets_233 : decode cX7_layTargets 233 = .ok (.ishl, 1) := by decide +kernel
theorem dX7_layTargets_234 : decode cX7_layTargets 234 = .ok (.ior, 1) := by decide +kernel
theorem dX7_layTargets_235 : decode cX7_layTargets 235 = .ok (.iastore, 1) := by decide +kernel
theorem dX7_layTargets_236 : decode cX7_layTargets 236 = .ok (.iinc 4 1, 3) := by decide +kernel
theorem dX7_layTargets_239 : decode cX7_layTargets 239 = .ok (.goto (-89), 3) := by decide +kernel
theorem dX7_layTargets_242 : decode cX7_layTargets 242 = .ok (.iinc 2 1, 3) := by decide +kernel
theorem dX7_layTargets_245 : decode cX7_layTargets 245 = .ok (.goto (-129), 3) := by decide +kernel
theorem dX7_layTargets_248 : decode cX7_layTargets 248 = .ok (.return_, 1) := by decide +kernel
theorem dX7_isServed_0 : decode cX7_isServed 0 = .ok (.aload_n 0, 1) := by decide +kernel
theorem dX7_isServed_1 : decode cX7_isServed 1 = .ok (.getfield 9, 3) := by decide +kernel
theorem dX7_isServed_4 : decode cX7_isServed 4 = .ok (.bipush 28, 2) := by decide +kernel
theorem dX7_isServed_6 : decode cX7_isServed 6 = .ok (.iload_n 1, 1) := by decide +kernel
theorem dX7_isServed_7 : decode cX7_isServed 7 = .ok (.iadd, 1) := by decide +kernel
theorem dX7_isServed_8 : decode cX7_isServed 8 = .ok (.iaload, 1) := by decide +kernel
theorem dX7_isServed_9 : decode cX7_isServed 9 = .ok (.istore_n 2, 1) := by decide +kernel
theorem dX7_isServed_10 : decode cX7_isServed 10 = .ok (.iload_n 2, 1) := by decide +kernel
theorem dX7_isServed_11 : decode cX7_isServed 11 = .ok (.ifCond .lt 25, 3) := by decide +kernel
theorem dX7_isServed_14 : decode cX7_isServed 14 = .ok (.aload_n 0, 1) := by decide +kernel
theorem dX7_isServed_15 : decode cX7_isServed 15 = .ok (.iload_n 2, 1) := by decide +kernel
theorem dX7_isServed_16 : decode cX7_isServed 16 = .ok (.iconst 1, 1) := by decide +kernel
theorem dX7_isServed_17 : decode cX7_isServed 17 = .ok (.invokevirtual 79, 3) := by decide +kernel
theorem dX7_isServed_20 : decode cX7_isServed 20 = .ok (.ifCond .ne 12, 3) := by decide +kernel
theorem dX7_isServed_23 : decode cX7_isServed 23 = .ok (.aload_n 0, 1) := by decide +kernel
theorem dX7_isServed_24 : decode cX7_isServed 24 = .ok (.iload_n 2, 1) := by decide +kernel
theorem dX7_isServed_25 : decode cX7_isServed 25 = .ok (.iconst 2, 1) := by decide +kernel
theorem dX7_isServed_26 : decode cX7_isServed 26 = .ok (.invokevirtual 79, 3) := by decide +kernel
theorem dX7_isServed_29 : decode cX7_isServed 29 = .ok (.ifCond .eq 7, 3) := by decide +kernel
theorem dX7_isServed_32 : decode cX7_isServed 32 = .ok (.iconst 1, 1) := by decide +kernel
theorem dX7_isServed_33 : decode cX7_isServed 33 = .ok (.goto 4, 3) := by decide +kernel
theorem dX7_isServed_36 : decode cX7_isServed 36 = .ok (.iconst 0, 1) := by decide +kernel
theorem dX7_isServed_37 : decode cX7_isServed 37 = .ok (.ireturn, 1) := by decide +kernel
theorem dX7_tells_0 : decode cX7_tells 0 = .ok (.aload_n 0, 1) := by decide +kernel
theorem dX7_tells_1 : decode cX7_tells 1 = .ok (.getfield 9, 3) := by decide +kernel
theorem dX7_tells_4 : decode cX7_tells 4 = .ok (.bipush 11, 2) := by decide +kernel
theorem dX7_tells_6 : decode cX7_tells 6 = .ok (.iaload, 1) := by decide +kernel
theorem dX7_tells_7 : decode cX7_tells 7 = .ok (.bipush 30, 2) := by decide +kernel
theorem dX7_tells_9 : decode cX7_tells 9 = .ok (.if_icmp .ne 49, 3) := by decide +kernel
theorem dX7_tells_12 : decode cX7_tells 12 = .ok (.sipush 220, 3) := by decide +kernel
theorem dX7_tells_15 : decode cX7_tells 15 = .ok (.istore 4, 2) := by decide +kernel
theorem dX7_tells_17 : decode cX7_tells 17 = .ok (.iload 4, 2) := by decide +kernel
theorem dX7_tells_19 : decode cX7_tells 19 = .ok (.sipush 336, 3) := by decide +kernel
theorem dX7_tells_22 : decode cX7_tells 22 = .ok (.if_icmp .ge 25, 3) := by decide +kernel
theorem dX7_tells_25 : decode cX7_tells 25 = .ok (.aload_n 0, 1) := by decide +kernel
theorem dX7_tells_26 : decode cX7_tells 26 = .ok (.getfield 9, 3) := by decide +kernel
theorem dX7_tells_29 : decode cX7_tells 29 = .ok (.iload 4, 2) := by decide +kernel
theorem dX7_tells_31 : decode cX7_tells 31 = .ok (.aload_n 0, 1) := by decide +kernel
theorem dX7_tells_32 : decode cX7_tells 32 = .ok (.getfield 9, 3) := by decide +kernel
theorem dX7_tells_35 : decode cX7_tells 35 = .ok (.iload 4, 2) := by decide +kernel
theorem dX7_tells_37 : decode cX7_tells 37 = .ok (.iconst 4, 1) := by decide +kernel
theorem dX7_tells_38 : decode cX7_tells 38 = .ok (.iadd, 1) := by decide +kernel
theorem dX7_tells_39 : decode cX7_tells 39 = .ok (.iaload, 1) := by decide +kernel
theorem dX7_tells_40 : decode cX7_tells 40 = .ok (.iastore, 1) := by decide +kernel
theorem dX7_tells_41 : decode cX7_tells 41 = .ok (.iinc 4 1, 3) := by decide +kernel
theorem dX7_tells_44 : decode cX7_tells 44 = .ok (.goto (-27), 3) := by decide +kernel
theorem dX7_tells_47 : decode cX7_tells 47 = .ok (.aload_n 0, 1) := by decide +kernel
theorem dX7_tells_48 : decode cX7_tells 48 = .ok (.getfield 9, 3) := by decide +kernel
theorem dX7_tells_51 : decode cX7_tells 51 = .ok (.bipush 11, 2) := by decide +kernel
theorem dX7_tells_53 : decode cX7_tells 53 = .ok (.dup2, 1) := by decide +kernel
theorem dX7_tells_54 : decode cX7_tells 54 = .ok (.iaload, 1) := by decide +kernel
theorem dX7_tells_55 : decode cX7_tells 55 = .ok (.iconst 1, 1) := by decide +kernel
theorem dX7_tells_56 : decode cX7_tells 56 = .ok (.isub, 1) := by decide +kernel
theorem dX7_tells_57 : decode cX7_tells 57 = .ok (.iastore, 1) := by decide +kernel
theorem dX7_tells_58 : decode cX7_tells 58 = .ok (.sipush 220, 3) := by decide +kernel
theorem dX7_tells_61 : decode cX7_tells 61 = .ok (.iconst 4, 1) := by decide +kernel
theorem dX7_tells_62 : decode cX7_tells 62 = .ok (.aload_n 0, 1) := by decide +kernel
theorem dX7_tells_63 : decode cX7_tells 63 = .ok (.getfield 9, 3) := by decide +kernel
theorem dX7_tells_66 : decode cX7_tells 66 = .ok (.bipush 11, 2) := by decide +kernel
theorem dX7_tells_68 : decode cX7_tells 68 = .ok (.iaload, 1) := by decide +kernel
theorem dX7_tells_69 : decode cX7_tells 69 = .ok (.imul, 1) := by decide +kernel
theorem dX7_tells_70 : decode cX7_tells 70 = .ok (.iadd, 1) := by decide +kernel
theorem dX7_tells_71 : decode cX7_tells 71 = .ok (.istore 4, 2) := by decide +kernel
theorem dX7_tells_73 : decode cX7_tells 73 = .ok (.aload_n 0, 1) := by decide +kernel
theorem dX7_tells_74 : decode cX7_tells 74 = .ok (.getfield 9, 3) := by decide +kernel
theorem dX7_tells_77 : decode cX7_tells 77 = .ok (.iload 4, 2) := by decide +kernel
theorem dX7_tells_79 : decode cX7_tells 79 = .ok (.aload_n 0, 1) := by decide +kernel
theorem dX7_tells_80 : decode cX7_tells 80 = .ok (.getfield 9, 3) := by decide +kernel
theorem dX7_tells_83 : decode cX7_tells 83 = .ok (.iconst 3, 1) := by decide +kernel
theorem dX7_tells_84 : decode cX7_tells 84 = .ok (.iaload, 1) := by decide +kernel
theorem dX7_tells_85 : decode cX7_tells 85 = .ok (.iastore, 1) := by decide +kernel
theorem dX7_tells_86 : decode cX7_tells 86 = .ok (.aload_n 0, 1) := by decide +kernel
theorem dX7_tells_87 : decode cX7_tells 87 = .ok (.getfield 9, 3) := by decide +kernel
theorem dX7_tells_90 : decode cX7_tells 90 = .ok (.iload 4, 2) := by decide +kernel
theorem dX7_tells_92 : decode cX7_tells 92 = .ok (.iconst 1, 1) := by decide +kernel
theorem dX7_tells_93 : decode cX7_tells 93 = .ok (.iadd, 1) := by decide +kernel
theorem dX7_tells_94 : decode cX7_tells 94 = .ok (.iload_n 1, 1) := by decide +kernel
theorem dX7_tells_95 : decode cX7_tells 95 = .ok (.iastore, 1) := by decide +kernel
theorem dX7_tells_96 : decode cX7_tells 96 = .ok (.aload_n 0, 1) := by decide +kernel
theorem dX7_tells_97 : decode cX7_tells 97 = .ok (.getfield 9, 3) := by decide +kernel
theorem dX7_tells_100 : decode cX7_tells 100 = .ok (.iload 4, 2) := by decide +kernel
theorem dX7_tells_102 : decode cX7_tells 102 = .ok (.iconst 2, 1) := by decide +kernel
theorem dX7_tells_103 : decode cX7_tells 103 = .ok (.iadd, 1) := by decide +kernel
theorem dX7_tells_104 : decode cX7_tells 104 = .ok (.iload_n 2, 1) := by decide +kernel
theorem dX7_tells_105 : decode cX7_tells 105 = .ok (.iastore, 1) := by decide +kernel
theorem dX7_tells_106 : decode cX7_tells 106 = .ok (.aload_n 0, 1) := by decide +kernel
theorem dX7_tells_107 : decode cX7_tells 107 = .ok (.getfield 9, 3) := by decide +kernel
theorem dX7_tells_110 : decode cX7_tells 110 = .ok (.iload 4, 2) := by decide +kernel
theorem dX7_tells_112 : decode cX7_tells 112 = .ok (.iconst 3, 1) := by decide +kernel
theorem dX7_tells_113 : decode cX7_tells 113 = .ok (.iadd, 1) := by decide +kernel
theorem dX7_tells_114 : decode cX7_tells 114 = .ok (.iload_n 3, 1) := by decide +kernel
theorem dX7_tells_115 : decode cX7_tells 115 = .ok (.iastore, 1) := by decide +kernel
theorem dX7_tells_116 : decode cX7_tells 116 = .ok (.aload_n 0, 1) := by decide +kernel
theorem dX7_tells_117 : decode cX7_tells 117 = .ok (.getfield 9, 3) := by decide +kernel
theorem dX7_tells_120 : decode cX7_tells 120 = .ok (.bipush 11, 2) := by decide +kernel
theorem dX7_tells_122 : decode cX7_tells 122 = .ok (.dup2, 1) := by decide +kernel
theorem dX7_tells_123 : decode cX7_tells 123 = .ok (.iaload, 1) := by decide +kernel
theorem dX7_tells_124 : decode cX7_tells 124 = .ok (.iconst 1, 1) := by decide +kernel
theorem dX7_tells_125 : decode cX7_tells 125 = .ok (.iadd, 1) := by decide +kernel
theorem dX7_tells_126 : decode cX7_tells 126 = .ok (.iastore, 1) := by decide +kernel
theorem dX7_tells_127 : decode cX7_tells 127 = .ok (.return_, 1) := by decide +kernel
theorem dX7_leases_0 : decode cX7_leases 0 = .ok (.iconst 0, 1) := by decide +kernel
theorem dX7_leases_1 : decode cX7_leases 1 = .ok (.istore_n 1, 1) := by decide +kernel
theorem dX7_leases_2 : decode cX7_leases 2 = .ok (.iload_n 1, 1) := by decide +kernel
theorem dX7_leases_3 : decode cX7_leases 3 = .ok (.bipush 32, 2) := by decide +kernel
theorem dX7_leases_5 : decode cX7_leases 5 = .ok (.if_icmp .ge 106, 3) := by decide +kernel
theorem dX7_leases_8 : decode cX7_leases 8 = .ok (.aload_n 0, 1) := by decide +kernel
theorem dX7_leases_9 : decode cX7_leases 9 = .ok (.getfield 9, 3) := by decide +kernel
theorem dX7_leases_12 : decode cX7_leases 12 = .ok (.bipush 28, 2) := by decide +kernel
theorem dX7_leases_14 : decode cX7_leases 14 = .ok (.iload_n 1, 1) := by decide +kernel
theorem dX7_leases_15 : decode cX7_leases 15 = .ok (.iadd, 1) := by decide +kernel
theorem dX7_leases_16 : decode cX7_leases 16 = .ok (.iaload, 1) := by decide +kernel
theorem dX7_leases_17 : decode cX7_leases 17 = .ok (.istore_n 2, 1) := by decide +kernel
theorem dX7_leases_18 : decode cX7_leases 18 = .ok (.iload_n 2, 1) := by decide +kernel
theorem dX7_leases_19 : decode cX7_leases 19 = .ok (.ifCond .lt 36, 3) := by decide +kernel
theorem dX7_leases_22 : decode cX7_leases 22 = .ok (.aload_n 0, 1) := by decide +kernel
theorem dX7_leases_23 : decode cX7_leases 23 = .ok (.iload_n 1, 1) := by decide +kernel
theorem dX7_leases_24 : decode cX7_leases 24 = .ok (.invokevirtual 141, 3) := by decide +kernel
theorem dX7_leases_27 : decode cX7_leases 27 = .ok (.ifCond .eq 28, 3) := by decide +kernel
theorem dX7_leases_30 : decode cX7_leases 30 = .ok (.aload_n 0, 1) := by decide +kernel
theorem dX7_leases_31 : decode cX7_leases 31 = .ok (.getfield 9, 3) := by decide +kernel
theorem dX7_leases_34 : decode cX7_leases 34 = .ok (.bipush 60, 2) := by decide +kernel
theorem dX7_leases_36 : decode cX7_leases 36 = .ok (.iload_n 1, 1) := by decide +kernel
theorem dX7_leases_37 : decode cX7_leases 37 = .ok (.iadd, 1) := by decide +kernel
theorem dX7_leases_38 : decode cX7_leases 38 = .ok (.aload_n 0, 1) := by decide +kernel
theorem dX7_leases_39 : decode cX7_leases 39 = .ok (.getfield 9, 3) := by decide +kernel
theorem dX7_leases_42 : decode cX7_leases 42 = .ok (.iconst 3, 1) := by decide +kernel
theorem dX7_leases_43 : decode cX7_leases 43 = .ok (.iaload, 1) := by decide +kernel
theorem dX7_leases_44 : decode cX7_leases 44 = .ok (.aload_n 0, 1) := by decide +kernel
theorem dX7_leases_45 : decode cX7_leases 45 = .ok (.getfield 9, 3) := by decide +kernel
theorem dX7_leases_48 : decode cX7_leases 48 = .ok (.iconst 2, 1) := by decide +kernel
theorem dX7_leases_49 : decode cX7_leases 49 = .ok (.iaload, 1) := by decide +kernel
theorem dX7_leases_50 : decode cX7_leases 50 = .ok (.iadd, 1) := by decide +kernel
theorem dX7_leases_51 : decode cX7_leases 51 = .ok (.iastore, 1) := by decide +kernel
theorem dX7_leases_52 : decode cX7_leases 52 = .ok (.goto 53, 3) := by decide +kernel
theorem dX7_leases_55 : decode cX7_leases 55 = .ok (.iload_n 2, 1) := by decide +kernel
theorem dX7_leases_56 : decode cX7_leases 56 = .ok (.ifCond .lt 49, 3) := by decide +kernel
theorem dX7_leases_59 : decode cX7_leases 59 = .ok (.aload_n 0, 1) := by decide +kernel
theorem dX7_leases_60 : decode cX7_leases 60 = .ok (.getfield 9, 3) := by decide +kernel
theorem dX7_leases_63 : decode cX7_leases 63 = .ok (.bipush 60, 2) := by decide +kernel
theorem dX7_leases_65 : decode cX7_leases 65 = .ok (.iload_n 1, 1) := by decide +kernel
theorem dX7_leases_66 : decode cX7_leases 66 = .ok (.iadd, 1) := by decide +kernel
theorem dX7_leases_67 : decode cX7_leases 67 = .ok (.iaload, 1) := by decide +kernel
theorem dX7_leases_68 : decode cX7_leases 68 = .ok (.aload_n 0, 1) := by decide +kernel
theorem dX7_leases_69 : decode cX7_leases 69 = .ok (.getfield 9, 3) := by decide +kernel
theorem dX7_leases_72 : decode cX7_leases 72 = .ok (.iconst 3, 1) := by decide +kernel
theorem dX7_leases_73 : decode cX7_leases 73 = .ok (.iaload, 1) := by decide +kernel
theorem dX7_leases_74 : decode cX7_leases 74 = .ok (.if_icmp .gt 31, 3) := by decide +kernel
theorem dX7_leases_77 : decode cX7_leases 77 = .ok (.aload_n 0, 1) := by decide +kernel
theorem dX7_leases_78 : decode cX7_leases 78 = .ok (.getfield 9, 3) := by decide +kernel
theorem dX7_leases_81 : decode cX7_leases 81 = .ok (.bipush 28, 2) := by decide +kernel
theorem dX7_leases_83 : decode cX7_leases 83 = .ok (.iload_n 1, 1) := by decide +kernel
theorem dX7_leases_84 : decode cX7_leases 84 = .ok (.iadd, 1) := by decide +kernel
theorem dX7_leases_85 : decode cX7_leases 85 = .ok (.iconst (-1), 1) := by decide +kernel
theorem dX7_leases_86 : decode cX7_leases 86 = .ok (.iastore, 1) := by decide +kernel
theorem dX7_leases_87 : decode cX7_leases 87 = .ok (.aload_n 0, 1) := by decide +kernel
theorem dX7_leases_88 : decode cX7_leases 88 = .ok (.getfield 9, 3) := by decide +kernel
theorem dX7_leases_91 : decode cX7_leases 91 = .ok (.bipush 9, 2) := by decide +kernel
theorem dX7_leases_93 : decode cX7_leases 93 = .ok (.dup2, 1) := by decide +kernel
theorem dX7_leases_94 : decode cX7_leases 94 = .ok (.iaload, 1) := by decide +kernel
theorem dX7_leases_95 : decode cX7_leases 95 = .ok (.iconst 1, 1) := by decide +kernel
theorem dX7_leases_96 : decode cX7_leases 96 = .ok (.iadd, 1) := by decide +kernel
theorem dX7_leases_97 : decode cX7_leases 97 = .ok (.iastore, 1) := by decide +kernel
theorem dX7_leases_98 : decode cX7_leases 98 = .ok (.aload_n 0, 1) := by decide +kernel
theorem dX7_leases_99 : decode cX7_leases 99 = .ok (.iconst 3, 1) := by decide +kernel
theorem dX7_leases_100 : decode cX7_leases 100 = .ok (.iload_n 1, 1) := by decide +kernel
theorem dX7_leases_101 : decode cX7_leases 101 = .ok (.iload_n 2, 1) := by decide +kernel
theorem dX7_leases_102 : decode cX7_leases 102 = .ok (.invokevirtual 144, 3) := by decide +kernel
theorem dX7_leases_105 : decode cX7_leases 105 = .ok (.iinc 1 1, 3) := by decide +kernel
theorem dX7_leases_108 : decode cX7_leases 108 = .ok (.goto (-106), 3) := by decide +kernel
theorem dX7_leases_111 : decode cX7_leases 111 = .ok (.return_, 1) := by decide +kernel
theorem dX7_of_0 : decode cX7_of 0 = .ok (.aload_n 0, 1) := by decide +kernel
theorem dX7_of_1 : decode cX7_of 1 = .ok (.getfield 9, 3) := by decide +kernel
theorem dX7_of_4 : decode cX7_of 4 = .ok (.bipush 92, 2) := by decide +kernel
theorem dX7_of_6 : decode cX7_of 6 = .ok (.iconst 4, 1) := by decide +kernel
theorem dX7_of_7 : decode cX7_of 7 = .ok (.iload_n 1, 1) := by decide +kernel
theorem dX7_of_8 : decode cX7_of 8 = .ok (.imul, 1) := by decide +kernel
theorem dX7_of_9 : decode cX7_of 9 = .ok (.iadd, 1) := by decide +kernel
theorem dX7_of_10 : decode cX7_of 10 = .ok (.iload_n 2, 1) := by decide +kernel
theorem dX7_of_11 : decode cX7_of 11 = .ok (.iadd, 1) := by decide +kernel
theorem dX7_of_12 : decode cX7_of 12 = .ok (.iaload, 1) := by decide +kernel
theorem dX7_of_13 : decode cX7_of 13 = .ok (.ireturn, 1) := by decide +kernel
theorem dX7_isLost_0 : decode cX7_isLost 0 = .ok (.aload_n 0, 1) := by decide +kernel
theorem dX7_isLost_1 : decode cX7_isLost 1 = .ok (.iload_n 1, 1) := by decide +kernel
theorem dX7_isLost_2 : decode cX7_isLost 2 = .ok (.iconst 0, 1) := by decide +kernel
theorem dX7_isLost_3 : decode cX7_isLost 3 = .ok (.invokevirtual 147, 3) := by decide +kernel
theorem dX7_isLost_6 : decode cX7_isLost 6 = .ok (.istore_n 2, 1) := by decide +kernel
theorem dX7_isLost_7 : decode cX7_isLost 7 = .ok (.aload_n 0, 1) := by decide +kernel
theorem dX7_isLost_8 : decode cX7_isLost 8 = .ok (.iload_n 1, 1) := by decide +kernel
theorem dX7_isLost_9 : decode cX7_isLost 9 = .ok (.iconst 1, 1) := by decide +kernel
theorem dX7_isLost_10 : decode cX7_isLost 10 = .ok (.invokevirtual 147, 3) := by decide +kernel
theorem dX7_isLost_13 : decode cX7_isLost 13 = .ok (.istore_n 3, 1) := by decide +kernel
theorem dX7_isLost_14 : decode cX7_isLost 14 = .ok (.aload_n 0, 1) := by decide +kernel
theorem dX7_isLost_15 : decode cX7_isLost 15 = .ok (.iload_n 1, 1) := by decide +kernel
theorem dX7_isLost_16 : decode cX7_isLost 16 = .ok (.iconst 2, 1) := by decide +kernel
theorem dX7_isLost_17 : decode cX7_isLost 17 = .ok (.invokevirtual 147, 3) := by decide +kernel
theorem dX7_isLost_20 : decode cX7_isLost 20 = .ok (.aload_n 0, 1) := by decide +kernel
theorem dX7_isLost_21 : decode cX7_isLost 21 = .ok (.getfield 40, 3) := by decide +kernel
theorem dX7_isLost_24 : decode cX7_isLost 24 = .ok (.iload_n 2, 1) := by decide +kernel
theorem dX7_isLost_25 : decode cX7_isLost 25 = .ok (.iaload, 1) := by decide +kernel
theorem dX7_isLost_26 : decode cX7_isLost 26 = .ok (.if_icmp .ne 29, 3) := by decide +kernel
theorem dX7_isLost_29 : decode cX7_isLost 29 = .ok (.iload_n 3, 1) := by decide +kernel
theorem dX7_isLost_30 : decode cX7_isLost 30 = .ok (.ifCond .lt 29, 3) := by decide +kernel
theorem dX7_isLost_33 : decode cX7_isLost 33 = .ok (.aload_n 0, 1) := by decide +kernel
theorem dX7_isLost_34 : decode cX7_isLost 34 = .ok (.getfield 9, 3) := by decide +kernel
theorem dX7_isLost_37 : decode cX7_isLost 37 = .ok (.bipush 28, 2) := by decide +kernel
theorem dX7_isLost_39 : decode cX7_isLost 39 = .ok (.iload_n 2, 1) := by decide +kernel
theorem dX7_isLost_40 : decode cX7_isLost 40 = .ok (.iadd, 1) := by decide +kernel
theorem dX7_isLost_41 : decode cX7_isLost 41 = .ok (.iaload, 1) := by decide +kernel
theorem dX7_isLost_42 : decode cX7_isLost 42 = .ok (.iload_n 3, 1) := by decide +kernel
theorem dX7_isLost_43 : decode cX7_isLost 43 = .ok (.if_icmp .ne 12, 3) := by decide +kernel
theorem dX7_isLost_46 : decode cX7_isLost 46 = .ok (.aload_n 0, 1) := by decide +kernel
theorem dX7_isLost_47 : decode cX7_isLost 47 = .ok (.iload_n 3, 1) := by decide +kernel
theorem dX7_isLost_48 : decode cX7_isLost 48 = .ok (.iconst 3, 1) := by decide +kernel
theorem dX7_isLost_49 : decode cX7_isLost 49 = .ok (.invokevirtual 79, 3) := by decide +kernel
theorem dX7_isLost_52 : decode cX7_isLost 52 = .ok (.ifCond .eq 7, 3) := by decide +kernel
theorem dX7_isLost_55 : decode cX7_isLost 55 = .ok (.iconst 1, 1) := by decide +kernel
theorem dX7_isLost_56 : decode cX7_isLost 56 = .ok (.goto 4, 3) := by decide +kernel
theorem dX7_isLost_59 : decode cX7_isLost 59 = .ok (.iconst 0, 1) := by decide +kernel
theorem dX7_isLost_60 : decode cX7_isLost 60 = .ok (.ireturn, 1) := by decide +kernel
theorem dX7_endMove_0 : decode cX7_endMove 0 = .ok (.aload_n 0, 1) := by decide +kernel
theorem dX7_endMove_1 : decode cX7_endMove 1 = .ok (.getfield 9, 3) := by decide +kernel
theorem dX7_endMove_4 : decode cX7_endMove 4 = .ok (.bipush 10, 2) := by decide +kernel
theorem dX7_endMove_6 : decode cX7_endMove 6 = .ok (.dup2, 1) := by decide +kernel
theorem dX7_endMove_7 : decode cX7_endMove 7 = .ok (.iaload, 1) := by decide +kernel
theorem dX7_endMove_8 : decode cX7_endMove 8 = .ok (.iconst 1, 1) := by decide +kernel
theorem dX7_endMove_9 : decode cX7_endMove 9 = .ok (.isub, 1) := by decide +kernel
theorem dX7_endMove_10 : decode cX7_endMove 10 = .ok (.iastore, 1) := by decide +kernel
theorem dX7_endMove_11 : decode cX7_endMove 11 = .ok (.bipush 92, 2) := by decide +kernel
theorem dX7_endMove_13 : decode cX7_endMove 13 = .ok (.iconst 4, 1) := by decide +kernel
theorem dX7_endMove_14 : decode cX7_endMove 14 = .ok (.iload_n 1, 1) := by decide +kernel
theorem dX7_endMove_15 : decode cX7_endMove 15 = .ok (.imul, 1) := by decide +kernel
theorem dX7_endMove_16 : decode cX7_endMove 16 = .ok (.iadd, 1) := by decide +kernel
theorem dX7_endMove_17 : decode cX7_endMove 17 = .ok (.istore_n 2, 1) := by decide +kernel
theorem dX7_endMove_18 : decode cX7_endMove 18 = .ok (.iload_n 2, 1) := by decide +kernel
theorem dX7_endMove_19 : decode cX7_endMove 19 = .ok (.bipush 92, 2) := by decide +kernel
theorem dX7_endMove_21 : decode cX7_endMove 21 = .ok (.iconst 4, 1) := by decide +kernel
theorem dX7_endMove_22 : decode cX7_endMove 22 = .ok (.aload_n 0, 1) := by decide +kernel
theorem dX7_endMove_23 : decode cX7_endMove 23 = .ok (.getfield 9, 3) := by decide +kernel
theorem dX7_endMove_26 : decode cX7_endMove 26 = .ok (.bipush 10, 2) := by decide +kernel
theorem dX7_endMove_28 : decode cX7_endMove 28 = .ok (.iaload, 1) := by decide +kernel
theorem dX7_endMove_29 : decode cX7_endMove 29 = .ok (.imul, 1) := by decide +kernel
theorem dX7_endMove_30 : decode cX7_endMove 30 = .ok (.iadd, 1) := by decide +kernel
theorem dX7_endMove_31 : decode cX7_endMove 31 = .ok (.if_icmp .ge 23, 3) := by decide +kernel
theorem dX7_endMove_34 : decode cX7_endMove 34 = .ok (.aload_n 0, 1) := by decide +kernel
theorem dX7_endMove_35 : decode cX7_endMove 35 = .ok (.getfield 9, 3) := by decide +kernel
theorem dX7_endMove_38 : decode cX7_endMove 38 = .ok (.iload_n 2, 1) := by decide +kernel
theorem dX7_endMove_39 : decode cX7_endMove 39 = .ok (.aload_n 0, 1) := by decide +kernel
theorem dX7_endMove_40 : decode cX7_endMove 40 = .ok (.getfield 9, 3) := by decide +kernel
theorem dX7_endMove_43 : decode cX7_endMove 43 = .ok (.iload_n 2, 1) := by decide +kernel
theorem dX7_endMove_44 : decode cX7_endMove 44 = .ok (.iconst 4, 1) := by decide +kernel
theorem dX7_endMove_45 : decode cX7_endMove 45 = .ok (.iadd, 1) := by decide +kernel
theorem dX7_endMove_46 : decode cX7_endMove 46 = .ok (.iaload, 1) := by decide +kernel
theorem dX7_endMove_47 : decode cX7_endMove 47 = .ok (.iastore, 1) := by decide +kernel
theorem dX7_endMove_48 : decode cX7_endMove 48 = .ok (.iinc 2 1, 3) := by decide +kernel
theorem dX7_endMove_51 : decode cX7_endMove 51 = .ok (.goto (-33), 3) := by decide +kernel
theorem dX7_endMove_54 : decode cX7_endMove 54 = .ok (.return_, 1) := by decide +kernel
theorem dX7_goOn_0 : decode cX7_goOn 0 = .ok (.iconst 0, 1) := by decide +kernel
theorem dX7_goOn_1 : decode cX7_goOn 1 = .ok (.istore_n 1, 1) := by decide +kernel
theorem dX7_goOn_2 : decode cX7_goOn 2 = .ok (.iload_n 1, 1) := by decide +kernel
theorem dX7_goOn_3 : decode cX7_goOn 3 = .ok (.aload_n 0, 1) := by decide +kernel
theorem dX7_goOn_4 : decode cX7_goOn 4 = .ok (.getfield 9, 3) := by decide +kernel
theorem dX7_goOn_7 : decode cX7_goOn 7 = .ok (.bipush 10, 2) := by decide +kernel
theorem dX7_goOn_9 : decode cX7_goOn 9 = .ok (.iaload, 1) := by decide +kernel
theorem dX7_goOn_10 : decode cX7_goOn 10 = .ok (.if_icmp .ge 162, 3) := by decide +kernel
theorem dX7_goOn_13 : decode cX7_goOn 13 = .ok (.aload_n 0, 1) := by decide +kernel
theorem dX7_goOn_14 : decode cX7_goOn 14 = .ok (.iload_n 1, 1) := by decide +kernel
theorem dX7_goOn_15 : decode cX7_goOn 15 = .ok (.iconst 0, 1) := by decide +kernel
theorem dX7_goOn_16 : decode cX7_goOn 16 = .ok (.invokevirtual 147, 3) := by decide +kernel
theorem dX7_goOn_19 : decode cX7_goOn 19 = .ok (.istore_n 2, 1) := by decide +kernel
theorem dX7_goOn_20 : decode cX7_goOn 20 = .ok (.aload_n 0, 1) := by decide +kernel
theorem dX7_goOn_21 : decode cX7_goOn 21 = .ok (.iload_n 1, 1) := by decide +kernel
theorem dX7_goOn_22 : decode cX7_goOn 22 = .ok (.iconst 2, 1) := by decide +kernel
theorem dX7_goOn_23 : decode cX7_goOn 23 = .ok (.invokevirtual 147, 3) := by decide +kernel
theorem dX7_goOn_26 : decode cX7_goOn 26 = .ok (.istore_n 3, 1) := by decide +kernel
theorem dX7_goOn_27 : decode cX7_goOn 27 = .ok (.aload_n 0, 1) := by decide +kernel
theorem dX7_goOn_28 : decode cX7_goOn 28 = .ok (.iload_n 1, 1) := by decide +kernel
theorem dX7_goOn_29 : decode cX7_goOn 29 = .ok (.invokevirtual 150, 3) := by decide +kernel
theorem dX7_goOn_32 : decode cX7_goOn 32 = .ok (.ifCond .eq 29, 3) := by decide +kernel
theorem dX7_goOn_35 : decode cX7_goOn 35 = .ok (.aload_n 0, 1) := by decide +kernel
theorem dX7_goOn_36 : decode cX7_goOn 36 = .ok (.getfield 9, 3) := by decide +kernel
theorem dX7_goOn_39 : decode cX7_goOn 39 = .ok (.bipush 6, 2) := by decide +kernel
theorem dX7_goOn_41 : decode cX7_goOn 41 = .ok (.dup2, 1) := by decide +kernel
theorem dX7_goOn_42 : decode cX7_goOn 42 = .ok (.iaload, 1) := by decide +kernel
theorem dX7_goOn_43 : decode cX7_goOn 43 = .ok (.iconst 1, 1) := by decide +kernel
theorem dX7_goOn_44 : decode cX7_goOn 44 = .ok (.iadd, 1) := by decide +kernel
theorem dX7_goOn_45 : decode cX7_goOn 45 = .ok (.iastore, 1) := by decide +kernel
theorem dX7_goOn_46 : decode cX7_goOn 46 = .ok (.aload_n 0, 1) := by decide +kernel
theorem dX7_goOn_47 : decode cX7_goOn 47 = .ok (.iconst 2, 1) := by decide +kernel
theorem dX7_goOn_48 : decode cX7_goOn 48 = .ok (.iload_n 2, 1) := by decide +kernel
theorem dX7_goOn_49 : decode cX7_goOn 49 = .ok (.iload_n 3, 1) := by decide +kernel
theorem dX7_goOn_50 : decode cX7_goOn 50 = .ok (.invokevirtual 144, 3) := by decide +kernel
theorem dX7_goOn_53 : decode cX7_goOn 53 = .ok (.aload_n 0, 1) := by decide +kernel
theorem dX7_goOn_54 : decode cX7_goOn 54 = .ok (.iload_n 1, 1) := by decide +kernel
theorem dX7_goOn_55 : decode cX7_goOn 55 = .ok (.invokevirtual 153, 3) := by decide +kernel
theorem dX7_goOn_58 : decode cX7_goOn 58 = .ok (.goto 111, 3) := by decide +kernel
theorem dX7_goOn_61 : decode cX7_goOn 61 = .ok (.aload_n 0, 1) := by decide +kernel
theorem dX7_goOn_62 : decode cX7_goOn 62 = .ok (.getfield 9, 3) := by decide +kernel
theorem dX7_goOn_65 : decode cX7_goOn 65 = .ok (.bipush 92, 2) := by decide +kernel
theorem dX7_goOn_67 : decode cX7_goOn 67 = .ok (.iconst 4, 1) := by decide +kernel
theorem dX7_goOn_68 : decode cX7_goOn 68 = .ok (.iload_n 1, 1) := by decide +kernel
theorem dX7_goOn_69 : decode cX7_goOn 69 = .ok (.imul, 1) := by decide +kernel
theorem dX7_goOn_70 : decode cX7_goOn 70 = .ok (.iadd, 1) := by decide +kernel
theorem dX7_goOn_71 : decode cX7_goOn 71 = .ok (.iconst 3, 1) := by decide +kernel
theorem dX7_goOn_72 : decode cX7_goOn 72 = .ok (.iadd, 1) := by decide +kernel
theorem dX7_goOn_73 : decode cX7_goOn 73 = .ok (.dup2, 1) := by decide +kernel
theorem dX7_goOn_74 : decode cX7_goOn 74 = .ok (.iaload, 1) := by decide +kernel
theorem dX7_goOn_75 : decode cX7_goOn 75 = .ok (.iconst 1, 1) := by decide +kernel
theorem dX7_goOn_76 : decode cX7_goOn 76 = .ok (.iadd, 1) := by decide +kernel
theorem dX7_goOn_77 : decode cX7_goOn 77 = .ok (.iastore, 1) := by decide +kernel
theorem dX7_goOn_78 : decode cX7_goOn 78 = .ok (.aload_n 0, 1) := by decide +kernel
theorem dX7_goOn_79 : decode cX7_goOn 79 = .ok (.iload_n 1, 1) := by decide +kernel
theorem dX7_goOn_80 : decode cX7_goOn 80 = .ok (.iconst 3, 1) := by decide +kernel
theorem dX7_goOn_81 : decode cX7_goOn 81 = .ok (.invokevirtual 147, 3) := by decide +kernel
theorem dX7_goOn_84 : decode cX7_goOn 84 = .ok (.aload_n 0, 1) := by decide +kernel
theorem dX7_goOn_85 : decode cX7_goOn 85 = .ok (.getfield 22, 3) := by decide +kernel
theorem dX7_goOn_88 : decode cX7_goOn 88 = .ok (.iload_n 2, 1) := by decide +kernel
theorem dX7_goOn_89 : decode cX7_goOn 89 = .ok (.iaload, 1) := by decide +kernel
theorem dX7_goOn_90 : decode cX7_goOn 90 = .ok (.if_icmp .ne 76, 3) := by decide +kernel
theorem dX7_goOn_93 : decode cX7_goOn 93 = .ok (.aload_n 0, 1) := by decide +kernel
theorem dX7_goOn_94 : decode cX7_goOn 94 = .ok (.getfield 9, 3) := by decide +kernel
theorem dX7_goOn_97 : decode cX7_goOn 97 = .ok (.iconst 5, 1) := by decide +kernel
theorem dX7_goOn_98 : decode cX7_goOn 98 = .ok (.dup2, 1) := by decide +kernel
theorem dX7_goOn_99 : decode cX7_goOn 99 = .ok (.iaload, 1) := by decide +kernel
theorem dX7_goOn_100 : decode cX7_goOn 100 = .ok (.iconst 1, 1) := by decide +kernel
theorem dX7_goOn_101 : decode cX7_goOn 101 = .ok (.iadd, 1) := by decide +kernel
theorem dX7_goOn_102 : decode cX7_goOn 102 = .ok (.iastore, 1) := by decide +kernel
theorem dX7_goOn_103 : decode cX7_goOn 103 = .ok (.aload_n 0, 1) := by decide +kernel
theorem dX7_goOn_104 : decode cX7_goOn 104 = .ok (.getfield 9, 3) := by decide +kernel
theorem dX7_goOn_107 : decode cX7_goOn 107 = .ok (.bipush 7, 2) := by decide +kernel
theorem dX7_goOn_109 : decode cX7_goOn 109 = .ok (.dup2, 1) := by decide +kernel
theorem dX7_goOn_110 : decode cX7_goOn 110 = .ok (.iaload, 1) := by decide +kernel
theorem dX7_goOn_111 : decode cX7_goOn 111 = .ok (.aload_n 0, 1) := by decide +kernel
theorem dX7_goOn_112 : decode cX7_goOn 112 = .ok (.getfield 22, 3) := by decide +kernel
theorem dX7_goOn_115 : decode cX7_goOn 115 = .ok (.iload_n 2, 1) := by decide +kernel
theorem dX7_goOn_116 : decode cX7_goOn 116 = .ok (.iaload, 1) := by decide +kernel
theorem dX7_goOn_117 : decode cX7_goOn 117 = .ok (.iadd, 1) := by decide +kernel
theorem dX7_goOn_118 : decode cX7_goOn 118 = .ok (.iastore, 1) := by decide +kernel
theorem dX7_goOn_119 : decode cX7_goOn 119 = .ok (.aload_n 0, 1) := by decide +kernel
theorem dX7_goOn_120 : decode cX7_goOn 120 = .ok (.getfield 9, 3) := by decide +kernel
theorem dX7_goOn_123 : decode cX7_goOn 123 = .ok (.bipush 28, 2) := by decide +kernel
theorem dX7_goOn_125 : decode cX7_goOn 125 = .ok (.iload_n 2, 1) := by decide +kernel
theorem dX7_goOn_126 : decode cX7_goOn 126 = .ok (.iadd, 1) := by decide +kernel
theorem dX7_goOn_127 : decode cX7_goOn 127 = .ok (.iload_n 3, 1) := by decide +kernel
theorem dX7_goOn_128 : decode cX7_goOn 128 = .ok (.iastore, 1) := by decide +kernel
theorem dX7_goOn_129 : decode cX7_goOn 129 = .ok (.aload_n 0, 1) := by decide +kernel
theorem dX7_goOn_130 : decode cX7_goOn 130 = .ok (.getfield 9, 3) := by decide +kernel
theorem dX7_goOn_133 : decode cX7_goOn 133 = .ok (.bipush 60, 2) := by decide +kernel
theorem dX7_goOn_135 : decode cX7_goOn 135 = .ok (.iload_n 2, 1) := by decide +kernel
theorem dX7_goOn_136 : decode cX7_goOn 136 = .ok (.iadd, 1) := by decide +kernel
theorem dX7_goOn_137 : decode cX7_goOn 137 = .ok (.aload_n 0, 1) := by decide +kernel
theorem dX7_goOn_138 : decode cX7_goOn 138 = .ok (.getfield 9, 3) := by decide +kernel
theorem dX7_goOn_141 : decode cX7_goOn 141 = .ok (.iconst 3, 1) := by decide +kernel
theorem dX7_goOn_142 : decode cX7_goOn 142 = .ok (.iaload, 1) := by decide +kernel
theorem dX7_goOn_143 : decode cX7_goOn 143 = .ok (.aload_n 0, 1) := by decide +kernel
theorem dX7_goOn_144 : decode cX7_goOn 144 = .ok (.getfield 9, 3) := by decide +kernel
theorem dX7_goOn_147 : decode cX7_goOn 147 = .ok (.iconst 2, 1) := by decide +kernel
theorem dX7_goOn_148 : decode cX7_goOn 148 = .ok (.iaload, 1) := by decide +kernel
theorem dX7_goOn_149 : decode cX7_goOn 149 = .ok (.iadd, 1) := by decide +kernel
theorem dX7_goOn_150 : decode cX7_goOn 150 = .ok (.iastore, 1) := by decide +kernel
theorem dX7_goOn_151 : decode cX7_goOn 151 = .ok (.aload_n 0, 1) := by decide +kernel
theorem dX7_goOn_152 : decode cX7_goOn 152 = .ok (.iconst 1, 1) := by decide +kernel
theorem dX7_goOn_153 : decode cX7_goOn 153 = .ok (.iload_n 2, 1) := by decide +kernel
theorem dX7_goOn_154 : decode cX7_goOn 154 = .ok (.iload_n 3, 1) := by decide +kernel
theorem dX7_goOn_155 : decode cX7_goOn 155 = .ok (.invokevirtual 144, 3) := by decide +kernel
theorem dX7_goOn_158 : decode cX7_goOn 158 = .ok (.aload_n 0, 1) := by decide +kernel
theorem dX7_goOn_159 : decode cX7_goOn 159 = .ok (.iload_n 1, 1) := by decide +kernel
theorem dX7_goOn_160 : decode cX7_goOn 160 = .ok (.invokevirtual 153, 3) := by decide +kernel
theorem dX7_goOn_163 : decode cX7_goOn 163 = .ok (.goto 6, 3) := by decide +kernel
theorem dX7_goOn_166 : decode cX7_goOn 166 = .ok (.iinc 1 1, 3) := by decide +kernel
theorem dX7_goOn_169 : decode cX7_goOn 169 = .ok (.goto (-167), 3) := by decide +kernel
theorem dX7_goOn_172 : decode cX7_goOn 172 = .ok (.return_, 1) := by decide +kernel
theorem dX7_moveOf_0 : decode cX7_moveOf 0 = .ok (.iconst (-1), 1) := by decide +kernel
theorem dX7_moveOf_1 : decode cX7_moveOf 1 = .ok (.istore_n 2, 1) := by decide +kernel
theorem dX7_moveOf_2 : decode cX7_moveOf 2 = .ok (.iconst 0, 1) := by decide +kernel
theorem dX7_moveOf_3 : decode cX7_moveOf 3 = .ok (.istore_n 3, 1) := by decide +kernel
theorem dX7_moveOf_4 : decode cX7_moveOf 4 = .ok (.iload_n 3, 1) := by decide +kernel
theorem dX7_moveOf_5 : decode cX7_moveOf 5 = .ok (.aload_n 0, 1) := by decide +kernel
theorem dX7_moveOf_6 : decode cX7_moveOf 6 = .ok (.getfield 9, 3) := by decide +kernel
theorem dX7_moveOf_9 : decode cX7_moveOf 9 = .ok (.bipush 10, 2) := by decide +kernel
theorem dX7_moveOf_11 : decode cX7_moveOf 11 = .ok (.iaload, 1) := by decide +kernel
theorem dX7_moveOf_12 : decode cX7_moveOf 12 = .ok (.if_icmp .ge 25, 3) := by decide +kernel
theorem dX7_moveOf_15 : decode cX7_moveOf 15 = .ok (.aload_n 0, 1) := by decide +kernel
theorem dX7_moveOf_16 : decode cX7_moveOf 16 = .ok (.iload_n 3, 1) := by decide +kernel
theorem dX7_moveOf_17 : decode cX7_moveOf 17 = .ok (.iconst 0, 1) := by decide +kernel
theorem dX7_moveOf_18 : decode cX7_moveOf 18 = .ok (.invokevirtual 147, 3) := by decide +kernel
theorem dX7_moveOf_21 : decode cX7_moveOf 21 = .ok (.iload_n 1, 1) := by decide +kernel
theorem dX7_moveOf_22 : decode cX7_moveOf 22 = .ok (.if_icmp .ne 7, 3) := by decide +kernel
theorem dX7_moveOf_25 : decode cX7_moveOf 25 = .ok (.iload_n 3, 1) := by decide +kernel
theorem dX7_moveOf_26 : decode cX7_moveOf 26 = .ok (.goto 4, 3) := by decide +kernel
theorem dX7_moveOf_29 : decode cX7_moveOf 29 = .ok (.iload_n 2, 1) := by decide +kernel
theorem dX7_moveOf_30 : decode cX7_moveOf 30 = .ok (.istore_n 2, 1) := by decide +kernel
theorem dX7_moveOf_31 : decode cX7_moveOf 31 = .ok (.iinc 3 1, 3) := by decide +kernel
theorem dX7_moveOf_34 : decode cX7_moveOf 34 = .ok (.goto (-30), 3) := by decide +kernel
theorem dX7_moveOf_37 : decode cX7_moveOf 37 = .ok (.iload_n 2, 1) := by decide +kernel
theorem dX7_moveOf_38 : decode cX7_moveOf 38 = .ok (.ireturn, 1) := by decide +kernel
theorem dX7_comingTo_0 : decode cX7_comingTo 0 = .ok (.iconst 0, 1) := by decide +kernel
theorem dX7_comingTo_1 : decode cX7_comingTo 1 = .ok (.istore_n 2, 1) := by decide +kernel
theorem dX7_comingTo_2 : decode cX7_comingTo 2 = .ok (.iconst 0, 1) := by decide +kernel
theorem dX7_comingTo_3 : decode cX7_comingTo 3 = .ok (.istore_n 3, 1) := by decide +kernel
theorem dX7_comingTo_4 : decode cX7_comingTo 4 = .ok (.iload_n 3, 1) := by decide +kernel
theorem dX7_comingTo_5 : decode cX7_comingTo 5 = .ok (.aload_n 0, 1) := by decide +kernel
theorem dX7_comingTo_6 : decode cX7_comingTo 6 = .ok (.getfield 9, 3) := by decide +kernel
theorem dX7_comingTo_9 : decode cX7_comingTo 9 = .ok (.bipush 10, 2) := by decide +kernel
theorem dX7_comingTo_11 : decode cX7_comingTo 11 = .ok (.iaload, 1) := by decide +kernel
theorem dX7_comingTo_12 : decode cX7_comingTo 12 = .ok (.if_icmp .ge 27, 3) := by decide +kernel
theorem dX7_comingTo_15 : decode cX7_comingTo 15 = .ok (.iload_n 2, 1) := by decide +kernel
theorem dX7_comingTo_16 : decode cX7_comingTo 16 = .ok (.aload_n 0, 1) := by decide +kernel
theorem dX7_comingTo_17 : decode cX7_comingTo 17 = .ok (.iload_n 3, 1) := by decide +kernel
theorem dX7_comingTo_18 : decode cX7_comingTo 18 = .ok (.iconst 2, 1) := by decide +kernel
theorem dX7_comingTo_19 : decode cX7_comingTo 19 = .ok (.invokevirtual 147, 3) := by decide +kernel
theorem dX7_comingTo_22 : decode cX7_comingTo 22 = .ok (.iload_n 1, 1) := by decide +kernel
theorem dX7_comingTo_23 : decode cX7_comingTo 23 = .ok (.if_icmp .ne 7, 3) := by decide +kernel
theorem dX7_comingTo_26 : decode cX7_comingTo 26 = .ok (.iconst 1, 1) := by decide +kernel
theorem dX7_comingTo_27 : decode cX7_comingTo 27 = .ok (.goto 4, 3) := by decide +kernel
theorem dX7_comingTo_30 : decode cX7_comingTo 30 = .ok (.iconst 0, 1) := by decide +kernel
theorem dX7_comingTo_31 : decode cX7_comingTo 31 = .ok (.iadd, 1) := by decide +kernel
theorem dX7_comingTo_32 : decode cX7_comingTo 32 = .ok (.istore_n 2, 1) := by decide +kernel
theorem dX7_comingTo_33 : decode cX7_comingTo 33 = .ok (.iinc 3 1, 3) := by decide +kernel
theorem dX7_comingTo_36 : decode cX7_comingTo 36 = .ok (.goto (-32), 3) := by decide +kernel
theorem dX7_comingTo_39 : decode cX7_comingTo 39 = .ok (.iload_n 2, 1) := by decide +kernel
theorem dX7_comingTo_40 : decode cX7_comingTo 40 = .ok (.ireturn, 1) := by decide +kernel
theorem dX7_rank_0 : decode cX7_rank 0 = .ok (.aload_n 0, 1) := by decide +kernel
theorem dX7_rank_1 : decode cX7_rank 1 = .ok (.getfield 9, 3) := by decide +kernel
theorem dX7_rank_4 : decode cX7_rank 4 = .ok (.bipush 28, 2) := by decide +kernel
theorem dX7_rank_6 : decode cX7_rank 6 = .ok (.iload_n 1, 1) := by decide +kernel
theorem dX7_rank_7 : decode cX7_rank 7 = .ok (.iadd, 1) := by decide +kernel
theorem dX7_rank_8 : decode cX7_rank 8 = .ok (.iaload, 1) := by decide +kernel
theorem dX7_rank_9 : decode cX7_rank 9 = .ok (.istore_n 2, 1) := by decide +kernel
theorem dX7_rank_10 : decode cX7_rank 10 = .ok (.aload_n 0, 1) := by decide +kernel
theorem dX7_rank_11 : decode cX7_rank 11 = .ok (.iload_n 1, 1) := by decide +kernel
theorem dX7_rank_12 : decode cX7_rank 12 = .ok (.invokevirtual 157, 3) := by decide +kernel
theorem dX7_rank_15 : decode cX7_rank 15 = .ok (.ifCond .ge 53, 3) := by decide +kernel
theorem dX7_rank_18 : decode cX7_rank 18 = .ok (.aload_n 0, 1) := by decide +kernel
theorem dX7_rank_19 : decode cX7_rank 19 = .ok (.getfield 40, 3) := by decide +kernel
theorem dX7_rank_22 : decode cX7_rank 22 = .ok (.iload_n 1, 1) := by decide +kernel
theorem dX7_rank_23 : decode cX7_rank 23 = .ok (.iaload, 1) := by decide +kernel
theorem dX7_rank_24 : decode cX7_rank 24 = .ok (.ifCond .lt 44, 3) := by decide +kernel
theorem dX7_rank_27 : decode cX7_rank 27 = .ok (.aload_n 0, 1) := by decide +kernel
theorem dX7_rank_28 : decode cX7_rank 28 = .ok (.getfield 40, 3) := by decide +kernel
theorem dX7_rank_31 : decode cX7_rank 31 = .ok (.iload_n 1, 1) := by decide +kernel
theorem dX7_rank_32 : decode cX7_rank 32 = .ok (.iaload, 1) := by decide +kernel
theorem dX7_rank_33 : decode cX7_rank 33 = .ok (.iload_n 2, 1) := by decide +kernel
theorem dX7_rank_34 : decode cX7_rank 34 = .ok (.if_icmp .eq 34, 3) := by decide +kernel
theorem dX7_rank_37 : decode cX7_rank 37 = .ok (.aload_n 0, 1) := by decide +kernel
theorem dX7_rank_38 : decode cX7_rank 38 = .ok (.aload_n 0, 1) := by decide +kernel
theorem dX7_rank_39 : decode cX7_rank 39 = .ok (.getfield 40, 3) := by decide +kernel
theorem dX7_rank_42 : decode cX7_rank 42 = .ok (.iload_n 1, 1) := by decide +kernel
theorem dX7_rank_43 : decode cX7_rank 43 = .ok (.iaload, 1) := by decide +kernel
theorem dX7_rank_44 : decode cX7_rank 44 = .ok (.invokevirtual 160, 3) := by decide +kernel
theorem dX7_rank_47 : decode cX7_rank 47 = .ok (.iconst 2, 1) := by decide +kernel
theorem dX7_rank_48 : decode cX7_rank 48 = .ok (.if_icmp .ge 20, 3) := by decide +kernel
theorem dX7_rank_51 : decode cX7_rank 51 = .ok (.iload_n 2, 1) := by decide +kernel
theorem dX7_rank_52 : decode cX7_rank 52 = .ok (.ifCond .lt 12, 3) := by decide +kernel
theorem dX7_rank_55 : decode cX7_rank 55 = .ok (.aload_n 0, 1) := by decide +kernel
theorem dX7_rank_56 : decode cX7_rank 56 = .ok (.iload_n 2, 1) := by decide +kernel
theorem dX7_rank_57 : decode cX7_rank 57 = .ok (.iconst 3, 1) := by decide +kernel
theorem dX7_rank_58 : decode cX7_rank 58 = .ok (.invokevirtual 79, 3) := by decide +kernel
theorem dX7_rank_61 : decode cX7_rank 61 = .ok (.ifCond .ne 7, 3) := by decide +kernel
theorem dX7_rank_64 : decode cX7_rank 64 = .ok (.iconst 1, 1) := by decide +kernel
theorem dX7_rank_65 : decode cX7_rank 65 = .ok (.goto 4, 3) := by decide +kernel
theorem dX7_rank_68 : decode cX7_rank 68 = .ok (.iconst 0, 1) := by decide +kernel
theorem dX7_rank_69 : decode cX7_rank 69 = .ok (.istore_n 3, 1) := by decide +kernel
theorem dX7_rank_70 : decode cX7_rank 70 = .ok (.iload_n 2, 1) := by decide +kernel
theorem dX7_rank_71 : decode cX7_rank 71 = .ok (.ifCond .ge 7, 3) := by decide +kernel
theorem dX7_rank_74 : decode cX7_rank 74 = .ok (.iconst 0, 1) := by decide +kernel
theorem dX7_rank_75 : decode cX7_rank 75 = .ok (.goto 17, 3) := by decide +kernel
theorem dX7_rank_78 : decode cX7_rank 78 = .ok (.aload_n 0, 1) := by decide +kernel
theorem dX7_rank_79 : decode cX7_rank 79 = .ok (.iload_n 2, 1) := by decide +kernel
theorem dX7_rank_80 : decode cX7_rank 80 = .ok (.iconst 2, 1) := by decide +kernel
theorem dX7_rank_81 : decode cX7_rank 81 = .ok (.invokevirtual 79, 3) := by decide +kernel
theorem dX7_rank_84 : decode cX7_rank 84 = .ok (.ifCond .eq 7, 3) := by decide +kernel
theorem dX7_rank_87 : decode cX7_rank 87 = .ok (.iconst 1, 1) := by decide +kernel
theorem dX7_rank_88 : decode cX7_rank 88 = .ok (.goto 4, 3) := by decide +kernel
theorem dX7_rank_91 : decode cX7_rank 91 = .ok (.iconst 2, 1) := by decide +kernel
theorem dX7_rank_92 : decode cX7_rank 92 = .ok (.istore 4, 2) := by decide +kernel
theorem dX7_rank_94 : decode cX7_rank 94 = .ok (.iload_n 3, 1) := by decide +kernel
theorem dX7_rank_95 : decode cX7_rank 95 = .ok (.ifCond .eq 23, 3) := by decide +kernel
theorem dX7_rank_98 : decode cX7_rank 98 = .ok (.bipush 16, 2) := by decide +kernel
theorem dX7_rank_100 : decode cX7_rank 100 = .ok (.iload 4, 2) := by decide +kernel
theorem dX7_rank_102 : decode cX7_rank 102 = .ok (.imul, 1) := by decide +kernel
theorem dX7_rank_103 : decode cX7_rank 103 = .ok (.aload_n 0, 1) := by decide +kernel
theorem dX7_rank_104 : decode cX7_rank 104 = .ok (.getfield 22, 3) := by decide +kernel
theorem dX7_rank_107 : decode cX7_rank 107 = .ok (.iload_n 1, 1) := by decide +kernel
theorem dX7_rank_108 : decode cX7_rank 108 = .ok (.iaload, 1) := by decide +kernel
theorem dX7_rank_109 : decode cX7_rank 109 = .ok (.iadd, 1) := by decide +kernel
theorem dX7_rank_110 : decode cX7_rank 110 = .ok (.bipush 32, 2) := by decide +kernel
theorem dX7_rank_112 : decode cX7_rank 112 = .ok (.imul, 1) := by decide +kernel
theorem dX7_rank_113 : decode cX7_rank 113 = .ok (.iload_n 1, 1) := by decide +kernel
theorem dX7_rank_114 : decode cX7_rank 114 = .ok (.iadd, 1) := by decide +kernel
theorem dX7_rank_115 : decode cX7_rank 115 = .ok (.goto 4, 3) := by decide +kernel
theorem dX7_rank_118 : decode cX7_rank 118 = .ok (.iconst (-1), 1) := by decide +kernel
theorem dX7_rank_119 : decode cX7_rank 119 = .ok (.ireturn, 1) := by decide +kernel
theorem dX7_begin_0 : decode cX7_begin 0 = .ok (.aload_n 0, 1) := by decide +kernel
theorem dX7_begin_1 : decode cX7_begin 1 = .ok (.getfield 9, 3) := by decide +kernel
theorem dX7_begin_4 : decode cX7_begin 4 = .ok (.bipush 10, 2) := by decide +kernel
theorem dX7_begin_6 : decode cX7_begin 6 = .ok (.iaload, 1) := by decide +kernel
theorem dX7_begin_7 : decode cX7_begin 7 = .ok (.aload_n 0, 1) := by decide +kernel
theorem dX7_begin_8 : decode cX7_begin 8 = .ok (.getfield 9, 3) := by decide +kernel
theorem dX7_begin_11 : decode cX7_begin 11 = .ok (.iconst 1, 1) := by decide +kernel
theorem dX7_begin_12 : decode cX7_begin 12 = .ok (.iaload, 1) := by decide +kernel
theorem dX7_begin_13 : decode cX7_begin 13 = .ok (.if_icmp .ge 7, 3) := by decide +kernel
theorem dX7_begin_16 : decode cX7_begin 16 = .ok (.iconst 1, 1) := by decide +kernel
theorem dX7_begin_17 : decode cX7_begin 17 = .ok (.goto 4, 3) := by decide +kernel
theorem dX7_begin_20 : decode cX7_begin 20 = .ok (.iconst 0, 1) := by decide +kernel
theorem dX7_begin_21 : decode cX7_begin 21 = .ok (.istore_n 1, 1) := by decide +kernel
theorem dX7_begin_22 : decode cX7_begin 22 = .ok (.iload_n 1, 1) := by decide +kernel
theorem dX7_begin_23 : decode cX7_begin 23 = .ok (.ifCond .eq 184, 3) := by decide +kernel
theorem dX7_begin_26 : decode cX7_begin 26 = .ok (.iconst (-1), 1) := by decide +kernel
theorem dX7_begin_27 : decode cX7_begin 27 = .ok (.istore_n 2, 1) := by decide +kernel
theorem dX7_begin_28 : decode cX7_begin 28 = .ok (.iconst 0, 1) := by decide +kernel
theorem dX7_begin_29 : decode cX7_begin 29 = .ok (.istore_n 3, 1) := by decide +kernel
theorem dX7_begin_30 : decode cX7_begin 30 = .ok (.iload_n 3, 1) := by decide +kernel
theorem dX7_begin_31 : decode cX7_begin 31 = .ok (.bipush 32, 2) := by decide +kernel
theorem dX7_begin_33 : decode cX7_begin 33 = .ok (.if_icmp .ge 38, 3) := by decide +kernel
theorem dX7_begin_36 : decode cX7_begin 36 = .ok (.aload_n 0, 1) := by decide +kernel
theorem dX7_begin_37 : decode cX7_begin 37 = .ok (.iload_n 3, 1) := by decide +kernel
theorem dX7_begin_38 : decode cX7_begin 38 = .ok (.invokevirtual 163, 3) := by decide +kernel
theorem dX7_begin_41 : decode cX7_begin 41 = .ok (.istore 4, 2) := by decide +kernel
theorem dX7_begin_43 : decode cX7_begin 43 = .ok (.iload 4, 2) := by decide +kernel
theorem dX7_begin_45 : decode cX7_begin 45 = .ok (.ifCond .lt 18, 3) := by decide +kernel
theorem dX7_begin_48 : decode cX7_begin 48 = .ok (.iload_n 2, 1) := by decide +kernel
theorem dX7_begin_49 : decode cX7_begin 49 = .ok (.ifCond .lt 9, 3) := by decide +kernel
theorem dX7_begin_52 : decode cX7_begin 52 = .ok (.iload 4, 2) := by decide +kernel
theorem dX7_begin_54 : decode cX7_begin 54 = .ok (.iload_n 2, 1) := by decide +kernel
theorem dX7_begin_55 : decode cX7_begin 55 = .ok (.if_icmp .ge 8, 3) := by decide +kernel
theorem dX7_begin_58 : decode cX7_begin 58 = .ok (.iload 4, 2) := by decide +kernel
theorem dX7_begin_60 : decode cX7_begin 60 = .ok (.goto 4, 3) := by decide +kernel
theorem dX7_begin_63 : decode cX7_begin 63 = .ok (.iload_n 2, 1) := by decide +kernel
theorem dX7_begin_64 : decode cX7_begin 64 = .ok (.istore_n 2, 1) := by decide +kernel
theorem dX7_begin_65 : decode cX7_begin 65 = .ok (.iinc 3 1, 3) := by decide +kernel
theorem dX7_begin_68 : decode cX7_begin 68 = .ok (.goto (-38), 3) := by decide +kernel
theorem dX7_begin_71 : decode cX7_begin 71 = .ok (.iload_n 2, 1) := by decide +kernel
theorem dX7_begin_72 : decode cX7_begin 72 = .ok (.ifCond .lt 106, 3) := by decide +kernel
theorem dX7_begin_75 : decode cX7_begin 75 = .ok (.iload_n 2, 1) := by decide +kernel
theorem dX7_begin_76 : decode cX7_begin 76 = .ok (.bipush 32, 2) := by decide +kernel
theorem dX7_begin_78 : decode cX7_begin 78 = .ok (.irem, 1) := by decide +kernel
theorem dX7_begin_79 : decode cX7_begin 79 = .ok (.istore_n 3, 1) := by decide +kernel
theorem dX7_begin_80 : decode cX7_begin 80 = .ok (.bipush 92, 2) := by decide +kernel
theorem dX7_begin_82 : decode cX7_begin 82 = .ok (.iconst 4, 1) := by decide +kernel
theorem dX7_begin_83 : decode cX7_begin 83 = .ok (.aload_n 0, 1) := by decide +kernel
theorem dX7_begin_84 : decode cX7_begin 84 = .ok (.getfield 9, 3) := by decide +kernel
theorem dX7_begin_87 : decode cX7_begin 87 = .ok (.bipush 10, 2) := by decide +kernel
theorem dX7_begin_89 : decode cX7_begin 89 = .ok (.iaload, 1) := by decide +kernel
theorem dX7_begin_90 : decode cX7_begin 90 = .ok (.imul, 1) := by decide +kernel
theorem dX7_begin_91 : decode cX7_begin 91 = .ok (.iadd, 1) := by decide +kernel
theorem dX7_begin_92 : decode cX7_begin 92 = .ok (.istore 4, 2) := by decide +kernel
theorem dX7_begin_94 : decode cX7_begin 94 = .ok (.aload_n 0, 1) := by decide +kernel
theorem dX7_begin_95 : decode cX7_begin 95 = .ok (.getfield 9, 3) := by decide +kernel
theorem dX7_begin_98 : decode cX7_begin 98 = .ok (.iload 4, 2) := by decide +kernel
theorem dX7_begin_100 : decode cX7_begin 100 = .ok (.iload_n 3, 1) := by decide +kernel
theorem dX7_begin_101 : decode cX7_begin 101 = .ok (.iastore, 1) := by decide +kernel
theorem dX7_begin_102 : decode cX7_begin 102 = .ok (.aload_n 0, 1) := by decide +kernel
theorem dX7_begin_103 : decode cX7_begin 103 = .ok (.getfield 9, 3) := by decide +kernel
theorem dX7_begin_106 : decode cX7_begin 106 = .ok (.iload 4, 2) := by decide +kernel
theorem dX7_begin_108 : decode cX7_begin 108 = .ok (.iconst 1, 1) := by decide +kernel
theorem dX7_begin_109 : decode cX7_begin 109 = .ok (.iadd, 1) := by decide +kernel
theorem dX7_begin_110 : decode cX7_begin 110 = .ok (.aload_n 0, 1) := by decide +kernel
theorem dX7_begin_111 : decode cX7_begin 111 = .ok (.getfield 9, 3) := by decide +kernel
theorem dX7_begin_114 : decode cX7_begin 114 = .ok (.bipush 28, 2) := by decide +kernel
theorem dX7_begin_116 : decode cX7_begin 116 = .ok (.iload_n 3, 1) := by decide +kernel
theorem dX7_begin_117 : decode cX7_begin 117 = .ok (.iadd, 1) := by decide +kernel
theorem dX7_begin_118 : decode cX7_begin 118 = .ok (.iaload, 1) := by decide +kernel
theorem dX7_begin_119 : decode cX7_begin 119 = .ok (.iastore, 1) := by decide +kernel
theorem dX7_begin_120 : decode cX7_begin 120 = .ok (.aload_n 0, 1) := by decide +kernel
theorem dX7_begin_121 : decode cX7_begin 121 = .ok (.getfield 9, 3) := by decide +kernel
theorem dX7_begin_124 : decode cX7_begin 124 = .ok (.iload 4, 2) := by decide +kernel
theorem dX7_begin_126 : decode cX7_begin 126 = .ok (.iconst 2, 1) := by decide +kernel
theorem dX7_begin_127 : decode cX7_begin 127 = .ok (.iadd, 1) := by decide +kernel
theorem dX7_begin_128 : decode cX7_begin 128 = .ok (.aload_n 0, 1) := by decide +kernel
theorem dX7_begin_129 : decode cX7_begin 129 = .ok (.getfield 40, 3) := by decide +kernel
theorem dX7_begin_132 : decode cX7_begin 132 = .ok (.iload_n 3, 1) := by decide +kernel
theorem dX7_begin_133 : decode cX7_begin 133 = .ok (.iaload, 1) := by decide +kernel
theorem dX7_begin_134 : decode cX7_begin 134 = .ok (.iastore, 1) := by decide +kernel
theorem dX7_begin_135 : decode cX7_begin 135 = .ok (.aload_n 0, 1) := by decide +kernel
theorem dX7_begin_136 : decode cX7_begin 136 = .ok (.getfield 9, 3) := by decide +kernel
theorem dX7_begin_139 : decode cX7_begin 139 = .ok (.iload 4, 2) := by decide +kernel
theorem dX7_begin_141 : decode cX7_begin 141 = .ok (.iconst 3, 1) := by decide +kernel
theorem dX7_begin_142 : decode cX7_begin 142 = .ok (.iadd, 1) := by decide +kernel
theorem dX7_begin_143 : decode cX7_begin 143 = .ok (.iconst 0, 1) := by decide +kernel
theorem dX7_begin_144 : decode cX7_begin 144 = .ok (.iastore, 1) := by decide +kernel
theorem dX7_begin_145 : decode cX7_begin 145 = .ok (.aload_n 0, 1) := by decide +kernel
theorem dX7_begin_146 : decode cX7_begin 146 = .ok (.getfield 9, 3) := by decide +kernel
theorem dX7_begin_149 : decode cX7_begin 149 = .ok (.bipush 10, 2) := by decide +kernel
theorem dX7_begin_151 : decode cX7_begin 151 = .ok (.dup2, 1) := by decide +kernel
theorem dX7_begin_152 : decode cX7_begin 152 = .ok (.iaload, 1) := by decide +kernel
theorem dX7_begin_153 : decode cX7_begin 153 = .ok (.iconst 1, 1) := by decide +kernel
theorem dX7_begin_154 : decode cX7_begin 154 = .ok (.iadd, 1) := by decide +kernel
theorem dX7_begin_155 : decode cX7_begin 155 = .ok (.iastore, 1) := by decide +kernel
theorem dX7_begin_156 : decode cX7_begin 156 = .ok (.aload_n 0, 1) := by decide +kernel
theorem dX7_begin_157 : decode cX7_begin 157 = .ok (.getfield 9, 3) := by decide +kernel
theorem dX7_begin_160 : decode cX7_begin 160 = .ok (.iconst 4, 1) := by decide +kernel
theorem dX7_begin_161 : decode cX7_begin 161 = .ok (.dup2, 1) := by decide +kernel
theorem dX7_begin_162 : decode cX7_begin 162 = .ok (.iaload, 1) := by decide +kernel
theorem dX7_begin_163 : decode cX7_begin 163 = .ok (.iconst 1, 1) := by decide +kernel
theorem dX7_begin_164 : decode cX7_begin 164 = .ok (.iadd, 1) := by decide +kernel
theorem dX7_begin_165 : decode cX7_begin 165 = .ok (.iastore, 1) := by decide +kernel
theorem dX7_begin_166 : decode cX7_begin 166 = .ok (.aload_n 0, 1) := by decide +kernel
theorem dX7_begin_167 : decode cX7_begin 167 = .ok (.iconst 0, 1) := by decide +kernel
theorem dX7_begin_168 : decode cX7_begin 168 = .ok (.iload_n 3, 1) := by decide +kernel
theorem dX7_begin_169 : decode cX7_begin 169 = .ok (.aload_n 0, 1) := by decide +kernel
theorem dX7_begin_170 : decode cX7_begin 170 = .ok (.getfield 40, 3) := by decide +kernel
theorem dX7_begin_173 : decode cX7_begin 173 = .ok (.iload_n 3, 1) := by decide +kernel
theorem dX7_begin_174 : decode cX7_begin 174 = .ok (.iaload, 1) := by decide +kernel
theorem dX7_begin_175 : decode cX7_begin 175 = .ok (.invokevirtual 144, 3) := by decide +kernel
theorem dX7_begin_178 : decode cX7_begin 178 = .ok (.iload_n 2, 1) := by decide +kernel
theorem dX7_begin_179 : decode cX7_begin 179 = .ok (.ifCond .lt 23, 3) := by decide +kernel
theorem dX7_begin_182 : decode cX7_begin 182 = .ok (.aload_n 0, 1) := by decide +kernel
theorem dX7_begin_183 : decode cX7_begin 183 = .ok (.getfield 9, 3) := by decide +kernel
theorem dX7_begin_186 : decode cX7_begin 186 = .ok (.bipush 10, 2) := by decide +kernel
theorem dX7_begin_188 : decode cX7_begin 188 = .ok (.iaload, 1) := by decide +kernel
theorem dX7_begin_189 : decode cX7_begin 189 = .ok (.aload_n 0, 1) := by decide +kernel
theorem dX7_begin_190 : decode cX7_begin 190 = .ok (.getfield 9, 3) := by decide +kernel
theorem dX7_begin_193 : decode cX7_begin 193 = .ok (.iconst 1, 1) := by decide +kernel
theorem dX7_begin_194 : decode cX7_begin 194 = .ok (.iaload, 1) := by decide +kernel
theorem dX7_begin_195 : decode cX7_begin 195 = .ok (.if_icmp .ge 7, 3) := by decide +kernel
theorem dX7_begin_198 : decode cX7_begin 198 = .ok (.iconst 1, 1) := by decide +kernel
theorem dX7_begin_199 : decode cX7_begin 199 = .ok (.goto 4, 3) := by decide +kernel
theorem dX7_begin_202 : decode cX7_begin 202 = .ok (.iconst 0, 1) := by decide +kernel
theorem dX7_begin_203 : decode cX7_begin 203 = .ok (.istore_n 1, 1) := by decide +kernel
theorem dX7_begin_204 : decode cX7_begin 204 = .ok (.goto (-182), 3) := by decide +kernel
theorem dX7_begin_207 : decode cX7_begin 207 = .ok (.return_, 1) := by decide +kernel
theorem dX7_owned_0 : decode cX7_owned 0 = .ok (.iconst 0, 1) := by decide +kernel
theorem dX7_owned_1 : decode cX7_owned 1 = .ok (.istore_n 2, 1) := by decide +kernel
theorem dX7_owned_2 : decode cX7_owned 2 = .ok (.iconst 0, 1) := by decide +kernel
theorem dX7_owned_3 : decode cX7_owned 3 = .ok (.istore_n 3, 1) := by decide +kernel
theorem dX7_owned_4 : decode cX7_owned 4 = .ok (.iload_n 3, 1) := by decide +kernel
theorem dX7_owned_5 : decode cX7_owned 5 = .ok (.bipush 32, 2) := by decide +kernel
theorem dX7_owned_7 : decode cX7_owned 7 = .ok (.if_icmp .ge 30, 3) := by decide +kernel
theorem dX7_owned_10 : decode cX7_owned 10 = .ok (.iload_n 2, 1) := by decide +kernel
theorem dX7_owned_11 : decode cX7_owned 11 = .ok (.aload_n 0, 1) := by decide +kernel
theorem dX7_owned_12 : decode cX7_owned 12 = .ok (.getfield 9, 3) := by decide +kernel
theorem dX7_owned_15 : decode cX7_owned 15 = .ok (.bipush 28, 2) := by decide +kernel
theorem dX7_owned_17 : decode cX7_owned 17 = .ok (.iload_n 3, 1) := by decide +kernel
theorem dX7_owned_18 : decode cX7_owned 18 = .ok (.iadd, 1) := by decide +kernel
theorem dX7_owned_19 : decode cX7_owned 19 = .ok (.iaload, 1) := by decide +kernel
theorem dX7_owned_20 : decode cX7_owned 20 = .ok (.iload_n 1, 1) := by decide +kernel
theorem dX7_owned_21 : decode cX7_owned 21 = .ok (.if_icmp .ne 7, 3) := by decide +kernel
theorem dX7_owned_24 : decode cX7_owned 24 = .ok (.iconst 1, 1) := by decide +kernel
theorem dX7_owned_25 : decode cX7_owned 25 = .ok (.goto 4, 3) := by decide +kernel
theorem dX7_owned_28 : decode cX7_owned 28 = .ok (.iconst 0, 1) := by decide +kernel
theorem dX7_owned_29 : decode cX7_owned 29 = .ok (.iadd, 1) := by decide +kernel
theorem dX7_owned_30 : decode cX7_owned 30 = .ok (.istore_n 2, 1) := by decide +kernel
theorem dX7_owned_31 : decode cX7_owned 31 = .ok (.iinc 3 1, 3) := by decide +kernel
theorem dX7_owned_34 : decode cX7_owned 34 = .ok (.goto (-30), 3) := by decide +kernel
theorem dX7_owned_37 : decode cX7_owned 37 = .ok (.iload_n 2, 1) := by decide +kernel
theorem dX7_owned_38 : decode cX7_owned 38 = .ok (.ireturn, 1) := by decide +kernel
theorem dX7_tickOnce_0 : decode cX7_tickOnce 0 = .ok (.aload_n 0, 1) := by decide +kernel
theorem dX7_tickOnce_1 : decode cX7_tickOnce 1 = .ok (.invokevirtual 138, 3) := by decide +kernel
theorem dX7_tickOnce_4 : decode cX7_tickOnce 4 = .ok (.aload_n 0, 1) := by decide +kernel
theorem dX7_tickOnce_5 : decode cX7_tickOnce 5 = .ok (.getfield 9, 3) := by decide +kernel
theorem dX7_tickOnce_8 : decode cX7_tickOnce 8 = .ok (.iconst 3, 1) := by decide +kernel
theorem dX7_tickOnce_9 : decode cX7_tickOnce 9 = .ok (.dup2, 1) := by decide +kernel
theorem dX7_tickOnce_10 : decode cX7_tickOnce 10 = .ok (.iaload, 1) := by decide +kernel
theorem dX7_tickOnce_11 : decode cX7_tickOnce 11 = .ok (.iconst 1, 1) := by decide +kernel
theorem dX7_tickOnce_12 : decode cX7_tickOnce 12 = .ok (.iadd, 1) := by decide +kernel
theorem dX7_tickOnce_13 : decode cX7_tickOnce 13 = .ok (.iastore, 1) := by decide +kernel
theorem dX7_tickOnce_14 : decode cX7_tickOnce 14 = .ok (.aload_n 0, 1) := by decide +kernel
theorem dX7_tickOnce_15 : decode cX7_tickOnce 15 = .ok (.invokevirtual 166, 3) := by decide +kernel
theorem dX7_tickOnce_18 : decode cX7_tickOnce 18 = .ok (.aload_n 0, 1) := by decide +kernel
theorem dX7_tickOnce_19 : decode cX7_tickOnce 19 = .ok (.invokevirtual 169, 3) := by decide +kernel
theorem dX7_tickOnce_22 : decode cX7_tickOnce 22 = .ok (.aload_n 0, 1) := by decide +kernel
theorem dX7_tickOnce_23 : decode cX7_tickOnce 23 = .ok (.invokevirtual 172, 3) := by decide +kernel
theorem dX7_tickOnce_26 : decode cX7_tickOnce 26 = .ok (.iconst 0, 1) := by decide +kernel
theorem dX7_tickOnce_27 : decode cX7_tickOnce 27 = .ok (.istore_n 1, 1) := by decide +kernel
theorem dX7_tickOnce_28 : decode cX7_tickOnce 28 = .ok (.iload_n 1, 1) := by decide +kernel
theorem dX7_tickOnce_29 : decode cX7_tickOnce 29 = .ok (.bipush 8, 2) := by decide +kernel
theorem dX7_tickOnce_31 : decode cX7_tickOnce 31 = .ok (.if_icmp .ge 53, 3) := by decide +kernel
theorem dX7_tickOnce_34 : decode cX7_tickOnce 34 = .ok (.aload_n 0, 1) := by decide +kernel
theorem dX7_tickOnce_35 : decode cX7_tickOnce 35 = .ok (.iload_n 1, 1) := by decide +kernel
theorem dX7_tickOnce_36 : decode cX7_tickOnce 36 = .ok (.iconst 2, 1) := by decide +kernel
theorem dX7_tickOnce_37 : decode cX7_tickOnce 37 = .ok (.invokevirtual 79, 3) := by decide +kernel
theorem dX7_tickOnce_40 : decode cX7_tickOnce 40 = .ok (.ifCond .eq 38, 3) := by decide +kernel
theorem dX7_tickOnce_43 : decode cX7_tickOnce 43 = .ok (.aload_n 0, 1) := by decide +kernel
theorem dX7_tickOnce_44 : decode cX7_tickOnce 44 = .ok (.iload_n 1, 1) := by decide +kernel
theorem dX7_tickOnce_45 : decode cX7_tickOnce 45 = .ok (.invokevirtual 109, 3) := by decide +kernel
theorem dX7_tickOnce_48 : decode cX7_tickOnce 48 = .ok (.ifCond .ne 30, 3) := by decide +kernel
theorem dX7_tickOnce_51 : decode cX7_tickOnce 51 = .ok (.aload_n 0, 1) := by decide +kernel
theorem dX7_tickOnce_52 : decode cX7_tickOnce 52 = .ok (.getfield 9, 3) := by decide +kernel
theorem dX7_tickOnce_55 : decode cX7_tickOnce 55 = .ok (.bipush 12, 2) := by decide +kernel
theorem dX7_tickOnce_57 : decode cX7_tickOnce 57 = .ok (.iload_n 1, 1) := by decide +kernel
theorem dX7_tickOnce_58 : decode cX7_tickOnce 58 = .ok (.iadd, 1) := by decide +kernel
theorem dX7_tickOnce_59 : decode cX7_tickOnce 59 = .ok (.iconst 0, 1) := by decide +kernel
theorem dX7_tickOnce_60 : decode cX7_tickOnce 60 = .ok (.iastore, 1) := by decide +kernel
theorem dX7_tickOnce_61 : decode cX7_tickOnce 61 = .ok (.aload_n 0, 1) := by decide +kernel
theorem dX7_tickOnce_62 : decode cX7_tickOnce 62 = .ok (.getfield 9, 3) := by decide +kernel
theorem dX7_tickOnce_65 : decode cX7_tickOnce 65 = .ok (.bipush 20, 2) := by decide +kernel
theorem dX7_tickOnce_67 : decode cX7_tickOnce 67 = .ok (.iload_n 1, 1) := by decide +kernel
theorem dX7_tickOnce_68 : decode cX7_tickOnce 68 = .ok (.iadd, 1) := by decide +kernel
theorem dX7_tickOnce_69 : decode cX7_tickOnce 69 = .ok (.iconst 0, 1) := by decide +kernel
theorem dX7_tickOnce_70 : decode cX7_tickOnce 70 = .ok (.iastore, 1) := by decide +kernel
theorem dX7_tickOnce_71 : decode cX7_tickOnce 71 = .ok (.aload_n 0, 1) := by decide +kernel
theorem dX7_tickOnce_72 : decode cX7_tickOnce 72 = .ok (.iconst 4, 1) := by decide +kernel
theorem dX7_tickOnce_73 : decode cX7_tickOnce 73 = .ok (.iconst (-1), 1) := by decide +kernel
theorem dX7_tickOnce_74 : decode cX7_tickOnce 74 = .ok (.iload_n 1, 1) := by decide +kernel
theorem dX7_tickOnce_75 : decode cX7_tickOnce 75 = .ok (.invokevirtual 144, 3) := by decide +kernel
theorem dX7_tickOnce_78 : decode cX7_tickOnce 78 = .ok (.iinc 1 1, 3) := by decide +kernel
theorem dX7_tickOnce_81 : decode cX7_tickOnce 81 = .ok (.goto (-53), 3) := by decide +kernel
theorem dX7_tickOnce_84 : decode cX7_tickOnce 84 = .ok (.iconst 0, 1) := by decide +kernel
theorem dX7_tickOnce_85 : decode cX7_tickOnce 85 = .ok (.istore_n 1, 1) := by decide +kernel
theorem dX7_tickOnce_86 : decode cX7_tickOnce 86 = .ok (.iload_n 1, 1) := by decide +kernel
theorem dX7_tickOnce_87 : decode cX7_tickOnce 87 = .ok (.bipush 32, 2) := by decide +kernel
theorem dX7_tickOnce_89 : decode cX7_tickOnce 89 = .ok (.if_icmp .ge 32, 3) := by decide +kernel
theorem dX7_tickOnce_92 : decode cX7_tickOnce 92 = .ok (.aload_n 0, 1) := by decide +kernel
theorem dX7_tickOnce_93 : decode cX7_tickOnce 93 = .ok (.getfield 9, 3) := by decide +kernel
theorem dX7_tickOnce_96 : decode cX7_tickOnce 96 = .ok (.bipush 8, 2) := by decide +kernel
theorem dX7_tickOnce_98 : decode cX7_tickOnce 98 = .ok (.dup2, 1) := by decide +kernel
theorem dX7_tickOnce_99 : decode cX7_tickOnce 99 = .ok (.iaload, 1) := by decide +kernel
theorem dX7_tickOnce_100 : decode cX7_tickOnce 100 = .ok (.aload_n 0, 1) := by decide +kernel
theorem dX7_tickOnce_101 : decode cX7_tickOnce 101 = .ok (.iload_n 1, 1) := by decide +kernel
theorem dX7_tickOnce_102 : decode cX7_tickOnce 102 = .ok (.invokevirtual 141, 3) := by decide +kernel
theorem dX7_tickOnce_105 : decode cX7_tickOnce 105 = .ok (.ifCond .eq 7, 3) := by decide +kernel
theorem dX7_tickOnce_108 : decode cX7_tickOnce 108 = .ok (.iconst 0, 1) := by decide +kernel
theorem dX7_tickOnce_109 : decode cX7_tickOnce 109 = .ok (.goto 4, 3) := by decide +kernel
theorem dX7_tickOnce_112 : decode cX7_tickOnce 112 = .ok (.iconst 1, 1) := by decide +kernel
theorem dX7_tickOnce_113 : decode cX7_tickOnce 113 = .ok (.iadd, 1) := by decide +kernel
theorem dX7_tickOnce_114 : decode cX7_tickOnce 114 = .ok (.iastore, 1) := by decide +kernel
theorem dX7_tickOnce_115 : decode cX7_tickOnce 115 = .ok (.iinc 1 1, 3) := by decide +kernel
theorem dX7_tickOnce_118 : decode cX7_tickOnce 118 = .ok (.goto (-32), 3) := by decide +kernel
theorem dX7_tickOnce_121 : decode cX7_tickOnce 121 = .ok (.return_, 1) := by decide +kernel
theorem dX7_ticks_0 : decode cX7_ticks 0 = .ok (.iload_n 1, 1) := by decide +kernel
theorem dX7_ticks_1 : decode cX7_ticks 1 = .ok (.iconst 1, 1) := by decide +kernel
theorem dX7_ticks_2 : decode cX7_ticks 2 = .ok (.bipush 50, 2) := by decide +kernel
theorem dX7_ticks_4 : decode cX7_ticks 4 = .ok (.invokestatic 68, 3) := by decide +kernel
theorem dX7_ticks_7 : decode cX7_ticks 7 = .ok (.ifCond .ne 5, 3) := by decide +kernel
theorem dX7_ticks_10 : decode cX7_ticks 10 = .ok (.iconst 1, 1) := by decide +kernel
theorem dX7_ticks_11 : decode cX7_ticks 11 = .ok (.ireturn, 1) := by decide +kernel
theorem dX7_ticks_12 : decode cX7_ticks 12 = .ok (.iconst 0, 1) := by decide +kernel
theorem dX7_ticks_13 : decode cX7_ticks 13 = .ok (.istore_n 2, 1) := by decide +kernel
theorem dX7_ticks_14 : decode cX7_ticks 14 = .ok (.iload_n 2, 1) := by decide +kernel
theorem dX7_ticks_15 : decode cX7_ticks 15 = .ok (.iload_n 1, 1) := by decide +kernel
theorem dX7_ticks_16 : decode cX7_ticks 16 = .ok (.if_icmp .ge 13, 3) := by decide +kernel
theorem dX7_ticks_19 : decode cX7_ticks 19 = .ok (.aload_n 0, 1) := by decide +kernel
theorem dX7_ticks_20 : decode cX7_ticks 20 = .ok (.invokevirtual 90, 3) := by decide +kernel
theorem dX7_ticks_23 : decode cX7_ticks 23 = .ok (.iinc 2 1, 3) := by decide +kernel
theorem dX7_ticks_26 : decode cX7_ticks 26 = .ok (.goto (-12), 3) := by decide +kernel
theorem dX7_ticks_29 : decode cX7_ticks 29 = .ok (.iconst 0, 1) := by decide +kernel
theorem dX7_ticks_30 : decode cX7_ticks 30 = .ok (.ireturn, 1) := by decide +kernel
theorem dX7_done_0 : decode cX7_done 0 = .ok (.aload_n 0, 1) := by decide +kernel
theorem dX7_done_1 : decode cX7_done 1 = .ok (.iload_n 1, 1) := by decide +kernel
theorem dX7_done_2 : decode cX7_done 2 = .ok (.putfield 62, 3) := by decide +kernel
theorem dX7_done_5 : decode cX7_done 5 = .ok (.iload_n 1, 1) := by decide +kernel
theorem dX7_done_6 : decode cX7_done 6 = .ok (.ifCond .ne 11, 3) := by decide +kernel
theorem dX7_done_9 : decode cX7_done 9 = .ok (.aload_n 0, 1) := by decide +kernel
theorem dX7_done_10 : decode cX7_done 10 = .ok (.aload_n 0, 1) := by decide +kernel
theorem dX7_done_11 : decode cX7_done 11 = .ok (.getfield 16, 3) := by decide +kernel
theorem dX7_done_14 : decode cX7_done 14 = .ok (.invokevirtual 93, 3) := by decide +kernel
theorem dX7_done_17 : decode cX7_done 17 = .ok (.iload_n 1, 1) := by decide +kernel
theorem dX7_done_18 : decode cX7_done 18 = .ok (.ifCond .ne 7, 3) := by decide +kernel
theorem dX7_done_21 : decode cX7_done 21 = .ok (.iconst 1, 1) := by decide +kernel
theorem dX7_done_22 : decode cX7_done 22 = .ok (.goto 4, 3) := by decide +kernel
theorem dX7_done_25 : decode cX7_done 25 = .ok (.iconst 0, 1) := by decide +kernel
theorem dX7_done_26 : decode cX7_done 26 = .ok (.ireturn, 1) := by decide +kernel
theorem dX7_addNode_0 : decode cX7_addNode 0 = .ok (.aload_n 0, 1) := by decide +kernel
theorem dX7_addNode_1 : decode cX7_addNode 1 = .ok (.invokevirtual 97, 3) := by decide +kernel
theorem dX7_addNode_4 : decode cX7_addNode 4 = .ok (.aload_n 0, 1) := by decide +kernel
theorem dX7_addNode_5 : decode cX7_addNode 5 = .ok (.invokevirtual 83, 3) := by decide +kernel
theorem dX7_addNode_8 : decode cX7_addNode 8 = .ok (.istore_n 2, 1) := by decide +kernel
theorem dX7_addNode_9 : decode cX7_addNode 9 = .ok (.aload_n 0, 1) := by decide +kernel
theorem dX7_addNode_10 : decode cX7_addNode 10 = .ok (.aload_n 0, 1) := by decide +kernel
theorem dX7_addNode_11 : decode cX7_addNode 11 = .ok (.iload_n 1, 1) := by decide +kernel
theorem dX7_addNode_12 : decode cX7_addNode 12 = .ok (.invokevirtual 100, 3) := by decide +kernel
theorem dX7_addNode_15 : decode cX7_addNode 15 = .ok (.invokevirtual 103, 3) := by decide +kernel
theorem dX7_addNode_18 : decode cX7_addNode 18 = .ok (.ifCond .eq 7, 3) := by decide +kernel
theorem dX7_addNode_21 : decode cX7_addNode 21 = .ok (.iload_n 2, 1) := by decide +kernel
theorem dX7_addNode_22 : decode cX7_addNode 22 = .ok (.goto 4, 3) := by decide +kernel
theorem dX7_addNode_25 : decode cX7_addNode 25 = .ok (.iconst 0, 1) := by decide +kernel
theorem dX7_addNode_26 : decode cX7_addNode 26 = .ok (.ireturn, 1) := by decide +kernel
theorem dX7_drain_0 : decode cX7_drain 0 = .ok (.aload_n 0, 1) := by decide +kernel
theorem dX7_drain_1 : decode cX7_drain 1 = .ok (.invokevirtual 97, 3) := by decide +kernel
theorem dX7_drain_4 : decode cX7_drain 4 = .ok (.aload_n 0, 1) := by decide +kernel
theorem dX7_drain_5 : decode cX7_drain 5 = .ok (.aload_n 0, 1) := by decide +kernel
theorem dX7_drain_6 : decode cX7_drain 6 = .ok (.iload_n 1, 1) := by decide +kernel
theorem dX7_drain_7 : decode cX7_drain 7 = .ok (.invokevirtual 106, 3) := by decide +kernel
theorem dX7_drain_10 : decode cX7_drain 10 = .ok (.invokevirtual 103, 3) := by decide +kernel
theorem dX7_drain_13 : decode cX7_drain 13 = .ok (.ifCond .eq 11, 3) := by decide +kernel
theorem dX7_drain_16 : decode cX7_drain 16 = .ok (.aload_n 0, 1) := by decide +kernel
theorem dX7_drain_17 : decode cX7_drain 17 = .ok (.iload_n 1, 1) := by decide +kernel
theorem dX7_drain_18 : decode cX7_drain 18 = .ok (.invokevirtual 109, 3) := by decide +kernel
theorem dX7_drain_21 : decode cX7_drain 21 = .ok (.goto 4, 3) := by decide +kernel
theorem dX7_drain_24 : decode cX7_drain 24 = .ok (.iconst 0, 1) := by decide +kernel
theorem dX7_drain_25 : decode cX7_drain 25 = .ok (.ireturn, 1) := by decide +kernel
theorem dX7_fail_0 : decode cX7_fail 0 = .ok (.aload_n 0, 1) := by decide +kernel
theorem dX7_fail_1 : decode cX7_fail 1 = .ok (.invokevirtual 97, 3) := by decide +kernel
theorem dX7_fail_4 : decode cX7_fail 4 = .ok (.aload_n 0, 1) := by decide +kernel
theorem dX7_fail_5 : decode cX7_fail 5 = .ok (.aload_n 0, 1) := by decide +kernel
theorem dX7_fail_6 : decode cX7_fail 6 = .ok (.iload_n 1, 1) := by decide +kernel
theorem dX7_fail_7 : decode cX7_fail 7 = .ok (.invokevirtual 112, 3) := by decide +kernel
theorem dX7_fail_10 : decode cX7_fail 10 = .ok (.invokevirtual 103, 3) := by decide +kernel
theorem dX7_fail_13 : decode cX7_fail 13 = .ok (.ifCond .eq 11, 3) := by decide +kernel
theorem dX7_fail_16 : decode cX7_fail 16 = .ok (.aload_n 0, 1) := by decide +kernel
theorem dX7_fail_17 : decode cX7_fail 17 = .ok (.iload_n 1, 1) := by decide +kernel
theorem dX7_fail_18 : decode cX7_fail 18 = .ok (.invokevirtual 109, 3) := by decide +kernel
theorem dX7_fail_21 : decode cX7_fail 21 = .ok (.goto 4, 3) := by decide +kernel
theorem dX7_fail_24 : decode cX7_fail 24 = .ok (.iconst 0, 1) := by decide +kernel
theorem dX7_fail_25 : decode cX7_fail 25 = .ok (.ireturn, 1) := by decide +kernel
theorem dX7_recover_0 : decode cX7_recover 0 = .ok (.aload_n 0, 1) := by decide +kernel
theorem dX7_recover_1 : decode cX7_recover 1 = .ok (.invokevirtual 97, 3) := by decide +kernel
theorem dX7_recover_4 : decode cX7_recover 4 = .ok (.aload_n 0, 1) := by decide +kernel
theorem dX7_recover_5 : decode cX7_recover 5 = .ok (.aload_n 0, 1) := by decide +kernel
theorem dX7_recover_6 : decode cX7_recover 6 = .ok (.iload_n 1, 1) := by decide +kernel
theorem dX7_recover_7 : decode cX7_recover 7 = .ok (.invokevirtual 115, 3) := by decide +kernel
theorem dX7_recover_10 : decode cX7_recover 10 = .ok (.invokevirtual 103, 3) := by decide +kernel
theorem dX7_recover_13 : decode cX7_recover 13 = .ok (.ifCond .eq 15, 3) := by decide +kernel
theorem dX7_recover_16 : decode cX7_recover 16 = .ok (.aload_n 0, 1) := by decide +kernel
theorem dX7_recover_17 : decode cX7_recover 17 = .ok (.getfield 16, 3) := by decide +kernel
theorem dX7_recover_20 : decode cX7_recover 20 = .ok (.bipush 12, 2) := by decide +kernel
theorem dX7_recover_22 : decode cX7_recover 22 = .ok (.iload_n 1, 1) := by decide +kernel
theorem dX7_recover_23 : decode cX7_recover 23 = .ok (.iadd, 1) := by decide +kernel
theorem dX7_recover_24 : decode cX7_recover 24 = .ok (.iaload, 1) := by decide +kernel
theorem dX7_recover_25 : decode cX7_recover 25 = .ok (.goto 4, 3) := by decide +kernel
theorem dX7_recover_28 : decode cX7_recover 28 = .ok (.iconst 0, 1) := by decide +kernel
theorem dX7_recover_29 : decode cX7_recover 29 = .ok (.ireturn, 1) := by decide +kernel
theorem dX7_setWeight_0 : decode cX7_setWeight 0 = .ok (.aload_n 0, 1) := by decide +kernel
theorem dX7_setWeight_1 : decode cX7_setWeight 1 = .ok (.invokevirtual 97, 3) := by decide +kernel
theorem dX7_setWeight_4 : decode cX7_setWeight 4 = .ok (.aload_n 0, 1) := by decide +kernel
theorem dX7_setWeight_5 : decode cX7_setWeight 5 = .ok (.aload_n 0, 1) := by decide +kernel
theorem dX7_setWeight_6 : decode cX7_setWeight 6 = .ok (.iload_n 1, 1) := by decide +kernel
theorem dX7_setWeight_7 : decode cX7_setWeight 7 = .ok (.iload_n 2, 1) := by decide +kernel
theorem dX7_setWeight_8 : decode cX7_setWeight 8 = .ok (.invokevirtual 118, 3) := by decide +kernel
theorem dX7_setWeight_11 : decode cX7_setWeight 11 = .ok (.invokevirtual 103, 3) := by decide +kernel
theorem dX7_setWeight_14 : decode cX7_setWeight 14 = .ok (.ifCond .eq 15, 3) := by decide +kernel
theorem dX7_setWeight_17 : decode cX7_setWeight 17 = .ok (.aload_n 0, 1) := by decide +kernel
theorem dX7_setWeight_18 : decode cX7_setWeight 18 = .ok (.getfield 16, 3) := by decide +kernel
theorem dX7_setWeight_21 : decode cX7_setWeight 21 = .ok (.bipush 20, 2) := by decide +kernel
theorem dX7_setWeight_23 : decode cX7_setWeight 23 = .ok (.iload_n 1, 1) := by decide +kernel
theorem dX7_setWeight_24 : decode cX7_setWeight 24 = .ok (.iadd, 1) := by decide +kernel
theorem dX7_setWeight_25 : decode cX7_setWeight 25 = .ok (.iaload, 1) := by decide +kernel
theorem dX7_setWeight_26 : decode cX7_setWeight 26 = .ok (.goto 4, 3) := by decide +kernel
theorem dX7_setWeight_29 : decode cX7_setWeight 29 = .ok (.iconst 0, 1) := by decide +kernel
theorem dX7_setWeight_30 : decode cX7_setWeight 30 = .ok (.ireturn, 1) := by decide +kernel
theorem dX7_set_0 : decode cX7_set 0 = .ok (.aload_n 0, 1) := by decide +kernel
theorem dX7_set_1 : decode cX7_set 1 = .ok (.iconst 0, 1) := by decide +kernel
theorem dX7_set_2 : decode cX7_set 2 = .ok (.putfield 62, 3) := by decide +kernel
theorem dX7_set_5 : decode cX7_set 5 = .ok (.iload_n 1, 1) := by decide +kernel
theorem dX7_set_6 : decode cX7_set 6 = .ok (.ifCond .ne 7, 3) := by decide +kernel
theorem dX7_set_9 : decode cX7_set 9 = .ok (.iconst 0, 1) := by decide +kernel
theorem dX7_set_10 : decode cX7_set 10 = .ok (.goto 4, 3) := by decide +kernel
theorem dX7_set_13 : decode cX7_set 13 = .ok (.iconst 1, 1) := by decide +kernel
theorem dX7_set_14 : decode cX7_set 14 = .ok (.istore_n 3, 1) := by decide +kernel
theorem dX7_set_15 : decode cX7_set 15 = .ok (.iload_n 1, 1) := by decide +kernel
theorem dX7_set_16 : decode cX7_set 16 = .ok (.ifCond .ne 8, 3) := by decide +kernel
theorem dX7_set_19 : decode cX7_set 19 = .ok (.bipush 100, 2) := by decide +kernel
theorem dX7_set_21 : decode cX7_set 21 = .ok (.goto 15, 3) := by decide +kernel
theorem dX7_set_24 : decode cX7_set 24 = .ok (.iload_n 1, 1) := by decide +kernel
theorem dX7_set_25 : decode cX7_set 25 = .ok (.iconst 1, 1) := by decide +kernel
theorem dX7_set_26 : decode cX7_set 26 = .ok (.if_icmp .ne 8, 3) := by decide +kernel
theorem dX7_set_29 : decode cX7_set 29 = .ok (.bipush 8, 2) := by decide +kernel
theorem dX7_set_31 : decode cX7_set 31 = .ok (.goto 5, 3) := by decide +kernel
theorem dX7_set_34 : decode cX7_set 34 = .ok (.bipush 20, 2) := by decide +kernel
theorem dX7_set_36 : decode cX7_set 36 = .ok (.istore 4, 2) := by decide +kernel
theorem dX7_set_38 : decode cX7_set 38 = .ok (.iload_n 1, 1) := by decide +kernel
theorem dX7_set_39 : decode cX7_set 39 = .ok (.iconst 0, 1) := by decide +kernel
theorem dX7_set_40 : decode cX7_set 40 = .ok (.iconst 2, 1) := by decide +kernel
theorem dX7_set_41 : decode cX7_set 41 = .ok (.invokestatic 68, 3) := by decide +kernel
theorem dX7_set_44 : decode cX7_set 44 = .ok (.ifCond .eq 13, 3) := by decide +kernel
theorem dX7_set_47 : decode cX7_set 47 = .ok (.iload_n 2, 1) := by decide +kernel
theorem dX7_set_48 : decode cX7_set 48 = .ok (.iload_n 3, 1) := by decide +kernel
theorem dX7_set_49 : decode cX7_set 49 = .ok (.iload 4, 2) := by decide +kernel
theorem dX7_set_51 : decode cX7_set 51 = .ok (.invokestatic 68, 3) := by decide +kernel
theorem dX7_set_54 : decode cX7_set 54 = .ok (.ifCond .ne 9, 3) := by decide +kernel
theorem dX7_set_57 : decode cX7_set 57 = .ok (.aload_n 0, 1) := by decide +kernel
theorem dX7_set_58 : decode cX7_set 58 = .ok (.iconst 1, 1) := by decide +kernel
theorem dX7_set_59 : decode cX7_set 59 = .ok (.invokevirtual 122, 3) := by decide +kernel
theorem dX7_set_62 : decode cX7_set 62 = .ok (.ireturn, 1) := by decide +kernel
theorem dX7_set_63 : decode cX7_set 63 = .ok (.aload_n 0, 1) := by decide +kernel
theorem dX7_set_64 : decode cX7_set 64 = .ok (.aload_n 0, 1) := by decide +kernel
theorem dX7_set_65 : decode cX7_set 65 = .ok (.getfield 9, 3) := by decide +kernel
theorem dX7_set_68 : decode cX7_set 68 = .ok (.invokevirtual 93, 3) := by decide +kernel
theorem dX7_set_71 : decode cX7_set 71 = .ok (.aload_n 0, 1) := by decide +kernel
theorem dX7_set_72 : decode cX7_set 72 = .ok (.getfield 9, 3) := by decide +kernel
theorem dX7_set_75 : decode cX7_set 75 = .ok (.iconst 0, 1) := by decide +kernel
theorem dX7_set_76 : decode cX7_set 76 = .ok (.iload_n 1, 1) := by decide +kernel
theorem dX7_set_77 : decode cX7_set 77 = .ok (.iadd, 1) := by decide +kernel
theorem dX7_set_78 : decode cX7_set 78 = .ok (.iaload, 1) := by decide +kernel
theorem dX7_set_79 : decode cX7_set 79 = .ok (.istore 5, 2) := by decide +kernel
theorem dX7_set_81 : decode cX7_set 81 = .ok (.aload_n 0, 1) := by decide +kernel
theorem dX7_set_82 : decode cX7_set 82 = .ok (.getfield 9, 3) := by decide +kernel
theorem dX7_set_85 : decode cX7_set 85 = .ok (.iconst 0, 1) := by decide +kernel
theorem dX7_set_86 : decode cX7_set 86 = .ok (.iload_n 1, 1) := by decide +kernel
theorem dX7_set_87 : decode cX7_set 87 = .ok (.iadd, 1) := by decide +kernel
theorem dX7_set_88 : decode cX7_set 88 = .ok (.iload_n 2, 1) := by decide +kernel
theorem dX7_set_89 : decode cX7_set 89 = .ok (.iastore, 1) := by decide +kernel
theorem dX7_set_90 : decode cX7_set 90 = .ok (.iload 5, 2) := by decide +kernel
theorem dX7_set_92 : decode cX7_set 92 = .ok (.ireturn, 1) := by decide +kernel
theorem dX7_pendingNow_0 : decode cX7_pendingNow 0 = .ok (.aload_n 0, 1) := by decide +kernel
theorem dX7_pendingNow_1 : decode cX7_pendingNow 1 = .ok (.invokevirtual 138, 3) := by decide +kernel
theorem dX7_pendingNow_4 : decode cX7_pendingNow 4 = .ok (.iconst 0, 1) := by decide +kernel
theorem dX7_pendingNow_5 : decode cX7_pendingNow 5 = .ok (.istore_n 1, 1) := by decide +kernel
theorem dX7_pendingNow_6 : decode cX7_pendingNow 6 = .ok (.iconst 0, 1) := by decide +kernel
theorem dX7_pendingNow_7 : decode cX7_pendingNow 7 = .ok (.istore_n 2, 1) := by decide +kernel
theorem dX7_pendingNow_8 : decode cX7_pendingNow 8 = .ok (.iload_n 2, 1) := by decide +kernel
theorem dX7_pendingNow_9 : decode cX7_pendingNow 9 = .ok (.bipush 32, 2) := by decide +kernel
theorem dX7_pendingNow_11 : decode cX7_pendingNow 11 = .ok (.if_icmp .ge 47, 3) := by decide +kernel
theorem dX7_pendingNow_14 : decode cX7_pendingNow 14 = .ok (.iload_n 1, 1) := by decide +kernel
theorem dX7_pendingNow_15 : decode cX7_pendingNow 15 = .ok (.aload_n 0, 1) := by decide +kernel
theorem dX7_pendingNow_16 : decode cX7_pendingNow 16 = .ok (.getfield 9, 3) := by decide +kernel
theorem dX7_pendingNow_19 : decode cX7_pendingNow 19 = .ok (.bipush 28, 2) := by decide +kernel
theorem dX7_pendingNow_21 : decode cX7_pendingNow 21 = .ok (.iload_n 2, 1) := by decide +kernel
theorem dX7_pendingNow_22 : decode cX7_pendingNow 22 = .ok (.iadd, 1) := by decide +kernel
theorem dX7_pendingNow_23 : decode cX7_pendingNow 23 = .ok (.iaload, 1) := by decide +kernel
theorem dX7_pendingNow_24 : decode cX7_pendingNow 24 = .ok (.ifCond .lt 21, 3) := by decide +kernel
theorem dX7_pendingNow_27 : decode cX7_pendingNow 27 = .ok (.aload_n 0, 1) := by decide +kernel
theorem dX7_pendingNow_28 : decode cX7_pendingNow 28 = .ok (.getfield 9, 3) := by decide +kernel
theorem dX7_pendingNow_31 : decode cX7_pendingNow 31 = .ok (.bipush 28, 2) := by decide +kernel
theorem dX7_pendingNow_33 : decode cX7_pendingNow 33 = .ok (.iload_n 2, 1) := by decide +kernel
theorem dX7_pendingNow_34 : decode cX7_pendingNow 34 = .ok (.iadd, 1) := by decide +kernel
theorem dX7_pendingNow_35 : decode cX7_pendingNow 35 = .ok (.iaload, 1) := by decide +kernel
theorem dX7_pendingNow_36 : decode cX7_pendingNow 36 = .ok (.aload_n 0, 1) := by decide +kernel
theorem dX7_pendingNow_37 : decode cX7_pendingNow 37 = .ok (.getfield 40, 3) := by decide +kernel
theorem dX7_pendingNow_40 : decode cX7_pendingNow 40 = .ok (.iload_n 2, 1) := by decide +kernel
theorem dX7_pendingNow_41 : decode cX7_pendingNow 41 = .ok (.iaload, 1) := by decide +kernel
theorem dX7_pendingNow_42 : decode cX7_pendingNow 42 = .ok (.if_icmp .eq 7, 3) := by decide +kernel
theorem dX7_pendingNow_45 : decode cX7_pendingNow 45 = .ok (.iconst 1, 1) := by decide +kernel
theorem dX7_pendingNow_46 : decode cX7_pendingNow 46 = .ok (.goto 4, 3) := by decide +kernel
theorem dX7_pendingNow_49 : decode cX7_pendingNow 49 = .ok (.iconst 0, 1) := by decide +kernel
theorem dX7_pendingNow_50 : decode cX7_pendingNow 50 = .ok (.iadd, 1) := by decide +kernel
theorem dX7_pendingNow_51 : decode cX7_pendingNow 51 = .ok (.istore_n 1, 1) := by decide +kernel
theorem dX7_pendingNow_52 : decode cX7_pendingNow 52 = .ok (.iinc 2 1, 3) := by decide +kernel
theorem dX7_pendingNow_55 : decode cX7_pendingNow 55 = .ok (.goto (-47), 3) := by decide +kernel
theorem dX7_pendingNow_58 : decode cX7_pendingNow 58 = .ok (.iload_n 1, 1) := by decide +kernel
theorem dX7_pendingNow_59 : decode cX7_pendingNow 59 = .ok (.ireturn, 1) := by decide +kernel
theorem dX7_tick_0 : decode cX7_tick 0 = .ok (.aload_n 0, 1) := by decide +kernel
theorem dX7_tick_1 : decode cX7_tick 1 = .ok (.invokevirtual 97, 3) := by decide +kernel
theorem dX7_tick_4 : decode cX7_tick 4 = .ok (.aload_n 0, 1) := by decide +kernel
theorem dX7_tick_5 : decode cX7_tick 5 = .ok (.aload_n 0, 1) := by decide +kernel
theorem dX7_tick_6 : decode cX7_tick 6 = .ok (.iload_n 1, 1) := by decide +kernel
theorem dX7_tick_7 : decode cX7_tick 7 = .ok (.invokevirtual 175, 3) := by decide +kernel
theorem dX7_tick_10 : decode cX7_tick 10 = .ok (.invokevirtual 103, 3) := by decide +kernel
theorem dX7_tick_13 : decode cX7_tick 13 = .ok (.ifCond .eq 12, 3) := by decide +kernel
theorem dX7_tick_16 : decode cX7_tick 16 = .ok (.aload_n 0, 1) := by decide +kernel
theorem dX7_tick_17 : decode cX7_tick 17 = .ok (.getfield 9, 3) := by decide +kernel
theorem dX7_tick_20 : decode cX7_tick 20 = .ok (.iconst 3, 1) := by decide +kernel
theorem dX7_tick_21 : decode cX7_tick 21 = .ok (.iaload, 1) := by decide +kernel
theorem dX7_tick_22 : decode cX7_tick 22 = .ok (.goto 4, 3) := by decide +kernel
theorem dX7_tick_25 : decode cX7_tick 25 = .ok (.iconst 0, 1) := by decide +kernel
theorem dX7_tick_26 : decode cX7_tick 26 = .ok (.ireturn, 1) := by decide +kernel
theorem dX7_node_0 : decode cX7_node 0 = .ok (.aload_n 0, 1) := by decide +kernel
theorem dX7_node_1 : decode cX7_node 1 = .ok (.iload_n 1, 1) := by decide +kernel
theorem dX7_node_2 : decode cX7_node 2 = .ok (.invokestatic 72, 3) := by decide +kernel
theorem dX7_node_5 : decode cX7_node 5 = .ok (.ifCond .ne 7, 3) := by decide +kernel
theorem dX7_node_8 : decode cX7_node 8 = .ok (.iconst 1, 1) := by decide +kernel
theorem dX7_node_9 : decode cX7_node 9 = .ok (.goto 18, 3) := by decide +kernel
theorem dX7_node_12 : decode cX7_node 12 = .ok (.iload_n 2, 1) := by decide +kernel
theorem dX7_node_13 : decode cX7_node 13 = .ok (.iconst 0, 1) := by decide +kernel
theorem dX7_node_14 : decode cX7_node 14 = .ok (.bipush 6, 2) := by decide +kernel
theorem dX7_node_16 : decode cX7_node 16 = .ok (.invokestatic 68, 3) := by decide +kernel
theorem dX7_node_19 : decode cX7_node 19 = .ok (.ifCond .ne 7, 3) := by decide +kernel
theorem dX7_node_22 : decode cX7_node 22 = .ok (.iconst 2, 1) := by decide +kernel
theorem dX7_node_23 : decode cX7_node 23 = .ok (.goto 4, 3) := by decide +kernel
theorem dX7_node_26 : decode cX7_node 26 = .ok (.iconst 0, 1) := by decide +kernel
theorem dX7_node_27 : decode cX7_node 27 = .ok (.putfield 62, 3) := by decide +kernel
theorem dX7_node_30 : decode cX7_node 30 = .ok (.aload_n 0, 1) := by decide +kernel
theorem dX7_node_31 : decode cX7_node 31 = .ok (.getfield 62, 3) := by decide +kernel
theorem dX7_node_34 : decode cX7_node 34 = .ok (.ifCond .le 5, 3) := by decide +kernel
theorem dX7_node_37 : decode cX7_node 37 = .ok (.iconst 0, 1) := by decide +kernel
theorem dX7_node_38 : decode cX7_node 38 = .ok (.ireturn, 1) := by decide +kernel
theorem dX7_node_39 : decode cX7_node 39 = .ok (.aload_n 0, 1) := by decide +kernel
theorem dX7_node_40 : decode cX7_node 40 = .ok (.invokevirtual 138, 3) := by decide +kernel
theorem dX7_node_43 : decode cX7_node 43 = .ok (.iconst 0, 1) := by decide +kernel
theorem dX7_node_44 : decode cX7_node 44 = .ok (.istore_n 3, 1) := by decide +kernel
theorem dX7_node_45 : decode cX7_node 45 = .ok (.iconst 0, 1) := by decide +kernel
theorem dX7_node_46 : decode cX7_node 46 = .ok (.istore 4, 2) := by decide +kernel
theorem dX7_node_48 : decode cX7_node 48 = .ok (.iload 4, 2) := by decide +kernel
theorem dX7_node_50 : decode cX7_node 50 = .ok (.bipush 32, 2) := by decide +kernel
theorem dX7_node_52 : decode cX7_node 52 = .ok (.if_icmp .ge 37, 3) := by decide +kernel
theorem dX7_node_55 : decode cX7_node 55 = .ok (.iload_n 3, 1) := by decide +kernel
theorem dX7_node_56 : decode cX7_node 56 = .ok (.aload_n 0, 1) := by decide +kernel
theorem dX7_node_57 : decode cX7_node 57 = .ok (.getfield 9, 3) := by decide +kernel
theorem dX7_node_60 : decode cX7_node 60 = .ok (.bipush 28, 2) := by decide +kernel
theorem dX7_node_62 : decode cX7_node 62 = .ok (.iload 4, 2) := by decide +kernel
theorem dX7_node_64 : decode cX7_node 64 = .ok (.iadd, 1) := by decide +kernel
theorem dX7_node_65 : decode cX7_node 65 = .ok (.iaload, 1) := by decide +kernel
theorem dX7_node_66 : decode cX7_node 66 = .ok (.iload_n 1, 1) := by decide +kernel
theorem dX7_node_67 : decode cX7_node 67 = .ok (.if_icmp .ne 13, 3) := by decide +kernel
theorem dX7_node_70 : decode cX7_node 70 = .ok (.aload_n 0, 1) := by decide +kernel
theorem dX7_node_71 : decode cX7_node 71 = .ok (.getfield 22, 3) := by decide +kernel
theorem dX7_node_74 : decode cX7_node 74 = .ok (.iload 4, 2) := by decide +kernel
theorem dX7_node_76 : decode cX7_node 76 = .ok (.iaload, 1) := by decide +kernel
theorem dX7_node_77 : decode cX7_node 77 = .ok (.goto 4, 3) := by decide +kernel
theorem dX7_node_80 : decode cX7_node 80 = .ok (.iconst 0, 1) := by decide +kernel
theorem dX7_node_81 : decode cX7_node 81 = .ok (.iadd, 1) := by decide +kernel
theorem dX7_node_82 : decode cX7_node 82 = .ok (.istore_n 3, 1) := by decide +kernel
theorem dX7_node_83 : decode cX7_node 83 = .ok (.iinc 4 1, 3) := by decide +kernel
theorem dX7_node_86 : decode cX7_node 86 = .ok (.goto (-38), 3) := by decide +kernel
theorem dX7_node_89 : decode cX7_node 89 = .ok (.iload_n 2, 1) := by decide +kernel
theorem dX7_node_90 : decode cX7_node 90 = .ok (.tableswitch 93 0 5 #[38, 48, 71, 78, 84, 91], 38) := by decide +kernel
theorem dX7_node_128 : decode cX7_node 128 = .ok (.aload_n 0, 1) := by decide +kernel
theorem dX7_node_129 : decode cX7_node 129 = .ok (.getfield 9, 3) := by decide +kernel
theorem dX7_node_132 : decode cX7_node 132 = .ok (.bipush 12, 2) := by decide +kernel
theorem dX7_node_134 : decode cX7_node 134 = .ok (.iload_n 1, 1) := by decide +kernel
theorem dX7_node_135 : decode cX7_node 135 = .ok (.iadd, 1) := by decide +kernel
theorem dX7_node_136 : decode cX7_node 136 = .ok (.iaload, 1) := by decide +kernel
theorem dX7_node_137 : decode cX7_node 137 = .ok (.ireturn, 1) := by decide +kernel
theorem dX7_node_138 : decode cX7_node 138 = .ok (.aload_n 0, 1) := by decide +kernel
theorem dX7_node_139 : decode cX7_node 139 = .ok (.iload_n 1, 1) := by decide +kernel
theorem dX7_node_140 : decode cX7_node 140 = .ok (.iconst 0, 1) := by decide +kernel
theorem dX7_node_141 : decode cX7_node 141 = .ok (.invokevirtual 79, 3) := by decide +kernel
theorem dX7_node_144 : decode cX7_node 144 = .ok (.ifCond .eq 7, 3) := by decide +kernel
theorem dX7_node_147 : decode cX7_node 147 = .ok (.iconst 0, 1) := by decide +kernel
theorem dX7_node_148 : decode cX7_node 148 = .ok (.goto 12, 3) := by decide +kernel
theorem dX7_node_151 : decode cX7_node 151 = .ok (.aload_n 0, 1) := by decide +kernel
theorem dX7_node_152 : decode cX7_node 152 = .ok (.getfield 9, 3) := by decide +kernel
theorem dX7_node_155 : decode cX7_node 155 = .ok (.bipush 20, 2) := by decide +kernel
theorem dX7_node_157 : decode cX7_node 157 = .ok (.iload_n 1, 1) := by decide +kernel
theorem dX7_node_158 : decode cX7_node 158 = .ok (.iadd, 1) := by decide +kernel
theorem dX7_node_159 : decode cX7_node 159 = .ok (.iaload, 1) := by decide +kernel
theorem dX7_node_160 : decode cX7_node 160 = .ok (.ireturn, 1) := by decide +kernel
theorem dX7_node_161 : decode cX7_node 161 = .ok (.aload_n 0, 1) := by decide +kernel
theorem dX7_node_162 : decode cX7_node 162 = .ok (.getfield 37, 3) := by decide +kernel
theorem dX7_node_165 : decode cX7_node 165 = .ok (.iload_n 1, 1) := by decide +kernel
theorem dX7_node_166 : decode cX7_node 166 = .ok (.iaload, 1) := by decide +kernel
theorem dX7_node_167 : decode cX7_node 167 = .ok (.ireturn, 1) := by decide +kernel
theorem dX7_node_168 : decode cX7_node 168 = .ok (.aload_n 0, 1) := by decide +kernel
theorem dX7_node_169 : decode cX7_node 169 = .ok (.iload_n 1, 1) := by decide +kernel
theorem dX7_node_170 : decode cX7_node 170 = .ok (.invokevirtual 109, 3) := by decide +kernel
theorem dX7_node_173 : decode cX7_node 173 = .ok (.ireturn, 1) := by decide +kernel
theorem dX7_node_174 : decode cX7_node 174 = .ok (.aload_n 0, 1) := by decide +kernel
theorem dX7_node_175 : decode cX7_node 175 = .ok (.getfield 46, 3) := by decide +kernel
theorem dX7_node_178 : decode cX7_node 178 = .ok (.iload_n 1, 1) := by decide +kernel
theorem dX7_node_179 : decode cX7_node 179 = .ok (.iaload, 1) := by decide +kernel
theorem dX7_node_180 : decode cX7_node 180 = .ok (.ireturn, 1) := by decide +kernel
theorem dX7_node_181 : decode cX7_node 181 = .ok (.iload_n 3, 1) := by decide +kernel
theorem dX7_node_182 : decode cX7_node 182 = .ok (.ireturn, 1) := by decide +kernel
theorem dX7_node_183 : decode cX7_node 183 = .ok (.aload_n 0, 1) := by decide +kernel
theorem dX7_node_184 : decode cX7_node 184 = .ok (.iload_n 1, 1) := by decide +kernel
theorem dX7_node_185 : decode cX7_node 185 = .ok (.invokevirtual 160, 3) := by decide +kernel
theorem dX7_node_188 : decode cX7_node 188 = .ok (.ireturn, 1) := by decide +kernel
theorem dX7_nodes_0 : decode cX7_nodes 0 = .ok (.aload_n 0, 1) := by decide +kernel
theorem dX7_nodes_1 : decode cX7_nodes 1 = .ok (.iload_n 1, 1) := by decide +kernel
theorem dX7_nodes_2 : decode cX7_nodes 2 = .ok (.iconst 0, 1) := by decide +kernel
theorem dX7_nodes_3 : decode cX7_nodes 3 = .ok (.iconst 3, 1) := by decide +kernel
theorem dX7_nodes_4 : decode cX7_nodes 4 = .ok (.invokestatic 68, 3) := by decide +kernel
theorem dX7_nodes_7 : decode cX7_nodes 7 = .ok (.ifCond .eq 7, 3) := by decide +kernel
theorem dX7_nodes_10 : decode cX7_nodes 10 = .ok (.iconst 0, 1) := by decide +kernel
theorem dX7_nodes_11 : decode cX7_nodes 11 = .ok (.goto 4, 3) := by decide +kernel
theorem dX7_nodes_14 : decode cX7_nodes 14 = .ok (.iconst 1, 1) := by decide +kernel
theorem dX7_nodes_15 : decode cX7_nodes 15 = .ok (.putfield 62, 3) := by decide +kernel
theorem dX7_nodes_18 : decode cX7_nodes 18 = .ok (.iconst 0, 1) := by decide +kernel
theorem dX7_nodes_19 : decode cX7_nodes 19 = .ok (.istore_n 2, 1) := by decide +kernel
theorem dX7_nodes_20 : decode cX7_nodes 20 = .ok (.iconst 0, 1) := by decide +kernel
theorem dX7_nodes_21 : decode cX7_nodes 21 = .ok (.istore_n 3, 1) := by decide +kernel
theorem dX7_nodes_22 : decode cX7_nodes 22 = .ok (.iload_n 3, 1) := by decide +kernel
theorem dX7_nodes_23 : decode cX7_nodes 23 = .ok (.bipush 8, 2) := by decide +kernel
theorem dX7_nodes_25 : decode cX7_nodes 25 = .ok (.if_icmp .ge 35, 3) := by decide +kernel
theorem dX7_nodes_28 : decode cX7_nodes 28 = .ok (.aload_n 0, 1) := by decide +kernel
theorem dX7_nodes_29 : decode cX7_nodes 29 = .ok (.getfield 62, 3) := by decide +kernel
theorem dX7_nodes_32 : decode cX7_nodes 32 = .ok (.ifCond .ne 28, 3) := by decide +kernel
theorem dX7_nodes_35 : decode cX7_nodes 35 = .ok (.iload_n 2, 1) := by decide +kernel
theorem dX7_nodes_36 : decode cX7_nodes 36 = .ok (.aload_n 0, 1) := by decide +kernel
theorem dX7_nodes_37 : decode cX7_nodes 37 = .ok (.iload_n 3, 1) := by decide +kernel
theorem dX7_nodes_38 : decode cX7_nodes 38 = .ok (.iload_n 1, 1) := by decide +kernel
theorem dX7_nodes_39 : decode cX7_nodes 39 = .ok (.invokevirtual 79, 3) := by decide +kernel
theorem dX7_nodes_42 : decode cX7_nodes 42 = .ok (.ifCond .eq 9, 3) := by decide +kernel
theorem dX7_nodes_45 : decode cX7_nodes 45 = .ok (.iconst 1, 1) := by decide +kernel
theorem dX7_nodes_46 : decode cX7_nodes 46 = .ok (.iload_n 3, 1) := by decide +kernel
theorem dX7_nodes_47 : decode cX7_nodes 47 = .ok (.ishl, 1) := by decide +kernel
theorem dX7_nodes_48 : decode cX7_nodes 48 = .ok (.goto 4, 3) := by decide +kernel
theorem dX7_nodes_51 : decode cX7_nodes 51 = .ok (.iconst 0, 1) := by decide +kernel
theorem dX7_nodes_52 : decode cX7_nodes 52 = .ok (.ior, 1) := by decide +kernel
theorem dX7_nodes_53 : decode cX7_nodes 53 = .ok (.istore_n 2, 1) := by decide +kernel
theorem dX7_nodes_54 : decode cX7_nodes 54 = .ok (.iinc 3 1, 3) := by decide +kernel
theorem dX7_nodes_57 : decode cX7_nodes 57 = .ok (.goto (-35), 3) := by decide +kernel
theorem dX7_nodes_60 : decode cX7_nodes 60 = .ok (.iload_n 2, 1) := by decide +kernel
theorem dX7_nodes_61 : decode cX7_nodes 61 = .ok (.ireturn, 1) := by decide +kernel
theorem dX7_points_0 : decode cX7_points 0 = .ok (.aload_n 0, 1) := by decide +kernel
theorem dX7_points_1 : decode cX7_points 1 = .ok (.iconst 0, 1) := by decide +kernel
theorem dX7_points_2 : decode cX7_points 2 = .ok (.putfield 62, 3) := by decide +kernel
theorem dX7_points_5 : decode cX7_points 5 = .ok (.aload_n 0, 1) := by decide +kernel
theorem dX7_points_6 : decode cX7_points 6 = .ok (.invokevirtual 132, 3) := by decide +kernel
theorem dX7_points_9 : decode cX7_points 9 = .ok (.aload_n 0, 1) := by decide +kernel
theorem dX7_points_10 : decode cX7_points 10 = .ok (.getfield 125, 3) := by decide +kernel
theorem dX7_points_13 : decode cX7_points 13 = .ok (.ireturn, 1) := by decide +kernel
theorem dX7_point_0 : decode cX7_point 0 = .ok (.aload_n 0, 1) := by decide +kernel
theorem dX7_point_1 : decode cX7_point 1 = .ok (.invokevirtual 132, 3) := by decide +kernel
theorem dX7_point_4 : decode cX7_point 4 = .ok (.aload_n 0, 1) := by decide +kernel
theorem dX7_point_5 : decode cX7_point 5 = .ok (.iload_n 1, 1) := by decide +kernel
theorem dX7_point_6 : decode cX7_point 6 = .ok (.iconst 0, 1) := by decide +kernel
theorem dX7_point_7 : decode cX7_point 7 = .ok (.aload_n 0, 1) := by decide +kernel
theorem dX7_point_8 : decode cX7_point 8 = .ok (.getfield 125, 3) := by decide +kernel
theorem dX7_point_11 : decode cX7_point 11 = .ok (.iconst 1, 1) := by decide +kernel
theorem dX7_point_12 : decode cX7_point 12 = .ok (.isub, 1) := by decide +kernel
theorem dX7_point_13 : decode cX7_point 13 = .ok (.invokestatic 68, 3) := by decide +kernel
theorem dX7_point_16 : decode cX7_point 16 = .ok (.ifCond .ne 7, 3) := by decide +kernel
theorem dX7_point_19 : decode cX7_point 19 = .ok (.iconst 1, 1) := by decide +kernel
theorem dX7_point_20 : decode cX7_point 20 = .ok (.goto 17, 3) := by decide +kernel
theorem dX7_point_23 : decode cX7_point 23 = .ok (.iload_n 2, 1) := by decide +kernel
theorem dX7_point_24 : decode cX7_point 24 = .ok (.iconst 0, 1) := by decide +kernel
theorem dX7_point_25 : decode cX7_point 25 = .ok (.iconst 2, 1) := by decide +kernel
theorem dX7_point_26 : decode cX7_point 26 = .ok (.invokestatic 68, 3) := by decide +kernel
theorem dX7_point_29 : decode cX7_point 29 = .ok (.ifCond .ne 7, 3) := by decide +kernel
theorem dX7_point_32 : decode cX7_point 32 = .ok (.iconst 2, 1) := by decide +kernel
theorem dX7_point_33 : decode cX7_point 33 = .ok (.goto 4, 3) := by decide +kernel
theorem dX7_point_36 : decode cX7_point 36 = .ok (.iconst 0, 1) := by decide +kernel
theorem dX7_point_37 : decode cX7_point 37 = .ok (.putfield 62, 3) := by decide +kernel
theorem dX7_point_40 : decode cX7_point 40 = .ok (.aload_n 0, 1) := by decide +kernel
theorem dX7_point_41 : decode cX7_point 41 = .ok (.getfield 62, 3) := by decide +kernel
theorem dX7_point_44 : decode cX7_point 44 = .ok (.ifCond .le 7, 3) := by decide +kernel
theorem dX7_point_47 : decode cX7_point 47 = .ok (.iconst 0, 1) := by decide +kernel
theorem dX7_point_48 : decode cX7_point 48 = .ok (.goto 36, 3) := by decide +kernel
theorem dX7_point_51 : decode cX7_point 51 = .ok (.iload_n 2, 1) := by decide +kernel
theorem dX7_point_52 : decode cX7_point 52 = .ok (.ifCond .ne 12, 3) := by decide +kernel
theorem dX7_point_55 : decode cX7_point 55 = .ok (.aload_n 0, 1) := by decide +kernel
theorem dX7_point_56 : decode cX7_point 56 = .ok (.getfield 28, 3) := by decide +kernel
theorem dX7_point_59 : decode cX7_point 59 = .ok (.iload_n 1, 1) := by decide +kernel
theorem dX7_point_60 : decode cX7_point 60 = .ok (.iaload, 1) := by decide +kernel
theorem dX7_point_61 : decode cX7_point 61 = .ok (.goto 23, 3) := by decide +kernel
theorem dX7_point_64 : decode cX7_point 64 = .ok (.iload_n 2, 1) := by decide +kernel
theorem dX7_point_65 : decode cX7_point 65 = .ok (.iconst 1, 1) := by decide +kernel
theorem dX7_point_66 : decode cX7_point 66 = .ok (.if_icmp .ne 12, 3) := by decide +kernel
theorem dX7_point_69 : decode cX7_point 69 = .ok (.aload_n 0, 1) := by decide +kernel
theorem dX7_point_70 : decode cX7_point 70 = .ok (.getfield 31, 3) := by decide +kernel
theorem dX7_point_73 : decode cX7_point 73 = .ok (.iload_n 1, 1) := by decide +kernel
theorem dX7_point_74 : decode cX7_point 74 = .ok (.iaload, 1) := by decide +kernel
theorem dX7_point_75 : decode cX7_point 75 = .ok (.goto 9, 3) := by decide +kernel
theorem dX7_point_78 : decode cX7_point 78 = .ok (.aload_n 0, 1) := by decide +kernel
theorem dX7_point_79 : decode cX7_point 79 = .ok (.getfield 34, 3) := by decide +kernel
theorem dX7_point_82 : decode cX7_point 82 = .ok (.iload_n 1, 1) := by decide +kernel
theorem dX7_point_83 : decode cX7_point 83 = .ok (.iaload, 1) := by decide +kernel
theorem dX7_point_84 : decode cX7_point 84 = .ok (.ireturn, 1) := by decide +kernel
theorem dX7_successor_0 : decode cX7_successor 0 = .ok (.aload_n 0, 1) := by decide +kernel
theorem dX7_successor_1 : decode cX7_successor 1 = .ok (.invokevirtual 132, 3) := by decide +kernel
theorem dX7_successor_4 : decode cX7_successor 4 = .ok (.aload_n 0, 1) := by decide +kernel
theorem dX7_successor_5 : decode cX7_successor 5 = .ok (.iload_n 1, 1) := by decide +kernel
theorem dX7_successor_6 : decode cX7_successor 6 = .ok (.iconst 0, 1) := by decide +kernel
theorem dX7_successor_7 : decode cX7_successor 7 = .ok (.sipush 1023, 3) := by decide +kernel
theorem dX7_successor_10 : decode cX7_successor 10 = .ok (.invokestatic 68, 3) := by decide +kernel
theorem dX7_successor_13 : decode cX7_successor 13 = .ok (.ifCond .ne 7, 3) := by decide +kernel
theorem dX7_successor_16 : decode cX7_successor 16 = .ok (.iconst 1, 1) := by decide +kernel
theorem dX7_successor_17 : decode cX7_successor 17 = .ok (.goto 15, 3) := by decide +kernel
theorem dX7_successor_20 : decode cX7_successor 20 = .ok (.aload_n 0, 1) := by decide +kernel
theorem dX7_successor_21 : decode cX7_successor 21 = .ok (.getfield 125, 3) := by decide +kernel
theorem dX7_successor_24 : decode cX7_successor 24 = .ok (.ifCond .ne 7, 3) := by decide +kernel
theorem dX7_successor_27 : decode cX7_successor 27 = .ok (.iconst 2, 1) := by decide +kernel
theorem dX7_successor_28 : decode cX7_successor 28 = .ok (.goto 4, 3) := by decide +kernel
theorem dX7_successor_31 : decode cX7_successor 31 = .ok (.iconst 0, 1) := by decide +kernel
theorem dX7_successor_32 : decode cX7_successor 32 = .ok (.putfield 62, 3) := by decide +kernel
theorem dX7_successor_35 : decode cX7_successor 35 = .ok (.aload_n 0, 1) := by decide +kernel
theorem dX7_successor_36 : decode cX7_successor 36 = .ok (.getfield 62, 3) := by decide +kernel
theorem dX7_successor_39 : decode cX7_successor 39 = .ok (.ifCond .le 7, 3) := by decide +kernel
theorem dX7_successor_42 : decode cX7_successor 42 = .ok (.iconst 0, 1) := by decide +kernel
theorem dX7_successor_43 : decode cX7_successor 43 = .ok (.goto 8, 3) := by decide +kernel
theorem dX7_successor_46 : decode cX7_successor 46 = .ok (.aload_n 0, 1) := by decide +kernel
theorem dX7_successor_47 : decode cX7_successor 47 = .ok (.iload_n 1, 1) := by decide +kernel
theorem dX7_successor_48 : decode cX7_successor 48 = .ok (.invokevirtual 135, 3) := by decide +kernel
theorem dX7_successor_51 : decode cX7_successor 51 = .ok (.ireturn, 1) := by decide +kernel
theorem dX7_shard_0 : decode cX7_shard 0 = .ok (.aload_n 0, 1) := by decide +kernel
theorem dX7_shard_1 : decode cX7_shard 1 = .ok (.iload_n 1, 1) := by decide +kernel
theorem dX7_shard_2 : decode cX7_shard 2 = .ok (.iconst 0, 1) := by decide +kernel
theorem dX7_shard_3 : decode cX7_shard 3 = .ok (.bipush 31, 2) := by decide +kernel
theorem dX7_shard_5 : decode cX7_shard 5 = .ok (.invokestatic 68, 3) := by decide +kernel
theorem dX7_shard_8 : decode cX7_shard 8 = .ok (.ifCond .ne 7, 3) := by decide +kernel
theorem dX7_shard_11 : decode cX7_shard 11 = .ok (.iconst 1, 1) := by decide +kernel
theorem dX7_shard_12 : decode cX7_shard 12 = .ok (.goto 18, 3) := by decide +kernel
theorem dX7_shard_15 : decode cX7_shard 15 = .ok (.iload_n 2, 1) := by decide +kernel
theorem dX7_shard_16 : decode cX7_shard 16 = .ok (.iconst 0, 1) := by decide +kernel
theorem dX7_shard_17 : decode cX7_shard 17 = .ok (.bipush 7, 2) := by decide +kernel
theorem dX7_shard_19 : decode cX7_shard 19 = .ok (.invokestatic 68, 3) := by decide +kernel
theorem dX7_shard_22 : decode cX7_shard 22 = .ok (.ifCond .ne 7, 3) := by decide +kernel
theorem dX7_shard_25 : decode cX7_shard 25 = .ok (.iconst 2, 1) := by decide +kernel
theorem dX7_shard_26 : decode cX7_shard 26 = .ok (.goto 4, 3) := by decide +kernel
theorem dX7_shard_29 : decode cX7_shard 29 = .ok (.iconst 0, 1) := by decide +kernel
theorem dX7_shard_30 : decode cX7_shard 30 = .ok (.putfield 62, 3) := by decide +kernel
theorem dX7_shard_33 : decode cX7_shard 33 = .ok (.aload_n 0, 1) := by decide +kernel
theorem dX7_shard_34 : decode cX7_shard 34 = .ok (.getfield 62, 3) := by decide +kernel
theorem dX7_shard_37 : decode cX7_shard 37 = .ok (.ifCond .le 5, 3) := by decide +kernel
theorem dX7_shard_40 : decode cX7_shard 40 = .ok (.iconst 0, 1) := by decide +kernel
theorem dX7_shard_41 : decode cX7_shard 41 = .ok (.ireturn, 1) := by decide +kernel
theorem dX7_shard_42 : decode cX7_shard 42 = .ok (.aload_n 0, 1) := by decide +kernel
theorem dX7_shard_43 : decode cX7_shard 43 = .ok (.invokevirtual 138, 3) := by decide +kernel
theorem dX7_shard_46 : decode cX7_shard 46 = .ok (.iload_n 2, 1) := by decide +kernel
theorem dX7_shard_47 : decode cX7_shard 47 = .ok (.tableswitch 118 0 6 #[41, 48, 55, 62, 72, 98, 112], 41) := by decide +kernel
theorem dX7_shard_88 : decode cX7_shard 88 = .ok (.aload_n 0, 1) := by decide +kernel
theorem dX7_shard_89 : decode cX7_shard 89 = .ok (.getfield 25, 3) := by decide +kernel
theorem dX7_shard_92 : decode cX7_shard 92 = .ok (.iload_n 1, 1) := by decide +kernel
theorem dX7_shard_93 : decode cX7_shard 93 = .ok (.iaload, 1) := by decide +kernel
theorem dX7_shard_94 : decode cX7_shard 94 = .ok (.ireturn, 1) := by decide +kernel
theorem dX7_shard_95 : decode cX7_shard 95 = .ok (.aload_n 0, 1) := by decide +kernel
theorem dX7_shard_96 : decode cX7_shard 96 = .ok (.getfield 22, 3) := by decide +kernel
theorem dX7_shard_99 : decode cX7_shard 99 = .ok (.iload_n 1, 1) := by decide +kernel
theorem dX7_shard_100 : decode cX7_shard 100 = .ok (.iaload, 1) := by decide +kernel
theorem dX7_shard_101 : decode cX7_shard 101 = .ok (.ireturn, 1) := by decide +kernel
theorem dX7_shard_102 : decode cX7_shard 102 = .ok (.aload_n 0, 1) := by decide +kernel
