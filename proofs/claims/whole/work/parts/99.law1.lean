/-! ===== printed by wip/whole/gen99.py: the instructions of the law ===== -/
def zLdk (c : ByteArray) (L : List (Nat × Instr × Nat)) : Bool := L.all fun q => decide (decode c q.1 = .ok (q.2.1, q.2.2))
theorem zLdk_at {c : ByteArray} {L : List (Nat × Instr × Nat)} (h : zLdk c L = true) {pc n k : Nat} {i : Instr} (hk : L[k]? = some (pc, i, n)) : decode c pc = .ok (i, n) := by
  have h1 := List.all_eq_true.mp h _ (List.mem_of_getElem? hk)
  exact of_decide_eq_true h1
def zLd_0 : List (Nat × Instr × Nat) := [(0, .new 8, 3), (3, .dup, 1), (4, .invokespecial 101, 3), (7, .astore_n 1, 1), (8, .new 102, 3), (11, .dup, 1), (12, .invokespecial 104, 3), (15, .astore_n 2, 1), (16, .iconst 1, 1), (17, .newarray .long, 2), (19, .astore_n 3, 1), (20, .iconst 1, 1), (21, .newarray .double, 2), (23, .astore 4, 2), (25, .iconst 0, 1), (26, .istore 5, 2), (28, .iload 5, 2), (30, .aload_n 0, 1), (31, .arraylength, 1), (32, .iconst 3, 1), (33, .isub, 1), (34, .if_icmp .gt 1664, 3), (37, .aload_n 0, 1), (38, .iload 5, 2), (40, .iaload, 1), (41, .bipush 31, 2), (43, .iand, 1), (44, .tableswitch 1648 0 29 #[136, 192, 248, 304, 360, 428, 496, 552, 620, 633, 701, 757, 825, 881, 894, 962, 1006, 1071, 1127, 1140, 1208, 1252, 1308, 1321, 1389, 1445, 1503, 1547, 1591, 1604], 136), (180, .aload_n 1, 1), (181, .aload_n 0, 1), (182, .iload 5, 2), (184, .iconst 1, 1), (185, .iadd, 1), (186, .iaload, 1), (187, .aload_n 3, 1), (188, .invokestatic 105, 3), (191, .istore 6, 2), (193, .aload_n 2, 1), (194, .aload_n 0, 1), (195, .iload 5, 2), (197, .iconst 1, 1), (198, .iadd, 1), (199, .iaload, 1), (200, .invokevirtual 110, 3), (203, .istore 7, 2), (205, .aload_n 2, 1), (206, .invokevirtual 111, 3), (209, .iload 6, 2), (211, .if_icmp .eq 5, 3), (214, .iconst 0, 1)]
theorem zLd_0_ok : zLdk cL_law zLd_0 = true := by decide +kernel
theorem dL_law_0 : decode cL_law 0 = .ok (.new 8, 3) := zLdk_at zLd_0_ok (k := 0) rfl
theorem dL_law_3 : decode cL_law 3 = .ok (.dup, 1) := zLdk_at zLd_0_ok (k := 1) rfl
theorem dL_law_4 : decode cL_law 4 = .ok (.invokespecial 101, 3) := zLdk_at zLd_0_ok (k := 2) rfl
theorem dL_law_7 : decode cL_law 7 = .ok (.astore_n 1, 1) := zLdk_at zLd_0_ok (k := 3) rfl
theorem dL_law_8 : decode cL_law 8 = .ok (.new 102, 3) := zLdk_at zLd_0_ok (k := 4) rfl
theorem dL_law_11 : decode cL_law 11 = .ok (.dup, 1) := zLdk_at zLd_0_ok (k := 5) rfl
theorem dL_law_12 : decode cL_law 12 = .ok (.invokespecial 104, 3) := zLdk_at zLd_0_ok (k := 6) rfl
theorem dL_law_15 : decode cL_law 15 = .ok (.astore_n 2, 1) := zLdk_at zLd_0_ok (k := 7) rfl
theorem dL_law_16 : decode cL_law 16 = .ok (.iconst 1, 1) := zLdk_at zLd_0_ok (k := 8) rfl
theorem dL_law_17 : decode cL_law 17 = .ok (.newarray .long, 2) := zLdk_at zLd_0_ok (k := 9) rfl
theorem dL_law_19 : decode cL_law 19 = .ok (.astore_n 3, 1) := zLdk_at zLd_0_ok (k := 10) rfl
theorem dL_law_20 : decode cL_law 20 = .ok (.iconst 1, 1) := zLdk_at zLd_0_ok (k := 11) rfl
theorem dL_law_21 : decode cL_law 21 = .ok (.newarray .double, 2) := zLdk_at zLd_0_ok (k := 12) rfl
theorem dL_law_23 : decode cL_law 23 = .ok (.astore 4, 2) := zLdk_at zLd_0_ok (k := 13) rfl
theorem dL_law_25 : decode cL_law 25 = .ok (.iconst 0, 1) := zLdk_at zLd_0_ok (k := 14) rfl
theorem dL_law_26 : decode cL_law 26 = .ok (.istore 5, 2) := zLdk_at zLd_0_ok (k := 15) rfl
theorem dL_law_28 : decode cL_law 28 = .ok (.iload 5, 2) := zLdk_at zLd_0_ok (k := 16) rfl
theorem dL_law_30 : decode cL_law 30 = .ok (.aload_n 0, 1) := zLdk_at zLd_0_ok (k := 17) rfl
theorem dL_law_31 : decode cL_law 31 = .ok (.arraylength, 1) := zLdk_at zLd_0_ok (k := 18) rfl
theorem dL_law_32 : decode cL_law 32 = .ok (.iconst 3, 1) := zLdk_at zLd_0_ok (k := 19) rfl
theorem dL_law_33 : decode cL_law 33 = .ok (.isub, 1) := zLdk_at zLd_0_ok (k := 20) rfl
theorem dL_law_34 : decode cL_law 34 = .ok (.if_icmp .gt 1664, 3) := zLdk_at zLd_0_ok (k := 21) rfl
theorem dL_law_37 : decode cL_law 37 = .ok (.aload_n 0, 1) := zLdk_at zLd_0_ok (k := 22) rfl
theorem dL_law_38 : decode cL_law 38 = .ok (.iload 5, 2) := zLdk_at zLd_0_ok (k := 23) rfl
theorem dL_law_40 : decode cL_law 40 = .ok (.iaload, 1) := zLdk_at zLd_0_ok (k := 24) rfl
theorem dL_law_41 : decode cL_law 41 = .ok (.bipush 31, 2) := zLdk_at zLd_0_ok (k := 25) rfl
theorem dL_law_43 : decode cL_law 43 = .ok (.iand, 1) := zLdk_at zLd_0_ok (k := 26) rfl
theorem dL_law_44 : decode cL_law 44 = .ok (.tableswitch 1648 0 29 #[136, 192, 248, 304, 360, 428, 496, 552, 620, 633, 701, 757, 825, 881, 894, 962, 1006, 1071, 1127, 1140, 1208, 1252, 1308, 1321, 1389, 1445, 1503, 1547, 1591, 1604], 136) := zLdk_at zLd_0_ok (k := 27) rfl
theorem dL_law_180 : decode cL_law 180 = .ok (.aload_n 1, 1) := zLdk_at zLd_0_ok (k := 28) rfl
theorem dL_law_181 : decode cL_law 181 = .ok (.aload_n 0, 1) := zLdk_at zLd_0_ok (k := 29) rfl
theorem dL_law_182 : decode cL_law 182 = .ok (.iload 5, 2) := zLdk_at zLd_0_ok (k := 30) rfl
theorem dL_law_184 : decode cL_law 184 = .ok (.iconst 1, 1) := zLdk_at zLd_0_ok (k := 31) rfl
theorem dL_law_185 : decode cL_law 185 = .ok (.iadd, 1) := zLdk_at zLd_0_ok (k := 32) rfl
theorem dL_law_186 : decode cL_law 186 = .ok (.iaload, 1) := zLdk_at zLd_0_ok (k := 33) rfl
theorem dL_law_187 : decode cL_law 187 = .ok (.aload_n 3, 1) := zLdk_at zLd_0_ok (k := 34) rfl
theorem dL_law_188 : decode cL_law 188 = .ok (.invokestatic 105, 3) := zLdk_at zLd_0_ok (k := 35) rfl
theorem dL_law_191 : decode cL_law 191 = .ok (.istore 6, 2) := zLdk_at zLd_0_ok (k := 36) rfl
theorem dL_law_193 : decode cL_law 193 = .ok (.aload_n 2, 1) := zLdk_at zLd_0_ok (k := 37) rfl
theorem dL_law_194 : decode cL_law 194 = .ok (.aload_n 0, 1) := zLdk_at zLd_0_ok (k := 38) rfl
theorem dL_law_195 : decode cL_law 195 = .ok (.iload 5, 2) := zLdk_at zLd_0_ok (k := 39) rfl
theorem dL_law_197 : decode cL_law 197 = .ok (.iconst 1, 1) := zLdk_at zLd_0_ok (k := 40) rfl
theorem dL_law_198 : decode cL_law 198 = .ok (.iadd, 1) := zLdk_at zLd_0_ok (k := 41) rfl
theorem dL_law_199 : decode cL_law 199 = .ok (.iaload, 1) := zLdk_at zLd_0_ok (k := 42) rfl
theorem dL_law_200 : decode cL_law 200 = .ok (.invokevirtual 110, 3) := zLdk_at zLd_0_ok (k := 43) rfl
theorem dL_law_203 : decode cL_law 203 = .ok (.istore 7, 2) := zLdk_at zLd_0_ok (k := 44) rfl
theorem dL_law_205 : decode cL_law 205 = .ok (.aload_n 2, 1) := zLdk_at zLd_0_ok (k := 45) rfl
theorem dL_law_206 : decode cL_law 206 = .ok (.invokevirtual 111, 3) := zLdk_at zLd_0_ok (k := 46) rfl
theorem dL_law_209 : decode cL_law 209 = .ok (.iload 6, 2) := zLdk_at zLd_0_ok (k := 47) rfl
theorem dL_law_211 : decode cL_law 211 = .ok (.if_icmp .eq 5, 3) := zLdk_at zLd_0_ok (k := 48) rfl
theorem dL_law_214 : decode cL_law 214 = .ok (.iconst 0, 1) := zLdk_at zLd_0_ok (k := 49) rfl
def zLd_50 : List (Nat × Instr × Nat) := [(215, .ireturn, 1), (216, .iload 6, 2), (218, .ifCond .ne 15, 3), (221, .aload_n 3, 1), (222, .iconst 0, 1), (223, .laload, 1), (224, .iload 7, 2), (226, .i2l, 1), (227, .lcmp, 1), (228, .ifCond .eq 5, 3), (231, .iconst 0, 1), (232, .ireturn, 1), (233, .goto 1459, 3), (236, .aload_n 1, 1), (237, .aload_n 0, 1), (238, .iload 5, 2), (240, .iconst 1, 1), (241, .iadd, 1), (242, .iaload, 1), (243, .aload_n 3, 1), (244, .invokestatic 114, 3), (247, .istore 6, 2), (249, .aload_n 2, 1), (250, .aload_n 0, 1), (251, .iload 5, 2), (253, .iconst 1, 1), (254, .iadd, 1), (255, .iaload, 1), (256, .invokevirtual 116, 3), (259, .istore 7, 2), (261, .aload_n 2, 1), (262, .invokevirtual 111, 3), (265, .iload 6, 2), (267, .if_icmp .eq 5, 3), (270, .iconst 0, 1), (271, .ireturn, 1), (272, .iload 6, 2), (274, .ifCond .ne 15, 3), (277, .aload_n 3, 1), (278, .iconst 0, 1), (279, .laload, 1), (280, .iload 7, 2), (282, .i2l, 1), (283, .lcmp, 1), (284, .ifCond .eq 5, 3), (287, .iconst 0, 1), (288, .ireturn, 1), (289, .goto 1403, 3), (292, .aload_n 1, 1), (293, .aload_n 0, 1)]
theorem zLd_50_ok : zLdk cL_law zLd_50 = true := by decide +kernel
theorem dL_law_215 : decode cL_law 215 = .ok (.ireturn, 1) := zLdk_at zLd_50_ok (k := 0) rfl
theorem dL_law_216 : decode cL_law 216 = .ok (.iload 6, 2) := zLdk_at zLd_50_ok (k := 1) rfl
theorem dL_law_218 : decode cL_law 218 = .ok (.ifCond .ne 15, 3) := zLdk_at zLd_50_ok (k := 2) rfl
theorem dL_law_221 : decode cL_law 221 = .ok (.aload_n 3, 1) := zLdk_at zLd_50_ok (k := 3) rfl
theorem dL_law_222 : decode cL_law 222 = .ok (.iconst 0, 1) := zLdk_at zLd_50_ok (k := 4) rfl
theorem dL_law_223 : decode cL_law 223 = .ok (.laload, 1) := zLdk_at zLd_50_ok (k := 5) rfl
theorem dL_law_224 : decode cL_law 224 = .ok (.iload 7, 2) := zLdk_at zLd_50_ok (k := 6) rfl
theorem dL_law_226 : decode cL_law 226 = .ok (.i2l, 1) := zLdk_at zLd_50_ok (k := 7) rfl
theorem dL_law_227 : decode cL_law 227 = .ok (.lcmp, 1) := zLdk_at zLd_50_ok (k := 8) rfl
theorem dL_law_228 : decode cL_law 228 = .ok (.ifCond .eq 5, 3) := zLdk_at zLd_50_ok (k := 9) rfl
theorem dL_law_231 : decode cL_law 231 = .ok (.iconst 0, 1) := zLdk_at zLd_50_ok (k := 10) rfl
theorem dL_law_232 : decode cL_law 232 = .ok (.ireturn, 1) := zLdk_at zLd_50_ok (k := 11) rfl
theorem dL_law_233 : decode cL_law 233 = .ok (.goto 1459, 3) := zLdk_at zLd_50_ok (k := 12) rfl
theorem dL_law_236 : decode cL_law 236 = .ok (.aload_n 1, 1) := zLdk_at zLd_50_ok (k := 13) rfl
theorem dL_law_237 : decode cL_law 237 = .ok (.aload_n 0, 1) := zLdk_at zLd_50_ok (k := 14) rfl
theorem dL_law_238 : decode cL_law 238 = .ok (.iload 5, 2) := zLdk_at zLd_50_ok (k := 15) rfl
theorem dL_law_240 : decode cL_law 240 = .ok (.iconst 1, 1) := zLdk_at zLd_50_ok (k := 16) rfl
theorem dL_law_241 : decode cL_law 241 = .ok (.iadd, 1) := zLdk_at zLd_50_ok (k := 17) rfl
theorem dL_law_242 : decode cL_law 242 = .ok (.iaload, 1) := zLdk_at zLd_50_ok (k := 18) rfl
theorem dL_law_243 : decode cL_law 243 = .ok (.aload_n 3, 1) := zLdk_at zLd_50_ok (k := 19) rfl
theorem dL_law_244 : decode cL_law 244 = .ok (.invokestatic 114, 3) := zLdk_at zLd_50_ok (k := 20) rfl
theorem dL_law_247 : decode cL_law 247 = .ok (.istore 6, 2) := zLdk_at zLd_50_ok (k := 21) rfl
theorem dL_law_249 : decode cL_law 249 = .ok (.aload_n 2, 1) := zLdk_at zLd_50_ok (k := 22) rfl
theorem dL_law_250 : decode cL_law 250 = .ok (.aload_n 0, 1) := zLdk_at zLd_50_ok (k := 23) rfl
theorem dL_law_251 : decode cL_law 251 = .ok (.iload 5, 2) := zLdk_at zLd_50_ok (k := 24) rfl
theorem dL_law_253 : decode cL_law 253 = .ok (.iconst 1, 1) := zLdk_at zLd_50_ok (k := 25) rfl
theorem dL_law_254 : decode cL_law 254 = .ok (.iadd, 1) := zLdk_at zLd_50_ok (k := 26) rfl
theorem dL_law_255 : decode cL_law 255 = .ok (.iaload, 1) := zLdk_at zLd_50_ok (k := 27) rfl
theorem dL_law_256 : decode cL_law 256 = .ok (.invokevirtual 116, 3) := zLdk_at zLd_50_ok (k := 28) rfl
theorem dL_law_259 : decode cL_law 259 = .ok (.istore 7, 2) := zLdk_at zLd_50_ok (k := 29) rfl
theorem dL_law_261 : decode cL_law 261 = .ok (.aload_n 2, 1) := zLdk_at zLd_50_ok (k := 30) rfl
theorem dL_law_262 : decode cL_law 262 = .ok (.invokevirtual 111, 3) := zLdk_at zLd_50_ok (k := 31) rfl
theorem dL_law_265 : decode cL_law 265 = .ok (.iload 6, 2) := zLdk_at zLd_50_ok (k := 32) rfl
theorem dL_law_267 : decode cL_law 267 = .ok (.if_icmp .eq 5, 3) := zLdk_at zLd_50_ok (k := 33) rfl
theorem dL_law_270 : decode cL_law 270 = .ok (.iconst 0, 1) := zLdk_at zLd_50_ok (k := 34) rfl
theorem dL_law_271 : decode cL_law 271 = .ok (.ireturn, 1) := zLdk_at zLd_50_ok (k := 35) rfl
theorem dL_law_272 : decode cL_law 272 = .ok (.iload 6, 2) := zLdk_at zLd_50_ok (k := 36) rfl
theorem dL_law_274 : decode cL_law 274 = .ok (.ifCond .ne 15, 3) := zLdk_at zLd_50_ok (k := 37) rfl
theorem dL_law_277 : decode cL_law 277 = .ok (.aload_n 3, 1) := zLdk_at zLd_50_ok (k := 38) rfl
theorem dL_law_278 : decode cL_law 278 = .ok (.iconst 0, 1) := zLdk_at zLd_50_ok (k := 39) rfl
theorem dL_law_279 : decode cL_law 279 = .ok (.laload, 1) := zLdk_at zLd_50_ok (k := 40) rfl
theorem dL_law_280 : decode cL_law 280 = .ok (.iload 7, 2) := zLdk_at zLd_50_ok (k := 41) rfl
theorem dL_law_282 : decode cL_law 282 = .ok (.i2l, 1) := zLdk_at zLd_50_ok (k := 42) rfl
theorem dL_law_283 : decode cL_law 283 = .ok (.lcmp, 1) := zLdk_at zLd_50_ok (k := 43) rfl
theorem dL_law_284 : decode cL_law 284 = .ok (.ifCond .eq 5, 3) := zLdk_at zLd_50_ok (k := 44) rfl
theorem dL_law_287 : decode cL_law 287 = .ok (.iconst 0, 1) := zLdk_at zLd_50_ok (k := 45) rfl
theorem dL_law_288 : decode cL_law 288 = .ok (.ireturn, 1) := zLdk_at zLd_50_ok (k := 46) rfl
theorem dL_law_289 : decode cL_law 289 = .ok (.goto 1403, 3) := zLdk_at zLd_50_ok (k := 47) rfl
theorem dL_law_292 : decode cL_law 292 = .ok (.aload_n 1, 1) := zLdk_at zLd_50_ok (k := 48) rfl
theorem dL_law_293 : decode cL_law 293 = .ok (.aload_n 0, 1) := zLdk_at zLd_50_ok (k := 49) rfl
def zLd_100 : List (Nat × Instr × Nat) := [(294, .iload 5, 2), (296, .iconst 1, 1), (297, .iadd, 1), (298, .iaload, 1), (299, .aload_n 3, 1), (300, .invokestatic 117, 3), (303, .istore 6, 2), (305, .aload_n 2, 1), (306, .aload_n 0, 1), (307, .iload 5, 2), (309, .iconst 1, 1), (310, .iadd, 1), (311, .iaload, 1), (312, .invokevirtual 119, 3), (315, .istore 7, 2), (317, .aload_n 2, 1), (318, .invokevirtual 111, 3), (321, .iload 6, 2), (323, .if_icmp .eq 5, 3), (326, .iconst 0, 1), (327, .ireturn, 1), (328, .iload 6, 2), (330, .ifCond .ne 15, 3), (333, .aload_n 3, 1), (334, .iconst 0, 1), (335, .laload, 1), (336, .iload 7, 2), (338, .i2l, 1), (339, .lcmp, 1), (340, .ifCond .eq 5, 3), (343, .iconst 0, 1), (344, .ireturn, 1), (345, .goto 1347, 3), (348, .aload_n 1, 1), (349, .aload_n 0, 1), (350, .iload 5, 2), (352, .iconst 1, 1), (353, .iadd, 1), (354, .iaload, 1), (355, .aload_n 3, 1), (356, .invokestatic 120, 3), (359, .istore 6, 2), (361, .aload_n 2, 1), (362, .aload_n 0, 1), (363, .iload 5, 2), (365, .iconst 1, 1), (366, .iadd, 1), (367, .iaload, 1), (368, .invokevirtual 122, 3), (371, .istore 7, 2)]
theorem zLd_100_ok : zLdk cL_law zLd_100 = true := by decide +kernel
theorem dL_law_294 : decode cL_law 294 = .ok (.iload 5, 2) := zLdk_at zLd_100_ok (k := 0) rfl
theorem dL_law_296 : decode cL_law 296 = .ok (.iconst 1, 1) := zLdk_at zLd_100_ok (k := 1) rfl
theorem dL_law_297 : decode cL_law 297 = .ok (.iadd, 1) := zLdk_at zLd_100_ok (k := 2) rfl
theorem dL_law_298 : decode cL_law 298 = .ok (.iaload, 1) := zLdk_at zLd_100_ok (k := 3) rfl
theorem dL_law_299 : decode cL_law 299 = .ok (.aload_n 3, 1) := zLdk_at zLd_100_ok (k := 4) rfl
theorem dL_law_300 : decode cL_law 300 = .ok (.invokestatic 117, 3) := zLdk_at zLd_100_ok (k := 5) rfl
theorem dL_law_303 : decode cL_law 303 = .ok (.istore 6, 2) := zLdk_at zLd_100_ok (k := 6) rfl
theorem dL_law_305 : decode cL_law 305 = .ok (.aload_n 2, 1) := zLdk_at zLd_100_ok (k := 7) rfl
theorem dL_law_306 : decode cL_law 306 = .ok (.aload_n 0, 1) := zLdk_at zLd_100_ok (k := 8) rfl
theorem dL_law_307 : decode cL_law 307 = .ok (.iload 5, 2) := zLdk_at zLd_100_ok (k := 9) rfl
theorem dL_law_309 : decode cL_law 309 = .ok (.iconst 1, 1) := zLdk_at zLd_100_ok (k := 10) rfl
theorem dL_law_310 : decode cL_law 310 = .ok (.iadd, 1) := zLdk_at zLd_100_ok (k := 11) rfl
theorem dL_law_311 : decode cL_law 311 = .ok (.iaload, 1) := zLdk_at zLd_100_ok (k := 12) rfl
theorem dL_law_312 : decode cL_law 312 = .ok (.invokevirtual 119, 3) := zLdk_at zLd_100_ok (k := 13) rfl
theorem dL_law_315 : decode cL_law 315 = .ok (.istore 7, 2) := zLdk_at zLd_100_ok (k := 14) rfl
theorem dL_law_317 : decode cL_law 317 = .ok (.aload_n 2, 1) := zLdk_at zLd_100_ok (k := 15) rfl
theorem dL_law_318 : decode cL_law 318 = .ok (.invokevirtual 111, 3) := zLdk_at zLd_100_ok (k := 16) rfl
theorem dL_law_321 : decode cL_law 321 = .ok (.iload 6, 2) := zLdk_at zLd_100_ok (k := 17) rfl
theorem dL_law_323 : decode cL_law 323 = .ok (.if_icmp .eq 5, 3) := zLdk_at zLd_100_ok (k := 18) rfl
theorem dL_law_326 : decode cL_law 326 = .ok (.iconst 0, 1) := zLdk_at zLd_100_ok (k := 19) rfl
theorem dL_law_327 : decode cL_law 327 = .ok (.ireturn, 1) := zLdk_at zLd_100_ok (k := 20) rfl
theorem dL_law_328 : decode cL_law 328 = .ok (.iload 6, 2) := zLdk_at zLd_100_ok (k := 21) rfl
theorem dL_law_330 : decode cL_law 330 = .ok (.ifCond .ne 15, 3) := zLdk_at zLd_100_ok (k := 22) rfl
theorem dL_law_333 : decode cL_law 333 = .ok (.aload_n 3, 1) := zLdk_at zLd_100_ok (k := 23) rfl
theorem dL_law_334 : decode cL_law 334 = .ok (.iconst 0, 1) := zLdk_at zLd_100_ok (k := 24) rfl
theorem dL_law_335 : decode cL_law 335 = .ok (.laload, 1) := zLdk_at zLd_100_ok (k := 25) rfl
theorem dL_law_336 : decode cL_law 336 = .ok (.iload 7, 2) := zLdk_at zLd_100_ok (k := 26) rfl
theorem dL_law_338 : decode cL_law 338 = .ok (.i2l, 1) := zLdk_at zLd_100_ok (k := 27) rfl
theorem dL_law_339 : decode cL_law 339 = .ok (.lcmp, 1) := zLdk_at zLd_100_ok (k := 28) rfl
theorem dL_law_340 : decode cL_law 340 = .ok (.ifCond .eq 5, 3) := zLdk_at zLd_100_ok (k := 29) rfl
theorem dL_law_343 : decode cL_law 343 = .ok (.iconst 0, 1) := zLdk_at zLd_100_ok (k := 30) rfl
theorem dL_law_344 : decode cL_law 344 = .ok (.ireturn, 1) := zLdk_at zLd_100_ok (k := 31) rfl
theorem dL_law_345 : decode cL_law 345 = .ok (.goto 1347, 3) := zLdk_at zLd_100_ok (k := 32) rfl
theorem dL_law_348 : decode cL_law 348 = .ok (.aload_n 1, 1) := zLdk_at zLd_100_ok (k := 33) rfl
theorem dL_law_349 : decode cL_law 349 = .ok (.aload_n 0, 1) := zLdk_at zLd_100_ok (k := 34) rfl
theorem dL_law_350 : decode cL_law 350 = .ok (.iload 5, 2) := zLdk_at zLd_100_ok (k := 35) rfl
theorem dL_law_352 : decode cL_law 352 = .ok (.iconst 1, 1) := zLdk_at zLd_100_ok (k := 36) rfl
theorem dL_law_353 : decode cL_law 353 = .ok (.iadd, 1) := zLdk_at zLd_100_ok (k := 37) rfl
theorem dL_law_354 : decode cL_law 354 = .ok (.iaload, 1) := zLdk_at zLd_100_ok (k := 38) rfl
theorem dL_law_355 : decode cL_law 355 = .ok (.aload_n 3, 1) := zLdk_at zLd_100_ok (k := 39) rfl
theorem dL_law_356 : decode cL_law 356 = .ok (.invokestatic 120, 3) := zLdk_at zLd_100_ok (k := 40) rfl
theorem dL_law_359 : decode cL_law 359 = .ok (.istore 6, 2) := zLdk_at zLd_100_ok (k := 41) rfl
theorem dL_law_361 : decode cL_law 361 = .ok (.aload_n 2, 1) := zLdk_at zLd_100_ok (k := 42) rfl
theorem dL_law_362 : decode cL_law 362 = .ok (.aload_n 0, 1) := zLdk_at zLd_100_ok (k := 43) rfl
theorem dL_law_363 : decode cL_law 363 = .ok (.iload 5, 2) := zLdk_at zLd_100_ok (k := 44) rfl
theorem dL_law_365 : decode cL_law 365 = .ok (.iconst 1, 1) := zLdk_at zLd_100_ok (k := 45) rfl
theorem dL_law_366 : decode cL_law 366 = .ok (.iadd, 1) := zLdk_at zLd_100_ok (k := 46) rfl
theorem dL_law_367 : decode cL_law 367 = .ok (.iaload, 1) := zLdk_at zLd_100_ok (k := 47) rfl
theorem dL_law_368 : decode cL_law 368 = .ok (.invokevirtual 122, 3) := zLdk_at zLd_100_ok (k := 48) rfl
theorem dL_law_371 : decode cL_law 371 = .ok (.istore 7, 2) := zLdk_at zLd_100_ok (k := 49) rfl
def zLd_150 : List (Nat × Instr × Nat) := [(373, .aload_n 2, 1), (374, .invokevirtual 111, 3), (377, .iload 6, 2), (379, .if_icmp .eq 5, 3), (382, .iconst 0, 1), (383, .ireturn, 1), (384, .iload 6, 2), (386, .ifCond .ne 15, 3), (389, .aload_n 3, 1), (390, .iconst 0, 1), (391, .laload, 1), (392, .iload 7, 2), (394, .i2l, 1), (395, .lcmp, 1), (396, .ifCond .eq 5, 3), (399, .iconst 0, 1), (400, .ireturn, 1), (401, .goto 1291, 3), (404, .aload_n 1, 1), (405, .aload_n 0, 1), (406, .iload 5, 2), (408, .iconst 1, 1), (409, .iadd, 1), (410, .iaload, 1), (411, .aload_n 0, 1), (412, .iload 5, 2), (414, .iconst 2, 1), (415, .iadd, 1), (416, .iaload, 1), (417, .aload_n 3, 1), (418, .invokestatic 123, 3), (421, .istore 6, 2), (423, .aload_n 2, 1), (424, .aload_n 0, 1), (425, .iload 5, 2), (427, .iconst 1, 1), (428, .iadd, 1), (429, .iaload, 1), (430, .aload_n 0, 1), (431, .iload 5, 2), (433, .iconst 2, 1), (434, .iadd, 1), (435, .iaload, 1), (436, .invokevirtual 126, 3), (439, .istore 7, 2), (441, .aload_n 2, 1), (442, .invokevirtual 111, 3), (445, .iload 6, 2), (447, .if_icmp .eq 5, 3), (450, .iconst 0, 1)]
theorem zLd_150_ok : zLdk cL_law zLd_150 = true := by decide +kernel
theorem dL_law_373 : decode cL_law 373 = .ok (.aload_n 2, 1) := zLdk_at zLd_150_ok (k := 0) rfl
theorem dL_law_374 : decode cL_law 374 = .ok (.invokevirtual 111, 3) := zLdk_at zLd_150_ok (k := 1) rfl
theorem dL_law_377 : decode cL_law 377 = .ok (.iload 6, 2) := zLdk_at zLd_150_ok (k := 2) rfl
theorem dL_law_379 : decode cL_law 379 = .ok (.if_icmp .eq 5, 3) := zLdk_at zLd_150_ok (k := 3) rfl
theorem dL_law_382 : decode cL_law 382 = .ok (.iconst 0, 1) := zLdk_at zLd_150_ok (k := 4) rfl
theorem dL_law_383 : decode cL_law 383 = .ok (.ireturn, 1) := zLdk_at zLd_150_ok (k := 5) rfl
theorem dL_law_384 : decode cL_law 384 = .ok (.iload 6, 2) := zLdk_at zLd_150_ok (k := 6) rfl
theorem dL_law_386 : decode cL_law 386 = .ok (.ifCond .ne 15, 3) := zLdk_at zLd_150_ok (k := 7) rfl
theorem dL_law_389 : decode cL_law 389 = .ok (.aload_n 3, 1) := zLdk_at zLd_150_ok (k := 8) rfl
theorem dL_law_390 : decode cL_law 390 = .ok (.iconst 0, 1) := zLdk_at zLd_150_ok (k := 9) rfl
theorem dL_law_391 : decode cL_law 391 = .ok (.laload, 1) := zLdk_at zLd_150_ok (k := 10) rfl
theorem dL_law_392 : decode cL_law 392 = .ok (.iload 7, 2) := zLdk_at zLd_150_ok (k := 11) rfl
theorem dL_law_394 : decode cL_law 394 = .ok (.i2l, 1) := zLdk_at zLd_150_ok (k := 12) rfl
theorem dL_law_395 : decode cL_law 395 = .ok (.lcmp, 1) := zLdk_at zLd_150_ok (k := 13) rfl
theorem dL_law_396 : decode cL_law 396 = .ok (.ifCond .eq 5, 3) := zLdk_at zLd_150_ok (k := 14) rfl
theorem dL_law_399 : decode cL_law 399 = .ok (.iconst 0, 1) := zLdk_at zLd_150_ok (k := 15) rfl
theorem dL_law_400 : decode cL_law 400 = .ok (.ireturn, 1) := zLdk_at zLd_150_ok (k := 16) rfl
theorem dL_law_401 : decode cL_law 401 = .ok (.goto 1291, 3) := zLdk_at zLd_150_ok (k := 17) rfl
theorem dL_law_404 : decode cL_law 404 = .ok (.aload_n 1, 1) := zLdk_at zLd_150_ok (k := 18) rfl
theorem dL_law_405 : decode cL_law 405 = .ok (.aload_n 0, 1) := zLdk_at zLd_150_ok (k := 19) rfl
theorem dL_law_406 : decode cL_law 406 = .ok (.iload 5, 2) := zLdk_at zLd_150_ok (k := 20) rfl
theorem dL_law_408 : decode cL_law 408 = .ok (.iconst 1, 1) := zLdk_at zLd_150_ok (k := 21) rfl
theorem dL_law_409 : decode cL_law 409 = .ok (.iadd, 1) := zLdk_at zLd_150_ok (k := 22) rfl
theorem dL_law_410 : decode cL_law 410 = .ok (.iaload, 1) := zLdk_at zLd_150_ok (k := 23) rfl
theorem dL_law_411 : decode cL_law 411 = .ok (.aload_n 0, 1) := zLdk_at zLd_150_ok (k := 24) rfl
theorem dL_law_412 : decode cL_law 412 = .ok (.iload 5, 2) := zLdk_at zLd_150_ok (k := 25) rfl
theorem dL_law_414 : decode cL_law 414 = .ok (.iconst 2, 1) := zLdk_at zLd_150_ok (k := 26) rfl
theorem dL_law_415 : decode cL_law 415 = .ok (.iadd, 1) := zLdk_at zLd_150_ok (k := 27) rfl
theorem dL_law_416 : decode cL_law 416 = .ok (.iaload, 1) := zLdk_at zLd_150_ok (k := 28) rfl
theorem dL_law_417 : decode cL_law 417 = .ok (.aload_n 3, 1) := zLdk_at zLd_150_ok (k := 29) rfl
theorem dL_law_418 : decode cL_law 418 = .ok (.invokestatic 123, 3) := zLdk_at zLd_150_ok (k := 30) rfl
theorem dL_law_421 : decode cL_law 421 = .ok (.istore 6, 2) := zLdk_at zLd_150_ok (k := 31) rfl
theorem dL_law_423 : decode cL_law 423 = .ok (.aload_n 2, 1) := zLdk_at zLd_150_ok (k := 32) rfl
theorem dL_law_424 : decode cL_law 424 = .ok (.aload_n 0, 1) := zLdk_at zLd_150_ok (k := 33) rfl
theorem dL_law_425 : decode cL_law 425 = .ok (.iload 5, 2) := zLdk_at zLd_150_ok (k := 34) rfl
theorem dL_law_427 : decode cL_law 427 = .ok (.iconst 1, 1) := zLdk_at zLd_150_ok (k := 35) rfl
theorem dL_law_428 : decode cL_law 428 = .ok (.iadd, 1) := zLdk_at zLd_150_ok (k := 36) rfl
theorem dL_law_429 : decode cL_law 429 = .ok (.iaload, 1) := zLdk_at zLd_150_ok (k := 37) rfl
theorem dL_law_430 : decode cL_law 430 = .ok (.aload_n 0, 1) := zLdk_at zLd_150_ok (k := 38) rfl
theorem dL_law_431 : decode cL_law 431 = .ok (.iload 5, 2) := zLdk_at zLd_150_ok (k := 39) rfl
theorem dL_law_433 : decode cL_law 433 = .ok (.iconst 2, 1) := zLdk_at zLd_150_ok (k := 40) rfl
theorem dL_law_434 : decode cL_law 434 = .ok (.iadd, 1) := zLdk_at zLd_150_ok (k := 41) rfl
theorem dL_law_435 : decode cL_law 435 = .ok (.iaload, 1) := zLdk_at zLd_150_ok (k := 42) rfl
theorem dL_law_436 : decode cL_law 436 = .ok (.invokevirtual 126, 3) := zLdk_at zLd_150_ok (k := 43) rfl
theorem dL_law_439 : decode cL_law 439 = .ok (.istore 7, 2) := zLdk_at zLd_150_ok (k := 44) rfl
theorem dL_law_441 : decode cL_law 441 = .ok (.aload_n 2, 1) := zLdk_at zLd_150_ok (k := 45) rfl
theorem dL_law_442 : decode cL_law 442 = .ok (.invokevirtual 111, 3) := zLdk_at zLd_150_ok (k := 46) rfl
theorem dL_law_445 : decode cL_law 445 = .ok (.iload 6, 2) := zLdk_at zLd_150_ok (k := 47) rfl
theorem dL_law_447 : decode cL_law 447 = .ok (.if_icmp .eq 5, 3) := zLdk_at zLd_150_ok (k := 48) rfl
theorem dL_law_450 : decode cL_law 450 = .ok (.iconst 0, 1) := zLdk_at zLd_150_ok (k := 49) rfl
def zLd_200 : List (Nat × Instr × Nat) := [(451, .ireturn, 1), (452, .iload 6, 2), (454, .ifCond .ne 15, 3), (457, .aload_n 3, 1), (458, .iconst 0, 1), (459, .laload, 1), (460, .iload 7, 2), (462, .i2l, 1), (463, .lcmp, 1), (464, .ifCond .eq 5, 3), (467, .iconst 0, 1), (468, .ireturn, 1), (469, .goto 1223, 3), (472, .aload_n 1, 1), (473, .aload_n 0, 1), (474, .iload 5, 2), (476, .iconst 1, 1), (477, .iadd, 1), (478, .iaload, 1), (479, .aload_n 0, 1), (480, .iload 5, 2), (482, .iconst 2, 1), (483, .iadd, 1), (484, .iaload, 1), (485, .aload_n 3, 1), (486, .invokestatic 127, 3), (489, .istore 6, 2), (491, .aload_n 2, 1), (492, .aload_n 0, 1), (493, .iload 5, 2), (495, .iconst 1, 1), (496, .iadd, 1), (497, .iaload, 1), (498, .aload_n 0, 1), (499, .iload 5, 2), (501, .iconst 2, 1), (502, .iadd, 1), (503, .iaload, 1), (504, .invokevirtual 129, 3), (507, .istore 7, 2), (509, .aload_n 2, 1), (510, .invokevirtual 111, 3), (513, .iload 6, 2), (515, .if_icmp .eq 5, 3), (518, .iconst 0, 1), (519, .ireturn, 1), (520, .iload 6, 2), (522, .ifCond .ne 15, 3), (525, .aload_n 3, 1), (526, .iconst 0, 1)]
theorem zLd_200_ok : zLdk cL_law zLd_200 = true := by decide +kernel
theorem dL_law_451 : decode cL_law 451 = .ok (.ireturn, 1) := zLdk_at zLd_200_ok (k := 0) rfl
theorem dL_law_452 : decode cL_law 452 = .ok (.iload 6, 2) := zLdk_at zLd_200_ok (k := 1) rfl
theorem dL_law_454 : decode cL_law 454 = .ok (.ifCond .ne 15, 3) := zLdk_at zLd_200_ok (k := 2) rfl
theorem dL_law_457 : decode cL_law 457 = .ok (.aload_n 3, 1) := zLdk_at zLd_200_ok (k := 3) rfl
theorem dL_law_458 : decode cL_law 458 = .ok (.iconst 0, 1) := zLdk_at zLd_200_ok (k := 4) rfl
theorem dL_law_459 : decode cL_law 459 = .ok (.laload, 1) := zLdk_at zLd_200_ok (k := 5) rfl
theorem dL_law_460 : decode cL_law 460 = .ok (.iload 7, 2) := zLdk_at zLd_200_ok (k := 6) rfl
theorem dL_law_462 : decode cL_law 462 = .ok (.i2l, 1) := zLdk_at zLd_200_ok (k := 7) rfl
theorem dL_law_463 : decode cL_law 463 = .ok (.lcmp, 1) := zLdk_at zLd_200_ok (k := 8) rfl
theorem dL_law_464 : decode cL_law 464 = .ok (.ifCond .eq 5, 3) := zLdk_at zLd_200_ok (k := 9) rfl
theorem dL_law_467 : decode cL_law 467 = .ok (.iconst 0, 1) := zLdk_at zLd_200_ok (k := 10) rfl
theorem dL_law_468 : decode cL_law 468 = .ok (.ireturn, 1) := zLdk_at zLd_200_ok (k := 11) rfl
theorem dL_law_469 : decode cL_law 469 = .ok (.goto 1223, 3) := zLdk_at zLd_200_ok (k := 12) rfl
theorem dL_law_472 : decode cL_law 472 = .ok (.aload_n 1, 1) := zLdk_at zLd_200_ok (k := 13) rfl
theorem dL_law_473 : decode cL_law 473 = .ok (.aload_n 0, 1) := zLdk_at zLd_200_ok (k := 14) rfl
theorem dL_law_474 : decode cL_law 474 = .ok (.iload 5, 2) := zLdk_at zLd_200_ok (k := 15) rfl
theorem dL_law_476 : decode cL_law 476 = .ok (.iconst 1, 1) := zLdk_at zLd_200_ok (k := 16) rfl
theorem dL_law_477 : decode cL_law 477 = .ok (.iadd, 1) := zLdk_at zLd_200_ok (k := 17) rfl
theorem dL_law_478 : decode cL_law 478 = .ok (.iaload, 1) := zLdk_at zLd_200_ok (k := 18) rfl
theorem dL_law_479 : decode cL_law 479 = .ok (.aload_n 0, 1) := zLdk_at zLd_200_ok (k := 19) rfl
theorem dL_law_480 : decode cL_law 480 = .ok (.iload 5, 2) := zLdk_at zLd_200_ok (k := 20) rfl
theorem dL_law_482 : decode cL_law 482 = .ok (.iconst 2, 1) := zLdk_at zLd_200_ok (k := 21) rfl
theorem dL_law_483 : decode cL_law 483 = .ok (.iadd, 1) := zLdk_at zLd_200_ok (k := 22) rfl
theorem dL_law_484 : decode cL_law 484 = .ok (.iaload, 1) := zLdk_at zLd_200_ok (k := 23) rfl
theorem dL_law_485 : decode cL_law 485 = .ok (.aload_n 3, 1) := zLdk_at zLd_200_ok (k := 24) rfl
theorem dL_law_486 : decode cL_law 486 = .ok (.invokestatic 127, 3) := zLdk_at zLd_200_ok (k := 25) rfl
theorem dL_law_489 : decode cL_law 489 = .ok (.istore 6, 2) := zLdk_at zLd_200_ok (k := 26) rfl
theorem dL_law_491 : decode cL_law 491 = .ok (.aload_n 2, 1) := zLdk_at zLd_200_ok (k := 27) rfl
theorem dL_law_492 : decode cL_law 492 = .ok (.aload_n 0, 1) := zLdk_at zLd_200_ok (k := 28) rfl
theorem dL_law_493 : decode cL_law 493 = .ok (.iload 5, 2) := zLdk_at zLd_200_ok (k := 29) rfl
theorem dL_law_495 : decode cL_law 495 = .ok (.iconst 1, 1) := zLdk_at zLd_200_ok (k := 30) rfl
theorem dL_law_496 : decode cL_law 496 = .ok (.iadd, 1) := zLdk_at zLd_200_ok (k := 31) rfl
theorem dL_law_497 : decode cL_law 497 = .ok (.iaload, 1) := zLdk_at zLd_200_ok (k := 32) rfl
theorem dL_law_498 : decode cL_law 498 = .ok (.aload_n 0, 1) := zLdk_at zLd_200_ok (k := 33) rfl
theorem dL_law_499 : decode cL_law 499 = .ok (.iload 5, 2) := zLdk_at zLd_200_ok (k := 34) rfl
theorem dL_law_501 : decode cL_law 501 = .ok (.iconst 2, 1) := zLdk_at zLd_200_ok (k := 35) rfl
theorem dL_law_502 : decode cL_law 502 = .ok (.iadd, 1) := zLdk_at zLd_200_ok (k := 36) rfl
theorem dL_law_503 : decode cL_law 503 = .ok (.iaload, 1) := zLdk_at zLd_200_ok (k := 37) rfl
theorem dL_law_504 : decode cL_law 504 = .ok (.invokevirtual 129, 3) := zLdk_at zLd_200_ok (k := 38) rfl
theorem dL_law_507 : decode cL_law 507 = .ok (.istore 7, 2) := zLdk_at zLd_200_ok (k := 39) rfl
theorem dL_law_509 : decode cL_law 509 = .ok (.aload_n 2, 1) := zLdk_at zLd_200_ok (k := 40) rfl
theorem dL_law_510 : decode cL_law 510 = .ok (.invokevirtual 111, 3) := zLdk_at zLd_200_ok (k := 41) rfl
theorem dL_law_513 : decode cL_law 513 = .ok (.iload 6, 2) := zLdk_at zLd_200_ok (k := 42) rfl
theorem dL_law_515 : decode cL_law 515 = .ok (.if_icmp .eq 5, 3) := zLdk_at zLd_200_ok (k := 43) rfl
theorem dL_law_518 : decode cL_law 518 = .ok (.iconst 0, 1) := zLdk_at zLd_200_ok (k := 44) rfl
theorem dL_law_519 : decode cL_law 519 = .ok (.ireturn, 1) := zLdk_at zLd_200_ok (k := 45) rfl
theorem dL_law_520 : decode cL_law 520 = .ok (.iload 6, 2) := zLdk_at zLd_200_ok (k := 46) rfl
theorem dL_law_522 : decode cL_law 522 = .ok (.ifCond .ne 15, 3) := zLdk_at zLd_200_ok (k := 47) rfl
theorem dL_law_525 : decode cL_law 525 = .ok (.aload_n 3, 1) := zLdk_at zLd_200_ok (k := 48) rfl
theorem dL_law_526 : decode cL_law 526 = .ok (.iconst 0, 1) := zLdk_at zLd_200_ok (k := 49) rfl
def zLd_250 : List (Nat × Instr × Nat) := [(527, .laload, 1), (528, .iload 7, 2), (530, .i2l, 1), (531, .lcmp, 1), (532, .ifCond .eq 5, 3), (535, .iconst 0, 1), (536, .ireturn, 1), (537, .goto 1155, 3), (540, .aload_n 1, 1), (541, .aload_n 0, 1), (542, .iload 5, 2), (544, .iconst 1, 1), (545, .iadd, 1), (546, .iaload, 1), (547, .aload_n 3, 1), (548, .invokestatic 130, 3), (551, .istore 6, 2), (553, .aload_n 2, 1), (554, .aload_n 0, 1), (555, .iload 5, 2), (557, .iconst 1, 1), (558, .iadd, 1), (559, .iaload, 1), (560, .invokevirtual 132, 3), (563, .istore 7, 2), (565, .aload_n 2, 1), (566, .invokevirtual 111, 3), (569, .iload 6, 2), (571, .if_icmp .eq 5, 3), (574, .iconst 0, 1), (575, .ireturn, 1), (576, .iload 6, 2), (578, .ifCond .ne 15, 3), (581, .aload_n 3, 1), (582, .iconst 0, 1), (583, .laload, 1), (584, .iload 7, 2), (586, .i2l, 1), (587, .lcmp, 1), (588, .ifCond .eq 5, 3), (591, .iconst 0, 1), (592, .ireturn, 1), (593, .goto 1099, 3), (596, .aload_n 1, 1), (597, .aload_n 0, 1), (598, .iload 5, 2), (600, .iconst 1, 1), (601, .iadd, 1), (602, .iaload, 1), (603, .aload_n 0, 1)]
theorem zLd_250_ok : zLdk cL_law zLd_250 = true := by decide +kernel
theorem dL_law_527 : decode cL_law 527 = .ok (.laload, 1) := zLdk_at zLd_250_ok (k := 0) rfl
theorem dL_law_528 : decode cL_law 528 = .ok (.iload 7, 2) := zLdk_at zLd_250_ok (k := 1) rfl
theorem dL_law_530 : decode cL_law 530 = .ok (.i2l, 1) := zLdk_at zLd_250_ok (k := 2) rfl
theorem dL_law_531 : decode cL_law 531 = .ok (.lcmp, 1) := zLdk_at zLd_250_ok (k := 3) rfl
theorem dL_law_532 : decode cL_law 532 = .ok (.ifCond .eq 5, 3) := zLdk_at zLd_250_ok (k := 4) rfl
theorem dL_law_535 : decode cL_law 535 = .ok (.iconst 0, 1) := zLdk_at zLd_250_ok (k := 5) rfl
theorem dL_law_536 : decode cL_law 536 = .ok (.ireturn, 1) := zLdk_at zLd_250_ok (k := 6) rfl
theorem dL_law_537 : decode cL_law 537 = .ok (.goto 1155, 3) := zLdk_at zLd_250_ok (k := 7) rfl
theorem dL_law_540 : decode cL_law 540 = .ok (.aload_n 1, 1) := zLdk_at zLd_250_ok (k := 8) rfl
theorem dL_law_541 : decode cL_law 541 = .ok (.aload_n 0, 1) := zLdk_at zLd_250_ok (k := 9) rfl
theorem dL_law_542 : decode cL_law 542 = .ok (.iload 5, 2) := zLdk_at zLd_250_ok (k := 10) rfl
theorem dL_law_544 : decode cL_law 544 = .ok (.iconst 1, 1) := zLdk_at zLd_250_ok (k := 11) rfl
theorem dL_law_545 : decode cL_law 545 = .ok (.iadd, 1) := zLdk_at zLd_250_ok (k := 12) rfl
theorem dL_law_546 : decode cL_law 546 = .ok (.iaload, 1) := zLdk_at zLd_250_ok (k := 13) rfl
theorem dL_law_547 : decode cL_law 547 = .ok (.aload_n 3, 1) := zLdk_at zLd_250_ok (k := 14) rfl
theorem dL_law_548 : decode cL_law 548 = .ok (.invokestatic 130, 3) := zLdk_at zLd_250_ok (k := 15) rfl
theorem dL_law_551 : decode cL_law 551 = .ok (.istore 6, 2) := zLdk_at zLd_250_ok (k := 16) rfl
theorem dL_law_553 : decode cL_law 553 = .ok (.aload_n 2, 1) := zLdk_at zLd_250_ok (k := 17) rfl
theorem dL_law_554 : decode cL_law 554 = .ok (.aload_n 0, 1) := zLdk_at zLd_250_ok (k := 18) rfl
theorem dL_law_555 : decode cL_law 555 = .ok (.iload 5, 2) := zLdk_at zLd_250_ok (k := 19) rfl
theorem dL_law_557 : decode cL_law 557 = .ok (.iconst 1, 1) := zLdk_at zLd_250_ok (k := 20) rfl
theorem dL_law_558 : decode cL_law 558 = .ok (.iadd, 1) := zLdk_at zLd_250_ok (k := 21) rfl
theorem dL_law_559 : decode cL_law 559 = .ok (.iaload, 1) := zLdk_at zLd_250_ok (k := 22) rfl
theorem dL_law_560 : decode cL_law 560 = .ok (.invokevirtual 132, 3) := zLdk_at zLd_250_ok (k := 23) rfl
theorem dL_law_563 : decode cL_law 563 = .ok (.istore 7, 2) := zLdk_at zLd_250_ok (k := 24) rfl
theorem dL_law_565 : decode cL_law 565 = .ok (.aload_n 2, 1) := zLdk_at zLd_250_ok (k := 25) rfl
theorem dL_law_566 : decode cL_law 566 = .ok (.invokevirtual 111, 3) := zLdk_at zLd_250_ok (k := 26) rfl
theorem dL_law_569 : decode cL_law 569 = .ok (.iload 6, 2) := zLdk_at zLd_250_ok (k := 27) rfl
theorem dL_law_571 : decode cL_law 571 = .ok (.if_icmp .eq 5, 3) := zLdk_at zLd_250_ok (k := 28) rfl
theorem dL_law_574 : decode cL_law 574 = .ok (.iconst 0, 1) := zLdk_at zLd_250_ok (k := 29) rfl
theorem dL_law_575 : decode cL_law 575 = .ok (.ireturn, 1) := zLdk_at zLd_250_ok (k := 30) rfl
theorem dL_law_576 : decode cL_law 576 = .ok (.iload 6, 2) := zLdk_at zLd_250_ok (k := 31) rfl
theorem dL_law_578 : decode cL_law 578 = .ok (.ifCond .ne 15, 3) := zLdk_at zLd_250_ok (k := 32) rfl
theorem dL_law_581 : decode cL_law 581 = .ok (.aload_n 3, 1) := zLdk_at zLd_250_ok (k := 33) rfl
theorem dL_law_582 : decode cL_law 582 = .ok (.iconst 0, 1) := zLdk_at zLd_250_ok (k := 34) rfl
theorem dL_law_583 : decode cL_law 583 = .ok (.laload, 1) := zLdk_at zLd_250_ok (k := 35) rfl
theorem dL_law_584 : decode cL_law 584 = .ok (.iload 7, 2) := zLdk_at zLd_250_ok (k := 36) rfl
theorem dL_law_586 : decode cL_law 586 = .ok (.i2l, 1) := zLdk_at zLd_250_ok (k := 37) rfl
theorem dL_law_587 : decode cL_law 587 = .ok (.lcmp, 1) := zLdk_at zLd_250_ok (k := 38) rfl
theorem dL_law_588 : decode cL_law 588 = .ok (.ifCond .eq 5, 3) := zLdk_at zLd_250_ok (k := 39) rfl
theorem dL_law_591 : decode cL_law 591 = .ok (.iconst 0, 1) := zLdk_at zLd_250_ok (k := 40) rfl
theorem dL_law_592 : decode cL_law 592 = .ok (.ireturn, 1) := zLdk_at zLd_250_ok (k := 41) rfl
theorem dL_law_593 : decode cL_law 593 = .ok (.goto 1099, 3) := zLdk_at zLd_250_ok (k := 42) rfl
theorem dL_law_596 : decode cL_law 596 = .ok (.aload_n 1, 1) := zLdk_at zLd_250_ok (k := 43) rfl
theorem dL_law_597 : decode cL_law 597 = .ok (.aload_n 0, 1) := zLdk_at zLd_250_ok (k := 44) rfl
theorem dL_law_598 : decode cL_law 598 = .ok (.iload 5, 2) := zLdk_at zLd_250_ok (k := 45) rfl
theorem dL_law_600 : decode cL_law 600 = .ok (.iconst 1, 1) := zLdk_at zLd_250_ok (k := 46) rfl
theorem dL_law_601 : decode cL_law 601 = .ok (.iadd, 1) := zLdk_at zLd_250_ok (k := 47) rfl
theorem dL_law_602 : decode cL_law 602 = .ok (.iaload, 1) := zLdk_at zLd_250_ok (k := 48) rfl
theorem dL_law_603 : decode cL_law 603 = .ok (.aload_n 0, 1) := zLdk_at zLd_250_ok (k := 49) rfl
def zLd_300 : List (Nat × Instr × Nat) := [(604, .iload 5, 2), (606, .iconst 2, 1), (607, .iadd, 1), (608, .iaload, 1), (609, .aload_n 3, 1), (610, .invokestatic 133, 3), (613, .istore 6, 2), (615, .aload_n 2, 1), (616, .aload_n 0, 1), (617, .iload 5, 2), (619, .iconst 1, 1), (620, .iadd, 1), (621, .iaload, 1), (622, .aload_n 0, 1), (623, .iload 5, 2), (625, .iconst 2, 1), (626, .iadd, 1), (627, .iaload, 1), (628, .invokevirtual 135, 3), (631, .istore 7, 2), (633, .aload_n 2, 1), (634, .invokevirtual 111, 3), (637, .iload 6, 2), (639, .if_icmp .eq 5, 3), (642, .iconst 0, 1)]
theorem zLd_300_ok : zLdk cL_law zLd_300 = true := by decide +kernel
theorem dL_law_604 : decode cL_law 604 = .ok (.iload 5, 2) := zLdk_at zLd_300_ok (k := 0) rfl
theorem dL_law_606 : decode cL_law 606 = .ok (.iconst 2, 1) := zLdk_at zLd_300_ok (k := 1) rfl
theorem dL_law_607 : decode cL_law 607 = .ok (.iadd, 1) := zLdk_at zLd_300_ok (k := 2) rfl
theorem dL_law_608 : decode cL_law 608 = .ok (.iaload, 1) := zLdk_at zLd_300_ok (k := 3) rfl
theorem dL_law_609 : decode cL_law 609 = .ok (.aload_n 3, 1) := zLdk_at zLd_300_ok (k := 4) rfl
theorem dL_law_610 : decode cL_law 610 = .ok (.invokestatic 133, 3) := zLdk_at zLd_300_ok (k := 5) rfl
theorem dL_law_613 : decode cL_law 613 = .ok (.istore 6, 2) := zLdk_at zLd_300_ok (k := 6) rfl
theorem dL_law_615 : decode cL_law 615 = .ok (.aload_n 2, 1) := zLdk_at zLd_300_ok (k := 7) rfl
theorem dL_law_616 : decode cL_law 616 = .ok (.aload_n 0, 1) := zLdk_at zLd_300_ok (k := 8) rfl
theorem dL_law_617 : decode cL_law 617 = .ok (.iload 5, 2) := zLdk_at zLd_300_ok (k := 9) rfl
theorem dL_law_619 : decode cL_law 619 = .ok (.iconst 1, 1) := zLdk_at zLd_300_ok (k := 10) rfl
theorem dL_law_620 : decode cL_law 620 = .ok (.iadd, 1) := zLdk_at zLd_300_ok (k := 11) rfl
theorem dL_law_621 : decode cL_law 621 = .ok (.iaload, 1) := zLdk_at zLd_300_ok (k := 12) rfl
theorem dL_law_622 : decode cL_law 622 = .ok (.aload_n 0, 1) := zLdk_at zLd_300_ok (k := 13) rfl
theorem dL_law_623 : decode cL_law 623 = .ok (.iload 5, 2) := zLdk_at zLd_300_ok (k := 14) rfl
theorem dL_law_625 : decode cL_law 625 = .ok (.iconst 2, 1) := zLdk_at zLd_300_ok (k := 15) rfl
theorem dL_law_626 : decode cL_law 626 = .ok (.iadd, 1) := zLdk_at zLd_300_ok (k := 16) rfl
theorem dL_law_627 : decode cL_law 627 = .ok (.iaload, 1) := zLdk_at zLd_300_ok (k := 17) rfl
theorem dL_law_628 : decode cL_law 628 = .ok (.invokevirtual 135, 3) := zLdk_at zLd_300_ok (k := 18) rfl
theorem dL_law_631 : decode cL_law 631 = .ok (.istore 7, 2) := zLdk_at zLd_300_ok (k := 19) rfl
theorem dL_law_633 : decode cL_law 633 = .ok (.aload_n 2, 1) := zLdk_at zLd_300_ok (k := 20) rfl
theorem dL_law_634 : decode cL_law 634 = .ok (.invokevirtual 111, 3) := zLdk_at zLd_300_ok (k := 21) rfl
theorem dL_law_637 : decode cL_law 637 = .ok (.iload 6, 2) := zLdk_at zLd_300_ok (k := 22) rfl
theorem dL_law_639 : decode cL_law 639 = .ok (.if_icmp .eq 5, 3) := zLdk_at zLd_300_ok (k := 23) rfl
theorem dL_law_642 : decode cL_law 642 = .ok (.iconst 0, 1) := zLdk_at zLd_300_ok (k := 24) rfl
