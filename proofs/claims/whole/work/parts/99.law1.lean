/-! ===== printed by wip/whole/gen99.py: the instructions of the law ===== -/
def zLdk (c : ByteArray) (L : List (Nat × Instr × Nat)) : Bool := L.all fun q => decide (decode c q.1 = .ok (q.2.1, q.2.2))
theorem zLdk_at {c : ByteArray} {L : List (Nat × Instr × Nat)} (h : zLdk c L = true) {pc n k : Nat} {i : Instr} (hk : L[k]? = some (pc, i, n)) : decode c pc = .ok (i, n) := by
  have h1 := List.all_eq_true.mp h _ (List.mem_of_getElem? hk)
  exact of_decide_eq_true h1
def zLd_0 : List (Nat × Instr × Nat) := [(0, .new 8, 3), (3, .dup, 1), (4, .invokespecial 101, 3), (7, .astore_n 1, 1), (8, .new 102, 3), (11, .dup, 1), (12, .invokespecial 104, 3), (15, .astore_n 2, 1), (16, .iconst 1, 1), (17, .newarray .long, 2), (19, .astore_n 3, 1), (20, .iconst 1, 1), (21, .newarray .double, 2), (23, .astore 4, 2), (25, .iconst 0, 1), (26, .istore 5, 2), (28, .iload 5, 2), (30, .aload_n 0, 1), (31, .arraylength, 1), (32, .iconst 3, 1), (33, .isub, 1), (34, .if_icmp .gt 1664, 3), (37, .aload_n 0, 1), (38, .iload 5, 2), (40, .iaload, 1), (41, .bipush 31, 2), (43, .iand, 1), (44, .tableswitch 1648 0 29 #[136, 192, 248, 304, 360, 428, 496, 552, 620, 633, 701, 757, 825, 881, 894, 962, 1006, 1071, 1127, 1140, 1208, 1252, 1308, 1321, 1389, 1445, 1503, 1547, 1591, 1604], 136), (180, .aload_n 1, 1), (181, .aload_n 0, 1), (182, .iload 5, 2), (184, .iconst 1, 1), (185, .iadd, 1), (186, .iaload, 1), (187, .aload_n 3, 1), (188, .invokestatic 105, 3), (191, .istore 6, 2), (193, .aload_n 2, 1), (194, .aload_n 0, 1), (195, .iload 5, 2), (197, .iconst 1, 1), (198, .iadd, 1), (199, .iaload, 1), (200, .invokevirtual 110, 3), (203, .istore 7, 2), (205, .aload_n 2, 1), (206, .invokevirtual 111, 3), (209, .iload 6, 2), (211, .if_icmp .eq 5, 3), (214, .iconst 0, 1)]
theorem zLd_0_ok : zLdk cL_law zLd_0 = true := by decide +kernel
theorem dL_law_0 : decode cL_law 0 = .ok (.new 8, 3) := zLdk_at zLd_0_ok (k := 0) rfl
theorem dL_law_3 : decode cL_law 3 = .ok (.dup, 1) := zLdk_at zLd_0_ok (k := 1) rfl
theorem dL_law_4 : decode cL_law 4 = .ok (.invokespecial 101, 3) := zLdk_at zLd_0_ok (k := 2) rfl
theorem dL_law_7 : decode cL_law 7 = .ok (.astore_n 1, 1) := zLdk_at zLd_0_ok (k := 3) rfl
theorem dL_law_8 : decode cL_law 8 = .ok (.new 102, 3) := zLdk_at zLd_0_ok (k := 4) rfl
theorem dL_law_11 : decode cL_law 11 = .ok (.dup, 1) := zLdk_at zLd_0_ok (k := 5) rfl
theorem dL_law_12 : decode cL_law 12 = .ok (.invokespecial 104, 3) := zLdk_at zLd_0_ok (k := 6) rfl
theorem dL_law_15 : decode cL_law 15 = .ok (.astore_n 2, 1) := zLdk_at zLd_0_ok (k := 7) rfl
theorem dL_law_16 : decode cL_law 16 = .ok (.iconst 1, 1) := zLdk_at zLd_0_ok (k := 8) rfl
theorem dL_law_17 : decode cL_law 17 = .ok (.newarray .long, 2) := zLdk_at zLd_0_ok (k := 9) rfl
theorem dL_law_19 : decode cL_law 19 = .ok (.astore_n 3, 1) := zLdk_at zLd_0_ok (k := 10) rfl
theorem dL_law_20 : decode cL_law 20 = .ok (.iconst 1, 1) := zLdk_at zLd_0_ok (k := 11) rfl
theorem dL_law_21 : decode cL_law 21 = .ok (.newarray .double, 2) := zLdk_at zLd_0_ok (k := 12) rfl
theorem dL_law_23 : decode cL_law 23 = .ok (.astore 4, 2) := zLdk_at zLd_0_ok (k := 13) rfl
theorem dL_law_25 : decode cL_law 25 = .ok (.iconst 0, 1) := zLdk_at zLd_0_ok (k := 14) rfl
theorem dL_law_26 : decode cL_law 26 = .ok (.istore 5, 2) := zLdk_at zLd_0_ok (k := 15) rfl
theorem dL_law_28 : decode cL_law 28 = .ok (.iload 5, 2) := zLdk_at zLd_0_ok (k := 16) rfl
theorem dL_law_30 : decode cL_law 30 = .ok (.aload_n 0, 1) := zLdk_at zLd_0_ok (k := 17) rfl
theorem dL_law_31 : decode cL_law 31 = .ok (.arraylength, 1) := zLdk_at zLd_0_ok (k := 18) rfl
theorem dL_law_32 : decode cL_law 32 = .ok (.iconst 3, 1) := zLdk_at zLd_0_ok (k := 19) rfl
theorem dL_law_33 : decode cL_law 33 = .ok (.isub, 1) := zLdk_at zLd_0_ok (k := 20) rfl
theorem dL_law_34 : decode cL_law 34 = .ok (.if_icmp .gt 1664, 3) := zLdk_at zLd_0_ok (k := 21) rfl
theorem dL_law_37 : decode cL_law 37 = .ok (.aload_n 0, 1) := zLdk_at zLd_0_ok (k := 22) rfl
theorem dL_law_38 : decode cL_law 38 = .ok (.iload 5, 2) := zLdk_at zLd_0_ok (k := 23) rfl
theorem dL_law_40 : decode cL_law 40 = .ok (.iaload, 1) := zLdk_at zLd_0_ok (k := 24) rfl
theorem dL_law_41 : decode cL_law 41 = .ok (.bipush 31, 2) := zLdk_at zLd_0_ok (k := 25) rfl
theorem dL_law_43 : decode cL_law 43 = .ok (.iand, 1) := zLdk_at zLd_0_ok (k := 26) rfl
theorem dL_law_44 : decode cL_law 44 = .ok (.tableswitch 1648 0 29 #[136, 192, 248, 304, 360, 428, 496, 552, 620, 633, 701, 757, 825, 881, 894, 962, 1006, 1071, 1127, 1140, 1208, 1252, 1308, 1321, 1389, 1445, 1503, 1547, 1591, 1604], 136) := zLdk_at zLd_0_ok (k := 27) rfl
theorem dL_law_180 : decode cL_law 180 = .ok (.aload_n 1, 1) := zLdk_at zLd_0_ok (k := 28) rfl
theorem dL_law_181 : decode cL_law 181 = .ok (.aload_n 0, 1) := zLdk_at zLd_0_ok (k := 29) rfl
theorem dL_law_182 : decode cL_law 182 = .ok (.iload 5, 2) := zLdk_at zLd_0_ok (k := 30) rfl
theorem dL_law_184 : decode cL_law 184 = .ok (.iconst 1, 1) := zLdk_at zLd_0_ok (k := 31) rfl
theorem dL_law_185 : decode cL_law 185 = .ok (.iadd, 1) := zLdk_at zLd_0_ok (k := 32) rfl
theorem dL_law_186 : decode cL_law 186 = .ok (.iaload, 1) := zLdk_at zLd_0_ok (k := 33) rfl
theorem dL_law_187 : decode cL_law 187 = .ok (.aload_n 3, 1) := zLdk_at zLd_0_ok (k := 34) rfl
theorem dL_law_188 : decode cL_law 188 = .ok (.invokestatic 105, 3) := zLdk_at zLd_0_ok (k := 35) rfl
theorem dL_law_191 : decode cL_law 191 = .ok (.istore 6, 2) := zLdk_at zLd_0_ok (k := 36) rfl
theorem dL_law_193 : decode cL_law 193 = .ok (.aload_n 2, 1) := zLdk_at zLd_0_ok (k := 37) rfl
theorem dL_law_194 : decode cL_law 194 = .ok (.aload_n 0, 1) := zLdk_at zLd_0_ok (k := 38) rfl
theorem dL_law_195 : decode cL_law 195 = .ok (.iload 5, 2) := zLdk_at zLd_0_ok (k := 39) rfl
theorem dL_law_197 : decode cL_law 197 = .ok (.iconst 1, 1) := zLdk_at zLd_0_ok (k := 40) rfl
theorem dL_law_198 : decode cL_law 198 = .ok (.iadd, 1) := zLdk_at zLd_0_ok (k := 41) rfl
theorem dL_law_199 : decode cL_law 199 = .ok (.iaload, 1) := zLdk_at zLd_0_ok (k := 42) rfl
theorem dL_law_200 : decode cL_law 200 = .ok (.invokevirtual 110, 3) := zLdk_at zLd_0_ok (k := 43) rfl
theorem dL_law_203 : decode cL_law 203 = .ok (.istore 7, 2) := zLdk_at zLd_0_ok (k := 44) rfl
theorem dL_law_205 : decode cL_law 205 = .ok (.aload_n 2, 1) := zLdk_at zLd_0_ok (k := 45) rfl
theorem dL_law_206 : decode cL_law 206 = .ok (.invokevirtual 111, 3) := zLdk_at zLd_0_ok (k := 46) rfl
theorem dL_law_209 : decode cL_law 209 = .ok (.iload 6, 2) := zLdk_at zLd_0_ok (k := 47) rfl
theorem dL_law_211 : decode cL_law 211 = .ok (.if_icmp .eq 5, 3) := zLdk_at zLd_0_ok (k := 48) rfl
theorem dL_law_214 : decode cL_law 214 = .ok (.iconst 0, 1) := zLdk_at zLd_0_ok (k := 49) rfl
