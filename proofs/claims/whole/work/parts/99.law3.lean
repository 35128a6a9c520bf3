/-! ===== printed by wip/whole/gen99.py: the instructions of the law ===== -/
def zLd_650 : List (Nat × Instr × Nat) := [(1166, .iconst 0, 1), (1167, .ireturn, 1), (1168, .goto 524, 3), (1171, .aload_n 1, 1), (1172, .invokevirtual 170, 3), (1175, .aload_n 2, 1), (1176, .invokevirtual 173, 3), (1179, .if_icmp .eq 513, 3), (1182, .iconst 0, 1), (1183, .ireturn, 1), (1184, .aload_n 1, 1), (1185, .aload_n 0, 1), (1186, .iload 5, 2), (1188, .iconst 1, 1), (1189, .iadd, 1), (1190, .iaload, 1), (1191, .aload_n 0, 1), (1192, .iload 5, 2), (1194, .iconst 2, 1), (1195, .iadd, 1), (1196, .iaload, 1), (1197, .aload_n 3, 1), (1198, .invokestatic 174, 3), (1201, .istore 6, 2), (1203, .aload_n 2, 1), (1204, .aload_n 0, 1), (1205, .iload 5, 2), (1207, .iconst 1, 1), (1208, .iadd, 1), (1209, .iaload, 1), (1210, .aload_n 0, 1), (1211, .iload 5, 2), (1213, .iconst 2, 1), (1214, .iadd, 1), (1215, .iaload, 1), (1216, .invokevirtual 176, 3), (1219, .istore 7, 2), (1221, .aload_n 2, 1), (1222, .invokevirtual 111, 3), (1225, .iload 6, 2), (1227, .if_icmp .eq 5, 3), (1230, .iconst 0, 1), (1231, .ireturn, 1), (1232, .iload 6, 2), (1234, .ifCond .ne 15, 3), (1237, .aload_n 3, 1), (1238, .iconst 0, 1), (1239, .laload, 1), (1240, .iload 7, 2), (1242, .i2l, 1)]
theorem zLd_650_ok : zLdk cL_law zLd_650 = true := by decide +kernel
theorem dL_law_1166 : decode cL_law 1166 = .ok (.iconst 0, 1) := zLdk_at zLd_650_ok (k := 0) rfl
theorem dL_law_1167 : decode cL_law 1167 = .ok (.ireturn, 1) := zLdk_at zLd_650_ok (k := 1) rfl
theorem dL_law_1168 : decode cL_law 1168 = .ok (.goto 524, 3) := zLdk_at zLd_650_ok (k := 2) rfl
theorem dL_law_1171 : decode cL_law 1171 = .ok (.aload_n 1, 1) := zLdk_at zLd_650_ok (k := 3) rfl
theorem dL_law_1172 : decode cL_law 1172 = .ok (.invokevirtual 170, 3) := zLdk_at zLd_650_ok (k := 4) rfl
theorem dL_law_1175 : decode cL_law 1175 = .ok (.aload_n 2, 1) := zLdk_at zLd_650_ok (k := 5) rfl
theorem dL_law_1176 : decode cL_law 1176 = .ok (.invokevirtual 173, 3) := zLdk_at zLd_650_ok (k := 6) rfl
theorem dL_law_1179 : decode cL_law 1179 = .ok (.if_icmp .eq 513, 3) := zLdk_at zLd_650_ok (k := 7) rfl
theorem dL_law_1182 : decode cL_law 1182 = .ok (.iconst 0, 1) := zLdk_at zLd_650_ok (k := 8) rfl
theorem dL_law_1183 : decode cL_law 1183 = .ok (.ireturn, 1) := zLdk_at zLd_650_ok (k := 9) rfl
theorem dL_law_1184 : decode cL_law 1184 = .ok (.aload_n 1, 1) := zLdk_at zLd_650_ok (k := 10) rfl
theorem dL_law_1185 : decode cL_law 1185 = .ok (.aload_n 0, 1) := zLdk_at zLd_650_ok (k := 11) rfl
theorem dL_law_1186 : decode cL_law 1186 = .ok (.iload 5, 2) := zLdk_at zLd_650_ok (k := 12) rfl
theorem dL_law_1188 : decode cL_law 1188 = .ok (.iconst 1, 1) := zLdk_at zLd_650_ok (k := 13) rfl
theorem dL_law_1189 : decode cL_law 1189 = .ok (.iadd, 1) := zLdk_at zLd_650_ok (k := 14) rfl
theorem dL_law_1190 : decode cL_law 1190 = .ok (.iaload, 1) := zLdk_at zLd_650_ok (k := 15) rfl
theorem dL_law_1191 : decode cL_law 1191 = .ok (.aload_n 0, 1) := zLdk_at zLd_650_ok (k := 16) rfl
theorem dL_law_1192 : decode cL_law 1192 = .ok (.iload 5, 2) := zLdk_at zLd_650_ok (k := 17) rfl
theorem dL_law_1194 : decode cL_law 1194 = .ok (.iconst 2, 1) := zLdk_at zLd_650_ok (k := 18) rfl
theorem dL_law_1195 : decode cL_law 1195 = .ok (.iadd, 1) := zLdk_at zLd_650_ok (k := 19) rfl
theorem dL_law_1196 : decode cL_law 1196 = .ok (.iaload, 1) := zLdk_at zLd_650_ok (k := 20) rfl
theorem dL_law_1197 : decode cL_law 1197 = .ok (.aload_n 3, 1) := zLdk_at zLd_650_ok (k := 21) rfl
theorem dL_law_1198 : decode cL_law 1198 = .ok (.invokestatic 174, 3) := zLdk_at zLd_650_ok (k := 22) rfl
theorem dL_law_1201 : decode cL_law 1201 = .ok (.istore 6, 2) := zLdk_at zLd_650_ok (k := 23) rfl
theorem dL_law_1203 : decode cL_law 1203 = .ok (.aload_n 2, 1) := zLdk_at zLd_650_ok (k := 24) rfl
theorem dL_law_1204 : decode cL_law 1204 = .ok (.aload_n 0, 1) := zLdk_at zLd_650_ok (k := 25) rfl
theorem dL_law_1205 : decode cL_law 1205 = .ok (.iload 5, 2) := zLdk_at zLd_650_ok (k := 26) rfl
theorem dL_law_1207 : decode cL_law 1207 = .ok (.iconst 1, 1) := zLdk_at zLd_650_ok (k := 27) rfl
theorem dL_law_1208 : decode cL_law 1208 = .ok (.iadd, 1) := zLdk_at zLd_650_ok (k := 28) rfl
theorem dL_law_1209 : decode cL_law 1209 = .ok (.iaload, 1) := zLdk_at zLd_650_ok (k := 29) rfl
theorem dL_law_1210 : decode cL_law 1210 = .ok (.aload_n 0, 1) := zLdk_at zLd_650_ok (k := 30) rfl
theorem dL_law_1211 : decode cL_law 1211 = .ok (.iload 5, 2) := zLdk_at zLd_650_ok (k := 31) rfl
theorem dL_law_1213 : decode cL_law 1213 = .ok (.iconst 2, 1) := zLdk_at zLd_650_ok (k := 32) rfl
theorem dL_law_1214 : decode cL_law 1214 = .ok (.iadd, 1) := zLdk_at zLd_650_ok (k := 33) rfl
theorem dL_law_1215 : decode cL_law 1215 = .ok (.iaload, 1) := zLdk_at zLd_650_ok (k := 34) rfl
theorem dL_law_1216 : decode cL_law 1216 = .ok (.invokevirtual 176, 3) := zLdk_at zLd_650_ok (k := 35) rfl
theorem dL_law_1219 : decode cL_law 1219 = .ok (.istore 7, 2) := zLdk_at zLd_650_ok (k := 36) rfl
theorem dL_law_1221 : decode cL_law 1221 = .ok (.aload_n 2, 1) := zLdk_at zLd_650_ok (k := 37) rfl
theorem dL_law_1222 : decode cL_law 1222 = .ok (.invokevirtual 111, 3) := zLdk_at zLd_650_ok (k := 38) rfl
theorem dL_law_1225 : decode cL_law 1225 = .ok (.iload 6, 2) := zLdk_at zLd_650_ok (k := 39) rfl
theorem dL_law_1227 : decode cL_law 1227 = .ok (.if_icmp .eq 5, 3) := zLdk_at zLd_650_ok (k := 40) rfl
theorem dL_law_1230 : decode cL_law 1230 = .ok (.iconst 0, 1) := zLdk_at zLd_650_ok (k := 41) rfl
theorem dL_law_1231 : decode cL_law 1231 = .ok (.ireturn, 1) := zLdk_at zLd_650_ok (k := 42) rfl
theorem dL_law_1232 : decode cL_law 1232 = .ok (.iload 6, 2) := zLdk_at zLd_650_ok (k := 43) rfl
theorem dL_law_1234 : decode cL_law 1234 = .ok (.ifCond .ne 15, 3) := zLdk_at zLd_650_ok (k := 44) rfl
theorem dL_law_1237 : decode cL_law 1237 = .ok (.aload_n 3, 1) := zLdk_at zLd_650_ok (k := 45) rfl
theorem dL_law_1238 : decode cL_law 1238 = .ok (.iconst 0, 1) := zLdk_at zLd_650_ok (k := 46) rfl
theorem dL_law_1239 : decode cL_law 1239 = .ok (.laload, 1) := zLdk_at zLd_650_ok (k := 47) rfl
theorem dL_law_1240 : decode cL_law 1240 = .ok (.iload 7, 2) := zLdk_at zLd_650_ok (k := 48) rfl
theorem dL_law_1242 : decode cL_law 1242 = .ok (.i2l, 1) := zLdk_at zLd_650_ok (k := 49) rfl
def zLd_700 : List (Nat × Instr × Nat) := [(1243, .lcmp, 1), (1244, .ifCond .eq 5, 3), (1247, .iconst 0, 1), (1248, .ireturn, 1), (1249, .goto 443, 3), (1252, .aload_n 1, 1), (1253, .aload_n 3, 1), (1254, .invokestatic 177, 3), (1257, .istore 6, 2), (1259, .aload_n 2, 1), (1260, .invokevirtual 179, 3), (1263, .istore 7, 2), (1265, .aload_n 2, 1), (1266, .invokevirtual 111, 3), (1269, .iload 6, 2), (1271, .if_icmp .eq 5, 3), (1274, .iconst 0, 1), (1275, .ireturn, 1), (1276, .iload 6, 2), (1278, .ifCond .ne 15, 3), (1281, .aload_n 3, 1), (1282, .iconst 0, 1), (1283, .laload, 1), (1284, .iload 7, 2), (1286, .i2l, 1), (1287, .lcmp, 1), (1288, .ifCond .eq 5, 3), (1291, .iconst 0, 1), (1292, .ireturn, 1), (1293, .goto 399, 3), (1296, .aload_n 1, 1), (1297, .aload_n 0, 1), (1298, .iload 5, 2), (1300, .iconst 1, 1), (1301, .iadd, 1), (1302, .iaload, 1), (1303, .aload_n 3, 1), (1304, .invokestatic 180, 3), (1307, .istore 6, 2), (1309, .aload_n 2, 1), (1310, .aload_n 0, 1), (1311, .iload 5, 2), (1313, .iconst 1, 1), (1314, .iadd, 1), (1315, .iaload, 1), (1316, .invokevirtual 182, 3), (1319, .istore 7, 2), (1321, .aload_n 2, 1), (1322, .invokevirtual 111, 3), (1325, .iload 6, 2)]
theorem zLd_700_ok : zLdk cL_law zLd_700 = true := by decide +kernel
theorem dL_law_1243 : decode cL_law 1243 = .ok (.lcmp, 1) := zLdk_at zLd_700_ok (k := 0) rfl
theorem dL_law_1244 : decode cL_law 1244 = .ok (.ifCond .eq 5, 3) := zLdk_at zLd_700_ok (k := 1) rfl
theorem dL_law_1247 : decode cL_law 1247 = .ok (.iconst 0, 1) := zLdk_at zLd_700_ok (k := 2) rfl
theorem dL_law_1248 : decode cL_law 1248 = .ok (.ireturn, 1) := zLdk_at zLd_700_ok (k := 3) rfl
theorem dL_law_1249 : decode cL_law 1249 = .ok (.goto 443, 3) := zLdk_at zLd_700_ok (k := 4) rfl
theorem dL_law_1252 : decode cL_law 1252 = .ok (.aload_n 1, 1) := zLdk_at zLd_700_ok (k := 5) rfl
theorem dL_law_1253 : decode cL_law 1253 = .ok (.aload_n 3, 1) := zLdk_at zLd_700_ok (k := 6) rfl
theorem dL_law_1254 : decode cL_law 1254 = .ok (.invokestatic 177, 3) := zLdk_at zLd_700_ok (k := 7) rfl
theorem dL_law_1257 : decode cL_law 1257 = .ok (.istore 6, 2) := zLdk_at zLd_700_ok (k := 8) rfl
theorem dL_law_1259 : decode cL_law 1259 = .ok (.aload_n 2, 1) := zLdk_at zLd_700_ok (k := 9) rfl
theorem dL_law_1260 : decode cL_law 1260 = .ok (.invokevirtual 179, 3) := zLdk_at zLd_700_ok (k := 10) rfl
theorem dL_law_1263 : decode cL_law 1263 = .ok (.istore 7, 2) := zLdk_at zLd_700_ok (k := 11) rfl
theorem dL_law_1265 : decode cL_law 1265 = .ok (.aload_n 2, 1) := zLdk_at zLd_700_ok (k := 12) rfl
theorem dL_law_1266 : decode cL_law 1266 = .ok (.invokevirtual 111, 3) := zLdk_at zLd_700_ok (k := 13) rfl
theorem dL_law_1269 : decode cL_law 1269 = .ok (.iload 6, 2) := zLdk_at zLd_700_ok (k := 14) rfl
theorem dL_law_1271 : decode cL_law 1271 = .ok (.if_icmp .eq 5, 3) := zLdk_at zLd_700_ok (k := 15) rfl
theorem dL_law_1274 : decode cL_law 1274 = .ok (.iconst 0, 1) := zLdk_at zLd_700_ok (k := 16) rfl
theorem dL_law_1275 : decode cL_law 1275 = .ok (.ireturn, 1) := zLdk_at zLd_700_ok (k := 17) rfl
theorem dL_law_1276 : decode cL_law 1276 = .ok (.iload 6, 2) := zLdk_at zLd_700_ok (k := 18) rfl
theorem dL_law_1278 : decode cL_law 1278 = .ok (.ifCond .ne 15, 3) := zLdk_at zLd_700_ok (k := 19) rfl
theorem dL_law_1281 : decode cL_law 1281 = .ok (.aload_n 3, 1) := zLdk_at zLd_700_ok (k := 20) rfl
theorem dL_law_1282 : decode cL_law 1282 = .ok (.iconst 0, 1) := zLdk_at zLd_700_ok (k := 21) rfl
theorem dL_law_1283 : decode cL_law 1283 = .ok (.laload, 1) := zLdk_at zLd_700_ok (k := 22) rfl
theorem dL_law_1284 : decode cL_law 1284 = .ok (.iload 7, 2) := zLdk_at zLd_700_ok (k := 23) rfl
theorem dL_law_1286 : decode cL_law 1286 = .ok (.i2l, 1) := zLdk_at zLd_700_ok (k := 24) rfl
theorem dL_law_1287 : decode cL_law 1287 = .ok (.lcmp, 1) := zLdk_at zLd_700_ok (k := 25) rfl
theorem dL_law_1288 : decode cL_law 1288 = .ok (.ifCond .eq 5, 3) := zLdk_at zLd_700_ok (k := 26) rfl
theorem dL_law_1291 : decode cL_law 1291 = .ok (.iconst 0, 1) := zLdk_at zLd_700_ok (k := 27) rfl
theorem dL_law_1292 : decode cL_law 1292 = .ok (.ireturn, 1) := zLdk_at zLd_700_ok (k := 28) rfl
theorem dL_law_1293 : decode cL_law 1293 = .ok (.goto 399, 3) := zLdk_at zLd_700_ok (k := 29) rfl
theorem dL_law_1296 : decode cL_law 1296 = .ok (.aload_n 1, 1) := zLdk_at zLd_700_ok (k := 30) rfl
theorem dL_law_1297 : decode cL_law 1297 = .ok (.aload_n 0, 1) := zLdk_at zLd_700_ok (k := 31) rfl
theorem dL_law_1298 : decode cL_law 1298 = .ok (.iload 5, 2) := zLdk_at zLd_700_ok (k := 32) rfl
theorem dL_law_1300 : decode cL_law 1300 = .ok (.iconst 1, 1) := zLdk_at zLd_700_ok (k := 33) rfl
theorem dL_law_1301 : decode cL_law 1301 = .ok (.iadd, 1) := zLdk_at zLd_700_ok (k := 34) rfl
theorem dL_law_1302 : decode cL_law 1302 = .ok (.iaload, 1) := zLdk_at zLd_700_ok (k := 35) rfl
theorem dL_law_1303 : decode cL_law 1303 = .ok (.aload_n 3, 1) := zLdk_at zLd_700_ok (k := 36) rfl
theorem dL_law_1304 : decode cL_law 1304 = .ok (.invokestatic 180, 3) := zLdk_at zLd_700_ok (k := 37) rfl
theorem dL_law_1307 : decode cL_law 1307 = .ok (.istore 6, 2) := zLdk_at zLd_700_ok (k := 38) rfl
theorem dL_law_1309 : decode cL_law 1309 = .ok (.aload_n 2, 1) := zLdk_at zLd_700_ok (k := 39) rfl
theorem dL_law_1310 : decode cL_law 1310 = .ok (.aload_n 0, 1) := zLdk_at zLd_700_ok (k := 40) rfl
theorem dL_law_1311 : decode cL_law 1311 = .ok (.iload 5, 2) := zLdk_at zLd_700_ok (k := 41) rfl
theorem dL_law_1313 : decode cL_law 1313 = .ok (.iconst 1, 1) := zLdk_at zLd_700_ok (k := 42) rfl
theorem dL_law_1314 : decode cL_law 1314 = .ok (.iadd, 1) := zLdk_at zLd_700_ok (k := 43) rfl
theorem dL_law_1315 : decode cL_law 1315 = .ok (.iaload, 1) := zLdk_at zLd_700_ok (k := 44) rfl
theorem dL_law_1316 : decode cL_law 1316 = .ok (.invokevirtual 182, 3) := zLdk_at zLd_700_ok (k := 45) rfl
theorem dL_law_1319 : decode cL_law 1319 = .ok (.istore 7, 2) := zLdk_at zLd_700_ok (k := 46) rfl
theorem dL_law_1321 : decode cL_law 1321 = .ok (.aload_n 2, 1) := zLdk_at zLd_700_ok (k := 47) rfl
theorem dL_law_1322 : decode cL_law 1322 = .ok (.invokevirtual 111, 3) := zLdk_at zLd_700_ok (k := 48) rfl
theorem dL_law_1325 : decode cL_law 1325 = .ok (.iload 6, 2) := zLdk_at zLd_700_ok (k := 49) rfl
def zLd_750 : List (Nat × Instr × Nat) := [(1327, .if_icmp .eq 5, 3), (1330, .iconst 0, 1), (1331, .ireturn, 1), (1332, .iload 6, 2), (1334, .ifCond .ne 15, 3), (1337, .aload_n 3, 1), (1338, .iconst 0, 1), (1339, .laload, 1), (1340, .iload 7, 2), (1342, .i2l, 1), (1343, .lcmp, 1), (1344, .ifCond .eq 5, 3), (1347, .iconst 0, 1), (1348, .ireturn, 1), (1349, .goto 343, 3), (1352, .aload_n 1, 1), (1353, .invokevirtual 183, 3), (1356, .aload_n 2, 1), (1357, .invokevirtual 186, 3), (1360, .if_icmp .eq 332, 3), (1363, .iconst 0, 1), (1364, .ireturn, 1), (1365, .aload_n 1, 1), (1366, .aload_n 0, 1), (1367, .iload 5, 2), (1369, .iconst 1, 1), (1370, .iadd, 1), (1371, .iaload, 1), (1372, .aload_n 0, 1), (1373, .iload 5, 2), (1375, .iconst 2, 1), (1376, .iadd, 1), (1377, .iaload, 1), (1378, .aload_n 3, 1), (1379, .invokestatic 187, 3), (1382, .istore 6, 2), (1384, .aload_n 2, 1), (1385, .aload_n 0, 1), (1386, .iload 5, 2), (1388, .iconst 1, 1), (1389, .iadd, 1), (1390, .iaload, 1), (1391, .aload_n 0, 1), (1392, .iload 5, 2), (1394, .iconst 2, 1), (1395, .iadd, 1), (1396, .iaload, 1), (1397, .invokevirtual 189, 3), (1400, .istore 7, 2), (1402, .aload_n 2, 1)]
theorem zLd_750_ok : zLdk cL_law zLd_750 = true := by decide +kernel
theorem dL_law_1327 : decode cL_law 1327 = .ok (.if_icmp .eq 5, 3) := zLdk_at zLd_750_ok (k := 0) rfl
theorem dL_law_1330 : decode cL_law 1330 = .ok (.iconst 0, 1) := zLdk_at zLd_750_ok (k := 1) rfl
theorem dL_law_1331 : decode cL_law 1331 = .ok (.ireturn, 1) := zLdk_at zLd_750_ok (k := 2) rfl
theorem dL_law_1332 : decode cL_law 1332 = .ok (.iload 6, 2) := zLdk_at zLd_750_ok (k := 3) rfl
theorem dL_law_1334 : decode cL_law 1334 = .ok (.ifCond .ne 15, 3) := zLdk_at zLd_750_ok (k := 4) rfl
theorem dL_law_1337 : decode cL_law 1337 = .ok (.aload_n 3, 1) := zLdk_at zLd_750_ok (k := 5) rfl
theorem dL_law_1338 : decode cL_law 1338 = .ok (.iconst 0, 1) := zLdk_at zLd_750_ok (k := 6) rfl
theorem dL_law_1339 : decode cL_law 1339 = .ok (.laload, 1) := zLdk_at zLd_750_ok (k := 7) rfl
theorem dL_law_1340 : decode cL_law 1340 = .ok (.iload 7, 2) := zLdk_at zLd_750_ok (k := 8) rfl
theorem dL_law_1342 : decode cL_law 1342 = .ok (.i2l, 1) := zLdk_at zLd_750_ok (k := 9) rfl
theorem dL_law_1343 : decode cL_law 1343 = .ok (.lcmp, 1) := zLdk_at zLd_750_ok (k := 10) rfl
theorem dL_law_1344 : decode cL_law 1344 = .ok (.ifCond .eq 5, 3) := zLdk_at zLd_750_ok (k := 11) rfl
theorem dL_law_1347 : decode cL_law 1347 = .ok (.iconst 0, 1) := zLdk_at zLd_750_ok (k := 12) rfl
theorem dL_law_1348 : decode cL_law 1348 = .ok (.ireturn, 1) := zLdk_at zLd_750_ok (k := 13) rfl
theorem dL_law_1349 : decode cL_law 1349 = .ok (.goto 343, 3) := zLdk_at zLd_750_ok (k := 14) rfl
theorem dL_law_1352 : decode cL_law 1352 = .ok (.aload_n 1, 1) := zLdk_at zLd_750_ok (k := 15) rfl
theorem dL_law_1353 : decode cL_law 1353 = .ok (.invokevirtual 183, 3) := zLdk_at zLd_750_ok (k := 16) rfl
theorem dL_law_1356 : decode cL_law 1356 = .ok (.aload_n 2, 1) := zLdk_at zLd_750_ok (k := 17) rfl
theorem dL_law_1357 : decode cL_law 1357 = .ok (.invokevirtual 186, 3) := zLdk_at zLd_750_ok (k := 18) rfl
theorem dL_law_1360 : decode cL_law 1360 = .ok (.if_icmp .eq 332, 3) := zLdk_at zLd_750_ok (k := 19) rfl
theorem dL_law_1363 : decode cL_law 1363 = .ok (.iconst 0, 1) := zLdk_at zLd_750_ok (k := 20) rfl
theorem dL_law_1364 : decode cL_law 1364 = .ok (.ireturn, 1) := zLdk_at zLd_750_ok (k := 21) rfl
theorem dL_law_1365 : decode cL_law 1365 = .ok (.aload_n 1, 1) := zLdk_at zLd_750_ok (k := 22) rfl
theorem dL_law_1366 : decode cL_law 1366 = .ok (.aload_n 0, 1) := zLdk_at zLd_750_ok (k := 23) rfl
theorem dL_law_1367 : decode cL_law 1367 = .ok (.iload 5, 2) := zLdk_at zLd_750_ok (k := 24) rfl
theorem dL_law_1369 : decode cL_law 1369 = .ok (.iconst 1, 1) := zLdk_at zLd_750_ok (k := 25) rfl
theorem dL_law_1370 : decode cL_law 1370 = .ok (.iadd, 1) := zLdk_at zLd_750_ok (k := 26) rfl
theorem dL_law_1371 : decode cL_law 1371 = .ok (.iaload, 1) := zLdk_at zLd_750_ok (k := 27) rfl
theorem dL_law_1372 : decode cL_law 1372 = .ok (.aload_n 0, 1) := zLdk_at zLd_750_ok (k := 28) rfl
theorem dL_law_1373 : decode cL_law 1373 = .ok (.iload 5, 2) := zLdk_at zLd_750_ok (k := 29) rfl
theorem dL_law_1375 : decode cL_law 1375 = .ok (.iconst 2, 1) := zLdk_at zLd_750_ok (k := 30) rfl
theorem dL_law_1376 : decode cL_law 1376 = .ok (.iadd, 1) := zLdk_at zLd_750_ok (k := 31) rfl
theorem dL_law_1377 : decode cL_law 1377 = .ok (.iaload, 1) := zLdk_at zLd_750_ok (k := 32) rfl
theorem dL_law_1378 : decode cL_law 1378 = .ok (.aload_n 3, 1) := zLdk_at zLd_750_ok (k := 33) rfl
theorem dL_law_1379 : decode cL_law 1379 = .ok (.invokestatic 187, 3) := zLdk_at zLd_750_ok (k := 34) rfl
theorem dL_law_1382 : decode cL_law 1382 = .ok (.istore 6, 2) := zLdk_at zLd_750_ok (k := 35) rfl
theorem dL_law_1384 : decode cL_law 1384 = .ok (.aload_n 2, 1) := zLdk_at zLd_750_ok (k := 36) rfl
theorem dL_law_1385 : decode cL_law 1385 = .ok (.aload_n 0, 1) := zLdk_at zLd_750_ok (k := 37) rfl
theorem dL_law_1386 : decode cL_law 1386 = .ok (.iload 5, 2) := zLdk_at zLd_750_ok (k := 38) rfl
theorem dL_law_1388 : decode cL_law 1388 = .ok (.iconst 1, 1) := zLdk_at zLd_750_ok (k := 39) rfl
theorem dL_law_1389 : decode cL_law 1389 = .ok (.iadd, 1) := zLdk_at zLd_750_ok (k := 40) rfl
theorem dL_law_1390 : decode cL_law 1390 = .ok (.iaload, 1) := zLdk_at zLd_750_ok (k := 41) rfl
theorem dL_law_1391 : decode cL_law 1391 = .ok (.aload_n 0, 1) := zLdk_at zLd_750_ok (k := 42) rfl
theorem dL_law_1392 : decode cL_law 1392 = .ok (.iload 5, 2) := zLdk_at zLd_750_ok (k := 43) rfl
theorem dL_law_1394 : decode cL_law 1394 = .ok (.iconst 2, 1) := zLdk_at zLd_750_ok (k := 44) rfl
theorem dL_law_1395 : decode cL_law 1395 = .ok (.iadd, 1) := zLdk_at zLd_750_ok (k := 45) rfl
theorem dL_law_1396 : decode cL_law 1396 = .ok (.iaload, 1) := zLdk_at zLd_750_ok (k := 46) rfl
theorem dL_law_1397 : decode cL_law 1397 = .ok (.invokevirtual 189, 3) := zLdk_at zLd_750_ok (k := 47) rfl
theorem dL_law_1400 : decode cL_law 1400 = .ok (.istore 7, 2) := zLdk_at zLd_750_ok (k := 48) rfl
theorem dL_law_1402 : decode cL_law 1402 = .ok (.aload_n 2, 1) := zLdk_at zLd_750_ok (k := 49) rfl
def zLd_800 : List (Nat × Instr × Nat) := [(1403, .invokevirtual 111, 3), (1406, .iload 6, 2), (1408, .if_icmp .eq 5, 3), (1411, .iconst 0, 1), (1412, .ireturn, 1), (1413, .iload 6, 2), (1415, .ifCond .ne 15, 3), (1418, .aload_n 3, 1), (1419, .iconst 0, 1), (1420, .laload, 1), (1421, .iload 7, 2), (1423, .i2l, 1), (1424, .lcmp, 1), (1425, .ifCond .eq 5, 3), (1428, .iconst 0, 1), (1429, .ireturn, 1), (1430, .goto 262, 3), (1433, .aload_n 1, 1), (1434, .aload_n 0, 1), (1435, .iload 5, 2), (1437, .iconst 1, 1), (1438, .iadd, 1), (1439, .iaload, 1), (1440, .aload_n 3, 1), (1441, .invokestatic 190, 3), (1444, .istore 6, 2), (1446, .aload_n 2, 1), (1447, .aload_n 0, 1), (1448, .iload 5, 2), (1450, .iconst 1, 1), (1451, .iadd, 1), (1452, .iaload, 1), (1453, .invokevirtual 192, 3), (1456, .istore 7, 2), (1458, .aload_n 2, 1), (1459, .invokevirtual 111, 3), (1462, .iload 6, 2), (1464, .if_icmp .eq 5, 3), (1467, .iconst 0, 1), (1468, .ireturn, 1), (1469, .iload 6, 2), (1471, .ifCond .ne 15, 3), (1474, .aload_n 3, 1), (1475, .iconst 0, 1), (1476, .laload, 1), (1477, .iload 7, 2), (1479, .i2l, 1), (1480, .lcmp, 1), (1481, .ifCond .eq 5, 3), (1484, .iconst 0, 1)]
theorem zLd_800_ok : zLdk cL_law zLd_800 = true := by decide +kernel
theorem dL_law_1403 : decode cL_law 1403 = .ok (.invokevirtual 111, 3) := zLdk_at zLd_800_ok (k := 0) rfl
theorem dL_law_1406 : decode cL_law 1406 = .ok (.iload 6, 2) := zLdk_at zLd_800_ok (k := 1) rfl
theorem dL_law_1408 : decode cL_law 1408 = .ok (.if_icmp .eq 5, 3) := zLdk_at zLd_800_ok (k := 2) rfl
theorem dL_law_1411 : decode cL_law 1411 = .ok (.iconst 0, 1) := zLdk_at zLd_800_ok (k := 3) rfl
theorem dL_law_1412 : decode cL_law 1412 = .ok (.ireturn, 1) := zLdk_at zLd_800_ok (k := 4) rfl
theorem dL_law_1413 : decode cL_law 1413 = .ok (.iload 6, 2) := zLdk_at zLd_800_ok (k := 5) rfl
theorem dL_law_1415 : decode cL_law 1415 = .ok (.ifCond .ne 15, 3) := zLdk_at zLd_800_ok (k := 6) rfl
theorem dL_law_1418 : decode cL_law 1418 = .ok (.aload_n 3, 1) := zLdk_at zLd_800_ok (k := 7) rfl
theorem dL_law_1419 : decode cL_law 1419 = .ok (.iconst 0, 1) := zLdk_at zLd_800_ok (k := 8) rfl
theorem dL_law_1420 : decode cL_law 1420 = .ok (.laload, 1) := zLdk_at zLd_800_ok (k := 9) rfl
theorem dL_law_1421 : decode cL_law 1421 = .ok (.iload 7, 2) := zLdk_at zLd_800_ok (k := 10) rfl
theorem dL_law_1423 : decode cL_law 1423 = .ok (.i2l, 1) := zLdk_at zLd_800_ok (k := 11) rfl
theorem dL_law_1424 : decode cL_law 1424 = .ok (.lcmp, 1) := zLdk_at zLd_800_ok (k := 12) rfl
theorem dL_law_1425 : decode cL_law 1425 = .ok (.ifCond .eq 5, 3) := zLdk_at zLd_800_ok (k := 13) rfl
theorem dL_law_1428 : decode cL_law 1428 = .ok (.iconst 0, 1) := zLdk_at zLd_800_ok (k := 14) rfl
theorem dL_law_1429 : decode cL_law 1429 = .ok (.ireturn, 1) := zLdk_at zLd_800_ok (k := 15) rfl
theorem dL_law_1430 : decode cL_law 1430 = .ok (.goto 262, 3) := zLdk_at zLd_800_ok (k := 16) rfl
theorem dL_law_1433 : decode cL_law 1433 = .ok (.aload_n 1, 1) := zLdk_at zLd_800_ok (k := 17) rfl
theorem dL_law_1434 : decode cL_law 1434 = .ok (.aload_n 0, 1) := zLdk_at zLd_800_ok (k := 18) rfl
theorem dL_law_1435 : decode cL_law 1435 = .ok (.iload 5, 2) := zLdk_at zLd_800_ok (k := 19) rfl
theorem dL_law_1437 : decode cL_law 1437 = .ok (.iconst 1, 1) := zLdk_at zLd_800_ok (k := 20) rfl
theorem dL_law_1438 : decode cL_law 1438 = .ok (.iadd, 1) := zLdk_at zLd_800_ok (k := 21) rfl
theorem dL_law_1439 : decode cL_law 1439 = .ok (.iaload, 1) := zLdk_at zLd_800_ok (k := 22) rfl
theorem dL_law_1440 : decode cL_law 1440 = .ok (.aload_n 3, 1) := zLdk_at zLd_800_ok (k := 23) rfl
theorem dL_law_1441 : decode cL_law 1441 = .ok (.invokestatic 190, 3) := zLdk_at zLd_800_ok (k := 24) rfl
theorem dL_law_1444 : decode cL_law 1444 = .ok (.istore 6, 2) := zLdk_at zLd_800_ok (k := 25) rfl
theorem dL_law_1446 : decode cL_law 1446 = .ok (.aload_n 2, 1) := zLdk_at zLd_800_ok (k := 26) rfl
theorem dL_law_1447 : decode cL_law 1447 = .ok (.aload_n 0, 1) := zLdk_at zLd_800_ok (k := 27) rfl
theorem dL_law_1448 : decode cL_law 1448 = .ok (.iload 5, 2) := zLdk_at zLd_800_ok (k := 28) rfl
theorem dL_law_1450 : decode cL_law 1450 = .ok (.iconst 1, 1) := zLdk_at zLd_800_ok (k := 29) rfl
theorem dL_law_1451 : decode cL_law 1451 = .ok (.iadd, 1) := zLdk_at zLd_800_ok (k := 30) rfl
theorem dL_law_1452 : decode cL_law 1452 = .ok (.iaload, 1) := zLdk_at zLd_800_ok (k := 31) rfl
theorem dL_law_1453 : decode cL_law 1453 = .ok (.invokevirtual 192, 3) := zLdk_at zLd_800_ok (k := 32) rfl
theorem dL_law_1456 : decode cL_law 1456 = .ok (.istore 7, 2) := zLdk_at zLd_800_ok (k := 33) rfl
theorem dL_law_1458 : decode cL_law 1458 = .ok (.aload_n 2, 1) := zLdk_at zLd_800_ok (k := 34) rfl
theorem dL_law_1459 : decode cL_law 1459 = .ok (.invokevirtual 111, 3) := zLdk_at zLd_800_ok (k := 35) rfl
theorem dL_law_1462 : decode cL_law 1462 = .ok (.iload 6, 2) := zLdk_at zLd_800_ok (k := 36) rfl
theorem dL_law_1464 : decode cL_law 1464 = .ok (.if_icmp .eq 5, 3) := zLdk_at zLd_800_ok (k := 37) rfl
theorem dL_law_1467 : decode cL_law 1467 = .ok (.iconst 0, 1) := zLdk_at zLd_800_ok (k := 38) rfl
theorem dL_law_1468 : decode cL_law 1468 = .ok (.ireturn, 1) := zLdk_at zLd_800_ok (k := 39) rfl
theorem dL_law_1469 : decode cL_law 1469 = .ok (.iload 6, 2) := zLdk_at zLd_800_ok (k := 40) rfl
theorem dL_law_1471 : decode cL_law 1471 = .ok (.ifCond .ne 15, 3) := zLdk_at zLd_800_ok (k := 41) rfl
theorem dL_law_1474 : decode cL_law 1474 = .ok (.aload_n 3, 1) := zLdk_at zLd_800_ok (k := 42) rfl
theorem dL_law_1475 : decode cL_law 1475 = .ok (.iconst 0, 1) := zLdk_at zLd_800_ok (k := 43) rfl
theorem dL_law_1476 : decode cL_law 1476 = .ok (.laload, 1) := zLdk_at zLd_800_ok (k := 44) rfl
theorem dL_law_1477 : decode cL_law 1477 = .ok (.iload 7, 2) := zLdk_at zLd_800_ok (k := 45) rfl
theorem dL_law_1479 : decode cL_law 1479 = .ok (.i2l, 1) := zLdk_at zLd_800_ok (k := 46) rfl
theorem dL_law_1480 : decode cL_law 1480 = .ok (.lcmp, 1) := zLdk_at zLd_800_ok (k := 47) rfl
theorem dL_law_1481 : decode cL_law 1481 = .ok (.ifCond .eq 5, 3) := zLdk_at zLd_800_ok (k := 48) rfl
theorem dL_law_1484 : decode cL_law 1484 = .ok (.iconst 0, 1) := zLdk_at zLd_800_ok (k := 49) rfl
def zLd_850 : List (Nat × Instr × Nat) := [(1485, .ireturn, 1), (1486, .goto 206, 3), (1489, .aload_n 1, 1), (1490, .aload_n 0, 1), (1491, .iload 5, 2), (1493, .iconst 1, 1), (1494, .iadd, 1), (1495, .iaload, 1), (1496, .i2c, 1), (1497, .aload_n 3, 1), (1498, .invokestatic 193, 3), (1501, .istore 6, 2), (1503, .aload_n 2, 1), (1504, .aload_n 0, 1), (1505, .iload 5, 2), (1507, .iconst 1, 1), (1508, .iadd, 1), (1509, .iaload, 1), (1510, .i2c, 1), (1511, .invokevirtual 196, 3), (1514, .istore 7, 2), (1516, .aload_n 2, 1), (1517, .invokevirtual 111, 3), (1520, .iload 6, 2), (1522, .if_icmp .eq 5, 3), (1525, .iconst 0, 1), (1526, .ireturn, 1), (1527, .iload 6, 2), (1529, .ifCond .ne 15, 3), (1532, .aload_n 3, 1), (1533, .iconst 0, 1), (1534, .laload, 1), (1535, .iload 7, 2), (1537, .i2l, 1), (1538, .lcmp, 1), (1539, .ifCond .eq 5, 3), (1542, .iconst 0, 1), (1543, .ireturn, 1), (1544, .goto 148, 3), (1547, .aload_n 1, 1), (1548, .aload_n 3, 1), (1549, .invokestatic 197, 3), (1552, .istore 6, 2), (1554, .aload_n 2, 1), (1555, .invokevirtual 199, 3), (1558, .istore 7, 2), (1560, .aload_n 2, 1), (1561, .invokevirtual 111, 3), (1564, .iload 6, 2), (1566, .if_icmp .eq 5, 3)]
theorem zLd_850_ok : zLdk cL_law zLd_850 = true := by decide +kernel
theorem dL_law_1485 : decode cL_law 1485 = .ok (.ireturn, 1) := zLdk_at zLd_850_ok (k := 0) rfl
theorem dL_law_1486 : decode cL_law 1486 = .ok (.goto 206, 3) := zLdk_at zLd_850_ok (k := 1) rfl
theorem dL_law_1489 : decode cL_law 1489 = .ok (.aload_n 1, 1) := zLdk_at zLd_850_ok (k := 2) rfl
theorem dL_law_1490 : decode cL_law 1490 = .ok (.aload_n 0, 1) := zLdk_at zLd_850_ok (k := 3) rfl
theorem dL_law_1491 : decode cL_law 1491 = .ok (.iload 5, 2) := zLdk_at zLd_850_ok (k := 4) rfl
theorem dL_law_1493 : decode cL_law 1493 = .ok (.iconst 1, 1) := zLdk_at zLd_850_ok (k := 5) rfl
theorem dL_law_1494 : decode cL_law 1494 = .ok (.iadd, 1) := zLdk_at zLd_850_ok (k := 6) rfl
theorem dL_law_1495 : decode cL_law 1495 = .ok (.iaload, 1) := zLdk_at zLd_850_ok (k := 7) rfl
theorem dL_law_1496 : decode cL_law 1496 = .ok (.i2c, 1) := zLdk_at zLd_850_ok (k := 8) rfl
theorem dL_law_1497 : decode cL_law 1497 = .ok (.aload_n 3, 1) := zLdk_at zLd_850_ok (k := 9) rfl
theorem dL_law_1498 : decode cL_law 1498 = .ok (.invokestatic 193, 3) := zLdk_at zLd_850_ok (k := 10) rfl
theorem dL_law_1501 : decode cL_law 1501 = .ok (.istore 6, 2) := zLdk_at zLd_850_ok (k := 11) rfl
theorem dL_law_1503 : decode cL_law 1503 = .ok (.aload_n 2, 1) := zLdk_at zLd_850_ok (k := 12) rfl
theorem dL_law_1504 : decode cL_law 1504 = .ok (.aload_n 0, 1) := zLdk_at zLd_850_ok (k := 13) rfl
theorem dL_law_1505 : decode cL_law 1505 = .ok (.iload 5, 2) := zLdk_at zLd_850_ok (k := 14) rfl
theorem dL_law_1507 : decode cL_law 1507 = .ok (.iconst 1, 1) := zLdk_at zLd_850_ok (k := 15) rfl
theorem dL_law_1508 : decode cL_law 1508 = .ok (.iadd, 1) := zLdk_at zLd_850_ok (k := 16) rfl
theorem dL_law_1509 : decode cL_law 1509 = .ok (.iaload, 1) := zLdk_at zLd_850_ok (k := 17) rfl
theorem dL_law_1510 : decode cL_law 1510 = .ok (.i2c, 1) := zLdk_at zLd_850_ok (k := 18) rfl
theorem dL_law_1511 : decode cL_law 1511 = .ok (.invokevirtual 196, 3) := zLdk_at zLd_850_ok (k := 19) rfl
theorem dL_law_1514 : decode cL_law 1514 = .ok (.istore 7, 2) := zLdk_at zLd_850_ok (k := 20) rfl
theorem dL_law_1516 : decode cL_law 1516 = .ok (.aload_n 2, 1) := zLdk_at zLd_850_ok (k := 21) rfl
theorem dL_law_1517 : decode cL_law 1517 = .ok (.invokevirtual 111, 3) := zLdk_at zLd_850_ok (k := 22) rfl
theorem dL_law_1520 : decode cL_law 1520 = .ok (.iload 6, 2) := zLdk_at zLd_850_ok (k := 23) rfl
theorem dL_law_1522 : decode cL_law 1522 = .ok (.if_icmp .eq 5, 3) := zLdk_at zLd_850_ok (k := 24) rfl
theorem dL_law_1525 : decode cL_law 1525 = .ok (.iconst 0, 1) := zLdk_at zLd_850_ok (k := 25) rfl
theorem dL_law_1526 : decode cL_law 1526 = .ok (.ireturn, 1) := zLdk_at zLd_850_ok (k := 26) rfl
theorem dL_law_1527 : decode cL_law 1527 = .ok (.iload 6, 2) := zLdk_at zLd_850_ok (k := 27) rfl
theorem dL_law_1529 : decode cL_law 1529 = .ok (.ifCond .ne 15, 3) := zLdk_at zLd_850_ok (k := 28) rfl
theorem dL_law_1532 : decode cL_law 1532 = .ok (.aload_n 3, 1) := zLdk_at zLd_850_ok (k := 29) rfl
theorem dL_law_1533 : decode cL_law 1533 = .ok (.iconst 0, 1) := zLdk_at zLd_850_ok (k := 30) rfl
theorem dL_law_1534 : decode cL_law 1534 = .ok (.laload, 1) := zLdk_at zLd_850_ok (k := 31) rfl
theorem dL_law_1535 : decode cL_law 1535 = .ok (.iload 7, 2) := zLdk_at zLd_850_ok (k := 32) rfl
theorem dL_law_1537 : decode cL_law 1537 = .ok (.i2l, 1) := zLdk_at zLd_850_ok (k := 33) rfl
theorem dL_law_1538 : decode cL_law 1538 = .ok (.lcmp, 1) := zLdk_at zLd_850_ok (k := 34) rfl
theorem dL_law_1539 : decode cL_law 1539 = .ok (.ifCond .eq 5, 3) := zLdk_at zLd_850_ok (k := 35) rfl
theorem dL_law_1542 : decode cL_law 1542 = .ok (.iconst 0, 1) := zLdk_at zLd_850_ok (k := 36) rfl
theorem dL_law_1543 : decode cL_law 1543 = .ok (.ireturn, 1) := zLdk_at zLd_850_ok (k := 37) rfl
theorem dL_law_1544 : decode cL_law 1544 = .ok (.goto 148, 3) := zLdk_at zLd_850_ok (k := 38) rfl
theorem dL_law_1547 : decode cL_law 1547 = .ok (.aload_n 1, 1) := zLdk_at zLd_850_ok (k := 39) rfl
theorem dL_law_1548 : decode cL_law 1548 = .ok (.aload_n 3, 1) := zLdk_at zLd_850_ok (k := 40) rfl
theorem dL_law_1549 : decode cL_law 1549 = .ok (.invokestatic 197, 3) := zLdk_at zLd_850_ok (k := 41) rfl
theorem dL_law_1552 : decode cL_law 1552 = .ok (.istore 6, 2) := zLdk_at zLd_850_ok (k := 42) rfl
theorem dL_law_1554 : decode cL_law 1554 = .ok (.aload_n 2, 1) := zLdk_at zLd_850_ok (k := 43) rfl
theorem dL_law_1555 : decode cL_law 1555 = .ok (.invokevirtual 199, 3) := zLdk_at zLd_850_ok (k := 44) rfl
theorem dL_law_1558 : decode cL_law 1558 = .ok (.istore 7, 2) := zLdk_at zLd_850_ok (k := 45) rfl
theorem dL_law_1560 : decode cL_law 1560 = .ok (.aload_n 2, 1) := zLdk_at zLd_850_ok (k := 46) rfl
theorem dL_law_1561 : decode cL_law 1561 = .ok (.invokevirtual 111, 3) := zLdk_at zLd_850_ok (k := 47) rfl
theorem dL_law_1564 : decode cL_law 1564 = .ok (.iload 6, 2) := zLdk_at zLd_850_ok (k := 48) rfl
theorem dL_law_1566 : decode cL_law 1566 = .ok (.if_icmp .eq 5, 3) := zLdk_at zLd_850_ok (k := 49) rfl
def zLd_900 : List (Nat × Instr × Nat) := [(1569, .iconst 0, 1), (1570, .ireturn, 1), (1571, .iload 6, 2), (1573, .ifCond .ne 15, 3), (1576, .aload_n 3, 1), (1577, .iconst 0, 1), (1578, .laload, 1), (1579, .iload 7, 2), (1581, .i2l, 1), (1582, .lcmp, 1), (1583, .ifCond .eq 5, 3), (1586, .iconst 0, 1), (1587, .ireturn, 1), (1588, .goto 104, 3), (1591, .aload_n 1, 1), (1592, .aload_n 3, 1), (1593, .invokestatic 200, 3), (1596, .istore 6, 2), (1598, .aload_n 2, 1), (1599, .invokevirtual 202, 3), (1602, .istore 7, 2), (1604, .aload_n 2, 1), (1605, .invokevirtual 111, 3), (1608, .iload 6, 2), (1610, .if_icmp .eq 5, 3), (1613, .iconst 0, 1), (1614, .ireturn, 1), (1615, .iload 6, 2), (1617, .ifCond .ne 15, 3), (1620, .aload_n 3, 1), (1621, .iconst 0, 1), (1622, .laload, 1), (1623, .iload 7, 2), (1625, .i2l, 1), (1626, .lcmp, 1), (1627, .ifCond .eq 5, 3), (1630, .iconst 0, 1), (1631, .ireturn, 1), (1632, .goto 60, 3), (1635, .aload_n 1, 1), (1636, .invokevirtual 203, 3), (1639, .aload_n 2, 1), (1640, .invokevirtual 206, 3), (1643, .if_icmp .eq 49, 3), (1646, .iconst 0, 1), (1647, .ireturn, 1), (1648, .aload_n 1, 1), (1649, .aload_n 3, 1), (1650, .invokestatic 207, 3), (1653, .istore 6, 2)]
theorem zLd_900_ok : zLdk cL_law zLd_900 = true := by decide +kernel
theorem dL_law_1569 : decode cL_law 1569 = .ok (.iconst 0, 1) := zLdk_at zLd_900_ok (k := 0) rfl
theorem dL_law_1570 : decode cL_law 1570 = .ok (.ireturn, 1) := zLdk_at zLd_900_ok (k := 1) rfl
theorem dL_law_1571 : decode cL_law 1571 = .ok (.iload 6, 2) := zLdk_at zLd_900_ok (k := 2) rfl
theorem dL_law_1573 : decode cL_law 1573 = .ok (.ifCond .ne 15, 3) := zLdk_at zLd_900_ok (k := 3) rfl
theorem dL_law_1576 : decode cL_law 1576 = .ok (.aload_n 3, 1) := zLdk_at zLd_900_ok (k := 4) rfl
theorem dL_law_1577 : decode cL_law 1577 = .ok (.iconst 0, 1) := zLdk_at zLd_900_ok (k := 5) rfl
theorem dL_law_1578 : decode cL_law 1578 = .ok (.laload, 1) := zLdk_at zLd_900_ok (k := 6) rfl
theorem dL_law_1579 : decode cL_law 1579 = .ok (.iload 7, 2) := zLdk_at zLd_900_ok (k := 7) rfl
theorem dL_law_1581 : decode cL_law 1581 = .ok (.i2l, 1) := zLdk_at zLd_900_ok (k := 8) rfl
theorem dL_law_1582 : decode cL_law 1582 = .ok (.lcmp, 1) := zLdk_at zLd_900_ok (k := 9) rfl
theorem dL_law_1583 : decode cL_law 1583 = .ok (.ifCond .eq 5, 3) := zLdk_at zLd_900_ok (k := 10) rfl
theorem dL_law_1586 : decode cL_law 1586 = .ok (.iconst 0, 1) := zLdk_at zLd_900_ok (k := 11) rfl
theorem dL_law_1587 : decode cL_law 1587 = .ok (.ireturn, 1) := zLdk_at zLd_900_ok (k := 12) rfl
theorem dL_law_1588 : decode cL_law 1588 = .ok (.goto 104, 3) := zLdk_at zLd_900_ok (k := 13) rfl
theorem dL_law_1591 : decode cL_law 1591 = .ok (.aload_n 1, 1) := zLdk_at zLd_900_ok (k := 14) rfl
theorem dL_law_1592 : decode cL_law 1592 = .ok (.aload_n 3, 1) := zLdk_at zLd_900_ok (k := 15) rfl
theorem dL_law_1593 : decode cL_law 1593 = .ok (.invokestatic 200, 3) := zLdk_at zLd_900_ok (k := 16) rfl
theorem dL_law_1596 : decode cL_law 1596 = .ok (.istore 6, 2) := zLdk_at zLd_900_ok (k := 17) rfl
theorem dL_law_1598 : decode cL_law 1598 = .ok (.aload_n 2, 1) := zLdk_at zLd_900_ok (k := 18) rfl
theorem dL_law_1599 : decode cL_law 1599 = .ok (.invokevirtual 202, 3) := zLdk_at zLd_900_ok (k := 19) rfl
theorem dL_law_1602 : decode cL_law 1602 = .ok (.istore 7, 2) := zLdk_at zLd_900_ok (k := 20) rfl
theorem dL_law_1604 : decode cL_law 1604 = .ok (.aload_n 2, 1) := zLdk_at zLd_900_ok (k := 21) rfl
theorem dL_law_1605 : decode cL_law 1605 = .ok (.invokevirtual 111, 3) := zLdk_at zLd_900_ok (k := 22) rfl
theorem dL_law_1608 : decode cL_law 1608 = .ok (.iload 6, 2) := zLdk_at zLd_900_ok (k := 23) rfl
theorem dL_law_1610 : decode cL_law 1610 = .ok (.if_icmp .eq 5, 3) := zLdk_at zLd_900_ok (k := 24) rfl
theorem dL_law_1613 : decode cL_law 1613 = .ok (.iconst 0, 1) := zLdk_at zLd_900_ok (k := 25) rfl
theorem dL_law_1614 : decode cL_law 1614 = .ok (.ireturn, 1) := zLdk_at zLd_900_ok (k := 26) rfl
theorem dL_law_1615 : decode cL_law 1615 = .ok (.iload 6, 2) := zLdk_at zLd_900_ok (k := 27) rfl
theorem dL_law_1617 : decode cL_law 1617 = .ok (.ifCond .ne 15, 3) := zLdk_at zLd_900_ok (k := 28) rfl
theorem dL_law_1620 : decode cL_law 1620 = .ok (.aload_n 3, 1) := zLdk_at zLd_900_ok (k := 29) rfl
theorem dL_law_1621 : decode cL_law 1621 = .ok (.iconst 0, 1) := zLdk_at zLd_900_ok (k := 30) rfl
theorem dL_law_1622 : decode cL_law 1622 = .ok (.laload, 1) := zLdk_at zLd_900_ok (k := 31) rfl
theorem dL_law_1623 : decode cL_law 1623 = .ok (.iload 7, 2) := zLdk_at zLd_900_ok (k := 32) rfl
theorem dL_law_1625 : decode cL_law 1625 = .ok (.i2l, 1) := zLdk_at zLd_900_ok (k := 33) rfl
theorem dL_law_1626 : decode cL_law 1626 = .ok (.lcmp, 1) := zLdk_at zLd_900_ok (k := 34) rfl
theorem dL_law_1627 : decode cL_law 1627 = .ok (.ifCond .eq 5, 3) := zLdk_at zLd_900_ok (k := 35) rfl
theorem dL_law_1630 : decode cL_law 1630 = .ok (.iconst 0, 1) := zLdk_at zLd_900_ok (k := 36) rfl
theorem dL_law_1631 : decode cL_law 1631 = .ok (.ireturn, 1) := zLdk_at zLd_900_ok (k := 37) rfl
theorem dL_law_1632 : decode cL_law 1632 = .ok (.goto 60, 3) := zLdk_at zLd_900_ok (k := 38) rfl
theorem dL_law_1635 : decode cL_law 1635 = .ok (.aload_n 1, 1) := zLdk_at zLd_900_ok (k := 39) rfl
theorem dL_law_1636 : decode cL_law 1636 = .ok (.invokevirtual 203, 3) := zLdk_at zLd_900_ok (k := 40) rfl
theorem dL_law_1639 : decode cL_law 1639 = .ok (.aload_n 2, 1) := zLdk_at zLd_900_ok (k := 41) rfl
theorem dL_law_1640 : decode cL_law 1640 = .ok (.invokevirtual 206, 3) := zLdk_at zLd_900_ok (k := 42) rfl
theorem dL_law_1643 : decode cL_law 1643 = .ok (.if_icmp .eq 49, 3) := zLdk_at zLd_900_ok (k := 43) rfl
theorem dL_law_1646 : decode cL_law 1646 = .ok (.iconst 0, 1) := zLdk_at zLd_900_ok (k := 44) rfl
theorem dL_law_1647 : decode cL_law 1647 = .ok (.ireturn, 1) := zLdk_at zLd_900_ok (k := 45) rfl
theorem dL_law_1648 : decode cL_law 1648 = .ok (.aload_n 1, 1) := zLdk_at zLd_900_ok (k := 46) rfl
theorem dL_law_1649 : decode cL_law 1649 = .ok (.aload_n 3, 1) := zLdk_at zLd_900_ok (k := 47) rfl
theorem dL_law_1650 : decode cL_law 1650 = .ok (.invokestatic 207, 3) := zLdk_at zLd_900_ok (k := 48) rfl
theorem dL_law_1653 : decode cL_law 1653 = .ok (.istore 6, 2) := zLdk_at zLd_900_ok (k := 49) rfl
def zLd_950 : List (Nat × Instr × Nat) := [(1655, .aload_n 2, 1), (1656, .invokevirtual 209, 3), (1659, .istore 7, 2), (1661, .aload_n 2, 1), (1662, .invokevirtual 111, 3), (1665, .iload 6, 2), (1667, .if_icmp .eq 5, 3), (1670, .iconst 0, 1), (1671, .ireturn, 1), (1672, .iload 6, 2), (1674, .ifCond .ne 15, 3), (1677, .aload_n 3, 1), (1678, .iconst 0, 1), (1679, .laload, 1), (1680, .iload 7, 2), (1682, .i2l, 1), (1683, .lcmp, 1), (1684, .ifCond .eq 5, 3), (1687, .iconst 0, 1), (1688, .ireturn, 1), (1689, .goto 3, 3), (1692, .iinc 5 3, 3), (1695, .goto (-1667), 3), (1698, .iconst 1, 1), (1699, .ireturn, 1)]
theorem zLd_950_ok : zLdk cL_law zLd_950 = true := by decide +kernel
theorem dL_law_1655 : decode cL_law 1655 = .ok (.aload_n 2, 1) := zLdk_at zLd_950_ok (k := 0) rfl
theorem dL_law_1656 : decode cL_law 1656 = .ok (.invokevirtual 209, 3) := zLdk_at zLd_950_ok (k := 1) rfl
theorem dL_law_1659 : decode cL_law 1659 = .ok (.istore 7, 2) := zLdk_at zLd_950_ok (k := 2) rfl
theorem dL_law_1661 : decode cL_law 1661 = .ok (.aload_n 2, 1) := zLdk_at zLd_950_ok (k := 3) rfl
theorem dL_law_1662 : decode cL_law 1662 = .ok (.invokevirtual 111, 3) := zLdk_at zLd_950_ok (k := 4) rfl
theorem dL_law_1665 : decode cL_law 1665 = .ok (.iload 6, 2) := zLdk_at zLd_950_ok (k := 5) rfl
theorem dL_law_1667 : decode cL_law 1667 = .ok (.if_icmp .eq 5, 3) := zLdk_at zLd_950_ok (k := 6) rfl
theorem dL_law_1670 : decode cL_law 1670 = .ok (.iconst 0, 1) := zLdk_at zLd_950_ok (k := 7) rfl
theorem dL_law_1671 : decode cL_law 1671 = .ok (.ireturn, 1) := zLdk_at zLd_950_ok (k := 8) rfl
theorem dL_law_1672 : decode cL_law 1672 = .ok (.iload 6, 2) := zLdk_at zLd_950_ok (k := 9) rfl
theorem dL_law_1674 : decode cL_law 1674 = .ok (.ifCond .ne 15, 3) := zLdk_at zLd_950_ok (k := 10) rfl
theorem dL_law_1677 : decode cL_law 1677 = .ok (.aload_n 3, 1) := zLdk_at zLd_950_ok (k := 11) rfl
theorem dL_law_1678 : decode cL_law 1678 = .ok (.iconst 0, 1) := zLdk_at zLd_950_ok (k := 12) rfl
theorem dL_law_1679 : decode cL_law 1679 = .ok (.laload, 1) := zLdk_at zLd_950_ok (k := 13) rfl
theorem dL_law_1680 : decode cL_law 1680 = .ok (.iload 7, 2) := zLdk_at zLd_950_ok (k := 14) rfl
theorem dL_law_1682 : decode cL_law 1682 = .ok (.i2l, 1) := zLdk_at zLd_950_ok (k := 15) rfl
theorem dL_law_1683 : decode cL_law 1683 = .ok (.lcmp, 1) := zLdk_at zLd_950_ok (k := 16) rfl
theorem dL_law_1684 : decode cL_law 1684 = .ok (.ifCond .eq 5, 3) := zLdk_at zLd_950_ok (k := 17) rfl
theorem dL_law_1687 : decode cL_law 1687 = .ok (.iconst 0, 1) := zLdk_at zLd_950_ok (k := 18) rfl
theorem dL_law_1688 : decode cL_law 1688 = .ok (.ireturn, 1) := zLdk_at zLd_950_ok (k := 19) rfl
theorem dL_law_1689 : decode cL_law 1689 = .ok (.goto 3, 3) := zLdk_at zLd_950_ok (k := 20) rfl
theorem dL_law_1692 : decode cL_law 1692 = .ok (.iinc 5 3, 3) := zLdk_at zLd_950_ok (k := 21) rfl
theorem dL_law_1695 : decode cL_law 1695 = .ok (.goto (-1667), 3) := zLdk_at zLd_950_ok (k := 22) rfl
theorem dL_law_1698 : decode cL_law 1698 = .ok (.iconst 1, 1) := zLdk_at zLd_950_ok (k := 23) rfl
theorem dL_law_1699 : decode cL_law 1699 = .ok (.ireturn, 1) := zLdk_at zLd_950_ok (k := 24) rfl
