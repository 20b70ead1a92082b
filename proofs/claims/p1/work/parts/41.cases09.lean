/-! case 1293 -/
theorem ck_d1293 : decode code 1293 = .ok (.aload_n 1, 1) := by decide +kernel
theorem ck_d1294 : decode code 1294 = .ok (.aload_n 0, 1) := by decide +kernel
theorem ck_d1295 : decode code 1295 = .ok (.iload_n 3, 1) := by decide +kernel
theorem ck_d1296 : decode code 1296 = .ok (.iconst 1, 1) := by decide +kernel
theorem ck_d1297 : decode code 1297 = .ok (.iadd, 1) := by decide +kernel
theorem ck_d1298 : decode code 1298 = .ok (.iaload, 1) := by decide +kernel
theorem ck_d1299 : decode code 1299 = .ok (.aload_n 0, 1) := by decide +kernel
theorem ck_d1300 : decode code 1300 = .ok (.iload_n 3, 1) := by decide +kernel
theorem ck_d1301 : decode code 1301 = .ok (.iconst 2, 1) := by decide +kernel
theorem ck_d1302 : decode code 1302 = .ok (.iadd, 1) := by decide +kernel
theorem ck_d1303 : decode code 1303 = .ok (.iaload, 1) := by decide +kernel
theorem ck_d1304 : decode code 1304 = .ok (.aload_n 0, 1) := by decide +kernel
theorem ck_d1305 : decode code 1305 = .ok (.iload_n 3, 1) := by decide +kernel
theorem ck_d1306 : decode code 1306 = .ok (.iconst 3, 1) := by decide +kernel
theorem ck_d1307 : decode code 1307 = .ok (.iadd, 1) := by decide +kernel
theorem ck_d1308 : decode code 1308 = .ok (.iaload, 1) := by decide +kernel
theorem ck_d1309 : decode code 1309 = .ok (.invokevirtual 160, 3) := by decide +kernel
theorem ck_d1312 : decode code 1312 = .ok (.aload_n 2, 1) := by decide +kernel
theorem ck_d1313 : decode code 1313 = .ok (.aload_n 0, 1) := by decide +kernel
theorem ck_d1314 : decode code 1314 = .ok (.iload_n 3, 1) := by decide +kernel
theorem ck_d1315 : decode code 1315 = .ok (.iconst 1, 1) := by decide +kernel
theorem ck_d1316 : decode code 1316 = .ok (.iadd, 1) := by decide +kernel
theorem ck_d1317 : decode code 1317 = .ok (.iaload, 1) := by decide +kernel
theorem ck_d1318 : decode code 1318 = .ok (.aload_n 0, 1) := by decide +kernel
theorem ck_d1319 : decode code 1319 = .ok (.iload_n 3, 1) := by decide +kernel
theorem ck_d1320 : decode code 1320 = .ok (.iconst 2, 1) := by decide +kernel
theorem ck_d1321 : decode code 1321 = .ok (.iadd, 1) := by decide +kernel
theorem ck_d1322 : decode code 1322 = .ok (.iaload, 1) := by decide +kernel
theorem ck_d1323 : decode code 1323 = .ok (.aload_n 0, 1) := by decide +kernel
theorem ck_d1324 : decode code 1324 = .ok (.iload_n 3, 1) := by decide +kernel
theorem ck_d1325 : decode code 1325 = .ok (.iconst 3, 1) := by decide +kernel
theorem ck_d1326 : decode code 1326 = .ok (.iadd, 1) := by decide +kernel
theorem ck_d1327 : decode code 1327 = .ok (.iaload, 1) := by decide +kernel
theorem ck_d1328 : decode code 1328 = .ok (.invokevirtual 163, 3) := by decide +kernel
theorem ck_d1331 : decode code 1331 = .ok (.if_icmp .eq 123, 3) := by decide +kernel
def ck_dt1293 : List (Nat × Instr × Nat) := [(18, (.iload_n 3, 1)), (19, (.aload_n 0, 1)), (20, (.arraylength, 1)), (21, (.bipush 7, 2)), (23, (.isub, 1)), (24, (.if_icmp .gt 1436, 3)), (1454, (.iinc 3 7, 3)), (1457, (.goto (-1439), 3)), (1460, (.iconst 1, 1)), (1461, (.ireturn, 1)), (1293, (.aload_n 1, 1)), (1294, (.aload_n 0, 1)), (1295, (.iload_n 3, 1)), (1296, (.iconst 1, 1)), (1297, (.iadd, 1)), (1298, (.iaload, 1)), (1299, (.aload_n 0, 1)), (1300, (.iload_n 3, 1)), (1301, (.iconst 2, 1)), (1302, (.iadd, 1)), (1303, (.iaload, 1)), (1304, (.aload_n 0, 1)), (1305, (.iload_n 3, 1)), (1306, (.iconst 3, 1)), (1307, (.iadd, 1)), (1308, (.iaload, 1)), (1309, (.invokevirtual 160, 3)), (1312, (.aload_n 2, 1)), (1313, (.aload_n 0, 1)), (1314, (.iload_n 3, 1)), (1315, (.iconst 1, 1)), (1316, (.iadd, 1)), (1317, (.iaload, 1)), (1318, (.aload_n 0, 1)), (1319, (.iload_n 3, 1)), (1320, (.iconst 2, 1)), (1321, (.iadd, 1)), (1322, (.iaload, 1)), (1323, (.aload_n 0, 1)), (1324, (.iload_n 3, 1)), (1325, (.iconst 3, 1)), (1326, (.iadd, 1)), (1327, (.iaload, 1)), (1328, (.invokevirtual 163, 3)), (1331, (.if_icmp .eq 123, 3))]
theorem ck_dk1293 : ∀ q ∈ ck_dt1293, decode code q.1 = .ok q.2 := (ck_cons ck_d18 (ck_cons ck_d19 (ck_cons ck_d20 (ck_cons ck_d21 (ck_cons ck_d23 (ck_cons ck_d24 (ck_cons ck_d1454 (ck_cons ck_d1457 (ck_cons ck_d1460 (ck_cons ck_d1461 (ck_cons ck_d1293 (ck_cons ck_d1294 (ck_cons ck_d1295 (ck_cons ck_d1296 (ck_cons ck_d1297 (ck_cons ck_d1298 (ck_cons ck_d1299 (ck_cons ck_d1300 (ck_cons ck_d1301 (ck_cons ck_d1302 (ck_cons ck_d1303 (ck_cons ck_d1304 (ck_cons ck_d1305 (ck_cons ck_d1306 (ck_cons ck_d1307 (ck_cons ck_d1308 (ck_cons ck_d1309 (ck_cons ck_d1312 (ck_cons ck_d1313 (ck_cons ck_d1314 (ck_cons ck_d1315 (ck_cons ck_d1316 (ck_cons ck_d1317 (ck_cons ck_d1318 (ck_cons ck_d1319 (ck_cons ck_d1320 (ck_cons ck_d1321 (ck_cons ck_d1322 (ck_cons ck_d1323 (ck_cons ck_d1324 (ck_cons ck_d1325 (ck_cons ck_d1326 (ck_cons ck_d1327 (ck_cons ck_d1328 (ck_cons ck_d1331 ck_nil)))))))))))))))))))))))))))))))))))))))))))))
def ck_cs1293 : List ck_C := [ck_c339, ck_c340, ck_c341]
def ck_sF1293 : ck_S := (List.replicate 7 ck_fI, [(0, .inr (2, 900)), (1, .inr (0, 0)), (2, .inr (0, 77)), (3, .inl (0, 0, 0))], [], [((0, 1), .inr (0, 1)), ((1, 1), .inl (0, 0)), ((77, 2), .inr (0, 78)), ((78, 1293), .inl (0, 0))], 101, 101, 109468)
set_option maxRecDepth 100000 in
theorem ck_lc1293 : ck_run (ck_stepD ck_dt1293 vwCl ck_mts ck_sh ck_T12 ck_cs1293 ck_wrL 900 7) [] [] [] 600 [] 7 1293 ck_sF1293 = true := by decide +kernel
/-! case 1336 -/
theorem ck_d1336 : decode code 1336 = .ok (.aload_n 1, 1) := by decide +kernel
theorem ck_d1337 : decode code 1337 = .ok (.aload_n 0, 1) := by decide +kernel
theorem ck_d1338 : decode code 1338 = .ok (.iload_n 3, 1) := by decide +kernel
theorem ck_d1339 : decode code 1339 = .ok (.iconst 1, 1) := by decide +kernel
theorem ck_d1340 : decode code 1340 = .ok (.iadd, 1) := by decide +kernel
theorem ck_d1341 : decode code 1341 = .ok (.iaload, 1) := by decide +kernel
theorem ck_d1342 : decode code 1342 = .ok (.invokevirtual 164, 3) := by decide +kernel
theorem ck_d1345 : decode code 1345 = .ok (.aload_n 2, 1) := by decide +kernel
theorem ck_d1346 : decode code 1346 = .ok (.aload_n 0, 1) := by decide +kernel
theorem ck_d1347 : decode code 1347 = .ok (.iload_n 3, 1) := by decide +kernel
theorem ck_d1348 : decode code 1348 = .ok (.iconst 1, 1) := by decide +kernel
theorem ck_d1349 : decode code 1349 = .ok (.iadd, 1) := by decide +kernel
theorem ck_d1350 : decode code 1350 = .ok (.iaload, 1) := by decide +kernel
theorem ck_d1351 : decode code 1351 = .ok (.invokevirtual 167, 3) := by decide +kernel
theorem ck_d1354 : decode code 1354 = .ok (.if_icmp .eq 100, 3) := by decide +kernel
def ck_dt1336 : List (Nat × Instr × Nat) := [(18, (.iload_n 3, 1)), (19, (.aload_n 0, 1)), (20, (.arraylength, 1)), (21, (.bipush 7, 2)), (23, (.isub, 1)), (24, (.if_icmp .gt 1436, 3)), (1454, (.iinc 3 7, 3)), (1457, (.goto (-1439), 3)), (1460, (.iconst 1, 1)), (1461, (.ireturn, 1)), (1336, (.aload_n 1, 1)), (1337, (.aload_n 0, 1)), (1338, (.iload_n 3, 1)), (1339, (.iconst 1, 1)), (1340, (.iadd, 1)), (1341, (.iaload, 1)), (1342, (.invokevirtual 164, 3)), (1345, (.aload_n 2, 1)), (1346, (.aload_n 0, 1)), (1347, (.iload_n 3, 1)), (1348, (.iconst 1, 1)), (1349, (.iadd, 1)), (1350, (.iaload, 1)), (1351, (.invokevirtual 167, 3)), (1354, (.if_icmp .eq 100, 3))]
theorem ck_dk1336 : ∀ q ∈ ck_dt1336, decode code q.1 = .ok q.2 := (ck_cons ck_d18 (ck_cons ck_d19 (ck_cons ck_d20 (ck_cons ck_d21 (ck_cons ck_d23 (ck_cons ck_d24 (ck_cons ck_d1454 (ck_cons ck_d1457 (ck_cons ck_d1460 (ck_cons ck_d1461 (ck_cons ck_d1336 (ck_cons ck_d1337 (ck_cons ck_d1338 (ck_cons ck_d1339 (ck_cons ck_d1340 (ck_cons ck_d1341 (ck_cons ck_d1342 (ck_cons ck_d1345 (ck_cons ck_d1346 (ck_cons ck_d1347 (ck_cons ck_d1348 (ck_cons ck_d1349 (ck_cons ck_d1350 (ck_cons ck_d1351 (ck_cons ck_d1354 ck_nil)))))))))))))))))))))))))
def ck_cs1336 : List ck_C := [ck_c343, ck_c344, ck_c345, ck_c347]
def ck_sF1336 : ck_S := (List.replicate 7 ck_fI, [(0, .inr (2, 900)), (1, .inr (0, 0)), (2, .inr (0, 77)), (3, .inl (0, 0, 0))], [], [((0, 1), .inr (0, 1)), ((1, 1), .inl (0, 0)), ((77, 2), .inr (0, 78)), ((78, 1293), .inl (0, 0))], 101, 101, 109468)
set_option maxRecDepth 100000 in
theorem ck_lc1336 : ck_run (ck_stepD ck_dt1336 vwCl ck_mts ck_sh ck_T12 ck_cs1336 ck_wrL 900 7) [] [] [] 600 [] 7 1336 ck_sF1336 = true := by decide +kernel
/-! case 1359 -/
theorem ck_d1359 : decode code 1359 = .ok (.aload_n 1, 1) := by decide +kernel
theorem ck_d1360 : decode code 1360 = .ok (.invokevirtual 168, 3) := by decide +kernel
theorem ck_d1363 : decode code 1363 = .ok (.aload_n 2, 1) := by decide +kernel
theorem ck_d1364 : decode code 1364 = .ok (.invokevirtual 171, 3) := by decide +kernel
theorem ck_d1367 : decode code 1367 = .ok (.if_icmp .eq 87, 3) := by decide +kernel
def ck_dt1359 : List (Nat × Instr × Nat) := [(18, (.iload_n 3, 1)), (19, (.aload_n 0, 1)), (20, (.arraylength, 1)), (21, (.bipush 7, 2)), (23, (.isub, 1)), (24, (.if_icmp .gt 1436, 3)), (1454, (.iinc 3 7, 3)), (1457, (.goto (-1439), 3)), (1460, (.iconst 1, 1)), (1461, (.ireturn, 1)), (1359, (.aload_n 1, 1)), (1360, (.invokevirtual 168, 3)), (1363, (.aload_n 2, 1)), (1364, (.invokevirtual 171, 3)), (1367, (.if_icmp .eq 87, 3))]
theorem ck_dk1359 : ∀ q ∈ ck_dt1359, decode code q.1 = .ok q.2 := (ck_cons ck_d18 (ck_cons ck_d19 (ck_cons ck_d20 (ck_cons ck_d21 (ck_cons ck_d23 (ck_cons ck_d24 (ck_cons ck_d1454 (ck_cons ck_d1457 (ck_cons ck_d1460 (ck_cons ck_d1461 (ck_cons ck_d1359 (ck_cons ck_d1360 (ck_cons ck_d1363 (ck_cons ck_d1364 (ck_cons ck_d1367 ck_nil)))))))))))))))
def ck_cs1359 : List ck_C := [ck_c348, ck_c349]
def ck_sF1359 : ck_S := (List.replicate 7 ck_fI, [(0, .inr (2, 900)), (1, .inr (0, 0)), (2, .inr (0, 77)), (3, .inl (0, 0, 0))], [], [((0, 1), .inr (0, 1)), ((1, 15), .inl (0, 0)), ((77, 2), .inr (0, 78)), ((78, 1294), .inl (0, 0))], 101, 101, 109468)
set_option maxRecDepth 100000 in
theorem ck_lc1359 : ck_run (ck_stepD ck_dt1359 vwCl ck_mts ck_sh ck_T12 ck_cs1359 ck_wrL 900 7) [] [] [] 600 [] 7 1359 ck_sF1359 = true := by decide +kernel
/-! case 1372 -/
theorem ck_d1372 : decode code 1372 = .ok (.aload_n 1, 1) := by decide +kernel
theorem ck_d1373 : decode code 1373 = .ok (.aload_n 0, 1) := by decide +kernel
theorem ck_d1374 : decode code 1374 = .ok (.iload_n 3, 1) := by decide +kernel
theorem ck_d1375 : decode code 1375 = .ok (.iconst 1, 1) := by decide +kernel
theorem ck_d1376 : decode code 1376 = .ok (.iadd, 1) := by decide +kernel
theorem ck_d1377 : decode code 1377 = .ok (.iaload, 1) := by decide +kernel
theorem ck_d1378 : decode code 1378 = .ok (.invokevirtual 172, 3) := by decide +kernel
theorem ck_d1381 : decode code 1381 = .ok (.aload_n 2, 1) := by decide +kernel
theorem ck_d1382 : decode code 1382 = .ok (.aload_n 0, 1) := by decide +kernel
theorem ck_d1383 : decode code 1383 = .ok (.iload_n 3, 1) := by decide +kernel
theorem ck_d1384 : decode code 1384 = .ok (.iconst 1, 1) := by decide +kernel
theorem ck_d1385 : decode code 1385 = .ok (.iadd, 1) := by decide +kernel
theorem ck_d1386 : decode code 1386 = .ok (.iaload, 1) := by decide +kernel
theorem ck_d1387 : decode code 1387 = .ok (.invokevirtual 175, 3) := by decide +kernel
theorem ck_d1390 : decode code 1390 = .ok (.if_icmp .eq 64, 3) := by decide +kernel
def ck_dt1372 : List (Nat × Instr × Nat) := [(18, (.iload_n 3, 1)), (19, (.aload_n 0, 1)), (20, (.arraylength, 1)), (21, (.bipush 7, 2)), (23, (.isub, 1)), (24, (.if_icmp .gt 1436, 3)), (1454, (.iinc 3 7, 3)), (1457, (.goto (-1439), 3)), (1460, (.iconst 1, 1)), (1461, (.ireturn, 1)), (1372, (.aload_n 1, 1)), (1373, (.aload_n 0, 1)), (1374, (.iload_n 3, 1)), (1375, (.iconst 1, 1)), (1376, (.iadd, 1)), (1377, (.iaload, 1)), (1378, (.invokevirtual 172, 3)), (1381, (.aload_n 2, 1)), (1382, (.aload_n 0, 1)), (1383, (.iload_n 3, 1)), (1384, (.iconst 1, 1)), (1385, (.iadd, 1)), (1386, (.iaload, 1)), (1387, (.invokevirtual 175, 3)), (1390, (.if_icmp .eq 64, 3))]
theorem ck_dk1372 : ∀ q ∈ ck_dt1372, decode code q.1 = .ok q.2 := (ck_cons ck_d18 (ck_cons ck_d19 (ck_cons ck_d20 (ck_cons ck_d21 (ck_cons ck_d23 (ck_cons ck_d24 (ck_cons ck_d1454 (ck_cons ck_d1457 (ck_cons ck_d1460 (ck_cons ck_d1461 (ck_cons ck_d1372 (ck_cons ck_d1373 (ck_cons ck_d1374 (ck_cons ck_d1375 (ck_cons ck_d1376 (ck_cons ck_d1377 (ck_cons ck_d1378 (ck_cons ck_d1381 (ck_cons ck_d1382 (ck_cons ck_d1383 (ck_cons ck_d1384 (ck_cons ck_d1385 (ck_cons ck_d1386 (ck_cons ck_d1387 (ck_cons ck_d1390 ck_nil)))))))))))))))))))))))))
def ck_cs1372 : List ck_C := [ck_c372, ck_c373, ck_c375, ck_c376, ck_c378]
def ck_sF1372 : ck_S := (List.replicate 7 ck_fI, [(0, .inr (2, 900)), (1, .inr (0, 0)), (2, .inr (0, 77)), (3, .inl (0, 0, 0))], [], [((0, 1), .inr (0, 1)), ((0, 2), .inr (0, 15)), ((0, 3), .inr (0, 44)), ((1, 1), .inl (0, 0)), ((1, 2), .inr (0, 2)), ((1, 3), .inr (0, 3)), ((1, 4), .inr (0, 4)), ((1, 5), .inr (0, 5)), ((1, 6), .inr (0, 6)), ((1, 7), .inr (0, 7)), ((1, 8), .inr (0, 8)), ((1, 9), .inr (0, 9)), ((1, 10), .inl (0, 0)), ((1, 11), .inl ((-1), (-1))), ((1, 12), .inl (0, 0)), ((1, 13), .inr (0, 10)), ((1, 15), .inl (0, 0)), ((1, 16), .inr (0, 14)), ((1, 17), .inl (7, 7)), ((1, 18), .inl (15, 15)), ((1, 19), .inl (15, 15)), ((2, 0), .inl (0, 0)), ((3, 0), .inl (0, 0)), ((4, 0), .inl (0, 0)), ((5, 0), .inl (0, 0)), ((6, 0), .inl (0, 0)), ((7, 0), .inl (0, 0)), ((8, 0), .inl (0, 0)), ((9, 0), .inl (0, 0)), ((10, 0), .inr (1, 0)), ((14, 0), .inl (0, 0)), ((15, 1), .inr (0, 16)), ((15, 2), .inr (0, 30)), ((16, 2), .inr (0, 17)), ((16, 3), .inr (0, 18)), ((16, 4), .inr (0, 19)), ((16, 5), .inr (0, 20)), ((16, 6), .inr (0, 21)), ((16, 7), .inr (0, 22)), ((16, 8), .inr (0, 23)), ((16, 9), .inr (0, 24)), ((16, 13), .inr (0, 25)), ((16, 16), .inr (0, 29)), ((17, 0), .inl (0, 0)), ((18, 0), .inl (0, 0)), ((19, 0), .inl (0, 0)), ((20, 0), .inl (0, 0)), ((21, 0), .inl (0, 0)), ((22, 0), .inl (0, 0)), ((23, 0), .inl (0, 0)), ((24, 0), .inl (0, 0)), ((25, 0), .inr (1, 0)), ((29, 0), .inl (0, 0)), ((30, 2), .inr (0, 31)), ((30, 3), .inr (0, 32)), ((30, 4), .inr (0, 33)), ((30, 5), .inr (0, 34)), ((30, 6), .inr (0, 35)), ((30, 7), .inr (0, 36)), ((30, 8), .inr (0, 37)), ((30, 9), .inr (0, 38)), ((30, 13), .inr (0, 39)), ((30, 16), .inr (0, 43)), ((31, 0), .inl (0, 0)), ((32, 0), .inl (0, 0)), ((33, 0), .inl (0, 0)), ((34, 0), .inl (0, 0)), ((35, 0), .inl (0, 0)), ((36, 0), .inl (0, 0)), ((37, 0), .inl (0, 0)), ((38, 0), .inl (0, 0)), ((39, 0), .inr (1, 0)), ((43, 0), .inl (0, 0)), ((44, 0), .inl (0, 0)), ((77, 2), .inr (0, 78)), ((77, 3), .inr (0, 79)), ((77, 4), .inr (0, 80)), ((78, 0), .inl ((-1), 15)), ((79, 0), .inl (0, 0)), ((80, 0), .inl (0, 0))], 101, 101, 109468)
set_option maxRecDepth 100000 in
theorem ck_lc1372 : ck_run (ck_stepD ck_dt1372 vwCl ck_mts ck_sh ck_T12 ck_cs1372 ck_wrL 900 7) [] [] [] 600 [] 7 1372 ck_sF1372 = true := by decide +kernel
