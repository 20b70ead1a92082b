/-! case 1395 -/
theorem ck_d1395 : decode code 1395 = .ok (.aload_n 1, 1) := by decide +kernel
theorem ck_d1396 : decode code 1396 = .ok (.aload_n 0, 1) := by decide +kernel
theorem ck_d1397 : decode code 1397 = .ok (.iload_n 3, 1) := by decide +kernel
theorem ck_d1398 : decode code 1398 = .ok (.iconst 1, 1) := by decide +kernel
theorem ck_d1399 : decode code 1399 = .ok (.iadd, 1) := by decide +kernel
theorem ck_d1400 : decode code 1400 = .ok (.iaload, 1) := by decide +kernel
theorem ck_d1401 : decode code 1401 = .ok (.invokevirtual 176, 3) := by decide +kernel
theorem ck_d1404 : decode code 1404 = .ok (.aload_n 2, 1) := by decide +kernel
theorem ck_d1405 : decode code 1405 = .ok (.aload_n 0, 1) := by decide +kernel
theorem ck_d1406 : decode code 1406 = .ok (.iload_n 3, 1) := by decide +kernel
theorem ck_d1407 : decode code 1407 = .ok (.iconst 1, 1) := by decide +kernel
theorem ck_d1408 : decode code 1408 = .ok (.iadd, 1) := by decide +kernel
theorem ck_d1409 : decode code 1409 = .ok (.iaload, 1) := by decide +kernel
theorem ck_d1410 : decode code 1410 = .ok (.invokevirtual 179, 3) := by decide +kernel
theorem ck_d1413 : decode code 1413 = .ok (.if_icmp .eq 41, 3) := by decide +kernel
def ck_dt1395 : List (Nat × Instr × Nat) := [(18, (.iload_n 3, 1)), (19, (.aload_n 0, 1)), (20, (.arraylength, 1)), (21, (.bipush 7, 2)), (23, (.isub, 1)), (24, (.if_icmp .gt 1436, 3)), (1454, (.iinc 3 7, 3)), (1457, (.goto (-1439), 3)), (1460, (.iconst 1, 1)), (1461, (.ireturn, 1)), (1395, (.aload_n 1, 1)), (1396, (.aload_n 0, 1)), (1397, (.iload_n 3, 1)), (1398, (.iconst 1, 1)), (1399, (.iadd, 1)), (1400, (.iaload, 1)), (1401, (.invokevirtual 176, 3)), (1404, (.aload_n 2, 1)), (1405, (.aload_n 0, 1)), (1406, (.iload_n 3, 1)), (1407, (.iconst 1, 1)), (1408, (.iadd, 1)), (1409, (.iaload, 1)), (1410, (.invokevirtual 179, 3)), (1413, (.if_icmp .eq 41, 3))]
theorem ck_dk1395 : ∀ q ∈ ck_dt1395, decode code q.1 = .ok q.2 := (ck_cons ck_d18 (ck_cons ck_d19 (ck_cons ck_d20 (ck_cons ck_d21 (ck_cons ck_d23 (ck_cons ck_d24 (ck_cons ck_d1454 (ck_cons ck_d1457 (ck_cons ck_d1460 (ck_cons ck_d1461 (ck_cons ck_d1395 (ck_cons ck_d1396 (ck_cons ck_d1397 (ck_cons ck_d1398 (ck_cons ck_d1399 (ck_cons ck_d1400 (ck_cons ck_d1401 (ck_cons ck_d1404 (ck_cons ck_d1405 (ck_cons ck_d1406 (ck_cons ck_d1407 (ck_cons ck_d1408 (ck_cons ck_d1409 (ck_cons ck_d1410 (ck_cons ck_d1413 ck_nil)))))))))))))))))))))))))
def ck_cs1395 : List ck_C := [ck_c379, ck_c380, ck_c381, ck_c382]
def ck_sF1395 : ck_S := (List.replicate 7 ck_fI, [(0, .inr (2, 900)), (1, .inr (0, 0)), (2, .inr (0, 77)), (3, .inl (0, 0, 0))], [], [((0, 3), .inr (0, 44)), ((44, 0), .inl (0, 0)), ((77, 4), .inr (0, 80)), ((80, 0), .inl (0, 0))], 101, 101, 109468)
set_option maxRecDepth 100000 in
theorem ck_lc1395 : ck_run (ck_stepD ck_dt1395 vwCl ck_mts ck_sh ck_T12 ck_cs1395 ck_wrL 900 7) [] [] [] 600 [] 7 1395 ck_sF1395 = true := by decide +kernel
/-! case 1418 -/
theorem ck_d1418 : decode code 1418 = .ok (.aload_n 1, 1) := by decide +kernel
theorem ck_d1419 : decode code 1419 = .ok (.aload_n 0, 1) := by decide +kernel
theorem ck_d1420 : decode code 1420 = .ok (.iload_n 3, 1) := by decide +kernel
theorem ck_d1421 : decode code 1421 = .ok (.iconst 1, 1) := by decide +kernel
theorem ck_d1422 : decode code 1422 = .ok (.iadd, 1) := by decide +kernel
theorem ck_d1423 : decode code 1423 = .ok (.iaload, 1) := by decide +kernel
theorem ck_d1424 : decode code 1424 = .ok (.invokevirtual 180, 3) := by decide +kernel
theorem ck_d1427 : decode code 1427 = .ok (.aload_n 2, 1) := by decide +kernel
theorem ck_d1428 : decode code 1428 = .ok (.aload_n 0, 1) := by decide +kernel
theorem ck_d1429 : decode code 1429 = .ok (.iload_n 3, 1) := by decide +kernel
theorem ck_d1430 : decode code 1430 = .ok (.iconst 1, 1) := by decide +kernel
theorem ck_d1431 : decode code 1431 = .ok (.iadd, 1) := by decide +kernel
theorem ck_d1432 : decode code 1432 = .ok (.iaload, 1) := by decide +kernel
theorem ck_d1433 : decode code 1433 = .ok (.invokevirtual 183, 3) := by decide +kernel
theorem ck_d1436 : decode code 1436 = .ok (.if_icmp .eq 18, 3) := by decide +kernel
def ck_dt1418 : List (Nat × Instr × Nat) := [(18, (.iload_n 3, 1)), (19, (.aload_n 0, 1)), (20, (.arraylength, 1)), (21, (.bipush 7, 2)), (23, (.isub, 1)), (24, (.if_icmp .gt 1436, 3)), (1454, (.iinc 3 7, 3)), (1457, (.goto (-1439), 3)), (1460, (.iconst 1, 1)), (1461, (.ireturn, 1)), (1418, (.aload_n 1, 1)), (1419, (.aload_n 0, 1)), (1420, (.iload_n 3, 1)), (1421, (.iconst 1, 1)), (1422, (.iadd, 1)), (1423, (.iaload, 1)), (1424, (.invokevirtual 180, 3)), (1427, (.aload_n 2, 1)), (1428, (.aload_n 0, 1)), (1429, (.iload_n 3, 1)), (1430, (.iconst 1, 1)), (1431, (.iadd, 1)), (1432, (.iaload, 1)), (1433, (.invokevirtual 183, 3)), (1436, (.if_icmp .eq 18, 3))]
theorem ck_dk1418 : ∀ q ∈ ck_dt1418, decode code q.1 = .ok q.2 := (ck_cons ck_d18 (ck_cons ck_d19 (ck_cons ck_d20 (ck_cons ck_d21 (ck_cons ck_d23 (ck_cons ck_d24 (ck_cons ck_d1454 (ck_cons ck_d1457 (ck_cons ck_d1460 (ck_cons ck_d1461 (ck_cons ck_d1418 (ck_cons ck_d1419 (ck_cons ck_d1420 (ck_cons ck_d1421 (ck_cons ck_d1422 (ck_cons ck_d1423 (ck_cons ck_d1424 (ck_cons ck_d1427 (ck_cons ck_d1428 (ck_cons ck_d1429 (ck_cons ck_d1430 (ck_cons ck_d1431 (ck_cons ck_d1432 (ck_cons ck_d1433 (ck_cons ck_d1436 ck_nil)))))))))))))))))))))))))
def ck_cs1418 : List ck_C := [ck_c384, ck_c385, ck_c386, ck_c387, ck_c388, ck_c389, ck_c390, ck_c391]
def ck_sF1418 : ck_S := (List.replicate 7 ck_fI, [(0, .inr (2, 900)), (1, .inr (0, 0)), (2, .inr (0, 77)), (3, .inl (0, 0, 0))], [], [((0, 1), .inr (0, 1)), ((0, 4), .inr (0, 45)), ((1, 1), .inl (0, 0)), ((1, 12), .inl (0, 0)), ((1, 15), .inl (0, 0)), ((45, 2), .inl (0, 0)), ((77, 2), .inr (0, 78)), ((77, 8), .inl (0, 0)), ((78, 1293), .inl (0, 0)), ((78, 1294), .inl (0, 0)), ((78, 1295), .inl (0, 0))], 101, 101, 109468)
set_option maxRecDepth 100000 in
theorem ck_lc1418 : ck_run (ck_stepD ck_dt1418 vwCl ck_mts ck_sh ck_T12 ck_cs1418 ck_wrL 900 7) [] [] [] 600 [] 7 1418 ck_sF1418 = true := by decide +kernel
/-! case 1441 -/
theorem ck_d1441 : decode code 1441 = .ok (.aload_n 1, 1) := by decide +kernel
theorem ck_d1442 : decode code 1442 = .ok (.invokevirtual 184, 3) := by decide +kernel
theorem ck_d1445 : decode code 1445 = .ok (.aload_n 2, 1) := by decide +kernel
theorem ck_d1446 : decode code 1446 = .ok (.invokevirtual 187, 3) := by decide +kernel
theorem ck_d1449 : decode code 1449 = .ok (.if_icmp .eq 5, 3) := by decide +kernel
def ck_dt1441 : List (Nat × Instr × Nat) := [(18, (.iload_n 3, 1)), (19, (.aload_n 0, 1)), (20, (.arraylength, 1)), (21, (.bipush 7, 2)), (23, (.isub, 1)), (24, (.if_icmp .gt 1436, 3)), (1454, (.iinc 3 7, 3)), (1457, (.goto (-1439), 3)), (1460, (.iconst 1, 1)), (1461, (.ireturn, 1)), (1441, (.aload_n 1, 1)), (1442, (.invokevirtual 184, 3)), (1445, (.aload_n 2, 1)), (1446, (.invokevirtual 187, 3)), (1449, (.if_icmp .eq 5, 3))]
theorem ck_dk1441 : ∀ q ∈ ck_dt1441, decode code q.1 = .ok q.2 := (ck_cons ck_d18 (ck_cons ck_d19 (ck_cons ck_d20 (ck_cons ck_d21 (ck_cons ck_d23 (ck_cons ck_d24 (ck_cons ck_d1454 (ck_cons ck_d1457 (ck_cons ck_d1460 (ck_cons ck_d1461 (ck_cons ck_d1441 (ck_cons ck_d1442 (ck_cons ck_d1445 (ck_cons ck_d1446 (ck_cons ck_d1449 ck_nil)))))))))))))))
def ck_cs1441 : List ck_C := [ck_c392, ck_c393]
def ck_sF1441 : ck_S := (List.replicate 7 ck_fI, [(0, .inr (2, 900)), (1, .inr (0, 0)), (2, .inr (0, 77)), (3, .inl (0, 0, 0))], [], [((0, 15), .inl (0, 0)), ((77, 1), .inl (0, 0))], 101, 101, 109468)
set_option maxRecDepth 100000 in
theorem ck_lc1441 : ck_run (ck_stepD ck_dt1441 vwCl ck_mts ck_sh ck_T12 ck_cs1441 ck_wrL 900 7) [] [] [] 600 [] 7 1441 ck_sF1441 = true := by decide +kernel
