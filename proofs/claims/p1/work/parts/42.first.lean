/-! first -/
theorem ck_d0 : decode code 0 = .ok (.new 7, 3) := by decide +kernel
theorem ck_d3 : decode code 3 = .ok (.dup, 1) := by decide +kernel
theorem ck_d4 : decode code 4 = .ok (.invokespecial 9, 3) := by decide +kernel
theorem ck_d7 : decode code 7 = .ok (.astore_n 1, 1) := by decide +kernel
theorem ck_d8 : decode code 8 = .ok (.new 10, 3) := by decide +kernel
theorem ck_d11 : decode code 11 = .ok (.dup, 1) := by decide +kernel
theorem ck_d12 : decode code 12 = .ok (.invokespecial 12, 3) := by decide +kernel
theorem ck_d15 : decode code 15 = .ok (.astore_n 2, 1) := by decide +kernel
theorem ck_d16 : decode code 16 = .ok (.iconst 0, 1) := by decide +kernel
theorem ck_d17 : decode code 17 = .ok (.istore_n 3, 1) := by decide +kernel
theorem ck_d27 : decode code 27 = .ok (.aload_n 0, 1) := by decide +kernel
theorem ck_d28 : decode code 28 = .ok (.iload_n 3, 1) := by decide +kernel
theorem ck_d29 : decode code 29 = .ok (.iaload, 1) := by decide +kernel
theorem ck_d30 : decode code 30 = .ok (.bipush 63, 2) := by decide +kernel
theorem ck_d32 : decode code 32 = .ok (.iand, 1) := by decide +kernel
theorem ck_d33 : decode code 33 = .ok (.tableswitch 1421 0 41 #[183, 226, 279, 312, 345, 388, 411, 474, 497, 510, 523, 546, 599, 674, 687, 720, 743, 786, 819, 852, 865, 898, 921, 934, 947, 970, 993, 1026, 1049, 1082, 1115, 1148, 1171, 1194, 1227, 1260, 1303, 1326, 1339, 1362, 1385, 1408], 183) := by decide +kernel
def ck_dtP : List (Nat × Instr × Nat) := [(0, (.new 7, 3)), (3, (.dup, 1)), (4, (.invokespecial 9, 3)), (7, (.astore_n 1, 1)), (8, (.new 10, 3)), (11, (.dup, 1)), (12, (.invokespecial 12, 3)), (15, (.astore_n 2, 1)), (16, (.iconst 0, 1)), (17, (.istore_n 3, 1)), (18, (.iload_n 3, 1)), (19, (.aload_n 0, 1)), (20, (.arraylength, 1)), (21, (.bipush 7, 2)), (23, (.isub, 1)), (24, (.if_icmp .gt 1436, 3)), (27, (.aload_n 0, 1)), (28, (.iload_n 3, 1)), (29, (.iaload, 1)), (30, (.bipush 63, 2)), (32, (.iand, 1)), (33, (.tableswitch 1421 0 41 #[183, 226, 279, 312, 345, 388, 411, 474, 497, 510, 523, 546, 599, 674, 687, 720, 743, 786, 819, 852, 865, 898, 921, 934, 947, 970, 993, 1026, 1049, 1082, 1115, 1148, 1171, 1194, 1227, 1260, 1303, 1326, 1339, 1362, 1385, 1408], 183)), (1454, (.iinc 3 7, 3)), (1457, (.goto (-1439), 3)), (1460, (.iconst 1, 1)), (1461, (.ireturn, 1))]
theorem ck_dkP : ∀ q ∈ ck_dtP, decode code q.1 = .ok q.2 := (ck_cons ck_d0 (ck_cons ck_d3 (ck_cons ck_d4 (ck_cons ck_d7 (ck_cons ck_d8 (ck_cons ck_d11 (ck_cons ck_d12 (ck_cons ck_d15 (ck_cons ck_d16 (ck_cons ck_d17 (ck_cons ck_d18 (ck_cons ck_d19 (ck_cons ck_d20 (ck_cons ck_d21 (ck_cons ck_d23 (ck_cons ck_d24 (ck_cons ck_d27 (ck_cons ck_d28 (ck_cons ck_d29 (ck_cons ck_d30 (ck_cons ck_d32 (ck_cons ck_d33 (ck_cons ck_d1454 (ck_cons ck_d1457 (ck_cons ck_d1460 (ck_cons ck_d1461 ck_nil))))))))))))))))))))))))))
def ck_lv : List (Nat × ck_S) := [(1454, ck_sF1454), (216, ck_sF216), (259, ck_sF259), (312, ck_sF312), (345, ck_sF345), (378, ck_sF378), (421, ck_sF421), (444, ck_sF444), (507, ck_sF507), (530, ck_sF530), (543, ck_sF543), (556, ck_sF556), (579, ck_sF579), (632, ck_sF632), (707, ck_sF707), (720, ck_sF720), (753, ck_sF753), (776, ck_sF776), (819, ck_sF819), (852, ck_sF852), (885, ck_sF885), (898, ck_sF898), (931, ck_sF931), (954, ck_sF954), (967, ck_sF967), (980, ck_sF980), (1003, ck_sF1003), (1026, ck_sF1026), (1059, ck_sF1059), (1082, ck_sF1082), (1115, ck_sF1115), (1148, ck_sF1148), (1181, ck_sF1181), (1204, ck_sF1204), (1227, ck_sF1227), (1260, ck_sF1260), (1293, ck_sF1293), (1336, ck_sF1336), (1359, ck_sF1359), (1372, ck_sF1372), (1395, ck_sF1395), (1418, ck_sF1418), (1441, ck_sF1441)]
set_option maxRecDepth 100000 in
theorem ck_lp : ck_run (ck_stepD ck_dtP vwCl ck_mts ck_sh ck_T12 ck_csP ck_wrL 900 7) [] [] ck_lv 600 [] 7 0 (List.replicate 7 ck_fI, [(0, .inr (2, 900))], [], [], 0, 0, 0) = true := by decide +kernel
set_option maxRecDepth 100000 in
theorem ck_ls : ∀ n, n < 7 → ck_run (ck_stepD ck_dtP vwCl ck_mts ck_sh ck_T12 ck_csP ck_wrL 900 n) [] [] [] 600 [] n 0 (List.replicate n ck_fI, [(0, .inr (2, 900))], [], [], 0, 0, 0) = true := by decide +kernel
