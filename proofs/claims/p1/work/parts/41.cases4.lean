def ck_cs1181 : List ck_C := [ck_c313, ck_c315, ck_c316]
def ck_sF1181 : ck_S := (List.replicate 7 ck_fI, [(0, .inr (2, 900)), (1, .inr (0, 0)), (2, .inr (0, 77)), (3, .inl (0, 0, 0))], [], [((0, 1), .inr (0, 1)), ((1, 1), .inl (0, 0)), ((77, 2), .inr (0, 78)), ((78, 1293), .inl (0, 0))], 101, 101, 109468)
set_option maxRecDepth 100000 in
theorem ck_lc1181 : ck_run (ck_stepL vwCl ck_mts ck_sh ck_T12 ck_cs1181 ck_wrL 900 7) [] [] [] 600 [] 7 1181 ck_sF1181 = true := by decide +kernel
def ck_cs1204 : List ck_C := [ck_c323, ck_c324, ck_c325, ck_c327, ck_c329]
def ck_sF1204 : ck_S := (List.replicate 7 ck_fI, [(0, .inr (2, 900)), (1, .inr (0, 0)), (2, .inr (0, 77)), (3, .inl (0, 0, 0))], [], [((0, 8), .inr (0, 59)), ((0, 9), .inr (0, 65)), ((1, 1), .inl (0, 0)), ((1, 15), .inl (0, 0)), ((65, 1), .inr (0, 1)), ((65, 4), .inr (0, 67)), ((65, 5), .inr (0, 68)), ((67, 0), .inl (0, 0)), ((68, 0), .inl (0, 0)), ((77, 2), .inr (0, 78)), ((77, 30), .inl ((-1), (-1))), ((78, 1293), .inl (0, 0))], 101, 101, 109468)
set_option maxRecDepth 100000 in
theorem ck_lc1204 : ck_run (ck_stepL vwCl ck_mts ck_sh ck_T12 ck_cs1204 ck_wrL 900 7) [] [] [] 600 [] 7 1204 ck_sF1204 = true := by decide +kernel
def ck_cs1227 : List ck_C := [ck_c330, ck_c331, ck_c332]
def ck_sF1227 : ck_S := (List.replicate 7 ck_fI, [(0, .inr (2, 900)), (1, .inr (0, 0)), (2, .inr (0, 77)), (3, .inl (0, 0, 0))], [], [((0, 1), .inr (0, 1)), ((1, 1), .inl (0, 0)), ((77, 2), .inr (0, 78)), ((78, 1293), .inl (0, 0))], 101, 101, 109468)
set_option maxRecDepth 100000 in
theorem ck_lc1227 : ck_run (ck_stepL vwCl ck_mts ck_sh ck_T12 ck_cs1227 ck_wrL 900 7) [] [] [] 600 [] 7 1227 ck_sF1227 = true := by decide +kernel
def ck_cs1260 : List ck_C := [ck_c333, ck_c334, ck_c335, ck_c336, ck_c337, ck_c338]
def ck_sF1260 : ck_S := (List.replicate 7 ck_fI, [(0, .inr (2, 900)), (1, .inr (0, 0)), (2, .inr (0, 77)), (3, .inl (0, 0, 0))], [], [((0, 1), .inr (0, 1)), ((1, 15), .inl (0, 0)), ((77, 2), .inr (0, 78)), ((78, 1294), .inl (0, 0))], 101, 101, 109468)
set_option maxRecDepth 100000 in
theorem ck_lc1260 : ck_run (ck_stepL vwCl ck_mts ck_sh ck_T12 ck_cs1260 ck_wrL 900 7) [] [] [] 600 [] 7 1260 ck_sF1260 = true := by decide +kernel
def ck_cs1293 : List ck_C := [ck_c339, ck_c340, ck_c341]
def ck_sF1293 : ck_S := (List.replicate 7 ck_fI, [(0, .inr (2, 900)), (1, .inr (0, 0)), (2, .inr (0, 77)), (3, .inl (0, 0, 0))], [], [((0, 1), .inr (0, 1)), ((1, 1), .inl (0, 0)), ((77, 2), .inr (0, 78)), ((78, 1293), .inl (0, 0))], 101, 101, 109468)
set_option maxRecDepth 100000 in
theorem ck_lc1293 : ck_run (ck_stepL vwCl ck_mts ck_sh ck_T12 ck_cs1293 ck_wrL 900 7) [] [] [] 600 [] 7 1293 ck_sF1293 = true := by decide +kernel
def ck_cs1336 : List ck_C := [ck_c343, ck_c344, ck_c345, ck_c347]
def ck_sF1336 : ck_S := (List.replicate 7 ck_fI, [(0, .inr (2, 900)), (1, .inr (0, 0)), (2, .inr (0, 77)), (3, .inl (0, 0, 0))], [], [((0, 1), .inr (0, 1)), ((1, 1), .inl (0, 0)), ((77, 2), .inr (0, 78)), ((78, 1293), .inl (0, 0))], 101, 101, 109468)
set_option maxRecDepth 100000 in
theorem ck_lc1336 : ck_run (ck_stepL vwCl ck_mts ck_sh ck_T12 ck_cs1336 ck_wrL 900 7) [] [] [] 600 [] 7 1336 ck_sF1336 = true := by decide +kernel
def ck_cs1359 : List ck_C := [ck_c348, ck_c349]
def ck_sF1359 : ck_S := (List.replicate 7 ck_fI, [(0, .inr (2, 900)), (1, .inr (0, 0)), (2, .inr (0, 77)), (3, .inl (0, 0, 0))], [], [((0, 1), .inr (0, 1)), ((1, 15), .inl (0, 0)), ((77, 2), .inr (0, 78)), ((78, 1294), .inl (0, 0))], 101, 101, 109468)
set_option maxRecDepth 100000 in
theorem ck_lc1359 : ck_run (ck_stepL vwCl ck_mts ck_sh ck_T12 ck_cs1359 ck_wrL 900 7) [] [] [] 600 [] 7 1359 ck_sF1359 = true := by decide +kernel
def ck_cs1372 : List ck_C := [ck_c372, ck_c373, ck_c375, ck_c376, ck_c378]
def ck_sF1372 : ck_S := (List.replicate 7 ck_fI, [(0, .inr (2, 900)), (1, .inr (0, 0)), (2, .inr (0, 77)), (3, .inl (0, 0, 0))], [], [((0, 1), .inr (0, 1)), ((0, 2), .inr (0, 15)), ((0, 3), .inr (0, 44)), ((1, 1), .inl (0, 0)), ((1, 2), .inr (0, 2)), ((1, 3), .inr (0, 3)), ((1, 4), .inr (0, 4)), ((1, 5), .inr (0, 5)), ((1, 6), .inr (0, 6)), ((1, 7), .inr (0, 7)), ((1, 8), .inr (0, 8)), ((1, 9), .inr (0, 9)), ((1, 10), .inl (0, 0)), ((1, 11), .inl ((-1), (-1))), ((1, 12), .inl (0, 0)), ((1, 13), .inr (0, 10)), ((1, 15), .inl (0, 0)), ((1, 16), .inr (0, 14)), ((1, 17), .inl (7, 7)), ((1, 18), .inl (15, 15)), ((1, 19), .inl (15, 15)), ((2, 0), .inl (0, 0)), ((3, 0), .inl (0, 0)), ((4, 0), .inl (0, 0)), ((5, 0), .inl (0, 0)), ((6, 0), .inl (0, 0)), ((7, 0), .inl (0, 0)), ((8, 0), .inl (0, 0)), ((9, 0), .inl (0, 0)), ((10, 0), .inr (1, 0)), ((14, 0), .inl (0, 0)), ((15, 1), .inr (0, 16)), ((15, 2), .inr (0, 30)), ((16, 2), .inr (0, 17)), ((16, 3), .inr (0, 18)), ((16, 4), .inr (0, 19)), ((16, 5), .inr (0, 20)), ((16, 6), .inr (0, 21)), ((16, 7), .inr (0, 22)), ((16, 8), .inr (0, 23)), ((16, 9), .inr (0, 24)), ((16, 13), .inr (0, 25)), ((16, 16), .inr (0, 29)), ((17, 0), .inl (0, 0)), ((18, 0), .inl (0, 0)), ((19, 0), .inl (0, 0)), ((20, 0), .inl (0, 0)), ((21, 0), .inl (0, 0)), ((22, 0), .inl (0, 0)), ((23, 0), .inl (0, 0)), ((24, 0), .inl (0, 0)), ((25, 0), .inr (1, 0)), ((29, 0), .inl (0, 0)), ((30, 2), .inr (0, 31)), ((30, 3), .inr (0, 32)), ((30, 4), .inr (0, 33)), ((30, 5), .inr (0, 34)), ((30, 6), .inr (0, 35)), ((30, 7), .inr (0, 36)), ((30, 8), .inr (0, 37)), ((30, 9), .inr (0, 38)), ((30, 13), .inr (0, 39)), ((30, 16), .inr (0, 43)), ((31, 0), .inl (0, 0)), ((32, 0), .inl (0, 0)), ((33, 0), .inl (0, 0)), ((34, 0), .inl (0, 0)), ((35, 0), .inl (0, 0)), ((36, 0), .inl (0, 0)), ((37, 0), .inl (0, 0)), ((38, 0), .inl (0, 0)), ((39, 0), .inr (1, 0)), ((43, 0), .inl (0, 0)), ((44, 0), .inl (0, 0)), ((77, 2), .inr (0, 78)), ((77, 3), .inr (0, 79)), ((77, 4), .inr (0, 80)), ((78, 0), .inl ((-1), 15)), ((79, 0), .inl (0, 0)), ((80, 0), .inl (0, 0))], 101, 101, 109468)
set_option maxRecDepth 100000 in
theorem ck_lc1372 : ck_run (ck_stepL vwCl ck_mts ck_sh ck_T12 ck_cs1372 ck_wrL 900 7) [] [] [] 600 [] 7 1372 ck_sF1372 = true := by decide +kernel
