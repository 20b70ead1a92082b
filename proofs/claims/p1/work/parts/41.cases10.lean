def ck_cs1395 : List ck_C := [ck_c379, ck_c380, ck_c381, ck_c382]
def ck_sF1395 : ck_S := (List.replicate 7 ck_fI, [(0, .inr (2, 900)), (1, .inr (0, 0)), (2, .inr (0, 77)), (3, .inl (0, 0, 0))], [], [((0, 3), .inr (0, 44)), ((44, 0), .inl (0, 0)), ((77, 4), .inr (0, 80)), ((80, 0), .inl (0, 0))], 101, 101, 109468)
set_option maxRecDepth 100000 in
theorem ck_lc1395 : ck_run (ck_stepL vwCl ck_mts ck_sh ck_T12 ck_cs1395 ck_wrL 900 7) [] [] [] 600 [] 7 1395 ck_sF1395 = true := by decide +kernel
def ck_cs1418 : List ck_C := [ck_c384, ck_c385, ck_c386, ck_c387, ck_c388, ck_c389, ck_c390, ck_c391]
def ck_sF1418 : ck_S := (List.replicate 7 ck_fI, [(0, .inr (2, 900)), (1, .inr (0, 0)), (2, .inr (0, 77)), (3, .inl (0, 0, 0))], [], [((0, 1), .inr (0, 1)), ((0, 4), .inr (0, 45)), ((1, 1), .inl (0, 0)), ((1, 12), .inl (0, 0)), ((1, 15), .inl (0, 0)), ((45, 2), .inl (0, 0)), ((77, 2), .inr (0, 78)), ((77, 8), .inl (0, 0)), ((78, 1293), .inl (0, 0)), ((78, 1294), .inl (0, 0)), ((78, 1295), .inl (0, 0))], 101, 101, 109468)
set_option maxRecDepth 100000 in
theorem ck_lc1418 : ck_run (ck_stepL vwCl ck_mts ck_sh ck_T12 ck_cs1418 ck_wrL 900 7) [] [] [] 600 [] 7 1418 ck_sF1418 = true := by decide +kernel
def ck_cs1441 : List ck_C := [ck_c392, ck_c393]
def ck_sF1441 : ck_S := (List.replicate 7 ck_fI, [(0, .inr (2, 900)), (1, .inr (0, 0)), (2, .inr (0, 77)), (3, .inl (0, 0, 0))], [], [((0, 15), .inl (0, 0)), ((77, 1), .inl (0, 0))], 101, 101, 109468)
set_option maxRecDepth 100000 in
theorem ck_lc1441 : ck_run (ck_stepL vwCl ck_mts ck_sh ck_T12 ck_cs1441 ck_wrL 900 7) [] [] [] 600 [] 7 1441 ck_sF1441 = true := by decide +kernel
