def ck_cs1181 : List ck_C := [ck_c313, ck_c315, ck_c316]
def ck_sF1181 : ck_S := (List.replicate 7 ck_fI, [(0, .inr (2, 900)), (1, .inr (0, 0)), (2, .inr (0, 77)), (3, .inl (0, 0, 0))], [], [((0, 1), .inr (0, 1)), ((1, 1), .inl (0, 0)), ((77, 2), .inr (0, 78)), ((78, 1293), .inl (0, 0))], 101, 101, 109468)
set_option maxRecDepth 100000 in
theorem ck_lc1181 : ck_run (ck_stepL vwCl ck_mts ck_sh ck_T12 ck_cs1181 ck_wrL 900 7) [] [] [] 600 [] 7 1181 ck_sF1181 = true := by decide +kernel
def ck_cs1204 : List ck_C := [ck_c323, ck_c324, ck_c325, ck_c327, ck_c329]
def ck_sF1204 : ck_S := (List.replicate 7 ck_fI, [(0, .inr (2, 900)), (1, .inr (0, 0)), (2, .inr (0, 77)), (3, .inl (0, 0, 0))], [], [((0, 8), .inr (0, 59)), ((0, 9), .inr (0, 65)), ((1, 1), .inl (0, 0)), ((1, 15), .inl (0, 0)), ((65, 1), .inr (0, 1)), ((65, 4), .inr (0, 67)), ((65, 5), .inr (0, 68)), ((67, 0), .inl (0, 0)), ((68, 0), .inl (0, 0)), ((77, 2), .inr (0, 78)), ((77, 30), .inl ((-1), (-1))), ((78, 1293), .inl (0, 0))], 101, 101, 109468)
set_option maxRecDepth 100000 in
theorem ck_lc1204 : ck_run (ck_stepL vwCl ck_mts ck_sh ck_T12 ck_cs1204 ck_wrL 900 7) [] [] [] 600 [] 7 1204 ck_sF1204 = true := by decide +kernel
def ck_cs1227 : List ck_C := [ck_c330, ck_c331, ck_c332]
def ck_sF1227 : ck_S := (List.replicate 7 ck_fI, [(0, .inr (2, 900)), (1, .inr (0, 0)), (2, .inr (0, 77)), (3, .inl (0, 0, 0))], [], [((0, 1), .inr (0, 1)), ((1, 1), .inl (0, 0)), ((77, 2), .inr (0, 78)), ((78, 1293), .inl (0, 0))], 101, 101, 109468)
set_option maxRecDepth 100000 in
theorem ck_lc1227 : ck_run (ck_stepL vwCl ck_mts ck_sh ck_T12 ck_cs1227 ck_wrL 900 7) [] [] [] 600 [] 7 1227 ck_sF1227 = true := by decide +kernel
def ck_cs1260 : List ck_C := [ck_c333, ck_c334, ck_c335, ck_c336, ck_c337, ck_c338]
def ck_sF1260 : ck_S := (List.replicate 7 ck_fI, [(0, .inr (2, 900)), (1, .inr (0, 0)), (2, .inr (0, 77)), (3, .inl (0, 0, 0))], [], [((0, 1), .inr (0, 1)), ((1, 15), .inl (0, 0)), ((77, 2), .inr (0, 78)), ((78, 1294), .inl (0, 0))], 101, 101, 109468)
set_option maxRecDepth 100000 in
theorem ck_lc1260 : ck_run (ck_stepL vwCl ck_mts ck_sh ck_T12 ck_cs1260 ck_wrL 900 7) [] [] [] 600 [] 7 1260 ck_sF1260 = true := by decide +kernel
