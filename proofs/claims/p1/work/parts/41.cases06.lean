def ck_cs967 : List ck_C := [ck_c266, ck_c267]
def ck_sF967 : ck_S := (List.replicate 7 ck_fI, [(0, .inr (2, 900)), (1, .inr (0, 0)), (2, .inr (0, 77)), (3, .inl (0, 0, 0))], [], [((0, 7), .inr (0, 53)), ((0, 8), .inr (0, 59)), ((1, 1), .inl (0, 0)), ((1, 15), .inl (0, 0)), ((53, 1), .inr (0, 1)), ((53, 2), .inr (0, 54)), ((53, 3), .inr (0, 55)), ((53, 4), .inr (0, 56)), ((53, 5), .inr (0, 57)), ((53, 6), .inr (0, 58)), ((54, 0), .inl (0, 0)), ((55, 0), .inl (0, 0)), ((56, 0), .inl (0, 0)), ((57, 0), .inl (0, 0)), ((58, 0), .inl (0, 0)), ((59, 1), .inr (0, 1)), ((59, 2), .inr (0, 60)), ((59, 5), .inl (0, 0)), ((59, 7), .inr (0, 64)), ((60, 0), .inl (0, 0)), ((60, 1), .inl (0, 0)), ((64, 0), .inl ((-1), 0)), ((77, 2), .inr (0, 78)), ((77, 25), .inr (0, 88)), ((77, 26), .inr (0, 89)), ((77, 28), .inr (0, 91)), ((78, 1293), .inl (0, 0)), ((78, 1294), .inl (0, 0)), ((88, 0), .inl (0, 0)), ((89, 0), .inl (0, 0)), ((91, 0), .inl (0, 0)), ((91, 1), .inl (0, 0))], 101, 101, 109468)
set_option maxRecDepth 100000 in
theorem ck_lc967 : ck_run (ck_stepL vwCl ck_mts ck_sh ck_T12 ck_cs967 ck_wrL 900 7) [] [] [] 600 [] 7 967 ck_sF967 = true := by decide +kernel
def ck_cs980 : List ck_C := [ck_c268, ck_c270, ck_c272]
def ck_sF980 : ck_S := (List.replicate 7 ck_fI, [(0, .inr (2, 900)), (1, .inr (0, 0)), (2, .inr (0, 77)), (3, .inl (0, 0, 0))], [], [((0, 8), .inr (0, 59)), ((59, 5), .inl (0, 0)), ((77, 30), .inl ((-1), (-1)))], 101, 101, 109468)
set_option maxRecDepth 100000 in
theorem ck_lc980 : ck_run (ck_stepL vwCl ck_mts ck_sh ck_T12 ck_cs980 ck_wrL 900 7) [] [] [] 600 [] 7 980 ck_sF980 = true := by decide +kernel
def ck_cs1003 : List ck_C := [ck_c273, ck_c274]
def ck_sF1003 : ck_S := (List.replicate 7 ck_fI, [(0, .inr (2, 900)), (1, .inr (0, 0)), (2, .inr (0, 77)), (3, .inl (0, 0, 0))], [], [((0, 1), .inr (0, 1)), ((1, 15), .inl (0, 0)), ((77, 2), .inr (0, 78)), ((78, 1294), .inl (0, 0))], 101, 101, 109468)
set_option maxRecDepth 100000 in
theorem ck_lc1003 : ck_run (ck_stepL vwCl ck_mts ck_sh ck_T12 ck_cs1003 ck_wrL 900 7) [] [] [] 600 [] 7 1003 ck_sF1003 = true := by decide +kernel
def ck_cs1026 : List ck_C := [ck_c275, ck_c276, ck_c277]
def ck_sF1026 : ck_S := (List.replicate 7 ck_fI, [(0, .inr (2, 900)), (1, .inr (0, 0)), (2, .inr (0, 77)), (3, .inl (0, 0, 0))], [], [((0, 1), .inr (0, 1)), ((1, 1), .inl (0, 0)), ((77, 2), .inr (0, 78)), ((78, 1293), .inl (0, 0))], 101, 101, 109468)
set_option maxRecDepth 100000 in
theorem ck_lc1026 : ck_run (ck_stepL vwCl ck_mts ck_sh ck_T12 ck_cs1026 ck_wrL 900 7) [] [] [] 600 [] 7 1026 ck_sF1026 = true := by decide +kernel
