def ck_cs1059 : List ck_C := [ck_c278, ck_c279, ck_c280]
def ck_sF1059 : ck_S := (List.replicate 7 ck_fI, [(0, .inr (2, 900)), (1, .inr (0, 0)), (2, .inr (0, 77)), (3, .inl (0, 0, 0))], [], [((0, 1), .inr (0, 1)), ((1, 1), .inl (0, 0)), ((77, 2), .inr (0, 78)), ((78, 1293), .inl (0, 0))], 101, 101, 109468)
set_option maxRecDepth 100000 in
theorem ck_lc1059 : ck_run (ck_stepL vwCl ck_mts ck_sh ck_T12 ck_cs1059 ck_wrL 900 7) [] [] [] 600 [] 7 1059 ck_sF1059 = true := by decide +kernel
def ck_cs1082 : List ck_C := [ck_c284, ck_c287, ck_c288, ck_c289, ck_c290, ck_c291]
def ck_sF1082 : ck_S := (List.replicate 7 ck_fI, [(0, .inr (2, 900)), (1, .inr (0, 0)), (2, .inr (0, 77)), (3, .inl (0, 0, 0))], [], [((0, 1), .inr (0, 1)), ((1, 1), .inl (0, 0)), ((77, 2), .inr (0, 78)), ((78, 1293), .inl (0, 0))], 101, 101, 109468)
set_option maxRecDepth 100000 in
theorem ck_lc1082 : ck_run (ck_stepL vwCl ck_mts ck_sh ck_T12 ck_cs1082 ck_wrL 900 7) [] [] [] 600 [] 7 1082 ck_sF1082 = true := by decide +kernel
def ck_cs1115 : List ck_C := [ck_c293, ck_c296, ck_c298, ck_c300, ck_c304]
def ck_sF1115 : ck_S := (List.replicate 7 ck_fI, [(0, .inr (2, 900)), (1, .inr (0, 0)), (2, .inr (0, 77)), (3, .inl (0, 0, 0))], [], [((0, 8), .inr (0, 59)), ((59, 5), .inl (0, 0)), ((77, 30), .inl ((-1), (-1)))], 101, 101, 109468)
set_option maxRecDepth 100000 in
theorem ck_lc1115 : ck_run (ck_stepL vwCl ck_mts ck_sh ck_T12 ck_cs1115 ck_wrL 900 7) [] [] [] 600 [] 7 1115 ck_sF1115 = true := by decide +kernel
def ck_cs1148 : List ck_C := [ck_c305, ck_c306, ck_c307, ck_c310, ck_c312]
def ck_sF1148 : ck_S := (List.replicate 7 ck_fI, [(0, .inr (2, 900)), (1, .inr (0, 0)), (2, .inr (0, 77)), (3, .inl (0, 0, 0))], [], [((0, 1), .inr (0, 1)), ((1, 1), .inl (0, 0)), ((77, 2), .inr (0, 78)), ((78, 1293), .inl (0, 0))], 101, 101, 109468)
set_option maxRecDepth 100000 in
theorem ck_lc1148 : ck_run (ck_stepL vwCl ck_mts ck_sh ck_T12 ck_cs1148 ck_wrL 900 7) [] [] [] 600 [] 7 1148 ck_sF1148 = true := by decide +kernel
