def ck_cs885 : List ck_C := [ck_c250, ck_c253]
def ck_sF885 : ck_S := (List.replicate 7 ck_fI, [(0, .inr (2, 900)), (1, .inr (0, 0)), (2, .inr (0, 77)), (3, .inl (0, 0, 0))], [], [((0, 7), .inr (0, 53)), ((0, 8), .inr (0, 59)), ((1, 1), .inl (0, 0)), ((1, 15), .inl (0, 0)), ((53, 1), .inr (0, 1)), ((53, 2), .inr (0, 54)), ((53, 3), .inr (0, 55)), ((53, 4), .inr (0, 56)), ((53, 5), .inr (0, 57)), ((53, 6), .inr (0, 58)), ((54, 0), .inl (0, 0)), ((55, 0), .inl (0, 0)), ((56, 0), .inl (0, 0)), ((57, 0), .inl (0, 0)), ((58, 0), .inl (0, 0)), ((59, 1), .inr (0, 1)), ((59, 2), .inr (0, 60)), ((60, 0), .inl (0, 0)), ((60, 1), .inl (0, 0)), ((77, 2), .inr (0, 78)), ((77, 25), .inr (0, 88)), ((77, 26), .inr (0, 89)), ((77, 27), .inr (0, 90)), ((78, 1293), .inl (0, 0)), ((78, 1294), .inl (0, 0)), ((88, 0), .inl (0, 0)), ((89, 0), .inl (0, 0)), ((90, 0), .inl (0, 0)), ((90, 1), .inl (0, 0))], 101, 101, 109468)
set_option maxRecDepth 100000 in
theorem ck_lc885 : ck_run (ck_stepL vwCl ck_mts ck_sh ck_T12 ck_cs885 ck_wrL 900 7) [] [] [] 600 [] 7 885 ck_sF885 = true := by decide +kernel
def ck_cs898 : List ck_C := [ck_c254, ck_c255, ck_c256]
def ck_sF898 : ck_S := (List.replicate 7 ck_fI, [(0, .inr (2, 900)), (1, .inr (0, 0)), (2, .inr (0, 77)), (3, .inl (0, 0, 0))], [], [((0, 1), .inr (0, 1)), ((1, 1), .inl (0, 0)), ((77, 2), .inr (0, 78)), ((78, 1293), .inl (0, 0))], 101, 101, 109468)
set_option maxRecDepth 100000 in
theorem ck_lc898 : ck_run (ck_stepL vwCl ck_mts ck_sh ck_T12 ck_cs898 ck_wrL 900 7) [] [] [] 600 [] 7 898 ck_sF898 = true := by decide +kernel
def ck_cs931 : List ck_C := [ck_c257, ck_c258, ck_c259]
def ck_sF931 : ck_S := (List.replicate 7 ck_fI, [(0, .inr (2, 900)), (1, .inr (0, 0)), (2, .inr (0, 77)), (3, .inl (0, 0, 0))], [], [((0, 1), .inr (0, 1)), ((1, 1), .inl (0, 0)), ((77, 2), .inr (0, 78)), ((78, 1293), .inl (0, 0))], 101, 101, 109468)
set_option maxRecDepth 100000 in
theorem ck_lc931 : ck_run (ck_stepL vwCl ck_mts ck_sh ck_T12 ck_cs931 ck_wrL 900 7) [] [] [] 600 [] 7 931 ck_sF931 = true := by decide +kernel
def ck_cs954 : List ck_C := [ck_c260, ck_c261]
def ck_sF954 : ck_S := (List.replicate 7 ck_fI, [(0, .inr (2, 900)), (1, .inr (0, 0)), (2, .inr (0, 77)), (3, .inl (0, 0, 0))], [], [((0, 1), .inr (0, 1)), ((0, 7), .inr (0, 53)), ((1, 1), .inl (0, 0)), ((1, 15), .inl (0, 0)), ((53, 1), .inr (0, 1)), ((53, 2), .inr (0, 54)), ((53, 3), .inr (0, 55)), ((53, 4), .inr (0, 56)), ((53, 5), .inr (0, 57)), ((53, 6), .inr (0, 58)), ((54, 0), .inl (0, 0)), ((55, 0), .inl (0, 0)), ((56, 0), .inl (0, 0)), ((57, 0), .inl (0, 0)), ((58, 0), .inl (0, 0)), ((77, 2), .inr (0, 78)), ((78, 1293), .inl (0, 0))], 101, 101, 109468)
set_option maxRecDepth 100000 in
theorem ck_lc954 : ck_run (ck_stepL vwCl ck_mts ck_sh ck_T12 ck_cs954 ck_wrL 900 7) [] [] [] 600 [] 7 954 ck_sF954 = true := by decide +kernel
