def ck_cs579 : List ck_C := [ck_c188, ck_c189, ck_c190]
def ck_sF579 : ck_S := (List.replicate 7 ck_fI, [(0, .inr (2, 900)), (1, .inr (0, 0)), (2, .inr (0, 77)), (3, .inl (0, 0, 0))], [], [((0, 1), .inr (0, 1)), ((1, 1), .inl (0, 0)), ((77, 2), .inr (0, 78)), ((78, 1293), .inl (0, 0))], 101, 101, 109468)
set_option maxRecDepth 100000 in
theorem ck_lc579 : ck_run (ck_stepL vwCl ck_mts ck_sh ck_T12 ck_cs579 ck_wrL 900 7) [] [] [] 600 [] 7 579 ck_sF579 = true := by decide +kernel
def ck_cs632 : List ck_C := [ck_c191, ck_c193, ck_c195, ck_c197, ck_c199, ck_c201, ck_c202, ck_c203, ck_c204, ck_c205, ck_c206]
def ck_sF632 : ck_S := (List.replicate 7 ck_fI, [(0, .inr (2, 900)), (1, .inr (0, 0)), (2, .inr (0, 77)), (3, .inl (0, 0, 0))], [], [((0, 1), .inr (0, 1)), ((1, 1), .inl (0, 0)), ((77, 2), .inr (0, 78)), ((78, 1293), .inl (0, 0))], 101, 101, 109468)
set_option maxRecDepth 100000 in
theorem ck_lc632 : ck_run (ck_stepL vwCl ck_mts ck_sh ck_T12 ck_cs632 ck_wrL 900 7) [] [] [] 600 [] 7 632 ck_sF632 = true := by decide +kernel
def ck_cs707 : List ck_C := [ck_c207, ck_c208]
def ck_sF707 : ck_S := (List.replicate 7 ck_fI, [(0, .inr (2, 900)), (1, .inr (0, 0)), (2, .inr (0, 77)), (3, .inl (0, 0, 0))], [], [((0, 4), .inr (0, 45)), ((45, 2), .inl (0, 0)), ((77, 8), .inl (0, 0))], 101, 101, 109468)
set_option maxRecDepth 100000 in
theorem ck_lc707 : ck_run (ck_stepL vwCl ck_mts ck_sh ck_T12 ck_cs707 ck_wrL 900 7) [] [] [] 600 [] 7 707 ck_sF707 = true := by decide +kernel
def ck_cs720 : List ck_C := [ck_c210, ck_c212, ck_c214]
def ck_sF720 : ck_S := (List.replicate 7 ck_fI, [(0, .inr (2, 900)), (1, .inr (0, 0)), (2, .inr (0, 77)), (3, .inl (0, 0, 0))], [], [((0, 1), .inr (0, 1)), ((1, 15), .inl (0, 0)), ((77, 2), .inr (0, 78)), ((78, 1294), .inl (0, 0))], 101, 101, 109468)
set_option maxRecDepth 100000 in
theorem ck_lc720 : ck_run (ck_stepL vwCl ck_mts ck_sh ck_T12 ck_cs720 ck_wrL 900 7) [] [] [] 600 [] 7 720 ck_sF720 = true := by decide +kernel
