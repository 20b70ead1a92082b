def ck_cs753 : List ck_C := [ck_c215, ck_c216, ck_c217]
def ck_sF753 : ck_S := (List.replicate 7 ck_fI, [(0, .inr (2, 900)), (1, .inr (0, 0)), (2, .inr (0, 77)), (3, .inl (0, 0, 0))], [], [((0, 1), .inr (0, 1)), ((1, 15), .inl (0, 0)), ((77, 2), .inr (0, 78)), ((78, 1294), .inl (0, 0))], 101, 101, 109468)
set_option maxRecDepth 100000 in
theorem ck_lc753 : ck_run (ck_stepL vwCl ck_mts ck_sh ck_T12 ck_cs753 ck_wrL 900 7) [] [] [] 600 [] 7 753 ck_sF753 = true := by decide +kernel
def ck_cs776 : List ck_C := [ck_c220, ck_c222, ck_c224, ck_c227, ck_c229, ck_c231, ck_c232, ck_c233]
def ck_sF776 : ck_S := (List.replicate 7 ck_fI, [(0, .inr (2, 900)), (1, .inr (0, 0)), (2, .inr (0, 77)), (3, .inl (0, 0, 0))], [], [((0, 1), .inr (0, 1)), ((1, 15), .inl (0, 0)), ((77, 2), .inr (0, 78)), ((78, 0), .inl ((-1), 15)), ((78, 193), .inl (0, 0)), ((78, 194), .inl (0, 0)), ((78, 195), .inl (0, 0)), ((78, 196), .inl (0, 0)), ((78, 197), .inl (0, 0)), ((78, 198), .inl (0, 0)), ((78, 199), .inl (0, 0)), ((78, 200), .inl (0, 0)), ((78, 201), .inl (0, 0)), ((78, 202), .inl (0, 0)), ((78, 203), .inl (0, 0)), ((78, 204), .inl (0, 0)), ((78, 1293), .inl (0, 0)), ((78, 1294), .inl (0, 0)), ((78, 1295), .inl (0, 0))], 101, 101, 109468)
set_option maxRecDepth 100000 in
theorem ck_lc776 : ck_run (ck_stepL vwCl ck_mts ck_sh ck_T12 ck_cs776 ck_wrL 900 7) [] [] [] 600 [] 7 776 ck_sF776 = true := by decide +kernel
def ck_cs819 : List ck_C := [ck_c235, ck_c236, ck_c237]
def ck_sF819 : ck_S := (List.replicate 7 ck_fI, [(0, .inr (2, 900)), (1, .inr (0, 0)), (2, .inr (0, 77)), (3, .inl (0, 0, 0))], [], [((0, 1), .inr (0, 1)), ((1, 1), .inl (0, 0)), ((77, 2), .inr (0, 78)), ((78, 1293), .inl (0, 0))], 101, 101, 109468)
set_option maxRecDepth 100000 in
theorem ck_lc819 : ck_run (ck_stepL vwCl ck_mts ck_sh ck_T12 ck_cs819 ck_wrL 900 7) [] [] [] 600 [] 7 819 ck_sF819 = true := by decide +kernel
def ck_cs852 : List ck_C := [ck_c238, ck_c239, ck_c240]
def ck_sF852 : ck_S := (List.replicate 7 ck_fI, [(0, .inr (2, 900)), (1, .inr (0, 0)), (2, .inr (0, 77)), (3, .inl (0, 0, 0))], [], [((0, 1), .inr (0, 1)), ((1, 1), .inl (0, 0)), ((77, 2), .inr (0, 78)), ((78, 1293), .inl (0, 0))], 101, 101, 109468)
set_option maxRecDepth 100000 in
theorem ck_lc852 : ck_run (ck_stepL vwCl ck_mts ck_sh ck_T12 ck_cs852 ck_wrL 900 7) [] [] [] 600 [] 7 852 ck_sF852 = true := by decide +kernel
