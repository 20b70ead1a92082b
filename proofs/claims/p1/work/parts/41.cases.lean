/-! THE LAW'S CASES: written by wip/gen/pr.py -/
def ck_wrL : List (Nat × Nat) := [(0, 1), (0, 2), (0, 3), (0, 4), (0, 5), (0, 6), (0, 7), (0, 8), (0, 9), (0, 10), (0, 11), (0, 12), (0, 13), (0, 14), (0, 15), (1, 1), (1, 2), (1, 3), (1, 4), (1, 5), (1, 6), (1, 7), (1, 8), (1, 9), (1, 10), (1, 11), (1, 12), (1, 13), (1, 14), (1, 15), (1, 16), (1, 17), (1, 18), (1, 19), (2, 0), (3, 0), (4, 0), (7, 0), (8, 0), (9, 0), (11, 1), (11, 2), (15, 0), (16, 1), (16, 2), (16, 3), (16, 4), (16, 5), (16, 6), (16, 7), (16, 8), (16, 9), (16, 10), (16, 11), (16, 12), (16, 13), (16, 14), (16, 15), (16, 16), (16, 17), (16, 18), (16, 19), (17, 0), (18, 0), (19, 0), (20, 0), (21, 0), (22, 0), (23, 0), (24, 0), (25, 0), (26, 1), (26, 2), (29, 0), (30, 1), (30, 2), (30, 3), (30, 4), (30, 5), (30, 6), (30, 7), (30, 8), (30, 9), (30, 10), (30, 11), (30, 12), (30, 13), (30, 14), (30, 15), (30, 16), (30, 17), (30, 18), (30, 19), (31, 0), (32, 0), (33, 0), (34, 0), (35, 0), (36, 0), (37, 0), (38, 0), (39, 0), (40, 1), (40, 2), (43, 0), (44, 0), (45, 1), (45, 2), (46, 0), (47, 1), (47, 2), (47, 3), (47, 4), (47, 5), (47, 6), (47, 7), (47, 8), (47, 9), (47, 10), (47, 11), (50, 1), (50, 2), (50, 3), (53, 1), (53, 2), (53, 3), (53, 4), (53, 5), (53, 6), (54, 0), (55, 0), (56, 0), (57, 0), (58, 0), (59, 1), (59, 2), (59, 3), (59, 4), (59, 5), (59, 6), (59, 7), (60, 0), (64, 0), (65, 1), (65, 2), (65, 3), (65, 4), (65, 5), (65, 6), (67, 0), (68, 0), (70, 1), (70, 2), (71, 1), (71, 2), (71, 3), (71, 4), (71, 5), (74, 1), (74, 2), (74, 3), (77, 1), (77, 2), (77, 3), (77, 4), (77, 5), (77, 6), (77, 7), (77, 8), (77, 9), (77, 10), (77, 11), (77, 12), (77, 13), (77, 14), (77, 15), (77, 16), (77, 20), (77, 25), (77, 26), (77, 27), (77, 28), (77, 29), (77, 30), (77, 31), (77, 32), (77, 36), (77, 37), (77, 38), (77, 39), (77, 40), (77, 41), (78, 0), (79, 0), (80, 0), (81, 0), (82, 0), (83, 0), (84, 0), (85, 0), (86, 0), (88, 0), (89, 0), (90, 0), (91, 0)]
def ck_fI : ck_I := ((-2147483648), 2147483647, 0, (0, 0, 0))
def ck_csP : List ck_C := [ck_c16, ck_c17]
def ck_cs1454 : List ck_C := []
def ck_sF1454 : ck_S := (List.replicate 7 ck_fI, [(0, .inr (2, 900)), (1, .inr (0, 0)), (2, .inr (0, 77)), (3, .inl (0, 0, 0))], [], [], 101, 101, 109468)
set_option maxRecDepth 100000 in
theorem ck_lc1454 : ck_run (ck_stepL vwCl ck_mts ck_sh ck_T12 ck_cs1454 ck_wrL 900 7) [] [] [] 600 [] 7 1454 ck_sF1454 = true := by decide +kernel
def ck_cs216 : List ck_C := [ck_c24, ck_c27, ck_c29, ck_c32, ck_c34, ck_c37, ck_c39, ck_c43]
def ck_sF216 : ck_S := (List.replicate 7 ck_fI, [(0, .inr (2, 900)), (1, .inr (0, 0)), (2, .inr (0, 77)), (3, .inl (0, 0, 0))], [], [((0, 1), .inr (0, 1)), ((1, 1), .inl (0, 0)), ((1, 2), .inr (0, 2)), ((1, 3), .inr (0, 3)), ((1, 4), .inr (0, 4)), ((2, 0), .inl (0, 0)), ((3, 0), .inl (0, 0)), ((4, 0), .inl (0, 0)), ((77, 2), .inr (0, 78)), ((78, 0), .inl ((-1), 15)), ((78, 193), .inl (0, 0)), ((78, 194), .inl (0, 0)), ((78, 195), .inl (0, 0)), ((78, 196), .inl (0, 0)), ((78, 197), .inl (0, 0)), ((78, 198), .inl (0, 0)), ((78, 199), .inl (0, 0)), ((78, 200), .inl (0, 0)), ((78, 201), .inl (0, 0)), ((78, 202), .inl (0, 0)), ((78, 203), .inl (0, 0)), ((78, 204), .inl (0, 0)), ((78, 1293), .inl (0, 0)), ((78, 1294), .inl (0, 0)), ((78, 1295), .inl (0, 0))], 101, 101, 109468)
set_option maxRecDepth 100000 in
theorem ck_lc216 : ck_run (ck_stepL vwCl ck_mts ck_sh ck_T12 ck_cs216 ck_wrL 900 7) [] [] [] 600 [] 7 216 ck_sF216 = true := by decide +kernel
def ck_cs259 : List ck_C := [ck_c51, ck_c53, ck_c55, ck_c58, ck_c60, ck_c63, ck_c65, ck_c70, ck_c73]
def ck_sF259 : ck_S := (List.replicate 7 ck_fI, [(0, .inr (2, 900)), (1, .inr (0, 0)), (2, .inr (0, 77)), (3, .inl (0, 0, 0))], [], [((0, 1), .inr (0, 1)), ((1, 1), .inl (0, 0)), ((77, 2), .inr (0, 78)), ((78, 1293), .inl (0, 0))], 101, 101, 109468)
set_option maxRecDepth 100000 in
theorem ck_lc259 : ck_run (ck_stepL vwCl ck_mts ck_sh ck_T12 ck_cs259 ck_wrL 900 7) [] [] [] 600 [] 7 259 ck_sF259 = true := by decide +kernel
def ck_cs312 : List ck_C := [ck_c74, ck_c75, ck_c76, ck_c77, ck_c78]
def ck_sF312 : ck_S := (List.replicate 7 ck_fI, [(0, .inr (2, 900)), (1, .inr (0, 0)), (2, .inr (0, 77)), (3, .inl (0, 0, 0))], [], [((0, 1), .inr (0, 1)), ((1, 1), .inl (0, 0)), ((77, 2), .inr (0, 78)), ((78, 1293), .inl (0, 0))], 101, 101, 109468)
set_option maxRecDepth 100000 in
theorem ck_lc312 : ck_run (ck_stepL vwCl ck_mts ck_sh ck_T12 ck_cs312 ck_wrL 900 7) [] [] [] 600 [] 7 312 ck_sF312 = true := by decide +kernel
def ck_cs345 : List ck_C := [ck_c81, ck_c82, ck_c83, ck_c97, ck_c99, ck_c113]
def ck_sF345 : ck_S := (List.replicate 7 ck_fI, [(0, .inr (2, 900)), (1, .inr (0, 0)), (2, .inr (0, 77)), (3, .inl (0, 0, 0))], [], [((0, 1), .inr (0, 1)), ((1, 7), .inr (0, 7)), ((7, 0), .inl (0, 0)), ((77, 2), .inr (0, 78)), ((78, 0), .inl ((-1), 15)), ((78, 193), .inl (0, 0)), ((78, 194), .inl (0, 0)), ((78, 195), .inl (0, 0)), ((78, 196), .inl (0, 0)), ((78, 197), .inl (0, 0)), ((78, 198), .inl (0, 0)), ((78, 199), .inl (0, 0)), ((78, 200), .inl (0, 0)), ((78, 201), .inl (0, 0)), ((78, 202), .inl (0, 0)), ((78, 203), .inl (0, 0)), ((78, 204), .inl (0, 0)), ((78, 1293), .inl (0, 0)), ((78, 1294), .inl (0, 0)), ((78, 1295), .inl (0, 0))], 101, 101, 109468)
set_option maxRecDepth 100000 in
theorem ck_lc345 : ck_run (ck_stepL vwCl ck_mts ck_sh ck_T12 ck_cs345 ck_wrL 900 7) [] [] [] 600 [] 7 345 ck_sF345 = true := by decide +kernel
def ck_cs378 : List ck_C := [ck_c116, ck_c117, ck_c118, ck_c120, ck_c122, ck_c124, ck_c125, ck_c126]
def ck_sF378 : ck_S := (List.replicate 7 ck_fI, [(0, .inr (2, 900)), (1, .inr (0, 0)), (2, .inr (0, 77)), (3, .inl (0, 0, 0))], [], [((0, 1), .inr (0, 1)), ((1, 8), .inr (0, 8)), ((1, 9), .inr (0, 9)), ((8, 0), .inl (0, 0)), ((9, 0), .inl (0, 0)), ((77, 2), .inr (0, 78)), ((78, 0), .inl ((-1), 15)), ((78, 193), .inl (0, 0)), ((78, 194), .inl (0, 0)), ((78, 195), .inl (0, 0)), ((78, 196), .inl (0, 0)), ((78, 197), .inl (0, 0)), ((78, 198), .inl (0, 0)), ((78, 199), .inl (0, 0)), ((78, 200), .inl (0, 0)), ((78, 201), .inl (0, 0)), ((78, 202), .inl (0, 0)), ((78, 203), .inl (0, 0)), ((78, 204), .inl (0, 0)), ((78, 1293), .inl (0, 0)), ((78, 1294), .inl (0, 0)), ((78, 1295), .inl (0, 0))], 101, 101, 109468)
set_option maxRecDepth 100000 in
theorem ck_lc378 : ck_run (ck_stepL vwCl ck_mts ck_sh ck_T12 ck_cs378 ck_wrL 900 7) [] [] [] 600 [] 7 378 ck_sF378 = true := by decide +kernel
def ck_cs421 : List ck_C := [ck_c128, ck_c130, ck_c132, ck_c134]
def ck_sF421 : ck_S := (List.replicate 7 ck_fI, [(0, .inr (2, 900)), (1, .inr (0, 0)), (2, .inr (0, 77)), (3, .inl (0, 0, 0))], [], [((0, 1), .inr (0, 1)), ((77, 2), .inr (0, 78)), ((78, 0), .inl ((-1), 15)), ((78, 193), .inl (0, 0)), ((78, 194), .inl (0, 0)), ((78, 195), .inl (0, 0)), ((78, 196), .inl (0, 0)), ((78, 197), .inl (0, 0)), ((78, 198), .inl (0, 0)), ((78, 199), .inl (0, 0)), ((78, 200), .inl (0, 0)), ((78, 201), .inl (0, 0)), ((78, 202), .inl (0, 0)), ((78, 203), .inl (0, 0)), ((78, 204), .inl (0, 0)), ((78, 1293), .inl (0, 0)), ((78, 1294), .inl (0, 0)), ((78, 1295), .inl (0, 0))], 101, 101, 109468)
set_option maxRecDepth 100000 in
theorem ck_lc421 : ck_run (ck_stepL vwCl ck_mts ck_sh ck_T12 ck_cs421 ck_wrL 900 7) [] [] [] 600 [] 7 421 ck_sF421 = true := by decide +kernel
def ck_cs444 : List ck_C := [ck_c140, ck_c141]
def ck_sF444 : ck_S := (List.replicate 7 ck_fI, [(0, .inr (2, 900)), (1, .inr (0, 0)), (2, .inr (0, 77)), (3, .inl (0, 0, 0))], [], [((0, 4), .inr (0, 45)), ((45, 1), .inr (0, 46)), ((45, 2), .inl (0, 0)), ((46, 0), .inl (0, 0)), ((77, 6), .inr (0, 82)), ((77, 7), .inr (0, 83)), ((77, 8), .inl (0, 0)), ((82, 0), .inl (0, 0)), ((83, 0), .inl (0, 0))], 101, 101, 109468)
set_option maxRecDepth 100000 in
theorem ck_lc444 : ck_run (ck_stepL vwCl ck_mts ck_sh ck_T12 ck_cs444 ck_wrL 900 7) [] [] [] 600 [] 7 444 ck_sF444 = true := by decide +kernel
def ck_cs507 : List ck_C := [ck_c143, ck_c145, ck_c147, ck_c149]
def ck_sF507 : ck_S := (List.replicate 7 ck_fI, [(0, .inr (2, 900)), (1, .inr (0, 0)), (2, .inr (0, 77)), (3, .inl (0, 0, 0))], [], [((0, 4), .inr (0, 45)), ((45, 2), .inl (0, 0)), ((77, 8), .inl (0, 0))], 101, 101, 109468)
set_option maxRecDepth 100000 in
theorem ck_lc507 : ck_run (ck_stepL vwCl ck_mts ck_sh ck_T12 ck_cs507 ck_wrL 900 7) [] [] [] 600 [] 7 507 ck_sF507 = true := by decide +kernel
def ck_cs530 : List ck_C := [ck_c163, ck_c180]
def ck_sF530 : ck_S := (List.replicate 7 ck_fI, [(0, .inr (2, 900)), (1, .inr (0, 0)), (2, .inr (0, 77)), (3, .inl (0, 0, 0))], [], [((0, 1), .inr (0, 1)), ((0, 4), .inr (0, 45)), ((0, 5), .inr (0, 47)), ((1, 12), .inl (0, 0)), ((45, 2), .inl (0, 0)), ((47, 1), .inr (0, 45)), ((47, 8), .inl (0, 0)), ((47, 9), .inl (0, 0)), ((47, 10), .inl (0, 0)), ((77, 2), .inr (0, 78)), ((77, 8), .inl (0, 0)), ((77, 10), .inr (0, 84)), ((77, 11), .inr (0, 85)), ((77, 12), .inr (0, 86)), ((77, 13), .inl (0, 0)), ((77, 14), .inl (0, 0)), ((77, 16), .inl (0, 0)), ((78, 1295), .inl (0, 0)), ((84, 0), .inl (0, 0)), ((85, 0), .inl (0, 0)), ((86, 0), .inl (0, 0))], 101, 101, 109468)
set_option maxRecDepth 100000 in
theorem ck_lc530 : ck_run (ck_stepL vwCl ck_mts ck_sh ck_T12 ck_cs530 ck_wrL 900 7) [] [] [] 600 [] 7 530 ck_sF530 = true := by decide +kernel
def ck_cs543 : List ck_C := [ck_c181, ck_c182]
def ck_sF543 : ck_S := (List.replicate 7 ck_fI, [(0, .inr (2, 900)), (1, .inr (0, 0)), (2, .inr (0, 77)), (3, .inl (0, 0, 0))], [], [((0, 14), .inl ((-1), (-1))), ((77, 9), .inl ((-1), (-1)))], 101, 101, 109468)
set_option maxRecDepth 100000 in
theorem ck_lc543 : ck_run (ck_stepL vwCl ck_mts ck_sh ck_T12 ck_cs543 ck_wrL 900 7) [] [] [] 600 [] 7 543 ck_sF543 = true := by decide +kernel
def ck_cs556 : List ck_C := [ck_c183, ck_c185, ck_c187]
def ck_sF556 : ck_S := (List.replicate 7 ck_fI, [(0, .inr (2, 900)), (1, .inr (0, 0)), (2, .inr (0, 77)), (3, .inl (0, 0, 0))], [], [((0, 1), .inr (0, 1)), ((1, 12), .inl (0, 0)), ((77, 2), .inr (0, 78)), ((78, 1295), .inl (0, 0))], 101, 101, 109468)
set_option maxRecDepth 100000 in
theorem ck_lc556 : ck_run (ck_stepL vwCl ck_mts ck_sh ck_T12 ck_cs556 ck_wrL 900 7) [] [] [] 600 [] 7 556 ck_sF556 = true := by decide +kernel
def ck_cs579 : List ck_C := [ck_c188, ck_c189, ck_c190]
def ck_sF579 : ck_S := (List.replicate 7 ck_fI, [(0, .inr (2, 900)), (1, .inr (0, 0)), (2, .inr (0, 77)), (3, .inl (0, 0, 0))], [], [((0, 1), .inr (0, 1)), ((1, 1), .inl (0, 0)), ((77, 2), .inr (0, 78)), ((78, 1293), .inl (0, 0))], 101, 101, 109468)
set_option maxRecDepth 100000 in
theorem ck_lc579 : ck_run (ck_stepL vwCl ck_mts ck_sh ck_T12 ck_cs579 ck_wrL 900 7) [] [] [] 600 [] 7 579 ck_sF579 = true := by decide +kernel
def ck_cs632 : List ck_C := [ck_c191, ck_c193, ck_c195, ck_c197, ck_c199, ck_c201, ck_c202, ck_c203, ck_c204, ck_c205, ck_c206]
def ck_sF632 : ck_S := (List.replicate 7 ck_fI, [(0, .inr (2, 900)), (1, .inr (0, 0)), (2, .inr (0, 77)), (3, .inl (0, 0, 0))], [], [((0, 1), .inr (0, 1)), ((1, 1), .inl (0, 0)), ((77, 2), .inr (0, 78)), ((78, 1293), .inl (0, 0))], 101, 101, 109468)
set_option maxRecDepth 100000 in
theorem ck_lc632 : ck_run (ck_stepL vwCl ck_mts ck_sh ck_T12 ck_cs632 ck_wrL 900 7) [] [] [] 600 [] 7 632 ck_sF632 = true := by decide +kernel
def ck_cs707 : List ck_C := [ck_c207, ck_c208]
def ck_sF707 : ck_S := (List.replicate 7 ck_fI, [(0, .inr (2, 900)), (1, .inr (0, 0)), (2, .inr (0, 77)), (3, .inl (0, 0, 0))], [], [((0, 4), .inr (0, 45)), ((45, 2), .inl (0, 0)), ((77, 8), .inl (0, 0))], 101, 101, 109468)
set_option maxRecDepth 100000 in
theorem ck_lc707 : ck_run (ck_stepL vwCl ck_mts ck_sh ck_T12 ck_cs707 ck_wrL 900 7) [] [] [] 600 [] 7 707 ck_sF707 = true := by decide +kernel
def ck_cs720 : List ck_C := [ck_c210, ck_c212, ck_c214]
def ck_sF720 : ck_S := (List.replicate 7 ck_fI, [(0, .inr (2, 900)), (1, .inr (0, 0)), (2, .inr (0, 77)), (3, .inl (0, 0, 0))], [], [((0, 1), .inr (0, 1)), ((1, 15), .inl (0, 0)), ((77, 2), .inr (0, 78)), ((78, 1294), .inl (0, 0))], 101, 101, 109468)
set_option maxRecDepth 100000 in
theorem ck_lc720 : ck_run (ck_stepL vwCl ck_mts ck_sh ck_T12 ck_cs720 ck_wrL 900 7) [] [] [] 600 [] 7 720 ck_sF720 = true := by decide +kernel
def ck_cs753 : List ck_C := [ck_c215, ck_c216, ck_c217]
def ck_sF753 : ck_S := (List.replicate 7 ck_fI, [(0, .inr (2, 900)), (1, .inr (0, 0)), (2, .inr (0, 77)), (3, .inl (0, 0, 0))], [], [((0, 1), .inr (0, 1)), ((1, 15), .inl (0, 0)), ((77, 2), .inr (0, 78)), ((78, 1294), .inl (0, 0))], 101, 101, 109468)
set_option maxRecDepth 100000 in
theorem ck_lc753 : ck_run (ck_stepL vwCl ck_mts ck_sh ck_T12 ck_cs753 ck_wrL 900 7) [] [] [] 600 [] 7 753 ck_sF753 = true := by decide +kernel
def ck_cs776 : List ck_C := [ck_c220, ck_c222, ck_c224, ck_c227, ck_c229, ck_c231, ck_c232, ck_c233]
def ck_sF776 : ck_S := (List.replicate 7 ck_fI, [(0, .inr (2, 900)), (1, .inr (0, 0)), (2, .inr (0, 77)), (3, .inl (0, 0, 0))], [], [((0, 1), .inr (0, 1)), ((1, 15), .inl (0, 0)), ((77, 2), .inr (0, 78)), ((78, 0), .inl ((-1), 15)), ((78, 193), .inl (0, 0)), ((78, 194), .inl (0, 0)), ((78, 195), .inl (0, 0)), ((78, 196), .inl (0, 0)), ((78, 197), .inl (0, 0)), ((78, 198), .inl (0, 0)), ((78, 199), .inl (0, 0)), ((78, 200), .inl (0, 0)), ((78, 201), .inl (0, 0)), ((78, 202), .inl (0, 0)), ((78, 203), .inl (0, 0)), ((78, 204), .inl (0, 0)), ((78, 1293), .inl (0, 0)), ((78, 1294), .inl (0, 0)), ((78, 1295), .inl (0, 0))], 101, 101, 109468)
set_option maxRecDepth 100000 in
theorem ck_lc776 : ck_run (ck_stepL vwCl ck_mts ck_sh ck_T12 ck_cs776 ck_wrL 900 7) [] [] [] 600 [] 7 776 ck_sF776 = true := by decide +kernel
def ck_cs819 : List ck_C := [ck_c235, ck_c236, ck_c237]
def ck_sF819 : ck_S := (List.replicate 7 ck_fI, [(0, .inr (2, 900)), (1, .inr (0, 0)), (2, .inr (0, 77)), (3, .inl (0, 0, 0))], [], [((0, 1), .inr (0, 1)), ((1, 1), .inl (0, 0)), ((77, 2), .inr (0, 78)), ((78, 1293), .inl (0, 0))], 101, 101, 109468)
set_option maxRecDepth 100000 in
theorem ck_lc819 : ck_run (ck_stepL vwCl ck_mts ck_sh ck_T12 ck_cs819 ck_wrL 900 7) [] [] [] 600 [] 7 819 ck_sF819 = true := by decide +kernel
def ck_cs852 : List ck_C := [ck_c238, ck_c239, ck_c240]
def ck_sF852 : ck_S := (List.replicate 7 ck_fI, [(0, .inr (2, 900)), (1, .inr (0, 0)), (2, .inr (0, 77)), (3, .inl (0, 0, 0))], [], [((0, 1), .inr (0, 1)), ((1, 1), .inl (0, 0)), ((77, 2), .inr (0, 78)), ((78, 1293), .inl (0, 0))], 101, 101, 109468)
set_option maxRecDepth 100000 in
theorem ck_lc852 : ck_run (ck_stepL vwCl ck_mts ck_sh ck_T12 ck_cs852 ck_wrL 900 7) [] [] [] 600 [] 7 852 ck_sF852 = true := by decide +kernel
def ck_cs885 : List ck_C := [ck_c250, ck_c253]
def ck_sF885 : ck_S := (List.replicate 7 ck_fI, [(0, .inr (2, 900)), (1, .inr (0, 0)), (2, .inr (0, 77)), (3, .inl (0, 0, 0))], [], [((0, 7), .inr (0, 53)), ((0, 8), .inr (0, 59)), ((1, 1), .inl (0, 0)), ((1, 15), .inl (0, 0)), ((53, 1), .inr (0, 1)), ((53, 2), .inr (0, 54)), ((53, 3), .inr (0, 55)), ((53, 4), .inr (0, 56)), ((53, 5), .inr (0, 57)), ((53, 6), .inr (0, 58)), ((54, 0), .inl (0, 0)), ((55, 0), .inl (0, 0)), ((56, 0), .inl (0, 0)), ((57, 0), .inl (0, 0)), ((58, 0), .inl (0, 0)), ((59, 1), .inr (0, 1)), ((59, 2), .inr (0, 60)), ((60, 0), .inl (0, 0)), ((60, 1), .inl (0, 0)), ((77, 2), .inr (0, 78)), ((77, 25), .inr (0, 88)), ((77, 26), .inr (0, 89)), ((77, 27), .inr (0, 90)), ((78, 1293), .inl (0, 0)), ((78, 1294), .inl (0, 0)), ((88, 0), .inl (0, 0)), ((89, 0), .inl (0, 0)), ((90, 0), .inl (0, 0)), ((90, 1), .inl (0, 0))], 101, 101, 109468)
set_option maxRecDepth 100000 in
theorem ck_lc885 : ck_run (ck_stepL vwCl ck_mts ck_sh ck_T12 ck_cs885 ck_wrL 900 7) [] [] [] 600 [] 7 885 ck_sF885 = true := by decide +kernel
def ck_cs898 : List ck_C := [ck_c254, ck_c255, ck_c256]
def ck_sF898 : ck_S := (List.replicate 7 ck_fI, [(0, .inr (2, 900)), (1, .inr (0, 0)), (2, .inr (0, 77)), (3, .inl (0, 0, 0))], [], [((0, 1), .inr (0, 1)), ((1, 1), .inl (0, 0)), ((77, 2), .inr (0, 78)), ((78, 1293), .inl (0, 0))], 101, 101, 109468)
set_option maxRecDepth 100000 in
theorem ck_lc898 : ck_run (ck_stepL vwCl ck_mts ck_sh ck_T12 ck_cs898 ck_wrL 900 7) [] [] [] 600 [] 7 898 ck_sF898 = true := by decide +kernel
def ck_cs931 : List ck_C := [ck_c257, ck_c258, ck_c259]
def ck_sF931 : ck_S := (List.replicate 7 ck_fI, [(0, .inr (2, 900)), (1, .inr (0, 0)), (2, .inr (0, 77)), (3, .inl (0, 0, 0))], [], [((0, 1), .inr (0, 1)), ((1, 1), .inl (0, 0)), ((77, 2), .inr (0, 78)), ((78, 1293), .inl (0, 0))], 101, 101, 109468)
set_option maxRecDepth 100000 in
theorem ck_lc931 : ck_run (ck_stepL vwCl ck_mts ck_sh ck_T12 ck_cs931 ck_wrL 900 7) [] [] [] 600 [] 7 931 ck_sF931 = true := by decide +kernel
def ck_cs954 : List ck_C := [ck_c260, ck_c261]
def ck_sF954 : ck_S := (List.replicate 7 ck_fI, [(0, .inr (2, 900)), (1, .inr (0, 0)), (2, .inr (0, 77)), (3, .inl (0, 0, 0))], [], [((0, 1), .inr (0, 1)), ((0, 7), .inr (0, 53)), ((1, 1), .inl (0, 0)), ((1, 15), .inl (0, 0)), ((53, 1), .inr (0, 1)), ((53, 2), .inr (0, 54)), ((53, 3), .inr (0, 55)), ((53, 4), .inr (0, 56)), ((53, 5), .inr (0, 57)), ((53, 6), .inr (0, 58)), ((54, 0), .inl (0, 0)), ((55, 0), .inl (0, 0)), ((56, 0), .inl (0, 0)), ((57, 0), .inl (0, 0)), ((58, 0), .inl (0, 0)), ((77, 2), .inr (0, 78)), ((78, 1293), .inl (0, 0))], 101, 101, 109468)
set_option maxRecDepth 100000 in
theorem ck_lc954 : ck_run (ck_stepL vwCl ck_mts ck_sh ck_T12 ck_cs954 ck_wrL 900 7) [] [] [] 600 [] 7 954 ck_sF954 = true := by decide +kernel
def ck_cs967 : List ck_C := [ck_c266, ck_c267]
def ck_sF967 : ck_S := (List.replicate 7 ck_fI, [(0, .inr (2, 900)), (1, .inr (0, 0)), (2, .inr (0, 77)), (3, .inl (0, 0, 0))], [], [((0, 7), .inr (0, 53)), ((0, 8), .inr (0, 59)), ((1, 1), .inl (0, 0)), ((1, 15), .inl (0, 0)), ((53, 1), .inr (0, 1)), ((53, 2), .inr (0, 54)), ((53, 3), .inr (0, 55)), ((53, 4), .inr (0, 56)), ((53, 5), .inr (0, 57)), ((53, 6), .inr (0, 58)), ((54, 0), .inl (0, 0)), ((55, 0), .inl (0, 0)), ((56, 0), .inl (0, 0)), ((57, 0), .inl (0, 0)), ((58, 0), .inl (0, 0)), ((59, 1), .inr (0, 1)), ((59, 2), .inr (0, 60)), ((59, 5), .inl (0, 0)), ((59, 7), .inr (0, 64)), ((60, 0), .inl (0, 0)), ((60, 1), .inl (0, 0)), ((64, 0), .inl ((-1), 0)), ((77, 2), .inr (0, 78)), ((77, 25), .inr (0, 88)), ((77, 26), .inr (0, 89)), ((77, 28), .inr (0, 91)), ((78, 1293), .inl (0, 0)), ((78, 1294), .inl (0, 0)), ((88, 0), .inl (0, 0)), ((89, 0), .inl (0, 0)), ((91, 0), .inl (0, 0)), ((91, 1), .inl (0, 0))], 101, 101, 109468)
set_option maxRecDepth 100000 in
theorem ck_lc967 : ck_run (ck_stepL vwCl ck_mts ck_sh ck_T12 ck_cs967 ck_wrL 900 7) [] [] [] 600 [] 7 967 ck_sF967 = true := by decide +kernel
def ck_cs980 : List ck_C := [ck_c268, ck_c270, ck_c272]
def ck_sF980 : ck_S := (List.replicate 7 ck_fI, [(0, .inr (2, 900)), (1, .inr (0, 0)), (2, .inr (0, 77)), (3, .inl (0, 0, 0))], [], [((0, 8), .inr (0, 59)), ((59, 5), .inl (0, 0)), ((77, 30), .inl ((-1), (-1)))], 101, 101, 109468)
set_option maxRecDepth 100000 in
theorem ck_lc980 : ck_run (ck_stepL vwCl ck_mts ck_sh ck_T12 ck_cs980 ck_wrL 900 7) [] [] [] 600 [] 7 980 ck_sF980 = true := by decide +kernel
def ck_cs1003 : List ck_C := [ck_c273, ck_c274]
def ck_sF1003 : ck_S := (List.replicate 7 ck_fI, [(0, .inr (2, 900)), (1, .inr (0, 0)), (2, .inr (0, 77)), (3, .inl (0, 0, 0))], [], [((0, 1), .inr (0, 1)), ((1, 15), .inl (0, 0)), ((77, 2), .inr (0, 78)), ((78, 1294), .inl (0, 0))], 101, 101, 109468)
set_option maxRecDepth 100000 in
theorem ck_lc1003 : ck_run (ck_stepL vwCl ck_mts ck_sh ck_T12 ck_cs1003 ck_wrL 900 7) [] [] [] 600 [] 7 1003 ck_sF1003 = true := by decide +kernel
def ck_cs1026 : List ck_C := [ck_c275, ck_c276, ck_c277]
def ck_sF1026 : ck_S := (List.replicate 7 ck_fI, [(0, .inr (2, 900)), (1, .inr (0, 0)), (2, .inr (0, 77)), (3, .inl (0, 0, 0))], [], [((0, 1), .inr (0, 1)), ((1, 1), .inl (0, 0)), ((77, 2), .inr (0, 78)), ((78, 1293), .inl (0, 0))], 101, 101, 109468)
set_option maxRecDepth 100000 in
theorem ck_lc1026 : ck_run (ck_stepL vwCl ck_mts ck_sh ck_T12 ck_cs1026 ck_wrL 900 7) [] [] [] 600 [] 7 1026 ck_sF1026 = true := by decide +kernel
def ck_cs1059 : List ck_C := [ck_c278, ck_c279, ck_c280]
def ck_sF1059 : ck_S := (List.replicate 7 ck_fI, [(0, .inr (2, 900)), (1, .inr (0, 0)), (2, .inr (0, 77)), (3, .inl (0, 0, 0))], [], [((0, 1), .inr (0, 1)), ((1, 1), .inl (0, 0)), ((77, 2), .inr (0, 78)), ((78, 1293), .inl (0, 0))], 101, 101, 109468)
set_option maxRecDepth 100000 in
theorem ck_lc1059 : ck_run (ck_stepL vwCl ck_mts ck_sh ck_T12 ck_cs1059 ck_wrL 900 7) [] [] [] 600 [] 7 1059 ck_sF1059 = true := by decide +kernel
def ck_cs1082 : List ck_C := [ck_c284, ck_c287, ck_c288, ck_c289, ck_c290, ck_c291]
def ck_sF1082 : ck_S := (List.replicate 7 ck_fI, [(0, .inr (2, 900)), (1, .inr (0, 0)), (2, .inr (0, 77)), (3, .inl (0, 0, 0))], [], [((0, 1), .inr (0, 1)), ((1, 1), .inl (0, 0)), ((77, 2), .inr (0, 78)), ((78, 1293), .inl (0, 0))], 101, 101, 109468)
set_option maxRecDepth 100000 in
theorem ck_lc1082 : ck_run (ck_stepL vwCl ck_mts ck_sh ck_T12 ck_cs1082 ck_wrL 900 7) [] [] [] 600 [] 7 1082 ck_sF1082 = true := by decide +kernel
def ck_cs1115 : List ck_C := [ck_c293, ck_c296, ck_c298, ck_c300, ck_c304]
def ck_sF1115 : ck_S := (List.replicate 7 ck_fI, [(0, .inr (2, 900)), (1, .inr (0, 0)), (2, .inr (0, 77)), (3, .inl (0, 0, 0))], [], [((0, 8), .inr (0, 59)), ((59, 5), .inl (0, 0)), ((77, 30), .inl ((-1), (-1)))], 101, 101, 109468)
set_option maxRecDepth 100000 in
theorem ck_lc1115 : ck_run (ck_stepL vwCl ck_mts ck_sh ck_T12 ck_cs1115 ck_wrL 900 7) [] [] [] 600 [] 7 1115 ck_sF1115 = true := by decide +kernel
def ck_cs1148 : List ck_C := [ck_c305, ck_c306, ck_c307, ck_c310, ck_c312]
def ck_sF1148 : ck_S := (List.replicate 7 ck_fI, [(0, .inr (2, 900)), (1, .inr (0, 0)), (2, .inr (0, 77)), (3, .inl (0, 0, 0))], [], [((0, 1), .inr (0, 1)), ((1, 1), .inl (0, 0)), ((77, 2), .inr (0, 78)), ((78, 1293), .inl (0, 0))], 101, 101, 109468)
set_option maxRecDepth 100000 in
theorem ck_lc1148 : ck_run (ck_stepL vwCl ck_mts ck_sh ck_T12 ck_cs1148 ck_wrL 900 7) [] [] [] 600 [] 7 1148 ck_sF1148 = true := by decide +kernel
def ck_cs1181 : List ck_C := [ck_c313, ck_c315, ck_c316]
def ck_sF1181 : ck_S := (List.replicate 7 ck_fI, [(0, .inr (2, 900)), (1, .inr (0, 0)), (2, .inr (0, 77)), (3, .inl (0, 0, 0))], [], [((0, 1), .inr (0, 1)), ((1, 1), .inl (0, 0)), ((77, 2), .inr (0, 78)), ((78, 1293), .inl (0, 0))], 101, 101, 109468)
set_option maxRecDepth 100000 in
theorem ck_lc1181 : ck_run (ck_stepL vwCl ck_mts ck_sh ck_T12 ck_cs1181 ck_wrL 900 7) [] [] [] 600 [] 7 1181 ck_sF1181 = true := by decide +kernel
def ck_cs1204 : List ck_C := [ck_c323, ck_c324, ck_c325, ck_c327, ck_c329]
def ck_sF1204 : ck_S := (List.replicate 7 ck_fI, [(0, .inr (2, 900)), (1, .inr (0, 0)), (2, .inr (0, 77)), (3, .inl (0, 0, 0))], [], [((0, 8), .inr (0, 59)), ((0, 9), .inr (0, 65)), ((1, 1), .inl (0, 0)), ((1, 15), .inl (0, 0)), ((65, 1), .inr (0, 1)), ((65, 4), .inr (0, 67)), ((65, 5), .inr (0, 68)), ((67, 0), .inl (0, 0)), ((68, 0), .inl (0, 0)), ((77, 2), .inr (0, 78)), ((77, 30), .inl ((-1), (-1))), ((78, 1293), .inl (0, 0))], 101, 101, 109468)
set_option maxRecDepth 100000 in
theorem ck_lc1204 : ck_run (ck_stepL vwCl ck_mts ck_sh ck_T12 ck_cs1204 ck_wrL 900 7) [] [] [] 600 [] 7 1204 ck_sF1204 = true := by decide +kernel
def ck_cs1227 : List ck_C := [ck_c330, ck_c331, ck_c332]
def ck_sF1227 : ck_S := (List.replicate 7 ck_fI, [(0, .inr (2, 900)), (1, .inr (0, 0)), (2, .inr (0, 77)), (3, .inl (0, 0, 0))], [], [((0, 1), .inr (0, 1)), ((1, 1), .inl (0, 0)), ((77, 2), .inr (0, 78)), ((78, 1293), .inl (0, 0))], 101, 101, 109468)
set_option maxRecDepth 100000 in
theorem ck_lc1227 : ck_run (ck_stepL vwCl ck_mts ck_sh ck_T12 ck_cs1227 ck_wrL 900 7) [] [] [] 600 [] 7 1227 ck_sF1227 = true := by decide +kernel
def ck_cs1260 : List ck_C := [ck_c333, ck_c334, ck_c335, ck_c336, ck_c337, ck_c338]
def ck_sF1260 : ck_S := (List.replicate 7 ck_fI, [(0, .inr (2, 900)), (1, .inr (0, 0)), (2, .inr (0, 77)), (3, .inl (0, 0, 0))], [], [((0, 1), .inr (0, 1)), ((1, 15), .inl (0, 0)), ((77, 2), .inr (0, 78)), ((78, 1294), .inl (0, 0))], 101, 101, 109468)
set_option maxRecDepth 100000 in
theorem ck_lc1260 : ck_run (ck_stepL vwCl ck_mts ck_sh ck_T12 ck_cs1260 ck_wrL 900 7) [] [] [] 600 [] 7 1260 ck_sF1260 = true := by decide +kernel
def ck_cs1293 : List ck_C := [ck_c339, ck_c340, ck_c341]
def ck_sF1293 : ck_S := (List.replicate 7 ck_fI, [(0, .inr (2, 900)), (1, .inr (0, 0)), (2, .inr (0, 77)), (3, .inl (0, 0, 0))], [], [((0, 1), .inr (0, 1)), ((1, 1), .inl (0, 0)), ((77, 2), .inr (0, 78)), ((78, 1293), .inl (0, 0))], 101, 101, 109468)
set_option maxRecDepth 100000 in
theorem ck_lc1293 : ck_run (ck_stepL vwCl ck_mts ck_sh ck_T12 ck_cs1293 ck_wrL 900 7) [] [] [] 600 [] 7 1293 ck_sF1293 = true := by decide +kernel
def ck_cs1336 : List ck_C := [ck_c343, ck_c344, ck_c345, ck_c347]
def ck_sF1336 : ck_S := (List.replicate 7 ck_fI, [(0, .inr (2, 900)), (1, .inr (0, 0)), (2, .inr (0, 77)), (3, .inl (0, 0, 0))], [], [((0, 1), .inr (0, 1)), ((1, 1), .inl (0, 0)), ((77, 2), .inr (0, 78)), ((78, 1293), .inl (0, 0))], 101, 101, 109468)
set_option maxRecDepth 100000 in
theorem ck_lc1336 : ck_run (ck_stepL vwCl ck_mts ck_sh ck_T12 ck_cs1336 ck_wrL 900 7) [] [] [] 600 [] 7 1336 ck_sF1336 = true := by decide +kernel
def ck_cs1359 : List ck_C := [ck_c348, ck_c349]
def ck_sF1359 : ck_S := (List.replicate 7 ck_fI, [(0, .inr (2, 900)), (1, .inr (0, 0)), (2, .inr (0, 77)), (3, .inl (0, 0, 0))], [], [((0, 1), .inr (0, 1)), ((1, 15), .inl (0, 0)), ((77, 2), .inr (0, 78)), ((78, 1294), .inl (0, 0))], 101, 101, 109468)
set_option maxRecDepth 100000 in
theorem ck_lc1359 : ck_run (ck_stepL vwCl ck_mts ck_sh ck_T12 ck_cs1359 ck_wrL 900 7) [] [] [] 600 [] 7 1359 ck_sF1359 = true := by decide +kernel
def ck_cs1372 : List ck_C := [ck_c372, ck_c373, ck_c375, ck_c376, ck_c378]
def ck_sF1372 : ck_S := (List.replicate 7 ck_fI, [(0, .inr (2, 900)), (1, .inr (0, 0)), (2, .inr (0, 77)), (3, .inl (0, 0, 0))], [], [((0, 1), .inr (0, 1)), ((0, 2), .inr (0, 15)), ((0, 3), .inr (0, 44)), ((1, 1), .inl (0, 0)), ((1, 2), .inr (0, 2)), ((1, 3), .inr (0, 3)), ((1, 4), .inr (0, 4)), ((1, 5), .inr (0, 5)), ((1, 6), .inr (0, 6)), ((1, 7), .inr (0, 7)), ((1, 8), .inr (0, 8)), ((1, 9), .inr (0, 9)), ((1, 10), .inl (0, 0)), ((1, 11), .inl ((-1), (-1))), ((1, 12), .inl (0, 0)), ((1, 13), .inr (0, 10)), ((1, 15), .inl (0, 0)), ((1, 16), .inr (0, 14)), ((1, 17), .inl (7, 7)), ((1, 18), .inl (15, 15)), ((1, 19), .inl (15, 15)), ((2, 0), .inl (0, 0)), ((3, 0), .inl (0, 0)), ((4, 0), .inl (0, 0)), ((5, 0), .inl (0, 0)), ((6, 0), .inl (0, 0)), ((7, 0), .inl (0, 0)), ((8, 0), .inl (0, 0)), ((9, 0), .inl (0, 0)), ((10, 0), .inr (1, 0)), ((14, 0), .inl (0, 0)), ((15, 1), .inr (0, 16)), ((15, 2), .inr (0, 30)), ((16, 2), .inr (0, 17)), ((16, 3), .inr (0, 18)), ((16, 4), .inr (0, 19)), ((16, 5), .inr (0, 20)), ((16, 6), .inr (0, 21)), ((16, 7), .inr (0, 22)), ((16, 8), .inr (0, 23)), ((16, 9), .inr (0, 24)), ((16, 13), .inr (0, 25)), ((16, 16), .inr (0, 29)), ((17, 0), .inl (0, 0)), ((18, 0), .inl (0, 0)), ((19, 0), .inl (0, 0)), ((20, 0), .inl (0, 0)), ((21, 0), .inl (0, 0)), ((22, 0), .inl (0, 0)), ((23, 0), .inl (0, 0)), ((24, 0), .inl (0, 0)), ((25, 0), .inr (1, 0)), ((29, 0), .inl (0, 0)), ((30, 2), .inr (0, 31)), ((30, 3), .inr (0, 32)), ((30, 4), .inr (0, 33)), ((30, 5), .inr (0, 34)), ((30, 6), .inr (0, 35)), ((30, 7), .inr (0, 36)), ((30, 8), .inr (0, 37)), ((30, 9), .inr (0, 38)), ((30, 13), .inr (0, 39)), ((30, 16), .inr (0, 43)), ((31, 0), .inl (0, 0)), ((32, 0), .inl (0, 0)), ((33, 0), .inl (0, 0)), ((34, 0), .inl (0, 0)), ((35, 0), .inl (0, 0)), ((36, 0), .inl (0, 0)), ((37, 0), .inl (0, 0)), ((38, 0), .inl (0, 0)), ((39, 0), .inr (1, 0)), ((43, 0), .inl (0, 0)), ((44, 0), .inl (0, 0)), ((77, 2), .inr (0, 78)), ((77, 3), .inr (0, 79)), ((77, 4), .inr (0, 80)), ((78, 0), .inl ((-1), 15)), ((79, 0), .inl (0, 0)), ((80, 0), .inl (0, 0))], 101, 101, 109468)
set_option maxRecDepth 100000 in
theorem ck_lc1372 : ck_run (ck_stepL vwCl ck_mts ck_sh ck_T12 ck_cs1372 ck_wrL 900 7) [] [] [] 600 [] 7 1372 ck_sF1372 = true := by decide +kernel
def ck_cs1395 : List ck_C := [ck_c379, ck_c380, ck_c381, ck_c382]
def ck_sF1395 : ck_S := (List.replicate 7 ck_fI, [(0, .inr (2, 900)), (1, .inr (0, 0)), (2, .inr (0, 77)), (3, .inl (0, 0, 0))], [], [((0, 3), .inr (0, 44)), ((44, 0), .inl (0, 0)), ((77, 4), .inr (0, 80)), ((80, 0), .inl (0, 0))], 101, 101, 109468)
set_option maxRecDepth 100000 in
theorem ck_lc1395 : ck_run (ck_stepL vwCl ck_mts ck_sh ck_T12 ck_cs1395 ck_wrL 900 7) [] [] [] 600 [] 7 1395 ck_sF1395 = true := by decide +kernel
def ck_cs1418 : List ck_C := [ck_c384, ck_c385, ck_c386, ck_c387, ck_c388, ck_c389, ck_c390, ck_c391]
def ck_sF1418 : ck_S := (List.replicate 7 ck_fI, [(0, .inr (2, 900)), (1, .inr (0, 0)), (2, .inr (0, 77)), (3, .inl (0, 0, 0))], [], [((0, 1), .inr (0, 1)), ((0, 4), .inr (0, 45)), ((1, 1), .inl (0, 0)), ((1, 12), .inl (0, 0)), ((1, 15), .inl (0, 0)), ((45, 2), .inl (0, 0)), ((77, 2), .inr (0, 78)), ((77, 8), .inl (0, 0)), ((78, 1293), .inl (0, 0)), ((78, 1294), .inl (0, 0)), ((78, 1295), .inl (0, 0))], 101, 101, 109468)
set_option maxRecDepth 100000 in
theorem ck_lc1418 : ck_run (ck_stepL vwCl ck_mts ck_sh ck_T12 ck_cs1418 ck_wrL 900 7) [] [] [] 600 [] 7 1418 ck_sF1418 = true := by decide +kernel
def ck_cs1441 : List ck_C := [ck_c392, ck_c393]
def ck_sF1441 : ck_S := (List.replicate 7 ck_fI, [(0, .inr (2, 900)), (1, .inr (0, 0)), (2, .inr (0, 77)), (3, .inl (0, 0, 0))], [], [((0, 15), .inl (0, 0)), ((77, 1), .inl (0, 0))], 101, 101, 109468)
set_option maxRecDepth 100000 in
theorem ck_lc1441 : ck_run (ck_stepL vwCl ck_mts ck_sh ck_T12 ck_cs1441 ck_wrL 900 7) [] [] [] 600 [] 7 1441 ck_sF1441 = true := by decide +kernel
