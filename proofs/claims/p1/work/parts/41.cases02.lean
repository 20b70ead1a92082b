def ck_cs507 : List ck_C := [ck_c143, ck_c145, ck_c147, ck_c149]
def ck_sF507 : ck_S := (List.replicate 7 ck_fI, [(0, .inr (2, 900)), (1, .inr (0, 0)), (2, .inr (0, 77)), (3, .inl (0, 0, 0))], [], [((0, 4), .inr (0, 45)), ((45, 2), .inl (0, 0)), ((77, 8), .inl (0, 0))], 101, 101, 109468)
set_option maxRecDepth 100000 in
theorem ck_lc507 : ck_run (ck_stepL vwCl ck_mts ck_sh ck_T12 ck_cs507 ck_wrL 900 7) [] [] [] 600 [] 7 507 ck_sF507 = true := by decide +kernel
def ck_cs530 : List ck_C := [ck_c163, ck_c180]
def ck_sF530 : ck_S := (List.replicate 7 ck_fI, [(0, .inr (2, 900)), (1, .inr (0, 0)), (2, .inr (0, 77)), (3, .inl (0, 0, 0))], [], [((0, 1), .inr (0, 1)), ((0, 4), .inr (0, 45)), ((0, 5), .inr (0, 47)), ((1, 12), .inl (0, 0)), ((45, 2), .inl (0, 0)), ((47, 1), .inr (0, 45)), ((47, 8), .inl (0, 0)), ((47, 9), .inl (0, 0)), ((47, 10), .inl (0, 0)), ((77, 2), .inr (0, 78)), ((77, 8), .inl (0, 0)), ((77, 10), .inr (0, 84)), ((77, 11), .inr (0, 85)), ((77, 12), .inr (0, 86)), ((77, 13), .inl (0, 0)), ((77, 14), .inl (0, 0)), ((77, 16), .inl (0, 0)), ((78, 1295), .inl (0, 0)), ((84, 0), .inl (0, 0)), ((85, 0), .inl (0, 0)), ((86, 0), .inl (0, 0))], 101, 101, 109468)
set_option maxRecDepth 100000 in
theorem ck_lc530 : ck_run (ck_stepL vwCl ck_mts ck_sh ck_T12 ck_cs530 ck_wrL 900 7) [] [] [] 600 [] 7 530 ck_sF530 = true := by decide +kernel
def ck_cs543 : List ck_C := [ck_c181, ck_c182]
def ck_sF543 : ck_S := (List.replicate 7 ck_fI, [(0, .inr (2, 900)), (1, .inr (0, 0)), (2, .inr (0, 77)), (3, .inl (0, 0, 0))], [], [((0, 14), .inl ((-1), (-1))), ((77, 9), .inl ((-1), (-1)))], 101, 101, 109468)
set_option maxRecDepth 100000 in
theorem ck_lc543 : ck_run (ck_stepL vwCl ck_mts ck_sh ck_T12 ck_cs543 ck_wrL 900 7) [] [] [] 600 [] 7 543 ck_sF543 = true := by decide +kernel
def ck_cs556 : List ck_C := [ck_c183, ck_c185, ck_c187]
def ck_sF556 : ck_S := (List.replicate 7 ck_fI, [(0, .inr (2, 900)), (1, .inr (0, 0)), (2, .inr (0, 77)), (3, .inl (0, 0, 0))], [], [((0, 1), .inr (0, 1)), ((1, 12), .inl (0, 0)), ((77, 2), .inr (0, 78)), ((78, 1295), .inl (0, 0))], 101, 101, 109468)
set_option maxRecDepth 100000 in
theorem ck_lc556 : ck_run (ck_stepL vwCl ck_mts ck_sh ck_T12 ck_cs556 ck_wrL 900 7) [] [] [] 600 [] 7 556 ck_sF556 = true := by decide +kernel
