/-! case 967 -/
theorem ck_d967 : decode code 967 = .ok (.aload_n 1, 1) := by decide +kernel
theorem ck_d968 : decode code 968 = .ok (.invokevirtual 112, 3) := by decide +kernel
theorem ck_d971 : decode code 971 = .ok (.aload_n 2, 1) := by decide +kernel
theorem ck_d972 : decode code 972 = .ok (.invokevirtual 115, 3) := by decide +kernel
theorem ck_d975 : decode code 975 = .ok (.if_icmp .eq 479, 3) := by decide +kernel
def ck_dt967 : List (Nat × Instr × Nat) := [(18, (.iload_n 3, 1)), (19, (.aload_n 0, 1)), (20, (.arraylength, 1)), (21, (.bipush 7, 2)), (23, (.isub, 1)), (24, (.if_icmp .gt 1436, 3)), (1454, (.iinc 3 7, 3)), (1457, (.goto (-1439), 3)), (1460, (.iconst 1, 1)), (1461, (.ireturn, 1)), (967, (.aload_n 1, 1)), (968, (.invokevirtual 112, 3)), (971, (.aload_n 2, 1)), (972, (.invokevirtual 115, 3)), (975, (.if_icmp .eq 479, 3))]
theorem ck_dk967 : ∀ q ∈ ck_dt967, decode code q.1 = .ok q.2 := (ck_cons ck_d18 (ck_cons ck_d19 (ck_cons ck_d20 (ck_cons ck_d21 (ck_cons ck_d23 (ck_cons ck_d24 (ck_cons ck_d1454 (ck_cons ck_d1457 (ck_cons ck_d1460 (ck_cons ck_d1461 (ck_cons ck_d967 (ck_cons ck_d968 (ck_cons ck_d971 (ck_cons ck_d972 (ck_cons ck_d975 ck_nil)))))))))))))))
def ck_cs967 : List ck_C := [ck_c266, ck_c267]
def ck_sF967 : ck_S := (List.replicate 7 ck_fI, [(0, .inr (2, 900)), (1, .inr (0, 0)), (2, .inr (0, 77)), (3, .inl (0, 0, 0))], [], [((0, 7), .inr (0, 53)), ((0, 8), .inr (0, 59)), ((1, 1), .inl (0, 0)), ((1, 15), .inl (0, 0)), ((53, 1), .inr (0, 1)), ((53, 2), .inr (0, 54)), ((53, 3), .inr (0, 55)), ((53, 4), .inr (0, 56)), ((53, 5), .inr (0, 57)), ((53, 6), .inr (0, 58)), ((54, 0), .inl (0, 0)), ((55, 0), .inl (0, 0)), ((56, 0), .inl (0, 0)), ((57, 0), .inl (0, 0)), ((58, 0), .inl (0, 0)), ((59, 1), .inr (0, 1)), ((59, 2), .inr (0, 60)), ((59, 5), .inl (0, 0)), ((59, 7), .inr (0, 64)), ((60, 0), .inl (0, 0)), ((60, 1), .inl (0, 0)), ((64, 0), .inl ((-1), 0)), ((77, 2), .inr (0, 78)), ((77, 25), .inr (0, 88)), ((77, 26), .inr (0, 89)), ((77, 28), .inr (0, 91)), ((78, 1293), .inl (0, 0)), ((78, 1294), .inl (0, 0)), ((88, 0), .inl (0, 0)), ((89, 0), .inl (0, 0)), ((91, 0), .inl (0, 0)), ((91, 1), .inl (0, 0))], 101, 101, 109468)
set_option maxRecDepth 100000 in
theorem ck_lc967 : ck_run (ck_stepD ck_dt967 vwCl ck_mts ck_sh ck_T12 ck_cs967 ck_wrL 900 7) [] [] [] 600 [] 7 967 ck_sF967 = true := by decide +kernel
/-! case 980 -/
theorem ck_d980 : decode code 980 = .ok (.aload_n 1, 1) := by decide +kernel
theorem ck_d981 : decode code 981 = .ok (.aload_n 0, 1) := by decide +kernel
theorem ck_d982 : decode code 982 = .ok (.iload_n 3, 1) := by decide +kernel
theorem ck_d983 : decode code 983 = .ok (.iconst 1, 1) := by decide +kernel
theorem ck_d984 : decode code 984 = .ok (.iadd, 1) := by decide +kernel
theorem ck_d985 : decode code 985 = .ok (.iaload, 1) := by decide +kernel
theorem ck_d986 : decode code 986 = .ok (.invokevirtual 116, 3) := by decide +kernel
theorem ck_d989 : decode code 989 = .ok (.aload_n 2, 1) := by decide +kernel
theorem ck_d990 : decode code 990 = .ok (.aload_n 0, 1) := by decide +kernel
theorem ck_d991 : decode code 991 = .ok (.iload_n 3, 1) := by decide +kernel
theorem ck_d992 : decode code 992 = .ok (.iconst 1, 1) := by decide +kernel
theorem ck_d993 : decode code 993 = .ok (.iadd, 1) := by decide +kernel
theorem ck_d994 : decode code 994 = .ok (.iaload, 1) := by decide +kernel
theorem ck_d995 : decode code 995 = .ok (.invokevirtual 119, 3) := by decide +kernel
theorem ck_d998 : decode code 998 = .ok (.if_icmp .eq 456, 3) := by decide +kernel
def ck_dt980 : List (Nat × Instr × Nat) := [(18, (.iload_n 3, 1)), (19, (.aload_n 0, 1)), (20, (.arraylength, 1)), (21, (.bipush 7, 2)), (23, (.isub, 1)), (24, (.if_icmp .gt 1436, 3)), (1454, (.iinc 3 7, 3)), (1457, (.goto (-1439), 3)), (1460, (.iconst 1, 1)), (1461, (.ireturn, 1)), (980, (.aload_n 1, 1)), (981, (.aload_n 0, 1)), (982, (.iload_n 3, 1)), (983, (.iconst 1, 1)), (984, (.iadd, 1)), (985, (.iaload, 1)), (986, (.invokevirtual 116, 3)), (989, (.aload_n 2, 1)), (990, (.aload_n 0, 1)), (991, (.iload_n 3, 1)), (992, (.iconst 1, 1)), (993, (.iadd, 1)), (994, (.iaload, 1)), (995, (.invokevirtual 119, 3)), (998, (.if_icmp .eq 456, 3))]
theorem ck_dk980 : ∀ q ∈ ck_dt980, decode code q.1 = .ok q.2 := (ck_cons ck_d18 (ck_cons ck_d19 (ck_cons ck_d20 (ck_cons ck_d21 (ck_cons ck_d23 (ck_cons ck_d24 (ck_cons ck_d1454 (ck_cons ck_d1457 (ck_cons ck_d1460 (ck_cons ck_d1461 (ck_cons ck_d980 (ck_cons ck_d981 (ck_cons ck_d982 (ck_cons ck_d983 (ck_cons ck_d984 (ck_cons ck_d985 (ck_cons ck_d986 (ck_cons ck_d989 (ck_cons ck_d990 (ck_cons ck_d991 (ck_cons ck_d992 (ck_cons ck_d993 (ck_cons ck_d994 (ck_cons ck_d995 (ck_cons ck_d998 ck_nil)))))))))))))))))))))))))
def ck_cs980 : List ck_C := [ck_c268, ck_c270, ck_c272]
def ck_sF980 : ck_S := (List.replicate 7 ck_fI, [(0, .inr (2, 900)), (1, .inr (0, 0)), (2, .inr (0, 77)), (3, .inl (0, 0, 0))], [], [((0, 8), .inr (0, 59)), ((59, 5), .inl (0, 0)), ((77, 30), .inl ((-1), (-1)))], 101, 101, 109468)
set_option maxRecDepth 100000 in
theorem ck_lc980 : ck_run (ck_stepD ck_dt980 vwCl ck_mts ck_sh ck_T12 ck_cs980 ck_wrL 900 7) [] [] [] 600 [] 7 980 ck_sF980 = true := by decide +kernel
/-! case 1003 -/
theorem ck_d1003 : decode code 1003 = .ok (.aload_n 1, 1) := by decide +kernel
theorem ck_d1004 : decode code 1004 = .ok (.aload_n 0, 1) := by decide +kernel
theorem ck_d1005 : decode code 1005 = .ok (.iload_n 3, 1) := by decide +kernel
theorem ck_d1006 : decode code 1006 = .ok (.iconst 1, 1) := by decide +kernel
theorem ck_d1007 : decode code 1007 = .ok (.iadd, 1) := by decide +kernel
theorem ck_d1008 : decode code 1008 = .ok (.iaload, 1) := by decide +kernel
theorem ck_d1009 : decode code 1009 = .ok (.invokevirtual 120, 3) := by decide +kernel
theorem ck_d1012 : decode code 1012 = .ok (.aload_n 2, 1) := by decide +kernel
theorem ck_d1013 : decode code 1013 = .ok (.aload_n 0, 1) := by decide +kernel
theorem ck_d1014 : decode code 1014 = .ok (.iload_n 3, 1) := by decide +kernel
theorem ck_d1015 : decode code 1015 = .ok (.iconst 1, 1) := by decide +kernel
theorem ck_d1016 : decode code 1016 = .ok (.iadd, 1) := by decide +kernel
theorem ck_d1017 : decode code 1017 = .ok (.iaload, 1) := by decide +kernel
theorem ck_d1018 : decode code 1018 = .ok (.invokevirtual 123, 3) := by decide +kernel
theorem ck_d1021 : decode code 1021 = .ok (.if_icmp .eq 433, 3) := by decide +kernel
def ck_dt1003 : List (Nat × Instr × Nat) := [(18, (.iload_n 3, 1)), (19, (.aload_n 0, 1)), (20, (.arraylength, 1)), (21, (.bipush 7, 2)), (23, (.isub, 1)), (24, (.if_icmp .gt 1436, 3)), (1454, (.iinc 3 7, 3)), (1457, (.goto (-1439), 3)), (1460, (.iconst 1, 1)), (1461, (.ireturn, 1)), (1003, (.aload_n 1, 1)), (1004, (.aload_n 0, 1)), (1005, (.iload_n 3, 1)), (1006, (.iconst 1, 1)), (1007, (.iadd, 1)), (1008, (.iaload, 1)), (1009, (.invokevirtual 120, 3)), (1012, (.aload_n 2, 1)), (1013, (.aload_n 0, 1)), (1014, (.iload_n 3, 1)), (1015, (.iconst 1, 1)), (1016, (.iadd, 1)), (1017, (.iaload, 1)), (1018, (.invokevirtual 123, 3)), (1021, (.if_icmp .eq 433, 3))]
theorem ck_dk1003 : ∀ q ∈ ck_dt1003, decode code q.1 = .ok q.2 := (ck_cons ck_d18 (ck_cons ck_d19 (ck_cons ck_d20 (ck_cons ck_d21 (ck_cons ck_d23 (ck_cons ck_d24 (ck_cons ck_d1454 (ck_cons ck_d1457 (ck_cons ck_d1460 (ck_cons ck_d1461 (ck_cons ck_d1003 (ck_cons ck_d1004 (ck_cons ck_d1005 (ck_cons ck_d1006 (ck_cons ck_d1007 (ck_cons ck_d1008 (ck_cons ck_d1009 (ck_cons ck_d1012 (ck_cons ck_d1013 (ck_cons ck_d1014 (ck_cons ck_d1015 (ck_cons ck_d1016 (ck_cons ck_d1017 (ck_cons ck_d1018 (ck_cons ck_d1021 ck_nil)))))))))))))))))))))))))
def ck_cs1003 : List ck_C := [ck_c273, ck_c274]
def ck_sF1003 : ck_S := (List.replicate 7 ck_fI, [(0, .inr (2, 900)), (1, .inr (0, 0)), (2, .inr (0, 77)), (3, .inl (0, 0, 0))], [], [((0, 1), .inr (0, 1)), ((1, 15), .inl (0, 0)), ((77, 2), .inr (0, 78)), ((78, 1294), .inl (0, 0))], 101, 101, 109468)
set_option maxRecDepth 100000 in
theorem ck_lc1003 : ck_run (ck_stepD ck_dt1003 vwCl ck_mts ck_sh ck_T12 ck_cs1003 ck_wrL 900 7) [] [] [] 600 [] 7 1003 ck_sF1003 = true := by decide +kernel
/-! case 1026 -/
theorem ck_d1026 : decode code 1026 = .ok (.aload_n 1, 1) := by decide +kernel
theorem ck_d1027 : decode code 1027 = .ok (.aload_n 0, 1) := by decide +kernel
theorem ck_d1028 : decode code 1028 = .ok (.iload_n 3, 1) := by decide +kernel
theorem ck_d1029 : decode code 1029 = .ok (.iconst 1, 1) := by decide +kernel
theorem ck_d1030 : decode code 1030 = .ok (.iadd, 1) := by decide +kernel
theorem ck_d1031 : decode code 1031 = .ok (.iaload, 1) := by decide +kernel
theorem ck_d1032 : decode code 1032 = .ok (.aload_n 0, 1) := by decide +kernel
theorem ck_d1033 : decode code 1033 = .ok (.iload_n 3, 1) := by decide +kernel
theorem ck_d1034 : decode code 1034 = .ok (.iconst 2, 1) := by decide +kernel
theorem ck_d1035 : decode code 1035 = .ok (.iadd, 1) := by decide +kernel
theorem ck_d1036 : decode code 1036 = .ok (.iaload, 1) := by decide +kernel
theorem ck_d1037 : decode code 1037 = .ok (.invokevirtual 124, 3) := by decide +kernel
theorem ck_d1040 : decode code 1040 = .ok (.aload_n 2, 1) := by decide +kernel
theorem ck_d1041 : decode code 1041 = .ok (.aload_n 0, 1) := by decide +kernel
theorem ck_d1042 : decode code 1042 = .ok (.iload_n 3, 1) := by decide +kernel
theorem ck_d1043 : decode code 1043 = .ok (.iconst 1, 1) := by decide +kernel
theorem ck_d1044 : decode code 1044 = .ok (.iadd, 1) := by decide +kernel
theorem ck_d1045 : decode code 1045 = .ok (.iaload, 1) := by decide +kernel
theorem ck_d1046 : decode code 1046 = .ok (.aload_n 0, 1) := by decide +kernel
theorem ck_d1047 : decode code 1047 = .ok (.iload_n 3, 1) := by decide +kernel
theorem ck_d1048 : decode code 1048 = .ok (.iconst 2, 1) := by decide +kernel
theorem ck_d1049 : decode code 1049 = .ok (.iadd, 1) := by decide +kernel
theorem ck_d1050 : decode code 1050 = .ok (.iaload, 1) := by decide +kernel
theorem ck_d1051 : decode code 1051 = .ok (.invokevirtual 127, 3) := by decide +kernel
theorem ck_d1054 : decode code 1054 = .ok (.if_icmp .eq 400, 3) := by decide +kernel
def ck_dt1026 : List (Nat × Instr × Nat) := [(18, (.iload_n 3, 1)), (19, (.aload_n 0, 1)), (20, (.arraylength, 1)), (21, (.bipush 7, 2)), (23, (.isub, 1)), (24, (.if_icmp .gt 1436, 3)), (1454, (.iinc 3 7, 3)), (1457, (.goto (-1439), 3)), (1460, (.iconst 1, 1)), (1461, (.ireturn, 1)), (1026, (.aload_n 1, 1)), (1027, (.aload_n 0, 1)), (1028, (.iload_n 3, 1)), (1029, (.iconst 1, 1)), (1030, (.iadd, 1)), (1031, (.iaload, 1)), (1032, (.aload_n 0, 1)), (1033, (.iload_n 3, 1)), (1034, (.iconst 2, 1)), (1035, (.iadd, 1)), (1036, (.iaload, 1)), (1037, (.invokevirtual 124, 3)), (1040, (.aload_n 2, 1)), (1041, (.aload_n 0, 1)), (1042, (.iload_n 3, 1)), (1043, (.iconst 1, 1)), (1044, (.iadd, 1)), (1045, (.iaload, 1)), (1046, (.aload_n 0, 1)), (1047, (.iload_n 3, 1)), (1048, (.iconst 2, 1)), (1049, (.iadd, 1)), (1050, (.iaload, 1)), (1051, (.invokevirtual 127, 3)), (1054, (.if_icmp .eq 400, 3))]
theorem ck_dk1026 : ∀ q ∈ ck_dt1026, decode code q.1 = .ok q.2 := (ck_cons ck_d18 (ck_cons ck_d19 (ck_cons ck_d20 (ck_cons ck_d21 (ck_cons ck_d23 (ck_cons ck_d24 (ck_cons ck_d1454 (ck_cons ck_d1457 (ck_cons ck_d1460 (ck_cons ck_d1461 (ck_cons ck_d1026 (ck_cons ck_d1027 (ck_cons ck_d1028 (ck_cons ck_d1029 (ck_cons ck_d1030 (ck_cons ck_d1031 (ck_cons ck_d1032 (ck_cons ck_d1033 (ck_cons ck_d1034 (ck_cons ck_d1035 (ck_cons ck_d1036 (ck_cons ck_d1037 (ck_cons ck_d1040 (ck_cons ck_d1041 (ck_cons ck_d1042 (ck_cons ck_d1043 (ck_cons ck_d1044 (ck_cons ck_d1045 (ck_cons ck_d1046 (ck_cons ck_d1047 (ck_cons ck_d1048 (ck_cons ck_d1049 (ck_cons ck_d1050 (ck_cons ck_d1051 (ck_cons ck_d1054 ck_nil)))))))))))))))))))))))))))))))))))
def ck_cs1026 : List ck_C := [ck_c275, ck_c276, ck_c277]
def ck_sF1026 : ck_S := (List.replicate 7 ck_fI, [(0, .inr (2, 900)), (1, .inr (0, 0)), (2, .inr (0, 77)), (3, .inl (0, 0, 0))], [], [((0, 1), .inr (0, 1)), ((1, 1), .inl (0, 0)), ((77, 2), .inr (0, 78)), ((78, 1293), .inl (0, 0))], 101, 101, 109468)
set_option maxRecDepth 100000 in
theorem ck_lc1026 : ck_run (ck_stepD ck_dt1026 vwCl ck_mts ck_sh ck_T12 ck_cs1026 ck_wrL 900 7) [] [] [] 600 [] 7 1026 ck_sF1026 = true := by decide +kernel
