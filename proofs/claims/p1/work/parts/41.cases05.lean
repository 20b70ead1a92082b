/-! case 885 -/
theorem ck_d885 : decode code 885 = .ok (.aload_n 1, 1) := by decide +kernel
theorem ck_d886 : decode code 886 = .ok (.invokevirtual 96, 3) := by decide +kernel
theorem ck_d889 : decode code 889 = .ok (.aload_n 2, 1) := by decide +kernel
theorem ck_d890 : decode code 890 = .ok (.invokevirtual 99, 3) := by decide +kernel
theorem ck_d893 : decode code 893 = .ok (.if_icmp .eq 561, 3) := by decide +kernel
def ck_dt885 : List (Nat × Instr × Nat) := [(18, (.iload_n 3, 1)), (19, (.aload_n 0, 1)), (20, (.arraylength, 1)), (21, (.bipush 7, 2)), (23, (.isub, 1)), (24, (.if_icmp .gt 1436, 3)), (1454, (.iinc 3 7, 3)), (1457, (.goto (-1439), 3)), (1460, (.iconst 1, 1)), (1461, (.ireturn, 1)), (885, (.aload_n 1, 1)), (886, (.invokevirtual 96, 3)), (889, (.aload_n 2, 1)), (890, (.invokevirtual 99, 3)), (893, (.if_icmp .eq 561, 3))]
theorem ck_dk885 : ∀ q ∈ ck_dt885, decode code q.1 = .ok q.2 := (ck_cons ck_d18 (ck_cons ck_d19 (ck_cons ck_d20 (ck_cons ck_d21 (ck_cons ck_d23 (ck_cons ck_d24 (ck_cons ck_d1454 (ck_cons ck_d1457 (ck_cons ck_d1460 (ck_cons ck_d1461 (ck_cons ck_d885 (ck_cons ck_d886 (ck_cons ck_d889 (ck_cons ck_d890 (ck_cons ck_d893 ck_nil)))))))))))))))
def ck_cs885 : List ck_C := [ck_c250, ck_c253]
def ck_sF885 : ck_S := (List.replicate 7 ck_fI, [(0, .inr (2, 900)), (1, .inr (0, 0)), (2, .inr (0, 77)), (3, .inl (0, 0, 0))], [], [((0, 7), .inr (0, 53)), ((0, 8), .inr (0, 59)), ((1, 1), .inl (0, 0)), ((1, 15), .inl (0, 0)), ((53, 1), .inr (0, 1)), ((53, 2), .inr (0, 54)), ((53, 3), .inr (0, 55)), ((53, 4), .inr (0, 56)), ((53, 5), .inr (0, 57)), ((53, 6), .inr (0, 58)), ((54, 0), .inl (0, 0)), ((55, 0), .inl (0, 0)), ((56, 0), .inl (0, 0)), ((57, 0), .inl (0, 0)), ((58, 0), .inl (0, 0)), ((59, 1), .inr (0, 1)), ((59, 2), .inr (0, 60)), ((60, 0), .inl (0, 0)), ((60, 1), .inl (0, 0)), ((77, 2), .inr (0, 78)), ((77, 25), .inr (0, 88)), ((77, 26), .inr (0, 89)), ((77, 27), .inr (0, 90)), ((78, 1293), .inl (0, 0)), ((78, 1294), .inl (0, 0)), ((88, 0), .inl (0, 0)), ((89, 0), .inl (0, 0)), ((90, 0), .inl (0, 0)), ((90, 1), .inl (0, 0))], 101, 101, 109468)
set_option maxRecDepth 100000 in
theorem ck_lc885 : ck_run (ck_stepD ck_dt885 vwCl ck_mts ck_sh ck_T12 ck_cs885 ck_wrL 900 7) [] [] [] 600 [] 7 885 ck_sF885 = true := by decide +kernel
/-! case 898 -/
theorem ck_d898 : decode code 898 = .ok (.aload_n 1, 1) := by decide +kernel
theorem ck_d899 : decode code 899 = .ok (.aload_n 0, 1) := by decide +kernel
theorem ck_d900 : decode code 900 = .ok (.iload_n 3, 1) := by decide +kernel
theorem ck_d901 : decode code 901 = .ok (.iconst 1, 1) := by decide +kernel
theorem ck_d902 : decode code 902 = .ok (.iadd, 1) := by decide +kernel
theorem ck_d903 : decode code 903 = .ok (.iaload, 1) := by decide +kernel
theorem ck_d904 : decode code 904 = .ok (.aload_n 0, 1) := by decide +kernel
theorem ck_d905 : decode code 905 = .ok (.iload_n 3, 1) := by decide +kernel
theorem ck_d906 : decode code 906 = .ok (.iconst 2, 1) := by decide +kernel
theorem ck_d907 : decode code 907 = .ok (.iadd, 1) := by decide +kernel
theorem ck_d908 : decode code 908 = .ok (.iaload, 1) := by decide +kernel
theorem ck_d909 : decode code 909 = .ok (.invokevirtual 100, 3) := by decide +kernel
theorem ck_d912 : decode code 912 = .ok (.aload_n 2, 1) := by decide +kernel
theorem ck_d913 : decode code 913 = .ok (.aload_n 0, 1) := by decide +kernel
theorem ck_d914 : decode code 914 = .ok (.iload_n 3, 1) := by decide +kernel
theorem ck_d915 : decode code 915 = .ok (.iconst 1, 1) := by decide +kernel
theorem ck_d916 : decode code 916 = .ok (.iadd, 1) := by decide +kernel
theorem ck_d917 : decode code 917 = .ok (.iaload, 1) := by decide +kernel
theorem ck_d918 : decode code 918 = .ok (.aload_n 0, 1) := by decide +kernel
theorem ck_d919 : decode code 919 = .ok (.iload_n 3, 1) := by decide +kernel
theorem ck_d920 : decode code 920 = .ok (.iconst 2, 1) := by decide +kernel
theorem ck_d921 : decode code 921 = .ok (.iadd, 1) := by decide +kernel
theorem ck_d922 : decode code 922 = .ok (.iaload, 1) := by decide +kernel
theorem ck_d923 : decode code 923 = .ok (.invokevirtual 103, 3) := by decide +kernel
theorem ck_d926 : decode code 926 = .ok (.if_icmp .eq 528, 3) := by decide +kernel
def ck_dt898 : List (Nat × Instr × Nat) := [(18, (.iload_n 3, 1)), (19, (.aload_n 0, 1)), (20, (.arraylength, 1)), (21, (.bipush 7, 2)), (23, (.isub, 1)), (24, (.if_icmp .gt 1436, 3)), (1454, (.iinc 3 7, 3)), (1457, (.goto (-1439), 3)), (1460, (.iconst 1, 1)), (1461, (.ireturn, 1)), (898, (.aload_n 1, 1)), (899, (.aload_n 0, 1)), (900, (.iload_n 3, 1)), (901, (.iconst 1, 1)), (902, (.iadd, 1)), (903, (.iaload, 1)), (904, (.aload_n 0, 1)), (905, (.iload_n 3, 1)), (906, (.iconst 2, 1)), (907, (.iadd, 1)), (908, (.iaload, 1)), (909, (.invokevirtual 100, 3)), (912, (.aload_n 2, 1)), (913, (.aload_n 0, 1)), (914, (.iload_n 3, 1)), (915, (.iconst 1, 1)), (916, (.iadd, 1)), (917, (.iaload, 1)), (918, (.aload_n 0, 1)), (919, (.iload_n 3, 1)), (920, (.iconst 2, 1)), (921, (.iadd, 1)), (922, (.iaload, 1)), (923, (.invokevirtual 103, 3)), (926, (.if_icmp .eq 528, 3))]
theorem ck_dk898 : ∀ q ∈ ck_dt898, decode code q.1 = .ok q.2 := (ck_cons ck_d18 (ck_cons ck_d19 (ck_cons ck_d20 (ck_cons ck_d21 (ck_cons ck_d23 (ck_cons ck_d24 (ck_cons ck_d1454 (ck_cons ck_d1457 (ck_cons ck_d1460 (ck_cons ck_d1461 (ck_cons ck_d898 (ck_cons ck_d899 (ck_cons ck_d900 (ck_cons ck_d901 (ck_cons ck_d902 (ck_cons ck_d903 (ck_cons ck_d904 (ck_cons ck_d905 (ck_cons ck_d906 (ck_cons ck_d907 (ck_cons ck_d908 (ck_cons ck_d909 (ck_cons ck_d912 (ck_cons ck_d913 (ck_cons ck_d914 (ck_cons ck_d915 (ck_cons ck_d916 (ck_cons ck_d917 (ck_cons ck_d918 (ck_cons ck_d919 (ck_cons ck_d920 (ck_cons ck_d921 (ck_cons ck_d922 (ck_cons ck_d923 (ck_cons ck_d926 ck_nil)))))))))))))))))))))))))))))))))))
def ck_cs898 : List ck_C := [ck_c254, ck_c255, ck_c256]
def ck_sF898 : ck_S := (List.replicate 7 ck_fI, [(0, .inr (2, 900)), (1, .inr (0, 0)), (2, .inr (0, 77)), (3, .inl (0, 0, 0))], [], [((0, 1), .inr (0, 1)), ((1, 1), .inl (0, 0)), ((77, 2), .inr (0, 78)), ((78, 1293), .inl (0, 0))], 101, 101, 109468)
set_option maxRecDepth 100000 in
theorem ck_lc898 : ck_run (ck_stepD ck_dt898 vwCl ck_mts ck_sh ck_T12 ck_cs898 ck_wrL 900 7) [] [] [] 600 [] 7 898 ck_sF898 = true := by decide +kernel
/-! case 931 -/
theorem ck_d931 : decode code 931 = .ok (.aload_n 1, 1) := by decide +kernel
theorem ck_d932 : decode code 932 = .ok (.aload_n 0, 1) := by decide +kernel
theorem ck_d933 : decode code 933 = .ok (.iload_n 3, 1) := by decide +kernel
theorem ck_d934 : decode code 934 = .ok (.iconst 1, 1) := by decide +kernel
theorem ck_d935 : decode code 935 = .ok (.iadd, 1) := by decide +kernel
theorem ck_d936 : decode code 936 = .ok (.iaload, 1) := by decide +kernel
theorem ck_d937 : decode code 937 = .ok (.invokevirtual 104, 3) := by decide +kernel
theorem ck_d940 : decode code 940 = .ok (.aload_n 2, 1) := by decide +kernel
theorem ck_d941 : decode code 941 = .ok (.aload_n 0, 1) := by decide +kernel
theorem ck_d942 : decode code 942 = .ok (.iload_n 3, 1) := by decide +kernel
theorem ck_d943 : decode code 943 = .ok (.iconst 1, 1) := by decide +kernel
theorem ck_d944 : decode code 944 = .ok (.iadd, 1) := by decide +kernel
theorem ck_d945 : decode code 945 = .ok (.iaload, 1) := by decide +kernel
theorem ck_d946 : decode code 946 = .ok (.invokevirtual 107, 3) := by decide +kernel
theorem ck_d949 : decode code 949 = .ok (.if_icmp .eq 505, 3) := by decide +kernel
def ck_dt931 : List (Nat × Instr × Nat) := [(18, (.iload_n 3, 1)), (19, (.aload_n 0, 1)), (20, (.arraylength, 1)), (21, (.bipush 7, 2)), (23, (.isub, 1)), (24, (.if_icmp .gt 1436, 3)), (1454, (.iinc 3 7, 3)), (1457, (.goto (-1439), 3)), (1460, (.iconst 1, 1)), (1461, (.ireturn, 1)), (931, (.aload_n 1, 1)), (932, (.aload_n 0, 1)), (933, (.iload_n 3, 1)), (934, (.iconst 1, 1)), (935, (.iadd, 1)), (936, (.iaload, 1)), (937, (.invokevirtual 104, 3)), (940, (.aload_n 2, 1)), (941, (.aload_n 0, 1)), (942, (.iload_n 3, 1)), (943, (.iconst 1, 1)), (944, (.iadd, 1)), (945, (.iaload, 1)), (946, (.invokevirtual 107, 3)), (949, (.if_icmp .eq 505, 3))]
theorem ck_dk931 : ∀ q ∈ ck_dt931, decode code q.1 = .ok q.2 := (ck_cons ck_d18 (ck_cons ck_d19 (ck_cons ck_d20 (ck_cons ck_d21 (ck_cons ck_d23 (ck_cons ck_d24 (ck_cons ck_d1454 (ck_cons ck_d1457 (ck_cons ck_d1460 (ck_cons ck_d1461 (ck_cons ck_d931 (ck_cons ck_d932 (ck_cons ck_d933 (ck_cons ck_d934 (ck_cons ck_d935 (ck_cons ck_d936 (ck_cons ck_d937 (ck_cons ck_d940 (ck_cons ck_d941 (ck_cons ck_d942 (ck_cons ck_d943 (ck_cons ck_d944 (ck_cons ck_d945 (ck_cons ck_d946 (ck_cons ck_d949 ck_nil)))))))))))))))))))))))))
def ck_cs931 : List ck_C := [ck_c257, ck_c258, ck_c259]
def ck_sF931 : ck_S := (List.replicate 7 ck_fI, [(0, .inr (2, 900)), (1, .inr (0, 0)), (2, .inr (0, 77)), (3, .inl (0, 0, 0))], [], [((0, 1), .inr (0, 1)), ((1, 1), .inl (0, 0)), ((77, 2), .inr (0, 78)), ((78, 1293), .inl (0, 0))], 101, 101, 109468)
set_option maxRecDepth 100000 in
theorem ck_lc931 : ck_run (ck_stepD ck_dt931 vwCl ck_mts ck_sh ck_T12 ck_cs931 ck_wrL 900 7) [] [] [] 600 [] 7 931 ck_sF931 = true := by decide +kernel
/-! case 954 -/
theorem ck_d954 : decode code 954 = .ok (.aload_n 1, 1) := by decide +kernel
theorem ck_d955 : decode code 955 = .ok (.invokevirtual 108, 3) := by decide +kernel
theorem ck_d958 : decode code 958 = .ok (.aload_n 2, 1) := by decide +kernel
theorem ck_d959 : decode code 959 = .ok (.invokevirtual 111, 3) := by decide +kernel
theorem ck_d962 : decode code 962 = .ok (.if_icmp .eq 492, 3) := by decide +kernel
def ck_dt954 : List (Nat × Instr × Nat) := [(18, (.iload_n 3, 1)), (19, (.aload_n 0, 1)), (20, (.arraylength, 1)), (21, (.bipush 7, 2)), (23, (.isub, 1)), (24, (.if_icmp .gt 1436, 3)), (1454, (.iinc 3 7, 3)), (1457, (.goto (-1439), 3)), (1460, (.iconst 1, 1)), (1461, (.ireturn, 1)), (954, (.aload_n 1, 1)), (955, (.invokevirtual 108, 3)), (958, (.aload_n 2, 1)), (959, (.invokevirtual 111, 3)), (962, (.if_icmp .eq 492, 3))]
theorem ck_dk954 : ∀ q ∈ ck_dt954, decode code q.1 = .ok q.2 := (ck_cons ck_d18 (ck_cons ck_d19 (ck_cons ck_d20 (ck_cons ck_d21 (ck_cons ck_d23 (ck_cons ck_d24 (ck_cons ck_d1454 (ck_cons ck_d1457 (ck_cons ck_d1460 (ck_cons ck_d1461 (ck_cons ck_d954 (ck_cons ck_d955 (ck_cons ck_d958 (ck_cons ck_d959 (ck_cons ck_d962 ck_nil)))))))))))))))
def ck_cs954 : List ck_C := [ck_c260, ck_c261]
def ck_sF954 : ck_S := (List.replicate 7 ck_fI, [(0, .inr (2, 900)), (1, .inr (0, 0)), (2, .inr (0, 77)), (3, .inl (0, 0, 0))], [], [((0, 1), .inr (0, 1)), ((0, 7), .inr (0, 53)), ((1, 1), .inl (0, 0)), ((1, 15), .inl (0, 0)), ((53, 1), .inr (0, 1)), ((53, 2), .inr (0, 54)), ((53, 3), .inr (0, 55)), ((53, 4), .inr (0, 56)), ((53, 5), .inr (0, 57)), ((53, 6), .inr (0, 58)), ((54, 0), .inl (0, 0)), ((55, 0), .inl (0, 0)), ((56, 0), .inl (0, 0)), ((57, 0), .inl (0, 0)), ((58, 0), .inl (0, 0)), ((77, 2), .inr (0, 78)), ((78, 1293), .inl (0, 0))], 101, 101, 109468)
set_option maxRecDepth 100000 in
theorem ck_lc954 : ck_run (ck_stepD ck_dt954 vwCl ck_mts ck_sh ck_T12 ck_cs954 ck_wrL 900 7) [] [] [] 600 [] 7 954 ck_sF954 = true := by decide +kernel
