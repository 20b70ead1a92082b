/-! case 1059 -/
theorem ck_d1059 : decode code 1059 = .ok (.aload_n 1, 1) := by decide +kernel
theorem ck_d1060 : decode code 1060 = .ok (.aload_n 0, 1) := by decide +kernel
theorem ck_d1061 : decode code 1061 = .ok (.iload_n 3, 1) := by decide +kernel
theorem ck_d1062 : decode code 1062 = .ok (.iconst 1, 1) := by decide +kernel
theorem ck_d1063 : decode code 1063 = .ok (.iadd, 1) := by decide +kernel
theorem ck_d1064 : decode code 1064 = .ok (.iaload, 1) := by decide +kernel
theorem ck_d1065 : decode code 1065 = .ok (.invokevirtual 128, 3) := by decide +kernel
theorem ck_d1068 : decode code 1068 = .ok (.aload_n 2, 1) := by decide +kernel
theorem ck_d1069 : decode code 1069 = .ok (.aload_n 0, 1) := by decide +kernel
theorem ck_d1070 : decode code 1070 = .ok (.iload_n 3, 1) := by decide +kernel
theorem ck_d1071 : decode code 1071 = .ok (.iconst 1, 1) := by decide +kernel
theorem ck_d1072 : decode code 1072 = .ok (.iadd, 1) := by decide +kernel
theorem ck_d1073 : decode code 1073 = .ok (.iaload, 1) := by decide +kernel
theorem ck_d1074 : decode code 1074 = .ok (.invokevirtual 131, 3) := by decide +kernel
theorem ck_d1077 : decode code 1077 = .ok (.if_icmp .eq 377, 3) := by decide +kernel
def ck_dt1059 : List (Nat × Instr × Nat) := [(18, (.iload_n 3, 1)), (19, (.aload_n 0, 1)), (20, (.arraylength, 1)), (21, (.bipush 7, 2)), (23, (.isub, 1)), (24, (.if_icmp .gt 1436, 3)), (1454, (.iinc 3 7, 3)), (1457, (.goto (-1439), 3)), (1460, (.iconst 1, 1)), (1461, (.ireturn, 1)), (1059, (.aload_n 1, 1)), (1060, (.aload_n 0, 1)), (1061, (.iload_n 3, 1)), (1062, (.iconst 1, 1)), (1063, (.iadd, 1)), (1064, (.iaload, 1)), (1065, (.invokevirtual 128, 3)), (1068, (.aload_n 2, 1)), (1069, (.aload_n 0, 1)), (1070, (.iload_n 3, 1)), (1071, (.iconst 1, 1)), (1072, (.iadd, 1)), (1073, (.iaload, 1)), (1074, (.invokevirtual 131, 3)), (1077, (.if_icmp .eq 377, 3))]
theorem ck_dk1059 : ∀ q ∈ ck_dt1059, decode code q.1 = .ok q.2 := (ck_cons ck_d18 (ck_cons ck_d19 (ck_cons ck_d20 (ck_cons ck_d21 (ck_cons ck_d23 (ck_cons ck_d24 (ck_cons ck_d1454 (ck_cons ck_d1457 (ck_cons ck_d1460 (ck_cons ck_d1461 (ck_cons ck_d1059 (ck_cons ck_d1060 (ck_cons ck_d1061 (ck_cons ck_d1062 (ck_cons ck_d1063 (ck_cons ck_d1064 (ck_cons ck_d1065 (ck_cons ck_d1068 (ck_cons ck_d1069 (ck_cons ck_d1070 (ck_cons ck_d1071 (ck_cons ck_d1072 (ck_cons ck_d1073 (ck_cons ck_d1074 (ck_cons ck_d1077 ck_nil)))))))))))))))))))))))))
def ck_cs1059 : List ck_C := [ck_c278, ck_c279, ck_c280]
def ck_sF1059 : ck_S := (List.replicate 7 ck_fI, [(0, .inr (2, 900)), (1, .inr (0, 0)), (2, .inr (0, 77)), (3, .inl (0, 0, 0))], [], [((0, 1), .inr (0, 1)), ((1, 1), .inl (0, 0)), ((77, 2), .inr (0, 78)), ((78, 1293), .inl (0, 0))], 101, 101, 109468)
set_option maxRecDepth 100000 in
theorem ck_lc1059 : ck_run (ck_stepD ck_dt1059 vwCl ck_mts ck_sh ck_T12 ck_cs1059 ck_wrL 900 7) [] [] [] 600 [] 7 1059 ck_sF1059 = true := by decide +kernel
/-! case 1082 -/
theorem ck_d1082 : decode code 1082 = .ok (.aload_n 1, 1) := by decide +kernel
theorem ck_d1083 : decode code 1083 = .ok (.aload_n 0, 1) := by decide +kernel
theorem ck_d1084 : decode code 1084 = .ok (.iload_n 3, 1) := by decide +kernel
theorem ck_d1085 : decode code 1085 = .ok (.iconst 1, 1) := by decide +kernel
theorem ck_d1086 : decode code 1086 = .ok (.iadd, 1) := by decide +kernel
theorem ck_d1087 : decode code 1087 = .ok (.iaload, 1) := by decide +kernel
theorem ck_d1088 : decode code 1088 = .ok (.aload_n 0, 1) := by decide +kernel
theorem ck_d1089 : decode code 1089 = .ok (.iload_n 3, 1) := by decide +kernel
theorem ck_d1090 : decode code 1090 = .ok (.iconst 2, 1) := by decide +kernel
theorem ck_d1091 : decode code 1091 = .ok (.iadd, 1) := by decide +kernel
theorem ck_d1092 : decode code 1092 = .ok (.iaload, 1) := by decide +kernel
theorem ck_d1093 : decode code 1093 = .ok (.invokevirtual 132, 3) := by decide +kernel
theorem ck_d1096 : decode code 1096 = .ok (.aload_n 2, 1) := by decide +kernel
theorem ck_d1097 : decode code 1097 = .ok (.aload_n 0, 1) := by decide +kernel
theorem ck_d1098 : decode code 1098 = .ok (.iload_n 3, 1) := by decide +kernel
theorem ck_d1099 : decode code 1099 = .ok (.iconst 1, 1) := by decide +kernel
theorem ck_d1100 : decode code 1100 = .ok (.iadd, 1) := by decide +kernel
theorem ck_d1101 : decode code 1101 = .ok (.iaload, 1) := by decide +kernel
theorem ck_d1102 : decode code 1102 = .ok (.aload_n 0, 1) := by decide +kernel
theorem ck_d1103 : decode code 1103 = .ok (.iload_n 3, 1) := by decide +kernel
theorem ck_d1104 : decode code 1104 = .ok (.iconst 2, 1) := by decide +kernel
theorem ck_d1105 : decode code 1105 = .ok (.iadd, 1) := by decide +kernel
theorem ck_d1106 : decode code 1106 = .ok (.iaload, 1) := by decide +kernel
theorem ck_d1107 : decode code 1107 = .ok (.invokevirtual 135, 3) := by decide +kernel
theorem ck_d1110 : decode code 1110 = .ok (.if_icmp .eq 344, 3) := by decide +kernel
def ck_dt1082 : List (Nat × Instr × Nat) := [(18, (.iload_n 3, 1)), (19, (.aload_n 0, 1)), (20, (.arraylength, 1)), (21, (.bipush 7, 2)), (23, (.isub, 1)), (24, (.if_icmp .gt 1436, 3)), (1454, (.iinc 3 7, 3)), (1457, (.goto (-1439), 3)), (1460, (.iconst 1, 1)), (1461, (.ireturn, 1)), (1082, (.aload_n 1, 1)), (1083, (.aload_n 0, 1)), (1084, (.iload_n 3, 1)), (1085, (.iconst 1, 1)), (1086, (.iadd, 1)), (1087, (.iaload, 1)), (1088, (.aload_n 0, 1)), (1089, (.iload_n 3, 1)), (1090, (.iconst 2, 1)), (1091, (.iadd, 1)), (1092, (.iaload, 1)), (1093, (.invokevirtual 132, 3)), (1096, (.aload_n 2, 1)), (1097, (.aload_n 0, 1)), (1098, (.iload_n 3, 1)), (1099, (.iconst 1, 1)), (1100, (.iadd, 1)), (1101, (.iaload, 1)), (1102, (.aload_n 0, 1)), (1103, (.iload_n 3, 1)), (1104, (.iconst 2, 1)), (1105, (.iadd, 1)), (1106, (.iaload, 1)), (1107, (.invokevirtual 135, 3)), (1110, (.if_icmp .eq 344, 3))]
theorem ck_dk1082 : ∀ q ∈ ck_dt1082, decode code q.1 = .ok q.2 := (ck_cons ck_d18 (ck_cons ck_d19 (ck_cons ck_d20 (ck_cons ck_d21 (ck_cons ck_d23 (ck_cons ck_d24 (ck_cons ck_d1454 (ck_cons ck_d1457 (ck_cons ck_d1460 (ck_cons ck_d1461 (ck_cons ck_d1082 (ck_cons ck_d1083 (ck_cons ck_d1084 (ck_cons ck_d1085 (ck_cons ck_d1086 (ck_cons ck_d1087 (ck_cons ck_d1088 (ck_cons ck_d1089 (ck_cons ck_d1090 (ck_cons ck_d1091 (ck_cons ck_d1092 (ck_cons ck_d1093 (ck_cons ck_d1096 (ck_cons ck_d1097 (ck_cons ck_d1098 (ck_cons ck_d1099 (ck_cons ck_d1100 (ck_cons ck_d1101 (ck_cons ck_d1102 (ck_cons ck_d1103 (ck_cons ck_d1104 (ck_cons ck_d1105 (ck_cons ck_d1106 (ck_cons ck_d1107 (ck_cons ck_d1110 ck_nil)))))))))))))))))))))))))))))))))))
def ck_cs1082 : List ck_C := [ck_c284, ck_c287, ck_c288, ck_c289, ck_c290, ck_c291]
def ck_sF1082 : ck_S := (List.replicate 7 ck_fI, [(0, .inr (2, 900)), (1, .inr (0, 0)), (2, .inr (0, 77)), (3, .inl (0, 0, 0))], [], [((0, 1), .inr (0, 1)), ((1, 1), .inl (0, 0)), ((77, 2), .inr (0, 78)), ((78, 1293), .inl (0, 0))], 101, 101, 109468)
set_option maxRecDepth 100000 in
theorem ck_lc1082 : ck_run (ck_stepD ck_dt1082 vwCl ck_mts ck_sh ck_T12 ck_cs1082 ck_wrL 900 7) [] [] [] 600 [] 7 1082 ck_sF1082 = true := by decide +kernel
/-! case 1115 -/
theorem ck_d1115 : decode code 1115 = .ok (.aload_n 1, 1) := by decide +kernel
theorem ck_d1116 : decode code 1116 = .ok (.aload_n 0, 1) := by decide +kernel
theorem ck_d1117 : decode code 1117 = .ok (.iload_n 3, 1) := by decide +kernel
theorem ck_d1118 : decode code 1118 = .ok (.iconst 1, 1) := by decide +kernel
theorem ck_d1119 : decode code 1119 = .ok (.iadd, 1) := by decide +kernel
theorem ck_d1120 : decode code 1120 = .ok (.iaload, 1) := by decide +kernel
theorem ck_d1121 : decode code 1121 = .ok (.aload_n 0, 1) := by decide +kernel
theorem ck_d1122 : decode code 1122 = .ok (.iload_n 3, 1) := by decide +kernel
theorem ck_d1123 : decode code 1123 = .ok (.iconst 2, 1) := by decide +kernel
theorem ck_d1124 : decode code 1124 = .ok (.iadd, 1) := by decide +kernel
theorem ck_d1125 : decode code 1125 = .ok (.iaload, 1) := by decide +kernel
theorem ck_d1126 : decode code 1126 = .ok (.invokevirtual 136, 3) := by decide +kernel
theorem ck_d1129 : decode code 1129 = .ok (.aload_n 2, 1) := by decide +kernel
theorem ck_d1130 : decode code 1130 = .ok (.aload_n 0, 1) := by decide +kernel
theorem ck_d1131 : decode code 1131 = .ok (.iload_n 3, 1) := by decide +kernel
theorem ck_d1132 : decode code 1132 = .ok (.iconst 1, 1) := by decide +kernel
theorem ck_d1133 : decode code 1133 = .ok (.iadd, 1) := by decide +kernel
theorem ck_d1134 : decode code 1134 = .ok (.iaload, 1) := by decide +kernel
theorem ck_d1135 : decode code 1135 = .ok (.aload_n 0, 1) := by decide +kernel
theorem ck_d1136 : decode code 1136 = .ok (.iload_n 3, 1) := by decide +kernel
theorem ck_d1137 : decode code 1137 = .ok (.iconst 2, 1) := by decide +kernel
theorem ck_d1138 : decode code 1138 = .ok (.iadd, 1) := by decide +kernel
theorem ck_d1139 : decode code 1139 = .ok (.iaload, 1) := by decide +kernel
theorem ck_d1140 : decode code 1140 = .ok (.invokevirtual 139, 3) := by decide +kernel
theorem ck_d1143 : decode code 1143 = .ok (.if_icmp .eq 311, 3) := by decide +kernel
def ck_dt1115 : List (Nat × Instr × Nat) := [(18, (.iload_n 3, 1)), (19, (.aload_n 0, 1)), (20, (.arraylength, 1)), (21, (.bipush 7, 2)), (23, (.isub, 1)), (24, (.if_icmp .gt 1436, 3)), (1454, (.iinc 3 7, 3)), (1457, (.goto (-1439), 3)), (1460, (.iconst 1, 1)), (1461, (.ireturn, 1)), (1115, (.aload_n 1, 1)), (1116, (.aload_n 0, 1)), (1117, (.iload_n 3, 1)), (1118, (.iconst 1, 1)), (1119, (.iadd, 1)), (1120, (.iaload, 1)), (1121, (.aload_n 0, 1)), (1122, (.iload_n 3, 1)), (1123, (.iconst 2, 1)), (1124, (.iadd, 1)), (1125, (.iaload, 1)), (1126, (.invokevirtual 136, 3)), (1129, (.aload_n 2, 1)), (1130, (.aload_n 0, 1)), (1131, (.iload_n 3, 1)), (1132, (.iconst 1, 1)), (1133, (.iadd, 1)), (1134, (.iaload, 1)), (1135, (.aload_n 0, 1)), (1136, (.iload_n 3, 1)), (1137, (.iconst 2, 1)), (1138, (.iadd, 1)), (1139, (.iaload, 1)), (1140, (.invokevirtual 139, 3)), (1143, (.if_icmp .eq 311, 3))]
theorem ck_dk1115 : ∀ q ∈ ck_dt1115, decode code q.1 = .ok q.2 := (ck_cons ck_d18 (ck_cons ck_d19 (ck_cons ck_d20 (ck_cons ck_d21 (ck_cons ck_d23 (ck_cons ck_d24 (ck_cons ck_d1454 (ck_cons ck_d1457 (ck_cons ck_d1460 (ck_cons ck_d1461 (ck_cons ck_d1115 (ck_cons ck_d1116 (ck_cons ck_d1117 (ck_cons ck_d1118 (ck_cons ck_d1119 (ck_cons ck_d1120 (ck_cons ck_d1121 (ck_cons ck_d1122 (ck_cons ck_d1123 (ck_cons ck_d1124 (ck_cons ck_d1125 (ck_cons ck_d1126 (ck_cons ck_d1129 (ck_cons ck_d1130 (ck_cons ck_d1131 (ck_cons ck_d1132 (ck_cons ck_d1133 (ck_cons ck_d1134 (ck_cons ck_d1135 (ck_cons ck_d1136 (ck_cons ck_d1137 (ck_cons ck_d1138 (ck_cons ck_d1139 (ck_cons ck_d1140 (ck_cons ck_d1143 ck_nil)))))))))))))))))))))))))))))))))))
def ck_cs1115 : List ck_C := [ck_c293, ck_c296, ck_c298, ck_c300, ck_c304]
def ck_sF1115 : ck_S := (List.replicate 7 ck_fI, [(0, .inr (2, 900)), (1, .inr (0, 0)), (2, .inr (0, 77)), (3, .inl (0, 0, 0))], [], [((0, 8), .inr (0, 59)), ((59, 5), .inl (0, 0)), ((77, 30), .inl ((-1), (-1)))], 101, 101, 109468)
set_option maxRecDepth 100000 in
theorem ck_lc1115 : ck_run (ck_stepD ck_dt1115 vwCl ck_mts ck_sh ck_T12 ck_cs1115 ck_wrL 900 7) [] [] [] 600 [] 7 1115 ck_sF1115 = true := by decide +kernel
/-! case 1148 -/
theorem ck_d1148 : decode code 1148 = .ok (.aload_n 1, 1) := by decide +kernel
theorem ck_d1149 : decode code 1149 = .ok (.aload_n 0, 1) := by decide +kernel
theorem ck_d1150 : decode code 1150 = .ok (.iload_n 3, 1) := by decide +kernel
theorem ck_d1151 : decode code 1151 = .ok (.iconst 1, 1) := by decide +kernel
theorem ck_d1152 : decode code 1152 = .ok (.iadd, 1) := by decide +kernel
theorem ck_d1153 : decode code 1153 = .ok (.iaload, 1) := by decide +kernel
theorem ck_d1154 : decode code 1154 = .ok (.aload_n 0, 1) := by decide +kernel
theorem ck_d1155 : decode code 1155 = .ok (.iload_n 3, 1) := by decide +kernel
theorem ck_d1156 : decode code 1156 = .ok (.iconst 2, 1) := by decide +kernel
theorem ck_d1157 : decode code 1157 = .ok (.iadd, 1) := by decide +kernel
theorem ck_d1158 : decode code 1158 = .ok (.iaload, 1) := by decide +kernel
theorem ck_d1159 : decode code 1159 = .ok (.invokevirtual 140, 3) := by decide +kernel
theorem ck_d1162 : decode code 1162 = .ok (.aload_n 2, 1) := by decide +kernel
theorem ck_d1163 : decode code 1163 = .ok (.aload_n 0, 1) := by decide +kernel
theorem ck_d1164 : decode code 1164 = .ok (.iload_n 3, 1) := by decide +kernel
theorem ck_d1165 : decode code 1165 = .ok (.iconst 1, 1) := by decide +kernel
theorem ck_d1166 : decode code 1166 = .ok (.iadd, 1) := by decide +kernel
theorem ck_d1167 : decode code 1167 = .ok (.iaload, 1) := by decide +kernel
theorem ck_d1168 : decode code 1168 = .ok (.aload_n 0, 1) := by decide +kernel
theorem ck_d1169 : decode code 1169 = .ok (.iload_n 3, 1) := by decide +kernel
theorem ck_d1170 : decode code 1170 = .ok (.iconst 2, 1) := by decide +kernel
theorem ck_d1171 : decode code 1171 = .ok (.iadd, 1) := by decide +kernel
theorem ck_d1172 : decode code 1172 = .ok (.iaload, 1) := by decide +kernel
theorem ck_d1173 : decode code 1173 = .ok (.invokevirtual 143, 3) := by decide +kernel
theorem ck_d1176 : decode code 1176 = .ok (.if_icmp .eq 278, 3) := by decide +kernel
def ck_dt1148 : List (Nat × Instr × Nat) := [(18, (.iload_n 3, 1)), (19, (.aload_n 0, 1)), (20, (.arraylength, 1)), (21, (.bipush 7, 2)), (23, (.isub, 1)), (24, (.if_icmp .gt 1436, 3)), (1454, (.iinc 3 7, 3)), (1457, (.goto (-1439), 3)), (1460, (.iconst 1, 1)), (1461, (.ireturn, 1)), (1148, (.aload_n 1, 1)), (1149, (.aload_n 0, 1)), (1150, (.iload_n 3, 1)), (1151, (.iconst 1, 1)), (1152, (.iadd, 1)), (1153, (.iaload, 1)), (1154, (.aload_n 0, 1)), (1155, (.iload_n 3, 1)), (1156, (.iconst 2, 1)), (1157, (.iadd, 1)), (1158, (.iaload, 1)), (1159, (.invokevirtual 140, 3)), (1162, (.aload_n 2, 1)), (1163, (.aload_n 0, 1)), (1164, (.iload_n 3, 1)), (1165, (.iconst 1, 1)), (1166, (.iadd, 1)), (1167, (.iaload, 1)), (1168, (.aload_n 0, 1)), (1169, (.iload_n 3, 1)), (1170, (.iconst 2, 1)), (1171, (.iadd, 1)), (1172, (.iaload, 1)), (1173, (.invokevirtual 143, 3)), (1176, (.if_icmp .eq 278, 3))]
theorem ck_dk1148 : ∀ q ∈ ck_dt1148, decode code q.1 = .ok q.2 := (ck_cons ck_d18 (ck_cons ck_d19 (ck_cons ck_d20 (ck_cons ck_d21 (ck_cons ck_d23 (ck_cons ck_d24 (ck_cons ck_d1454 (ck_cons ck_d1457 (ck_cons ck_d1460 (ck_cons ck_d1461 (ck_cons ck_d1148 (ck_cons ck_d1149 (ck_cons ck_d1150 (ck_cons ck_d1151 (ck_cons ck_d1152 (ck_cons ck_d1153 (ck_cons ck_d1154 (ck_cons ck_d1155 (ck_cons ck_d1156 (ck_cons ck_d1157 (ck_cons ck_d1158 (ck_cons ck_d1159 (ck_cons ck_d1162 (ck_cons ck_d1163 (ck_cons ck_d1164 (ck_cons ck_d1165 (ck_cons ck_d1166 (ck_cons ck_d1167 (ck_cons ck_d1168 (ck_cons ck_d1169 (ck_cons ck_d1170 (ck_cons ck_d1171 (ck_cons ck_d1172 (ck_cons ck_d1173 (ck_cons ck_d1176 ck_nil)))))))))))))))))))))))))))))))))))
def ck_cs1148 : List ck_C := [ck_c305, ck_c306, ck_c307, ck_c310, ck_c312]
def ck_sF1148 : ck_S := (List.replicate 7 ck_fI, [(0, .inr (2, 900)), (1, .inr (0, 0)), (2, .inr (0, 77)), (3, .inl (0, 0, 0))], [], [((0, 1), .inr (0, 1)), ((1, 1), .inl (0, 0)), ((77, 2), .inr (0, 78)), ((78, 1293), .inl (0, 0))], 101, 101, 109468)
set_option maxRecDepth 100000 in
theorem ck_lc1148 : ck_run (ck_stepD ck_dt1148 vwCl ck_mts ck_sh ck_T12 ck_cs1148 ck_wrL 900 7) [] [] [] 600 [] 7 1148 ck_sF1148 = true := by decide +kernel
