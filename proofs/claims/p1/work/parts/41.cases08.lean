/-! case 1181 -/
theorem ck_d1181 : decode code 1181 = .ok (.aload_n 1, 1) := by decide +kernel
theorem ck_d1182 : decode code 1182 = .ok (.aload_n 0, 1) := by decide +kernel
theorem ck_d1183 : decode code 1183 = .ok (.iload_n 3, 1) := by decide +kernel
theorem ck_d1184 : decode code 1184 = .ok (.iconst 1, 1) := by decide +kernel
theorem ck_d1185 : decode code 1185 = .ok (.iadd, 1) := by decide +kernel
theorem ck_d1186 : decode code 1186 = .ok (.iaload, 1) := by decide +kernel
theorem ck_d1187 : decode code 1187 = .ok (.invokevirtual 144, 3) := by decide +kernel
theorem ck_d1190 : decode code 1190 = .ok (.aload_n 2, 1) := by decide +kernel
theorem ck_d1191 : decode code 1191 = .ok (.aload_n 0, 1) := by decide +kernel
theorem ck_d1192 : decode code 1192 = .ok (.iload_n 3, 1) := by decide +kernel
theorem ck_d1193 : decode code 1193 = .ok (.iconst 1, 1) := by decide +kernel
theorem ck_d1194 : decode code 1194 = .ok (.iadd, 1) := by decide +kernel
theorem ck_d1195 : decode code 1195 = .ok (.iaload, 1) := by decide +kernel
theorem ck_d1196 : decode code 1196 = .ok (.invokevirtual 147, 3) := by decide +kernel
theorem ck_d1199 : decode code 1199 = .ok (.if_icmp .eq 255, 3) := by decide +kernel
def ck_dt1181 : List (Nat × Instr × Nat) := [(18, (.iload_n 3, 1)), (19, (.aload_n 0, 1)), (20, (.arraylength, 1)), (21, (.bipush 7, 2)), (23, (.isub, 1)), (24, (.if_icmp .gt 1436, 3)), (1454, (.iinc 3 7, 3)), (1457, (.goto (-1439), 3)), (1460, (.iconst 1, 1)), (1461, (.ireturn, 1)), (1181, (.aload_n 1, 1)), (1182, (.aload_n 0, 1)), (1183, (.iload_n 3, 1)), (1184, (.iconst 1, 1)), (1185, (.iadd, 1)), (1186, (.iaload, 1)), (1187, (.invokevirtual 144, 3)), (1190, (.aload_n 2, 1)), (1191, (.aload_n 0, 1)), (1192, (.iload_n 3, 1)), (1193, (.iconst 1, 1)), (1194, (.iadd, 1)), (1195, (.iaload, 1)), (1196, (.invokevirtual 147, 3)), (1199, (.if_icmp .eq 255, 3))]
theorem ck_dk1181 : ∀ q ∈ ck_dt1181, decode code q.1 = .ok q.2 := (ck_cons ck_d18 (ck_cons ck_d19 (ck_cons ck_d20 (ck_cons ck_d21 (ck_cons ck_d23 (ck_cons ck_d24 (ck_cons ck_d1454 (ck_cons ck_d1457 (ck_cons ck_d1460 (ck_cons ck_d1461 (ck_cons ck_d1181 (ck_cons ck_d1182 (ck_cons ck_d1183 (ck_cons ck_d1184 (ck_cons ck_d1185 (ck_cons ck_d1186 (ck_cons ck_d1187 (ck_cons ck_d1190 (ck_cons ck_d1191 (ck_cons ck_d1192 (ck_cons ck_d1193 (ck_cons ck_d1194 (ck_cons ck_d1195 (ck_cons ck_d1196 (ck_cons ck_d1199 ck_nil)))))))))))))))))))))))))
def ck_cs1181 : List ck_C := [ck_c313, ck_c315, ck_c316]
def ck_sF1181 : ck_S := (List.replicate 7 ck_fI, [(0, .inr (2, 900)), (1, .inr (0, 0)), (2, .inr (0, 77)), (3, .inl (0, 0, 0))], [], [((0, 1), .inr (0, 1)), ((1, 1), .inl (0, 0)), ((77, 2), .inr (0, 78)), ((78, 1293), .inl (0, 0))], 101, 101, 109468)
set_option maxRecDepth 100000 in
theorem ck_lc1181 : ck_run (ck_stepD ck_dt1181 vwCl ck_mts ck_sh ck_T12 ck_cs1181 ck_wrL 900 7) [] [] [] 600 [] 7 1181 ck_sF1181 = true := by decide +kernel
/-! case 1204 -/
theorem ck_d1204 : decode code 1204 = .ok (.aload_n 1, 1) := by decide +kernel
theorem ck_d1205 : decode code 1205 = .ok (.aload_n 0, 1) := by decide +kernel
theorem ck_d1206 : decode code 1206 = .ok (.iload_n 3, 1) := by decide +kernel
theorem ck_d1207 : decode code 1207 = .ok (.iconst 1, 1) := by decide +kernel
theorem ck_d1208 : decode code 1208 = .ok (.iadd, 1) := by decide +kernel
theorem ck_d1209 : decode code 1209 = .ok (.iaload, 1) := by decide +kernel
theorem ck_d1210 : decode code 1210 = .ok (.invokevirtual 148, 3) := by decide +kernel
theorem ck_d1213 : decode code 1213 = .ok (.aload_n 2, 1) := by decide +kernel
theorem ck_d1214 : decode code 1214 = .ok (.aload_n 0, 1) := by decide +kernel
theorem ck_d1215 : decode code 1215 = .ok (.iload_n 3, 1) := by decide +kernel
theorem ck_d1216 : decode code 1216 = .ok (.iconst 1, 1) := by decide +kernel
theorem ck_d1217 : decode code 1217 = .ok (.iadd, 1) := by decide +kernel
theorem ck_d1218 : decode code 1218 = .ok (.iaload, 1) := by decide +kernel
theorem ck_d1219 : decode code 1219 = .ok (.invokevirtual 151, 3) := by decide +kernel
theorem ck_d1222 : decode code 1222 = .ok (.if_icmp .eq 232, 3) := by decide +kernel
def ck_dt1204 : List (Nat × Instr × Nat) := [(18, (.iload_n 3, 1)), (19, (.aload_n 0, 1)), (20, (.arraylength, 1)), (21, (.bipush 7, 2)), (23, (.isub, 1)), (24, (.if_icmp .gt 1436, 3)), (1454, (.iinc 3 7, 3)), (1457, (.goto (-1439), 3)), (1460, (.iconst 1, 1)), (1461, (.ireturn, 1)), (1204, (.aload_n 1, 1)), (1205, (.aload_n 0, 1)), (1206, (.iload_n 3, 1)), (1207, (.iconst 1, 1)), (1208, (.iadd, 1)), (1209, (.iaload, 1)), (1210, (.invokevirtual 148, 3)), (1213, (.aload_n 2, 1)), (1214, (.aload_n 0, 1)), (1215, (.iload_n 3, 1)), (1216, (.iconst 1, 1)), (1217, (.iadd, 1)), (1218, (.iaload, 1)), (1219, (.invokevirtual 151, 3)), (1222, (.if_icmp .eq 232, 3))]
theorem ck_dk1204 : ∀ q ∈ ck_dt1204, decode code q.1 = .ok q.2 := (ck_cons ck_d18 (ck_cons ck_d19 (ck_cons ck_d20 (ck_cons ck_d21 (ck_cons ck_d23 (ck_cons ck_d24 (ck_cons ck_d1454 (ck_cons ck_d1457 (ck_cons ck_d1460 (ck_cons ck_d1461 (ck_cons ck_d1204 (ck_cons ck_d1205 (ck_cons ck_d1206 (ck_cons ck_d1207 (ck_cons ck_d1208 (ck_cons ck_d1209 (ck_cons ck_d1210 (ck_cons ck_d1213 (ck_cons ck_d1214 (ck_cons ck_d1215 (ck_cons ck_d1216 (ck_cons ck_d1217 (ck_cons ck_d1218 (ck_cons ck_d1219 (ck_cons ck_d1222 ck_nil)))))))))))))))))))))))))
def ck_cs1204 : List ck_C := [ck_c323, ck_c324, ck_c325, ck_c327, ck_c329]
def ck_sF1204 : ck_S := (List.replicate 7 ck_fI, [(0, .inr (2, 900)), (1, .inr (0, 0)), (2, .inr (0, 77)), (3, .inl (0, 0, 0))], [], [((0, 8), .inr (0, 59)), ((0, 9), .inr (0, 65)), ((1, 1), .inl (0, 0)), ((1, 15), .inl (0, 0)), ((65, 1), .inr (0, 1)), ((65, 4), .inr (0, 67)), ((65, 5), .inr (0, 68)), ((67, 0), .inl (0, 0)), ((68, 0), .inl (0, 0)), ((77, 2), .inr (0, 78)), ((77, 30), .inl ((-1), (-1))), ((78, 1293), .inl (0, 0))], 101, 101, 109468)
set_option maxRecDepth 100000 in
theorem ck_lc1204 : ck_run (ck_stepD ck_dt1204 vwCl ck_mts ck_sh ck_T12 ck_cs1204 ck_wrL 900 7) [] [] [] 600 [] 7 1204 ck_sF1204 = true := by decide +kernel
/-! case 1227 -/
theorem ck_d1227 : decode code 1227 = .ok (.aload_n 1, 1) := by decide +kernel
theorem ck_d1228 : decode code 1228 = .ok (.aload_n 0, 1) := by decide +kernel
theorem ck_d1229 : decode code 1229 = .ok (.iload_n 3, 1) := by decide +kernel
theorem ck_d1230 : decode code 1230 = .ok (.iconst 1, 1) := by decide +kernel
theorem ck_d1231 : decode code 1231 = .ok (.iadd, 1) := by decide +kernel
theorem ck_d1232 : decode code 1232 = .ok (.iaload, 1) := by decide +kernel
theorem ck_d1233 : decode code 1233 = .ok (.aload_n 0, 1) := by decide +kernel
theorem ck_d1234 : decode code 1234 = .ok (.iload_n 3, 1) := by decide +kernel
theorem ck_d1235 : decode code 1235 = .ok (.iconst 2, 1) := by decide +kernel
theorem ck_d1236 : decode code 1236 = .ok (.iadd, 1) := by decide +kernel
theorem ck_d1237 : decode code 1237 = .ok (.iaload, 1) := by decide +kernel
theorem ck_d1238 : decode code 1238 = .ok (.invokevirtual 152, 3) := by decide +kernel
theorem ck_d1241 : decode code 1241 = .ok (.aload_n 2, 1) := by decide +kernel
theorem ck_d1242 : decode code 1242 = .ok (.aload_n 0, 1) := by decide +kernel
theorem ck_d1243 : decode code 1243 = .ok (.iload_n 3, 1) := by decide +kernel
theorem ck_d1244 : decode code 1244 = .ok (.iconst 1, 1) := by decide +kernel
theorem ck_d1245 : decode code 1245 = .ok (.iadd, 1) := by decide +kernel
theorem ck_d1246 : decode code 1246 = .ok (.iaload, 1) := by decide +kernel
theorem ck_d1247 : decode code 1247 = .ok (.aload_n 0, 1) := by decide +kernel
theorem ck_d1248 : decode code 1248 = .ok (.iload_n 3, 1) := by decide +kernel
theorem ck_d1249 : decode code 1249 = .ok (.iconst 2, 1) := by decide +kernel
theorem ck_d1250 : decode code 1250 = .ok (.iadd, 1) := by decide +kernel
theorem ck_d1251 : decode code 1251 = .ok (.iaload, 1) := by decide +kernel
theorem ck_d1252 : decode code 1252 = .ok (.invokevirtual 155, 3) := by decide +kernel
theorem ck_d1255 : decode code 1255 = .ok (.if_icmp .eq 199, 3) := by decide +kernel
def ck_dt1227 : List (Nat × Instr × Nat) := [(18, (.iload_n 3, 1)), (19, (.aload_n 0, 1)), (20, (.arraylength, 1)), (21, (.bipush 7, 2)), (23, (.isub, 1)), (24, (.if_icmp .gt 1436, 3)), (1454, (.iinc 3 7, 3)), (1457, (.goto (-1439), 3)), (1460, (.iconst 1, 1)), (1461, (.ireturn, 1)), (1227, (.aload_n 1, 1)), (1228, (.aload_n 0, 1)), (1229, (.iload_n 3, 1)), (1230, (.iconst 1, 1)), (1231, (.iadd, 1)), (1232, (.iaload, 1)), (1233, (.aload_n 0, 1)), (1234, (.iload_n 3, 1)), (1235, (.iconst 2, 1)), (1236, (.iadd, 1)), (1237, (.iaload, 1)), (1238, (.invokevirtual 152, 3)), (1241, (.aload_n 2, 1)), (1242, (.aload_n 0, 1)), (1243, (.iload_n 3, 1)), (1244, (.iconst 1, 1)), (1245, (.iadd, 1)), (1246, (.iaload, 1)), (1247, (.aload_n 0, 1)), (1248, (.iload_n 3, 1)), (1249, (.iconst 2, 1)), (1250, (.iadd, 1)), (1251, (.iaload, 1)), (1252, (.invokevirtual 155, 3)), (1255, (.if_icmp .eq 199, 3))]
theorem ck_dk1227 : ∀ q ∈ ck_dt1227, decode code q.1 = .ok q.2 := (ck_cons ck_d18 (ck_cons ck_d19 (ck_cons ck_d20 (ck_cons ck_d21 (ck_cons ck_d23 (ck_cons ck_d24 (ck_cons ck_d1454 (ck_cons ck_d1457 (ck_cons ck_d1460 (ck_cons ck_d1461 (ck_cons ck_d1227 (ck_cons ck_d1228 (ck_cons ck_d1229 (ck_cons ck_d1230 (ck_cons ck_d1231 (ck_cons ck_d1232 (ck_cons ck_d1233 (ck_cons ck_d1234 (ck_cons ck_d1235 (ck_cons ck_d1236 (ck_cons ck_d1237 (ck_cons ck_d1238 (ck_cons ck_d1241 (ck_cons ck_d1242 (ck_cons ck_d1243 (ck_cons ck_d1244 (ck_cons ck_d1245 (ck_cons ck_d1246 (ck_cons ck_d1247 (ck_cons ck_d1248 (ck_cons ck_d1249 (ck_cons ck_d1250 (ck_cons ck_d1251 (ck_cons ck_d1252 (ck_cons ck_d1255 ck_nil)))))))))))))))))))))))))))))))))))
def ck_cs1227 : List ck_C := [ck_c330, ck_c331, ck_c332]
def ck_sF1227 : ck_S := (List.replicate 7 ck_fI, [(0, .inr (2, 900)), (1, .inr (0, 0)), (2, .inr (0, 77)), (3, .inl (0, 0, 0))], [], [((0, 1), .inr (0, 1)), ((1, 1), .inl (0, 0)), ((77, 2), .inr (0, 78)), ((78, 1293), .inl (0, 0))], 101, 101, 109468)
set_option maxRecDepth 100000 in
theorem ck_lc1227 : ck_run (ck_stepD ck_dt1227 vwCl ck_mts ck_sh ck_T12 ck_cs1227 ck_wrL 900 7) [] [] [] 600 [] 7 1227 ck_sF1227 = true := by decide +kernel
/-! case 1260 -/
theorem ck_d1260 : decode code 1260 = .ok (.aload_n 1, 1) := by decide +kernel
theorem ck_d1261 : decode code 1261 = .ok (.aload_n 0, 1) := by decide +kernel
theorem ck_d1262 : decode code 1262 = .ok (.iload_n 3, 1) := by decide +kernel
theorem ck_d1263 : decode code 1263 = .ok (.iconst 1, 1) := by decide +kernel
theorem ck_d1264 : decode code 1264 = .ok (.iadd, 1) := by decide +kernel
theorem ck_d1265 : decode code 1265 = .ok (.iaload, 1) := by decide +kernel
theorem ck_d1266 : decode code 1266 = .ok (.aload_n 0, 1) := by decide +kernel
theorem ck_d1267 : decode code 1267 = .ok (.iload_n 3, 1) := by decide +kernel
theorem ck_d1268 : decode code 1268 = .ok (.iconst 2, 1) := by decide +kernel
theorem ck_d1269 : decode code 1269 = .ok (.iadd, 1) := by decide +kernel
theorem ck_d1270 : decode code 1270 = .ok (.iaload, 1) := by decide +kernel
theorem ck_d1271 : decode code 1271 = .ok (.invokevirtual 156, 3) := by decide +kernel
theorem ck_d1274 : decode code 1274 = .ok (.aload_n 2, 1) := by decide +kernel
theorem ck_d1275 : decode code 1275 = .ok (.aload_n 0, 1) := by decide +kernel
theorem ck_d1276 : decode code 1276 = .ok (.iload_n 3, 1) := by decide +kernel
theorem ck_d1277 : decode code 1277 = .ok (.iconst 1, 1) := by decide +kernel
theorem ck_d1278 : decode code 1278 = .ok (.iadd, 1) := by decide +kernel
theorem ck_d1279 : decode code 1279 = .ok (.iaload, 1) := by decide +kernel
theorem ck_d1280 : decode code 1280 = .ok (.aload_n 0, 1) := by decide +kernel
theorem ck_d1281 : decode code 1281 = .ok (.iload_n 3, 1) := by decide +kernel
theorem ck_d1282 : decode code 1282 = .ok (.iconst 2, 1) := by decide +kernel
theorem ck_d1283 : decode code 1283 = .ok (.iadd, 1) := by decide +kernel
theorem ck_d1284 : decode code 1284 = .ok (.iaload, 1) := by decide +kernel
theorem ck_d1285 : decode code 1285 = .ok (.invokevirtual 159, 3) := by decide +kernel
theorem ck_d1288 : decode code 1288 = .ok (.if_icmp .eq 166, 3) := by decide +kernel
def ck_dt1260 : List (Nat × Instr × Nat) := [(18, (.iload_n 3, 1)), (19, (.aload_n 0, 1)), (20, (.arraylength, 1)), (21, (.bipush 7, 2)), (23, (.isub, 1)), (24, (.if_icmp .gt 1436, 3)), (1454, (.iinc 3 7, 3)), (1457, (.goto (-1439), 3)), (1460, (.iconst 1, 1)), (1461, (.ireturn, 1)), (1260, (.aload_n 1, 1)), (1261, (.aload_n 0, 1)), (1262, (.iload_n 3, 1)), (1263, (.iconst 1, 1)), (1264, (.iadd, 1)), (1265, (.iaload, 1)), (1266, (.aload_n 0, 1)), (1267, (.iload_n 3, 1)), (1268, (.iconst 2, 1)), (1269, (.iadd, 1)), (1270, (.iaload, 1)), (1271, (.invokevirtual 156, 3)), (1274, (.aload_n 2, 1)), (1275, (.aload_n 0, 1)), (1276, (.iload_n 3, 1)), (1277, (.iconst 1, 1)), (1278, (.iadd, 1)), (1279, (.iaload, 1)), (1280, (.aload_n 0, 1)), (1281, (.iload_n 3, 1)), (1282, (.iconst 2, 1)), (1283, (.iadd, 1)), (1284, (.iaload, 1)), (1285, (.invokevirtual 159, 3)), (1288, (.if_icmp .eq 166, 3))]
theorem ck_dk1260 : ∀ q ∈ ck_dt1260, decode code q.1 = .ok q.2 := (ck_cons ck_d18 (ck_cons ck_d19 (ck_cons ck_d20 (ck_cons ck_d21 (ck_cons ck_d23 (ck_cons ck_d24 (ck_cons ck_d1454 (ck_cons ck_d1457 (ck_cons ck_d1460 (ck_cons ck_d1461 (ck_cons ck_d1260 (ck_cons ck_d1261 (ck_cons ck_d1262 (ck_cons ck_d1263 (ck_cons ck_d1264 (ck_cons ck_d1265 (ck_cons ck_d1266 (ck_cons ck_d1267 (ck_cons ck_d1268 (ck_cons ck_d1269 (ck_cons ck_d1270 (ck_cons ck_d1271 (ck_cons ck_d1274 (ck_cons ck_d1275 (ck_cons ck_d1276 (ck_cons ck_d1277 (ck_cons ck_d1278 (ck_cons ck_d1279 (ck_cons ck_d1280 (ck_cons ck_d1281 (ck_cons ck_d1282 (ck_cons ck_d1283 (ck_cons ck_d1284 (ck_cons ck_d1285 (ck_cons ck_d1288 ck_nil)))))))))))))))))))))))))))))))))))
def ck_cs1260 : List ck_C := [ck_c333, ck_c334, ck_c335, ck_c336, ck_c337, ck_c338]
def ck_sF1260 : ck_S := (List.replicate 7 ck_fI, [(0, .inr (2, 900)), (1, .inr (0, 0)), (2, .inr (0, 77)), (3, .inl (0, 0, 0))], [], [((0, 1), .inr (0, 1)), ((1, 15), .inl (0, 0)), ((77, 2), .inr (0, 78)), ((78, 1294), .inl (0, 0))], 101, 101, 109468)
set_option maxRecDepth 100000 in
theorem ck_lc1260 : ck_run (ck_stepD ck_dt1260 vwCl ck_mts ck_sh ck_T12 ck_cs1260 ck_wrL 900 7) [] [] [] 600 [] 7 1260 ck_sF1260 = true := by decide +kernel
