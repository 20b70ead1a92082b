/-! THE LAW'S CASES: written by wip/gen/pr.py -/
def ck_wrL : List (Nat × Nat) := [(0, 1), (0, 2), (0, 3), (0, 4), (0, 5), (0, 6), (0, 7), (0, 8), (0, 9), (0, 10), (0, 11), (0, 12), (0, 13), (0, 14), (0, 15), (1, 1), (1, 2), (1, 3), (1, 4), (1, 5), (1, 6), (1, 7), (1, 8), (1, 9), (1, 10), (1, 11), (1, 12), (1, 13), (1, 14), (1, 15), (1, 16), (1, 17), (1, 18), (1, 19), (2, 0), (3, 0), (4, 0), (7, 0), (8, 0), (9, 0), (11, 1), (11, 2), (15, 0), (16, 1), (16, 2), (16, 3), (16, 4), (16, 5), (16, 6), (16, 7), (16, 8), (16, 9), (16, 10), (16, 11), (16, 12), (16, 13), (16, 14), (16, 15), (16, 16), (16, 17), (16, 18), (16, 19), (17, 0), (18, 0), (19, 0), (20, 0), (21, 0), (22, 0), (23, 0), (24, 0), (25, 0), (26, 1), (26, 2), (29, 0), (30, 1), (30, 2), (30, 3), (30, 4), (30, 5), (30, 6), (30, 7), (30, 8), (30, 9), (30, 10), (30, 11), (30, 12), (30, 13), (30, 14), (30, 15), (30, 16), (30, 17), (30, 18), (30, 19), (31, 0), (32, 0), (33, 0), (34, 0), (35, 0), (36, 0), (37, 0), (38, 0), (39, 0), (40, 1), (40, 2), (43, 0), (44, 0), (45, 1), (45, 2), (46, 0), (47, 1), (47, 2), (47, 3), (47, 4), (47, 5), (47, 6), (47, 7), (47, 8), (47, 9), (47, 10), (47, 11), (50, 1), (50, 2), (50, 3), (53, 1), (53, 2), (53, 3), (53, 4), (53, 5), (53, 6), (54, 0), (55, 0), (56, 0), (57, 0), (58, 0), (59, 1), (59, 2), (59, 3), (59, 4), (59, 5), (59, 6), (59, 7), (60, 0), (64, 0), (65, 1), (65, 2), (65, 3), (65, 4), (65, 5), (65, 6), (67, 0), (68, 0), (70, 1), (70, 2), (71, 1), (71, 2), (71, 3), (71, 4), (71, 5), (74, 1), (74, 2), (74, 3), (77, 1), (77, 2), (77, 3), (77, 4), (77, 5), (77, 6), (77, 7), (77, 8), (77, 9), (77, 10), (77, 11), (77, 12), (77, 13), (77, 14), (77, 15), (77, 16), (77, 20), (77, 25), (77, 26), (77, 27), (77, 28), (77, 29), (77, 30), (77, 31), (77, 32), (77, 36), (77, 37), (77, 38), (77, 39), (77, 40), (77, 41), (78, 0), (79, 0), (80, 0), (81, 0), (82, 0), (83, 0), (84, 0), (85, 0), (86, 0), (88, 0), (89, 0), (90, 0), (91, 0)]
def ck_fI : ck_I := ((-2147483648), 2147483647, 0, (0, 0, 0))
def ck_csP : List ck_C := [ck_c16, ck_c17]
/-! case 1454 -/
theorem ck_d18 : decode code 18 = .ok (.iload_n 3, 1) := by decide +kernel
theorem ck_d19 : decode code 19 = .ok (.aload_n 0, 1) := by decide +kernel
theorem ck_d20 : decode code 20 = .ok (.arraylength, 1) := by decide +kernel
theorem ck_d21 : decode code 21 = .ok (.bipush 7, 2) := by decide +kernel
theorem ck_d23 : decode code 23 = .ok (.isub, 1) := by decide +kernel
theorem ck_d24 : decode code 24 = .ok (.if_icmp .gt 1436, 3) := by decide +kernel
theorem ck_d1454 : decode code 1454 = .ok (.iinc 3 7, 3) := by decide +kernel
theorem ck_d1457 : decode code 1457 = .ok (.goto (-1439), 3) := by decide +kernel
theorem ck_d1460 : decode code 1460 = .ok (.iconst 1, 1) := by decide +kernel
theorem ck_d1461 : decode code 1461 = .ok (.ireturn, 1) := by decide +kernel
def ck_dt1454 : List (Nat × Instr × Nat) := [(18, (.iload_n 3, 1)), (19, (.aload_n 0, 1)), (20, (.arraylength, 1)), (21, (.bipush 7, 2)), (23, (.isub, 1)), (24, (.if_icmp .gt 1436, 3)), (1454, (.iinc 3 7, 3)), (1457, (.goto (-1439), 3)), (1460, (.iconst 1, 1)), (1461, (.ireturn, 1))]
theorem ck_dk1454 : ∀ q ∈ ck_dt1454, decode code q.1 = .ok q.2 := (ck_cons ck_d18 (ck_cons ck_d19 (ck_cons ck_d20 (ck_cons ck_d21 (ck_cons ck_d23 (ck_cons ck_d24 (ck_cons ck_d1454 (ck_cons ck_d1457 (ck_cons ck_d1460 (ck_cons ck_d1461 ck_nil))))))))))
def ck_cs1454 : List ck_C := []
def ck_sF1454 : ck_S := (List.replicate 7 ck_fI, [(0, .inr (2, 900)), (1, .inr (0, 0)), (2, .inr (0, 77)), (3, .inl (0, 0, 0))], [], [], 101, 101, 109468)
set_option maxRecDepth 100000 in
theorem ck_lc1454 : ck_run (ck_stepD ck_dt1454 vwCl ck_mts ck_sh ck_T12 ck_cs1454 ck_wrL 900 7) [] [] [] 600 [] 7 1454 ck_sF1454 = true := by decide +kernel
/-! case 216 -/
theorem ck_d216 : decode code 216 = .ok (.aload_n 1, 1) := by decide +kernel
theorem ck_d217 : decode code 217 = .ok (.aload_n 0, 1) := by decide +kernel
theorem ck_d218 : decode code 218 = .ok (.iload_n 3, 1) := by decide +kernel
theorem ck_d219 : decode code 219 = .ok (.iconst 1, 1) := by decide +kernel
theorem ck_d220 : decode code 220 = .ok (.iadd, 1) := by decide +kernel
theorem ck_d221 : decode code 221 = .ok (.iaload, 1) := by decide +kernel
theorem ck_d222 : decode code 222 = .ok (.aload_n 0, 1) := by decide +kernel
theorem ck_d223 : decode code 223 = .ok (.iload_n 3, 1) := by decide +kernel
theorem ck_d224 : decode code 224 = .ok (.iconst 2, 1) := by decide +kernel
theorem ck_d225 : decode code 225 = .ok (.iadd, 1) := by decide +kernel
theorem ck_d226 : decode code 226 = .ok (.iaload, 1) := by decide +kernel
theorem ck_d227 : decode code 227 = .ok (.aload_n 0, 1) := by decide +kernel
theorem ck_d228 : decode code 228 = .ok (.iload_n 3, 1) := by decide +kernel
theorem ck_d229 : decode code 229 = .ok (.iconst 3, 1) := by decide +kernel
theorem ck_d230 : decode code 230 = .ok (.iadd, 1) := by decide +kernel
theorem ck_d231 : decode code 231 = .ok (.iaload, 1) := by decide +kernel
theorem ck_d232 : decode code 232 = .ok (.invokevirtual 13, 3) := by decide +kernel
theorem ck_d235 : decode code 235 = .ok (.aload_n 2, 1) := by decide +kernel
theorem ck_d236 : decode code 236 = .ok (.aload_n 0, 1) := by decide +kernel
theorem ck_d237 : decode code 237 = .ok (.iload_n 3, 1) := by decide +kernel
theorem ck_d238 : decode code 238 = .ok (.iconst 1, 1) := by decide +kernel
theorem ck_d239 : decode code 239 = .ok (.iadd, 1) := by decide +kernel
theorem ck_d240 : decode code 240 = .ok (.iaload, 1) := by decide +kernel
theorem ck_d241 : decode code 241 = .ok (.aload_n 0, 1) := by decide +kernel
theorem ck_d242 : decode code 242 = .ok (.iload_n 3, 1) := by decide +kernel
theorem ck_d243 : decode code 243 = .ok (.iconst 2, 1) := by decide +kernel
theorem ck_d244 : decode code 244 = .ok (.iadd, 1) := by decide +kernel
theorem ck_d245 : decode code 245 = .ok (.iaload, 1) := by decide +kernel
theorem ck_d246 : decode code 246 = .ok (.aload_n 0, 1) := by decide +kernel
theorem ck_d247 : decode code 247 = .ok (.iload_n 3, 1) := by decide +kernel
theorem ck_d248 : decode code 248 = .ok (.iconst 3, 1) := by decide +kernel
theorem ck_d249 : decode code 249 = .ok (.iadd, 1) := by decide +kernel
theorem ck_d250 : decode code 250 = .ok (.iaload, 1) := by decide +kernel
theorem ck_d251 : decode code 251 = .ok (.invokevirtual 17, 3) := by decide +kernel
theorem ck_d254 : decode code 254 = .ok (.if_icmp .eq 1200, 3) := by decide +kernel
def ck_dt216 : List (Nat × Instr × Nat) := [(18, (.iload_n 3, 1)), (19, (.aload_n 0, 1)), (20, (.arraylength, 1)), (21, (.bipush 7, 2)), (23, (.isub, 1)), (24, (.if_icmp .gt 1436, 3)), (1454, (.iinc 3 7, 3)), (1457, (.goto (-1439), 3)), (1460, (.iconst 1, 1)), (1461, (.ireturn, 1)), (216, (.aload_n 1, 1)), (217, (.aload_n 0, 1)), (218, (.iload_n 3, 1)), (219, (.iconst 1, 1)), (220, (.iadd, 1)), (221, (.iaload, 1)), (222, (.aload_n 0, 1)), (223, (.iload_n 3, 1)), (224, (.iconst 2, 1)), (225, (.iadd, 1)), (226, (.iaload, 1)), (227, (.aload_n 0, 1)), (228, (.iload_n 3, 1)), (229, (.iconst 3, 1)), (230, (.iadd, 1)), (231, (.iaload, 1)), (232, (.invokevirtual 13, 3)), (235, (.aload_n 2, 1)), (236, (.aload_n 0, 1)), (237, (.iload_n 3, 1)), (238, (.iconst 1, 1)), (239, (.iadd, 1)), (240, (.iaload, 1)), (241, (.aload_n 0, 1)), (242, (.iload_n 3, 1)), (243, (.iconst 2, 1)), (244, (.iadd, 1)), (245, (.iaload, 1)), (246, (.aload_n 0, 1)), (247, (.iload_n 3, 1)), (248, (.iconst 3, 1)), (249, (.iadd, 1)), (250, (.iaload, 1)), (251, (.invokevirtual 17, 3)), (254, (.if_icmp .eq 1200, 3))]
theorem ck_dk216 : ∀ q ∈ ck_dt216, decode code q.1 = .ok q.2 := (ck_cons ck_d18 (ck_cons ck_d19 (ck_cons ck_d20 (ck_cons ck_d21 (ck_cons ck_d23 (ck_cons ck_d24 (ck_cons ck_d1454 (ck_cons ck_d1457 (ck_cons ck_d1460 (ck_cons ck_d1461 (ck_cons ck_d216 (ck_cons ck_d217 (ck_cons ck_d218 (ck_cons ck_d219 (ck_cons ck_d220 (ck_cons ck_d221 (ck_cons ck_d222 (ck_cons ck_d223 (ck_cons ck_d224 (ck_cons ck_d225 (ck_cons ck_d226 (ck_cons ck_d227 (ck_cons ck_d228 (ck_cons ck_d229 (ck_cons ck_d230 (ck_cons ck_d231 (ck_cons ck_d232 (ck_cons ck_d235 (ck_cons ck_d236 (ck_cons ck_d237 (ck_cons ck_d238 (ck_cons ck_d239 (ck_cons ck_d240 (ck_cons ck_d241 (ck_cons ck_d242 (ck_cons ck_d243 (ck_cons ck_d244 (ck_cons ck_d245 (ck_cons ck_d246 (ck_cons ck_d247 (ck_cons ck_d248 (ck_cons ck_d249 (ck_cons ck_d250 (ck_cons ck_d251 (ck_cons ck_d254 ck_nil)))))))))))))))))))))))))))))))))))))))))))))
def ck_cs216 : List ck_C := [ck_c24, ck_c27, ck_c29, ck_c32, ck_c34, ck_c37, ck_c39, ck_c43]
def ck_sF216 : ck_S := (List.replicate 7 ck_fI, [(0, .inr (2, 900)), (1, .inr (0, 0)), (2, .inr (0, 77)), (3, .inl (0, 0, 0))], [], [((0, 1), .inr (0, 1)), ((1, 1), .inl (0, 0)), ((1, 2), .inr (0, 2)), ((1, 3), .inr (0, 3)), ((1, 4), .inr (0, 4)), ((2, 0), .inl (0, 0)), ((3, 0), .inl (0, 0)), ((4, 0), .inl (0, 0)), ((77, 2), .inr (0, 78)), ((78, 0), .inl ((-1), 15)), ((78, 193), .inl (0, 0)), ((78, 194), .inl (0, 0)), ((78, 195), .inl (0, 0)), ((78, 196), .inl (0, 0)), ((78, 197), .inl (0, 0)), ((78, 198), .inl (0, 0)), ((78, 199), .inl (0, 0)), ((78, 200), .inl (0, 0)), ((78, 201), .inl (0, 0)), ((78, 202), .inl (0, 0)), ((78, 203), .inl (0, 0)), ((78, 204), .inl (0, 0)), ((78, 1293), .inl (0, 0)), ((78, 1294), .inl (0, 0)), ((78, 1295), .inl (0, 0))], 101, 101, 109468)
set_option maxRecDepth 100000 in
theorem ck_lc216 : ck_run (ck_stepD ck_dt216 vwCl ck_mts ck_sh ck_T12 ck_cs216 ck_wrL 900 7) [] [] [] 600 [] 7 216 ck_sF216 = true := by decide +kernel
/-! case 259 -/
theorem ck_d259 : decode code 259 = .ok (.aload_n 1, 1) := by decide +kernel
theorem ck_d260 : decode code 260 = .ok (.aload_n 0, 1) := by decide +kernel
theorem ck_d261 : decode code 261 = .ok (.iload_n 3, 1) := by decide +kernel
theorem ck_d262 : decode code 262 = .ok (.iconst 1, 1) := by decide +kernel
theorem ck_d263 : decode code 263 = .ok (.iadd, 1) := by decide +kernel
theorem ck_d264 : decode code 264 = .ok (.iaload, 1) := by decide +kernel
theorem ck_d265 : decode code 265 = .ok (.aload_n 0, 1) := by decide +kernel
theorem ck_d266 : decode code 266 = .ok (.iload_n 3, 1) := by decide +kernel
theorem ck_d267 : decode code 267 = .ok (.iconst 2, 1) := by decide +kernel
theorem ck_d268 : decode code 268 = .ok (.iadd, 1) := by decide +kernel
theorem ck_d269 : decode code 269 = .ok (.iaload, 1) := by decide +kernel
theorem ck_d270 : decode code 270 = .ok (.aload_n 0, 1) := by decide +kernel
theorem ck_d271 : decode code 271 = .ok (.iload_n 3, 1) := by decide +kernel
theorem ck_d272 : decode code 272 = .ok (.iconst 3, 1) := by decide +kernel
theorem ck_d273 : decode code 273 = .ok (.iadd, 1) := by decide +kernel
theorem ck_d274 : decode code 274 = .ok (.iaload, 1) := by decide +kernel
theorem ck_d275 : decode code 275 = .ok (.aload_n 0, 1) := by decide +kernel
theorem ck_d276 : decode code 276 = .ok (.iload_n 3, 1) := by decide +kernel
theorem ck_d277 : decode code 277 = .ok (.iconst 4, 1) := by decide +kernel
theorem ck_d278 : decode code 278 = .ok (.iadd, 1) := by decide +kernel
theorem ck_d279 : decode code 279 = .ok (.iaload, 1) := by decide +kernel
theorem ck_d280 : decode code 280 = .ok (.invokevirtual 18, 3) := by decide +kernel
theorem ck_d283 : decode code 283 = .ok (.aload_n 2, 1) := by decide +kernel
theorem ck_d284 : decode code 284 = .ok (.aload_n 0, 1) := by decide +kernel
theorem ck_d285 : decode code 285 = .ok (.iload_n 3, 1) := by decide +kernel
theorem ck_d286 : decode code 286 = .ok (.iconst 1, 1) := by decide +kernel
theorem ck_d287 : decode code 287 = .ok (.iadd, 1) := by decide +kernel
theorem ck_d288 : decode code 288 = .ok (.iaload, 1) := by decide +kernel
theorem ck_d289 : decode code 289 = .ok (.aload_n 0, 1) := by decide +kernel
theorem ck_d290 : decode code 290 = .ok (.iload_n 3, 1) := by decide +kernel
theorem ck_d291 : decode code 291 = .ok (.iconst 2, 1) := by decide +kernel
theorem ck_d292 : decode code 292 = .ok (.iadd, 1) := by decide +kernel
theorem ck_d293 : decode code 293 = .ok (.iaload, 1) := by decide +kernel
theorem ck_d294 : decode code 294 = .ok (.aload_n 0, 1) := by decide +kernel
theorem ck_d295 : decode code 295 = .ok (.iload_n 3, 1) := by decide +kernel
theorem ck_d296 : decode code 296 = .ok (.iconst 3, 1) := by decide +kernel
theorem ck_d297 : decode code 297 = .ok (.iadd, 1) := by decide +kernel
theorem ck_d298 : decode code 298 = .ok (.iaload, 1) := by decide +kernel
theorem ck_d299 : decode code 299 = .ok (.aload_n 0, 1) := by decide +kernel
theorem ck_d300 : decode code 300 = .ok (.iload_n 3, 1) := by decide +kernel
theorem ck_d301 : decode code 301 = .ok (.iconst 4, 1) := by decide +kernel
theorem ck_d302 : decode code 302 = .ok (.iadd, 1) := by decide +kernel
theorem ck_d303 : decode code 303 = .ok (.iaload, 1) := by decide +kernel
theorem ck_d304 : decode code 304 = .ok (.invokevirtual 22, 3) := by decide +kernel
theorem ck_d307 : decode code 307 = .ok (.if_icmp .eq 1147, 3) := by decide +kernel
def ck_dt259 : List (Nat × Instr × Nat) := [(18, (.iload_n 3, 1)), (19, (.aload_n 0, 1)), (20, (.arraylength, 1)), (21, (.bipush 7, 2)), (23, (.isub, 1)), (24, (.if_icmp .gt 1436, 3)), (1454, (.iinc 3 7, 3)), (1457, (.goto (-1439), 3)), (1460, (.iconst 1, 1)), (1461, (.ireturn, 1)), (259, (.aload_n 1, 1)), (260, (.aload_n 0, 1)), (261, (.iload_n 3, 1)), (262, (.iconst 1, 1)), (263, (.iadd, 1)), (264, (.iaload, 1)), (265, (.aload_n 0, 1)), (266, (.iload_n 3, 1)), (267, (.iconst 2, 1)), (268, (.iadd, 1)), (269, (.iaload, 1)), (270, (.aload_n 0, 1)), (271, (.iload_n 3, 1)), (272, (.iconst 3, 1)), (273, (.iadd, 1)), (274, (.iaload, 1)), (275, (.aload_n 0, 1)), (276, (.iload_n 3, 1)), (277, (.iconst 4, 1)), (278, (.iadd, 1)), (279, (.iaload, 1)), (280, (.invokevirtual 18, 3)), (283, (.aload_n 2, 1)), (284, (.aload_n 0, 1)), (285, (.iload_n 3, 1)), (286, (.iconst 1, 1)), (287, (.iadd, 1)), (288, (.iaload, 1)), (289, (.aload_n 0, 1)), (290, (.iload_n 3, 1)), (291, (.iconst 2, 1)), (292, (.iadd, 1)), (293, (.iaload, 1)), (294, (.aload_n 0, 1)), (295, (.iload_n 3, 1)), (296, (.iconst 3, 1)), (297, (.iadd, 1)), (298, (.iaload, 1)), (299, (.aload_n 0, 1)), (300, (.iload_n 3, 1)), (301, (.iconst 4, 1)), (302, (.iadd, 1)), (303, (.iaload, 1)), (304, (.invokevirtual 22, 3)), (307, (.if_icmp .eq 1147, 3))]
theorem ck_dk259 : ∀ q ∈ ck_dt259, decode code q.1 = .ok q.2 := (ck_cons ck_d18 (ck_cons ck_d19 (ck_cons ck_d20 (ck_cons ck_d21 (ck_cons ck_d23 (ck_cons ck_d24 (ck_cons ck_d1454 (ck_cons ck_d1457 (ck_cons ck_d1460 (ck_cons ck_d1461 (ck_cons ck_d259 (ck_cons ck_d260 (ck_cons ck_d261 (ck_cons ck_d262 (ck_cons ck_d263 (ck_cons ck_d264 (ck_cons ck_d265 (ck_cons ck_d266 (ck_cons ck_d267 (ck_cons ck_d268 (ck_cons ck_d269 (ck_cons ck_d270 (ck_cons ck_d271 (ck_cons ck_d272 (ck_cons ck_d273 (ck_cons ck_d274 (ck_cons ck_d275 (ck_cons ck_d276 (ck_cons ck_d277 (ck_cons ck_d278 (ck_cons ck_d279 (ck_cons ck_d280 (ck_cons ck_d283 (ck_cons ck_d284 (ck_cons ck_d285 (ck_cons ck_d286 (ck_cons ck_d287 (ck_cons ck_d288 (ck_cons ck_d289 (ck_cons ck_d290 (ck_cons ck_d291 (ck_cons ck_d292 (ck_cons ck_d293 (ck_cons ck_d294 (ck_cons ck_d295 (ck_cons ck_d296 (ck_cons ck_d297 (ck_cons ck_d298 (ck_cons ck_d299 (ck_cons ck_d300 (ck_cons ck_d301 (ck_cons ck_d302 (ck_cons ck_d303 (ck_cons ck_d304 (ck_cons ck_d307 ck_nil)))))))))))))))))))))))))))))))))))))))))))))))))))))))
def ck_cs259 : List ck_C := [ck_c51, ck_c53, ck_c55, ck_c58, ck_c60, ck_c63, ck_c65, ck_c70, ck_c73]
def ck_sF259 : ck_S := (List.replicate 7 ck_fI, [(0, .inr (2, 900)), (1, .inr (0, 0)), (2, .inr (0, 77)), (3, .inl (0, 0, 0))], [], [((0, 1), .inr (0, 1)), ((1, 1), .inl (0, 0)), ((77, 2), .inr (0, 78)), ((78, 1293), .inl (0, 0))], 101, 101, 109468)
set_option maxRecDepth 100000 in
theorem ck_lc259 : ck_run (ck_stepD ck_dt259 vwCl ck_mts ck_sh ck_T12 ck_cs259 ck_wrL 900 7) [] [] [] 600 [] 7 259 ck_sF259 = true := by decide +kernel
/-! case 312 -/
theorem ck_d312 : decode code 312 = .ok (.aload_n 1, 1) := by decide +kernel
theorem ck_d313 : decode code 313 = .ok (.aload_n 0, 1) := by decide +kernel
theorem ck_d314 : decode code 314 = .ok (.iload_n 3, 1) := by decide +kernel
theorem ck_d315 : decode code 315 = .ok (.iconst 1, 1) := by decide +kernel
theorem ck_d316 : decode code 316 = .ok (.iadd, 1) := by decide +kernel
theorem ck_d317 : decode code 317 = .ok (.iaload, 1) := by decide +kernel
theorem ck_d318 : decode code 318 = .ok (.aload_n 0, 1) := by decide +kernel
theorem ck_d319 : decode code 319 = .ok (.iload_n 3, 1) := by decide +kernel
theorem ck_d320 : decode code 320 = .ok (.iconst 2, 1) := by decide +kernel
theorem ck_d321 : decode code 321 = .ok (.iadd, 1) := by decide +kernel
theorem ck_d322 : decode code 322 = .ok (.iaload, 1) := by decide +kernel
theorem ck_d323 : decode code 323 = .ok (.invokevirtual 23, 3) := by decide +kernel
theorem ck_d326 : decode code 326 = .ok (.aload_n 2, 1) := by decide +kernel
theorem ck_d327 : decode code 327 = .ok (.aload_n 0, 1) := by decide +kernel
theorem ck_d328 : decode code 328 = .ok (.iload_n 3, 1) := by decide +kernel
theorem ck_d329 : decode code 329 = .ok (.iconst 1, 1) := by decide +kernel
theorem ck_d330 : decode code 330 = .ok (.iadd, 1) := by decide +kernel
theorem ck_d331 : decode code 331 = .ok (.iaload, 1) := by decide +kernel
theorem ck_d332 : decode code 332 = .ok (.aload_n 0, 1) := by decide +kernel
theorem ck_d333 : decode code 333 = .ok (.iload_n 3, 1) := by decide +kernel
theorem ck_d334 : decode code 334 = .ok (.iconst 2, 1) := by decide +kernel
theorem ck_d335 : decode code 335 = .ok (.iadd, 1) := by decide +kernel
theorem ck_d336 : decode code 336 = .ok (.iaload, 1) := by decide +kernel
theorem ck_d337 : decode code 337 = .ok (.invokevirtual 27, 3) := by decide +kernel
theorem ck_d340 : decode code 340 = .ok (.if_icmp .eq 1114, 3) := by decide +kernel
def ck_dt312 : List (Nat × Instr × Nat) := [(18, (.iload_n 3, 1)), (19, (.aload_n 0, 1)), (20, (.arraylength, 1)), (21, (.bipush 7, 2)), (23, (.isub, 1)), (24, (.if_icmp .gt 1436, 3)), (1454, (.iinc 3 7, 3)), (1457, (.goto (-1439), 3)), (1460, (.iconst 1, 1)), (1461, (.ireturn, 1)), (312, (.aload_n 1, 1)), (313, (.aload_n 0, 1)), (314, (.iload_n 3, 1)), (315, (.iconst 1, 1)), (316, (.iadd, 1)), (317, (.iaload, 1)), (318, (.aload_n 0, 1)), (319, (.iload_n 3, 1)), (320, (.iconst 2, 1)), (321, (.iadd, 1)), (322, (.iaload, 1)), (323, (.invokevirtual 23, 3)), (326, (.aload_n 2, 1)), (327, (.aload_n 0, 1)), (328, (.iload_n 3, 1)), (329, (.iconst 1, 1)), (330, (.iadd, 1)), (331, (.iaload, 1)), (332, (.aload_n 0, 1)), (333, (.iload_n 3, 1)), (334, (.iconst 2, 1)), (335, (.iadd, 1)), (336, (.iaload, 1)), (337, (.invokevirtual 27, 3)), (340, (.if_icmp .eq 1114, 3))]
theorem ck_dk312 : ∀ q ∈ ck_dt312, decode code q.1 = .ok q.2 := (ck_cons ck_d18 (ck_cons ck_d19 (ck_cons ck_d20 (ck_cons ck_d21 (ck_cons ck_d23 (ck_cons ck_d24 (ck_cons ck_d1454 (ck_cons ck_d1457 (ck_cons ck_d1460 (ck_cons ck_d1461 (ck_cons ck_d312 (ck_cons ck_d313 (ck_cons ck_d314 (ck_cons ck_d315 (ck_cons ck_d316 (ck_cons ck_d317 (ck_cons ck_d318 (ck_cons ck_d319 (ck_cons ck_d320 (ck_cons ck_d321 (ck_cons ck_d322 (ck_cons ck_d323 (ck_cons ck_d326 (ck_cons ck_d327 (ck_cons ck_d328 (ck_cons ck_d329 (ck_cons ck_d330 (ck_cons ck_d331 (ck_cons ck_d332 (ck_cons ck_d333 (ck_cons ck_d334 (ck_cons ck_d335 (ck_cons ck_d336 (ck_cons ck_d337 (ck_cons ck_d340 ck_nil)))))))))))))))))))))))))))))))))))
def ck_cs312 : List ck_C := [ck_c74, ck_c75, ck_c76, ck_c77, ck_c78]
def ck_sF312 : ck_S := (List.replicate 7 ck_fI, [(0, .inr (2, 900)), (1, .inr (0, 0)), (2, .inr (0, 77)), (3, .inl (0, 0, 0))], [], [((0, 1), .inr (0, 1)), ((1, 1), .inl (0, 0)), ((77, 2), .inr (0, 78)), ((78, 1293), .inl (0, 0))], 101, 101, 109468)
set_option maxRecDepth 100000 in
theorem ck_lc312 : ck_run (ck_stepD ck_dt312 vwCl ck_mts ck_sh ck_T12 ck_cs312 ck_wrL 900 7) [] [] [] 600 [] 7 312 ck_sF312 = true := by decide +kernel
