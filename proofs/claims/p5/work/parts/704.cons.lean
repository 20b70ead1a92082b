/-- SLModel.many -/
def ck_c160 : ab_C := (179, 101, [.inr (0, 77)], [((78, 1292, 1, 1), .inl (0, 12)), ((77, 1, 1, 1), .inr (0, 78))], [], [(some (.inl (0, 0)), [], [((78, 1292, 1, 1), .inl (0, 0))], 101), (some (.inl (1, 1)), [], [((78, 1292, 1, 1), .inl (1, 1))], 101), (some (.inl (2, 2)), [], [((78, 1292, 1, 1), .inl (2, 2))], 101), (some (.inl (3, 3)), [], [((78, 1292, 1, 1), .inl (3, 3))], 101), (some (.inl (4, 4)), [], [((78, 1292, 1, 1), .inl (4, 4))], 101), (some (.inl (5, 5)), [], [((78, 1292, 1, 1), .inl (5, 5))], 101), (some (.inl (6, 6)), [], [((78, 1292, 1, 1), .inl (6, 6))], 101), (some (.inl (7, 7)), [], [((78, 1292, 1, 1), .inl (7, 7))], 101), (some (.inl (8, 8)), [], [((78, 1292, 1, 1), .inl (8, 8))], 101), (some (.inl (9, 9)), [], [((78, 1292, 1, 1), .inl (9, 9))], 101), (some (.inl (10, 10)), [], [((78, 1292, 1, 1), .inl (10, 10))], 101), (some (.inl (11, 11)), [], [((78, 1292, 1, 1), .inl (11, 11))], 101), (some (.inl (12, 12)), [], [((78, 1292, 1, 1), .inl (12, 12))], 101)], 0, 0, 0, 0)
def ck_h160 : List ab_Hd := []
set_option maxRecDepth 100000 in
theorem ck_k160 (l : Launch) (D : va_G) (st : Nat → Nat) : ck_Mt gk_G l D st ck_c160 := ab_sound (tr := ck_tr2) (T := ck_T13) (cs := []) (hs := ck_h160) (sp := [(8, 0, 0), (8, 0, 1), (8, 0, 2), (8, 0, 3), (8, 0, 4), (8, 0, 5), (8, 0, 6), (8, 0, 7), (8, 0, 8), (8, 0, 9), (8, 0, 10), (8, 0, 11)]) (fuel := 41) l ck_TSgood ck_okCl ck_okDt (M0 := ck_m179) rfl ck_okT13 ck_nil (by decide +kernel)
/-- SLModel.good -/
def ck_c161 : ab_C := (176, 101, [.inr (0, 77), .inl (0, 0)], [], [(77, 0, 1, 1)], [(some (.inl (0, 0)), [(0, 0)], [((77, 0, 1, 1), .inl (0, 0))], 101)], 0, 0, 0, 0)
def ck_h161 : List ab_Hd := []
set_option maxRecDepth 100000 in
theorem ck_k161 (l : Launch) (D : va_G) (st : Nat → Nat) : ck_Mt gk_G l D st ck_c161 := ab_sound (tr := ck_tr2) (T := ck_T13) (cs := []) (hs := ck_h161) (sp := []) (fuel := 29) l ck_TSgood ck_okCl ck_okDt (M0 := ck_m176) rfl ck_okT13 ck_nil (by decide +kernel)
/-- SLModel.good -/
def ck_c162 : ab_C := (176, 101, [.inr (0, 77), .inl (1, 1)], [], [(77, 0, 1, 1)], [(some (.inl (1, 1)), [(1, 1)], [((77, 0, 1, 1), .inl (0, 0))], 101)], 0, 0, 0, 0)
def ck_h162 : List ab_Hd := []
set_option maxRecDepth 100000 in
theorem ck_k162 (l : Launch) (D : va_G) (st : Nat → Nat) : ck_Mt gk_G l D st ck_c162 := ab_sound (tr := ck_tr2) (T := ck_T13) (cs := []) (hs := ck_h162) (sp := []) (fuel := 29) l ck_TSgood ck_okCl ck_okDt (M0 := ck_m176) rfl ck_okT13 ck_nil (by decide +kernel)
/-- SLModel.good -/
def ck_c163 : ab_C := (176, 101, [.inr (0, 77), .inl (2, 2)], [], [(77, 0, 1, 1)], [(some (.inl (2, 2)), [(2, 2)], [((77, 0, 1, 1), .inl (0, 0))], 101)], 0, 0, 0, 0)
def ck_h163 : List ab_Hd := []
set_option maxRecDepth 100000 in
theorem ck_k163 (l : Launch) (D : va_G) (st : Nat → Nat) : ck_Mt gk_G l D st ck_c163 := ab_sound (tr := ck_tr2) (T := ck_T13) (cs := []) (hs := ck_h163) (sp := []) (fuel := 29) l ck_TSgood ck_okCl ck_okDt (M0 := ck_m176) rfl ck_okT13 ck_nil (by decide +kernel)
/-- SLModel.good -/
def ck_c164 : ab_C := (176, 101, [.inr (0, 77), .inl (3, 3)], [], [(77, 0, 1, 1)], [(some (.inl (3, 3)), [(3, 3)], [((77, 0, 1, 1), .inl (0, 0))], 101)], 0, 0, 0, 0)
def ck_h164 : List ab_Hd := []
set_option maxRecDepth 100000 in
theorem ck_k164 (l : Launch) (D : va_G) (st : Nat → Nat) : ck_Mt gk_G l D st ck_c164 := ab_sound (tr := ck_tr2) (T := ck_T13) (cs := []) (hs := ck_h164) (sp := []) (fuel := 29) l ck_TSgood ck_okCl ck_okDt (M0 := ck_m176) rfl ck_okT13 ck_nil (by decide +kernel)
/-- SLModel.good -/
def ck_c165 : ab_C := (176, 101, [.inr (0, 77), .inl (4, 4)], [], [(77, 0, 1, 1)], [(some (.inl (4, 4)), [(4, 4)], [((77, 0, 1, 1), .inl (0, 0))], 101)], 0, 0, 0, 0)
def ck_h165 : List ab_Hd := []
set_option maxRecDepth 100000 in
theorem ck_k165 (l : Launch) (D : va_G) (st : Nat → Nat) : ck_Mt gk_G l D st ck_c165 := ab_sound (tr := ck_tr2) (T := ck_T13) (cs := []) (hs := ck_h165) (sp := []) (fuel := 29) l ck_TSgood ck_okCl ck_okDt (M0 := ck_m176) rfl ck_okT13 ck_nil (by decide +kernel)
/-- SLModel.good -/
def ck_c166 : ab_C := (176, 101, [.inr (0, 77), .inl (5, 5)], [], [(77, 0, 1, 1)], [(some (.inl (5, 5)), [(5, 5)], [((77, 0, 1, 1), .inl (0, 0))], 101)], 0, 0, 0, 0)
def ck_h166 : List ab_Hd := []
set_option maxRecDepth 100000 in
theorem ck_k166 (l : Launch) (D : va_G) (st : Nat → Nat) : ck_Mt gk_G l D st ck_c166 := ab_sound (tr := ck_tr2) (T := ck_T13) (cs := []) (hs := ck_h166) (sp := []) (fuel := 29) l ck_TSgood ck_okCl ck_okDt (M0 := ck_m176) rfl ck_okT13 ck_nil (by decide +kernel)
/-- SLModel.good -/
def ck_c167 : ab_C := (176, 101, [.inr (0, 77), .inl (6, 6)], [], [(77, 0, 1, 1)], [(some (.inl (6, 6)), [(6, 6)], [((77, 0, 1, 1), .inl (0, 0))], 101)], 0, 0, 0, 0)
def ck_h167 : List ab_Hd := []
set_option maxRecDepth 100000 in
theorem ck_k167 (l : Launch) (D : va_G) (st : Nat → Nat) : ck_Mt gk_G l D st ck_c167 := ab_sound (tr := ck_tr2) (T := ck_T13) (cs := []) (hs := ck_h167) (sp := []) (fuel := 29) l ck_TSgood ck_okCl ck_okDt (M0 := ck_m176) rfl ck_okT13 ck_nil (by decide +kernel)
/-- SLModel.good -/
def ck_c168 : ab_C := (176, 101, [.inr (0, 77), .inl (7, 7)], [], [(77, 0, 1, 1)], [(some (.inl (7, 7)), [(7, 7)], [((77, 0, 1, 1), .inl (0, 0))], 101)], 0, 0, 0, 0)
def ck_h168 : List ab_Hd := []
set_option maxRecDepth 100000 in
theorem ck_k168 (l : Launch) (D : va_G) (st : Nat → Nat) : ck_Mt gk_G l D st ck_c168 := ab_sound (tr := ck_tr2) (T := ck_T13) (cs := []) (hs := ck_h168) (sp := []) (fuel := 29) l ck_TSgood ck_okCl ck_okDt (M0 := ck_m176) rfl ck_okT13 ck_nil (by decide +kernel)
/-- SLModel.good -/
def ck_c169 : ab_C := (176, 101, [.inr (0, 77), .inl (8, 8)], [], [(77, 0, 1, 1)], [(some (.inl (8, 8)), [(8, 8)], [((77, 0, 1, 1), .inl (0, 0))], 101)], 0, 0, 0, 0)
def ck_h169 : List ab_Hd := []
set_option maxRecDepth 100000 in
theorem ck_k169 (l : Launch) (D : va_G) (st : Nat → Nat) : ck_Mt gk_G l D st ck_c169 := ab_sound (tr := ck_tr2) (T := ck_T13) (cs := []) (hs := ck_h169) (sp := []) (fuel := 29) l ck_TSgood ck_okCl ck_okDt (M0 := ck_m176) rfl ck_okT13 ck_nil (by decide +kernel)
/-- SLModel.good -/
def ck_c170 : ab_C := (176, 101, [.inr (0, 77), .inl (9, 9)], [], [(77, 0, 1, 1)], [(some (.inl (9, 9)), [(9, 9)], [((77, 0, 1, 1), .inl (0, 0))], 101)], 0, 0, 0, 0)
def ck_h170 : List ab_Hd := []
set_option maxRecDepth 100000 in
theorem ck_k170 (l : Launch) (D : va_G) (st : Nat → Nat) : ck_Mt gk_G l D st ck_c170 := ab_sound (tr := ck_tr2) (T := ck_T13) (cs := []) (hs := ck_h170) (sp := []) (fuel := 29) l ck_TSgood ck_okCl ck_okDt (M0 := ck_m176) rfl ck_okT13 ck_nil (by decide +kernel)
/-- SLModel.good -/
def ck_c171 : ab_C := (176, 101, [.inr (0, 77), .inl (10, 10)], [], [(77, 0, 1, 1)], [(some (.inl (10, 10)), [(10, 10)], [((77, 0, 1, 1), .inl (0, 0))], 101)], 0, 0, 0, 0)
def ck_h171 : List ab_Hd := []
set_option maxRecDepth 100000 in
theorem ck_k171 (l : Launch) (D : va_G) (st : Nat → Nat) : ck_Mt gk_G l D st ck_c171 := ab_sound (tr := ck_tr2) (T := ck_T13) (cs := []) (hs := ck_h171) (sp := []) (fuel := 29) l ck_TSgood ck_okCl ck_okDt (M0 := ck_m176) rfl ck_okT13 ck_nil (by decide +kernel)
/-- SLModel.good -/
def ck_c172 : ab_C := (176, 101, [.inr (0, 77), .inl (11, 11)], [], [(77, 0, 1, 1)], [(some (.inl (11, 11)), [(11, 11)], [((77, 0, 1, 1), .inl (0, 0))], 101)], 0, 0, 0, 0)
def ck_h172 : List ab_Hd := []
set_option maxRecDepth 100000 in
theorem ck_k172 (l : Launch) (D : va_G) (st : Nat → Nat) : ck_Mt gk_G l D st ck_c172 := ab_sound (tr := ck_tr2) (T := ck_T13) (cs := []) (hs := ck_h172) (sp := []) (fuel := 29) l ck_TSgood ck_okCl ck_okDt (M0 := ck_m176) rfl ck_okT13 ck_nil (by decide +kernel)
/-- SLModel.refuses -/
def ck_c173 : ab_C := (175, 101, [.inr (0, 77), .inl ((-5), (-5))], [], [(77, 0, 1, 1)], [(some (.inl ((-5), (-5))), [((-5), (-5))], [((77, 0, 1, 1), .inl ((-5), (-5)))], 101)], 0, 0, 0, 0)
def ck_h173 : List ab_Hd := []
set_option maxRecDepth 100000 in
theorem ck_k173 (l : Launch) (D : va_G) (st : Nat → Nat) : ck_Mt gk_G l D st ck_c173 := ab_sound (tr := ck_tr2) (T := ck_T13) (cs := []) (hs := ck_h173) (sp := []) (fuel := 29) l ck_TSgood ck_okCl ck_okDt (M0 := ck_m175) rfl ck_okT13 ck_nil (by decide +kernel)
/-- SLModel.stone -/
def ck_c174 : ab_C := (178, 101, [.inr (0, 77), .inl ((-2147483648), 2147483647), .inl ((-2147483648), 2147483647), .inl ((-2147483648), 2147483647)], [((78, 0, 16, 12), .inl (0, 11)), ((78, 1, 16, 12), .inl (0, 100)), ((78, 1292, 1, 1), .inl (0, 12)), ((77, 1, 1, 1), .inr (0, 78))], [(77, 0, 1, 1), (78, 0, 1, 16), (78, 0, 16, 12), (78, 1, 16, 12), (78, 2, 16, 12), (78, 16, 1, 16), (78, 32, 1, 16), (78, 48, 1, 16), (78, 64, 1, 16), (78, 80, 1, 16), (78, 96, 1, 16), (78, 112, 1, 16), (78, 128, 1, 16), (78, 144, 1, 16), (78, 160, 1, 16), (78, 176, 1, 16), (78, 1292, 144, 1)], [(some (.inl ((-1), (-1))), [((-2147483648), 2147483647), ((-2147483648), 2147483647), ((-2147483648), 2147483647)], [((77, 0, 1, 1), .inl ((-1), (-1))), ((78, 0, 16, 12), .inl (0, 11)), ((78, 1, 16, 12), .inl (0, 100)), ((78, 1292, 1, 1), .inl (0, 12))], 101), (some (.inl (0, 0)), [(0, 11), (1, 100), (0, 200)], [((78, 1, 1, 1), .inl (1, 100)), ((78, 2, 1, 1), .inl (0, 200)), ((77, 0, 1, 1), .inl (0, 0)), ((78, 1292, 1, 1), .inl (1, 1)), ((78, 0, 16, 12), .inl (0, 11)), ((78, 1, 16, 12), .inl (0, 100))], 101), (some (.inl (1, 1)), [(0, 11), (1, 100), (0, 200)], [((78, 17, 1, 1), .inl (1, 100)), ((78, 18, 1, 1), .inl (0, 200)), ((77, 0, 1, 1), .inl (0, 0)), ((78, 1292, 1, 1), .inl (2, 2)), ((78, 0, 16, 12), .inl (0, 11)), ((78, 1, 16, 12), .inl (0, 100))], 101), (some (.inl (2, 2)), [(0, 11), (1, 100), (0, 200)], [((78, 33, 1, 1), .inl (1, 100)), ((78, 34, 1, 1), .inl (0, 200)), ((77, 0, 1, 1), .inl (0, 0)), ((78, 1292, 1, 1), .inl (3, 3)), ((78, 0, 16, 12), .inl (0, 11)), ((78, 1, 16, 12), .inl (0, 100))], 101), (some (.inl (3, 3)), [(0, 11), (1, 100), (0, 200)], [((78, 49, 1, 1), .inl (1, 100)), ((78, 50, 1, 1), .inl (0, 200)), ((77, 0, 1, 1), .inl (0, 0)), ((78, 1292, 1, 1), .inl (4, 4)), ((78, 0, 16, 12), .inl (0, 11)), ((78, 1, 16, 12), .inl (0, 100))], 101), (some (.inl (4, 4)), [(0, 11), (1, 100), (0, 200)], [((78, 65, 1, 1), .inl (1, 100)), ((78, 66, 1, 1), .inl (0, 200)), ((77, 0, 1, 1), .inl (0, 0)), ((78, 1292, 1, 1), .inl (5, 5)), ((78, 0, 16, 12), .inl (0, 11)), ((78, 1, 16, 12), .inl (0, 100))], 101), (some (.inl (5, 5)), [(0, 11), (1, 100), (0, 200)], [((78, 81, 1, 1), .inl (1, 100)), ((78, 82, 1, 1), .inl (0, 200)), ((77, 0, 1, 1), .inl (0, 0)), ((78, 1292, 1, 1), .inl (6, 6)), ((78, 0, 16, 12), .inl (0, 11)), ((78, 1, 16, 12), .inl (0, 100))], 101), (some (.inl (6, 6)), [(0, 11), (1, 100), (0, 200)], [((78, 97, 1, 1), .inl (1, 100)), ((78, 98, 1, 1), .inl (0, 200)), ((77, 0, 1, 1), .inl (0, 0)), ((78, 1292, 1, 1), .inl (7, 7)), ((78, 0, 16, 12), .inl (0, 11)), ((78, 1, 16, 12), .inl (0, 100))], 101), (some (.inl (7, 7)), [(0, 11), (1, 100), (0, 200)], [((78, 113, 1, 1), .inl (1, 100)), ((78, 114, 1, 1), .inl (0, 200)), ((77, 0, 1, 1), .inl (0, 0)), ((78, 1292, 1, 1), .inl (8, 8)), ((78, 0, 16, 12), .inl (0, 11)), ((78, 1, 16, 12), .inl (0, 100))], 101), (some (.inl (8, 8)), [(0, 11), (1, 100), (0, 200)], [((78, 129, 1, 1), .inl (1, 100)), ((78, 130, 1, 1), .inl (0, 200)), ((77, 0, 1, 1), .inl (0, 0)), ((78, 1292, 1, 1), .inl (9, 9)), ((78, 0, 16, 12), .inl (0, 11)), ((78, 1, 16, 12), .inl (0, 100))], 101), (some (.inl (9, 9)), [(0, 11), (1, 100), (0, 200)], [((78, 145, 1, 1), .inl (1, 100)), ((78, 146, 1, 1), .inl (0, 200)), ((77, 0, 1, 1), .inl (0, 0)), ((78, 1292, 1, 1), .inl (10, 10)), ((78, 0, 16, 12), .inl (0, 11)), ((78, 1, 16, 12), .inl (0, 100))], 101), (some (.inl (10, 10)), [(0, 11), (1, 100), (0, 200)], [((78, 161, 1, 1), .inl (1, 100)), ((78, 162, 1, 1), .inl (0, 200)), ((77, 0, 1, 1), .inl (0, 0)), ((78, 1292, 1, 1), .inl (11, 11)), ((78, 0, 16, 12), .inl (0, 11)), ((78, 1, 16, 12), .inl (0, 100))], 101), (some (.inl (11, 11)), [(0, 11), (1, 100), (0, 200)], [((78, 177, 1, 1), .inl (1, 100)), ((78, 178, 1, 1), .inl (0, 200)), ((77, 0, 1, 1), .inl (0, 0)), ((78, 1292, 1, 1), .inl (12, 12)), ((78, 0, 16, 12), .inl (0, 11)), ((78, 1, 16, 12), .inl (0, 100))], 101), (some (.inl ((-5), (-5))), [(0, 11), (1, 100), (0, 200)], [((77, 0, 1, 1), .inl ((-5), (-5))), ((78, 1292, 1, 1), .inl (12, 12)), ((78, 0, 16, 12), .inl (0, 11)), ((78, 1, 16, 12), .inl (0, 100))], 101)], 1, 22, 0, 0)
def ck_h174 : List ab_Hd := [(60, ([(0, 11, 0, (0, 0, 0)), (1, 100, 0, (0, 0, 0)), (0, 200, 0, (0, 0, 0)), (0, 16, 0, (0, 0, 0))], [(5, .inl (3, 1, 0)), (4, .inl (0, 0, 0)), (0, .inr (0, 77)), (1, .inl (0, 1, 0)), (2, .inl (1, 1, 0)), (3, .inl (2, 1, 0))], [], ([((78, 1292, 1, 1), .inl (0, 0)), ((78, 0, 16, 12), .inl (0, 11)), ((78, 1, 16, 12), .inl (0, 100)), ((78, 1292, 1, 1), .inl (0, 0)), ((77, 1, 1, 1), .inr (0, 78))], []), 101, 0, 0), 3, 0), (60, ([(0, 11, 0, (0, 0, 0)), (1, 100, 0, (0, 0, 0)), (0, 200, 0, (0, 0, 0)), (0, 16, 0, (0, 0, 0))], [(5, .inl (3, 1, 0)), (4, .inl (0, 0, 1)), (0, .inr (0, 77)), (1, .inl (0, 1, 0)), (2, .inl (1, 1, 0)), (3, .inl (2, 1, 0))], [], ([((78, 1292, 1, 1), .inl (1, 1)), ((78, 0, 16, 12), .inl (0, 11)), ((78, 1, 16, 12), .inl (0, 100)), ((78, 1292, 1, 1), .inl (1, 1)), ((77, 1, 1, 1), .inr (0, 78))], []), 101, 0, 0), 3, 0), (60, ([(0, 11, 0, (0, 0, 0)), (1, 100, 0, (0, 0, 0)), (0, 200, 0, (0, 0, 0)), (0, 16, 0, (0, 0, 0))], [(5, .inl (3, 1, 0)), (4, .inl (0, 0, 2)), (0, .inr (0, 77)), (1, .inl (0, 1, 0)), (2, .inl (1, 1, 0)), (3, .inl (2, 1, 0))], [], ([((78, 1292, 1, 1), .inl (2, 2)), ((78, 0, 16, 12), .inl (0, 11)), ((78, 1, 16, 12), .inl (0, 100)), ((78, 1292, 1, 1), .inl (2, 2)), ((77, 1, 1, 1), .inr (0, 78))], []), 101, 0, 0), 3, 0), (60, ([(0, 11, 0, (0, 0, 0)), (1, 100, 0, (0, 0, 0)), (0, 200, 0, (0, 0, 0)), (0, 16, 0, (0, 0, 0))], [(5, .inl (3, 1, 0)), (4, .inl (0, 0, 3)), (0, .inr (0, 77)), (1, .inl (0, 1, 0)), (2, .inl (1, 1, 0)), (3, .inl (2, 1, 0))], [], ([((78, 1292, 1, 1), .inl (3, 3)), ((78, 0, 16, 12), .inl (0, 11)), ((78, 1, 16, 12), .inl (0, 100)), ((78, 1292, 1, 1), .inl (3, 3)), ((77, 1, 1, 1), .inr (0, 78))], []), 101, 0, 0), 3, 0), (60, ([(0, 11, 0, (0, 0, 0)), (1, 100, 0, (0, 0, 0)), (0, 200, 0, (0, 0, 0)), (0, 16, 0, (0, 0, 0))], [(5, .inl (3, 1, 0)), (4, .inl (0, 0, 4)), (0, .inr (0, 77)), (1, .inl (0, 1, 0)), (2, .inl (1, 1, 0)), (3, .inl (2, 1, 0))], [], ([((78, 1292, 1, 1), .inl (4, 4)), ((78, 0, 16, 12), .inl (0, 11)), ((78, 1, 16, 12), .inl (0, 100)), ((78, 1292, 1, 1), .inl (4, 4)), ((77, 1, 1, 1), .inr (0, 78))], []), 101, 0, 0), 3, 0), (60, ([(0, 11, 0, (0, 0, 0)), (1, 100, 0, (0, 0, 0)), (0, 200, 0, (0, 0, 0)), (0, 16, 0, (0, 0, 0))], [(5, .inl (3, 1, 0)), (4, .inl (0, 0, 5)), (0, .inr (0, 77)), (1, .inl (0, 1, 0)), (2, .inl (1, 1, 0)), (3, .inl (2, 1, 0))], [], ([((78, 1292, 1, 1), .inl (5, 5)), ((78, 0, 16, 12), .inl (0, 11)), ((78, 1, 16, 12), .inl (0, 100)), ((78, 1292, 1, 1), .inl (5, 5)), ((77, 1, 1, 1), .inr (0, 78))], []), 101, 0, 0), 3, 0), (60, ([(0, 11, 0, (0, 0, 0)), (1, 100, 0, (0, 0, 0)), (0, 200, 0, (0, 0, 0)), (0, 16, 0, (0, 0, 0))], [(5, .inl (3, 1, 0)), (4, .inl (0, 0, 6)), (0, .inr (0, 77)), (1, .inl (0, 1, 0)), (2, .inl (1, 1, 0)), (3, .inl (2, 1, 0))], [], ([((78, 1292, 1, 1), .inl (6, 6)), ((78, 0, 16, 12), .inl (0, 11)), ((78, 1, 16, 12), .inl (0, 100)), ((78, 1292, 1, 1), .inl (6, 6)), ((77, 1, 1, 1), .inr (0, 78))], []), 101, 0, 0), 3, 0), (60, ([(0, 11, 0, (0, 0, 0)), (1, 100, 0, (0, 0, 0)), (0, 200, 0, (0, 0, 0)), (0, 16, 0, (0, 0, 0))], [(5, .inl (3, 1, 0)), (4, .inl (0, 0, 7)), (0, .inr (0, 77)), (1, .inl (0, 1, 0)), (2, .inl (1, 1, 0)), (3, .inl (2, 1, 0))], [], ([((78, 1292, 1, 1), .inl (7, 7)), ((78, 0, 16, 12), .inl (0, 11)), ((78, 1, 16, 12), .inl (0, 100)), ((78, 1292, 1, 1), .inl (7, 7)), ((77, 1, 1, 1), .inr (0, 78))], []), 101, 0, 0), 3, 0), (60, ([(0, 11, 0, (0, 0, 0)), (1, 100, 0, (0, 0, 0)), (0, 200, 0, (0, 0, 0)), (0, 16, 0, (0, 0, 0))], [(5, .inl (3, 1, 0)), (4, .inl (0, 0, 8)), (0, .inr (0, 77)), (1, .inl (0, 1, 0)), (2, .inl (1, 1, 0)), (3, .inl (2, 1, 0))], [], ([((78, 1292, 1, 1), .inl (8, 8)), ((78, 0, 16, 12), .inl (0, 11)), ((78, 1, 16, 12), .inl (0, 100)), ((78, 1292, 1, 1), .inl (8, 8)), ((77, 1, 1, 1), .inr (0, 78))], []), 101, 0, 0), 3, 0), (60, ([(0, 11, 0, (0, 0, 0)), (1, 100, 0, (0, 0, 0)), (0, 200, 0, (0, 0, 0)), (0, 16, 0, (0, 0, 0))], [(5, .inl (3, 1, 0)), (4, .inl (0, 0, 9)), (0, .inr (0, 77)), (1, .inl (0, 1, 0)), (2, .inl (1, 1, 0)), (3, .inl (2, 1, 0))], [], ([((78, 1292, 1, 1), .inl (9, 9)), ((78, 0, 16, 12), .inl (0, 11)), ((78, 1, 16, 12), .inl (0, 100)), ((78, 1292, 1, 1), .inl (9, 9)), ((77, 1, 1, 1), .inr (0, 78))], []), 101, 0, 0), 3, 0), (60, ([(0, 11, 0, (0, 0, 0)), (1, 100, 0, (0, 0, 0)), (0, 200, 0, (0, 0, 0)), (0, 16, 0, (0, 0, 0))], [(5, .inl (3, 1, 0)), (4, .inl (0, 0, 10)), (0, .inr (0, 77)), (1, .inl (0, 1, 0)), (2, .inl (1, 1, 0)), (3, .inl (2, 1, 0))], [], ([((78, 1292, 1, 1), .inl (10, 10)), ((78, 0, 16, 12), .inl (0, 11)), ((78, 1, 16, 12), .inl (0, 100)), ((78, 1292, 1, 1), .inl (10, 10)), ((77, 1, 1, 1), .inr (0, 78))], []), 101, 0, 0), 3, 0), (60, ([(0, 11, 0, (0, 0, 0)), (1, 100, 0, (0, 0, 0)), (0, 200, 0, (0, 0, 0)), (0, 16, 0, (0, 0, 0))], [(5, .inl (3, 1, 0)), (4, .inl (0, 0, 11)), (0, .inr (0, 77)), (1, .inl (0, 1, 0)), (2, .inl (1, 1, 0)), (3, .inl (2, 1, 0))], [], ([((78, 1292, 1, 1), .inl (11, 11)), ((78, 0, 16, 12), .inl (0, 11)), ((78, 1, 16, 12), .inl (0, 100)), ((78, 1292, 1, 1), .inl (11, 11)), ((77, 1, 1, 1), .inr (0, 78))], []), 101, 0, 0), 3, 0)]
set_option maxRecDepth 100000 in
theorem ck_k174 (l : Launch) (D : va_G) (st : Nat → Nat) : ck_Mt gk_G l D st ck_c174 := ab_sound (tr := ck_tr2) (T := ck_T13) (cs := [ck_c156, ck_c157, ck_c158, ck_c159, ck_c160, ck_c161, ck_c162, ck_c163, ck_c164, ck_c165, ck_c166, ck_c167, ck_c168, ck_c169, ck_c170, ck_c171, ck_c172, ck_c173]) (hs := ck_h174) (sp := []) (fuel := 93) l ck_TSgood ck_okCl ck_okDt (M0 := ck_m178) rfl ck_okT13 (ck_cons (ck_k156 l D st) (ck_cons (ck_k157 l D st) (ck_cons (ck_k158 l D st) (ck_cons (ck_k159 l D st) (ck_cons (ck_k160 l D st) (ck_cons (ck_k161 l D st) (ck_cons (ck_k162 l D st) (ck_cons (ck_k163 l D st) (ck_cons (ck_k164 l D st) (ck_cons (ck_k165 l D st) (ck_cons (ck_k166 l D st) (ck_cons (ck_k167 l D st) (ck_cons (ck_k168 l D st) (ck_cons (ck_k169 l D st) (ck_cons (ck_k170 l D st) (ck_cons (ck_k171 l D st) (ck_cons (ck_k172 l D st) (ck_cons (ck_k173 l D st) ck_nil)))))))))))))))))) (by decide +kernel)
/-- SL.within -/
def ck_c175 : ab_C := (14, 101, [.inl ((-2147483648), 2147483647), .inl (0, 0), .inl (2, 2)], [], [], [(some (.inl (0, 0)), [((-2147483648), (-1)), (0, 0), (2, 2)], [], 101), (some (.inl (0, 0)), [(3, 2147483647), (0, 0), (2, 2)], [], 101), (some (.inl (1, 1)), [(0, 2), (0, 0), (2, 2)], [], 101)], 0, 0, 0, 0)
def ck_h175 : List ab_Hd := []
set_option maxRecDepth 100000 in
theorem ck_k175 (l : Launch) (D : va_G) (st : Nat → Nat) : ck_Mt gk_G l D st ck_c175 := ab_sound (tr := ck_tr2) (T := ck_T0) (cs := []) (hs := ck_h175) (sp := []) (fuel := 33) l ck_TSgood ck_okCl ck_okDt (M0 := ck_m14) rfl ck_okT0 ck_nil (by decide +kernel)
/-- SL.within -/
def ck_c176 : ab_C := (14, 101, [.inl ((-2147483648), 2147483647), .inl (0, 0), .inl (3, 3)], [], [], [(some (.inl (0, 0)), [((-2147483648), (-1)), (0, 0), (3, 3)], [], 101), (some (.inl (0, 0)), [(4, 2147483647), (0, 0), (3, 3)], [], 101), (some (.inl (1, 1)), [(0, 3), (0, 0), (3, 3)], [], 101)], 0, 0, 0, 0)
def ck_h176 : List ab_Hd := []
set_option maxRecDepth 100000 in
theorem ck_k176 (l : Launch) (D : va_G) (st : Nat → Nat) : ck_Mt gk_G l D st ck_c176 := ab_sound (tr := ck_tr2) (T := ck_T0) (cs := []) (hs := ck_h176) (sp := []) (fuel := 33) l ck_TSgood ck_okCl ck_okDt (M0 := ck_m14) rfl ck_okT0 ck_nil (by decide +kernel)
/-- SL.isSpot -/
def ck_c177 : ab_C := (19, 101, [.inl ((-2147483648), 2147483647), .inl ((-2147483648), 2147483647)], [], [], [(some (.inl (0, 0)), [((-2147483648), (-1)), ((-2147483648), 2147483647)], [], 101), (some (.inl (0, 0)), [(3, 2147483647), ((-2147483648), 2147483647)], [], 101), (some (.inl (0, 0)), [(0, 2), ((-2147483648), (-1))], [], 101), (some (.inl (0, 0)), [(0, 2), (4, 2147483647)], [], 101), (some (.inl (1, 1)), [(0, 2), (0, 3)], [], 101)], 1, 22, 0, 0)
def ck_h177 : List ab_Hd := []
set_option maxRecDepth 100000 in
theorem ck_k177 (l : Launch) (D : va_G) (st : Nat → Nat) : ck_Mt gk_G l D st ck_c177 := ab_sound (tr := ck_tr2) (T := ck_T0) (cs := [ck_c175, ck_c176]) (hs := ck_h177) (sp := []) (fuel := 37) l ck_TSgood ck_okCl ck_okDt (M0 := ck_m19) rfl ck_okT0 (ck_cons (ck_k175 l D st) (ck_cons (ck_k176 l D st) ck_nil)) (by decide +kernel)
/-- SL.within -/
def ck_c178 : ab_C := (14, 101, [.inl ((-2147483648), 2147483647), .inl (0, 0), .inl (999, 999)], [], [], [(some (.inl (0, 0)), [((-2147483648), (-1)), (0, 0), (999, 999)], [], 101), (some (.inl (0, 0)), [(1000, 2147483647), (0, 0), (999, 999)], [], 101), (some (.inl (1, 1)), [(0, 999), (0, 0), (999, 999)], [], 101)], 0, 0, 0, 0)
def ck_h178 : List ab_Hd := []
set_option maxRecDepth 100000 in
theorem ck_k178 (l : Launch) (D : va_G) (st : Nat → Nat) : ck_Mt gk_G l D st ck_c178 := ab_sound (tr := ck_tr2) (T := ck_T0) (cs := []) (hs := ck_h178) (sp := []) (fuel := 33) l ck_TSgood ck_okCl ck_okDt (M0 := ck_m14) rfl ck_okT0 ck_nil (by decide +kernel)
/-- SL.within -/
def ck_c179 : ab_C := (14, 101, [.inl ((-2147483648), 2147483647), .inl (0, 0), .inl ((-1), 11)], [], [], [(some (.inl (0, 0)), [((-2147483648), (-1)), (0, 0), ((-1), 11)], [], 101), (some (.inl (0, 0)), [(0, 2147483647), (0, 0), ((-1), 11)], [], 101), (some (.inl (1, 1)), [(0, 11), (0, 0), (0, 11)], [], 101)], 0, 0, 0, 0)
def ck_h179 : List ab_Hd := []
set_option maxRecDepth 100000 in
theorem ck_k179 (l : Launch) (D : va_G) (st : Nat → Nat) : ck_Mt gk_G l D st ck_c179 := ab_sound (tr := ck_tr2) (T := ck_T0) (cs := []) (hs := ck_h179) (sp := []) (fuel := 33) l ck_TSgood ck_okCl ck_okDt (M0 := ck_m14) rfl ck_okT0 ck_nil (by decide +kernel)
/-- SL$Bench.hasStone -/
def ck_c180 : ab_C := (20, 101, [.inr (0, 1), .inl ((-2147483648), 2147483647)], [((1, 0, 1, 1), .inl (0, 12))], [], [(some (.inl (0, 0)), [((-2147483648), (-1))], [], 101), (some (.inl (0, 0)), [(0, 2147483647)], [], 101), (some (.inl (1, 1)), [(0, 11)], [((1, 0, 1, 1), .inl (1, 12))], 101)], 1, 22, 0, 0)
def ck_h180 : List ab_Hd := []
set_option maxRecDepth 100000 in
theorem ck_k180 (l : Launch) (D : va_G) (st : Nat → Nat) : ck_Mt gk_G l D st ck_c180 := ab_sound (tr := ck_tr2) (T := ck_T1) (cs := [ck_c179]) (hs := ck_h180) (sp := []) (fuel := 32) l ck_TSgood ck_okCl ck_okDt (M0 := ck_m20) rfl ck_okT1 (ck_cons (ck_k179 l D st) ck_nil) (by decide +kernel)
/-- SL.refuse -/
def ck_c181 : ab_C := (15, 101, [.inr (0, 0), .inl ((-2), (-2))], [], [(0, 14, 1, 1)], [(some (.inl ((-2), (-2))), [((-2), (-2))], [((0, 14, 1, 1), .inl ((-2), (-2)))], 101)], 0, 0, 0, 0)
def ck_h181 : List ab_Hd := []
set_option maxRecDepth 100000 in
theorem ck_k181 (l : Launch) (D : va_G) (st : Nat → Nat) : ck_Mt gk_G l D st ck_c181 := ab_sound (tr := ck_tr2) (T := ck_T0) (cs := []) (hs := ck_h181) (sp := []) (fuel := 29) l ck_TSgood ck_okCl ck_okDt (M0 := ck_m15) rfl ck_okT0 ck_nil (by decide +kernel)
/-- SL$Bench.spotOf -/
def ck_c182 : ab_C := (21, 101, [.inl (0, 11), .inl (0, 2), .inl (0, 3)], [], [], [(some (.inl (0, 143)), [(0, 11), (0, 2), (0, 3)], [], 101)], 0, 0, 0, 0)
def ck_h182 : List ab_Hd := []
set_option maxRecDepth 100000 in
theorem ck_k182 (l : Launch) (D : va_G) (st : Nat → Nat) : ck_Mt gk_G l D st ck_c182 := ab_sound (tr := ck_tr2) (T := ck_T1) (cs := []) (hs := ck_h182) (sp := []) (fuel := 34) l ck_TSgood ck_okCl ck_okDt (M0 := ck_m21) rfl ck_okT1 ck_nil (by decide +kernel)
/-- SL.exchange -/
def ck_c183 : ab_C := (22, 101, [.inr (0, 6), .inl (0, 143), .inl (0, 999)], [], [(6, 0, 1, 144)], [(some (.inl ((-2147483648), 2147483647)), [(0, 143), (0, 999)], [], 101)], 0, 0, 0, 0)
def ck_h183 : List ab_Hd := []
set_option maxRecDepth 100000 in
theorem ck_k183 (l : Launch) (D : va_G) (st : Nat → Nat) : ck_Mt gk_G l D st ck_c183 := ab_sound (tr := ck_tr2) (T := ck_T0) (cs := []) (hs := ck_h183) (sp := []) (fuel := 34) l ck_TSgood ck_okCl ck_okDt (M0 := ck_m22) rfl ck_okT0 ck_nil (by decide +kernel)
/-- SL.plane -/
def ck_c184 : ab_C := (18, 101, [.inr (0, 0), .inl ((-2147483648), 2147483647), .inl ((-2147483648), 2147483647), .inl ((-2147483648), 2147483647), .inl ((-2147483648), 2147483647)], [((1, 0, 1, 1), .inl (0, 12)), ((1, 5, 1, 1), .inr (0, 6)), ((0, 0, 1, 1), .inr (0, 1))], [(0, 14, 1, 1), (6, 0, 1, 144)], [(some (.inl ((-1), (-1))), [((-2147483648), 2147483647), ((-2147483648), 2147483647), ((-2147483648), 2147483647), ((-2147483648), 2147483647)], [((0, 14, 1, 1), .inl ((-1), (-1)))], 101), (some (.inl ((-2), (-2))), [((-2147483648), 2147483647), (0, 2), (0, 3), (0, 999)], [((0, 14, 1, 1), .inl ((-2), (-2)))], 101), (some (.inl ((-2147483648), 2147483647)), [(0, 11), (0, 2), (0, 3), (0, 999)], [((0, 14, 1, 1), .inl (0, 0)), ((1, 0, 1, 1), .inl (1, 12))], 101)], 2, 43, 0, 0)
def ck_h184 : List ab_Hd := []
set_option maxRecDepth 100000 in
theorem ck_k184 (l : Launch) (D : va_G) (st : Nat → Nat) : ck_Mt gk_G l D st ck_c184 := ab_sound (tr := ck_tr2) (T := ck_T0) (cs := [ck_c177, ck_c149, ck_c178, ck_c180, ck_c181, ck_c182, ck_c183, ck_c147]) (hs := ck_h184) (sp := []) (fuel := 50) l ck_TSgood ck_okCl ck_okDt (M0 := ck_m18) rfl ck_okT0 (ck_cons (ck_k177 l D st) (ck_cons (ck_k149 l D st) (ck_cons (ck_k178 l D st) (ck_cons (ck_k180 l D st) (ck_cons (ck_k181 l D st) (ck_cons (ck_k182 l D st) (ck_cons (ck_k183 l D st) (ck_cons (ck_k147 l D st) ck_nil)))))))) (by decide +kernel)
/-- SL.exchange -/
def ck_c185 : ab_C := (22, 101, [.inr (0, 5), .inl (0, 11), .inl (0, 999)], [], [(5, 0, 1, 12)], [(some (.inl ((-2147483648), 2147483647)), [(0, 11), (0, 999)], [], 101)], 0, 0, 0, 0)
def ck_h185 : List ab_Hd := []
set_option maxRecDepth 100000 in
theorem ck_k185 (l : Launch) (D : va_G) (st : Nat → Nat) : ck_Mt gk_G l D st ck_c185 := ab_sound (tr := ck_tr2) (T := ck_T0) (cs := []) (hs := ck_h185) (sp := []) (fuel := 34) l ck_TSgood ck_okCl ck_okDt (M0 := ck_m22) rfl ck_okT0 ck_nil (by decide +kernel)
/-- SL.point -/
def ck_c186 : ab_C := (23, 101, [.inr (0, 0), .inl ((-2147483648), 2147483647), .inl ((-2147483648), 2147483647)], [((1, 0, 1, 1), .inl (0, 12)), ((1, 4, 1, 1), .inr (0, 5)), ((0, 0, 1, 1), .inr (0, 1))], [(0, 14, 1, 1), (5, 0, 1, 12)], [(some (.inl ((-1), (-1))), [((-2147483648), 2147483647), ((-2147483648), (-1))], [((0, 14, 1, 1), .inl ((-1), (-1)))], 101), (some (.inl ((-1), (-1))), [((-2147483648), 2147483647), (1000, 2147483647)], [((0, 14, 1, 1), .inl ((-1), (-1)))], 101), (some (.inl ((-2), (-2))), [((-2147483648), (-1)), (0, 999)], [((0, 14, 1, 1), .inl ((-2), (-2)))], 101), (some (.inl ((-2), (-2))), [(0, 2147483647), (0, 999)], [((0, 14, 1, 1), .inl ((-2), (-2)))], 101), (some (.inl ((-2147483648), 2147483647)), [(0, 11), (0, 999)], [((0, 14, 1, 1), .inl (0, 0)), ((1, 0, 1, 1), .inl (1, 12))], 101)], 2, 43, 0, 0)
def ck_h186 : List ab_Hd := []
set_option maxRecDepth 100000 in
theorem ck_k186 (l : Launch) (D : va_G) (st : Nat → Nat) : ck_Mt gk_G l D st ck_c186 := ab_sound (tr := ck_tr2) (T := ck_T0) (cs := [ck_c178, ck_c149, ck_c180, ck_c181, ck_c185, ck_c147]) (hs := ck_h186) (sp := []) (fuel := 43) l ck_TSgood ck_okCl ck_okDt (M0 := ck_m23) rfl ck_okT0 (ck_cons (ck_k178 l D st) (ck_cons (ck_k149 l D st) (ck_cons (ck_k180 l D st) (ck_cons (ck_k181 l D st) (ck_cons (ck_k185 l D st) (ck_cons (ck_k147 l D st) ck_nil)))))) (by decide +kernel)
/-- SLModel.in -/
def ck_c187 : ab_C := (174, 101, [.inl ((-2147483648), 2147483647), .inl (0, 0), .inl (999, 999)], [], [], [(some (.inl (0, 0)), [((-2147483648), (-1)), (0, 0), (999, 999)], [], 101), (some (.inl (0, 0)), [(1000, 2147483647), (0, 0), (999, 999)], [], 101), (some (.inl (1, 1)), [(0, 999), (0, 0), (999, 999)], [], 101)], 0, 0, 0, 0)
def ck_h187 : List ab_Hd := []
set_option maxRecDepth 100000 in
theorem ck_k187 (l : Launch) (D : va_G) (st : Nat → Nat) : ck_Mt gk_G l D st ck_c187 := ab_sound (tr := ck_tr2) (T := ck_T13) (cs := []) (hs := ck_h187) (sp := []) (fuel := 33) l ck_TSgood ck_okCl ck_okDt (M0 := ck_m174) rfl ck_okT13 ck_nil (by decide +kernel)
/-- SLModel.in -/
def ck_c188 : ab_C := (174, 101, [.inl ((-2147483648), 2147483647), .inl (0, 0), .inl ((-1), 11)], [], [], [(some (.inl (0, 0)), [((-2147483648), (-1)), (0, 0), ((-1), 11)], [], 101), (some (.inl (0, 0)), [(0, 2147483647), (0, 0), ((-1), 11)], [], 101), (some (.inl (1, 1)), [(0, 11), (0, 0), (0, 11)], [], 101)], 0, 0, 0, 0)
def ck_h188 : List ab_Hd := []
set_option maxRecDepth 100000 in
theorem ck_k188 (l : Launch) (D : va_G) (st : Nat → Nat) : ck_Mt gk_G l D st ck_c188 := ab_sound (tr := ck_tr2) (T := ck_T13) (cs := []) (hs := ck_h188) (sp := []) (fuel := 33) l ck_TSgood ck_okCl ck_okDt (M0 := ck_m174) rfl ck_okT13 ck_nil (by decide +kernel)
/-- SLModel.isStone -/
def ck_c189 : ab_C := (181, 101, [.inr (0, 77), .inl ((-2147483648), 2147483647)], [((78, 1292, 1, 1), .inl (0, 12)), ((77, 1, 1, 1), .inr (0, 78))], [], [(some (.inl (0, 0)), [((-2147483648), (-1))], [], 101), (some (.inl (0, 0)), [(0, 2147483647)], [], 101), (some (.inl (1, 1)), [(0, 11)], [((78, 1292, 1, 1), .inl (1, 12))], 101)], 1, 22, 0, 0)
def ck_h189 : List ab_Hd := []
set_option maxRecDepth 100000 in
theorem ck_k189 (l : Launch) (D : va_G) (st : Nat → Nat) : ck_Mt gk_G l D st ck_c189 := ab_sound (tr := ck_tr2) (T := ck_T13) (cs := [ck_c188]) (hs := ck_h189) (sp := []) (fuel := 34) l ck_TSgood ck_okCl ck_okDt (M0 := ck_m181) rfl ck_okT13 (ck_cons (ck_k188 l D st) ck_nil) (by decide +kernel)
/-- SLModel.refuses -/
def ck_c190 : ab_C := (175, 101, [.inr (0, 77), .inl ((-2), (-2))], [], [(77, 0, 1, 1)], [(some (.inl ((-2), (-2))), [((-2), (-2))], [((77, 0, 1, 1), .inl ((-2), (-2)))], 101)], 0, 0, 0, 0)
def ck_h190 : List ab_Hd := []
set_option maxRecDepth 100000 in
theorem ck_k190 (l : Launch) (D : va_G) (st : Nat → Nat) : ck_Mt gk_G l D st ck_c190 := ab_sound (tr := ck_tr2) (T := ck_T13) (cs := []) (hs := ck_h190) (sp := []) (fuel := 29) l ck_TSgood ck_okCl ck_okDt (M0 := ck_m175) rfl ck_okT13 ck_nil (by decide +kernel)
/-- SLModel.good -/
def ck_c191 : ab_C := (176, 101, [.inr (0, 77), .inl ((-2147483648), 2147483647)], [], [(77, 0, 1, 1)], [(some (.inl ((-2147483648), 2147483647)), [((-2147483648), 2147483647)], [((77, 0, 1, 1), .inl (0, 0))], 101)], 0, 0, 0, 0)
def ck_h191 : List ab_Hd := []
set_option maxRecDepth 100000 in
theorem ck_k191 (l : Launch) (D : va_G) (st : Nat → Nat) : ck_Mt gk_G l D st ck_c191 := ab_sound (tr := ck_tr2) (T := ck_T13) (cs := []) (hs := ck_h191) (sp := []) (fuel := 29) l ck_TSgood ck_okCl ck_okDt (M0 := ck_m176) rfl ck_okT13 ck_nil (by decide +kernel)
/-- SLModel.replaces -/
def ck_c192 : ab_C := (182, 101, [.inr (0, 77), .inl (3, 3), .inl (0, 999)], [((77, 1, 1, 1), .inr (0, 78))], [(77, 0, 1, 1), (78, 3, 144, 1)], [(some (.inl ((-2147483648), 2147483647)), [(3, 3), (0, 999)], [((78, 3, 1, 1), .inl (0, 999)), ((77, 0, 1, 1), .inl (0, 0))], 101)], 1, 21, 0, 0)
def ck_h192 : List ab_Hd := []
set_option maxRecDepth 100000 in
theorem ck_k192 (l : Launch) (D : va_G) (st : Nat → Nat) : ck_Mt gk_G l D st ck_c192 := ab_sound (tr := ck_tr2) (T := ck_T13) (cs := [ck_c191]) (hs := ck_h192) (sp := []) (fuel := 38) l ck_TSgood ck_okCl ck_okDt (M0 := ck_m182) rfl ck_okT13 (ck_cons (ck_k191 l D st) ck_nil) (by decide +kernel)
/-- SLModel.replaces -/
def ck_c193 : ab_C := (182, 101, [.inr (0, 77), .inl (19, 19), .inl (0, 999)], [((77, 1, 1, 1), .inr (0, 78))], [(77, 0, 1, 1), (78, 19, 144, 1)], [(some (.inl ((-2147483648), 2147483647)), [(19, 19), (0, 999)], [((78, 19, 1, 1), .inl (0, 999)), ((77, 0, 1, 1), .inl (0, 0))], 101)], 1, 21, 0, 0)
def ck_h193 : List ab_Hd := []
set_option maxRecDepth 100000 in
theorem ck_k193 (l : Launch) (D : va_G) (st : Nat → Nat) : ck_Mt gk_G l D st ck_c193 := ab_sound (tr := ck_tr2) (T := ck_T13) (cs := [ck_c191]) (hs := ck_h193) (sp := []) (fuel := 38) l ck_TSgood ck_okCl ck_okDt (M0 := ck_m182) rfl ck_okT13 (ck_cons (ck_k191 l D st) ck_nil) (by decide +kernel)
/-- SLModel.replaces -/
def ck_c194 : ab_C := (182, 101, [.inr (0, 77), .inl (35, 35), .inl (0, 999)], [((77, 1, 1, 1), .inr (0, 78))], [(77, 0, 1, 1), (78, 35, 144, 1)], [(some (.inl ((-2147483648), 2147483647)), [(35, 35), (0, 999)], [((78, 35, 1, 1), .inl (0, 999)), ((77, 0, 1, 1), .inl (0, 0))], 101)], 1, 21, 0, 0)
def ck_h194 : List ab_Hd := []
set_option maxRecDepth 100000 in
theorem ck_k194 (l : Launch) (D : va_G) (st : Nat → Nat) : ck_Mt gk_G l D st ck_c194 := ab_sound (tr := ck_tr2) (T := ck_T13) (cs := [ck_c191]) (hs := ck_h194) (sp := []) (fuel := 38) l ck_TSgood ck_okCl ck_okDt (M0 := ck_m182) rfl ck_okT13 (ck_cons (ck_k191 l D st) ck_nil) (by decide +kernel)
/-- SLModel.replaces -/
def ck_c195 : ab_C := (182, 101, [.inr (0, 77), .inl (51, 51), .inl (0, 999)], [((77, 1, 1, 1), .inr (0, 78))], [(77, 0, 1, 1), (78, 51, 144, 1)], [(some (.inl ((-2147483648), 2147483647)), [(51, 51), (0, 999)], [((78, 51, 1, 1), .inl (0, 999)), ((77, 0, 1, 1), .inl (0, 0))], 101)], 1, 21, 0, 0)
def ck_h195 : List ab_Hd := []
set_option maxRecDepth 100000 in
theorem ck_k195 (l : Launch) (D : va_G) (st : Nat → Nat) : ck_Mt gk_G l D st ck_c195 := ab_sound (tr := ck_tr2) (T := ck_T13) (cs := [ck_c191]) (hs := ck_h195) (sp := []) (fuel := 38) l ck_TSgood ck_okCl ck_okDt (M0 := ck_m182) rfl ck_okT13 (ck_cons (ck_k191 l D st) ck_nil) (by decide +kernel)
/-- SLModel.replaces -/
def ck_c196 : ab_C := (182, 101, [.inr (0, 77), .inl (67, 67), .inl (0, 999)], [((77, 1, 1, 1), .inr (0, 78))], [(77, 0, 1, 1), (78, 67, 144, 1)], [(some (.inl ((-2147483648), 2147483647)), [(67, 67), (0, 999)], [((78, 67, 1, 1), .inl (0, 999)), ((77, 0, 1, 1), .inl (0, 0))], 101)], 1, 21, 0, 0)
def ck_h196 : List ab_Hd := []
set_option maxRecDepth 100000 in
theorem ck_k196 (l : Launch) (D : va_G) (st : Nat → Nat) : ck_Mt gk_G l D st ck_c196 := ab_sound (tr := ck_tr2) (T := ck_T13) (cs := [ck_c191]) (hs := ck_h196) (sp := []) (fuel := 38) l ck_TSgood ck_okCl ck_okDt (M0 := ck_m182) rfl ck_okT13 (ck_cons (ck_k191 l D st) ck_nil) (by decide +kernel)
/-- SLModel.replaces -/
def ck_c197 : ab_C := (182, 101, [.inr (0, 77), .inl (83, 83), .inl (0, 999)], [((77, 1, 1, 1), .inr (0, 78))], [(77, 0, 1, 1), (78, 83, 144, 1)], [(some (.inl ((-2147483648), 2147483647)), [(83, 83), (0, 999)], [((78, 83, 1, 1), .inl (0, 999)), ((77, 0, 1, 1), .inl (0, 0))], 101)], 1, 21, 0, 0)
def ck_h197 : List ab_Hd := []
set_option maxRecDepth 100000 in
theorem ck_k197 (l : Launch) (D : va_G) (st : Nat → Nat) : ck_Mt gk_G l D st ck_c197 := ab_sound (tr := ck_tr2) (T := ck_T13) (cs := [ck_c191]) (hs := ck_h197) (sp := []) (fuel := 38) l ck_TSgood ck_okCl ck_okDt (M0 := ck_m182) rfl ck_okT13 (ck_cons (ck_k191 l D st) ck_nil) (by decide +kernel)
/-- SLModel.replaces -/
def ck_c198 : ab_C := (182, 101, [.inr (0, 77), .inl (99, 99), .inl (0, 999)], [((77, 1, 1, 1), .inr (0, 78))], [(77, 0, 1, 1), (78, 99, 144, 1)], [(some (.inl ((-2147483648), 2147483647)), [(99, 99), (0, 999)], [((78, 99, 1, 1), .inl (0, 999)), ((77, 0, 1, 1), .inl (0, 0))], 101)], 1, 21, 0, 0)
def ck_h198 : List ab_Hd := []
set_option maxRecDepth 100000 in
theorem ck_k198 (l : Launch) (D : va_G) (st : Nat → Nat) : ck_Mt gk_G l D st ck_c198 := ab_sound (tr := ck_tr2) (T := ck_T13) (cs := [ck_c191]) (hs := ck_h198) (sp := []) (fuel := 38) l ck_TSgood ck_okCl ck_okDt (M0 := ck_m182) rfl ck_okT13 (ck_cons (ck_k191 l D st) ck_nil) (by decide +kernel)
/-- SLModel.replaces -/
def ck_c199 : ab_C := (182, 101, [.inr (0, 77), .inl (115, 115), .inl (0, 999)], [((77, 1, 1, 1), .inr (0, 78))], [(77, 0, 1, 1), (78, 115, 144, 1)], [(some (.inl ((-2147483648), 2147483647)), [(115, 115), (0, 999)], [((78, 115, 1, 1), .inl (0, 999)), ((77, 0, 1, 1), .inl (0, 0))], 101)], 1, 21, 0, 0)
def ck_h199 : List ab_Hd := []
set_option maxRecDepth 100000 in
theorem ck_k199 (l : Launch) (D : va_G) (st : Nat → Nat) : ck_Mt gk_G l D st ck_c199 := ab_sound (tr := ck_tr2) (T := ck_T13) (cs := [ck_c191]) (hs := ck_h199) (sp := []) (fuel := 38) l ck_TSgood ck_okCl ck_okDt (M0 := ck_m182) rfl ck_okT13 (ck_cons (ck_k191 l D st) ck_nil) (by decide +kernel)
