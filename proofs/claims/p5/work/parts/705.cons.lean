/-- SLModel.replaces -/
def ck_c200 : ab_C := (182, 101, [.inr (0, 77), .inl (131, 131), .inl (0, 999)], [((77, 1, 1, 1), .inr (0, 78))], [(77, 0, 1, 1), (78, 131, 144, 1)], [(some (.inl ((-2147483648), 2147483647)), [(131, 131), (0, 999)], [((78, 131, 1, 1), .inl (0, 999)), ((77, 0, 1, 1), .inl (0, 0))], 101)], 1, 21, 0, 0)
def ck_h200 : List ab_Hd := []
set_option maxRecDepth 100000 in
theorem ck_k200 (l : Launch) (D : va_G) (st : Nat → Nat) : ck_Mt gk_G l D st ck_c200 := ab_sound (tr := ck_tr2) (T := ck_T13) (cs := [ck_c191]) (hs := ck_h200) (sp := []) (fuel := 38) l ck_TSgood ck_okCl ck_okDt (M0 := ck_m182) rfl ck_okT13 (ck_cons (ck_k191 l D st) ck_nil) (by decide +kernel)
/-- SLModel.replaces -/
def ck_c201 : ab_C := (182, 101, [.inr (0, 77), .inl (147, 147), .inl (0, 999)], [((77, 1, 1, 1), .inr (0, 78))], [(77, 0, 1, 1), (78, 147, 144, 1)], [(some (.inl ((-2147483648), 2147483647)), [(147, 147), (0, 999)], [((78, 147, 1, 1), .inl (0, 999)), ((77, 0, 1, 1), .inl (0, 0))], 101)], 1, 21, 0, 0)
def ck_h201 : List ab_Hd := []
set_option maxRecDepth 100000 in
theorem ck_k201 (l : Launch) (D : va_G) (st : Nat → Nat) : ck_Mt gk_G l D st ck_c201 := ab_sound (tr := ck_tr2) (T := ck_T13) (cs := [ck_c191]) (hs := ck_h201) (sp := []) (fuel := 38) l ck_TSgood ck_okCl ck_okDt (M0 := ck_m182) rfl ck_okT13 (ck_cons (ck_k191 l D st) ck_nil) (by decide +kernel)
/-- SLModel.replaces -/
def ck_c202 : ab_C := (182, 101, [.inr (0, 77), .inl (163, 163), .inl (0, 999)], [((77, 1, 1, 1), .inr (0, 78))], [(77, 0, 1, 1), (78, 163, 144, 1)], [(some (.inl ((-2147483648), 2147483647)), [(163, 163), (0, 999)], [((78, 163, 1, 1), .inl (0, 999)), ((77, 0, 1, 1), .inl (0, 0))], 101)], 1, 21, 0, 0)
def ck_h202 : List ab_Hd := []
set_option maxRecDepth 100000 in
theorem ck_k202 (l : Launch) (D : va_G) (st : Nat → Nat) : ck_Mt gk_G l D st ck_c202 := ab_sound (tr := ck_tr2) (T := ck_T13) (cs := [ck_c191]) (hs := ck_h202) (sp := []) (fuel := 38) l ck_TSgood ck_okCl ck_okDt (M0 := ck_m182) rfl ck_okT13 (ck_cons (ck_k191 l D st) ck_nil) (by decide +kernel)
/-- SLModel.replaces -/
def ck_c203 : ab_C := (182, 101, [.inr (0, 77), .inl (179, 179), .inl (0, 999)], [((77, 1, 1, 1), .inr (0, 78))], [(77, 0, 1, 1), (78, 179, 144, 1)], [(some (.inl ((-2147483648), 2147483647)), [(179, 179), (0, 999)], [((78, 179, 1, 1), .inl (0, 999)), ((77, 0, 1, 1), .inl (0, 0))], 101)], 1, 21, 0, 0)
def ck_h203 : List ab_Hd := []
set_option maxRecDepth 100000 in
theorem ck_k203 (l : Launch) (D : va_G) (st : Nat → Nat) : ck_Mt gk_G l D st ck_c203 := ab_sound (tr := ck_tr2) (T := ck_T13) (cs := [ck_c191]) (hs := ck_h203) (sp := []) (fuel := 38) l ck_TSgood ck_okCl ck_okDt (M0 := ck_m182) rfl ck_okT13 (ck_cons (ck_k191 l D st) ck_nil) (by decide +kernel)
/-- SLModel.point -/
def ck_c204 : ab_C := (183, 101, [.inr (0, 77), .inl ((-2147483648), 2147483647), .inl ((-2147483648), 2147483647)], [((78, 1292, 1, 1), .inl (0, 12)), ((77, 1, 1, 1), .inr (0, 78))], [(77, 0, 1, 1), (78, 3, 144, 1), (78, 19, 144, 1), (78, 35, 144, 1), (78, 51, 144, 1), (78, 67, 144, 1), (78, 83, 144, 1), (78, 99, 144, 1), (78, 115, 144, 1), (78, 131, 144, 1), (78, 147, 144, 1), (78, 163, 144, 1), (78, 179, 144, 1)], [(some (.inl ((-1), (-1))), [((-2147483648), 2147483647), ((-2147483648), 2147483647)], [((77, 0, 1, 1), .inl ((-1), (-1)))], 101), (some (.inl ((-2), (-2))), [((-2147483648), 2147483647), (0, 999)], [((77, 0, 1, 1), .inl ((-2), (-2)))], 101), (some (.inl ((-2147483648), 2147483647)), [(0, 11), (0, 999)], [((77, 0, 1, 1), .inl (0, 0)), ((78, 1292, 1, 1), .inl (1, 12))], 101)], 2, 44, 0, 0)
def ck_h204 : List ab_Hd := []
set_option maxRecDepth 100000 in
theorem ck_k204 (l : Launch) (D : va_G) (st : Nat → Nat) : ck_Mt gk_G l D st ck_c204 := ab_sound (tr := ck_tr2) (T := ck_T13) (cs := [ck_c187, ck_c157, ck_c189, ck_c190, ck_c192, ck_c193, ck_c194, ck_c195, ck_c196, ck_c197, ck_c198, ck_c199, ck_c200, ck_c201, ck_c202, ck_c203]) (hs := ck_h204) (sp := [(32, 0, 0), (32, 0, 1), (32, 0, 2), (32, 0, 3), (32, 0, 4), (32, 0, 5), (32, 0, 6), (32, 0, 7), (32, 0, 8), (32, 0, 9), (32, 0, 10)]) (fuel := 55) l ck_TSgood ck_okCl ck_okDt (M0 := ck_m183) rfl ck_okT13 (ck_cons (ck_k187 l D st) (ck_cons (ck_k157 l D st) (ck_cons (ck_k189 l D st) (ck_cons (ck_k190 l D st) (ck_cons (ck_k192 l D st) (ck_cons (ck_k193 l D st) (ck_cons (ck_k194 l D st) (ck_cons (ck_k195 l D st) (ck_cons (ck_k196 l D st) (ck_cons (ck_k197 l D st) (ck_cons (ck_k198 l D st) (ck_cons (ck_k199 l D st) (ck_cons (ck_k200 l D st) (ck_cons (ck_k201 l D st) (ck_cons (ck_k202 l D st) (ck_cons (ck_k203 l D st) ck_nil)))))))))))))))) (by decide +kernel)
/-- SL.within -/
def ck_c205 : ab_C := (14, 101, [.inl ((-2147483648), 2147483647), .inl (0, 0), .inl (1000, 1000)], [], [], [(some (.inl (0, 0)), [((-2147483648), (-1)), (0, 0), (1000, 1000)], [], 101), (some (.inl (0, 0)), [(1001, 2147483647), (0, 0), (1000, 1000)], [], 101), (some (.inl (1, 1)), [(0, 1000), (0, 0), (1000, 1000)], [], 101)], 0, 0, 0, 0)
def ck_h205 : List ab_Hd := []
set_option maxRecDepth 100000 in
theorem ck_k205 (l : Launch) (D : va_G) (st : Nat → Nat) : ck_Mt gk_G l D st ck_c205 := ab_sound (tr := ck_tr2) (T := ck_T0) (cs := []) (hs := ck_h205) (sp := []) (fuel := 33) l ck_TSgood ck_okCl ck_okDt (M0 := ck_m14) rfl ck_okT0 ck_nil (by decide +kernel)
/-- SL.exchange -/
def ck_c206 : ab_C := (22, 101, [.inr (0, 7), .inl (0, 11), .inl (0, 1000)], [], [(7, 0, 1, 12)], [(some (.inl ((-2147483648), 2147483647)), [(0, 11), (0, 1000)], [], 101)], 0, 0, 0, 0)
def ck_h206 : List ab_Hd := []
set_option maxRecDepth 100000 in
theorem ck_k206 (l : Launch) (D : va_G) (st : Nat → Nat) : ck_Mt gk_G l D st ck_c206 := ab_sound (tr := ck_tr2) (T := ck_T0) (cs := []) (hs := ck_h206) (sp := []) (fuel := 34) l ck_TSgood ck_okCl ck_okDt (M0 := ck_m22) rfl ck_okT0 ck_nil (by decide +kernel)
/-- SL.known -/
def ck_c207 : ab_C := (24, 101, [.inr (0, 0), .inl ((-2147483648), 2147483647), .inl ((-2147483648), 2147483647)], [((1, 6, 1, 1), .inr (0, 7)), ((0, 0, 1, 1), .inr (0, 1))], [(0, 14, 1, 1), (7, 0, 1, 12)], [(some (.inl ((-1), (-1))), [((-2147483648), (-1)), ((-2147483648), 2147483647)], [((0, 14, 1, 1), .inl ((-1), (-1)))], 101), (some (.inl ((-1), (-1))), [(12, 2147483647), ((-2147483648), 2147483647)], [((0, 14, 1, 1), .inl ((-1), (-1)))], 101), (some (.inl ((-1), (-1))), [(0, 11), ((-2147483648), (-1))], [((0, 14, 1, 1), .inl ((-1), (-1)))], 101), (some (.inl ((-1), (-1))), [(0, 11), (1001, 2147483647)], [((0, 14, 1, 1), .inl ((-1), (-1)))], 101), (some (.inl ((-2147483648), 2147483647)), [(0, 11), (0, 1000)], [((0, 14, 1, 1), .inl (0, 0))], 101)], 1, 23, 0, 0)
def ck_h207 : List ab_Hd := []
set_option maxRecDepth 100000 in
theorem ck_k207 (l : Launch) (D : va_G) (st : Nat → Nat) : ck_Mt gk_G l D st ck_c207 := ab_sound (tr := ck_tr2) (T := ck_T0) (cs := [ck_c148, ck_c149, ck_c205, ck_c206, ck_c147]) (hs := ck_h207) (sp := []) (fuel := 43) l ck_TSgood ck_okCl ck_okDt (M0 := ck_m24) rfl ck_okT0 (ck_cons (ck_k148 l D st) (ck_cons (ck_k149 l D st) (ck_cons (ck_k205 l D st) (ck_cons (ck_k206 l D st) (ck_cons (ck_k147 l D st) ck_nil))))) (by decide +kernel)
/-- SLModel.in -/
def ck_c208 : ab_C := (174, 101, [.inl ((-2147483648), 2147483647), .inl (0, 0), .inl (1000, 1000)], [], [], [(some (.inl (0, 0)), [((-2147483648), (-1)), (0, 0), (1000, 1000)], [], 101), (some (.inl (0, 0)), [(1001, 2147483647), (0, 0), (1000, 1000)], [], 101), (some (.inl (1, 1)), [(0, 1000), (0, 0), (1000, 1000)], [], 101)], 0, 0, 0, 0)
def ck_h208 : List ab_Hd := []
set_option maxRecDepth 100000 in
theorem ck_k208 (l : Launch) (D : va_G) (st : Nat → Nat) : ck_Mt gk_G l D st ck_c208 := ab_sound (tr := ck_tr2) (T := ck_T13) (cs := []) (hs := ck_h208) (sp := []) (fuel := 33) l ck_TSgood ck_okCl ck_okDt (M0 := ck_m174) rfl ck_okT13 ck_nil (by decide +kernel)
/-- SLModel.replaces -/
def ck_c209 : ab_C := (182, 101, [.inr (0, 77), .inl (192, 203), .inl (0, 1000)], [((77, 1, 1, 1), .inr (0, 78))], [(77, 0, 1, 1), (78, 192, 1, 12)], [(some (.inl ((-2147483648), 2147483647)), [(192, 203), (0, 1000)], [((77, 0, 1, 1), .inl (0, 0))], 101)], 1, 21, 0, 0)
def ck_h209 : List ab_Hd := []
set_option maxRecDepth 100000 in
theorem ck_k209 (l : Launch) (D : va_G) (st : Nat → Nat) : ck_Mt gk_G l D st ck_c209 := ab_sound (tr := ck_tr2) (T := ck_T13) (cs := [ck_c191]) (hs := ck_h209) (sp := []) (fuel := 38) l ck_TSgood ck_okCl ck_okDt (M0 := ck_m182) rfl ck_okT13 (ck_cons (ck_k191 l D st) ck_nil) (by decide +kernel)
/-- SLModel.known -/
def ck_c210 : ab_C := (184, 101, [.inr (0, 77), .inl ((-2147483648), 2147483647), .inl ((-2147483648), 2147483647)], [((77, 1, 1, 1), .inr (0, 78))], [(77, 0, 1, 1), (78, 192, 1, 12)], [(some (.inl ((-1), (-1))), [((-2147483648), (-1)), ((-2147483648), 2147483647)], [((77, 0, 1, 1), .inl ((-1), (-1)))], 101), (some (.inl ((-1), (-1))), [(12, 2147483647), ((-2147483648), 2147483647)], [((77, 0, 1, 1), .inl ((-1), (-1)))], 101), (some (.inl ((-1), (-1))), [(0, 11), ((-2147483648), (-1))], [((77, 0, 1, 1), .inl ((-1), (-1)))], 101), (some (.inl ((-1), (-1))), [(0, 11), (1001, 2147483647)], [((77, 0, 1, 1), .inl ((-1), (-1)))], 101), (some (.inl ((-2147483648), 2147483647)), [(0, 11), (0, 1000)], [((77, 0, 1, 1), .inl (0, 0))], 101)], 2, 44, 0, 0)
def ck_h210 : List ab_Hd := []
set_option maxRecDepth 100000 in
theorem ck_k210 (l : Launch) (D : va_G) (st : Nat → Nat) : ck_Mt gk_G l D st ck_c210 := ab_sound (tr := ck_tr2) (T := ck_T13) (cs := [ck_c156, ck_c157, ck_c208, ck_c209]) (hs := ck_h210) (sp := []) (fuel := 41) l ck_TSgood ck_okCl ck_okDt (M0 := ck_m184) rfl ck_okT13 (ck_cons (ck_k156 l D st) (ck_cons (ck_k157 l D st) (ck_cons (ck_k208 l D st) (ck_cons (ck_k209 l D st) ck_nil)))) (by decide +kernel)
/-- SL.isHand -/
def ck_c211 : ab_C := (26, 101, [.inl ((-2147483648), 2147483647)], [], [], [(some (.inl (0, 0)), [((-2147483648), (-1))], [], 101), (some (.inl (0, 0)), [(4, 2147483647)], [], 101), (some (.inl (1, 1)), [(0, 3)], [], 101)], 1, 22, 0, 0)
def ck_h211 : List ab_Hd := []
set_option maxRecDepth 100000 in
theorem ck_k211 (l : Launch) (D : va_G) (st : Nat → Nat) : ck_Mt gk_G l D st ck_c211 := ab_sound (tr := ck_tr2) (T := ck_T0) (cs := [ck_c176]) (hs := ck_h211) (sp := []) (fuel := 29) l ck_TSgood ck_okCl ck_okDt (M0 := ck_m26) rfl ck_okT0 (ck_cons (ck_k176 l D st) ck_nil) (by decide +kernel)
/-- SL.within -/
def ck_c212 : ab_C := (14, 101, [.inl ((-2147483648), 2147483647), .inl (0, 0), .inl (100, 100)], [], [], [(some (.inl (0, 0)), [((-2147483648), (-1)), (0, 0), (100, 100)], [], 101), (some (.inl (0, 0)), [(101, 2147483647), (0, 0), (100, 100)], [], 101), (some (.inl (1, 1)), [(0, 100), (0, 0), (100, 100)], [], 101)], 0, 0, 0, 0)
def ck_h212 : List ab_Hd := []
set_option maxRecDepth 100000 in
theorem ck_k212 (l : Launch) (D : va_G) (st : Nat → Nat) : ck_Mt gk_G l D st ck_c212 := ab_sound (tr := ck_tr2) (T := ck_T0) (cs := []) (hs := ck_h212) (sp := []) (fuel := 33) l ck_TSgood ck_okCl ck_okDt (M0 := ck_m14) rfl ck_okT0 ck_nil (by decide +kernel)
/-- SL.accept -/
def ck_c213 : ab_C := (17, 101, [.inr (0, 0), .inl (0, 0)], [], [(0, 14, 1, 1)], [(some (.inl (0, 0)), [(0, 0)], [((0, 14, 1, 1), .inl (0, 0))], 101)], 0, 0, 0, 0)
def ck_h213 : List ab_Hd := []
set_option maxRecDepth 100000 in
theorem ck_k213 (l : Launch) (D : va_G) (st : Nat → Nat) : ck_Mt gk_G l D st ck_c213 := ab_sound (tr := ck_tr2) (T := ck_T0) (cs := []) (hs := ck_h213) (sp := []) (fuel := 29) l ck_TSgood ck_okCl ck_okDt (M0 := ck_m17) rfl ck_okT0 ck_nil (by decide +kernel)
/-- SL.hand -/
def ck_c214 : ab_C := (25, 101, [.inr (0, 0), .inl ((-2147483648), 2147483647), .inl ((-2147483648), 2147483647), .inl ((-2147483648), 2147483647)], [((1, 7, 1, 1), .inr (0, 8)), ((1, 8, 1, 1), .inr (0, 9)), ((0, 0, 1, 1), .inr (0, 1))], [(0, 14, 1, 1), (8, 0, 1, 4), (9, 0, 1, 4)], [(some (.inl ((-1), (-1))), [((-2147483648), (-1)), ((-2147483648), 2147483647), ((-2147483648), 2147483647)], [((0, 14, 1, 1), .inl ((-1), (-1)))], 101), (some (.inl ((-1), (-1))), [(4, 2147483647), ((-2147483648), 2147483647), ((-2147483648), 2147483647)], [((0, 14, 1, 1), .inl ((-1), (-1)))], 101), (some (.inl ((-1), (-1))), [(0, 3), ((-2147483648), (-1)), ((-2147483648), 2147483647)], [((0, 14, 1, 1), .inl ((-1), (-1)))], 101), (some (.inl ((-1), (-1))), [(0, 3), (101, 2147483647), ((-2147483648), 2147483647)], [((0, 14, 1, 1), .inl ((-1), (-1)))], 101), (some (.inl ((-1), (-1))), [(0, 3), (0, 100), ((-2147483648), (-1))], [((0, 14, 1, 1), .inl ((-1), (-1)))], 101), (some (.inl ((-1), (-1))), [(0, 3), (0, 100), (101, 2147483647)], [((0, 14, 1, 1), .inl ((-1), (-1)))], 101), (some (.inl (0, 0)), [(0, 3), (0, 100), (0, 100)], [((0, 14, 1, 1), .inl (0, 0))], 101)], 2, 42, 0, 0)
def ck_h214 : List ab_Hd := []
set_option maxRecDepth 100000 in
theorem ck_k214 (l : Launch) (D : va_G) (st : Nat → Nat) : ck_Mt gk_G l D st ck_c214 := ab_sound (tr := ck_tr2) (T := ck_T0) (cs := [ck_c211, ck_c149, ck_c212, ck_c213]) (hs := ck_h214) (sp := []) (fuel := 53) l ck_TSgood ck_okCl ck_okDt (M0 := ck_m25) rfl ck_okT0 (ck_cons (ck_k211 l D st) (ck_cons (ck_k149 l D st) (ck_cons (ck_k212 l D st) (ck_cons (ck_k213 l D st) ck_nil)))) (by decide +kernel)
/-- SLModel.in -/
def ck_c215 : ab_C := (174, 101, [.inl ((-2147483648), 2147483647), .inl (0, 0), .inl (3, 3)], [], [], [(some (.inl (0, 0)), [((-2147483648), (-1)), (0, 0), (3, 3)], [], 101), (some (.inl (0, 0)), [(4, 2147483647), (0, 0), (3, 3)], [], 101), (some (.inl (1, 1)), [(0, 3), (0, 0), (3, 3)], [], 101)], 0, 0, 0, 0)
def ck_h215 : List ab_Hd := []
set_option maxRecDepth 100000 in
theorem ck_k215 (l : Launch) (D : va_G) (st : Nat → Nat) : ck_Mt gk_G l D st ck_c215 := ab_sound (tr := ck_tr2) (T := ck_T13) (cs := []) (hs := ck_h215) (sp := []) (fuel := 33) l ck_TSgood ck_okCl ck_okDt (M0 := ck_m174) rfl ck_okT13 ck_nil (by decide +kernel)
/-- SLModel.in -/
def ck_c216 : ab_C := (174, 101, [.inl ((-2147483648), 2147483647), .inl (0, 0), .inl (100, 100)], [], [], [(some (.inl (0, 0)), [((-2147483648), (-1)), (0, 0), (100, 100)], [], 101), (some (.inl (0, 0)), [(101, 2147483647), (0, 0), (100, 100)], [], 101), (some (.inl (1, 1)), [(0, 100), (0, 0), (100, 100)], [], 101)], 0, 0, 0, 0)
def ck_h216 : List ab_Hd := []
set_option maxRecDepth 100000 in
theorem ck_k216 (l : Launch) (D : va_G) (st : Nat → Nat) : ck_Mt gk_G l D st ck_c216 := ab_sound (tr := ck_tr2) (T := ck_T13) (cs := []) (hs := ck_h216) (sp := []) (fuel := 33) l ck_TSgood ck_okCl ck_okDt (M0 := ck_m174) rfl ck_okT13 ck_nil (by decide +kernel)
/-- SLModel.hand -/
def ck_c217 : ab_C := (185, 101, [.inr (0, 77), .inl ((-2147483648), 2147483647), .inl ((-2147483648), 2147483647), .inl ((-2147483648), 2147483647)], [((77, 1, 1, 1), .inr (0, 78))], [(77, 0, 1, 1), (78, 204, 2, 4), (78, 205, 2, 4)], [(some (.inl ((-1), (-1))), [((-2147483648), (-1)), ((-2147483648), 2147483647), ((-2147483648), 2147483647)], [((77, 0, 1, 1), .inl ((-1), (-1)))], 101), (some (.inl ((-1), (-1))), [(4, 2147483647), ((-2147483648), 2147483647), ((-2147483648), 2147483647)], [((77, 0, 1, 1), .inl ((-1), (-1)))], 101), (some (.inl ((-1), (-1))), [(0, 3), ((-2147483648), (-1)), ((-2147483648), 2147483647)], [((77, 0, 1, 1), .inl ((-1), (-1)))], 101), (some (.inl ((-1), (-1))), [(0, 3), (101, 2147483647), ((-2147483648), 2147483647)], [((77, 0, 1, 1), .inl ((-1), (-1)))], 101), (some (.inl ((-1), (-1))), [(0, 3), (0, 100), ((-2147483648), (-1))], [((77, 0, 1, 1), .inl ((-1), (-1)))], 101), (some (.inl ((-1), (-1))), [(0, 3), (0, 100), (101, 2147483647)], [((77, 0, 1, 1), .inl ((-1), (-1)))], 101), (some (.inl (0, 0)), [(0, 3), (0, 100), (0, 100)], [((77, 0, 1, 1), .inl (0, 0))], 101)], 1, 22, 0, 0)
def ck_h217 : List ab_Hd := []
set_option maxRecDepth 100000 in
theorem ck_k217 (l : Launch) (D : va_G) (st : Nat → Nat) : ck_Mt gk_G l D st ck_c217 := ab_sound (tr := ck_tr2) (T := ck_T13) (cs := [ck_c215, ck_c157, ck_c216, ck_c161]) (hs := ck_h217) (sp := []) (fuel := 63) l ck_TSgood ck_okCl ck_okDt (M0 := ck_m185) rfl ck_okT13 (ck_cons (ck_k215 l D st) (ck_cons (ck_k157 l D st) (ck_cons (ck_k216 l D st) (ck_cons (ck_k161 l D st) ck_nil)))) (by decide +kernel)
/-- SL.within -/
def ck_c218 : ab_C := (14, 101, [.inl ((-2147483648), 2147483647), .inl (0, 0), .inl (1000000, 1000000)], [], [], [(some (.inl (0, 0)), [((-2147483648), (-1)), (0, 0), (1000000, 1000000)], [], 101), (some (.inl (0, 0)), [(1000001, 2147483647), (0, 0), (1000000, 1000000)], [], 101), (some (.inl (1, 1)), [(0, 1000000), (0, 0), (1000000, 1000000)], [], 101)], 0, 0, 0, 0)
def ck_h218 : List ab_Hd := []
set_option maxRecDepth 100000 in
theorem ck_k218 (l : Launch) (D : va_G) (st : Nat → Nat) : ck_Mt gk_G l D st ck_c218 := ab_sound (tr := ck_tr2) (T := ck_T0) (cs := []) (hs := ck_h218) (sp := []) (fuel := 33) l ck_TSgood ck_okCl ck_okDt (M0 := ck_m14) rfl ck_okT0 ck_nil (by decide +kernel)
/-- SL.seed -/
def ck_c219 : ab_C := (27, 101, [.inr (0, 0), .inl ((-2147483648), 2147483647)], [((0, 0, 1, 1), .inr (0, 1))], [(0, 14, 1, 1), (1, 9, 1, 1)], [(some (.inl ((-1), (-1))), [((-2147483648), (-1))], [((0, 14, 1, 1), .inl ((-1), (-1)))], 101), (some (.inl ((-1), (-1))), [(1000001, 2147483647)], [((0, 14, 1, 1), .inl ((-1), (-1)))], 101), (some (.inl (0, 0)), [(0, 1000000)], [((1, 9, 1, 1), .inl (0, 1000000)), ((0, 14, 1, 1), .inl (0, 0))], 101)], 1, 22, 0, 0)
def ck_h219 : List ab_Hd := []
set_option maxRecDepth 100000 in
theorem ck_k219 (l : Launch) (D : va_G) (st : Nat → Nat) : ck_Mt gk_G l D st ck_c219 := ab_sound (tr := ck_tr2) (T := ck_T0) (cs := [ck_c218, ck_c149, ck_c213]) (hs := ck_h219) (sp := []) (fuel := 37) l ck_TSgood ck_okCl ck_okDt (M0 := ck_m27) rfl ck_okT0 (ck_cons (ck_k218 l D st) (ck_cons (ck_k149 l D st) (ck_cons (ck_k213 l D st) ck_nil))) (by decide +kernel)
/-- SLModel.in -/
def ck_c220 : ab_C := (174, 101, [.inl ((-2147483648), 2147483647), .inl (0, 0), .inl (1000000, 1000000)], [], [], [(some (.inl (0, 0)), [((-2147483648), (-1)), (0, 0), (1000000, 1000000)], [], 101), (some (.inl (0, 0)), [(1000001, 2147483647), (0, 0), (1000000, 1000000)], [], 101), (some (.inl (1, 1)), [(0, 1000000), (0, 0), (1000000, 1000000)], [], 101)], 0, 0, 0, 0)
def ck_h220 : List ab_Hd := []
set_option maxRecDepth 100000 in
theorem ck_k220 (l : Launch) (D : va_G) (st : Nat → Nat) : ck_Mt gk_G l D st ck_c220 := ab_sound (tr := ck_tr2) (T := ck_T13) (cs := []) (hs := ck_h220) (sp := []) (fuel := 33) l ck_TSgood ck_okCl ck_okDt (M0 := ck_m174) rfl ck_okT13 ck_nil (by decide +kernel)
/-- SLModel.seed -/
def ck_c221 : ab_C := (186, 101, [.inr (0, 77), .inl ((-2147483648), 2147483647)], [((77, 1, 1, 1), .inr (0, 78))], [(77, 0, 1, 1), (78, 1295, 144, 1)], [(some (.inl ((-1), (-1))), [((-2147483648), (-1))], [((77, 0, 1, 1), .inl ((-1), (-1)))], 101), (some (.inl ((-1), (-1))), [(1000001, 2147483647)], [((77, 0, 1, 1), .inl ((-1), (-1)))], 101), (some (.inl (0, 0)), [(0, 1000000)], [((78, 1295, 1, 1), .inl (0, 1000000)), ((77, 0, 1, 1), .inl (0, 0))], 101)], 1, 22, 0, 0)
def ck_h221 : List ab_Hd := []
set_option maxRecDepth 100000 in
theorem ck_k221 (l : Launch) (D : va_G) (st : Nat → Nat) : ck_Mt gk_G l D st ck_c221 := ab_sound (tr := ck_tr2) (T := ck_T13) (cs := [ck_c220, ck_c157, ck_c161]) (hs := ck_h221) (sp := []) (fuel := 38) l ck_TSgood ck_okCl ck_okDt (M0 := ck_m186) rfl ck_okT13 (ck_cons (ck_k220 l D st) (ck_cons (ck_k157 l D st) (ck_cons (ck_k161 l D st) ck_nil))) (by decide +kernel)
/-- SL$Tape.append -/
def ck_c222 : ab_C := (29, 101, [.inr (0, 45), .inl ((-2147483648), 2147483647)], [((45, 0, 1, 1), .inr (0, 46)), ((45, 1, 1, 1), .inl (0, 380))], [(45, 1, 1, 1), (46, 0, 1, 381), (46, 1, 1, 381), (46, 2, 1, 381), (46, 3, 1, 381)], [(none, [((-2147483648), 2147483647)], [((45, 1, 1, 1), .inl (4, 384))], 101)], 0, 0, 0, 0)
def ck_h222 : List ab_Hd := []
set_option maxRecDepth 100000 in
theorem ck_k222 (l : Launch) (D : va_G) (st : Nat → Nat) : ck_Mt gk_G l D st ck_c222 := ab_sound (tr := ck_tr2) (T := ck_T9) (cs := []) (hs := ck_h222) (sp := []) (fuel := 109) l ck_TSgood ck_okCl ck_okDt (M0 := ck_m29) rfl ck_okT9 ck_nil (by decide +kernel)
/-- SL$Tape.append -/
def ck_c223 : ab_C := (29, 101, [.inr (0, 45), .inl ((-2147483648), 2147483647)], [((45, 1, 1, 1), .inl (4, 384)), ((45, 0, 1, 1), .inr (0, 46))], [(45, 1, 1, 1), (46, 4, 1, 381), (46, 5, 1, 381), (46, 6, 1, 381), (46, 7, 1, 381)], [(none, [((-2147483648), 2147483647)], [((45, 1, 1, 1), .inl (8, 388))], 101)], 0, 0, 0, 0)
def ck_h223 : List ab_Hd := []
set_option maxRecDepth 100000 in
theorem ck_k223 (l : Launch) (D : va_G) (st : Nat → Nat) : ck_Mt gk_G l D st ck_c223 := ab_sound (tr := ck_tr2) (T := ck_T9) (cs := []) (hs := ck_h223) (sp := []) (fuel := 109) l ck_TSgood ck_okCl ck_okDt (M0 := ck_m29) rfl ck_okT9 ck_nil (by decide +kernel)
/-- SL$Tape.append -/
def ck_c224 : ab_C := (29, 101, [.inr (0, 45), .inl ((-2147483648), 2147483647)], [((45, 1, 1, 1), .inl (8, 388)), ((45, 0, 1, 1), .inr (0, 46))], [(45, 1, 1, 1), (46, 8, 1, 381), (46, 9, 1, 381), (46, 10, 1, 381), (46, 11, 1, 381)], [(none, [((-2147483648), 2147483647)], [((45, 1, 1, 1), .inl (12, 392))], 101)], 0, 0, 0, 0)
def ck_h224 : List ab_Hd := []
set_option maxRecDepth 100000 in
theorem ck_k224 (l : Launch) (D : va_G) (st : Nat → Nat) : ck_Mt gk_G l D st ck_c224 := ab_sound (tr := ck_tr2) (T := ck_T9) (cs := []) (hs := ck_h224) (sp := []) (fuel := 109) l ck_TSgood ck_okCl ck_okDt (M0 := ck_m29) rfl ck_okT9 ck_nil (by decide +kernel)
/-- SL$Tape.append -/
def ck_c225 : ab_C := (29, 101, [.inr (0, 45), .inl ((-2147483648), 2147483647)], [((45, 1, 1, 1), .inl (12, 392)), ((45, 0, 1, 1), .inr (0, 46))], [(45, 1, 1, 1), (46, 12, 1, 381), (46, 13, 1, 381), (46, 14, 1, 381), (46, 15, 1, 381)], [(none, [((-2147483648), 2147483647)], [((45, 1, 1, 1), .inl (16, 396))], 101)], 0, 0, 0, 0)
def ck_h225 : List ab_Hd := []
set_option maxRecDepth 100000 in
theorem ck_k225 (l : Launch) (D : va_G) (st : Nat → Nat) : ck_Mt gk_G l D st ck_c225 := ab_sound (tr := ck_tr2) (T := ck_T9) (cs := []) (hs := ck_h225) (sp := []) (fuel := 109) l ck_TSgood ck_okCl ck_okDt (M0 := ck_m29) rfl ck_okT9 ck_nil (by decide +kernel)
/-- SL$Tape.append -/
def ck_c226 : ab_C := (29, 101, [.inr (0, 45), .inl ((-2147483648), 2147483647)], [((45, 1, 1, 1), .inl (16, 396)), ((45, 0, 1, 1), .inr (0, 46))], [(45, 1, 1, 1), (46, 16, 1, 381), (46, 17, 1, 381), (46, 18, 1, 381), (46, 19, 1, 381)], [(none, [((-2147483648), 2147483647)], [((45, 1, 1, 1), .inl (20, 400))], 101)], 0, 0, 0, 0)
def ck_h226 : List ab_Hd := []
set_option maxRecDepth 100000 in
theorem ck_k226 (l : Launch) (D : va_G) (st : Nat → Nat) : ck_Mt gk_G l D st ck_c226 := ab_sound (tr := ck_tr2) (T := ck_T9) (cs := []) (hs := ck_h226) (sp := []) (fuel := 109) l ck_TSgood ck_okCl ck_okDt (M0 := ck_m29) rfl ck_okT9 ck_nil (by decide +kernel)
/-- SL.feed -/
def ck_c227 : ab_C := (28, 101, [.inr (0, 0), .inl ((-2147483648), 2147483647), .inl ((-2147483648), 2147483647), .inl ((-2147483648), 2147483647), .inl ((-2147483648), 2147483647), .inl ((-2147483648), 2147483647)], [((45, 0, 1, 1), .inr (0, 46)), ((45, 1, 1, 1), .inl (0, 400)), ((0, 3, 1, 1), .inr (0, 45))], [(45, 1, 1, 1), (46, 0, 1, 381), (46, 1, 1, 381), (46, 2, 1, 381), (46, 3, 1, 381), (46, 4, 1, 381), (46, 5, 1, 381), (46, 6, 1, 381), (46, 7, 1, 381), (46, 8, 1, 381), (46, 9, 1, 381), (46, 10, 1, 381), (46, 11, 1, 381), (46, 12, 1, 381), (46, 13, 1, 381), (46, 14, 1, 381), (46, 15, 1, 381), (46, 16, 1, 381), (46, 17, 1, 381), (46, 18, 1, 381), (46, 19, 1, 381)], [(some (.inl (20, 400)), [((-2147483648), 2147483647), ((-2147483648), 2147483647), ((-2147483648), 2147483647), ((-2147483648), 2147483647), ((-2147483648), 2147483647)], [((45, 1, 1, 1), .inl (20, 400))], 101), (some (.inl ((-1), (-1))), [((-2147483648), 2147483647), ((-2147483648), 2147483647), ((-2147483648), 2147483647), ((-2147483648), 2147483647), ((-2147483648), 2147483647)], [((45, 1, 1, 1), .inl (381, 400))], 101)], 1, 22, 0, 0)
def ck_h227 : List ab_Hd := []
set_option maxRecDepth 100000 in
theorem ck_k227 (l : Launch) (D : va_G) (st : Nat → Nat) : ck_Mt gk_G l D st ck_c227 := ab_sound (tr := ck_tr2) (T := ck_T0) (cs := [ck_c222, ck_c223, ck_c224, ck_c225, ck_c226]) (hs := ck_h227) (sp := []) (fuel := 55) l ck_TSgood ck_okCl ck_okDt (M0 := ck_m28) rfl ck_okT0 (ck_cons (ck_k222 l D st) (ck_cons (ck_k223 l D st) (ck_cons (ck_k224 l D st) (ck_cons (ck_k225 l D st) (ck_cons (ck_k226 l D st) ck_nil))))) (by decide +kernel)
/-- SLModel.feed -/
def ck_c228 : ab_C := (187, 101, [.inr (0, 77), .inl ((-2147483648), 2147483647), .inl ((-2147483648), 2147483647), .inl ((-2147483648), 2147483647), .inl ((-2147483648), 2147483647), .inl ((-2147483648), 2147483647)], [((82, 0, 1, 400), .inl ((-128), 127)), ((77, 5, 1, 1), .inr (0, 82)), ((77, 6, 1, 1), .inr (0, 83)), ((77, 7, 1, 1), .inl (0, 400))], [(77, 7, 1, 1), (82, 0, 1, 400), (83, 0, 144, 1), (83, 1, 144, 1), (83, 2, 144, 1), (83, 3, 144, 1), (83, 4, 144, 1)], [(some (.inl (20, 400)), [((-2147483648), 2147483647), ((-2147483648), 2147483647), ((-2147483648), 2147483647), ((-2147483648), 2147483647), ((-2147483648), 2147483647)], [((82, 0, 1, 400), .inl ((-128), 127)), ((77, 7, 1, 1), .inl (20, 400))], 101), (some (.inl ((-1), (-1))), [((-2147483648), 2147483647), ((-2147483648), 2147483647), ((-2147483648), 2147483647), ((-2147483648), 2147483647), ((-2147483648), 2147483647)], [((82, 0, 1, 400), .inl ((-128), 127)), ((77, 7, 1, 1), .inl (381, 400))], 101)], 0, 0, 0, 0)
def ck_h228 : List ab_Hd := [(55, ([((-2147483648), 2147483647, 0, (0, 0, 0)), ((-2147483648), 2147483647, 0, (0, 0, 0)), ((-2147483648), 2147483647, 0, (0, 0, 0)), ((-2147483648), 2147483647, 0, (0, 0, 0)), ((-2147483648), 2147483647, 0, (0, 0, 0)), (0, 20, 0, (0, 0, 0))], [(6, .inl (5, 1, 0)), (0, .inr (0, 77)), (1, .inl (0, 1, 0)), (2, .inl (1, 1, 0)), (3, .inl (2, 1, 0)), (4, .inl (3, 1, 0)), (5, .inl (4, 1, 0))], [], ([((82, 0, 1, 400), .inl ((-128), 127)), ((77, 5, 1, 1), .inr (0, 82)), ((77, 6, 1, 1), .inr (0, 83)), ((77, 7, 1, 1), .inl (0, 380))], []), 101, 0, 0), 5, 0)]
set_option maxRecDepth 100000 in
theorem ck_k228 (l : Launch) (D : va_G) (st : Nat → Nat) : ck_Mt gk_G l D st ck_c228 := ab_sound (tr := ck_tr2) (T := ck_T13) (cs := []) (hs := ck_h228) (sp := []) (fuel := 85) l ck_TSgood ck_okCl ck_okDt (M0 := ck_m187) rfl ck_okT13 ck_nil (by decide +kernel)
/-- SL.within -/
def ck_c229 : ab_C := (14, 101, [.inl ((-2147483648), 2147483647), .inl (0, 0), .inl (0, 400)], [], [], [(some (.inl (0, 0)), [((-2147483648), (-1)), (0, 0), (0, 400)], [], 101), (some (.inl (0, 0)), [(1, 2147483647), (0, 0), (0, 400)], [], 101), (some (.inl (1, 1)), [(0, 400), (0, 0), (0, 400)], [], 101)], 0, 0, 0, 0)
def ck_h229 : List ab_Hd := []
set_option maxRecDepth 100000 in
theorem ck_k229 (l : Launch) (D : va_G) (st : Nat → Nat) : ck_Mt gk_G l D st ck_c229 := ab_sound (tr := ck_tr2) (T := ck_T0) (cs := []) (hs := ck_h229) (sp := []) (fuel := 33) l ck_TSgood ck_okCl ck_okDt (M0 := ck_m14) rfl ck_okT0 ck_nil (by decide +kernel)
/-- SL.end -/
def ck_c230 : ab_C := (30, 101, [.inr (0, 0), .inl ((-2147483648), 2147483647)], [((45, 1, 1, 1), .inl (0, 400)), ((0, 3, 1, 1), .inr (0, 45))], [(45, 1, 1, 1)], [(some (.inl ((-1), (-1))), [((-2147483648), (-1))], [((45, 1, 1, 1), .inl (0, 400))], 101), (some (.inl ((-1), (-1))), [(1, 2147483647)], [((45, 1, 1, 1), .inl (0, 400))], 101), (some (.inl (0, 400)), [(0, 400)], [((45, 1, 1, 1), .inl (0, 400))], 101)], 1, 22, 0, 0)
def ck_h230 : List ab_Hd := []
set_option maxRecDepth 100000 in
theorem ck_k230 (l : Launch) (D : va_G) (st : Nat → Nat) : ck_Mt gk_G l D st ck_c230 := ab_sound (tr := ck_tr2) (T := ck_T0) (cs := [ck_c229]) (hs := ck_h230) (sp := []) (fuel := 37) l ck_TSgood ck_okCl ck_okDt (M0 := ck_m30) rfl ck_okT0 (ck_cons (ck_k229 l D st) ck_nil) (by decide +kernel)
/-- SLModel.in -/
def ck_c231 : ab_C := (174, 101, [.inl ((-2147483648), 2147483647), .inl (0, 0), .inl (0, 400)], [], [], [(some (.inl (0, 0)), [((-2147483648), (-1)), (0, 0), (0, 400)], [], 101), (some (.inl (0, 0)), [(1, 2147483647), (0, 0), (0, 400)], [], 101), (some (.inl (1, 1)), [(0, 400), (0, 0), (0, 400)], [], 101)], 0, 0, 0, 0)
def ck_h231 : List ab_Hd := []
set_option maxRecDepth 100000 in
theorem ck_k231 (l : Launch) (D : va_G) (st : Nat → Nat) : ck_Mt gk_G l D st ck_c231 := ab_sound (tr := ck_tr2) (T := ck_T13) (cs := []) (hs := ck_h231) (sp := []) (fuel := 33) l ck_TSgood ck_okCl ck_okDt (M0 := ck_m174) rfl ck_okT13 ck_nil (by decide +kernel)
/-- SLModel.end -/
def ck_c232 : ab_C := (188, 101, [.inr (0, 77), .inl ((-2147483648), 2147483647)], [((77, 7, 1, 1), .inl (0, 400))], [(77, 7, 1, 1)], [(some (.inl ((-1), (-1))), [((-2147483648), (-1))], [((77, 7, 1, 1), .inl (0, 400))], 101), (some (.inl ((-1), (-1))), [(1, 2147483647)], [((77, 7, 1, 1), .inl (0, 400))], 101), (some (.inl (0, 400)), [(0, 400)], [((77, 7, 1, 1), .inl (0, 400))], 101)], 1, 22, 0, 0)
def ck_h232 : List ab_Hd := []
set_option maxRecDepth 100000 in
theorem ck_k232 (l : Launch) (D : va_G) (st : Nat → Nat) : ck_Mt gk_G l D st ck_c232 := ab_sound (tr := ck_tr2) (T := ck_T13) (cs := [ck_c231]) (hs := ck_h232) (sp := []) (fuel := 35) l ck_TSgood ck_okCl ck_okDt (M0 := ck_m188) rfl ck_okT13 (ck_cons (ck_k231 l D st) ck_nil) (by decide +kernel)
/-- SL.fault -/
def ck_c233 : ab_C := (59, 101, [.inr (0, 0)], [], [], [(some (.inl ((-2147483648), 2147483647)), [], [], 101)], 0, 0, 0, 0)
def ck_h233 : List ab_Hd := []
set_option maxRecDepth 100000 in
theorem ck_k233 (l : Launch) (D : va_G) (st : Nat → Nat) : ck_Mt gk_G l D st ck_c233 := ab_sound (tr := ck_tr2) (T := ck_T0) (cs := []) (hs := ck_h233) (sp := []) (fuel := 27) l ck_TSgood ck_okCl ck_okDt (M0 := ck_m59) rfl ck_okT0 ck_nil (by decide +kernel)
/-- SLModel.fault -/
def ck_c234 : ab_C := (209, 101, [.inr (0, 77)], [], [], [(some (.inl ((-2147483648), 2147483647)), [], [], 101)], 0, 0, 0, 0)
def ck_h234 : List ab_Hd := []
set_option maxRecDepth 100000 in
theorem ck_k234 (l : Launch) (D : va_G) (st : Nat → Nat) : ck_Mt gk_G l D st ck_c234 := ab_sound (tr := ck_tr2) (T := ck_T13) (cs := []) (hs := ck_h234) (sp := []) (fuel := 27) l ck_TSgood ck_okCl ck_okDt (M0 := ck_m209) rfl ck_okT13 ck_nil (by decide +kernel)
/-- SL.within -/
def ck_c235 : ab_C := (14, 101, [.inl ((-2147483648), 2147483647), .inl (0, 0), .inl ((-1), 9)], [], [], [(some (.inl (0, 0)), [((-2147483648), (-1)), (0, 0), ((-1), 9)], [], 101), (some (.inl (0, 0)), [(0, 2147483647), (0, 0), ((-1), 9)], [], 101), (some (.inl (1, 1)), [(0, 9), (0, 0), (0, 9)], [], 101)], 0, 0, 0, 0)
def ck_h235 : List ab_Hd := []
set_option maxRecDepth 100000 in
theorem ck_k235 (l : Launch) (D : va_G) (st : Nat → Nat) : ck_Mt gk_G l D st ck_c235 := ab_sound (tr := ck_tr2) (T := ck_T0) (cs := []) (hs := ck_h235) (sp := []) (fuel := 33) l ck_TSgood ck_okCl ck_okDt (M0 := ck_m14) rfl ck_okT0 ck_nil (by decide +kernel)
/-- SL.accept -/
def ck_c236 : ab_C := (17, 101, [.inr (0, 0), .inl ((-1), 9)], [], [(0, 14, 1, 1)], [(some (.inl ((-1), 9)), [((-1), 9)], [((0, 14, 1, 1), .inl (0, 0))], 101)], 0, 0, 0, 0)
def ck_h236 : List ab_Hd := []
set_option maxRecDepth 100000 in
theorem ck_k236 (l : Launch) (D : va_G) (st : Nat → Nat) : ck_Mt gk_G l D st ck_c236 := ab_sound (tr := ck_tr2) (T := ck_T0) (cs := []) (hs := ck_h236) (sp := []) (fuel := 29) l ck_TSgood ck_okCl ck_okDt (M0 := ck_m17) rfl ck_okT0 ck_nil (by decide +kernel)
/-- SL.law -/
def ck_c237 : ab_C := (60, 101, [.inr (0, 0), .inl ((-2147483648), 2147483647)], [((1, 10, 1, 1), .inl ((-1), 9)), ((1, 11, 1, 1), .inl (0, 10)), ((0, 0, 1, 1), .inr (0, 1))], [(0, 14, 1, 1), (1, 10, 1, 1)], [(some (.inl ((-2), (-2))), [((-2147483648), (-1))], [((0, 14, 1, 1), .inl ((-2), (-2))), ((1, 10, 1, 1), .inl ((-1), 9))], 101), (some (.inl ((-2), (-2))), [(0, 2147483647)], [((0, 14, 1, 1), .inl ((-2), (-2))), ((1, 10, 1, 1), .inl ((-1), 9))], 101), (some (.inl ((-1), 9)), [(0, 9)], [((0, 14, 1, 1), .inl (0, 0)), ((1, 10, 1, 1), .inl (0, 9)), ((1, 11, 1, 1), .inl (1, 10))], 101)], 1, 22, 0, 0)
def ck_h237 : List ab_Hd := []
set_option maxRecDepth 100000 in
theorem ck_k237 (l : Launch) (D : va_G) (st : Nat → Nat) : ck_Mt gk_G l D st ck_c237 := ab_sound (tr := ck_tr2) (T := ck_T0) (cs := [ck_c235, ck_c181, ck_c236]) (hs := ck_h237) (sp := []) (fuel := 45) l ck_TSgood ck_okCl ck_okDt (M0 := ck_m60) rfl ck_okT0 (ck_cons (ck_k235 l D st) (ck_cons (ck_k181 l D st) (ck_cons (ck_k236 l D st) ck_nil))) (by decide +kernel)
/-- SLModel.in -/
def ck_c238 : ab_C := (174, 101, [.inl ((-2147483648), 2147483647), .inl (0, 0), .inl ((-1), 9)], [], [], [(some (.inl (0, 0)), [((-2147483648), (-1)), (0, 0), ((-1), 9)], [], 101), (some (.inl (0, 0)), [(0, 2147483647), (0, 0), ((-1), 9)], [], 101), (some (.inl (1, 1)), [(0, 9), (0, 0), (0, 9)], [], 101)], 0, 0, 0, 0)
def ck_h238 : List ab_Hd := []
set_option maxRecDepth 100000 in
theorem ck_k238 (l : Launch) (D : va_G) (st : Nat → Nat) : ck_Mt gk_G l D st ck_c238 := ab_sound (tr := ck_tr2) (T := ck_T13) (cs := []) (hs := ck_h238) (sp := []) (fuel := 33) l ck_TSgood ck_okCl ck_okDt (M0 := ck_m174) rfl ck_okT13 ck_nil (by decide +kernel)
/-- SLModel.isText -/
def ck_c239 : ab_C := (211, 101, [.inr (0, 77), .inl ((-2147483648), 2147483647)], [((78, 1294, 1, 1), .inl (0, 10)), ((77, 1, 1, 1), .inr (0, 78))], [], [(some (.inl (0, 0)), [((-2147483648), (-1))], [], 101), (some (.inl (0, 0)), [(0, 2147483647)], [], 101), (some (.inl (1, 1)), [(0, 9)], [((78, 1294, 1, 1), .inl (1, 10))], 101)], 1, 22, 0, 0)
def ck_h239 : List ab_Hd := []
set_option maxRecDepth 100000 in
theorem ck_k239 (l : Launch) (D : va_G) (st : Nat → Nat) : ck_Mt gk_G l D st ck_c239 := ab_sound (tr := ck_tr2) (T := ck_T13) (cs := [ck_c238]) (hs := ck_h239) (sp := []) (fuel := 34) l ck_TSgood ck_okCl ck_okDt (M0 := ck_m211) rfl ck_okT13 (ck_cons (ck_k238 l D st) ck_nil) (by decide +kernel)
