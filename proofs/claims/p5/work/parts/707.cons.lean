/-- SL$Bench.column -/
def ck_c280 : ab_C := (80, 101, [.inr (0, 1), .inl (0, 119), .inl (0, 8)], [((1, 15, 1, 1), .inr (0, 14))], [], [(some (.inl ((-2147483648), 2147483647)), [(0, 119), (0, 8)], [], 101)], 0, 0, 0, 0)
def ck_h280 : List ab_Hd := []
set_option maxRecDepth 100000 in
theorem ck_k280 (l : Launch) (D : va_G) (st : Nat → Nat) : ck_Mt gk_G l D st ck_c280 := ab_sound (tr := ck_tr2) (T := ck_T1) (cs := []) (hs := ck_h280) (sp := []) (fuel := 33) l ck_TSgood ck_okCl ck_okDt (M0 := ck_m80) rfl ck_okT1 ck_nil (by decide +kernel)
/-- SL.of -/
def ck_c281 : ab_C := (78, 101, [.inr (0, 0), .inl ((-2147483648), 2147483647), .inl ((-2147483648), 2147483647)], [((1, 14, 1, 1), .inl (0, 120)), ((1, 15, 1, 1), .inr (0, 14)), ((0, 0, 1, 1), .inr (0, 1))], [], [(some (.inl ((-1), (-1))), [((-2147483648), (-1)), ((-2147483648), 2147483647)], [], 101), (some (.inl ((-1), (-1))), [(0, 2147483647), ((-2147483648), 2147483647)], [], 101), (some (.inl ((-1), (-1))), [(0, 119), ((-2147483648), (-1))], [((1, 14, 1, 1), .inl (1, 120))], 101), (some (.inl ((-1), (-1))), [(0, 119), (9, 2147483647)], [((1, 14, 1, 1), .inl (1, 120))], 101), (some (.inl ((-2147483648), 2147483647)), [(0, 119), (0, 8)], [((1, 14, 1, 1), .inl (1, 120))], 101)], 2, 43, 0, 0)
def ck_h281 : List ab_Hd := []
set_option maxRecDepth 100000 in
theorem ck_k281 (l : Launch) (D : va_G) (st : Nat → Nat) : ck_Mt gk_G l D st ck_c281 := ab_sound (tr := ck_tr2) (T := ck_T0) (cs := [ck_c278, ck_c279, ck_c280]) (hs := ck_h281) (sp := []) (fuel := 40) l ck_TSgood ck_okCl ck_okDt (M0 := ck_m78) rfl ck_okT0 (ck_cons (ck_k278 l D st) (ck_cons (ck_k279 l D st) (ck_cons (ck_k280 l D st) ck_nil))) (by decide +kernel)
/-- SLModel.in -/
def ck_c282 : ab_C := (174, 101, [.inl ((-2147483648), 2147483647), .inl (0, 0), .inl ((-1), 119)], [], [], [(some (.inl (0, 0)), [((-2147483648), (-1)), (0, 0), ((-1), 119)], [], 101), (some (.inl (0, 0)), [(0, 2147483647), (0, 0), ((-1), 119)], [], 101), (some (.inl (1, 1)), [(0, 119), (0, 0), (0, 119)], [], 101)], 0, 0, 0, 0)
def ck_h282 : List ab_Hd := []
set_option maxRecDepth 100000 in
theorem ck_k282 (l : Launch) (D : va_G) (st : Nat → Nat) : ck_Mt gk_G l D st ck_c282 := ab_sound (tr := ck_tr2) (T := ck_T13) (cs := []) (hs := ck_h282) (sp := []) (fuel := 33) l ck_TSgood ck_okCl ck_okDt (M0 := ck_m174) rfl ck_okT13 ck_nil (by decide +kernel)
/-- SLModel.isTrial -/
def ck_c283 : ab_C := (233, 101, [.inr (0, 77), .inl ((-2147483648), 2147483647)], [((78, 1293, 1, 1), .inl (0, 120)), ((77, 1, 1, 1), .inr (0, 78))], [], [(some (.inl (0, 0)), [((-2147483648), (-1))], [], 101), (some (.inl (0, 0)), [(0, 2147483647)], [], 101), (some (.inl (1, 1)), [(0, 119)], [((78, 1293, 1, 1), .inl (1, 120))], 101)], 1, 22, 0, 0)
def ck_h283 : List ab_Hd := []
set_option maxRecDepth 100000 in
theorem ck_k283 (l : Launch) (D : va_G) (st : Nat → Nat) : ck_Mt gk_G l D st ck_c283 := ab_sound (tr := ck_tr2) (T := ck_T13) (cs := [ck_c282]) (hs := ck_h283) (sp := []) (fuel := 34) l ck_TSgood ck_okCl ck_okDt (M0 := ck_m233) rfl ck_okT13 (ck_cons (ck_k282 l D st) ck_nil) (by decide +kernel)
/-- SLModel.in -/
def ck_c284 : ab_C := (174, 101, [.inl ((-2147483648), 2147483647), .inl (0, 0), .inl (8, 8)], [], [], [(some (.inl (0, 0)), [((-2147483648), (-1)), (0, 0), (8, 8)], [], 101), (some (.inl (0, 0)), [(9, 2147483647), (0, 0), (8, 8)], [], 101), (some (.inl (1, 1)), [(0, 8), (0, 0), (8, 8)], [], 101)], 0, 0, 0, 0)
def ck_h284 : List ab_Hd := []
set_option maxRecDepth 100000 in
theorem ck_k284 (l : Launch) (D : va_G) (st : Nat → Nat) : ck_Mt gk_G l D st ck_c284 := ab_sound (tr := ck_tr2) (T := ck_T13) (cs := []) (hs := ck_h284) (sp := []) (fuel := 33) l ck_TSgood ck_okCl ck_okDt (M0 := ck_m174) rfl ck_okT13 ck_nil (by decide +kernel)
/-- SLModel.trialOf -/
def ck_c285 : ab_C := (234, 101, [.inr (0, 77), .inl (0, 119), .inl (0, 8)], [((77, 1, 1, 1), .inr (0, 78))], [], [(some (.inl ((-2147483648), 2147483647)), [(0, 119), (0, 8)], [], 101)], 0, 0, 0, 0)
def ck_h285 : List ab_Hd := []
set_option maxRecDepth 100000 in
theorem ck_k285 (l : Launch) (D : va_G) (st : Nat → Nat) : ck_Mt gk_G l D st ck_c285 := ab_sound (tr := ck_tr2) (T := ck_T13) (cs := []) (hs := ck_h285) (sp := []) (fuel := 35) l ck_TSgood ck_okCl ck_okDt (M0 := ck_m234) rfl ck_okT13 ck_nil (by decide +kernel)
/-- SLModel.of -/
def ck_c286 : ab_C := (232, 101, [.inr (0, 77), .inl ((-2147483648), 2147483647), .inl ((-2147483648), 2147483647)], [((78, 1293, 1, 1), .inl (0, 120)), ((77, 1, 1, 1), .inr (0, 78))], [], [(some (.inl ((-1), (-1))), [((-2147483648), (-1)), ((-2147483648), 2147483647)], [], 101), (some (.inl ((-1), (-1))), [(0, 2147483647), ((-2147483648), 2147483647)], [], 101), (some (.inl ((-1), (-1))), [(0, 119), ((-2147483648), (-1))], [((78, 1293, 1, 1), .inl (1, 120))], 101), (some (.inl ((-1), (-1))), [(0, 119), (9, 2147483647)], [((78, 1293, 1, 1), .inl (1, 120))], 101), (some (.inl ((-2147483648), 2147483647)), [(0, 119), (0, 8)], [((78, 1293, 1, 1), .inl (1, 120))], 101)], 2, 43, 0, 0)
def ck_h286 : List ab_Hd := []
set_option maxRecDepth 100000 in
theorem ck_k286 (l : Launch) (D : va_G) (st : Nat → Nat) : ck_Mt gk_G l D st ck_c286 := ab_sound (tr := ck_tr2) (T := ck_T13) (cs := [ck_c283, ck_c284, ck_c285]) (hs := ck_h286) (sp := []) (fuel := 39) l ck_TSgood ck_okCl ck_okDt (M0 := ck_m232) rfl ck_okT13 (ck_cons (ck_k283 l D st) (ck_cons (ck_k284 l D st) (ck_cons (ck_k285 l D st) ck_nil))) (by decide +kernel)
/-- SL$Bench.column -/
def ck_c287 : ab_C := (80, 101, [.inr (0, 1), .inl (0, 119), .inl (5, 5)], [((1, 15, 1, 1), .inr (0, 14))], [], [(some (.inl ((-2147483648), 2147483647)), [(0, 119), (5, 5)], [], 101)], 0, 0, 0, 0)
def ck_h287 : List ab_Hd := []
set_option maxRecDepth 100000 in
theorem ck_k287 (l : Launch) (D : va_G) (st : Nat → Nat) : ck_Mt gk_G l D st ck_c287 := ab_sound (tr := ck_tr2) (T := ck_T1) (cs := []) (hs := ck_h287) (sp := []) (fuel := 33) l ck_TSgood ck_okCl ck_okDt (M0 := ck_m80) rfl ck_okT1 ck_nil (by decide +kernel)
/-- SL$Bench.column -/
def ck_c288 : ab_C := (80, 101, [.inr (0, 1), .inl (0, 119), .inl (8, 8)], [((1, 15, 1, 1), .inr (0, 14))], [], [(some (.inl ((-2147483648), 2147483647)), [(0, 119), (8, 8)], [], 101)], 0, 0, 0, 0)
def ck_h288 : List ab_Hd := []
set_option maxRecDepth 100000 in
theorem ck_k288 (l : Launch) (D : va_G) (st : Nat → Nat) : ck_Mt gk_G l D st ck_c288 := ab_sound (tr := ck_tr2) (T := ck_T1) (cs := []) (hs := ck_h288) (sp := []) (fuel := 33) l ck_TSgood ck_okCl ck_okDt (M0 := ck_m80) rfl ck_okT1 ck_nil (by decide +kernel)
/-- SL$Bench.letFallOut -/
def ck_c289 : ab_C := (82, 101, [.inr (0, 1), .inl (0, 119)], [((1, 15, 1, 1), .inr (0, 14))], [(14, 8, 9, 120)], [(none, [(0, 119)], [], 101)], 0, 0, 0, 0)
def ck_h289 : List ab_Hd := []
set_option maxRecDepth 100000 in
theorem ck_k289 (l : Launch) (D : va_G) (st : Nat → Nat) : ck_Mt gk_G l D st ck_c289 := ab_sound (tr := ck_tr2) (T := ck_T1) (cs := []) (hs := ck_h289) (sp := []) (fuel := 34) l ck_TSgood ck_okCl ck_okDt (M0 := ck_m82) rfl ck_okT1 ck_nil (by decide +kernel)
/-- SL.found -/
def ck_c290 : ab_C := (81, 101, [.inr (0, 0), .inl ((-2147483648), 2147483647)], [((1, 14, 1, 1), .inl (0, 120)), ((1, 15, 1, 1), .inr (0, 14)), ((0, 0, 1, 1), .inr (0, 1))], [(0, 14, 1, 1), (14, 8, 9, 120)], [(some (.inl ((-2), (-2))), [((-2147483648), (-1))], [((0, 14, 1, 1), .inl ((-2), (-2)))], 101), (some (.inl ((-2), (-2))), [(0, 2147483647)], [((0, 14, 1, 1), .inl ((-2), (-2)))], 101), (some (.inl ((-3), (-3))), [(0, 119)], [((0, 14, 1, 1), .inl ((-3), (-3))), ((1, 14, 1, 1), .inl (1, 120))], 101), (some (.inl (0, 0)), [(0, 119)], [((0, 14, 1, 1), .inl (0, 0)), ((1, 14, 1, 1), .inl (1, 120))], 101)], 2, 43, 0, 0)
def ck_h290 : List ab_Hd := []
set_option maxRecDepth 100000 in
theorem ck_k290 (l : Launch) (D : va_G) (st : Nat → Nat) : ck_Mt gk_G l D st ck_c290 := ab_sound (tr := ck_tr2) (T := ck_T0) (cs := [ck_c278, ck_c181, ck_c287, ck_c250, ck_c288, ck_c289, ck_c213]) (hs := ck_h290) (sp := []) (fuel := 50) l ck_TSgood ck_okCl ck_okDt (M0 := ck_m81) rfl ck_okT0 (ck_cons (ck_k278 l D st) (ck_cons (ck_k181 l D st) (ck_cons (ck_k287 l D st) (ck_cons (ck_k250 l D st) (ck_cons (ck_k288 l D st) (ck_cons (ck_k289 l D st) (ck_cons (ck_k213 l D st) ck_nil))))))) (by decide +kernel)
/-- SLModel.trialOf -/
def ck_c291 : ab_C := (234, 101, [.inr (0, 77), .inl (0, 119), .inl (5, 5)], [((77, 1, 1, 1), .inr (0, 78))], [], [(some (.inl ((-2147483648), 2147483647)), [(0, 119), (5, 5)], [], 101)], 0, 0, 0, 0)
def ck_h291 : List ab_Hd := []
set_option maxRecDepth 100000 in
theorem ck_k291 (l : Launch) (D : va_G) (st : Nat → Nat) : ck_Mt gk_G l D st ck_c291 := ab_sound (tr := ck_tr2) (T := ck_T13) (cs := []) (hs := ck_h291) (sp := []) (fuel := 35) l ck_TSgood ck_okCl ck_okDt (M0 := ck_m234) rfl ck_okT13 ck_nil (by decide +kernel)
/-- SLModel.trialOf -/
def ck_c292 : ab_C := (234, 101, [.inr (0, 77), .inl (0, 119), .inl (8, 8)], [((77, 1, 1, 1), .inr (0, 78))], [], [(some (.inl ((-2147483648), 2147483647)), [(0, 119), (8, 8)], [], 101)], 0, 0, 0, 0)
def ck_h292 : List ab_Hd := []
set_option maxRecDepth 100000 in
theorem ck_k292 (l : Launch) (D : va_G) (st : Nat → Nat) : ck_Mt gk_G l D st ck_c292 := ab_sound (tr := ck_tr2) (T := ck_T13) (cs := []) (hs := ck_h292) (sp := []) (fuel := 35) l ck_TSgood ck_okCl ck_okDt (M0 := ck_m234) rfl ck_okT13 ck_nil (by decide +kernel)
/-- SLModel.found -/
def ck_c293 : ab_C := (235, 101, [.inr (0, 77), .inl ((-2147483648), 2147483647)], [((78, 1293, 1, 1), .inl (0, 120)), ((77, 1, 1, 1), .inr (0, 78))], [(77, 0, 1, 1), (78, 220, 9, 120)], [(some (.inl ((-2), (-2))), [((-2147483648), (-1))], [((77, 0, 1, 1), .inl ((-2), (-2)))], 101), (some (.inl ((-2), (-2))), [(0, 2147483647)], [((77, 0, 1, 1), .inl ((-2), (-2)))], 101), (some (.inl ((-3), (-3))), [(0, 119)], [((77, 0, 1, 1), .inl ((-3), (-3))), ((78, 1293, 1, 1), .inl (1, 120))], 101), (some (.inl (0, 0)), [(0, 119)], [((77, 0, 1, 1), .inl (0, 0)), ((78, 1293, 1, 1), .inl (1, 120))], 101)], 2, 43, 0, 0)
def ck_h293 : List ab_Hd := []
set_option maxRecDepth 100000 in
theorem ck_k293 (l : Launch) (D : va_G) (st : Nat → Nat) : ck_Mt gk_G l D st ck_c293 := ab_sound (tr := ck_tr2) (T := ck_T13) (cs := [ck_c283, ck_c190, ck_c291, ck_c259, ck_c292, ck_c161]) (hs := ck_h293) (sp := []) (fuel := 55) l ck_TSgood ck_okCl ck_okDt (M0 := ck_m235) rfl ck_okT13 (ck_cons (ck_k283 l D st) (ck_cons (ck_k190 l D st) (ck_cons (ck_k291 l D st) (ck_cons (ck_k259 l D st) (ck_cons (ck_k292 l D st) (ck_cons (ck_k161 l D st) ck_nil)))))) (by decide +kernel)
/-- SL.within -/
def ck_c294 : ab_C := (14, 101, [.inl ((-2147483648), 2147483647), .inl (1, 1), .inl (7, 7)], [], [], [(some (.inl (0, 0)), [((-2147483648), 0), (1, 1), (7, 7)], [], 101), (some (.inl (0, 0)), [(8, 2147483647), (1, 1), (7, 7)], [], 101), (some (.inl (1, 1)), [(1, 7), (1, 1), (7, 7)], [], 101)], 0, 0, 0, 0)
def ck_h294 : List ab_Hd := []
set_option maxRecDepth 100000 in
theorem ck_k294 (l : Launch) (D : va_G) (st : Nat → Nat) : ck_Mt gk_G l D st ck_c294 := ab_sound (tr := ck_tr2) (T := ck_T0) (cs := []) (hs := ck_h294) (sp := []) (fuel := 33) l ck_TSgood ck_okCl ck_okDt (M0 := ck_m14) rfl ck_okT0 ck_nil (by decide +kernel)
/-- SL.within -/
def ck_c295 : ab_C := (14, 101, [.inl ((-2147483648), 2147483647), .inl (1, 1), .inl (15, 15)], [], [], [(some (.inl (0, 0)), [((-2147483648), 0), (1, 1), (15, 15)], [], 101), (some (.inl (0, 0)), [(16, 2147483647), (1, 1), (15, 15)], [], 101), (some (.inl (1, 1)), [(1, 15), (1, 1), (15, 15)], [], 101)], 0, 0, 0, 0)
def ck_h295 : List ab_Hd := []
set_option maxRecDepth 100000 in
theorem ck_k295 (l : Launch) (D : va_G) (st : Nat → Nat) : ck_Mt gk_G l D st ck_c295 := ab_sound (tr := ck_tr2) (T := ck_T0) (cs := []) (hs := ck_h295) (sp := []) (fuel := 33) l ck_TSgood ck_okCl ck_okDt (M0 := ck_m14) rfl ck_okT0 ck_nil (by decide +kernel)
/-- SL$Bench.column -/
def ck_c296 : ab_C := (80, 101, [.inr (0, 1), .inl (0, 119), .inl (2, 2)], [((1, 15, 1, 1), .inr (0, 14))], [], [(some (.inl ((-2147483648), 2147483647)), [(0, 119), (2, 2)], [], 101)], 0, 0, 0, 0)
def ck_h296 : List ab_Hd := []
set_option maxRecDepth 100000 in
theorem ck_k296 (l : Launch) (D : va_G) (st : Nat → Nat) : ck_Mt gk_G l D st ck_c296 := ab_sound (tr := ck_tr2) (T := ck_T1) (cs := []) (hs := ck_h296) (sp := []) (fuel := 33) l ck_TSgood ck_okCl ck_okDt (M0 := ck_m80) rfl ck_okT1 ck_nil (by decide +kernel)
/-- SL$Bench.column -/
def ck_c297 : ab_C := (80, 101, [.inr (0, 1), .inl (0, 119), .inl (3, 3)], [((1, 15, 1, 1), .inr (0, 14))], [], [(some (.inl ((-2147483648), 2147483647)), [(0, 119), (3, 3)], [], 101)], 0, 0, 0, 0)
def ck_h297 : List ab_Hd := []
set_option maxRecDepth 100000 in
theorem ck_k297 (l : Launch) (D : va_G) (st : Nat → Nat) : ck_Mt gk_G l D st ck_c297 := ab_sound (tr := ck_tr2) (T := ck_T1) (cs := []) (hs := ck_h297) (sp := []) (fuel := 33) l ck_TSgood ck_okCl ck_okDt (M0 := ck_m80) rfl ck_okT1 ck_nil (by decide +kernel)
/-- SL$Bench.column -/
def ck_c298 : ab_C := (80, 101, [.inr (0, 1), .inl (0, 119), .inl (4, 4)], [((1, 15, 1, 1), .inr (0, 14))], [], [(some (.inl ((-2147483648), 2147483647)), [(0, 119), (4, 4)], [], 101)], 0, 0, 0, 0)
def ck_h298 : List ab_Hd := []
set_option maxRecDepth 100000 in
theorem ck_k298 (l : Launch) (D : va_G) (st : Nat → Nat) : ck_Mt gk_G l D st ck_c298 := ab_sound (tr := ck_tr2) (T := ck_T1) (cs := []) (hs := ck_h298) (sp := []) (fuel := 33) l ck_TSgood ck_okCl ck_okDt (M0 := ck_m80) rfl ck_okT1 ck_nil (by decide +kernel)
/-- SL$Bench.counts -/
def ck_c299 : ab_C := (84, 101, [.inr (0, 1), .inl (0, 119)], [((1, 16, 1, 1), .inl (1, 7)), ((1, 17, 1, 1), .inl (1, 15)), ((1, 18, 1, 1), .inl (1, 15)), ((1, 15, 1, 1), .inr (0, 14))], [], [(some (.inl (0, 0)), [(0, 119)], [], 101), (some (.inl (1, 1)), [(0, 119)], [], 101)], 1, 22, 0, 0)
def ck_h299 : List ab_Hd := []
set_option maxRecDepth 100000 in
theorem ck_k299 (l : Launch) (D : va_G) (st : Nat → Nat) : ck_Mt gk_G l D st ck_c299 := ab_sound (tr := ck_tr2) (T := ck_T1) (cs := [ck_c288, ck_c296, ck_c297, ck_c298]) (hs := ck_h299) (sp := []) (fuel := 65) l ck_TSgood ck_okCl ck_okDt (M0 := ck_m84) rfl ck_okT1 (ck_cons (ck_k288 l D st) (ck_cons (ck_k296 l D st) (ck_cons (ck_k297 l D st) (ck_cons (ck_k298 l D st) ck_nil)))) (by decide +kernel)
/-- SL.view -/
def ck_c300 : ab_C := (83, 101, [.inr (0, 0), .inl ((-2147483648), 2147483647), .inl ((-2147483648), 2147483647), .inl ((-2147483648), 2147483647)], [((1, 14, 1, 1), .inl (0, 120)), ((1, 15, 1, 1), .inr (0, 14)), ((0, 0, 1, 1), .inr (0, 1))], [(0, 14, 1, 1), (1, 16, 1, 1), (1, 17, 1, 1), (1, 18, 1, 1)], [(some (.inl ((-1), (-1))), [((-2147483648), 0), ((-2147483648), 2147483647), ((-2147483648), 2147483647)], [((0, 14, 1, 1), .inl ((-1), (-1)))], 101), (some (.inl ((-1), (-1))), [(8, 2147483647), ((-2147483648), 2147483647), ((-2147483648), 2147483647)], [((0, 14, 1, 1), .inl ((-1), (-1)))], 101), (some (.inl ((-1), (-1))), [(1, 7), ((-2147483648), 0), ((-2147483648), 2147483647)], [((0, 14, 1, 1), .inl ((-1), (-1)))], 101), (some (.inl ((-1), (-1))), [(1, 7), (16, 2147483647), ((-2147483648), 2147483647)], [((0, 14, 1, 1), .inl ((-1), (-1)))], 101), (some (.inl ((-1), (-1))), [(1, 7), (1, 15), ((-2147483648), 0)], [((0, 14, 1, 1), .inl ((-1), (-1)))], 101), (some (.inl ((-1), (-1))), [(1, 7), (1, 15), (16, 2147483647)], [((0, 14, 1, 1), .inl ((-1), (-1)))], 101), (some (.inl ((-2147483648), 2147483647)), [(1, 7), (1, 15), (1, 15)], [((0, 14, 1, 1), .inl (0, 0)), ((1, 16, 1, 1), .inl (1, 7)), ((1, 17, 1, 1), .inl (1, 15)), ((1, 18, 1, 1), .inl (1, 15))], 101)], 2, 43, 0, 0)
def ck_h300 : List ab_Hd := [(66, ([(1, 7, 0, (0, 0, 0)), (1, 15, 0, (0, 0, 0)), (1, 15, 0, (0, 0, 0)), (0, 120, 0, (0, 0, 0)), ((-2147483648), 2147483647, 0, (0, 0, 0))], [(5, .inl (3, 1, 0)), (4, .inl (4, 1, 0)), (0, .inr (0, 0)), (1, .inl (0, 1, 0)), (2, .inl (1, 1, 0)), (3, .inl (2, 1, 0))], [], ([((1, 16, 1, 1), .inl (1, 7)), ((1, 17, 1, 1), .inl (1, 15)), ((1, 18, 1, 1), .inl (1, 15)), ((1, 14, 1, 1), .inl (0, 120)), ((1, 15, 1, 1), .inr (0, 14)), ((0, 0, 1, 1), .inr (0, 1))], []), 101, 0, 0), 3, 0)]
set_option maxRecDepth 100000 in
theorem ck_k300 (l : Launch) (D : va_G) (st : Nat → Nat) : ck_Mt gk_G l D st ck_c300 := ab_sound (tr := ck_tr2) (T := ck_T0) (cs := [ck_c294, ck_c149, ck_c295, ck_c147, ck_c299]) (hs := ck_h300) (sp := []) (fuel := 69) l ck_TSgood ck_okCl ck_okDt (M0 := ck_m83) rfl ck_okT0 (ck_cons (ck_k294 l D st) (ck_cons (ck_k149 l D st) (ck_cons (ck_k295 l D st) (ck_cons (ck_k147 l D st) (ck_cons (ck_k299 l D st) ck_nil))))) (by decide +kernel)
/-- SLModel.in -/
def ck_c301 : ab_C := (174, 101, [.inl ((-2147483648), 2147483647), .inl (1, 1), .inl (7, 7)], [], [], [(some (.inl (0, 0)), [((-2147483648), 0), (1, 1), (7, 7)], [], 101), (some (.inl (0, 0)), [(8, 2147483647), (1, 1), (7, 7)], [], 101), (some (.inl (1, 1)), [(1, 7), (1, 1), (7, 7)], [], 101)], 0, 0, 0, 0)
def ck_h301 : List ab_Hd := []
set_option maxRecDepth 100000 in
theorem ck_k301 (l : Launch) (D : va_G) (st : Nat → Nat) : ck_Mt gk_G l D st ck_c301 := ab_sound (tr := ck_tr2) (T := ck_T13) (cs := []) (hs := ck_h301) (sp := []) (fuel := 33) l ck_TSgood ck_okCl ck_okDt (M0 := ck_m174) rfl ck_okT13 ck_nil (by decide +kernel)
/-- SLModel.in -/
def ck_c302 : ab_C := (174, 101, [.inl ((-2147483648), 2147483647), .inl (1, 1), .inl (15, 15)], [], [], [(some (.inl (0, 0)), [((-2147483648), 0), (1, 1), (15, 15)], [], 101), (some (.inl (0, 0)), [(16, 2147483647), (1, 1), (15, 15)], [], 101), (some (.inl (1, 1)), [(1, 15), (1, 1), (15, 15)], [], 101)], 0, 0, 0, 0)
def ck_h302 : List ab_Hd := []
set_option maxRecDepth 100000 in
theorem ck_k302 (l : Launch) (D : va_G) (st : Nat → Nat) : ck_Mt gk_G l D st ck_c302 := ab_sound (tr := ck_tr2) (T := ck_T13) (cs := []) (hs := ck_h302) (sp := []) (fuel := 33) l ck_TSgood ck_okCl ck_okDt (M0 := ck_m174) rfl ck_okT13 ck_nil (by decide +kernel)
/-- SLModel.trialOf -/
def ck_c303 : ab_C := (234, 101, [.inr (0, 77), .inl (0, 119), .inl (2, 2)], [((77, 1, 1, 1), .inr (0, 78))], [], [(some (.inl ((-2147483648), 2147483647)), [(0, 119), (2, 2)], [], 101)], 0, 0, 0, 0)
def ck_h303 : List ab_Hd := []
set_option maxRecDepth 100000 in
theorem ck_k303 (l : Launch) (D : va_G) (st : Nat → Nat) : ck_Mt gk_G l D st ck_c303 := ab_sound (tr := ck_tr2) (T := ck_T13) (cs := []) (hs := ck_h303) (sp := []) (fuel := 35) l ck_TSgood ck_okCl ck_okDt (M0 := ck_m234) rfl ck_okT13 ck_nil (by decide +kernel)
/-- SLModel.trialOf -/
def ck_c304 : ab_C := (234, 101, [.inr (0, 77), .inl (0, 119), .inl (3, 3)], [((77, 1, 1, 1), .inr (0, 78))], [], [(some (.inl ((-2147483648), 2147483647)), [(0, 119), (3, 3)], [], 101)], 0, 0, 0, 0)
def ck_h304 : List ab_Hd := []
set_option maxRecDepth 100000 in
theorem ck_k304 (l : Launch) (D : va_G) (st : Nat → Nat) : ck_Mt gk_G l D st ck_c304 := ab_sound (tr := ck_tr2) (T := ck_T13) (cs := []) (hs := ck_h304) (sp := []) (fuel := 35) l ck_TSgood ck_okCl ck_okDt (M0 := ck_m234) rfl ck_okT13 ck_nil (by decide +kernel)
/-- SLModel.trialOf -/
def ck_c305 : ab_C := (234, 101, [.inr (0, 77), .inl (0, 119), .inl (4, 4)], [((77, 1, 1, 1), .inr (0, 78))], [], [(some (.inl ((-2147483648), 2147483647)), [(0, 119), (4, 4)], [], 101)], 0, 0, 0, 0)
def ck_h305 : List ab_Hd := []
set_option maxRecDepth 100000 in
theorem ck_k305 (l : Launch) (D : va_G) (st : Nat → Nat) : ck_Mt gk_G l D st ck_c305 := ab_sound (tr := ck_tr2) (T := ck_T13) (cs := []) (hs := ck_h305) (sp := []) (fuel := 35) l ck_TSgood ck_okCl ck_okDt (M0 := ck_m234) rfl ck_okT13 ck_nil (by decide +kernel)
/-- SLModel.counts -/
def ck_c306 : ab_C := (237, 101, [.inr (0, 77), .inl (0, 119)], [((78, 1297, 1, 1), .inl (1, 7)), ((78, 1298, 1, 1), .inl (1, 15)), ((78, 1299, 1, 1), .inl (1, 15)), ((77, 1, 1, 1), .inr (0, 78))], [], [(some (.inl (0, 0)), [(0, 119)], [], 101), (some (.inl (1, 1)), [(0, 119)], [], 101)], 1, 22, 0, 0)
def ck_h306 : List ab_Hd := []
set_option maxRecDepth 100000 in
theorem ck_k306 (l : Launch) (D : va_G) (st : Nat → Nat) : ck_Mt gk_G l D st ck_c306 := ab_sound (tr := ck_tr2) (T := ck_T13) (cs := [ck_c292, ck_c303, ck_c304, ck_c305]) (hs := ck_h306) (sp := []) (fuel := 71) l ck_TSgood ck_okCl ck_okDt (M0 := ck_m237) rfl ck_okT13 (ck_cons (ck_k292 l D st) (ck_cons (ck_k303 l D st) (ck_cons (ck_k304 l D st) (ck_cons (ck_k305 l D st) ck_nil)))) (by decide +kernel)
/-- SLModel.view -/
def ck_c307 : ab_C := (236, 101, [.inr (0, 77), .inl ((-2147483648), 2147483647), .inl ((-2147483648), 2147483647), .inl ((-2147483648), 2147483647)], [((78, 1293, 1, 1), .inl (0, 120)), ((77, 1, 1, 1), .inr (0, 78))], [(77, 0, 1, 1), (78, 1297, 144, 1), (78, 1298, 144, 1), (78, 1299, 144, 1)], [(some (.inl ((-1), (-1))), [((-2147483648), 0), ((-2147483648), 2147483647), ((-2147483648), 2147483647)], [((77, 0, 1, 1), .inl ((-1), (-1)))], 101), (some (.inl ((-1), (-1))), [(8, 2147483647), ((-2147483648), 2147483647), ((-2147483648), 2147483647)], [((77, 0, 1, 1), .inl ((-1), (-1)))], 101), (some (.inl ((-1), (-1))), [(1, 7), ((-2147483648), 0), ((-2147483648), 2147483647)], [((77, 0, 1, 1), .inl ((-1), (-1)))], 101), (some (.inl ((-1), (-1))), [(1, 7), (16, 2147483647), ((-2147483648), 2147483647)], [((77, 0, 1, 1), .inl ((-1), (-1)))], 101), (some (.inl ((-1), (-1))), [(1, 7), (1, 15), ((-2147483648), 0)], [((77, 0, 1, 1), .inl ((-1), (-1)))], 101), (some (.inl ((-1), (-1))), [(1, 7), (1, 15), (16, 2147483647)], [((77, 0, 1, 1), .inl ((-1), (-1)))], 101), (some (.inl ((-2147483648), 2147483647)), [(1, 7), (1, 15), (1, 15)], [((77, 0, 1, 1), .inl (0, 0)), ((78, 1297, 1, 1), .inl (1, 7)), ((78, 1298, 1, 1), .inl (1, 15)), ((78, 1299, 1, 1), .inl (1, 15))], 101)], 2, 43, 0, 0)
def ck_h307 : List ab_Hd := [(69, ([(1, 7, 0, (0, 0, 0)), (1, 15, 0, (0, 0, 0)), (1, 15, 0, (0, 0, 0)), (0, 120, 0, (0, 0, 0)), ((-2147483648), 2147483647, 0, (0, 0, 0))], [(5, .inl (3, 1, 0)), (4, .inl (4, 1, 0)), (0, .inr (0, 77)), (1, .inl (0, 1, 0)), (2, .inl (1, 1, 0)), (3, .inl (2, 1, 0))], [], ([((78, 1297, 1, 1), .inl (1, 7)), ((78, 1298, 1, 1), .inl (1, 15)), ((78, 1299, 1, 1), .inl (1, 15)), ((78, 1293, 1, 1), .inl (0, 120)), ((77, 1, 1, 1), .inr (0, 78))], []), 101, 0, 0), 3, 0)]
set_option maxRecDepth 100000 in
theorem ck_k307 (l : Launch) (D : va_G) (st : Nat → Nat) : ck_Mt gk_G l D st ck_c307 := ab_sound (tr := ck_tr2) (T := ck_T13) (cs := [ck_c301, ck_c157, ck_c302, ck_c191, ck_c306]) (hs := ck_h307) (sp := []) (fuel := 76) l ck_TSgood ck_okCl ck_okDt (M0 := ck_m236) rfl ck_okT13 (ck_cons (ck_k301 l D st) (ck_cons (ck_k157 l D st) (ck_cons (ck_k302 l D st) (ck_cons (ck_k191 l D st) (ck_cons (ck_k306 l D st) ck_nil))))) (by decide +kernel)
/-- SL.areTwo -/
def ck_c308 : ab_C := (86, 101, [.inr (0, 0), .inl ((-2147483648), 2147483647), .inl ((-2147483648), 2147483647)], [((1, 0, 1, 1), .inl (0, 12)), ((0, 0, 1, 1), .inr (0, 1))], [], [(some (.inl (0, 0)), [((-2147483648), (-1)), ((-2147483648), 2147483647)], [], 101), (some (.inl (0, 0)), [(0, 2147483647), ((-2147483648), 2147483647)], [], 101), (some (.inl (0, 0)), [(0, 11), ((-2147483648), (-1))], [((1, 0, 1, 1), .inl (1, 12))], 101), (some (.inl (0, 0)), [(0, 11), (0, 2147483647)], [((1, 0, 1, 1), .inl (1, 12))], 101), (some (.inl (0, 0)), [(0, 11), (0, 11)], [((1, 0, 1, 1), .inl (1, 12))], 101), (some (.inl (1, 1)), [(0, 11), (0, 11)], [((1, 0, 1, 1), .inl (1, 12))], 101)], 2, 43, 0, 0)
def ck_h308 : List ab_Hd := []
set_option maxRecDepth 100000 in
theorem ck_k308 (l : Launch) (D : va_G) (st : Nat → Nat) : ck_Mt gk_G l D st ck_c308 := ab_sound (tr := ck_tr2) (T := ck_T0) (cs := [ck_c180]) (hs := ck_h308) (sp := []) (fuel := 40) l ck_TSgood ck_okCl ck_okDt (M0 := ck_m86) rfl ck_okT0 (ck_cons (ck_k180 l D st) ck_nil) (by decide +kernel)
/-- java/util/Arrays.fill -/
def ck_c309 : ab_C := (8, 101, [.inr (0, 54), .inl (0, 0)], [], [(54, 0, 1, 144)], [(none, [(0, 0)], [], 101)], 0, 0, 0, 0)
def ck_h309 : List ab_Hd := [(5, ([(0, 0, 0, (0, 0, 0)), (0, 144, 0, (0, 0, 0))], [(3, .inl (0, 0, 144)), (2, .inl (1, 1, 0)), (0, .inr (0, 54)), (1, .inl (0, 1, 0))], [], ([], []), 101, 0, 0), 1, 0)]
set_option maxRecDepth 100000 in
theorem ck_k309 (l : Launch) (D : va_G) (st : Nat → Nat) : ck_Mt gk_G l D st ck_c309 := ab_sound (tr := ck_tr2) (T := ck_T15) (cs := []) (hs := ck_h309) (sp := []) (fuel := 39) l ck_TSgood ck_okCl ck_okDt (M0 := ck_m8) rfl ck_okT15 ck_nil (by decide +kernel)
/-- java/util/Arrays.fill -/
def ck_c310 : ab_C := (8, 101, [.inr (0, 55), .inl (0, 0)], [], [(55, 0, 1, 12)], [(none, [(0, 0)], [], 101)], 0, 0, 0, 0)
def ck_h310 : List ab_Hd := [(5, ([(0, 0, 0, (0, 0, 0)), (0, 12, 0, (0, 0, 0))], [(3, .inl (0, 0, 12)), (2, .inl (1, 1, 0)), (0, .inr (0, 55)), (1, .inl (0, 1, 0))], [], ([], []), 101, 0, 0), 1, 0)]
set_option maxRecDepth 100000 in
theorem ck_k310 (l : Launch) (D : va_G) (st : Nat → Nat) : ck_Mt gk_G l D st ck_c310 := ab_sound (tr := ck_tr2) (T := ck_T15) (cs := []) (hs := ck_h310) (sp := []) (fuel := 39) l ck_TSgood ck_okCl ck_okDt (M0 := ck_m8) rfl ck_okT15 ck_nil (by decide +kernel)
/-- java/util/Arrays.fill -/
def ck_c311 : ab_C := (8, 101, [.inr (0, 56), .inl (0, 0)], [], [(56, 0, 1, 12)], [(none, [(0, 0)], [], 101)], 0, 0, 0, 0)
def ck_h311 : List ab_Hd := [(5, ([(0, 0, 0, (0, 0, 0)), (0, 12, 0, (0, 0, 0))], [(3, .inl (0, 0, 12)), (2, .inl (1, 1, 0)), (0, .inr (0, 56)), (1, .inl (0, 1, 0))], [], ([], []), 101, 0, 0), 1, 0)]
set_option maxRecDepth 100000 in
theorem ck_k311 (l : Launch) (D : va_G) (st : Nat → Nat) : ck_Mt gk_G l D st ck_c311 := ab_sound (tr := ck_tr2) (T := ck_T15) (cs := []) (hs := ck_h311) (sp := []) (fuel := 39) l ck_TSgood ck_okCl ck_okDt (M0 := ck_m8) rfl ck_okT15 ck_nil (by decide +kernel)
/-- java/util/Arrays.fill -/
def ck_c312 : ab_C := (8, 101, [.inr (0, 58), .inl (0, 0)], [], [(58, 0, 1, 12)], [(none, [(0, 0)], [], 101)], 0, 0, 0, 0)
def ck_h312 : List ab_Hd := [(5, ([(0, 0, 0, (0, 0, 0)), (0, 12, 0, (0, 0, 0))], [(3, .inl (0, 0, 12)), (2, .inl (1, 1, 0)), (0, .inr (0, 58)), (1, .inl (0, 1, 0))], [], ([], []), 101, 0, 0), 1, 0)]
set_option maxRecDepth 100000 in
theorem ck_k312 (l : Launch) (D : va_G) (st : Nat → Nat) : ck_Mt gk_G l D st ck_c312 := ab_sound (tr := ck_tr2) (T := ck_T15) (cs := []) (hs := ck_h312) (sp := []) (fuel := 39) l ck_TSgood ck_okCl ck_okDt (M0 := ck_m8) rfl ck_okT15 ck_nil (by decide +kernel)
/-- SL$Ties.close -/
def ck_c313 : ab_C := (90, 101, [.inr (0, 53)], [((1, 0, 1, 1), .inl (1, 12)), ((53, 0, 1, 1), .inr (0, 1)), ((53, 3, 1, 1), .inr (0, 56)), ((53, 4, 1, 1), .inr (0, 57)), ((1, 0, 1, 1), .inl (1, 12))], [(57, 0, 1, 12)], [(none, [], [], 101)], 1, 41, 0, 0)
def ck_h313 : List ab_Hd := [(17, ([(0, 12, 0, (0, 0, 0))], [(1, .inl (0, 1, 0)), (0, .inr (0, 53))], [], ([((1, 0, 1, 1), .inl (1, 12)), ((53, 0, 1, 1), .inr (0, 1)), ((53, 3, 1, 1), .inr (0, 56)), ((53, 4, 1, 1), .inr (0, 57)), ((1, 0, 1, 1), .inl (1, 12))], []), 101, 0, 0), 0, 0), (30, ([(0, 11, 0, (0, 0, 0)), (0, 12, 0, (0, 0, 0))], [(2, .inl (1, 1, 0)), (1, .inl (0, 1, 0)), (0, .inr (0, 53))], [], ([((1, 0, 1, 1), .inl (1, 12)), ((53, 0, 1, 1), .inr (0, 1)), ((53, 3, 1, 1), .inr (0, 56)), ((53, 4, 1, 1), .inr (0, 57)), ((1, 0, 1, 1), .inl (1, 12))], []), 101, 0, 0), 1, 0)]
set_option maxRecDepth 100000 in
theorem ck_k313 (l : Launch) (D : va_G) (st : Nat → Nat) : ck_Mt gk_G l D st ck_c313 := ab_sound (tr := ck_tr2) (T := ck_T11) (cs := []) (hs := ck_h313) (sp := []) (fuel := 70) l ck_TSgood ck_okCl ck_okDt (M0 := ck_m90) rfl ck_okT11 ck_nil (by decide +kernel)
/-- SL$Bench.counts -/
def ck_c314 : ab_C := (84, 101, [.inr (0, 1), .inl (0, 119)], [((1, 15, 1, 1), .inr (0, 14))], [], [(some (.inl (0, 0)), [(0, 119)], [], 101), (some (.inl (1, 1)), [(0, 119)], [], 101)], 1, 22, 0, 0)
def ck_h314 : List ab_Hd := []
set_option maxRecDepth 100000 in
theorem ck_k314 (l : Launch) (D : va_G) (st : Nat → Nat) : ck_Mt gk_G l D st ck_c314 := ab_sound (tr := ck_tr2) (T := ck_T1) (cs := [ck_c288, ck_c296, ck_c297, ck_c298]) (hs := ck_h314) (sp := []) (fuel := 65) l ck_TSgood ck_okCl ck_okDt (M0 := ck_m84) rfl ck_okT1 (ck_cons (ck_k288 l D st) (ck_cons (ck_k296 l D st) (ck_cons (ck_k297 l D st) (ck_cons (ck_k298 l D st) ck_nil)))) (by decide +kernel)
/-- SL$Bench.column -/
def ck_c315 : ab_C := (80, 101, [.inr (0, 1), .inl (0, 119), .inl (0, 0)], [((14, 0, 9, 120), .inl (0, 11)), ((1, 15, 1, 1), .inr (0, 14))], [], [(some (.inl (0, 11)), [(0, 119), (0, 0)], [], 101)], 0, 0, 0, 0)
def ck_h315 : List ab_Hd := []
set_option maxRecDepth 100000 in
theorem ck_k315 (l : Launch) (D : va_G) (st : Nat → Nat) : ck_Mt gk_G l D st ck_c315 := ab_sound (tr := ck_tr2) (T := ck_T1) (cs := []) (hs := ck_h315) (sp := []) (fuel := 33) l ck_TSgood ck_okCl ck_okDt (M0 := ck_m80) rfl ck_okT1 ck_nil (by decide +kernel)
/-- SL$Bench.column -/
def ck_c316 : ab_C := (80, 101, [.inr (0, 1), .inl (0, 119), .inl (1, 1)], [((14, 1, 9, 120), .inl (0, 11)), ((1, 15, 1, 1), .inr (0, 14))], [], [(some (.inl (0, 11)), [(0, 119), (1, 1)], [], 101)], 0, 0, 0, 0)
def ck_h316 : List ab_Hd := []
set_option maxRecDepth 100000 in
theorem ck_k316 (l : Launch) (D : va_G) (st : Nat → Nat) : ck_Mt gk_G l D st ck_c316 := ab_sound (tr := ck_tr2) (T := ck_T1) (cs := []) (hs := ck_h316) (sp := []) (fuel := 33) l ck_TSgood ck_okCl ck_okDt (M0 := ck_m80) rfl ck_okT1 ck_nil (by decide +kernel)
/-- SL$Bench.speaks -/
def ck_c317 : ab_C := (89, 101, [.inr (0, 1), .inl (0, 119)], [((1, 15, 1, 1), .inr (0, 14))], [], [(some (.inl (0, 0)), [(0, 119)], [], 101), (some (.inl (1, 1)), [(0, 119)], [], 101)], 2, 43, 0, 0)
def ck_h317 : List ab_Hd := []
set_option maxRecDepth 100000 in
theorem ck_k317 (l : Launch) (D : va_G) (st : Nat → Nat) : ck_Mt gk_G l D st ck_c317 := ab_sound (tr := ck_tr2) (T := ck_T1) (cs := [ck_c287, ck_c314]) (hs := ck_h317) (sp := []) (fuel := 42) l ck_TSgood ck_okCl ck_okDt (M0 := ck_m89) rfl ck_okT1 (ck_cons (ck_k287 l D st) (ck_cons (ck_k314 l D st) ck_nil)) (by decide +kernel)
/-- SL$Ties.take -/
def ck_c318 : ab_C := (88, 101, [.inr (0, 53), .inl (0, 119)], [((53, 0, 1, 1), .inr (0, 1)), ((53, 1, 1, 1), .inr (0, 54)), ((53, 2, 1, 1), .inr (0, 55)), ((53, 3, 1, 1), .inr (0, 56)), ((53, 5, 1, 1), .inr (0, 58)), ((14, 0, 9, 120), .inl (0, 11)), ((14, 1, 9, 120), .inl (0, 11)), ((1, 15, 1, 1), .inr (0, 14))], [(54, 0, 1, 144), (55, 0, 1, 12), (56, 0, 1, 12), (58, 0, 1, 12)], [(none, [(0, 119)], [], 101)], 3, 65, 0, 0)
def ck_h318 : List ab_Hd := []
set_option maxRecDepth 100000 in
theorem ck_k318 (l : Launch) (D : va_G) (st : Nat → Nat) : ck_Mt gk_G l D st ck_c318 := ab_sound (tr := ck_tr2) (T := ck_T11) (cs := [ck_c315, ck_c316, ck_c317]) (hs := ck_h318) (sp := []) (fuel := 94) l ck_TSgood ck_okCl ck_okDt (M0 := ck_m88) rfl ck_okT11 (ck_cons (ck_k315 l D st) (ck_cons (ck_k316 l D st) (ck_cons (ck_k317 l D st) ck_nil))) (by decide +kernel)
/-- SL$Ties.look -/
def ck_c319 : ab_C := (87, 101, [.inr (0, 53)], [((1, 0, 1, 1), .inl (1, 12)), ((53, 0, 1, 1), .inr (0, 1)), ((53, 1, 1, 1), .inr (0, 54)), ((53, 2, 1, 1), .inr (0, 55)), ((53, 3, 1, 1), .inr (0, 56)), ((53, 4, 1, 1), .inr (0, 57)), ((53, 5, 1, 1), .inr (0, 58)), ((14, 0, 9, 120), .inl (0, 11)), ((14, 1, 9, 120), .inl (0, 11)), ((1, 0, 1, 1), .inl (0, 12)), ((1, 14, 1, 1), .inl (0, 120)), ((1, 15, 1, 1), .inr (0, 14))], [(54, 0, 1, 144), (55, 0, 1, 12), (56, 0, 1, 12), (57, 0, 1, 12), (58, 0, 1, 12)], [(none, [], [((1, 0, 1, 1), .inl (1, 12))], 101)], 4, 88, 0, 0)
def ck_h319 : List ab_Hd := [(34, ([(0, 120, 0, (0, 0, 0))], [(1, .inl (0, 1, 0)), (0, .inr (0, 53))], [], ([((1, 0, 1, 1), .inl (1, 12)), ((53, 0, 1, 1), .inr (0, 1)), ((53, 1, 1, 1), .inr (0, 54)), ((53, 2, 1, 1), .inr (0, 55)), ((53, 3, 1, 1), .inr (0, 56)), ((53, 4, 1, 1), .inr (0, 57)), ((53, 5, 1, 1), .inr (0, 58)), ((14, 0, 9, 120), .inl (0, 11)), ((14, 1, 9, 120), .inl (0, 11)), ((1, 0, 1, 1), .inl (1, 12)), ((1, 14, 1, 1), .inl (0, 120)), ((1, 15, 1, 1), .inr (0, 14))], []), 101, 0, 0), 0, 0)]
set_option maxRecDepth 100000 in
theorem ck_k319 (l : Launch) (D : va_G) (st : Nat → Nat) : ck_Mt gk_G l D st ck_c319 := ab_sound (tr := ck_tr2) (T := ck_T11) (cs := [ck_c309, ck_c310, ck_c311, ck_c312, ck_c313, ck_c314, ck_c318]) (hs := ck_h319) (sp := []) (fuel := 58) l ck_TSgood ck_okCl ck_okDt (M0 := ck_m87) rfl ck_okT11 (ck_cons (ck_k309 l D st) (ck_cons (ck_k310 l D st) (ck_cons (ck_k311 l D st) (ck_cons (ck_k312 l D st) (ck_cons (ck_k313 l D st) (ck_cons (ck_k314 l D st) (ck_cons (ck_k318 l D st) ck_nil))))))) (by decide +kernel)
