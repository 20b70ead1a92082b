/-- SLModel.over -/
def ck_c240 : ck_C := (88, 101, [.inr (0, 77), .inl (0, 2147483647), .inl ((-2147483648), 2147483647)], [((77, 2), .inr (0, 78)), ((78, 1293), .inl (0, 0))], [], [(some (.inl ((-1), (-1))), [(0, 2147483647), ((-2147483648), 2147483647)], [], 101)], 2, 43, 0, 0)
def ck_h240 : List ck_Hd := []
set_option maxRecDepth 100000 in
theorem ck_k240 (l : Launch) (D : va_G) (st : Nat → Nat) : ck_Mt l D st ck_c240 := ck_sound (T := ck_T13) (cs := [ck_c72]) (hs := ck_h240) (sp := []) (fuel := 30) l ck_TSgood ck_okCl (ck_own (M0 := ck_m88) rfl rfl ck_okT13) (ck_cons (ck_k72 l D st) ck_nil) (by decide +kernel)
/-- java/util/Arrays.fill -/
def ck_c241 : ck_C := (9, 101, [.inr (0, 54), .inl (0, 0)], [((54, 0), .inl (0, 0))], [(54, 0)], [(none, [(0, 0)], [((54, 0), .inl (0, 0))], 101)], 0, 0, 0, 0)
def ck_h241 : List ck_Hd := [(5, ([(0, 0, 0, (0, 0, 0)), (0, 144, 0, (0, 0, 0))], [(3, .inl (0, 0, 144)), (2, .inl (1, 1, 0)), (0, .inr (0, 54)), (1, .inl (0, 1, 0))], [], [((54, 0), .inl (0, 0))], 101, 0, 0), 1, 0)]
set_option maxRecDepth 100000 in
theorem ck_k241 (l : Launch) (D : va_G) (st : Nat → Nat) : ck_Mt l D st ck_c241 := ck_sound (T := ck_T15) (cs := []) (hs := ck_h241) (sp := []) (fuel := 39) l ck_TSgood ck_okCl (ck_own (M0 := ck_m9) rfl rfl ck_okT15) ck_nil (by decide +kernel)
/-- java/util/Arrays.fill -/
def ck_c242 : ck_C := (9, 101, [.inr (0, 55), .inl (0, 0)], [((55, 0), .inl (0, 0))], [(55, 0)], [(none, [(0, 0)], [((55, 0), .inl (0, 0))], 101)], 0, 0, 0, 0)
def ck_h242 : List ck_Hd := [(5, ([(0, 0, 0, (0, 0, 0)), (0, 12, 0, (0, 0, 0))], [(3, .inl (0, 0, 12)), (2, .inl (1, 1, 0)), (0, .inr (0, 55)), (1, .inl (0, 1, 0))], [], [((55, 0), .inl (0, 0))], 101, 0, 0), 1, 0)]
set_option maxRecDepth 100000 in
theorem ck_k242 (l : Launch) (D : va_G) (st : Nat → Nat) : ck_Mt l D st ck_c242 := ck_sound (T := ck_T15) (cs := []) (hs := ck_h242) (sp := []) (fuel := 39) l ck_TSgood ck_okCl (ck_own (M0 := ck_m9) rfl rfl ck_okT15) ck_nil (by decide +kernel)
/-- java/util/Arrays.fill -/
def ck_c243 : ck_C := (9, 101, [.inr (0, 56), .inl (0, 0)], [((56, 0), .inl (0, 0))], [(56, 0)], [(none, [(0, 0)], [((56, 0), .inl (0, 0))], 101)], 0, 0, 0, 0)
def ck_h243 : List ck_Hd := [(5, ([(0, 0, 0, (0, 0, 0)), (0, 12, 0, (0, 0, 0))], [(3, .inl (0, 0, 12)), (2, .inl (1, 1, 0)), (0, .inr (0, 56)), (1, .inl (0, 1, 0))], [], [((56, 0), .inl (0, 0))], 101, 0, 0), 1, 0)]
set_option maxRecDepth 100000 in
theorem ck_k243 (l : Launch) (D : va_G) (st : Nat → Nat) : ck_Mt l D st ck_c243 := ck_sound (T := ck_T15) (cs := []) (hs := ck_h243) (sp := []) (fuel := 39) l ck_TSgood ck_okCl (ck_own (M0 := ck_m9) rfl rfl ck_okT15) ck_nil (by decide +kernel)
/-- java/util/Arrays.fill -/
def ck_c244 : ck_C := (9, 101, [.inr (0, 58), .inl (0, 0)], [((58, 0), .inl (0, 0))], [(58, 0)], [(none, [(0, 0)], [((58, 0), .inl (0, 0))], 101)], 0, 0, 0, 0)
def ck_h244 : List ck_Hd := [(5, ([(0, 0, 0, (0, 0, 0)), (0, 12, 0, (0, 0, 0))], [(3, .inl (0, 0, 12)), (2, .inl (1, 1, 0)), (0, .inr (0, 58)), (1, .inl (0, 1, 0))], [], [((58, 0), .inl (0, 0))], 101, 0, 0), 1, 0)]
set_option maxRecDepth 100000 in
theorem ck_k244 (l : Launch) (D : va_G) (st : Nat → Nat) : ck_Mt l D st ck_c244 := ck_sound (T := ck_T15) (cs := []) (hs := ck_h244) (sp := []) (fuel := 39) l ck_TSgood ck_okCl (ck_own (M0 := ck_m9) rfl rfl ck_okT15) ck_nil (by decide +kernel)
/-- SL$Ties.close -/
def ck_c245 : ck_C := (91, 101, [.inr (0, 53)], [((1, 1), .inl (0, 0)), ((53, 1), .inr (0, 1)), ((53, 4), .inr (0, 56)), ((53, 5), .inr (0, 57)), ((56, 0), .inl (0, 0)), ((57, 0), .inl (0, 0))], [(57, 0)], [(none, [], [((57, 0), .inl (0, 0))], 101)], 1, 41, 0, 0)
def ck_h245 : List ck_Hd := [(17, ([], [(1, .inl (0, 0, 0)), (0, .inr (0, 53))], [], [((1, 1), .inl (0, 0)), ((53, 1), .inr (0, 1)), ((53, 4), .inr (0, 56)), ((53, 5), .inr (0, 57)), ((56, 0), .inl (0, 0)), ((57, 0), .inl (0, 0))], 101, 0, 0), 0, 2)]
set_option maxRecDepth 100000 in
theorem ck_k245 (l : Launch) (D : va_G) (st : Nat → Nat) : ck_Mt l D st ck_c245 := ck_sound (T := ck_T11) (cs := []) (hs := ck_h245) (sp := []) (fuel := 40) l ck_TSgood ck_okCl (ck_own (M0 := ck_m91) rfl rfl ck_okT11) ck_nil (by decide +kernel)
/-- SL$Ties.look -/
def ck_c246 : ck_C := (90, 101, [.inr (0, 53)], [((1, 1), .inl (0, 0)), ((1, 15), .inl (0, 0)), ((53, 1), .inr (0, 1)), ((53, 2), .inr (0, 54)), ((53, 3), .inr (0, 55)), ((53, 4), .inr (0, 56)), ((53, 5), .inr (0, 57)), ((53, 6), .inr (0, 58)), ((54, 0), .inl (0, 0)), ((55, 0), .inl (0, 0)), ((56, 0), .inl (0, 0)), ((57, 0), .inl (0, 0)), ((58, 0), .inl (0, 0))], [(54, 0), (55, 0), (56, 0), (57, 0), (58, 0)], [(none, [], [((54, 0), .inl (0, 0)), ((55, 0), .inl (0, 0)), ((56, 0), .inl (0, 0)), ((57, 0), .inl (0, 0)), ((58, 0), .inl (0, 0))], 101)], 2, 63, 0, 0)
def ck_h246 : List ck_Hd := [(34, ([], [(1, .inl (0, 0, 0)), (0, .inr (0, 53))], [], [((1, 1), .inl (0, 0)), ((1, 15), .inl (0, 0)), ((53, 1), .inr (0, 1)), ((53, 2), .inr (0, 54)), ((53, 3), .inr (0, 55)), ((53, 4), .inr (0, 56)), ((53, 5), .inr (0, 57)), ((53, 6), .inr (0, 58)), ((54, 0), .inl (0, 0)), ((55, 0), .inl (0, 0)), ((56, 0), .inl (0, 0)), ((57, 0), .inl (0, 0)), ((58, 0), .inl (0, 0))], 101, 0, 0), 0, 2)]
set_option maxRecDepth 100000 in
theorem ck_k246 (l : Launch) (D : va_G) (st : Nat → Nat) : ck_Mt l D st ck_c246 := ck_sound (T := ck_T11) (cs := [ck_c241, ck_c242, ck_c243, ck_c244, ck_c245]) (hs := ck_h246) (sp := []) (fuel := 50) l ck_TSgood ck_okCl (ck_own (M0 := ck_m90) rfl rfl ck_okT11) (ck_cons (ck_k241 l D st) (ck_cons (ck_k242 l D st) (ck_cons (ck_k243 l D st) (ck_cons (ck_k244 l D st) (ck_cons (ck_k245 l D st) ck_nil))))) (by decide +kernel)
/-- java/util/Arrays.rangeCheck -/
def ck_c247 : ck_C := (94, 101, [.inl (4096, 4096), .inl (0, 0), .inl (1, 1)], [], [], [(none, [(4096, 4096), (0, 0), (1, 1)], [], 101)], 0, 0, 0, 0)
def ck_h247 : List ck_Hd := []
set_option maxRecDepth 100000 in
theorem ck_k247 (l : Launch) (D : va_G) (st : Nat → Nat) : ck_Mt l D st ck_c247 := ck_sound (T := ck_T15) (cs := []) (hs := ck_h247) (sp := []) (fuel := 33) l ck_TSgood ck_okCl (ck_own (M0 := ck_m94) rfl rfl ck_okT15) ck_nil (by decide +kernel)
/-- java/util/Arrays.fill -/
def ck_c248 : ck_C := (93, 101, [.inr (0, 60), .inl (0, 0), .inl (1, 1), .inl (0, 0)], [((60, 0), .inl (0, 0)), ((60, 1), .inl (0, 0))], [(60, 0)], [(none, [(0, 0), (1, 1), (0, 0)], [((60, 0), .inl (0, 0)), ((60, 1), .inl (0, 0))], 101)], 1, 22, 0, 0)
def ck_h248 : List ck_Hd := [(10, ([(0, 0, 0, (0, 0, 0)), (1, 1, 0, (0, 0, 0)), (0, 0, 0, (0, 0, 0)), (0, 1, 0, (0, 0, 0))], [(4, .inl (3, 1, 0)), (0, .inr (0, 60)), (1, .inl (0, 1, 0)), (2, .inl (1, 1, 0)), (3, .inl (2, 1, 0))], [], [((60, 0), .inl (0, 0)), ((60, 1), .inl (0, 0))], 101, 0, 0), 3, 0)]
set_option maxRecDepth 100000 in
theorem ck_k248 (l : Launch) (D : va_G) (st : Nat → Nat) : ck_Mt l D st ck_c248 := ck_sound (T := ck_T15) (cs := [ck_c247]) (hs := ck_h248) (sp := []) (fuel := 41) l ck_TSgood ck_okCl (ck_own (M0 := ck_m93) rfl rfl ck_okT15) (ck_cons (ck_k247 l D st) ck_nil) (by decide +kernel)
/-- SL$Orders.fitting -/
def ck_c249 : ck_C := (92, 101, [.inr (0, 59), .inr (0, 55)], [((1, 1), .inl (0, 0)), ((59, 1), .inr (0, 1)), ((59, 2), .inr (0, 60)), ((60, 0), .inl (0, 0)), ((60, 1), .inl (0, 0))], [(60, 0)], [(some (.inl (1, 1)), [], [((60, 0), .inl (0, 1)), ((60, 1), .inl (1, 1))], 101)], 2, 46, 0, 0)
def ck_h249 : List ck_Hd := [(33, ([], [(3, .inl (0, 0, 0)), (2, .inl (0, 0, 0)), (0, .inr (0, 59)), (1, .inr (0, 55))], [], [((1, 1), .inl (0, 0)), ((59, 1), .inr (0, 1)), ((59, 2), .inr (0, 60)), ((60, 0), .inl (0, 1)), ((60, 1), .inl (1, 1))], 101, 0, 0), 0, 2)]
set_option maxRecDepth 100000 in
theorem ck_k249 (l : Launch) (D : va_G) (st : Nat → Nat) : ck_Mt l D st ck_c249 := ck_sound (T := ck_T4) (cs := [ck_c248]) (hs := ck_h249) (sp := []) (fuel := 55) l ck_TSgood ck_okCl (ck_own (M0 := ck_m92) rfl rfl ck_okT4) (ck_cons (ck_k248 l D st) ck_nil) (by decide +kernel)
/-- SL.orders -/
def ck_c250 : ck_C := (89, 101, [.inr (0, 0)], [((0, 7), .inr (0, 53)), ((0, 8), .inr (0, 59)), ((1, 1), .inl (0, 0)), ((1, 15), .inl (0, 0)), ((53, 1), .inr (0, 1)), ((53, 2), .inr (0, 54)), ((53, 3), .inr (0, 55)), ((53, 4), .inr (0, 56)), ((53, 5), .inr (0, 57)), ((53, 6), .inr (0, 58)), ((54, 0), .inl (0, 0)), ((55, 0), .inl (0, 0)), ((56, 0), .inl (0, 0)), ((57, 0), .inl (0, 0)), ((58, 0), .inl (0, 0)), ((59, 1), .inr (0, 1)), ((59, 2), .inr (0, 60)), ((60, 0), .inl (0, 0)), ((60, 1), .inl (0, 0))], [(54, 0), (55, 0), (56, 0), (57, 0), (58, 0), (60, 0)], [(some (.inl (1, 1)), [], [((54, 0), .inl (0, 0)), ((55, 0), .inl (0, 0)), ((56, 0), .inl (0, 0)), ((57, 0), .inl (0, 0)), ((58, 0), .inl (0, 0)), ((60, 0), .inl (0, 1)), ((60, 1), .inl (1, 1))], 101)], 3, 84, 0, 0)
def ck_h250 : List ck_Hd := []
set_option maxRecDepth 100000 in
theorem ck_k250 (l : Launch) (D : va_G) (st : Nat → Nat) : ck_Mt l D st ck_c250 := ck_sound (T := ck_T0) (cs := [ck_c246, ck_c249]) (hs := ck_h250) (sp := []) (fuel := 34) l ck_TSgood ck_okCl (ck_own (M0 := ck_m89) rfl rfl ck_okT0) (ck_cons (ck_k246 l D st) (ck_cons (ck_k249 l D st) ck_nil)) (by decide +kernel)
/-- SLModel.hears -/
def ck_c251 : ck_C := (96, 101, [.inr (0, 77)], [((77, 2), .inr (0, 78)), ((77, 25), .inr (0, 88)), ((77, 26), .inr (0, 89)), ((78, 1294), .inl (0, 0)), ((88, 0), .inl (0, 0)), ((89, 0), .inl (0, 0))], [(88, 0), (89, 0)], [(none, [], [((88, 0), .inl (0, 0)), ((89, 0), .inl (0, 0))], 101)], 0, 0, 0, 0)
def ck_h251 : List ck_Hd := [(2, ([(0, 144, 0, (0, 0, 0))], [(1, .inl (0, 1, 0)), (0, .inr (0, 77))], [], [((77, 2), .inr (0, 78)), ((77, 25), .inr (0, 88)), ((77, 26), .inr (0, 89)), ((78, 1294), .inl (0, 0)), ((88, 0), .inl (0, 0)), ((89, 0), .inl (0, 0))], 101, 0, 0), 0, 0), (24, ([(144, 144, 0, (0, 0, 0))], [(1, .inl (0, 0, 0)), (0, .inr (0, 77))], [], [((77, 2), .inr (0, 78)), ((77, 25), .inr (0, 88)), ((77, 26), .inr (0, 89)), ((78, 1294), .inl (0, 0)), ((88, 0), .inl (0, 0)), ((89, 0), .inl (0, 0))], 101, 0, 0), 0, 2), (77, ([(144, 144, 0, (0, 0, 0)), (0, 12, 0, (0, 0, 0))], [(1, .inl (1, 1, 0)), (0, .inr (0, 77))], [], [((77, 2), .inr (0, 78)), ((77, 25), .inr (0, 88)), ((77, 26), .inr (0, 89)), ((78, 1294), .inl (0, 0)), ((88, 0), .inl (0, 0)), ((89, 0), .inl (0, 0))], 101, 0, 0), 1, 0), (92, ([(144, 144, 0, (0, 0, 0)), (0, 11, 0, (0, 0, 0)), (0, 12, 0, (0, 0, 0))], [(2, .inl (2, 1, 0)), (1, .inl (1, 1, 0)), (0, .inr (0, 77))], [], [((77, 2), .inr (0, 78)), ((77, 25), .inr (0, 88)), ((77, 26), .inr (0, 89)), ((78, 1294), .inl (0, 0)), ((88, 0), .inl (0, 0)), ((89, 0), .inl (0, 0))], 101, 0, 0), 2, 0), (142, ([(144, 144, 0, (0, 0, 0)), (12, 12, 0, (0, 0, 0)), (0, 12, 0, (0, 0, 0))], [(1, .inl (2, 1, 0)), (0, .inr (0, 77))], [], [((77, 2), .inr (0, 78)), ((77, 25), .inr (0, 88)), ((77, 26), .inr (0, 89)), ((78, 1294), .inl (0, 0)), ((88, 0), .inl (0, 0)), ((89, 0), .inl (0, 0))], 101, 0, 0), 2, 0), (150, ([(144, 144, 0, (0, 0, 0)), (12, 12, 0, (0, 0, 0)), (0, 11, 0, (0, 0, 0)), (0, 12, 0, (0, 0, 0))], [(2, .inl (3, 1, 0)), (1, .inl (2, 1, 0)), (0, .inr (0, 77))], [], [((77, 2), .inr (0, 78)), ((77, 25), .inr (0, 88)), ((77, 26), .inr (0, 89)), ((78, 1294), .inl (0, 0)), ((88, 0), .inl (0, 0)), ((89, 0), .inl (0, 0))], 101, 0, 0), 3, 0)]
set_option maxRecDepth 100000 in
theorem ck_k251 (l : Launch) (D : va_G) (st : Nat → Nat) : ck_Mt l D st ck_c251 := ck_sound (T := ck_T13) (cs := []) (hs := ck_h251) (sp := []) (fuel := 72) l ck_TSgood ck_okCl (ck_own (M0 := ck_m96) rfl rfl ck_okT13) ck_nil (by decide +kernel)
/-- SLModel.ordersWith -/
def ck_c252 : ck_C := (97, 101, [.inr (0, 77), .inl (0, 0), .inl ((-1), (-1))], [((77, 2), .inr (0, 78)), ((77, 27), .inr (0, 90)), ((78, 1293), .inl (0, 0)), ((90, 0), .inl (0, 0)), ((90, 1), .inl (0, 0))], [(90, 0)], [(some (.inl (1, 1)), [(0, 0), ((-1), (-1))], [((90, 0), .inl (0, 1)), ((90, 1), .inl (1, 1))], 101)], 1, 20, 0, 0)
def ck_h252 : List ck_Hd := []
set_option maxRecDepth 100000 in
theorem ck_k252 (l : Launch) (D : va_G) (st : Nat → Nat) : ck_Mt l D st ck_c252 := ck_sound (T := ck_T13) (cs := [ck_c41]) (hs := ck_h252) (sp := []) (fuel := 59) l ck_TSgood ck_okCl (ck_own (M0 := ck_m97) rfl rfl ck_okT13) (ck_cons (ck_k41 l D st) ck_nil) (by decide +kernel)
/-- SLModel.orders -/
def ck_c253 : ck_C := (95, 101, [.inr (0, 77)], [((77, 2), .inr (0, 78)), ((77, 25), .inr (0, 88)), ((77, 26), .inr (0, 89)), ((77, 27), .inr (0, 90)), ((78, 1293), .inl (0, 0)), ((78, 1294), .inl (0, 0)), ((88, 0), .inl (0, 0)), ((89, 0), .inl (0, 0)), ((90, 0), .inl (0, 0)), ((90, 1), .inl (0, 0))], [(88, 0), (89, 0), (90, 0)], [(some (.inl (1, 1)), [], [((88, 0), .inl (0, 0)), ((89, 0), .inl (0, 0)), ((90, 0), .inl (0, 1)), ((90, 1), .inl (1, 1))], 101)], 2, 47, 0, 0)
def ck_h253 : List ck_Hd := []
set_option maxRecDepth 100000 in
theorem ck_k253 (l : Launch) (D : va_G) (st : Nat → Nat) : ck_Mt l D st ck_c253 := ck_sound (T := ck_T13) (cs := [ck_c251, ck_c252]) (hs := ck_h253) (sp := []) (fuel := 31) l ck_TSgood ck_okCl (ck_own (M0 := ck_m95) rfl rfl ck_okT13) (ck_cons (ck_k251 l D st) (ck_cons (ck_k252 l D st) ck_nil)) (by decide +kernel)
/-- SL.ahead -/
def ck_c254 : ck_C := (98, 101, [.inr (0, 0), .inl ((-2147483648), 2147483647), .inl ((-2147483648), 2147483647)], [((0, 1), .inr (0, 1)), ((1, 1), .inl (0, 0))], [], [(some (.inl ((-1), (-1))), [((-2147483648), (-1)), ((-2147483648), 2147483647)], [], 101), (some (.inl ((-1), (-1))), [(0, 2147483647), ((-2147483648), 2147483647)], [], 101)], 3, 65, 0, 0)
def ck_h254 : List ck_Hd := []
set_option maxRecDepth 100000 in
theorem ck_k254 (l : Launch) (D : va_G) (st : Nat → Nat) : ck_Mt l D st ck_c254 := ck_sound (T := ck_T0) (cs := [ck_c234]) (hs := ck_h254) (sp := []) (fuel := 31) l ck_TSgood ck_okCl (ck_own (M0 := ck_m98) rfl rfl ck_okT0) (ck_cons (ck_k234 l D st) ck_nil) (by decide +kernel)
/-- SLModel.ahead -/
def ck_c255 : ck_C := (99, 101, [.inr (0, 77), .inl ((-2147483648), (-1)), .inl ((-2147483648), 2147483647)], [((77, 2), .inr (0, 78)), ((78, 1293), .inl (0, 0))], [], [(some (.inl ((-1), (-1))), [((-2147483648), (-1)), ((-2147483648), 2147483647)], [], 101)], 2, 43, 0, 0)
def ck_h255 : List ck_Hd := []
set_option maxRecDepth 100000 in
theorem ck_k255 (l : Launch) (D : va_G) (st : Nat → Nat) : ck_Mt l D st ck_c255 := ck_sound (T := ck_T13) (cs := [ck_c68]) (hs := ck_h255) (sp := []) (fuel := 30) l ck_TSgood ck_okCl (ck_own (M0 := ck_m99) rfl rfl ck_okT13) (ck_cons (ck_k68 l D st) ck_nil) (by decide +kernel)
/-- SLModel.ahead -/
def ck_c256 : ck_C := (99, 101, [.inr (0, 77), .inl (0, 2147483647), .inl ((-2147483648), 2147483647)], [((77, 2), .inr (0, 78)), ((78, 1293), .inl (0, 0))], [], [(some (.inl ((-1), (-1))), [(0, 2147483647), ((-2147483648), 2147483647)], [], 101)], 2, 43, 0, 0)
def ck_h256 : List ck_Hd := []
set_option maxRecDepth 100000 in
theorem ck_k256 (l : Launch) (D : va_G) (st : Nat → Nat) : ck_Mt l D st ck_c256 := ck_sound (T := ck_T13) (cs := [ck_c72]) (hs := ck_h256) (sp := []) (fuel := 30) l ck_TSgood ck_okCl (ck_own (M0 := ck_m99) rfl rfl ck_okT13) (ck_cons (ck_k72 l D st) ck_nil) (by decide +kernel)
/-- SL.ring -/
def ck_c257 : ck_C := (100, 101, [.inr (0, 0), .inl ((-2147483648), 2147483647)], [((0, 1), .inr (0, 1)), ((1, 1), .inl (0, 0))], [], [(some (.inl ((-1), (-1))), [((-2147483648), (-1))], [], 101), (some (.inl ((-1), (-1))), [(0, 2147483647)], [], 101)], 2, 43, 0, 0)
def ck_h257 : List ck_Hd := []
set_option maxRecDepth 100000 in
theorem ck_k257 (l : Launch) (D : va_G) (st : Nat → Nat) : ck_Mt l D st ck_c257 := ck_sound (T := ck_T0) (cs := [ck_c49]) (hs := ck_h257) (sp := []) (fuel := 31) l ck_TSgood ck_okCl (ck_own (M0 := ck_m100) rfl rfl ck_okT0) (ck_cons (ck_k49 l D st) ck_nil) (by decide +kernel)
/-- SLModel.ring -/
def ck_c258 : ck_C := (101, 101, [.inr (0, 77), .inl ((-2147483648), (-1))], [((77, 2), .inr (0, 78)), ((78, 1293), .inl (0, 0))], [], [(some (.inl ((-1), (-1))), [((-2147483648), (-1))], [], 101)], 2, 43, 0, 0)
def ck_h258 : List ck_Hd := []
set_option maxRecDepth 100000 in
theorem ck_k258 (l : Launch) (D : va_G) (st : Nat → Nat) : ck_Mt l D st ck_c258 := ck_sound (T := ck_T13) (cs := [ck_c68]) (hs := ck_h258) (sp := []) (fuel := 30) l ck_TSgood ck_okCl (ck_own (M0 := ck_m101) rfl rfl ck_okT13) (ck_cons (ck_k68 l D st) ck_nil) (by decide +kernel)
/-- SLModel.ring -/
def ck_c259 : ck_C := (101, 101, [.inr (0, 77), .inl (0, 2147483647)], [((77, 2), .inr (0, 78)), ((78, 1293), .inl (0, 0))], [], [(some (.inl ((-1), (-1))), [(0, 2147483647)], [], 101)], 2, 43, 0, 0)
def ck_h259 : List ck_Hd := []
set_option maxRecDepth 100000 in
theorem ck_k259 (l : Launch) (D : va_G) (st : Nat → Nat) : ck_Mt l D st ck_c259 := ck_sound (T := ck_T13) (cs := [ck_c72]) (hs := ck_h259) (sp := []) (fuel := 30) l ck_TSgood ck_okCl (ck_own (M0 := ck_m101) rfl rfl ck_okT13) (ck_cons (ck_k72 l D st) ck_nil) (by decide +kernel)
/-- SL.untried -/
def ck_c260 : ck_C := (102, 101, [.inr (0, 0)], [((0, 1), .inr (0, 1)), ((0, 7), .inr (0, 53)), ((1, 1), .inl (0, 0)), ((1, 15), .inl (0, 0)), ((53, 1), .inr (0, 1)), ((53, 2), .inr (0, 54)), ((53, 3), .inr (0, 55)), ((53, 4), .inr (0, 56)), ((53, 5), .inr (0, 57)), ((53, 6), .inr (0, 58)), ((54, 0), .inl (0, 0)), ((55, 0), .inl (0, 0)), ((56, 0), .inl (0, 0)), ((57, 0), .inl (0, 0)), ((58, 0), .inl (0, 0))], [(54, 0), (55, 0), (56, 0), (57, 0), (58, 0)], [(some (.inl (0, 0)), [], [((54, 0), .inl (0, 0)), ((55, 0), .inl (0, 0)), ((56, 0), .inl (0, 0)), ((57, 0), .inl (0, 0)), ((58, 0), .inl (0, 0))], 101)], 3, 84, 0, 0)
def ck_h260 : List ck_Hd := [(11, ([], [(2, .inl (0, 0, 0)), (1, .inl (0, 0, 0)), (0, .inr (0, 0))], [], [((0, 1), .inr (0, 1)), ((0, 7), .inr (0, 53)), ((1, 1), .inl (0, 0)), ((1, 15), .inl (0, 0)), ((53, 1), .inr (0, 1)), ((53, 2), .inr (0, 54)), ((53, 3), .inr (0, 55)), ((53, 4), .inr (0, 56)), ((53, 5), .inr (0, 57)), ((53, 6), .inr (0, 58)), ((54, 0), .inl (0, 0)), ((55, 0), .inl (0, 0)), ((56, 0), .inl (0, 0)), ((57, 0), .inl (0, 0)), ((58, 0), .inl (0, 0))], 101, 0, 0), 0, 2)]
set_option maxRecDepth 100000 in
theorem ck_k260 (l : Launch) (D : va_G) (st : Nat → Nat) : ck_Mt l D st ck_c260 := ck_sound (T := ck_T0) (cs := [ck_c246]) (hs := ck_h260) (sp := []) (fuel := 40) l ck_TSgood ck_okCl (ck_own (M0 := ck_m102) rfl rfl ck_okT0) (ck_cons (ck_k246 l D st) ck_nil) (by decide +kernel)
/-- SLModel.untried -/
def ck_c261 : ck_C := (103, 101, [.inr (0, 77)], [((77, 2), .inr (0, 78)), ((78, 1293), .inl (0, 0))], [], [(some (.inl (0, 0)), [], [], 101)], 1, 20, 0, 0)
def ck_h261 : List ck_Hd := [(4, ([], [(2, .inl (0, 0, 0)), (1, .inl (0, 0, 0)), (0, .inr (0, 77))], [], [((77, 2), .inr (0, 78)), ((78, 1293), .inl (0, 0))], 101, 0, 0), 0, 2)]
set_option maxRecDepth 100000 in
theorem ck_k261 (l : Launch) (D : va_G) (st : Nat → Nat) : ck_Mt l D st ck_c261 := ck_sound (T := ck_T13) (cs := [ck_c41]) (hs := ck_h261) (sp := []) (fuel := 34) l ck_TSgood ck_okCl (ck_own (M0 := ck_m103) rfl rfl ck_okT13) (ck_cons (ck_k41 l D st) ck_nil) (by decide +kernel)
/-- SL$Orders.countHalves -/
def ck_c262 : ck_C := (106, 101, [.inr (0, 59), .inr (0, 54)], [((1, 1), .inl (0, 0)), ((59, 1), .inr (0, 1))], [], [(none, [], [], 101)], 0, 0, 0, 0)
def ck_h262 : List ck_Hd := [(2, ([], [(2, .inl (0, 0, 0)), (0, .inr (0, 59)), (1, .inr (0, 54))], [], [((1, 1), .inl (0, 0)), ((59, 1), .inr (0, 1))], 101, 0, 0), 0, 2)]
set_option maxRecDepth 100000 in
theorem ck_k262 (l : Launch) (D : va_G) (st : Nat → Nat) : ck_Mt l D st ck_c262 := ck_sound (T := ck_T4) (cs := []) (hs := ck_h262) (sp := []) (fuel := 32) l ck_TSgood ck_okCl (ck_own (M0 := ck_m106) rfl rfl ck_okT4) ck_nil (by decide +kernel)
/-- java/util/Arrays.fill -/
def ck_c263 : ck_C := (9, 101, [.inr (0, 64), .inl ((-1), (-1))], [((64, 0), .inl ((-1), 0))], [(64, 0)], [(none, [((-1), (-1))], [((64, 0), .inl ((-1), 0))], 101)], 0, 0, 0, 0)
def ck_h263 : List ck_Hd := [(5, ([((-1), (-1), 0, (0, 0, 0)), (0, 12, 0, (0, 0, 0))], [(3, .inl (0, 0, 12)), (2, .inl (1, 1, 0)), (0, .inr (0, 64)), (1, .inl (0, 1, 0))], [], [((64, 0), .inl ((-1), 0))], 101, 0, 0), 1, 0)]
set_option maxRecDepth 100000 in
theorem ck_k263 (l : Launch) (D : va_G) (st : Nat → Nat) : ck_Mt l D st ck_c263 := ck_sound (T := ck_T15) (cs := []) (hs := ck_h263) (sp := []) (fuel := 39) l ck_TSgood ck_okCl (ck_own (M0 := ck_m9) rfl rfl ck_okT15) ck_nil (by decide +kernel)
/-- SL$Orders.keepBest -/
def ck_c264 : ck_C := (107, 101, [.inr (0, 59), .inl (0, 0)], [((1, 1), .inl (0, 0)), ((59, 1), .inr (0, 1)), ((59, 5), .inl (0, 0)), ((59, 7), .inr (0, 64)), ((64, 0), .inl ((-1), 0))], [(59, 5), (64, 0)], [(none, [(0, 0)], [((59, 5), .inl (0, 0)), ((64, 0), .inl ((-1), 0))], 101)], 1, 23, 0, 0)
def ck_h264 : List ck_Hd := [(23, ([(0, 0, 0, (0, 0, 0))], [(3, .inl (0, 0, 0)), (2, .inl (0, 0, 0)), (0, .inr (0, 59)), (1, .inl (0, 1, 0))], [], [((1, 1), .inl (0, 0)), ((59, 1), .inr (0, 1)), ((59, 5), .inl (0, 0)), ((59, 7), .inr (0, 64)), ((64, 0), .inl ((-1), 0))], 101, 0, 0), 0, 2)]
set_option maxRecDepth 100000 in
theorem ck_k264 (l : Launch) (D : va_G) (st : Nat → Nat) : ck_Mt l D st ck_c264 := ck_sound (T := ck_T4) (cs := [ck_c263]) (hs := ck_h264) (sp := []) (fuel := 42) l ck_TSgood ck_okCl (ck_own (M0 := ck_m107) rfl rfl ck_okT4) (ck_cons (ck_k263 l D st) ck_nil) (by decide +kernel)
/-- SL$Orders.findBest -/
def ck_c265 : ck_C := (105, 101, [.inr (0, 59), .inr (0, 54)], [((1, 1), .inl (0, 0)), ((59, 1), .inr (0, 1)), ((59, 2), .inr (0, 60)), ((59, 5), .inl (0, 0)), ((59, 7), .inr (0, 64)), ((60, 0), .inl (0, 0)), ((60, 1), .inl (0, 0)), ((64, 0), .inl ((-1), 0))], [(59, 5), (60, 0), (64, 0)], [(some (.inl (0, 0)), [], [((59, 5), .inl (0, 0)), ((60, 0), .inl (0, 0)), ((60, 1), .inl (0, 0)), ((64, 0), .inl ((-1), 0))], 101)], 2, 47, 0, 0)
def ck_h265 : List ck_Hd := [(26, ([], [(3, .inl (0, 0, 1)), (2, .inl (0, 0, 0)), (0, .inr (0, 59)), (1, .inr (0, 54))], [], [((1, 1), .inl (0, 0)), ((59, 1), .inr (0, 1)), ((59, 2), .inr (0, 60)), ((59, 5), .inl (0, 0)), ((59, 7), .inr (0, 64)), ((60, 0), .inl (0, 0)), ((60, 1), .inl (0, 0)), ((64, 0), .inl ((-1), 0))], 101, 0, 0), 0, 2)]
set_option maxRecDepth 100000 in
theorem ck_k265 (l : Launch) (D : va_G) (st : Nat → Nat) : ck_Mt l D st ck_c265 := ck_sound (T := ck_T4) (cs := [ck_c262, ck_c264]) (hs := ck_h265) (sp := []) (fuel := 53) l ck_TSgood ck_okCl (ck_own (M0 := ck_m105) rfl rfl ck_okT4) (ck_cons (ck_k262 l D st) (ck_cons (ck_k264 l D st) ck_nil)) (by decide +kernel)
/-- SL.best -/
def ck_c266 : ck_C := (104, 101, [.inr (0, 0)], [((0, 7), .inr (0, 53)), ((0, 8), .inr (0, 59)), ((1, 1), .inl (0, 0)), ((1, 15), .inl (0, 0)), ((53, 1), .inr (0, 1)), ((53, 2), .inr (0, 54)), ((53, 3), .inr (0, 55)), ((53, 4), .inr (0, 56)), ((53, 5), .inr (0, 57)), ((53, 6), .inr (0, 58)), ((54, 0), .inl (0, 0)), ((55, 0), .inl (0, 0)), ((56, 0), .inl (0, 0)), ((57, 0), .inl (0, 0)), ((58, 0), .inl (0, 0)), ((59, 1), .inr (0, 1)), ((59, 2), .inr (0, 60)), ((59, 5), .inl (0, 0)), ((59, 7), .inr (0, 64)), ((60, 0), .inl (0, 0)), ((60, 1), .inl (0, 0)), ((64, 0), .inl ((-1), 0))], [(54, 0), (55, 0), (56, 0), (57, 0), (58, 0), (59, 5), (60, 0), (64, 0)], [(some (.inl (0, 0)), [], [((54, 0), .inl (0, 0)), ((55, 0), .inl (0, 0)), ((56, 0), .inl (0, 0)), ((57, 0), .inl (0, 0)), ((58, 0), .inl (0, 0)), ((59, 5), .inl (0, 0)), ((60, 0), .inl (0, 0)), ((60, 1), .inl (0, 0)), ((64, 0), .inl ((-1), 0))], 101)], 3, 84, 0, 0)
def ck_h266 : List ck_Hd := []
set_option maxRecDepth 100000 in
theorem ck_k266 (l : Launch) (D : va_G) (st : Nat → Nat) : ck_Mt l D st ck_c266 := ck_sound (T := ck_T0) (cs := [ck_c246, ck_c265]) (hs := ck_h266) (sp := []) (fuel := 34) l ck_TSgood ck_okCl (ck_own (M0 := ck_m104) rfl rfl ck_okT0) (ck_cons (ck_k246 l D st) (ck_cons (ck_k265 l D st) ck_nil)) (by decide +kernel)
/-- SLModel.best -/
def ck_c267 : ck_C := (108, 101, [.inr (0, 77)], [((77, 2), .inr (0, 78)), ((77, 25), .inr (0, 88)), ((77, 26), .inr (0, 89)), ((77, 28), .inr (0, 91)), ((78, 1293), .inl (0, 0)), ((78, 1294), .inl (0, 0)), ((88, 0), .inl (0, 0)), ((89, 0), .inl (0, 0)), ((91, 0), .inl (0, 0)), ((91, 1), .inl (0, 0))], [(77, 30), (88, 0), (89, 0), (91, 0)], [(some (.inl (0, 0)), [], [((77, 30), .inl (0, 0)), ((88, 0), .inl (0, 0)), ((89, 0), .inl (0, 0)), ((91, 0), .inl (0, 0)), ((91, 1), .inl (0, 0))], 101)], 1, 22, 0, 0)
def ck_h267 : List ck_Hd := [(24, ([], [(2, .inl (0, 0, (-1))), (1, .inl (0, 0, 0)), (0, .inr (0, 77))], [], [((77, 2), .inr (0, 78)), ((77, 25), .inr (0, 88)), ((77, 26), .inr (0, 89)), ((77, 28), .inr (0, 91)), ((78, 1293), .inl (0, 0)), ((78, 1294), .inl (0, 0)), ((88, 0), .inl (0, 0)), ((89, 0), .inl (0, 0)), ((91, 0), .inl (0, 0)), ((91, 1), .inl (0, 0))], 101, 0, 0), 0, 2), (121, ([], [(3, .inl (0, 0, 0)), (2, .inl (0, 0, 0)), (1, .inl (0, 0, 0)), (0, .inr (0, 77))], [], [((77, 2), .inr (0, 78)), ((77, 25), .inr (0, 88)), ((77, 26), .inr (0, 89)), ((77, 28), .inr (0, 91)), ((78, 1293), .inl (0, 0)), ((78, 1294), .inl (0, 0)), ((88, 0), .inl (0, 0)), ((89, 0), .inl (0, 0)), ((91, 0), .inl (0, 0)), ((91, 1), .inl (0, 0))], 101, 0, 0), 0, 2)]
set_option maxRecDepth 100000 in
theorem ck_k267 (l : Launch) (D : va_G) (st : Nat → Nat) : ck_Mt l D st ck_c267 := ck_sound (T := ck_T13) (cs := [ck_c251, ck_c41]) (hs := ck_h267) (sp := []) (fuel := 61) l ck_TSgood ck_okCl (ck_own (M0 := ck_m108) rfl rfl ck_okT13) (ck_cons (ck_k251 l D st) (ck_cons (ck_k41 l D st) ck_nil)) (by decide +kernel)
/-- SL.place -/
def ck_c268 : ck_C := (109, 101, [.inr (0, 0), .inl ((-2147483648), 2147483647)], [((0, 8), .inr (0, 59)), ((59, 5), .inl (0, 0))], [], [(some (.inl ((-1), (-1))), [((-2147483648), (-1))], [], 101), (some (.inl ((-1), (-1))), [(0, 2147483647)], [], 101)], 1, 22, 0, 0)
def ck_h268 : List ck_Hd := []
set_option maxRecDepth 100000 in
theorem ck_k268 (l : Launch) (D : va_G) (st : Nat → Nat) : ck_Mt l D st ck_c268 := ck_sound (T := ck_T0) (cs := [ck_c48]) (hs := ck_h268) (sp := []) (fuel := 35) l ck_TSgood ck_okCl (ck_own (M0 := ck_m109) rfl rfl ck_okT0) (ck_cons (ck_k48 l D st) ck_nil) (by decide +kernel)
/-- SLModel.in -/
def ck_c269 : ck_C := (21, 101, [.inl ((-2147483648), (-1)), .inl (0, 0), .inl ((-2), (-2))], [], [], [(some (.inl (0, 0)), [((-2147483648), (-1)), (0, 0), ((-2), (-2))], [], 101)], 0, 0, 0, 0)
def ck_h269 : List ck_Hd := []
set_option maxRecDepth 100000 in
theorem ck_k269 (l : Launch) (D : va_G) (st : Nat → Nat) : ck_Mt l D st ck_c269 := ck_sound (T := ck_T13) (cs := []) (hs := ck_h269) (sp := []) (fuel := 29) l ck_TSgood ck_okCl (ck_own (M0 := ck_m21) rfl rfl ck_okT13) ck_nil (by decide +kernel)
/-- SLModel.place -/
def ck_c270 : ck_C := (110, 101, [.inr (0, 77), .inl ((-2147483648), (-1))], [((77, 30), .inl ((-1), (-1)))], [], [(some (.inl ((-1), (-1))), [((-2147483648), (-1))], [], 101)], 1, 22, 0, 0)
def ck_h270 : List ck_Hd := []
set_option maxRecDepth 100000 in
theorem ck_k270 (l : Launch) (D : va_G) (st : Nat → Nat) : ck_Mt l D st ck_c270 := ck_sound (T := ck_T13) (cs := [ck_c269]) (hs := ck_h270) (sp := []) (fuel := 34) l ck_TSgood ck_okCl (ck_own (M0 := ck_m110) rfl rfl ck_okT13) (ck_cons (ck_k269 l D st) ck_nil) (by decide +kernel)
/-- SLModel.in -/
def ck_c271 : ck_C := (21, 101, [.inl (0, 2147483647), .inl (0, 0), .inl ((-2), (-2))], [], [], [(some (.inl (0, 0)), [(0, 2147483647), (0, 0), ((-2), (-2))], [], 101)], 0, 0, 0, 0)
def ck_h271 : List ck_Hd := []
set_option maxRecDepth 100000 in
theorem ck_k271 (l : Launch) (D : va_G) (st : Nat → Nat) : ck_Mt l D st ck_c271 := ck_sound (T := ck_T13) (cs := []) (hs := ck_h271) (sp := []) (fuel := 32) l ck_TSgood ck_okCl (ck_own (M0 := ck_m21) rfl rfl ck_okT13) ck_nil (by decide +kernel)
/-- SLModel.place -/
def ck_c272 : ck_C := (110, 101, [.inr (0, 77), .inl (0, 2147483647)], [((77, 30), .inl ((-1), (-1)))], [], [(some (.inl ((-1), (-1))), [(0, 2147483647)], [], 101)], 1, 22, 0, 0)
def ck_h272 : List ck_Hd := []
set_option maxRecDepth 100000 in
theorem ck_k272 (l : Launch) (D : va_G) (st : Nat → Nat) : ck_Mt l D st ck_c272 := ck_sound (T := ck_T13) (cs := [ck_c271]) (hs := ck_h272) (sp := []) (fuel := 34) l ck_TSgood ck_okCl (ck_own (M0 := ck_m110) rfl rfl ck_okT13) (ck_cons (ck_k271 l D st) ck_nil) (by decide +kernel)
/-- SL.drop -/
def ck_c273 : ck_C := (111, 101, [.inr (0, 0), .inl ((-2147483648), 2147483647)], [((0, 1), .inr (0, 1)), ((1, 15), .inl (0, 0))], [], [(some (.inl ((-1), (-1))), [((-2147483648), 2147483647)], [], 101)], 0, 0, 0, 0)
def ck_h273 : List ck_Hd := [(4, ([((-2147483648), 2147483647, 0, (0, 0, 0))], [(3, .inl (0, 0, 0)), (2, .inl (0, 0, 0)), (0, .inr (0, 0)), (1, .inl (0, 1, 0))], [], [((0, 1), .inr (0, 1)), ((1, 15), .inl (0, 0))], 101, 0, 0), 0, 2)]
set_option maxRecDepth 100000 in
theorem ck_k273 (l : Launch) (D : va_G) (st : Nat → Nat) : ck_Mt l D st ck_c273 := ck_sound (T := ck_T0) (cs := []) (hs := ck_h273) (sp := []) (fuel := 35) l ck_TSgood ck_okCl (ck_own (M0 := ck_m111) rfl rfl ck_okT0) ck_nil (by decide +kernel)
/-- SLModel.drop -/
def ck_c274 : ck_C := (112, 101, [.inr (0, 77), .inl ((-2147483648), 2147483647)], [((77, 2), .inr (0, 78)), ((78, 1294), .inl (0, 0))], [], [(some (.inl ((-1), (-1))), [((-2147483648), 2147483647)], [], 101)], 0, 0, 0, 0)
def ck_h274 : List ck_Hd := [(4, ([((-2147483648), 2147483647, 0, (0, 0, 0))], [(3, .inl (0, 0, 0)), (2, .inl (0, 0, 0)), (0, .inr (0, 77)), (1, .inl (0, 1, 0))], [], [((77, 2), .inr (0, 78)), ((78, 1294), .inl (0, 0))], 101, 0, 0), 0, 2)]
set_option maxRecDepth 100000 in
theorem ck_k274 (l : Launch) (D : va_G) (st : Nat → Nat) : ck_Mt l D st ck_c274 := ck_sound (T := ck_T13) (cs := []) (hs := ck_h274) (sp := []) (fuel := 36) l ck_TSgood ck_okCl (ck_own (M0 := ck_m112) rfl rfl ck_okT13) ck_nil (by decide +kernel)
/-- SL.span -/
def ck_c275 : ck_C := (113, 101, [.inr (0, 0), .inl ((-2147483648), 2147483647), .inl ((-2147483648), 2147483647)], [((0, 1), .inr (0, 1)), ((1, 1), .inl (0, 0))], [], [(some (.inl ((-1), (-1))), [((-2147483648), (-1)), ((-2147483648), 2147483647)], [], 101), (some (.inl ((-1), (-1))), [(0, 2147483647), ((-2147483648), 2147483647)], [], 101)], 2, 43, 0, 0)
def ck_h275 : List ck_Hd := []
set_option maxRecDepth 100000 in
theorem ck_k275 (l : Launch) (D : va_G) (st : Nat → Nat) : ck_Mt l D st ck_c275 := ck_sound (T := ck_T0) (cs := [ck_c49]) (hs := ck_h275) (sp := []) (fuel := 31) l ck_TSgood ck_okCl (ck_own (M0 := ck_m113) rfl rfl ck_okT0) (ck_cons (ck_k49 l D st) ck_nil) (by decide +kernel)
/-- SLModel.span -/
def ck_c276 : ck_C := (114, 101, [.inr (0, 77), .inl ((-2147483648), (-1)), .inl ((-2147483648), 2147483647)], [((77, 2), .inr (0, 78)), ((78, 1293), .inl (0, 0))], [], [(some (.inl ((-1), (-1))), [((-2147483648), (-1)), ((-2147483648), 2147483647)], [], 101)], 2, 43, 0, 0)
def ck_h276 : List ck_Hd := []
set_option maxRecDepth 100000 in
theorem ck_k276 (l : Launch) (D : va_G) (st : Nat → Nat) : ck_Mt l D st ck_c276 := ck_sound (T := ck_T13) (cs := [ck_c68]) (hs := ck_h276) (sp := []) (fuel := 30) l ck_TSgood ck_okCl (ck_own (M0 := ck_m114) rfl rfl ck_okT13) (ck_cons (ck_k68 l D st) ck_nil) (by decide +kernel)
/-- SLModel.span -/
def ck_c277 : ck_C := (114, 101, [.inr (0, 77), .inl (0, 2147483647), .inl ((-2147483648), 2147483647)], [((77, 2), .inr (0, 78)), ((78, 1293), .inl (0, 0))], [], [(some (.inl ((-1), (-1))), [(0, 2147483647), ((-2147483648), 2147483647)], [], 101)], 2, 43, 0, 0)
def ck_h277 : List ck_Hd := []
set_option maxRecDepth 100000 in
theorem ck_k277 (l : Launch) (D : va_G) (st : Nat → Nat) : ck_Mt l D st ck_c277 := ck_sound (T := ck_T13) (cs := [ck_c72]) (hs := ck_h277) (sp := []) (fuel := 30) l ck_TSgood ck_okCl (ck_own (M0 := ck_m114) rfl rfl ck_okT13) (ck_cons (ck_k72 l D st) ck_nil) (by decide +kernel)
/-- SL.settle -/
def ck_c278 : ck_C := (115, 101, [.inr (0, 0), .inl ((-2147483648), 2147483647)], [((0, 1), .inr (0, 1)), ((1, 1), .inl (0, 0))], [], [(some (.inl ((-1), (-1))), [((-2147483648), (-1))], [], 101), (some (.inl ((-1), (-1))), [(0, 2147483647)], [], 101)], 2, 43, 0, 0)
def ck_h278 : List ck_Hd := []
set_option maxRecDepth 100000 in
theorem ck_k278 (l : Launch) (D : va_G) (st : Nat → Nat) : ck_Mt l D st ck_c278 := ck_sound (T := ck_T0) (cs := [ck_c49]) (hs := ck_h278) (sp := []) (fuel := 31) l ck_TSgood ck_okCl (ck_own (M0 := ck_m115) rfl rfl ck_okT0) (ck_cons (ck_k49 l D st) ck_nil) (by decide +kernel)
/-- SLModel.settle -/
def ck_c279 : ck_C := (116, 101, [.inr (0, 77), .inl ((-2147483648), (-1))], [((77, 2), .inr (0, 78)), ((78, 1293), .inl (0, 0))], [], [(some (.inl ((-1), (-1))), [((-2147483648), (-1))], [], 101)], 2, 43, 0, 0)
def ck_h279 : List ck_Hd := []
set_option maxRecDepth 100000 in
theorem ck_k279 (l : Launch) (D : va_G) (st : Nat → Nat) : ck_Mt l D st ck_c279 := ck_sound (T := ck_T13) (cs := [ck_c68]) (hs := ck_h279) (sp := []) (fuel := 30) l ck_TSgood ck_okCl (ck_own (M0 := ck_m116) rfl rfl ck_okT13) (ck_cons (ck_k68 l D st) ck_nil) (by decide +kernel)
/-- SLModel.settle -/
def ck_c280 : ck_C := (116, 101, [.inr (0, 77), .inl (0, 2147483647)], [((77, 2), .inr (0, 78)), ((78, 1293), .inl (0, 0))], [], [(some (.inl ((-1), (-1))), [(0, 2147483647)], [], 101)], 2, 43, 0, 0)
def ck_h280 : List ck_Hd := []
set_option maxRecDepth 100000 in
theorem ck_k280 (l : Launch) (D : va_G) (st : Nat → Nat) : ck_Mt l D st ck_c280 := ck_sound (T := ck_T13) (cs := [ck_c72]) (hs := ck_h280) (sp := []) (fuel := 30) l ck_TSgood ck_okCl (ck_own (M0 := ck_m116) rfl rfl ck_okT13) (ck_cons (ck_k72 l D st) ck_nil) (by decide +kernel)
/-- SL.within -/
def ck_c281 : ck_C := (16, 101, [.inl ((-2147483648), 2147483647), .inl (0, 0), .inl (1, 1)], [], [], [(some (.inl (0, 0)), [((-2147483648), (-1)), (0, 0), (1, 1)], [], 101), (some (.inl (0, 0)), [(2, 2147483647), (0, 0), (1, 1)], [], 101), (some (.inl (1, 1)), [(0, 1), (0, 0), (1, 1)], [], 101)], 0, 0, 0, 0)
def ck_h281 : List ck_Hd := []
set_option maxRecDepth 100000 in
theorem ck_k281 (l : Launch) (D : va_G) (st : Nat → Nat) : ck_Mt l D st ck_c281 := ck_sound (T := ck_T0) (cs := []) (hs := ck_h281) (sp := []) (fuel := 33) l ck_TSgood ck_okCl (ck_own (M0 := ck_m16) rfl rfl ck_okT0) ck_nil (by decide +kernel)
/-- java/lang/Integer.bitCount -/
def ck_c282 : ck_C := (118, 101, [.inl (0, 0)], [], [], [(some (.inl (0, 0)), [(0, 0)], [], 101)], 0, 0, 0, 0)
def ck_h282 : List ck_Hd := []
set_option maxRecDepth 100000 in
theorem ck_k282 (l : Launch) (D : va_G) (st : Nat → Nat) : ck_Mt l D st ck_c282 := ck_sound (T := ck_T14) (cs := []) (hs := ck_h282) (sp := []) (fuel := 66) l ck_TSgood ck_okCl (ck_own (M0 := ck_m118) rfl rfl ck_okT14) ck_nil (by decide +kernel)
/-- SL.within -/
def ck_c283 : ck_C := (16, 101, [.inl (0, 0), .inl (2, 2), .inl (5, 5)], [], [], [(some (.inl (0, 0)), [(0, 0), (2, 2), (5, 5)], [], 101)], 0, 0, 0, 0)
def ck_h283 : List ck_Hd := []
set_option maxRecDepth 100000 in
theorem ck_k283 (l : Launch) (D : va_G) (st : Nat → Nat) : ck_Mt l D st ck_c283 := ck_sound (T := ck_T0) (cs := []) (hs := ck_h283) (sp := []) (fuel := 29) l ck_TSgood ck_okCl (ck_own (M0 := ck_m16) rfl rfl ck_okT0) ck_nil (by decide +kernel)
/-- SL.fewest -/
def ck_c284 : ck_C := (117, 101, [.inr (0, 0), .inl ((-2147483648), 2147483647), .inl ((-2147483648), 2147483647)], [((0, 1), .inr (0, 1)), ((1, 1), .inl (0, 0))], [], [(some (.inl ((-1), (-1))), [((-2147483648), 2147483647), ((-2147483648), (-1))], [], 101), (some (.inl ((-1), (-1))), [((-2147483648), 2147483647), (2, 2147483647)], [], 101), (some (.inl ((-1), (-1))), [((-2147483648), (-1)), (0, 1)], [], 101), (some (.inl ((-1), (-1))), [(1, 2147483647), (0, 1)], [], 101), (some (.inl ((-1), (-1))), [(0, 0), (0, 1)], [], 101)], 1, 22, 0, 0)
def ck_h284 : List ck_Hd := []
set_option maxRecDepth 100000 in
theorem ck_k284 (l : Launch) (D : va_G) (st : Nat → Nat) : ck_Mt l D st ck_c284 := ck_sound (T := ck_T0) (cs := [ck_c281, ck_c142, ck_c282, ck_c283]) (hs := ck_h284) (sp := []) (fuel := 48) l ck_TSgood ck_okCl (ck_own (M0 := ck_m117) rfl rfl ck_okT0) (ck_cons (ck_k281 l D st) (ck_cons (ck_k142 l D st) (ck_cons (ck_k282 l D st) (ck_cons (ck_k283 l D st) ck_nil)))) (by decide +kernel)
/-- SLModel.ones -/
def ck_c285 : ck_C := (120, 101, [.inl (0, 0)], [], [], [(some (.inl (0, 0)), [(0, 0)], [], 101)], 0, 0, 0, 0)
def ck_h285 : List ck_Hd := [(4, ([(0, 0, 0, (0, 0, 0)), (0, 12, 0, (0, 0, 0)), (0, 0, 0, (0, 0, 0))], [(2, .inl (1, 1, 0)), (1, .inl (2, 1, 0)), (0, .inl (0, 1, 0))], [], [], 101, 0, 0), 1, 0)]
set_option maxRecDepth 100000 in
theorem ck_k285 (l : Launch) (D : va_G) (st : Nat → Nat) : ck_Mt l D st ck_c285 := ck_sound (T := ck_T13) (cs := []) (hs := ck_h285) (sp := []) (fuel := 42) l ck_TSgood ck_okCl (ck_own (M0 := ck_m120) rfl rfl ck_okT13) ck_nil (by decide +kernel)
/-- SLModel.in -/
def ck_c286 : ck_C := (21, 101, [.inl (0, 0), .inl (2, 2), .inl (5, 5)], [], [], [(some (.inl (0, 0)), [(0, 0), (2, 2), (5, 5)], [], 101)], 0, 0, 0, 0)
def ck_h286 : List ck_Hd := []
set_option maxRecDepth 100000 in
theorem ck_k286 (l : Launch) (D : va_G) (st : Nat → Nat) : ck_Mt l D st ck_c286 := ck_sound (T := ck_T13) (cs := []) (hs := ck_h286) (sp := []) (fuel := 29) l ck_TSgood ck_okCl (ck_own (M0 := ck_m21) rfl rfl ck_okT13) ck_nil (by decide +kernel)
/-- SLModel.fewest -/
def ck_c287 : ck_C := (119, 101, [.inr (0, 77), .inl ((-2147483648), 2147483647), .inl ((-2147483648), (-1))], [((77, 2), .inr (0, 78)), ((78, 1293), .inl (0, 0))], [], [(some (.inl ((-1), (-1))), [((-2147483648), (-1)), ((-2147483648), (-1))], [], 101), (some (.inl ((-1), (-1))), [(1, 2147483647), ((-2147483648), (-1))], [], 101), (some (.inl ((-1), (-1))), [(0, 0), ((-2147483648), (-1))], [], 101)], 1, 22, 0, 0)
def ck_h287 : List ck_Hd := []
set_option maxRecDepth 100000 in
theorem ck_k287 (l : Launch) (D : va_G) (st : Nat → Nat) : ck_Mt l D st ck_c287 := ck_sound (T := ck_T13) (cs := [ck_c41, ck_c285, ck_c286]) (hs := ck_h287) (sp := []) (fuel := 40) l ck_TSgood ck_okCl (ck_own (M0 := ck_m119) rfl rfl ck_okT13) (ck_cons (ck_k41 l D st) (ck_cons (ck_k285 l D st) (ck_cons (ck_k286 l D st) ck_nil))) (by decide +kernel)
/-- SLModel.fewest -/
def ck_c288 : ck_C := (119, 101, [.inr (0, 77), .inl ((-2147483648), 2147483647), .inl (2, 2147483647)], [((77, 2), .inr (0, 78)), ((78, 1293), .inl (0, 0))], [], [(some (.inl ((-1), (-1))), [((-2147483648), (-1)), (2, 2147483647)], [], 101), (some (.inl ((-1), (-1))), [(1, 2147483647), (2, 2147483647)], [], 101), (some (.inl ((-1), (-1))), [(0, 0), (2, 2147483647)], [], 101)], 1, 22, 0, 0)
def ck_h288 : List ck_Hd := []
set_option maxRecDepth 100000 in
theorem ck_k288 (l : Launch) (D : va_G) (st : Nat → Nat) : ck_Mt l D st ck_c288 := ck_sound (T := ck_T13) (cs := [ck_c41, ck_c285, ck_c286]) (hs := ck_h288) (sp := []) (fuel := 40) l ck_TSgood ck_okCl (ck_own (M0 := ck_m119) rfl rfl ck_okT13) (ck_cons (ck_k41 l D st) (ck_cons (ck_k285 l D st) (ck_cons (ck_k286 l D st) ck_nil))) (by decide +kernel)
/-- SLModel.fewest -/
def ck_c289 : ck_C := (119, 101, [.inr (0, 77), .inl ((-2147483648), (-1)), .inl (0, 1)], [], [], [(some (.inl ((-1), (-1))), [((-2147483648), (-1)), (0, 1)], [], 101)], 0, 0, 0, 0)
def ck_h289 : List ck_Hd := []
set_option maxRecDepth 100000 in
theorem ck_k289 (l : Launch) (D : va_G) (st : Nat → Nat) : ck_Mt l D st ck_c289 := ck_sound (T := ck_T13) (cs := []) (hs := ck_h289) (sp := []) (fuel := 28) l ck_TSgood ck_okCl (ck_own (M0 := ck_m119) rfl rfl ck_okT13) ck_nil (by decide +kernel)
/-- SLModel.fewest -/
def ck_c290 : ck_C := (119, 101, [.inr (0, 77), .inl (1, 2147483647), .inl (0, 1)], [((77, 2), .inr (0, 78)), ((78, 1293), .inl (0, 0))], [], [(some (.inl ((-1), (-1))), [(1, 2147483647), (0, 1)], [], 101)], 1, 20, 0, 0)
def ck_h290 : List ck_Hd := []
set_option maxRecDepth 100000 in
theorem ck_k290 (l : Launch) (D : va_G) (st : Nat → Nat) : ck_Mt l D st ck_c290 := ck_sound (T := ck_T13) (cs := [ck_c41]) (hs := ck_h290) (sp := []) (fuel := 34) l ck_TSgood ck_okCl (ck_own (M0 := ck_m119) rfl rfl ck_okT13) (ck_cons (ck_k41 l D st) ck_nil) (by decide +kernel)
/-- SLModel.fewest -/
def ck_c291 : ck_C := (119, 101, [.inr (0, 77), .inl (0, 0), .inl (0, 1)], [((77, 2), .inr (0, 78)), ((78, 1293), .inl (0, 0))], [], [(some (.inl ((-1), (-1))), [(0, 0), (0, 1)], [], 101)], 1, 22, 0, 0)
def ck_h291 : List ck_Hd := []
set_option maxRecDepth 100000 in
theorem ck_k291 (l : Launch) (D : va_G) (st : Nat → Nat) : ck_Mt l D st ck_c291 := ck_sound (T := ck_T13) (cs := [ck_c41, ck_c285, ck_c286]) (hs := ck_h291) (sp := []) (fuel := 40) l ck_TSgood ck_okCl (ck_own (M0 := ck_m119) rfl rfl ck_okT13) (ck_cons (ck_k41 l D st) (ck_cons (ck_k285 l D st) (ck_cons (ck_k286 l D st) ck_nil))) (by decide +kernel)
/-- SL.within -/
def ck_c292 : ck_C := (16, 101, [.inl ((-2147483648), 2147483647), .inl (1, 1), .inl (0, 0)], [], [], [(some (.inl (0, 0)), [((-2147483648), 0), (1, 1), (0, 0)], [], 101), (some (.inl (0, 0)), [(1, 2147483647), (1, 1), (0, 0)], [], 101)], 0, 0, 0, 0)
def ck_h292 : List ck_Hd := []
set_option maxRecDepth 100000 in
theorem ck_k292 (l : Launch) (D : va_G) (st : Nat → Nat) : ck_Mt l D st ck_c292 := ck_sound (T := ck_T0) (cs := []) (hs := ck_h292) (sp := []) (fuel := 32) l ck_TSgood ck_okCl (ck_own (M0 := ck_m16) rfl rfl ck_okT0) ck_nil (by decide +kernel)
/-- SL.choice -/
def ck_c293 : ck_C := (121, 101, [.inr (0, 0), .inl ((-2147483648), 2147483647), .inl ((-2147483648), 2147483647)], [((0, 8), .inr (0, 59)), ((59, 5), .inl (0, 0))], [], [(some (.inl ((-1), (-1))), [((-2147483648), 2147483647), ((-2147483648), (-1))], [], 101), (some (.inl ((-1), (-1))), [((-2147483648), 2147483647), (2, 2147483647)], [], 101), (some (.inl ((-1), (-1))), [((-2147483648), 0), (0, 1)], [], 101), (some (.inl ((-1), (-1))), [(1, 2147483647), (0, 1)], [], 101)], 1, 22, 0, 0)
def ck_h293 : List ck_Hd := []
set_option maxRecDepth 100000 in
theorem ck_k293 (l : Launch) (D : va_G) (st : Nat → Nat) : ck_Mt l D st ck_c293 := ck_sound (T := ck_T0) (cs := [ck_c281, ck_c292]) (hs := ck_h293) (sp := []) (fuel := 38) l ck_TSgood ck_okCl (ck_own (M0 := ck_m121) rfl rfl ck_okT0) (ck_cons (ck_k281 l D st) (ck_cons (ck_k292 l D st) ck_nil)) (by decide +kernel)
/-- SLModel.in -/
def ck_c294 : ck_C := (21, 101, [.inl ((-2147483648), 2147483647), .inl (1, 1), .inl (12, 12)], [], [], [(some (.inl (0, 0)), [((-2147483648), 0), (1, 1), (12, 12)], [], 101), (some (.inl (0, 0)), [(13, 2147483647), (1, 1), (12, 12)], [], 101), (some (.inl (1, 1)), [(1, 12), (1, 1), (12, 12)], [], 101)], 0, 0, 0, 0)
def ck_h294 : List ck_Hd := []
set_option maxRecDepth 100000 in
theorem ck_k294 (l : Launch) (D : va_G) (st : Nat → Nat) : ck_Mt l D st ck_c294 := ck_sound (T := ck_T13) (cs := []) (hs := ck_h294) (sp := []) (fuel := 33) l ck_TSgood ck_okCl (ck_own (M0 := ck_m21) rfl rfl ck_okT13) ck_nil (by decide +kernel)
/-- SLModel.in -/
def ck_c295 : ck_C := (21, 101, [.inl ((-2147483648), (-1)), .inl (0, 0), .inl (1, 1)], [], [], [(some (.inl (0, 0)), [((-2147483648), (-1)), (0, 0), (1, 1)], [], 101)], 0, 0, 0, 0)
def ck_h295 : List ck_Hd := []
set_option maxRecDepth 100000 in
theorem ck_k295 (l : Launch) (D : va_G) (st : Nat → Nat) : ck_Mt l D st ck_c295 := ck_sound (T := ck_T13) (cs := []) (hs := ck_h295) (sp := []) (fuel := 29) l ck_TSgood ck_okCl (ck_own (M0 := ck_m21) rfl rfl ck_okT13) ck_nil (by decide +kernel)
/-- SLModel.choice -/
def ck_c296 : ck_C := (122, 101, [.inr (0, 77), .inl ((-2147483648), 2147483647), .inl ((-2147483648), (-1))], [], [], [(some (.inl ((-1), (-1))), [((-2147483648), 0), ((-2147483648), (-1))], [], 101), (some (.inl ((-1), (-1))), [(13, 2147483647), ((-2147483648), (-1))], [], 101), (some (.inl ((-1), (-1))), [(1, 12), ((-2147483648), (-1))], [], 101)], 1, 22, 0, 0)
def ck_h296 : List ck_Hd := []
set_option maxRecDepth 100000 in
theorem ck_k296 (l : Launch) (D : va_G) (st : Nat → Nat) : ck_Mt l D st ck_c296 := ck_sound (T := ck_T13) (cs := [ck_c294, ck_c295]) (hs := ck_h296) (sp := []) (fuel := 36) l ck_TSgood ck_okCl (ck_own (M0 := ck_m122) rfl rfl ck_okT13) (ck_cons (ck_k294 l D st) (ck_cons (ck_k295 l D st) ck_nil)) (by decide +kernel)
/-- SLModel.in -/
def ck_c297 : ck_C := (21, 101, [.inl (2, 2147483647), .inl (0, 0), .inl (1, 1)], [], [], [(some (.inl (0, 0)), [(2, 2147483647), (0, 0), (1, 1)], [], 101)], 0, 0, 0, 0)
def ck_h297 : List ck_Hd := []
set_option maxRecDepth 100000 in
theorem ck_k297 (l : Launch) (D : va_G) (st : Nat → Nat) : ck_Mt l D st ck_c297 := ck_sound (T := ck_T13) (cs := []) (hs := ck_h297) (sp := []) (fuel := 32) l ck_TSgood ck_okCl (ck_own (M0 := ck_m21) rfl rfl ck_okT13) ck_nil (by decide +kernel)
/-- SLModel.choice -/
def ck_c298 : ck_C := (122, 101, [.inr (0, 77), .inl ((-2147483648), 2147483647), .inl (2, 2147483647)], [], [], [(some (.inl ((-1), (-1))), [((-2147483648), 0), (2, 2147483647)], [], 101), (some (.inl ((-1), (-1))), [(13, 2147483647), (2, 2147483647)], [], 101), (some (.inl ((-1), (-1))), [(1, 12), (2, 2147483647)], [], 101)], 1, 22, 0, 0)
def ck_h298 : List ck_Hd := []
set_option maxRecDepth 100000 in
theorem ck_k298 (l : Launch) (D : va_G) (st : Nat → Nat) : ck_Mt l D st ck_c298 := ck_sound (T := ck_T13) (cs := [ck_c294, ck_c297]) (hs := ck_h298) (sp := []) (fuel := 36) l ck_TSgood ck_okCl (ck_own (M0 := ck_m122) rfl rfl ck_okT13) (ck_cons (ck_k294 l D st) (ck_cons (ck_k297 l D st) ck_nil)) (by decide +kernel)
/-- SLModel.in -/
def ck_c299 : ck_C := (21, 101, [.inl ((-2147483648), 0), .inl (1, 1), .inl (12, 12)], [], [], [(some (.inl (0, 0)), [((-2147483648), 0), (1, 1), (12, 12)], [], 101)], 0, 0, 0, 0)
def ck_h299 : List ck_Hd := []
set_option maxRecDepth 100000 in
theorem ck_k299 (l : Launch) (D : va_G) (st : Nat → Nat) : ck_Mt l D st ck_c299 := ck_sound (T := ck_T13) (cs := []) (hs := ck_h299) (sp := []) (fuel := 29) l ck_TSgood ck_okCl (ck_own (M0 := ck_m21) rfl rfl ck_okT13) ck_nil (by decide +kernel)
/-- SLModel.choice -/
def ck_c300 : ck_C := (122, 101, [.inr (0, 77), .inl ((-2147483648), 0), .inl (0, 1)], [], [], [(some (.inl ((-1), (-1))), [((-2147483648), 0), (0, 1)], [], 101)], 1, 22, 0, 0)
def ck_h300 : List ck_Hd := []
set_option maxRecDepth 100000 in
theorem ck_k300 (l : Launch) (D : va_G) (st : Nat → Nat) : ck_Mt l D st ck_c300 := ck_sound (T := ck_T13) (cs := [ck_c299]) (hs := ck_h300) (sp := []) (fuel := 31) l ck_TSgood ck_okCl (ck_own (M0 := ck_m122) rfl rfl ck_okT13) (ck_cons (ck_k299 l D st) ck_nil) (by decide +kernel)
/-- SLModel.in -/
def ck_c301 : ck_C := (21, 101, [.inl (1, 2147483647), .inl (1, 1), .inl (12, 12)], [], [], [(some (.inl (0, 0)), [(13, 2147483647), (1, 1), (12, 12)], [], 101), (some (.inl (1, 1)), [(1, 12), (1, 1), (12, 12)], [], 101)], 0, 0, 0, 0)
def ck_h301 : List ck_Hd := []
set_option maxRecDepth 100000 in
theorem ck_k301 (l : Launch) (D : va_G) (st : Nat → Nat) : ck_Mt l D st ck_c301 := ck_sound (T := ck_T13) (cs := []) (hs := ck_h301) (sp := []) (fuel := 33) l ck_TSgood ck_okCl (ck_own (M0 := ck_m21) rfl rfl ck_okT13) ck_nil (by decide +kernel)
/-- SLModel.in -/
def ck_c302 : ck_C := (21, 101, [.inl (0, 1), .inl (0, 0), .inl (1, 1)], [], [], [(some (.inl (1, 1)), [(0, 1), (0, 0), (1, 1)], [], 101)], 0, 0, 0, 0)
def ck_h302 : List ck_Hd := []
set_option maxRecDepth 100000 in
theorem ck_k302 (l : Launch) (D : va_G) (st : Nat → Nat) : ck_Mt l D st ck_c302 := ck_sound (T := ck_T13) (cs := []) (hs := ck_h302) (sp := []) (fuel := 33) l ck_TSgood ck_okCl (ck_own (M0 := ck_m21) rfl rfl ck_okT13) ck_nil (by decide +kernel)
/-- SLModel.isBestThere -/
def ck_c303 : ck_C := (123, 101, [.inr (0, 77)], [((77, 30), .inl ((-1), (-1)))], [], [(some (.inl (0, 0)), [], [], 101)], 0, 0, 0, 0)
def ck_h303 : List ck_Hd := [(2, ([], [(1, .inl (0, 0, 0)), (0, .inr (0, 77))], [], [((77, 30), .inl ((-1), (-1)))], 101, 0, 0), 0, 2)]
set_option maxRecDepth 100000 in
theorem ck_k303 (l : Launch) (D : va_G) (st : Nat → Nat) : ck_Mt l D st ck_c303 := ck_sound (T := ck_T13) (cs := []) (hs := ck_h303) (sp := []) (fuel := 36) l ck_TSgood ck_okCl (ck_own (M0 := ck_m123) rfl rfl ck_okT13) ck_nil (by decide +kernel)
/-- SLModel.choice -/
def ck_c304 : ck_C := (122, 101, [.inr (0, 77), .inl (1, 2147483647), .inl (0, 1)], [((77, 30), .inl ((-1), (-1)))], [], [(some (.inl ((-1), (-1))), [(13, 2147483647), (0, 1)], [], 101), (some (.inl ((-1), (-1))), [(1, 12), (0, 1)], [], 101)], 1, 22, 0, 0)
def ck_h304 : List ck_Hd := []
set_option maxRecDepth 100000 in
theorem ck_k304 (l : Launch) (D : va_G) (st : Nat → Nat) : ck_Mt l D st ck_c304 := ck_sound (T := ck_T13) (cs := [ck_c301, ck_c302, ck_c303]) (hs := ck_h304) (sp := []) (fuel := 39) l ck_TSgood ck_okCl (ck_own (M0 := ck_m122) rfl rfl ck_okT13) (ck_cons (ck_k301 l D st) (ck_cons (ck_k302 l D st) (ck_cons (ck_k303 l D st) ck_nil))) (by decide +kernel)
/-- SL.dents -/
def ck_c305 : ck_C := (124, 101, [.inr (0, 0), .inl ((-2147483648), 2147483647), .inl ((-2147483648), 2147483647)], [((0, 1), .inr (0, 1)), ((1, 1), .inl (0, 0))], [], [(some (.inl ((-1), (-1))), [((-2147483648), 0), ((-2147483648), 2147483647)], [], 101), (some (.inl ((-1), (-1))), [(101, 2147483647), ((-2147483648), 2147483647)], [], 101), (some (.inl ((-1), (-1))), [(1, 100), ((-2147483648), (-1))], [], 101), (some (.inl ((-1), (-1))), [(1, 100), (0, 2147483647)], [], 101)], 1, 22, 0, 0)
def ck_h305 : List ck_Hd := []
set_option maxRecDepth 100000 in
theorem ck_k305 (l : Launch) (D : va_G) (st : Nat → Nat) : ck_Mt l D st ck_c305 := ck_sound (T := ck_T0) (cs := [ck_c20, ck_c48]) (hs := ck_h305) (sp := []) (fuel := 40) l ck_TSgood ck_okCl (ck_own (M0 := ck_m124) rfl rfl ck_okT0) (ck_cons (ck_k20 l D st) (ck_cons (ck_k48 l D st) ck_nil)) (by decide +kernel)
/-- SLModel.dents -/
def ck_c306 : ck_C := (125, 101, [.inr (0, 77), .inl ((-2147483648), 0), .inl ((-2147483648), 2147483647)], [], [], [(some (.inl ((-1), (-1))), [((-2147483648), 0), ((-2147483648), 2147483647)], [], 101)], 1, 22, 0, 0)
def ck_h306 : List ck_Hd := []
set_option maxRecDepth 100000 in
theorem ck_k306 (l : Launch) (D : va_G) (st : Nat → Nat) : ck_Mt l D st ck_c306 := ck_sound (T := ck_T13) (cs := [ck_c31]) (hs := ck_h306) (sp := []) (fuel := 31) l ck_TSgood ck_okCl (ck_own (M0 := ck_m125) rfl rfl ck_okT13) (ck_cons (ck_k31 l D st) ck_nil) (by decide +kernel)
/-- SLModel.dents -/
def ck_c307 : ck_C := (125, 101, [.inr (0, 77), .inl (101, 2147483647), .inl ((-2147483648), 2147483647)], [], [], [(some (.inl ((-1), (-1))), [(101, 2147483647), ((-2147483648), 2147483647)], [], 101)], 1, 22, 0, 0)
def ck_h307 : List ck_Hd := []
set_option maxRecDepth 100000 in
theorem ck_k307 (l : Launch) (D : va_G) (st : Nat → Nat) : ck_Mt l D st ck_c307 := ck_sound (T := ck_T13) (cs := [ck_c33]) (hs := ck_h307) (sp := []) (fuel := 31) l ck_TSgood ck_okCl (ck_own (M0 := ck_m125) rfl rfl ck_okT13) (ck_cons (ck_k33 l D st) ck_nil) (by decide +kernel)
/-- SLModel.dentsOf -/
def ck_c308 : ck_C := (126, 101, [.inr (0, 77), .inl (1, 100)], [((77, 2), .inr (0, 78)), ((78, 1293), .inl (0, 0))], [], [(none, [(1, 100)], [], 101)], 1, 20, 0, 0)
def ck_h308 : List ck_Hd := [(2, ([(1, 100, 0, (0, 0, 0))], [(2, .inl (0, 0, 0)), (0, .inr (0, 77)), (1, .inl (0, 1, 0))], [], [((77, 2), .inr (0, 78)), ((78, 1293), .inl (0, 0))], 101, 0, 0), 0, 2)]
set_option maxRecDepth 100000 in
theorem ck_k308 (l : Launch) (D : va_G) (st : Nat → Nat) : ck_Mt l D st ck_c308 := ck_sound (T := ck_T13) (cs := [ck_c41]) (hs := ck_h308) (sp := []) (fuel := 31) l ck_TSgood ck_okCl (ck_own (M0 := ck_m126) rfl rfl ck_okT13) (ck_cons (ck_k41 l D st) ck_nil) (by decide +kernel)
/-- SLModel.standing -/
def ck_c309 : ck_C := (127, 101, [.inr (0, 77), .inl ((-2147483648), (-1))], [((77, 2), .inr (0, 78)), ((78, 1293), .inl (0, 0))], [], [(some (.inl ((-1), (-1))), [((-2147483648), (-1))], [], 101)], 1, 20, 0, 0)
def ck_h309 : List ck_Hd := [(2, ([((-2147483648), (-1), 0, (0, 0, 0))], [(2, .inl (0, 0, 0)), (0, .inr (0, 77)), (1, .inl (0, 1, 0))], [], [((77, 2), .inr (0, 78)), ((78, 1293), .inl (0, 0))], 101, 0, 0), 0, 2)]
set_option maxRecDepth 100000 in
theorem ck_k309 (l : Launch) (D : va_G) (st : Nat → Nat) : ck_Mt l D st ck_c309 := ck_sound (T := ck_T13) (cs := [ck_c41]) (hs := ck_h309) (sp := []) (fuel := 32) l ck_TSgood ck_okCl (ck_own (M0 := ck_m127) rfl rfl ck_okT13) (ck_cons (ck_k41 l D st) ck_nil) (by decide +kernel)
/-- SLModel.dents -/
def ck_c310 : ck_C := (125, 101, [.inr (0, 77), .inl (1, 100), .inl ((-2147483648), (-1))], [((77, 2), .inr (0, 78)), ((78, 1293), .inl (0, 0))], [], [(some (.inl ((-1), (-1))), [(1, 100), ((-2147483648), (-1))], [], 101)], 2, 44, 0, 0)
def ck_h310 : List ck_Hd := []
set_option maxRecDepth 100000 in
theorem ck_k310 (l : Launch) (D : va_G) (st : Nat → Nat) : ck_Mt l D st ck_c310 := ck_sound (T := ck_T13) (cs := [ck_c35, ck_c308, ck_c309]) (hs := ck_h310) (sp := []) (fuel := 36) l ck_TSgood ck_okCl (ck_own (M0 := ck_m125) rfl rfl ck_okT13) (ck_cons (ck_k35 l D st) (ck_cons (ck_k308 l D st) (ck_cons (ck_k309 l D st) ck_nil))) (by decide +kernel)
/-- SLModel.standing -/
def ck_c311 : ck_C := (127, 101, [.inr (0, 77), .inl (0, 2147483647)], [((77, 2), .inr (0, 78)), ((78, 1293), .inl (0, 0))], [], [(some (.inl ((-1), (-1))), [(0, 2147483647)], [], 101)], 1, 20, 0, 0)
def ck_h311 : List ck_Hd := [(2, ([(0, 2147483647, 0, (0, 0, 0))], [(2, .inl (0, 0, 0)), (0, .inr (0, 77)), (1, .inl (0, 1, 0))], [], [((77, 2), .inr (0, 78)), ((78, 1293), .inl (0, 0))], 101, 0, 0), 0, 2)]
set_option maxRecDepth 100000 in
theorem ck_k311 (l : Launch) (D : va_G) (st : Nat → Nat) : ck_Mt l D st ck_c311 := ck_sound (T := ck_T13) (cs := [ck_c41]) (hs := ck_h311) (sp := []) (fuel := 32) l ck_TSgood ck_okCl (ck_own (M0 := ck_m127) rfl rfl ck_okT13) (ck_cons (ck_k41 l D st) ck_nil) (by decide +kernel)
/-- SLModel.dents -/
def ck_c312 : ck_C := (125, 101, [.inr (0, 77), .inl (1, 100), .inl (0, 2147483647)], [((77, 2), .inr (0, 78)), ((78, 1293), .inl (0, 0))], [], [(some (.inl ((-1), (-1))), [(1, 100), (0, 2147483647)], [], 101)], 2, 44, 0, 0)
def ck_h312 : List ck_Hd := []
set_option maxRecDepth 100000 in
theorem ck_k312 (l : Launch) (D : va_G) (st : Nat → Nat) : ck_Mt l D st ck_c312 := ck_sound (T := ck_T13) (cs := [ck_c35, ck_c308, ck_c311]) (hs := ck_h312) (sp := []) (fuel := 36) l ck_TSgood ck_okCl (ck_own (M0 := ck_m125) rfl rfl ck_okT13) (ck_cons (ck_k35 l D st) (ck_cons (ck_k308 l D st) (ck_cons (ck_k311 l D st) ck_nil))) (by decide +kernel)
/-- SL.grooves -/
def ck_c313 : ck_C := (128, 101, [.inr (0, 0), .inl ((-2147483648), 2147483647)], [((0, 1), .inr (0, 1)), ((1, 1), .inl (0, 0))], [], [(some (.inl ((-1), (-1))), [((-2147483648), (-1))], [], 101), (some (.inl ((-1), (-1))), [(0, 2147483647)], [], 101)], 1, 22, 0, 0)
def ck_h313 : List ck_Hd := []
set_option maxRecDepth 100000 in
theorem ck_k313 (l : Launch) (D : va_G) (st : Nat → Nat) : ck_Mt l D st ck_c313 := ck_sound (T := ck_T0) (cs := [ck_c48]) (hs := ck_h313) (sp := []) (fuel := 35) l ck_TSgood ck_okCl (ck_own (M0 := ck_m128) rfl rfl ck_okT0) (ck_cons (ck_k48 l D st) ck_nil) (by decide +kernel)
/-- SLModel.groovesOf -/
def ck_c314 : ck_C := (130, 101, [.inr (0, 77)], [((77, 2), .inr (0, 78)), ((78, 1293), .inl (0, 0))], [], [(none, [], [], 101)], 1, 20, 0, 0)
def ck_h314 : List ck_Hd := [(2, ([], [(1, .inl (0, 0, 0)), (0, .inr (0, 77))], [], [((77, 2), .inr (0, 78)), ((78, 1293), .inl (0, 0))], 101, 0, 0), 0, 2)]
set_option maxRecDepth 100000 in
theorem ck_k314 (l : Launch) (D : va_G) (st : Nat → Nat) : ck_Mt l D st ck_c314 := ck_sound (T := ck_T13) (cs := [ck_c41]) (hs := ck_h314) (sp := []) (fuel := 31) l ck_TSgood ck_okCl (ck_own (M0 := ck_m130) rfl rfl ck_okT13) (ck_cons (ck_k41 l D st) ck_nil) (by decide +kernel)
/-- SLModel.grooves -/
def ck_c315 : ck_C := (129, 101, [.inr (0, 77), .inl ((-2147483648), (-1))], [((77, 2), .inr (0, 78)), ((78, 1293), .inl (0, 0))], [], [(some (.inl ((-1), (-1))), [((-2147483648), (-1))], [], 101)], 2, 44, 0, 0)
def ck_h315 : List ck_Hd := []
set_option maxRecDepth 100000 in
theorem ck_k315 (l : Launch) (D : va_G) (st : Nat → Nat) : ck_Mt l D st ck_c315 := ck_sound (T := ck_T13) (cs := [ck_c314, ck_c309]) (hs := ck_h315) (sp := []) (fuel := 30) l ck_TSgood ck_okCl (ck_own (M0 := ck_m129) rfl rfl ck_okT13) (ck_cons (ck_k314 l D st) (ck_cons (ck_k309 l D st) ck_nil)) (by decide +kernel)
/-- SLModel.grooves -/
def ck_c316 : ck_C := (129, 101, [.inr (0, 77), .inl (0, 2147483647)], [((77, 2), .inr (0, 78)), ((78, 1293), .inl (0, 0))], [], [(some (.inl ((-1), (-1))), [(0, 2147483647)], [], 101)], 2, 44, 0, 0)
def ck_h316 : List ck_Hd := []
set_option maxRecDepth 100000 in
theorem ck_k316 (l : Launch) (D : va_G) (st : Nat → Nat) : ck_Mt l D st ck_c316 := ck_sound (T := ck_T13) (cs := [ck_c314, ck_c311]) (hs := ck_h316) (sp := []) (fuel := 30) l ck_TSgood ck_okCl (ck_own (M0 := ck_m129) rfl rfl ck_okT13) (ck_cons (ck_k314 l D st) (ck_cons (ck_k311 l D st) ck_nil)) (by decide +kernel)
/-- SL$Lineup.sort -/
def ck_c317 : ck_C := (133, 101, [.inr (0, 65)], [((1, 1), .inl (0, 0)), ((65, 1), .inr (0, 1))], [], [(none, [], [], 101)], 0, 0, 0, 0)
def ck_h317 : List ck_Hd := [(2, ([], [(1, .inl (0, 0, 0)), (0, .inr (0, 65))], [], [((1, 1), .inl (0, 0)), ((65, 1), .inr (0, 1))], 101, 0, 0), 0, 2)]
set_option maxRecDepth 100000 in
theorem ck_k317 (l : Launch) (D : va_G) (st : Nat → Nat) : ck_Mt l D st ck_c317 := ck_sound (T := ck_T2) (cs := []) (hs := ck_h317) (sp := []) (fuel := 32) l ck_TSgood ck_okCl (ck_own (M0 := ck_m133) rfl rfl ck_okT2) ck_nil (by decide +kernel)
/-- SL$Lineup.byDents -/
def ck_c318 : ck_C := (132, 101, [.inr (0, 65), .inl (1, 100)], [((1, 1), .inl (0, 0)), ((65, 1), .inr (0, 1))], [], [(none, [(1, 100)], [], 101)], 1, 22, 0, 0)
def ck_h318 : List ck_Hd := [(2, ([(1, 100, 0, (0, 0, 0))], [(2, .inl (0, 0, 0)), (0, .inr (0, 65)), (1, .inl (0, 1, 0))], [], [((1, 1), .inl (0, 0)), ((65, 1), .inr (0, 1))], 101, 0, 0), 0, 2)]
set_option maxRecDepth 100000 in
theorem ck_k318 (l : Launch) (D : va_G) (st : Nat → Nat) : ck_Mt l D st ck_c318 := ck_sound (T := ck_T2) (cs := [ck_c317]) (hs := ck_h318) (sp := []) (fuel := 34) l ck_TSgood ck_okCl (ck_own (M0 := ck_m132) rfl rfl ck_okT2) (ck_cons (ck_k317 l D st) ck_nil) (by decide +kernel)
/-- SL$Lineup.pairsOtherwise -/
def ck_c319 : ck_C := (134, 101, [.inr (0, 65), .inr (0, 59)], [((1, 1), .inl (0, 0)), ((65, 1), .inr (0, 1))], [], [(some (.inl (0, 0)), [], [], 101)], 0, 0, 0, 0)
def ck_h319 : List ck_Hd := [(4, ([], [(3, .inl (0, 0, 1)), (2, .inl (0, 0, 0)), (0, .inr (0, 65)), (1, .inr (0, 59))], [], [((1, 1), .inl (0, 0)), ((65, 1), .inr (0, 1))], 101, 0, 0), 0, 2)]
set_option maxRecDepth 100000 in
theorem ck_k319 (l : Launch) (D : va_G) (st : Nat → Nat) : ck_Mt l D st ck_c319 := ck_sound (T := ck_T2) (cs := []) (hs := ck_h319) (sp := []) (fuel := 35) l ck_TSgood ck_okCl (ck_own (M0 := ck_m134) rfl rfl ck_okT2) ck_nil (by decide +kernel)
