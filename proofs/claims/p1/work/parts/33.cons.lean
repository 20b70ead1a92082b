/-- SL.exchange -/
def ck_c80 : ck_C := (33, 101, [.inr (0, 7), .inl (0, 11), .inl (0, 1000)], [((7, 0), .inl (0, 0))], [(7, 0)], [(some (.inl (0, 0)), [(0, 11), (0, 1000)], [((7, 0), .inl (0, 1000))], 101)], 0, 0, 0, 0)
def ck_h80 : List ck_Hd := []
set_option maxRecDepth 100000 in
theorem ck_k80 (l : Launch) (D : va_G) (st : Nat → Nat) : ck_Mt l D st ck_c80 := ck_sound (T := ck_T0) (cs := []) (hs := ck_h80) (sp := []) (fuel := 34) l ck_TSgood ck_okCl (ck_own (M0 := ck_m33) rfl rfl ck_okT0) ck_nil (by decide +kernel)
/-- SL.known -/
def ck_c81 : ck_C := (32, 101, [.inr (0, 0), .inl ((-2147483648), 2147483647), .inl ((-2147483648), 2147483647)], [((0, 1), .inr (0, 1)), ((1, 7), .inr (0, 7)), ((7, 0), .inl (0, 0))], [(0, 15), (7, 0)], [(some (.inl ((-1), (-1))), [((-2147483648), (-1)), ((-2147483648), 2147483647)], [((0, 15), .inl ((-1), (-1))), ((7, 0), .inl (0, 0))], 101), (some (.inl ((-1), (-1))), [(12, 2147483647), ((-2147483648), 2147483647)], [((0, 15), .inl ((-1), (-1))), ((7, 0), .inl (0, 0))], 101), (some (.inl ((-1), (-1))), [(0, 11), ((-2147483648), (-1))], [((0, 15), .inl ((-1), (-1))), ((7, 0), .inl (0, 0))], 101), (some (.inl ((-1), (-1))), [(0, 11), (1001, 2147483647)], [((0, 15), .inl ((-1), (-1))), ((7, 0), .inl (0, 0))], 101), (some (.inl (0, 0)), [(0, 11), (0, 1000)], [((0, 15), .inl (0, 0)), ((7, 0), .inl (0, 1000))], 101)], 1, 23, 0, 0)
def ck_h81 : List ck_Hd := []
set_option maxRecDepth 100000 in
theorem ck_k81 (l : Launch) (D : va_G) (st : Nat → Nat) : ck_Mt l D st ck_c81 := ck_sound (T := ck_T0) (cs := [ck_c18, ck_c19, ck_c79, ck_c80, ck_c23]) (hs := ck_h81) (sp := []) (fuel := 43) l ck_TSgood ck_okCl (ck_own (M0 := ck_m32) rfl rfl ck_okT0) (ck_cons (ck_k18 l D st) (ck_cons (ck_k19 l D st) (ck_cons (ck_k79 l D st) (ck_cons (ck_k80 l D st) (ck_cons (ck_k23 l D st) ck_nil))))) (by decide +kernel)
/-- SLModel.known -/
def ck_c82 : ck_C := (34, 101, [.inr (0, 77), .inl ((-2147483648), (-1)), .inl ((-2147483648), 2147483647)], [], [(77, 1)], [(some (.inl ((-1), (-1))), [((-2147483648), (-1)), ((-2147483648), 2147483647)], [((77, 1), .inl ((-1), (-1)))], 101)], 1, 22, 0, 0)
def ck_h82 : List ck_Hd := []
set_option maxRecDepth 100000 in
theorem ck_k82 (l : Launch) (D : va_G) (st : Nat → Nat) : ck_Mt l D st ck_c82 := ck_sound (T := ck_T13) (cs := [ck_c25, ck_c26]) (hs := ck_h82) (sp := [(0, 0, 0), (0, 0, 1), (0, 0, 2), (0, 0, 3), (0, 0, 4), (0, 0, 5), (0, 0, 6), (0, 0, 7), (0, 0, 8), (0, 0, 9), (0, 0, 10)]) (fuel := 33) l ck_TSgood ck_okCl (ck_own (M0 := ck_m34) rfl rfl ck_okT13) (ck_cons (ck_k25 l D st) (ck_cons (ck_k26 l D st) ck_nil)) (by decide +kernel)
/-- SLModel.known -/
def ck_c83 : ck_C := (34, 101, [.inr (0, 77), .inl (12, 2147483647), .inl ((-2147483648), 2147483647)], [], [(77, 1)], [(some (.inl ((-1), (-1))), [(12, 2147483647), ((-2147483648), 2147483647)], [((77, 1), .inl ((-1), (-1)))], 101)], 1, 22, 0, 0)
def ck_h83 : List ck_Hd := []
set_option maxRecDepth 100000 in
theorem ck_k83 (l : Launch) (D : va_G) (st : Nat → Nat) : ck_Mt l D st ck_c83 := ck_sound (T := ck_T13) (cs := [ck_c28, ck_c26]) (hs := ck_h83) (sp := [(0, 0, 0), (0, 0, 1), (0, 0, 2), (0, 0, 3), (0, 0, 4), (0, 0, 5), (0, 0, 6), (0, 0, 7), (0, 0, 8), (0, 0, 9), (0, 0, 10)]) (fuel := 33) l ck_TSgood ck_okCl (ck_own (M0 := ck_m34) rfl rfl ck_okT13) (ck_cons (ck_k28 l D st) (ck_cons (ck_k26 l D st) ck_nil)) (by decide +kernel)
/-- SLModel.in -/
def ck_c84 : ck_C := (21, 101, [.inl (0, 0), .inl (0, 0), .inl (11, 11)], [], [], [(some (.inl (1, 1)), [(0, 0), (0, 0), (11, 11)], [], 101)], 0, 0, 0, 0)
def ck_h84 : List ck_Hd := []
set_option maxRecDepth 100000 in
theorem ck_k84 (l : Launch) (D : va_G) (st : Nat → Nat) : ck_Mt l D st ck_c84 := ck_sound (T := ck_T13) (cs := []) (hs := ck_h84) (sp := []) (fuel := 33) l ck_TSgood ck_okCl (ck_own (M0 := ck_m21) rfl rfl ck_okT13) ck_nil (by decide +kernel)
/-- SLModel.in -/
def ck_c85 : ck_C := (21, 101, [.inl ((-2147483648), (-1)), .inl (0, 0), .inl (1000, 1000)], [], [], [(some (.inl (0, 0)), [((-2147483648), (-1)), (0, 0), (1000, 1000)], [], 101)], 0, 0, 0, 0)
def ck_h85 : List ck_Hd := []
set_option maxRecDepth 100000 in
theorem ck_k85 (l : Launch) (D : va_G) (st : Nat → Nat) : ck_Mt l D st ck_c85 := ck_sound (T := ck_T13) (cs := []) (hs := ck_h85) (sp := []) (fuel := 29) l ck_TSgood ck_okCl (ck_own (M0 := ck_m21) rfl rfl ck_okT13) ck_nil (by decide +kernel)
/-- SLModel.in -/
def ck_c86 : ck_C := (21, 101, [.inl (1, 1), .inl (0, 0), .inl (11, 11)], [], [], [(some (.inl (1, 1)), [(1, 1), (0, 0), (11, 11)], [], 101)], 0, 0, 0, 0)
def ck_h86 : List ck_Hd := []
set_option maxRecDepth 100000 in
theorem ck_k86 (l : Launch) (D : va_G) (st : Nat → Nat) : ck_Mt l D st ck_c86 := ck_sound (T := ck_T13) (cs := []) (hs := ck_h86) (sp := []) (fuel := 33) l ck_TSgood ck_okCl (ck_own (M0 := ck_m21) rfl rfl ck_okT13) ck_nil (by decide +kernel)
/-- SLModel.in -/
def ck_c87 : ck_C := (21, 101, [.inl (2, 2), .inl (0, 0), .inl (11, 11)], [], [], [(some (.inl (1, 1)), [(2, 2), (0, 0), (11, 11)], [], 101)], 0, 0, 0, 0)
def ck_h87 : List ck_Hd := []
set_option maxRecDepth 100000 in
theorem ck_k87 (l : Launch) (D : va_G) (st : Nat → Nat) : ck_Mt l D st ck_c87 := ck_sound (T := ck_T13) (cs := []) (hs := ck_h87) (sp := []) (fuel := 33) l ck_TSgood ck_okCl (ck_own (M0 := ck_m21) rfl rfl ck_okT13) ck_nil (by decide +kernel)
/-- SLModel.in -/
def ck_c88 : ck_C := (21, 101, [.inl (3, 3), .inl (0, 0), .inl (11, 11)], [], [], [(some (.inl (1, 1)), [(3, 3), (0, 0), (11, 11)], [], 101)], 0, 0, 0, 0)
def ck_h88 : List ck_Hd := []
set_option maxRecDepth 100000 in
theorem ck_k88 (l : Launch) (D : va_G) (st : Nat → Nat) : ck_Mt l D st ck_c88 := ck_sound (T := ck_T13) (cs := []) (hs := ck_h88) (sp := []) (fuel := 33) l ck_TSgood ck_okCl (ck_own (M0 := ck_m21) rfl rfl ck_okT13) ck_nil (by decide +kernel)
/-- SLModel.in -/
def ck_c89 : ck_C := (21, 101, [.inl (4, 4), .inl (0, 0), .inl (11, 11)], [], [], [(some (.inl (1, 1)), [(4, 4), (0, 0), (11, 11)], [], 101)], 0, 0, 0, 0)
def ck_h89 : List ck_Hd := []
set_option maxRecDepth 100000 in
theorem ck_k89 (l : Launch) (D : va_G) (st : Nat → Nat) : ck_Mt l D st ck_c89 := ck_sound (T := ck_T13) (cs := []) (hs := ck_h89) (sp := []) (fuel := 33) l ck_TSgood ck_okCl (ck_own (M0 := ck_m21) rfl rfl ck_okT13) ck_nil (by decide +kernel)
/-- SLModel.in -/
def ck_c90 : ck_C := (21, 101, [.inl (5, 5), .inl (0, 0), .inl (11, 11)], [], [], [(some (.inl (1, 1)), [(5, 5), (0, 0), (11, 11)], [], 101)], 0, 0, 0, 0)
def ck_h90 : List ck_Hd := []
set_option maxRecDepth 100000 in
theorem ck_k90 (l : Launch) (D : va_G) (st : Nat → Nat) : ck_Mt l D st ck_c90 := ck_sound (T := ck_T13) (cs := []) (hs := ck_h90) (sp := []) (fuel := 33) l ck_TSgood ck_okCl (ck_own (M0 := ck_m21) rfl rfl ck_okT13) ck_nil (by decide +kernel)
/-- SLModel.in -/
def ck_c91 : ck_C := (21, 101, [.inl (6, 6), .inl (0, 0), .inl (11, 11)], [], [], [(some (.inl (1, 1)), [(6, 6), (0, 0), (11, 11)], [], 101)], 0, 0, 0, 0)
def ck_h91 : List ck_Hd := []
set_option maxRecDepth 100000 in
theorem ck_k91 (l : Launch) (D : va_G) (st : Nat → Nat) : ck_Mt l D st ck_c91 := ck_sound (T := ck_T13) (cs := []) (hs := ck_h91) (sp := []) (fuel := 33) l ck_TSgood ck_okCl (ck_own (M0 := ck_m21) rfl rfl ck_okT13) ck_nil (by decide +kernel)
/-- SLModel.in -/
def ck_c92 : ck_C := (21, 101, [.inl (7, 7), .inl (0, 0), .inl (11, 11)], [], [], [(some (.inl (1, 1)), [(7, 7), (0, 0), (11, 11)], [], 101)], 0, 0, 0, 0)
def ck_h92 : List ck_Hd := []
set_option maxRecDepth 100000 in
theorem ck_k92 (l : Launch) (D : va_G) (st : Nat → Nat) : ck_Mt l D st ck_c92 := ck_sound (T := ck_T13) (cs := []) (hs := ck_h92) (sp := []) (fuel := 33) l ck_TSgood ck_okCl (ck_own (M0 := ck_m21) rfl rfl ck_okT13) ck_nil (by decide +kernel)
/-- SLModel.in -/
def ck_c93 : ck_C := (21, 101, [.inl (8, 8), .inl (0, 0), .inl (11, 11)], [], [], [(some (.inl (1, 1)), [(8, 8), (0, 0), (11, 11)], [], 101)], 0, 0, 0, 0)
def ck_h93 : List ck_Hd := []
set_option maxRecDepth 100000 in
theorem ck_k93 (l : Launch) (D : va_G) (st : Nat → Nat) : ck_Mt l D st ck_c93 := ck_sound (T := ck_T13) (cs := []) (hs := ck_h93) (sp := []) (fuel := 33) l ck_TSgood ck_okCl (ck_own (M0 := ck_m21) rfl rfl ck_okT13) ck_nil (by decide +kernel)
/-- SLModel.in -/
def ck_c94 : ck_C := (21, 101, [.inl (9, 9), .inl (0, 0), .inl (11, 11)], [], [], [(some (.inl (1, 1)), [(9, 9), (0, 0), (11, 11)], [], 101)], 0, 0, 0, 0)
def ck_h94 : List ck_Hd := []
set_option maxRecDepth 100000 in
theorem ck_k94 (l : Launch) (D : va_G) (st : Nat → Nat) : ck_Mt l D st ck_c94 := ck_sound (T := ck_T13) (cs := []) (hs := ck_h94) (sp := []) (fuel := 33) l ck_TSgood ck_okCl (ck_own (M0 := ck_m21) rfl rfl ck_okT13) ck_nil (by decide +kernel)
/-- SLModel.in -/
def ck_c95 : ck_C := (21, 101, [.inl (10, 10), .inl (0, 0), .inl (11, 11)], [], [], [(some (.inl (1, 1)), [(10, 10), (0, 0), (11, 11)], [], 101)], 0, 0, 0, 0)
def ck_h95 : List ck_Hd := []
set_option maxRecDepth 100000 in
theorem ck_k95 (l : Launch) (D : va_G) (st : Nat → Nat) : ck_Mt l D st ck_c95 := ck_sound (T := ck_T13) (cs := []) (hs := ck_h95) (sp := []) (fuel := 33) l ck_TSgood ck_okCl (ck_own (M0 := ck_m21) rfl rfl ck_okT13) ck_nil (by decide +kernel)
/-- SLModel.in -/
def ck_c96 : ck_C := (21, 101, [.inl (11, 11), .inl (0, 0), .inl (11, 11)], [], [], [(some (.inl (1, 1)), [(11, 11), (0, 0), (11, 11)], [], 101)], 0, 0, 0, 0)
def ck_h96 : List ck_Hd := []
set_option maxRecDepth 100000 in
theorem ck_k96 (l : Launch) (D : va_G) (st : Nat → Nat) : ck_Mt l D st ck_c96 := ck_sound (T := ck_T13) (cs := []) (hs := ck_h96) (sp := []) (fuel := 33) l ck_TSgood ck_okCl (ck_own (M0 := ck_m21) rfl rfl ck_okT13) ck_nil (by decide +kernel)
/-- SLModel.known -/
def ck_c97 : ck_C := (34, 101, [.inr (0, 77), .inl (0, 11), .inl ((-2147483648), (-1))], [], [(77, 1)], [(some (.inl ((-1), (-1))), [(0, 11), ((-2147483648), (-1))], [((77, 1), .inl ((-1), (-1)))], 101)], 1, 22, 0, 0)
def ck_h97 : List ck_Hd := []
set_option maxRecDepth 100000 in
theorem ck_k97 (l : Launch) (D : va_G) (st : Nat → Nat) : ck_Mt l D st ck_c97 := ck_sound (T := ck_T13) (cs := [ck_c84, ck_c85, ck_c26, ck_c86, ck_c87, ck_c88, ck_c89, ck_c90, ck_c91, ck_c92, ck_c93, ck_c94, ck_c95, ck_c96]) (hs := ck_h97) (sp := [(0, 0, 0), (0, 0, 1), (0, 0, 2), (0, 0, 3), (0, 0, 4), (0, 0, 5), (0, 0, 6), (0, 0, 7), (0, 0, 8), (0, 0, 9), (0, 0, 10)]) (fuel := 49) l ck_TSgood ck_okCl (ck_own (M0 := ck_m34) rfl rfl ck_okT13) (ck_cons (ck_k84 l D st) (ck_cons (ck_k85 l D st) (ck_cons (ck_k26 l D st) (ck_cons (ck_k86 l D st) (ck_cons (ck_k87 l D st) (ck_cons (ck_k88 l D st) (ck_cons (ck_k89 l D st) (ck_cons (ck_k90 l D st) (ck_cons (ck_k91 l D st) (ck_cons (ck_k92 l D st) (ck_cons (ck_k93 l D st) (ck_cons (ck_k94 l D st) (ck_cons (ck_k95 l D st) (ck_cons (ck_k96 l D st) ck_nil)))))))))))))) (by decide +kernel)
/-- SLModel.in -/
def ck_c98 : ck_C := (21, 101, [.inl (1001, 2147483647), .inl (0, 0), .inl (1000, 1000)], [], [], [(some (.inl (0, 0)), [(1001, 2147483647), (0, 0), (1000, 1000)], [], 101)], 0, 0, 0, 0)
def ck_h98 : List ck_Hd := []
set_option maxRecDepth 100000 in
theorem ck_k98 (l : Launch) (D : va_G) (st : Nat → Nat) : ck_Mt l D st ck_c98 := ck_sound (T := ck_T13) (cs := []) (hs := ck_h98) (sp := []) (fuel := 32) l ck_TSgood ck_okCl (ck_own (M0 := ck_m21) rfl rfl ck_okT13) ck_nil (by decide +kernel)
/-- SLModel.known -/
def ck_c99 : ck_C := (34, 101, [.inr (0, 77), .inl (0, 11), .inl (1001, 2147483647)], [], [(77, 1)], [(some (.inl ((-1), (-1))), [(0, 11), (1001, 2147483647)], [((77, 1), .inl ((-1), (-1)))], 101)], 1, 22, 0, 0)
def ck_h99 : List ck_Hd := []
set_option maxRecDepth 100000 in
theorem ck_k99 (l : Launch) (D : va_G) (st : Nat → Nat) : ck_Mt l D st ck_c99 := ck_sound (T := ck_T13) (cs := [ck_c84, ck_c98, ck_c26, ck_c86, ck_c87, ck_c88, ck_c89, ck_c90, ck_c91, ck_c92, ck_c93, ck_c94, ck_c95, ck_c96]) (hs := ck_h99) (sp := [(0, 0, 0), (0, 0, 1), (0, 0, 2), (0, 0, 3), (0, 0, 4), (0, 0, 5), (0, 0, 6), (0, 0, 7), (0, 0, 8), (0, 0, 9), (0, 0, 10)]) (fuel := 49) l ck_TSgood ck_okCl (ck_own (M0 := ck_m34) rfl rfl ck_okT13) (ck_cons (ck_k84 l D st) (ck_cons (ck_k98 l D st) (ck_cons (ck_k26 l D st) (ck_cons (ck_k86 l D st) (ck_cons (ck_k87 l D st) (ck_cons (ck_k88 l D st) (ck_cons (ck_k89 l D st) (ck_cons (ck_k90 l D st) (ck_cons (ck_k91 l D st) (ck_cons (ck_k92 l D st) (ck_cons (ck_k93 l D st) (ck_cons (ck_k94 l D st) (ck_cons (ck_k95 l D st) (ck_cons (ck_k96 l D st) ck_nil)))))))))))))) (by decide +kernel)
/-- SLModel.in -/
def ck_c100 : ck_C := (21, 101, [.inl (0, 1000), .inl (0, 0), .inl (1000, 1000)], [], [], [(some (.inl (1, 1)), [(0, 1000), (0, 0), (1000, 1000)], [], 101)], 0, 0, 0, 0)
def ck_h100 : List ck_Hd := []
set_option maxRecDepth 100000 in
theorem ck_k100 (l : Launch) (D : va_G) (st : Nat → Nat) : ck_Mt l D st ck_c100 := ck_sound (T := ck_T13) (cs := []) (hs := ck_h100) (sp := []) (fuel := 33) l ck_TSgood ck_okCl (ck_own (M0 := ck_m21) rfl rfl ck_okT13) ck_nil (by decide +kernel)
/-- SLModel.replaces -/
def ck_c101 : ck_C := (35, 101, [.inr (0, 77), .inl (192, 192), .inl (0, 1000)], [((77, 2), .inr (0, 78)), ((78, 0), .inl ((-1), 15)), ((78, 193), .inl (0, 0)), ((78, 194), .inl (0, 0)), ((78, 195), .inl (0, 0)), ((78, 196), .inl (0, 0)), ((78, 197), .inl (0, 0)), ((78, 198), .inl (0, 0)), ((78, 199), .inl (0, 0)), ((78, 200), .inl (0, 0)), ((78, 201), .inl (0, 0)), ((78, 202), .inl (0, 0)), ((78, 203), .inl (0, 0)), ((78, 204), .inl (0, 0)), ((78, 1293), .inl (0, 0)), ((78, 1294), .inl (0, 0)), ((78, 1295), .inl (0, 0))], [(77, 1), (78, 0)], [(some (.inl (0, 0)), [(192, 192), (0, 1000)], [((77, 1), .inl (0, 0)), ((78, 0), .inl ((-1), 1000)), ((78, 193), .inl (0, 1000)), ((78, 194), .inl (0, 0)), ((78, 195), .inl (0, 0)), ((78, 196), .inl (0, 0)), ((78, 197), .inl (0, 0)), ((78, 198), .inl (0, 0)), ((78, 199), .inl (0, 0)), ((78, 200), .inl (0, 0)), ((78, 201), .inl (0, 0)), ((78, 202), .inl (0, 0)), ((78, 203), .inl (0, 0)), ((78, 204), .inl (0, 0)), ((78, 1293), .inl (0, 0)), ((78, 1294), .inl (0, 0)), ((78, 1295), .inl (0, 0))], 101)], 1, 21, 0, 0)
def ck_h101 : List ck_Hd := []
set_option maxRecDepth 100000 in
theorem ck_k101 (l : Launch) (D : va_G) (st : Nat → Nat) : ck_Mt l D st ck_c101 := ck_sound (T := ck_T13) (cs := [ck_c42]) (hs := ck_h101) (sp := []) (fuel := 38) l ck_TSgood ck_okCl (ck_own (M0 := ck_m35) rfl rfl ck_okT13) (ck_cons (ck_k42 l D st) ck_nil) (by decide +kernel)
/-- SLModel.replaces -/
def ck_c102 : ck_C := (35, 101, [.inr (0, 77), .inl (193, 193), .inl (0, 1000)], [((77, 2), .inr (0, 78)), ((78, 0), .inl ((-1), 15)), ((78, 193), .inl (0, 0)), ((78, 194), .inl (0, 0)), ((78, 195), .inl (0, 0)), ((78, 196), .inl (0, 0)), ((78, 197), .inl (0, 0)), ((78, 198), .inl (0, 0)), ((78, 199), .inl (0, 0)), ((78, 200), .inl (0, 0)), ((78, 201), .inl (0, 0)), ((78, 202), .inl (0, 0)), ((78, 203), .inl (0, 0)), ((78, 204), .inl (0, 0)), ((78, 1293), .inl (0, 0)), ((78, 1294), .inl (0, 0)), ((78, 1295), .inl (0, 0))], [(77, 1), (78, 0)], [(some (.inl (0, 0)), [(193, 193), (0, 1000)], [((77, 1), .inl (0, 0)), ((78, 0), .inl ((-1), 1000)), ((78, 193), .inl (0, 0)), ((78, 194), .inl (0, 1000)), ((78, 195), .inl (0, 0)), ((78, 196), .inl (0, 0)), ((78, 197), .inl (0, 0)), ((78, 198), .inl (0, 0)), ((78, 199), .inl (0, 0)), ((78, 200), .inl (0, 0)), ((78, 201), .inl (0, 0)), ((78, 202), .inl (0, 0)), ((78, 203), .inl (0, 0)), ((78, 204), .inl (0, 0)), ((78, 1293), .inl (0, 0)), ((78, 1294), .inl (0, 0)), ((78, 1295), .inl (0, 0))], 101)], 1, 21, 0, 0)
def ck_h102 : List ck_Hd := []
set_option maxRecDepth 100000 in
theorem ck_k102 (l : Launch) (D : va_G) (st : Nat → Nat) : ck_Mt l D st ck_c102 := ck_sound (T := ck_T13) (cs := [ck_c42]) (hs := ck_h102) (sp := []) (fuel := 38) l ck_TSgood ck_okCl (ck_own (M0 := ck_m35) rfl rfl ck_okT13) (ck_cons (ck_k42 l D st) ck_nil) (by decide +kernel)
/-- SLModel.replaces -/
def ck_c103 : ck_C := (35, 101, [.inr (0, 77), .inl (194, 194), .inl (0, 1000)], [((77, 2), .inr (0, 78)), ((78, 0), .inl ((-1), 15)), ((78, 193), .inl (0, 0)), ((78, 194), .inl (0, 0)), ((78, 195), .inl (0, 0)), ((78, 196), .inl (0, 0)), ((78, 197), .inl (0, 0)), ((78, 198), .inl (0, 0)), ((78, 199), .inl (0, 0)), ((78, 200), .inl (0, 0)), ((78, 201), .inl (0, 0)), ((78, 202), .inl (0, 0)), ((78, 203), .inl (0, 0)), ((78, 204), .inl (0, 0)), ((78, 1293), .inl (0, 0)), ((78, 1294), .inl (0, 0)), ((78, 1295), .inl (0, 0))], [(77, 1), (78, 0)], [(some (.inl (0, 0)), [(194, 194), (0, 1000)], [((77, 1), .inl (0, 0)), ((78, 0), .inl ((-1), 1000)), ((78, 193), .inl (0, 0)), ((78, 194), .inl (0, 0)), ((78, 195), .inl (0, 1000)), ((78, 196), .inl (0, 0)), ((78, 197), .inl (0, 0)), ((78, 198), .inl (0, 0)), ((78, 199), .inl (0, 0)), ((78, 200), .inl (0, 0)), ((78, 201), .inl (0, 0)), ((78, 202), .inl (0, 0)), ((78, 203), .inl (0, 0)), ((78, 204), .inl (0, 0)), ((78, 1293), .inl (0, 0)), ((78, 1294), .inl (0, 0)), ((78, 1295), .inl (0, 0))], 101)], 1, 21, 0, 0)
def ck_h103 : List ck_Hd := []
set_option maxRecDepth 100000 in
theorem ck_k103 (l : Launch) (D : va_G) (st : Nat → Nat) : ck_Mt l D st ck_c103 := ck_sound (T := ck_T13) (cs := [ck_c42]) (hs := ck_h103) (sp := []) (fuel := 38) l ck_TSgood ck_okCl (ck_own (M0 := ck_m35) rfl rfl ck_okT13) (ck_cons (ck_k42 l D st) ck_nil) (by decide +kernel)
/-- SLModel.replaces -/
def ck_c104 : ck_C := (35, 101, [.inr (0, 77), .inl (195, 195), .inl (0, 1000)], [((77, 2), .inr (0, 78)), ((78, 0), .inl ((-1), 15)), ((78, 193), .inl (0, 0)), ((78, 194), .inl (0, 0)), ((78, 195), .inl (0, 0)), ((78, 196), .inl (0, 0)), ((78, 197), .inl (0, 0)), ((78, 198), .inl (0, 0)), ((78, 199), .inl (0, 0)), ((78, 200), .inl (0, 0)), ((78, 201), .inl (0, 0)), ((78, 202), .inl (0, 0)), ((78, 203), .inl (0, 0)), ((78, 204), .inl (0, 0)), ((78, 1293), .inl (0, 0)), ((78, 1294), .inl (0, 0)), ((78, 1295), .inl (0, 0))], [(77, 1), (78, 0)], [(some (.inl (0, 0)), [(195, 195), (0, 1000)], [((77, 1), .inl (0, 0)), ((78, 0), .inl ((-1), 1000)), ((78, 193), .inl (0, 0)), ((78, 194), .inl (0, 0)), ((78, 195), .inl (0, 0)), ((78, 196), .inl (0, 1000)), ((78, 197), .inl (0, 0)), ((78, 198), .inl (0, 0)), ((78, 199), .inl (0, 0)), ((78, 200), .inl (0, 0)), ((78, 201), .inl (0, 0)), ((78, 202), .inl (0, 0)), ((78, 203), .inl (0, 0)), ((78, 204), .inl (0, 0)), ((78, 1293), .inl (0, 0)), ((78, 1294), .inl (0, 0)), ((78, 1295), .inl (0, 0))], 101)], 1, 21, 0, 0)
def ck_h104 : List ck_Hd := []
set_option maxRecDepth 100000 in
theorem ck_k104 (l : Launch) (D : va_G) (st : Nat → Nat) : ck_Mt l D st ck_c104 := ck_sound (T := ck_T13) (cs := [ck_c42]) (hs := ck_h104) (sp := []) (fuel := 38) l ck_TSgood ck_okCl (ck_own (M0 := ck_m35) rfl rfl ck_okT13) (ck_cons (ck_k42 l D st) ck_nil) (by decide +kernel)
/-- SLModel.replaces -/
def ck_c105 : ck_C := (35, 101, [.inr (0, 77), .inl (196, 196), .inl (0, 1000)], [((77, 2), .inr (0, 78)), ((78, 0), .inl ((-1), 15)), ((78, 193), .inl (0, 0)), ((78, 194), .inl (0, 0)), ((78, 195), .inl (0, 0)), ((78, 196), .inl (0, 0)), ((78, 197), .inl (0, 0)), ((78, 198), .inl (0, 0)), ((78, 199), .inl (0, 0)), ((78, 200), .inl (0, 0)), ((78, 201), .inl (0, 0)), ((78, 202), .inl (0, 0)), ((78, 203), .inl (0, 0)), ((78, 204), .inl (0, 0)), ((78, 1293), .inl (0, 0)), ((78, 1294), .inl (0, 0)), ((78, 1295), .inl (0, 0))], [(77, 1), (78, 0)], [(some (.inl (0, 0)), [(196, 196), (0, 1000)], [((77, 1), .inl (0, 0)), ((78, 0), .inl ((-1), 1000)), ((78, 193), .inl (0, 0)), ((78, 194), .inl (0, 0)), ((78, 195), .inl (0, 0)), ((78, 196), .inl (0, 0)), ((78, 197), .inl (0, 1000)), ((78, 198), .inl (0, 0)), ((78, 199), .inl (0, 0)), ((78, 200), .inl (0, 0)), ((78, 201), .inl (0, 0)), ((78, 202), .inl (0, 0)), ((78, 203), .inl (0, 0)), ((78, 204), .inl (0, 0)), ((78, 1293), .inl (0, 0)), ((78, 1294), .inl (0, 0)), ((78, 1295), .inl (0, 0))], 101)], 1, 21, 0, 0)
def ck_h105 : List ck_Hd := []
set_option maxRecDepth 100000 in
theorem ck_k105 (l : Launch) (D : va_G) (st : Nat → Nat) : ck_Mt l D st ck_c105 := ck_sound (T := ck_T13) (cs := [ck_c42]) (hs := ck_h105) (sp := []) (fuel := 38) l ck_TSgood ck_okCl (ck_own (M0 := ck_m35) rfl rfl ck_okT13) (ck_cons (ck_k42 l D st) ck_nil) (by decide +kernel)
/-- SLModel.replaces -/
def ck_c106 : ck_C := (35, 101, [.inr (0, 77), .inl (197, 197), .inl (0, 1000)], [((77, 2), .inr (0, 78)), ((78, 0), .inl ((-1), 15)), ((78, 193), .inl (0, 0)), ((78, 194), .inl (0, 0)), ((78, 195), .inl (0, 0)), ((78, 196), .inl (0, 0)), ((78, 197), .inl (0, 0)), ((78, 198), .inl (0, 0)), ((78, 199), .inl (0, 0)), ((78, 200), .inl (0, 0)), ((78, 201), .inl (0, 0)), ((78, 202), .inl (0, 0)), ((78, 203), .inl (0, 0)), ((78, 204), .inl (0, 0)), ((78, 1293), .inl (0, 0)), ((78, 1294), .inl (0, 0)), ((78, 1295), .inl (0, 0))], [(77, 1), (78, 0)], [(some (.inl (0, 0)), [(197, 197), (0, 1000)], [((77, 1), .inl (0, 0)), ((78, 0), .inl ((-1), 1000)), ((78, 193), .inl (0, 0)), ((78, 194), .inl (0, 0)), ((78, 195), .inl (0, 0)), ((78, 196), .inl (0, 0)), ((78, 197), .inl (0, 0)), ((78, 198), .inl (0, 1000)), ((78, 199), .inl (0, 0)), ((78, 200), .inl (0, 0)), ((78, 201), .inl (0, 0)), ((78, 202), .inl (0, 0)), ((78, 203), .inl (0, 0)), ((78, 204), .inl (0, 0)), ((78, 1293), .inl (0, 0)), ((78, 1294), .inl (0, 0)), ((78, 1295), .inl (0, 0))], 101)], 1, 21, 0, 0)
def ck_h106 : List ck_Hd := []
set_option maxRecDepth 100000 in
theorem ck_k106 (l : Launch) (D : va_G) (st : Nat → Nat) : ck_Mt l D st ck_c106 := ck_sound (T := ck_T13) (cs := [ck_c42]) (hs := ck_h106) (sp := []) (fuel := 38) l ck_TSgood ck_okCl (ck_own (M0 := ck_m35) rfl rfl ck_okT13) (ck_cons (ck_k42 l D st) ck_nil) (by decide +kernel)
/-- SLModel.replaces -/
def ck_c107 : ck_C := (35, 101, [.inr (0, 77), .inl (198, 198), .inl (0, 1000)], [((77, 2), .inr (0, 78)), ((78, 0), .inl ((-1), 15)), ((78, 193), .inl (0, 0)), ((78, 194), .inl (0, 0)), ((78, 195), .inl (0, 0)), ((78, 196), .inl (0, 0)), ((78, 197), .inl (0, 0)), ((78, 198), .inl (0, 0)), ((78, 199), .inl (0, 0)), ((78, 200), .inl (0, 0)), ((78, 201), .inl (0, 0)), ((78, 202), .inl (0, 0)), ((78, 203), .inl (0, 0)), ((78, 204), .inl (0, 0)), ((78, 1293), .inl (0, 0)), ((78, 1294), .inl (0, 0)), ((78, 1295), .inl (0, 0))], [(77, 1), (78, 0)], [(some (.inl (0, 0)), [(198, 198), (0, 1000)], [((77, 1), .inl (0, 0)), ((78, 0), .inl ((-1), 1000)), ((78, 193), .inl (0, 0)), ((78, 194), .inl (0, 0)), ((78, 195), .inl (0, 0)), ((78, 196), .inl (0, 0)), ((78, 197), .inl (0, 0)), ((78, 198), .inl (0, 0)), ((78, 199), .inl (0, 1000)), ((78, 200), .inl (0, 0)), ((78, 201), .inl (0, 0)), ((78, 202), .inl (0, 0)), ((78, 203), .inl (0, 0)), ((78, 204), .inl (0, 0)), ((78, 1293), .inl (0, 0)), ((78, 1294), .inl (0, 0)), ((78, 1295), .inl (0, 0))], 101)], 1, 21, 0, 0)
def ck_h107 : List ck_Hd := []
set_option maxRecDepth 100000 in
theorem ck_k107 (l : Launch) (D : va_G) (st : Nat → Nat) : ck_Mt l D st ck_c107 := ck_sound (T := ck_T13) (cs := [ck_c42]) (hs := ck_h107) (sp := []) (fuel := 38) l ck_TSgood ck_okCl (ck_own (M0 := ck_m35) rfl rfl ck_okT13) (ck_cons (ck_k42 l D st) ck_nil) (by decide +kernel)
/-- SLModel.replaces -/
def ck_c108 : ck_C := (35, 101, [.inr (0, 77), .inl (199, 199), .inl (0, 1000)], [((77, 2), .inr (0, 78)), ((78, 0), .inl ((-1), 15)), ((78, 193), .inl (0, 0)), ((78, 194), .inl (0, 0)), ((78, 195), .inl (0, 0)), ((78, 196), .inl (0, 0)), ((78, 197), .inl (0, 0)), ((78, 198), .inl (0, 0)), ((78, 199), .inl (0, 0)), ((78, 200), .inl (0, 0)), ((78, 201), .inl (0, 0)), ((78, 202), .inl (0, 0)), ((78, 203), .inl (0, 0)), ((78, 204), .inl (0, 0)), ((78, 1293), .inl (0, 0)), ((78, 1294), .inl (0, 0)), ((78, 1295), .inl (0, 0))], [(77, 1), (78, 0)], [(some (.inl (0, 0)), [(199, 199), (0, 1000)], [((77, 1), .inl (0, 0)), ((78, 0), .inl ((-1), 1000)), ((78, 193), .inl (0, 0)), ((78, 194), .inl (0, 0)), ((78, 195), .inl (0, 0)), ((78, 196), .inl (0, 0)), ((78, 197), .inl (0, 0)), ((78, 198), .inl (0, 0)), ((78, 199), .inl (0, 0)), ((78, 200), .inl (0, 1000)), ((78, 201), .inl (0, 0)), ((78, 202), .inl (0, 0)), ((78, 203), .inl (0, 0)), ((78, 204), .inl (0, 0)), ((78, 1293), .inl (0, 0)), ((78, 1294), .inl (0, 0)), ((78, 1295), .inl (0, 0))], 101)], 1, 21, 0, 0)
def ck_h108 : List ck_Hd := []
set_option maxRecDepth 100000 in
theorem ck_k108 (l : Launch) (D : va_G) (st : Nat → Nat) : ck_Mt l D st ck_c108 := ck_sound (T := ck_T13) (cs := [ck_c42]) (hs := ck_h108) (sp := []) (fuel := 38) l ck_TSgood ck_okCl (ck_own (M0 := ck_m35) rfl rfl ck_okT13) (ck_cons (ck_k42 l D st) ck_nil) (by decide +kernel)
/-- SLModel.replaces -/
def ck_c109 : ck_C := (35, 101, [.inr (0, 77), .inl (200, 200), .inl (0, 1000)], [((77, 2), .inr (0, 78)), ((78, 0), .inl ((-1), 15)), ((78, 193), .inl (0, 0)), ((78, 194), .inl (0, 0)), ((78, 195), .inl (0, 0)), ((78, 196), .inl (0, 0)), ((78, 197), .inl (0, 0)), ((78, 198), .inl (0, 0)), ((78, 199), .inl (0, 0)), ((78, 200), .inl (0, 0)), ((78, 201), .inl (0, 0)), ((78, 202), .inl (0, 0)), ((78, 203), .inl (0, 0)), ((78, 204), .inl (0, 0)), ((78, 1293), .inl (0, 0)), ((78, 1294), .inl (0, 0)), ((78, 1295), .inl (0, 0))], [(77, 1), (78, 0)], [(some (.inl (0, 0)), [(200, 200), (0, 1000)], [((77, 1), .inl (0, 0)), ((78, 0), .inl ((-1), 1000)), ((78, 193), .inl (0, 0)), ((78, 194), .inl (0, 0)), ((78, 195), .inl (0, 0)), ((78, 196), .inl (0, 0)), ((78, 197), .inl (0, 0)), ((78, 198), .inl (0, 0)), ((78, 199), .inl (0, 0)), ((78, 200), .inl (0, 0)), ((78, 201), .inl (0, 1000)), ((78, 202), .inl (0, 0)), ((78, 203), .inl (0, 0)), ((78, 204), .inl (0, 0)), ((78, 1293), .inl (0, 0)), ((78, 1294), .inl (0, 0)), ((78, 1295), .inl (0, 0))], 101)], 1, 21, 0, 0)
def ck_h109 : List ck_Hd := []
set_option maxRecDepth 100000 in
theorem ck_k109 (l : Launch) (D : va_G) (st : Nat → Nat) : ck_Mt l D st ck_c109 := ck_sound (T := ck_T13) (cs := [ck_c42]) (hs := ck_h109) (sp := []) (fuel := 38) l ck_TSgood ck_okCl (ck_own (M0 := ck_m35) rfl rfl ck_okT13) (ck_cons (ck_k42 l D st) ck_nil) (by decide +kernel)
/-- SLModel.replaces -/
def ck_c110 : ck_C := (35, 101, [.inr (0, 77), .inl (201, 201), .inl (0, 1000)], [((77, 2), .inr (0, 78)), ((78, 0), .inl ((-1), 15)), ((78, 193), .inl (0, 0)), ((78, 194), .inl (0, 0)), ((78, 195), .inl (0, 0)), ((78, 196), .inl (0, 0)), ((78, 197), .inl (0, 0)), ((78, 198), .inl (0, 0)), ((78, 199), .inl (0, 0)), ((78, 200), .inl (0, 0)), ((78, 201), .inl (0, 0)), ((78, 202), .inl (0, 0)), ((78, 203), .inl (0, 0)), ((78, 204), .inl (0, 0)), ((78, 1293), .inl (0, 0)), ((78, 1294), .inl (0, 0)), ((78, 1295), .inl (0, 0))], [(77, 1), (78, 0)], [(some (.inl (0, 0)), [(201, 201), (0, 1000)], [((77, 1), .inl (0, 0)), ((78, 0), .inl ((-1), 1000)), ((78, 193), .inl (0, 0)), ((78, 194), .inl (0, 0)), ((78, 195), .inl (0, 0)), ((78, 196), .inl (0, 0)), ((78, 197), .inl (0, 0)), ((78, 198), .inl (0, 0)), ((78, 199), .inl (0, 0)), ((78, 200), .inl (0, 0)), ((78, 201), .inl (0, 0)), ((78, 202), .inl (0, 1000)), ((78, 203), .inl (0, 0)), ((78, 204), .inl (0, 0)), ((78, 1293), .inl (0, 0)), ((78, 1294), .inl (0, 0)), ((78, 1295), .inl (0, 0))], 101)], 1, 21, 0, 0)
def ck_h110 : List ck_Hd := []
set_option maxRecDepth 100000 in
theorem ck_k110 (l : Launch) (D : va_G) (st : Nat → Nat) : ck_Mt l D st ck_c110 := ck_sound (T := ck_T13) (cs := [ck_c42]) (hs := ck_h110) (sp := []) (fuel := 38) l ck_TSgood ck_okCl (ck_own (M0 := ck_m35) rfl rfl ck_okT13) (ck_cons (ck_k42 l D st) ck_nil) (by decide +kernel)
/-- SLModel.replaces -/
def ck_c111 : ck_C := (35, 101, [.inr (0, 77), .inl (202, 202), .inl (0, 1000)], [((77, 2), .inr (0, 78)), ((78, 0), .inl ((-1), 15)), ((78, 193), .inl (0, 0)), ((78, 194), .inl (0, 0)), ((78, 195), .inl (0, 0)), ((78, 196), .inl (0, 0)), ((78, 197), .inl (0, 0)), ((78, 198), .inl (0, 0)), ((78, 199), .inl (0, 0)), ((78, 200), .inl (0, 0)), ((78, 201), .inl (0, 0)), ((78, 202), .inl (0, 0)), ((78, 203), .inl (0, 0)), ((78, 204), .inl (0, 0)), ((78, 1293), .inl (0, 0)), ((78, 1294), .inl (0, 0)), ((78, 1295), .inl (0, 0))], [(77, 1), (78, 0)], [(some (.inl (0, 0)), [(202, 202), (0, 1000)], [((77, 1), .inl (0, 0)), ((78, 0), .inl ((-1), 1000)), ((78, 193), .inl (0, 0)), ((78, 194), .inl (0, 0)), ((78, 195), .inl (0, 0)), ((78, 196), .inl (0, 0)), ((78, 197), .inl (0, 0)), ((78, 198), .inl (0, 0)), ((78, 199), .inl (0, 0)), ((78, 200), .inl (0, 0)), ((78, 201), .inl (0, 0)), ((78, 202), .inl (0, 0)), ((78, 203), .inl (0, 1000)), ((78, 204), .inl (0, 0)), ((78, 1293), .inl (0, 0)), ((78, 1294), .inl (0, 0)), ((78, 1295), .inl (0, 0))], 101)], 1, 21, 0, 0)
def ck_h111 : List ck_Hd := []
set_option maxRecDepth 100000 in
theorem ck_k111 (l : Launch) (D : va_G) (st : Nat → Nat) : ck_Mt l D st ck_c111 := ck_sound (T := ck_T13) (cs := [ck_c42]) (hs := ck_h111) (sp := []) (fuel := 38) l ck_TSgood ck_okCl (ck_own (M0 := ck_m35) rfl rfl ck_okT13) (ck_cons (ck_k42 l D st) ck_nil) (by decide +kernel)
/-- SLModel.replaces -/
def ck_c112 : ck_C := (35, 101, [.inr (0, 77), .inl (203, 203), .inl (0, 1000)], [((77, 2), .inr (0, 78)), ((78, 0), .inl ((-1), 15)), ((78, 193), .inl (0, 0)), ((78, 194), .inl (0, 0)), ((78, 195), .inl (0, 0)), ((78, 196), .inl (0, 0)), ((78, 197), .inl (0, 0)), ((78, 198), .inl (0, 0)), ((78, 199), .inl (0, 0)), ((78, 200), .inl (0, 0)), ((78, 201), .inl (0, 0)), ((78, 202), .inl (0, 0)), ((78, 203), .inl (0, 0)), ((78, 204), .inl (0, 0)), ((78, 1293), .inl (0, 0)), ((78, 1294), .inl (0, 0)), ((78, 1295), .inl (0, 0))], [(77, 1), (78, 0)], [(some (.inl (0, 0)), [(203, 203), (0, 1000)], [((77, 1), .inl (0, 0)), ((78, 0), .inl ((-1), 1000)), ((78, 193), .inl (0, 0)), ((78, 194), .inl (0, 0)), ((78, 195), .inl (0, 0)), ((78, 196), .inl (0, 0)), ((78, 197), .inl (0, 0)), ((78, 198), .inl (0, 0)), ((78, 199), .inl (0, 0)), ((78, 200), .inl (0, 0)), ((78, 201), .inl (0, 0)), ((78, 202), .inl (0, 0)), ((78, 203), .inl (0, 0)), ((78, 204), .inl (0, 1000)), ((78, 1293), .inl (0, 0)), ((78, 1294), .inl (0, 0)), ((78, 1295), .inl (0, 0))], 101)], 1, 21, 0, 0)
def ck_h112 : List ck_Hd := []
set_option maxRecDepth 100000 in
theorem ck_k112 (l : Launch) (D : va_G) (st : Nat → Nat) : ck_Mt l D st ck_c112 := ck_sound (T := ck_T13) (cs := [ck_c42]) (hs := ck_h112) (sp := []) (fuel := 38) l ck_TSgood ck_okCl (ck_own (M0 := ck_m35) rfl rfl ck_okT13) (ck_cons (ck_k42 l D st) ck_nil) (by decide +kernel)
/-- SLModel.known -/
def ck_c113 : ck_C := (34, 101, [.inr (0, 77), .inl (0, 11), .inl (0, 1000)], [((77, 2), .inr (0, 78)), ((78, 0), .inl ((-1), 15)), ((78, 193), .inl (0, 0)), ((78, 194), .inl (0, 0)), ((78, 195), .inl (0, 0)), ((78, 196), .inl (0, 0)), ((78, 197), .inl (0, 0)), ((78, 198), .inl (0, 0)), ((78, 199), .inl (0, 0)), ((78, 200), .inl (0, 0)), ((78, 201), .inl (0, 0)), ((78, 202), .inl (0, 0)), ((78, 203), .inl (0, 0)), ((78, 204), .inl (0, 0)), ((78, 1293), .inl (0, 0)), ((78, 1294), .inl (0, 0)), ((78, 1295), .inl (0, 0))], [(77, 1), (78, 0)], [(some (.inl (0, 0)), [(0, 11), (0, 1000)], [((77, 1), .inl (0, 0)), ((78, 0), .inl ((-1), 1000)), ((78, 193), .inl (0, 1000)), ((78, 194), .inl (0, 1000)), ((78, 195), .inl (0, 1000)), ((78, 196), .inl (0, 1000)), ((78, 197), .inl (0, 1000)), ((78, 198), .inl (0, 1000)), ((78, 199), .inl (0, 1000)), ((78, 200), .inl (0, 1000)), ((78, 201), .inl (0, 1000)), ((78, 202), .inl (0, 1000)), ((78, 203), .inl (0, 1000)), ((78, 204), .inl (0, 1000)), ((78, 1293), .inl (0, 0)), ((78, 1294), .inl (0, 0)), ((78, 1295), .inl (0, 0))], 101)], 2, 44, 0, 0)
def ck_h113 : List ck_Hd := []
set_option maxRecDepth 100000 in
theorem ck_k113 (l : Launch) (D : va_G) (st : Nat → Nat) : ck_Mt l D st ck_c113 := ck_sound (T := ck_T13) (cs := [ck_c84, ck_c100, ck_c101, ck_c86, ck_c102, ck_c87, ck_c103, ck_c88, ck_c104, ck_c89, ck_c105, ck_c90, ck_c106, ck_c91, ck_c107, ck_c92, ck_c108, ck_c93, ck_c109, ck_c94, ck_c110, ck_c95, ck_c111, ck_c96, ck_c112]) (hs := ck_h113) (sp := [(0, 0, 0), (0, 0, 1), (0, 0, 2), (0, 0, 3), (0, 0, 4), (0, 0, 5), (0, 0, 6), (0, 0, 7), (0, 0, 8), (0, 0, 9), (0, 0, 10)]) (fuel := 52) l ck_TSgood ck_okCl (ck_own (M0 := ck_m34) rfl rfl ck_okT13) (ck_cons (ck_k84 l D st) (ck_cons (ck_k100 l D st) (ck_cons (ck_k101 l D st) (ck_cons (ck_k86 l D st) (ck_cons (ck_k102 l D st) (ck_cons (ck_k87 l D st) (ck_cons (ck_k103 l D st) (ck_cons (ck_k88 l D st) (ck_cons (ck_k104 l D st) (ck_cons (ck_k89 l D st) (ck_cons (ck_k105 l D st) (ck_cons (ck_k90 l D st) (ck_cons (ck_k106 l D st) (ck_cons (ck_k91 l D st) (ck_cons (ck_k107 l D st) (ck_cons (ck_k92 l D st) (ck_cons (ck_k108 l D st) (ck_cons (ck_k93 l D st) (ck_cons (ck_k109 l D st) (ck_cons (ck_k94 l D st) (ck_cons (ck_k110 l D st) (ck_cons (ck_k95 l D st) (ck_cons (ck_k111 l D st) (ck_cons (ck_k96 l D st) (ck_cons (ck_k112 l D st) ck_nil))))))))))))))))))))))))) (by decide +kernel)
/-- SL.isHand -/
def ck_c114 : ck_C := (37, 101, [.inl ((-2147483648), 2147483647)], [], [], [(some (.inl (0, 0)), [((-2147483648), (-1))], [], 101), (some (.inl (0, 0)), [(4, 2147483647)], [], 101), (some (.inl (1, 1)), [(0, 3)], [], 101)], 1, 22, 0, 0)
def ck_h114 : List ck_Hd := []
set_option maxRecDepth 100000 in
theorem ck_k114 (l : Launch) (D : va_G) (st : Nat → Nat) : ck_Mt l D st ck_c114 := ck_sound (T := ck_T0) (cs := [ck_c45]) (hs := ck_h114) (sp := []) (fuel := 29) l ck_TSgood ck_okCl (ck_own (M0 := ck_m37) rfl rfl ck_okT0) (ck_cons (ck_k45 l D st) ck_nil) (by decide +kernel)
/-- SL.within -/
def ck_c115 : ck_C := (16, 101, [.inl ((-2147483648), 2147483647), .inl (0, 0), .inl (100, 100)], [], [], [(some (.inl (0, 0)), [((-2147483648), (-1)), (0, 0), (100, 100)], [], 101), (some (.inl (0, 0)), [(101, 2147483647), (0, 0), (100, 100)], [], 101), (some (.inl (1, 1)), [(0, 100), (0, 0), (100, 100)], [], 101)], 0, 0, 0, 0)
def ck_h115 : List ck_Hd := []
set_option maxRecDepth 100000 in
theorem ck_k115 (l : Launch) (D : va_G) (st : Nat → Nat) : ck_Mt l D st ck_c115 := ck_sound (T := ck_T0) (cs := []) (hs := ck_h115) (sp := []) (fuel := 33) l ck_TSgood ck_okCl (ck_own (M0 := ck_m16) rfl rfl ck_okT0) ck_nil (by decide +kernel)
/-- SL.hand -/
def ck_c116 : ck_C := (36, 101, [.inr (0, 0), .inl ((-2147483648), 2147483647), .inl ((-2147483648), 2147483647), .inl ((-2147483648), 2147483647)], [((0, 1), .inr (0, 1)), ((1, 8), .inr (0, 8)), ((1, 9), .inr (0, 9)), ((8, 0), .inl (0, 0)), ((9, 0), .inl (0, 0))], [(0, 15), (8, 0), (9, 0)], [(some (.inl ((-1), (-1))), [((-2147483648), (-1)), ((-2147483648), 2147483647), ((-2147483648), 2147483647)], [((0, 15), .inl ((-1), (-1))), ((8, 0), .inl (0, 0)), ((9, 0), .inl (0, 0))], 101), (some (.inl ((-1), (-1))), [(4, 2147483647), ((-2147483648), 2147483647), ((-2147483648), 2147483647)], [((0, 15), .inl ((-1), (-1))), ((8, 0), .inl (0, 0)), ((9, 0), .inl (0, 0))], 101), (some (.inl ((-1), (-1))), [(0, 3), ((-2147483648), (-1)), ((-2147483648), 2147483647)], [((0, 15), .inl ((-1), (-1))), ((8, 0), .inl (0, 0)), ((9, 0), .inl (0, 0))], 101), (some (.inl ((-1), (-1))), [(0, 3), (101, 2147483647), ((-2147483648), 2147483647)], [((0, 15), .inl ((-1), (-1))), ((8, 0), .inl (0, 0)), ((9, 0), .inl (0, 0))], 101), (some (.inl ((-1), (-1))), [(0, 3), (0, 100), ((-2147483648), (-1))], [((0, 15), .inl ((-1), (-1))), ((8, 0), .inl (0, 0)), ((9, 0), .inl (0, 0))], 101), (some (.inl ((-1), (-1))), [(0, 3), (0, 100), (101, 2147483647)], [((0, 15), .inl ((-1), (-1))), ((8, 0), .inl (0, 0)), ((9, 0), .inl (0, 0))], 101), (some (.inl (0, 0)), [(0, 3), (0, 100), (0, 100)], [((0, 15), .inl (0, 0)), ((8, 0), .inl (0, 100)), ((9, 0), .inl (0, 100))], 101)], 2, 42, 0, 0)
def ck_h116 : List ck_Hd := []
set_option maxRecDepth 100000 in
theorem ck_k116 (l : Launch) (D : va_G) (st : Nat → Nat) : ck_Mt l D st ck_c116 := ck_sound (T := ck_T0) (cs := [ck_c114, ck_c19, ck_c115, ck_c23]) (hs := ck_h116) (sp := []) (fuel := 53) l ck_TSgood ck_okCl (ck_own (M0 := ck_m36) rfl rfl ck_okT0) (ck_cons (ck_k114 l D st) (ck_cons (ck_k19 l D st) (ck_cons (ck_k115 l D st) (ck_cons (ck_k23 l D st) ck_nil)))) (by decide +kernel)
/-- SLModel.hand -/
def ck_c117 : ck_C := (38, 101, [.inr (0, 77), .inl ((-2147483648), (-1)), .inl ((-2147483648), 2147483647), .inl ((-2147483648), 2147483647)], [], [(77, 1)], [(some (.inl ((-1), (-1))), [((-2147483648), (-1)), ((-2147483648), 2147483647), ((-2147483648), 2147483647)], [((77, 1), .inl ((-1), (-1)))], 101)], 1, 22, 0, 0)
def ck_h117 : List ck_Hd := []
set_option maxRecDepth 100000 in
theorem ck_k117 (l : Launch) (D : va_G) (st : Nat → Nat) : ck_Mt l D st ck_c117 := ck_sound (T := ck_T13) (cs := [ck_c57, ck_c26]) (hs := ck_h117) (sp := []) (fuel := 33) l ck_TSgood ck_okCl (ck_own (M0 := ck_m38) rfl rfl ck_okT13) (ck_cons (ck_k57 l D st) (ck_cons (ck_k26 l D st) ck_nil)) (by decide +kernel)
/-- SLModel.hand -/
def ck_c118 : ck_C := (38, 101, [.inr (0, 77), .inl (4, 2147483647), .inl ((-2147483648), 2147483647), .inl ((-2147483648), 2147483647)], [], [(77, 1)], [(some (.inl ((-1), (-1))), [(4, 2147483647), ((-2147483648), 2147483647), ((-2147483648), 2147483647)], [((77, 1), .inl ((-1), (-1)))], 101)], 1, 22, 0, 0)
def ck_h118 : List ck_Hd := []
set_option maxRecDepth 100000 in
theorem ck_k118 (l : Launch) (D : va_G) (st : Nat → Nat) : ck_Mt l D st ck_c118 := ck_sound (T := ck_T13) (cs := [ck_c59, ck_c26]) (hs := ck_h118) (sp := []) (fuel := 33) l ck_TSgood ck_okCl (ck_own (M0 := ck_m38) rfl rfl ck_okT13) (ck_cons (ck_k59 l D st) (ck_cons (ck_k26 l D st) ck_nil)) (by decide +kernel)
/-- SLModel.in -/
def ck_c119 : ck_C := (21, 101, [.inl ((-2147483648), (-1)), .inl (0, 0), .inl (100, 100)], [], [], [(some (.inl (0, 0)), [((-2147483648), (-1)), (0, 0), (100, 100)], [], 101)], 0, 0, 0, 0)
def ck_h119 : List ck_Hd := []
set_option maxRecDepth 100000 in
theorem ck_k119 (l : Launch) (D : va_G) (st : Nat → Nat) : ck_Mt l D st ck_c119 := ck_sound (T := ck_T13) (cs := []) (hs := ck_h119) (sp := []) (fuel := 29) l ck_TSgood ck_okCl (ck_own (M0 := ck_m21) rfl rfl ck_okT13) ck_nil (by decide +kernel)
/-- SLModel.hand -/
def ck_c120 : ck_C := (38, 101, [.inr (0, 77), .inl (0, 3), .inl ((-2147483648), (-1)), .inl ((-2147483648), 2147483647)], [], [(77, 1)], [(some (.inl ((-1), (-1))), [(0, 3), ((-2147483648), (-1)), ((-2147483648), 2147483647)], [((77, 1), .inl ((-1), (-1)))], 101)], 1, 22, 0, 0)
def ck_h120 : List ck_Hd := []
set_option maxRecDepth 100000 in
theorem ck_k120 (l : Launch) (D : va_G) (st : Nat → Nat) : ck_Mt l D st ck_c120 := ck_sound (T := ck_T13) (cs := [ck_c61, ck_c119, ck_c26]) (hs := ck_h120) (sp := []) (fuel := 38) l ck_TSgood ck_okCl (ck_own (M0 := ck_m38) rfl rfl ck_okT13) (ck_cons (ck_k61 l D st) (ck_cons (ck_k119 l D st) (ck_cons (ck_k26 l D st) ck_nil))) (by decide +kernel)
/-- SLModel.in -/
def ck_c121 : ck_C := (21, 101, [.inl (101, 2147483647), .inl (0, 0), .inl (100, 100)], [], [], [(some (.inl (0, 0)), [(101, 2147483647), (0, 0), (100, 100)], [], 101)], 0, 0, 0, 0)
def ck_h121 : List ck_Hd := []
set_option maxRecDepth 100000 in
theorem ck_k121 (l : Launch) (D : va_G) (st : Nat → Nat) : ck_Mt l D st ck_c121 := ck_sound (T := ck_T13) (cs := []) (hs := ck_h121) (sp := []) (fuel := 32) l ck_TSgood ck_okCl (ck_own (M0 := ck_m21) rfl rfl ck_okT13) ck_nil (by decide +kernel)
/-- SLModel.hand -/
def ck_c122 : ck_C := (38, 101, [.inr (0, 77), .inl (0, 3), .inl (101, 2147483647), .inl ((-2147483648), 2147483647)], [], [(77, 1)], [(some (.inl ((-1), (-1))), [(0, 3), (101, 2147483647), ((-2147483648), 2147483647)], [((77, 1), .inl ((-1), (-1)))], 101)], 1, 22, 0, 0)
def ck_h122 : List ck_Hd := []
set_option maxRecDepth 100000 in
theorem ck_k122 (l : Launch) (D : va_G) (st : Nat → Nat) : ck_Mt l D st ck_c122 := ck_sound (T := ck_T13) (cs := [ck_c61, ck_c121, ck_c26]) (hs := ck_h122) (sp := []) (fuel := 38) l ck_TSgood ck_okCl (ck_own (M0 := ck_m38) rfl rfl ck_okT13) (ck_cons (ck_k61 l D st) (ck_cons (ck_k121 l D st) (ck_cons (ck_k26 l D st) ck_nil))) (by decide +kernel)
/-- SLModel.in -/
def ck_c123 : ck_C := (21, 101, [.inl (0, 100), .inl (0, 0), .inl (100, 100)], [], [], [(some (.inl (1, 1)), [(0, 100), (0, 0), (100, 100)], [], 101)], 0, 0, 0, 0)
def ck_h123 : List ck_Hd := []
set_option maxRecDepth 100000 in
theorem ck_k123 (l : Launch) (D : va_G) (st : Nat → Nat) : ck_Mt l D st ck_c123 := ck_sound (T := ck_T13) (cs := []) (hs := ck_h123) (sp := []) (fuel := 33) l ck_TSgood ck_okCl (ck_own (M0 := ck_m21) rfl rfl ck_okT13) ck_nil (by decide +kernel)
/-- SLModel.hand -/
def ck_c124 : ck_C := (38, 101, [.inr (0, 77), .inl (0, 3), .inl (0, 100), .inl ((-2147483648), (-1))], [], [(77, 1)], [(some (.inl ((-1), (-1))), [(0, 3), (0, 100), ((-2147483648), (-1))], [((77, 1), .inl ((-1), (-1)))], 101)], 1, 22, 0, 0)
def ck_h124 : List ck_Hd := []
set_option maxRecDepth 100000 in
theorem ck_k124 (l : Launch) (D : va_G) (st : Nat → Nat) : ck_Mt l D st ck_c124 := ck_sound (T := ck_T13) (cs := [ck_c61, ck_c123, ck_c119, ck_c26]) (hs := ck_h124) (sp := []) (fuel := 43) l ck_TSgood ck_okCl (ck_own (M0 := ck_m38) rfl rfl ck_okT13) (ck_cons (ck_k61 l D st) (ck_cons (ck_k123 l D st) (ck_cons (ck_k119 l D st) (ck_cons (ck_k26 l D st) ck_nil)))) (by decide +kernel)
/-- SLModel.hand -/
def ck_c125 : ck_C := (38, 101, [.inr (0, 77), .inl (0, 3), .inl (0, 100), .inl (101, 2147483647)], [], [(77, 1)], [(some (.inl ((-1), (-1))), [(0, 3), (0, 100), (101, 2147483647)], [((77, 1), .inl ((-1), (-1)))], 101)], 1, 22, 0, 0)
def ck_h125 : List ck_Hd := []
set_option maxRecDepth 100000 in
theorem ck_k125 (l : Launch) (D : va_G) (st : Nat → Nat) : ck_Mt l D st ck_c125 := ck_sound (T := ck_T13) (cs := [ck_c61, ck_c123, ck_c121, ck_c26]) (hs := ck_h125) (sp := []) (fuel := 43) l ck_TSgood ck_okCl (ck_own (M0 := ck_m38) rfl rfl ck_okT13) (ck_cons (ck_k61 l D st) (ck_cons (ck_k123 l D st) (ck_cons (ck_k121 l D st) (ck_cons (ck_k26 l D st) ck_nil)))) (by decide +kernel)
/-- SLModel.hand -/
def ck_c126 : ck_C := (38, 101, [.inr (0, 77), .inl (0, 3), .inl (0, 100), .inl (0, 100)], [((77, 2), .inr (0, 78)), ((78, 0), .inl ((-1), 15)), ((78, 193), .inl (0, 0)), ((78, 194), .inl (0, 0)), ((78, 195), .inl (0, 0)), ((78, 196), .inl (0, 0)), ((78, 197), .inl (0, 0)), ((78, 198), .inl (0, 0)), ((78, 199), .inl (0, 0)), ((78, 200), .inl (0, 0)), ((78, 201), .inl (0, 0)), ((78, 202), .inl (0, 0)), ((78, 203), .inl (0, 0)), ((78, 204), .inl (0, 0)), ((78, 1293), .inl (0, 0)), ((78, 1294), .inl (0, 0)), ((78, 1295), .inl (0, 0))], [(77, 1), (78, 0)], [(some (.inl (0, 0)), [(0, 3), (0, 100), (0, 100)], [((77, 1), .inl (0, 0)), ((78, 0), .inl ((-1), 100)), ((78, 193), .inl (0, 100)), ((78, 194), .inl (0, 100)), ((78, 195), .inl (0, 100)), ((78, 196), .inl (0, 100)), ((78, 197), .inl (0, 100)), ((78, 198), .inl (0, 100)), ((78, 199), .inl (0, 100)), ((78, 200), .inl (0, 100)), ((78, 201), .inl (0, 100)), ((78, 202), .inl (0, 100)), ((78, 203), .inl (0, 100)), ((78, 204), .inl (0, 100)), ((78, 1293), .inl (0, 100)), ((78, 1294), .inl (0, 100)), ((78, 1295), .inl (0, 100))], 101)], 1, 22, 0, 0)
def ck_h126 : List ck_Hd := []
set_option maxRecDepth 100000 in
theorem ck_k126 (l : Launch) (D : va_G) (st : Nat → Nat) : ck_Mt l D st ck_c126 := ck_sound (T := ck_T13) (cs := [ck_c61, ck_c123, ck_c42]) (hs := ck_h126) (sp := []) (fuel := 63) l ck_TSgood ck_okCl (ck_own (M0 := ck_m38) rfl rfl ck_okT13) (ck_cons (ck_k61 l D st) (ck_cons (ck_k123 l D st) (ck_cons (ck_k42 l D st) ck_nil))) (by decide +kernel)
/-- SL.within -/
def ck_c127 : ck_C := (16, 101, [.inl ((-2147483648), 2147483647), .inl (0, 0), .inl (1000000, 1000000)], [], [], [(some (.inl (0, 0)), [((-2147483648), (-1)), (0, 0), (1000000, 1000000)], [], 101), (some (.inl (0, 0)), [(1000001, 2147483647), (0, 0), (1000000, 1000000)], [], 101), (some (.inl (1, 1)), [(0, 1000000), (0, 0), (1000000, 1000000)], [], 101)], 0, 0, 0, 0)
def ck_h127 : List ck_Hd := []
set_option maxRecDepth 100000 in
theorem ck_k127 (l : Launch) (D : va_G) (st : Nat → Nat) : ck_Mt l D st ck_c127 := ck_sound (T := ck_T0) (cs := []) (hs := ck_h127) (sp := []) (fuel := 33) l ck_TSgood ck_okCl (ck_own (M0 := ck_m16) rfl rfl ck_okT0) ck_nil (by decide +kernel)
/-- SL.seed -/
def ck_c128 : ck_C := (39, 101, [.inr (0, 0), .inl ((-2147483648), 2147483647)], [((0, 1), .inr (0, 1))], [(0, 15), (1, 10)], [(some (.inl ((-1), (-1))), [((-2147483648), (-1))], [((0, 15), .inl ((-1), (-1)))], 101), (some (.inl ((-1), (-1))), [(1000001, 2147483647)], [((0, 15), .inl ((-1), (-1)))], 101), (some (.inl (0, 0)), [(0, 1000000)], [((0, 15), .inl (0, 0)), ((1, 10), .inl (0, 1000000))], 101)], 1, 22, 0, 0)
def ck_h128 : List ck_Hd := []
set_option maxRecDepth 100000 in
theorem ck_k128 (l : Launch) (D : va_G) (st : Nat → Nat) : ck_Mt l D st ck_c128 := ck_sound (T := ck_T0) (cs := [ck_c127, ck_c19, ck_c23]) (hs := ck_h128) (sp := []) (fuel := 37) l ck_TSgood ck_okCl (ck_own (M0 := ck_m39) rfl rfl ck_okT0) (ck_cons (ck_k127 l D st) (ck_cons (ck_k19 l D st) (ck_cons (ck_k23 l D st) ck_nil))) (by decide +kernel)
/-- SLModel.in -/
def ck_c129 : ck_C := (21, 101, [.inl ((-2147483648), (-1)), .inl (0, 0), .inl (1000000, 1000000)], [], [], [(some (.inl (0, 0)), [((-2147483648), (-1)), (0, 0), (1000000, 1000000)], [], 101)], 0, 0, 0, 0)
def ck_h129 : List ck_Hd := []
set_option maxRecDepth 100000 in
theorem ck_k129 (l : Launch) (D : va_G) (st : Nat → Nat) : ck_Mt l D st ck_c129 := ck_sound (T := ck_T13) (cs := []) (hs := ck_h129) (sp := []) (fuel := 29) l ck_TSgood ck_okCl (ck_own (M0 := ck_m21) rfl rfl ck_okT13) ck_nil (by decide +kernel)
/-- SLModel.seed -/
def ck_c130 : ck_C := (40, 101, [.inr (0, 77), .inl ((-2147483648), (-1))], [], [(77, 1)], [(some (.inl ((-1), (-1))), [((-2147483648), (-1))], [((77, 1), .inl ((-1), (-1)))], 101)], 1, 22, 0, 0)
def ck_h130 : List ck_Hd := []
set_option maxRecDepth 100000 in
theorem ck_k130 (l : Launch) (D : va_G) (st : Nat → Nat) : ck_Mt l D st ck_c130 := ck_sound (T := ck_T13) (cs := [ck_c129, ck_c26]) (hs := ck_h130) (sp := []) (fuel := 33) l ck_TSgood ck_okCl (ck_own (M0 := ck_m40) rfl rfl ck_okT13) (ck_cons (ck_k129 l D st) (ck_cons (ck_k26 l D st) ck_nil)) (by decide +kernel)
/-- SLModel.in -/
def ck_c131 : ck_C := (21, 101, [.inl (1000001, 2147483647), .inl (0, 0), .inl (1000000, 1000000)], [], [], [(some (.inl (0, 0)), [(1000001, 2147483647), (0, 0), (1000000, 1000000)], [], 101)], 0, 0, 0, 0)
def ck_h131 : List ck_Hd := []
set_option maxRecDepth 100000 in
theorem ck_k131 (l : Launch) (D : va_G) (st : Nat → Nat) : ck_Mt l D st ck_c131 := ck_sound (T := ck_T13) (cs := []) (hs := ck_h131) (sp := []) (fuel := 32) l ck_TSgood ck_okCl (ck_own (M0 := ck_m21) rfl rfl ck_okT13) ck_nil (by decide +kernel)
/-- SLModel.seed -/
def ck_c132 : ck_C := (40, 101, [.inr (0, 77), .inl (1000001, 2147483647)], [], [(77, 1)], [(some (.inl ((-1), (-1))), [(1000001, 2147483647)], [((77, 1), .inl ((-1), (-1)))], 101)], 1, 22, 0, 0)
def ck_h132 : List ck_Hd := []
set_option maxRecDepth 100000 in
theorem ck_k132 (l : Launch) (D : va_G) (st : Nat → Nat) : ck_Mt l D st ck_c132 := ck_sound (T := ck_T13) (cs := [ck_c131, ck_c26]) (hs := ck_h132) (sp := []) (fuel := 33) l ck_TSgood ck_okCl (ck_own (M0 := ck_m40) rfl rfl ck_okT13) (ck_cons (ck_k131 l D st) (ck_cons (ck_k26 l D st) ck_nil)) (by decide +kernel)
/-- SLModel.in -/
def ck_c133 : ck_C := (21, 101, [.inl (0, 1000000), .inl (0, 0), .inl (1000000, 1000000)], [], [], [(some (.inl (1, 1)), [(0, 1000000), (0, 0), (1000000, 1000000)], [], 101)], 0, 0, 0, 0)
def ck_h133 : List ck_Hd := []
set_option maxRecDepth 100000 in
theorem ck_k133 (l : Launch) (D : va_G) (st : Nat → Nat) : ck_Mt l D st ck_c133 := ck_sound (T := ck_T13) (cs := []) (hs := ck_h133) (sp := []) (fuel := 33) l ck_TSgood ck_okCl (ck_own (M0 := ck_m21) rfl rfl ck_okT13) ck_nil (by decide +kernel)
/-- SLModel.seed -/
def ck_c134 : ck_C := (40, 101, [.inr (0, 77), .inl (0, 1000000)], [((77, 2), .inr (0, 78)), ((78, 0), .inl ((-1), 15)), ((78, 193), .inl (0, 0)), ((78, 194), .inl (0, 0)), ((78, 195), .inl (0, 0)), ((78, 196), .inl (0, 0)), ((78, 197), .inl (0, 0)), ((78, 198), .inl (0, 0)), ((78, 199), .inl (0, 0)), ((78, 200), .inl (0, 0)), ((78, 201), .inl (0, 0)), ((78, 202), .inl (0, 0)), ((78, 203), .inl (0, 0)), ((78, 204), .inl (0, 0)), ((78, 1293), .inl (0, 0)), ((78, 1294), .inl (0, 0)), ((78, 1295), .inl (0, 0))], [(77, 1), (78, 0)], [(some (.inl (0, 0)), [(0, 1000000)], [((77, 1), .inl (0, 0)), ((78, 0), .inl ((-1), 1000000)), ((78, 193), .inl (0, 0)), ((78, 194), .inl (0, 0)), ((78, 195), .inl (0, 0)), ((78, 196), .inl (0, 0)), ((78, 197), .inl (0, 0)), ((78, 198), .inl (0, 0)), ((78, 199), .inl (0, 0)), ((78, 200), .inl (0, 0)), ((78, 201), .inl (0, 0)), ((78, 202), .inl (0, 0)), ((78, 203), .inl (0, 0)), ((78, 204), .inl (0, 0)), ((78, 1293), .inl (0, 0)), ((78, 1294), .inl (0, 0)), ((78, 1295), .inl (0, 0))], 101)], 1, 22, 0, 0)
def ck_h134 : List ck_Hd := []
set_option maxRecDepth 100000 in
theorem ck_k134 (l : Launch) (D : va_G) (st : Nat → Nat) : ck_Mt l D st ck_c134 := ck_sound (T := ck_T13) (cs := [ck_c133, ck_c42]) (hs := ck_h134) (sp := []) (fuel := 38) l ck_TSgood ck_okCl (ck_own (M0 := ck_m40) rfl rfl ck_okT13) (ck_cons (ck_k133 l D st) (ck_cons (ck_k42 l D st) ck_nil)) (by decide +kernel)
/-- SL$Tape.append -/
def ck_c135 : ck_C := (42, 101, [.inr (0, 45), .inl ((-2147483648), 2147483647)], [((45, 1), .inr (0, 46)), ((45, 2), .inl (0, 0)), ((46, 0), .inl (0, 0))], [(45, 2), (46, 0)], [(none, [((-2147483648), 2147483647)], [((45, 2), .inl (4, 4)), ((46, 0), .inl (0, 255))], 101)], 0, 0, 0, 0)
def ck_h135 : List ck_Hd := []
set_option maxRecDepth 100000 in
theorem ck_k135 (l : Launch) (D : va_G) (st : Nat → Nat) : ck_Mt l D st ck_c135 := ck_sound (T := ck_T9) (cs := []) (hs := ck_h135) (sp := []) (fuel := 109) l ck_TSgood ck_okCl (ck_own (M0 := ck_m42) rfl rfl ck_okT9) ck_nil (by decide +kernel)
/-- SL$Tape.append -/
def ck_c136 : ck_C := (42, 101, [.inr (0, 45), .inl ((-2147483648), 2147483647)], [((45, 1), .inr (0, 46)), ((45, 2), .inl (4, 4)), ((46, 0), .inl (0, 255))], [(45, 2), (46, 0)], [(none, [((-2147483648), 2147483647)], [((45, 2), .inl (8, 8)), ((46, 0), .inl (0, 255))], 101)], 0, 0, 0, 0)
def ck_h136 : List ck_Hd := []
set_option maxRecDepth 100000 in
theorem ck_k136 (l : Launch) (D : va_G) (st : Nat → Nat) : ck_Mt l D st ck_c136 := ck_sound (T := ck_T9) (cs := []) (hs := ck_h136) (sp := []) (fuel := 109) l ck_TSgood ck_okCl (ck_own (M0 := ck_m42) rfl rfl ck_okT9) ck_nil (by decide +kernel)
/-- SL$Tape.append -/
def ck_c137 : ck_C := (42, 101, [.inr (0, 45), .inl ((-2147483648), 2147483647)], [((45, 1), .inr (0, 46)), ((45, 2), .inl (8, 8)), ((46, 0), .inl (0, 255))], [(45, 2), (46, 0)], [(none, [((-2147483648), 2147483647)], [((45, 2), .inl (12, 12)), ((46, 0), .inl (0, 255))], 101)], 0, 0, 0, 0)
def ck_h137 : List ck_Hd := []
set_option maxRecDepth 100000 in
theorem ck_k137 (l : Launch) (D : va_G) (st : Nat → Nat) : ck_Mt l D st ck_c137 := ck_sound (T := ck_T9) (cs := []) (hs := ck_h137) (sp := []) (fuel := 109) l ck_TSgood ck_okCl (ck_own (M0 := ck_m42) rfl rfl ck_okT9) ck_nil (by decide +kernel)
/-- SL$Tape.append -/
def ck_c138 : ck_C := (42, 101, [.inr (0, 45), .inl ((-2147483648), 2147483647)], [((45, 1), .inr (0, 46)), ((45, 2), .inl (12, 12)), ((46, 0), .inl (0, 255))], [(45, 2), (46, 0)], [(none, [((-2147483648), 2147483647)], [((45, 2), .inl (16, 16)), ((46, 0), .inl (0, 255))], 101)], 0, 0, 0, 0)
def ck_h138 : List ck_Hd := []
set_option maxRecDepth 100000 in
theorem ck_k138 (l : Launch) (D : va_G) (st : Nat → Nat) : ck_Mt l D st ck_c138 := ck_sound (T := ck_T9) (cs := []) (hs := ck_h138) (sp := []) (fuel := 109) l ck_TSgood ck_okCl (ck_own (M0 := ck_m42) rfl rfl ck_okT9) ck_nil (by decide +kernel)
/-- SL$Tape.append -/
def ck_c139 : ck_C := (42, 101, [.inr (0, 45), .inl ((-2147483648), 2147483647)], [((45, 1), .inr (0, 46)), ((45, 2), .inl (16, 16)), ((46, 0), .inl (0, 255))], [(45, 2), (46, 0)], [(none, [((-2147483648), 2147483647)], [((45, 2), .inl (20, 20)), ((46, 0), .inl (0, 255))], 101)], 0, 0, 0, 0)
def ck_h139 : List ck_Hd := []
set_option maxRecDepth 100000 in
theorem ck_k139 (l : Launch) (D : va_G) (st : Nat → Nat) : ck_Mt l D st ck_c139 := ck_sound (T := ck_T9) (cs := []) (hs := ck_h139) (sp := []) (fuel := 109) l ck_TSgood ck_okCl (ck_own (M0 := ck_m42) rfl rfl ck_okT9) ck_nil (by decide +kernel)
/-- SL.feed -/
def ck_c140 : ck_C := (41, 101, [.inr (0, 0), .inl ((-2147483648), 2147483647), .inl ((-2147483648), 2147483647), .inl ((-2147483648), 2147483647), .inl ((-2147483648), 2147483647), .inl ((-2147483648), 2147483647)], [((0, 4), .inr (0, 45)), ((45, 1), .inr (0, 46)), ((45, 2), .inl (0, 0)), ((46, 0), .inl (0, 0))], [(45, 2), (46, 0)], [(some (.inl (20, 20)), [((-2147483648), 2147483647), ((-2147483648), 2147483647), ((-2147483648), 2147483647), ((-2147483648), 2147483647), ((-2147483648), 2147483647)], [((45, 2), .inl (20, 20)), ((46, 0), .inl (0, 255))], 101)], 1, 22, 0, 0)
def ck_h140 : List ck_Hd := []
set_option maxRecDepth 100000 in
theorem ck_k140 (l : Launch) (D : va_G) (st : Nat → Nat) : ck_Mt l D st ck_c140 := ck_sound (T := ck_T0) (cs := [ck_c135, ck_c136, ck_c137, ck_c138, ck_c139]) (hs := ck_h140) (sp := []) (fuel := 55) l ck_TSgood ck_okCl (ck_own (M0 := ck_m41) rfl rfl ck_okT0) (ck_cons (ck_k135 l D st) (ck_cons (ck_k136 l D st) (ck_cons (ck_k137 l D st) (ck_cons (ck_k138 l D st) (ck_cons (ck_k139 l D st) ck_nil))))) (by decide +kernel)
/-- SLModel.feed -/
def ck_c141 : ck_C := (43, 101, [.inr (0, 77), .inl ((-2147483648), 2147483647), .inl ((-2147483648), 2147483647), .inl ((-2147483648), 2147483647), .inl ((-2147483648), 2147483647), .inl ((-2147483648), 2147483647)], [((77, 6), .inr (0, 82)), ((77, 7), .inr (0, 83)), ((77, 8), .inl (0, 0)), ((82, 0), .inl (0, 0)), ((83, 0), .inl (0, 0))], [(77, 8), (82, 0), (83, 0)], [(some (.inl (20, 20)), [((-2147483648), 2147483647), ((-2147483648), 2147483647), ((-2147483648), 2147483647), ((-2147483648), 2147483647), ((-2147483648), 2147483647)], [((77, 8), .inl (20, 20)), ((82, 0), .inl ((-128), 127)), ((83, 0), .inl ((-2147483648), 2147483647))], 101)], 0, 0, 0, 0)
def ck_h141 : List ck_Hd := [(55, ([((-2147483648), 2147483647, 0, (0, 0, 0)), ((-2147483648), 2147483647, 0, (0, 0, 0)), ((-2147483648), 2147483647, 0, (0, 0, 0)), ((-2147483648), 2147483647, 0, (0, 0, 0)), ((-2147483648), 2147483647, 0, (0, 0, 0)), (0, 20, 0, (0, 0, 0))], [(6, .inl (5, 1, 0)), (0, .inr (0, 77)), (1, .inl (0, 1, 0)), (2, .inl (1, 1, 0)), (3, .inl (2, 1, 0)), (4, .inl (3, 1, 0)), (5, .inl (4, 1, 0))], [], [((77, 6), .inr (0, 82)), ((77, 7), .inr (0, 83)), ((77, 8), .inl (0, 0)), ((82, 0), .inl ((-128), 127)), ((83, 0), .inl ((-2147483648), 2147483647))], 101, 0, 0), 5, 0)]
set_option maxRecDepth 100000 in
theorem ck_k141 (l : Launch) (D : va_G) (st : Nat → Nat) : ck_Mt l D st ck_c141 := ck_sound (T := ck_T13) (cs := []) (hs := ck_h141) (sp := []) (fuel := 85) l ck_TSgood ck_okCl (ck_own (M0 := ck_m43) rfl rfl ck_okT13) ck_nil (by decide +kernel)
/-- SL.within -/
def ck_c142 : ck_C := (16, 101, [.inl ((-2147483648), 2147483647), .inl (0, 0), .inl (0, 0)], [], [], [(some (.inl (0, 0)), [((-2147483648), (-1)), (0, 0), (0, 0)], [], 101), (some (.inl (0, 0)), [(1, 2147483647), (0, 0), (0, 0)], [], 101), (some (.inl (1, 1)), [(0, 0), (0, 0), (0, 0)], [], 101)], 0, 0, 0, 0)
def ck_h142 : List ck_Hd := []
set_option maxRecDepth 100000 in
theorem ck_k142 (l : Launch) (D : va_G) (st : Nat → Nat) : ck_Mt l D st ck_c142 := ck_sound (T := ck_T0) (cs := []) (hs := ck_h142) (sp := []) (fuel := 33) l ck_TSgood ck_okCl (ck_own (M0 := ck_m16) rfl rfl ck_okT0) ck_nil (by decide +kernel)
/-- SL.end -/
def ck_c143 : ck_C := (44, 101, [.inr (0, 0), .inl ((-2147483648), 2147483647)], [((0, 4), .inr (0, 45)), ((45, 2), .inl (0, 0))], [(45, 2)], [(some (.inl ((-1), (-1))), [((-2147483648), (-1))], [((45, 2), .inl (0, 0))], 101), (some (.inl ((-1), (-1))), [(1, 2147483647)], [((45, 2), .inl (0, 0))], 101), (some (.inl (0, 0)), [(0, 0)], [((45, 2), .inl (0, 0))], 101)], 1, 22, 0, 0)
def ck_h143 : List ck_Hd := []
set_option maxRecDepth 100000 in
theorem ck_k143 (l : Launch) (D : va_G) (st : Nat → Nat) : ck_Mt l D st ck_c143 := ck_sound (T := ck_T0) (cs := [ck_c142]) (hs := ck_h143) (sp := []) (fuel := 37) l ck_TSgood ck_okCl (ck_own (M0 := ck_m44) rfl rfl ck_okT0) (ck_cons (ck_k142 l D st) ck_nil) (by decide +kernel)
/-- SLModel.in -/
def ck_c144 : ck_C := (21, 101, [.inl ((-2147483648), (-1)), .inl (0, 0), .inl (0, 0)], [], [], [(some (.inl (0, 0)), [((-2147483648), (-1)), (0, 0), (0, 0)], [], 101)], 0, 0, 0, 0)
def ck_h144 : List ck_Hd := []
set_option maxRecDepth 100000 in
theorem ck_k144 (l : Launch) (D : va_G) (st : Nat → Nat) : ck_Mt l D st ck_c144 := ck_sound (T := ck_T13) (cs := []) (hs := ck_h144) (sp := []) (fuel := 29) l ck_TSgood ck_okCl (ck_own (M0 := ck_m21) rfl rfl ck_okT13) ck_nil (by decide +kernel)
/-- SLModel.end -/
def ck_c145 : ck_C := (45, 101, [.inr (0, 77), .inl ((-2147483648), (-1))], [((77, 8), .inl (0, 0))], [], [(some (.inl ((-1), (-1))), [((-2147483648), (-1))], [], 101)], 1, 22, 0, 0)
def ck_h145 : List ck_Hd := []
set_option maxRecDepth 100000 in
theorem ck_k145 (l : Launch) (D : va_G) (st : Nat → Nat) : ck_Mt l D st ck_c145 := ck_sound (T := ck_T13) (cs := [ck_c144]) (hs := ck_h145) (sp := []) (fuel := 32) l ck_TSgood ck_okCl (ck_own (M0 := ck_m45) rfl rfl ck_okT13) (ck_cons (ck_k144 l D st) ck_nil) (by decide +kernel)
/-- SLModel.in -/
def ck_c146 : ck_C := (21, 101, [.inl (1, 2147483647), .inl (0, 0), .inl (0, 0)], [], [], [(some (.inl (0, 0)), [(1, 2147483647), (0, 0), (0, 0)], [], 101)], 0, 0, 0, 0)
def ck_h146 : List ck_Hd := []
set_option maxRecDepth 100000 in
theorem ck_k146 (l : Launch) (D : va_G) (st : Nat → Nat) : ck_Mt l D st ck_c146 := ck_sound (T := ck_T13) (cs := []) (hs := ck_h146) (sp := []) (fuel := 32) l ck_TSgood ck_okCl (ck_own (M0 := ck_m21) rfl rfl ck_okT13) ck_nil (by decide +kernel)
/-- SLModel.end -/
def ck_c147 : ck_C := (45, 101, [.inr (0, 77), .inl (1, 2147483647)], [((77, 8), .inl (0, 0))], [], [(some (.inl ((-1), (-1))), [(1, 2147483647)], [], 101)], 1, 22, 0, 0)
def ck_h147 : List ck_Hd := []
set_option maxRecDepth 100000 in
theorem ck_k147 (l : Launch) (D : va_G) (st : Nat → Nat) : ck_Mt l D st ck_c147 := ck_sound (T := ck_T13) (cs := [ck_c146]) (hs := ck_h147) (sp := []) (fuel := 32) l ck_TSgood ck_okCl (ck_own (M0 := ck_m45) rfl rfl ck_okT13) (ck_cons (ck_k146 l D st) ck_nil) (by decide +kernel)
/-- SLModel.in -/
def ck_c148 : ck_C := (21, 101, [.inl (0, 0), .inl (0, 0), .inl (0, 0)], [], [], [(some (.inl (1, 1)), [(0, 0), (0, 0), (0, 0)], [], 101)], 0, 0, 0, 0)
def ck_h148 : List ck_Hd := []
set_option maxRecDepth 100000 in
theorem ck_k148 (l : Launch) (D : va_G) (st : Nat → Nat) : ck_Mt l D st ck_c148 := ck_sound (T := ck_T13) (cs := []) (hs := ck_h148) (sp := []) (fuel := 33) l ck_TSgood ck_okCl (ck_own (M0 := ck_m21) rfl rfl ck_okT13) ck_nil (by decide +kernel)
/-- SLModel.end -/
def ck_c149 : ck_C := (45, 101, [.inr (0, 77), .inl (0, 0)], [((77, 8), .inl (0, 0))], [(77, 8)], [(some (.inl (0, 0)), [(0, 0)], [((77, 8), .inl (0, 0))], 101)], 1, 22, 0, 0)
def ck_h149 : List ck_Hd := []
set_option maxRecDepth 100000 in
theorem ck_k149 (l : Launch) (D : va_G) (st : Nat → Nat) : ck_Mt l D st ck_c149 := ck_sound (T := ck_T13) (cs := [ck_c148]) (hs := ck_h149) (sp := []) (fuel := 35) l ck_TSgood ck_okCl (ck_own (M0 := ck_m45) rfl rfl ck_okT13) (ck_cons (ck_k148 l D st) ck_nil) (by decide +kernel)
/-- SL$Reader.kindAt -/
def ck_c150 : ck_C := (49, 101, [.inr (0, 47), .inl (0, 0)], [((45, 2), .inl (0, 0)), ((47, 1), .inr (0, 45))], [], [(some (.inl (0, 0)), [(0, 0)], [], 101)], 0, 0, 0, 0)
def ck_h150 : List ck_Hd := []
set_option maxRecDepth 100000 in
theorem ck_k150 (l : Launch) (D : va_G) (st : Nat → Nat) : ck_Mt l D st ck_c150 := ck_sound (T := ck_T6) (cs := []) (hs := ck_h150) (sp := []) (fuel := 31) l ck_TSgood ck_okCl (ck_own (M0 := ck_m49) rfl rfl ck_okT6) ck_nil (by decide +kernel)
/-- SL$Reader.advance -/
def ck_c151 : ck_C := (48, 101, [.inr (0, 47)], [((45, 2), .inl (0, 0)), ((47, 1), .inr (0, 45)), ((47, 8), .inl (0, 0)), ((47, 10), .inl (0, 0))], [(47, 8), (47, 9), (47, 10), (47, 11)], [(none, [], [((47, 8), .inl (0, 0)), ((47, 9), .inl (0, 0)), ((47, 10), .inl (0, 0)), ((47, 11), .inl (0, 0))], 101)], 1, 22, 0, 0)
def ck_h151 : List ck_Hd := [(5, ([], [(1, .inl (0, 0, 0)), (0, .inr (0, 47))], [], [((45, 2), .inl (0, 0)), ((47, 1), .inr (0, 45)), ((47, 8), .inl (0, 0)), ((47, 10), .inl (0, 0))], 101, 0, 0), 0, 2), (68, ([], [(2, .inl (0, 0, 0)), (1, .inl (0, 0, 0)), (0, .inr (0, 47))], [], [((45, 2), .inl (0, 0)), ((47, 1), .inr (0, 45)), ((47, 8), .inl (0, 0)), ((47, 9), .inl (0, 0)), ((47, 10), .inl (0, 0)), ((47, 11), .inl (0, 0))], 101, 0, 0), 0, 2)]
set_option maxRecDepth 100000 in
theorem ck_k151 (l : Launch) (D : va_G) (st : Nat → Nat) : ck_Mt l D st ck_c151 := ck_sound (T := ck_T6) (cs := [ck_c150]) (hs := ck_h151) (sp := []) (fuel := 54) l ck_TSgood ck_okCl (ck_own (M0 := ck_m48) rfl rfl ck_okT6) (ck_cons (ck_k150 l D st) ck_nil) (by decide +kernel)
/-- SL$Reader.isWord -/
def ck_c152 : ck_C := (52, 101, [.inr (0, 47), .inr (2, 0)], [((47, 8), .inl (0, 0))], [], [(some (.inl (0, 0)), [], [], 101)], 0, 0, 0, 0)
def ck_h152 : List ck_Hd := []
set_option maxRecDepth 100000 in
theorem ck_k152 (l : Launch) (D : va_G) (st : Nat → Nat) : ck_Mt l D st ck_c152 := ck_sound (T := ck_T6) (cs := []) (hs := ck_h152) (sp := []) (fuel := 30) l ck_TSgood ck_okCl (ck_own (M0 := ck_m52) rfl rfl ck_okT6) ck_nil (by decide +kernel)
/-- SL$Reader.passWord -/
def ck_c153 : ck_C := (51, 101, [.inr (0, 47), .inr (2, 0)], [((47, 8), .inl (0, 0))], [], [(some (.inl (0, 0)), [], [], 101)], 1, 22, 0, 0)
def ck_h153 : List ck_Hd := []
set_option maxRecDepth 100000 in
theorem ck_k153 (l : Launch) (D : va_G) (st : Nat → Nat) : ck_Mt l D st ck_c153 := ck_sound (T := ck_T6) (cs := [ck_c152]) (hs := ck_h153) (sp := []) (fuel := 32) l ck_TSgood ck_okCl (ck_own (M0 := ck_m51) rfl rfl ck_okT6) (ck_cons (ck_k152 l D st) ck_nil) (by decide +kernel)
/-- SL$Reader.isWord -/
def ck_c154 : ck_C := (52, 101, [.inr (0, 47), .inr (2, 1)], [((47, 8), .inl (0, 0))], [], [(some (.inl (0, 0)), [], [], 101)], 0, 0, 0, 0)
def ck_h154 : List ck_Hd := []
set_option maxRecDepth 100000 in
theorem ck_k154 (l : Launch) (D : va_G) (st : Nat → Nat) : ck_Mt l D st ck_c154 := ck_sound (T := ck_T6) (cs := []) (hs := ck_h154) (sp := []) (fuel := 30) l ck_TSgood ck_okCl (ck_own (M0 := ck_m52) rfl rfl ck_okT6) ck_nil (by decide +kernel)
/-- SL$Reader.isWord -/
def ck_c155 : ck_C := (52, 101, [.inr (0, 47), .inr (2, 2)], [((47, 8), .inl (0, 0))], [], [(some (.inl (0, 0)), [], [], 101)], 0, 0, 0, 0)
def ck_h155 : List ck_Hd := []
set_option maxRecDepth 100000 in
theorem ck_k155 (l : Launch) (D : va_G) (st : Nat → Nat) : ck_Mt l D st ck_c155 := ck_sound (T := ck_T6) (cs := []) (hs := ck_h155) (sp := []) (fuel := 30) l ck_TSgood ck_okCl (ck_own (M0 := ck_m52) rfl rfl ck_okT6) ck_nil (by decide +kernel)
/-- SL$Reader.isWord -/
def ck_c156 : ck_C := (52, 101, [.inr (0, 47), .inr (2, 3)], [((47, 8), .inl (0, 0))], [], [(some (.inl (0, 0)), [], [], 101)], 0, 0, 0, 0)
def ck_h156 : List ck_Hd := []
set_option maxRecDepth 100000 in
theorem ck_k156 (l : Launch) (D : va_G) (st : Nat → Nat) : ck_Mt l D st ck_c156 := ck_sound (T := ck_T6) (cs := []) (hs := ck_h156) (sp := []) (fuel := 30) l ck_TSgood ck_okCl (ck_own (M0 := ck_m52) rfl rfl ck_okT6) ck_nil (by decide +kernel)
/-- SL$Reader.isWord -/
def ck_c157 : ck_C := (52, 101, [.inr (0, 47), .inr (2, 4)], [((47, 8), .inl (0, 0))], [], [(some (.inl (0, 0)), [], [], 101)], 0, 0, 0, 0)
def ck_h157 : List ck_Hd := []
set_option maxRecDepth 100000 in
theorem ck_k157 (l : Launch) (D : va_G) (st : Nat → Nat) : ck_Mt l D st ck_c157 := ck_sound (T := ck_T6) (cs := []) (hs := ck_h157) (sp := []) (fuel := 30) l ck_TSgood ck_okCl (ck_own (M0 := ck_m52) rfl rfl ck_okT6) ck_nil (by decide +kernel)
/-- SL$Reader.headKind -/
def ck_c158 : ck_C := (53, 101, [.inr (0, 47)], [((47, 8), .inl (0, 0))], [], [(some (.inl ((-1), (-1))), [], [], 101)], 1, 22, 0, 0)
def ck_h158 : List ck_Hd := []
set_option maxRecDepth 100000 in
theorem ck_k158 (l : Launch) (D : va_G) (st : Nat → Nat) : ck_Mt l D st ck_c158 := ck_sound (T := ck_T6) (cs := [ck_c154, ck_c155, ck_c156, ck_c157]) (hs := ck_h158) (sp := []) (fuel := 42) l ck_TSgood ck_okCl (ck_own (M0 := ck_m53) rfl rfl ck_okT6) (ck_cons (ck_k154 l D st) (ck_cons (ck_k155 l D st) (ck_cons (ck_k156 l D st) (ck_cons (ck_k157 l D st) ck_nil)))) (by decide +kernel)
/-- SL$Reader.readClause -/
def ck_c159 : ck_C := (50, 101, [.inr (0, 47)], [((47, 8), .inl (0, 0))], [], [(some (.inl (0, 0)), [], [], 101)], 2, 44, 0, 0)
def ck_h159 : List ck_Hd := []
set_option maxRecDepth 100000 in
theorem ck_k159 (l : Launch) (D : va_G) (st : Nat → Nat) : ck_Mt l D st ck_c159 := ck_sound (T := ck_T6) (cs := [ck_c153, ck_c158]) (hs := ck_h159) (sp := []) (fuel := 36) l ck_TSgood ck_okCl (ck_own (M0 := ck_m50) rfl rfl ck_okT6) (ck_cons (ck_k153 l D st) (ck_cons (ck_k158 l D st) ck_nil)) (by decide +kernel)
