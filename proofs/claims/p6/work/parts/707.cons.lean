/-- SLModel.replaces -/
def ck_c280 : ab_C := (182, 101, [.inr (0, 77), .inl (120, 120), .inl (0, 999)], [((77, 1, 1, 1), .inr (0, 78))], [(77, 0, 1, 1), (78, 120, 144, 1)], [(some (.inl ((-2147483648), 2147483647)), [(120, 120), (0, 999)], [((78, 120, 1, 1), .inl (0, 999)), ((77, 0, 1, 1), .inl (0, 0))], 101)], 1, 21, 0, 0)
def ck_h280 : List ab_Hd := []
set_option maxRecDepth 100000 in
theorem ck_k280 (l : Launch) (D : va_G) (st : Nat → Nat) : ck_Mt gk_G l D st ck_c280 := ab_sound (tr := ck_tr2) (T := ck_T13) (cs := [ck_c191]) (hs := ck_h280) (sp := []) (fuel := 38) l ck_TSgood ck_okCl ck_okDt (M0 := ck_m182) rfl ck_okT13 (ck_cons (ck_k191 l D st) ck_nil) (by decide +kernel)
/-- SLModel.replaces -/
def ck_c281 : ab_C := (182, 101, [.inr (0, 77), .inl (121, 121), .inl (0, 999)], [((77, 1, 1, 1), .inr (0, 78))], [(77, 0, 1, 1), (78, 121, 144, 1)], [(some (.inl ((-2147483648), 2147483647)), [(121, 121), (0, 999)], [((78, 121, 1, 1), .inl (0, 999)), ((77, 0, 1, 1), .inl (0, 0))], 101)], 1, 21, 0, 0)
def ck_h281 : List ab_Hd := []
set_option maxRecDepth 100000 in
theorem ck_k281 (l : Launch) (D : va_G) (st : Nat → Nat) : ck_Mt gk_G l D st ck_c281 := ab_sound (tr := ck_tr2) (T := ck_T13) (cs := [ck_c191]) (hs := ck_h281) (sp := []) (fuel := 38) l ck_TSgood ck_okCl ck_okDt (M0 := ck_m182) rfl ck_okT13 (ck_cons (ck_k191 l D st) ck_nil) (by decide +kernel)
/-- SLModel.replaces -/
def ck_c282 : ab_C := (182, 101, [.inr (0, 77), .inl (122, 122), .inl (0, 999)], [((77, 1, 1, 1), .inr (0, 78))], [(77, 0, 1, 1), (78, 122, 144, 1)], [(some (.inl ((-2147483648), 2147483647)), [(122, 122), (0, 999)], [((78, 122, 1, 1), .inl (0, 999)), ((77, 0, 1, 1), .inl (0, 0))], 101)], 1, 21, 0, 0)
def ck_h282 : List ab_Hd := []
set_option maxRecDepth 100000 in
theorem ck_k282 (l : Launch) (D : va_G) (st : Nat → Nat) : ck_Mt gk_G l D st ck_c282 := ab_sound (tr := ck_tr2) (T := ck_T13) (cs := [ck_c191]) (hs := ck_h282) (sp := []) (fuel := 38) l ck_TSgood ck_okCl ck_okDt (M0 := ck_m182) rfl ck_okT13 (ck_cons (ck_k191 l D st) ck_nil) (by decide +kernel)
/-- SLModel.replaces -/
def ck_c283 : ab_C := (182, 101, [.inr (0, 77), .inl (123, 123), .inl (0, 999)], [((77, 1, 1, 1), .inr (0, 78))], [(77, 0, 1, 1), (78, 123, 144, 1)], [(some (.inl ((-2147483648), 2147483647)), [(123, 123), (0, 999)], [((78, 123, 1, 1), .inl (0, 999)), ((77, 0, 1, 1), .inl (0, 0))], 101)], 1, 21, 0, 0)
def ck_h283 : List ab_Hd := []
set_option maxRecDepth 100000 in
theorem ck_k283 (l : Launch) (D : va_G) (st : Nat → Nat) : ck_Mt gk_G l D st ck_c283 := ab_sound (tr := ck_tr2) (T := ck_T13) (cs := [ck_c191]) (hs := ck_h283) (sp := []) (fuel := 38) l ck_TSgood ck_okCl ck_okDt (M0 := ck_m182) rfl ck_okT13 (ck_cons (ck_k191 l D st) ck_nil) (by decide +kernel)
/-- SLModel.replaces -/
def ck_c284 : ab_C := (182, 101, [.inr (0, 77), .inl (124, 124), .inl (0, 999)], [((77, 1, 1, 1), .inr (0, 78))], [(77, 0, 1, 1), (78, 124, 144, 1)], [(some (.inl ((-2147483648), 2147483647)), [(124, 124), (0, 999)], [((78, 124, 1, 1), .inl (0, 999)), ((77, 0, 1, 1), .inl (0, 0))], 101)], 1, 21, 0, 0)
def ck_h284 : List ab_Hd := []
set_option maxRecDepth 100000 in
theorem ck_k284 (l : Launch) (D : va_G) (st : Nat → Nat) : ck_Mt gk_G l D st ck_c284 := ab_sound (tr := ck_tr2) (T := ck_T13) (cs := [ck_c191]) (hs := ck_h284) (sp := []) (fuel := 38) l ck_TSgood ck_okCl ck_okDt (M0 := ck_m182) rfl ck_okT13 (ck_cons (ck_k191 l D st) ck_nil) (by decide +kernel)
/-- SLModel.replaces -/
def ck_c285 : ab_C := (182, 101, [.inr (0, 77), .inl (125, 125), .inl (0, 999)], [((77, 1, 1, 1), .inr (0, 78))], [(77, 0, 1, 1), (78, 125, 144, 1)], [(some (.inl ((-2147483648), 2147483647)), [(125, 125), (0, 999)], [((78, 125, 1, 1), .inl (0, 999)), ((77, 0, 1, 1), .inl (0, 0))], 101)], 1, 21, 0, 0)
def ck_h285 : List ab_Hd := []
set_option maxRecDepth 100000 in
theorem ck_k285 (l : Launch) (D : va_G) (st : Nat → Nat) : ck_Mt gk_G l D st ck_c285 := ab_sound (tr := ck_tr2) (T := ck_T13) (cs := [ck_c191]) (hs := ck_h285) (sp := []) (fuel := 38) l ck_TSgood ck_okCl ck_okDt (M0 := ck_m182) rfl ck_okT13 (ck_cons (ck_k191 l D st) ck_nil) (by decide +kernel)
/-- SLModel.replaces -/
def ck_c286 : ab_C := (182, 101, [.inr (0, 77), .inl (126, 126), .inl (0, 999)], [((77, 1, 1, 1), .inr (0, 78))], [(77, 0, 1, 1), (78, 126, 144, 1)], [(some (.inl ((-2147483648), 2147483647)), [(126, 126), (0, 999)], [((78, 126, 1, 1), .inl (0, 999)), ((77, 0, 1, 1), .inl (0, 0))], 101)], 1, 21, 0, 0)
def ck_h286 : List ab_Hd := []
set_option maxRecDepth 100000 in
theorem ck_k286 (l : Launch) (D : va_G) (st : Nat → Nat) : ck_Mt gk_G l D st ck_c286 := ab_sound (tr := ck_tr2) (T := ck_T13) (cs := [ck_c191]) (hs := ck_h286) (sp := []) (fuel := 38) l ck_TSgood ck_okCl ck_okDt (M0 := ck_m182) rfl ck_okT13 (ck_cons (ck_k191 l D st) ck_nil) (by decide +kernel)
/-- SLModel.replaces -/
def ck_c287 : ab_C := (182, 101, [.inr (0, 77), .inl (127, 127), .inl (0, 999)], [((77, 1, 1, 1), .inr (0, 78))], [(77, 0, 1, 1), (78, 127, 144, 1)], [(some (.inl ((-2147483648), 2147483647)), [(127, 127), (0, 999)], [((78, 127, 1, 1), .inl (0, 999)), ((77, 0, 1, 1), .inl (0, 0))], 101)], 1, 21, 0, 0)
def ck_h287 : List ab_Hd := []
set_option maxRecDepth 100000 in
theorem ck_k287 (l : Launch) (D : va_G) (st : Nat → Nat) : ck_Mt gk_G l D st ck_c287 := ab_sound (tr := ck_tr2) (T := ck_T13) (cs := [ck_c191]) (hs := ck_h287) (sp := []) (fuel := 38) l ck_TSgood ck_okCl ck_okDt (M0 := ck_m182) rfl ck_okT13 (ck_cons (ck_k191 l D st) ck_nil) (by decide +kernel)
/-- SLModel.replaces -/
def ck_c288 : ab_C := (182, 101, [.inr (0, 77), .inl (132, 132), .inl (0, 999)], [((77, 1, 1, 1), .inr (0, 78))], [(77, 0, 1, 1), (78, 132, 144, 1)], [(some (.inl ((-2147483648), 2147483647)), [(132, 132), (0, 999)], [((78, 132, 1, 1), .inl (0, 999)), ((77, 0, 1, 1), .inl (0, 0))], 101)], 1, 21, 0, 0)
def ck_h288 : List ab_Hd := []
set_option maxRecDepth 100000 in
theorem ck_k288 (l : Launch) (D : va_G) (st : Nat → Nat) : ck_Mt gk_G l D st ck_c288 := ab_sound (tr := ck_tr2) (T := ck_T13) (cs := [ck_c191]) (hs := ck_h288) (sp := []) (fuel := 38) l ck_TSgood ck_okCl ck_okDt (M0 := ck_m182) rfl ck_okT13 (ck_cons (ck_k191 l D st) ck_nil) (by decide +kernel)
/-- SLModel.replaces -/
def ck_c289 : ab_C := (182, 101, [.inr (0, 77), .inl (133, 133), .inl (0, 999)], [((77, 1, 1, 1), .inr (0, 78))], [(77, 0, 1, 1), (78, 133, 144, 1)], [(some (.inl ((-2147483648), 2147483647)), [(133, 133), (0, 999)], [((78, 133, 1, 1), .inl (0, 999)), ((77, 0, 1, 1), .inl (0, 0))], 101)], 1, 21, 0, 0)
def ck_h289 : List ab_Hd := []
set_option maxRecDepth 100000 in
theorem ck_k289 (l : Launch) (D : va_G) (st : Nat → Nat) : ck_Mt gk_G l D st ck_c289 := ab_sound (tr := ck_tr2) (T := ck_T13) (cs := [ck_c191]) (hs := ck_h289) (sp := []) (fuel := 38) l ck_TSgood ck_okCl ck_okDt (M0 := ck_m182) rfl ck_okT13 (ck_cons (ck_k191 l D st) ck_nil) (by decide +kernel)
/-- SLModel.replaces -/
def ck_c290 : ab_C := (182, 101, [.inr (0, 77), .inl (134, 134), .inl (0, 999)], [((77, 1, 1, 1), .inr (0, 78))], [(77, 0, 1, 1), (78, 134, 144, 1)], [(some (.inl ((-2147483648), 2147483647)), [(134, 134), (0, 999)], [((78, 134, 1, 1), .inl (0, 999)), ((77, 0, 1, 1), .inl (0, 0))], 101)], 1, 21, 0, 0)
def ck_h290 : List ab_Hd := []
set_option maxRecDepth 100000 in
theorem ck_k290 (l : Launch) (D : va_G) (st : Nat → Nat) : ck_Mt gk_G l D st ck_c290 := ab_sound (tr := ck_tr2) (T := ck_T13) (cs := [ck_c191]) (hs := ck_h290) (sp := []) (fuel := 38) l ck_TSgood ck_okCl ck_okDt (M0 := ck_m182) rfl ck_okT13 (ck_cons (ck_k191 l D st) ck_nil) (by decide +kernel)
/-- SLModel.replaces -/
def ck_c291 : ab_C := (182, 101, [.inr (0, 77), .inl (135, 135), .inl (0, 999)], [((77, 1, 1, 1), .inr (0, 78))], [(77, 0, 1, 1), (78, 135, 144, 1)], [(some (.inl ((-2147483648), 2147483647)), [(135, 135), (0, 999)], [((78, 135, 1, 1), .inl (0, 999)), ((77, 0, 1, 1), .inl (0, 0))], 101)], 1, 21, 0, 0)
def ck_h291 : List ab_Hd := []
set_option maxRecDepth 100000 in
theorem ck_k291 (l : Launch) (D : va_G) (st : Nat → Nat) : ck_Mt gk_G l D st ck_c291 := ab_sound (tr := ck_tr2) (T := ck_T13) (cs := [ck_c191]) (hs := ck_h291) (sp := []) (fuel := 38) l ck_TSgood ck_okCl ck_okDt (M0 := ck_m182) rfl ck_okT13 (ck_cons (ck_k191 l D st) ck_nil) (by decide +kernel)
/-- SLModel.replaces -/
def ck_c292 : ab_C := (182, 101, [.inr (0, 77), .inl (136, 136), .inl (0, 999)], [((77, 1, 1, 1), .inr (0, 78))], [(77, 0, 1, 1), (78, 136, 144, 1)], [(some (.inl ((-2147483648), 2147483647)), [(136, 136), (0, 999)], [((78, 136, 1, 1), .inl (0, 999)), ((77, 0, 1, 1), .inl (0, 0))], 101)], 1, 21, 0, 0)
def ck_h292 : List ab_Hd := []
set_option maxRecDepth 100000 in
theorem ck_k292 (l : Launch) (D : va_G) (st : Nat → Nat) : ck_Mt gk_G l D st ck_c292 := ab_sound (tr := ck_tr2) (T := ck_T13) (cs := [ck_c191]) (hs := ck_h292) (sp := []) (fuel := 38) l ck_TSgood ck_okCl ck_okDt (M0 := ck_m182) rfl ck_okT13 (ck_cons (ck_k191 l D st) ck_nil) (by decide +kernel)
/-- SLModel.replaces -/
def ck_c293 : ab_C := (182, 101, [.inr (0, 77), .inl (137, 137), .inl (0, 999)], [((77, 1, 1, 1), .inr (0, 78))], [(77, 0, 1, 1), (78, 137, 144, 1)], [(some (.inl ((-2147483648), 2147483647)), [(137, 137), (0, 999)], [((78, 137, 1, 1), .inl (0, 999)), ((77, 0, 1, 1), .inl (0, 0))], 101)], 1, 21, 0, 0)
def ck_h293 : List ab_Hd := []
set_option maxRecDepth 100000 in
theorem ck_k293 (l : Launch) (D : va_G) (st : Nat → Nat) : ck_Mt gk_G l D st ck_c293 := ab_sound (tr := ck_tr2) (T := ck_T13) (cs := [ck_c191]) (hs := ck_h293) (sp := []) (fuel := 38) l ck_TSgood ck_okCl ck_okDt (M0 := ck_m182) rfl ck_okT13 (ck_cons (ck_k191 l D st) ck_nil) (by decide +kernel)
/-- SLModel.replaces -/
def ck_c294 : ab_C := (182, 101, [.inr (0, 77), .inl (138, 138), .inl (0, 999)], [((77, 1, 1, 1), .inr (0, 78))], [(77, 0, 1, 1), (78, 138, 144, 1)], [(some (.inl ((-2147483648), 2147483647)), [(138, 138), (0, 999)], [((78, 138, 1, 1), .inl (0, 999)), ((77, 0, 1, 1), .inl (0, 0))], 101)], 1, 21, 0, 0)
def ck_h294 : List ab_Hd := []
set_option maxRecDepth 100000 in
theorem ck_k294 (l : Launch) (D : va_G) (st : Nat → Nat) : ck_Mt gk_G l D st ck_c294 := ab_sound (tr := ck_tr2) (T := ck_T13) (cs := [ck_c191]) (hs := ck_h294) (sp := []) (fuel := 38) l ck_TSgood ck_okCl ck_okDt (M0 := ck_m182) rfl ck_okT13 (ck_cons (ck_k191 l D st) ck_nil) (by decide +kernel)
/-- SLModel.replaces -/
def ck_c295 : ab_C := (182, 101, [.inr (0, 77), .inl (139, 139), .inl (0, 999)], [((77, 1, 1, 1), .inr (0, 78))], [(77, 0, 1, 1), (78, 139, 144, 1)], [(some (.inl ((-2147483648), 2147483647)), [(139, 139), (0, 999)], [((78, 139, 1, 1), .inl (0, 999)), ((77, 0, 1, 1), .inl (0, 0))], 101)], 1, 21, 0, 0)
def ck_h295 : List ab_Hd := []
set_option maxRecDepth 100000 in
theorem ck_k295 (l : Launch) (D : va_G) (st : Nat → Nat) : ck_Mt gk_G l D st ck_c295 := ab_sound (tr := ck_tr2) (T := ck_T13) (cs := [ck_c191]) (hs := ck_h295) (sp := []) (fuel := 38) l ck_TSgood ck_okCl ck_okDt (M0 := ck_m182) rfl ck_okT13 (ck_cons (ck_k191 l D st) ck_nil) (by decide +kernel)
/-- SLModel.replaces -/
def ck_c296 : ab_C := (182, 101, [.inr (0, 77), .inl (140, 140), .inl (0, 999)], [((77, 1, 1, 1), .inr (0, 78))], [(77, 0, 1, 1), (78, 140, 144, 1)], [(some (.inl ((-2147483648), 2147483647)), [(140, 140), (0, 999)], [((78, 140, 1, 1), .inl (0, 999)), ((77, 0, 1, 1), .inl (0, 0))], 101)], 1, 21, 0, 0)
def ck_h296 : List ab_Hd := []
set_option maxRecDepth 100000 in
theorem ck_k296 (l : Launch) (D : va_G) (st : Nat → Nat) : ck_Mt gk_G l D st ck_c296 := ab_sound (tr := ck_tr2) (T := ck_T13) (cs := [ck_c191]) (hs := ck_h296) (sp := []) (fuel := 38) l ck_TSgood ck_okCl ck_okDt (M0 := ck_m182) rfl ck_okT13 (ck_cons (ck_k191 l D st) ck_nil) (by decide +kernel)
/-- SLModel.replaces -/
def ck_c297 : ab_C := (182, 101, [.inr (0, 77), .inl (141, 141), .inl (0, 999)], [((77, 1, 1, 1), .inr (0, 78))], [(77, 0, 1, 1), (78, 141, 144, 1)], [(some (.inl ((-2147483648), 2147483647)), [(141, 141), (0, 999)], [((78, 141, 1, 1), .inl (0, 999)), ((77, 0, 1, 1), .inl (0, 0))], 101)], 1, 21, 0, 0)
def ck_h297 : List ab_Hd := []
set_option maxRecDepth 100000 in
theorem ck_k297 (l : Launch) (D : va_G) (st : Nat → Nat) : ck_Mt gk_G l D st ck_c297 := ab_sound (tr := ck_tr2) (T := ck_T13) (cs := [ck_c191]) (hs := ck_h297) (sp := []) (fuel := 38) l ck_TSgood ck_okCl ck_okDt (M0 := ck_m182) rfl ck_okT13 (ck_cons (ck_k191 l D st) ck_nil) (by decide +kernel)
/-- SLModel.replaces -/
def ck_c298 : ab_C := (182, 101, [.inr (0, 77), .inl (142, 142), .inl (0, 999)], [((77, 1, 1, 1), .inr (0, 78))], [(77, 0, 1, 1), (78, 142, 144, 1)], [(some (.inl ((-2147483648), 2147483647)), [(142, 142), (0, 999)], [((78, 142, 1, 1), .inl (0, 999)), ((77, 0, 1, 1), .inl (0, 0))], 101)], 1, 21, 0, 0)
def ck_h298 : List ab_Hd := []
set_option maxRecDepth 100000 in
theorem ck_k298 (l : Launch) (D : va_G) (st : Nat → Nat) : ck_Mt gk_G l D st ck_c298 := ab_sound (tr := ck_tr2) (T := ck_T13) (cs := [ck_c191]) (hs := ck_h298) (sp := []) (fuel := 38) l ck_TSgood ck_okCl ck_okDt (M0 := ck_m182) rfl ck_okT13 (ck_cons (ck_k191 l D st) ck_nil) (by decide +kernel)
/-- SLModel.replaces -/
def ck_c299 : ab_C := (182, 101, [.inr (0, 77), .inl (143, 143), .inl (0, 999)], [((77, 1, 1, 1), .inr (0, 78))], [(77, 0, 1, 1), (78, 143, 144, 1)], [(some (.inl ((-2147483648), 2147483647)), [(143, 143), (0, 999)], [((78, 143, 1, 1), .inl (0, 999)), ((77, 0, 1, 1), .inl (0, 0))], 101)], 1, 21, 0, 0)
def ck_h299 : List ab_Hd := []
set_option maxRecDepth 100000 in
theorem ck_k299 (l : Launch) (D : va_G) (st : Nat → Nat) : ck_Mt gk_G l D st ck_c299 := ab_sound (tr := ck_tr2) (T := ck_T13) (cs := [ck_c191]) (hs := ck_h299) (sp := []) (fuel := 38) l ck_TSgood ck_okCl ck_okDt (M0 := ck_m182) rfl ck_okT13 (ck_cons (ck_k191 l D st) ck_nil) (by decide +kernel)
/-- SLModel.replaces -/
def ck_c300 : ab_C := (182, 101, [.inr (0, 77), .inl (148, 148), .inl (0, 999)], [((77, 1, 1, 1), .inr (0, 78))], [(77, 0, 1, 1), (78, 148, 144, 1)], [(some (.inl ((-2147483648), 2147483647)), [(148, 148), (0, 999)], [((78, 148, 1, 1), .inl (0, 999)), ((77, 0, 1, 1), .inl (0, 0))], 101)], 1, 21, 0, 0)
def ck_h300 : List ab_Hd := []
set_option maxRecDepth 100000 in
theorem ck_k300 (l : Launch) (D : va_G) (st : Nat → Nat) : ck_Mt gk_G l D st ck_c300 := ab_sound (tr := ck_tr2) (T := ck_T13) (cs := [ck_c191]) (hs := ck_h300) (sp := []) (fuel := 38) l ck_TSgood ck_okCl ck_okDt (M0 := ck_m182) rfl ck_okT13 (ck_cons (ck_k191 l D st) ck_nil) (by decide +kernel)
/-- SLModel.replaces -/
def ck_c301 : ab_C := (182, 101, [.inr (0, 77), .inl (149, 149), .inl (0, 999)], [((77, 1, 1, 1), .inr (0, 78))], [(77, 0, 1, 1), (78, 149, 144, 1)], [(some (.inl ((-2147483648), 2147483647)), [(149, 149), (0, 999)], [((78, 149, 1, 1), .inl (0, 999)), ((77, 0, 1, 1), .inl (0, 0))], 101)], 1, 21, 0, 0)
def ck_h301 : List ab_Hd := []
set_option maxRecDepth 100000 in
theorem ck_k301 (l : Launch) (D : va_G) (st : Nat → Nat) : ck_Mt gk_G l D st ck_c301 := ab_sound (tr := ck_tr2) (T := ck_T13) (cs := [ck_c191]) (hs := ck_h301) (sp := []) (fuel := 38) l ck_TSgood ck_okCl ck_okDt (M0 := ck_m182) rfl ck_okT13 (ck_cons (ck_k191 l D st) ck_nil) (by decide +kernel)
/-- SLModel.replaces -/
def ck_c302 : ab_C := (182, 101, [.inr (0, 77), .inl (150, 150), .inl (0, 999)], [((77, 1, 1, 1), .inr (0, 78))], [(77, 0, 1, 1), (78, 150, 144, 1)], [(some (.inl ((-2147483648), 2147483647)), [(150, 150), (0, 999)], [((78, 150, 1, 1), .inl (0, 999)), ((77, 0, 1, 1), .inl (0, 0))], 101)], 1, 21, 0, 0)
def ck_h302 : List ab_Hd := []
set_option maxRecDepth 100000 in
theorem ck_k302 (l : Launch) (D : va_G) (st : Nat → Nat) : ck_Mt gk_G l D st ck_c302 := ab_sound (tr := ck_tr2) (T := ck_T13) (cs := [ck_c191]) (hs := ck_h302) (sp := []) (fuel := 38) l ck_TSgood ck_okCl ck_okDt (M0 := ck_m182) rfl ck_okT13 (ck_cons (ck_k191 l D st) ck_nil) (by decide +kernel)
/-- SLModel.replaces -/
def ck_c303 : ab_C := (182, 101, [.inr (0, 77), .inl (151, 151), .inl (0, 999)], [((77, 1, 1, 1), .inr (0, 78))], [(77, 0, 1, 1), (78, 151, 144, 1)], [(some (.inl ((-2147483648), 2147483647)), [(151, 151), (0, 999)], [((78, 151, 1, 1), .inl (0, 999)), ((77, 0, 1, 1), .inl (0, 0))], 101)], 1, 21, 0, 0)
def ck_h303 : List ab_Hd := []
set_option maxRecDepth 100000 in
theorem ck_k303 (l : Launch) (D : va_G) (st : Nat → Nat) : ck_Mt gk_G l D st ck_c303 := ab_sound (tr := ck_tr2) (T := ck_T13) (cs := [ck_c191]) (hs := ck_h303) (sp := []) (fuel := 38) l ck_TSgood ck_okCl ck_okDt (M0 := ck_m182) rfl ck_okT13 (ck_cons (ck_k191 l D st) ck_nil) (by decide +kernel)
/-- SLModel.replaces -/
def ck_c304 : ab_C := (182, 101, [.inr (0, 77), .inl (152, 152), .inl (0, 999)], [((77, 1, 1, 1), .inr (0, 78))], [(77, 0, 1, 1), (78, 152, 144, 1)], [(some (.inl ((-2147483648), 2147483647)), [(152, 152), (0, 999)], [((78, 152, 1, 1), .inl (0, 999)), ((77, 0, 1, 1), .inl (0, 0))], 101)], 1, 21, 0, 0)
def ck_h304 : List ab_Hd := []
set_option maxRecDepth 100000 in
theorem ck_k304 (l : Launch) (D : va_G) (st : Nat → Nat) : ck_Mt gk_G l D st ck_c304 := ab_sound (tr := ck_tr2) (T := ck_T13) (cs := [ck_c191]) (hs := ck_h304) (sp := []) (fuel := 38) l ck_TSgood ck_okCl ck_okDt (M0 := ck_m182) rfl ck_okT13 (ck_cons (ck_k191 l D st) ck_nil) (by decide +kernel)
/-- SLModel.replaces -/
def ck_c305 : ab_C := (182, 101, [.inr (0, 77), .inl (153, 153), .inl (0, 999)], [((77, 1, 1, 1), .inr (0, 78))], [(77, 0, 1, 1), (78, 153, 144, 1)], [(some (.inl ((-2147483648), 2147483647)), [(153, 153), (0, 999)], [((78, 153, 1, 1), .inl (0, 999)), ((77, 0, 1, 1), .inl (0, 0))], 101)], 1, 21, 0, 0)
def ck_h305 : List ab_Hd := []
set_option maxRecDepth 100000 in
theorem ck_k305 (l : Launch) (D : va_G) (st : Nat → Nat) : ck_Mt gk_G l D st ck_c305 := ab_sound (tr := ck_tr2) (T := ck_T13) (cs := [ck_c191]) (hs := ck_h305) (sp := []) (fuel := 38) l ck_TSgood ck_okCl ck_okDt (M0 := ck_m182) rfl ck_okT13 (ck_cons (ck_k191 l D st) ck_nil) (by decide +kernel)
/-- SLModel.replaces -/
def ck_c306 : ab_C := (182, 101, [.inr (0, 77), .inl (154, 154), .inl (0, 999)], [((77, 1, 1, 1), .inr (0, 78))], [(77, 0, 1, 1), (78, 154, 144, 1)], [(some (.inl ((-2147483648), 2147483647)), [(154, 154), (0, 999)], [((78, 154, 1, 1), .inl (0, 999)), ((77, 0, 1, 1), .inl (0, 0))], 101)], 1, 21, 0, 0)
def ck_h306 : List ab_Hd := []
set_option maxRecDepth 100000 in
theorem ck_k306 (l : Launch) (D : va_G) (st : Nat → Nat) : ck_Mt gk_G l D st ck_c306 := ab_sound (tr := ck_tr2) (T := ck_T13) (cs := [ck_c191]) (hs := ck_h306) (sp := []) (fuel := 38) l ck_TSgood ck_okCl ck_okDt (M0 := ck_m182) rfl ck_okT13 (ck_cons (ck_k191 l D st) ck_nil) (by decide +kernel)
/-- SLModel.replaces -/
def ck_c307 : ab_C := (182, 101, [.inr (0, 77), .inl (155, 155), .inl (0, 999)], [((77, 1, 1, 1), .inr (0, 78))], [(77, 0, 1, 1), (78, 155, 144, 1)], [(some (.inl ((-2147483648), 2147483647)), [(155, 155), (0, 999)], [((78, 155, 1, 1), .inl (0, 999)), ((77, 0, 1, 1), .inl (0, 0))], 101)], 1, 21, 0, 0)
def ck_h307 : List ab_Hd := []
set_option maxRecDepth 100000 in
theorem ck_k307 (l : Launch) (D : va_G) (st : Nat → Nat) : ck_Mt gk_G l D st ck_c307 := ab_sound (tr := ck_tr2) (T := ck_T13) (cs := [ck_c191]) (hs := ck_h307) (sp := []) (fuel := 38) l ck_TSgood ck_okCl ck_okDt (M0 := ck_m182) rfl ck_okT13 (ck_cons (ck_k191 l D st) ck_nil) (by decide +kernel)
/-- SLModel.replaces -/
def ck_c308 : ab_C := (182, 101, [.inr (0, 77), .inl (156, 156), .inl (0, 999)], [((77, 1, 1, 1), .inr (0, 78))], [(77, 0, 1, 1), (78, 156, 144, 1)], [(some (.inl ((-2147483648), 2147483647)), [(156, 156), (0, 999)], [((78, 156, 1, 1), .inl (0, 999)), ((77, 0, 1, 1), .inl (0, 0))], 101)], 1, 21, 0, 0)
def ck_h308 : List ab_Hd := []
set_option maxRecDepth 100000 in
theorem ck_k308 (l : Launch) (D : va_G) (st : Nat → Nat) : ck_Mt gk_G l D st ck_c308 := ab_sound (tr := ck_tr2) (T := ck_T13) (cs := [ck_c191]) (hs := ck_h308) (sp := []) (fuel := 38) l ck_TSgood ck_okCl ck_okDt (M0 := ck_m182) rfl ck_okT13 (ck_cons (ck_k191 l D st) ck_nil) (by decide +kernel)
/-- SLModel.replaces -/
def ck_c309 : ab_C := (182, 101, [.inr (0, 77), .inl (157, 157), .inl (0, 999)], [((77, 1, 1, 1), .inr (0, 78))], [(77, 0, 1, 1), (78, 157, 144, 1)], [(some (.inl ((-2147483648), 2147483647)), [(157, 157), (0, 999)], [((78, 157, 1, 1), .inl (0, 999)), ((77, 0, 1, 1), .inl (0, 0))], 101)], 1, 21, 0, 0)
def ck_h309 : List ab_Hd := []
set_option maxRecDepth 100000 in
theorem ck_k309 (l : Launch) (D : va_G) (st : Nat → Nat) : ck_Mt gk_G l D st ck_c309 := ab_sound (tr := ck_tr2) (T := ck_T13) (cs := [ck_c191]) (hs := ck_h309) (sp := []) (fuel := 38) l ck_TSgood ck_okCl ck_okDt (M0 := ck_m182) rfl ck_okT13 (ck_cons (ck_k191 l D st) ck_nil) (by decide +kernel)
/-- SLModel.replaces -/
def ck_c310 : ab_C := (182, 101, [.inr (0, 77), .inl (158, 158), .inl (0, 999)], [((77, 1, 1, 1), .inr (0, 78))], [(77, 0, 1, 1), (78, 158, 144, 1)], [(some (.inl ((-2147483648), 2147483647)), [(158, 158), (0, 999)], [((78, 158, 1, 1), .inl (0, 999)), ((77, 0, 1, 1), .inl (0, 0))], 101)], 1, 21, 0, 0)
def ck_h310 : List ab_Hd := []
set_option maxRecDepth 100000 in
theorem ck_k310 (l : Launch) (D : va_G) (st : Nat → Nat) : ck_Mt gk_G l D st ck_c310 := ab_sound (tr := ck_tr2) (T := ck_T13) (cs := [ck_c191]) (hs := ck_h310) (sp := []) (fuel := 38) l ck_TSgood ck_okCl ck_okDt (M0 := ck_m182) rfl ck_okT13 (ck_cons (ck_k191 l D st) ck_nil) (by decide +kernel)
/-- SLModel.replaces -/
def ck_c311 : ab_C := (182, 101, [.inr (0, 77), .inl (159, 159), .inl (0, 999)], [((77, 1, 1, 1), .inr (0, 78))], [(77, 0, 1, 1), (78, 159, 144, 1)], [(some (.inl ((-2147483648), 2147483647)), [(159, 159), (0, 999)], [((78, 159, 1, 1), .inl (0, 999)), ((77, 0, 1, 1), .inl (0, 0))], 101)], 1, 21, 0, 0)
def ck_h311 : List ab_Hd := []
set_option maxRecDepth 100000 in
theorem ck_k311 (l : Launch) (D : va_G) (st : Nat → Nat) : ck_Mt gk_G l D st ck_c311 := ab_sound (tr := ck_tr2) (T := ck_T13) (cs := [ck_c191]) (hs := ck_h311) (sp := []) (fuel := 38) l ck_TSgood ck_okCl ck_okDt (M0 := ck_m182) rfl ck_okT13 (ck_cons (ck_k191 l D st) ck_nil) (by decide +kernel)
/-- SLModel.replaces -/
def ck_c312 : ab_C := (182, 101, [.inr (0, 77), .inl (164, 164), .inl (0, 999)], [((77, 1, 1, 1), .inr (0, 78))], [(77, 0, 1, 1), (78, 164, 144, 1)], [(some (.inl ((-2147483648), 2147483647)), [(164, 164), (0, 999)], [((78, 164, 1, 1), .inl (0, 999)), ((77, 0, 1, 1), .inl (0, 0))], 101)], 1, 21, 0, 0)
def ck_h312 : List ab_Hd := []
set_option maxRecDepth 100000 in
theorem ck_k312 (l : Launch) (D : va_G) (st : Nat → Nat) : ck_Mt gk_G l D st ck_c312 := ab_sound (tr := ck_tr2) (T := ck_T13) (cs := [ck_c191]) (hs := ck_h312) (sp := []) (fuel := 38) l ck_TSgood ck_okCl ck_okDt (M0 := ck_m182) rfl ck_okT13 (ck_cons (ck_k191 l D st) ck_nil) (by decide +kernel)
/-- SLModel.replaces -/
def ck_c313 : ab_C := (182, 101, [.inr (0, 77), .inl (165, 165), .inl (0, 999)], [((77, 1, 1, 1), .inr (0, 78))], [(77, 0, 1, 1), (78, 165, 144, 1)], [(some (.inl ((-2147483648), 2147483647)), [(165, 165), (0, 999)], [((78, 165, 1, 1), .inl (0, 999)), ((77, 0, 1, 1), .inl (0, 0))], 101)], 1, 21, 0, 0)
def ck_h313 : List ab_Hd := []
set_option maxRecDepth 100000 in
theorem ck_k313 (l : Launch) (D : va_G) (st : Nat → Nat) : ck_Mt gk_G l D st ck_c313 := ab_sound (tr := ck_tr2) (T := ck_T13) (cs := [ck_c191]) (hs := ck_h313) (sp := []) (fuel := 38) l ck_TSgood ck_okCl ck_okDt (M0 := ck_m182) rfl ck_okT13 (ck_cons (ck_k191 l D st) ck_nil) (by decide +kernel)
/-- SLModel.replaces -/
def ck_c314 : ab_C := (182, 101, [.inr (0, 77), .inl (166, 166), .inl (0, 999)], [((77, 1, 1, 1), .inr (0, 78))], [(77, 0, 1, 1), (78, 166, 144, 1)], [(some (.inl ((-2147483648), 2147483647)), [(166, 166), (0, 999)], [((78, 166, 1, 1), .inl (0, 999)), ((77, 0, 1, 1), .inl (0, 0))], 101)], 1, 21, 0, 0)
def ck_h314 : List ab_Hd := []
set_option maxRecDepth 100000 in
theorem ck_k314 (l : Launch) (D : va_G) (st : Nat → Nat) : ck_Mt gk_G l D st ck_c314 := ab_sound (tr := ck_tr2) (T := ck_T13) (cs := [ck_c191]) (hs := ck_h314) (sp := []) (fuel := 38) l ck_TSgood ck_okCl ck_okDt (M0 := ck_m182) rfl ck_okT13 (ck_cons (ck_k191 l D st) ck_nil) (by decide +kernel)
/-- SLModel.replaces -/
def ck_c315 : ab_C := (182, 101, [.inr (0, 77), .inl (167, 167), .inl (0, 999)], [((77, 1, 1, 1), .inr (0, 78))], [(77, 0, 1, 1), (78, 167, 144, 1)], [(some (.inl ((-2147483648), 2147483647)), [(167, 167), (0, 999)], [((78, 167, 1, 1), .inl (0, 999)), ((77, 0, 1, 1), .inl (0, 0))], 101)], 1, 21, 0, 0)
def ck_h315 : List ab_Hd := []
set_option maxRecDepth 100000 in
theorem ck_k315 (l : Launch) (D : va_G) (st : Nat → Nat) : ck_Mt gk_G l D st ck_c315 := ab_sound (tr := ck_tr2) (T := ck_T13) (cs := [ck_c191]) (hs := ck_h315) (sp := []) (fuel := 38) l ck_TSgood ck_okCl ck_okDt (M0 := ck_m182) rfl ck_okT13 (ck_cons (ck_k191 l D st) ck_nil) (by decide +kernel)
/-- SLModel.replaces -/
def ck_c316 : ab_C := (182, 101, [.inr (0, 77), .inl (168, 168), .inl (0, 999)], [((77, 1, 1, 1), .inr (0, 78))], [(77, 0, 1, 1), (78, 168, 144, 1)], [(some (.inl ((-2147483648), 2147483647)), [(168, 168), (0, 999)], [((78, 168, 1, 1), .inl (0, 999)), ((77, 0, 1, 1), .inl (0, 0))], 101)], 1, 21, 0, 0)
def ck_h316 : List ab_Hd := []
set_option maxRecDepth 100000 in
theorem ck_k316 (l : Launch) (D : va_G) (st : Nat → Nat) : ck_Mt gk_G l D st ck_c316 := ab_sound (tr := ck_tr2) (T := ck_T13) (cs := [ck_c191]) (hs := ck_h316) (sp := []) (fuel := 38) l ck_TSgood ck_okCl ck_okDt (M0 := ck_m182) rfl ck_okT13 (ck_cons (ck_k191 l D st) ck_nil) (by decide +kernel)
/-- SLModel.replaces -/
def ck_c317 : ab_C := (182, 101, [.inr (0, 77), .inl (169, 169), .inl (0, 999)], [((77, 1, 1, 1), .inr (0, 78))], [(77, 0, 1, 1), (78, 169, 144, 1)], [(some (.inl ((-2147483648), 2147483647)), [(169, 169), (0, 999)], [((78, 169, 1, 1), .inl (0, 999)), ((77, 0, 1, 1), .inl (0, 0))], 101)], 1, 21, 0, 0)
def ck_h317 : List ab_Hd := []
set_option maxRecDepth 100000 in
theorem ck_k317 (l : Launch) (D : va_G) (st : Nat → Nat) : ck_Mt gk_G l D st ck_c317 := ab_sound (tr := ck_tr2) (T := ck_T13) (cs := [ck_c191]) (hs := ck_h317) (sp := []) (fuel := 38) l ck_TSgood ck_okCl ck_okDt (M0 := ck_m182) rfl ck_okT13 (ck_cons (ck_k191 l D st) ck_nil) (by decide +kernel)
/-- SLModel.replaces -/
def ck_c318 : ab_C := (182, 101, [.inr (0, 77), .inl (170, 170), .inl (0, 999)], [((77, 1, 1, 1), .inr (0, 78))], [(77, 0, 1, 1), (78, 170, 144, 1)], [(some (.inl ((-2147483648), 2147483647)), [(170, 170), (0, 999)], [((78, 170, 1, 1), .inl (0, 999)), ((77, 0, 1, 1), .inl (0, 0))], 101)], 1, 21, 0, 0)
def ck_h318 : List ab_Hd := []
set_option maxRecDepth 100000 in
theorem ck_k318 (l : Launch) (D : va_G) (st : Nat → Nat) : ck_Mt gk_G l D st ck_c318 := ab_sound (tr := ck_tr2) (T := ck_T13) (cs := [ck_c191]) (hs := ck_h318) (sp := []) (fuel := 38) l ck_TSgood ck_okCl ck_okDt (M0 := ck_m182) rfl ck_okT13 (ck_cons (ck_k191 l D st) ck_nil) (by decide +kernel)
/-- SLModel.replaces -/
def ck_c319 : ab_C := (182, 101, [.inr (0, 77), .inl (171, 171), .inl (0, 999)], [((77, 1, 1, 1), .inr (0, 78))], [(77, 0, 1, 1), (78, 171, 144, 1)], [(some (.inl ((-2147483648), 2147483647)), [(171, 171), (0, 999)], [((78, 171, 1, 1), .inl (0, 999)), ((77, 0, 1, 1), .inl (0, 0))], 101)], 1, 21, 0, 0)
def ck_h319 : List ab_Hd := []
set_option maxRecDepth 100000 in
theorem ck_k319 (l : Launch) (D : va_G) (st : Nat → Nat) : ck_Mt gk_G l D st ck_c319 := ab_sound (tr := ck_tr2) (T := ck_T13) (cs := [ck_c191]) (hs := ck_h319) (sp := []) (fuel := 38) l ck_TSgood ck_okCl ck_okDt (M0 := ck_m182) rfl ck_okT13 (ck_cons (ck_k191 l D st) ck_nil) (by decide +kernel)
