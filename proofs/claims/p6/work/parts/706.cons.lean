/-- SLModel.replaces -/
def ck_c240 : ab_C := (182, 101, [.inr (0, 77), .inl (68, 68), .inl (0, 999)], [((77, 1, 1, 1), .inr (0, 78))], [(77, 0, 1, 1), (78, 68, 144, 1)], [(some (.inl ((-2147483648), 2147483647)), [(68, 68), (0, 999)], [((78, 68, 1, 1), .inl (0, 999)), ((77, 0, 1, 1), .inl (0, 0))], 101)], 1, 21, 0, 0)
def ck_h240 : List ab_Hd := []
set_option maxRecDepth 100000 in
theorem ck_k240 (l : Launch) (D : va_G) (st : Nat → Nat) : ck_Mt gk_G l D st ck_c240 := ab_sound (tr := ck_tr2) (T := ck_T13) (cs := [ck_c191]) (hs := ck_h240) (sp := []) (fuel := 38) l ck_TSgood ck_okCl ck_okDt (M0 := ck_m182) rfl ck_okT13 (ck_cons (ck_k191 l D st) ck_nil) (by decide +kernel)
/-- SLModel.replaces -/
def ck_c241 : ab_C := (182, 101, [.inr (0, 77), .inl (69, 69), .inl (0, 999)], [((77, 1, 1, 1), .inr (0, 78))], [(77, 0, 1, 1), (78, 69, 144, 1)], [(some (.inl ((-2147483648), 2147483647)), [(69, 69), (0, 999)], [((78, 69, 1, 1), .inl (0, 999)), ((77, 0, 1, 1), .inl (0, 0))], 101)], 1, 21, 0, 0)
def ck_h241 : List ab_Hd := []
set_option maxRecDepth 100000 in
theorem ck_k241 (l : Launch) (D : va_G) (st : Nat → Nat) : ck_Mt gk_G l D st ck_c241 := ab_sound (tr := ck_tr2) (T := ck_T13) (cs := [ck_c191]) (hs := ck_h241) (sp := []) (fuel := 38) l ck_TSgood ck_okCl ck_okDt (M0 := ck_m182) rfl ck_okT13 (ck_cons (ck_k191 l D st) ck_nil) (by decide +kernel)
/-- SLModel.replaces -/
def ck_c242 : ab_C := (182, 101, [.inr (0, 77), .inl (70, 70), .inl (0, 999)], [((77, 1, 1, 1), .inr (0, 78))], [(77, 0, 1, 1), (78, 70, 144, 1)], [(some (.inl ((-2147483648), 2147483647)), [(70, 70), (0, 999)], [((78, 70, 1, 1), .inl (0, 999)), ((77, 0, 1, 1), .inl (0, 0))], 101)], 1, 21, 0, 0)
def ck_h242 : List ab_Hd := []
set_option maxRecDepth 100000 in
theorem ck_k242 (l : Launch) (D : va_G) (st : Nat → Nat) : ck_Mt gk_G l D st ck_c242 := ab_sound (tr := ck_tr2) (T := ck_T13) (cs := [ck_c191]) (hs := ck_h242) (sp := []) (fuel := 38) l ck_TSgood ck_okCl ck_okDt (M0 := ck_m182) rfl ck_okT13 (ck_cons (ck_k191 l D st) ck_nil) (by decide +kernel)
/-- SLModel.replaces -/
def ck_c243 : ab_C := (182, 101, [.inr (0, 77), .inl (71, 71), .inl (0, 999)], [((77, 1, 1, 1), .inr (0, 78))], [(77, 0, 1, 1), (78, 71, 144, 1)], [(some (.inl ((-2147483648), 2147483647)), [(71, 71), (0, 999)], [((78, 71, 1, 1), .inl (0, 999)), ((77, 0, 1, 1), .inl (0, 0))], 101)], 1, 21, 0, 0)
def ck_h243 : List ab_Hd := []
set_option maxRecDepth 100000 in
theorem ck_k243 (l : Launch) (D : va_G) (st : Nat → Nat) : ck_Mt gk_G l D st ck_c243 := ab_sound (tr := ck_tr2) (T := ck_T13) (cs := [ck_c191]) (hs := ck_h243) (sp := []) (fuel := 38) l ck_TSgood ck_okCl ck_okDt (M0 := ck_m182) rfl ck_okT13 (ck_cons (ck_k191 l D st) ck_nil) (by decide +kernel)
/-- SLModel.replaces -/
def ck_c244 : ab_C := (182, 101, [.inr (0, 77), .inl (72, 72), .inl (0, 999)], [((77, 1, 1, 1), .inr (0, 78))], [(77, 0, 1, 1), (78, 72, 144, 1)], [(some (.inl ((-2147483648), 2147483647)), [(72, 72), (0, 999)], [((78, 72, 1, 1), .inl (0, 999)), ((77, 0, 1, 1), .inl (0, 0))], 101)], 1, 21, 0, 0)
def ck_h244 : List ab_Hd := []
set_option maxRecDepth 100000 in
theorem ck_k244 (l : Launch) (D : va_G) (st : Nat → Nat) : ck_Mt gk_G l D st ck_c244 := ab_sound (tr := ck_tr2) (T := ck_T13) (cs := [ck_c191]) (hs := ck_h244) (sp := []) (fuel := 38) l ck_TSgood ck_okCl ck_okDt (M0 := ck_m182) rfl ck_okT13 (ck_cons (ck_k191 l D st) ck_nil) (by decide +kernel)
/-- SLModel.replaces -/
def ck_c245 : ab_C := (182, 101, [.inr (0, 77), .inl (73, 73), .inl (0, 999)], [((77, 1, 1, 1), .inr (0, 78))], [(77, 0, 1, 1), (78, 73, 144, 1)], [(some (.inl ((-2147483648), 2147483647)), [(73, 73), (0, 999)], [((78, 73, 1, 1), .inl (0, 999)), ((77, 0, 1, 1), .inl (0, 0))], 101)], 1, 21, 0, 0)
def ck_h245 : List ab_Hd := []
set_option maxRecDepth 100000 in
theorem ck_k245 (l : Launch) (D : va_G) (st : Nat → Nat) : ck_Mt gk_G l D st ck_c245 := ab_sound (tr := ck_tr2) (T := ck_T13) (cs := [ck_c191]) (hs := ck_h245) (sp := []) (fuel := 38) l ck_TSgood ck_okCl ck_okDt (M0 := ck_m182) rfl ck_okT13 (ck_cons (ck_k191 l D st) ck_nil) (by decide +kernel)
/-- SLModel.replaces -/
def ck_c246 : ab_C := (182, 101, [.inr (0, 77), .inl (74, 74), .inl (0, 999)], [((77, 1, 1, 1), .inr (0, 78))], [(77, 0, 1, 1), (78, 74, 144, 1)], [(some (.inl ((-2147483648), 2147483647)), [(74, 74), (0, 999)], [((78, 74, 1, 1), .inl (0, 999)), ((77, 0, 1, 1), .inl (0, 0))], 101)], 1, 21, 0, 0)
def ck_h246 : List ab_Hd := []
set_option maxRecDepth 100000 in
theorem ck_k246 (l : Launch) (D : va_G) (st : Nat → Nat) : ck_Mt gk_G l D st ck_c246 := ab_sound (tr := ck_tr2) (T := ck_T13) (cs := [ck_c191]) (hs := ck_h246) (sp := []) (fuel := 38) l ck_TSgood ck_okCl ck_okDt (M0 := ck_m182) rfl ck_okT13 (ck_cons (ck_k191 l D st) ck_nil) (by decide +kernel)
/-- SLModel.replaces -/
def ck_c247 : ab_C := (182, 101, [.inr (0, 77), .inl (75, 75), .inl (0, 999)], [((77, 1, 1, 1), .inr (0, 78))], [(77, 0, 1, 1), (78, 75, 144, 1)], [(some (.inl ((-2147483648), 2147483647)), [(75, 75), (0, 999)], [((78, 75, 1, 1), .inl (0, 999)), ((77, 0, 1, 1), .inl (0, 0))], 101)], 1, 21, 0, 0)
def ck_h247 : List ab_Hd := []
set_option maxRecDepth 100000 in
theorem ck_k247 (l : Launch) (D : va_G) (st : Nat → Nat) : ck_Mt gk_G l D st ck_c247 := ab_sound (tr := ck_tr2) (T := ck_T13) (cs := [ck_c191]) (hs := ck_h247) (sp := []) (fuel := 38) l ck_TSgood ck_okCl ck_okDt (M0 := ck_m182) rfl ck_okT13 (ck_cons (ck_k191 l D st) ck_nil) (by decide +kernel)
/-- SLModel.replaces -/
def ck_c248 : ab_C := (182, 101, [.inr (0, 77), .inl (76, 76), .inl (0, 999)], [((77, 1, 1, 1), .inr (0, 78))], [(77, 0, 1, 1), (78, 76, 144, 1)], [(some (.inl ((-2147483648), 2147483647)), [(76, 76), (0, 999)], [((78, 76, 1, 1), .inl (0, 999)), ((77, 0, 1, 1), .inl (0, 0))], 101)], 1, 21, 0, 0)
def ck_h248 : List ab_Hd := []
set_option maxRecDepth 100000 in
theorem ck_k248 (l : Launch) (D : va_G) (st : Nat → Nat) : ck_Mt gk_G l D st ck_c248 := ab_sound (tr := ck_tr2) (T := ck_T13) (cs := [ck_c191]) (hs := ck_h248) (sp := []) (fuel := 38) l ck_TSgood ck_okCl ck_okDt (M0 := ck_m182) rfl ck_okT13 (ck_cons (ck_k191 l D st) ck_nil) (by decide +kernel)
/-- SLModel.replaces -/
def ck_c249 : ab_C := (182, 101, [.inr (0, 77), .inl (77, 77), .inl (0, 999)], [((77, 1, 1, 1), .inr (0, 78))], [(77, 0, 1, 1), (78, 77, 144, 1)], [(some (.inl ((-2147483648), 2147483647)), [(77, 77), (0, 999)], [((78, 77, 1, 1), .inl (0, 999)), ((77, 0, 1, 1), .inl (0, 0))], 101)], 1, 21, 0, 0)
def ck_h249 : List ab_Hd := []
set_option maxRecDepth 100000 in
theorem ck_k249 (l : Launch) (D : va_G) (st : Nat → Nat) : ck_Mt gk_G l D st ck_c249 := ab_sound (tr := ck_tr2) (T := ck_T13) (cs := [ck_c191]) (hs := ck_h249) (sp := []) (fuel := 38) l ck_TSgood ck_okCl ck_okDt (M0 := ck_m182) rfl ck_okT13 (ck_cons (ck_k191 l D st) ck_nil) (by decide +kernel)
/-- SLModel.replaces -/
def ck_c250 : ab_C := (182, 101, [.inr (0, 77), .inl (78, 78), .inl (0, 999)], [((77, 1, 1, 1), .inr (0, 78))], [(77, 0, 1, 1), (78, 78, 144, 1)], [(some (.inl ((-2147483648), 2147483647)), [(78, 78), (0, 999)], [((78, 78, 1, 1), .inl (0, 999)), ((77, 0, 1, 1), .inl (0, 0))], 101)], 1, 21, 0, 0)
def ck_h250 : List ab_Hd := []
set_option maxRecDepth 100000 in
theorem ck_k250 (l : Launch) (D : va_G) (st : Nat → Nat) : ck_Mt gk_G l D st ck_c250 := ab_sound (tr := ck_tr2) (T := ck_T13) (cs := [ck_c191]) (hs := ck_h250) (sp := []) (fuel := 38) l ck_TSgood ck_okCl ck_okDt (M0 := ck_m182) rfl ck_okT13 (ck_cons (ck_k191 l D st) ck_nil) (by decide +kernel)
/-- SLModel.replaces -/
def ck_c251 : ab_C := (182, 101, [.inr (0, 77), .inl (79, 79), .inl (0, 999)], [((77, 1, 1, 1), .inr (0, 78))], [(77, 0, 1, 1), (78, 79, 144, 1)], [(some (.inl ((-2147483648), 2147483647)), [(79, 79), (0, 999)], [((78, 79, 1, 1), .inl (0, 999)), ((77, 0, 1, 1), .inl (0, 0))], 101)], 1, 21, 0, 0)
def ck_h251 : List ab_Hd := []
set_option maxRecDepth 100000 in
theorem ck_k251 (l : Launch) (D : va_G) (st : Nat → Nat) : ck_Mt gk_G l D st ck_c251 := ab_sound (tr := ck_tr2) (T := ck_T13) (cs := [ck_c191]) (hs := ck_h251) (sp := []) (fuel := 38) l ck_TSgood ck_okCl ck_okDt (M0 := ck_m182) rfl ck_okT13 (ck_cons (ck_k191 l D st) ck_nil) (by decide +kernel)
/-- SLModel.replaces -/
def ck_c252 : ab_C := (182, 101, [.inr (0, 77), .inl (84, 84), .inl (0, 999)], [((77, 1, 1, 1), .inr (0, 78))], [(77, 0, 1, 1), (78, 84, 144, 1)], [(some (.inl ((-2147483648), 2147483647)), [(84, 84), (0, 999)], [((78, 84, 1, 1), .inl (0, 999)), ((77, 0, 1, 1), .inl (0, 0))], 101)], 1, 21, 0, 0)
def ck_h252 : List ab_Hd := []
set_option maxRecDepth 100000 in
theorem ck_k252 (l : Launch) (D : va_G) (st : Nat → Nat) : ck_Mt gk_G l D st ck_c252 := ab_sound (tr := ck_tr2) (T := ck_T13) (cs := [ck_c191]) (hs := ck_h252) (sp := []) (fuel := 38) l ck_TSgood ck_okCl ck_okDt (M0 := ck_m182) rfl ck_okT13 (ck_cons (ck_k191 l D st) ck_nil) (by decide +kernel)
/-- SLModel.replaces -/
def ck_c253 : ab_C := (182, 101, [.inr (0, 77), .inl (85, 85), .inl (0, 999)], [((77, 1, 1, 1), .inr (0, 78))], [(77, 0, 1, 1), (78, 85, 144, 1)], [(some (.inl ((-2147483648), 2147483647)), [(85, 85), (0, 999)], [((78, 85, 1, 1), .inl (0, 999)), ((77, 0, 1, 1), .inl (0, 0))], 101)], 1, 21, 0, 0)
def ck_h253 : List ab_Hd := []
set_option maxRecDepth 100000 in
theorem ck_k253 (l : Launch) (D : va_G) (st : Nat → Nat) : ck_Mt gk_G l D st ck_c253 := ab_sound (tr := ck_tr2) (T := ck_T13) (cs := [ck_c191]) (hs := ck_h253) (sp := []) (fuel := 38) l ck_TSgood ck_okCl ck_okDt (M0 := ck_m182) rfl ck_okT13 (ck_cons (ck_k191 l D st) ck_nil) (by decide +kernel)
/-- SLModel.replaces -/
def ck_c254 : ab_C := (182, 101, [.inr (0, 77), .inl (86, 86), .inl (0, 999)], [((77, 1, 1, 1), .inr (0, 78))], [(77, 0, 1, 1), (78, 86, 144, 1)], [(some (.inl ((-2147483648), 2147483647)), [(86, 86), (0, 999)], [((78, 86, 1, 1), .inl (0, 999)), ((77, 0, 1, 1), .inl (0, 0))], 101)], 1, 21, 0, 0)
def ck_h254 : List ab_Hd := []
set_option maxRecDepth 100000 in
theorem ck_k254 (l : Launch) (D : va_G) (st : Nat → Nat) : ck_Mt gk_G l D st ck_c254 := ab_sound (tr := ck_tr2) (T := ck_T13) (cs := [ck_c191]) (hs := ck_h254) (sp := []) (fuel := 38) l ck_TSgood ck_okCl ck_okDt (M0 := ck_m182) rfl ck_okT13 (ck_cons (ck_k191 l D st) ck_nil) (by decide +kernel)
/-- SLModel.replaces -/
def ck_c255 : ab_C := (182, 101, [.inr (0, 77), .inl (87, 87), .inl (0, 999)], [((77, 1, 1, 1), .inr (0, 78))], [(77, 0, 1, 1), (78, 87, 144, 1)], [(some (.inl ((-2147483648), 2147483647)), [(87, 87), (0, 999)], [((78, 87, 1, 1), .inl (0, 999)), ((77, 0, 1, 1), .inl (0, 0))], 101)], 1, 21, 0, 0)
def ck_h255 : List ab_Hd := []
set_option maxRecDepth 100000 in
theorem ck_k255 (l : Launch) (D : va_G) (st : Nat → Nat) : ck_Mt gk_G l D st ck_c255 := ab_sound (tr := ck_tr2) (T := ck_T13) (cs := [ck_c191]) (hs := ck_h255) (sp := []) (fuel := 38) l ck_TSgood ck_okCl ck_okDt (M0 := ck_m182) rfl ck_okT13 (ck_cons (ck_k191 l D st) ck_nil) (by decide +kernel)
/-- SLModel.replaces -/
def ck_c256 : ab_C := (182, 101, [.inr (0, 77), .inl (88, 88), .inl (0, 999)], [((77, 1, 1, 1), .inr (0, 78))], [(77, 0, 1, 1), (78, 88, 144, 1)], [(some (.inl ((-2147483648), 2147483647)), [(88, 88), (0, 999)], [((78, 88, 1, 1), .inl (0, 999)), ((77, 0, 1, 1), .inl (0, 0))], 101)], 1, 21, 0, 0)
def ck_h256 : List ab_Hd := []
set_option maxRecDepth 100000 in
theorem ck_k256 (l : Launch) (D : va_G) (st : Nat → Nat) : ck_Mt gk_G l D st ck_c256 := ab_sound (tr := ck_tr2) (T := ck_T13) (cs := [ck_c191]) (hs := ck_h256) (sp := []) (fuel := 38) l ck_TSgood ck_okCl ck_okDt (M0 := ck_m182) rfl ck_okT13 (ck_cons (ck_k191 l D st) ck_nil) (by decide +kernel)
/-- SLModel.replaces -/
def ck_c257 : ab_C := (182, 101, [.inr (0, 77), .inl (89, 89), .inl (0, 999)], [((77, 1, 1, 1), .inr (0, 78))], [(77, 0, 1, 1), (78, 89, 144, 1)], [(some (.inl ((-2147483648), 2147483647)), [(89, 89), (0, 999)], [((78, 89, 1, 1), .inl (0, 999)), ((77, 0, 1, 1), .inl (0, 0))], 101)], 1, 21, 0, 0)
def ck_h257 : List ab_Hd := []
set_option maxRecDepth 100000 in
theorem ck_k257 (l : Launch) (D : va_G) (st : Nat → Nat) : ck_Mt gk_G l D st ck_c257 := ab_sound (tr := ck_tr2) (T := ck_T13) (cs := [ck_c191]) (hs := ck_h257) (sp := []) (fuel := 38) l ck_TSgood ck_okCl ck_okDt (M0 := ck_m182) rfl ck_okT13 (ck_cons (ck_k191 l D st) ck_nil) (by decide +kernel)
/-- SLModel.replaces -/
def ck_c258 : ab_C := (182, 101, [.inr (0, 77), .inl (90, 90), .inl (0, 999)], [((77, 1, 1, 1), .inr (0, 78))], [(77, 0, 1, 1), (78, 90, 144, 1)], [(some (.inl ((-2147483648), 2147483647)), [(90, 90), (0, 999)], [((78, 90, 1, 1), .inl (0, 999)), ((77, 0, 1, 1), .inl (0, 0))], 101)], 1, 21, 0, 0)
def ck_h258 : List ab_Hd := []
set_option maxRecDepth 100000 in
theorem ck_k258 (l : Launch) (D : va_G) (st : Nat → Nat) : ck_Mt gk_G l D st ck_c258 := ab_sound (tr := ck_tr2) (T := ck_T13) (cs := [ck_c191]) (hs := ck_h258) (sp := []) (fuel := 38) l ck_TSgood ck_okCl ck_okDt (M0 := ck_m182) rfl ck_okT13 (ck_cons (ck_k191 l D st) ck_nil) (by decide +kernel)
/-- SLModel.replaces -/
def ck_c259 : ab_C := (182, 101, [.inr (0, 77), .inl (91, 91), .inl (0, 999)], [((77, 1, 1, 1), .inr (0, 78))], [(77, 0, 1, 1), (78, 91, 144, 1)], [(some (.inl ((-2147483648), 2147483647)), [(91, 91), (0, 999)], [((78, 91, 1, 1), .inl (0, 999)), ((77, 0, 1, 1), .inl (0, 0))], 101)], 1, 21, 0, 0)
def ck_h259 : List ab_Hd := []
set_option maxRecDepth 100000 in
theorem ck_k259 (l : Launch) (D : va_G) (st : Nat → Nat) : ck_Mt gk_G l D st ck_c259 := ab_sound (tr := ck_tr2) (T := ck_T13) (cs := [ck_c191]) (hs := ck_h259) (sp := []) (fuel := 38) l ck_TSgood ck_okCl ck_okDt (M0 := ck_m182) rfl ck_okT13 (ck_cons (ck_k191 l D st) ck_nil) (by decide +kernel)
/-- SLModel.replaces -/
def ck_c260 : ab_C := (182, 101, [.inr (0, 77), .inl (92, 92), .inl (0, 999)], [((77, 1, 1, 1), .inr (0, 78))], [(77, 0, 1, 1), (78, 92, 144, 1)], [(some (.inl ((-2147483648), 2147483647)), [(92, 92), (0, 999)], [((78, 92, 1, 1), .inl (0, 999)), ((77, 0, 1, 1), .inl (0, 0))], 101)], 1, 21, 0, 0)
def ck_h260 : List ab_Hd := []
set_option maxRecDepth 100000 in
theorem ck_k260 (l : Launch) (D : va_G) (st : Nat → Nat) : ck_Mt gk_G l D st ck_c260 := ab_sound (tr := ck_tr2) (T := ck_T13) (cs := [ck_c191]) (hs := ck_h260) (sp := []) (fuel := 38) l ck_TSgood ck_okCl ck_okDt (M0 := ck_m182) rfl ck_okT13 (ck_cons (ck_k191 l D st) ck_nil) (by decide +kernel)
/-- SLModel.replaces -/
def ck_c261 : ab_C := (182, 101, [.inr (0, 77), .inl (93, 93), .inl (0, 999)], [((77, 1, 1, 1), .inr (0, 78))], [(77, 0, 1, 1), (78, 93, 144, 1)], [(some (.inl ((-2147483648), 2147483647)), [(93, 93), (0, 999)], [((78, 93, 1, 1), .inl (0, 999)), ((77, 0, 1, 1), .inl (0, 0))], 101)], 1, 21, 0, 0)
def ck_h261 : List ab_Hd := []
set_option maxRecDepth 100000 in
theorem ck_k261 (l : Launch) (D : va_G) (st : Nat → Nat) : ck_Mt gk_G l D st ck_c261 := ab_sound (tr := ck_tr2) (T := ck_T13) (cs := [ck_c191]) (hs := ck_h261) (sp := []) (fuel := 38) l ck_TSgood ck_okCl ck_okDt (M0 := ck_m182) rfl ck_okT13 (ck_cons (ck_k191 l D st) ck_nil) (by decide +kernel)
/-- SLModel.replaces -/
def ck_c262 : ab_C := (182, 101, [.inr (0, 77), .inl (94, 94), .inl (0, 999)], [((77, 1, 1, 1), .inr (0, 78))], [(77, 0, 1, 1), (78, 94, 144, 1)], [(some (.inl ((-2147483648), 2147483647)), [(94, 94), (0, 999)], [((78, 94, 1, 1), .inl (0, 999)), ((77, 0, 1, 1), .inl (0, 0))], 101)], 1, 21, 0, 0)
def ck_h262 : List ab_Hd := []
set_option maxRecDepth 100000 in
theorem ck_k262 (l : Launch) (D : va_G) (st : Nat → Nat) : ck_Mt gk_G l D st ck_c262 := ab_sound (tr := ck_tr2) (T := ck_T13) (cs := [ck_c191]) (hs := ck_h262) (sp := []) (fuel := 38) l ck_TSgood ck_okCl ck_okDt (M0 := ck_m182) rfl ck_okT13 (ck_cons (ck_k191 l D st) ck_nil) (by decide +kernel)
/-- SLModel.replaces -/
def ck_c263 : ab_C := (182, 101, [.inr (0, 77), .inl (95, 95), .inl (0, 999)], [((77, 1, 1, 1), .inr (0, 78))], [(77, 0, 1, 1), (78, 95, 144, 1)], [(some (.inl ((-2147483648), 2147483647)), [(95, 95), (0, 999)], [((78, 95, 1, 1), .inl (0, 999)), ((77, 0, 1, 1), .inl (0, 0))], 101)], 1, 21, 0, 0)
def ck_h263 : List ab_Hd := []
set_option maxRecDepth 100000 in
theorem ck_k263 (l : Launch) (D : va_G) (st : Nat → Nat) : ck_Mt gk_G l D st ck_c263 := ab_sound (tr := ck_tr2) (T := ck_T13) (cs := [ck_c191]) (hs := ck_h263) (sp := []) (fuel := 38) l ck_TSgood ck_okCl ck_okDt (M0 := ck_m182) rfl ck_okT13 (ck_cons (ck_k191 l D st) ck_nil) (by decide +kernel)
/-- SLModel.replaces -/
def ck_c264 : ab_C := (182, 101, [.inr (0, 77), .inl (100, 100), .inl (0, 999)], [((77, 1, 1, 1), .inr (0, 78))], [(77, 0, 1, 1), (78, 100, 144, 1)], [(some (.inl ((-2147483648), 2147483647)), [(100, 100), (0, 999)], [((78, 100, 1, 1), .inl (0, 999)), ((77, 0, 1, 1), .inl (0, 0))], 101)], 1, 21, 0, 0)
def ck_h264 : List ab_Hd := []
set_option maxRecDepth 100000 in
theorem ck_k264 (l : Launch) (D : va_G) (st : Nat → Nat) : ck_Mt gk_G l D st ck_c264 := ab_sound (tr := ck_tr2) (T := ck_T13) (cs := [ck_c191]) (hs := ck_h264) (sp := []) (fuel := 38) l ck_TSgood ck_okCl ck_okDt (M0 := ck_m182) rfl ck_okT13 (ck_cons (ck_k191 l D st) ck_nil) (by decide +kernel)
/-- SLModel.replaces -/
def ck_c265 : ab_C := (182, 101, [.inr (0, 77), .inl (101, 101), .inl (0, 999)], [((77, 1, 1, 1), .inr (0, 78))], [(77, 0, 1, 1), (78, 101, 144, 1)], [(some (.inl ((-2147483648), 2147483647)), [(101, 101), (0, 999)], [((78, 101, 1, 1), .inl (0, 999)), ((77, 0, 1, 1), .inl (0, 0))], 101)], 1, 21, 0, 0)
def ck_h265 : List ab_Hd := []
set_option maxRecDepth 100000 in
theorem ck_k265 (l : Launch) (D : va_G) (st : Nat → Nat) : ck_Mt gk_G l D st ck_c265 := ab_sound (tr := ck_tr2) (T := ck_T13) (cs := [ck_c191]) (hs := ck_h265) (sp := []) (fuel := 38) l ck_TSgood ck_okCl ck_okDt (M0 := ck_m182) rfl ck_okT13 (ck_cons (ck_k191 l D st) ck_nil) (by decide +kernel)
/-- SLModel.replaces -/
def ck_c266 : ab_C := (182, 101, [.inr (0, 77), .inl (102, 102), .inl (0, 999)], [((77, 1, 1, 1), .inr (0, 78))], [(77, 0, 1, 1), (78, 102, 144, 1)], [(some (.inl ((-2147483648), 2147483647)), [(102, 102), (0, 999)], [((78, 102, 1, 1), .inl (0, 999)), ((77, 0, 1, 1), .inl (0, 0))], 101)], 1, 21, 0, 0)
def ck_h266 : List ab_Hd := []
set_option maxRecDepth 100000 in
theorem ck_k266 (l : Launch) (D : va_G) (st : Nat → Nat) : ck_Mt gk_G l D st ck_c266 := ab_sound (tr := ck_tr2) (T := ck_T13) (cs := [ck_c191]) (hs := ck_h266) (sp := []) (fuel := 38) l ck_TSgood ck_okCl ck_okDt (M0 := ck_m182) rfl ck_okT13 (ck_cons (ck_k191 l D st) ck_nil) (by decide +kernel)
/-- SLModel.replaces -/
def ck_c267 : ab_C := (182, 101, [.inr (0, 77), .inl (103, 103), .inl (0, 999)], [((77, 1, 1, 1), .inr (0, 78))], [(77, 0, 1, 1), (78, 103, 144, 1)], [(some (.inl ((-2147483648), 2147483647)), [(103, 103), (0, 999)], [((78, 103, 1, 1), .inl (0, 999)), ((77, 0, 1, 1), .inl (0, 0))], 101)], 1, 21, 0, 0)
def ck_h267 : List ab_Hd := []
set_option maxRecDepth 100000 in
theorem ck_k267 (l : Launch) (D : va_G) (st : Nat → Nat) : ck_Mt gk_G l D st ck_c267 := ab_sound (tr := ck_tr2) (T := ck_T13) (cs := [ck_c191]) (hs := ck_h267) (sp := []) (fuel := 38) l ck_TSgood ck_okCl ck_okDt (M0 := ck_m182) rfl ck_okT13 (ck_cons (ck_k191 l D st) ck_nil) (by decide +kernel)
/-- SLModel.replaces -/
def ck_c268 : ab_C := (182, 101, [.inr (0, 77), .inl (104, 104), .inl (0, 999)], [((77, 1, 1, 1), .inr (0, 78))], [(77, 0, 1, 1), (78, 104, 144, 1)], [(some (.inl ((-2147483648), 2147483647)), [(104, 104), (0, 999)], [((78, 104, 1, 1), .inl (0, 999)), ((77, 0, 1, 1), .inl (0, 0))], 101)], 1, 21, 0, 0)
def ck_h268 : List ab_Hd := []
set_option maxRecDepth 100000 in
theorem ck_k268 (l : Launch) (D : va_G) (st : Nat → Nat) : ck_Mt gk_G l D st ck_c268 := ab_sound (tr := ck_tr2) (T := ck_T13) (cs := [ck_c191]) (hs := ck_h268) (sp := []) (fuel := 38) l ck_TSgood ck_okCl ck_okDt (M0 := ck_m182) rfl ck_okT13 (ck_cons (ck_k191 l D st) ck_nil) (by decide +kernel)
/-- SLModel.replaces -/
def ck_c269 : ab_C := (182, 101, [.inr (0, 77), .inl (105, 105), .inl (0, 999)], [((77, 1, 1, 1), .inr (0, 78))], [(77, 0, 1, 1), (78, 105, 144, 1)], [(some (.inl ((-2147483648), 2147483647)), [(105, 105), (0, 999)], [((78, 105, 1, 1), .inl (0, 999)), ((77, 0, 1, 1), .inl (0, 0))], 101)], 1, 21, 0, 0)
def ck_h269 : List ab_Hd := []
set_option maxRecDepth 100000 in
theorem ck_k269 (l : Launch) (D : va_G) (st : Nat → Nat) : ck_Mt gk_G l D st ck_c269 := ab_sound (tr := ck_tr2) (T := ck_T13) (cs := [ck_c191]) (hs := ck_h269) (sp := []) (fuel := 38) l ck_TSgood ck_okCl ck_okDt (M0 := ck_m182) rfl ck_okT13 (ck_cons (ck_k191 l D st) ck_nil) (by decide +kernel)
/-- SLModel.replaces -/
def ck_c270 : ab_C := (182, 101, [.inr (0, 77), .inl (106, 106), .inl (0, 999)], [((77, 1, 1, 1), .inr (0, 78))], [(77, 0, 1, 1), (78, 106, 144, 1)], [(some (.inl ((-2147483648), 2147483647)), [(106, 106), (0, 999)], [((78, 106, 1, 1), .inl (0, 999)), ((77, 0, 1, 1), .inl (0, 0))], 101)], 1, 21, 0, 0)
def ck_h270 : List ab_Hd := []
set_option maxRecDepth 100000 in
theorem ck_k270 (l : Launch) (D : va_G) (st : Nat → Nat) : ck_Mt gk_G l D st ck_c270 := ab_sound (tr := ck_tr2) (T := ck_T13) (cs := [ck_c191]) (hs := ck_h270) (sp := []) (fuel := 38) l ck_TSgood ck_okCl ck_okDt (M0 := ck_m182) rfl ck_okT13 (ck_cons (ck_k191 l D st) ck_nil) (by decide +kernel)
/-- SLModel.replaces -/
def ck_c271 : ab_C := (182, 101, [.inr (0, 77), .inl (107, 107), .inl (0, 999)], [((77, 1, 1, 1), .inr (0, 78))], [(77, 0, 1, 1), (78, 107, 144, 1)], [(some (.inl ((-2147483648), 2147483647)), [(107, 107), (0, 999)], [((78, 107, 1, 1), .inl (0, 999)), ((77, 0, 1, 1), .inl (0, 0))], 101)], 1, 21, 0, 0)
def ck_h271 : List ab_Hd := []
set_option maxRecDepth 100000 in
theorem ck_k271 (l : Launch) (D : va_G) (st : Nat → Nat) : ck_Mt gk_G l D st ck_c271 := ab_sound (tr := ck_tr2) (T := ck_T13) (cs := [ck_c191]) (hs := ck_h271) (sp := []) (fuel := 38) l ck_TSgood ck_okCl ck_okDt (M0 := ck_m182) rfl ck_okT13 (ck_cons (ck_k191 l D st) ck_nil) (by decide +kernel)
/-- SLModel.replaces -/
def ck_c272 : ab_C := (182, 101, [.inr (0, 77), .inl (108, 108), .inl (0, 999)], [((77, 1, 1, 1), .inr (0, 78))], [(77, 0, 1, 1), (78, 108, 144, 1)], [(some (.inl ((-2147483648), 2147483647)), [(108, 108), (0, 999)], [((78, 108, 1, 1), .inl (0, 999)), ((77, 0, 1, 1), .inl (0, 0))], 101)], 1, 21, 0, 0)
def ck_h272 : List ab_Hd := []
set_option maxRecDepth 100000 in
theorem ck_k272 (l : Launch) (D : va_G) (st : Nat → Nat) : ck_Mt gk_G l D st ck_c272 := ab_sound (tr := ck_tr2) (T := ck_T13) (cs := [ck_c191]) (hs := ck_h272) (sp := []) (fuel := 38) l ck_TSgood ck_okCl ck_okDt (M0 := ck_m182) rfl ck_okT13 (ck_cons (ck_k191 l D st) ck_nil) (by decide +kernel)
/-- SLModel.replaces -/
def ck_c273 : ab_C := (182, 101, [.inr (0, 77), .inl (109, 109), .inl (0, 999)], [((77, 1, 1, 1), .inr (0, 78))], [(77, 0, 1, 1), (78, 109, 144, 1)], [(some (.inl ((-2147483648), 2147483647)), [(109, 109), (0, 999)], [((78, 109, 1, 1), .inl (0, 999)), ((77, 0, 1, 1), .inl (0, 0))], 101)], 1, 21, 0, 0)
def ck_h273 : List ab_Hd := []
set_option maxRecDepth 100000 in
theorem ck_k273 (l : Launch) (D : va_G) (st : Nat → Nat) : ck_Mt gk_G l D st ck_c273 := ab_sound (tr := ck_tr2) (T := ck_T13) (cs := [ck_c191]) (hs := ck_h273) (sp := []) (fuel := 38) l ck_TSgood ck_okCl ck_okDt (M0 := ck_m182) rfl ck_okT13 (ck_cons (ck_k191 l D st) ck_nil) (by decide +kernel)
/-- SLModel.replaces -/
def ck_c274 : ab_C := (182, 101, [.inr (0, 77), .inl (110, 110), .inl (0, 999)], [((77, 1, 1, 1), .inr (0, 78))], [(77, 0, 1, 1), (78, 110, 144, 1)], [(some (.inl ((-2147483648), 2147483647)), [(110, 110), (0, 999)], [((78, 110, 1, 1), .inl (0, 999)), ((77, 0, 1, 1), .inl (0, 0))], 101)], 1, 21, 0, 0)
def ck_h274 : List ab_Hd := []
set_option maxRecDepth 100000 in
theorem ck_k274 (l : Launch) (D : va_G) (st : Nat → Nat) : ck_Mt gk_G l D st ck_c274 := ab_sound (tr := ck_tr2) (T := ck_T13) (cs := [ck_c191]) (hs := ck_h274) (sp := []) (fuel := 38) l ck_TSgood ck_okCl ck_okDt (M0 := ck_m182) rfl ck_okT13 (ck_cons (ck_k191 l D st) ck_nil) (by decide +kernel)
/-- SLModel.replaces -/
def ck_c275 : ab_C := (182, 101, [.inr (0, 77), .inl (111, 111), .inl (0, 999)], [((77, 1, 1, 1), .inr (0, 78))], [(77, 0, 1, 1), (78, 111, 144, 1)], [(some (.inl ((-2147483648), 2147483647)), [(111, 111), (0, 999)], [((78, 111, 1, 1), .inl (0, 999)), ((77, 0, 1, 1), .inl (0, 0))], 101)], 1, 21, 0, 0)
def ck_h275 : List ab_Hd := []
set_option maxRecDepth 100000 in
theorem ck_k275 (l : Launch) (D : va_G) (st : Nat → Nat) : ck_Mt gk_G l D st ck_c275 := ab_sound (tr := ck_tr2) (T := ck_T13) (cs := [ck_c191]) (hs := ck_h275) (sp := []) (fuel := 38) l ck_TSgood ck_okCl ck_okDt (M0 := ck_m182) rfl ck_okT13 (ck_cons (ck_k191 l D st) ck_nil) (by decide +kernel)
/-- SLModel.replaces -/
def ck_c276 : ab_C := (182, 101, [.inr (0, 77), .inl (116, 116), .inl (0, 999)], [((77, 1, 1, 1), .inr (0, 78))], [(77, 0, 1, 1), (78, 116, 144, 1)], [(some (.inl ((-2147483648), 2147483647)), [(116, 116), (0, 999)], [((78, 116, 1, 1), .inl (0, 999)), ((77, 0, 1, 1), .inl (0, 0))], 101)], 1, 21, 0, 0)
def ck_h276 : List ab_Hd := []
set_option maxRecDepth 100000 in
theorem ck_k276 (l : Launch) (D : va_G) (st : Nat → Nat) : ck_Mt gk_G l D st ck_c276 := ab_sound (tr := ck_tr2) (T := ck_T13) (cs := [ck_c191]) (hs := ck_h276) (sp := []) (fuel := 38) l ck_TSgood ck_okCl ck_okDt (M0 := ck_m182) rfl ck_okT13 (ck_cons (ck_k191 l D st) ck_nil) (by decide +kernel)
/-- SLModel.replaces -/
def ck_c277 : ab_C := (182, 101, [.inr (0, 77), .inl (117, 117), .inl (0, 999)], [((77, 1, 1, 1), .inr (0, 78))], [(77, 0, 1, 1), (78, 117, 144, 1)], [(some (.inl ((-2147483648), 2147483647)), [(117, 117), (0, 999)], [((78, 117, 1, 1), .inl (0, 999)), ((77, 0, 1, 1), .inl (0, 0))], 101)], 1, 21, 0, 0)
def ck_h277 : List ab_Hd := []
set_option maxRecDepth 100000 in
theorem ck_k277 (l : Launch) (D : va_G) (st : Nat → Nat) : ck_Mt gk_G l D st ck_c277 := ab_sound (tr := ck_tr2) (T := ck_T13) (cs := [ck_c191]) (hs := ck_h277) (sp := []) (fuel := 38) l ck_TSgood ck_okCl ck_okDt (M0 := ck_m182) rfl ck_okT13 (ck_cons (ck_k191 l D st) ck_nil) (by decide +kernel)
/-- SLModel.replaces -/
def ck_c278 : ab_C := (182, 101, [.inr (0, 77), .inl (118, 118), .inl (0, 999)], [((77, 1, 1, 1), .inr (0, 78))], [(77, 0, 1, 1), (78, 118, 144, 1)], [(some (.inl ((-2147483648), 2147483647)), [(118, 118), (0, 999)], [((78, 118, 1, 1), .inl (0, 999)), ((77, 0, 1, 1), .inl (0, 0))], 101)], 1, 21, 0, 0)
def ck_h278 : List ab_Hd := []
set_option maxRecDepth 100000 in
theorem ck_k278 (l : Launch) (D : va_G) (st : Nat → Nat) : ck_Mt gk_G l D st ck_c278 := ab_sound (tr := ck_tr2) (T := ck_T13) (cs := [ck_c191]) (hs := ck_h278) (sp := []) (fuel := 38) l ck_TSgood ck_okCl ck_okDt (M0 := ck_m182) rfl ck_okT13 (ck_cons (ck_k191 l D st) ck_nil) (by decide +kernel)
/-- SLModel.replaces -/
def ck_c279 : ab_C := (182, 101, [.inr (0, 77), .inl (119, 119), .inl (0, 999)], [((77, 1, 1, 1), .inr (0, 78))], [(77, 0, 1, 1), (78, 119, 144, 1)], [(some (.inl ((-2147483648), 2147483647)), [(119, 119), (0, 999)], [((78, 119, 1, 1), .inl (0, 999)), ((77, 0, 1, 1), .inl (0, 0))], 101)], 1, 21, 0, 0)
def ck_h279 : List ab_Hd := []
set_option maxRecDepth 100000 in
theorem ck_k279 (l : Launch) (D : va_G) (st : Nat → Nat) : ck_Mt gk_G l D st ck_c279 := ab_sound (tr := ck_tr2) (T := ck_T13) (cs := [ck_c191]) (hs := ck_h279) (sp := []) (fuel := 38) l ck_TSgood ck_okCl ck_okDt (M0 := ck_m182) rfl ck_okT13 (ck_cons (ck_k191 l D st) ck_nil) (by decide +kernel)
