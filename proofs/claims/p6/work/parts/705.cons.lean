/-- SLModel.replaces -/
def ck_c200 : ab_C := (182, 101, [.inr (0, 77), .inl (12, 12), .inl (0, 999)], [((77, 1, 1, 1), .inr (0, 78))], [(77, 0, 1, 1), (78, 12, 144, 1)], [(some (.inl ((-2147483648), 2147483647)), [(12, 12), (0, 999)], [((78, 12, 1, 1), .inl (0, 999)), ((77, 0, 1, 1), .inl (0, 0))], 101)], 1, 21, 0, 0)
def ck_h200 : List ab_Hd := []
set_option maxRecDepth 100000 in
theorem ck_k200 (l : Launch) (D : va_G) (st : Nat → Nat) : ck_Mt gk_G l D st ck_c200 := ab_sound (tr := ck_tr2) (T := ck_T13) (cs := [ck_c191]) (hs := ck_h200) (sp := []) (fuel := 38) l ck_TSgood ck_okCl ck_okDt (M0 := ck_m182) rfl ck_okT13 (ck_cons (ck_k191 l D st) ck_nil) (by decide +kernel)
/-- SLModel.replaces -/
def ck_c201 : ab_C := (182, 101, [.inr (0, 77), .inl (13, 13), .inl (0, 999)], [((77, 1, 1, 1), .inr (0, 78))], [(77, 0, 1, 1), (78, 13, 144, 1)], [(some (.inl ((-2147483648), 2147483647)), [(13, 13), (0, 999)], [((78, 13, 1, 1), .inl (0, 999)), ((77, 0, 1, 1), .inl (0, 0))], 101)], 1, 21, 0, 0)
def ck_h201 : List ab_Hd := []
set_option maxRecDepth 100000 in
theorem ck_k201 (l : Launch) (D : va_G) (st : Nat → Nat) : ck_Mt gk_G l D st ck_c201 := ab_sound (tr := ck_tr2) (T := ck_T13) (cs := [ck_c191]) (hs := ck_h201) (sp := []) (fuel := 38) l ck_TSgood ck_okCl ck_okDt (M0 := ck_m182) rfl ck_okT13 (ck_cons (ck_k191 l D st) ck_nil) (by decide +kernel)
/-- SLModel.replaces -/
def ck_c202 : ab_C := (182, 101, [.inr (0, 77), .inl (14, 14), .inl (0, 999)], [((77, 1, 1, 1), .inr (0, 78))], [(77, 0, 1, 1), (78, 14, 144, 1)], [(some (.inl ((-2147483648), 2147483647)), [(14, 14), (0, 999)], [((78, 14, 1, 1), .inl (0, 999)), ((77, 0, 1, 1), .inl (0, 0))], 101)], 1, 21, 0, 0)
def ck_h202 : List ab_Hd := []
set_option maxRecDepth 100000 in
theorem ck_k202 (l : Launch) (D : va_G) (st : Nat → Nat) : ck_Mt gk_G l D st ck_c202 := ab_sound (tr := ck_tr2) (T := ck_T13) (cs := [ck_c191]) (hs := ck_h202) (sp := []) (fuel := 38) l ck_TSgood ck_okCl ck_okDt (M0 := ck_m182) rfl ck_okT13 (ck_cons (ck_k191 l D st) ck_nil) (by decide +kernel)
/-- SLModel.replaces -/
def ck_c203 : ab_C := (182, 101, [.inr (0, 77), .inl (15, 15), .inl (0, 999)], [((77, 1, 1, 1), .inr (0, 78))], [(77, 0, 1, 1), (78, 15, 144, 1)], [(some (.inl ((-2147483648), 2147483647)), [(15, 15), (0, 999)], [((78, 15, 1, 1), .inl (0, 999)), ((77, 0, 1, 1), .inl (0, 0))], 101)], 1, 21, 0, 0)
def ck_h203 : List ab_Hd := []
set_option maxRecDepth 100000 in
theorem ck_k203 (l : Launch) (D : va_G) (st : Nat → Nat) : ck_Mt gk_G l D st ck_c203 := ab_sound (tr := ck_tr2) (T := ck_T13) (cs := [ck_c191]) (hs := ck_h203) (sp := []) (fuel := 38) l ck_TSgood ck_okCl ck_okDt (M0 := ck_m182) rfl ck_okT13 (ck_cons (ck_k191 l D st) ck_nil) (by decide +kernel)
/-- SLModel.replaces -/
def ck_c204 : ab_C := (182, 101, [.inr (0, 77), .inl (20, 20), .inl (0, 999)], [((77, 1, 1, 1), .inr (0, 78))], [(77, 0, 1, 1), (78, 20, 144, 1)], [(some (.inl ((-2147483648), 2147483647)), [(20, 20), (0, 999)], [((78, 20, 1, 1), .inl (0, 999)), ((77, 0, 1, 1), .inl (0, 0))], 101)], 1, 21, 0, 0)
def ck_h204 : List ab_Hd := []
set_option maxRecDepth 100000 in
theorem ck_k204 (l : Launch) (D : va_G) (st : Nat → Nat) : ck_Mt gk_G l D st ck_c204 := ab_sound (tr := ck_tr2) (T := ck_T13) (cs := [ck_c191]) (hs := ck_h204) (sp := []) (fuel := 38) l ck_TSgood ck_okCl ck_okDt (M0 := ck_m182) rfl ck_okT13 (ck_cons (ck_k191 l D st) ck_nil) (by decide +kernel)
/-- SLModel.replaces -/
def ck_c205 : ab_C := (182, 101, [.inr (0, 77), .inl (21, 21), .inl (0, 999)], [((77, 1, 1, 1), .inr (0, 78))], [(77, 0, 1, 1), (78, 21, 144, 1)], [(some (.inl ((-2147483648), 2147483647)), [(21, 21), (0, 999)], [((78, 21, 1, 1), .inl (0, 999)), ((77, 0, 1, 1), .inl (0, 0))], 101)], 1, 21, 0, 0)
def ck_h205 : List ab_Hd := []
set_option maxRecDepth 100000 in
theorem ck_k205 (l : Launch) (D : va_G) (st : Nat → Nat) : ck_Mt gk_G l D st ck_c205 := ab_sound (tr := ck_tr2) (T := ck_T13) (cs := [ck_c191]) (hs := ck_h205) (sp := []) (fuel := 38) l ck_TSgood ck_okCl ck_okDt (M0 := ck_m182) rfl ck_okT13 (ck_cons (ck_k191 l D st) ck_nil) (by decide +kernel)
/-- SLModel.replaces -/
def ck_c206 : ab_C := (182, 101, [.inr (0, 77), .inl (22, 22), .inl (0, 999)], [((77, 1, 1, 1), .inr (0, 78))], [(77, 0, 1, 1), (78, 22, 144, 1)], [(some (.inl ((-2147483648), 2147483647)), [(22, 22), (0, 999)], [((78, 22, 1, 1), .inl (0, 999)), ((77, 0, 1, 1), .inl (0, 0))], 101)], 1, 21, 0, 0)
def ck_h206 : List ab_Hd := []
set_option maxRecDepth 100000 in
theorem ck_k206 (l : Launch) (D : va_G) (st : Nat → Nat) : ck_Mt gk_G l D st ck_c206 := ab_sound (tr := ck_tr2) (T := ck_T13) (cs := [ck_c191]) (hs := ck_h206) (sp := []) (fuel := 38) l ck_TSgood ck_okCl ck_okDt (M0 := ck_m182) rfl ck_okT13 (ck_cons (ck_k191 l D st) ck_nil) (by decide +kernel)
/-- SLModel.replaces -/
def ck_c207 : ab_C := (182, 101, [.inr (0, 77), .inl (23, 23), .inl (0, 999)], [((77, 1, 1, 1), .inr (0, 78))], [(77, 0, 1, 1), (78, 23, 144, 1)], [(some (.inl ((-2147483648), 2147483647)), [(23, 23), (0, 999)], [((78, 23, 1, 1), .inl (0, 999)), ((77, 0, 1, 1), .inl (0, 0))], 101)], 1, 21, 0, 0)
def ck_h207 : List ab_Hd := []
set_option maxRecDepth 100000 in
theorem ck_k207 (l : Launch) (D : va_G) (st : Nat → Nat) : ck_Mt gk_G l D st ck_c207 := ab_sound (tr := ck_tr2) (T := ck_T13) (cs := [ck_c191]) (hs := ck_h207) (sp := []) (fuel := 38) l ck_TSgood ck_okCl ck_okDt (M0 := ck_m182) rfl ck_okT13 (ck_cons (ck_k191 l D st) ck_nil) (by decide +kernel)
/-- SLModel.replaces -/
def ck_c208 : ab_C := (182, 101, [.inr (0, 77), .inl (24, 24), .inl (0, 999)], [((77, 1, 1, 1), .inr (0, 78))], [(77, 0, 1, 1), (78, 24, 144, 1)], [(some (.inl ((-2147483648), 2147483647)), [(24, 24), (0, 999)], [((78, 24, 1, 1), .inl (0, 999)), ((77, 0, 1, 1), .inl (0, 0))], 101)], 1, 21, 0, 0)
def ck_h208 : List ab_Hd := []
set_option maxRecDepth 100000 in
theorem ck_k208 (l : Launch) (D : va_G) (st : Nat → Nat) : ck_Mt gk_G l D st ck_c208 := ab_sound (tr := ck_tr2) (T := ck_T13) (cs := [ck_c191]) (hs := ck_h208) (sp := []) (fuel := 38) l ck_TSgood ck_okCl ck_okDt (M0 := ck_m182) rfl ck_okT13 (ck_cons (ck_k191 l D st) ck_nil) (by decide +kernel)
/-- SLModel.replaces -/
def ck_c209 : ab_C := (182, 101, [.inr (0, 77), .inl (25, 25), .inl (0, 999)], [((77, 1, 1, 1), .inr (0, 78))], [(77, 0, 1, 1), (78, 25, 144, 1)], [(some (.inl ((-2147483648), 2147483647)), [(25, 25), (0, 999)], [((78, 25, 1, 1), .inl (0, 999)), ((77, 0, 1, 1), .inl (0, 0))], 101)], 1, 21, 0, 0)
def ck_h209 : List ab_Hd := []
set_option maxRecDepth 100000 in
theorem ck_k209 (l : Launch) (D : va_G) (st : Nat → Nat) : ck_Mt gk_G l D st ck_c209 := ab_sound (tr := ck_tr2) (T := ck_T13) (cs := [ck_c191]) (hs := ck_h209) (sp := []) (fuel := 38) l ck_TSgood ck_okCl ck_okDt (M0 := ck_m182) rfl ck_okT13 (ck_cons (ck_k191 l D st) ck_nil) (by decide +kernel)
/-- SLModel.replaces -/
def ck_c210 : ab_C := (182, 101, [.inr (0, 77), .inl (26, 26), .inl (0, 999)], [((77, 1, 1, 1), .inr (0, 78))], [(77, 0, 1, 1), (78, 26, 144, 1)], [(some (.inl ((-2147483648), 2147483647)), [(26, 26), (0, 999)], [((78, 26, 1, 1), .inl (0, 999)), ((77, 0, 1, 1), .inl (0, 0))], 101)], 1, 21, 0, 0)
def ck_h210 : List ab_Hd := []
set_option maxRecDepth 100000 in
theorem ck_k210 (l : Launch) (D : va_G) (st : Nat → Nat) : ck_Mt gk_G l D st ck_c210 := ab_sound (tr := ck_tr2) (T := ck_T13) (cs := [ck_c191]) (hs := ck_h210) (sp := []) (fuel := 38) l ck_TSgood ck_okCl ck_okDt (M0 := ck_m182) rfl ck_okT13 (ck_cons (ck_k191 l D st) ck_nil) (by decide +kernel)
/-- SLModel.replaces -/
def ck_c211 : ab_C := (182, 101, [.inr (0, 77), .inl (27, 27), .inl (0, 999)], [((77, 1, 1, 1), .inr (0, 78))], [(77, 0, 1, 1), (78, 27, 144, 1)], [(some (.inl ((-2147483648), 2147483647)), [(27, 27), (0, 999)], [((78, 27, 1, 1), .inl (0, 999)), ((77, 0, 1, 1), .inl (0, 0))], 101)], 1, 21, 0, 0)
def ck_h211 : List ab_Hd := []
set_option maxRecDepth 100000 in
theorem ck_k211 (l : Launch) (D : va_G) (st : Nat → Nat) : ck_Mt gk_G l D st ck_c211 := ab_sound (tr := ck_tr2) (T := ck_T13) (cs := [ck_c191]) (hs := ck_h211) (sp := []) (fuel := 38) l ck_TSgood ck_okCl ck_okDt (M0 := ck_m182) rfl ck_okT13 (ck_cons (ck_k191 l D st) ck_nil) (by decide +kernel)
/-- SLModel.replaces -/
def ck_c212 : ab_C := (182, 101, [.inr (0, 77), .inl (28, 28), .inl (0, 999)], [((77, 1, 1, 1), .inr (0, 78))], [(77, 0, 1, 1), (78, 28, 144, 1)], [(some (.inl ((-2147483648), 2147483647)), [(28, 28), (0, 999)], [((78, 28, 1, 1), .inl (0, 999)), ((77, 0, 1, 1), .inl (0, 0))], 101)], 1, 21, 0, 0)
def ck_h212 : List ab_Hd := []
set_option maxRecDepth 100000 in
theorem ck_k212 (l : Launch) (D : va_G) (st : Nat → Nat) : ck_Mt gk_G l D st ck_c212 := ab_sound (tr := ck_tr2) (T := ck_T13) (cs := [ck_c191]) (hs := ck_h212) (sp := []) (fuel := 38) l ck_TSgood ck_okCl ck_okDt (M0 := ck_m182) rfl ck_okT13 (ck_cons (ck_k191 l D st) ck_nil) (by decide +kernel)
/-- SLModel.replaces -/
def ck_c213 : ab_C := (182, 101, [.inr (0, 77), .inl (29, 29), .inl (0, 999)], [((77, 1, 1, 1), .inr (0, 78))], [(77, 0, 1, 1), (78, 29, 144, 1)], [(some (.inl ((-2147483648), 2147483647)), [(29, 29), (0, 999)], [((78, 29, 1, 1), .inl (0, 999)), ((77, 0, 1, 1), .inl (0, 0))], 101)], 1, 21, 0, 0)
def ck_h213 : List ab_Hd := []
set_option maxRecDepth 100000 in
theorem ck_k213 (l : Launch) (D : va_G) (st : Nat → Nat) : ck_Mt gk_G l D st ck_c213 := ab_sound (tr := ck_tr2) (T := ck_T13) (cs := [ck_c191]) (hs := ck_h213) (sp := []) (fuel := 38) l ck_TSgood ck_okCl ck_okDt (M0 := ck_m182) rfl ck_okT13 (ck_cons (ck_k191 l D st) ck_nil) (by decide +kernel)
/-- SLModel.replaces -/
def ck_c214 : ab_C := (182, 101, [.inr (0, 77), .inl (30, 30), .inl (0, 999)], [((77, 1, 1, 1), .inr (0, 78))], [(77, 0, 1, 1), (78, 30, 144, 1)], [(some (.inl ((-2147483648), 2147483647)), [(30, 30), (0, 999)], [((78, 30, 1, 1), .inl (0, 999)), ((77, 0, 1, 1), .inl (0, 0))], 101)], 1, 21, 0, 0)
def ck_h214 : List ab_Hd := []
set_option maxRecDepth 100000 in
theorem ck_k214 (l : Launch) (D : va_G) (st : Nat → Nat) : ck_Mt gk_G l D st ck_c214 := ab_sound (tr := ck_tr2) (T := ck_T13) (cs := [ck_c191]) (hs := ck_h214) (sp := []) (fuel := 38) l ck_TSgood ck_okCl ck_okDt (M0 := ck_m182) rfl ck_okT13 (ck_cons (ck_k191 l D st) ck_nil) (by decide +kernel)
/-- SLModel.replaces -/
def ck_c215 : ab_C := (182, 101, [.inr (0, 77), .inl (31, 31), .inl (0, 999)], [((77, 1, 1, 1), .inr (0, 78))], [(77, 0, 1, 1), (78, 31, 144, 1)], [(some (.inl ((-2147483648), 2147483647)), [(31, 31), (0, 999)], [((78, 31, 1, 1), .inl (0, 999)), ((77, 0, 1, 1), .inl (0, 0))], 101)], 1, 21, 0, 0)
def ck_h215 : List ab_Hd := []
set_option maxRecDepth 100000 in
theorem ck_k215 (l : Launch) (D : va_G) (st : Nat → Nat) : ck_Mt gk_G l D st ck_c215 := ab_sound (tr := ck_tr2) (T := ck_T13) (cs := [ck_c191]) (hs := ck_h215) (sp := []) (fuel := 38) l ck_TSgood ck_okCl ck_okDt (M0 := ck_m182) rfl ck_okT13 (ck_cons (ck_k191 l D st) ck_nil) (by decide +kernel)
/-- SLModel.replaces -/
def ck_c216 : ab_C := (182, 101, [.inr (0, 77), .inl (36, 36), .inl (0, 999)], [((77, 1, 1, 1), .inr (0, 78))], [(77, 0, 1, 1), (78, 36, 144, 1)], [(some (.inl ((-2147483648), 2147483647)), [(36, 36), (0, 999)], [((78, 36, 1, 1), .inl (0, 999)), ((77, 0, 1, 1), .inl (0, 0))], 101)], 1, 21, 0, 0)
def ck_h216 : List ab_Hd := []
set_option maxRecDepth 100000 in
theorem ck_k216 (l : Launch) (D : va_G) (st : Nat → Nat) : ck_Mt gk_G l D st ck_c216 := ab_sound (tr := ck_tr2) (T := ck_T13) (cs := [ck_c191]) (hs := ck_h216) (sp := []) (fuel := 38) l ck_TSgood ck_okCl ck_okDt (M0 := ck_m182) rfl ck_okT13 (ck_cons (ck_k191 l D st) ck_nil) (by decide +kernel)
/-- SLModel.replaces -/
def ck_c217 : ab_C := (182, 101, [.inr (0, 77), .inl (37, 37), .inl (0, 999)], [((77, 1, 1, 1), .inr (0, 78))], [(77, 0, 1, 1), (78, 37, 144, 1)], [(some (.inl ((-2147483648), 2147483647)), [(37, 37), (0, 999)], [((78, 37, 1, 1), .inl (0, 999)), ((77, 0, 1, 1), .inl (0, 0))], 101)], 1, 21, 0, 0)
def ck_h217 : List ab_Hd := []
set_option maxRecDepth 100000 in
theorem ck_k217 (l : Launch) (D : va_G) (st : Nat → Nat) : ck_Mt gk_G l D st ck_c217 := ab_sound (tr := ck_tr2) (T := ck_T13) (cs := [ck_c191]) (hs := ck_h217) (sp := []) (fuel := 38) l ck_TSgood ck_okCl ck_okDt (M0 := ck_m182) rfl ck_okT13 (ck_cons (ck_k191 l D st) ck_nil) (by decide +kernel)
/-- SLModel.replaces -/
def ck_c218 : ab_C := (182, 101, [.inr (0, 77), .inl (38, 38), .inl (0, 999)], [((77, 1, 1, 1), .inr (0, 78))], [(77, 0, 1, 1), (78, 38, 144, 1)], [(some (.inl ((-2147483648), 2147483647)), [(38, 38), (0, 999)], [((78, 38, 1, 1), .inl (0, 999)), ((77, 0, 1, 1), .inl (0, 0))], 101)], 1, 21, 0, 0)
def ck_h218 : List ab_Hd := []
set_option maxRecDepth 100000 in
theorem ck_k218 (l : Launch) (D : va_G) (st : Nat → Nat) : ck_Mt gk_G l D st ck_c218 := ab_sound (tr := ck_tr2) (T := ck_T13) (cs := [ck_c191]) (hs := ck_h218) (sp := []) (fuel := 38) l ck_TSgood ck_okCl ck_okDt (M0 := ck_m182) rfl ck_okT13 (ck_cons (ck_k191 l D st) ck_nil) (by decide +kernel)
/-- SLModel.replaces -/
def ck_c219 : ab_C := (182, 101, [.inr (0, 77), .inl (39, 39), .inl (0, 999)], [((77, 1, 1, 1), .inr (0, 78))], [(77, 0, 1, 1), (78, 39, 144, 1)], [(some (.inl ((-2147483648), 2147483647)), [(39, 39), (0, 999)], [((78, 39, 1, 1), .inl (0, 999)), ((77, 0, 1, 1), .inl (0, 0))], 101)], 1, 21, 0, 0)
def ck_h219 : List ab_Hd := []
set_option maxRecDepth 100000 in
theorem ck_k219 (l : Launch) (D : va_G) (st : Nat → Nat) : ck_Mt gk_G l D st ck_c219 := ab_sound (tr := ck_tr2) (T := ck_T13) (cs := [ck_c191]) (hs := ck_h219) (sp := []) (fuel := 38) l ck_TSgood ck_okCl ck_okDt (M0 := ck_m182) rfl ck_okT13 (ck_cons (ck_k191 l D st) ck_nil) (by decide +kernel)
/-- SLModel.replaces -/
def ck_c220 : ab_C := (182, 101, [.inr (0, 77), .inl (40, 40), .inl (0, 999)], [((77, 1, 1, 1), .inr (0, 78))], [(77, 0, 1, 1), (78, 40, 144, 1)], [(some (.inl ((-2147483648), 2147483647)), [(40, 40), (0, 999)], [((78, 40, 1, 1), .inl (0, 999)), ((77, 0, 1, 1), .inl (0, 0))], 101)], 1, 21, 0, 0)
def ck_h220 : List ab_Hd := []
set_option maxRecDepth 100000 in
theorem ck_k220 (l : Launch) (D : va_G) (st : Nat → Nat) : ck_Mt gk_G l D st ck_c220 := ab_sound (tr := ck_tr2) (T := ck_T13) (cs := [ck_c191]) (hs := ck_h220) (sp := []) (fuel := 38) l ck_TSgood ck_okCl ck_okDt (M0 := ck_m182) rfl ck_okT13 (ck_cons (ck_k191 l D st) ck_nil) (by decide +kernel)
/-- SLModel.replaces -/
def ck_c221 : ab_C := (182, 101, [.inr (0, 77), .inl (41, 41), .inl (0, 999)], [((77, 1, 1, 1), .inr (0, 78))], [(77, 0, 1, 1), (78, 41, 144, 1)], [(some (.inl ((-2147483648), 2147483647)), [(41, 41), (0, 999)], [((78, 41, 1, 1), .inl (0, 999)), ((77, 0, 1, 1), .inl (0, 0))], 101)], 1, 21, 0, 0)
def ck_h221 : List ab_Hd := []
set_option maxRecDepth 100000 in
theorem ck_k221 (l : Launch) (D : va_G) (st : Nat → Nat) : ck_Mt gk_G l D st ck_c221 := ab_sound (tr := ck_tr2) (T := ck_T13) (cs := [ck_c191]) (hs := ck_h221) (sp := []) (fuel := 38) l ck_TSgood ck_okCl ck_okDt (M0 := ck_m182) rfl ck_okT13 (ck_cons (ck_k191 l D st) ck_nil) (by decide +kernel)
/-- SLModel.replaces -/
def ck_c222 : ab_C := (182, 101, [.inr (0, 77), .inl (42, 42), .inl (0, 999)], [((77, 1, 1, 1), .inr (0, 78))], [(77, 0, 1, 1), (78, 42, 144, 1)], [(some (.inl ((-2147483648), 2147483647)), [(42, 42), (0, 999)], [((78, 42, 1, 1), .inl (0, 999)), ((77, 0, 1, 1), .inl (0, 0))], 101)], 1, 21, 0, 0)
def ck_h222 : List ab_Hd := []
set_option maxRecDepth 100000 in
theorem ck_k222 (l : Launch) (D : va_G) (st : Nat → Nat) : ck_Mt gk_G l D st ck_c222 := ab_sound (tr := ck_tr2) (T := ck_T13) (cs := [ck_c191]) (hs := ck_h222) (sp := []) (fuel := 38) l ck_TSgood ck_okCl ck_okDt (M0 := ck_m182) rfl ck_okT13 (ck_cons (ck_k191 l D st) ck_nil) (by decide +kernel)
/-- SLModel.replaces -/
def ck_c223 : ab_C := (182, 101, [.inr (0, 77), .inl (43, 43), .inl (0, 999)], [((77, 1, 1, 1), .inr (0, 78))], [(77, 0, 1, 1), (78, 43, 144, 1)], [(some (.inl ((-2147483648), 2147483647)), [(43, 43), (0, 999)], [((78, 43, 1, 1), .inl (0, 999)), ((77, 0, 1, 1), .inl (0, 0))], 101)], 1, 21, 0, 0)
def ck_h223 : List ab_Hd := []
set_option maxRecDepth 100000 in
theorem ck_k223 (l : Launch) (D : va_G) (st : Nat → Nat) : ck_Mt gk_G l D st ck_c223 := ab_sound (tr := ck_tr2) (T := ck_T13) (cs := [ck_c191]) (hs := ck_h223) (sp := []) (fuel := 38) l ck_TSgood ck_okCl ck_okDt (M0 := ck_m182) rfl ck_okT13 (ck_cons (ck_k191 l D st) ck_nil) (by decide +kernel)
/-- SLModel.replaces -/
def ck_c224 : ab_C := (182, 101, [.inr (0, 77), .inl (44, 44), .inl (0, 999)], [((77, 1, 1, 1), .inr (0, 78))], [(77, 0, 1, 1), (78, 44, 144, 1)], [(some (.inl ((-2147483648), 2147483647)), [(44, 44), (0, 999)], [((78, 44, 1, 1), .inl (0, 999)), ((77, 0, 1, 1), .inl (0, 0))], 101)], 1, 21, 0, 0)
def ck_h224 : List ab_Hd := []
set_option maxRecDepth 100000 in
theorem ck_k224 (l : Launch) (D : va_G) (st : Nat → Nat) : ck_Mt gk_G l D st ck_c224 := ab_sound (tr := ck_tr2) (T := ck_T13) (cs := [ck_c191]) (hs := ck_h224) (sp := []) (fuel := 38) l ck_TSgood ck_okCl ck_okDt (M0 := ck_m182) rfl ck_okT13 (ck_cons (ck_k191 l D st) ck_nil) (by decide +kernel)
/-- SLModel.replaces -/
def ck_c225 : ab_C := (182, 101, [.inr (0, 77), .inl (45, 45), .inl (0, 999)], [((77, 1, 1, 1), .inr (0, 78))], [(77, 0, 1, 1), (78, 45, 144, 1)], [(some (.inl ((-2147483648), 2147483647)), [(45, 45), (0, 999)], [((78, 45, 1, 1), .inl (0, 999)), ((77, 0, 1, 1), .inl (0, 0))], 101)], 1, 21, 0, 0)
def ck_h225 : List ab_Hd := []
set_option maxRecDepth 100000 in
theorem ck_k225 (l : Launch) (D : va_G) (st : Nat → Nat) : ck_Mt gk_G l D st ck_c225 := ab_sound (tr := ck_tr2) (T := ck_T13) (cs := [ck_c191]) (hs := ck_h225) (sp := []) (fuel := 38) l ck_TSgood ck_okCl ck_okDt (M0 := ck_m182) rfl ck_okT13 (ck_cons (ck_k191 l D st) ck_nil) (by decide +kernel)
/-- SLModel.replaces -/
def ck_c226 : ab_C := (182, 101, [.inr (0, 77), .inl (46, 46), .inl (0, 999)], [((77, 1, 1, 1), .inr (0, 78))], [(77, 0, 1, 1), (78, 46, 144, 1)], [(some (.inl ((-2147483648), 2147483647)), [(46, 46), (0, 999)], [((78, 46, 1, 1), .inl (0, 999)), ((77, 0, 1, 1), .inl (0, 0))], 101)], 1, 21, 0, 0)
def ck_h226 : List ab_Hd := []
set_option maxRecDepth 100000 in
theorem ck_k226 (l : Launch) (D : va_G) (st : Nat → Nat) : ck_Mt gk_G l D st ck_c226 := ab_sound (tr := ck_tr2) (T := ck_T13) (cs := [ck_c191]) (hs := ck_h226) (sp := []) (fuel := 38) l ck_TSgood ck_okCl ck_okDt (M0 := ck_m182) rfl ck_okT13 (ck_cons (ck_k191 l D st) ck_nil) (by decide +kernel)
/-- SLModel.replaces -/
def ck_c227 : ab_C := (182, 101, [.inr (0, 77), .inl (47, 47), .inl (0, 999)], [((77, 1, 1, 1), .inr (0, 78))], [(77, 0, 1, 1), (78, 47, 144, 1)], [(some (.inl ((-2147483648), 2147483647)), [(47, 47), (0, 999)], [((78, 47, 1, 1), .inl (0, 999)), ((77, 0, 1, 1), .inl (0, 0))], 101)], 1, 21, 0, 0)
def ck_h227 : List ab_Hd := []
set_option maxRecDepth 100000 in
theorem ck_k227 (l : Launch) (D : va_G) (st : Nat → Nat) : ck_Mt gk_G l D st ck_c227 := ab_sound (tr := ck_tr2) (T := ck_T13) (cs := [ck_c191]) (hs := ck_h227) (sp := []) (fuel := 38) l ck_TSgood ck_okCl ck_okDt (M0 := ck_m182) rfl ck_okT13 (ck_cons (ck_k191 l D st) ck_nil) (by decide +kernel)
/-- SLModel.replaces -/
def ck_c228 : ab_C := (182, 101, [.inr (0, 77), .inl (52, 52), .inl (0, 999)], [((77, 1, 1, 1), .inr (0, 78))], [(77, 0, 1, 1), (78, 52, 144, 1)], [(some (.inl ((-2147483648), 2147483647)), [(52, 52), (0, 999)], [((78, 52, 1, 1), .inl (0, 999)), ((77, 0, 1, 1), .inl (0, 0))], 101)], 1, 21, 0, 0)
def ck_h228 : List ab_Hd := []
set_option maxRecDepth 100000 in
theorem ck_k228 (l : Launch) (D : va_G) (st : Nat → Nat) : ck_Mt gk_G l D st ck_c228 := ab_sound (tr := ck_tr2) (T := ck_T13) (cs := [ck_c191]) (hs := ck_h228) (sp := []) (fuel := 38) l ck_TSgood ck_okCl ck_okDt (M0 := ck_m182) rfl ck_okT13 (ck_cons (ck_k191 l D st) ck_nil) (by decide +kernel)
/-- SLModel.replaces -/
def ck_c229 : ab_C := (182, 101, [.inr (0, 77), .inl (53, 53), .inl (0, 999)], [((77, 1, 1, 1), .inr (0, 78))], [(77, 0, 1, 1), (78, 53, 144, 1)], [(some (.inl ((-2147483648), 2147483647)), [(53, 53), (0, 999)], [((78, 53, 1, 1), .inl (0, 999)), ((77, 0, 1, 1), .inl (0, 0))], 101)], 1, 21, 0, 0)
def ck_h229 : List ab_Hd := []
set_option maxRecDepth 100000 in
theorem ck_k229 (l : Launch) (D : va_G) (st : Nat → Nat) : ck_Mt gk_G l D st ck_c229 := ab_sound (tr := ck_tr2) (T := ck_T13) (cs := [ck_c191]) (hs := ck_h229) (sp := []) (fuel := 38) l ck_TSgood ck_okCl ck_okDt (M0 := ck_m182) rfl ck_okT13 (ck_cons (ck_k191 l D st) ck_nil) (by decide +kernel)
/-- SLModel.replaces -/
def ck_c230 : ab_C := (182, 101, [.inr (0, 77), .inl (54, 54), .inl (0, 999)], [((77, 1, 1, 1), .inr (0, 78))], [(77, 0, 1, 1), (78, 54, 144, 1)], [(some (.inl ((-2147483648), 2147483647)), [(54, 54), (0, 999)], [((78, 54, 1, 1), .inl (0, 999)), ((77, 0, 1, 1), .inl (0, 0))], 101)], 1, 21, 0, 0)
def ck_h230 : List ab_Hd := []
set_option maxRecDepth 100000 in
theorem ck_k230 (l : Launch) (D : va_G) (st : Nat → Nat) : ck_Mt gk_G l D st ck_c230 := ab_sound (tr := ck_tr2) (T := ck_T13) (cs := [ck_c191]) (hs := ck_h230) (sp := []) (fuel := 38) l ck_TSgood ck_okCl ck_okDt (M0 := ck_m182) rfl ck_okT13 (ck_cons (ck_k191 l D st) ck_nil) (by decide +kernel)
/-- SLModel.replaces -/
def ck_c231 : ab_C := (182, 101, [.inr (0, 77), .inl (55, 55), .inl (0, 999)], [((77, 1, 1, 1), .inr (0, 78))], [(77, 0, 1, 1), (78, 55, 144, 1)], [(some (.inl ((-2147483648), 2147483647)), [(55, 55), (0, 999)], [((78, 55, 1, 1), .inl (0, 999)), ((77, 0, 1, 1), .inl (0, 0))], 101)], 1, 21, 0, 0)
def ck_h231 : List ab_Hd := []
set_option maxRecDepth 100000 in
theorem ck_k231 (l : Launch) (D : va_G) (st : Nat → Nat) : ck_Mt gk_G l D st ck_c231 := ab_sound (tr := ck_tr2) (T := ck_T13) (cs := [ck_c191]) (hs := ck_h231) (sp := []) (fuel := 38) l ck_TSgood ck_okCl ck_okDt (M0 := ck_m182) rfl ck_okT13 (ck_cons (ck_k191 l D st) ck_nil) (by decide +kernel)
/-- SLModel.replaces -/
def ck_c232 : ab_C := (182, 101, [.inr (0, 77), .inl (56, 56), .inl (0, 999)], [((77, 1, 1, 1), .inr (0, 78))], [(77, 0, 1, 1), (78, 56, 144, 1)], [(some (.inl ((-2147483648), 2147483647)), [(56, 56), (0, 999)], [((78, 56, 1, 1), .inl (0, 999)), ((77, 0, 1, 1), .inl (0, 0))], 101)], 1, 21, 0, 0)
def ck_h232 : List ab_Hd := []
set_option maxRecDepth 100000 in
theorem ck_k232 (l : Launch) (D : va_G) (st : Nat → Nat) : ck_Mt gk_G l D st ck_c232 := ab_sound (tr := ck_tr2) (T := ck_T13) (cs := [ck_c191]) (hs := ck_h232) (sp := []) (fuel := 38) l ck_TSgood ck_okCl ck_okDt (M0 := ck_m182) rfl ck_okT13 (ck_cons (ck_k191 l D st) ck_nil) (by decide +kernel)
/-- SLModel.replaces -/
def ck_c233 : ab_C := (182, 101, [.inr (0, 77), .inl (57, 57), .inl (0, 999)], [((77, 1, 1, 1), .inr (0, 78))], [(77, 0, 1, 1), (78, 57, 144, 1)], [(some (.inl ((-2147483648), 2147483647)), [(57, 57), (0, 999)], [((78, 57, 1, 1), .inl (0, 999)), ((77, 0, 1, 1), .inl (0, 0))], 101)], 1, 21, 0, 0)
def ck_h233 : List ab_Hd := []
set_option maxRecDepth 100000 in
theorem ck_k233 (l : Launch) (D : va_G) (st : Nat → Nat) : ck_Mt gk_G l D st ck_c233 := ab_sound (tr := ck_tr2) (T := ck_T13) (cs := [ck_c191]) (hs := ck_h233) (sp := []) (fuel := 38) l ck_TSgood ck_okCl ck_okDt (M0 := ck_m182) rfl ck_okT13 (ck_cons (ck_k191 l D st) ck_nil) (by decide +kernel)
/-- SLModel.replaces -/
def ck_c234 : ab_C := (182, 101, [.inr (0, 77), .inl (58, 58), .inl (0, 999)], [((77, 1, 1, 1), .inr (0, 78))], [(77, 0, 1, 1), (78, 58, 144, 1)], [(some (.inl ((-2147483648), 2147483647)), [(58, 58), (0, 999)], [((78, 58, 1, 1), .inl (0, 999)), ((77, 0, 1, 1), .inl (0, 0))], 101)], 1, 21, 0, 0)
def ck_h234 : List ab_Hd := []
set_option maxRecDepth 100000 in
theorem ck_k234 (l : Launch) (D : va_G) (st : Nat → Nat) : ck_Mt gk_G l D st ck_c234 := ab_sound (tr := ck_tr2) (T := ck_T13) (cs := [ck_c191]) (hs := ck_h234) (sp := []) (fuel := 38) l ck_TSgood ck_okCl ck_okDt (M0 := ck_m182) rfl ck_okT13 (ck_cons (ck_k191 l D st) ck_nil) (by decide +kernel)
/-- SLModel.replaces -/
def ck_c235 : ab_C := (182, 101, [.inr (0, 77), .inl (59, 59), .inl (0, 999)], [((77, 1, 1, 1), .inr (0, 78))], [(77, 0, 1, 1), (78, 59, 144, 1)], [(some (.inl ((-2147483648), 2147483647)), [(59, 59), (0, 999)], [((78, 59, 1, 1), .inl (0, 999)), ((77, 0, 1, 1), .inl (0, 0))], 101)], 1, 21, 0, 0)
def ck_h235 : List ab_Hd := []
set_option maxRecDepth 100000 in
theorem ck_k235 (l : Launch) (D : va_G) (st : Nat → Nat) : ck_Mt gk_G l D st ck_c235 := ab_sound (tr := ck_tr2) (T := ck_T13) (cs := [ck_c191]) (hs := ck_h235) (sp := []) (fuel := 38) l ck_TSgood ck_okCl ck_okDt (M0 := ck_m182) rfl ck_okT13 (ck_cons (ck_k191 l D st) ck_nil) (by decide +kernel)
/-- SLModel.replaces -/
def ck_c236 : ab_C := (182, 101, [.inr (0, 77), .inl (60, 60), .inl (0, 999)], [((77, 1, 1, 1), .inr (0, 78))], [(77, 0, 1, 1), (78, 60, 144, 1)], [(some (.inl ((-2147483648), 2147483647)), [(60, 60), (0, 999)], [((78, 60, 1, 1), .inl (0, 999)), ((77, 0, 1, 1), .inl (0, 0))], 101)], 1, 21, 0, 0)
def ck_h236 : List ab_Hd := []
set_option maxRecDepth 100000 in
theorem ck_k236 (l : Launch) (D : va_G) (st : Nat → Nat) : ck_Mt gk_G l D st ck_c236 := ab_sound (tr := ck_tr2) (T := ck_T13) (cs := [ck_c191]) (hs := ck_h236) (sp := []) (fuel := 38) l ck_TSgood ck_okCl ck_okDt (M0 := ck_m182) rfl ck_okT13 (ck_cons (ck_k191 l D st) ck_nil) (by decide +kernel)
/-- SLModel.replaces -/
def ck_c237 : ab_C := (182, 101, [.inr (0, 77), .inl (61, 61), .inl (0, 999)], [((77, 1, 1, 1), .inr (0, 78))], [(77, 0, 1, 1), (78, 61, 144, 1)], [(some (.inl ((-2147483648), 2147483647)), [(61, 61), (0, 999)], [((78, 61, 1, 1), .inl (0, 999)), ((77, 0, 1, 1), .inl (0, 0))], 101)], 1, 21, 0, 0)
def ck_h237 : List ab_Hd := []
set_option maxRecDepth 100000 in
theorem ck_k237 (l : Launch) (D : va_G) (st : Nat → Nat) : ck_Mt gk_G l D st ck_c237 := ab_sound (tr := ck_tr2) (T := ck_T13) (cs := [ck_c191]) (hs := ck_h237) (sp := []) (fuel := 38) l ck_TSgood ck_okCl ck_okDt (M0 := ck_m182) rfl ck_okT13 (ck_cons (ck_k191 l D st) ck_nil) (by decide +kernel)
/-- SLModel.replaces -/
def ck_c238 : ab_C := (182, 101, [.inr (0, 77), .inl (62, 62), .inl (0, 999)], [((77, 1, 1, 1), .inr (0, 78))], [(77, 0, 1, 1), (78, 62, 144, 1)], [(some (.inl ((-2147483648), 2147483647)), [(62, 62), (0, 999)], [((78, 62, 1, 1), .inl (0, 999)), ((77, 0, 1, 1), .inl (0, 0))], 101)], 1, 21, 0, 0)
def ck_h238 : List ab_Hd := []
set_option maxRecDepth 100000 in
theorem ck_k238 (l : Launch) (D : va_G) (st : Nat → Nat) : ck_Mt gk_G l D st ck_c238 := ab_sound (tr := ck_tr2) (T := ck_T13) (cs := [ck_c191]) (hs := ck_h238) (sp := []) (fuel := 38) l ck_TSgood ck_okCl ck_okDt (M0 := ck_m182) rfl ck_okT13 (ck_cons (ck_k191 l D st) ck_nil) (by decide +kernel)
/-- SLModel.replaces -/
def ck_c239 : ab_C := (182, 101, [.inr (0, 77), .inl (63, 63), .inl (0, 999)], [((77, 1, 1, 1), .inr (0, 78))], [(77, 0, 1, 1), (78, 63, 144, 1)], [(some (.inl ((-2147483648), 2147483647)), [(63, 63), (0, 999)], [((78, 63, 1, 1), .inl (0, 999)), ((77, 0, 1, 1), .inl (0, 0))], 101)], 1, 21, 0, 0)
def ck_h239 : List ab_Hd := []
set_option maxRecDepth 100000 in
theorem ck_k239 (l : Launch) (D : va_G) (st : Nat → Nat) : ck_Mt gk_G l D st ck_c239 := ab_sound (tr := ck_tr2) (T := ck_T13) (cs := [ck_c191]) (hs := ck_h239) (sp := []) (fuel := 38) l ck_TSgood ck_okCl ck_okDt (M0 := ck_m182) rfl ck_okT13 (ck_cons (ck_k191 l D st) ck_nil) (by decide +kernel)
