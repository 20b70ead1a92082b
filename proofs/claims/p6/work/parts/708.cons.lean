/-- SLModel.replaces -/
def ck_c320 : ab_C := (182, 101, [.inr (0, 77), .inl (172, 172), .inl (0, 999)], [((77, 1, 1, 1), .inr (0, 78))], [(77, 0, 1, 1), (78, 172, 144, 1)], [(some (.inl ((-2147483648), 2147483647)), [(172, 172), (0, 999)], [((78, 172, 1, 1), .inl (0, 999)), ((77, 0, 1, 1), .inl (0, 0))], 101)], 1, 21, 0, 0)
def ck_h320 : List ab_Hd := []
set_option maxRecDepth 100000 in
theorem ck_k320 (l : Launch) (D : va_G) (st : Nat → Nat) : ck_Mt gk_G l D st ck_c320 := ab_sound (tr := ck_tr2) (T := ck_T13) (cs := [ck_c191]) (hs := ck_h320) (sp := []) (fuel := 38) l ck_TSgood ck_okCl ck_okDt (M0 := ck_m182) rfl ck_okT13 (ck_cons (ck_k191 l D st) ck_nil) (by decide +kernel)
/-- SLModel.replaces -/
def ck_c321 : ab_C := (182, 101, [.inr (0, 77), .inl (173, 173), .inl (0, 999)], [((77, 1, 1, 1), .inr (0, 78))], [(77, 0, 1, 1), (78, 173, 144, 1)], [(some (.inl ((-2147483648), 2147483647)), [(173, 173), (0, 999)], [((78, 173, 1, 1), .inl (0, 999)), ((77, 0, 1, 1), .inl (0, 0))], 101)], 1, 21, 0, 0)
def ck_h321 : List ab_Hd := []
set_option maxRecDepth 100000 in
theorem ck_k321 (l : Launch) (D : va_G) (st : Nat → Nat) : ck_Mt gk_G l D st ck_c321 := ab_sound (tr := ck_tr2) (T := ck_T13) (cs := [ck_c191]) (hs := ck_h321) (sp := []) (fuel := 38) l ck_TSgood ck_okCl ck_okDt (M0 := ck_m182) rfl ck_okT13 (ck_cons (ck_k191 l D st) ck_nil) (by decide +kernel)
/-- SLModel.replaces -/
def ck_c322 : ab_C := (182, 101, [.inr (0, 77), .inl (174, 174), .inl (0, 999)], [((77, 1, 1, 1), .inr (0, 78))], [(77, 0, 1, 1), (78, 174, 144, 1)], [(some (.inl ((-2147483648), 2147483647)), [(174, 174), (0, 999)], [((78, 174, 1, 1), .inl (0, 999)), ((77, 0, 1, 1), .inl (0, 0))], 101)], 1, 21, 0, 0)
def ck_h322 : List ab_Hd := []
set_option maxRecDepth 100000 in
theorem ck_k322 (l : Launch) (D : va_G) (st : Nat → Nat) : ck_Mt gk_G l D st ck_c322 := ab_sound (tr := ck_tr2) (T := ck_T13) (cs := [ck_c191]) (hs := ck_h322) (sp := []) (fuel := 38) l ck_TSgood ck_okCl ck_okDt (M0 := ck_m182) rfl ck_okT13 (ck_cons (ck_k191 l D st) ck_nil) (by decide +kernel)
/-- SLModel.replaces -/
def ck_c323 : ab_C := (182, 101, [.inr (0, 77), .inl (175, 175), .inl (0, 999)], [((77, 1, 1, 1), .inr (0, 78))], [(77, 0, 1, 1), (78, 175, 144, 1)], [(some (.inl ((-2147483648), 2147483647)), [(175, 175), (0, 999)], [((78, 175, 1, 1), .inl (0, 999)), ((77, 0, 1, 1), .inl (0, 0))], 101)], 1, 21, 0, 0)
def ck_h323 : List ab_Hd := []
set_option maxRecDepth 100000 in
theorem ck_k323 (l : Launch) (D : va_G) (st : Nat → Nat) : ck_Mt gk_G l D st ck_c323 := ab_sound (tr := ck_tr2) (T := ck_T13) (cs := [ck_c191]) (hs := ck_h323) (sp := []) (fuel := 38) l ck_TSgood ck_okCl ck_okDt (M0 := ck_m182) rfl ck_okT13 (ck_cons (ck_k191 l D st) ck_nil) (by decide +kernel)
/-- SLModel.replaces -/
def ck_c324 : ab_C := (182, 101, [.inr (0, 77), .inl (180, 180), .inl (0, 999)], [((77, 1, 1, 1), .inr (0, 78))], [(77, 0, 1, 1), (78, 180, 144, 1)], [(some (.inl ((-2147483648), 2147483647)), [(180, 180), (0, 999)], [((78, 180, 1, 1), .inl (0, 999)), ((77, 0, 1, 1), .inl (0, 0))], 101)], 1, 21, 0, 0)
def ck_h324 : List ab_Hd := []
set_option maxRecDepth 100000 in
theorem ck_k324 (l : Launch) (D : va_G) (st : Nat → Nat) : ck_Mt gk_G l D st ck_c324 := ab_sound (tr := ck_tr2) (T := ck_T13) (cs := [ck_c191]) (hs := ck_h324) (sp := []) (fuel := 38) l ck_TSgood ck_okCl ck_okDt (M0 := ck_m182) rfl ck_okT13 (ck_cons (ck_k191 l D st) ck_nil) (by decide +kernel)
/-- SLModel.replaces -/
def ck_c325 : ab_C := (182, 101, [.inr (0, 77), .inl (181, 181), .inl (0, 999)], [((77, 1, 1, 1), .inr (0, 78))], [(77, 0, 1, 1), (78, 181, 144, 1)], [(some (.inl ((-2147483648), 2147483647)), [(181, 181), (0, 999)], [((78, 181, 1, 1), .inl (0, 999)), ((77, 0, 1, 1), .inl (0, 0))], 101)], 1, 21, 0, 0)
def ck_h325 : List ab_Hd := []
set_option maxRecDepth 100000 in
theorem ck_k325 (l : Launch) (D : va_G) (st : Nat → Nat) : ck_Mt gk_G l D st ck_c325 := ab_sound (tr := ck_tr2) (T := ck_T13) (cs := [ck_c191]) (hs := ck_h325) (sp := []) (fuel := 38) l ck_TSgood ck_okCl ck_okDt (M0 := ck_m182) rfl ck_okT13 (ck_cons (ck_k191 l D st) ck_nil) (by decide +kernel)
/-- SLModel.replaces -/
def ck_c326 : ab_C := (182, 101, [.inr (0, 77), .inl (182, 182), .inl (0, 999)], [((77, 1, 1, 1), .inr (0, 78))], [(77, 0, 1, 1), (78, 182, 144, 1)], [(some (.inl ((-2147483648), 2147483647)), [(182, 182), (0, 999)], [((78, 182, 1, 1), .inl (0, 999)), ((77, 0, 1, 1), .inl (0, 0))], 101)], 1, 21, 0, 0)
def ck_h326 : List ab_Hd := []
set_option maxRecDepth 100000 in
theorem ck_k326 (l : Launch) (D : va_G) (st : Nat → Nat) : ck_Mt gk_G l D st ck_c326 := ab_sound (tr := ck_tr2) (T := ck_T13) (cs := [ck_c191]) (hs := ck_h326) (sp := []) (fuel := 38) l ck_TSgood ck_okCl ck_okDt (M0 := ck_m182) rfl ck_okT13 (ck_cons (ck_k191 l D st) ck_nil) (by decide +kernel)
/-- SLModel.replaces -/
def ck_c327 : ab_C := (182, 101, [.inr (0, 77), .inl (183, 183), .inl (0, 999)], [((77, 1, 1, 1), .inr (0, 78))], [(77, 0, 1, 1), (78, 183, 144, 1)], [(some (.inl ((-2147483648), 2147483647)), [(183, 183), (0, 999)], [((78, 183, 1, 1), .inl (0, 999)), ((77, 0, 1, 1), .inl (0, 0))], 101)], 1, 21, 0, 0)
def ck_h327 : List ab_Hd := []
set_option maxRecDepth 100000 in
theorem ck_k327 (l : Launch) (D : va_G) (st : Nat → Nat) : ck_Mt gk_G l D st ck_c327 := ab_sound (tr := ck_tr2) (T := ck_T13) (cs := [ck_c191]) (hs := ck_h327) (sp := []) (fuel := 38) l ck_TSgood ck_okCl ck_okDt (M0 := ck_m182) rfl ck_okT13 (ck_cons (ck_k191 l D st) ck_nil) (by decide +kernel)
/-- SLModel.replaces -/
def ck_c328 : ab_C := (182, 101, [.inr (0, 77), .inl (184, 184), .inl (0, 999)], [((77, 1, 1, 1), .inr (0, 78))], [(77, 0, 1, 1), (78, 184, 144, 1)], [(some (.inl ((-2147483648), 2147483647)), [(184, 184), (0, 999)], [((78, 184, 1, 1), .inl (0, 999)), ((77, 0, 1, 1), .inl (0, 0))], 101)], 1, 21, 0, 0)
def ck_h328 : List ab_Hd := []
set_option maxRecDepth 100000 in
theorem ck_k328 (l : Launch) (D : va_G) (st : Nat → Nat) : ck_Mt gk_G l D st ck_c328 := ab_sound (tr := ck_tr2) (T := ck_T13) (cs := [ck_c191]) (hs := ck_h328) (sp := []) (fuel := 38) l ck_TSgood ck_okCl ck_okDt (M0 := ck_m182) rfl ck_okT13 (ck_cons (ck_k191 l D st) ck_nil) (by decide +kernel)
/-- SLModel.replaces -/
def ck_c329 : ab_C := (182, 101, [.inr (0, 77), .inl (185, 185), .inl (0, 999)], [((77, 1, 1, 1), .inr (0, 78))], [(77, 0, 1, 1), (78, 185, 144, 1)], [(some (.inl ((-2147483648), 2147483647)), [(185, 185), (0, 999)], [((78, 185, 1, 1), .inl (0, 999)), ((77, 0, 1, 1), .inl (0, 0))], 101)], 1, 21, 0, 0)
def ck_h329 : List ab_Hd := []
set_option maxRecDepth 100000 in
theorem ck_k329 (l : Launch) (D : va_G) (st : Nat → Nat) : ck_Mt gk_G l D st ck_c329 := ab_sound (tr := ck_tr2) (T := ck_T13) (cs := [ck_c191]) (hs := ck_h329) (sp := []) (fuel := 38) l ck_TSgood ck_okCl ck_okDt (M0 := ck_m182) rfl ck_okT13 (ck_cons (ck_k191 l D st) ck_nil) (by decide +kernel)
/-- SLModel.replaces -/
def ck_c330 : ab_C := (182, 101, [.inr (0, 77), .inl (186, 186), .inl (0, 999)], [((77, 1, 1, 1), .inr (0, 78))], [(77, 0, 1, 1), (78, 186, 144, 1)], [(some (.inl ((-2147483648), 2147483647)), [(186, 186), (0, 999)], [((78, 186, 1, 1), .inl (0, 999)), ((77, 0, 1, 1), .inl (0, 0))], 101)], 1, 21, 0, 0)
def ck_h330 : List ab_Hd := []
set_option maxRecDepth 100000 in
theorem ck_k330 (l : Launch) (D : va_G) (st : Nat → Nat) : ck_Mt gk_G l D st ck_c330 := ab_sound (tr := ck_tr2) (T := ck_T13) (cs := [ck_c191]) (hs := ck_h330) (sp := []) (fuel := 38) l ck_TSgood ck_okCl ck_okDt (M0 := ck_m182) rfl ck_okT13 (ck_cons (ck_k191 l D st) ck_nil) (by decide +kernel)
/-- SLModel.replaces -/
def ck_c331 : ab_C := (182, 101, [.inr (0, 77), .inl (187, 187), .inl (0, 999)], [((77, 1, 1, 1), .inr (0, 78))], [(77, 0, 1, 1), (78, 187, 144, 1)], [(some (.inl ((-2147483648), 2147483647)), [(187, 187), (0, 999)], [((78, 187, 1, 1), .inl (0, 999)), ((77, 0, 1, 1), .inl (0, 0))], 101)], 1, 21, 0, 0)
def ck_h331 : List ab_Hd := []
set_option maxRecDepth 100000 in
theorem ck_k331 (l : Launch) (D : va_G) (st : Nat → Nat) : ck_Mt gk_G l D st ck_c331 := ab_sound (tr := ck_tr2) (T := ck_T13) (cs := [ck_c191]) (hs := ck_h331) (sp := []) (fuel := 38) l ck_TSgood ck_okCl ck_okDt (M0 := ck_m182) rfl ck_okT13 (ck_cons (ck_k191 l D st) ck_nil) (by decide +kernel)
/-- SLModel.replaces -/
def ck_c332 : ab_C := (182, 101, [.inr (0, 77), .inl (188, 188), .inl (0, 999)], [((77, 1, 1, 1), .inr (0, 78))], [(77, 0, 1, 1), (78, 188, 144, 1)], [(some (.inl ((-2147483648), 2147483647)), [(188, 188), (0, 999)], [((78, 188, 1, 1), .inl (0, 999)), ((77, 0, 1, 1), .inl (0, 0))], 101)], 1, 21, 0, 0)
def ck_h332 : List ab_Hd := []
set_option maxRecDepth 100000 in
theorem ck_k332 (l : Launch) (D : va_G) (st : Nat → Nat) : ck_Mt gk_G l D st ck_c332 := ab_sound (tr := ck_tr2) (T := ck_T13) (cs := [ck_c191]) (hs := ck_h332) (sp := []) (fuel := 38) l ck_TSgood ck_okCl ck_okDt (M0 := ck_m182) rfl ck_okT13 (ck_cons (ck_k191 l D st) ck_nil) (by decide +kernel)
/-- SLModel.replaces -/
def ck_c333 : ab_C := (182, 101, [.inr (0, 77), .inl (189, 189), .inl (0, 999)], [((77, 1, 1, 1), .inr (0, 78))], [(77, 0, 1, 1), (78, 189, 144, 1)], [(some (.inl ((-2147483648), 2147483647)), [(189, 189), (0, 999)], [((78, 189, 1, 1), .inl (0, 999)), ((77, 0, 1, 1), .inl (0, 0))], 101)], 1, 21, 0, 0)
def ck_h333 : List ab_Hd := []
set_option maxRecDepth 100000 in
theorem ck_k333 (l : Launch) (D : va_G) (st : Nat → Nat) : ck_Mt gk_G l D st ck_c333 := ab_sound (tr := ck_tr2) (T := ck_T13) (cs := [ck_c191]) (hs := ck_h333) (sp := []) (fuel := 38) l ck_TSgood ck_okCl ck_okDt (M0 := ck_m182) rfl ck_okT13 (ck_cons (ck_k191 l D st) ck_nil) (by decide +kernel)
/-- SLModel.replaces -/
def ck_c334 : ab_C := (182, 101, [.inr (0, 77), .inl (190, 190), .inl (0, 999)], [((77, 1, 1, 1), .inr (0, 78))], [(77, 0, 1, 1), (78, 190, 144, 1)], [(some (.inl ((-2147483648), 2147483647)), [(190, 190), (0, 999)], [((78, 190, 1, 1), .inl (0, 999)), ((77, 0, 1, 1), .inl (0, 0))], 101)], 1, 21, 0, 0)
def ck_h334 : List ab_Hd := []
set_option maxRecDepth 100000 in
theorem ck_k334 (l : Launch) (D : va_G) (st : Nat → Nat) : ck_Mt gk_G l D st ck_c334 := ab_sound (tr := ck_tr2) (T := ck_T13) (cs := [ck_c191]) (hs := ck_h334) (sp := []) (fuel := 38) l ck_TSgood ck_okCl ck_okDt (M0 := ck_m182) rfl ck_okT13 (ck_cons (ck_k191 l D st) ck_nil) (by decide +kernel)
/-- SLModel.replaces -/
def ck_c335 : ab_C := (182, 101, [.inr (0, 77), .inl (191, 191), .inl (0, 999)], [((77, 1, 1, 1), .inr (0, 78))], [(77, 0, 1, 1), (78, 191, 144, 1)], [(some (.inl ((-2147483648), 2147483647)), [(191, 191), (0, 999)], [((78, 191, 1, 1), .inl (0, 999)), ((77, 0, 1, 1), .inl (0, 0))], 101)], 1, 21, 0, 0)
def ck_h335 : List ab_Hd := []
set_option maxRecDepth 100000 in
theorem ck_k335 (l : Launch) (D : va_G) (st : Nat → Nat) : ck_Mt gk_G l D st ck_c335 := ab_sound (tr := ck_tr2) (T := ck_T13) (cs := [ck_c191]) (hs := ck_h335) (sp := []) (fuel := 38) l ck_TSgood ck_okCl ck_okDt (M0 := ck_m182) rfl ck_okT13 (ck_cons (ck_k191 l D st) ck_nil) (by decide +kernel)
/-- SLModel.plane -/
def ck_c336 : ab_C := co_plane
set_option maxRecDepth 100000 in
theorem ck_k336 (l : Launch) (D : va_G) (st : Nat → Nat) : ck_Mt gk_G l D st ck_c336 := hk_plane l D st
/-- SL.exchange -/
def ck_c337 : ab_C := (22, 101, [.inr (0, 5), .inl (0, 11), .inl (0, 999)], [], [(5, 0, 1, 12)], [(some (.inl ((-2147483648), 2147483647)), [(0, 11), (0, 999)], [], 101)], 0, 0, 0, 0)
def ck_h337 : List ab_Hd := []
set_option maxRecDepth 100000 in
theorem ck_k337 (l : Launch) (D : va_G) (st : Nat → Nat) : ck_Mt gk_G l D st ck_c337 := ab_sound (tr := ck_tr2) (T := ck_T0) (cs := []) (hs := ck_h337) (sp := []) (fuel := 34) l ck_TSgood ck_okCl ck_okDt (M0 := ck_m22) rfl ck_okT0 ck_nil (by decide +kernel)
/-- SL.point -/
def ck_c338 : ab_C := (23, 101, [.inr (0, 0), .inl ((-2147483648), 2147483647), .inl ((-2147483648), 2147483647)], [((1, 0, 1, 1), .inl (0, 12)), ((1, 4, 1, 1), .inr (0, 5)), ((0, 0, 1, 1), .inr (0, 1))], [(0, 14, 1, 1), (5, 0, 1, 12)], [(some (.inl ((-1), (-1))), [((-2147483648), 2147483647), ((-2147483648), (-1))], [((0, 14, 1, 1), .inl ((-1), (-1)))], 101), (some (.inl ((-1), (-1))), [((-2147483648), 2147483647), (1000, 2147483647)], [((0, 14, 1, 1), .inl ((-1), (-1)))], 101), (some (.inl ((-2), (-2))), [((-2147483648), (-1)), (0, 999)], [((0, 14, 1, 1), .inl ((-2), (-2)))], 101), (some (.inl ((-2), (-2))), [(0, 2147483647), (0, 999)], [((0, 14, 1, 1), .inl ((-2), (-2)))], 101), (some (.inl ((-2147483648), 2147483647)), [(0, 11), (0, 999)], [((0, 14, 1, 1), .inl (0, 0)), ((1, 0, 1, 1), .inl (1, 12))], 101)], 2, 43, 0, 0)
def ck_h338 : List ab_Hd := []
set_option maxRecDepth 100000 in
theorem ck_k338 (l : Launch) (D : va_G) (st : Nat → Nat) : ck_Mt gk_G l D st ck_c338 := ab_sound (tr := ck_tr2) (T := ck_T0) (cs := [ck_c178, ck_c149, ck_c180, ck_c181, ck_c337, ck_c147]) (hs := ck_h338) (sp := []) (fuel := 43) l ck_TSgood ck_okCl ck_okDt (M0 := ck_m23) rfl ck_okT0 (ck_cons (ck_k178 l D st) (ck_cons (ck_k149 l D st) (ck_cons (ck_k180 l D st) (ck_cons (ck_k181 l D st) (ck_cons (ck_k337 l D st) (ck_cons (ck_k147 l D st) ck_nil)))))) (by decide +kernel)
/-- SLModel.replaces -/
def ck_c339 : ab_C := (182, 101, [.inr (0, 77), .inl (3, 3), .inl (0, 999)], [((77, 1, 1, 1), .inr (0, 78))], [(77, 0, 1, 1), (78, 3, 144, 1)], [(some (.inl ((-2147483648), 2147483647)), [(3, 3), (0, 999)], [((78, 3, 1, 1), .inl (0, 999)), ((77, 0, 1, 1), .inl (0, 0))], 101)], 1, 21, 0, 0)
def ck_h339 : List ab_Hd := []
set_option maxRecDepth 100000 in
theorem ck_k339 (l : Launch) (D : va_G) (st : Nat → Nat) : ck_Mt gk_G l D st ck_c339 := ab_sound (tr := ck_tr2) (T := ck_T13) (cs := [ck_c191]) (hs := ck_h339) (sp := []) (fuel := 38) l ck_TSgood ck_okCl ck_okDt (M0 := ck_m182) rfl ck_okT13 (ck_cons (ck_k191 l D st) ck_nil) (by decide +kernel)
/-- SLModel.replaces -/
def ck_c340 : ab_C := (182, 101, [.inr (0, 77), .inl (19, 19), .inl (0, 999)], [((77, 1, 1, 1), .inr (0, 78))], [(77, 0, 1, 1), (78, 19, 144, 1)], [(some (.inl ((-2147483648), 2147483647)), [(19, 19), (0, 999)], [((78, 19, 1, 1), .inl (0, 999)), ((77, 0, 1, 1), .inl (0, 0))], 101)], 1, 21, 0, 0)
def ck_h340 : List ab_Hd := []
set_option maxRecDepth 100000 in
theorem ck_k340 (l : Launch) (D : va_G) (st : Nat → Nat) : ck_Mt gk_G l D st ck_c340 := ab_sound (tr := ck_tr2) (T := ck_T13) (cs := [ck_c191]) (hs := ck_h340) (sp := []) (fuel := 38) l ck_TSgood ck_okCl ck_okDt (M0 := ck_m182) rfl ck_okT13 (ck_cons (ck_k191 l D st) ck_nil) (by decide +kernel)
/-- SLModel.replaces -/
def ck_c341 : ab_C := (182, 101, [.inr (0, 77), .inl (35, 35), .inl (0, 999)], [((77, 1, 1, 1), .inr (0, 78))], [(77, 0, 1, 1), (78, 35, 144, 1)], [(some (.inl ((-2147483648), 2147483647)), [(35, 35), (0, 999)], [((78, 35, 1, 1), .inl (0, 999)), ((77, 0, 1, 1), .inl (0, 0))], 101)], 1, 21, 0, 0)
def ck_h341 : List ab_Hd := []
set_option maxRecDepth 100000 in
theorem ck_k341 (l : Launch) (D : va_G) (st : Nat → Nat) : ck_Mt gk_G l D st ck_c341 := ab_sound (tr := ck_tr2) (T := ck_T13) (cs := [ck_c191]) (hs := ck_h341) (sp := []) (fuel := 38) l ck_TSgood ck_okCl ck_okDt (M0 := ck_m182) rfl ck_okT13 (ck_cons (ck_k191 l D st) ck_nil) (by decide +kernel)
/-- SLModel.replaces -/
def ck_c342 : ab_C := (182, 101, [.inr (0, 77), .inl (51, 51), .inl (0, 999)], [((77, 1, 1, 1), .inr (0, 78))], [(77, 0, 1, 1), (78, 51, 144, 1)], [(some (.inl ((-2147483648), 2147483647)), [(51, 51), (0, 999)], [((78, 51, 1, 1), .inl (0, 999)), ((77, 0, 1, 1), .inl (0, 0))], 101)], 1, 21, 0, 0)
def ck_h342 : List ab_Hd := []
set_option maxRecDepth 100000 in
theorem ck_k342 (l : Launch) (D : va_G) (st : Nat → Nat) : ck_Mt gk_G l D st ck_c342 := ab_sound (tr := ck_tr2) (T := ck_T13) (cs := [ck_c191]) (hs := ck_h342) (sp := []) (fuel := 38) l ck_TSgood ck_okCl ck_okDt (M0 := ck_m182) rfl ck_okT13 (ck_cons (ck_k191 l D st) ck_nil) (by decide +kernel)
/-- SLModel.replaces -/
def ck_c343 : ab_C := (182, 101, [.inr (0, 77), .inl (67, 67), .inl (0, 999)], [((77, 1, 1, 1), .inr (0, 78))], [(77, 0, 1, 1), (78, 67, 144, 1)], [(some (.inl ((-2147483648), 2147483647)), [(67, 67), (0, 999)], [((78, 67, 1, 1), .inl (0, 999)), ((77, 0, 1, 1), .inl (0, 0))], 101)], 1, 21, 0, 0)
def ck_h343 : List ab_Hd := []
set_option maxRecDepth 100000 in
theorem ck_k343 (l : Launch) (D : va_G) (st : Nat → Nat) : ck_Mt gk_G l D st ck_c343 := ab_sound (tr := ck_tr2) (T := ck_T13) (cs := [ck_c191]) (hs := ck_h343) (sp := []) (fuel := 38) l ck_TSgood ck_okCl ck_okDt (M0 := ck_m182) rfl ck_okT13 (ck_cons (ck_k191 l D st) ck_nil) (by decide +kernel)
/-- SLModel.replaces -/
def ck_c344 : ab_C := (182, 101, [.inr (0, 77), .inl (83, 83), .inl (0, 999)], [((77, 1, 1, 1), .inr (0, 78))], [(77, 0, 1, 1), (78, 83, 144, 1)], [(some (.inl ((-2147483648), 2147483647)), [(83, 83), (0, 999)], [((78, 83, 1, 1), .inl (0, 999)), ((77, 0, 1, 1), .inl (0, 0))], 101)], 1, 21, 0, 0)
def ck_h344 : List ab_Hd := []
set_option maxRecDepth 100000 in
theorem ck_k344 (l : Launch) (D : va_G) (st : Nat → Nat) : ck_Mt gk_G l D st ck_c344 := ab_sound (tr := ck_tr2) (T := ck_T13) (cs := [ck_c191]) (hs := ck_h344) (sp := []) (fuel := 38) l ck_TSgood ck_okCl ck_okDt (M0 := ck_m182) rfl ck_okT13 (ck_cons (ck_k191 l D st) ck_nil) (by decide +kernel)
/-- SLModel.replaces -/
def ck_c345 : ab_C := (182, 101, [.inr (0, 77), .inl (99, 99), .inl (0, 999)], [((77, 1, 1, 1), .inr (0, 78))], [(77, 0, 1, 1), (78, 99, 144, 1)], [(some (.inl ((-2147483648), 2147483647)), [(99, 99), (0, 999)], [((78, 99, 1, 1), .inl (0, 999)), ((77, 0, 1, 1), .inl (0, 0))], 101)], 1, 21, 0, 0)
def ck_h345 : List ab_Hd := []
set_option maxRecDepth 100000 in
theorem ck_k345 (l : Launch) (D : va_G) (st : Nat → Nat) : ck_Mt gk_G l D st ck_c345 := ab_sound (tr := ck_tr2) (T := ck_T13) (cs := [ck_c191]) (hs := ck_h345) (sp := []) (fuel := 38) l ck_TSgood ck_okCl ck_okDt (M0 := ck_m182) rfl ck_okT13 (ck_cons (ck_k191 l D st) ck_nil) (by decide +kernel)
/-- SLModel.replaces -/
def ck_c346 : ab_C := (182, 101, [.inr (0, 77), .inl (115, 115), .inl (0, 999)], [((77, 1, 1, 1), .inr (0, 78))], [(77, 0, 1, 1), (78, 115, 144, 1)], [(some (.inl ((-2147483648), 2147483647)), [(115, 115), (0, 999)], [((78, 115, 1, 1), .inl (0, 999)), ((77, 0, 1, 1), .inl (0, 0))], 101)], 1, 21, 0, 0)
def ck_h346 : List ab_Hd := []
set_option maxRecDepth 100000 in
theorem ck_k346 (l : Launch) (D : va_G) (st : Nat → Nat) : ck_Mt gk_G l D st ck_c346 := ab_sound (tr := ck_tr2) (T := ck_T13) (cs := [ck_c191]) (hs := ck_h346) (sp := []) (fuel := 38) l ck_TSgood ck_okCl ck_okDt (M0 := ck_m182) rfl ck_okT13 (ck_cons (ck_k191 l D st) ck_nil) (by decide +kernel)
/-- SLModel.replaces -/
def ck_c347 : ab_C := (182, 101, [.inr (0, 77), .inl (131, 131), .inl (0, 999)], [((77, 1, 1, 1), .inr (0, 78))], [(77, 0, 1, 1), (78, 131, 144, 1)], [(some (.inl ((-2147483648), 2147483647)), [(131, 131), (0, 999)], [((78, 131, 1, 1), .inl (0, 999)), ((77, 0, 1, 1), .inl (0, 0))], 101)], 1, 21, 0, 0)
def ck_h347 : List ab_Hd := []
set_option maxRecDepth 100000 in
theorem ck_k347 (l : Launch) (D : va_G) (st : Nat → Nat) : ck_Mt gk_G l D st ck_c347 := ab_sound (tr := ck_tr2) (T := ck_T13) (cs := [ck_c191]) (hs := ck_h347) (sp := []) (fuel := 38) l ck_TSgood ck_okCl ck_okDt (M0 := ck_m182) rfl ck_okT13 (ck_cons (ck_k191 l D st) ck_nil) (by decide +kernel)
/-- SLModel.replaces -/
def ck_c348 : ab_C := (182, 101, [.inr (0, 77), .inl (147, 147), .inl (0, 999)], [((77, 1, 1, 1), .inr (0, 78))], [(77, 0, 1, 1), (78, 147, 144, 1)], [(some (.inl ((-2147483648), 2147483647)), [(147, 147), (0, 999)], [((78, 147, 1, 1), .inl (0, 999)), ((77, 0, 1, 1), .inl (0, 0))], 101)], 1, 21, 0, 0)
def ck_h348 : List ab_Hd := []
set_option maxRecDepth 100000 in
theorem ck_k348 (l : Launch) (D : va_G) (st : Nat → Nat) : ck_Mt gk_G l D st ck_c348 := ab_sound (tr := ck_tr2) (T := ck_T13) (cs := [ck_c191]) (hs := ck_h348) (sp := []) (fuel := 38) l ck_TSgood ck_okCl ck_okDt (M0 := ck_m182) rfl ck_okT13 (ck_cons (ck_k191 l D st) ck_nil) (by decide +kernel)
/-- SLModel.replaces -/
def ck_c349 : ab_C := (182, 101, [.inr (0, 77), .inl (163, 163), .inl (0, 999)], [((77, 1, 1, 1), .inr (0, 78))], [(77, 0, 1, 1), (78, 163, 144, 1)], [(some (.inl ((-2147483648), 2147483647)), [(163, 163), (0, 999)], [((78, 163, 1, 1), .inl (0, 999)), ((77, 0, 1, 1), .inl (0, 0))], 101)], 1, 21, 0, 0)
def ck_h349 : List ab_Hd := []
set_option maxRecDepth 100000 in
theorem ck_k349 (l : Launch) (D : va_G) (st : Nat → Nat) : ck_Mt gk_G l D st ck_c349 := ab_sound (tr := ck_tr2) (T := ck_T13) (cs := [ck_c191]) (hs := ck_h349) (sp := []) (fuel := 38) l ck_TSgood ck_okCl ck_okDt (M0 := ck_m182) rfl ck_okT13 (ck_cons (ck_k191 l D st) ck_nil) (by decide +kernel)
/-- SLModel.replaces -/
def ck_c350 : ab_C := (182, 101, [.inr (0, 77), .inl (179, 179), .inl (0, 999)], [((77, 1, 1, 1), .inr (0, 78))], [(77, 0, 1, 1), (78, 179, 144, 1)], [(some (.inl ((-2147483648), 2147483647)), [(179, 179), (0, 999)], [((78, 179, 1, 1), .inl (0, 999)), ((77, 0, 1, 1), .inl (0, 0))], 101)], 1, 21, 0, 0)
def ck_h350 : List ab_Hd := []
set_option maxRecDepth 100000 in
theorem ck_k350 (l : Launch) (D : va_G) (st : Nat → Nat) : ck_Mt gk_G l D st ck_c350 := ab_sound (tr := ck_tr2) (T := ck_T13) (cs := [ck_c191]) (hs := ck_h350) (sp := []) (fuel := 38) l ck_TSgood ck_okCl ck_okDt (M0 := ck_m182) rfl ck_okT13 (ck_cons (ck_k191 l D st) ck_nil) (by decide +kernel)
/-- SLModel.point -/
def ck_c351 : ab_C := (183, 101, [.inr (0, 77), .inl ((-2147483648), 2147483647), .inl ((-2147483648), 2147483647)], [((78, 1292, 1, 1), .inl (0, 12)), ((77, 1, 1, 1), .inr (0, 78))], [(77, 0, 1, 1), (78, 3, 144, 1), (78, 19, 144, 1), (78, 35, 144, 1), (78, 51, 144, 1), (78, 67, 144, 1), (78, 83, 144, 1), (78, 99, 144, 1), (78, 115, 144, 1), (78, 131, 144, 1), (78, 147, 144, 1), (78, 163, 144, 1), (78, 179, 144, 1)], [(some (.inl ((-1), (-1))), [((-2147483648), 2147483647), ((-2147483648), 2147483647)], [((77, 0, 1, 1), .inl ((-1), (-1)))], 101), (some (.inl ((-2), (-2))), [((-2147483648), 2147483647), (0, 999)], [((77, 0, 1, 1), .inl ((-2), (-2)))], 101), (some (.inl ((-2147483648), 2147483647)), [(0, 11), (0, 999)], [((77, 0, 1, 1), .inl (0, 0)), ((78, 1292, 1, 1), .inl (1, 12))], 101)], 2, 44, 0, 0)
def ck_h351 : List ab_Hd := []
set_option maxRecDepth 100000 in
theorem ck_k351 (l : Launch) (D : va_G) (st : Nat → Nat) : ck_Mt gk_G l D st ck_c351 := ab_sound (tr := ck_tr2) (T := ck_T13) (cs := [ck_c187, ck_c157, ck_c189, ck_c190, ck_c339, ck_c340, ck_c341, ck_c342, ck_c343, ck_c344, ck_c345, ck_c346, ck_c347, ck_c348, ck_c349, ck_c350]) (hs := ck_h351) (sp := [(32, 0, 0), (32, 0, 1), (32, 0, 2), (32, 0, 3), (32, 0, 4), (32, 0, 5), (32, 0, 6), (32, 0, 7), (32, 0, 8), (32, 0, 9), (32, 0, 10)]) (fuel := 55) l ck_TSgood ck_okCl ck_okDt (M0 := ck_m183) rfl ck_okT13 (ck_cons (ck_k187 l D st) (ck_cons (ck_k157 l D st) (ck_cons (ck_k189 l D st) (ck_cons (ck_k190 l D st) (ck_cons (ck_k339 l D st) (ck_cons (ck_k340 l D st) (ck_cons (ck_k341 l D st) (ck_cons (ck_k342 l D st) (ck_cons (ck_k343 l D st) (ck_cons (ck_k344 l D st) (ck_cons (ck_k345 l D st) (ck_cons (ck_k346 l D st) (ck_cons (ck_k347 l D st) (ck_cons (ck_k348 l D st) (ck_cons (ck_k349 l D st) (ck_cons (ck_k350 l D st) ck_nil)))))))))))))))) (by decide +kernel)
/-- SL.within -/
def ck_c352 : ab_C := (14, 101, [.inl ((-2147483648), 2147483647), .inl (0, 0), .inl (1000, 1000)], [], [], [(some (.inl (0, 0)), [((-2147483648), (-1)), (0, 0), (1000, 1000)], [], 101), (some (.inl (0, 0)), [(1001, 2147483647), (0, 0), (1000, 1000)], [], 101), (some (.inl (1, 1)), [(0, 1000), (0, 0), (1000, 1000)], [], 101)], 0, 0, 0, 0)
def ck_h352 : List ab_Hd := []
set_option maxRecDepth 100000 in
theorem ck_k352 (l : Launch) (D : va_G) (st : Nat → Nat) : ck_Mt gk_G l D st ck_c352 := ab_sound (tr := ck_tr2) (T := ck_T0) (cs := []) (hs := ck_h352) (sp := []) (fuel := 33) l ck_TSgood ck_okCl ck_okDt (M0 := ck_m14) rfl ck_okT0 ck_nil (by decide +kernel)
/-- SL.exchange -/
def ck_c353 : ab_C := (22, 101, [.inr (0, 7), .inl (0, 11), .inl (0, 1000)], [], [(7, 0, 1, 12)], [(some (.inl ((-2147483648), 2147483647)), [(0, 11), (0, 1000)], [], 101)], 0, 0, 0, 0)
def ck_h353 : List ab_Hd := []
set_option maxRecDepth 100000 in
theorem ck_k353 (l : Launch) (D : va_G) (st : Nat → Nat) : ck_Mt gk_G l D st ck_c353 := ab_sound (tr := ck_tr2) (T := ck_T0) (cs := []) (hs := ck_h353) (sp := []) (fuel := 34) l ck_TSgood ck_okCl ck_okDt (M0 := ck_m22) rfl ck_okT0 ck_nil (by decide +kernel)
/-- SL.known -/
def ck_c354 : ab_C := (24, 101, [.inr (0, 0), .inl ((-2147483648), 2147483647), .inl ((-2147483648), 2147483647)], [((1, 6, 1, 1), .inr (0, 7)), ((0, 0, 1, 1), .inr (0, 1))], [(0, 14, 1, 1), (7, 0, 1, 12)], [(some (.inl ((-1), (-1))), [((-2147483648), (-1)), ((-2147483648), 2147483647)], [((0, 14, 1, 1), .inl ((-1), (-1)))], 101), (some (.inl ((-1), (-1))), [(12, 2147483647), ((-2147483648), 2147483647)], [((0, 14, 1, 1), .inl ((-1), (-1)))], 101), (some (.inl ((-1), (-1))), [(0, 11), ((-2147483648), (-1))], [((0, 14, 1, 1), .inl ((-1), (-1)))], 101), (some (.inl ((-1), (-1))), [(0, 11), (1001, 2147483647)], [((0, 14, 1, 1), .inl ((-1), (-1)))], 101), (some (.inl ((-2147483648), 2147483647)), [(0, 11), (0, 1000)], [((0, 14, 1, 1), .inl (0, 0))], 101)], 1, 23, 0, 0)
def ck_h354 : List ab_Hd := []
set_option maxRecDepth 100000 in
theorem ck_k354 (l : Launch) (D : va_G) (st : Nat → Nat) : ck_Mt gk_G l D st ck_c354 := ab_sound (tr := ck_tr2) (T := ck_T0) (cs := [ck_c148, ck_c149, ck_c352, ck_c353, ck_c147]) (hs := ck_h354) (sp := []) (fuel := 43) l ck_TSgood ck_okCl ck_okDt (M0 := ck_m24) rfl ck_okT0 (ck_cons (ck_k148 l D st) (ck_cons (ck_k149 l D st) (ck_cons (ck_k352 l D st) (ck_cons (ck_k353 l D st) (ck_cons (ck_k147 l D st) ck_nil))))) (by decide +kernel)
/-- SLModel.in -/
def ck_c355 : ab_C := (174, 101, [.inl ((-2147483648), 2147483647), .inl (0, 0), .inl (1000, 1000)], [], [], [(some (.inl (0, 0)), [((-2147483648), (-1)), (0, 0), (1000, 1000)], [], 101), (some (.inl (0, 0)), [(1001, 2147483647), (0, 0), (1000, 1000)], [], 101), (some (.inl (1, 1)), [(0, 1000), (0, 0), (1000, 1000)], [], 101)], 0, 0, 0, 0)
def ck_h355 : List ab_Hd := []
set_option maxRecDepth 100000 in
theorem ck_k355 (l : Launch) (D : va_G) (st : Nat → Nat) : ck_Mt gk_G l D st ck_c355 := ab_sound (tr := ck_tr2) (T := ck_T13) (cs := []) (hs := ck_h355) (sp := []) (fuel := 33) l ck_TSgood ck_okCl ck_okDt (M0 := ck_m174) rfl ck_okT13 ck_nil (by decide +kernel)
/-- SLModel.replaces -/
def ck_c356 : ab_C := (182, 101, [.inr (0, 77), .inl (192, 203), .inl (0, 1000)], [((77, 1, 1, 1), .inr (0, 78))], [(77, 0, 1, 1), (78, 192, 1, 12)], [(some (.inl ((-2147483648), 2147483647)), [(192, 203), (0, 1000)], [((77, 0, 1, 1), .inl (0, 0))], 101)], 1, 21, 0, 0)
def ck_h356 : List ab_Hd := []
set_option maxRecDepth 100000 in
theorem ck_k356 (l : Launch) (D : va_G) (st : Nat → Nat) : ck_Mt gk_G l D st ck_c356 := ab_sound (tr := ck_tr2) (T := ck_T13) (cs := [ck_c191]) (hs := ck_h356) (sp := []) (fuel := 38) l ck_TSgood ck_okCl ck_okDt (M0 := ck_m182) rfl ck_okT13 (ck_cons (ck_k191 l D st) ck_nil) (by decide +kernel)
/-- SLModel.known -/
def ck_c357 : ab_C := (184, 101, [.inr (0, 77), .inl ((-2147483648), 2147483647), .inl ((-2147483648), 2147483647)], [((77, 1, 1, 1), .inr (0, 78))], [(77, 0, 1, 1), (78, 192, 1, 12)], [(some (.inl ((-1), (-1))), [((-2147483648), (-1)), ((-2147483648), 2147483647)], [((77, 0, 1, 1), .inl ((-1), (-1)))], 101), (some (.inl ((-1), (-1))), [(12, 2147483647), ((-2147483648), 2147483647)], [((77, 0, 1, 1), .inl ((-1), (-1)))], 101), (some (.inl ((-1), (-1))), [(0, 11), ((-2147483648), (-1))], [((77, 0, 1, 1), .inl ((-1), (-1)))], 101), (some (.inl ((-1), (-1))), [(0, 11), (1001, 2147483647)], [((77, 0, 1, 1), .inl ((-1), (-1)))], 101), (some (.inl ((-2147483648), 2147483647)), [(0, 11), (0, 1000)], [((77, 0, 1, 1), .inl (0, 0))], 101)], 2, 44, 0, 0)
def ck_h357 : List ab_Hd := []
set_option maxRecDepth 100000 in
theorem ck_k357 (l : Launch) (D : va_G) (st : Nat → Nat) : ck_Mt gk_G l D st ck_c357 := ab_sound (tr := ck_tr2) (T := ck_T13) (cs := [ck_c156, ck_c157, ck_c355, ck_c356]) (hs := ck_h357) (sp := []) (fuel := 41) l ck_TSgood ck_okCl ck_okDt (M0 := ck_m184) rfl ck_okT13 (ck_cons (ck_k156 l D st) (ck_cons (ck_k157 l D st) (ck_cons (ck_k355 l D st) (ck_cons (ck_k356 l D st) ck_nil)))) (by decide +kernel)
/-- SL.isHand -/
def ck_c358 : ab_C := (26, 101, [.inl ((-2147483648), 2147483647)], [], [], [(some (.inl (0, 0)), [((-2147483648), (-1))], [], 101), (some (.inl (0, 0)), [(4, 2147483647)], [], 101), (some (.inl (1, 1)), [(0, 3)], [], 101)], 1, 22, 0, 0)
def ck_h358 : List ab_Hd := []
set_option maxRecDepth 100000 in
theorem ck_k358 (l : Launch) (D : va_G) (st : Nat → Nat) : ck_Mt gk_G l D st ck_c358 := ab_sound (tr := ck_tr2) (T := ck_T0) (cs := [ck_c176]) (hs := ck_h358) (sp := []) (fuel := 29) l ck_TSgood ck_okCl ck_okDt (M0 := ck_m26) rfl ck_okT0 (ck_cons (ck_k176 l D st) ck_nil) (by decide +kernel)
/-- SL.within -/
def ck_c359 : ab_C := (14, 101, [.inl ((-2147483648), 2147483647), .inl (0, 0), .inl (100, 100)], [], [], [(some (.inl (0, 0)), [((-2147483648), (-1)), (0, 0), (100, 100)], [], 101), (some (.inl (0, 0)), [(101, 2147483647), (0, 0), (100, 100)], [], 101), (some (.inl (1, 1)), [(0, 100), (0, 0), (100, 100)], [], 101)], 0, 0, 0, 0)
def ck_h359 : List ab_Hd := []
set_option maxRecDepth 100000 in
theorem ck_k359 (l : Launch) (D : va_G) (st : Nat → Nat) : ck_Mt gk_G l D st ck_c359 := ab_sound (tr := ck_tr2) (T := ck_T0) (cs := []) (hs := ck_h359) (sp := []) (fuel := 33) l ck_TSgood ck_okCl ck_okDt (M0 := ck_m14) rfl ck_okT0 ck_nil (by decide +kernel)
