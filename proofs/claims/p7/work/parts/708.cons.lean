/-- SLModel.replaces -/
def ck_c320 : ab_C := (182, 101, [.inr (0, 77), .inl (172, 172), .inl (0, 999)], [((77, 1, 1, 1), .inr (0, 78))], [(77, 0, 1, 1), (78, 172, 144, 1)], [(some (.inl ((-2147483648), 2147483647)), [(172, 172), (0, 999)], [((78, 172, 1, 1), .inl (0, 999)), ((77, 0, 1, 1), .inl (0, 0))], 101)], 1, 21, 0, 0)
def ck_h320 : List ab_Hd := []
set_option maxRecDepth 100000 in
theorem ck_k320 (l : Launch) (D : va_G) (st : Nat → Nat) : ck_Mt gk_G l D st ck_c320 := ab_sound (tr := ck_tr2) (T := ck_T13) (cs := [ck_c191]) (hs := ck_h320) (sp := []) (fuel := 38) l ck_TSgood ck_okCl ck_okDt (M0 := ck_m182) rfl ck_okT13 (ck_cons (ck_k191 l D st) ck_nil) (by decide +kernel)
/-- SLModel.replaces -/
def ck_c321 : ab_C := (182, 101, [.inr (0, 77), .inl (173, 173), .inl (0, 999)], [((77, 1, 1, 1), .inr (0, 78))], [(77, 0, 1, 1), (78, 173, 144, 1)], [(some (.inl ((-2147483648), 2147483647)), [(173, 173), (0, 999)], [((78, 173, 1, 1), .inl (0, 999)), ((77, 0, 1, 1), .inl (0, 0))], 101)], 1, 21, 0, 0)
def ck_h321 : List ab_Hd := []
set_option maxRecDepth 100000 in
theorem ck_k321 (l : Launch) (D : va_G) (st : Nat → Nat) : ck_Mt gk_G l D st ck_c321 := ab_sound (tr := ck_tr2) (T := ck_T13) (cs := [ck_c191]) (hs := ck_h321) (sp := []) (fuel := 38) l ck_TSgood ck_okCl ck_okDt (M0 := ck_m182) rfl ck_okT13 (ck_cons (ck_k191 l D st) ck_nil) (by decide +kernel)
/-- SLModel.replaces -/
def ck_c322 : ab_C := (182, 101, [.inr (0, 77), .inl (174, 174), .inl (0, 999)], [((77, 1, 1, 1), .inr (0, 78))], [(77, 0, 1, 1), (78, 174, 144, 1)], [(some (.inl ((-2147483648), 2147483647)), [(174, 174), (0, 999)], [((78, 174, 1, 1), .inl (0, 999)), ((77, 0, 1, 1), .inl (0, 0))], 101)], 1, 21, 0, 0)
def ck_h322 : List ab_Hd := []
set_option maxRecDepth 100000 in
theorem ck_k322 (l : Launch) (D : va_G) (st : Nat → Nat) : ck_Mt gk_G l D st ck_c322 := ab_sound (tr := ck_tr2) (T := ck_T13) (cs := [ck_c191]) (hs := ck_h322) (sp := []) (fuel := 38) l ck_TSgood ck_okCl ck_okDt (M0 := ck_m182) rfl ck_okT13 (ck_cons (ck_k191 l D st) ck_nil) (by decide +kernel)
/-- SLModel.replaces -/
def ck_c323 : ab_C := (182, 101, [.inr (0, 77), .inl (175, 175), .inl (0, 999)], [((77, 1, 1, 1), .inr (0, 78))], [(77, 0, 1, 1), (78, 175, 144, 1)], [(some (.inl ((-2147483648), 2147483647)), [(175, 175), (0, 999)], [((78, 175, 1, 1), .inl (0, 999)), ((77, 0, 1, 1), .inl (0, 0))], 101)], 1, 21, 0, 0)
def ck_h323 : List ab_Hd := []
set_option maxRecDepth 100000 in
theorem ck_k323 (l : Launch) (D : va_G) (st : Nat → Nat) : ck_Mt gk_G l D st ck_c323 := ab_sound (tr := ck_tr2) (T := ck_T13) (cs := [ck_c191]) (hs := ck_h323) (sp := []) (fuel := 38) l ck_TSgood ck_okCl ck_okDt (M0 := ck_m182) rfl ck_okT13 (ck_cons (ck_k191 l D st) ck_nil) (by decide +kernel)
/-- SLModel.replaces -/
def ck_c324 : ab_C := (182, 101, [.inr (0, 77), .inl (180, 180), .inl (0, 999)], [((77, 1, 1, 1), .inr (0, 78))], [(77, 0, 1, 1), (78, 180, 144, 1)], [(some (.inl ((-2147483648), 2147483647)), [(180, 180), (0, 999)], [((78, 180, 1, 1), .inl (0, 999)), ((77, 0, 1, 1), .inl (0, 0))], 101)], 1, 21, 0, 0)
def ck_h324 : List ab_Hd := []
set_option maxRecDepth 100000 in
theorem ck_k324 (l : Launch) (D : va_G) (st : Nat → Nat) : ck_Mt gk_G l D st ck_c324 := ab_sound (tr := ck_tr2) (T := ck_T13) (cs := [ck_c191]) (hs := ck_h324) (sp := []) (fuel := 38) l ck_TSgood ck_okCl ck_okDt (M0 := ck_m182) rfl ck_okT13 (ck_cons (ck_k191 l D st) ck_nil) (by decide +kernel)
/-- SLModel.replaces -/
def ck_c325 : ab_C := (182, 101, [.inr (0, 77), .inl (181, 181), .inl (0, 999)], [((77, 1, 1, 1), .inr (0, 78))], [(77, 0, 1, 1), (78, 181, 144, 1)], [(some (.inl ((-2147483648), 2147483647)), [(181, 181), (0, 999)], [((78, 181, 1, 1), .inl (0, 999)), ((77, 0, 1, 1), .inl (0, 0))], 101)], 1, 21, 0, 0)
def ck_h325 : List ab_Hd := []
set_option maxRecDepth 100000 in
theorem ck_k325 (l : Launch) (D : va_G) (st : Nat → Nat) : ck_Mt gk_G l D st ck_c325 := ab_sound (tr := ck_tr2) (T := ck_T13) (cs := [ck_c191]) (hs := ck_h325) (sp := []) (fuel := 38) l ck_TSgood ck_okCl ck_okDt (M0 := ck_m182) rfl ck_okT13 (ck_cons (ck_k191 l D st) ck_nil) (by decide +kernel)
/-- SLModel.replaces -/
def ck_c326 : ab_C := (182, 101, [.inr (0, 77), .inl (182, 182), .inl (0, 999)], [((77, 1, 1, 1), .inr (0, 78))], [(77, 0, 1, 1), (78, 182, 144, 1)], [(some (.inl ((-2147483648), 2147483647)), [(182, 182), (0, 999)], [((78, 182, 1, 1), .inl (0, 999)), ((77, 0, 1, 1), .inl (0, 0))], 101)], 1, 21, 0, 0)
def ck_h326 : List ab_Hd := []
set_option maxRecDepth 100000 in
theorem ck_k326 (l : Launch) (D : va_G) (st : Nat → Nat) : ck_Mt gk_G l D st ck_c326 := ab_sound (tr := ck_tr2) (T := ck_T13) (cs := [ck_c191]) (hs := ck_h326) (sp := []) (fuel := 38) l ck_TSgood ck_okCl ck_okDt (M0 := ck_m182) rfl ck_okT13 (ck_cons (ck_k191 l D st) ck_nil) (by decide +kernel)
/-- SLModel.replaces -/
def ck_c327 : ab_C := (182, 101, [.inr (0, 77), .inl (183, 183), .inl (0, 999)], [((77, 1, 1, 1), .inr (0, 78))], [(77, 0, 1, 1), (78, 183, 144, 1)], [(some (.inl ((-2147483648), 2147483647)), [(183, 183), (0, 999)], [((78, 183, 1, 1), .inl (0, 999)), ((77, 0, 1, 1), .inl (0, 0))], 101)], 1, 21, 0, 0)
def ck_h327 : List ab_Hd := []
set_option maxRecDepth 100000 in
theorem ck_k327 (l : Launch) (D : va_G) (st : Nat → Nat) : ck_Mt gk_G l D st ck_c327 := ab_sound (tr := ck_tr2) (T := ck_T13) (cs := [ck_c191]) (hs := ck_h327) (sp := []) (fuel := 38) l ck_TSgood ck_okCl ck_okDt (M0 := ck_m182) rfl ck_okT13 (ck_cons (ck_k191 l D st) ck_nil) (by decide +kernel)
/-- SLModel.replaces -/
def ck_c328 : ab_C := (182, 101, [.inr (0, 77), .inl (184, 184), .inl (0, 999)], [((77, 1, 1, 1), .inr (0, 78))], [(77, 0, 1, 1), (78, 184, 144, 1)], [(some (.inl ((-2147483648), 2147483647)), [(184, 184), (0, 999)], [((78, 184, 1, 1), .inl (0, 999)), ((77, 0, 1, 1), .inl (0, 0))], 101)], 1, 21, 0, 0)
def ck_h328 : List ab_Hd := []
set_option maxRecDepth 100000 in
theorem ck_k328 (l : Launch) (D : va_G) (st : Nat → Nat) : ck_Mt gk_G l D st ck_c328 := ab_sound (tr := ck_tr2) (T := ck_T13) (cs := [ck_c191]) (hs := ck_h328) (sp := []) (fuel := 38) l ck_TSgood ck_okCl ck_okDt (M0 := ck_m182) rfl ck_okT13 (ck_cons (ck_k191 l D st) ck_nil) (by decide +kernel)
/-- SLModel.replaces -/
def ck_c329 : ab_C := (182, 101, [.inr (0, 77), .inl (185, 185), .inl (0, 999)], [((77, 1, 1, 1), .inr (0, 78))], [(77, 0, 1, 1), (78, 185, 144, 1)], [(some (.inl ((-2147483648), 2147483647)), [(185, 185), (0, 999)], [((78, 185, 1, 1), .inl (0, 999)), ((77, 0, 1, 1), .inl (0, 0))], 101)], 1, 21, 0, 0)
def ck_h329 : List ab_Hd := []
set_option maxRecDepth 100000 in
theorem ck_k329 (l : Launch) (D : va_G) (st : Nat → Nat) : ck_Mt gk_G l D st ck_c329 := ab_sound (tr := ck_tr2) (T := ck_T13) (cs := [ck_c191]) (hs := ck_h329) (sp := []) (fuel := 38) l ck_TSgood ck_okCl ck_okDt (M0 := ck_m182) rfl ck_okT13 (ck_cons (ck_k191 l D st) ck_nil) (by decide +kernel)
/-- SLModel.replaces -/
def ck_c330 : ab_C := (182, 101, [.inr (0, 77), .inl (186, 186), .inl (0, 999)], [((77, 1, 1, 1), .inr (0, 78))], [(77, 0, 1, 1), (78, 186, 144, 1)], [(some (.inl ((-2147483648), 2147483647)), [(186, 186), (0, 999)], [((78, 186, 1, 1), .inl (0, 999)), ((77, 0, 1, 1), .inl (0, 0))], 101)], 1, 21, 0, 0)
def ck_h330 : List ab_Hd := []
set_option maxRecDepth 100000 in
theorem ck_k330 (l : Launch) (D : va_G) (st : Nat → Nat) : ck_Mt gk_G l D st ck_c330 := ab_sound (tr := ck_tr2) (T := ck_T13) (cs := [ck_c191]) (hs := ck_h330) (sp := []) (fuel := 38) l ck_TSgood ck_okCl ck_okDt (M0 := ck_m182) rfl ck_okT13 (ck_cons (ck_k191 l D st) ck_nil) (by decide +kernel)
/-- SLModel.replaces -/
def ck_c331 : ab_C := (182, 101, [.inr (0, 77), .inl (187, 187), .inl (0, 999)], [((77, 1, 1, 1), .inr (0, 78))], [(77, 0, 1, 1), (78, 187, 144, 1)], [(some (.inl ((-2147483648), 2147483647)), [(187, 187), (0, 999)], [((78, 187, 1, 1), .inl (0, 999)), ((77, 0, 1, 1), .inl (0, 0))], 101)], 1, 21, 0, 0)
def ck_h331 : List ab_Hd := []
set_option maxRecDepth 100000 in
theorem ck_k331 (l : Launch) (D : va_G) (st : Nat → Nat) : ck_Mt gk_G l D st ck_c331 := ab_sound (tr := ck_tr2) (T := ck_T13) (cs := [ck_c191]) (hs := ck_h331) (sp := []) (fuel := 38) l ck_TSgood ck_okCl ck_okDt (M0 := ck_m182) rfl ck_okT13 (ck_cons (ck_k191 l D st) ck_nil) (by decide +kernel)
/-- SLModel.replaces -/
def ck_c332 : ab_C := (182, 101, [.inr (0, 77), .inl (188, 188), .inl (0, 999)], [((77, 1, 1, 1), .inr (0, 78))], [(77, 0, 1, 1), (78, 188, 144, 1)], [(some (.inl ((-2147483648), 2147483647)), [(188, 188), (0, 999)], [((78, 188, 1, 1), .inl (0, 999)), ((77, 0, 1, 1), .inl (0, 0))], 101)], 1, 21, 0, 0)
def ck_h332 : List ab_Hd := []
set_option maxRecDepth 100000 in
theorem ck_k332 (l : Launch) (D : va_G) (st : Nat → Nat) : ck_Mt gk_G l D st ck_c332 := ab_sound (tr := ck_tr2) (T := ck_T13) (cs := [ck_c191]) (hs := ck_h332) (sp := []) (fuel := 38) l ck_TSgood ck_okCl ck_okDt (M0 := ck_m182) rfl ck_okT13 (ck_cons (ck_k191 l D st) ck_nil) (by decide +kernel)
/-- SLModel.replaces -/
def ck_c333 : ab_C := (182, 101, [.inr (0, 77), .inl (189, 189), .inl (0, 999)], [((77, 1, 1, 1), .inr (0, 78))], [(77, 0, 1, 1), (78, 189, 144, 1)], [(some (.inl ((-2147483648), 2147483647)), [(189, 189), (0, 999)], [((78, 189, 1, 1), .inl (0, 999)), ((77, 0, 1, 1), .inl (0, 0))], 101)], 1, 21, 0, 0)
def ck_h333 : List ab_Hd := []
set_option maxRecDepth 100000 in
theorem ck_k333 (l : Launch) (D : va_G) (st : Nat → Nat) : ck_Mt gk_G l D st ck_c333 := ab_sound (tr := ck_tr2) (T := ck_T13) (cs := [ck_c191]) (hs := ck_h333) (sp := []) (fuel := 38) l ck_TSgood ck_okCl ck_okDt (M0 := ck_m182) rfl ck_okT13 (ck_cons (ck_k191 l D st) ck_nil) (by decide +kernel)
/-- SLModel.replaces -/
def ck_c334 : ab_C := (182, 101, [.inr (0, 77), .inl (190, 190), .inl (0, 999)], [((77, 1, 1, 1), .inr (0, 78))], [(77, 0, 1, 1), (78, 190, 144, 1)], [(some (.inl ((-2147483648), 2147483647)), [(190, 190), (0, 999)], [((78, 190, 1, 1), .inl (0, 999)), ((77, 0, 1, 1), .inl (0, 0))], 101)], 1, 21, 0, 0)
def ck_h334 : List ab_Hd := []
set_option maxRecDepth 100000 in
theorem ck_k334 (l : Launch) (D : va_G) (st : Nat → Nat) : ck_Mt gk_G l D st ck_c334 := ab_sound (tr := ck_tr2) (T := ck_T13) (cs := [ck_c191]) (hs := ck_h334) (sp := []) (fuel := 38) l ck_TSgood ck_okCl ck_okDt (M0 := ck_m182) rfl ck_okT13 (ck_cons (ck_k191 l D st) ck_nil) (by decide +kernel)
/-- SLModel.replaces -/
def ck_c335 : ab_C := (182, 101, [.inr (0, 77), .inl (191, 191), .inl (0, 999)], [((77, 1, 1, 1), .inr (0, 78))], [(77, 0, 1, 1), (78, 191, 144, 1)], [(some (.inl ((-2147483648), 2147483647)), [(191, 191), (0, 999)], [((78, 191, 1, 1), .inl (0, 999)), ((77, 0, 1, 1), .inl (0, 0))], 101)], 1, 21, 0, 0)
def ck_h335 : List ab_Hd := []
set_option maxRecDepth 100000 in
theorem ck_k335 (l : Launch) (D : va_G) (st : Nat → Nat) : ck_Mt gk_G l D st ck_c335 := ab_sound (tr := ck_tr2) (T := ck_T13) (cs := [ck_c191]) (hs := ck_h335) (sp := []) (fuel := 38) l ck_TSgood ck_okCl ck_okDt (M0 := ck_m182) rfl ck_okT13 (ck_cons (ck_k191 l D st) ck_nil) (by decide +kernel)
/-- SLModel.plane -/
def ck_c336 : ab_C := (180, 101, [.inr (0, 77), .inl ((-2147483648), 2147483647), .inl ((-2147483648), 2147483647), .inl ((-2147483648), 2147483647), .inl ((-2147483648), 2147483647)], [((78, 1292, 1, 1), .inl (0, 12)), ((77, 1, 1, 1), .inr (0, 78))], [(77, 0, 1, 1), (78, 4, 16, 12), (78, 5, 16, 12), (78, 6, 16, 12), (78, 7, 16, 12), (78, 8, 16, 12), (78, 9, 16, 12), (78, 10, 16, 12), (78, 11, 16, 12), (78, 12, 16, 12), (78, 13, 16, 12), (78, 14, 16, 12), (78, 15, 16, 12)], [(some (.inl ((-1), (-1))), [((-2147483648), 2147483647), ((-2147483648), 2147483647), ((-2147483648), 2147483647), ((-2147483648), 2147483647)], [((77, 0, 1, 1), .inl ((-1), (-1)))], 101), (some (.inl ((-2), (-2))), [((-2147483648), 2147483647), (0, 2), (0, 3), (0, 999)], [((77, 0, 1, 1), .inl ((-2), (-2)))], 101), (some (.inl ((-2147483648), 2147483647)), [(0, 11), (0, 2), (0, 3), (0, 999)], [((77, 0, 1, 1), .inl (0, 0)), ((78, 1292, 1, 1), .inl (1, 12))], 101)], 2, 44, 0, 0)
def ck_h336 : List ab_Hd := []
set_option maxRecDepth 100000 in
theorem ck_k336 (l : Launch) (D : va_G) (st : Nat → Nat) : ck_Mt gk_G l D st ck_c336 := ab_sound (tr := ck_tr2) (T := ck_T13) (cs := [ck_c185, ck_c157, ck_c186, ck_c187, ck_c189, ck_c190, ck_c192, ck_c193, ck_c194, ck_c195, ck_c196, ck_c197, ck_c198, ck_c199, ck_c200, ck_c201, ck_c202, ck_c203, ck_c204, ck_c205, ck_c206, ck_c207, ck_c208, ck_c209, ck_c210, ck_c211, ck_c212, ck_c213, ck_c214, ck_c215, ck_c216, ck_c217, ck_c218, ck_c219, ck_c220, ck_c221, ck_c222, ck_c223, ck_c224, ck_c225, ck_c226, ck_c227, ck_c228, ck_c229, ck_c230, ck_c231, ck_c232, ck_c233, ck_c234, ck_c235, ck_c236, ck_c237, ck_c238, ck_c239, ck_c240, ck_c241, ck_c242, ck_c243, ck_c244, ck_c245, ck_c246, ck_c247, ck_c248, ck_c249, ck_c250, ck_c251, ck_c252, ck_c253, ck_c254, ck_c255, ck_c256, ck_c257, ck_c258, ck_c259, ck_c260, ck_c261, ck_c262, ck_c263, ck_c264, ck_c265, ck_c266, ck_c267, ck_c268, ck_c269, ck_c270, ck_c271, ck_c272, ck_c273, ck_c274, ck_c275, ck_c276, ck_c277, ck_c278, ck_c279, ck_c280, ck_c281, ck_c282, ck_c283, ck_c284, ck_c285, ck_c286, ck_c287, ck_c288, ck_c289, ck_c290, ck_c291, ck_c292, ck_c293, ck_c294, ck_c295, ck_c296, ck_c297, ck_c298, ck_c299, ck_c300, ck_c301, ck_c302, ck_c303, ck_c304, ck_c305, ck_c306, ck_c307, ck_c308, ck_c309, ck_c310, ck_c311, ck_c312, ck_c313, ck_c314, ck_c315, ck_c316, ck_c317, ck_c318, ck_c319, ck_c320, ck_c321, ck_c322, ck_c323, ck_c324, ck_c325, ck_c326, ck_c327, ck_c328, ck_c329, ck_c330, ck_c331, ck_c332, ck_c333, ck_c334, ck_c335]) (hs := ck_h336) (sp := [(51, 0, 0), (51, 0, 1), (51, 0, 2), (51, 0, 3), (51, 0, 4), (51, 0, 5), (51, 0, 6), (51, 0, 7), (51, 0, 8), (51, 0, 9), (51, 0, 10), (51, 1, 0), (51, 1, 1), (51, 2, 0), (51, 2, 1), (51, 2, 2)]) (fuel := 76) l ck_TSgood ck_okCl ck_okDt (M0 := ck_m180) rfl ck_okT13 (ck_cons (ck_k185 l D st) (ck_cons (ck_k157 l D st) (ck_cons (ck_k186 l D st) (ck_cons (ck_k187 l D st) (ck_cons (ck_k189 l D st) (ck_cons (ck_k190 l D st) (ck_cons (ck_k192 l D st) (ck_cons (ck_k193 l D st) (ck_cons (ck_k194 l D st) (ck_cons (ck_k195 l D st) (ck_cons (ck_k196 l D st) (ck_cons (ck_k197 l D st) (ck_cons (ck_k198 l D st) (ck_cons (ck_k199 l D st) (ck_cons (ck_k200 l D st) (ck_cons (ck_k201 l D st) (ck_cons (ck_k202 l D st) (ck_cons (ck_k203 l D st) (ck_cons (ck_k204 l D st) (ck_cons (ck_k205 l D st) (ck_cons (ck_k206 l D st) (ck_cons (ck_k207 l D st) (ck_cons (ck_k208 l D st) (ck_cons (ck_k209 l D st) (ck_cons (ck_k210 l D st) (ck_cons (ck_k211 l D st) (ck_cons (ck_k212 l D st) (ck_cons (ck_k213 l D st) (ck_cons (ck_k214 l D st) (ck_cons (ck_k215 l D st) (ck_cons (ck_k216 l D st) (ck_cons (ck_k217 l D st) (ck_cons (ck_k218 l D st) (ck_cons (ck_k219 l D st) (ck_cons (ck_k220 l D st) (ck_cons (ck_k221 l D st) (ck_cons (ck_k222 l D st) (ck_cons (ck_k223 l D st) (ck_cons (ck_k224 l D st) (ck_cons (ck_k225 l D st) (ck_cons (ck_k226 l D st) (ck_cons (ck_k227 l D st) (ck_cons (ck_k228 l D st) (ck_cons (ck_k229 l D st) (ck_cons (ck_k230 l D st) (ck_cons (ck_k231 l D st) (ck_cons (ck_k232 l D st) (ck_cons (ck_k233 l D st) (ck_cons (ck_k234 l D st) (ck_cons (ck_k235 l D st) (ck_cons (ck_k236 l D st) (ck_cons (ck_k237 l D st) (ck_cons (ck_k238 l D st) (ck_cons (ck_k239 l D st) (ck_cons (ck_k240 l D st) (ck_cons (ck_k241 l D st) (ck_cons (ck_k242 l D st) (ck_cons (ck_k243 l D st) (ck_cons (ck_k244 l D st) (ck_cons (ck_k245 l D st) (ck_cons (ck_k246 l D st) (ck_cons (ck_k247 l D st) (ck_cons (ck_k248 l D st) (ck_cons (ck_k249 l D st) (ck_cons (ck_k250 l D st) (ck_cons (ck_k251 l D st) (ck_cons (ck_k252 l D st) (ck_cons (ck_k253 l D st) (ck_cons (ck_k254 l D st) (ck_cons (ck_k255 l D st) (ck_cons (ck_k256 l D st) (ck_cons (ck_k257 l D st) (ck_cons (ck_k258 l D st) (ck_cons (ck_k259 l D st) (ck_cons (ck_k260 l D st) (ck_cons (ck_k261 l D st) (ck_cons (ck_k262 l D st) (ck_cons (ck_k263 l D st) (ck_cons (ck_k264 l D st) (ck_cons (ck_k265 l D st) (ck_cons (ck_k266 l D st) (ck_cons (ck_k267 l D st) (ck_cons (ck_k268 l D st) (ck_cons (ck_k269 l D st) (ck_cons (ck_k270 l D st) (ck_cons (ck_k271 l D st) (ck_cons (ck_k272 l D st) (ck_cons (ck_k273 l D st) (ck_cons (ck_k274 l D st) (ck_cons (ck_k275 l D st) (ck_cons (ck_k276 l D st) (ck_cons (ck_k277 l D st) (ck_cons (ck_k278 l D st) (ck_cons (ck_k279 l D st) (ck_cons (ck_k280 l D st) (ck_cons (ck_k281 l D st) (ck_cons (ck_k282 l D st) (ck_cons (ck_k283 l D st) (ck_cons (ck_k284 l D st) (ck_cons (ck_k285 l D st) (ck_cons (ck_k286 l D st) (ck_cons (ck_k287 l D st) (ck_cons (ck_k288 l D st) (ck_cons (ck_k289 l D st) (ck_cons (ck_k290 l D st) (ck_cons (ck_k291 l D st) (ck_cons (ck_k292 l D st) (ck_cons (ck_k293 l D st) (ck_cons (ck_k294 l D st) (ck_cons (ck_k295 l D st) (ck_cons (ck_k296 l D st) (ck_cons (ck_k297 l D st) (ck_cons (ck_k298 l D st) (ck_cons (ck_k299 l D st) (ck_cons (ck_k300 l D st) (ck_cons (ck_k301 l D st) (ck_cons (ck_k302 l D st) (ck_cons (ck_k303 l D st) (ck_cons (ck_k304 l D st) (ck_cons (ck_k305 l D st) (ck_cons (ck_k306 l D st) (ck_cons (ck_k307 l D st) (ck_cons (ck_k308 l D st) (ck_cons (ck_k309 l D st) (ck_cons (ck_k310 l D st) (ck_cons (ck_k311 l D st) (ck_cons (ck_k312 l D st) (ck_cons (ck_k313 l D st) (ck_cons (ck_k314 l D st) (ck_cons (ck_k315 l D st) (ck_cons (ck_k316 l D st) (ck_cons (ck_k317 l D st) (ck_cons (ck_k318 l D st) (ck_cons (ck_k319 l D st) (ck_cons (ck_k320 l D st) (ck_cons (ck_k321 l D st) (ck_cons (ck_k322 l D st) (ck_cons (ck_k323 l D st) (ck_cons (ck_k324 l D st) (ck_cons (ck_k325 l D st) (ck_cons (ck_k326 l D st) (ck_cons (ck_k327 l D st) (ck_cons (ck_k328 l D st) (ck_cons (ck_k329 l D st) (ck_cons (ck_k330 l D st) (ck_cons (ck_k331 l D st) (ck_cons (ck_k332 l D st) (ck_cons (ck_k333 l D st) (ck_cons (ck_k334 l D st) (ck_cons (ck_k335 l D st) ck_nil)))))))))))))))))))))))))))))))))))))))))))))))))))))))))))))))))))))))))))))))))))))))))))))))))))))))))))))))))))))))))))))))))))))))))))))))))))))) (by decide +kernel)
/-- SL.exchange -/
def ck_c337 : ab_C := (22, 101, [.inr (0, 5), .inl (0, 11), .inl (0, 999)], [], [(5, 0, 1, 12)], [(some (.inl ((-2147483648), 2147483647)), [(0, 11), (0, 999)], [], 101)], 0, 0, 0, 0)
def ck_h337 : List ab_Hd := []
set_option maxRecDepth 100000 in
theorem ck_k337 (l : Launch) (D : va_G) (st : Nat → Nat) : ck_Mt gk_G l D st ck_c337 := ab_sound (tr := ck_tr2) (T := ck_T0) (cs := []) (hs := ck_h337) (sp := []) (fuel := 34) l ck_TSgood ck_okCl ck_okDt (M0 := ck_m22) rfl ck_okT0 ck_nil (by decide +kernel)
/-- SL.point -/
def ck_c338 : ab_C := (23, 101, [.inr (0, 0), .inl ((-2147483648), 2147483647), .inl ((-2147483648), 2147483647)], [((1, 0, 1, 1), .inl (0, 12)), ((1, 4, 1, 1), .inr (0, 5)), ((0, 0, 1, 1), .inr (0, 1))], [(0, 14, 1, 1), (5, 0, 1, 12)], [(some (.inl ((-1), (-1))), [((-2147483648), 2147483647), ((-2147483648), (-1))], [((0, 14, 1, 1), .inl ((-1), (-1)))], 101), (some (.inl ((-1), (-1))), [((-2147483648), 2147483647), (1000, 2147483647)], [((0, 14, 1, 1), .inl ((-1), (-1)))], 101), (some (.inl ((-2), (-2))), [((-2147483648), (-1)), (0, 999)], [((0, 14, 1, 1), .inl ((-2), (-2)))], 101), (some (.inl ((-2), (-2))), [(0, 2147483647), (0, 999)], [((0, 14, 1, 1), .inl ((-2), (-2)))], 101), (some (.inl ((-2147483648), 2147483647)), [(0, 11), (0, 999)], [((0, 14, 1, 1), .inl (0, 0)), ((1, 0, 1, 1), .inl (1, 12))], 101)], 2, 43, 0, 0)
def ck_h338 : List ab_Hd := []
set_option maxRecDepth 100000 in
theorem ck_k338 (l : Launch) (D : va_G) (st : Nat → Nat) : ck_Mt gk_G l D st ck_c338 := ab_sound (tr := ck_tr2) (T := ck_T0) (cs := [ck_c178, ck_c149, ck_c180, ck_c181, ck_c337, ck_c147]) (hs := ck_h338) (sp := []) (fuel := 43) l ck_TSgood ck_okCl ck_okDt (M0 := ck_m23) rfl ck_okT0 (ck_cons (ck_k178 l D st) (ck_cons (ck_k149 l D st) (ck_cons (ck_k180 l D st) (ck_cons (ck_k181 l D st) (ck_cons (ck_k337 l D st) (ck_cons (ck_k147 l D st) ck_nil)))))) (by decide +kernel)
/-- SLModel.replaces -/
def ck_c339 : ab_C := (182, 101, [.inr (0, 77), .inl (3, 3), .inl (0, 999)], [((77, 1, 1, 1), .inr (0, 78))], [(77, 0, 1, 1), (78, 3, 144, 1)], [(some (.inl ((-2147483648), 2147483647)), [(3, 3), (0, 999)], [((78, 3, 1, 1), .inl (0, 999)), ((77, 0, 1, 1), .inl (0, 0))], 101)], 1, 21, 0, 0)
def ck_h339 : List ab_Hd := []
set_option maxRecDepth 100000 in
theorem ck_k339 (l : Launch) (D : va_G) (st : Nat → Nat) : ck_Mt gk_G l D st ck_c339 := ab_sound (tr := ck_tr2) (T := ck_T13) (cs := [ck_c191]) (hs := ck_h339) (sp := []) (fuel := 38) l ck_TSgood ck_okCl ck_okDt (M0 := ck_m182) rfl ck_okT13 (ck_cons (ck_k191 l D st) ck_nil) (by decide +kernel)
/-- SLModel.replaces -/
def ck_c340 : ab_C := (182, 101, [.inr (0, 77), .inl (19, 19), .inl (0, 999)], [((77, 1, 1, 1), .inr (0, 78))], [(77, 0, 1, 1), (78, 19, 144, 1)], [(some (.inl ((-2147483648), 2147483647)), [(19, 19), (0, 999)], [((78, 19, 1, 1), .inl (0, 999)), ((77, 0, 1, 1), .inl (0, 0))], 101)], 1, 21, 0, 0)
def ck_h340 : List ab_Hd := []
set_option maxRecDepth 100000 in
theorem ck_k340 (l : Launch) (D : va_G) (st : Nat → Nat) : ck_Mt gk_G l D st ck_c340 := ab_sound (tr := ck_tr2) (T := ck_T13) (cs := [ck_c191]) (hs := ck_h340) (sp := []) (fuel := 38) l ck_TSgood ck_okCl ck_okDt (M0 := ck_m182) rfl ck_okT13 (ck_cons (ck_k191 l D st) ck_nil) (by decide +kernel)
/-- SLModel.replaces -/
def ck_c341 : ab_C := (182, 101, [.inr (0, 77), .inl (35, 35), .inl (0, 999)], [((77, 1, 1, 1), .inr (0, 78))], [(77, 0, 1, 1), (78, 35, 144, 1)], [(some (.inl ((-2147483648), 2147483647)), [(35, 35), (0, 999)], [((78, 35, 1, 1), .inl (0, 999)), ((77, 0, 1, 1), .inl (0, 0))], 101)], 1, 21, 0, 0)
def ck_h341 : List ab_Hd := []
set_option maxRecDepth 100000 in
theorem ck_k341 (l : Launch) (D : va_G) (st : Nat → Nat) : ck_Mt gk_G l D st ck_c341 := ab_sound (tr := ck_tr2) (T := ck_T13) (cs := [ck_c191]) (hs := ck_h341) (sp := []) (fuel := 38) l ck_TSgood ck_okCl ck_okDt (M0 := ck_m182) rfl ck_okT13 (ck_cons (ck_k191 l D st) ck_nil) (by decide +kernel)
/-- SLModel.replaces -/
def ck_c342 : ab_C := (182, 101, [.inr (0, 77), .inl (51, 51), .inl (0, 999)], [((77, 1, 1, 1), .inr (0, 78))], [(77, 0, 1, 1), (78, 51, 144, 1)], [(some (.inl ((-2147483648), 2147483647)), [(51, 51), (0, 999)], [((78, 51, 1, 1), .inl (0, 999)), ((77, 0, 1, 1), .inl (0, 0))], 101)], 1, 21, 0, 0)
def ck_h342 : List ab_Hd := []
set_option maxRecDepth 100000 in
theorem ck_k342 (l : Launch) (D : va_G) (st : Nat → Nat) : ck_Mt gk_G l D st ck_c342 := ab_sound (tr := ck_tr2) (T := ck_T13) (cs := [ck_c191]) (hs := ck_h342) (sp := []) (fuel := 38) l ck_TSgood ck_okCl ck_okDt (M0 := ck_m182) rfl ck_okT13 (ck_cons (ck_k191 l D st) ck_nil) (by decide +kernel)
/-- SLModel.replaces -/
def ck_c343 : ab_C := (182, 101, [.inr (0, 77), .inl (67, 67), .inl (0, 999)], [((77, 1, 1, 1), .inr (0, 78))], [(77, 0, 1, 1), (78, 67, 144, 1)], [(some (.inl ((-2147483648), 2147483647)), [(67, 67), (0, 999)], [((78, 67, 1, 1), .inl (0, 999)), ((77, 0, 1, 1), .inl (0, 0))], 101)], 1, 21, 0, 0)
def ck_h343 : List ab_Hd := []
set_option maxRecDepth 100000 in
theorem ck_k343 (l : Launch) (D : va_G) (st : Nat → Nat) : ck_Mt gk_G l D st ck_c343 := ab_sound (tr := ck_tr2) (T := ck_T13) (cs := [ck_c191]) (hs := ck_h343) (sp := []) (fuel := 38) l ck_TSgood ck_okCl ck_okDt (M0 := ck_m182) rfl ck_okT13 (ck_cons (ck_k191 l D st) ck_nil) (by decide +kernel)
/-- SLModel.replaces -/
def ck_c344 : ab_C := (182, 101, [.inr (0, 77), .inl (83, 83), .inl (0, 999)], [((77, 1, 1, 1), .inr (0, 78))], [(77, 0, 1, 1), (78, 83, 144, 1)], [(some (.inl ((-2147483648), 2147483647)), [(83, 83), (0, 999)], [((78, 83, 1, 1), .inl (0, 999)), ((77, 0, 1, 1), .inl (0, 0))], 101)], 1, 21, 0, 0)
def ck_h344 : List ab_Hd := []
set_option maxRecDepth 100000 in
theorem ck_k344 (l : Launch) (D : va_G) (st : Nat → Nat) : ck_Mt gk_G l D st ck_c344 := ab_sound (tr := ck_tr2) (T := ck_T13) (cs := [ck_c191]) (hs := ck_h344) (sp := []) (fuel := 38) l ck_TSgood ck_okCl ck_okDt (M0 := ck_m182) rfl ck_okT13 (ck_cons (ck_k191 l D st) ck_nil) (by decide +kernel)
/-- SLModel.replaces -/
def ck_c345 : ab_C := (182, 101, [.inr (0, 77), .inl (99, 99), .inl (0, 999)], [((77, 1, 1, 1), .inr (0, 78))], [(77, 0, 1, 1), (78, 99, 144, 1)], [(some (.inl ((-2147483648), 2147483647)), [(99, 99), (0, 999)], [((78, 99, 1, 1), .inl (0, 999)), ((77, 0, 1, 1), .inl (0, 0))], 101)], 1, 21, 0, 0)
def ck_h345 : List ab_Hd := []
set_option maxRecDepth 100000 in
theorem ck_k345 (l : Launch) (D : va_G) (st : Nat → Nat) : ck_Mt gk_G l D st ck_c345 := ab_sound (tr := ck_tr2) (T := ck_T13) (cs := [ck_c191]) (hs := ck_h345) (sp := []) (fuel := 38) l ck_TSgood ck_okCl ck_okDt (M0 := ck_m182) rfl ck_okT13 (ck_cons (ck_k191 l D st) ck_nil) (by decide +kernel)
/-- SLModel.replaces -/
def ck_c346 : ab_C := (182, 101, [.inr (0, 77), .inl (115, 115), .inl (0, 999)], [((77, 1, 1, 1), .inr (0, 78))], [(77, 0, 1, 1), (78, 115, 144, 1)], [(some (.inl ((-2147483648), 2147483647)), [(115, 115), (0, 999)], [((78, 115, 1, 1), .inl (0, 999)), ((77, 0, 1, 1), .inl (0, 0))], 101)], 1, 21, 0, 0)
def ck_h346 : List ab_Hd := []
set_option maxRecDepth 100000 in
theorem ck_k346 (l : Launch) (D : va_G) (st : Nat → Nat) : ck_Mt gk_G l D st ck_c346 := ab_sound (tr := ck_tr2) (T := ck_T13) (cs := [ck_c191]) (hs := ck_h346) (sp := []) (fuel := 38) l ck_TSgood ck_okCl ck_okDt (M0 := ck_m182) rfl ck_okT13 (ck_cons (ck_k191 l D st) ck_nil) (by decide +kernel)
/-- SLModel.replaces -/
def ck_c347 : ab_C := (182, 101, [.inr (0, 77), .inl (131, 131), .inl (0, 999)], [((77, 1, 1, 1), .inr (0, 78))], [(77, 0, 1, 1), (78, 131, 144, 1)], [(some (.inl ((-2147483648), 2147483647)), [(131, 131), (0, 999)], [((78, 131, 1, 1), .inl (0, 999)), ((77, 0, 1, 1), .inl (0, 0))], 101)], 1, 21, 0, 0)
def ck_h347 : List ab_Hd := []
set_option maxRecDepth 100000 in
theorem ck_k347 (l : Launch) (D : va_G) (st : Nat → Nat) : ck_Mt gk_G l D st ck_c347 := ab_sound (tr := ck_tr2) (T := ck_T13) (cs := [ck_c191]) (hs := ck_h347) (sp := []) (fuel := 38) l ck_TSgood ck_okCl ck_okDt (M0 := ck_m182) rfl ck_okT13 (ck_cons (ck_k191 l D st) ck_nil) (by decide +kernel)
/-- SLModel.replaces -/
def ck_c348 : ab_C := (182, 101, [.inr (0, 77), .inl (147, 147), .inl (0, 999)], [((77, 1, 1, 1), .inr (0, 78))], [(77, 0, 1, 1), (78, 147, 144, 1)], [(some (.inl ((-2147483648), 2147483647)), [(147, 147), (0, 999)], [((78, 147, 1, 1), .inl (0, 999)), ((77, 0, 1, 1), .inl (0, 0))], 101)], 1, 21, 0, 0)
def ck_h348 : List ab_Hd := []
set_option maxRecDepth 100000 in
theorem ck_k348 (l : Launch) (D : va_G) (st : Nat → Nat) : ck_Mt gk_G l D st ck_c348 := ab_sound (tr := ck_tr2) (T := ck_T13) (cs := [ck_c191]) (hs := ck_h348) (sp := []) (fuel := 38) l ck_TSgood ck_okCl ck_okDt (M0 := ck_m182) rfl ck_okT13 (ck_cons (ck_k191 l D st) ck_nil) (by decide +kernel)
/-- SLModel.replaces -/
def ck_c349 : ab_C := (182, 101, [.inr (0, 77), .inl (163, 163), .inl (0, 999)], [((77, 1, 1, 1), .inr (0, 78))], [(77, 0, 1, 1), (78, 163, 144, 1)], [(some (.inl ((-2147483648), 2147483647)), [(163, 163), (0, 999)], [((78, 163, 1, 1), .inl (0, 999)), ((77, 0, 1, 1), .inl (0, 0))], 101)], 1, 21, 0, 0)
def ck_h349 : List ab_Hd := []
set_option maxRecDepth 100000 in
theorem ck_k349 (l : Launch) (D : va_G) (st : Nat → Nat) : ck_Mt gk_G l D st ck_c349 := ab_sound (tr := ck_tr2) (T := ck_T13) (cs := [ck_c191]) (hs := ck_h349) (sp := []) (fuel := 38) l ck_TSgood ck_okCl ck_okDt (M0 := ck_m182) rfl ck_okT13 (ck_cons (ck_k191 l D st) ck_nil) (by decide +kernel)
/-- SLModel.replaces -/
def ck_c350 : ab_C := (182, 101, [.inr (0, 77), .inl (179, 179), .inl (0, 999)], [((77, 1, 1, 1), .inr (0, 78))], [(77, 0, 1, 1), (78, 179, 144, 1)], [(some (.inl ((-2147483648), 2147483647)), [(179, 179), (0, 999)], [((78, 179, 1, 1), .inl (0, 999)), ((77, 0, 1, 1), .inl (0, 0))], 101)], 1, 21, 0, 0)
def ck_h350 : List ab_Hd := []
set_option maxRecDepth 100000 in
theorem ck_k350 (l : Launch) (D : va_G) (st : Nat → Nat) : ck_Mt gk_G l D st ck_c350 := ab_sound (tr := ck_tr2) (T := ck_T13) (cs := [ck_c191]) (hs := ck_h350) (sp := []) (fuel := 38) l ck_TSgood ck_okCl ck_okDt (M0 := ck_m182) rfl ck_okT13 (ck_cons (ck_k191 l D st) ck_nil) (by decide +kernel)
/-- SLModel.point -/
def ck_c351 : ab_C := (183, 101, [.inr (0, 77), .inl ((-2147483648), 2147483647), .inl ((-2147483648), 2147483647)], [((78, 1292, 1, 1), .inl (0, 12)), ((77, 1, 1, 1), .inr (0, 78))], [(77, 0, 1, 1), (78, 3, 144, 1), (78, 19, 144, 1), (78, 35, 144, 1), (78, 51, 144, 1), (78, 67, 144, 1), (78, 83, 144, 1), (78, 99, 144, 1), (78, 115, 144, 1), (78, 131, 144, 1), (78, 147, 144, 1), (78, 163, 144, 1), (78, 179, 144, 1)], [(some (.inl ((-1), (-1))), [((-2147483648), 2147483647), ((-2147483648), 2147483647)], [((77, 0, 1, 1), .inl ((-1), (-1)))], 101), (some (.inl ((-2), (-2))), [((-2147483648), 2147483647), (0, 999)], [((77, 0, 1, 1), .inl ((-2), (-2)))], 101), (some (.inl ((-2147483648), 2147483647)), [(0, 11), (0, 999)], [((77, 0, 1, 1), .inl (0, 0)), ((78, 1292, 1, 1), .inl (1, 12))], 101)], 2, 44, 0, 0)
def ck_h351 : List ab_Hd := []
set_option maxRecDepth 100000 in
theorem ck_k351 (l : Launch) (D : va_G) (st : Nat → Nat) : ck_Mt gk_G l D st ck_c351 := ab_sound (tr := ck_tr2) (T := ck_T13) (cs := [ck_c187, ck_c157, ck_c189, ck_c190, ck_c339, ck_c340, ck_c341, ck_c342, ck_c343, ck_c344, ck_c345, ck_c346, ck_c347, ck_c348, ck_c349, ck_c350]) (hs := ck_h351) (sp := [(32, 0, 0), (32, 0, 1), (32, 0, 2), (32, 0, 3), (32, 0, 4), (32, 0, 5), (32, 0, 6), (32, 0, 7), (32, 0, 8), (32, 0, 9), (32, 0, 10)]) (fuel := 55) l ck_TSgood ck_okCl ck_okDt (M0 := ck_m183) rfl ck_okT13 (ck_cons (ck_k187 l D st) (ck_cons (ck_k157 l D st) (ck_cons (ck_k189 l D st) (ck_cons (ck_k190 l D st) (ck_cons (ck_k339 l D st) (ck_cons (ck_k340 l D st) (ck_cons (ck_k341 l D st) (ck_cons (ck_k342 l D st) (ck_cons (ck_k343 l D st) (ck_cons (ck_k344 l D st) (ck_cons (ck_k345 l D st) (ck_cons (ck_k346 l D st) (ck_cons (ck_k347 l D st) (ck_cons (ck_k348 l D st) (ck_cons (ck_k349 l D st) (ck_cons (ck_k350 l D st) ck_nil)))))))))))))))) (by decide +kernel)
/-- SL.within -/
def ck_c352 : ab_C := (14, 101, [.inl ((-2147483648), 2147483647), .inl (0, 0), .inl (1000, 1000)], [], [], [(some (.inl (0, 0)), [((-2147483648), (-1)), (0, 0), (1000, 1000)], [], 101), (some (.inl (0, 0)), [(1001, 2147483647), (0, 0), (1000, 1000)], [], 101), (some (.inl (1, 1)), [(0, 1000), (0, 0), (1000, 1000)], [], 101)], 0, 0, 0, 0)
def ck_h352 : List ab_Hd := []
set_option maxRecDepth 100000 in
theorem ck_k352 (l : Launch) (D : va_G) (st : Nat → Nat) : ck_Mt gk_G l D st ck_c352 := ab_sound (tr := ck_tr2) (T := ck_T0) (cs := []) (hs := ck_h352) (sp := []) (fuel := 33) l ck_TSgood ck_okCl ck_okDt (M0 := ck_m14) rfl ck_okT0 ck_nil (by decide +kernel)
/-- SL.exchange -/
def ck_c353 : ab_C := (22, 101, [.inr (0, 7), .inl (0, 11), .inl (0, 1000)], [], [(7, 0, 1, 12)], [(some (.inl ((-2147483648), 2147483647)), [(0, 11), (0, 1000)], [], 101)], 0, 0, 0, 0)
def ck_h353 : List ab_Hd := []
set_option maxRecDepth 100000 in
theorem ck_k353 (l : Launch) (D : va_G) (st : Nat → Nat) : ck_Mt gk_G l D st ck_c353 := ab_sound (tr := ck_tr2) (T := ck_T0) (cs := []) (hs := ck_h353) (sp := []) (fuel := 34) l ck_TSgood ck_okCl ck_okDt (M0 := ck_m22) rfl ck_okT0 ck_nil (by decide +kernel)
/-- SL.known -/
def ck_c354 : ab_C := (24, 101, [.inr (0, 0), .inl ((-2147483648), 2147483647), .inl ((-2147483648), 2147483647)], [((1, 6, 1, 1), .inr (0, 7)), ((0, 0, 1, 1), .inr (0, 1))], [(0, 14, 1, 1), (7, 0, 1, 12)], [(some (.inl ((-1), (-1))), [((-2147483648), (-1)), ((-2147483648), 2147483647)], [((0, 14, 1, 1), .inl ((-1), (-1)))], 101), (some (.inl ((-1), (-1))), [(12, 2147483647), ((-2147483648), 2147483647)], [((0, 14, 1, 1), .inl ((-1), (-1)))], 101), (some (.inl ((-1), (-1))), [(0, 11), ((-2147483648), (-1))], [((0, 14, 1, 1), .inl ((-1), (-1)))], 101), (some (.inl ((-1), (-1))), [(0, 11), (1001, 2147483647)], [((0, 14, 1, 1), .inl ((-1), (-1)))], 101), (some (.inl ((-2147483648), 2147483647)), [(0, 11), (0, 1000)], [((0, 14, 1, 1), .inl (0, 0))], 101)], 1, 23, 0, 0)
def ck_h354 : List ab_Hd := []
set_option maxRecDepth 100000 in
theorem ck_k354 (l : Launch) (D : va_G) (st : Nat → Nat) : ck_Mt gk_G l D st ck_c354 := ab_sound (tr := ck_tr2) (T := ck_T0) (cs := [ck_c148, ck_c149, ck_c352, ck_c353, ck_c147]) (hs := ck_h354) (sp := []) (fuel := 43) l ck_TSgood ck_okCl ck_okDt (M0 := ck_m24) rfl ck_okT0 (ck_cons (ck_k148 l D st) (ck_cons (ck_k149 l D st) (ck_cons (ck_k352 l D st) (ck_cons (ck_k353 l D st) (ck_cons (ck_k147 l D st) ck_nil))))) (by decide +kernel)
/-- SLModel.in -/
def ck_c355 : ab_C := (174, 101, [.inl ((-2147483648), 2147483647), .inl (0, 0), .inl (1000, 1000)], [], [], [(some (.inl (0, 0)), [((-2147483648), (-1)), (0, 0), (1000, 1000)], [], 101), (some (.inl (0, 0)), [(1001, 2147483647), (0, 0), (1000, 1000)], [], 101), (some (.inl (1, 1)), [(0, 1000), (0, 0), (1000, 1000)], [], 101)], 0, 0, 0, 0)
def ck_h355 : List ab_Hd := []
set_option maxRecDepth 100000 in
theorem ck_k355 (l : Launch) (D : va_G) (st : Nat → Nat) : ck_Mt gk_G l D st ck_c355 := ab_sound (tr := ck_tr2) (T := ck_T13) (cs := []) (hs := ck_h355) (sp := []) (fuel := 33) l ck_TSgood ck_okCl ck_okDt (M0 := ck_m174) rfl ck_okT13 ck_nil (by decide +kernel)
/-- SLModel.replaces -/
def ck_c356 : ab_C := (182, 101, [.inr (0, 77), .inl (192, 203), .inl (0, 1000)], [((77, 1, 1, 1), .inr (0, 78))], [(77, 0, 1, 1), (78, 192, 1, 12)], [(some (.inl ((-2147483648), 2147483647)), [(192, 203), (0, 1000)], [((77, 0, 1, 1), .inl (0, 0))], 101)], 1, 21, 0, 0)
def ck_h356 : List ab_Hd := []
set_option maxRecDepth 100000 in
theorem ck_k356 (l : Launch) (D : va_G) (st : Nat → Nat) : ck_Mt gk_G l D st ck_c356 := ab_sound (tr := ck_tr2) (T := ck_T13) (cs := [ck_c191]) (hs := ck_h356) (sp := []) (fuel := 38) l ck_TSgood ck_okCl ck_okDt (M0 := ck_m182) rfl ck_okT13 (ck_cons (ck_k191 l D st) ck_nil) (by decide +kernel)
/-- SLModel.known -/
def ck_c357 : ab_C := (184, 101, [.inr (0, 77), .inl ((-2147483648), 2147483647), .inl ((-2147483648), 2147483647)], [((77, 1, 1, 1), .inr (0, 78))], [(77, 0, 1, 1), (78, 192, 1, 12)], [(some (.inl ((-1), (-1))), [((-2147483648), (-1)), ((-2147483648), 2147483647)], [((77, 0, 1, 1), .inl ((-1), (-1)))], 101), (some (.inl ((-1), (-1))), [(12, 2147483647), ((-2147483648), 2147483647)], [((77, 0, 1, 1), .inl ((-1), (-1)))], 101), (some (.inl ((-1), (-1))), [(0, 11), ((-2147483648), (-1))], [((77, 0, 1, 1), .inl ((-1), (-1)))], 101), (some (.inl ((-1), (-1))), [(0, 11), (1001, 2147483647)], [((77, 0, 1, 1), .inl ((-1), (-1)))], 101), (some (.inl ((-2147483648), 2147483647)), [(0, 11), (0, 1000)], [((77, 0, 1, 1), .inl (0, 0))], 101)], 2, 44, 0, 0)
def ck_h357 : List ab_Hd := []
set_option maxRecDepth 100000 in
theorem ck_k357 (l : Launch) (D : va_G) (st : Nat → Nat) : ck_Mt gk_G l D st ck_c357 := ab_sound (tr := ck_tr2) (T := ck_T13) (cs := [ck_c156, ck_c157, ck_c355, ck_c356]) (hs := ck_h357) (sp := []) (fuel := 41) l ck_TSgood ck_okCl ck_okDt (M0 := ck_m184) rfl ck_okT13 (ck_cons (ck_k156 l D st) (ck_cons (ck_k157 l D st) (ck_cons (ck_k355 l D st) (ck_cons (ck_k356 l D st) ck_nil)))) (by decide +kernel)
/-- SL.isHand -/
def ck_c358 : ab_C := (26, 101, [.inl ((-2147483648), 2147483647)], [], [], [(some (.inl (0, 0)), [((-2147483648), (-1))], [], 101), (some (.inl (0, 0)), [(4, 2147483647)], [], 101), (some (.inl (1, 1)), [(0, 3)], [], 101)], 1, 22, 0, 0)
def ck_h358 : List ab_Hd := []
set_option maxRecDepth 100000 in
theorem ck_k358 (l : Launch) (D : va_G) (st : Nat → Nat) : ck_Mt gk_G l D st ck_c358 := ab_sound (tr := ck_tr2) (T := ck_T0) (cs := [ck_c176]) (hs := ck_h358) (sp := []) (fuel := 29) l ck_TSgood ck_okCl ck_okDt (M0 := ck_m26) rfl ck_okT0 (ck_cons (ck_k176 l D st) ck_nil) (by decide +kernel)
/-- SL.within -/
def ck_c359 : ab_C := (14, 101, [.inl ((-2147483648), 2147483647), .inl (0, 0), .inl (100, 100)], [], [], [(some (.inl (0, 0)), [((-2147483648), (-1)), (0, 0), (100, 100)], [], 101), (some (.inl (0, 0)), [(101, 2147483647), (0, 0), (100, 100)], [], 101), (some (.inl (1, 1)), [(0, 100), (0, 0), (100, 100)], [], 101)], 0, 0, 0, 0)
def ck_h359 : List ab_Hd := []
set_option maxRecDepth 100000 in
theorem ck_k359 (l : Launch) (D : va_G) (st : Nat → Nat) : ck_Mt gk_G l D st ck_c359 := ab_sound (tr := ck_tr2) (T := ck_T0) (cs := []) (hs := ck_h359) (sp := []) (fuel := 33) l ck_TSgood ck_okCl ck_okDt (M0 := ck_m14) rfl ck_okT0 ck_nil (by decide +kernel)
