/-- SLModel.knownOf -/
def ck_c800 : ab_C := (286, 101, [.inr (0, 77), .inl (0, 11)], [((78, 0, 16, 12), .inl (0, 11)), ((77, 1, 1, 1), .inr (0, 78))], [], [(some (.inl ((-2147483648), 2147483647)), [(0, 11)], [], 101)], 1, 22, 0, 0)
def ck_h800 : List ab_Hd := []
set_option maxRecDepth 100000 in
theorem ck_k800 (l : Launch) (D : va_G) (st : Nat → Nat) : ck_Mt gk_G l D st ck_c800 := ab_sound (tr := ck_tr2) (T := ck_T13) (cs := [ck_c799]) (hs := ck_h800) (sp := []) (fuel := 34) l ck_TSgood ck_okCl ck_okDt (M0 := ck_m286) rfl ck_okT13 (ck_cons (ck_k799 l D st) ck_nil) (by decide +kernel)
/-- SLModel.lose -/
def ck_c801 : ab_C := (288, 101, [.inr (0, 77)], [((78, 0, 16, 12), .inl (0, 11)), ((78, 212, 9, 120), .inl (0, 11)), ((78, 213, 9, 120), .inl (0, 11)), ((78, 1293, 1, 1), .inl (0, 120)), ((77, 1, 1, 1), .inr (0, 78))], [], [(some (.inl ((-2147483648), 2147483647)), [], [], 101)], 3, 64, 0, 0)
def ck_h801 : List ab_Hd := [(4, ([(0, 120, 0, (0, 0, 0)), ((-2147483648), 2147483647, 0, (0, 0, 0))], [(2, .inl (0, 1, 0)), (1, .inl (1, 1, 0)), (0, .inr (0, 77))], [], ([((78, 0, 16, 12), .inl (0, 11)), ((78, 212, 9, 120), .inl (0, 11)), ((78, 213, 9, 120), .inl (0, 11)), ((78, 1293, 1, 1), .inl (0, 120)), ((77, 1, 1, 1), .inr (0, 78))], []), 101, 0, 0), 0, 0)]
set_option maxRecDepth 100000 in
theorem ck_k801 (l : Launch) (D : va_G) (st : Nat → Nat) : ck_Mt gk_G l D st ck_c801 := ab_sound (tr := ck_tr2) (T := ck_T13) (cs := [ck_c468, ck_c469, ck_c800, ck_c470]) (hs := ck_h801) (sp := []) (fuel := 59) l ck_TSgood ck_okCl ck_okDt (M0 := ck_m288) rfl ck_okT13 (ck_cons (ck_k468 l D st) (ck_cons (ck_k469 l D st) (ck_cons (ck_k800 l D st) (ck_cons (ck_k470 l D st) ck_nil)))) (by decide +kernel)
/-- SL.within -/
def ck_c802 : ab_C := (14, 101, [.inl ((-2147483648), (-1)), .inl (0, 0), .inl (1, 1)], [], [], [(some (.inl (0, 0)), [((-2147483648), (-1)), (0, 0), (1, 1)], [], 101)], 0, 0, 0, 0)
def ck_h802 : List ab_Hd := []
set_option maxRecDepth 100000 in
theorem ck_k802 (l : Launch) (D : va_G) (st : Nat → Nat) : ck_Mt gk_G l D st ck_c802 := ab_sound (tr := ck_tr2) (T := ck_T0) (cs := []) (hs := ck_h802) (sp := []) (fuel := 29) l ck_TSgood ck_okCl ck_okDt (M0 := ck_m14) rfl ck_okT0 ck_nil (by decide +kernel)
/-- SL.within -/
def ck_c803 : ab_C := (14, 101, [.inl (0, 0), .inl (0, 0), .inl (1, 1)], [], [], [(some (.inl (1, 1)), [(0, 0), (0, 0), (1, 1)], [], 101)], 0, 0, 0, 0)
def ck_h803 : List ab_Hd := []
set_option maxRecDepth 100000 in
theorem ck_k803 (l : Launch) (D : va_G) (st : Nat → Nat) : ck_Mt gk_G l D st ck_c803 := ab_sound (tr := ck_tr2) (T := ck_T0) (cs := []) (hs := ck_h803) (sp := []) (fuel := 33) l ck_TSgood ck_okCl ck_okDt (M0 := ck_m14) rfl ck_okT0 ck_nil (by decide +kernel)
/-- SL$Bench.copyRow -/
def ck_c804 : ab_C := (167, 101, [.inr (0, 2), .inr (0, 17)], [((17, 0, 1, 12), .inl (0, 11)), ((2, 0, 1, 12), .inl (0, 11))], [(17, 0, 1, 12)], [(none, [], [((17, 0, 1, 12), .inl (0, 11))], 101)], 1, 41, 0, 0)
def ck_h804 : List ab_Hd := []
set_option maxRecDepth 100000 in
theorem ck_k804 (l : Launch) (D : va_G) (st : Nat → Nat) : ck_Mt gk_G l D st ck_c804 := ab_sound (tr := ck_tr2) (T := ck_T1) (cs := []) (hs := ck_h804) (sp := []) (fuel := 35) l ck_TSgood ck_okCl ck_okDt (M0 := ck_m167) rfl ck_okT1 ck_nil (by decide +kernel)
/-- SL$Bench.copyRow -/
def ck_c805 : ab_C := (167, 101, [.inr (0, 3), .inr (0, 18)], [], [(18, 0, 1, 12)], [(none, [], [], 101)], 1, 41, 0, 0)
def ck_h805 : List ab_Hd := []
set_option maxRecDepth 100000 in
theorem ck_k805 (l : Launch) (D : va_G) (st : Nat → Nat) : ck_Mt gk_G l D st ck_c805 := ab_sound (tr := ck_tr2) (T := ck_T1) (cs := []) (hs := ck_h805) (sp := []) (fuel := 35) l ck_TSgood ck_okCl ck_okDt (M0 := ck_m167) rfl ck_okT1 ck_nil (by decide +kernel)
/-- SL$Bench.copyRow -/
def ck_c806 : ab_C := (167, 101, [.inr (0, 4), .inr (0, 19)], [], [(19, 0, 1, 12)], [(none, [], [], 101)], 1, 41, 0, 0)
def ck_h806 : List ab_Hd := []
set_option maxRecDepth 100000 in
theorem ck_k806 (l : Launch) (D : va_G) (st : Nat → Nat) : ck_Mt gk_G l D st ck_c806 := ab_sound (tr := ck_tr2) (T := ck_T1) (cs := []) (hs := ck_h806) (sp := []) (fuel := 35) l ck_TSgood ck_okCl ck_okDt (M0 := ck_m167) rfl ck_okT1 ck_nil (by decide +kernel)
/-- SL$Bench.copyRow -/
def ck_c807 : ab_C := (167, 101, [.inr (0, 5), .inr (0, 20)], [], [(20, 0, 1, 12)], [(none, [], [], 101)], 1, 41, 0, 0)
def ck_h807 : List ab_Hd := []
set_option maxRecDepth 100000 in
theorem ck_k807 (l : Launch) (D : va_G) (st : Nat → Nat) : ck_Mt gk_G l D st ck_c807 := ab_sound (tr := ck_tr2) (T := ck_T1) (cs := []) (hs := ck_h807) (sp := []) (fuel := 35) l ck_TSgood ck_okCl ck_okDt (M0 := ck_m167) rfl ck_okT1 ck_nil (by decide +kernel)
/-- SL$Bench.copyRow -/
def ck_c808 : ab_C := (167, 101, [.inr (0, 6), .inr (0, 21)], [], [(21, 0, 1, 144)], [(none, [], [], 101)], 1, 41, 0, 0)
def ck_h808 : List ab_Hd := []
set_option maxRecDepth 100000 in
theorem ck_k808 (l : Launch) (D : va_G) (st : Nat → Nat) : ck_Mt gk_G l D st ck_c808 := ab_sound (tr := ck_tr2) (T := ck_T1) (cs := []) (hs := ck_h808) (sp := []) (fuel := 35) l ck_TSgood ck_okCl ck_okDt (M0 := ck_m167) rfl ck_okT1 ck_nil (by decide +kernel)
/-- SL$Bench.copyRow -/
def ck_c809 : ab_C := (167, 101, [.inr (0, 7), .inr (0, 22)], [], [(22, 0, 1, 12)], [(none, [], [], 101)], 1, 41, 0, 0)
def ck_h809 : List ab_Hd := []
set_option maxRecDepth 100000 in
theorem ck_k809 (l : Launch) (D : va_G) (st : Nat → Nat) : ck_Mt gk_G l D st ck_c809 := ab_sound (tr := ck_tr2) (T := ck_T1) (cs := []) (hs := ck_h809) (sp := []) (fuel := 35) l ck_TSgood ck_okCl ck_okDt (M0 := ck_m167) rfl ck_okT1 ck_nil (by decide +kernel)
/-- SL$Bench.copyRow -/
def ck_c810 : ab_C := (167, 101, [.inr (0, 8), .inr (0, 23)], [], [(23, 0, 1, 4)], [(none, [], [], 101)], 1, 41, 0, 0)
def ck_h810 : List ab_Hd := []
set_option maxRecDepth 100000 in
theorem ck_k810 (l : Launch) (D : va_G) (st : Nat → Nat) : ck_Mt gk_G l D st ck_c810 := ab_sound (tr := ck_tr2) (T := ck_T1) (cs := []) (hs := ck_h810) (sp := []) (fuel := 35) l ck_TSgood ck_okCl ck_okDt (M0 := ck_m167) rfl ck_okT1 ck_nil (by decide +kernel)
/-- SL$Bench.copyRow -/
def ck_c811 : ab_C := (167, 101, [.inr (0, 9), .inr (0, 24)], [], [(24, 0, 1, 4)], [(none, [], [], 101)], 1, 41, 0, 0)
def ck_h811 : List ab_Hd := []
set_option maxRecDepth 100000 in
theorem ck_k811 (l : Launch) (D : va_G) (st : Nat → Nat) : ck_Mt gk_G l D st ck_c811 := ab_sound (tr := ck_tr2) (T := ck_T1) (cs := []) (hs := ck_h811) (sp := []) (fuel := 35) l ck_TSgood ck_okCl ck_okDt (M0 := ck_m167) rfl ck_okT1 ck_nil (by decide +kernel)
/-- SL$Bench.copyRow -/
def ck_c812 : ab_C := (167, 101, [.inr (0, 14), .inr (0, 29)], [((29, 0, 9, 120), .inl (0, 11)), ((29, 1, 9, 120), .inl (0, 11)), ((14, 0, 9, 120), .inl (0, 11)), ((14, 1, 9, 120), .inl (0, 11))], [(29, 0, 1, 1080)], [(none, [], [((29, 0, 9, 120), .inl (0, 11)), ((29, 1, 9, 120), .inl (0, 11))], 101)], 1, 41, 0, 0)
def ck_h812 : List ab_Hd := []
set_option maxRecDepth 100000 in
theorem ck_k812 (l : Launch) (D : va_G) (st : Nat → Nat) : ck_Mt gk_G l D st ck_c812 := ab_sound (tr := ck_tr2) (T := ck_T1) (cs := []) (hs := ck_h812) (sp := []) (fuel := 35) l ck_TSgood ck_okCl ck_okDt (M0 := ck_m167) rfl ck_okT1 ck_nil (by decide +kernel)
/-- SL$Bench.copyFrom -/
def ck_c813 : ab_C := (166, 101, [.inr (0, 16), .inr (0, 1)], [((29, 0, 9, 120), .inl (0, 11)), ((29, 1, 9, 120), .inl (0, 11)), ((25, 0, 1, 10), .inr (3, 9)), ((17, 0, 1, 12), .inl (0, 11)), ((16, 0, 1, 1), .inl (0, 12)), ((16, 1, 1, 1), .inr (0, 17)), ((16, 2, 1, 1), .inr (0, 18)), ((16, 3, 1, 1), .inr (0, 19)), ((16, 4, 1, 1), .inr (0, 20)), ((16, 5, 1, 1), .inr (0, 21)), ((16, 6, 1, 1), .inr (0, 22)), ((16, 7, 1, 1), .inr (0, 23)), ((16, 8, 1, 1), .inr (0, 24)), ((16, 10, 1, 1), .inl ((-1), 9)), ((16, 11, 1, 1), .inl (0, 10)), ((16, 12, 1, 1), .inr (0, 25)), ((16, 14, 1, 1), .inl (0, 120)), ((16, 15, 1, 1), .inr (0, 29)), ((14, 0, 9, 120), .inl (0, 11)), ((14, 1, 9, 120), .inl (0, 11)), ((10, 0, 1, 10), .inr (3, 9)), ((2, 0, 1, 12), .inl (0, 11)), ((1, 0, 1, 1), .inl (0, 12)), ((1, 1, 1, 1), .inr (0, 2)), ((1, 2, 1, 1), .inr (0, 3)), ((1, 3, 1, 1), .inr (0, 4)), ((1, 4, 1, 1), .inr (0, 5)), ((1, 5, 1, 1), .inr (0, 6)), ((1, 6, 1, 1), .inr (0, 7)), ((1, 7, 1, 1), .inr (0, 8)), ((1, 8, 1, 1), .inr (0, 9)), ((1, 10, 1, 1), .inl ((-1), 9)), ((1, 11, 1, 1), .inl (0, 10)), ((1, 12, 1, 1), .inr (0, 10)), ((1, 14, 1, 1), .inl (0, 120)), ((1, 15, 1, 1), .inr (0, 14))], [(16, 0, 1, 1), (16, 9, 1, 1), (16, 10, 1, 1), (16, 11, 1, 1), (16, 14, 1, 1), (16, 16, 1, 1), (16, 17, 1, 1), (16, 18, 1, 1), (17, 0, 1, 12), (18, 0, 1, 12), (19, 0, 1, 12), (20, 0, 1, 12), (21, 0, 1, 144), (22, 0, 1, 12), (23, 0, 1, 4), (24, 0, 1, 4), (25, 0, 1, 10), (29, 0, 1, 1080)], [(none, [], [((29, 0, 9, 120), .inl (0, 11)), ((29, 1, 9, 120), .inl (0, 11)), ((17, 0, 1, 12), .inl (0, 11)), ((25, 0, 1, 10), .inr (3, 9)), ((16, 0, 1, 1), .inl (0, 12)), ((16, 10, 1, 1), .inl ((-1), 9)), ((16, 11, 1, 1), .inl (0, 10)), ((16, 14, 1, 1), .inl (0, 120))], 101)], 2, 62, 0, 0)
def ck_h813 : List ab_Hd := [(122, ([(0, 10, 0, (0, 0, 0))], [(2, .inl (0, 1, 0)), (0, .inr (0, 16)), (1, .inr (0, 1))], [], ([((17, 0, 1, 12), .inl (0, 11)), ((29, 0, 9, 120), .inl (0, 11)), ((29, 1, 9, 120), .inl (0, 11)), ((25, 0, 1, 10), .inr (3, 9)), ((16, 0, 1, 1), .inl (0, 12)), ((16, 1, 1, 1), .inr (0, 17)), ((16, 2, 1, 1), .inr (0, 18)), ((16, 3, 1, 1), .inr (0, 19)), ((16, 4, 1, 1), .inr (0, 20)), ((16, 5, 1, 1), .inr (0, 21)), ((16, 6, 1, 1), .inr (0, 22)), ((16, 7, 1, 1), .inr (0, 23)), ((16, 8, 1, 1), .inr (0, 24)), ((16, 10, 1, 1), .inl ((-1), 9)), ((16, 11, 1, 1), .inl (0, 10)), ((16, 12, 1, 1), .inr (0, 25)), ((16, 14, 1, 1), .inl (0, 120)), ((16, 15, 1, 1), .inr (0, 29)), ((14, 0, 9, 120), .inl (0, 11)), ((14, 1, 9, 120), .inl (0, 11)), ((10, 0, 1, 10), .inr (3, 9)), ((2, 0, 1, 12), .inl (0, 11)), ((1, 0, 1, 1), .inl (0, 12)), ((1, 1, 1, 1), .inr (0, 2)), ((1, 2, 1, 1), .inr (0, 3)), ((1, 3, 1, 1), .inr (0, 4)), ((1, 4, 1, 1), .inr (0, 5)), ((1, 5, 1, 1), .inr (0, 6)), ((1, 6, 1, 1), .inr (0, 7)), ((1, 7, 1, 1), .inr (0, 8)), ((1, 8, 1, 1), .inr (0, 9)), ((1, 10, 1, 1), .inl ((-1), 9)), ((1, 11, 1, 1), .inl (0, 10)), ((1, 12, 1, 1), .inr (0, 10)), ((1, 14, 1, 1), .inl (0, 120)), ((1, 15, 1, 1), .inr (0, 14))], []), 101, 0, 0), 0, 0)]
set_option maxRecDepth 100000 in
theorem ck_k813 (l : Launch) (D : va_G) (st : Nat → Nat) : ck_Mt gk_G l D st ck_c813 := ab_sound (tr := ck_tr2) (T := ck_T1) (cs := [ck_c804, ck_c805, ck_c806, ck_c807, ck_c808, ck_c809, ck_c810, ck_c811, ck_c812]) (hs := ck_h813) (sp := []) (fuel := 107) l ck_TSgood ck_okCl ck_okDt (M0 := ck_m166) rfl ck_okT1 (ck_cons (ck_k804 l D st) (ck_cons (ck_k805 l D st) (ck_cons (ck_k806 l D st) (ck_cons (ck_k807 l D st) (ck_cons (ck_k808 l D st) (ck_cons (ck_k809 l D st) (ck_cons (ck_k810 l D st) (ck_cons (ck_k811 l D st) (ck_cons (ck_k812 l D st) ck_nil))))))))) (by decide +kernel)
/-- SL.within -/
def ck_c814 : ab_C := (14, 101, [.inl (1, 1), .inl (0, 0), .inl (1, 1)], [], [], [(some (.inl (1, 1)), [(1, 1), (0, 0), (1, 1)], [], 101)], 0, 0, 0, 0)
def ck_h814 : List ab_Hd := []
set_option maxRecDepth 100000 in
theorem ck_k814 (l : Launch) (D : va_G) (st : Nat → Nat) : ck_Mt gk_G l D st ck_c814 := ab_sound (tr := ck_tr2) (T := ck_T0) (cs := []) (hs := ck_h814) (sp := []) (fuel := 33) l ck_TSgood ck_okCl ck_okDt (M0 := ck_m14) rfl ck_okT0 ck_nil (by decide +kernel)
/-- SL$Bench.copyRow -/
def ck_c815 : ab_C := (167, 101, [.inr (0, 2), .inr (0, 31)], [((31, 0, 1, 12), .inl (0, 11)), ((2, 0, 1, 12), .inl (0, 11))], [(31, 0, 1, 12)], [(none, [], [((31, 0, 1, 12), .inl (0, 11))], 101)], 1, 41, 0, 0)
def ck_h815 : List ab_Hd := []
set_option maxRecDepth 100000 in
theorem ck_k815 (l : Launch) (D : va_G) (st : Nat → Nat) : ck_Mt gk_G l D st ck_c815 := ab_sound (tr := ck_tr2) (T := ck_T1) (cs := []) (hs := ck_h815) (sp := []) (fuel := 35) l ck_TSgood ck_okCl ck_okDt (M0 := ck_m167) rfl ck_okT1 ck_nil (by decide +kernel)
/-- SL$Bench.copyRow -/
def ck_c816 : ab_C := (167, 101, [.inr (0, 3), .inr (0, 32)], [], [(32, 0, 1, 12)], [(none, [], [], 101)], 1, 41, 0, 0)
def ck_h816 : List ab_Hd := []
set_option maxRecDepth 100000 in
theorem ck_k816 (l : Launch) (D : va_G) (st : Nat → Nat) : ck_Mt gk_G l D st ck_c816 := ab_sound (tr := ck_tr2) (T := ck_T1) (cs := []) (hs := ck_h816) (sp := []) (fuel := 35) l ck_TSgood ck_okCl ck_okDt (M0 := ck_m167) rfl ck_okT1 ck_nil (by decide +kernel)
/-- SL$Bench.copyRow -/
def ck_c817 : ab_C := (167, 101, [.inr (0, 4), .inr (0, 33)], [], [(33, 0, 1, 12)], [(none, [], [], 101)], 1, 41, 0, 0)
def ck_h817 : List ab_Hd := []
set_option maxRecDepth 100000 in
theorem ck_k817 (l : Launch) (D : va_G) (st : Nat → Nat) : ck_Mt gk_G l D st ck_c817 := ab_sound (tr := ck_tr2) (T := ck_T1) (cs := []) (hs := ck_h817) (sp := []) (fuel := 35) l ck_TSgood ck_okCl ck_okDt (M0 := ck_m167) rfl ck_okT1 ck_nil (by decide +kernel)
/-- SL$Bench.copyRow -/
def ck_c818 : ab_C := (167, 101, [.inr (0, 5), .inr (0, 34)], [], [(34, 0, 1, 12)], [(none, [], [], 101)], 1, 41, 0, 0)
def ck_h818 : List ab_Hd := []
set_option maxRecDepth 100000 in
theorem ck_k818 (l : Launch) (D : va_G) (st : Nat → Nat) : ck_Mt gk_G l D st ck_c818 := ab_sound (tr := ck_tr2) (T := ck_T1) (cs := []) (hs := ck_h818) (sp := []) (fuel := 35) l ck_TSgood ck_okCl ck_okDt (M0 := ck_m167) rfl ck_okT1 ck_nil (by decide +kernel)
/-- SL$Bench.copyRow -/
def ck_c819 : ab_C := (167, 101, [.inr (0, 6), .inr (0, 35)], [], [(35, 0, 1, 144)], [(none, [], [], 101)], 1, 41, 0, 0)
def ck_h819 : List ab_Hd := []
set_option maxRecDepth 100000 in
theorem ck_k819 (l : Launch) (D : va_G) (st : Nat → Nat) : ck_Mt gk_G l D st ck_c819 := ab_sound (tr := ck_tr2) (T := ck_T1) (cs := []) (hs := ck_h819) (sp := []) (fuel := 35) l ck_TSgood ck_okCl ck_okDt (M0 := ck_m167) rfl ck_okT1 ck_nil (by decide +kernel)
/-- SL$Bench.copyRow -/
def ck_c820 : ab_C := (167, 101, [.inr (0, 7), .inr (0, 36)], [], [(36, 0, 1, 12)], [(none, [], [], 101)], 1, 41, 0, 0)
def ck_h820 : List ab_Hd := []
set_option maxRecDepth 100000 in
theorem ck_k820 (l : Launch) (D : va_G) (st : Nat → Nat) : ck_Mt gk_G l D st ck_c820 := ab_sound (tr := ck_tr2) (T := ck_T1) (cs := []) (hs := ck_h820) (sp := []) (fuel := 35) l ck_TSgood ck_okCl ck_okDt (M0 := ck_m167) rfl ck_okT1 ck_nil (by decide +kernel)
/-- SL$Bench.copyRow -/
def ck_c821 : ab_C := (167, 101, [.inr (0, 8), .inr (0, 37)], [], [(37, 0, 1, 4)], [(none, [], [], 101)], 1, 41, 0, 0)
def ck_h821 : List ab_Hd := []
set_option maxRecDepth 100000 in
theorem ck_k821 (l : Launch) (D : va_G) (st : Nat → Nat) : ck_Mt gk_G l D st ck_c821 := ab_sound (tr := ck_tr2) (T := ck_T1) (cs := []) (hs := ck_h821) (sp := []) (fuel := 35) l ck_TSgood ck_okCl ck_okDt (M0 := ck_m167) rfl ck_okT1 ck_nil (by decide +kernel)
/-- SL$Bench.copyRow -/
def ck_c822 : ab_C := (167, 101, [.inr (0, 9), .inr (0, 38)], [], [(38, 0, 1, 4)], [(none, [], [], 101)], 1, 41, 0, 0)
def ck_h822 : List ab_Hd := []
set_option maxRecDepth 100000 in
theorem ck_k822 (l : Launch) (D : va_G) (st : Nat → Nat) : ck_Mt gk_G l D st ck_c822 := ab_sound (tr := ck_tr2) (T := ck_T1) (cs := []) (hs := ck_h822) (sp := []) (fuel := 35) l ck_TSgood ck_okCl ck_okDt (M0 := ck_m167) rfl ck_okT1 ck_nil (by decide +kernel)
/-- SL$Bench.copyRow -/
def ck_c823 : ab_C := (167, 101, [.inr (0, 14), .inr (0, 43)], [((43, 0, 9, 120), .inl (0, 11)), ((43, 1, 9, 120), .inl (0, 11)), ((14, 0, 9, 120), .inl (0, 11)), ((14, 1, 9, 120), .inl (0, 11))], [(43, 0, 1, 1080)], [(none, [], [((43, 0, 9, 120), .inl (0, 11)), ((43, 1, 9, 120), .inl (0, 11))], 101)], 1, 41, 0, 0)
def ck_h823 : List ab_Hd := []
set_option maxRecDepth 100000 in
theorem ck_k823 (l : Launch) (D : va_G) (st : Nat → Nat) : ck_Mt gk_G l D st ck_c823 := ab_sound (tr := ck_tr2) (T := ck_T1) (cs := []) (hs := ck_h823) (sp := []) (fuel := 35) l ck_TSgood ck_okCl ck_okDt (M0 := ck_m167) rfl ck_okT1 ck_nil (by decide +kernel)
/-- SL$Bench.copyFrom -/
def ck_c824 : ab_C := (166, 101, [.inr (0, 30), .inr (0, 1)], [((43, 0, 9, 120), .inl (0, 11)), ((43, 1, 9, 120), .inl (0, 11)), ((39, 0, 1, 10), .inr (3, 9)), ((31, 0, 1, 12), .inl (0, 11)), ((30, 0, 1, 1), .inl (0, 12)), ((30, 1, 1, 1), .inr (0, 31)), ((30, 2, 1, 1), .inr (0, 32)), ((30, 3, 1, 1), .inr (0, 33)), ((30, 4, 1, 1), .inr (0, 34)), ((30, 5, 1, 1), .inr (0, 35)), ((30, 6, 1, 1), .inr (0, 36)), ((30, 7, 1, 1), .inr (0, 37)), ((30, 8, 1, 1), .inr (0, 38)), ((30, 10, 1, 1), .inl ((-1), 9)), ((30, 11, 1, 1), .inl (0, 10)), ((30, 12, 1, 1), .inr (0, 39)), ((30, 14, 1, 1), .inl (0, 120)), ((30, 15, 1, 1), .inr (0, 43)), ((14, 0, 9, 120), .inl (0, 11)), ((14, 1, 9, 120), .inl (0, 11)), ((10, 0, 1, 10), .inr (3, 9)), ((2, 0, 1, 12), .inl (0, 11)), ((1, 0, 1, 1), .inl (0, 12)), ((1, 1, 1, 1), .inr (0, 2)), ((1, 2, 1, 1), .inr (0, 3)), ((1, 3, 1, 1), .inr (0, 4)), ((1, 4, 1, 1), .inr (0, 5)), ((1, 5, 1, 1), .inr (0, 6)), ((1, 6, 1, 1), .inr (0, 7)), ((1, 7, 1, 1), .inr (0, 8)), ((1, 8, 1, 1), .inr (0, 9)), ((1, 10, 1, 1), .inl ((-1), 9)), ((1, 11, 1, 1), .inl (0, 10)), ((1, 12, 1, 1), .inr (0, 10)), ((1, 14, 1, 1), .inl (0, 120)), ((1, 15, 1, 1), .inr (0, 14))], [(30, 0, 1, 1), (30, 9, 1, 1), (30, 10, 1, 1), (30, 11, 1, 1), (30, 14, 1, 1), (30, 16, 1, 1), (30, 17, 1, 1), (30, 18, 1, 1), (31, 0, 1, 12), (32, 0, 1, 12), (33, 0, 1, 12), (34, 0, 1, 12), (35, 0, 1, 144), (36, 0, 1, 12), (37, 0, 1, 4), (38, 0, 1, 4), (39, 0, 1, 10), (43, 0, 1, 1080)], [(none, [], [((43, 0, 9, 120), .inl (0, 11)), ((43, 1, 9, 120), .inl (0, 11)), ((31, 0, 1, 12), .inl (0, 11)), ((39, 0, 1, 10), .inr (3, 9)), ((30, 0, 1, 1), .inl (0, 12)), ((30, 10, 1, 1), .inl ((-1), 9)), ((30, 11, 1, 1), .inl (0, 10)), ((30, 14, 1, 1), .inl (0, 120))], 101)], 2, 62, 0, 0)
def ck_h824 : List ab_Hd := [(122, ([(0, 10, 0, (0, 0, 0))], [(2, .inl (0, 1, 0)), (0, .inr (0, 30)), (1, .inr (0, 1))], [], ([((31, 0, 1, 12), .inl (0, 11)), ((43, 0, 9, 120), .inl (0, 11)), ((43, 1, 9, 120), .inl (0, 11)), ((39, 0, 1, 10), .inr (3, 9)), ((30, 0, 1, 1), .inl (0, 12)), ((30, 1, 1, 1), .inr (0, 31)), ((30, 2, 1, 1), .inr (0, 32)), ((30, 3, 1, 1), .inr (0, 33)), ((30, 4, 1, 1), .inr (0, 34)), ((30, 5, 1, 1), .inr (0, 35)), ((30, 6, 1, 1), .inr (0, 36)), ((30, 7, 1, 1), .inr (0, 37)), ((30, 8, 1, 1), .inr (0, 38)), ((30, 10, 1, 1), .inl ((-1), 9)), ((30, 11, 1, 1), .inl (0, 10)), ((30, 12, 1, 1), .inr (0, 39)), ((30, 14, 1, 1), .inl (0, 120)), ((30, 15, 1, 1), .inr (0, 43)), ((14, 0, 9, 120), .inl (0, 11)), ((14, 1, 9, 120), .inl (0, 11)), ((10, 0, 1, 10), .inr (3, 9)), ((2, 0, 1, 12), .inl (0, 11)), ((1, 0, 1, 1), .inl (0, 12)), ((1, 1, 1, 1), .inr (0, 2)), ((1, 2, 1, 1), .inr (0, 3)), ((1, 3, 1, 1), .inr (0, 4)), ((1, 4, 1, 1), .inr (0, 5)), ((1, 5, 1, 1), .inr (0, 6)), ((1, 6, 1, 1), .inr (0, 7)), ((1, 7, 1, 1), .inr (0, 8)), ((1, 8, 1, 1), .inr (0, 9)), ((1, 10, 1, 1), .inl ((-1), 9)), ((1, 11, 1, 1), .inl (0, 10)), ((1, 12, 1, 1), .inr (0, 10)), ((1, 14, 1, 1), .inl (0, 120)), ((1, 15, 1, 1), .inr (0, 14))], []), 101, 0, 0), 0, 0)]
set_option maxRecDepth 100000 in
theorem ck_k824 (l : Launch) (D : va_G) (st : Nat → Nat) : ck_Mt gk_G l D st ck_c824 := ab_sound (tr := ck_tr2) (T := ck_T1) (cs := [ck_c815, ck_c816, ck_c817, ck_c818, ck_c819, ck_c820, ck_c821, ck_c822, ck_c823]) (hs := ck_h824) (sp := []) (fuel := 107) l ck_TSgood ck_okCl ck_okDt (M0 := ck_m166) rfl ck_okT1 (ck_cons (ck_k815 l D st) (ck_cons (ck_k816 l D st) (ck_cons (ck_k817 l D st) (ck_cons (ck_k818 l D st) (ck_cons (ck_k819 l D st) (ck_cons (ck_k820 l D st) (ck_cons (ck_k821 l D st) (ck_cons (ck_k822 l D st) (ck_cons (ck_k823 l D st) ck_nil))))))))) (by decide +kernel)
/-- SL.within -/
def ck_c825 : ab_C := (14, 101, [.inl (2, 2147483647), .inl (0, 0), .inl (1, 1)], [], [], [(some (.inl (0, 0)), [(2, 2147483647), (0, 0), (1, 1)], [], 101)], 0, 0, 0, 0)
def ck_h825 : List ab_Hd := []
set_option maxRecDepth 100000 in
theorem ck_k825 (l : Launch) (D : va_G) (st : Nat → Nat) : ck_Mt gk_G l D st ck_c825 := ab_sound (tr := ck_tr2) (T := ck_T0) (cs := []) (hs := ck_h825) (sp := []) (fuel := 32) l ck_TSgood ck_okCl ck_okDt (M0 := ck_m14) rfl ck_okT0 ck_nil (by decide +kernel)
/-- SL.image -/
def ck_c826 : ab_C := (165, 101, [.inr (0, 0), .inl ((-2147483648), 2147483647)], [((44, 0, 1, 2), .inl (0, 1)), ((43, 0, 9, 120), .inl (0, 11)), ((43, 1, 9, 120), .inl (0, 11)), ((39, 0, 1, 10), .inr (3, 9)), ((31, 0, 1, 12), .inl (0, 11)), ((30, 0, 1, 1), .inl (0, 12)), ((30, 1, 1, 1), .inr (0, 31)), ((30, 2, 1, 1), .inr (0, 32)), ((30, 3, 1, 1), .inr (0, 33)), ((30, 4, 1, 1), .inr (0, 34)), ((30, 5, 1, 1), .inr (0, 35)), ((30, 6, 1, 1), .inr (0, 36)), ((30, 7, 1, 1), .inr (0, 37)), ((30, 8, 1, 1), .inr (0, 38)), ((30, 10, 1, 1), .inl ((-1), 9)), ((30, 11, 1, 1), .inl (0, 10)), ((30, 12, 1, 1), .inr (0, 39)), ((30, 14, 1, 1), .inl (0, 120)), ((30, 15, 1, 1), .inr (0, 43)), ((29, 0, 9, 120), .inl (0, 11)), ((29, 1, 9, 120), .inl (0, 11)), ((25, 0, 1, 10), .inr (3, 9)), ((17, 0, 1, 12), .inl (0, 11)), ((16, 0, 1, 1), .inl (0, 12)), ((16, 1, 1, 1), .inr (0, 17)), ((16, 2, 1, 1), .inr (0, 18)), ((16, 3, 1, 1), .inr (0, 19)), ((16, 4, 1, 1), .inr (0, 20)), ((16, 5, 1, 1), .inr (0, 21)), ((16, 6, 1, 1), .inr (0, 22)), ((16, 7, 1, 1), .inr (0, 23)), ((16, 8, 1, 1), .inr (0, 24)), ((16, 10, 1, 1), .inl ((-1), 9)), ((16, 11, 1, 1), .inl (0, 10)), ((16, 12, 1, 1), .inr (0, 25)), ((16, 14, 1, 1), .inl (0, 120)), ((16, 15, 1, 1), .inr (0, 29)), ((15, 0, 1, 1), .inr (0, 16)), ((15, 1, 1, 1), .inr (0, 30)), ((14, 0, 9, 120), .inl (0, 11)), ((14, 1, 9, 120), .inl (0, 11)), ((10, 0, 1, 10), .inr (3, 9)), ((2, 0, 1, 12), .inl (0, 11)), ((1, 0, 1, 1), .inl (0, 12)), ((1, 1, 1, 1), .inr (0, 2)), ((1, 2, 1, 1), .inr (0, 3)), ((1, 3, 1, 1), .inr (0, 4)), ((1, 4, 1, 1), .inr (0, 5)), ((1, 5, 1, 1), .inr (0, 6)), ((1, 6, 1, 1), .inr (0, 7)), ((1, 7, 1, 1), .inr (0, 8)), ((1, 8, 1, 1), .inr (0, 9)), ((1, 10, 1, 1), .inl ((-1), 9)), ((1, 11, 1, 1), .inl (0, 10)), ((1, 12, 1, 1), .inr (0, 10)), ((1, 14, 1, 1), .inl (0, 120)), ((1, 15, 1, 1), .inr (0, 14)), ((0, 0, 1, 1), .inr (0, 1)), ((0, 1, 1, 1), .inr (0, 15)), ((0, 2, 1, 1), .inr (0, 44))], [(0, 14, 1, 1), (16, 0, 1, 1), (16, 9, 1, 1), (16, 10, 1, 1), (16, 11, 1, 1), (16, 14, 1, 1), (16, 16, 1, 1), (16, 17, 1, 1), (16, 18, 1, 1), (17, 0, 1, 12), (18, 0, 1, 12), (19, 0, 1, 12), (20, 0, 1, 12), (21, 0, 1, 144), (22, 0, 1, 12), (23, 0, 1, 4), (24, 0, 1, 4), (25, 0, 1, 10), (29, 0, 1, 1080), (30, 0, 1, 1), (30, 9, 1, 1), (30, 10, 1, 1), (30, 11, 1, 1), (30, 14, 1, 1), (30, 16, 1, 1), (30, 17, 1, 1), (30, 18, 1, 1), (31, 0, 1, 12), (32, 0, 1, 12), (33, 0, 1, 12), (34, 0, 1, 12), (35, 0, 1, 144), (36, 0, 1, 12), (37, 0, 1, 4), (38, 0, 1, 4), (39, 0, 1, 10), (43, 0, 1, 1080), (44, 0, 16, 12), (44, 1, 16, 12)], [(some (.inl ((-1), (-1))), [((-2147483648), (-1))], [((0, 14, 1, 1), .inl ((-1), (-1))), ((44, 0, 1, 2), .inl (0, 1)), ((43, 0, 9, 120), .inl (0, 11)), ((43, 1, 9, 120), .inl (0, 11)), ((39, 0, 1, 10), .inr (3, 9)), ((31, 0, 1, 12), .inl (0, 11)), ((30, 0, 1, 1), .inl (0, 12)), ((30, 10, 1, 1), .inl ((-1), 9)), ((30, 11, 1, 1), .inl (0, 10)), ((30, 14, 1, 1), .inl (0, 120)), ((29, 0, 9, 120), .inl (0, 11)), ((29, 1, 9, 120), .inl (0, 11)), ((25, 0, 1, 10), .inr (3, 9)), ((17, 0, 1, 12), .inl (0, 11)), ((16, 0, 1, 1), .inl (0, 12)), ((16, 10, 1, 1), .inl ((-1), 9)), ((16, 11, 1, 1), .inl (0, 10)), ((16, 14, 1, 1), .inl (0, 120))], 101), (some (.inl (0, 0)), [(0, 0)], [((44, 0, 1, 1), .inl (1, 1)), ((0, 14, 1, 1), .inl (0, 0)), ((29, 0, 9, 120), .inl (0, 11)), ((29, 1, 9, 120), .inl (0, 11)), ((17, 0, 1, 12), .inl (0, 11)), ((25, 0, 1, 10), .inr (3, 9)), ((16, 0, 1, 1), .inl (0, 12)), ((16, 10, 1, 1), .inl ((-1), 9)), ((16, 11, 1, 1), .inl (0, 10)), ((16, 14, 1, 1), .inl (0, 120)), ((44, 0, 1, 2), .inl (0, 1)), ((43, 0, 9, 120), .inl (0, 11)), ((43, 1, 9, 120), .inl (0, 11)), ((39, 0, 1, 10), .inr (3, 9)), ((31, 0, 1, 12), .inl (0, 11)), ((30, 0, 1, 1), .inl (0, 12)), ((30, 10, 1, 1), .inl ((-1), 9)), ((30, 11, 1, 1), .inl (0, 10)), ((30, 14, 1, 1), .inl (0, 120))], 101), (some (.inl (0, 0)), [(1, 1)], [((44, 1, 1, 1), .inl (1, 1)), ((0, 14, 1, 1), .inl (0, 0)), ((43, 0, 9, 120), .inl (0, 11)), ((43, 1, 9, 120), .inl (0, 11)), ((31, 0, 1, 12), .inl (0, 11)), ((39, 0, 1, 10), .inr (3, 9)), ((30, 0, 1, 1), .inl (0, 12)), ((30, 10, 1, 1), .inl ((-1), 9)), ((30, 11, 1, 1), .inl (0, 10)), ((30, 14, 1, 1), .inl (0, 120)), ((44, 0, 1, 2), .inl (0, 1)), ((29, 0, 9, 120), .inl (0, 11)), ((29, 1, 9, 120), .inl (0, 11)), ((25, 0, 1, 10), .inr (3, 9)), ((17, 0, 1, 12), .inl (0, 11)), ((16, 0, 1, 1), .inl (0, 12)), ((16, 10, 1, 1), .inl ((-1), 9)), ((16, 11, 1, 1), .inl (0, 10)), ((16, 14, 1, 1), .inl (0, 120))], 101), (some (.inl ((-1), (-1))), [(2, 2147483647)], [((0, 14, 1, 1), .inl ((-1), (-1))), ((44, 0, 1, 2), .inl (0, 1)), ((43, 0, 9, 120), .inl (0, 11)), ((43, 1, 9, 120), .inl (0, 11)), ((39, 0, 1, 10), .inr (3, 9)), ((31, 0, 1, 12), .inl (0, 11)), ((30, 0, 1, 1), .inl (0, 12)), ((30, 10, 1, 1), .inl ((-1), 9)), ((30, 11, 1, 1), .inl (0, 10)), ((30, 14, 1, 1), .inl (0, 120)), ((29, 0, 9, 120), .inl (0, 11)), ((29, 1, 9, 120), .inl (0, 11)), ((25, 0, 1, 10), .inr (3, 9)), ((17, 0, 1, 12), .inl (0, 11)), ((16, 0, 1, 1), .inl (0, 12)), ((16, 10, 1, 1), .inl ((-1), 9)), ((16, 11, 1, 1), .inl (0, 10)), ((16, 14, 1, 1), .inl (0, 120))], 101)], 3, 84, 0, 0)
def ck_h826 : List ab_Hd := []
set_option maxRecDepth 100000 in
theorem ck_k826 (l : Launch) (D : va_G) (st : Nat → Nat) : ck_Mt gk_G l D st ck_c826 := ab_sound (tr := ck_tr2) (T := ck_T0) (cs := [ck_c802, ck_c149, ck_c803, ck_c813, ck_c360, ck_c814, ck_c824, ck_c825]) (hs := ck_h826) (sp := [(0, 0, (-1)), (0, 0, 0), (0, 0, 1)]) (fuel := 48) l ck_TSgood ck_okCl ck_okDt (M0 := ck_m165) rfl ck_okT0 (ck_cons (ck_k802 l D st) (ck_cons (ck_k149 l D st) (ck_cons (ck_k803 l D st) (ck_cons (ck_k813 l D st) (ck_cons (ck_k360 l D st) (ck_cons (ck_k814 l D st) (ck_cons (ck_k824 l D st) (ck_cons (ck_k825 l D st) ck_nil)))))))) (by decide +kernel)
/-- SL$Bench.copyRow -/
def ck_c827 : ab_C := (167, 101, [.inr (0, 17), .inr (0, 2)], [((17, 0, 1, 12), .inl (0, 11)), ((2, 0, 1, 12), .inl (0, 11))], [(2, 0, 1, 12)], [(none, [], [((2, 0, 1, 12), .inl (0, 11))], 101)], 1, 41, 0, 0)
def ck_h827 : List ab_Hd := []
set_option maxRecDepth 100000 in
theorem ck_k827 (l : Launch) (D : va_G) (st : Nat → Nat) : ck_Mt gk_G l D st ck_c827 := ab_sound (tr := ck_tr2) (T := ck_T1) (cs := []) (hs := ck_h827) (sp := []) (fuel := 35) l ck_TSgood ck_okCl ck_okDt (M0 := ck_m167) rfl ck_okT1 ck_nil (by decide +kernel)
/-- SL$Bench.copyRow -/
def ck_c828 : ab_C := (167, 101, [.inr (0, 18), .inr (0, 3)], [], [(3, 0, 1, 12)], [(none, [], [], 101)], 1, 41, 0, 0)
def ck_h828 : List ab_Hd := []
set_option maxRecDepth 100000 in
theorem ck_k828 (l : Launch) (D : va_G) (st : Nat → Nat) : ck_Mt gk_G l D st ck_c828 := ab_sound (tr := ck_tr2) (T := ck_T1) (cs := []) (hs := ck_h828) (sp := []) (fuel := 35) l ck_TSgood ck_okCl ck_okDt (M0 := ck_m167) rfl ck_okT1 ck_nil (by decide +kernel)
/-- SL$Bench.copyRow -/
def ck_c829 : ab_C := (167, 101, [.inr (0, 19), .inr (0, 4)], [], [(4, 0, 1, 12)], [(none, [], [], 101)], 1, 41, 0, 0)
def ck_h829 : List ab_Hd := []
set_option maxRecDepth 100000 in
theorem ck_k829 (l : Launch) (D : va_G) (st : Nat → Nat) : ck_Mt gk_G l D st ck_c829 := ab_sound (tr := ck_tr2) (T := ck_T1) (cs := []) (hs := ck_h829) (sp := []) (fuel := 35) l ck_TSgood ck_okCl ck_okDt (M0 := ck_m167) rfl ck_okT1 ck_nil (by decide +kernel)
/-- SL$Bench.copyRow -/
def ck_c830 : ab_C := (167, 101, [.inr (0, 20), .inr (0, 5)], [], [(5, 0, 1, 12)], [(none, [], [], 101)], 1, 41, 0, 0)
def ck_h830 : List ab_Hd := []
set_option maxRecDepth 100000 in
theorem ck_k830 (l : Launch) (D : va_G) (st : Nat → Nat) : ck_Mt gk_G l D st ck_c830 := ab_sound (tr := ck_tr2) (T := ck_T1) (cs := []) (hs := ck_h830) (sp := []) (fuel := 35) l ck_TSgood ck_okCl ck_okDt (M0 := ck_m167) rfl ck_okT1 ck_nil (by decide +kernel)
/-- SL$Bench.copyRow -/
def ck_c831 : ab_C := (167, 101, [.inr (0, 21), .inr (0, 6)], [], [(6, 0, 1, 144)], [(none, [], [], 101)], 1, 41, 0, 0)
def ck_h831 : List ab_Hd := []
set_option maxRecDepth 100000 in
theorem ck_k831 (l : Launch) (D : va_G) (st : Nat → Nat) : ck_Mt gk_G l D st ck_c831 := ab_sound (tr := ck_tr2) (T := ck_T1) (cs := []) (hs := ck_h831) (sp := []) (fuel := 35) l ck_TSgood ck_okCl ck_okDt (M0 := ck_m167) rfl ck_okT1 ck_nil (by decide +kernel)
/-- SL$Bench.copyRow -/
def ck_c832 : ab_C := (167, 101, [.inr (0, 22), .inr (0, 7)], [], [(7, 0, 1, 12)], [(none, [], [], 101)], 1, 41, 0, 0)
def ck_h832 : List ab_Hd := []
set_option maxRecDepth 100000 in
theorem ck_k832 (l : Launch) (D : va_G) (st : Nat → Nat) : ck_Mt gk_G l D st ck_c832 := ab_sound (tr := ck_tr2) (T := ck_T1) (cs := []) (hs := ck_h832) (sp := []) (fuel := 35) l ck_TSgood ck_okCl ck_okDt (M0 := ck_m167) rfl ck_okT1 ck_nil (by decide +kernel)
/-- SL$Bench.copyRow -/
def ck_c833 : ab_C := (167, 101, [.inr (0, 23), .inr (0, 8)], [], [(8, 0, 1, 4)], [(none, [], [], 101)], 1, 41, 0, 0)
def ck_h833 : List ab_Hd := []
set_option maxRecDepth 100000 in
theorem ck_k833 (l : Launch) (D : va_G) (st : Nat → Nat) : ck_Mt gk_G l D st ck_c833 := ab_sound (tr := ck_tr2) (T := ck_T1) (cs := []) (hs := ck_h833) (sp := []) (fuel := 35) l ck_TSgood ck_okCl ck_okDt (M0 := ck_m167) rfl ck_okT1 ck_nil (by decide +kernel)
/-- SL$Bench.copyRow -/
def ck_c834 : ab_C := (167, 101, [.inr (0, 24), .inr (0, 9)], [], [(9, 0, 1, 4)], [(none, [], [], 101)], 1, 41, 0, 0)
def ck_h834 : List ab_Hd := []
set_option maxRecDepth 100000 in
theorem ck_k834 (l : Launch) (D : va_G) (st : Nat → Nat) : ck_Mt gk_G l D st ck_c834 := ab_sound (tr := ck_tr2) (T := ck_T1) (cs := []) (hs := ck_h834) (sp := []) (fuel := 35) l ck_TSgood ck_okCl ck_okDt (M0 := ck_m167) rfl ck_okT1 ck_nil (by decide +kernel)
/-- SL$Bench.copyRow -/
def ck_c835 : ab_C := (167, 101, [.inr (0, 29), .inr (0, 14)], [((29, 0, 9, 120), .inl (0, 11)), ((29, 1, 9, 120), .inl (0, 11)), ((14, 0, 9, 120), .inl (0, 11)), ((14, 1, 9, 120), .inl (0, 11))], [(14, 0, 1, 1080)], [(none, [], [((14, 0, 9, 120), .inl (0, 11)), ((14, 1, 9, 120), .inl (0, 11))], 101)], 1, 41, 0, 0)
def ck_h835 : List ab_Hd := []
set_option maxRecDepth 100000 in
theorem ck_k835 (l : Launch) (D : va_G) (st : Nat → Nat) : ck_Mt gk_G l D st ck_c835 := ab_sound (tr := ck_tr2) (T := ck_T1) (cs := []) (hs := ck_h835) (sp := []) (fuel := 35) l ck_TSgood ck_okCl ck_okDt (M0 := ck_m167) rfl ck_okT1 ck_nil (by decide +kernel)
/-- SL$Bench.copyFrom -/
def ck_c836 : ab_C := (166, 101, [.inr (0, 1), .inr (0, 16)], [((29, 0, 9, 120), .inl (0, 11)), ((29, 1, 9, 120), .inl (0, 11)), ((25, 0, 1, 10), .inr (3, 9)), ((17, 0, 1, 12), .inl (0, 11)), ((16, 0, 1, 1), .inl (0, 12)), ((16, 1, 1, 1), .inr (0, 17)), ((16, 2, 1, 1), .inr (0, 18)), ((16, 3, 1, 1), .inr (0, 19)), ((16, 4, 1, 1), .inr (0, 20)), ((16, 5, 1, 1), .inr (0, 21)), ((16, 6, 1, 1), .inr (0, 22)), ((16, 7, 1, 1), .inr (0, 23)), ((16, 8, 1, 1), .inr (0, 24)), ((16, 10, 1, 1), .inl ((-1), 9)), ((16, 11, 1, 1), .inl (0, 10)), ((16, 12, 1, 1), .inr (0, 25)), ((16, 14, 1, 1), .inl (0, 120)), ((16, 15, 1, 1), .inr (0, 29)), ((14, 0, 9, 120), .inl (0, 11)), ((14, 1, 9, 120), .inl (0, 11)), ((10, 0, 1, 10), .inr (3, 9)), ((2, 0, 1, 12), .inl (0, 11)), ((1, 0, 1, 1), .inl (0, 12)), ((1, 1, 1, 1), .inr (0, 2)), ((1, 2, 1, 1), .inr (0, 3)), ((1, 3, 1, 1), .inr (0, 4)), ((1, 4, 1, 1), .inr (0, 5)), ((1, 5, 1, 1), .inr (0, 6)), ((1, 6, 1, 1), .inr (0, 7)), ((1, 7, 1, 1), .inr (0, 8)), ((1, 8, 1, 1), .inr (0, 9)), ((1, 10, 1, 1), .inl ((-1), 9)), ((1, 11, 1, 1), .inl (0, 10)), ((1, 12, 1, 1), .inr (0, 10)), ((1, 14, 1, 1), .inl (0, 120)), ((1, 15, 1, 1), .inr (0, 14))], [(1, 0, 1, 1), (1, 9, 1, 1), (1, 10, 1, 1), (1, 11, 1, 1), (1, 14, 1, 1), (1, 16, 1, 1), (1, 17, 1, 1), (1, 18, 1, 1), (2, 0, 1, 12), (3, 0, 1, 12), (4, 0, 1, 12), (5, 0, 1, 12), (6, 0, 1, 144), (7, 0, 1, 12), (8, 0, 1, 4), (9, 0, 1, 4), (10, 0, 1, 10), (14, 0, 1, 1080)], [(none, [], [((14, 0, 9, 120), .inl (0, 11)), ((14, 1, 9, 120), .inl (0, 11)), ((2, 0, 1, 12), .inl (0, 11)), ((10, 0, 1, 10), .inr (3, 9)), ((1, 0, 1, 1), .inl (0, 12)), ((1, 10, 1, 1), .inl ((-1), 9)), ((1, 11, 1, 1), .inl (0, 10)), ((1, 14, 1, 1), .inl (0, 120))], 101)], 2, 62, 0, 0)
def ck_h836 : List ab_Hd := [(122, ([(0, 10, 0, (0, 0, 0))], [(2, .inl (0, 1, 0)), (0, .inr (0, 1)), (1, .inr (0, 16))], [], ([((2, 0, 1, 12), .inl (0, 11)), ((29, 0, 9, 120), .inl (0, 11)), ((29, 1, 9, 120), .inl (0, 11)), ((25, 0, 1, 10), .inr (3, 9)), ((17, 0, 1, 12), .inl (0, 11)), ((16, 0, 1, 1), .inl (0, 12)), ((16, 1, 1, 1), .inr (0, 17)), ((16, 2, 1, 1), .inr (0, 18)), ((16, 3, 1, 1), .inr (0, 19)), ((16, 4, 1, 1), .inr (0, 20)), ((16, 5, 1, 1), .inr (0, 21)), ((16, 6, 1, 1), .inr (0, 22)), ((16, 7, 1, 1), .inr (0, 23)), ((16, 8, 1, 1), .inr (0, 24)), ((16, 10, 1, 1), .inl ((-1), 9)), ((16, 11, 1, 1), .inl (0, 10)), ((16, 12, 1, 1), .inr (0, 25)), ((16, 14, 1, 1), .inl (0, 120)), ((16, 15, 1, 1), .inr (0, 29)), ((14, 0, 9, 120), .inl (0, 11)), ((14, 1, 9, 120), .inl (0, 11)), ((10, 0, 1, 10), .inr (3, 9)), ((1, 0, 1, 1), .inl (0, 12)), ((1, 1, 1, 1), .inr (0, 2)), ((1, 2, 1, 1), .inr (0, 3)), ((1, 3, 1, 1), .inr (0, 4)), ((1, 4, 1, 1), .inr (0, 5)), ((1, 5, 1, 1), .inr (0, 6)), ((1, 6, 1, 1), .inr (0, 7)), ((1, 7, 1, 1), .inr (0, 8)), ((1, 8, 1, 1), .inr (0, 9)), ((1, 10, 1, 1), .inl ((-1), 9)), ((1, 11, 1, 1), .inl (0, 10)), ((1, 12, 1, 1), .inr (0, 10)), ((1, 14, 1, 1), .inl (0, 120)), ((1, 15, 1, 1), .inr (0, 14))], []), 101, 0, 0), 0, 0)]
set_option maxRecDepth 100000 in
theorem ck_k836 (l : Launch) (D : va_G) (st : Nat → Nat) : ck_Mt gk_G l D st ck_c836 := ab_sound (tr := ck_tr2) (T := ck_T1) (cs := [ck_c827, ck_c828, ck_c829, ck_c830, ck_c831, ck_c832, ck_c833, ck_c834, ck_c835]) (hs := ck_h836) (sp := []) (fuel := 107) l ck_TSgood ck_okCl ck_okDt (M0 := ck_m166) rfl ck_okT1 (ck_cons (ck_k827 l D st) (ck_cons (ck_k828 l D st) (ck_cons (ck_k829 l D st) (ck_cons (ck_k830 l D st) (ck_cons (ck_k831 l D st) (ck_cons (ck_k832 l D st) (ck_cons (ck_k833 l D st) (ck_cons (ck_k834 l D st) (ck_cons (ck_k835 l D st) ck_nil))))))))) (by decide +kernel)
/-- SL$Bench.copyRow -/
def ck_c837 : ab_C := (167, 101, [.inr (0, 31), .inr (0, 2)], [((31, 0, 1, 12), .inl (0, 11)), ((2, 0, 1, 12), .inl (0, 11))], [(2, 0, 1, 12)], [(none, [], [((2, 0, 1, 12), .inl (0, 11))], 101)], 1, 41, 0, 0)
def ck_h837 : List ab_Hd := []
set_option maxRecDepth 100000 in
theorem ck_k837 (l : Launch) (D : va_G) (st : Nat → Nat) : ck_Mt gk_G l D st ck_c837 := ab_sound (tr := ck_tr2) (T := ck_T1) (cs := []) (hs := ck_h837) (sp := []) (fuel := 35) l ck_TSgood ck_okCl ck_okDt (M0 := ck_m167) rfl ck_okT1 ck_nil (by decide +kernel)
/-- SL$Bench.copyRow -/
def ck_c838 : ab_C := (167, 101, [.inr (0, 32), .inr (0, 3)], [], [(3, 0, 1, 12)], [(none, [], [], 101)], 1, 41, 0, 0)
def ck_h838 : List ab_Hd := []
set_option maxRecDepth 100000 in
theorem ck_k838 (l : Launch) (D : va_G) (st : Nat → Nat) : ck_Mt gk_G l D st ck_c838 := ab_sound (tr := ck_tr2) (T := ck_T1) (cs := []) (hs := ck_h838) (sp := []) (fuel := 35) l ck_TSgood ck_okCl ck_okDt (M0 := ck_m167) rfl ck_okT1 ck_nil (by decide +kernel)
/-- SL$Bench.copyRow -/
def ck_c839 : ab_C := (167, 101, [.inr (0, 33), .inr (0, 4)], [], [(4, 0, 1, 12)], [(none, [], [], 101)], 1, 41, 0, 0)
def ck_h839 : List ab_Hd := []
set_option maxRecDepth 100000 in
theorem ck_k839 (l : Launch) (D : va_G) (st : Nat → Nat) : ck_Mt gk_G l D st ck_c839 := ab_sound (tr := ck_tr2) (T := ck_T1) (cs := []) (hs := ck_h839) (sp := []) (fuel := 35) l ck_TSgood ck_okCl ck_okDt (M0 := ck_m167) rfl ck_okT1 ck_nil (by decide +kernel)
