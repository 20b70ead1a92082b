/-- SL.within -/
def ck_c440 : ab_C := (14, 101, [.inl ((-2147483648), 2147483647), .inl (1, 1), .inl (15, 15)], [], [], [(some (.inl (0, 0)), [((-2147483648), 0), (1, 1), (15, 15)], [], 101), (some (.inl (0, 0)), [(16, 2147483647), (1, 1), (15, 15)], [], 101), (some (.inl (1, 1)), [(1, 15), (1, 1), (15, 15)], [], 101)], 0, 0, 0, 0)
def ck_h440 : List ab_Hd := []
set_option maxRecDepth 100000 in
theorem ck_k440 (l : Launch) (D : va_G) (st : Nat → Nat) : ck_Mt gk_G l D st ck_c440 := ab_sound (tr := ck_tr2) (T := ck_T0) (cs := []) (hs := ck_h440) (sp := []) (fuel := 33) l ck_TSgood ck_okCl ck_okDt (M0 := ck_m14) rfl ck_okT0 ck_nil (by decide +kernel)
/-- SL$Bench.column -/
def ck_c441 : ab_C := (80, 101, [.inr (0, 1), .inl (0, 119), .inl (2, 2)], [((1, 15, 1, 1), .inr (0, 14))], [], [(some (.inl ((-2147483648), 2147483647)), [(0, 119), (2, 2)], [], 101)], 0, 0, 0, 0)
def ck_h441 : List ab_Hd := []
set_option maxRecDepth 100000 in
theorem ck_k441 (l : Launch) (D : va_G) (st : Nat → Nat) : ck_Mt gk_G l D st ck_c441 := ab_sound (tr := ck_tr2) (T := ck_T1) (cs := []) (hs := ck_h441) (sp := []) (fuel := 33) l ck_TSgood ck_okCl ck_okDt (M0 := ck_m80) rfl ck_okT1 ck_nil (by decide +kernel)
/-- SL$Bench.column -/
def ck_c442 : ab_C := (80, 101, [.inr (0, 1), .inl (0, 119), .inl (3, 3)], [((1, 15, 1, 1), .inr (0, 14))], [], [(some (.inl ((-2147483648), 2147483647)), [(0, 119), (3, 3)], [], 101)], 0, 0, 0, 0)
def ck_h442 : List ab_Hd := []
set_option maxRecDepth 100000 in
theorem ck_k442 (l : Launch) (D : va_G) (st : Nat → Nat) : ck_Mt gk_G l D st ck_c442 := ab_sound (tr := ck_tr2) (T := ck_T1) (cs := []) (hs := ck_h442) (sp := []) (fuel := 33) l ck_TSgood ck_okCl ck_okDt (M0 := ck_m80) rfl ck_okT1 ck_nil (by decide +kernel)
/-- SL$Bench.column -/
def ck_c443 : ab_C := (80, 101, [.inr (0, 1), .inl (0, 119), .inl (4, 4)], [((1, 15, 1, 1), .inr (0, 14))], [], [(some (.inl ((-2147483648), 2147483647)), [(0, 119), (4, 4)], [], 101)], 0, 0, 0, 0)
def ck_h443 : List ab_Hd := []
set_option maxRecDepth 100000 in
theorem ck_k443 (l : Launch) (D : va_G) (st : Nat → Nat) : ck_Mt gk_G l D st ck_c443 := ab_sound (tr := ck_tr2) (T := ck_T1) (cs := []) (hs := ck_h443) (sp := []) (fuel := 33) l ck_TSgood ck_okCl ck_okDt (M0 := ck_m80) rfl ck_okT1 ck_nil (by decide +kernel)
/-- SL$Bench.counts -/
def ck_c444 : ab_C := (84, 101, [.inr (0, 1), .inl (0, 119)], [((1, 16, 1, 1), .inl (1, 7)), ((1, 17, 1, 1), .inl (1, 15)), ((1, 18, 1, 1), .inl (1, 15)), ((1, 15, 1, 1), .inr (0, 14))], [], [(some (.inl (0, 0)), [(0, 119)], [], 101), (some (.inl (1, 1)), [(0, 119)], [], 101)], 1, 22, 0, 0)
def ck_h444 : List ab_Hd := []
set_option maxRecDepth 100000 in
theorem ck_k444 (l : Launch) (D : va_G) (st : Nat → Nat) : ck_Mt gk_G l D st ck_c444 := ab_sound (tr := ck_tr2) (T := ck_T1) (cs := [ck_c433, ck_c441, ck_c442, ck_c443]) (hs := ck_h444) (sp := []) (fuel := 65) l ck_TSgood ck_okCl ck_okDt (M0 := ck_m84) rfl ck_okT1 (ck_cons (ck_k433 l D st) (ck_cons (ck_k441 l D st) (ck_cons (ck_k442 l D st) (ck_cons (ck_k443 l D st) ck_nil)))) (by decide +kernel)
/-- SL.view -/
def ck_c445 : ab_C := (83, 101, [.inr (0, 0), .inl ((-2147483648), 2147483647), .inl ((-2147483648), 2147483647), .inl ((-2147483648), 2147483647)], [((1, 14, 1, 1), .inl (0, 120)), ((1, 15, 1, 1), .inr (0, 14)), ((0, 0, 1, 1), .inr (0, 1))], [(0, 14, 1, 1), (1, 16, 1, 1), (1, 17, 1, 1), (1, 18, 1, 1)], [(some (.inl ((-1), (-1))), [((-2147483648), 0), ((-2147483648), 2147483647), ((-2147483648), 2147483647)], [((0, 14, 1, 1), .inl ((-1), (-1)))], 101), (some (.inl ((-1), (-1))), [(8, 2147483647), ((-2147483648), 2147483647), ((-2147483648), 2147483647)], [((0, 14, 1, 1), .inl ((-1), (-1)))], 101), (some (.inl ((-1), (-1))), [(1, 7), ((-2147483648), 0), ((-2147483648), 2147483647)], [((0, 14, 1, 1), .inl ((-1), (-1)))], 101), (some (.inl ((-1), (-1))), [(1, 7), (16, 2147483647), ((-2147483648), 2147483647)], [((0, 14, 1, 1), .inl ((-1), (-1)))], 101), (some (.inl ((-1), (-1))), [(1, 7), (1, 15), ((-2147483648), 0)], [((0, 14, 1, 1), .inl ((-1), (-1)))], 101), (some (.inl ((-1), (-1))), [(1, 7), (1, 15), (16, 2147483647)], [((0, 14, 1, 1), .inl ((-1), (-1)))], 101), (some (.inl ((-2147483648), 2147483647)), [(1, 7), (1, 15), (1, 15)], [((0, 14, 1, 1), .inl (0, 0)), ((1, 16, 1, 1), .inl (1, 7)), ((1, 17, 1, 1), .inl (1, 15)), ((1, 18, 1, 1), .inl (1, 15))], 101)], 2, 43, 0, 0)
def ck_h445 : List ab_Hd := [(66, ([(1, 7, 0, (0, 0, 0)), (1, 15, 0, (0, 0, 0)), (1, 15, 0, (0, 0, 0)), (0, 120, 0, (0, 0, 0)), ((-2147483648), 2147483647, 0, (0, 0, 0))], [(5, .inl (3, 1, 0)), (4, .inl (4, 1, 0)), (0, .inr (0, 0)), (1, .inl (0, 1, 0)), (2, .inl (1, 1, 0)), (3, .inl (2, 1, 0))], [], ([((1, 16, 1, 1), .inl (1, 7)), ((1, 17, 1, 1), .inl (1, 15)), ((1, 18, 1, 1), .inl (1, 15)), ((1, 14, 1, 1), .inl (0, 120)), ((1, 15, 1, 1), .inr (0, 14)), ((0, 0, 1, 1), .inr (0, 1))], []), 101, 0, 0), 3, 0)]
set_option maxRecDepth 100000 in
theorem ck_k445 (l : Launch) (D : va_G) (st : Nat → Nat) : ck_Mt gk_G l D st ck_c445 := ab_sound (tr := ck_tr2) (T := ck_T0) (cs := [ck_c439, ck_c149, ck_c440, ck_c147, ck_c444]) (hs := ck_h445) (sp := []) (fuel := 69) l ck_TSgood ck_okCl ck_okDt (M0 := ck_m83) rfl ck_okT0 (ck_cons (ck_k439 l D st) (ck_cons (ck_k149 l D st) (ck_cons (ck_k440 l D st) (ck_cons (ck_k147 l D st) (ck_cons (ck_k444 l D st) ck_nil))))) (by decide +kernel)
/-- SLModel.in -/
def ck_c446 : ab_C := (174, 101, [.inl ((-2147483648), 2147483647), .inl (1, 1), .inl (7, 7)], [], [], [(some (.inl (0, 0)), [((-2147483648), 0), (1, 1), (7, 7)], [], 101), (some (.inl (0, 0)), [(8, 2147483647), (1, 1), (7, 7)], [], 101), (some (.inl (1, 1)), [(1, 7), (1, 1), (7, 7)], [], 101)], 0, 0, 0, 0)
def ck_h446 : List ab_Hd := []
set_option maxRecDepth 100000 in
theorem ck_k446 (l : Launch) (D : va_G) (st : Nat → Nat) : ck_Mt gk_G l D st ck_c446 := ab_sound (tr := ck_tr2) (T := ck_T13) (cs := []) (hs := ck_h446) (sp := []) (fuel := 33) l ck_TSgood ck_okCl ck_okDt (M0 := ck_m174) rfl ck_okT13 ck_nil (by decide +kernel)
/-- SLModel.in -/
def ck_c447 : ab_C := (174, 101, [.inl ((-2147483648), 2147483647), .inl (1, 1), .inl (15, 15)], [], [], [(some (.inl (0, 0)), [((-2147483648), 0), (1, 1), (15, 15)], [], 101), (some (.inl (0, 0)), [(16, 2147483647), (1, 1), (15, 15)], [], 101), (some (.inl (1, 1)), [(1, 15), (1, 1), (15, 15)], [], 101)], 0, 0, 0, 0)
def ck_h447 : List ab_Hd := []
set_option maxRecDepth 100000 in
theorem ck_k447 (l : Launch) (D : va_G) (st : Nat → Nat) : ck_Mt gk_G l D st ck_c447 := ab_sound (tr := ck_tr2) (T := ck_T13) (cs := []) (hs := ck_h447) (sp := []) (fuel := 33) l ck_TSgood ck_okCl ck_okDt (M0 := ck_m174) rfl ck_okT13 ck_nil (by decide +kernel)
/-- SLModel.trialOf -/
def ck_c448 : ab_C := (234, 101, [.inr (0, 77), .inl (0, 119), .inl (2, 2)], [((77, 1, 1, 1), .inr (0, 78))], [], [(some (.inl ((-2147483648), 2147483647)), [(0, 119), (2, 2)], [], 101)], 0, 0, 0, 0)
def ck_h448 : List ab_Hd := []
set_option maxRecDepth 100000 in
theorem ck_k448 (l : Launch) (D : va_G) (st : Nat → Nat) : ck_Mt gk_G l D st ck_c448 := ab_sound (tr := ck_tr2) (T := ck_T13) (cs := []) (hs := ck_h448) (sp := []) (fuel := 35) l ck_TSgood ck_okCl ck_okDt (M0 := ck_m234) rfl ck_okT13 ck_nil (by decide +kernel)
/-- SLModel.trialOf -/
def ck_c449 : ab_C := (234, 101, [.inr (0, 77), .inl (0, 119), .inl (3, 3)], [((77, 1, 1, 1), .inr (0, 78))], [], [(some (.inl ((-2147483648), 2147483647)), [(0, 119), (3, 3)], [], 101)], 0, 0, 0, 0)
def ck_h449 : List ab_Hd := []
set_option maxRecDepth 100000 in
theorem ck_k449 (l : Launch) (D : va_G) (st : Nat → Nat) : ck_Mt gk_G l D st ck_c449 := ab_sound (tr := ck_tr2) (T := ck_T13) (cs := []) (hs := ck_h449) (sp := []) (fuel := 35) l ck_TSgood ck_okCl ck_okDt (M0 := ck_m234) rfl ck_okT13 ck_nil (by decide +kernel)
/-- SLModel.trialOf -/
def ck_c450 : ab_C := (234, 101, [.inr (0, 77), .inl (0, 119), .inl (4, 4)], [((77, 1, 1, 1), .inr (0, 78))], [], [(some (.inl ((-2147483648), 2147483647)), [(0, 119), (4, 4)], [], 101)], 0, 0, 0, 0)
def ck_h450 : List ab_Hd := []
set_option maxRecDepth 100000 in
theorem ck_k450 (l : Launch) (D : va_G) (st : Nat → Nat) : ck_Mt gk_G l D st ck_c450 := ab_sound (tr := ck_tr2) (T := ck_T13) (cs := []) (hs := ck_h450) (sp := []) (fuel := 35) l ck_TSgood ck_okCl ck_okDt (M0 := ck_m234) rfl ck_okT13 ck_nil (by decide +kernel)
/-- SLModel.counts -/
def ck_c451 : ab_C := (237, 101, [.inr (0, 77), .inl (0, 119)], [((78, 1297, 1, 1), .inl (1, 7)), ((78, 1298, 1, 1), .inl (1, 15)), ((78, 1299, 1, 1), .inl (1, 15)), ((77, 1, 1, 1), .inr (0, 78))], [], [(some (.inl (0, 0)), [(0, 119)], [], 101), (some (.inl (1, 1)), [(0, 119)], [], 101)], 1, 22, 0, 0)
def ck_h451 : List ab_Hd := []
set_option maxRecDepth 100000 in
theorem ck_k451 (l : Launch) (D : va_G) (st : Nat → Nat) : ck_Mt gk_G l D st ck_c451 := ab_sound (tr := ck_tr2) (T := ck_T13) (cs := [ck_c437, ck_c448, ck_c449, ck_c450]) (hs := ck_h451) (sp := []) (fuel := 71) l ck_TSgood ck_okCl ck_okDt (M0 := ck_m237) rfl ck_okT13 (ck_cons (ck_k437 l D st) (ck_cons (ck_k448 l D st) (ck_cons (ck_k449 l D st) (ck_cons (ck_k450 l D st) ck_nil)))) (by decide +kernel)
/-- SLModel.view -/
def ck_c452 : ab_C := (236, 101, [.inr (0, 77), .inl ((-2147483648), 2147483647), .inl ((-2147483648), 2147483647), .inl ((-2147483648), 2147483647)], [((78, 1293, 1, 1), .inl (0, 120)), ((77, 1, 1, 1), .inr (0, 78))], [(77, 0, 1, 1), (78, 1297, 144, 1), (78, 1298, 144, 1), (78, 1299, 144, 1)], [(some (.inl ((-1), (-1))), [((-2147483648), 0), ((-2147483648), 2147483647), ((-2147483648), 2147483647)], [((77, 0, 1, 1), .inl ((-1), (-1)))], 101), (some (.inl ((-1), (-1))), [(8, 2147483647), ((-2147483648), 2147483647), ((-2147483648), 2147483647)], [((77, 0, 1, 1), .inl ((-1), (-1)))], 101), (some (.inl ((-1), (-1))), [(1, 7), ((-2147483648), 0), ((-2147483648), 2147483647)], [((77, 0, 1, 1), .inl ((-1), (-1)))], 101), (some (.inl ((-1), (-1))), [(1, 7), (16, 2147483647), ((-2147483648), 2147483647)], [((77, 0, 1, 1), .inl ((-1), (-1)))], 101), (some (.inl ((-1), (-1))), [(1, 7), (1, 15), ((-2147483648), 0)], [((77, 0, 1, 1), .inl ((-1), (-1)))], 101), (some (.inl ((-1), (-1))), [(1, 7), (1, 15), (16, 2147483647)], [((77, 0, 1, 1), .inl ((-1), (-1)))], 101), (some (.inl ((-2147483648), 2147483647)), [(1, 7), (1, 15), (1, 15)], [((77, 0, 1, 1), .inl (0, 0)), ((78, 1297, 1, 1), .inl (1, 7)), ((78, 1298, 1, 1), .inl (1, 15)), ((78, 1299, 1, 1), .inl (1, 15))], 101)], 2, 43, 0, 0)
def ck_h452 : List ab_Hd := [(69, ([(1, 7, 0, (0, 0, 0)), (1, 15, 0, (0, 0, 0)), (1, 15, 0, (0, 0, 0)), (0, 120, 0, (0, 0, 0)), ((-2147483648), 2147483647, 0, (0, 0, 0))], [(5, .inl (3, 1, 0)), (4, .inl (4, 1, 0)), (0, .inr (0, 77)), (1, .inl (0, 1, 0)), (2, .inl (1, 1, 0)), (3, .inl (2, 1, 0))], [], ([((78, 1297, 1, 1), .inl (1, 7)), ((78, 1298, 1, 1), .inl (1, 15)), ((78, 1299, 1, 1), .inl (1, 15)), ((78, 1293, 1, 1), .inl (0, 120)), ((77, 1, 1, 1), .inr (0, 78))], []), 101, 0, 0), 3, 0)]
set_option maxRecDepth 100000 in
theorem ck_k452 (l : Launch) (D : va_G) (st : Nat → Nat) : ck_Mt gk_G l D st ck_c452 := ab_sound (tr := ck_tr2) (T := ck_T13) (cs := [ck_c446, ck_c157, ck_c447, ck_c191, ck_c451]) (hs := ck_h452) (sp := []) (fuel := 76) l ck_TSgood ck_okCl ck_okDt (M0 := ck_m236) rfl ck_okT13 (ck_cons (ck_k446 l D st) (ck_cons (ck_k157 l D st) (ck_cons (ck_k447 l D st) (ck_cons (ck_k191 l D st) (ck_cons (ck_k451 l D st) ck_nil))))) (by decide +kernel)
/-- SL.areTwo -/
def ck_c453 : ab_C := (86, 101, [.inr (0, 0), .inl ((-2147483648), 2147483647), .inl ((-2147483648), 2147483647)], [((1, 0, 1, 1), .inl (0, 12)), ((0, 0, 1, 1), .inr (0, 1))], [], [(some (.inl (0, 0)), [((-2147483648), (-1)), ((-2147483648), 2147483647)], [], 101), (some (.inl (0, 0)), [(0, 2147483647), ((-2147483648), 2147483647)], [], 101), (some (.inl (0, 0)), [(0, 11), ((-2147483648), (-1))], [((1, 0, 1, 1), .inl (1, 12))], 101), (some (.inl (0, 0)), [(0, 11), (0, 2147483647)], [((1, 0, 1, 1), .inl (1, 12))], 101), (some (.inl (0, 0)), [(0, 11), (0, 11)], [((1, 0, 1, 1), .inl (1, 12))], 101), (some (.inl (1, 1)), [(0, 11), (0, 11)], [((1, 0, 1, 1), .inl (1, 12))], 101)], 2, 43, 0, 0)
def ck_h453 : List ab_Hd := []
set_option maxRecDepth 100000 in
theorem ck_k453 (l : Launch) (D : va_G) (st : Nat → Nat) : ck_Mt gk_G l D st ck_c453 := ab_sound (tr := ck_tr2) (T := ck_T0) (cs := [ck_c180]) (hs := ck_h453) (sp := []) (fuel := 40) l ck_TSgood ck_okCl ck_okDt (M0 := ck_m86) rfl ck_okT0 (ck_cons (ck_k180 l D st) ck_nil) (by decide +kernel)
/-- java/util/Arrays.fill -/
def ck_c454 : ab_C := (8, 101, [.inr (0, 54), .inl (0, 0)], [], [(54, 0, 1, 144)], [(none, [(0, 0)], [], 101)], 0, 0, 0, 0)
def ck_h454 : List ab_Hd := [(5, ([(0, 0, 0, (0, 0, 0)), (0, 144, 0, (0, 0, 0))], [(3, .inl (0, 0, 144)), (2, .inl (1, 1, 0)), (0, .inr (0, 54)), (1, .inl (0, 1, 0))], [], ([], []), 101, 0, 0), 1, 0)]
set_option maxRecDepth 100000 in
theorem ck_k454 (l : Launch) (D : va_G) (st : Nat → Nat) : ck_Mt gk_G l D st ck_c454 := ab_sound (tr := ck_tr2) (T := ck_T15) (cs := []) (hs := ck_h454) (sp := []) (fuel := 39) l ck_TSgood ck_okCl ck_okDt (M0 := ck_m8) rfl ck_okT15 ck_nil (by decide +kernel)
/-- java/util/Arrays.fill -/
def ck_c455 : ab_C := (8, 101, [.inr (0, 55), .inl (0, 0)], [], [(55, 0, 1, 12)], [(none, [(0, 0)], [], 101)], 0, 0, 0, 0)
def ck_h455 : List ab_Hd := [(5, ([(0, 0, 0, (0, 0, 0)), (0, 12, 0, (0, 0, 0))], [(3, .inl (0, 0, 12)), (2, .inl (1, 1, 0)), (0, .inr (0, 55)), (1, .inl (0, 1, 0))], [], ([], []), 101, 0, 0), 1, 0)]
set_option maxRecDepth 100000 in
theorem ck_k455 (l : Launch) (D : va_G) (st : Nat → Nat) : ck_Mt gk_G l D st ck_c455 := ab_sound (tr := ck_tr2) (T := ck_T15) (cs := []) (hs := ck_h455) (sp := []) (fuel := 39) l ck_TSgood ck_okCl ck_okDt (M0 := ck_m8) rfl ck_okT15 ck_nil (by decide +kernel)
/-- java/util/Arrays.fill -/
def ck_c456 : ab_C := (8, 101, [.inr (0, 56), .inl (0, 0)], [], [(56, 0, 1, 12)], [(none, [(0, 0)], [], 101)], 0, 0, 0, 0)
def ck_h456 : List ab_Hd := [(5, ([(0, 0, 0, (0, 0, 0)), (0, 12, 0, (0, 0, 0))], [(3, .inl (0, 0, 12)), (2, .inl (1, 1, 0)), (0, .inr (0, 56)), (1, .inl (0, 1, 0))], [], ([], []), 101, 0, 0), 1, 0)]
set_option maxRecDepth 100000 in
theorem ck_k456 (l : Launch) (D : va_G) (st : Nat → Nat) : ck_Mt gk_G l D st ck_c456 := ab_sound (tr := ck_tr2) (T := ck_T15) (cs := []) (hs := ck_h456) (sp := []) (fuel := 39) l ck_TSgood ck_okCl ck_okDt (M0 := ck_m8) rfl ck_okT15 ck_nil (by decide +kernel)
/-- java/util/Arrays.fill -/
def ck_c457 : ab_C := (8, 101, [.inr (0, 58), .inl (0, 0)], [], [(58, 0, 1, 12)], [(none, [(0, 0)], [], 101)], 0, 0, 0, 0)
def ck_h457 : List ab_Hd := [(5, ([(0, 0, 0, (0, 0, 0)), (0, 12, 0, (0, 0, 0))], [(3, .inl (0, 0, 12)), (2, .inl (1, 1, 0)), (0, .inr (0, 58)), (1, .inl (0, 1, 0))], [], ([], []), 101, 0, 0), 1, 0)]
set_option maxRecDepth 100000 in
theorem ck_k457 (l : Launch) (D : va_G) (st : Nat → Nat) : ck_Mt gk_G l D st ck_c457 := ab_sound (tr := ck_tr2) (T := ck_T15) (cs := []) (hs := ck_h457) (sp := []) (fuel := 39) l ck_TSgood ck_okCl ck_okDt (M0 := ck_m8) rfl ck_okT15 ck_nil (by decide +kernel)
/-- SL$Ties.close -/
def ck_c458 : ab_C := (90, 101, [.inr (0, 53)], [((1, 0, 1, 1), .inl (1, 12)), ((53, 0, 1, 1), .inr (0, 1)), ((53, 3, 1, 1), .inr (0, 56)), ((53, 4, 1, 1), .inr (0, 57)), ((1, 0, 1, 1), .inl (1, 12))], [(57, 0, 1, 12)], [(none, [], [], 101)], 1, 41, 0, 0)
def ck_h458 : List ab_Hd := [(17, ([(0, 12, 0, (0, 0, 0))], [(1, .inl (0, 1, 0)), (0, .inr (0, 53))], [], ([((1, 0, 1, 1), .inl (1, 12)), ((53, 0, 1, 1), .inr (0, 1)), ((53, 3, 1, 1), .inr (0, 56)), ((53, 4, 1, 1), .inr (0, 57)), ((1, 0, 1, 1), .inl (1, 12))], []), 101, 0, 0), 0, 0), (30, ([(0, 11, 0, (0, 0, 0)), (0, 12, 0, (0, 0, 0))], [(2, .inl (1, 1, 0)), (1, .inl (0, 1, 0)), (0, .inr (0, 53))], [], ([((1, 0, 1, 1), .inl (1, 12)), ((53, 0, 1, 1), .inr (0, 1)), ((53, 3, 1, 1), .inr (0, 56)), ((53, 4, 1, 1), .inr (0, 57)), ((1, 0, 1, 1), .inl (1, 12))], []), 101, 0, 0), 1, 0)]
set_option maxRecDepth 100000 in
theorem ck_k458 (l : Launch) (D : va_G) (st : Nat → Nat) : ck_Mt gk_G l D st ck_c458 := ab_sound (tr := ck_tr2) (T := ck_T11) (cs := []) (hs := ck_h458) (sp := []) (fuel := 70) l ck_TSgood ck_okCl ck_okDt (M0 := ck_m90) rfl ck_okT11 ck_nil (by decide +kernel)
/-- SL$Bench.counts -/
def ck_c459 : ab_C := (84, 101, [.inr (0, 1), .inl (0, 119)], [((1, 15, 1, 1), .inr (0, 14))], [], [(some (.inl (0, 0)), [(0, 119)], [], 101), (some (.inl (1, 1)), [(0, 119)], [], 101)], 1, 22, 0, 0)
def ck_h459 : List ab_Hd := []
set_option maxRecDepth 100000 in
theorem ck_k459 (l : Launch) (D : va_G) (st : Nat → Nat) : ck_Mt gk_G l D st ck_c459 := ab_sound (tr := ck_tr2) (T := ck_T1) (cs := [ck_c433, ck_c441, ck_c442, ck_c443]) (hs := ck_h459) (sp := []) (fuel := 65) l ck_TSgood ck_okCl ck_okDt (M0 := ck_m84) rfl ck_okT1 (ck_cons (ck_k433 l D st) (ck_cons (ck_k441 l D st) (ck_cons (ck_k442 l D st) (ck_cons (ck_k443 l D st) ck_nil)))) (by decide +kernel)
/-- SL$Bench.column -/
def ck_c460 : ab_C := (80, 101, [.inr (0, 1), .inl (0, 119), .inl (0, 0)], [((14, 0, 9, 120), .inl (0, 11)), ((1, 15, 1, 1), .inr (0, 14))], [], [(some (.inl (0, 11)), [(0, 119), (0, 0)], [], 101)], 0, 0, 0, 0)
def ck_h460 : List ab_Hd := []
set_option maxRecDepth 100000 in
theorem ck_k460 (l : Launch) (D : va_G) (st : Nat → Nat) : ck_Mt gk_G l D st ck_c460 := ab_sound (tr := ck_tr2) (T := ck_T1) (cs := []) (hs := ck_h460) (sp := []) (fuel := 33) l ck_TSgood ck_okCl ck_okDt (M0 := ck_m80) rfl ck_okT1 ck_nil (by decide +kernel)
/-- SL$Bench.column -/
def ck_c461 : ab_C := (80, 101, [.inr (0, 1), .inl (0, 119), .inl (1, 1)], [((14, 1, 9, 120), .inl (0, 11)), ((1, 15, 1, 1), .inr (0, 14))], [], [(some (.inl (0, 11)), [(0, 119), (1, 1)], [], 101)], 0, 0, 0, 0)
def ck_h461 : List ab_Hd := []
set_option maxRecDepth 100000 in
theorem ck_k461 (l : Launch) (D : va_G) (st : Nat → Nat) : ck_Mt gk_G l D st ck_c461 := ab_sound (tr := ck_tr2) (T := ck_T1) (cs := []) (hs := ck_h461) (sp := []) (fuel := 33) l ck_TSgood ck_okCl ck_okDt (M0 := ck_m80) rfl ck_okT1 ck_nil (by decide +kernel)
/-- SL$Bench.speaks -/
def ck_c462 : ab_C := (89, 101, [.inr (0, 1), .inl (0, 119)], [((1, 15, 1, 1), .inr (0, 14))], [], [(some (.inl (0, 0)), [(0, 119)], [], 101), (some (.inl (1, 1)), [(0, 119)], [], 101)], 2, 43, 0, 0)
def ck_h462 : List ab_Hd := []
set_option maxRecDepth 100000 in
theorem ck_k462 (l : Launch) (D : va_G) (st : Nat → Nat) : ck_Mt gk_G l D st ck_c462 := ab_sound (tr := ck_tr2) (T := ck_T1) (cs := [ck_c432, ck_c459]) (hs := ck_h462) (sp := []) (fuel := 42) l ck_TSgood ck_okCl ck_okDt (M0 := ck_m89) rfl ck_okT1 (ck_cons (ck_k432 l D st) (ck_cons (ck_k459 l D st) ck_nil)) (by decide +kernel)
/-- SL$Ties.take -/
def ck_c463 : ab_C := (88, 101, [.inr (0, 53), .inl (0, 119)], [((53, 0, 1, 1), .inr (0, 1)), ((53, 1, 1, 1), .inr (0, 54)), ((53, 2, 1, 1), .inr (0, 55)), ((53, 3, 1, 1), .inr (0, 56)), ((53, 5, 1, 1), .inr (0, 58)), ((14, 0, 9, 120), .inl (0, 11)), ((14, 1, 9, 120), .inl (0, 11)), ((1, 15, 1, 1), .inr (0, 14))], [(54, 0, 1, 144), (55, 0, 1, 12), (56, 0, 1, 12), (58, 0, 1, 12)], [(none, [(0, 119)], [], 101)], 3, 65, 0, 0)
def ck_h463 : List ab_Hd := []
set_option maxRecDepth 100000 in
theorem ck_k463 (l : Launch) (D : va_G) (st : Nat → Nat) : ck_Mt gk_G l D st ck_c463 := ab_sound (tr := ck_tr2) (T := ck_T11) (cs := [ck_c460, ck_c461, ck_c462]) (hs := ck_h463) (sp := []) (fuel := 94) l ck_TSgood ck_okCl ck_okDt (M0 := ck_m88) rfl ck_okT11 (ck_cons (ck_k460 l D st) (ck_cons (ck_k461 l D st) (ck_cons (ck_k462 l D st) ck_nil))) (by decide +kernel)
/-- SL$Ties.look -/
def ck_c464 : ab_C := (87, 101, [.inr (0, 53)], [((1, 0, 1, 1), .inl (1, 12)), ((53, 0, 1, 1), .inr (0, 1)), ((53, 1, 1, 1), .inr (0, 54)), ((53, 2, 1, 1), .inr (0, 55)), ((53, 3, 1, 1), .inr (0, 56)), ((53, 4, 1, 1), .inr (0, 57)), ((53, 5, 1, 1), .inr (0, 58)), ((14, 0, 9, 120), .inl (0, 11)), ((14, 1, 9, 120), .inl (0, 11)), ((1, 0, 1, 1), .inl (0, 12)), ((1, 14, 1, 1), .inl (0, 120)), ((1, 15, 1, 1), .inr (0, 14))], [(54, 0, 1, 144), (55, 0, 1, 12), (56, 0, 1, 12), (57, 0, 1, 12), (58, 0, 1, 12)], [(none, [], [((1, 0, 1, 1), .inl (1, 12))], 101)], 4, 88, 0, 0)
def ck_h464 : List ab_Hd := [(34, ([(0, 120, 0, (0, 0, 0))], [(1, .inl (0, 1, 0)), (0, .inr (0, 53))], [], ([((1, 0, 1, 1), .inl (1, 12)), ((53, 0, 1, 1), .inr (0, 1)), ((53, 1, 1, 1), .inr (0, 54)), ((53, 2, 1, 1), .inr (0, 55)), ((53, 3, 1, 1), .inr (0, 56)), ((53, 4, 1, 1), .inr (0, 57)), ((53, 5, 1, 1), .inr (0, 58)), ((14, 0, 9, 120), .inl (0, 11)), ((14, 1, 9, 120), .inl (0, 11)), ((1, 0, 1, 1), .inl (1, 12)), ((1, 14, 1, 1), .inl (0, 120)), ((1, 15, 1, 1), .inr (0, 14))], []), 101, 0, 0), 0, 0)]
set_option maxRecDepth 100000 in
theorem ck_k464 (l : Launch) (D : va_G) (st : Nat → Nat) : ck_Mt gk_G l D st ck_c464 := ab_sound (tr := ck_tr2) (T := ck_T11) (cs := [ck_c454, ck_c455, ck_c456, ck_c457, ck_c458, ck_c459, ck_c463]) (hs := ck_h464) (sp := []) (fuel := 58) l ck_TSgood ck_okCl ck_okDt (M0 := ck_m87) rfl ck_okT11 (ck_cons (ck_k454 l D st) (ck_cons (ck_k455 l D st) (ck_cons (ck_k456 l D st) (ck_cons (ck_k457 l D st) (ck_cons (ck_k458 l D st) (ck_cons (ck_k459 l D st) (ck_cons (ck_k463 l D st) ck_nil))))))) (by decide +kernel)
/-- SL.says -/
def ck_c465 : ab_C := (85, 101, [.inr (0, 0), .inl ((-2147483648), 2147483647), .inl ((-2147483648), 2147483647)], [((53, 0, 1, 1), .inr (0, 1)), ((53, 1, 1, 1), .inr (0, 54)), ((53, 2, 1, 1), .inr (0, 55)), ((53, 3, 1, 1), .inr (0, 56)), ((53, 4, 1, 1), .inr (0, 57)), ((53, 5, 1, 1), .inr (0, 58)), ((14, 0, 9, 120), .inl (0, 11)), ((14, 1, 9, 120), .inl (0, 11)), ((1, 0, 1, 1), .inl (0, 12)), ((1, 14, 1, 1), .inl (0, 120)), ((1, 15, 1, 1), .inr (0, 14)), ((0, 0, 1, 1), .inr (0, 1)), ((0, 6, 1, 1), .inr (0, 53))], [(54, 0, 1, 144), (55, 0, 1, 12), (56, 0, 1, 12), (57, 0, 1, 12), (58, 0, 1, 12)], [(some (.inl ((-1), (-1))), [((-2147483648), (-1)), ((-2147483648), 2147483647)], [], 101), (some (.inl ((-1), (-1))), [(0, 2147483647), ((-2147483648), 2147483647)], [], 101), (some (.inl ((-1), (-1))), [(0, 11), ((-2147483648), (-1))], [((1, 0, 1, 1), .inl (1, 12))], 101), (some (.inl ((-1), (-1))), [(0, 11), (0, 2147483647)], [((1, 0, 1, 1), .inl (1, 12))], 101), (some (.inl ((-1), (-1))), [(0, 11), (0, 11)], [((1, 0, 1, 1), .inl (1, 12))], 101), (some (.inl ((-2147483648), 2147483647)), [(0, 11), (0, 11)], [((1, 0, 1, 1), .inl (1, 12))], 101)], 5, 109, 0, 0)
def ck_h465 : List ab_Hd := []
set_option maxRecDepth 100000 in
theorem ck_k465 (l : Launch) (D : va_G) (st : Nat → Nat) : ck_Mt gk_G l D st ck_c465 := ab_sound (tr := ck_tr2) (T := ck_T0) (cs := [ck_c453, ck_c464]) (hs := ck_h465) (sp := []) (fuel := 42) l ck_TSgood ck_okCl ck_okDt (M0 := ck_m85) rfl ck_okT0 (ck_cons (ck_k453 l D st) (ck_cons (ck_k464 l D st) ck_nil)) (by decide +kernel)
/-- SLModel.counts -/
def ck_c466 : ab_C := (237, 101, [.inr (0, 77), .inl (0, 119)], [((77, 1, 1, 1), .inr (0, 78))], [], [(some (.inl (0, 0)), [(0, 119)], [], 101), (some (.inl (1, 1)), [(0, 119)], [], 101)], 1, 22, 0, 0)
def ck_h466 : List ab_Hd := []
set_option maxRecDepth 100000 in
theorem ck_k466 (l : Launch) (D : va_G) (st : Nat → Nat) : ck_Mt gk_G l D st ck_c466 := ab_sound (tr := ck_tr2) (T := ck_T13) (cs := [ck_c437, ck_c448, ck_c449, ck_c450]) (hs := ck_h466) (sp := []) (fuel := 71) l ck_TSgood ck_okCl ck_okDt (M0 := ck_m237) rfl ck_okT13 (ck_cons (ck_k437 l D st) (ck_cons (ck_k448 l D st) (ck_cons (ck_k449 l D st) (ck_cons (ck_k450 l D st) ck_nil)))) (by decide +kernel)
/-- SLModel.in -/
def ck_c467 : ab_C := (174, 101, [.inl ((-2147483648), 2147483647), .inl (1, 1), .inl (2, 2)], [], [], [(some (.inl (0, 0)), [((-2147483648), 0), (1, 1), (2, 2)], [], 101), (some (.inl (0, 0)), [(3, 2147483647), (1, 1), (2, 2)], [], 101), (some (.inl (1, 1)), [(1, 2), (1, 1), (2, 2)], [], 101)], 0, 0, 0, 0)
def ck_h467 : List ab_Hd := []
set_option maxRecDepth 100000 in
theorem ck_k467 (l : Launch) (D : va_G) (st : Nat → Nat) : ck_Mt gk_G l D st ck_c467 := ab_sound (tr := ck_tr2) (T := ck_T13) (cs := []) (hs := ck_h467) (sp := []) (fuel := 33) l ck_TSgood ck_okCl ck_okDt (M0 := ck_m174) rfl ck_okT13 ck_nil (by decide +kernel)
/-- SLModel.speaks -/
def ck_c468 : ab_C := (240, 101, [.inr (0, 77), .inl (0, 119)], [((77, 1, 1, 1), .inr (0, 78))], [], [(some (.inl (0, 0)), [(0, 119)], [], 101), (some (.inl (1, 1)), [(0, 119)], [], 101)], 2, 43, 0, 0)
def ck_h468 : List ab_Hd := []
set_option maxRecDepth 100000 in
theorem ck_k468 (l : Launch) (D : va_G) (st : Nat → Nat) : ck_Mt gk_G l D st ck_c468 := ab_sound (tr := ck_tr2) (T := ck_T13) (cs := [ck_c466, ck_c436, ck_c467]) (hs := ck_h468) (sp := []) (fuel := 39) l ck_TSgood ck_okCl ck_okDt (M0 := ck_m240) rfl ck_okT13 (ck_cons (ck_k466 l D st) (ck_cons (ck_k436 l D st) (ck_cons (ck_k467 l D st) ck_nil))) (by decide +kernel)
/-- SLModel.trialOf -/
def ck_c469 : ab_C := (234, 101, [.inr (0, 77), .inl (0, 119), .inl (0, 0)], [((78, 212, 9, 120), .inl (0, 11)), ((77, 1, 1, 1), .inr (0, 78))], [], [(some (.inl (0, 11)), [(0, 119), (0, 0)], [], 101)], 0, 0, 0, 0)
def ck_h469 : List ab_Hd := []
set_option maxRecDepth 100000 in
theorem ck_k469 (l : Launch) (D : va_G) (st : Nat → Nat) : ck_Mt gk_G l D st ck_c469 := ab_sound (tr := ck_tr2) (T := ck_T13) (cs := []) (hs := ck_h469) (sp := []) (fuel := 35) l ck_TSgood ck_okCl ck_okDt (M0 := ck_m234) rfl ck_okT13 ck_nil (by decide +kernel)
/-- SLModel.trialOf -/
def ck_c470 : ab_C := (234, 101, [.inr (0, 77), .inl (0, 119), .inl (1, 1)], [((78, 213, 9, 120), .inl (0, 11)), ((77, 1, 1, 1), .inr (0, 78))], [], [(some (.inl (0, 11)), [(0, 119), (1, 1)], [], 101)], 0, 0, 0, 0)
def ck_h470 : List ab_Hd := []
set_option maxRecDepth 100000 in
theorem ck_k470 (l : Launch) (D : va_G) (st : Nat → Nat) : ck_Mt gk_G l D st ck_c470 := ab_sound (tr := ck_tr2) (T := ck_T13) (cs := []) (hs := ck_h470) (sp := []) (fuel := 35) l ck_TSgood ck_okCl ck_okDt (M0 := ck_m234) rfl ck_okT13 ck_nil (by decide +kernel)
/-- SLModel.hears -/
def ck_c471 : ab_C := (239, 101, [.inr (0, 77)], [((78, 212, 9, 120), .inl (0, 11)), ((78, 213, 9, 120), .inl (0, 11)), ((78, 1293, 1, 1), .inl (0, 120)), ((77, 1, 1, 1), .inr (0, 78)), ((77, 24, 1, 1), .inr (0, 88)), ((77, 25, 1, 1), .inr (0, 89))], [(88, 0, 1, 144), (89, 0, 1, 12)], [(none, [], [], 101)], 3, 64, 0, 0)
def ck_h471 : List ab_Hd := [(2, ([(0, 144, 0, (0, 0, 0))], [(1, .inl (0, 1, 0)), (0, .inr (0, 77))], [], ([((78, 212, 9, 120), .inl (0, 11)), ((78, 213, 9, 120), .inl (0, 11)), ((78, 1293, 1, 1), .inl (0, 120)), ((77, 1, 1, 1), .inr (0, 78)), ((77, 24, 1, 1), .inr (0, 88)), ((77, 25, 1, 1), .inr (0, 89))], []), 101, 0, 0), 0, 0), (24, ([(144, 144, 0, (0, 0, 0)), (0, 120, 0, (0, 0, 0))], [(1, .inl (1, 1, 0)), (0, .inr (0, 77))], [], ([((78, 212, 9, 120), .inl (0, 11)), ((78, 213, 9, 120), .inl (0, 11)), ((78, 1293, 1, 1), .inl (0, 120)), ((77, 1, 1, 1), .inr (0, 78)), ((77, 24, 1, 1), .inr (0, 88)), ((77, 25, 1, 1), .inr (0, 89))], []), 101, 0, 0), 1, 0), (77, ([(144, 144, 0, (0, 0, 0)), (0, 120, 0, (0, 0, 0)), (0, 12, 0, (0, 0, 0))], [(1, .inl (2, 1, 0)), (0, .inr (0, 77))], [], ([((78, 212, 9, 120), .inl (0, 11)), ((78, 213, 9, 120), .inl (0, 11)), ((78, 1293, 1, 1), .inl (0, 120)), ((77, 1, 1, 1), .inr (0, 78)), ((77, 24, 1, 1), .inr (0, 88)), ((77, 25, 1, 1), .inr (0, 89))], []), 101, 0, 0), 2, 0), (142, ([(144, 144, 0, (0, 0, 0)), (0, 120, 0, (0, 0, 0)), (12, 12, 0, (0, 0, 0)), (0, 12, 0, (0, 0, 0))], [(1, .inl (3, 1, 0)), (0, .inr (0, 77))], [], ([((78, 212, 9, 120), .inl (0, 11)), ((78, 213, 9, 120), .inl (0, 11)), ((78, 1293, 1, 1), .inl (0, 120)), ((77, 1, 1, 1), .inr (0, 78)), ((77, 24, 1, 1), .inr (0, 88)), ((77, 25, 1, 1), .inr (0, 89))], []), 101, 0, 0), 3, 0), (150, ([(144, 144, 0, (0, 0, 0)), (0, 120, 0, (0, 0, 0)), (12, 12, 0, (0, 0, 0)), (0, 11, 0, (0, 0, 0)), (0, 12, 0, (0, 0, 0))], [(2, .inl (4, 1, 0)), (1, .inl (3, 1, 0)), (0, .inr (0, 77))], [], ([((78, 212, 9, 120), .inl (0, 11)), ((78, 213, 9, 120), .inl (0, 11)), ((78, 1293, 1, 1), .inl (0, 120)), ((77, 1, 1, 1), .inr (0, 78)), ((77, 24, 1, 1), .inr (0, 88)), ((77, 25, 1, 1), .inr (0, 89))], []), 101, 0, 0), 4, 0), (92, ([(144, 144, 0, (0, 0, 0)), (0, 120, 0, (0, 0, 0)), (0, 11, 0, (0, 0, 0)), (0, 12, 0, (0, 0, 0))], [(2, .inl (3, 1, 0)), (1, .inl (2, 1, 0)), (0, .inr (0, 77))], [], ([((78, 212, 9, 120), .inl (0, 11)), ((78, 213, 9, 120), .inl (0, 11)), ((78, 1293, 1, 1), .inl (0, 120)), ((77, 1, 1, 1), .inr (0, 78)), ((77, 24, 1, 1), .inr (0, 88)), ((77, 25, 1, 1), .inr (0, 89))], []), 101, 0, 0), 3, 0)]
set_option maxRecDepth 100000 in
theorem ck_k471 (l : Launch) (D : va_G) (st : Nat → Nat) : ck_Mt gk_G l D st ck_c471 := ab_sound (tr := ck_tr2) (T := ck_T13) (cs := [ck_c468, ck_c469, ck_c470]) (hs := ck_h471) (sp := []) (fuel := 76) l ck_TSgood ck_okCl ck_okDt (M0 := ck_m239) rfl ck_okT13 (ck_cons (ck_k468 l D st) (ck_cons (ck_k469 l D st) (ck_cons (ck_k470 l D st) ck_nil))) (by decide +kernel)
/-- SLModel.says -/
def ck_c472 : ab_C := (238, 101, [.inr (0, 77), .inl ((-2147483648), 2147483647), .inl ((-2147483648), 2147483647)], [((78, 212, 9, 120), .inl (0, 11)), ((78, 213, 9, 120), .inl (0, 11)), ((78, 1292, 1, 1), .inl (0, 12)), ((78, 1293, 1, 1), .inl (0, 120)), ((77, 1, 1, 1), .inr (0, 78)), ((77, 24, 1, 1), .inr (0, 88)), ((77, 25, 1, 1), .inr (0, 89))], [(88, 0, 1, 144), (89, 0, 1, 12)], [(some (.inl ((-1), (-1))), [((-2147483648), (-1)), ((-2147483648), 2147483647)], [], 101), (some (.inl ((-1), (-1))), [(0, 2147483647), ((-2147483648), 2147483647)], [], 101), (some (.inl ((-1), (-1))), [(0, 11), ((-2147483648), (-1))], [((78, 1292, 1, 1), .inl (1, 12))], 101), (some (.inl ((-1), (-1))), [(0, 11), (0, 2147483647)], [((78, 1292, 1, 1), .inl (1, 12))], 101), (some (.inl ((-2147483648), 2147483647)), [(0, 11), (0, 11)], [((78, 1292, 1, 1), .inl (1, 12))], 101)], 4, 86, 0, 0)
def ck_h472 : List ab_Hd := []
set_option maxRecDepth 100000 in
theorem ck_k472 (l : Launch) (D : va_G) (st : Nat → Nat) : ck_Mt gk_G l D st ck_c472 := ab_sound (tr := ck_tr2) (T := ck_T13) (cs := [ck_c189, ck_c471]) (hs := ck_h472) (sp := []) (fuel := 43) l ck_TSgood ck_okCl ck_okDt (M0 := ck_m238) rfl ck_okT13 (ck_cons (ck_k189 l D st) (ck_cons (ck_k471 l D st) ck_nil)) (by decide +kernel)
/-- SL$Ties.look -/
def ck_c473 : ab_C := (87, 101, [.inr (0, 53)], [((1, 0, 1, 1), .inl (1, 12)), ((1, 0, 1, 1), .inl (1, 12)), ((53, 0, 1, 1), .inr (0, 1)), ((53, 1, 1, 1), .inr (0, 54)), ((53, 2, 1, 1), .inr (0, 55)), ((53, 3, 1, 1), .inr (0, 56)), ((53, 4, 1, 1), .inr (0, 57)), ((53, 5, 1, 1), .inr (0, 58)), ((14, 0, 9, 120), .inl (0, 11)), ((14, 1, 9, 120), .inl (0, 11)), ((1, 0, 1, 1), .inl (0, 12)), ((1, 14, 1, 1), .inl (0, 120)), ((1, 15, 1, 1), .inr (0, 14))], [(54, 0, 1, 144), (55, 0, 1, 12), (56, 0, 1, 12), (57, 0, 1, 12), (58, 0, 1, 12)], [(none, [], [((1, 0, 1, 1), .inl (1, 12))], 101)], 4, 88, 0, 0)
def ck_h473 : List ab_Hd := [(34, ([(0, 120, 0, (0, 0, 0))], [(1, .inl (0, 1, 0)), (0, .inr (0, 53))], [], ([((1, 0, 1, 1), .inl (1, 12)), ((1, 0, 1, 1), .inl (1, 12)), ((53, 0, 1, 1), .inr (0, 1)), ((53, 1, 1, 1), .inr (0, 54)), ((53, 2, 1, 1), .inr (0, 55)), ((53, 3, 1, 1), .inr (0, 56)), ((53, 4, 1, 1), .inr (0, 57)), ((53, 5, 1, 1), .inr (0, 58)), ((14, 0, 9, 120), .inl (0, 11)), ((14, 1, 9, 120), .inl (0, 11)), ((1, 0, 1, 1), .inl (1, 12)), ((1, 14, 1, 1), .inl (0, 120)), ((1, 15, 1, 1), .inr (0, 14))], []), 101, 0, 0), 0, 0)]
set_option maxRecDepth 100000 in
theorem ck_k473 (l : Launch) (D : va_G) (st : Nat → Nat) : ck_Mt gk_G l D st ck_c473 := ab_sound (tr := ck_tr2) (T := ck_T11) (cs := [ck_c454, ck_c455, ck_c456, ck_c457, ck_c458, ck_c459, ck_c463]) (hs := ck_h473) (sp := []) (fuel := 58) l ck_TSgood ck_okCl ck_okDt (M0 := ck_m87) rfl ck_okT11 (ck_cons (ck_k454 l D st) (ck_cons (ck_k455 l D st) (ck_cons (ck_k456 l D st) (ck_cons (ck_k457 l D st) (ck_cons (ck_k458 l D st) (ck_cons (ck_k459 l D st) (ck_cons (ck_k463 l D st) ck_nil))))))) (by decide +kernel)
/-- SL$Ties.isOver -/
def ck_c474 : ab_C := (92, 101, [.inr (0, 53), .inl (0, 11), .inl (0, 11)], [((53, 4, 1, 1), .inr (0, 57))], [], [(some (.inl (0, 0)), [(0, 11), (0, 11)], [], 101), (some (.inl (1, 1)), [(0, 11), (0, 11)], [], 101)], 0, 0, 0, 0)
def ck_h474 : List ab_Hd := []
set_option maxRecDepth 100000 in
theorem ck_k474 (l : Launch) (D : va_G) (st : Nat → Nat) : ck_Mt gk_G l D st ck_c474 := ab_sound (tr := ck_tr2) (T := ck_T11) (cs := []) (hs := ck_h474) (sp := []) (fuel := 37) l ck_TSgood ck_okCl ck_okDt (M0 := ck_m92) rfl ck_okT11 ck_nil (by decide +kernel)
/-- SL.over -/
def ck_c475 : ab_C := (91, 101, [.inr (0, 0), .inl ((-2147483648), 2147483647), .inl ((-2147483648), 2147483647)], [((53, 0, 1, 1), .inr (0, 1)), ((53, 1, 1, 1), .inr (0, 54)), ((53, 2, 1, 1), .inr (0, 55)), ((53, 3, 1, 1), .inr (0, 56)), ((53, 4, 1, 1), .inr (0, 57)), ((53, 5, 1, 1), .inr (0, 58)), ((14, 0, 9, 120), .inl (0, 11)), ((14, 1, 9, 120), .inl (0, 11)), ((1, 0, 1, 1), .inl (0, 12)), ((1, 14, 1, 1), .inl (0, 120)), ((1, 15, 1, 1), .inr (0, 14)), ((0, 0, 1, 1), .inr (0, 1)), ((0, 6, 1, 1), .inr (0, 53))], [(54, 0, 1, 144), (55, 0, 1, 12), (56, 0, 1, 12), (57, 0, 1, 12), (58, 0, 1, 12)], [(some (.inl ((-1), (-1))), [((-2147483648), (-1)), ((-2147483648), 2147483647)], [], 101), (some (.inl ((-1), (-1))), [(0, 2147483647), ((-2147483648), 2147483647)], [], 101), (some (.inl ((-1), (-1))), [(0, 11), ((-2147483648), (-1))], [((1, 0, 1, 1), .inl (1, 12))], 101), (some (.inl ((-1), (-1))), [(0, 11), (0, 2147483647)], [((1, 0, 1, 1), .inl (1, 12))], 101), (some (.inl (0, 0)), [(0, 11), (0, 11)], [((1, 0, 1, 1), .inl (1, 12))], 101), (some (.inl (1, 1)), [(0, 11), (0, 11)], [((1, 0, 1, 1), .inl (1, 12))], 101)], 5, 109, 0, 0)
def ck_h475 : List ab_Hd := []
set_option maxRecDepth 100000 in
theorem ck_k475 (l : Launch) (D : va_G) (st : Nat → Nat) : ck_Mt gk_G l D st ck_c475 := ab_sound (tr := ck_tr2) (T := ck_T0) (cs := [ck_c180, ck_c473, ck_c474]) (hs := ck_h475) (sp := []) (fuel := 46) l ck_TSgood ck_okCl ck_okDt (M0 := ck_m91) rfl ck_okT0 (ck_cons (ck_k180 l D st) (ck_cons (ck_k473 l D st) (ck_cons (ck_k474 l D st) ck_nil))) (by decide +kernel)
/-- SLModel.isOver -/
def ck_c476 : ab_C := (242, 101, [.inr (0, 77), .inl (0, 11), .inl (0, 11)], [((77, 25, 1, 1), .inr (0, 89))], [], [(some (.inl (0, 0)), [(0, 11), (0, 11)], [], 101), (some (.inl (1, 1)), [(0, 11), (0, 11)], [], 101)], 0, 0, 0, 0)
def ck_h476 : List ab_Hd := []
set_option maxRecDepth 100000 in
theorem ck_k476 (l : Launch) (D : va_G) (st : Nat → Nat) : ck_Mt gk_G l D st ck_c476 := ab_sound (tr := ck_tr2) (T := ck_T13) (cs := []) (hs := ck_h476) (sp := []) (fuel := 37) l ck_TSgood ck_okCl ck_okDt (M0 := ck_m242) rfl ck_okT13 ck_nil (by decide +kernel)
/-- SLModel.over -/
def ck_c477 : ab_C := (241, 101, [.inr (0, 77), .inl ((-2147483648), 2147483647), .inl ((-2147483648), 2147483647)], [((78, 212, 9, 120), .inl (0, 11)), ((78, 213, 9, 120), .inl (0, 11)), ((78, 1292, 1, 1), .inl (0, 12)), ((78, 1293, 1, 1), .inl (0, 120)), ((77, 1, 1, 1), .inr (0, 78)), ((77, 24, 1, 1), .inr (0, 88)), ((77, 25, 1, 1), .inr (0, 89))], [(88, 0, 1, 144), (89, 0, 1, 12)], [(some (.inl ((-1), (-1))), [((-2147483648), (-1)), ((-2147483648), 2147483647)], [], 101), (some (.inl ((-1), (-1))), [(0, 2147483647), ((-2147483648), 2147483647)], [], 101), (some (.inl ((-1), (-1))), [(0, 11), ((-2147483648), (-1))], [((78, 1292, 1, 1), .inl (1, 12))], 101), (some (.inl ((-1), (-1))), [(0, 11), (0, 2147483647)], [((78, 1292, 1, 1), .inl (1, 12))], 101), (some (.inl (0, 0)), [(0, 11), (0, 11)], [((78, 1292, 1, 1), .inl (1, 12))], 101), (some (.inl (1, 1)), [(0, 11), (0, 11)], [((78, 1292, 1, 1), .inl (1, 12))], 101)], 4, 86, 0, 0)
def ck_h477 : List ab_Hd := []
set_option maxRecDepth 100000 in
theorem ck_k477 (l : Launch) (D : va_G) (st : Nat → Nat) : ck_Mt gk_G l D st ck_c477 := ab_sound (tr := ck_tr2) (T := ck_T13) (cs := [ck_c189, ck_c471, ck_c476]) (hs := ck_h477) (sp := []) (fuel := 42) l ck_TSgood ck_okCl ck_okDt (M0 := ck_m241) rfl ck_okT13 (ck_cons (ck_k189 l D st) (ck_cons (ck_k471 l D st) (ck_cons (ck_k476 l D st) ck_nil))) (by decide +kernel)
/-- SL$Ties.close -/
def ck_c478 : ab_C := (90, 101, [.inr (0, 53)], [((53, 0, 1, 1), .inr (0, 1)), ((53, 3, 1, 1), .inr (0, 56)), ((53, 4, 1, 1), .inr (0, 57)), ((1, 0, 1, 1), .inl (0, 12))], [(57, 0, 1, 12)], [(none, [], [], 101)], 1, 41, 0, 0)
def ck_h478 : List ab_Hd := [(17, ([(0, 12, 0, (0, 0, 0))], [(1, .inl (0, 1, 0)), (0, .inr (0, 53))], [], ([((53, 0, 1, 1), .inr (0, 1)), ((53, 3, 1, 1), .inr (0, 56)), ((53, 4, 1, 1), .inr (0, 57)), ((1, 0, 1, 1), .inl (0, 12))], []), 101, 0, 0), 0, 0), (30, ([(0, 11, 0, (0, 0, 0)), (0, 12, 0, (0, 0, 0))], [(2, .inl (1, 1, 0)), (1, .inl (0, 1, 0)), (0, .inr (0, 53))], [], ([((53, 0, 1, 1), .inr (0, 1)), ((53, 3, 1, 1), .inr (0, 56)), ((53, 4, 1, 1), .inr (0, 57)), ((1, 0, 1, 1), .inl (1, 12))], []), 101, 0, 0), 1, 0)]
set_option maxRecDepth 100000 in
theorem ck_k478 (l : Launch) (D : va_G) (st : Nat → Nat) : ck_Mt gk_G l D st ck_c478 := ab_sound (tr := ck_tr2) (T := ck_T11) (cs := []) (hs := ck_h478) (sp := []) (fuel := 70) l ck_TSgood ck_okCl ck_okDt (M0 := ck_m90) rfl ck_okT11 ck_nil (by decide +kernel)
/-- SL$Ties.look -/
def ck_c479 : ab_C := (87, 101, [.inr (0, 53)], [((53, 0, 1, 1), .inr (0, 1)), ((53, 1, 1, 1), .inr (0, 54)), ((53, 2, 1, 1), .inr (0, 55)), ((53, 3, 1, 1), .inr (0, 56)), ((53, 4, 1, 1), .inr (0, 57)), ((53, 5, 1, 1), .inr (0, 58)), ((14, 0, 9, 120), .inl (0, 11)), ((14, 1, 9, 120), .inl (0, 11)), ((1, 0, 1, 1), .inl (0, 12)), ((1, 14, 1, 1), .inl (0, 120)), ((1, 15, 1, 1), .inr (0, 14))], [(54, 0, 1, 144), (55, 0, 1, 12), (56, 0, 1, 12), (57, 0, 1, 12), (58, 0, 1, 12)], [(none, [], [], 101)], 4, 88, 0, 0)
def ck_h479 : List ab_Hd := [(34, ([(0, 120, 0, (0, 0, 0))], [(1, .inl (0, 1, 0)), (0, .inr (0, 53))], [], ([((53, 0, 1, 1), .inr (0, 1)), ((53, 1, 1, 1), .inr (0, 54)), ((53, 2, 1, 1), .inr (0, 55)), ((53, 3, 1, 1), .inr (0, 56)), ((53, 4, 1, 1), .inr (0, 57)), ((53, 5, 1, 1), .inr (0, 58)), ((14, 0, 9, 120), .inl (0, 11)), ((14, 1, 9, 120), .inl (0, 11)), ((1, 0, 1, 1), .inl (0, 12)), ((1, 14, 1, 1), .inl (0, 120)), ((1, 15, 1, 1), .inr (0, 14))], []), 101, 0, 0), 0, 0)]
set_option maxRecDepth 100000 in
theorem ck_k479 (l : Launch) (D : va_G) (st : Nat → Nat) : ck_Mt gk_G l D st ck_c479 := ab_sound (tr := ck_tr2) (T := ck_T11) (cs := [ck_c454, ck_c455, ck_c456, ck_c457, ck_c478, ck_c459, ck_c463]) (hs := ck_h479) (sp := []) (fuel := 58) l ck_TSgood ck_okCl ck_okDt (M0 := ck_m87) rfl ck_okT11 (ck_cons (ck_k454 l D st) (ck_cons (ck_k455 l D st) (ck_cons (ck_k456 l D st) (ck_cons (ck_k457 l D st) (ck_cons (ck_k478 l D st) (ck_cons (ck_k459 l D st) (ck_cons (ck_k463 l D st) ck_nil))))))) (by decide +kernel)
