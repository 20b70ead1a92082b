/-- SL.within -/
def ck_c0 : ab_C := (14, 101, [.inl ((-2147483648), 2147483647), .inl (0, 0), .inl (1000000, 1000000)], [], [], [(some (.inl (0, 0)), [((-2147483648), (-1)), (0, 0), (1000000, 1000000)], [], 101), (some (.inl (0, 0)), [(1000001, 2147483647), (0, 0), (1000000, 1000000)], [], 101), (some (.inl (1, 1)), [(0, 1000000), (0, 0), (1000000, 1000000)], [], 101)], 0, 0, 0, 0)
def ck_h0 : List ab_Hd := []
set_option maxRecDepth 100000 in
theorem ck_k0 (l : Launch) (D : va_G) (st : Nat → Nat) : ck_Mt gk_G l D st ck_c0 := ab_sound (tr := ck_tr) (T := ck_T0) (cs := []) (hs := ck_h0) (sp := []) (fuel := 33) l ck_TSgood ck_okCl ck_okDt (M0 := ck_m14) rfl ck_okT0 ck_nil (by decide +kernel)
/-- SL.refuse -/
def ck_c1 : ab_C := (15, 101, [.inr (0, 0), .inl ((-1), (-1))], [], [(0, 14, 1, 1)], [(some (.inl ((-1), (-1))), [((-1), (-1))], [((0, 14, 1, 1), .inl ((-1), (-1)))], 101)], 0, 0, 0, 0)
def ck_h1 : List ab_Hd := []
set_option maxRecDepth 100000 in
theorem ck_k1 (l : Launch) (D : va_G) (st : Nat → Nat) : ck_Mt gk_G l D st ck_c1 := ab_sound (tr := ck_tr) (T := ck_T0) (cs := []) (hs := ck_h1) (sp := []) (fuel := 29) l ck_TSgood ck_okCl ck_okDt (M0 := ck_m15) rfl ck_okT0 ck_nil (by decide +kernel)
/-- SL.accept -/
def ck_c2 : ab_C := (17, 101, [.inr (0, 0), .inl (0, 0)], [], [(0, 14, 1, 1)], [(some (.inl (0, 0)), [(0, 0)], [((0, 14, 1, 1), .inl (0, 0))], 101)], 0, 0, 0, 0)
def ck_h2 : List ab_Hd := []
set_option maxRecDepth 100000 in
theorem ck_k2 (l : Launch) (D : va_G) (st : Nat → Nat) : ck_Mt gk_G l D st ck_c2 := ab_sound (tr := ck_tr) (T := ck_T0) (cs := []) (hs := ck_h2) (sp := []) (fuel := 29) l ck_TSgood ck_okCl ck_okDt (M0 := ck_m17) rfl ck_okT0 ck_nil (by decide +kernel)
/-- SL.seed -/
def ck_c3 : ab_C := (27, 101, [.inr (0, 0), .inl ((-2147483648), 2147483647)], [((0, 0, 1, 1), .inr (0, 1))], [(0, 14, 1, 1), (1, 9, 1, 1)], [(some (.inl ((-1), (-1))), [((-2147483648), (-1))], [((0, 14, 1, 1), .inl ((-1), (-1)))], 101), (some (.inl ((-1), (-1))), [(1000001, 2147483647)], [((0, 14, 1, 1), .inl ((-1), (-1)))], 101), (some (.inl (0, 0)), [(0, 1000000)], [((1, 9, 1, 1), .inl (0, 1000000)), ((0, 14, 1, 1), .inl (0, 0))], 101)], 1, 22, 0, 0)
def ck_h3 : List ab_Hd := []
set_option maxRecDepth 100000 in
theorem ck_k3 (l : Launch) (D : va_G) (st : Nat → Nat) : ck_Mt gk_G l D st ck_c3 := ab_sound (tr := ck_tr) (T := ck_T0) (cs := [ck_c0, ck_c1, ck_c2]) (hs := ck_h3) (sp := []) (fuel := 37) l ck_TSgood ck_okCl ck_okDt (M0 := ck_m27) rfl ck_okT0 (ck_cons (ck_k0 l D st) (ck_cons (ck_k1 l D st) (ck_cons (ck_k2 l D st) ck_nil))) (by decide +kernel)
/-- SLModel.in -/
def ck_c4 : ab_C := (174, 101, [.inl ((-2147483648), 2147483647), .inl (0, 0), .inl (1000000, 1000000)], [], [], [(some (.inl (0, 0)), [((-2147483648), (-1)), (0, 0), (1000000, 1000000)], [], 101), (some (.inl (0, 0)), [(1000001, 2147483647), (0, 0), (1000000, 1000000)], [], 101), (some (.inl (1, 1)), [(0, 1000000), (0, 0), (1000000, 1000000)], [], 101)], 0, 0, 0, 0)
def ck_h4 : List ab_Hd := []
set_option maxRecDepth 100000 in
theorem ck_k4 (l : Launch) (D : va_G) (st : Nat → Nat) : ck_Mt gk_G l D st ck_c4 := ab_sound (tr := ck_tr) (T := ck_T13) (cs := []) (hs := ck_h4) (sp := []) (fuel := 33) l ck_TSgood ck_okCl ck_okDt (M0 := ck_m174) rfl ck_okT13 ck_nil (by decide +kernel)
/-- SLModel.refuses -/
def ck_c5 : ab_C := (175, 101, [.inr (0, 77), .inl ((-1), (-1))], [], [(77, 0, 1, 1)], [(some (.inl ((-1), (-1))), [((-1), (-1))], [((77, 0, 1, 1), .inl ((-1), (-1)))], 101)], 0, 0, 0, 0)
def ck_h5 : List ab_Hd := []
set_option maxRecDepth 100000 in
theorem ck_k5 (l : Launch) (D : va_G) (st : Nat → Nat) : ck_Mt gk_G l D st ck_c5 := ab_sound (tr := ck_tr) (T := ck_T13) (cs := []) (hs := ck_h5) (sp := []) (fuel := 29) l ck_TSgood ck_okCl ck_okDt (M0 := ck_m175) rfl ck_okT13 ck_nil (by decide +kernel)
/-- SLModel.good -/
def ck_c6 : ab_C := (176, 101, [.inr (0, 77), .inl (0, 0)], [], [(77, 0, 1, 1)], [(some (.inl (0, 0)), [(0, 0)], [((77, 0, 1, 1), .inl (0, 0))], 101)], 0, 0, 0, 0)
def ck_h6 : List ab_Hd := []
set_option maxRecDepth 100000 in
theorem ck_k6 (l : Launch) (D : va_G) (st : Nat → Nat) : ck_Mt gk_G l D st ck_c6 := ab_sound (tr := ck_tr) (T := ck_T13) (cs := []) (hs := ck_h6) (sp := []) (fuel := 29) l ck_TSgood ck_okCl ck_okDt (M0 := ck_m176) rfl ck_okT13 ck_nil (by decide +kernel)
/-- SLModel.seed -/
def ck_c7 : ab_C := (186, 101, [.inr (0, 77), .inl ((-2147483648), 2147483647)], [((77, 1, 1, 1), .inr (0, 78))], [(77, 0, 1, 1), (78, 1295, 144, 1)], [(some (.inl ((-1), (-1))), [((-2147483648), (-1))], [((77, 0, 1, 1), .inl ((-1), (-1)))], 101), (some (.inl ((-1), (-1))), [(1000001, 2147483647)], [((77, 0, 1, 1), .inl ((-1), (-1)))], 101), (some (.inl (0, 0)), [(0, 1000000)], [((78, 1295, 1, 1), .inl (0, 1000000)), ((77, 0, 1, 1), .inl (0, 0))], 101)], 1, 22, 0, 0)
def ck_h7 : List ab_Hd := []
set_option maxRecDepth 100000 in
theorem ck_k7 (l : Launch) (D : va_G) (st : Nat → Nat) : ck_Mt gk_G l D st ck_c7 := ab_sound (tr := ck_tr) (T := ck_T13) (cs := [ck_c4, ck_c5, ck_c6]) (hs := ck_h7) (sp := []) (fuel := 38) l ck_TSgood ck_okCl ck_okDt (M0 := ck_m186) rfl ck_okT13 (ck_cons (ck_k4 l D st) (ck_cons (ck_k5 l D st) (ck_cons (ck_k6 l D st) ck_nil))) (by decide +kernel)
/-- SL.within -/
def ck_c8 : ab_C := (14, 101, [.inl ((-2147483648), 2147483647), .inl (0, 0), .inl ((-1), 11)], [], [], [(some (.inl (0, 0)), [((-2147483648), (-1)), (0, 0), ((-1), 11)], [], 101), (some (.inl (0, 0)), [(0, 2147483647), (0, 0), ((-1), 11)], [], 101), (some (.inl (1, 1)), [(0, 11), (0, 0), (0, 11)], [], 101)], 0, 0, 0, 0)
def ck_h8 : List ab_Hd := []
set_option maxRecDepth 100000 in
theorem ck_k8 (l : Launch) (D : va_G) (st : Nat → Nat) : ck_Mt gk_G l D st ck_c8 := ab_sound (tr := ck_tr) (T := ck_T0) (cs := []) (hs := ck_h8) (sp := []) (fuel := 33) l ck_TSgood ck_okCl ck_okDt (M0 := ck_m14) rfl ck_okT0 ck_nil (by decide +kernel)
/-- SL$Bench.hasStone -/
def ck_c9 : ab_C := (20, 101, [.inr (0, 1), .inl ((-2147483648), 2147483647)], [((1, 0, 1, 1), .inl (0, 12))], [], [(some (.inl (0, 0)), [((-2147483648), (-1))], [], 101), (some (.inl (0, 0)), [(0, 2147483647)], [], 101), (some (.inl (1, 1)), [(0, 11)], [((1, 0, 1, 1), .inl (1, 12))], 101)], 1, 22, 0, 0)
def ck_h9 : List ab_Hd := []
set_option maxRecDepth 100000 in
theorem ck_k9 (l : Launch) (D : va_G) (st : Nat → Nat) : ck_Mt gk_G l D st ck_c9 := ab_sound (tr := ck_tr) (T := ck_T1) (cs := [ck_c8]) (hs := ck_h9) (sp := []) (fuel := 32) l ck_TSgood ck_okCl ck_okDt (M0 := ck_m20) rfl ck_okT1 (ck_cons (ck_k8 l D st) ck_nil) (by decide +kernel)
/-- SL.within -/
def ck_c10 : ab_C := (14, 101, [.inl ((-2147483648), 2147483647), .inl (0, 0), .inl (2, 2)], [], [], [(some (.inl (0, 0)), [((-2147483648), (-1)), (0, 0), (2, 2)], [], 101), (some (.inl (0, 0)), [(3, 2147483647), (0, 0), (2, 2)], [], 101), (some (.inl (1, 1)), [(0, 2), (0, 0), (2, 2)], [], 101)], 0, 0, 0, 0)
def ck_h10 : List ab_Hd := []
set_option maxRecDepth 100000 in
theorem ck_k10 (l : Launch) (D : va_G) (st : Nat → Nat) : ck_Mt gk_G l D st ck_c10 := ab_sound (tr := ck_tr) (T := ck_T0) (cs := []) (hs := ck_h10) (sp := []) (fuel := 33) l ck_TSgood ck_okCl ck_okDt (M0 := ck_m14) rfl ck_okT0 ck_nil (by decide +kernel)
/-- SL.within -/
def ck_c11 : ab_C := (14, 101, [.inl ((-2147483648), 2147483647), .inl (0, 0), .inl (3, 3)], [], [], [(some (.inl (0, 0)), [((-2147483648), (-1)), (0, 0), (3, 3)], [], 101), (some (.inl (0, 0)), [(4, 2147483647), (0, 0), (3, 3)], [], 101), (some (.inl (1, 1)), [(0, 3), (0, 0), (3, 3)], [], 101)], 0, 0, 0, 0)
def ck_h11 : List ab_Hd := []
set_option maxRecDepth 100000 in
theorem ck_k11 (l : Launch) (D : va_G) (st : Nat → Nat) : ck_Mt gk_G l D st ck_c11 := ab_sound (tr := ck_tr) (T := ck_T0) (cs := []) (hs := ck_h11) (sp := []) (fuel := 33) l ck_TSgood ck_okCl ck_okDt (M0 := ck_m14) rfl ck_okT0 ck_nil (by decide +kernel)
/-- SL.isSpot -/
def ck_c12 : ab_C := (19, 101, [.inl ((-2147483648), 2147483647), .inl ((-2147483648), 2147483647)], [], [], [(some (.inl (0, 0)), [((-2147483648), (-1)), ((-2147483648), 2147483647)], [], 101), (some (.inl (0, 0)), [(3, 2147483647), ((-2147483648), 2147483647)], [], 101), (some (.inl (0, 0)), [(0, 2), ((-2147483648), (-1))], [], 101), (some (.inl (0, 0)), [(0, 2), (4, 2147483647)], [], 101), (some (.inl (1, 1)), [(0, 2), (0, 3)], [], 101)], 1, 22, 0, 0)
def ck_h12 : List ab_Hd := []
set_option maxRecDepth 100000 in
theorem ck_k12 (l : Launch) (D : va_G) (st : Nat → Nat) : ck_Mt gk_G l D st ck_c12 := ab_sound (tr := ck_tr) (T := ck_T0) (cs := [ck_c10, ck_c11]) (hs := ck_h12) (sp := []) (fuel := 37) l ck_TSgood ck_okCl ck_okDt (M0 := ck_m19) rfl ck_okT0 (ck_cons (ck_k10 l D st) (ck_cons (ck_k11 l D st) ck_nil)) (by decide +kernel)
/-- SL$Bench.spotOf -/
def ck_c13 : ab_C := (21, 101, [.inl (0, 11), .inl (0, 2), .inl (0, 3)], [], [], [(some (.inl (0, 143)), [(0, 11), (0, 2), (0, 3)], [], 101)], 0, 0, 0, 0)
def ck_h13 : List ab_Hd := []
set_option maxRecDepth 100000 in
theorem ck_k13 (l : Launch) (D : va_G) (st : Nat → Nat) : ck_Mt gk_G l D st ck_c13 := ab_sound (tr := ck_tr) (T := ck_T1) (cs := []) (hs := ck_h13) (sp := []) (fuel := 34) l ck_TSgood ck_okCl ck_okDt (M0 := ck_m21) rfl ck_okT1 ck_nil (by decide +kernel)
/-- SL$Question.ask -/
def ck_c14 : ab_C := (63, 101, [.inr (0, 50), .inl (0, 11), .inl (0, 11), .inl (0, 2), .inl (0, 3), .inl (0, 0), .inl (1, 1)], [((50, 0, 1, 1), .inr (0, 1)), ((50, 2, 1, 1), .inr (0, 52)), ((1, 4, 1, 1), .inr (0, 5)), ((1, 5, 1, 1), .inr (0, 6))], [(52, 0, 144, 1), (52, 1, 144, 1), (52, 2, 144, 1), (52, 3, 144, 1), (52, 4, 144, 1), (52, 5, 144, 1), (52, 6, 144, 1), (52, 7, 144, 1)], [(none, [(0, 11), (0, 11), (0, 2), (0, 3), (0, 0), (1, 1)], [((52, 2, 1, 1), .inl (1, 1)), ((52, 3, 1, 1), .inl (0, 0)), ((52, 4, 1, 1), .inl (0, 2)), ((52, 5, 1, 1), .inl (0, 3)), ((52, 6, 1, 1), .inl (0, 11)), ((52, 7, 1, 1), .inl (0, 11))], 101)], 1, 22, 0, 0)
def ck_h14 : List ab_Hd := []
set_option maxRecDepth 100000 in
theorem ck_k14 (l : Launch) (D : va_G) (st : Nat → Nat) : ck_Mt gk_G l D st ck_c14 := ab_sound (tr := ck_tr) (T := ck_T5) (cs := [ck_c13]) (hs := ck_h14) (sp := []) (fuel := 76) l ck_TSgood ck_okCl ck_okDt (M0 := ck_m63) rfl ck_okT5 (ck_cons (ck_k13 l D st) ck_nil) (by decide +kernel)
/-- SL$Question.isCut -/
def ck_c15 : ab_C := (62, 101, [.inr (0, 50), .inl (0, 11), .inl (0, 11), .inl (0, 2), .inl (0, 3)], [((50, 0, 1, 1), .inr (0, 1)), ((50, 1, 1, 1), .inr (0, 51)), ((50, 2, 1, 1), .inr (0, 52)), ((11, 0, 1, 1), .inr (0, 12)), ((11, 1, 1, 1), .inr (0, 13)), ((10, 0, 1, 10), .inr (3, 9)), ((1, 4, 1, 1), .inr (0, 5)), ((1, 5, 1, 1), .inr (0, 6)), ((1, 10, 1, 1), .inl ((-1), 9)), ((1, 11, 1, 1), .inl (0, 10)), ((1, 12, 1, 1), .inr (0, 10)), ((1, 13, 1, 1), .inr (0, 11))], [(52, 0, 144, 1), (52, 1, 144, 1), (52, 2, 144, 1), (52, 3, 144, 1), (52, 4, 144, 1), (52, 5, 144, 1), (52, 6, 144, 1), (52, 7, 144, 1)], [(some (.inl (0, 1)), [(0, 11), (0, 11), (0, 2), (0, 3)], [((52, 2, 1, 1), .inl (1, 1)), ((52, 3, 1, 1), .inl (0, 0)), ((52, 4, 1, 1), .inl (0, 2)), ((52, 5, 1, 1), .inl (0, 3)), ((52, 6, 1, 1), .inl (0, 11)), ((52, 7, 1, 1), .inl (0, 11))], 101)], 4, 143, 0, 0)
def ck_h15 : List ab_Hd := []
set_option maxRecDepth 100000 in
theorem ck_k15 (l : Launch) (D : va_G) (st : Nat → Nat) : ck_Mt gk_G l D st ck_c15 := ab_sound (tr := ck_tr) (T := ck_T5) (cs := [ck_c14, co_holds]) (hs := ck_h15) (sp := []) (fuel := 36) l ck_TSgood ck_okCl ck_okDt (M0 := ck_m62) rfl ck_okT5 (ck_cons (ck_k14 l D st) (ck_cons (hk_holdsT l D st) ck_nil)) (by decide +kernel)
/-- SL.cuts -/
def ck_c16 : ab_C := (61, 101, [.inr (0, 0), .inl ((-2147483648), 2147483647), .inl ((-2147483648), 2147483647), .inl ((-2147483648), 2147483647), .inl ((-2147483648), 2147483647)], [((50, 0, 1, 1), .inr (0, 1)), ((50, 1, 1, 1), .inr (0, 51)), ((50, 2, 1, 1), .inr (0, 52)), ((11, 0, 1, 1), .inr (0, 12)), ((11, 1, 1, 1), .inr (0, 13)), ((10, 0, 1, 10), .inr (3, 9)), ((1, 0, 1, 1), .inl (0, 12)), ((1, 4, 1, 1), .inr (0, 5)), ((1, 5, 1, 1), .inr (0, 6)), ((1, 10, 1, 1), .inl ((-1), 9)), ((1, 11, 1, 1), .inl (0, 10)), ((1, 12, 1, 1), .inr (0, 10)), ((1, 13, 1, 1), .inr (0, 11)), ((0, 0, 1, 1), .inr (0, 1)), ((0, 5, 1, 1), .inr (0, 50))], [(52, 0, 144, 1), (52, 1, 144, 1), (52, 2, 144, 1), (52, 3, 144, 1), (52, 4, 144, 1), (52, 5, 144, 1), (52, 6, 144, 1), (52, 7, 144, 1)], [(some (.inl ((-1), (-1))), [((-2147483648), 2147483647), ((-2147483648), 2147483647), ((-2147483648), 2147483647), ((-2147483648), 2147483647)], [], 101), (some (.inl (0, 0)), [(0, 11), (0, 11), (0, 2), (0, 3)], [((52, 2, 1, 1), .inl (1, 1)), ((52, 3, 1, 1), .inl (0, 0)), ((52, 4, 1, 1), .inl (0, 2)), ((52, 5, 1, 1), .inl (0, 3)), ((52, 6, 1, 1), .inl (0, 11)), ((52, 7, 1, 1), .inl (0, 11)), ((1, 0, 1, 1), .inl (1, 12))], 101), (some (.inl (1, 1)), [(0, 11), (0, 11), (0, 2), (0, 3)], [((52, 2, 1, 1), .inl (1, 1)), ((52, 3, 1, 1), .inl (0, 0)), ((52, 4, 1, 1), .inl (0, 2)), ((52, 5, 1, 1), .inl (0, 3)), ((52, 6, 1, 1), .inl (0, 11)), ((52, 7, 1, 1), .inl (0, 11)), ((1, 0, 1, 1), .inl (1, 12))], 101)], 5, 167, 0, 0)
def ck_h16 : List ab_Hd := []
set_option maxRecDepth 100000 in
theorem ck_k16 (l : Launch) (D : va_G) (st : Nat → Nat) : ck_Mt gk_G l D st ck_c16 := ab_sound (tr := ck_tr) (T := ck_T0) (cs := [ck_c9, ck_c12, ck_c15]) (hs := ck_h16) (sp := []) (fuel := 49) l ck_TSgood ck_okCl ck_okDt (M0 := ck_m61) rfl ck_okT0 (ck_cons (ck_k9 l D st) (ck_cons (ck_k12 l D st) (ck_cons (ck_k15 l D st) ck_nil))) (by decide +kernel)
/-- SLModel.in -/
def ck_c17 : ab_C := (174, 101, [.inl ((-2147483648), 2147483647), .inl (0, 0), .inl ((-1), 11)], [], [], [(some (.inl (0, 0)), [((-2147483648), (-1)), (0, 0), ((-1), 11)], [], 101), (some (.inl (0, 0)), [(0, 2147483647), (0, 0), ((-1), 11)], [], 101), (some (.inl (1, 1)), [(0, 11), (0, 0), (0, 11)], [], 101)], 0, 0, 0, 0)
def ck_h17 : List ab_Hd := []
set_option maxRecDepth 100000 in
theorem ck_k17 (l : Launch) (D : va_G) (st : Nat → Nat) : ck_Mt gk_G l D st ck_c17 := ab_sound (tr := ck_tr) (T := ck_T13) (cs := []) (hs := ck_h17) (sp := []) (fuel := 33) l ck_TSgood ck_okCl ck_okDt (M0 := ck_m174) rfl ck_okT13 ck_nil (by decide +kernel)
/-- SLModel.isStone -/
def ck_c18 : ab_C := (181, 101, [.inr (0, 77), .inl ((-2147483648), 2147483647)], [((78, 1292, 1, 1), .inl (0, 12)), ((77, 1, 1, 1), .inr (0, 78))], [], [(some (.inl (0, 0)), [((-2147483648), (-1))], [], 101), (some (.inl (0, 0)), [(0, 2147483647)], [], 101), (some (.inl (1, 1)), [(0, 11)], [((78, 1292, 1, 1), .inl (1, 12))], 101)], 1, 22, 0, 0)
def ck_h18 : List ab_Hd := []
set_option maxRecDepth 100000 in
theorem ck_k18 (l : Launch) (D : va_G) (st : Nat → Nat) : ck_Mt gk_G l D st ck_c18 := ab_sound (tr := ck_tr) (T := ck_T13) (cs := [ck_c17]) (hs := ck_h18) (sp := []) (fuel := 34) l ck_TSgood ck_okCl ck_okDt (M0 := ck_m181) rfl ck_okT13 (ck_cons (ck_k17 l D st) ck_nil) (by decide +kernel)
/-- SLModel.in -/
def ck_c19 : ab_C := (174, 101, [.inl ((-2147483648), 2147483647), .inl (0, 0), .inl (2, 2)], [], [], [(some (.inl (0, 0)), [((-2147483648), (-1)), (0, 0), (2, 2)], [], 101), (some (.inl (0, 0)), [(3, 2147483647), (0, 0), (2, 2)], [], 101), (some (.inl (1, 1)), [(0, 2), (0, 0), (2, 2)], [], 101)], 0, 0, 0, 0)
def ck_h19 : List ab_Hd := []
set_option maxRecDepth 100000 in
theorem ck_k19 (l : Launch) (D : va_G) (st : Nat → Nat) : ck_Mt gk_G l D st ck_c19 := ab_sound (tr := ck_tr) (T := ck_T13) (cs := []) (hs := ck_h19) (sp := []) (fuel := 33) l ck_TSgood ck_okCl ck_okDt (M0 := ck_m174) rfl ck_okT13 ck_nil (by decide +kernel)
/-- SLModel.in -/
def ck_c20 : ab_C := (174, 101, [.inl ((-2147483648), 2147483647), .inl (0, 0), .inl (3, 3)], [], [], [(some (.inl (0, 0)), [((-2147483648), (-1)), (0, 0), (3, 3)], [], 101), (some (.inl (0, 0)), [(4, 2147483647), (0, 0), (3, 3)], [], 101), (some (.inl (1, 1)), [(0, 3), (0, 0), (3, 3)], [], 101)], 0, 0, 0, 0)
def ck_h20 : List ab_Hd := []
set_option maxRecDepth 100000 in
theorem ck_k20 (l : Launch) (D : va_G) (st : Nat → Nat) : ck_Mt gk_G l D st ck_c20 := ab_sound (tr := ck_tr) (T := ck_T13) (cs := []) (hs := ck_h20) (sp := []) (fuel := 33) l ck_TSgood ck_okCl ck_okDt (M0 := ck_m174) rfl ck_okT13 ck_nil (by decide +kernel)
/-- SLModel.isSpot -/
def ck_c21 : ab_C := (213, 101, [.inl ((-2147483648), 2147483647), .inl ((-2147483648), 2147483647)], [], [], [(some (.inl (0, 0)), [((-2147483648), (-1)), ((-2147483648), 2147483647)], [], 101), (some (.inl (0, 0)), [(3, 2147483647), ((-2147483648), 2147483647)], [], 101), (some (.inl (0, 0)), [(0, 2), ((-2147483648), (-1))], [], 101), (some (.inl (0, 0)), [(0, 2), (4, 2147483647)], [], 101), (some (.inl (1, 1)), [(0, 2), (0, 3)], [], 101)], 1, 22, 0, 0)
def ck_h21 : List ab_Hd := []
set_option maxRecDepth 100000 in
theorem ck_k21 (l : Launch) (D : va_G) (st : Nat → Nat) : ck_Mt gk_G l D st ck_c21 := ab_sound (tr := ck_tr) (T := ck_T13) (cs := [ck_c19, ck_c20]) (hs := ck_h21) (sp := []) (fuel := 37) l ck_TSgood ck_okCl ck_okDt (M0 := ck_m213) rfl ck_okT13 (ck_cons (ck_k19 l D st) (ck_cons (ck_k20 l D st) ck_nil)) (by decide +kernel)
/-- SLModel.isCut -/
def ck_c22 : ab_C := (214, 101, [.inr (0, 77), .inl (0, 11), .inl (0, 11), .inl (0, 2), .inl (0, 3)], [((78, 1300, 1, 8010), .inr (8, 0)), ((78, 1296, 1, 1), .inl ((-1), 9)), ((77, 1, 1, 1), .inr (0, 78)), ((77, 2, 1, 1), .inr (0, 79)), ((77, 3, 1, 1), .inr (0, 80)), ((77, 4, 1, 1), .inr (0, 81)), ((77, 5, 1, 1), .inr (0, 82)), ((77, 6, 1, 1), .inr (0, 83)), ((77, 9, 1, 1), .inr (0, 84)), ((77, 10, 1, 1), .inr (0, 85)), ((77, 11, 1, 1), .inr (0, 86)), ((77, 19, 1, 1), .inr (0, 87)), ((77, 24, 1, 1), .inr (0, 88)), ((77, 25, 1, 1), .inr (0, 89)), ((77, 26, 1, 1), .inr (0, 90)), ((77, 27, 1, 1), .inr (0, 91)), ((77, 28, 1, 1), .inr (0, 92)), ((77, 30, 1, 1), .inr (0, 93)), ((77, 31, 1, 1), .inr (0, 94)), ((77, 35, 1, 1), .inr (0, 95)), ((77, 36, 1, 1), .inr (0, 96)), ((77, 37, 1, 1), .inr (0, 97)), ((77, 38, 1, 1), .inr (0, 98)), ((77, 39, 1, 1), .inr (0, 99)), ((77, 40, 1, 1), .inr (0, 100)), ((77, 18, 1, 1), .inl (0, 1)), ((77, 20, 1, 1), .inl (0, 1)), ((77, 21, 1, 1), .inl (0, 1))], [(77, 16, 1, 3), (77, 20, 1, 4), (87, 0, 1, 8)], [(some (.inl (0, 1)), [(0, 11), (0, 11), (0, 2), (0, 3)], [((77, 18, 1, 1), .inl (0, 1)), ((77, 20, 1, 1), .inl (0, 1)), ((77, 21, 1, 1), .inl (0, 1))], 101)], 61, 1931, 0, 0)
def ck_h22 : List ab_Hd := []
set_option maxRecDepth 100000 in
theorem ck_k22 (l : Launch) (D : va_G) (st : Nat → Nat) : ck_Mt gk_G l D st ck_c22 := ab_sound (tr := ck_tr) (T := ck_T13) (cs := [co_asks]) (hs := ck_h22) (sp := []) (fuel := 35) l ck_TSgood ck_okCl ck_okDt (M0 := ck_m214) rfl ck_okT13 (ck_cons (hk_asks l D st) ck_nil) (by decide +kernel)
/-- SLModel.cuts -/
def ck_c23 : ab_C := (212, 101, [.inr (0, 77), .inl ((-2147483648), 2147483647), .inl ((-2147483648), 2147483647), .inl ((-2147483648), 2147483647), .inl ((-2147483648), 2147483647)], [((78, 1300, 1, 8010), .inr (8, 0)), ((78, 1292, 1, 1), .inl (0, 12)), ((78, 1296, 1, 1), .inl ((-1), 9)), ((77, 1, 1, 1), .inr (0, 78)), ((77, 2, 1, 1), .inr (0, 79)), ((77, 3, 1, 1), .inr (0, 80)), ((77, 4, 1, 1), .inr (0, 81)), ((77, 5, 1, 1), .inr (0, 82)), ((77, 6, 1, 1), .inr (0, 83)), ((77, 9, 1, 1), .inr (0, 84)), ((77, 10, 1, 1), .inr (0, 85)), ((77, 11, 1, 1), .inr (0, 86)), ((77, 19, 1, 1), .inr (0, 87)), ((77, 24, 1, 1), .inr (0, 88)), ((77, 25, 1, 1), .inr (0, 89)), ((77, 26, 1, 1), .inr (0, 90)), ((77, 27, 1, 1), .inr (0, 91)), ((77, 28, 1, 1), .inr (0, 92)), ((77, 30, 1, 1), .inr (0, 93)), ((77, 31, 1, 1), .inr (0, 94)), ((77, 35, 1, 1), .inr (0, 95)), ((77, 36, 1, 1), .inr (0, 96)), ((77, 37, 1, 1), .inr (0, 97)), ((77, 38, 1, 1), .inr (0, 98)), ((77, 39, 1, 1), .inr (0, 99)), ((77, 40, 1, 1), .inr (0, 100)), ((77, 18, 1, 1), .inl (0, 1)), ((77, 20, 1, 1), .inl (0, 1)), ((77, 21, 1, 1), .inl (0, 1))], [(77, 16, 1, 3), (77, 20, 1, 4), (87, 0, 1, 8)], [(some (.inl ((-1), (-1))), [((-2147483648), 2147483647), ((-2147483648), 2147483647), ((-2147483648), 2147483647), ((-2147483648), 2147483647)], [((77, 18, 1, 1), .inl (0, 1)), ((77, 20, 1, 1), .inl (0, 1)), ((77, 21, 1, 1), .inl (0, 1))], 101), (some (.inl (0, 0)), [(0, 11), (0, 11), (0, 2), (0, 3)], [((77, 18, 1, 1), .inl (0, 1)), ((77, 20, 1, 1), .inl (0, 1)), ((77, 21, 1, 1), .inl (0, 1)), ((78, 1292, 1, 1), .inl (1, 12))], 101), (some (.inl (1, 1)), [(0, 11), (0, 11), (0, 2), (0, 3)], [((77, 18, 1, 1), .inl (0, 1)), ((77, 20, 1, 1), .inl (0, 1)), ((77, 21, 1, 1), .inl (0, 1)), ((78, 1292, 1, 1), .inl (1, 12))], 101)], 62, 1955, 0, 0)
def ck_h23 : List ab_Hd := []
set_option maxRecDepth 100000 in
theorem ck_k23 (l : Launch) (D : va_G) (st : Nat → Nat) : ck_Mt gk_G l D st ck_c23 := ab_sound (tr := ck_tr) (T := ck_T13) (cs := [ck_c18, ck_c21, ck_c22]) (hs := ck_h23) (sp := []) (fuel := 46) l ck_TSgood ck_okCl ck_okDt (M0 := ck_m212) rfl ck_okT13 (ck_cons (ck_k18 l D st) (ck_cons (ck_k21 l D st) (ck_cons (ck_k22 l D st) ck_nil))) (by decide +kernel)
/-- SL.within -/
def ck_c24 : ab_C := (14, 101, [.inl ((-2147483648), 2147483647), .inl (0, 0), .inl (1, 1)], [], [], [(some (.inl (0, 0)), [((-2147483648), (-1)), (0, 0), (1, 1)], [], 101), (some (.inl (0, 0)), [(2, 2147483647), (0, 0), (1, 1)], [], 101), (some (.inl (1, 1)), [(0, 1), (0, 0), (1, 1)], [], 101)], 0, 0, 0, 0)
def ck_h24 : List ab_Hd := []
set_option maxRecDepth 100000 in
theorem ck_k24 (l : Launch) (D : va_G) (st : Nat → Nat) : ck_Mt gk_G l D st ck_c24 := ab_sound (tr := ck_tr) (T := ck_T0) (cs := []) (hs := ck_h24) (sp := []) (fuel := 33) l ck_TSgood ck_okCl ck_okDt (M0 := ck_m14) rfl ck_okT0 ck_nil (by decide +kernel)
/-- java/util/Arrays.fill -/
def ck_c25 : ab_C := (8, 101, [.inr (0, 54), .inl (0, 0)], [], [(54, 0, 1, 144)], [(none, [(0, 0)], [], 101)], 0, 0, 0, 0)
def ck_h25 : List ab_Hd := [(5, ([(0, 0, 0, (0, 0, 0)), (0, 144, 0, (0, 0, 0))], [(3, .inl (0, 0, 144)), (2, .inl (1, 1, 0)), (0, .inr (0, 54)), (1, .inl (0, 1, 0))], [], ([], []), 101, 0, 0), 1, 0)]
set_option maxRecDepth 100000 in
theorem ck_k25 (l : Launch) (D : va_G) (st : Nat → Nat) : ck_Mt gk_G l D st ck_c25 := ab_sound (tr := ck_tr) (T := ck_T15) (cs := []) (hs := ck_h25) (sp := []) (fuel := 39) l ck_TSgood ck_okCl ck_okDt (M0 := ck_m8) rfl ck_okT15 ck_nil (by decide +kernel)
/-- java/util/Arrays.fill -/
def ck_c26 : ab_C := (8, 101, [.inr (0, 55), .inl (0, 0)], [], [(55, 0, 1, 12)], [(none, [(0, 0)], [], 101)], 0, 0, 0, 0)
def ck_h26 : List ab_Hd := [(5, ([(0, 0, 0, (0, 0, 0)), (0, 12, 0, (0, 0, 0))], [(3, .inl (0, 0, 12)), (2, .inl (1, 1, 0)), (0, .inr (0, 55)), (1, .inl (0, 1, 0))], [], ([], []), 101, 0, 0), 1, 0)]
set_option maxRecDepth 100000 in
theorem ck_k26 (l : Launch) (D : va_G) (st : Nat → Nat) : ck_Mt gk_G l D st ck_c26 := ab_sound (tr := ck_tr) (T := ck_T15) (cs := []) (hs := ck_h26) (sp := []) (fuel := 39) l ck_TSgood ck_okCl ck_okDt (M0 := ck_m8) rfl ck_okT15 ck_nil (by decide +kernel)
/-- java/util/Arrays.fill -/
def ck_c27 : ab_C := (8, 101, [.inr (0, 56), .inl (0, 0)], [], [(56, 0, 1, 12)], [(none, [(0, 0)], [], 101)], 0, 0, 0, 0)
def ck_h27 : List ab_Hd := [(5, ([(0, 0, 0, (0, 0, 0)), (0, 12, 0, (0, 0, 0))], [(3, .inl (0, 0, 12)), (2, .inl (1, 1, 0)), (0, .inr (0, 56)), (1, .inl (0, 1, 0))], [], ([], []), 101, 0, 0), 1, 0)]
set_option maxRecDepth 100000 in
theorem ck_k27 (l : Launch) (D : va_G) (st : Nat → Nat) : ck_Mt gk_G l D st ck_c27 := ab_sound (tr := ck_tr) (T := ck_T15) (cs := []) (hs := ck_h27) (sp := []) (fuel := 39) l ck_TSgood ck_okCl ck_okDt (M0 := ck_m8) rfl ck_okT15 ck_nil (by decide +kernel)
/-- java/util/Arrays.fill -/
def ck_c28 : ab_C := (8, 101, [.inr (0, 58), .inl (0, 0)], [], [(58, 0, 1, 12)], [(none, [(0, 0)], [], 101)], 0, 0, 0, 0)
def ck_h28 : List ab_Hd := [(5, ([(0, 0, 0, (0, 0, 0)), (0, 12, 0, (0, 0, 0))], [(3, .inl (0, 0, 12)), (2, .inl (1, 1, 0)), (0, .inr (0, 58)), (1, .inl (0, 1, 0))], [], ([], []), 101, 0, 0), 1, 0)]
set_option maxRecDepth 100000 in
theorem ck_k28 (l : Launch) (D : va_G) (st : Nat → Nat) : ck_Mt gk_G l D st ck_c28 := ab_sound (tr := ck_tr) (T := ck_T15) (cs := []) (hs := ck_h28) (sp := []) (fuel := 39) l ck_TSgood ck_okCl ck_okDt (M0 := ck_m8) rfl ck_okT15 ck_nil (by decide +kernel)
/-- SL$Ties.close -/
def ck_c29 : ab_C := (90, 101, [.inr (0, 53)], [((1, 0, 1, 1), .inl (1, 12)), ((53, 0, 1, 1), .inr (0, 1)), ((53, 3, 1, 1), .inr (0, 56)), ((53, 4, 1, 1), .inr (0, 57)), ((1, 0, 1, 1), .inl (1, 12))], [(57, 0, 1, 12)], [(none, [], [], 101)], 1, 41, 0, 0)
def ck_h29 : List ab_Hd := [(17, ([(0, 12, 0, (0, 0, 0))], [(1, .inl (0, 1, 0)), (0, .inr (0, 53))], [], ([((1, 0, 1, 1), .inl (1, 12)), ((53, 0, 1, 1), .inr (0, 1)), ((53, 3, 1, 1), .inr (0, 56)), ((53, 4, 1, 1), .inr (0, 57)), ((1, 0, 1, 1), .inl (1, 12))], []), 101, 0, 0), 0, 0), (30, ([(0, 11, 0, (0, 0, 0)), (0, 12, 0, (0, 0, 0))], [(2, .inl (1, 1, 0)), (1, .inl (0, 1, 0)), (0, .inr (0, 53))], [], ([((1, 0, 1, 1), .inl (1, 12)), ((53, 0, 1, 1), .inr (0, 1)), ((53, 3, 1, 1), .inr (0, 56)), ((53, 4, 1, 1), .inr (0, 57)), ((1, 0, 1, 1), .inl (1, 12))], []), 101, 0, 0), 1, 0)]
set_option maxRecDepth 100000 in
theorem ck_k29 (l : Launch) (D : va_G) (st : Nat → Nat) : ck_Mt gk_G l D st ck_c29 := ab_sound (tr := ck_tr) (T := ck_T11) (cs := []) (hs := ck_h29) (sp := []) (fuel := 70) l ck_TSgood ck_okCl ck_okDt (M0 := ck_m90) rfl ck_okT11 ck_nil (by decide +kernel)
/-- SL$Bench.column -/
def ck_c30 : ab_C := (80, 101, [.inr (0, 1), .inl (0, 119), .inl (8, 8)], [((1, 15, 1, 1), .inr (0, 14))], [], [(some (.inl ((-2147483648), 2147483647)), [(0, 119), (8, 8)], [], 101)], 0, 0, 0, 0)
def ck_h30 : List ab_Hd := []
set_option maxRecDepth 100000 in
theorem ck_k30 (l : Launch) (D : va_G) (st : Nat → Nat) : ck_Mt gk_G l D st ck_c30 := ab_sound (tr := ck_tr) (T := ck_T1) (cs := []) (hs := ck_h30) (sp := []) (fuel := 33) l ck_TSgood ck_okCl ck_okDt (M0 := ck_m80) rfl ck_okT1 ck_nil (by decide +kernel)
/-- SL$Bench.column -/
def ck_c31 : ab_C := (80, 101, [.inr (0, 1), .inl (0, 119), .inl (2, 2)], [((1, 15, 1, 1), .inr (0, 14))], [], [(some (.inl ((-2147483648), 2147483647)), [(0, 119), (2, 2)], [], 101)], 0, 0, 0, 0)
def ck_h31 : List ab_Hd := []
set_option maxRecDepth 100000 in
theorem ck_k31 (l : Launch) (D : va_G) (st : Nat → Nat) : ck_Mt gk_G l D st ck_c31 := ab_sound (tr := ck_tr) (T := ck_T1) (cs := []) (hs := ck_h31) (sp := []) (fuel := 33) l ck_TSgood ck_okCl ck_okDt (M0 := ck_m80) rfl ck_okT1 ck_nil (by decide +kernel)
/-- SL$Bench.column -/
def ck_c32 : ab_C := (80, 101, [.inr (0, 1), .inl (0, 119), .inl (3, 3)], [((1, 15, 1, 1), .inr (0, 14))], [], [(some (.inl ((-2147483648), 2147483647)), [(0, 119), (3, 3)], [], 101)], 0, 0, 0, 0)
def ck_h32 : List ab_Hd := []
set_option maxRecDepth 100000 in
theorem ck_k32 (l : Launch) (D : va_G) (st : Nat → Nat) : ck_Mt gk_G l D st ck_c32 := ab_sound (tr := ck_tr) (T := ck_T1) (cs := []) (hs := ck_h32) (sp := []) (fuel := 33) l ck_TSgood ck_okCl ck_okDt (M0 := ck_m80) rfl ck_okT1 ck_nil (by decide +kernel)
/-- SL$Bench.column -/
def ck_c33 : ab_C := (80, 101, [.inr (0, 1), .inl (0, 119), .inl (4, 4)], [((1, 15, 1, 1), .inr (0, 14))], [], [(some (.inl ((-2147483648), 2147483647)), [(0, 119), (4, 4)], [], 101)], 0, 0, 0, 0)
def ck_h33 : List ab_Hd := []
set_option maxRecDepth 100000 in
theorem ck_k33 (l : Launch) (D : va_G) (st : Nat → Nat) : ck_Mt gk_G l D st ck_c33 := ab_sound (tr := ck_tr) (T := ck_T1) (cs := []) (hs := ck_h33) (sp := []) (fuel := 33) l ck_TSgood ck_okCl ck_okDt (M0 := ck_m80) rfl ck_okT1 ck_nil (by decide +kernel)
/-- SL$Bench.counts -/
def ck_c34 : ab_C := (84, 101, [.inr (0, 1), .inl (0, 119)], [((1, 15, 1, 1), .inr (0, 14))], [], [(some (.inl (0, 0)), [(0, 119)], [], 101), (some (.inl (1, 1)), [(0, 119)], [], 101)], 1, 22, 0, 0)
def ck_h34 : List ab_Hd := []
set_option maxRecDepth 100000 in
theorem ck_k34 (l : Launch) (D : va_G) (st : Nat → Nat) : ck_Mt gk_G l D st ck_c34 := ab_sound (tr := ck_tr) (T := ck_T1) (cs := [ck_c30, ck_c31, ck_c32, ck_c33]) (hs := ck_h34) (sp := []) (fuel := 65) l ck_TSgood ck_okCl ck_okDt (M0 := ck_m84) rfl ck_okT1 (ck_cons (ck_k30 l D st) (ck_cons (ck_k31 l D st) (ck_cons (ck_k32 l D st) (ck_cons (ck_k33 l D st) ck_nil)))) (by decide +kernel)
/-- SL$Bench.column -/
def ck_c35 : ab_C := (80, 101, [.inr (0, 1), .inl (0, 119), .inl (0, 0)], [((14, 0, 9, 120), .inl (0, 11)), ((1, 15, 1, 1), .inr (0, 14))], [], [(some (.inl (0, 11)), [(0, 119), (0, 0)], [], 101)], 0, 0, 0, 0)
def ck_h35 : List ab_Hd := []
set_option maxRecDepth 100000 in
theorem ck_k35 (l : Launch) (D : va_G) (st : Nat → Nat) : ck_Mt gk_G l D st ck_c35 := ab_sound (tr := ck_tr) (T := ck_T1) (cs := []) (hs := ck_h35) (sp := []) (fuel := 33) l ck_TSgood ck_okCl ck_okDt (M0 := ck_m80) rfl ck_okT1 ck_nil (by decide +kernel)
/-- SL$Bench.column -/
def ck_c36 : ab_C := (80, 101, [.inr (0, 1), .inl (0, 119), .inl (1, 1)], [((14, 1, 9, 120), .inl (0, 11)), ((1, 15, 1, 1), .inr (0, 14))], [], [(some (.inl (0, 11)), [(0, 119), (1, 1)], [], 101)], 0, 0, 0, 0)
def ck_h36 : List ab_Hd := []
set_option maxRecDepth 100000 in
theorem ck_k36 (l : Launch) (D : va_G) (st : Nat → Nat) : ck_Mt gk_G l D st ck_c36 := ab_sound (tr := ck_tr) (T := ck_T1) (cs := []) (hs := ck_h36) (sp := []) (fuel := 33) l ck_TSgood ck_okCl ck_okDt (M0 := ck_m80) rfl ck_okT1 ck_nil (by decide +kernel)
/-- SL$Bench.column -/
def ck_c37 : ab_C := (80, 101, [.inr (0, 1), .inl (0, 119), .inl (5, 5)], [((1, 15, 1, 1), .inr (0, 14))], [], [(some (.inl ((-2147483648), 2147483647)), [(0, 119), (5, 5)], [], 101)], 0, 0, 0, 0)
def ck_h37 : List ab_Hd := []
set_option maxRecDepth 100000 in
theorem ck_k37 (l : Launch) (D : va_G) (st : Nat → Nat) : ck_Mt gk_G l D st ck_c37 := ab_sound (tr := ck_tr) (T := ck_T1) (cs := []) (hs := ck_h37) (sp := []) (fuel := 33) l ck_TSgood ck_okCl ck_okDt (M0 := ck_m80) rfl ck_okT1 ck_nil (by decide +kernel)
/-- SL$Bench.speaks -/
def ck_c38 : ab_C := (89, 101, [.inr (0, 1), .inl (0, 119)], [((1, 15, 1, 1), .inr (0, 14))], [], [(some (.inl (0, 0)), [(0, 119)], [], 101), (some (.inl (1, 1)), [(0, 119)], [], 101)], 2, 43, 0, 0)
def ck_h38 : List ab_Hd := []
set_option maxRecDepth 100000 in
theorem ck_k38 (l : Launch) (D : va_G) (st : Nat → Nat) : ck_Mt gk_G l D st ck_c38 := ab_sound (tr := ck_tr) (T := ck_T1) (cs := [ck_c37, ck_c34]) (hs := ck_h38) (sp := []) (fuel := 42) l ck_TSgood ck_okCl ck_okDt (M0 := ck_m89) rfl ck_okT1 (ck_cons (ck_k37 l D st) (ck_cons (ck_k34 l D st) ck_nil)) (by decide +kernel)
/-- SL$Ties.take -/
def ck_c39 : ab_C := (88, 101, [.inr (0, 53), .inl (0, 119)], [((53, 0, 1, 1), .inr (0, 1)), ((53, 1, 1, 1), .inr (0, 54)), ((53, 2, 1, 1), .inr (0, 55)), ((53, 3, 1, 1), .inr (0, 56)), ((53, 5, 1, 1), .inr (0, 58)), ((14, 0, 9, 120), .inl (0, 11)), ((14, 1, 9, 120), .inl (0, 11)), ((1, 15, 1, 1), .inr (0, 14))], [(54, 0, 1, 144), (55, 0, 1, 12), (56, 0, 1, 12), (58, 0, 1, 12)], [(none, [(0, 119)], [], 101)], 3, 65, 0, 0)
def ck_h39 : List ab_Hd := []
set_option maxRecDepth 100000 in
theorem ck_k39 (l : Launch) (D : va_G) (st : Nat → Nat) : ck_Mt gk_G l D st ck_c39 := ab_sound (tr := ck_tr) (T := ck_T11) (cs := [ck_c35, ck_c36, ck_c38]) (hs := ck_h39) (sp := []) (fuel := 94) l ck_TSgood ck_okCl ck_okDt (M0 := ck_m88) rfl ck_okT11 (ck_cons (ck_k35 l D st) (ck_cons (ck_k36 l D st) (ck_cons (ck_k38 l D st) ck_nil))) (by decide +kernel)
