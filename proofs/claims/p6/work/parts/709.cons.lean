/-- SL.accept -/
def ck_c360 : ab_C := (17, 101, [.inr (0, 0), .inl (0, 0)], [], [(0, 14, 1, 1)], [(some (.inl (0, 0)), [(0, 0)], [((0, 14, 1, 1), .inl (0, 0))], 101)], 0, 0, 0, 0)
def ck_h360 : List ab_Hd := []
set_option maxRecDepth 100000 in
theorem ck_k360 (l : Launch) (D : va_G) (st : Nat → Nat) : ck_Mt gk_G l D st ck_c360 := ab_sound (tr := ck_tr2) (T := ck_T0) (cs := []) (hs := ck_h360) (sp := []) (fuel := 29) l ck_TSgood ck_okCl ck_okDt (M0 := ck_m17) rfl ck_okT0 ck_nil (by decide +kernel)
/-- SL.hand -/
def ck_c361 : ab_C := (25, 101, [.inr (0, 0), .inl ((-2147483648), 2147483647), .inl ((-2147483648), 2147483647), .inl ((-2147483648), 2147483647)], [((1, 7, 1, 1), .inr (0, 8)), ((1, 8, 1, 1), .inr (0, 9)), ((0, 0, 1, 1), .inr (0, 1))], [(0, 14, 1, 1), (8, 0, 1, 4), (9, 0, 1, 4)], [(some (.inl ((-1), (-1))), [((-2147483648), (-1)), ((-2147483648), 2147483647), ((-2147483648), 2147483647)], [((0, 14, 1, 1), .inl ((-1), (-1)))], 101), (some (.inl ((-1), (-1))), [(4, 2147483647), ((-2147483648), 2147483647), ((-2147483648), 2147483647)], [((0, 14, 1, 1), .inl ((-1), (-1)))], 101), (some (.inl ((-1), (-1))), [(0, 3), ((-2147483648), (-1)), ((-2147483648), 2147483647)], [((0, 14, 1, 1), .inl ((-1), (-1)))], 101), (some (.inl ((-1), (-1))), [(0, 3), (101, 2147483647), ((-2147483648), 2147483647)], [((0, 14, 1, 1), .inl ((-1), (-1)))], 101), (some (.inl ((-1), (-1))), [(0, 3), (0, 100), ((-2147483648), (-1))], [((0, 14, 1, 1), .inl ((-1), (-1)))], 101), (some (.inl ((-1), (-1))), [(0, 3), (0, 100), (101, 2147483647)], [((0, 14, 1, 1), .inl ((-1), (-1)))], 101), (some (.inl (0, 0)), [(0, 3), (0, 100), (0, 100)], [((0, 14, 1, 1), .inl (0, 0))], 101)], 2, 42, 0, 0)
def ck_h361 : List ab_Hd := []
set_option maxRecDepth 100000 in
theorem ck_k361 (l : Launch) (D : va_G) (st : Nat → Nat) : ck_Mt gk_G l D st ck_c361 := ab_sound (tr := ck_tr2) (T := ck_T0) (cs := [ck_c358, ck_c149, ck_c359, ck_c360]) (hs := ck_h361) (sp := []) (fuel := 53) l ck_TSgood ck_okCl ck_okDt (M0 := ck_m25) rfl ck_okT0 (ck_cons (ck_k358 l D st) (ck_cons (ck_k149 l D st) (ck_cons (ck_k359 l D st) (ck_cons (ck_k360 l D st) ck_nil)))) (by decide +kernel)
/-- SLModel.in -/
def ck_c362 : ab_C := (174, 101, [.inl ((-2147483648), 2147483647), .inl (0, 0), .inl (100, 100)], [], [], [(some (.inl (0, 0)), [((-2147483648), (-1)), (0, 0), (100, 100)], [], 101), (some (.inl (0, 0)), [(101, 2147483647), (0, 0), (100, 100)], [], 101), (some (.inl (1, 1)), [(0, 100), (0, 0), (100, 100)], [], 101)], 0, 0, 0, 0)
def ck_h362 : List ab_Hd := []
set_option maxRecDepth 100000 in
theorem ck_k362 (l : Launch) (D : va_G) (st : Nat → Nat) : ck_Mt gk_G l D st ck_c362 := ab_sound (tr := ck_tr2) (T := ck_T13) (cs := []) (hs := ck_h362) (sp := []) (fuel := 33) l ck_TSgood ck_okCl ck_okDt (M0 := ck_m174) rfl ck_okT13 ck_nil (by decide +kernel)
/-- SLModel.hand -/
def ck_c363 : ab_C := (185, 101, [.inr (0, 77), .inl ((-2147483648), 2147483647), .inl ((-2147483648), 2147483647), .inl ((-2147483648), 2147483647)], [((77, 1, 1, 1), .inr (0, 78))], [(77, 0, 1, 1), (78, 204, 2, 4), (78, 205, 2, 4)], [(some (.inl ((-1), (-1))), [((-2147483648), (-1)), ((-2147483648), 2147483647), ((-2147483648), 2147483647)], [((77, 0, 1, 1), .inl ((-1), (-1)))], 101), (some (.inl ((-1), (-1))), [(4, 2147483647), ((-2147483648), 2147483647), ((-2147483648), 2147483647)], [((77, 0, 1, 1), .inl ((-1), (-1)))], 101), (some (.inl ((-1), (-1))), [(0, 3), ((-2147483648), (-1)), ((-2147483648), 2147483647)], [((77, 0, 1, 1), .inl ((-1), (-1)))], 101), (some (.inl ((-1), (-1))), [(0, 3), (101, 2147483647), ((-2147483648), 2147483647)], [((77, 0, 1, 1), .inl ((-1), (-1)))], 101), (some (.inl ((-1), (-1))), [(0, 3), (0, 100), ((-2147483648), (-1))], [((77, 0, 1, 1), .inl ((-1), (-1)))], 101), (some (.inl ((-1), (-1))), [(0, 3), (0, 100), (101, 2147483647)], [((77, 0, 1, 1), .inl ((-1), (-1)))], 101), (some (.inl (0, 0)), [(0, 3), (0, 100), (0, 100)], [((77, 0, 1, 1), .inl (0, 0))], 101)], 1, 22, 0, 0)
def ck_h363 : List ab_Hd := []
set_option maxRecDepth 100000 in
theorem ck_k363 (l : Launch) (D : va_G) (st : Nat → Nat) : ck_Mt gk_G l D st ck_c363 := ab_sound (tr := ck_tr2) (T := ck_T13) (cs := [ck_c186, ck_c157, ck_c362, ck_c161]) (hs := ck_h363) (sp := []) (fuel := 63) l ck_TSgood ck_okCl ck_okDt (M0 := ck_m185) rfl ck_okT13 (ck_cons (ck_k186 l D st) (ck_cons (ck_k157 l D st) (ck_cons (ck_k362 l D st) (ck_cons (ck_k161 l D st) ck_nil)))) (by decide +kernel)
/-- SL.within -/
def ck_c364 : ab_C := (14, 101, [.inl ((-2147483648), 2147483647), .inl (0, 0), .inl (1000000, 1000000)], [], [], [(some (.inl (0, 0)), [((-2147483648), (-1)), (0, 0), (1000000, 1000000)], [], 101), (some (.inl (0, 0)), [(1000001, 2147483647), (0, 0), (1000000, 1000000)], [], 101), (some (.inl (1, 1)), [(0, 1000000), (0, 0), (1000000, 1000000)], [], 101)], 0, 0, 0, 0)
def ck_h364 : List ab_Hd := []
set_option maxRecDepth 100000 in
theorem ck_k364 (l : Launch) (D : va_G) (st : Nat → Nat) : ck_Mt gk_G l D st ck_c364 := ab_sound (tr := ck_tr2) (T := ck_T0) (cs := []) (hs := ck_h364) (sp := []) (fuel := 33) l ck_TSgood ck_okCl ck_okDt (M0 := ck_m14) rfl ck_okT0 ck_nil (by decide +kernel)
/-- SL.seed -/
def ck_c365 : ab_C := (27, 101, [.inr (0, 0), .inl ((-2147483648), 2147483647)], [((0, 0, 1, 1), .inr (0, 1))], [(0, 14, 1, 1), (1, 9, 1, 1)], [(some (.inl ((-1), (-1))), [((-2147483648), (-1))], [((0, 14, 1, 1), .inl ((-1), (-1)))], 101), (some (.inl ((-1), (-1))), [(1000001, 2147483647)], [((0, 14, 1, 1), .inl ((-1), (-1)))], 101), (some (.inl (0, 0)), [(0, 1000000)], [((1, 9, 1, 1), .inl (0, 1000000)), ((0, 14, 1, 1), .inl (0, 0))], 101)], 1, 22, 0, 0)
def ck_h365 : List ab_Hd := []
set_option maxRecDepth 100000 in
theorem ck_k365 (l : Launch) (D : va_G) (st : Nat → Nat) : ck_Mt gk_G l D st ck_c365 := ab_sound (tr := ck_tr2) (T := ck_T0) (cs := [ck_c364, ck_c149, ck_c360]) (hs := ck_h365) (sp := []) (fuel := 37) l ck_TSgood ck_okCl ck_okDt (M0 := ck_m27) rfl ck_okT0 (ck_cons (ck_k364 l D st) (ck_cons (ck_k149 l D st) (ck_cons (ck_k360 l D st) ck_nil))) (by decide +kernel)
/-- SLModel.in -/
def ck_c366 : ab_C := (174, 101, [.inl ((-2147483648), 2147483647), .inl (0, 0), .inl (1000000, 1000000)], [], [], [(some (.inl (0, 0)), [((-2147483648), (-1)), (0, 0), (1000000, 1000000)], [], 101), (some (.inl (0, 0)), [(1000001, 2147483647), (0, 0), (1000000, 1000000)], [], 101), (some (.inl (1, 1)), [(0, 1000000), (0, 0), (1000000, 1000000)], [], 101)], 0, 0, 0, 0)
def ck_h366 : List ab_Hd := []
set_option maxRecDepth 100000 in
theorem ck_k366 (l : Launch) (D : va_G) (st : Nat → Nat) : ck_Mt gk_G l D st ck_c366 := ab_sound (tr := ck_tr2) (T := ck_T13) (cs := []) (hs := ck_h366) (sp := []) (fuel := 33) l ck_TSgood ck_okCl ck_okDt (M0 := ck_m174) rfl ck_okT13 ck_nil (by decide +kernel)
/-- SLModel.seed -/
def ck_c367 : ab_C := (186, 101, [.inr (0, 77), .inl ((-2147483648), 2147483647)], [((77, 1, 1, 1), .inr (0, 78))], [(77, 0, 1, 1), (78, 1295, 144, 1)], [(some (.inl ((-1), (-1))), [((-2147483648), (-1))], [((77, 0, 1, 1), .inl ((-1), (-1)))], 101), (some (.inl ((-1), (-1))), [(1000001, 2147483647)], [((77, 0, 1, 1), .inl ((-1), (-1)))], 101), (some (.inl (0, 0)), [(0, 1000000)], [((78, 1295, 1, 1), .inl (0, 1000000)), ((77, 0, 1, 1), .inl (0, 0))], 101)], 1, 22, 0, 0)
def ck_h367 : List ab_Hd := []
set_option maxRecDepth 100000 in
theorem ck_k367 (l : Launch) (D : va_G) (st : Nat → Nat) : ck_Mt gk_G l D st ck_c367 := ab_sound (tr := ck_tr2) (T := ck_T13) (cs := [ck_c366, ck_c157, ck_c161]) (hs := ck_h367) (sp := []) (fuel := 38) l ck_TSgood ck_okCl ck_okDt (M0 := ck_m186) rfl ck_okT13 (ck_cons (ck_k366 l D st) (ck_cons (ck_k157 l D st) (ck_cons (ck_k161 l D st) ck_nil))) (by decide +kernel)
/-- SL$Tape.append -/
def ck_c368 : ab_C := (29, 101, [.inr (0, 45), .inl ((-2147483648), 2147483647)], [((45, 0, 1, 1), .inr (0, 46)), ((45, 1, 1, 1), .inl (0, 380))], [(45, 1, 1, 1), (46, 0, 1, 381), (46, 1, 1, 381), (46, 2, 1, 381), (46, 3, 1, 381)], [(none, [((-2147483648), 2147483647)], [((45, 1, 1, 1), .inl (4, 384))], 101)], 0, 0, 0, 0)
def ck_h368 : List ab_Hd := []
set_option maxRecDepth 100000 in
theorem ck_k368 (l : Launch) (D : va_G) (st : Nat → Nat) : ck_Mt gk_G l D st ck_c368 := ab_sound (tr := ck_tr2) (T := ck_T9) (cs := []) (hs := ck_h368) (sp := []) (fuel := 109) l ck_TSgood ck_okCl ck_okDt (M0 := ck_m29) rfl ck_okT9 ck_nil (by decide +kernel)
/-- SL$Tape.append -/
def ck_c369 : ab_C := (29, 101, [.inr (0, 45), .inl ((-2147483648), 2147483647)], [((45, 1, 1, 1), .inl (4, 384)), ((45, 0, 1, 1), .inr (0, 46))], [(45, 1, 1, 1), (46, 4, 1, 381), (46, 5, 1, 381), (46, 6, 1, 381), (46, 7, 1, 381)], [(none, [((-2147483648), 2147483647)], [((45, 1, 1, 1), .inl (8, 388))], 101)], 0, 0, 0, 0)
def ck_h369 : List ab_Hd := []
set_option maxRecDepth 100000 in
theorem ck_k369 (l : Launch) (D : va_G) (st : Nat → Nat) : ck_Mt gk_G l D st ck_c369 := ab_sound (tr := ck_tr2) (T := ck_T9) (cs := []) (hs := ck_h369) (sp := []) (fuel := 109) l ck_TSgood ck_okCl ck_okDt (M0 := ck_m29) rfl ck_okT9 ck_nil (by decide +kernel)
/-- SL$Tape.append -/
def ck_c370 : ab_C := (29, 101, [.inr (0, 45), .inl ((-2147483648), 2147483647)], [((45, 1, 1, 1), .inl (8, 388)), ((45, 0, 1, 1), .inr (0, 46))], [(45, 1, 1, 1), (46, 8, 1, 381), (46, 9, 1, 381), (46, 10, 1, 381), (46, 11, 1, 381)], [(none, [((-2147483648), 2147483647)], [((45, 1, 1, 1), .inl (12, 392))], 101)], 0, 0, 0, 0)
def ck_h370 : List ab_Hd := []
set_option maxRecDepth 100000 in
theorem ck_k370 (l : Launch) (D : va_G) (st : Nat → Nat) : ck_Mt gk_G l D st ck_c370 := ab_sound (tr := ck_tr2) (T := ck_T9) (cs := []) (hs := ck_h370) (sp := []) (fuel := 109) l ck_TSgood ck_okCl ck_okDt (M0 := ck_m29) rfl ck_okT9 ck_nil (by decide +kernel)
/-- SL$Tape.append -/
def ck_c371 : ab_C := (29, 101, [.inr (0, 45), .inl ((-2147483648), 2147483647)], [((45, 1, 1, 1), .inl (12, 392)), ((45, 0, 1, 1), .inr (0, 46))], [(45, 1, 1, 1), (46, 12, 1, 381), (46, 13, 1, 381), (46, 14, 1, 381), (46, 15, 1, 381)], [(none, [((-2147483648), 2147483647)], [((45, 1, 1, 1), .inl (16, 396))], 101)], 0, 0, 0, 0)
def ck_h371 : List ab_Hd := []
set_option maxRecDepth 100000 in
theorem ck_k371 (l : Launch) (D : va_G) (st : Nat → Nat) : ck_Mt gk_G l D st ck_c371 := ab_sound (tr := ck_tr2) (T := ck_T9) (cs := []) (hs := ck_h371) (sp := []) (fuel := 109) l ck_TSgood ck_okCl ck_okDt (M0 := ck_m29) rfl ck_okT9 ck_nil (by decide +kernel)
/-- SL$Tape.append -/
def ck_c372 : ab_C := (29, 101, [.inr (0, 45), .inl ((-2147483648), 2147483647)], [((45, 1, 1, 1), .inl (16, 396)), ((45, 0, 1, 1), .inr (0, 46))], [(45, 1, 1, 1), (46, 16, 1, 381), (46, 17, 1, 381), (46, 18, 1, 381), (46, 19, 1, 381)], [(none, [((-2147483648), 2147483647)], [((45, 1, 1, 1), .inl (20, 400))], 101)], 0, 0, 0, 0)
def ck_h372 : List ab_Hd := []
set_option maxRecDepth 100000 in
theorem ck_k372 (l : Launch) (D : va_G) (st : Nat → Nat) : ck_Mt gk_G l D st ck_c372 := ab_sound (tr := ck_tr2) (T := ck_T9) (cs := []) (hs := ck_h372) (sp := []) (fuel := 109) l ck_TSgood ck_okCl ck_okDt (M0 := ck_m29) rfl ck_okT9 ck_nil (by decide +kernel)
/-- SL.feed -/
def ck_c373 : ab_C := (28, 101, [.inr (0, 0), .inl ((-2147483648), 2147483647), .inl ((-2147483648), 2147483647), .inl ((-2147483648), 2147483647), .inl ((-2147483648), 2147483647), .inl ((-2147483648), 2147483647)], [((45, 0, 1, 1), .inr (0, 46)), ((45, 1, 1, 1), .inl (0, 400)), ((0, 3, 1, 1), .inr (0, 45))], [(45, 1, 1, 1), (46, 0, 1, 381), (46, 1, 1, 381), (46, 2, 1, 381), (46, 3, 1, 381), (46, 4, 1, 381), (46, 5, 1, 381), (46, 6, 1, 381), (46, 7, 1, 381), (46, 8, 1, 381), (46, 9, 1, 381), (46, 10, 1, 381), (46, 11, 1, 381), (46, 12, 1, 381), (46, 13, 1, 381), (46, 14, 1, 381), (46, 15, 1, 381), (46, 16, 1, 381), (46, 17, 1, 381), (46, 18, 1, 381), (46, 19, 1, 381)], [(some (.inl (20, 400)), [((-2147483648), 2147483647), ((-2147483648), 2147483647), ((-2147483648), 2147483647), ((-2147483648), 2147483647), ((-2147483648), 2147483647)], [((45, 1, 1, 1), .inl (20, 400))], 101), (some (.inl ((-1), (-1))), [((-2147483648), 2147483647), ((-2147483648), 2147483647), ((-2147483648), 2147483647), ((-2147483648), 2147483647), ((-2147483648), 2147483647)], [((45, 1, 1, 1), .inl (381, 400))], 101)], 1, 22, 0, 0)
def ck_h373 : List ab_Hd := []
set_option maxRecDepth 100000 in
theorem ck_k373 (l : Launch) (D : va_G) (st : Nat → Nat) : ck_Mt gk_G l D st ck_c373 := ab_sound (tr := ck_tr2) (T := ck_T0) (cs := [ck_c368, ck_c369, ck_c370, ck_c371, ck_c372]) (hs := ck_h373) (sp := []) (fuel := 55) l ck_TSgood ck_okCl ck_okDt (M0 := ck_m28) rfl ck_okT0 (ck_cons (ck_k368 l D st) (ck_cons (ck_k369 l D st) (ck_cons (ck_k370 l D st) (ck_cons (ck_k371 l D st) (ck_cons (ck_k372 l D st) ck_nil))))) (by decide +kernel)
/-- SLModel.feed -/
def ck_c374 : ab_C := (187, 101, [.inr (0, 77), .inl ((-2147483648), 2147483647), .inl ((-2147483648), 2147483647), .inl ((-2147483648), 2147483647), .inl ((-2147483648), 2147483647), .inl ((-2147483648), 2147483647)], [((82, 0, 1, 400), .inl ((-128), 127)), ((77, 5, 1, 1), .inr (0, 82)), ((77, 6, 1, 1), .inr (0, 83)), ((77, 7, 1, 1), .inl (0, 400))], [(77, 7, 1, 1), (82, 0, 1, 400), (83, 0, 144, 1), (83, 1, 144, 1), (83, 2, 144, 1), (83, 3, 144, 1), (83, 4, 144, 1)], [(some (.inl (20, 400)), [((-2147483648), 2147483647), ((-2147483648), 2147483647), ((-2147483648), 2147483647), ((-2147483648), 2147483647), ((-2147483648), 2147483647)], [((82, 0, 1, 400), .inl ((-128), 127)), ((77, 7, 1, 1), .inl (20, 400))], 101), (some (.inl ((-1), (-1))), [((-2147483648), 2147483647), ((-2147483648), 2147483647), ((-2147483648), 2147483647), ((-2147483648), 2147483647), ((-2147483648), 2147483647)], [((82, 0, 1, 400), .inl ((-128), 127)), ((77, 7, 1, 1), .inl (381, 400))], 101)], 0, 0, 0, 0)
def ck_h374 : List ab_Hd := [(55, ([((-2147483648), 2147483647, 0, (0, 0, 0)), ((-2147483648), 2147483647, 0, (0, 0, 0)), ((-2147483648), 2147483647, 0, (0, 0, 0)), ((-2147483648), 2147483647, 0, (0, 0, 0)), ((-2147483648), 2147483647, 0, (0, 0, 0)), (0, 20, 0, (0, 0, 0))], [(6, .inl (5, 1, 0)), (0, .inr (0, 77)), (1, .inl (0, 1, 0)), (2, .inl (1, 1, 0)), (3, .inl (2, 1, 0)), (4, .inl (3, 1, 0)), (5, .inl (4, 1, 0))], [], ([((82, 0, 1, 400), .inl ((-128), 127)), ((77, 5, 1, 1), .inr (0, 82)), ((77, 6, 1, 1), .inr (0, 83)), ((77, 7, 1, 1), .inl (0, 380))], []), 101, 0, 0), 5, 0)]
set_option maxRecDepth 100000 in
theorem ck_k374 (l : Launch) (D : va_G) (st : Nat → Nat) : ck_Mt gk_G l D st ck_c374 := ab_sound (tr := ck_tr2) (T := ck_T13) (cs := []) (hs := ck_h374) (sp := []) (fuel := 85) l ck_TSgood ck_okCl ck_okDt (M0 := ck_m187) rfl ck_okT13 ck_nil (by decide +kernel)
/-- SL.within -/
def ck_c375 : ab_C := (14, 101, [.inl ((-2147483648), 2147483647), .inl (0, 0), .inl (0, 400)], [], [], [(some (.inl (0, 0)), [((-2147483648), (-1)), (0, 0), (0, 400)], [], 101), (some (.inl (0, 0)), [(1, 2147483647), (0, 0), (0, 400)], [], 101), (some (.inl (1, 1)), [(0, 400), (0, 0), (0, 400)], [], 101)], 0, 0, 0, 0)
def ck_h375 : List ab_Hd := []
set_option maxRecDepth 100000 in
theorem ck_k375 (l : Launch) (D : va_G) (st : Nat → Nat) : ck_Mt gk_G l D st ck_c375 := ab_sound (tr := ck_tr2) (T := ck_T0) (cs := []) (hs := ck_h375) (sp := []) (fuel := 33) l ck_TSgood ck_okCl ck_okDt (M0 := ck_m14) rfl ck_okT0 ck_nil (by decide +kernel)
/-- SL.end -/
def ck_c376 : ab_C := (30, 101, [.inr (0, 0), .inl ((-2147483648), 2147483647)], [((45, 1, 1, 1), .inl (0, 400)), ((0, 3, 1, 1), .inr (0, 45))], [(45, 1, 1, 1)], [(some (.inl ((-1), (-1))), [((-2147483648), (-1))], [((45, 1, 1, 1), .inl (0, 400))], 101), (some (.inl ((-1), (-1))), [(1, 2147483647)], [((45, 1, 1, 1), .inl (0, 400))], 101), (some (.inl (0, 400)), [(0, 400)], [((45, 1, 1, 1), .inl (0, 400))], 101)], 1, 22, 0, 0)
def ck_h376 : List ab_Hd := []
set_option maxRecDepth 100000 in
theorem ck_k376 (l : Launch) (D : va_G) (st : Nat → Nat) : ck_Mt gk_G l D st ck_c376 := ab_sound (tr := ck_tr2) (T := ck_T0) (cs := [ck_c375]) (hs := ck_h376) (sp := []) (fuel := 37) l ck_TSgood ck_okCl ck_okDt (M0 := ck_m30) rfl ck_okT0 (ck_cons (ck_k375 l D st) ck_nil) (by decide +kernel)
/-- SLModel.in -/
def ck_c377 : ab_C := (174, 101, [.inl ((-2147483648), 2147483647), .inl (0, 0), .inl (0, 400)], [], [], [(some (.inl (0, 0)), [((-2147483648), (-1)), (0, 0), (0, 400)], [], 101), (some (.inl (0, 0)), [(1, 2147483647), (0, 0), (0, 400)], [], 101), (some (.inl (1, 1)), [(0, 400), (0, 0), (0, 400)], [], 101)], 0, 0, 0, 0)
def ck_h377 : List ab_Hd := []
set_option maxRecDepth 100000 in
theorem ck_k377 (l : Launch) (D : va_G) (st : Nat → Nat) : ck_Mt gk_G l D st ck_c377 := ab_sound (tr := ck_tr2) (T := ck_T13) (cs := []) (hs := ck_h377) (sp := []) (fuel := 33) l ck_TSgood ck_okCl ck_okDt (M0 := ck_m174) rfl ck_okT13 ck_nil (by decide +kernel)
/-- SLModel.end -/
def ck_c378 : ab_C := (188, 101, [.inr (0, 77), .inl ((-2147483648), 2147483647)], [((77, 7, 1, 1), .inl (0, 400))], [(77, 7, 1, 1)], [(some (.inl ((-1), (-1))), [((-2147483648), (-1))], [((77, 7, 1, 1), .inl (0, 400))], 101), (some (.inl ((-1), (-1))), [(1, 2147483647)], [((77, 7, 1, 1), .inl (0, 400))], 101), (some (.inl (0, 400)), [(0, 400)], [((77, 7, 1, 1), .inl (0, 400))], 101)], 1, 22, 0, 0)
def ck_h378 : List ab_Hd := []
set_option maxRecDepth 100000 in
theorem ck_k378 (l : Launch) (D : va_G) (st : Nat → Nat) : ck_Mt gk_G l D st ck_c378 := ab_sound (tr := ck_tr2) (T := ck_T13) (cs := [ck_c377]) (hs := ck_h378) (sp := []) (fuel := 35) l ck_TSgood ck_okCl ck_okDt (M0 := ck_m188) rfl ck_okT13 (ck_cons (ck_k377 l D st) ck_nil) (by decide +kernel)
/-- SL.fault -/
def ck_c379 : ab_C := (59, 101, [.inr (0, 0)], [], [], [(some (.inl ((-2147483648), 2147483647)), [], [], 101)], 0, 0, 0, 0)
def ck_h379 : List ab_Hd := []
set_option maxRecDepth 100000 in
theorem ck_k379 (l : Launch) (D : va_G) (st : Nat → Nat) : ck_Mt gk_G l D st ck_c379 := ab_sound (tr := ck_tr2) (T := ck_T0) (cs := []) (hs := ck_h379) (sp := []) (fuel := 27) l ck_TSgood ck_okCl ck_okDt (M0 := ck_m59) rfl ck_okT0 ck_nil (by decide +kernel)
/-- SLModel.fault -/
def ck_c380 : ab_C := (209, 101, [.inr (0, 77)], [], [], [(some (.inl ((-2147483648), 2147483647)), [], [], 101)], 0, 0, 0, 0)
def ck_h380 : List ab_Hd := []
set_option maxRecDepth 100000 in
theorem ck_k380 (l : Launch) (D : va_G) (st : Nat → Nat) : ck_Mt gk_G l D st ck_c380 := ab_sound (tr := ck_tr2) (T := ck_T13) (cs := []) (hs := ck_h380) (sp := []) (fuel := 27) l ck_TSgood ck_okCl ck_okDt (M0 := ck_m209) rfl ck_okT13 ck_nil (by decide +kernel)
/-- SL.within -/
def ck_c381 : ab_C := (14, 101, [.inl ((-2147483648), 2147483647), .inl (0, 0), .inl ((-1), 9)], [], [], [(some (.inl (0, 0)), [((-2147483648), (-1)), (0, 0), ((-1), 9)], [], 101), (some (.inl (0, 0)), [(0, 2147483647), (0, 0), ((-1), 9)], [], 101), (some (.inl (1, 1)), [(0, 9), (0, 0), (0, 9)], [], 101)], 0, 0, 0, 0)
def ck_h381 : List ab_Hd := []
set_option maxRecDepth 100000 in
theorem ck_k381 (l : Launch) (D : va_G) (st : Nat → Nat) : ck_Mt gk_G l D st ck_c381 := ab_sound (tr := ck_tr2) (T := ck_T0) (cs := []) (hs := ck_h381) (sp := []) (fuel := 33) l ck_TSgood ck_okCl ck_okDt (M0 := ck_m14) rfl ck_okT0 ck_nil (by decide +kernel)
/-- SL.accept -/
def ck_c382 : ab_C := (17, 101, [.inr (0, 0), .inl ((-1), 9)], [], [(0, 14, 1, 1)], [(some (.inl ((-1), 9)), [((-1), 9)], [((0, 14, 1, 1), .inl (0, 0))], 101)], 0, 0, 0, 0)
def ck_h382 : List ab_Hd := []
set_option maxRecDepth 100000 in
theorem ck_k382 (l : Launch) (D : va_G) (st : Nat → Nat) : ck_Mt gk_G l D st ck_c382 := ab_sound (tr := ck_tr2) (T := ck_T0) (cs := []) (hs := ck_h382) (sp := []) (fuel := 29) l ck_TSgood ck_okCl ck_okDt (M0 := ck_m17) rfl ck_okT0 ck_nil (by decide +kernel)
/-- SL.law -/
def ck_c383 : ab_C := (60, 101, [.inr (0, 0), .inl ((-2147483648), 2147483647)], [((1, 10, 1, 1), .inl ((-1), 9)), ((1, 11, 1, 1), .inl (0, 10)), ((0, 0, 1, 1), .inr (0, 1))], [(0, 14, 1, 1), (1, 10, 1, 1)], [(some (.inl ((-2), (-2))), [((-2147483648), (-1))], [((0, 14, 1, 1), .inl ((-2), (-2))), ((1, 10, 1, 1), .inl ((-1), 9))], 101), (some (.inl ((-2), (-2))), [(0, 2147483647)], [((0, 14, 1, 1), .inl ((-2), (-2))), ((1, 10, 1, 1), .inl ((-1), 9))], 101), (some (.inl ((-1), 9)), [(0, 9)], [((0, 14, 1, 1), .inl (0, 0)), ((1, 10, 1, 1), .inl (0, 9)), ((1, 11, 1, 1), .inl (1, 10))], 101)], 1, 22, 0, 0)
def ck_h383 : List ab_Hd := []
set_option maxRecDepth 100000 in
theorem ck_k383 (l : Launch) (D : va_G) (st : Nat → Nat) : ck_Mt gk_G l D st ck_c383 := ab_sound (tr := ck_tr2) (T := ck_T0) (cs := [ck_c381, ck_c181, ck_c382]) (hs := ck_h383) (sp := []) (fuel := 45) l ck_TSgood ck_okCl ck_okDt (M0 := ck_m60) rfl ck_okT0 (ck_cons (ck_k381 l D st) (ck_cons (ck_k181 l D st) (ck_cons (ck_k382 l D st) ck_nil))) (by decide +kernel)
/-- SLModel.in -/
def ck_c384 : ab_C := (174, 101, [.inl ((-2147483648), 2147483647), .inl (0, 0), .inl ((-1), 9)], [], [], [(some (.inl (0, 0)), [((-2147483648), (-1)), (0, 0), ((-1), 9)], [], 101), (some (.inl (0, 0)), [(0, 2147483647), (0, 0), ((-1), 9)], [], 101), (some (.inl (1, 1)), [(0, 9), (0, 0), (0, 9)], [], 101)], 0, 0, 0, 0)
def ck_h384 : List ab_Hd := []
set_option maxRecDepth 100000 in
theorem ck_k384 (l : Launch) (D : va_G) (st : Nat → Nat) : ck_Mt gk_G l D st ck_c384 := ab_sound (tr := ck_tr2) (T := ck_T13) (cs := []) (hs := ck_h384) (sp := []) (fuel := 33) l ck_TSgood ck_okCl ck_okDt (M0 := ck_m174) rfl ck_okT13 ck_nil (by decide +kernel)
/-- SLModel.isText -/
def ck_c385 : ab_C := (211, 101, [.inr (0, 77), .inl ((-2147483648), 2147483647)], [((78, 1294, 1, 1), .inl (0, 10)), ((77, 1, 1, 1), .inr (0, 78))], [], [(some (.inl (0, 0)), [((-2147483648), (-1))], [], 101), (some (.inl (0, 0)), [(0, 2147483647)], [], 101), (some (.inl (1, 1)), [(0, 9)], [((78, 1294, 1, 1), .inl (1, 10))], 101)], 1, 22, 0, 0)
def ck_h385 : List ab_Hd := []
set_option maxRecDepth 100000 in
theorem ck_k385 (l : Launch) (D : va_G) (st : Nat → Nat) : ck_Mt gk_G l D st ck_c385 := ab_sound (tr := ck_tr2) (T := ck_T13) (cs := [ck_c384]) (hs := ck_h385) (sp := []) (fuel := 34) l ck_TSgood ck_okCl ck_okDt (M0 := ck_m211) rfl ck_okT13 (ck_cons (ck_k384 l D st) ck_nil) (by decide +kernel)
/-- SLModel.good -/
def ck_c386 : ab_C := (176, 101, [.inr (0, 77), .inl ((-1), 9)], [], [(77, 0, 1, 1)], [(some (.inl ((-1), 9)), [((-1), 9)], [((77, 0, 1, 1), .inl (0, 0))], 101)], 0, 0, 0, 0)
def ck_h386 : List ab_Hd := []
set_option maxRecDepth 100000 in
theorem ck_k386 (l : Launch) (D : va_G) (st : Nat → Nat) : ck_Mt gk_G l D st ck_c386 := ab_sound (tr := ck_tr2) (T := ck_T13) (cs := []) (hs := ck_h386) (sp := []) (fuel := 29) l ck_TSgood ck_okCl ck_okDt (M0 := ck_m176) rfl ck_okT13 ck_nil (by decide +kernel)
/-- SLModel.replaces -/
def ck_c387 : ab_C := (182, 101, [.inr (0, 77), .inl (1296, 1296), .inl (0, 9)], [((78, 1296, 1, 1), .inl ((-1), 9)), ((77, 1, 1, 1), .inr (0, 78))], [(77, 0, 1, 1), (78, 1296, 144, 1)], [(some (.inl ((-1), 9)), [(1296, 1296), (0, 9)], [((77, 0, 1, 1), .inl (0, 0)), ((78, 1296, 1, 1), .inl (0, 9))], 101)], 1, 21, 0, 0)
def ck_h387 : List ab_Hd := []
set_option maxRecDepth 100000 in
theorem ck_k387 (l : Launch) (D : va_G) (st : Nat → Nat) : ck_Mt gk_G l D st ck_c387 := ab_sound (tr := ck_tr2) (T := ck_T13) (cs := [ck_c386]) (hs := ck_h387) (sp := []) (fuel := 38) l ck_TSgood ck_okCl ck_okDt (M0 := ck_m182) rfl ck_okT13 (ck_cons (ck_k386 l D st) ck_nil) (by decide +kernel)
/-- SLModel.law -/
def ck_c388 : ab_C := (210, 101, [.inr (0, 77), .inl ((-2147483648), 2147483647)], [((78, 1294, 1, 1), .inl (0, 10)), ((78, 1296, 1, 1), .inl ((-1), 9)), ((77, 1, 1, 1), .inr (0, 78))], [(77, 0, 1, 1), (78, 1296, 144, 1)], [(some (.inl ((-2), (-2))), [((-2147483648), (-1))], [((77, 0, 1, 1), .inl ((-2), (-2))), ((78, 1296, 1, 1), .inl ((-1), 9))], 101), (some (.inl ((-2), (-2))), [(0, 2147483647)], [((77, 0, 1, 1), .inl ((-2), (-2))), ((78, 1296, 1, 1), .inl ((-1), 9))], 101), (some (.inl ((-1), 9)), [(0, 9)], [((77, 0, 1, 1), .inl (0, 0)), ((78, 1296, 1, 1), .inl (0, 9)), ((78, 1294, 1, 1), .inl (1, 10))], 101)], 2, 44, 0, 0)
def ck_h388 : List ab_Hd := []
set_option maxRecDepth 100000 in
theorem ck_k388 (l : Launch) (D : va_G) (st : Nat → Nat) : ck_Mt gk_G l D st ck_c388 := ab_sound (tr := ck_tr2) (T := ck_T13) (cs := [ck_c385, ck_c190, ck_c387]) (hs := ck_h388) (sp := []) (fuel := 33) l ck_TSgood ck_okCl ck_okDt (M0 := ck_m210) rfl ck_okT13 (ck_cons (ck_k385 l D st) (ck_cons (ck_k190 l D st) (ck_cons (ck_k387 l D st) ck_nil))) (by decide +kernel)
/-- SL$Question.ask -/
def ck_c389 : ab_C := (63, 101, [.inr (0, 50), .inl (0, 11), .inl (0, 11), .inl (0, 2), .inl (0, 3), .inl (0, 0), .inl (1, 1)], [((50, 0, 1, 1), .inr (0, 1)), ((50, 2, 1, 1), .inr (0, 52)), ((1, 4, 1, 1), .inr (0, 5)), ((1, 5, 1, 1), .inr (0, 6))], [(52, 0, 144, 1), (52, 1, 144, 1), (52, 2, 144, 1), (52, 3, 144, 1), (52, 4, 144, 1), (52, 5, 144, 1), (52, 6, 144, 1), (52, 7, 144, 1)], [(none, [(0, 11), (0, 11), (0, 2), (0, 3), (0, 0), (1, 1)], [((52, 2, 1, 1), .inl (1, 1)), ((52, 3, 1, 1), .inl (0, 0)), ((52, 4, 1, 1), .inl (0, 2)), ((52, 5, 1, 1), .inl (0, 3)), ((52, 6, 1, 1), .inl (0, 11)), ((52, 7, 1, 1), .inl (0, 11))], 101)], 1, 22, 0, 0)
def ck_h389 : List ab_Hd := []
set_option maxRecDepth 100000 in
theorem ck_k389 (l : Launch) (D : va_G) (st : Nat → Nat) : ck_Mt gk_G l D st ck_c389 := ab_sound (tr := ck_tr2) (T := ck_T5) (cs := [ck_c182]) (hs := ck_h389) (sp := []) (fuel := 76) l ck_TSgood ck_okCl ck_okDt (M0 := ck_m63) rfl ck_okT5 (ck_cons (ck_k182 l D st) ck_nil) (by decide +kernel)
/-- SL$Question.isCut -/
def ck_c390 : ab_C := (62, 101, [.inr (0, 50), .inl (0, 11), .inl (0, 11), .inl (0, 2), .inl (0, 3)], [((50, 0, 1, 1), .inr (0, 1)), ((50, 1, 1, 1), .inr (0, 51)), ((50, 2, 1, 1), .inr (0, 52)), ((11, 0, 1, 1), .inr (0, 12)), ((11, 1, 1, 1), .inr (0, 13)), ((10, 0, 1, 10), .inr (3, 9)), ((1, 4, 1, 1), .inr (0, 5)), ((1, 5, 1, 1), .inr (0, 6)), ((1, 10, 1, 1), .inl ((-1), 9)), ((1, 11, 1, 1), .inl (0, 10)), ((1, 12, 1, 1), .inr (0, 10)), ((1, 13, 1, 1), .inr (0, 11))], [(52, 0, 144, 1), (52, 1, 144, 1), (52, 2, 144, 1), (52, 3, 144, 1), (52, 4, 144, 1), (52, 5, 144, 1), (52, 6, 144, 1), (52, 7, 144, 1)], [(some (.inl (0, 1)), [(0, 11), (0, 11), (0, 2), (0, 3)], [((52, 2, 1, 1), .inl (1, 1)), ((52, 3, 1, 1), .inl (0, 0)), ((52, 4, 1, 1), .inl (0, 2)), ((52, 5, 1, 1), .inl (0, 3)), ((52, 6, 1, 1), .inl (0, 11)), ((52, 7, 1, 1), .inl (0, 11))], 101)], 4, 143, 0, 0)
def ck_h390 : List ab_Hd := []
set_option maxRecDepth 100000 in
theorem ck_k390 (l : Launch) (D : va_G) (st : Nat → Nat) : ck_Mt gk_G l D st ck_c390 := ab_sound (tr := ck_tr2) (T := ck_T5) (cs := [ck_c389, co_holds]) (hs := ck_h390) (sp := []) (fuel := 36) l ck_TSgood ck_okCl ck_okDt (M0 := ck_m62) rfl ck_okT5 (ck_cons (ck_k389 l D st) (ck_cons (hk_holdsT l D st) ck_nil)) (by decide +kernel)
/-- SL.cuts -/
def ck_c391 : ab_C := (61, 101, [.inr (0, 0), .inl ((-2147483648), 2147483647), .inl ((-2147483648), 2147483647), .inl ((-2147483648), 2147483647), .inl ((-2147483648), 2147483647)], [((50, 0, 1, 1), .inr (0, 1)), ((50, 1, 1, 1), .inr (0, 51)), ((50, 2, 1, 1), .inr (0, 52)), ((11, 0, 1, 1), .inr (0, 12)), ((11, 1, 1, 1), .inr (0, 13)), ((10, 0, 1, 10), .inr (3, 9)), ((1, 0, 1, 1), .inl (0, 12)), ((1, 4, 1, 1), .inr (0, 5)), ((1, 5, 1, 1), .inr (0, 6)), ((1, 10, 1, 1), .inl ((-1), 9)), ((1, 11, 1, 1), .inl (0, 10)), ((1, 12, 1, 1), .inr (0, 10)), ((1, 13, 1, 1), .inr (0, 11)), ((0, 0, 1, 1), .inr (0, 1)), ((0, 5, 1, 1), .inr (0, 50))], [(52, 0, 144, 1), (52, 1, 144, 1), (52, 2, 144, 1), (52, 3, 144, 1), (52, 4, 144, 1), (52, 5, 144, 1), (52, 6, 144, 1), (52, 7, 144, 1)], [(some (.inl ((-1), (-1))), [((-2147483648), 2147483647), ((-2147483648), 2147483647), ((-2147483648), 2147483647), ((-2147483648), 2147483647)], [], 101), (some (.inl (0, 0)), [(0, 11), (0, 11), (0, 2), (0, 3)], [((52, 2, 1, 1), .inl (1, 1)), ((52, 3, 1, 1), .inl (0, 0)), ((52, 4, 1, 1), .inl (0, 2)), ((52, 5, 1, 1), .inl (0, 3)), ((52, 6, 1, 1), .inl (0, 11)), ((52, 7, 1, 1), .inl (0, 11)), ((1, 0, 1, 1), .inl (1, 12))], 101), (some (.inl (1, 1)), [(0, 11), (0, 11), (0, 2), (0, 3)], [((52, 2, 1, 1), .inl (1, 1)), ((52, 3, 1, 1), .inl (0, 0)), ((52, 4, 1, 1), .inl (0, 2)), ((52, 5, 1, 1), .inl (0, 3)), ((52, 6, 1, 1), .inl (0, 11)), ((52, 7, 1, 1), .inl (0, 11)), ((1, 0, 1, 1), .inl (1, 12))], 101)], 5, 167, 0, 0)
def ck_h391 : List ab_Hd := []
set_option maxRecDepth 100000 in
theorem ck_k391 (l : Launch) (D : va_G) (st : Nat → Nat) : ck_Mt gk_G l D st ck_c391 := ab_sound (tr := ck_tr2) (T := ck_T0) (cs := [ck_c180, ck_c177, ck_c390]) (hs := ck_h391) (sp := []) (fuel := 49) l ck_TSgood ck_okCl ck_okDt (M0 := ck_m61) rfl ck_okT0 (ck_cons (ck_k180 l D st) (ck_cons (ck_k177 l D st) (ck_cons (ck_k390 l D st) ck_nil))) (by decide +kernel)
/-- SLModel.isSpot -/
def ck_c392 : ab_C := (213, 101, [.inl ((-2147483648), 2147483647), .inl ((-2147483648), 2147483647)], [], [], [(some (.inl (0, 0)), [((-2147483648), (-1)), ((-2147483648), 2147483647)], [], 101), (some (.inl (0, 0)), [(3, 2147483647), ((-2147483648), 2147483647)], [], 101), (some (.inl (0, 0)), [(0, 2), ((-2147483648), (-1))], [], 101), (some (.inl (0, 0)), [(0, 2), (4, 2147483647)], [], 101), (some (.inl (1, 1)), [(0, 2), (0, 3)], [], 101)], 1, 22, 0, 0)
def ck_h392 : List ab_Hd := []
set_option maxRecDepth 100000 in
theorem ck_k392 (l : Launch) (D : va_G) (st : Nat → Nat) : ck_Mt gk_G l D st ck_c392 := ab_sound (tr := ck_tr2) (T := ck_T13) (cs := [ck_c185, ck_c186]) (hs := ck_h392) (sp := []) (fuel := 37) l ck_TSgood ck_okCl ck_okDt (M0 := ck_m213) rfl ck_okT13 (ck_cons (ck_k185 l D st) (ck_cons (ck_k186 l D st) ck_nil)) (by decide +kernel)
/-- SLModel.isCut -/
def ck_c393 : ab_C := (214, 101, [.inr (0, 77), .inl (0, 11), .inl (0, 11), .inl (0, 2), .inl (0, 3)], [((78, 1300, 1, 8010), .inr (8, 0)), ((78, 1296, 1, 1), .inl ((-1), 9)), ((77, 1, 1, 1), .inr (0, 78)), ((77, 2, 1, 1), .inr (0, 79)), ((77, 3, 1, 1), .inr (0, 80)), ((77, 4, 1, 1), .inr (0, 81)), ((77, 5, 1, 1), .inr (0, 82)), ((77, 6, 1, 1), .inr (0, 83)), ((77, 9, 1, 1), .inr (0, 84)), ((77, 10, 1, 1), .inr (0, 85)), ((77, 11, 1, 1), .inr (0, 86)), ((77, 19, 1, 1), .inr (0, 87)), ((77, 24, 1, 1), .inr (0, 88)), ((77, 25, 1, 1), .inr (0, 89)), ((77, 26, 1, 1), .inr (0, 90)), ((77, 27, 1, 1), .inr (0, 91)), ((77, 28, 1, 1), .inr (0, 92)), ((77, 30, 1, 1), .inr (0, 93)), ((77, 31, 1, 1), .inr (0, 94)), ((77, 35, 1, 1), .inr (0, 95)), ((77, 36, 1, 1), .inr (0, 96)), ((77, 37, 1, 1), .inr (0, 97)), ((77, 38, 1, 1), .inr (0, 98)), ((77, 39, 1, 1), .inr (0, 99)), ((77, 40, 1, 1), .inr (0, 100)), ((77, 18, 1, 1), .inl (0, 1)), ((77, 20, 1, 1), .inl (0, 1)), ((77, 21, 1, 1), .inl (0, 1))], [(77, 16, 1, 3), (77, 20, 1, 4), (87, 0, 1, 8)], [(some (.inl (0, 1)), [(0, 11), (0, 11), (0, 2), (0, 3)], [((77, 18, 1, 1), .inl (0, 1)), ((77, 20, 1, 1), .inl (0, 1)), ((77, 21, 1, 1), .inl (0, 1))], 101)], 61, 1931, 0, 0)
def ck_h393 : List ab_Hd := []
set_option maxRecDepth 100000 in
theorem ck_k393 (l : Launch) (D : va_G) (st : Nat → Nat) : ck_Mt gk_G l D st ck_c393 := ab_sound (tr := ck_tr2) (T := ck_T13) (cs := [co_asks]) (hs := ck_h393) (sp := []) (fuel := 35) l ck_TSgood ck_okCl ck_okDt (M0 := ck_m214) rfl ck_okT13 (ck_cons (hk_asks l D st) ck_nil) (by decide +kernel)
/-- SLModel.cuts -/
def ck_c394 : ab_C := (212, 101, [.inr (0, 77), .inl ((-2147483648), 2147483647), .inl ((-2147483648), 2147483647), .inl ((-2147483648), 2147483647), .inl ((-2147483648), 2147483647)], [((78, 1300, 1, 8010), .inr (8, 0)), ((78, 1292, 1, 1), .inl (0, 12)), ((78, 1296, 1, 1), .inl ((-1), 9)), ((77, 1, 1, 1), .inr (0, 78)), ((77, 2, 1, 1), .inr (0, 79)), ((77, 3, 1, 1), .inr (0, 80)), ((77, 4, 1, 1), .inr (0, 81)), ((77, 5, 1, 1), .inr (0, 82)), ((77, 6, 1, 1), .inr (0, 83)), ((77, 9, 1, 1), .inr (0, 84)), ((77, 10, 1, 1), .inr (0, 85)), ((77, 11, 1, 1), .inr (0, 86)), ((77, 19, 1, 1), .inr (0, 87)), ((77, 24, 1, 1), .inr (0, 88)), ((77, 25, 1, 1), .inr (0, 89)), ((77, 26, 1, 1), .inr (0, 90)), ((77, 27, 1, 1), .inr (0, 91)), ((77, 28, 1, 1), .inr (0, 92)), ((77, 30, 1, 1), .inr (0, 93)), ((77, 31, 1, 1), .inr (0, 94)), ((77, 35, 1, 1), .inr (0, 95)), ((77, 36, 1, 1), .inr (0, 96)), ((77, 37, 1, 1), .inr (0, 97)), ((77, 38, 1, 1), .inr (0, 98)), ((77, 39, 1, 1), .inr (0, 99)), ((77, 40, 1, 1), .inr (0, 100)), ((77, 18, 1, 1), .inl (0, 1)), ((77, 20, 1, 1), .inl (0, 1)), ((77, 21, 1, 1), .inl (0, 1))], [(77, 16, 1, 3), (77, 20, 1, 4), (87, 0, 1, 8)], [(some (.inl ((-1), (-1))), [((-2147483648), 2147483647), ((-2147483648), 2147483647), ((-2147483648), 2147483647), ((-2147483648), 2147483647)], [((77, 18, 1, 1), .inl (0, 1)), ((77, 20, 1, 1), .inl (0, 1)), ((77, 21, 1, 1), .inl (0, 1))], 101), (some (.inl (0, 0)), [(0, 11), (0, 11), (0, 2), (0, 3)], [((77, 18, 1, 1), .inl (0, 1)), ((77, 20, 1, 1), .inl (0, 1)), ((77, 21, 1, 1), .inl (0, 1)), ((78, 1292, 1, 1), .inl (1, 12))], 101), (some (.inl (1, 1)), [(0, 11), (0, 11), (0, 2), (0, 3)], [((77, 18, 1, 1), .inl (0, 1)), ((77, 20, 1, 1), .inl (0, 1)), ((77, 21, 1, 1), .inl (0, 1)), ((78, 1292, 1, 1), .inl (1, 12))], 101)], 62, 1955, 0, 0)
def ck_h394 : List ab_Hd := []
set_option maxRecDepth 100000 in
theorem ck_k394 (l : Launch) (D : va_G) (st : Nat → Nat) : ck_Mt gk_G l D st ck_c394 := ab_sound (tr := ck_tr2) (T := ck_T13) (cs := [ck_c189, ck_c392, ck_c393]) (hs := ck_h394) (sp := []) (fuel := 46) l ck_TSgood ck_okCl ck_okDt (M0 := ck_m212) rfl ck_okT13 (ck_cons (ck_k189 l D st) (ck_cons (ck_k392 l D st) (ck_cons (ck_k393 l D st) ck_nil))) (by decide +kernel)
/-- SL.refuse -/
def ck_c395 : ab_C := (15, 101, [.inr (0, 0), .inl ((-3), (-3))], [], [(0, 14, 1, 1)], [(some (.inl ((-3), (-3))), [((-3), (-3))], [((0, 14, 1, 1), .inl ((-3), (-3)))], 101)], 0, 0, 0, 0)
def ck_h395 : List ab_Hd := []
set_option maxRecDepth 100000 in
theorem ck_k395 (l : Launch) (D : va_G) (st : Nat → Nat) : ck_Mt gk_G l D st ck_c395 := ab_sound (tr := ck_tr2) (T := ck_T0) (cs := []) (hs := ck_h395) (sp := []) (fuel := 29) l ck_TSgood ck_okCl ck_okDt (M0 := ck_m15) rfl ck_okT0 ck_nil (by decide +kernel)
/-- SL$Question.ask -/
def ck_c396 : ab_C := (63, 101, [.inr (0, 50), .inl (0, 11), .inl (0, 11), .inl (0, 2), .inl (0, 3), .inl (0, 3), .inl (1, 100)], [((50, 0, 1, 1), .inr (0, 1)), ((50, 2, 1, 1), .inr (0, 52)), ((1, 4, 1, 1), .inr (0, 5)), ((1, 5, 1, 1), .inr (0, 6))], [(52, 0, 144, 1), (52, 1, 144, 1), (52, 2, 144, 1), (52, 3, 144, 1), (52, 4, 144, 1), (52, 5, 144, 1), (52, 6, 144, 1), (52, 7, 144, 1)], [(none, [(0, 11), (0, 11), (0, 2), (0, 3), (0, 3), (1, 100)], [((52, 2, 1, 1), .inl (1, 100)), ((52, 3, 1, 1), .inl (0, 3)), ((52, 4, 1, 1), .inl (0, 2)), ((52, 5, 1, 1), .inl (0, 3)), ((52, 6, 1, 1), .inl (0, 11)), ((52, 7, 1, 1), .inl (0, 11))], 101)], 1, 22, 0, 0)
def ck_h396 : List ab_Hd := []
set_option maxRecDepth 100000 in
theorem ck_k396 (l : Launch) (D : va_G) (st : Nat → Nat) : ck_Mt gk_G l D st ck_c396 := ab_sound (tr := ck_tr2) (T := ck_T5) (cs := [ck_c182]) (hs := ck_h396) (sp := []) (fuel := 76) l ck_TSgood ck_okCl ck_okDt (M0 := ck_m63) rfl ck_okT5 (ck_cons (ck_k182 l D st) ck_nil) (by decide +kernel)
/-- SL$Bench.drawsBelow -/
def ck_c397 : ab_C := (73, 101, [.inr (0, 1), .inl ((-2147483648), 2147483647)], [], [(1, 9, 1, 1)], [(some (.inl (0, 0)), [(1, 99)], [((1, 9, 1, 1), .inl ((-1000002), 1000002))], 101), (some (.inl (1, 1)), [(1, 2147483647)], [((1, 9, 1, 1), .inl ((-1000002), 1000002))], 101), (some (.inl (0, 0)), [((-2147483648), 0)], [], 101)], 0, 0, 0, 0)
def ck_h397 : List ab_Hd := []
set_option maxRecDepth 100000 in
theorem ck_k397 (l : Launch) (D : va_G) (st : Nat → Nat) : ck_Mt gk_G l D st ck_c397 := ab_sound (tr := ck_tr2) (T := ck_T1) (cs := []) (hs := ck_h397) (sp := []) (fuel := 46) l ck_TSgood ck_okCl ck_okDt (M0 := ck_m73) rfl ck_okT1 ck_nil (by decide +kernel)
/-- SL.whatIsLeftBy -/
def ck_c398 : ab_C := (72, 101, [.inr (0, 0), .inl (0, 3)], [((50, 0, 1, 1), .inr (0, 1)), ((50, 1, 1, 1), .inr (0, 51)), ((50, 2, 1, 1), .inr (0, 52)), ((11, 0, 1, 1), .inr (0, 12)), ((11, 1, 1, 1), .inr (0, 13)), ((10, 0, 1, 10), .inr (3, 9)), ((1, 7, 1, 1), .inr (0, 8)), ((1, 8, 1, 1), .inr (0, 9)), ((1, 10, 1, 1), .inl ((-1), 9)), ((1, 11, 1, 1), .inl (0, 10)), ((1, 12, 1, 1), .inr (0, 10)), ((1, 13, 1, 1), .inr (0, 11)), ((0, 0, 1, 1), .inr (0, 1)), ((0, 5, 1, 1), .inr (0, 50))], [(1, 9, 1, 1)], [(some (.inl (0, 0)), [(0, 3)], [((1, 9, 1, 1), .inl ((-1000002), 1000002))], 101), (some (.inl (2, 2)), [(0, 3)], [((1, 9, 1, 1), .inl ((-1000002), 1000002))], 101), (some (.inl (0, 0)), [(0, 3)], [], 101), (some (.inl (1, 1)), [(0, 3)], [((1, 9, 1, 1), .inl ((-1000002), 1000002))], 101), (some (.inl (3, 3)), [(0, 3)], [((1, 9, 1, 1), .inl ((-1000002), 1000002))], 101), (some (.inl (1, 1)), [(0, 3)], [], 101), (some (.inl (3, 3)), [(0, 3)], [], 101)], 4, 143, 0, 0)
def ck_h398 : List ab_Hd := []
set_option maxRecDepth 100000 in
theorem ck_k398 (l : Launch) (D : va_G) (st : Nat → Nat) : ck_Mt gk_G l D st ck_c398 := ab_sound (tr := ck_tr2) (T := ck_T0) (cs := [co_holds, ck_c397]) (hs := ck_h398) (sp := []) (fuel := 56) l ck_TSgood ck_okCl ck_okDt (M0 := ck_m72) rfl ck_okT0 (ck_cons (hk_holdsT l D st) (ck_cons (ck_k397 l D st) ck_nil)) (by decide +kernel)
/-- SL$Bench.addTrial -/
def ck_c399 : ab_C := (75, 101, [.inr (0, 1), .inr (0, 76)], [((76, 0, 1, 1), .inl (0, 11)), ((76, 1, 1, 1), .inl (0, 11)), ((14, 0, 9, 120), .inl (0, 11)), ((14, 1, 9, 120), .inl (0, 11)), ((1, 14, 1, 1), .inl (0, 119)), ((1, 15, 1, 1), .inr (0, 14))], [(1, 14, 1, 1), (14, 0, 1, 1080)], [(none, [], [((14, 0, 9, 120), .inl (0, 11)), ((14, 1, 9, 120), .inl (0, 11)), ((1, 14, 1, 1), .inl (1, 120))], 101)], 1, 41, 0, 0)
def ck_h399 : List ab_Hd := []
set_option maxRecDepth 100000 in
theorem ck_k399 (l : Launch) (D : va_G) (st : Nat → Nat) : ck_Mt gk_G l D st ck_c399 := ab_sound (tr := ck_tr2) (T := ck_T1) (cs := []) (hs := ck_h399) (sp := []) (fuel := 41) l ck_TSgood ck_okCl ck_okDt (M0 := ck_m75) rfl ck_okT1 ck_nil (by decide +kernel)
