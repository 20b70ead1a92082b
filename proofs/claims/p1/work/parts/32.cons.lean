/-- SL$Text.init -/
def ck_c0 : ck_C := (3, 14, [.inr (0, 11), .inr (0, 12), .inr (0, 13)], [], [(11, 1), (11, 2)], [(none, [], [((11, 1), .inr (0, 12)), ((11, 2), .inr (0, 13))], 14)], 1, 12, 0, 0)
def ck_h0 : List ck_Hd := []
set_option maxRecDepth 100000 in
theorem ck_k0 (l : Launch) (D : va_G) (st : Nat → Nat) : ck_Mt l D st ck_c0 := ck_sound (T := ck_T10) (cs := []) (hs := ck_h0) (sp := []) (fuel := 33) l ck_TSgood ck_okCl (ck_own (M0 := ck_m3) rfl rfl ck_okT10) ck_nil (by decide +kernel)
/-- SL$Bench.init -/
def ck_c1 : ck_C := (2, 2, [.inr (0, 1)], [], [(1, 1), (1, 2), (1, 3), (1, 4), (1, 5), (1, 6), (1, 7), (1, 8), (1, 9), (1, 10), (1, 11), (1, 12), (1, 13), (1, 14), (1, 15), (1, 16), (1, 17), (1, 18), (1, 19), (11, 1), (11, 2)], [(none, [], [((1, 1), .inl (0, 0)), ((1, 2), .inr (0, 2)), ((1, 3), .inr (0, 3)), ((1, 4), .inr (0, 4)), ((1, 5), .inr (0, 5)), ((1, 6), .inr (0, 6)), ((1, 7), .inr (0, 7)), ((1, 8), .inr (0, 8)), ((1, 9), .inr (0, 9)), ((1, 10), .inl (0, 0)), ((1, 11), .inl ((-1), (-1))), ((1, 12), .inl (0, 0)), ((1, 13), .inr (0, 10)), ((1, 14), .inr (0, 11)), ((1, 15), .inl (0, 0)), ((1, 16), .inr (0, 14)), ((1, 17), .inl (7, 7)), ((1, 18), .inl (15, 15)), ((1, 19), .inl (15, 15)), ((2, 0), .inl (0, 0)), ((3, 0), .inl (0, 0)), ((4, 0), .inl (0, 0)), ((5, 0), .inl (0, 0)), ((6, 0), .inl (0, 0)), ((7, 0), .inl (0, 0)), ((8, 0), .inl (0, 0)), ((9, 0), .inl (0, 0)), ((10, 0), .inr (1, 0)), ((11, 1), .inr (0, 12)), ((11, 2), .inr (0, 13)), ((12, 0), .inl (0, 0)), ((13, 0), .inl (0, 0)), ((14, 0), .inl (0, 0))], 15)], 2, 34, 13, 1304)
def ck_h1 : List ck_Hd := []
set_option maxRecDepth 100000 in
theorem ck_k1 (l : Launch) (D : va_G) (st : Nat → Nat) : ck_Mt l D st ck_c1 := ck_sound (T := ck_T1) (cs := [ck_c0]) (hs := ck_h1) (sp := []) (fuel := 100) l ck_TSgood ck_okCl (ck_own (M0 := ck_m2) rfl rfl ck_okT1) (ck_cons (ck_k0 l D st) ck_nil) (by decide +kernel)
/-- SL$Text.init -/
def ck_c2 : ck_C := (3, 29, [.inr (0, 26), .inr (0, 27), .inr (0, 28)], [], [(26, 1), (26, 2)], [(none, [], [((26, 1), .inr (0, 27)), ((26, 2), .inr (0, 28))], 29)], 1, 12, 0, 0)
def ck_h2 : List ck_Hd := []
set_option maxRecDepth 100000 in
theorem ck_k2 (l : Launch) (D : va_G) (st : Nat → Nat) : ck_Mt l D st ck_c2 := ck_sound (T := ck_T10) (cs := []) (hs := ck_h2) (sp := []) (fuel := 33) l ck_TSgood ck_okCl (ck_own (M0 := ck_m3) rfl rfl ck_okT10) ck_nil (by decide +kernel)
/-- SL$Bench.init -/
def ck_c3 : ck_C := (2, 17, [.inr (0, 16)], [], [(16, 1), (16, 2), (16, 3), (16, 4), (16, 5), (16, 6), (16, 7), (16, 8), (16, 9), (16, 10), (16, 11), (16, 12), (16, 13), (16, 14), (16, 15), (16, 16), (16, 17), (16, 18), (16, 19), (26, 1), (26, 2)], [(none, [], [((16, 1), .inl (0, 0)), ((16, 2), .inr (0, 17)), ((16, 3), .inr (0, 18)), ((16, 4), .inr (0, 19)), ((16, 5), .inr (0, 20)), ((16, 6), .inr (0, 21)), ((16, 7), .inr (0, 22)), ((16, 8), .inr (0, 23)), ((16, 9), .inr (0, 24)), ((16, 10), .inl (0, 0)), ((16, 11), .inl ((-1), (-1))), ((16, 12), .inl (0, 0)), ((16, 13), .inr (0, 25)), ((16, 14), .inr (0, 26)), ((16, 15), .inl (0, 0)), ((16, 16), .inr (0, 29)), ((16, 17), .inl (7, 7)), ((16, 18), .inl (15, 15)), ((16, 19), .inl (15, 15)), ((17, 0), .inl (0, 0)), ((18, 0), .inl (0, 0)), ((19, 0), .inl (0, 0)), ((20, 0), .inl (0, 0)), ((21, 0), .inl (0, 0)), ((22, 0), .inl (0, 0)), ((23, 0), .inl (0, 0)), ((24, 0), .inl (0, 0)), ((25, 0), .inr (1, 0)), ((26, 1), .inr (0, 27)), ((26, 2), .inr (0, 28)), ((27, 0), .inl (0, 0)), ((28, 0), .inl (0, 0)), ((29, 0), .inl (0, 0))], 30)], 2, 34, 13, 1304)
def ck_h3 : List ck_Hd := []
set_option maxRecDepth 100000 in
theorem ck_k3 (l : Launch) (D : va_G) (st : Nat → Nat) : ck_Mt l D st ck_c3 := ck_sound (T := ck_T1) (cs := [ck_c2]) (hs := ck_h3) (sp := []) (fuel := 100) l ck_TSgood ck_okCl (ck_own (M0 := ck_m2) rfl rfl ck_okT1) (ck_cons (ck_k2 l D st) ck_nil) (by decide +kernel)
/-- SL$Text.init -/
def ck_c4 : ck_C := (3, 43, [.inr (0, 40), .inr (0, 41), .inr (0, 42)], [], [(40, 1), (40, 2)], [(none, [], [((40, 1), .inr (0, 41)), ((40, 2), .inr (0, 42))], 43)], 1, 12, 0, 0)
def ck_h4 : List ck_Hd := []
set_option maxRecDepth 100000 in
theorem ck_k4 (l : Launch) (D : va_G) (st : Nat → Nat) : ck_Mt l D st ck_c4 := ck_sound (T := ck_T10) (cs := []) (hs := ck_h4) (sp := []) (fuel := 33) l ck_TSgood ck_okCl (ck_own (M0 := ck_m3) rfl rfl ck_okT10) ck_nil (by decide +kernel)
/-- SL$Bench.init -/
def ck_c5 : ck_C := (2, 31, [.inr (0, 30)], [], [(30, 1), (30, 2), (30, 3), (30, 4), (30, 5), (30, 6), (30, 7), (30, 8), (30, 9), (30, 10), (30, 11), (30, 12), (30, 13), (30, 14), (30, 15), (30, 16), (30, 17), (30, 18), (30, 19), (40, 1), (40, 2)], [(none, [], [((30, 1), .inl (0, 0)), ((30, 2), .inr (0, 31)), ((30, 3), .inr (0, 32)), ((30, 4), .inr (0, 33)), ((30, 5), .inr (0, 34)), ((30, 6), .inr (0, 35)), ((30, 7), .inr (0, 36)), ((30, 8), .inr (0, 37)), ((30, 9), .inr (0, 38)), ((30, 10), .inl (0, 0)), ((30, 11), .inl ((-1), (-1))), ((30, 12), .inl (0, 0)), ((30, 13), .inr (0, 39)), ((30, 14), .inr (0, 40)), ((30, 15), .inl (0, 0)), ((30, 16), .inr (0, 43)), ((30, 17), .inl (7, 7)), ((30, 18), .inl (15, 15)), ((30, 19), .inl (15, 15)), ((31, 0), .inl (0, 0)), ((32, 0), .inl (0, 0)), ((33, 0), .inl (0, 0)), ((34, 0), .inl (0, 0)), ((35, 0), .inl (0, 0)), ((36, 0), .inl (0, 0)), ((37, 0), .inl (0, 0)), ((38, 0), .inl (0, 0)), ((39, 0), .inr (1, 0)), ((40, 1), .inr (0, 41)), ((40, 2), .inr (0, 42)), ((41, 0), .inl (0, 0)), ((42, 0), .inl (0, 0)), ((43, 0), .inl (0, 0))], 44)], 2, 34, 13, 1304)
def ck_h5 : List ck_Hd := []
set_option maxRecDepth 100000 in
theorem ck_k5 (l : Launch) (D : va_G) (st : Nat → Nat) : ck_Mt l D st ck_c5 := ck_sound (T := ck_T1) (cs := [ck_c4]) (hs := ck_h5) (sp := []) (fuel := 100) l ck_TSgood ck_okCl (ck_own (M0 := ck_m2) rfl rfl ck_okT1) (ck_cons (ck_k4 l D st) ck_nil) (by decide +kernel)
/-- SL$Tape.init -/
def ck_c6 : ck_C := (4, 46, [.inr (0, 45)], [], [(45, 1), (45, 2)], [(none, [], [((45, 1), .inr (0, 46)), ((45, 2), .inl (0, 0)), ((46, 0), .inl (0, 0))], 47)], 1, 12, 1, 400)
def ck_h6 : List ck_Hd := []
set_option maxRecDepth 100000 in
theorem ck_k6 (l : Launch) (D : va_G) (st : Nat → Nat) : ck_Mt l D st ck_c6 := ck_sound (T := ck_T9) (cs := []) (hs := ck_h6) (sp := []) (fuel := 34) l ck_TSgood ck_okCl (ck_own (M0 := ck_m4) rfl rfl ck_okT9) ck_nil (by decide +kernel)
/-- SL$Reader.init -/
def ck_c7 : ck_C := (5, 48, [.inr (0, 47), .inr (0, 45)], [], [(47, 1), (47, 2), (47, 4)], [(none, [], [((47, 1), .inr (0, 45)), ((47, 2), .inr (0, 48)), ((47, 4), .inr (0, 49)), ((48, 0), .inl (0, 0)), ((49, 0), .inl (0, 0))], 50)], 1, 12, 2, 848)
def ck_h7 : List ck_Hd := []
set_option maxRecDepth 100000 in
theorem ck_k7 (l : Launch) (D : va_G) (st : Nat → Nat) : ck_Mt l D st ck_c7 := ck_sound (T := ck_T6) (cs := []) (hs := ck_h7) (sp := []) (fuel := 38) l ck_TSgood ck_okCl (ck_own (M0 := ck_m5) rfl rfl ck_okT6) ck_nil (by decide +kernel)
/-- SL$Question.init -/
def ck_c8 : ck_C := (6, 51, [.inr (0, 50), .inr (0, 1)], [], [(50, 1), (50, 2), (50, 3)], [(none, [], [((50, 1), .inr (0, 1)), ((50, 2), .inr (0, 51)), ((50, 3), .inr (0, 52)), ((52, 0), .inl (0, 0))], 53)], 1, 12, 2, 59)
def ck_h8 : List ck_Hd := []
set_option maxRecDepth 100000 in
theorem ck_k8 (l : Launch) (D : va_G) (st : Nat → Nat) : ck_Mt l D st ck_c8 := ck_sound (T := ck_T5) (cs := []) (hs := ck_h8) (sp := []) (fuel := 38) l ck_TSgood ck_okCl (ck_own (M0 := ck_m6) rfl rfl ck_okT5) ck_nil (by decide +kernel)
/-- SL$Ties.init -/
def ck_c9 : ck_C := (7, 54, [.inr (0, 53), .inr (0, 1)], [], [(53, 1), (53, 2), (53, 3), (53, 4), (53, 5), (53, 6)], [(none, [], [((53, 1), .inr (0, 1)), ((53, 2), .inr (0, 54)), ((53, 3), .inr (0, 55)), ((53, 4), .inr (0, 56)), ((53, 5), .inr (0, 57)), ((53, 6), .inr (0, 58)), ((54, 0), .inl (0, 0)), ((55, 0), .inl (0, 0)), ((56, 0), .inl (0, 0)), ((57, 0), .inl (0, 0)), ((58, 0), .inl (0, 0))], 59)], 1, 12, 5, 192)
def ck_h9 : List ck_Hd := []
set_option maxRecDepth 100000 in
theorem ck_k9 (l : Launch) (D : va_G) (st : Nat → Nat) : ck_Mt l D st ck_c9 := ck_sound (T := ck_T11) (cs := []) (hs := ck_h9) (sp := []) (fuel := 50) l ck_TSgood ck_okCl (ck_own (M0 := ck_m7) rfl rfl ck_okT11) ck_nil (by decide +kernel)
/-- java/util/Arrays.fill -/
def ck_c10 : ck_C := (9, 65, [.inr (0, 64), .inl ((-1), (-1))], [((64, 0), .inl (0, 0))], [(64, 0)], [(none, [((-1), (-1))], [((64, 0), .inl ((-1), 0))], 65)], 0, 0, 0, 0)
def ck_h10 : List ck_Hd := [(5, ([((-1), (-1), 0, (0, 0, 0)), (0, 12, 0, (0, 0, 0))], [(3, .inl (0, 0, 12)), (2, .inl (1, 1, 0)), (0, .inr (0, 64)), (1, .inl (0, 1, 0))], [], [((64, 0), .inl ((-1), 0))], 65, 0, 0), 1, 0)]
set_option maxRecDepth 100000 in
theorem ck_k10 (l : Launch) (D : va_G) (st : Nat → Nat) : ck_Mt l D st ck_c10 := ck_sound (T := ck_T15) (cs := []) (hs := ck_h10) (sp := []) (fuel := 39) l ck_TSgood ck_okCl (ck_own (M0 := ck_m9) rfl rfl ck_okT15) ck_nil (by decide +kernel)
/-- SL$Orders.init -/
def ck_c11 : ck_C := (8, 60, [.inr (0, 59), .inr (0, 1)], [((59, 7), .inr (1, 0))], [(59, 1), (59, 2), (59, 3), (59, 4), (59, 5), (59, 6), (59, 7), (64, 0)], [(none, [], [((59, 1), .inr (0, 1)), ((59, 2), .inr (0, 60)), ((59, 3), .inr (0, 61)), ((59, 4), .inr (0, 62)), ((59, 5), .inl (0, 0)), ((59, 6), .inr (0, 63)), ((59, 7), .inr (0, 64)), ((60, 0), .inl (0, 0)), ((60, 1), .inl (0, 0)), ((61, 0), .inl (0, 0)), ((62, 0), .inl (0, 0)), ((63, 0), .inl (0, 0)), ((64, 0), .inl ((-1), 0))], 65)], 1, 23, 5, 5656)
def ck_h11 : List ck_Hd := []
set_option maxRecDepth 100000 in
theorem ck_k11 (l : Launch) (D : va_G) (st : Nat → Nat) : ck_Mt l D st ck_c11 := ck_sound (T := ck_T4) (cs := [ck_c10]) (hs := ck_h11) (sp := []) (fuel := 57) l ck_TSgood ck_okCl (ck_own (M0 := ck_m8) rfl rfl ck_okT4) (ck_cons (ck_k10 l D st) ck_nil) (by decide +kernel)
/-- SL$Lineup.init -/
def ck_c12 : ck_C := (10, 66, [.inr (0, 65), .inr (0, 1), .inr (0, 50)], [], [(65, 1), (65, 2), (65, 3), (65, 4), (65, 5), (65, 6)], [(none, [], [((65, 1), .inr (0, 1)), ((65, 2), .inr (0, 50)), ((65, 3), .inr (0, 66)), ((65, 4), .inr (0, 67)), ((65, 5), .inr (0, 68)), ((65, 6), .inr (0, 69)), ((66, 0), .inl (0, 0)), ((67, 0), .inl (0, 0)), ((68, 0), .inl (0, 0)), ((69, 0), .inl (0, 0))], 70)], 1, 12, 4, 48)
def ck_h12 : List ck_Hd := []
set_option maxRecDepth 100000 in
theorem ck_k12 (l : Launch) (D : va_G) (st : Nat → Nat) : ck_Mt l D st ck_c12 := ck_sound (T := ck_T2) (cs := []) (hs := ck_h12) (sp := []) (fuel := 49) l ck_TSgood ck_okCl (ck_own (M0 := ck_m10) rfl rfl ck_okT2) ck_nil (by decide +kernel)
/-- SL$Rungs.init -/
def ck_c13 : ck_C := (11, 71, [.inr (0, 70), .inr (0, 1), .inr (0, 53)], [], [(70, 1), (70, 2)], [(none, [], [((70, 1), .inr (0, 1)), ((70, 2), .inr (0, 53))], 71)], 1, 12, 0, 0)
def ck_h13 : List ck_Hd := []
set_option maxRecDepth 100000 in
theorem ck_k13 (l : Launch) (D : va_G) (st : Nat → Nat) : ck_Mt l D st ck_c13 := ck_sound (T := ck_T7) (cs := []) (hs := ck_h13) (sp := []) (fuel := 33) l ck_TSgood ck_okCl (ck_own (M0 := ck_m11) rfl rfl ck_okT7) ck_nil (by decide +kernel)
/-- SL$Sorter.init -/
def ck_c14 : ck_C := (12, 72, [.inr (0, 71)], [], [(71, 1), (71, 2), (71, 3), (71, 4), (71, 5)], [(none, [], [((71, 1), .inr (0, 72)), ((71, 2), .inr (0, 73)), ((71, 3), .inl (0, 0)), ((71, 4), .inl (0, 0)), ((71, 5), .inl ((-1), (-1))), ((72, 0), .inl (0, 0)), ((73, 0), .inl (0, 0))], 74)], 1, 12, 2, 37)
def ck_h14 : List ck_Hd := []
set_option maxRecDepth 100000 in
theorem ck_k14 (l : Launch) (D : va_G) (st : Nat → Nat) : ck_Mt l D st ck_c14 := ck_sound (T := ck_T8) (cs := []) (hs := ck_h14) (sp := []) (fuel := 44) l ck_TSgood ck_okCl (ck_own (M0 := ck_m12) rfl rfl ck_okT8) ck_nil (by decide +kernel)
/-- SL$Naming.init -/
def ck_c15 : ck_C := (13, 75, [.inr (0, 74), .inr (0, 1), .inr (0, 53)], [], [(74, 1), (74, 2), (74, 3)], [(none, [], [((74, 1), .inr (0, 1)), ((74, 2), .inr (0, 53)), ((74, 3), .inr (0, 75)), ((75, 0), .inl (0, 0))], 76)], 1, 12, 1, 256)
def ck_h15 : List ck_Hd := []
set_option maxRecDepth 100000 in
theorem ck_k15 (l : Launch) (D : va_G) (st : Nat → Nat) : ck_Mt l D st ck_c15 := ck_sound (T := ck_T3) (cs := []) (hs := ck_h15) (sp := []) (fuel := 37) l ck_TSgood ck_okCl (ck_own (M0 := ck_m13) rfl rfl ck_okT3) ck_nil (by decide +kernel)
/-- SL.init -/
def ck_c16 : ck_C := (1, 1, [.inr (0, 0)], [((0, 1), .inr (1, 0)), ((0, 4), .inr (1, 0)), ((0, 6), .inr (1, 0)), ((0, 7), .inr (1, 0))], [(0, 1), (0, 2), (0, 3), (0, 4), (0, 5), (0, 6), (0, 7), (0, 8), (0, 9), (0, 10), (0, 11), (0, 12), (0, 13), (0, 14), (0, 15), (1, 1), (1, 2), (1, 3), (1, 4), (1, 5), (1, 6), (1, 7), (1, 8), (1, 9), (1, 10), (1, 11), (1, 12), (1, 13), (1, 14), (1, 15), (1, 16), (1, 17), (1, 18), (1, 19), (11, 1), (11, 2), (15, 0), (16, 1), (16, 2), (16, 3), (16, 4), (16, 5), (16, 6), (16, 7), (16, 8), (16, 9), (16, 10), (16, 11), (16, 12), (16, 13), (16, 14), (16, 15), (16, 16), (16, 17), (16, 18), (16, 19), (26, 1), (26, 2), (30, 1), (30, 2), (30, 3), (30, 4), (30, 5), (30, 6), (30, 7), (30, 8), (30, 9), (30, 10), (30, 11), (30, 12), (30, 13), (30, 14), (30, 15), (30, 16), (30, 17), (30, 18), (30, 19), (40, 1), (40, 2), (45, 1), (45, 2), (47, 1), (47, 2), (47, 4), (50, 1), (50, 2), (50, 3), (53, 1), (53, 2), (53, 3), (53, 4), (53, 5), (53, 6), (59, 1), (59, 2), (59, 3), (59, 4), (59, 5), (59, 6), (59, 7), (64, 0), (65, 1), (65, 2), (65, 3), (65, 4), (65, 5), (65, 6), (70, 1), (70, 2), (71, 1), (71, 2), (71, 3), (71, 4), (71, 5), (74, 1), (74, 2), (74, 3)], [(none, [], [((0, 1), .inr (0, 1)), ((0, 2), .inr (0, 15)), ((0, 3), .inr (0, 44)), ((0, 4), .inr (0, 45)), ((0, 5), .inr (0, 47)), ((0, 6), .inr (0, 50)), ((0, 7), .inr (0, 53)), ((0, 8), .inr (0, 59)), ((0, 9), .inr (0, 65)), ((0, 10), .inr (0, 70)), ((0, 11), .inr (0, 71)), ((0, 12), .inr (0, 74)), ((0, 13), .inr (0, 76)), ((0, 14), .inl ((-1), (-1))), ((0, 15), .inl (0, 0)), ((1, 1), .inl (0, 0)), ((1, 2), .inr (0, 2)), ((1, 3), .inr (0, 3)), ((1, 4), .inr (0, 4)), ((1, 5), .inr (0, 5)), ((1, 6), .inr (0, 6)), ((1, 7), .inr (0, 7)), ((1, 8), .inr (0, 8)), ((1, 9), .inr (0, 9)), ((1, 10), .inl (0, 0)), ((1, 11), .inl ((-1), (-1))), ((1, 12), .inl (0, 0)), ((1, 13), .inr (0, 10)), ((1, 14), .inr (0, 11)), ((1, 15), .inl (0, 0)), ((1, 16), .inr (0, 14)), ((1, 17), .inl (7, 7)), ((1, 18), .inl (15, 15)), ((1, 19), .inl (15, 15)), ((2, 0), .inl (0, 0)), ((3, 0), .inl (0, 0)), ((4, 0), .inl (0, 0)), ((5, 0), .inl (0, 0)), ((6, 0), .inl (0, 0)), ((7, 0), .inl (0, 0)), ((8, 0), .inl (0, 0)), ((9, 0), .inl (0, 0)), ((10, 0), .inr (1, 0)), ((11, 1), .inr (0, 12)), ((11, 2), .inr (0, 13)), ((12, 0), .inl (0, 0)), ((13, 0), .inl (0, 0)), ((14, 0), .inl (0, 0)), ((15, 1), .inr (0, 16)), ((15, 2), .inr (0, 30)), ((16, 1), .inl (0, 0)), ((16, 2), .inr (0, 17)), ((16, 3), .inr (0, 18)), ((16, 4), .inr (0, 19)), ((16, 5), .inr (0, 20)), ((16, 6), .inr (0, 21)), ((16, 7), .inr (0, 22)), ((16, 8), .inr (0, 23)), ((16, 9), .inr (0, 24)), ((16, 10), .inl (0, 0)), ((16, 11), .inl ((-1), (-1))), ((16, 12), .inl (0, 0)), ((16, 13), .inr (0, 25)), ((16, 14), .inr (0, 26)), ((16, 15), .inl (0, 0)), ((16, 16), .inr (0, 29)), ((16, 17), .inl (7, 7)), ((16, 18), .inl (15, 15)), ((16, 19), .inl (15, 15)), ((17, 0), .inl (0, 0)), ((18, 0), .inl (0, 0)), ((19, 0), .inl (0, 0)), ((20, 0), .inl (0, 0)), ((21, 0), .inl (0, 0)), ((22, 0), .inl (0, 0)), ((23, 0), .inl (0, 0)), ((24, 0), .inl (0, 0)), ((25, 0), .inr (1, 0)), ((26, 1), .inr (0, 27)), ((26, 2), .inr (0, 28)), ((27, 0), .inl (0, 0)), ((28, 0), .inl (0, 0)), ((29, 0), .inl (0, 0)), ((30, 1), .inl (0, 0)), ((30, 2), .inr (0, 31)), ((30, 3), .inr (0, 32)), ((30, 4), .inr (0, 33)), ((30, 5), .inr (0, 34)), ((30, 6), .inr (0, 35)), ((30, 7), .inr (0, 36)), ((30, 8), .inr (0, 37)), ((30, 9), .inr (0, 38)), ((30, 10), .inl (0, 0)), ((30, 11), .inl ((-1), (-1))), ((30, 12), .inl (0, 0)), ((30, 13), .inr (0, 39)), ((30, 14), .inr (0, 40)), ((30, 15), .inl (0, 0)), ((30, 16), .inr (0, 43)), ((30, 17), .inl (7, 7)), ((30, 18), .inl (15, 15)), ((30, 19), .inl (15, 15)), ((31, 0), .inl (0, 0)), ((32, 0), .inl (0, 0)), ((33, 0), .inl (0, 0)), ((34, 0), .inl (0, 0)), ((35, 0), .inl (0, 0)), ((36, 0), .inl (0, 0)), ((37, 0), .inl (0, 0)), ((38, 0), .inl (0, 0)), ((39, 0), .inr (1, 0)), ((40, 1), .inr (0, 41)), ((40, 2), .inr (0, 42)), ((41, 0), .inl (0, 0)), ((42, 0), .inl (0, 0)), ((43, 0), .inl (0, 0)), ((44, 0), .inl (0, 0)), ((45, 1), .inr (0, 46)), ((45, 2), .inl (0, 0)), ((46, 0), .inl (0, 0)), ((47, 1), .inr (0, 45)), ((47, 2), .inr (0, 48)), ((47, 3), .inl (0, 0)), ((47, 4), .inr (0, 49)), ((47, 5), .inl (0, 0)), ((47, 6), .inl (0, 0)), ((47, 7), .inl (0, 0)), ((47, 8), .inl (0, 0)), ((47, 9), .inl (0, 0)), ((47, 10), .inl (0, 0)), ((47, 11), .inl (0, 0)), ((48, 0), .inl (0, 0)), ((49, 0), .inl (0, 0)), ((50, 1), .inr (0, 1)), ((50, 2), .inr (0, 51)), ((50, 3), .inr (0, 52)), ((52, 0), .inl (0, 0)), ((53, 1), .inr (0, 1)), ((53, 2), .inr (0, 54)), ((53, 3), .inr (0, 55)), ((53, 4), .inr (0, 56)), ((53, 5), .inr (0, 57)), ((53, 6), .inr (0, 58)), ((54, 0), .inl (0, 0)), ((55, 0), .inl (0, 0)), ((56, 0), .inl (0, 0)), ((57, 0), .inl (0, 0)), ((58, 0), .inl (0, 0)), ((59, 1), .inr (0, 1)), ((59, 2), .inr (0, 60)), ((59, 3), .inr (0, 61)), ((59, 4), .inr (0, 62)), ((59, 5), .inl (0, 0)), ((59, 6), .inr (0, 63)), ((59, 7), .inr (0, 64)), ((60, 0), .inl (0, 0)), ((60, 1), .inl (0, 0)), ((61, 0), .inl (0, 0)), ((62, 0), .inl (0, 0)), ((63, 0), .inl (0, 0)), ((64, 0), .inl ((-1), 0)), ((65, 1), .inr (0, 1)), ((65, 2), .inr (0, 50)), ((65, 3), .inr (0, 66)), ((65, 4), .inr (0, 67)), ((65, 5), .inr (0, 68)), ((65, 6), .inr (0, 69)), ((66, 0), .inl (0, 0)), ((67, 0), .inl (0, 0)), ((68, 0), .inl (0, 0)), ((69, 0), .inl (0, 0)), ((70, 1), .inr (0, 1)), ((70, 2), .inr (0, 53)), ((71, 1), .inr (0, 72)), ((71, 2), .inr (0, 73)), ((71, 3), .inl (0, 0)), ((71, 4), .inl (0, 0)), ((71, 5), .inl ((-1), (-1))), ((72, 0), .inl (0, 0)), ((73, 0), .inl (0, 0)), ((74, 1), .inr (0, 1)), ((74, 2), .inr (0, 53)), ((74, 3), .inr (0, 75)), ((75, 0), .inl (0, 0)), ((76, 0), .inl (0, 0))], 77)], 3, 54, 76, 11523)
def ck_h16 : List ck_Hd := []
set_option maxRecDepth 100000 in
theorem ck_k16 (l : Launch) (D : va_G) (st : Nat → Nat) : ck_Mt l D st ck_c16 := ck_sound (T := ck_T0) (cs := [ck_c1, ck_c3, ck_c5, ck_c6, ck_c7, ck_c8, ck_c9, ck_c11, ck_c12, ck_c13, ck_c14, ck_c15]) (hs := ck_h16) (sp := []) (fuel := 127) l ck_TSgood ck_okCl (ck_own (M0 := ck_m1) rfl rfl ck_okT0) (ck_cons (ck_k1 l D st) (ck_cons (ck_k3 l D st) (ck_cons (ck_k5 l D st) (ck_cons (ck_k6 l D st) (ck_cons (ck_k7 l D st) (ck_cons (ck_k8 l D st) (ck_cons (ck_k9 l D st) (ck_cons (ck_k11 l D st) (ck_cons (ck_k12 l D st) (ck_cons (ck_k13 l D st) (ck_cons (ck_k14 l D st) (ck_cons (ck_k15 l D st) ck_nil)))))))))))) (by decide +kernel)
/-- SLModel.init -/
def ck_c17 : ck_C := (14, 78, [.inr (0, 77)], [((77, 2), .inr (1, 0))], [(77, 2), (77, 3), (77, 4), (77, 5), (77, 6), (77, 7), (77, 9), (77, 10), (77, 11), (77, 12), (77, 20), (77, 25), (77, 26), (77, 27), (77, 28), (77, 29), (77, 30), (77, 31), (77, 32), (77, 36), (77, 37), (77, 38), (77, 39), (77, 40), (77, 41), (78, 0), (81, 0)], [(none, [], [((77, 2), .inr (0, 78)), ((77, 3), .inr (0, 79)), ((77, 4), .inr (0, 80)), ((77, 5), .inr (0, 81)), ((77, 6), .inr (0, 82)), ((77, 7), .inr (0, 83)), ((77, 9), .inl ((-1), (-1))), ((77, 10), .inr (0, 84)), ((77, 11), .inr (0, 85)), ((77, 12), .inr (0, 86)), ((77, 20), .inr (0, 87)), ((77, 25), .inr (0, 88)), ((77, 26), .inr (0, 89)), ((77, 27), .inr (0, 90)), ((77, 28), .inr (0, 91)), ((77, 29), .inr (0, 92)), ((77, 30), .inl ((-1), (-1))), ((77, 31), .inr (0, 93)), ((77, 32), .inr (0, 94)), ((77, 36), .inr (0, 95)), ((77, 37), .inr (0, 96)), ((77, 38), .inr (0, 97)), ((77, 39), .inr (0, 98)), ((77, 40), .inr (0, 99)), ((77, 41), .inr (0, 100)), ((78, 0), .inl ((-1), 15)), ((78, 193), .inl (0, 0)), ((78, 194), .inl (0, 0)), ((78, 195), .inl (0, 0)), ((78, 196), .inl (0, 0)), ((78, 197), .inl (0, 0)), ((78, 198), .inl (0, 0)), ((78, 199), .inl (0, 0)), ((78, 200), .inl (0, 0)), ((78, 201), .inl (0, 0)), ((78, 202), .inl (0, 0)), ((78, 203), .inl (0, 0)), ((78, 204), .inl (0, 0)), ((78, 1293), .inl (0, 0)), ((78, 1294), .inl (0, 0)), ((78, 1295), .inl (0, 0)), ((79, 0), .inl (0, 0)), ((80, 0), .inl (0, 0)), ((81, 0), .inl (0, 121)), ((82, 0), .inl (0, 0)), ((83, 0), .inl (0, 0)), ((84, 0), .inl (0, 0)), ((85, 0), .inl (0, 0)), ((86, 0), .inl (0, 0)), ((87, 0), .inl (0, 0)), ((88, 0), .inl (0, 0)), ((89, 0), .inl (0, 0)), ((90, 0), .inl (0, 0)), ((90, 1), .inl (0, 0)), ((91, 0), .inl (0, 0)), ((91, 1), .inl (0, 0)), ((92, 0), .inl (0, 0)), ((93, 0), .inl (0, 0)), ((94, 0), .inl (0, 0)), ((95, 0), .inl (0, 0)), ((96, 0), .inl (0, 0)), ((97, 0), .inl (0, 0)), ((98, 0), .inl (0, 0)), ((99, 0), .inl (0, 0)), ((100, 0), .inl (0, 0))], 101)], 1, 12, 23, 97889)
def ck_h17 : List ck_Hd := []
set_option maxRecDepth 100000 in
theorem ck_k17 (l : Launch) (D : va_G) (st : Nat → Nat) : ck_Mt l D st ck_c17 := ck_sound (T := ck_T13) (cs := []) (hs := ck_h17) (sp := []) (fuel := 489) l ck_TSgood ck_okCl (ck_own (M0 := ck_m14) rfl rfl ck_okT13) ck_nil (by decide +kernel)
/-- SL.within -/
def ck_c18 : ck_C := (16, 101, [.inl ((-2147483648), 2147483647), .inl (0, 0), .inl (11, 11)], [], [], [(some (.inl (0, 0)), [((-2147483648), (-1)), (0, 0), (11, 11)], [], 101), (some (.inl (0, 0)), [(12, 2147483647), (0, 0), (11, 11)], [], 101), (some (.inl (1, 1)), [(0, 11), (0, 0), (11, 11)], [], 101)], 0, 0, 0, 0)
def ck_h18 : List ck_Hd := []
set_option maxRecDepth 100000 in
theorem ck_k18 (l : Launch) (D : va_G) (st : Nat → Nat) : ck_Mt l D st ck_c18 := ck_sound (T := ck_T0) (cs := []) (hs := ck_h18) (sp := []) (fuel := 33) l ck_TSgood ck_okCl (ck_own (M0 := ck_m16) rfl rfl ck_okT0) ck_nil (by decide +kernel)
/-- SL.refuse -/
def ck_c19 : ck_C := (17, 101, [.inr (0, 0), .inl ((-1), (-1))], [], [(0, 15)], [(some (.inl ((-1), (-1))), [((-1), (-1))], [((0, 15), .inl ((-1), (-1)))], 101)], 0, 0, 0, 0)
def ck_h19 : List ck_Hd := []
set_option maxRecDepth 100000 in
theorem ck_k19 (l : Launch) (D : va_G) (st : Nat → Nat) : ck_Mt l D st ck_c19 := ck_sound (T := ck_T0) (cs := []) (hs := ck_h19) (sp := []) (fuel := 29) l ck_TSgood ck_okCl (ck_own (M0 := ck_m17) rfl rfl ck_okT0) ck_nil (by decide +kernel)
/-- SL.within -/
def ck_c20 : ck_C := (16, 101, [.inl ((-2147483648), 2147483647), .inl (1, 1), .inl (100, 100)], [], [], [(some (.inl (0, 0)), [((-2147483648), 0), (1, 1), (100, 100)], [], 101), (some (.inl (0, 0)), [(101, 2147483647), (1, 1), (100, 100)], [], 101), (some (.inl (1, 1)), [(1, 100), (1, 1), (100, 100)], [], 101)], 0, 0, 0, 0)
def ck_h20 : List ck_Hd := []
set_option maxRecDepth 100000 in
theorem ck_k20 (l : Launch) (D : va_G) (st : Nat → Nat) : ck_Mt l D st ck_c20 := ck_sound (T := ck_T0) (cs := []) (hs := ck_h20) (sp := []) (fuel := 33) l ck_TSgood ck_okCl (ck_own (M0 := ck_m16) rfl rfl ck_okT0) ck_nil (by decide +kernel)
/-- SL.within -/
def ck_c21 : ck_C := (16, 101, [.inl ((-2147483648), 2147483647), .inl (0, 0), .inl (200, 200)], [], [], [(some (.inl (0, 0)), [((-2147483648), (-1)), (0, 0), (200, 200)], [], 101), (some (.inl (0, 0)), [(201, 2147483647), (0, 0), (200, 200)], [], 101), (some (.inl (1, 1)), [(0, 200), (0, 0), (200, 200)], [], 101)], 0, 0, 0, 0)
def ck_h21 : List ck_Hd := []
set_option maxRecDepth 100000 in
theorem ck_k21 (l : Launch) (D : va_G) (st : Nat → Nat) : ck_Mt l D st ck_c21 := ck_sound (T := ck_T0) (cs := []) (hs := ck_h21) (sp := []) (fuel := 33) l ck_TSgood ck_okCl (ck_own (M0 := ck_m16) rfl rfl ck_okT0) ck_nil (by decide +kernel)
/-- SL$Bench.addStone -/
def ck_c22 : ck_C := (18, 101, [.inr (0, 1), .inl (0, 11), .inl (1, 100), .inl (0, 200)], [((1, 1), .inl (0, 0)), ((1, 2), .inr (0, 2)), ((1, 3), .inr (0, 3)), ((1, 4), .inr (0, 4)), ((2, 0), .inl (0, 0)), ((3, 0), .inl (0, 0)), ((4, 0), .inl (0, 0))], [(1, 1), (2, 0), (3, 0), (4, 0)], [(some (.inl (0, 0)), [(0, 11), (1, 100), (0, 200)], [((1, 1), .inl (1, 1)), ((2, 0), .inl (0, 11)), ((3, 0), .inl (0, 100)), ((4, 0), .inl (0, 200))], 101)], 0, 0, 0, 0)
def ck_h22 : List ck_Hd := []
set_option maxRecDepth 100000 in
theorem ck_k22 (l : Launch) (D : va_G) (st : Nat → Nat) : ck_Mt l D st ck_c22 := ck_sound (T := ck_T1) (cs := []) (hs := ck_h22) (sp := []) (fuel := 50) l ck_TSgood ck_okCl (ck_own (M0 := ck_m18) rfl rfl ck_okT1) ck_nil (by decide +kernel)
/-- SL.accept -/
def ck_c23 : ck_C := (19, 101, [.inr (0, 0), .inl (0, 0)], [], [(0, 15)], [(some (.inl (0, 0)), [(0, 0)], [((0, 15), .inl (0, 0))], 101)], 0, 0, 0, 0)
def ck_h23 : List ck_Hd := []
set_option maxRecDepth 100000 in
theorem ck_k23 (l : Launch) (D : va_G) (st : Nat → Nat) : ck_Mt l D st ck_c23 := ck_sound (T := ck_T0) (cs := []) (hs := ck_h23) (sp := []) (fuel := 29) l ck_TSgood ck_okCl (ck_own (M0 := ck_m19) rfl rfl ck_okT0) ck_nil (by decide +kernel)
/-- SL.stone -/
def ck_c24 : ck_C := (15, 101, [.inr (0, 0), .inl ((-2147483648), 2147483647), .inl ((-2147483648), 2147483647), .inl ((-2147483648), 2147483647)], [((0, 1), .inr (0, 1)), ((1, 1), .inl (0, 0)), ((1, 2), .inr (0, 2)), ((1, 3), .inr (0, 3)), ((1, 4), .inr (0, 4)), ((2, 0), .inl (0, 0)), ((3, 0), .inl (0, 0)), ((4, 0), .inl (0, 0))], [(0, 15), (1, 1), (2, 0), (3, 0), (4, 0)], [(some (.inl ((-1), (-1))), [((-2147483648), (-1)), ((-2147483648), 2147483647), ((-2147483648), 2147483647)], [((0, 15), .inl ((-1), (-1))), ((1, 1), .inl (0, 0)), ((2, 0), .inl (0, 0)), ((3, 0), .inl (0, 0)), ((4, 0), .inl (0, 0))], 101), (some (.inl ((-1), (-1))), [(12, 2147483647), ((-2147483648), 2147483647), ((-2147483648), 2147483647)], [((0, 15), .inl ((-1), (-1))), ((1, 1), .inl (0, 0)), ((2, 0), .inl (0, 0)), ((3, 0), .inl (0, 0)), ((4, 0), .inl (0, 0))], 101), (some (.inl ((-1), (-1))), [(0, 11), ((-2147483648), 0), ((-2147483648), 2147483647)], [((0, 15), .inl ((-1), (-1))), ((1, 1), .inl (0, 0)), ((2, 0), .inl (0, 0)), ((3, 0), .inl (0, 0)), ((4, 0), .inl (0, 0))], 101), (some (.inl ((-1), (-1))), [(0, 11), (101, 2147483647), ((-2147483648), 2147483647)], [((0, 15), .inl ((-1), (-1))), ((1, 1), .inl (0, 0)), ((2, 0), .inl (0, 0)), ((3, 0), .inl (0, 0)), ((4, 0), .inl (0, 0))], 101), (some (.inl ((-1), (-1))), [(0, 11), (1, 100), ((-2147483648), (-1))], [((0, 15), .inl ((-1), (-1))), ((1, 1), .inl (0, 0)), ((2, 0), .inl (0, 0)), ((3, 0), .inl (0, 0)), ((4, 0), .inl (0, 0))], 101), (some (.inl ((-1), (-1))), [(0, 11), (1, 100), (201, 2147483647)], [((0, 15), .inl ((-1), (-1))), ((1, 1), .inl (0, 0)), ((2, 0), .inl (0, 0)), ((3, 0), .inl (0, 0)), ((4, 0), .inl (0, 0))], 101), (some (.inl (0, 0)), [(0, 11), (1, 100), (0, 200)], [((0, 15), .inl (0, 0)), ((1, 1), .inl (1, 1)), ((2, 0), .inl (0, 11)), ((3, 0), .inl (0, 100)), ((4, 0), .inl (0, 200))], 101)], 1, 24, 0, 0)
def ck_h24 : List ck_Hd := []
set_option maxRecDepth 100000 in
theorem ck_k24 (l : Launch) (D : va_G) (st : Nat → Nat) : ck_Mt l D st ck_c24 := ck_sound (T := ck_T0) (cs := [ck_c18, ck_c19, ck_c20, ck_c21, ck_c22, ck_c23]) (hs := ck_h24) (sp := []) (fuel := 53) l ck_TSgood ck_okCl (ck_own (M0 := ck_m15) rfl rfl ck_okT0) (ck_cons (ck_k18 l D st) (ck_cons (ck_k19 l D st) (ck_cons (ck_k20 l D st) (ck_cons (ck_k21 l D st) (ck_cons (ck_k22 l D st) (ck_cons (ck_k23 l D st) ck_nil)))))) (by decide +kernel)
/-- SLModel.in -/
def ck_c25 : ck_C := (21, 101, [.inl ((-2147483648), (-1)), .inl (0, 0), .inl (11, 11)], [], [], [(some (.inl (0, 0)), [((-2147483648), (-1)), (0, 0), (11, 11)], [], 101)], 0, 0, 0, 0)
def ck_h25 : List ck_Hd := []
set_option maxRecDepth 100000 in
theorem ck_k25 (l : Launch) (D : va_G) (st : Nat → Nat) : ck_Mt l D st ck_c25 := ck_sound (T := ck_T13) (cs := []) (hs := ck_h25) (sp := []) (fuel := 29) l ck_TSgood ck_okCl (ck_own (M0 := ck_m21) rfl rfl ck_okT13) ck_nil (by decide +kernel)
/-- SLModel.refuses -/
def ck_c26 : ck_C := (22, 101, [.inr (0, 77), .inl ((-1), (-1))], [], [(77, 1)], [(some (.inl ((-1), (-1))), [((-1), (-1))], [((77, 1), .inl ((-1), (-1)))], 101)], 0, 0, 0, 0)
def ck_h26 : List ck_Hd := []
set_option maxRecDepth 100000 in
theorem ck_k26 (l : Launch) (D : va_G) (st : Nat → Nat) : ck_Mt l D st ck_c26 := ck_sound (T := ck_T13) (cs := []) (hs := ck_h26) (sp := []) (fuel := 29) l ck_TSgood ck_okCl (ck_own (M0 := ck_m22) rfl rfl ck_okT13) ck_nil (by decide +kernel)
/-- SLModel.stone -/
def ck_c27 : ck_C := (20, 101, [.inr (0, 77), .inl ((-2147483648), (-1)), .inl ((-2147483648), 2147483647), .inl ((-2147483648), 2147483647)], [], [(77, 1)], [(some (.inl ((-1), (-1))), [((-2147483648), (-1)), ((-2147483648), 2147483647), ((-2147483648), 2147483647)], [((77, 1), .inl ((-1), (-1)))], 101)], 1, 22, 0, 0)
def ck_h27 : List ck_Hd := []
set_option maxRecDepth 100000 in
theorem ck_k27 (l : Launch) (D : va_G) (st : Nat → Nat) : ck_Mt l D st ck_c27 := ck_sound (T := ck_T13) (cs := [ck_c25, ck_c26]) (hs := ck_h27) (sp := []) (fuel := 33) l ck_TSgood ck_okCl (ck_own (M0 := ck_m20) rfl rfl ck_okT13) (ck_cons (ck_k25 l D st) (ck_cons (ck_k26 l D st) ck_nil)) (by decide +kernel)
/-- SLModel.in -/
def ck_c28 : ck_C := (21, 101, [.inl (12, 2147483647), .inl (0, 0), .inl (11, 11)], [], [], [(some (.inl (0, 0)), [(12, 2147483647), (0, 0), (11, 11)], [], 101)], 0, 0, 0, 0)
def ck_h28 : List ck_Hd := []
set_option maxRecDepth 100000 in
theorem ck_k28 (l : Launch) (D : va_G) (st : Nat → Nat) : ck_Mt l D st ck_c28 := ck_sound (T := ck_T13) (cs := []) (hs := ck_h28) (sp := []) (fuel := 32) l ck_TSgood ck_okCl (ck_own (M0 := ck_m21) rfl rfl ck_okT13) ck_nil (by decide +kernel)
/-- SLModel.stone -/
def ck_c29 : ck_C := (20, 101, [.inr (0, 77), .inl (12, 2147483647), .inl ((-2147483648), 2147483647), .inl ((-2147483648), 2147483647)], [], [(77, 1)], [(some (.inl ((-1), (-1))), [(12, 2147483647), ((-2147483648), 2147483647), ((-2147483648), 2147483647)], [((77, 1), .inl ((-1), (-1)))], 101)], 1, 22, 0, 0)
def ck_h29 : List ck_Hd := []
set_option maxRecDepth 100000 in
theorem ck_k29 (l : Launch) (D : va_G) (st : Nat → Nat) : ck_Mt l D st ck_c29 := ck_sound (T := ck_T13) (cs := [ck_c28, ck_c26]) (hs := ck_h29) (sp := []) (fuel := 33) l ck_TSgood ck_okCl (ck_own (M0 := ck_m20) rfl rfl ck_okT13) (ck_cons (ck_k28 l D st) (ck_cons (ck_k26 l D st) ck_nil)) (by decide +kernel)
/-- SLModel.in -/
def ck_c30 : ck_C := (21, 101, [.inl (0, 11), .inl (0, 0), .inl (11, 11)], [], [], [(some (.inl (1, 1)), [(0, 11), (0, 0), (11, 11)], [], 101)], 0, 0, 0, 0)
def ck_h30 : List ck_Hd := []
set_option maxRecDepth 100000 in
theorem ck_k30 (l : Launch) (D : va_G) (st : Nat → Nat) : ck_Mt l D st ck_c30 := ck_sound (T := ck_T13) (cs := []) (hs := ck_h30) (sp := []) (fuel := 33) l ck_TSgood ck_okCl (ck_own (M0 := ck_m21) rfl rfl ck_okT13) ck_nil (by decide +kernel)
/-- SLModel.in -/
def ck_c31 : ck_C := (21, 101, [.inl ((-2147483648), 0), .inl (1, 1), .inl (100, 100)], [], [], [(some (.inl (0, 0)), [((-2147483648), 0), (1, 1), (100, 100)], [], 101)], 0, 0, 0, 0)
def ck_h31 : List ck_Hd := []
set_option maxRecDepth 100000 in
theorem ck_k31 (l : Launch) (D : va_G) (st : Nat → Nat) : ck_Mt l D st ck_c31 := ck_sound (T := ck_T13) (cs := []) (hs := ck_h31) (sp := []) (fuel := 29) l ck_TSgood ck_okCl (ck_own (M0 := ck_m21) rfl rfl ck_okT13) ck_nil (by decide +kernel)
/-- SLModel.stone -/
def ck_c32 : ck_C := (20, 101, [.inr (0, 77), .inl (0, 11), .inl ((-2147483648), 0), .inl ((-2147483648), 2147483647)], [], [(77, 1)], [(some (.inl ((-1), (-1))), [(0, 11), ((-2147483648), 0), ((-2147483648), 2147483647)], [((77, 1), .inl ((-1), (-1)))], 101)], 1, 22, 0, 0)
def ck_h32 : List ck_Hd := []
set_option maxRecDepth 100000 in
theorem ck_k32 (l : Launch) (D : va_G) (st : Nat → Nat) : ck_Mt l D st ck_c32 := ck_sound (T := ck_T13) (cs := [ck_c30, ck_c31, ck_c26]) (hs := ck_h32) (sp := []) (fuel := 38) l ck_TSgood ck_okCl (ck_own (M0 := ck_m20) rfl rfl ck_okT13) (ck_cons (ck_k30 l D st) (ck_cons (ck_k31 l D st) (ck_cons (ck_k26 l D st) ck_nil))) (by decide +kernel)
/-- SLModel.in -/
def ck_c33 : ck_C := (21, 101, [.inl (101, 2147483647), .inl (1, 1), .inl (100, 100)], [], [], [(some (.inl (0, 0)), [(101, 2147483647), (1, 1), (100, 100)], [], 101)], 0, 0, 0, 0)
def ck_h33 : List ck_Hd := []
set_option maxRecDepth 100000 in
theorem ck_k33 (l : Launch) (D : va_G) (st : Nat → Nat) : ck_Mt l D st ck_c33 := ck_sound (T := ck_T13) (cs := []) (hs := ck_h33) (sp := []) (fuel := 32) l ck_TSgood ck_okCl (ck_own (M0 := ck_m21) rfl rfl ck_okT13) ck_nil (by decide +kernel)
/-- SLModel.stone -/
def ck_c34 : ck_C := (20, 101, [.inr (0, 77), .inl (0, 11), .inl (101, 2147483647), .inl ((-2147483648), 2147483647)], [], [(77, 1)], [(some (.inl ((-1), (-1))), [(0, 11), (101, 2147483647), ((-2147483648), 2147483647)], [((77, 1), .inl ((-1), (-1)))], 101)], 1, 22, 0, 0)
def ck_h34 : List ck_Hd := []
set_option maxRecDepth 100000 in
theorem ck_k34 (l : Launch) (D : va_G) (st : Nat → Nat) : ck_Mt l D st ck_c34 := ck_sound (T := ck_T13) (cs := [ck_c30, ck_c33, ck_c26]) (hs := ck_h34) (sp := []) (fuel := 38) l ck_TSgood ck_okCl (ck_own (M0 := ck_m20) rfl rfl ck_okT13) (ck_cons (ck_k30 l D st) (ck_cons (ck_k33 l D st) (ck_cons (ck_k26 l D st) ck_nil))) (by decide +kernel)
/-- SLModel.in -/
def ck_c35 : ck_C := (21, 101, [.inl (1, 100), .inl (1, 1), .inl (100, 100)], [], [], [(some (.inl (1, 1)), [(1, 100), (1, 1), (100, 100)], [], 101)], 0, 0, 0, 0)
def ck_h35 : List ck_Hd := []
set_option maxRecDepth 100000 in
theorem ck_k35 (l : Launch) (D : va_G) (st : Nat → Nat) : ck_Mt l D st ck_c35 := ck_sound (T := ck_T13) (cs := []) (hs := ck_h35) (sp := []) (fuel := 33) l ck_TSgood ck_okCl (ck_own (M0 := ck_m21) rfl rfl ck_okT13) ck_nil (by decide +kernel)
/-- SLModel.in -/
def ck_c36 : ck_C := (21, 101, [.inl ((-2147483648), (-1)), .inl (0, 0), .inl (200, 200)], [], [], [(some (.inl (0, 0)), [((-2147483648), (-1)), (0, 0), (200, 200)], [], 101)], 0, 0, 0, 0)
def ck_h36 : List ck_Hd := []
set_option maxRecDepth 100000 in
theorem ck_k36 (l : Launch) (D : va_G) (st : Nat → Nat) : ck_Mt l D st ck_c36 := ck_sound (T := ck_T13) (cs := []) (hs := ck_h36) (sp := []) (fuel := 29) l ck_TSgood ck_okCl (ck_own (M0 := ck_m21) rfl rfl ck_okT13) ck_nil (by decide +kernel)
/-- SLModel.stone -/
def ck_c37 : ck_C := (20, 101, [.inr (0, 77), .inl (0, 11), .inl (1, 100), .inl ((-2147483648), (-1))], [], [(77, 1)], [(some (.inl ((-1), (-1))), [(0, 11), (1, 100), ((-2147483648), (-1))], [((77, 1), .inl ((-1), (-1)))], 101)], 1, 22, 0, 0)
def ck_h37 : List ck_Hd := []
set_option maxRecDepth 100000 in
theorem ck_k37 (l : Launch) (D : va_G) (st : Nat → Nat) : ck_Mt l D st ck_c37 := ck_sound (T := ck_T13) (cs := [ck_c30, ck_c35, ck_c36, ck_c26]) (hs := ck_h37) (sp := []) (fuel := 43) l ck_TSgood ck_okCl (ck_own (M0 := ck_m20) rfl rfl ck_okT13) (ck_cons (ck_k30 l D st) (ck_cons (ck_k35 l D st) (ck_cons (ck_k36 l D st) (ck_cons (ck_k26 l D st) ck_nil)))) (by decide +kernel)
/-- SLModel.in -/
def ck_c38 : ck_C := (21, 101, [.inl (201, 2147483647), .inl (0, 0), .inl (200, 200)], [], [], [(some (.inl (0, 0)), [(201, 2147483647), (0, 0), (200, 200)], [], 101)], 0, 0, 0, 0)
def ck_h38 : List ck_Hd := []
set_option maxRecDepth 100000 in
theorem ck_k38 (l : Launch) (D : va_G) (st : Nat → Nat) : ck_Mt l D st ck_c38 := ck_sound (T := ck_T13) (cs := []) (hs := ck_h38) (sp := []) (fuel := 32) l ck_TSgood ck_okCl (ck_own (M0 := ck_m21) rfl rfl ck_okT13) ck_nil (by decide +kernel)
/-- SLModel.stone -/
def ck_c39 : ck_C := (20, 101, [.inr (0, 77), .inl (0, 11), .inl (1, 100), .inl (201, 2147483647)], [], [(77, 1)], [(some (.inl ((-1), (-1))), [(0, 11), (1, 100), (201, 2147483647)], [((77, 1), .inl ((-1), (-1)))], 101)], 1, 22, 0, 0)
def ck_h39 : List ck_Hd := []
set_option maxRecDepth 100000 in
theorem ck_k39 (l : Launch) (D : va_G) (st : Nat → Nat) : ck_Mt l D st ck_c39 := ck_sound (T := ck_T13) (cs := [ck_c30, ck_c35, ck_c38, ck_c26]) (hs := ck_h39) (sp := []) (fuel := 43) l ck_TSgood ck_okCl (ck_own (M0 := ck_m20) rfl rfl ck_okT13) (ck_cons (ck_k30 l D st) (ck_cons (ck_k35 l D st) (ck_cons (ck_k38 l D st) (ck_cons (ck_k26 l D st) ck_nil)))) (by decide +kernel)
/-- SLModel.in -/
def ck_c40 : ck_C := (21, 101, [.inl (0, 200), .inl (0, 0), .inl (200, 200)], [], [], [(some (.inl (1, 1)), [(0, 200), (0, 0), (200, 200)], [], 101)], 0, 0, 0, 0)
def ck_h40 : List ck_Hd := []
set_option maxRecDepth 100000 in
theorem ck_k40 (l : Launch) (D : va_G) (st : Nat → Nat) : ck_Mt l D st ck_c40 := ck_sound (T := ck_T13) (cs := []) (hs := ck_h40) (sp := []) (fuel := 33) l ck_TSgood ck_okCl (ck_own (M0 := ck_m21) rfl rfl ck_okT13) ck_nil (by decide +kernel)
/-- SLModel.many -/
def ck_c41 : ck_C := (23, 101, [.inr (0, 77)], [((77, 2), .inr (0, 78)), ((78, 1293), .inl (0, 0))], [], [(some (.inl (0, 0)), [], [], 101)], 0, 0, 0, 0)
def ck_h41 : List ck_Hd := []
set_option maxRecDepth 100000 in
theorem ck_k41 (l : Launch) (D : va_G) (st : Nat → Nat) : ck_Mt l D st ck_c41 := ck_sound (T := ck_T13) (cs := []) (hs := ck_h41) (sp := []) (fuel := 29) l ck_TSgood ck_okCl (ck_own (M0 := ck_m23) rfl rfl ck_okT13) ck_nil (by decide +kernel)
/-- SLModel.good -/
def ck_c42 : ck_C := (24, 101, [.inr (0, 77), .inl (0, 0)], [], [(77, 1)], [(some (.inl (0, 0)), [(0, 0)], [((77, 1), .inl (0, 0))], 101)], 0, 0, 0, 0)
def ck_h42 : List ck_Hd := []
set_option maxRecDepth 100000 in
theorem ck_k42 (l : Launch) (D : va_G) (st : Nat → Nat) : ck_Mt l D st ck_c42 := ck_sound (T := ck_T13) (cs := []) (hs := ck_h42) (sp := []) (fuel := 29) l ck_TSgood ck_okCl (ck_own (M0 := ck_m24) rfl rfl ck_okT13) ck_nil (by decide +kernel)
/-- SLModel.stone -/
def ck_c43 : ck_C := (20, 101, [.inr (0, 77), .inl (0, 11), .inl (1, 100), .inl (0, 200)], [((77, 2), .inr (0, 78)), ((78, 0), .inl ((-1), 15)), ((78, 193), .inl (0, 0)), ((78, 194), .inl (0, 0)), ((78, 195), .inl (0, 0)), ((78, 196), .inl (0, 0)), ((78, 197), .inl (0, 0)), ((78, 198), .inl (0, 0)), ((78, 199), .inl (0, 0)), ((78, 200), .inl (0, 0)), ((78, 201), .inl (0, 0)), ((78, 202), .inl (0, 0)), ((78, 203), .inl (0, 0)), ((78, 204), .inl (0, 0)), ((78, 1293), .inl (0, 0)), ((78, 1294), .inl (0, 0)), ((78, 1295), .inl (0, 0))], [(77, 1), (78, 0)], [(some (.inl (0, 0)), [(0, 11), (1, 100), (0, 200)], [((77, 1), .inl (0, 0)), ((78, 0), .inl ((-1), 200)), ((78, 193), .inl (0, 0)), ((78, 194), .inl (0, 0)), ((78, 195), .inl (0, 0)), ((78, 196), .inl (0, 0)), ((78, 197), .inl (0, 0)), ((78, 198), .inl (0, 0)), ((78, 199), .inl (0, 0)), ((78, 200), .inl (0, 0)), ((78, 201), .inl (0, 0)), ((78, 202), .inl (0, 0)), ((78, 203), .inl (0, 0)), ((78, 204), .inl (0, 0)), ((78, 1293), .inl (1, 1)), ((78, 1294), .inl (0, 0)), ((78, 1295), .inl (0, 0))], 101)], 1, 22, 0, 0)
def ck_h43 : List ck_Hd := [(60, ([(0, 11, 0, (0, 0, 0)), (1, 100, 0, (0, 0, 0)), (0, 200, 0, (0, 0, 0)), (0, 16, 0, (0, 0, 0))], [(5, .inl (3, 1, 0)), (4, .inl (0, 0, 0)), (0, .inr (0, 77)), (1, .inl (0, 1, 0)), (2, .inl (1, 1, 0)), (3, .inl (2, 1, 0))], [], [((77, 2), .inr (0, 78)), ((78, 0), .inl ((-1), 15)), ((78, 193), .inl (0, 0)), ((78, 194), .inl (0, 0)), ((78, 195), .inl (0, 0)), ((78, 196), .inl (0, 0)), ((78, 197), .inl (0, 0)), ((78, 198), .inl (0, 0)), ((78, 199), .inl (0, 0)), ((78, 200), .inl (0, 0)), ((78, 201), .inl (0, 0)), ((78, 202), .inl (0, 0)), ((78, 203), .inl (0, 0)), ((78, 204), .inl (0, 0)), ((78, 1293), .inl (0, 0)), ((78, 1294), .inl (0, 0)), ((78, 1295), .inl (0, 0))], 101, 0, 0), 3, 0)]
set_option maxRecDepth 100000 in
theorem ck_k43 (l : Launch) (D : va_G) (st : Nat → Nat) : ck_Mt l D st ck_c43 := ck_sound (T := ck_T13) (cs := [ck_c30, ck_c35, ck_c40, ck_c41, ck_c42]) (hs := ck_h43) (sp := []) (fuel := 93) l ck_TSgood ck_okCl (ck_own (M0 := ck_m20) rfl rfl ck_okT13) (ck_cons (ck_k30 l D st) (ck_cons (ck_k35 l D st) (ck_cons (ck_k40 l D st) (ck_cons (ck_k41 l D st) (ck_cons (ck_k42 l D st) ck_nil))))) (by decide +kernel)
/-- SL.within -/
def ck_c44 : ck_C := (16, 101, [.inl ((-2147483648), 2147483647), .inl (0, 0), .inl (2, 2)], [], [], [(some (.inl (0, 0)), [((-2147483648), (-1)), (0, 0), (2, 2)], [], 101), (some (.inl (0, 0)), [(3, 2147483647), (0, 0), (2, 2)], [], 101), (some (.inl (1, 1)), [(0, 2), (0, 0), (2, 2)], [], 101)], 0, 0, 0, 0)
def ck_h44 : List ck_Hd := []
set_option maxRecDepth 100000 in
theorem ck_k44 (l : Launch) (D : va_G) (st : Nat → Nat) : ck_Mt l D st ck_c44 := ck_sound (T := ck_T0) (cs := []) (hs := ck_h44) (sp := []) (fuel := 33) l ck_TSgood ck_okCl (ck_own (M0 := ck_m16) rfl rfl ck_okT0) ck_nil (by decide +kernel)
/-- SL.within -/
def ck_c45 : ck_C := (16, 101, [.inl ((-2147483648), 2147483647), .inl (0, 0), .inl (3, 3)], [], [], [(some (.inl (0, 0)), [((-2147483648), (-1)), (0, 0), (3, 3)], [], 101), (some (.inl (0, 0)), [(4, 2147483647), (0, 0), (3, 3)], [], 101), (some (.inl (1, 1)), [(0, 3), (0, 0), (3, 3)], [], 101)], 0, 0, 0, 0)
def ck_h45 : List ck_Hd := []
set_option maxRecDepth 100000 in
theorem ck_k45 (l : Launch) (D : va_G) (st : Nat → Nat) : ck_Mt l D st ck_c45 := ck_sound (T := ck_T0) (cs := []) (hs := ck_h45) (sp := []) (fuel := 33) l ck_TSgood ck_okCl (ck_own (M0 := ck_m16) rfl rfl ck_okT0) ck_nil (by decide +kernel)
/-- SL.isSpot -/
def ck_c46 : ck_C := (26, 101, [.inl ((-2147483648), 2147483647), .inl ((-2147483648), 2147483647)], [], [], [(some (.inl (0, 0)), [((-2147483648), (-1)), ((-2147483648), 2147483647)], [], 101), (some (.inl (0, 0)), [(3, 2147483647), ((-2147483648), 2147483647)], [], 101), (some (.inl (0, 0)), [(0, 2), ((-2147483648), (-1))], [], 101), (some (.inl (0, 0)), [(0, 2), (4, 2147483647)], [], 101), (some (.inl (1, 1)), [(0, 2), (0, 3)], [], 101)], 1, 22, 0, 0)
def ck_h46 : List ck_Hd := []
set_option maxRecDepth 100000 in
theorem ck_k46 (l : Launch) (D : va_G) (st : Nat → Nat) : ck_Mt l D st ck_c46 := ck_sound (T := ck_T0) (cs := [ck_c44, ck_c45]) (hs := ck_h46) (sp := []) (fuel := 37) l ck_TSgood ck_okCl (ck_own (M0 := ck_m26) rfl rfl ck_okT0) (ck_cons (ck_k44 l D st) (ck_cons (ck_k45 l D st) ck_nil)) (by decide +kernel)
/-- SL.within -/
def ck_c47 : ck_C := (16, 101, [.inl ((-2147483648), 2147483647), .inl (0, 0), .inl (999, 999)], [], [], [(some (.inl (0, 0)), [((-2147483648), (-1)), (0, 0), (999, 999)], [], 101), (some (.inl (0, 0)), [(1000, 2147483647), (0, 0), (999, 999)], [], 101), (some (.inl (1, 1)), [(0, 999), (0, 0), (999, 999)], [], 101)], 0, 0, 0, 0)
def ck_h47 : List ck_Hd := []
set_option maxRecDepth 100000 in
theorem ck_k47 (l : Launch) (D : va_G) (st : Nat → Nat) : ck_Mt l D st ck_c47 := ck_sound (T := ck_T0) (cs := []) (hs := ck_h47) (sp := []) (fuel := 33) l ck_TSgood ck_okCl (ck_own (M0 := ck_m16) rfl rfl ck_okT0) ck_nil (by decide +kernel)
/-- SL.within -/
def ck_c48 : ck_C := (16, 101, [.inl ((-2147483648), 2147483647), .inl (0, 0), .inl ((-1), (-1))], [], [], [(some (.inl (0, 0)), [((-2147483648), (-1)), (0, 0), ((-1), (-1))], [], 101), (some (.inl (0, 0)), [(0, 2147483647), (0, 0), ((-1), (-1))], [], 101)], 0, 0, 0, 0)
def ck_h48 : List ck_Hd := []
set_option maxRecDepth 100000 in
theorem ck_k48 (l : Launch) (D : va_G) (st : Nat → Nat) : ck_Mt l D st ck_c48 := ck_sound (T := ck_T0) (cs := []) (hs := ck_h48) (sp := []) (fuel := 32) l ck_TSgood ck_okCl (ck_own (M0 := ck_m16) rfl rfl ck_okT0) ck_nil (by decide +kernel)
/-- SL$Bench.hasStone -/
def ck_c49 : ck_C := (27, 101, [.inr (0, 1), .inl ((-2147483648), 2147483647)], [((1, 1), .inl (0, 0))], [], [(some (.inl (0, 0)), [((-2147483648), (-1))], [], 101), (some (.inl (0, 0)), [(0, 2147483647)], [], 101)], 1, 22, 0, 0)
def ck_h49 : List ck_Hd := []
set_option maxRecDepth 100000 in
theorem ck_k49 (l : Launch) (D : va_G) (st : Nat → Nat) : ck_Mt l D st ck_c49 := ck_sound (T := ck_T1) (cs := [ck_c48]) (hs := ck_h49) (sp := []) (fuel := 32) l ck_TSgood ck_okCl (ck_own (M0 := ck_m27) rfl rfl ck_okT1) (ck_cons (ck_k48 l D st) ck_nil) (by decide +kernel)
/-- SL.refuse -/
def ck_c50 : ck_C := (17, 101, [.inr (0, 0), .inl ((-2), (-2))], [], [(0, 15)], [(some (.inl ((-2), (-2))), [((-2), (-2))], [((0, 15), .inl ((-2), (-2)))], 101)], 0, 0, 0, 0)
def ck_h50 : List ck_Hd := []
set_option maxRecDepth 100000 in
theorem ck_k50 (l : Launch) (D : va_G) (st : Nat → Nat) : ck_Mt l D st ck_c50 := ck_sound (T := ck_T0) (cs := []) (hs := ck_h50) (sp := []) (fuel := 29) l ck_TSgood ck_okCl (ck_own (M0 := ck_m17) rfl rfl ck_okT0) ck_nil (by decide +kernel)
/-- SL.plane -/
def ck_c51 : ck_C := (25, 101, [.inr (0, 0), .inl ((-2147483648), 2147483647), .inl ((-2147483648), 2147483647), .inl ((-2147483648), 2147483647), .inl ((-2147483648), 2147483647)], [((0, 1), .inr (0, 1)), ((1, 1), .inl (0, 0))], [(0, 15)], [(some (.inl ((-1), (-1))), [((-2147483648), 2147483647), ((-2147483648), (-1)), ((-2147483648), 2147483647), ((-2147483648), 2147483647)], [((0, 15), .inl ((-1), (-1)))], 101), (some (.inl ((-1), (-1))), [((-2147483648), 2147483647), (3, 2147483647), ((-2147483648), 2147483647), ((-2147483648), 2147483647)], [((0, 15), .inl ((-1), (-1)))], 101), (some (.inl ((-1), (-1))), [((-2147483648), 2147483647), (0, 2), ((-2147483648), (-1)), ((-2147483648), 2147483647)], [((0, 15), .inl ((-1), (-1)))], 101), (some (.inl ((-1), (-1))), [((-2147483648), 2147483647), (0, 2), (4, 2147483647), ((-2147483648), 2147483647)], [((0, 15), .inl ((-1), (-1)))], 101), (some (.inl ((-1), (-1))), [((-2147483648), 2147483647), (0, 2), (0, 3), ((-2147483648), (-1))], [((0, 15), .inl ((-1), (-1)))], 101), (some (.inl ((-1), (-1))), [((-2147483648), 2147483647), (0, 2), (0, 3), (1000, 2147483647)], [((0, 15), .inl ((-1), (-1)))], 101), (some (.inl ((-2), (-2))), [((-2147483648), (-1)), (0, 2), (0, 3), (0, 999)], [((0, 15), .inl ((-2), (-2)))], 101), (some (.inl ((-2), (-2))), [(0, 2147483647), (0, 2), (0, 3), (0, 999)], [((0, 15), .inl ((-2), (-2)))], 101)], 2, 43, 0, 0)
def ck_h51 : List ck_Hd := []
set_option maxRecDepth 100000 in
theorem ck_k51 (l : Launch) (D : va_G) (st : Nat → Nat) : ck_Mt l D st ck_c51 := ck_sound (T := ck_T0) (cs := [ck_c46, ck_c19, ck_c47, ck_c49, ck_c50]) (hs := ck_h51) (sp := []) (fuel := 42) l ck_TSgood ck_okCl (ck_own (M0 := ck_m25) rfl rfl ck_okT0) (ck_cons (ck_k46 l D st) (ck_cons (ck_k19 l D st) (ck_cons (ck_k47 l D st) (ck_cons (ck_k49 l D st) (ck_cons (ck_k50 l D st) ck_nil))))) (by decide +kernel)
/-- SLModel.in -/
def ck_c52 : ck_C := (21, 101, [.inl ((-2147483648), (-1)), .inl (0, 0), .inl (2, 2)], [], [], [(some (.inl (0, 0)), [((-2147483648), (-1)), (0, 0), (2, 2)], [], 101)], 0, 0, 0, 0)
def ck_h52 : List ck_Hd := []
set_option maxRecDepth 100000 in
theorem ck_k52 (l : Launch) (D : va_G) (st : Nat → Nat) : ck_Mt l D st ck_c52 := ck_sound (T := ck_T13) (cs := []) (hs := ck_h52) (sp := []) (fuel := 29) l ck_TSgood ck_okCl (ck_own (M0 := ck_m21) rfl rfl ck_okT13) ck_nil (by decide +kernel)
/-- SLModel.plane -/
def ck_c53 : ck_C := (28, 101, [.inr (0, 77), .inl ((-2147483648), 2147483647), .inl ((-2147483648), (-1)), .inl ((-2147483648), 2147483647), .inl ((-2147483648), 2147483647)], [], [(77, 1)], [(some (.inl ((-1), (-1))), [((-2147483648), 2147483647), ((-2147483648), (-1)), ((-2147483648), 2147483647), ((-2147483648), 2147483647)], [((77, 1), .inl ((-1), (-1)))], 101)], 1, 22, 0, 0)
def ck_h53 : List ck_Hd := []
set_option maxRecDepth 100000 in
theorem ck_k53 (l : Launch) (D : va_G) (st : Nat → Nat) : ck_Mt l D st ck_c53 := ck_sound (T := ck_T13) (cs := [ck_c52, ck_c26]) (hs := ck_h53) (sp := []) (fuel := 33) l ck_TSgood ck_okCl (ck_own (M0 := ck_m28) rfl rfl ck_okT13) (ck_cons (ck_k52 l D st) (ck_cons (ck_k26 l D st) ck_nil)) (by decide +kernel)
/-- SLModel.in -/
def ck_c54 : ck_C := (21, 101, [.inl (3, 2147483647), .inl (0, 0), .inl (2, 2)], [], [], [(some (.inl (0, 0)), [(3, 2147483647), (0, 0), (2, 2)], [], 101)], 0, 0, 0, 0)
def ck_h54 : List ck_Hd := []
set_option maxRecDepth 100000 in
theorem ck_k54 (l : Launch) (D : va_G) (st : Nat → Nat) : ck_Mt l D st ck_c54 := ck_sound (T := ck_T13) (cs := []) (hs := ck_h54) (sp := []) (fuel := 32) l ck_TSgood ck_okCl (ck_own (M0 := ck_m21) rfl rfl ck_okT13) ck_nil (by decide +kernel)
/-- SLModel.plane -/
def ck_c55 : ck_C := (28, 101, [.inr (0, 77), .inl ((-2147483648), 2147483647), .inl (3, 2147483647), .inl ((-2147483648), 2147483647), .inl ((-2147483648), 2147483647)], [], [(77, 1)], [(some (.inl ((-1), (-1))), [((-2147483648), 2147483647), (3, 2147483647), ((-2147483648), 2147483647), ((-2147483648), 2147483647)], [((77, 1), .inl ((-1), (-1)))], 101)], 1, 22, 0, 0)
def ck_h55 : List ck_Hd := []
set_option maxRecDepth 100000 in
theorem ck_k55 (l : Launch) (D : va_G) (st : Nat → Nat) : ck_Mt l D st ck_c55 := ck_sound (T := ck_T13) (cs := [ck_c54, ck_c26]) (hs := ck_h55) (sp := []) (fuel := 33) l ck_TSgood ck_okCl (ck_own (M0 := ck_m28) rfl rfl ck_okT13) (ck_cons (ck_k54 l D st) (ck_cons (ck_k26 l D st) ck_nil)) (by decide +kernel)
/-- SLModel.in -/
def ck_c56 : ck_C := (21, 101, [.inl (0, 2), .inl (0, 0), .inl (2, 2)], [], [], [(some (.inl (1, 1)), [(0, 2), (0, 0), (2, 2)], [], 101)], 0, 0, 0, 0)
def ck_h56 : List ck_Hd := []
set_option maxRecDepth 100000 in
theorem ck_k56 (l : Launch) (D : va_G) (st : Nat → Nat) : ck_Mt l D st ck_c56 := ck_sound (T := ck_T13) (cs := []) (hs := ck_h56) (sp := []) (fuel := 33) l ck_TSgood ck_okCl (ck_own (M0 := ck_m21) rfl rfl ck_okT13) ck_nil (by decide +kernel)
/-- SLModel.in -/
def ck_c57 : ck_C := (21, 101, [.inl ((-2147483648), (-1)), .inl (0, 0), .inl (3, 3)], [], [], [(some (.inl (0, 0)), [((-2147483648), (-1)), (0, 0), (3, 3)], [], 101)], 0, 0, 0, 0)
def ck_h57 : List ck_Hd := []
set_option maxRecDepth 100000 in
theorem ck_k57 (l : Launch) (D : va_G) (st : Nat → Nat) : ck_Mt l D st ck_c57 := ck_sound (T := ck_T13) (cs := []) (hs := ck_h57) (sp := []) (fuel := 29) l ck_TSgood ck_okCl (ck_own (M0 := ck_m21) rfl rfl ck_okT13) ck_nil (by decide +kernel)
/-- SLModel.plane -/
def ck_c58 : ck_C := (28, 101, [.inr (0, 77), .inl ((-2147483648), 2147483647), .inl (0, 2), .inl ((-2147483648), (-1)), .inl ((-2147483648), 2147483647)], [], [(77, 1)], [(some (.inl ((-1), (-1))), [((-2147483648), 2147483647), (0, 2), ((-2147483648), (-1)), ((-2147483648), 2147483647)], [((77, 1), .inl ((-1), (-1)))], 101)], 1, 22, 0, 0)
def ck_h58 : List ck_Hd := []
set_option maxRecDepth 100000 in
theorem ck_k58 (l : Launch) (D : va_G) (st : Nat → Nat) : ck_Mt l D st ck_c58 := ck_sound (T := ck_T13) (cs := [ck_c56, ck_c57, ck_c26]) (hs := ck_h58) (sp := []) (fuel := 38) l ck_TSgood ck_okCl (ck_own (M0 := ck_m28) rfl rfl ck_okT13) (ck_cons (ck_k56 l D st) (ck_cons (ck_k57 l D st) (ck_cons (ck_k26 l D st) ck_nil))) (by decide +kernel)
/-- SLModel.in -/
def ck_c59 : ck_C := (21, 101, [.inl (4, 2147483647), .inl (0, 0), .inl (3, 3)], [], [], [(some (.inl (0, 0)), [(4, 2147483647), (0, 0), (3, 3)], [], 101)], 0, 0, 0, 0)
def ck_h59 : List ck_Hd := []
set_option maxRecDepth 100000 in
theorem ck_k59 (l : Launch) (D : va_G) (st : Nat → Nat) : ck_Mt l D st ck_c59 := ck_sound (T := ck_T13) (cs := []) (hs := ck_h59) (sp := []) (fuel := 32) l ck_TSgood ck_okCl (ck_own (M0 := ck_m21) rfl rfl ck_okT13) ck_nil (by decide +kernel)
/-- SLModel.plane -/
def ck_c60 : ck_C := (28, 101, [.inr (0, 77), .inl ((-2147483648), 2147483647), .inl (0, 2), .inl (4, 2147483647), .inl ((-2147483648), 2147483647)], [], [(77, 1)], [(some (.inl ((-1), (-1))), [((-2147483648), 2147483647), (0, 2), (4, 2147483647), ((-2147483648), 2147483647)], [((77, 1), .inl ((-1), (-1)))], 101)], 1, 22, 0, 0)
def ck_h60 : List ck_Hd := []
set_option maxRecDepth 100000 in
theorem ck_k60 (l : Launch) (D : va_G) (st : Nat → Nat) : ck_Mt l D st ck_c60 := ck_sound (T := ck_T13) (cs := [ck_c56, ck_c59, ck_c26]) (hs := ck_h60) (sp := []) (fuel := 38) l ck_TSgood ck_okCl (ck_own (M0 := ck_m28) rfl rfl ck_okT13) (ck_cons (ck_k56 l D st) (ck_cons (ck_k59 l D st) (ck_cons (ck_k26 l D st) ck_nil))) (by decide +kernel)
/-- SLModel.in -/
def ck_c61 : ck_C := (21, 101, [.inl (0, 3), .inl (0, 0), .inl (3, 3)], [], [], [(some (.inl (1, 1)), [(0, 3), (0, 0), (3, 3)], [], 101)], 0, 0, 0, 0)
def ck_h61 : List ck_Hd := []
set_option maxRecDepth 100000 in
theorem ck_k61 (l : Launch) (D : va_G) (st : Nat → Nat) : ck_Mt l D st ck_c61 := ck_sound (T := ck_T13) (cs := []) (hs := ck_h61) (sp := []) (fuel := 33) l ck_TSgood ck_okCl (ck_own (M0 := ck_m21) rfl rfl ck_okT13) ck_nil (by decide +kernel)
/-- SLModel.in -/
def ck_c62 : ck_C := (21, 101, [.inl ((-2147483648), (-1)), .inl (0, 0), .inl (999, 999)], [], [], [(some (.inl (0, 0)), [((-2147483648), (-1)), (0, 0), (999, 999)], [], 101)], 0, 0, 0, 0)
def ck_h62 : List ck_Hd := []
set_option maxRecDepth 100000 in
theorem ck_k62 (l : Launch) (D : va_G) (st : Nat → Nat) : ck_Mt l D st ck_c62 := ck_sound (T := ck_T13) (cs := []) (hs := ck_h62) (sp := []) (fuel := 29) l ck_TSgood ck_okCl (ck_own (M0 := ck_m21) rfl rfl ck_okT13) ck_nil (by decide +kernel)
/-- SLModel.plane -/
def ck_c63 : ck_C := (28, 101, [.inr (0, 77), .inl ((-2147483648), 2147483647), .inl (0, 2), .inl (0, 3), .inl ((-2147483648), (-1))], [], [(77, 1)], [(some (.inl ((-1), (-1))), [((-2147483648), 2147483647), (0, 2), (0, 3), ((-2147483648), (-1))], [((77, 1), .inl ((-1), (-1)))], 101)], 1, 22, 0, 0)
def ck_h63 : List ck_Hd := []
set_option maxRecDepth 100000 in
theorem ck_k63 (l : Launch) (D : va_G) (st : Nat → Nat) : ck_Mt l D st ck_c63 := ck_sound (T := ck_T13) (cs := [ck_c56, ck_c61, ck_c62, ck_c26]) (hs := ck_h63) (sp := []) (fuel := 43) l ck_TSgood ck_okCl (ck_own (M0 := ck_m28) rfl rfl ck_okT13) (ck_cons (ck_k56 l D st) (ck_cons (ck_k61 l D st) (ck_cons (ck_k62 l D st) (ck_cons (ck_k26 l D st) ck_nil)))) (by decide +kernel)
/-- SLModel.in -/
def ck_c64 : ck_C := (21, 101, [.inl (1000, 2147483647), .inl (0, 0), .inl (999, 999)], [], [], [(some (.inl (0, 0)), [(1000, 2147483647), (0, 0), (999, 999)], [], 101)], 0, 0, 0, 0)
def ck_h64 : List ck_Hd := []
set_option maxRecDepth 100000 in
theorem ck_k64 (l : Launch) (D : va_G) (st : Nat → Nat) : ck_Mt l D st ck_c64 := ck_sound (T := ck_T13) (cs := []) (hs := ck_h64) (sp := []) (fuel := 32) l ck_TSgood ck_okCl (ck_own (M0 := ck_m21) rfl rfl ck_okT13) ck_nil (by decide +kernel)
/-- SLModel.plane -/
def ck_c65 : ck_C := (28, 101, [.inr (0, 77), .inl ((-2147483648), 2147483647), .inl (0, 2), .inl (0, 3), .inl (1000, 2147483647)], [], [(77, 1)], [(some (.inl ((-1), (-1))), [((-2147483648), 2147483647), (0, 2), (0, 3), (1000, 2147483647)], [((77, 1), .inl ((-1), (-1)))], 101)], 1, 22, 0, 0)
def ck_h65 : List ck_Hd := []
set_option maxRecDepth 100000 in
theorem ck_k65 (l : Launch) (D : va_G) (st : Nat → Nat) : ck_Mt l D st ck_c65 := ck_sound (T := ck_T13) (cs := [ck_c56, ck_c61, ck_c64, ck_c26]) (hs := ck_h65) (sp := []) (fuel := 43) l ck_TSgood ck_okCl (ck_own (M0 := ck_m28) rfl rfl ck_okT13) (ck_cons (ck_k56 l D st) (ck_cons (ck_k61 l D st) (ck_cons (ck_k64 l D st) (ck_cons (ck_k26 l D st) ck_nil)))) (by decide +kernel)
/-- SLModel.in -/
def ck_c66 : ck_C := (21, 101, [.inl (0, 999), .inl (0, 0), .inl (999, 999)], [], [], [(some (.inl (1, 1)), [(0, 999), (0, 0), (999, 999)], [], 101)], 0, 0, 0, 0)
def ck_h66 : List ck_Hd := []
set_option maxRecDepth 100000 in
theorem ck_k66 (l : Launch) (D : va_G) (st : Nat → Nat) : ck_Mt l D st ck_c66 := ck_sound (T := ck_T13) (cs := []) (hs := ck_h66) (sp := []) (fuel := 33) l ck_TSgood ck_okCl (ck_own (M0 := ck_m21) rfl rfl ck_okT13) ck_nil (by decide +kernel)
/-- SLModel.in -/
def ck_c67 : ck_C := (21, 101, [.inl ((-2147483648), (-1)), .inl (0, 0), .inl ((-1), (-1))], [], [], [(some (.inl (0, 0)), [((-2147483648), (-1)), (0, 0), ((-1), (-1))], [], 101)], 0, 0, 0, 0)
def ck_h67 : List ck_Hd := []
set_option maxRecDepth 100000 in
theorem ck_k67 (l : Launch) (D : va_G) (st : Nat → Nat) : ck_Mt l D st ck_c67 := ck_sound (T := ck_T13) (cs := []) (hs := ck_h67) (sp := []) (fuel := 29) l ck_TSgood ck_okCl (ck_own (M0 := ck_m21) rfl rfl ck_okT13) ck_nil (by decide +kernel)
/-- SLModel.isStone -/
def ck_c68 : ck_C := (29, 101, [.inr (0, 77), .inl ((-2147483648), (-1))], [((77, 2), .inr (0, 78)), ((78, 1293), .inl (0, 0))], [], [(some (.inl (0, 0)), [((-2147483648), (-1))], [], 101)], 1, 22, 0, 0)
def ck_h68 : List ck_Hd := []
set_option maxRecDepth 100000 in
theorem ck_k68 (l : Launch) (D : va_G) (st : Nat → Nat) : ck_Mt l D st ck_c68 := ck_sound (T := ck_T13) (cs := [ck_c67]) (hs := ck_h68) (sp := []) (fuel := 34) l ck_TSgood ck_okCl (ck_own (M0 := ck_m29) rfl rfl ck_okT13) (ck_cons (ck_k67 l D st) ck_nil) (by decide +kernel)
/-- SLModel.refuses -/
def ck_c69 : ck_C := (22, 101, [.inr (0, 77), .inl ((-2), (-2))], [], [(77, 1)], [(some (.inl ((-2), (-2))), [((-2), (-2))], [((77, 1), .inl ((-2), (-2)))], 101)], 0, 0, 0, 0)
def ck_h69 : List ck_Hd := []
set_option maxRecDepth 100000 in
theorem ck_k69 (l : Launch) (D : va_G) (st : Nat → Nat) : ck_Mt l D st ck_c69 := ck_sound (T := ck_T13) (cs := []) (hs := ck_h69) (sp := []) (fuel := 29) l ck_TSgood ck_okCl (ck_own (M0 := ck_m22) rfl rfl ck_okT13) ck_nil (by decide +kernel)
/-- SLModel.plane -/
def ck_c70 : ck_C := (28, 101, [.inr (0, 77), .inl ((-2147483648), (-1)), .inl (0, 2), .inl (0, 3), .inl (0, 999)], [((77, 2), .inr (0, 78)), ((78, 1293), .inl (0, 0))], [(77, 1)], [(some (.inl ((-2), (-2))), [((-2147483648), (-1)), (0, 2), (0, 3), (0, 999)], [((77, 1), .inl ((-2), (-2)))], 101)], 2, 43, 0, 0)
def ck_h70 : List ck_Hd := []
set_option maxRecDepth 100000 in
theorem ck_k70 (l : Launch) (D : va_G) (st : Nat → Nat) : ck_Mt l D st ck_c70 := ck_sound (T := ck_T13) (cs := [ck_c56, ck_c61, ck_c66, ck_c68, ck_c69]) (hs := ck_h70) (sp := []) (fuel := 47) l ck_TSgood ck_okCl (ck_own (M0 := ck_m28) rfl rfl ck_okT13) (ck_cons (ck_k56 l D st) (ck_cons (ck_k61 l D st) (ck_cons (ck_k66 l D st) (ck_cons (ck_k68 l D st) (ck_cons (ck_k69 l D st) ck_nil))))) (by decide +kernel)
/-- SLModel.in -/
def ck_c71 : ck_C := (21, 101, [.inl (0, 2147483647), .inl (0, 0), .inl ((-1), (-1))], [], [], [(some (.inl (0, 0)), [(0, 2147483647), (0, 0), ((-1), (-1))], [], 101)], 0, 0, 0, 0)
def ck_h71 : List ck_Hd := []
set_option maxRecDepth 100000 in
theorem ck_k71 (l : Launch) (D : va_G) (st : Nat → Nat) : ck_Mt l D st ck_c71 := ck_sound (T := ck_T13) (cs := []) (hs := ck_h71) (sp := []) (fuel := 32) l ck_TSgood ck_okCl (ck_own (M0 := ck_m21) rfl rfl ck_okT13) ck_nil (by decide +kernel)
/-- SLModel.isStone -/
def ck_c72 : ck_C := (29, 101, [.inr (0, 77), .inl (0, 2147483647)], [((77, 2), .inr (0, 78)), ((78, 1293), .inl (0, 0))], [], [(some (.inl (0, 0)), [(0, 2147483647)], [], 101)], 1, 22, 0, 0)
def ck_h72 : List ck_Hd := []
set_option maxRecDepth 100000 in
theorem ck_k72 (l : Launch) (D : va_G) (st : Nat → Nat) : ck_Mt l D st ck_c72 := ck_sound (T := ck_T13) (cs := [ck_c71]) (hs := ck_h72) (sp := []) (fuel := 34) l ck_TSgood ck_okCl (ck_own (M0 := ck_m29) rfl rfl ck_okT13) (ck_cons (ck_k71 l D st) ck_nil) (by decide +kernel)
/-- SLModel.plane -/
def ck_c73 : ck_C := (28, 101, [.inr (0, 77), .inl (0, 2147483647), .inl (0, 2), .inl (0, 3), .inl (0, 999)], [((77, 2), .inr (0, 78)), ((78, 1293), .inl (0, 0))], [(77, 1)], [(some (.inl ((-2), (-2))), [(0, 2147483647), (0, 2), (0, 3), (0, 999)], [((77, 1), .inl ((-2), (-2)))], 101)], 2, 43, 0, 0)
def ck_h73 : List ck_Hd := []
set_option maxRecDepth 100000 in
theorem ck_k73 (l : Launch) (D : va_G) (st : Nat → Nat) : ck_Mt l D st ck_c73 := ck_sound (T := ck_T13) (cs := [ck_c56, ck_c61, ck_c66, ck_c72, ck_c69]) (hs := ck_h73) (sp := []) (fuel := 47) l ck_TSgood ck_okCl (ck_own (M0 := ck_m28) rfl rfl ck_okT13) (ck_cons (ck_k56 l D st) (ck_cons (ck_k61 l D st) (ck_cons (ck_k66 l D st) (ck_cons (ck_k72 l D st) (ck_cons (ck_k69 l D st) ck_nil))))) (by decide +kernel)
/-- SL.point -/
def ck_c74 : ck_C := (30, 101, [.inr (0, 0), .inl ((-2147483648), 2147483647), .inl ((-2147483648), 2147483647)], [((0, 1), .inr (0, 1)), ((1, 1), .inl (0, 0))], [(0, 15)], [(some (.inl ((-1), (-1))), [((-2147483648), 2147483647), ((-2147483648), (-1))], [((0, 15), .inl ((-1), (-1)))], 101), (some (.inl ((-1), (-1))), [((-2147483648), 2147483647), (1000, 2147483647)], [((0, 15), .inl ((-1), (-1)))], 101), (some (.inl ((-2), (-2))), [((-2147483648), (-1)), (0, 999)], [((0, 15), .inl ((-2), (-2)))], 101), (some (.inl ((-2), (-2))), [(0, 2147483647), (0, 999)], [((0, 15), .inl ((-2), (-2)))], 101)], 2, 43, 0, 0)
def ck_h74 : List ck_Hd := []
set_option maxRecDepth 100000 in
theorem ck_k74 (l : Launch) (D : va_G) (st : Nat → Nat) : ck_Mt l D st ck_c74 := ck_sound (T := ck_T0) (cs := [ck_c47, ck_c19, ck_c49, ck_c50]) (hs := ck_h74) (sp := []) (fuel := 38) l ck_TSgood ck_okCl (ck_own (M0 := ck_m30) rfl rfl ck_okT0) (ck_cons (ck_k47 l D st) (ck_cons (ck_k19 l D st) (ck_cons (ck_k49 l D st) (ck_cons (ck_k50 l D st) ck_nil)))) (by decide +kernel)
/-- SLModel.point -/
def ck_c75 : ck_C := (31, 101, [.inr (0, 77), .inl ((-2147483648), 2147483647), .inl ((-2147483648), (-1))], [], [(77, 1)], [(some (.inl ((-1), (-1))), [((-2147483648), 2147483647), ((-2147483648), (-1))], [((77, 1), .inl ((-1), (-1)))], 101)], 1, 22, 0, 0)
def ck_h75 : List ck_Hd := []
set_option maxRecDepth 100000 in
theorem ck_k75 (l : Launch) (D : va_G) (st : Nat → Nat) : ck_Mt l D st ck_c75 := ck_sound (T := ck_T13) (cs := [ck_c62, ck_c26]) (hs := ck_h75) (sp := []) (fuel := 33) l ck_TSgood ck_okCl (ck_own (M0 := ck_m31) rfl rfl ck_okT13) (ck_cons (ck_k62 l D st) (ck_cons (ck_k26 l D st) ck_nil)) (by decide +kernel)
/-- SLModel.point -/
def ck_c76 : ck_C := (31, 101, [.inr (0, 77), .inl ((-2147483648), 2147483647), .inl (1000, 2147483647)], [], [(77, 1)], [(some (.inl ((-1), (-1))), [((-2147483648), 2147483647), (1000, 2147483647)], [((77, 1), .inl ((-1), (-1)))], 101)], 1, 22, 0, 0)
def ck_h76 : List ck_Hd := []
set_option maxRecDepth 100000 in
theorem ck_k76 (l : Launch) (D : va_G) (st : Nat → Nat) : ck_Mt l D st ck_c76 := ck_sound (T := ck_T13) (cs := [ck_c64, ck_c26]) (hs := ck_h76) (sp := []) (fuel := 33) l ck_TSgood ck_okCl (ck_own (M0 := ck_m31) rfl rfl ck_okT13) (ck_cons (ck_k64 l D st) (ck_cons (ck_k26 l D st) ck_nil)) (by decide +kernel)
/-- SLModel.point -/
def ck_c77 : ck_C := (31, 101, [.inr (0, 77), .inl ((-2147483648), (-1)), .inl (0, 999)], [((77, 2), .inr (0, 78)), ((78, 1293), .inl (0, 0))], [(77, 1)], [(some (.inl ((-2), (-2))), [((-2147483648), (-1)), (0, 999)], [((77, 1), .inl ((-2), (-2)))], 101)], 2, 43, 0, 0)
def ck_h77 : List ck_Hd := []
set_option maxRecDepth 100000 in
theorem ck_k77 (l : Launch) (D : va_G) (st : Nat → Nat) : ck_Mt l D st ck_c77 := ck_sound (T := ck_T13) (cs := [ck_c66, ck_c68, ck_c69]) (hs := ck_h77) (sp := []) (fuel := 37) l ck_TSgood ck_okCl (ck_own (M0 := ck_m31) rfl rfl ck_okT13) (ck_cons (ck_k66 l D st) (ck_cons (ck_k68 l D st) (ck_cons (ck_k69 l D st) ck_nil))) (by decide +kernel)
/-- SLModel.point -/
def ck_c78 : ck_C := (31, 101, [.inr (0, 77), .inl (0, 2147483647), .inl (0, 999)], [((77, 2), .inr (0, 78)), ((78, 1293), .inl (0, 0))], [(77, 1)], [(some (.inl ((-2), (-2))), [(0, 2147483647), (0, 999)], [((77, 1), .inl ((-2), (-2)))], 101)], 2, 43, 0, 0)
def ck_h78 : List ck_Hd := []
set_option maxRecDepth 100000 in
theorem ck_k78 (l : Launch) (D : va_G) (st : Nat → Nat) : ck_Mt l D st ck_c78 := ck_sound (T := ck_T13) (cs := [ck_c66, ck_c72, ck_c69]) (hs := ck_h78) (sp := []) (fuel := 37) l ck_TSgood ck_okCl (ck_own (M0 := ck_m31) rfl rfl ck_okT13) (ck_cons (ck_k66 l D st) (ck_cons (ck_k72 l D st) (ck_cons (ck_k69 l D st) ck_nil))) (by decide +kernel)
/-- SL.within -/
def ck_c79 : ck_C := (16, 101, [.inl ((-2147483648), 2147483647), .inl (0, 0), .inl (1000, 1000)], [], [], [(some (.inl (0, 0)), [((-2147483648), (-1)), (0, 0), (1000, 1000)], [], 101), (some (.inl (0, 0)), [(1001, 2147483647), (0, 0), (1000, 1000)], [], 101), (some (.inl (1, 1)), [(0, 1000), (0, 0), (1000, 1000)], [], 101)], 0, 0, 0, 0)
def ck_h79 : List ck_Hd := []
set_option maxRecDepth 100000 in
theorem ck_k79 (l : Launch) (D : va_G) (st : Nat → Nat) : ck_Mt l D st ck_c79 := ck_sound (T := ck_T0) (cs := []) (hs := ck_h79) (sp := []) (fuel := 33) l ck_TSgood ck_okCl (ck_own (M0 := ck_m16) rfl rfl ck_okT0) ck_nil (by decide +kernel)
