/-- java/util/Arrays.fill -/
def ck_c320 : ck_C := (9, 101, [.inr (0, 67), .inl (0, 0)], [((67, 0), .inl (0, 0))], [(67, 0)], [(none, [(0, 0)], [((67, 0), .inl (0, 0))], 101)], 0, 0, 0, 0)
def ck_h320 : List ck_Hd := [(5, ([(0, 0, 0, (0, 0, 0)), (0, 12, 0, (0, 0, 0))], [(3, .inl (0, 0, 12)), (2, .inl (1, 1, 0)), (0, .inr (0, 67)), (1, .inl (0, 1, 0))], [], [((67, 0), .inl (0, 0))], 101, 0, 0), 1, 0)]
set_option maxRecDepth 100000 in
theorem ck_k320 (l : Launch) (D : va_G) (st : Nat → Nat) : ck_Mt l D st ck_c320 := ck_sound (T := ck_T15) (cs := []) (hs := ck_h320) (sp := []) (fuel := 39) l ck_TSgood ck_okCl (ck_own (M0 := ck_m9) rfl rfl ck_okT15) ck_nil (by decide +kernel)
/-- java/util/Arrays.fill -/
def ck_c321 : ck_C := (9, 101, [.inr (0, 68), .inl (0, 0)], [((68, 0), .inl (0, 0))], [(68, 0)], [(none, [(0, 0)], [((68, 0), .inl (0, 0))], 101)], 0, 0, 0, 0)
def ck_h321 : List ck_Hd := [(5, ([(0, 0, 0, (0, 0, 0)), (0, 12, 0, (0, 0, 0))], [(3, .inl (0, 0, 12)), (2, .inl (1, 1, 0)), (0, .inr (0, 68)), (1, .inl (0, 1, 0))], [], [((68, 0), .inl (0, 0))], 101, 0, 0), 1, 0)]
set_option maxRecDepth 100000 in
theorem ck_k321 (l : Launch) (D : va_G) (st : Nat → Nat) : ck_Mt l D st ck_c321 := ck_sound (T := ck_T15) (cs := []) (hs := ck_h321) (sp := []) (fuel := 39) l ck_TSgood ck_okCl (ck_own (M0 := ck_m9) rfl rfl ck_okT15) ck_nil (by decide +kernel)
/-- SL$Lineup.byGrooves -/
def ck_c322 : ck_C := (135, 101, [.inr (0, 65)], [((1, 1), .inl (0, 0)), ((1, 15), .inl (0, 0)), ((65, 1), .inr (0, 1)), ((65, 4), .inr (0, 67)), ((65, 5), .inr (0, 68)), ((67, 0), .inl (0, 0)), ((68, 0), .inl (0, 0))], [(67, 0), (68, 0)], [(none, [], [((67, 0), .inl (0, 0)), ((68, 0), .inl (0, 0))], 101)], 1, 23, 0, 0)
def ck_h322 : List ck_Hd := [(18, ([], [(1, .inl (0, 0, 0)), (0, .inr (0, 65))], [], [((1, 1), .inl (0, 0)), ((1, 15), .inl (0, 0)), ((65, 1), .inr (0, 1)), ((65, 4), .inr (0, 67)), ((65, 5), .inr (0, 68)), ((67, 0), .inl (0, 0)), ((68, 0), .inl (0, 0))], 101, 0, 0), 0, 2), (109, ([], [(1, .inl (0, 0, 0)), (0, .inr (0, 65))], [], [((1, 1), .inl (0, 0)), ((1, 15), .inl (0, 0)), ((65, 1), .inr (0, 1)), ((65, 4), .inr (0, 67)), ((65, 5), .inr (0, 68)), ((67, 0), .inl (0, 0)), ((68, 0), .inl (0, 0))], 101, 0, 0), 0, 2)]
set_option maxRecDepth 100000 in
theorem ck_k322 (l : Launch) (D : va_G) (st : Nat → Nat) : ck_Mt l D st ck_c322 := ck_sound (T := ck_T2) (cs := [ck_c320, ck_c321, ck_c317]) (hs := ck_h322) (sp := []) (fuel := 49) l ck_TSgood ck_okCl (ck_own (M0 := ck_m135) rfl rfl ck_okT2) (ck_cons (ck_k320 l D st) (ck_cons (ck_k321 l D st) (ck_cons (ck_k317 l D st) ck_nil))) (by decide +kernel)
/-- SL.otherwise -/
def ck_c323 : ck_C := (131, 101, [.inr (0, 0), .inl ((-2147483648), 2147483647)], [((0, 8), .inr (0, 59)), ((0, 9), .inr (0, 65)), ((1, 1), .inl (0, 0)), ((1, 15), .inl (0, 0)), ((65, 1), .inr (0, 1)), ((65, 4), .inr (0, 67)), ((65, 5), .inr (0, 68)), ((67, 0), .inl (0, 0)), ((68, 0), .inl (0, 0))], [(67, 0), (68, 0)], [(some (.inl ((-1), (-1))), [((-2147483648), (-1))], [((67, 0), .inl (0, 0)), ((68, 0), .inl (0, 0))], 101), (some (.inl ((-1), (-1))), [(101, 2147483647)], [((67, 0), .inl (0, 0)), ((68, 0), .inl (0, 0))], 101), (some (.inl (0, 0)), [(1, 100)], [((67, 0), .inl (0, 0)), ((68, 0), .inl (0, 0))], 101), (some (.inl (0, 0)), [(0, 0)], [((67, 0), .inl (0, 0)), ((68, 0), .inl (0, 0))], 101)], 2, 45, 0, 0)
def ck_h323 : List ck_Hd := []
set_option maxRecDepth 100000 in
theorem ck_k323 (l : Launch) (D : va_G) (st : Nat → Nat) : ck_Mt l D st ck_c323 := ck_sound (T := ck_T0) (cs := [ck_c115, ck_c318, ck_c319, ck_c322]) (hs := ck_h323) (sp := []) (fuel := 41) l ck_TSgood ck_okCl (ck_own (M0 := ck_m131) rfl rfl ck_okT0) (ck_cons (ck_k115 l D st) (ck_cons (ck_k318 l D st) (ck_cons (ck_k319 l D st) (ck_cons (ck_k322 l D st) ck_nil)))) (by decide +kernel)
/-- SLModel.otherwise -/
def ck_c324 : ck_C := (136, 101, [.inr (0, 77), .inl ((-2147483648), (-1))], [], [], [(some (.inl ((-1), (-1))), [((-2147483648), (-1))], [], 101)], 1, 22, 0, 0)
def ck_h324 : List ck_Hd := []
set_option maxRecDepth 100000 in
theorem ck_k324 (l : Launch) (D : va_G) (st : Nat → Nat) : ck_Mt l D st ck_c324 := ck_sound (T := ck_T13) (cs := [ck_c119]) (hs := ck_h324) (sp := []) (fuel := 31) l ck_TSgood ck_okCl (ck_own (M0 := ck_m136) rfl rfl ck_okT13) (ck_cons (ck_k119 l D st) ck_nil) (by decide +kernel)
/-- SLModel.otherwise -/
def ck_c325 : ck_C := (136, 101, [.inr (0, 77), .inl (101, 2147483647)], [], [], [(some (.inl ((-1), (-1))), [(101, 2147483647)], [], 101)], 1, 22, 0, 0)
def ck_h325 : List ck_Hd := []
set_option maxRecDepth 100000 in
theorem ck_k325 (l : Launch) (D : va_G) (st : Nat → Nat) : ck_Mt l D st ck_c325 := ck_sound (T := ck_T13) (cs := [ck_c121]) (hs := ck_h325) (sp := []) (fuel := 31) l ck_TSgood ck_okCl (ck_own (M0 := ck_m136) rfl rfl ck_okT13) (ck_cons (ck_k121 l D st) ck_nil) (by decide +kernel)
/-- SLModel.in -/
def ck_c326 : ck_C := (21, 101, [.inl (1, 100), .inl (0, 0), .inl (100, 100)], [], [], [(some (.inl (1, 1)), [(1, 100), (0, 0), (100, 100)], [], 101)], 0, 0, 0, 0)
def ck_h326 : List ck_Hd := []
set_option maxRecDepth 100000 in
theorem ck_k326 (l : Launch) (D : va_G) (st : Nat → Nat) : ck_Mt l D st ck_c326 := ck_sound (T := ck_T13) (cs := []) (hs := ck_h326) (sp := []) (fuel := 33) l ck_TSgood ck_okCl (ck_own (M0 := ck_m21) rfl rfl ck_okT13) ck_nil (by decide +kernel)
/-- SLModel.otherwise -/
def ck_c327 : ck_C := (136, 101, [.inr (0, 77), .inl (1, 100)], [((77, 2), .inr (0, 78)), ((77, 30), .inl ((-1), (-1))), ((78, 1293), .inl (0, 0))], [], [(some (.inl (0, 0)), [(1, 100)], [], 101)], 2, 42, 0, 0)
def ck_h327 : List ck_Hd := [(32, ([(1, 100, 0, (0, 0, 0))], [(3, .inl (0, 0, 0)), (2, .inl (0, 0, 0)), (0, .inr (0, 77)), (1, .inl (0, 1, 0))], [], [((77, 2), .inr (0, 78)), ((77, 30), .inl ((-1), (-1))), ((78, 1293), .inl (0, 0))], 101, 0, 0), 0, 2)]
set_option maxRecDepth 100000 in
theorem ck_k327 (l : Launch) (D : va_G) (st : Nat → Nat) : ck_Mt l D st ck_c327 := ck_sound (T := ck_T13) (cs := [ck_c326, ck_c308]) (hs := ck_h327) (sp := []) (fuel := 44) l ck_TSgood ck_okCl (ck_own (M0 := ck_m136) rfl rfl ck_okT13) (ck_cons (ck_k326 l D st) (ck_cons (ck_k308 l D st) ck_nil)) (by decide +kernel)
/-- SLModel.in -/
def ck_c328 : ck_C := (21, 101, [.inl (0, 0), .inl (0, 0), .inl (100, 100)], [], [], [(some (.inl (1, 1)), [(0, 0), (0, 0), (100, 100)], [], 101)], 0, 0, 0, 0)
def ck_h328 : List ck_Hd := []
set_option maxRecDepth 100000 in
theorem ck_k328 (l : Launch) (D : va_G) (st : Nat → Nat) : ck_Mt l D st ck_c328 := ck_sound (T := ck_T13) (cs := []) (hs := ck_h328) (sp := []) (fuel := 33) l ck_TSgood ck_okCl (ck_own (M0 := ck_m21) rfl rfl ck_okT13) ck_nil (by decide +kernel)
/-- SLModel.otherwise -/
def ck_c329 : ck_C := (136, 101, [.inr (0, 77), .inl (0, 0)], [((77, 2), .inr (0, 78)), ((77, 30), .inl ((-1), (-1))), ((78, 1293), .inl (0, 0))], [], [(some (.inl (0, 0)), [(0, 0)], [], 101)], 2, 44, 0, 0)
def ck_h329 : List ck_Hd := [(32, ([(0, 0, 0, (0, 0, 0))], [(3, .inl (0, 0, 0)), (2, .inl (0, 0, 0)), (0, .inr (0, 77)), (1, .inl (0, 1, 0))], [], [((77, 2), .inr (0, 78)), ((77, 30), .inl ((-1), (-1))), ((78, 1293), .inl (0, 0))], 101, 0, 0), 0, 2)]
set_option maxRecDepth 100000 in
theorem ck_k329 (l : Launch) (D : va_G) (st : Nat → Nat) : ck_Mt l D st ck_c329 := ck_sound (T := ck_T13) (cs := [ck_c328, ck_c314]) (hs := ck_h329) (sp := []) (fuel := 44) l ck_TSgood ck_okCl (ck_own (M0 := ck_m136) rfl rfl ck_okT13) (ck_cons (ck_k328 l D st) (ck_cons (ck_k314 l D st) ck_nil)) (by decide +kernel)
/-- SL.shapes -/
def ck_c330 : ck_C := (137, 101, [.inr (0, 0), .inl ((-2147483648), 2147483647), .inl ((-2147483648), 2147483647)], [((0, 1), .inr (0, 1)), ((1, 1), .inl (0, 0))], [], [(some (.inl ((-1), (-1))), [((-2147483648), (-1)), ((-2147483648), 2147483647)], [], 101), (some (.inl ((-1), (-1))), [(0, 2147483647), ((-2147483648), 2147483647)], [], 101)], 2, 43, 0, 0)
def ck_h330 : List ck_Hd := []
set_option maxRecDepth 100000 in
theorem ck_k330 (l : Launch) (D : va_G) (st : Nat → Nat) : ck_Mt l D st ck_c330 := ck_sound (T := ck_T0) (cs := [ck_c49]) (hs := ck_h330) (sp := []) (fuel := 31) l ck_TSgood ck_okCl (ck_own (M0 := ck_m137) rfl rfl ck_okT0) (ck_cons (ck_k49 l D st) ck_nil) (by decide +kernel)
/-- SLModel.shapes -/
def ck_c331 : ck_C := (138, 101, [.inr (0, 77), .inl ((-2147483648), (-1)), .inl ((-2147483648), 2147483647)], [((77, 2), .inr (0, 78)), ((78, 1293), .inl (0, 0))], [], [(some (.inl ((-1), (-1))), [((-2147483648), (-1)), ((-2147483648), 2147483647)], [], 101)], 2, 43, 0, 0)
def ck_h331 : List ck_Hd := []
set_option maxRecDepth 100000 in
theorem ck_k331 (l : Launch) (D : va_G) (st : Nat → Nat) : ck_Mt l D st ck_c331 := ck_sound (T := ck_T13) (cs := [ck_c68]) (hs := ck_h331) (sp := []) (fuel := 30) l ck_TSgood ck_okCl (ck_own (M0 := ck_m138) rfl rfl ck_okT13) (ck_cons (ck_k68 l D st) ck_nil) (by decide +kernel)
/-- SLModel.shapes -/
def ck_c332 : ck_C := (138, 101, [.inr (0, 77), .inl (0, 2147483647), .inl ((-2147483648), 2147483647)], [((77, 2), .inr (0, 78)), ((78, 1293), .inl (0, 0))], [], [(some (.inl ((-1), (-1))), [(0, 2147483647), ((-2147483648), 2147483647)], [], 101)], 2, 43, 0, 0)
def ck_h332 : List ck_Hd := []
set_option maxRecDepth 100000 in
theorem ck_k332 (l : Launch) (D : va_G) (st : Nat → Nat) : ck_Mt l D st ck_c332 := ck_sound (T := ck_T13) (cs := [ck_c72]) (hs := ck_h332) (sp := []) (fuel := 30) l ck_TSgood ck_okCl (ck_own (M0 := ck_m138) rfl rfl ck_okT13) (ck_cons (ck_k72 l D st) ck_nil) (by decide +kernel)
/-- SL.slips -/
def ck_c333 : ck_C := (139, 101, [.inr (0, 0), .inl ((-2147483648), 2147483647), .inl ((-2147483648), 2147483647)], [((0, 1), .inr (0, 1)), ((1, 15), .inl (0, 0))], [], [(some (.inl ((-1), (-1))), [((-2147483648), (-1)), ((-2147483648), 2147483647)], [], 101), (some (.inl ((-1), (-1))), [(4, 2147483647), ((-2147483648), 2147483647)], [], 101), (some (.inl ((-1), (-1))), [(0, 3), ((-2147483648), (-1))], [], 101), (some (.inl ((-1), (-1))), [(0, 3), (2, 2147483647)], [], 101), (some (.inl (0, 0)), [(0, 3), (0, 1)], [], 101)], 2, 42, 0, 0)
def ck_h333 : List ck_Hd := [(23, ([(0, 3, 0, (0, 0, 0)), (0, 1, 0, (0, 0, 0))], [(4, .inl (0, 0, 0)), (3, .inl (0, 0, 0)), (0, .inr (0, 0)), (1, .inl (0, 1, 0)), (2, .inl (1, 1, 0))], [], [((0, 1), .inr (0, 1)), ((1, 15), .inl (0, 0))], 101, 0, 0), 0, 2)]
set_option maxRecDepth 100000 in
theorem ck_k333 (l : Launch) (D : va_G) (st : Nat → Nat) : ck_Mt l D st ck_c333 := ck_sound (T := ck_T0) (cs := [ck_c114, ck_c281]) (hs := ck_h333) (sp := []) (fuel := 43) l ck_TSgood ck_okCl (ck_own (M0 := ck_m139) rfl rfl ck_okT0) (ck_cons (ck_k114 l D st) (ck_cons (ck_k281 l D st) ck_nil)) (by decide +kernel)
/-- SLModel.slips -/
def ck_c334 : ck_C := (140, 101, [.inr (0, 77), .inl ((-2147483648), (-1)), .inl ((-2147483648), 2147483647)], [], [], [(some (.inl ((-1), (-1))), [((-2147483648), (-1)), ((-2147483648), 2147483647)], [], 101)], 1, 22, 0, 0)
def ck_h334 : List ck_Hd := []
set_option maxRecDepth 100000 in
theorem ck_k334 (l : Launch) (D : va_G) (st : Nat → Nat) : ck_Mt l D st ck_c334 := ck_sound (T := ck_T13) (cs := [ck_c57]) (hs := ck_h334) (sp := []) (fuel := 31) l ck_TSgood ck_okCl (ck_own (M0 := ck_m140) rfl rfl ck_okT13) (ck_cons (ck_k57 l D st) ck_nil) (by decide +kernel)
/-- SLModel.slips -/
def ck_c335 : ck_C := (140, 101, [.inr (0, 77), .inl (4, 2147483647), .inl ((-2147483648), 2147483647)], [], [], [(some (.inl ((-1), (-1))), [(4, 2147483647), ((-2147483648), 2147483647)], [], 101)], 1, 22, 0, 0)
def ck_h335 : List ck_Hd := []
set_option maxRecDepth 100000 in
theorem ck_k335 (l : Launch) (D : va_G) (st : Nat → Nat) : ck_Mt l D st ck_c335 := ck_sound (T := ck_T13) (cs := [ck_c59]) (hs := ck_h335) (sp := []) (fuel := 31) l ck_TSgood ck_okCl (ck_own (M0 := ck_m140) rfl rfl ck_okT13) (ck_cons (ck_k59 l D st) ck_nil) (by decide +kernel)
/-- SLModel.slips -/
def ck_c336 : ck_C := (140, 101, [.inr (0, 77), .inl (0, 3), .inl ((-2147483648), (-1))], [], [], [(some (.inl ((-1), (-1))), [(0, 3), ((-2147483648), (-1))], [], 101)], 1, 22, 0, 0)
def ck_h336 : List ck_Hd := []
set_option maxRecDepth 100000 in
theorem ck_k336 (l : Launch) (D : va_G) (st : Nat → Nat) : ck_Mt l D st ck_c336 := ck_sound (T := ck_T13) (cs := [ck_c61, ck_c295]) (hs := ck_h336) (sp := []) (fuel := 36) l ck_TSgood ck_okCl (ck_own (M0 := ck_m140) rfl rfl ck_okT13) (ck_cons (ck_k61 l D st) (ck_cons (ck_k295 l D st) ck_nil)) (by decide +kernel)
/-- SLModel.slips -/
def ck_c337 : ck_C := (140, 101, [.inr (0, 77), .inl (0, 3), .inl (2, 2147483647)], [], [], [(some (.inl ((-1), (-1))), [(0, 3), (2, 2147483647)], [], 101)], 1, 22, 0, 0)
def ck_h337 : List ck_Hd := []
set_option maxRecDepth 100000 in
theorem ck_k337 (l : Launch) (D : va_G) (st : Nat → Nat) : ck_Mt l D st ck_c337 := ck_sound (T := ck_T13) (cs := [ck_c61, ck_c297]) (hs := ck_h337) (sp := []) (fuel := 36) l ck_TSgood ck_okCl (ck_own (M0 := ck_m140) rfl rfl ck_okT13) (ck_cons (ck_k61 l D st) (ck_cons (ck_k297 l D st) ck_nil)) (by decide +kernel)
/-- SLModel.slips -/
def ck_c338 : ck_C := (140, 101, [.inr (0, 77), .inl (0, 3), .inl (0, 1)], [((77, 2), .inr (0, 78)), ((78, 1294), .inl (0, 0))], [], [(some (.inl (0, 0)), [(0, 3), (0, 1)], [], 101)], 1, 22, 0, 0)
def ck_h338 : List ck_Hd := [(25, ([(0, 3, 0, (0, 0, 0)), (0, 1, 0, (0, 0, 0))], [(4, .inl (0, 0, 0)), (3, .inl (0, 0, 0)), (0, .inr (0, 77)), (1, .inl (0, 1, 0)), (2, .inl (1, 1, 0))], [], [((77, 2), .inr (0, 78)), ((78, 1294), .inl (0, 0))], 101, 0, 0), 0, 2)]
set_option maxRecDepth 100000 in
theorem ck_k338 (l : Launch) (D : va_G) (st : Nat → Nat) : ck_Mt l D st ck_c338 := ck_sound (T := ck_T13) (cs := [ck_c61, ck_c302]) (hs := ck_h338) (sp := []) (fuel := 46) l ck_TSgood ck_okCl (ck_own (M0 := ck_m140) rfl rfl ck_okT13) (ck_cons (ck_k61 l D st) (ck_cons (ck_k302 l D st) ck_nil)) (by decide +kernel)
/-- SL.glass -/
def ck_c339 : ck_C := (141, 101, [.inr (0, 0), .inl ((-2147483648), 2147483647), .inl ((-2147483648), 2147483647), .inl ((-2147483648), 2147483647)], [((0, 1), .inr (0, 1)), ((1, 1), .inl (0, 0))], [], [(some (.inl ((-1), (-1))), [((-2147483648), (-1)), ((-2147483648), 2147483647), ((-2147483648), 2147483647)], [], 101), (some (.inl ((-1), (-1))), [(0, 2147483647), ((-2147483648), 2147483647), ((-2147483648), 2147483647)], [], 101)], 3, 65, 0, 0)
def ck_h339 : List ck_Hd := []
set_option maxRecDepth 100000 in
theorem ck_k339 (l : Launch) (D : va_G) (st : Nat → Nat) : ck_Mt l D st ck_c339 := ck_sound (T := ck_T0) (cs := [ck_c234]) (hs := ck_h339) (sp := []) (fuel := 31) l ck_TSgood ck_okCl (ck_own (M0 := ck_m141) rfl rfl ck_okT0) (ck_cons (ck_k234 l D st) ck_nil) (by decide +kernel)
/-- SLModel.glass -/
def ck_c340 : ck_C := (142, 101, [.inr (0, 77), .inl ((-2147483648), (-1)), .inl ((-2147483648), 2147483647), .inl ((-2147483648), 2147483647)], [((77, 2), .inr (0, 78)), ((78, 1293), .inl (0, 0))], [], [(some (.inl ((-1), (-1))), [((-2147483648), (-1)), ((-2147483648), 2147483647), ((-2147483648), 2147483647)], [], 101)], 2, 43, 0, 0)
def ck_h340 : List ck_Hd := []
set_option maxRecDepth 100000 in
theorem ck_k340 (l : Launch) (D : va_G) (st : Nat → Nat) : ck_Mt l D st ck_c340 := ck_sound (T := ck_T13) (cs := [ck_c68]) (hs := ck_h340) (sp := []) (fuel := 30) l ck_TSgood ck_okCl (ck_own (M0 := ck_m142) rfl rfl ck_okT13) (ck_cons (ck_k68 l D st) ck_nil) (by decide +kernel)
/-- SLModel.glass -/
def ck_c341 : ck_C := (142, 101, [.inr (0, 77), .inl (0, 2147483647), .inl ((-2147483648), 2147483647), .inl ((-2147483648), 2147483647)], [((77, 2), .inr (0, 78)), ((78, 1293), .inl (0, 0))], [], [(some (.inl ((-1), (-1))), [(0, 2147483647), ((-2147483648), 2147483647), ((-2147483648), 2147483647)], [], 101)], 2, 43, 0, 0)
def ck_h341 : List ck_Hd := []
set_option maxRecDepth 100000 in
theorem ck_k341 (l : Launch) (D : va_G) (st : Nat → Nat) : ck_Mt l D st ck_c341 := ck_sound (T := ck_T13) (cs := [ck_c72]) (hs := ck_h341) (sp := []) (fuel := 30) l ck_TSgood ck_okCl (ck_own (M0 := ck_m142) rfl rfl ck_okT13) (ck_cons (ck_k72 l D st) ck_nil) (by decide +kernel)
/-- SL.within -/
def ck_c342 : ck_C := (16, 101, [.inl (0, 0), .inl (1, 1), .inl (8, 8)], [], [], [(some (.inl (0, 0)), [(0, 0), (1, 1), (8, 8)], [], 101)], 0, 0, 0, 0)
def ck_h342 : List ck_Hd := []
set_option maxRecDepth 100000 in
theorem ck_k342 (l : Launch) (D : va_G) (st : Nat → Nat) : ck_Mt l D st ck_c342 := ck_sound (T := ck_T0) (cs := []) (hs := ck_h342) (sp := []) (fuel := 29) l ck_TSgood ck_okCl (ck_own (M0 := ck_m16) rfl rfl ck_okT0) ck_nil (by decide +kernel)
/-- SL.called -/
def ck_c343 : ck_C := (143, 101, [.inr (0, 0), .inl ((-2147483648), 2147483647)], [((0, 1), .inr (0, 1)), ((1, 1), .inl (0, 0))], [], [(some (.inl ((-1), (-1))), [((-2147483648), (-1))], [], 101), (some (.inl ((-1), (-1))), [(3, 2147483647)], [], 101), (some (.inl ((-1), (-1))), [(0, 2)], [], 101)], 1, 22, 0, 0)
def ck_h343 : List ck_Hd := []
set_option maxRecDepth 100000 in
theorem ck_k343 (l : Launch) (D : va_G) (st : Nat → Nat) : ck_Mt l D st ck_c343 := ck_sound (T := ck_T0) (cs := [ck_c44, ck_c342]) (hs := ck_h343) (sp := []) (fuel := 38) l ck_TSgood ck_okCl (ck_own (M0 := ck_m143) rfl rfl ck_okT0) (ck_cons (ck_k44 l D st) (ck_cons (ck_k342 l D st) ck_nil)) (by decide +kernel)
/-- SLModel.called -/
def ck_c344 : ck_C := (144, 101, [.inr (0, 77), .inl ((-2147483648), (-1))], [((77, 2), .inr (0, 78)), ((78, 1293), .inl (0, 0))], [], [(some (.inl ((-1), (-1))), [((-2147483648), (-1))], [], 101)], 1, 22, 0, 0)
def ck_h344 : List ck_Hd := []
set_option maxRecDepth 100000 in
theorem ck_k344 (l : Launch) (D : va_G) (st : Nat → Nat) : ck_Mt l D st ck_c344 := ck_sound (T := ck_T13) (cs := [ck_c41, ck_c52]) (hs := ck_h344) (sp := []) (fuel := 34) l ck_TSgood ck_okCl (ck_own (M0 := ck_m144) rfl rfl ck_okT13) (ck_cons (ck_k41 l D st) (ck_cons (ck_k52 l D st) ck_nil)) (by decide +kernel)
/-- SLModel.called -/
def ck_c345 : ck_C := (144, 101, [.inr (0, 77), .inl (3, 2147483647)], [((77, 2), .inr (0, 78)), ((78, 1293), .inl (0, 0))], [], [(some (.inl ((-1), (-1))), [(3, 2147483647)], [], 101)], 1, 22, 0, 0)
def ck_h345 : List ck_Hd := []
set_option maxRecDepth 100000 in
theorem ck_k345 (l : Launch) (D : va_G) (st : Nat → Nat) : ck_Mt l D st ck_c345 := ck_sound (T := ck_T13) (cs := [ck_c41, ck_c54]) (hs := ck_h345) (sp := []) (fuel := 34) l ck_TSgood ck_okCl (ck_own (M0 := ck_m144) rfl rfl ck_okT13) (ck_cons (ck_k41 l D st) (ck_cons (ck_k54 l D st) ck_nil)) (by decide +kernel)
/-- SLModel.in -/
def ck_c346 : ck_C := (21, 101, [.inl (0, 0), .inl (1, 1), .inl (8, 8)], [], [], [(some (.inl (0, 0)), [(0, 0), (1, 1), (8, 8)], [], 101)], 0, 0, 0, 0)
def ck_h346 : List ck_Hd := []
set_option maxRecDepth 100000 in
theorem ck_k346 (l : Launch) (D : va_G) (st : Nat → Nat) : ck_Mt l D st ck_c346 := ck_sound (T := ck_T13) (cs := []) (hs := ck_h346) (sp := []) (fuel := 29) l ck_TSgood ck_okCl (ck_own (M0 := ck_m21) rfl rfl ck_okT13) ck_nil (by decide +kernel)
/-- SLModel.called -/
def ck_c347 : ck_C := (144, 101, [.inr (0, 77), .inl (0, 2)], [((77, 2), .inr (0, 78)), ((78, 1293), .inl (0, 0))], [], [(some (.inl ((-1), (-1))), [(0, 2)], [], 101)], 1, 22, 0, 0)
def ck_h347 : List ck_Hd := []
set_option maxRecDepth 100000 in
theorem ck_k347 (l : Launch) (D : va_G) (st : Nat → Nat) : ck_Mt l D st ck_c347 := ck_sound (T := ck_T13) (cs := [ck_c41, ck_c56, ck_c346]) (hs := ck_h347) (sp := []) (fuel := 39) l ck_TSgood ck_okCl (ck_own (M0 := ck_m144) rfl rfl ck_okT13) (ck_cons (ck_k41 l D st) (ck_cons (ck_k56 l D st) (ck_cons (ck_k346 l D st) ck_nil))) (by decide +kernel)
/-- SL.lose -/
def ck_c348 : ck_C := (145, 101, [.inr (0, 0)], [((0, 1), .inr (0, 1)), ((1, 15), .inl (0, 0))], [], [(some (.inl (0, 0)), [], [], 101)], 0, 0, 0, 0)
def ck_h348 : List ck_Hd := [(4, ([], [(2, .inl (0, 0, 0)), (1, .inl (0, 0, 0)), (0, .inr (0, 0))], [], [((0, 1), .inr (0, 1)), ((1, 15), .inl (0, 0))], 101, 0, 0), 0, 2)]
set_option maxRecDepth 100000 in
theorem ck_k348 (l : Launch) (D : va_G) (st : Nat → Nat) : ck_Mt l D st ck_c348 := ck_sound (T := ck_T0) (cs := []) (hs := ck_h348) (sp := []) (fuel := 35) l ck_TSgood ck_okCl (ck_own (M0 := ck_m145) rfl rfl ck_okT0) ck_nil (by decide +kernel)
/-- SLModel.lose -/
def ck_c349 : ck_C := (146, 101, [.inr (0, 77)], [((77, 2), .inr (0, 78)), ((78, 1294), .inl (0, 0))], [], [(some (.inl (0, 0)), [], [], 101)], 0, 0, 0, 0)
def ck_h349 : List ck_Hd := [(4, ([], [(2, .inl (0, 0, 0)), (1, .inl (0, 0, 0)), (0, .inr (0, 77))], [], [((77, 2), .inr (0, 78)), ((78, 1294), .inl (0, 0))], 101, 0, 0), 0, 2)]
set_option maxRecDepth 100000 in
theorem ck_k349 (l : Launch) (D : va_G) (st : Nat → Nat) : ck_Mt l D st ck_c349 := ck_sound (T := ck_T13) (cs := []) (hs := ck_h349) (sp := []) (fuel := 36) l ck_TSgood ck_okCl (ck_own (M0 := ck_m146) rfl rfl ck_okT13) ck_nil (by decide +kernel)
/-- SL.within -/
def ck_c350 : ck_C := (16, 101, [.inl ((-2147483648), 0), .inl (0, 0), .inl (1, 1)], [], [], [(some (.inl (0, 0)), [((-2147483648), (-1)), (0, 0), (1, 1)], [], 101), (some (.inl (1, 1)), [(0, 0), (0, 0), (1, 1)], [], 101)], 0, 0, 0, 0)
def ck_h350 : List ck_Hd := []
set_option maxRecDepth 100000 in
theorem ck_k350 (l : Launch) (D : va_G) (st : Nat → Nat) : ck_Mt l D st ck_c350 := ck_sound (T := ck_T0) (cs := []) (hs := ck_h350) (sp := []) (fuel := 33) l ck_TSgood ck_okCl (ck_own (M0 := ck_m16) rfl rfl ck_okT0) ck_nil (by decide +kernel)
/-- SL$Bench.copyRow -/
def ck_c351 : ck_C := (149, 101, [.inr (0, 2), .inr (0, 17)], [((2, 0), .inl (0, 0)), ((17, 0), .inl (0, 0))], [(17, 0)], [(none, [], [((17, 0), .inl (0, 0))], 101)], 1, 41, 0, 0)
def ck_h351 : List ck_Hd := []
set_option maxRecDepth 100000 in
theorem ck_k351 (l : Launch) (D : va_G) (st : Nat → Nat) : ck_Mt l D st ck_c351 := ck_sound (T := ck_T1) (cs := []) (hs := ck_h351) (sp := []) (fuel := 35) l ck_TSgood ck_okCl (ck_own (M0 := ck_m149) rfl rfl ck_okT1) ck_nil (by decide +kernel)
/-- SL$Bench.copyRow -/
def ck_c352 : ck_C := (149, 101, [.inr (0, 3), .inr (0, 18)], [((3, 0), .inl (0, 0)), ((18, 0), .inl (0, 0))], [(18, 0)], [(none, [], [((18, 0), .inl (0, 0))], 101)], 1, 41, 0, 0)
def ck_h352 : List ck_Hd := []
set_option maxRecDepth 100000 in
theorem ck_k352 (l : Launch) (D : va_G) (st : Nat → Nat) : ck_Mt l D st ck_c352 := ck_sound (T := ck_T1) (cs := []) (hs := ck_h352) (sp := []) (fuel := 35) l ck_TSgood ck_okCl (ck_own (M0 := ck_m149) rfl rfl ck_okT1) ck_nil (by decide +kernel)
/-- SL$Bench.copyRow -/
def ck_c353 : ck_C := (149, 101, [.inr (0, 4), .inr (0, 19)], [((4, 0), .inl (0, 0)), ((19, 0), .inl (0, 0))], [(19, 0)], [(none, [], [((19, 0), .inl (0, 0))], 101)], 1, 41, 0, 0)
def ck_h353 : List ck_Hd := []
set_option maxRecDepth 100000 in
theorem ck_k353 (l : Launch) (D : va_G) (st : Nat → Nat) : ck_Mt l D st ck_c353 := ck_sound (T := ck_T1) (cs := []) (hs := ck_h353) (sp := []) (fuel := 35) l ck_TSgood ck_okCl (ck_own (M0 := ck_m149) rfl rfl ck_okT1) ck_nil (by decide +kernel)
/-- SL$Bench.copyRow -/
def ck_c354 : ck_C := (149, 101, [.inr (0, 5), .inr (0, 20)], [((5, 0), .inl (0, 0)), ((20, 0), .inl (0, 0))], [(20, 0)], [(none, [], [((20, 0), .inl (0, 0))], 101)], 1, 41, 0, 0)
def ck_h354 : List ck_Hd := []
set_option maxRecDepth 100000 in
theorem ck_k354 (l : Launch) (D : va_G) (st : Nat → Nat) : ck_Mt l D st ck_c354 := ck_sound (T := ck_T1) (cs := []) (hs := ck_h354) (sp := []) (fuel := 35) l ck_TSgood ck_okCl (ck_own (M0 := ck_m149) rfl rfl ck_okT1) ck_nil (by decide +kernel)
/-- SL$Bench.copyRow -/
def ck_c355 : ck_C := (149, 101, [.inr (0, 6), .inr (0, 21)], [((6, 0), .inl (0, 0)), ((21, 0), .inl (0, 0))], [(21, 0)], [(none, [], [((21, 0), .inl (0, 0))], 101)], 1, 41, 0, 0)
def ck_h355 : List ck_Hd := []
set_option maxRecDepth 100000 in
theorem ck_k355 (l : Launch) (D : va_G) (st : Nat → Nat) : ck_Mt l D st ck_c355 := ck_sound (T := ck_T1) (cs := []) (hs := ck_h355) (sp := []) (fuel := 35) l ck_TSgood ck_okCl (ck_own (M0 := ck_m149) rfl rfl ck_okT1) ck_nil (by decide +kernel)
/-- SL$Bench.copyRow -/
def ck_c356 : ck_C := (149, 101, [.inr (0, 7), .inr (0, 22)], [((7, 0), .inl (0, 0)), ((22, 0), .inl (0, 0))], [(22, 0)], [(none, [], [((22, 0), .inl (0, 0))], 101)], 1, 41, 0, 0)
def ck_h356 : List ck_Hd := []
set_option maxRecDepth 100000 in
theorem ck_k356 (l : Launch) (D : va_G) (st : Nat → Nat) : ck_Mt l D st ck_c356 := ck_sound (T := ck_T1) (cs := []) (hs := ck_h356) (sp := []) (fuel := 35) l ck_TSgood ck_okCl (ck_own (M0 := ck_m149) rfl rfl ck_okT1) ck_nil (by decide +kernel)
/-- SL$Bench.copyRow -/
def ck_c357 : ck_C := (149, 101, [.inr (0, 8), .inr (0, 23)], [((8, 0), .inl (0, 0)), ((23, 0), .inl (0, 0))], [(23, 0)], [(none, [], [((23, 0), .inl (0, 0))], 101)], 1, 41, 0, 0)
def ck_h357 : List ck_Hd := []
set_option maxRecDepth 100000 in
theorem ck_k357 (l : Launch) (D : va_G) (st : Nat → Nat) : ck_Mt l D st ck_c357 := ck_sound (T := ck_T1) (cs := []) (hs := ck_h357) (sp := []) (fuel := 35) l ck_TSgood ck_okCl (ck_own (M0 := ck_m149) rfl rfl ck_okT1) ck_nil (by decide +kernel)
/-- SL$Bench.copyRow -/
def ck_c358 : ck_C := (149, 101, [.inr (0, 9), .inr (0, 24)], [((9, 0), .inl (0, 0)), ((24, 0), .inl (0, 0))], [(24, 0)], [(none, [], [((24, 0), .inl (0, 0))], 101)], 1, 41, 0, 0)
def ck_h358 : List ck_Hd := []
set_option maxRecDepth 100000 in
theorem ck_k358 (l : Launch) (D : va_G) (st : Nat → Nat) : ck_Mt l D st ck_c358 := ck_sound (T := ck_T1) (cs := []) (hs := ck_h358) (sp := []) (fuel := 35) l ck_TSgood ck_okCl (ck_own (M0 := ck_m149) rfl rfl ck_okT1) ck_nil (by decide +kernel)
/-- SL$Bench.copyRow -/
def ck_c359 : ck_C := (149, 101, [.inr (0, 14), .inr (0, 29)], [((14, 0), .inl (0, 0)), ((29, 0), .inl (0, 0))], [(29, 0)], [(none, [], [((29, 0), .inl (0, 0))], 101)], 1, 41, 0, 0)
def ck_h359 : List ck_Hd := []
set_option maxRecDepth 100000 in
theorem ck_k359 (l : Launch) (D : va_G) (st : Nat → Nat) : ck_Mt l D st ck_c359 := ck_sound (T := ck_T1) (cs := []) (hs := ck_h359) (sp := []) (fuel := 35) l ck_TSgood ck_okCl (ck_own (M0 := ck_m149) rfl rfl ck_okT1) ck_nil (by decide +kernel)
/-- SL$Bench.copyFrom -/
def ck_c360 : ck_C := (148, 101, [.inr (0, 16), .inr (0, 1)], [((1, 1), .inl (0, 0)), ((1, 2), .inr (0, 2)), ((1, 3), .inr (0, 3)), ((1, 4), .inr (0, 4)), ((1, 5), .inr (0, 5)), ((1, 6), .inr (0, 6)), ((1, 7), .inr (0, 7)), ((1, 8), .inr (0, 8)), ((1, 9), .inr (0, 9)), ((1, 10), .inl (0, 0)), ((1, 11), .inl ((-1), (-1))), ((1, 12), .inl (0, 0)), ((1, 13), .inr (0, 10)), ((1, 15), .inl (0, 0)), ((1, 16), .inr (0, 14)), ((1, 17), .inl (7, 7)), ((1, 18), .inl (15, 15)), ((1, 19), .inl (15, 15)), ((2, 0), .inl (0, 0)), ((3, 0), .inl (0, 0)), ((4, 0), .inl (0, 0)), ((5, 0), .inl (0, 0)), ((6, 0), .inl (0, 0)), ((7, 0), .inl (0, 0)), ((8, 0), .inl (0, 0)), ((9, 0), .inl (0, 0)), ((10, 0), .inr (1, 0)), ((14, 0), .inl (0, 0)), ((16, 2), .inr (0, 17)), ((16, 3), .inr (0, 18)), ((16, 4), .inr (0, 19)), ((16, 5), .inr (0, 20)), ((16, 6), .inr (0, 21)), ((16, 7), .inr (0, 22)), ((16, 8), .inr (0, 23)), ((16, 9), .inr (0, 24)), ((16, 13), .inr (0, 25)), ((16, 16), .inr (0, 29)), ((17, 0), .inl (0, 0)), ((18, 0), .inl (0, 0)), ((19, 0), .inl (0, 0)), ((20, 0), .inl (0, 0)), ((21, 0), .inl (0, 0)), ((22, 0), .inl (0, 0)), ((23, 0), .inl (0, 0)), ((24, 0), .inl (0, 0)), ((25, 0), .inr (1, 0)), ((29, 0), .inl (0, 0))], [(16, 1), (16, 10), (16, 11), (16, 12), (16, 15), (16, 17), (16, 18), (16, 19), (17, 0), (18, 0), (19, 0), (20, 0), (21, 0), (22, 0), (23, 0), (24, 0), (25, 0), (29, 0)], [(none, [], [((16, 1), .inl (0, 0)), ((16, 10), .inl (0, 0)), ((16, 11), .inl ((-1), (-1))), ((16, 12), .inl (0, 0)), ((16, 15), .inl (0, 0)), ((16, 17), .inl (7, 7)), ((16, 18), .inl (15, 15)), ((16, 19), .inl (15, 15)), ((17, 0), .inl (0, 0)), ((18, 0), .inl (0, 0)), ((19, 0), .inl (0, 0)), ((20, 0), .inl (0, 0)), ((21, 0), .inl (0, 0)), ((22, 0), .inl (0, 0)), ((23, 0), .inl (0, 0)), ((24, 0), .inl (0, 0)), ((25, 0), .inr (1, 0)), ((29, 0), .inl (0, 0))], 101)], 2, 62, 0, 0)
def ck_h360 : List ck_Hd := [(122, ([(0, 10, 0, (0, 0, 0))], [(2, .inl (0, 1, 0)), (0, .inr (0, 16)), (1, .inr (0, 1))], [], [((1, 1), .inl (0, 0)), ((1, 2), .inr (0, 2)), ((1, 3), .inr (0, 3)), ((1, 4), .inr (0, 4)), ((1, 5), .inr (0, 5)), ((1, 6), .inr (0, 6)), ((1, 7), .inr (0, 7)), ((1, 8), .inr (0, 8)), ((1, 9), .inr (0, 9)), ((1, 10), .inl (0, 0)), ((1, 11), .inl ((-1), (-1))), ((1, 12), .inl (0, 0)), ((1, 13), .inr (0, 10)), ((1, 15), .inl (0, 0)), ((1, 16), .inr (0, 14)), ((1, 17), .inl (7, 7)), ((1, 18), .inl (15, 15)), ((1, 19), .inl (15, 15)), ((2, 0), .inl (0, 0)), ((3, 0), .inl (0, 0)), ((4, 0), .inl (0, 0)), ((5, 0), .inl (0, 0)), ((6, 0), .inl (0, 0)), ((7, 0), .inl (0, 0)), ((8, 0), .inl (0, 0)), ((9, 0), .inl (0, 0)), ((10, 0), .inr (1, 0)), ((14, 0), .inl (0, 0)), ((16, 1), .inl (0, 0)), ((16, 2), .inr (0, 17)), ((16, 3), .inr (0, 18)), ((16, 4), .inr (0, 19)), ((16, 5), .inr (0, 20)), ((16, 6), .inr (0, 21)), ((16, 7), .inr (0, 22)), ((16, 8), .inr (0, 23)), ((16, 9), .inr (0, 24)), ((16, 10), .inl (0, 0)), ((16, 11), .inl ((-1), (-1))), ((16, 12), .inl (0, 0)), ((16, 13), .inr (0, 25)), ((16, 16), .inr (0, 29)), ((17, 0), .inl (0, 0)), ((18, 0), .inl (0, 0)), ((19, 0), .inl (0, 0)), ((20, 0), .inl (0, 0)), ((21, 0), .inl (0, 0)), ((22, 0), .inl (0, 0)), ((23, 0), .inl (0, 0)), ((24, 0), .inl (0, 0)), ((25, 0), .inr (1, 0)), ((29, 0), .inl (0, 0))], 101, 0, 0), 0, 0)]
set_option maxRecDepth 100000 in
theorem ck_k360 (l : Launch) (D : va_G) (st : Nat → Nat) : ck_Mt l D st ck_c360 := ck_sound (T := ck_T1) (cs := [ck_c351, ck_c352, ck_c353, ck_c354, ck_c355, ck_c356, ck_c357, ck_c358, ck_c359]) (hs := ck_h360) (sp := []) (fuel := 107) l ck_TSgood ck_okCl (ck_own (M0 := ck_m148) rfl rfl ck_okT1) (ck_cons (ck_k351 l D st) (ck_cons (ck_k352 l D st) (ck_cons (ck_k353 l D st) (ck_cons (ck_k354 l D st) (ck_cons (ck_k355 l D st) (ck_cons (ck_k356 l D st) (ck_cons (ck_k357 l D st) (ck_cons (ck_k358 l D st) (ck_cons (ck_k359 l D st) ck_nil))))))))) (by decide +kernel)
/-- SL.within -/
def ck_c361 : ck_C := (16, 101, [.inl (1, 2147483647), .inl (0, 0), .inl (1, 1)], [], [], [(some (.inl (0, 0)), [(2, 2147483647), (0, 0), (1, 1)], [], 101), (some (.inl (1, 1)), [(1, 1), (0, 0), (1, 1)], [], 101)], 0, 0, 0, 0)
def ck_h361 : List ck_Hd := []
set_option maxRecDepth 100000 in
theorem ck_k361 (l : Launch) (D : va_G) (st : Nat → Nat) : ck_Mt l D st ck_c361 := ck_sound (T := ck_T0) (cs := []) (hs := ck_h361) (sp := []) (fuel := 33) l ck_TSgood ck_okCl (ck_own (M0 := ck_m16) rfl rfl ck_okT0) ck_nil (by decide +kernel)
/-- SL$Bench.copyRow -/
def ck_c362 : ck_C := (149, 101, [.inr (0, 2), .inr (0, 31)], [((2, 0), .inl (0, 0)), ((31, 0), .inl (0, 0))], [(31, 0)], [(none, [], [((31, 0), .inl (0, 0))], 101)], 1, 41, 0, 0)
def ck_h362 : List ck_Hd := []
set_option maxRecDepth 100000 in
theorem ck_k362 (l : Launch) (D : va_G) (st : Nat → Nat) : ck_Mt l D st ck_c362 := ck_sound (T := ck_T1) (cs := []) (hs := ck_h362) (sp := []) (fuel := 35) l ck_TSgood ck_okCl (ck_own (M0 := ck_m149) rfl rfl ck_okT1) ck_nil (by decide +kernel)
/-- SL$Bench.copyRow -/
def ck_c363 : ck_C := (149, 101, [.inr (0, 3), .inr (0, 32)], [((3, 0), .inl (0, 0)), ((32, 0), .inl (0, 0))], [(32, 0)], [(none, [], [((32, 0), .inl (0, 0))], 101)], 1, 41, 0, 0)
def ck_h363 : List ck_Hd := []
set_option maxRecDepth 100000 in
theorem ck_k363 (l : Launch) (D : va_G) (st : Nat → Nat) : ck_Mt l D st ck_c363 := ck_sound (T := ck_T1) (cs := []) (hs := ck_h363) (sp := []) (fuel := 35) l ck_TSgood ck_okCl (ck_own (M0 := ck_m149) rfl rfl ck_okT1) ck_nil (by decide +kernel)
/-- SL$Bench.copyRow -/
def ck_c364 : ck_C := (149, 101, [.inr (0, 4), .inr (0, 33)], [((4, 0), .inl (0, 0)), ((33, 0), .inl (0, 0))], [(33, 0)], [(none, [], [((33, 0), .inl (0, 0))], 101)], 1, 41, 0, 0)
def ck_h364 : List ck_Hd := []
set_option maxRecDepth 100000 in
theorem ck_k364 (l : Launch) (D : va_G) (st : Nat → Nat) : ck_Mt l D st ck_c364 := ck_sound (T := ck_T1) (cs := []) (hs := ck_h364) (sp := []) (fuel := 35) l ck_TSgood ck_okCl (ck_own (M0 := ck_m149) rfl rfl ck_okT1) ck_nil (by decide +kernel)
/-- SL$Bench.copyRow -/
def ck_c365 : ck_C := (149, 101, [.inr (0, 5), .inr (0, 34)], [((5, 0), .inl (0, 0)), ((34, 0), .inl (0, 0))], [(34, 0)], [(none, [], [((34, 0), .inl (0, 0))], 101)], 1, 41, 0, 0)
def ck_h365 : List ck_Hd := []
set_option maxRecDepth 100000 in
theorem ck_k365 (l : Launch) (D : va_G) (st : Nat → Nat) : ck_Mt l D st ck_c365 := ck_sound (T := ck_T1) (cs := []) (hs := ck_h365) (sp := []) (fuel := 35) l ck_TSgood ck_okCl (ck_own (M0 := ck_m149) rfl rfl ck_okT1) ck_nil (by decide +kernel)
/-- SL$Bench.copyRow -/
def ck_c366 : ck_C := (149, 101, [.inr (0, 6), .inr (0, 35)], [((6, 0), .inl (0, 0)), ((35, 0), .inl (0, 0))], [(35, 0)], [(none, [], [((35, 0), .inl (0, 0))], 101)], 1, 41, 0, 0)
def ck_h366 : List ck_Hd := []
set_option maxRecDepth 100000 in
theorem ck_k366 (l : Launch) (D : va_G) (st : Nat → Nat) : ck_Mt l D st ck_c366 := ck_sound (T := ck_T1) (cs := []) (hs := ck_h366) (sp := []) (fuel := 35) l ck_TSgood ck_okCl (ck_own (M0 := ck_m149) rfl rfl ck_okT1) ck_nil (by decide +kernel)
/-- SL$Bench.copyRow -/
def ck_c367 : ck_C := (149, 101, [.inr (0, 7), .inr (0, 36)], [((7, 0), .inl (0, 0)), ((36, 0), .inl (0, 0))], [(36, 0)], [(none, [], [((36, 0), .inl (0, 0))], 101)], 1, 41, 0, 0)
def ck_h367 : List ck_Hd := []
set_option maxRecDepth 100000 in
theorem ck_k367 (l : Launch) (D : va_G) (st : Nat → Nat) : ck_Mt l D st ck_c367 := ck_sound (T := ck_T1) (cs := []) (hs := ck_h367) (sp := []) (fuel := 35) l ck_TSgood ck_okCl (ck_own (M0 := ck_m149) rfl rfl ck_okT1) ck_nil (by decide +kernel)
/-- SL$Bench.copyRow -/
def ck_c368 : ck_C := (149, 101, [.inr (0, 8), .inr (0, 37)], [((8, 0), .inl (0, 0)), ((37, 0), .inl (0, 0))], [(37, 0)], [(none, [], [((37, 0), .inl (0, 0))], 101)], 1, 41, 0, 0)
def ck_h368 : List ck_Hd := []
set_option maxRecDepth 100000 in
theorem ck_k368 (l : Launch) (D : va_G) (st : Nat → Nat) : ck_Mt l D st ck_c368 := ck_sound (T := ck_T1) (cs := []) (hs := ck_h368) (sp := []) (fuel := 35) l ck_TSgood ck_okCl (ck_own (M0 := ck_m149) rfl rfl ck_okT1) ck_nil (by decide +kernel)
/-- SL$Bench.copyRow -/
def ck_c369 : ck_C := (149, 101, [.inr (0, 9), .inr (0, 38)], [((9, 0), .inl (0, 0)), ((38, 0), .inl (0, 0))], [(38, 0)], [(none, [], [((38, 0), .inl (0, 0))], 101)], 1, 41, 0, 0)
def ck_h369 : List ck_Hd := []
set_option maxRecDepth 100000 in
theorem ck_k369 (l : Launch) (D : va_G) (st : Nat → Nat) : ck_Mt l D st ck_c369 := ck_sound (T := ck_T1) (cs := []) (hs := ck_h369) (sp := []) (fuel := 35) l ck_TSgood ck_okCl (ck_own (M0 := ck_m149) rfl rfl ck_okT1) ck_nil (by decide +kernel)
/-- SL$Bench.copyRow -/
def ck_c370 : ck_C := (149, 101, [.inr (0, 14), .inr (0, 43)], [((14, 0), .inl (0, 0)), ((43, 0), .inl (0, 0))], [(43, 0)], [(none, [], [((43, 0), .inl (0, 0))], 101)], 1, 41, 0, 0)
def ck_h370 : List ck_Hd := []
set_option maxRecDepth 100000 in
theorem ck_k370 (l : Launch) (D : va_G) (st : Nat → Nat) : ck_Mt l D st ck_c370 := ck_sound (T := ck_T1) (cs := []) (hs := ck_h370) (sp := []) (fuel := 35) l ck_TSgood ck_okCl (ck_own (M0 := ck_m149) rfl rfl ck_okT1) ck_nil (by decide +kernel)
/-- SL$Bench.copyFrom -/
def ck_c371 : ck_C := (148, 101, [.inr (0, 30), .inr (0, 1)], [((1, 1), .inl (0, 0)), ((1, 2), .inr (0, 2)), ((1, 3), .inr (0, 3)), ((1, 4), .inr (0, 4)), ((1, 5), .inr (0, 5)), ((1, 6), .inr (0, 6)), ((1, 7), .inr (0, 7)), ((1, 8), .inr (0, 8)), ((1, 9), .inr (0, 9)), ((1, 10), .inl (0, 0)), ((1, 11), .inl ((-1), (-1))), ((1, 12), .inl (0, 0)), ((1, 13), .inr (0, 10)), ((1, 15), .inl (0, 0)), ((1, 16), .inr (0, 14)), ((1, 17), .inl (7, 7)), ((1, 18), .inl (15, 15)), ((1, 19), .inl (15, 15)), ((2, 0), .inl (0, 0)), ((3, 0), .inl (0, 0)), ((4, 0), .inl (0, 0)), ((5, 0), .inl (0, 0)), ((6, 0), .inl (0, 0)), ((7, 0), .inl (0, 0)), ((8, 0), .inl (0, 0)), ((9, 0), .inl (0, 0)), ((10, 0), .inr (1, 0)), ((14, 0), .inl (0, 0)), ((30, 2), .inr (0, 31)), ((30, 3), .inr (0, 32)), ((30, 4), .inr (0, 33)), ((30, 5), .inr (0, 34)), ((30, 6), .inr (0, 35)), ((30, 7), .inr (0, 36)), ((30, 8), .inr (0, 37)), ((30, 9), .inr (0, 38)), ((30, 13), .inr (0, 39)), ((30, 16), .inr (0, 43)), ((31, 0), .inl (0, 0)), ((32, 0), .inl (0, 0)), ((33, 0), .inl (0, 0)), ((34, 0), .inl (0, 0)), ((35, 0), .inl (0, 0)), ((36, 0), .inl (0, 0)), ((37, 0), .inl (0, 0)), ((38, 0), .inl (0, 0)), ((39, 0), .inr (1, 0)), ((43, 0), .inl (0, 0))], [(30, 1), (30, 10), (30, 11), (30, 12), (30, 15), (30, 17), (30, 18), (30, 19), (31, 0), (32, 0), (33, 0), (34, 0), (35, 0), (36, 0), (37, 0), (38, 0), (39, 0), (43, 0)], [(none, [], [((30, 1), .inl (0, 0)), ((30, 10), .inl (0, 0)), ((30, 11), .inl ((-1), (-1))), ((30, 12), .inl (0, 0)), ((30, 15), .inl (0, 0)), ((30, 17), .inl (7, 7)), ((30, 18), .inl (15, 15)), ((30, 19), .inl (15, 15)), ((31, 0), .inl (0, 0)), ((32, 0), .inl (0, 0)), ((33, 0), .inl (0, 0)), ((34, 0), .inl (0, 0)), ((35, 0), .inl (0, 0)), ((36, 0), .inl (0, 0)), ((37, 0), .inl (0, 0)), ((38, 0), .inl (0, 0)), ((39, 0), .inr (1, 0)), ((43, 0), .inl (0, 0))], 101)], 2, 62, 0, 0)
def ck_h371 : List ck_Hd := [(122, ([(0, 10, 0, (0, 0, 0))], [(2, .inl (0, 1, 0)), (0, .inr (0, 30)), (1, .inr (0, 1))], [], [((1, 1), .inl (0, 0)), ((1, 2), .inr (0, 2)), ((1, 3), .inr (0, 3)), ((1, 4), .inr (0, 4)), ((1, 5), .inr (0, 5)), ((1, 6), .inr (0, 6)), ((1, 7), .inr (0, 7)), ((1, 8), .inr (0, 8)), ((1, 9), .inr (0, 9)), ((1, 10), .inl (0, 0)), ((1, 11), .inl ((-1), (-1))), ((1, 12), .inl (0, 0)), ((1, 13), .inr (0, 10)), ((1, 15), .inl (0, 0)), ((1, 16), .inr (0, 14)), ((1, 17), .inl (7, 7)), ((1, 18), .inl (15, 15)), ((1, 19), .inl (15, 15)), ((2, 0), .inl (0, 0)), ((3, 0), .inl (0, 0)), ((4, 0), .inl (0, 0)), ((5, 0), .inl (0, 0)), ((6, 0), .inl (0, 0)), ((7, 0), .inl (0, 0)), ((8, 0), .inl (0, 0)), ((9, 0), .inl (0, 0)), ((10, 0), .inr (1, 0)), ((14, 0), .inl (0, 0)), ((30, 1), .inl (0, 0)), ((30, 2), .inr (0, 31)), ((30, 3), .inr (0, 32)), ((30, 4), .inr (0, 33)), ((30, 5), .inr (0, 34)), ((30, 6), .inr (0, 35)), ((30, 7), .inr (0, 36)), ((30, 8), .inr (0, 37)), ((30, 9), .inr (0, 38)), ((30, 10), .inl (0, 0)), ((30, 11), .inl ((-1), (-1))), ((30, 12), .inl (0, 0)), ((30, 13), .inr (0, 39)), ((30, 16), .inr (0, 43)), ((31, 0), .inl (0, 0)), ((32, 0), .inl (0, 0)), ((33, 0), .inl (0, 0)), ((34, 0), .inl (0, 0)), ((35, 0), .inl (0, 0)), ((36, 0), .inl (0, 0)), ((37, 0), .inl (0, 0)), ((38, 0), .inl (0, 0)), ((39, 0), .inr (1, 0)), ((43, 0), .inl (0, 0))], 101, 0, 0), 0, 0)]
set_option maxRecDepth 100000 in
theorem ck_k371 (l : Launch) (D : va_G) (st : Nat → Nat) : ck_Mt l D st ck_c371 := ck_sound (T := ck_T1) (cs := [ck_c362, ck_c363, ck_c364, ck_c365, ck_c366, ck_c367, ck_c368, ck_c369, ck_c370]) (hs := ck_h371) (sp := []) (fuel := 107) l ck_TSgood ck_okCl (ck_own (M0 := ck_m148) rfl rfl ck_okT1) (ck_cons (ck_k362 l D st) (ck_cons (ck_k363 l D st) (ck_cons (ck_k364 l D st) (ck_cons (ck_k365 l D st) (ck_cons (ck_k366 l D st) (ck_cons (ck_k367 l D st) (ck_cons (ck_k368 l D st) (ck_cons (ck_k369 l D st) (ck_cons (ck_k370 l D st) ck_nil))))))))) (by decide +kernel)
/-- SL.image -/
def ck_c372 : ck_C := (147, 101, [.inr (0, 0), .inl ((-2147483648), 2147483647)], [((0, 1), .inr (0, 1)), ((0, 2), .inr (0, 15)), ((0, 3), .inr (0, 44)), ((1, 1), .inl (0, 0)), ((1, 2), .inr (0, 2)), ((1, 3), .inr (0, 3)), ((1, 4), .inr (0, 4)), ((1, 5), .inr (0, 5)), ((1, 6), .inr (0, 6)), ((1, 7), .inr (0, 7)), ((1, 8), .inr (0, 8)), ((1, 9), .inr (0, 9)), ((1, 10), .inl (0, 0)), ((1, 11), .inl ((-1), (-1))), ((1, 12), .inl (0, 0)), ((1, 13), .inr (0, 10)), ((1, 15), .inl (0, 0)), ((1, 16), .inr (0, 14)), ((1, 17), .inl (7, 7)), ((1, 18), .inl (15, 15)), ((1, 19), .inl (15, 15)), ((2, 0), .inl (0, 0)), ((3, 0), .inl (0, 0)), ((4, 0), .inl (0, 0)), ((5, 0), .inl (0, 0)), ((6, 0), .inl (0, 0)), ((7, 0), .inl (0, 0)), ((8, 0), .inl (0, 0)), ((9, 0), .inl (0, 0)), ((10, 0), .inr (1, 0)), ((14, 0), .inl (0, 0)), ((15, 1), .inr (0, 16)), ((15, 2), .inr (0, 30)), ((16, 2), .inr (0, 17)), ((16, 3), .inr (0, 18)), ((16, 4), .inr (0, 19)), ((16, 5), .inr (0, 20)), ((16, 6), .inr (0, 21)), ((16, 7), .inr (0, 22)), ((16, 8), .inr (0, 23)), ((16, 9), .inr (0, 24)), ((16, 13), .inr (0, 25)), ((16, 16), .inr (0, 29)), ((17, 0), .inl (0, 0)), ((18, 0), .inl (0, 0)), ((19, 0), .inl (0, 0)), ((20, 0), .inl (0, 0)), ((21, 0), .inl (0, 0)), ((22, 0), .inl (0, 0)), ((23, 0), .inl (0, 0)), ((24, 0), .inl (0, 0)), ((25, 0), .inr (1, 0)), ((29, 0), .inl (0, 0)), ((30, 2), .inr (0, 31)), ((30, 3), .inr (0, 32)), ((30, 4), .inr (0, 33)), ((30, 5), .inr (0, 34)), ((30, 6), .inr (0, 35)), ((30, 7), .inr (0, 36)), ((30, 8), .inr (0, 37)), ((30, 9), .inr (0, 38)), ((30, 13), .inr (0, 39)), ((30, 16), .inr (0, 43)), ((31, 0), .inl (0, 0)), ((32, 0), .inl (0, 0)), ((33, 0), .inl (0, 0)), ((34, 0), .inl (0, 0)), ((35, 0), .inl (0, 0)), ((36, 0), .inl (0, 0)), ((37, 0), .inl (0, 0)), ((38, 0), .inl (0, 0)), ((39, 0), .inr (1, 0)), ((43, 0), .inl (0, 0)), ((44, 0), .inl (0, 0))], [(0, 15), (16, 1), (16, 10), (16, 11), (16, 12), (16, 15), (16, 17), (16, 18), (16, 19), (17, 0), (18, 0), (19, 0), (20, 0), (21, 0), (22, 0), (23, 0), (24, 0), (25, 0), (29, 0), (30, 1), (30, 10), (30, 11), (30, 12), (30, 15), (30, 17), (30, 18), (30, 19), (31, 0), (32, 0), (33, 0), (34, 0), (35, 0), (36, 0), (37, 0), (38, 0), (39, 0), (43, 0), (44, 0)], [(some (.inl ((-1), (-1))), [((-2147483648), (-1))], [((0, 15), .inl ((-1), (-1))), ((17, 0), .inl (0, 0)), ((18, 0), .inl (0, 0)), ((19, 0), .inl (0, 0)), ((20, 0), .inl (0, 0)), ((21, 0), .inl (0, 0)), ((22, 0), .inl (0, 0)), ((23, 0), .inl (0, 0)), ((24, 0), .inl (0, 0)), ((25, 0), .inr (1, 0)), ((29, 0), .inl (0, 0)), ((31, 0), .inl (0, 0)), ((32, 0), .inl (0, 0)), ((33, 0), .inl (0, 0)), ((34, 0), .inl (0, 0)), ((35, 0), .inl (0, 0)), ((36, 0), .inl (0, 0)), ((37, 0), .inl (0, 0)), ((38, 0), .inl (0, 0)), ((39, 0), .inr (1, 0)), ((43, 0), .inl (0, 0)), ((44, 0), .inl (0, 0))], 101), (some (.inl (0, 0)), [(0, 0)], [((0, 15), .inl (0, 0)), ((16, 1), .inl (0, 0)), ((16, 10), .inl (0, 0)), ((16, 11), .inl ((-1), (-1))), ((16, 12), .inl (0, 0)), ((16, 15), .inl (0, 0)), ((16, 17), .inl (7, 7)), ((16, 18), .inl (15, 15)), ((16, 19), .inl (15, 15)), ((17, 0), .inl (0, 0)), ((18, 0), .inl (0, 0)), ((19, 0), .inl (0, 0)), ((20, 0), .inl (0, 0)), ((21, 0), .inl (0, 0)), ((22, 0), .inl (0, 0)), ((23, 0), .inl (0, 0)), ((24, 0), .inl (0, 0)), ((25, 0), .inr (1, 0)), ((29, 0), .inl (0, 0)), ((31, 0), .inl (0, 0)), ((32, 0), .inl (0, 0)), ((33, 0), .inl (0, 0)), ((34, 0), .inl (0, 0)), ((35, 0), .inl (0, 0)), ((36, 0), .inl (0, 0)), ((37, 0), .inl (0, 0)), ((38, 0), .inl (0, 0)), ((39, 0), .inr (1, 0)), ((43, 0), .inl (0, 0)), ((44, 0), .inl (0, 1))], 101), (some (.inl ((-1), (-1))), [(2, 2147483647)], [((0, 15), .inl ((-1), (-1))), ((17, 0), .inl (0, 0)), ((18, 0), .inl (0, 0)), ((19, 0), .inl (0, 0)), ((20, 0), .inl (0, 0)), ((21, 0), .inl (0, 0)), ((22, 0), .inl (0, 0)), ((23, 0), .inl (0, 0)), ((24, 0), .inl (0, 0)), ((25, 0), .inr (1, 0)), ((29, 0), .inl (0, 0)), ((31, 0), .inl (0, 0)), ((32, 0), .inl (0, 0)), ((33, 0), .inl (0, 0)), ((34, 0), .inl (0, 0)), ((35, 0), .inl (0, 0)), ((36, 0), .inl (0, 0)), ((37, 0), .inl (0, 0)), ((38, 0), .inl (0, 0)), ((39, 0), .inr (1, 0)), ((43, 0), .inl (0, 0)), ((44, 0), .inl (0, 0))], 101), (some (.inl (0, 0)), [(1, 1)], [((0, 15), .inl (0, 0)), ((17, 0), .inl (0, 0)), ((18, 0), .inl (0, 0)), ((19, 0), .inl (0, 0)), ((20, 0), .inl (0, 0)), ((21, 0), .inl (0, 0)), ((22, 0), .inl (0, 0)), ((23, 0), .inl (0, 0)), ((24, 0), .inl (0, 0)), ((25, 0), .inr (1, 0)), ((29, 0), .inl (0, 0)), ((30, 1), .inl (0, 0)), ((30, 10), .inl (0, 0)), ((30, 11), .inl ((-1), (-1))), ((30, 12), .inl (0, 0)), ((30, 15), .inl (0, 0)), ((30, 17), .inl (7, 7)), ((30, 18), .inl (15, 15)), ((30, 19), .inl (15, 15)), ((31, 0), .inl (0, 0)), ((32, 0), .inl (0, 0)), ((33, 0), .inl (0, 0)), ((34, 0), .inl (0, 0)), ((35, 0), .inl (0, 0)), ((36, 0), .inl (0, 0)), ((37, 0), .inl (0, 0)), ((38, 0), .inl (0, 0)), ((39, 0), .inr (1, 0)), ((43, 0), .inl (0, 0)), ((44, 0), .inl (0, 1))], 101)], 3, 84, 0, 0)
def ck_h372 : List ck_Hd := []
set_option maxRecDepth 100000 in
theorem ck_k372 (l : Launch) (D : va_G) (st : Nat → Nat) : ck_Mt l D st ck_c372 := ck_sound (T := ck_T0) (cs := [ck_c350, ck_c19, ck_c360, ck_c23, ck_c361, ck_c371]) (hs := ck_h372) (sp := [(0, 0, 0)]) (fuel := 46) l ck_TSgood ck_okCl (ck_own (M0 := ck_m147) rfl rfl ck_okT0) (ck_cons (ck_k350 l D st) (ck_cons (ck_k19 l D st) (ck_cons (ck_k360 l D st) (ck_cons (ck_k23 l D st) (ck_cons (ck_k361 l D st) (ck_cons (ck_k371 l D st) ck_nil)))))) (by decide +kernel)
/-- SLModel.image -/
def ck_c373 : ck_C := (150, 101, [.inr (0, 77), .inl ((-2147483648), (-1))], [], [(77, 1)], [(some (.inl ((-1), (-1))), [((-2147483648), (-1))], [((77, 1), .inl ((-1), (-1)))], 101)], 1, 22, 0, 0)
def ck_h373 : List ck_Hd := []
set_option maxRecDepth 100000 in
theorem ck_k373 (l : Launch) (D : va_G) (st : Nat → Nat) : ck_Mt l D st ck_c373 := ck_sound (T := ck_T13) (cs := [ck_c295, ck_c26]) (hs := ck_h373) (sp := []) (fuel := 33) l ck_TSgood ck_okCl (ck_own (M0 := ck_m150) rfl rfl ck_okT13) (ck_cons (ck_k295 l D st) (ck_cons (ck_k26 l D st) ck_nil)) (by decide +kernel)
/-- SLModel.in -/
def ck_c374 : ck_C := (21, 101, [.inl (0, 0), .inl (0, 0), .inl (1, 1)], [], [], [(some (.inl (1, 1)), [(0, 0), (0, 0), (1, 1)], [], 101)], 0, 0, 0, 0)
def ck_h374 : List ck_Hd := []
set_option maxRecDepth 100000 in
theorem ck_k374 (l : Launch) (D : va_G) (st : Nat → Nat) : ck_Mt l D st ck_c374 := ck_sound (T := ck_T13) (cs := []) (hs := ck_h374) (sp := []) (fuel := 33) l ck_TSgood ck_okCl (ck_own (M0 := ck_m21) rfl rfl ck_okT13) ck_nil (by decide +kernel)
/-- SLModel.image -/
def ck_c375 : ck_C := (150, 101, [.inr (0, 77), .inl (0, 0)], [((77, 2), .inr (0, 78)), ((77, 3), .inr (0, 79)), ((77, 4), .inr (0, 80)), ((78, 0), .inl ((-1), 15)), ((79, 0), .inl (0, 0)), ((80, 0), .inl (0, 0))], [(77, 1), (79, 0), (80, 0)], [(some (.inl (0, 0)), [(0, 0)], [((77, 1), .inl (0, 0)), ((79, 0), .inl ((-1), 15)), ((80, 0), .inl (0, 1))], 101)], 1, 22, 0, 0)
def ck_h375 : List ck_Hd := [(17, ([(0, 0, 0, (0, 0, 0)), (0, 9310, 0, (0, 0, 0))], [(2, .inl (1, 1, 0)), (0, .inr (0, 77)), (1, .inl (0, 1, 0))], [], [((77, 2), .inr (0, 78)), ((77, 3), .inr (0, 79)), ((77, 4), .inr (0, 80)), ((78, 0), .inl ((-1), 15)), ((79, 0), .inl ((-1), 15)), ((80, 0), .inl (0, 0))], 101, 0, 0), 1, 0)]
set_option maxRecDepth 100000 in
theorem ck_k375 (l : Launch) (D : va_G) (st : Nat → Nat) : ck_Mt l D st ck_c375 := ck_sound (T := ck_T13) (cs := [ck_c374, ck_c42]) (hs := ck_h375) (sp := []) (fuel := 49) l ck_TSgood ck_okCl (ck_own (M0 := ck_m150) rfl rfl ck_okT13) (ck_cons (ck_k374 l D st) (ck_cons (ck_k42 l D st) ck_nil)) (by decide +kernel)
/-- SLModel.image -/
def ck_c376 : ck_C := (150, 101, [.inr (0, 77), .inl (2, 2147483647)], [], [(77, 1)], [(some (.inl ((-1), (-1))), [(2, 2147483647)], [((77, 1), .inl ((-1), (-1)))], 101)], 1, 22, 0, 0)
def ck_h376 : List ck_Hd := []
set_option maxRecDepth 100000 in
theorem ck_k376 (l : Launch) (D : va_G) (st : Nat → Nat) : ck_Mt l D st ck_c376 := ck_sound (T := ck_T13) (cs := [ck_c297, ck_c26]) (hs := ck_h376) (sp := []) (fuel := 33) l ck_TSgood ck_okCl (ck_own (M0 := ck_m150) rfl rfl ck_okT13) (ck_cons (ck_k297 l D st) (ck_cons (ck_k26 l D st) ck_nil)) (by decide +kernel)
/-- SLModel.in -/
def ck_c377 : ck_C := (21, 101, [.inl (1, 1), .inl (0, 0), .inl (1, 1)], [], [], [(some (.inl (1, 1)), [(1, 1), (0, 0), (1, 1)], [], 101)], 0, 0, 0, 0)
def ck_h377 : List ck_Hd := []
set_option maxRecDepth 100000 in
theorem ck_k377 (l : Launch) (D : va_G) (st : Nat → Nat) : ck_Mt l D st ck_c377 := ck_sound (T := ck_T13) (cs := []) (hs := ck_h377) (sp := []) (fuel := 33) l ck_TSgood ck_okCl (ck_own (M0 := ck_m21) rfl rfl ck_okT13) ck_nil (by decide +kernel)
/-- SLModel.image -/
def ck_c378 : ck_C := (150, 101, [.inr (0, 77), .inl (1, 1)], [((77, 2), .inr (0, 78)), ((77, 3), .inr (0, 79)), ((77, 4), .inr (0, 80)), ((78, 0), .inl ((-1), 15)), ((79, 0), .inl (0, 0)), ((80, 0), .inl (0, 0))], [(77, 1), (79, 0), (80, 0)], [(some (.inl (0, 0)), [(1, 1)], [((77, 1), .inl (0, 0)), ((79, 0), .inl ((-1), 15)), ((80, 0), .inl (0, 1))], 101)], 1, 22, 0, 0)
def ck_h378 : List ck_Hd := [(17, ([(1, 1, 0, (0, 0, 0)), (0, 9310, 0, (0, 0, 0))], [(2, .inl (1, 1, 0)), (0, .inr (0, 77)), (1, .inl (0, 1, 0))], [], [((77, 2), .inr (0, 78)), ((77, 3), .inr (0, 79)), ((77, 4), .inr (0, 80)), ((78, 0), .inl ((-1), 15)), ((79, 0), .inl ((-1), 15)), ((80, 0), .inl (0, 0))], 101, 0, 0), 1, 0)]
set_option maxRecDepth 100000 in
theorem ck_k378 (l : Launch) (D : va_G) (st : Nat → Nat) : ck_Mt l D st ck_c378 := ck_sound (T := ck_T13) (cs := [ck_c377, ck_c42]) (hs := ck_h378) (sp := []) (fuel := 49) l ck_TSgood ck_okCl (ck_own (M0 := ck_m150) rfl rfl ck_okT13) (ck_cons (ck_k377 l D st) (ck_cons (ck_k42 l D st) ck_nil)) (by decide +kernel)
/-- SL.back -/
def ck_c379 : ck_C := (151, 101, [.inr (0, 0), .inl ((-2147483648), 2147483647)], [((0, 3), .inr (0, 44)), ((44, 0), .inl (0, 0))], [(0, 15)], [(some (.inl ((-1), (-1))), [((-2147483648), (-1))], [((0, 15), .inl ((-1), (-1)))], 101), (some (.inl ((-1), (-1))), [(2, 2147483647)], [((0, 15), .inl ((-1), (-1)))], 101), (some (.inl ((-2), (-2))), [(0, 1)], [((0, 15), .inl ((-2), (-2)))], 101)], 1, 22, 0, 0)
def ck_h379 : List ck_Hd := []
set_option maxRecDepth 100000 in
theorem ck_k379 (l : Launch) (D : va_G) (st : Nat → Nat) : ck_Mt l D st ck_c379 := ck_sound (T := ck_T0) (cs := [ck_c281, ck_c19, ck_c50]) (hs := ck_h379) (sp := []) (fuel := 38) l ck_TSgood ck_okCl (ck_own (M0 := ck_m151) rfl rfl ck_okT0) (ck_cons (ck_k281 l D st) (ck_cons (ck_k19 l D st) (ck_cons (ck_k50 l D st) ck_nil))) (by decide +kernel)
/-- SLModel.back -/
def ck_c380 : ck_C := (152, 101, [.inr (0, 77), .inl ((-2147483648), (-1))], [], [(77, 1)], [(some (.inl ((-1), (-1))), [((-2147483648), (-1))], [((77, 1), .inl ((-1), (-1)))], 101)], 1, 22, 0, 0)
def ck_h380 : List ck_Hd := []
set_option maxRecDepth 100000 in
theorem ck_k380 (l : Launch) (D : va_G) (st : Nat → Nat) : ck_Mt l D st ck_c380 := ck_sound (T := ck_T13) (cs := [ck_c295, ck_c26]) (hs := ck_h380) (sp := []) (fuel := 33) l ck_TSgood ck_okCl (ck_own (M0 := ck_m152) rfl rfl ck_okT13) (ck_cons (ck_k295 l D st) (ck_cons (ck_k26 l D st) ck_nil)) (by decide +kernel)
/-- SLModel.back -/
def ck_c381 : ck_C := (152, 101, [.inr (0, 77), .inl (2, 2147483647)], [], [(77, 1)], [(some (.inl ((-1), (-1))), [(2, 2147483647)], [((77, 1), .inl ((-1), (-1)))], 101)], 1, 22, 0, 0)
def ck_h381 : List ck_Hd := []
set_option maxRecDepth 100000 in
theorem ck_k381 (l : Launch) (D : va_G) (st : Nat → Nat) : ck_Mt l D st ck_c381 := ck_sound (T := ck_T13) (cs := [ck_c297, ck_c26]) (hs := ck_h381) (sp := []) (fuel := 33) l ck_TSgood ck_okCl (ck_own (M0 := ck_m152) rfl rfl ck_okT13) (ck_cons (ck_k297 l D st) (ck_cons (ck_k26 l D st) ck_nil)) (by decide +kernel)
/-- SLModel.back -/
def ck_c382 : ck_C := (152, 101, [.inr (0, 77), .inl (0, 1)], [((77, 4), .inr (0, 80)), ((80, 0), .inl (0, 0))], [(77, 1)], [(some (.inl ((-2), (-2))), [(0, 1)], [((77, 1), .inl ((-2), (-2)))], 101)], 1, 22, 0, 0)
def ck_h382 : List ck_Hd := []
set_option maxRecDepth 100000 in
theorem ck_k382 (l : Launch) (D : va_G) (st : Nat → Nat) : ck_Mt l D st ck_c382 := ck_sound (T := ck_T13) (cs := [ck_c302, ck_c69]) (hs := ck_h382) (sp := []) (fuel := 38) l ck_TSgood ck_okCl (ck_own (M0 := ck_m152) rfl rfl ck_okT13) (ck_cons (ck_k302 l D st) (ck_cons (ck_k69 l D st) ck_nil)) (by decide +kernel)
/-- SL$Bench.usesLeft -/
def ck_c383 : ck_C := (154, 101, [.inr (0, 1)], [((1, 1), .inl (0, 0))], [], [(some (.inl (0, 0)), [], [], 101)], 0, 0, 0, 0)
def ck_h383 : List ck_Hd := [(4, ([], [(2, .inl (0, 0, 0)), (1, .inl (0, 0, 0)), (0, .inr (0, 1))], [], [((1, 1), .inl (0, 0))], 101, 0, 0), 0, 2)]
set_option maxRecDepth 100000 in
theorem ck_k383 (l : Launch) (D : va_G) (st : Nat → Nat) : ck_Mt l D st ck_c383 := ck_sound (T := ck_T1) (cs := []) (hs := ck_h383) (sp := []) (fuel := 34) l ck_TSgood ck_okCl (ck_own (M0 := ck_m154) rfl rfl ck_okT1) ck_nil (by decide +kernel)
/-- SL.count -/
def ck_c384 : ck_C := (153, 101, [.inr (0, 0), .inl ((-2147483648), 2147483647)], [((0, 1), .inr (0, 1)), ((0, 4), .inr (0, 45)), ((1, 1), .inl (0, 0)), ((1, 12), .inl (0, 0)), ((1, 15), .inl (0, 0)), ((45, 2), .inl (0, 0))], [], [(some (.inl ((-1), (-1))), [((-2147483648), (-1))], [], 101), (some (.inl ((-1), (-1))), [(5, 2147483647)], [], 101), (some (.inl (0, 0)), [(0, 0)], [], 101), (some (.inl (0, 0)), [(1, 1)], [], 101), (some (.inl (0, 0)), [(2, 2)], [], 101), (some (.inl (0, 0)), [(3, 3)], [], 101), (some (.inl (0, 0)), [(4, 4)], [], 101)], 1, 22, 0, 0)
def ck_h384 : List ck_Hd := []
set_option maxRecDepth 100000 in
theorem ck_k384 (l : Launch) (D : va_G) (st : Nat → Nat) : ck_Mt l D st ck_c384 := ck_sound (T := ck_T0) (cs := [ck_c383]) (hs := ck_h384) (sp := []) (fuel := 30) l ck_TSgood ck_okCl (ck_own (M0 := ck_m153) rfl rfl ck_okT0) (ck_cons (ck_k383 l D st) ck_nil) (by decide +kernel)
/-- SLModel.count -/
def ck_c385 : ck_C := (155, 101, [.inr (0, 77), .inl ((-2147483648), (-1))], [((77, 2), .inr (0, 78)), ((78, 1293), .inl (0, 0))], [], [(some (.inl ((-1), (-1))), [((-2147483648), (-1))], [], 101)], 1, 20, 0, 0)
def ck_h385 : List ck_Hd := [(4, ([((-2147483648), (-1), 0, (0, 0, 0))], [(3, .inl (0, 0, 0)), (2, .inl (0, 0, 0)), (0, .inr (0, 77)), (1, .inl (0, 1, 0))], [], [((77, 2), .inr (0, 78)), ((78, 1293), .inl (0, 0))], 101, 0, 0), 0, 2)]
set_option maxRecDepth 100000 in
theorem ck_k385 (l : Launch) (D : va_G) (st : Nat → Nat) : ck_Mt l D st ck_c385 := ck_sound (T := ck_T13) (cs := [ck_c41]) (hs := ck_h385) (sp := []) (fuel := 36) l ck_TSgood ck_okCl (ck_own (M0 := ck_m155) rfl rfl ck_okT13) (ck_cons (ck_k41 l D st) ck_nil) (by decide +kernel)
/-- SLModel.count -/
def ck_c386 : ck_C := (155, 101, [.inr (0, 77), .inl (5, 2147483647)], [((77, 2), .inr (0, 78)), ((78, 1293), .inl (0, 0))], [], [(some (.inl ((-1), (-1))), [(5, 2147483647)], [], 101)], 1, 20, 0, 0)
def ck_h386 : List ck_Hd := [(4, ([(5, 2147483647, 0, (0, 0, 0))], [(3, .inl (0, 0, 0)), (2, .inl (0, 0, 0)), (0, .inr (0, 77)), (1, .inl (0, 1, 0))], [], [((77, 2), .inr (0, 78)), ((78, 1293), .inl (0, 0))], 101, 0, 0), 0, 2)]
set_option maxRecDepth 100000 in
theorem ck_k386 (l : Launch) (D : va_G) (st : Nat → Nat) : ck_Mt l D st ck_c386 := ck_sound (T := ck_T13) (cs := [ck_c41]) (hs := ck_h386) (sp := []) (fuel := 36) l ck_TSgood ck_okCl (ck_own (M0 := ck_m155) rfl rfl ck_okT13) (ck_cons (ck_k41 l D st) ck_nil) (by decide +kernel)
/-- SLModel.count -/
def ck_c387 : ck_C := (155, 101, [.inr (0, 77), .inl (0, 0)], [((77, 2), .inr (0, 78)), ((78, 1293), .inl (0, 0))], [], [(some (.inl (0, 0)), [(0, 0)], [], 101)], 1, 20, 0, 0)
def ck_h387 : List ck_Hd := [(4, ([(0, 0, 0, (0, 0, 0))], [(3, .inl (0, 0, 0)), (2, .inl (0, 0, 0)), (0, .inr (0, 77)), (1, .inl (0, 1, 0))], [], [((77, 2), .inr (0, 78)), ((78, 1293), .inl (0, 0))], 101, 0, 0), 0, 2)]
set_option maxRecDepth 100000 in
theorem ck_k387 (l : Launch) (D : va_G) (st : Nat → Nat) : ck_Mt l D st ck_c387 := ck_sound (T := ck_T13) (cs := [ck_c41]) (hs := ck_h387) (sp := []) (fuel := 37) l ck_TSgood ck_okCl (ck_own (M0 := ck_m155) rfl rfl ck_okT13) (ck_cons (ck_k41 l D st) ck_nil) (by decide +kernel)
/-- SLModel.count -/
def ck_c388 : ck_C := (155, 101, [.inr (0, 77), .inl (1, 1)], [((77, 2), .inr (0, 78)), ((78, 1293), .inl (0, 0)), ((78, 1295), .inl (0, 0))], [], [(some (.inl (0, 0)), [(1, 1)], [], 101)], 1, 20, 0, 0)
def ck_h388 : List ck_Hd := [(4, ([(1, 1, 0, (0, 0, 0))], [(3, .inl (0, 0, 0)), (2, .inl (0, 0, 0)), (0, .inr (0, 77)), (1, .inl (0, 1, 0))], [], [((77, 2), .inr (0, 78)), ((78, 1293), .inl (0, 0)), ((78, 1295), .inl (0, 0))], 101, 0, 0), 0, 2)]
set_option maxRecDepth 100000 in
theorem ck_k388 (l : Launch) (D : va_G) (st : Nat → Nat) : ck_Mt l D st ck_c388 := ck_sound (T := ck_T13) (cs := [ck_c41]) (hs := ck_h388) (sp := []) (fuel := 39) l ck_TSgood ck_okCl (ck_own (M0 := ck_m155) rfl rfl ck_okT13) (ck_cons (ck_k41 l D st) ck_nil) (by decide +kernel)
/-- SLModel.count -/
def ck_c389 : ck_C := (155, 101, [.inr (0, 77), .inl (2, 2)], [((77, 2), .inr (0, 78)), ((78, 1293), .inl (0, 0)), ((78, 1294), .inl (0, 0))], [], [(some (.inl (0, 0)), [(2, 2)], [], 101)], 1, 20, 0, 0)
def ck_h389 : List ck_Hd := [(4, ([(2, 2, 0, (0, 0, 0))], [(3, .inl (0, 0, 0)), (2, .inl (0, 0, 0)), (0, .inr (0, 77)), (1, .inl (0, 1, 0))], [], [((77, 2), .inr (0, 78)), ((78, 1293), .inl (0, 0)), ((78, 1294), .inl (0, 0))], 101, 0, 0), 0, 2)]
set_option maxRecDepth 100000 in
theorem ck_k389 (l : Launch) (D : va_G) (st : Nat → Nat) : ck_Mt l D st ck_c389 := ck_sound (T := ck_T13) (cs := [ck_c41]) (hs := ck_h389) (sp := []) (fuel := 39) l ck_TSgood ck_okCl (ck_own (M0 := ck_m155) rfl rfl ck_okT13) (ck_cons (ck_k41 l D st) ck_nil) (by decide +kernel)
/-- SLModel.count -/
def ck_c390 : ck_C := (155, 101, [.inr (0, 77), .inl (3, 3)], [((77, 2), .inr (0, 78)), ((78, 1293), .inl (0, 0))], [], [(some (.inl (0, 0)), [(3, 3)], [], 101)], 1, 20, 0, 0)
def ck_h390 : List ck_Hd := [(4, ([(3, 3, 0, (0, 0, 0))], [(3, .inl (0, 0, 0)), (2, .inl (0, 0, 0)), (0, .inr (0, 77)), (1, .inl (0, 1, 0))], [], [((77, 2), .inr (0, 78)), ((78, 1293), .inl (0, 0))], 101, 0, 0), 0, 2)]
set_option maxRecDepth 100000 in
theorem ck_k390 (l : Launch) (D : va_G) (st : Nat → Nat) : ck_Mt l D st ck_c390 := ck_sound (T := ck_T13) (cs := [ck_c41]) (hs := ck_h390) (sp := []) (fuel := 36) l ck_TSgood ck_okCl (ck_own (M0 := ck_m155) rfl rfl ck_okT13) (ck_cons (ck_k41 l D st) ck_nil) (by decide +kernel)
/-- SLModel.count -/
def ck_c391 : ck_C := (155, 101, [.inr (0, 77), .inl (4, 4)], [((77, 2), .inr (0, 78)), ((77, 8), .inl (0, 0)), ((78, 1293), .inl (0, 0))], [], [(some (.inl (0, 0)), [(4, 4)], [], 101)], 1, 20, 0, 0)
def ck_h391 : List ck_Hd := [(4, ([(4, 4, 0, (0, 0, 0))], [(3, .inl (0, 0, 0)), (2, .inl (0, 0, 0)), (0, .inr (0, 77)), (1, .inl (0, 1, 0))], [], [((77, 2), .inr (0, 78)), ((77, 8), .inl (0, 0)), ((78, 1293), .inl (0, 0))], 101, 0, 0), 0, 2)]
set_option maxRecDepth 100000 in
theorem ck_k391 (l : Launch) (D : va_G) (st : Nat → Nat) : ck_Mt l D st ck_c391 := ck_sound (T := ck_T13) (cs := [ck_c41]) (hs := ck_h391) (sp := []) (fuel := 37) l ck_TSgood ck_okCl (ck_own (M0 := ck_m155) rfl rfl ck_okT13) (ck_cons (ck_k41 l D st) ck_nil) (by decide +kernel)
/-- SL.status -/
def ck_c392 : ck_C := (156, 101, [.inr (0, 0)], [((0, 15), .inl (0, 0))], [], [(some (.inl (0, 0)), [], [], 101)], 0, 0, 0, 0)
def ck_h392 : List ck_Hd := []
set_option maxRecDepth 100000 in
theorem ck_k392 (l : Launch) (D : va_G) (st : Nat → Nat) : ck_Mt l D st ck_c392 := ck_sound (T := ck_T0) (cs := []) (hs := ck_h392) (sp := []) (fuel := 27) l ck_TSgood ck_okCl (ck_own (M0 := ck_m156) rfl rfl ck_okT0) ck_nil (by decide +kernel)
/-- SLModel.status -/
def ck_c393 : ck_C := (157, 101, [.inr (0, 77)], [((77, 1), .inl (0, 0))], [], [(some (.inl (0, 0)), [], [], 101)], 0, 0, 0, 0)
def ck_h393 : List ck_Hd := []
set_option maxRecDepth 100000 in
theorem ck_k393 (l : Launch) (D : va_G) (st : Nat → Nat) : ck_Mt l D st ck_c393 := ck_sound (T := ck_T13) (cs := []) (hs := ck_h393) (sp := []) (fuel := 27) l ck_TSgood ck_okCl (ck_own (M0 := ck_m157) rfl rfl ck_okT13) ck_nil (by decide +kernel)
