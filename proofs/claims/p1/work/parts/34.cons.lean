/-- SL$Reader.read -/
def ck_c160 : ck_C := (47, 101, [.inr (0, 47)], [((45, 2), .inl (0, 0)), ((47, 1), .inr (0, 45)), ((47, 8), .inl (0, 0)), ((47, 10), .inl (0, 0))], [(47, 3), (47, 5), (47, 6), (47, 7), (47, 8), (47, 9), (47, 10), (47, 11)], [(some (.inr (1, 0)), [], [((47, 3), .inl (0, 0)), ((47, 5), .inl (0, 0)), ((47, 6), .inl (0, 0)), ((47, 7), .inl (0, 0)), ((47, 8), .inl (0, 0)), ((47, 9), .inl (0, 0)), ((47, 10), .inl (0, 0)), ((47, 11), .inl (0, 0))], 101)], 3, 67, 0, 0)
def ck_h160 : List ck_Hd := [(31, ([], [(1, .inl (0, 0, 0)), (0, .inr (0, 47))], [], [((45, 2), .inl (0, 0)), ((47, 1), .inr (0, 45)), ((47, 3), .inl (0, 0)), ((47, 5), .inl (0, 0)), ((47, 6), .inl (0, 0)), ((47, 7), .inl (0, 0)), ((47, 8), .inl (0, 0)), ((47, 9), .inl (0, 0)), ((47, 10), .inl (0, 0)), ((47, 11), .inl (0, 0))], 101, 0, 0), 0, 2)]
set_option maxRecDepth 100000 in
theorem ck_k160 (l : Launch) (D : va_G) (st : Nat → Nat) : ck_Mt l D st ck_c160 := ck_sound (T := ck_T6) (cs := [ck_c151, ck_c159]) (hs := ck_h160) (sp := []) (fuel := 51) l ck_TSgood ck_okCl (ck_own (M0 := ck_m47) rfl rfl ck_okT6) (ck_cons (ck_k151 l D st) (ck_cons (ck_k159 l D st) ck_nil)) (by decide +kernel)
/-- SL$Reader.placeReached -/
def ck_c161 : ck_C := (54, 101, [.inr (0, 47)], [((47, 9), .inl (0, 0))], [], [(some (.inl (0, 0)), [], [], 101)], 0, 0, 0, 0)
def ck_h161 : List ck_Hd := []
set_option maxRecDepth 100000 in
theorem ck_k161 (l : Launch) (D : va_G) (st : Nat → Nat) : ck_Mt l D st ck_c161 := ck_sound (T := ck_T6) (cs := []) (hs := ck_h161) (sp := []) (fuel := 27) l ck_TSgood ck_okCl (ck_own (M0 := ck_m54) rfl rfl ck_okT6) ck_nil (by decide +kernel)
/-- SL.refuse -/
def ck_c162 : ck_C := (17, 101, [.inr (0, 0), .inl ((-6), (-6))], [], [(0, 15)], [(some (.inl ((-6), (-6))), [((-6), (-6))], [((0, 15), .inl ((-6), (-6)))], 101)], 0, 0, 0, 0)
def ck_h162 : List ck_Hd := []
set_option maxRecDepth 100000 in
theorem ck_k162 (l : Launch) (D : va_G) (st : Nat → Nat) : ck_Mt l D st ck_c162 := ck_sound (T := ck_T0) (cs := []) (hs := ck_h162) (sp := []) (fuel := 29) l ck_TSgood ck_okCl (ck_own (M0 := ck_m17) rfl rfl ck_okT0) ck_nil (by decide +kernel)
/-- SL.text -/
def ck_c163 : ck_C := (46, 101, [.inr (0, 0)], [((0, 1), .inr (0, 1)), ((0, 4), .inr (0, 45)), ((0, 5), .inr (0, 47)), ((1, 12), .inl (0, 0)), ((45, 2), .inl (0, 0)), ((47, 1), .inr (0, 45)), ((47, 8), .inl (0, 0)), ((47, 9), .inl (0, 0)), ((47, 10), .inl (0, 0))], [(0, 14), (0, 15), (45, 2), (47, 3), (47, 5), (47, 6), (47, 7), (47, 8), (47, 9), (47, 10), (47, 11)], [(some (.inl ((-6), (-6))), [], [((0, 14), .inl (0, 0)), ((0, 15), .inl ((-6), (-6))), ((45, 2), .inl (0, 0)), ((47, 3), .inl (0, 0)), ((47, 5), .inl (0, 0)), ((47, 6), .inl (0, 0)), ((47, 7), .inl (0, 0)), ((47, 8), .inl (0, 0)), ((47, 9), .inl (0, 0)), ((47, 10), .inl (0, 0)), ((47, 11), .inl (0, 0))], 101)], 4, 88, 0, 0)
def ck_h163 : List ck_Hd := []
set_option maxRecDepth 100000 in
theorem ck_k163 (l : Launch) (D : va_G) (st : Nat → Nat) : ck_Mt l D st ck_c163 := ck_sound (T := ck_T0) (cs := [ck_c160, ck_c161, ck_c162]) (hs := ck_h163) (sp := []) (fuel := 48) l ck_TSgood ck_okCl (ck_own (M0 := ck_m46) rfl rfl ck_okT0) (ck_cons (ck_k160 l D st) (ck_cons (ck_k161 l D st) (ck_cons (ck_k162 l D st) ck_nil))) (by decide +kernel)
/-- SLModel.splits -/
def ck_c164 : ck_C := (57, 101, [.inr (0, 77), .inl (0, 0)], [((77, 10), .inr (0, 84)), ((77, 11), .inr (0, 85)), ((77, 12), .inr (0, 86)), ((77, 13), .inl (0, 0)), ((84, 0), .inl (0, 0)), ((85, 0), .inl (0, 0)), ((86, 0), .inl (0, 0))], [(77, 13), (84, 0), (85, 0), (86, 0)], [(none, [(0, 0)], [((77, 13), .inl (0, 0)), ((84, 0), .inl (0, 0)), ((85, 0), .inl (0, 0)), ((86, 0), .inl (0, 0))], 101)], 0, 0, 0, 0)
def ck_h164 : List ck_Hd := [(7, ([(0, 0, 0, (0, 0, 0))], [(2, .inl (0, 0, 0)), (0, .inr (0, 77)), (1, .inl (0, 1, 0))], [], [((77, 10), .inr (0, 84)), ((77, 11), .inr (0, 85)), ((77, 12), .inr (0, 86)), ((77, 13), .inl (0, 0)), ((84, 0), .inl (0, 0)), ((85, 0), .inl (0, 0)), ((86, 0), .inl (0, 0))], 101, 0, 0), 0, 2)]
set_option maxRecDepth 100000 in
theorem ck_k164 (l : Launch) (D : va_G) (st : Nat → Nat) : ck_Mt l D st ck_c164 := ck_sound (T := ck_T13) (cs := []) (hs := ck_h164) (sp := []) (fuel := 51) l ck_TSgood ck_okCl (ck_own (M0 := ck_m57) rfl rfl ck_okT13) ck_nil (by decide +kernel)
/-- SLModel.fine -/
def ck_c165 : ck_C := (60, 101, [.inr (0, 77)], [((77, 16), .inl ((-1), (-1)))], [], [(some (.inl (1, 1)), [], [], 101)], 0, 0, 0, 0)
def ck_h165 : List ck_Hd := []
set_option maxRecDepth 100000 in
theorem ck_k165 (l : Launch) (D : va_G) (st : Nat → Nat) : ck_Mt l D st ck_c165 := ck_sound (T := ck_T13) (cs := []) (hs := ck_h165) (sp := []) (fuel := 31) l ck_TSgood ck_okCl (ck_own (M0 := ck_m60) rfl rfl ck_okT13) ck_nil (by decide +kernel)
/-- SLModel.takes -/
def ck_c166 : ck_C := (59, 101, [.inr (0, 77), .inl (1, 1)], [((77, 10), .inr (0, 84)), ((77, 14), .inl (0, 0)), ((77, 16), .inl ((-1), (-1))), ((84, 0), .inl (0, 0))], [], [(some (.inl (0, 0)), [(1, 1)], [], 101)], 1, 20, 0, 0)
def ck_h166 : List ck_Hd := []
set_option maxRecDepth 100000 in
theorem ck_k166 (l : Launch) (D : va_G) (st : Nat → Nat) : ck_Mt l D st ck_c166 := ck_sound (T := ck_T13) (cs := [ck_c165]) (hs := ck_h166) (sp := []) (fuel := 40) l ck_TSgood ck_okCl (ck_own (M0 := ck_m59) rfl rfl ck_okT13) (ck_cons (ck_k165 l D st) ck_nil) (by decide +kernel)
/-- SLModel.takes -/
def ck_c167 : ck_C := (59, 101, [.inr (0, 77), .inl (5, 5)], [((77, 10), .inr (0, 84)), ((77, 14), .inl (0, 0)), ((77, 16), .inl ((-1), (-1))), ((84, 0), .inl (0, 0))], [], [(some (.inl (0, 0)), [(5, 5)], [], 101)], 1, 20, 0, 0)
def ck_h167 : List ck_Hd := []
set_option maxRecDepth 100000 in
theorem ck_k167 (l : Launch) (D : va_G) (st : Nat → Nat) : ck_Mt l D st ck_c167 := ck_sound (T := ck_T13) (cs := [ck_c165]) (hs := ck_h167) (sp := []) (fuel := 40) l ck_TSgood ck_okCl (ck_own (M0 := ck_m59) rfl rfl ck_okT13) (ck_cons (ck_k165 l D st) ck_nil) (by decide +kernel)
/-- SLModel.takes -/
def ck_c168 : ck_C := (59, 101, [.inr (0, 77), .inl (6, 6)], [((77, 10), .inr (0, 84)), ((77, 14), .inl (0, 0)), ((77, 16), .inl ((-1), (-1))), ((84, 0), .inl (0, 0))], [], [(some (.inl (0, 0)), [(6, 6)], [], 101)], 1, 20, 0, 0)
def ck_h168 : List ck_Hd := []
set_option maxRecDepth 100000 in
theorem ck_k168 (l : Launch) (D : va_G) (st : Nat → Nat) : ck_Mt l D st ck_c168 := ck_sound (T := ck_T13) (cs := [ck_c165]) (hs := ck_h168) (sp := []) (fuel := 40) l ck_TSgood ck_okCl (ck_own (M0 := ck_m59) rfl rfl ck_okT13) (ck_cons (ck_k165 l D st) ck_nil) (by decide +kernel)
/-- SLModel.takes -/
def ck_c169 : ck_C := (59, 101, [.inr (0, 77), .inl (3, 3)], [((77, 10), .inr (0, 84)), ((77, 14), .inl (0, 0)), ((77, 16), .inl ((-1), (-1))), ((84, 0), .inl (0, 0))], [], [(some (.inl (0, 0)), [(3, 3)], [], 101)], 1, 20, 0, 0)
def ck_h169 : List ck_Hd := []
set_option maxRecDepth 100000 in
theorem ck_k169 (l : Launch) (D : va_G) (st : Nat → Nat) : ck_Mt l D st ck_c169 := ck_sound (T := ck_T13) (cs := [ck_c165]) (hs := ck_h169) (sp := []) (fuel := 40) l ck_TSgood ck_okCl (ck_own (M0 := ck_m59) rfl rfl ck_okT13) (ck_cons (ck_k165 l D st) ck_nil) (by decide +kernel)
/-- SLModel.takes -/
def ck_c170 : ck_C := (59, 101, [.inr (0, 77), .inl (4, 4)], [((77, 10), .inr (0, 84)), ((77, 14), .inl (0, 0)), ((77, 16), .inl ((-1), (-1))), ((84, 0), .inl (0, 0))], [], [(some (.inl (0, 0)), [(4, 4)], [], 101)], 1, 20, 0, 0)
def ck_h170 : List ck_Hd := []
set_option maxRecDepth 100000 in
theorem ck_k170 (l : Launch) (D : va_G) (st : Nat → Nat) : ck_Mt l D st ck_c170 := ck_sound (T := ck_T13) (cs := [ck_c165]) (hs := ck_h170) (sp := []) (fuel := 40) l ck_TSgood ck_okCl (ck_own (M0 := ck_m59) rfl rfl ck_okT13) (ck_cons (ck_k165 l D st) ck_nil) (by decide +kernel)
/-- SLModel.faults -/
def ck_c171 : ck_C := (62, 101, [.inr (0, 77)], [((77, 12), .inr (0, 86)), ((77, 14), .inl (0, 0)), ((77, 16), .inl ((-1), (-1))), ((86, 0), .inl (0, 0))], [(77, 16)], [(none, [], [((77, 16), .inl (0, 0))], 101)], 1, 20, 0, 0)
def ck_h171 : List ck_Hd := []
set_option maxRecDepth 100000 in
theorem ck_k171 (l : Launch) (D : va_G) (st : Nat → Nat) : ck_Mt l D st ck_c171 := ck_sound (T := ck_T13) (cs := [ck_c165]) (hs := ck_h171) (sp := []) (fuel := 35) l ck_TSgood ck_okCl (ck_own (M0 := ck_m62) rfl rfl ck_okT13) (ck_cons (ck_k165 l D st) ck_nil) (by decide +kernel)
/-- SLModel.must -/
def ck_c172 : ck_C := (61, 101, [.inr (0, 77), .inl (4, 4)], [((77, 10), .inr (0, 84)), ((77, 12), .inr (0, 86)), ((77, 14), .inl (0, 0)), ((77, 16), .inl ((-1), (-1))), ((84, 0), .inl (0, 0)), ((86, 0), .inl (0, 0))], [(77, 16)], [(none, [(4, 4)], [((77, 16), .inl (0, 0))], 101)], 2, 42, 0, 0)
def ck_h172 : List ck_Hd := []
set_option maxRecDepth 100000 in
theorem ck_k172 (l : Launch) (D : va_G) (st : Nat → Nat) : ck_Mt l D st ck_c172 := ck_sound (T := ck_T13) (cs := [ck_c170, ck_c171]) (hs := ck_h172) (sp := []) (fuel := 31) l ck_TSgood ck_okCl (ck_own (M0 := ck_m61) rfl rfl ck_okT13) (ck_cons (ck_k170 l D st) (ck_cons (ck_k171 l D st) ck_nil)) (by decide +kernel)
/-- SLModel.fine -/
def ck_c173 : ck_C := (60, 101, [.inr (0, 77)], [((77, 16), .inl (0, 0))], [], [(some (.inl (0, 0)), [], [], 101)], 0, 0, 0, 0)
def ck_h173 : List ck_Hd := []
set_option maxRecDepth 100000 in
theorem ck_k173 (l : Launch) (D : va_G) (st : Nat → Nat) : ck_Mt l D st ck_c173 := ck_sound (T := ck_T13) (cs := []) (hs := ck_h173) (sp := []) (fuel := 30) l ck_TSgood ck_okCl (ck_own (M0 := ck_m60) rfl rfl ck_okT13) ck_nil (by decide +kernel)
/-- SLModel.takes -/
def ck_c174 : ck_C := (59, 101, [.inr (0, 77), .inl (7, 7)], [((77, 16), .inl (0, 0))], [], [(some (.inl (0, 0)), [(7, 7)], [], 101)], 1, 20, 0, 0)
def ck_h174 : List ck_Hd := []
set_option maxRecDepth 100000 in
theorem ck_k174 (l : Launch) (D : va_G) (st : Nat → Nat) : ck_Mt l D st ck_c174 := ck_sound (T := ck_T13) (cs := [ck_c173]) (hs := ck_h174) (sp := []) (fuel := 33) l ck_TSgood ck_okCl (ck_own (M0 := ck_m59) rfl rfl ck_okT13) (ck_cons (ck_k173 l D st) ck_nil) (by decide +kernel)
/-- SLModel.readClause -/
def ck_c175 : ck_C := (58, 101, [.inr (0, 77)], [((77, 10), .inr (0, 84)), ((77, 12), .inr (0, 86)), ((77, 14), .inl (0, 0)), ((77, 16), .inl ((-1), (-1))), ((84, 0), .inl (0, 0)), ((86, 0), .inl (0, 0))], [(77, 16)], [(none, [], [((77, 16), .inl (0, 0))], 101)], 3, 63, 0, 0)
def ck_h175 : List ck_Hd := []
set_option maxRecDepth 100000 in
theorem ck_k175 (l : Launch) (D : va_G) (st : Nat → Nat) : ck_Mt l D st ck_c175 := ck_sound (T := ck_T13) (cs := [ck_c166, ck_c167, ck_c168, ck_c169, ck_c172, ck_c174]) (hs := ck_h175) (sp := []) (fuel := 48) l ck_TSgood ck_okCl (ck_own (M0 := ck_m58) rfl rfl ck_okT13) (ck_cons (ck_k166 l D st) (ck_cons (ck_k167 l D st) (ck_cons (ck_k168 l D st) (ck_cons (ck_k169 l D st) (ck_cons (ck_k172 l D st) (ck_cons (ck_k174 l D st) ck_nil)))))) (by decide +kernel)
/-- SLModel.sign -/
def ck_c176 : ck_C := (63, 101, [.inl (59, 59)], [], [], [(some (.inl (159, 159)), [(59, 59)], [], 101)], 0, 0, 0, 0)
def ck_h176 : List ck_Hd := []
set_option maxRecDepth 100000 in
theorem ck_k176 (l : Launch) (D : va_G) (st : Nat → Nat) : ck_Mt l D st ck_c176 := ck_sound (T := ck_T13) (cs := []) (hs := ck_h176) (sp := []) (fuel := 28) l ck_TSgood ck_okCl (ck_own (M0 := ck_m63) rfl rfl ck_okT13) ck_nil (by decide +kernel)
/-- SLModel.takes -/
def ck_c177 : ck_C := (59, 101, [.inr (0, 77), .inl (159, 159)], [((77, 16), .inl (0, 0))], [], [(some (.inl (0, 0)), [(159, 159)], [], 101)], 1, 20, 0, 0)
def ck_h177 : List ck_Hd := []
set_option maxRecDepth 100000 in
theorem ck_k177 (l : Launch) (D : va_G) (st : Nat → Nat) : ck_Mt l D st ck_c177 := ck_sound (T := ck_T13) (cs := [ck_c173]) (hs := ck_h177) (sp := []) (fuel := 33) l ck_TSgood ck_okCl (ck_own (M0 := ck_m59) rfl rfl ck_okT13) (ck_cons (ck_k173 l D st) ck_nil) (by decide +kernel)
/-- SLModel.reads -/
def ck_c178 : ck_C := (56, 101, [.inr (0, 77)], [((77, 8), .inl (0, 0)), ((77, 10), .inr (0, 84)), ((77, 11), .inr (0, 85)), ((77, 12), .inr (0, 86)), ((77, 13), .inl (0, 0)), ((77, 14), .inl (0, 0)), ((77, 16), .inl (0, 0)), ((84, 0), .inl (0, 0)), ((85, 0), .inl (0, 0)), ((86, 0), .inl (0, 0))], [(77, 8), (77, 9), (77, 13), (77, 14), (77, 15), (77, 16), (84, 0), (85, 0), (86, 0)], [(some (.inl (0, 0)), [], [((77, 8), .inl (0, 0)), ((77, 9), .inl (0, 0)), ((77, 13), .inl (0, 0)), ((77, 14), .inl (0, 0)), ((77, 15), .inl (0, 0)), ((77, 16), .inl (0, 0)), ((84, 0), .inl (0, 0)), ((85, 0), .inl (0, 0)), ((86, 0), .inl (0, 0))], 101)], 4, 83, 0, 0)
def ck_h178 : List ck_Hd := [(34, ([], [(1, .inl (0, 0, 1)), (0, .inr (0, 77))], [], [((77, 8), .inl (0, 0)), ((77, 10), .inr (0, 84)), ((77, 11), .inr (0, 85)), ((77, 12), .inr (0, 86)), ((77, 13), .inl (0, 0)), ((77, 14), .inl (0, 0)), ((77, 15), .inl (0, 0)), ((77, 16), .inl (0, 0)), ((84, 0), .inl (0, 0)), ((85, 0), .inl (0, 0)), ((86, 0), .inl (0, 0))], 101, 0, 0), 0, 2)]
set_option maxRecDepth 100000 in
theorem ck_k178 (l : Launch) (D : va_G) (st : Nat → Nat) : ck_Mt l D st ck_c178 := ck_sound (T := ck_T13) (cs := [ck_c164, ck_c175, ck_c176, ck_c177, ck_c173]) (hs := ck_h178) (sp := []) (fuel := 59) l ck_TSgood ck_okCl (ck_own (M0 := ck_m56) rfl rfl ck_okT13) (ck_cons (ck_k164 l D st) (ck_cons (ck_k175 l D st) (ck_cons (ck_k176 l D st) (ck_cons (ck_k177 l D st) (ck_cons (ck_k173 l D st) ck_nil))))) (by decide +kernel)
/-- SLModel.refuses -/
def ck_c179 : ck_C := (22, 101, [.inr (0, 77), .inl ((-6), (-6))], [], [(77, 1)], [(some (.inl ((-6), (-6))), [((-6), (-6))], [((77, 1), .inl ((-6), (-6)))], 101)], 0, 0, 0, 0)
def ck_h179 : List ck_Hd := []
set_option maxRecDepth 100000 in
theorem ck_k179 (l : Launch) (D : va_G) (st : Nat → Nat) : ck_Mt l D st ck_c179 := ck_sound (T := ck_T13) (cs := []) (hs := ck_h179) (sp := []) (fuel := 29) l ck_TSgood ck_okCl (ck_own (M0 := ck_m22) rfl rfl ck_okT13) ck_nil (by decide +kernel)
/-- SLModel.text -/
def ck_c180 : ck_C := (55, 101, [.inr (0, 77)], [((77, 2), .inr (0, 78)), ((77, 8), .inl (0, 0)), ((77, 10), .inr (0, 84)), ((77, 11), .inr (0, 85)), ((77, 12), .inr (0, 86)), ((77, 13), .inl (0, 0)), ((77, 14), .inl (0, 0)), ((77, 16), .inl (0, 0)), ((78, 1295), .inl (0, 0)), ((84, 0), .inl (0, 0)), ((85, 0), .inl (0, 0)), ((86, 0), .inl (0, 0))], [(77, 1), (77, 8), (77, 9), (77, 13), (77, 14), (77, 15), (77, 16), (84, 0), (85, 0), (86, 0)], [(some (.inl ((-6), (-6))), [], [((77, 1), .inl ((-6), (-6))), ((77, 8), .inl (0, 0)), ((77, 9), .inl (0, 0)), ((77, 13), .inl (0, 0)), ((77, 14), .inl (0, 0)), ((77, 15), .inl (0, 0)), ((77, 16), .inl (0, 0)), ((84, 0), .inl (0, 0)), ((85, 0), .inl (0, 0)), ((86, 0), .inl (0, 0))], 101)], 5, 104, 0, 0)
def ck_h180 : List ck_Hd := []
set_option maxRecDepth 100000 in
theorem ck_k180 (l : Launch) (D : va_G) (st : Nat → Nat) : ck_Mt l D st ck_c180 := ck_sound (T := ck_T13) (cs := [ck_c178, ck_c179]) (hs := ck_h180) (sp := []) (fuel := 37) l ck_TSgood ck_okCl (ck_own (M0 := ck_m55) rfl rfl ck_okT13) (ck_cons (ck_k178 l D st) (ck_cons (ck_k179 l D st) ck_nil)) (by decide +kernel)
/-- SL.fault -/
def ck_c181 : ck_C := (64, 101, [.inr (0, 0)], [((0, 14), .inl ((-1), (-1)))], [], [(some (.inl ((-1), (-1))), [], [], 101)], 0, 0, 0, 0)
def ck_h181 : List ck_Hd := []
set_option maxRecDepth 100000 in
theorem ck_k181 (l : Launch) (D : va_G) (st : Nat → Nat) : ck_Mt l D st ck_c181 := ck_sound (T := ck_T0) (cs := []) (hs := ck_h181) (sp := []) (fuel := 27) l ck_TSgood ck_okCl (ck_own (M0 := ck_m64) rfl rfl ck_okT0) ck_nil (by decide +kernel)
/-- SLModel.fault -/
def ck_c182 : ck_C := (65, 101, [.inr (0, 77)], [((77, 9), .inl ((-1), (-1)))], [], [(some (.inl ((-1), (-1))), [], [], 101)], 0, 0, 0, 0)
def ck_h182 : List ck_Hd := []
set_option maxRecDepth 100000 in
theorem ck_k182 (l : Launch) (D : va_G) (st : Nat → Nat) : ck_Mt l D st ck_c182 := ck_sound (T := ck_T13) (cs := []) (hs := ck_h182) (sp := []) (fuel := 27) l ck_TSgood ck_okCl (ck_own (M0 := ck_m65) rfl rfl ck_okT13) ck_nil (by decide +kernel)
/-- SL.law -/
def ck_c183 : ck_C := (66, 101, [.inr (0, 0), .inl ((-2147483648), 2147483647)], [((0, 1), .inr (0, 1)), ((1, 12), .inl (0, 0))], [(0, 15)], [(some (.inl ((-2), (-2))), [((-2147483648), (-1))], [((0, 15), .inl ((-2), (-2)))], 101), (some (.inl ((-2), (-2))), [(0, 2147483647)], [((0, 15), .inl ((-2), (-2)))], 101)], 1, 22, 0, 0)
def ck_h183 : List ck_Hd := []
set_option maxRecDepth 100000 in
theorem ck_k183 (l : Launch) (D : va_G) (st : Nat → Nat) : ck_Mt l D st ck_c183 := ck_sound (T := ck_T0) (cs := [ck_c48, ck_c50]) (hs := ck_h183) (sp := []) (fuel := 37) l ck_TSgood ck_okCl (ck_own (M0 := ck_m66) rfl rfl ck_okT0) (ck_cons (ck_k48 l D st) (ck_cons (ck_k50 l D st) ck_nil)) (by decide +kernel)
/-- SLModel.isText -/
def ck_c184 : ck_C := (68, 101, [.inr (0, 77), .inl ((-2147483648), (-1))], [((77, 2), .inr (0, 78)), ((78, 1295), .inl (0, 0))], [], [(some (.inl (0, 0)), [((-2147483648), (-1))], [], 101)], 1, 22, 0, 0)
def ck_h184 : List ck_Hd := []
set_option maxRecDepth 100000 in
theorem ck_k184 (l : Launch) (D : va_G) (st : Nat → Nat) : ck_Mt l D st ck_c184 := ck_sound (T := ck_T13) (cs := [ck_c67]) (hs := ck_h184) (sp := []) (fuel := 34) l ck_TSgood ck_okCl (ck_own (M0 := ck_m68) rfl rfl ck_okT13) (ck_cons (ck_k67 l D st) ck_nil) (by decide +kernel)
/-- SLModel.law -/
def ck_c185 : ck_C := (67, 101, [.inr (0, 77), .inl ((-2147483648), (-1))], [((77, 2), .inr (0, 78)), ((78, 1295), .inl (0, 0))], [(77, 1)], [(some (.inl ((-2), (-2))), [((-2147483648), (-1))], [((77, 1), .inl ((-2), (-2)))], 101)], 2, 43, 0, 0)
def ck_h185 : List ck_Hd := []
set_option maxRecDepth 100000 in
theorem ck_k185 (l : Launch) (D : va_G) (st : Nat → Nat) : ck_Mt l D st ck_c185 := ck_sound (T := ck_T13) (cs := [ck_c184, ck_c69]) (hs := ck_h185) (sp := []) (fuel := 32) l ck_TSgood ck_okCl (ck_own (M0 := ck_m67) rfl rfl ck_okT13) (ck_cons (ck_k184 l D st) (ck_cons (ck_k69 l D st) ck_nil)) (by decide +kernel)
/-- SLModel.isText -/
def ck_c186 : ck_C := (68, 101, [.inr (0, 77), .inl (0, 2147483647)], [((77, 2), .inr (0, 78)), ((78, 1295), .inl (0, 0))], [], [(some (.inl (0, 0)), [(0, 2147483647)], [], 101)], 1, 22, 0, 0)
def ck_h186 : List ck_Hd := []
set_option maxRecDepth 100000 in
theorem ck_k186 (l : Launch) (D : va_G) (st : Nat → Nat) : ck_Mt l D st ck_c186 := ck_sound (T := ck_T13) (cs := [ck_c71]) (hs := ck_h186) (sp := []) (fuel := 34) l ck_TSgood ck_okCl (ck_own (M0 := ck_m68) rfl rfl ck_okT13) (ck_cons (ck_k71 l D st) ck_nil) (by decide +kernel)
/-- SLModel.law -/
def ck_c187 : ck_C := (67, 101, [.inr (0, 77), .inl (0, 2147483647)], [((77, 2), .inr (0, 78)), ((78, 1295), .inl (0, 0))], [(77, 1)], [(some (.inl ((-2), (-2))), [(0, 2147483647)], [((77, 1), .inl ((-2), (-2)))], 101)], 2, 43, 0, 0)
def ck_h187 : List ck_Hd := []
set_option maxRecDepth 100000 in
theorem ck_k187 (l : Launch) (D : va_G) (st : Nat → Nat) : ck_Mt l D st ck_c187 := ck_sound (T := ck_T13) (cs := [ck_c186, ck_c69]) (hs := ck_h187) (sp := []) (fuel := 32) l ck_TSgood ck_okCl (ck_own (M0 := ck_m67) rfl rfl ck_okT13) (ck_cons (ck_k186 l D st) (ck_cons (ck_k69 l D st) ck_nil)) (by decide +kernel)
/-- SL.cuts -/
def ck_c188 : ck_C := (69, 101, [.inr (0, 0), .inl ((-2147483648), 2147483647), .inl ((-2147483648), 2147483647), .inl ((-2147483648), 2147483647), .inl ((-2147483648), 2147483647)], [((0, 1), .inr (0, 1)), ((1, 1), .inl (0, 0))], [], [(some (.inl ((-1), (-1))), [((-2147483648), (-1)), ((-2147483648), 2147483647), ((-2147483648), 2147483647), ((-2147483648), 2147483647)], [], 101), (some (.inl ((-1), (-1))), [(0, 2147483647), ((-2147483648), 2147483647), ((-2147483648), 2147483647), ((-2147483648), 2147483647)], [], 101)], 2, 43, 0, 0)
def ck_h188 : List ck_Hd := []
set_option maxRecDepth 100000 in
theorem ck_k188 (l : Launch) (D : va_G) (st : Nat → Nat) : ck_Mt l D st ck_c188 := ck_sound (T := ck_T0) (cs := [ck_c49]) (hs := ck_h188) (sp := []) (fuel := 31) l ck_TSgood ck_okCl (ck_own (M0 := ck_m69) rfl rfl ck_okT0) (ck_cons (ck_k49 l D st) ck_nil) (by decide +kernel)
/-- SLModel.cuts -/
def ck_c189 : ck_C := (70, 101, [.inr (0, 77), .inl ((-2147483648), (-1)), .inl ((-2147483648), 2147483647), .inl ((-2147483648), 2147483647), .inl ((-2147483648), 2147483647)], [((77, 2), .inr (0, 78)), ((78, 1293), .inl (0, 0))], [], [(some (.inl ((-1), (-1))), [((-2147483648), (-1)), ((-2147483648), 2147483647), ((-2147483648), 2147483647), ((-2147483648), 2147483647)], [], 101)], 2, 43, 0, 0)
def ck_h189 : List ck_Hd := []
set_option maxRecDepth 100000 in
theorem ck_k189 (l : Launch) (D : va_G) (st : Nat → Nat) : ck_Mt l D st ck_c189 := ck_sound (T := ck_T13) (cs := [ck_c68]) (hs := ck_h189) (sp := []) (fuel := 30) l ck_TSgood ck_okCl (ck_own (M0 := ck_m70) rfl rfl ck_okT13) (ck_cons (ck_k68 l D st) ck_nil) (by decide +kernel)
/-- SLModel.cuts -/
def ck_c190 : ck_C := (70, 101, [.inr (0, 77), .inl (0, 2147483647), .inl ((-2147483648), 2147483647), .inl ((-2147483648), 2147483647), .inl ((-2147483648), 2147483647)], [((77, 2), .inr (0, 78)), ((78, 1293), .inl (0, 0))], [], [(some (.inl ((-1), (-1))), [(0, 2147483647), ((-2147483648), 2147483647), ((-2147483648), 2147483647), ((-2147483648), 2147483647)], [], 101)], 2, 43, 0, 0)
def ck_h190 : List ck_Hd := []
set_option maxRecDepth 100000 in
theorem ck_k190 (l : Launch) (D : va_G) (st : Nat → Nat) : ck_Mt l D st ck_c190 := ck_sound (T := ck_T13) (cs := [ck_c72]) (hs := ck_h190) (sp := []) (fuel := 30) l ck_TSgood ck_okCl (ck_own (M0 := ck_m70) rfl rfl ck_okT13) (ck_cons (ck_k72 l D st) ck_nil) (by decide +kernel)
/-- SL.trial -/
def ck_c191 : ck_C := (71, 101, [.inr (0, 0), .inl ((-2147483648), 2147483647), .inl ((-2147483648), 2147483647), .inl ((-2147483648), 2147483647), .inl ((-2147483648), 2147483647), .inl ((-2147483648), 2147483647), .inl ((-2147483648), 2147483647)], [((0, 1), .inr (0, 1)), ((1, 1), .inl (0, 0))], [(0, 15)], [(some (.inl ((-1), (-1))), [((-2147483648), 2147483647), ((-2147483648), 2147483647), ((-2147483648), (-1)), ((-2147483648), 2147483647), ((-2147483648), 2147483647), ((-2147483648), 2147483647)], [((0, 15), .inl ((-1), (-1)))], 101), (some (.inl ((-1), (-1))), [((-2147483648), 2147483647), ((-2147483648), 2147483647), (3, 2147483647), ((-2147483648), 2147483647), ((-2147483648), 2147483647), ((-2147483648), 2147483647)], [((0, 15), .inl ((-1), (-1)))], 101), (some (.inl ((-1), (-1))), [((-2147483648), 2147483647), ((-2147483648), 2147483647), (0, 2), ((-2147483648), (-1)), ((-2147483648), 2147483647), ((-2147483648), 2147483647)], [((0, 15), .inl ((-1), (-1)))], 101), (some (.inl ((-1), (-1))), [((-2147483648), 2147483647), ((-2147483648), 2147483647), (0, 2), (4, 2147483647), ((-2147483648), 2147483647), ((-2147483648), 2147483647)], [((0, 15), .inl ((-1), (-1)))], 101), (some (.inl ((-1), (-1))), [((-2147483648), 2147483647), ((-2147483648), 2147483647), (0, 2), (0, 3), ((-2147483648), (-1)), ((-2147483648), 2147483647)], [((0, 15), .inl ((-1), (-1)))], 101), (some (.inl ((-1), (-1))), [((-2147483648), 2147483647), ((-2147483648), 2147483647), (0, 2), (0, 3), (4, 2147483647), ((-2147483648), 2147483647)], [((0, 15), .inl ((-1), (-1)))], 101), (some (.inl ((-1), (-1))), [((-2147483648), 2147483647), ((-2147483648), 2147483647), (0, 2), (0, 3), (0, 3), ((-2147483648), 0)], [((0, 15), .inl ((-1), (-1)))], 101), (some (.inl ((-1), (-1))), [((-2147483648), 2147483647), ((-2147483648), 2147483647), (0, 2), (0, 3), (0, 3), (101, 2147483647)], [((0, 15), .inl ((-1), (-1)))], 101), (some (.inl ((-2), (-2))), [((-2147483648), (-1)), ((-2147483648), 2147483647), (0, 2), (0, 3), (0, 3), (1, 100)], [((0, 15), .inl ((-2), (-2)))], 101), (some (.inl ((-2), (-2))), [(0, 2147483647), ((-2147483648), 2147483647), (0, 2), (0, 3), (0, 3), (1, 100)], [((0, 15), .inl ((-2), (-2)))], 101)], 2, 43, 0, 0)
def ck_h191 : List ck_Hd := []
set_option maxRecDepth 100000 in
theorem ck_k191 (l : Launch) (D : va_G) (st : Nat → Nat) : ck_Mt l D st ck_c191 := ck_sound (T := ck_T0) (cs := [ck_c46, ck_c19, ck_c114, ck_c20, ck_c49, ck_c50]) (hs := ck_h191) (sp := []) (fuel := 45) l ck_TSgood ck_okCl (ck_own (M0 := ck_m71) rfl rfl ck_okT0) (ck_cons (ck_k46 l D st) (ck_cons (ck_k19 l D st) (ck_cons (ck_k114 l D st) (ck_cons (ck_k20 l D st) (ck_cons (ck_k49 l D st) (ck_cons (ck_k50 l D st) ck_nil)))))) (by decide +kernel)
/-- SLModel.isSpot -/
def ck_c192 : ck_C := (73, 101, [.inl ((-2147483648), (-1)), .inl ((-2147483648), 2147483647)], [], [], [(some (.inl (0, 0)), [((-2147483648), (-1)), ((-2147483648), 2147483647)], [], 101)], 1, 22, 0, 0)
def ck_h192 : List ck_Hd := []
set_option maxRecDepth 100000 in
theorem ck_k192 (l : Launch) (D : va_G) (st : Nat → Nat) : ck_Mt l D st ck_c192 := ck_sound (T := ck_T13) (cs := [ck_c52]) (hs := ck_h192) (sp := []) (fuel := 31) l ck_TSgood ck_okCl (ck_own (M0 := ck_m73) rfl rfl ck_okT13) (ck_cons (ck_k52 l D st) ck_nil) (by decide +kernel)
/-- SLModel.trial -/
def ck_c193 : ck_C := (72, 101, [.inr (0, 77), .inl ((-2147483648), 2147483647), .inl ((-2147483648), 2147483647), .inl ((-2147483648), (-1)), .inl ((-2147483648), 2147483647), .inl ((-2147483648), 2147483647), .inl ((-2147483648), 2147483647)], [], [(77, 1)], [(some (.inl ((-1), (-1))), [((-2147483648), 2147483647), ((-2147483648), 2147483647), ((-2147483648), (-1)), ((-2147483648), 2147483647), ((-2147483648), 2147483647), ((-2147483648), 2147483647)], [((77, 1), .inl ((-1), (-1)))], 101)], 2, 43, 0, 0)
def ck_h193 : List ck_Hd := []
set_option maxRecDepth 100000 in
theorem ck_k193 (l : Launch) (D : va_G) (st : Nat → Nat) : ck_Mt l D st ck_c193 := ck_sound (T := ck_T13) (cs := [ck_c192, ck_c26]) (hs := ck_h193) (sp := []) (fuel := 32) l ck_TSgood ck_okCl (ck_own (M0 := ck_m72) rfl rfl ck_okT13) (ck_cons (ck_k192 l D st) (ck_cons (ck_k26 l D st) ck_nil)) (by decide +kernel)
/-- SLModel.isSpot -/
def ck_c194 : ck_C := (73, 101, [.inl (3, 2147483647), .inl ((-2147483648), 2147483647)], [], [], [(some (.inl (0, 0)), [(3, 2147483647), ((-2147483648), 2147483647)], [], 101)], 1, 22, 0, 0)
def ck_h194 : List ck_Hd := []
set_option maxRecDepth 100000 in
theorem ck_k194 (l : Launch) (D : va_G) (st : Nat → Nat) : ck_Mt l D st ck_c194 := ck_sound (T := ck_T13) (cs := [ck_c54]) (hs := ck_h194) (sp := []) (fuel := 31) l ck_TSgood ck_okCl (ck_own (M0 := ck_m73) rfl rfl ck_okT13) (ck_cons (ck_k54 l D st) ck_nil) (by decide +kernel)
/-- SLModel.trial -/
def ck_c195 : ck_C := (72, 101, [.inr (0, 77), .inl ((-2147483648), 2147483647), .inl ((-2147483648), 2147483647), .inl (3, 2147483647), .inl ((-2147483648), 2147483647), .inl ((-2147483648), 2147483647), .inl ((-2147483648), 2147483647)], [], [(77, 1)], [(some (.inl ((-1), (-1))), [((-2147483648), 2147483647), ((-2147483648), 2147483647), (3, 2147483647), ((-2147483648), 2147483647), ((-2147483648), 2147483647), ((-2147483648), 2147483647)], [((77, 1), .inl ((-1), (-1)))], 101)], 2, 43, 0, 0)
def ck_h195 : List ck_Hd := []
set_option maxRecDepth 100000 in
theorem ck_k195 (l : Launch) (D : va_G) (st : Nat → Nat) : ck_Mt l D st ck_c195 := ck_sound (T := ck_T13) (cs := [ck_c194, ck_c26]) (hs := ck_h195) (sp := []) (fuel := 32) l ck_TSgood ck_okCl (ck_own (M0 := ck_m72) rfl rfl ck_okT13) (ck_cons (ck_k194 l D st) (ck_cons (ck_k26 l D st) ck_nil)) (by decide +kernel)
/-- SLModel.isSpot -/
def ck_c196 : ck_C := (73, 101, [.inl (0, 2), .inl ((-2147483648), (-1))], [], [], [(some (.inl (0, 0)), [(0, 2), ((-2147483648), (-1))], [], 101)], 1, 22, 0, 0)
def ck_h196 : List ck_Hd := []
set_option maxRecDepth 100000 in
theorem ck_k196 (l : Launch) (D : va_G) (st : Nat → Nat) : ck_Mt l D st ck_c196 := ck_sound (T := ck_T13) (cs := [ck_c56, ck_c57]) (hs := ck_h196) (sp := []) (fuel := 36) l ck_TSgood ck_okCl (ck_own (M0 := ck_m73) rfl rfl ck_okT13) (ck_cons (ck_k56 l D st) (ck_cons (ck_k57 l D st) ck_nil)) (by decide +kernel)
/-- SLModel.trial -/
def ck_c197 : ck_C := (72, 101, [.inr (0, 77), .inl ((-2147483648), 2147483647), .inl ((-2147483648), 2147483647), .inl (0, 2), .inl ((-2147483648), (-1)), .inl ((-2147483648), 2147483647), .inl ((-2147483648), 2147483647)], [], [(77, 1)], [(some (.inl ((-1), (-1))), [((-2147483648), 2147483647), ((-2147483648), 2147483647), (0, 2), ((-2147483648), (-1)), ((-2147483648), 2147483647), ((-2147483648), 2147483647)], [((77, 1), .inl ((-1), (-1)))], 101)], 2, 43, 0, 0)
def ck_h197 : List ck_Hd := []
set_option maxRecDepth 100000 in
theorem ck_k197 (l : Launch) (D : va_G) (st : Nat → Nat) : ck_Mt l D st ck_c197 := ck_sound (T := ck_T13) (cs := [ck_c196, ck_c26]) (hs := ck_h197) (sp := []) (fuel := 32) l ck_TSgood ck_okCl (ck_own (M0 := ck_m72) rfl rfl ck_okT13) (ck_cons (ck_k196 l D st) (ck_cons (ck_k26 l D st) ck_nil)) (by decide +kernel)
/-- SLModel.isSpot -/
def ck_c198 : ck_C := (73, 101, [.inl (0, 2), .inl (4, 2147483647)], [], [], [(some (.inl (0, 0)), [(0, 2), (4, 2147483647)], [], 101)], 1, 22, 0, 0)
def ck_h198 : List ck_Hd := []
set_option maxRecDepth 100000 in
theorem ck_k198 (l : Launch) (D : va_G) (st : Nat → Nat) : ck_Mt l D st ck_c198 := ck_sound (T := ck_T13) (cs := [ck_c56, ck_c59]) (hs := ck_h198) (sp := []) (fuel := 36) l ck_TSgood ck_okCl (ck_own (M0 := ck_m73) rfl rfl ck_okT13) (ck_cons (ck_k56 l D st) (ck_cons (ck_k59 l D st) ck_nil)) (by decide +kernel)
/-- SLModel.trial -/
def ck_c199 : ck_C := (72, 101, [.inr (0, 77), .inl ((-2147483648), 2147483647), .inl ((-2147483648), 2147483647), .inl (0, 2), .inl (4, 2147483647), .inl ((-2147483648), 2147483647), .inl ((-2147483648), 2147483647)], [], [(77, 1)], [(some (.inl ((-1), (-1))), [((-2147483648), 2147483647), ((-2147483648), 2147483647), (0, 2), (4, 2147483647), ((-2147483648), 2147483647), ((-2147483648), 2147483647)], [((77, 1), .inl ((-1), (-1)))], 101)], 2, 43, 0, 0)
def ck_h199 : List ck_Hd := []
set_option maxRecDepth 100000 in
theorem ck_k199 (l : Launch) (D : va_G) (st : Nat → Nat) : ck_Mt l D st ck_c199 := ck_sound (T := ck_T13) (cs := [ck_c198, ck_c26]) (hs := ck_h199) (sp := []) (fuel := 32) l ck_TSgood ck_okCl (ck_own (M0 := ck_m72) rfl rfl ck_okT13) (ck_cons (ck_k198 l D st) (ck_cons (ck_k26 l D st) ck_nil)) (by decide +kernel)
/-- SLModel.isSpot -/
def ck_c200 : ck_C := (73, 101, [.inl (0, 2), .inl (0, 3)], [], [], [(some (.inl (1, 1)), [(0, 2), (0, 3)], [], 101)], 1, 22, 0, 0)
def ck_h200 : List ck_Hd := []
set_option maxRecDepth 100000 in
theorem ck_k200 (l : Launch) (D : va_G) (st : Nat → Nat) : ck_Mt l D st ck_c200 := ck_sound (T := ck_T13) (cs := [ck_c56, ck_c61]) (hs := ck_h200) (sp := []) (fuel := 37) l ck_TSgood ck_okCl (ck_own (M0 := ck_m73) rfl rfl ck_okT13) (ck_cons (ck_k56 l D st) (ck_cons (ck_k61 l D st) ck_nil)) (by decide +kernel)
/-- SLModel.trial -/
def ck_c201 : ck_C := (72, 101, [.inr (0, 77), .inl ((-2147483648), 2147483647), .inl ((-2147483648), 2147483647), .inl (0, 2), .inl (0, 3), .inl ((-2147483648), (-1)), .inl ((-2147483648), 2147483647)], [], [(77, 1)], [(some (.inl ((-1), (-1))), [((-2147483648), 2147483647), ((-2147483648), 2147483647), (0, 2), (0, 3), ((-2147483648), (-1)), ((-2147483648), 2147483647)], [((77, 1), .inl ((-1), (-1)))], 101)], 2, 43, 0, 0)
def ck_h201 : List ck_Hd := []
set_option maxRecDepth 100000 in
theorem ck_k201 (l : Launch) (D : va_G) (st : Nat → Nat) : ck_Mt l D st ck_c201 := ck_sound (T := ck_T13) (cs := [ck_c200, ck_c57, ck_c26]) (hs := ck_h201) (sp := []) (fuel := 37) l ck_TSgood ck_okCl (ck_own (M0 := ck_m72) rfl rfl ck_okT13) (ck_cons (ck_k200 l D st) (ck_cons (ck_k57 l D st) (ck_cons (ck_k26 l D st) ck_nil))) (by decide +kernel)
/-- SLModel.trial -/
def ck_c202 : ck_C := (72, 101, [.inr (0, 77), .inl ((-2147483648), 2147483647), .inl ((-2147483648), 2147483647), .inl (0, 2), .inl (0, 3), .inl (4, 2147483647), .inl ((-2147483648), 2147483647)], [], [(77, 1)], [(some (.inl ((-1), (-1))), [((-2147483648), 2147483647), ((-2147483648), 2147483647), (0, 2), (0, 3), (4, 2147483647), ((-2147483648), 2147483647)], [((77, 1), .inl ((-1), (-1)))], 101)], 2, 43, 0, 0)
def ck_h202 : List ck_Hd := []
set_option maxRecDepth 100000 in
theorem ck_k202 (l : Launch) (D : va_G) (st : Nat → Nat) : ck_Mt l D st ck_c202 := ck_sound (T := ck_T13) (cs := [ck_c200, ck_c59, ck_c26]) (hs := ck_h202) (sp := []) (fuel := 37) l ck_TSgood ck_okCl (ck_own (M0 := ck_m72) rfl rfl ck_okT13) (ck_cons (ck_k200 l D st) (ck_cons (ck_k59 l D st) (ck_cons (ck_k26 l D st) ck_nil))) (by decide +kernel)
/-- SLModel.trial -/
def ck_c203 : ck_C := (72, 101, [.inr (0, 77), .inl ((-2147483648), 2147483647), .inl ((-2147483648), 2147483647), .inl (0, 2), .inl (0, 3), .inl (0, 3), .inl ((-2147483648), 0)], [], [(77, 1)], [(some (.inl ((-1), (-1))), [((-2147483648), 2147483647), ((-2147483648), 2147483647), (0, 2), (0, 3), (0, 3), ((-2147483648), 0)], [((77, 1), .inl ((-1), (-1)))], 101)], 2, 43, 0, 0)
def ck_h203 : List ck_Hd := []
set_option maxRecDepth 100000 in
theorem ck_k203 (l : Launch) (D : va_G) (st : Nat → Nat) : ck_Mt l D st ck_c203 := ck_sound (T := ck_T13) (cs := [ck_c200, ck_c61, ck_c31, ck_c26]) (hs := ck_h203) (sp := []) (fuel := 42) l ck_TSgood ck_okCl (ck_own (M0 := ck_m72) rfl rfl ck_okT13) (ck_cons (ck_k200 l D st) (ck_cons (ck_k61 l D st) (ck_cons (ck_k31 l D st) (ck_cons (ck_k26 l D st) ck_nil)))) (by decide +kernel)
/-- SLModel.trial -/
def ck_c204 : ck_C := (72, 101, [.inr (0, 77), .inl ((-2147483648), 2147483647), .inl ((-2147483648), 2147483647), .inl (0, 2), .inl (0, 3), .inl (0, 3), .inl (101, 2147483647)], [], [(77, 1)], [(some (.inl ((-1), (-1))), [((-2147483648), 2147483647), ((-2147483648), 2147483647), (0, 2), (0, 3), (0, 3), (101, 2147483647)], [((77, 1), .inl ((-1), (-1)))], 101)], 2, 43, 0, 0)
def ck_h204 : List ck_Hd := []
set_option maxRecDepth 100000 in
theorem ck_k204 (l : Launch) (D : va_G) (st : Nat → Nat) : ck_Mt l D st ck_c204 := ck_sound (T := ck_T13) (cs := [ck_c200, ck_c61, ck_c33, ck_c26]) (hs := ck_h204) (sp := []) (fuel := 42) l ck_TSgood ck_okCl (ck_own (M0 := ck_m72) rfl rfl ck_okT13) (ck_cons (ck_k200 l D st) (ck_cons (ck_k61 l D st) (ck_cons (ck_k33 l D st) (ck_cons (ck_k26 l D st) ck_nil)))) (by decide +kernel)
/-- SLModel.trial -/
def ck_c205 : ck_C := (72, 101, [.inr (0, 77), .inl ((-2147483648), (-1)), .inl ((-2147483648), 2147483647), .inl (0, 2), .inl (0, 3), .inl (0, 3), .inl (1, 100)], [((77, 2), .inr (0, 78)), ((78, 1293), .inl (0, 0))], [(77, 1)], [(some (.inl ((-2), (-2))), [((-2147483648), (-1)), ((-2147483648), 2147483647), (0, 2), (0, 3), (0, 3), (1, 100)], [((77, 1), .inl ((-2), (-2)))], 101)], 2, 43, 0, 0)
def ck_h205 : List ck_Hd := []
set_option maxRecDepth 100000 in
theorem ck_k205 (l : Launch) (D : va_G) (st : Nat → Nat) : ck_Mt l D st ck_c205 := ck_sound (T := ck_T13) (cs := [ck_c200, ck_c61, ck_c35, ck_c68, ck_c69]) (hs := ck_h205) (sp := []) (fuel := 46) l ck_TSgood ck_okCl (ck_own (M0 := ck_m72) rfl rfl ck_okT13) (ck_cons (ck_k200 l D st) (ck_cons (ck_k61 l D st) (ck_cons (ck_k35 l D st) (ck_cons (ck_k68 l D st) (ck_cons (ck_k69 l D st) ck_nil))))) (by decide +kernel)
/-- SLModel.trial -/
def ck_c206 : ck_C := (72, 101, [.inr (0, 77), .inl (0, 2147483647), .inl ((-2147483648), 2147483647), .inl (0, 2), .inl (0, 3), .inl (0, 3), .inl (1, 100)], [((77, 2), .inr (0, 78)), ((78, 1293), .inl (0, 0))], [(77, 1)], [(some (.inl ((-2), (-2))), [(0, 2147483647), ((-2147483648), 2147483647), (0, 2), (0, 3), (0, 3), (1, 100)], [((77, 1), .inl ((-2), (-2)))], 101)], 2, 43, 0, 0)
def ck_h206 : List ck_Hd := []
set_option maxRecDepth 100000 in
theorem ck_k206 (l : Launch) (D : va_G) (st : Nat → Nat) : ck_Mt l D st ck_c206 := ck_sound (T := ck_T13) (cs := [ck_c200, ck_c61, ck_c35, ck_c72, ck_c69]) (hs := ck_h206) (sp := []) (fuel := 46) l ck_TSgood ck_okCl (ck_own (M0 := ck_m72) rfl rfl ck_okT13) (ck_cons (ck_k200 l D st) (ck_cons (ck_k61 l D st) (ck_cons (ck_k35 l D st) (ck_cons (ck_k72 l D st) (ck_cons (ck_k69 l D st) ck_nil))))) (by decide +kernel)
/-- SL.row -/
def ck_c207 : ck_C := (74, 101, [.inr (0, 0)], [((0, 4), .inr (0, 45)), ((45, 2), .inl (0, 0))], [(0, 15)], [(some (.inl ((-6), (-6))), [], [((0, 15), .inl ((-6), (-6)))], 101)], 1, 21, 0, 0)
def ck_h207 : List ck_Hd := []
set_option maxRecDepth 100000 in
theorem ck_k207 (l : Launch) (D : va_G) (st : Nat → Nat) : ck_Mt l D st ck_c207 := ck_sound (T := ck_T0) (cs := [ck_c162]) (hs := ck_h207) (sp := []) (fuel := 32) l ck_TSgood ck_okCl (ck_own (M0 := ck_m74) rfl rfl ck_okT0) (ck_cons (ck_k162 l D st) ck_nil) (by decide +kernel)
/-- SLModel.row -/
def ck_c208 : ck_C := (75, 101, [.inr (0, 77)], [((77, 8), .inl (0, 0))], [(77, 1), (77, 8)], [(some (.inl ((-6), (-6))), [], [((77, 1), .inl ((-6), (-6))), ((77, 8), .inl (0, 0))], 101)], 1, 21, 0, 0)
def ck_h208 : List ck_Hd := []
set_option maxRecDepth 100000 in
theorem ck_k208 (l : Launch) (D : va_G) (st : Nat → Nat) : ck_Mt l D st ck_c208 := ck_sound (T := ck_T13) (cs := [ck_c179]) (hs := ck_h208) (sp := []) (fuel := 36) l ck_TSgood ck_okCl (ck_own (M0 := ck_m75) rfl rfl ck_okT13) (ck_cons (ck_k179 l D st) ck_nil) (by decide +kernel)
/-- SL$Bench.hasTrial -/
def ck_c209 : ck_C := (77, 101, [.inr (0, 1), .inl ((-2147483648), 2147483647)], [((1, 15), .inl (0, 0))], [], [(some (.inl (0, 0)), [((-2147483648), (-1))], [], 101), (some (.inl (0, 0)), [(0, 2147483647)], [], 101)], 1, 22, 0, 0)
def ck_h209 : List ck_Hd := []
set_option maxRecDepth 100000 in
theorem ck_k209 (l : Launch) (D : va_G) (st : Nat → Nat) : ck_Mt l D st ck_c209 := ck_sound (T := ck_T1) (cs := [ck_c48]) (hs := ck_h209) (sp := []) (fuel := 32) l ck_TSgood ck_okCl (ck_own (M0 := ck_m77) rfl rfl ck_okT1) (ck_cons (ck_k48 l D st) ck_nil) (by decide +kernel)
/-- SL.of -/
def ck_c210 : ck_C := (76, 101, [.inr (0, 0), .inl ((-2147483648), 2147483647), .inl ((-2147483648), 2147483647)], [((0, 1), .inr (0, 1)), ((1, 15), .inl (0, 0))], [], [(some (.inl ((-1), (-1))), [((-2147483648), (-1)), ((-2147483648), 2147483647)], [], 101), (some (.inl ((-1), (-1))), [(0, 2147483647), ((-2147483648), 2147483647)], [], 101)], 2, 43, 0, 0)
def ck_h210 : List ck_Hd := []
set_option maxRecDepth 100000 in
theorem ck_k210 (l : Launch) (D : va_G) (st : Nat → Nat) : ck_Mt l D st ck_c210 := ck_sound (T := ck_T0) (cs := [ck_c209]) (hs := ck_h210) (sp := []) (fuel := 31) l ck_TSgood ck_okCl (ck_own (M0 := ck_m76) rfl rfl ck_okT0) (ck_cons (ck_k209 l D st) ck_nil) (by decide +kernel)
/-- SLModel.isTrial -/
def ck_c211 : ck_C := (79, 101, [.inr (0, 77), .inl ((-2147483648), (-1))], [((77, 2), .inr (0, 78)), ((78, 1294), .inl (0, 0))], [], [(some (.inl (0, 0)), [((-2147483648), (-1))], [], 101)], 1, 22, 0, 0)
def ck_h211 : List ck_Hd := []
set_option maxRecDepth 100000 in
theorem ck_k211 (l : Launch) (D : va_G) (st : Nat → Nat) : ck_Mt l D st ck_c211 := ck_sound (T := ck_T13) (cs := [ck_c67]) (hs := ck_h211) (sp := []) (fuel := 34) l ck_TSgood ck_okCl (ck_own (M0 := ck_m79) rfl rfl ck_okT13) (ck_cons (ck_k67 l D st) ck_nil) (by decide +kernel)
/-- SLModel.of -/
def ck_c212 : ck_C := (78, 101, [.inr (0, 77), .inl ((-2147483648), (-1)), .inl ((-2147483648), 2147483647)], [((77, 2), .inr (0, 78)), ((78, 1294), .inl (0, 0))], [], [(some (.inl ((-1), (-1))), [((-2147483648), (-1)), ((-2147483648), 2147483647)], [], 101)], 2, 43, 0, 0)
def ck_h212 : List ck_Hd := []
set_option maxRecDepth 100000 in
theorem ck_k212 (l : Launch) (D : va_G) (st : Nat → Nat) : ck_Mt l D st ck_c212 := ck_sound (T := ck_T13) (cs := [ck_c211]) (hs := ck_h212) (sp := []) (fuel := 30) l ck_TSgood ck_okCl (ck_own (M0 := ck_m78) rfl rfl ck_okT13) (ck_cons (ck_k211 l D st) ck_nil) (by decide +kernel)
/-- SLModel.isTrial -/
def ck_c213 : ck_C := (79, 101, [.inr (0, 77), .inl (0, 2147483647)], [((77, 2), .inr (0, 78)), ((78, 1294), .inl (0, 0))], [], [(some (.inl (0, 0)), [(0, 2147483647)], [], 101)], 1, 22, 0, 0)
def ck_h213 : List ck_Hd := []
set_option maxRecDepth 100000 in
theorem ck_k213 (l : Launch) (D : va_G) (st : Nat → Nat) : ck_Mt l D st ck_c213 := ck_sound (T := ck_T13) (cs := [ck_c71]) (hs := ck_h213) (sp := []) (fuel := 34) l ck_TSgood ck_okCl (ck_own (M0 := ck_m79) rfl rfl ck_okT13) (ck_cons (ck_k71 l D st) ck_nil) (by decide +kernel)
/-- SLModel.of -/
def ck_c214 : ck_C := (78, 101, [.inr (0, 77), .inl (0, 2147483647), .inl ((-2147483648), 2147483647)], [((77, 2), .inr (0, 78)), ((78, 1294), .inl (0, 0))], [], [(some (.inl ((-1), (-1))), [(0, 2147483647), ((-2147483648), 2147483647)], [], 101)], 2, 43, 0, 0)
def ck_h214 : List ck_Hd := []
set_option maxRecDepth 100000 in
theorem ck_k214 (l : Launch) (D : va_G) (st : Nat → Nat) : ck_Mt l D st ck_c214 := ck_sound (T := ck_T13) (cs := [ck_c213]) (hs := ck_h214) (sp := []) (fuel := 30) l ck_TSgood ck_okCl (ck_own (M0 := ck_m78) rfl rfl ck_okT13) (ck_cons (ck_k213 l D st) ck_nil) (by decide +kernel)
/-- SL.found -/
def ck_c215 : ck_C := (80, 101, [.inr (0, 0), .inl ((-2147483648), 2147483647)], [((0, 1), .inr (0, 1)), ((1, 15), .inl (0, 0))], [(0, 15)], [(some (.inl ((-2), (-2))), [((-2147483648), (-1))], [((0, 15), .inl ((-2), (-2)))], 101), (some (.inl ((-2), (-2))), [(0, 2147483647)], [((0, 15), .inl ((-2), (-2)))], 101)], 2, 43, 0, 0)
def ck_h215 : List ck_Hd := []
set_option maxRecDepth 100000 in
theorem ck_k215 (l : Launch) (D : va_G) (st : Nat → Nat) : ck_Mt l D st ck_c215 := ck_sound (T := ck_T0) (cs := [ck_c209, ck_c50]) (hs := ck_h215) (sp := []) (fuel := 33) l ck_TSgood ck_okCl (ck_own (M0 := ck_m80) rfl rfl ck_okT0) (ck_cons (ck_k209 l D st) (ck_cons (ck_k50 l D st) ck_nil)) (by decide +kernel)
/-- SLModel.found -/
def ck_c216 : ck_C := (81, 101, [.inr (0, 77), .inl ((-2147483648), (-1))], [((77, 2), .inr (0, 78)), ((78, 1294), .inl (0, 0))], [(77, 1)], [(some (.inl ((-2), (-2))), [((-2147483648), (-1))], [((77, 1), .inl ((-2), (-2)))], 101)], 2, 43, 0, 0)
def ck_h216 : List ck_Hd := []
set_option maxRecDepth 100000 in
theorem ck_k216 (l : Launch) (D : va_G) (st : Nat → Nat) : ck_Mt l D st ck_c216 := ck_sound (T := ck_T13) (cs := [ck_c211, ck_c69]) (hs := ck_h216) (sp := []) (fuel := 32) l ck_TSgood ck_okCl (ck_own (M0 := ck_m81) rfl rfl ck_okT13) (ck_cons (ck_k211 l D st) (ck_cons (ck_k69 l D st) ck_nil)) (by decide +kernel)
/-- SLModel.found -/
def ck_c217 : ck_C := (81, 101, [.inr (0, 77), .inl (0, 2147483647)], [((77, 2), .inr (0, 78)), ((78, 1294), .inl (0, 0))], [(77, 1)], [(some (.inl ((-2), (-2))), [(0, 2147483647)], [((77, 1), .inl ((-2), (-2)))], 101)], 2, 43, 0, 0)
def ck_h217 : List ck_Hd := []
set_option maxRecDepth 100000 in
theorem ck_k217 (l : Launch) (D : va_G) (st : Nat → Nat) : ck_Mt l D st ck_c217 := ck_sound (T := ck_T13) (cs := [ck_c213, ck_c69]) (hs := ck_h217) (sp := []) (fuel := 32) l ck_TSgood ck_okCl (ck_own (M0 := ck_m81) rfl rfl ck_okT13) (ck_cons (ck_k213 l D st) (ck_cons (ck_k69 l D st) ck_nil)) (by decide +kernel)
/-- SL.within -/
def ck_c218 : ck_C := (16, 101, [.inl ((-2147483648), 2147483647), .inl (1, 1), .inl (7, 7)], [], [], [(some (.inl (0, 0)), [((-2147483648), 0), (1, 1), (7, 7)], [], 101), (some (.inl (0, 0)), [(8, 2147483647), (1, 1), (7, 7)], [], 101), (some (.inl (1, 1)), [(1, 7), (1, 1), (7, 7)], [], 101)], 0, 0, 0, 0)
def ck_h218 : List ck_Hd := []
set_option maxRecDepth 100000 in
theorem ck_k218 (l : Launch) (D : va_G) (st : Nat → Nat) : ck_Mt l D st ck_c218 := ck_sound (T := ck_T0) (cs := []) (hs := ck_h218) (sp := []) (fuel := 33) l ck_TSgood ck_okCl (ck_own (M0 := ck_m16) rfl rfl ck_okT0) ck_nil (by decide +kernel)
/-- SL.within -/
def ck_c219 : ck_C := (16, 101, [.inl ((-2147483648), 2147483647), .inl (1, 1), .inl (15, 15)], [], [], [(some (.inl (0, 0)), [((-2147483648), 0), (1, 1), (15, 15)], [], 101), (some (.inl (0, 0)), [(16, 2147483647), (1, 1), (15, 15)], [], 101), (some (.inl (1, 1)), [(1, 15), (1, 1), (15, 15)], [], 101)], 0, 0, 0, 0)
def ck_h219 : List ck_Hd := []
set_option maxRecDepth 100000 in
theorem ck_k219 (l : Launch) (D : va_G) (st : Nat → Nat) : ck_Mt l D st ck_c219 := ck_sound (T := ck_T0) (cs := []) (hs := ck_h219) (sp := []) (fuel := 33) l ck_TSgood ck_okCl (ck_own (M0 := ck_m16) rfl rfl ck_okT0) ck_nil (by decide +kernel)
/-- SL.view -/
def ck_c220 : ck_C := (82, 101, [.inr (0, 0), .inl ((-2147483648), 2147483647), .inl ((-2147483648), 2147483647), .inl ((-2147483648), 2147483647)], [((0, 1), .inr (0, 1)), ((1, 15), .inl (0, 0))], [(0, 15), (1, 17), (1, 18), (1, 19)], [(some (.inl ((-1), (-1))), [((-2147483648), 0), ((-2147483648), 2147483647), ((-2147483648), 2147483647)], [((0, 15), .inl ((-1), (-1)))], 101), (some (.inl ((-1), (-1))), [(8, 2147483647), ((-2147483648), 2147483647), ((-2147483648), 2147483647)], [((0, 15), .inl ((-1), (-1)))], 101), (some (.inl ((-1), (-1))), [(1, 7), ((-2147483648), 0), ((-2147483648), 2147483647)], [((0, 15), .inl ((-1), (-1)))], 101), (some (.inl ((-1), (-1))), [(1, 7), (16, 2147483647), ((-2147483648), 2147483647)], [((0, 15), .inl ((-1), (-1)))], 101), (some (.inl ((-1), (-1))), [(1, 7), (1, 15), ((-2147483648), 0)], [((0, 15), .inl ((-1), (-1)))], 101), (some (.inl ((-1), (-1))), [(1, 7), (1, 15), (16, 2147483647)], [((0, 15), .inl ((-1), (-1)))], 101), (some (.inl (0, 0)), [(1, 7), (1, 15), (1, 15)], [((0, 15), .inl (0, 0)), ((1, 17), .inl (1, 7)), ((1, 18), .inl (1, 15)), ((1, 19), .inl (1, 15))], 101)], 1, 22, 0, 0)
def ck_h220 : List ck_Hd := [(66, ([(1, 7, 0, (0, 0, 0)), (1, 15, 0, (0, 0, 0)), (1, 15, 0, (0, 0, 0))], [(5, .inl (0, 0, 0)), (4, .inl (0, 0, 0)), (0, .inr (0, 0)), (1, .inl (0, 1, 0)), (2, .inl (1, 1, 0)), (3, .inl (2, 1, 0))], [], [((0, 1), .inr (0, 1)), ((1, 15), .inl (0, 0)), ((1, 17), .inl (1, 7)), ((1, 18), .inl (1, 15)), ((1, 19), .inl (1, 15))], 101, 0, 0), 0, 2)]
set_option maxRecDepth 100000 in
theorem ck_k220 (l : Launch) (D : va_G) (st : Nat → Nat) : ck_Mt l D st ck_c220 := ck_sound (T := ck_T0) (cs := [ck_c218, ck_c19, ck_c219, ck_c23]) (hs := ck_h220) (sp := []) (fuel := 64) l ck_TSgood ck_okCl (ck_own (M0 := ck_m82) rfl rfl ck_okT0) (ck_cons (ck_k218 l D st) (ck_cons (ck_k19 l D st) (ck_cons (ck_k219 l D st) (ck_cons (ck_k23 l D st) ck_nil)))) (by decide +kernel)
/-- SLModel.in -/
def ck_c221 : ck_C := (21, 101, [.inl ((-2147483648), 0), .inl (1, 1), .inl (7, 7)], [], [], [(some (.inl (0, 0)), [((-2147483648), 0), (1, 1), (7, 7)], [], 101)], 0, 0, 0, 0)
def ck_h221 : List ck_Hd := []
set_option maxRecDepth 100000 in
theorem ck_k221 (l : Launch) (D : va_G) (st : Nat → Nat) : ck_Mt l D st ck_c221 := ck_sound (T := ck_T13) (cs := []) (hs := ck_h221) (sp := []) (fuel := 29) l ck_TSgood ck_okCl (ck_own (M0 := ck_m21) rfl rfl ck_okT13) ck_nil (by decide +kernel)
/-- SLModel.view -/
def ck_c222 : ck_C := (83, 101, [.inr (0, 77), .inl ((-2147483648), 0), .inl ((-2147483648), 2147483647), .inl ((-2147483648), 2147483647)], [], [(77, 1)], [(some (.inl ((-1), (-1))), [((-2147483648), 0), ((-2147483648), 2147483647), ((-2147483648), 2147483647)], [((77, 1), .inl ((-1), (-1)))], 101)], 1, 22, 0, 0)
def ck_h222 : List ck_Hd := []
set_option maxRecDepth 100000 in
theorem ck_k222 (l : Launch) (D : va_G) (st : Nat → Nat) : ck_Mt l D st ck_c222 := ck_sound (T := ck_T13) (cs := [ck_c221, ck_c26]) (hs := ck_h222) (sp := []) (fuel := 33) l ck_TSgood ck_okCl (ck_own (M0 := ck_m83) rfl rfl ck_okT13) (ck_cons (ck_k221 l D st) (ck_cons (ck_k26 l D st) ck_nil)) (by decide +kernel)
/-- SLModel.in -/
def ck_c223 : ck_C := (21, 101, [.inl (8, 2147483647), .inl (1, 1), .inl (7, 7)], [], [], [(some (.inl (0, 0)), [(8, 2147483647), (1, 1), (7, 7)], [], 101)], 0, 0, 0, 0)
def ck_h223 : List ck_Hd := []
set_option maxRecDepth 100000 in
theorem ck_k223 (l : Launch) (D : va_G) (st : Nat → Nat) : ck_Mt l D st ck_c223 := ck_sound (T := ck_T13) (cs := []) (hs := ck_h223) (sp := []) (fuel := 32) l ck_TSgood ck_okCl (ck_own (M0 := ck_m21) rfl rfl ck_okT13) ck_nil (by decide +kernel)
/-- SLModel.view -/
def ck_c224 : ck_C := (83, 101, [.inr (0, 77), .inl (8, 2147483647), .inl ((-2147483648), 2147483647), .inl ((-2147483648), 2147483647)], [], [(77, 1)], [(some (.inl ((-1), (-1))), [(8, 2147483647), ((-2147483648), 2147483647), ((-2147483648), 2147483647)], [((77, 1), .inl ((-1), (-1)))], 101)], 1, 22, 0, 0)
def ck_h224 : List ck_Hd := []
set_option maxRecDepth 100000 in
theorem ck_k224 (l : Launch) (D : va_G) (st : Nat → Nat) : ck_Mt l D st ck_c224 := ck_sound (T := ck_T13) (cs := [ck_c223, ck_c26]) (hs := ck_h224) (sp := []) (fuel := 33) l ck_TSgood ck_okCl (ck_own (M0 := ck_m83) rfl rfl ck_okT13) (ck_cons (ck_k223 l D st) (ck_cons (ck_k26 l D st) ck_nil)) (by decide +kernel)
/-- SLModel.in -/
def ck_c225 : ck_C := (21, 101, [.inl (1, 7), .inl (1, 1), .inl (7, 7)], [], [], [(some (.inl (1, 1)), [(1, 7), (1, 1), (7, 7)], [], 101)], 0, 0, 0, 0)
def ck_h225 : List ck_Hd := []
set_option maxRecDepth 100000 in
theorem ck_k225 (l : Launch) (D : va_G) (st : Nat → Nat) : ck_Mt l D st ck_c225 := ck_sound (T := ck_T13) (cs := []) (hs := ck_h225) (sp := []) (fuel := 33) l ck_TSgood ck_okCl (ck_own (M0 := ck_m21) rfl rfl ck_okT13) ck_nil (by decide +kernel)
/-- SLModel.in -/
def ck_c226 : ck_C := (21, 101, [.inl ((-2147483648), 0), .inl (1, 1), .inl (15, 15)], [], [], [(some (.inl (0, 0)), [((-2147483648), 0), (1, 1), (15, 15)], [], 101)], 0, 0, 0, 0)
def ck_h226 : List ck_Hd := []
set_option maxRecDepth 100000 in
theorem ck_k226 (l : Launch) (D : va_G) (st : Nat → Nat) : ck_Mt l D st ck_c226 := ck_sound (T := ck_T13) (cs := []) (hs := ck_h226) (sp := []) (fuel := 29) l ck_TSgood ck_okCl (ck_own (M0 := ck_m21) rfl rfl ck_okT13) ck_nil (by decide +kernel)
/-- SLModel.view -/
def ck_c227 : ck_C := (83, 101, [.inr (0, 77), .inl (1, 7), .inl ((-2147483648), 0), .inl ((-2147483648), 2147483647)], [], [(77, 1)], [(some (.inl ((-1), (-1))), [(1, 7), ((-2147483648), 0), ((-2147483648), 2147483647)], [((77, 1), .inl ((-1), (-1)))], 101)], 1, 22, 0, 0)
def ck_h227 : List ck_Hd := []
set_option maxRecDepth 100000 in
theorem ck_k227 (l : Launch) (D : va_G) (st : Nat → Nat) : ck_Mt l D st ck_c227 := ck_sound (T := ck_T13) (cs := [ck_c225, ck_c226, ck_c26]) (hs := ck_h227) (sp := []) (fuel := 38) l ck_TSgood ck_okCl (ck_own (M0 := ck_m83) rfl rfl ck_okT13) (ck_cons (ck_k225 l D st) (ck_cons (ck_k226 l D st) (ck_cons (ck_k26 l D st) ck_nil))) (by decide +kernel)
/-- SLModel.in -/
def ck_c228 : ck_C := (21, 101, [.inl (16, 2147483647), .inl (1, 1), .inl (15, 15)], [], [], [(some (.inl (0, 0)), [(16, 2147483647), (1, 1), (15, 15)], [], 101)], 0, 0, 0, 0)
def ck_h228 : List ck_Hd := []
set_option maxRecDepth 100000 in
theorem ck_k228 (l : Launch) (D : va_G) (st : Nat → Nat) : ck_Mt l D st ck_c228 := ck_sound (T := ck_T13) (cs := []) (hs := ck_h228) (sp := []) (fuel := 32) l ck_TSgood ck_okCl (ck_own (M0 := ck_m21) rfl rfl ck_okT13) ck_nil (by decide +kernel)
/-- SLModel.view -/
def ck_c229 : ck_C := (83, 101, [.inr (0, 77), .inl (1, 7), .inl (16, 2147483647), .inl ((-2147483648), 2147483647)], [], [(77, 1)], [(some (.inl ((-1), (-1))), [(1, 7), (16, 2147483647), ((-2147483648), 2147483647)], [((77, 1), .inl ((-1), (-1)))], 101)], 1, 22, 0, 0)
def ck_h229 : List ck_Hd := []
set_option maxRecDepth 100000 in
theorem ck_k229 (l : Launch) (D : va_G) (st : Nat → Nat) : ck_Mt l D st ck_c229 := ck_sound (T := ck_T13) (cs := [ck_c225, ck_c228, ck_c26]) (hs := ck_h229) (sp := []) (fuel := 38) l ck_TSgood ck_okCl (ck_own (M0 := ck_m83) rfl rfl ck_okT13) (ck_cons (ck_k225 l D st) (ck_cons (ck_k228 l D st) (ck_cons (ck_k26 l D st) ck_nil))) (by decide +kernel)
/-- SLModel.in -/
def ck_c230 : ck_C := (21, 101, [.inl (1, 15), .inl (1, 1), .inl (15, 15)], [], [], [(some (.inl (1, 1)), [(1, 15), (1, 1), (15, 15)], [], 101)], 0, 0, 0, 0)
def ck_h230 : List ck_Hd := []
set_option maxRecDepth 100000 in
theorem ck_k230 (l : Launch) (D : va_G) (st : Nat → Nat) : ck_Mt l D st ck_c230 := ck_sound (T := ck_T13) (cs := []) (hs := ck_h230) (sp := []) (fuel := 33) l ck_TSgood ck_okCl (ck_own (M0 := ck_m21) rfl rfl ck_okT13) ck_nil (by decide +kernel)
/-- SLModel.view -/
def ck_c231 : ck_C := (83, 101, [.inr (0, 77), .inl (1, 7), .inl (1, 15), .inl ((-2147483648), 0)], [], [(77, 1)], [(some (.inl ((-1), (-1))), [(1, 7), (1, 15), ((-2147483648), 0)], [((77, 1), .inl ((-1), (-1)))], 101)], 1, 22, 0, 0)
def ck_h231 : List ck_Hd := []
set_option maxRecDepth 100000 in
theorem ck_k231 (l : Launch) (D : va_G) (st : Nat → Nat) : ck_Mt l D st ck_c231 := ck_sound (T := ck_T13) (cs := [ck_c225, ck_c230, ck_c226, ck_c26]) (hs := ck_h231) (sp := []) (fuel := 43) l ck_TSgood ck_okCl (ck_own (M0 := ck_m83) rfl rfl ck_okT13) (ck_cons (ck_k225 l D st) (ck_cons (ck_k230 l D st) (ck_cons (ck_k226 l D st) (ck_cons (ck_k26 l D st) ck_nil)))) (by decide +kernel)
/-- SLModel.view -/
def ck_c232 : ck_C := (83, 101, [.inr (0, 77), .inl (1, 7), .inl (1, 15), .inl (16, 2147483647)], [], [(77, 1)], [(some (.inl ((-1), (-1))), [(1, 7), (1, 15), (16, 2147483647)], [((77, 1), .inl ((-1), (-1)))], 101)], 1, 22, 0, 0)
def ck_h232 : List ck_Hd := []
set_option maxRecDepth 100000 in
theorem ck_k232 (l : Launch) (D : va_G) (st : Nat → Nat) : ck_Mt l D st ck_c232 := ck_sound (T := ck_T13) (cs := [ck_c225, ck_c230, ck_c228, ck_c26]) (hs := ck_h232) (sp := []) (fuel := 43) l ck_TSgood ck_okCl (ck_own (M0 := ck_m83) rfl rfl ck_okT13) (ck_cons (ck_k225 l D st) (ck_cons (ck_k230 l D st) (ck_cons (ck_k228 l D st) (ck_cons (ck_k26 l D st) ck_nil)))) (by decide +kernel)
/-- SLModel.view -/
def ck_c233 : ck_C := (83, 101, [.inr (0, 77), .inl (1, 7), .inl (1, 15), .inl (1, 15)], [((77, 2), .inr (0, 78)), ((78, 0), .inl ((-1), 15)), ((78, 193), .inl (0, 0)), ((78, 194), .inl (0, 0)), ((78, 195), .inl (0, 0)), ((78, 196), .inl (0, 0)), ((78, 197), .inl (0, 0)), ((78, 198), .inl (0, 0)), ((78, 199), .inl (0, 0)), ((78, 200), .inl (0, 0)), ((78, 201), .inl (0, 0)), ((78, 202), .inl (0, 0)), ((78, 203), .inl (0, 0)), ((78, 204), .inl (0, 0)), ((78, 1293), .inl (0, 0)), ((78, 1294), .inl (0, 0)), ((78, 1295), .inl (0, 0))], [(77, 1), (78, 0)], [(some (.inl (0, 0)), [(1, 7), (1, 15), (1, 15)], [((77, 1), .inl (0, 0)), ((78, 0), .inl ((-1), 15)), ((78, 193), .inl (0, 0)), ((78, 194), .inl (0, 0)), ((78, 195), .inl (0, 0)), ((78, 196), .inl (0, 0)), ((78, 197), .inl (0, 0)), ((78, 198), .inl (0, 0)), ((78, 199), .inl (0, 0)), ((78, 200), .inl (0, 0)), ((78, 201), .inl (0, 0)), ((78, 202), .inl (0, 0)), ((78, 203), .inl (0, 0)), ((78, 204), .inl (0, 0)), ((78, 1293), .inl (0, 0)), ((78, 1294), .inl (0, 0)), ((78, 1295), .inl (0, 0))], 101)], 1, 22, 0, 0)
def ck_h233 : List ck_Hd := [(69, ([(1, 7, 0, (0, 0, 0)), (1, 15, 0, (0, 0, 0)), (1, 15, 0, (0, 0, 0))], [(5, .inl (0, 0, 0)), (4, .inl (0, 0, 0)), (0, .inr (0, 77)), (1, .inl (0, 1, 0)), (2, .inl (1, 1, 0)), (3, .inl (2, 1, 0))], [], [((77, 2), .inr (0, 78)), ((78, 0), .inl ((-1), 15)), ((78, 193), .inl (0, 0)), ((78, 194), .inl (0, 0)), ((78, 195), .inl (0, 0)), ((78, 196), .inl (0, 0)), ((78, 197), .inl (0, 0)), ((78, 198), .inl (0, 0)), ((78, 199), .inl (0, 0)), ((78, 200), .inl (0, 0)), ((78, 201), .inl (0, 0)), ((78, 202), .inl (0, 0)), ((78, 203), .inl (0, 0)), ((78, 204), .inl (0, 0)), ((78, 1293), .inl (0, 0)), ((78, 1294), .inl (0, 0)), ((78, 1295), .inl (0, 0))], 101, 0, 0), 0, 2)]
set_option maxRecDepth 100000 in
theorem ck_k233 (l : Launch) (D : va_G) (st : Nat → Nat) : ck_Mt l D st ck_c233 := ck_sound (T := ck_T13) (cs := [ck_c225, ck_c230, ck_c42]) (hs := ck_h233) (sp := []) (fuel := 68) l ck_TSgood ck_okCl (ck_own (M0 := ck_m83) rfl rfl ck_okT13) (ck_cons (ck_k225 l D st) (ck_cons (ck_k230 l D st) (ck_cons (ck_k42 l D st) ck_nil))) (by decide +kernel)
/-- SL.areTwo -/
def ck_c234 : ck_C := (85, 101, [.inr (0, 0), .inl ((-2147483648), 2147483647), .inl ((-2147483648), 2147483647)], [((0, 1), .inr (0, 1)), ((1, 1), .inl (0, 0))], [], [(some (.inl (0, 0)), [((-2147483648), (-1)), ((-2147483648), 2147483647)], [], 101), (some (.inl (0, 0)), [(0, 2147483647), ((-2147483648), 2147483647)], [], 101)], 2, 43, 0, 0)
def ck_h234 : List ck_Hd := []
set_option maxRecDepth 100000 in
theorem ck_k234 (l : Launch) (D : va_G) (st : Nat → Nat) : ck_Mt l D st ck_c234 := ck_sound (T := ck_T0) (cs := [ck_c49]) (hs := ck_h234) (sp := []) (fuel := 31) l ck_TSgood ck_okCl (ck_own (M0 := ck_m85) rfl rfl ck_okT0) (ck_cons (ck_k49 l D st) ck_nil) (by decide +kernel)
/-- SL.says -/
def ck_c235 : ck_C := (84, 101, [.inr (0, 0), .inl ((-2147483648), 2147483647), .inl ((-2147483648), 2147483647)], [((0, 1), .inr (0, 1)), ((1, 1), .inl (0, 0))], [], [(some (.inl ((-1), (-1))), [((-2147483648), (-1)), ((-2147483648), 2147483647)], [], 101), (some (.inl ((-1), (-1))), [(0, 2147483647), ((-2147483648), 2147483647)], [], 101)], 3, 65, 0, 0)
def ck_h235 : List ck_Hd := []
set_option maxRecDepth 100000 in
theorem ck_k235 (l : Launch) (D : va_G) (st : Nat → Nat) : ck_Mt l D st ck_c235 := ck_sound (T := ck_T0) (cs := [ck_c234]) (hs := ck_h235) (sp := []) (fuel := 31) l ck_TSgood ck_okCl (ck_own (M0 := ck_m84) rfl rfl ck_okT0) (ck_cons (ck_k234 l D st) ck_nil) (by decide +kernel)
/-- SLModel.says -/
def ck_c236 : ck_C := (86, 101, [.inr (0, 77), .inl ((-2147483648), (-1)), .inl ((-2147483648), 2147483647)], [((77, 2), .inr (0, 78)), ((78, 1293), .inl (0, 0))], [], [(some (.inl ((-1), (-1))), [((-2147483648), (-1)), ((-2147483648), 2147483647)], [], 101)], 2, 43, 0, 0)
def ck_h236 : List ck_Hd := []
set_option maxRecDepth 100000 in
theorem ck_k236 (l : Launch) (D : va_G) (st : Nat → Nat) : ck_Mt l D st ck_c236 := ck_sound (T := ck_T13) (cs := [ck_c68]) (hs := ck_h236) (sp := []) (fuel := 30) l ck_TSgood ck_okCl (ck_own (M0 := ck_m86) rfl rfl ck_okT13) (ck_cons (ck_k68 l D st) ck_nil) (by decide +kernel)
/-- SLModel.says -/
def ck_c237 : ck_C := (86, 101, [.inr (0, 77), .inl (0, 2147483647), .inl ((-2147483648), 2147483647)], [((77, 2), .inr (0, 78)), ((78, 1293), .inl (0, 0))], [], [(some (.inl ((-1), (-1))), [(0, 2147483647), ((-2147483648), 2147483647)], [], 101)], 2, 43, 0, 0)
def ck_h237 : List ck_Hd := []
set_option maxRecDepth 100000 in
theorem ck_k237 (l : Launch) (D : va_G) (st : Nat → Nat) : ck_Mt l D st ck_c237 := ck_sound (T := ck_T13) (cs := [ck_c72]) (hs := ck_h237) (sp := []) (fuel := 30) l ck_TSgood ck_okCl (ck_own (M0 := ck_m86) rfl rfl ck_okT13) (ck_cons (ck_k72 l D st) ck_nil) (by decide +kernel)
/-- SL.over -/
def ck_c238 : ck_C := (87, 101, [.inr (0, 0), .inl ((-2147483648), 2147483647), .inl ((-2147483648), 2147483647)], [((0, 1), .inr (0, 1)), ((1, 1), .inl (0, 0))], [], [(some (.inl ((-1), (-1))), [((-2147483648), (-1)), ((-2147483648), 2147483647)], [], 101), (some (.inl ((-1), (-1))), [(0, 2147483647), ((-2147483648), 2147483647)], [], 101)], 2, 43, 0, 0)
def ck_h238 : List ck_Hd := []
set_option maxRecDepth 100000 in
theorem ck_k238 (l : Launch) (D : va_G) (st : Nat → Nat) : ck_Mt l D st ck_c238 := ck_sound (T := ck_T0) (cs := [ck_c49]) (hs := ck_h238) (sp := []) (fuel := 31) l ck_TSgood ck_okCl (ck_own (M0 := ck_m87) rfl rfl ck_okT0) (ck_cons (ck_k49 l D st) ck_nil) (by decide +kernel)
/-- SLModel.over -/
def ck_c239 : ck_C := (88, 101, [.inr (0, 77), .inl ((-2147483648), (-1)), .inl ((-2147483648), 2147483647)], [((77, 2), .inr (0, 78)), ((78, 1293), .inl (0, 0))], [], [(some (.inl ((-1), (-1))), [((-2147483648), (-1)), ((-2147483648), 2147483647)], [], 101)], 2, 43, 0, 0)
def ck_h239 : List ck_Hd := []
set_option maxRecDepth 100000 in
theorem ck_k239 (l : Launch) (D : va_G) (st : Nat → Nat) : ck_Mt l D st ck_c239 := ck_sound (T := ck_T13) (cs := [ck_c68]) (hs := ck_h239) (sp := []) (fuel := 30) l ck_TSgood ck_okCl (ck_own (M0 := ck_m88) rfl rfl ck_okT13) (ck_cons (ck_k68 l D st) ck_nil) (by decide +kernel)
