/-- SL.place -/
def ck_c120 : ab_C := (55, 101, [.inr (0, 0), .inl ((-2147483648), 2147483647)], [((63, 0, 1, 12), .inl (0, 11)), ((59, 4, 1, 1), .inl (0, 12)), ((59, 5, 1, 1), .inr (0, 63)), ((0, 7, 1, 1), .inr (0, 59))], [], [(some (.inl ((-1), (-1))), [((-2147483648), (-1))], [], 101), (some (.inl ((-1), (-1))), [(0, 2147483647)], [], 101), (some (.inl (0, 11)), [(0, 11)], [((59, 4, 1, 1), .inl (1, 12))], 101)], 1, 22, 0, 0)
def ck_h120 : List ab_Hd := []
set_option maxRecDepth 100000 in
theorem ck_k120 (Gh : Nat → (Nat → Int32) → Prop) (l : Launch) (D : va_G) (st : Nat → Nat) : ck_Mt Gh l D st ck_c120 := ab_sound (tr := ck_tr) (T := ck_T0) (cs := [ck_c119]) (hs := ck_h120) (sp := []) (fuel := 40) l ck_TSgood ck_okCl ck_okDt (M0 := ck_m55) rfl ck_okT0 (ck_cons (ck_k119 Gh l D st) ck_nil) (by decide +kernel)
/-- SLModel.in -/
def ck_c121 : ab_C := (21, 101, [.inl ((-2147483648), 2147483647), .inl (0, 0), .inl ((-2), 11)], [], [], [(some (.inl (0, 0)), [((-2147483648), (-1)), (0, 0), ((-2), 11)], [], 101), (some (.inl (0, 0)), [(0, 2147483647), (0, 0), ((-2), 11)], [], 101), (some (.inl (1, 1)), [(0, 11), (0, 0), (0, 11)], [], 101)], 0, 0, 0, 0)
def ck_h121 : List ab_Hd := []
set_option maxRecDepth 100000 in
theorem ck_k121 (Gh : Nat → (Nat → Int32) → Prop) (l : Launch) (D : va_G) (st : Nat → Nat) : ck_Mt Gh l D st ck_c121 := ab_sound (tr := ck_tr) (T := ck_T13) (cs := []) (hs := ck_h121) (sp := []) (fuel := 33) l ck_TSgood ck_okCl ck_okDt (M0 := ck_m21) rfl ck_okT13 ck_nil (by decide +kernel)
/-- SLModel.place -/
def ck_c122 : ab_C := (56, 101, [.inr (0, 77), .inl ((-2147483648), 2147483647)], [((92, 0, 1, 12), .inl (0, 11)), ((77, 28, 1, 1), .inr (0, 92)), ((77, 29, 1, 1), .inl ((-1), 12))], [], [(some (.inl ((-1), (-1))), [((-2147483648), (-1))], [], 101), (some (.inl ((-1), (-1))), [(0, 2147483647)], [], 101), (some (.inl (0, 11)), [(0, 11)], [((77, 29, 1, 1), .inl (1, 12))], 101)], 1, 22, 0, 0)
def ck_h122 : List ab_Hd := []
set_option maxRecDepth 100000 in
theorem ck_k122 (Gh : Nat → (Nat → Int32) → Prop) (l : Launch) (D : va_G) (st : Nat → Nat) : ck_Mt Gh l D st ck_c122 := ab_sound (tr := ck_tr) (T := ck_T13) (cs := [ck_c121]) (hs := ck_h122) (sp := []) (fuel := 38) l ck_TSgood ck_okCl ck_okDt (M0 := ck_m56) rfl ck_okT13 (ck_cons (ck_k121 Gh l D st) ck_nil) (by decide +kernel)
/-- SL$Bench.usesLeft -/
def ck_c123 : ab_C := (58, 101, [.inr (0, 1)], [((1, 0, 1, 1), .inl (0, 12)), ((1, 3, 1, 1), .inr (0, 4))], [], [(some (.inl ((-2147483648), 2147483647)), [], [], 101)], 0, 0, 0, 0)
def ck_h123 : List ab_Hd := [(4, ([(0, 12, 0, (0, 0, 0)), ((-2147483648), 2147483647, 0, (0, 0, 0))], [(2, .inl (0, 1, 0)), (1, .inl (1, 1, 0)), (0, .inr (0, 1))], [], ([((1, 0, 1, 1), .inl (0, 12)), ((1, 3, 1, 1), .inr (0, 4))], []), 101, 0, 0), 0, 0)]
set_option maxRecDepth 100000 in
theorem ck_k123 (Gh : Nat → (Nat → Int32) → Prop) (l : Launch) (D : va_G) (st : Nat → Nat) : ck_Mt Gh l D st ck_c123 := ab_sound (tr := ck_tr) (T := ck_T1) (cs := []) (hs := ck_h123) (sp := []) (fuel := 42) l ck_TSgood ck_okCl ck_okDt (M0 := ck_m58) rfl ck_okT1 ck_nil (by decide +kernel)
/-- SL.count -/
def ck_c124 : ab_C := (57, 101, [.inr (0, 0), .inl ((-2147483648), 2147483647)], [((45, 1, 1, 1), .inl (0, 400)), ((1, 0, 1, 1), .inl (0, 12)), ((1, 3, 1, 1), .inr (0, 4)), ((1, 11, 1, 1), .inl (0, 10)), ((1, 14, 1, 1), .inl (0, 120)), ((0, 0, 1, 1), .inr (0, 1)), ((0, 3, 1, 1), .inr (0, 45))], [], [(some (.inl ((-1), (-1))), [((-2147483648), (-1))], [], 101), (some (.inl ((-1), (-1))), [(5, 2147483647)], [], 101), (some (.inl (0, 12)), [(0, 0)], [], 101), (some (.inl (0, 10)), [(1, 1)], [], 101), (some (.inl (0, 120)), [(2, 2)], [], 101), (some (.inl ((-2147483648), 2147483647)), [(3, 3)], [], 101), (some (.inl (0, 400)), [(4, 4)], [], 101)], 1, 22, 0, 0)
def ck_h124 : List ab_Hd := []
set_option maxRecDepth 100000 in
theorem ck_k124 (Gh : Nat → (Nat → Int32) → Prop) (l : Launch) (D : va_G) (st : Nat → Nat) : ck_Mt Gh l D st ck_c124 := ab_sound (tr := ck_tr) (T := ck_T0) (cs := [ck_c123]) (hs := ck_h124) (sp := []) (fuel := 30) l ck_TSgood ck_okCl ck_okDt (M0 := ck_m57) rfl ck_okT0 (ck_cons (ck_k123 Gh l D st) ck_nil) (by decide +kernel)
/-- SLModel.many -/
def ck_c125 : ab_C := (23, 101, [.inr (0, 77)], [((78, 1292, 1, 1), .inl (0, 12)), ((77, 1, 1, 1), .inr (0, 78))], [], [(some (.inl (0, 12)), [], [], 101)], 0, 0, 0, 0)
def ck_h125 : List ab_Hd := []
set_option maxRecDepth 100000 in
theorem ck_k125 (Gh : Nat → (Nat → Int32) → Prop) (l : Launch) (D : va_G) (st : Nat → Nat) : ck_Mt Gh l D st ck_c125 := ab_sound (tr := ck_tr) (T := ck_T13) (cs := []) (hs := ck_h125) (sp := []) (fuel := 29) l ck_TSgood ck_okCl ck_okDt (M0 := ck_m23) rfl ck_okT13 ck_nil (by decide +kernel)
/-- SLModel.stoneOf -/
def ck_c126 : ab_C := (60, 101, [.inr (0, 77), .inl (0, 11), .inl (2, 2)], [((78, 2, 16, 12), .inl (0, 200)), ((77, 1, 1, 1), .inr (0, 78))], [], [(some (.inl (0, 200)), [(0, 11), (2, 2)], [], 101)], 0, 0, 0, 0)
def ck_h126 : List ab_Hd := []
set_option maxRecDepth 100000 in
theorem ck_k126 (Gh : Nat → (Nat → Int32) → Prop) (l : Launch) (D : va_G) (st : Nat → Nat) : ck_Mt Gh l D st ck_c126 := ab_sound (tr := ck_tr) (T := ck_T13) (cs := []) (hs := ck_h126) (sp := []) (fuel := 35) l ck_TSgood ck_okCl ck_okDt (M0 := ck_m60) rfl ck_okT13 ck_nil (by decide +kernel)
/-- SLModel.count -/
def ck_c127 : ab_C := (59, 101, [.inr (0, 77), .inl ((-2147483648), 2147483647)], [((78, 2, 16, 12), .inl (0, 200)), ((78, 1292, 1, 1), .inl (0, 12)), ((78, 1293, 1, 1), .inl (0, 120)), ((78, 1294, 1, 1), .inl (0, 10)), ((77, 1, 1, 1), .inr (0, 78)), ((77, 7, 1, 1), .inl (0, 400))], [], [(some (.inl ((-1), (-1))), [((-2147483648), (-1))], [], 101), (some (.inl ((-1), (-1))), [(5, 2147483647)], [], 101), (some (.inl (0, 12)), [(0, 0)], [], 101), (some (.inl (0, 10)), [(1, 1)], [], 101), (some (.inl (0, 120)), [(2, 2)], [], 101), (some (.inl ((-2147483648), 2147483647)), [(3, 3)], [], 101), (some (.inl (0, 400)), [(4, 4)], [], 101)], 1, 22, 0, 0)
def ck_h127 : List ab_Hd := [(4, ([((-2147483648), 2147483647, 0, (0, 0, 0)), (0, 12, 0, (0, 0, 0)), ((-2147483648), 2147483647, 0, (0, 0, 0))], [(3, .inl (1, 1, 0)), (2, .inl (2, 1, 0)), (0, .inr (0, 77)), (1, .inl (0, 1, 0))], [], ([((78, 2, 16, 12), .inl (0, 200)), ((78, 1292, 1, 1), .inl (0, 12)), ((78, 1293, 1, 1), .inl (0, 120)), ((78, 1294, 1, 1), .inl (0, 10)), ((77, 1, 1, 1), .inr (0, 78)), ((77, 7, 1, 1), .inl (0, 400))], []), 101, 0, 0), 1, 0)]
set_option maxRecDepth 100000 in
theorem ck_k127 (Gh : Nat → (Nat → Int32) → Prop) (l : Launch) (D : va_G) (st : Nat → Nat) : ck_Mt Gh l D st ck_c127 := ab_sound (tr := ck_tr) (T := ck_T13) (cs := [ck_c125, ck_c126]) (hs := ck_h127) (sp := []) (fuel := 42) l ck_TSgood ck_okCl ck_okDt (M0 := ck_m59) rfl ck_okT13 (ck_cons (ck_k125 Gh l D st) (ck_cons (ck_k126 Gh l D st) ck_nil)) (by decide +kernel)
/-- SL.status -/
def ck_c128 : ab_C := (61, 101, [.inr (0, 0)], [], [], [(some (.inl ((-2147483648), 2147483647)), [], [], 101)], 0, 0, 0, 0)
def ck_h128 : List ab_Hd := []
set_option maxRecDepth 100000 in
theorem ck_k128 (Gh : Nat → (Nat → Int32) → Prop) (l : Launch) (D : va_G) (st : Nat → Nat) : ck_Mt Gh l D st ck_c128 := ab_sound (tr := ck_tr) (T := ck_T0) (cs := []) (hs := ck_h128) (sp := []) (fuel := 27) l ck_TSgood ck_okCl ck_okDt (M0 := ck_m61) rfl ck_okT0 ck_nil (by decide +kernel)
/-- SLModel.status -/
def ck_c129 : ab_C := (62, 101, [.inr (0, 77)], [], [], [(some (.inl ((-2147483648), 2147483647)), [], [], 101)], 0, 0, 0, 0)
def ck_h129 : List ab_Hd := []
set_option maxRecDepth 100000 in
theorem ck_k129 (Gh : Nat → (Nat → Int32) → Prop) (l : Launch) (D : va_G) (st : Nat → Nat) : ck_Mt Gh l D st ck_c129 := ab_sound (tr := ck_tr) (T := ck_T13) (cs := []) (hs := ck_h129) (sp := []) (fuel := 27) l ck_TSgood ck_okCl ck_okDt (M0 := ck_m62) rfl ck_okT13 ck_nil (by decide +kernel)
