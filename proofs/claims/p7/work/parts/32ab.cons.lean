/-- SLModel.hand -/
def ck_c60 : ab_C := (31, 101, [.inr (0, 77), .inl ((-2147483648), 2147483647), .inl ((-2147483648), 2147483647), .inl ((-2147483648), 2147483647)], [((77, 1, 1, 1), .inr (0, 78))], [(77, 0, 1, 1), (78, 204, 2, 4), (78, 205, 2, 4)], [(some (.inl ((-1), (-1))), [((-2147483648), (-1)), ((-2147483648), 2147483647), ((-2147483648), 2147483647)], [((77, 0, 1, 1), .inl ((-1), (-1)))], 101), (some (.inl ((-1), (-1))), [(4, 2147483647), ((-2147483648), 2147483647), ((-2147483648), 2147483647)], [((77, 0, 1, 1), .inl ((-1), (-1)))], 101), (some (.inl ((-1), (-1))), [(0, 3), ((-2147483648), (-1)), ((-2147483648), 2147483647)], [((77, 0, 1, 1), .inl ((-1), (-1)))], 101), (some (.inl ((-1), (-1))), [(0, 3), (101, 2147483647), ((-2147483648), 2147483647)], [((77, 0, 1, 1), .inl ((-1), (-1)))], 101), (some (.inl ((-1), (-1))), [(0, 3), (0, 100), ((-2147483648), (-1))], [((77, 0, 1, 1), .inl ((-1), (-1)))], 101), (some (.inl ((-1), (-1))), [(0, 3), (0, 100), (101, 2147483647)], [((77, 0, 1, 1), .inl ((-1), (-1)))], 101), (some (.inl (0, 0)), [(0, 3), (0, 100), (0, 100)], [((77, 0, 1, 1), .inl (0, 0))], 101)], 1, 22, 0, 0)
def ck_h60 : List ab_Hd := []
set_option maxRecDepth 100000 in
theorem ck_k60 (Gh : Nat → (Nat → Int32) → Prop) (l : Launch) (D : va_G) (st : Nat → Nat) : ck_Mt Gh l D st ck_c60 := ab_sound (tr := ck_tr) (T := ck_T13) (cs := [ck_c58, ck_c27, ck_c59, ck_c31]) (hs := ck_h60) (sp := []) (fuel := 63) l ck_TSgood ck_okCl ck_okDt (M0 := ck_m31) rfl ck_okT13 (ck_cons (ck_k58 Gh l D st) (ck_cons (ck_k27 Gh l D st) (ck_cons (ck_k59 Gh l D st) (ck_cons (ck_k31 Gh l D st) ck_nil)))) (by decide +kernel)
/-- SL.within -/
def ck_c61 : ab_C := (16, 101, [.inl ((-2147483648), 2147483647), .inl (0, 0), .inl (1000000, 1000000)], [], [], [(some (.inl (0, 0)), [((-2147483648), (-1)), (0, 0), (1000000, 1000000)], [], 101), (some (.inl (0, 0)), [(1000001, 2147483647), (0, 0), (1000000, 1000000)], [], 101), (some (.inl (1, 1)), [(0, 1000000), (0, 0), (1000000, 1000000)], [], 101)], 0, 0, 0, 0)
def ck_h61 : List ab_Hd := []
set_option maxRecDepth 100000 in
theorem ck_k61 (Gh : Nat → (Nat → Int32) → Prop) (l : Launch) (D : va_G) (st : Nat → Nat) : ck_Mt Gh l D st ck_c61 := ab_sound (tr := ck_tr) (T := ck_T0) (cs := []) (hs := ck_h61) (sp := []) (fuel := 33) l ck_TSgood ck_okCl ck_okDt (M0 := ck_m16) rfl ck_okT0 ck_nil (by decide +kernel)
/-- SL.seed -/
def ck_c62 : ab_C := (32, 101, [.inr (0, 0), .inl ((-2147483648), 2147483647)], [((0, 0, 1, 1), .inr (0, 1))], [(0, 14, 1, 1), (1, 9, 1, 1)], [(some (.inl ((-1), (-1))), [((-2147483648), (-1))], [((0, 14, 1, 1), .inl ((-1), (-1)))], 101), (some (.inl ((-1), (-1))), [(1000001, 2147483647)], [((0, 14, 1, 1), .inl ((-1), (-1)))], 101), (some (.inl (0, 0)), [(0, 1000000)], [((1, 9, 1, 1), .inl (0, 1000000)), ((0, 14, 1, 1), .inl (0, 0))], 101)], 1, 22, 0, 0)
def ck_h62 : List ab_Hd := []
set_option maxRecDepth 100000 in
theorem ck_k62 (Gh : Nat → (Nat → Int32) → Prop) (l : Launch) (D : va_G) (st : Nat → Nat) : ck_Mt Gh l D st ck_c62 := ab_sound (tr := ck_tr) (T := ck_T0) (cs := [ck_c61, ck_c19, ck_c56]) (hs := ck_h62) (sp := []) (fuel := 37) l ck_TSgood ck_okCl ck_okDt (M0 := ck_m32) rfl ck_okT0 (ck_cons (ck_k61 Gh l D st) (ck_cons (ck_k19 Gh l D st) (ck_cons (ck_k56 Gh l D st) ck_nil))) (by decide +kernel)
/-- SLModel.in -/
def ck_c63 : ab_C := (21, 101, [.inl ((-2147483648), 2147483647), .inl (0, 0), .inl (1000000, 1000000)], [], [], [(some (.inl (0, 0)), [((-2147483648), (-1)), (0, 0), (1000000, 1000000)], [], 101), (some (.inl (0, 0)), [(1000001, 2147483647), (0, 0), (1000000, 1000000)], [], 101), (some (.inl (1, 1)), [(0, 1000000), (0, 0), (1000000, 1000000)], [], 101)], 0, 0, 0, 0)
def ck_h63 : List ab_Hd := []
set_option maxRecDepth 100000 in
theorem ck_k63 (Gh : Nat → (Nat → Int32) → Prop) (l : Launch) (D : va_G) (st : Nat → Nat) : ck_Mt Gh l D st ck_c63 := ab_sound (tr := ck_tr) (T := ck_T13) (cs := []) (hs := ck_h63) (sp := []) (fuel := 33) l ck_TSgood ck_okCl ck_okDt (M0 := ck_m21) rfl ck_okT13 ck_nil (by decide +kernel)
/-- SLModel.seed -/
def ck_c64 : ab_C := (33, 101, [.inr (0, 77), .inl ((-2147483648), 2147483647)], [((77, 1, 1, 1), .inr (0, 78))], [(77, 0, 1, 1), (78, 1295, 1, 1)], [(some (.inl ((-1), (-1))), [((-2147483648), (-1))], [((77, 0, 1, 1), .inl ((-1), (-1)))], 101), (some (.inl ((-1), (-1))), [(1000001, 2147483647)], [((77, 0, 1, 1), .inl ((-1), (-1)))], 101), (some (.inl (0, 0)), [(0, 1000000)], [((78, 1295, 1, 1), .inl (0, 1000000)), ((77, 0, 1, 1), .inl (0, 0))], 101)], 1, 22, 0, 0)
def ck_h64 : List ab_Hd := []
set_option maxRecDepth 100000 in
theorem ck_k64 (Gh : Nat → (Nat → Int32) → Prop) (l : Launch) (D : va_G) (st : Nat → Nat) : ck_Mt Gh l D st ck_c64 := ab_sound (tr := ck_tr) (T := ck_T13) (cs := [ck_c63, ck_c27, ck_c31]) (hs := ck_h64) (sp := []) (fuel := 38) l ck_TSgood ck_okCl ck_okDt (M0 := ck_m33) rfl ck_okT13 (ck_cons (ck_k63 Gh l D st) (ck_cons (ck_k27 Gh l D st) (ck_cons (ck_k31 Gh l D st) ck_nil))) (by decide +kernel)
/-- SL$Tape.append -/
def ck_c65 : ab_C := (35, 101, [.inr (0, 45), .inl ((-2147483648), 2147483647)], [((45, 0, 1, 1), .inr (0, 46)), ((45, 1, 1, 1), .inl (0, 380))], [(45, 1, 1, 1), (46, 0, 1, 381), (46, 1, 1, 381), (46, 2, 1, 381), (46, 3, 1, 381)], [(none, [((-2147483648), 2147483647)], [((45, 1, 1, 1), .inl (4, 384))], 101)], 0, 0, 0, 0)
def ck_h65 : List ab_Hd := []
set_option maxRecDepth 100000 in
theorem ck_k65 (Gh : Nat → (Nat → Int32) → Prop) (l : Launch) (D : va_G) (st : Nat → Nat) : ck_Mt Gh l D st ck_c65 := ab_sound (tr := ck_tr) (T := ck_T9) (cs := []) (hs := ck_h65) (sp := []) (fuel := 109) l ck_TSgood ck_okCl ck_okDt (M0 := ck_m35) rfl ck_okT9 ck_nil (by decide +kernel)
/-- SL$Tape.append -/
def ck_c66 : ab_C := (35, 101, [.inr (0, 45), .inl ((-2147483648), 2147483647)], [((45, 1, 1, 1), .inl (4, 384)), ((45, 0, 1, 1), .inr (0, 46))], [(45, 1, 1, 1), (46, 4, 1, 381), (46, 5, 1, 381), (46, 6, 1, 381), (46, 7, 1, 381)], [(none, [((-2147483648), 2147483647)], [((45, 1, 1, 1), .inl (8, 388))], 101)], 0, 0, 0, 0)
def ck_h66 : List ab_Hd := []
set_option maxRecDepth 100000 in
theorem ck_k66 (Gh : Nat → (Nat → Int32) → Prop) (l : Launch) (D : va_G) (st : Nat → Nat) : ck_Mt Gh l D st ck_c66 := ab_sound (tr := ck_tr) (T := ck_T9) (cs := []) (hs := ck_h66) (sp := []) (fuel := 109) l ck_TSgood ck_okCl ck_okDt (M0 := ck_m35) rfl ck_okT9 ck_nil (by decide +kernel)
/-- SL$Tape.append -/
def ck_c67 : ab_C := (35, 101, [.inr (0, 45), .inl ((-2147483648), 2147483647)], [((45, 1, 1, 1), .inl (8, 388)), ((45, 0, 1, 1), .inr (0, 46))], [(45, 1, 1, 1), (46, 8, 1, 381), (46, 9, 1, 381), (46, 10, 1, 381), (46, 11, 1, 381)], [(none, [((-2147483648), 2147483647)], [((45, 1, 1, 1), .inl (12, 392))], 101)], 0, 0, 0, 0)
def ck_h67 : List ab_Hd := []
set_option maxRecDepth 100000 in
theorem ck_k67 (Gh : Nat → (Nat → Int32) → Prop) (l : Launch) (D : va_G) (st : Nat → Nat) : ck_Mt Gh l D st ck_c67 := ab_sound (tr := ck_tr) (T := ck_T9) (cs := []) (hs := ck_h67) (sp := []) (fuel := 109) l ck_TSgood ck_okCl ck_okDt (M0 := ck_m35) rfl ck_okT9 ck_nil (by decide +kernel)
/-- SL$Tape.append -/
def ck_c68 : ab_C := (35, 101, [.inr (0, 45), .inl ((-2147483648), 2147483647)], [((45, 1, 1, 1), .inl (12, 392)), ((45, 0, 1, 1), .inr (0, 46))], [(45, 1, 1, 1), (46, 12, 1, 381), (46, 13, 1, 381), (46, 14, 1, 381), (46, 15, 1, 381)], [(none, [((-2147483648), 2147483647)], [((45, 1, 1, 1), .inl (16, 396))], 101)], 0, 0, 0, 0)
def ck_h68 : List ab_Hd := []
set_option maxRecDepth 100000 in
theorem ck_k68 (Gh : Nat → (Nat → Int32) → Prop) (l : Launch) (D : va_G) (st : Nat → Nat) : ck_Mt Gh l D st ck_c68 := ab_sound (tr := ck_tr) (T := ck_T9) (cs := []) (hs := ck_h68) (sp := []) (fuel := 109) l ck_TSgood ck_okCl ck_okDt (M0 := ck_m35) rfl ck_okT9 ck_nil (by decide +kernel)
/-- SL$Tape.append -/
def ck_c69 : ab_C := (35, 101, [.inr (0, 45), .inl ((-2147483648), 2147483647)], [((45, 1, 1, 1), .inl (16, 396)), ((45, 0, 1, 1), .inr (0, 46))], [(45, 1, 1, 1), (46, 16, 1, 381), (46, 17, 1, 381), (46, 18, 1, 381), (46, 19, 1, 381)], [(none, [((-2147483648), 2147483647)], [((45, 1, 1, 1), .inl (20, 400))], 101)], 0, 0, 0, 0)
def ck_h69 : List ab_Hd := []
set_option maxRecDepth 100000 in
theorem ck_k69 (Gh : Nat → (Nat → Int32) → Prop) (l : Launch) (D : va_G) (st : Nat → Nat) : ck_Mt Gh l D st ck_c69 := ab_sound (tr := ck_tr) (T := ck_T9) (cs := []) (hs := ck_h69) (sp := []) (fuel := 109) l ck_TSgood ck_okCl ck_okDt (M0 := ck_m35) rfl ck_okT9 ck_nil (by decide +kernel)
/-- SL.feed -/
def ck_c70 : ab_C := (34, 101, [.inr (0, 0), .inl ((-2147483648), 2147483647), .inl ((-2147483648), 2147483647), .inl ((-2147483648), 2147483647), .inl ((-2147483648), 2147483647), .inl ((-2147483648), 2147483647)], [((45, 0, 1, 1), .inr (0, 46)), ((45, 1, 1, 1), .inl (0, 400)), ((0, 3, 1, 1), .inr (0, 45))], [(45, 1, 1, 1), (46, 0, 1, 381), (46, 1, 1, 381), (46, 2, 1, 381), (46, 3, 1, 381), (46, 4, 1, 381), (46, 5, 1, 381), (46, 6, 1, 381), (46, 7, 1, 381), (46, 8, 1, 381), (46, 9, 1, 381), (46, 10, 1, 381), (46, 11, 1, 381), (46, 12, 1, 381), (46, 13, 1, 381), (46, 14, 1, 381), (46, 15, 1, 381), (46, 16, 1, 381), (46, 17, 1, 381), (46, 18, 1, 381), (46, 19, 1, 381)], [(some (.inl (20, 400)), [((-2147483648), 2147483647), ((-2147483648), 2147483647), ((-2147483648), 2147483647), ((-2147483648), 2147483647), ((-2147483648), 2147483647)], [((45, 1, 1, 1), .inl (20, 400))], 101), (some (.inl ((-1), (-1))), [((-2147483648), 2147483647), ((-2147483648), 2147483647), ((-2147483648), 2147483647), ((-2147483648), 2147483647), ((-2147483648), 2147483647)], [((45, 1, 1, 1), .inl (381, 400))], 101)], 1, 22, 0, 0)
def ck_h70 : List ab_Hd := []
set_option maxRecDepth 100000 in
theorem ck_k70 (Gh : Nat → (Nat → Int32) → Prop) (l : Launch) (D : va_G) (st : Nat → Nat) : ck_Mt Gh l D st ck_c70 := ab_sound (tr := ck_tr) (T := ck_T0) (cs := [ck_c65, ck_c66, ck_c67, ck_c68, ck_c69]) (hs := ck_h70) (sp := []) (fuel := 55) l ck_TSgood ck_okCl ck_okDt (M0 := ck_m34) rfl ck_okT0 (ck_cons (ck_k65 Gh l D st) (ck_cons (ck_k66 Gh l D st) (ck_cons (ck_k67 Gh l D st) (ck_cons (ck_k68 Gh l D st) (ck_cons (ck_k69 Gh l D st) ck_nil))))) (by decide +kernel)
/-- SLModel.feed -/
def ck_c71 : ab_C := (36, 101, [.inr (0, 77), .inl ((-2147483648), 2147483647), .inl ((-2147483648), 2147483647), .inl ((-2147483648), 2147483647), .inl ((-2147483648), 2147483647), .inl ((-2147483648), 2147483647)], [((82, 0, 1, 400), .inl ((-128), 127)), ((77, 5, 1, 1), .inr (0, 82)), ((77, 6, 1, 1), .inr (0, 83)), ((77, 7, 1, 1), .inl (0, 400))], [(77, 7, 1, 1), (82, 0, 1, 400), (83, 0, 1, 1), (83, 1, 1, 1), (83, 2, 1, 1), (83, 3, 1, 1), (83, 4, 1, 1)], [(some (.inl (20, 400)), [((-2147483648), 2147483647), ((-2147483648), 2147483647), ((-2147483648), 2147483647), ((-2147483648), 2147483647), ((-2147483648), 2147483647)], [((82, 0, 1, 400), .inl ((-128), 127)), ((77, 7, 1, 1), .inl (20, 400))], 101), (some (.inl ((-1), (-1))), [((-2147483648), 2147483647), ((-2147483648), 2147483647), ((-2147483648), 2147483647), ((-2147483648), 2147483647), ((-2147483648), 2147483647)], [((82, 0, 1, 400), .inl ((-128), 127)), ((77, 7, 1, 1), .inl (381, 400))], 101)], 0, 0, 0, 0)
def ck_h71 : List ab_Hd := [(55, ([((-2147483648), 2147483647, 0, (0, 0, 0)), ((-2147483648), 2147483647, 0, (0, 0, 0)), ((-2147483648), 2147483647, 0, (0, 0, 0)), ((-2147483648), 2147483647, 0, (0, 0, 0)), ((-2147483648), 2147483647, 0, (0, 0, 0)), (0, 20, 0, (0, 0, 0))], [(6, .inl (5, 1, 0)), (0, .inr (0, 77)), (1, .inl (0, 1, 0)), (2, .inl (1, 1, 0)), (3, .inl (2, 1, 0)), (4, .inl (3, 1, 0)), (5, .inl (4, 1, 0))], [], ([((82, 0, 1, 400), .inl ((-128), 127)), ((77, 5, 1, 1), .inr (0, 82)), ((77, 6, 1, 1), .inr (0, 83)), ((77, 7, 1, 1), .inl (0, 380))], []), 101, 0, 0), 5, 0)]
set_option maxRecDepth 100000 in
theorem ck_k71 (Gh : Nat → (Nat → Int32) → Prop) (l : Launch) (D : va_G) (st : Nat → Nat) : ck_Mt Gh l D st ck_c71 := ab_sound (tr := ck_tr) (T := ck_T13) (cs := []) (hs := ck_h71) (sp := []) (fuel := 85) l ck_TSgood ck_okCl ck_okDt (M0 := ck_m36) rfl ck_okT13 ck_nil (by decide +kernel)
/-- SL.within -/
def ck_c72 : ab_C := (16, 101, [.inl ((-2147483648), 2147483647), .inl (0, 0), .inl (0, 400)], [], [], [(some (.inl (0, 0)), [((-2147483648), (-1)), (0, 0), (0, 400)], [], 101), (some (.inl (0, 0)), [(1, 2147483647), (0, 0), (0, 400)], [], 101), (some (.inl (1, 1)), [(0, 400), (0, 0), (0, 400)], [], 101)], 0, 0, 0, 0)
def ck_h72 : List ab_Hd := []
set_option maxRecDepth 100000 in
theorem ck_k72 (Gh : Nat → (Nat → Int32) → Prop) (l : Launch) (D : va_G) (st : Nat → Nat) : ck_Mt Gh l D st ck_c72 := ab_sound (tr := ck_tr) (T := ck_T0) (cs := []) (hs := ck_h72) (sp := []) (fuel := 33) l ck_TSgood ck_okCl ck_okDt (M0 := ck_m16) rfl ck_okT0 ck_nil (by decide +kernel)
/-- SL.end -/
def ck_c73 : ab_C := (37, 101, [.inr (0, 0), .inl ((-2147483648), 2147483647)], [((45, 1, 1, 1), .inl (0, 400)), ((0, 3, 1, 1), .inr (0, 45))], [(45, 1, 1, 1)], [(some (.inl ((-1), (-1))), [((-2147483648), (-1))], [((45, 1, 1, 1), .inl (0, 400))], 101), (some (.inl ((-1), (-1))), [(1, 2147483647)], [((45, 1, 1, 1), .inl (0, 400))], 101), (some (.inl (0, 400)), [(0, 400)], [((45, 1, 1, 1), .inl (0, 400))], 101)], 1, 22, 0, 0)
def ck_h73 : List ab_Hd := []
set_option maxRecDepth 100000 in
theorem ck_k73 (Gh : Nat → (Nat → Int32) → Prop) (l : Launch) (D : va_G) (st : Nat → Nat) : ck_Mt Gh l D st ck_c73 := ab_sound (tr := ck_tr) (T := ck_T0) (cs := [ck_c72]) (hs := ck_h73) (sp := []) (fuel := 37) l ck_TSgood ck_okCl ck_okDt (M0 := ck_m37) rfl ck_okT0 (ck_cons (ck_k72 Gh l D st) ck_nil) (by decide +kernel)
/-- SLModel.in -/
def ck_c74 : ab_C := (21, 101, [.inl ((-2147483648), 2147483647), .inl (0, 0), .inl (0, 400)], [], [], [(some (.inl (0, 0)), [((-2147483648), (-1)), (0, 0), (0, 400)], [], 101), (some (.inl (0, 0)), [(1, 2147483647), (0, 0), (0, 400)], [], 101), (some (.inl (1, 1)), [(0, 400), (0, 0), (0, 400)], [], 101)], 0, 0, 0, 0)
def ck_h74 : List ab_Hd := []
set_option maxRecDepth 100000 in
theorem ck_k74 (Gh : Nat → (Nat → Int32) → Prop) (l : Launch) (D : va_G) (st : Nat → Nat) : ck_Mt Gh l D st ck_c74 := ab_sound (tr := ck_tr) (T := ck_T13) (cs := []) (hs := ck_h74) (sp := []) (fuel := 33) l ck_TSgood ck_okCl ck_okDt (M0 := ck_m21) rfl ck_okT13 ck_nil (by decide +kernel)
/-- SLModel.end -/
def ck_c75 : ab_C := (38, 101, [.inr (0, 77), .inl ((-2147483648), 2147483647)], [((77, 7, 1, 1), .inl (0, 400))], [(77, 7, 1, 1)], [(some (.inl ((-1), (-1))), [((-2147483648), (-1))], [((77, 7, 1, 1), .inl (0, 400))], 101), (some (.inl ((-1), (-1))), [(1, 2147483647)], [((77, 7, 1, 1), .inl (0, 400))], 101), (some (.inl (0, 400)), [(0, 400)], [((77, 7, 1, 1), .inl (0, 400))], 101)], 1, 22, 0, 0)
def ck_h75 : List ab_Hd := []
set_option maxRecDepth 100000 in
theorem ck_k75 (Gh : Nat → (Nat → Int32) → Prop) (l : Launch) (D : va_G) (st : Nat → Nat) : ck_Mt Gh l D st ck_c75 := ab_sound (tr := ck_tr) (T := ck_T13) (cs := [ck_c74]) (hs := ck_h75) (sp := []) (fuel := 35) l ck_TSgood ck_okCl ck_okDt (M0 := ck_m38) rfl ck_okT13 (ck_cons (ck_k74 Gh l D st) ck_nil) (by decide +kernel)
/-- SL.within -/
def ck_c76 : ab_C := (16, 101, [.inl ((-2147483648), 2147483647), .inl (0, 0), .inl ((-1), 9)], [], [], [(some (.inl (0, 0)), [((-2147483648), (-1)), (0, 0), ((-1), 9)], [], 101), (some (.inl (0, 0)), [(0, 2147483647), (0, 0), ((-1), 9)], [], 101), (some (.inl (1, 1)), [(0, 9), (0, 0), (0, 9)], [], 101)], 0, 0, 0, 0)
def ck_h76 : List ab_Hd := []
set_option maxRecDepth 100000 in
theorem ck_k76 (Gh : Nat → (Nat → Int32) → Prop) (l : Launch) (D : va_G) (st : Nat → Nat) : ck_Mt Gh l D st ck_c76 := ab_sound (tr := ck_tr) (T := ck_T0) (cs := []) (hs := ck_h76) (sp := []) (fuel := 33) l ck_TSgood ck_okCl ck_okDt (M0 := ck_m16) rfl ck_okT0 ck_nil (by decide +kernel)
/-- SL.refuse -/
def ck_c77 : ab_C := (17, 101, [.inr (0, 0), .inl ((-2), (-2))], [], [(0, 14, 1, 1)], [(some (.inl ((-2), (-2))), [((-2), (-2))], [((0, 14, 1, 1), .inl ((-2), (-2)))], 101)], 0, 0, 0, 0)
def ck_h77 : List ab_Hd := []
set_option maxRecDepth 100000 in
theorem ck_k77 (Gh : Nat → (Nat → Int32) → Prop) (l : Launch) (D : va_G) (st : Nat → Nat) : ck_Mt Gh l D st ck_c77 := ab_sound (tr := ck_tr) (T := ck_T0) (cs := []) (hs := ck_h77) (sp := []) (fuel := 29) l ck_TSgood ck_okCl ck_okDt (M0 := ck_m17) rfl ck_okT0 ck_nil (by decide +kernel)
/-- SL.accept -/
def ck_c78 : ab_C := (19, 101, [.inr (0, 0), .inl ((-1), 9)], [], [(0, 14, 1, 1)], [(some (.inl ((-1), 9)), [((-1), 9)], [((0, 14, 1, 1), .inl (0, 0))], 101)], 0, 0, 0, 0)
def ck_h78 : List ab_Hd := []
set_option maxRecDepth 100000 in
theorem ck_k78 (Gh : Nat → (Nat → Int32) → Prop) (l : Launch) (D : va_G) (st : Nat → Nat) : ck_Mt Gh l D st ck_c78 := ab_sound (tr := ck_tr) (T := ck_T0) (cs := []) (hs := ck_h78) (sp := []) (fuel := 29) l ck_TSgood ck_okCl ck_okDt (M0 := ck_m19) rfl ck_okT0 ck_nil (by decide +kernel)
/-- SL.law -/
def ck_c79 : ab_C := (39, 101, [.inr (0, 0), .inl ((-2147483648), 2147483647)], [((1, 10, 1, 1), .inl ((-1), 9)), ((1, 11, 1, 1), .inl (0, 10)), ((0, 0, 1, 1), .inr (0, 1))], [(0, 14, 1, 1), (1, 10, 1, 1)], [(some (.inl ((-2), (-2))), [((-2147483648), (-1))], [((0, 14, 1, 1), .inl ((-2), (-2))), ((1, 10, 1, 1), .inl ((-1), 9))], 101), (some (.inl ((-2), (-2))), [(0, 2147483647)], [((0, 14, 1, 1), .inl ((-2), (-2))), ((1, 10, 1, 1), .inl ((-1), 9))], 101), (some (.inl ((-1), 9)), [(0, 9)], [((0, 14, 1, 1), .inl (0, 0)), ((1, 10, 1, 1), .inl (0, 9)), ((1, 11, 1, 1), .inl (1, 10))], 101)], 1, 22, 0, 0)
def ck_h79 : List ab_Hd := []
set_option maxRecDepth 100000 in
theorem ck_k79 (Gh : Nat → (Nat → Int32) → Prop) (l : Launch) (D : va_G) (st : Nat → Nat) : ck_Mt Gh l D st ck_c79 := ab_sound (tr := ck_tr) (T := ck_T0) (cs := [ck_c76, ck_c77, ck_c78]) (hs := ck_h79) (sp := []) (fuel := 45) l ck_TSgood ck_okCl ck_okDt (M0 := ck_m39) rfl ck_okT0 (ck_cons (ck_k76 Gh l D st) (ck_cons (ck_k77 Gh l D st) (ck_cons (ck_k78 Gh l D st) ck_nil))) (by decide +kernel)
/-- SLModel.in -/
def ck_c80 : ab_C := (21, 101, [.inl ((-2147483648), 2147483647), .inl (0, 0), .inl ((-1), 9)], [], [], [(some (.inl (0, 0)), [((-2147483648), (-1)), (0, 0), ((-1), 9)], [], 101), (some (.inl (0, 0)), [(0, 2147483647), (0, 0), ((-1), 9)], [], 101), (some (.inl (1, 1)), [(0, 9), (0, 0), (0, 9)], [], 101)], 0, 0, 0, 0)
def ck_h80 : List ab_Hd := []
set_option maxRecDepth 100000 in
theorem ck_k80 (Gh : Nat → (Nat → Int32) → Prop) (l : Launch) (D : va_G) (st : Nat → Nat) : ck_Mt Gh l D st ck_c80 := ab_sound (tr := ck_tr) (T := ck_T13) (cs := []) (hs := ck_h80) (sp := []) (fuel := 33) l ck_TSgood ck_okCl ck_okDt (M0 := ck_m21) rfl ck_okT13 ck_nil (by decide +kernel)
/-- SLModel.isText -/
def ck_c81 : ab_C := (41, 101, [.inr (0, 77), .inl ((-2147483648), 2147483647)], [((78, 1294, 1, 1), .inl (0, 10)), ((77, 1, 1, 1), .inr (0, 78))], [], [(some (.inl (0, 0)), [((-2147483648), (-1))], [], 101), (some (.inl (0, 0)), [(0, 2147483647)], [], 101), (some (.inl (1, 1)), [(0, 9)], [((78, 1294, 1, 1), .inl (1, 10))], 101)], 1, 22, 0, 0)
def ck_h81 : List ab_Hd := []
set_option maxRecDepth 100000 in
theorem ck_k81 (Gh : Nat → (Nat → Int32) → Prop) (l : Launch) (D : va_G) (st : Nat → Nat) : ck_Mt Gh l D st ck_c81 := ab_sound (tr := ck_tr) (T := ck_T13) (cs := [ck_c80]) (hs := ck_h81) (sp := []) (fuel := 34) l ck_TSgood ck_okCl ck_okDt (M0 := ck_m41) rfl ck_okT13 (ck_cons (ck_k80 Gh l D st) ck_nil) (by decide +kernel)
/-- SLModel.refuses -/
def ck_c82 : ab_C := (22, 101, [.inr (0, 77), .inl ((-2), (-2))], [], [(77, 0, 1, 1)], [(some (.inl ((-2), (-2))), [((-2), (-2))], [((77, 0, 1, 1), .inl ((-2), (-2)))], 101)], 0, 0, 0, 0)
def ck_h82 : List ab_Hd := []
set_option maxRecDepth 100000 in
theorem ck_k82 (Gh : Nat → (Nat → Int32) → Prop) (l : Launch) (D : va_G) (st : Nat → Nat) : ck_Mt Gh l D st ck_c82 := ab_sound (tr := ck_tr) (T := ck_T13) (cs := []) (hs := ck_h82) (sp := []) (fuel := 29) l ck_TSgood ck_okCl ck_okDt (M0 := ck_m22) rfl ck_okT13 ck_nil (by decide +kernel)
/-- SLModel.good -/
def ck_c83 : ab_C := (24, 101, [.inr (0, 77), .inl ((-1), 9)], [], [(77, 0, 1, 1)], [(some (.inl ((-1), 9)), [((-1), 9)], [((77, 0, 1, 1), .inl (0, 0))], 101)], 0, 0, 0, 0)
def ck_h83 : List ab_Hd := []
set_option maxRecDepth 100000 in
theorem ck_k83 (Gh : Nat → (Nat → Int32) → Prop) (l : Launch) (D : va_G) (st : Nat → Nat) : ck_Mt Gh l D st ck_c83 := ab_sound (tr := ck_tr) (T := ck_T13) (cs := []) (hs := ck_h83) (sp := []) (fuel := 29) l ck_TSgood ck_okCl ck_okDt (M0 := ck_m24) rfl ck_okT13 ck_nil (by decide +kernel)
/-- SLModel.replaces -/
def ck_c84 : ab_C := (28, 101, [.inr (0, 77), .inl (1296, 1296), .inl (0, 9)], [((78, 1296, 1, 1), .inl ((-1), 9)), ((77, 1, 1, 1), .inr (0, 78))], [(77, 0, 1, 1), (78, 1296, 1, 1)], [(some (.inl ((-1), 9)), [(1296, 1296), (0, 9)], [((77, 0, 1, 1), .inl (0, 0)), ((78, 1296, 1, 1), .inl (0, 9))], 101)], 1, 21, 0, 0)
def ck_h84 : List ab_Hd := []
set_option maxRecDepth 100000 in
theorem ck_k84 (Gh : Nat → (Nat → Int32) → Prop) (l : Launch) (D : va_G) (st : Nat → Nat) : ck_Mt Gh l D st ck_c84 := ab_sound (tr := ck_tr) (T := ck_T13) (cs := [ck_c83]) (hs := ck_h84) (sp := []) (fuel := 38) l ck_TSgood ck_okCl ck_okDt (M0 := ck_m28) rfl ck_okT13 (ck_cons (ck_k83 Gh l D st) ck_nil) (by decide +kernel)
/-- SLModel.law -/
def ck_c85 : ab_C := (40, 101, [.inr (0, 77), .inl ((-2147483648), 2147483647)], [((78, 1294, 1, 1), .inl (0, 10)), ((78, 1296, 1, 1), .inl ((-1), 9)), ((77, 1, 1, 1), .inr (0, 78))], [(77, 0, 1, 1), (78, 1296, 1, 1)], [(some (.inl ((-2), (-2))), [((-2147483648), (-1))], [((77, 0, 1, 1), .inl ((-2), (-2))), ((78, 1296, 1, 1), .inl ((-1), 9))], 101), (some (.inl ((-2), (-2))), [(0, 2147483647)], [((77, 0, 1, 1), .inl ((-2), (-2))), ((78, 1296, 1, 1), .inl ((-1), 9))], 101), (some (.inl ((-1), 9)), [(0, 9)], [((77, 0, 1, 1), .inl (0, 0)), ((78, 1296, 1, 1), .inl (0, 9)), ((78, 1294, 1, 1), .inl (1, 10))], 101)], 2, 44, 0, 0)
def ck_h85 : List ab_Hd := []
set_option maxRecDepth 100000 in
theorem ck_k85 (Gh : Nat → (Nat → Int32) → Prop) (l : Launch) (D : va_G) (st : Nat → Nat) : ck_Mt Gh l D st ck_c85 := ab_sound (tr := ck_tr) (T := ck_T13) (cs := [ck_c81, ck_c82, ck_c84]) (hs := ck_h85) (sp := []) (fuel := 33) l ck_TSgood ck_okCl ck_okDt (M0 := ck_m40) rfl ck_okT13 (ck_cons (ck_k81 Gh l D st) (ck_cons (ck_k82 Gh l D st) (ck_cons (ck_k84 Gh l D st) ck_nil))) (by decide +kernel)
/-- SL.within -/
def ck_c86 : ab_C := (16, 101, [.inl ((-2147483648), 2147483647), .inl (0, 0), .inl ((-1), 119)], [], [], [(some (.inl (0, 0)), [((-2147483648), (-1)), (0, 0), ((-1), 119)], [], 101), (some (.inl (0, 0)), [(0, 2147483647), (0, 0), ((-1), 119)], [], 101), (some (.inl (1, 1)), [(0, 119), (0, 0), (0, 119)], [], 101)], 0, 0, 0, 0)
def ck_h86 : List ab_Hd := []
set_option maxRecDepth 100000 in
theorem ck_k86 (Gh : Nat → (Nat → Int32) → Prop) (l : Launch) (D : va_G) (st : Nat → Nat) : ck_Mt Gh l D st ck_c86 := ab_sound (tr := ck_tr) (T := ck_T0) (cs := []) (hs := ck_h86) (sp := []) (fuel := 33) l ck_TSgood ck_okCl ck_okDt (M0 := ck_m16) rfl ck_okT0 ck_nil (by decide +kernel)
/-- SL$Bench.hasTrial -/
def ck_c87 : ab_C := (43, 101, [.inr (0, 1), .inl ((-2147483648), 2147483647)], [((1, 14, 1, 1), .inl (0, 120))], [], [(some (.inl (0, 0)), [((-2147483648), (-1))], [], 101), (some (.inl (0, 0)), [(0, 2147483647)], [], 101), (some (.inl (1, 1)), [(0, 119)], [((1, 14, 1, 1), .inl (1, 120))], 101)], 1, 22, 0, 0)
def ck_h87 : List ab_Hd := []
set_option maxRecDepth 100000 in
theorem ck_k87 (Gh : Nat → (Nat → Int32) → Prop) (l : Launch) (D : va_G) (st : Nat → Nat) : ck_Mt Gh l D st ck_c87 := ab_sound (tr := ck_tr) (T := ck_T1) (cs := [ck_c86]) (hs := ck_h87) (sp := []) (fuel := 32) l ck_TSgood ck_okCl ck_okDt (M0 := ck_m43) rfl ck_okT1 (ck_cons (ck_k86 Gh l D st) ck_nil) (by decide +kernel)
/-- SL.within -/
def ck_c88 : ab_C := (16, 101, [.inl ((-2147483648), 2147483647), .inl (0, 0), .inl (8, 8)], [], [], [(some (.inl (0, 0)), [((-2147483648), (-1)), (0, 0), (8, 8)], [], 101), (some (.inl (0, 0)), [(9, 2147483647), (0, 0), (8, 8)], [], 101), (some (.inl (1, 1)), [(0, 8), (0, 0), (8, 8)], [], 101)], 0, 0, 0, 0)
def ck_h88 : List ab_Hd := []
set_option maxRecDepth 100000 in
theorem ck_k88 (Gh : Nat → (Nat → Int32) → Prop) (l : Launch) (D : va_G) (st : Nat → Nat) : ck_Mt Gh l D st ck_c88 := ab_sound (tr := ck_tr) (T := ck_T0) (cs := []) (hs := ck_h88) (sp := []) (fuel := 33) l ck_TSgood ck_okCl ck_okDt (M0 := ck_m16) rfl ck_okT0 ck_nil (by decide +kernel)
/-- SL$Bench.column -/
def ck_c89 : ab_C := (44, 101, [.inr (0, 1), .inl (0, 119), .inl (0, 8)], [((1, 15, 1, 1), .inr (0, 14))], [], [(some (.inl ((-2147483648), 2147483647)), [(0, 119), (0, 8)], [], 101)], 0, 0, 0, 0)
def ck_h89 : List ab_Hd := []
set_option maxRecDepth 100000 in
theorem ck_k89 (Gh : Nat → (Nat → Int32) → Prop) (l : Launch) (D : va_G) (st : Nat → Nat) : ck_Mt Gh l D st ck_c89 := ab_sound (tr := ck_tr) (T := ck_T1) (cs := []) (hs := ck_h89) (sp := []) (fuel := 33) l ck_TSgood ck_okCl ck_okDt (M0 := ck_m44) rfl ck_okT1 ck_nil (by decide +kernel)
/-- SL.of -/
def ck_c90 : ab_C := (42, 101, [.inr (0, 0), .inl ((-2147483648), 2147483647), .inl ((-2147483648), 2147483647)], [((1, 14, 1, 1), .inl (0, 120)), ((1, 15, 1, 1), .inr (0, 14)), ((0, 0, 1, 1), .inr (0, 1))], [], [(some (.inl ((-1), (-1))), [((-2147483648), (-1)), ((-2147483648), 2147483647)], [], 101), (some (.inl ((-1), (-1))), [(0, 2147483647), ((-2147483648), 2147483647)], [], 101), (some (.inl ((-1), (-1))), [(0, 119), ((-2147483648), (-1))], [((1, 14, 1, 1), .inl (1, 120))], 101), (some (.inl ((-1), (-1))), [(0, 119), (9, 2147483647)], [((1, 14, 1, 1), .inl (1, 120))], 101), (some (.inl ((-2147483648), 2147483647)), [(0, 119), (0, 8)], [((1, 14, 1, 1), .inl (1, 120))], 101)], 2, 43, 0, 0)
def ck_h90 : List ab_Hd := []
set_option maxRecDepth 100000 in
theorem ck_k90 (Gh : Nat → (Nat → Int32) → Prop) (l : Launch) (D : va_G) (st : Nat → Nat) : ck_Mt Gh l D st ck_c90 := ab_sound (tr := ck_tr) (T := ck_T0) (cs := [ck_c87, ck_c88, ck_c89]) (hs := ck_h90) (sp := []) (fuel := 40) l ck_TSgood ck_okCl ck_okDt (M0 := ck_m42) rfl ck_okT0 (ck_cons (ck_k87 Gh l D st) (ck_cons (ck_k88 Gh l D st) (ck_cons (ck_k89 Gh l D st) ck_nil))) (by decide +kernel)
/-- SLModel.in -/
def ck_c91 : ab_C := (21, 101, [.inl ((-2147483648), 2147483647), .inl (0, 0), .inl ((-1), 119)], [], [], [(some (.inl (0, 0)), [((-2147483648), (-1)), (0, 0), ((-1), 119)], [], 101), (some (.inl (0, 0)), [(0, 2147483647), (0, 0), ((-1), 119)], [], 101), (some (.inl (1, 1)), [(0, 119), (0, 0), (0, 119)], [], 101)], 0, 0, 0, 0)
def ck_h91 : List ab_Hd := []
set_option maxRecDepth 100000 in
theorem ck_k91 (Gh : Nat → (Nat → Int32) → Prop) (l : Launch) (D : va_G) (st : Nat → Nat) : ck_Mt Gh l D st ck_c91 := ab_sound (tr := ck_tr) (T := ck_T13) (cs := []) (hs := ck_h91) (sp := []) (fuel := 33) l ck_TSgood ck_okCl ck_okDt (M0 := ck_m21) rfl ck_okT13 ck_nil (by decide +kernel)
/-- SLModel.isTrial -/
def ck_c92 : ab_C := (46, 101, [.inr (0, 77), .inl ((-2147483648), 2147483647)], [((78, 1293, 1, 1), .inl (0, 120)), ((77, 1, 1, 1), .inr (0, 78))], [], [(some (.inl (0, 0)), [((-2147483648), (-1))], [], 101), (some (.inl (0, 0)), [(0, 2147483647)], [], 101), (some (.inl (1, 1)), [(0, 119)], [((78, 1293, 1, 1), .inl (1, 120))], 101)], 1, 22, 0, 0)
def ck_h92 : List ab_Hd := []
set_option maxRecDepth 100000 in
theorem ck_k92 (Gh : Nat → (Nat → Int32) → Prop) (l : Launch) (D : va_G) (st : Nat → Nat) : ck_Mt Gh l D st ck_c92 := ab_sound (tr := ck_tr) (T := ck_T13) (cs := [ck_c91]) (hs := ck_h92) (sp := []) (fuel := 34) l ck_TSgood ck_okCl ck_okDt (M0 := ck_m46) rfl ck_okT13 (ck_cons (ck_k91 Gh l D st) ck_nil) (by decide +kernel)
/-- SLModel.in -/
def ck_c93 : ab_C := (21, 101, [.inl ((-2147483648), 2147483647), .inl (0, 0), .inl (8, 8)], [], [], [(some (.inl (0, 0)), [((-2147483648), (-1)), (0, 0), (8, 8)], [], 101), (some (.inl (0, 0)), [(9, 2147483647), (0, 0), (8, 8)], [], 101), (some (.inl (1, 1)), [(0, 8), (0, 0), (8, 8)], [], 101)], 0, 0, 0, 0)
def ck_h93 : List ab_Hd := []
set_option maxRecDepth 100000 in
theorem ck_k93 (Gh : Nat → (Nat → Int32) → Prop) (l : Launch) (D : va_G) (st : Nat → Nat) : ck_Mt Gh l D st ck_c93 := ab_sound (tr := ck_tr) (T := ck_T13) (cs := []) (hs := ck_h93) (sp := []) (fuel := 33) l ck_TSgood ck_okCl ck_okDt (M0 := ck_m21) rfl ck_okT13 ck_nil (by decide +kernel)
/-- SLModel.trialOf -/
def ck_c94 : ab_C := (47, 101, [.inr (0, 77), .inl (0, 119), .inl (0, 8)], [((77, 1, 1, 1), .inr (0, 78))], [], [(some (.inl ((-2147483648), 2147483647)), [(0, 119), (0, 8)], [], 101)], 0, 0, 0, 0)
def ck_h94 : List ab_Hd := []
set_option maxRecDepth 100000 in
theorem ck_k94 (Gh : Nat → (Nat → Int32) → Prop) (l : Launch) (D : va_G) (st : Nat → Nat) : ck_Mt Gh l D st ck_c94 := ab_sound (tr := ck_tr) (T := ck_T13) (cs := []) (hs := ck_h94) (sp := []) (fuel := 35) l ck_TSgood ck_okCl ck_okDt (M0 := ck_m47) rfl ck_okT13 ck_nil (by decide +kernel)
/-- SLModel.of -/
def ck_c95 : ab_C := (45, 101, [.inr (0, 77), .inl ((-2147483648), 2147483647), .inl ((-2147483648), 2147483647)], [((78, 1293, 1, 1), .inl (0, 120)), ((77, 1, 1, 1), .inr (0, 78))], [], [(some (.inl ((-1), (-1))), [((-2147483648), (-1)), ((-2147483648), 2147483647)], [], 101), (some (.inl ((-1), (-1))), [(0, 2147483647), ((-2147483648), 2147483647)], [], 101), (some (.inl ((-1), (-1))), [(0, 119), ((-2147483648), (-1))], [((78, 1293, 1, 1), .inl (1, 120))], 101), (some (.inl ((-1), (-1))), [(0, 119), (9, 2147483647)], [((78, 1293, 1, 1), .inl (1, 120))], 101), (some (.inl ((-2147483648), 2147483647)), [(0, 119), (0, 8)], [((78, 1293, 1, 1), .inl (1, 120))], 101)], 2, 43, 0, 0)
def ck_h95 : List ab_Hd := []
set_option maxRecDepth 100000 in
theorem ck_k95 (Gh : Nat → (Nat → Int32) → Prop) (l : Launch) (D : va_G) (st : Nat → Nat) : ck_Mt Gh l D st ck_c95 := ab_sound (tr := ck_tr) (T := ck_T13) (cs := [ck_c92, ck_c93, ck_c94]) (hs := ck_h95) (sp := []) (fuel := 39) l ck_TSgood ck_okCl ck_okDt (M0 := ck_m45) rfl ck_okT13 (ck_cons (ck_k92 Gh l D st) (ck_cons (ck_k93 Gh l D st) (ck_cons (ck_k94 Gh l D st) ck_nil))) (by decide +kernel)
/-- SL$Bench.column -/
def ck_c96 : ab_C := (44, 101, [.inr (0, 1), .inl (0, 119), .inl (5, 5)], [((1, 15, 1, 1), .inr (0, 14))], [], [(some (.inl ((-2147483648), 2147483647)), [(0, 119), (5, 5)], [], 101)], 0, 0, 0, 0)
def ck_h96 : List ab_Hd := []
set_option maxRecDepth 100000 in
theorem ck_k96 (Gh : Nat → (Nat → Int32) → Prop) (l : Launch) (D : va_G) (st : Nat → Nat) : ck_Mt Gh l D st ck_c96 := ab_sound (tr := ck_tr) (T := ck_T1) (cs := []) (hs := ck_h96) (sp := []) (fuel := 33) l ck_TSgood ck_okCl ck_okDt (M0 := ck_m44) rfl ck_okT1 ck_nil (by decide +kernel)
/-- SL.refuse -/
def ck_c97 : ab_C := (17, 101, [.inr (0, 0), .inl ((-3), (-3))], [], [(0, 14, 1, 1)], [(some (.inl ((-3), (-3))), [((-3), (-3))], [((0, 14, 1, 1), .inl ((-3), (-3)))], 101)], 0, 0, 0, 0)
def ck_h97 : List ab_Hd := []
set_option maxRecDepth 100000 in
theorem ck_k97 (Gh : Nat → (Nat → Int32) → Prop) (l : Launch) (D : va_G) (st : Nat → Nat) : ck_Mt Gh l D st ck_c97 := ab_sound (tr := ck_tr) (T := ck_T0) (cs := []) (hs := ck_h97) (sp := []) (fuel := 29) l ck_TSgood ck_okCl ck_okDt (M0 := ck_m17) rfl ck_okT0 ck_nil (by decide +kernel)
/-- SL$Bench.column -/
def ck_c98 : ab_C := (44, 101, [.inr (0, 1), .inl (0, 119), .inl (8, 8)], [((1, 15, 1, 1), .inr (0, 14))], [], [(some (.inl ((-2147483648), 2147483647)), [(0, 119), (8, 8)], [], 101)], 0, 0, 0, 0)
def ck_h98 : List ab_Hd := []
set_option maxRecDepth 100000 in
theorem ck_k98 (Gh : Nat → (Nat → Int32) → Prop) (l : Launch) (D : va_G) (st : Nat → Nat) : ck_Mt Gh l D st ck_c98 := ab_sound (tr := ck_tr) (T := ck_T1) (cs := []) (hs := ck_h98) (sp := []) (fuel := 33) l ck_TSgood ck_okCl ck_okDt (M0 := ck_m44) rfl ck_okT1 ck_nil (by decide +kernel)
/-- SL$Bench.letFallOut -/
def ck_c99 : ab_C := (49, 101, [.inr (0, 1), .inl (0, 119)], [((1, 15, 1, 1), .inr (0, 14))], [(14, 8, 9, 120)], [(none, [(0, 119)], [], 101)], 0, 0, 0, 0)
def ck_h99 : List ab_Hd := []
set_option maxRecDepth 100000 in
theorem ck_k99 (Gh : Nat → (Nat → Int32) → Prop) (l : Launch) (D : va_G) (st : Nat → Nat) : ck_Mt Gh l D st ck_c99 := ab_sound (tr := ck_tr) (T := ck_T1) (cs := []) (hs := ck_h99) (sp := []) (fuel := 34) l ck_TSgood ck_okCl ck_okDt (M0 := ck_m49) rfl ck_okT1 ck_nil (by decide +kernel)
/-- SL.found -/
def ck_c100 : ab_C := (48, 101, [.inr (0, 0), .inl ((-2147483648), 2147483647)], [((1, 14, 1, 1), .inl (0, 120)), ((1, 15, 1, 1), .inr (0, 14)), ((0, 0, 1, 1), .inr (0, 1))], [(0, 14, 1, 1), (14, 8, 9, 120)], [(some (.inl ((-2), (-2))), [((-2147483648), (-1))], [((0, 14, 1, 1), .inl ((-2), (-2)))], 101), (some (.inl ((-2), (-2))), [(0, 2147483647)], [((0, 14, 1, 1), .inl ((-2), (-2)))], 101), (some (.inl ((-3), (-3))), [(0, 119)], [((0, 14, 1, 1), .inl ((-3), (-3))), ((1, 14, 1, 1), .inl (1, 120))], 101), (some (.inl (0, 0)), [(0, 119)], [((0, 14, 1, 1), .inl (0, 0)), ((1, 14, 1, 1), .inl (1, 120))], 101)], 2, 43, 0, 0)
def ck_h100 : List ab_Hd := []
set_option maxRecDepth 100000 in
theorem ck_k100 (Gh : Nat → (Nat → Int32) → Prop) (l : Launch) (D : va_G) (st : Nat → Nat) : ck_Mt Gh l D st ck_c100 := ab_sound (tr := ck_tr) (T := ck_T0) (cs := [ck_c87, ck_c77, ck_c96, ck_c97, ck_c98, ck_c99, ck_c56]) (hs := ck_h100) (sp := []) (fuel := 50) l ck_TSgood ck_okCl ck_okDt (M0 := ck_m48) rfl ck_okT0 (ck_cons (ck_k87 Gh l D st) (ck_cons (ck_k77 Gh l D st) (ck_cons (ck_k96 Gh l D st) (ck_cons (ck_k97 Gh l D st) (ck_cons (ck_k98 Gh l D st) (ck_cons (ck_k99 Gh l D st) (ck_cons (ck_k56 Gh l D st) ck_nil))))))) (by decide +kernel)
/-- SLModel.trialOf -/
def ck_c101 : ab_C := (47, 101, [.inr (0, 77), .inl (0, 119), .inl (5, 5)], [((77, 1, 1, 1), .inr (0, 78))], [], [(some (.inl ((-2147483648), 2147483647)), [(0, 119), (5, 5)], [], 101)], 0, 0, 0, 0)
def ck_h101 : List ab_Hd := []
set_option maxRecDepth 100000 in
theorem ck_k101 (Gh : Nat → (Nat → Int32) → Prop) (l : Launch) (D : va_G) (st : Nat → Nat) : ck_Mt Gh l D st ck_c101 := ab_sound (tr := ck_tr) (T := ck_T13) (cs := []) (hs := ck_h101) (sp := []) (fuel := 35) l ck_TSgood ck_okCl ck_okDt (M0 := ck_m47) rfl ck_okT13 ck_nil (by decide +kernel)
/-- SLModel.refuses -/
def ck_c102 : ab_C := (22, 101, [.inr (0, 77), .inl ((-3), (-3))], [], [(77, 0, 1, 1)], [(some (.inl ((-3), (-3))), [((-3), (-3))], [((77, 0, 1, 1), .inl ((-3), (-3)))], 101)], 0, 0, 0, 0)
def ck_h102 : List ab_Hd := []
set_option maxRecDepth 100000 in
theorem ck_k102 (Gh : Nat → (Nat → Int32) → Prop) (l : Launch) (D : va_G) (st : Nat → Nat) : ck_Mt Gh l D st ck_c102 := ab_sound (tr := ck_tr) (T := ck_T13) (cs := []) (hs := ck_h102) (sp := []) (fuel := 29) l ck_TSgood ck_okCl ck_okDt (M0 := ck_m22) rfl ck_okT13 ck_nil (by decide +kernel)
/-- SLModel.trialOf -/
def ck_c103 : ab_C := (47, 101, [.inr (0, 77), .inl (0, 119), .inl (8, 8)], [((77, 1, 1, 1), .inr (0, 78))], [], [(some (.inl ((-2147483648), 2147483647)), [(0, 119), (8, 8)], [], 101)], 0, 0, 0, 0)
def ck_h103 : List ab_Hd := []
set_option maxRecDepth 100000 in
theorem ck_k103 (Gh : Nat → (Nat → Int32) → Prop) (l : Launch) (D : va_G) (st : Nat → Nat) : ck_Mt Gh l D st ck_c103 := ab_sound (tr := ck_tr) (T := ck_T13) (cs := []) (hs := ck_h103) (sp := []) (fuel := 35) l ck_TSgood ck_okCl ck_okDt (M0 := ck_m47) rfl ck_okT13 ck_nil (by decide +kernel)
/-- SLModel.found -/
def ck_c104 : ab_C := (50, 101, [.inr (0, 77), .inl ((-2147483648), 2147483647)], [((78, 1293, 1, 1), .inl (0, 120)), ((77, 1, 1, 1), .inr (0, 78))], [(77, 0, 1, 1), (78, 220, 9, 120)], [(some (.inl ((-2), (-2))), [((-2147483648), (-1))], [((77, 0, 1, 1), .inl ((-2), (-2)))], 101), (some (.inl ((-2), (-2))), [(0, 2147483647)], [((77, 0, 1, 1), .inl ((-2), (-2)))], 101), (some (.inl ((-3), (-3))), [(0, 119)], [((77, 0, 1, 1), .inl ((-3), (-3))), ((78, 1293, 1, 1), .inl (1, 120))], 101), (some (.inl (0, 0)), [(0, 119)], [((77, 0, 1, 1), .inl (0, 0)), ((78, 1293, 1, 1), .inl (1, 120))], 101)], 2, 43, 0, 0)
def ck_h104 : List ab_Hd := []
set_option maxRecDepth 100000 in
theorem ck_k104 (Gh : Nat → (Nat → Int32) → Prop) (l : Launch) (D : va_G) (st : Nat → Nat) : ck_Mt Gh l D st ck_c104 := ab_sound (tr := ck_tr) (T := ck_T13) (cs := [ck_c92, ck_c82, ck_c101, ck_c102, ck_c103, ck_c31]) (hs := ck_h104) (sp := []) (fuel := 55) l ck_TSgood ck_okCl ck_okDt (M0 := ck_m50) rfl ck_okT13 (ck_cons (ck_k92 Gh l D st) (ck_cons (ck_k82 Gh l D st) (ck_cons (ck_k101 Gh l D st) (ck_cons (ck_k102 Gh l D st) (ck_cons (ck_k103 Gh l D st) (ck_cons (ck_k31 Gh l D st) ck_nil)))))) (by decide +kernel)
/-- SL.within -/
def ck_c105 : ab_C := (16, 101, [.inl ((-2147483648), 2147483647), .inl (1, 1), .inl (7, 7)], [], [], [(some (.inl (0, 0)), [((-2147483648), 0), (1, 1), (7, 7)], [], 101), (some (.inl (0, 0)), [(8, 2147483647), (1, 1), (7, 7)], [], 101), (some (.inl (1, 1)), [(1, 7), (1, 1), (7, 7)], [], 101)], 0, 0, 0, 0)
def ck_h105 : List ab_Hd := []
set_option maxRecDepth 100000 in
theorem ck_k105 (Gh : Nat → (Nat → Int32) → Prop) (l : Launch) (D : va_G) (st : Nat → Nat) : ck_Mt Gh l D st ck_c105 := ab_sound (tr := ck_tr) (T := ck_T0) (cs := []) (hs := ck_h105) (sp := []) (fuel := 33) l ck_TSgood ck_okCl ck_okDt (M0 := ck_m16) rfl ck_okT0 ck_nil (by decide +kernel)
/-- SL.within -/
def ck_c106 : ab_C := (16, 101, [.inl ((-2147483648), 2147483647), .inl (1, 1), .inl (15, 15)], [], [], [(some (.inl (0, 0)), [((-2147483648), 0), (1, 1), (15, 15)], [], 101), (some (.inl (0, 0)), [(16, 2147483647), (1, 1), (15, 15)], [], 101), (some (.inl (1, 1)), [(1, 15), (1, 1), (15, 15)], [], 101)], 0, 0, 0, 0)
def ck_h106 : List ab_Hd := []
set_option maxRecDepth 100000 in
theorem ck_k106 (Gh : Nat → (Nat → Int32) → Prop) (l : Launch) (D : va_G) (st : Nat → Nat) : ck_Mt Gh l D st ck_c106 := ab_sound (tr := ck_tr) (T := ck_T0) (cs := []) (hs := ck_h106) (sp := []) (fuel := 33) l ck_TSgood ck_okCl ck_okDt (M0 := ck_m16) rfl ck_okT0 ck_nil (by decide +kernel)
/-- SL$Bench.column -/
def ck_c107 : ab_C := (44, 101, [.inr (0, 1), .inl (0, 119), .inl (2, 2)], [((1, 15, 1, 1), .inr (0, 14))], [], [(some (.inl ((-2147483648), 2147483647)), [(0, 119), (2, 2)], [], 101)], 0, 0, 0, 0)
def ck_h107 : List ab_Hd := []
set_option maxRecDepth 100000 in
theorem ck_k107 (Gh : Nat → (Nat → Int32) → Prop) (l : Launch) (D : va_G) (st : Nat → Nat) : ck_Mt Gh l D st ck_c107 := ab_sound (tr := ck_tr) (T := ck_T1) (cs := []) (hs := ck_h107) (sp := []) (fuel := 33) l ck_TSgood ck_okCl ck_okDt (M0 := ck_m44) rfl ck_okT1 ck_nil (by decide +kernel)
/-- SL$Bench.column -/
def ck_c108 : ab_C := (44, 101, [.inr (0, 1), .inl (0, 119), .inl (3, 3)], [((1, 15, 1, 1), .inr (0, 14))], [], [(some (.inl ((-2147483648), 2147483647)), [(0, 119), (3, 3)], [], 101)], 0, 0, 0, 0)
def ck_h108 : List ab_Hd := []
set_option maxRecDepth 100000 in
theorem ck_k108 (Gh : Nat → (Nat → Int32) → Prop) (l : Launch) (D : va_G) (st : Nat → Nat) : ck_Mt Gh l D st ck_c108 := ab_sound (tr := ck_tr) (T := ck_T1) (cs := []) (hs := ck_h108) (sp := []) (fuel := 33) l ck_TSgood ck_okCl ck_okDt (M0 := ck_m44) rfl ck_okT1 ck_nil (by decide +kernel)
/-- SL$Bench.column -/
def ck_c109 : ab_C := (44, 101, [.inr (0, 1), .inl (0, 119), .inl (4, 4)], [((1, 15, 1, 1), .inr (0, 14))], [], [(some (.inl ((-2147483648), 2147483647)), [(0, 119), (4, 4)], [], 101)], 0, 0, 0, 0)
def ck_h109 : List ab_Hd := []
set_option maxRecDepth 100000 in
theorem ck_k109 (Gh : Nat → (Nat → Int32) → Prop) (l : Launch) (D : va_G) (st : Nat → Nat) : ck_Mt Gh l D st ck_c109 := ab_sound (tr := ck_tr) (T := ck_T1) (cs := []) (hs := ck_h109) (sp := []) (fuel := 33) l ck_TSgood ck_okCl ck_okDt (M0 := ck_m44) rfl ck_okT1 ck_nil (by decide +kernel)
/-- SL$Bench.counts -/
def ck_c110 : ab_C := (52, 101, [.inr (0, 1), .inl (0, 119)], [((1, 16, 1, 1), .inl (1, 7)), ((1, 17, 1, 1), .inl (1, 15)), ((1, 18, 1, 1), .inl (1, 15)), ((1, 15, 1, 1), .inr (0, 14))], [], [(some (.inl (0, 0)), [(0, 119)], [], 101), (some (.inl (1, 1)), [(0, 119)], [], 101)], 1, 22, 0, 0)
def ck_h110 : List ab_Hd := []
set_option maxRecDepth 100000 in
theorem ck_k110 (Gh : Nat → (Nat → Int32) → Prop) (l : Launch) (D : va_G) (st : Nat → Nat) : ck_Mt Gh l D st ck_c110 := ab_sound (tr := ck_tr) (T := ck_T1) (cs := [ck_c98, ck_c107, ck_c108, ck_c109]) (hs := ck_h110) (sp := []) (fuel := 65) l ck_TSgood ck_okCl ck_okDt (M0 := ck_m52) rfl ck_okT1 (ck_cons (ck_k98 Gh l D st) (ck_cons (ck_k107 Gh l D st) (ck_cons (ck_k108 Gh l D st) (ck_cons (ck_k109 Gh l D st) ck_nil)))) (by decide +kernel)
/-- SL.view -/
def ck_c111 : ab_C := (51, 101, [.inr (0, 0), .inl ((-2147483648), 2147483647), .inl ((-2147483648), 2147483647), .inl ((-2147483648), 2147483647)], [((1, 14, 1, 1), .inl (0, 120)), ((1, 15, 1, 1), .inr (0, 14)), ((0, 0, 1, 1), .inr (0, 1))], [(0, 14, 1, 1), (1, 16, 1, 1), (1, 17, 1, 1), (1, 18, 1, 1)], [(some (.inl ((-1), (-1))), [((-2147483648), 0), ((-2147483648), 2147483647), ((-2147483648), 2147483647)], [((0, 14, 1, 1), .inl ((-1), (-1)))], 101), (some (.inl ((-1), (-1))), [(8, 2147483647), ((-2147483648), 2147483647), ((-2147483648), 2147483647)], [((0, 14, 1, 1), .inl ((-1), (-1)))], 101), (some (.inl ((-1), (-1))), [(1, 7), ((-2147483648), 0), ((-2147483648), 2147483647)], [((0, 14, 1, 1), .inl ((-1), (-1)))], 101), (some (.inl ((-1), (-1))), [(1, 7), (16, 2147483647), ((-2147483648), 2147483647)], [((0, 14, 1, 1), .inl ((-1), (-1)))], 101), (some (.inl ((-1), (-1))), [(1, 7), (1, 15), ((-2147483648), 0)], [((0, 14, 1, 1), .inl ((-1), (-1)))], 101), (some (.inl ((-1), (-1))), [(1, 7), (1, 15), (16, 2147483647)], [((0, 14, 1, 1), .inl ((-1), (-1)))], 101), (some (.inl ((-2147483648), 2147483647)), [(1, 7), (1, 15), (1, 15)], [((0, 14, 1, 1), .inl (0, 0)), ((1, 16, 1, 1), .inl (1, 7)), ((1, 17, 1, 1), .inl (1, 15)), ((1, 18, 1, 1), .inl (1, 15))], 101)], 2, 43, 0, 0)
def ck_h111 : List ab_Hd := [(66, ([(1, 7, 0, (0, 0, 0)), (1, 15, 0, (0, 0, 0)), (1, 15, 0, (0, 0, 0)), (0, 120, 0, (0, 0, 0)), ((-2147483648), 2147483647, 0, (0, 0, 0))], [(5, .inl (3, 1, 0)), (4, .inl (4, 1, 0)), (0, .inr (0, 0)), (1, .inl (0, 1, 0)), (2, .inl (1, 1, 0)), (3, .inl (2, 1, 0))], [], ([((1, 16, 1, 1), .inl (1, 7)), ((1, 17, 1, 1), .inl (1, 15)), ((1, 18, 1, 1), .inl (1, 15)), ((1, 14, 1, 1), .inl (0, 120)), ((1, 15, 1, 1), .inr (0, 14)), ((0, 0, 1, 1), .inr (0, 1))], []), 101, 0, 0), 3, 0)]
set_option maxRecDepth 100000 in
theorem ck_k111 (Gh : Nat → (Nat → Int32) → Prop) (l : Launch) (D : va_G) (st : Nat → Nat) : ck_Mt Gh l D st ck_c111 := ab_sound (tr := ck_tr) (T := ck_T0) (cs := [ck_c105, ck_c19, ck_c106, ck_c47, ck_c110]) (hs := ck_h111) (sp := []) (fuel := 69) l ck_TSgood ck_okCl ck_okDt (M0 := ck_m51) rfl ck_okT0 (ck_cons (ck_k105 Gh l D st) (ck_cons (ck_k19 Gh l D st) (ck_cons (ck_k106 Gh l D st) (ck_cons (ck_k47 Gh l D st) (ck_cons (ck_k110 Gh l D st) ck_nil))))) (by decide +kernel)
/-- SLModel.in -/
def ck_c112 : ab_C := (21, 101, [.inl ((-2147483648), 2147483647), .inl (1, 1), .inl (7, 7)], [], [], [(some (.inl (0, 0)), [((-2147483648), 0), (1, 1), (7, 7)], [], 101), (some (.inl (0, 0)), [(8, 2147483647), (1, 1), (7, 7)], [], 101), (some (.inl (1, 1)), [(1, 7), (1, 1), (7, 7)], [], 101)], 0, 0, 0, 0)
def ck_h112 : List ab_Hd := []
set_option maxRecDepth 100000 in
theorem ck_k112 (Gh : Nat → (Nat → Int32) → Prop) (l : Launch) (D : va_G) (st : Nat → Nat) : ck_Mt Gh l D st ck_c112 := ab_sound (tr := ck_tr) (T := ck_T13) (cs := []) (hs := ck_h112) (sp := []) (fuel := 33) l ck_TSgood ck_okCl ck_okDt (M0 := ck_m21) rfl ck_okT13 ck_nil (by decide +kernel)
/-- SLModel.in -/
def ck_c113 : ab_C := (21, 101, [.inl ((-2147483648), 2147483647), .inl (1, 1), .inl (15, 15)], [], [], [(some (.inl (0, 0)), [((-2147483648), 0), (1, 1), (15, 15)], [], 101), (some (.inl (0, 0)), [(16, 2147483647), (1, 1), (15, 15)], [], 101), (some (.inl (1, 1)), [(1, 15), (1, 1), (15, 15)], [], 101)], 0, 0, 0, 0)
def ck_h113 : List ab_Hd := []
set_option maxRecDepth 100000 in
theorem ck_k113 (Gh : Nat → (Nat → Int32) → Prop) (l : Launch) (D : va_G) (st : Nat → Nat) : ck_Mt Gh l D st ck_c113 := ab_sound (tr := ck_tr) (T := ck_T13) (cs := []) (hs := ck_h113) (sp := []) (fuel := 33) l ck_TSgood ck_okCl ck_okDt (M0 := ck_m21) rfl ck_okT13 ck_nil (by decide +kernel)
/-- SLModel.trialOf -/
def ck_c114 : ab_C := (47, 101, [.inr (0, 77), .inl (0, 119), .inl (2, 2)], [((77, 1, 1, 1), .inr (0, 78))], [], [(some (.inl ((-2147483648), 2147483647)), [(0, 119), (2, 2)], [], 101)], 0, 0, 0, 0)
def ck_h114 : List ab_Hd := []
set_option maxRecDepth 100000 in
theorem ck_k114 (Gh : Nat → (Nat → Int32) → Prop) (l : Launch) (D : va_G) (st : Nat → Nat) : ck_Mt Gh l D st ck_c114 := ab_sound (tr := ck_tr) (T := ck_T13) (cs := []) (hs := ck_h114) (sp := []) (fuel := 35) l ck_TSgood ck_okCl ck_okDt (M0 := ck_m47) rfl ck_okT13 ck_nil (by decide +kernel)
/-- SLModel.trialOf -/
def ck_c115 : ab_C := (47, 101, [.inr (0, 77), .inl (0, 119), .inl (3, 3)], [((77, 1, 1, 1), .inr (0, 78))], [], [(some (.inl ((-2147483648), 2147483647)), [(0, 119), (3, 3)], [], 101)], 0, 0, 0, 0)
def ck_h115 : List ab_Hd := []
set_option maxRecDepth 100000 in
theorem ck_k115 (Gh : Nat → (Nat → Int32) → Prop) (l : Launch) (D : va_G) (st : Nat → Nat) : ck_Mt Gh l D st ck_c115 := ab_sound (tr := ck_tr) (T := ck_T13) (cs := []) (hs := ck_h115) (sp := []) (fuel := 35) l ck_TSgood ck_okCl ck_okDt (M0 := ck_m47) rfl ck_okT13 ck_nil (by decide +kernel)
/-- SLModel.trialOf -/
def ck_c116 : ab_C := (47, 101, [.inr (0, 77), .inl (0, 119), .inl (4, 4)], [((77, 1, 1, 1), .inr (0, 78))], [], [(some (.inl ((-2147483648), 2147483647)), [(0, 119), (4, 4)], [], 101)], 0, 0, 0, 0)
def ck_h116 : List ab_Hd := []
set_option maxRecDepth 100000 in
theorem ck_k116 (Gh : Nat → (Nat → Int32) → Prop) (l : Launch) (D : va_G) (st : Nat → Nat) : ck_Mt Gh l D st ck_c116 := ab_sound (tr := ck_tr) (T := ck_T13) (cs := []) (hs := ck_h116) (sp := []) (fuel := 35) l ck_TSgood ck_okCl ck_okDt (M0 := ck_m47) rfl ck_okT13 ck_nil (by decide +kernel)
/-- SLModel.counts -/
def ck_c117 : ab_C := (54, 101, [.inr (0, 77), .inl (0, 119)], [((78, 1297, 1, 1), .inl (1, 7)), ((78, 1298, 1, 1), .inl (1, 15)), ((78, 1299, 1, 1), .inl (1, 15)), ((77, 1, 1, 1), .inr (0, 78))], [], [(some (.inl (0, 0)), [(0, 119)], [], 101), (some (.inl (1, 1)), [(0, 119)], [], 101)], 1, 22, 0, 0)
def ck_h117 : List ab_Hd := []
set_option maxRecDepth 100000 in
theorem ck_k117 (Gh : Nat → (Nat → Int32) → Prop) (l : Launch) (D : va_G) (st : Nat → Nat) : ck_Mt Gh l D st ck_c117 := ab_sound (tr := ck_tr) (T := ck_T13) (cs := [ck_c103, ck_c114, ck_c115, ck_c116]) (hs := ck_h117) (sp := []) (fuel := 71) l ck_TSgood ck_okCl ck_okDt (M0 := ck_m54) rfl ck_okT13 (ck_cons (ck_k103 Gh l D st) (ck_cons (ck_k114 Gh l D st) (ck_cons (ck_k115 Gh l D st) (ck_cons (ck_k116 Gh l D st) ck_nil)))) (by decide +kernel)
/-- SLModel.view -/
def ck_c118 : ab_C := (53, 101, [.inr (0, 77), .inl ((-2147483648), 2147483647), .inl ((-2147483648), 2147483647), .inl ((-2147483648), 2147483647)], [((78, 1293, 1, 1), .inl (0, 120)), ((77, 1, 1, 1), .inr (0, 78))], [(77, 0, 1, 1), (78, 1297, 1, 1), (78, 1298, 1, 1), (78, 1299, 1, 1)], [(some (.inl ((-1), (-1))), [((-2147483648), 0), ((-2147483648), 2147483647), ((-2147483648), 2147483647)], [((77, 0, 1, 1), .inl ((-1), (-1)))], 101), (some (.inl ((-1), (-1))), [(8, 2147483647), ((-2147483648), 2147483647), ((-2147483648), 2147483647)], [((77, 0, 1, 1), .inl ((-1), (-1)))], 101), (some (.inl ((-1), (-1))), [(1, 7), ((-2147483648), 0), ((-2147483648), 2147483647)], [((77, 0, 1, 1), .inl ((-1), (-1)))], 101), (some (.inl ((-1), (-1))), [(1, 7), (16, 2147483647), ((-2147483648), 2147483647)], [((77, 0, 1, 1), .inl ((-1), (-1)))], 101), (some (.inl ((-1), (-1))), [(1, 7), (1, 15), ((-2147483648), 0)], [((77, 0, 1, 1), .inl ((-1), (-1)))], 101), (some (.inl ((-1), (-1))), [(1, 7), (1, 15), (16, 2147483647)], [((77, 0, 1, 1), .inl ((-1), (-1)))], 101), (some (.inl ((-2147483648), 2147483647)), [(1, 7), (1, 15), (1, 15)], [((77, 0, 1, 1), .inl (0, 0)), ((78, 1297, 1, 1), .inl (1, 7)), ((78, 1298, 1, 1), .inl (1, 15)), ((78, 1299, 1, 1), .inl (1, 15))], 101)], 2, 43, 0, 0)
def ck_h118 : List ab_Hd := [(69, ([(1, 7, 0, (0, 0, 0)), (1, 15, 0, (0, 0, 0)), (1, 15, 0, (0, 0, 0)), (0, 120, 0, (0, 0, 0)), ((-2147483648), 2147483647, 0, (0, 0, 0))], [(5, .inl (3, 1, 0)), (4, .inl (4, 1, 0)), (0, .inr (0, 77)), (1, .inl (0, 1, 0)), (2, .inl (1, 1, 0)), (3, .inl (2, 1, 0))], [], ([((78, 1297, 1, 1), .inl (1, 7)), ((78, 1298, 1, 1), .inl (1, 15)), ((78, 1299, 1, 1), .inl (1, 15)), ((78, 1293, 1, 1), .inl (0, 120)), ((77, 1, 1, 1), .inr (0, 78))], []), 101, 0, 0), 3, 0)]
set_option maxRecDepth 100000 in
theorem ck_k118 (Gh : Nat → (Nat → Int32) → Prop) (l : Launch) (D : va_G) (st : Nat → Nat) : ck_Mt Gh l D st ck_c118 := ab_sound (tr := ck_tr) (T := ck_T13) (cs := [ck_c112, ck_c27, ck_c113, ck_c50, ck_c117]) (hs := ck_h118) (sp := []) (fuel := 76) l ck_TSgood ck_okCl ck_okDt (M0 := ck_m53) rfl ck_okT13 (ck_cons (ck_k112 Gh l D st) (ck_cons (ck_k27 Gh l D st) (ck_cons (ck_k113 Gh l D st) (ck_cons (ck_k50 Gh l D st) (ck_cons (ck_k117 Gh l D st) ck_nil))))) (by decide +kernel)
/-- SL.within -/
def ck_c119 : ab_C := (16, 101, [.inl ((-2147483648), 2147483647), .inl (0, 0), .inl ((-1), 11)], [], [], [(some (.inl (0, 0)), [((-2147483648), (-1)), (0, 0), ((-1), 11)], [], 101), (some (.inl (0, 0)), [(0, 2147483647), (0, 0), ((-1), 11)], [], 101), (some (.inl (1, 1)), [(0, 11), (0, 0), (0, 11)], [], 101)], 0, 0, 0, 0)
def ck_h119 : List ab_Hd := []
set_option maxRecDepth 100000 in
theorem ck_k119 (Gh : Nat → (Nat → Int32) → Prop) (l : Launch) (D : va_G) (st : Nat → Nat) : ck_Mt Gh l D st ck_c119 := ab_sound (tr := ck_tr) (T := ck_T0) (cs := []) (hs := ck_h119) (sp := []) (fuel := 33) l ck_TSgood ck_okCl ck_okDt (M0 := ck_m16) rfl ck_okT0 ck_nil (by decide +kernel)
