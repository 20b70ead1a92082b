/-- SL$Naming.giveOut -/
def ck_c640 : ab_C := (159, 101, [.inr (0, 74), .inl (0, 7), .inl (0, 12), .inl (0, 0)], [((74, 0, 1, 1), .inr (0, 1)), ((74, 1, 1, 1), .inr (0, 53)), ((74, 2, 1, 1), .inr (0, 75)), ((53, 3, 1, 1), .inr (0, 56)), ((1, 0, 1, 1), .inl (1, 8))], [(75, 0, 1, 256)], [(none, [(0, 7), (0, 12), (0, 0)], [], 101)], 1, 23, 0, 0)
def ck_h640 : List ab_Hd := [(6, ([(0, 7, 0, (0, 0, 0)), (0, 12, 0, (0, 0, 0)), (0, 0, 0, (0, 0, 0)), (2, 13, 0, (0, 0, 0)), ((-2147483648), 2147483647, 0, (0, 0, 0))], [(5, .inl (3, 1, 0)), (4, .inl (4, 1, 0)), (0, .inr (0, 74)), (1, .inl (0, 1, 0)), (2, .inl (1, 1, 0)), (3, .inl (2, 1, 0))], [], ([((74, 0, 1, 1), .inr (0, 1)), ((74, 1, 1, 1), .inr (0, 53)), ((74, 2, 1, 1), .inr (0, 75)), ((53, 3, 1, 1), .inr (0, 56)), ((1, 0, 1, 1), .inl (1, 8))], []), 101, 0, 0), 3, 0), (28, ([(0, 7, 0, (0, 0, 0)), (0, 12, 0, (0, 0, 0)), (0, 0, 0, (0, 0, 0)), (2, 13, 0, (0, 0, 0)), ((-2147483648), 2147483647, 0, (0, 0, 0)), (0, 256, 0, (0, 0, 0))], [(5, .inl (5, 1, 0)), (4, .inl (4, 1, 0)), (0, .inr (0, 74)), (1, .inl (0, 1, 0)), (2, .inl (1, 1, 0)), (3, .inl (2, 1, 0))], [], ([((74, 0, 1, 1), .inr (0, 1)), ((74, 1, 1, 1), .inr (0, 53)), ((74, 2, 1, 1), .inr (0, 75)), ((53, 3, 1, 1), .inr (0, 56)), ((1, 0, 1, 1), .inl (1, 8))], []), 101, 0, 0), 5, 0), (76, ([(0, 7, 0, (0, 0, 0)), (0, 12, 0, (0, 0, 0)), (0, 0, 0, (0, 0, 0)), (2, 13, 0, (0, 0, 0)), ((-2147483648), 2147483647, 0, (0, 0, 0)), (0, 255, 0, (0, 0, 0)), (0, 255, 0, (0, 0, 0)), (0, 255, 0, (0, 0, 0))], [(7, .inl (6, 1, 0)), (6, .inl (7, 1, 0)), (5, .inl (5, 1, 0)), (4, .inl (4, 1, 0)), (0, .inr (0, 74)), (1, .inl (0, 1, 0)), (2, .inl (1, 1, 0)), (3, .inl (2, 1, 0))], [], ([((74, 0, 1, 1), .inr (0, 1)), ((74, 1, 1, 1), .inr (0, 53)), ((74, 2, 1, 1), .inr (0, 75)), ((53, 3, 1, 1), .inr (0, 56)), ((1, 0, 1, 1), .inl (1, 8))], []), 101, 0, 0), 6, 1)]
set_option maxRecDepth 100000 in
theorem ck_k640 (l : Launch) (D : va_G) (st : Nat → Nat) : ck_Mt gk_G l D st ck_c640 := ab_sound (tr := ck_tr2) (T := ck_T3) (cs := [ck_c638, ck_c639]) (hs := ck_h640) (sp := []) (fuel := 89) l ck_TSgood ck_okCl ck_okDt (M0 := ck_m159) rfl ck_okT3 (ck_cons (ck_k638 l D st) (ck_cons (ck_k639 l D st) ck_nil)) (by decide +kernel)
/-- SL$Naming.rowsWith -/
def ck_c641 : ab_C := (155, 101, [.inr (0, 74), .inl ((-1), (-1))], [((74, 0, 1, 1), .inr (0, 1)), ((74, 1, 1, 1), .inr (0, 53)), ((74, 2, 1, 1), .inr (0, 75)), ((53, 3, 1, 1), .inr (0, 56)), ((2, 0, 1, 12), .inl (0, 11)), ((1, 0, 1, 1), .inl (1, 8)), ((1, 1, 1, 1), .inr (0, 2)), ((1, 6, 1, 1), .inr (0, 7))], [(75, 0, 1, 256), (75, 0, 144, 1)], [(some (.inl ((-2147483648), 2147483647)), [((-1), (-1))], [], 101)], 2, 53, 0, 0)
def ck_h641 : List ab_Hd := [(22, ([((-1), (-1), 0, (0, 0, 0)), (0, 8, 0, (0, 0, 0)), ((-1), 1073741824, 0, (0, 0, 0)), (0, 19, 0, (0, 0, 0))], [(4, .inl (1, 1, 0)), (3, .inl (2, 1, 0)), (2, .inl (3, 1, 0)), (0, .inr (0, 74)), (1, .inl (0, 1, 0))], [], ([((74, 0, 1, 1), .inr (0, 1)), ((74, 1, 1, 1), .inr (0, 53)), ((74, 2, 1, 1), .inr (0, 75)), ((53, 3, 1, 1), .inr (0, 56)), ((2, 0, 1, 12), .inl (0, 11)), ((1, 0, 1, 1), .inl (1, 8)), ((1, 1, 1, 1), .inr (0, 2)), ((1, 6, 1, 1), .inr (0, 7))], []), 101, 0, 0), 1, 0)]
set_option maxRecDepth 100000 in
theorem ck_k641 (l : Launch) (D : va_G) (st : Nat → Nat) : ck_Mt gk_G l D st ck_c641 := ab_sound (tr := ck_tr2) (T := ck_T3) (cs := [ck_c635, ck_c637, co_namesKnownAs, ck_c640]) (hs := ck_h641) (sp := []) (fuel := 76) l ck_TSgood ck_okCl ck_okDt (M0 := ck_m155) rfl ck_okT3 (ck_cons (ck_k635 l D st) (ck_cons (ck_k637 l D st) (ck_cons (hk_namesKnownAsT l D st) (ck_cons (ck_k640 l D st) ck_nil)))) (by decide +kernel)
/-- SL$Naming.allRows -/
def ck_c642 : ab_C := (154, 101, [.inr (0, 74)], [((74, 0, 1, 1), .inr (0, 1)), ((74, 1, 1, 1), .inr (0, 53)), ((74, 2, 1, 1), .inr (0, 75)), ((53, 3, 1, 1), .inr (0, 56)), ((2, 0, 1, 12), .inl (0, 11)), ((1, 0, 1, 1), .inl (1, 8)), ((1, 1, 1, 1), .inr (0, 2)), ((1, 6, 1, 1), .inr (0, 7))], [(75, 0, 1, 256), (75, 0, 144, 1)], [(some (.inl ((-2147483648), 2147483647)), [], [], 101)], 3, 79, 0, 0)
def ck_h642 : List ab_Hd := []
set_option maxRecDepth 100000 in
theorem ck_k642 (l : Launch) (D : va_G) (st : Nat → Nat) : ck_Mt gk_G l D st ck_c642 := ab_sound (tr := ck_tr2) (T := ck_T3) (cs := [ck_c641]) (hs := ck_h642) (sp := []) (fuel := 28) l ck_TSgood ck_okCl ck_okDt (M0 := ck_m154) rfl ck_okT3 (ck_cons (ck_k641 l D st) ck_nil) (by decide +kernel)
/-- SL$Naming.giveOut -/
def ck_c643 : ab_C := (159, 101, [.inr (0, 74), .inl (0, 7), .inl (0, 12), .inl (1, 128)], [((74, 0, 1, 1), .inr (0, 1)), ((74, 1, 1, 1), .inr (0, 53)), ((74, 2, 1, 1), .inr (0, 75)), ((53, 3, 1, 1), .inr (0, 56)), ((1, 0, 1, 1), .inl (1, 8))], [(75, 0, 1, 256)], [(none, [(0, 7), (0, 12), (1, 128)], [], 101)], 1, 23, 0, 0)
def ck_h643 : List ab_Hd := [(6, ([(0, 7, 0, (0, 0, 0)), (0, 12, 0, (0, 0, 0)), (1, 128, 0, (0, 0, 0)), (2, 13, 0, (0, 0, 0)), ((-2147483648), 2147483647, 0, (0, 0, 0))], [(5, .inl (3, 1, 0)), (4, .inl (4, 1, 0)), (0, .inr (0, 74)), (1, .inl (0, 1, 0)), (2, .inl (1, 1, 0)), (3, .inl (2, 1, 0))], [], ([((74, 0, 1, 1), .inr (0, 1)), ((74, 1, 1, 1), .inr (0, 53)), ((74, 2, 1, 1), .inr (0, 75)), ((53, 3, 1, 1), .inr (0, 56)), ((1, 0, 1, 1), .inl (1, 8))], []), 101, 0, 0), 3, 0), (28, ([(0, 7, 0, (0, 0, 0)), (0, 12, 0, (0, 0, 0)), (1, 128, 0, (0, 0, 0)), (2, 13, 0, (0, 0, 0)), ((-2147483648), 2147483647, 0, (0, 0, 0)), (0, 256, 0, (0, 0, 0))], [(5, .inl (5, 1, 0)), (4, .inl (4, 1, 0)), (0, .inr (0, 74)), (1, .inl (0, 1, 0)), (2, .inl (1, 1, 0)), (3, .inl (2, 1, 0))], [], ([((74, 0, 1, 1), .inr (0, 1)), ((74, 1, 1, 1), .inr (0, 53)), ((74, 2, 1, 1), .inr (0, 75)), ((53, 3, 1, 1), .inr (0, 56)), ((1, 0, 1, 1), .inl (1, 8))], []), 101, 0, 0), 5, 0), (76, ([(0, 7, 0, (0, 0, 0)), (0, 12, 0, (0, 0, 0)), (1, 128, 0, (0, 0, 0)), (2, 13, 0, (0, 0, 0)), ((-2147483648), 2147483647, 0, (0, 0, 0)), (0, 255, 0, (0, 0, 0)), (0, 255, 0, (0, 0, 0)), (0, 255, 0, (0, 0, 0))], [(7, .inl (6, 1, 0)), (6, .inl (7, 1, 0)), (5, .inl (5, 1, 0)), (4, .inl (4, 1, 0)), (0, .inr (0, 74)), (1, .inl (0, 1, 0)), (2, .inl (1, 1, 0)), (3, .inl (2, 1, 0))], [], ([((74, 0, 1, 1), .inr (0, 1)), ((74, 1, 1, 1), .inr (0, 53)), ((74, 2, 1, 1), .inr (0, 75)), ((53, 3, 1, 1), .inr (0, 56)), ((1, 0, 1, 1), .inl (1, 8))], []), 101, 0, 0), 6, 1)]
set_option maxRecDepth 100000 in
theorem ck_k643 (l : Launch) (D : va_G) (st : Nat → Nat) : ck_Mt gk_G l D st ck_c643 := ab_sound (tr := ck_tr2) (T := ck_T3) (cs := [ck_c638, ck_c639]) (hs := ck_h643) (sp := []) (fuel := 89) l ck_TSgood ck_okCl ck_okDt (M0 := ck_m159) rfl ck_okT3 (ck_cons (ck_k638 l D st) (ck_cons (ck_k639 l D st) ck_nil)) (by decide +kernel)
/-- SL$Naming.rowsWith -/
def ck_c644 : ab_C := (155, 101, [.inr (0, 74), .inl (0, 7)], [((74, 0, 1, 1), .inr (0, 1)), ((74, 1, 1, 1), .inr (0, 53)), ((74, 2, 1, 1), .inr (0, 75)), ((53, 3, 1, 1), .inr (0, 56)), ((2, 0, 1, 12), .inl (0, 11)), ((1, 0, 1, 1), .inl (1, 8)), ((1, 1, 1, 1), .inr (0, 2)), ((1, 6, 1, 1), .inr (0, 7))], [(75, 0, 1, 256), (75, 0, 144, 1)], [(some (.inl ((-2147483648), 2147483647)), [(0, 7)], [], 101)], 2, 53, 0, 0)
def ck_h644 : List ab_Hd := [(22, ([(0, 7, 0, (0, 0, 0)), (0, 8, 0, (0, 0, 0)), ((-1), 1073741824, 0, (0, 0, 0)), (0, 19, 0, (0, 0, 0))], [(4, .inl (1, 1, 0)), (3, .inl (2, 1, 0)), (2, .inl (3, 1, 0)), (0, .inr (0, 74)), (1, .inl (0, 1, 0))], [], ([((74, 0, 1, 1), .inr (0, 1)), ((74, 1, 1, 1), .inr (0, 53)), ((74, 2, 1, 1), .inr (0, 75)), ((53, 3, 1, 1), .inr (0, 56)), ((2, 0, 1, 12), .inl (0, 11)), ((1, 0, 1, 1), .inl (1, 8)), ((1, 1, 1, 1), .inr (0, 2)), ((1, 6, 1, 1), .inr (0, 7))], []), 101, 0, 0), 1, 0)]
set_option maxRecDepth 100000 in
theorem ck_k644 (l : Launch) (D : va_G) (st : Nat → Nat) : ck_Mt gk_G l D st ck_c644 := ab_sound (tr := ck_tr2) (T := ck_T3) (cs := [ck_c635, ck_c637, co_namesKnownAs, ck_c636, ck_c640, ck_c643]) (hs := ck_h644) (sp := []) (fuel := 86) l ck_TSgood ck_okCl ck_okDt (M0 := ck_m155) rfl ck_okT3 (ck_cons (ck_k635 l D st) (ck_cons (ck_k637 l D st) (ck_cons (hk_namesKnownAsT l D st) (ck_cons (ck_k636 l D st) (ck_cons (ck_k640 l D st) (ck_cons (ck_k643 l D st) ck_nil)))))) (by decide +kernel)
/-- SL$Naming.canBeExchanged -/
def ck_c645 : ab_C := (163, 101, [.inr (0, 74), .inl (0, 7)], [((74, 0, 1, 1), .inr (0, 1)), ((2, 0, 1, 12), .inl (0, 11)), ((1, 0, 1, 1), .inl (1, 8)), ((1, 1, 1, 1), .inr (0, 2)), ((1, 6, 1, 1), .inr (0, 7))], [], [(some (.inl (0, 0)), [(0, 7)], [], 101), (some (.inl (1, 1)), [(0, 7)], [], 101)], 1, 21, 0, 0)
def ck_h645 : List ab_Hd := [(2, ([(0, 7, 0, (0, 0, 0)), (0, 8, 0, (0, 0, 0))], [(2, .inl (1, 1, 0)), (0, .inr (0, 74)), (1, .inl (0, 1, 0))], [], ([((74, 0, 1, 1), .inr (0, 1)), ((2, 0, 1, 12), .inl (0, 11)), ((1, 0, 1, 1), .inl (1, 8)), ((1, 1, 1, 1), .inr (0, 2)), ((1, 6, 1, 1), .inr (0, 7))], []), 101, 0, 0), 1, 0)]
set_option maxRecDepth 100000 in
theorem ck_k645 (l : Launch) (D : va_G) (st : Nat → Nat) : ck_Mt gk_G l D st ck_c645 := ab_sound (tr := ck_tr2) (T := ck_T3) (cs := [ck_c636]) (hs := ck_h645) (sp := []) (fuel := 54) l ck_TSgood ck_okCl ck_okDt (M0 := ck_m163) rfl ck_okT3 (ck_cons (ck_k636 l D st) ck_nil) (by decide +kernel)
/-- SL$Naming.wrongInSome -/
def ck_c646 : ab_C := (162, 101, [.inr (0, 74)], [((74, 0, 1, 1), .inr (0, 1)), ((74, 1, 1, 1), .inr (0, 53)), ((74, 2, 1, 1), .inr (0, 75)), ((53, 3, 1, 1), .inr (0, 56)), ((2, 0, 1, 12), .inl (0, 11)), ((1, 0, 1, 1), .inl (1, 8)), ((1, 1, 1, 1), .inr (0, 2)), ((1, 6, 1, 1), .inr (0, 7))], [(75, 0, 1, 256), (75, 0, 144, 1)], [(some (.inl (0, 255)), [], [], 101)], 4, 99, 0, 0)
def ck_h646 : List ab_Hd := [(9, ([(0, 8, 0, (0, 0, 0)), ((-2147483648), 2147483647, 0, (0, 0, 0)), (0, 255, 0, (0, 0, 0))], [(3, .inl (0, 1, 0)), (2, .inl (1, 1, 0)), (1, .inl (2, 1, 0)), (0, .inr (0, 74))], [], ([((74, 0, 1, 1), .inr (0, 1)), ((74, 1, 1, 1), .inr (0, 53)), ((74, 2, 1, 1), .inr (0, 75)), ((53, 3, 1, 1), .inr (0, 56)), ((2, 0, 1, 12), .inl (0, 11)), ((1, 0, 1, 1), .inl (1, 8)), ((1, 1, 1, 1), .inr (0, 2)), ((1, 6, 1, 1), .inr (0, 7))], []), 101, 0, 0), 0, 0)]
set_option maxRecDepth 100000 in
theorem ck_k646 (l : Launch) (D : va_G) (st : Nat → Nat) : ck_Mt gk_G l D st ck_c646 := ab_sound (tr := ck_tr2) (T := ck_T3) (cs := [ck_c642, ck_c644, ck_c645]) (hs := ck_h646) (sp := []) (fuel := 56) l ck_TSgood ck_okCl ck_okDt (M0 := ck_m162) rfl ck_okT3 (ck_cons (ck_k642 l D st) (ck_cons (ck_k644 l D st) (ck_cons (ck_k645 l D st) ck_nil))) (by decide +kernel)
/-- SL$Naming.wrongInAll -/
def ck_c647 : ab_C := (161, 101, [.inr (0, 74)], [((74, 0, 1, 1), .inr (0, 1)), ((74, 1, 1, 1), .inr (0, 53)), ((74, 2, 1, 1), .inr (0, 75)), ((53, 3, 1, 1), .inr (0, 56)), ((2, 0, 1, 12), .inl (0, 11)), ((1, 0, 1, 1), .inl (1, 8)), ((1, 1, 1, 1), .inr (0, 2)), ((1, 6, 1, 1), .inr (0, 7))], [(75, 0, 1, 256), (75, 0, 144, 1)], [(some (.inl (0, 0)), [], [], 101), (some (.inl (0, 255)), [], [], 101)], 4, 99, 0, 0)
def ck_h647 : List ab_Hd := [(17, ([(0, 8, 0, (0, 0, 0))], [(3, .inl (0, 1, 0)), (2, .inl (0, 0, 0)), (1, .inl (0, 0, 0)), (0, .inr (0, 74))], [], ([((74, 0, 1, 1), .inr (0, 1)), ((74, 1, 1, 1), .inr (0, 53)), ((74, 2, 1, 1), .inr (0, 75)), ((53, 3, 1, 1), .inr (0, 56)), ((2, 0, 1, 12), .inl (0, 11)), ((1, 0, 1, 1), .inl (1, 8)), ((1, 1, 1, 1), .inr (0, 2)), ((1, 6, 1, 1), .inr (0, 7))], []), 101, 0, 0), 0, 0), (17, ([(0, 8, 0, (0, 0, 0)), (0, 255, 0, (0, 0, 0))], [(3, .inl (0, 1, 0)), (2, .inl (0, 0, 1)), (1, .inl (1, 1, 0)), (0, .inr (0, 74))], [], ([((74, 0, 1, 1), .inr (0, 1)), ((74, 1, 1, 1), .inr (0, 53)), ((74, 2, 1, 1), .inr (0, 75)), ((53, 3, 1, 1), .inr (0, 56)), ((2, 0, 1, 12), .inl (0, 11)), ((1, 0, 1, 1), .inl (1, 8)), ((1, 1, 1, 1), .inr (0, 2)), ((1, 6, 1, 1), .inr (0, 7))], []), 101, 0, 0), 0, 0)]
set_option maxRecDepth 100000 in
theorem ck_k647 (l : Launch) (D : va_G) (st : Nat → Nat) : ck_Mt gk_G l D st ck_c647 := ab_sound (tr := ck_tr2) (T := ck_T3) (cs := [ck_c642, ck_c644]) (hs := ck_h647) (sp := []) (fuel := 54) l ck_TSgood ck_okCl ck_okDt (M0 := ck_m161) rfl ck_okT3 (ck_cons (ck_k642 l D st) (ck_cons (ck_k644 l D st) ck_nil)) (by decide +kernel)
/-- SL.called -/
def ck_c648 : ab_C := (153, 101, [.inr (0, 0), .inl ((-2147483648), 2147483647)], [((74, 0, 1, 1), .inr (0, 1)), ((74, 1, 1, 1), .inr (0, 53)), ((74, 2, 1, 1), .inr (0, 75)), ((53, 0, 1, 1), .inr (0, 1)), ((53, 1, 1, 1), .inr (0, 54)), ((53, 2, 1, 1), .inr (0, 55)), ((53, 3, 1, 1), .inr (0, 56)), ((53, 4, 1, 1), .inr (0, 57)), ((53, 5, 1, 1), .inr (0, 58)), ((14, 0, 9, 120), .inl (0, 11)), ((14, 1, 9, 120), .inl (0, 11)), ((2, 0, 1, 12), .inl (0, 11)), ((1, 0, 1, 1), .inl (0, 12)), ((1, 1, 1, 1), .inr (0, 2)), ((1, 6, 1, 1), .inr (0, 7)), ((1, 14, 1, 1), .inl (0, 120)), ((1, 15, 1, 1), .inr (0, 14)), ((0, 0, 1, 1), .inr (0, 1)), ((0, 6, 1, 1), .inr (0, 53)), ((0, 11, 1, 1), .inr (0, 74))], [(54, 0, 1, 144), (55, 0, 1, 12), (56, 0, 1, 12), (57, 0, 1, 8), (57, 0, 1, 12), (58, 0, 1, 12), (75, 0, 1, 256), (75, 0, 144, 1)], [(some (.inl ((-1), (-1))), [((-2147483648), (-1))], [], 101), (some (.inl ((-1), (-1))), [(3, 2147483647)], [], 101), (some (.inl ((-1), (-1))), [(0, 2)], [((1, 0, 1, 1), .inl (0, 0))], 101), (some (.inl ((-1), (-1))), [(0, 2)], [((1, 0, 1, 1), .inl (9, 12))], 101), (some (.inl (0, 255)), [(2, 2)], [((1, 0, 1, 1), .inl (1, 8))], 101), (some (.inl (0, 0)), [(1, 1)], [((1, 0, 1, 1), .inl (1, 8))], 101), (some (.inl (0, 255)), [(1, 1)], [((1, 0, 1, 1), .inl (1, 8))], 101), (some (.inl ((-2147483648), 2147483647)), [(0, 0)], [((1, 0, 1, 1), .inl (1, 8))], 101)], 5, 122, 0, 0)
def ck_h648 : List ab_Hd := []
set_option maxRecDepth 100000 in
theorem ck_k648 (l : Launch) (D : va_G) (st : Nat → Nat) : ck_Mt gk_G l D st ck_c648 := ab_sound (tr := ck_tr2) (T := ck_T0) (cs := [ck_c175, ck_c632, ck_c634, ck_c646, ck_c647, ck_c642]) (hs := ck_h648) (sp := []) (fuel := 49) l ck_TSgood ck_okCl ck_okDt (M0 := ck_m153) rfl ck_okT0 (ck_cons (ck_k175 l D st) (ck_cons (ck_k632 l D st) (ck_cons (ck_k634 l D st) (ck_cons (ck_k646 l D st) (ck_cons (ck_k647 l D st) (ck_cons (ck_k642 l D st) ck_nil)))))) (by decide +kernel)
/-- SLModel.stoneOf -/
def ck_c649 : ab_C := (216, 101, [.inr (0, 77), .inl (0, 7), .inl (0, 0)], [((78, 0, 16, 12), .inl (0, 11)), ((77, 1, 1, 1), .inr (0, 78))], [], [(some (.inl (0, 11)), [(0, 7), (0, 0)], [], 101)], 0, 0, 0, 0)
def ck_h649 : List ab_Hd := []
set_option maxRecDepth 100000 in
theorem ck_k649 (l : Launch) (D : va_G) (st : Nat → Nat) : ck_Mt gk_G l D st ck_c649 := ab_sound (tr := ck_tr2) (T := ck_T13) (cs := []) (hs := ck_h649) (sp := []) (fuel := 35) l ck_TSgood ck_okCl ck_okDt (M0 := ck_m216) rfl ck_okT13 ck_nil (by decide +kernel)
/-- SLModel.knownOf -/
def ck_c650 : ab_C := (286, 101, [.inr (0, 77), .inl (0, 7)], [((78, 0, 16, 12), .inl (0, 11)), ((77, 1, 1, 1), .inr (0, 78))], [], [(some (.inl ((-2147483648), 2147483647)), [(0, 7)], [], 101)], 1, 22, 0, 0)
def ck_h650 : List ab_Hd := []
set_option maxRecDepth 100000 in
theorem ck_k650 (l : Launch) (D : va_G) (st : Nat → Nat) : ck_Mt gk_G l D st ck_c650 := ab_sound (tr := ck_tr2) (T := ck_T13) (cs := [ck_c649]) (hs := ck_h650) (sp := []) (fuel := 34) l ck_TSgood ck_okCl ck_okDt (M0 := ck_m286) rfl ck_okT13 (ck_cons (ck_k649 l D st) ck_nil) (by decide +kernel)
/-- SLModel.isRow -/
def ck_c651 : ab_C := (285, 101, [.inr (0, 77), .inl (1, 8)], [((100, 0, 1, 8), .inl (0, 7)), ((78, 0, 16, 12), .inl (0, 11)), ((77, 1, 1, 1), .inr (0, 78)), ((77, 24, 1, 1), .inr (0, 88)), ((77, 40, 1, 1), .inr (0, 100))], [], [(some (.inl (1, 1)), [(1, 8)], [], 101), (some (.inl (0, 0)), [(1, 8)], [], 101)], 2, 43, 0, 0)
def ck_h651 : List ab_Hd := [(4, ([(1, 8, 0, (0, 0, 0)), (0, 8, 0, (0, 0, 0)), (0, 255, 0, (0, 0, 0))], [(3, .inl (1, 1, 0)), (2, .inl (2, 1, 0)), (0, .inr (0, 77)), (1, .inl (0, 1, 0))], [], ([((100, 0, 1, 8), .inl (0, 7)), ((78, 0, 16, 12), .inl (0, 11)), ((77, 1, 1, 1), .inr (0, 78)), ((77, 24, 1, 1), .inr (0, 88)), ((77, 40, 1, 1), .inr (0, 100))], []), 101, 0, 0), 1, 0), (39, ([(1, 8, 0, (0, 0, 0)), (1, 8, 0, (0, 0, 0)), (1, 255, 0, (0, 0, 0)), (0, 8, 0, (0, 0, 0))], [(3, .inl (3, 1, 0)), (2, .inl (2, 1, 0)), (0, .inr (0, 77)), (1, .inl (0, 1, 0))], [], ([((100, 0, 1, 8), .inl (0, 7)), ((78, 0, 16, 12), .inl (0, 11)), ((77, 1, 1, 1), .inr (0, 78)), ((77, 24, 1, 1), .inr (0, 88)), ((77, 40, 1, 1), .inr (0, 100))], []), 101, 0, 0), 3, 0), (47, ([(1, 8, 0, (0, 0, 0)), (1, 8, 0, (0, 0, 0)), (1, 255, 0, (0, 0, 0)), (0, 7, 0, (0, 0, 0)), (0, 8, 0, (0, 0, 0))], [(4, .inl (4, 1, 0)), (3, .inl (3, 1, 0)), (2, .inl (2, 1, 0)), (0, .inr (0, 77)), (1, .inl (0, 1, 0))], [], ([((100, 0, 1, 8), .inl (0, 7)), ((78, 0, 16, 12), .inl (0, 11)), ((77, 1, 1, 1), .inr (0, 78)), ((77, 24, 1, 1), .inr (0, 88)), ((77, 40, 1, 1), .inr (0, 100))], []), 101, 0, 0), 4, 0)]
set_option maxRecDepth 100000 in
theorem ck_k651 (l : Launch) (D : va_G) (st : Nat → Nat) : ck_Mt gk_G l D st ck_c651 := ab_sound (tr := ck_tr2) (T := ck_T13) (cs := [ck_c650]) (hs := ck_h651) (sp := []) (fuel := 73) l ck_TSgood ck_okCl ck_okDt (M0 := ck_m285) rfl ck_okT13 (ck_cons (ck_k650 l D st) ck_nil) (by decide +kernel)
/-- SL$Bench.knownNumber -/
def ck_c652 : ab_C := (157, 101, [.inr (0, 1), .inl (0, 11)], [((2, 0, 1, 12), .inl (0, 11)), ((1, 1, 1, 1), .inr (0, 2)), ((1, 6, 1, 1), .inr (0, 7))], [], [(some (.inl ((-2147483648), 2147483647)), [(0, 11)], [], 101)], 0, 0, 0, 0)
def ck_h652 : List ab_Hd := []
set_option maxRecDepth 100000 in
theorem ck_k652 (l : Launch) (D : va_G) (st : Nat → Nat) : ck_Mt gk_G l D st ck_c652 := ab_sound (tr := ck_tr2) (T := ck_T1) (cs := []) (hs := ck_h652) (sp := []) (fuel := 32) l ck_TSgood ck_okCl ck_okDt (M0 := ck_m157) rfl ck_okT1 ck_nil (by decide +kernel)
/-- SL.lose -/
def ck_c653 : ab_C := (164, 101, [.inr (0, 0)], [((14, 0, 9, 120), .inl (0, 11)), ((14, 1, 9, 120), .inl (0, 11)), ((2, 0, 1, 12), .inl (0, 11)), ((1, 1, 1, 1), .inr (0, 2)), ((1, 6, 1, 1), .inr (0, 7)), ((1, 14, 1, 1), .inl (0, 120)), ((1, 15, 1, 1), .inr (0, 14)), ((0, 0, 1, 1), .inr (0, 1))], [], [(some (.inl ((-2147483648), 2147483647)), [], [], 101)], 3, 65, 0, 0)
def ck_h653 : List ab_Hd := [(4, ([(0, 120, 0, (0, 0, 0)), ((-2147483648), 2147483647, 0, (0, 0, 0))], [(2, .inl (0, 1, 0)), (1, .inl (1, 1, 0)), (0, .inr (0, 0))], [], ([((14, 0, 9, 120), .inl (0, 11)), ((14, 1, 9, 120), .inl (0, 11)), ((2, 0, 1, 12), .inl (0, 11)), ((1, 1, 1, 1), .inr (0, 2)), ((1, 6, 1, 1), .inr (0, 7)), ((1, 14, 1, 1), .inl (0, 120)), ((1, 15, 1, 1), .inr (0, 14)), ((0, 0, 1, 1), .inr (0, 1))], []), 101, 0, 0), 0, 0)]
set_option maxRecDepth 100000 in
theorem ck_k653 (l : Launch) (D : va_G) (st : Nat → Nat) : ck_Mt gk_G l D st ck_c653 := ab_sound (tr := ck_tr2) (T := ck_T0) (cs := [ck_c317, ck_c315, ck_c652, ck_c316]) (hs := ck_h653) (sp := []) (fuel := 59) l ck_TSgood ck_okCl ck_okDt (M0 := ck_m164) rfl ck_okT0 (ck_cons (ck_k317 l D st) (ck_cons (ck_k315 l D st) (ck_cons (ck_k652 l D st) (ck_cons (ck_k316 l D st) ck_nil)))) (by decide +kernel)
/-- SLModel.stoneOf -/
def ck_c654 : ab_C := (216, 101, [.inr (0, 77), .inl (0, 11), .inl (0, 0)], [((78, 0, 16, 12), .inl (0, 11)), ((77, 1, 1, 1), .inr (0, 78))], [], [(some (.inl (0, 11)), [(0, 11), (0, 0)], [], 101)], 0, 0, 0, 0)
def ck_h654 : List ab_Hd := []
set_option maxRecDepth 100000 in
theorem ck_k654 (l : Launch) (D : va_G) (st : Nat → Nat) : ck_Mt gk_G l D st ck_c654 := ab_sound (tr := ck_tr2) (T := ck_T13) (cs := []) (hs := ck_h654) (sp := []) (fuel := 35) l ck_TSgood ck_okCl ck_okDt (M0 := ck_m216) rfl ck_okT13 ck_nil (by decide +kernel)
/-- SLModel.knownOf -/
def ck_c655 : ab_C := (286, 101, [.inr (0, 77), .inl (0, 11)], [((78, 0, 16, 12), .inl (0, 11)), ((77, 1, 1, 1), .inr (0, 78))], [], [(some (.inl ((-2147483648), 2147483647)), [(0, 11)], [], 101)], 1, 22, 0, 0)
def ck_h655 : List ab_Hd := []
set_option maxRecDepth 100000 in
theorem ck_k655 (l : Launch) (D : va_G) (st : Nat → Nat) : ck_Mt gk_G l D st ck_c655 := ab_sound (tr := ck_tr2) (T := ck_T13) (cs := [ck_c654]) (hs := ck_h655) (sp := []) (fuel := 34) l ck_TSgood ck_okCl ck_okDt (M0 := ck_m286) rfl ck_okT13 (ck_cons (ck_k654 l D st) ck_nil) (by decide +kernel)
/-- SLModel.lose -/
def ck_c656 : ab_C := (288, 101, [.inr (0, 77)], [((78, 0, 16, 12), .inl (0, 11)), ((78, 212, 9, 120), .inl (0, 11)), ((78, 213, 9, 120), .inl (0, 11)), ((78, 1293, 1, 1), .inl (0, 120)), ((77, 1, 1, 1), .inr (0, 78))], [], [(some (.inl ((-2147483648), 2147483647)), [], [], 101)], 3, 64, 0, 0)
def ck_h656 : List ab_Hd := [(4, ([(0, 120, 0, (0, 0, 0)), ((-2147483648), 2147483647, 0, (0, 0, 0))], [(2, .inl (0, 1, 0)), (1, .inl (1, 1, 0)), (0, .inr (0, 77))], [], ([((78, 0, 16, 12), .inl (0, 11)), ((78, 212, 9, 120), .inl (0, 11)), ((78, 213, 9, 120), .inl (0, 11)), ((78, 1293, 1, 1), .inl (0, 120)), ((77, 1, 1, 1), .inr (0, 78))], []), 101, 0, 0), 0, 0)]
set_option maxRecDepth 100000 in
theorem ck_k656 (l : Launch) (D : va_G) (st : Nat → Nat) : ck_Mt gk_G l D st ck_c656 := ab_sound (tr := ck_tr2) (T := ck_T13) (cs := [ck_c323, ck_c324, ck_c655, ck_c325]) (hs := ck_h656) (sp := []) (fuel := 59) l ck_TSgood ck_okCl ck_okDt (M0 := ck_m288) rfl ck_okT13 (ck_cons (ck_k323 l D st) (ck_cons (ck_k324 l D st) (ck_cons (ck_k655 l D st) (ck_cons (ck_k325 l D st) ck_nil)))) (by decide +kernel)
/-- SL.within -/
def ck_c657 : ab_C := (14, 101, [.inl ((-2147483648), (-1)), .inl (0, 0), .inl (1, 1)], [], [], [(some (.inl (0, 0)), [((-2147483648), (-1)), (0, 0), (1, 1)], [], 101)], 0, 0, 0, 0)
def ck_h657 : List ab_Hd := []
set_option maxRecDepth 100000 in
theorem ck_k657 (l : Launch) (D : va_G) (st : Nat → Nat) : ck_Mt gk_G l D st ck_c657 := ab_sound (tr := ck_tr2) (T := ck_T0) (cs := []) (hs := ck_h657) (sp := []) (fuel := 29) l ck_TSgood ck_okCl ck_okDt (M0 := ck_m14) rfl ck_okT0 ck_nil (by decide +kernel)
/-- SL.within -/
def ck_c658 : ab_C := (14, 101, [.inl (0, 0), .inl (0, 0), .inl (1, 1)], [], [], [(some (.inl (1, 1)), [(0, 0), (0, 0), (1, 1)], [], 101)], 0, 0, 0, 0)
def ck_h658 : List ab_Hd := []
set_option maxRecDepth 100000 in
theorem ck_k658 (l : Launch) (D : va_G) (st : Nat → Nat) : ck_Mt gk_G l D st ck_c658 := ab_sound (tr := ck_tr2) (T := ck_T0) (cs := []) (hs := ck_h658) (sp := []) (fuel := 33) l ck_TSgood ck_okCl ck_okDt (M0 := ck_m14) rfl ck_okT0 ck_nil (by decide +kernel)
/-- SL$Bench.copyRow -/
def ck_c659 : ab_C := (167, 101, [.inr (0, 2), .inr (0, 17)], [((17, 0, 1, 12), .inl (0, 11)), ((2, 0, 1, 12), .inl (0, 11))], [(17, 0, 1, 12)], [(none, [], [((17, 0, 1, 12), .inl (0, 11))], 101)], 1, 41, 0, 0)
def ck_h659 : List ab_Hd := []
set_option maxRecDepth 100000 in
theorem ck_k659 (l : Launch) (D : va_G) (st : Nat → Nat) : ck_Mt gk_G l D st ck_c659 := ab_sound (tr := ck_tr2) (T := ck_T1) (cs := []) (hs := ck_h659) (sp := []) (fuel := 35) l ck_TSgood ck_okCl ck_okDt (M0 := ck_m167) rfl ck_okT1 ck_nil (by decide +kernel)
/-- SL$Bench.copyRow -/
def ck_c660 : ab_C := (167, 101, [.inr (0, 3), .inr (0, 18)], [], [(18, 0, 1, 12)], [(none, [], [], 101)], 1, 41, 0, 0)
def ck_h660 : List ab_Hd := []
set_option maxRecDepth 100000 in
theorem ck_k660 (l : Launch) (D : va_G) (st : Nat → Nat) : ck_Mt gk_G l D st ck_c660 := ab_sound (tr := ck_tr2) (T := ck_T1) (cs := []) (hs := ck_h660) (sp := []) (fuel := 35) l ck_TSgood ck_okCl ck_okDt (M0 := ck_m167) rfl ck_okT1 ck_nil (by decide +kernel)
/-- SL$Bench.copyRow -/
def ck_c661 : ab_C := (167, 101, [.inr (0, 4), .inr (0, 19)], [], [(19, 0, 1, 12)], [(none, [], [], 101)], 1, 41, 0, 0)
def ck_h661 : List ab_Hd := []
set_option maxRecDepth 100000 in
theorem ck_k661 (l : Launch) (D : va_G) (st : Nat → Nat) : ck_Mt gk_G l D st ck_c661 := ab_sound (tr := ck_tr2) (T := ck_T1) (cs := []) (hs := ck_h661) (sp := []) (fuel := 35) l ck_TSgood ck_okCl ck_okDt (M0 := ck_m167) rfl ck_okT1 ck_nil (by decide +kernel)
/-- SL$Bench.copyRow -/
def ck_c662 : ab_C := (167, 101, [.inr (0, 5), .inr (0, 20)], [], [(20, 0, 1, 12)], [(none, [], [], 101)], 1, 41, 0, 0)
def ck_h662 : List ab_Hd := []
set_option maxRecDepth 100000 in
theorem ck_k662 (l : Launch) (D : va_G) (st : Nat → Nat) : ck_Mt gk_G l D st ck_c662 := ab_sound (tr := ck_tr2) (T := ck_T1) (cs := []) (hs := ck_h662) (sp := []) (fuel := 35) l ck_TSgood ck_okCl ck_okDt (M0 := ck_m167) rfl ck_okT1 ck_nil (by decide +kernel)
/-- SL$Bench.copyRow -/
def ck_c663 : ab_C := (167, 101, [.inr (0, 6), .inr (0, 21)], [], [(21, 0, 1, 144)], [(none, [], [], 101)], 1, 41, 0, 0)
def ck_h663 : List ab_Hd := []
set_option maxRecDepth 100000 in
theorem ck_k663 (l : Launch) (D : va_G) (st : Nat → Nat) : ck_Mt gk_G l D st ck_c663 := ab_sound (tr := ck_tr2) (T := ck_T1) (cs := []) (hs := ck_h663) (sp := []) (fuel := 35) l ck_TSgood ck_okCl ck_okDt (M0 := ck_m167) rfl ck_okT1 ck_nil (by decide +kernel)
/-- SL$Bench.copyRow -/
def ck_c664 : ab_C := (167, 101, [.inr (0, 7), .inr (0, 22)], [], [(22, 0, 1, 12)], [(none, [], [], 101)], 1, 41, 0, 0)
def ck_h664 : List ab_Hd := []
set_option maxRecDepth 100000 in
theorem ck_k664 (l : Launch) (D : va_G) (st : Nat → Nat) : ck_Mt gk_G l D st ck_c664 := ab_sound (tr := ck_tr2) (T := ck_T1) (cs := []) (hs := ck_h664) (sp := []) (fuel := 35) l ck_TSgood ck_okCl ck_okDt (M0 := ck_m167) rfl ck_okT1 ck_nil (by decide +kernel)
/-- SL$Bench.copyRow -/
def ck_c665 : ab_C := (167, 101, [.inr (0, 8), .inr (0, 23)], [], [(23, 0, 1, 4)], [(none, [], [], 101)], 1, 41, 0, 0)
def ck_h665 : List ab_Hd := []
set_option maxRecDepth 100000 in
theorem ck_k665 (l : Launch) (D : va_G) (st : Nat → Nat) : ck_Mt gk_G l D st ck_c665 := ab_sound (tr := ck_tr2) (T := ck_T1) (cs := []) (hs := ck_h665) (sp := []) (fuel := 35) l ck_TSgood ck_okCl ck_okDt (M0 := ck_m167) rfl ck_okT1 ck_nil (by decide +kernel)
/-- SL$Bench.copyRow -/
def ck_c666 : ab_C := (167, 101, [.inr (0, 9), .inr (0, 24)], [], [(24, 0, 1, 4)], [(none, [], [], 101)], 1, 41, 0, 0)
def ck_h666 : List ab_Hd := []
set_option maxRecDepth 100000 in
theorem ck_k666 (l : Launch) (D : va_G) (st : Nat → Nat) : ck_Mt gk_G l D st ck_c666 := ab_sound (tr := ck_tr2) (T := ck_T1) (cs := []) (hs := ck_h666) (sp := []) (fuel := 35) l ck_TSgood ck_okCl ck_okDt (M0 := ck_m167) rfl ck_okT1 ck_nil (by decide +kernel)
/-- SL$Bench.copyRow -/
def ck_c667 : ab_C := (167, 101, [.inr (0, 14), .inr (0, 29)], [((29, 0, 9, 120), .inl (0, 11)), ((29, 1, 9, 120), .inl (0, 11)), ((14, 0, 9, 120), .inl (0, 11)), ((14, 1, 9, 120), .inl (0, 11))], [(29, 0, 1, 1080)], [(none, [], [((29, 0, 9, 120), .inl (0, 11)), ((29, 1, 9, 120), .inl (0, 11))], 101)], 1, 41, 0, 0)
def ck_h667 : List ab_Hd := []
set_option maxRecDepth 100000 in
theorem ck_k667 (l : Launch) (D : va_G) (st : Nat → Nat) : ck_Mt gk_G l D st ck_c667 := ab_sound (tr := ck_tr2) (T := ck_T1) (cs := []) (hs := ck_h667) (sp := []) (fuel := 35) l ck_TSgood ck_okCl ck_okDt (M0 := ck_m167) rfl ck_okT1 ck_nil (by decide +kernel)
/-- SL$Bench.copyFrom -/
def ck_c668 : ab_C := (166, 101, [.inr (0, 16), .inr (0, 1)], [((29, 0, 9, 120), .inl (0, 11)), ((29, 1, 9, 120), .inl (0, 11)), ((25, 0, 1, 10), .inr (3, 9)), ((17, 0, 1, 12), .inl (0, 11)), ((16, 0, 1, 1), .inl (0, 12)), ((16, 1, 1, 1), .inr (0, 17)), ((16, 2, 1, 1), .inr (0, 18)), ((16, 3, 1, 1), .inr (0, 19)), ((16, 4, 1, 1), .inr (0, 20)), ((16, 5, 1, 1), .inr (0, 21)), ((16, 6, 1, 1), .inr (0, 22)), ((16, 7, 1, 1), .inr (0, 23)), ((16, 8, 1, 1), .inr (0, 24)), ((16, 10, 1, 1), .inl ((-1), 9)), ((16, 11, 1, 1), .inl (0, 10)), ((16, 12, 1, 1), .inr (0, 25)), ((16, 14, 1, 1), .inl (0, 120)), ((16, 15, 1, 1), .inr (0, 29)), ((14, 0, 9, 120), .inl (0, 11)), ((14, 1, 9, 120), .inl (0, 11)), ((10, 0, 1, 10), .inr (3, 9)), ((2, 0, 1, 12), .inl (0, 11)), ((1, 0, 1, 1), .inl (0, 12)), ((1, 1, 1, 1), .inr (0, 2)), ((1, 2, 1, 1), .inr (0, 3)), ((1, 3, 1, 1), .inr (0, 4)), ((1, 4, 1, 1), .inr (0, 5)), ((1, 5, 1, 1), .inr (0, 6)), ((1, 6, 1, 1), .inr (0, 7)), ((1, 7, 1, 1), .inr (0, 8)), ((1, 8, 1, 1), .inr (0, 9)), ((1, 10, 1, 1), .inl ((-1), 9)), ((1, 11, 1, 1), .inl (0, 10)), ((1, 12, 1, 1), .inr (0, 10)), ((1, 14, 1, 1), .inl (0, 120)), ((1, 15, 1, 1), .inr (0, 14))], [(16, 0, 1, 1), (16, 9, 1, 1), (16, 10, 1, 1), (16, 11, 1, 1), (16, 14, 1, 1), (16, 16, 1, 1), (16, 17, 1, 1), (16, 18, 1, 1), (17, 0, 1, 12), (18, 0, 1, 12), (19, 0, 1, 12), (20, 0, 1, 12), (21, 0, 1, 144), (22, 0, 1, 12), (23, 0, 1, 4), (24, 0, 1, 4), (25, 0, 1, 10), (29, 0, 1, 1080)], [(none, [], [((29, 0, 9, 120), .inl (0, 11)), ((29, 1, 9, 120), .inl (0, 11)), ((17, 0, 1, 12), .inl (0, 11)), ((25, 0, 1, 10), .inr (3, 9)), ((16, 0, 1, 1), .inl (0, 12)), ((16, 10, 1, 1), .inl ((-1), 9)), ((16, 11, 1, 1), .inl (0, 10)), ((16, 14, 1, 1), .inl (0, 120))], 101)], 2, 62, 0, 0)
def ck_h668 : List ab_Hd := [(122, ([(0, 10, 0, (0, 0, 0))], [(2, .inl (0, 1, 0)), (0, .inr (0, 16)), (1, .inr (0, 1))], [], ([((17, 0, 1, 12), .inl (0, 11)), ((29, 0, 9, 120), .inl (0, 11)), ((29, 1, 9, 120), .inl (0, 11)), ((25, 0, 1, 10), .inr (3, 9)), ((16, 0, 1, 1), .inl (0, 12)), ((16, 1, 1, 1), .inr (0, 17)), ((16, 2, 1, 1), .inr (0, 18)), ((16, 3, 1, 1), .inr (0, 19)), ((16, 4, 1, 1), .inr (0, 20)), ((16, 5, 1, 1), .inr (0, 21)), ((16, 6, 1, 1), .inr (0, 22)), ((16, 7, 1, 1), .inr (0, 23)), ((16, 8, 1, 1), .inr (0, 24)), ((16, 10, 1, 1), .inl ((-1), 9)), ((16, 11, 1, 1), .inl (0, 10)), ((16, 12, 1, 1), .inr (0, 25)), ((16, 14, 1, 1), .inl (0, 120)), ((16, 15, 1, 1), .inr (0, 29)), ((14, 0, 9, 120), .inl (0, 11)), ((14, 1, 9, 120), .inl (0, 11)), ((10, 0, 1, 10), .inr (3, 9)), ((2, 0, 1, 12), .inl (0, 11)), ((1, 0, 1, 1), .inl (0, 12)), ((1, 1, 1, 1), .inr (0, 2)), ((1, 2, 1, 1), .inr (0, 3)), ((1, 3, 1, 1), .inr (0, 4)), ((1, 4, 1, 1), .inr (0, 5)), ((1, 5, 1, 1), .inr (0, 6)), ((1, 6, 1, 1), .inr (0, 7)), ((1, 7, 1, 1), .inr (0, 8)), ((1, 8, 1, 1), .inr (0, 9)), ((1, 10, 1, 1), .inl ((-1), 9)), ((1, 11, 1, 1), .inl (0, 10)), ((1, 12, 1, 1), .inr (0, 10)), ((1, 14, 1, 1), .inl (0, 120)), ((1, 15, 1, 1), .inr (0, 14))], []), 101, 0, 0), 0, 0)]
set_option maxRecDepth 100000 in
theorem ck_k668 (l : Launch) (D : va_G) (st : Nat → Nat) : ck_Mt gk_G l D st ck_c668 := ab_sound (tr := ck_tr2) (T := ck_T1) (cs := [ck_c659, ck_c660, ck_c661, ck_c662, ck_c663, ck_c664, ck_c665, ck_c666, ck_c667]) (hs := ck_h668) (sp := []) (fuel := 107) l ck_TSgood ck_okCl ck_okDt (M0 := ck_m166) rfl ck_okT1 (ck_cons (ck_k659 l D st) (ck_cons (ck_k660 l D st) (ck_cons (ck_k661 l D st) (ck_cons (ck_k662 l D st) (ck_cons (ck_k663 l D st) (ck_cons (ck_k664 l D st) (ck_cons (ck_k665 l D st) (ck_cons (ck_k666 l D st) (ck_cons (ck_k667 l D st) ck_nil))))))))) (by decide +kernel)
/-- SL.within -/
def ck_c669 : ab_C := (14, 101, [.inl (1, 1), .inl (0, 0), .inl (1, 1)], [], [], [(some (.inl (1, 1)), [(1, 1), (0, 0), (1, 1)], [], 101)], 0, 0, 0, 0)
def ck_h669 : List ab_Hd := []
set_option maxRecDepth 100000 in
theorem ck_k669 (l : Launch) (D : va_G) (st : Nat → Nat) : ck_Mt gk_G l D st ck_c669 := ab_sound (tr := ck_tr2) (T := ck_T0) (cs := []) (hs := ck_h669) (sp := []) (fuel := 33) l ck_TSgood ck_okCl ck_okDt (M0 := ck_m14) rfl ck_okT0 ck_nil (by decide +kernel)
/-- SL$Bench.copyRow -/
def ck_c670 : ab_C := (167, 101, [.inr (0, 2), .inr (0, 31)], [((31, 0, 1, 12), .inl (0, 11)), ((2, 0, 1, 12), .inl (0, 11))], [(31, 0, 1, 12)], [(none, [], [((31, 0, 1, 12), .inl (0, 11))], 101)], 1, 41, 0, 0)
def ck_h670 : List ab_Hd := []
set_option maxRecDepth 100000 in
theorem ck_k670 (l : Launch) (D : va_G) (st : Nat → Nat) : ck_Mt gk_G l D st ck_c670 := ab_sound (tr := ck_tr2) (T := ck_T1) (cs := []) (hs := ck_h670) (sp := []) (fuel := 35) l ck_TSgood ck_okCl ck_okDt (M0 := ck_m167) rfl ck_okT1 ck_nil (by decide +kernel)
/-- SL$Bench.copyRow -/
def ck_c671 : ab_C := (167, 101, [.inr (0, 3), .inr (0, 32)], [], [(32, 0, 1, 12)], [(none, [], [], 101)], 1, 41, 0, 0)
def ck_h671 : List ab_Hd := []
set_option maxRecDepth 100000 in
theorem ck_k671 (l : Launch) (D : va_G) (st : Nat → Nat) : ck_Mt gk_G l D st ck_c671 := ab_sound (tr := ck_tr2) (T := ck_T1) (cs := []) (hs := ck_h671) (sp := []) (fuel := 35) l ck_TSgood ck_okCl ck_okDt (M0 := ck_m167) rfl ck_okT1 ck_nil (by decide +kernel)
/-- SL$Bench.copyRow -/
def ck_c672 : ab_C := (167, 101, [.inr (0, 4), .inr (0, 33)], [], [(33, 0, 1, 12)], [(none, [], [], 101)], 1, 41, 0, 0)
def ck_h672 : List ab_Hd := []
set_option maxRecDepth 100000 in
theorem ck_k672 (l : Launch) (D : va_G) (st : Nat → Nat) : ck_Mt gk_G l D st ck_c672 := ab_sound (tr := ck_tr2) (T := ck_T1) (cs := []) (hs := ck_h672) (sp := []) (fuel := 35) l ck_TSgood ck_okCl ck_okDt (M0 := ck_m167) rfl ck_okT1 ck_nil (by decide +kernel)
/-- SL$Bench.copyRow -/
def ck_c673 : ab_C := (167, 101, [.inr (0, 5), .inr (0, 34)], [], [(34, 0, 1, 12)], [(none, [], [], 101)], 1, 41, 0, 0)
def ck_h673 : List ab_Hd := []
set_option maxRecDepth 100000 in
theorem ck_k673 (l : Launch) (D : va_G) (st : Nat → Nat) : ck_Mt gk_G l D st ck_c673 := ab_sound (tr := ck_tr2) (T := ck_T1) (cs := []) (hs := ck_h673) (sp := []) (fuel := 35) l ck_TSgood ck_okCl ck_okDt (M0 := ck_m167) rfl ck_okT1 ck_nil (by decide +kernel)
/-- SL$Bench.copyRow -/
def ck_c674 : ab_C := (167, 101, [.inr (0, 6), .inr (0, 35)], [], [(35, 0, 1, 144)], [(none, [], [], 101)], 1, 41, 0, 0)
def ck_h674 : List ab_Hd := []
set_option maxRecDepth 100000 in
theorem ck_k674 (l : Launch) (D : va_G) (st : Nat → Nat) : ck_Mt gk_G l D st ck_c674 := ab_sound (tr := ck_tr2) (T := ck_T1) (cs := []) (hs := ck_h674) (sp := []) (fuel := 35) l ck_TSgood ck_okCl ck_okDt (M0 := ck_m167) rfl ck_okT1 ck_nil (by decide +kernel)
/-- SL$Bench.copyRow -/
def ck_c675 : ab_C := (167, 101, [.inr (0, 7), .inr (0, 36)], [], [(36, 0, 1, 12)], [(none, [], [], 101)], 1, 41, 0, 0)
def ck_h675 : List ab_Hd := []
set_option maxRecDepth 100000 in
theorem ck_k675 (l : Launch) (D : va_G) (st : Nat → Nat) : ck_Mt gk_G l D st ck_c675 := ab_sound (tr := ck_tr2) (T := ck_T1) (cs := []) (hs := ck_h675) (sp := []) (fuel := 35) l ck_TSgood ck_okCl ck_okDt (M0 := ck_m167) rfl ck_okT1 ck_nil (by decide +kernel)
/-- SL$Bench.copyRow -/
def ck_c676 : ab_C := (167, 101, [.inr (0, 8), .inr (0, 37)], [], [(37, 0, 1, 4)], [(none, [], [], 101)], 1, 41, 0, 0)
def ck_h676 : List ab_Hd := []
set_option maxRecDepth 100000 in
theorem ck_k676 (l : Launch) (D : va_G) (st : Nat → Nat) : ck_Mt gk_G l D st ck_c676 := ab_sound (tr := ck_tr2) (T := ck_T1) (cs := []) (hs := ck_h676) (sp := []) (fuel := 35) l ck_TSgood ck_okCl ck_okDt (M0 := ck_m167) rfl ck_okT1 ck_nil (by decide +kernel)
/-- SL$Bench.copyRow -/
def ck_c677 : ab_C := (167, 101, [.inr (0, 9), .inr (0, 38)], [], [(38, 0, 1, 4)], [(none, [], [], 101)], 1, 41, 0, 0)
def ck_h677 : List ab_Hd := []
set_option maxRecDepth 100000 in
theorem ck_k677 (l : Launch) (D : va_G) (st : Nat → Nat) : ck_Mt gk_G l D st ck_c677 := ab_sound (tr := ck_tr2) (T := ck_T1) (cs := []) (hs := ck_h677) (sp := []) (fuel := 35) l ck_TSgood ck_okCl ck_okDt (M0 := ck_m167) rfl ck_okT1 ck_nil (by decide +kernel)
/-- SL$Bench.copyRow -/
def ck_c678 : ab_C := (167, 101, [.inr (0, 14), .inr (0, 43)], [((43, 0, 9, 120), .inl (0, 11)), ((43, 1, 9, 120), .inl (0, 11)), ((14, 0, 9, 120), .inl (0, 11)), ((14, 1, 9, 120), .inl (0, 11))], [(43, 0, 1, 1080)], [(none, [], [((43, 0, 9, 120), .inl (0, 11)), ((43, 1, 9, 120), .inl (0, 11))], 101)], 1, 41, 0, 0)
def ck_h678 : List ab_Hd := []
set_option maxRecDepth 100000 in
theorem ck_k678 (l : Launch) (D : va_G) (st : Nat → Nat) : ck_Mt gk_G l D st ck_c678 := ab_sound (tr := ck_tr2) (T := ck_T1) (cs := []) (hs := ck_h678) (sp := []) (fuel := 35) l ck_TSgood ck_okCl ck_okDt (M0 := ck_m167) rfl ck_okT1 ck_nil (by decide +kernel)
/-- SL$Bench.copyFrom -/
def ck_c679 : ab_C := (166, 101, [.inr (0, 30), .inr (0, 1)], [((43, 0, 9, 120), .inl (0, 11)), ((43, 1, 9, 120), .inl (0, 11)), ((39, 0, 1, 10), .inr (3, 9)), ((31, 0, 1, 12), .inl (0, 11)), ((30, 0, 1, 1), .inl (0, 12)), ((30, 1, 1, 1), .inr (0, 31)), ((30, 2, 1, 1), .inr (0, 32)), ((30, 3, 1, 1), .inr (0, 33)), ((30, 4, 1, 1), .inr (0, 34)), ((30, 5, 1, 1), .inr (0, 35)), ((30, 6, 1, 1), .inr (0, 36)), ((30, 7, 1, 1), .inr (0, 37)), ((30, 8, 1, 1), .inr (0, 38)), ((30, 10, 1, 1), .inl ((-1), 9)), ((30, 11, 1, 1), .inl (0, 10)), ((30, 12, 1, 1), .inr (0, 39)), ((30, 14, 1, 1), .inl (0, 120)), ((30, 15, 1, 1), .inr (0, 43)), ((14, 0, 9, 120), .inl (0, 11)), ((14, 1, 9, 120), .inl (0, 11)), ((10, 0, 1, 10), .inr (3, 9)), ((2, 0, 1, 12), .inl (0, 11)), ((1, 0, 1, 1), .inl (0, 12)), ((1, 1, 1, 1), .inr (0, 2)), ((1, 2, 1, 1), .inr (0, 3)), ((1, 3, 1, 1), .inr (0, 4)), ((1, 4, 1, 1), .inr (0, 5)), ((1, 5, 1, 1), .inr (0, 6)), ((1, 6, 1, 1), .inr (0, 7)), ((1, 7, 1, 1), .inr (0, 8)), ((1, 8, 1, 1), .inr (0, 9)), ((1, 10, 1, 1), .inl ((-1), 9)), ((1, 11, 1, 1), .inl (0, 10)), ((1, 12, 1, 1), .inr (0, 10)), ((1, 14, 1, 1), .inl (0, 120)), ((1, 15, 1, 1), .inr (0, 14))], [(30, 0, 1, 1), (30, 9, 1, 1), (30, 10, 1, 1), (30, 11, 1, 1), (30, 14, 1, 1), (30, 16, 1, 1), (30, 17, 1, 1), (30, 18, 1, 1), (31, 0, 1, 12), (32, 0, 1, 12), (33, 0, 1, 12), (34, 0, 1, 12), (35, 0, 1, 144), (36, 0, 1, 12), (37, 0, 1, 4), (38, 0, 1, 4), (39, 0, 1, 10), (43, 0, 1, 1080)], [(none, [], [((43, 0, 9, 120), .inl (0, 11)), ((43, 1, 9, 120), .inl (0, 11)), ((31, 0, 1, 12), .inl (0, 11)), ((39, 0, 1, 10), .inr (3, 9)), ((30, 0, 1, 1), .inl (0, 12)), ((30, 10, 1, 1), .inl ((-1), 9)), ((30, 11, 1, 1), .inl (0, 10)), ((30, 14, 1, 1), .inl (0, 120))], 101)], 2, 62, 0, 0)
def ck_h679 : List ab_Hd := [(122, ([(0, 10, 0, (0, 0, 0))], [(2, .inl (0, 1, 0)), (0, .inr (0, 30)), (1, .inr (0, 1))], [], ([((31, 0, 1, 12), .inl (0, 11)), ((43, 0, 9, 120), .inl (0, 11)), ((43, 1, 9, 120), .inl (0, 11)), ((39, 0, 1, 10), .inr (3, 9)), ((30, 0, 1, 1), .inl (0, 12)), ((30, 1, 1, 1), .inr (0, 31)), ((30, 2, 1, 1), .inr (0, 32)), ((30, 3, 1, 1), .inr (0, 33)), ((30, 4, 1, 1), .inr (0, 34)), ((30, 5, 1, 1), .inr (0, 35)), ((30, 6, 1, 1), .inr (0, 36)), ((30, 7, 1, 1), .inr (0, 37)), ((30, 8, 1, 1), .inr (0, 38)), ((30, 10, 1, 1), .inl ((-1), 9)), ((30, 11, 1, 1), .inl (0, 10)), ((30, 12, 1, 1), .inr (0, 39)), ((30, 14, 1, 1), .inl (0, 120)), ((30, 15, 1, 1), .inr (0, 43)), ((14, 0, 9, 120), .inl (0, 11)), ((14, 1, 9, 120), .inl (0, 11)), ((10, 0, 1, 10), .inr (3, 9)), ((2, 0, 1, 12), .inl (0, 11)), ((1, 0, 1, 1), .inl (0, 12)), ((1, 1, 1, 1), .inr (0, 2)), ((1, 2, 1, 1), .inr (0, 3)), ((1, 3, 1, 1), .inr (0, 4)), ((1, 4, 1, 1), .inr (0, 5)), ((1, 5, 1, 1), .inr (0, 6)), ((1, 6, 1, 1), .inr (0, 7)), ((1, 7, 1, 1), .inr (0, 8)), ((1, 8, 1, 1), .inr (0, 9)), ((1, 10, 1, 1), .inl ((-1), 9)), ((1, 11, 1, 1), .inl (0, 10)), ((1, 12, 1, 1), .inr (0, 10)), ((1, 14, 1, 1), .inl (0, 120)), ((1, 15, 1, 1), .inr (0, 14))], []), 101, 0, 0), 0, 0)]
set_option maxRecDepth 100000 in
theorem ck_k679 (l : Launch) (D : va_G) (st : Nat → Nat) : ck_Mt gk_G l D st ck_c679 := ab_sound (tr := ck_tr2) (T := ck_T1) (cs := [ck_c670, ck_c671, ck_c672, ck_c673, ck_c674, ck_c675, ck_c676, ck_c677, ck_c678]) (hs := ck_h679) (sp := []) (fuel := 107) l ck_TSgood ck_okCl ck_okDt (M0 := ck_m166) rfl ck_okT1 (ck_cons (ck_k670 l D st) (ck_cons (ck_k671 l D st) (ck_cons (ck_k672 l D st) (ck_cons (ck_k673 l D st) (ck_cons (ck_k674 l D st) (ck_cons (ck_k675 l D st) (ck_cons (ck_k676 l D st) (ck_cons (ck_k677 l D st) (ck_cons (ck_k678 l D st) ck_nil))))))))) (by decide +kernel)
