/-! names of contracts; what is known at the head of the law's loop -/
def lw_X0 : ab_D := [((81, 85, 1, 1), .inl (32, 32)), ((78, 1300, 1, 8010), .inr (8, 0)), ((79, 1300, 1, 8010), .inr (8, 0)), ((79, 10610, 1, 8010), .inr (8, 0)), ((100, 0, 1, 8), .inl (0, 7)), ((98, 0, 1, 12), .inl (0, 11)), ((97, 0, 1, 25), .inl ((-1), 1)), ((96, 0, 1, 6), .inl (0, 1)), ((95, 0, 1, 59808), .inl ((-128), 127)), ((93, 0, 1, 12), .inl (0, 11)), ((92, 0, 1, 12), .inl (0, 11)), ((82, 0, 1, 400), .inl ((-128), 127)), ((81, 85, 1, 1), .inl ((-128), 127)), ((81, 0, 1, 86), .inl ((-128), 127)), ((80, 0, 1, 2), .inl (0, 1)), ((79, 0, 16, 12), .inl (0, 11)), ((79, 1, 16, 12), .inl (0, 100)), ((79, 212, 9, 120), .inl (0, 11)), ((79, 213, 9, 120), .inl (0, 11)), ((79, 1292, 1, 1), .inl (0, 12)), ((79, 1293, 1, 1), .inl (0, 120)), ((79, 1294, 1, 1), .inl (0, 10)), ((79, 1296, 1, 1), .inl ((-1), 9)), ((79, 1300, 1, 10), .inl (0, 400)), ((79, 9310, 16, 12), .inl (0, 11)), ((79, 9311, 16, 12), .inl (0, 100)), ((79, 9522, 9, 120), .inl (0, 11)), ((79, 9523, 9, 120), .inl (0, 11)), ((79, 10602, 1, 1), .inl (0, 12)), ((79, 10603, 1, 1), .inl (0, 120)), ((79, 10604, 1, 1), .inl (0, 10)), ((79, 10606, 1, 1), .inl ((-1), 9)), ((79, 10610, 1, 10), .inl (0, 400)), ((78, 0, 16, 12), .inl (0, 11)), ((78, 1, 16, 12), .inl (0, 100)), ((78, 212, 9, 120), .inl (0, 11)), ((78, 213, 9, 120), .inl (0, 11)), ((78, 1292, 1, 1), .inl (0, 12)), ((78, 1293, 1, 1), .inl (0, 120)), ((78, 1294, 1, 1), .inl (0, 10)), ((78, 1296, 1, 1), .inl ((-1), 9)), ((78, 1300, 1, 10), .inl (0, 400)), ((77, 1, 1, 1), .inr (0, 78)), ((77, 2, 1, 1), .inr (0, 79)), ((77, 3, 1, 1), .inr (0, 80)), ((77, 4, 1, 1), .inr (0, 81)), ((77, 5, 1, 1), .inr (0, 82)), ((77, 6, 1, 1), .inr (0, 83)), ((77, 9, 1, 1), .inr (0, 84)), ((77, 10, 1, 1), .inr (0, 85)), ((77, 11, 1, 1), .inr (0, 86)), ((77, 19, 1, 1), .inr (0, 87)), ((77, 24, 1, 1), .inr (0, 88)), ((77, 25, 1, 1), .inr (0, 89)), ((77, 26, 1, 1), .inr (0, 90)), ((77, 27, 1, 1), .inr (0, 91)), ((77, 28, 1, 1), .inr (0, 92)), ((77, 29, 1, 1), .inl ((-1), 12)), ((77, 30, 1, 1), .inr (0, 93)), ((77, 31, 1, 1), .inr (0, 94)), ((77, 35, 1, 1), .inr (0, 95)), ((77, 36, 1, 1), .inr (0, 96)), ((77, 37, 1, 1), .inr (0, 97)), ((77, 38, 1, 1), .inr (0, 98)), ((77, 39, 1, 1), .inr (0, 99)), ((77, 40, 1, 1), .inr (0, 100)), ((77, 7, 1, 1), .inl (0, 400)), ((77, 12, 1, 1), .inl (0, 400)), ((77, 13, 1, 1), .inl (0, 400)), ((77, 18, 1, 1), .inl (0, 1)), ((77, 20, 1, 1), .inl (0, 1)), ((77, 21, 1, 1), .inl (0, 1)), ((77, 32, 1, 1), .inl (0, 12)), ((74, 0, 1, 1), .inr (0, 1)), ((74, 1, 1, 1), .inr (0, 53)), ((74, 2, 1, 1), .inr (0, 75)), ((72, 0, 1, 5), .inl (0, 11)), ((71, 0, 1, 1), .inr (0, 72)), ((71, 1, 1, 1), .inr (0, 73)), ((71, 2, 1, 1), .inl (0, 5)), ((71, 4, 1, 1), .inl ((-1), 24)), ((70, 0, 1, 1), .inr (0, 1)), ((70, 1, 1, 1), .inr (0, 53)), ((69, 0, 1, 12), .inl (0, 11)), ((65, 0, 1, 1), .inr (0, 1)), ((65, 1, 1, 1), .inr (0, 50)), ((65, 2, 1, 1), .inr (0, 66)), ((65, 3, 1, 1), .inr (0, 67)), ((65, 4, 1, 1), .inr (0, 68)), ((65, 5, 1, 1), .inr (0, 69)), ((63, 0, 1, 12), .inl (0, 11)), ((59, 0, 1, 1), .inr (0, 1)), ((59, 1, 1, 1), .inr (0, 60)), ((59, 2, 1, 1), .inr (0, 61)), ((59, 3, 1, 1), .inr (0, 62)), ((59, 4, 1, 1), .inl (0, 12)), ((59, 5, 1, 1), .inr (0, 63)), ((59, 6, 1, 1), .inr (0, 64)), ((53, 0, 1, 1), .inr (0, 1)), ((53, 1, 1, 1), .inr (0, 54)), ((53, 2, 1, 1), .inr (0, 55)), ((53, 3, 1, 1), .inr (0, 56)), ((53, 4, 1, 1), .inr (0, 57)), ((53, 5, 1, 1), .inr (0, 58)), ((50, 0, 1, 1), .inr (0, 1)), ((50, 1, 1, 1), .inr (0, 51)), ((50, 2, 1, 1), .inr (0, 52)), ((49, 0, 1, 800), .inl ((-1000000), 1000000)), ((48, 0, 1, 48), .inl ((-1000), 1000)), ((47, 0, 1, 1), .inr (0, 45)), ((47, 1, 1, 1), .inr (0, 48)), ((47, 3, 1, 1), .inr (0, 49)), ((47, 2, 1, 1), .inl (0, 12)), ((47, 4, 1, 1), .inl (0, 400)), ((47, 5, 1, 1), .inl (0, 50)), ((47, 6, 1, 1), .inl (0, 8)), ((47, 7, 1, 1), .inl (0, 3)), ((47, 8, 1, 1), .inl (0, 400)), ((47, 9, 1, 1), .inl (0, 400)), ((47, 10, 1, 1), .inl (0, 1000000)), ((45, 0, 1, 1), .inr (0, 46)), ((45, 1, 1, 1), .inl (0, 400)), ((44, 0, 1, 2), .inl (0, 1)), ((43, 0, 9, 120), .inl (0, 11)), ((43, 1, 9, 120), .inl (0, 11)), ((40, 0, 1, 1), .inr (0, 41)), ((40, 1, 1, 1), .inr (0, 42)), ((39, 0, 1, 10), .inr (3, 9)), ((31, 0, 1, 12), .inl (0, 11)), ((30, 0, 1, 1), .inl (0, 12)), ((30, 1, 1, 1), .inr (0, 31)), ((30, 2, 1, 1), .inr (0, 32)), ((30, 3, 1, 1), .inr (0, 33)), ((30, 4, 1, 1), .inr (0, 34)), ((30, 5, 1, 1), .inr (0, 35)), ((30, 6, 1, 1), .inr (0, 36)), ((30, 7, 1, 1), .inr (0, 37)), ((30, 8, 1, 1), .inr (0, 38)), ((30, 10, 1, 1), .inl ((-1), 9)), ((30, 11, 1, 1), .inl (0, 10)), ((30, 12, 1, 1), .inr (0, 39)), ((30, 13, 1, 1), .inr (0, 40)), ((30, 14, 1, 1), .inl (0, 120)), ((30, 15, 1, 1), .inr (0, 43)), ((29, 0, 9, 120), .inl (0, 11)), ((29, 1, 9, 120), .inl (0, 11)), ((26, 0, 1, 1), .inr (0, 27)), ((26, 1, 1, 1), .inr (0, 28)), ((25, 0, 1, 10), .inr (3, 9)), ((17, 0, 1, 12), .inl (0, 11)), ((16, 0, 1, 1), .inl (0, 12)), ((16, 1, 1, 1), .inr (0, 17)), ((16, 2, 1, 1), .inr (0, 18)), ((16, 3, 1, 1), .inr (0, 19)), ((16, 4, 1, 1), .inr (0, 20)), ((16, 5, 1, 1), .inr (0, 21)), ((16, 6, 1, 1), .inr (0, 22)), ((16, 7, 1, 1), .inr (0, 23)), ((16, 8, 1, 1), .inr (0, 24)), ((16, 10, 1, 1), .inl ((-1), 9)), ((16, 11, 1, 1), .inl (0, 10)), ((16, 12, 1, 1), .inr (0, 25)), ((16, 13, 1, 1), .inr (0, 26)), ((16, 14, 1, 1), .inl (0, 120)), ((16, 15, 1, 1), .inr (0, 29)), ((15, 0, 1, 1), .inr (0, 16)), ((15, 1, 1, 1), .inr (0, 30)), ((14, 0, 9, 120), .inl (0, 11)), ((14, 1, 9, 120), .inl (0, 11)), ((11, 0, 1, 1), .inr (0, 12)), ((11, 1, 1, 1), .inr (0, 13)), ((10, 0, 1, 10), .inr (3, 9)), ((2, 0, 1, 12), .inl (0, 11)), ((1, 0, 1, 1), .inl (0, 12)), ((1, 1, 1, 1), .inr (0, 2)), ((1, 2, 1, 1), .inr (0, 3)), ((1, 3, 1, 1), .inr (0, 4)), ((1, 4, 1, 1), .inr (0, 5)), ((1, 5, 1, 1), .inr (0, 6)), ((1, 6, 1, 1), .inr (0, 7)), ((1, 7, 1, 1), .inr (0, 8)), ((1, 8, 1, 1), .inr (0, 9)), ((1, 10, 1, 1), .inl ((-1), 9)), ((1, 11, 1, 1), .inl (0, 10)), ((1, 12, 1, 1), .inr (0, 10)), ((1, 13, 1, 1), .inr (0, 11)), ((1, 14, 1, 1), .inl (0, 120)), ((1, 15, 1, 1), .inr (0, 14)), ((0, 0, 1, 1), .inr (0, 1)), ((0, 1, 1, 1), .inr (0, 15)), ((0, 2, 1, 1), .inr (0, 44)), ((0, 3, 1, 1), .inr (0, 45)), ((0, 4, 1, 1), .inr (0, 47)), ((0, 5, 1, 1), .inr (0, 50)), ((0, 6, 1, 1), .inr (0, 53)), ((0, 7, 1, 1), .inr (0, 59)), ((0, 8, 1, 1), .inr (0, 65)), ((0, 9, 1, 1), .inr (0, 70)), ((0, 10, 1, 1), .inr (0, 71)), ((0, 11, 1, 1), .inr (0, 74)), ((0, 12, 1, 1), .inr (0, 76))]
def ct_pre0 : ab_C := ck_c16
theorem cz_pre0 (l : Launch) (D : va_G) (st : Nat → Nat) : ck_Mt gk_G l D st ct_pre0 := (ck_k16 l D st)
def ct_pre1 : ab_C := ck_c17
theorem cz_pre1 (l : Launch) (D : va_G) (st : Nat → Nat) : ck_Mt gk_G l D st ct_pre1 := (ck_k17 l D st)
def ct_readClause : ab_C := ck_c143
theorem cz_readClause (l : Launch) (D : va_G) (st : Nat → Nat) : ck_Mt gk_G l D st ct_readClause := (ck_k143 l D st)
def ct_passSign : ab_C := ck_c144
theorem cz_passSign (l : Launch) (D : va_G) (st : Nat → Nat) : ck_Mt gk_G l D st ct_passSign := (ck_k144 l D st)
def ct_placeReached : ab_C := ck_c145
theorem cz_placeReached (l : Launch) (D : va_G) (st : Nat → Nat) : ck_Mt gk_G l D st ct_placeReached := (ck_k145 l D st)
def ct_refuse : ab_C := ck_c146
theorem cz_refuse (l : Launch) (D : va_G) (st : Nat → Nat) : ck_Mt gk_G l D st ct_refuse := (ck_k146 l D st)
def ct_accept : ab_C := ck_c147
theorem cz_accept (l : Launch) (D : va_G) (st : Nat → Nat) : ck_Mt gk_G l D st ct_accept := (ck_k147 l D st)
def ct_X_stone : ab_C := ck_c155
theorem cz_X_stone (l : Launch) (D : va_G) (st : Nat → Nat) : ck_Mt gk_G l D st ct_X_stone := (ck_k155 l D st)
def ct_M_stone : ab_C := ck_c174
theorem cz_M_stone (l : Launch) (D : va_G) (st : Nat → Nat) : ck_Mt gk_G l D st ct_M_stone := (ck_k174 l D st)
def ct_X_plane : ab_C := ck_c184
theorem cz_X_plane (l : Launch) (D : va_G) (st : Nat → Nat) : ck_Mt gk_G l D st ct_X_plane := (ck_k184 l D st)
def ct_M_plane : ab_C := co_plane
theorem cz_M_plane (l : Launch) (D : va_G) (st : Nat → Nat) : ck_Mt gk_G l D st ct_M_plane := (hk_plane l D st)
def ct_X_point : ab_C := ck_c186
theorem cz_X_point (l : Launch) (D : va_G) (st : Nat → Nat) : ck_Mt gk_G l D st ct_X_point := (ck_k186 l D st)
def ct_M_point : ab_C := ck_c204
theorem cz_M_point (l : Launch) (D : va_G) (st : Nat → Nat) : ck_Mt gk_G l D st ct_M_point := (ck_k204 l D st)
def ct_X_known : ab_C := ck_c207
theorem cz_X_known (l : Launch) (D : va_G) (st : Nat → Nat) : ck_Mt gk_G l D st ct_X_known := (ck_k207 l D st)
def ct_M_known : ab_C := ck_c210
theorem cz_M_known (l : Launch) (D : va_G) (st : Nat → Nat) : ck_Mt gk_G l D st ct_M_known := (ck_k210 l D st)
def ct_X_hand : ab_C := ck_c214
theorem cz_X_hand (l : Launch) (D : va_G) (st : Nat → Nat) : ck_Mt gk_G l D st ct_X_hand := (ck_k214 l D st)
def ct_M_hand : ab_C := ck_c217
theorem cz_M_hand (l : Launch) (D : va_G) (st : Nat → Nat) : ck_Mt gk_G l D st ct_M_hand := (ck_k217 l D st)
def ct_X_seed : ab_C := ck_c219
theorem cz_X_seed (l : Launch) (D : va_G) (st : Nat → Nat) : ck_Mt gk_G l D st ct_X_seed := (ck_k219 l D st)
def ct_M_seed : ab_C := ck_c221
theorem cz_M_seed (l : Launch) (D : va_G) (st : Nat → Nat) : ck_Mt gk_G l D st ct_M_seed := (ck_k221 l D st)
def ct_X_feed : ab_C := ck_c227
theorem cz_X_feed (l : Launch) (D : va_G) (st : Nat → Nat) : ck_Mt gk_G l D st ct_X_feed := (ck_k227 l D st)
def ct_M_feed : ab_C := ck_c228
theorem cz_M_feed (l : Launch) (D : va_G) (st : Nat → Nat) : ck_Mt gk_G l D st ct_M_feed := (ck_k228 l D st)
def ct_X_end : ab_C := ck_c230
theorem cz_X_end (l : Launch) (D : va_G) (st : Nat → Nat) : ck_Mt gk_G l D st ct_X_end := (ck_k230 l D st)
def ct_M_end : ab_C := ck_c232
theorem cz_M_end (l : Launch) (D : va_G) (st : Nat → Nat) : ck_Mt gk_G l D st ct_M_end := (ck_k232 l D st)
def ct_X_fault : ab_C := ck_c233
theorem cz_X_fault (l : Launch) (D : va_G) (st : Nat → Nat) : ck_Mt gk_G l D st ct_X_fault := (ck_k233 l D st)
def ct_M_fault : ab_C := ck_c234
theorem cz_M_fault (l : Launch) (D : va_G) (st : Nat → Nat) : ck_Mt gk_G l D st ct_M_fault := (ck_k234 l D st)
def ct_X_law : ab_C := ck_c237
theorem cz_X_law (l : Launch) (D : va_G) (st : Nat → Nat) : ck_Mt gk_G l D st ct_X_law := (ck_k237 l D st)
def ct_M_law : ab_C := ck_c242
theorem cz_M_law (l : Launch) (D : va_G) (st : Nat → Nat) : ck_Mt gk_G l D st ct_M_law := (ck_k242 l D st)
def ct_X_cuts : ab_C := ck_c245
theorem cz_X_cuts (l : Launch) (D : va_G) (st : Nat → Nat) : ck_Mt gk_G l D st ct_X_cuts := (ck_k245 l D st)
def ct_M_cuts : ab_C := ck_c249
theorem cz_M_cuts (l : Launch) (D : va_G) (st : Nat → Nat) : ck_Mt gk_G l D st ct_M_cuts := (ck_k249 l D st)
def ct_X_trial : ab_C := ck_c258
theorem cz_X_trial (l : Launch) (D : va_G) (st : Nat → Nat) : ck_Mt gk_G l D st ct_X_trial := (ck_k258 l D st)
def ct_M_trial : ab_C := ck_c265
theorem cz_M_trial (l : Launch) (D : va_G) (st : Nat → Nat) : ck_Mt gk_G l D st ct_M_trial := (ck_k265 l D st)
def ct_X_row : ab_C := ck_c268
theorem cz_X_row (l : Launch) (D : va_G) (st : Nat → Nat) : ck_Mt gk_G l D st ct_X_row := (ck_k268 l D st)
def ct_M_row : ab_C := ck_c276
theorem cz_M_row (l : Launch) (D : va_G) (st : Nat → Nat) : ck_Mt gk_G l D st ct_M_row := (ck_k276 l D st)
def ct_X_of : ab_C := ck_c281
theorem cz_X_of (l : Launch) (D : va_G) (st : Nat → Nat) : ck_Mt gk_G l D st ct_X_of := (ck_k281 l D st)
def ct_M_of : ab_C := ck_c286
theorem cz_M_of (l : Launch) (D : va_G) (st : Nat → Nat) : ck_Mt gk_G l D st ct_M_of := (ck_k286 l D st)
def ct_X_found : ab_C := ck_c290
theorem cz_X_found (l : Launch) (D : va_G) (st : Nat → Nat) : ck_Mt gk_G l D st ct_X_found := (ck_k290 l D st)
def ct_M_found : ab_C := ck_c293
theorem cz_M_found (l : Launch) (D : va_G) (st : Nat → Nat) : ck_Mt gk_G l D st ct_M_found := (ck_k293 l D st)
def ct_X_view : ab_C := ck_c300
theorem cz_X_view (l : Launch) (D : va_G) (st : Nat → Nat) : ck_Mt gk_G l D st ct_X_view := (ck_k300 l D st)
def ct_M_view : ab_C := ck_c307
theorem cz_M_view (l : Launch) (D : va_G) (st : Nat → Nat) : ck_Mt gk_G l D st ct_M_view := (ck_k307 l D st)
def ct_X_says : ab_C := ck_c320
theorem cz_X_says (l : Launch) (D : va_G) (st : Nat → Nat) : ck_Mt gk_G l D st ct_X_says := (ck_k320 l D st)
def ct_M_says : ab_C := ck_c327
theorem cz_M_says (l : Launch) (D : va_G) (st : Nat → Nat) : ck_Mt gk_G l D st ct_M_says := (ck_k327 l D st)
def ct_X_over : ab_C := ck_c330
theorem cz_X_over (l : Launch) (D : va_G) (st : Nat → Nat) : ck_Mt gk_G l D st ct_X_over := (ck_k330 l D st)
def ct_M_over : ab_C := ck_c332
theorem cz_M_over (l : Launch) (D : va_G) (st : Nat → Nat) : ck_Mt gk_G l D st ct_M_over := (ck_k332 l D st)
def ct_X_orders : ab_C := ck_c339
theorem cz_X_orders (l : Launch) (D : va_G) (st : Nat → Nat) : ck_Mt gk_G l D st ct_X_orders := (ck_k339 l D st)
def ct_M_orders : ab_C := ck_c342
theorem cz_M_orders (l : Launch) (D : va_G) (st : Nat → Nat) : ck_Mt gk_G l D st ct_M_orders := (ck_k342 l D st)
def ct_X_ahead : ab_C := ck_c348
theorem cz_X_ahead (l : Launch) (D : va_G) (st : Nat → Nat) : ck_Mt gk_G l D st ct_X_ahead := (ck_k348 l D st)
def ct_M_ahead : ab_C := ck_c351
theorem cz_M_ahead (l : Launch) (D : va_G) (st : Nat → Nat) : ck_Mt gk_G l D st ct_M_ahead := (ck_k351 l D st)
def ct_X_ring : ab_C := ck_c355
theorem cz_X_ring (l : Launch) (D : va_G) (st : Nat → Nat) : ck_Mt gk_G l D st ct_X_ring := (ck_k355 l D st)
def ct_M_ring : ab_C := ck_c357
theorem cz_M_ring (l : Launch) (D : va_G) (st : Nat → Nat) : ck_Mt gk_G l D st ct_M_ring := (ck_k357 l D st)
def ct_X_untried : ab_C := ck_c359
theorem cz_X_untried (l : Launch) (D : va_G) (st : Nat → Nat) : ck_Mt gk_G l D st ct_X_untried := (ck_k359 l D st)
def ct_M_untried : ab_C := ck_c360
theorem cz_M_untried (l : Launch) (D : va_G) (st : Nat → Nat) : ck_Mt gk_G l D st ct_M_untried := (ck_k360 l D st)
def ct_X_best : ab_C := ck_c368
theorem cz_X_best (l : Launch) (D : va_G) (st : Nat → Nat) : ck_Mt gk_G l D st ct_X_best := (ck_k368 l D st)
def ct_M_best : ab_C := co_best
theorem cz_M_best (l : Launch) (D : va_G) (st : Nat → Nat) : ck_Mt gk_G l D st ct_M_best := (hk_best l D st (ck_k326 l D st))
def ct_X_place : ab_C := ck_c369
theorem cz_X_place (l : Launch) (D : va_G) (st : Nat → Nat) : ck_Mt gk_G l D st ct_X_place := (ck_k369 l D st)
def ct_M_place : ab_C := ck_c371
theorem cz_M_place (l : Launch) (D : va_G) (st : Nat → Nat) : ck_Mt gk_G l D st ct_M_place := (ck_k371 l D st)
def ct_X_drop : ab_C := ck_c374
theorem cz_X_drop (l : Launch) (D : va_G) (st : Nat → Nat) : ck_Mt gk_G l D st ct_X_drop := (ck_k374 l D st)
def ct_M_drop : ab_C := ck_c377
theorem cz_M_drop (l : Launch) (D : va_G) (st : Nat → Nat) : ck_Mt gk_G l D st ct_M_drop := (ck_k377 l D st)
def ct_X_span : ab_C := ck_c387
theorem cz_X_span (l : Launch) (D : va_G) (st : Nat → Nat) : ck_Mt gk_G l D st ct_X_span := (ck_k387 l D st)
def ct_M_span : ab_C := ck_c390
theorem cz_M_span (l : Launch) (D : va_G) (st : Nat → Nat) : ck_Mt gk_G l D st ct_M_span := (ck_k390 l D st)
def ct_X_settle : ab_C := ck_c401
theorem cz_X_settle (l : Launch) (D : va_G) (st : Nat → Nat) : ck_Mt gk_G l D st ct_X_settle := (ck_k401 l D st)
def ct_M_settle : ab_C := ck_c404
theorem cz_M_settle (l : Launch) (D : va_G) (st : Nat → Nat) : ck_Mt gk_G l D st ct_M_settle := (ck_k404 l D st)
def ct_X_fewest : ab_C := ck_c537
theorem cz_X_fewest (l : Launch) (D : va_G) (st : Nat → Nat) : ck_Mt gk_G l D st ct_X_fewest := (ck_k537 l D st)
def ct_M_fewest : ab_C := co_fewest
theorem cz_M_fewest (l : Launch) (D : va_G) (st : Nat → Nat) : ck_Mt gk_G l D st ct_M_fewest := (hk_fewest l D st (ck_k326 l D st) (fw_fO (co := ck_c566) rfl rfl ⟨rfl, rfl⟩ (by decide +kernel) (by decide +kernel) (by decide +kernel)) (fw_lO (co := ck_c567) rfl rfl ⟨rfl, rfl⟩ (by decide +kernel) (by decide +kernel) (by decide +kernel)) (fw_wO (co := ck_c575) rfl rfl ⟨rfl, rfl⟩ (by decide +kernel) (by decide +kernel) (by decide +kernel)) (ck_k566 l D st) (ck_k567 l D st) (ck_k575 l D st))
def ct_X_choice : ab_C := ck_c584
theorem cz_X_choice (l : Launch) (D : va_G) (st : Nat → Nat) : ck_Mt gk_G l D st ct_X_choice := (ck_k584 l D st)
def ct_M_choice : ab_C := ck_c593
theorem cz_M_choice (l : Launch) (D : va_G) (st : Nat → Nat) : ck_Mt gk_G l D st ct_M_choice := (ck_k593 l D st)
def ct_X_dents : ab_C := ck_c598
theorem cz_X_dents (l : Launch) (D : va_G) (st : Nat → Nat) : ck_Mt gk_G l D st ct_X_dents := (ck_k598 l D st)
def ct_M_dents : ab_C := ck_c602
theorem cz_M_dents (l : Launch) (D : va_G) (st : Nat → Nat) : ck_Mt gk_G l D st ct_M_dents := (ck_k602 l D st)
def ct_X_grooves : ab_C := ck_c608
theorem cz_X_grooves (l : Launch) (D : va_G) (st : Nat → Nat) : ck_Mt gk_G l D st ct_X_grooves := (ck_k608 l D st)
def ct_M_grooves : ab_C := ck_c612
theorem cz_M_grooves (l : Launch) (D : va_G) (st : Nat → Nat) : ck_Mt gk_G l D st ct_M_grooves := (ck_k612 l D st)
def ct_X_otherwise : ab_C := ck_c617
theorem cz_X_otherwise (l : Launch) (D : va_G) (st : Nat → Nat) : ck_Mt gk_G l D st ct_X_otherwise := (ck_k617 l D st)
def ct_M_otherwise : ab_C := ck_c618
theorem cz_M_otherwise (l : Launch) (D : va_G) (st : Nat → Nat) : ck_Mt gk_G l D st ct_M_otherwise := (ck_k618 l D st)
def ct_X_shapes : ab_C := ck_c622
theorem cz_X_shapes (l : Launch) (D : va_G) (st : Nat → Nat) : ck_Mt gk_G l D st ct_X_shapes := (ck_k622 l D st)
def ct_M_shapes : ab_C := ck_c624
theorem cz_M_shapes (l : Launch) (D : va_G) (st : Nat → Nat) : ck_Mt gk_G l D st ct_M_shapes := (ck_k624 l D st)
def ct_X_slips : ab_C := ck_c625
theorem cz_X_slips (l : Launch) (D : va_G) (st : Nat → Nat) : ck_Mt gk_G l D st ct_X_slips := (ck_k625 l D st)
def ct_M_slips : ab_C := ck_c626
theorem cz_M_slips (l : Launch) (D : va_G) (st : Nat → Nat) : ck_Mt gk_G l D st ct_M_slips := (ck_k626 l D st)
def ct_X_glass : ab_C := ck_c629
theorem cz_X_glass (l : Launch) (D : va_G) (st : Nat → Nat) : ck_Mt gk_G l D st ct_X_glass := (ck_k629 l D st)
def ct_M_glass : ab_C := ck_c631
theorem cz_M_glass (l : Launch) (D : va_G) (st : Nat → Nat) : ck_Mt gk_G l D st ct_M_glass := (ck_k631 l D st)
def ct_X_called : ab_C := ck_c648
theorem cz_X_called (l : Launch) (D : va_G) (st : Nat → Nat) : ck_Mt gk_G l D st ct_X_called := (ck_k648 l D st)
def ct_M_called : ab_C := co_called
theorem cz_M_called (l : Launch) (D : va_G) (st : Nat → Nat) : ck_Mt gk_G l D st ct_M_called := (hk_called l D st (ck_k326 l D st) (ck_k651 l D st))
def ct_X_lose : ab_C := ck_c653
theorem cz_X_lose (l : Launch) (D : va_G) (st : Nat → Nat) : ck_Mt gk_G l D st ct_X_lose := (ck_k653 l D st)
def ct_M_lose : ab_C := ck_c656
theorem cz_M_lose (l : Launch) (D : va_G) (st : Nat → Nat) : ck_Mt gk_G l D st ct_M_lose := (ck_k656 l D st)
def ct_X_image : ab_C := ck_c681
theorem cz_X_image (l : Launch) (D : va_G) (st : Nat → Nat) : ck_Mt gk_G l D st ct_X_image := (ck_k681 l D st)
def ct_X_back : ab_C := ck_c702
theorem cz_X_back (l : Launch) (D : va_G) (st : Nat → Nat) : ck_Mt gk_G l D st ct_X_back := (ck_k702 l D st)
def ct_X_count : ab_C := ck_c704
theorem cz_X_count (l : Launch) (D : va_G) (st : Nat → Nat) : ck_Mt gk_G l D st ct_X_count := (ck_k704 l D st)
def ct_M_count : ab_C := ck_c705
theorem cz_M_count (l : Launch) (D : va_G) (st : Nat → Nat) : ck_Mt gk_G l D st ct_M_count := (ck_k705 l D st)
def ct_X_status : ab_C := ck_c706
theorem cz_X_status (l : Launch) (D : va_G) (st : Nat → Nat) : ck_Mt gk_G l D st ct_X_status := (ck_k706 l D st)
def ct_M_status : ab_C := ck_c707
theorem cz_M_status (l : Launch) (D : va_G) (st : Nat → Nat) : ck_Mt gk_G l D st ct_M_status := (ck_k707 l D st)
theorem cs_placeReached : ab_stay lw_X0 ct_placeReached = true := by decide +kernel
theorem cs_refuse : ab_stay lw_X0 ct_refuse = true := by decide +kernel
theorem cs_accept : ab_stay lw_X0 ct_accept = true := by decide +kernel
theorem cs_X_stone : ab_stay lw_X0 ct_X_stone = true := by decide +kernel
theorem cs_M_stone : ab_stay lw_X0 ct_M_stone = true := by decide +kernel
theorem cs_X_plane : ab_stay lw_X0 ct_X_plane = true := by decide +kernel
theorem cs_M_plane : ab_stay lw_X0 ct_M_plane = true := by decide +kernel
theorem cs_X_point : ab_stay lw_X0 ct_X_point = true := by decide +kernel
theorem cs_M_point : ab_stay lw_X0 ct_M_point = true := by decide +kernel
theorem cs_X_known : ab_stay lw_X0 ct_X_known = true := by decide +kernel
theorem cs_M_known : ab_stay lw_X0 ct_M_known = true := by decide +kernel
theorem cs_X_hand : ab_stay lw_X0 ct_X_hand = true := by decide +kernel
theorem cs_M_hand : ab_stay lw_X0 ct_M_hand = true := by decide +kernel
theorem cs_X_seed : ab_stay lw_X0 ct_X_seed = true := by decide +kernel
theorem cs_M_seed : ab_stay lw_X0 ct_M_seed = true := by decide +kernel
theorem cs_X_feed : ab_stay lw_X0 ct_X_feed = true := by decide +kernel
theorem cs_M_feed : ab_stay lw_X0 ct_M_feed = true := by decide +kernel
theorem cs_X_end : ab_stay lw_X0 ct_X_end = true := by decide +kernel
theorem cs_M_end : ab_stay lw_X0 ct_M_end = true := by decide +kernel
theorem cs_X_fault : ab_stay lw_X0 ct_X_fault = true := by decide +kernel
theorem cs_M_fault : ab_stay lw_X0 ct_M_fault = true := by decide +kernel
theorem cs_X_law : ab_stay lw_X0 ct_X_law = true := by decide +kernel
theorem cs_M_law : ab_stay lw_X0 ct_M_law = true := by decide +kernel
theorem cs_X_cuts : ab_stay lw_X0 ct_X_cuts = true := by decide +kernel
theorem cs_M_cuts : ab_stay lw_X0 ct_M_cuts = true := by decide +kernel
theorem cs_X_trial : ab_stay lw_X0 ct_X_trial = true := by decide +kernel
theorem cs_M_trial : ab_stay lw_X0 ct_M_trial = true := by decide +kernel
theorem cs_X_row : ab_stay lw_X0 ct_X_row = true := by decide +kernel
theorem cs_M_row : ab_stay lw_X0 ct_M_row = true := by decide +kernel
theorem cs_X_of : ab_stay lw_X0 ct_X_of = true := by decide +kernel
theorem cs_M_of : ab_stay lw_X0 ct_M_of = true := by decide +kernel
theorem cs_X_found : ab_stay lw_X0 ct_X_found = true := by decide +kernel
theorem cs_M_found : ab_stay lw_X0 ct_M_found = true := by decide +kernel
theorem cs_X_view : ab_stay lw_X0 ct_X_view = true := by decide +kernel
theorem cs_M_view : ab_stay lw_X0 ct_M_view = true := by decide +kernel
theorem cs_X_says : ab_stay lw_X0 ct_X_says = true := by decide +kernel
theorem cs_M_says : ab_stay lw_X0 ct_M_says = true := by decide +kernel
theorem cs_X_over : ab_stay lw_X0 ct_X_over = true := by decide +kernel
theorem cs_M_over : ab_stay lw_X0 ct_M_over = true := by decide +kernel
theorem cs_X_orders : ab_stay lw_X0 ct_X_orders = true := by decide +kernel
theorem cs_M_orders : ab_stay lw_X0 ct_M_orders = true := by decide +kernel
theorem cs_X_ahead : ab_stay lw_X0 ct_X_ahead = true := by decide +kernel
theorem cs_M_ahead : ab_stay lw_X0 ct_M_ahead = true := by decide +kernel
theorem cs_X_ring : ab_stay lw_X0 ct_X_ring = true := by decide +kernel
theorem cs_M_ring : ab_stay lw_X0 ct_M_ring = true := by decide +kernel
theorem cs_X_untried : ab_stay lw_X0 ct_X_untried = true := by decide +kernel
theorem cs_M_untried : ab_stay lw_X0 ct_M_untried = true := by decide +kernel
theorem cs_X_best : ab_stay lw_X0 ct_X_best = true := by decide +kernel
theorem cs_M_best : ab_stay lw_X0 ct_M_best = true := by decide +kernel
theorem cs_X_place : ab_stay lw_X0 ct_X_place = true := by decide +kernel
theorem cs_M_place : ab_stay lw_X0 ct_M_place = true := by decide +kernel
theorem cs_X_drop : ab_stay lw_X0 ct_X_drop = true := by decide +kernel
theorem cs_M_drop : ab_stay lw_X0 ct_M_drop = true := by decide +kernel
theorem cs_X_span : ab_stay lw_X0 ct_X_span = true := by decide +kernel
theorem cs_M_span : ab_stay lw_X0 ct_M_span = true := by decide +kernel
theorem cs_X_settle : ab_stay lw_X0 ct_X_settle = true := by decide +kernel
theorem cs_M_settle : ab_stay lw_X0 ct_M_settle = true := by decide +kernel
theorem cs_X_fewest : ab_stay lw_X0 ct_X_fewest = true := by decide +kernel
theorem cs_M_fewest : ab_stay lw_X0 ct_M_fewest = true := by decide +kernel
theorem cs_X_choice : ab_stay lw_X0 ct_X_choice = true := by decide +kernel
theorem cs_M_choice : ab_stay lw_X0 ct_M_choice = true := by decide +kernel
theorem cs_X_dents : ab_stay lw_X0 ct_X_dents = true := by decide +kernel
theorem cs_M_dents : ab_stay lw_X0 ct_M_dents = true := by decide +kernel
theorem cs_X_grooves : ab_stay lw_X0 ct_X_grooves = true := by decide +kernel
theorem cs_M_grooves : ab_stay lw_X0 ct_M_grooves = true := by decide +kernel
theorem cs_X_otherwise : ab_stay lw_X0 ct_X_otherwise = true := by decide +kernel
theorem cs_M_otherwise : ab_stay lw_X0 ct_M_otherwise = true := by decide +kernel
theorem cs_X_shapes : ab_stay lw_X0 ct_X_shapes = true := by decide +kernel
theorem cs_M_shapes : ab_stay lw_X0 ct_M_shapes = true := by decide +kernel
theorem cs_X_slips : ab_stay lw_X0 ct_X_slips = true := by decide +kernel
theorem cs_M_slips : ab_stay lw_X0 ct_M_slips = true := by decide +kernel
theorem cs_X_glass : ab_stay lw_X0 ct_X_glass = true := by decide +kernel
theorem cs_M_glass : ab_stay lw_X0 ct_M_glass = true := by decide +kernel
theorem cs_X_called : ab_stay lw_X0 ct_X_called = true := by decide +kernel
theorem cs_M_called : ab_stay lw_X0 ct_M_called = true := by decide +kernel
theorem cs_X_lose : ab_stay lw_X0 ct_X_lose = true := by decide +kernel
theorem cs_M_lose : ab_stay lw_X0 ct_M_lose = true := by decide +kernel
theorem cs_X_image : ab_stay lw_X0 ct_X_image = true := by decide +kernel
theorem cs_X_back : ab_stay lw_X0 ct_X_back = true := by decide +kernel
theorem cs_X_count : ab_stay lw_X0 ct_X_count = true := by decide +kernel
theorem cs_M_count : ab_stay lw_X0 ct_M_count = true := by decide +kernel
theorem cs_X_status : ab_stay lw_X0 ct_X_status = true := by decide +kernel
theorem cs_M_status : ab_stay lw_X0 ct_M_status = true := by decide +kernel
