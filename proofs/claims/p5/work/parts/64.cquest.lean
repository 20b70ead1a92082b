/-! the class: within, lawText, join, worked, testOf, holds, lastTold -/
abbrev ck_tl0 : List FieldType := [.int, (.array .int), (.array .int), (.array .int), (.array .int), (.array .int), (.array .int), (.array .int), (.array .int), .int, .int, .int, (.array (.object "ScratchLadder$Text")), (.object "ScratchLadder$Text"), .int, (.array .int), .int, .int, .int]
abbrev ck_tl1 : List FieldType := [(.object "ScratchLadder$Bench"), (.object "ScratchLadder$Question"), (.array .int), (.array .int), (.array .int), (.array .int)]
abbrev ck_tl3 : List FieldType := [(.object "ScratchLadder$Bench"), (.array .int), (.array .int), (.array .int), .int, (.array .int), (.array .int)]
abbrev ck_tl8 : List FieldType := [(.array .int), .int]
abbrev ck_tl10 : List FieldType := [(.object "ScratchLadder$Bench"), (.array .int), (.array .int), (.array .int), (.array .int), (.array .int)]
abbrev ck_tl11 : List FieldType := [(.object "ScratchLadder$Bench"), (.array (.object "ScratchLadder$Bench")), (.array .boolean), (.object "ScratchLadder$Tape"), (.object "ScratchLadder$Reader"), (.object "ScratchLadder$Question"), (.object "ScratchLadder$Ties"), (.object "ScratchLadder$Orders"), (.object "ScratchLadder$Lineup"), (.object "ScratchLadder$Rungs"), (.object "ScratchLadder$Sorter"), (.object "ScratchLadder$Naming"), (.array .int), .int, .int]
theorem gf0_12 {ini : Bool} {pc i : Nat} {L : List (Nat × mm_v)} {S : List mm_v} {h : mm_h} {k : Nat × Nat} {N : mm_s → Prop} : mm_f ck_T0.1 ck_dt ini pc (.getfield 12, 3) L (.inr (.inr (.inl (some i))) :: S) h k N = (i < h.1 ∧ (∃ n, h.2.1 i = .inl (11, n)) ∧ N (pc + 3, L, mm_A (h.2.2.2 i 0) :: S, h, k)) := mm_getf (q := (12, 11, 0, (.object "ScratchLadder$Bench"), true)) (tl := ck_tl11) (t := (.object "ScratchLadder$Bench")) rfl rfl rfl
theorem gf0_16 {ini : Bool} {pc i : Nat} {L : List (Nat × mm_v)} {S : List mm_v} {h : mm_h} {k : Nat × Nat} {N : mm_s → Prop} : mm_f ck_T0.1 ck_dt ini pc (.getfield 16, 3) L (.inr (.inr (.inl (some i))) :: S) h k N = (i < h.1 ∧ (∃ n, h.2.1 i = .inl (11, n)) ∧ N (pc + 3, L, mm_A (h.2.2.2 i 1) :: S, h, k)) := mm_getf (q := (16, 11, 1, (.array (.object "ScratchLadder$Bench")), true)) (tl := ck_tl11) (t := (.array (.object "ScratchLadder$Bench"))) rfl rfl rfl
theorem gf0_20 {ini : Bool} {pc i : Nat} {L : List (Nat × mm_v)} {S : List mm_v} {h : mm_h} {k : Nat × Nat} {N : mm_s → Prop} : mm_f ck_T0.1 ck_dt ini pc (.getfield 20, 3) L (.inr (.inr (.inl (some i))) :: S) h k N = (i < h.1 ∧ (∃ n, h.2.1 i = .inl (11, n)) ∧ N (pc + 3, L, mm_A (h.2.2.2 i 2) :: S, h, k)) := mm_getf (q := (20, 11, 2, (.array .boolean), true)) (tl := ck_tl11) (t := (.array .boolean)) rfl rfl rfl
theorem gf0_27 {ini : Bool} {pc i : Nat} {L : List (Nat × mm_v)} {S : List mm_v} {h : mm_h} {k : Nat × Nat} {N : mm_s → Prop} : mm_f ck_T0.1 ck_dt ini pc (.getfield 27, 3) L (.inr (.inr (.inl (some i))) :: S) h k N = (i < h.1 ∧ (∃ n, h.2.1 i = .inl (11, n)) ∧ N (pc + 3, L, mm_A (h.2.2.2 i 3) :: S, h, k)) := mm_getf (q := (27, 11, 3, (.object "ScratchLadder$Tape"), true)) (tl := ck_tl11) (t := (.object "ScratchLadder$Tape")) rfl rfl rfl
theorem gf0_36 {ini : Bool} {pc i : Nat} {L : List (Nat × mm_v)} {S : List mm_v} {h : mm_h} {k : Nat × Nat} {N : mm_s → Prop} : mm_f ck_T0.1 ck_dt ini pc (.getfield 36, 3) L (.inr (.inr (.inl (some i))) :: S) h k N = (i < h.1 ∧ (∃ n, h.2.1 i = .inl (11, n)) ∧ N (pc + 3, L, mm_A (h.2.2.2 i 4) :: S, h, k)) := mm_getf (q := (36, 11, 4, (.object "ScratchLadder$Reader"), true)) (tl := ck_tl11) (t := (.object "ScratchLadder$Reader")) rfl rfl rfl
theorem gf0_45 {ini : Bool} {pc i : Nat} {L : List (Nat × mm_v)} {S : List mm_v} {h : mm_h} {k : Nat × Nat} {N : mm_s → Prop} : mm_f ck_T0.1 ck_dt ini pc (.getfield 45, 3) L (.inr (.inr (.inl (some i))) :: S) h k N = (i < h.1 ∧ (∃ n, h.2.1 i = .inl (11, n)) ∧ N (pc + 3, L, mm_A (h.2.2.2 i 5) :: S, h, k)) := mm_getf (q := (45, 11, 5, (.object "ScratchLadder$Question"), true)) (tl := ck_tl11) (t := (.object "ScratchLadder$Question")) rfl rfl rfl
theorem gf0_52 {ini : Bool} {pc i : Nat} {L : List (Nat × mm_v)} {S : List mm_v} {h : mm_h} {k : Nat × Nat} {N : mm_s → Prop} : mm_f ck_T0.1 ck_dt ini pc (.getfield 52, 3) L (.inr (.inr (.inl (some i))) :: S) h k N = (i < h.1 ∧ (∃ n, h.2.1 i = .inl (11, n)) ∧ N (pc + 3, L, mm_A (h.2.2.2 i 6) :: S, h, k)) := mm_getf (q := (52, 11, 6, (.object "ScratchLadder$Ties"), true)) (tl := ck_tl11) (t := (.object "ScratchLadder$Ties")) rfl rfl rfl
theorem gf0_59 {ini : Bool} {pc i : Nat} {L : List (Nat × mm_v)} {S : List mm_v} {h : mm_h} {k : Nat × Nat} {N : mm_s → Prop} : mm_f ck_T0.1 ck_dt ini pc (.getfield 59, 3) L (.inr (.inr (.inl (some i))) :: S) h k N = (i < h.1 ∧ (∃ n, h.2.1 i = .inl (11, n)) ∧ N (pc + 3, L, mm_A (h.2.2.2 i 7) :: S, h, k)) := mm_getf (q := (59, 11, 7, (.object "ScratchLadder$Orders"), true)) (tl := ck_tl11) (t := (.object "ScratchLadder$Orders")) rfl rfl rfl
theorem gf0_68 {ini : Bool} {pc i : Nat} {L : List (Nat × mm_v)} {S : List mm_v} {h : mm_h} {k : Nat × Nat} {N : mm_s → Prop} : mm_f ck_T0.1 ck_dt ini pc (.getfield 68, 3) L (.inr (.inr (.inl (some i))) :: S) h k N = (i < h.1 ∧ (∃ n, h.2.1 i = .inl (11, n)) ∧ N (pc + 3, L, mm_A (h.2.2.2 i 8) :: S, h, k)) := mm_getf (q := (68, 11, 8, (.object "ScratchLadder$Lineup"), true)) (tl := ck_tl11) (t := (.object "ScratchLadder$Lineup")) rfl rfl rfl
theorem gf0_77 {ini : Bool} {pc i : Nat} {L : List (Nat × mm_v)} {S : List mm_v} {h : mm_h} {k : Nat × Nat} {N : mm_s → Prop} : mm_f ck_T0.1 ck_dt ini pc (.getfield 77, 3) L (.inr (.inr (.inl (some i))) :: S) h k N = (i < h.1 ∧ (∃ n, h.2.1 i = .inl (11, n)) ∧ N (pc + 3, L, mm_A (h.2.2.2 i 9) :: S, h, k)) := mm_getf (q := (77, 11, 9, (.object "ScratchLadder$Rungs"), true)) (tl := ck_tl11) (t := (.object "ScratchLadder$Rungs")) rfl rfl rfl
theorem gf0_84 {ini : Bool} {pc i : Nat} {L : List (Nat × mm_v)} {S : List mm_v} {h : mm_h} {k : Nat × Nat} {N : mm_s → Prop} : mm_f ck_T0.1 ck_dt ini pc (.getfield 84, 3) L (.inr (.inr (.inl (some i))) :: S) h k N = (i < h.1 ∧ (∃ n, h.2.1 i = .inl (11, n)) ∧ N (pc + 3, L, mm_A (h.2.2.2 i 10) :: S, h, k)) := mm_getf (q := (84, 11, 10, (.object "ScratchLadder$Sorter"), true)) (tl := ck_tl11) (t := (.object "ScratchLadder$Sorter")) rfl rfl rfl
theorem gf0_91 {ini : Bool} {pc i : Nat} {L : List (Nat × mm_v)} {S : List mm_v} {h : mm_h} {k : Nat × Nat} {N : mm_s → Prop} : mm_f ck_T0.1 ck_dt ini pc (.getfield 91, 3) L (.inr (.inr (.inl (some i))) :: S) h k N = (i < h.1 ∧ (∃ n, h.2.1 i = .inl (11, n)) ∧ N (pc + 3, L, mm_A (h.2.2.2 i 11) :: S, h, k)) := mm_getf (q := (91, 11, 11, (.object "ScratchLadder$Naming"), true)) (tl := ck_tl11) (t := (.object "ScratchLadder$Naming")) rfl rfl rfl
theorem gf0_95 {ini : Bool} {pc i : Nat} {L : List (Nat × mm_v)} {S : List mm_v} {h : mm_h} {k : Nat × Nat} {N : mm_s → Prop} : mm_f ck_T0.1 ck_dt ini pc (.getfield 95, 3) L (.inr (.inr (.inl (some i))) :: S) h k N = (i < h.1 ∧ (∃ n, h.2.1 i = .inl (11, n)) ∧ N (pc + 3, L, mm_A (h.2.2.2 i 12) :: S, h, k)) := mm_getf (q := (95, 11, 12, (.array .int), true)) (tl := ck_tl11) (t := (.array .int)) rfl rfl rfl
theorem gf0_99 {ini : Bool} {pc i : Nat} {L : List (Nat × mm_v)} {S : List mm_v} {h : mm_h} {k : Nat × Nat} {N : mm_s → Prop} : mm_f ck_T0.1 ck_dt ini pc (.getfield 99, 3) L (.inr (.inr (.inl (some i))) :: S) h k N = (i < h.1 ∧ (∃ n, h.2.1 i = .inl (11, n)) ∧ N (pc + 3, L, mm_I (h.2.2.1 i 13) :: S, h, k)) := mm_getf (q := (99, 11, 13, .int, false)) (tl := ck_tl11) (t := .int) rfl rfl rfl
theorem pf0_99 {ini : Bool} {pc i : Nat} {y : Int32} {L : List (Nat × mm_v)} {S : List mm_v} {h : mm_h} {k : Nat × Nat} {N : mm_s → Prop} : mm_f ck_T0.1 ck_dt ini pc (.putfield 99, 3) L (.inl y :: .inr (.inr (.inl (some i))) :: S) h k N = (i < h.1 ∧ (∃ n, h.2.1 i = .inl (11, n)) ∧ True ∧ N (pc + 3, L, S, mm_si h i 13 y, k)) := mm_putf (q := (99, 11, 13, .int, false)) (tl := ck_tl11) rfl rfl rfl rfl rfl
theorem gf0_103 {ini : Bool} {pc i : Nat} {L : List (Nat × mm_v)} {S : List mm_v} {h : mm_h} {k : Nat × Nat} {N : mm_s → Prop} : mm_f ck_T0.1 ck_dt ini pc (.getfield 103, 3) L (.inr (.inr (.inl (some i))) :: S) h k N = (i < h.1 ∧ (∃ n, h.2.1 i = .inl (11, n)) ∧ N (pc + 3, L, mm_I (h.2.2.1 i 14) :: S, h, k)) := mm_getf (q := (103, 11, 14, .int, false)) (tl := ck_tl11) (t := .int) rfl rfl rfl
theorem pf0_103 {ini : Bool} {pc i : Nat} {y : Int32} {L : List (Nat × mm_v)} {S : List mm_v} {h : mm_h} {k : Nat × Nat} {N : mm_s → Prop} : mm_f ck_T0.1 ck_dt ini pc (.putfield 103, 3) L (.inl y :: .inr (.inr (.inl (some i))) :: S) h k N = (i < h.1 ∧ (∃ n, h.2.1 i = .inl (11, n)) ∧ True ∧ N (pc + 3, L, S, mm_si h i 14 y, k)) := mm_putf (q := (103, 11, 14, .int, false)) (tl := ck_tl11) rfl rfl rfl rfl rfl
theorem gf0_114 {ini : Bool} {pc i : Nat} {L : List (Nat × mm_v)} {S : List mm_v} {h : mm_h} {k : Nat × Nat} {N : mm_s → Prop} : mm_f ck_T0.1 ck_dt ini pc (.getfield 114, 3) L (.inr (.inr (.inl (some i))) :: S) h k N = (i < h.1 ∧ (∃ n, h.2.1 i = .inl (0, n)) ∧ N (pc + 3, L, mm_I (h.2.2.1 i 0) :: S, h, k)) := mm_getf (q := (114, 0, 0, .int, false)) (tl := ck_tl0) (t := .int) rfl rfl rfl
theorem pf0_114 {ini : Bool} {pc i : Nat} {y : Int32} {L : List (Nat × mm_v)} {S : List mm_v} {h : mm_h} {k : Nat × Nat} {N : mm_s → Prop} : mm_f ck_T0.1 ck_dt ini pc (.putfield 114, 3) L (.inl y :: .inr (.inr (.inl (some i))) :: S) h k N = (i < h.1 ∧ (∃ n, h.2.1 i = .inl (0, n)) ∧ True ∧ N (pc + 3, L, S, mm_si h i 0 y, k)) := mm_putf (q := (114, 0, 0, .int, false)) (tl := ck_tl0) rfl rfl rfl rfl rfl
theorem gf0_132 {ini : Bool} {pc i : Nat} {L : List (Nat × mm_v)} {S : List mm_v} {h : mm_h} {k : Nat × Nat} {N : mm_s → Prop} : mm_f ck_T0.1 ck_dt ini pc (.getfield 132, 3) L (.inr (.inr (.inl (some i))) :: S) h k N = (i < h.1 ∧ (∃ n, h.2.1 i = .inl (0, n)) ∧ N (pc + 3, L, mm_A (h.2.2.2 i 5) :: S, h, k)) := mm_getf (q := (132, 0, 5, .char, true)) (tl := ck_tl0) (t := (.array .int)) rfl rfl rfl
theorem gf0_142 {ini : Bool} {pc i : Nat} {L : List (Nat × mm_v)} {S : List mm_v} {h : mm_h} {k : Nat × Nat} {N : mm_s → Prop} : mm_f ck_T0.1 ck_dt ini pc (.getfield 142, 3) L (.inr (.inr (.inl (some i))) :: S) h k N = (i < h.1 ∧ (∃ n, h.2.1 i = .inl (0, n)) ∧ N (pc + 3, L, mm_A (h.2.2.2 i 4) :: S, h, k)) := mm_getf (q := (142, 0, 4, .char, true)) (tl := ck_tl0) (t := (.array .int)) rfl rfl rfl
theorem gf0_145 {ini : Bool} {pc i : Nat} {L : List (Nat × mm_v)} {S : List mm_v} {h : mm_h} {k : Nat × Nat} {N : mm_s → Prop} : mm_f ck_T0.1 ck_dt ini pc (.getfield 145, 3) L (.inr (.inr (.inl (some i))) :: S) h k N = (i < h.1 ∧ (∃ n, h.2.1 i = .inl (0, n)) ∧ N (pc + 3, L, mm_A (h.2.2.2 i 6) :: S, h, k)) := mm_getf (q := (145, 0, 6, .char, true)) (tl := ck_tl0) (t := (.array .int)) rfl rfl rfl
theorem gf0_151 {ini : Bool} {pc i : Nat} {L : List (Nat × mm_v)} {S : List mm_v} {h : mm_h} {k : Nat × Nat} {N : mm_s → Prop} : mm_f ck_T0.1 ck_dt ini pc (.getfield 151, 3) L (.inr (.inr (.inl (some i))) :: S) h k N = (i < h.1 ∧ (∃ n, h.2.1 i = .inl (0, n)) ∧ N (pc + 3, L, mm_A (h.2.2.2 i 7) :: S, h, k)) := mm_getf (q := (151, 0, 7, .char, true)) (tl := ck_tl0) (t := (.array .int)) rfl rfl rfl
theorem gf0_154 {ini : Bool} {pc i : Nat} {L : List (Nat × mm_v)} {S : List mm_v} {h : mm_h} {k : Nat × Nat} {N : mm_s → Prop} : mm_f ck_T0.1 ck_dt ini pc (.getfield 154, 3) L (.inr (.inr (.inl (some i))) :: S) h k N = (i < h.1 ∧ (∃ n, h.2.1 i = .inl (0, n)) ∧ N (pc + 3, L, mm_A (h.2.2.2 i 8) :: S, h, k)) := mm_getf (q := (154, 0, 8, .char, true)) (tl := ck_tl0) (t := (.array .int)) rfl rfl rfl
theorem gf0_158 {ini : Bool} {pc i : Nat} {L : List (Nat × mm_v)} {S : List mm_v} {h : mm_h} {k : Nat × Nat} {N : mm_s → Prop} : mm_f ck_T0.1 ck_dt ini pc (.getfield 158, 3) L (.inr (.inr (.inl (some i))) :: S) h k N = (i < h.1 ∧ (∃ n, h.2.1 i = .inl (0, n)) ∧ N (pc + 3, L, mm_I (h.2.2.1 i 9) :: S, h, k)) := mm_getf (q := (158, 0, 9, .int, false)) (tl := ck_tl0) (t := .int) rfl rfl rfl
theorem pf0_158 {ini : Bool} {pc i : Nat} {y : Int32} {L : List (Nat × mm_v)} {S : List mm_v} {h : mm_h} {k : Nat × Nat} {N : mm_s → Prop} : mm_f ck_T0.1 ck_dt ini pc (.putfield 158, 3) L (.inl y :: .inr (.inr (.inl (some i))) :: S) h k N = (i < h.1 ∧ (∃ n, h.2.1 i = .inl (0, n)) ∧ True ∧ N (pc + 3, L, S, mm_si h i 9 y, k)) := mm_putf (q := (158, 0, 9, .int, false)) (tl := ck_tl0) rfl rfl rfl rfl rfl
theorem gf0_161 {ini : Bool} {pc i : Nat} {L : List (Nat × mm_v)} {S : List mm_v} {h : mm_h} {k : Nat × Nat} {N : mm_s → Prop} : mm_f ck_T0.1 ck_dt ini pc (.getfield 161, 3) L (.inr (.inr (.inl (some i))) :: S) h k N = (i < h.1 ∧ (∃ n, h.2.1 i = .inl (8, n)) ∧ N (pc + 3, L, mm_I (h.2.2.1 i 1) :: S, h, k)) := mm_getf (q := (161, 8, 1, .int, false)) (tl := ck_tl8) (t := .int) rfl rfl rfl
theorem pf0_161 {ini : Bool} {pc i : Nat} {y : Int32} {L : List (Nat × mm_v)} {S : List mm_v} {h : mm_h} {k : Nat × Nat} {N : mm_s → Prop} : mm_f ck_T0.1 ck_dt ini pc (.putfield 161, 3) L (.inl y :: .inr (.inr (.inl (some i))) :: S) h k N = (i < h.1 ∧ (∃ n, h.2.1 i = .inl (8, n)) ∧ True ∧ N (pc + 3, L, S, mm_si h i 1 y, k)) := mm_putf (q := (161, 8, 1, .int, false)) (tl := ck_tl8) rfl rfl rfl rfl rfl
theorem gf0_168 {ini : Bool} {pc i : Nat} {L : List (Nat × mm_v)} {S : List mm_v} {h : mm_h} {k : Nat × Nat} {N : mm_s → Prop} : mm_f ck_T0.1 ck_dt ini pc (.getfield 168, 3) L (.inr (.inr (.inl (some i))) :: S) h k N = (i < h.1 ∧ (∃ n, h.2.1 i = .inl (0, n)) ∧ N (pc + 3, L, mm_I (h.2.2.1 i 11) :: S, h, k)) := mm_getf (q := (168, 0, 11, .int, false)) (tl := ck_tl0) (t := .int) rfl rfl rfl
theorem pf0_168 {ini : Bool} {pc i : Nat} {y : Int32} {L : List (Nat × mm_v)} {S : List mm_v} {h : mm_h} {k : Nat × Nat} {N : mm_s → Prop} : mm_f ck_T0.1 ck_dt ini pc (.putfield 168, 3) L (.inl y :: .inr (.inr (.inl (some i))) :: S) h k N = (i < h.1 ∧ (∃ n, h.2.1 i = .inl (0, n)) ∧ True ∧ N (pc + 3, L, S, mm_si h i 11 y, k)) := mm_putf (q := (168, 0, 11, .int, false)) (tl := ck_tl0) rfl rfl rfl rfl rfl
theorem gf0_179 {ini : Bool} {pc i : Nat} {L : List (Nat × mm_v)} {S : List mm_v} {h : mm_h} {k : Nat × Nat} {N : mm_s → Prop} : mm_f ck_T0.1 ck_dt ini pc (.getfield 179, 3) L (.inr (.inr (.inl (some i))) :: S) h k N = (i < h.1 ∧ (∃ n, h.2.1 i = .inl (0, n)) ∧ N (pc + 3, L, mm_A (h.2.2.2 i 12) :: S, h, k)) := mm_getf (q := (179, 0, 12, .char, true)) (tl := ck_tl0) (t := (.array (.object "ScratchLadder$Text"))) rfl rfl rfl
theorem gf0_183 {ini : Bool} {pc i : Nat} {L : List (Nat × mm_v)} {S : List mm_v} {h : mm_h} {k : Nat × Nat} {N : mm_s → Prop} : mm_f ck_T0.1 ck_dt ini pc (.getfield 183, 3) L (.inr (.inr (.inl (some i))) :: S) h k N = (i < h.1 ∧ (∃ n, h.2.1 i = .inl (0, n)) ∧ N (pc + 3, L, mm_I (h.2.2.1 i 10) :: S, h, k)) := mm_getf (q := (183, 0, 10, .int, false)) (tl := ck_tl0) (t := .int) rfl rfl rfl
theorem pf0_183 {ini : Bool} {pc i : Nat} {y : Int32} {L : List (Nat × mm_v)} {S : List mm_v} {h : mm_h} {k : Nat × Nat} {N : mm_s → Prop} : mm_f ck_T0.1 ck_dt ini pc (.putfield 183, 3) L (.inl y :: .inr (.inr (.inl (some i))) :: S) h k N = (i < h.1 ∧ (∃ n, h.2.1 i = .inl (0, n)) ∧ True ∧ N (pc + 3, L, S, mm_si h i 10 y, k)) := mm_putf (q := (183, 0, 10, .int, false)) (tl := ck_tl0) rfl rfl rfl rfl rfl
theorem gf0_190 {ini : Bool} {pc i : Nat} {L : List (Nat × mm_v)} {S : List mm_v} {h : mm_h} {k : Nat × Nat} {N : mm_s → Prop} : mm_f ck_T0.1 ck_dt ini pc (.getfield 190, 3) L (.inr (.inr (.inl (some i))) :: S) h k N = (i < h.1 ∧ (∃ n, h.2.1 i = .inl (0, n)) ∧ N (pc + 3, L, mm_A (h.2.2.2 i 3) :: S, h, k)) := mm_getf (q := (190, 0, 3, .char, true)) (tl := ck_tl0) (t := (.array .int)) rfl rfl rfl
theorem gf0_193 {ini : Bool} {pc i : Nat} {L : List (Nat × mm_v)} {S : List mm_v} {h : mm_h} {k : Nat × Nat} {N : mm_s → Prop} : mm_f ck_T0.1 ck_dt ini pc (.getfield 193, 3) L (.inr (.inr (.inl (some i))) :: S) h k N = (i < h.1 ∧ (∃ n, h.2.1 i = .inl (0, n)) ∧ N (pc + 3, L, mm_I (h.2.2.1 i 14) :: S, h, k)) := mm_getf (q := (193, 0, 14, .int, false)) (tl := ck_tl0) (t := .int) rfl rfl rfl
theorem pf0_193 {ini : Bool} {pc i : Nat} {y : Int32} {L : List (Nat × mm_v)} {S : List mm_v} {h : mm_h} {k : Nat × Nat} {N : mm_s → Prop} : mm_f ck_T0.1 ck_dt ini pc (.putfield 193, 3) L (.inl y :: .inr (.inr (.inl (some i))) :: S) h k N = (i < h.1 ∧ (∃ n, h.2.1 i = .inl (0, n)) ∧ True ∧ N (pc + 3, L, S, mm_si h i 14 y, k)) := mm_putf (q := (193, 0, 14, .int, false)) (tl := ck_tl0) rfl rfl rfl rfl rfl
theorem gf0_210 {ini : Bool} {pc i : Nat} {L : List (Nat × mm_v)} {S : List mm_v} {h : mm_h} {k : Nat × Nat} {N : mm_s → Prop} : mm_f ck_T0.1 ck_dt ini pc (.getfield 210, 3) L (.inr (.inr (.inl (some i))) :: S) h k N = (i < h.1 ∧ (∃ n, h.2.1 i = .inl (8, n)) ∧ N (pc + 3, L, mm_A (h.2.2.2 i 0) :: S, h, k)) := mm_getf (q := (210, 8, 0, .char, true)) (tl := ck_tl8) (t := (.array .int)) rfl rfl rfl
theorem gf0_233 {ini : Bool} {pc i : Nat} {L : List (Nat × mm_v)} {S : List mm_v} {h : mm_h} {k : Nat × Nat} {N : mm_s → Prop} : mm_f ck_T0.1 ck_dt ini pc (.getfield 233, 3) L (.inr (.inr (.inl (some i))) :: S) h k N = (i < h.1 ∧ (∃ n, h.2.1 i = .inl (0, n)) ∧ N (pc + 3, L, mm_I (h.2.2.1 i 16) :: S, h, k)) := mm_getf (q := (233, 0, 16, .int, false)) (tl := ck_tl0) (t := .int) rfl rfl rfl
theorem pf0_233 {ini : Bool} {pc i : Nat} {y : Int32} {L : List (Nat × mm_v)} {S : List mm_v} {h : mm_h} {k : Nat × Nat} {N : mm_s → Prop} : mm_f ck_T0.1 ck_dt ini pc (.putfield 233, 3) L (.inl y :: .inr (.inr (.inl (some i))) :: S) h k N = (i < h.1 ∧ (∃ n, h.2.1 i = .inl (0, n)) ∧ True ∧ N (pc + 3, L, S, mm_si h i 16 y, k)) := mm_putf (q := (233, 0, 16, .int, false)) (tl := ck_tl0) rfl rfl rfl rfl rfl
theorem gf0_236 {ini : Bool} {pc i : Nat} {L : List (Nat × mm_v)} {S : List mm_v} {h : mm_h} {k : Nat × Nat} {N : mm_s → Prop} : mm_f ck_T0.1 ck_dt ini pc (.getfield 236, 3) L (.inr (.inr (.inl (some i))) :: S) h k N = (i < h.1 ∧ (∃ n, h.2.1 i = .inl (0, n)) ∧ N (pc + 3, L, mm_I (h.2.2.1 i 17) :: S, h, k)) := mm_getf (q := (236, 0, 17, .int, false)) (tl := ck_tl0) (t := .int) rfl rfl rfl
theorem pf0_236 {ini : Bool} {pc i : Nat} {y : Int32} {L : List (Nat × mm_v)} {S : List mm_v} {h : mm_h} {k : Nat × Nat} {N : mm_s → Prop} : mm_f ck_T0.1 ck_dt ini pc (.putfield 236, 3) L (.inl y :: .inr (.inr (.inl (some i))) :: S) h k N = (i < h.1 ∧ (∃ n, h.2.1 i = .inl (0, n)) ∧ True ∧ N (pc + 3, L, S, mm_si h i 17 y, k)) := mm_putf (q := (236, 0, 17, .int, false)) (tl := ck_tl0) rfl rfl rfl rfl rfl
theorem gf0_239 {ini : Bool} {pc i : Nat} {L : List (Nat × mm_v)} {S : List mm_v} {h : mm_h} {k : Nat × Nat} {N : mm_s → Prop} : mm_f ck_T0.1 ck_dt ini pc (.getfield 239, 3) L (.inr (.inr (.inl (some i))) :: S) h k N = (i < h.1 ∧ (∃ n, h.2.1 i = .inl (0, n)) ∧ N (pc + 3, L, mm_I (h.2.2.1 i 18) :: S, h, k)) := mm_getf (q := (239, 0, 18, .int, false)) (tl := ck_tl0) (t := .int) rfl rfl rfl
theorem pf0_239 {ini : Bool} {pc i : Nat} {y : Int32} {L : List (Nat × mm_v)} {S : List mm_v} {h : mm_h} {k : Nat × Nat} {N : mm_s → Prop} : mm_f ck_T0.1 ck_dt ini pc (.putfield 239, 3) L (.inl y :: .inr (.inr (.inl (some i))) :: S) h k N = (i < h.1 ∧ (∃ n, h.2.1 i = .inl (0, n)) ∧ True ∧ N (pc + 3, L, S, mm_si h i 18 y, k)) := mm_putf (q := (239, 0, 18, .int, false)) (tl := ck_tl0) rfl rfl rfl rfl rfl
theorem gf0_251 {ini : Bool} {pc i : Nat} {L : List (Nat × mm_v)} {S : List mm_v} {h : mm_h} {k : Nat × Nat} {N : mm_s → Prop} : mm_f ck_T0.1 ck_dt ini pc (.getfield 251, 3) L (.inr (.inr (.inl (some i))) :: S) h k N = (i < h.1 ∧ (∃ n, h.2.1 i = .inl (10, n)) ∧ N (pc + 3, L, mm_A (h.2.2.2 i 1) :: S, h, k)) := mm_getf (q := (251, 10, 1, .char, true)) (tl := ck_tl10) (t := (.array .int)) rfl rfl rfl
theorem gf0_257 {ini : Bool} {pc i : Nat} {L : List (Nat × mm_v)} {S : List mm_v} {h : mm_h} {k : Nat × Nat} {N : mm_s → Prop} : mm_f ck_T0.1 ck_dt ini pc (.getfield 257, 3) L (.inr (.inr (.inl (some i))) :: S) h k N = (i < h.1 ∧ (∃ n, h.2.1 i = .inl (10, n)) ∧ N (pc + 3, L, mm_A (h.2.2.2 i 2) :: S, h, k)) := mm_getf (q := (257, 10, 2, .char, true)) (tl := ck_tl10) (t := (.array .int)) rfl rfl rfl
theorem gf0_267 {ini : Bool} {pc i : Nat} {L : List (Nat × mm_v)} {S : List mm_v} {h : mm_h} {k : Nat × Nat} {N : mm_s → Prop} : mm_f ck_T0.1 ck_dt ini pc (.getfield 267, 3) L (.inr (.inr (.inl (some i))) :: S) h k N = (i < h.1 ∧ (∃ n, h.2.1 i = .inl (10, n)) ∧ N (pc + 3, L, mm_A (h.2.2.2 i 5) :: S, h, k)) := mm_getf (q := (267, 10, 5, .char, true)) (tl := ck_tl10) (t := (.array .int)) rfl rfl rfl
theorem gf0_278 {ini : Bool} {pc i : Nat} {L : List (Nat × mm_v)} {S : List mm_v} {h : mm_h} {k : Nat × Nat} {N : mm_s → Prop} : mm_f ck_T0.1 ck_dt ini pc (.getfield 278, 3) L (.inr (.inr (.inl (some i))) :: S) h k N = (i < h.1 ∧ (∃ n, h.2.1 i = .inl (3, n)) ∧ N (pc + 3, L, mm_I (h.2.2.1 i 4) :: S, h, k)) := mm_getf (q := (278, 3, 4, .int, false)) (tl := ck_tl3) (t := .int) rfl rfl rfl
theorem pf0_278 {ini : Bool} {pc i : Nat} {y : Int32} {L : List (Nat × mm_v)} {S : List mm_v} {h : mm_h} {k : Nat × Nat} {N : mm_s → Prop} : mm_f ck_T0.1 ck_dt ini pc (.putfield 278, 3) L (.inl y :: .inr (.inr (.inl (some i))) :: S) h k N = (i < h.1 ∧ (∃ n, h.2.1 i = .inl (3, n)) ∧ True ∧ N (pc + 3, L, S, mm_si h i 4 y, k)) := mm_putf (q := (278, 3, 4, .int, false)) (tl := ck_tl3) rfl rfl rfl rfl rfl
theorem gf0_281 {ini : Bool} {pc i : Nat} {L : List (Nat × mm_v)} {S : List mm_v} {h : mm_h} {k : Nat × Nat} {N : mm_s → Prop} : mm_f ck_T0.1 ck_dt ini pc (.getfield 281, 3) L (.inr (.inr (.inl (some i))) :: S) h k N = (i < h.1 ∧ (∃ n, h.2.1 i = .inl (3, n)) ∧ N (pc + 3, L, mm_A (h.2.2.2 i 5) :: S, h, k)) := mm_getf (q := (281, 3, 5, .char, true)) (tl := ck_tl3) (t := (.array .int)) rfl rfl rfl
theorem gf0_321 {ini : Bool} {pc i : Nat} {L : List (Nat × mm_v)} {S : List mm_v} {h : mm_h} {k : Nat × Nat} {N : mm_s → Prop} : mm_f ck_T0.1 ck_dt ini pc (.getfield 321, 3) L (.inr (.inr (.inl (some i))) :: S) h k N = (i < h.1 ∧ (∃ n, h.2.1 i = .inl (1, n)) ∧ N (pc + 3, L, mm_A (h.2.2.2 i 5) :: S, h, k)) := mm_getf (q := (321, 1, 5, .char, true)) (tl := ck_tl1) (t := (.array .int)) rfl rfl rfl
theorem ml0_3 : ck_T0.2.2.2.2.2.2.2.find? (fun q => q.1 == 3) = some (3, 7, 0) := by decide
theorem ml0_11 : ck_T0.2.2.2.2.2.2.2.find? (fun q => q.1 == 11) = some (11, 5, 1) := by decide
theorem ml0_26 : ck_T0.2.2.2.2.2.2.2.find? (fun q => q.1 == 26) = some (26, 5, 3) := by decide
theorem ml0_33 : ck_T0.2.2.2.2.2.2.2.find? (fun q => q.1 == 33) = some (33, 2, 4) := by decide
theorem ml0_42 : ck_T0.2.2.2.2.2.2.2.find? (fun q => q.1 == 42) = some (42, 2, 5) := by decide
theorem ml0_51 : ck_T0.2.2.2.2.2.2.2.find? (fun q => q.1 == 51) = some (51, 2, 6) := by decide
theorem ml0_58 : ck_T0.2.2.2.2.2.2.2.find? (fun q => q.1 == 58) = some (58, 2, 7) := by decide
theorem ml0_65 : ck_T0.2.2.2.2.2.2.2.find? (fun q => q.1 == 65) = some (65, 2, 9) := by decide
theorem ml0_74 : ck_T0.2.2.2.2.2.2.2.find? (fun q => q.1 == 74) = some (74, 2, 10) := by decide
theorem ml0_83 : ck_T0.2.2.2.2.2.2.2.find? (fun q => q.1 == 83) = some (83, 5, 11) := by decide
theorem ml0_90 : ck_T0.2.2.2.2.2.2.2.find? (fun q => q.1 == 90) = some (90, 2, 12) := by decide
theorem ml0_106 : ck_T0.2.2.2.2.2.2.2.find? (fun q => q.1 == 106) = some (106, 1, 14) := by decide
theorem ml0_110 : ck_T0.2.2.2.2.2.2.2.find? (fun q => q.1 == 110) = some (110, 0, 15) := by decide
theorem ml0_117 : ck_T0.2.2.2.2.2.2.2.find? (fun q => q.1 == 117) = some (117, 0, 16) := by decide
theorem ml0_121 : ck_T0.2.2.2.2.2.2.2.find? (fun q => q.1 == 121) = some (121, 0, 17) := by decide
theorem ml0_124 : ck_T0.2.2.2.2.2.2.2.find? (fun q => q.1 == 124) = some (124, 1, 19) := by decide
theorem ml0_128 : ck_T0.2.2.2.2.2.2.2.find? (fun q => q.1 == 128) = some (128, 0, 20) := by decide
theorem ml0_135 : ck_T0.2.2.2.2.2.2.2.find? (fun q => q.1 == 135) = some (135, 1, 21) := by decide
theorem ml0_138 : ck_T0.2.2.2.2.2.2.2.find? (fun q => q.1 == 138) = some (138, 1, 22) := by decide
theorem ml0_148 : ck_T0.2.2.2.2.2.2.2.find? (fun q => q.1 == 148) = some (148, 1, 26) := by decide
theorem ml0_164 : ck_T0.2.2.2.2.2.2.2.find? (fun q => q.1 == 164) = some (164, 0, 29) := by decide
theorem ml0_171 : ck_T0.2.2.2.2.2.2.2.find? (fun q => q.1 == 171) = some (171, 0, 32) := by decide
theorem ml0_175 : ck_T0.2.2.2.2.2.2.2.find? (fun q => q.1 == 175) = some (175, 0, 58) := by decide
theorem ml0_186 : ck_T0.2.2.2.2.2.2.2.find? (fun q => q.1 == 186) = some (186, 0, 62) := by decide
theorem ml0_196 : ck_T0.2.2.2.2.2.2.2.find? (fun q => q.1 == 196) = some (196, 0, 63) := by decide
theorem ml0_200 : ck_T0.2.2.2.2.2.2.2.find? (fun q => q.1 == 200) = some (200, 0, 72) := by decide
theorem ml0_203 : ck_T0.2.2.2.2.2.2.2.find? (fun q => q.1 == 203) = some (203, 0, 74) := by decide
theorem ml0_206 : ck_T0.2.2.2.2.2.2.2.find? (fun q => q.1 == 206) = some (206, 0, 75) := by decide
theorem ml0_213 : ck_T0.2.2.2.2.2.2.2.find? (fun q => q.1 == 213) = some (213, 6, 0) := by decide
theorem ml0_219 : ck_T0.2.2.2.2.2.2.2.find? (fun q => q.1 == 219) = some (219, 0, 77) := by decide
theorem ml0_223 : ck_T0.2.2.2.2.2.2.2.find? (fun q => q.1 == 223) = some (223, 0, 79) := by decide
theorem ml0_226 : ck_T0.2.2.2.2.2.2.2.find? (fun q => q.1 == 226) = some (226, 0, 80) := by decide
theorem ml0_230 : ck_T0.2.2.2.2.2.2.2.find? (fun q => q.1 == 230) = some (230, 0, 82) := by decide
theorem ml0_242 : ck_T0.2.2.2.2.2.2.2.find? (fun q => q.1 == 242) = some (242, 0, 84) := by decide
theorem ml0_245 : ck_T0.2.2.2.2.2.2.2.find? (fun q => q.1 == 245) = some (245, 0, 86) := by decide
theorem ml0_248 : ck_T0.2.2.2.2.2.2.2.find? (fun q => q.1 == 248) = some (248, 0, 87) := by decide
theorem ml0_254 : ck_T0.2.2.2.2.2.2.2.find? (fun q => q.1 == 254) = some (254, 0, 92) := by decide
theorem ml0_260 : ck_T0.2.2.2.2.2.2.2.find? (fun q => q.1 == 260) = some (260, 0, 94) := by decide
theorem ml0_264 : ck_T0.2.2.2.2.2.2.2.find? (fun q => q.1 == 264) = some (264, 0, 100) := by decide
theorem ml0_270 : ck_T0.2.2.2.2.2.2.2.find? (fun q => q.1 == 270) = some (270, 1, 103) := by decide
theorem ml0_275 : ck_T0.2.2.2.2.2.2.2.find? (fun q => q.1 == 275) = some (275, 0, 105) := by decide
theorem ml0_284 : ck_T0.2.2.2.2.2.2.2.find? (fun q => q.1 == 284) = some (284, 0, 89) := by decide
theorem ml0_287 : ck_T0.2.2.2.2.2.2.2.find? (fun q => q.1 == 287) = some (287, 0, 113) := by decide
theorem ml0_290 : ck_T0.2.2.2.2.2.2.2.find? (fun q => q.1 == 290) = some (290, 0, 116) := by decide
theorem ml0_293 : ck_T0.2.2.2.2.2.2.2.find? (fun q => q.1 == 293) = some (293, 0, 120) := by decide
theorem ml0_296 : ck_T0.2.2.2.2.2.2.2.find? (fun q => q.1 == 296) = some (296, 0, 122) := by decide
theorem ml0_299 : ck_T0.2.2.2.2.2.2.2.find? (fun q => q.1 == 299) = some (299, 0, 126) := by decide
theorem ml0_303 : ck_T0.2.2.2.2.2.2.2.find? (fun q => q.1 == 303) = some (303, 0, 128) := by decide
theorem ml0_306 : ck_T0.2.2.2.2.2.2.2.find? (fun q => q.1 == 306) = some (306, 0, 134) := by decide
theorem ml0_309 : ck_T0.2.2.2.2.2.2.2.find? (fun q => q.1 == 309) = some (309, 0, 136) := by decide
theorem ml0_312 : ck_T0.2.2.2.2.2.2.2.find? (fun q => q.1 == 312) = some (312, 0, 137) := by decide
theorem ml0_315 : ck_T0.2.2.2.2.2.2.2.find? (fun q => q.1 == 315) = some (315, 0, 139) := by decide
theorem ml0_318 : ck_T0.2.2.2.2.2.2.2.find? (fun q => q.1 == 318) = some (318, 0, 141) := by decide
theorem ml0_324 : ck_T0.2.2.2.2.2.2.2.find? (fun q => q.1 == 324) = some (324, 0, 144) := by decide
theorem ml0_327 : ck_T0.2.2.2.2.2.2.2.find? (fun q => q.1 == 327) = some (327, 0, 146) := by decide
theorem ml0_331 : ck_T0.2.2.2.2.2.2.2.find? (fun q => q.1 == 331) = some (331, 0, 148) := by decide
theorem ml0_334 : ck_T0.2.2.2.2.2.2.2.find? (fun q => q.1 == 334) = some (334, 0, 152) := by decide
theorem ml0_337 : ck_T0.2.2.2.2.2.2.2.find? (fun q => q.1 == 337) = some (337, 0, 154) := by decide
theorem ml0_340 : ck_T0.2.2.2.2.2.2.2.find? (fun q => q.1 == 340) = some (340, 0, 161) := by decide
theorem ml0_343 : ck_T0.2.2.2.2.2.2.2.find? (fun q => q.1 == 343) = some (343, 0, 162) := by decide
theorem ml0_346 : ck_T0.2.2.2.2.2.2.2.find? (fun q => q.1 == 346) = some (346, 0, 157) := by decide
theorem ml0_349 : ck_T0.2.2.2.2.2.2.2.find? (fun q => q.1 == 349) = some (349, 0, 166) := by decide
theorem ml0_352 : ck_T0.2.2.2.2.2.2.2.find? (fun q => q.1 == 352) = some (352, 0, 170) := by decide
theorem ml0_355 : ck_T0.2.2.2.2.2.2.2.find? (fun q => q.1 == 355) = some (355, 0, 64) := by decide
theorem ml0_358 : ck_T0.2.2.2.2.2.2.2.find? (fun q => q.1 == 358) = some (358, 0, 73) := by decide
theorem gf1_9 {ini : Bool} {pc i : Nat} {L : List (Nat × mm_v)} {S : List mm_v} {h : mm_h} {k : Nat × Nat} {N : mm_s → Prop} : mm_f ck_T1.1 ck_dt ini pc (.getfield 9, 3) L (.inr (.inr (.inl (some i))) :: S) h k N = (i < h.1 ∧ (∃ n, h.2.1 i = .inl (0, n)) ∧ N (pc + 3, L, mm_I (h.2.2.1 i 0) :: S, h, k)) := mm_getf (q := (9, 0, 0, .int, false)) (tl := ck_tl0) (t := .int) rfl rfl rfl
theorem pf1_9 {ini : Bool} {pc i : Nat} {y : Int32} {L : List (Nat × mm_v)} {S : List mm_v} {h : mm_h} {k : Nat × Nat} {N : mm_s → Prop} : mm_f ck_T1.1 ck_dt ini pc (.putfield 9, 3) L (.inl y :: .inr (.inr (.inl (some i))) :: S) h k N = (i < h.1 ∧ (∃ n, h.2.1 i = .inl (0, n)) ∧ True ∧ N (pc + 3, L, S, mm_si h i 0 y, k)) := mm_putf (q := (9, 0, 0, .int, false)) (tl := ck_tl0) rfl rfl rfl rfl rfl
theorem gf1_15 {ini : Bool} {pc i : Nat} {L : List (Nat × mm_v)} {S : List mm_v} {h : mm_h} {k : Nat × Nat} {N : mm_s → Prop} : mm_f ck_T1.1 ck_dt ini pc (.getfield 15, 3) L (.inr (.inr (.inl (some i))) :: S) h k N = (i < h.1 ∧ (∃ n, h.2.1 i = .inl (0, n)) ∧ N (pc + 3, L, mm_A (h.2.2.2 i 1) :: S, h, k)) := mm_getf (q := (15, 0, 1, (.array .int), true)) (tl := ck_tl0) (t := (.array .int)) rfl rfl rfl
theorem gf1_19 {ini : Bool} {pc i : Nat} {L : List (Nat × mm_v)} {S : List mm_v} {h : mm_h} {k : Nat × Nat} {N : mm_s → Prop} : mm_f ck_T1.1 ck_dt ini pc (.getfield 19, 3) L (.inr (.inr (.inl (some i))) :: S) h k N = (i < h.1 ∧ (∃ n, h.2.1 i = .inl (0, n)) ∧ N (pc + 3, L, mm_A (h.2.2.2 i 2) :: S, h, k)) := mm_getf (q := (19, 0, 2, (.array .int), true)) (tl := ck_tl0) (t := (.array .int)) rfl rfl rfl
theorem gf1_22 {ini : Bool} {pc i : Nat} {L : List (Nat × mm_v)} {S : List mm_v} {h : mm_h} {k : Nat × Nat} {N : mm_s → Prop} : mm_f ck_T1.1 ck_dt ini pc (.getfield 22, 3) L (.inr (.inr (.inl (some i))) :: S) h k N = (i < h.1 ∧ (∃ n, h.2.1 i = .inl (0, n)) ∧ N (pc + 3, L, mm_A (h.2.2.2 i 3) :: S, h, k)) := mm_getf (q := (22, 0, 3, (.array .int), true)) (tl := ck_tl0) (t := (.array .int)) rfl rfl rfl
theorem gf1_25 {ini : Bool} {pc i : Nat} {L : List (Nat × mm_v)} {S : List mm_v} {h : mm_h} {k : Nat × Nat} {N : mm_s → Prop} : mm_f ck_T1.1 ck_dt ini pc (.getfield 25, 3) L (.inr (.inr (.inl (some i))) :: S) h k N = (i < h.1 ∧ (∃ n, h.2.1 i = .inl (0, n)) ∧ N (pc + 3, L, mm_A (h.2.2.2 i 4) :: S, h, k)) := mm_getf (q := (25, 0, 4, (.array .int), true)) (tl := ck_tl0) (t := (.array .int)) rfl rfl rfl
theorem gf1_28 {ini : Bool} {pc i : Nat} {L : List (Nat × mm_v)} {S : List mm_v} {h : mm_h} {k : Nat × Nat} {N : mm_s → Prop} : mm_f ck_T1.1 ck_dt ini pc (.getfield 28, 3) L (.inr (.inr (.inl (some i))) :: S) h k N = (i < h.1 ∧ (∃ n, h.2.1 i = .inl (0, n)) ∧ N (pc + 3, L, mm_A (h.2.2.2 i 5) :: S, h, k)) := mm_getf (q := (28, 0, 5, (.array .int), true)) (tl := ck_tl0) (t := (.array .int)) rfl rfl rfl
theorem gf1_31 {ini : Bool} {pc i : Nat} {L : List (Nat × mm_v)} {S : List mm_v} {h : mm_h} {k : Nat × Nat} {N : mm_s → Prop} : mm_f ck_T1.1 ck_dt ini pc (.getfield 31, 3) L (.inr (.inr (.inl (some i))) :: S) h k N = (i < h.1 ∧ (∃ n, h.2.1 i = .inl (0, n)) ∧ N (pc + 3, L, mm_A (h.2.2.2 i 6) :: S, h, k)) := mm_getf (q := (31, 0, 6, (.array .int), true)) (tl := ck_tl0) (t := (.array .int)) rfl rfl rfl
theorem gf1_34 {ini : Bool} {pc i : Nat} {L : List (Nat × mm_v)} {S : List mm_v} {h : mm_h} {k : Nat × Nat} {N : mm_s → Prop} : mm_f ck_T1.1 ck_dt ini pc (.getfield 34, 3) L (.inr (.inr (.inl (some i))) :: S) h k N = (i < h.1 ∧ (∃ n, h.2.1 i = .inl (0, n)) ∧ N (pc + 3, L, mm_A (h.2.2.2 i 7) :: S, h, k)) := mm_getf (q := (34, 0, 7, (.array .int), true)) (tl := ck_tl0) (t := (.array .int)) rfl rfl rfl
theorem gf1_37 {ini : Bool} {pc i : Nat} {L : List (Nat × mm_v)} {S : List mm_v} {h : mm_h} {k : Nat × Nat} {N : mm_s → Prop} : mm_f ck_T1.1 ck_dt ini pc (.getfield 37, 3) L (.inr (.inr (.inl (some i))) :: S) h k N = (i < h.1 ∧ (∃ n, h.2.1 i = .inl (0, n)) ∧ N (pc + 3, L, mm_A (h.2.2.2 i 8) :: S, h, k)) := mm_getf (q := (37, 0, 8, (.array .int), true)) (tl := ck_tl0) (t := (.array .int)) rfl rfl rfl
theorem gf1_40 {ini : Bool} {pc i : Nat} {L : List (Nat × mm_v)} {S : List mm_v} {h : mm_h} {k : Nat × Nat} {N : mm_s → Prop} : mm_f ck_T1.1 ck_dt ini pc (.getfield 40, 3) L (.inr (.inr (.inl (some i))) :: S) h k N = (i < h.1 ∧ (∃ n, h.2.1 i = .inl (0, n)) ∧ N (pc + 3, L, mm_I (h.2.2.1 i 9) :: S, h, k)) := mm_getf (q := (40, 0, 9, .int, false)) (tl := ck_tl0) (t := .int) rfl rfl rfl
theorem pf1_40 {ini : Bool} {pc i : Nat} {y : Int32} {L : List (Nat × mm_v)} {S : List mm_v} {h : mm_h} {k : Nat × Nat} {N : mm_s → Prop} : mm_f ck_T1.1 ck_dt ini pc (.putfield 40, 3) L (.inl y :: .inr (.inr (.inl (some i))) :: S) h k N = (i < h.1 ∧ (∃ n, h.2.1 i = .inl (0, n)) ∧ True ∧ N (pc + 3, L, S, mm_si h i 9 y, k)) := mm_putf (q := (40, 0, 9, .int, false)) (tl := ck_tl0) rfl rfl rfl rfl rfl
theorem gf1_43 {ini : Bool} {pc i : Nat} {L : List (Nat × mm_v)} {S : List mm_v} {h : mm_h} {k : Nat × Nat} {N : mm_s → Prop} : mm_f ck_T1.1 ck_dt ini pc (.getfield 43, 3) L (.inr (.inr (.inl (some i))) :: S) h k N = (i < h.1 ∧ (∃ n, h.2.1 i = .inl (0, n)) ∧ N (pc + 3, L, mm_I (h.2.2.1 i 10) :: S, h, k)) := mm_getf (q := (43, 0, 10, .int, false)) (tl := ck_tl0) (t := .int) rfl rfl rfl
theorem pf1_43 {ini : Bool} {pc i : Nat} {y : Int32} {L : List (Nat × mm_v)} {S : List mm_v} {h : mm_h} {k : Nat × Nat} {N : mm_s → Prop} : mm_f ck_T1.1 ck_dt ini pc (.putfield 43, 3) L (.inl y :: .inr (.inr (.inl (some i))) :: S) h k N = (i < h.1 ∧ (∃ n, h.2.1 i = .inl (0, n)) ∧ True ∧ N (pc + 3, L, S, mm_si h i 10 y, k)) := mm_putf (q := (43, 0, 10, .int, false)) (tl := ck_tl0) rfl rfl rfl rfl rfl
theorem gf1_46 {ini : Bool} {pc i : Nat} {L : List (Nat × mm_v)} {S : List mm_v} {h : mm_h} {k : Nat × Nat} {N : mm_s → Prop} : mm_f ck_T1.1 ck_dt ini pc (.getfield 46, 3) L (.inr (.inr (.inl (some i))) :: S) h k N = (i < h.1 ∧ (∃ n, h.2.1 i = .inl (0, n)) ∧ N (pc + 3, L, mm_I (h.2.2.1 i 11) :: S, h, k)) := mm_getf (q := (46, 0, 11, .int, false)) (tl := ck_tl0) (t := .int) rfl rfl rfl
theorem pf1_46 {ini : Bool} {pc i : Nat} {y : Int32} {L : List (Nat × mm_v)} {S : List mm_v} {h : mm_h} {k : Nat × Nat} {N : mm_s → Prop} : mm_f ck_T1.1 ck_dt ini pc (.putfield 46, 3) L (.inl y :: .inr (.inr (.inl (some i))) :: S) h k N = (i < h.1 ∧ (∃ n, h.2.1 i = .inl (0, n)) ∧ True ∧ N (pc + 3, L, S, mm_si h i 11 y, k)) := mm_putf (q := (46, 0, 11, .int, false)) (tl := ck_tl0) rfl rfl rfl rfl rfl
theorem gf1_51 {ini : Bool} {pc i : Nat} {L : List (Nat × mm_v)} {S : List mm_v} {h : mm_h} {k : Nat × Nat} {N : mm_s → Prop} : mm_f ck_T1.1 ck_dt ini pc (.getfield 51, 3) L (.inr (.inr (.inl (some i))) :: S) h k N = (i < h.1 ∧ (∃ n, h.2.1 i = .inl (0, n)) ∧ N (pc + 3, L, mm_A (h.2.2.2 i 12) :: S, h, k)) := mm_getf (q := (51, 0, 12, (.array (.object "ScratchLadder$Text")), true)) (tl := ck_tl0) (t := (.array (.object "ScratchLadder$Text"))) rfl rfl rfl
theorem gf1_58 {ini : Bool} {pc i : Nat} {L : List (Nat × mm_v)} {S : List mm_v} {h : mm_h} {k : Nat × Nat} {N : mm_s → Prop} : mm_f ck_T1.1 ck_dt ini pc (.getfield 58, 3) L (.inr (.inr (.inl (some i))) :: S) h k N = (i < h.1 ∧ (∃ n, h.2.1 i = .inl (0, n)) ∧ N (pc + 3, L, mm_A (h.2.2.2 i 13) :: S, h, k)) := mm_getf (q := (58, 0, 13, (.object "ScratchLadder$Text"), true)) (tl := ck_tl0) (t := (.object "ScratchLadder$Text")) rfl rfl rfl
theorem gf1_62 {ini : Bool} {pc i : Nat} {L : List (Nat × mm_v)} {S : List mm_v} {h : mm_h} {k : Nat × Nat} {N : mm_s → Prop} : mm_f ck_T1.1 ck_dt ini pc (.getfield 62, 3) L (.inr (.inr (.inl (some i))) :: S) h k N = (i < h.1 ∧ (∃ n, h.2.1 i = .inl (0, n)) ∧ N (pc + 3, L, mm_I (h.2.2.1 i 14) :: S, h, k)) := mm_getf (q := (62, 0, 14, .int, false)) (tl := ck_tl0) (t := .int) rfl rfl rfl
theorem pf1_62 {ini : Bool} {pc i : Nat} {y : Int32} {L : List (Nat × mm_v)} {S : List mm_v} {h : mm_h} {k : Nat × Nat} {N : mm_s → Prop} : mm_f ck_T1.1 ck_dt ini pc (.putfield 62, 3) L (.inl y :: .inr (.inr (.inl (some i))) :: S) h k N = (i < h.1 ∧ (∃ n, h.2.1 i = .inl (0, n)) ∧ True ∧ N (pc + 3, L, S, mm_si h i 14 y, k)) := mm_putf (q := (62, 0, 14, .int, false)) (tl := ck_tl0) rfl rfl rfl rfl rfl
theorem gf1_65 {ini : Bool} {pc i : Nat} {L : List (Nat × mm_v)} {S : List mm_v} {h : mm_h} {k : Nat × Nat} {N : mm_s → Prop} : mm_f ck_T1.1 ck_dt ini pc (.getfield 65, 3) L (.inr (.inr (.inl (some i))) :: S) h k N = (i < h.1 ∧ (∃ n, h.2.1 i = .inl (0, n)) ∧ N (pc + 3, L, mm_A (h.2.2.2 i 15) :: S, h, k)) := mm_getf (q := (65, 0, 15, (.array .int), true)) (tl := ck_tl0) (t := (.array .int)) rfl rfl rfl
theorem gf1_68 {ini : Bool} {pc i : Nat} {L : List (Nat × mm_v)} {S : List mm_v} {h : mm_h} {k : Nat × Nat} {N : mm_s → Prop} : mm_f ck_T1.1 ck_dt ini pc (.getfield 68, 3) L (.inr (.inr (.inl (some i))) :: S) h k N = (i < h.1 ∧ (∃ n, h.2.1 i = .inl (0, n)) ∧ N (pc + 3, L, mm_I (h.2.2.1 i 16) :: S, h, k)) := mm_getf (q := (68, 0, 16, .int, false)) (tl := ck_tl0) (t := .int) rfl rfl rfl
theorem pf1_68 {ini : Bool} {pc i : Nat} {y : Int32} {L : List (Nat × mm_v)} {S : List mm_v} {h : mm_h} {k : Nat × Nat} {N : mm_s → Prop} : mm_f ck_T1.1 ck_dt ini pc (.putfield 68, 3) L (.inl y :: .inr (.inr (.inl (some i))) :: S) h k N = (i < h.1 ∧ (∃ n, h.2.1 i = .inl (0, n)) ∧ True ∧ N (pc + 3, L, S, mm_si h i 16 y, k)) := mm_putf (q := (68, 0, 16, .int, false)) (tl := ck_tl0) rfl rfl rfl rfl rfl
theorem gf1_71 {ini : Bool} {pc i : Nat} {L : List (Nat × mm_v)} {S : List mm_v} {h : mm_h} {k : Nat × Nat} {N : mm_s → Prop} : mm_f ck_T1.1 ck_dt ini pc (.getfield 71, 3) L (.inr (.inr (.inl (some i))) :: S) h k N = (i < h.1 ∧ (∃ n, h.2.1 i = .inl (0, n)) ∧ N (pc + 3, L, mm_I (h.2.2.1 i 17) :: S, h, k)) := mm_getf (q := (71, 0, 17, .int, false)) (tl := ck_tl0) (t := .int) rfl rfl rfl
theorem pf1_71 {ini : Bool} {pc i : Nat} {y : Int32} {L : List (Nat × mm_v)} {S : List mm_v} {h : mm_h} {k : Nat × Nat} {N : mm_s → Prop} : mm_f ck_T1.1 ck_dt ini pc (.putfield 71, 3) L (.inl y :: .inr (.inr (.inl (some i))) :: S) h k N = (i < h.1 ∧ (∃ n, h.2.1 i = .inl (0, n)) ∧ True ∧ N (pc + 3, L, S, mm_si h i 17 y, k)) := mm_putf (q := (71, 0, 17, .int, false)) (tl := ck_tl0) rfl rfl rfl rfl rfl
theorem gf1_74 {ini : Bool} {pc i : Nat} {L : List (Nat × mm_v)} {S : List mm_v} {h : mm_h} {k : Nat × Nat} {N : mm_s → Prop} : mm_f ck_T1.1 ck_dt ini pc (.getfield 74, 3) L (.inr (.inr (.inl (some i))) :: S) h k N = (i < h.1 ∧ (∃ n, h.2.1 i = .inl (0, n)) ∧ N (pc + 3, L, mm_I (h.2.2.1 i 18) :: S, h, k)) := mm_getf (q := (74, 0, 18, .int, false)) (tl := ck_tl0) (t := .int) rfl rfl rfl
theorem pf1_74 {ini : Bool} {pc i : Nat} {y : Int32} {L : List (Nat × mm_v)} {S : List mm_v} {h : mm_h} {k : Nat × Nat} {N : mm_s → Prop} : mm_f ck_T1.1 ck_dt ini pc (.putfield 74, 3) L (.inl y :: .inr (.inr (.inl (some i))) :: S) h k N = (i < h.1 ∧ (∃ n, h.2.1 i = .inl (0, n)) ∧ True ∧ N (pc + 3, L, S, mm_si h i 18 y, k)) := mm_putf (q := (74, 0, 18, .int, false)) (tl := ck_tl0) rfl rfl rfl rfl rfl
theorem ml1_3 : ck_T1.2.2.2.2.2.2.2.find? (fun q => q.1 == 3) = some (3, 7, 0) := by decide
theorem ml1_55 : ck_T1.2.2.2.2.2.2.2.find? (fun q => q.1 == 55) = some (55, 2, 2) := by decide
theorem ml1_77 : ck_T1.2.2.2.2.2.2.2.find? (fun q => q.1 == 77) = some (77, 1, 167) := by decide
theorem ml1_80 : ck_T1.2.2.2.2.2.2.2.find? (fun q => q.1 == 80) = some (80, 8, 0) := by decide
theorem ml1_86 : ck_T1.2.2.2.2.2.2.2.find? (fun q => q.1 == 86) = some (86, 6, 0) := by decide
theorem ml1_92 : ck_T1.2.2.2.2.2.2.2.find? (fun q => q.1 == 92) = some (92, 4, 14) := by decide
theorem ml1_97 : ck_T1.2.2.2.2.2.2.2.find? (fun q => q.1 == 97) = some (97, 0, 20) := by decide
theorem ml1_101 : ck_T1.2.2.2.2.2.2.2.find? (fun q => q.1 == 101) = some (101, 4, 19) := by decide
theorem ml1_105 : ck_T1.2.2.2.2.2.2.2.find? (fun q => q.1 == 105) = some (105, 4, 26) := by decide
theorem ml1_108 : ck_T1.2.2.2.2.2.2.2.find? (fun q => q.1 == 108) = some (108, 0, 80) := by decide
theorem ml1_111 : ck_T1.2.2.2.2.2.2.2.find? (fun q => q.1 == 111) = some (111, 0, 84) := by decide
abbrev ck_tl4 : List FieldType := [(.object "ScratchLadder$Bench"), (.array .long), (.array .int)]
theorem gf5_9 {ini : Bool} {pc i : Nat} {L : List (Nat × mm_v)} {S : List mm_v} {h : mm_h} {k : Nat × Nat} {N : mm_s → Prop} : mm_f ck_T5.1 ck_dt ini pc (.getfield 9, 3) L (.inr (.inr (.inl (some i))) :: S) h k N = (i < h.1 ∧ (∃ n, h.2.1 i = .inl (4, n)) ∧ N (pc + 3, L, mm_A (h.2.2.2 i 1) :: S, h, k)) := mm_getf (q := (9, 4, 1, (.array .long), true)) (tl := ck_tl4) (t := (.array .long)) rfl rfl rfl
theorem gf5_17 {ini : Bool} {pc i : Nat} {L : List (Nat × mm_v)} {S : List mm_v} {h : mm_h} {k : Nat × Nat} {N : mm_s → Prop} : mm_f ck_T5.1 ck_dt ini pc (.getfield 17, 3) L (.inr (.inr (.inl (some i))) :: S) h k N = (i < h.1 ∧ (∃ n, h.2.1 i = .inl (4, n)) ∧ N (pc + 3, L, mm_A (h.2.2.2 i 2) :: S, h, k)) := mm_getf (q := (17, 4, 2, (.array .int), true)) (tl := ck_tl4) (t := (.array .int)) rfl rfl rfl
theorem gf5_21 {ini : Bool} {pc i : Nat} {L : List (Nat × mm_v)} {S : List mm_v} {h : mm_h} {k : Nat × Nat} {N : mm_s → Prop} : mm_f ck_T5.1 ck_dt ini pc (.getfield 21, 3) L (.inr (.inr (.inl (some i))) :: S) h k N = (i < h.1 ∧ (∃ n, h.2.1 i = .inl (4, n)) ∧ N (pc + 3, L, mm_A (h.2.2.2 i 0) :: S, h, k)) := mm_getf (q := (21, 4, 0, (.object "ScratchLadder$Bench"), true)) (tl := ck_tl4) (t := (.object "ScratchLadder$Bench")) rfl rfl rfl
theorem gf5_25 {ini : Bool} {pc i : Nat} {L : List (Nat × mm_v)} {S : List mm_v} {h : mm_h} {k : Nat × Nat} {N : mm_s → Prop} : mm_f ck_T5.1 ck_dt ini pc (.getfield 25, 3) L (.inr (.inr (.inl (some i))) :: S) h k N = (i < h.1 ∧ (∃ n, h.2.1 i = .inl (0, n)) ∧ N (pc + 3, L, mm_A (h.2.2.2 i 4) :: S, h, k)) := mm_getf (q := (25, 0, 4, .char, true)) (tl := ck_tl0) (t := (.array .int)) rfl rfl rfl
theorem gf5_30 {ini : Bool} {pc i : Nat} {L : List (Nat × mm_v)} {S : List mm_v} {h : mm_h} {k : Nat × Nat} {N : mm_s → Prop} : mm_f ck_T5.1 ck_dt ini pc (.getfield 30, 3) L (.inr (.inr (.inl (some i))) :: S) h k N = (i < h.1 ∧ (∃ n, h.2.1 i = .inl (0, n)) ∧ N (pc + 3, L, mm_A (h.2.2.2 i 5) :: S, h, k)) := mm_getf (q := (30, 0, 5, .char, true)) (tl := ck_tl0) (t := (.array .int)) rfl rfl rfl
theorem gf5_74 {ini : Bool} {pc i : Nat} {L : List (Nat × mm_v)} {S : List mm_v} {h : mm_h} {k : Nat × Nat} {N : mm_s → Prop} : mm_f ck_T5.1 ck_dt ini pc (.getfield 74, 3) L (.inr (.inr (.inl (some i))) :: S) h k N = (i < h.1 ∧ (∃ n, h.2.1 i = .inl (9, n)) ∧ N (pc + 3, L, mm_A (h.2.2.2 i 1) :: S, h, k)) := mm_getf (q := (74, 9, 1, .char, true)) (tl := ck_tl9) (t := (.array .int)) rfl rfl rfl
theorem ml5_3 : ck_T5.2.2.2.2.2.2.2.find? (fun q => q.1 == 3) = some (3, 7, 0) := by decide
theorem ml5_33 : ck_T5.2.2.2.2.2.2.2.find? (fun q => q.1 == 33) = some (33, 1, 21) := by decide
theorem ml5_37 : ck_T5.2.2.2.2.2.2.2.find? (fun q => q.1 == 37) = some (37, 0, 63) := by decide
theorem ml5_41 : ck_T5.2.2.2.2.2.2.2.find? (fun q => q.1 == 41) = some (41, 0, 64) := by decide
theorem ml5_45 : ck_T5.2.2.2.2.2.2.2.find? (fun q => q.1 == 45) = some (45, 0, 62) := by decide
theorem ml5_49 : ck_T5.2.2.2.2.2.2.2.find? (fun q => q.1 == 49) = some (49, 0, 149) := by decide
theorem ml5_52 : ck_T5.2.2.2.2.2.2.2.find? (fun q => q.1 == 52) = some (52, 1, 103) := by decide
theorem ml5_58 : ck_T5.2.2.2.2.2.2.2.find? (fun q => q.1 == 58) = some (58, 0, 65) := by decide
theorem ml5_62 : ck_T5.2.2.2.2.2.2.2.find? (fun q => q.1 == 62) = some (62, 0, 66) := by decide
theorem ml5_66 : ck_T5.2.2.2.2.2.2.2.find? (fun q => q.1 == 66) = some (66, 0, 67) := by decide
theorem ml5_70 : ck_T5.2.2.2.2.2.2.2.find? (fun q => q.1 == 70) = some (70, 0, 68) := by decide
theorem ml5_77 : ck_T5.2.2.2.2.2.2.2.find? (fun q => q.1 == 77) = some (77, 0, 69) := by decide
theorem ml5_85 : ck_T5.2.2.2.2.2.2.2.find? (fun q => q.1 == 85) = some (85, 10, 0) := by decide
theorem ml5_91 : ck_T5.2.2.2.2.2.2.2.find? (fun q => q.1 == 91) = some (91, 11, 0) := by decide
theorem ml5_94 : ck_T5.2.2.2.2.2.2.2.find? (fun q => q.1 == 94) = some (94, 9, 0) := by decide
theorem ml5_96 : ck_T5.2.2.2.2.2.2.2.find? (fun q => q.1 == 96) = some (96, 4, 14) := by decide
theorem ml5_100 : ck_T5.2.2.2.2.2.2.2.find? (fun q => q.1 == 100) = some (100, 1, 70) := by decide

theorem dd_X_within_0 : decode prog_1_method_51_code 0 = .ok (.iload_n 0, 1) := by decide +kernel
theorem dd_X_within_1 : decode prog_1_method_51_code 1 = .ok (.iload_n 1, 1) := by decide +kernel
theorem dd_X_within_2 : decode prog_1_method_51_code 2 = .ok (.if_icmp .lt 12, 3) := by decide +kernel
theorem dd_X_within_5 : decode prog_1_method_51_code 5 = .ok (.iload_n 0, 1) := by decide +kernel
theorem dd_X_within_6 : decode prog_1_method_51_code 6 = .ok (.iload_n 2, 1) := by decide +kernel
theorem dd_X_within_7 : decode prog_1_method_51_code 7 = .ok (.if_icmp .gt 7, 3) := by decide +kernel
theorem dd_X_within_10 : decode prog_1_method_51_code 10 = .ok (.iconst 1, 1) := by decide +kernel
theorem dd_X_within_11 : decode prog_1_method_51_code 11 = .ok (.goto 4, 3) := by decide +kernel
theorem dd_X_within_14 : decode prog_1_method_51_code 14 = .ok (.iconst 0, 1) := by decide +kernel
theorem dd_X_within_15 : decode prog_1_method_51_code 15 = .ok (.ireturn, 1) := by decide +kernel
theorem dd_Bench_lawText_0 : decode prog_2_method_10_code 0 = .ok (.aload_n 0, 1) := by decide +kernel
theorem dd_Bench_lawText_1 : decode prog_2_method_10_code 1 = .ok (.getfield 43, 3) := by decide +kernel
theorem dd_Bench_lawText_4 : decode prog_2_method_10_code 4 = .ok (.iconst 0, 1) := by decide +kernel
theorem dd_Bench_lawText_5 : decode prog_2_method_10_code 5 = .ok (.aload_n 0, 1) := by decide +kernel
theorem dd_Bench_lawText_6 : decode prog_2_method_10_code 6 = .ok (.getfield 46, 3) := by decide +kernel
theorem dd_Bench_lawText_9 : decode prog_2_method_10_code 9 = .ok (.iconst 1, 1) := by decide +kernel
theorem dd_Bench_lawText_10 : decode prog_2_method_10_code 10 = .ok (.isub, 1) := by decide +kernel
theorem dd_Bench_lawText_11 : decode prog_2_method_10_code 11 = .ok (.invokestatic 92, 3) := by decide +kernel
theorem dd_Bench_lawText_14 : decode prog_2_method_10_code 14 = .ok (.ifCond .eq 15, 3) := by decide +kernel
theorem dd_Bench_lawText_17 : decode prog_2_method_10_code 17 = .ok (.aload_n 0, 1) := by decide +kernel
theorem dd_Bench_lawText_18 : decode prog_2_method_10_code 18 = .ok (.getfield 51, 3) := by decide +kernel
theorem dd_Bench_lawText_21 : decode prog_2_method_10_code 21 = .ok (.aload_n 0, 1) := by decide +kernel
theorem dd_Bench_lawText_22 : decode prog_2_method_10_code 22 = .ok (.getfield 43, 3) := by decide +kernel
theorem dd_Bench_lawText_25 : decode prog_2_method_10_code 25 = .ok (.aaload, 1) := by decide +kernel
theorem dd_Bench_lawText_26 : decode prog_2_method_10_code 26 = .ok (.goto 4, 3) := by decide +kernel
theorem dd_Bench_lawText_29 : decode prog_2_method_10_code 29 = .ok (.aconst_null, 1) := by decide +kernel
theorem dd_Bench_lawText_30 : decode prog_2_method_10_code 30 = .ok (.astore_n 1, 1) := by decide +kernel
theorem dd_Bench_lawText_31 : decode prog_2_method_10_code 31 = .ok (.aload_n 1, 1) := by decide +kernel
theorem dd_Bench_lawText_32 : decode prog_2_method_10_code 32 = .ok (.ifnonnull 10, 3) := by decide +kernel
theorem dd_Bench_lawText_35 : decode prog_2_method_10_code 35 = .ok (.aload_n 0, 1) := by decide +kernel
theorem dd_Bench_lawText_36 : decode prog_2_method_10_code 36 = .ok (.getfield 58, 3) := by decide +kernel
theorem dd_Bench_lawText_39 : decode prog_2_method_10_code 39 = .ok (.goto 4, 3) := by decide +kernel
theorem dd_Bench_lawText_42 : decode prog_2_method_10_code 42 = .ok (.aload_n 1, 1) := by decide +kernel
theorem dd_Bench_lawText_43 : decode prog_2_method_10_code 43 = .ok (.areturn, 1) := by decide +kernel
theorem dd_Question_join_0 : decode prog_6_method_11_code 0 = .ok (.iload_n 0, 1) := by decide +kernel
theorem dd_Question_join_1 : decode prog_6_method_11_code 1 = .ok (.tableswitch 107 2 8 #[43, 47, 51, 55, 71, 83, 95], 43) := by decide +kernel
theorem dd_Question_join_44 : decode prog_6_method_11_code 44 = .ok (.lload_n 1, 1) := by decide +kernel
theorem dd_Question_join_45 : decode prog_6_method_11_code 45 = .ok (.lload_n 3, 1) := by decide +kernel
theorem dd_Question_join_46 : decode prog_6_method_11_code 46 = .ok (.ladd, 1) := by decide +kernel
theorem dd_Question_join_47 : decode prog_6_method_11_code 47 = .ok (.lreturn, 1) := by decide +kernel
theorem dd_Question_join_48 : decode prog_6_method_11_code 48 = .ok (.lload_n 1, 1) := by decide +kernel
theorem dd_Question_join_49 : decode prog_6_method_11_code 49 = .ok (.lload_n 3, 1) := by decide +kernel
theorem dd_Question_join_50 : decode prog_6_method_11_code 50 = .ok (.lsub, 1) := by decide +kernel
theorem dd_Question_join_51 : decode prog_6_method_11_code 51 = .ok (.lreturn, 1) := by decide +kernel
theorem dd_Question_join_52 : decode prog_6_method_11_code 52 = .ok (.lload_n 1, 1) := by decide +kernel
theorem dd_Question_join_53 : decode prog_6_method_11_code 53 = .ok (.lload_n 3, 1) := by decide +kernel
theorem dd_Question_join_54 : decode prog_6_method_11_code 54 = .ok (.lmul, 1) := by decide +kernel
theorem dd_Question_join_55 : decode prog_6_method_11_code 55 = .ok (.lreturn, 1) := by decide +kernel
theorem dd_Question_join_56 : decode prog_6_method_11_code 56 = .ok (.lload_n 3, 1) := by decide +kernel
theorem dd_Question_join_57 : decode prog_6_method_11_code 57 = .ok (.lconst 0, 1) := by decide +kernel
theorem dd_Question_join_58 : decode prog_6_method_11_code 58 = .ok (.lcmp, 1) := by decide +kernel
theorem dd_Question_join_59 : decode prog_6_method_11_code 59 = .ok (.ifCond .ne 9, 3) := by decide +kernel
theorem dd_Question_join_62 : decode prog_6_method_11_code 62 = .ok (.ldc2_w 81, 3) := by decide +kernel
theorem dd_Question_join_65 : decode prog_6_method_11_code 65 = .ok (.goto 6, 3) := by decide +kernel
theorem dd_Question_join_68 : decode prog_6_method_11_code 68 = .ok (.lload_n 1, 1) := by decide +kernel
theorem dd_Question_join_69 : decode prog_6_method_11_code 69 = .ok (.lload_n 3, 1) := by decide +kernel
theorem dd_Question_join_70 : decode prog_6_method_11_code 70 = .ok (.ldiv, 1) := by decide +kernel
theorem dd_Question_join_71 : decode prog_6_method_11_code 71 = .ok (.lreturn, 1) := by decide +kernel
theorem dd_Question_join_72 : decode prog_6_method_11_code 72 = .ok (.lload_n 1, 1) := by decide +kernel
theorem dd_Question_join_73 : decode prog_6_method_11_code 73 = .ok (.lload_n 3, 1) := by decide +kernel
theorem dd_Question_join_74 : decode prog_6_method_11_code 74 = .ok (.lcmp, 1) := by decide +kernel
theorem dd_Question_join_75 : decode prog_6_method_11_code 75 = .ok (.ifCond .ge 7, 3) := by decide +kernel
theorem dd_Question_join_78 : decode prog_6_method_11_code 78 = .ok (.lconst 1, 1) := by decide +kernel
theorem dd_Question_join_79 : decode prog_6_method_11_code 79 = .ok (.goto 4, 3) := by decide +kernel
theorem dd_Question_join_82 : decode prog_6_method_11_code 82 = .ok (.lconst 0, 1) := by decide +kernel
theorem dd_Question_join_83 : decode prog_6_method_11_code 83 = .ok (.lreturn, 1) := by decide +kernel
theorem dd_Question_join_84 : decode prog_6_method_11_code 84 = .ok (.lload_n 1, 1) := by decide +kernel
theorem dd_Question_join_85 : decode prog_6_method_11_code 85 = .ok (.lload_n 3, 1) := by decide +kernel
theorem dd_Question_join_86 : decode prog_6_method_11_code 86 = .ok (.lcmp, 1) := by decide +kernel
theorem dd_Question_join_87 : decode prog_6_method_11_code 87 = .ok (.ifCond .le 7, 3) := by decide +kernel
theorem dd_Question_join_90 : decode prog_6_method_11_code 90 = .ok (.lconst 1, 1) := by decide +kernel
theorem dd_Question_join_91 : decode prog_6_method_11_code 91 = .ok (.goto 4, 3) := by decide +kernel
theorem dd_Question_join_94 : decode prog_6_method_11_code 94 = .ok (.lconst 0, 1) := by decide +kernel
theorem dd_Question_join_95 : decode prog_6_method_11_code 95 = .ok (.lreturn, 1) := by decide +kernel
theorem dd_Question_join_96 : decode prog_6_method_11_code 96 = .ok (.lload_n 1, 1) := by decide +kernel
theorem dd_Question_join_97 : decode prog_6_method_11_code 97 = .ok (.lload_n 3, 1) := by decide +kernel
theorem dd_Question_join_98 : decode prog_6_method_11_code 98 = .ok (.lcmp, 1) := by decide +kernel
theorem dd_Question_join_99 : decode prog_6_method_11_code 99 = .ok (.ifCond .ne 7, 3) := by decide +kernel
theorem dd_Question_join_102 : decode prog_6_method_11_code 102 = .ok (.lconst 1, 1) := by decide +kernel
theorem dd_Question_join_103 : decode prog_6_method_11_code 103 = .ok (.goto 4, 3) := by decide +kernel
theorem dd_Question_join_106 : decode prog_6_method_11_code 106 = .ok (.lconst 0, 1) := by decide +kernel
theorem dd_Question_join_107 : decode prog_6_method_11_code 107 = .ok (.lreturn, 1) := by decide +kernel
theorem dd_Question_join_108 : decode prog_6_method_11_code 108 = .ok (.ldc2_w 81, 3) := by decide +kernel
theorem dd_Question_join_111 : decode prog_6_method_11_code 111 = .ok (.lreturn, 1) := by decide +kernel
theorem dd_Question_worked_0 : decode prog_6_method_10_code 0 = .ok (.iconst 0, 1) := by decide +kernel
theorem dd_Question_worked_1 : decode prog_6_method_10_code 1 = .ok (.istore 4, 2) := by decide +kernel
theorem dd_Question_worked_3 : decode prog_6_method_10_code 3 = .ok (.iconst 0, 1) := by decide +kernel
theorem dd_Question_worked_4 : decode prog_6_method_10_code 4 = .ok (.iload_n 2, 1) := by decide +kernel
theorem dd_Question_worked_5 : decode prog_6_method_10_code 5 = .ok (.invokestatic 94, 3) := by decide +kernel
theorem dd_Question_worked_8 : decode prog_6_method_10_code 8 = .ok (.istore 5, 2) := by decide +kernel
theorem dd_Question_worked_10 : decode prog_6_method_10_code 10 = .ok (.iload 5, 2) := by decide +kernel
theorem dd_Question_worked_12 : decode prog_6_method_10_code 12 = .ok (.iload_n 3, 1) := by decide +kernel
theorem dd_Question_worked_13 : decode prog_6_method_10_code 13 = .ok (.if_icmp .ge 297, 3) := by decide +kernel
theorem dd_Question_worked_16 : decode prog_6_method_10_code 16 = .ok (.iconst 2, 1) := by decide +kernel
theorem dd_Question_worked_17 : decode prog_6_method_10_code 17 = .ok (.iload 5, 2) := by decide +kernel
theorem dd_Question_worked_19 : decode prog_6_method_10_code 19 = .ok (.imul, 1) := by decide +kernel
theorem dd_Question_worked_20 : decode prog_6_method_10_code 20 = .ok (.iconst 1, 1) := by decide +kernel
theorem dd_Question_worked_21 : decode prog_6_method_10_code 21 = .ok (.iadd, 1) := by decide +kernel
theorem dd_Question_worked_22 : decode prog_6_method_10_code 22 = .ok (.aload_n 1, 1) := by decide +kernel
theorem dd_Question_worked_23 : decode prog_6_method_10_code 23 = .ok (.arraylength, 1) := by decide +kernel
theorem dd_Question_worked_24 : decode prog_6_method_10_code 24 = .ok (.if_icmp .ge 286, 3) := by decide +kernel
theorem dd_Question_worked_27 : decode prog_6_method_10_code 27 = .ok (.aload_n 1, 1) := by decide +kernel
theorem dd_Question_worked_28 : decode prog_6_method_10_code 28 = .ok (.iconst 2, 1) := by decide +kernel
theorem dd_Question_worked_29 : decode prog_6_method_10_code 29 = .ok (.iload 5, 2) := by decide +kernel
theorem dd_Question_worked_31 : decode prog_6_method_10_code 31 = .ok (.imul, 1) := by decide +kernel
theorem dd_Question_worked_32 : decode prog_6_method_10_code 32 = .ok (.iaload, 1) := by decide +kernel
theorem dd_Question_worked_33 : decode prog_6_method_10_code 33 = .ok (.istore 6, 2) := by decide +kernel
theorem dd_Question_worked_35 : decode prog_6_method_10_code 35 = .ok (.aload_n 1, 1) := by decide +kernel
theorem dd_Question_worked_36 : decode prog_6_method_10_code 36 = .ok (.iconst 2, 1) := by decide +kernel
theorem dd_Question_worked_37 : decode prog_6_method_10_code 37 = .ok (.iload 5, 2) := by decide +kernel
theorem dd_Question_worked_39 : decode prog_6_method_10_code 39 = .ok (.imul, 1) := by decide +kernel
theorem dd_Question_worked_40 : decode prog_6_method_10_code 40 = .ok (.iconst 1, 1) := by decide +kernel
theorem dd_Question_worked_41 : decode prog_6_method_10_code 41 = .ok (.iadd, 1) := by decide +kernel
theorem dd_Question_worked_42 : decode prog_6_method_10_code 42 = .ok (.iaload, 1) := by decide +kernel
theorem dd_Question_worked_43 : decode prog_6_method_10_code 43 = .ok (.istore 7, 2) := by decide +kernel
theorem dd_Question_worked_45 : decode prog_6_method_10_code 45 = .ok (.iload 6, 2) := by decide +kernel
theorem dd_Question_worked_47 : decode prog_6_method_10_code 47 = .ok (.ifCond .eq 9, 3) := by decide +kernel
theorem dd_Question_worked_50 : decode prog_6_method_10_code 50 = .ok (.iload 6, 2) := by decide +kernel
theorem dd_Question_worked_52 : decode prog_6_method_10_code 52 = .ok (.iconst 1, 1) := by decide +kernel
theorem dd_Question_worked_53 : decode prog_6_method_10_code 53 = .ok (.if_icmp .ne 72, 3) := by decide +kernel
theorem dd_Question_worked_56 : decode prog_6_method_10_code 56 = .ok (.iload 4, 2) := by decide +kernel
theorem dd_Question_worked_58 : decode prog_6_method_10_code 58 = .ok (.aload_n 0, 1) := by decide +kernel
theorem dd_Question_worked_59 : decode prog_6_method_10_code 59 = .ok (.getfield 9, 3) := by decide +kernel
theorem dd_Question_worked_62 : decode prog_6_method_10_code 62 = .ok (.arraylength, 1) := by decide +kernel
theorem dd_Question_worked_63 : decode prog_6_method_10_code 63 = .ok (.if_icmp .ge 25, 3) := by decide +kernel
theorem dd_Question_worked_66 : decode prog_6_method_10_code 66 = .ok (.iload 6, 2) := by decide +kernel
theorem dd_Question_worked_68 : decode prog_6_method_10_code 68 = .ok (.iconst 1, 1) := by decide +kernel
theorem dd_Question_worked_69 : decode prog_6_method_10_code 69 = .ok (.if_icmp .ne 23, 3) := by decide +kernel
theorem dd_Question_worked_72 : decode prog_6_method_10_code 72 = .ok (.iload 7, 2) := by decide +kernel
theorem dd_Question_worked_74 : decode prog_6_method_10_code 74 = .ok (.iconst 0, 1) := by decide +kernel
theorem dd_Question_worked_75 : decode prog_6_method_10_code 75 = .ok (.aload_n 0, 1) := by decide +kernel
theorem dd_Question_worked_76 : decode prog_6_method_10_code 76 = .ok (.getfield 17, 3) := by decide +kernel
theorem dd_Question_worked_79 : decode prog_6_method_10_code 79 = .ok (.arraylength, 1) := by decide +kernel
theorem dd_Question_worked_80 : decode prog_6_method_10_code 80 = .ok (.iconst 1, 1) := by decide +kernel
theorem dd_Question_worked_81 : decode prog_6_method_10_code 81 = .ok (.isub, 1) := by decide +kernel
theorem dd_Question_worked_82 : decode prog_6_method_10_code 82 = .ok (.invokestatic 96, 3) := by decide +kernel
theorem dd_Question_worked_85 : decode prog_6_method_10_code 85 = .ok (.ifCond .ne 7, 3) := by decide +kernel
theorem dd_Question_worked_88 : decode prog_6_method_10_code 88 = .ok (.ldc2_w 81, 3) := by decide +kernel
theorem dd_Question_worked_91 : decode prog_6_method_10_code 91 = .ok (.lreturn, 1) := by decide +kernel
theorem dd_Question_worked_92 : decode prog_6_method_10_code 92 = .ok (.aload_n 0, 1) := by decide +kernel
theorem dd_Question_worked_93 : decode prog_6_method_10_code 93 = .ok (.getfield 9, 3) := by decide +kernel
theorem dd_Question_worked_96 : decode prog_6_method_10_code 96 = .ok (.iload 4, 2) := by decide +kernel
theorem dd_Question_worked_98 : decode prog_6_method_10_code 98 = .ok (.iload 6, 2) := by decide +kernel
theorem dd_Question_worked_100 : decode prog_6_method_10_code 100 = .ok (.iconst 1, 1) := by decide +kernel
theorem dd_Question_worked_101 : decode prog_6_method_10_code 101 = .ok (.if_icmp .ne 14, 3) := by decide +kernel
theorem dd_Question_worked_104 : decode prog_6_method_10_code 104 = .ok (.aload_n 0, 1) := by decide +kernel
theorem dd_Question_worked_105 : decode prog_6_method_10_code 105 = .ok (.getfield 17, 3) := by decide +kernel
theorem dd_Question_worked_108 : decode prog_6_method_10_code 108 = .ok (.iload 7, 2) := by decide +kernel
theorem dd_Question_worked_110 : decode prog_6_method_10_code 110 = .ok (.iaload, 1) := by decide +kernel
theorem dd_Question_worked_111 : decode prog_6_method_10_code 111 = .ok (.i2l, 1) := by decide +kernel
theorem dd_Question_worked_112 : decode prog_6_method_10_code 112 = .ok (.goto 6, 3) := by decide +kernel
theorem dd_Question_worked_115 : decode prog_6_method_10_code 115 = .ok (.iload 7, 2) := by decide +kernel
theorem dd_Question_worked_117 : decode prog_6_method_10_code 117 = .ok (.i2l, 1) := by decide +kernel
theorem dd_Question_worked_118 : decode prog_6_method_10_code 118 = .ok (.lastore, 1) := by decide +kernel
theorem dd_Question_worked_119 : decode prog_6_method_10_code 119 = .ok (.iinc 4 1, 3) := by decide +kernel
theorem dd_Question_worked_122 : decode prog_6_method_10_code 122 = .ok (.goto 182, 3) := by decide +kernel
theorem dd_Question_worked_125 : decode prog_6_method_10_code 125 = .ok (.iload 4, 2) := by decide +kernel
theorem dd_Question_worked_127 : decode prog_6_method_10_code 127 = .ok (.iconst 1, 1) := by decide +kernel
theorem dd_Question_worked_128 : decode prog_6_method_10_code 128 = .ok (.if_icmp .ge 7, 3) := by decide +kernel
theorem dd_Question_worked_131 : decode prog_6_method_10_code 131 = .ok (.ldc2_w 81, 3) := by decide +kernel
theorem dd_Question_worked_134 : decode prog_6_method_10_code 134 = .ok (.lreturn, 1) := by decide +kernel
theorem dd_Question_worked_135 : decode prog_6_method_10_code 135 = .ok (.iload 6, 2) := by decide +kernel
theorem dd_Question_worked_137 : decode prog_6_method_10_code 137 = .ok (.bipush 9, 2) := by decide +kernel
theorem dd_Question_worked_139 : decode prog_6_method_10_code 139 = .ok (.if_icmp .ne 26, 3) := by decide +kernel
theorem dd_Question_worked_142 : decode prog_6_method_10_code 142 = .ok (.aload_n 0, 1) := by decide +kernel
theorem dd_Question_worked_143 : decode prog_6_method_10_code 143 = .ok (.getfield 9, 3) := by decide +kernel
theorem dd_Question_worked_146 : decode prog_6_method_10_code 146 = .ok (.iload 4, 2) := by decide +kernel
theorem dd_Question_worked_148 : decode prog_6_method_10_code 148 = .ok (.iconst 1, 1) := by decide +kernel
theorem dd_Question_worked_149 : decode prog_6_method_10_code 149 = .ok (.isub, 1) := by decide +kernel
theorem dd_Question_worked_150 : decode prog_6_method_10_code 150 = .ok (.lconst 1, 1) := by decide +kernel
theorem dd_Question_worked_151 : decode prog_6_method_10_code 151 = .ok (.aload_n 0, 1) := by decide +kernel
theorem dd_Question_worked_152 : decode prog_6_method_10_code 152 = .ok (.getfield 9, 3) := by decide +kernel
theorem dd_Question_worked_155 : decode prog_6_method_10_code 155 = .ok (.iload 4, 2) := by decide +kernel
theorem dd_Question_worked_157 : decode prog_6_method_10_code 157 = .ok (.iconst 1, 1) := by decide +kernel
theorem dd_Question_worked_158 : decode prog_6_method_10_code 158 = .ok (.isub, 1) := by decide +kernel
theorem dd_Question_worked_159 : decode prog_6_method_10_code 159 = .ok (.laload, 1) := by decide +kernel
theorem dd_Question_worked_160 : decode prog_6_method_10_code 160 = .ok (.lsub, 1) := by decide +kernel
theorem dd_Question_worked_161 : decode prog_6_method_10_code 161 = .ok (.lastore, 1) := by decide +kernel
theorem dd_Question_worked_162 : decode prog_6_method_10_code 162 = .ok (.goto 142, 3) := by decide +kernel
theorem dd_Question_worked_165 : decode prog_6_method_10_code 165 = .ok (.iload 6, 2) := by decide +kernel
theorem dd_Question_worked_167 : decode prog_6_method_10_code 167 = .ok (.bipush 10, 2) := by decide +kernel
theorem dd_Question_worked_169 : decode prog_6_method_10_code 169 = .ok (.if_icmp .eq 10, 3) := by decide +kernel
theorem dd_Question_worked_172 : decode prog_6_method_10_code 172 = .ok (.iload 6, 2) := by decide +kernel
theorem dd_Question_worked_174 : decode prog_6_method_10_code 174 = .ok (.bipush 11, 2) := by decide +kernel
theorem dd_Question_worked_176 : decode prog_6_method_10_code 176 = .ok (.if_icmp .ne 57, 3) := by decide +kernel
theorem dd_Question_worked_179 : decode prog_6_method_10_code 179 = .ok (.aload_n 0, 1) := by decide +kernel
theorem dd_Question_worked_180 : decode prog_6_method_10_code 180 = .ok (.getfield 9, 3) := by decide +kernel
theorem dd_Question_worked_183 : decode prog_6_method_10_code 183 = .ok (.iload 4, 2) := by decide +kernel
theorem dd_Question_worked_185 : decode prog_6_method_10_code 185 = .ok (.iconst 1, 1) := by decide +kernel
theorem dd_Question_worked_186 : decode prog_6_method_10_code 186 = .ok (.isub, 1) := by decide +kernel
theorem dd_Question_worked_187 : decode prog_6_method_10_code 187 = .ok (.laload, 1) := by decide +kernel
theorem dd_Question_worked_188 : decode prog_6_method_10_code 188 = .ok (.lconst 1, 1) := by decide +kernel
theorem dd_Question_worked_189 : decode prog_6_method_10_code 189 = .ok (.lcmp, 1) := by decide +kernel
theorem dd_Question_worked_190 : decode prog_6_method_10_code 190 = .ok (.ifCond .ne 7, 3) := by decide +kernel
theorem dd_Question_worked_193 : decode prog_6_method_10_code 193 = .ok (.iconst 1, 1) := by decide +kernel
theorem dd_Question_worked_194 : decode prog_6_method_10_code 194 = .ok (.goto 4, 3) := by decide +kernel
theorem dd_Question_worked_197 : decode prog_6_method_10_code 197 = .ok (.iconst 0, 1) := by decide +kernel
theorem dd_Question_worked_198 : decode prog_6_method_10_code 198 = .ok (.iload 6, 2) := by decide +kernel
theorem dd_Question_worked_200 : decode prog_6_method_10_code 200 = .ok (.bipush 10, 2) := by decide +kernel
theorem dd_Question_worked_202 : decode prog_6_method_10_code 202 = .ok (.if_icmp .ne 7, 3) := by decide +kernel
theorem dd_Question_worked_205 : decode prog_6_method_10_code 205 = .ok (.iconst 1, 1) := by decide +kernel
theorem dd_Question_worked_206 : decode prog_6_method_10_code 206 = .ok (.goto 4, 3) := by decide +kernel
theorem dd_Question_worked_209 : decode prog_6_method_10_code 209 = .ok (.iconst 0, 1) := by decide +kernel
theorem dd_Question_worked_210 : decode prog_6_method_10_code 210 = .ok (.if_icmp .ne 17, 3) := by decide +kernel
theorem dd_Question_worked_213 : decode prog_6_method_10_code 213 = .ok (.iload 5, 2) := by decide +kernel
theorem dd_Question_worked_215 : decode prog_6_method_10_code 215 = .ok (.iconst 0, 1) := by decide +kernel
theorem dd_Question_worked_216 : decode prog_6_method_10_code 216 = .ok (.iload 7, 2) := by decide +kernel
theorem dd_Question_worked_218 : decode prog_6_method_10_code 218 = .ok (.invokestatic 94, 3) := by decide +kernel
theorem dd_Question_worked_221 : decode prog_6_method_10_code 221 = .ok (.iadd, 1) := by decide +kernel
theorem dd_Question_worked_222 : decode prog_6_method_10_code 222 = .ok (.istore 5, 2) := by decide +kernel
theorem dd_Question_worked_224 : decode prog_6_method_10_code 224 = .ok (.goto 80, 3) := by decide +kernel
theorem dd_Question_worked_227 : decode prog_6_method_10_code 227 = .ok (.iinc 4 (-1), 3) := by decide +kernel
theorem dd_Question_worked_230 : decode prog_6_method_10_code 230 = .ok (.goto 74, 3) := by decide +kernel
theorem dd_Question_worked_233 : decode prog_6_method_10_code 233 = .ok (.iinc 4 (-1), 3) := by decide +kernel
theorem dd_Question_worked_236 : decode prog_6_method_10_code 236 = .ok (.iload 4, 2) := by decide +kernel
theorem dd_Question_worked_238 : decode prog_6_method_10_code 238 = .ok (.iconst 1, 1) := by decide +kernel
theorem dd_Question_worked_239 : decode prog_6_method_10_code 239 = .ok (.if_icmp .ge 9, 3) := by decide +kernel
theorem dd_Question_worked_242 : decode prog_6_method_10_code 242 = .ok (.ldc2_w 81, 3) := by decide +kernel
theorem dd_Question_worked_245 : decode prog_6_method_10_code 245 = .ok (.goto 24, 3) := by decide +kernel
theorem dd_Question_worked_248 : decode prog_6_method_10_code 248 = .ok (.iload 6, 2) := by decide +kernel
theorem dd_Question_worked_250 : decode prog_6_method_10_code 250 = .ok (.aload_n 0, 1) := by decide +kernel
theorem dd_Question_worked_251 : decode prog_6_method_10_code 251 = .ok (.getfield 9, 3) := by decide +kernel
theorem dd_Question_worked_254 : decode prog_6_method_10_code 254 = .ok (.iload 4, 2) := by decide +kernel
theorem dd_Question_worked_256 : decode prog_6_method_10_code 256 = .ok (.iconst 1, 1) := by decide +kernel
theorem dd_Question_worked_257 : decode prog_6_method_10_code 257 = .ok (.isub, 1) := by decide +kernel
theorem dd_Question_worked_258 : decode prog_6_method_10_code 258 = .ok (.laload, 1) := by decide +kernel
theorem dd_Question_worked_259 : decode prog_6_method_10_code 259 = .ok (.aload_n 0, 1) := by decide +kernel
theorem dd_Question_worked_260 : decode prog_6_method_10_code 260 = .ok (.getfield 9, 3) := by decide +kernel
theorem dd_Question_worked_263 : decode prog_6_method_10_code 263 = .ok (.iload 4, 2) := by decide +kernel
theorem dd_Question_worked_265 : decode prog_6_method_10_code 265 = .ok (.laload, 1) := by decide +kernel
theorem dd_Question_worked_266 : decode prog_6_method_10_code 266 = .ok (.invokestatic 100, 3) := by decide +kernel
theorem dd_Question_worked_269 : decode prog_6_method_10_code 269 = .ok (.lstore 8, 2) := by decide +kernel
theorem dd_Question_worked_271 : decode prog_6_method_10_code 271 = .ok (.lload 8, 2) := by decide +kernel
theorem dd_Question_worked_273 : decode prog_6_method_10_code 273 = .ok (.ldc2_w 104, 3) := by decide +kernel
theorem dd_Question_worked_276 : decode prog_6_method_10_code 276 = .ok (.lcmp, 1) := by decide +kernel
theorem dd_Question_worked_277 : decode prog_6_method_10_code 277 = .ok (.ifCond .gt 12, 3) := by decide +kernel
theorem dd_Question_worked_280 : decode prog_6_method_10_code 280 = .ok (.lload 8, 2) := by decide +kernel
theorem dd_Question_worked_282 : decode prog_6_method_10_code 282 = .ok (.ldc2_w 106, 3) := by decide +kernel
theorem dd_Question_worked_285 : decode prog_6_method_10_code 285 = .ok (.lcmp, 1) := by decide +kernel
theorem dd_Question_worked_286 : decode prog_6_method_10_code 286 = .ok (.ifCond .ge 7, 3) := by decide +kernel
theorem dd_Question_worked_289 : decode prog_6_method_10_code 289 = .ok (.ldc2_w 81, 3) := by decide +kernel
theorem dd_Question_worked_292 : decode prog_6_method_10_code 292 = .ok (.lreturn, 1) := by decide +kernel
theorem dd_Question_worked_293 : decode prog_6_method_10_code 293 = .ok (.aload_n 0, 1) := by decide +kernel
theorem dd_Question_worked_294 : decode prog_6_method_10_code 294 = .ok (.getfield 9, 3) := by decide +kernel
theorem dd_Question_worked_297 : decode prog_6_method_10_code 297 = .ok (.iload 4, 2) := by decide +kernel
theorem dd_Question_worked_299 : decode prog_6_method_10_code 299 = .ok (.iconst 1, 1) := by decide +kernel
theorem dd_Question_worked_300 : decode prog_6_method_10_code 300 = .ok (.isub, 1) := by decide +kernel
theorem dd_Question_worked_301 : decode prog_6_method_10_code 301 = .ok (.lload 8, 2) := by decide +kernel
theorem dd_Question_worked_303 : decode prog_6_method_10_code 303 = .ok (.lastore, 1) := by decide +kernel
theorem dd_Question_worked_304 : decode prog_6_method_10_code 304 = .ok (.iinc 5 1, 3) := by decide +kernel
theorem dd_Question_worked_307 : decode prog_6_method_10_code 307 = .ok (.goto (-297), 3) := by decide +kernel
theorem dd_Question_worked_310 : decode prog_6_method_10_code 310 = .ok (.iload 4, 2) := by decide +kernel
theorem dd_Question_worked_312 : decode prog_6_method_10_code 312 = .ok (.iconst 1, 1) := by decide +kernel
theorem dd_Question_worked_313 : decode prog_6_method_10_code 313 = .ok (.if_icmp .ne 12, 3) := by decide +kernel
theorem dd_Question_worked_316 : decode prog_6_method_10_code 316 = .ok (.aload_n 0, 1) := by decide +kernel
theorem dd_Question_worked_317 : decode prog_6_method_10_code 317 = .ok (.getfield 9, 3) := by decide +kernel
theorem dd_Question_worked_320 : decode prog_6_method_10_code 320 = .ok (.iconst 0, 1) := by decide +kernel
theorem dd_Question_worked_321 : decode prog_6_method_10_code 321 = .ok (.laload, 1) := by decide +kernel
theorem dd_Question_worked_322 : decode prog_6_method_10_code 322 = .ok (.goto 6, 3) := by decide +kernel
theorem dd_Question_worked_325 : decode prog_6_method_10_code 325 = .ok (.ldc2_w 81, 3) := by decide +kernel
theorem dd_Question_worked_328 : decode prog_6_method_10_code 328 = .ok (.lreturn, 1) := by decide +kernel
theorem dd_Question_testOf_0 : decode prog_6_method_9_code 0 = .ok (.aload_n 1, 1) := by decide +kernel
theorem dd_Question_testOf_1 : decode prog_6_method_9_code 1 = .ok (.iload_n 2, 1) := by decide +kernel
theorem dd_Question_testOf_2 : decode prog_6_method_9_code 2 = .ok (.iconst 2, 1) := by decide +kernel
theorem dd_Question_testOf_3 : decode prog_6_method_9_code 3 = .ok (.invokevirtual 66, 3) := by decide +kernel
theorem dd_Question_testOf_6 : decode prog_6_method_9_code 6 = .ok (.istore_n 3, 1) := by decide +kernel
theorem dd_Question_testOf_7 : decode prog_6_method_9_code 7 = .ok (.aload_n 1, 1) := by decide +kernel
theorem dd_Question_testOf_8 : decode prog_6_method_9_code 8 = .ok (.iload_n 2, 1) := by decide +kernel
theorem dd_Question_testOf_9 : decode prog_6_method_9_code 9 = .ok (.iconst 3, 1) := by decide +kernel
theorem dd_Question_testOf_10 : decode prog_6_method_9_code 10 = .ok (.invokevirtual 66, 3) := by decide +kernel
theorem dd_Question_testOf_13 : decode prog_6_method_9_code 13 = .ok (.istore 4, 2) := by decide +kernel
theorem dd_Question_testOf_15 : decode prog_6_method_9_code 15 = .ok (.iload_n 3, 1) := by decide +kernel
theorem dd_Question_testOf_16 : decode prog_6_method_9_code 16 = .ok (.iload 4, 2) := by decide +kernel
theorem dd_Question_testOf_18 : decode prog_6_method_9_code 18 = .ok (.if_icmp .ne 7, 3) := by decide +kernel
theorem dd_Question_testOf_21 : decode prog_6_method_9_code 21 = .ok (.lconst 1, 1) := by decide +kernel
theorem dd_Question_testOf_22 : decode prog_6_method_9_code 22 = .ok (.goto 14, 3) := by decide +kernel
theorem dd_Question_testOf_25 : decode prog_6_method_9_code 25 = .ok (.aload_n 0, 1) := by decide +kernel
theorem dd_Question_testOf_26 : decode prog_6_method_9_code 26 = .ok (.aload_n 1, 1) := by decide +kernel
theorem dd_Question_testOf_27 : decode prog_6_method_9_code 27 = .ok (.getfield 74, 3) := by decide +kernel
theorem dd_Question_testOf_30 : decode prog_6_method_9_code 30 = .ok (.iload_n 3, 1) := by decide +kernel
theorem dd_Question_testOf_31 : decode prog_6_method_9_code 31 = .ok (.iload 4, 2) := by decide +kernel
theorem dd_Question_testOf_33 : decode prog_6_method_9_code 33 = .ok (.invokevirtual 77, 3) := by decide +kernel
theorem dd_Question_testOf_36 : decode prog_6_method_9_code 36 = .ok (.lreturn, 1) := by decide +kernel
theorem dd_Question_holds_0 : decode prog_6_method_7_code 0 = .ok (.aload_n 0, 1) := by decide +kernel
theorem dd_Question_holds_1 : decode prog_6_method_7_code 1 = .ok (.getfield 21, 3) := by decide +kernel
theorem dd_Question_holds_4 : decode prog_6_method_7_code 4 = .ok (.invokevirtual 58, 3) := by decide +kernel
theorem dd_Question_holds_7 : decode prog_6_method_7_code 7 = .ok (.astore_n 2, 1) := by decide +kernel
theorem dd_Question_holds_8 : decode prog_6_method_7_code 8 = .ok (.iconst 0, 1) := by decide +kernel
theorem dd_Question_holds_9 : decode prog_6_method_7_code 9 = .ok (.istore_n 3, 1) := by decide +kernel
theorem dd_Question_holds_10 : decode prog_6_method_7_code 10 = .ok (.iload_n 3, 1) := by decide +kernel
theorem dd_Question_holds_11 : decode prog_6_method_7_code 11 = .ok (.aload_n 2, 1) := by decide +kernel
theorem dd_Question_holds_12 : decode prog_6_method_7_code 12 = .ok (.invokevirtual 62, 3) := by decide +kernel
theorem dd_Question_holds_15 : decode prog_6_method_7_code 15 = .ok (.if_icmp .ge 32, 3) := by decide +kernel
theorem dd_Question_holds_18 : decode prog_6_method_7_code 18 = .ok (.aload_n 2, 1) := by decide +kernel
theorem dd_Question_holds_19 : decode prog_6_method_7_code 19 = .ok (.iload_n 3, 1) := by decide +kernel
theorem dd_Question_holds_20 : decode prog_6_method_7_code 20 = .ok (.iconst 0, 1) := by decide +kernel
theorem dd_Question_holds_21 : decode prog_6_method_7_code 21 = .ok (.invokevirtual 66, 3) := by decide +kernel
theorem dd_Question_holds_24 : decode prog_6_method_7_code 24 = .ok (.iload_n 1, 1) := by decide +kernel
theorem dd_Question_holds_25 : decode prog_6_method_7_code 25 = .ok (.if_icmp .ne 16, 3) := by decide +kernel
theorem dd_Question_holds_28 : decode prog_6_method_7_code 28 = .ok (.aload_n 0, 1) := by decide +kernel
theorem dd_Question_holds_29 : decode prog_6_method_7_code 29 = .ok (.aload_n 2, 1) := by decide +kernel
theorem dd_Question_holds_30 : decode prog_6_method_7_code 30 = .ok (.iload_n 3, 1) := by decide +kernel
theorem dd_Question_holds_31 : decode prog_6_method_7_code 31 = .ok (.invokevirtual 70, 3) := by decide +kernel
theorem dd_Question_holds_34 : decode prog_6_method_7_code 34 = .ok (.lconst 1, 1) := by decide +kernel
theorem dd_Question_holds_35 : decode prog_6_method_7_code 35 = .ok (.lcmp, 1) := by decide +kernel
theorem dd_Question_holds_36 : decode prog_6_method_7_code 36 = .ok (.ifCond .ne 5, 3) := by decide +kernel
theorem dd_Question_holds_39 : decode prog_6_method_7_code 39 = .ok (.iconst 1, 1) := by decide +kernel
theorem dd_Question_holds_40 : decode prog_6_method_7_code 40 = .ok (.ireturn, 1) := by decide +kernel
theorem dd_Question_holds_41 : decode prog_6_method_7_code 41 = .ok (.iinc 3 1, 3) := by decide +kernel
theorem dd_Question_holds_44 : decode prog_6_method_7_code 44 = .ok (.goto (-34), 3) := by decide +kernel
theorem dd_Question_holds_47 : decode prog_6_method_7_code 47 = .ok (.iconst 0, 1) := by decide +kernel
theorem dd_Question_holds_48 : decode prog_6_method_7_code 48 = .ok (.ireturn, 1) := by decide +kernel
theorem dd_Question_lastTold_0 : decode prog_6_method_8_code 0 = .ok (.aload_n 0, 1) := by decide +kernel
theorem dd_Question_lastTold_1 : decode prog_6_method_8_code 1 = .ok (.getfield 21, 3) := by decide +kernel
theorem dd_Question_lastTold_4 : decode prog_6_method_8_code 4 = .ok (.invokevirtual 58, 3) := by decide +kernel
theorem dd_Question_lastTold_7 : decode prog_6_method_8_code 7 = .ok (.astore_n 2, 1) := by decide +kernel
theorem dd_Question_lastTold_8 : decode prog_6_method_8_code 8 = .ok (.aload_n 2, 1) := by decide +kernel
theorem dd_Question_lastTold_9 : decode prog_6_method_8_code 9 = .ok (.invokevirtual 62, 3) := by decide +kernel
theorem dd_Question_lastTold_12 : decode prog_6_method_8_code 12 = .ok (.iconst 1, 1) := by decide +kernel
theorem dd_Question_lastTold_13 : decode prog_6_method_8_code 13 = .ok (.isub, 1) := by decide +kernel
theorem dd_Question_lastTold_14 : decode prog_6_method_8_code 14 = .ok (.istore_n 3, 1) := by decide +kernel
theorem dd_Question_lastTold_15 : decode prog_6_method_8_code 15 = .ok (.iload_n 3, 1) := by decide +kernel
theorem dd_Question_lastTold_16 : decode prog_6_method_8_code 16 = .ok (.ifCond .lt 75, 3) := by decide +kernel
theorem dd_Question_lastTold_19 : decode prog_6_method_8_code 19 = .ok (.aload_n 2, 1) := by decide +kernel
theorem dd_Question_lastTold_20 : decode prog_6_method_8_code 20 = .ok (.iload_n 3, 1) := by decide +kernel
theorem dd_Question_lastTold_21 : decode prog_6_method_8_code 21 = .ok (.iconst 0, 1) := by decide +kernel
theorem dd_Question_lastTold_22 : decode prog_6_method_8_code 22 = .ok (.invokevirtual 66, 3) := by decide +kernel
theorem dd_Question_lastTold_25 : decode prog_6_method_8_code 25 = .ok (.iload_n 1, 1) := by decide +kernel
theorem dd_Question_lastTold_26 : decode prog_6_method_8_code 26 = .ok (.if_icmp .ne 59, 3) := by decide +kernel
theorem dd_Question_lastTold_29 : decode prog_6_method_8_code 29 = .ok (.aload_n 0, 1) := by decide +kernel
theorem dd_Question_lastTold_30 : decode prog_6_method_8_code 30 = .ok (.aload_n 2, 1) := by decide +kernel
theorem dd_Question_lastTold_31 : decode prog_6_method_8_code 31 = .ok (.iload_n 3, 1) := by decide +kernel
theorem dd_Question_lastTold_32 : decode prog_6_method_8_code 32 = .ok (.invokevirtual 70, 3) := by decide +kernel
theorem dd_Question_lastTold_35 : decode prog_6_method_8_code 35 = .ok (.lconst 1, 1) := by decide +kernel
theorem dd_Question_lastTold_36 : decode prog_6_method_8_code 36 = .ok (.lcmp, 1) := by decide +kernel
theorem dd_Question_lastTold_37 : decode prog_6_method_8_code 37 = .ok (.ifCond .ne 48, 3) := by decide +kernel
theorem dd_Question_lastTold_40 : decode prog_6_method_8_code 40 = .ok (.aload_n 0, 1) := by decide +kernel
theorem dd_Question_lastTold_41 : decode prog_6_method_8_code 41 = .ok (.aload_n 2, 1) := by decide +kernel
theorem dd_Question_lastTold_42 : decode prog_6_method_8_code 42 = .ok (.getfield 74, 3) := by decide +kernel
theorem dd_Question_lastTold_45 : decode prog_6_method_8_code 45 = .ok (.aload_n 2, 1) := by decide +kernel
theorem dd_Question_lastTold_46 : decode prog_6_method_8_code 46 = .ok (.iload_n 3, 1) := by decide +kernel
theorem dd_Question_lastTold_47 : decode prog_6_method_8_code 47 = .ok (.iconst 1, 1) := by decide +kernel
theorem dd_Question_lastTold_48 : decode prog_6_method_8_code 48 = .ok (.invokevirtual 66, 3) := by decide +kernel
theorem dd_Question_lastTold_51 : decode prog_6_method_8_code 51 = .ok (.aload_n 2, 1) := by decide +kernel
theorem dd_Question_lastTold_52 : decode prog_6_method_8_code 52 = .ok (.iload_n 3, 1) := by decide +kernel
theorem dd_Question_lastTold_53 : decode prog_6_method_8_code 53 = .ok (.iconst 2, 1) := by decide +kernel
theorem dd_Question_lastTold_54 : decode prog_6_method_8_code 54 = .ok (.invokevirtual 66, 3) := by decide +kernel
theorem dd_Question_lastTold_57 : decode prog_6_method_8_code 57 = .ok (.invokevirtual 77, 3) := by decide +kernel
theorem dd_Question_lastTold_60 : decode prog_6_method_8_code 60 = .ok (.lstore 4, 2) := by decide +kernel
theorem dd_Question_lastTold_62 : decode prog_6_method_8_code 62 = .ok (.lload 4, 2) := by decide +kernel
theorem dd_Question_lastTold_64 : decode prog_6_method_8_code 64 = .ok (.ldc2_w 81, 3) := by decide +kernel
theorem dd_Question_lastTold_67 : decode prog_6_method_8_code 67 = .ok (.lcmp, 1) := by decide +kernel
theorem dd_Question_lastTold_68 : decode prog_6_method_8_code 68 = .ok (.ifCond .eq 17, 3) := by decide +kernel
theorem dd_Question_lastTold_71 : decode prog_6_method_8_code 71 = .ok (.lconst 0, 1) := by decide +kernel
theorem dd_Question_lastTold_72 : decode prog_6_method_8_code 72 = .ok (.lload 4, 2) := by decide +kernel
theorem dd_Question_lastTold_74 : decode prog_6_method_8_code 74 = .ok (.ldc2_w 83, 3) := by decide +kernel
theorem dd_Question_lastTold_77 : decode prog_6_method_8_code 77 = .ok (.invokestatic 85, 3) := by decide +kernel
theorem dd_Question_lastTold_80 : decode prog_6_method_8_code 80 = .ok (.invokestatic 91, 3) := by decide +kernel
theorem dd_Question_lastTold_83 : decode prog_6_method_8_code 83 = .ok (.l2i, 1) := by decide +kernel
theorem dd_Question_lastTold_84 : decode prog_6_method_8_code 84 = .ok (.ireturn, 1) := by decide +kernel
theorem dd_Question_lastTold_85 : decode prog_6_method_8_code 85 = .ok (.iinc 3 (-1), 3) := by decide +kernel
theorem dd_Question_lastTold_88 : decode prog_6_method_8_code 88 = .ok (.goto (-73), 3) := by decide +kernel
theorem dd_Question_lastTold_91 : decode prog_6_method_8_code 91 = .ok (.iconst 0, 1) := by decide +kernel
theorem dd_Question_lastTold_92 : decode prog_6_method_8_code 92 = .ok (.ireturn, 1) := by decide +kernel

def hc_within : mm_C := (14, (0, 0, 0, 0), (fun us _ => ∃ v a b : Int32, us = [mm_I v, mm_I a, mm_I b]), fun us h r h' => h = h' ∧ match us with
  | [.inl v, .inl a, .inl b] => (a.toInt ≤ v.toInt ∧ v.toInt ≤ b.toInt ∧ r = some (mm_I (Int32.ofInt 1))) ∨ (¬ (a.toInt ≤ v.toInt ∧ v.toInt ≤ b.toInt) ∧ r = some (mm_I (Int32.ofInt 0)))
  | _ => False)
theorem hh_within {Rt : Option mm_v → mm_h → Nat × Nat → Prop} (v a b : Int32) (h : mm_h) (K : ∀ r, ((a.toInt ≤ v.toInt ∧ v.toInt ≤ b.toInt ∧ r = some (mm_I (Int32.ofInt 1))) ∨ (¬ (a.toInt ≤ v.toInt ∧ v.toInt ≤ b.toInt) ∧ r = some (mm_I (Int32.ofInt 0)))) → Rt r h (0, 0)) :
    mm_W vwCl ck_dt ck_mts ck_T0 [] false 3 0 0 (0) (0) prog_1_method_51_code (some .boolean) Rt (0, [(0, mm_I v), (1, mm_I a), (2, mm_I b)], [], h, 0, 0) := by
  refine mm_go_ok [] (N := fun z => mm_W vwCl ck_dt ck_mts ck_T0 [] false 3 0 0 (0) (0) prog_1_method_51_code (some .boolean) Rt z) (fun z h => h) 14 _ ?_
  simp only [mm_nn2, mm_one, mm_grp, mm_a, mm_b, mm_c, mm_bop, mm_d, mm_e, mm_ld, mm_sw, mm_k, mm_rt, mm_get, mm_put, mm_put2, mm_two, mm_rf, ck_tg, ck_chold, ck_cneg, List.elem_cons, List.elem_nil, List.find?_cons, List.filter_cons, List.filter_nil, Option.map_some, Nat.reduceBEq, Nat.reduceAdd, Bool.or_false, Bool.false_or, Bool.or_true, Bool.true_or, beq_self_eq_true, Bool.not_false, Bool.not_true, Bool.and_true, Bool.true_and, Bool.and_false, Bool.false_and, Bool.false_eq_true, ↓reduceIte, Fin.isValue, mm_f0, mm_f1, mm_f2, mm_f3, Nat.zero_mod, Nat.reduceMod, Option.some.injEq, Sum.inl.injEq, Sum.inr.injEq, exists_eq_left', List.find?_nil, List.length_cons, List.length_nil, true_and, and_true, Nat.reduceLT, Nat.reduceEqDiff, Int.reduceLE, Int.reduceAdd, Int.reduceToNat, Int.cast_ofNat_Int, Int.reduceNeg, Nat.reduceBeqDiff, Nat.zero_add, Prod.mk.injEq, mm_si_n, mm_si_s, mm_si_r, Option.toList_some, Option.toList_none, List.cons_append, List.nil_append, exists_eq', exists_eq, reduceCtorEq, false_and, and_false, false_or, or_false, exists_false, eq_self, and_self, mm_si_i, Int.reduceLT, mm_go_s dd_X_within_0, mm_go_s dd_X_within_1, mm_go_s dd_X_within_2, mm_go_s dd_X_within_5, mm_go_s dd_X_within_6, mm_go_s dd_X_within_7, mm_go_s dd_X_within_10, mm_go_s dd_X_within_11, mm_go_s dd_X_within_14, mm_go_s dd_X_within_15, kt_0, kt_1]
  exact ⟨fun c => ⟨by decide, K _ (Or.inr ⟨by omega, rfl⟩)⟩, fun c => ⟨fun d => ⟨by decide, K _ (Or.inr ⟨by omega, rfl⟩)⟩, fun d => ⟨by decide, K _ (Or.inl ⟨c, d, rfl⟩)⟩⟩⟩
theorem hk_within (l : Launch) (D : va_G) (st : Nat → Nat)   : hh_Met l D st (hc_within ) := by
  refine mm_sound (T := ck_T0) (cs := []) l ck_TSgood ck_okCl ck_okDt (M0 := ck_m14) rfl (by decide +kernel) ck_okT0 ck_nil ?_
  rintro us h - ⟨v, a, b, rfl⟩
  exact ⟨Nat.le_of_ble_eq_true rfl, hh_within v a b h (fun r q => ⟨Nat.le_refl _, Nat.le_refl _, Nat.le_refl _, rfl, q⟩)⟩

/-- what lawText wants: the bench in use, its texts, the text of no clauses -/
def lw_I (h : mm_h) : Prop := ab_sh ck_sh 101 h ∧ (-1 ≤ (h.2.2.1 1 10).toInt ∧ (h.2.2.1 1 10).toInt ≤ 9) ∧ (0 ≤ (h.2.2.1 1 11).toInt ∧ (h.2.2.1 1 11).toInt ≤ 10) ∧ h.2.2.2 1 12 = some 10 ∧ h.2.2.2 1 13 = some 11 ∧ h.2.2.2 11 0 = some 12 ∧ h.2.2.2 11 1 = some 13 ∧ ∀ t, t < 10 → h.2.2.2 10 t = none ∨ ab_tx h 9 (mm_A (h.2.2.2 10 t))
theorem ab_sh.s {h : mm_h} (hs : ab_sh ck_sh 101 h) {i : Nat} {s : ck_Sh} (hi : i < 101) (e : ck_sh[i]? = some s) : h.2.1 i = s := Option.some.inj ((hs.2.2 i hi).symm.trans e)
theorem ab_sh.l {h : mm_h} (hs : ab_sh ck_sh 101 h) {i : Nat} (hi : i < 101) : i < h.1 := Nat.lt_of_lt_of_le hi hs.1
theorem hh_lawText {Rt : Option mm_v → mm_h → Nat × Nat → Prop} (h : mm_h) (hI : lw_I h) (K : ∀ i, ab_tx h 9 (mm_A (some i)) → Rt (some (mm_A (some i))) h (0, 0)) :
    mm_W vwCl ck_dt ck_mts ck_T1 [hc_within] false 2 0 0 (1) (30) prog_2_method_10_code (some (.object "ScratchLadder$Text")) Rt (0, [(0, mm_A (some 1))], [], h, 0, 0) := by
  obtain ⟨hs, i1, i2, i3, i4, i5, i6, i7⟩ := hI
  have l1 : 1 < h.1 := hs.l (by decide)
  have l10 : 10 < h.1 := hs.l (by decide)
  have s1 : h.2.1 1 = .inl (0, 19) := hs.s (by decide) rfl
  have s10 : h.2.1 10 = .inr (.object "ScratchLadder$Text", 10) := hs.s (by decide) rfl
  have m1 : (h.2.2.1 1 11 - Int32.ofInt 1).toInt = (h.2.2.1 1 11).toInt - 1 := by rw [ck_subI (by rw [kt_1]; omega) (by rw [kt_1]; omega), kt_1]
  have nol : ab_tx h 9 (mm_A (some 11)) := ⟨11, rfl, hs.l (by decide), hs.s (by decide) rfl, ⟨12, 0, i5, hs.l (by decide), hs.s (by decide) rfl, by decide, Or.inl rfl⟩, ⟨13, 0, i6, hs.l (by decide), hs.s (by decide) rfl, by decide, Or.inl rfl⟩⟩
  have at30 : ∀ r : Option Nat, (r = none ∨ ab_tx h 9 (mm_A r)) → mm_W vwCl ck_dt ck_mts ck_T1 [hc_within] false 2 0 0 (1) (30) prog_2_method_10_code (some (.object "ScratchLadder$Text")) Rt (30, [(0, mm_A (some 1))], [mm_A r], h, 0, 0) := fun r hr => by
    refine mm_go_ok [] (N := fun z => mm_W vwCl ck_dt ck_mts ck_T1 [hc_within] false 2 0 0 (1) (30) prog_2_method_10_code (some (.object "ScratchLadder$Text")) Rt z) (fun z h => h) 10 _ ?_
    simp only [mm_nn2, mm_one, mm_grp, mm_a, mm_b, mm_c, mm_bop, mm_d, mm_e, mm_ld, mm_sw, mm_k, mm_rt, mm_get, mm_put, mm_put2, mm_two, mm_rf, ck_tg, ck_chold, ck_cneg, List.elem_cons, List.elem_nil, List.find?_cons, List.filter_cons, List.filter_nil, Option.map_some, Nat.reduceBEq, Nat.reduceAdd, Bool.or_false, Bool.false_or, Bool.or_true, Bool.true_or, beq_self_eq_true, Bool.not_false, Bool.not_true, Bool.and_true, Bool.true_and, Bool.and_false, Bool.false_and, Bool.false_eq_true, ↓reduceIte, Fin.isValue, mm_f0, mm_f1, mm_f2, mm_f3, Nat.zero_mod, Nat.reduceMod, Option.some.injEq, Sum.inl.injEq, Sum.inr.injEq, exists_eq_left', List.find?_nil, List.length_cons, List.length_nil, true_and, and_true, Nat.reduceLT, Nat.reduceEqDiff, Int.reduceLE, Int.reduceAdd, Int.reduceToNat, Int.cast_ofNat_Int, Int.reduceNeg, Nat.reduceBeqDiff, Nat.zero_add, Prod.mk.injEq, mm_si_n, mm_si_s, mm_si_r, Option.toList_some, Option.toList_none, List.cons_append, List.nil_append, exists_eq', exists_eq, reduceCtorEq, false_and, and_false, false_or, or_false, exists_false, eq_self, and_self, mm_si_i, Int.reduceLT, mm_go_s dd_Bench_lawText_0, mm_go_s dd_Bench_lawText_1, mm_go_s dd_Bench_lawText_4, mm_go_s dd_Bench_lawText_5, mm_go_s dd_Bench_lawText_6, mm_go_s dd_Bench_lawText_9, mm_go_s dd_Bench_lawText_10, mm_go_s dd_Bench_lawText_11, mm_go_s dd_Bench_lawText_14, mm_go_s dd_Bench_lawText_17, mm_go_s dd_Bench_lawText_18, mm_go_s dd_Bench_lawText_21, mm_go_s dd_Bench_lawText_22, mm_go_s dd_Bench_lawText_25, mm_go_s dd_Bench_lawText_26, mm_go_s dd_Bench_lawText_29, mm_go_s dd_Bench_lawText_30, mm_go_s dd_Bench_lawText_31, mm_go_s dd_Bench_lawText_32, mm_go_s dd_Bench_lawText_35, mm_go_s dd_Bench_lawText_36, mm_go_s dd_Bench_lawText_39, mm_go_s dd_Bench_lawText_42, mm_go_s dd_Bench_lawText_43, kt_0, kt_1, kz, gf1_43, gf1_46, ml1_92, gf1_51, gf1_58, l1, s1, i4]
    refine ⟨fun c => ⟨⟨_, rfl⟩, ?_⟩, fun c => ⟨⟨_, rfl⟩, K 11 nol⟩⟩
    cases r with
    | none => exact absurd rfl c
    | some j => exact K j (hr.resolve_left c)
  refine mm_go_ok [11] (N := fun z => mm_W vwCl ck_dt ck_mts ck_T1 [hc_within] false 2 0 0 (1) (30) prog_2_method_10_code (some (.object "ScratchLadder$Text")) Rt z) (fun z h => h) 10 _ ?_
  simp only [mm_nn2, mm_one, mm_grp, mm_a, mm_b, mm_c, mm_bop, mm_d, mm_e, mm_ld, mm_sw, mm_k, mm_rt, mm_get, mm_put, mm_put2, mm_two, mm_rf, ck_tg, ck_chold, ck_cneg, List.elem_cons, List.elem_nil, List.find?_cons, List.filter_cons, List.filter_nil, Option.map_some, Nat.reduceBEq, Nat.reduceAdd, Bool.or_false, Bool.false_or, Bool.or_true, Bool.true_or, beq_self_eq_true, Bool.not_false, Bool.not_true, Bool.and_true, Bool.true_and, Bool.and_false, Bool.false_and, Bool.false_eq_true, ↓reduceIte, Fin.isValue, mm_f0, mm_f1, mm_f2, mm_f3, Nat.zero_mod, Nat.reduceMod, Option.some.injEq, Sum.inl.injEq, Sum.inr.injEq, exists_eq_left', List.find?_nil, List.length_cons, List.length_nil, true_and, and_true, Nat.reduceLT, Nat.reduceEqDiff, Int.reduceLE, Int.reduceAdd, Int.reduceToNat, Int.cast_ofNat_Int, Int.reduceNeg, Nat.reduceBeqDiff, Nat.zero_add, Prod.mk.injEq, mm_si_n, mm_si_s, mm_si_r, Option.toList_some, Option.toList_none, List.cons_append, List.nil_append, exists_eq', exists_eq, reduceCtorEq, false_and, and_false, false_or, or_false, exists_false, eq_self, and_self, mm_si_i, Int.reduceLT, mm_go_s dd_Bench_lawText_0, mm_go_s dd_Bench_lawText_1, mm_go_s dd_Bench_lawText_4, mm_go_s dd_Bench_lawText_5, mm_go_s dd_Bench_lawText_6, mm_go_s dd_Bench_lawText_9, mm_go_s dd_Bench_lawText_10, mm_go_s dd_Bench_lawText_11, mm_go_s dd_Bench_lawText_14, mm_go_s dd_Bench_lawText_17, mm_go_s dd_Bench_lawText_18, mm_go_s dd_Bench_lawText_21, mm_go_s dd_Bench_lawText_22, mm_go_s dd_Bench_lawText_25, mm_go_s dd_Bench_lawText_26, mm_go_s dd_Bench_lawText_29, mm_go_s dd_Bench_lawText_30, mm_go_s dd_Bench_lawText_31, mm_go_s dd_Bench_lawText_32, mm_go_s dd_Bench_lawText_35, mm_go_s dd_Bench_lawText_36, mm_go_s dd_Bench_lawText_39, mm_go_s dd_Bench_lawText_42, mm_go_s dd_Bench_lawText_43, kt_0, kt_1, kz, gf1_43, gf1_46, ml1_92, gf1_51, gf1_58, l1, s1]
  refine cc_callS (92, 4, 14) ck_m14 hc_within [mm_I (h.2.2.1 1 10), mm_I (Int32.ofInt 0), mm_I (h.2.2.1 1 11 - Int32.ofInt 1)] [] dd_Bench_lawText_11 rfl ml1_92 (by decide) rfl rfl (List.Mem.head _) rfl rfl (Nat.le_of_ble_eq_true rfl) ⟨by decide, by decide⟩ rfl (⟨_, _, _, rfl⟩) ?_
  rintro r _ ⟨rfl, ⟨a, b, rfl⟩ | ⟨-, rfl⟩⟩
  · rw [kt_0] at a
    rw [m1] at b
    refine mm_go_ok [30] (N := fun z => mm_W vwCl ck_dt ck_mts ck_T1 [hc_within] false 2 0 0 (1) (30) prog_2_method_10_code (some (.object "ScratchLadder$Text")) Rt z) (fun z h => h) 10 _ ?_
    simp only [mm_nn2, mm_one, mm_grp, mm_a, mm_b, mm_c, mm_bop, mm_d, mm_e, mm_ld, mm_sw, mm_k, mm_rt, mm_get, mm_put, mm_put2, mm_two, mm_rf, ck_tg, ck_chold, ck_cneg, List.elem_cons, List.elem_nil, List.find?_cons, List.filter_cons, List.filter_nil, Option.map_some, Nat.reduceBEq, Nat.reduceAdd, Bool.or_false, Bool.false_or, Bool.or_true, Bool.true_or, beq_self_eq_true, Bool.not_false, Bool.not_true, Bool.and_true, Bool.true_and, Bool.and_false, Bool.false_and, Bool.false_eq_true, ↓reduceIte, Fin.isValue, mm_f0, mm_f1, mm_f2, mm_f3, Nat.zero_mod, Nat.reduceMod, Option.some.injEq, Sum.inl.injEq, Sum.inr.injEq, exists_eq_left', List.find?_nil, List.length_cons, List.length_nil, true_and, and_true, Nat.reduceLT, Nat.reduceEqDiff, Int.reduceLE, Int.reduceAdd, Int.reduceToNat, Int.cast_ofNat_Int, Int.reduceNeg, Nat.reduceBeqDiff, Nat.zero_add, Prod.mk.injEq, mm_si_n, mm_si_s, mm_si_r, Option.toList_some, Option.toList_none, List.cons_append, List.nil_append, exists_eq', exists_eq, reduceCtorEq, false_and, and_false, false_or, or_false, exists_false, eq_self, and_self, mm_si_i, Int.reduceLT, mm_go_s dd_Bench_lawText_0, mm_go_s dd_Bench_lawText_1, mm_go_s dd_Bench_lawText_4, mm_go_s dd_Bench_lawText_5, mm_go_s dd_Bench_lawText_6, mm_go_s dd_Bench_lawText_9, mm_go_s dd_Bench_lawText_10, mm_go_s dd_Bench_lawText_11, mm_go_s dd_Bench_lawText_14, mm_go_s dd_Bench_lawText_17, mm_go_s dd_Bench_lawText_18, mm_go_s dd_Bench_lawText_21, mm_go_s dd_Bench_lawText_22, mm_go_s dd_Bench_lawText_25, mm_go_s dd_Bench_lawText_26, mm_go_s dd_Bench_lawText_29, mm_go_s dd_Bench_lawText_30, mm_go_s dd_Bench_lawText_31, mm_go_s dd_Bench_lawText_32, mm_go_s dd_Bench_lawText_35, mm_go_s dd_Bench_lawText_36, mm_go_s dd_Bench_lawText_39, mm_go_s dd_Bench_lawText_42, mm_go_s dd_Bench_lawText_43, kt_0, kt_1, kz, gf1_43, gf1_46, ml1_92, gf1_51, gf1_58, l1, s1, i3, l10]
    refine ⟨fun z => absurd z (by decide), fun _ => ⟨_, _, s10, a, by omega, at30 _ (i7 _ (by omega))⟩⟩
  · refine mm_go_ok [30] (N := fun z => mm_W vwCl ck_dt ck_mts ck_T1 [hc_within] false 2 0 0 (1) (30) prog_2_method_10_code (some (.object "ScratchLadder$Text")) Rt z) (fun z h => h) 10 _ ?_
    simp only [mm_nn2, mm_one, mm_grp, mm_a, mm_b, mm_c, mm_bop, mm_d, mm_e, mm_ld, mm_sw, mm_k, mm_rt, mm_get, mm_put, mm_put2, mm_two, mm_rf, ck_tg, ck_chold, ck_cneg, List.elem_cons, List.elem_nil, List.find?_cons, List.filter_cons, List.filter_nil, Option.map_some, Nat.reduceBEq, Nat.reduceAdd, Bool.or_false, Bool.false_or, Bool.or_true, Bool.true_or, beq_self_eq_true, Bool.not_false, Bool.not_true, Bool.and_true, Bool.true_and, Bool.and_false, Bool.false_and, Bool.false_eq_true, ↓reduceIte, Fin.isValue, mm_f0, mm_f1, mm_f2, mm_f3, Nat.zero_mod, Nat.reduceMod, Option.some.injEq, Sum.inl.injEq, Sum.inr.injEq, exists_eq_left', List.find?_nil, List.length_cons, List.length_nil, true_and, and_true, Nat.reduceLT, Nat.reduceEqDiff, Int.reduceLE, Int.reduceAdd, Int.reduceToNat, Int.cast_ofNat_Int, Int.reduceNeg, Nat.reduceBeqDiff, Nat.zero_add, Prod.mk.injEq, mm_si_n, mm_si_s, mm_si_r, Option.toList_some, Option.toList_none, List.cons_append, List.nil_append, exists_eq', exists_eq, reduceCtorEq, false_and, and_false, false_or, or_false, exists_false, eq_self, and_self, mm_si_i, Int.reduceLT, mm_go_s dd_Bench_lawText_0, mm_go_s dd_Bench_lawText_1, mm_go_s dd_Bench_lawText_4, mm_go_s dd_Bench_lawText_5, mm_go_s dd_Bench_lawText_6, mm_go_s dd_Bench_lawText_9, mm_go_s dd_Bench_lawText_10, mm_go_s dd_Bench_lawText_11, mm_go_s dd_Bench_lawText_14, mm_go_s dd_Bench_lawText_17, mm_go_s dd_Bench_lawText_18, mm_go_s dd_Bench_lawText_21, mm_go_s dd_Bench_lawText_22, mm_go_s dd_Bench_lawText_25, mm_go_s dd_Bench_lawText_26, mm_go_s dd_Bench_lawText_29, mm_go_s dd_Bench_lawText_30, mm_go_s dd_Bench_lawText_31, mm_go_s dd_Bench_lawText_32, mm_go_s dd_Bench_lawText_35, mm_go_s dd_Bench_lawText_36, mm_go_s dd_Bench_lawText_39, mm_go_s dd_Bench_lawText_42, mm_go_s dd_Bench_lawText_43, kt_0, kt_1, kz, gf1_43, gf1_46, ml1_92, gf1_51, gf1_58, l1, s1, i3, l10]
    exact ⟨fun _ => at30 none (Or.inl rfl), fun z => absurd rfl z⟩
def hc_lawText : mm_C := (65, (1, 30, 0, 0), (fun us h => lw_I h ∧ us = [mm_A (some 1)]), fun _ h r h' => h = h' ∧ ∃ i, r = some (mm_A (some i)) ∧ ab_tx h 9 (mm_A (some i)))
theorem hk_lawText (l : Launch) (D : va_G) (st : Nat → Nat)   : hh_Met l D st (hc_lawText ) := by
  refine mm_sound (T := ck_T1) (cs := [hc_within]) l ck_TSgood ck_okCl ck_okDt (M0 := ck_m65) rfl (by decide +kernel) ck_okT1 (List.forall_mem_cons.mpr ⟨hk_within l D st , ck_nil⟩) ?_
  rintro us h - ⟨hI, rfl⟩
  exact ⟨Nat.le_of_ble_eq_true rfl, hh_lawText h hI (fun i q => ⟨Nat.le_refl _, Nat.le_refl _, Nat.le_refl _, rfl, i, rfl, q⟩)⟩

def lw_ft : ab_D := [((1, (10, 1, 1)), .inl (-1, 9)), ((1, (11, 1, 1)), .inl (0, 10)), ((1, (12, 1, 1)), .inr (0, 10)), ((1, (13, 1, 1)), .inr (0, 11)), ((11, (0, 1, 1)), .inr (0, 12)), ((11, (1, 1, 1)), .inr (0, 13)), ((10, (0, 1, 10)), .inr (3, 9))]
theorem lw_I_of {h : mm_h} {X : ab_D} (hs : ab_sh ck_sh 101 h) (hX : ab_gd gk_G h X) (hf : ∀ x ∈ lw_ft, x ∈ X) : lw_I h := by
  refine ⟨hs, hX.num (hf _ (.head _)), hX.num (hf _ (.tail _ (.head _))), hX.ref (hf _ (.tail _ (.tail _ (.head _)))), hX.ref (hf _ (.tail _ (.tail _ (.tail _ (.head _))))), hX.ref (hf _ (.tail _ (.tail _ (.tail _ (.tail _ (.head _)))))), hX.ref (hf _ (.tail _ (.tail _ (.tail _ (.tail _ (.tail _ (.head _))))))), fun t ht => ?_⟩
  have q := (hX _ (hf _ (.tail _ (.tail _ (.tail _ (.tail _ (.tail _ (.tail _ (.head _))))))))).1 t ht
  have q' : mm_A (h.2.2.2 10 (0 + 1 * t)) = mm_A none ∨ ab_tx h 9 (mm_A (h.2.2.2 10 (0 + 1 * t))) := q
  rw [Nat.zero_add, Nat.one_mul] at q'
  exact q'.imp (fun z => Sum.inl.inj (Sum.inr.inj (Sum.inr.inj z))) id
def co_lawText : ab_C := (65, 101, [.inr (0, 1)], lw_ft, [], [(some (.inr (4, 9)), [], [], 101)], 1, 30, 0, 0)
theorem hk_lawTextT (l : Launch) (D : va_G) (st : Nat → Nat) : hh_Met l D st (ab_m gk_G ck_sh co_lawText) := by
  refine mm_sound (T := ck_T1) (cs := [hc_within]) l ck_TSgood ck_okCl ck_okDt (M0 := ck_m65) rfl (by decide +kernel) ck_okT1 (List.forall_mem_cons.mpr ⟨hk_within l D st, ck_nil⟩) ?_
  rintro us h - ⟨hsh, hav, hgd⟩
  obtain ⟨us1, rfl, hav1⟩ := ab_av.cell hav
  obtain rfl := ab_av.nil hav1
  exact ⟨Nat.le_of_ble_eq_true rfl, hh_lawText h (lw_I_of hsh hgd (fun x hx => hx)) (fun i q => ⟨Nat.le_refl _, Nat.le_refl _, Nat.le_refl _, _, .head _, q, trivial, (fun x hx => by cases hx), hsh, ab_fr.rf⟩)⟩
theorem kj5_81 : ck_T5.2.2.2.2.2.1.find? (fun q => q.1 == 81) = some (81, 4611686018427387904) := by decide
theorem kj5_83 : ck_T5.2.2.2.2.2.1.find? (fun q => q.1 == 83) = some (83, 255) := by decide
theorem kj5_104 : ck_T5.2.2.2.2.2.1.find? (fun q => q.1 == 104) = some (104, 1000000000) := by decide
theorem kj5_106 : ck_T5.2.2.2.2.2.1.find? (fun q => q.1 == 106) = some (106, -1000000000) := by decide
theorem hh_join {Rt : Option mm_v → mm_h → Nat × Nat → Prop} (k : Int32) (a b : Int64) (h : mm_h) (K : ∀ w : Int64, Rt (some (mm_J w)) h (0, 0)) :
    mm_W vwCl ck_dt ck_mts ck_T5 [] false 5 0 0 (0) (0) prog_6_method_11_code (some .long) Rt (0, [(0, mm_I k), (1, mm_J a), (3, mm_J b)], [], h, 0, 0) := by
  have t44 : mm_W vwCl ck_dt ck_mts ck_T5 [] false 5 0 0 (0) (0) prog_6_method_11_code (some .long) Rt (44, [(0, mm_I k), (1, mm_J a), (3, mm_J b)], [], h, 0, 0) := by
    refine mm_go_ok [] (N := fun z => mm_W vwCl ck_dt ck_mts ck_T5 [] false 5 0 0 (0) (0) prog_6_method_11_code (some .long) Rt z) (fun z h => h) 10 _ ?_
    simp only [mm_nn2, mm_one, mm_grp, mm_a, mm_b, mm_c, mm_bop, mm_d, mm_e, mm_ld, mm_sw, mm_k, mm_rt, mm_get, mm_put, mm_put2, mm_two, mm_rf, ck_tg, ck_chold, ck_cneg, List.elem_cons, List.elem_nil, List.find?_cons, List.filter_cons, List.filter_nil, Option.map_some, Nat.reduceBEq, Nat.reduceAdd, Bool.or_false, Bool.false_or, Bool.or_true, Bool.true_or, beq_self_eq_true, Bool.not_false, Bool.not_true, Bool.and_true, Bool.true_and, Bool.and_false, Bool.false_and, Bool.false_eq_true, ↓reduceIte, Fin.isValue, mm_f0, mm_f1, mm_f2, mm_f3, Nat.zero_mod, Nat.reduceMod, Option.some.injEq, Sum.inl.injEq, Sum.inr.injEq, exists_eq_left', List.find?_nil, List.length_cons, List.length_nil, true_and, and_true, Nat.reduceLT, Nat.reduceEqDiff, Int.reduceLE, Int.reduceAdd, Int.reduceToNat, Int.cast_ofNat_Int, Int.reduceNeg, Nat.reduceBeqDiff, Nat.zero_add, Prod.mk.injEq, mm_si_n, mm_si_s, mm_si_r, Option.toList_some, Option.toList_none, List.cons_append, List.nil_append, exists_eq', exists_eq, reduceCtorEq, false_and, and_false, false_or, or_false, exists_false, eq_self, and_self, mm_si_i, Int.reduceLT, mm_go_s dd_Question_join_0, mm_go_s dd_Question_join_1, mm_go_s dd_Question_join_44, mm_go_s dd_Question_join_45, mm_go_s dd_Question_join_46, mm_go_s dd_Question_join_47, mm_go_s dd_Question_join_48, mm_go_s dd_Question_join_49, mm_go_s dd_Question_join_50, mm_go_s dd_Question_join_51, mm_go_s dd_Question_join_52, mm_go_s dd_Question_join_53, mm_go_s dd_Question_join_54, mm_go_s dd_Question_join_55, mm_go_s dd_Question_join_56, mm_go_s dd_Question_join_57, mm_go_s dd_Question_join_58, mm_go_s dd_Question_join_59, mm_go_s dd_Question_join_62, mm_go_s dd_Question_join_65, mm_go_s dd_Question_join_68, mm_go_s dd_Question_join_69, mm_go_s dd_Question_join_70, mm_go_s dd_Question_join_71, mm_go_s dd_Question_join_72, mm_go_s dd_Question_join_73, mm_go_s dd_Question_join_74, mm_go_s dd_Question_join_75, mm_go_s dd_Question_join_78, mm_go_s dd_Question_join_79, mm_go_s dd_Question_join_82, mm_go_s dd_Question_join_83, mm_go_s dd_Question_join_84, mm_go_s dd_Question_join_85, mm_go_s dd_Question_join_86, mm_go_s dd_Question_join_87, mm_go_s dd_Question_join_90, mm_go_s dd_Question_join_91, mm_go_s dd_Question_join_94, mm_go_s dd_Question_join_95, mm_go_s dd_Question_join_96, mm_go_s dd_Question_join_97, mm_go_s dd_Question_join_98, mm_go_s dd_Question_join_99, mm_go_s dd_Question_join_102, mm_go_s dd_Question_join_103, mm_go_s dd_Question_join_106, mm_go_s dd_Question_join_107, mm_go_s dd_Question_join_108, mm_go_s dd_Question_join_111, kt_0, kz]
    exact K _
  have t48 : mm_W vwCl ck_dt ck_mts ck_T5 [] false 5 0 0 (0) (0) prog_6_method_11_code (some .long) Rt (48, [(0, mm_I k), (1, mm_J a), (3, mm_J b)], [], h, 0, 0) := by
    refine mm_go_ok [] (N := fun z => mm_W vwCl ck_dt ck_mts ck_T5 [] false 5 0 0 (0) (0) prog_6_method_11_code (some .long) Rt z) (fun z h => h) 10 _ ?_
    simp only [mm_nn2, mm_one, mm_grp, mm_a, mm_b, mm_c, mm_bop, mm_d, mm_e, mm_ld, mm_sw, mm_k, mm_rt, mm_get, mm_put, mm_put2, mm_two, mm_rf, ck_tg, ck_chold, ck_cneg, List.elem_cons, List.elem_nil, List.find?_cons, List.filter_cons, List.filter_nil, Option.map_some, Nat.reduceBEq, Nat.reduceAdd, Bool.or_false, Bool.false_or, Bool.or_true, Bool.true_or, beq_self_eq_true, Bool.not_false, Bool.not_true, Bool.and_true, Bool.true_and, Bool.and_false, Bool.false_and, Bool.false_eq_true, ↓reduceIte, Fin.isValue, mm_f0, mm_f1, mm_f2, mm_f3, Nat.zero_mod, Nat.reduceMod, Option.some.injEq, Sum.inl.injEq, Sum.inr.injEq, exists_eq_left', List.find?_nil, List.length_cons, List.length_nil, true_and, and_true, Nat.reduceLT, Nat.reduceEqDiff, Int.reduceLE, Int.reduceAdd, Int.reduceToNat, Int.cast_ofNat_Int, Int.reduceNeg, Nat.reduceBeqDiff, Nat.zero_add, Prod.mk.injEq, mm_si_n, mm_si_s, mm_si_r, Option.toList_some, Option.toList_none, List.cons_append, List.nil_append, exists_eq', exists_eq, reduceCtorEq, false_and, and_false, false_or, or_false, exists_false, eq_self, and_self, mm_si_i, Int.reduceLT, mm_go_s dd_Question_join_0, mm_go_s dd_Question_join_1, mm_go_s dd_Question_join_44, mm_go_s dd_Question_join_45, mm_go_s dd_Question_join_46, mm_go_s dd_Question_join_47, mm_go_s dd_Question_join_48, mm_go_s dd_Question_join_49, mm_go_s dd_Question_join_50, mm_go_s dd_Question_join_51, mm_go_s dd_Question_join_52, mm_go_s dd_Question_join_53, mm_go_s dd_Question_join_54, mm_go_s dd_Question_join_55, mm_go_s dd_Question_join_56, mm_go_s dd_Question_join_57, mm_go_s dd_Question_join_58, mm_go_s dd_Question_join_59, mm_go_s dd_Question_join_62, mm_go_s dd_Question_join_65, mm_go_s dd_Question_join_68, mm_go_s dd_Question_join_69, mm_go_s dd_Question_join_70, mm_go_s dd_Question_join_71, mm_go_s dd_Question_join_72, mm_go_s dd_Question_join_73, mm_go_s dd_Question_join_74, mm_go_s dd_Question_join_75, mm_go_s dd_Question_join_78, mm_go_s dd_Question_join_79, mm_go_s dd_Question_join_82, mm_go_s dd_Question_join_83, mm_go_s dd_Question_join_84, mm_go_s dd_Question_join_85, mm_go_s dd_Question_join_86, mm_go_s dd_Question_join_87, mm_go_s dd_Question_join_90, mm_go_s dd_Question_join_91, mm_go_s dd_Question_join_94, mm_go_s dd_Question_join_95, mm_go_s dd_Question_join_96, mm_go_s dd_Question_join_97, mm_go_s dd_Question_join_98, mm_go_s dd_Question_join_99, mm_go_s dd_Question_join_102, mm_go_s dd_Question_join_103, mm_go_s dd_Question_join_106, mm_go_s dd_Question_join_107, mm_go_s dd_Question_join_108, mm_go_s dd_Question_join_111, kt_0, kz]
    exact K _
  have t52 : mm_W vwCl ck_dt ck_mts ck_T5 [] false 5 0 0 (0) (0) prog_6_method_11_code (some .long) Rt (52, [(0, mm_I k), (1, mm_J a), (3, mm_J b)], [], h, 0, 0) := by
    refine mm_go_ok [] (N := fun z => mm_W vwCl ck_dt ck_mts ck_T5 [] false 5 0 0 (0) (0) prog_6_method_11_code (some .long) Rt z) (fun z h => h) 10 _ ?_
    simp only [mm_nn2, mm_one, mm_grp, mm_a, mm_b, mm_c, mm_bop, mm_d, mm_e, mm_ld, mm_sw, mm_k, mm_rt, mm_get, mm_put, mm_put2, mm_two, mm_rf, ck_tg, ck_chold, ck_cneg, List.elem_cons, List.elem_nil, List.find?_cons, List.filter_cons, List.filter_nil, Option.map_some, Nat.reduceBEq, Nat.reduceAdd, Bool.or_false, Bool.false_or, Bool.or_true, Bool.true_or, beq_self_eq_true, Bool.not_false, Bool.not_true, Bool.and_true, Bool.true_and, Bool.and_false, Bool.false_and, Bool.false_eq_true, ↓reduceIte, Fin.isValue, mm_f0, mm_f1, mm_f2, mm_f3, Nat.zero_mod, Nat.reduceMod, Option.some.injEq, Sum.inl.injEq, Sum.inr.injEq, exists_eq_left', List.find?_nil, List.length_cons, List.length_nil, true_and, and_true, Nat.reduceLT, Nat.reduceEqDiff, Int.reduceLE, Int.reduceAdd, Int.reduceToNat, Int.cast_ofNat_Int, Int.reduceNeg, Nat.reduceBeqDiff, Nat.zero_add, Prod.mk.injEq, mm_si_n, mm_si_s, mm_si_r, Option.toList_some, Option.toList_none, List.cons_append, List.nil_append, exists_eq', exists_eq, reduceCtorEq, false_and, and_false, false_or, or_false, exists_false, eq_self, and_self, mm_si_i, Int.reduceLT, mm_go_s dd_Question_join_0, mm_go_s dd_Question_join_1, mm_go_s dd_Question_join_44, mm_go_s dd_Question_join_45, mm_go_s dd_Question_join_46, mm_go_s dd_Question_join_47, mm_go_s dd_Question_join_48, mm_go_s dd_Question_join_49, mm_go_s dd_Question_join_50, mm_go_s dd_Question_join_51, mm_go_s dd_Question_join_52, mm_go_s dd_Question_join_53, mm_go_s dd_Question_join_54, mm_go_s dd_Question_join_55, mm_go_s dd_Question_join_56, mm_go_s dd_Question_join_57, mm_go_s dd_Question_join_58, mm_go_s dd_Question_join_59, mm_go_s dd_Question_join_62, mm_go_s dd_Question_join_65, mm_go_s dd_Question_join_68, mm_go_s dd_Question_join_69, mm_go_s dd_Question_join_70, mm_go_s dd_Question_join_71, mm_go_s dd_Question_join_72, mm_go_s dd_Question_join_73, mm_go_s dd_Question_join_74, mm_go_s dd_Question_join_75, mm_go_s dd_Question_join_78, mm_go_s dd_Question_join_79, mm_go_s dd_Question_join_82, mm_go_s dd_Question_join_83, mm_go_s dd_Question_join_84, mm_go_s dd_Question_join_85, mm_go_s dd_Question_join_86, mm_go_s dd_Question_join_87, mm_go_s dd_Question_join_90, mm_go_s dd_Question_join_91, mm_go_s dd_Question_join_94, mm_go_s dd_Question_join_95, mm_go_s dd_Question_join_96, mm_go_s dd_Question_join_97, mm_go_s dd_Question_join_98, mm_go_s dd_Question_join_99, mm_go_s dd_Question_join_102, mm_go_s dd_Question_join_103, mm_go_s dd_Question_join_106, mm_go_s dd_Question_join_107, mm_go_s dd_Question_join_108, mm_go_s dd_Question_join_111, kt_0, kz]
    exact K _
  have t56 : mm_W vwCl ck_dt ck_mts ck_T5 [] false 5 0 0 (0) (0) prog_6_method_11_code (some .long) Rt (56, [(0, mm_I k), (1, mm_J a), (3, mm_J b)], [], h, 0, 0) := by
    refine mm_go_ok [] (N := fun z => mm_W vwCl ck_dt ck_mts ck_T5 [] false 5 0 0 (0) (0) prog_6_method_11_code (some .long) Rt z) (fun z h => h) 14 _ ?_
    simp only [mm_nn2, mm_one, mm_grp, mm_a, mm_b, mm_c, mm_bop, mm_d, mm_e, mm_ld, mm_sw, mm_k, mm_rt, mm_get, mm_put, mm_put2, mm_two, mm_rf, ck_tg, ck_chold, ck_cneg, List.elem_cons, List.elem_nil, List.find?_cons, List.filter_cons, List.filter_nil, Option.map_some, Nat.reduceBEq, Nat.reduceAdd, Bool.or_false, Bool.false_or, Bool.or_true, Bool.true_or, beq_self_eq_true, Bool.not_false, Bool.not_true, Bool.and_true, Bool.true_and, Bool.and_false, Bool.false_and, Bool.false_eq_true, ↓reduceIte, Fin.isValue, mm_f0, mm_f1, mm_f2, mm_f3, Nat.zero_mod, Nat.reduceMod, Option.some.injEq, Sum.inl.injEq, Sum.inr.injEq, exists_eq_left', List.find?_nil, List.length_cons, List.length_nil, true_and, and_true, Nat.reduceLT, Nat.reduceEqDiff, Int.reduceLE, Int.reduceAdd, Int.reduceToNat, Int.cast_ofNat_Int, Int.reduceNeg, Nat.reduceBeqDiff, Nat.zero_add, Prod.mk.injEq, mm_si_n, mm_si_s, mm_si_r, Option.toList_some, Option.toList_none, List.cons_append, List.nil_append, exists_eq', exists_eq, reduceCtorEq, false_and, and_false, false_or, or_false, exists_false, eq_self, and_self, mm_si_i, Int.reduceLT, mm_go_s dd_Question_join_0, mm_go_s dd_Question_join_1, mm_go_s dd_Question_join_44, mm_go_s dd_Question_join_45, mm_go_s dd_Question_join_46, mm_go_s dd_Question_join_47, mm_go_s dd_Question_join_48, mm_go_s dd_Question_join_49, mm_go_s dd_Question_join_50, mm_go_s dd_Question_join_51, mm_go_s dd_Question_join_52, mm_go_s dd_Question_join_53, mm_go_s dd_Question_join_54, mm_go_s dd_Question_join_55, mm_go_s dd_Question_join_56, mm_go_s dd_Question_join_57, mm_go_s dd_Question_join_58, mm_go_s dd_Question_join_59, mm_go_s dd_Question_join_62, mm_go_s dd_Question_join_65, mm_go_s dd_Question_join_68, mm_go_s dd_Question_join_69, mm_go_s dd_Question_join_70, mm_go_s dd_Question_join_71, mm_go_s dd_Question_join_72, mm_go_s dd_Question_join_73, mm_go_s dd_Question_join_74, mm_go_s dd_Question_join_75, mm_go_s dd_Question_join_78, mm_go_s dd_Question_join_79, mm_go_s dd_Question_join_82, mm_go_s dd_Question_join_83, mm_go_s dd_Question_join_84, mm_go_s dd_Question_join_85, mm_go_s dd_Question_join_86, mm_go_s dd_Question_join_87, mm_go_s dd_Question_join_90, mm_go_s dd_Question_join_91, mm_go_s dd_Question_join_94, mm_go_s dd_Question_join_95, mm_go_s dd_Question_join_96, mm_go_s dd_Question_join_97, mm_go_s dd_Question_join_98, mm_go_s dd_Question_join_99, mm_go_s dd_Question_join_102, mm_go_s dd_Question_join_103, mm_go_s dd_Question_join_106, mm_go_s dd_Question_join_107, mm_go_s dd_Question_join_108, mm_go_s dd_Question_join_111, kt_0, kz, kj5_81]
    exact ⟨fun c => ⟨lg_cmp0 c, K _⟩, fun _ => K _⟩
  have t72 : mm_W vwCl ck_dt ck_mts ck_T5 [] false 5 0 0 (0) (0) prog_6_method_11_code (some .long) Rt (72, [(0, mm_I k), (1, mm_J a), (3, mm_J b)], [], h, 0, 0) := by
    refine mm_go_ok [] (N := fun z => mm_W vwCl ck_dt ck_mts ck_T5 [] false 5 0 0 (0) (0) prog_6_method_11_code (some .long) Rt z) (fun z h => h) 14 _ ?_
    simp only [mm_nn2, mm_one, mm_grp, mm_a, mm_b, mm_c, mm_bop, mm_d, mm_e, mm_ld, mm_sw, mm_k, mm_rt, mm_get, mm_put, mm_put2, mm_two, mm_rf, ck_tg, ck_chold, ck_cneg, List.elem_cons, List.elem_nil, List.find?_cons, List.filter_cons, List.filter_nil, Option.map_some, Nat.reduceBEq, Nat.reduceAdd, Bool.or_false, Bool.false_or, Bool.or_true, Bool.true_or, beq_self_eq_true, Bool.not_false, Bool.not_true, Bool.and_true, Bool.true_and, Bool.and_false, Bool.false_and, Bool.false_eq_true, ↓reduceIte, Fin.isValue, mm_f0, mm_f1, mm_f2, mm_f3, Nat.zero_mod, Nat.reduceMod, Option.some.injEq, Sum.inl.injEq, Sum.inr.injEq, exists_eq_left', List.find?_nil, List.length_cons, List.length_nil, true_and, and_true, Nat.reduceLT, Nat.reduceEqDiff, Int.reduceLE, Int.reduceAdd, Int.reduceToNat, Int.cast_ofNat_Int, Int.reduceNeg, Nat.reduceBeqDiff, Nat.zero_add, Prod.mk.injEq, mm_si_n, mm_si_s, mm_si_r, Option.toList_some, Option.toList_none, List.cons_append, List.nil_append, exists_eq', exists_eq, reduceCtorEq, false_and, and_false, false_or, or_false, exists_false, eq_self, and_self, mm_si_i, Int.reduceLT, mm_go_s dd_Question_join_0, mm_go_s dd_Question_join_1, mm_go_s dd_Question_join_44, mm_go_s dd_Question_join_45, mm_go_s dd_Question_join_46, mm_go_s dd_Question_join_47, mm_go_s dd_Question_join_48, mm_go_s dd_Question_join_49, mm_go_s dd_Question_join_50, mm_go_s dd_Question_join_51, mm_go_s dd_Question_join_52, mm_go_s dd_Question_join_53, mm_go_s dd_Question_join_54, mm_go_s dd_Question_join_55, mm_go_s dd_Question_join_56, mm_go_s dd_Question_join_57, mm_go_s dd_Question_join_58, mm_go_s dd_Question_join_59, mm_go_s dd_Question_join_62, mm_go_s dd_Question_join_65, mm_go_s dd_Question_join_68, mm_go_s dd_Question_join_69, mm_go_s dd_Question_join_70, mm_go_s dd_Question_join_71, mm_go_s dd_Question_join_72, mm_go_s dd_Question_join_73, mm_go_s dd_Question_join_74, mm_go_s dd_Question_join_75, mm_go_s dd_Question_join_78, mm_go_s dd_Question_join_79, mm_go_s dd_Question_join_82, mm_go_s dd_Question_join_83, mm_go_s dd_Question_join_84, mm_go_s dd_Question_join_85, mm_go_s dd_Question_join_86, mm_go_s dd_Question_join_87, mm_go_s dd_Question_join_90, mm_go_s dd_Question_join_91, mm_go_s dd_Question_join_94, mm_go_s dd_Question_join_95, mm_go_s dd_Question_join_96, mm_go_s dd_Question_join_97, mm_go_s dd_Question_join_98, mm_go_s dd_Question_join_99, mm_go_s dd_Question_join_102, mm_go_s dd_Question_join_103, mm_go_s dd_Question_join_106, mm_go_s dd_Question_join_107, mm_go_s dd_Question_join_108, mm_go_s dd_Question_join_111, kt_0, kz]
    exact ⟨fun _ => K _, fun _ => K _⟩
  have t84 : mm_W vwCl ck_dt ck_mts ck_T5 [] false 5 0 0 (0) (0) prog_6_method_11_code (some .long) Rt (84, [(0, mm_I k), (1, mm_J a), (3, mm_J b)], [], h, 0, 0) := by
    refine mm_go_ok [] (N := fun z => mm_W vwCl ck_dt ck_mts ck_T5 [] false 5 0 0 (0) (0) prog_6_method_11_code (some .long) Rt z) (fun z h => h) 14 _ ?_
    simp only [mm_nn2, mm_one, mm_grp, mm_a, mm_b, mm_c, mm_bop, mm_d, mm_e, mm_ld, mm_sw, mm_k, mm_rt, mm_get, mm_put, mm_put2, mm_two, mm_rf, ck_tg, ck_chold, ck_cneg, List.elem_cons, List.elem_nil, List.find?_cons, List.filter_cons, List.filter_nil, Option.map_some, Nat.reduceBEq, Nat.reduceAdd, Bool.or_false, Bool.false_or, Bool.or_true, Bool.true_or, beq_self_eq_true, Bool.not_false, Bool.not_true, Bool.and_true, Bool.true_and, Bool.and_false, Bool.false_and, Bool.false_eq_true, ↓reduceIte, Fin.isValue, mm_f0, mm_f1, mm_f2, mm_f3, Nat.zero_mod, Nat.reduceMod, Option.some.injEq, Sum.inl.injEq, Sum.inr.injEq, exists_eq_left', List.find?_nil, List.length_cons, List.length_nil, true_and, and_true, Nat.reduceLT, Nat.reduceEqDiff, Int.reduceLE, Int.reduceAdd, Int.reduceToNat, Int.cast_ofNat_Int, Int.reduceNeg, Nat.reduceBeqDiff, Nat.zero_add, Prod.mk.injEq, mm_si_n, mm_si_s, mm_si_r, Option.toList_some, Option.toList_none, List.cons_append, List.nil_append, exists_eq', exists_eq, reduceCtorEq, false_and, and_false, false_or, or_false, exists_false, eq_self, and_self, mm_si_i, Int.reduceLT, mm_go_s dd_Question_join_0, mm_go_s dd_Question_join_1, mm_go_s dd_Question_join_44, mm_go_s dd_Question_join_45, mm_go_s dd_Question_join_46, mm_go_s dd_Question_join_47, mm_go_s dd_Question_join_48, mm_go_s dd_Question_join_49, mm_go_s dd_Question_join_50, mm_go_s dd_Question_join_51, mm_go_s dd_Question_join_52, mm_go_s dd_Question_join_53, mm_go_s dd_Question_join_54, mm_go_s dd_Question_join_55, mm_go_s dd_Question_join_56, mm_go_s dd_Question_join_57, mm_go_s dd_Question_join_58, mm_go_s dd_Question_join_59, mm_go_s dd_Question_join_62, mm_go_s dd_Question_join_65, mm_go_s dd_Question_join_68, mm_go_s dd_Question_join_69, mm_go_s dd_Question_join_70, mm_go_s dd_Question_join_71, mm_go_s dd_Question_join_72, mm_go_s dd_Question_join_73, mm_go_s dd_Question_join_74, mm_go_s dd_Question_join_75, mm_go_s dd_Question_join_78, mm_go_s dd_Question_join_79, mm_go_s dd_Question_join_82, mm_go_s dd_Question_join_83, mm_go_s dd_Question_join_84, mm_go_s dd_Question_join_85, mm_go_s dd_Question_join_86, mm_go_s dd_Question_join_87, mm_go_s dd_Question_join_90, mm_go_s dd_Question_join_91, mm_go_s dd_Question_join_94, mm_go_s dd_Question_join_95, mm_go_s dd_Question_join_96, mm_go_s dd_Question_join_97, mm_go_s dd_Question_join_98, mm_go_s dd_Question_join_99, mm_go_s dd_Question_join_102, mm_go_s dd_Question_join_103, mm_go_s dd_Question_join_106, mm_go_s dd_Question_join_107, mm_go_s dd_Question_join_108, mm_go_s dd_Question_join_111, kt_0, kz]
    exact ⟨fun _ => K _, fun _ => K _⟩
  have t96 : mm_W vwCl ck_dt ck_mts ck_T5 [] false 5 0 0 (0) (0) prog_6_method_11_code (some .long) Rt (96, [(0, mm_I k), (1, mm_J a), (3, mm_J b)], [], h, 0, 0) := by
    refine mm_go_ok [] (N := fun z => mm_W vwCl ck_dt ck_mts ck_T5 [] false 5 0 0 (0) (0) prog_6_method_11_code (some .long) Rt z) (fun z h => h) 14 _ ?_
    simp only [mm_nn2, mm_one, mm_grp, mm_a, mm_b, mm_c, mm_bop, mm_d, mm_e, mm_ld, mm_sw, mm_k, mm_rt, mm_get, mm_put, mm_put2, mm_two, mm_rf, ck_tg, ck_chold, ck_cneg, List.elem_cons, List.elem_nil, List.find?_cons, List.filter_cons, List.filter_nil, Option.map_some, Nat.reduceBEq, Nat.reduceAdd, Bool.or_false, Bool.false_or, Bool.or_true, Bool.true_or, beq_self_eq_true, Bool.not_false, Bool.not_true, Bool.and_true, Bool.true_and, Bool.and_false, Bool.false_and, Bool.false_eq_true, ↓reduceIte, Fin.isValue, mm_f0, mm_f1, mm_f2, mm_f3, Nat.zero_mod, Nat.reduceMod, Option.some.injEq, Sum.inl.injEq, Sum.inr.injEq, exists_eq_left', List.find?_nil, List.length_cons, List.length_nil, true_and, and_true, Nat.reduceLT, Nat.reduceEqDiff, Int.reduceLE, Int.reduceAdd, Int.reduceToNat, Int.cast_ofNat_Int, Int.reduceNeg, Nat.reduceBeqDiff, Nat.zero_add, Prod.mk.injEq, mm_si_n, mm_si_s, mm_si_r, Option.toList_some, Option.toList_none, List.cons_append, List.nil_append, exists_eq', exists_eq, reduceCtorEq, false_and, and_false, false_or, or_false, exists_false, eq_self, and_self, mm_si_i, Int.reduceLT, mm_go_s dd_Question_join_0, mm_go_s dd_Question_join_1, mm_go_s dd_Question_join_44, mm_go_s dd_Question_join_45, mm_go_s dd_Question_join_46, mm_go_s dd_Question_join_47, mm_go_s dd_Question_join_48, mm_go_s dd_Question_join_49, mm_go_s dd_Question_join_50, mm_go_s dd_Question_join_51, mm_go_s dd_Question_join_52, mm_go_s dd_Question_join_53, mm_go_s dd_Question_join_54, mm_go_s dd_Question_join_55, mm_go_s dd_Question_join_56, mm_go_s dd_Question_join_57, mm_go_s dd_Question_join_58, mm_go_s dd_Question_join_59, mm_go_s dd_Question_join_62, mm_go_s dd_Question_join_65, mm_go_s dd_Question_join_68, mm_go_s dd_Question_join_69, mm_go_s dd_Question_join_70, mm_go_s dd_Question_join_71, mm_go_s dd_Question_join_72, mm_go_s dd_Question_join_73, mm_go_s dd_Question_join_74, mm_go_s dd_Question_join_75, mm_go_s dd_Question_join_78, mm_go_s dd_Question_join_79, mm_go_s dd_Question_join_82, mm_go_s dd_Question_join_83, mm_go_s dd_Question_join_84, mm_go_s dd_Question_join_85, mm_go_s dd_Question_join_86, mm_go_s dd_Question_join_87, mm_go_s dd_Question_join_90, mm_go_s dd_Question_join_91, mm_go_s dd_Question_join_94, mm_go_s dd_Question_join_95, mm_go_s dd_Question_join_96, mm_go_s dd_Question_join_97, mm_go_s dd_Question_join_98, mm_go_s dd_Question_join_99, mm_go_s dd_Question_join_102, mm_go_s dd_Question_join_103, mm_go_s dd_Question_join_106, mm_go_s dd_Question_join_107, mm_go_s dd_Question_join_108, mm_go_s dd_Question_join_111, kt_0, kz]
    exact ⟨fun _ => K _, fun _ => K _⟩
  have t108 : mm_W vwCl ck_dt ck_mts ck_T5 [] false 5 0 0 (0) (0) prog_6_method_11_code (some .long) Rt (108, [(0, mm_I k), (1, mm_J a), (3, mm_J b)], [], h, 0, 0) := by
    refine mm_go_ok [] (N := fun z => mm_W vwCl ck_dt ck_mts ck_T5 [] false 5 0 0 (0) (0) prog_6_method_11_code (some .long) Rt z) (fun z h => h) 14 _ ?_
    simp only [mm_nn2, mm_one, mm_grp, mm_a, mm_b, mm_c, mm_bop, mm_d, mm_e, mm_ld, mm_sw, mm_k, mm_rt, mm_get, mm_put, mm_put2, mm_two, mm_rf, ck_tg, ck_chold, ck_cneg, List.elem_cons, List.elem_nil, List.find?_cons, List.filter_cons, List.filter_nil, Option.map_some, Nat.reduceBEq, Nat.reduceAdd, Bool.or_false, Bool.false_or, Bool.or_true, Bool.true_or, beq_self_eq_true, Bool.not_false, Bool.not_true, Bool.and_true, Bool.true_and, Bool.and_false, Bool.false_and, Bool.false_eq_true, ↓reduceIte, Fin.isValue, mm_f0, mm_f1, mm_f2, mm_f3, Nat.zero_mod, Nat.reduceMod, Option.some.injEq, Sum.inl.injEq, Sum.inr.injEq, exists_eq_left', List.find?_nil, List.length_cons, List.length_nil, true_and, and_true, Nat.reduceLT, Nat.reduceEqDiff, Int.reduceLE, Int.reduceAdd, Int.reduceToNat, Int.cast_ofNat_Int, Int.reduceNeg, Nat.reduceBeqDiff, Nat.zero_add, Prod.mk.injEq, mm_si_n, mm_si_s, mm_si_r, Option.toList_some, Option.toList_none, List.cons_append, List.nil_append, exists_eq', exists_eq, reduceCtorEq, false_and, and_false, false_or, or_false, exists_false, eq_self, and_self, mm_si_i, Int.reduceLT, mm_go_s dd_Question_join_0, mm_go_s dd_Question_join_1, mm_go_s dd_Question_join_44, mm_go_s dd_Question_join_45, mm_go_s dd_Question_join_46, mm_go_s dd_Question_join_47, mm_go_s dd_Question_join_48, mm_go_s dd_Question_join_49, mm_go_s dd_Question_join_50, mm_go_s dd_Question_join_51, mm_go_s dd_Question_join_52, mm_go_s dd_Question_join_53, mm_go_s dd_Question_join_54, mm_go_s dd_Question_join_55, mm_go_s dd_Question_join_56, mm_go_s dd_Question_join_57, mm_go_s dd_Question_join_58, mm_go_s dd_Question_join_59, mm_go_s dd_Question_join_62, mm_go_s dd_Question_join_65, mm_go_s dd_Question_join_68, mm_go_s dd_Question_join_69, mm_go_s dd_Question_join_70, mm_go_s dd_Question_join_71, mm_go_s dd_Question_join_72, mm_go_s dd_Question_join_73, mm_go_s dd_Question_join_74, mm_go_s dd_Question_join_75, mm_go_s dd_Question_join_78, mm_go_s dd_Question_join_79, mm_go_s dd_Question_join_82, mm_go_s dd_Question_join_83, mm_go_s dd_Question_join_84, mm_go_s dd_Question_join_85, mm_go_s dd_Question_join_86, mm_go_s dd_Question_join_87, mm_go_s dd_Question_join_90, mm_go_s dd_Question_join_91, mm_go_s dd_Question_join_94, mm_go_s dd_Question_join_95, mm_go_s dd_Question_join_96, mm_go_s dd_Question_join_97, mm_go_s dd_Question_join_98, mm_go_s dd_Question_join_99, mm_go_s dd_Question_join_102, mm_go_s dd_Question_join_103, mm_go_s dd_Question_join_106, mm_go_s dd_Question_join_107, mm_go_s dd_Question_join_108, mm_go_s dd_Question_join_111, kt_0, kz, kj5_81]
    exact K _
  refine mm_go_ok [1] (N := fun z => mm_W vwCl ck_dt ck_mts ck_T5 [] false 5 0 0 (0) (0) prog_6_method_11_code (some .long) Rt z) (fun z h => h) 2 _ ?_
  simp only [mm_nn2, mm_one, mm_grp, mm_a, mm_b, mm_c, mm_bop, mm_d, mm_e, mm_ld, mm_sw, mm_k, mm_rt, mm_get, mm_put, mm_put2, mm_two, mm_rf, ck_tg, ck_chold, ck_cneg, List.elem_cons, List.elem_nil, List.find?_cons, List.filter_cons, List.filter_nil, Option.map_some, Nat.reduceBEq, Nat.reduceAdd, Bool.or_false, Bool.false_or, Bool.or_true, Bool.true_or, beq_self_eq_true, Bool.not_false, Bool.not_true, Bool.and_true, Bool.true_and, Bool.and_false, Bool.false_and, Bool.false_eq_true, ↓reduceIte, Fin.isValue, mm_f0, mm_f1, mm_f2, mm_f3, Nat.zero_mod, Nat.reduceMod, Option.some.injEq, Sum.inl.injEq, Sum.inr.injEq, exists_eq_left', List.find?_nil, List.length_cons, List.length_nil, true_and, and_true, Nat.reduceLT, Nat.reduceEqDiff, Int.reduceLE, Int.reduceAdd, Int.reduceToNat, Int.cast_ofNat_Int, Int.reduceNeg, Nat.reduceBeqDiff, Nat.zero_add, Prod.mk.injEq, mm_si_n, mm_si_s, mm_si_r, Option.toList_some, Option.toList_none, List.cons_append, List.nil_append, exists_eq', exists_eq, reduceCtorEq, false_and, and_false, false_or, or_false, exists_false, eq_self, and_self, mm_si_i, Int.reduceLT, mm_go_s dd_Question_join_0, mm_go_s dd_Question_join_1, mm_go_s dd_Question_join_44, mm_go_s dd_Question_join_45, mm_go_s dd_Question_join_46, mm_go_s dd_Question_join_47, mm_go_s dd_Question_join_48, mm_go_s dd_Question_join_49, mm_go_s dd_Question_join_50, mm_go_s dd_Question_join_51, mm_go_s dd_Question_join_52, mm_go_s dd_Question_join_53, mm_go_s dd_Question_join_54, mm_go_s dd_Question_join_55, mm_go_s dd_Question_join_56, mm_go_s dd_Question_join_57, mm_go_s dd_Question_join_58, mm_go_s dd_Question_join_59, mm_go_s dd_Question_join_62, mm_go_s dd_Question_join_65, mm_go_s dd_Question_join_68, mm_go_s dd_Question_join_69, mm_go_s dd_Question_join_70, mm_go_s dd_Question_join_71, mm_go_s dd_Question_join_72, mm_go_s dd_Question_join_73, mm_go_s dd_Question_join_74, mm_go_s dd_Question_join_75, mm_go_s dd_Question_join_78, mm_go_s dd_Question_join_79, mm_go_s dd_Question_join_82, mm_go_s dd_Question_join_83, mm_go_s dd_Question_join_84, mm_go_s dd_Question_join_85, mm_go_s dd_Question_join_86, mm_go_s dd_Question_join_87, mm_go_s dd_Question_join_90, mm_go_s dd_Question_join_91, mm_go_s dd_Question_join_94, mm_go_s dd_Question_join_95, mm_go_s dd_Question_join_96, mm_go_s dd_Question_join_97, mm_go_s dd_Question_join_98, mm_go_s dd_Question_join_99, mm_go_s dd_Question_join_102, mm_go_s dd_Question_join_103, mm_go_s dd_Question_join_106, mm_go_s dd_Question_join_107, mm_go_s dd_Question_join_108, mm_go_s dd_Question_join_111, kt_0, kz]
  refine mm_W.of ⟨_, dd_Question_join_1, .inr (.inr (.inr (.inr (.inl ⟨by decide, by show (0 : Int) ≤ ((1 : Nat) : Int) + 107; decide, fun _ => t108, fun j o hj _ => ?_⟩))))⟩
  match j, hj with
  | 0, hj => cases hj; exact ⟨by show (0 : Int) ≤ ((1 : Nat) : Int) + 43; decide, t44⟩
  | 1, hj => cases hj; exact ⟨by show (0 : Int) ≤ ((1 : Nat) : Int) + 47; decide, t48⟩
  | 2, hj => cases hj; exact ⟨by show (0 : Int) ≤ ((1 : Nat) : Int) + 51; decide, t52⟩
  | 3, hj => cases hj; exact ⟨by show (0 : Int) ≤ ((1 : Nat) : Int) + 55; decide, t56⟩
  | 4, hj => cases hj; exact ⟨by show (0 : Int) ≤ ((1 : Nat) : Int) + 71; decide, t72⟩
  | 5, hj => cases hj; exact ⟨by show (0 : Int) ≤ ((1 : Nat) : Int) + 83; decide, t84⟩
  | 6, hj => cases hj; exact ⟨by show (0 : Int) ≤ ((1 : Nat) : Int) + 95; decide, t96⟩
  | j + 7, hj => simp at hj
def hc_join : mm_C := (70, (0, 0, 0, 0), (fun us _ => ∃ (k : Int32) (a b : Int64), us = [mm_I k, mm_J a, mm_J b]), fun _ h r h' => h = h' ∧ ∃ w, r = some (mm_J w))
theorem hk_join (l : Launch) (D : va_G) (st : Nat → Nat)   : hh_Met l D st (hc_join ) := by
  refine mm_sound (T := ck_T5) (cs := []) l ck_TSgood ck_okCl ck_okDt (M0 := ck_m70) rfl (by decide +kernel) ck_okT5 ck_nil ?_
  rintro us h - ⟨k, a, b, rfl⟩
  exact ⟨Nat.le_of_ble_eq_true rfl, hh_join k a b h (fun w => ⟨Nat.le_refl _, Nat.le_refl _, Nat.le_refl _, rfl, w, rfl⟩)⟩

