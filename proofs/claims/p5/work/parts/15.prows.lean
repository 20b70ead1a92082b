/-! THE PURE MACHINE, 4: rows, what is made, constants, what the library does -/
section MMR
variable {p : Program} {l : Launch} {e : Env} {R : Room} {s : State} {m : MethodId} {args : Array Value} {below : List Frame} {meth : Method} {c : Code} {Q : State → Prop}
variable {cc : ByteArray} {D : va_G} {cl : List vw_C} {dt : List (List FieldType)} {st : Nat → Nat} {A : Nat → Prop} {nL n0 : Nat} {a0 : Nat → Nat}
variable {L : List (Nat × mm_v)} {S S' : List mm_v} {h : mm_h} {mc ms : Nat} {a : Nat → Nat} {ws : va_W} {tys : List (ClassId × FieldType)} {H : Heap} {locs : List Loc} {ls : Array Slot} {vs : List Value} {pc : Nat} {N : mm_s → Prop}
variable {Ts : List Cond} {AO : List String} {own : String}
theorem mm_vin {x : Int32} {n : Nat} (h0 : 0 ≤ x.toInt) (h1 : x.toInt < (n : Int)) : vp_in x n := vp_in_iff.mpr ⟨h0, h1⟩
def mm_ld (pc : Nat) (i : Instr × Nat) (L : List (Nat × mm_v)) (S : List mm_v) (h : mm_h) (k : Nat × Nat) (N : mm_s → Prop) : Prop := match i, S with
  | (.iaload, 1), .inl x :: .inr (.inr (.inl (some i))) :: S => i < h.1 ∧ ∃ n, h.2.1 i = .inr (.int, n) ∧ 0 ≤ x.toInt ∧ x.toInt < (n : Int) ∧ N (pc + 1, L, mm_I (h.2.2.1 i x.toInt.toNat) :: S, h, k)
  | (.baload, 1), .inl x :: .inr (.inr (.inl (some i))) :: S => i < h.1 ∧ ∃ n, (h.2.1 i = .inr (.byte, n) ∨ h.2.1 i = .inr (.boolean, n)) ∧ 0 ≤ x.toInt ∧ x.toInt < (n : Int) ∧ N (pc + 1, L, mm_I (h.2.2.1 i x.toInt.toNat) :: S, h, k)
  | (.aaload, 1), .inl x :: .inr (.inr (.inl (some i))) :: S => i < h.1 ∧ ∃ C n, h.2.1 i = .inr (.object C, n) ∧ 0 ≤ x.toInt ∧ x.toInt < (n : Int) ∧ N (pc + 1, L, mm_A (h.2.2.2 i x.toInt.toNat) :: S, h, k)
  | (.laload, 1), .inl x :: .inr (.inr (.inl (some i))) :: S => i < h.1 ∧ ∃ n, h.2.1 i = .inr (.long, n) ∧ 0 ≤ x.toInt ∧ x.toInt < (n : Int) ∧ ∀ y, N (pc + 1, L, mm_J y :: S, h, k)
  | (.arraylength, 1), .inr (.inr (.inl (some i))) :: S => i < h.1 ∧ ∃ r, h.2.1 i = .inr r ∧ N (pc + 1, L, mm_I (Int32.ofNat r.2) :: S, h, k)
  | _, _ => False
theorem mm_ld_ok {i : Instr × Nat} (hx : p.tables.exec = Jvm.exec) (hb : c.code = cc) (hd : decode cc pc = .ok i) (hi : mm_ld pc i L S h (mc, ms) N) (hG : mm_G D cl dt st A s nL n0 a0 L S h a ws tys H locs ls vs) (K : ∀ x, N x → mm_K p l e R s m args below meth c Q D cl dt st A nL n0 a0 x) : W p l e R s m args below meth c H locs mc ms Q (F0 m pc ls vs) := by
  have ev := hG.evs
  subst ev
  have hR := hG.1
  have hK := hG.2.2.2.2.1
  have hP := hG.2.2.2.2.2.1
  unfold mm_ld at hi
  split at hi
  · obtain ⟨h1, n, h2, h3, h4, h5⟩ := hi
    obtain ⟨cA, cn, t, g1, g2, g3⟩ := hR.row h1 h2
    rcases cn with f | cn
    · have ef : f = h.2.2.1 _ := g3
      subst ef
      exact va_iald hx hb hK hP _ t g1 g2 (mm_vin h3 h4) hd (K _ h5 a ws tys H locs ls _ (hG.tl2.psh trivial))
    · exact g3.elim
  · obtain ⟨h1, n, h2, h3, h4, h5⟩ := hi
    rcases h2 with h2 | h2
    · obtain ⟨cA, cn, t, g1, g2, g3⟩ := hR.row h1 h2
      rcases cn with f | cn
      · have ef : f = h.2.2.1 _ := g3
        subst ef
        exact va_bald hx hb hK hP _ t g1 g2 (mm_vin h3 h4) hd (K _ h5 a ws tys H locs ls _ (hG.tl2.psh trivial))
      · exact g3.elim
    · obtain ⟨cA, cn, t, g1, g2, g3⟩ := hR.row h1 h2
      rcases cn with f | cn
      · have ef : f = h.2.2.1 _ := g3
        subst ef
        exact va_zald hx hb hK hP _ t g1 g2 (mm_vin h3 h4) hd (K _ h5 a ws tys H locs ls _ (hG.tl2.psh trivial))
      · exact g3.elim
  · obtain ⟨h1, C, n, h2, h3, h4, h5⟩ := hi
    obtain ⟨cA, cn, t, g1, g2, g3⟩ := hR.row h1 h2
    rcases cn with f | f | f | f | f
    · exact g3.elim
    · exact g3.elim
    · exact g3.elim
    · exact g3.elim
    · have ef : f = fun k => (h.2.2.2 _ k).map a := g3
      subst ef
      refine va_aldq hx hb hK hP _ t g1 g2 (mm_vin h3 h4) hd (K _ h5 a ws tys H locs ls _ (hG.tl2.psh ?_))
      show mm_in h.1 (mm_A (h.2.2.2 _ _))
      cases hk : h.2.2.2 _ _ with
      | none => trivial
      | some j => exact (hR.2 _ h1).2 _ j hk
  · obtain ⟨h1, n, h2, h3, h4, h5⟩ := hi
    obtain ⟨cA, cn, t, g1, g2, g3⟩ := hR.row h1 h2
    rcases cn with f | f | cn
    · exact g3.elim
    · exact va_lald hx hb hK hP _ t g1 g2 (mm_vin h3 h4) hd (K _ (h5 _) a ws tys H locs ls _ (hG.tl2.psh trivial))
    · exact g3.elim
  · obtain ⟨h1, r, h2, h5⟩ := hi
    obtain ⟨cA, cn, t, g1, g2, g3⟩ := hR.row h1 h2
    exact va_alen hx hb hK hP _ t g1 g2 rfl hd (K _ h5 a ws tys H locs ls _ (hG.tl.psh trivial))
  · exact hi.elim
def mm_sw (cl : List vw_C) (pc : Nat) (i : Instr × Nat) (L : List (Nat × mm_v)) (S : List mm_v) (h : mm_h) (k : Nat × Nat) (N : mm_s → Prop) : Prop := match i, S with
  | (.iastore, 1), .inl y :: .inl x :: .inr (.inr (.inl (some i))) :: S => i < h.1 ∧ ∃ n, h.2.1 i = .inr (.int, n) ∧ 0 ≤ x.toInt ∧ x.toInt < (n : Int) ∧ N (pc + 1, L, S, mm_si h i x.toInt.toNat y, k)
  | (.bastore, 1), .inl y :: .inl x :: .inr (.inr (.inl (some i))) :: S => i < h.1 ∧ ∃ t n, (t = .byte ∨ t = .boolean) ∧ h.2.1 i = .inr (t, n) ∧ 0 ≤ x.toInt ∧ x.toInt < (n : Int) ∧ N (pc + 1, L, S, mm_si h i x.toInt.toNat (vp_nar t y), k)
  | (.lastore, 1), .inr (.inl _) :: .inl x :: .inr (.inr (.inl (some i))) :: S => i < h.1 ∧ ∃ n, h.2.1 i = .inr (.long, n) ∧ 0 ≤ x.toInt ∧ x.toInt < (n : Int) ∧ N (pc + 1, L, S, h, k)
  | (.aastore, 1), .inr (.inr (.inl none)) :: .inl x :: .inr (.inr (.inl (some i))) :: S => i < h.1 ∧ ∃ C n, h.2.1 i = .inr (.object C, n) ∧ 0 ≤ x.toInt ∧ x.toInt < (n : Int) ∧ N (pc + 1, L, S, mm_sr h i x.toInt.toNat none, k)
  | (.aastore, 1), .inr (.inr (.inl (some j))) :: .inl x :: .inr (.inr (.inl (some i))) :: S => i < h.1 ∧ j < h.1 ∧ ∃ (r : vw_C) (o : Nat × Nat) (n : Nat), h.2.1 i = .inr (.object r.1, n) ∧ h.2.1 j = .inl o ∧ cl[o.1]? = some r ∧ 0 ≤ x.toInt ∧ x.toInt < (n : Int) ∧ N (pc + 1, L, S, mm_sr h i x.toInt.toNat (some j), k)
  | _, _ => False
theorem mm_si_row (h : mm_h) (i k : Nat) (y : Int32) : (mm_si h i k y).2.2.1 i = upd (h.2.2.1 i) k y := funext fun q => by
  show (if i = i ∧ q = k then y else h.2.2.1 i q) = if q = k then y else h.2.2.1 i q
  by_cases hq : q = k
  · rw [if_pos ⟨rfl, hq⟩, if_pos hq]
  · rw [if_neg (fun z => hq z.2), if_neg hq]
theorem mm_si_oth (h : mm_h) (i k : Nat) (y : Int32) : ∀ j, j ≠ i → (mm_si h i k y).2.2.1 j = h.2.2.1 j ∧ (mm_si h i k y).2.2.2 j = h.2.2.2 j := fun j hj => ⟨funext fun q => by
  show (if j = i ∧ q = k then y else h.2.2.1 j q) = _
  rw [if_neg (fun z => hj z.1)], rfl⟩
theorem mm_sr_row (h : mm_h) (a : Nat → Nat) (i k : Nat) (r : Option Nat) : (fun q => ((mm_sr h i k r).2.2.2 i q).map a) = va_up (fun q => (h.2.2.2 i q).map a) k (r.map a) := funext fun q => by
  show (if i = i ∧ q = k then r else h.2.2.2 i q).map a = if q = k then r.map a else (h.2.2.2 i q).map a
  by_cases hq : q = k
  · rw [if_pos ⟨rfl, hq⟩, if_pos hq]
  · rw [if_neg (fun z => hq z.2), if_neg hq]
theorem mm_sr_oth (h : mm_h) (i k : Nat) (r : Option Nat) : ∀ j, j ≠ i → (mm_sr h i k r).2.2.1 j = h.2.2.1 j ∧ (mm_sr h i k r).2.2.2 j = h.2.2.2 j := fun j hj => ⟨rfl, funext fun q => by
  show (if j = i ∧ q = k then r else h.2.2.2 j q) = _
  rw [if_neg (fun z => hj z.1)]⟩
theorem mm_sr_in {i k : Nat} {r : Option Nat} (hr : ∀ j, r = some j → j < h.1) (h0 : ∀ (k j : Nat), h.2.2.2 i k = some j → j < h.1) : ∀ (q j : Nat), (mm_sr h i k r).2.2.2 i q = some j → j < h.1 := fun q j hq => by
  have hq' : (if i = i ∧ q = k then r else h.2.2.2 i q) = some j := hq
  by_cases hk : q = k
  · rw [if_pos ⟨rfl, hk⟩] at hq'; exact hr j hq'
  · rw [if_neg (fun z => hk z.2)] at hq'; exact h0 q j hq'
theorem mm_sw_ok {i : Instr × Nat} (hx : p.tables.exec = Jvm.exec) (hb : c.code = cc) (hd : decode cc pc = .ok i) (hi : mm_sw cl pc i L S h (mc, ms) N) (hG : mm_G D cl dt st A s nL n0 a0 L S h a ws tys H locs ls vs) (K : ∀ x, N x → mm_K p l e R s m args below meth c Q D cl dt st A nL n0 a0 x) : W p l e R s m args below meth c H locs mc ms Q (F0 m pc ls vs) := by
  have ev := hG.evs
  subst ev
  have hR := hG.1
  have hK := hG.2.2.2.2.1
  have hP := hG.2.2.2.2.2.1
  have hD := hG.2.2.2.2.2.2.1
  have hS := hG.2.2.2.2.2.2.2.1
  unfold mm_sw at hi
  split at hi
  · obtain ⟨h1, n, h2, h3, h4, h5⟩ := hi
    obtain ⟨cA, cn, t, g1, g2, g3⟩ := hR.row h1 h2
    rcases cn with f | cn
    · have ef : f = h.2.2.1 _ := g3
      subst ef
      exact va_iast hx hb hK hP hD hS _ t g1 g2 (mm_vin h3 h4) hd (fun H1 locs1 hP1 hD1 hS1 => K _ h5 a _ tys H1 locs1 ls _ (hG.tl2.tl.chg rfl (hR.set h1 rfl rfl (mm_si_oth h _ _ _) (by rw [h2, mm_si_row]; exact ⟨cA, _, rfl, ⟨t, g2⟩, rfl⟩) (hR.2 _ h1).2) hP1 hD1 hS1))
    · exact g3.elim
  · obtain ⟨h1, t0, n, h0, h2, h3, h4, h5⟩ := hi
    obtain ⟨cA, cn, t, g1, g2, g3⟩ := hR.row h1 h2
    rcases cn with f | cn
    · rcases h0 with rfl | rfl
      · have ef : f = h.2.2.1 _ := g3
        subst ef
        exact va_bast hx hb hK hP hD hS _ t g1 g2 (mm_vin h3 h4) hd (fun H1 locs1 hP1 hD1 hS1 => K _ h5 a _ tys H1 locs1 ls _ (hG.tl2.tl.chg rfl (hR.set h1 rfl rfl (mm_si_oth h _ _ _) (by rw [h2, mm_si_row]; exact ⟨cA, _, rfl, ⟨t, g2⟩, rfl⟩) (hR.2 _ h1).2) hP1 hD1 hS1))
      · have ef : f = h.2.2.1 _ := g3
        subst ef
        exact va_zast hx hb hK hP hD hS _ t g1 g2 (mm_vin h3 h4) hd (fun H1 locs1 hP1 hD1 hS1 => K _ h5 a _ tys H1 locs1 ls _ (hG.tl2.tl.chg rfl (hR.set h1 rfl rfl (mm_si_oth h _ _ _) (by rw [h2, mm_si_row]; exact ⟨cA, _, rfl, ⟨t, g2⟩, rfl⟩) (hR.2 _ h1).2) hP1 hD1 hS1))
    · rcases h0 with rfl | rfl <;> exact g3.elim
  · obtain ⟨h1, n, h2, h3, h4, h5⟩ := hi
    obtain ⟨cA, cn, t, g1, g2, g3⟩ := hR.row h1 h2
    rcases cn with f | f | cn
    · exact g3.elim
    · exact va_last hx hb hK hP hD hS _ t g1 g2 (mm_vin h3 h4) hd (fun H1 locs1 hP1 hD1 hS1 => K _ h5 a _ tys H1 locs1 ls _ (hG.tl2.tl.chg rfl (hR.set h1 rfl rfl (fun _ _ => ⟨rfl, rfl⟩) (by rw [h2]; exact ⟨cA, _, rfl, ⟨t, g2⟩, trivial⟩) (hR.2 _ h1).2) hP1 hD1 hS1))
    · exact g3.elim
  · obtain ⟨h1, C, n, h2, h3, h4, h5⟩ := hi
    obtain ⟨cA, cn, t, g1, g2, g3⟩ := hR.row h1 h2
    rcases cn with f | f | f | f | f
    · exact g3.elim
    · exact g3.elim
    · exact g3.elim
    · exact g3.elim
    · have ef : f = fun k => (h.2.2.2 _ k).map a := g3
      subst ef
      exact va_astqN hx hb hK hP hD hS _ t g1 g2 (mm_vin h3 h4) hd (fun H1 locs1 hP1 hD1 hS1 => K _ h5 a _ tys H1 locs1 ls _ (hG.tl2.tl.chg rfl (hR.set h1 rfl rfl (mm_sr_oth h _ _ _) (by rw [h2]; exact ⟨cA, _, rfl, ⟨t, g2⟩, (mm_sr_row h a _ _ none).symm⟩) (mm_sr_in (fun j z => by cases z) (hR.2 _ h1).2)) hP1 hD1 hS1))
  · obtain ⟨h1, h6, r, o, n, h2, h7, h8, h3, h4, h5⟩ := hi
    obtain ⟨cA, cn, t, g1, g2, g3⟩ := hR.row h1 h2
    obtain ⟨tl, fs, q1, q2, q3, q4, q5⟩ := hR.obj h6 h7
    rcases cn with f | f | f | f | f
    · exact g3.elim
    · exact g3.elim
    · exact g3.elim
    · exact g3.elim
    · have ef : f = fun k => (h.2.2.2 _ k).map a := g3
      subst ef
      exact va_astq hx hb hK hP hD hS _ t _ _ g1 g2 q1 h8 (mm_vin h3 h4) hd (fun H1 locs1 hP1 hD1 hS1 => K _ h5 a _ tys H1 locs1 ls _ (hG.tl2.tl.chg rfl (hR.set h1 rfl rfl (mm_sr_oth h _ _ _) (by rw [h2]; exact ⟨cA, _, rfl, ⟨t, g2⟩, (mm_sr_row h a _ _ (some _)).symm⟩) (mm_sr_in (fun j z => by cases z; exact h6) (hR.2 _ h1).2)) hP1 hD1 hS1))
  · exact hi.elim
/-- what is made: objects, rows of numbers, rows of objects -/
def mm_n (nl : List (Nat × Nat)) (dt : List (List FieldType)) (ats : List FieldType) (al : List (Nat × String)) (CM SM : Nat) (pc : Nat) (i : Instr × Nat) (L : List (Nat × mm_v)) (S : List mm_v) (h : mm_h) (k : Nat × Nat) (N : mm_s → Prop) : Prop := match i, S with
  | (.new x, 3), S => ∃ (q : Nat × Nat) (tl : List FieldType), nl.find? (fun q => q.1 == x) = some q ∧ dt[q.2]? = some tl ∧ tl.all (fun t => (mm_ft t).isSome) = true ∧ k.1 + 1 ≤ CM ∧ k.2 + tl.length ≤ SM ∧ N (pc + 3, L, mm_A (some h.1) :: S, mm_new h (.inl (q.2, tl.length)), k.1 + 1, k.2 + tl.length)
  | (.newarray t, 2), .inl x :: S => 0 ≤ x.toInt ∧ (newarray.typeOf t = .int ∨ newarray.typeOf t = .byte ∨ newarray.typeOf t = .boolean ∨ newarray.typeOf t = .long) ∧ newarray.typeOf t ∈ ats ∧ x.toInt.toNat * componentBytes (newarray.typeOf t) ≤ 536870912 ∧ k.1 + 1 ≤ CM ∧ k.2 + x.toInt.toNat ≤ SM ∧ N (pc + 2, L, mm_A (some h.1) :: S, mm_new h (.inr (newarray.typeOf t, x.toInt.toNat)), k.1 + 1, k.2 + x.toInt.toNat)
  | (.anewarray x, 3), .inl y :: S => ∃ q : Nat × String, al.find? (fun q => q.1 == x) = some q ∧ 0 ≤ y.toInt ∧ y.toInt.toNat * 4 ≤ 536870912 ∧ k.1 + 1 ≤ CM ∧ k.2 + y.toInt.toNat ≤ SM ∧ N (pc + 3, L, mm_A (some h.1) :: S, mm_new h (.inr (.object q.2, y.toInt.toNat)), k.1 + 1, k.2 + y.toInt.toNat)
  | _, _ => False
theorem mm_dflt {t : FieldType} (ht : (mm_ft t).isSome = true) (b : Nat → Nat) : defaultValue t = mm_fv b 0 none t := by
  cases t <;> first | rfl | (cases ht)
theorem mm_nn {x : Int32} (h0 : 0 ≤ x.toInt) : ¬ x < 0 ∧ x.toNatClampNeg = x.toInt.toNat := ⟨fun z => by
  have z2 := Int32.lt_iff_toInt_lt.mp z
  have z3 : (0 : Int32).toInt = 0 := rfl
  omega, rfl⟩
theorem mm_n_ok {nl : List (Nat × Nat)} {ats : List FieldType} {al : List (Nat × String)} {CM SM : Nat} {i : Instr × Nat} (hx : p.tables.exec = Jvm.exec) (hb : c.code = cc) (hown : s.vm.findClass own = some m.cls) (hts : ∀ w ∈ Ts, w.before args s = true) (hAO : ∀ C ∈ AO, va_AO C s) (hC : ck_okC cl Ts) (hN : ∀ q ∈ nl, ck_okN cl Ts own q) (hDt : ck_okD cl dt) (hAt : ∀ t ∈ ats, Cond.arrayClass t ∈ Ts) (hAl : ∀ q ∈ al, ck_okA Ts AO own q) (hA : ∀ q, s.heap.size ≤ q → A q) (hRc : R.cells = CM) (hRs : R.slots = SM) (hd : decode cc pc = .ok i) (hi : mm_n nl dt ats al CM SM pc i L S h (mc, ms) N) (hG : mm_G D cl dt st A s nL n0 a0 L S h a ws tys H locs ls vs) (K : ∀ x, N x → mm_K p l e R s m args below meth c Q D cl dt st A nL n0 a0 x) : W p l e R s m args below meth c H locs mc ms Q (F0 m pc ls vs) := by
  have ev := hG.evs
  subst ev
  have hK := hG.2.2.2.2.1
  have hP := hG.2.2.2.2.2.1
  have hD := hG.2.2.2.2.2.2.1
  have hS := hG.2.2.2.2.2.2.2.1
  unfold mm_n at hi
  split at hi
  · obtain ⟨q, tl, h1, h2, h3, h4, h5, h6⟩ := hi
    obtain ⟨hmem, e1⟩ := ck_found h1
    obtain ⟨C, T, N', g1, g2, g3, g4⟩ := hN _ hmem
    obtain ⟨C', T', g5, g6⟩ := hDt _ _ h2
    have g7 := Option.some.inj (g1.symm.trans g5)
    cases g7
    rw [e1] at g2
    refine va_new hx hb hts (hC _ _ _ _ g1).1 (fun k => tl.getD k .int) (fun k hk => g6 k _ (by simp [List.getD_eq_getElem?_getD, hk])) hown (hts _ g2) (hts _ g3) (hts _ g4) hK hP hD hS hA g1 (fs := tl.map defaultValue) (fun j hj => by simp [vp_V, List.getD_eq_getElem?_getD, hj]) (by rw [hRc]; exact h4) (by rw [hRs]; exact h5) hd (fun q' H1 hP1 hD1 hS1 => ?_)
    refine K _ h6 _ _ tys H1 locs ls _ (hG.more (fun t y h => ⟨t, h⟩) ⟨tl, _, h2, rfl, by simp, rfl, fun k t hk => ?_⟩ hK hP1 hD1 hS1)
    rw [List.getElem?_map, hk]
    exact congrArg some (mm_dflt (List.all_eq_true.mp h3 t (List.mem_of_getElem? hk)) _)
  · obtain ⟨h1, h2, h3, h4, h5, h6, h7⟩ := hi
    obtain ⟨n1, n2⟩ := mm_nn h1
    have harr := hts _ (hAt _ h3)
    rcases h2 with hty | hty | hty | hty
    · rw [hty] at h4 h7
      exact va_newa hx hb harr hty hK hP hD hS hA (a0 := (_, .inl (fun _ => 0))) (fun cA => rfl) n1 n2 h4 (by rw [hRc]; exact h5) (by rw [hRs]; exact h6) hd (fun q' cA H1 hK1 hP1 hD1 hS1 => K _ h7 _ _ _ H1 locs ls _ (hG.tl.more ck_tysapp ⟨cA, .inl (fun _ => 0), rfl, ck_tyslast, rfl⟩ hK1 hP1 hD1 hS1))
    · rw [hty] at h4 h7
      exact va_newa hx hb harr hty hK hP hD hS hA (a0 := (_, .inl (fun _ => 0))) (fun cA => rfl) n1 n2 h4 (by rw [hRc]; exact h5) (by rw [hRs]; exact h6) hd (fun q' cA H1 hK1 hP1 hD1 hS1 => K _ h7 _ _ _ H1 locs ls _ (hG.tl.more ck_tysapp ⟨cA, .inl (fun _ => 0), rfl, ck_tyslast, rfl⟩ hK1 hP1 hD1 hS1))
    · rw [hty] at h4 h7
      exact va_newa hx hb harr hty hK hP hD hS hA (a0 := (_, .inl (fun _ => 0))) (fun cA => rfl) n1 n2 h4 (by rw [hRc]; exact h5) (by rw [hRs]; exact h6) hd (fun q' cA H1 hK1 hP1 hD1 hS1 => K _ h7 _ _ _ H1 locs ls _ (hG.tl.more ck_tysapp ⟨cA, .inl (fun _ => 0), rfl, ck_tyslast, rfl⟩ hK1 hP1 hD1 hS1))
    · rw [hty] at h4 h7
      exact va_newa hx hb harr hty hK hP hD hS hA (a0 := (_, .inr (.inl (fun _ => 0)))) (fun cA => rfl) n1 n2 h4 (by rw [hRc]; exact h5) (by rw [hRs]; exact h6) hd (fun q' cA H1 hK1 hP1 hD1 hS1 => K _ h7 _ _ _ H1 locs ls _ (hG.tl.more ck_tysapp ⟨cA, .inr (.inl (fun _ => 0)), rfl, ck_tyslast, trivial⟩ hK1 hP1 hD1 hS1))
  · obtain ⟨q, h1, h2, h3, h4, h5, h6⟩ := hi
    obtain ⟨n1, n2⟩ := mm_nn h2
    obtain ⟨hmem, e2⟩ := ck_found h1
    obtain ⟨g1, g2⟩ := hAl _ hmem
    rw [e2] at g1
    exact va_newq hx hb hown (hts _ g1) (hAO _ g2) hK hP hD hS hA n1 n2 h3 (by rw [hRc]; exact h4) (by rw [hRs]; exact h5) hd (fun q' cA H1 hK1 hP1 hD1 hS1 => K _ h6 _ _ _ H1 locs ls _ (hG.tl.more ck_tysapp ⟨cA, .inr (.inr (.inr (.inr (fun _ => none)))), rfl, ck_tyslast, rfl⟩ hK1 hP1 hD1 hS1))
  · exact hi.elim
/-- constants of the pool, literals -/
def mm_k (kl : List (Nat × Int)) (jl : List (Nat × Int)) (sl : List (Nat × Nat)) (pc : Nat) (i : Instr × Nat) (L : List (Nat × mm_v)) (S : List mm_v) (h : mm_h) (k : Nat × Nat) (N : mm_s → Prop) : Prop := match i with
  | (.ldc x, 2) => (∃ q, kl.find? (fun q => q.1 == x) = some q ∧ N (pc + 2, L, mm_I (Int32.ofInt q.2) :: S, h, k)) ∨ ∃ q, sl.find? (fun q => q.1 == x) = some q ∧ N (pc + 2, L, mm_O q.2 :: S, h, k)
  | (.ldc_w x, 3) => ∃ q, kl.find? (fun q => q.1 == x) = some q ∧ N (pc + 3, L, mm_I (Int32.ofInt q.2) :: S, h, k)
  | (.ldc2_w x, 3) => ∃ q, jl.find? (fun q => q.1 == x) = some q ∧ N (pc + 3, L, mm_J (Int64.ofInt q.2) :: S, h, k)
  | _ => False
theorem mm_k_ok {kl jl : List (Nat × Int)} {sl : List (Nat × Nat)} {i : Instr × Nat} (hx : p.tables.exec = Jvm.exec) (hb : c.code = cc) (hown : s.vm.findClass own = some m.cls) (hts : ∀ w ∈ Ts, w.before args s = true) (hkl : ∀ q ∈ kl, Cond.constant own q.1 (Int32.ofInt q.2) ∈ Ts) (hjl : ∀ q ∈ jl, Cond.constantLong own q.1 (Int64.ofInt q.2) ∈ Ts) (hsl : ∀ q ∈ sl, ∃ tx, vk_R own q.1 tx (st q.2) s) (hd : decode cc pc = .ok i) (hi : mm_k kl jl sl pc i L S h (mc, ms) N) (hG : mm_G D cl dt st A s nL n0 a0 L S h a ws tys H locs ls vs) (K : ∀ x, N x → mm_K p l e R s m args below meth c Q D cl dt st A nL n0 a0 x) : W p l e R s m args below meth c H locs mc ms Q (F0 m pc ls vs) := by
  have ev := hG.evs
  subst ev
  unfold mm_k at hi
  split at hi
  · rcases hi with ⟨q, h1, h2⟩ | ⟨q, h1, h2⟩
    · obtain ⟨hmem, e1⟩ := ck_found h1
      have g := hkl _ hmem
      rw [e1] at g
      exact lv_ldc hx hb hown (hts _ g) hd (K _ h2 a ws tys H locs ls _ (hG.psh trivial))
    · obtain ⟨hmem, e1⟩ := ck_found h1
      obtain ⟨tx, g⟩ := hsl _ hmem
      rw [e1] at g
      exact va_ldcS hx hb hown g hd (K _ h2 a ws tys H locs ls _ (hG.psh (v := mm_O q.2) trivial))
  · obtain ⟨q, h1, h2⟩ := hi
    obtain ⟨hmem, e1⟩ := ck_found h1
    have g := hkl _ hmem
    rw [e1] at g
    exact lv_ldcw hx hb hown (hts _ g) hd (K _ h2 a ws tys H locs ls _ (hG.psh trivial))
  · obtain ⟨q, h1, h2⟩ := hi
    obtain ⟨hmem, e1⟩ := ck_found h1
    have g := hjl _ hmem
    rw [e1] at g
    exact lv_ldc2 hx hb hown (hts _ g) hd (K _ h2 a ws tys H locs ls _ (hG.psh trivial))
  · exact hi.elim
/-! the library: copies of rows, Object.<init>, Math -/
def mm_wd (S : List mm_v) : Nat := (S.map fun v => if mm_two v = true then 2 else 1).sum
theorem mm_wd_ok (a st : Nat → Nat) : ∀ S : List mm_v, ((S.map (mm_val a st)).map fun v => v.category).sum = mm_wd S
  | [] => rfl
  | v :: S => by
    have ih := mm_wd_ok a st S
    unfold mm_wd at ih ⊢
    rw [List.map_cons, List.map_cons, List.map_cons, List.sum_cons, List.sum_cons, ih, mm_val_cat]
def mm_okY (Ts : List Cond) (own : String) (q : Nat × Nat × Nat) : Prop :=
  (q.2.1 = 6 → Cond.methodLink own q.1 arraycopyName ∈ Ts ∧ Cond.native arraycopyName ∈ Ts ∧ Cond.static arraycopyName ∈ Ts ∧ Cond.initialized "java/lang/System" ∈ Ts) ∧
  (q.2.1 = 7 → Cond.methodLink own q.1 Lib.objectInit ∈ Ts ∧ Cond.instanceMethod Lib.objectInit ∈ Ts ∧ Cond.code Lib.objectInit ⟨#[0xb1]⟩ 1 none ∈ Ts) ∧
  (q.2.1 = 8 → Cond.methodLink own q.1 Lib.Math.min.name ∈ Ts ∧ Cond.static Lib.Math.min.name ∈ Ts ∧ Cond.initialized "java/lang/Math" ∈ Ts ∧ Cond.code Lib.Math.min.name Lib.Math.min.code 2 (some .int) ∈ Ts) ∧
  (q.2.1 = 9 → Cond.methodLink own q.1 Lib.Math.max.name ∈ Ts ∧ Cond.static Lib.Math.max.name ∈ Ts ∧ Cond.initialized "java/lang/Math" ∈ Ts ∧ Cond.code Lib.Math.max.name Lib.Math.max.code 2 (some .int) ∈ Ts) ∧
  (q.2.1 = 10 → Cond.methodLink own q.1 Lib.MathLoose.min_long.x ∈ Ts ∧ Cond.static Lib.MathLoose.min_long.x ∈ Ts ∧ Cond.initialized "java/lang/Math" ∈ Ts ∧ Cond.code Lib.MathLoose.min_long.x Lib.MathLoose.min_long.code 4 (some .long) ∈ Ts) ∧
  (q.2.1 = 11 → Cond.methodLink own q.1 Lib.MathLoose.max_long.x ∈ Ts ∧ Cond.static Lib.MathLoose.max_long.x ∈ Ts ∧ Cond.initialized "java/lang/Math" ∈ Ts ∧ Cond.code Lib.MathLoose.max_long.x Lib.MathLoose.max_long.code 4 (some .long) ∈ Ts)
def mm_y (ml : List (Nat × Nat × Nat)) (CM SM FM LM : Nat) (pc : Nat) (i : Instr × Nat) (L : List (Nat × mm_v)) (S : List mm_v) (h : mm_h) (k : Nat × Nat) (N : mm_s → Prop) : Prop := match i, S with
  | (.invokestatic x, 3), .inl z :: .inl d :: .inr (.inr (.inl (some j))) :: .inl b :: .inr (.inr (.inl (some i))) :: S => ∃ (q : Nat × Nat × Nat) (n0 n1 : Nat), ml.find? (fun q => q.1 == x) = some q ∧ q.2.1 = 6 ∧ i < h.1 ∧ j < h.1 ∧ h.2.1 i = .inr (.int, n0) ∧ h.2.1 j = .inr (.int, n1) ∧ 0 ≤ z.toInt ∧ 0 ≤ b.toInt ∧ 0 ≤ d.toInt ∧ b.toInt + z.toInt ≤ (n0 : Int) ∧ d.toInt + z.toInt ≤ (n1 : Int) ∧ 1 ≤ FM ∧ mm_wd S + (nativeFrameWords "java/lang/System" "arraycopy" 5 + 11) ≤ LM ∧ N (pc + 3, L, S, mm_cp h i j b.toInt.toNat d.toInt.toNat z.toInt.toNat, k)
  | (.invokespecial x, 3), .inr (.inr (.inl (some _))) :: S => ∃ q : Nat × Nat × Nat, ml.find? (fun q => q.1 == x) = some q ∧ q.2.1 = 7 ∧ 1 ≤ FM ∧ mm_wd S + 12 ≤ LM ∧ N (pc + 3, L, S, h, k)
  | (.invokestatic x, 3), .inr (.inl y) :: .inr (.inl z) :: S => ∃ q : Nat × Nat × Nat, ml.find? (fun q => q.1 == x) = some q ∧ (q.2.1 = 10 ∨ q.2.1 = 11) ∧ 1 ≤ FM ∧ mm_wd S + 15 ≤ LM ∧ k.1 ≤ CM ∧ k.2 ≤ SM ∧ N (pc + 3, L, mm_J (if q.2.1 = 10 then (if y < z then y else z) else (if y < z then z else y)) :: S, h, k)
  | _, _ => False
theorem mm_y_ok {ml : List (Nat × Nat × Nat)} {CM SM FM LM : Nat} {i : Instr × Nat} (hx : p.tables.exec = Jvm.exec) (hb : c.code = cc) (hml : c.maxLocals = nL) (hown : s.vm.findClass own = some m.cls) (hts : ∀ w ∈ Ts, w.before args s = true) (hY : ∀ q ∈ ml, mm_okY Ts own q) (hRc : R.cells = CM) (hRs : R.slots = SM) (hRf : R.frames = FM) (hRl : R.locals = LM) (hd : decode cc pc = .ok i) (hi : mm_y ml CM SM FM LM pc i L S h (mc, ms) N) (hG : mm_G D cl dt st A s nL n0 a0 L S h a ws tys H locs ls vs) (K : ∀ x, N x → mm_K p l e R s m args below meth c Q D cl dt st A nL n0 a0 x) : W p l e R s m args below meth c H locs mc ms Q (F0 m pc ls vs) := by
  have ev := hG.evs
  subst ev
  have hR := hG.1
  have hK := hG.2.2.2.2.1
  have hP := hG.2.2.2.2.2.1
  have hD := hG.2.2.2.2.2.2.1
  have hS := hG.2.2.2.2.2.2.2.1
  have hsz : ls.size = nL := by obtain ⟨lv, hl, -⟩ := hG.2.1; exact hl.1
  unfold mm_y at hi
  split at hi
  · rename_i x z d j b i0 S0
    obtain ⟨q, n0, n1, h1, h2, h3, h4, h5, h6, h7, h8, h9, h10, h11, h12, h13, h14⟩ := hi
    obtain ⟨hmem, e1⟩ := ck_found h1
    obtain ⟨y1, y2, y3, y4⟩ := (hY q hmem).1 h2
    rw [e1] at y1
    obtain ⟨cA0, cn0, t0, p1, p2, p3⟩ := hR.row h3 h5
    obtain ⟨cA1, cn1, t1, q1, q2, q3⟩ := hR.row h4 h6
    rcases cn0 with f | cn0
    · rcases cn1 with g | cn1
      · have ef : f = h.2.2.1 i0 := p3
        have eg : g = h.2.2.1 j := q3
        subst ef
        subst eg
        have tc : ∀ x : Int32, x.toNatClampNeg = x.toInt.toNat := fun _ => rfl
        refine va_copyi hx hb (hml.trans hsz.symm) hown (hts _ y1) (hts _ y2) (hts _ y3) (hts _ y4) hK hP hD hS _ _ t0 t1 p1 q1 p2 q2 rfl (mm_nn h8).1 (mm_nn h9).1 (mm_nn h7).1 (by rw [tc, tc]; dsimp only; omega) (by rw [tc, tc]; dsimp only; omega) (fun _ _ => rfl) (by rw [hRf]; exact h12) (by rw [hRl, mm_wd_ok]; exact h13) hd (fun H1 locs1 hP1 hD1 hS1 => K _ h14 a _ tys H1 locs1 ls _ (hG.tl2.tl2.tl.chg rfl (hR.set h4 rfl rfl (fun i' hi' => ⟨funext fun k' => by
          show (if i' = j then _ else h.2.2.1 i' k') = _
          rw [if_neg hi'], rfl⟩) (by
          rw [h6]
          refine ⟨cA1, _, rfl, ⟨t1, q2⟩, ?_⟩
          show va_cpy _ _ _ _ _ = fun k' => if j = j then va_cpy (h.2.2.1 i0) (h.2.2.1 j) _ _ _ k' else h.2.2.1 j k'
          funext k'
          rw [if_pos rfl]
          rfl) (hR.2 _ h4).2) hP1 hD1 hS1))
      · exact q3.elim
    · exact p3.elim
  · obtain ⟨q, h1, h2, h3, h4, h5⟩ := hi
    obtain ⟨hmem, e1⟩ := ck_found h1
    obtain ⟨y1, y2, y3⟩ := (hY q hmem).2.1 h2
    rw [e1] at y1
    refine W.objInit hx hb hown (hts _ y1) (hts _ y2) (hts _ y3) rfl (hsz.trans hml.symm) rfl hd (by rw [hRf]; exact h3) ?_ (K _ h5 a ws tys H locs ls _ hG.tl)
    show 2 * 0 + (List.map (fun v => v.category) (List.map (mm_val a st) _)).sum + 12 ≤ R.locals
    rw [mm_wd_ok, hRl]
    omega
  · obtain ⟨q, h1, h2, h3, h4, h6, h7, h5⟩ := hi
    obtain ⟨hmem, e1⟩ := ck_found h1
    rcases h2 with h2 | h2
    · obtain ⟨y1, y2, y3, y4⟩ := (hY q hmem).2.2.2.2.1 h2
      rw [e1] at y1
      rw [if_pos h2] at h5
      exact va_mmin_long hx hb (hml.trans hsz.symm) hown (hts _ y1) (hts _ y2) (hts _ y3) (hts _ y4) (by rw [hRf]; exact h3) (by rw [hRl, mm_wd_ok]; exact h4) (by rw [hRc]; exact h6) (by rw [hRs]; exact h7) hd (K _ h5 a ws tys H locs ls _ (hG.tl2.psh trivial))
    · obtain ⟨y1, y2, y3, y4⟩ := (hY q hmem).2.2.2.2.2 h2
      rw [e1] at y1
      rw [if_neg (by omega)] at h5
      exact va_mmax_long hx hb (hml.trans hsz.symm) hown (hts _ y1) (hts _ y2) (hts _ y3) (hts _ y4) (by rw [hRf]; exact h3) (by rw [hRl, mm_wd_ok]; exact h4) (by rw [hRc]; exact h6) (by rw [hRs]; exact h7) hd (K _ h5 a ws tys H locs ls _ (hG.tl2.psh trivial))
  · exact hi.elim
/-- a new cell that has numbers -/
def mm_newc (h : mm_h) (S : ck_Sh) (xi : Nat → Int32) : mm_h := (h.1 + 1, (fun i => if i = h.1 then S else h.2.1 i), (fun i k => if i = h.1 then xi k else h.2.2.1 i k), fun i k => if i = h.1 then none else h.2.2.2 i k)
theorem mm_R.pushc {xi : Nat → Int32} {dt : List (List FieldType)} {tys tys' : List (ClassId × FieldType)} {a : Nat → Nat} {h : mm_h} {ws : va_W} {S : ck_Sh} {q : Nat} {x : va_E} (hR : mm_R dt tys a h ws) (ht : ∀ (t : Nat) (y : ClassId × FieldType), tys[t]? = some y → ∃ t' : Nat, tys'[t']? = some y) (hf : mm_fit dt tys' (fun i => if i = h.1 then q else a i) S xi (fun _ => none) x) : mm_R dt tys' (fun i => if i = h.1 then q else a i) (mm_newc h S xi) (ws ++ [(q, x)]) := by
  have hag : ∀ i, i < h.1 → (fun i => if i = h.1 then q else a i) i = a i := fun i hi => if_neg (Nat.ne_of_lt hi)
  refine ⟨by show (ws ++ [(q, x)]).length = h.1 + 1; simp [hR.1], fun i hi => ?_⟩
  have hi' : i < h.1 + 1 := hi
  by_cases hq : i = h.1
  · subst hq
    refine ⟨⟨x, ?_, ?_⟩, fun k j hk => ?_⟩
    · rw [← hR.1]; simp
    · show mm_fit dt tys' _ (if h.1 = h.1 then S else h.2.1 h.1) (fun k => if h.1 = h.1 then xi k else h.2.2.1 h.1 k) (fun k => if h.1 = h.1 then none else h.2.2.2 h.1 k) x
      simp only [if_true]
      exact hf
    · have hk' : (if h.1 = h.1 then none else h.2.2.2 h.1 k) = some j := hk
      rw [if_pos rfl] at hk'
      cases hk'
  · have hlt : i < h.1 := by omega
    obtain ⟨⟨e, h1, h2⟩, h3⟩ := hR.2 i hlt
    refine ⟨⟨e, ?_, ?_⟩, fun k j hk => ?_⟩
    · rw [List.getElem?_append_left (by rw [hR.1]; exact hlt), h1]
      show _ = some ((if i = h.1 then q else a i), e)
      rw [if_neg hq]
    · show mm_fit dt tys' _ (if i = h.1 then S else h.2.1 i) (fun k => if i = h.1 then xi k else h.2.2.1 i k) (fun k => if i = h.1 then none else h.2.2.2 i k) e
      simp only [if_neg hq]
      exact h2.more ht hag h3
    · have hk' : (if i = h.1 then none else h.2.2.2 i k) = some j := hk
      rw [if_neg hq] at hk'
      exact Nat.lt_succ_of_lt (h3 k j hk')
theorem mm_G.morec {xi : Nat → Int32} {tys' : List (ClassId × FieldType)} {S0 : ck_Sh} {q : Nat} {x : va_E} {H1 : Heap} (hG : mm_G D cl dt st A s nL n0 a0 L S h a ws tys H locs ls vs) (ht : ∀ (t : Nat) (y : ClassId × FieldType), tys[t]? = some y → ∃ t' : Nat, tys'[t']? = some y) (hf : mm_fit dt tys' (fun i => if i = h.1 then q else a i) S0 xi (fun _ => none) x) (hK : va_K D cl tys' s) (hP : va_P D cl (ws ++ [(q, x)]) H1) (hD : va_D A (ws ++ [(q, x)])) (hS : va_S A s.heap H1 locs) : mm_G D cl dt st A s nL n0 a0 L (mm_A (some h.1) :: S) (mm_newc h S0 xi) (fun i => if i = h.1 then q else a i) (ws ++ [(q, x)]) tys' H1 locs ls (.ref q :: vs) := by
  obtain ⟨h1, ⟨lv, h2, h2'⟩, h3, h4, h5, h6, h7, h8, h9, h10⟩ := hG
  have hag : ∀ i, i < h.1 → (fun i => if i = h.1 then q else a i) i = a i := fun i hi => if_neg (Nat.ne_of_lt hi)
  refine ⟨h1.pushc ht hf, ⟨lv, h2, fun y hy => ?_⟩, ?_, fun v hv => ?_, hK, hP, hD, hS, Nat.le_succ_of_le h9, fun i hi => by rw [hag i (Nat.lt_of_lt_of_le hi h9)]; exact h10 i hi⟩
  · obtain ⟨g1, g2⟩ := h2' y hy
    exact ⟨by rw [mm_val_on g2 hag]; exact g1, g2.mono (Nat.le_succ _)⟩
  · rw [List.map_cons, h3]
    have e1 : mm_val (fun i => if i = h.1 then q else a i) st (mm_A (some h.1)) = .ref q := by
      show Value.ref (if h.1 = h.1 then q else a h.1) = .ref q
      rw [if_pos rfl]
    rw [e1]
    congr 1
    exact List.map_congr_left (fun v hv => (mm_val_on (h4 v hv) hag).symm)
  · rcases List.mem_cons.mp hv with rfl | hv
    · exact Nat.lt_succ_self _
    · exact (h4 v hv).mono (Nat.le_succ _)
def mm_x (ml : List (Nat × Nat × Nat)) (CM SM FM LM : Nat) (pc : Nat) (i : Instr × Nat) (L : List (Nat × mm_v)) (S : List mm_v) (h : mm_h) (k : Nat × Nat) (N : mm_s → Prop) : Prop := match i, S with
  | (.invokestatic x, 3), .inl y :: .inl z :: S => ∃ q : Nat × Nat × Nat, ml.find? (fun q => q.1 == x) = some q ∧ (q.2.1 = 8 ∨ q.2.1 = 9) ∧ 1 ≤ FM ∧ mm_wd S + 13 ≤ LM ∧ k.1 ≤ CM ∧ k.2 ≤ SM ∧ N (pc + 3, L, mm_I (if q.2.1 = 8 then (if y < z then y else z) else (if z < y then y else z)) :: S, h, k)
  | (.invokevirtual x, 3), .inr (.inr (.inr o)) :: S => ∃ (q : Nat × Nat × Nat) (n : Nat), ml.find? (fun q => q.1 == x) = some q ∧ q.2.1 = 12 ∧ mm_SN[o]? = some n ∧ (2 ≤ FM ∧ 40 ≤ LM ∧ mm_wd S ≤ 8) ∧ k.1 ≤ CM ∧ k.2 ≤ SM ∧ N (pc + 3, L, mm_I (Int32.ofNat n) :: S, h, k)
  | (.invokevirtual x, 3), .inl y :: .inr (.inr (.inr o)) :: S => ∃ (q : Nat × Nat × Nat) (n : Nat), ml.find? (fun q => q.1 == x) = some q ∧ q.2.1 = 13 ∧ mm_SN[o]? = some n ∧ 0 ≤ y.toInt ∧ y.toInt < n ∧ (4 ≤ FM ∧ 85 ≤ LM ∧ mm_wd S ≤ 8) ∧ k.1 ≤ CM ∧ k.2 ≤ SM ∧ ∀ z : Int32, N (pc + 3, L, mm_I z :: S, h, k)
  | (.invokevirtual x, 3), .inr (.inr (.inl (some i))) :: S => ∃ (q : Nat × Nat × Nat) (n : Nat), ml.find? (fun q => q.1 == x) = some q ∧ q.2.1 = 14 ∧ i < h.1 ∧ h.2.1 i = .inr (.int, n) ∧ (1 ≤ FM ∧ mm_wd S + 14 ≤ LM) ∧ k.1 + 1 ≤ CM ∧ k.2 + n ≤ SM ∧ N (pc + 3, L, mm_A (some h.1) :: S, mm_newc h (.inr (.int, n)) (h.2.2.1 i), k.1 + 1, k.2 + n)
  | (.checkcast x, 3), .inr (.inr (.inl (some i))) :: S => ∃ (q : Nat × Nat × Nat) (n : Nat), ml.find? (fun q => q.1 == x) = some q ∧ q.2.1 = 15 ∧ i < h.1 ∧ h.2.1 i = .inr (.int, n) ∧ N (pc + 3, L, mm_A (some i) :: S, h, k)
  | _, _ => False
/-- length, charAt of a literal; a row of ints cloned, and called a row of ints -/
def mm_okZ (Ts : List Cond) (own : String) (q : Nat × Nat × Nat) : Prop := (q.2.1 = 12 → Cond.methodLink own q.1 ms_yLe ∈ Ts ∧ ∀ w ∈ ms_ws, w ∈ Ts) ∧ (q.2.1 = 13 → Cond.methodLink own q.1 ms_yCh ∈ Ts ∧ ∀ w ∈ ms_ws, w ∈ Ts) ∧ (q.2.1 = 14 → Cond.methodLink own q.1 ⟨"[I", "clone", "()Ljava/lang/Object;"⟩ ∈ Ts ∧ Cond.sameMethod "[I" "java/lang/Object" "clone" "()Ljava/lang/Object;" ∈ Ts ∧ Cond.native ⟨"java/lang/Object", "clone", "()Ljava/lang/Object;"⟩ ∈ Ts ∧ Cond.instanceMethod ⟨"java/lang/Object", "clone", "()Ljava/lang/Object;"⟩ ∈ Ts ∧ Cond.selects "[I" ⟨"[I", "clone", "()Ljava/lang/Object;"⟩ ⟨"java/lang/Object", "clone", "()Ljava/lang/Object;"⟩ ∈ Ts) ∧ (q.2.1 = 15 → Cond.classLink own q.1 "[I" ∈ Ts)
theorem mm_x_ok {ml : List (Nat × Nat × Nat)} {CM SM FM LM : Nat} {i : Instr × Nat} (hx : p.tables.exec = Jvm.exec) (hb : c.code = cc) (hml : c.maxLocals = nL) (hown : s.vm.findClass own = some m.cls) (hts : ∀ w ∈ Ts, w.before args s = true) (hgood : GoodIn Ts Ts) (hstr : mm_str st A s s.heap) (hY : ∀ q ∈ ml, mm_okY Ts own q) (hZ : ∀ q ∈ ml, mm_okZ Ts own q) (hA : ∀ q, s.heap.size ≤ q → A q) (hRc : R.cells = CM) (hRs : R.slots = SM) (hRf : R.frames = FM) (hRl : R.locals = LM) (hd : decode cc pc = .ok i) (hi : mm_x ml CM SM FM LM pc i L S h (mc, ms) N) (hG : mm_G D cl dt st A s nL n0 a0 L S h a ws tys H locs ls vs) (K : ∀ x, N x → mm_K p l e R s m args below meth c Q D cl dt st A nL n0 a0 x) : W p l e R s m args below meth c H locs mc ms Q (F0 m pc ls vs) := by
  have ev := hG.evs
  subst ev
  have hsz : ls.size = nL := by obtain ⟨lv, hl, -⟩ := hG.2.1; exact hl.1
  unfold mm_x at hi
  split at hi
  · obtain ⟨q, h1, h2, h3, h4, h6, h7, h5⟩ := hi
    obtain ⟨hmem, e1⟩ := ck_found h1
    rcases h2 with h2 | h2
    · obtain ⟨y1, y2, y3, y4⟩ := (hY q hmem).2.2.1 h2
      rw [e1] at y1
      rw [if_pos h2] at h5
      exact va_mmin hx hb (hml.trans hsz.symm) hown (hts _ y1) (hts _ y2) (hts _ y3) (hts _ y4) (by rw [hRf]; exact h3) (by rw [hRl, mm_wd_ok]; exact h4) (by rw [hRc]; exact h6) (by rw [hRs]; exact h7) hd (K _ h5 a ws tys H locs ls _ (hG.tl2.psh trivial))
    · obtain ⟨y1, y2, y3, y4⟩ := (hY q hmem).2.2.2.1 h2
      rw [e1] at y1
      rw [if_neg (by omega)] at h5
      exact va_mmax hx hb (hml.trans hsz.symm) hown (hts _ y1) (hts _ y2) (hts _ y3) (hts _ y4) (by rw [hRf]; exact h3) (by rw [hRl, mm_wd_ok]; exact h4) (by rw [hRc]; exact h6) (by rw [hRs]; exact h7) hd (K _ h5 a ws tys H locs ls _ (hG.tl2.psh trivial))
  · rename_i x o S0
    obtain ⟨q, n, h1, h2, h3, ⟨r1, r2, r3⟩, h6, h7, h5⟩ := hi
    obtain ⟨hmem, e1⟩ := ck_found h1
    obtain ⟨y1, hw⟩ := (hZ q hmem).1 h2
    rw [e1] at y1
    have hS := hG.2.2.2.2.2.2.2.1
    have hX := (hstr.2 o n h3).kept hS.2.1
    have hn : n < 2 ^ 31 := Nat.lt_trans (mm_SN_lt n (List.mem_of_getElem? h3)) (by decide)
    have hX0 : ∀ U : State, U.heap = H → s.WarmedH U.vm → ms_X n (st o) (fun _ => False) U U.heap := fun U hU hW => by rw [hU]; exact (hX.moved hW.alike).narrow (fun _ z => z.elim)
    have hrec : ∃ cell : Cell, H[st o]? = some cell ∧ cell.vm.isStatics = false ∧ s.vm.findClass "java/lang/String" = some cell.cls := by
      obtain ⟨cell, q1, q2, q3, -⟩ := hX.2.2.1
      exact ⟨cell, q1, q2, q3⟩
    have hGI : GoodIn Ts (Cond.code ms_yLe ms_cLe 1 (some .int) :: Ts) := fun w hw' => by
      rcases List.mem_cons.mp hw' with rfl | hw'
      · exact hgood _ (hw _ (List.mem_of_getElem? (i := 26) rfl))
      · exact hgood _ hw'
    have hwd : ((S0.map (mm_val a st)).map fun v => v.category).sum ≤ 8 := by rw [mm_wd_ok]; exact r3
    have gw := fun i w h => hts w (hw w (List.mem_of_getElem? (i := i) h))
    refine W.callR (r := Int32.ofNat n) (W.runV (C := "java/lang/String") (b := st o) (As := []) (rest := S0.map (mm_val a st)) ⟨hx, hb, hml, hown, hts⟩ (ms_Le l hgood hw n (st o) hn) ⟨callB_of (Ts := Ts) 0 hts hGI rfl rfl rfl (gw 6 _ rfl) (hts _ y1) (by decide +kernel) ⟨by rw [hRf]; exact r1, by rw [hRl]; exact r2⟩, gw 24 _ rfl, gw 25 _ rfl⟩ ⟨ms_blind, hrec, fun U hU hW => ⟨rfl, hX0 U hU hW⟩⟩ rfl rfl hsz rfl (lv_room hwd) hd ⟨by rw [hRc]; exact h6, by rw [hRs]; exact h7⟩) ?_
    exact K _ h5 a ws tys H locs ls _ (hG.tl.psh trivial)
  · rename_i x y o S0
    obtain ⟨q, n, h1, h2, h3, b1, b2, ⟨r1, r2, r3⟩, h6, h7, h5⟩ := hi
    obtain ⟨hmem, e1⟩ := ck_found h1
    obtain ⟨y1, hw⟩ := (hZ q hmem).2.1 h2
    rw [e1] at y1
    have hS := hG.2.2.2.2.2.2.2.1
    have hX := (hstr.2 o n h3).kept hS.2.1
    have hn : n < 2 ^ 31 := Nat.lt_trans (mm_SN_lt n (List.mem_of_getElem? h3)) (by decide)
    have hX0 : ∀ U : State, U.heap = H → s.WarmedH U.vm → ms_X n (st o) (fun _ => False) U U.heap := fun U hU hW => by rw [hU]; exact (hX.moved hW.alike).narrow (fun _ z => z.elim)
    have hrec : ∃ cell : Cell, H[st o]? = some cell ∧ cell.vm.isStatics = false ∧ s.vm.findClass "java/lang/String" = some cell.cls := by
      obtain ⟨cell, q1, q2, q3, -⟩ := hX.2.2.1
      exact ⟨cell, q1, q2, q3⟩
    have hGI : GoodIn Ts (Cond.code ms_yCh ms_cCh 2 (some .char) :: Ts) := fun w hw' => by
      rcases List.mem_cons.mp hw' with rfl | hw'
      · exact hgood _ (hw _ (List.mem_of_getElem? (i := 29) rfl))
      · exact hgood _ hw'
    have hwd : ((S0.map (mm_val a st)).map fun v => v.category).sum ≤ 8 := by rw [mm_wd_ok]; exact r3
    have gw := fun i w h => hts w (hw w (List.mem_of_getElem? (i := i) h))
    refine ms_callC (W.runV (C := "java/lang/String") (b := st o) (As := [.int y]) (rest := S0.map (mm_val a st)) ⟨hx, hb, hml, hown, hts⟩ (ms_Ch l hgood hw n (st o) y hn b1 b2) ⟨callB_of (Ts := Ts) 1 hts hGI rfl rfl rfl (gw 6 _ rfl) (hts _ y1) (by decide +kernel) ⟨by rw [hRf]; exact r1, by rw [hRl]; exact r2⟩, gw 27 _ rfl, gw 28 _ rfl⟩ ⟨ms_blind, hrec, fun U hU hW => ⟨rfl, hX0 U hU hW⟩⟩ rfl rfl hsz rfl (lv_room hwd) hd ⟨by rw [hRc]; exact h6, by rw [hRs]; exact h7⟩) (fun z _ => ?_)
    exact K _ (h5 z) a ws tys H locs ls _ (hG.tl2.psh trivial)
  · rename_i x i0 S0
    obtain ⟨q, n, h1, h2, h3, h4, ⟨r1, r2⟩, h6, h7, h5⟩ := hi
    obtain ⟨hmem, e1⟩ := ck_found h1
    obtain ⟨y1, y2, y3, y4, y5⟩ := (hZ q hmem).2.2.1 h2
    rw [e1] at y1
    have hR := hG.1
    have hK := hG.2.2.2.2.1
    have hP := hG.2.2.2.2.2.1
    have hD := hG.2.2.2.2.2.2.1
    have hS := hG.2.2.2.2.2.2.2.1
    obtain ⟨cA0, cn0, t0, p1, p2, p3⟩ := hR.row h3 h4
    rcases cn0 with f | cn0
    · have ef : f = h.2.2.1 i0 := p3
      subst ef
      exact va_clone hx hb (hml.trans hsz.symm) hown (hts _ y1) (hts _ y2) (hts _ y3) (hts _ y4) (hts _ y5) hstr.1 hK hP hD hS hA _ t0 p1 p2 (hK.2 t0 _ p2).2 (fun j v hv => by
        have hv' : (arrV cA0 n (fun j => .int (h.2.2.1 i0 j))).slots[j]? = some v := hv
        have hj : j < n := by
          have := (Array.getElem?_eq_some_iff.mp hv').1
          rw [arrV_size] at this
          exact this
        rw [arrV_read cA0 _ hj] at hv'
        rw [← Option.some.inj hv']
        rfl) (by rw [hRf]; exact r1) (by rw [hRl, mm_wd_ok]; exact r2) (by rw [hRc]; exact h6) (by rw [hRs]; exact h7) hd (fun q' H1 hK1 hP1 hD1 hS1 => K _ h5 _ _ _ H1 locs ls _ (hG.tl.morec ck_tysapp ⟨cA0, .inl (h.2.2.1 i0), rfl, ck_tyslast, rfl⟩ hK1 hP1 hD1 hS1))
    · exact p3.elim
  · rename_i x i0 S0
    obtain ⟨q, n, h1, h2, h3, h4, h5⟩ := hi
    obtain ⟨hmem, e1⟩ := ck_found h1
    have y1 := (hZ q hmem).2.2.2 h2
    rw [e1] at y1
    have hR := hG.1
    have hK := hG.2.2.2.2.1
    have hP := hG.2.2.2.2.2.1
    obtain ⟨cA0, cn0, t0, p1, p2, p3⟩ := hR.row h3 h4
    exact va_castA hx hb hown (hts _ y1) hP _ p1 (hK.2 t0 _ p2).2 hd (K _ h5 a ws tys H locs ls _ hG)
  · exact hi.elim
end MMR
