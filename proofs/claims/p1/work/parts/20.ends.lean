/-! THE TABLE RUN, 9: the copy of rows, the first constructor, returns -/
section CKE
variable {p : Program} {l : Launch} {e : Env} {R : Room} {s : State} {m : MethodId} {args : Array Value} {below : List Frame} {meth : Method} {c : Code} {Q : State → Prop}
variable {cc : ByteArray} {D : va_G} {cl : List vw_C} {st : Nat → Nat} {sh : List ck_Sh} {A : Nat → Prop} {nL : Nat} {wr : List (Nat × Nat)} {ws0 : va_W}
variable {I I' : List ck_I} {L : List (Nat × ck_V)} {S S' : List ck_V} {X : ck_D} {nc mc ms n : Nat} {ν ν' : Nat → Int} {ws : va_W} {tys : List (ClassId × FieldType)} {H : Heap} {locs : List Loc} {ls : Array Slot} {vs vs' : List Value} {pc : Nat}
variable {Ts : List Cond} {own : String}
def ck_cpX (X : ck_D) (a b : Nat) : ck_D := X.filterMap fun x => if x.1.1 = b then (match ck_look X a 0 with
  | some F => (ck_join x.2 F).map fun G => (x.1, G)
  | none => none) else some x
theorem ck_setany {i a0 a N : Nat} {cA : ClassId} {cn cn' : ck_Cn} (hG : ck_G D cl st sh A s nL wr ws0 I L S X nc ν ws tys H locs ls vs) (hi : ws[i]? = some (a, .inl (cA, N, cn))) (hel : ∀ q, q < N → ck_elem cn' q = ck_elem cn q ∨ ∀ F, ck_look X a0 0 = some F → ck_fv st ws F (ck_elem cn' q)) (hcn : ∀ ty, ck_cnt ty cn → ck_cnt ty cn') (hwr : (i, 0) ∈ wr) {H1 : Heap} {locs1 : List Loc} (hP : va_P D cl (ws.set i (a, .inl (cA, N, cn'))) H1) (hD : va_D A (ws.set i (a, .inl (cA, N, cn')))) (hS : va_S A s.heap H1 locs1) : ck_G D cl st sh A s nL wr ws0 I L S (ck_cpX X a0 i) nc ν (ws.set i (a, .inl (cA, N, cn'))) tys H1 locs1 ls vs := by
  obtain ⟨h1, h2, h3, h4, h5, h6, h7, h8, h9, h10⟩ := hG
  have ho := ck_on.set (e' := .inl (cA, N, cn')) hi
  have hfr : ck_fr wr ws (ws.set i (a, .inl (cA, N, cn'))) := ck_fr.set hi (fun j hj h0 w hw => absurd hwr h0)
  refine ⟨h1, h2.on ho (Nat.le_refl _) (fun _ _ => rfl), h3.on ho (Nat.le_refl _) (fun _ _ => rfl), ?_, h5.set hi ?_, h6, hP, hD, hS, h10.trans hfr⟩
  · intro y hy
    obtain ⟨x, hx, hxy⟩ := List.mem_filterMap.mp hy
    obtain ⟨q, hq, hv'⟩ := h4 x hx
    by_cases hc : x.1.1 = i
    · rw [if_pos hc] at hxy
      rw [hc] at hq
      have eq : q = (a, .inl (cA, N, cn)) := Option.some.inj (hq.symm.trans hi)
      subst eq
      have hnew : (ws.set i (a, .inl (cA, N, cn')))[i]? = some (a, .inl (cA, N, cn')) := List.getElem?_set_self (List.getElem?_eq_some_iff.mp hi).1
      cases hF : ck_look X a0 0 with
      | none => rw [hF] at hxy; cases hxy
      | some F =>
        rw [hF] at hxy
        dsimp only at hxy
        cases hjn : ck_join x.2 F with
        | none => rw [hjn] at hxy; cases hxy
        | some G =>
          rw [hjn] at hxy
          cases hxy
          refine ⟨_, by rw [hc]; exact hnew, fun w hw => ?_⟩
          dsimp only at hw
          have key : ∀ k, k < N → w = ck_elem cn' k → (ck_slot (.inl (cA, N, cn)) x.1.2 (ck_elem cn k)) → ck_fv st (ws.set i (a, .inl (cA, N, cn'))) G w := fun k hk ew hs => by
            rw [ew]
            rcases hel k hk with z | z
            · rw [z]
              exact (ck_join_ok hjn (Or.inl (hv' _ hs))).on ho
            · exact (ck_join_ok hjn (Or.inr (z F hF))).on ho
          match hx2 : x.1.2, hw with
          | 0, hw =>
            obtain ⟨k, hk, ew⟩ := hw
            exact key k hk ew (by rw [hx2]; exact ⟨k, hk, rfl⟩)
          | k + 1, hw =>
            obtain ⟨hk, ew⟩ := hw
            exact key k hk ew (by rw [hx2]; exact ⟨hk, rfl⟩)
    · rw [if_neg hc] at hxy
      cases hxy
      exact ⟨q, by rw [List.getElem?_set_ne (fun z => hc z.symm)]; exact hq, fun w hw => (hv' w hw).on ho⟩
  · intro S hs
    rcases S with o | r
    · exact hs.elim
    · exact ⟨hs.1, hs.2.1, hcn _ hs.2.2⟩
def ck_okY (Ts : List Cond) (own : String) (q : Nat × Nat × Nat) : Prop := (q.2.1 = 6 → Cond.methodLink own q.1 arraycopyName ∈ Ts ∧ Cond.native arraycopyName ∈ Ts ∧ Cond.static arraycopyName ∈ Ts ∧ Cond.initialized "java/lang/System" ∈ Ts) ∧ (q.2.1 = 7 → Cond.methodLink own q.1 Lib.objectInit ∈ Ts ∧ Cond.instanceMethod Lib.objectInit ∈ Ts ∧ Cond.code Lib.objectInit ⟨#[0xb1]⟩ 1 none ∈ Ts) ∧ (q.2.1 = 8 → Cond.methodLink own q.1 Lib.Math.min.name ∈ Ts ∧ Cond.static Lib.Math.min.name ∈ Ts ∧ Cond.initialized "java/lang/Math" ∈ Ts ∧ Cond.code Lib.Math.min.name Lib.Math.min.code 2 (some .int) ∈ Ts)
/-- the less of two -/
def ck_min (I : List ck_I) (f g : ck_L) : List ck_I × ck_L := ck_two (fun x y => if y < x then y else x) I f g (ck_btw I (min (ck_rng I f).1 (ck_rng I g).1) (min (ck_rng I f).2 (ck_rng I g).2))
theorem ck_min_ok {f g : ck_L} {x y : Int32} (h : ck_gi ν I) (hx : x.toInt = ck_ev ν f) (hy : y.toInt = ck_ev ν g) : ck_res ν I (ck_min I f g).1 (ck_min I f g).2 (if y < x then y else x).toInt := by
  have rx := ck_rng32 h hx
  have ry := ck_rng32 h hy
  refine ck_two_ok (o := fun x y => if y < x then y else x) h hx hy ?_
  show ck_res ν I _ _ (if y < x then y else x).toInt
  by_cases hc : y < x
  · have hc' := Int32.lt_iff_toInt_lt.mp hc
    rw [if_pos hc]
    exact ck_btw_ok h (by omega) (by omega)
  · have hc' : ¬ y.toInt < x.toInt := fun q => hc (Int32.lt_iff_toInt_lt.mpr q)
    rw [if_neg hc]
    exact ck_btw_ok h (by omega) (by omega)
def ck_y (ml : List (Nat × Nat × Nat)) (sh : List ck_Sh) (wr : List (Nat × Nat)) (CM SM FM LM : Nat) (pc : Nat) (i : Instr × Nat) (I : List ck_I) (L : List (Nat × ck_V)) (S : List ck_V) (X : ck_D) (k : Nat × Nat × Nat) : Option (List (Nat × ck_S)) := match i, S with
  | (.invokestatic x, 3), .inl g :: .inl f2 :: .inr (0, b) :: .inl f1 :: .inr (0, a) :: S => match ml.find? (fun q => q.1 == x), ck_row sh a, ck_row sh b with
    | some q, some (.int, n0), some (.int, n1) => if q.2.1 = 6 ∧ 0 ≤ (ck_rng I g).1 ∧ 0 ≤ (ck_rng I f1).1 ∧ 0 ≤ (ck_rng I f2).1 ∧ (ck_rng I f1).2 + (ck_rng I g).2 ≤ (n0 : Int) ∧ (ck_rng I f2).2 + (ck_rng I g).2 ≤ (n1 : Int) ∧ wr.contains (b, 0) = true ∧ 1 ≤ FM ∧ S.all ck_one = true ∧ S.length + (nativeFrameWords "java/lang/System" "arraycopy" 5 + 11) ≤ LM then some [(pc + 3, (I, L, S, ck_cpX X a b, k))] else none
    | _, _, _ => none
  | (.invokespecial x, 3), .inr (0, _) :: S => match ml.find? (fun q => q.1 == x) with
    | some q => if q.2.1 = 7 ∧ 1 ≤ FM ∧ S.all ck_one = true ∧ S.length + 12 ≤ LM then some [(pc + 3, (I, L, S, X, k))] else none
    | none => none
  | (.invokestatic x, 3), .inl g :: .inl f :: S => match ml.find? (fun q => q.1 == x) with
    | some q => if q.2.1 = 8 ∧ 1 ≤ FM ∧ S.all ck_one = true ∧ S.length + 13 ≤ LM ∧ k.2.1 ≤ CM ∧ k.2.2 ≤ SM then some [(pc + 3, ((ck_min I f g).1, L, .inl (ck_min I f g).2 :: S, X, k))] else none
    | none => none
  | _, _ => none
theorem ck_y_ok {ml : List (Nat × Nat × Nat)} {CM SM FM LM : Nat} {i : Instr × Nat} {xs : List (Nat × ck_S)} (hx : p.tables.exec = Jvm.exec) (hb : c.code = cc) (hml : c.maxLocals = nL) (hown : s.vm.findClass own = some m.cls) (hts : ∀ w ∈ Ts, w.before args s = true) (hY : ∀ q ∈ ml, ck_okY Ts own q) (hRc : R.cells = CM) (hRs : R.slots = SM) (hRf : R.frames = FM) (hRl : R.locals = LM) (hd : decode cc pc = .ok i) (h : ck_y ml sh wr CM SM FM LM pc i I L S X (nc, mc, ms) = some xs) (hn : n ≤ I.length) (hG : ck_G D cl st sh A s nL wr ws0 I L S X nc ν ws tys H locs ls vs)
    (K : ∀ x ∈ xs, ck_N p l e R s m args below meth c Q D cl st sh A nL wr ws0 n ν x) : W p l e R s m args below meth c H locs mc ms Q (F0 m pc ls vs) := by
  have hK := hG.2.2.2.2.2.1
  have hP := hG.2.2.2.2.2.2.1
  have hD := hG.2.2.2.2.2.2.2.1
  have hS := hG.2.2.2.2.2.2.2.2.1
  have hsz : ls.size = nL := by obtain ⟨lv, hl, -⟩ := hG.2.1; exact hl.1
  unfold ck_y at h
  split at h
  · split at h
    · rename_i q n0 n1 hq hr0 hr1
      split at h
      · rename_i hc
        obtain ⟨c0, c1, c2, c3, c4, c5, c6, c7, c8, c9⟩ := hc
        cases h
        obtain ⟨hmem, e1⟩ := ck_found hq
        obtain ⟨y1, y2, y3, y4⟩ := (hY q hmem).1 c0
        rw [e1] at y1
        obtain ⟨v, vs1, rfl, ⟨w1, z, rfl, ez⟩, g1⟩ := hG.gs.pop
        obtain ⟨v, vs2, rfl, ⟨w2, dp, rfl, ed⟩, g2⟩ := g1.pop
        obtain ⟨v, vs3, rfl, ⟨⟨ab, eb⟩, hb1, rfl⟩, g3⟩ := g2.pop
        obtain ⟨v, vs4, rfl, ⟨w4, sp, rfl, es⟩, g4⟩ := g3.pop
        obtain ⟨v, vs5, rfl, ⟨⟨aa, ea⟩, ha1, rfl⟩, g5⟩ := g4.pop
        obtain ⟨cA0, cn0, t0, p1, p2, p3⟩ := ck_row_ok hr0 hG.2.2.2.2.1 ha1
        obtain ⟨cA1, cn1, t1, q1, q2, q3⟩ := ck_row_ok hr1 hG.2.2.2.2.1 hb1
        dsimp only at p1 p2 q1 q2
        subst p1
        subst q1
        have rz := ck_rng32 hG.gi ez
        have rd := ck_rng32 hG.gi ed
        have rs := ck_rng32 hG.gi es
        rcases cn0 with f | cn0
        · rcases cn1 with g | cn1
          · have z0 : (0 : Int32).toInt = 0 := rfl
            have nn : ∀ {x : Int32}, 0 ≤ x.toInt → ¬ x < 0 := fun hx0 hx1 => by have := Int32.lt_iff_toInt_lt.mp hx1; omega
            have tc : ∀ x : Int32, x.toNatClampNeg = x.toInt.toNat := fun _ => rfl
            have hw := ck_words c8 g5
            refine va_copyi hx hb (hml.trans hsz.symm) hown (hts _ y1) (hts _ y2) (hts _ y3) (hts _ y4) hK hP hD hS _ _ t0 t1 ha1 hb1 p2 q2 rfl (nn (by omega)) (nn (by omega)) (nn (by omega)) (by rw [tc, tc]; omega) (by rw [tc, tc]; omega) (fun _ _ => rfl) (by rw [hRf]; exact c7) (by rw [hRl, hw]; exact c9) hd (fun H1 locs1 hP1 hD1 hS1 => K _ List.mem_cons_self ν _ tys H1 locs1 ls vs5 (fun _ _ => rfl) (ck_setany (hG.stk g5) hb1 ?_ (fun ty hty => by cases ty <;> exact hty) (List.contains_iff_mem.mp c6) hP1 hD1 hS1))
            intro j hj
            by_cases hin : dp.toNatClampNeg ≤ j ∧ j < dp.toNatClampNeg + z.toNatClampNeg
            · refine Or.inr (fun F hF => ?_)
              show ck_fv st ws F (.int (va_cpy f g _ _ _ j))
              rw [pk_cpy_in hin.1 hin.2]
              refine ck_look_ok hF hG.2.2.2.1 ha1 ⟨sp.toNatClampNeg + (j - dp.toNatClampNeg), ?_, rfl⟩
              rw [tc, tc] at hin
              show _ < n0
              rw [tc, tc]
              omega
            · refine Or.inl ?_
              show Value.int (va_cpy f g _ _ _ j) = .int (g j)
              rw [pk_cpy_out (by omega)]
          · exact q3.elim
        · exact p3.elim
      · cases h
    · cases h
  · split at h
    · rename_i q hq
      split at h
      · rename_i hc
        obtain ⟨c0, c7, c8, c9⟩ := hc
        cases h
        obtain ⟨hmem, e1⟩ := ck_found hq
        obtain ⟨y1, y2, y3⟩ := (hY q hmem).2.1 c0
        rw [e1] at y1
        obtain ⟨v, vs1, rfl, ⟨a, ha, rfl⟩, g1⟩ := hG.gs.pop
        have hw := ck_words c8 g1
        have hroom : 2 * (F0 m pc ls (Value.ref a.1 :: vs1)).monitorRoom + (vs1.map fun v => v.category).sum + 12 ≤ R.locals := by
          rw [hw, hRl]
          show 2 * 0 + _ + 12 ≤ _
          omega
        exact W.objInit hx hb hown (hts _ y1) (hts _ y2) (hts _ y3) rfl (hsz.trans hml.symm) rfl hd (by rw [hRf]; exact c7) hroom (K _ List.mem_cons_self ν ws tys H locs ls vs1 (fun _ _ => rfl) (hG.stk g1))
      · cases h
    · cases h
  · split at h
    · rename_i q hq
      split at h
      · rename_i hc
        obtain ⟨c0, c7, c8, c9, c10, c11⟩ := hc
        cases h
        obtain ⟨hmem, e1⟩ := ck_found hq
        obtain ⟨y1, y2, y3, y4⟩ := (hY q hmem).2.2 c0
        rw [e1] at y1
        obtain ⟨v, vs1, rfl, ⟨w1, y, rfl, ey⟩, g1⟩ := hG.gs.pop
        obtain ⟨v, vs2, rfl, ⟨w2, x, rfl, ex⟩, g2⟩ := g1.pop
        have hw := ck_words c8 g2
        exact va_mmin hx hb (hml.trans hsz.symm) hown (hts _ y1) (hts _ y2) (hts _ y3) (hts _ y4) (by rw [hRf]; exact c7) (by rw [hRl, hw]; exact c9) (by rw [hRc]; exact c10) (by rw [hRs]; exact c11) hd (ck_pushv (hG.stk g2) hn (ck_min_ok hG.gi ex ey) (K _ List.mem_cons_self))
      · cases h
    · cases h
  · cases h
/-! returns -/
def ck_intsOk (I : List ck_I) : Nat → List (Int × Int) → Bool
  | _, [] => true
  | k, z :: zs => (match I[k]? with
    | some q => decide (z.1 ≤ q.1) && decide (q.2.1 ≤ z.2)
    | none => false) && ck_intsOk I (k + 1) zs
theorem ck_intsOk_ok : ∀ {zs : List (Int × Int)} {xs : List Int32} {k : Nat}, ck_intsOk I k zs = true → ck_gi ν I → zs.length = xs.length → (∀ (j : Nat) (x : Int32), xs[j]? = some x → ν (k + j) = x.toInt) → ck_iv zs xs
  | [], [], _, _, _, _, _ => trivial
  | z :: zs, x :: xs, k, h, hi, hl, hν => by
    simp only [ck_intsOk, Bool.and_eq_true] at h
    obtain ⟨h1, h2⟩ := h
    have e : ν k = x.toInt := by simpa using hν 0 x rfl
    split at h1
    · rename_i q hq
      simp only [Bool.and_eq_true, decide_eq_true_eq] at h1
      obtain ⟨a1, a2, -, -⟩ := hi k q hq
      refine ⟨by omega, by omega, ck_intsOk_ok h2 hi (by simpa using hl) (fun j y hy => ?_)⟩
      have := hν (j + 1) y (by simpa using hy)
      rw [← this]; congr 1; omega
    · cases h1
  | [], _ :: _, _, _, _, hl, _ => by simp at hl
  | _ :: _, [], _, _, _, hl, _ => by simp at hl
def ck_end (outs : List ck_O) (n0 : Nat) (I : List ck_I) (V : Option ck_V) (X : ck_D) (nc : Nat) : Bool := outs.any fun o => decide (o.2.2.2 = nc) && decide (o.2.1.length = n0) && (match V, o.1 with
  | none, none => true
  | some V, some F => ck_subF (ck_toF I V) F
  | _, _ => false) && ck_intsOk I 0 o.2.1 && ck_subD X o.2.2.1
def ck_ret (co : ck_C) (ret : Option FieldType) (n0 : Nat) (i : Instr × Nat) (I : List ck_I) (S : List ck_V) (X : ck_D) (k : Nat × Nat × Nat) : Bool := match i, S with
  | (.ireturn, 1), [.inl f] => (match ret with
    | some .int => true
    | some .boolean => decide (0 ≤ (ck_rng I f).1) && decide ((ck_rng I f).2 ≤ 1)
    | _ => false) && ck_end co.2.2.2.2.2.1 n0 I (some (.inl f)) X k.1 && decide (k.2.1 ≤ co.2.2.2.2.2.2.2.2.1) && decide (k.2.2 ≤ co.2.2.2.2.2.2.2.2.2)
  | (.areturn, 1), [.inr q] => (match ret with
    | some (.object _) => true
    | some (.array _) => true
    | _ => false) && ck_one (.inr q) && ck_end co.2.2.2.2.2.1 n0 I (some (.inr q)) X k.1 && decide (k.2.1 ≤ co.2.2.2.2.2.2.2.2.1) && decide (k.2.2 ≤ co.2.2.2.2.2.2.2.2.2)
  | (.return_, 1), [] => (match ret with
    | none => true
    | _ => false) && ck_end co.2.2.2.2.2.1 n0 I none X k.1 && decide (k.2.1 ≤ co.2.2.2.2.2.2.2.2.1) && decide (k.2.2 ≤ co.2.2.2.2.2.2.2.2.2)
  | _, _ => false
theorem ck_end_ok {co : ck_C} {n0 : Nat} {V : Option ck_V} {v : Option Value} {as : List Value} (h : ck_end co.2.2.2.2.2.1 n0 I V X nc = true) (hG : ck_G D cl st sh (va_A ws0 s.heap.size) s nL co.2.2.2.2.1 ws0 I L S X nc ν ws tys H locs ls vs) (hV : match V, v with
    | none, none => True
    | some V, some v => ck_gv ν st ws I.length V v
    | _, _ => False) (hn0 : (ck_ints as).length = n0) (hν : ∀ (j : Nat) (x : Int32), (ck_ints as)[j]? = some x → ν j = x.toInt) {t : State} (ht : t.heap = H) (hW : s.WarmedH t.vm) (args' : Array Value) : ck_Post D cl st sh co ws0 as (va_A ws0 s.heap.size) args' s (.returned v) t := by
  obtain ⟨o, ho, hh⟩ := List.any_eq_true.mp h
  simp only [Bool.and_eq_true, decide_eq_true_eq] at hh
  obtain ⟨⟨⟨⟨h1, h2⟩, h3⟩, h4⟩, h5⟩ := hh
  obtain ⟨g1, g2, g3, g4, g5, g6, g7, g8, g9, g10⟩ := hG
  refine ⟨⟨o, ho, v, ws, tys, rfl, ?_, ck_intsOk_ok h4 g1 (by omega) (fun j x hx => by rw [Nat.zero_add]; exact hν j x hx), ck_subD_ok h5 g4, by rw [h1]; exact g5, g10, by rw [ht]; exact g7, va_K.moved hW.alike g6, g8⟩, by rw [ht]; exact g9.1, fun q hq hA => by rw [ht]; exact g9.2.1 q hq hA⟩
  cases V with
  | none =>
    cases v with
    | none =>
      cases ho1 : o.1 with
      | none => trivial
      | some F => rw [ho1] at h3; cases h3
    | some v => exact hV.elim
  | some V =>
    cases v with
    | none => exact hV.elim
    | some v =>
      cases ho1 : o.1 with
      | none => rw [ho1] at h3; cases h3
      | some F =>
        rw [ho1] at h3
        exact ck_subF_ok h3 (ck_toF_ok g1 hV)
theorem ck_ret_ok {co : ck_C} {ret : Option FieldType} {n0 : Nat} {i : Instr × Nat} {as : List Value} (hx : p.tables.exec = Jvm.exec) (hb : c.code = cc) (hr : meth.sig.returnType = ret) (hlocks : meth.locks = false) (hn0 : (ck_ints as).length = n0) (hd : decode cc pc = .ok i) (h : ck_ret co ret n0 i I S X (nc, mc, ms) = true) (hν : ∀ (j : Nat) (x : Int32), (ck_ints as)[j]? = some x → ν j = x.toInt) (hG : ck_G D cl st sh (va_A ws0 s.heap.size) s nL co.2.2.2.2.1 ws0 I L S X nc ν ws tys H locs ls vs) :
    W p l e R s m args below meth c H locs mc ms (MQ below (ck_Post D cl st sh co ws0 as (va_A ws0 s.heap.size)) args s co.2.2.2.2.2.2.2.2.1 co.2.2.2.2.2.2.2.2.2 (va_A ws0 s.heap.size)) (F0 m pc ls vs) := by
  have hf : ∀ q ∈ locs, va_A ws0 s.heap.size q.base := hG.2.2.2.2.2.2.2.2.1.2.2
  unfold ck_ret at h
  split at h
  · simp only [Bool.and_eq_true, decide_eq_true_eq] at h
    obtain ⟨⟨⟨h1, h2⟩, h3⟩, h4⟩ := h
    obtain ⟨v, vs1, rfl, hv, g1⟩ := hG.gs.pop
    have hv' := hv
    obtain ⟨w, x, rfl, e1⟩ := hv'
    cases vs1 with
    | cons a b => exact g1.elim
    | nil =>
      refine W.widen h3 h4 ?_
      have rx := ck_rng32 hG.gi e1
      split at h1
      · exact W.zret hx hb hr rfl (fun t ht hW => ck_end_ok h2 hG hv hn0 hν ht hW _) hf hd hlocks
      · simp only [Bool.and_eq_true, decide_eq_true_eq] at h1
        refine W.zret hx hb hr ?_ (fun t ht hW => ck_end_ok h2 hG hv hn0 hν ht hW _) hf hd hlocks
        rcases (show x.toInt = 0 ∨ x.toInt = 1 by omega) with q | q
        · have ex : x = 0 := Int32.toInt_inj.mp q
          rw [ex]; rfl
        · have ex : x = 1 := Int32.toInt_inj.mp q
          rw [ex]; rfl
      · cases h1
  · simp only [Bool.and_eq_true, decide_eq_true_eq] at h
    obtain ⟨⟨⟨⟨h1, h0⟩, h2⟩, h3⟩, h4⟩ := h
    obtain ⟨v, vs1, rfl, hv, g1⟩ := hG.gs.pop
    cases vs1 with
    | cons a b => exact g1.elim
    | nil =>
      refine W.widen h3 h4 ?_
      split at h1
      · exact W.aret hx hb hr (Or.inl ⟨_, rfl⟩) (ck_refs h0 hv) (fun t ht hW => ck_end_ok h2 hG hv hn0 hν ht hW _) hf hd hlocks
      · exact W.aret hx hb hr (Or.inr ⟨_, rfl⟩) (ck_refs h0 hv) (fun t ht hW => ck_end_ok h2 hG hv hn0 hν ht hW _) hf hd hlocks
      · cases h1
  · simp only [Bool.and_eq_true, decide_eq_true_eq] at h
    obtain ⟨⟨⟨h1, h2⟩, h3⟩, h4⟩ := h
    have g1 := hG.gs
    cases vs with
    | cons a b => exact g1.elim
    | nil =>
      refine W.widen h3 h4 ?_
      split at h1
      · exact W.vret hx hb hr (fun t ht hW => ck_end_ok (V := none) (v := none) h2 hG trivial hn0 hν ht hW _) hf hd hlocks
      · cases h1
  · cases h
end CKE
