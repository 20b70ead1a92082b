/-! THE TABLE RUN, 6: what is made, constants -/
section CKM
variable {p : Program} {l : Launch} {e : Env} {R : Room} {s : State} {m : MethodId} {args : Array Value} {below : List Frame} {meth : Method} {c : Code} {Q : State → Prop}
variable {cc : ByteArray} {D : va_G} {cl : List vw_C} {st : Nat → Nat} {sh : List ck_Sh} {A : Nat → Prop} {nL : Nat} {wr : List (Nat × Nat)} {ws0 : va_W}
variable {I I' : List ck_I} {L : List (Nat × ck_V)} {S S' : List ck_V} {X : ck_D} {nc mc ms n : Nat} {ν ν' : Nat → Int} {ws : va_W} {tys : List (ClassId × FieldType)} {H : Heap} {locs : List Loc} {ls : Array Slot} {vs vs' : List Value} {pc : Nat}
variable {Ts : List Cond} {AO : List String} {own : String}
def ck_okN (cl : List vw_C) (Ts : List Cond) (own : String) (q : Nat × Nat) : Prop := ∃ (C : String) (T : u_T) (N : Nat), cl[q.2]? = some (C, T, N) ∧ Cond.classLink own q.1 C ∈ Ts ∧ Cond.instantiable C N ∈ Ts ∧ Cond.initialized C ∈ Ts
def ck_okD (cl : List vw_C) (dt : List (List FieldType)) : Prop := ∀ (ci : Nat) (tl : List FieldType), dt[ci]? = some tl → ∃ (C : String) (T : u_T), cl[ci]? = some (C, T, tl.length) ∧ ∀ (k : Nat) (t : FieldType), tl[k]? = some t → parseFieldDescriptor (T k).2.2.1 = some t
def ck_okA (Ts : List Cond) (AO : List String) (own : String) (q : Nat × String) : Prop := Cond.classLink own q.1 q.2 ∈ Ts ∧ q.2 ∈ AO
def ck_dfl (t : FieldType) : ck_F := match t with
  | .int => .inl (0, 0)
  | .boolean => .inl (0, 0)
  | .byte => .inl (0, 0)
  | .object _ => .inr (1, 0)
  | .array _ => .inr (1, 0)
  | _ => .inr (9, 0)
theorem ck_dfl_ok (t : FieldType) : ck_fv st ws (ck_dfl t) (defaultValue t) := by
  unfold ck_dfl
  split
  · exact ⟨0, rfl, Int.le_refl _, Int.le_refl _⟩
  · exact ⟨0, rfl, Int.le_refl _, Int.le_refl _⟩
  · exact ⟨0, rfl, Int.le_refl _, Int.le_refl _⟩
  · exact rfl
  · exact rfl
  · trivial
def ck_newX (nc : Nat) : Nat → List FieldType → ck_D
  | _, [] => []
  | k, t :: tl => ((nc, k + 1), ck_dfl t) :: ck_newX nc (k + 1) tl
theorem ck_newX_mem {x : (Nat × Nat) × ck_F} : ∀ (tl : List FieldType) (k : Nat), x ∈ ck_newX nc k tl → ∃ (j : Nat) (t : FieldType), tl[j]? = some t ∧ x = ((nc, k + j + 1), ck_dfl t)
  | [], _, h => by cases h
  | t :: tl, k, h => by
    rcases List.mem_cons.mp h with e | h
    · exact ⟨0, t, rfl, e⟩
    · obtain ⟨j, t', h1, h2⟩ := ck_newX_mem tl (k + 1) h
      exact ⟨j + 1, t', by simpa using h1, by rw [h2]; congr 2; congr 1; omega⟩
/-- the world with one more cell -/
theorem ck_G.more {S2 : ck_Sh} {q : Nat} {x : va_E} {Y : ck_D} {tys' : List (ClassId × FieldType)} {H1 : Heap} (hG : ck_G D cl st sh A s nL wr ws0 I L S X nc ν ws tys H locs ls vs) (hsh : sh[nc]? = some S2) (hf : ck_fit tys' S2 x) (htys : ∀ (t : Nat) (y : ClassId × FieldType), tys[t]? = some y → ∃ t' : Nat, tys'[t']? = some y) (hY : ck_gd st (ws ++ [(q, x)]) Y) (hK : va_K D cl tys' s) (hP : va_P D cl (ws ++ [(q, x)]) H1) (hD : va_D A (ws ++ [(q, x)])) (hS : va_S A s.heap H1 locs) : ck_G D cl st sh A s nL wr ws0 I L (.inr (0, nc) :: S) (Y ++ X) (nc + 1) ν (ws ++ [(q, x)]) tys' H1 locs ls (.ref q :: vs) := by
  obtain ⟨h1, h2, h3, h4, h5, h6, h7, h8, h9, h10⟩ := hG
  have ho := ck_on.push (ws := ws) (q, x)
  have hl : ws.length = nc := h5.1
  have hat : (ws ++ [(q, x)])[nc]? = some (q, x) := by rw [← hl]; simp
  refine ⟨h1, h2.on ho (Nat.le_refl _) (fun _ _ => rfl), ⟨⟨(q, x), hat, rfl⟩, h3.on ho (Nat.le_refl _) (fun _ _ => rfl)⟩, hY.app (h4.push _), ⟨by simp [hl], fun i r hr => ?_⟩, hK, hP, hD, hS, h10.trans (ck_fr.push _)⟩
  rcases Nat.lt_trichotomy i ws.length with hi | hi | hi
  · rw [List.getElem?_append_left hi] at hr
    obtain ⟨S3, a1, a2⟩ := h5.2 i r hr
    exact ⟨S3, a1, a2.more htys⟩
  · rw [hi, hl, hat] at hr
    cases hr
    exact ⟨S2, by rw [hi, hl]; exact hsh, hf⟩
  · rw [List.getElem?_eq_none (by simp; omega)] at hr
    cases hr
def ck_rowX (nc : Nat) (F : ck_F) (tr : List (Nat × List Nat)) : ck_D := ((nc, 0), F) :: (match tr.find? (fun q => q.1 == nc) with
  | some q => q.2.map (fun j => ((nc, j + 1), F))
  | none => [])
theorem ck_rowX_ok {F : ck_F} {tr : List (Nat × List Nat)} {q N : Nat} {cA : ClassId} {cn : ck_Cn} (hl : ws.length = nc) (hv : ∀ j, ck_fv st (ws ++ [(q, .inl (cA, N, cn))]) F (ck_elem cn j)) : ck_gd st (ws ++ [(q, .inl (cA, N, cn))]) (ck_rowX nc F tr) := by
  have hat : (ws ++ [(q, (.inl (cA, N, cn) : va_E))])[nc]? = some (q, .inl (cA, N, cn)) := by rw [← hl]; simp
  intro x hx
  rcases List.mem_cons.mp hx with rfl | hx
  · exact ⟨_, hat, fun v hs => by obtain ⟨j, -, rfl⟩ := hs; exact hv j⟩
  · split at hx
    · obtain ⟨j, -, rfl⟩ := List.mem_map.mp hx
      exact ⟨_, hat, fun v hs => by obtain ⟨-, rfl⟩ := hs; exact hv j⟩
    · cases hx
theorem ck_tysapp {y : ClassId × FieldType} : ∀ (t : Nat) (z : ClassId × FieldType), tys[t]? = some z → ∃ t' : Nat, (tys ++ [y])[t']? = some z := fun t z h => ⟨t, by rw [List.getElem?_append_left (List.getElem?_eq_some_iff.mp h).1]; exact h⟩
theorem ck_tyslast {y : ClassId × FieldType} : ∃ t : Nat, (tys ++ [y])[t]? = some y := ⟨tys.length, by simp⟩
/-- what is made: objects, rows of numbers, rows of objects -/
def ck_n (nl : List (Nat × Nat)) (dt : List (List FieldType)) (ats : List FieldType) (al : List (Nat × String)) (tr : List (Nat × List Nat)) (sh : List ck_Sh) (CM SM : Nat) (pc : Nat) (i : Instr × Nat) (I : List ck_I) (L : List (Nat × ck_V)) (S : List ck_V) (X : ck_D) (k : Nat × Nat × Nat) : Option (List (Nat × ck_S)) := match i, S with
  | (.new x, 3), S => match nl.find? (fun q => q.1 == x), ck_obj sh k.1 with
    | some q, some o => match dt[o.1]? with
      | some tl => if o.1 = q.2 ∧ tl.length = o.2 ∧ k.2.1 + 1 ≤ CM ∧ k.2.2 + o.2 ≤ SM then some [(pc + 3, (I, L, .inr (0, k.1) :: S, ck_newX k.1 0 tl ++ X, k.1 + 1, k.2.1 + 1, k.2.2 + o.2))] else none
      | none => none
    | _, _ => none
  | (.newarray a, 2), .inl f :: S => match ck_row sh k.1 with
    | some r => if newarray.typeOf a = r.1 ∧ ats.contains r.1 = true ∧ f.2.1 = 0 ∧ f.2.2 = (r.2 : Int) ∧ r.2 * componentBytes r.1 ≤ 536870912 ∧ k.2.1 + 1 ≤ CM ∧ k.2.2 + r.2 ≤ SM then (match r.1 with
      | .int => some [(pc + 2, (I, L, .inr (0, k.1) :: S, ck_rowX k.1 (.inl (0, 0)) tr ++ X, k.1 + 1, k.2.1 + 1, k.2.2 + r.2))]
      | .byte => some [(pc + 2, (I, L, .inr (0, k.1) :: S, ck_rowX k.1 (.inl (0, 0)) tr ++ X, k.1 + 1, k.2.1 + 1, k.2.2 + r.2))]
      | .boolean => some [(pc + 2, (I, L, .inr (0, k.1) :: S, ck_rowX k.1 (.inl (0, 0)) tr ++ X, k.1 + 1, k.2.1 + 1, k.2.2 + r.2))]
      | .long => some [(pc + 2, (I, L, .inr (0, k.1) :: S, [] ++ X, k.1 + 1, k.2.1 + 1, k.2.2 + r.2))]
      | _ => none) else none
    | none => none
  | (.anewarray x, 3), .inl f :: S => match al.find? (fun q => q.1 == x), ck_row sh k.1 with
    | some q, some (.object C, N) => if q.2 = C ∧ f.2.1 = 0 ∧ f.2.2 = (N : Int) ∧ N * 4 ≤ 536870912 ∧ k.2.1 + 1 ≤ CM ∧ k.2.2 + N ≤ SM then some [(pc + 3, (I, L, .inr (0, k.1) :: S, ck_rowX k.1 (.inr (1, 0)) tr ++ X, k.1 + 1, k.2.1 + 1, k.2.2 + N))] else none
    | _, _ => none
  | _, _ => none
theorem ck_found {α : Type} {ql : List (Nat × α)} {x : Nat} {q : Nat × α} (h : ql.find? (fun q => q.1 == x) = some q) : q ∈ ql ∧ q.1 = x := ⟨List.mem_of_find?_eq_some h, by simpa using List.find?_some h⟩
theorem ck_told2 {f : ck_L} {x : Int32} {N : Nat} (h0 : f.2.1 = 0) (h1 : f.2.2 = (N : Int)) (hx : x.toInt = ck_ev ν f) : ¬ x < 0 ∧ x.toNatClampNeg = N := by
  have e : x.toInt = (N : Int) := by rw [hx]; unfold ck_ev; rw [h0, Int.zero_mul, Int.zero_add, h1]
  refine ⟨fun z => ?_, ?_⟩
  · have z2 := Int32.lt_iff_toInt_lt.mp z
    have z3 : (0 : Int32).toInt = 0 := rfl
    omega
  · show x.toInt.toNat = N
    omega
theorem ck_sh_obj {i : Nat} {o : Nat × Nat} (h : ck_obj sh i = some o) : sh[i]? = some (.inl o) := by
  unfold ck_obj at h
  split at h
  · rename_i e; cases h; exact e
  · cases h
theorem ck_sh_row {i : Nat} {r : FieldType × Nat} (h : ck_row sh i = some r) : sh[i]? = some (.inr r) := by
  unfold ck_row at h
  split at h
  · rename_i e; cases h; exact e
  · cases h
theorem ck_n_ok {nl : List (Nat × Nat)} {dt : List (List FieldType)} {ats : List FieldType} {al : List (Nat × String)} {tr : List (Nat × List Nat)} {CM SM : Nat} {i : Instr × Nat} {xs : List (Nat × ck_S)} (hx : p.tables.exec = Jvm.exec) (hb : c.code = cc) (hown : s.vm.findClass own = some m.cls) (hts : ∀ w ∈ Ts, w.before args s = true) (hAO : ∀ C ∈ AO, va_AO C s) (hC : ck_okC cl Ts) (hN : ∀ q ∈ nl, ck_okN cl Ts own q) (hDt : ck_okD cl dt) (hAt : ∀ t ∈ ats, Cond.arrayClass t ∈ Ts) (hAl : ∀ q ∈ al, ck_okA Ts AO own q) (hA : ∀ q, s.heap.size ≤ q → A q) (hRc : R.cells = CM) (hRs : R.slots = SM) (hd : decode cc pc = .ok i) (h : ck_n nl dt ats al tr sh CM SM pc i I L S X (nc, mc, ms) = some xs) (hG : ck_G D cl st sh A s nL wr ws0 I L S X nc ν ws tys H locs ls vs)
    (K : ∀ x ∈ xs, ck_N p l e R s m args below meth c Q D cl st sh A nL wr ws0 n ν x) : W p l e R s m args below meth c H locs mc ms Q (F0 m pc ls vs) := by
  have hK := hG.2.2.2.2.2.1
  have hP := hG.2.2.2.2.2.2.1
  have hD := hG.2.2.2.2.2.2.2.1
  have hS := hG.2.2.2.2.2.2.2.2.1
  have hl : ws.length = nc := hG.2.2.2.2.1.1
  unfold ck_n at h
  split at h
  · split at h
    · rename_i q o hq ho
      split at h
      · rename_i tl htl
        split at h
        · rename_i hc
          obtain ⟨c1, c2, c3, c4⟩ := hc
          cases h
          obtain ⟨hmem, e1⟩ := ck_found hq
          obtain ⟨C, T, N, g1, g2, g3, g4⟩ := hN _ hmem
          obtain ⟨C', T', g5, g6⟩ := hDt _ _ htl
          rw [c1] at g5
          have g7 := Option.some.inj (g1.symm.trans g5)
          cases g7
          rw [e1] at g2
          have hsz : tl.length = o.2 := c2
          refine va_new hx hb hts (hC _ _ _ _ g1).1 (fun k => tl.getD k .int) (fun k hk => g6 k _ (by simp [List.getD_eq_getElem?_getD, hk])) hown (hts _ g2) (hts _ g3) (hts _ g4) hK hP hD hS hA g1 (fs := tl.map defaultValue) (fun j hj => by simp [vp_V, List.getD_eq_getElem?_getD, hj]) (by rw [hRc]; exact c3) (by rw [hRs, hsz]; exact c4) hd (fun a H1 hP1 hD1 hS1 => ?_)
          rw [hsz]
          refine K _ List.mem_cons_self ν _ tys H1 locs ls _ (fun _ _ => rfl) (hG.more (x := .inr (q.2, tl.map defaultValue)) (ck_sh_obj ho) (show ck_fit tys (.inl o) (.inr (q.2, tl.map defaultValue)) from ⟨c1.symm, by simp [hsz]⟩) (fun t y h => ⟨t, h⟩) ?_ hK hP1 hD1 hS1)
          intro x hx
          obtain ⟨j, t, b1, rfl⟩ := ck_newX_mem tl 0 hx
          refine ⟨(a, .inr (q.2, tl.map defaultValue)), by rw [← hl]; simp, fun v hv => ?_⟩
          have hv' : (tl.map defaultValue)[0 + j]? = some v := hv
          rw [Nat.zero_add, List.getElem?_map, b1] at hv'
          have ev : defaultValue t = v := Option.some.inj hv'
          rw [← ev]
          exact ck_dfl_ok t
        · cases h
      · cases h
    · cases h
  · split at h
    · rename_i r hr
      split at h
      · rename_i hc
        obtain ⟨c1, c2, c3, c4, c5, c6, c7⟩ := hc
        obtain ⟨v, vs', rfl, ⟨w1, x, rfl, e1⟩, h2⟩ := hG.gs.pop
        obtain ⟨n1, n2⟩ := ck_told2 c3 c4 e1
        have harr := hts _ (hAt _ (List.contains_iff_mem.mp c2))
        have hrow := ck_sh_row hr
        obtain ⟨ty, N⟩ := r
        dsimp only at h c1 c2 c4 c5 c7 n2 harr
        split at h
        · cases h
          exact va_newa hx hb (by rw [c1]; exact harr) c1 hK hP hD hS hA (a0 := (N, .inl (fun _ => 0))) (fun cA => rfl) n1 n2 c5 (by rw [hRc]; exact c6) (by rw [hRs]; exact c7) hd (fun a cA H1 hK1 hP1 hD1 hS1 => K _ List.mem_cons_self ν _ _ H1 locs ls _ (fun _ _ => rfl) ((hG.stk h2).more hrow (show ck_fit _ (.inr (.int, N)) (.inl (cA, N, .inl (fun _ => 0))) from ⟨rfl, ck_tyslast, trivial⟩) ck_tysapp (ck_rowX_ok hl (fun j => ⟨0, rfl, Int.le_refl _, Int.le_refl _⟩)) hK1 hP1 hD1 hS1))
        · cases h
          exact va_newa hx hb (by rw [c1]; exact harr) c1 hK hP hD hS hA (a0 := (N, .inl (fun _ => 0))) (fun cA => rfl) n1 n2 c5 (by rw [hRc]; exact c6) (by rw [hRs]; exact c7) hd (fun a cA H1 hK1 hP1 hD1 hS1 => K _ List.mem_cons_self ν _ _ H1 locs ls _ (fun _ _ => rfl) ((hG.stk h2).more hrow (show ck_fit _ (.inr (.byte, N)) (.inl (cA, N, .inl (fun _ => 0))) from ⟨rfl, ck_tyslast, trivial⟩) ck_tysapp (ck_rowX_ok hl (fun j => ⟨0, rfl, Int.le_refl _, Int.le_refl _⟩)) hK1 hP1 hD1 hS1))
        · cases h
          exact va_newa hx hb (by rw [c1]; exact harr) c1 hK hP hD hS hA (a0 := (N, .inl (fun _ => 0))) (fun cA => rfl) n1 n2 c5 (by rw [hRc]; exact c6) (by rw [hRs]; exact c7) hd (fun a cA H1 hK1 hP1 hD1 hS1 => K _ List.mem_cons_self ν _ _ H1 locs ls _ (fun _ _ => rfl) ((hG.stk h2).more hrow (show ck_fit _ (.inr (.boolean, N)) (.inl (cA, N, .inl (fun _ => 0))) from ⟨rfl, ck_tyslast, trivial⟩) ck_tysapp (ck_rowX_ok hl (fun j => ⟨0, rfl, Int.le_refl _, Int.le_refl _⟩)) hK1 hP1 hD1 hS1))
        · cases h
          exact va_newa hx hb (by rw [c1]; exact harr) c1 hK hP hD hS hA (a0 := (N, .inr (.inl (fun _ => 0)))) (fun cA => rfl) n1 n2 c5 (by rw [hRc]; exact c6) (by rw [hRs]; exact c7) hd (fun a cA H1 hK1 hP1 hD1 hS1 => K _ List.mem_cons_self ν _ _ H1 locs ls _ (fun _ _ => rfl) ((hG.stk h2).more hrow (show ck_fit _ (.inr (.long, N)) (.inl (cA, N, .inr (.inl (fun _ => 0)))) from ⟨rfl, ck_tyslast, trivial⟩) ck_tysapp (fun x hx => by cases hx) hK1 hP1 hD1 hS1))
        · cases h
      · cases h
    · cases h
  · split at h
    · rename_i q C N hq hr
      split at h
      · rename_i hc
        obtain ⟨c1, c3, c4, c5, c6, c7⟩ := hc
        cases h
        obtain ⟨v, vs', rfl, ⟨w1, x, rfl, e1⟩, h2⟩ := hG.gs.pop
        obtain ⟨n1, n2⟩ := ck_told2 c3 c4 e1
        obtain ⟨hmem, e2⟩ := ck_found hq
        obtain ⟨g1, g2⟩ := hAl _ hmem
        rw [c1] at g1 g2
        rw [e2] at g1
        exact va_newq hx hb hown (hts _ g1) (hAO _ g2) hK hP hD hS hA n1 n2 c5 (by rw [hRc]; exact c6) (by rw [hRs]; exact c7) hd (fun a cA H1 hK1 hP1 hD1 hS1 => K _ List.mem_cons_self ν _ _ H1 locs ls _ (fun _ _ => rfl) ((hG.stk h2).more (ck_sh_row hr) (show ck_fit _ (.inr (.object C, N)) (.inl (cA, N, .inr (.inr (.inr (.inr (fun _ => none)))))) from ⟨rfl, ck_tyslast, trivial⟩) ck_tysapp (ck_rowX_ok hl (fun j => rfl)) hK1 hP1 hD1 hS1))
      · cases h
    · cases h
  · cases h
/-- constants of the pool, literals -/
def ck_ldc (kl : List (Nat × Int)) (sl : List (Nat × Nat)) (pc : Nat) (i : Instr × Nat) (I : List ck_I) (L : List (Nat × ck_V)) (S : List ck_V) (X : ck_D) (k : Nat × Nat × Nat) : Option (List (Nat × ck_S)) := match i with
  | (.ldc x, 2) => match kl.find? (fun q => q.1 == x), sl.find? (fun q => q.1 == x) with
    | some q, _ => some [(pc + 2, (I, L, .inl (ck_k (Int32.ofInt q.2).toInt) :: S, X, k))]
    | none, some q => some [(pc + 2, (I, L, .inr (2, q.2) :: S, X, k))]
    | _, _ => none
  | (.ldc_w x, 3) => match kl.find? (fun q => q.1 == x) with
    | some q => some [(pc + 3, (I, L, .inl (ck_k (Int32.ofInt q.2).toInt) :: S, X, k))]
    | none => none
  | _ => none
theorem ck_ldc_ok {kl : List (Nat × Int)} {sl : List (Nat × Nat)} {i : Instr × Nat} {xs : List (Nat × ck_S)} (hx : p.tables.exec = Jvm.exec) (hb : c.code = cc) (hown : s.vm.findClass own = some m.cls) (hts : ∀ w ∈ Ts, w.before args s = true) (hkl : ∀ q ∈ kl, Cond.constant own q.1 (Int32.ofInt q.2) ∈ Ts) (hsl : ∀ q ∈ sl, ∃ tx, vk_R own q.1 tx (st q.2) s) (hd : decode cc pc = .ok i) (h : ck_ldc kl sl pc i I L S X (nc, mc, ms) = some xs) (hn : n ≤ I.length) (hG : ck_G D cl st sh A s nL wr ws0 I L S X nc ν ws tys H locs ls vs)
    (K : ∀ x ∈ xs, ck_N p l e R s m args below meth c Q D cl st sh A nL wr ws0 n ν x) : W p l e R s m args below meth c H locs mc ms Q (F0 m pc ls vs) := by
  unfold ck_ldc at h
  split at h
  · split at h
    · rename_i q hq
      cases h
      obtain ⟨hmem, e1⟩ := ck_found hq
      have g := hkl _ hmem
      rw [e1] at g
      exact lv_ldc hx hb hown (hts _ g) hd (ck_pushv hG hn (ck_k_ok hG.gi _) (K _ List.mem_cons_self))
    · rename_i q hq0 hq
      cases h
      obtain ⟨hmem, e1⟩ := ck_found hq
      obtain ⟨tx, g⟩ := hsl _ hmem
      rw [e1] at g
      exact va_ldcS hx hb hown g hd (ck_pushV (V := .inr (2, q.2)) hG rfl (K _ List.mem_cons_self))
    · cases h
  · split at h
    · rename_i q hq
      cases h
      obtain ⟨hmem, e1⟩ := ck_found hq
      have g := hkl _ hmem
      rw [e1] at g
      exact lv_ldcw hx hb hown (hts _ g) hd (ck_pushv hG hn (ck_k_ok hG.gi _) (K _ List.mem_cons_self))
    · cases h
  · cases h
end CKM
