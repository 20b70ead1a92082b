/-! THE TABLE RUN, 4: fields and rows -/
section CKC
variable {p : Program} {l : Launch} {e : Env} {R : Room} {s : State} {m : MethodId} {args : Array Value} {below : List Frame} {meth : Method} {c : Code} {Q : State → Prop}
variable {cc : ByteArray} {D : va_G} {cl : List vw_C} {st : Nat → Nat} {sh : List ck_Sh} {A : Nat → Prop} {nL : Nat} {wr : List (Nat × Nat)} {ws0 : va_W}
variable {I I' : List ck_I} {L : List (Nat × ck_V)} {S S' : List ck_V} {X : ck_D} {nc mc ms n : Nat} {ν ν' : Nat → Int} {ws : va_W} {tys : List (ClassId × FieldType)} {H : Heap} {locs : List Loc} {ls : Array Slot} {vs vs' : List Value} {pc : Nat}
variable {Ts : List Cond} {own : String}
/-- a link to a field: pool number, object kind, field, its type (char: it is only read here), whether it is written once -/
abbrev ck_FL : Type := Nat × Nat × Nat × FieldType × Bool
def ck_okF (cl : List vw_C) (Ts : List Cond) (own : String) (q : ck_FL) : Prop := ∃ (C : String) (T : u_T) (N : Nat), cl[q.2.1]? = some (C, T, N) ∧ q.2.2.1 < N ∧ Cond.fieldLink own q.1 (T q.2.2.1).1 (T q.2.2.1).2.1 (T q.2.2.1).2.2.1 ∈ Ts ∧ (q.2.2.2.1 = .char ∨ (parseFieldDescriptor (T q.2.2.1).2.2.1 = some q.2.2.2.1 ∧ (T q.2.2.1).2.2.2 = q.2.2.2.2 ∧ (q.2.2.2.2 = true → (T q.2.2.1).1 = own)))
def ck_okC (cl : List vw_C) (Ts : List Cond) : Prop := ∀ (ci : Nat) (C : String) (T : u_T) (N : Nat), cl[ci]? = some (C, T, N) → (∀ w ∈ u_ws C T N, w ∈ Ts) ∧ (∃ ty : Nat → FieldType, ∀ k, k < N → parseFieldDescriptor (T k).2.2.1 = some (ty k)) ∧ (∀ a, a < N → ∀ b, b < N → a ≠ b → (T a).2.1 ≠ (T b).2.1)
def ck_num (I : List ck_I) (z : Int × Int) : List ck_I × ck_L := if z.1 = z.2 then (I, ck_k z.1) else ck_btw I z.1 z.2
theorem ck_num_ok {z : Int × Int} {x : Int} (h : ck_gi ν I) (h1 : z.1 ≤ x) (h2 : x ≤ z.2) : ck_res ν I (ck_num I z).1 (ck_num I z).2 x := by
  unfold ck_num
  split
  · have e : x = z.1 := by omega
    rw [e]; exact ck_k_ok h _
  · exact ck_btw_ok h h1 h2
def ck_pushF (I : List ck_I) (F : ck_F) : Option (List ck_I × ck_V) := match F with
  | .inl z => some ((ck_num I z).1, .inl (ck_num I z).2)
  | .inr q => if ck_one (.inr q) = true then some (I, .inr q) else none
theorem ck_pushF_ok {F : ck_F} {v : Value} {r : List ck_I × ck_V} (hG : ck_G D cl st sh A s nL wr ws0 I L S X nc ν ws tys H locs ls vs) (hn : n ≤ I.length) (hv : ck_fv st ws F v) (h : ck_pushF I F = some r) (K : ck_N p l e R s m args below meth c Q D cl st sh A nL wr ws0 n ν (pc, (r.1, L, r.2 :: S, X, nc, mc, ms))) : W p l e R s m args below meth c H locs mc ms Q (F0 m pc ls (v :: vs)) := by
  rcases F with z | q
  · cases h
    obtain ⟨x, rfl, h1, h2⟩ := hv
    exact ck_pushv hG hn (ck_num_ok hG.gi h1 h2) K
  · by_cases ho : ck_one (.inr q) = true
    · rw [ck_pushF, if_pos ho] at h
      cases h
      exact ck_pushV (V := .inr q) hG hv K
    · rw [ck_pushF, if_neg ho] at h
      cases h
def ck_toF (I : List ck_I) (V : ck_V) : ck_F := match V with
  | .inl f => .inl (ck_rng I f)
  | .inr q => .inr q
theorem ck_toF_ok {V : ck_V} {v : Value} (hi : ck_gi ν I) (h : ck_gv ν st ws I.length V v) : ck_fv st ws (ck_toF I V) v := by
  cases V with
  | inl f =>
    obtain ⟨-, x, rfl, h1⟩ := h
    exact ⟨x, rfl, ck_rng32 hi h1⟩
  | inr q => exact h
def ck_tyok (ty : FieldType) (V : ck_V) : Bool := match ty, V with
  | .int, .inl _ => true
  | .object _, .inr q => ck_one (.inr q)
  | .array _, .inr q => ck_one (.inr q)
  | _, _ => false
theorem ck_tychar {V : ck_V} (h : ck_tyok .char V = true) : False := by
  cases V <;> cases h
theorem ck_tyok_ok {ty : FieldType} {V : ck_V} {v : Value} (h : ck_tyok ty V = true) (hv : ck_gv ν st ws I.length V v) : narrow ty v = v ∧ fits ty v = true := by
  unfold ck_tyok at h
  split at h
  · obtain ⟨-, x, rfl, -⟩ := hv
    exact ⟨rfl, rfl⟩
  · rcases ck_refs h hv with rfl | ⟨a, rfl⟩ <;> exact ⟨rfl, rfl⟩
  · rcases ck_refs h hv with rfl | ⟨a, rfl⟩ <;> exact ⟨rfl, rfl⟩
  · cases h
def ck_obj (sh : List ck_Sh) (i : Nat) : Option (Nat × Nat) := match sh[i]? with
  | some (.inl o) => some o
  | _ => none
def ck_row (sh : List ck_Sh) (i : Nat) : Option (FieldType × Nat) := match sh[i]? with
  | some (.inr r) => some r
  | _ => none
theorem ck_obj_ok {i : Nat} {o : Nat × Nat} {q : Nat × va_E} (h : ck_obj sh i = some o) (hw : ck_w sh tys ws nc) (hq : ws[i]? = some q) : ∃ fs : List Value, q.2 = .inr (o.1, fs) ∧ fs.length = o.2 := by
  obtain ⟨S, h1, h2⟩ := hw.2 i q hq
  unfold ck_obj at h
  rw [h1] at h
  rcases S with o' | r
  · cases h
    obtain ⟨a, e⟩ := q
    rcases e with x | ⟨ci, fs⟩
    · exact h2.elim
    · obtain ⟨h3, h4⟩ := h2
      exact ⟨fs, by rw [← h3], h4⟩
  · cases h
theorem ck_row_ok {i : Nat} {r : FieldType × Nat} {q : Nat × va_E} (h : ck_row sh i = some r) (hw : ck_w sh tys ws nc) (hq : ws[i]? = some q) : ∃ (cA : ClassId) (cn : ck_Cn) (t : Nat), q.2 = .inl (cA, r.2, cn) ∧ tys[t]? = some (cA, r.1) ∧ ck_cnt r.1 cn := by
  obtain ⟨S, h1, h2⟩ := hw.2 i q hq
  unfold ck_row at h
  rw [h1] at h
  rcases S with o' | r
  · cases h
  · cases h
    obtain ⟨a, e⟩ := q
    rcases e with ⟨cA, n, cn⟩ | x
    · obtain ⟨h3, ⟨t, h4⟩, h5⟩ := h2
      exact ⟨cA, cn, t, by rw [← h3], h4, h5⟩
    · exact h2.elim
theorem ck_look_ok {i j : Nat} {F : ck_F} {q : Nat × va_E} {v : Value} (h : ck_look X i j = some F) (hX : ck_gd st ws X) (hq : ws[i]? = some q) (hv : ck_slot q.2 j v) : ck_fv st ws F v := by
  obtain ⟨q', h1, h2⟩ := hX _ (ck_look_mem h)
  have e : q' = q := Option.some.inj (h1.symm.trans hq)
  subst e
  exact h2 v hv
def ck_fld (fl : List ck_FL) (x : Nat) : Option ck_FL := fl.find? (fun q => q.1 == x)
theorem ck_fld_ok {fl : List ck_FL} {x : Nat} {q : ck_FL} (h : ck_fld fl x = some q) (hF : ∀ q ∈ fl, ck_okF cl Ts own q) : q.1 = x ∧ ck_okF cl Ts own q := ⟨by simpa using List.find?_some h, hF _ (List.mem_of_find?_eq_some h)⟩
def ck_putX (X : ck_D) (i j : Nat) (F : ck_F) : ck_D := ((i, j), F) :: X.filter (fun x => !(x.1.1 == i && x.1.2 == j))
def ck_f (fl : List ck_FL) (sh : List ck_Sh) (wr : List (Nat × Nat)) (ini : Bool) (pc : Nat) (i : Instr × Nat) (I : List ck_I) (L : List (Nat × ck_V)) (S : List ck_V) (X : ck_D) (k : Nat × Nat × Nat) : Option (List (Nat × ck_S)) := match i, S with
  | (.getfield x, 3), .inr (0, i) :: S => match ck_fld fl x, ck_obj sh i with
    | some q, some o => if o.1 = q.2.1 ∧ q.2.2.1 < o.2 then (match ck_look X i (q.2.2.1 + 1) with
      | some F => (match ck_pushF I F with
        | some r => some [(pc + 3, (r.1, L, r.2 :: S, X, k))]
        | none => none)
      | none => none) else none
    | _, _ => none
  | (.putfield x, 3), V :: .inr (0, i) :: S => match ck_fld fl x, ck_obj sh i with
    | some q, some o => if o.1 = q.2.1 ∧ q.2.2.1 < o.2 ∧ ck_tyok q.2.2.2.1 V = true ∧ wr.contains (i, q.2.2.1 + 1) = true ∧ (q.2.2.2.2 = true → ini = true) then some [(pc + 3, (I, L, S, ck_putX X i (q.2.2.1 + 1) (ck_toF I V), k))] else none
    | _, _ => none
  | _, _ => none
theorem ck_setobj {i a ci k : Nat} {fs : List Value} {v : Value} {F : ck_F} (hG : ck_G D cl st sh A s nL wr ws0 I L S X nc ν ws tys H locs ls vs) (hi : ws[i]? = some (a, .inr (ci, fs))) (hk : k < fs.length) (hv : ck_fv st ws F v) (hwr : (i, k + 1) ∈ wr) {H1 : Heap} {locs1 : List Loc} (hP : va_P D cl (ws.set i (a, .inr (ci, fs.set k v))) H1) (hD : va_D A (ws.set i (a, .inr (ci, fs.set k v)))) (hS : va_S A s.heap H1 locs1) : ck_G D cl st sh A s nL wr ws0 I L S (ck_putX X i (k + 1) F) nc ν (ws.set i (a, .inr (ci, fs.set k v))) tys H1 locs1 ls vs := by
  obtain ⟨h1, h2, h3, h4, h5, h6, h7, h8, h9, h10⟩ := hG
  have ho := ck_on.set (e' := .inr (ci, fs.set k v)) hi
  have hfr : ck_fr wr ws (ws.set i (a, .inr (ci, fs.set k v))) := ck_fr.set hi (fun j hj h0 w hw => by
    match j, hj, hw with
    | 0, _, hw => exact hw
    | j + 1, hj, hw =>
      have hne : k ≠ j := fun z => hj (by rw [← z]; exact hwr)
      have hw' : (fs.set k v)[j]? = some w := hw
      rw [List.getElem?_set_ne hne] at hw'
      exact hw')
  refine ⟨h1, h2.on ho (Nat.le_refl _) (fun _ _ => rfl), h3.on ho (Nat.le_refl _) (fun _ _ => rfl), ?_, h5.set hi ?_, h6, hP, hD, hS, h10.trans hfr⟩
  · intro x hx
    rcases List.mem_cons.mp hx with rfl | hx
    · refine ⟨(a, .inr (ci, fs.set k v)), List.getElem?_set_self (List.getElem?_eq_some_iff.mp hi).1, fun w hw => ?_⟩
      have hw' : (fs.set k v)[k]? = some w := hw
      rw [List.getElem?_set_self hk] at hw'
      have e : v = w := Option.some.inj hw'
      rw [← e]; exact hv.on ho
    · obtain ⟨g1, g2⟩ := List.mem_filter.mp hx
      obtain ⟨q, hq, hv'⟩ := h4 x g1
      by_cases hc : i = x.1.1
      · have hne : x.1.2 ≠ k + 1 := fun z => by simp [hc.symm, z] at g2
        rw [← hc] at hq
        have e : q = (a, .inr (ci, fs)) := Option.some.inj (hq.symm.trans hi)
        subst e
        refine ⟨(a, .inr (ci, fs.set k v)), by rw [← hc]; exact List.getElem?_set_self (List.getElem?_eq_some_iff.mp hi).1, fun w hw => (hv' w ?_).on ho⟩
        match hj : x.1.2, hw with
        | 0, hw => exact hw.elim
        | j + 1, hw =>
          have hne2 : k ≠ j := fun z => hne (by rw [hj, z])
          have hw' : (fs.set k v)[j]? = some w := hw
          rw [List.getElem?_set_ne hne2] at hw'
          exact hw'
      · exact ⟨q, by rw [List.getElem?_set_ne hc]; exact hq, fun w hw => (hv' w hw).on ho⟩
  · intro S hf
    rcases S with o | r
    · exact ⟨hf.1, by show (fs.set k v).length = _; rw [List.length_set]; exact hf.2⟩
    · exact hf.elim
theorem ck_f_ok {fl : List ck_FL} {ini : Bool} {i : Instr × Nat} {xs : List (Nat × ck_S)} (hx : p.tables.exec = Jvm.exec) (hb : c.code = cc) (hown : s.vm.findClass own = some m.cls) (hts : ∀ w ∈ Ts, w.before args s = true) (hC : ck_okC cl Ts) (hF : ∀ q ∈ fl, ck_okF cl Ts own q) (hini : ini = true → meth.name = "<init>") (hd : decode cc pc = .ok i) (h : ck_f fl sh wr ini pc i I L S X (nc, mc, ms) = some xs) (hn : n ≤ I.length) (hG : ck_G D cl st sh A s nL wr ws0 I L S X nc ν ws tys H locs ls vs)
    (K : ∀ x ∈ xs, ck_N p l e R s m args below meth c Q D cl st sh A nL wr ws0 n ν x) : W p l e R s m args below meth c H locs mc ms Q (F0 m pc ls vs) := by
  unfold ck_f at h
  split at h
  · split at h
    · rename_i q o hq ho
      split at h
      · rename_i hc
        split at h
        · rename_i F hF'
          split at h
          · rename_i r hr
            cases h
            obtain ⟨v, vs', rfl, ⟨a, h1, rfl⟩, h2⟩ := hG.gs.pop
            obtain ⟨fs, h3, h4⟩ := ck_obj_ok ho hG.2.2.2.2.1 h1
            obtain ⟨e1, C, T, N, g1, g2, g3, g4⟩ := ck_fld_ok hq hF
            obtain ⟨a, e⟩ := a
            simp only at h3
            subst h3
            rw [e1] at g3
            rw [hc.1] at h1
            have hk : q.2.2.1 < fs.length := by omega
            refine va_get hx hb hts (hC _ _ _ _ g1).1 hown hG.2.2.2.2.2.1 hG.2.2.2.2.2.2.1 _ h1 g1 _ g2 (hts _ g3) (fun _ z => z) (List.getElem?_eq_getElem hk) hd ?_
            exact ck_pushF_ok (hG.stk h2) hn (ck_look_ok hF' hG.2.2.2.1 h1 (List.getElem?_eq_getElem hk)) hr (K _ List.mem_cons_self)
          · cases h
        · cases h
      · cases h
    · cases h
  · split at h
    · rename_i q o hq ho
      split at h
      · rename_i hc
        obtain ⟨c1, c2, c3, c4, c5⟩ := hc
        cases h
        obtain ⟨v, vs', rfl, hv, h2⟩ := hG.gs.pop
        obtain ⟨w, vs2, rfl, ⟨a, h1, rfl⟩, h5⟩ := h2.pop
        obtain ⟨fs, h3, h4⟩ := ck_obj_ok ho hG.2.2.2.2.1 h1
        obtain ⟨e1, C, T, N, g1, g2, g3, g456⟩ := ck_fld_ok hq hF
        obtain ⟨g4, g5, g6⟩ := g456.resolve_left (fun z => by rw [z] at c3; exact ck_tychar c3)
        obtain ⟨a, e⟩ := a
        simp only at h3
        subst h3
        rw [e1] at g3
        rw [c1] at h1
        have hk : q.2.2.1 < fs.length := by omega
        obtain ⟨t1, t2⟩ := ck_tyok_ok c3 hv
        obtain ⟨b1, ⟨ty0, b2⟩, b3⟩ := hC _ _ _ _ g1
        have hwr : (_, q.2.2.1 + 1) ∈ wr := List.contains_iff_mem.mp c4
        have KK := fun (H1 : Heap) (locs1 : List Loc) hP hD hS => K _ List.mem_cons_self ν (ws.set _ (a, .inr (q.2.1, fs.set q.2.2.1 v))) tys H1 locs1 ls vs2 (fun _ _ => rfl) (ck_setobj (hG.stk h5) h1 hk (ck_toF_ok hG.gi hv) hwr hP hD hS)
        cases hfin : q.2.2.2.2 with
        | false => exact va_put hx hb hts b1 ty0 b2 b3 hown hG.2.2.2.2.2.1 hG.2.2.2.2.2.2.1 hG.2.2.2.2.2.2.2.1 hG.2.2.2.2.2.2.2.2.1 _ h1 g1 _ g2 (hts _ g3) (fun _ z => z) (g5.trans hfin) g4 t1 t2 hk hd KK
        | true => exact va_putF hx hb hts b1 ty0 b2 b3 hown hG.2.2.2.2.2.1 hG.2.2.2.2.2.2.1 hG.2.2.2.2.2.2.2.1 hG.2.2.2.2.2.2.2.2.1 _ h1 g1 _ g2 (hts _ g3) (fun _ z => z) (g5.trans hfin) (hini (c5 hfin)) (g6 hfin) g4 t1 t2 hk hd KK
      · cases h
    · cases h
  · cases h
end CKC
