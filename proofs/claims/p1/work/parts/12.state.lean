/-! THE TABLE RUN, 1: what is known at a place of the code, and what that says of the machine's cells -/
abbrev ck_F : Type := (Int × Int) ⊕ (Nat × Nat)
abbrev ck_V : Type := ck_L ⊕ (Nat × Nat)
abbrev ck_D : Type := List ((Nat × Nat) × ck_F)
/-- symbols; numbered places of the frame; operand stack; slots; cells of the world, new cells, new slots so far -/
abbrev ck_S : Type := List ck_I × List (Nat × ck_V) × List ck_V × ck_D × Nat × Nat × Nat
/-- an object: its number in the list, how many fields; a row: its type, how long -/
abbrev ck_Sh : Type := (Nat × Nat) ⊕ (FieldType × Nat)
abbrev ck_Cn : Type := (Nat → Int32) ⊕ (Nat → Int64) ⊕ (Nat → UInt32) ⊕ (Nat → UInt64) ⊕ (Nat → Option Nat)
def ck_elem (c : ck_Cn) (q : Nat) : Value := match c with
  | .inl f => .int (f q)
  | .inr (.inl f) => .long (f q)
  | .inr (.inr (.inl f)) => .float (f q)
  | .inr (.inr (.inr (.inl f))) => .double (f q)
  | .inr (.inr (.inr (.inr f))) => va_rf (f q)
/-- v stands in slot j: of an object field k is slot k + 1; of a row 0 is any place, k + 1 the place k -/
def ck_slot (e : va_E) (j : Nat) (v : Value) : Prop := match e, j with
  | .inl x, 0 => ∃ q, q < x.2.1 ∧ v = ck_elem x.2.2 q
  | .inl x, k + 1 => k < x.2.1 ∧ v = ck_elem x.2.2 k
  | .inr _, 0 => False
  | .inr x, k + 1 => x.2[k]? = some v
/-- a value of a kind: a number between; 0 the cell i; 1 null; 2 the literal i; else anything -/
def ck_fv (st : Nat → Nat) (ws : va_W) (F : ck_F) (v : Value) : Prop := match F with
  | .inl z => ∃ x : Int32, v = .int x ∧ z.1 ≤ x.toInt ∧ x.toInt ≤ z.2
  | .inr (0, i) => ∃ q, ws[i]? = some q ∧ v = .ref q.1
  | .inr (1, _) => v = .null
  | .inr (2, i) => v = .ref (st i)
  | .inr (_, _) => True
def ck_gv (ν : Nat → Int) (st : Nat → Nat) (ws : va_W) (n : Nat) (V : ck_V) (v : Value) : Prop := match V with
  | .inl f => ck_wf n f ∧ ∃ x : Int32, v = .int x ∧ x.toInt = ck_ev ν f
  | .inr k => ck_fv st ws (.inr k) v
/-- the world goes on: the same addresses, perhaps more of them -/
def ck_on (ws ws' : va_W) : Prop := ∀ (i : Nat) (q : Nat × va_E), ws[i]? = some q → ∃ e, ws'[i]? = some (q.1, e)
theorem ck_on.rf {ws : va_W} : ck_on ws ws := fun i q h => ⟨q.2, h⟩
theorem ck_on.trans {a b c : va_W} (h1 : ck_on a b) (h2 : ck_on b c) : ck_on a c := fun i q h => by
  obtain ⟨e, h3⟩ := h1 i q h
  obtain ⟨e2, h4⟩ := h2 i _ h3
  exact ⟨e2, h4⟩
theorem ck_on.set {ws : va_W} {i : Nat} {a : Nat} {e e' : va_E} (h : ws[i]? = some (a, e)) : ck_on ws (ws.set i (a, e')) := fun j q hq => by
  by_cases hj : i = j
  · subst hj
    have hi : i < ws.length := (List.getElem?_eq_some_iff.mp h).1
    rw [List.getElem?_set_self hi]
    have e1 : q = (a, e) := Option.some.inj (hq.symm.trans h)
    exact ⟨e', by rw [e1]⟩
  · rw [List.getElem?_set_ne hj]
    exact ⟨q.2, hq⟩
theorem ck_on.push {ws : va_W} (x : Nat × va_E) : ck_on ws (ws ++ [x]) := fun j q hq => by
  have hj : j < ws.length := (List.getElem?_eq_some_iff.mp hq).1
  rw [List.getElem?_append_left hj]
  exact ⟨q.2, hq⟩
theorem ck_fv.on {st : Nat → Nat} {ws ws' : va_W} {F : ck_F} {v : Value} (h : ck_on ws ws') (hv : ck_fv st ws F v) : ck_fv st ws' F v := by
  rcases F with z | ⟨t, i⟩
  · exact hv
  · match t, hv with
    | 0, hv =>
      obtain ⟨q, h1, h2⟩ := hv
      obtain ⟨e, h3⟩ := h i q h1
      exact ⟨(q.1, e), h3, h2⟩
    | 1, hv => exact hv
    | 2, hv => exact hv
    | _ + 3, _ => trivial
theorem ck_gv.on {ν ν' : Nat → Int} {st : Nat → Nat} {ws ws' : va_W} {n n' : Nat} {V : ck_V} {v : Value} (h : ck_on ws ws') (hn : n ≤ n') (hν : ∀ j, j < n → ν' j = ν j) (hv : ck_gv ν st ws n V v) : ck_gv ν' st ws' n' V v := by
  cases V with
  | inl f =>
    obtain ⟨w, x, h1, h2⟩ := hv
    exact ⟨w.mono hn, x, h1, by rw [ck_ev_congr w hν]; exact h2⟩
  | inr k => exact ck_fv.on h hv
def ck_gs (ν : Nat → Int) (st : Nat → Nat) (ws : va_W) (n : Nat) : List ck_V → List Value → Prop
  | [], [] => True
  | V :: S, v :: vs => ck_gv ν st ws n V v ∧ ck_gs ν st ws n S vs
  | _, _ => False
theorem ck_gs.on {ν ν' : Nat → Int} {st : Nat → Nat} {ws ws' : va_W} {n n' : Nat} (h : ck_on ws ws') (hn : n ≤ n') (hν : ∀ j, j < n → ν' j = ν j) : ∀ {S : List ck_V} {vs : List Value}, ck_gs ν st ws n S vs → ck_gs ν' st ws' n' S vs
  | [], [], _ => trivial
  | _ :: _, _ :: _, hs => ⟨hs.1.on h hn hν, ck_gs.on h hn hν hs.2⟩
  | [], _ :: _, hs => hs.elim
  | _ :: _, [], hs => hs.elim
def ck_gl (ν : Nat → Int) (st : Nat → Nat) (ws : va_W) (n nL : Nat) (L : List (Nat × ck_V)) (ls : Array Slot) : Prop := ∃ lv : List (Nat × Value), lv_has ls nL lv ∧ ∀ q ∈ L, ∃ v, (q.1, v) ∈ lv ∧ ck_gv ν st ws n q.2 v
theorem ck_gl.on {ν ν' : Nat → Int} {st : Nat → Nat} {ws ws' : va_W} {n n' nL : Nat} {L : List (Nat × ck_V)} {ls : Array Slot} (h : ck_on ws ws') (hn : n ≤ n') (hν : ∀ j, j < n → ν' j = ν j) (hl : ck_gl ν st ws n nL L ls) : ck_gl ν' st ws' n' nL L ls := by
  obtain ⟨lv, h1, h2⟩ := hl
  refine ⟨lv, h1, fun q hq => ?_⟩
  obtain ⟨v, h3, h4⟩ := h2 q hq
  exact ⟨v, h3, h4.on h hn hν⟩
/-- of which place: the value's form -/
def ck_get (L : List (Nat × ck_V)) (j : Nat) : Option ck_V := (L.find? (fun q => q.1 == j)).map Prod.snd
theorem ck_get_mem {L : List (Nat × ck_V)} {j : Nat} {V : ck_V} (h : ck_get L j = some V) : (j, V) ∈ L := by
  unfold ck_get at h
  cases hq : L.find? (fun q => q.1 == j) with
  | none => rw [hq] at h; cases h
  | some q =>
    rw [hq] at h
    have h1 := List.mem_of_find?_eq_some hq
    have h2 := List.find?_some hq
    have e : q = (j, V) := by
      have h3 : q.1 = j := by simpa using h2
      have h4 : q.2 = V := Option.some.inj h
      rw [← h3, ← h4]
    rw [← e]; exact h1
theorem ck_gl.get {ν : Nat → Int} {st : Nat → Nat} {ws : va_W} {n nL : Nat} {L : List (Nat × ck_V)} {ls : Array Slot} {j : Nat} {V : ck_V} (hl : ck_gl ν st ws n nL L ls) (h : ck_get L j = some V) : ∃ v, ls[j]? = some (.val v) ∧ ck_gv ν st ws n V v := by
  obtain ⟨lv, h1, h2⟩ := hl
  obtain ⟨v, h3, h4⟩ := h2 _ (ck_get_mem h)
  exact ⟨v, h1.2.2 _ h3, h4⟩
/-- values of one word -/
def ck_one (V : ck_V) : Bool := match V with
  | .inl _ => true
  | .inr (0, _) => true
  | .inr (1, _) => true
  | .inr (2, _) => true
  | .inr (_, _) => false
theorem ck_one_cat {ν : Nat → Int} {st : Nat → Nat} {ws : va_W} {n : Nat} {V : ck_V} {v : Value} (h1 : ck_one V = true) (h : ck_gv ν st ws n V v) : v.category = 1 := by
  rcases V with f | ⟨t, i⟩
  · obtain ⟨-, x, rfl, -⟩ := h; rfl
  · match t, h1, h with
    | 0, _, h => obtain ⟨q, -, rfl⟩ := h; rfl
    | 1, _, h =>
      have e : v = .null := h
      rw [e]; rfl
    | 2, _, h =>
      have e : v = .ref (st i) := h
      rw [e]; rfl
    | _ + 3, h1, _ => cases h1
def ck_put (L : List (Nat × ck_V)) (j : Nat) (V : ck_V) : List (Nat × ck_V) := (j, V) :: L.filter (fun q => !(q.1 == j) && ck_one q.2)
theorem ck_gl.put {ν : Nat → Int} {st : Nat → Nat} {ws : va_W} {n nL : Nat} {L : List (Nat × ck_V)} {lv : List (Nat × Value)} {ls' : Array Slot} {j : Nat} {V : ck_V} {v : Value} (h2 : ∀ q ∈ L, ∃ v, (q.1, v) ∈ lv ∧ ck_gv ν st ws n q.2 v) (hv : ck_gv ν st ws n V v) (h : lv_has ls' nL ((j, v) :: lv.filter (fun q => !(q.1 == j) && !(q.1 + 1 == j && q.2.category == 2)))) : ck_gl ν st ws n nL (ck_put L j V) ls' := by
  refine ⟨_, h, fun q hq => ?_⟩
  rcases List.mem_cons.mp hq with e | hq
  · subst e
    exact ⟨v, List.mem_cons_self, hv⟩
  · obtain ⟨h3, h4⟩ := List.mem_filter.mp hq
    simp only [Bool.and_eq_true, Bool.not_eq_true'] at h4
    obtain ⟨w, h5, h6⟩ := h2 q h3
    refine ⟨w, List.mem_cons_of_mem _ (List.mem_filter.mpr ⟨h5, ?_⟩), h6⟩
    have hc := ck_one_cat h4.2 h6
    simp only [h4.1, hc]
    simp
/-! slots -/
def ck_gd (st : Nat → Nat) (ws : va_W) (X : ck_D) : Prop := ∀ x ∈ X, ∃ q, ws[x.1.1]? = some q ∧ ∀ v, ck_slot q.2 x.1.2 v → ck_fv st ws x.2 v
def ck_look (X : ck_D) (i j : Nat) : Option ck_F := (X.find? (fun x => x.1.1 == i && x.1.2 == j)).map Prod.snd
theorem ck_look_mem {X : ck_D} {i j : Nat} {F : ck_F} (h : ck_look X i j = some F) : ((i, j), F) ∈ X := by
  unfold ck_look at h
  cases hq : X.find? (fun x => x.1.1 == i && x.1.2 == j) with
  | none => rw [hq] at h; cases h
  | some q =>
    rw [hq] at h
    have h1 := List.mem_of_find?_eq_some hq
    have h2 := List.find?_some hq
    have e : q = ((i, j), F) := by
      simp only [Bool.and_eq_true, beq_iff_eq] at h2
      have h4 : q.2 = F := Option.some.inj h
      obtain ⟨⟨a, b⟩, c⟩ := q
      simp only at h2 h4
      rw [h2.1, h2.2, h4]
    rw [← e]; exact h1
/-- what the cells are: their shapes -/
def ck_cnt (ty : FieldType) (c : ck_Cn) : Prop := match ty, c with
  | .int, .inl _ => True
  | .boolean, .inl _ => True
  | .byte, .inl _ => True
  | .long, .inr (.inl _) => True
  | .object _, .inr (.inr (.inr (.inr _))) => True
  | _, _ => False
def ck_fit (tys : List (ClassId × FieldType)) (S : ck_Sh) (e : va_E) : Prop := match S, e with
  | .inl o, .inr x => x.1 = o.1 ∧ x.2.length = o.2
  | .inr r, .inl x => x.2.1 = r.2 ∧ (∃ t : Nat, tys[t]? = some (x.1, r.1)) ∧ ck_cnt r.1 x.2.2
  | _, _ => False
def ck_w (sh : List ck_Sh) (tys : List (ClassId × FieldType)) (ws : va_W) (nc : Nat) : Prop := ws.length = nc ∧ ∀ (i : Nat) (q : Nat × va_E), ws[i]? = some q → ∃ S, sh[i]? = some S ∧ ck_fit tys S q.2
theorem ck_fit.more {tys tys' : List (ClassId × FieldType)} {S : ck_Sh} {e : va_E} (h : ∀ (t : Nat) (x : ClassId × FieldType), tys[t]? = some x → ∃ t' : Nat, tys'[t']? = some x) (hf : ck_fit tys S e) : ck_fit tys' S e := by
  rcases S with o | r <;> rcases e with x | x
  · exact hf.elim
  · exact hf
  · obtain ⟨h1, ⟨t, h2⟩, h3⟩ := hf
    exact ⟨h1, h t _ h2, h3⟩
  · exact hf.elim
theorem ck_w.set {sh : List ck_Sh} {tys : List (ClassId × FieldType)} {ws : va_W} {nc i a : Nat} {e e' : va_E} (h : ck_w sh tys ws nc) (hi : ws[i]? = some (a, e)) (hf : ∀ S, ck_fit tys S e → ck_fit tys S e') : ck_w sh tys (ws.set i (a, e')) nc := by
  refine ⟨by rw [List.length_set]; exact h.1, fun j q hq => ?_⟩
  by_cases hj : i = j
  · subst hj
    have hl : i < ws.length := (List.getElem?_eq_some_iff.mp hi).1
    rw [List.getElem?_set_self hl] at hq
    cases hq
    obtain ⟨S, h1, h2⟩ := h.2 i _ hi
    exact ⟨S, h1, hf S h2⟩
  · rw [List.getElem?_set_ne hj] at hq
    exact h.2 j q hq
/-- the slots that are not in wr hold nothing that they didn't hold -/
def ck_fr (wr : List (Nat × Nat)) (ws0 ws : va_W) : Prop := ∀ (i : Nat) (q : Nat × va_E), ws0[i]? = some q → ∃ e, ws[i]? = some (q.1, e) ∧ ∀ j, (i, j) ∉ wr → (i, 0) ∉ wr → ∀ v, ck_slot e j v → ck_slot q.2 j v
theorem ck_fr.on {wr : List (Nat × Nat)} {ws0 ws : va_W} (h : ck_fr wr ws0 ws) : ck_on ws0 ws := fun i q hq => by
  obtain ⟨e, h1, -⟩ := h i q hq
  exact ⟨e, h1⟩
theorem ck_fr.rf {wr : List (Nat × Nat)} {ws : va_W} : ck_fr wr ws ws := fun i q h => ⟨q.2, h, fun _ _ _ _ hv => hv⟩
theorem ck_fr.trans {wr : List (Nat × Nat)} {a b c : va_W} (h1 : ck_fr wr a b) (h2 : ck_fr wr b c) : ck_fr wr a c := fun i q h => by
  obtain ⟨e, h3, h4⟩ := h1 i q h
  obtain ⟨e2, h5, h6⟩ := h2 i _ h3
  exact ⟨e2, h5, fun j hj h0 v hv => h4 j hj h0 v (h6 j hj h0 v hv)⟩
theorem ck_fr.wide {wr wr' : List (Nat × Nat)} {a b : va_W} (h : ck_fr wr a b) (hw : ∀ x ∈ wr, x ∈ wr') : ck_fr wr' a b := fun i q hq => by
  obtain ⟨e, h3, h4⟩ := h i q hq
  exact ⟨e, h3, fun j hj h0 v hv => h4 j (fun z => hj (hw _ z)) (fun z => h0 (hw _ z)) v hv⟩
theorem ck_fr.push {wr : List (Nat × Nat)} {ws : va_W} (x : Nat × va_E) : ck_fr wr ws (ws ++ [x]) := fun j q hq => by
  have hj : j < ws.length := (List.getElem?_eq_some_iff.mp hq).1
  rw [List.getElem?_append_left hj]
  exact ⟨q.2, hq, fun _ _ _ _ hv => hv⟩
theorem ck_fr.set {wr : List (Nat × Nat)} {ws : va_W} {i a : Nat} {e e' : va_E} (h : ws[i]? = some (a, e)) (hs : ∀ j, (i, j) ∉ wr → (i, 0) ∉ wr → ∀ v, ck_slot e' j v → ck_slot e j v) : ck_fr wr ws (ws.set i (a, e')) := fun j q hq => by
  by_cases hj : i = j
  · subst hj
    have hi : i < ws.length := (List.getElem?_eq_some_iff.mp h).1
    rw [List.getElem?_set_self hi]
    have e1 : q = (a, e) := Option.some.inj (hq.symm.trans h)
    subst e1
    exact ⟨e', rfl, hs⟩
  · rw [List.getElem?_set_ne hj]
    exact ⟨q.2, hq, fun _ _ _ _ hv => hv⟩
/-- what is known of slots outlives a change of others -/
theorem ck_gd.fr {st : Nat → Nat} {wr : List (Nat × Nat)} {ws ws' : va_W} {X : ck_D} (h : ck_fr wr ws ws') (hX : ck_gd st ws X) : ck_gd st ws' (X.filter (fun x => !(wr.contains x.1) && !(wr.contains (x.1.1, 0)))) := fun x hx => by
  obtain ⟨h1, h2⟩ := List.mem_filter.mp hx
  have hn : x.1 ∉ wr ∧ (x.1.1, 0) ∉ wr := by simpa using h2
  obtain ⟨q, hq, hv⟩ := hX x h1
  obtain ⟨e, h3, h4⟩ := h x.1.1 q hq
  exact ⟨(q.1, e), h3, fun v hs => (hv v (h4 x.1.2 hn.1 hn.2 v hs)).on h.on⟩
theorem ck_gd.sub {st : Nat → Nat} {ws : va_W} {X Y : ck_D} (h : ∀ x ∈ Y, x ∈ X) (hX : ck_gd st ws X) : ck_gd st ws Y := fun x hx => hX x (h x hx)
theorem ck_gd.app {st : Nat → Nat} {ws : va_W} {X Y : ck_D} (hX : ck_gd st ws X) (hY : ck_gd st ws Y) : ck_gd st ws (X ++ Y) := fun x hx => (List.mem_append.mp hx).elim (hX x) (hY x)
theorem ck_gd.push {st : Nat → Nat} {ws : va_W} {X : ck_D} (y : Nat × va_E) (hX : ck_gd st ws X) : ck_gd st (ws ++ [y]) X := fun x hx => by
  obtain ⟨q, hq, hv⟩ := hX x hx
  obtain ⟨e, h3, h4⟩ := ck_fr.push (wr := []) y x.1.1 q hq
  exact ⟨(q.1, e), h3, fun v hs => (hv v (h4 x.1.2 (by simp) (by simp) v hs)).on (ck_on.push y)⟩
