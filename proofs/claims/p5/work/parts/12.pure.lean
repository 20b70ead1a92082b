/-! THE PURE MACHINE, 1: values, cells, and what they are in the real one -/
/-- a number; a long; a reference (none: null; some i: the cell i); something outside, by its number -/
abbrev mm_v : Type := Int32 ⊕ Int64 ⊕ Option Nat ⊕ Nat
abbrev mm_I (x : Int32) : mm_v := .inl x
abbrev mm_J (y : Int64) : mm_v := .inr (.inl y)
abbrev mm_A (r : Option Nat) : mm_v := .inr (.inr (.inl r))
abbrev mm_O (k : Nat) : mm_v := .inr (.inr (.inr k))
/-- an object: its number in the list, how many fields; a row: its type, how long -/
abbrev ck_Sh : Type := (Nat × Nat) ⊕ (FieldType × Nat)
abbrev ck_Cn : Type := (Nat → Int32) ⊕ (Nat → Int64) ⊕ (Nat → UInt32) ⊕ (Nat → UInt64) ⊕ (Nat → Option Nat)
/-- how many cells; their shapes; the numbers in them; the references in them -/
abbrev mm_h : Type := Nat × (Nat → ck_Sh) × (Nat → Nat → Int32) × (Nat → Nat → Option Nat)
/-- place in the code, numbered places of the frame, operand stack, cells; new cells, new slots so far -/
abbrev mm_s : Type := Nat × List (Nat × mm_v) × List mm_v × mm_h × Nat × Nat
def mm_val (a st : Nat → Nat) (v : mm_v) : Value := match v with
  | .inl x => .int x
  | .inr (.inl y) => .long y
  | .inr (.inr (.inl r)) => va_rf (r.map a)
  | .inr (.inr (.inr k)) => .ref (st k)
def mm_in (n : Nat) (v : mm_v) : Prop := match v with
  | .inr (.inr (.inl (some i))) => i < n
  | _ => True
def mm_two (v : mm_v) : Bool := match v with
  | .inr (.inl _) => true
  | _ => false
def mm_rf (v : mm_v) : Bool := match v with
  | .inr (.inr _) => true
  | _ => false
def mm_si (h : mm_h) (i k : Nat) (x : Int32) : mm_h := (h.1, h.2.1, (fun i' k' => if i' = i ∧ k' = k then x else h.2.2.1 i' k'), h.2.2.2)
def mm_sr (h : mm_h) (i k : Nat) (r : Option Nat) : mm_h := (h.1, h.2.1, h.2.2.1, fun i' k' => if i' = i ∧ k' = k then r else h.2.2.2 i' k')
def mm_new (h : mm_h) (S : ck_Sh) : mm_h := (h.1 + 1, (fun i => if i = h.1 then S else h.2.1 i), (fun i k => if i = h.1 then 0 else h.2.2.1 i k), fun i k => if i = h.1 then none else h.2.2.2 i k)
def mm_cp (h : mm_h) (i j sp dp n : Nat) : mm_h := (h.1, h.2.1, (fun i' k' => if i' = j then va_cpy (h.2.2.1 i) (h.2.2.1 j) sp dp n k' else h.2.2.1 i' k'), h.2.2.2)
/-- types of fields that the cells here have -/
def mm_ft (t : FieldType) : Option Bool := match t with
  | .int => some false
  | .boolean => some false
  | .byte => some false
  | .object _ => some true
  | .array _ => some true
  | _ => none
def mm_fv (a : Nat → Nat) (x : Int32) (r : Option Nat) (t : FieldType) : Value := match mm_ft t with
  | some true => va_rf (r.map a)
  | _ => .int x
def mm_cn (a : Nat → Nat) (ty : FieldType) (xi : Nat → Int32) (xr : Nat → Option Nat) (cn : ck_Cn) : Prop := match ty, cn with
  | .int, .inl f => f = xi
  | .boolean, .inl f => f = xi
  | .byte, .inl f => f = xi
  | .long, .inr (.inl _) => True
  | .object _, .inr (.inr (.inr (.inr f))) => f = fun k => (xr k).map a
  | _, _ => False
def mm_fit (dt : List (List FieldType)) (tys : List (ClassId × FieldType)) (a : Nat → Nat) (S : ck_Sh) (xi : Nat → Int32) (xr : Nat → Option Nat) (e : va_E) : Prop := match S with
  | .inl o => ∃ (tl : List FieldType) (fs : List Value), dt[o.1]? = some tl ∧ tl.length = o.2 ∧ fs.length = o.2 ∧ e = .inr (o.1, fs) ∧ ∀ (k : Nat) (t : FieldType), tl[k]? = some t → fs[k]? = some (mm_fv a (xi k) (xr k) t)
  | .inr r => ∃ (cA : ClassId) (cn : ck_Cn), e = .inl (cA, r.2, cn) ∧ (∃ t : Nat, tys[t]? = some (cA, r.1)) ∧ mm_cn a r.1 xi xr cn
def mm_R (dt : List (List FieldType)) (tys : List (ClassId × FieldType)) (a : Nat → Nat) (h : mm_h) (ws : va_W) : Prop := ws.length = h.1 ∧ ∀ i, i < h.1 → (∃ e, ws[i]? = some (a i, e) ∧ mm_fit dt tys a (h.2.1 i) (h.2.2.1 i) (h.2.2.2 i) e) ∧ ∀ (k j : Nat), h.2.2.2 i k = some j → j < h.1
theorem mm_val_cat (a st : Nat → Nat) (v : mm_v) : (mm_val a st v).category = if mm_two v = true then 2 else 1 := by
  rcases v with x | y | r | k
  · rfl
  · rfl
  · cases r <;> rfl
  · rfl
theorem mm_val_two (a st : Nat → Nat) (v : mm_v) : ((mm_val a st v).category == 2) = mm_two v := by
  rw [mm_val_cat]
  cases mm_two v <;> rfl
theorem mm_val_one {a st : Nat → Nat} {v : mm_v} (h : mm_two v = false) : (mm_val a st v).category = 1 := by
  rw [mm_val_cat, h]; rfl
theorem mm_val_on {a a' st : Nat → Nat} {n : Nat} {v : mm_v} (hv : mm_in n v) (h : ∀ i, i < n → a' i = a i) : mm_val a' st v = mm_val a st v := by
  rcases v with x | y | r | k
  · rfl
  · rfl
  · cases r with
    | none => rfl
    | some i => show va_rf (some (a' i)) = va_rf (some (a i)); rw [h i hv]
  · rfl
theorem mm_in.mono {n n' : Nat} {v : mm_v} (hv : mm_in n v) (h : n ≤ n') : mm_in n' v := by
  rcases v with x | y | r | k
  · exact hv
  · exact hv
  · cases r with
    | none => exact hv
    | some i => exact Nat.lt_of_lt_of_le hv h
  · exact hv
theorem mm_rf_cases {a st : Nat → Nat} {v : mm_v} (h : mm_rf v = true) : mm_val a st v = .null ∨ ∃ b, mm_val a st v = .ref b := by
  rcases v with x | y | r | k
  · cases h
  · cases h
  · cases r with
    | none => exact Or.inl rfl
    | some i => exact Or.inr ⟨_, rfl⟩
  · exact Or.inr ⟨_, rfl⟩
theorem mm_rf_two {v : mm_v} (h : mm_rf v = true) : mm_two v = false := by
  rcases v with x | y | r | k
  · cases h
  · cases h
  · rfl
  · rfl
def mm_get (L : List (Nat × mm_v)) (j : Nat) : Option mm_v := (L.find? (fun q => q.1 == j)).map Prod.snd
theorem mm_get_mem {L : List (Nat × mm_v)} {j : Nat} {v : mm_v} (h : mm_get L j = some v) : (j, v) ∈ L := by
  unfold mm_get at h
  cases hq : L.find? (fun q => q.1 == j) with
  | none => rw [hq] at h; cases h
  | some q =>
    rw [hq] at h
    have h1 := List.mem_of_find?_eq_some hq
    have h2 := List.find?_some hq
    have e : q = (j, v) := by
      have h3 : q.1 = j := by simpa using h2
      have h4 : q.2 = v := Option.some.inj h
      rw [← h3, ← h4]
    rw [← e]; exact h1
def mm_put (L : List (Nat × mm_v)) (j : Nat) (v : mm_v) : List (Nat × mm_v) := (j, v) :: L.filter (fun q => !(q.1 == j) && !(q.1 + 1 == j && mm_two q.2))
def mm_put2 (L : List (Nat × mm_v)) (j : Nat) (v : mm_v) : List (Nat × mm_v) := (j, v) :: L.filter (fun q => !(q.1 == j) && (!(q.1 == j + 1) && !(q.1 + 1 == j && mm_two q.2)))
theorem mm_fit.more {dt : List (List FieldType)} {tys tys' : List (ClassId × FieldType)} {a a' : Nat → Nat} {S : ck_Sh} {xi : Nat → Int32} {xr : Nat → Option Nat} {e : va_E} {n : Nat} (h : mm_fit dt tys a S xi xr e) (ht : ∀ (t : Nat) (y : ClassId × FieldType), tys[t]? = some y → ∃ t' : Nat, tys'[t']? = some y) (ha : ∀ i, i < n → a' i = a i) (hr : ∀ (k j : Nat), xr k = some j → j < n) : mm_fit dt tys' a' S xi xr e := by
  have hm : ∀ k, (xr k).map a' = (xr k).map a := fun k => by
    cases hk : xr k with
    | none => rfl
    | some j => show some (a' j) = some (a j); rw [ha j (hr k j hk)]
  rcases S with o | r
  · obtain ⟨tl, fs, h1, h2, h3, h4, h5⟩ := h
    refine ⟨tl, fs, h1, h2, h3, h4, fun k t hk => ?_⟩
    rw [h5 k t hk]
    unfold mm_fv
    rw [hm]
  · obtain ⟨cA, cn, h1, ⟨t, h2⟩, h3⟩ := h
    refine ⟨cA, cn, h1, ht t _ h2, ?_⟩
    unfold mm_cn at h3 ⊢
    split at h3
    · exact h3
    · exact h3
    · exact h3
    · trivial
    · rw [h3]; funext k; exact (hm k).symm
    · exact h3.elim
