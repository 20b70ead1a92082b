/-! A RUN OF TABLES OVER THE PURE MACHINE, 1: what is known at a place of the code -/
abbrev ck_F : Type := (Int × Int) ⊕ (Nat × Nat)
abbrev ck_V : Type := ck_L ⊕ (Nat × Nat)
/-- places of a cell: the first, how far apart, how many -/
abbrev ab_P : Type := Nat × Nat × Nat
/-- what places hold; places that hold just a form -/
abbrev ab_D : Type := List ((Nat × ab_P) × ck_F)
abbrev ab_E : Type := List ((Nat × ck_L) × ck_L)
abbrev ab_X : Type := ab_D × ab_E
/-- symbols; numbered places of the frame; operand stack; cells; cells of the world, new cells, new slots so far -/
abbrev ab_S : Type := List ck_I × List (Nat × ck_V) × List ck_V × ab_X × Nat × Nat × Nat
def ab_mem (w : ab_P) (k : Nat) : Prop := ∃ t, t < w.2.2 ∧ k = w.1 + w.2.1 * t
/-- a row of numbers; an object of two fields that are such rows -/
def ab_ir (h : mm_h) (v : mm_v) : Prop := ∃ i n, v = mm_A (some i) ∧ i < h.1 ∧ h.2.1 i = .inr (.int, n)
/-- a row of a text: it has no numbers, or it is none of the first cells and its numbers are within bounds -/
def ab_tc (h : mm_h) (r : Option Nat) (lo hi : Int) : Prop := ∃ i n, r = some i ∧ i < h.1 ∧ h.2.1 i = .inr (.int, n) ∧ n ≤ 1000 ∧ (n = 0 ∨ (101 ≤ i ∧ ∀ k, k < n → lo ≤ (h.2.2.1 i k).toInt ∧ (h.2.2.1 i k).toInt ≤ hi))
def ab_tx (h : mm_h) (c : Nat) (v : mm_v) : Prop := ∃ i, v = mm_A (some i) ∧ i < h.1 ∧ h.2.1 i = .inl (c, 2) ∧ ab_tc h (h.2.2.2 i 0) (-1000) 1000 ∧ ab_tc h (h.2.2.2 i 1) (-1000000) 1000000
theorem ab_tc.ir {h : mm_h} {r : Option Nat} {lo hi : Int} (a : ab_tc h r lo hi) : ab_ir h (mm_A r) := by
  obtain ⟨i, n, e, h1, h2, -⟩ := a
  exact ⟨i, n, by rw [e], h1, h2⟩
/-- kinds of references: 0 the cell i; 1 null; 2 something outside; 3 null or a text, 4 a text, of class c; 5 a row of numbers; else anything -/
def ab_kv (h : mm_h) (q : Nat × Nat) (v : mm_v) : Prop := match q with
  | (0, i) => v = mm_A (some i)
  | (1, _) => v = mm_A none
  | (2, k) => v = mm_O k
  | (3, c) => v = mm_A none ∨ ab_tx h c v
  | (4, c) => ab_tx h c v
  | (5, _) => ab_ir h v
  | (_, _) => True
def ck_one (V : ck_V) : Bool := match V with
  | .inl _ => true
  | .inr (0, _) => true
  | .inr (1, _) => true
  | .inr (2, _) => true
  | .inr (3, _) => true
  | .inr (4, _) => true
  | .inr (5, _) => true
  | .inr (_, _) => false
def ab_gv (ν : Nat → Int) (h : mm_h) (n : Nat) (V : ck_V) (v : mm_v) : Prop := match V with
  | .inl f => ck_wf n f ∧ ∃ x : Int32, v = mm_I x ∧ x.toInt = ck_ev ν f
  | .inr q => ab_kv h q v
def ab_fv (h : mm_h) (F : ck_F) (i k : Nat) : Prop := match F with
  | .inl z => z.1 ≤ (h.2.2.1 i k).toInt ∧ (h.2.2.1 i k).toInt ≤ z.2
  | .inr q => ab_kv h q (mm_A (h.2.2.2 i k))
/-- the cells go on: shapes stay, texts stay -/
def ab_le (h h' : mm_h) : Prop := h.1 ≤ h'.1 ∧ (∀ i, i < h.1 → h'.2.1 i = h.2.1 i) ∧ (∀ i c, i < h.1 → h.2.1 i = .inl (c, 2) → ab_ir h (mm_A (h.2.2.2 i 0)) → ab_ir h (mm_A (h.2.2.2 i 1)) → h'.2.2.2 i 0 = h.2.2.2 i 0 ∧ h'.2.2.2 i 1 = h.2.2.2 i 1) ∧ ∀ i k, 101 ≤ i → i < h.1 → h'.2.2.1 i k = h.2.2.1 i k
theorem ab_le.rf {h : mm_h} : ab_le h h := ⟨Nat.le_refl _, fun _ _ => rfl, fun _ _ _ _ _ _ => ⟨rfl, rfl⟩, fun _ _ _ _ => rfl⟩
theorem ab_ir.on {h h' : mm_h} {v : mm_v} (hl : ab_le h h') (hv : ab_ir h v) : ab_ir h' v := by
  obtain ⟨i, n, h1, h2, h3⟩ := hv
  exact ⟨i, n, h1, Nat.lt_of_lt_of_le h2 hl.1, by rw [hl.2.1 i h2]; exact h3⟩
theorem ab_tc.on {h h' : mm_h} {r : Option Nat} {lo hi : Int} (hl : ab_le h h') (a : ab_tc h r lo hi) : ab_tc h' r lo hi := by
  obtain ⟨i, n, e, h1, h2, h3, h4⟩ := a
  refine ⟨i, n, e, Nat.lt_of_lt_of_le h1 hl.1, by rw [hl.2.1 i h1]; exact h2, h3, h4.imp id (fun q => ⟨q.1, fun k hk => ?_⟩)⟩
  rw [hl.2.2.2 i k q.1 h1]
  exact q.2 k hk
theorem ab_tx.on {h h' : mm_h} {c : Nat} {v : mm_v} (hl : ab_le h h') (hv : ab_tx h c v) : ab_tx h' c v := by
  obtain ⟨i, h1, h2, h3, h4, h5⟩ := hv
  obtain ⟨e1, e2⟩ := hl.2.2.1 i c h2 h3 h4.ir h5.ir
  exact ⟨i, h1, Nat.lt_of_lt_of_le h2 hl.1, by rw [hl.2.1 i h2]; exact h3, by rw [e1]; exact h4.on hl, by rw [e2]; exact h5.on hl⟩
theorem ab_le.trans {a b c : mm_h} (h1 : ab_le a b) (h2 : ab_le b c) : ab_le a c := by
  refine ⟨Nat.le_trans h1.1 h2.1, fun i hi => ?_, fun i d hi hs q1 q2 => ?_, fun i k hi hj => (h2.2.2.2 i k hi (Nat.lt_of_lt_of_le hj h1.1)).trans (h1.2.2.2 i k hi hj)⟩
  · rw [h2.2.1 i (Nat.lt_of_lt_of_le hi h1.1), h1.2.1 i hi]
  · obtain ⟨e1, e2⟩ := h1.2.2.1 i d hi hs q1 q2
    obtain ⟨e3, e4⟩ := h2.2.2.1 i d (Nat.lt_of_lt_of_le hi h1.1) (by rw [h1.2.1 i hi]; exact hs) (by rw [e1]; exact q1.on h1) (by rw [e2]; exact q2.on h1)
    exact ⟨e3.trans e1, e4.trans e2⟩
theorem ab_kv.on {h h' : mm_h} {q : Nat × Nat} {v : mm_v} (hl : ab_le h h') (hv : ab_kv h q v) : ab_kv h' q v := by
  obtain ⟨t, i⟩ := q
  match t, hv with
  | 0, hv => exact hv
  | 1, hv => exact hv
  | 2, hv => exact hv
  | 3, hv => exact hv.imp id (fun z => z.on hl)
  | 4, hv => exact ab_tx.on hl hv
  | 5, hv => exact ab_ir.on hl hv
  | _ + 6, _ => trivial
theorem ab_gv.on {ν ν' : Nat → Int} {h h' : mm_h} {n n' : Nat} {V : ck_V} {v : mm_v} (hl : ab_le h h') (hn : n ≤ n') (hν : ∀ j, j < n → ν' j = ν j) (hv : ab_gv ν h n V v) : ab_gv ν' h' n' V v := by
  cases V with
  | inl f =>
    obtain ⟨w, x, h1, h2⟩ := hv
    exact ⟨w.mono hn, x, h1, by rw [ck_ev_congr w hν]; exact h2⟩
  | inr k => exact ab_kv.on hl hv
theorem ck_one_two {ν : Nat → Int} {h : mm_h} {n : Nat} {V : ck_V} {v : mm_v} (h1 : ck_one V = true) (hv : ab_gv ν h n V v) : mm_two v = false := by
  rcases V with f | ⟨t, i⟩
  · obtain ⟨-, x, rfl, -⟩ := hv; rfl
  · match t, h1, hv with
    | 0, _, hv => have e : v = mm_A (some i) := hv; rw [e]; rfl
    | 1, _, hv => have e : v = mm_A none := hv; rw [e]; rfl
    | 2, _, hv => have e : v = mm_O i := hv; rw [e]; rfl
    | 3, _, hv =>
      rcases hv with e | ⟨j, e, -⟩ <;> rw [e] <;> rfl
    | 4, _, hv => obtain ⟨j, e, -⟩ := hv; rw [e]; rfl
    | 5, _, hv => obtain ⟨j, n, e, -⟩ := hv; rw [e]; rfl
    | _ + 6, h1, _ => cases h1
theorem ck_one_rf {h : mm_h} {q : Nat × Nat} {v : mm_v} (h1 : ck_one (.inr q) = true) (hv : ab_kv h q v) : mm_rf v = true := by
  obtain ⟨t, i⟩ := q
  match t, h1, hv with
  | 0, _, hv => have e : v = mm_A (some i) := hv; rw [e]; rfl
  | 1, _, hv => have e : v = mm_A none := hv; rw [e]; rfl
  | 2, _, hv => have e : v = mm_O i := hv; rw [e]; rfl
  | 3, _, hv =>
    rcases hv with e | ⟨j, e, -⟩ <;> rw [e] <;> rfl
  | 4, _, hv => obtain ⟨j, e, -⟩ := hv; rw [e]; rfl
  | 5, _, hv => obtain ⟨j, n, e, -⟩ := hv; rw [e]; rfl
  | _ + 6, h1, _ => cases h1
def ab_gs (ν : Nat → Int) (h : mm_h) (n : Nat) : List ck_V → List mm_v → Prop
  | [], [] => True
  | V :: S, v :: vs => ab_gv ν h n V v ∧ ab_gs ν h n S vs
  | _, _ => False
theorem ab_gs.on {ν ν' : Nat → Int} {h h' : mm_h} {n n' : Nat} (hl : ab_le h h') (hn : n ≤ n') (hν : ∀ j, j < n → ν' j = ν j) : ∀ {S : List ck_V} {vs : List mm_v}, ab_gs ν h n S vs → ab_gs ν' h' n' S vs
  | [], [], _ => trivial
  | _ :: _, _ :: _, hs => ⟨hs.1.on hl hn hν, ab_gs.on hl hn hν hs.2⟩
  | [], _ :: _, hs => hs.elim
  | _ :: _, [], hs => hs.elim
theorem ab_gs.pop {ν : Nat → Int} {h : mm_h} {n : Nat} {V : ck_V} {S : List ck_V} {vs : List mm_v} (hs : ab_gs ν h n (V :: S) vs) : ∃ v vs', vs = v :: vs' ∧ ab_gv ν h n V v ∧ ab_gs ν h n S vs' := by
  cases vs with
  | nil => exact hs.elim
  | cons v vs' => exact ⟨v, vs', rfl, hs.1, hs.2⟩
def ab_gl (ν : Nat → Int) (h : mm_h) (n : Nat) (L : List (Nat × ck_V)) (Lm : List (Nat × mm_v)) : Prop := ∀ q ∈ L, ∃ v, mm_get Lm q.1 = some v ∧ ab_gv ν h n q.2 v
theorem ab_gl.on {ν ν' : Nat → Int} {h h' : mm_h} {n n' : Nat} {L : List (Nat × ck_V)} {Lm : List (Nat × mm_v)} (hl : ab_le h h') (hn : n ≤ n') (hν : ∀ j, j < n → ν' j = ν j) (hg : ab_gl ν h n L Lm) : ab_gl ν' h' n' L Lm := fun q hq => by
  obtain ⟨v, h1, h2⟩ := hg q hq
  exact ⟨v, h1, h2.on hl hn hν⟩
def ck_get (L : List (Nat × ck_V)) (j : Nat) : Option ck_V := (L.find? (fun q => q.1 == j)).map Prod.snd
theorem ck_get_mem {L : List (Nat × ck_V)} {j : Nat} {V : ck_V} (h : ck_get L j = some V) : (j, V) ∈ L := by
  unfold ck_get at h
  cases hq : L.find? (fun q => q.1 == j) with
  | none => rw [hq] at h; cases h
  | some q =>
    rw [hq] at h
    have h1 := List.mem_of_find?_eq_some hq
    have h2 := List.find?_some hq
    have e : q = (j, V) := by
      have h3 : q.1 = j := by simpa using h2
      have h4 : q.2 = V := Option.some.inj h
      rw [← h3, ← h4]
    rw [← e]; exact h1
theorem ab_gl.get {ν : Nat → Int} {h : mm_h} {n j : Nat} {L : List (Nat × ck_V)} {Lm : List (Nat × mm_v)} {V : ck_V} (hg : ab_gl ν h n L Lm) (hj : ck_get L j = some V) : ∃ v, mm_get Lm j = some v ∧ ab_gv ν h n V v := hg _ (ck_get_mem hj)
def ab_put (L : List (Nat × ck_V)) (j : Nat) (V : ck_V) : List (Nat × ck_V) := (j, V) :: L.filter (fun q => !(q.1 == j) && (ck_one q.2 || !(q.1 + 1 == j)))
theorem mm_get_filter {p : Nat × mm_v → Bool} {j : Nat} {v : mm_v} : ∀ {L : List (Nat × mm_v)}, mm_get L j = some v → p (j, v) = true → mm_get (L.filter p) j = some v
  | [], h, _ => by cases h
  | q :: L, h, hp => by
    unfold mm_get at h ⊢
    by_cases hq : q.1 = j
    · rw [List.find?_cons_of_pos (by simpa using hq)] at h
      have e : q = (j, v) := by
        have h4 : q.2 = v := Option.some.inj h
        rw [← hq, ← h4]
      rw [List.filter_cons_of_pos (by rw [e]; exact hp), List.find?_cons_of_pos (by simpa using hq)]
      exact h
    · rw [List.find?_cons_of_neg (by simpa using hq)] at h
      have ih := mm_get_filter (p := p) (L := L) (j := j) (v := v) h hp
      by_cases hpq : p q = true
      · rw [List.filter_cons_of_pos hpq, List.find?_cons_of_neg (by simpa using hq)]
        exact ih
      · rw [List.filter_cons_of_neg hpq]
        exact ih
theorem ab_gl.put {ν : Nat → Int} {h : mm_h} {n j : Nat} {L : List (Nat × ck_V)} {Lm : List (Nat × mm_v)} {V : ck_V} {v : mm_v} (hg : ab_gl ν h n L Lm) (hv : ab_gv ν h n V v) : ab_gl ν h n (ab_put L j V) (mm_put Lm j v) := fun q hq => by
  unfold mm_put mm_get
  rcases List.mem_cons.mp hq with rfl | hq
  · exact ⟨v, by rw [List.find?_cons_of_pos (by simp)]; rfl, hv⟩
  · obtain ⟨h1, h2⟩ := List.mem_filter.mp hq
    simp only [Bool.and_eq_true, Bool.not_eq_true', Bool.or_eq_true, beq_eq_false_iff_ne] at h2
    obtain ⟨w, h3, h4⟩ := hg q h1
    refine ⟨w, ?_, h4⟩
    rw [List.find?_cons_of_neg (by simpa using fun z => h2.1 z.symm)]
    refine mm_get_filter h3 ?_
    have hne : (q.1 == j) = false := by simpa using h2.1
    rcases h2.2 with z | z
    · simp [hne, ck_one_two z h4]
    · have hz : (q.1 + 1 == j) = false := by simpa using z
      simp [hne, hz]
/-! cells -/
def ab_gx (Gh : Nat → (Nat → Int32) → Prop) (h : mm_h) (x : (Nat × ab_P) × ck_F) : Prop := (∀ t, t < x.1.2.2.2 → ab_fv h x.2 x.1.1 (x.1.2.1 + x.1.2.2.1 * t)) ∧ ∀ g, x.2 = .inr (8, g) → ∃ f : Nat → Int32, Gh g f ∧ ∀ t, t < x.1.2.2.2 → f t = h.2.2.1 x.1.1 (x.1.2.1 + x.1.2.2.1 * t)
def ab_gd (Gh : Nat → (Nat → Int32) → Prop) (h : mm_h) (X : ab_D) : Prop := ∀ x ∈ X, ab_gx Gh h x
def ab_gE (ν : Nat → Int) (n : Nat) (h : mm_h) (E : ab_E) : Prop := ∀ q ∈ E, ck_wf n q.1.2 ∧ ck_wf n q.2 ∧ (0 ≤ ck_ev ν q.1.2 ∧ ck_ev ν q.1.2 ≤ 2147483647) ∧ (h.2.2.1 q.1.1 (ck_ev ν q.1.2).toNat).toInt = ck_ev ν q.2
theorem ab_gE.on {ν ν' : Nat → Int} {n n' : Nat} {h : mm_h} {E : ab_E} (hn : n ≤ n') (hν : ∀ j, j < n → ν' j = ν j) (hE : ab_gE ν n h E) : ab_gE ν' n' h E := fun q hq => by
  obtain ⟨h1, h2, h3, h4⟩ := hE q hq
  exact ⟨h1.mono hn, h2.mono hn, by rw [ck_ev_congr h1 hν]; exact h3, by rw [ck_ev_congr h1 hν, ck_ev_congr h2 hν]; exact h4⟩
/-- what is known of places outlives a change of others -/
theorem ab_gx.keep {Gh : Nat → (Nat → Int32) → Prop} {h h' : mm_h} {x : (Nat × ab_P) × ck_F} (hl : ab_le h h') (hx : ab_gx Gh h x) (hk : ∀ t, t < x.1.2.2.2 → h'.2.2.1 x.1.1 (x.1.2.1 + x.1.2.2.1 * t) = h.2.2.1 x.1.1 (x.1.2.1 + x.1.2.2.1 * t) ∧ h'.2.2.2 x.1.1 (x.1.2.1 + x.1.2.2.1 * t) = h.2.2.2 x.1.1 (x.1.2.1 + x.1.2.2.1 * t)) : ab_gx Gh h' x := by
  refine ⟨fun t ht => ?_, fun g hg => ?_⟩
  · obtain ⟨e1, e2⟩ := hk t ht
    have h1 := hx.1 t ht
    unfold ab_fv at h1 ⊢
    split at h1
    · rw [e1]; exact h1
    · rw [e2]; exact h1.on hl
  · obtain ⟨f, f1, f2⟩ := hx.2 g hg
    exact ⟨f, f1, fun t ht => by rw [f2 t ht, (hk t ht).1]⟩
def ab_sh (sh : List ck_Sh) (nc : Nat) (h : mm_h) : Prop := nc ≤ h.1 ∧ (nc < sh.length → h.1 = nc) ∧ ∀ i, i < nc → sh[i]? = some (h.2.1 i)
/-- what is not in wr stays -/
def ab_fr (wr : List (Nat × ab_P)) (h h' : mm_h) : Prop := ab_le h h' ∧ ∀ i k, i < h.1 → (∀ w ∈ wr, w.1 = i → ¬ ab_mem w.2 k) → h'.2.2.1 i k = h.2.2.1 i k ∧ h'.2.2.2 i k = h.2.2.2 i k
theorem ab_fr.rf {wr : List (Nat × ab_P)} {h : mm_h} : ab_fr wr h h := ⟨ab_le.rf, fun _ _ _ _ => ⟨rfl, rfl⟩⟩
theorem ab_fr.trans {wr : List (Nat × ab_P)} {a b c : mm_h} (h1 : ab_fr wr a b) (h2 : ab_fr wr b c) : ab_fr wr a c := ⟨h1.1.trans h2.1, fun i k hi hw => by
  obtain ⟨e1, e2⟩ := h1.2 i k hi hw
  obtain ⟨e3, e4⟩ := h2.2 i k (Nat.lt_of_lt_of_le hi h1.1.1) hw
  exact ⟨e3.trans e1, e4.trans e2⟩⟩
/-! places, compared -/
/-- all numbers that the form may have are places of w -/
def ab_cov (I : List ck_I) (f : ck_L) (w : ab_P) : Bool := decide (0 < w.2.1) && decide (0 < w.2.2) && decide ((w.1 : Int) ≤ (ck_rng I f).1) && decide ((ck_rng I f).2 ≤ (w.1 : Int) + w.2.1 * (w.2.2 - 1)) && decide (f.2.1 % w.2.1 = 0) && decide ((f.2.2 - w.1) % w.2.1 = 0)
/-- none of them is -/
def ab_dis (I : List ck_I) (f : ck_L) (w : ab_P) : Bool := decide (w.2.2 = 0) || decide ((ck_rng I f).2 < (w.1 : Int)) || decide ((w.1 : Int) + w.2.1 * (w.2.2 - 1) < (ck_rng I f).1) || (decide (f.2.1 % w.2.1 = 0) && decide ((f.2.2 - w.1) % w.2.1 ≠ 0))
def ab_sdis (v w : ab_P) : Bool := decide (v.2.2 = 0) || decide (w.2.2 = 0) || decide (v.1 + v.2.1 * (v.2.2 - 1) < w.1) || decide (w.1 + w.2.1 * (w.2.2 - 1) < v.1) || decide (((v.1 : Int) - w.1) % (Nat.gcd v.2.1 w.2.1 : Nat) ≠ 0)
def ab_ssub (v w : ab_P) : Bool := decide (v.2.2 = 0) || (decide (0 < w.2.1) && decide (w.1 ≤ v.1) && decide (v.1 + v.2.1 * (v.2.2 - 1) ≤ w.1 + w.2.1 * (w.2.2 - 1)) && decide (0 < w.2.2) && decide ((v.1 - w.1) % w.2.1 = 0) && (decide (v.2.2 = 1) || decide (v.2.1 % w.2.1 = 0)))
theorem ab_evmod {ν : Nat → Int} {f : ck_L} {s b : Int} (h1 : f.2.1 % s = 0) : (ck_ev ν f - b) % s = (f.2.2 - b) % s := by
  unfold ck_ev
  have e : f.2.1 * ν f.1 + f.2.2 - b = (f.2.2 - b) + f.2.1 * ν f.1 := by omega
  obtain ⟨k, hk⟩ := Int.dvd_of_emod_eq_zero h1
  rw [e, hk, Int.mul_assoc, Int.add_mul_emod_self_left]
theorem ab_cov_ok {ν : Nat → Int} {I : List ck_I} {f : ck_L} {w : ab_P} {x : Int} (h : ab_cov I f w = true) (hi : ck_gi ν I) (hx : x = ck_ev ν f) (hl : -2147483648 ≤ x ∧ x ≤ 2147483647) : 0 ≤ x ∧ ab_mem w x.toNat := by
  simp only [ab_cov, Bool.and_eq_true, decide_eq_true_eq] at h
  obtain ⟨⟨⟨⟨⟨h1, h2⟩, h3⟩, h4⟩, h5⟩, h6⟩ := h
  have r := ck_rng_ok hi hx hl
  have hm := ab_evmod (ν := ν) (f := f) (b := w.1) h5
  rw [h6, ← hx] at hm
  obtain ⟨k, hk⟩ := Int.dvd_of_emod_eq_zero hm
  have hs : (0 : Int) < w.2.1 := by omega
  have k0 : 0 ≤ k := by
    rcases Int.lt_or_le k 0 with z | z
    · have : (w.2.1 : Int) * k < 0 := Int.mul_neg_of_pos_of_neg hs z
      omega
    · exact z
  have k1 : k ≤ w.2.2 - 1 := by
    have hle : (w.2.1 : Int) * k ≤ w.2.1 * ((w.2.2 : Int) - 1) := by omega
    exact Int.le_of_mul_le_mul_left hle hs
  refine ⟨by omega, k.toNat, by omega, ?_⟩
  have e1 : x = w.1 + (w.2.1 : Int) * k := by omega
  have e2 : x = ((w.1 + w.2.1 * k.toNat : Nat) : Int) := by
    rw [e1, Int.natCast_add, Int.natCast_mul, Int.toNat_of_nonneg k0]
  omega
theorem ab_dis_ok {ν : Nat → Int} {I : List ck_I} {f : ck_L} {w : ab_P} {x : Int} (h : ab_dis I f w = true) (hi : ck_gi ν I) (hx : x = ck_ev ν f) (hl : -2147483648 ≤ x ∧ x ≤ 2147483647) (h0 : 0 ≤ x) : ¬ ab_mem w x.toNat := by
  rintro ⟨t, ht, e⟩
  have r := ck_rng_ok hi hx hl
  have e2 : x = w.1 + (w.2.1 : Int) * t := by
    have e3 : x = (x.toNat : Int) := by omega
    rw [e3, e, Int.natCast_add, Int.natCast_mul]
  simp only [ab_dis, Bool.or_eq_true, Bool.and_eq_true, decide_eq_true_eq] at h
  have hb : (w.2.1 : Int) * t ≤ w.2.1 * ((w.2.2 : Int) - 1) := Int.mul_le_mul_of_nonneg_left (by omega) (by omega)
  have hc : 0 ≤ (w.2.1 : Int) * t := Int.mul_nonneg (by omega) (by omega)
  rcases h with ((h | h) | h) | h
  · omega
  · omega
  · omega
  · have hm := ab_evmod (ν := ν) (f := f) (b := w.1) h.1
    rw [← hx, e2] at hm
    apply h.2
    rw [← hm]
    have e4 : (w.1 : Int) + w.2.1 * t - w.1 = w.2.1 * t := by omega
    rw [e4, Int.mul_emod_right]
theorem ab_sdis_ok {v w : ab_P} (h : ab_sdis v w = true) {k : Nat} (hv : ab_mem v k) : ¬ ab_mem w k := by
  rintro ⟨t, ht, e⟩
  obtain ⟨u, hu, e'⟩ := hv
  simp only [ab_sdis, Bool.or_eq_true, decide_eq_true_eq] at h
  have b1 : v.2.1 * u ≤ v.2.1 * (v.2.2 - 1) := Nat.mul_le_mul_left _ (by omega)
  have b2 : w.2.1 * t ≤ w.2.1 * (w.2.2 - 1) := Nat.mul_le_mul_left _ (by omega)
  rcases h with (((h | h) | h) | h) | h
  · omega
  · omega
  · omega
  · omega
  · apply h
    obtain ⟨p, hp⟩ := Nat.gcd_dvd_left v.2.1 w.2.1
    obtain ⟨q, hq⟩ := Nat.gcd_dvd_right v.2.1 w.2.1
    refine Int.emod_eq_zero_of_dvd ⟨(q : Int) * t - p * u, ?_⟩
    have e5 : (v.1 : Int) + v.2.1 * u = w.1 + w.2.1 * t := by
      have := e'.symm.trans e
      have h2 : ((v.1 + v.2.1 * u : Nat) : Int) = ((w.1 + w.2.1 * t : Nat) : Int) := by rw [this]
      rw [Int.natCast_add, Int.natCast_mul, Int.natCast_add, Int.natCast_mul] at h2
      exact h2
    have e6 : (v.2.1 : Int) = (Nat.gcd v.2.1 w.2.1 : Nat) * (p : Int) := by rw [← Int.natCast_mul, ← hp]
    have e7 : (w.2.1 : Int) = (Nat.gcd v.2.1 w.2.1 : Nat) * (q : Int) := by rw [← Int.natCast_mul, ← hq]
    rw [Int.mul_sub, ← Int.mul_assoc, ← Int.mul_assoc, ← e6, ← e7]
    omega
theorem ab_ssub_ok {v w : ab_P} (h : ab_ssub v w = true) {k : Nat} (hv : ab_mem v k) : ab_mem w k := by
  obtain ⟨u, hu, e⟩ := hv
  simp only [ab_ssub, Bool.or_eq_true, Bool.and_eq_true, decide_eq_true_eq] at h
  rcases h with h | ⟨⟨⟨⟨⟨h1, h2⟩, h3⟩, h4⟩, h5⟩, h6⟩
  · omega
  · have b1 : v.2.1 * u ≤ v.2.1 * (v.2.2 - 1) := Nat.mul_le_mul_left _ (by omega)
    have hd : w.2.1 ∣ (v.1 - w.1) + v.2.1 * u := by
      refine Nat.dvd_add (Nat.dvd_of_mod_eq_zero h5) ?_
      rcases h6 with z | z
      · have : u = 0 := by omega
        rw [this, Nat.mul_zero]; exact Nat.dvd_zero _
      · exact Nat.dvd_trans (Nat.dvd_of_mod_eq_zero z) (Nat.dvd_mul_right _ _)
    obtain ⟨t, ht⟩ := hd
    refine ⟨t, ?_, by omega⟩
    have h7 : w.2.1 * t ≤ w.2.1 * (w.2.2 - 1) := by omega
    have h8 := Nat.le_of_mul_le_mul_left h7 h1
    omega
