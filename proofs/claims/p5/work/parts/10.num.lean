/-! NUMBERS THAT A TABLE BOUNDS: forms a * symbol + b over symbols with a lowest and a highest value. Plain facts; nothing of the machine. -/
abbrev ck_L : Type := Nat × Int × Int
abbrev ck_I : Type := Int × Int × Nat × ck_L
def ck_ev (ν : Nat → Int) (f : ck_L) : Int := f.2.1 * ν f.1 + f.2.2
/-- a form speaks of symbols below n alone -/
def ck_wf (n : Nat) (f : ck_L) : Prop := f.2.1 = 0 ∨ f.1 < n
/-- the symbols are as the table says; 1: at least the form, 2: at most the form -/
def ck_gi (ν : Nat → Int) (I : List ck_I) : Prop := ∀ (j : Nat) (q : ck_I), I[j]? = some q → q.1 ≤ ν j ∧ ν j ≤ q.2.1 ∧ (q.2.2.1 = 1 → ck_wf I.length q.2.2.2 ∧ ck_ev ν q.2.2.2 ≤ ν j) ∧ (q.2.2.1 = 2 → ck_wf I.length q.2.2.2 ∧ ν j ≤ ck_ev ν q.2.2.2)
theorem ck_wf.mono {n n' : Nat} {f : ck_L} (h : ck_wf n f) (hn : n ≤ n') : ck_wf n' f := h.imp id (fun q => Nat.lt_of_lt_of_le q hn)
theorem ck_ev_congr {ν ν' : Nat → Int} {n : Nat} {f : ck_L} (hf : ck_wf n f) (h : ∀ j, j < n → ν' j = ν j) : ck_ev ν' f = ck_ev ν f := by
  unfold ck_ev
  rcases hf with h0 | h1
  · rw [h0, Int.zero_mul, Int.zero_mul]
  · rw [h _ h1]
/-- what an operation gives: a longer table, a form of the answer z; the old symbols stay -/
def ck_res (ν : Nat → Int) (I I' : List ck_I) (f : ck_L) (z : Int) : Prop := ∃ ν' : Nat → Int, (∀ j, j < I.length → ν' j = ν j) ∧ I.length ≤ I'.length ∧ ck_gi ν' I' ∧ ck_wf I'.length f ∧ ck_ev ν' f = z
theorem ck_same {ν : Nat → Int} {I : List ck_I} {f : ck_L} {z : Int} (h : ck_gi ν I) (hf : ck_wf I.length f) (hz : ck_ev ν f = z) : ck_res ν I I f z := ⟨ν, fun _ _ => rfl, Nat.le_refl _, h, hf, hz⟩
theorem ck_fresh {ν : Nat → Int} {I : List ck_I} {z : Int} (h : ck_gi ν I) (q : ck_I) (h1 : q.1 ≤ z) (h2 : z ≤ q.2.1) (h3 : q.2.2.1 = 1 → ck_wf I.length q.2.2.2 ∧ ck_ev ν q.2.2.2 ≤ z) (h4 : q.2.2.1 = 2 → ck_wf I.length q.2.2.2 ∧ z ≤ ck_ev ν q.2.2.2) : ck_res ν I (I ++ [q]) (I.length, 1, 0) z := by
  have hag : ∀ j, j < I.length → (fun j => if j = I.length then z else ν j) j = ν j := fun j hj => if_neg (Nat.ne_of_lt hj)
  have hlen : (I ++ [q]).length = I.length + 1 := by simp
  refine ⟨fun j => if j = I.length then z else ν j, hag, by omega, ?_, Or.inr (by show I.length < _; omega), by simp [ck_ev]⟩
  intro j r hr
  rw [hlen]
  rcases Nat.lt_trichotomy j I.length with hj | hj | hj
  · rw [List.getElem?_append_left hj] at hr
    obtain ⟨a1, a2, a3, a4⟩ := h j r hr
    rw [hag j hj]
    refine ⟨a1, a2, fun e => ?_, fun e => ?_⟩
    · obtain ⟨w, v⟩ := a3 e
      exact ⟨w.mono (by omega), by rw [ck_ev_congr w hag]; exact v⟩
    · obtain ⟨w, v⟩ := a4 e
      exact ⟨w.mono (by omega), by rw [ck_ev_congr w hag]; exact v⟩
  · subst hj
    have hq : r = q := by simpa using hr.symm
    subst hq
    simp only [if_true]
    refine ⟨h1, h2, fun e => ?_, fun e => ?_⟩
    · obtain ⟨w, v⟩ := h3 e
      exact ⟨w.mono (by omega), by rw [ck_ev_congr w hag]; exact v⟩
    · obtain ⟨w, v⟩ := h4 e
      exact ⟨w.mono (by omega), by rw [ck_ev_congr w hag]; exact v⟩
  · rw [List.getElem?_eq_none (by omega)] at hr
    cases hr
/-- lowest and highest value of a form that is an int -/
def ck_rng (I : List ck_I) (f : ck_L) : Int × Int :=
  if f.2.1 = 0 then (f.2.2, f.2.2) else
  match I[f.1]? with
  | none => (-2147483648, 2147483647)
  | some q => if 0 ≤ f.2.1 then (f.2.1 * q.1 + f.2.2, f.2.1 * q.2.1 + f.2.2) else (f.2.1 * q.2.1 + f.2.2, f.2.1 * q.1 + f.2.2)
theorem ck_i32 (x : Int32) : -2147483648 ≤ x.toInt ∧ x.toInt ≤ 2147483647 := by
  have h1 := x.le_toInt
  have h2 := x.toInt_lt
  omega
theorem ck_rng_ok {ν : Nat → Int} {I : List ck_I} {f : ck_L} {x : Int} (h : ck_gi ν I) (hx : x = ck_ev ν f) (hl : -2147483648 ≤ x ∧ x ≤ 2147483647) : (ck_rng I f).1 ≤ x ∧ x ≤ (ck_rng I f).2 := by
  unfold ck_rng
  by_cases h0 : f.2.1 = 0
  · rw [if_pos h0]
    unfold ck_ev at hx
    rw [h0, Int.zero_mul, Int.zero_add] at hx
    rw [hx]
    exact ⟨Int.le_refl _, Int.le_refl _⟩
  · rw [if_neg h0]
    cases hq : I[f.1]? with
    | none => exact hl
    | some q =>
      obtain ⟨a1, a2, -, -⟩ := h _ _ hq
      unfold ck_ev at hx
      dsimp only
      by_cases hp : 0 ≤ f.2.1
      · rw [if_pos hp]
        have b1 := Int.mul_le_mul_of_nonneg_left a1 hp
        have b2 := Int.mul_le_mul_of_nonneg_left a2 hp
        dsimp only
        omega
      · rw [if_neg hp]
        have hp' : f.2.1 ≤ 0 := by omega
        have b1 := Int.mul_le_mul_of_nonpos_left hp' a1
        have b2 := Int.mul_le_mul_of_nonpos_left hp' a2
        dsimp only
        omega
theorem ck_rng32 {ν : Nat → Int} {I : List ck_I} {f : ck_L} {x : Int32} (h : ck_gi ν I) (hx : x.toInt = ck_ev ν f) : (ck_rng I f).1 ≤ x.toInt ∧ x.toInt ≤ (ck_rng I f).2 := ck_rng_ok h hx (ck_i32 x)
def ck_full (I : List ck_I) : List ck_I × ck_L := (I ++ [(-2147483648, 2147483647, 0, (0, 0, 0))], (I.length, 1, 0))
theorem ck_full_ok {ν : Nat → Int} {I : List ck_I} (h : ck_gi ν I) (x : Int32) : ck_res ν I (ck_full I).1 (ck_full I).2 x.toInt :=
  ck_fresh h _ (ck_i32 x).1 (ck_i32 x).2 (fun e => by cases e) (fun e => by cases e)
def ck_btw (I : List ck_I) (lo hi : Int) : List ck_I × ck_L := (I ++ [(lo, hi, 0, (0, 0, 0))], (I.length, 1, 0))
theorem ck_btw_ok {ν : Nat → Int} {I : List ck_I} (h : ck_gi ν I) {lo hi z : Int} (h1 : lo ≤ z) (h2 : z ≤ hi) : ck_res ν I (ck_btw I lo hi).1 (ck_btw I lo hi).2 z :=
  ck_fresh h _ h1 h2 (fun e => by cases e) (fun e => by cases e)
def ck_k (z : Int) : ck_L := (0, 0, z)
theorem ck_k_ok {ν : Nat → Int} {I : List ck_I} (h : ck_gi ν I) (z : Int) : ck_res ν I I (ck_k z) z := ck_same h (Or.inl rfl) (by simp [ck_ev, ck_k])
theorem ck_bmod {z : Int} (h1 : -2147483648 ≤ z) (h2 : z ≤ 2147483647) : z.bmod (2 ^ 32) = z := Int.bmod_eq_of_le_mul_two (by omega) (by omega)
theorem ck_addI {x y : Int32} (h1 : -2147483648 ≤ x.toInt + y.toInt) (h2 : x.toInt + y.toInt ≤ 2147483647) : (x + y).toInt = x.toInt + y.toInt := by
  rw [Int32.toInt_add]; exact ck_bmod h1 h2
theorem ck_subI {x y : Int32} (h1 : -2147483648 ≤ x.toInt - y.toInt) (h2 : x.toInt - y.toInt ≤ 2147483647) : (x - y).toInt = x.toInt - y.toInt := by
  rw [Int32.toInt_sub]; exact ck_bmod h1 h2
theorem ck_mulI {x y : Int32} (h1 : -2147483648 ≤ x.toInt * y.toInt) (h2 : x.toInt * y.toInt ≤ 2147483647) : (x * y).toInt = x.toInt * y.toInt := by
  rw [Int32.toInt_mul]; exact ck_bmod h1 h2
theorem ck_negI {x : Int32} (h1 : -2147483648 ≤ -x.toInt) (h2 : -x.toInt ≤ 2147483647) : (-x).toInt = -x.toInt := by
  rw [Int32.toInt_neg]; exact ck_bmod h1 h2
def ck_in32 (z : Int × Int) : Bool := decide (-2147483648 ≤ z.1) && decide (z.2 ≤ 2147483647)
theorem ck_in32_ok {z : Int × Int} (h : ck_in32 z = true) : -2147483648 ≤ z.1 ∧ z.2 ≤ 2147483647 := by
  simpa [ck_in32] using h
/-- x + y -/
def ck_add (I : List ck_I) (f g : ck_L) : List ck_I × ck_L :=
  let a := ck_rng I f
  let b := ck_rng I g
  if ck_in32 (a.1 + b.1, a.2 + b.2) = true then
    if f.2.1 = 0 then (I, (g.1, g.2.1, f.2.2 + g.2.2))
    else if g.2.1 = 0 then (I, (f.1, f.2.1, f.2.2 + g.2.2))
    else if f.1 = g.1 then (I, (f.1, f.2.1 + g.2.1, f.2.2 + g.2.2))
    else if 0 ≤ b.1 then (I ++ [(a.1 + b.1, a.2 + b.2, 1, f)], (I.length, 1, 0))
    else if 0 ≤ a.1 then (I ++ [(a.1 + b.1, a.2 + b.2, 1, g)], (I.length, 1, 0))
    else ck_btw I (a.1 + b.1) (a.2 + b.2)
  else ck_full I
theorem ck_add_ok {ν : Nat → Int} {I : List ck_I} {f g : ck_L} {x y : Int32} (h : ck_gi ν I) (wf : ck_wf I.length f) (wg : ck_wf I.length g) (hx : x.toInt = ck_ev ν f) (hy : y.toInt = ck_ev ν g) : ck_res ν I (ck_add I f g).1 (ck_add I f g).2 (x + y).toInt := by
  have rx := ck_rng32 h hx
  have ry := ck_rng32 h hy
  unfold ck_add
  dsimp only
  by_cases hc : ck_in32 ((ck_rng I f).1 + (ck_rng I g).1, (ck_rng I f).2 + (ck_rng I g).2) = true
  · have hc' := ck_in32_ok hc
    dsimp only at hc'
    have e := ck_addI (x := x) (y := y) (by omega) (by omega)
    rw [if_pos hc, e]
    by_cases h0 : f.2.1 = 0
    · rw [if_pos h0]
      refine ck_same h wg ?_
      rw [hx, hy]; unfold ck_ev; dsimp only; rw [h0, Int.zero_mul]; omega
    · rw [if_neg h0]
      by_cases h1 : g.2.1 = 0
      · rw [if_pos h1]
        refine ck_same h wf ?_
        rw [hx, hy]; unfold ck_ev; dsimp only; rw [h1, Int.zero_mul]; omega
      · rw [if_neg h1]
        by_cases h2 : f.1 = g.1
        · rw [if_pos h2]
          refine ck_same h (wf.elim (fun q => absurd q h0) Or.inr) ?_
          rw [hx, hy]; unfold ck_ev; dsimp only; rw [h2, Int.add_mul]; omega
        · rw [if_neg h2]
          by_cases h3 : 0 ≤ (ck_rng I g).1
          · rw [if_pos h3]
            exact ck_fresh h _ (by dsimp only; omega) (by dsimp only; omega) (fun _ => ⟨wf, by dsimp only; omega⟩) (fun e => by cases e)
          · rw [if_neg h3]
            by_cases h4 : 0 ≤ (ck_rng I f).1
            · rw [if_pos h4]
              exact ck_fresh h _ (by dsimp only; omega) (by dsimp only; omega) (fun _ => ⟨wg, by dsimp only; omega⟩) (fun e => by cases e)
            · rw [if_neg h4]
              exact ck_btw_ok h (by omega) (by omega)
  · rw [if_neg hc]
    exact ck_full_ok h _
/-- x - y -/
def ck_sub (I : List ck_I) (f g : ck_L) : List ck_I × ck_L :=
  let a := ck_rng I f
  let b := ck_rng I g
  if ck_in32 (a.1 - b.2, a.2 - b.1) = true then
    if g.2.1 = 0 then (I, (f.1, f.2.1, f.2.2 - g.2.2))
    else if f.2.1 = 0 then (I, (g.1, -g.2.1, f.2.2 - g.2.2))
    else if f.1 = g.1 then (I, (f.1, f.2.1 - g.2.1, f.2.2 - g.2.2))
    else if 0 ≤ b.1 then (I ++ [(a.1 - b.2, a.2 - b.1, 2, f)], (I.length, 1, 0))
    else ck_btw I (a.1 - b.2) (a.2 - b.1)
  else ck_full I
theorem ck_sub_ok {ν : Nat → Int} {I : List ck_I} {f g : ck_L} {x y : Int32} (h : ck_gi ν I) (wf : ck_wf I.length f) (wg : ck_wf I.length g) (hx : x.toInt = ck_ev ν f) (hy : y.toInt = ck_ev ν g) : ck_res ν I (ck_sub I f g).1 (ck_sub I f g).2 (x - y).toInt := by
  have rx := ck_rng32 h hx
  have ry := ck_rng32 h hy
  unfold ck_sub
  dsimp only
  by_cases hc : ck_in32 ((ck_rng I f).1 - (ck_rng I g).2, (ck_rng I f).2 - (ck_rng I g).1) = true
  · have hc' := ck_in32_ok hc
    dsimp only at hc'
    have e := ck_subI (x := x) (y := y) (by omega) (by omega)
    rw [if_pos hc, e]
    by_cases h1 : g.2.1 = 0
    · rw [if_pos h1]
      refine ck_same h wf ?_
      rw [hx, hy]; unfold ck_ev; dsimp only; rw [h1, Int.zero_mul]; omega
    · rw [if_neg h1]
      by_cases h0 : f.2.1 = 0
      · rw [if_pos h0]
        refine ck_same h (wg.elim (fun q => absurd q h1) Or.inr) ?_
        rw [hx, hy]; unfold ck_ev; dsimp only; rw [h0, Int.zero_mul, Int.neg_mul]; omega
      · rw [if_neg h0]
        by_cases h2 : f.1 = g.1
        · rw [if_pos h2]
          refine ck_same h (wf.elim (fun q => absurd q h0) Or.inr) ?_
          rw [hx, hy]; unfold ck_ev; dsimp only; rw [h2, Int.sub_mul]; omega
        · rw [if_neg h2]
          by_cases h3 : 0 ≤ (ck_rng I g).1
          · rw [if_pos h3]
            exact ck_fresh h _ (by dsimp only; omega) (by dsimp only; omega) (fun e => by cases e) (fun _ => ⟨wf, by dsimp only; omega⟩)
          · rw [if_neg h3]
            exact ck_btw_ok h (by omega) (by omega)
  · rw [if_neg hc]
    exact ck_full_ok h _
theorem ck_corner {x y a b c d : Int} (h1 : a ≤ x) (h2 : x ≤ b) (h3 : c ≤ y) (h4 : y ≤ d) : min (min (a * c) (a * d)) (min (b * c) (b * d)) ≤ x * y ∧ x * y ≤ max (max (a * c) (a * d)) (max (b * c) (b * d)) := by
  have lo : ∀ t : Int, min (t * c) (t * d) ≤ t * y ∧ t * y ≤ max (t * c) (t * d) := fun t => by
    rcases Int.le_total 0 t with ht | ht
    · have := Int.mul_le_mul_of_nonneg_left h3 ht
      have := Int.mul_le_mul_of_nonneg_left h4 ht
      omega
    · have := Int.mul_le_mul_of_nonpos_left ht h3
      have := Int.mul_le_mul_of_nonpos_left ht h4
      omega
  have ha := lo a
  have hb := lo b
  rcases Int.le_total 0 y with hy | hy
  · have := Int.mul_le_mul_of_nonneg_right h1 hy
    have := Int.mul_le_mul_of_nonneg_right h2 hy
    omega
  · have := Int.mul_le_mul_of_nonpos_right h1 hy
    have := Int.mul_le_mul_of_nonpos_right h2 hy
    omega
/-- x * y -/
def ck_mul (I : List ck_I) (f g : ck_L) : List ck_I × ck_L :=
  let a := ck_rng I f
  let b := ck_rng I g
  let z : Int × Int := (min (min (a.1 * b.1) (a.1 * b.2)) (min (a.2 * b.1) (a.2 * b.2)), max (max (a.1 * b.1) (a.1 * b.2)) (max (a.2 * b.1) (a.2 * b.2)))
  if ck_in32 z = true then
    if f.2.1 = 0 then (I, (g.1, f.2.2 * g.2.1, f.2.2 * g.2.2))
    else if g.2.1 = 0 then (I, (f.1, g.2.2 * f.2.1, g.2.2 * f.2.2))
    else ck_btw I z.1 z.2
  else ck_full I
theorem ck_mul_ok {ν : Nat → Int} {I : List ck_I} {f g : ck_L} {x y : Int32} (h : ck_gi ν I) (wf : ck_wf I.length f) (wg : ck_wf I.length g) (hx : x.toInt = ck_ev ν f) (hy : y.toInt = ck_ev ν g) : ck_res ν I (ck_mul I f g).1 (ck_mul I f g).2 (x * y).toInt := by
  have rx := ck_rng32 h hx
  have ry := ck_rng32 h hy
  have hz := ck_corner rx.1 rx.2 ry.1 ry.2
  unfold ck_mul
  dsimp only
  split
  · rename_i hc
    have hc' := ck_in32_ok hc
    dsimp only at hc'
    have e := ck_mulI (x := x) (y := y) (Int.le_trans hc'.1 hz.1) (Int.le_trans hz.2 hc'.2)
    rw [e]
    by_cases h0 : f.2.1 = 0
    · rw [if_pos h0]
      refine ck_same h (wg.imp (fun q => by dsimp only; rw [q, Int.mul_zero]) id) ?_
      rw [hx, hy]; unfold ck_ev; dsimp only; rw [h0, Int.zero_mul, Int.zero_add, Int.mul_add, Int.mul_assoc]
    · rw [if_neg h0]
      by_cases h1 : g.2.1 = 0
      · rw [if_pos h1]
        refine ck_same h (wf.imp (fun q => by dsimp only; rw [q, Int.mul_zero]) id) ?_
        rw [hx, hy]; unfold ck_ev; dsimp only; rw [h1, Int.zero_mul, Int.zero_add, Int.mul_comm (f.2.1 * ν f.1 + f.2.2), Int.mul_add, Int.mul_assoc]
      · rw [if_neg h1]
        exact ck_btw_ok h hz.1 hz.2
  · exact ck_full_ok h _
/-- -x -/
def ck_neg (I : List ck_I) (f : ck_L) : List ck_I × ck_L :=
  let a := ck_rng I f
  if ck_in32 (-a.2, -a.1) = true then (I, (f.1, -f.2.1, -f.2.2)) else ck_full I
theorem ck_neg_ok {ν : Nat → Int} {I : List ck_I} {f : ck_L} {x : Int32} (h : ck_gi ν I) (wf : ck_wf I.length f) (hx : x.toInt = ck_ev ν f) : ck_res ν I (ck_neg I f).1 (ck_neg I f).2 (-x).toInt := by
  have rx := ck_rng32 h hx
  unfold ck_neg
  dsimp only
  by_cases hc : ck_in32 (-(ck_rng I f).2, -(ck_rng I f).1) = true
  · have hc' := ck_in32_ok hc
    dsimp only at hc'
    rw [if_pos hc, ck_negI (x := x) (by omega) (by omega)]
    refine ck_same h (wf.imp (fun q => by dsimp only; rw [q]; rfl) id) ?_
    rw [hx]; unfold ck_ev; dsimp only; rw [Int.neg_mul]; omega
  · rw [if_neg hc]
    exact ck_full_ok h _
/-- both are told numbers: the machine's own operation tells the answer -/
def ck_two (o : Int32 → Int32 → Int32) (I : List ck_I) (f g : ck_L) (r : List ck_I × ck_L) : List ck_I × ck_L :=
  if f.2.1 = 0 ∧ g.2.1 = 0 then (I, ck_k (o (Int32.ofInt f.2.2) (Int32.ofInt g.2.2)).toInt) else r
theorem ck_told {ν : Nat → Int} {f : ck_L} {x : Int32} (h0 : f.2.1 = 0) (hx : x.toInt = ck_ev ν f) : x = Int32.ofInt f.2.2 := by
  have e : x.toInt = f.2.2 := by rw [hx]; unfold ck_ev; rw [h0, Int.zero_mul, Int.zero_add]
  rw [← e, Int32.ofInt_toInt]
theorem ck_two_ok {o : Int32 → Int32 → Int32} {ν : Nat → Int} {I : List ck_I} {f g : ck_L} {x y : Int32} {r : List ck_I × ck_L} (h : ck_gi ν I) (hx : x.toInt = ck_ev ν f) (hy : y.toInt = ck_ev ν g) (hr : ck_res ν I r.1 r.2 (o x y).toInt) : ck_res ν I (ck_two o I f g r).1 (ck_two o I f g r).2 (o x y).toInt := by
  unfold ck_two
  by_cases hc : f.2.1 = 0 ∧ g.2.1 = 0
  · rw [if_pos hc, ck_told hc.1 hx, ck_told hc.2 hy]
    exact ck_k_ok h _
  · rw [if_neg hc]; exact hr
/-- x / y for y at least 1 -/
def ck_div (I : List ck_I) (f g : ck_L) : List ck_I × ck_L :=
  ck_two (fun x y => x / y) I f g (
    let a := ck_rng I f
    let b := ck_rng I g
    if 0 ≤ a.1 ∧ g.2.1 = 0 then ck_btw I (a.1 / g.2.2) (a.2 / g.2.2)
    else if 1 ≤ b.1 then ck_btw I (min a.1 0) (max a.2 0)
    else ck_full I)
theorem ck_tdiv {x y : Int} (hy : 1 ≤ y) : min x 0 ≤ x.tdiv y ∧ x.tdiv y ≤ max x 0 := by
  rcases Int.le_total 0 x with h | h
  · have h1 := Int.tdiv_nonneg h (show (0 : Int) ≤ y by omega)
    have h2 := Int.tdiv_le_self y h
    omega
  · have h' : 0 ≤ -x := by omega
    have h1 := Int.tdiv_nonneg h' (show (0 : Int) ≤ y by omega)
    have h2 := Int.tdiv_le_self y h'
    rw [Int.neg_tdiv] at h1 h2
    omega
theorem ck_divI {x y : Int32} (hy : 1 ≤ y.toInt) : (x / y).toInt = x.toInt.tdiv y.toInt := by
  rw [Int32.toInt_div]
  have h1 := ck_tdiv (x := x.toInt) hy
  have h2 := ck_i32 x
  exact ck_bmod (by omega) (by omega)
theorem ck_div_ok {ν : Nat → Int} {I : List ck_I} {f g : ck_L} {x y : Int32} (h : ck_gi ν I) (hx : x.toInt = ck_ev ν f) (hy : y.toInt = ck_ev ν g) (hp : 1 ≤ y.toInt) : ck_res ν I (ck_div I f g).1 (ck_div I f g).2 (x / y).toInt := by
  have rx := ck_rng32 h hx
  have ry := ck_rng32 h hy
  refine ck_two_ok (o := fun x y => x / y) h hx hy ?_
  dsimp only
  have e := ck_divI (x := x) hp
  have ht := ck_tdiv (x := x.toInt) hp
  by_cases hc : 0 ≤ (ck_rng I f).1 ∧ g.2.1 = 0
  · rw [if_pos hc, e, Int.tdiv_eq_ediv_of_nonneg (by omega)]
    have e2 : y.toInt = g.2.2 := by rw [hy]; unfold ck_ev; rw [hc.2, Int.zero_mul, Int.zero_add]
    rw [← e2]
    exact ck_btw_ok h (Int.ediv_le_ediv (by omega) rx.1) (Int.ediv_le_ediv (by omega) rx.2)
  · rw [if_neg hc]
    by_cases h1 : 1 ≤ (ck_rng I g).1
    · rw [if_pos h1, e]
      exact ck_btw_ok h (by omega) (by omega)
    · rw [if_neg h1]
      exact ck_full_ok h _
/-- the machine's remainder for y at least 1 -/
def ck_rem (I : List ck_I) (f g : ck_L) : List ck_I × ck_L :=
  ck_two (fun x y => x - x / y * y) I f g (
    let a := ck_rng I f
    let b := ck_rng I g
    if 0 ≤ a.1 then ck_btw I 0 (min a.2 (b.2 - 1)) else ck_btw I (1 - b.2) (b.2 - 1))
theorem ck_remI {x y : Int32} (hy : 1 ≤ y.toInt) : (x - x / y * y).toInt = x.toInt.tmod y.toInt := by
  have e := ck_divI (x := x) hy
  have h2 := ck_i32 x
  have h3 := ck_i32 y
  have ed := Int.mul_tdiv_add_tmod x.toInt y.toInt
  have em : y.toInt * x.toInt.tdiv y.toInt = x.toInt - x.toInt.tmod y.toInt := by omega
  have hm : -2147483648 ≤ x.toInt - x.toInt.tmod y.toInt ∧ x.toInt - x.toInt.tmod y.toInt ≤ 2147483647 := by
    rcases Int.le_total 0 x.toInt with h | h
    · have h1 := Int.tmod_nonneg y.toInt h
      have h4 := Int.tdiv_nonneg h (show (0 : Int) ≤ y.toInt by omega)
      have h5 : 0 ≤ y.toInt * x.toInt.tdiv y.toInt := Int.mul_nonneg (by omega) h4
      omega
    · have h1 := Int.tmod_nonneg y.toInt (show (0 : Int) ≤ -x.toInt by omega)
      have h4 := Int.tdiv_nonneg (show (0 : Int) ≤ -x.toInt by omega) (show (0 : Int) ≤ y.toInt by omega)
      rw [Int.neg_tmod] at h1
      rw [Int.neg_tdiv] at h4
      have h5 : 0 ≤ y.toInt * -x.toInt.tdiv y.toInt := Int.mul_nonneg (by omega) h4
      rw [Int.mul_neg] at h5
      omega
  have e1 : (x / y * y).toInt = x.toInt - x.toInt.tmod y.toInt := by
    rw [ck_mulI (by rw [e, Int.mul_comm]; omega) (by rw [e, Int.mul_comm]; omega), e, Int.mul_comm]
    exact em
  have h6 : -2147483648 ≤ x.toInt.tmod y.toInt ∧ x.toInt.tmod y.toInt ≤ 2147483647 := by
    rcases Int.le_total 0 x.toInt with h | h
    · have h1 := Int.tmod_nonneg y.toInt h
      have h4 := Int.tmod_lt_of_pos x.toInt (show (0 : Int) < y.toInt by omega)
      omega
    · have h1 := Int.tmod_nonneg y.toInt (show (0 : Int) ≤ -x.toInt by omega)
      have h4 := Int.tmod_lt_of_pos (-x.toInt) (show (0 : Int) < y.toInt by omega)
      rw [Int.neg_tmod] at h1 h4
      omega
  rw [ck_subI (by rw [e1]; omega) (by rw [e1]; omega), e1]
  omega
theorem ck_rem_ok {ν : Nat → Int} {I : List ck_I} {f g : ck_L} {x y : Int32} (h : ck_gi ν I) (hx : x.toInt = ck_ev ν f) (hy : y.toInt = ck_ev ν g) (hp : 1 ≤ y.toInt) : ck_res ν I (ck_rem I f g).1 (ck_rem I f g).2 (x - x / y * y).toInt := by
  have rx := ck_rng32 h hx
  have ry := ck_rng32 h hy
  refine ck_two_ok (o := fun x y => x - x / y * y) h hx hy ?_
  dsimp only
  rw [ck_remI hp]
  have h4 := Int.tmod_lt_of_pos x.toInt (show (0 : Int) < y.toInt by omega)
  have h5 := Int.tmod_lt_of_pos (-x.toInt) (show (0 : Int) < y.toInt by omega)
  rw [Int.neg_tmod] at h5
  by_cases hc : 0 ≤ (ck_rng I f).1
  · rw [if_pos hc]
    have h6 := Int.tmod_nonneg y.toInt (show (0 : Int) ≤ x.toInt by omega)
    have h7 : x.toInt.tmod y.toInt ≤ x.toInt := by
      rw [Int.tmod_eq_emod_of_nonneg (by omega)]
      have h8 := Int.emod_add_mul_ediv x.toInt y.toInt
      have h9 : 0 ≤ y.toInt * (x.toInt / y.toInt) := Int.mul_nonneg (by omega) (Int.ediv_nonneg (by omega) (by omega))
      omega
    exact ck_btw_ok h h6 (by omega)
  · rw [if_neg hc]
    exact ck_btw_ok h (by omega) (by omega)
