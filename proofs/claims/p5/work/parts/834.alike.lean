/-! class and reference alike: counts of stones, points, planes, known numbers, of now and of the images; images that are kept -/
theorem mm_ne {h : mm_h} {i k c p : Nat} {v : Int32} (hn : ¬ (c = i ∧ p = k)) : (mm_si h i k v).2.2.1 c p = h.2.2.1 c p := if_neg hn
theorem mm_eq {h : mm_h} {i k : Nat} {v : Int32} : (mm_si h i k v).2.2.1 i k = v := if_pos ⟨rfl, rfl⟩
def al (h : mm_h) (o c b : Nat) : Prop := h.2.2.1 o 0 = h.2.2.1 c (b + 1292) ∧ (∀ n, n < 12 → h.2.2.1 (o + 6) n = h.2.2.1 c (b + (192 + n))) ∧ ∀ s : Nat, s < 12 → ((s : Int) < (h.2.2.1 o 0).toInt → h.2.2.1 (o + 4) s = h.2.2.1 c (b + (16 * s + 3)) ∧ ∀ t, t < 12 → h.2.2.1 (o + 5) (12 * s + t) = h.2.2.1 c (b + (16 * s + 4 + t))) ∧ ((h.2.2.1 o 0).toInt ≤ (s : Int) → h.2.2.1 (o + 4) s = Int32.ofInt 0 ∧ ∀ t, t < 12 → h.2.2.1 (o + 5) (12 * s + t) = Int32.ofInt 0)
def bl : List (Nat × Nat × Nat) := [(1, 78, 0), (16, 79, 0), (30, 79, 9310)]
def iv_J (h : mm_h) : Prop := iv_I h ∧ (∀ q ∈ bl, al h q.1 q.2.1 q.2.2) ∧ ∀ k, k < 2 → h.2.2.1 44 k = h.2.2.1 80 k
theorem bl_all {P : Nat × Nat × Nat → Prop} (a : P (1, 78, 0)) (b : P (16, 79, 0)) (c : P (30, 79, 9310)) : ∀ q ∈ bl, P q := ck_cons a (ck_cons b (ck_cons c ck_nil))
theorem jm_1 : jm 1292 = true := rfl
theorem jm_2 : ∀ n, n < 12 → jm (192 + n) = true := by decide
theorem jm_3 : ∀ s, s < 12 → jm (16 * s + 3) = true := by decide
theorem jm_4 : ∀ s, s < 12 → ∀ t, t < 12 → jm (16 * s + 4 + t) = true := by decide
theorem jm_lt {q : Nat} (z : jm q = true) : q < 1293 := by
  simp only [jm, Bool.or_eq_true, Bool.and_eq_true, beq_iff_eq, decide_eq_true_eq] at z
  omega
theorem al.mv {h h' : mm_h} {o c b o' c' b' : Nat} (a : al h o c b) (e0 : h'.2.2.1 o' 0 = h.2.2.1 o 0) (e4 : ∀ p, p < 12 → h'.2.2.1 (o' + 4) p = h.2.2.1 (o + 4) p) (e5 : ∀ p, p < 144 → h'.2.2.1 (o' + 5) p = h.2.2.1 (o + 5) p) (e6 : ∀ p, p < 12 → h'.2.2.1 (o' + 6) p = h.2.2.1 (o + 6) p) (em : ∀ q, jm q = true → h'.2.2.1 c' (b' + q) = h.2.2.1 c (b + q)) : al h' o' c' b' := by
  obtain ⟨a1, a2, a3⟩ := a
  refine ⟨by rw [e0, em _ jm_1]; exact a1, fun n hn => by rw [e6 n hn, em _ (jm_2 n hn)]; exact a2 n hn, fun s hs => ⟨fun z => ?_, fun z => ?_⟩⟩
  · rw [e0] at z
    obtain ⟨x, y⟩ := (a3 s hs).1 z
    exact ⟨by rw [e4 s hs, em _ (jm_3 s hs)]; exact x, fun t ht => by rw [e5 _ (by omega), em _ (jm_4 s hs t ht)]; exact y t ht⟩
  · rw [e0] at z
    obtain ⟨x, y⟩ := (a3 s hs).2 z
    exact ⟨by rw [e4 s hs]; exact x, fun t ht => by rw [e5 _ (by omega)]; exact y t ht⟩
theorem jp_78 {q : Nat} (z : jm q = true) : jp 78 (0 + q) = true := by
  rw [Nat.zero_add]
  simp [jp, z]
theorem jp_79 {q : Nat} (z : jm q = true) : jp 79 (0 + q) = true := by
  rw [Nat.zero_add]
  simp [jp, z]
theorem jp_7b {q : Nat} (z : jm q = true) : jp 79 (9310 + q) = true := by simp [jp, z, Nat.add_sub_cancel_left]
theorem iv_J.on {h h' : mm_h} (hJ : iv_J h) (hI : iv_I h') (k : jk jp h h') : iv_J h' := by
  obtain ⟨-, a, f⟩ := hJ
  exact ⟨hI, bl_all ((a _ (.head _)).mv (k 1 0 rfl) (fun p _ => k 5 p rfl) (fun p _ => k 6 p rfl) (fun p _ => k 7 p rfl) (fun q z => k 78 (0 + q) (jp_78 z))) ((a _ (.tail _ (.head _))).mv (k 16 0 rfl) (fun p _ => k 20 p rfl) (fun p _ => k 21 p rfl) (fun p _ => k 22 p rfl) (fun q z => k 79 (0 + q) (jp_79 z))) ((a _ (.tail _ (.tail _ (.head _)))).mv (k 30 0 rfl) (fun p _ => k 34 p rfl) (fun p _ => k 35 p rfl) (fun p _ => k 36 p rfl) (fun q z => k 79 (9310 + q) (jp_7b z))), fun n hn => by rw [k 44 n rfl, k 80 n rfl]; exact f n hn⟩
theorem iv_J.N {h : mm_h} (hJ : iv_J h) : h.2.2.1 1 0 = h.2.2.1 78 1292 := (hJ.2.1 _ (.head _)).1
/-- both refuse -/
theorem jj_ref {h : mm_h} {u v : Int32} (hJ : iv_J h) (hI : iv_I (mm_si (mm_si h 0 14 u) 77 0 v)) : iv_J (mm_si (mm_si h 0 14 u) 77 0 v) := hJ.on hI ((jk.rf.si rfl).si rfl)
theorem so_I {v w : Int32} (e : some (mm_I v) = some (mm_I w)) : v = w := Sum.inl.inj (Option.some.inj e)
/-! one number here, one there -/
theorem pw_n {h : mm_h} {x i j : Nat} {n u w : Int32} (c p : Nat) (a : c ≠ 77) (b : c ≠ 0) : (mm_si (mm_si (mm_si (mm_si h x i n) 0 14 u) 78 j n) 77 0 w).2.2.1 c p = if c = 78 ∧ p = j then n else if c = x ∧ p = i then n else h.2.2.1 c p := by
  show (if c = 77 ∧ p = 0 then w else if c = 78 ∧ p = j then n else if c = 0 ∧ p = 14 then u else if c = x ∧ p = i then n else h.2.2.1 c p) = _
  rw [if_neg (show ¬ (c = 77 ∧ p = 0) from fun z => a z.1), if_neg (show ¬ (c = 0 ∧ p = 14) from fun z => b z.1)]
theorem pw {h : mm_h} {x i j s0 t0 : Nat} {n u w : Int32} (hJ : iv_J h) (hs : s0 < 12) (ht : t0 < 12) (hp : (x = 7 ∧ i = s0 ∧ j = 192 + s0) ∨ (x = 5 ∧ i = s0 ∧ j = 16 * s0 + 3 ∧ (s0 : Int) < (h.2.2.1 1 0).toInt) ∨ (x = 6 ∧ i = 12 * s0 + t0 ∧ j = 16 * s0 + 4 + t0 ∧ (s0 : Int) < (h.2.2.1 1 0).toInt)) (hI : iv_I (mm_si (mm_si (mm_si (mm_si h x i n) 0 14 u) 78 j n) 77 0 w)) : iv_J (mm_si (mm_si (mm_si (mm_si h x i n) 0 14 u) 78 j n) 77 0 w) := by
  have F := pw_n (h := h) (x := x) (i := i) (j := j) (n := n) (u := u) (w := w)
  generalize mm_si (mm_si (mm_si (mm_si h x i n) 0 14 u) 78 j n) 77 0 w = h2 at hI F ⊢
  have hx : x = 5 ∨ x = 6 ∨ x = 7 := by omega
  have hj : j < 204 := by omega
  obtain ⟨-, a, f⟩ := hJ
  have ke : ∀ c p, c ≠ 77 → c ≠ 0 → c ≠ 78 → c ≠ x → h2.2.2.1 c p = h.2.2.1 c p := fun c p z1 z2 z3 z4 => by rw [F c p z1 z2, if_neg (fun z => z3 z.1), if_neg (fun z => z4 z.1)]
  have cl : ∀ c p, c ≠ 77 → c ≠ 0 → c ≠ 78 → h2.2.2.1 c p = if c = x ∧ p = i then n else h.2.2.1 c p := fun c p z1 z2 z3 => by rw [F c p z1 z2, if_neg (fun z => z3 z.1)]
  have mo : ∀ p, h2.2.2.1 78 p = if p = j then n else h.2.2.1 78 p := fun p => by
    rw [F 78 p (by decide) (by decide), if_neg (show ¬ (78 = x ∧ p = i) from fun z => by omega)]
    by_cases e : p = j
    · rw [if_pos ⟨rfl, e⟩, if_pos e]
    · rw [if_neg (fun z => e z.2), if_neg e]
  have two : ∀ c p q, c ≠ 77 → c ≠ 0 → c ≠ 78 → ((c = x ∧ p = i) ↔ q = j) → h.2.2.1 c p = h.2.2.1 78 q → h2.2.2.1 c p = h2.2.2.1 78 q := fun c p q z1 z2 z3 hh e => by
    rw [cl c p z1 z2 z3, mo q]
    by_cases y : q = j
    · rw [if_pos y, if_pos (hh.mpr y)]
    · rw [if_neg y, if_neg (fun z => y (hh.mp z))]
      exact e
  have k1 : h2.2.2.1 1 0 = h.2.2.1 1 0 := ke 1 0 (by decide) (by decide) (by decide) (by omega)
  have a0 := a _ (.head _)
  simp only [al, Nat.zero_add, Nat.reduceAdd] at a0
  obtain ⟨a1, a2, a3⟩ := a0
  refine ⟨hI, bl_all ?_ ((a _ (.tail _ (.head _))).mv (ke 16 0 (by decide) (by decide) (by decide) (by omega)) (fun p _ => ke 20 p (by decide) (by decide) (by decide) (by omega)) (fun p _ => ke 21 p (by decide) (by decide) (by decide) (by omega)) (fun p _ => ke 22 p (by decide) (by decide) (by decide) (by omega)) (fun q z => ke 79 _ (by decide) (by decide) (by decide) (by omega))) ((a _ (.tail _ (.tail _ (.head _)))).mv (ke 30 0 (by decide) (by decide) (by decide) (by omega)) (fun p _ => ke 34 p (by decide) (by decide) (by decide) (by omega)) (fun p _ => ke 35 p (by decide) (by decide) (by decide) (by omega)) (fun p _ => ke 36 p (by decide) (by decide) (by decide) (by omega)) (fun q z => ke 79 _ (by decide) (by decide) (by decide) (by omega))), fun k hk => by rw [ke 44 k (by decide) (by decide) (by decide) (by omega), ke 80 k (by decide) (by decide) (by decide) (by omega)]; exact f k hk⟩
  simp only [al, Nat.zero_add, Nat.reduceAdd]
  refine ⟨by rw [k1, mo, if_neg (by omega)]; exact a1, fun m hm => two 7 m _ (by decide) (by decide) (by decide) (by omega) (a2 m hm), fun s hs' => ⟨fun z => ?_, fun z => ?_⟩⟩
  · rw [k1] at z
    obtain ⟨y1, y2⟩ := (a3 s hs').1 z
    exact ⟨two 5 s _ (by decide) (by decide) (by decide) (by omega) y1, fun t ht' => two 6 _ _ (by decide) (by decide) (by decide) (by omega) (y2 t ht')⟩
  · rw [k1] at z
    obtain ⟨y1, y2⟩ := (a3 s hs').2 z
    exact ⟨by rw [cl 5 s (by decide) (by decide) (by decide), if_neg (by omega)]; exact y1, fun t ht' => by rw [cl 6 _ (by decide) (by decide) (by decide), if_neg (by omega)]; exact y2 t ht'⟩
theorem jj_known {a n v w : Int32} {h h1 h2 : mm_h} (hJ : iv_J h) (p1 : xn_P a n h (some (mm_I v)) h1) (p2 : mn_P a n h1 (some (mm_I w)) h2) (hI : iv_I h2) : iv_J h2 ∧ v.toInt = w.toInt := by
  rcases p1 with ⟨n1, e1, rfl⟩ | ⟨o1, e1, rfl⟩ <;> rcases p2 with ⟨n2, e2, rfl⟩ | ⟨o2, e2, rfl⟩
  · exact ⟨jj_ref hJ hI, by rw [so_I e1, so_I e2]⟩
  · exact absurd o2 n1
  · exact absurd o1 n2
  · obtain ⟨⟨a0, a1⟩, -⟩ := o1
    refine ⟨pw (s0 := a.toInt.toNat) (t0 := 0) hJ (by omega) (by decide) (Or.inl ⟨rfl, rfl, rfl⟩) hI, ?_⟩
    rw [so_I e1, so_I e2, mm_ne (fun z => by omega), mm_ne (fun z => by omega)]
    have a2 := (hJ.2.1 _ (.head _)).2.1 a.toInt.toNat (by omega)
    simp only [Nat.zero_add, Nat.reduceAdd] at a2
    rw [a2]
theorem jj_N {h : mm_h} {u : Int32} (hJ : iv_J h) : (mm_si h 0 14 u).2.2.1 78 1292 = h.2.2.1 1 0 := by
  rw [mm_ne (fun z => by omega)]
  exact hJ.N.symm
theorem jj_point {s n v w : Int32} {h h1 h2 : mm_h} (hJ : iv_J h) (p1 : xo_P s n h (some (mm_I v)) h1) (p2 : mo_P s n h1 (some (mm_I w)) h2) (hI : iv_I h2) : iv_J h2 ∧ v.toInt = w.toInt := by
  have hN := hJ.1.x.2.2.2.2.2.2.2.2.2.2
  have eN : h1.2.2.1 78 1292 = h.2.2.1 1 0 := by
    rcases p1 with ⟨-, -, rfl⟩ | ⟨-, -, -, rfl⟩ | ⟨-, -, -, rfl⟩
    · exact jj_N hJ
    · exact jj_N hJ
    · rw [mm_ne (fun z => by omega), mm_ne (fun z => by omega)]
      exact hJ.N.symm
  unfold mo_P at p2
  rw [eN] at p2
  rcases p1 with ⟨n1, e1, rfl⟩ | ⟨o1, s1, e1, rfl⟩ | ⟨o1, s1, e1, rfl⟩ <;> rcases p2 with ⟨n2, e2, rfl⟩ | ⟨o2, s2, e2, rfl⟩ | ⟨o2, s2, e2, rfl⟩
  · exact ⟨jj_ref hJ hI, by rw [so_I e1, so_I e2]⟩
  · exact absurd o2 n1
  · exact absurd o2 n1
  · exact absurd o1 n2
  · exact ⟨jj_ref hJ hI, by rw [so_I e1, so_I e2]⟩
  · exact absurd s2 s1
  · exact absurd o1 n2
  · exact absurd s1 s2
  · obtain ⟨q1, q2⟩ := s1
    have ej : mo_i s = 16 * s.toInt.toNat + 3 := rfl
    refine ⟨pw (s0 := s.toInt.toNat) (t0 := 0) hJ (by omega) (by decide) (Or.inr (Or.inl ⟨rfl, rfl, ej, by omega⟩)) hI, ?_⟩
    rw [so_I e1, so_I e2, mm_ne (fun z => by omega), mm_ne (fun z => by omega), ej]
    have a2 := (((hJ.2.1 _ (.head _)).2.2 s.toInt.toNat (by omega)).1 (by show ((s.toInt.toNat : Nat) : Int) < (h.2.2.1 1 0).toInt; omega)).1
    simp only [Nat.zero_add, Nat.reduceAdd] at a2
    rw [a2]
theorem jj_plane {s f w n v u : Int32} {h h1 h2 : mm_h} (hJ : iv_J h) (p1 : xp_P s f w n h (some (mm_I v)) h1) (p2 : mp_P s f w n h1 (some (mm_I u)) h2) (hI : iv_I h2) : iv_J h2 ∧ v.toInt = u.toInt := by
  have hN := hJ.1.x.2.2.2.2.2.2.2.2.2.2
  have eN : h1.2.2.1 78 1292 = h.2.2.1 1 0 := by
    rcases p1 with ⟨-, -, rfl⟩ | ⟨-, -, -, rfl⟩ | ⟨-, -, -, rfl⟩
    · exact jj_N hJ
    · exact jj_N hJ
    · rw [mm_ne (fun z => by omega), mm_ne (fun z => by omega)]
      exact hJ.N.symm
  unfold mp_P at p2
  rw [eN] at p2
  rcases p1 with ⟨n1, e1, rfl⟩ | ⟨o1, s1, e1, rfl⟩ | ⟨o1, s1, e1, rfl⟩ <;> rcases p2 with ⟨n2, e2, rfl⟩ | ⟨o2, s2, e2, rfl⟩ | ⟨o2, s2, e2, rfl⟩
  · exact ⟨jj_ref hJ hI, by rw [so_I e1, so_I e2]⟩
  · exact absurd o2 n1
  · exact absurd o2 n1
  · exact absurd o1 n2
  · exact ⟨jj_ref hJ hI, by rw [so_I e1, so_I e2]⟩
  · exact absurd s2 s1
  · exact absurd o1 n2
  · exact absurd s1 s2
  · obtain ⟨q1, q2⟩ := s1
    obtain ⟨⟨⟨f0, f1⟩, w0, w1⟩, -⟩ := o1
    have ei : xp_i s f w = 12 * s.toInt.toNat + (4 * f.toInt.toNat + w.toInt.toNat) := rfl
    have ej : mp_i s f w = 16 * s.toInt.toNat + 4 + (4 * f.toInt.toNat + w.toInt.toNat) := rfl
    refine ⟨pw (s0 := s.toInt.toNat) (t0 := 4 * f.toInt.toNat + w.toInt.toNat) hJ (by omega) (by omega) (Or.inr (Or.inr ⟨rfl, ei, ej, by omega⟩)) hI, ?_⟩
    rw [so_I e1, so_I e2, mm_ne (fun z => by omega), mm_ne (fun z => by omega), ei, ej]
    have a2 := (((hJ.2.1 _ (.head _)).2.2 s.toInt.toNat (by omega)).1 (by show ((s.toInt.toNat : Nat) : Int) < (h.2.2.1 1 0).toInt; omega)).2 (4 * f.toInt.toNat + w.toInt.toNat) (by omega)
    simp only [Nat.zero_add, Nat.reduceAdd] at a2
    rw [a2]
/-! stone -/
theorem ss_n {h h1 : mm_h} {a b c N : Int32} {n : Nat} (q : rz h h1 (16 * n) 16) (hn : n ≤ 11) (x p : Nat) (z : ¬ (x = 78 ∧ (p = 1292 ∨ (16 * n ≤ p ∧ p < 16 * n + 16)))) (h0 : x ≠ 77) (w : Int32) : (mm_si (ms_H a b c n N h1) 77 0 w).2.2.1 x p = h.2.2.1 x p := by
  unfold ms_H
  rw [mm_ne (fun y => by omega), mm_ne (fun y => by omega), mm_ne (fun y => by omega), mm_ne (fun y => by omega), mm_ne (fun y => by omega)]
  exact q.2.1.2.2.2 x p (fun y => z ⟨y.1, Or.inr ⟨y.2.1, y.2.2⟩⟩)
theorem ss_z {h h1 : mm_h} {a b c N : Int32} {n : Nat} (q : rz h h1 (16 * n) 16) (hn : n ≤ 11) (t : Nat) (t0 : 3 ≤ t) (t1 : t < 16) (w : Int32) : (mm_si (ms_H a b c n N h1) 77 0 w).2.2.1 78 (16 * n + t) = Int32.ofInt 0 := by
  unfold ms_H
  rw [mm_ne (fun y => by omega), mm_ne (fun y => by omega), mm_ne (fun y => by omega), mm_ne (fun y => by omega), mm_ne (fun y => by omega)]
  exact q.2.2 t t1
theorem ss_N {h1 : mm_h} {a b c N : Int32} {n : Nat} (w : Int32) : (mm_si (ms_H a b c n N h1) 77 0 w).2.2.1 78 1292 = N + Int32.ofInt 1 := by
  unfold ms_H
  rw [mm_ne (fun y => by omega)]
  exact mm_eq
theorem ad_n {h : mm_h} {a b c u : Int32} (x p : Nat) (z : ¬ (x = 1 ∧ p = 0)) (y0 : x ≠ 0) (y2 : x ≠ 2) (y3 : x ≠ 3) (y4 : x ≠ 4) : (mm_si (ad_H a b c h) 0 14 u).2.2.1 x p = h.2.2.1 x p := by
  unfold ad_H
  rw [mm_ne (fun y => by omega), mm_ne z, mm_ne (fun y => by omega), mm_ne (fun y => by omega), mm_ne (fun y => by omega)]
theorem ad_N {h : mm_h} {a b c u : Int32} : (mm_si (ad_H a b c h) 0 14 u).2.2.1 1 0 = h.2.2.1 1 0 + Int32.ofInt 1 := by
  unfold ad_H
  rw [mm_ne (fun y => by omega)]
  exact mm_eq
theorem jj_stone {a b c v w : Int32} {h h1 h2 : mm_h} (hJ : iv_J h) (p1 : xs_P a b c h (some (mm_I v)) h1) (p2 : mst_P a b c h1 (some (mm_I w)) h2) (hI : iv_I h2) : iv_J h2 ∧ v.toInt = w.toInt := by
  obtain ⟨n0, n1⟩ := hJ.1.x.2.2.2.2.2.2.2.2.2
  have eN : h1.2.2.1 78 1292 = h.2.2.1 1 0 := by
    rcases p1 with ⟨-, -, rfl⟩ | ⟨-, -, -, rfl⟩ | ⟨-, -, -, rfl⟩
    · exact jj_N hJ
    · exact jj_N hJ
    · rw [ad_n 78 1292 (by decide) (by decide) (by decide) (by decide) (by decide)]
      exact hJ.N.symm
  unfold mst_P at p2
  rw [eN] at p2
  rcases p1 with ⟨m1, e1, rfl⟩ | ⟨o1, s1, e1, rfl⟩ | ⟨o1, s1, e1, rfl⟩ <;> rcases p2 with ⟨m2, e2, rfl⟩ | ⟨o2, s2, e2, rfl⟩ | ⟨o2, s2, e2, h3, q, rfl⟩
  · exact ⟨jj_ref hJ hI, by rw [so_I e1, so_I e2]⟩
  · exact absurd o2 m1
  · exact absurd o2 m1
  · exact absurd o1 m2
  · exact ⟨jj_ref hJ hI, by rw [so_I e1, so_I e2]⟩
  · exact absurd (by omega) s2
  · exact absurd o1 m2
  · exact absurd s2 (by omega)
  · refine ⟨?_, by rw [so_I e1, so_I e2]⟩
    have hn : (h.2.2.1 1 0).toInt.toNat ≤ 11 := by omega
    have F : ∀ x p, ¬ (x = 78 ∧ (p = 1292 ∨ (16 * (h.2.2.1 1 0).toInt.toNat ≤ p ∧ p < 16 * (h.2.2.1 1 0).toInt.toNat + 16))) → x ≠ 77 → ¬ (x = 1 ∧ p = 0) → x ≠ 0 → x ≠ 2 → x ≠ 3 → x ≠ 4 → (mm_si (ms_H a b c (h.2.2.1 1 0).toInt.toNat (h.2.2.1 1 0) h3) 77 0 0).2.2.1 x p = h.2.2.1 x p := fun x p z1 z2 z3 z4 z5 z6 z7 => (ss_n q hn x p z1 z2 0).trans (ad_n x p z3 z4 z5 z6 z7)
    have Z := fun t t0 t1 => ss_z (a := a) (b := b) (c := c) (N := h.2.2.1 1 0) q hn t t0 t1 0
    have M : (mm_si (ms_H a b c (h.2.2.1 1 0).toInt.toNat (h.2.2.1 1 0) h3) 77 0 0).2.2.1 78 1292 = h.2.2.1 1 0 + Int32.ofInt 1 := ss_N 0
    have X : (mm_si (ms_H a b c (h.2.2.1 1 0).toInt.toNat (h.2.2.1 1 0) h3) 77 0 0).2.2.1 1 0 = h.2.2.1 1 0 + Int32.ofInt 1 := (ss_n q hn 1 0 (by omega) (by decide) 0).trans ad_N
    generalize mm_si (ms_H a b c (h.2.2.1 1 0).toInt.toNat (h.2.2.1 1 0) h3) 77 0 0 = h2 at F Z M X hI ⊢
    have m1 : (h.2.2.1 1 0 + Int32.ofInt 1).toInt = (h.2.2.1 1 0).toInt + 1 := by rw [ck_addI (by rw [kt_1]; omega) (by rw [kt_1]; omega), kt_1]
    obtain ⟨-, al0, f⟩ := hJ
    have a0 := al0 _ (.head _)
    simp only [al, Nat.zero_add, Nat.reduceAdd] at a0
    obtain ⟨a1, a2, a3⟩ := a0
    have ke : ∀ x p, x ≠ 78 → x ≠ 77 → x ≠ 1 → x ≠ 0 → x ≠ 2 → x ≠ 3 → x ≠ 4 → h2.2.2.1 x p = h.2.2.1 x p := fun x p y1 y2 y3 y4 y5 y6 y7 => F x p (fun z => y1 z.1) y2 (fun z => y3 z.1) y4 y5 y6 y7
    refine ⟨hI, bl_all ?_ ((al0 _ (.tail _ (.head _))).mv (ke 16 0 (by decide) (by decide) (by decide) (by decide) (by decide) (by decide) (by decide)) (fun p _ => ke 20 p (by decide) (by decide) (by decide) (by decide) (by decide) (by decide) (by decide)) (fun p _ => ke 21 p (by decide) (by decide) (by decide) (by decide) (by decide) (by decide) (by decide)) (fun p _ => ke 22 p (by decide) (by decide) (by decide) (by decide) (by decide) (by decide) (by decide)) (fun q z => ke 79 _ (by decide) (by decide) (by decide) (by decide) (by decide) (by decide) (by decide))) ((al0 _ (.tail _ (.tail _ (.head _)))).mv (ke 30 0 (by decide) (by decide) (by decide) (by decide) (by decide) (by decide) (by decide)) (fun p _ => ke 34 p (by decide) (by decide) (by decide) (by decide) (by decide) (by decide) (by decide)) (fun p _ => ke 35 p (by decide) (by decide) (by decide) (by decide) (by decide) (by decide) (by decide)) (fun p _ => ke 36 p (by decide) (by decide) (by decide) (by decide) (by decide) (by decide) (by decide)) (fun q z => ke 79 _ (by decide) (by decide) (by decide) (by decide) (by decide) (by decide) (by decide))), fun k hk => by rw [ke 44 k (by decide) (by decide) (by decide) (by decide) (by decide) (by decide) (by decide), ke 80 k (by decide) (by decide) (by decide) (by decide) (by decide) (by decide) (by decide)]; exact f k hk⟩
    simp only [al, Nat.zero_add, Nat.reduceAdd]
    have k5 : ∀ p, h2.2.2.1 5 p = h.2.2.1 5 p := fun p => ke 5 p (by decide) (by decide) (by decide) (by decide) (by decide) (by decide) (by decide)
    have k6 : ∀ p, h2.2.2.1 6 p = h.2.2.1 6 p := fun p => ke 6 p (by decide) (by decide) (by decide) (by decide) (by decide) (by decide) (by decide)
    have k8 : ∀ p, p ≠ 1292 → ¬ (16 * (h.2.2.1 1 0).toInt.toNat ≤ p ∧ p < 16 * (h.2.2.1 1 0).toInt.toNat + 16) → h2.2.2.1 78 p = h.2.2.1 78 p := fun p y1 y2 => F 78 p (fun z => z.2.elim y1 y2) (by decide) (fun z => by omega) (by decide) (by decide) (by decide) (by decide)
    refine ⟨by rw [X, M], fun n hn' => by rw [ke 7 n (by decide) (by decide) (by decide) (by decide) (by decide) (by decide) (by decide), k8 _ (by omega) (by omega)]; exact a2 n hn', fun s hs => ⟨fun z => ?_, fun z => ?_⟩⟩
    · rw [X, m1] at z
      by_cases e : (s : Int) < (h.2.2.1 1 0).toInt
      · obtain ⟨y1, y2⟩ := (a3 s hs).1 e
        exact ⟨by rw [k5, k8 _ (by omega) (by omega)]; exact y1, fun t ht => by rw [k6, k8 _ (by omega) (by omega)]; exact y2 t ht⟩
      · obtain ⟨y1, y2⟩ := (a3 s hs).2 (by omega)
        have es : (h.2.2.1 1 0).toInt.toNat = s := by omega
        rw [es] at Z
        refine ⟨by rw [k5, y1, Z 3 (by decide) (by decide)], fun t ht => ?_⟩
        rw [k6, y2 t ht, show 16 * s + 4 + t = 16 * s + (4 + t) by omega, Z (4 + t) (by omega) (by omega)]
    · rw [X, m1] at z
      obtain ⟨y1, y2⟩ := (a3 s hs).2 (by omega)
      exact ⟨by rw [k5]; exact y1, fun t ht => by rw [k6]; exact y2 t ht⟩
/-! image, back -/
theorem cf.out {i j : Nat} {S : List (Nat × Nat × Nat)} {T : Nat} {h h' : mm_h} (q : cf i j S T h h') (c p : Nat) (hc : c < i ∨ i + 13 < c) : h'.2.2.1 c p = h.2.2.1 c p := q.2.2.2.2.1 c p (fun e he z => by
  have := q.2.2.2.2.2.2 e he
  omega)
theorem cf.got {i j : Nat} {h h' : mm_h} (q : cf i j cf_S 10 h h') : h'.2.2.1 i 0 = h.2.2.1 j 0 ∧ (∀ p, p < 12 → h'.2.2.1 (i + 4) p = h.2.2.1 (j + 4) p) ∧ (∀ p, p < 144 → h'.2.2.1 (i + 5) p = h.2.2.1 (j + 5) p) ∧ ∀ p, p < 12 → h'.2.2.1 (i + 6) p = h.2.2.1 (j + 6) p := by
  have g := q.2.2.2.2.2.1
  exact ⟨g (0, 0, 1) (by decide) 0 (Nat.le_refl _) (by decide), fun p hp => g (4, 0, 12) (by decide) p (Nat.zero_le _) (by show p < 0 + 12; omega), fun p hp => g (5, 0, 144) (by decide) p (Nat.zero_le _) (by show p < 0 + 144; omega), fun p hp => g (6, 0, 12) (by decide) p (Nat.zero_le _) (by show p < 0 + 12; omega)⟩
theorem cp_n {h : mm_h} {K : Nat} {c p : Nat} (z : ¬ (c = 79 ∧ K ≤ p ∧ p < K + 9310)) : (rr_cp h K 9310).2.2.1 c p = h.2.2.1 c p := if_neg z
theorem cp_y {h : mm_h} {K q : Nat} (z : q < 9310) : (rr_cp h K 9310).2.2.1 79 (K + q) = h.2.2.1 78 q := by
  show (if 79 = 79 ∧ K ≤ K + q ∧ K + q < K + 9310 then h.2.2.1 78 (K + q - K) else _) = _
  rw [if_pos ⟨rfl, by omega, by omega⟩, Nat.add_sub_cancel_left]
theorem bk_n {h : mm_h} {K : Nat} {c p : Nat} (z : c ≠ 78) : (rr_bk h K 9310).2.2.1 c p = h.2.2.1 c p := if_neg (fun y => z y.1)
theorem bk_y {h : mm_h} {K q : Nat} (z : q < 9310) : (rr_bk h K 9310).2.2.1 78 q = h.2.2.1 79 (K + q) := if_pos ⟨rfl, z⟩
theorem jj_image {k v w : Int32} {h h1 h2 : mm_h} (hJ : iv_J h) (p1 : xi_P k h (some (mm_I v)) h1) (p2 : mi_P k h1 (some (mm_I w)) h2) (hI : iv_I h2) : iv_J h2 ∧ v.toInt = w.toInt := by
  rcases p1 with ⟨m1, e1, rfl⟩ | ⟨o1, e1, hc, q, rfl⟩ <;> rcases p2 with ⟨m2, e2, rfl⟩ | ⟨o2, e2, rfl⟩
  · exact ⟨jj_ref hJ hI, by rw [so_I e1, so_I e2]⟩
  · exact absurd o2 m1
  · exact absurd o1 m2
  · refine ⟨?_, by rw [so_I e1, so_I e2]⟩
    obtain ⟨g0, g4, g5, g6⟩ := q.got
    have out := q.out
    have hk : (k.toInt.toNat = 0 ∧ ib k = 16) ∨ (k.toInt.toNat = 1 ∧ ib k = 30) := by
      unfold ib
      rcases (by omega : k.toInt.toNat = 0 ∨ k.toInt.toNat = 1) with e | e
      · exact Or.inl ⟨e, if_pos e⟩
      · exact Or.inr ⟨e, if_neg (by omega)⟩
    have hi : 16 ≤ ib k ∧ ib k ≤ 30 := by omega
    obtain ⟨-, a, f⟩ := hJ
    generalize ib k = i at hk hi g0 g4 g5 g6 out
    generalize k.toInt.toNat = n at hk hI ⊢
    have F : ∀ c p, c ≠ 77 → c ≠ 0 → c ≠ 44 → c ≠ 80 → ¬ (c = 79 ∧ 9310 * n ≤ p ∧ p < 9310 * n + 9310) → (mm_si (mm_si (rr_cp (mm_si (mm_si hc 44 n (vp_nar .boolean (Int32.ofInt 1))) 0 14 (Int32.ofInt 0)) (9310 * n) 9310) 80 n (vp_nar .boolean (Int32.ofInt 1))) 77 0 0).2.2.1 c p = hc.2.2.1 c p := fun c p y1 y2 y3 y4 y5 => by
      rw [mm_ne (fun z => y1 z.1), mm_ne (fun z => y4 z.1), cp_n y5, mm_ne (fun z => y2 z.1), mm_ne (fun z => y3 z.1)]
    have G : ∀ x, x < 9310 → (mm_si (mm_si (rr_cp (mm_si (mm_si hc 44 n (vp_nar .boolean (Int32.ofInt 1))) 0 14 (Int32.ofInt 0)) (9310 * n) 9310) 80 n (vp_nar .boolean (Int32.ofInt 1))) 77 0 0).2.2.1 79 (9310 * n + x) = h.2.2.1 78 x := fun x hx => by
      rw [mm_ne (fun z => by omega), mm_ne (fun z => by omega), cp_y hx, mm_ne (fun z => by omega), mm_ne (fun z => by omega)]
      exact out 78 x (by omega)
    have T4 : ∀ p, (mm_si (mm_si (rr_cp (mm_si (mm_si hc 44 n (vp_nar .boolean (Int32.ofInt 1))) 0 14 (Int32.ofInt 0)) (9310 * n) 9310) 80 n (vp_nar .boolean (Int32.ofInt 1))) 77 0 0).2.2.1 44 p = if p = n then vp_nar .boolean (Int32.ofInt 1) else h.2.2.1 44 p := fun p => by
      rw [mm_ne (fun z => by omega), mm_ne (fun z => by omega), cp_n (fun z => by omega), mm_ne (fun z => by omega)]
      show (if 44 = 44 ∧ p = n then _ else hc.2.2.1 44 p) = _
      by_cases e : p = n
      · rw [if_pos ⟨rfl, e⟩, if_pos e]
      · rw [if_neg (fun z => e z.2), if_neg e]
        exact out 44 p (by omega)
    have T8 : ∀ p, (mm_si (mm_si (rr_cp (mm_si (mm_si hc 44 n (vp_nar .boolean (Int32.ofInt 1))) 0 14 (Int32.ofInt 0)) (9310 * n) 9310) 80 n (vp_nar .boolean (Int32.ofInt 1))) 77 0 0).2.2.1 80 p = if p = n then vp_nar .boolean (Int32.ofInt 1) else h.2.2.1 80 p := fun p => by
      rw [mm_ne (fun z => by omega)]
      show (if 80 = 80 ∧ p = n then _ else (rr_cp _ _ _).2.2.1 80 p) = _
      by_cases e : p = n
      · rw [if_pos ⟨rfl, e⟩, if_pos e]
      · rw [if_neg (fun z => e z.2), if_neg e, cp_n (fun z => by omega), mm_ne (fun z => by omega), mm_ne (fun z => by omega)]
        exact out 80 p (by omega)
    generalize mm_si (mm_si (rr_cp (mm_si (mm_si hc 44 n (vp_nar .boolean (Int32.ofInt 1))) 0 14 (Int32.ofInt 0)) (9310 * n) 9310) 80 n (vp_nar .boolean (Int32.ofInt 1))) 77 0 0 = h2 at F G T4 T8 hI ⊢
    have ke : ∀ c p, c ≠ 77 → c ≠ 0 → c ≠ 44 → c ≠ 80 → ¬ (c = 79 ∧ 9310 * n ≤ p ∧ p < 9310 * n + 9310) → (c < i ∨ i + 13 < c) → h2.2.2.1 c p = h.2.2.1 c p := fun c p y1 y2 y3 y4 y5 y6 => (F c p y1 y2 y3 y4 y5).trans (out c p y6)
    refine ⟨hI, ?_, fun x hx => by rw [T4, T8, f x hx]⟩
    have b0 : al h2 1 78 0 := (a _ (.head _)).mv (ke 1 0 (by decide) (by decide) (by decide) (by decide) (by omega) (by omega)) (fun p _ => ke 5 p (by decide) (by decide) (by decide) (by decide) (by omega) (by omega)) (fun p _ => ke 6 p (by decide) (by decide) (by decide) (by decide) (by omega) (by omega)) (fun p _ => ke 7 p (by decide) (by decide) (by decide) (by decide) (by omega) (by omega)) (fun x z => ke 78 _ (by decide) (by decide) (by decide) (by decide) (by omega) (by omega))
    have bi : al h2 i 79 (9310 * n) := (a _ (.head _)).mv ((F i 0 (by omega) (by omega) (by omega) (by omega) (by omega)).trans g0) (fun p hp => (F (i + 4) p (by omega) (by omega) (by omega) (by omega) (by omega)).trans (g4 p hp)) (fun p hp => (F (i + 5) p (by omega) (by omega) (by omega) (by omega) (by omega)).trans (g5 p hp)) (fun p hp => (F (i + 6) p (by omega) (by omega) (by omega) (by omega) (by omega)).trans (g6 p hp)) (fun x z => by
      rw [G x (by have := jm_lt z; omega)]
      show _ = h.2.2.1 78 (0 + x)
      rw [Nat.zero_add])
    rcases hk with ⟨rfl, rfl⟩ | ⟨rfl, rfl⟩
    · exact bl_all b0 bi ((a _ (.tail _ (.tail _ (.head _)))).mv (ke 30 0 (by decide) (by decide) (by decide) (by decide) (by omega) (by omega)) (fun p _ => ke 34 p (by decide) (by decide) (by decide) (by decide) (by omega) (by omega)) (fun p _ => ke 35 p (by decide) (by decide) (by decide) (by decide) (by omega) (by omega)) (fun p _ => ke 36 p (by decide) (by decide) (by decide) (by decide) (by omega) (by omega)) (fun x z => ke 79 (9310 + x) (by decide) (by decide) (by decide) (by decide) (by omega) (by omega)))
    · exact bl_all b0 ((a _ (.tail _ (.head _))).mv (ke 16 0 (by decide) (by decide) (by decide) (by decide) (by omega) (by omega)) (fun p _ => ke 20 p (by decide) (by decide) (by decide) (by decide) (by omega) (by omega)) (fun p _ => ke 21 p (by decide) (by decide) (by decide) (by decide) (by omega) (by omega)) (fun p _ => ke 22 p (by decide) (by decide) (by decide) (by decide) (by omega) (by omega)) (fun x z => ke 79 (0 + x) (by decide) (by decide) (by decide) (by decide) (by have := jm_lt z; omega) (by omega))) bi
theorem jj_back {k v w : Int32} {h h1 h2 : mm_h} (hJ : iv_J h) (p1 : xb_P k h (some (mm_I v)) h1) (p2 : mb_P k h1 (some (mm_I w)) h2) (hI : iv_I h2) : iv_J h2 ∧ v.toInt = w.toInt := by
  have e8 : (0 ≤ k.toInt ∧ k.toInt ≤ 1) → h1.2.2.1 80 k.toInt.toNat = h.2.2.1 44 k.toInt.toNat := fun hk => by
    rw [hJ.2.2 k.toInt.toNat (by omega)]
    rcases p1 with ⟨-, -, rfl⟩ | ⟨-, -, -, rfl⟩ | ⟨-, -, -, hc, q, rfl⟩
    · exact mm_ne (fun z => by omega)
    · exact mm_ne (fun z => by omega)
    · rw [mm_ne (fun z => by omega)]
      exact q.out 80 _ (by omega)
  rcases p1 with ⟨m1, e1, rfl⟩ | ⟨o1, s1, e1, rfl⟩ | ⟨o1, s1, e1, hc, q, rfl⟩ <;> rcases p2 with ⟨m2, e2, rfl⟩ | ⟨o2, s2, e2, rfl⟩ | ⟨o2, s2, e2, rfl⟩
  · exact ⟨jj_ref hJ hI, by rw [so_I e1, so_I e2]⟩
  · exact absurd o2 m1
  · exact absurd o2 m1
  · exact absurd o1 m2
  · exact ⟨jj_ref hJ hI, by rw [so_I e1, so_I e2]⟩
  · exact absurd ((e8 o1).trans s1) s2
  · exact absurd o1 m2
  · exact absurd ((e8 o1).symm.trans s2) s1
  · refine ⟨?_, by rw [so_I e1, so_I e2]⟩
    obtain ⟨g0, g4, g5, g6⟩ := q.got
    have out := q.out
    have hk : (k.toInt.toNat = 0 ∧ ib k = 16) ∨ (k.toInt.toNat = 1 ∧ ib k = 30) := by
      unfold ib
      rcases (by omega : k.toInt.toNat = 0 ∨ k.toInt.toNat = 1) with e | e
      · exact Or.inl ⟨e, if_pos e⟩
      · exact Or.inr ⟨e, if_neg (by omega)⟩
    obtain ⟨-, a, f⟩ := hJ
    have ai : al h (ib k) 79 (9310 * k.toInt.toNat) := by
      rcases hk with ⟨e1, e2⟩ | ⟨e1, e2⟩
      · rw [e1, e2]
        exact a _ (.tail _ (.head _))
      · rw [e1, e2]
        exact a _ (.tail _ (.tail _ (.head _)))
    generalize ib k = i at hk g0 g4 g5 g6 ai
    generalize k.toInt.toNat = n at hk hI ai ⊢
    have F : ∀ c p, c ≠ 77 → c ≠ 0 → c ≠ 78 → (mm_si (rr_bk (mm_si hc 0 14 (Int32.ofInt 0)) (9310 * n) 9310) 77 0 0).2.2.1 c p = hc.2.2.1 c p := fun c p y1 y2 y3 => by
      rw [mm_ne (fun z => y1 z.1), bk_n y3, mm_ne (fun z => y2 z.1)]
    have G : ∀ x, x < 9310 → (mm_si (rr_bk (mm_si hc 0 14 (Int32.ofInt 0)) (9310 * n) 9310) 77 0 0).2.2.1 78 x = h.2.2.1 79 (9310 * n + x) := fun x hx => by
      rw [mm_ne (fun z => by omega), bk_y hx, mm_ne (fun z => by omega)]
      exact out 79 _ (by omega)
    generalize mm_si (rr_bk (mm_si hc 0 14 (Int32.ofInt 0)) (9310 * n) 9310) 77 0 0 = h2 at F G hI ⊢
    have ke : ∀ c p, c ≠ 77 → c ≠ 78 → 14 < c → h2.2.2.1 c p = h.2.2.1 c p := fun c p y1 y2 y3 => (F c p y1 (by omega) y2).trans (out c p (by omega))
    have b0 : al h2 1 78 0 := ai.mv ((F 1 0 (by decide) (by decide) (by decide)).trans g0) (fun p hp => (F 5 p (by decide) (by decide) (by decide)).trans (g4 p hp)) (fun p hp => (F 6 p (by decide) (by decide) (by decide)).trans (g5 p hp)) (fun p hp => (F 7 p (by decide) (by decide) (by decide)).trans (g6 p hp)) (fun x z => by
      rw [Nat.zero_add]
      exact G x (by have := jm_lt z; omega))
    exact ⟨hI, bl_all b0 ((a _ (.tail _ (.head _))).mv (ke 16 0 (by decide) (by decide) (by decide)) (fun p _ => ke 20 p (by decide) (by decide) (by decide)) (fun p _ => ke 21 p (by decide) (by decide) (by decide)) (fun p _ => ke 22 p (by decide) (by decide) (by decide)) (fun x _ => ke 79 _ (by decide) (by decide) (by decide))) ((a _ (.tail _ (.tail _ (.head _)))).mv (ke 30 0 (by decide) (by decide) (by decide)) (fun p _ => ke 34 p (by decide) (by decide) (by decide)) (fun p _ => ke 35 p (by decide) (by decide) (by decide)) (fun p _ => ke 36 p (by decide) (by decide) (by decide)) (fun x _ => ke 79 _ (by decide) (by decide) (by decide))), fun x hx => by rw [ke 44 x (by decide) (by decide) (by decide), ke 80 x (by decide) (by decide) (by decide)]; exact f x hx⟩
/-! at the beginning -/
def lw_z1 : ab_D := [((1, (0, 1, 1)), .inl (0, 0)), ((5, (0, 1, 12)), .inl (0, 0)), ((6, (0, 1, 144)), .inl (0, 0)), ((7, (0, 1, 12)), .inl (0, 0)), ((16, (0, 1, 1)), .inl (0, 0)), ((20, (0, 1, 12)), .inl (0, 0)), ((21, (0, 1, 144)), .inl (0, 0)), ((22, (0, 1, 12)), .inl (0, 0)), ((30, (0, 1, 1)), .inl (0, 0)), ((34, (0, 1, 12)), .inl (0, 0)), ((35, (0, 1, 144)), .inl (0, 0)), ((36, (0, 1, 12)), .inl (0, 0)), ((44, (0, 1, 2)), .inl (0, 0)), ((78, (1292, 1, 1)), .inl (0, 0)), ((78, (192, 1, 12)), .inl (0, 0)), ((79, (0, 1, 18620)), .inl (0, 0)), ((80, (0, 1, 2)), .inl (0, 0))]
theorem z_0 {v : Int32} (h : 0 ≤ v.toInt ∧ v.toInt ≤ 0) : v = Int32.ofInt 0 := Int32.toInt.inj (by rw [kt_0]; omega)
theorem al_0 {h : mm_h} {o c b : Nat} (e0 : h.2.2.1 o 0 = Int32.ofInt 0) (e4 : ∀ p, p < 12 → h.2.2.1 (o + 4) p = Int32.ofInt 0) (e5 : ∀ p, p < 144 → h.2.2.1 (o + 5) p = Int32.ofInt 0) (e6 : ∀ p, p < 12 → h.2.2.1 (o + 6) p = Int32.ofInt 0) (f1 : h.2.2.1 c (b + 1292) = Int32.ofInt 0) (f2 : ∀ n, n < 12 → h.2.2.1 c (b + (192 + n)) = Int32.ofInt 0) : al h o c b := by
  refine ⟨by rw [e0, f1], fun n hn => by rw [e6 n hn, f2 n hn], fun s hs => ⟨fun z => ?_, fun _ => ⟨e4 s hs, fun t ht => e5 _ (by omega)⟩⟩⟩
  rw [e0, kt_0] at z
  omega
theorem jz {h : mm_h} (g : ab_gd gk_G h lw_z1) : (∀ q ∈ bl, al h q.1 q.2.1 q.2.2) ∧ ∀ k, k < 2 → h.2.2.1 44 k = h.2.2.1 80 k := by
  have k9 : ∀ p, p < 18620 → h.2.2.1 79 p = Int32.ofInt 0 := fun p hp => z_0 (g.row (.tail _ (.tail _ (.tail _ (.tail _ (.tail _ (.tail _ (.tail _ (.tail _ (.tail _ (.tail _ (.tail _ (.tail _ (.tail _ (.tail _ (.tail _ (.head _)))))))))))))))) p hp)
  refine ⟨bl_all (al_0 (z_0 (g.num (.head _))) (fun p hp => z_0 (g.row (.tail _ (.head _)) p hp)) (fun p hp => z_0 (g.row (.tail _ (.tail _ (.head _))) p hp)) (fun p hp => z_0 (g.row (.tail _ (.tail _ (.tail _ (.head _)))) p hp)) (z_0 (g.num (.tail _ (.tail _ (.tail _ (.tail _ (.tail _ (.tail _ (.tail _ (.tail _ (.tail _ (.tail _ (.tail _ (.tail _ (.tail _ (.head _)))))))))))))))) (fun n hn => ?_)) (al_0 (z_0 (g.num (.tail _ (.tail _ (.tail _ (.tail _ (.head _))))))) (fun p hp => z_0 (g.row (.tail _ (.tail _ (.tail _ (.tail _ (.tail _ (.head _)))))) p hp)) (fun p hp => z_0 (g.row (.tail _ (.tail _ (.tail _ (.tail _ (.tail _ (.tail _ (.head _))))))) p hp)) (fun p hp => z_0 (g.row (.tail _ (.tail _ (.tail _ (.tail _ (.tail _ (.tail _ (.tail _ (.head _)))))))) p hp)) (k9 (0 + 1292) (by decide)) (fun n hn => k9 (0 + (192 + n)) (by omega))) (al_0 (z_0 (g.num (.tail _ (.tail _ (.tail _ (.tail _ (.tail _ (.tail _ (.tail _ (.tail _ (.head _))))))))))) (fun p hp => z_0 (g.row (.tail _ (.tail _ (.tail _ (.tail _ (.tail _ (.tail _ (.tail _ (.tail _ (.tail _ (.head _)))))))))) p hp)) (fun p hp => z_0 (g.row (.tail _ (.tail _ (.tail _ (.tail _ (.tail _ (.tail _ (.tail _ (.tail _ (.tail _ (.tail _ (.head _))))))))))) p hp)) (fun p hp => z_0 (g.row (.tail _ (.tail _ (.tail _ (.tail _ (.tail _ (.tail _ (.tail _ (.tail _ (.tail _ (.tail _ (.tail _ (.head _)))))))))))) p hp)) (k9 (9310 + 1292) (by decide)) (fun n hn => k9 (9310 + (192 + n)) (by omega))), fun k hk => ?_⟩
  · have q := z_0 (g.nums (.tail _ (.tail _ (.tail _ (.tail _ (.tail _ (.tail _ (.tail _ (.tail _ (.tail _ (.tail _ (.tail _ (.tail _ (.tail _ (.tail _ (.head _))))))))))))))) n hn)
    rw [Nat.one_mul] at q
    show h.2.2.1 78 (0 + (192 + n)) = _
    rw [Nat.zero_add]
    exact q
  · rw [z_0 (g.row (.tail _ (.tail _ (.tail _ (.tail _ (.tail _ (.tail _ (.tail _ (.tail _ (.tail _ (.tail _ (.tail _ (.tail _ (.head _))))))))))))) k hk), z_0 (g.row (.tail _ (.tail _ (.tail _ (.tail _ (.tail _ (.tail _ (.tail _ (.tail _ (.tail _ (.tail _ (.tail _ (.tail _ (.tail _ (.tail _ (.tail _ (.tail _ (.head _))))))))))))))))) k hk)]
