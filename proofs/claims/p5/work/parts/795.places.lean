/-! places on which class and reference are held against each other -/
def jm (p : Nat) : Bool := (decide (p < 192) && decide (3 ≤ p % 16)) || (decide (192 ≤ p) && decide (p < 204)) || p == 1292
def jp (c p : Nat) : Bool := ((c == 1 || c == 16 || c == 30) && p == 0) || (c == 5 || c == 6 || c == 7) || (c == 20 || c == 21 || c == 22) || (c == 34 || c == 35 || c == 36) || (c == 44 || c == 80) || (c == 78 && jm p) || (c == 79 && (jm p || (decide (9310 ≤ p) && jm (p - 9310))))
def jn (c p : Nat) : Bool := jp c p || (c == 1 && p == 11)
theorem jp_jn (c p : Nat) (z : jp c p = true) : jn c p = true := by unfold jn; rw [z]; rfl
/-- the numbers there are the same -/
def jk (P : Nat → Nat → Bool) (h h' : mm_h) : Prop := ∀ c p, P c p = true → h'.2.2.1 c p = h.2.2.1 c p
theorem jk.rf {P : Nat → Nat → Bool} {h : mm_h} : jk P h h := fun _ _ _ => rfl
theorem jk.tr {P : Nat → Nat → Bool} {h h1 h2 : mm_h} (a : jk P h h1) (b : jk P h1 h2) : jk P h h2 := fun c p z => (b c p z).trans (a c p z)
theorem jk.lo {h h' : mm_h} (a : jk jn h h') : jk jp h h' := fun c p z => a c p (jp_jn c p z)
theorem jk.si {P : Nat → Nat → Bool} {h h1 : mm_h} (a : jk P h h1) {i k : Nat} {v : Int32} (hn : P i k = false) : jk P h (mm_si h1 i k v) := fun c p z => by
  show (if c = i ∧ p = k then v else h1.2.2.1 c p) = _
  rw [if_neg (fun q => by rw [q.1, q.2, hn] at z; cases z)]
  exact a c p z
theorem jk.sr {P : Nat → Nat → Bool} {h h1 : mm_h} (a : jk P h h1) {i k : Nat} {r : Option Nat} : jk P h (mm_sr h1 i k r) := fun c p z => a c p z
theorem jn_cl {c p : Nat} (h : jn c p = true) : c = 1 ∨ c = 5 ∨ c = 6 ∨ c = 7 ∨ c = 16 ∨ c = 20 ∨ c = 21 ∨ c = 22 ∨ c = 30 ∨ c = 34 ∨ c = 35 ∨ c = 36 ∨ c = 44 ∨ c = 78 ∨ c = 79 ∨ c = 80 := by
  simp only [jn, jp, Bool.or_eq_true, Bool.and_eq_true, beq_iff_eq] at h
  omega
theorem jn_lt {c p : Nat} (h : jn c p = true) : c < 101 := by
  have := jn_cl h
  omega
theorem jk.ext {h0 h h' : mm_h} (a : jk jn h0 h) (x : mm_ext h h') (hl : 101 ≤ h.1) : jk jn h0 h' := a.tr (fun c p z => (x.2 c (Nat.lt_of_lt_of_le (jn_lt z) hl)).2.1 p)
def jcl (c : Nat) : Bool := [1, 5, 6, 7, 16, 20, 21, 22, 30, 34, 35, 36, 44, 78, 79, 80].elem c
theorem jn_jcl {c p : Nat} (h : jn c p = true) : jcl c = true := by
  rcases jn_cl h with rfl | rfl | rfl | rfl | rfl | rfl | rfl | rfl | rfl | rfl | rfl | rfl | rfl | rfl | rfl | rfl <;> rfl
/-- none of them is written -/
def jw (P : Nat → Nat → Bool) (wr : List (Nat × ab_P)) : Bool := wr.all fun w => !(jcl w.1) || (List.range w.2.2.2).all fun t => !(P w.1 (w.2.1 + w.2.2.1 * t))
theorem jk.fr {P : Nat → Nat → Bool} (hP : ∀ c p, P c p = true → jn c p = true) {wr : List (Nat × ab_P)} {h h' : mm_h} (f : ab_fr wr h h') (hl : 101 ≤ h.1) (hw : jw P wr = true) : jk P h h' := fun c p z => (f.2 c p (Nat.lt_of_lt_of_le (jn_lt (hP c p z)) hl) (fun w hm e hk => by
  have h1 := List.all_eq_true.mp hw w hm
  rw [Bool.or_eq_true] at h1
  rcases h1 with h1 | h1
  · rw [e, jn_jcl (hP c p z)] at h1
    exact absurd h1 (by decide)
  · obtain ⟨t, ht, e2⟩ := hk
    have h2 := List.all_eq_true.mp h1 t (List.mem_range.mpr ht)
    rw [e, ← e2, z] at h2
    exact absurd h2 (by decide))).1
theorem jk.rr {P : Nat → Nat → Bool} {F : Nat → Nat → Prop} {h h' : mm_h} (f : rr_fr F h h') (hn : ∀ c p, P c p = true → ¬ F c p) : jk P h h' := fun c p z => f.2.2.2 c p (hn c p z)
