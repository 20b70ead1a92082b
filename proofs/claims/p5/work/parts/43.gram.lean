/-! the grammar of a text's codes, as parser and evaluator go through it -/
/-- items with a sign of op between them: what follows an item -/
def gg_tN (f : Nat → Int) (I : Nat → Nat → Prop) (op : Int → Prop) : Nat → Nat → Nat → Prop
  | 0, _, _ => False
  | n + 1, m, q => (¬ op (f m) ∧ q = m) ∨ (op (f m) ∧ ∃ m', I (m + 1) m' ∧ gg_tN f I op n m' q)
def gg_t (f : Nat → Int) (I : Nat → Nat → Prop) (op : Int → Prop) (m q : Nat) : Prop := ∃ n, gg_tN f I op n m q
def gg_s (f : Nat → Int) (I : Nat → Nat → Prop) (op : Int → Prop) (p q : Nat) : Prop := ∃ m, I p m ∧ gg_t f I op m q
theorem gg_t.nil {f : Nat → Int} {I : Nat → Nat → Prop} {op : Int → Prop} {m : Nat} (h : ¬ op (f m)) : gg_t f I op m m := ⟨1, Or.inl ⟨h, rfl⟩⟩
theorem gg_t.cons {f : Nat → Int} {I : Nat → Nat → Prop} {op : Int → Prop} {m m' q : Nat} (h : op (f m)) (hi : I (m + 1) m') (ht : gg_t f I op m' q) : gg_t f I op m q := ht.elim fun n hn => ⟨n + 1, Or.inr ⟨h, m', hi, hn⟩⟩
def gg_leaf (f : Nat → Int) (p q : Nat) : Prop := (f p = 50 ∨ (11 ≤ f p ∧ f p ≤ 18)) ∧ q = p + 1
def gg_mul (z : Int) : Prop := z = 142 ∨ z = 147
def gg_add (z : Int) : Prop := z = 143 ∨ z = 145
def gg_part (f : Nat → Int) : Nat → Nat → Nat → Prop
  | 0, p, q => gg_leaf f p q
  | d + 1, p, q => gg_leaf f p q ∨ (f p = 191 ∧ ∃ m, gg_s f (gg_s f (gg_part f d) gg_mul) gg_add (p + 1) m ∧ f m = 193 ∧ q = m + 1)
def gg_term (f : Nat → Int) (d : Nat) : Nat → Nat → Prop := gg_s f (gg_part f d) gg_mul
def gg_sum (f : Nat → Int) (d : Nat) : Nat → Nat → Prop := gg_s f (gg_term f d) gg_add
def gg_cmp (f : Nat → Int) (d : Nat) (p q : Nat) : Prop := f p ≠ 140 ∧ ∃ m, gg_sum f d p m ∧ (f m = 160 ∨ f m = 161 ∨ f m = 162) ∧ gg_sum f d (m + 1) q
/-- several times "not" ahead -/
def gg_nots (f : Nat → Int) (I : Nat → Nat → Prop) (p q : Nat) : Prop := ∃ j, (∀ i, i < j → f (p + i) = 10) ∧ f (p + j) ≠ 10 ∧ I (p + j) q
def gg_and (z : Int) : Prop := z = 9
def gg_or (z : Int) : Prop := z = 8
def gg_plain (f : Nat → Int) : Nat → Nat → Nat → Prop
  | 0, p, q => gg_nots f (gg_cmp f 0) p q
  | d + 1, p, q => gg_nots f (fun p q => gg_cmp f (d + 1) p q ∨ (f p = 140 ∧ ∃ m, gg_s f (gg_s f (gg_plain f d) gg_and) gg_or (p + 1) m ∧ f m = 141 ∧ q = m + 1)) p q
def gg_both (f : Nat → Int) (d : Nat) : Nat → Nat → Prop := gg_s f (gg_plain f d) gg_and
def gg_test (f : Nat → Int) (d : Nat) : Nat → Nat → Prop := gg_s f (gg_both f d) gg_or
def gg_rung (f : Nat → Int) (p q : Nat) : Prop := f p = 1 ∧ f (p + 1) = 50 ∧ f (p + 2) = 2 ∧ f (p + 3) = 50 ∧ q = p + 4
def gg_head (f : Nat → Int) (p m : Nat) : Prop := ((f p = 5 ∨ f p = 6) ∧ gg_sum f 8 (p + 1) m) ∨ ((f p = 3 ∨ f p = 4) ∧ m = p + 1)
def gg_if (f : Nat → Int) (m q : Nat) : Prop := (f m ≠ 7 ∧ q = m) ∨ (f m = 7 ∧ gg_test f 8 (m + 1) q)
def gg_clause (f : Nat → Int) (p q : Nat) : Prop := gg_rung f p q ∨ ∃ m, gg_head f p m ∧ gg_if f m q
/-- at most k clauses from p on, up to n -/
def gg_text (f : Nat → Int) (n : Nat) : Nat → Nat → Prop
  | 0, _ => False
  | k + 1, p => ∃ m, gg_clause f p m ∧ (m = n ∨ (m < n ∧ f m = 159 ∧ gg_text f n k (m + 1)))
/-! the parser's state -/
def pj_F (c p : Nat) : Prop := c = 77 ∧ 13 ≤ p ∧ p ≤ 15
def pj_ok (h : mm_h) (n t : Nat) : Prop := rr_A h ∧ n ≤ 400 ∧ (h.2.2.1 77 12).toInt = n ∧ h.2.2.1 84 n = 0 ∧ (∀ k, k ≤ n → 0 ≤ (h.2.2.1 86 k).toInt) ∧ (h.2.2.1 77 13).toInt = t ∧ t ≤ n
def pj_f (h : mm_h) (n k : Nat) : Int := if k < n then (h.2.2.1 84 k).toInt else 0
def pj_fine (h : mm_h) : Prop := (h.2.2.1 77 15).toInt = -1
/-- from h to h', reading what R says if all was fine -/
def pj_P (R : (Nat → Int) → Nat → Nat → Prop) (h h' : mm_h) : Prop := rr_fr pj_F h h' ∧ ∀ n t, pj_ok h n t → ∃ t', pj_ok h' n t' ∧ t ≤ t' ∧ (pj_fine h' → pj_fine h ∧ R (pj_f h n) t t')
theorem kz0 : (0 : Int32).toInt = 0 := by decide
theorem pj_ok.at {h : mm_h} {n t : Nat} (hp : pj_ok h n t) : (h.2.2.1 84 t).toInt = pj_f h n t := by
  unfold pj_f
  by_cases c : t < n
  · rw [if_pos c]
  · have e : t = n := by have := hp.2.2.2.2.2.2; omega
    rw [if_neg c, e, hp.2.2.2.1]
    exact kz0
theorem pj_ok.lt {h : mm_h} {n t : Nat} (hp : pj_ok h n t) (hc : pj_f h n t ≠ 0) : t < n := by
  by_cases c : t < n
  · exact c
  · unfold pj_f at hc
    rw [if_neg c] at hc
    exact absurd rfl hc
theorem pj_ok.fr {h h' : mm_h} {n t t' : Nat} (hp : pj_ok h n t) (f : rr_fr pj_F h h') (ht : (h'.2.2.1 77 13).toInt = t') (hn : t' ≤ n) : pj_ok h' n t' := by
  obtain ⟨a, b, c, d, e, -, -⟩ := hp
  refine ⟨f.A a, b, ?_, ?_, fun k hk => ?_, ht, hn⟩
  · rw [f.2.2.2 77 12 (by unfold pj_F; omega)]; exact c
  · rw [f.2.2.2 84 n (by unfold pj_F; omega)]; exact d
  · rw [f.2.2.2 86 k (by unfold pj_F; omega)]; exact e k hk
theorem rr_fr.pjf {h h' : mm_h} (f : rr_fr pj_F h h') (n : Nat) : pj_f h' n = pj_f h n := by
  funext k
  unfold pj_f
  rw [f.2.2.2 84 k (by unfold pj_F; omega)]
theorem pj_P.rf {h : mm_h} : pj_P (fun _ t t' => t' = t) h h := ⟨rr_fr.rf, fun n t hp => ⟨t, hp, Nat.le_refl _, fun q => ⟨q, rfl⟩⟩⟩
theorem pj_P.tr {R S : (Nat → Int) → Nat → Nat → Prop} {h h1 h2 : mm_h} (a : pj_P R h h1) (b : pj_P S h1 h2) : pj_P (fun f t t' => ∃ m, R f t m ∧ S f m t') h h2 := by
  refine ⟨a.1.tr b.1, fun n t hp => ?_⟩
  obtain ⟨t1, p1, l1, g1⟩ := a.2 n t hp
  obtain ⟨t2, p2, l2, g2⟩ := b.2 n t1 p1
  refine ⟨t2, p2, Nat.le_trans l1 l2, fun q => ?_⟩
  obtain ⟨q1, r1⟩ := g2 q
  obtain ⟨q0, r0⟩ := g1 q1
  rw [a.1.pjf] at r1
  exact ⟨q0, t1, r0, r1⟩
theorem pj_P.mono {R S : (Nat → Int) → Nat → Nat → Prop} {h h' : mm_h} (a : pj_P R h h') (hRS : ∀ f t t', R f t t' → S f t t') : pj_P S h h' := ⟨a.1, fun n t hp => by
  obtain ⟨t1, p1, l1, g1⟩ := a.2 n t hp
  exact ⟨t1, p1, l1, fun q => ⟨(g1 q).1, hRS _ _ _ (g1 q).2⟩⟩⟩
/-- a fault, whatever was to be read -/
theorem pj_P.bad {R : (Nat → Int) → Nat → Nat → Prop} {h h' : mm_h} (f : rr_fr pj_F h h') (ht : h'.2.2.1 77 13 = h.2.2.1 77 13) (hb : ¬ pj_fine h') : pj_P R h h' := ⟨f, fun n t hp => ⟨t, hp.fr f (by rw [ht]; exact hp.2.2.2.2.2.1) hp.2.2.2.2.2.2, Nat.le_refl _, fun q => absurd q hb⟩⟩
/-- faulty already: nothing is read -/
theorem pj_P.off {R : (Nat → Int) → Nat → Nat → Prop} {h : mm_h} (hb : ¬ pj_fine h) : pj_P R h h := pj_P.bad rr_fr.rf rfl hb
theorem pj_P.okE {R : (Nat → Int) → Nat → Nat → Prop} {h h' : mm_h} (a : pj_P R h h') (ho : ∃ n t, pj_ok h n t) : ∃ n t, pj_ok h' n t := by
  obtain ⟨n, t, hp⟩ := ho
  obtain ⟨t', p, -⟩ := a.2 n t hp
  exact ⟨n, t', p⟩
theorem pj_P.one {h : mm_h} {c : Int} {n t : Nat} (hp : pj_ok h n t) (hq : pj_f h n t = c) (hc : c ≠ 0) (y : Int32) (hy : y.toInt = t + 1) : pj_P (fun f t t' => f t = c ∧ t' = t + 1) h (mm_si h 77 13 y) := by
  refine ⟨rr_fr.rf.si _ _ _ ⟨rfl, by decide, by decide⟩, fun n' t' hp' => ?_⟩
  have e1 : t' = t := by
    have a := hp.2.2.2.2.2.1
    have b := hp'.2.2.2.2.2.1
    omega
  have e2 : n' = n := by
    have a := hp.2.2.1
    have b := hp'.2.2.1
    omega
  subst e1
  subst e2
  have hl := hp.lt (by rw [hq]; exact hc)
  refine ⟨t' + 1, hp.fr (rr_fr.rf.si _ _ _ ⟨rfl, by decide, by decide⟩) ?_ hl, Nat.le_succ _, fun q => ⟨?_, hq, rfl⟩⟩
  · simp only [mm_si_i, and_self, ↓reduceIte]
    exact hy
  · unfold pj_fine at q ⊢
    simp only [mm_si_i, Nat.reduceEqDiff, and_false, ↓reduceIte] at q
    exact q
