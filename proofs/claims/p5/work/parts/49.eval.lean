/-! the grammar says one end alone -/
theorem gg_tN.fn {f : Nat → Int} {I : Nat → Nat → Prop} {op : Int → Prop} (hI : ∀ p q q', I p q → I p q' → q = q') : ∀ (n n' m q q' : Nat), gg_tN f I op n m q → gg_tN f I op n' m q' → q = q'
  | 0, _, _, _, _, h, _ => h.elim
  | _ + 1, 0, _, _, _, _, h => h.elim
  | n + 1, n' + 1, m, q, q', h, h' => by
    rcases h with ⟨a, b⟩ | ⟨a, m1, b, c⟩
    · rcases h' with ⟨a', b'⟩ | ⟨a', -⟩
      · rw [b, b']
      · exact absurd a' a
    · rcases h' with ⟨a', -⟩ | ⟨a', m2, b', c'⟩
      · exact absurd a a'
      · have e := hI _ _ _ b b'
        subst e
        exact gg_tN.fn hI n n' m1 q q' c c'
theorem gg_s.fn {f : Nat → Int} {I : Nat → Nat → Prop} {op : Int → Prop} (hI : ∀ p q q', I p q → I p q' → q = q') {p q q' : Nat} (h : gg_s f I op p q) (h' : gg_s f I op p q') : q = q' := by
  obtain ⟨m, a, n, b⟩ := h
  obtain ⟨m', a', n', b'⟩ := h'
  have e := hI _ _ _ a a'
  subst e
  exact gg_tN.fn hI n n' m q q' b b'
theorem gg_part.fn (f : Nat → Int) : ∀ (d p q q' : Nat), gg_part f d p q → gg_part f d p q' → q = q'
  | 0, p, q, q', h, h' => by rw [h.2, h'.2]
  | d + 1, p, q, q', h, h' => by
    rcases h with h | ⟨h1, m, h2, h3, h4⟩
    · rcases h' with h' | ⟨h1', -⟩
      · rw [h.2, h'.2]
      · have := h.1
        omega
    · rcases h' with h' | ⟨h1', m', h2', h3', h4'⟩
      · have := h'.1
        omega
      · have e := gg_s.fn (I := gg_s f (gg_part f d) gg_mul) (fun a b c => gg_s.fn (gg_part.fn f d)) h2 h2'
        rw [h4, h4', e]
theorem gg_term.fn {f : Nat → Int} {d p q q' : Nat} (h : gg_term f d p q) (h' : gg_term f d p q') : q = q' := gg_s.fn (gg_part.fn f d) h h'
theorem gg_sum.fn {f : Nat → Int} {d p q q' : Nat} (h : gg_sum f d p q) (h' : gg_sum f d p q') : q = q' := gg_s.fn (I := gg_term f d) (fun _ _ _ => gg_term.fn) h h'
theorem gg_cmp.fn {f : Nat → Int} {d p q q' : Nat} (h : gg_cmp f d p q) (h' : gg_cmp f d p q') : q = q' := by
  obtain ⟨-, m, a, -, b⟩ := h
  obtain ⟨-, m', a', -, b'⟩ := h'
  have e := gg_sum.fn a a'
  subst e
  exact gg_sum.fn b b'
theorem gg_nots.fn {f : Nat → Int} {I : Nat → Nat → Prop} (hI : ∀ p q q', I p q → I p q' → q = q') {p q q' : Nat} (h : gg_nots f I p q) (h' : gg_nots f I p q') : q = q' := by
  obtain ⟨j, a, b, c⟩ := h
  obtain ⟨j', a', b', c'⟩ := h'
  have e : j = j' := by
    rcases Nat.lt_trichotomy j j' with x | x | x
    · exact absurd (a' j x) b
    · exact x
    · exact absurd (a j' x) b'
  subst e
  exact hI _ _ _ c c'
def gg_pos (f : Nat → Int) (d p q : Nat) : Prop := gg_cmp f d p q ∨ ∃ e, d = e + 1 ∧ f p = 140 ∧ ∃ m, gg_test f e (p + 1) m ∧ f m = 141 ∧ q = m + 1
theorem gg_plain.fn (f : Nat → Int) : ∀ (d p q q' : Nat), gg_plain f d p q → gg_plain f d p q' → q = q'
  | 0, p, q, q', h, h' => gg_nots.fn (I := gg_cmp f 0) (fun _ _ _ => gg_cmp.fn) h h'
  | d + 1, p, q, q', h, h' => gg_nots.fn (fun a b c x y => by
    rcases x with x | ⟨x1, m, x2, x3, x4⟩
    · rcases y with y | ⟨y1, -⟩
      · exact gg_cmp.fn x y
      · exact absurd y1 x.1
    · rcases y with y | ⟨y1, m', y2, y3, y4⟩
      · exact absurd x1 y.1
      · have e := gg_s.fn (I := gg_s f (gg_plain f d) gg_and) (fun a b c => gg_s.fn (gg_plain.fn f d)) x2 y2
        rw [x4, y4, e]) h h'
theorem gg_both.fn {f : Nat → Int} {d p q q' : Nat} (h : gg_both f d p q) (h' : gg_both f d p q') : q = q' := gg_s.fn (gg_plain.fn f d) h h'
theorem gg_test.fn {f : Nat → Int} {d p q q' : Nat} (h : gg_test f d p q) (h' : gg_test f d p q') : q = q' := gg_s.fn (I := gg_both f d) (fun _ _ _ => gg_both.fn) h h'
theorem gg_pos.fn {f : Nat → Int} {d p q q' : Nat} (x : gg_pos f d p q) (y : gg_pos f d p q') : q = q' := by
  rcases x with x | ⟨e, x0, x1, m, x2, x3, x4⟩
  · rcases y with y | ⟨-, -, y1, -⟩
    · exact gg_cmp.fn x y
    · exact absurd y1 x.1
  · rcases y with y | ⟨e', y0, y1, m', y2, y3, y4⟩
    · exact absurd x1 y.1
    · have z : e' = e := by omega
      subst z
      have e := gg_test.fn x2 y2
      rw [x4, y4, e]
theorem gg_plain.pos {f : Nat → Int} {d p q : Nat} (h : gg_plain f d p q) : gg_nots f (gg_pos f d) p q := by
  cases d with
  | zero =>
    obtain ⟨j, a, b, c⟩ := h
    exact ⟨j, a, b, Or.inl c⟩
  | succ d =>
    obtain ⟨j, a, b, c⟩ := h
    rcases c with c | c
    · exact ⟨j, a, b, Or.inl c⟩
    · exact ⟨j, a, b, Or.inr ⟨d, rfl, c⟩⟩
/-! the reference's evaluator: its state, codeAt, passes, bounded, near -/
theorem dd_M_codeAt_0 : decode prog_14_method_43_code 0 = .ok (.iload_n 1, 1) := by decide +kernel
theorem dd_M_codeAt_1 : decode prog_14_method_43_code 1 = .ok (.aload_n 0, 1) := by decide +kernel
theorem dd_M_codeAt_2 : decode prog_14_method_43_code 2 = .ok (.getfield 201, 3) := by decide +kernel
theorem dd_M_codeAt_5 : decode prog_14_method_43_code 5 = .ok (.if_icmp .ge 16, 3) := by decide +kernel
theorem dd_M_codeAt_8 : decode prog_14_method_43_code 8 = .ok (.aload_n 0, 1) := by decide +kernel
theorem dd_M_codeAt_9 : decode prog_14_method_43_code 9 = .ok (.getfield 13, 3) := by decide +kernel
theorem dd_M_codeAt_12 : decode prog_14_method_43_code 12 = .ok (.sipush 1310, 3) := by decide +kernel
theorem dd_M_codeAt_15 : decode prog_14_method_43_code 15 = .ok (.iload_n 1, 1) := by decide +kernel
theorem dd_M_codeAt_16 : decode prog_14_method_43_code 16 = .ok (.iadd, 1) := by decide +kernel
theorem dd_M_codeAt_17 : decode prog_14_method_43_code 17 = .ok (.iaload, 1) := by decide +kernel
theorem dd_M_codeAt_18 : decode prog_14_method_43_code 18 = .ok (.goto 4, 3) := by decide +kernel
theorem dd_M_codeAt_21 : decode prog_14_method_43_code 21 = .ok (.iconst 0, 1) := by decide +kernel
theorem dd_M_codeAt_22 : decode prog_14_method_43_code 22 = .ok (.ireturn, 1) := by decide +kernel
theorem dd_M_passes_0 : decode prog_14_method_44_code 0 = .ok (.aload_n 0, 1) := by decide +kernel
theorem dd_M_passes_1 : decode prog_14_method_44_code 1 = .ok (.aload_n 0, 1) := by decide +kernel
theorem dd_M_passes_2 : decode prog_14_method_44_code 2 = .ok (.getfield 204, 3) := by decide +kernel
theorem dd_M_passes_5 : decode prog_14_method_44_code 5 = .ok (.invokevirtual 207, 3) := by decide +kernel
theorem dd_M_passes_8 : decode prog_14_method_44_code 8 = .ok (.iload_n 1, 1) := by decide +kernel
theorem dd_M_passes_9 : decode prog_14_method_44_code 9 = .ok (.if_icmp .ne 7, 3) := by decide +kernel
theorem dd_M_passes_12 : decode prog_14_method_44_code 12 = .ok (.iconst 1, 1) := by decide +kernel
theorem dd_M_passes_13 : decode prog_14_method_44_code 13 = .ok (.goto 4, 3) := by decide +kernel
theorem dd_M_passes_16 : decode prog_14_method_44_code 16 = .ok (.iconst 0, 1) := by decide +kernel
theorem dd_M_passes_17 : decode prog_14_method_44_code 17 = .ok (.istore_n 2, 1) := by decide +kernel
theorem dd_M_passes_18 : decode prog_14_method_44_code 18 = .ok (.iload_n 2, 1) := by decide +kernel
theorem dd_M_passes_19 : decode prog_14_method_44_code 19 = .ok (.ifCond .eq 13, 3) := by decide +kernel
theorem dd_M_passes_22 : decode prog_14_method_44_code 22 = .ok (.aload_n 0, 1) := by decide +kernel
theorem dd_M_passes_23 : decode prog_14_method_44_code 23 = .ok (.dup, 1) := by decide +kernel
theorem dd_M_passes_24 : decode prog_14_method_44_code 24 = .ok (.getfield 204, 3) := by decide +kernel
theorem dd_M_passes_27 : decode prog_14_method_44_code 27 = .ok (.iconst 1, 1) := by decide +kernel
theorem dd_M_passes_28 : decode prog_14_method_44_code 28 = .ok (.iadd, 1) := by decide +kernel
theorem dd_M_passes_29 : decode prog_14_method_44_code 29 = .ok (.putfield 204, 3) := by decide +kernel
theorem dd_M_passes_32 : decode prog_14_method_44_code 32 = .ok (.iload_n 2, 1) := by decide +kernel
theorem dd_M_passes_33 : decode prog_14_method_44_code 33 = .ok (.ireturn, 1) := by decide +kernel
theorem dd_M_bounded_0 : decode prog_14_method_45_code 0 = .ok (.iload_n 3, 1) := by decide +kernel
theorem dd_M_bounded_1 : decode prog_14_method_45_code 1 = .ok (.ifCond .eq 24, 3) := by decide +kernel
theorem dd_M_bounded_4 : decode prog_14_method_45_code 4 = .ok (.lload_n 1, 1) := by decide +kernel
theorem dd_M_bounded_5 : decode prog_14_method_45_code 5 = .ok (.ldc2_w 210, 3) := by decide +kernel
theorem dd_M_bounded_8 : decode prog_14_method_45_code 8 = .ok (.lcmp, 1) := by decide +kernel
theorem dd_M_bounded_9 : decode prog_14_method_45_code 9 = .ok (.ifCond .gt 11, 3) := by decide +kernel
theorem dd_M_bounded_12 : decode prog_14_method_45_code 12 = .ok (.lload_n 1, 1) := by decide +kernel
theorem dd_M_bounded_13 : decode prog_14_method_45_code 13 = .ok (.ldc2_w 212, 3) := by decide +kernel
theorem dd_M_bounded_16 : decode prog_14_method_45_code 16 = .ok (.lcmp, 1) := by decide +kernel
theorem dd_M_bounded_17 : decode prog_14_method_45_code 17 = .ok (.ifCond .ge 8, 3) := by decide +kernel
theorem dd_M_bounded_20 : decode prog_14_method_45_code 20 = .ok (.aload_n 0, 1) := by decide +kernel
theorem dd_M_bounded_21 : decode prog_14_method_45_code 21 = .ok (.iconst 1, 1) := by decide +kernel
theorem dd_M_bounded_22 : decode prog_14_method_45_code 22 = .ok (.putfield 214, 3) := by decide +kernel
theorem dd_M_bounded_25 : decode prog_14_method_45_code 25 = .ok (.aload_n 0, 1) := by decide +kernel
theorem dd_M_bounded_26 : decode prog_14_method_45_code 26 = .ok (.getfield 214, 3) := by decide +kernel
theorem dd_M_bounded_29 : decode prog_14_method_45_code 29 = .ok (.ifCond .eq 7, 3) := by decide +kernel
theorem dd_M_bounded_32 : decode prog_14_method_45_code 32 = .ok (.lconst 0, 1) := by decide +kernel
theorem dd_M_bounded_33 : decode prog_14_method_45_code 33 = .ok (.goto 4, 3) := by decide +kernel
theorem dd_M_bounded_36 : decode prog_14_method_45_code 36 = .ok (.lload_n 1, 1) := by decide +kernel
theorem dd_M_bounded_37 : decode prog_14_method_45_code 37 = .ok (.lreturn, 1) := by decide +kernel
theorem dd_M_near_0 : decode prog_14_method_53_code 0 = .ok (.lload_n 0, 1) := by decide +kernel
theorem dd_M_near_1 : decode prog_14_method_53_code 1 = .ok (.lconst 0, 1) := by decide +kernel
theorem dd_M_near_2 : decode prog_14_method_53_code 2 = .ok (.lcmp, 1) := by decide +kernel
theorem dd_M_near_3 : decode prog_14_method_53_code 3 = .ok (.ifCond .ge 7, 3) := by decide +kernel
theorem dd_M_near_6 : decode prog_14_method_53_code 6 = .ok (.iconst 0, 1) := by decide +kernel
theorem dd_M_near_7 : decode prog_14_method_53_code 7 = .ok (.goto 19, 3) := by decide +kernel
theorem dd_M_near_10 : decode prog_14_method_53_code 10 = .ok (.lload_n 0, 1) := by decide +kernel
theorem dd_M_near_11 : decode prog_14_method_53_code 11 = .ok (.ldc2_w 248, 3) := by decide +kernel
theorem dd_M_near_14 : decode prog_14_method_53_code 14 = .ok (.lcmp, 1) := by decide +kernel
theorem dd_M_near_15 : decode prog_14_method_53_code 15 = .ok (.ifCond .le 9, 3) := by decide +kernel
theorem dd_M_near_18 : decode prog_14_method_53_code 18 = .ok (.sipush 255, 3) := by decide +kernel
theorem dd_M_near_21 : decode prog_14_method_53_code 21 = .ok (.goto 5, 3) := by decide +kernel
theorem dd_M_near_24 : decode prog_14_method_53_code 24 = .ok (.lload_n 0, 1) := by decide +kernel
theorem dd_M_near_25 : decode prog_14_method_53_code 25 = .ok (.l2i, 1) := by decide +kernel
theorem dd_M_near_26 : decode prog_14_method_53_code 26 = .ok (.ireturn, 1) := by decide +kernel

def ev_F (c p : Nat) : Prop := c = 77 ∧ (p = 16 ∨ p = 18)
def ev_B (h : mm_h) : Nat := 400 * (h.2.2.1 78 1296).toInt.toNat
def ev_f (h : mm_h) (n k : Nat) : Int := if k < n then (h.2.2.1 78 (1310 + ev_B h + k)).toInt else 0
def ev_at (h : mm_h) (n p : Nat) : Prop := rr_A h ∧ (0 ≤ (h.2.2.1 78 1296).toInt ∧ (h.2.2.1 78 1296).toInt ≤ 9) ∧ n ≤ 400 ∧ (h.2.2.1 77 17).toInt = ((ev_B h + n : Nat) : Int) ∧ (h.2.2.1 77 16).toInt = ((ev_B h + p : Nat) : Int) ∧ p ≤ n ∧ ((h.2.2.1 77 18).toInt = 0 ∨ (h.2.2.1 77 18).toInt = 1)
theorem ev_at.B {h : mm_h} {n p : Nat} (hp : ev_at h n p) : ev_B h ≤ 3600 := by
  have := hp.2.1
  unfold ev_B
  omega
theorem ev_at.same {h : mm_h} {n p n' p' : Nat} (hp : ev_at h n p) (hp' : ev_at h n' p') : n' = n ∧ p' = p := by
  have a := hp.2.2.2.1
  have b := hp'.2.2.2.1
  have c := hp.2.2.2.2.1
  have d := hp'.2.2.2.2.1
  omega
theorem ev_at.lt {h : mm_h} {n p : Nat} (hc : ev_f h n p ≠ 0) : p < n := by
  by_cases c : p < n
  · exact c
  · unfold ev_f at hc
    rw [if_neg c] at hc
    exact absurd rfl hc
theorem rr_fr.evB {h h' : mm_h} (f : rr_fr ev_F h h') : ev_B h' = ev_B h := by
  unfold ev_B
  rw [f.2.2.2 78 1296 (by unfold ev_F; omega)]
theorem rr_fr.evf {h h' : mm_h} (f : rr_fr ev_F h h') (n : Nat) : ev_f h' n = ev_f h n := by
  funext k
  unfold ev_f
  rw [f.evB, f.2.2.2 78 _ (by unfold ev_F; omega)]
theorem ev_at.fr {h h' : mm_h} {n p p' : Nat} (hp : ev_at h n p) (f : rr_fr ev_F h h') (hg : (h'.2.2.1 77 16).toInt = ((ev_B h + p' : Nat) : Int)) (hl : p' ≤ n) (hb : (h'.2.2.1 77 18).toInt = 0 ∨ (h'.2.2.1 77 18).toInt = 1) : ev_at h' n p' := by
  refine ⟨f.A hp.1, ?_, hp.2.2.1, ?_, ?_, hl, hb⟩
  · rw [f.2.2.2 78 1296 (by unfold ev_F; omega)]; exact hp.2.1
  · rw [f.evB, f.2.2.2 77 17 (by unfold ev_F; omega)]; exact hp.2.2.2.1
  · rw [f.evB]; exact hg
/-- one on -/
theorem ev_at.up {h : mm_h} {n p : Nat} (hp : ev_at h n p) (hl : p < n) : rr_fr ev_F h (mm_si h 77 16 (h.2.2.1 77 16 + Int32.ofInt 1)) ∧ ev_at (mm_si h 77 16 (h.2.2.1 77 16 + Int32.ofInt 1)) n (p + 1) := by
  have f : rr_fr ev_F h (mm_si h 77 16 (h.2.2.1 77 16 + Int32.ofInt 1)) := rr_fr.rf.si _ _ _ ⟨rfl, Or.inl rfl⟩
  have hB := hp.B
  have g := hp.2.2.2.2.1
  have hn := hp.2.2.1
  refine ⟨f, hp.fr f ?_ hl ?_⟩
  · simp only [mm_si_i, and_self, ↓reduceIte]
    rw [ck_addI (by rw [kt_1, g]; omega) (by rw [kt_1, g]; omega), kt_1, g]
    omega
  · simp only [mm_si_i, Nat.reduceEqDiff, and_false, ↓reduceIte]
    exact hp.2.2.2.2.2.2
def hc_codeAt : mm_C := (217, (0, 0, 0, 0), (fun us h => ∃ n p, ev_at h n p ∧ us = [mm_A (some 77), mm_I (h.2.2.1 77 16)]), fun _ h r h' => h = h' ∧ ∃ v, r = some (mm_I v) ∧ ∀ n p, ev_at h n p → v.toInt = ev_f h n p)
theorem hh_codeAt {Rt : Option mm_v → mm_h → Nat × Nat → Prop} (h : mm_h) (n p : Nat) (hp : ev_at h n p) (K : ∀ v : Int32, v.toInt = ev_f h n p → Rt (some (mm_I v)) h (0, 0)) :
    mm_W vwCl ck_dt ck_mts ck_T13 [] false 2 0 0 (0) (0) prog_14_method_43_code (some .int) Rt (0, [(0, mm_A (some 77)), (1, mm_I (h.2.2.1 77 16))], [], h, 0, 0) := by
  have hA := hp.1
  have hB := hp.B
  have g := hp.2.2.2.2.1
  have e := hp.2.2.2.1
  have hn := hp.2.2.1
  have hl := hp.2.2.2.2.2.1
  refine mm_go_ok [] (N := fun z => mm_W vwCl ck_dt ck_mts ck_T13 [] false 2 0 0 (0) (0) prog_14_method_43_code (some .int) Rt z) (fun z h => h) 20 _ ?_
  simp only [mm_nn2, mm_one, mm_grp, mm_a, mm_b, mm_c, mm_bop, mm_d, mm_e, mm_ld, mm_sw, mm_k, mm_rt, mm_get, mm_put, mm_put2, mm_two, mm_rf, ck_tg, ck_chold, ck_cneg, List.elem_cons, List.elem_nil, List.find?_cons, List.filter_cons, List.filter_nil, Option.map_some, Nat.reduceBEq, Nat.reduceAdd, Bool.or_false, Bool.false_or, Bool.or_true, Bool.true_or, beq_self_eq_true, Bool.not_false, Bool.not_true, Bool.and_true, Bool.true_and, Bool.and_false, Bool.false_and, Bool.false_eq_true, ↓reduceIte, Fin.isValue, mm_f0, mm_f1, mm_f2, mm_f3, Nat.zero_mod, Nat.reduceMod, Option.some.injEq, Sum.inl.injEq, Sum.inr.injEq, exists_eq_left', List.find?_nil, List.length_cons, List.length_nil, true_and, and_true, Nat.reduceLT, Nat.reduceEqDiff, Int.reduceLE, Int.reduceAdd, Int.reduceToNat, Int.cast_ofNat_Int, Int.reduceNeg, Nat.reduceBeqDiff, Nat.zero_add, Prod.mk.injEq, mm_si_n, mm_si_s, mm_si_r, Option.toList_some, Option.toList_none, List.cons_append, List.nil_append, exists_eq', exists_eq, reduceCtorEq, false_and, and_false, false_or, or_false, exists_false, eq_self, and_self, mm_si_i, Int.reduceLT, mm_go_s dd_M_codeAt_0, mm_go_s dd_M_codeAt_1, mm_go_s dd_M_codeAt_2, mm_go_s dd_M_codeAt_5, mm_go_s dd_M_codeAt_8, mm_go_s dd_M_codeAt_9, mm_go_s dd_M_codeAt_12, mm_go_s dd_M_codeAt_15, mm_go_s dd_M_codeAt_16, mm_go_s dd_M_codeAt_17, mm_go_s dd_M_codeAt_18, mm_go_s dd_M_codeAt_21, mm_go_s dd_M_codeAt_22, kt_0, kb16_1310, kt_1310, gf13_201, gf13_13, rr_lt hA, rr_s77 hA, rr_s78 hA, rr_s79 hA, rr_s80 hA, rr_s81 hA, rr_s82 hA, rr_s83 hA, rr_s84 hA, rr_s85 hA, rr_s86 hA, rr_s87 hA, rr_s88 hA, rr_s89 hA, rr_s90 hA, rr_s91 hA, rr_s92 hA, rr_s93 hA, rr_s94 hA, rr_s95 hA, rr_s96 hA, rr_s97 hA, rr_s98 hA, rr_s99 hA, rr_s100 hA, rr_r1 hA, rr_r2 hA, rr_r3 hA, rr_r4 hA, rr_r5 hA, rr_r6 hA, rr_r9 hA, rr_r10 hA, rr_r11 hA, rr_r19 hA, rr_r24 hA, rr_r25 hA, rr_r26 hA, rr_r27 hA, rr_r28 hA, rr_r30 hA, rr_r31 hA, rr_r35 hA, rr_r36 hA, rr_r37 hA, rr_r38 hA, rr_r39 hA, rr_r40 hA]
  have m1 : (Int32.ofInt 1310 + h.2.2.1 77 16).toInt = ((1310 + ev_B h + p : Nat) : Int) := by rw [ck_addI (by rw [kt_1310, g]; omega) (by rw [kt_1310, g]; omega), kt_1310, g]; omega
  rw [m1]
  simp only [Int.toNat_natCast]
  refine ⟨fun c => ⟨rfl, K _ ?_⟩, fun c => ⟨by omega, by omega, rfl, K _ ?_⟩⟩
  · unfold ev_f
    rw [if_neg (by omega)]
    decide
  · unfold ev_f
    rw [if_pos (by omega)]
theorem hk_codeAt (l : Launch) (D : va_G) (st : Nat → Nat)   : hh_Met l D st (hc_codeAt ) := by
  refine mm_sound (T := ck_T13) (cs := []) l ck_TSgood ck_okCl ck_okDt (M0 := ck_m217) rfl (by decide +kernel) ck_okT13 ck_nil ?_
  rintro us h - ⟨n, p, hp, rfl⟩
  exact ⟨Nat.le_of_ble_eq_true rfl, hh_codeAt h n p hp (fun v e => ⟨Nat.le_refl _, Nat.le_refl _, Nat.le_refl _, rfl, v, rfl, fun n' p' hp' => by obtain ⟨rfl, rfl⟩ := hp.same hp'; exact e⟩)⟩

def hc_passes : mm_C := (221, (1, 40, 0, 0), (fun us h => (∃ n p, ev_at h n p) ∧ ∃ c : Int32, us = [mm_A (some 77), mm_I c]), fun us h r h' => match us with
  | [_, .inl c] => (r = some (mm_I (Int32.ofInt 1)) ∧ h' = mm_si h 77 16 (h.2.2.1 77 16 + Int32.ofInt 1) ∧ ∀ n p, ev_at h n p → ev_f h n p = c.toInt) ∨ (r = some (mm_I (Int32.ofInt 0)) ∧ h' = h ∧ ∀ n p, ev_at h n p → ev_f h n p ≠ c.toInt)
  | _ => False)
theorem hh_passes {Rt : Option mm_v → mm_h → Nat × Nat → Prop} (c : Int32) (h : mm_h) (n p : Nat) (hp : ev_at h n p) (K1 : ev_f h n p = c.toInt → Rt (some (mm_I (Int32.ofInt 1))) (mm_si h 77 16 (h.2.2.1 77 16 + Int32.ofInt 1)) (0, 0)) (K2 : ev_f h n p ≠ c.toInt → Rt (some (mm_I (Int32.ofInt 0))) h (0, 0)) :
    mm_W vwCl ck_dt ck_mts ck_T13 [hc_codeAt] false 3 0 0 (1) (40) prog_14_method_44_code (some .boolean) Rt (0, [(0, mm_A (some 77)), (1, mm_I c)], [], h, 0, 0) := by
  have hA := hp.1
  refine mm_go_ok [5] (N := fun z => mm_W vwCl ck_dt ck_mts ck_T13 [hc_codeAt] false 3 0 0 (1) (40) prog_14_method_44_code (some .boolean) Rt z) (fun z h => h) 6 _ ?_
  simp only [mm_nn2, mm_one, mm_grp, mm_a, mm_b, mm_c, mm_bop, mm_d, mm_e, mm_ld, mm_sw, mm_k, mm_rt, mm_get, mm_put, mm_put2, mm_two, mm_rf, ck_tg, ck_chold, ck_cneg, List.elem_cons, List.elem_nil, List.find?_cons, List.filter_cons, List.filter_nil, Option.map_some, Nat.reduceBEq, Nat.reduceAdd, Bool.or_false, Bool.false_or, Bool.or_true, Bool.true_or, beq_self_eq_true, Bool.not_false, Bool.not_true, Bool.and_true, Bool.true_and, Bool.and_false, Bool.false_and, Bool.false_eq_true, ↓reduceIte, Fin.isValue, mm_f0, mm_f1, mm_f2, mm_f3, Nat.zero_mod, Nat.reduceMod, Option.some.injEq, Sum.inl.injEq, Sum.inr.injEq, exists_eq_left', List.find?_nil, List.length_cons, List.length_nil, true_and, and_true, Nat.reduceLT, Nat.reduceEqDiff, Int.reduceLE, Int.reduceAdd, Int.reduceToNat, Int.cast_ofNat_Int, Int.reduceNeg, Nat.reduceBeqDiff, Nat.zero_add, Prod.mk.injEq, mm_si_n, mm_si_s, mm_si_r, Option.toList_some, Option.toList_none, List.cons_append, List.nil_append, exists_eq', exists_eq, reduceCtorEq, false_and, and_false, false_or, or_false, exists_false, eq_self, and_self, mm_si_i, Int.reduceLT, mm_go_s dd_M_passes_0, mm_go_s dd_M_passes_1, mm_go_s dd_M_passes_2, mm_go_s dd_M_passes_5, mm_go_s dd_M_passes_8, mm_go_s dd_M_passes_9, mm_go_s dd_M_passes_12, mm_go_s dd_M_passes_13, mm_go_s dd_M_passes_16, mm_go_s dd_M_passes_17, mm_go_s dd_M_passes_18, mm_go_s dd_M_passes_19, mm_go_s dd_M_passes_22, mm_go_s dd_M_passes_23, mm_go_s dd_M_passes_24, mm_go_s dd_M_passes_27, mm_go_s dd_M_passes_28, mm_go_s dd_M_passes_29, mm_go_s dd_M_passes_32, mm_go_s dd_M_passes_33, kt_0, kt_1, kz, gf13_204, pf13_204, rr_lt hA, rr_s77 hA, rr_s78 hA, rr_s79 hA, rr_s80 hA, rr_s81 hA, rr_s82 hA, rr_s83 hA, rr_s84 hA, rr_s85 hA, rr_s86 hA, rr_s87 hA, rr_s88 hA, rr_s89 hA, rr_s90 hA, rr_s91 hA, rr_s92 hA, rr_s93 hA, rr_s94 hA, rr_s95 hA, rr_s96 hA, rr_s97 hA, rr_s98 hA, rr_s99 hA, rr_s100 hA, rr_r1 hA, rr_r2 hA, rr_r3 hA, rr_r4 hA, rr_r5 hA, rr_r6 hA, rr_r9 hA, rr_r10 hA, rr_r11 hA, rr_r19 hA, rr_r24 hA, rr_r25 hA, rr_r26 hA, rr_r27 hA, rr_r28 hA, rr_r30 hA, rr_r31 hA, rr_r35 hA, rr_r36 hA, rr_r37 hA, rr_r38 hA, rr_r39 hA, rr_r40 hA]
  refine rr_call (207, 0, 217) ck_m217 hc_codeAt [mm_I (h.2.2.1 77 16)] [] hA dd_M_passes_5 rfl ml13_207 (by decide) rfl rfl rfl (List.Mem.head _) rfl rfl (Nat.le_of_ble_eq_true rfl) ⟨by simp only [hc_codeAt]; omega, by simp only [hc_codeAt, ck_m217]; omega⟩ rfl ⟨n, p, hp, rfl⟩ ?_
  rintro r _ ⟨rfl, v, rfl, hv⟩
  refine mm_go_ok [] (N := fun z => mm_W vwCl ck_dt ck_mts ck_T13 [hc_codeAt] false 3 0 0 (1) (40) prog_14_method_44_code (some .boolean) Rt z) (fun z h => h) 30 _ ?_
  simp only [mm_nn2, mm_one, mm_grp, mm_a, mm_b, mm_c, mm_bop, mm_d, mm_e, mm_ld, mm_sw, mm_k, mm_rt, mm_get, mm_put, mm_put2, mm_two, mm_rf, ck_tg, ck_chold, ck_cneg, List.elem_cons, List.elem_nil, List.find?_cons, List.filter_cons, List.filter_nil, Option.map_some, Nat.reduceBEq, Nat.reduceAdd, Bool.or_false, Bool.false_or, Bool.or_true, Bool.true_or, beq_self_eq_true, Bool.not_false, Bool.not_true, Bool.and_true, Bool.true_and, Bool.and_false, Bool.false_and, Bool.false_eq_true, ↓reduceIte, Fin.isValue, mm_f0, mm_f1, mm_f2, mm_f3, Nat.zero_mod, Nat.reduceMod, Option.some.injEq, Sum.inl.injEq, Sum.inr.injEq, exists_eq_left', List.find?_nil, List.length_cons, List.length_nil, true_and, and_true, Nat.reduceLT, Nat.reduceEqDiff, Int.reduceLE, Int.reduceAdd, Int.reduceToNat, Int.cast_ofNat_Int, Int.reduceNeg, Nat.reduceBeqDiff, Nat.zero_add, Prod.mk.injEq, mm_si_n, mm_si_s, mm_si_r, Option.toList_some, Option.toList_none, List.cons_append, List.nil_append, exists_eq', exists_eq, reduceCtorEq, false_and, and_false, false_or, or_false, exists_false, eq_self, and_self, mm_si_i, Int.reduceLT, mm_go_s dd_M_passes_0, mm_go_s dd_M_passes_1, mm_go_s dd_M_passes_2, mm_go_s dd_M_passes_5, mm_go_s dd_M_passes_8, mm_go_s dd_M_passes_9, mm_go_s dd_M_passes_12, mm_go_s dd_M_passes_13, mm_go_s dd_M_passes_16, mm_go_s dd_M_passes_17, mm_go_s dd_M_passes_18, mm_go_s dd_M_passes_19, mm_go_s dd_M_passes_22, mm_go_s dd_M_passes_23, mm_go_s dd_M_passes_24, mm_go_s dd_M_passes_27, mm_go_s dd_M_passes_28, mm_go_s dd_M_passes_29, mm_go_s dd_M_passes_32, mm_go_s dd_M_passes_33, kt_0, kt_1, kz, gf13_204, pf13_204, rr_lt hA, rr_s77 hA, rr_s78 hA, rr_s79 hA, rr_s80 hA, rr_s81 hA, rr_s82 hA, rr_s83 hA, rr_s84 hA, rr_s85 hA, rr_s86 hA, rr_s87 hA, rr_s88 hA, rr_s89 hA, rr_s90 hA, rr_s91 hA, rr_s92 hA, rr_s93 hA, rr_s94 hA, rr_s95 hA, rr_s96 hA, rr_s97 hA, rr_s98 hA, rr_s99 hA, rr_s100 hA, rr_r1 hA, rr_r2 hA, rr_r3 hA, rr_r4 hA, rr_r5 hA, rr_r6 hA, rr_r9 hA, rr_r10 hA, rr_r11 hA, rr_r19 hA, rr_r24 hA, rr_r25 hA, rr_r26 hA, rr_r27 hA, rr_r28 hA, rr_r30 hA, rr_r31 hA, rr_r35 hA, rr_r36 hA, rr_r37 hA, rr_r38 hA, rr_r39 hA, rr_r40 hA]
  rw [hv n p hp]
  exact ⟨fun d => ⟨fun _ => ⟨by decide, K2 d⟩, fun e => absurd rfl e⟩, fun d => ⟨fun e => absurd e (by decide), fun _ => ⟨by decide, K1 d⟩⟩⟩
theorem hk_passes (l : Launch) (D : va_G) (st : Nat → Nat)   : hh_Met l D st (hc_passes ) := by
  refine mm_sound (T := ck_T13) (cs := [hc_codeAt]) l ck_TSgood ck_okCl ck_okDt (M0 := ck_m221) rfl (by decide +kernel) ck_okT13 (List.forall_mem_cons.mpr ⟨hk_codeAt l D st , ck_nil⟩) ?_
  rintro us h - ⟨⟨n, p, hp⟩, c, rfl⟩
  exact ⟨Nat.le_of_ble_eq_true rfl, hh_passes c h n p hp (fun e => ⟨Nat.le_refl _, Nat.le_refl _, Nat.le_refl _, Or.inl ⟨rfl, rfl, fun n' p' hp' => by obtain ⟨rfl, rfl⟩ := hp.same hp'; exact e⟩⟩) (fun e => ⟨Nat.le_refl _, Nat.le_refl _, Nat.le_refl _, Or.inr ⟨rfl, rfl, fun n' p' hp' => by obtain ⟨rfl, rfl⟩ := hp.same hp'; exact e⟩⟩)⟩

theorem kj13_210 : ck_T13.2.2.2.2.2.1.find? (fun q => q.1 == 210) = some (210, 1000000000) := by decide
theorem kj13_212 : ck_T13.2.2.2.2.2.1.find? (fun q => q.1 == 212) = some (212, -1000000000) := by decide
theorem kj13_248 : ck_T13.2.2.2.2.2.1.find? (fun q => q.1 == 248) = some (248, 255) := by decide
def hc_bounded : mm_C := (222, (0, 0, 0, 0), (fun us h => (∃ n p, ev_at h n p) ∧ ∃ (v : Int64) (l : Int32), us = [mm_A (some 77), mm_J v, mm_I l]), fun _ h r h' => (∃ w, r = some (mm_J w)) ∧ rr_fr ev_F h h' ∧ ∀ n p, ev_at h n p → ev_at h' n p)
theorem hh_bounded {Rt : Option mm_v → mm_h → Nat × Nat → Prop} (v : Int64) (l : Int32) (h : mm_h) (n p : Nat) (hp : ev_at h n p) (K : ∀ (w : Int64) (h' : mm_h), rr_fr ev_F h h' → ev_at h' n p → Rt (some (mm_J w)) h' (0, 0)) :
    mm_W vwCl ck_dt ck_mts ck_T13 [] false 4 0 0 (0) (0) prog_14_method_45_code (some .long) Rt (0, [(0, mm_A (some 77)), (1, mm_J v), (3, mm_I l)], [], h, 0, 0) := by
  have hA := hp.1
  have at25 : ∀ h1, rr_fr ev_F h h1 → ev_at h1 n p → mm_W vwCl ck_dt ck_mts ck_T13 [] false 4 0 0 (0) (0) prog_14_method_45_code (some .long) Rt (25, [(0, mm_A (some 77)), (1, mm_J v), (3, mm_I l)], [], h1, 0, 0) := fun h1 f1 p1 => by
    have hA1 := p1.1
    refine mm_go_ok [] (N := fun z => mm_W vwCl ck_dt ck_mts ck_T13 [] false 4 0 0 (0) (0) prog_14_method_45_code (some .long) Rt z) (fun z h => h) 30 _ ?_
    simp only [mm_nn2, mm_one, mm_grp, mm_a, mm_b, mm_c, mm_bop, mm_d, mm_e, mm_ld, mm_sw, mm_k, mm_rt, mm_get, mm_put, mm_put2, mm_two, mm_rf, ck_tg, ck_chold, ck_cneg, List.elem_cons, List.elem_nil, List.find?_cons, List.filter_cons, List.filter_nil, Option.map_some, Nat.reduceBEq, Nat.reduceAdd, Bool.or_false, Bool.false_or, Bool.or_true, Bool.true_or, beq_self_eq_true, Bool.not_false, Bool.not_true, Bool.and_true, Bool.true_and, Bool.and_false, Bool.false_and, Bool.false_eq_true, ↓reduceIte, Fin.isValue, mm_f0, mm_f1, mm_f2, mm_f3, Nat.zero_mod, Nat.reduceMod, Option.some.injEq, Sum.inl.injEq, Sum.inr.injEq, exists_eq_left', List.find?_nil, List.length_cons, List.length_nil, true_and, and_true, Nat.reduceLT, Nat.reduceEqDiff, Int.reduceLE, Int.reduceAdd, Int.reduceToNat, Int.cast_ofNat_Int, Int.reduceNeg, Nat.reduceBeqDiff, Nat.zero_add, Prod.mk.injEq, mm_si_n, mm_si_s, mm_si_r, Option.toList_some, Option.toList_none, List.cons_append, List.nil_append, exists_eq', exists_eq, reduceCtorEq, false_and, and_false, false_or, or_false, exists_false, eq_self, and_self, mm_si_i, Int.reduceLT, mm_go_s dd_M_bounded_0, mm_go_s dd_M_bounded_1, mm_go_s dd_M_bounded_4, mm_go_s dd_M_bounded_5, mm_go_s dd_M_bounded_8, mm_go_s dd_M_bounded_9, mm_go_s dd_M_bounded_12, mm_go_s dd_M_bounded_13, mm_go_s dd_M_bounded_16, mm_go_s dd_M_bounded_17, mm_go_s dd_M_bounded_20, mm_go_s dd_M_bounded_21, mm_go_s dd_M_bounded_22, mm_go_s dd_M_bounded_25, mm_go_s dd_M_bounded_26, mm_go_s dd_M_bounded_29, mm_go_s dd_M_bounded_32, mm_go_s dd_M_bounded_33, mm_go_s dd_M_bounded_36, mm_go_s dd_M_bounded_37, kt_1, kt_0, kz, pf13_214, gf13_214, rr_lt hA1, rr_s77 hA1, rr_s78 hA1, rr_s79 hA1, rr_s80 hA1, rr_s81 hA1, rr_s82 hA1, rr_s83 hA1, rr_s84 hA1, rr_s85 hA1, rr_s86 hA1, rr_s87 hA1, rr_s88 hA1, rr_s89 hA1, rr_s90 hA1, rr_s91 hA1, rr_s92 hA1, rr_s93 hA1, rr_s94 hA1, rr_s95 hA1, rr_s96 hA1, rr_s97 hA1, rr_s98 hA1, rr_s99 hA1, rr_s100 hA1, rr_r1 hA1, rr_r2 hA1, rr_r3 hA1, rr_r4 hA1, rr_r5 hA1, rr_r6 hA1, rr_r9 hA1, rr_r10 hA1, rr_r11 hA1, rr_r19 hA1, rr_r24 hA1, rr_r25 hA1, rr_r26 hA1, rr_r27 hA1, rr_r28 hA1, rr_r30 hA1, rr_r31 hA1, rr_r35 hA1, rr_r36 hA1, rr_r37 hA1, rr_r38 hA1, rr_r39 hA1, rr_r40 hA1]
    exact ⟨fun _ => K _ _ f1 p1, fun _ => K _ _ f1 p1⟩
  have at20 : mm_W vwCl ck_dt ck_mts ck_T13 [] false 4 0 0 (0) (0) prog_14_method_45_code (some .long) Rt (20, [(0, mm_A (some 77)), (1, mm_J v), (3, mm_I l)], [], h, 0, 0) := by
    refine mm_go_ok [25] (N := fun z => mm_W vwCl ck_dt ck_mts ck_T13 [] false 4 0 0 (0) (0) prog_14_method_45_code (some .long) Rt z) (fun z h => h) 4 _ ?_
    simp only [mm_nn2, mm_one, mm_grp, mm_a, mm_b, mm_c, mm_bop, mm_d, mm_e, mm_ld, mm_sw, mm_k, mm_rt, mm_get, mm_put, mm_put2, mm_two, mm_rf, ck_tg, ck_chold, ck_cneg, List.elem_cons, List.elem_nil, List.find?_cons, List.filter_cons, List.filter_nil, Option.map_some, Nat.reduceBEq, Nat.reduceAdd, Bool.or_false, Bool.false_or, Bool.or_true, Bool.true_or, beq_self_eq_true, Bool.not_false, Bool.not_true, Bool.and_true, Bool.true_and, Bool.and_false, Bool.false_and, Bool.false_eq_true, ↓reduceIte, Fin.isValue, mm_f0, mm_f1, mm_f2, mm_f3, Nat.zero_mod, Nat.reduceMod, Option.some.injEq, Sum.inl.injEq, Sum.inr.injEq, exists_eq_left', List.find?_nil, List.length_cons, List.length_nil, true_and, and_true, Nat.reduceLT, Nat.reduceEqDiff, Int.reduceLE, Int.reduceAdd, Int.reduceToNat, Int.cast_ofNat_Int, Int.reduceNeg, Nat.reduceBeqDiff, Nat.zero_add, Prod.mk.injEq, mm_si_n, mm_si_s, mm_si_r, Option.toList_some, Option.toList_none, List.cons_append, List.nil_append, exists_eq', exists_eq, reduceCtorEq, false_and, and_false, false_or, or_false, exists_false, eq_self, and_self, mm_si_i, Int.reduceLT, mm_go_s dd_M_bounded_0, mm_go_s dd_M_bounded_1, mm_go_s dd_M_bounded_4, mm_go_s dd_M_bounded_5, mm_go_s dd_M_bounded_8, mm_go_s dd_M_bounded_9, mm_go_s dd_M_bounded_12, mm_go_s dd_M_bounded_13, mm_go_s dd_M_bounded_16, mm_go_s dd_M_bounded_17, mm_go_s dd_M_bounded_20, mm_go_s dd_M_bounded_21, mm_go_s dd_M_bounded_22, mm_go_s dd_M_bounded_25, mm_go_s dd_M_bounded_26, mm_go_s dd_M_bounded_29, mm_go_s dd_M_bounded_32, mm_go_s dd_M_bounded_33, mm_go_s dd_M_bounded_36, mm_go_s dd_M_bounded_37, kt_1, kt_0, kz, pf13_214, gf13_214, rr_lt hA, rr_s77 hA, rr_s78 hA, rr_s79 hA, rr_s80 hA, rr_s81 hA, rr_s82 hA, rr_s83 hA, rr_s84 hA, rr_s85 hA, rr_s86 hA, rr_s87 hA, rr_s88 hA, rr_s89 hA, rr_s90 hA, rr_s91 hA, rr_s92 hA, rr_s93 hA, rr_s94 hA, rr_s95 hA, rr_s96 hA, rr_s97 hA, rr_s98 hA, rr_s99 hA, rr_s100 hA, rr_r1 hA, rr_r2 hA, rr_r3 hA, rr_r4 hA, rr_r5 hA, rr_r6 hA, rr_r9 hA, rr_r10 hA, rr_r11 hA, rr_r19 hA, rr_r24 hA, rr_r25 hA, rr_r26 hA, rr_r27 hA, rr_r28 hA, rr_r30 hA, rr_r31 hA, rr_r35 hA, rr_r36 hA, rr_r37 hA, rr_r38 hA, rr_r39 hA, rr_r40 hA]
    have f : rr_fr ev_F h (mm_si h 77 18 (Int32.ofInt 1)) := rr_fr.rf.si _ _ _ ⟨rfl, Or.inr rfl⟩
    refine ⟨by decide, at25 _ f (hp.fr f ?_ hp.2.2.2.2.2.1 ?_)⟩
    · simp only [mm_si_i, Nat.reduceEqDiff, and_false, ↓reduceIte]
      exact hp.2.2.2.2.1
    · simp only [mm_si_i, and_self, ↓reduceIte]
      exact Or.inr (by decide)
  refine mm_go_ok [20, 25] (N := fun z => mm_W vwCl ck_dt ck_mts ck_T13 [] false 4 0 0 (0) (0) prog_14_method_45_code (some .long) Rt z) (fun z h => h) 20 _ ?_
  simp only [mm_nn2, mm_one, mm_grp, mm_a, mm_b, mm_c, mm_bop, mm_d, mm_e, mm_ld, mm_sw, mm_k, mm_rt, mm_get, mm_put, mm_put2, mm_two, mm_rf, ck_tg, ck_chold, ck_cneg, List.elem_cons, List.elem_nil, List.find?_cons, List.filter_cons, List.filter_nil, Option.map_some, Nat.reduceBEq, Nat.reduceAdd, Bool.or_false, Bool.false_or, Bool.or_true, Bool.true_or, beq_self_eq_true, Bool.not_false, Bool.not_true, Bool.and_true, Bool.true_and, Bool.and_false, Bool.false_and, Bool.false_eq_true, ↓reduceIte, Fin.isValue, mm_f0, mm_f1, mm_f2, mm_f3, Nat.zero_mod, Nat.reduceMod, Option.some.injEq, Sum.inl.injEq, Sum.inr.injEq, exists_eq_left', List.find?_nil, List.length_cons, List.length_nil, true_and, and_true, Nat.reduceLT, Nat.reduceEqDiff, Int.reduceLE, Int.reduceAdd, Int.reduceToNat, Int.cast_ofNat_Int, Int.reduceNeg, Nat.reduceBeqDiff, Nat.zero_add, Prod.mk.injEq, mm_si_n, mm_si_s, mm_si_r, Option.toList_some, Option.toList_none, List.cons_append, List.nil_append, exists_eq', exists_eq, reduceCtorEq, false_and, and_false, false_or, or_false, exists_false, eq_self, and_self, mm_si_i, Int.reduceLT, mm_go_s dd_M_bounded_0, mm_go_s dd_M_bounded_1, mm_go_s dd_M_bounded_4, mm_go_s dd_M_bounded_5, mm_go_s dd_M_bounded_8, mm_go_s dd_M_bounded_9, mm_go_s dd_M_bounded_12, mm_go_s dd_M_bounded_13, mm_go_s dd_M_bounded_16, mm_go_s dd_M_bounded_17, mm_go_s dd_M_bounded_20, mm_go_s dd_M_bounded_21, mm_go_s dd_M_bounded_22, mm_go_s dd_M_bounded_25, mm_go_s dd_M_bounded_26, mm_go_s dd_M_bounded_29, mm_go_s dd_M_bounded_32, mm_go_s dd_M_bounded_33, mm_go_s dd_M_bounded_36, mm_go_s dd_M_bounded_37, kt_1, kt_0, kz, pf13_214, gf13_214, kj13_210, kj13_212]
  exact ⟨fun _ => at25 h rr_fr.rf hp, fun _ => ⟨fun _ => at20, fun _ => ⟨fun _ => at25 h rr_fr.rf hp, fun _ => at20⟩⟩⟩
theorem hk_bounded (l : Launch) (D : va_G) (st : Nat → Nat)   : hh_Met l D st (hc_bounded ) := by
  refine mm_sound (T := ck_T13) (cs := []) l ck_TSgood ck_okCl ck_okDt (M0 := ck_m222) rfl (by decide +kernel) ck_okT13 ck_nil ?_
  rintro us h - ⟨⟨n, p, hp⟩, v, b, rfl⟩
  exact ⟨Nat.le_of_ble_eq_true rfl, hh_bounded v b h n p hp (fun w h' f e => ⟨Nat.le_of_eq f.1.symm, Nat.le_refl _, Nat.le_refl _, ⟨w, rfl⟩, f, fun n' p' hp' => by obtain ⟨rfl, rfl⟩ := hp.same hp'; exact e⟩)⟩

def hc_near : mm_C := (227, (0, 0, 0, 0), (fun us _ => ∃ v : Int64, us = [mm_J v]), fun _ h r h' => h = h' ∧ ∃ w, r = some (mm_I w))
theorem hh_near {Rt : Option mm_v → mm_h → Nat × Nat → Prop} (v : Int64) (h : mm_h) (K : ∀ w : Int32, Rt (some (mm_I w)) h (0, 0)) :
    mm_W vwCl ck_dt ck_mts ck_T13 [] false 2 0 0 (0) (0) prog_14_method_53_code (some .int) Rt (0, [(0, mm_J v)], [], h, 0, 0) := by
  refine mm_go_ok [] (N := fun z => mm_W vwCl ck_dt ck_mts ck_T13 [] false 2 0 0 (0) (0) prog_14_method_53_code (some .int) Rt z) (fun z h => h) 30 _ ?_
  simp only [mm_nn2, mm_one, mm_grp, mm_a, mm_b, mm_c, mm_bop, mm_d, mm_e, mm_ld, mm_sw, mm_k, mm_rt, mm_get, mm_put, mm_put2, mm_two, mm_rf, ck_tg, ck_chold, ck_cneg, List.elem_cons, List.elem_nil, List.find?_cons, List.filter_cons, List.filter_nil, Option.map_some, Nat.reduceBEq, Nat.reduceAdd, Bool.or_false, Bool.false_or, Bool.or_true, Bool.true_or, beq_self_eq_true, Bool.not_false, Bool.not_true, Bool.and_true, Bool.true_and, Bool.and_false, Bool.false_and, Bool.false_eq_true, ↓reduceIte, Fin.isValue, mm_f0, mm_f1, mm_f2, mm_f3, Nat.zero_mod, Nat.reduceMod, Option.some.injEq, Sum.inl.injEq, Sum.inr.injEq, exists_eq_left', List.find?_nil, List.length_cons, List.length_nil, true_and, and_true, Nat.reduceLT, Nat.reduceEqDiff, Int.reduceLE, Int.reduceAdd, Int.reduceToNat, Int.cast_ofNat_Int, Int.reduceNeg, Nat.reduceBeqDiff, Nat.zero_add, Prod.mk.injEq, mm_si_n, mm_si_s, mm_si_r, Option.toList_some, Option.toList_none, List.cons_append, List.nil_append, exists_eq', exists_eq, reduceCtorEq, false_and, and_false, false_or, or_false, exists_false, eq_self, and_self, mm_si_i, Int.reduceLT, mm_go_s dd_M_near_0, mm_go_s dd_M_near_1, mm_go_s dd_M_near_2, mm_go_s dd_M_near_3, mm_go_s dd_M_near_6, mm_go_s dd_M_near_7, mm_go_s dd_M_near_10, mm_go_s dd_M_near_11, mm_go_s dd_M_near_14, mm_go_s dd_M_near_15, mm_go_s dd_M_near_18, mm_go_s dd_M_near_21, mm_go_s dd_M_near_24, mm_go_s dd_M_near_25, mm_go_s dd_M_near_26, kt_0, kz, kb16_255, kt_255, kj13_248]
  exact ⟨fun _ => ⟨fun _ => ⟨rfl, K _⟩, fun _ => ⟨rfl, K _⟩⟩, fun _ => ⟨rfl, K _⟩⟩
theorem hk_near (l : Launch) (D : va_G) (st : Nat → Nat)   : hh_Met l D st (hc_near ) := by
  refine mm_sound (T := ck_T13) (cs := []) l ck_TSgood ck_okCl ck_okDt (M0 := ck_m227) rfl (by decide +kernel) ck_okT13 ck_nil ?_
  rintro us h - ⟨v, rfl⟩
  exact ⟨Nat.le_of_ble_eq_true rfl, hh_near v h (fun w => ⟨Nat.le_refl _, Nat.le_refl _, Nat.le_refl _, rfl, w, rfl⟩)⟩

