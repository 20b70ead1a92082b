/-! the class: calls on its cells; texts -/
section CCC
variable {T : mm_T} {cs : List mm_C} {nL FM LM : Nat} {cc : ByteArray} {ret : Option FieldType} {Rt : Option mm_v → mm_h → Nat × Nat → Prop} {pc : Nat} {L : List (Nat × mm_v)} {S : List mm_v} {h : mm_h} {i : Instr × Nat}
theorem cc_call (q : Nat × Nat × Nat) (M : ck_MT) (co : mm_C) (o : Nat) (us S' : List mm_v) (hd : decode cc pc = .ok i) (h1 : ck_inv i = some (q.1, 0)) (h2 : T.2.2.2.2.2.2.2.find? (fun z => z.1 == q.1) = some q) (h3 : q.2.1 < 6 ∧ q.2.1 % 3 = 0) (h4 : ck_mts[q.2.2]? = some M) (hs : mm_self vwCl M 0 (mm_A (some o) :: us) h) (h5 : co ∈ cs) (h6 : co.1 = q.2.2) (h7 : S = (mm_A (some o) :: us).reverse ++ S') (h9 : mm_wd S' ≤ 8) (h10 : co.2.1.1 + 1 ≤ FM ∧ 8 + (M.2.2.1 + 11) + co.2.1.2.1 ≤ LM) (h0 : co.2.1.2.2 = (0, 0)) (h12 : co.2.2.1 (mm_A (some o) :: us) h)
    (K : ∀ (r : Option mm_v) (h' : mm_h), co.2.2.2 (mm_A (some o) :: us) h r h' → mm_W vwCl ck_dt ck_mts T cs false nL 0 0 FM LM cc ret Rt (pc + 3, L, r.toList ++ S', h', 0, 0)) : mm_W vwCl ck_dt ck_mts T cs false nL 0 0 FM LM cc ret Rt (pc, L, S, h, 0, 0) := by
  refine mm_call_W (q.1, 0) q M co (mm_A (some o) :: us) S' hd h1 h2 h3 h4 h5 h6 h7 hs h9 h10 ⟨?_, ?_⟩ h12 (fun r h' a _ => ?_)
  · rw [h0]; decide
  · rw [h0]; decide
  · rw [h0]; exact K r h' a
theorem cc_callS (q : Nat × Nat × Nat) (M : ck_MT) (co : mm_C) (us S' : List mm_v) (hd : decode cc pc = .ok i) (h1 : ck_inv i = some (q.1, 1)) (h2 : T.2.2.2.2.2.2.2.find? (fun z => z.1 == q.1) = some q) (h3 : q.2.1 < 6 ∧ q.2.1 % 3 = 1) (h4 : ck_mts[q.2.2]? = some M) (hu : us.length = M.2.2.2.2) (h5 : co ∈ cs) (h6 : co.1 = q.2.2) (h7 : S = us.reverse ++ S') (h9 : mm_wd S' ≤ 8) (h10 : co.2.1.1 + 1 ≤ FM ∧ 8 + (M.2.2.1 + 11) + co.2.1.2.1 ≤ LM) (h0 : co.2.1.2.2 = (0, 0)) (h12 : co.2.2.1 us h)
    (K : ∀ (r : Option mm_v) (h' : mm_h), co.2.2.2 us h r h' → mm_W vwCl ck_dt ck_mts T cs false nL 0 0 FM LM cc ret Rt (pc + 3, L, r.toList ++ S', h', 0, 0)) : mm_W vwCl ck_dt ck_mts T cs false nL 0 0 FM LM cc ret Rt (pc, L, S, h, 0, 0) := by
  refine mm_call_W (q.1, 1) q M co us S' hd h1 h2 h3 h4 h5 h6 h7 hu h9 h10 ⟨?_, ?_⟩ h12 (fun r h' a _ => ?_)
  · rw [h0]; decide
  · rw [h0]; decide
  · rw [h0]; exact K r h' a
end CCC
abbrev ck_tl9 : List FieldType := [(.array .int), (.array .int)]
theorem gf10_9 {ini : Bool} {pc i : Nat} {L : List (Nat × mm_v)} {S : List mm_v} {h : mm_h} {k : Nat × Nat} {N : mm_s → Prop} : mm_f ck_T10.1 ck_dt ini pc (.getfield 9, 3) L (.inr (.inr (.inl (some i))) :: S) h k N = (i < h.1 ∧ (∃ n, h.2.1 i = .inl (9, n)) ∧ N (pc + 3, L, mm_A (h.2.2.2 i 0) :: S, h, k)) := mm_getf (q := (9, 9, 0, (.array .int), true)) (tl := ck_tl9) (t := (.array .int)) rfl rfl rfl
theorem gf10_15 {ini : Bool} {pc i : Nat} {L : List (Nat × mm_v)} {S : List mm_v} {h : mm_h} {k : Nat × Nat} {N : mm_s → Prop} : mm_f ck_T10.1 ck_dt ini pc (.getfield 15, 3) L (.inr (.inr (.inl (some i))) :: S) h k N = (i < h.1 ∧ (∃ n, h.2.1 i = .inl (9, n)) ∧ N (pc + 3, L, mm_A (h.2.2.2 i 1) :: S, h, k)) := mm_getf (q := (15, 9, 1, (.array .int), true)) (tl := ck_tl9) (t := (.array .int)) rfl rfl rfl
theorem ml10_3 : ck_T10.2.2.2.2.2.2.2.find? (fun q => q.1 == 3) = some (3, 7, 0) := by decide

theorem dd_Text_clauseCount_0 : decode prog_11_method_2_code 0 = .ok (.aload_n 0, 1) := by decide +kernel
theorem dd_Text_clauseCount_1 : decode prog_11_method_2_code 1 = .ok (.getfield 9, 3) := by decide +kernel
theorem dd_Text_clauseCount_4 : decode prog_11_method_2_code 4 = .ok (.arraylength, 1) := by decide +kernel
theorem dd_Text_clauseCount_5 : decode prog_11_method_2_code 5 = .ok (.iconst 4, 1) := by decide +kernel
theorem dd_Text_clauseCount_6 : decode prog_11_method_2_code 6 = .ok (.idiv, 1) := by decide +kernel
theorem dd_Text_clauseCount_7 : decode prog_11_method_2_code 7 = .ok (.ireturn, 1) := by decide +kernel
theorem dd_Text_clause_0 : decode prog_11_method_3_code 0 = .ok (.iload_n 1, 1) := by decide +kernel
theorem dd_Text_clause_1 : decode prog_11_method_3_code 1 = .ok (.iconst 4, 1) := by decide +kernel
theorem dd_Text_clause_2 : decode prog_11_method_3_code 2 = .ok (.imul, 1) := by decide +kernel
theorem dd_Text_clause_3 : decode prog_11_method_3_code 3 = .ok (.iload_n 2, 1) := by decide +kernel
theorem dd_Text_clause_4 : decode prog_11_method_3_code 4 = .ok (.iadd, 1) := by decide +kernel
theorem dd_Text_clause_5 : decode prog_11_method_3_code 5 = .ok (.istore_n 3, 1) := by decide +kernel
theorem dd_Text_clause_6 : decode prog_11_method_3_code 6 = .ok (.iload_n 3, 1) := by decide +kernel
theorem dd_Text_clause_7 : decode prog_11_method_3_code 7 = .ok (.ifCond .lt 21, 3) := by decide +kernel
theorem dd_Text_clause_10 : decode prog_11_method_3_code 10 = .ok (.iload_n 3, 1) := by decide +kernel
theorem dd_Text_clause_11 : decode prog_11_method_3_code 11 = .ok (.aload_n 0, 1) := by decide +kernel
theorem dd_Text_clause_12 : decode prog_11_method_3_code 12 = .ok (.getfield 9, 3) := by decide +kernel
theorem dd_Text_clause_15 : decode prog_11_method_3_code 15 = .ok (.arraylength, 1) := by decide +kernel
theorem dd_Text_clause_16 : decode prog_11_method_3_code 16 = .ok (.if_icmp .ge 12, 3) := by decide +kernel
theorem dd_Text_clause_19 : decode prog_11_method_3_code 19 = .ok (.aload_n 0, 1) := by decide +kernel
theorem dd_Text_clause_20 : decode prog_11_method_3_code 20 = .ok (.getfield 9, 3) := by decide +kernel
theorem dd_Text_clause_23 : decode prog_11_method_3_code 23 = .ok (.iload_n 3, 1) := by decide +kernel
theorem dd_Text_clause_24 : decode prog_11_method_3_code 24 = .ok (.iaload, 1) := by decide +kernel
theorem dd_Text_clause_25 : decode prog_11_method_3_code 25 = .ok (.goto 4, 3) := by decide +kernel
theorem dd_Text_clause_28 : decode prog_11_method_3_code 28 = .ok (.iconst (-1), 1) := by decide +kernel
theorem dd_Text_clause_29 : decode prog_11_method_3_code 29 = .ok (.ireturn, 1) := by decide +kernel

/-- a text in the cell i, its rows r and s, how many numbers they have -/
def tx_at (h : mm_h) (i r s n m : Nat) : Prop := i < h.1 ∧ h.2.1 i = .inl (9, 2) ∧ h.2.2.2 i 0 = some r ∧ h.2.2.2 i 1 = some s ∧ (r < h.1 ∧ h.2.1 r = .inr (.int, n) ∧ n ≤ 1000 ∧ ∀ k, k < n → -1000 ≤ (h.2.2.1 r k).toInt ∧ (h.2.2.1 r k).toInt ≤ 1000) ∧ (s < h.1 ∧ h.2.1 s = .inr (.int, m) ∧ m ≤ 1000 ∧ ∀ k, k < m → -1000000 ≤ (h.2.2.1 s k).toInt ∧ (h.2.2.1 s k).toInt ≤ 1000000)
theorem ab_tx.at {h : mm_h} {v : mm_v} (a : ab_tx h 9 v) : ∃ i r s n m, v = mm_A (some i) ∧ tx_at h i r s n m := by
  obtain ⟨i, e, h1, h2, ⟨r, n, r1, r2, r3, r4, r5⟩, ⟨s, m, s1, s2, s3, s4, s5⟩⟩ := a
  refine ⟨i, r, s, n, m, e, h1, h2, r1, s1, ⟨r2, r3, r4, fun k hk => ?_⟩, ⟨s2, s3, s4, fun k hk => ?_⟩⟩
  · rcases r5 with z | z
    · omega
    · exact z.2 k hk
  · rcases s5 with z | z
    · omega
    · exact z.2 k hk
theorem on_n {n : Nat} (h : n ≤ 1000) : (Int32.ofNat n).toInt = n := nI_toInt (n := n) (by omega)
theorem hh_clauseCount {Rt : Option mm_v → mm_h → Nat × Nat → Prop} (h : mm_h) (i r s n m : Nat) (ht : tx_at h i r s n m) (K : ∀ v : Int32, v.toInt = ((n / 4 : Nat) : Int) → Rt (some (mm_I v)) h (0, 0)) :
    mm_W vwCl ck_dt ck_mts ck_T10 [] false 1 0 0 (0) (0) prog_11_method_2_code (some .int) Rt (0, [(0, mm_A (some i))], [], h, 0, 0) := by
  obtain ⟨h1, h2, h3, h4, ⟨r1, r2, r3, r4⟩, -⟩ := ht
  refine mm_go_ok [] (N := fun z => mm_W vwCl ck_dt ck_mts ck_T10 [] false 1 0 0 (0) (0) prog_11_method_2_code (some .int) Rt z) (fun z h => h) 10 _ ?_
  simp only [mm_nn2, mm_one, mm_grp, mm_a, mm_b, mm_c, mm_bop, mm_d, mm_e, mm_ld, mm_sw, mm_k, mm_rt, mm_get, mm_put, mm_put2, mm_two, mm_rf, ck_tg, ck_chold, ck_cneg, List.elem_cons, List.elem_nil, List.find?_cons, List.filter_cons, List.filter_nil, Option.map_some, Nat.reduceBEq, Nat.reduceAdd, Bool.or_false, Bool.false_or, Bool.or_true, Bool.true_or, beq_self_eq_true, Bool.not_false, Bool.not_true, Bool.and_true, Bool.true_and, Bool.and_false, Bool.false_and, Bool.false_eq_true, ↓reduceIte, Fin.isValue, mm_f0, mm_f1, mm_f2, mm_f3, Nat.zero_mod, Nat.reduceMod, Option.some.injEq, Sum.inl.injEq, Sum.inr.injEq, exists_eq_left', List.find?_nil, List.length_cons, List.length_nil, true_and, and_true, Nat.reduceLT, Nat.reduceEqDiff, Int.reduceLE, Int.reduceAdd, Int.reduceToNat, Int.cast_ofNat_Int, Int.reduceNeg, Nat.reduceBeqDiff, Nat.zero_add, Prod.mk.injEq, mm_si_n, mm_si_s, mm_si_r, Option.toList_some, Option.toList_none, List.cons_append, List.nil_append, exists_eq', exists_eq, reduceCtorEq, false_and, and_false, false_or, or_false, exists_false, eq_self, and_self, mm_si_i, Int.reduceLT, mm_go_s dd_Text_clauseCount_0, mm_go_s dd_Text_clauseCount_1, mm_go_s dd_Text_clauseCount_4, mm_go_s dd_Text_clauseCount_5, mm_go_s dd_Text_clauseCount_6, mm_go_s dd_Text_clauseCount_7, kt_4, gf10_9, h1, h2, h3, r1, r2]
  refine ⟨by decide, rfl, K _ ?_⟩
  rw [ck_divI (by decide), on_n r3, kt_4]
  rfl
def hc_clauseCount : mm_C := (66, (0, 0, 0, 0), (fun us h => ∃ i r s n m, us = [mm_A (some i)] ∧ tx_at h i r s n m), fun us h r h' => h = h' ∧ ∃ v : Int32, r = some (mm_I v) ∧ ∀ i r s n m, us = [mm_A (some i)] → tx_at h i r s n m → v.toInt = ((n / 4 : Nat) : Int))
theorem tx_at.same {h : mm_h} {i r s n m r' s' n' m' : Nat} (a : tx_at h i r s n m) (b : tx_at h i r' s' n' m') : r' = r ∧ s' = s ∧ n' = n ∧ m' = m := by
  have e1 : r' = r := Option.some.inj (b.2.2.1.symm.trans a.2.2.1)
  have e2 : s' = s := Option.some.inj (b.2.2.2.1.symm.trans a.2.2.2.1)
  subst e1 e2
  have e3 := Sum.inr.inj (b.2.2.2.2.1.2.1.symm.trans a.2.2.2.2.1.2.1)
  have e4 := Sum.inr.inj (b.2.2.2.2.2.2.1.symm.trans a.2.2.2.2.2.2.1)
  exact ⟨rfl, rfl, (Prod.mk.inj e3).2, (Prod.mk.inj e4).2⟩
theorem hk_clauseCount (l : Launch) (D : va_G) (st : Nat → Nat)   : hh_Met l D st (hc_clauseCount ) := by
  refine mm_sound (T := ck_T10) (cs := []) l ck_TSgood ck_okCl ck_okDt (M0 := ck_m66) rfl (by decide +kernel) ck_okT10 ck_nil ?_
  rintro us h - ⟨i, r, s, n, m, rfl, ht⟩
  exact ⟨Nat.le_of_ble_eq_true rfl, hh_clauseCount h i r s n m ht (fun v e => ⟨Nat.le_refl _, Nat.le_refl _, Nat.le_refl _, rfl, v, rfl, fun i' r' s' n' m' eu ht' => by obtain rfl : i = i' := Option.some.inj (Sum.inl.inj (Sum.inr.inj (Sum.inr.inj (List.cons.inj eu).1))); obtain ⟨-, -, rfl, -⟩ := ht.same ht'; exact e⟩)⟩

/-- what a clause has at a place -/
def tx_cl (h : mm_h) (r n : Nat) (x y : Int32) : Int32 := if 0 ≤ (x * Int32.ofInt 4 + y).toInt ∧ (x * Int32.ofInt 4 + y).toInt < (n : Int) then h.2.2.1 r (x * Int32.ofInt 4 + y).toInt.toNat else Int32.ofInt (-1)
theorem tx_at.cl {h : mm_h} {i r s n m : Nat} (a : tx_at h i r s n m) (x y : Int32) : -1000 ≤ (tx_cl h r n x y).toInt ∧ (tx_cl h r n x y).toInt ≤ 1000 := by
  unfold tx_cl
  split
  · rename_i c
    exact a.2.2.2.2.1.2.2.2 _ (by omega)
  · decide
theorem hh_clause {Rt : Option mm_v → mm_h → Nat × Nat → Prop} (h : mm_h) (i r s n m : Nat) (ht : tx_at h i r s n m) (x y : Int32) (K : Rt (some (mm_I (tx_cl h r n x y))) h (0, 0)) :
    mm_W vwCl ck_dt ck_mts ck_T10 [] false 4 0 0 (0) (0) prog_11_method_3_code (some .int) Rt (0, [(0, mm_A (some i)), (1, mm_I x), (2, mm_I y)], [], h, 0, 0) := by
  obtain ⟨h1, h2, h3, h4, ⟨r1, r2, r3, r4⟩, -⟩ := ht
  unfold tx_cl at K
  refine mm_go_ok [] (N := fun z => mm_W vwCl ck_dt ck_mts ck_T10 [] false 4 0 0 (0) (0) prog_11_method_3_code (some .int) Rt z) (fun z h => h) 30 _ ?_
  simp only [mm_nn2, mm_one, mm_grp, mm_a, mm_b, mm_c, mm_bop, mm_d, mm_e, mm_ld, mm_sw, mm_k, mm_rt, mm_get, mm_put, mm_put2, mm_two, mm_rf, ck_tg, ck_chold, ck_cneg, List.elem_cons, List.elem_nil, List.find?_cons, List.filter_cons, List.filter_nil, Option.map_some, Nat.reduceBEq, Nat.reduceAdd, Bool.or_false, Bool.false_or, Bool.or_true, Bool.true_or, beq_self_eq_true, Bool.not_false, Bool.not_true, Bool.and_true, Bool.true_and, Bool.and_false, Bool.false_and, Bool.false_eq_true, ↓reduceIte, Fin.isValue, mm_f0, mm_f1, mm_f2, mm_f3, Nat.zero_mod, Nat.reduceMod, Option.some.injEq, Sum.inl.injEq, Sum.inr.injEq, exists_eq_left', List.find?_nil, List.length_cons, List.length_nil, true_and, and_true, Nat.reduceLT, Nat.reduceEqDiff, Int.reduceLE, Int.reduceAdd, Int.reduceToNat, Int.cast_ofNat_Int, Int.reduceNeg, Nat.reduceBeqDiff, Nat.zero_add, Prod.mk.injEq, mm_si_n, mm_si_s, mm_si_r, Option.toList_some, Option.toList_none, List.cons_append, List.nil_append, exists_eq', exists_eq, reduceCtorEq, false_and, and_false, false_or, or_false, exists_false, eq_self, and_self, mm_si_i, Int.reduceLT, mm_go_s dd_Text_clause_0, mm_go_s dd_Text_clause_1, mm_go_s dd_Text_clause_2, mm_go_s dd_Text_clause_3, mm_go_s dd_Text_clause_4, mm_go_s dd_Text_clause_5, mm_go_s dd_Text_clause_6, mm_go_s dd_Text_clause_7, mm_go_s dd_Text_clause_10, mm_go_s dd_Text_clause_11, mm_go_s dd_Text_clause_12, mm_go_s dd_Text_clause_15, mm_go_s dd_Text_clause_16, mm_go_s dd_Text_clause_19, mm_go_s dd_Text_clause_20, mm_go_s dd_Text_clause_23, mm_go_s dd_Text_clause_24, mm_go_s dd_Text_clause_25, mm_go_s dd_Text_clause_28, mm_go_s dd_Text_clause_29, kt_m1, kt_4, kt_0, kz, gf10_9, h1, h2, h3, r1, r2, on_n r3]
  refine ⟨fun c => ⟨rfl, ?_⟩, fun c => ⟨fun d => ⟨rfl, ?_⟩, fun d => ⟨c, d, rfl, ?_⟩⟩⟩
  · rw [if_neg (by omega)] at K; exact K
  · rw [if_neg (by omega)] at K; exact K
  · rw [if_pos ⟨c, d⟩] at K; exact K
def hc_clause : mm_C := (67, (0, 0, 0, 0), (fun us h => ∃ i r s n m, ∃ x y : Int32, us = [mm_A (some i), mm_I x, mm_I y] ∧ tx_at h i r s n m), fun us h r h' => h = h' ∧ match us with
  | [.inr (.inr (.inl (some i))), .inl x, .inl y] => ∃ v : Int32, r = some (mm_I v) ∧ ∀ r s n m, tx_at h i r s n m → v = tx_cl h r n x y
  | _ => False)
theorem hk_clause (l : Launch) (D : va_G) (st : Nat → Nat)   : hh_Met l D st (hc_clause ) := by
  refine mm_sound (T := ck_T10) (cs := []) l ck_TSgood ck_okCl ck_okDt (M0 := ck_m67) rfl (by decide +kernel) ck_okT10 ck_nil ?_
  rintro us h - ⟨i, r, s, n, m, x, y, rfl, ht⟩
  exact ⟨Nat.le_of_ble_eq_true rfl, hh_clause h i r s n m ht x y ⟨Nat.le_refl _, Nat.le_refl _, Nat.le_refl _, rfl, _, rfl, fun r' s' n' m' ht' => by obtain ⟨rfl, rfl, rfl, rfl⟩ := ht.same ht'; rfl⟩⟩

def co_clauseCount : ab_C := (66, 101, [.inr (4, 9)], [], [], [(some (.inl (0, 250)), [], [], 101)], 0, 0, 0, 0)
theorem hk_clauseCountT (l : Launch) (D : va_G) (st : Nat → Nat) : hh_Met l D st (ab_m gk_G ck_sh co_clauseCount) := by
  refine mm_sound (T := ck_T10) (cs := []) l ck_TSgood ck_okCl ck_okDt (M0 := ck_m66) rfl (by decide +kernel) ck_okT10 ck_nil ?_
  rintro us h - ⟨hsh, hav, hgd⟩
  obtain ⟨v, us1, rfl, hv, hav1⟩ := ab_av.cons hav
  obtain rfl := ab_av.nil hav1
  obtain ⟨i, r, s, n, m, rfl, ht⟩ := ab_tx.at hv
  have hn := ht.2.2.2.2.1.2.2.1
  exact ⟨Nat.le_of_ble_eq_true rfl, hh_clauseCount h i r s n m ht (fun v e => ⟨Nat.le_refl _, Nat.le_refl _, Nat.le_refl _, _, .head _, ⟨v, rfl, by omega, by show v.toInt ≤ 250; omega⟩, trivial, (fun x hx => by cases hx), hsh, ab_fr.rf⟩)⟩
def co_clause : ab_C := (67, 101, [.inr (4, 9), ck_all, ck_all], [], [], [(some (.inl (-1000, 1000)), [(-2147483648, 2147483647), (-2147483648, 2147483647)], [], 101)], 0, 0, 0, 0)
theorem hk_clauseT (l : Launch) (D : va_G) (st : Nat → Nat) : hh_Met l D st (ab_m gk_G ck_sh co_clause) := by
  refine mm_sound (T := ck_T10) (cs := []) l ck_TSgood ck_okCl ck_okDt (M0 := ck_m67) rfl (by decide +kernel) ck_okT10 ck_nil ?_
  rintro us h - ⟨hsh, hav, hgd⟩
  obtain ⟨v, us1, rfl, hv, hav1⟩ := ab_av.cons hav
  obtain ⟨x, us2, rfl, hx, hav2⟩ := ab_av.num hav1
  obtain ⟨y, us3, rfl, hy, hav3⟩ := ab_av.num hav2
  obtain rfl := ab_av.nil hav3
  obtain ⟨i, r, s, n, m, rfl, ht⟩ := ab_tx.at hv
  exact ⟨Nat.le_of_ble_eq_true rfl, hh_clause h i r s n m ht x y ⟨Nat.le_refl _, Nat.le_refl _, Nat.le_refl _, _, .head _, ⟨_, rfl, ht.cl x y⟩, ⟨hx.1, hx.2, hy.1, hy.2, trivial⟩, (fun x hx => by cases hx), hsh, ab_fr.rf⟩⟩
