/-! sets of stones as bits -/
theorem bs_bit {x s : Int32} {σ j : Nat} (hx : x.toInt = σ) (hs : s.toInt = j) (hj : j ≤ 31) : ((x >>> (s &&& 31)) &&& Int32.ofInt 1).toInt = if σ.testBit j = true then 1 else 0 := by
  have h1 := ck_shrI (x := x) (y := s) (by omega) (by omega)
  rw [hx, hs, Int.toNat_natCast] at h1
  have h2 : (x >>> (s &&& 31)).toInt = ((σ / 2 ^ j : Nat) : Int) := by rw [h1]; norm_cast
  have h3 := ck_isnI (y := x >>> (s &&& 31)) (by rw [h2]; exact Int.natCast_nonneg _)
  rw [h2, Int.toNat_natCast] at h3
  have hb : σ / 2 ^ j < 2 ^ 32 := by
    have := (ck_i32 (x >>> (s &&& 31))).2
    omega
  rw [h3, pk_andN hb 1 (by decide), nI_toInt (by omega), Nat.testBit_eq_decide_div_mod_eq]
  by_cases c : σ / 2 ^ j % 2 = 1
  · simp [c]
  · have : σ / 2 ^ j % 2 = 0 := by omega
    simp [this]
theorem bs_or {x s : Int32} {σ j : Nat} (hx : x.toInt = σ) (hs : s.toInt = j) (hj : j < 12) (hσ : σ < 4096) : (x ||| (Int32.ofInt 1 <<< (s &&& 31))).toInt = ((σ ||| 2 ^ j : Nat) : Int) := by
  have hp : 2 ^ j < 2 ^ 12 := Nat.pow_lt_pow_right (by decide) hj
  have h1 := ck_shlI (x := Int32.ofInt 1) (y := s) (by decide) (by omega) (by omega) (by
    rw [hs, Int.toNat_natCast, kt_1, Int.one_mul]
    have : ((2 ^ j : Nat) : Int) < ((2 ^ 12 : Nat) : Int) := by exact_mod_cast hp
    have e : ((2 ^ j : Nat) : Int) = (2 : Int) ^ j := Int.natCast_pow 2 j
    omega)
  rw [kt_1, hs, Int.toNat_natCast, Int.one_mul] at h1
  have e : ((2 ^ j : Nat) : Int) = (2 : Int) ^ j := Int.natCast_pow 2 j
  rw [← e] at h1
  have a := ck_nat (x := x) (by omega)
  have b := ck_nat (x := Int32.ofInt 1 <<< (s &&& 31)) (by rw [h1]; exact Int.natCast_nonneg _)
  have c := ck_orN x (Int32.ofInt 1 <<< (s &&& 31))
  have a' : x.toBitVec.toNat = σ := by omega
  have b' : (Int32.ofInt 1 <<< (s &&& 31)).toBitVec.toNat = 2 ^ j := Int.ofNat.inj (b.symm.trans h1)
  rw [a', b'] at c
  have d : σ ||| 2 ^ j < 2 ^ 12 := Nat.or_lt_two_pow hσ hp
  rw [ck_ofnat (by rw [c]; omega), c]
theorem bs_lt {σ j : Nat} (h : σ.testBit j = false) : σ < σ ||| 2 ^ j := by
  refine Nat.lt_of_le_of_ne Nat.left_le_or (fun e => ?_)
  have := congrArg (fun z => Nat.testBit z j) e
  simp only [Nat.testBit_or, Nat.testBit_two_pow_self, Bool.or_true, h] at this
  cases this
theorem bs_up {σ j m : Nat} (hσ : σ < 2 ^ m) (hj : j < m) : σ ||| 2 ^ j < 2 ^ m := Nat.or_lt_two_pow hσ (Nat.pow_lt_pow_right (by decide) hj)
theorem bs_free {σ m : Nat} (hσ : σ < 2 ^ m) (hn : σ ≠ 2 ^ m - 1) : ∃ j, j < m ∧ σ.testBit j = false := by
  by_cases c : ∃ j, j < m ∧ σ.testBit j = false
  · exact c
  · refine absurd (Nat.eq_of_testBit_eq (fun i => ?_)) hn
    rw [Nat.testBit_two_pow_sub_one]
    by_cases hi : i < m
    · rw [decide_eq_true hi]
      cases h : σ.testBit i with
      | true => rfl
      | false => exact absurd ⟨i, hi, h⟩ c
    · rw [decide_eq_false hi]
      exact Nat.testBit_lt_two_pow (Nat.lt_of_lt_of_le hσ (Nat.pow_le_pow_right (by decide) (by omega)))
def bs_pc (σ : Nat) : Nat → Nat
  | 0 => 0
  | m + 1 => bs_pc σ m + (if σ.testBit m = true then 1 else 0)
theorem bs_pc_or {σ j : Nat} (h : σ.testBit j = false) : ∀ m, bs_pc (σ ||| 2 ^ j) m = bs_pc σ m + (if j < m then 1 else 0)
  | 0 => rfl
  | m + 1 => by
    show bs_pc (σ ||| 2 ^ j) m + (if (σ ||| 2 ^ j).testBit m = true then 1 else 0) = bs_pc σ m + (if σ.testBit m = true then 1 else 0) + (if j < m + 1 then 1 else 0)
    rw [bs_pc_or h m, Nat.testBit_or]
    by_cases c : j = m
    · subst c
      rw [h, Nat.testBit_two_pow_self]
      simp
    · rw [Nat.testBit_two_pow_of_ne (by omega), Bool.or_false]
      by_cases d : j < m
      · rw [if_pos d, if_pos (show j < m + 1 by omega)]
        omega
      · rw [if_neg d, if_neg (show ¬ j < m + 1 by omega)]
        omega
theorem bs_pc_all {m : Nat} : ∀ k, k ≤ m → bs_pc (2 ^ m - 1) k = k
  | 0, _ => rfl
  | k + 1, h => by
    show bs_pc (2 ^ m - 1) k + (if (2 ^ m - 1).testBit k = true then 1 else 0) = k + 1
    rw [bs_pc_all k (by omega), Nat.testBit_two_pow_sub_one, decide_eq_true (by omega)]
    rfl
/-! the reference: many, against -/
theorem dd_M_many_0 : decode prog_14_method_7_code 0 = .ok (.aload_n 0, 1) := by decide +kernel
theorem dd_M_many_1 : decode prog_14_method_7_code 1 = .ok (.getfield 13, 3) := by decide +kernel
theorem dd_M_many_4 : decode prog_14_method_7_code 4 = .ok (.sipush 1292, 3) := by decide +kernel
theorem dd_M_many_7 : decode prog_14_method_7_code 7 = .ok (.iaload, 1) := by decide +kernel
theorem dd_M_many_8 : decode prog_14_method_7_code 8 = .ok (.ireturn, 1) := by decide +kernel
theorem dd_M_against_0 : decode prog_14_method_77_code 0 = .ok (.iconst 0, 1) := by decide +kernel
theorem dd_M_against_1 : decode prog_14_method_77_code 1 = .ok (.istore_n 3, 1) := by decide +kernel
theorem dd_M_against_2 : decode prog_14_method_77_code 2 = .ok (.iconst 0, 1) := by decide +kernel
theorem dd_M_against_3 : decode prog_14_method_77_code 3 = .ok (.istore 4, 2) := by decide +kernel
theorem dd_M_against_5 : decode prog_14_method_77_code 5 = .ok (.iload 4, 2) := by decide +kernel
theorem dd_M_against_7 : decode prog_14_method_77_code 7 = .ok (.aload_n 0, 1) := by decide +kernel
theorem dd_M_against_8 : decode prog_14_method_77_code 8 = .ok (.invokevirtual 103, 3) := by decide +kernel
theorem dd_M_against_11 : decode prog_14_method_77_code 11 = .ok (.if_icmp .ge 38, 3) := by decide +kernel
theorem dd_M_against_14 : decode prog_14_method_77_code 14 = .ok (.iload_n 3, 1) := by decide +kernel
theorem dd_M_against_15 : decode prog_14_method_77_code 15 = .ok (.iload_n 1, 1) := by decide +kernel
theorem dd_M_against_16 : decode prog_14_method_77_code 16 = .ok (.iload 4, 2) := by decide +kernel
theorem dd_M_against_18 : decode prog_14_method_77_code 18 = .ok (.ishr, 1) := by decide +kernel
theorem dd_M_against_19 : decode prog_14_method_77_code 19 = .ok (.iconst 1, 1) := by decide +kernel
theorem dd_M_against_20 : decode prog_14_method_77_code 20 = .ok (.iand, 1) := by decide +kernel
theorem dd_M_against_21 : decode prog_14_method_77_code 21 = .ok (.iconst 1, 1) := by decide +kernel
theorem dd_M_against_22 : decode prog_14_method_77_code 22 = .ok (.if_icmp .ne 18, 3) := by decide +kernel
theorem dd_M_against_25 : decode prog_14_method_77_code 25 = .ok (.aload_n 0, 1) := by decide +kernel
theorem dd_M_against_26 : decode prog_14_method_77_code 26 = .ok (.getfield 49, 3) := by decide +kernel
theorem dd_M_against_29 : decode prog_14_method_77_code 29 = .ok (.bipush 12, 2) := by decide +kernel
theorem dd_M_against_31 : decode prog_14_method_77_code 31 = .ok (.iload_n 2, 1) := by decide +kernel
theorem dd_M_against_32 : decode prog_14_method_77_code 32 = .ok (.imul, 1) := by decide +kernel
theorem dd_M_against_33 : decode prog_14_method_77_code 33 = .ok (.iload 4, 2) := by decide +kernel
theorem dd_M_against_35 : decode prog_14_method_77_code 35 = .ok (.iadd, 1) := by decide +kernel
theorem dd_M_against_36 : decode prog_14_method_77_code 36 = .ok (.iaload, 1) := by decide +kernel
theorem dd_M_against_37 : decode prog_14_method_77_code 37 = .ok (.goto 4, 3) := by decide +kernel
theorem dd_M_against_40 : decode prog_14_method_77_code 40 = .ok (.iconst 0, 1) := by decide +kernel
theorem dd_M_against_41 : decode prog_14_method_77_code 41 = .ok (.iadd, 1) := by decide +kernel
theorem dd_M_against_42 : decode prog_14_method_77_code 42 = .ok (.istore_n 3, 1) := by decide +kernel
theorem dd_M_against_43 : decode prog_14_method_77_code 43 = .ok (.iinc 4 1, 3) := by decide +kernel
theorem dd_M_against_46 : decode prog_14_method_77_code 46 = .ok (.goto (-41), 3) := by decide +kernel
theorem dd_M_against_49 : decode prog_14_method_77_code 49 = .ok (.iload_n 3, 1) := by decide +kernel
theorem dd_M_against_50 : decode prog_14_method_77_code 50 = .ok (.ireturn, 1) := by decide +kernel

def hc_many : mm_C := (179, (0, 0, 0, 0), (fun us h => rr_A h ∧ us = [mm_A (some 77)]), fun _ h r h' => h = h' ∧ r = some (mm_I (h.2.2.1 78 1292)))
theorem hh_many {Rt : Option mm_v → mm_h → Nat × Nat → Prop} (h : mm_h) (hA : rr_A h) (K : Rt (some (mm_I (h.2.2.1 78 1292))) h (0, 0)) :
    mm_W vwCl ck_dt ck_mts ck_T13 [] false 1 0 0 (0) (0) prog_14_method_7_code (some .int) Rt (0, [(0, mm_A (some 77))], [], h, 0, 0) := by
  refine mm_go_ok [] (N := fun z => mm_W vwCl ck_dt ck_mts ck_T13 [] false 1 0 0 (0) (0) prog_14_method_7_code (some .int) Rt z) (fun z h => h) 10 _ ?_
  simp only [mm_nn2, mm_one, mm_grp, mm_a, mm_b, mm_c, mm_bop, mm_d, mm_e, mm_ld, mm_sw, mm_k, mm_rt, mm_get, mm_put, mm_put2, mm_two, mm_rf, ck_tg, ck_chold, ck_cneg, List.elem_cons, List.elem_nil, List.find?_cons, List.filter_cons, List.filter_nil, Option.map_some, Nat.reduceBEq, Nat.reduceAdd, Bool.or_false, Bool.false_or, Bool.or_true, Bool.true_or, beq_self_eq_true, Bool.not_false, Bool.not_true, Bool.and_true, Bool.true_and, Bool.and_false, Bool.false_and, Bool.false_eq_true, ↓reduceIte, Fin.isValue, mm_f0, mm_f1, mm_f2, mm_f3, Nat.zero_mod, Nat.reduceMod, Option.some.injEq, Sum.inl.injEq, Sum.inr.injEq, exists_eq_left', List.find?_nil, List.length_cons, List.length_nil, true_and, and_true, Nat.reduceLT, Nat.reduceEqDiff, Int.reduceLE, Int.reduceAdd, Int.reduceToNat, Int.cast_ofNat_Int, Int.reduceNeg, Nat.reduceBeqDiff, Nat.zero_add, Prod.mk.injEq, mm_si_n, mm_si_s, mm_si_r, Option.toList_some, Option.toList_none, List.cons_append, List.nil_append, exists_eq', exists_eq, reduceCtorEq, false_and, and_false, false_or, or_false, exists_false, eq_self, and_self, mm_si_i, Int.reduceLT, mm_go_s dd_M_many_0, mm_go_s dd_M_many_1, mm_go_s dd_M_many_4, mm_go_s dd_M_many_7, mm_go_s dd_M_many_8, kb16_1292, kt_1292, gf13_13, rr_lt hA, rr_s77 hA, rr_s78 hA, rr_s79 hA, rr_s80 hA, rr_s81 hA, rr_s82 hA, rr_s83 hA, rr_s84 hA, rr_s85 hA, rr_s86 hA, rr_s87 hA, rr_s88 hA, rr_s89 hA, rr_s90 hA, rr_s91 hA, rr_s92 hA, rr_s93 hA, rr_s94 hA, rr_s95 hA, rr_s96 hA, rr_s97 hA, rr_s98 hA, rr_s99 hA, rr_s100 hA, rr_r1 hA, rr_r2 hA, rr_r3 hA, rr_r4 hA, rr_r5 hA, rr_r6 hA, rr_r9 hA, rr_r10 hA, rr_r11 hA, rr_r19 hA, rr_r24 hA, rr_r25 hA, rr_r26 hA, rr_r27 hA, rr_r28 hA, rr_r30 hA, rr_r31 hA, rr_r35 hA, rr_r36 hA, rr_r37 hA, rr_r38 hA, rr_r39 hA, rr_r40 hA]
  exact ⟨rfl, K⟩
theorem hk_many (l : Launch) (D : va_G) (st : Nat → Nat)   : hh_Met l D st (hc_many ) := by
  refine mm_sound (T := ck_T13) (cs := []) l ck_TSgood ck_okCl ck_okDt (M0 := ck_m179) rfl (by decide +kernel) ck_okT13 ck_nil ?_
  rintro us h - ⟨hA, rfl⟩
  exact ⟨Nat.le_of_ble_eq_true rfl, hh_many h hA ⟨Nat.le_refl _, Nat.le_refl _, Nat.le_refl _, rfl, rfl⟩⟩

def ag_k (sd : Nat → Int32) (x : Int32) (s : Nat) : Nat → Int32
  | 0 => Int32.ofInt 0
  | k + 1 => ag_k sd x s k + (if ((x >>> (Int32.ofInt (k : Int) &&& 31)) &&& Int32.ofInt 1).toInt = 1 then sd (12 * s + k) else Int32.ofInt 0)
def ag (h : mm_h) (x s : Int32) : Int32 := ag_k (h.2.2.1 88) x s.toInt.toNat (h.2.2.1 78 1292).toInt.toNat
def hc_against : mm_C := (249, (1, 30, 0, 0), (fun us h => rr_A h ∧ (0 ≤ (h.2.2.1 78 1292).toInt ∧ (h.2.2.1 78 1292).toInt ≤ 12) ∧ ∃ x s : Int32, us = [mm_A (some 77), mm_I x, mm_I s] ∧ 0 ≤ s.toInt ∧ s.toInt ≤ 11), fun us h r h' => h = h' ∧ match us with
  | [_, .inl x, .inl s] => r = some (mm_I (ag h x s))
  | _ => False)
theorem in_of {x : Int32} {k : Int} (h : x.toInt = k) : x = Int32.ofInt k := by rw [← h, Int32.ofInt_toInt]
theorem hh_against_l {Rt : Option mm_v → mm_h → Nat × Nat → Prop} (x s : Int32) (h : mm_h) (hA : rr_A h) (M : Nat) (hM : (h.2.2.1 78 1292).toInt = M) (hM12 : M ≤ 12) (hs : 0 ≤ s.toInt ∧ s.toInt ≤ 11) (K : Rt (some (mm_I (ag_k (h.2.2.1 88) x s.toInt.toNat M))) h (0, 0)) :
    ∀ (d k : Nat), k + d = M → mm_W vwCl ck_dt ck_mts ck_T13 [hc_many] false 5 0 0 (1) (30) prog_14_method_77_code (some .int) Rt (5, [(4, mm_I (Int32.ofInt (k : Int))), (3, mm_I (ag_k (h.2.2.1 88) x s.toInt.toNat k)), (0, mm_A (some 77)), (1, mm_I x), (2, mm_I s)], [], h, 0, 0) := by
  intro d
  induction d with
  | zero =>
    intro k hk
    have e : (Int32.ofInt (k : Int)).toInt = k := Int32.toInt_ofInt_of_le (by omega) (by omega)
    refine mm_go_ok [8] (N := fun z => mm_W vwCl ck_dt ck_mts ck_T13 [hc_many] false 5 0 0 (1) (30) prog_14_method_77_code (some .int) Rt z) (fun z h => h) 4 _ ?_
    simp only [mm_nn2, mm_one, mm_grp, mm_a, mm_b, mm_c, mm_bop, mm_d, mm_e, mm_ld, mm_sw, mm_k, mm_rt, mm_get, mm_put, mm_put2, mm_two, mm_rf, ck_tg, ck_chold, ck_cneg, List.elem_cons, List.elem_nil, List.find?_cons, List.filter_cons, List.filter_nil, Option.map_some, Nat.reduceBEq, Nat.reduceAdd, Bool.or_false, Bool.false_or, Bool.or_true, Bool.true_or, beq_self_eq_true, Bool.not_false, Bool.not_true, Bool.and_true, Bool.true_and, Bool.and_false, Bool.false_and, Bool.false_eq_true, ↓reduceIte, Fin.isValue, mm_f0, mm_f1, mm_f2, mm_f3, Nat.zero_mod, Nat.reduceMod, Option.some.injEq, Sum.inl.injEq, Sum.inr.injEq, exists_eq_left', List.find?_nil, List.length_cons, List.length_nil, true_and, and_true, Nat.reduceLT, Nat.reduceEqDiff, Int.reduceLE, Int.reduceAdd, Int.reduceToNat, Int.cast_ofNat_Int, Int.reduceNeg, Nat.reduceBeqDiff, Nat.zero_add, Prod.mk.injEq, mm_si_n, mm_si_s, mm_si_r, Option.toList_some, Option.toList_none, List.cons_append, List.nil_append, exists_eq', exists_eq, reduceCtorEq, false_and, and_false, false_or, or_false, exists_false, eq_self, and_self, mm_si_i, Int.reduceLT, mm_go_s dd_M_against_0, mm_go_s dd_M_against_1, mm_go_s dd_M_against_2, mm_go_s dd_M_against_3, mm_go_s dd_M_against_5, mm_go_s dd_M_against_7, mm_go_s dd_M_against_8, mm_go_s dd_M_against_11, mm_go_s dd_M_against_14, mm_go_s dd_M_against_15, mm_go_s dd_M_against_16, mm_go_s dd_M_against_18, mm_go_s dd_M_against_19, mm_go_s dd_M_against_20, mm_go_s dd_M_against_21, mm_go_s dd_M_against_22, mm_go_s dd_M_against_25, mm_go_s dd_M_against_26, mm_go_s dd_M_against_29, mm_go_s dd_M_against_31, mm_go_s dd_M_against_32, mm_go_s dd_M_against_33, mm_go_s dd_M_against_35, mm_go_s dd_M_against_36, mm_go_s dd_M_against_37, mm_go_s dd_M_against_40, mm_go_s dd_M_against_41, mm_go_s dd_M_against_42, mm_go_s dd_M_against_43, mm_go_s dd_M_against_46, mm_go_s dd_M_against_49, mm_go_s dd_M_against_50, kt_0, kt_1, kb8_12, kt_12, gf13_49, rr_lt hA, rr_s77 hA, rr_s78 hA, rr_s79 hA, rr_s80 hA, rr_s81 hA, rr_s82 hA, rr_s83 hA, rr_s84 hA, rr_s85 hA, rr_s86 hA, rr_s87 hA, rr_s88 hA, rr_s89 hA, rr_s90 hA, rr_s91 hA, rr_s92 hA, rr_s93 hA, rr_s94 hA, rr_s95 hA, rr_s96 hA, rr_s97 hA, rr_s98 hA, rr_s99 hA, rr_s100 hA, rr_r1 hA, rr_r2 hA, rr_r3 hA, rr_r4 hA, rr_r5 hA, rr_r6 hA, rr_r9 hA, rr_r10 hA, rr_r11 hA, rr_r19 hA, rr_r24 hA, rr_r25 hA, rr_r26 hA, rr_r27 hA, rr_r28 hA, rr_r30 hA, rr_r31 hA, rr_r35 hA, rr_r36 hA, rr_r37 hA, rr_r38 hA, rr_r39 hA, rr_r40 hA]
    refine rr_call (103, 0, 179) ck_m179 hc_many [] [mm_I (Int32.ofInt (k : Int))] hA dd_M_against_8 rfl ml13_103 (by decide) rfl rfl rfl (List.Mem.head _) rfl rfl (Nat.le_of_ble_eq_true rfl) ⟨by simp only [hc_many]; omega, by simp only [hc_many, ck_m179]; omega⟩ rfl ⟨hA, rfl⟩ ?_
    rintro r _ ⟨rfl, rfl⟩
    refine mm_go_ok [14] (N := fun z => mm_W vwCl ck_dt ck_mts ck_T13 [hc_many] false 5 0 0 (1) (30) prog_14_method_77_code (some .int) Rt z) (fun z h => h) 6 _ ?_
    simp only [mm_nn2, mm_one, mm_grp, mm_a, mm_b, mm_c, mm_bop, mm_d, mm_e, mm_ld, mm_sw, mm_k, mm_rt, mm_get, mm_put, mm_put2, mm_two, mm_rf, ck_tg, ck_chold, ck_cneg, List.elem_cons, List.elem_nil, List.find?_cons, List.filter_cons, List.filter_nil, Option.map_some, Nat.reduceBEq, Nat.reduceAdd, Bool.or_false, Bool.false_or, Bool.or_true, Bool.true_or, beq_self_eq_true, Bool.not_false, Bool.not_true, Bool.and_true, Bool.true_and, Bool.and_false, Bool.false_and, Bool.false_eq_true, ↓reduceIte, Fin.isValue, mm_f0, mm_f1, mm_f2, mm_f3, Nat.zero_mod, Nat.reduceMod, Option.some.injEq, Sum.inl.injEq, Sum.inr.injEq, exists_eq_left', List.find?_nil, List.length_cons, List.length_nil, true_and, and_true, Nat.reduceLT, Nat.reduceEqDiff, Int.reduceLE, Int.reduceAdd, Int.reduceToNat, Int.cast_ofNat_Int, Int.reduceNeg, Nat.reduceBeqDiff, Nat.zero_add, Prod.mk.injEq, mm_si_n, mm_si_s, mm_si_r, Option.toList_some, Option.toList_none, List.cons_append, List.nil_append, exists_eq', exists_eq, reduceCtorEq, false_and, and_false, false_or, or_false, exists_false, eq_self, and_self, mm_si_i, Int.reduceLT, mm_go_s dd_M_against_0, mm_go_s dd_M_against_1, mm_go_s dd_M_against_2, mm_go_s dd_M_against_3, mm_go_s dd_M_against_5, mm_go_s dd_M_against_7, mm_go_s dd_M_against_8, mm_go_s dd_M_against_11, mm_go_s dd_M_against_14, mm_go_s dd_M_against_15, mm_go_s dd_M_against_16, mm_go_s dd_M_against_18, mm_go_s dd_M_against_19, mm_go_s dd_M_against_20, mm_go_s dd_M_against_21, mm_go_s dd_M_against_22, mm_go_s dd_M_against_25, mm_go_s dd_M_against_26, mm_go_s dd_M_against_29, mm_go_s dd_M_against_31, mm_go_s dd_M_against_32, mm_go_s dd_M_against_33, mm_go_s dd_M_against_35, mm_go_s dd_M_against_36, mm_go_s dd_M_against_37, mm_go_s dd_M_against_40, mm_go_s dd_M_against_41, mm_go_s dd_M_against_42, mm_go_s dd_M_against_43, mm_go_s dd_M_against_46, mm_go_s dd_M_against_49, mm_go_s dd_M_against_50, kt_0, kt_1, kb8_12, kt_12, gf13_49]
    obtain rfl : k = M := by omega
    exact ⟨fun _ => ⟨rfl, K⟩, fun c => by omega⟩
  | succ d ih =>
    intro k hk
    have e : (Int32.ofInt (k : Int)).toInt = k := Int32.toInt_ofInt_of_le (by omega) (by omega)
    refine mm_go_ok [8] (N := fun z => mm_W vwCl ck_dt ck_mts ck_T13 [hc_many] false 5 0 0 (1) (30) prog_14_method_77_code (some .int) Rt z) (fun z h => h) 4 _ ?_
    simp only [mm_nn2, mm_one, mm_grp, mm_a, mm_b, mm_c, mm_bop, mm_d, mm_e, mm_ld, mm_sw, mm_k, mm_rt, mm_get, mm_put, mm_put2, mm_two, mm_rf, ck_tg, ck_chold, ck_cneg, List.elem_cons, List.elem_nil, List.find?_cons, List.filter_cons, List.filter_nil, Option.map_some, Nat.reduceBEq, Nat.reduceAdd, Bool.or_false, Bool.false_or, Bool.or_true, Bool.true_or, beq_self_eq_true, Bool.not_false, Bool.not_true, Bool.and_true, Bool.true_and, Bool.and_false, Bool.false_and, Bool.false_eq_true, ↓reduceIte, Fin.isValue, mm_f0, mm_f1, mm_f2, mm_f3, Nat.zero_mod, Nat.reduceMod, Option.some.injEq, Sum.inl.injEq, Sum.inr.injEq, exists_eq_left', List.find?_nil, List.length_cons, List.length_nil, true_and, and_true, Nat.reduceLT, Nat.reduceEqDiff, Int.reduceLE, Int.reduceAdd, Int.reduceToNat, Int.cast_ofNat_Int, Int.reduceNeg, Nat.reduceBeqDiff, Nat.zero_add, Prod.mk.injEq, mm_si_n, mm_si_s, mm_si_r, Option.toList_some, Option.toList_none, List.cons_append, List.nil_append, exists_eq', exists_eq, reduceCtorEq, false_and, and_false, false_or, or_false, exists_false, eq_self, and_self, mm_si_i, Int.reduceLT, mm_go_s dd_M_against_0, mm_go_s dd_M_against_1, mm_go_s dd_M_against_2, mm_go_s dd_M_against_3, mm_go_s dd_M_against_5, mm_go_s dd_M_against_7, mm_go_s dd_M_against_8, mm_go_s dd_M_against_11, mm_go_s dd_M_against_14, mm_go_s dd_M_against_15, mm_go_s dd_M_against_16, mm_go_s dd_M_against_18, mm_go_s dd_M_against_19, mm_go_s dd_M_against_20, mm_go_s dd_M_against_21, mm_go_s dd_M_against_22, mm_go_s dd_M_against_25, mm_go_s dd_M_against_26, mm_go_s dd_M_against_29, mm_go_s dd_M_against_31, mm_go_s dd_M_against_32, mm_go_s dd_M_against_33, mm_go_s dd_M_against_35, mm_go_s dd_M_against_36, mm_go_s dd_M_against_37, mm_go_s dd_M_against_40, mm_go_s dd_M_against_41, mm_go_s dd_M_against_42, mm_go_s dd_M_against_43, mm_go_s dd_M_against_46, mm_go_s dd_M_against_49, mm_go_s dd_M_against_50, kt_0, kt_1, kb8_12, kt_12, gf13_49, rr_lt hA, rr_s77 hA, rr_s78 hA, rr_s79 hA, rr_s80 hA, rr_s81 hA, rr_s82 hA, rr_s83 hA, rr_s84 hA, rr_s85 hA, rr_s86 hA, rr_s87 hA, rr_s88 hA, rr_s89 hA, rr_s90 hA, rr_s91 hA, rr_s92 hA, rr_s93 hA, rr_s94 hA, rr_s95 hA, rr_s96 hA, rr_s97 hA, rr_s98 hA, rr_s99 hA, rr_s100 hA, rr_r1 hA, rr_r2 hA, rr_r3 hA, rr_r4 hA, rr_r5 hA, rr_r6 hA, rr_r9 hA, rr_r10 hA, rr_r11 hA, rr_r19 hA, rr_r24 hA, rr_r25 hA, rr_r26 hA, rr_r27 hA, rr_r28 hA, rr_r30 hA, rr_r31 hA, rr_r35 hA, rr_r36 hA, rr_r37 hA, rr_r38 hA, rr_r39 hA, rr_r40 hA]
    refine rr_call (103, 0, 179) ck_m179 hc_many [] [mm_I (Int32.ofInt (k : Int))] hA dd_M_against_8 rfl ml13_103 (by decide) rfl rfl rfl (List.Mem.head _) rfl rfl (Nat.le_of_ble_eq_true rfl) ⟨by simp only [hc_many]; omega, by simp only [hc_many, ck_m179]; omega⟩ rfl ⟨hA, rfl⟩ ?_
    rintro r _ ⟨rfl, rfl⟩
    have m1 : (Int32.ofInt 12 * s).toInt = 12 * s.toInt := by rw [ck_mulI (by rw [kt_12]; omega) (by rw [kt_12]; omega), kt_12]
    have m2 : (Int32.ofInt 12 * s + Int32.ofInt (k : Int)).toInt = ((12 * s.toInt.toNat + k : Nat) : Int) := by rw [ck_addI (by rw [m1, e]; omega) (by rw [m1, e]; omega), m1, e]; omega
    have m3 : Int32.ofInt (k : Int) + Int32.ofInt 1 = Int32.ofInt ((k + 1 : Nat) : Int) := in_of (by rw [ck_addI (by rw [kt_1, e]; omega) (by rw [kt_1, e]; omega), kt_1, e]; omega)
    have q := ih (k + 1) (by omega)
    refine mm_go_ok [5] (N := fun z => mm_W vwCl ck_dt ck_mts ck_T13 [hc_many] false 5 0 0 (1) (30) prog_14_method_77_code (some .int) Rt z) (fun z h => h) 30 _ ?_
    simp only [mm_nn2, mm_one, mm_grp, mm_a, mm_b, mm_c, mm_bop, mm_d, mm_e, mm_ld, mm_sw, mm_k, mm_rt, mm_get, mm_put, mm_put2, mm_two, mm_rf, ck_tg, ck_chold, ck_cneg, List.elem_cons, List.elem_nil, List.find?_cons, List.filter_cons, List.filter_nil, Option.map_some, Nat.reduceBEq, Nat.reduceAdd, Bool.or_false, Bool.false_or, Bool.or_true, Bool.true_or, beq_self_eq_true, Bool.not_false, Bool.not_true, Bool.and_true, Bool.true_and, Bool.and_false, Bool.false_and, Bool.false_eq_true, ↓reduceIte, Fin.isValue, mm_f0, mm_f1, mm_f2, mm_f3, Nat.zero_mod, Nat.reduceMod, Option.some.injEq, Sum.inl.injEq, Sum.inr.injEq, exists_eq_left', List.find?_nil, List.length_cons, List.length_nil, true_and, and_true, Nat.reduceLT, Nat.reduceEqDiff, Int.reduceLE, Int.reduceAdd, Int.reduceToNat, Int.cast_ofNat_Int, Int.reduceNeg, Nat.reduceBeqDiff, Nat.zero_add, Prod.mk.injEq, mm_si_n, mm_si_s, mm_si_r, Option.toList_some, Option.toList_none, List.cons_append, List.nil_append, exists_eq', exists_eq, reduceCtorEq, false_and, and_false, false_or, or_false, exists_false, eq_self, and_self, mm_si_i, Int.reduceLT, mm_go_s dd_M_against_0, mm_go_s dd_M_against_1, mm_go_s dd_M_against_2, mm_go_s dd_M_against_3, mm_go_s dd_M_against_5, mm_go_s dd_M_against_7, mm_go_s dd_M_against_8, mm_go_s dd_M_against_11, mm_go_s dd_M_against_14, mm_go_s dd_M_against_15, mm_go_s dd_M_against_16, mm_go_s dd_M_against_18, mm_go_s dd_M_against_19, mm_go_s dd_M_against_20, mm_go_s dd_M_against_21, mm_go_s dd_M_against_22, mm_go_s dd_M_against_25, mm_go_s dd_M_against_26, mm_go_s dd_M_against_29, mm_go_s dd_M_against_31, mm_go_s dd_M_against_32, mm_go_s dd_M_against_33, mm_go_s dd_M_against_35, mm_go_s dd_M_against_36, mm_go_s dd_M_against_37, mm_go_s dd_M_against_40, mm_go_s dd_M_against_41, mm_go_s dd_M_against_42, mm_go_s dd_M_against_43, mm_go_s dd_M_against_46, mm_go_s dd_M_against_49, mm_go_s dd_M_against_50, kt_0, kt_1, kb8_12, kt_12, gf13_49, rr_lt hA, rr_s77 hA, rr_s78 hA, rr_s79 hA, rr_s80 hA, rr_s81 hA, rr_s82 hA, rr_s83 hA, rr_s84 hA, rr_s85 hA, rr_s86 hA, rr_s87 hA, rr_s88 hA, rr_s89 hA, rr_s90 hA, rr_s91 hA, rr_s92 hA, rr_s93 hA, rr_s94 hA, rr_s95 hA, rr_s96 hA, rr_s97 hA, rr_s98 hA, rr_s99 hA, rr_s100 hA, rr_r1 hA, rr_r2 hA, rr_r3 hA, rr_r4 hA, rr_r5 hA, rr_r6 hA, rr_r9 hA, rr_r10 hA, rr_r11 hA, rr_r19 hA, rr_r24 hA, rr_r25 hA, rr_r26 hA, rr_r27 hA, rr_r28 hA, rr_r30 hA, rr_r31 hA, rr_r35 hA, rr_r36 hA, rr_r37 hA, rr_r38 hA, rr_r39 hA, rr_r40 hA]
    rw [m2, m3]
    simp only [Int.toNat_natCast]
    refine ⟨fun c => by omega, fun _ => ⟨fun c => ?_, fun c => ⟨by omega, by omega, ?_⟩⟩⟩
    · rw [show ag_k (h.2.2.1 88) x s.toInt.toNat (k + 1) = ag_k (h.2.2.1 88) x s.toInt.toNat k + (if ((x >>> (Int32.ofInt (k : Int) &&& 31)) &&& Int32.ofInt 1).toInt = 1 then h.2.2.1 88 (12 * s.toInt.toNat + k) else Int32.ofInt 0) from rfl, if_neg c] at q
      exact mm_W.sub q (mm_sub_of rfl)
    · rw [show ag_k (h.2.2.1 88) x s.toInt.toNat (k + 1) = ag_k (h.2.2.1 88) x s.toInt.toNat k + (if ((x >>> (Int32.ofInt (k : Int) &&& 31)) &&& Int32.ofInt 1).toInt = 1 then h.2.2.1 88 (12 * s.toInt.toNat + k) else Int32.ofInt 0) from rfl, if_pos c] at q
      exact mm_W.sub q (mm_sub_of rfl)
theorem hh_against {Rt : Option mm_v → mm_h → Nat × Nat → Prop} (x s : Int32) (h : mm_h) (hA : rr_A h) (hM : 0 ≤ (h.2.2.1 78 1292).toInt ∧ (h.2.2.1 78 1292).toInt ≤ 12) (hs : 0 ≤ s.toInt ∧ s.toInt ≤ 11) (K : Rt (some (mm_I (ag h x s))) h (0, 0)) :
    mm_W vwCl ck_dt ck_mts ck_T13 [hc_many] false 5 0 0 (1) (30) prog_14_method_77_code (some .int) Rt (0, [(0, mm_A (some 77)), (1, mm_I x), (2, mm_I s)], [], h, 0, 0) := by
  refine mm_go_ok [5] (N := fun z => mm_W vwCl ck_dt ck_mts ck_T13 [hc_many] false 5 0 0 (1) (30) prog_14_method_77_code (some .int) Rt z) (fun z h => h) 6 _ ?_
  simp only [mm_nn2, mm_one, mm_grp, mm_a, mm_b, mm_c, mm_bop, mm_d, mm_e, mm_ld, mm_sw, mm_k, mm_rt, mm_get, mm_put, mm_put2, mm_two, mm_rf, ck_tg, ck_chold, ck_cneg, List.elem_cons, List.elem_nil, List.find?_cons, List.filter_cons, List.filter_nil, Option.map_some, Nat.reduceBEq, Nat.reduceAdd, Bool.or_false, Bool.false_or, Bool.or_true, Bool.true_or, beq_self_eq_true, Bool.not_false, Bool.not_true, Bool.and_true, Bool.true_and, Bool.and_false, Bool.false_and, Bool.false_eq_true, ↓reduceIte, Fin.isValue, mm_f0, mm_f1, mm_f2, mm_f3, Nat.zero_mod, Nat.reduceMod, Option.some.injEq, Sum.inl.injEq, Sum.inr.injEq, exists_eq_left', List.find?_nil, List.length_cons, List.length_nil, true_and, and_true, Nat.reduceLT, Nat.reduceEqDiff, Int.reduceLE, Int.reduceAdd, Int.reduceToNat, Int.cast_ofNat_Int, Int.reduceNeg, Nat.reduceBeqDiff, Nat.zero_add, Prod.mk.injEq, mm_si_n, mm_si_s, mm_si_r, Option.toList_some, Option.toList_none, List.cons_append, List.nil_append, exists_eq', exists_eq, reduceCtorEq, false_and, and_false, false_or, or_false, exists_false, eq_self, and_self, mm_si_i, Int.reduceLT, mm_go_s dd_M_against_0, mm_go_s dd_M_against_1, mm_go_s dd_M_against_2, mm_go_s dd_M_against_3, mm_go_s dd_M_against_5, mm_go_s dd_M_against_7, mm_go_s dd_M_against_8, mm_go_s dd_M_against_11, mm_go_s dd_M_against_14, mm_go_s dd_M_against_15, mm_go_s dd_M_against_16, mm_go_s dd_M_against_18, mm_go_s dd_M_against_19, mm_go_s dd_M_against_20, mm_go_s dd_M_against_21, mm_go_s dd_M_against_22, mm_go_s dd_M_against_25, mm_go_s dd_M_against_26, mm_go_s dd_M_against_29, mm_go_s dd_M_against_31, mm_go_s dd_M_against_32, mm_go_s dd_M_against_33, mm_go_s dd_M_against_35, mm_go_s dd_M_against_36, mm_go_s dd_M_against_37, mm_go_s dd_M_against_40, mm_go_s dd_M_against_41, mm_go_s dd_M_against_42, mm_go_s dd_M_against_43, mm_go_s dd_M_against_46, mm_go_s dd_M_against_49, mm_go_s dd_M_against_50, kt_0, kt_1, kb8_12, kt_12, gf13_49]
  exact hh_against_l x s h hA (h.2.2.1 78 1292).toInt.toNat (by omega) (by omega) hs K (h.2.2.1 78 1292).toInt.toNat 0 (by omega)
theorem hk_against (l : Launch) (D : va_G) (st : Nat → Nat)   : hh_Met l D st (hc_against ) := by
  refine mm_sound (T := ck_T13) (cs := [hc_many]) l ck_TSgood ck_okCl ck_okDt (M0 := ck_m249) rfl (by decide +kernel) ck_okT13 (List.forall_mem_cons.mpr ⟨hk_many l D st , ck_nil⟩) ?_
  rintro us h - ⟨hA, hM, x, s, rfl, hs⟩
  exact ⟨Nat.le_of_ble_eq_true rfl, hh_against x s h hA hM hs ⟨Nat.le_refl _, Nat.le_refl _, Nat.le_refl _, rfl, rfl⟩⟩

