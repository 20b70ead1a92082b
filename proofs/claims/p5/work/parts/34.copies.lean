/-! the reference: in, refuses, good, image, back -/
theorem kt_0 : (Int32.ofInt 0).toInt = 0 := by decide
theorem kt_1 : (Int32.ofInt 1).toInt = 1 := by decide
theorem dd_M_in_0 : decode prog_14_method_1_code 0 = .ok (.iload_n 0, 1) := by decide +kernel
theorem dd_M_in_1 : decode prog_14_method_1_code 1 = .ok (.iload_n 1, 1) := by decide +kernel
theorem dd_M_in_2 : decode prog_14_method_1_code 2 = .ok (.if_icmp .lt 12, 3) := by decide +kernel
theorem dd_M_in_5 : decode prog_14_method_1_code 5 = .ok (.iload_n 0, 1) := by decide +kernel
theorem dd_M_in_6 : decode prog_14_method_1_code 6 = .ok (.iload_n 2, 1) := by decide +kernel
theorem dd_M_in_7 : decode prog_14_method_1_code 7 = .ok (.if_icmp .gt 7, 3) := by decide +kernel
theorem dd_M_in_10 : decode prog_14_method_1_code 10 = .ok (.iconst 1, 1) := by decide +kernel
theorem dd_M_in_11 : decode prog_14_method_1_code 11 = .ok (.goto 4, 3) := by decide +kernel
theorem dd_M_in_14 : decode prog_14_method_1_code 14 = .ok (.iconst 0, 1) := by decide +kernel
theorem dd_M_in_15 : decode prog_14_method_1_code 15 = .ok (.ireturn, 1) := by decide +kernel
theorem dd_M_refuses_0 : decode prog_14_method_2_code 0 = .ok (.aload_n 0, 1) := by decide +kernel
theorem dd_M_refuses_1 : decode prog_14_method_2_code 1 = .ok (.iload_n 1, 1) := by decide +kernel
theorem dd_M_refuses_2 : decode prog_14_method_2_code 2 = .ok (.putfield 3, 3) := by decide +kernel
theorem dd_M_refuses_5 : decode prog_14_method_2_code 5 = .ok (.iload_n 1, 1) := by decide +kernel
theorem dd_M_refuses_6 : decode prog_14_method_2_code 6 = .ok (.ireturn, 1) := by decide +kernel
theorem dd_M_good_0 : decode prog_14_method_3_code 0 = .ok (.aload_n 0, 1) := by decide +kernel
theorem dd_M_good_1 : decode prog_14_method_3_code 1 = .ok (.iconst 0, 1) := by decide +kernel
theorem dd_M_good_2 : decode prog_14_method_3_code 2 = .ok (.putfield 3, 3) := by decide +kernel
theorem dd_M_good_5 : decode prog_14_method_3_code 5 = .ok (.iload_n 1, 1) := by decide +kernel
theorem dd_M_good_6 : decode prog_14_method_3_code 6 = .ok (.ireturn, 1) := by decide +kernel
theorem kt_m1 : (Int32.ofInt (-1)).toInt = (-1) := by decide
theorem kz : (0 : Int32).toInt = 0 := by decide
theorem kb16_9310 : (Int16.ofInt 9310).toInt32 = Int32.ofInt 9310 := by decide
theorem kt_9310 : (Int32.ofInt 9310).toInt = 9310 := by decide
theorem dd_M_image_0 : decode prog_14_method_5_code 0 = .ok (.iload_n 1, 1) := by decide +kernel
theorem dd_M_image_1 : decode prog_14_method_5_code 1 = .ok (.iconst 0, 1) := by decide +kernel
theorem dd_M_image_2 : decode prog_14_method_5_code 2 = .ok (.iconst 1, 1) := by decide +kernel
theorem dd_M_image_3 : decode prog_14_method_5_code 3 = .ok (.invokestatic 92, 3) := by decide +kernel
theorem dd_M_image_6 : decode prog_14_method_5_code 6 = .ok (.ifCond .ne 9, 3) := by decide +kernel
theorem dd_M_image_9 : decode prog_14_method_5_code 9 = .ok (.aload_n 0, 1) := by decide +kernel
theorem dd_M_image_10 : decode prog_14_method_5_code 10 = .ok (.iconst (-1), 1) := by decide +kernel
theorem dd_M_image_11 : decode prog_14_method_5_code 11 = .ok (.invokevirtual 96, 3) := by decide +kernel
theorem dd_M_image_14 : decode prog_14_method_5_code 14 = .ok (.ireturn, 1) := by decide +kernel
theorem dd_M_image_15 : decode prog_14_method_5_code 15 = .ok (.iconst 0, 1) := by decide +kernel
theorem dd_M_image_16 : decode prog_14_method_5_code 16 = .ok (.istore_n 2, 1) := by decide +kernel
theorem dd_M_image_17 : decode prog_14_method_5_code 17 = .ok (.iload_n 2, 1) := by decide +kernel
theorem dd_M_image_18 : decode prog_14_method_5_code 18 = .ok (.sipush 9310, 3) := by decide +kernel
theorem dd_M_image_21 : decode prog_14_method_5_code 21 = .ok (.if_icmp .ge 27, 3) := by decide +kernel
theorem dd_M_image_24 : decode prog_14_method_5_code 24 = .ok (.aload_n 0, 1) := by decide +kernel
theorem dd_M_image_25 : decode prog_14_method_5_code 25 = .ok (.getfield 17, 3) := by decide +kernel
theorem dd_M_image_28 : decode prog_14_method_5_code 28 = .ok (.sipush 9310, 3) := by decide +kernel
theorem dd_M_image_31 : decode prog_14_method_5_code 31 = .ok (.iload_n 1, 1) := by decide +kernel
theorem dd_M_image_32 : decode prog_14_method_5_code 32 = .ok (.imul, 1) := by decide +kernel
theorem dd_M_image_33 : decode prog_14_method_5_code 33 = .ok (.iload_n 2, 1) := by decide +kernel
theorem dd_M_image_34 : decode prog_14_method_5_code 34 = .ok (.iadd, 1) := by decide +kernel
theorem dd_M_image_35 : decode prog_14_method_5_code 35 = .ok (.aload_n 0, 1) := by decide +kernel
theorem dd_M_image_36 : decode prog_14_method_5_code 36 = .ok (.getfield 13, 3) := by decide +kernel
theorem dd_M_image_39 : decode prog_14_method_5_code 39 = .ok (.iload_n 2, 1) := by decide +kernel
theorem dd_M_image_40 : decode prog_14_method_5_code 40 = .ok (.iaload, 1) := by decide +kernel
theorem dd_M_image_41 : decode prog_14_method_5_code 41 = .ok (.iastore, 1) := by decide +kernel
theorem dd_M_image_42 : decode prog_14_method_5_code 42 = .ok (.iinc 2 1, 3) := by decide +kernel
theorem dd_M_image_45 : decode prog_14_method_5_code 45 = .ok (.goto (-28), 3) := by decide +kernel
theorem dd_M_image_48 : decode prog_14_method_5_code 48 = .ok (.aload_n 0, 1) := by decide +kernel
theorem dd_M_image_49 : decode prog_14_method_5_code 49 = .ok (.getfield 20, 3) := by decide +kernel
theorem dd_M_image_52 : decode prog_14_method_5_code 52 = .ok (.iload_n 1, 1) := by decide +kernel
theorem dd_M_image_53 : decode prog_14_method_5_code 53 = .ok (.iconst 1, 1) := by decide +kernel
theorem dd_M_image_54 : decode prog_14_method_5_code 54 = .ok (.bastore, 1) := by decide +kernel
theorem dd_M_image_55 : decode prog_14_method_5_code 55 = .ok (.aload_n 0, 1) := by decide +kernel
theorem dd_M_image_56 : decode prog_14_method_5_code 56 = .ok (.iconst 0, 1) := by decide +kernel
theorem dd_M_image_57 : decode prog_14_method_5_code 57 = .ok (.invokevirtual 100, 3) := by decide +kernel
theorem dd_M_image_60 : decode prog_14_method_5_code 60 = .ok (.ireturn, 1) := by decide +kernel

/-- its cells stand as its maker made them -/
def rr_S (h : mm_h) : Prop := 101 ≤ h.1 ∧ (∀ i, i < 101 → ck_sh[i]? = some (h.2.1 i)) ∧ h.2.2.2 77 1 = some 78 ∧ h.2.2.2 77 2 = some 79 ∧ h.2.2.2 77 3 = some 80
theorem rr_S.sh {h : mm_h} (hh : rr_S h) {i : Nat} {s : ck_Sh} (hi : i < 101) (e : ck_sh[i]? = some s) : h.2.1 i = s := Option.some.inj ((hh.2.1 i hi).symm.trans e)
theorem rr_S.si {h : mm_h} (hh : rr_S h) (i k : Nat) (y : Int32) : rr_S (mm_si h i k y) := hh
def hc_in : mm_C := (174, (0, 0, 0, 0), (fun us _ => ∃ v a b, us = [mm_I v, mm_I a, mm_I b]), fun us h r h' => h' = h ∧ ∃ v a b, us = [mm_I v, mm_I a, mm_I b] ∧ ((a.toInt ≤ v.toInt ∧ v.toInt ≤ b.toInt ∧ r = some (mm_I 1)) ∨ (¬ (a.toInt ≤ v.toInt ∧ v.toInt ≤ b.toInt) ∧ r = some (mm_I 0))))
def hc_refuses : mm_C := (175, (0, 0, 0, 0), (fun us h => rr_S h ∧ ∃ v, us = [mm_A (some 77), mm_I v]), fun us h r h' => ∃ v, us = [mm_A (some 77), mm_I v] ∧ r = some (mm_I v) ∧ h' = mm_si h 77 0 v)
def hc_good : mm_C := (176, (0, 0, 0, 0), (fun us h => rr_S h ∧ ∃ v, us = [mm_A (some 77), mm_I v]), fun us h r h' => ∃ v, us = [mm_A (some 77), mm_I v] ∧ r = some (mm_I v) ∧ h' = mm_si h 77 0 0)
abbrev hh_Met (l : Launch) (D : va_G) (st : Nat → Nat) (co : mm_C) : Prop := mm_Met l ck_TS ck_mts D vwCl ck_dt ck_NM ck_AO ck_SL st co
theorem hk_in (l : Launch) (D : va_G) (st : Nat → Nat) : hh_Met l D st hc_in := by
  refine mm_sound (T := ck_T13) (cs := []) l ck_TSgood ck_okCl ck_okDt (M0 := ck_m174) rfl (by decide +kernel) ck_okT13 ck_nil ?_
  rintro us h - ⟨v, a, b, rfl⟩
  refine ⟨Nat.le_refl 3, mm_go_ok [] (N := fun _ => False) (fun _ z => z.elim) 12 _ ?_⟩
  show mm_go vwCl ck_dt ck_mts ck_T13 [] false 3 0 0 0 0 prog_14_method_1_code (some .boolean) _ [] _ 12 (0, [(0, mm_I v), (1, mm_I a), (2, mm_I b)], [], h, 0, 0)
  simp only [mm_nn2, mm_one, mm_grp, mm_a, mm_b, mm_c, mm_bop, mm_d, mm_e, mm_ld, mm_sw, mm_k, mm_rt, mm_get, mm_put, mm_put2, mm_two, mm_rf, ck_tg, ck_chold, ck_cneg, List.elem_cons, List.elem_nil, List.find?_cons, List.filter_cons, List.filter_nil, Option.map_some, Nat.reduceBEq, Nat.reduceAdd, Bool.or_false, Bool.false_or, Bool.or_true, Bool.true_or, beq_self_eq_true, Bool.not_false, Bool.not_true, Bool.and_true, Bool.true_and, Bool.and_false, Bool.false_and, Bool.false_eq_true, ↓reduceIte, Fin.isValue, mm_f0, mm_f1, mm_f2, mm_f3, Nat.zero_mod, Nat.reduceMod, Option.some.injEq, Sum.inl.injEq, Sum.inr.injEq, exists_eq_left', List.find?_nil, List.length_cons, List.length_nil, true_and, and_true, Nat.reduceLT, Nat.reduceEqDiff, Int.reduceLE, Int.reduceAdd, Int.reduceToNat, Int.cast_ofNat_Int, Int.reduceNeg, Nat.reduceBeqDiff, Nat.zero_add, Prod.mk.injEq, mm_si_n, mm_si_s, mm_si_r, mm_go_s dd_M_in_0, mm_go_s dd_M_in_1, mm_go_s dd_M_in_2, mm_go_s dd_M_in_5, mm_go_s dd_M_in_6, mm_go_s dd_M_in_7, mm_go_s dd_M_in_10, mm_go_s dd_M_in_11, mm_go_s dd_M_in_14, mm_go_s dd_M_in_15, kt_0, kt_1, hc_in]
  have hn : h.1 ≤ h.1 := Nat.le_refl _
  exact ⟨fun c => ⟨by decide, hn, Nat.le_refl _, Nat.le_refl _, v, a, b, rfl, Or.inr ⟨by omega, by decide⟩⟩, fun c => ⟨fun d => ⟨by decide, hn, Nat.le_refl _, Nat.le_refl _, v, a, b, rfl, Or.inr ⟨by omega, by decide⟩⟩, fun d => ⟨by decide, hn, Nat.le_refl _, Nat.le_refl _, v, a, b, rfl, Or.inl ⟨c, d, by decide⟩⟩⟩⟩
theorem hk_refuses (l : Launch) (D : va_G) (st : Nat → Nat) : hh_Met l D st hc_refuses := by
  refine mm_sound (T := ck_T13) (cs := []) l ck_TSgood ck_okCl ck_okDt (M0 := ck_m175) rfl (by decide +kernel) ck_okT13 ck_nil ?_
  rintro us h - ⟨hS, v, rfl⟩
  refine ⟨Nat.le_refl 2, mm_go_ok [] (N := fun _ => False) (fun _ z => z.elim) 8 _ ?_⟩
  show mm_go vwCl ck_dt ck_mts ck_T13 [] false 2 0 0 0 0 prog_14_method_2_code (some .int) _ [] _ 8 (0, [(0, mm_A (some 77)), (1, mm_I v)], [], h, 0, 0)
  simp only [mm_nn2, mm_one, mm_grp, mm_a, mm_b, mm_c, mm_bop, mm_d, mm_e, mm_ld, mm_sw, mm_k, mm_rt, mm_get, mm_put, mm_put2, mm_two, mm_rf, ck_tg, ck_chold, ck_cneg, List.elem_cons, List.elem_nil, List.find?_cons, List.filter_cons, List.filter_nil, Option.map_some, Nat.reduceBEq, Nat.reduceAdd, Bool.or_false, Bool.false_or, Bool.or_true, Bool.true_or, beq_self_eq_true, Bool.not_false, Bool.not_true, Bool.and_true, Bool.true_and, Bool.and_false, Bool.false_and, Bool.false_eq_true, ↓reduceIte, Fin.isValue, mm_f0, mm_f1, mm_f2, mm_f3, Nat.zero_mod, Nat.reduceMod, Option.some.injEq, Sum.inl.injEq, Sum.inr.injEq, exists_eq_left', List.find?_nil, List.length_cons, List.length_nil, true_and, and_true, Nat.reduceLT, Nat.reduceEqDiff, Int.reduceLE, Int.reduceAdd, Int.reduceToNat, Int.cast_ofNat_Int, Int.reduceNeg, Nat.reduceBeqDiff, Nat.zero_add, Prod.mk.injEq, mm_si_n, mm_si_s, mm_si_r, mm_go_s dd_M_refuses_0, mm_go_s dd_M_refuses_1, mm_go_s dd_M_refuses_2, mm_go_s dd_M_refuses_5, mm_go_s dd_M_refuses_6, pf13_3, hc_refuses]
  exact ⟨by have := hS.1; omega, ⟨41, hS.sh (by decide) rfl⟩, rfl, Nat.le_refl _, Nat.le_refl _, Nat.le_refl _, v, rfl, rfl, rfl⟩
theorem hk_good (l : Launch) (D : va_G) (st : Nat → Nat) : hh_Met l D st hc_good := by
  refine mm_sound (T := ck_T13) (cs := []) l ck_TSgood ck_okCl ck_okDt (M0 := ck_m176) rfl (by decide +kernel) ck_okT13 ck_nil ?_
  rintro us h - ⟨hS, v, rfl⟩
  refine ⟨Nat.le_refl 2, mm_go_ok [] (N := fun _ => False) (fun _ z => z.elim) 8 _ ?_⟩
  show mm_go vwCl ck_dt ck_mts ck_T13 [] false 2 0 0 0 0 prog_14_method_3_code (some .int) _ [] _ 8 (0, [(0, mm_A (some 77)), (1, mm_I v)], [], h, 0, 0)
  simp only [mm_nn2, mm_one, mm_grp, mm_a, mm_b, mm_c, mm_bop, mm_d, mm_e, mm_ld, mm_sw, mm_k, mm_rt, mm_get, mm_put, mm_put2, mm_two, mm_rf, ck_tg, ck_chold, ck_cneg, List.elem_cons, List.elem_nil, List.find?_cons, List.filter_cons, List.filter_nil, Option.map_some, Nat.reduceBEq, Nat.reduceAdd, Bool.or_false, Bool.false_or, Bool.or_true, Bool.true_or, beq_self_eq_true, Bool.not_false, Bool.not_true, Bool.and_true, Bool.true_and, Bool.and_false, Bool.false_and, Bool.false_eq_true, ↓reduceIte, Fin.isValue, mm_f0, mm_f1, mm_f2, mm_f3, Nat.zero_mod, Nat.reduceMod, Option.some.injEq, Sum.inl.injEq, Sum.inr.injEq, exists_eq_left', List.find?_nil, List.length_cons, List.length_nil, true_and, and_true, Nat.reduceLT, Nat.reduceEqDiff, Int.reduceLE, Int.reduceAdd, Int.reduceToNat, Int.cast_ofNat_Int, Int.reduceNeg, Nat.reduceBeqDiff, Nat.zero_add, Prod.mk.injEq, mm_si_n, mm_si_s, mm_si_r, mm_go_s dd_M_good_0, mm_go_s dd_M_good_1, mm_go_s dd_M_good_2, mm_go_s dd_M_good_5, mm_go_s dd_M_good_6, kt_0, pf13_3, hc_good]
  exact ⟨by have := hS.1; omega, ⟨41, hS.sh (by decide) rfl⟩, rfl, Nat.le_refl _, Nat.le_refl _, Nat.le_refl _, v, rfl, rfl, rfl⟩
def rr_cp (h : mm_h) (K n : Nat) : mm_h := (h.1, h.2.1, (fun c p => if c = 79 ∧ K ≤ p ∧ p < K + n then h.2.2.1 78 (p - K) else h.2.2.1 c p), h.2.2.2)
theorem rr_cp_0 (h : mm_h) (K : Nat) : rr_cp h K 0 = h := by
  refine Prod.ext rfl (Prod.ext rfl (Prod.ext (funext fun c => funext fun p => ?_) rfl))
  show (if c = 79 ∧ K ≤ p ∧ p < K + 0 then h.2.2.1 78 (p - K) else h.2.2.1 c p) = h.2.2.1 c p
  rw [if_neg (by omega)]
theorem rr_cp_next (h : mm_h) (K n : Nat) : mm_si (rr_cp h K n) 79 (K + n) ((rr_cp h K n).2.2.1 78 n) = rr_cp h K (n + 1) := by
  refine Prod.ext rfl (Prod.ext rfl (Prod.ext (funext fun c => funext fun p => ?_) rfl))
  show (if c = 79 ∧ p = K + n then (if 78 = 79 ∧ K ≤ n ∧ n < K + n then h.2.2.1 78 (n - K) else h.2.2.1 78 n) else (if c = 79 ∧ K ≤ p ∧ p < K + n then h.2.2.1 78 (p - K) else h.2.2.1 c p)) = (if c = 79 ∧ K ≤ p ∧ p < K + (n + 1) then h.2.2.1 78 (p - K) else h.2.2.1 c p)
  by_cases hc : c = 79
  · by_cases hp : p = K + n
    · rw [if_pos ⟨hc, hp⟩, if_neg (by omega), if_pos ⟨hc, by omega, by omega⟩, hp, Nat.add_sub_cancel_left]
    · rw [if_neg (fun z => hp z.2)]
      by_cases hq : K ≤ p ∧ p < K + n
      · rw [if_pos ⟨hc, hq⟩, if_pos ⟨hc, by omega, by omega⟩]
      · rw [if_neg (fun z => hq z.2), if_neg (fun z => hq ⟨z.2.1, by omega⟩)]
  · rw [if_neg (fun z => hc z.1), if_neg (fun z => hc z.1), if_neg (fun z => hc z.1)]
theorem hh_image_l {cs : List mm_C} {CM SM FM LM : Nat} {Rt : Option mm_v → mm_h → Nat × Nat → Prop} (k : Int32) (hk : 0 ≤ k.toInt) (hk1 : k.toInt ≤ 1) (kk : Nat × Nat) (h0 : mm_h) (hh : rr_S h0)
    (K : mm_W vwCl ck_dt ck_mts ck_T13 cs false 3 CM SM FM LM prog_14_method_5_code (some .int) Rt (48, [(2, mm_I (Int32.ofInt 9310)), (0, mm_A (some 77)), (1, mm_I k)], [], rr_cp h0 (9310 * k.toInt.toNat) 9310, kk)) :
    ∀ (n : Nat) (i : Int32), i.toInt + n = 9310 → 0 ≤ i.toInt → mm_W vwCl ck_dt ck_mts ck_T13 cs false 3 CM SM FM LM prog_14_method_5_code (some .int) Rt (17, [(2, mm_I i), (0, mm_A (some 77)), (1, mm_I k)], [], rr_cp h0 (9310 * k.toInt.toNat) i.toInt.toNat, kk) := by
  intro n
  induction n with
  | zero =>
    intro i hi hi0
    have e : i = Int32.ofInt 9310 := Int32.toInt.inj (by rw [kt_9310]; omega)
    refine mm_go_ok [17, 48] (N := fun z => mm_W vwCl ck_dt ck_mts ck_T13 cs false 3 CM SM FM LM prog_14_method_5_code (some .int) Rt z) (fun z h => h) 3 _ ?_
    simp only [mm_nn2, mm_one, mm_grp, mm_a, mm_b, mm_c, mm_bop, mm_d, mm_e, mm_ld, mm_sw, mm_k, mm_rt, mm_get, mm_put, mm_put2, mm_two, mm_rf, ck_tg, ck_chold, ck_cneg, List.elem_cons, List.elem_nil, List.find?_cons, List.filter_cons, List.filter_nil, Option.map_some, Nat.reduceBEq, Nat.reduceAdd, Bool.or_false, Bool.false_or, Bool.or_true, Bool.true_or, beq_self_eq_true, Bool.not_false, Bool.not_true, Bool.and_true, Bool.true_and, Bool.and_false, Bool.false_and, Bool.false_eq_true, ↓reduceIte, Fin.isValue, mm_f0, mm_f1, mm_f2, mm_f3, Nat.zero_mod, Nat.reduceMod, Option.some.injEq, Sum.inl.injEq, Sum.inr.injEq, exists_eq_left', List.find?_nil, List.length_cons, List.length_nil, true_and, and_true, Nat.reduceLT, Nat.reduceEqDiff, Int.reduceLE, Int.reduceAdd, Int.reduceToNat, Int.cast_ofNat_Int, Int.reduceNeg, Nat.reduceBeqDiff, Nat.zero_add, Prod.mk.injEq, mm_si_n, mm_si_s, mm_si_r, mm_go_s dd_M_image_0, mm_go_s dd_M_image_1, mm_go_s dd_M_image_2, mm_go_s dd_M_image_3, mm_go_s dd_M_image_6, mm_go_s dd_M_image_9, mm_go_s dd_M_image_10, mm_go_s dd_M_image_11, mm_go_s dd_M_image_14, mm_go_s dd_M_image_15, mm_go_s dd_M_image_16, mm_go_s dd_M_image_17, mm_go_s dd_M_image_18, mm_go_s dd_M_image_21, mm_go_s dd_M_image_24, mm_go_s dd_M_image_25, mm_go_s dd_M_image_28, mm_go_s dd_M_image_31, mm_go_s dd_M_image_32, mm_go_s dd_M_image_33, mm_go_s dd_M_image_34, mm_go_s dd_M_image_35, mm_go_s dd_M_image_36, mm_go_s dd_M_image_39, mm_go_s dd_M_image_40, mm_go_s dd_M_image_41, mm_go_s dd_M_image_42, mm_go_s dd_M_image_45, mm_go_s dd_M_image_48, mm_go_s dd_M_image_49, mm_go_s dd_M_image_52, mm_go_s dd_M_image_53, mm_go_s dd_M_image_54, mm_go_s dd_M_image_55, mm_go_s dd_M_image_56, mm_go_s dd_M_image_57, mm_go_s dd_M_image_60, kt_m1, kt_0, kt_1, kz, kb16_9310, kt_9310, ml13_92, gf13_17, gf13_13, gf13_20]
    refine ⟨fun _ => ?_, fun c => by omega⟩
    rw [e, kt_9310]
    exact K
  | succ n ih =>
    intro i hi hi0
    have hS : rr_S (rr_cp h0 (9310 * k.toInt.toNat) i.toInt.toNat) := hh
    obtain ⟨h, hg⟩ : ∃ h, rr_cp h0 (9310 * k.toInt.toNat) i.toInt.toNat = h := ⟨_, rfl⟩
    rw [hg] at hS ⊢
    refine mm_go_ok [17, 48] (N := fun z => mm_W vwCl ck_dt ck_mts ck_T13 cs false 3 CM SM FM LM prog_14_method_5_code (some .int) Rt z) (fun z h => h) 20 _ ?_
    simp only [mm_nn2, mm_one, mm_grp, mm_a, mm_b, mm_c, mm_bop, mm_d, mm_e, mm_ld, mm_sw, mm_k, mm_rt, mm_get, mm_put, mm_put2, mm_two, mm_rf, ck_tg, ck_chold, ck_cneg, List.elem_cons, List.elem_nil, List.find?_cons, List.filter_cons, List.filter_nil, Option.map_some, Nat.reduceBEq, Nat.reduceAdd, Bool.or_false, Bool.false_or, Bool.or_true, Bool.true_or, beq_self_eq_true, Bool.not_false, Bool.not_true, Bool.and_true, Bool.true_and, Bool.and_false, Bool.false_and, Bool.false_eq_true, ↓reduceIte, Fin.isValue, mm_f0, mm_f1, mm_f2, mm_f3, Nat.zero_mod, Nat.reduceMod, Option.some.injEq, Sum.inl.injEq, Sum.inr.injEq, exists_eq_left', List.find?_nil, List.length_cons, List.length_nil, true_and, and_true, Nat.reduceLT, Nat.reduceEqDiff, Int.reduceLE, Int.reduceAdd, Int.reduceToNat, Int.cast_ofNat_Int, Int.reduceNeg, Nat.reduceBeqDiff, Nat.zero_add, Prod.mk.injEq, mm_si_n, mm_si_s, mm_si_r, mm_go_s dd_M_image_0, mm_go_s dd_M_image_1, mm_go_s dd_M_image_2, mm_go_s dd_M_image_3, mm_go_s dd_M_image_6, mm_go_s dd_M_image_9, mm_go_s dd_M_image_10, mm_go_s dd_M_image_11, mm_go_s dd_M_image_14, mm_go_s dd_M_image_15, mm_go_s dd_M_image_16, mm_go_s dd_M_image_17, mm_go_s dd_M_image_18, mm_go_s dd_M_image_21, mm_go_s dd_M_image_24, mm_go_s dd_M_image_25, mm_go_s dd_M_image_28, mm_go_s dd_M_image_31, mm_go_s dd_M_image_32, mm_go_s dd_M_image_33, mm_go_s dd_M_image_34, mm_go_s dd_M_image_35, mm_go_s dd_M_image_36, mm_go_s dd_M_image_39, mm_go_s dd_M_image_40, mm_go_s dd_M_image_41, mm_go_s dd_M_image_42, mm_go_s dd_M_image_45, mm_go_s dd_M_image_48, mm_go_s dd_M_image_49, mm_go_s dd_M_image_52, mm_go_s dd_M_image_53, mm_go_s dd_M_image_54, mm_go_s dd_M_image_55, mm_go_s dd_M_image_56, mm_go_s dd_M_image_57, mm_go_s dd_M_image_60, kt_m1, kt_0, kt_1, kz, kb16_9310, kt_9310, ml13_92, gf13_17, gf13_13, gf13_20, hS.2.2.1, hS.2.2.2.1]
    have hn := hS.1
    have hm : (Int32.ofInt 9310 * k).toInt = 9310 * k.toInt := by rw [ck_mulI (by rw [kt_9310]; omega) (by rw [kt_9310]; omega), kt_9310]
    have ha : (Int32.ofInt 9310 * k + i).toInt = 9310 * k.toInt + i.toInt := by rw [ck_addI (by omega) (by omega), hm]
    have hb : (i + Int32.ofInt 1).toInt = i.toInt + 1 := by rw [ck_addI (by rw [kt_1]; omega) (by rw [kt_1]; omega), kt_1]
    refine ⟨fun c => by omega, fun c => ⟨by omega, ⟨41, hS.sh (by decide) rfl⟩, by omega, ⟨41, hS.sh (by decide) rfl⟩, by omega, 9310, hS.sh (by decide) rfl, hi0, by omega, by omega, 18620, hS.sh (by decide) rfl, by omega, by omega, ?_⟩⟩
    have q := ih (i + Int32.ofInt 1) (by omega) (by omega)
    have e1 : (Int32.ofInt 9310 * k + i).toInt.toNat = 9310 * k.toInt.toNat + i.toInt.toNat := by omega
    have e2 : (i + Int32.ofInt 1).toInt.toNat = i.toInt.toNat + 1 := by omega
    rw [e2, ← rr_cp_next, hg, ← e1] at q
    exact q
