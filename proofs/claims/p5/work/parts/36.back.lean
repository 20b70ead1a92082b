/-! the reference: back -/
theorem kb8_m2 : (Int8.ofInt (-2)).toInt32 = Int32.ofInt (-2) := by decide
theorem kt_m2 : (Int32.ofInt (-2)).toInt = (-2) := by decide
theorem dd_M_back_0 : decode prog_14_method_6_code 0 = .ok (.iload_n 1, 1) := by decide +kernel
theorem dd_M_back_1 : decode prog_14_method_6_code 1 = .ok (.iconst 0, 1) := by decide +kernel
theorem dd_M_back_2 : decode prog_14_method_6_code 2 = .ok (.iconst 1, 1) := by decide +kernel
theorem dd_M_back_3 : decode prog_14_method_6_code 3 = .ok (.invokestatic 92, 3) := by decide +kernel
theorem dd_M_back_6 : decode prog_14_method_6_code 6 = .ok (.ifCond .ne 9, 3) := by decide +kernel
theorem dd_M_back_9 : decode prog_14_method_6_code 9 = .ok (.aload_n 0, 1) := by decide +kernel
theorem dd_M_back_10 : decode prog_14_method_6_code 10 = .ok (.iconst (-1), 1) := by decide +kernel
theorem dd_M_back_11 : decode prog_14_method_6_code 11 = .ok (.invokevirtual 96, 3) := by decide +kernel
theorem dd_M_back_14 : decode prog_14_method_6_code 14 = .ok (.ireturn, 1) := by decide +kernel
theorem dd_M_back_15 : decode prog_14_method_6_code 15 = .ok (.aload_n 0, 1) := by decide +kernel
theorem dd_M_back_16 : decode prog_14_method_6_code 16 = .ok (.getfield 20, 3) := by decide +kernel
theorem dd_M_back_19 : decode prog_14_method_6_code 19 = .ok (.iload_n 1, 1) := by decide +kernel
theorem dd_M_back_20 : decode prog_14_method_6_code 20 = .ok (.baload, 1) := by decide +kernel
theorem dd_M_back_21 : decode prog_14_method_6_code 21 = .ok (.ifCond .ne 10, 3) := by decide +kernel
theorem dd_M_back_24 : decode prog_14_method_6_code 24 = .ok (.aload_n 0, 1) := by decide +kernel
theorem dd_M_back_25 : decode prog_14_method_6_code 25 = .ok (.bipush (-2), 2) := by decide +kernel
theorem dd_M_back_27 : decode prog_14_method_6_code 27 = .ok (.invokevirtual 96, 3) := by decide +kernel
theorem dd_M_back_30 : decode prog_14_method_6_code 30 = .ok (.ireturn, 1) := by decide +kernel
theorem dd_M_back_31 : decode prog_14_method_6_code 31 = .ok (.iconst 0, 1) := by decide +kernel
theorem dd_M_back_32 : decode prog_14_method_6_code 32 = .ok (.istore_n 2, 1) := by decide +kernel
theorem dd_M_back_33 : decode prog_14_method_6_code 33 = .ok (.iload_n 2, 1) := by decide +kernel
theorem dd_M_back_34 : decode prog_14_method_6_code 34 = .ok (.sipush 9310, 3) := by decide +kernel
theorem dd_M_back_37 : decode prog_14_method_6_code 37 = .ok (.if_icmp .ge 27, 3) := by decide +kernel
theorem dd_M_back_40 : decode prog_14_method_6_code 40 = .ok (.aload_n 0, 1) := by decide +kernel
theorem dd_M_back_41 : decode prog_14_method_6_code 41 = .ok (.getfield 13, 3) := by decide +kernel
theorem dd_M_back_44 : decode prog_14_method_6_code 44 = .ok (.iload_n 2, 1) := by decide +kernel
theorem dd_M_back_45 : decode prog_14_method_6_code 45 = .ok (.aload_n 0, 1) := by decide +kernel
theorem dd_M_back_46 : decode prog_14_method_6_code 46 = .ok (.getfield 17, 3) := by decide +kernel
theorem dd_M_back_49 : decode prog_14_method_6_code 49 = .ok (.sipush 9310, 3) := by decide +kernel
theorem dd_M_back_52 : decode prog_14_method_6_code 52 = .ok (.iload_n 1, 1) := by decide +kernel
theorem dd_M_back_53 : decode prog_14_method_6_code 53 = .ok (.imul, 1) := by decide +kernel
theorem dd_M_back_54 : decode prog_14_method_6_code 54 = .ok (.iload_n 2, 1) := by decide +kernel
theorem dd_M_back_55 : decode prog_14_method_6_code 55 = .ok (.iadd, 1) := by decide +kernel
theorem dd_M_back_56 : decode prog_14_method_6_code 56 = .ok (.iaload, 1) := by decide +kernel
theorem dd_M_back_57 : decode prog_14_method_6_code 57 = .ok (.iastore, 1) := by decide +kernel
theorem dd_M_back_58 : decode prog_14_method_6_code 58 = .ok (.iinc 2 1, 3) := by decide +kernel
theorem dd_M_back_61 : decode prog_14_method_6_code 61 = .ok (.goto (-28), 3) := by decide +kernel
theorem dd_M_back_64 : decode prog_14_method_6_code 64 = .ok (.aload_n 0, 1) := by decide +kernel
theorem dd_M_back_65 : decode prog_14_method_6_code 65 = .ok (.iconst 0, 1) := by decide +kernel
theorem dd_M_back_66 : decode prog_14_method_6_code 66 = .ok (.invokevirtual 100, 3) := by decide +kernel
theorem dd_M_back_69 : decode prog_14_method_6_code 69 = .ok (.ireturn, 1) := by decide +kernel

def rr_bk (h : mm_h) (K n : Nat) : mm_h := (h.1, h.2.1, (fun c p => if c = 78 ∧ p < n then h.2.2.1 79 (K + p) else h.2.2.1 c p), h.2.2.2)
theorem rr_bk_0 (h : mm_h) (K : Nat) : rr_bk h K 0 = h := by
  refine Prod.ext rfl (Prod.ext rfl (Prod.ext (funext fun c => funext fun p => ?_) rfl))
  show (if c = 78 ∧ p < 0 then h.2.2.1 79 (K + p) else h.2.2.1 c p) = h.2.2.1 c p
  rw [if_neg (by omega)]
theorem rr_bk_next (h : mm_h) (K n : Nat) : mm_si (rr_bk h K n) 78 n ((rr_bk h K n).2.2.1 79 (K + n)) = rr_bk h K (n + 1) := by
  refine Prod.ext rfl (Prod.ext rfl (Prod.ext (funext fun c => funext fun p => ?_) rfl))
  show (if c = 78 ∧ p = n then (if 79 = 78 ∧ K + n < n then h.2.2.1 79 (K + (K + n)) else h.2.2.1 79 (K + n)) else (if c = 78 ∧ p < n then h.2.2.1 79 (K + p) else h.2.2.1 c p)) = (if c = 78 ∧ p < n + 1 then h.2.2.1 79 (K + p) else h.2.2.1 c p)
  by_cases hc : c = 78
  · by_cases hp : p = n
    · rw [if_pos ⟨hc, hp⟩, if_neg (by omega), if_pos ⟨hc, by omega⟩, hp]
    · rw [if_neg (fun z => hp z.2)]
      by_cases hq : p < n
      · rw [if_pos ⟨hc, hq⟩, if_pos ⟨hc, by omega⟩]
      · rw [if_neg (fun z => hq z.2), if_neg (fun z => hq (by omega))]
  · rw [if_neg (fun z => hc z.1), if_neg (fun z => hc z.1), if_neg (fun z => hc z.1)]
theorem hh_back_l {cs : List mm_C} {CM SM FM LM : Nat} {Rt : Option mm_v → mm_h → Nat × Nat → Prop} (k : Int32) (hk : 0 ≤ k.toInt) (hk1 : k.toInt ≤ 1) (kk : Nat × Nat) (h0 : mm_h) (hh : rr_S h0)
    (K : mm_W vwCl ck_dt ck_mts ck_T13 cs false 3 CM SM FM LM prog_14_method_6_code (some .int) Rt (64, [(2, mm_I (Int32.ofInt 9310)), (0, mm_A (some 77)), (1, mm_I k)], [], rr_bk h0 (9310 * k.toInt.toNat) 9310, kk)) :
    ∀ (n : Nat) (i : Int32), i.toInt + n = 9310 → 0 ≤ i.toInt → mm_W vwCl ck_dt ck_mts ck_T13 cs false 3 CM SM FM LM prog_14_method_6_code (some .int) Rt (33, [(2, mm_I i), (0, mm_A (some 77)), (1, mm_I k)], [], rr_bk h0 (9310 * k.toInt.toNat) i.toInt.toNat, kk) := by
  intro n
  induction n with
  | zero =>
    intro i hi hi0
    have e : i = Int32.ofInt 9310 := Int32.toInt.inj (by rw [kt_9310]; omega)
    refine mm_go_ok [33, 64] (N := fun z => mm_W vwCl ck_dt ck_mts ck_T13 cs false 3 CM SM FM LM prog_14_method_6_code (some .int) Rt z) (fun z h => h) 3 _ ?_
    simp only [mm_nn2, mm_one, mm_grp, mm_a, mm_b, mm_c, mm_bop, mm_d, mm_e, mm_ld, mm_sw, mm_k, mm_rt, mm_get, mm_put, mm_put2, mm_two, mm_rf, ck_tg, ck_chold, ck_cneg, List.elem_cons, List.elem_nil, List.find?_cons, List.filter_cons, List.filter_nil, Option.map_some, Nat.reduceBEq, Nat.reduceAdd, Bool.or_false, Bool.false_or, Bool.or_true, Bool.true_or, beq_self_eq_true, Bool.not_false, Bool.not_true, Bool.and_true, Bool.true_and, Bool.and_false, Bool.false_and, Bool.false_eq_true, ↓reduceIte, Fin.isValue, mm_f0, mm_f1, mm_f2, mm_f3, Nat.zero_mod, Nat.reduceMod, Option.some.injEq, Sum.inl.injEq, Sum.inr.injEq, exists_eq_left', List.find?_nil, List.length_cons, List.length_nil, true_and, and_true, Nat.reduceLT, Nat.reduceEqDiff, Int.reduceLE, Int.reduceAdd, Int.reduceToNat, Int.cast_ofNat_Int, Int.reduceNeg, Nat.reduceBeqDiff, Nat.zero_add, Prod.mk.injEq, mm_si_n, mm_si_s, mm_si_r, mm_go_s dd_M_back_0, mm_go_s dd_M_back_1, mm_go_s dd_M_back_2, mm_go_s dd_M_back_3, mm_go_s dd_M_back_6, mm_go_s dd_M_back_9, mm_go_s dd_M_back_10, mm_go_s dd_M_back_11, mm_go_s dd_M_back_14, mm_go_s dd_M_back_15, mm_go_s dd_M_back_16, mm_go_s dd_M_back_19, mm_go_s dd_M_back_20, mm_go_s dd_M_back_21, mm_go_s dd_M_back_24, mm_go_s dd_M_back_25, mm_go_s dd_M_back_27, mm_go_s dd_M_back_30, mm_go_s dd_M_back_31, mm_go_s dd_M_back_32, mm_go_s dd_M_back_33, mm_go_s dd_M_back_34, mm_go_s dd_M_back_37, mm_go_s dd_M_back_40, mm_go_s dd_M_back_41, mm_go_s dd_M_back_44, mm_go_s dd_M_back_45, mm_go_s dd_M_back_46, mm_go_s dd_M_back_49, mm_go_s dd_M_back_52, mm_go_s dd_M_back_53, mm_go_s dd_M_back_54, mm_go_s dd_M_back_55, mm_go_s dd_M_back_56, mm_go_s dd_M_back_57, mm_go_s dd_M_back_58, mm_go_s dd_M_back_61, mm_go_s dd_M_back_64, mm_go_s dd_M_back_65, mm_go_s dd_M_back_66, mm_go_s dd_M_back_69, kt_m1, kt_0, kt_1, kz, kb8_m2, kt_m2, kb16_9310, kt_9310, ml13_92, gf13_20, gf13_13, gf13_17]
    refine ⟨fun _ => ?_, fun c => by omega⟩
    rw [e, kt_9310]
    exact K
  | succ n ih =>
    intro i hi hi0
    have hS : rr_S (rr_bk h0 (9310 * k.toInt.toNat) i.toInt.toNat) := hh
    obtain ⟨h, hg⟩ : ∃ h, rr_bk h0 (9310 * k.toInt.toNat) i.toInt.toNat = h := ⟨_, rfl⟩
    rw [hg] at hS ⊢
    refine mm_go_ok [33, 64] (N := fun z => mm_W vwCl ck_dt ck_mts ck_T13 cs false 3 CM SM FM LM prog_14_method_6_code (some .int) Rt z) (fun z h => h) 20 _ ?_
    simp only [mm_nn2, mm_one, mm_grp, mm_a, mm_b, mm_c, mm_bop, mm_d, mm_e, mm_ld, mm_sw, mm_k, mm_rt, mm_get, mm_put, mm_put2, mm_two, mm_rf, ck_tg, ck_chold, ck_cneg, List.elem_cons, List.elem_nil, List.find?_cons, List.filter_cons, List.filter_nil, Option.map_some, Nat.reduceBEq, Nat.reduceAdd, Bool.or_false, Bool.false_or, Bool.or_true, Bool.true_or, beq_self_eq_true, Bool.not_false, Bool.not_true, Bool.and_true, Bool.true_and, Bool.and_false, Bool.false_and, Bool.false_eq_true, ↓reduceIte, Fin.isValue, mm_f0, mm_f1, mm_f2, mm_f3, Nat.zero_mod, Nat.reduceMod, Option.some.injEq, Sum.inl.injEq, Sum.inr.injEq, exists_eq_left', List.find?_nil, List.length_cons, List.length_nil, true_and, and_true, Nat.reduceLT, Nat.reduceEqDiff, Int.reduceLE, Int.reduceAdd, Int.reduceToNat, Int.cast_ofNat_Int, Int.reduceNeg, Nat.reduceBeqDiff, Nat.zero_add, Prod.mk.injEq, mm_si_n, mm_si_s, mm_si_r, mm_go_s dd_M_back_0, mm_go_s dd_M_back_1, mm_go_s dd_M_back_2, mm_go_s dd_M_back_3, mm_go_s dd_M_back_6, mm_go_s dd_M_back_9, mm_go_s dd_M_back_10, mm_go_s dd_M_back_11, mm_go_s dd_M_back_14, mm_go_s dd_M_back_15, mm_go_s dd_M_back_16, mm_go_s dd_M_back_19, mm_go_s dd_M_back_20, mm_go_s dd_M_back_21, mm_go_s dd_M_back_24, mm_go_s dd_M_back_25, mm_go_s dd_M_back_27, mm_go_s dd_M_back_30, mm_go_s dd_M_back_31, mm_go_s dd_M_back_32, mm_go_s dd_M_back_33, mm_go_s dd_M_back_34, mm_go_s dd_M_back_37, mm_go_s dd_M_back_40, mm_go_s dd_M_back_41, mm_go_s dd_M_back_44, mm_go_s dd_M_back_45, mm_go_s dd_M_back_46, mm_go_s dd_M_back_49, mm_go_s dd_M_back_52, mm_go_s dd_M_back_53, mm_go_s dd_M_back_54, mm_go_s dd_M_back_55, mm_go_s dd_M_back_56, mm_go_s dd_M_back_57, mm_go_s dd_M_back_58, mm_go_s dd_M_back_61, mm_go_s dd_M_back_64, mm_go_s dd_M_back_65, mm_go_s dd_M_back_66, mm_go_s dd_M_back_69, kt_m1, kt_0, kt_1, kz, kb8_m2, kt_m2, kb16_9310, kt_9310, ml13_92, gf13_20, gf13_13, gf13_17, hS.2.2.1, hS.2.2.2.1]
    have hn := hS.1
    have hm : (Int32.ofInt 9310 * k).toInt = 9310 * k.toInt := by rw [ck_mulI (by rw [kt_9310]; omega) (by rw [kt_9310]; omega), kt_9310]
    have ha : (Int32.ofInt 9310 * k + i).toInt = 9310 * k.toInt + i.toInt := by rw [ck_addI (by omega) (by omega), hm]
    have hb : (i + Int32.ofInt 1).toInt = i.toInt + 1 := by rw [ck_addI (by rw [kt_1]; omega) (by rw [kt_1]; omega), kt_1]
    refine ⟨fun c => by omega, fun c => ⟨by omega, ⟨41, hS.sh (by decide) rfl⟩, by omega, ⟨41, hS.sh (by decide) rfl⟩, by omega, 18620, hS.sh (by decide) rfl, by omega, by omega, by omega, 9310, hS.sh (by decide) rfl, hi0, by omega, ?_⟩⟩
    have q := ih (i + Int32.ofInt 1) (by omega) (by omega)
    have e1 : (Int32.ofInt 9310 * k + i).toInt.toNat = 9310 * k.toInt.toNat + i.toInt.toNat := by omega
    have e2 : (i + Int32.ofInt 1).toInt.toNat = i.toInt.toNat + 1 := by omega
    rw [e2, ← rr_bk_next, hg, ← e1] at q
    exact q
theorem hh_back {cs : List mm_C} {CM SM FM LM : Nat} {Rt : Option mm_v → mm_h → Nat × Nat → Prop} (k : Int32) (h : mm_h) (hS : rr_S h) (c1 : hc_in ∈ cs) (c2 : hc_refuses ∈ cs) (c3 : hc_good ∈ cs) (hF : 1 ≤ FM) (hL : 22 ≤ LM)
    (R1 : ¬ (0 ≤ k.toInt ∧ k.toInt ≤ 1) → Rt (some (mm_I (Int32.ofInt (-1)))) (mm_si h 77 0 (Int32.ofInt (-1))) (0, 0))
    (R2 : 0 ≤ k.toInt → k.toInt ≤ 1 → h.2.2.1 80 k.toInt.toNat = 0 → Rt (some (mm_I (Int32.ofInt (-2)))) (mm_si h 77 0 (Int32.ofInt (-2))) (0, 0))
    (R3 : 0 ≤ k.toInt → k.toInt ≤ 1 → h.2.2.1 80 k.toInt.toNat ≠ 0 → Rt (some (mm_I (Int32.ofInt 0))) (mm_si (rr_bk h (9310 * k.toInt.toNat) 9310) 77 0 0) (0, 0)) :
    mm_W vwCl ck_dt ck_mts ck_T13 cs false 3 CM SM FM LM prog_14_method_6_code (some .int) Rt (0, [(0, mm_A (some 77)), (1, mm_I k)], [], h, 0, 0) := by
  have hn := hS.1
  refine mm_go_ok [3] (N := fun z => mm_W vwCl ck_dt ck_mts ck_T13 cs false 3 CM SM FM LM prog_14_method_6_code (some .int) Rt z) (fun z h => h) 5 _ ?_
  simp only [mm_nn2, mm_one, mm_grp, mm_a, mm_b, mm_c, mm_bop, mm_d, mm_e, mm_ld, mm_sw, mm_k, mm_rt, mm_get, mm_put, mm_put2, mm_two, mm_rf, ck_tg, ck_chold, ck_cneg, List.elem_cons, List.elem_nil, List.find?_cons, List.filter_cons, List.filter_nil, Option.map_some, Nat.reduceBEq, Nat.reduceAdd, Bool.or_false, Bool.false_or, Bool.or_true, Bool.true_or, beq_self_eq_true, Bool.not_false, Bool.not_true, Bool.and_true, Bool.true_and, Bool.and_false, Bool.false_and, Bool.false_eq_true, ↓reduceIte, Fin.isValue, mm_f0, mm_f1, mm_f2, mm_f3, Nat.zero_mod, Nat.reduceMod, Option.some.injEq, Sum.inl.injEq, Sum.inr.injEq, exists_eq_left', List.find?_nil, List.length_cons, List.length_nil, true_and, and_true, Nat.reduceLT, Nat.reduceEqDiff, Int.reduceLE, Int.reduceAdd, Int.reduceToNat, Int.cast_ofNat_Int, Int.reduceNeg, Nat.reduceBeqDiff, Nat.zero_add, Prod.mk.injEq, mm_si_n, mm_si_s, mm_si_r, mm_go_s dd_M_back_0, mm_go_s dd_M_back_1, mm_go_s dd_M_back_2, mm_go_s dd_M_back_3, mm_go_s dd_M_back_6, mm_go_s dd_M_back_9, mm_go_s dd_M_back_10, mm_go_s dd_M_back_11, mm_go_s dd_M_back_14, mm_go_s dd_M_back_15, mm_go_s dd_M_back_16, mm_go_s dd_M_back_19, mm_go_s dd_M_back_20, mm_go_s dd_M_back_21, mm_go_s dd_M_back_24, mm_go_s dd_M_back_25, mm_go_s dd_M_back_27, mm_go_s dd_M_back_30, mm_go_s dd_M_back_31, mm_go_s dd_M_back_32, mm_go_s dd_M_back_33, mm_go_s dd_M_back_34, mm_go_s dd_M_back_37, mm_go_s dd_M_back_40, mm_go_s dd_M_back_41, mm_go_s dd_M_back_44, mm_go_s dd_M_back_45, mm_go_s dd_M_back_46, mm_go_s dd_M_back_49, mm_go_s dd_M_back_52, mm_go_s dd_M_back_53, mm_go_s dd_M_back_54, mm_go_s dd_M_back_55, mm_go_s dd_M_back_56, mm_go_s dd_M_back_57, mm_go_s dd_M_back_58, mm_go_s dd_M_back_61, mm_go_s dd_M_back_64, mm_go_s dd_M_back_65, mm_go_s dd_M_back_66, mm_go_s dd_M_back_69, kt_m1, kt_0, kt_1, kz, kb8_m2, kt_m2, kb16_9310, kt_9310, ml13_92, gf13_20, gf13_13, gf13_17]
  refine mm_call_W (92, 1) (92, 1, 174) ck_m174 hc_in [mm_I k, mm_I (Int32.ofInt 0), mm_I (Int32.ofInt 1)] [] dd_M_back_3 rfl ml13_92 (by decide) rfl c1 rfl rfl rfl (by decide) ⟨by show 0 + 1 ≤ FM; omega, by show 8 + (3 + 11) + 0 ≤ LM; omega⟩ ⟨by simp only [hc_in]; omega, by simp only [hc_in]; omega⟩ ⟨k, _, _, rfl⟩ ?_
  rintro r h' ⟨rfl, v, a, b, e, hr⟩ -
  obtain ⟨rfl, rfl, rfl⟩ : k = v ∧ Int32.ofInt 0 = a ∧ Int32.ofInt 1 = b := by
    injection e with e1 e2
    injection e2 with e2 e3
    injection e3 with e3 e4
    exact ⟨Sum.inl.inj e1, Sum.inl.inj e2, Sum.inl.inj e3⟩
  rw [kt_0, kt_1] at hr
  rcases hr with ⟨q1, q2, rfl⟩ | ⟨q1, rfl⟩
  · show mm_W vwCl ck_dt ck_mts ck_T13 cs false 3 CM SM FM LM prog_14_method_6_code (some .int) Rt (6, [(0, mm_A (some 77)), (1, mm_I k)], [mm_I 1], h', 0, 0)
    refine mm_go_ok [33, 27] (N := fun z => mm_W vwCl ck_dt ck_mts ck_T13 cs false 3 CM SM FM LM prog_14_method_6_code (some .int) Rt z) (fun z h => h) 12 _ ?_
    simp only [mm_nn2, mm_one, mm_grp, mm_a, mm_b, mm_c, mm_bop, mm_d, mm_e, mm_ld, mm_sw, mm_k, mm_rt, mm_get, mm_put, mm_put2, mm_two, mm_rf, ck_tg, ck_chold, ck_cneg, List.elem_cons, List.elem_nil, List.find?_cons, List.filter_cons, List.filter_nil, Option.map_some, Nat.reduceBEq, Nat.reduceAdd, Bool.or_false, Bool.false_or, Bool.or_true, Bool.true_or, beq_self_eq_true, Bool.not_false, Bool.not_true, Bool.and_true, Bool.true_and, Bool.and_false, Bool.false_and, Bool.false_eq_true, ↓reduceIte, Fin.isValue, mm_f0, mm_f1, mm_f2, mm_f3, Nat.zero_mod, Nat.reduceMod, Option.some.injEq, Sum.inl.injEq, Sum.inr.injEq, exists_eq_left', List.find?_nil, List.length_cons, List.length_nil, true_and, and_true, Nat.reduceLT, Nat.reduceEqDiff, Int.reduceLE, Int.reduceAdd, Int.reduceToNat, Int.cast_ofNat_Int, Int.reduceNeg, Nat.reduceBeqDiff, Nat.zero_add, Prod.mk.injEq, mm_si_n, mm_si_s, mm_si_r, mm_go_s dd_M_back_0, mm_go_s dd_M_back_1, mm_go_s dd_M_back_2, mm_go_s dd_M_back_3, mm_go_s dd_M_back_6, mm_go_s dd_M_back_9, mm_go_s dd_M_back_10, mm_go_s dd_M_back_11, mm_go_s dd_M_back_14, mm_go_s dd_M_back_15, mm_go_s dd_M_back_16, mm_go_s dd_M_back_19, mm_go_s dd_M_back_20, mm_go_s dd_M_back_21, mm_go_s dd_M_back_24, mm_go_s dd_M_back_25, mm_go_s dd_M_back_27, mm_go_s dd_M_back_30, mm_go_s dd_M_back_31, mm_go_s dd_M_back_32, mm_go_s dd_M_back_33, mm_go_s dd_M_back_34, mm_go_s dd_M_back_37, mm_go_s dd_M_back_40, mm_go_s dd_M_back_41, mm_go_s dd_M_back_44, mm_go_s dd_M_back_45, mm_go_s dd_M_back_46, mm_go_s dd_M_back_49, mm_go_s dd_M_back_52, mm_go_s dd_M_back_53, mm_go_s dd_M_back_54, mm_go_s dd_M_back_55, mm_go_s dd_M_back_56, mm_go_s dd_M_back_57, mm_go_s dd_M_back_58, mm_go_s dd_M_back_61, mm_go_s dd_M_back_64, mm_go_s dd_M_back_65, mm_go_s dd_M_back_66, mm_go_s dd_M_back_69, kt_m1, kt_0, kt_1, kz, kb8_m2, kt_m2, kb16_9310, kt_9310, ml13_92, gf13_20, gf13_13, gf13_17, hS.2.2.2.2]
    refine ⟨fun _ => ⟨by omega, ⟨41, hS.sh (by decide) rfl⟩, by omega, 2, Or.inr (hS.sh (by decide) rfl), q1, by omega, fun d => ?_, fun d => ?_⟩, fun c => absurd c (by decide)⟩
    · have q := hh_back_l (cs := cs) (CM := CM) (SM := SM) (FM := FM) (LM := LM) (Rt := Rt) k q1 q2 (0, 0) h' hS ?_ 9310 (Int32.ofInt 0) (by rw [kt_0]; rfl) (by rw [kt_0]; decide)
      · rw [kt_0, show ((0 : Int).toNat) = 0 from rfl, rr_bk_0] at q
        exact q
      · have hS2 : rr_S (rr_bk h' (9310 * k.toInt.toNat) 9310) := hS
        have R3' := R3 q1 q2 (fun z => d (by rw [z]; rfl))
        obtain ⟨g, hg⟩ : ∃ g, rr_bk h' (9310 * k.toInt.toNat) 9310 = g := ⟨_, rfl⟩
        rw [hg] at hS2 R3' ⊢
        refine mm_go_ok [66] (N := fun z => mm_W vwCl ck_dt ck_mts ck_T13 cs false 3 CM SM FM LM prog_14_method_6_code (some .int) Rt z) (fun z h => h) 4 _ ?_
        simp only [mm_nn2, mm_one, mm_grp, mm_a, mm_b, mm_c, mm_bop, mm_d, mm_e, mm_ld, mm_sw, mm_k, mm_rt, mm_get, mm_put, mm_put2, mm_two, mm_rf, ck_tg, ck_chold, ck_cneg, List.elem_cons, List.elem_nil, List.find?_cons, List.filter_cons, List.filter_nil, Option.map_some, Nat.reduceBEq, Nat.reduceAdd, Bool.or_false, Bool.false_or, Bool.or_true, Bool.true_or, beq_self_eq_true, Bool.not_false, Bool.not_true, Bool.and_true, Bool.true_and, Bool.and_false, Bool.false_and, Bool.false_eq_true, ↓reduceIte, Fin.isValue, mm_f0, mm_f1, mm_f2, mm_f3, Nat.zero_mod, Nat.reduceMod, Option.some.injEq, Sum.inl.injEq, Sum.inr.injEq, exists_eq_left', List.find?_nil, List.length_cons, List.length_nil, true_and, and_true, Nat.reduceLT, Nat.reduceEqDiff, Int.reduceLE, Int.reduceAdd, Int.reduceToNat, Int.cast_ofNat_Int, Int.reduceNeg, Nat.reduceBeqDiff, Nat.zero_add, Prod.mk.injEq, mm_si_n, mm_si_s, mm_si_r, mm_go_s dd_M_back_0, mm_go_s dd_M_back_1, mm_go_s dd_M_back_2, mm_go_s dd_M_back_3, mm_go_s dd_M_back_6, mm_go_s dd_M_back_9, mm_go_s dd_M_back_10, mm_go_s dd_M_back_11, mm_go_s dd_M_back_14, mm_go_s dd_M_back_15, mm_go_s dd_M_back_16, mm_go_s dd_M_back_19, mm_go_s dd_M_back_20, mm_go_s dd_M_back_21, mm_go_s dd_M_back_24, mm_go_s dd_M_back_25, mm_go_s dd_M_back_27, mm_go_s dd_M_back_30, mm_go_s dd_M_back_31, mm_go_s dd_M_back_32, mm_go_s dd_M_back_33, mm_go_s dd_M_back_34, mm_go_s dd_M_back_37, mm_go_s dd_M_back_40, mm_go_s dd_M_back_41, mm_go_s dd_M_back_44, mm_go_s dd_M_back_45, mm_go_s dd_M_back_46, mm_go_s dd_M_back_49, mm_go_s dd_M_back_52, mm_go_s dd_M_back_53, mm_go_s dd_M_back_54, mm_go_s dd_M_back_55, mm_go_s dd_M_back_56, mm_go_s dd_M_back_57, mm_go_s dd_M_back_58, mm_go_s dd_M_back_61, mm_go_s dd_M_back_64, mm_go_s dd_M_back_65, mm_go_s dd_M_back_66, mm_go_s dd_M_back_69, kt_m1, kt_0, kt_1, kz, kb8_m2, kt_m2, kb16_9310, kt_9310, ml13_92, gf13_20, gf13_13, gf13_17]
        have hn2 := hS2.1
        refine mm_call_W (100, 0) (100, 0, 176) ck_m176 hc_good [mm_A (some 77), mm_I (Int32.ofInt 0)] [] dd_M_back_66 rfl ml13_100 (by decide) rfl c3 rfl rfl ⟨rfl, by show 77 < g.1; omega, (12, 41), _, hS2.sh (by decide) rfl, rfl, rfl⟩ (by decide) ⟨by show 0 + 1 ≤ FM; omega, by show 8 + (2 + 11) + 0 ≤ LM; omega⟩ ⟨by simp only [hc_good]; omega, by simp only [hc_good]; omega⟩ ⟨hS2, _, rfl⟩ ?_
        rintro r h2 ⟨v, e, rfl, rfl⟩ -
        obtain rfl : Int32.ofInt 0 = v := by
          injection e with e1 e2
          injection e2 with e2 e3
          exact Sum.inl.inj e2
        refine mm_go_ok [] (N := fun z => mm_W vwCl ck_dt ck_mts ck_T13 cs false 3 CM SM FM LM prog_14_method_6_code (some .int) Rt z) (fun z h => h) 2 _ ?_
        show mm_go vwCl ck_dt ck_mts ck_T13 cs false 3 CM SM FM LM prog_14_method_6_code (some .int) Rt [] _ 2 (69, _, [mm_I (Int32.ofInt 0)], _, 0, 0)
        simp only [mm_nn2, mm_one, mm_grp, mm_a, mm_b, mm_c, mm_bop, mm_d, mm_e, mm_ld, mm_sw, mm_k, mm_rt, mm_get, mm_put, mm_put2, mm_two, mm_rf, ck_tg, ck_chold, ck_cneg, List.elem_cons, List.elem_nil, List.find?_cons, List.filter_cons, List.filter_nil, Option.map_some, Nat.reduceBEq, Nat.reduceAdd, Bool.or_false, Bool.false_or, Bool.or_true, Bool.true_or, beq_self_eq_true, Bool.not_false, Bool.not_true, Bool.and_true, Bool.true_and, Bool.and_false, Bool.false_and, Bool.false_eq_true, ↓reduceIte, Fin.isValue, mm_f0, mm_f1, mm_f2, mm_f3, Nat.zero_mod, Nat.reduceMod, Option.some.injEq, Sum.inl.injEq, Sum.inr.injEq, exists_eq_left', List.find?_nil, List.length_cons, List.length_nil, true_and, and_true, Nat.reduceLT, Nat.reduceEqDiff, Int.reduceLE, Int.reduceAdd, Int.reduceToNat, Int.cast_ofNat_Int, Int.reduceNeg, Nat.reduceBeqDiff, Nat.zero_add, Prod.mk.injEq, mm_si_n, mm_si_s, mm_si_r, mm_go_s dd_M_back_0, mm_go_s dd_M_back_1, mm_go_s dd_M_back_2, mm_go_s dd_M_back_3, mm_go_s dd_M_back_6, mm_go_s dd_M_back_9, mm_go_s dd_M_back_10, mm_go_s dd_M_back_11, mm_go_s dd_M_back_14, mm_go_s dd_M_back_15, mm_go_s dd_M_back_16, mm_go_s dd_M_back_19, mm_go_s dd_M_back_20, mm_go_s dd_M_back_21, mm_go_s dd_M_back_24, mm_go_s dd_M_back_25, mm_go_s dd_M_back_27, mm_go_s dd_M_back_30, mm_go_s dd_M_back_31, mm_go_s dd_M_back_32, mm_go_s dd_M_back_33, mm_go_s dd_M_back_34, mm_go_s dd_M_back_37, mm_go_s dd_M_back_40, mm_go_s dd_M_back_41, mm_go_s dd_M_back_44, mm_go_s dd_M_back_45, mm_go_s dd_M_back_46, mm_go_s dd_M_back_49, mm_go_s dd_M_back_52, mm_go_s dd_M_back_53, mm_go_s dd_M_back_54, mm_go_s dd_M_back_55, mm_go_s dd_M_back_56, mm_go_s dd_M_back_57, mm_go_s dd_M_back_58, mm_go_s dd_M_back_61, mm_go_s dd_M_back_64, mm_go_s dd_M_back_65, mm_go_s dd_M_back_66, mm_go_s dd_M_back_69, kt_m1, kt_0, kt_1, kz, kb8_m2, kt_m2, kb16_9310, kt_9310, ml13_92, gf13_20, gf13_13, gf13_17]
        exact ⟨rfl, R3'⟩
    · refine mm_call_W (96, 0) (96, 0, 175) ck_m175 hc_refuses [mm_A (some 77), mm_I (Int32.ofInt (-2))] [] dd_M_back_27 rfl ml13_96 (by decide) rfl c2 rfl rfl ⟨rfl, by show 77 < h'.1; omega, (12, 41), _, hS.sh (by decide) rfl, rfl, rfl⟩ (by decide) ⟨by show 0 + 1 ≤ FM; omega, by show 8 + (2 + 11) + 0 ≤ LM; omega⟩ ⟨by simp only [hc_refuses]; omega, by simp only [hc_refuses]; omega⟩ ⟨hS, _, rfl⟩ ?_
      rintro r h2 ⟨v, e, rfl, rfl⟩ -
      obtain rfl : Int32.ofInt (-2) = v := by
        injection e with e1 e2
        injection e2 with e2 e3
        exact Sum.inl.inj e2
      refine mm_go_ok [] (N := fun z => mm_W vwCl ck_dt ck_mts ck_T13 cs false 3 CM SM FM LM prog_14_method_6_code (some .int) Rt z) (fun z h => h) 2 _ ?_
      show mm_go vwCl ck_dt ck_mts ck_T13 cs false 3 CM SM FM LM prog_14_method_6_code (some .int) Rt [] _ 2 (30, _, [mm_I (Int32.ofInt (-2))], _, 0, 0)
      simp only [mm_nn2, mm_one, mm_grp, mm_a, mm_b, mm_c, mm_bop, mm_d, mm_e, mm_ld, mm_sw, mm_k, mm_rt, mm_get, mm_put, mm_put2, mm_two, mm_rf, ck_tg, ck_chold, ck_cneg, List.elem_cons, List.elem_nil, List.find?_cons, List.filter_cons, List.filter_nil, Option.map_some, Nat.reduceBEq, Nat.reduceAdd, Bool.or_false, Bool.false_or, Bool.or_true, Bool.true_or, beq_self_eq_true, Bool.not_false, Bool.not_true, Bool.and_true, Bool.true_and, Bool.and_false, Bool.false_and, Bool.false_eq_true, ↓reduceIte, Fin.isValue, mm_f0, mm_f1, mm_f2, mm_f3, Nat.zero_mod, Nat.reduceMod, Option.some.injEq, Sum.inl.injEq, Sum.inr.injEq, exists_eq_left', List.find?_nil, List.length_cons, List.length_nil, true_and, and_true, Nat.reduceLT, Nat.reduceEqDiff, Int.reduceLE, Int.reduceAdd, Int.reduceToNat, Int.cast_ofNat_Int, Int.reduceNeg, Nat.reduceBeqDiff, Nat.zero_add, Prod.mk.injEq, mm_si_n, mm_si_s, mm_si_r, mm_go_s dd_M_back_0, mm_go_s dd_M_back_1, mm_go_s dd_M_back_2, mm_go_s dd_M_back_3, mm_go_s dd_M_back_6, mm_go_s dd_M_back_9, mm_go_s dd_M_back_10, mm_go_s dd_M_back_11, mm_go_s dd_M_back_14, mm_go_s dd_M_back_15, mm_go_s dd_M_back_16, mm_go_s dd_M_back_19, mm_go_s dd_M_back_20, mm_go_s dd_M_back_21, mm_go_s dd_M_back_24, mm_go_s dd_M_back_25, mm_go_s dd_M_back_27, mm_go_s dd_M_back_30, mm_go_s dd_M_back_31, mm_go_s dd_M_back_32, mm_go_s dd_M_back_33, mm_go_s dd_M_back_34, mm_go_s dd_M_back_37, mm_go_s dd_M_back_40, mm_go_s dd_M_back_41, mm_go_s dd_M_back_44, mm_go_s dd_M_back_45, mm_go_s dd_M_back_46, mm_go_s dd_M_back_49, mm_go_s dd_M_back_52, mm_go_s dd_M_back_53, mm_go_s dd_M_back_54, mm_go_s dd_M_back_55, mm_go_s dd_M_back_56, mm_go_s dd_M_back_57, mm_go_s dd_M_back_58, mm_go_s dd_M_back_61, mm_go_s dd_M_back_64, mm_go_s dd_M_back_65, mm_go_s dd_M_back_66, mm_go_s dd_M_back_69, kt_m1, kt_0, kt_1, kz, kb8_m2, kt_m2, kb16_9310, kt_9310, ml13_92, gf13_20, gf13_13, gf13_17]
      exact ⟨rfl, R2 q1 q2 (Int32.toInt.inj d)⟩
  · show mm_W vwCl ck_dt ck_mts ck_T13 cs false 3 CM SM FM LM prog_14_method_6_code (some .int) Rt (6, [(0, mm_A (some 77)), (1, mm_I k)], [mm_I 0], h', 0, 0)
    refine mm_go_ok [11] (N := fun z => mm_W vwCl ck_dt ck_mts ck_T13 cs false 3 CM SM FM LM prog_14_method_6_code (some .int) Rt z) (fun z h => h) 5 _ ?_
    simp only [mm_nn2, mm_one, mm_grp, mm_a, mm_b, mm_c, mm_bop, mm_d, mm_e, mm_ld, mm_sw, mm_k, mm_rt, mm_get, mm_put, mm_put2, mm_two, mm_rf, ck_tg, ck_chold, ck_cneg, List.elem_cons, List.elem_nil, List.find?_cons, List.filter_cons, List.filter_nil, Option.map_some, Nat.reduceBEq, Nat.reduceAdd, Bool.or_false, Bool.false_or, Bool.or_true, Bool.true_or, beq_self_eq_true, Bool.not_false, Bool.not_true, Bool.and_true, Bool.true_and, Bool.and_false, Bool.false_and, Bool.false_eq_true, ↓reduceIte, Fin.isValue, mm_f0, mm_f1, mm_f2, mm_f3, Nat.zero_mod, Nat.reduceMod, Option.some.injEq, Sum.inl.injEq, Sum.inr.injEq, exists_eq_left', List.find?_nil, List.length_cons, List.length_nil, true_and, and_true, Nat.reduceLT, Nat.reduceEqDiff, Int.reduceLE, Int.reduceAdd, Int.reduceToNat, Int.cast_ofNat_Int, Int.reduceNeg, Nat.reduceBeqDiff, Nat.zero_add, Prod.mk.injEq, mm_si_n, mm_si_s, mm_si_r, mm_go_s dd_M_back_0, mm_go_s dd_M_back_1, mm_go_s dd_M_back_2, mm_go_s dd_M_back_3, mm_go_s dd_M_back_6, mm_go_s dd_M_back_9, mm_go_s dd_M_back_10, mm_go_s dd_M_back_11, mm_go_s dd_M_back_14, mm_go_s dd_M_back_15, mm_go_s dd_M_back_16, mm_go_s dd_M_back_19, mm_go_s dd_M_back_20, mm_go_s dd_M_back_21, mm_go_s dd_M_back_24, mm_go_s dd_M_back_25, mm_go_s dd_M_back_27, mm_go_s dd_M_back_30, mm_go_s dd_M_back_31, mm_go_s dd_M_back_32, mm_go_s dd_M_back_33, mm_go_s dd_M_back_34, mm_go_s dd_M_back_37, mm_go_s dd_M_back_40, mm_go_s dd_M_back_41, mm_go_s dd_M_back_44, mm_go_s dd_M_back_45, mm_go_s dd_M_back_46, mm_go_s dd_M_back_49, mm_go_s dd_M_back_52, mm_go_s dd_M_back_53, mm_go_s dd_M_back_54, mm_go_s dd_M_back_55, mm_go_s dd_M_back_56, mm_go_s dd_M_back_57, mm_go_s dd_M_back_58, mm_go_s dd_M_back_61, mm_go_s dd_M_back_64, mm_go_s dd_M_back_65, mm_go_s dd_M_back_66, mm_go_s dd_M_back_69, kt_m1, kt_0, kt_1, kz, kb8_m2, kt_m2, kb16_9310, kt_9310, ml13_92, gf13_20, gf13_13, gf13_17]
    refine ⟨fun c => absurd rfl c, fun _ => ?_⟩
    refine mm_call_W (96, 0) (96, 0, 175) ck_m175 hc_refuses [mm_A (some 77), mm_I (Int32.ofInt (-1))] [] dd_M_back_11 rfl ml13_96 (by decide) rfl c2 rfl rfl ⟨rfl, by show 77 < h'.1; omega, (12, 41), _, hS.sh (by decide) rfl, rfl, rfl⟩ (by decide) ⟨by show 0 + 1 ≤ FM; omega, by show 8 + (2 + 11) + 0 ≤ LM; omega⟩ ⟨by simp only [hc_refuses]; omega, by simp only [hc_refuses]; omega⟩ ⟨hS, _, rfl⟩ ?_
    rintro r h2 ⟨v, e, rfl, rfl⟩ -
    obtain rfl : Int32.ofInt (-1) = v := by
      injection e with e1 e2
      injection e2 with e2 e3
      exact Sum.inl.inj e2
    refine mm_go_ok [] (N := fun z => mm_W vwCl ck_dt ck_mts ck_T13 cs false 3 CM SM FM LM prog_14_method_6_code (some .int) Rt z) (fun z h => h) 2 _ ?_
    show mm_go vwCl ck_dt ck_mts ck_T13 cs false 3 CM SM FM LM prog_14_method_6_code (some .int) Rt [] _ 2 (14, _, [mm_I (Int32.ofInt (-1))], _, 0, 0)
    simp only [mm_nn2, mm_one, mm_grp, mm_a, mm_b, mm_c, mm_bop, mm_d, mm_e, mm_ld, mm_sw, mm_k, mm_rt, mm_get, mm_put, mm_put2, mm_two, mm_rf, ck_tg, ck_chold, ck_cneg, List.elem_cons, List.elem_nil, List.find?_cons, List.filter_cons, List.filter_nil, Option.map_some, Nat.reduceBEq, Nat.reduceAdd, Bool.or_false, Bool.false_or, Bool.or_true, Bool.true_or, beq_self_eq_true, Bool.not_false, Bool.not_true, Bool.and_true, Bool.true_and, Bool.and_false, Bool.false_and, Bool.false_eq_true, ↓reduceIte, Fin.isValue, mm_f0, mm_f1, mm_f2, mm_f3, Nat.zero_mod, Nat.reduceMod, Option.some.injEq, Sum.inl.injEq, Sum.inr.injEq, exists_eq_left', List.find?_nil, List.length_cons, List.length_nil, true_and, and_true, Nat.reduceLT, Nat.reduceEqDiff, Int.reduceLE, Int.reduceAdd, Int.reduceToNat, Int.cast_ofNat_Int, Int.reduceNeg, Nat.reduceBeqDiff, Nat.zero_add, Prod.mk.injEq, mm_si_n, mm_si_s, mm_si_r, mm_go_s dd_M_back_0, mm_go_s dd_M_back_1, mm_go_s dd_M_back_2, mm_go_s dd_M_back_3, mm_go_s dd_M_back_6, mm_go_s dd_M_back_9, mm_go_s dd_M_back_10, mm_go_s dd_M_back_11, mm_go_s dd_M_back_14, mm_go_s dd_M_back_15, mm_go_s dd_M_back_16, mm_go_s dd_M_back_19, mm_go_s dd_M_back_20, mm_go_s dd_M_back_21, mm_go_s dd_M_back_24, mm_go_s dd_M_back_25, mm_go_s dd_M_back_27, mm_go_s dd_M_back_30, mm_go_s dd_M_back_31, mm_go_s dd_M_back_32, mm_go_s dd_M_back_33, mm_go_s dd_M_back_34, mm_go_s dd_M_back_37, mm_go_s dd_M_back_40, mm_go_s dd_M_back_41, mm_go_s dd_M_back_44, mm_go_s dd_M_back_45, mm_go_s dd_M_back_46, mm_go_s dd_M_back_49, mm_go_s dd_M_back_52, mm_go_s dd_M_back_53, mm_go_s dd_M_back_54, mm_go_s dd_M_back_55, mm_go_s dd_M_back_56, mm_go_s dd_M_back_57, mm_go_s dd_M_back_58, mm_go_s dd_M_back_61, mm_go_s dd_M_back_64, mm_go_s dd_M_back_65, mm_go_s dd_M_back_66, mm_go_s dd_M_back_69, kt_m1, kt_0, kt_1, kz, kb8_m2, kt_m2, kb16_9310, kt_9310, ml13_92, gf13_20, gf13_13, gf13_17]
    exact ⟨rfl, R1 q1⟩
