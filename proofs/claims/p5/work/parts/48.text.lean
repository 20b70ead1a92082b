/-! the reference: text; what the kept codes are -/
theorem kb8_m6 : (Int8.ofInt (-6)).toInt32 = Int32.ofInt (-6) := by decide
theorem kt_m6 : (Int32.ofInt (-6)).toInt = (-6) := by decide
theorem kb8_m5 : (Int8.ofInt (-5)).toInt32 = Int32.ofInt (-5) := by decide
theorem kt_m5 : (Int32.ofInt (-5)).toInt = (-5) := by decide
theorem kb16_400 : (Int16.ofInt 400).toInt32 = Int32.ofInt 400 := by decide
theorem kt_400 : (Int32.ofInt 400).toInt = 400 := by decide
theorem kb16_1294 : (Int16.ofInt 1294).toInt32 = Int32.ofInt 1294 := by decide
theorem kt_1294 : (Int32.ofInt 1294).toInt = 1294 := by decide
theorem kb16_1300 : (Int16.ofInt 1300).toInt32 = Int32.ofInt 1300 := by decide
theorem kt_1300 : (Int32.ofInt 1300).toInt = 1300 := by decide
theorem kb16_1310 : (Int16.ofInt 1310).toInt32 = Int32.ofInt 1310 := by decide
theorem kt_1310 : (Int32.ofInt 1310).toInt = 1310 := by decide
theorem kb16_5310 : (Int16.ofInt 5310).toInt32 = Int32.ofInt 5310 := by decide
theorem kt_5310 : (Int32.ofInt 5310).toInt = 5310 := by decide
theorem dd_M_text_0 : decode prog_14_method_40_code 0 = .ok (.aload_n 0, 1) := by decide +kernel
theorem dd_M_text_1 : decode prog_14_method_40_code 1 = .ok (.getfield 13, 3) := by decide +kernel
theorem dd_M_text_4 : decode prog_14_method_40_code 4 = .ok (.sipush 1294, 3) := by decide +kernel
theorem dd_M_text_7 : decode prog_14_method_40_code 7 = .ok (.iaload, 1) := by decide +kernel
theorem dd_M_text_8 : decode prog_14_method_40_code 8 = .ok (.bipush 10, 2) := by decide +kernel
theorem dd_M_text_10 : decode prog_14_method_40_code 10 = .ok (.if_icmp .ne 15, 3) := by decide +kernel
theorem dd_M_text_13 : decode prog_14_method_40_code 13 = .ok (.aload_n 0, 1) := by decide +kernel
theorem dd_M_text_14 : decode prog_14_method_40_code 14 = .ok (.iconst 0, 1) := by decide +kernel
theorem dd_M_text_15 : decode prog_14_method_40_code 15 = .ok (.putfield 122, 3) := by decide +kernel
theorem dd_M_text_18 : decode prog_14_method_40_code 18 = .ok (.aload_n 0, 1) := by decide +kernel
theorem dd_M_text_19 : decode prog_14_method_40_code 19 = .ok (.bipush (-5), 2) := by decide +kernel
theorem dd_M_text_21 : decode prog_14_method_40_code 21 = .ok (.invokevirtual 96, 3) := by decide +kernel
theorem dd_M_text_24 : decode prog_14_method_40_code 24 = .ok (.ireturn, 1) := by decide +kernel
theorem dd_M_text_25 : decode prog_14_method_40_code 25 = .ok (.aload_n 0, 1) := by decide +kernel
theorem dd_M_text_26 : decode prog_14_method_40_code 26 = .ok (.invokevirtual 195, 3) := by decide +kernel
theorem dd_M_text_29 : decode prog_14_method_40_code 29 = .ok (.ifCond .ne 10, 3) := by decide +kernel
theorem dd_M_text_32 : decode prog_14_method_40_code 32 = .ok (.aload_n 0, 1) := by decide +kernel
theorem dd_M_text_33 : decode prog_14_method_40_code 33 = .ok (.bipush (-6), 2) := by decide +kernel
theorem dd_M_text_35 : decode prog_14_method_40_code 35 = .ok (.invokevirtual 96, 3) := by decide +kernel
theorem dd_M_text_38 : decode prog_14_method_40_code 38 = .ok (.ireturn, 1) := by decide +kernel
theorem dd_M_text_39 : decode prog_14_method_40_code 39 = .ok (.aload_n 0, 1) := by decide +kernel
theorem dd_M_text_40 : decode prog_14_method_40_code 40 = .ok (.getfield 13, 3) := by decide +kernel
theorem dd_M_text_43 : decode prog_14_method_40_code 43 = .ok (.sipush 1294, 3) := by decide +kernel
theorem dd_M_text_46 : decode prog_14_method_40_code 46 = .ok (.iaload, 1) := by decide +kernel
theorem dd_M_text_47 : decode prog_14_method_40_code 47 = .ok (.istore_n 1, 1) := by decide +kernel
theorem dd_M_text_48 : decode prog_14_method_40_code 48 = .ok (.aload_n 0, 1) := by decide +kernel
theorem dd_M_text_49 : decode prog_14_method_40_code 49 = .ok (.getfield 13, 3) := by decide +kernel
theorem dd_M_text_52 : decode prog_14_method_40_code 52 = .ok (.sipush 1300, 3) := by decide +kernel
theorem dd_M_text_55 : decode prog_14_method_40_code 55 = .ok (.iload_n 1, 1) := by decide +kernel
theorem dd_M_text_56 : decode prog_14_method_40_code 56 = .ok (.iadd, 1) := by decide +kernel
theorem dd_M_text_57 : decode prog_14_method_40_code 57 = .ok (.aload_n 0, 1) := by decide +kernel
theorem dd_M_text_58 : decode prog_14_method_40_code 58 = .ok (.getfield 125, 3) := by decide +kernel
theorem dd_M_text_61 : decode prog_14_method_40_code 61 = .ok (.iastore, 1) := by decide +kernel
theorem dd_M_text_62 : decode prog_14_method_40_code 62 = .ok (.iconst 0, 1) := by decide +kernel
theorem dd_M_text_63 : decode prog_14_method_40_code 63 = .ok (.istore_n 2, 1) := by decide +kernel
theorem dd_M_text_64 : decode prog_14_method_40_code 64 = .ok (.iload_n 2, 1) := by decide +kernel
theorem dd_M_text_65 : decode prog_14_method_40_code 65 = .ok (.aload_n 0, 1) := by decide +kernel
theorem dd_M_text_66 : decode prog_14_method_40_code 66 = .ok (.getfield 125, 3) := by decide +kernel
theorem dd_M_text_69 : decode prog_14_method_40_code 69 = .ok (.if_icmp .ge 53, 3) := by decide +kernel
theorem dd_M_text_72 : decode prog_14_method_40_code 72 = .ok (.aload_n 0, 1) := by decide +kernel
theorem dd_M_text_73 : decode prog_14_method_40_code 73 = .ok (.getfield 13, 3) := by decide +kernel
theorem dd_M_text_76 : decode prog_14_method_40_code 76 = .ok (.sipush 1310, 3) := by decide +kernel
theorem dd_M_text_79 : decode prog_14_method_40_code 79 = .ok (.sipush 400, 3) := by decide +kernel
theorem dd_M_text_82 : decode prog_14_method_40_code 82 = .ok (.iload_n 1, 1) := by decide +kernel
theorem dd_M_text_83 : decode prog_14_method_40_code 83 = .ok (.imul, 1) := by decide +kernel
theorem dd_M_text_84 : decode prog_14_method_40_code 84 = .ok (.iadd, 1) := by decide +kernel
theorem dd_M_text_85 : decode prog_14_method_40_code 85 = .ok (.iload_n 2, 1) := by decide +kernel
theorem dd_M_text_86 : decode prog_14_method_40_code 86 = .ok (.iadd, 1) := by decide +kernel
theorem dd_M_text_87 : decode prog_14_method_40_code 87 = .ok (.aload_n 0, 1) := by decide +kernel
theorem dd_M_text_88 : decode prog_14_method_40_code 88 = .ok (.getfield 37, 3) := by decide +kernel
theorem dd_M_text_91 : decode prog_14_method_40_code 91 = .ok (.iload_n 2, 1) := by decide +kernel
theorem dd_M_text_92 : decode prog_14_method_40_code 92 = .ok (.iaload, 1) := by decide +kernel
theorem dd_M_text_93 : decode prog_14_method_40_code 93 = .ok (.iastore, 1) := by decide +kernel
theorem dd_M_text_94 : decode prog_14_method_40_code 94 = .ok (.aload_n 0, 1) := by decide +kernel
theorem dd_M_text_95 : decode prog_14_method_40_code 95 = .ok (.getfield 13, 3) := by decide +kernel
theorem dd_M_text_98 : decode prog_14_method_40_code 98 = .ok (.sipush 5310, 3) := by decide +kernel
theorem dd_M_text_101 : decode prog_14_method_40_code 101 = .ok (.sipush 400, 3) := by decide +kernel
theorem dd_M_text_104 : decode prog_14_method_40_code 104 = .ok (.iload_n 1, 1) := by decide +kernel
theorem dd_M_text_105 : decode prog_14_method_40_code 105 = .ok (.imul, 1) := by decide +kernel
theorem dd_M_text_106 : decode prog_14_method_40_code 106 = .ok (.iadd, 1) := by decide +kernel
theorem dd_M_text_107 : decode prog_14_method_40_code 107 = .ok (.iload_n 2, 1) := by decide +kernel
theorem dd_M_text_108 : decode prog_14_method_40_code 108 = .ok (.iadd, 1) := by decide +kernel
theorem dd_M_text_109 : decode prog_14_method_40_code 109 = .ok (.aload_n 0, 1) := by decide +kernel
theorem dd_M_text_110 : decode prog_14_method_40_code 110 = .ok (.getfield 40, 3) := by decide +kernel
theorem dd_M_text_113 : decode prog_14_method_40_code 113 = .ok (.iload_n 2, 1) := by decide +kernel
theorem dd_M_text_114 : decode prog_14_method_40_code 114 = .ok (.iaload, 1) := by decide +kernel
theorem dd_M_text_115 : decode prog_14_method_40_code 115 = .ok (.iastore, 1) := by decide +kernel
theorem dd_M_text_116 : decode prog_14_method_40_code 116 = .ok (.iinc 2 1, 3) := by decide +kernel
theorem dd_M_text_119 : decode prog_14_method_40_code 119 = .ok (.goto (-55), 3) := by decide +kernel
theorem dd_M_text_122 : decode prog_14_method_40_code 122 = .ok (.aload_n 0, 1) := by decide +kernel
theorem dd_M_text_123 : decode prog_14_method_40_code 123 = .ok (.getfield 13, 3) := by decide +kernel
theorem dd_M_text_126 : decode prog_14_method_40_code 126 = .ok (.sipush 1294, 3) := by decide +kernel
theorem dd_M_text_129 : decode prog_14_method_40_code 129 = .ok (.dup2, 1) := by decide +kernel
theorem dd_M_text_130 : decode prog_14_method_40_code 130 = .ok (.iaload, 1) := by decide +kernel
theorem dd_M_text_131 : decode prog_14_method_40_code 131 = .ok (.iconst 1, 1) := by decide +kernel
theorem dd_M_text_132 : decode prog_14_method_40_code 132 = .ok (.iadd, 1) := by decide +kernel
theorem dd_M_text_133 : decode prog_14_method_40_code 133 = .ok (.iastore, 1) := by decide +kernel
theorem dd_M_text_134 : decode prog_14_method_40_code 134 = .ok (.aload_n 0, 1) := by decide +kernel
theorem dd_M_text_135 : decode prog_14_method_40_code 135 = .ok (.iload_n 1, 1) := by decide +kernel
theorem dd_M_text_136 : decode prog_14_method_40_code 136 = .ok (.invokevirtual 100, 3) := by decide +kernel
theorem dd_M_text_139 : decode prog_14_method_40_code 139 = .ok (.ireturn, 1) := by decide +kernel

def gk_f (f : Nat → Int32) (t k : Nat) : Int := if k < (f t).toInt.toNat then (f (10 + 400 * t + k)).toInt else 0
def gk_1 (f : Nat → Int32) (t : Nat) : Prop := 0 ≤ (f t).toInt ∧ (f t).toInt ≤ 400 ∧ ((f t).toInt = 0 ∨ gg_text (gk_f f t) (f t).toInt.toNat 12 0)
def gk (f : Nat → Int32) : Prop := ∀ t, t < 10 → gk_1 f t
theorem gk_1.on {f g : Nat → Int32} {t : Nat} (h : gk_1 f t) (e1 : g t = f t) (e2 : ∀ k, k < 400 → g (10 + 400 * t + k) = f (10 + 400 * t + k)) : gk_1 g t := by
  have e : gk_f g t = gk_f f t := by
    funext k
    unfold gk_f
    rw [e1]
    by_cases c : k < (f t).toInt.toNat
    · rw [if_pos c, if_pos c, e2 k (by have := h.2.1; omega)]
    · rw [if_neg c, if_neg c]
  unfold gk_1
  rw [e1, e]
  exact h
def rr_kt (h : mm_h) (k : Nat) : Int32 := h.2.2.1 78 (1300 + k)
def rr_txF (c p : Nat) : Prop := rr_rdF c p ∨ (c = 77 ∧ p = 0) ∨ (c = 78 ∧ (p = 1294 ∨ 1300 ≤ p))
def rr_tx (h : mm_h) (r : Option mm_v) (h' : mm_h) : Prop := rr_fr rr_txF h h' ∧ (∃ v, r = some (mm_I v)) ∧ (h'.2.2.1 77 7).toInt = 0 ∧ (0 ≤ (h'.2.2.1 78 1294).toInt ∧ (h'.2.2.1 78 1294).toInt ≤ 10) ∧ ((h'.2.2.1 77 12 = h.2.2.1 77 12 ∧ h'.2.2.1 77 13 = h.2.2.1 77 13) ∨ ((0 ≤ (h'.2.2.1 77 12).toInt ∧ (h'.2.2.1 77 12).toInt ≤ 400) ∧ (0 ≤ (h'.2.2.1 77 13).toInt ∧ (h'.2.2.1 77 13).toInt ≤ 400))) ∧ (gk (rr_kt h) → gk (rr_kt h'))
theorem hh_text_ref {Rt : Option mm_v → mm_h → Nat × Nat → Prop} (pc : Nat) (v : Int32) (L : List (Nat × mm_v)) (h : mm_h) (hA : rr_A h) (hd : decode prog_14_method_40_code pc = .ok (.invokevirtual 96, 3)) (hr : decode prog_14_method_40_code (pc + 3) = .ok (.ireturn, 1)) (K : Rt (some (mm_I v)) (mm_si h 77 0 v) (0, 0)) :
    mm_W vwCl ck_dt ck_mts ck_T13 [hc_refuses, hc_good, hc_reads] false 3 0 0 (62) (1960) prog_14_method_40_code (some .int) Rt (pc, L, [mm_I v, mm_A (some 77)], h, 0, 0) := by
  refine rr_call (96, 0, 175) ck_m175 hc_refuses [mm_I v] [] hA hd rfl ml13_96 (by decide) rfl rfl rfl (.head _) rfl rfl (Nat.le_of_ble_eq_true rfl) ⟨by decide, by decide⟩ rfl ⟨hA.1, _, rfl⟩ ?_
  rintro r h2 ⟨v', e, rfl, rfl⟩
  obtain rfl : v = v' := Sum.inl.inj (List.cons.inj (List.cons.inj e).2).1
  refine mm_W.of ⟨_, hr, .inr (.inr (.inr (.inr (.inr (.inr (.inr (.inr (.inr (.inr (.inr (.inr (.inr ⟨⟨.int, rfl, rfl⟩, K⟩))))))))))))⟩
def rr_tlF (T c p : Nat) : Prop := c = 78 ∧ (p = 1300 + T ∨ (1310 + 400 * T ≤ p ∧ p < 1710 + 400 * T) ∨ (5310 + 400 * T ≤ p ∧ p < 5710 + 400 * T))
theorem hh_text_l {Rt : Option mm_v → mm_h → Nat × Nat → Prop} (T n : Nat) (hT9 : T ≤ 9) (hn : n ≤ 400) (tt : Int32) (htt : tt.toInt = T) (h1 : mm_h) (hA1 : rr_A h1) (hN : (h1.2.2.1 77 12).toInt = n) (s : Int32)
    (K : ∀ (i : Int32) (h2 : mm_h), rr_fr (rr_tlF T) h1 h2 → h2.2.2.1 78 (1300 + T) = s → (∀ j, j < n → h2.2.2.1 78 (1310 + 400 * T + j) = h1.2.2.1 84 j) → mm_W vwCl ck_dt ck_mts ck_T13 [hc_refuses, hc_good, hc_reads] false 3 0 0 (62) (1960) prog_14_method_40_code (some .int) Rt (122, [(2, mm_I i), (1, mm_I tt), (0, mm_A (some 77))], [], h2, 0, 0)) :
    ∀ (d k : Nat) (i : Int32) (h2 : mm_h), n - k ≤ d → k ≤ n → i.toInt = k → rr_fr (rr_tlF T) h1 h2 → h2.2.2.1 78 (1300 + T) = s → (∀ j, j < k → h2.2.2.1 78 (1310 + 400 * T + j) = h1.2.2.1 84 j) → mm_W vwCl ck_dt ck_mts ck_T13 [hc_refuses, hc_good, hc_reads] false 3 0 0 (62) (1960) prog_14_method_40_code (some .int) Rt (64, [(2, mm_I i), (1, mm_I tt), (0, mm_A (some 77))], [], h2, 0, 0) := by
  intro d
  induction d with
  | zero =>
    intro k i h2 hd hk hi f2 hs hc
    have hA2 := f2.A hA1
    have hN2 : (h2.2.2.1 77 12).toInt = n := by rw [f2.2.2.2 77 12 (by unfold rr_tlF; omega)]; exact hN
    refine mm_go_ok [122, 72] (N := fun z => mm_W vwCl ck_dt ck_mts ck_T13 [hc_refuses, hc_good, hc_reads] false 3 0 0 (62) (1960) prog_14_method_40_code (some .int) Rt z) (fun z h => h) 6 _ ?_
    simp only [mm_nn2, mm_one, mm_grp, mm_a, mm_b, mm_c, mm_bop, mm_d, mm_e, mm_ld, mm_sw, mm_k, mm_rt, mm_get, mm_put, mm_put2, mm_two, mm_rf, ck_tg, ck_chold, ck_cneg, List.elem_cons, List.elem_nil, List.find?_cons, List.filter_cons, List.filter_nil, Option.map_some, Nat.reduceBEq, Nat.reduceAdd, Bool.or_false, Bool.false_or, Bool.or_true, Bool.true_or, beq_self_eq_true, Bool.not_false, Bool.not_true, Bool.and_true, Bool.true_and, Bool.and_false, Bool.false_and, Bool.false_eq_true, ↓reduceIte, Fin.isValue, mm_f0, mm_f1, mm_f2, mm_f3, Nat.zero_mod, Nat.reduceMod, Option.some.injEq, Sum.inl.injEq, Sum.inr.injEq, exists_eq_left', List.find?_nil, List.length_cons, List.length_nil, true_and, and_true, Nat.reduceLT, Nat.reduceEqDiff, Int.reduceLE, Int.reduceAdd, Int.reduceToNat, Int.cast_ofNat_Int, Int.reduceNeg, Nat.reduceBeqDiff, Nat.zero_add, Prod.mk.injEq, mm_si_n, mm_si_s, mm_si_r, Option.toList_some, Option.toList_none, List.cons_append, List.nil_append, exists_eq', exists_eq, reduceCtorEq, false_and, and_false, false_or, or_false, exists_false, eq_self, and_self, mm_si_i, Int.reduceLT, mm_go_s dd_M_text_0, mm_go_s dd_M_text_1, mm_go_s dd_M_text_4, mm_go_s dd_M_text_7, mm_go_s dd_M_text_8, mm_go_s dd_M_text_10, mm_go_s dd_M_text_13, mm_go_s dd_M_text_14, mm_go_s dd_M_text_15, mm_go_s dd_M_text_18, mm_go_s dd_M_text_19, mm_go_s dd_M_text_21, mm_go_s dd_M_text_24, mm_go_s dd_M_text_25, mm_go_s dd_M_text_26, mm_go_s dd_M_text_29, mm_go_s dd_M_text_32, mm_go_s dd_M_text_33, mm_go_s dd_M_text_35, mm_go_s dd_M_text_38, mm_go_s dd_M_text_39, mm_go_s dd_M_text_40, mm_go_s dd_M_text_43, mm_go_s dd_M_text_46, mm_go_s dd_M_text_47, mm_go_s dd_M_text_48, mm_go_s dd_M_text_49, mm_go_s dd_M_text_52, mm_go_s dd_M_text_55, mm_go_s dd_M_text_56, mm_go_s dd_M_text_57, mm_go_s dd_M_text_58, mm_go_s dd_M_text_61, mm_go_s dd_M_text_62, mm_go_s dd_M_text_63, mm_go_s dd_M_text_64, mm_go_s dd_M_text_65, mm_go_s dd_M_text_66, mm_go_s dd_M_text_69, mm_go_s dd_M_text_72, mm_go_s dd_M_text_73, mm_go_s dd_M_text_76, mm_go_s dd_M_text_79, mm_go_s dd_M_text_82, mm_go_s dd_M_text_83, mm_go_s dd_M_text_84, mm_go_s dd_M_text_85, mm_go_s dd_M_text_86, mm_go_s dd_M_text_87, mm_go_s dd_M_text_88, mm_go_s dd_M_text_91, mm_go_s dd_M_text_92, mm_go_s dd_M_text_93, mm_go_s dd_M_text_94, mm_go_s dd_M_text_95, mm_go_s dd_M_text_98, mm_go_s dd_M_text_101, mm_go_s dd_M_text_104, mm_go_s dd_M_text_105, mm_go_s dd_M_text_106, mm_go_s dd_M_text_107, mm_go_s dd_M_text_108, mm_go_s dd_M_text_109, mm_go_s dd_M_text_110, mm_go_s dd_M_text_113, mm_go_s dd_M_text_114, mm_go_s dd_M_text_115, mm_go_s dd_M_text_116, mm_go_s dd_M_text_119, mm_go_s dd_M_text_122, mm_go_s dd_M_text_123, mm_go_s dd_M_text_126, mm_go_s dd_M_text_129, mm_go_s dd_M_text_130, mm_go_s dd_M_text_131, mm_go_s dd_M_text_132, mm_go_s dd_M_text_133, mm_go_s dd_M_text_134, mm_go_s dd_M_text_135, mm_go_s dd_M_text_136, mm_go_s dd_M_text_139, kt_0, kt_1, kz, kb8_m6, kt_m6, kb8_m5, kt_m5, kb8_10, kt_10, kb16_400, kt_400, kb16_1294, kt_1294, kb16_1300, kt_1300, kb16_1310, kt_1310, kb16_5310, kt_5310, gf13_13, pf13_122, gf13_125, gf13_37, gf13_40, rr_lt hA2, rr_s77 hA2, rr_s78 hA2, rr_s79 hA2, rr_s80 hA2, rr_s81 hA2, rr_s82 hA2, rr_s83 hA2, rr_s84 hA2, rr_s85 hA2, rr_s86 hA2, rr_s87 hA2, rr_s88 hA2, rr_s89 hA2, rr_s90 hA2, rr_s91 hA2, rr_s92 hA2, rr_s93 hA2, rr_s94 hA2, rr_s95 hA2, rr_s96 hA2, rr_s97 hA2, rr_s98 hA2, rr_s99 hA2, rr_s100 hA2, rr_r1 hA2, rr_r2 hA2, rr_r3 hA2, rr_r4 hA2, rr_r5 hA2, rr_r6 hA2, rr_r9 hA2, rr_r10 hA2, rr_r11 hA2, rr_r19 hA2, rr_r24 hA2, rr_r25 hA2, rr_r26 hA2, rr_r27 hA2, rr_r28 hA2, rr_r30 hA2, rr_r31 hA2, rr_r35 hA2, rr_r36 hA2, rr_r37 hA2, rr_r38 hA2, rr_r39 hA2, rr_r40 hA2, hN2]
    exact ⟨fun _ => K i h2 f2 hs (fun j hj => hc j (by omega)), fun c => by omega⟩
  | succ d ih =>
    intro k i h2 hd hk hi f2 hs hc
    have hA2 := f2.A hA1
    have hN2 : (h2.2.2.1 77 12).toInt = n := by rw [f2.2.2.2 77 12 (by unfold rr_tlF; omega)]; exact hN
    refine mm_go_ok [122, 64] (N := fun z => mm_W vwCl ck_dt ck_mts ck_T13 [hc_refuses, hc_good, hc_reads] false 3 0 0 (62) (1960) prog_14_method_40_code (some .int) Rt z) (fun z h => h) 60 _ ?_
    simp only [mm_nn2, mm_one, mm_grp, mm_a, mm_b, mm_c, mm_bop, mm_d, mm_e, mm_ld, mm_sw, mm_k, mm_rt, mm_get, mm_put, mm_put2, mm_two, mm_rf, ck_tg, ck_chold, ck_cneg, List.elem_cons, List.elem_nil, List.find?_cons, List.filter_cons, List.filter_nil, Option.map_some, Nat.reduceBEq, Nat.reduceAdd, Bool.or_false, Bool.false_or, Bool.or_true, Bool.true_or, beq_self_eq_true, Bool.not_false, Bool.not_true, Bool.and_true, Bool.true_and, Bool.and_false, Bool.false_and, Bool.false_eq_true, ↓reduceIte, Fin.isValue, mm_f0, mm_f1, mm_f2, mm_f3, Nat.zero_mod, Nat.reduceMod, Option.some.injEq, Sum.inl.injEq, Sum.inr.injEq, exists_eq_left', List.find?_nil, List.length_cons, List.length_nil, true_and, and_true, Nat.reduceLT, Nat.reduceEqDiff, Int.reduceLE, Int.reduceAdd, Int.reduceToNat, Int.cast_ofNat_Int, Int.reduceNeg, Nat.reduceBeqDiff, Nat.zero_add, Prod.mk.injEq, mm_si_n, mm_si_s, mm_si_r, Option.toList_some, Option.toList_none, List.cons_append, List.nil_append, exists_eq', exists_eq, reduceCtorEq, false_and, and_false, false_or, or_false, exists_false, eq_self, and_self, mm_si_i, Int.reduceLT, mm_go_s dd_M_text_0, mm_go_s dd_M_text_1, mm_go_s dd_M_text_4, mm_go_s dd_M_text_7, mm_go_s dd_M_text_8, mm_go_s dd_M_text_10, mm_go_s dd_M_text_13, mm_go_s dd_M_text_14, mm_go_s dd_M_text_15, mm_go_s dd_M_text_18, mm_go_s dd_M_text_19, mm_go_s dd_M_text_21, mm_go_s dd_M_text_24, mm_go_s dd_M_text_25, mm_go_s dd_M_text_26, mm_go_s dd_M_text_29, mm_go_s dd_M_text_32, mm_go_s dd_M_text_33, mm_go_s dd_M_text_35, mm_go_s dd_M_text_38, mm_go_s dd_M_text_39, mm_go_s dd_M_text_40, mm_go_s dd_M_text_43, mm_go_s dd_M_text_46, mm_go_s dd_M_text_47, mm_go_s dd_M_text_48, mm_go_s dd_M_text_49, mm_go_s dd_M_text_52, mm_go_s dd_M_text_55, mm_go_s dd_M_text_56, mm_go_s dd_M_text_57, mm_go_s dd_M_text_58, mm_go_s dd_M_text_61, mm_go_s dd_M_text_62, mm_go_s dd_M_text_63, mm_go_s dd_M_text_64, mm_go_s dd_M_text_65, mm_go_s dd_M_text_66, mm_go_s dd_M_text_69, mm_go_s dd_M_text_72, mm_go_s dd_M_text_73, mm_go_s dd_M_text_76, mm_go_s dd_M_text_79, mm_go_s dd_M_text_82, mm_go_s dd_M_text_83, mm_go_s dd_M_text_84, mm_go_s dd_M_text_85, mm_go_s dd_M_text_86, mm_go_s dd_M_text_87, mm_go_s dd_M_text_88, mm_go_s dd_M_text_91, mm_go_s dd_M_text_92, mm_go_s dd_M_text_93, mm_go_s dd_M_text_94, mm_go_s dd_M_text_95, mm_go_s dd_M_text_98, mm_go_s dd_M_text_101, mm_go_s dd_M_text_104, mm_go_s dd_M_text_105, mm_go_s dd_M_text_106, mm_go_s dd_M_text_107, mm_go_s dd_M_text_108, mm_go_s dd_M_text_109, mm_go_s dd_M_text_110, mm_go_s dd_M_text_113, mm_go_s dd_M_text_114, mm_go_s dd_M_text_115, mm_go_s dd_M_text_116, mm_go_s dd_M_text_119, mm_go_s dd_M_text_122, mm_go_s dd_M_text_123, mm_go_s dd_M_text_126, mm_go_s dd_M_text_129, mm_go_s dd_M_text_130, mm_go_s dd_M_text_131, mm_go_s dd_M_text_132, mm_go_s dd_M_text_133, mm_go_s dd_M_text_134, mm_go_s dd_M_text_135, mm_go_s dd_M_text_136, mm_go_s dd_M_text_139, kt_0, kt_1, kz, kb8_m6, kt_m6, kb8_m5, kt_m5, kb8_10, kt_10, kb16_400, kt_400, kb16_1294, kt_1294, kb16_1300, kt_1300, kb16_1310, kt_1310, kb16_5310, kt_5310, gf13_13, pf13_122, gf13_125, gf13_37, gf13_40, rr_lt hA2, rr_s77 hA2, rr_s78 hA2, rr_s79 hA2, rr_s80 hA2, rr_s81 hA2, rr_s82 hA2, rr_s83 hA2, rr_s84 hA2, rr_s85 hA2, rr_s86 hA2, rr_s87 hA2, rr_s88 hA2, rr_s89 hA2, rr_s90 hA2, rr_s91 hA2, rr_s92 hA2, rr_s93 hA2, rr_s94 hA2, rr_s95 hA2, rr_s96 hA2, rr_s97 hA2, rr_s98 hA2, rr_s99 hA2, rr_s100 hA2, rr_r1 hA2, rr_r2 hA2, rr_r3 hA2, rr_r4 hA2, rr_r5 hA2, rr_r6 hA2, rr_r9 hA2, rr_r10 hA2, rr_r11 hA2, rr_r19 hA2, rr_r24 hA2, rr_r25 hA2, rr_r26 hA2, rr_r27 hA2, rr_r28 hA2, rr_r30 hA2, rr_r31 hA2, rr_r35 hA2, rr_r36 hA2, rr_r37 hA2, rr_r38 hA2, rr_r39 hA2, rr_r40 hA2, hN2]
    have m1 : (Int32.ofInt 400 * tt).toInt = 400 * T := by rw [ck_mulI (by rw [kt_400, htt]; omega) (by rw [kt_400, htt]; omega), kt_400, htt]
    have m2 : (Int32.ofInt 1310 + Int32.ofInt 400 * tt).toInt = 1310 + 400 * T := by rw [ck_addI (by rw [kt_1310, m1]; omega) (by rw [kt_1310, m1]; omega), kt_1310, m1]
    have m3 : (Int32.ofInt 5310 + Int32.ofInt 400 * tt).toInt = 5310 + 400 * T := by rw [ck_addI (by rw [kt_5310, m1]; omega) (by rw [kt_5310, m1]; omega), kt_5310, m1]
    refine ⟨fun _ => K i h2 f2 hs (fun j hj => hc j (by omega)), fun c => ?_⟩
    have m4 : (Int32.ofInt 1310 + Int32.ofInt 400 * tt + i).toInt = ((1310 + 400 * T + k : Nat) : Int) := by rw [ck_addI (by rw [m2]; omega) (by rw [m2]; omega), m2, hi]; omega
    have m5 : (Int32.ofInt 5310 + Int32.ofInt 400 * tt + i).toInt = ((5310 + 400 * T + k : Nat) : Int) := by rw [ck_addI (by rw [m3]; omega) (by rw [m3]; omega), m3, hi]; omega
    have m6 : (i + Int32.ofInt 1).toInt = ((k + 1 : Nat) : Int) := by rw [ck_addI (by rw [kt_1]; omega) (by rw [kt_1]; omega), kt_1, hi]; omega
    rw [m4, m5, hi]
    simp only [Int.toNat_natCast]
    refine ⟨by omega, by omega, by omega, by omega, by omega, by omega, by omega, by omega, ?_⟩
    refine ih (k + 1) _ _ (by omega) (by omega) m6 ((f2.si _ _ _ ⟨rfl, Or.inr (Or.inl (by omega))⟩).si _ _ _ ⟨rfl, Or.inr (Or.inr (by omega))⟩) ?_ (fun j hj => ?_)
    · simp only [mm_si_i, true_and]
      rw [if_neg (by omega), if_neg (by omega)]
      exact hs
    · simp only [mm_si_i, true_and]
      rw [if_neg (by omega)]
      by_cases e : j = k
      · rw [if_pos (by omega), e]
        exact f2.2.2.2 84 k (by unfold rr_tlF; omega)
      · rw [if_neg (by omega)]
        exact hc j (by omega)
theorem hh_text {Rt : Option mm_v → mm_h → Nat × Nat → Prop} (h : mm_h) (hA : rr_A h) (h85 : (h.2.2.1 81 85).toInt = 32) (ht0 : 0 ≤ (h.2.2.1 77 7).toInt) (ht1 : (h.2.2.1 77 7).toInt ≤ 400) (hT0 : 0 ≤ (h.2.2.1 78 1294).toInt) (hT1 : (h.2.2.1 78 1294).toInt ≤ 10) (K : ∀ r h', rr_tx h r h' → Rt r h' (0, 0)) :
    mm_W vwCl ck_dt ck_mts ck_T13 [hc_refuses, hc_good, hc_reads] false 3 0 0 (62) (1960) prog_14_method_40_code (some .int) Rt (0, [(0, mm_A (some 77))], [], h, 0, 0) := by
  refine mm_go_ok [21, 26] (N := fun z => mm_W vwCl ck_dt ck_mts ck_T13 [hc_refuses, hc_good, hc_reads] false 3 0 0 (62) (1960) prog_14_method_40_code (some .int) Rt z) (fun z h => h) 15 _ ?_
  simp only [mm_nn2, mm_one, mm_grp, mm_a, mm_b, mm_c, mm_bop, mm_d, mm_e, mm_ld, mm_sw, mm_k, mm_rt, mm_get, mm_put, mm_put2, mm_two, mm_rf, ck_tg, ck_chold, ck_cneg, List.elem_cons, List.elem_nil, List.find?_cons, List.filter_cons, List.filter_nil, Option.map_some, Nat.reduceBEq, Nat.reduceAdd, Bool.or_false, Bool.false_or, Bool.or_true, Bool.true_or, beq_self_eq_true, Bool.not_false, Bool.not_true, Bool.and_true, Bool.true_and, Bool.and_false, Bool.false_and, Bool.false_eq_true, ↓reduceIte, Fin.isValue, mm_f0, mm_f1, mm_f2, mm_f3, Nat.zero_mod, Nat.reduceMod, Option.some.injEq, Sum.inl.injEq, Sum.inr.injEq, exists_eq_left', List.find?_nil, List.length_cons, List.length_nil, true_and, and_true, Nat.reduceLT, Nat.reduceEqDiff, Int.reduceLE, Int.reduceAdd, Int.reduceToNat, Int.cast_ofNat_Int, Int.reduceNeg, Nat.reduceBeqDiff, Nat.zero_add, Prod.mk.injEq, mm_si_n, mm_si_s, mm_si_r, Option.toList_some, Option.toList_none, List.cons_append, List.nil_append, exists_eq', exists_eq, reduceCtorEq, false_and, and_false, false_or, or_false, exists_false, eq_self, and_self, mm_si_i, Int.reduceLT, mm_go_s dd_M_text_0, mm_go_s dd_M_text_1, mm_go_s dd_M_text_4, mm_go_s dd_M_text_7, mm_go_s dd_M_text_8, mm_go_s dd_M_text_10, mm_go_s dd_M_text_13, mm_go_s dd_M_text_14, mm_go_s dd_M_text_15, mm_go_s dd_M_text_18, mm_go_s dd_M_text_19, mm_go_s dd_M_text_21, mm_go_s dd_M_text_24, mm_go_s dd_M_text_25, mm_go_s dd_M_text_26, mm_go_s dd_M_text_29, mm_go_s dd_M_text_32, mm_go_s dd_M_text_33, mm_go_s dd_M_text_35, mm_go_s dd_M_text_38, mm_go_s dd_M_text_39, mm_go_s dd_M_text_40, mm_go_s dd_M_text_43, mm_go_s dd_M_text_46, mm_go_s dd_M_text_47, mm_go_s dd_M_text_48, mm_go_s dd_M_text_49, mm_go_s dd_M_text_52, mm_go_s dd_M_text_55, mm_go_s dd_M_text_56, mm_go_s dd_M_text_57, mm_go_s dd_M_text_58, mm_go_s dd_M_text_61, mm_go_s dd_M_text_62, mm_go_s dd_M_text_63, mm_go_s dd_M_text_64, mm_go_s dd_M_text_65, mm_go_s dd_M_text_66, mm_go_s dd_M_text_69, mm_go_s dd_M_text_72, mm_go_s dd_M_text_73, mm_go_s dd_M_text_76, mm_go_s dd_M_text_79, mm_go_s dd_M_text_82, mm_go_s dd_M_text_83, mm_go_s dd_M_text_84, mm_go_s dd_M_text_85, mm_go_s dd_M_text_86, mm_go_s dd_M_text_87, mm_go_s dd_M_text_88, mm_go_s dd_M_text_91, mm_go_s dd_M_text_92, mm_go_s dd_M_text_93, mm_go_s dd_M_text_94, mm_go_s dd_M_text_95, mm_go_s dd_M_text_98, mm_go_s dd_M_text_101, mm_go_s dd_M_text_104, mm_go_s dd_M_text_105, mm_go_s dd_M_text_106, mm_go_s dd_M_text_107, mm_go_s dd_M_text_108, mm_go_s dd_M_text_109, mm_go_s dd_M_text_110, mm_go_s dd_M_text_113, mm_go_s dd_M_text_114, mm_go_s dd_M_text_115, mm_go_s dd_M_text_116, mm_go_s dd_M_text_119, mm_go_s dd_M_text_122, mm_go_s dd_M_text_123, mm_go_s dd_M_text_126, mm_go_s dd_M_text_129, mm_go_s dd_M_text_130, mm_go_s dd_M_text_131, mm_go_s dd_M_text_132, mm_go_s dd_M_text_133, mm_go_s dd_M_text_134, mm_go_s dd_M_text_135, mm_go_s dd_M_text_136, mm_go_s dd_M_text_139, kt_0, kt_1, kz, kb8_m6, kt_m6, kb8_m5, kt_m5, kb8_10, kt_10, kb16_400, kt_400, kb16_1294, kt_1294, kb16_1300, kt_1300, kb16_1310, kt_1310, kb16_5310, kt_5310, gf13_13, pf13_122, gf13_125, gf13_37, gf13_40, rr_lt hA, rr_s77 hA, rr_s78 hA, rr_s79 hA, rr_s80 hA, rr_s81 hA, rr_s82 hA, rr_s83 hA, rr_s84 hA, rr_s85 hA, rr_s86 hA, rr_s87 hA, rr_s88 hA, rr_s89 hA, rr_s90 hA, rr_s91 hA, rr_s92 hA, rr_s93 hA, rr_s94 hA, rr_s95 hA, rr_s96 hA, rr_s97 hA, rr_s98 hA, rr_s99 hA, rr_s100 hA, rr_r1 hA, rr_r2 hA, rr_r3 hA, rr_r4 hA, rr_r5 hA, rr_r6 hA, rr_r9 hA, rr_r10 hA, rr_r11 hA, rr_r19 hA, rr_r24 hA, rr_r25 hA, rr_r26 hA, rr_r27 hA, rr_r28 hA, rr_r30 hA, rr_r31 hA, rr_r35 hA, rr_r36 hA, rr_r37 hA, rr_r38 hA, rr_r39 hA, rr_r40 hA]
  refine ⟨fun c => ?_, fun c => ?_⟩
  rotate_left
  · refine hh_text_ref 21 _ _ _ hA dd_M_text_21 dd_M_text_24 (K _ _ ⟨(rr_fr.rf.si _ _ _ (Or.inl (Or.inl ⟨rfl, by decide⟩))).si _ _ _ (Or.inr (Or.inl ⟨rfl, rfl⟩)), ⟨_, rfl⟩, ?_, ?_, Or.inl ⟨?_, ?_⟩, fun q => ?_⟩)
    · simp only [mm_si_i, Nat.reduceEqDiff, and_false, and_self, ↓reduceIte]; decide
    · simp only [mm_si_i, Nat.reduceEqDiff, false_and, ↓reduceIte]; exact ⟨hT0, hT1⟩
    · simp only [mm_si_i, Nat.reduceEqDiff, and_false, ↓reduceIte]
    · simp only [mm_si_i, Nat.reduceEqDiff, and_false, ↓reduceIte]
    · have e : rr_kt (mm_si (mm_si h 77 7 (Int32.ofInt 0)) 77 0 (Int32.ofInt (-5))) = rr_kt h := by
        funext k
        unfold rr_kt
        simp only [mm_si_i, Nat.reduceEqDiff, false_and, ↓reduceIte]
      rw [e]
      exact q
  refine rr_call (195, 0, 190) ck_m190 hc_reads [] [] hA dd_M_text_26 rfl ml13_195 (by decide) rfl rfl rfl (List.Mem.tail _ (List.Mem.tail _ (List.Mem.head _))) rfl rfl (Nat.le_of_ble_eq_true rfl) ⟨by simp only [hc_reads]; omega, by simp only [hc_reads, ck_m190]; omega⟩ rfl ⟨hA, h85, ⟨ht0, ht1⟩, rfl⟩ ?_
  rintro r h1 ⟨f1, u7, n, t, hn, htn, hN, hTk, ⟨rfl, hg⟩ | rfl⟩
  rotate_left
  · have hA1 := f1.A hA
    refine mm_go_ok [35] (N := fun z => mm_W vwCl ck_dt ck_mts ck_T13 [hc_refuses, hc_good, hc_reads] false 3 0 0 (62) (1960) prog_14_method_40_code (some .int) Rt z) (fun z h => h) 6 _ ?_
    simp only [mm_nn2, mm_one, mm_grp, mm_a, mm_b, mm_c, mm_bop, mm_d, mm_e, mm_ld, mm_sw, mm_k, mm_rt, mm_get, mm_put, mm_put2, mm_two, mm_rf, ck_tg, ck_chold, ck_cneg, List.elem_cons, List.elem_nil, List.find?_cons, List.filter_cons, List.filter_nil, Option.map_some, Nat.reduceBEq, Nat.reduceAdd, Bool.or_false, Bool.false_or, Bool.or_true, Bool.true_or, beq_self_eq_true, Bool.not_false, Bool.not_true, Bool.and_true, Bool.true_and, Bool.and_false, Bool.false_and, Bool.false_eq_true, ↓reduceIte, Fin.isValue, mm_f0, mm_f1, mm_f2, mm_f3, Nat.zero_mod, Nat.reduceMod, Option.some.injEq, Sum.inl.injEq, Sum.inr.injEq, exists_eq_left', List.find?_nil, List.length_cons, List.length_nil, true_and, and_true, Nat.reduceLT, Nat.reduceEqDiff, Int.reduceLE, Int.reduceAdd, Int.reduceToNat, Int.cast_ofNat_Int, Int.reduceNeg, Nat.reduceBeqDiff, Nat.zero_add, Prod.mk.injEq, mm_si_n, mm_si_s, mm_si_r, Option.toList_some, Option.toList_none, List.cons_append, List.nil_append, exists_eq', exists_eq, reduceCtorEq, false_and, and_false, false_or, or_false, exists_false, eq_self, and_self, mm_si_i, Int.reduceLT, mm_go_s dd_M_text_0, mm_go_s dd_M_text_1, mm_go_s dd_M_text_4, mm_go_s dd_M_text_7, mm_go_s dd_M_text_8, mm_go_s dd_M_text_10, mm_go_s dd_M_text_13, mm_go_s dd_M_text_14, mm_go_s dd_M_text_15, mm_go_s dd_M_text_18, mm_go_s dd_M_text_19, mm_go_s dd_M_text_21, mm_go_s dd_M_text_24, mm_go_s dd_M_text_25, mm_go_s dd_M_text_26, mm_go_s dd_M_text_29, mm_go_s dd_M_text_32, mm_go_s dd_M_text_33, mm_go_s dd_M_text_35, mm_go_s dd_M_text_38, mm_go_s dd_M_text_39, mm_go_s dd_M_text_40, mm_go_s dd_M_text_43, mm_go_s dd_M_text_46, mm_go_s dd_M_text_47, mm_go_s dd_M_text_48, mm_go_s dd_M_text_49, mm_go_s dd_M_text_52, mm_go_s dd_M_text_55, mm_go_s dd_M_text_56, mm_go_s dd_M_text_57, mm_go_s dd_M_text_58, mm_go_s dd_M_text_61, mm_go_s dd_M_text_62, mm_go_s dd_M_text_63, mm_go_s dd_M_text_64, mm_go_s dd_M_text_65, mm_go_s dd_M_text_66, mm_go_s dd_M_text_69, mm_go_s dd_M_text_72, mm_go_s dd_M_text_73, mm_go_s dd_M_text_76, mm_go_s dd_M_text_79, mm_go_s dd_M_text_82, mm_go_s dd_M_text_83, mm_go_s dd_M_text_84, mm_go_s dd_M_text_85, mm_go_s dd_M_text_86, mm_go_s dd_M_text_87, mm_go_s dd_M_text_88, mm_go_s dd_M_text_91, mm_go_s dd_M_text_92, mm_go_s dd_M_text_93, mm_go_s dd_M_text_94, mm_go_s dd_M_text_95, mm_go_s dd_M_text_98, mm_go_s dd_M_text_101, mm_go_s dd_M_text_104, mm_go_s dd_M_text_105, mm_go_s dd_M_text_106, mm_go_s dd_M_text_107, mm_go_s dd_M_text_108, mm_go_s dd_M_text_109, mm_go_s dd_M_text_110, mm_go_s dd_M_text_113, mm_go_s dd_M_text_114, mm_go_s dd_M_text_115, mm_go_s dd_M_text_116, mm_go_s dd_M_text_119, mm_go_s dd_M_text_122, mm_go_s dd_M_text_123, mm_go_s dd_M_text_126, mm_go_s dd_M_text_129, mm_go_s dd_M_text_130, mm_go_s dd_M_text_131, mm_go_s dd_M_text_132, mm_go_s dd_M_text_133, mm_go_s dd_M_text_134, mm_go_s dd_M_text_135, mm_go_s dd_M_text_136, mm_go_s dd_M_text_139, kt_0, kt_1, kz, kb8_m6, kt_m6, kb8_m5, kt_m5, kb8_10, kt_10, kb16_400, kt_400, kb16_1294, kt_1294, kb16_1300, kt_1300, kb16_1310, kt_1310, kb16_5310, kt_5310, gf13_13, pf13_122, gf13_125, gf13_37, gf13_40]
    refine ⟨fun c => absurd rfl c, fun _ => ?_⟩
    refine hh_text_ref 35 _ _ _ hA1 dd_M_text_35 dd_M_text_38 (K _ _ ⟨(f1.mono (fun c p q => Or.inl q)).si _ _ _ (Or.inr (Or.inl ⟨rfl, rfl⟩)), ⟨_, rfl⟩, ?_, ?_, Or.inr ⟨?_, ?_⟩, fun q => ?_⟩)
    · simp only [mm_si_i, Nat.reduceEqDiff, and_false, ↓reduceIte]; exact u7
    · simp only [mm_si_i, Nat.reduceEqDiff, false_and, ↓reduceIte]
      rw [f1.2.2.2 78 1294 (by unfold rr_rdF; omega)]
      exact ⟨hT0, hT1⟩
    · simp only [mm_si_i, Nat.reduceEqDiff, and_false, ↓reduceIte]; omega
    · simp only [mm_si_i, Nat.reduceEqDiff, and_false, ↓reduceIte]; omega
    · have e : rr_kt (mm_si h1 77 0 (Int32.ofInt (-6))) = rr_kt h := by
        funext k
        unfold rr_kt
        simp only [mm_si_i, Nat.reduceEqDiff, false_and, ↓reduceIte]
        exact f1.2.2.2 78 _ (by unfold rr_rdF; omega)
      rw [e]
      exact q
  have hA1 := f1.A hA
  have e94 : h1.2.2.1 78 1294 = h.2.2.1 78 1294 := f1.2.2.2 78 1294 (by unfold rr_rdF; omega)
  obtain ⟨T, hT⟩ : ∃ T : Nat, (h.2.2.1 78 1294).toInt = T := ⟨(h.2.2.1 78 1294).toInt.toNat, by omega⟩
  refine mm_go_ok [64] (N := fun z => mm_W vwCl ck_dt ck_mts ck_T13 [hc_refuses, hc_good, hc_reads] false 3 0 0 (62) (1960) prog_14_method_40_code (some .int) Rt z) (fun z h => h) 40 _ ?_
  simp only [mm_nn2, mm_one, mm_grp, mm_a, mm_b, mm_c, mm_bop, mm_d, mm_e, mm_ld, mm_sw, mm_k, mm_rt, mm_get, mm_put, mm_put2, mm_two, mm_rf, ck_tg, ck_chold, ck_cneg, List.elem_cons, List.elem_nil, List.find?_cons, List.filter_cons, List.filter_nil, Option.map_some, Nat.reduceBEq, Nat.reduceAdd, Bool.or_false, Bool.false_or, Bool.or_true, Bool.true_or, beq_self_eq_true, Bool.not_false, Bool.not_true, Bool.and_true, Bool.true_and, Bool.and_false, Bool.false_and, Bool.false_eq_true, ↓reduceIte, Fin.isValue, mm_f0, mm_f1, mm_f2, mm_f3, Nat.zero_mod, Nat.reduceMod, Option.some.injEq, Sum.inl.injEq, Sum.inr.injEq, exists_eq_left', List.find?_nil, List.length_cons, List.length_nil, true_and, and_true, Nat.reduceLT, Nat.reduceEqDiff, Int.reduceLE, Int.reduceAdd, Int.reduceToNat, Int.cast_ofNat_Int, Int.reduceNeg, Nat.reduceBeqDiff, Nat.zero_add, Prod.mk.injEq, mm_si_n, mm_si_s, mm_si_r, Option.toList_some, Option.toList_none, List.cons_append, List.nil_append, exists_eq', exists_eq, reduceCtorEq, false_and, and_false, false_or, or_false, exists_false, eq_self, and_self, mm_si_i, Int.reduceLT, mm_go_s dd_M_text_0, mm_go_s dd_M_text_1, mm_go_s dd_M_text_4, mm_go_s dd_M_text_7, mm_go_s dd_M_text_8, mm_go_s dd_M_text_10, mm_go_s dd_M_text_13, mm_go_s dd_M_text_14, mm_go_s dd_M_text_15, mm_go_s dd_M_text_18, mm_go_s dd_M_text_19, mm_go_s dd_M_text_21, mm_go_s dd_M_text_24, mm_go_s dd_M_text_25, mm_go_s dd_M_text_26, mm_go_s dd_M_text_29, mm_go_s dd_M_text_32, mm_go_s dd_M_text_33, mm_go_s dd_M_text_35, mm_go_s dd_M_text_38, mm_go_s dd_M_text_39, mm_go_s dd_M_text_40, mm_go_s dd_M_text_43, mm_go_s dd_M_text_46, mm_go_s dd_M_text_47, mm_go_s dd_M_text_48, mm_go_s dd_M_text_49, mm_go_s dd_M_text_52, mm_go_s dd_M_text_55, mm_go_s dd_M_text_56, mm_go_s dd_M_text_57, mm_go_s dd_M_text_58, mm_go_s dd_M_text_61, mm_go_s dd_M_text_62, mm_go_s dd_M_text_63, mm_go_s dd_M_text_64, mm_go_s dd_M_text_65, mm_go_s dd_M_text_66, mm_go_s dd_M_text_69, mm_go_s dd_M_text_72, mm_go_s dd_M_text_73, mm_go_s dd_M_text_76, mm_go_s dd_M_text_79, mm_go_s dd_M_text_82, mm_go_s dd_M_text_83, mm_go_s dd_M_text_84, mm_go_s dd_M_text_85, mm_go_s dd_M_text_86, mm_go_s dd_M_text_87, mm_go_s dd_M_text_88, mm_go_s dd_M_text_91, mm_go_s dd_M_text_92, mm_go_s dd_M_text_93, mm_go_s dd_M_text_94, mm_go_s dd_M_text_95, mm_go_s dd_M_text_98, mm_go_s dd_M_text_101, mm_go_s dd_M_text_104, mm_go_s dd_M_text_105, mm_go_s dd_M_text_106, mm_go_s dd_M_text_107, mm_go_s dd_M_text_108, mm_go_s dd_M_text_109, mm_go_s dd_M_text_110, mm_go_s dd_M_text_113, mm_go_s dd_M_text_114, mm_go_s dd_M_text_115, mm_go_s dd_M_text_116, mm_go_s dd_M_text_119, mm_go_s dd_M_text_122, mm_go_s dd_M_text_123, mm_go_s dd_M_text_126, mm_go_s dd_M_text_129, mm_go_s dd_M_text_130, mm_go_s dd_M_text_131, mm_go_s dd_M_text_132, mm_go_s dd_M_text_133, mm_go_s dd_M_text_134, mm_go_s dd_M_text_135, mm_go_s dd_M_text_136, mm_go_s dd_M_text_139, kt_0, kt_1, kz, kb8_m6, kt_m6, kb8_m5, kt_m5, kb8_10, kt_10, kb16_400, kt_400, kb16_1294, kt_1294, kb16_1300, kt_1300, kb16_1310, kt_1310, kb16_5310, kt_5310, gf13_13, pf13_122, gf13_125, gf13_37, gf13_40, rr_lt hA1, rr_s77 hA1, rr_s78 hA1, rr_s79 hA1, rr_s80 hA1, rr_s81 hA1, rr_s82 hA1, rr_s83 hA1, rr_s84 hA1, rr_s85 hA1, rr_s86 hA1, rr_s87 hA1, rr_s88 hA1, rr_s89 hA1, rr_s90 hA1, rr_s91 hA1, rr_s92 hA1, rr_s93 hA1, rr_s94 hA1, rr_s95 hA1, rr_s96 hA1, rr_s97 hA1, rr_s98 hA1, rr_s99 hA1, rr_s100 hA1, rr_r1 hA1, rr_r2 hA1, rr_r3 hA1, rr_r4 hA1, rr_r5 hA1, rr_r6 hA1, rr_r9 hA1, rr_r10 hA1, rr_r11 hA1, rr_r19 hA1, rr_r24 hA1, rr_r25 hA1, rr_r26 hA1, rr_r27 hA1, rr_r28 hA1, rr_r30 hA1, rr_r31 hA1, rr_r35 hA1, rr_r36 hA1, rr_r37 hA1, rr_r38 hA1, rr_r39 hA1, rr_r40 hA1, e94]
  refine ⟨fun _ => ?_, fun c => absurd c (by decide)⟩
  have hT9 : T ≤ 9 := by omega
  have m1 : (Int32.ofInt 1300 + h.2.2.1 78 1294).toInt = ((1300 + T : Nat) : Int) := by rw [ck_addI (by rw [kt_1300, hT]; omega) (by rw [kt_1300, hT]; omega), kt_1300, hT]; omega
  rw [m1]
  simp only [Int.toNat_natCast]
  refine ⟨by omega, by omega, ?_⟩
  generalize htt : h.2.2.1 78 1294 = tt at hT e94 ⊢
  have f2 : rr_fr (rr_tlF T) h1 (mm_si h1 78 (1300 + T) (h1.2.2.1 77 12)) := rr_fr.rf.si _ _ _ ⟨rfl, Or.inl rfl⟩
  refine mm_W.sub (hh_text_l T n hT9 hn tt hT h1 hA1 hN (h1.2.2.1 77 12) (fun i h3 f3 s3 c3 => ?_) n 0 (Int32.ofInt 0) _ (by omega) (Nat.zero_le _) (by decide) f2 (by simp only [mm_si_i, and_self, ↓reduceIte]) (fun j hj => absurd hj (Nat.not_lt_zero _))) (mm_sub_of rfl)
  have hA3 := f3.A hA1
  have g94 : h3.2.2.1 78 1294 = tt := by rw [f3.2.2.2 78 1294 (by unfold rr_tlF; omega)]; exact e94
  refine mm_go_ok [136] (N := fun z => mm_W vwCl ck_dt ck_mts ck_T13 [hc_refuses, hc_good, hc_reads] false 3 0 0 (62) (1960) prog_14_method_40_code (some .int) Rt z) (fun z h => h) 20 _ ?_
  simp only [mm_nn2, mm_one, mm_grp, mm_a, mm_b, mm_c, mm_bop, mm_d, mm_e, mm_ld, mm_sw, mm_k, mm_rt, mm_get, mm_put, mm_put2, mm_two, mm_rf, ck_tg, ck_chold, ck_cneg, List.elem_cons, List.elem_nil, List.find?_cons, List.filter_cons, List.filter_nil, Option.map_some, Nat.reduceBEq, Nat.reduceAdd, Bool.or_false, Bool.false_or, Bool.or_true, Bool.true_or, beq_self_eq_true, Bool.not_false, Bool.not_true, Bool.and_true, Bool.true_and, Bool.and_false, Bool.false_and, Bool.false_eq_true, ↓reduceIte, Fin.isValue, mm_f0, mm_f1, mm_f2, mm_f3, Nat.zero_mod, Nat.reduceMod, Option.some.injEq, Sum.inl.injEq, Sum.inr.injEq, exists_eq_left', List.find?_nil, List.length_cons, List.length_nil, true_and, and_true, Nat.reduceLT, Nat.reduceEqDiff, Int.reduceLE, Int.reduceAdd, Int.reduceToNat, Int.cast_ofNat_Int, Int.reduceNeg, Nat.reduceBeqDiff, Nat.zero_add, Prod.mk.injEq, mm_si_n, mm_si_s, mm_si_r, Option.toList_some, Option.toList_none, List.cons_append, List.nil_append, exists_eq', exists_eq, reduceCtorEq, false_and, and_false, false_or, or_false, exists_false, eq_self, and_self, mm_si_i, Int.reduceLT, mm_go_s dd_M_text_0, mm_go_s dd_M_text_1, mm_go_s dd_M_text_4, mm_go_s dd_M_text_7, mm_go_s dd_M_text_8, mm_go_s dd_M_text_10, mm_go_s dd_M_text_13, mm_go_s dd_M_text_14, mm_go_s dd_M_text_15, mm_go_s dd_M_text_18, mm_go_s dd_M_text_19, mm_go_s dd_M_text_21, mm_go_s dd_M_text_24, mm_go_s dd_M_text_25, mm_go_s dd_M_text_26, mm_go_s dd_M_text_29, mm_go_s dd_M_text_32, mm_go_s dd_M_text_33, mm_go_s dd_M_text_35, mm_go_s dd_M_text_38, mm_go_s dd_M_text_39, mm_go_s dd_M_text_40, mm_go_s dd_M_text_43, mm_go_s dd_M_text_46, mm_go_s dd_M_text_47, mm_go_s dd_M_text_48, mm_go_s dd_M_text_49, mm_go_s dd_M_text_52, mm_go_s dd_M_text_55, mm_go_s dd_M_text_56, mm_go_s dd_M_text_57, mm_go_s dd_M_text_58, mm_go_s dd_M_text_61, mm_go_s dd_M_text_62, mm_go_s dd_M_text_63, mm_go_s dd_M_text_64, mm_go_s dd_M_text_65, mm_go_s dd_M_text_66, mm_go_s dd_M_text_69, mm_go_s dd_M_text_72, mm_go_s dd_M_text_73, mm_go_s dd_M_text_76, mm_go_s dd_M_text_79, mm_go_s dd_M_text_82, mm_go_s dd_M_text_83, mm_go_s dd_M_text_84, mm_go_s dd_M_text_85, mm_go_s dd_M_text_86, mm_go_s dd_M_text_87, mm_go_s dd_M_text_88, mm_go_s dd_M_text_91, mm_go_s dd_M_text_92, mm_go_s dd_M_text_93, mm_go_s dd_M_text_94, mm_go_s dd_M_text_95, mm_go_s dd_M_text_98, mm_go_s dd_M_text_101, mm_go_s dd_M_text_104, mm_go_s dd_M_text_105, mm_go_s dd_M_text_106, mm_go_s dd_M_text_107, mm_go_s dd_M_text_108, mm_go_s dd_M_text_109, mm_go_s dd_M_text_110, mm_go_s dd_M_text_113, mm_go_s dd_M_text_114, mm_go_s dd_M_text_115, mm_go_s dd_M_text_116, mm_go_s dd_M_text_119, mm_go_s dd_M_text_122, mm_go_s dd_M_text_123, mm_go_s dd_M_text_126, mm_go_s dd_M_text_129, mm_go_s dd_M_text_130, mm_go_s dd_M_text_131, mm_go_s dd_M_text_132, mm_go_s dd_M_text_133, mm_go_s dd_M_text_134, mm_go_s dd_M_text_135, mm_go_s dd_M_text_136, mm_go_s dd_M_text_139, kt_0, kt_1, kz, kb8_m6, kt_m6, kb8_m5, kt_m5, kb8_10, kt_10, kb16_400, kt_400, kb16_1294, kt_1294, kb16_1300, kt_1300, kb16_1310, kt_1310, kb16_5310, kt_5310, gf13_13, pf13_122, gf13_125, gf13_37, gf13_40, rr_lt hA3, rr_s77 hA3, rr_s78 hA3, rr_s79 hA3, rr_s80 hA3, rr_s81 hA3, rr_s82 hA3, rr_s83 hA3, rr_s84 hA3, rr_s85 hA3, rr_s86 hA3, rr_s87 hA3, rr_s88 hA3, rr_s89 hA3, rr_s90 hA3, rr_s91 hA3, rr_s92 hA3, rr_s93 hA3, rr_s94 hA3, rr_s95 hA3, rr_s96 hA3, rr_s97 hA3, rr_s98 hA3, rr_s99 hA3, rr_s100 hA3, rr_r1 hA3, rr_r2 hA3, rr_r3 hA3, rr_r4 hA3, rr_r5 hA3, rr_r6 hA3, rr_r9 hA3, rr_r10 hA3, rr_r11 hA3, rr_r19 hA3, rr_r24 hA3, rr_r25 hA3, rr_r26 hA3, rr_r27 hA3, rr_r28 hA3, rr_r30 hA3, rr_r31 hA3, rr_r35 hA3, rr_r36 hA3, rr_r37 hA3, rr_r38 hA3, rr_r39 hA3, rr_r40 hA3, g94]
  have m2 : (tt + Int32.ofInt 1).toInt = T + 1 := by rw [ck_addI (by rw [kt_1, hT]; omega) (by rw [kt_1, hT]; omega), kt_1, hT]
  obtain ⟨h4, hg4⟩ : ∃ h4, mm_si h3 78 1294 (tt + Int32.ofInt 1) = h4 := ⟨_, rfl⟩
  rw [hg4]
  have hA4 : rr_A h4 := by rw [← hg4]; exact hA3
  refine rr_call (100, 0, 176) ck_m176 hc_good [mm_I tt] [] hA4 dd_M_text_136 rfl ml13_100 (by decide) rfl rfl rfl (List.Mem.tail _ (List.Mem.head _)) rfl rfl (Nat.le_of_ble_eq_true rfl) ⟨by simp only [hc_good]; omega, by simp only [hc_good, ck_m176]; omega⟩ rfl ⟨hA4.1, _, rfl⟩ ?_
  rintro r h5 ⟨v, e, rfl, rfl⟩
  obtain rfl : tt = v := Sum.inl.inj (List.cons.inj (List.cons.inj e).2).1
  refine mm_go_ok [] (N := fun z => mm_W vwCl ck_dt ck_mts ck_T13 [hc_refuses, hc_good, hc_reads] false 3 0 0 (62) (1960) prog_14_method_40_code (some .int) Rt z) (fun z h => h) 3 _ ?_
  simp only [mm_nn2, mm_one, mm_grp, mm_a, mm_b, mm_c, mm_bop, mm_d, mm_e, mm_ld, mm_sw, mm_k, mm_rt, mm_get, mm_put, mm_put2, mm_two, mm_rf, ck_tg, ck_chold, ck_cneg, List.elem_cons, List.elem_nil, List.find?_cons, List.filter_cons, List.filter_nil, Option.map_some, Nat.reduceBEq, Nat.reduceAdd, Bool.or_false, Bool.false_or, Bool.or_true, Bool.true_or, beq_self_eq_true, Bool.not_false, Bool.not_true, Bool.and_true, Bool.true_and, Bool.and_false, Bool.false_and, Bool.false_eq_true, ↓reduceIte, Fin.isValue, mm_f0, mm_f1, mm_f2, mm_f3, Nat.zero_mod, Nat.reduceMod, Option.some.injEq, Sum.inl.injEq, Sum.inr.injEq, exists_eq_left', List.find?_nil, List.length_cons, List.length_nil, true_and, and_true, Nat.reduceLT, Nat.reduceEqDiff, Int.reduceLE, Int.reduceAdd, Int.reduceToNat, Int.cast_ofNat_Int, Int.reduceNeg, Nat.reduceBeqDiff, Nat.zero_add, Prod.mk.injEq, mm_si_n, mm_si_s, mm_si_r, Option.toList_some, Option.toList_none, List.cons_append, List.nil_append, exists_eq', exists_eq, reduceCtorEq, false_and, and_false, false_or, or_false, exists_false, eq_self, and_self, mm_si_i, Int.reduceLT, mm_go_s dd_M_text_0, mm_go_s dd_M_text_1, mm_go_s dd_M_text_4, mm_go_s dd_M_text_7, mm_go_s dd_M_text_8, mm_go_s dd_M_text_10, mm_go_s dd_M_text_13, mm_go_s dd_M_text_14, mm_go_s dd_M_text_15, mm_go_s dd_M_text_18, mm_go_s dd_M_text_19, mm_go_s dd_M_text_21, mm_go_s dd_M_text_24, mm_go_s dd_M_text_25, mm_go_s dd_M_text_26, mm_go_s dd_M_text_29, mm_go_s dd_M_text_32, mm_go_s dd_M_text_33, mm_go_s dd_M_text_35, mm_go_s dd_M_text_38, mm_go_s dd_M_text_39, mm_go_s dd_M_text_40, mm_go_s dd_M_text_43, mm_go_s dd_M_text_46, mm_go_s dd_M_text_47, mm_go_s dd_M_text_48, mm_go_s dd_M_text_49, mm_go_s dd_M_text_52, mm_go_s dd_M_text_55, mm_go_s dd_M_text_56, mm_go_s dd_M_text_57, mm_go_s dd_M_text_58, mm_go_s dd_M_text_61, mm_go_s dd_M_text_62, mm_go_s dd_M_text_63, mm_go_s dd_M_text_64, mm_go_s dd_M_text_65, mm_go_s dd_M_text_66, mm_go_s dd_M_text_69, mm_go_s dd_M_text_72, mm_go_s dd_M_text_73, mm_go_s dd_M_text_76, mm_go_s dd_M_text_79, mm_go_s dd_M_text_82, mm_go_s dd_M_text_83, mm_go_s dd_M_text_84, mm_go_s dd_M_text_85, mm_go_s dd_M_text_86, mm_go_s dd_M_text_87, mm_go_s dd_M_text_88, mm_go_s dd_M_text_91, mm_go_s dd_M_text_92, mm_go_s dd_M_text_93, mm_go_s dd_M_text_94, mm_go_s dd_M_text_95, mm_go_s dd_M_text_98, mm_go_s dd_M_text_101, mm_go_s dd_M_text_104, mm_go_s dd_M_text_105, mm_go_s dd_M_text_106, mm_go_s dd_M_text_107, mm_go_s dd_M_text_108, mm_go_s dd_M_text_109, mm_go_s dd_M_text_110, mm_go_s dd_M_text_113, mm_go_s dd_M_text_114, mm_go_s dd_M_text_115, mm_go_s dd_M_text_116, mm_go_s dd_M_text_119, mm_go_s dd_M_text_122, mm_go_s dd_M_text_123, mm_go_s dd_M_text_126, mm_go_s dd_M_text_129, mm_go_s dd_M_text_130, mm_go_s dd_M_text_131, mm_go_s dd_M_text_132, mm_go_s dd_M_text_133, mm_go_s dd_M_text_134, mm_go_s dd_M_text_135, mm_go_s dd_M_text_136, mm_go_s dd_M_text_139, kt_0, kt_1, kz, kb8_m6, kt_m6, kb8_m5, kt_m5, kb8_10, kt_10, kb16_400, kt_400, kb16_1294, kt_1294, kb16_1300, kt_1300, kb16_1310, kt_1310, kb16_5310, kt_5310, gf13_13, pf13_122, gf13_125, gf13_37, gf13_40]
  have f4 : rr_fr rr_txF h h4 := by
    rw [← hg4]
    refine (((f1.mono (fun c p q => Or.inl q)).tr (f3.mono (fun c p q => Or.inr (Or.inr ⟨q.1, Or.inr ?_⟩)))).si _ _ _ (Or.inr (Or.inr ⟨rfl, Or.inl rfl⟩)))
    have := q.2
    omega
  refine ⟨rfl, K _ _ ⟨f4.si _ _ _ (Or.inr (Or.inl ⟨rfl, rfl⟩)), ⟨_, rfl⟩, ?_, ?_, Or.inr ⟨?_, ?_⟩, fun q => ?_⟩⟩
  · rw [← hg4]
    simp only [mm_si_i, Nat.reduceEqDiff, and_false, false_and, ↓reduceIte]
    rw [f3.2.2.2 77 7 (by unfold rr_tlF; omega)]
    exact u7
  · rw [← hg4]
    simp only [mm_si_i, Nat.reduceEqDiff, and_false, false_and, and_self, ↓reduceIte]
    omega
  · rw [← hg4]
    simp only [mm_si_i, Nat.reduceEqDiff, and_false, false_and, ↓reduceIte]
    rw [f3.2.2.2 77 12 (by unfold rr_tlF; omega)]
    omega
  · rw [← hg4]
    simp only [mm_si_i, Nat.reduceEqDiff, and_false, false_and, ↓reduceIte]
    rw [f3.2.2.2 77 13 (by unfold rr_tlF; omega)]
    omega
  · have ek : ∀ k, k ≠ T → (k < 10 ∨ 10 ≤ k) → rr_kt (mm_si h4 77 0 0) k = h3.2.2.1 78 (1300 + k) := fun k _ _ => by
      unfold rr_kt
      rw [← hg4]
      simp only [mm_si_i, Nat.reduceEqDiff, and_false, false_and, true_and, ↓reduceIte]
      rw [if_neg (by omega)]
    have ek' : ∀ k, rr_kt (mm_si h4 77 0 0) k = h3.2.2.1 78 (1300 + k) := fun k => by
      unfold rr_kt
      rw [← hg4]
      simp only [mm_si_i, Nat.reduceEqDiff, and_false, false_and, true_and, ↓reduceIte]
      rw [if_neg (by omega)]
    have eo : ∀ p, ¬ rr_tlF T 78 p → h3.2.2.1 78 p = h.2.2.1 78 p := fun p hp => by
      rw [f3.2.2.2 78 p hp]
      exact f1.2.2.2 78 p (by unfold rr_rdF; omega)
    intro t' ht'
    by_cases c : t' = T
    · subst c
      have e0 : rr_kt (mm_si h4 77 0 0) t' = h1.2.2.1 77 12 := by rw [ek']; exact s3
      have ef : gk_f (rr_kt (mm_si h4 77 0 0)) t' = pj_f h1 n := by
        funext k
        unfold gk_f pj_f
        rw [e0, hN]
        simp only [Int.toNat_natCast]
        by_cases ck : k < n
        · rw [if_pos ck, if_pos ck, ek', show 1300 + (10 + 400 * t' + k) = 1310 + 400 * t' + k by omega, c3 k ck]
        · rw [if_neg ck, if_neg ck]
      unfold gk_1
      rw [e0, ef, hN]
      simp only [Int.toNat_natCast]
      exact ⟨by omega, by omega, Or.inr hg⟩
    · refine (q t' ht').on ?_ (fun k hk => ?_)
      · rw [ek', eo _ (by unfold rr_tlF; omega)]; rfl
      · rw [ek', eo _ (by unfold rr_tlF; omega)]; rfl
def hc_text : mm_C := (189, (62, 1960, 0, 0), (fun us h => rr_A h ∧ (h.2.2.1 81 85).toInt = 32 ∧ (0 ≤ (h.2.2.1 77 7).toInt ∧ (h.2.2.1 77 7).toInt ≤ 400) ∧ (0 ≤ (h.2.2.1 78 1294).toInt ∧ (h.2.2.1 78 1294).toInt ≤ 10) ∧ us = [mm_A (some 77)]), fun _ h r h' => rr_tx h r h')
theorem hk_text (l : Launch) (D : va_G) (st : Nat → Nat)   : hh_Met l D st (hc_text ) := by
  refine mm_sound (T := ck_T13) (cs := [hc_refuses, hc_good, hc_reads]) l ck_TSgood ck_okCl ck_okDt (M0 := ck_m189) rfl (by decide +kernel) ck_okT13 (List.forall_mem_cons.mpr ⟨hk_refuses l D st , (List.forall_mem_cons.mpr ⟨hk_good l D st , (List.forall_mem_cons.mpr ⟨hk_reads l D st , ck_nil⟩)⟩)⟩) ?_
  rintro us h - ⟨hA, h85, ⟨t0, t1⟩, ⟨t2, t3⟩, rfl⟩
  exact ⟨Nat.le_of_ble_eq_true rfl, hh_text h hA h85 t0 t1 t2 t3 (fun r h' a => ⟨Nat.le_of_eq a.1.1.symm, Nat.le_refl _, Nat.le_refl _, a⟩)⟩

